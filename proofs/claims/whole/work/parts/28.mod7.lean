/-! THE REFERENCE'S CALLS, fifth: people, what tells -/
theorem dW_m1 (hs : HS) : dW hs (-1) = dW hs (-4) := by
  funext s a
  unfold dW
  rw [if_neg (by omega), if_neg (by omega)]
theorem btw_m1 (hs : HS) : btw hs (-1) = btw hs (-4) ∧ blw hs (-1) = blw hs (-4) := by
  have h1 : mS hs (-1) = mS hs (-4) := by funext s; unfold mS; rw [dW_m1]
  have h2 : vS hs (-1) = vS hs (-4) := by funext s; unfold vS; rw [dW_m1]
  constructor
  · unfold btw pC pB; rw [h1]
  · unfold blw btw pC pB pV; rw [h1, h2]
section MOD7
variable {E : EV} {M : Nat} {I J : Nat → Nat → Int} {n : Nat} {tx : Nat → Int} {hs : HS} {C : CS} {kn : Nat} {K : Nat → CS}
theorem m_scale (wo : Int) (rwo : Ri wo) (hM : 87 ≤ M) (hH : MH I 0 hs) (hB : HB hs) : FnF E mdX12_scale 3 M Rf [vr E 71, vi wo] I J none I (wr (wr J 71 16 (btw hs wo : Int)) 71 17 (blw hs wo : Int)) := by
  have bS := hB.1
  have bA := hB.2.1
  have bN := hB.2.2.1
  have hok := btw_ok hB wo
  refine FnQ.of (by decide +kernel) (Nat.le_of_ble_eq_true rfl) ?_
  show GM E mdX12_scale 3 M Rf _ I J 0 [some (vr E 71), some (vi wo), none, none, none, none, none, none, none, none, none, none, none, none, none, none, none, none] []
  have outer : ∀ (r i : Nat) (a b c d e f g : Option Value), i + r = zS hs → GM E mdX12_scale 3 M Rf (QF none I (wr (wr J 71 16 (btw hs wo : Int)) 71 17 (blw hs wo : Int))) I J 19 [some (vr E 71), some (vi wo), some (vl (zN hs : Int)), none, some (vl (pC hs wo i : Int)), none, some (vl (pB hs wo i : Int)), none, some (vl (pV hs wo i : Int)), none, some (vi (i : Int)), a, b, c, d, e, f, g] [] := by
    intro r
    induction r with
    | zero =>
      intro i a b c d e f g hi
      have hi : i = zS hs := by omega
      subst hi
      refine G_iload (pc := 19) dX12_scale_19 rfl ?_
      refine G_aload_n (pc := 21) dX12_scale_21 rfl ?_
      refine G_getr (pc := 22) dX12_scale_22 fiX12_13 (by first | rfl | assumption) (by omega) (by first | rfl | assumption) ?_
      refine G_iconst (pc := 25) dX12_scale_25 ?_
      refine G_ialdv (pc := 26) dX12_scale_26 (by first | rfl | assumption) (by omega) (by omega) (by omega) (by omega) (hH.ns rfl) ?_
      refine G_icmp_ge (pc := 27) (tgt := 162) dX12_scale_27 (Ri.mk (by omega) (by omega)) (Ri.mk (by omega) (by omega)) (by decide) (fun h_27 => ?_) (fun h_27 => ?_)
      · refine G_aload_n (pc := 162) dX12_scale_162 rfl ?_
        refine G_lload_n (pc := 163) dX12_scale_163 rfl ?_
        refine G_lload (pc := 164) dX12_scale_164 rfl ?_
        refine G_lmul (pc := 166) dX12_scale_166 ?_
        refine G_lload (pc := 167) dX12_scale_167 rfl ?_
        refine G_lload (pc := 169) dX12_scale_169 rfl ?_
        refine G_lmul (pc := 171) dX12_scale_171 ?_
        refine G_lsub (pc := 172) dX12_scale_172 ?_
        refine G_st (st' := [vl (btw hs wo : Int), vr E 71]) (by unfold btw; rw [Int.ofNat_sub hok.1, Int.natCast_mul, Int.natCast_mul]) ?_
        refine G_putl (pc := 173) dX12_scale_173 fiX12_171 (by first | rfl | assumption) (by omega) ?_
        refine G_aload_n (pc := 176) dX12_scale_176 rfl ?_
        refine G_aload_n (pc := 177) dX12_scale_177 rfl ?_
        refine G_getlv (pc := 178) dX12_scale_178 fiX12_171 (by first | rfl | assumption) (by omega) ((show wr J 71 16 _ 71 16 = _ from wr_s)) ?_
        refine G_lload_n (pc := 181) dX12_scale_181 rfl ?_
        refine G_lload (pc := 182) dX12_scale_182 rfl ?_
        refine G_lmul (pc := 184) dX12_scale_184 ?_
        refine G_ladd (pc := 185) dX12_scale_185 ?_
        refine G_st (st' := [vl (blw hs wo : Int), vr E 71]) (by unfold blw; rw [Int.natCast_add, Int.natCast_mul]) ?_
        refine G_putl (pc := 186) dX12_scale_186 fiX12_175 (by first | rfl | assumption) (by omega) ?_
        refine G_vret (pc := 189) dX12_scale_189 rfl ?_
        exact ⟨rfl, rfl, rfl⟩
      · exact absurd h_27 (by omega)
    | succ r ih =>
      intro i a b c d e f g hi
      have inner : ∀ (q x : Nat) (g h : Option Value), x + q = zA hs → GM E mdX12_scale 3 M Rf (QF none I (wr (wr J 71 16 (btw hs wo : Int)) 71 17 (blw hs wo : Int))) I J 39 [some (vr E 71), some (vi wo), some (vl (zN hs : Int)), none, some (vl (pC hs wo i : Int)), none, some (vl (pB hs wo i : Int)), none, some (vl (pV hs wo i : Int)), none, some (vi (i : Int)), some (vl (sumN (dW hs wo i) x : Int)), none, some (vl (sumN (fun a => dW hs wo i a * (100 - dW hs wo i a)) x : Int)), none, some (vi (x : Int)), g, h] [] := by
        intro q
        induction q with
        | zero =>
          intro x g h hx
          have hx : x = zA hs := by omega
          subst hx
          refine G_iload (pc := 39) dX12_scale_39 rfl ?_
          refine G_aload_n (pc := 41) dX12_scale_41 rfl ?_
          refine G_getr (pc := 42) dX12_scale_42 fiX12_20 (by first | rfl | assumption) (by omega) (by first | rfl | assumption) ?_
          refine G_iconst (pc := 45) dX12_scale_45 ?_
          refine G_ialdv (pc := 46) dX12_scale_46 (by first | rfl | assumption) (by omega) (by omega) (by omega) (by omega) (hH.na rfl) ?_
          refine G_icmp_ge (pc := 47) (tgt := 99) dX12_scale_47 (Ri.mk (by omega) (by omega)) (Ri.mk (by omega) (by omega)) (by decide) (fun h_47 => ?_) (fun h_47 => ?_)
          · refine G_lload (pc := 99) dX12_scale_99 rfl ?_
            refine G_aload_n (pc := 101) dX12_scale_101 rfl ?_
            refine G_getr (pc := 102) dX12_scale_102 fiX12_17 (by first | rfl | assumption) (by omega) (by first | rfl | assumption) ?_
            refine G_iconst (pc := 105) dX12_scale_105 ?_
            refine G_iload (pc := 106) dX12_scale_106 rfl ?_
            refine G_imul (pc := 108) dX12_scale_108 ?_
            refine G_ialdv (pc := 109) dX12_scale_109 (by first | rfl | assumption) (by omega) (by omega) (by omega) (by omega) (hH.so i 0 (by omega) (by omega) (by omega)) ?_
            have b5 := hB.2.2.2.2.1 i (by omega)
            refine G_i2l (pc := 110) dX12_scale_110 (Ri.mk (by omega) (by omega)) ?_
            refine G_lload (pc := 111) dX12_scale_111 rfl ?_
            refine G_lmul (pc := 113) dX12_scale_113 ?_
            refine G_lload (pc := 114) dX12_scale_114 rfl ?_
            refine G_lmul (pc := 116) dX12_scale_116 ?_
            refine G_ladd (pc := 117) dX12_scale_117 ?_
            refine G_lstore (pc := 118) (lv' := [_, _, _, _, _, _, _, _, _, _, _, _, _, _, _, _, _, _]) dX12_scale_118 (by decide) rfl ?_
            refine G_lload (pc := 120) dX12_scale_120 rfl ?_
            refine G_aload_n (pc := 122) dX12_scale_122 rfl ?_
            refine G_getr (pc := 123) dX12_scale_123 fiX12_17 (by first | rfl | assumption) (by omega) (by first | rfl | assumption) ?_
            refine G_iconst (pc := 126) dX12_scale_126 ?_
            refine G_iload (pc := 127) dX12_scale_127 rfl ?_
            refine G_imul (pc := 129) dX12_scale_129 ?_
            refine G_ialdv (pc := 130) dX12_scale_130 (by first | rfl | assumption) (by omega) (by omega) (by omega) (by omega) (hH.so i 0 (by omega) (by omega) (by omega)) ?_
            refine G_i2l (pc := 131) dX12_scale_131 (Ri.mk (by omega) (by omega)) ?_
            refine G_lload (pc := 132) dX12_scale_132 rfl ?_
            refine G_lmul (pc := 134) dX12_scale_134 ?_
            refine G_ladd (pc := 135) dX12_scale_135 ?_
            refine G_lstore (pc := 136) (lv' := [_, _, _, _, _, _, _, _, _, _, _, _, _, _, _, _, _, _]) dX12_scale_136 (by decide) rfl ?_
            refine G_lload (pc := 138) dX12_scale_138 rfl ?_
            refine G_aload_n (pc := 140) dX12_scale_140 rfl ?_
            refine G_getr (pc := 141) dX12_scale_141 fiX12_17 (by first | rfl | assumption) (by omega) (by first | rfl | assumption) ?_
            refine G_iconst (pc := 144) dX12_scale_144 ?_
            refine G_iload (pc := 145) dX12_scale_145 rfl ?_
            refine G_imul (pc := 147) dX12_scale_147 ?_
            refine G_ialdv (pc := 148) dX12_scale_148 (by first | rfl | assumption) (by omega) (by omega) (by omega) (by omega) (hH.so i 0 (by omega) (by omega) (by omega)) ?_
            refine G_i2l (pc := 149) dX12_scale_149 (Ri.mk (by omega) (by omega)) ?_
            refine G_lload (pc := 150) dX12_scale_150 rfl ?_
            refine G_lmul (pc := 152) dX12_scale_152 ?_
            refine G_ladd (pc := 153) dX12_scale_153 ?_
            refine G_lstore (pc := 154) (lv' := [_, _, _, _, _, _, _, _, _, _, _, _, _, _, _, _, _, _]) dX12_scale_154 (by decide) rfl ?_
            refine G_iinc (pc := 156) (lv' := [_, _, _, _, _, _, _, _, _, _, _, _, _, _, _, _, _, _]) dX12_scale_156 (by decide) rfl rfl ?_
            refine G_goto (pc := 159) (tgt := 19) dX12_scale_159 (by decide) ?_
            refine G_eq rfl rfl ?_ rfl (ih (i + 1) (some (vl (sumN (dW hs wo i) (zA hs) : Int))) none (some (vl (sumN (fun a => dW hs wo i a * (100 - dW hs wo i a)) (zA hs) : Int))) none (some (vi (zA hs : Int))) g h (by omega))
            rw [pC, pB, pV, sumN, sumN, sumN]
            simp only [Int.natCast_add, Int.natCast_mul]
            rfl
          · exact absurd h_47 (by omega)
        | succ q ihq =>
          intro x g h hx
          have hd := dO_le hs i x 0
          have hw := dW_le hs wo i x
          refine G_iload (pc := 39) dX12_scale_39 rfl ?_
          refine G_aload_n (pc := 41) dX12_scale_41 rfl ?_
          refine G_getr (pc := 42) dX12_scale_42 fiX12_20 (by first | rfl | assumption) (by omega) (by first | rfl | assumption) ?_
          refine G_iconst (pc := 45) dX12_scale_45 ?_
          refine G_ialdv (pc := 46) dX12_scale_46 (by first | rfl | assumption) (by omega) (by omega) (by omega) (by omega) (hH.na rfl) ?_
          refine G_icmp_ge (pc := 47) (tgt := 99) dX12_scale_47 (Ri.mk (by omega) (by omega)) (Ri.mk (by omega) (by omega)) (by decide) (fun h_47 => ?_) (fun h_47 => ?_)
          · exact absurd h_47 (by omega)
          · refine G_iload (pc := 50) dX12_scale_50 rfl ?_
            refine G_iload_n (pc := 52) dX12_scale_52 rfl ?_
            refine G_icmp_ne (pc := 53) (tgt := 60) dX12_scale_53 (Ri.mk (by omega) (by omega)) rwo (by decide) (fun h_53 => ?_) (fun h_53 => ?_)
            · refine G_aload_n (pc := 60) dX12_scale_60 rfl ?_
              refine G_iload (pc := 61) dX12_scale_61 rfl ?_
              refine G_iload (pc := 63) dX12_scale_63 rfl ?_
              refine G_iconst (pc := 65) dX12_scale_65 ?_
              refine G_callV1 (pc := 66) (md := mdX12_doing) (av := [_, _, _]) dX12_scale_66 lkX12_137 mwX12_doing (m_doing i x 0 hM hH hB (by omega) (by omega) (by omega)) rfl (by first | rfl | assumption) (by omega) rfl rfl (Nat.le_of_ble_eq_true rfl) (by decide) ⟨Nat.zero_le _, Nat.zero_le _⟩ ?_
              refine G_i2l (pc := 69) dX12_scale_69 (Ri.mk (by omega) (by omega)) ?_
              refine G_st (st' := [vl (dW hs wo i x : Int)]) (by unfold dW; first | (rw [if_pos (by omega)]; rfl) | rw [if_neg (by omega)]) ?_
              refine G_lstore (pc := 70) (lv' := [_, _, _, _, _, _, _, _, _, _, _, _, _, _, _, _, _, _]) dX12_scale_70 (by decide) rfl ?_
              refine G_lload (pc := 72) dX12_scale_72 rfl ?_
              refine G_lload (pc := 74) dX12_scale_74 rfl ?_
              refine G_ladd (pc := 76) dX12_scale_76 ?_
              refine G_lstore (pc := 77) (lv' := [_, _, _, _, _, _, _, _, _, _, _, _, _, _, _, _, _, _]) dX12_scale_77 (by decide) rfl ?_
              refine G_lload (pc := 79) dX12_scale_79 rfl ?_
              refine G_lload (pc := 81) dX12_scale_81 rfl ?_
              refine G_ldc2 (pc := 83) dX12_scale_83 klX12_142 ?_
              refine G_lload (pc := 86) dX12_scale_86 rfl ?_
              refine G_lsub (pc := 88) dX12_scale_88 ?_
              refine G_lmul (pc := 89) dX12_scale_89 ?_
              refine G_ladd (pc := 90) dX12_scale_90 ?_
              refine G_lstore (pc := 91) (lv' := [_, _, _, _, _, _, _, _, _, _, _, _, _, _, _, _, _, _]) dX12_scale_91 (by decide) rfl ?_
              refine G_iinc (pc := 93) (lv' := [_, _, _, _, _, _, _, _, _, _, _, _, _, _, _, _, _, _]) dX12_scale_93 (by decide) rfl rfl ?_
              refine G_goto (pc := 96) (tgt := 39) dX12_scale_96 (by decide) ?_
              refine G_eq rfl rfl ?_ rfl (ihq (x + 1) (some (vl (dW hs wo i x : Int))) none (by omega))
              rw [sumN, sumN, Int.natCast_add, Int.natCast_add, Int.natCast_mul, Int.ofNat_sub hw]
              rfl
            · refine G_lconst (pc := 56) dX12_scale_56 ?_
              refine G_goto (pc := 57) (tgt := 70) dX12_scale_57 (by decide) ?_
              refine G_st (st' := [vl (dW hs wo i x : Int)]) (by unfold dW; first | (rw [if_pos (by omega)]; rfl) | rw [if_neg (by omega)]) ?_
              refine G_lstore (pc := 70) (lv' := [_, _, _, _, _, _, _, _, _, _, _, _, _, _, _, _, _, _]) dX12_scale_70 (by decide) rfl ?_
              refine G_lload (pc := 72) dX12_scale_72 rfl ?_
              refine G_lload (pc := 74) dX12_scale_74 rfl ?_
              refine G_ladd (pc := 76) dX12_scale_76 ?_
              refine G_lstore (pc := 77) (lv' := [_, _, _, _, _, _, _, _, _, _, _, _, _, _, _, _, _, _]) dX12_scale_77 (by decide) rfl ?_
              refine G_lload (pc := 79) dX12_scale_79 rfl ?_
              refine G_lload (pc := 81) dX12_scale_81 rfl ?_
              refine G_ldc2 (pc := 83) dX12_scale_83 klX12_142 ?_
              refine G_lload (pc := 86) dX12_scale_86 rfl ?_
              refine G_lsub (pc := 88) dX12_scale_88 ?_
              refine G_lmul (pc := 89) dX12_scale_89 ?_
              refine G_ladd (pc := 90) dX12_scale_90 ?_
              refine G_lstore (pc := 91) (lv' := [_, _, _, _, _, _, _, _, _, _, _, _, _, _, _, _, _, _]) dX12_scale_91 (by decide) rfl ?_
              refine G_iinc (pc := 93) (lv' := [_, _, _, _, _, _, _, _, _, _, _, _, _, _, _, _, _, _]) dX12_scale_93 (by decide) rfl rfl ?_
              refine G_goto (pc := 96) (tgt := 39) dX12_scale_96 (by decide) ?_
              refine G_eq rfl rfl ?_ rfl (ihq (x + 1) (some (vl (dW hs wo i x : Int))) none (by omega))
              rw [sumN, sumN, Int.natCast_add, Int.natCast_add, Int.natCast_mul, Int.ofNat_sub hw]
              rfl
      refine G_iload (pc := 19) dX12_scale_19 rfl ?_
      refine G_aload_n (pc := 21) dX12_scale_21 rfl ?_
      refine G_getr (pc := 22) dX12_scale_22 fiX12_13 (by first | rfl | assumption) (by omega) (by first | rfl | assumption) ?_
      refine G_iconst (pc := 25) dX12_scale_25 ?_
      refine G_ialdv (pc := 26) dX12_scale_26 (by first | rfl | assumption) (by omega) (by omega) (by omega) (by omega) (hH.ns rfl) ?_
      refine G_icmp_ge (pc := 27) (tgt := 162) dX12_scale_27 (Ri.mk (by omega) (by omega)) (Ri.mk (by omega) (by omega)) (by decide) (fun h_27 => ?_) (fun h_27 => ?_)
      · exact absurd h_27 (by omega)
      · refine G_lconst (pc := 30) dX12_scale_30 ?_
        refine G_lstore (pc := 31) (lv' := [_, _, _, _, _, _, _, _, _, _, _, _, _, _, _, _, _, _]) dX12_scale_31 (by decide) rfl ?_
        refine G_lconst (pc := 33) dX12_scale_33 ?_
        refine G_lstore (pc := 34) (lv' := [_, _, _, _, _, _, _, _, _, _, _, _, _, _, _, _, _, _]) dX12_scale_34 (by decide) rfl ?_
        refine G_iconst (pc := 36) dX12_scale_36 ?_
        refine G_istore (pc := 37) (lv' := [_, _, _, _, _, _, _, _, _, _, _, _, _, _, _, _, _, _]) dX12_scale_37 (by decide) rfl ?_
        exact inner (zA hs) 0 _ _ (by omega)
  refine G_aload_n (pc := 0) dX12_scale_0 rfl ?_
  refine G_iconst (pc := 1) dX12_scale_1 ?_
  refine G_callV1 (pc := 2) (md := mdX12_folk) (av := [_]) dX12_scale_2 lkX12_99 mwX12_folk (m_folk 0 (by omega) hM hH hB) rfl (by first | rfl | assumption) (by omega) rfl rfl (Nat.le_of_ble_eq_true rfl) (by decide) ⟨Nat.zero_le _, Nat.zero_le _⟩ ?_
  refine G_i2l (pc := 5) dX12_scale_5 (Ri.mk (by omega) (by omega)) ?_
  refine G_lstore_n (pc := 6) (lv' := [_, _, _, _, _, _, _, _, _, _, _, _, _, _, _, _, _, _]) dX12_scale_6 (by decide) rfl ?_
  refine G_lconst (pc := 7) dX12_scale_7 ?_
  refine G_lstore (pc := 8) (lv' := [_, _, _, _, _, _, _, _, _, _, _, _, _, _, _, _, _, _]) dX12_scale_8 (by decide) rfl ?_
  refine G_lconst (pc := 10) dX12_scale_10 ?_
  refine G_lstore (pc := 11) (lv' := [_, _, _, _, _, _, _, _, _, _, _, _, _, _, _, _, _, _]) dX12_scale_11 (by decide) rfl ?_
  refine G_lconst (pc := 13) dX12_scale_13 ?_
  refine G_lstore (pc := 14) (lv' := [_, _, _, _, _, _, _, _, _, _, _, _, _, _, _, _, _, _]) dX12_scale_14 (by decide) rfl ?_
  refine G_iconst (pc := 16) dX12_scale_16 ?_
  refine G_istore (pc := 17) (lv' := [_, _, _, _, _, _, _, _, _, _, _, _, _, _, _, _, _, _]) dX12_scale_17 (by decide) rfl ?_
  exact outer (zS hs) 0 _ _ _ _ _ _ _ (by omega)
theorem y_people (p : Int) (hM : 87 ≤ M) (hC : MI I n tx hs C kn K) (hW : WF n tx hs C kn K) (rp : Ri p) : FnQ E mdX12_people 8 M Rf [vr E 71, vi p] I J (MQl I J (aPeople hs p) n tx hs C kn K) := by
  have hH := hC.2.1
  have hB := hW.2.2.1
  have hbl := blw_le hB (-1)
  have hbt := (btw_ok hB (-1)).2
  have r3 := rp.lo
  have r4 := rp.hi
  obtain ⟨e1, e2⟩ := btw_m1 hs
  refine FnQ.of (by decide +kernel) (Nat.le_of_ble_eq_true rfl) ?_
  show GM E mdX12_people 8 M Rf _ I J 0 [some (vr E 71), some (vi p)] []
  refine G_iload_n (pc := 0) dX12_people_0 rfl ?_
  refine G_i2l (pc := 1) dX12_people_1 (by first | exact bI_R | exact rp) ?_
  refine G_lconst (pc := 2) dX12_people_2 ?_
  refine G_lconst (pc := 3) dX12_people_3 ?_
  refine G_callS1 (pc := 4) (md := mdX12_in) (av := [_, _, _]) dX12_people_4 lkX12_66 mwX12_in (m_inI _ _ _ (0 ≤ p ∧ p ≤ 1) (by omega) (Rl.mk (by omega) (by omega)) (Rl.mk (by omega) (by omega)) (Rl.mk (by omega) (by omega))) rfl rfl (Nat.le_of_ble_eq_true rfl) (by decide) ⟨Nat.zero_le _, Nat.zero_le _⟩ ?_
  refine G_if_ne (pc := 7) (tgt := 14) dX12_people_7 (by first | exact bI_R | exact rp) (by decide) (fun h_7 => ?_) (fun h_7 => ?_)
  · try simp only [bI_eq0, bI_ne0] at h_7
    refine G_aload_n (pc := 14) dX12_people_14 rfl ?_
    refine G_iconst (pc := 15) dX12_people_15 ?_
    refine G_callV0 (pc := 16) (md := mdX12_scale) (av := [_]) dX12_people_16 lkX12_182 mwX12_scale (m_scale (-1) (Ri.mk (by omega) (by omega)) hM hH hB) rfl (by first | rfl | assumption) (by omega) rfl rfl (Nat.le_of_ble_eq_true rfl) (by decide) ⟨Nat.zero_le _, Nat.zero_le _⟩ ?_
    refine G_aload_n (pc := 19) dX12_people_19 rfl ?_
    refine G_getlv (pc := 20) dX12_people_20 fiX12_175 (by first | rfl | assumption) (by omega) ((show wr (wr J 71 16 _) 71 17 _ 71 17 = _ from wr_s)) ?_
    refine G_lconst (pc := 23) dX12_people_23 ?_
    refine G_lc_ne (pc := 24) (tgt := 32) dX12_people_24 dX12_people_25 (Rl.mk (by omega) (by omega)) (Rl.mk (by omega) (by omega)) (by decide) (fun h_24 => ?_) (fun h_24 => ?_)
    · refine G_aload_n (pc := 32) dX12_people_32 rfl ?_
      refine G_aload_n (pc := 33) dX12_people_33 rfl ?_
      refine G_getlv (pc := 34) dX12_people_34 fiX12_171 (by first | rfl | assumption) (by omega) ((show wr (wr J 71 16 _) 71 17 _ 71 16 = _ by rw [wr_n (by decide), wr_s])) ?_
      refine G_aload_n (pc := 37) dX12_people_37 rfl ?_
      refine G_getlv (pc := 38) dX12_people_38 fiX12_175 (by first | rfl | assumption) (by omega) ((show wr (wr J 71 16 _) 71 17 _ 71 17 = _ from wr_s)) ?_
      refine G_callV0 (pc := 41) (md := mdX12_lowest) (av := [_, _]) dX12_people_41 lkX12_178 mwX12_lowest (m_lowest _ _ (by omega) (by omega) (by omega) hM) rfl (by first | rfl | assumption) (by omega) rfl rfl (Nat.le_of_ble_eq_true rfl) (by decide) ⟨Nat.zero_le _, Nat.zero_le _⟩ ?_
      refine G_iload_n (pc := 44) dX12_people_44 rfl ?_
      refine G_if_ne (pc := 45) (tgt := 55) dX12_people_45 (by first | exact bI_R | exact rp) (by decide) (fun h_45 => ?_) (fun h_45 => ?_)
      · try simp only [bI_eq0, bI_ne0] at h_45
        refine G_aload_n (pc := 55) dX12_people_55 rfl ?_
        refine G_getlv (pc := 56) dX12_people_56 fiX12_175 (by first | rfl | assumption) (by omega) ((show wr (wr (wr (wr J 71 16 _) 71 17 _) 71 16 _) 71 17 _ 71 17 = _ from wr_s)) ?_
        refine G_lret (pc := 59) dX12_people_59 rfl ?_
        exact ⟨by unfold aPeople; rw [if_pos (show 0 ≤ p ∧ p ≤ 1 by omega), aFr, if_neg (by omega), e1, e2]; first | rw [if_pos (by omega)] | rw [if_neg (by omega)], Off.rfl, (((Off.rfl.set (by omega) (by omega)).set (by omega) (by omega)).set (by omega) (by omega)).set (by omega) (by omega), hC⟩
      · try simp only [bI_eq0, bI_ne0] at h_45
        refine G_aload_n (pc := 48) dX12_people_48 rfl ?_
        refine G_getlv (pc := 49) dX12_people_49 fiX12_171 (by first | rfl | assumption) (by omega) ((show wr (wr (wr (wr J 71 16 _) 71 17 _) 71 16 _) 71 17 _ 71 16 = _ by rw [wr_n (by decide), wr_s])) ?_
        refine G_goto (pc := 52) (tgt := 59) dX12_people_52 (by decide) ?_
        refine G_lret (pc := 59) dX12_people_59 rfl ?_
        exact ⟨by unfold aPeople; rw [if_pos (show 0 ≤ p ∧ p ≤ 1 by omega), aFr, if_neg (by omega), e1, e2]; first | rw [if_pos (by omega)] | rw [if_neg (by omega)], Off.rfl, (((Off.rfl.set (by omega) (by omega)).set (by omega) (by omega)).set (by omega) (by omega)).set (by omega) (by omega), hC⟩
    · refine G_ldc2 (pc := 28) dX12_people_28 klX12_165 ?_
      refine G_lret (pc := 31) dX12_people_31 rfl ?_
      exact ⟨by unfold aPeople; rw [if_pos (show 0 ≤ p ∧ p ≤ 1 by omega), aFr, if_pos (by omega)], Off.rfl, (Off.rfl.set (by omega) (by omega)).set (by omega) (by omega), hC⟩
  · try simp only [bI_eq0, bI_ne0] at h_7
    refine G_ldc2 (pc := 10) dX12_people_10 klX12_163 ?_
    refine G_lret (pc := 13) dX12_people_13 rfl ?_
    exact ⟨by unfold aPeople; rw [if_neg (by omega)], Off.rfl, Off.rfl, hC⟩
theorem y_tells (hM : 87 ≤ M) (hC : MI I n tx hs C kn K) (hW : WF n tx hs C kn K) : FnQ E mdX12_tells 8 M Rf [vr E 71] I J (MQ' I J (aTells hs) n tx hs C kn K) := by
  have hH := hC.2.1
  have hB := hW.2.2.1
  have bA := hB.2.1
  refine FnQ.of (by decide +kernel) (Nat.le_of_ble_eq_true rfl) ?_
  show GM E mdX12_tells 8 M Rf _ I J 0 [some (vr E 71), none, none, none, none, none, none] []
  have loop : ∀ (r i u d : Nat) (fo : Int) (J' : Nat → Nat → Int), i + r = zA hs → 2 ≤ zA hs → Off J J' 71 86 → ((i = 0 ∧ fo = -4 ∧ u = 0 ∧ d = 1) ∨ (0 < i ∧ fo = (teF hs i : Nat) ∧ u = btw hs (teF hs i) ∧ d = max 1 (blw hs (teF hs i)))) → GM E mdX12_tells 8 M Rf (MQ' I J (aTells hs) n tx hs C kn K) I J' 11 [some (vr E 71), some (vi fo), some (vl (u : Int)), none, some (vl (d : Int)), none, some (vi (i : Int))] [] := by
    intro r
    induction r with
    | zero =>
      intro i u d fo J' hi h2 hO hc
      have hi : i = zA hs := by omega
      subst hi
      obtain ⟨-, h3, -, -⟩ := hc.resolve_left (fun z => by omega)
      refine G_iload (pc := 11) dX12_tells_11 rfl ?_
      refine G_aload_n (pc := 13) dX12_tells_13 rfl ?_
      refine G_getr (pc := 14) dX12_tells_14 fiX12_20 (by first | rfl | assumption) (by omega) (by first | rfl | assumption) ?_
      refine G_iconst (pc := 17) dX12_tells_17 ?_
      refine G_ialdv (pc := 18) dX12_tells_18 (by first | rfl | assumption) (by omega) (by omega) (by omega) (by omega) (hH.na rfl) ?_
      refine G_icmp_ge (pc := 19) (tgt := 100) dX12_tells_19 (Ri.mk (by omega) (by omega)) (Ri.mk (by omega) (by omega)) (by decide) (fun h_19 => ?_) (fun h_19 => ?_)
      · refine G_iload_n (pc := 100) dX12_tells_100 rfl ?_
        refine G_iret (pc := 101) dX12_tells_101 rfl ?_
        exact ⟨by unfold aTells; rw [if_neg (by omega), h3], Off.rfl, hO, hC⟩
      · exact absurd h_19 (by omega)
    | succ r ih =>
      intro i u d fo J' hi h2 hO hc
      have hb1 := (btw_ok hB (i : Int)).2
      have hb2 := blw_le hB (i : Int)
      have hb3 := (btw_ok hB (teF hs i : Int)).2
      have hb4 := blw_le hB (teF hs i : Int)
      have hul : u ≤ 1296000000 := by rcases hc with ⟨-, -, h, -⟩ | ⟨-, -, h, -⟩ <;> omega
      have hdl : 1 ≤ d ∧ d ≤ 1512000000 := by rcases hc with ⟨-, -, -, h⟩ | ⟨-, -, -, h⟩ <;> omega
      have hfo : (i = 0 ∧ fo = -4) ∨ (0 < i ∧ 0 ≤ fo ∧ fo ≤ 6) := by
        rcases hc with ⟨h, h3, -, -⟩ | ⟨h, h3, -, -⟩
        · exact Or.inl ⟨h, h3⟩
        · have := teF_lt hs i h
          exact Or.inr ⟨h, by omega, by omega⟩
      obtain ⟨lw, elw⟩ : ∃ lw, lw = max 1 (blw hs (i : Int)) := ⟨_, rfl⟩
      have hm1 := Nat.mul_le_mul hb1 hdl.2
      have hm2 := Nat.mul_le_mul hul (show lw ≤ 1512000000 by omega)
      refine G_iload (pc := 11) dX12_tells_11 rfl ?_
      refine G_aload_n (pc := 13) dX12_tells_13 rfl ?_
      refine G_getr (pc := 14) dX12_tells_14 fiX12_20 (by first | rfl | assumption) (by omega) (by first | rfl | assumption) ?_
      refine G_iconst (pc := 17) dX12_tells_17 ?_
      refine G_ialdv (pc := 18) dX12_tells_18 (by first | rfl | assumption) (by omega) (by omega) (by omega) (by omega) (hH.na rfl) ?_
      refine G_icmp_ge (pc := 19) (tgt := 100) dX12_tells_19 (Ri.mk (by omega) (by omega)) (Ri.mk (by omega) (by omega)) (by decide) (fun h_19 => ?_) (fun h_19 => ?_)
      · exact absurd h_19 (by omega)
      · refine G_aload_n (pc := 22) dX12_tells_22 rfl ?_
        refine G_getr (pc := 23) dX12_tells_23 fiX12_20 (by first | rfl | assumption) (by omega) (by first | rfl | assumption) ?_
        refine G_iconst (pc := 26) dX12_tells_26 ?_
        refine G_ialdv (pc := 27) dX12_tells_27 (by first | rfl | assumption) (by omega) (by omega) (by omega) (by omega) (hH.na rfl) ?_
        refine G_iconst (pc := 28) dX12_tells_28 ?_
        refine G_icmp_le (pc := 29) (tgt := 100) dX12_tells_29 (Ri.mk (by omega) (by omega)) (Ri.mk (by omega) (by omega)) (by decide) (fun h_29 => ?_) (fun h_29 => ?_)
        · exact absurd h_29 (by omega)
        · refine G_aload_n (pc := 32) dX12_tells_32 rfl ?_
          refine G_iload (pc := 33) dX12_tells_33 rfl ?_
          refine G_callV0 (pc := 35) (md := mdX12_scale) (av := [_]) dX12_tells_35 lkX12_182 mwX12_scale (m_scale (i : Int) (Ri.mk (by omega) (by omega)) hM hH hB) rfl (by first | rfl | assumption) (by omega) rfl rfl (Nat.le_of_ble_eq_true rfl) (by decide) ⟨Nat.zero_le _, Nat.zero_le _⟩ ?_
          refine G_aload_n (pc := 38) dX12_tells_38 rfl ?_
          refine G_aload_n (pc := 39) dX12_tells_39 rfl ?_
          refine G_getlv (pc := 40) dX12_tells_40 fiX12_175 (by first | rfl | assumption) (by omega) ((show wr (wr J' 71 16 _) 71 17 _ 71 17 = _ from wr_s)) ?_
          refine G_lconst (pc := 43) dX12_tells_43 ?_
          refine G_lc_ne (pc := 44) (tgt := 52) dX12_tells_44 dX12_tells_45 (Rl.mk (by omega) (by omega)) (Rl.mk (by omega) (by omega)) (by decide) (fun h_44 => ?_) (fun h_44 => ?_)
          · refine G_aload_n (pc := 52) dX12_tells_52 rfl ?_
            refine G_getlv (pc := 53) dX12_tells_53 fiX12_175 (by first | rfl | assumption) (by omega) ((show wr (wr J' 71 16 _) 71 17 _ 71 17 = _ from wr_s)) ?_
            refine G_st (st' := [vl (lw : Int), vr E 71]) (by first | (rw [show (lw : Int) = 1 by omega]; rfl) | rw [show (lw : Int) = (blw hs (i : Int) : Int) by omega]) ?_
            refine G_putl (pc := 56) dX12_tells_56 fiX12_175 (by first | rfl | assumption) (by omega) ?_
            refine G_iload_n (pc := 59) dX12_tells_59 rfl ?_
            refine G_if_lt (pc := 60) (tgt := 80) dX12_tells_60 (Ri.mk (by omega) (by omega)) (by decide) (fun h_60 => ?_) (fun h_60 => ?_)
            · refine G_iload (pc := 80) dX12_tells_80 rfl ?_
              refine G_istore_n (pc := 82) (lv' := [_, _, _, _, _, _, _]) dX12_tells_82 (by decide) rfl ?_
              refine G_aload_n (pc := 83) dX12_tells_83 rfl ?_
              refine G_getlv (pc := 84) dX12_tells_84 fiX12_171 (by first | rfl | assumption) (by omega) ((show wr (wr (wr J' 71 16 _) 71 17 _) 71 17 _ 71 16 = _ by rw [wr_n (by decide), wr_n (by decide), wr_s])) ?_
              refine G_lstore_n (pc := 87) (lv' := [_, _, _, _, _, _, _]) dX12_tells_87 (by decide) rfl ?_
              refine G_aload_n (pc := 88) dX12_tells_88 rfl ?_
              refine G_getlv (pc := 89) dX12_tells_89 fiX12_175 (by first | rfl | assumption) (by omega) ((show wr (wr (wr J' 71 16 _) 71 17 _) 71 17 _ 71 17 = _ from wr_s)) ?_
              refine G_lstore (pc := 92) (lv' := [_, _, _, _, _, _, _]) dX12_tells_92 (by decide) rfl ?_
              refine G_iinc (pc := 94) (lv' := [_, _, _, _, _, _, _]) dX12_tells_94 (by decide) rfl rfl ?_
              refine G_goto (pc := 97) (tgt := 11) dX12_tells_97 (by decide) ?_
              refine ih (i + 1) _ _ _ _ (by omega) h2 (((hO.set (by omega) (by omega)).set (by omega) (by omega)).set (by omega) (by omega)) (Or.inr ⟨by omega, ?_⟩)
              rcases hc with ⟨h, h3, h4, h5⟩ | ⟨h, h3, h4, h5⟩
              · first
                | (exfalso; omega)
                | (subst h; rw [show teF hs (0 + 1) = 0 by rw [teF, if_pos rfl]]; exact ⟨rfl, rfl, elw⟩)
              · have hT : teF hs (i + 1) = if btw hs i * d < u * lw then i else teF hs i := by rw [teF, if_neg (by omega), h4, h5, elw]
                rw [hT]
                first
                | (exfalso; omega)
                | (rw [if_pos (by omega)]; exact ⟨rfl, rfl, elw⟩)
                | (rw [if_neg (by omega)]; exact ⟨h3, h4, h5⟩)
            · refine G_aload_n (pc := 63) dX12_tells_63 rfl ?_
              refine G_getlv (pc := 64) dX12_tells_64 fiX12_171 (by first | rfl | assumption) (by omega) ((show wr (wr (wr J' 71 16 _) 71 17 _) 71 17 _ 71 16 = _ by rw [wr_n (by decide), wr_n (by decide), wr_s])) ?_
              refine G_lload (pc := 67) dX12_tells_67 rfl ?_
              refine G_lmul (pc := 69) dX12_tells_69 ?_
              refine G_lload_n (pc := 70) dX12_tells_70 rfl ?_
              refine G_aload_n (pc := 71) dX12_tells_71 rfl ?_
              refine G_getlv (pc := 72) dX12_tells_72 fiX12_175 (by first | rfl | assumption) (by omega) ((show wr (wr (wr J' 71 16 _) 71 17 _) 71 17 _ 71 17 = _ from wr_s)) ?_
              refine G_lmul (pc := 75) dX12_tells_75 ?_
              rw [← Int.natCast_mul, ← Int.natCast_mul]
              refine G_lc_ge (pc := 76) (tgt := 94) dX12_tells_76 dX12_tells_77 (Rl.mk (by omega) (by omega)) (Rl.mk (by omega) (by omega)) (by decide) (fun h_76 => ?_) (fun h_76 => ?_)
              · refine G_iinc (pc := 94) (lv' := [_, _, _, _, _, _, _]) dX12_tells_94 (by decide) rfl rfl ?_
                refine G_goto (pc := 97) (tgt := 11) dX12_tells_97 (by decide) ?_
                refine ih (i + 1) _ _ _ _ (by omega) h2 (((hO.set (by omega) (by omega)).set (by omega) (by omega)).set (by omega) (by omega)) (Or.inr ⟨by omega, ?_⟩)
                rcases hc with ⟨h, h3, h4, h5⟩ | ⟨h, h3, h4, h5⟩
                · first
                  | (exfalso; omega)
                  | (subst h; rw [show teF hs (0 + 1) = 0 by rw [teF, if_pos rfl]]; exact ⟨rfl, rfl, elw⟩)
                · have hT : teF hs (i + 1) = if btw hs i * d < u * lw then i else teF hs i := by rw [teF, if_neg (by omega), h4, h5, elw]
                  rw [hT]
                  first
                  | (exfalso; omega)
                  | (rw [if_pos (by omega)]; exact ⟨rfl, rfl, elw⟩)
                  | (rw [if_neg (by omega)]; exact ⟨h3, h4, h5⟩)
              · refine G_iload (pc := 80) dX12_tells_80 rfl ?_
                refine G_istore_n (pc := 82) (lv' := [_, _, _, _, _, _, _]) dX12_tells_82 (by decide) rfl ?_
                refine G_aload_n (pc := 83) dX12_tells_83 rfl ?_
                refine G_getlv (pc := 84) dX12_tells_84 fiX12_171 (by first | rfl | assumption) (by omega) ((show wr (wr (wr J' 71 16 _) 71 17 _) 71 17 _ 71 16 = _ by rw [wr_n (by decide), wr_n (by decide), wr_s])) ?_
                refine G_lstore_n (pc := 87) (lv' := [_, _, _, _, _, _, _]) dX12_tells_87 (by decide) rfl ?_
                refine G_aload_n (pc := 88) dX12_tells_88 rfl ?_
                refine G_getlv (pc := 89) dX12_tells_89 fiX12_175 (by first | rfl | assumption) (by omega) ((show wr (wr (wr J' 71 16 _) 71 17 _) 71 17 _ 71 17 = _ from wr_s)) ?_
                refine G_lstore (pc := 92) (lv' := [_, _, _, _, _, _, _]) dX12_tells_92 (by decide) rfl ?_
                refine G_iinc (pc := 94) (lv' := [_, _, _, _, _, _, _]) dX12_tells_94 (by decide) rfl rfl ?_
                refine G_goto (pc := 97) (tgt := 11) dX12_tells_97 (by decide) ?_
                refine ih (i + 1) _ _ _ _ (by omega) h2 (((hO.set (by omega) (by omega)).set (by omega) (by omega)).set (by omega) (by omega)) (Or.inr ⟨by omega, ?_⟩)
                rcases hc with ⟨h, h3, h4, h5⟩ | ⟨h, h3, h4, h5⟩
                · first
                  | (exfalso; omega)
                  | (subst h; rw [show teF hs (0 + 1) = 0 by rw [teF, if_pos rfl]]; exact ⟨rfl, rfl, elw⟩)
                · have hT : teF hs (i + 1) = if btw hs i * d < u * lw then i else teF hs i := by rw [teF, if_neg (by omega), h4, h5, elw]
                  rw [hT]
                  first
                  | (exfalso; omega)
                  | (rw [if_pos (by omega)]; exact ⟨rfl, rfl, elw⟩)
                  | (rw [if_neg (by omega)]; exact ⟨h3, h4, h5⟩)
          · refine G_lconst (pc := 48) dX12_tells_48 ?_
            refine G_goto (pc := 49) (tgt := 56) dX12_tells_49 (by decide) ?_
            refine G_st (st' := [vl (lw : Int), vr E 71]) (by first | (rw [show (lw : Int) = 1 by omega]; rfl) | rw [show (lw : Int) = (blw hs (i : Int) : Int) by omega]) ?_
            refine G_putl (pc := 56) dX12_tells_56 fiX12_175 (by first | rfl | assumption) (by omega) ?_
            refine G_iload_n (pc := 59) dX12_tells_59 rfl ?_
            refine G_if_lt (pc := 60) (tgt := 80) dX12_tells_60 (Ri.mk (by omega) (by omega)) (by decide) (fun h_60 => ?_) (fun h_60 => ?_)
            · refine G_iload (pc := 80) dX12_tells_80 rfl ?_
              refine G_istore_n (pc := 82) (lv' := [_, _, _, _, _, _, _]) dX12_tells_82 (by decide) rfl ?_
              refine G_aload_n (pc := 83) dX12_tells_83 rfl ?_
              refine G_getlv (pc := 84) dX12_tells_84 fiX12_171 (by first | rfl | assumption) (by omega) ((show wr (wr (wr J' 71 16 _) 71 17 _) 71 17 _ 71 16 = _ by rw [wr_n (by decide), wr_n (by decide), wr_s])) ?_
              refine G_lstore_n (pc := 87) (lv' := [_, _, _, _, _, _, _]) dX12_tells_87 (by decide) rfl ?_
              refine G_aload_n (pc := 88) dX12_tells_88 rfl ?_
              refine G_getlv (pc := 89) dX12_tells_89 fiX12_175 (by first | rfl | assumption) (by omega) ((show wr (wr (wr J' 71 16 _) 71 17 _) 71 17 _ 71 17 = _ from wr_s)) ?_
              refine G_lstore (pc := 92) (lv' := [_, _, _, _, _, _, _]) dX12_tells_92 (by decide) rfl ?_
              refine G_iinc (pc := 94) (lv' := [_, _, _, _, _, _, _]) dX12_tells_94 (by decide) rfl rfl ?_
              refine G_goto (pc := 97) (tgt := 11) dX12_tells_97 (by decide) ?_
              refine ih (i + 1) _ _ _ _ (by omega) h2 (((hO.set (by omega) (by omega)).set (by omega) (by omega)).set (by omega) (by omega)) (Or.inr ⟨by omega, ?_⟩)
              rcases hc with ⟨h, h3, h4, h5⟩ | ⟨h, h3, h4, h5⟩
              · first
                | (exfalso; omega)
                | (subst h; rw [show teF hs (0 + 1) = 0 by rw [teF, if_pos rfl]]; exact ⟨rfl, rfl, elw⟩)
              · have hT : teF hs (i + 1) = if btw hs i * d < u * lw then i else teF hs i := by rw [teF, if_neg (by omega), h4, h5, elw]
                rw [hT]
                first
                | (exfalso; omega)
                | (rw [if_pos (by omega)]; exact ⟨rfl, rfl, elw⟩)
                | (rw [if_neg (by omega)]; exact ⟨h3, h4, h5⟩)
            · refine G_aload_n (pc := 63) dX12_tells_63 rfl ?_
              refine G_getlv (pc := 64) dX12_tells_64 fiX12_171 (by first | rfl | assumption) (by omega) ((show wr (wr (wr J' 71 16 _) 71 17 _) 71 17 _ 71 16 = _ by rw [wr_n (by decide), wr_n (by decide), wr_s])) ?_
              refine G_lload (pc := 67) dX12_tells_67 rfl ?_
              refine G_lmul (pc := 69) dX12_tells_69 ?_
              refine G_lload_n (pc := 70) dX12_tells_70 rfl ?_
              refine G_aload_n (pc := 71) dX12_tells_71 rfl ?_
              refine G_getlv (pc := 72) dX12_tells_72 fiX12_175 (by first | rfl | assumption) (by omega) ((show wr (wr (wr J' 71 16 _) 71 17 _) 71 17 _ 71 17 = _ from wr_s)) ?_
              refine G_lmul (pc := 75) dX12_tells_75 ?_
              rw [← Int.natCast_mul, ← Int.natCast_mul]
              refine G_lc_ge (pc := 76) (tgt := 94) dX12_tells_76 dX12_tells_77 (Rl.mk (by omega) (by omega)) (Rl.mk (by omega) (by omega)) (by decide) (fun h_76 => ?_) (fun h_76 => ?_)
              · refine G_iinc (pc := 94) (lv' := [_, _, _, _, _, _, _]) dX12_tells_94 (by decide) rfl rfl ?_
                refine G_goto (pc := 97) (tgt := 11) dX12_tells_97 (by decide) ?_
                refine ih (i + 1) _ _ _ _ (by omega) h2 (((hO.set (by omega) (by omega)).set (by omega) (by omega)).set (by omega) (by omega)) (Or.inr ⟨by omega, ?_⟩)
                rcases hc with ⟨h, h3, h4, h5⟩ | ⟨h, h3, h4, h5⟩
                · first
                  | (exfalso; omega)
                  | (subst h; rw [show teF hs (0 + 1) = 0 by rw [teF, if_pos rfl]]; exact ⟨rfl, rfl, elw⟩)
                · have hT : teF hs (i + 1) = if btw hs i * d < u * lw then i else teF hs i := by rw [teF, if_neg (by omega), h4, h5, elw]
                  rw [hT]
                  first
                  | (exfalso; omega)
                  | (rw [if_pos (by omega)]; exact ⟨rfl, rfl, elw⟩)
                  | (rw [if_neg (by omega)]; exact ⟨h3, h4, h5⟩)
              · refine G_iload (pc := 80) dX12_tells_80 rfl ?_
                refine G_istore_n (pc := 82) (lv' := [_, _, _, _, _, _, _]) dX12_tells_82 (by decide) rfl ?_
                refine G_aload_n (pc := 83) dX12_tells_83 rfl ?_
                refine G_getlv (pc := 84) dX12_tells_84 fiX12_171 (by first | rfl | assumption) (by omega) ((show wr (wr (wr J' 71 16 _) 71 17 _) 71 17 _ 71 16 = _ by rw [wr_n (by decide), wr_n (by decide), wr_s])) ?_
                refine G_lstore_n (pc := 87) (lv' := [_, _, _, _, _, _, _]) dX12_tells_87 (by decide) rfl ?_
                refine G_aload_n (pc := 88) dX12_tells_88 rfl ?_
                refine G_getlv (pc := 89) dX12_tells_89 fiX12_175 (by first | rfl | assumption) (by omega) ((show wr (wr (wr J' 71 16 _) 71 17 _) 71 17 _ 71 17 = _ from wr_s)) ?_
                refine G_lstore (pc := 92) (lv' := [_, _, _, _, _, _, _]) dX12_tells_92 (by decide) rfl ?_
                refine G_iinc (pc := 94) (lv' := [_, _, _, _, _, _, _]) dX12_tells_94 (by decide) rfl rfl ?_
                refine G_goto (pc := 97) (tgt := 11) dX12_tells_97 (by decide) ?_
                refine ih (i + 1) _ _ _ _ (by omega) h2 (((hO.set (by omega) (by omega)).set (by omega) (by omega)).set (by omega) (by omega)) (Or.inr ⟨by omega, ?_⟩)
                rcases hc with ⟨h, h3, h4, h5⟩ | ⟨h, h3, h4, h5⟩
                · first
                  | (exfalso; omega)
                  | (subst h; rw [show teF hs (0 + 1) = 0 by rw [teF, if_pos rfl]]; exact ⟨rfl, rfl, elw⟩)
                · have hT : teF hs (i + 1) = if btw hs i * d < u * lw then i else teF hs i := by rw [teF, if_neg (by omega), h4, h5, elw]
                  rw [hT]
                  first
                  | (exfalso; omega)
                  | (rw [if_pos (by omega)]; exact ⟨rfl, rfl, elw⟩)
                  | (rw [if_neg (by omega)]; exact ⟨h3, h4, h5⟩)
  rcases Nat.lt_or_ge (zA hs) 2 with hz | hz
  · have h0 := hW.2.2.2.2.1
    refine G_bipush (pc := 0) dX12_tells_0 (by decide) ?_
    refine G_istore_n (pc := 2) (lv' := [_, _, _, _, _, _, _]) dX12_tells_2 (by decide) rfl ?_
    refine G_lconst (pc := 3) dX12_tells_3 ?_
    refine G_lstore_n (pc := 4) (lv' := [_, _, _, _, _, _, _]) dX12_tells_4 (by decide) rfl ?_
    refine G_lconst (pc := 5) dX12_tells_5 ?_
    refine G_lstore (pc := 6) (lv' := [_, _, _, _, _, _, _]) dX12_tells_6 (by decide) rfl ?_
    refine G_iconst (pc := 8) dX12_tells_8 ?_
    refine G_istore (pc := 9) (lv' := [_, _, _, _, _, _, _]) dX12_tells_9 (by decide) rfl ?_
    refine G_iload (pc := 11) dX12_tells_11 rfl ?_
    refine G_aload_n (pc := 13) dX12_tells_13 rfl ?_
    refine G_getr (pc := 14) dX12_tells_14 fiX12_20 (by first | rfl | assumption) (by omega) (by first | rfl | assumption) ?_
    refine G_iconst (pc := 17) dX12_tells_17 ?_
    refine G_ialdv (pc := 18) dX12_tells_18 (by first | rfl | assumption) (by omega) (by omega) (by omega) (by omega) (hH.na rfl) ?_
    refine G_icmp_ge (pc := 19) (tgt := 100) dX12_tells_19 (Ri.mk (by omega) (by omega)) (Ri.mk (by omega) (by omega)) (by decide) (fun h_19 => ?_) (fun h_19 => ?_)
    · exact absurd h_19 (by omega)
    · refine G_aload_n (pc := 22) dX12_tells_22 rfl ?_
      refine G_getr (pc := 23) dX12_tells_23 fiX12_20 (by first | rfl | assumption) (by omega) (by first | rfl | assumption) ?_
      refine G_iconst (pc := 26) dX12_tells_26 ?_
      refine G_ialdv (pc := 27) dX12_tells_27 (by first | rfl | assumption) (by omega) (by omega) (by omega) (by omega) (hH.na rfl) ?_
      refine G_iconst (pc := 28) dX12_tells_28 ?_
      refine G_icmp_le (pc := 29) (tgt := 100) dX12_tells_29 (Ri.mk (by omega) (by omega)) (Ri.mk (by omega) (by omega)) (by decide) (fun h_29 => ?_) (fun h_29 => ?_)
      · refine G_iload_n (pc := 100) dX12_tells_100 rfl ?_
        refine G_iret (pc := 101) dX12_tells_101 rfl ?_
        exact ⟨by unfold aTells; rw [if_pos hz], Off.rfl, Off.rfl, hC⟩
      · exact absurd h_29 (by omega)
  · skip
    refine G_bipush (pc := 0) dX12_tells_0 (by decide) ?_
    refine G_istore_n (pc := 2) (lv' := [_, _, _, _, _, _, _]) dX12_tells_2 (by decide) rfl ?_
    refine G_lconst (pc := 3) dX12_tells_3 ?_
    refine G_lstore_n (pc := 4) (lv' := [_, _, _, _, _, _, _]) dX12_tells_4 (by decide) rfl ?_
    refine G_lconst (pc := 5) dX12_tells_5 ?_
    refine G_lstore (pc := 6) (lv' := [_, _, _, _, _, _, _]) dX12_tells_6 (by decide) rfl ?_
    refine G_iconst (pc := 8) dX12_tells_8 ?_
    refine G_istore (pc := 9) (lv' := [_, _, _, _, _, _, _]) dX12_tells_9 (by decide) rfl ?_
    exact loop (zA hs) 0 0 1 _ _ (by omega) hz Off.rfl (Or.inl ⟨rfl, rfl, rfl, rfl⟩)
end MOD7
