/-! THE REFERENCE'S CALLS, sixth: THE MAN, the text -/
def chM (n k : Nat) : Nat → Nat
  | 0 => 1
  | i + 1 => chM n k i * (n - k + (i + 1)) / (i + 1)
theorem chM_eq {n k : Nat} (hn : n ≤ 4) (hk : k ≤ n) : chM n k k = chC n k := by
  rcases (show n = 0 ∨ n = 1 ∨ n = 2 ∨ n = 3 ∨ n = 4 by omega) with rfl | rfl | rfl | rfl | rfl <;>
  rcases (show k = 0 ∨ k = 1 ∨ k = 2 ∨ k = 3 ∨ k = 4 by omega) with rfl | rfl | rfl | rfl | rfl <;> first | decide | omega
theorem chM_le {n k i : Nat} (hn : n ≤ 4) (hk : k ≤ n) (hi : i ≤ k) : chM n k i ≤ 24 := by
  rcases (show n = 0 ∨ n = 1 ∨ n = 2 ∨ n = 3 ∨ n = 4 by omega) with rfl | rfl | rfl | rfl | rfl <;>
  rcases (show k = 0 ∨ k = 1 ∨ k = 2 ∨ k = 3 ∨ k = 4 by omega) with rfl | rfl | rfl | rfl | rfl <;>
  rcases (show i = 0 ∨ i = 1 ∨ i = 2 ∨ i = 3 ∨ i = 4 by omega) with rfl | rfl | rfl | rfl | rfl <;> first | decide | omega
theorem lkP_eq (p d : Nat) : ∀ i, lkP p d (d + i) = p ^ d * (10 - p) ^ i := by
  have h0 : ∀ j, j ≤ d → lkP p d j = p ^ j := by
    intro j
    induction j with
    | zero => intro _; simp [lkP]
    | succ j ih => intro hj; rw [lkP, ih (by omega), if_pos (by omega), Nat.pow_succ]
  intro i
  induction i with
  | zero => rw [Nat.add_zero, h0 d (Nat.le_refl _)]; simp
  | succ i ih => rw [← Nat.add_assoc, lkP, ih, if_neg (by omega), Nat.pow_succ, Nat.mul_assoc]
theorem lik_eq {p n d : Nat} (hn : n ≤ 4) (hd : d ≤ n) : lik p n d = chM n d d * p ^ d * (10 - p) ^ (n - d) := by
  unfold lik
  rw [chM_eq hn hd, show lkP p d n = lkP p d (d + (n - d)) by rw [Nat.add_sub_cancel' hd], lkP_eq, Nat.mul_assoc]
section MOD8
variable {E : EV} {M : Nat} {I J : Nat → Nat → Int} {n : Nat} {tx : Nat → Int} {hs : HS} {C : CS} {kn : Nat} {K : Nat → CS}
theorem m_choose {R : Nat → Nat → Option Nat} (n k : Nat) (hn : n ≤ 4) (hk : k ≤ n) : FnF E mdX12_choose 0 M R [vi (n : Int), vi (k : Int)] I J (some (vl (chM n k k : Int))) I J := by
  refine FnQ.of (by decide +kernel) (Nat.le_of_ble_eq_true rfl) ?_
  show GM E mdX12_choose 0 M R _ I J 0 [some (vi (n : Int)), some (vi (k : Int)), none, none, none] []
  have loop : ∀ (r i : Nat), i + r = k → GM E mdX12_choose 0 M R (QF (some (vl (chM n k k : Int))) I J) I J 5 [some (vi (n : Int)), some (vi (k : Int)), some (vl (chM n k i : Int)), none, some (vi ((i + 1 : Nat) : Int))] [] := by
    intro r
    induction r with
    | zero =>
      intro i hi
      have hi : i = k := by omega
      subst hi
      refine G_iload (pc := 5) dX12_choose_5 rfl ?_
      refine G_iload_n (pc := 7) dX12_choose_7 rfl ?_
      refine G_icmp_gt (pc := 8) (tgt := 31) dX12_choose_8 (Ri.mk (by omega) (by omega)) (Ri.mk (by omega) (by omega)) (by decide) (fun h_8 => ?_) (fun h_8 => ?_)
      · refine G_lload_n (pc := 31) dX12_choose_31 rfl ?_
        refine G_lret (pc := 32) dX12_choose_32 rfl ?_
        exact ⟨rfl, rfl, rfl⟩
      · exact absurd h_8 (by omega)
    | succ r ih =>
      intro i hi
      have hl := chM_le hn hk (show i ≤ k by omega)
      have hm := Nat.mul_le_mul hl (show n - k + (i + 1) ≤ 10 by omega)
      refine G_iload (pc := 5) dX12_choose_5 rfl ?_
      refine G_iload_n (pc := 7) dX12_choose_7 rfl ?_
      refine G_icmp_gt (pc := 8) (tgt := 31) dX12_choose_8 (Ri.mk (by omega) (by omega)) (Ri.mk (by omega) (by omega)) (by decide) (fun h_8 => ?_) (fun h_8 => ?_)
      · exact absurd h_8 (by omega)
      · refine G_lload_n (pc := 11) dX12_choose_11 rfl ?_
        refine G_iload_n (pc := 12) dX12_choose_12 rfl ?_
        refine G_iload_n (pc := 13) dX12_choose_13 rfl ?_
        refine G_isub (pc := 14) dX12_choose_14 ?_
        refine G_iload (pc := 15) dX12_choose_15 rfl ?_
        refine G_iadd (pc := 17) dX12_choose_17 ?_
        refine G_i2l (pc := 18) dX12_choose_18 (Ri.mk (by omega) (by omega)) ?_
        rw [show (n : Int) - (k : Int) + ((i + 1 : Nat) : Int) = ((n - k + (i + 1) : Nat) : Int) by omega]
        refine G_lmul (pc := 19) dX12_choose_19 ?_
        rw [← Int.natCast_mul]
        refine G_iload (pc := 20) dX12_choose_20 rfl ?_
        refine G_i2l (pc := 22) dX12_choose_22 (Ri.mk (by omega) (by omega)) ?_
        refine G_ldiv (pc := 23) dX12_choose_23 (Rl.mk (by omega) (by omega)) (Rl.mk (by omega) (by omega)) (by omega) ?_
        refine G_lstore_n (pc := 24) (lv' := [_, _, _, _, _]) dX12_choose_24 (by decide) rfl ?_
        refine G_iinc (pc := 25) (lv' := [_, _, _, _, _]) dX12_choose_25 (by decide) rfl rfl ?_
        refine G_goto (pc := 28) (tgt := 5) dX12_choose_28 (by decide) ?_
        exact ih (i + 1) (by omega)
  refine G_lconst (pc := 0) dX12_choose_0 ?_
  refine G_lstore_n (pc := 1) (lv' := [_, _, _, _, _]) dX12_choose_1 (by decide) rfl ?_
  refine G_iconst (pc := 2) dX12_choose_2 ?_
  refine G_istore (pc := 3) (lv' := [_, _, _, _, _]) dX12_choose_3 (by decide) rfl ?_
  exact loop k 0 (by omega)
theorem m_power {R : Nat → Nat → Option Nat} (b n : Nat) (hb : b ≤ 10) (hn : n ≤ 4) : FnF E mdX12_power 0 M R [vi (b : Int), vi (n : Int)] I J (some (vl ((b ^ n : Nat) : Int))) I J := by
  refine FnQ.of (by decide +kernel) (Nat.le_of_ble_eq_true rfl) ?_
  show GM E mdX12_power 0 M R _ I J 0 [some (vi (b : Int)), some (vi (n : Int)), none, none, none] []
  have loop : ∀ (r i : Nat), i + r = n → GM E mdX12_power 0 M R (QF (some (vl ((b ^ n : Nat) : Int))) I J) I J 5 [some (vi (b : Int)), some (vi (n : Int)), some (vl ((b ^ i : Nat) : Int)), none, some (vi (i : Int))] [] := by
    intro r
    induction r with
    | zero =>
      intro i hi
      have hi : i = n := by omega
      subst hi
      refine G_iload (pc := 5) dX12_power_5 rfl ?_
      refine G_iload_n (pc := 7) dX12_power_7 rfl ?_
      refine G_icmp_ge (pc := 8) (tgt := 22) dX12_power_8 (Ri.mk (by omega) (by omega)) (Ri.mk (by omega) (by omega)) (by decide) (fun h_8 => ?_) (fun h_8 => ?_)
      · refine G_lload_n (pc := 22) dX12_power_22 rfl ?_
        refine G_lret (pc := 23) dX12_power_23 rfl ?_
        exact ⟨rfl, rfl, rfl⟩
      · exact absurd h_8 (by omega)
    | succ r ih =>
      intro i hi
      refine G_iload (pc := 5) dX12_power_5 rfl ?_
      refine G_iload_n (pc := 7) dX12_power_7 rfl ?_
      refine G_icmp_ge (pc := 8) (tgt := 22) dX12_power_8 (Ri.mk (by omega) (by omega)) (Ri.mk (by omega) (by omega)) (by decide) (fun h_8 => ?_) (fun h_8 => ?_)
      · exact absurd h_8 (by omega)
      · refine G_lload_n (pc := 11) dX12_power_11 rfl ?_
        refine G_iload_n (pc := 12) dX12_power_12 rfl ?_
        refine G_i2l (pc := 13) dX12_power_13 (Ri.mk (by omega) (by omega)) ?_
        refine G_lmul (pc := 14) dX12_power_14 ?_
        refine G_lstore_n (pc := 15) (lv' := [_, _, _, _, _]) dX12_power_15 (by decide) rfl ?_
        refine G_iinc (pc := 16) (lv' := [_, _, _, _, _]) dX12_power_16 (by decide) rfl rfl ?_
        refine G_goto (pc := 19) (tgt := 5) dX12_power_19 (by decide) ?_
        refine G_eq rfl rfl ?_ rfl (ih (i + 1) (by omega))
        rw [Nat.pow_succ, Int.natCast_mul]; rfl
  refine G_lconst (pc := 0) dX12_power_0 ?_
  refine G_lstore_n (pc := 1) (lv' := [_, _, _, _, _]) dX12_power_1 (by decide) rfl ?_
  refine G_iconst (pc := 2) dX12_power_2 ?_
  refine G_istore (pc := 3) (lv' := [_, _, _, _, _]) dX12_power_3 (by decide) rfl ?_
  exact loop n 0 (by omega)
theorem y_man (p : Int) (hM : 87 ≤ M) (hC : MI I n tx hs C kn K) (hW : WF n tx hs C kn K) (rp : Ri p) : FnQ E mdX12_man 8 M Rf [vr E 71, vi p] I J (MQl I J (aMan hs C p) n tx hs C kn K) := by
  have hH := hC.2.1
  have hT := hC.2.2.2.1
  obtain ⟨-, -, hB, -, -, hRB, hTB, -⟩ := id hW
  have r3 := rp.lo
  have r4 := rp.hi
  have b11 := hB.2.2.2.2.2.2.1
  have t3 := hTB.1
  have g1 : prodN (wiT hs C) (C 3 0) ≤ 600000 ^ 3 := Nat.le_trans (prodN_le fun i hi => wiT_le hTB hi) (Nat.pow_le_pow_right (by decide) t3)
  have g2 : prodN (woT hs C) (C 3 0) ≤ 600000 ^ 3 := Nat.le_trans (prodN_le fun i hi => woT_le hTB hi) (Nat.pow_le_pow_right (by decide) t3)
  have g3 := Nat.mul_le_mul b11 g1
  have g4 := Nat.mul_le_mul (show 10 - hs 11 0 ≤ 10 by omega) g2
  have g5 : wiP hs C ≤ 10 * 600000 ^ 3 := g3
  have g6 : woP hs C ≤ 10 * 600000 ^ 3 := g4
  refine FnQ.of (by decide +kernel) (Nat.le_of_ble_eq_true rfl) ?_
  show GM E mdX12_man 8 M Rf _ I J 0 [some (vr E 71), some (vi p), none, none, none, none, none, none, none, none] []
  have loop : ∀ (r i : Nat) (d e f : Option Value), i + r = C 3 0 → (0 ≤ p ∧ p ≤ 1) → GM E mdX12_man 8 M Rf (MQl I J (aMan hs C p) n tx hs C kn K) I J 37 [some (vr E 71), some (vi p), some (vl ((hs 11 0 * prodN (wiT hs C) i : Nat) : Int)), none, some (vl (((10 - hs 11 0) * prodN (woT hs C) i : Nat) : Int)), none, some (vi (i : Int)), d, e, f] [] := by
    intro r
    induction r with
    | zero =>
      intro i d e f hi hp
      have hi : i = C 3 0 := by omega
      subst hi
      rw [show hs 11 0 * prodN (wiT hs C) (C 3 0) = wiP hs C from rfl, show (10 - hs 11 0) * prodN (woT hs C) (C 3 0) = woP hs C from rfl]
      refine G_iload (pc := 37) dX12_man_37 rfl ?_
      refine G_aload_n (pc := 39) dX12_man_39 rfl ?_
      refine G_getr (pc := 40) dX12_man_40 fiX12_38 (by first | rfl | assumption) (by omega) (by first | rfl | assumption) ?_
      refine G_iconst (pc := 43) dX12_man_43 ?_
      refine G_ialdv (pc := 44) dX12_man_44 (by first | rfl | assumption) (by omega) (by omega) (by omega) (by omega) (hT.n rfl) ?_
      refine G_icmp_ge (pc := 45) (tgt := 195) dX12_man_45 (Ri.mk (by omega) (by omega)) (Ri.mk (by omega) (by omega)) (by decide) (fun h_45 => ?_) (fun h_45 => ?_)
      · refine G_lload_n (pc := 195) dX12_man_195 rfl ?_
        refine G_lload (pc := 196) dX12_man_196 rfl ?_
        refine G_ladd (pc := 198) dX12_man_198 ?_
        refine G_lconst (pc := 199) dX12_man_199 ?_
        refine G_lc_ne (pc := 200) (tgt := 208) dX12_man_200 dX12_man_201 (Rl.mk (by omega) (by omega)) (Rl.mk (by omega) (by omega)) (by decide) (fun h_200 => ?_) (fun h_200 => ?_)
        · refine G_aload_n (pc := 208) dX12_man_208 rfl ?_
          refine G_lload_n (pc := 209) dX12_man_209 rfl ?_
          refine G_lload_n (pc := 210) dX12_man_210 rfl ?_
          refine G_lload (pc := 211) dX12_man_211 rfl ?_
          refine G_ladd (pc := 213) dX12_man_213 ?_
          rw [← Int.natCast_add]
          refine G_callV0 (pc := 214) (md := mdX12_lowest) (av := [_, _]) dX12_man_214 lkX12_178 mwX12_lowest (m_lowest _ _ (by omega) (by omega) (by omega) hM) rfl (by first | rfl | assumption) (by omega) rfl rfl (Nat.le_of_ble_eq_true rfl) (by decide) ⟨Nat.zero_le _, Nat.zero_le _⟩ ?_
          refine G_iload_n (pc := 217) dX12_man_217 rfl ?_
          refine G_if_ne (pc := 218) (tgt := 228) dX12_man_218 rp (by decide) (fun h_218 => ?_) (fun h_218 => ?_)
          · try simp only [bI_eq0, bI_ne0] at h_218
            refine G_aload_n (pc := 228) dX12_man_228 rfl ?_
            refine G_getlv (pc := 229) dX12_man_229 fiX12_175 (by first | rfl | assumption) (by omega) ((show wr (wr J 71 16 _) 71 17 _ 71 17 = _ from wr_s)) ?_
            refine G_lret (pc := 232) dX12_man_232 rfl ?_
            exact ⟨by unfold aMan; rw [if_pos hp, aFr, if_neg (by omega)]; first | rw [if_pos (by omega)] | rw [if_neg (by omega)], Off.rfl, (Off.rfl.set (by omega) (by omega)).set (by omega) (by omega), hC⟩
          · try simp only [bI_eq0, bI_ne0] at h_218
            refine G_aload_n (pc := 221) dX12_man_221 rfl ?_
            refine G_getlv (pc := 222) dX12_man_222 fiX12_171 (by first | rfl | assumption) (by omega) ((show wr (wr J 71 16 _) 71 17 _ 71 16 = _ by rw [wr_n (by decide), wr_s])) ?_
            refine G_goto (pc := 225) (tgt := 232) dX12_man_225 (by decide) ?_
            refine G_lret (pc := 232) dX12_man_232 rfl ?_
            exact ⟨by unfold aMan; rw [if_pos hp, aFr, if_neg (by omega)]; first | rw [if_pos (by omega)] | rw [if_neg (by omega)], Off.rfl, (Off.rfl.set (by omega) (by omega)).set (by omega) (by omega), hC⟩
        · refine G_ldc2 (pc := 204) dX12_man_204 klX12_165 ?_
          refine G_lret (pc := 207) dX12_man_207 rfl ?_
          exact ⟨by unfold aMan; rw [if_pos hp, aFr, if_pos (by omega)], Off.rfl, Off.rfl, hC⟩
      · exact absurd h_45 (by omega)
    | succ r ih =>
      intro i d e f hi hp
      have hb := hTB.2 i (by omega)
      have bS := hB.1
      have bA := hB.2.1
      have hd5 := dO_le hs (C 4 i) (C 5 i) 0
      have hpt := pT_le hs C i
      refine G_iload (pc := 37) dX12_man_37 rfl ?_
      refine G_aload_n (pc := 39) dX12_man_39 rfl ?_
      refine G_getr (pc := 40) dX12_man_40 fiX12_38 (by first | rfl | assumption) (by omega) (by first | rfl | assumption) ?_
      refine G_iconst (pc := 43) dX12_man_43 ?_
      refine G_ialdv (pc := 44) dX12_man_44 (by first | rfl | assumption) (by omega) (by omega) (by omega) (by omega) (hT.n rfl) ?_
      refine G_icmp_ge (pc := 45) (tgt := 195) dX12_man_45 (Ri.mk (by omega) (by omega)) (Ri.mk (by omega) (by omega)) (by decide) (fun h_45 => ?_) (fun h_45 => ?_)
      · exact absurd h_45 (by omega)
      · refine G_aload_n (pc := 48) dX12_man_48 rfl ?_
        refine G_aload_n (pc := 49) dX12_man_49 rfl ?_
        refine G_getr (pc := 50) dX12_man_50 fiX12_41 (by first | rfl | assumption) (by omega) (by first | rfl | assumption) ?_
        refine G_iconst (pc := 53) dX12_man_53 ?_
        refine G_iload (pc := 54) dX12_man_54 rfl ?_
        refine G_imul (pc := 56) dX12_man_56 ?_
        refine G_ialdv (pc := 57) dX12_man_57 (by first | rfl | assumption) (by omega) (by omega) (by omega) (by omega) (hT.g i 4 (by omega) (by omega) (by omega)) ?_
        refine G_aload_n (pc := 58) dX12_man_58 rfl ?_
        refine G_getr (pc := 59) dX12_man_59 fiX12_41 (by first | rfl | assumption) (by omega) (by first | rfl | assumption) ?_
        refine G_iconst (pc := 62) dX12_man_62 ?_
        refine G_iload (pc := 63) dX12_man_63 rfl ?_
        refine G_imul (pc := 65) dX12_man_65 ?_
        refine G_iconst (pc := 66) dX12_man_66 ?_
        refine G_iadd (pc := 67) dX12_man_67 ?_
        refine G_ialdv (pc := 68) dX12_man_68 (by first | rfl | assumption) (by omega) (by omega) (by omega) (by omega) (hT.g i 5 (by omega) (by omega) (by omega)) ?_
        refine G_iconst (pc := 69) dX12_man_69 ?_
        refine G_callV1 (pc := 70) (md := mdX12_doing) (av := [_, _, _]) dX12_man_70 lkX12_137 mwX12_doing (m_doing (C 4 i) (C 5 i) 0 hM hH hB (by omega) (by omega) (by omega)) rfl (by first | rfl | assumption) (by omega) rfl rfl (Nat.le_of_ble_eq_true rfl) (by decide) ⟨Nat.zero_le _, Nat.zero_le _⟩ ?_
        refine G_bipush (pc := 73) dX12_man_73 (by decide) ?_
        refine G_idiv (pc := 75) dX12_man_75 (Ri.mk (by omega) (by omega)) (Ri.mk (by omega) (by omega)) (by omega) ?_
        refine G_st (st' := [vi (pT hs C i : Int)]) rfl ?_
        refine G_istore (pc := 76) (lv' := [_, _, _, _, _, _, _, _, _, _]) dX12_man_76 (by decide) rfl ?_
        refine G_aload_n (pc := 78) dX12_man_78 rfl ?_
        refine G_getr (pc := 79) dX12_man_79 fiX12_41 (by first | rfl | assumption) (by omega) (by first | rfl | assumption) ?_
        refine G_iconst (pc := 82) dX12_man_82 ?_
        refine G_iload (pc := 83) dX12_man_83 rfl ?_
        refine G_imul (pc := 85) dX12_man_85 ?_
        refine G_iconst (pc := 86) dX12_man_86 ?_
        refine G_iadd (pc := 87) dX12_man_87 ?_
        refine G_ialdv (pc := 88) dX12_man_88 (by first | rfl | assumption) (by omega) (by omega) (by omega) (by omega) (hT.g i 6 (by omega) (by omega) (by omega)) ?_
        refine G_istore (pc := 89) (lv' := [_, _, _, _, _, _, _, _, _, _]) dX12_man_89 (by decide) rfl ?_
        refine G_aload_n (pc := 91) dX12_man_91 rfl ?_
        refine G_getr (pc := 92) dX12_man_92 fiX12_41 (by first | rfl | assumption) (by omega) (by first | rfl | assumption) ?_
        refine G_iconst (pc := 95) dX12_man_95 ?_
        refine G_iload (pc := 96) dX12_man_96 rfl ?_
        refine G_imul (pc := 98) dX12_man_98 ?_
        refine G_iconst (pc := 99) dX12_man_99 ?_
        refine G_iadd (pc := 100) dX12_man_100 ?_
        refine G_ialdv (pc := 101) dX12_man_101 (by first | rfl | assumption) (by omega) (by omega) (by omega) (by omega) (hT.g i 7 (by omega) (by omega) (by omega)) ?_
        refine G_istore (pc := 102) (lv' := [_, _, _, _, _, _, _, _, _, _]) dX12_man_102 (by decide) rfl ?_
        refine G_lload (pc := 104) dX12_man_104 rfl ?_
        refine G_iload (pc := 106) dX12_man_106 rfl ?_
        refine G_iload (pc := 108) dX12_man_108 rfl ?_
        refine G_callS1 (pc := 110) (md := mdX12_choose) (av := [_, _]) dX12_man_110 lkX12_194 mwX12_choose (m_choose (C 6 i) (C 7 i) (by omega) (by omega)) rfl rfl (Nat.le_of_ble_eq_true rfl) (by decide) ⟨Nat.zero_le _, Nat.zero_le _⟩ ?_
        refine G_iload (pc := 113) dX12_man_113 rfl ?_
        refine G_iload (pc := 115) dX12_man_115 rfl ?_
        refine G_callS1 (pc := 117) (md := mdX12_power) (av := [_, _]) dX12_man_117 lkX12_197 mwX12_power (m_power (pT hs C i) (C 7 i) hpt (by omega)) rfl rfl (Nat.le_of_ble_eq_true rfl) (by decide) ⟨Nat.zero_le _, Nat.zero_le _⟩ ?_
        refine G_lmul (pc := 120) dX12_man_120 ?_
        refine G_bipush (pc := 121) dX12_man_121 (by decide) ?_
        refine G_iload (pc := 123) dX12_man_123 rfl ?_
        refine G_isub (pc := 125) dX12_man_125 ?_
        refine G_iload (pc := 126) dX12_man_126 rfl ?_
        refine G_iload (pc := 128) dX12_man_128 rfl ?_
        refine G_isub (pc := 130) dX12_man_130 ?_
        refine G_callS1 (pc := 131) (md := mdX12_power) (av := [_, _]) dX12_man_131 lkX12_197 mwX12_power (FnQ.av (by rw [show (10 : Int) - (pT hs C i : Nat) = ((10 - pT hs C i : Nat) : Int) by omega, ← Int.ofNat_sub (show C 7 i ≤ C 6 i by omega)]) (m_power (10 - pT hs C i) (C 6 i - C 7 i) (by omega) (by omega))) rfl rfl (Nat.le_of_ble_eq_true rfl) (by decide) ⟨Nat.zero_le _, Nat.zero_le _⟩ ?_
        refine G_lmul (pc := 134) dX12_man_134 ?_
        refine G_lmul (pc := 135) dX12_man_135 ?_
        refine G_lstore (pc := 136) (lv' := [_, _, _, _, _, _, _, _, _, _]) dX12_man_136 (by decide) rfl ?_
        refine G_lload_n (pc := 138) dX12_man_138 rfl ?_
        refine G_iload (pc := 139) dX12_man_139 rfl ?_
        refine G_if_ne (pc := 141) (tgt := 148) dX12_man_141 (Ri.mk (by omega) (by omega)) (by decide) (fun h_141 => ?_) (fun h_141 => ?_)
        · try simp only [bI_eq0, bI_ne0] at h_141
          refine G_iload (pc := 148) dX12_man_148 rfl ?_
          refine G_iconst (pc := 150) dX12_man_150 ?_
          refine G_isub (pc := 151) dX12_man_151 ?_
          refine G_iload (pc := 152) dX12_man_152 rfl ?_
          refine G_iconst (pc := 154) dX12_man_154 ?_
          refine G_isub (pc := 155) dX12_man_155 ?_
          refine G_callS1 (pc := 156) (md := mdX12_choose) (av := [_, _]) dX12_man_156 lkX12_194 mwX12_choose (FnQ.av (by rw [show (C 6 i : Int) - 1 = ((C 6 i - 1 : Nat) : Int) by omega, show (C 7 i : Int) - 1 = ((C 7 i - 1 : Nat) : Int) by omega]) (m_choose (C 6 i - 1) (C 7 i - 1) (by omega) (by omega))) rfl rfl (Nat.le_of_ble_eq_true rfl) (by decide) ⟨Nat.zero_le _, Nat.zero_le _⟩ ?_
          refine G_iload (pc := 159) dX12_man_159 rfl ?_
          refine G_iload (pc := 161) dX12_man_161 rfl ?_
          refine G_iconst (pc := 163) dX12_man_163 ?_
          refine G_isub (pc := 164) dX12_man_164 ?_
          refine G_callS1 (pc := 165) (md := mdX12_power) (av := [_, _]) dX12_man_165 lkX12_197 mwX12_power (FnQ.av (by rw [show (C 7 i : Int) - 1 = ((C 7 i - 1 : Nat) : Int) by omega]) (m_power (pT hs C i) (C 7 i - 1) hpt (by omega))) rfl rfl (Nat.le_of_ble_eq_true rfl) (by decide) ⟨Nat.zero_le _, Nat.zero_le _⟩ ?_
          refine G_lmul (pc := 168) dX12_man_168 ?_
          refine G_bipush (pc := 169) dX12_man_169 (by decide) ?_
          refine G_iload (pc := 171) dX12_man_171 rfl ?_
          refine G_isub (pc := 173) dX12_man_173 ?_
          refine G_iload (pc := 174) dX12_man_174 rfl ?_
          refine G_iload (pc := 176) dX12_man_176 rfl ?_
          refine G_isub (pc := 178) dX12_man_178 ?_
          refine G_callS1 (pc := 179) (md := mdX12_power) (av := [_, _]) dX12_man_179 lkX12_197 mwX12_power (FnQ.av (by rw [show (10 : Int) - (pT hs C i : Nat) = ((10 - pT hs C i : Nat) : Int) by omega, ← Int.ofNat_sub (show C 7 i ≤ C 6 i by omega)]) (m_power (10 - pT hs C i) (C 6 i - C 7 i) (by omega) (by omega))) rfl rfl (Nat.le_of_ble_eq_true rfl) (by decide) ⟨Nat.zero_le _, Nat.zero_le _⟩ ?_
          refine G_lmul (pc := 182) dX12_man_182 ?_
          refine G_ldc2 (pc := 183) dX12_man_183 klX12_95 ?_
          refine G_lmul (pc := 186) dX12_man_186 ?_
          refine G_lmul (pc := 187) dX12_man_187 ?_
          refine G_lstore_n (pc := 188) (lv' := [_, _, _, _, _, _, _, _, _, _]) dX12_man_188 (by decide) rfl ?_
          refine G_iinc (pc := 189) (lv' := [_, _, _, _, _, _, _, _, _, _]) dX12_man_189 (by decide) rfl rfl ?_
          refine G_goto (pc := 192) (tgt := 37) dX12_man_192 (by decide) ?_
          have ewo : woT hs C i = chM (C 6 i) (C 7 i) (C 7 i) * pT hs C i ^ C 7 i * (10 - pT hs C i) ^ (C 6 i - C 7 i) := lik_eq (by omega) (by omega)
          have ewi : wiT hs C i = if C 7 i = 0 then 0 else chM (C 6 i - 1) (C 7 i - 1) (C 7 i - 1) * pT hs C i ^ (C 7 i - 1) * (10 - pT hs C i) ^ (C 6 i - C 7 i) * 10 := by
            unfold wiT
            by_cases e0 : C 7 i = 0
            · rw [if_pos e0, if_pos e0]
            · rw [if_neg e0, if_neg e0, lik_eq (by omega) (by omega), show C 6 i - 1 - (C 7 i - 1) = C 6 i - C 7 i by omega, Nat.mul_comm 10]
          refine G_eq rfl rfl ?_ rfl (ih (i + 1) (some (vi (pT hs C i : Int))) (some (vi (C 6 i : Int))) (some (vi (C 7 i : Int))) (by omega) hp)
          rw [prodN, prodN, ewo, ewi]
          first
            | (rw [if_pos (by omega), ← Nat.mul_assoc, ← Nat.mul_assoc]; simp only [Int.natCast_mul, Int.mul_assoc]; rfl)
            | (rw [if_neg (by omega), ← Nat.mul_assoc, ← Nat.mul_assoc]; simp only [Int.natCast_mul, Int.mul_assoc]; rfl)
        · try simp only [bI_eq0, bI_ne0] at h_141
          refine G_lconst (pc := 144) dX12_man_144 ?_
          refine G_goto (pc := 145) (tgt := 187) dX12_man_145 (by decide) ?_
          refine G_lmul (pc := 187) dX12_man_187 ?_
          refine G_lstore_n (pc := 188) (lv' := [_, _, _, _, _, _, _, _, _, _]) dX12_man_188 (by decide) rfl ?_
          refine G_iinc (pc := 189) (lv' := [_, _, _, _, _, _, _, _, _, _]) dX12_man_189 (by decide) rfl rfl ?_
          refine G_goto (pc := 192) (tgt := 37) dX12_man_192 (by decide) ?_
          have ewo : woT hs C i = chM (C 6 i) (C 7 i) (C 7 i) * pT hs C i ^ C 7 i * (10 - pT hs C i) ^ (C 6 i - C 7 i) := lik_eq (by omega) (by omega)
          have ewi : wiT hs C i = if C 7 i = 0 then 0 else chM (C 6 i - 1) (C 7 i - 1) (C 7 i - 1) * pT hs C i ^ (C 7 i - 1) * (10 - pT hs C i) ^ (C 6 i - C 7 i) * 10 := by
            unfold wiT
            by_cases e0 : C 7 i = 0
            · rw [if_pos e0, if_pos e0]
            · rw [if_neg e0, if_neg e0, lik_eq (by omega) (by omega), show C 6 i - 1 - (C 7 i - 1) = C 6 i - C 7 i by omega, Nat.mul_comm 10]
          refine G_eq rfl rfl ?_ rfl (ih (i + 1) (some (vi (pT hs C i : Int))) (some (vi (C 6 i : Int))) (some (vi (C 7 i : Int))) (by omega) hp)
          rw [prodN, prodN, ewo, ewi]
          first
            | (rw [if_pos (by omega), ← Nat.mul_assoc, ← Nat.mul_assoc]; simp only [Int.natCast_mul, Int.mul_assoc]; rfl)
            | (rw [if_neg (by omega), ← Nat.mul_assoc, ← Nat.mul_assoc]; simp only [Int.natCast_mul, Int.mul_assoc]; rfl)
  refine G_iload_n (pc := 0) dX12_man_0 rfl ?_
  refine G_i2l (pc := 1) dX12_man_1 (by first | exact bI_R | exact rp) ?_
  refine G_lconst (pc := 2) dX12_man_2 ?_
  refine G_lconst (pc := 3) dX12_man_3 ?_
  refine G_callS1 (pc := 4) (md := mdX12_in) (av := [_, _, _]) dX12_man_4 lkX12_66 mwX12_in (m_inI _ _ _ (0 ≤ p ∧ p ≤ 1) (by omega) (Rl.mk (by omega) (by omega)) (Rl.mk (by omega) (by omega)) (Rl.mk (by omega) (by omega))) rfl rfl (Nat.le_of_ble_eq_true rfl) (by decide) ⟨Nat.zero_le _, Nat.zero_le _⟩ ?_
  refine G_if_ne (pc := 7) (tgt := 14) dX12_man_7 (by first | exact bI_R | exact rp) (by decide) (fun h_7 => ?_) (fun h_7 => ?_)
  · try simp only [bI_eq0, bI_ne0] at h_7
    refine G_aload_n (pc := 14) dX12_man_14 rfl ?_
    refine G_getr (pc := 15) dX12_man_15 fiX12_29 (by first | rfl | assumption) (by omega) (by first | rfl | assumption) ?_
    refine G_iconst (pc := 18) dX12_man_18 ?_
    refine G_ialdv (pc := 19) dX12_man_19 (by first | rfl | assumption) (by omega) (by omega) (by omega) (by omega) (hH.re 11 (by omega) rfl) ?_
    refine G_i2l (pc := 20) dX12_man_20 (Ri.mk (by omega) (by omega)) ?_
    refine G_lstore_n (pc := 21) (lv' := [_, _, _, _, _, _, _, _, _, _]) dX12_man_21 (by decide) rfl ?_
    refine G_bipush (pc := 22) dX12_man_22 (by decide) ?_
    refine G_aload_n (pc := 24) dX12_man_24 rfl ?_
    refine G_getr (pc := 25) dX12_man_25 fiX12_29 (by first | rfl | assumption) (by omega) (by first | rfl | assumption) ?_
    refine G_iconst (pc := 28) dX12_man_28 ?_
    refine G_ialdv (pc := 29) dX12_man_29 (by first | rfl | assumption) (by omega) (by omega) (by omega) (by omega) (hH.re 11 (by omega) rfl) ?_
    refine G_isub (pc := 30) dX12_man_30 ?_
    refine G_i2l (pc := 31) dX12_man_31 (Ri.mk (by omega) (by omega)) ?_
    refine G_lstore (pc := 32) (lv' := [_, _, _, _, _, _, _, _, _, _]) dX12_man_32 (by decide) rfl ?_
    refine G_iconst (pc := 34) dX12_man_34 ?_
    refine G_istore (pc := 35) (lv' := [_, _, _, _, _, _, _, _, _, _]) dX12_man_35 (by decide) rfl ?_
    refine G_eq rfl rfl ?_ rfl (loop (C 3 0) 0 none none none (by omega) (by omega))
    rw [prodN, prodN, Nat.mul_one, Nat.mul_one, Int.ofNat_sub b11]; rfl
  · try simp only [bI_eq0, bI_ne0] at h_7
    refine G_ldc2 (pc := 10) dX12_man_10 klX12_163 ?_
    refine G_lret (pc := 13) dX12_man_13 rfl ?_
    exact ⟨by unfold aMan; rw [if_neg (by omega)], Off.rfl, Off.rfl, hC⟩
theorem y_write (k v : Int) (hM : 87 ≤ M) (hC : MI I n tx hs C kn K) (hW : WF n tx hs C kn K) (rk : Ri k) (rv : Rl v) : FnQ E mdX12_write 8 M Rf [vr E 71, vi k, vl v] I J (MQS I J (aWrite n k) (sWrite (n, tx, hs, C, kn, K) k v)) := by
  have v1 := hC.1.1
  have hn := hW.1
  have r3 := rk.lo
  have r4 := rk.hi
  have mtx : ∀ {I' : Nat → Nat → Int} {n' : Nat} {tx' : Nat → Int}, XM I' n' tx' → I' 71 10 = I 71 10 → (∀ q, 73 ≤ q → q ≤ 82 → I' q = I q) → MI I' n' tx' hs C kn K := by
    intro I' n' tx' hX h10 hI
    obtain ⟨h1, h2, h3, h4, h5, h6, h7⟩ := hC
    have o : ∀ j C, RM I j C ∧ TM I j C → RM I' j C ∧ TM I' j C := fun j C z => ⟨z.1.off (hI _ (by omega) (by omega)) (hI _ (by omega) (by omega)), z.2.off (hI _ (by omega) (by omega)) (hI _ (by omega) (by omega))⟩
    exact ⟨hX, h2.off fun q a b => hI q (by omega) (by omega), (o 0 C ⟨h3, h4⟩).1, (o 0 C ⟨h3, h4⟩).2, by rw [h10]; exact h5, fun z => o _ _ (h6 z), fun z => o _ _ (h7 z)⟩
  refine FnQ.of (by decide +kernel) (Nat.le_of_ble_eq_true rfl) ?_
  show GM E mdX12_write 8 M Rf _ I J 0 [some (vr E 71), some (vi k), some (vl v), none, none] []
  have loop : ∀ (b : Nat) (I' : Nat → Nat → Int), b ≤ k.toNat → (1 ≤ k ∧ k ≤ 8) → (n : Int) + k ≤ 400 → XM I' (n + (k.toNat - b)) (txW tx n k.toNat v) → I' 71 10 = I 71 10 → (∀ q, 73 ≤ q → q ≤ 82 → I' q = I q) → Off I I' 71 86 → GM E mdX12_write 8 M Rf (MQS I J (aWrite n k) (sWrite (n, tx, hs, C, kn, K) k v)) I' J 34 [some (vr E 71), some (vi k), some (vl v), none, some (vi ((b : Int) - 1))] [] := by
    intro b
    induction b with
    | zero =>
      intro I' hb hk hk4 hX h10 hI hO
      refine G_iload (pc := 34) dX12_write_34 rfl ?_
      refine G_if_lt (pc := 36) (tgt := 73) dX12_write_36 (Ri.mk (by omega) (by omega)) (by decide) (fun h_36 => ?_) (fun h_36 => ?_)
      · refine G_aload_n (pc := 73) dX12_write_73 rfl ?_
        refine G_getiv (pc := 74) dX12_write_74 fiX12_70 (by first | rfl | assumption) (by omega) (hX.1) ?_
        refine G_iret (pc := 77) dX12_write_77 rfl ?_
        refine ⟨?_, hO, Off.rfl, ?_⟩
        · unfold aWrite; rw [if_pos hk, if_pos hk4]; congr 2; omega
        · unfold sWrite; rw [if_pos ⟨hk, hk4⟩]; exact mtx hX h10 hI
      · exact absurd h_36 (by omega)
    | succ b ih =>
      intro I' hb hk hk4 hX h10 hI hO
      have e1 := hX.1
      refine G_iload (pc := 34) dX12_write_34 rfl ?_
      refine G_if_lt (pc := 36) (tgt := 73) dX12_write_36 (Ri.mk (by omega) (by omega)) (by decide) (fun h_36 => ?_) (fun h_36 => ?_)
      · exact absurd h_36 (by omega)
      · refine G_aload_n (pc := 39) dX12_write_39 rfl ?_
        refine G_getr (pc := 40) dX12_write_40 fiX12_7 (by first | rfl | assumption) (by omega) (by first | rfl | assumption) ?_
        refine G_aload_n (pc := 43) dX12_write_43 rfl ?_
        refine G_getiv (pc := 44) dX12_write_44 fiX12_70 (by first | rfl | assumption) (by omega) (e1) ?_
        refine G_lload_n (pc := 47) dX12_write_47 rfl ?_
        refine G_bipush (pc := 48) dX12_write_48 (by decide) ?_
        refine G_iload (pc := 50) dX12_write_50 rfl ?_
        refine G_imul (pc := 52) dX12_write_52 ?_
        refine G_st (st' := [vi ((8 * b : Nat) : Int), vl v, vi ((n + (k.toNat - (b + 1)) : Nat) : Int), vr E 72]) (by rw [show (8 : Int) * (((b + 1 : Nat) : Int) - 1) = ((8 * b : Nat) : Int) by omega]) ?_
        refine G_lshr (pc := 53) dX12_write_53 rv (by omega) ?_
        refine G_l2i (pc := 54) dX12_write_54 ?_
        refine G_i2b (pc := 55) dX12_write_55 ?_
        rw [show (v / (2 : Int) ^ (8 * b)).bmod 256 = bt v b from rfl]
        refine G_bast (pc := 56) dX12_write_56 (by first | rfl | assumption) (by omega) (by omega) (by omega) (by omega) (by have := bt_R v b; omega) ?_
        refine G_aload_n (pc := 57) dX12_write_57 rfl ?_
        refine G_dup (pc := 58) dX12_write_58 rfl ?_
        refine G_getiv (pc := 59) dX12_write_59 fiX12_70 (by first | rfl | assumption) (by omega) ((show wr I' 72 _ _ 71 0 = ((n + (k.toNat - (b + 1)) : Nat) : Int) by rw [wr_o (by decide)]; exact e1)) ?_
        refine G_iconst (pc := 62) dX12_write_62 ?_
        refine G_iadd (pc := 63) dX12_write_63 ?_
        refine G_puti (pc := 64) dX12_write_64 fiX12_70 (by first | rfl | assumption) (by omega) ?_
        refine G_iinc (pc := 67) (lv' := [_, _, _, _, _]) dX12_write_67 (by decide) rfl rfl ?_
        refine G_goto (pc := 70) (tgt := 34) dX12_write_70 (by decide) ?_
        rw [Int.toNat_natCast]
        refine G_eq rfl rfl (by rw [show ((b + 1 : Nat) : Int) - 1 + -1 = (b : Int) - 1 by omega]; rfl) rfl (ih _ (by omega) hk hk4 ⟨?_, fun i hi => ?_⟩ (by rw [wr_n (by decide), wr_o (by decide)]; exact h10) (fun q a c => by simp (disch := omega) only [wr_o]; exact hI q a c) ((hO.set (by omega) (by omega)).set (by omega) (by omega)))
        · rw [wr_s]; omega
        · rw [wr_o (by decide)]
          by_cases e : i = n + (k.toNat - (b + 1))
          · subst e; rw [wr_s]; unfold txW; rw [if_pos (by omega)]; congr 1; omega
          · rw [wr_n e]; exact hX.2 i (by omega)
  refine G_iload_n (pc := 0) dX12_write_0 rfl ?_
  refine G_i2l (pc := 1) dX12_write_1 (by first | exact bI_R | exact rk | exact Ri.mk (by omega) (by omega)) ?_
  refine G_lconst (pc := 2) dX12_write_2 ?_
  refine G_ldc2 (pc := 3) dX12_write_3 klX12_64 ?_
  refine G_callS1 (pc := 6) (md := mdX12_in) (av := [_, _, _]) dX12_write_6 lkX12_66 mwX12_in (m_inI _ _ _ (1 ≤ k ∧ k ≤ 8) (by omega) (Rl.mk (by omega) (by omega)) (Rl.mk (by omega) (by omega)) (Rl.mk (by omega) (by omega))) rfl rfl (Nat.le_of_ble_eq_true rfl) (by decide) ⟨Nat.zero_le _, Nat.zero_le _⟩ ?_
  refine G_if_ne (pc := 9) (tgt := 14) dX12_write_9 (by first | exact bI_R | exact rk | exact Ri.mk (by omega) (by omega)) (by decide) (fun h_9 => ?_) (fun h_9 => ?_)
  · try simp only [bI_eq0, bI_ne0] at h_9
    refine G_aload_n (pc := 14) dX12_write_14 rfl ?_
    refine G_getiv (pc := 15) dX12_write_15 fiX12_70 (by first | rfl | assumption) (by omega) (v1) ?_
    refine G_iload_n (pc := 18) dX12_write_18 rfl ?_
    refine G_iadd (pc := 19) dX12_write_19 ?_
    refine G_sipush (pc := 20) dX12_write_20 (by decide) ?_
    refine G_icmp_le (pc := 23) (tgt := 29) dX12_write_23 (by first | exact bI_R | exact rk | exact Ri.mk (by omega) (by omega)) (Ri.mk (by omega) (by omega)) (by decide) (fun h_23 => ?_) (fun h_23 => ?_)
    · refine G_iload_n (pc := 29) dX12_write_29 rfl ?_
      refine G_iconst (pc := 30) dX12_write_30 ?_
      refine G_isub (pc := 31) dX12_write_31 ?_
      refine G_istore (pc := 32) (lv' := [_, _, _, _, _]) dX12_write_32 (by decide) rfl ?_
      exact G_eq rfl rfl (by rw [Int.toNat_of_nonneg (show 0 ≤ k by omega)]; rfl) rfl (loop k.toNat I (Nat.le_refl _) (by omega) (by omega) ⟨by rw [v1]; congr 1; omega, fun i hi => by unfold txW; rw [if_neg (by omega)]; exact hC.1.2 i (by omega)⟩ rfl (fun _ _ _ => rfl) Off.rfl)
    · refine G_bipush (pc := 26) dX12_write_26 (by decide) ?_
      refine G_iret (pc := 28) dX12_write_28 rfl ?_
      exact ⟨by unfold aWrite; rw [if_pos (by omega), if_neg (by omega)], Off.rfl, Off.rfl, by unfold sWrite; rw [if_neg (fun z => absurd z.2 (by show ¬ (n : Int) + k ≤ 400; omega))]; exact hC⟩
  · try simp only [bI_eq0, bI_ne0] at h_9
    refine G_iconst (pc := 12) dX12_write_12 ?_
    refine G_iret (pc := 13) dX12_write_13 rfl ?_
    exact ⟨by unfold aWrite; rw [if_neg (by omega)], Off.rfl, Off.rfl, by unfold sWrite; rw [if_neg (fun z => absurd z.1 (by omega))]; exact hC⟩
end MOD8
