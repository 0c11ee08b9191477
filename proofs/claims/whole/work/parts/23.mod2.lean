/-! THE REFERENCE: what is left, the odds -/
theorem RM.n {I : Nat → Nat → Int} {j : Nat} {C : CS} (h : RM I j C) {x : Int} (hx : x = j) : I 79 x.toNat = C 0 0 := by subst hx; rw [Int.toNat_natCast]; exact h.1
theorem RM.a {I : Nat → Nat → Int} {j : Nat} {C : CS} (h : RM I j C) {x : Int} (t : Nat) (ht : t < C 0 0) (hx : x = ((16 * j + 2 * t : Nat) : Int)) : I 80 x.toNat = C 1 t := by subst hx; rw [Int.toNat_natCast]; exact (h.2 t ht).1
theorem RM.k {I : Nat → Nat → Int} {j : Nat} {C : CS} (h : RM I j C) {x : Int} (t : Nat) (ht : t < C 0 0) (hx : x = ((16 * j + 2 * t + 1 : Nat) : Int)) : I 80 x.toNat = C 2 t := by subst hx; rw [Int.toNat_natCast]; exact (h.2 t ht).2
section MOD2
variable {E : EV} {M : Nat} {I J : Nat → Nat → Int} {hs : HS} {C : CS}
theorem m_leftOf (j s : Nat) (hj : j ≤ 3) (hM : 87 ≤ M) (hH : MH I 0 hs) (hB : HB hs) (hR : RM I j C) (hRB : RB hs C) (h1 : s < zS hs) : FnF E mdX12_leftOf 3 M Rf [vr E 71, vi (j : Int), vi (s : Int)] I J (some (vl (lf hs C s : Int))) I J := by
  have bS := hB.1
  have bA := hB.2.1
  have n8 := hRB.1
  have hz := hB.2.2.2.2.1 s h1
  refine FnQ.of (by decide +kernel) (Nat.le_of_ble_eq_true rfl) ?_
  show GM E mdX12_leftOf 3 M Rf _ I J 0 [some (vr E 71), some (vi (j : Int)), some (vi (s : Int)), none, none, none, none] []
  have loop : ∀ (k t : Nat) (x : Int) (d : Option Value), t + k = C 0 0 → x = (lfR hs C s t : Nat) → GM E mdX12_leftOf 3 M Rf (QF (some (vl (lf hs C s : Int))) I J) I J 17 [some (vr E 71), some (vi (j : Int)), some (vi (s : Int)), some (vl x), none, some (vi (t : Int)), d] [] := by
    intro k
    induction k with
    | zero =>
      intro t x d ht hx
      have ht : t = C 0 0 := by omega
      subst ht
      refine G_iload (pc := 17) dX12_leftOf_17 rfl ?_
      refine G_aload_n (pc := 19) dX12_leftOf_19 rfl ?_
      refine G_getr (pc := 20) dX12_leftOf_20 fiX12_32 (by first | rfl | assumption) (by omega) (by first | rfl | assumption) ?_
      refine G_iload_n (pc := 23) dX12_leftOf_23 rfl ?_
      refine G_ialdv (pc := 24) dX12_leftOf_24 (by first | rfl | assumption) (by omega) (by omega) (by omega) (by omega) (hR.n rfl) ?_
      refine G_icmp_ge (pc := 25) (tgt := 93) dX12_leftOf_25 (Ri.mk (by omega) (by omega)) (Ri.mk (by omega) (by omega)) (by decide) (fun h_25 => ?_) (fun h_25 => ?_)
      · refine G_lload_n (pc := 93) dX12_leftOf_93 rfl ?_
        refine G_lret (pc := 94) dX12_leftOf_94 rfl ?_
        exact ⟨by rw [hx]; rfl, rfl, rfl⟩
      · exact absurd h_25 (by omega)
    | succ k ih =>
      intro t x d ht hx
      have hb := hRB.2 t (by omega)
      have hl := lfR_le hs C s t
      have hd := dO_le hs s (C 1 t) 0
      refine G_iload (pc := 17) dX12_leftOf_17 rfl ?_
      refine G_aload_n (pc := 19) dX12_leftOf_19 rfl ?_
      refine G_getr (pc := 20) dX12_leftOf_20 fiX12_32 (by first | rfl | assumption) (by omega) (by first | rfl | assumption) ?_
      refine G_iload_n (pc := 23) dX12_leftOf_23 rfl ?_
      refine G_ialdv (pc := 24) dX12_leftOf_24 (by first | rfl | assumption) (by omega) (by omega) (by omega) (by omega) (hR.n rfl) ?_
      refine G_icmp_ge (pc := 25) (tgt := 93) dX12_leftOf_25 (Ri.mk (by omega) (by omega)) (Ri.mk (by omega) (by omega)) (by decide) (fun h_25 => ?_) (fun h_25 => ?_)
      · exact absurd h_25 (by omega)
      · refine G_aload_n (pc := 28) dX12_leftOf_28 rfl ?_
        refine G_iload_n (pc := 29) dX12_leftOf_29 rfl ?_
        refine G_aload_n (pc := 30) dX12_leftOf_30 rfl ?_
        refine G_getr (pc := 31) dX12_leftOf_31 fiX12_35 (by first | rfl | assumption) (by omega) (by first | rfl | assumption) ?_
        refine G_bipush (pc := 34) dX12_leftOf_34 (by decide) ?_
        refine G_iload_n (pc := 36) dX12_leftOf_36 rfl ?_
        refine G_imul (pc := 37) dX12_leftOf_37 ?_
        refine G_iconst (pc := 38) dX12_leftOf_38 ?_
        refine G_iload (pc := 39) dX12_leftOf_39 rfl ?_
        refine G_imul (pc := 41) dX12_leftOf_41 ?_
        refine G_iadd (pc := 42) dX12_leftOf_42 ?_
        refine G_ialdv (pc := 43) dX12_leftOf_43 (by first | rfl | assumption) (by omega) (by omega) (by omega) (by omega) (hR.a t (by omega) (by omega)) ?_
        refine G_iconst (pc := 44) dX12_leftOf_44 ?_
        refine G_callV1 (pc := 45) (md := mdX12_doing) (av := [_, _, _]) dX12_leftOf_45 lkX12_137 mwX12_doing (m_doing s (C 1 t) 0 hM hH hB h1 hb.1 (by omega)) rfl (by first | rfl | assumption) (by omega) rfl rfl (Nat.le_of_ble_eq_true rfl) (by decide) ⟨Nat.zero_le _, Nat.zero_le _⟩ ?_
        refine G_istore (pc := 48) (lv' := [_, _, _, _, _, _, _]) dX12_leftOf_48 (by decide) rfl ?_
        refine G_lload_n (pc := 50) dX12_leftOf_50 rfl ?_
        refine G_aload_n (pc := 51) dX12_leftOf_51 rfl ?_
        refine G_getr (pc := 52) dX12_leftOf_52 fiX12_35 (by first | rfl | assumption) (by omega) (by first | rfl | assumption) ?_
        refine G_bipush (pc := 55) dX12_leftOf_55 (by decide) ?_
        refine G_iload_n (pc := 57) dX12_leftOf_57 rfl ?_
        refine G_imul (pc := 58) dX12_leftOf_58 ?_
        refine G_iconst (pc := 59) dX12_leftOf_59 ?_
        refine G_iload (pc := 60) dX12_leftOf_60 rfl ?_
        refine G_imul (pc := 62) dX12_leftOf_62 ?_
        refine G_iadd (pc := 63) dX12_leftOf_63 ?_
        refine G_iconst (pc := 64) dX12_leftOf_64 ?_
        refine G_iadd (pc := 65) dX12_leftOf_65 ?_
        refine G_ialdv (pc := 66) dX12_leftOf_66 (by first | rfl | assumption) (by omega) (by omega) (by omega) (by omega) (hR.k t (by omega) (by omega)) ?_
        refine G_if_ne (pc := 67) (tgt := 75) dX12_leftOf_67 (Ri.mk (by omega) (by omega)) (by decide) (fun h_67 => ?_) (fun h_67 => ?_)
        · try simp only [bI_eq0, bI_ne0] at h_67
          refine G_bipush (pc := 75) dX12_leftOf_75 (by decide) ?_
          refine G_iload (pc := 77) dX12_leftOf_77 rfl ?_
          refine G_isub (pc := 79) dX12_leftOf_79 ?_
          refine G_i2l (pc := 80) dX12_leftOf_80 (Ri.mk (by omega) (by omega)) ?_
          refine G_lmul (pc := 81) dX12_leftOf_81 ?_
          subst hx
          first
            | rw [← Int.natCast_mul]
            | rw [show (100 : Int) - (dO hs s (C 1 t) 0 : Nat) = ((100 - dO hs s (C 1 t) 0 : Nat) : Int) by omega, ← Int.natCast_mul]
          have hm1 := Nat.mul_le_mul hl hd
          have hm2 := Nat.mul_le_mul hl (show 100 - dO hs s (C 1 t) 0 ≤ 100 by omega)
          refine G_ldc2 (pc := 82) dX12_leftOf_82 klX12_142 ?_
          refine G_ldiv (pc := 85) dX12_leftOf_85 (Rl.mk (by omega) (by omega)) (Rl.mk (by omega) (by omega)) (by omega) ?_
          refine G_lstore_n (pc := 86) (lv' := [_, _, _, _, _, _, _]) dX12_leftOf_86 (by decide) rfl ?_
          refine G_iinc (pc := 87) (lv' := [_, _, _, _, _, _, _]) dX12_leftOf_87 (by decide) rfl rfl ?_
          refine G_goto (pc := 90) (tgt := 17) dX12_leftOf_90 (by decide) ?_
          refine ih (t + 1) _ _ (by omega) ?_
          rw [lfR]; first | rw [if_pos (by omega)]; rfl | rw [if_neg (by omega)]; rfl
        · try simp only [bI_eq0, bI_ne0] at h_67
          refine G_iload (pc := 70) dX12_leftOf_70 rfl ?_
          refine G_goto (pc := 72) (tgt := 80) dX12_leftOf_72 (by decide) ?_
          refine G_i2l (pc := 80) dX12_leftOf_80 (Ri.mk (by omega) (by omega)) ?_
          refine G_lmul (pc := 81) dX12_leftOf_81 ?_
          subst hx
          first
            | rw [← Int.natCast_mul]
            | rw [show (100 : Int) - (dO hs s (C 1 t) 0 : Nat) = ((100 - dO hs s (C 1 t) 0 : Nat) : Int) by omega, ← Int.natCast_mul]
          have hm1 := Nat.mul_le_mul hl hd
          have hm2 := Nat.mul_le_mul hl (show 100 - dO hs s (C 1 t) 0 ≤ 100 by omega)
          refine G_ldc2 (pc := 82) dX12_leftOf_82 klX12_142 ?_
          refine G_ldiv (pc := 85) dX12_leftOf_85 (Rl.mk (by omega) (by omega)) (Rl.mk (by omega) (by omega)) (by omega) ?_
          refine G_lstore_n (pc := 86) (lv' := [_, _, _, _, _, _, _]) dX12_leftOf_86 (by decide) rfl ?_
          refine G_iinc (pc := 87) (lv' := [_, _, _, _, _, _, _]) dX12_leftOf_87 (by decide) rfl rfl ?_
          refine G_goto (pc := 90) (tgt := 17) dX12_leftOf_90 (by decide) ?_
          refine ih (t + 1) _ _ (by omega) ?_
          rw [lfR]; first | rw [if_pos (by omega)]; rfl | rw [if_neg (by omega)]; rfl
  refine G_ldc2 (pc := 0) dX12_leftOf_0 klX12_140 ?_
  refine G_aload_n (pc := 3) dX12_leftOf_3 rfl ?_
  refine G_getr (pc := 4) dX12_leftOf_4 fiX12_17 (by first | rfl | assumption) (by omega) (by first | rfl | assumption) ?_
  refine G_iconst (pc := 7) dX12_leftOf_7 ?_
  refine G_iload_n (pc := 8) dX12_leftOf_8 rfl ?_
  refine G_imul (pc := 9) dX12_leftOf_9 ?_
  refine G_ialdv (pc := 10) dX12_leftOf_10 (by first | rfl | assumption) (by omega) (by omega) (by omega) (by omega) (hH.so s 0 h1 (by omega) (by omega)) ?_
  refine G_i2l (pc := 11) dX12_leftOf_11 (Ri.mk (by omega) (by omega)) ?_
  refine G_lmul (pc := 12) dX12_leftOf_12 ?_
  refine G_lstore_n (pc := 13) (lv' := [_, _, _, _, _, _, _]) dX12_leftOf_13 (by decide) rfl ?_
  refine G_iconst (pc := 14) dX12_leftOf_14 ?_
  refine G_istore (pc := 15) (lv' := [_, _, _, _, _, _, _]) dX12_leftOf_15 (by decide) rfl ?_
  exact loop (C 0 0) 0 _ _ (by omega) (by rw [lfR, Int.natCast_mul, Int.mul_comm]; rfl)
theorem m_allLeft (hM : 87 ≤ M) (hH : MH I 0 hs) (hB : HB hs) (hR : RM I 0 C) (hRB : RB hs C) : FnF E mdX12_allLeft 4 M Rf [vr E 71] I J (some (vl (sumN (lf hs C) (zS hs) : Int))) I J := by
  have bS := hB.1
  refine FnQ.of (by decide +kernel) (Nat.le_of_ble_eq_true rfl) ?_
  show GM E mdX12_allLeft 4 M Rf _ I J 0 [some (vr E 71), none, none, none] []
  have loop : ∀ (m i : Nat) (x : Int), i + m = zS hs → x = (sumN (lf hs C) i : Nat) → GM E mdX12_allLeft 4 M Rf (QF (some (vl (sumN (lf hs C) (zS hs) : Int))) I J) I J 4 [some (vr E 71), some (vl x), none, some (vi (i : Int))] [] := by
    intro m
    induction m with
    | zero =>
      intro i x hi hx
      have hi : i = zS hs := by omega
      subst hi
      refine G_iload_n (pc := 4) dX12_allLeft_4 rfl ?_
      refine G_aload_n (pc := 5) dX12_allLeft_5 rfl ?_
      refine G_getr (pc := 6) dX12_allLeft_6 fiX12_13 (by first | rfl | assumption) (by omega) (by first | rfl | assumption) ?_
      refine G_iconst (pc := 9) dX12_allLeft_9 ?_
      refine G_ialdv (pc := 10) dX12_allLeft_10 (by first | rfl | assumption) (by omega) (by omega) (by omega) (by omega) (hH.ns rfl) ?_
      refine G_icmp_ge (pc := 11) (tgt := 29) dX12_allLeft_11 (Ri.mk (by omega) (by omega)) (Ri.mk (by omega) (by omega)) (by decide) (fun h_11 => ?_) (fun h_11 => ?_)
      · refine G_lload_n (pc := 29) dX12_allLeft_29 rfl ?_
        refine G_lret (pc := 30) dX12_allLeft_30 rfl ?_
        exact ⟨by rw [hx], rfl, rfl⟩
      · exact absurd h_11 (by omega)
    | succ m ih =>
      intro i x hi hx
      refine G_iload_n (pc := 4) dX12_allLeft_4 rfl ?_
      refine G_aload_n (pc := 5) dX12_allLeft_5 rfl ?_
      refine G_getr (pc := 6) dX12_allLeft_6 fiX12_13 (by first | rfl | assumption) (by omega) (by first | rfl | assumption) ?_
      refine G_iconst (pc := 9) dX12_allLeft_9 ?_
      refine G_ialdv (pc := 10) dX12_allLeft_10 (by first | rfl | assumption) (by omega) (by omega) (by omega) (by omega) (hH.ns rfl) ?_
      refine G_icmp_ge (pc := 11) (tgt := 29) dX12_allLeft_11 (Ri.mk (by omega) (by omega)) (Ri.mk (by omega) (by omega)) (by decide) (fun h_11 => ?_) (fun h_11 => ?_)
      · exact absurd h_11 (by omega)
      · refine G_lload_n (pc := 14) dX12_allLeft_14 rfl ?_
        refine G_aload_n (pc := 15) dX12_allLeft_15 rfl ?_
        refine G_iconst (pc := 16) dX12_allLeft_16 ?_
        refine G_iload_n (pc := 17) dX12_allLeft_17 rfl ?_
        refine G_callV1 (pc := 18) (md := mdX12_leftOf) (av := [_, _]) dX12_allLeft_18 lkX12_144 mwX12_leftOf (m_leftOf 0 i (by omega) hM hH hB hR hRB (by omega)) rfl (by first | rfl | assumption) (by omega) rfl rfl (Nat.le_of_ble_eq_true rfl) (by decide) ⟨Nat.zero_le _, Nat.zero_le _⟩ ?_
        refine G_ladd (pc := 21) dX12_allLeft_21 ?_
        refine G_lstore_n (pc := 22) (lv' := [_, _, _, _]) dX12_allLeft_22 (by decide) rfl ?_
        refine G_iinc (pc := 23) (lv' := [_, _, _, _]) dX12_allLeft_23 (by decide) rfl rfl ?_
        refine G_goto (pc := 26) (tgt := 4) dX12_allLeft_26 (by decide) ?_
        exact ih (i + 1) _ (by omega) (by rw [hx, sumN]; rfl)
  refine G_lconst (pc := 0) dX12_allLeft_0 ?_
  refine G_lstore_n (pc := 1) (lv' := [_, _, _, _]) dX12_allLeft_1 (by decide) rfl ?_
  refine G_iconst (pc := 2) dX12_allLeft_2 ?_
  refine G_istore_n (pc := 3) (lv' := [_, _, _, _]) dX12_allLeft_3 (by decide) rfl ?_
  exact loop (zS hs) 0 _ (by omega) rfl
theorem m_oddsOf (j c : Nat) (hj : j ≤ 3) (hc : c ≤ 12) (hM : 87 ≤ M) (hH : MH I 0 hs) (hB : HB hs) (hR : RM I j C) (hRB : RB hs C) : FnQ E mdX12_oddsOf 4 M Rf [vr E 71, vi (j : Int), vi (c : Int)] I J (fun v I' J' => v = some (vl (od hs C c : Int)) ∧ I' = I ∧ Off J J' 83 83) := by
  have bS := hB.1
  have b5 := hB.2.2.2.2.1
  refine FnQ.of (by decide +kernel) (Nat.le_of_ble_eq_true rfl) ?_
  show GM E mdX12_oddsOf 4 M Rf _ I J 0 [some (vr E 71), some (vi (j : Int)), some (vi (c : Int)), none, none, none, none, none, none, none] []
  have outer : ∀ (m i : Nat) (J' : Nat → Nat → Int) (a b d e f g : Option Value), i + m = zS hs → Off J J' 83 83 → (∀ y, y ≤ 12 → J' 83 y = wS hs (lf hs C) i y) → GM E mdX12_oddsOf 4 M Rf (fun v I' J' => v = some (vl (od hs C c : Int)) ∧ I' = I ∧ Off J J' 83 83) I J' 33 [some (vr E 71), some (vi (j : Int)), some (vi (c : Int)), some (vi (i : Int)), a, b, d, e, f, g] [] := by
    intro m
    induction m with
    | zero =>
      intro i J' a b d e f g hi hO hJ
      have hi : i = zS hs := by omega
      subst hi
      refine G_iload_n (pc := 33) dX12_oddsOf_33 rfl ?_
      refine G_aload_n (pc := 34) dX12_oddsOf_34 rfl ?_
      refine G_getr (pc := 35) dX12_oddsOf_35 fiX12_13 (by first | rfl | assumption) (by omega) (by first | rfl | assumption) ?_
      refine G_iconst (pc := 38) dX12_oddsOf_38 ?_
      refine G_ialdv (pc := 39) dX12_oddsOf_39 (by first | rfl | assumption) (by omega) (by omega) (by omega) (by omega) (hH.ns rfl) ?_
      refine G_icmp_ge (pc := 40) (tgt := 146) dX12_oddsOf_40 (Ri.mk (by omega) (by omega)) (Ri.mk (by omega) (by omega)) (by decide) (fun h_40 => ?_) (fun h_40 => ?_)
      · refine G_aload_n (pc := 146) dX12_oddsOf_146 rfl ?_
        refine G_getr (pc := 147) dX12_oddsOf_147 fiX12_44 (by first | rfl | assumption) (by omega) (by first | rfl | assumption) ?_
        refine G_iload_n (pc := 150) dX12_oddsOf_150 rfl ?_
        refine G_laldv (pc := 151) dX12_oddsOf_151 (by first | rfl | assumption) (by omega) (by omega) (by omega) (by omega) (hJ c hc) ?_
        refine G_lret (pc := 152) dX12_oddsOf_152 rfl ?_
        exact ⟨rfl, rfl, hO⟩
      · exact absurd h_40 (by omega)
    | succ m ih =>
      intro i J' a b d e f g hi hO hJ
      have hz := b5 i (by omega)
      have hl := lf_le hs C i
      have hst := div_sz hl
      have hwB : wB (wS hs (lf hs C) i) := wB_wS fun s _ => lf_le hs C s
      obtain ⟨st, est⟩ : ∃ st, st = lf hs C i / hs 0 i := ⟨_, rfl⟩
      rw [← est] at hst
      have pers : ∀ (r p : Nat) (J' : Nat → Nat → Int) (d e f g : Option Value), p + r = hs 0 i → Off J J' 83 83 → (∀ y, y ≤ 12 → J' 83 y = itS st p (wS hs (lf hs C) i) y) → GM E mdX12_oddsOf 4 M Rf (fun v I' J' => v = some (vl (od hs C c : Int)) ∧ I' = I ∧ Off J J' 83 83) I J' 64 [some (vr E 71), some (vi (j : Int)), some (vi (c : Int)), some (vi (i : Int)), some (vl (st : Int)), none, some (vi (p : Int)), e, f, g] [] := by
        intro r
        induction r with
        | zero =>
          intro p J' d e f g hp hO hJ
          have hp : p = hs 0 i := by omega
          subst hp
          refine G_iload (pc := 64) dX12_oddsOf_64 rfl ?_
          refine G_aload_n (pc := 66) dX12_oddsOf_66 rfl ?_
          refine G_getr (pc := 67) dX12_oddsOf_67 fiX12_17 (by first | rfl | assumption) (by omega) (by first | rfl | assumption) ?_
          refine G_iconst (pc := 70) dX12_oddsOf_70 ?_
          refine G_iload_n (pc := 71) dX12_oddsOf_71 rfl ?_
          refine G_imul (pc := 72) dX12_oddsOf_72 ?_
          refine G_ialdv (pc := 73) dX12_oddsOf_73 (by first | rfl | assumption) (by omega) (by omega) (by omega) (by omega) (hH.so i 0 (by omega) (by omega) (by omega)) ?_
          refine G_icmp_ge (pc := 74) (tgt := 140) dX12_oddsOf_74 (Ri.mk (by omega) (by omega)) (Ri.mk (by omega) (by omega)) (by decide) (fun h_74 => ?_) (fun h_74 => ?_)
          · refine G_iinc (pc := 140) (lv' := [_, _, _, _, _, _, _, _, _, _]) dX12_oddsOf_140 (by decide) rfl rfl ?_
            refine G_goto (pc := 143) (tgt := 33) dX12_oddsOf_143 (by decide) ?_
            refine ih (i + 1) _ _ _ _ _ _ _ (by omega) hO (fun y hy => ?_)
            rw [hJ y hy, wS, est]
          · exact absurd h_74 (by omega)
        | succ r ihr =>
          intro p J' d e f g hp hO hJ
          have hw2 : wB (itS st p (wS hs (lf hs C) i)) := wB_itS hst hwB p
          obtain ⟨w, ew⟩ : ∃ w, w = itS st p (wS hs (lf hs C) i) := ⟨_, rfl⟩
          rw [← ew] at hJ hw2
          have down : ∀ (k : Nat) (J' : Nat → Nat → Int) (f g : Option Value), k ≤ 13 → Off J J' 83 83 → (∀ y, y ≤ 12 → J' 83 y = ((if y < k then w y else if y = k then w y - w y * st / 1000000 else stp st w y : Nat) : Int)) → GM E mdX12_oddsOf 4 M Rf (fun v I' J' => v = some (vl (od hs C c : Int)) ∧ I' = I ∧ Off J J' 83 83) I J' 81 [some (vr E 71), some (vi (j : Int)), some (vi (c : Int)), some (vi (i : Int)), some (vl (st : Int)), none, some (vi (p : Int)), some (vi ((k : Int) - 1)), f, g] [] := by
            intro k
            induction k with
            | zero =>
              intro J' f g hk hO hJ
              refine G_iload (pc := 81) dX12_oddsOf_81 rfl ?_
              refine G_if_lt (pc := 83) (tgt := 134) dX12_oddsOf_83 (Ri.mk (by omega) (by omega)) (by decide) (fun h_83 => ?_) (fun h_83 => ?_)
              · refine G_iinc (pc := 134) (lv' := [_, _, _, _, _, _, _, _, _, _]) dX12_oddsOf_134 (by decide) rfl rfl ?_
                refine G_goto (pc := 137) (tgt := 64) dX12_oddsOf_137 (by decide) ?_
                refine ihr (p + 1) _ none _ _ _ (by omega) hO (fun y hy => ?_)
                rw [hJ y hy, itS, ← ew, if_neg (by omega)]
                by_cases e : y = 0
                · subst e; rw [if_pos rfl]; simp [stp]
                · rw [if_neg e]
              · exact absurd h_83 (by omega)
            | succ k ihk =>
              intro J' f g hk hO hJ
              have e1 : J' 83 k = (w k : Int) := by rw [hJ k (by omega), if_pos (by omega)]
              have hle := hw2.le k
              have hmm := Nat.mul_le_mul hle hst
              have hgo := Nat.mul_le_mul_left (w k) hst
              rw [show ((k + 1 : Nat) : Int) - 1 = (k : Int) by omega]
              refine G_iload (pc := 81) dX12_oddsOf_81 rfl ?_
              refine G_if_lt (pc := 83) (tgt := 134) dX12_oddsOf_83 (Ri.mk (by omega) (by omega)) (by decide) (fun h_83 => ?_) (fun h_83 => ?_)
              · exact absurd h_83 (by omega)
              · refine G_aload_n (pc := 86) dX12_oddsOf_86 rfl ?_
                refine G_getr (pc := 87) dX12_oddsOf_87 fiX12_44 (by first | rfl | assumption) (by omega) (by first | rfl | assumption) ?_
                refine G_iload (pc := 90) dX12_oddsOf_90 rfl ?_
                refine G_laldv (pc := 92) dX12_oddsOf_92 (by first | rfl | assumption) (by omega) (by omega) (by omega) (by omega) (e1) ?_
                refine G_lload (pc := 93) dX12_oddsOf_93 rfl ?_
                refine G_lmul (pc := 95) dX12_oddsOf_95 ?_
                rw [← Int.natCast_mul]
                refine G_ldc2 (pc := 96) dX12_oddsOf_96 klX12_140 ?_
                refine G_ldiv (pc := 99) dX12_oddsOf_99 (Rl.mk (by omega) (by omega)) (Rl.mk (by omega) (by omega)) (by omega) ?_
                rw [show ((w k * st : Nat) : Int).tdiv 1000000 = ((w k * st / 1000000 : Nat) : Int) from rfl]
                refine G_lstore (pc := 100) (lv' := [_, _, _, _, _, _, _, _, _, _]) dX12_oddsOf_100 (by decide) rfl ?_
                refine G_aload_n (pc := 102) dX12_oddsOf_102 rfl ?_
                refine G_getr (pc := 103) dX12_oddsOf_103 fiX12_44 (by first | rfl | assumption) (by omega) (by first | rfl | assumption) ?_
                refine G_iload (pc := 106) dX12_oddsOf_106 rfl ?_
                refine G_iconst (pc := 108) dX12_oddsOf_108 ?_
                refine G_iadd (pc := 109) dX12_oddsOf_109 ?_
                refine G_dup2 (pc := 110) dX12_oddsOf_110 rfl rfl ?_
                refine G_lald (pc := 111) dX12_oddsOf_111 (by first | rfl | assumption) (by omega) (by omega) (by omega) (by omega) ?_
                refine G_lload (pc := 112) dX12_oddsOf_112 rfl ?_
                refine G_ladd (pc := 114) dX12_oddsOf_114 ?_
                refine G_last (pc := 115) dX12_oddsOf_115 (by first | rfl | assumption) (by omega) (by omega) (by omega) (by omega) ?_
                refine G_aload_n (pc := 116) dX12_oddsOf_116 rfl ?_
                refine G_getr (pc := 117) dX12_oddsOf_117 fiX12_44 (by first | rfl | assumption) (by omega) (by first | rfl | assumption) ?_
                refine G_iload (pc := 120) dX12_oddsOf_120 rfl ?_
                refine G_dup2 (pc := 122) dX12_oddsOf_122 rfl rfl ?_
                refine G_lald (pc := 123) dX12_oddsOf_123 (by first | rfl | assumption) (by omega) (by omega) (by omega) (by omega) ?_
                refine G_lload (pc := 124) dX12_oddsOf_124 rfl ?_
                refine G_lsub (pc := 126) dX12_oddsOf_126 ?_
                refine G_last (pc := 127) dX12_oddsOf_127 (by first | rfl | assumption) (by omega) (by omega) (by omega) (by omega) ?_
                refine G_iinc (pc := 128) (lv' := [_, _, _, _, _, _, _, _, _, _]) dX12_oddsOf_128 (by decide) rfl rfl ?_
                refine G_goto (pc := 131) (tgt := 81) dX12_oddsOf_131 (by decide) ?_
                refine ihk _ _ _ (by omega) ((hO.set (by omega) (by omega)).set (by omega) (by omega)) (fun y hy => ?_)
                have e3 : ((k : Int) + 1).toNat = k + 1 := by omega
                have e4 : ((k : Int)).toNat = k := by omega
                rw [e3, e4]
                by_cases ey : y = k
                · subst ey; rw [wr_s, wr_n (by omega), e1, if_neg (by omega), if_pos rfl, Int.ofNat_sub (by omega)]
                · rw [wr_n ey]
                  by_cases ey2 : y = k + 1
                  · subst ey2; rw [wr_s, hJ _ hy, if_neg (by omega), if_pos rfl, if_neg (by omega), if_neg (by omega), stp, if_neg (by omega), Nat.add_sub_cancel]; rfl
                  · rw [wr_n ey2, hJ y hy]
                    rcases Nat.lt_or_ge y k with q | q
                    · rw [if_pos (by omega), if_pos q]
                    · rw [if_neg (by omega), if_neg (by omega), if_neg (by omega), if_neg (by omega)]
          refine G_iload (pc := 64) dX12_oddsOf_64 rfl ?_
          refine G_aload_n (pc := 66) dX12_oddsOf_66 rfl ?_
          refine G_getr (pc := 67) dX12_oddsOf_67 fiX12_17 (by first | rfl | assumption) (by omega) (by first | rfl | assumption) ?_
          refine G_iconst (pc := 70) dX12_oddsOf_70 ?_
          refine G_iload_n (pc := 71) dX12_oddsOf_71 rfl ?_
          refine G_imul (pc := 72) dX12_oddsOf_72 ?_
          refine G_ialdv (pc := 73) dX12_oddsOf_73 (by first | rfl | assumption) (by omega) (by omega) (by omega) (by omega) (hH.so i 0 (by omega) (by omega) (by omega)) ?_
          refine G_icmp_ge (pc := 74) (tgt := 140) dX12_oddsOf_74 (Ri.mk (by omega) (by omega)) (Ri.mk (by omega) (by omega)) (by decide) (fun h_74 => ?_) (fun h_74 => ?_)
          · exact absurd h_74 (by omega)
          · refine G_bipush (pc := 77) dX12_oddsOf_77 (by decide) ?_
            refine G_istore (pc := 79) (lv' := [_, _, _, _, _, _, _, _, _, _]) dX12_oddsOf_79 (by decide) rfl ?_
            exact down 13 _ _ _ (by omega) hO (fun y hy => by rw [if_pos (by omega)]; exact hJ y hy)
      refine G_iload_n (pc := 33) dX12_oddsOf_33 rfl ?_
      refine G_aload_n (pc := 34) dX12_oddsOf_34 rfl ?_
      refine G_getr (pc := 35) dX12_oddsOf_35 fiX12_13 (by first | rfl | assumption) (by omega) (by first | rfl | assumption) ?_
      refine G_iconst (pc := 38) dX12_oddsOf_38 ?_
      refine G_ialdv (pc := 39) dX12_oddsOf_39 (by first | rfl | assumption) (by omega) (by omega) (by omega) (by omega) (hH.ns rfl) ?_
      refine G_icmp_ge (pc := 40) (tgt := 146) dX12_oddsOf_40 (Ri.mk (by omega) (by omega)) (Ri.mk (by omega) (by omega)) (by decide) (fun h_40 => ?_) (fun h_40 => ?_)
      · exact absurd h_40 (by omega)
      · refine G_aload_n (pc := 43) dX12_oddsOf_43 rfl ?_
        refine G_iload_n (pc := 44) dX12_oddsOf_44 rfl ?_
        refine G_iload_n (pc := 45) dX12_oddsOf_45 rfl ?_
        refine G_callV1 (pc := 46) (md := mdX12_leftOf) (av := [_, _]) dX12_oddsOf_46 lkX12_144 mwX12_leftOf (m_leftOf j i hj hM hH hB hR hRB (by omega)) rfl (by first | rfl | assumption) (by omega) rfl rfl (Nat.le_of_ble_eq_true rfl) (by decide) ⟨Nat.zero_le _, Nat.zero_le _⟩ ?_
        refine G_aload_n (pc := 49) dX12_oddsOf_49 rfl ?_
        refine G_getr (pc := 50) dX12_oddsOf_50 fiX12_17 (by first | rfl | assumption) (by omega) (by first | rfl | assumption) ?_
        refine G_iconst (pc := 53) dX12_oddsOf_53 ?_
        refine G_iload_n (pc := 54) dX12_oddsOf_54 rfl ?_
        refine G_imul (pc := 55) dX12_oddsOf_55 ?_
        refine G_ialdv (pc := 56) dX12_oddsOf_56 (by first | rfl | assumption) (by omega) (by omega) (by omega) (by omega) (hH.so i 0 (by omega) (by omega) (by omega)) ?_
        refine G_i2l (pc := 57) dX12_oddsOf_57 (Ri.mk (by omega) (by omega)) ?_
        refine G_ldiv (pc := 58) dX12_oddsOf_58 (Rl.mk (by omega) (by omega)) (Rl.mk (by omega) (by omega)) (by omega) ?_
        rw [show ((lf hs C i : Nat) : Int).tdiv (hs 0 i : Nat) = (st : Int) by rw [est]; rfl]
        refine G_lstore (pc := 59) (lv' := [_, _, _, _, _, _, _, _, _, _]) dX12_oddsOf_59 (by decide) rfl ?_
        refine G_iconst (pc := 61) dX12_oddsOf_61 ?_
        refine G_istore (pc := 62) (lv' := [_, _, _, _, _, _, _, _, _, _]) dX12_oddsOf_62 (by decide) rfl ?_
        exact pers (hs 0 i) 0 _ none _ _ _ (by omega) hO (fun y hy => hJ y hy)
  have first_ : ∀ (m k : Nat) (J' : Nat → Nat → Int), k + m = 14 → Off J J' 83 83 → (∀ y, y < k → J' 83 y = w0S y) → GM E mdX12_oddsOf 4 M Rf (fun v I' J' => v = some (vl (od hs C c : Int)) ∧ I' = I ∧ Off J J' 83 83) I J' 2 [some (vr E 71), some (vi (j : Int)), some (vi (c : Int)), some (vi (k : Int)), none, none, none, none, none, none] [] := by
    intro m
    induction m with
    | zero =>
      intro k J' hk hO hJ
      have hk : k = 14 := by omega
      subst hk
      refine G_iload_n (pc := 2) dX12_oddsOf_2 rfl ?_
      refine G_bipush (pc := 3) dX12_oddsOf_3 (by decide) ?_
      refine G_icmp_gt (pc := 5) (tgt := 31) dX12_oddsOf_5 (Ri.mk (by omega) (by omega)) (Ri.mk (by omega) (by omega)) (by decide) (fun h_5 => ?_) (fun h_5 => ?_)
      · refine G_iconst (pc := 31) dX12_oddsOf_31 ?_
        refine G_istore_n (pc := 32) (lv' := [_, _, _, _, _, _, _, _, _, _]) dX12_oddsOf_32 (by decide) rfl ?_
        exact outer (zS hs) 0 _ _ _ _ _ _ _ (by omega) hO (fun y hy => hJ y (by omega))
      · exact absurd h_5 (by omega)
    | succ m ih =>
      intro k J' hk hO hJ
      refine G_iload_n (pc := 2) dX12_oddsOf_2 rfl ?_
      refine G_bipush (pc := 3) dX12_oddsOf_3 (by decide) ?_
      refine G_icmp_gt (pc := 5) (tgt := 31) dX12_oddsOf_5 (Ri.mk (by omega) (by omega)) (Ri.mk (by omega) (by omega)) (by decide) (fun h_5 => ?_) (fun h_5 => ?_)
      · exact absurd h_5 (by omega)
      · refine G_aload_n (pc := 8) dX12_oddsOf_8 rfl ?_
        refine G_getr (pc := 9) dX12_oddsOf_9 fiX12_44 (by first | rfl | assumption) (by omega) (by first | rfl | assumption) ?_
        refine G_iload_n (pc := 12) dX12_oddsOf_12 rfl ?_
        refine G_iload_n (pc := 13) dX12_oddsOf_13 rfl ?_
        refine G_if_ne (pc := 14) (tgt := 23) dX12_oddsOf_14 (Ri.mk (by omega) (by omega)) (by decide) (fun h_14 => ?_) (fun h_14 => ?_)
        · try simp only [bI_eq0, bI_ne0] at h_14
          refine G_lconst (pc := 23) dX12_oddsOf_23 ?_
          refine G_last (pc := 24) dX12_oddsOf_24 (by first | rfl | assumption) (by omega) (by omega) (by omega) (by omega) ?_
          refine G_iinc (pc := 25) (lv' := [_, _, _, _, _, _, _, _, _, _]) dX12_oddsOf_25 (by decide) rfl rfl ?_
          refine G_goto (pc := 28) (tgt := 2) dX12_oddsOf_28 (by decide) ?_
          refine ih (k + 1) _ (by omega) (hO.set (by omega) (by omega)) (fun y hy => ?_)
          rw [Int.toNat_natCast]
          by_cases e : y = k
          · subst e; rw [wr_s]; unfold w0S; first | (rw [if_pos (by omega)]; rfl) | (rw [if_neg (by omega)]; rfl)
          · rw [wr_n e]; exact hJ y (by omega)
        · try simp only [bI_eq0, bI_ne0] at h_14
          refine G_ldc2 (pc := 17) dX12_oddsOf_17 klX12_140 ?_
          refine G_goto (pc := 20) (tgt := 24) dX12_oddsOf_20 (by decide) ?_
          refine G_last (pc := 24) dX12_oddsOf_24 (by first | rfl | assumption) (by omega) (by omega) (by omega) (by omega) ?_
          refine G_iinc (pc := 25) (lv' := [_, _, _, _, _, _, _, _, _, _]) dX12_oddsOf_25 (by decide) rfl rfl ?_
          refine G_goto (pc := 28) (tgt := 2) dX12_oddsOf_28 (by decide) ?_
          refine ih (k + 1) _ (by omega) (hO.set (by omega) (by omega)) (fun y hy => ?_)
          rw [Int.toNat_natCast]
          by_cases e : y = k
          · subst e; rw [wr_s]; unfold w0S; first | (rw [if_pos (by omega)]; rfl) | (rw [if_neg (by omega)]; rfl)
          · rw [wr_n e]; exact hJ y (by omega)
  refine G_iconst (pc := 0) dX12_oddsOf_0 ?_
  refine G_istore_n (pc := 1) (lv' := [_, _, _, _, _, _, _, _, _, _]) dX12_oddsOf_1 (by decide) rfl ?_
  exact first_ 14 0 _ (by omega) Off.rfl (fun y hy => absurd hy (Nat.not_lt_zero _))
end MOD2
