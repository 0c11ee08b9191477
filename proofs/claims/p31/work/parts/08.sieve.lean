/-! SIEVE -/
def isSieve (q : Nat) : Prop := q = 53 ∨ q = 63
theorem Sieve_all {q : Nat} (h : isSieve q) : q < 64 ∧ shp q = .inl 8 ∧ Rf q 0 = some 3 ∧ Rf q 1 = some (q + 1) ∧ Rf q 2 = some (q + 2) ∧ shp (q + 1) = .inr (1, 6) ∧ shp (q + 2) = .inr (1, 13) := by
  rcases h with rfl | rfl <;> exact ⟨by decide, rfl, rfl, rfl, rfl, rfl, rfl⟩
theorem c_pass {E : EV} {M : Nat} {I J : Nat → Nat → Int} {hs : HS} {C : CS} (q r : Nat) (hq : isSieve q) (hr : isRow r) (hM : 71 ≤ M) (hH : HI I 3 hs) (hB : HB hs) (hR : RI I r C) (hRB : RB hs C) : FnF E mdX8_pass 3 M Rf [vr E q, vr E r] I J none I (seJ J (q + 1) (lf hs C) (zS hs)) := by
  obtain ⟨hq64, hsh, f0, f1, f2, s1, s2⟩ := Sieve_all hq
  obtain ⟨hk60, hsh2, g0, g1, t1, t2⟩ := Row_all hr
  have bS := hB.1
  have v8 : I 3 8 = (zS hs : Int) := hH.2.2 8 (by omega) (by omega)
  have n8 := hRB.1
  have vr2 := hR.1
  refine FnQ.of (by decide +kernel) (Nat.le_of_ble_eq_true rfl) ?_
  show GM E mdX8_pass 3 M Rf _ I J 0 [some (vr E q), some (vr E r), none, none, none, none, none] []
  have loop : ∀ (m i : Nat) (a b c d : Option Value), i + m = zS hs → GM E mdX8_pass 3 M Rf (QF none I (seJ J (q + 1) (lf hs C) (zS hs))) I (seJ J (q + 1) (lf hs C) i) 2 [some (vr E q), some (vr E r), some (vi (i : Int)), a, b, c, d] [] := by
    intro m
    induction m with
    | zero =>
      intro i a b c d hi
      have hi : i = zS hs := by omega
      subst hi
      refine G_iload_n (pc := 2) dX8_pass_2 rfl ?_
      refine G_aload_n (pc := 3) dX8_pass_3 rfl ?_
      refine G_getr (pc := 4) dX8_pass_4 fiX8_9 (by first | rfl | assumption) (by omega) (by first | rfl | assumption) ?_
      refine G_alen (pc := 7) dX8_pass_7 (by first | rfl | assumption) (by decide) (by omega) ?_
      refine G_icmp_ge (pc := 8) (tgt := 111) dX8_pass_8 (Ri.mk (by omega) (by omega)) (Ri.mk (by omega) (by omega)) (by decide) (fun h_8 => ?_) (fun h_8 => ?_)
      · refine G_vret (pc := 111) dX8_pass_111 rfl ?_
        exact ⟨rfl, rfl, rfl⟩
      · refine G_iload_n (pc := 11) dX8_pass_11 rfl ?_
        refine G_aload_n (pc := 12) dX8_pass_12 rfl ?_
        refine G_getr (pc := 13) dX8_pass_13 fiX8_18 (by first | rfl | assumption) (by omega) (by first | rfl | assumption) ?_
        refine G_geti (pc := 16) dX8_pass_16 fiX8_22 (by first | rfl | assumption) (by omega) ?_
        refine G_icmp_ge (pc := 19) (tgt := 111) dX8_pass_19 (Ri.mk (by omega) (by omega)) (Ri.mk (by omega) (by omega)) (by decide) (fun h_19 => ?_) (fun h_19 => ?_)
        · refine G_vret (pc := 111) dX8_pass_111 rfl ?_
          exact ⟨rfl, rfl, rfl⟩
        · exact absurd h_19 (by omega)
    | succ m ih =>
      intro i a b c d hi
      have hz := hB.2.2.2.2.1 i (by omega)
      have inner : ∀ (k t : Nat) (x : Int) (c d : Option Value), t + k = C 0 0 → x = (lfR hs C i t : Nat) → GM E mdX8_pass 3 M Rf (QF none I (seJ J (q + 1) (lf hs C) (zS hs))) I (seJ J (q + 1) (lf hs C) i) 39 [some (vr E q), some (vr E r), some (vi (i : Int)), some (vl x), none, some (vi (t : Int)), d] [] := by
        intro k
        induction k with
        | zero =>
          intro t x c d ht hx
          have ht : t = C 0 0 := by omega
          subst ht
          refine G_iload (pc := 39) dX8_pass_39 rfl ?_
          refine G_aload_n (pc := 41) dX8_pass_41 rfl ?_
          refine G_geti (pc := 42) dX8_pass_42 fiX8_34 (by first | rfl | assumption) (by omega) ?_
          refine G_icmp_ge (pc := 45) (tgt := 98) dX8_pass_45 (Ri.mk (by omega) (by omega)) (Ri.mk (by omega) (by omega)) (by decide) (fun h_45 => ?_) (fun h_45 => ?_)
          · refine G_aload_n (pc := 98) dX8_pass_98 rfl ?_
            refine G_getr (pc := 99) dX8_pass_99 fiX8_9 (by first | rfl | assumption) (by omega) (by first | rfl | assumption) ?_
            refine G_iload_n (pc := 102) dX8_pass_102 rfl ?_
            refine G_lload_n (pc := 103) dX8_pass_103 rfl ?_
            refine G_last (pc := 104) dX8_pass_104 (by first | rfl | assumption) (by omega) (by omega) (by omega) (by omega) ?_
            refine G_iinc (pc := 105) (lv' := [_, _, _, _, _, _, _]) dX8_pass_105 (by decide) rfl rfl ?_
            refine G_goto (pc := 108) (tgt := 2) dX8_pass_108 (by decide) ?_
            refine G_eq rfl ?_ rfl rfl (ih (i + 1) _ _ _ _ (by omega))
            rw [Int.toNat_natCast]; exact seJ_n hx
          · exact absurd h_45 (by omega)
        | succ k ihk =>
          intro t x c d ht hx
          have hb := hRB.2 t (by omega)
          have hl := lfR_le hs C i t
          have hd := dO_le hs i (C 1 t) 0
          refine G_iload (pc := 39) dX8_pass_39 rfl ?_
          refine G_aload_n (pc := 41) dX8_pass_41 rfl ?_
          refine G_geti (pc := 42) dX8_pass_42 fiX8_34 (by first | rfl | assumption) (by omega) ?_
          refine G_icmp_ge (pc := 45) (tgt := 98) dX8_pass_45 (Ri.mk (by omega) (by omega)) (Ri.mk (by omega) (by omega)) (by decide) (fun h_45 => ?_) (fun h_45 => ?_)
          · exact absurd h_45 (by omega)
          · refine G_aload_n (pc := 48) dX8_pass_48 rfl ?_
            refine G_getr (pc := 49) dX8_pass_49 fiX8_18 (by first | rfl | assumption) (by omega) (by first | rfl | assumption) ?_
            refine G_iload_n (pc := 52) dX8_pass_52 rfl ?_
            refine G_aload_n (pc := 53) dX8_pass_53 rfl ?_
            refine G_iload (pc := 54) dX8_pass_54 rfl ?_
            refine G_callV1 (pc := 56) (md := mdX7_ask) (av := [_]) dX8_pass_56 lkX8_38 mwX7_ask (c_Rask r t hr hM hR n8 (by omega)) rfl (by first | rfl | assumption) (by omega) rfl rfl (Nat.le_of_ble_eq_true rfl) (by decide) ⟨Nat.zero_le _, Nat.zero_le _⟩ ?_
            refine G_iconst (pc := 59) dX8_pass_59 ?_
            refine G_callV1 (pc := 60) (md := mdX4_doing) (av := [_, _, _]) dX8_pass_60 lkX8_41 mwX4_doing (c_doing 3 i (C 1 t) 0 (Or.inl rfl) hM hH hB (by omega) hb.1 (by omega)) rfl (by first | rfl | assumption) (by omega) rfl rfl (Nat.le_of_ble_eq_true rfl) (by decide) ⟨Nat.zero_le _, Nat.zero_le _⟩ ?_
            refine G_istore (pc := 63) (lv' := [_, _, _, _, _, _, _]) dX8_pass_63 (by decide) rfl ?_
            refine G_lload_n (pc := 65) dX8_pass_65 rfl ?_
            refine G_aload_n (pc := 66) dX8_pass_66 rfl ?_
            refine G_iload (pc := 67) dX8_pass_67 rfl ?_
            refine G_callV1 (pc := 69) (md := mdX7_keepsDoers) (av := [_]) dX8_pass_69 lkX8_45 mwX7_keepsDoers (c_Rkeeps r t hr hM hR n8 (by omega) hb.2) rfl (by first | rfl | assumption) (by omega) rfl rfl (Nat.le_of_ble_eq_true rfl) (by decide) ⟨Nat.zero_le _, Nat.zero_le _⟩ ?_
            refine G_if_eq (pc := 72) (tgt := 80) dX8_pass_72 bI_R (by decide) (fun h_72 => ?_) (fun h_72 => ?_)
            · try simp only [bI_eq0, bI_ne0] at h_72
              refine G_bipush (pc := 80) dX8_pass_80 (by decide) ?_
              refine G_iload (pc := 82) dX8_pass_82 rfl ?_
              refine G_isub (pc := 84) dX8_pass_84 ?_
              refine G_i2l (pc := 85) dX8_pass_85 (Ri.mk (by omega) (by omega)) ?_
              refine G_lmul (pc := 86) dX8_pass_86 ?_
              refine G_ldc2 (pc := 87) dX8_pass_87 klX8_49 ?_
              subst hx
              first
                | rw [← Int.natCast_mul]
                | rw [show (100 : Int) - (dO hs i (C 1 t) 0 : Nat) = ((100 - dO hs i (C 1 t) 0 : Nat) : Int) by omega, ← Int.natCast_mul]
              have hm1 := Nat.mul_le_mul hl hd
              have hm2 := Nat.mul_le_mul hl (show 100 - dO hs i (C 1 t) 0 ≤ 100 by omega)
              refine G_ldiv (pc := 90) dX8_pass_90 (Rl.mk (by omega) (by omega)) (Rl.mk (by omega) (by omega)) (by omega) ?_
              refine G_lstore_n (pc := 91) (lv' := [_, _, _, _, _, _, _]) dX8_pass_91 (by decide) rfl ?_
              refine G_iinc (pc := 92) (lv' := [_, _, _, _, _, _, _]) dX8_pass_92 (by decide) rfl rfl ?_
              refine G_goto (pc := 95) (tgt := 39) dX8_pass_95 (by decide) ?_
              refine ihk (t + 1) _ d _ (by omega) ?_
              rw [lfR]; first | rw [if_pos (by assumption)]; rfl | rw [if_neg (by assumption)]; rfl
            · try simp only [bI_eq0, bI_ne0] at h_72
              refine G_iload (pc := 75) dX8_pass_75 rfl ?_
              refine G_goto (pc := 77) (tgt := 85) dX8_pass_77 (by decide) ?_
              refine G_i2l (pc := 85) dX8_pass_85 (Ri.mk (by omega) (by omega)) ?_
              refine G_lmul (pc := 86) dX8_pass_86 ?_
              refine G_ldc2 (pc := 87) dX8_pass_87 klX8_49 ?_
              subst hx
              first
                | rw [← Int.natCast_mul]
                | rw [show (100 : Int) - (dO hs i (C 1 t) 0 : Nat) = ((100 - dO hs i (C 1 t) 0 : Nat) : Int) by omega, ← Int.natCast_mul]
              have hm1 := Nat.mul_le_mul hl hd
              have hm2 := Nat.mul_le_mul hl (show 100 - dO hs i (C 1 t) 0 ≤ 100 by omega)
              refine G_ldiv (pc := 90) dX8_pass_90 (Rl.mk (by omega) (by omega)) (Rl.mk (by omega) (by omega)) (by omega) ?_
              refine G_lstore_n (pc := 91) (lv' := [_, _, _, _, _, _, _]) dX8_pass_91 (by decide) rfl ?_
              refine G_iinc (pc := 92) (lv' := [_, _, _, _, _, _, _]) dX8_pass_92 (by decide) rfl rfl ?_
              refine G_goto (pc := 95) (tgt := 39) dX8_pass_95 (by decide) ?_
              refine ihk (t + 1) _ d _ (by omega) ?_
              rw [lfR]; first | rw [if_pos (by assumption)]; rfl | rw [if_neg (by assumption)]; rfl
      refine G_iload_n (pc := 2) dX8_pass_2 rfl ?_
      refine G_aload_n (pc := 3) dX8_pass_3 rfl ?_
      refine G_getr (pc := 4) dX8_pass_4 fiX8_9 (by first | rfl | assumption) (by omega) (by first | rfl | assumption) ?_
      refine G_alen (pc := 7) dX8_pass_7 (by first | rfl | assumption) (by decide) (by omega) ?_
      refine G_icmp_ge (pc := 8) (tgt := 111) dX8_pass_8 (Ri.mk (by omega) (by omega)) (Ri.mk (by omega) (by omega)) (by decide) (fun h_8 => ?_) (fun h_8 => ?_)
      · exact absurd h_8 (by omega)
      · refine G_iload_n (pc := 11) dX8_pass_11 rfl ?_
        refine G_aload_n (pc := 12) dX8_pass_12 rfl ?_
        refine G_getr (pc := 13) dX8_pass_13 fiX8_18 (by first | rfl | assumption) (by omega) (by first | rfl | assumption) ?_
        refine G_geti (pc := 16) dX8_pass_16 fiX8_22 (by first | rfl | assumption) (by omega) ?_
        refine G_icmp_ge (pc := 19) (tgt := 111) dX8_pass_19 (Ri.mk (by omega) (by omega)) (Ri.mk (by omega) (by omega)) (by decide) (fun h_19 => ?_) (fun h_19 => ?_)
        · exact absurd h_19 (by omega)
        · refine G_aload_n (pc := 22) dX8_pass_22 rfl ?_
          refine G_getr (pc := 23) dX8_pass_23 fiX8_18 (by first | rfl | assumption) (by omega) (by first | rfl | assumption) ?_
          refine G_iload_n (pc := 26) dX8_pass_26 rfl ?_
          refine G_callV1 (pc := 27) (md := mdX4_size) (av := [_]) dX8_pass_27 lkX8_28 mwX4_size (c_size 3 i (Or.inl rfl) hM hH hB (by omega)) rfl (by first | rfl | assumption) (by omega) rfl rfl (Nat.le_of_ble_eq_true rfl) (by decide) ⟨Nat.zero_le _, Nat.zero_le _⟩ ?_
          refine G_i2l (pc := 30) dX8_pass_30 (Ri.mk (by omega) (by omega)) ?_
          refine G_ldc2 (pc := 31) dX8_pass_31 klX8_32 ?_
          refine G_lmul (pc := 34) dX8_pass_34 ?_
          refine G_lstore_n (pc := 35) (lv' := [_, _, _, _, _, _, _]) dX8_pass_35 (by decide) rfl ?_
          refine G_iconst (pc := 36) dX8_pass_36 ?_
          refine G_istore (pc := 37) (lv' := [_, _, _, _, _, _, _]) dX8_pass_37 (by decide) rfl ?_
          exact inner (C 0 0) 0 _ none _ (by omega) (by rw [lfR, Int.natCast_mul]; rfl)
  refine G_iconst (pc := 0) dX8_pass_0 ?_
  refine G_istore_n (pc := 1) (lv' := [_, _, _, _, _, _, _]) dX8_pass_1 (by decide) rfl ?_
  exact G_eq rfl (seJ_0 J (q + 1) (lf hs C)).symm rfl rfl (loop (zS hs) 0 _ _ _ _ (by omega))
theorem c_remaining {E : EV} {M : Nat} {I J : Nat → Nat → Int} (q s : Nat) (v : Int) (hq : isSieve q) (hM : 71 ≤ M) (h6 : s < 6) (hv : J (q + 1) s = v) : FnF E mdX8_remaining 0 M Rf [vr E q, vi (s : Int)] I J (some (vl v)) I J := by
  obtain ⟨hq64, hsh, f0, f1, f2, s1, s2⟩ := Sieve_all hq
  refine FnQ.of (by decide +kernel) (Nat.le_of_ble_eq_true rfl) ?_
  show GM E mdX8_remaining 0 M Rf _ I J 0 [some (vr E q), some (vi (s : Int))] []
  refine G_iload_n (pc := 0) dX8_remaining_0 rfl ?_
  refine G_if_lt (pc := 1) (tgt := 22) dX8_remaining_1 (Ri.mk (by omega) (by omega)) (by decide) (fun h_1 => ?_) (fun h_1 => ?_)
  · exact absurd h_1 (by omega)
  · refine G_iload_n (pc := 4) dX8_remaining_4 rfl ?_
    refine G_aload_n (pc := 5) dX8_remaining_5 rfl ?_
    refine G_getr (pc := 6) dX8_remaining_6 fiX8_9 (by first | rfl | assumption) (by omega) (by first | rfl | assumption) ?_
    refine G_alen (pc := 9) dX8_remaining_9 (by first | rfl | assumption) (by decide) (by omega) ?_
    refine G_icmp_ge (pc := 10) (tgt := 22) dX8_remaining_10 (Ri.mk (by omega) (by omega)) (Ri.mk (by omega) (by omega)) (by decide) (fun h_10 => ?_) (fun h_10 => ?_)
    · exact absurd h_10 (by omega)
    · refine G_aload_n (pc := 13) dX8_remaining_13 rfl ?_
      refine G_getr (pc := 14) dX8_remaining_14 fiX8_9 (by first | rfl | assumption) (by omega) (by first | rfl | assumption) ?_
      refine G_iload_n (pc := 17) dX8_remaining_17 rfl ?_
      refine G_lald (pc := 18) dX8_remaining_18 (by first | rfl | assumption) (by omega) (by omega) (by omega) (by omega) ?_
      refine G_goto (pc := 19) (tgt := 23) dX8_remaining_19 (by decide) ?_
      refine G_lret (pc := 23) dX8_remaining_23 rfl ?_
      exact ⟨by rw [Int.toNat_natCast, hv], rfl, rfl⟩
theorem c_together {E : EV} {M : Nat} {I J : Nat → Nat → Int} {hs : HS} {f : Nat → Nat} (q : Nat) (hq : isSieve q) (hM : 71 ≤ M) (hH : HI I 3 hs) (hB : HB hs) (hJ : ∀ s, s < zS hs → J (q + 1) s = f s) : FnF E mdX8_together 1 M Rf [vr E q] I J (some (vl (sumN f (zS hs) : Int))) I J := by
  obtain ⟨hq64, hsh, f0, f1, f2, s1, s2⟩ := Sieve_all hq
  have bS := hB.1
  have v8 : I 3 8 = (zS hs : Int) := hH.2.2 8 (by omega) (by omega)
  refine FnQ.of (by decide +kernel) (Nat.le_of_ble_eq_true rfl) ?_
  show GM E mdX8_together 1 M Rf _ I J 0 [some (vr E q), none, none, none] []
  have loop : ∀ (m i : Nat) (x : Int), i + m = zS hs → x = (sumN f i : Nat) → GM E mdX8_together 1 M Rf (QF (some (vl (sumN f (zS hs) : Int))) I J) I J 4 [some (vr E q), some (vl x), none, some (vi (i : Int))] [] := by
    intro m
    induction m with
    | zero =>
      intro i x hi hx
      have hi : i = zS hs := by omega
      subst hi
      refine G_iload_n (pc := 4) dX8_together_4 rfl ?_
      refine G_aload_n (pc := 5) dX8_together_5 rfl ?_
      refine G_getr (pc := 6) dX8_together_6 fiX8_18 (by first | rfl | assumption) (by omega) (by first | rfl | assumption) ?_
      refine G_geti (pc := 9) dX8_together_9 fiX8_22 (by first | rfl | assumption) (by omega) ?_
      refine G_icmp_ge (pc := 12) (tgt := 29) dX8_together_12 (Ri.mk (by omega) (by omega)) (Ri.mk (by omega) (by omega)) (by decide) (fun h_12 => ?_) (fun h_12 => ?_)
      · refine G_lload_n (pc := 29) dX8_together_29 rfl ?_
        refine G_lret (pc := 30) dX8_together_30 rfl ?_
        exact ⟨by rw [hx], rfl, rfl⟩
      · exact absurd h_12 (by omega)
    | succ m ih =>
      intro i x hi hx
      refine G_iload_n (pc := 4) dX8_together_4 rfl ?_
      refine G_aload_n (pc := 5) dX8_together_5 rfl ?_
      refine G_getr (pc := 6) dX8_together_6 fiX8_18 (by first | rfl | assumption) (by omega) (by first | rfl | assumption) ?_
      refine G_geti (pc := 9) dX8_together_9 fiX8_22 (by first | rfl | assumption) (by omega) ?_
      refine G_icmp_ge (pc := 12) (tgt := 29) dX8_together_12 (Ri.mk (by omega) (by omega)) (Ri.mk (by omega) (by omega)) (by decide) (fun h_12 => ?_) (fun h_12 => ?_)
      · exact absurd h_12 (by omega)
      · refine G_lload_n (pc := 15) dX8_together_15 rfl ?_
        refine G_aload_n (pc := 16) dX8_together_16 rfl ?_
        refine G_iload_n (pc := 17) dX8_together_17 rfl ?_
        refine G_callV1 (pc := 18) (md := mdX8_remaining) (av := [_]) dX8_together_18 lkX8_51 mwX8_remaining (c_remaining q i _ hq hM (by omega) (hJ i (by omega))) rfl (by first | rfl | assumption) (by omega) rfl rfl (Nat.le_of_ble_eq_true rfl) (by decide) ⟨Nat.zero_le _, Nat.zero_le _⟩ ?_
        refine G_ladd (pc := 21) dX8_together_21 ?_
        refine G_lstore_n (pc := 22) (lv' := [_, _, _, _]) dX8_together_22 (by decide) rfl ?_
        refine G_iinc (pc := 23) (lv' := [_, _, _, _]) dX8_together_23 (by decide) rfl rfl ?_
        refine G_goto (pc := 26) (tgt := 4) dX8_together_26 (by decide) ?_
        exact ih (i + 1) _ (by omega) (by rw [hx, sumN]; rfl)
  refine G_lconst (pc := 0) dX8_together_0 ?_
  refine G_lstore_n (pc := 1) (lv' := [_, _, _, _]) dX8_together_1 (by decide) rfl ?_
  refine G_iconst (pc := 2) dX8_together_2 ?_
  refine G_istore_n (pc := 3) (lv' := [_, _, _, _]) dX8_together_3 (by decide) rfl ?_
  exact loop (zS hs) 0 _ (by omega) rfl
theorem c_SmeanBent {E : EV} {M : Nat} {I J : Nat → Nat → Int} {hs : HS} {f : Nat → Nat} (q : Nat) (hq : isSieve q) (hM : 71 ≤ M) (hH : HI I 3 hs) (hB : HB hs) (hJ : ∀ s, s < zS hs → J (q + 1) s = f s) (hf : ∀ s, s < zS hs → f s ≤ 60000000) : FnF E mdX8_meanBent 2 M Rf [vr E q] I J (some (vi (if sumN f (zS hs) = 0 then -4 else ((1000 * sumN (fun s => f s * hs 1 s) (zS hs) / sumN f (zS hs) : Nat) : Int)))) I J := by
  obtain ⟨hq64, hsh, f0, f1, f2, s1, s2⟩ := Sieve_all hq
  have bS := hB.1
  have b5 := hB.2.2.2.2.1
  have v8 : I 3 8 = (zS hs : Int) := hH.2.2 8 (by omega) (by omega)
  have hb1 := sumN_le hf
  have hb2 : sumN (fun s => f s * hs 1 s) (zS hs) ≤ zS hs * 600000000 := sumN_le fun s h => by
    have h1 := Nat.mul_le_mul (hf s h) (b5 s h).2.2.1
    omega
  refine FnQ.of (by decide +kernel) (Nat.le_of_ble_eq_true rfl) ?_
  show GM E mdX8_meanBent 2 M Rf _ I J 0 [some (vr E q), none, none, none, none] []
  have loop : ∀ (m i : Nat) (x : Int), i + m = zS hs → x = (sumN (fun s => f s * hs 1 s) i : Nat) → GM E mdX8_meanBent 2 M Rf (QF (some (vi (if sumN f (zS hs) = 0 then -4 else ((1000 * sumN (fun s => f s * hs 1 s) (zS hs) / sumN f (zS hs) : Nat) : Int)))) I J) I J 4 [some (vr E q), some (vl x), none, some (vi (i : Int)), none] [] := by
    intro m
    induction m with
    | zero =>
      intro i x hi hx
      have hi : i = zS hs := by omega
      subst hi
      refine G_iload_n (pc := 4) dX8_meanBent_4 rfl ?_
      refine G_aload_n (pc := 5) dX8_meanBent_5 rfl ?_
      refine G_getr (pc := 6) dX8_meanBent_6 fiX8_18 (by first | rfl | assumption) (by omega) (by first | rfl | assumption) ?_
      refine G_geti (pc := 9) dX8_meanBent_9 fiX8_22 (by first | rfl | assumption) (by omega) ?_
      refine G_icmp_ge (pc := 12) (tgt := 39) dX8_meanBent_12 (Ri.mk (by omega) (by omega)) (Ri.mk (by omega) (by omega)) (by decide) (fun h_12 => ?_) (fun h_12 => ?_)
      · refine G_aload_n (pc := 39) dX8_meanBent_39 rfl ?_
        refine G_callV1 (pc := 40) (md := mdX8_together) (av := []) dX8_meanBent_40 lkX8_58 mwX8_together (c_together q hq hM hH hB hJ) rfl (by first | rfl | assumption) (by omega) rfl rfl (Nat.le_of_ble_eq_true rfl) (by decide) ⟨Nat.zero_le _, Nat.zero_le _⟩ ?_
        refine G_lstore_n (pc := 43) (lv' := [_, _, _, _, _]) dX8_meanBent_43 (by decide) rfl ?_
        refine G_lload_n (pc := 44) dX8_meanBent_44 rfl ?_
        refine G_lconst (pc := 45) dX8_meanBent_45 ?_
        refine G_lc_ne (pc := 46) (tgt := 55) dX8_meanBent_46 dX8_meanBent_47 (Rl.mk (by omega) (by omega)) (Rl.mk (by omega) (by omega)) (by decide) (fun h_46 => ?_) (fun h_46 => ?_)
        · refine G_ldc2 (pc := 55) dX8_meanBent_55 klX8_62 ?_
          refine G_lload_n (pc := 58) dX8_meanBent_58 rfl ?_
          refine G_lmul (pc := 59) dX8_meanBent_59 ?_
          refine G_lload_n (pc := 60) dX8_meanBent_60 rfl ?_
          refine G_ldiv (pc := 61) dX8_meanBent_61 (Rl.mk (by omega) (by omega)) (Rl.mk (by omega) (by omega)) (by omega) ?_
          refine G_l2i (pc := 62) dX8_meanBent_62 ?_
          refine G_iret (pc := 63) dX8_meanBent_63 rfl ?_
          exact ⟨by first | rw [if_pos (by omega)] | rw [if_neg (by omega), hx, show (1000 : Int) = ((1000 : Nat) : Int) from rfl, ← Int.natCast_mul, ← Int.ofNat_tdiv], rfl, rfl⟩
        · refine G_bipush (pc := 50) dX8_meanBent_50 (by decide) ?_
          refine G_goto (pc := 52) (tgt := 63) dX8_meanBent_52 (by decide) ?_
          refine G_iret (pc := 63) dX8_meanBent_63 rfl ?_
          exact ⟨by first | rw [if_pos (by omega)] | rw [if_neg (by omega), hx, show (1000 : Int) = ((1000 : Nat) : Int) from rfl, ← Int.natCast_mul, ← Int.ofNat_tdiv], rfl, rfl⟩
      · exact absurd h_12 (by omega)
    | succ m ih =>
      intro i x hi hx
      refine G_iload_n (pc := 4) dX8_meanBent_4 rfl ?_
      refine G_aload_n (pc := 5) dX8_meanBent_5 rfl ?_
      refine G_getr (pc := 6) dX8_meanBent_6 fiX8_18 (by first | rfl | assumption) (by omega) (by first | rfl | assumption) ?_
      refine G_geti (pc := 9) dX8_meanBent_9 fiX8_22 (by first | rfl | assumption) (by omega) ?_
      refine G_icmp_ge (pc := 12) (tgt := 39) dX8_meanBent_12 (Ri.mk (by omega) (by omega)) (Ri.mk (by omega) (by omega)) (by decide) (fun h_12 => ?_) (fun h_12 => ?_)
      · exact absurd h_12 (by omega)
      · refine G_lload_n (pc := 15) dX8_meanBent_15 rfl ?_
        refine G_aload_n (pc := 16) dX8_meanBent_16 rfl ?_
        refine G_iload_n (pc := 17) dX8_meanBent_17 rfl ?_
        refine G_callV1 (pc := 18) (md := mdX8_remaining) (av := [_]) dX8_meanBent_18 lkX8_51 mwX8_remaining (c_remaining q i _ hq hM (by omega) (hJ i (by omega))) rfl (by first | rfl | assumption) (by omega) rfl rfl (Nat.le_of_ble_eq_true rfl) (by decide) ⟨Nat.zero_le _, Nat.zero_le _⟩ ?_
        refine G_aload_n (pc := 21) dX8_meanBent_21 rfl ?_
        refine G_getr (pc := 22) dX8_meanBent_22 fiX8_18 (by first | rfl | assumption) (by omega) (by first | rfl | assumption) ?_
        refine G_iload_n (pc := 25) dX8_meanBent_25 rfl ?_
        refine G_callV1 (pc := 26) (md := mdX4_bentOf) (av := [_]) dX8_meanBent_26 lkX8_55 mwX4_bentOf (c_bentOf 3 i (Or.inl rfl) hM hH hB (by omega)) rfl (by first | rfl | assumption) (by omega) rfl rfl (Nat.le_of_ble_eq_true rfl) (by decide) ⟨Nat.zero_le _, Nat.zero_le _⟩ ?_
        have b6 := b5 i (by omega)
        refine G_i2l (pc := 29) dX8_meanBent_29 (Ri.mk (by omega) (by omega)) ?_
        refine G_lmul (pc := 30) dX8_meanBent_30 ?_
        refine G_ladd (pc := 31) dX8_meanBent_31 ?_
        refine G_lstore_n (pc := 32) (lv' := [_, _, _, _, _]) dX8_meanBent_32 (by decide) rfl ?_
        refine G_iinc (pc := 33) (lv' := [_, _, _, _, _]) dX8_meanBent_33 (by decide) rfl rfl ?_
        refine G_goto (pc := 36) (tgt := 4) dX8_meanBent_36 (by decide) ?_
        exact ih (i + 1) _ (by omega) (by rw [hx, sumN, Int.natCast_add, Int.natCast_mul])
  refine G_lconst (pc := 0) dX8_meanBent_0 ?_
  refine G_lstore_n (pc := 1) (lv' := [_, _, _, _, _]) dX8_meanBent_1 (by decide) rfl ?_
  refine G_iconst (pc := 2) dX8_meanBent_2 ?_
  refine G_istore_n (pc := 3) (lv' := [_, _, _, _, _]) dX8_meanBent_3 (by decide) rfl ?_
  exact loop (zS hs) 0 _ (by omega) rfl
/-- the ways while a person parts them: places from m on are done but that m lacks what comes from below -/
def poJ (J : Nat → Nat → Int) (q c st : Nat) (w : Nat → Nat) (m : Nat) : Nat → Nat → Int := fun x y => if x = q ∧ y ≤ c then ((if y < m then w y else if y = m then w y - w y * st / 1000000 else stp st w y : Nat) : Int) else J x y
theorem go_le {st : Nat} (hst : st ≤ 1000000) (w : Nat) : w * st / 1000000 ≤ w := by
  have := Nat.mul_le_mul_left w hst
  omega
theorem poJ_top {J : Nat → Nat → Int} {q c st : Nat} {w : Nat → Nat} (hJ : ∀ y, y ≤ c → J q y = w y) : J = poJ J q c st w (c + 1) := by
  funext x y
  simp only [poJ]
  by_cases hx : x = q ∧ y ≤ c
  · rw [if_pos hx, if_pos (by omega), hx.1, hJ y hx.2]
  · rw [if_neg hx]
theorem poJ_bot {J : Nat → Nat → Int} {q c st : Nat} {w : Nat → Nat} : poJ J q c st w 0 = seJ J q (stp st w) (c + 1) := by
  funext x y
  simp only [poJ, seJ]
  by_cases hx : x = q ∧ y ≤ c
  · rw [if_pos hx, if_neg (Nat.not_lt_zero y), if_pos (show x = q ∧ y < c + 1 from ⟨hx.1, by omega⟩)]
    by_cases hy : y = 0
    · subst hy; simp [stp]
    · rw [if_neg hy]
  · rw [if_neg hx, if_neg (by omega)]
theorem poJ_at {J : Nat → Nat → Int} {q c st m : Nat} {w : Nat → Nat} (h : m ≤ c) : poJ J q c st w (m + 1) q m = w m := by simp [poJ, h]
theorem poJ_set {J : Nat → Nat → Int} {q c st m : Nat} {w : Nat → Nat} (h : m ≤ c) {a b : Int} (ha : a = ((w m - w m * st / 1000000 : Nat) : Int)) (hb : m + 1 ≤ c → b = ((stp st w (m + 1) : Nat) : Int)) : (if m + 1 ≤ c then wr (wr (poJ J q c st w (m + 1)) q m a) q (m + 1) b else wr (poJ J q c st w (m + 1)) q m a) = poJ J q c st w m := by
  by_cases hc : m + 1 ≤ c
  · rw [if_pos hc, hb hc, ha]
    funext x y
    by_cases hx : x = q
    · subst hx
      by_cases h1 : y = m + 1
      · subst h1; simp [wr, poJ, hc, show ¬ m + 1 < m by omega]
      · by_cases h2 : y = m
        · subst h2; simp [wr, poJ, h]
        · rcases Nat.lt_or_ge y m with h3 | h3
          · simp [wr, poJ, h1, h2, h3, show y < m + 1 by omega]
          · simp [wr, poJ, h1, h2, show ¬ y < m by omega, show ¬ y < m + 1 by omega]
    · simp [wr, poJ, hx]
  · rw [if_neg hc, ha]
    funext x y
    by_cases hx : x = q
    · subst hx
      by_cases h2 : y = m
      · subst h2; simp [wr, poJ, h]
      · rcases Nat.lt_or_ge y m with h3 | h3
        · simp [wr, poJ, h2, h3, show y < m + 1 by omega]
        · simp [wr, poJ, h2, show ¬ y ≤ c by omega]
    · simp [wr, poJ, hx]
theorem c_partOne {E : EV} {M : Nat} {I J : Nat → Nat → Int} {w : Nat → Nat} (q st c : Nat) (hq : isSieve q) (hM : 71 ≤ M) (hst : st ≤ 1000000) (hc : c ≤ 12) (hJ : ∀ y, y ≤ c → J (q + 2) y = w y) (hw : wB w) : FnF E mdX8_partOne 1 M Rf [vr E q, vl (st : Int), vi (c : Int)] I J none I (seJ J (q + 2) (stp st w) (c + 1)) := by
  obtain ⟨hq64, hsh, f0, f1, f2, s1, s2⟩ := Sieve_all hq
  refine FnQ.of (by decide +kernel) (Nat.le_of_ble_eq_true rfl) ?_
  show GM E mdX8_partOne 1 M Rf _ I J 0 [some (vr E q), some (vl (st : Int)), none, some (vi (c : Int)), none, none, none] []
  have loop : ∀ (m : Nat) (k : Int) (a b : Option Value), m ≤ c + 1 → k = (m : Int) - 1 → GM E mdX8_partOne 1 M Rf (QF none I (seJ J (q + 2) (stp st w) (c + 1))) I (poJ J (q + 2) c st w m) 13 [some (vr E q), some (vl (st : Int)), none, some (vi (c : Int)), some (vi k), a, b] [] := by
    intro m
    induction m with
    | zero =>
      intro k a b hm hk
      refine G_iload (pc := 13) dX8_partOne_13 rfl ?_
      refine G_if_lt (pc := 15) (tgt := 83) dX8_partOne_15 (Ri.mk (by omega) (by omega)) (by decide) (fun h_15 => ?_) (fun h_15 => ?_)
      · refine G_vret (pc := 83) dX8_partOne_83 rfl ?_
        exact ⟨rfl, rfl, poJ_bot⟩
      · exact absurd h_15 (by omega)
    | succ m ih =>
      intro k a b hm hk
      have hk : k = (m : Int) := by omega
      subst hk
      have hwm := hw.le m
      have hg := go_le hst (w m)
      have hmul := Nat.mul_le_mul hwm hst
      have hat : poJ J (q + 2) c st w (m + 1) (q + 2) m = w m := poJ_at (by omega)
      refine G_iload (pc := 13) dX8_partOne_13 rfl ?_
      refine G_if_lt (pc := 15) (tgt := 83) dX8_partOne_15 (Ri.mk (by omega) (by omega)) (by decide) (fun h_15 => ?_) (fun h_15 => ?_)
      · exact absurd h_15 (by omega)
      · refine G_aload_n (pc := 18) dX8_partOne_18 rfl ?_
        refine G_getr (pc := 19) dX8_partOne_19 fiX8_15 (by first | rfl | assumption) (by omega) (by first | rfl | assumption) ?_
        refine G_iload (pc := 22) dX8_partOne_22 rfl ?_
        refine G_lald (pc := 24) dX8_partOne_24 (by first | rfl | assumption) (by omega) (by omega) (by omega) (by omega) ?_
        rw [Int.toNat_natCast, hat]
        refine G_lload_n (pc := 25) dX8_partOne_25 rfl ?_
        refine G_lmul (pc := 26) dX8_partOne_26 ?_
        refine G_ldc2 (pc := 27) dX8_partOne_27 klX8_32 ?_
        rw [← Int.natCast_mul]
        refine G_ldiv (pc := 30) dX8_partOne_30 (Rl.mk (by omega) (by omega)) (Rl.mk (by omega) (by omega)) (by omega) ?_
        refine G_lstore (pc := 31) (lv' := [_, _, _, _, _, _, _]) dX8_partOne_31 (by decide) rfl ?_
        refine G_aload_n (pc := 33) dX8_partOne_33 rfl ?_
        refine G_getr (pc := 34) dX8_partOne_34 fiX8_15 (by first | rfl | assumption) (by omega) (by first | rfl | assumption) ?_
        refine G_iload (pc := 37) dX8_partOne_37 rfl ?_
        refine G_dup2 (pc := 39) dX8_partOne_39 rfl rfl ?_
        refine G_lald (pc := 40) dX8_partOne_40 (by first | rfl | assumption) (by omega) (by omega) (by omega) (by omega) ?_
        rw [Int.toNat_natCast, hat]
        refine G_lload (pc := 41) dX8_partOne_41 rfl ?_
        refine G_lsub (pc := 43) dX8_partOne_43 ?_
        refine G_last (pc := 44) dX8_partOne_44 (by first | rfl | assumption) (by omega) (by omega) (by omega) (by omega) ?_
        rw [Int.toNat_natCast, show ((w m * st : Nat) : Int).tdiv 1000000 = ((w m * st / 1000000 : Nat) : Int) from (Int.ofNat_tdiv _ _).symm]
        refine G_iload (pc := 45) dX8_partOne_45 rfl ?_
        refine G_iload_n (pc := 47) dX8_partOne_47 rfl ?_
        refine G_icmp_ge (pc := 48) (tgt := 77) dX8_partOne_48 (Ri.mk (by omega) (by omega)) (Ri.mk (by omega) (by omega)) (by decide) (fun h_48 => ?_) (fun h_48 => ?_)
        · refine G_iinc (pc := 77) (lv' := [_, _, _, _, _, _, _]) dX8_partOne_77 (by decide) rfl rfl ?_
          refine G_goto (pc := 80) (tgt := 13) dX8_partOne_80 (by decide) ?_
          first
            | (refine G_eq rfl ((if_pos (show m + 1 ≤ c by omega)).symm.trans (poJ_set (by omega) ?_ (fun _ => ?_))) rfl rfl (ih _ _ _ (by omega) (by omega))
               · rw [Int.ofNat_sub hg]
               · simp only [stp, show m + 1 ≠ 0 by omega, if_false, Nat.add_sub_cancel]; rw [Int.natCast_add])
            | (refine G_eq rfl ((if_neg (show ¬ m + 1 ≤ c by omega)).symm.trans (poJ_set (b := 0) (by omega) ?_ (fun h => absurd h (by omega)))) rfl rfl (ih _ _ _ (by omega) (by omega))
               · rw [Int.ofNat_sub hg])
        · refine G_iload (pc := 51) dX8_partOne_51 rfl ?_
          refine G_iconst (pc := 53) dX8_partOne_53 ?_
          refine G_iadd (pc := 54) dX8_partOne_54 ?_
          refine G_aload_n (pc := 55) dX8_partOne_55 rfl ?_
          refine G_getr (pc := 56) dX8_partOne_56 fiX8_15 (by first | rfl | assumption) (by omega) (by first | rfl | assumption) ?_
          refine G_alen (pc := 59) dX8_partOne_59 (by first | rfl | assumption) (by decide) (by omega) ?_
          refine G_icmp_ge (pc := 60) (tgt := 77) dX8_partOne_60 (Ri.mk (by omega) (by omega)) (Ri.mk (by omega) (by omega)) (by decide) (fun h_60 => ?_) (fun h_60 => ?_)
          · exact absurd h_60 (by omega)
          · refine G_aload_n (pc := 63) dX8_partOne_63 rfl ?_
            refine G_getr (pc := 64) dX8_partOne_64 fiX8_15 (by first | rfl | assumption) (by omega) (by first | rfl | assumption) ?_
            refine G_iload (pc := 67) dX8_partOne_67 rfl ?_
            refine G_iconst (pc := 69) dX8_partOne_69 ?_
            refine G_iadd (pc := 70) dX8_partOne_70 ?_
            rw [show ((m : Int) + 1) = ((m + 1 : Nat) : Int) from rfl]
            refine G_dup2 (pc := 71) dX8_partOne_71 rfl rfl ?_
            refine G_lald (pc := 72) dX8_partOne_72 (by first | rfl | assumption) (by omega) (by omega) (by omega) (by omega) ?_
            refine G_lload (pc := 73) dX8_partOne_73 rfl ?_
            refine G_ladd (pc := 75) dX8_partOne_75 ?_
            refine G_last (pc := 76) dX8_partOne_76 (by first | rfl | assumption) (by omega) (by omega) (by omega) (by omega) ?_
            rw [Int.toNat_natCast, wr_n (by omega), show poJ J (q + 2) c st w (m + 1) (q + 2) (m + 1) = ((w (m + 1) - w (m + 1) * st / 1000000 : Nat) : Int) from by simp [poJ, show m + 1 ≤ c by omega]]
            refine G_iinc (pc := 77) (lv' := [_, _, _, _, _, _, _]) dX8_partOne_77 (by decide) rfl rfl ?_
            refine G_goto (pc := 80) (tgt := 13) dX8_partOne_80 (by decide) ?_
            first
              | (refine G_eq rfl ((if_pos (show m + 1 ≤ c by omega)).symm.trans (poJ_set (by omega) ?_ (fun _ => ?_))) rfl rfl (ih _ _ _ (by omega) (by omega))
                 · rw [Int.ofNat_sub hg]
                 · simp only [stp, show m + 1 ≠ 0 by omega, if_false, Nat.add_sub_cancel]; rw [Int.natCast_add])
              | (refine G_eq rfl ((if_neg (show ¬ m + 1 ≤ c by omega)).symm.trans (poJ_set (b := 0) (by omega) ?_ (fun h => absurd h (by omega)))) rfl rfl (ih _ _ _ (by omega) (by omega))
                 · rw [Int.ofNat_sub hg])
  refine G_iload_n (pc := 0) dX8_partOne_0 rfl ?_
  refine G_aload_n (pc := 1) dX8_partOne_1 rfl ?_
  refine G_getr (pc := 2) dX8_partOne_2 fiX8_15 (by first | rfl | assumption) (by omega) (by first | rfl | assumption) ?_
  refine G_alen (pc := 5) dX8_partOne_5 (by first | rfl | assumption) (by decide) (by omega) ?_
  refine G_iconst (pc := 6) dX8_partOne_6 ?_
  refine G_isub (pc := 7) dX8_partOne_7 ?_
  refine G_mmin (pc := 8) dX8_partOne_8 mmin_1 mmin_2 mmin_3 mmin_4 (Ri.mk (by omega) (by omega)) (Ri.mk (by omega) (by omega)) ⟨by decide, Nat.le_of_ble_eq_true rfl⟩ ⟨Nat.zero_le _, Nat.zero_le _⟩ ?_
  rw [if_neg (by omega)]
  refine G_istore (pc := 11) (lv' := [_, _, _, _, _, _, _]) dX8_partOne_11 (by decide) rfl ?_
  exact G_eq rfl (poJ_top hJ) rfl rfl (loop (c + 1) _ _ _ (Nat.le_refl _) (by omega))
theorem c_chance {E : EV} {M : Nat} {I J : Nat → Nat → Int} {hs : HS} {f : Nat → Nat} (q c : Nat) (hq : isSieve q) (hM : 71 ≤ M) (hH : HI I 3 hs) (hB : HB hs) (hc : c ≤ 12) (hJ : ∀ s, s < zS hs → J (q + 1) s = f s) (hf : ∀ s, s < zS hs → f s ≤ hs 0 s * 1000000) : FnF E mdX8_chance 2 M Rf [vr E q, vi (c : Int)] I J (some (vi (wS hs f (zS hs) c : Int))) I (seJ (seJ J (q + 2) w0S 13) (q + 2) (wS hs f (zS hs)) (c + 1)) := by
  obtain ⟨hq64, hsh, f0, f1, f2, s1, s2⟩ := Sieve_all hq
  have bS := hB.1
  have v8 : I 3 8 = (zS hs : Int) := hH.2.2 8 (by omega) (by omega)
  refine FnQ.of (by decide +kernel) (Nat.le_of_ble_eq_true rfl) ?_
  show GM E mdX8_chance 2 M Rf _ I J 0 [some (vr E q), some (vi (c : Int)), none, none, none, none, none] []
  have loop2 : ∀ (m i : Nat) (a b d : Option Value), i + m = zS hs → GM E mdX8_chance 2 M Rf (QF (some (vi (wS hs f (zS hs) c : Int))) I (seJ (seJ J (q + 2) w0S 13) (q + 2) (wS hs f (zS hs)) (c + 1))) I (seJ (seJ J (q + 2) w0S 13) (q + 2) (wS hs f i) (c + 1)) 36 [some (vr E q), some (vi (c : Int)), some (vi (i : Int)), a, b, none, d] [] := by
    intro m
    induction m with
    | zero =>
      intro i a b d hi
      have hi : i = zS hs := by omega
      subst hi
      refine G_iload_n (pc := 36) dX8_chance_36 rfl ?_
      refine G_aload_n (pc := 37) dX8_chance_37 rfl ?_
      refine G_getr (pc := 38) dX8_chance_38 fiX8_18 (by first | rfl | assumption) (by omega) (by first | rfl | assumption) ?_
      refine G_geti (pc := 41) dX8_chance_41 fiX8_22 (by first | rfl | assumption) (by omega) ?_
      refine G_icmp_ge (pc := 44) (tgt := 109) dX8_chance_44 (Ri.mk (by omega) (by omega)) (Ri.mk (by omega) (by omega)) (by decide) (fun h_44 => ?_) (fun h_44 => ?_)
      · refine G_iload_n (pc := 109) dX8_chance_109 rfl ?_
        refine G_if_lt (pc := 110) (tgt := 132) dX8_chance_110 (Ri.mk (by omega) (by omega)) (by decide) (fun h_110 => ?_) (fun h_110 => ?_)
        · exact absurd h_110 (by omega)
        · refine G_iload_n (pc := 113) dX8_chance_113 rfl ?_
          refine G_aload_n (pc := 114) dX8_chance_114 rfl ?_
          refine G_getr (pc := 115) dX8_chance_115 fiX8_15 (by first | rfl | assumption) (by omega) (by first | rfl | assumption) ?_
          refine G_alen (pc := 118) dX8_chance_118 (by first | rfl | assumption) (by decide) (by omega) ?_
          refine G_icmp_ge (pc := 119) (tgt := 132) dX8_chance_119 (Ri.mk (by omega) (by omega)) (Ri.mk (by omega) (by omega)) (by decide) (fun h_119 => ?_) (fun h_119 => ?_)
          · exact absurd h_119 (by omega)
          · refine G_aload_n (pc := 122) dX8_chance_122 rfl ?_
            refine G_getr (pc := 123) dX8_chance_123 fiX8_15 (by first | rfl | assumption) (by omega) (by first | rfl | assumption) ?_
            refine G_iload_n (pc := 126) dX8_chance_126 rfl ?_
            refine G_lald (pc := 127) dX8_chance_127 (by first | rfl | assumption) (by omega) (by omega) (by omega) (by omega) ?_
            refine G_l2i (pc := 128) dX8_chance_128 ?_
            refine G_goto (pc := 129) (tgt := 133) dX8_chance_129 (by decide) ?_
            refine G_iret (pc := 133) dX8_chance_133 rfl ?_
            exact ⟨by rw [Int.toNat_natCast, seJ_s (by omega)], rfl, rfl⟩
      · exact absurd h_44 (by omega)
    | succ m ih =>
      intro i a b d hi
      have hz := hB.2.2.2.2.1 i (by omega)
      have hfi := hf i (by omega)
      have hst := div_sz hfi
      obtain ⟨st, hsd⟩ : ∃ st, st = f i / hs 0 i := ⟨_, rfl⟩
      rw [← hsd] at hst
      have hwS : wS hs f (i + 1) = itS st (hs 0 i) (wS hs f i) := by rw [hsd]; rfl
      have hwi := wB_wS (n := i) fun s hs' => hf s (by omega)
      have inner : ∀ (k j : Nat), j + k = hs 0 i → GM E mdX8_chance 2 M Rf (QF (some (vi (wS hs f (zS hs) c : Int))) I (seJ (seJ J (q + 2) w0S 13) (q + 2) (wS hs f (zS hs)) (c + 1))) I (seJ (seJ J (q + 2) w0S 13) (q + 2) (itS st j (wS hs f i)) (c + 1)) 77 [some (vr E q), some (vi (c : Int)), some (vi (i : Int)), some (vi (hs 0 i : Int)), some (vl (st : Int)), none, some (vi (j : Int))] [] := by
        intro k
        induction k with
        | zero =>
          intro j hj
          have hj : j = hs 0 i := by omega
          subst hj
          refine G_iload (pc := 77) dX8_chance_77 rfl ?_
          refine G_iload_n (pc := 79) dX8_chance_79 rfl ?_
          refine G_icmp_ge (pc := 80) (tgt := 103) dX8_chance_80 (Ri.mk (by omega) (by omega)) (Ri.mk (by omega) (by omega)) (by decide) (fun h_80 => ?_) (fun h_80 => ?_)
          · refine G_iinc (pc := 103) (lv' := [_, _, _, _, _, _, _]) dX8_chance_103 (by decide) rfl rfl ?_
            refine G_goto (pc := 106) (tgt := 36) dX8_chance_106 (by decide) ?_
            exact G_eq rfl (by rw [hwS]) rfl rfl (ih (i + 1) _ _ _ (by omega))
          · exact absurd h_80 (by omega)
        | succ k ihk =>
          intro j hj
          have hwj := wB_itS hst hwi j
          refine G_iload (pc := 77) dX8_chance_77 rfl ?_
          refine G_iload_n (pc := 79) dX8_chance_79 rfl ?_
          refine G_icmp_ge (pc := 80) (tgt := 103) dX8_chance_80 (Ri.mk (by omega) (by omega)) (Ri.mk (by omega) (by omega)) (by decide) (fun h_80 => ?_) (fun h_80 => ?_)
          · exact absurd h_80 (by omega)
          · refine G_lload (pc := 83) dX8_chance_83 rfl ?_
            refine G_lconst (pc := 85) dX8_chance_85 ?_
            refine G_lc_le (pc := 86) (tgt := 103) dX8_chance_86 dX8_chance_87 (Rl.mk (by omega) (by omega)) (Rl.mk (by omega) (by omega)) (by decide) (fun h_86 => ?_) (fun h_86 => ?_)
            · refine G_iinc (pc := 103) (lv' := [_, _, _, _, _, _, _]) dX8_chance_103 (by decide) rfl rfl ?_
              refine G_goto (pc := 106) (tgt := 36) dX8_chance_106 (by decide) ?_
              refine G_eq rfl ?_ rfl rfl (ih (i + 1) _ _ _ (by omega))
              rw [hwS, show st = 0 by omega, itS_0, itS_0]
            · refine G_aload_n (pc := 90) dX8_chance_90 rfl ?_
              refine G_lload (pc := 91) dX8_chance_91 rfl ?_
              refine G_iload_n (pc := 93) dX8_chance_93 rfl ?_
              refine G_callV0 (pc := 94) (md := mdX8_partOne) (av := [_, _]) dX8_chance_94 lkX8_64 mwX8_partOne (c_partOne (w := itS st j (wS hs f i)) q st c hq hM hst hc (fun y hy => seJ_s (by omega)) hwj) rfl (by first | rfl | assumption) (by omega) rfl rfl (Nat.le_of_ble_eq_true rfl) (by decide) ⟨Nat.zero_le _, Nat.zero_le _⟩ ?_
              refine G_iinc (pc := 97) (lv' := [_, _, _, _, _, _, _]) dX8_chance_97 (by decide) rfl rfl ?_
              refine G_goto (pc := 100) (tgt := 77) dX8_chance_100 (by decide) ?_
              refine G_eq rfl seJ_seJ rfl rfl (ihk (j + 1) (by omega))
      refine G_iload_n (pc := 36) dX8_chance_36 rfl ?_
      refine G_aload_n (pc := 37) dX8_chance_37 rfl ?_
      refine G_getr (pc := 38) dX8_chance_38 fiX8_18 (by first | rfl | assumption) (by omega) (by first | rfl | assumption) ?_
      refine G_geti (pc := 41) dX8_chance_41 fiX8_22 (by first | rfl | assumption) (by omega) ?_
      refine G_icmp_ge (pc := 44) (tgt := 109) dX8_chance_44 (Ri.mk (by omega) (by omega)) (Ri.mk (by omega) (by omega)) (by decide) (fun h_44 => ?_) (fun h_44 => ?_)
      · exact absurd h_44 (by omega)
      · refine G_aload_n (pc := 47) dX8_chance_47 rfl ?_
        refine G_getr (pc := 48) dX8_chance_48 fiX8_18 (by first | rfl | assumption) (by omega) (by first | rfl | assumption) ?_
        refine G_iload_n (pc := 51) dX8_chance_51 rfl ?_
        refine G_callV1 (pc := 52) (md := mdX4_size) (av := [_]) dX8_chance_52 lkX8_28 mwX4_size (c_size 3 i (Or.inl rfl) hM hH hB (by omega)) rfl (by first | rfl | assumption) (by omega) rfl rfl (Nat.le_of_ble_eq_true rfl) (by decide) ⟨Nat.zero_le _, Nat.zero_le _⟩ ?_
        refine G_istore_n (pc := 55) (lv' := [_, _, _, _, _, _, _]) dX8_chance_55 (by decide) rfl ?_
        refine G_iload_n (pc := 56) dX8_chance_56 rfl ?_
        refine G_if_ne (pc := 57) (tgt := 64) dX8_chance_57 (Ri.mk (by omega) (by omega)) (by decide) (fun h_57 => ?_) (fun h_57 => ?_)
        · try simp only [bI_eq0, bI_ne0] at h_57
          refine G_aload_n (pc := 64) dX8_chance_64 rfl ?_
          refine G_iload_n (pc := 65) dX8_chance_65 rfl ?_
          refine G_callV1 (pc := 66) (md := mdX8_remaining) (av := [_]) dX8_chance_66 lkX8_51 mwX8_remaining (c_remaining q i (f i : Int) hq hM (by omega) (by rw [seJ_o (by omega), seJ_o (by omega)]; exact hJ i (by omega))) rfl (by first | rfl | assumption) (by omega) rfl rfl (Nat.le_of_ble_eq_true rfl) (by decide) ⟨Nat.zero_le _, Nat.zero_le _⟩ ?_
          refine G_iload_n (pc := 69) dX8_chance_69 rfl ?_
          refine G_i2l (pc := 70) dX8_chance_70 (Ri.mk (by omega) (by omega)) ?_
          refine G_ldiv (pc := 71) dX8_chance_71 (Rl.mk (by omega) (by omega)) (Rl.mk (by omega) (by omega)) (by omega) ?_
          rw [← Int.ofNat_tdiv, ← hsd]
          refine G_lstore (pc := 72) (lv' := [_, _, _, _, _, _, _]) dX8_chance_72 (by decide) rfl ?_
          refine G_iconst (pc := 74) dX8_chance_74 ?_
          refine G_istore (pc := 75) (lv' := [_, _, _, _, _, _, _]) dX8_chance_75 (by decide) rfl ?_
          exact inner (hs 0 i) 0 (by omega)
        · exact absurd h_57 (by omega)
  have loop1 : ∀ (m i : Nat), i + m = 13 → GM E mdX8_chance 2 M Rf (QF (some (vi (wS hs f (zS hs) c : Int))) I (seJ (seJ J (q + 2) w0S 13) (q + 2) (wS hs f (zS hs)) (c + 1))) I (seJ J (q + 2) w0S i) 2 [some (vr E q), some (vi (c : Int)), some (vi (i : Int)), none, none, none, none] [] := by
    intro m
    induction m with
    | zero =>
      intro i hi
      have hi : i = 13 := by omega
      subst hi
      refine G_iload_n (pc := 2) dX8_chance_2 rfl ?_
      refine G_aload_n (pc := 3) dX8_chance_3 rfl ?_
      refine G_getr (pc := 4) dX8_chance_4 fiX8_15 (by first | rfl | assumption) (by omega) (by first | rfl | assumption) ?_
      refine G_alen (pc := 7) dX8_chance_7 (by first | rfl | assumption) (by decide) (by omega) ?_
      refine G_icmp_ge (pc := 8) (tgt := 34) dX8_chance_8 (Ri.mk (by omega) (by omega)) (Ri.mk (by omega) (by omega)) (by decide) (fun h_8 => ?_) (fun h_8 => ?_)
      · refine G_iconst (pc := 34) dX8_chance_34 ?_
        refine G_istore_n (pc := 35) (lv' := [_, _, _, _, _, _, _]) dX8_chance_35 (by decide) rfl ?_
        refine G_eq rfl ?_ rfl rfl (loop2 (zS hs) 0 _ _ _ (by omega))
        funext x y; simp only [seJ]; split <;> split <;> first | rfl | omega
      · exact absurd h_8 (by omega)
    | succ m ih =>
      intro i hi
      refine G_iload_n (pc := 2) dX8_chance_2 rfl ?_
      refine G_aload_n (pc := 3) dX8_chance_3 rfl ?_
      refine G_getr (pc := 4) dX8_chance_4 fiX8_15 (by first | rfl | assumption) (by omega) (by first | rfl | assumption) ?_
      refine G_alen (pc := 7) dX8_chance_7 (by first | rfl | assumption) (by decide) (by omega) ?_
      refine G_icmp_ge (pc := 8) (tgt := 34) dX8_chance_8 (Ri.mk (by omega) (by omega)) (Ri.mk (by omega) (by omega)) (by decide) (fun h_8 => ?_) (fun h_8 => ?_)
      · exact absurd h_8 (by omega)
      · refine G_aload_n (pc := 11) dX8_chance_11 rfl ?_
        refine G_getr (pc := 12) dX8_chance_12 fiX8_15 (by first | rfl | assumption) (by omega) (by first | rfl | assumption) ?_
        refine G_iload_n (pc := 15) dX8_chance_15 rfl ?_
        refine G_iload_n (pc := 16) dX8_chance_16 rfl ?_
        refine G_if_ne (pc := 17) (tgt := 26) dX8_chance_17 (Ri.mk (by omega) (by omega)) (by decide) (fun h_17 => ?_) (fun h_17 => ?_)
        · try simp only [bI_eq0, bI_ne0] at h_17
          refine G_lconst (pc := 26) dX8_chance_26 ?_
          refine G_last (pc := 27) dX8_chance_27 (by first | rfl | assumption) (by omega) (by omega) (by omega) (by omega) ?_
          refine G_iinc (pc := 28) (lv' := [_, _, _, _, _, _, _]) dX8_chance_28 (by decide) rfl rfl ?_
          refine G_goto (pc := 31) (tgt := 2) dX8_chance_31 (by decide) ?_
          refine G_eq rfl ?_ rfl rfl (ih (i + 1) (by omega))
          rw [Int.toNat_natCast]; exact seJ_n (by simp only [w0S]; first | (rw [if_pos (by omega)]; rfl) | (rw [if_neg (by omega)]; rfl))
        · try simp only [bI_eq0, bI_ne0] at h_17
          refine G_ldc2 (pc := 20) dX8_chance_20 klX8_32 ?_
          refine G_goto (pc := 23) (tgt := 27) dX8_chance_23 (by decide) ?_
          refine G_last (pc := 27) dX8_chance_27 (by first | rfl | assumption) (by omega) (by omega) (by omega) (by omega) ?_
          refine G_iinc (pc := 28) (lv' := [_, _, _, _, _, _, _]) dX8_chance_28 (by decide) rfl rfl ?_
          refine G_goto (pc := 31) (tgt := 2) dX8_chance_31 (by decide) ?_
          refine G_eq rfl ?_ rfl rfl (ih (i + 1) (by omega))
          rw [Int.toNat_natCast]; exact seJ_n (by simp only [w0S]; first | (rw [if_pos (by omega)]; rfl) | (rw [if_neg (by omega)]; rfl))
  refine G_iconst (pc := 0) dX8_chance_0 ?_
  refine G_istore_n (pc := 1) (lv' := [_, _, _, _, _, _, _]) dX8_chance_1 (by decide) rfl ?_
  exact G_eq rfl (seJ_0 J (q + 2) w0S).symm rfl rfl (loop1 13 0 (by omega))
