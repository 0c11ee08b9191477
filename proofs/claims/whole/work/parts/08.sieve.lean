/-! SIEVE -/
def isSieve (q : Nat) : Prop := q = 53 ∨ q = 63
theorem Sieve_all {q : Nat} (h : isSieve q) : q < 64 ∧ shp q = .inl 8 ∧ Rf q 0 = some 3 ∧ Rf q 1 = some (q + 1) ∧ Rf q 2 = some (q + 2) ∧ shp (q + 1) = .inr (1, 6) ∧ shp (q + 2) = .inr (1, 13) := by
  rcases h with rfl | rfl <;> exact ⟨by decide, rfl, rfl, rfl, rfl, rfl, rfl⟩
theorem c_pass {E : EV} {M : Nat} {I J : Nat → Nat → Int} {hs : HS} {C : CS} (q r : Nat) (hq : isSieve q) (hr : isRow r) (hM : 71 ≤ M) (hH : HI I 3 hs) (hB : HB hs) (hR : RI I r C) (hRB : RB hs C) : FnF E mdX8_pass 3 M Rf [vr E q, vr E r] I J none I (seJ J (q + 1) (lf hs C) (zS hs)) := by
  obtain ⟨hq64, hsh, f0, f1, f2, s1, s2⟩ := Sieve_all hq
  obtain ⟨hk60, hsh2, g0, g1, t1, t2⟩ := Row_all hr
  have bS := hB.1
  have v8 : I 3 8 = (zS hs : Int) := hH.2.2 8 (by omega) (by omega)
  have n8 := hRB.1
  have vr2 := hR.1
  refine FnQ.of (by decide +kernel) (Nat.le_of_ble_eq_true rfl) ?_
  show GM E mdX8_pass 3 M Rf _ I J 0 [some (vr E q), some (vr E r), none, none, none, none, none] []
  have loop : ∀ (m i : Nat) (a b c d : Option Value), i + m = zS hs → GM E mdX8_pass 3 M Rf (QF none I (seJ J (q + 1) (lf hs C) (zS hs))) I (seJ J (q + 1) (lf hs C) i) 2 [some (vr E q), some (vr E r), some (vi (i : Int)), a, b, c, d] [] := by
    intro m
    induction m with
    | zero =>
      intro i a b c d hi
      have hi : i = zS hs := by omega
      subst hi
      refine G_iload_n (pc := 2) dX8_pass_2 rfl ?_
      refine G_aload_n (pc := 3) dX8_pass_3 rfl ?_
      refine G_getr (pc := 4) dX8_pass_4 fiX8_9 (by first | rfl | assumption) (by omega) (by first | rfl | assumption) ?_
      refine G_alen (pc := 7) dX8_pass_7 (by first | rfl | assumption) (by decide) (by omega) ?_
      refine G_icmp_ge (pc := 8) (tgt := 111) dX8_pass_8 (Ri.mk (by omega) (by omega)) (Ri.mk (by omega) (by omega)) (by decide) (fun h_8 => ?_) (fun h_8 => ?_)
      · refine G_vret (pc := 111) dX8_pass_111 rfl ?_
        exact ⟨rfl, rfl, rfl⟩
      · refine G_iload_n (pc := 11) dX8_pass_11 rfl ?_
        refine G_aload_n (pc := 12) dX8_pass_12 rfl ?_
        refine G_getr (pc := 13) dX8_pass_13 fiX8_18 (by first | rfl | assumption) (by omega) (by first | rfl | assumption) ?_
        refine G_geti (pc := 16) dX8_pass_16 fiX8_22 (by first | rfl | assumption) (by omega) ?_
        refine G_icmp_ge (pc := 19) (tgt := 111) dX8_pass_19 (Ri.mk (by omega) (by omega)) (Ri.mk (by omega) (by omega)) (by decide) (fun h_19 => ?_) (fun h_19 => ?_)
        · refine G_vret (pc := 111) dX8_pass_111 rfl ?_
          exact ⟨rfl, rfl, rfl⟩
        · exact absurd h_19 (by omega)
    | succ m ih =>
      intro i a b c d hi
      have hz := hB.2.2.2.2.1 i (by omega)
      have inner : ∀ (k t : Nat) (x : Int) (c d : Option Value), t + k = C 0 0 → x = (lfR hs C i t : Nat) → GM E mdX8_pass 3 M Rf (QF none I (seJ J (q + 1) (lf hs C) (zS hs))) I (seJ J (q + 1) (lf hs C) i) 39 [some (vr E q), some (vr E r), some (vi (i : Int)), some (vl x), none, some (vi (t : Int)), d] [] := by
        intro k
        induction k with
        | zero =>
          intro t x c d ht hx
          have ht : t = C 0 0 := by omega
          subst ht
          refine G_iload (pc := 39) dX8_pass_39 rfl ?_
          refine G_aload_n (pc := 41) dX8_pass_41 rfl ?_
          refine G_geti (pc := 42) dX8_pass_42 fiX8_34 (by first | rfl | assumption) (by omega) ?_
          refine G_icmp_ge (pc := 45) (tgt := 98) dX8_pass_45 (Ri.mk (by omega) (by omega)) (Ri.mk (by omega) (by omega)) (by decide) (fun h_45 => ?_) (fun h_45 => ?_)
          · refine G_aload_n (pc := 98) dX8_pass_98 rfl ?_
            refine G_getr (pc := 99) dX8_pass_99 fiX8_9 (by first | rfl | assumption) (by omega) (by first | rfl | assumption) ?_
            refine G_iload_n (pc := 102) dX8_pass_102 rfl ?_
            refine G_lload_n (pc := 103) dX8_pass_103 rfl ?_
            refine G_last (pc := 104) dX8_pass_104 (by first | rfl | assumption) (by omega) (by omega) (by omega) (by omega) ?_
            refine G_iinc (pc := 105) (lv' := [_, _, _, _, _, _, _]) dX8_pass_105 (by decide) rfl rfl ?_
            refine G_goto (pc := 108) (tgt := 2) dX8_pass_108 (by decide) ?_
            refine G_eq rfl ?_ rfl rfl (ih (i + 1) _ _ _ _ (by omega))
            rw [Int.toNat_natCast]; exact seJ_n hx
          · exact absurd h_45 (by omega)
        | succ k ihk =>
          intro t x c d ht hx
          have hb := hRB.2 t (by omega)
          have hl := lfR_le hs C i t
          have hd := dO_le hs i (C 1 t) 0
          refine G_iload (pc := 39) dX8_pass_39 rfl ?_
          refine G_aload_n (pc := 41) dX8_pass_41 rfl ?_
          refine G_geti (pc := 42) dX8_pass_42 fiX8_34 (by first | rfl | assumption) (by omega) ?_
          refine G_icmp_ge (pc := 45) (tgt := 98) dX8_pass_45 (Ri.mk (by omega) (by omega)) (Ri.mk (by omega) (by omega)) (by decide) (fun h_45 => ?_) (fun h_45 => ?_)
          · exact absurd h_45 (by omega)
          · refine G_aload_n (pc := 48) dX8_pass_48 rfl ?_
            refine G_getr (pc := 49) dX8_pass_49 fiX8_18 (by first | rfl | assumption) (by omega) (by first | rfl | assumption) ?_
            refine G_iload_n (pc := 52) dX8_pass_52 rfl ?_
            refine G_aload_n (pc := 53) dX8_pass_53 rfl ?_
            refine G_iload (pc := 54) dX8_pass_54 rfl ?_
            refine G_callV1 (pc := 56) (md := mdX7_ask) (av := [_]) dX8_pass_56 lkX8_38 mwX7_ask (c_Rask r t hr hM hR n8 (by omega)) rfl (by first | rfl | assumption) (by omega) rfl rfl (Nat.le_of_ble_eq_true rfl) (by decide) ⟨Nat.zero_le _, Nat.zero_le _⟩ ?_
            refine G_iconst (pc := 59) dX8_pass_59 ?_
            refine G_callV1 (pc := 60) (md := mdX4_doing) (av := [_, _, _]) dX8_pass_60 lkX8_41 mwX4_doing (c_doing 3 i (C 1 t) 0 (Or.inl rfl) hM hH hB (by omega) hb.1 (by omega)) rfl (by first | rfl | assumption) (by omega) rfl rfl (Nat.le_of_ble_eq_true rfl) (by decide) ⟨Nat.zero_le _, Nat.zero_le _⟩ ?_
            refine G_istore (pc := 63) (lv' := [_, _, _, _, _, _, _]) dX8_pass_63 (by decide) rfl ?_
            refine G_lload_n (pc := 65) dX8_pass_65 rfl ?_
            refine G_aload_n (pc := 66) dX8_pass_66 rfl ?_
            refine G_iload (pc := 67) dX8_pass_67 rfl ?_
            refine G_callV1 (pc := 69) (md := mdX7_keepsDoers) (av := [_]) dX8_pass_69 lkX8_45 mwX7_keepsDoers (c_Rkeeps r t hr hM hR n8 (by omega) hb.2) rfl (by first | rfl | assumption) (by omega) rfl rfl (Nat.le_of_ble_eq_true rfl) (by decide) ⟨Nat.zero_le _, Nat.zero_le _⟩ ?_
            refine G_if_eq (pc := 72) (tgt := 80) dX8_pass_72 bI_R (by decide) (fun h_72 => ?_) (fun h_72 => ?_)
            · try simp only [bI_eq0, bI_ne0] at h_72
              refine G_bipush (pc := 80) dX8_pass_80 (by decide) ?_
              refine G_iload (pc := 82) dX8_pass_82 rfl ?_
              refine G_isub (pc := 84) dX8_pass_84 ?_
              refine G_i2l (pc := 85) dX8_pass_85 (Ri.mk (by omega) (by omega)) ?_
              refine G_lmul (pc := 86) dX8_pass_86 ?_
              refine G_ldc2 (pc := 87) dX8_pass_87 klX8_49 ?_
              subst hx
              first
                | rw [← Int.natCast_mul]
                | rw [show (100 : Int) - (dO hs i (C 1 t) 0 : Nat) = ((100 - dO hs i (C 1 t) 0 : Nat) : Int) by omega, ← Int.natCast_mul]
              have hm1 := Nat.mul_le_mul hl hd
              have hm2 := Nat.mul_le_mul hl (show 100 - dO hs i (C 1 t) 0 ≤ 100 by omega)
              refine G_ldiv (pc := 90) dX8_pass_90 (Rl.mk (by omega) (by omega)) (Rl.mk (by omega) (by omega)) (by omega) ?_
              refine G_lstore_n (pc := 91) (lv' := [_, _, _, _, _, _, _]) dX8_pass_91 (by decide) rfl ?_
              refine G_iinc (pc := 92) (lv' := [_, _, _, _, _, _, _]) dX8_pass_92 (by decide) rfl rfl ?_
              refine G_goto (pc := 95) (tgt := 39) dX8_pass_95 (by decide) ?_
              refine ihk (t + 1) _ d _ (by omega) ?_
              rw [lfR]; first | rw [if_pos (by assumption)]; rfl | rw [if_neg (by assumption)]; rfl
            · try simp only [bI_eq0, bI_ne0] at h_72
              refine G_iload (pc := 75) dX8_pass_75 rfl ?_
              refine G_goto (pc := 77) (tgt := 85) dX8_pass_77 (by decide) ?_
              refine G_i2l (pc := 85) dX8_pass_85 (Ri.mk (by omega) (by omega)) ?_
              refine G_lmul (pc := 86) dX8_pass_86 ?_
              refine G_ldc2 (pc := 87) dX8_pass_87 klX8_49 ?_
              subst hx
              first
                | rw [← Int.natCast_mul]
                | rw [show (100 : Int) - (dO hs i (C 1 t) 0 : Nat) = ((100 - dO hs i (C 1 t) 0 : Nat) : Int) by omega, ← Int.natCast_mul]
              have hm1 := Nat.mul_le_mul hl hd
              have hm2 := Nat.mul_le_mul hl (show 100 - dO hs i (C 1 t) 0 ≤ 100 by omega)
              refine G_ldiv (pc := 90) dX8_pass_90 (Rl.mk (by omega) (by omega)) (Rl.mk (by omega) (by omega)) (by omega) ?_
              refine G_lstore_n (pc := 91) (lv' := [_, _, _, _, _, _, _]) dX8_pass_91 (by decide) rfl ?_
              refine G_iinc (pc := 92) (lv' := [_, _, _, _, _, _, _]) dX8_pass_92 (by decide) rfl rfl ?_
              refine G_goto (pc := 95) (tgt := 39) dX8_pass_95 (by decide) ?_
              refine ihk (t + 1) _ d _ (by omega) ?_
              rw [lfR]; first | rw [if_pos (by assumption)]; rfl | rw [if_neg (by assumption)]; rfl
      refine G_iload_n (pc := 2) dX8_pass_2 rfl ?_
      refine G_aload_n (pc := 3) dX8_pass_3 rfl ?_
      refine G_getr (pc := 4) dX8_pass_4 fiX8_9 (by first | rfl | assumption) (by omega) (by first | rfl | assumption) ?_
      refine G_alen (pc := 7) dX8_pass_7 (by first | rfl | assumption) (by decide) (by omega) ?_
      refine G_icmp_ge (pc := 8) (tgt := 111) dX8_pass_8 (Ri.mk (by omega) (by omega)) (Ri.mk (by omega) (by omega)) (by decide) (fun h_8 => ?_) (fun h_8 => ?_)
      · exact absurd h_8 (by omega)
      · refine G_iload_n (pc := 11) dX8_pass_11 rfl ?_
        refine G_aload_n (pc := 12) dX8_pass_12 rfl ?_
        refine G_getr (pc := 13) dX8_pass_13 fiX8_18 (by first | rfl | assumption) (by omega) (by first | rfl | assumption) ?_
        refine G_geti (pc := 16) dX8_pass_16 fiX8_22 (by first | rfl | assumption) (by omega) ?_
        refine G_icmp_ge (pc := 19) (tgt := 111) dX8_pass_19 (Ri.mk (by omega) (by omega)) (Ri.mk (by omega) (by omega)) (by decide) (fun h_19 => ?_) (fun h_19 => ?_)
        · exact absurd h_19 (by omega)
        · refine G_aload_n (pc := 22) dX8_pass_22 rfl ?_
          refine G_getr (pc := 23) dX8_pass_23 fiX8_18 (by first | rfl | assumption) (by omega) (by first | rfl | assumption) ?_
          refine G_iload_n (pc := 26) dX8_pass_26 rfl ?_
          refine G_callV1 (pc := 27) (md := mdX4_size) (av := [_]) dX8_pass_27 lkX8_28 mwX4_size (c_size 3 i (Or.inl rfl) hM hH hB (by omega)) rfl (by first | rfl | assumption) (by omega) rfl rfl (Nat.le_of_ble_eq_true rfl) (by decide) ⟨Nat.zero_le _, Nat.zero_le _⟩ ?_
          refine G_i2l (pc := 30) dX8_pass_30 (Ri.mk (by omega) (by omega)) ?_
          refine G_ldc2 (pc := 31) dX8_pass_31 klX8_32 ?_
          refine G_lmul (pc := 34) dX8_pass_34 ?_
          refine G_lstore_n (pc := 35) (lv' := [_, _, _, _, _, _, _]) dX8_pass_35 (by decide) rfl ?_
          refine G_iconst (pc := 36) dX8_pass_36 ?_
          refine G_istore (pc := 37) (lv' := [_, _, _, _, _, _, _]) dX8_pass_37 (by decide) rfl ?_
          exact inner (C 0 0) 0 _ none _ (by omega) (by rw [lfR, Int.natCast_mul]; rfl)
  refine G_iconst (pc := 0) dX8_pass_0 ?_
  refine G_istore_n (pc := 1) (lv' := [_, _, _, _, _, _, _]) dX8_pass_1 (by decide) rfl ?_
  exact G_eq rfl (seJ_0 J (q + 1) (lf hs C)).symm rfl rfl (loop (zS hs) 0 _ _ _ _ (by omega))
theorem c_remaining {E : EV} {M : Nat} {I J : Nat → Nat → Int} (q s : Nat) (v : Int) (hq : isSieve q) (hM : 71 ≤ M) (h6 : s < 6) (hv : J (q + 1) s = v) : FnF E mdX8_remaining 0 M Rf [vr E q, vi (s : Int)] I J (some (vl v)) I J := by
  obtain ⟨hq64, hsh, f0, f1, f2, s1, s2⟩ := Sieve_all hq
  refine FnQ.of (by decide +kernel) (Nat.le_of_ble_eq_true rfl) ?_
  show GM E mdX8_remaining 0 M Rf _ I J 0 [some (vr E q), some (vi (s : Int))] []
  refine G_iload_n (pc := 0) dX8_remaining_0 rfl ?_
  refine G_if_lt (pc := 1) (tgt := 22) dX8_remaining_1 (Ri.mk (by omega) (by omega)) (by decide) (fun h_1 => ?_) (fun h_1 => ?_)
  · exact absurd h_1 (by omega)
  · refine G_iload_n (pc := 4) dX8_remaining_4 rfl ?_
    refine G_aload_n (pc := 5) dX8_remaining_5 rfl ?_
    refine G_getr (pc := 6) dX8_remaining_6 fiX8_9 (by first | rfl | assumption) (by omega) (by first | rfl | assumption) ?_
    refine G_alen (pc := 9) dX8_remaining_9 (by first | rfl | assumption) (by decide) (by omega) ?_
    refine G_icmp_ge (pc := 10) (tgt := 22) dX8_remaining_10 (Ri.mk (by omega) (by omega)) (Ri.mk (by omega) (by omega)) (by decide) (fun h_10 => ?_) (fun h_10 => ?_)
    · exact absurd h_10 (by omega)
    · refine G_aload_n (pc := 13) dX8_remaining_13 rfl ?_
      refine G_getr (pc := 14) dX8_remaining_14 fiX8_9 (by first | rfl | assumption) (by omega) (by first | rfl | assumption) ?_
      refine G_iload_n (pc := 17) dX8_remaining_17 rfl ?_
      refine G_lald (pc := 18) dX8_remaining_18 (by first | rfl | assumption) (by omega) (by omega) (by omega) (by omega) ?_
      refine G_goto (pc := 19) (tgt := 23) dX8_remaining_19 (by decide) ?_
      refine G_lret (pc := 23) dX8_remaining_23 rfl ?_
      exact ⟨by rw [Int.toNat_natCast, hv], rfl, rfl⟩
theorem c_together {E : EV} {M : Nat} {I J : Nat → Nat → Int} {hs : HS} {f : Nat → Nat} (q : Nat) (hq : isSieve q) (hM : 71 ≤ M) (hH : HI I 3 hs) (hB : HB hs) (hJ : ∀ s, s < zS hs → J (q + 1) s = f s) : FnF E mdX8_together 1 M Rf [vr E q] I J (some (vl (sumN f (zS hs) : Int))) I J := by
  obtain ⟨hq64, hsh, f0, f1, f2, s1, s2⟩ := Sieve_all hq
  have bS := hB.1
  have v8 : I 3 8 = (zS hs : Int) := hH.2.2 8 (by omega) (by omega)
  refine FnQ.of (by decide +kernel) (Nat.le_of_ble_eq_true rfl) ?_
  show GM E mdX8_together 1 M Rf _ I J 0 [some (vr E q), none, none, none] []
  have loop : ∀ (m i : Nat) (x : Int), i + m = zS hs → x = (sumN f i : Nat) → GM E mdX8_together 1 M Rf (QF (some (vl (sumN f (zS hs) : Int))) I J) I J 4 [some (vr E q), some (vl x), none, some (vi (i : Int))] [] := by
    intro m
    induction m with
    | zero =>
      intro i x hi hx
      have hi : i = zS hs := by omega
      subst hi
      refine G_iload_n (pc := 4) dX8_together_4 rfl ?_
      refine G_aload_n (pc := 5) dX8_together_5 rfl ?_
      refine G_getr (pc := 6) dX8_together_6 fiX8_18 (by first | rfl | assumption) (by omega) (by first | rfl | assumption) ?_
      refine G_geti (pc := 9) dX8_together_9 fiX8_22 (by first | rfl | assumption) (by omega) ?_
      refine G_icmp_ge (pc := 12) (tgt := 29) dX8_together_12 (Ri.mk (by omega) (by omega)) (Ri.mk (by omega) (by omega)) (by decide) (fun h_12 => ?_) (fun h_12 => ?_)
      · refine G_lload_n (pc := 29) dX8_together_29 rfl ?_
        refine G_lret (pc := 30) dX8_together_30 rfl ?_
        exact ⟨by rw [hx], rfl, rfl⟩
      · exact absurd h_12 (by omega)
    | succ m ih =>
      intro i x hi hx
      refine G_iload_n (pc := 4) dX8_together_4 rfl ?_
      refine G_aload_n (pc := 5) dX8_together_5 rfl ?_
      refine G_getr (pc := 6) dX8_together_6 fiX8_18 (by first | rfl | assumption) (by omega) (by first | rfl | assumption) ?_
      refine G_geti (pc := 9) dX8_together_9 fiX8_22 (by first | rfl | assumption) (by omega) ?_
      refine G_icmp_ge (pc := 12) (tgt := 29) dX8_together_12 (Ri.mk (by omega) (by omega)) (Ri.mk (by omega) (by omega)) (by decide) (fun h_12 => ?_) (fun h_12 => ?_)
      · exact absurd h_12 (by omega)
      · refine G_lload_n (pc := 15) dX8_together_15 rfl ?_
        refine G_aload_n (pc := 16) dX8_together_16 rfl ?_
        refine G_iload_n (pc := 17) dX8_together_17 rfl ?_
        refine G_callV1 (pc := 18) (md := mdX8_remaining) (av := [_]) dX8_together_18 lkX8_51 mwX8_remaining (c_remaining q i _ hq hM (by omega) (hJ i (by omega))) rfl (by first | rfl | assumption) (by omega) rfl rfl (Nat.le_of_ble_eq_true rfl) (by decide) ⟨Nat.zero_le _, Nat.zero_le _⟩ ?_
        refine G_ladd (pc := 21) dX8_together_21 ?_
        refine G_lstore_n (pc := 22) (lv' := [_, _, _, _]) dX8_together_22 (by decide) rfl ?_
        refine G_iinc (pc := 23) (lv' := [_, _, _, _]) dX8_together_23 (by decide) rfl rfl ?_
        refine G_goto (pc := 26) (tgt := 4) dX8_together_26 (by decide) ?_
        exact ih (i + 1) _ (by omega) (by rw [hx, sumN]; rfl)
  refine G_lconst (pc := 0) dX8_together_0 ?_
  refine G_lstore_n (pc := 1) (lv' := [_, _, _, _]) dX8_together_1 (by decide) rfl ?_
  refine G_iconst (pc := 2) dX8_together_2 ?_
  refine G_istore_n (pc := 3) (lv' := [_, _, _, _]) dX8_together_3 (by decide) rfl ?_
  exact loop (zS hs) 0 _ (by omega) rfl
theorem c_SmeanBent {E : EV} {M : Nat} {I J : Nat → Nat → Int} {hs : HS} {f : Nat → Nat} (q : Nat) (hq : isSieve q) (hM : 71 ≤ M) (hH : HI I 3 hs) (hB : HB hs) (hJ : ∀ s, s < zS hs → J (q + 1) s = f s) (hf : ∀ s, s < zS hs → f s ≤ 60000000) : FnF E mdX8_meanBent 2 M Rf [vr E q] I J (some (vi (if sumN f (zS hs) = 0 then -4 else ((1000 * sumN (fun s => f s * hs 1 s) (zS hs) / sumN f (zS hs) : Nat) : Int)))) I J := by
  obtain ⟨hq64, hsh, f0, f1, f2, s1, s2⟩ := Sieve_all hq
  have bS := hB.1
  have b5 := hB.2.2.2.2.1
  have v8 : I 3 8 = (zS hs : Int) := hH.2.2 8 (by omega) (by omega)
  have hb1 := sumN_le hf
  have hb2 : sumN (fun s => f s * hs 1 s) (zS hs) ≤ zS hs * 600000000 := sumN_le fun s h => by
    have h1 := Nat.mul_le_mul (hf s h) (b5 s h).2.2.1
    omega
  refine FnQ.of (by decide +kernel) (Nat.le_of_ble_eq_true rfl) ?_
  show GM E mdX8_meanBent 2 M Rf _ I J 0 [some (vr E q), none, none, none, none] []
  have loop : ∀ (m i : Nat) (x : Int), i + m = zS hs → x = (sumN (fun s => f s * hs 1 s) i : Nat) → GM E mdX8_meanBent 2 M Rf (QF (some (vi (if sumN f (zS hs) = 0 then -4 else ((1000 * sumN (fun s => f s * hs 1 s) (zS hs) / sumN f (zS hs) : Nat) : Int)))) I J) I J 4 [some (vr E q), some (vl x), none, some (vi (i : Int)), none] [] := by
    intro m
    induction m with
    | zero =>
      intro i x hi hx
      have hi : i = zS hs := by omega
      subst hi
      refine G_iload_n (pc := 4) dX8_meanBent_4 rfl ?_
      refine G_aload_n (pc := 5) dX8_meanBent_5 rfl ?_
      refine G_getr (pc := 6) dX8_meanBent_6 fiX8_18 (by first | rfl | assumption) (by omega) (by first | rfl | assumption) ?_
      refine G_geti (pc := 9) dX8_meanBent_9 fiX8_22 (by first | rfl | assumption) (by omega) ?_
      refine G_icmp_ge (pc := 12) (tgt := 39) dX8_meanBent_12 (Ri.mk (by omega) (by omega)) (Ri.mk (by omega) (by omega)) (by decide) (fun h_12 => ?_) (fun h_12 => ?_)
      · refine G_aload_n (pc := 39) dX8_meanBent_39 rfl ?_
        refine G_callV1 (pc := 40) (md := mdX8_together) (av := []) dX8_meanBent_40 lkX8_58 mwX8_together (c_together q hq hM hH hB hJ) rfl (by first | rfl | assumption) (by omega) rfl rfl (Nat.le_of_ble_eq_true rfl) (by decide) ⟨Nat.zero_le _, Nat.zero_le _⟩ ?_
        refine G_lstore_n (pc := 43) (lv' := [_, _, _, _, _]) dX8_meanBent_43 (by decide) rfl ?_
        refine G_lload_n (pc := 44) dX8_meanBent_44 rfl ?_
        refine G_lconst (pc := 45) dX8_meanBent_45 ?_
        refine G_lc_ne (pc := 46) (tgt := 55) dX8_meanBent_46 dX8_meanBent_47 (Rl.mk (by omega) (by omega)) (Rl.mk (by omega) (by omega)) (by decide) (fun h_46 => ?_) (fun h_46 => ?_)
        · refine G_ldc2 (pc := 55) dX8_meanBent_55 klX8_62 ?_
          refine G_lload_n (pc := 58) dX8_meanBent_58 rfl ?_
          refine G_lmul (pc := 59) dX8_meanBent_59 ?_
          refine G_lload_n (pc := 60) dX8_meanBent_60 rfl ?_
          refine G_ldiv (pc := 61) dX8_meanBent_61 (Rl.mk (by omega) (by omega)) (Rl.mk (by omega) (by omega)) (by omega) ?_
          refine G_l2i (pc := 62) dX8_meanBent_62 ?_
          refine G_iret (pc := 63) dX8_meanBent_63 rfl ?_
          exact ⟨by first | rw [if_pos (by omega)] | rw [if_neg (by omega), hx, show (1000 : Int) = ((1000 : Nat) : Int) from rfl, ← Int.natCast_mul, ← Int.ofNat_tdiv], rfl, rfl⟩
        · refine G_bipush (pc := 50) dX8_meanBent_50 (by decide) ?_
          refine G_goto (pc := 52) (tgt := 63) dX8_meanBent_52 (by decide) ?_
          refine G_iret (pc := 63) dX8_meanBent_63 rfl ?_
          exact ⟨by first | rw [if_pos (by omega)] | rw [if_neg (by omega), hx, show (1000 : Int) = ((1000 : Nat) : Int) from rfl, ← Int.natCast_mul, ← Int.ofNat_tdiv], rfl, rfl⟩
      · exact absurd h_12 (by omega)
    | succ m ih =>
      intro i x hi hx
      refine G_iload_n (pc := 4) dX8_meanBent_4 rfl ?_
      refine G_aload_n (pc := 5) dX8_meanBent_5 rfl ?_
      refine G_getr (pc := 6) dX8_meanBent_6 fiX8_18 (by first | rfl | assumption) (by omega) (by first | rfl | assumption) ?_
      refine G_geti (pc := 9) dX8_meanBent_9 fiX8_22 (by first | rfl | assumption) (by omega) ?_
      refine G_icmp_ge (pc := 12) (tgt := 39) dX8_meanBent_12 (Ri.mk (by omega) (by omega)) (Ri.mk (by omega) (by omega)) (by decide) (fun h_12 => ?_) (fun h_12 => ?_)
      · exact absurd h_12 (by omega)
      · refine G_lload_n (pc := 15) dX8_meanBent_15 rfl ?_
        refine G_aload_n (pc := 16) dX8_meanBent_16 rfl ?_
        refine G_iload_n (pc := 17) dX8_meanBent_17 rfl ?_
        refine G_callV1 (pc := 18) (md := mdX8_remaining) (av := [_]) dX8_meanBent_18 lkX8_51 mwX8_remaining (c_remaining q i _ hq hM (by omega) (hJ i (by omega))) rfl (by first | rfl | assumption) (by omega) rfl rfl (Nat.le_of_ble_eq_true rfl) (by decide) ⟨Nat.zero_le _, Nat.zero_le _⟩ ?_
        refine G_aload_n (pc := 21) dX8_meanBent_21 rfl ?_
        refine G_getr (pc := 22) dX8_meanBent_22 fiX8_18 (by first | rfl | assumption) (by omega) (by first | rfl | assumption) ?_
        refine G_iload_n (pc := 25) dX8_meanBent_25 rfl ?_
        refine G_callV1 (pc := 26) (md := mdX4_bentOf) (av := [_]) dX8_meanBent_26 lkX8_55 mwX4_bentOf (c_bentOf 3 i (Or.inl rfl) hM hH hB (by omega)) rfl (by first | rfl | assumption) (by omega) rfl rfl (Nat.le_of_ble_eq_true rfl) (by decide) ⟨Nat.zero_le _, Nat.zero_le _⟩ ?_
        have b6 := b5 i (by omega)
        refine G_i2l (pc := 29) dX8_meanBent_29 (Ri.mk (by omega) (by omega)) ?_
        refine G_lmul (pc := 30) dX8_meanBent_30 ?_
        refine G_ladd (pc := 31) dX8_meanBent_31 ?_
        refine G_lstore_n (pc := 32) (lv' := [_, _, _, _, _]) dX8_meanBent_32 (by decide) rfl ?_
        refine G_iinc (pc := 33) (lv' := [_, _, _, _, _]) dX8_meanBent_33 (by decide) rfl rfl ?_
        refine G_goto (pc := 36) (tgt := 4) dX8_meanBent_36 (by decide) ?_
        exact ih (i + 1) _ (by omega) (by rw [hx, sumN, Int.natCast_add, Int.natCast_mul])
  refine G_lconst (pc := 0) dX8_meanBent_0 ?_
  refine G_lstore_n (pc := 1) (lv' := [_, _, _, _, _]) dX8_meanBent_1 (by decide) rfl ?_
  refine G_iconst (pc := 2) dX8_meanBent_2 ?_
  refine G_istore_n (pc := 3) (lv' := [_, _, _, _, _]) dX8_meanBent_3 (by decide) rfl ?_
  exact loop (zS hs) 0 _ (by omega) rfl
