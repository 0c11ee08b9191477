/-! FEELINGS -/
theorem c_gain {E : EV} {M : Nat} {I J : Nat → Nat → Int} {hs : HS} (s a : Nat) (hM : 71 ≤ M) (hH : HI I 3 hs) (hB : HB hs) (h1 : s < zS hs) (h2 : a < zA hs) : FnF E mdX2_gain 3 M Rf [vr E 67, vi (s : Int), vi (a : Int)] I J (some (vi (gn hs s a))) I J := by
  refine FnQ.of (by decide +kernel) (Nat.le_of_ble_eq_true rfl) ?_
  show GM E mdX2_gain 3 M Rf _ I J 0 [some (vr E 67), some (vi (s : Int)), some (vi (a : Int))] []
  refine G_aload_n (pc := 0) dX2_gain_0 rfl ?_
  refine G_getr (pc := 1) dX2_gain_1 fiX2_9 (by first | rfl | assumption) (by omega) (by first | rfl | assumption) ?_
  refine G_iload_n (pc := 4) dX2_gain_4 rfl ?_
  refine G_iload_n (pc := 5) dX2_gain_5 rfl ?_
  refine G_iconst (pc := 6) dX2_gain_6 ?_
  refine G_callV1 (pc := 7) (md := mdX4_doing) (av := [_, _, _]) dX2_gain_7 lkX2_33 mwX4_doing (c_doing 3 s a 0 (Or.inl rfl) hM hH hB h1 h2 (by omega)) rfl (by first | rfl | assumption) (by omega) rfl rfl (Nat.le_of_ble_eq_true rfl) (by decide) ⟨Nat.zero_le _, Nat.zero_le _⟩ ?_
  refine G_aload_n (pc := 10) dX2_gain_10 rfl ?_
  refine G_getr (pc := 11) dX2_gain_11 fiX2_9 (by first | rfl | assumption) (by omega) (by first | rfl | assumption) ?_
  refine G_iload_n (pc := 14) dX2_gain_14 rfl ?_
  refine G_iload_n (pc := 15) dX2_gain_15 rfl ?_
  refine G_iconst (pc := 16) dX2_gain_16 ?_
  refine G_callV1 (pc := 17) (md := mdX4_doing) (av := [_, _, _]) dX2_gain_17 lkX2_33 mwX4_doing (c_doing 3 s a 1 (Or.inl rfl) hM hH hB h1 h2 (by omega)) rfl (by first | rfl | assumption) (by omega) rfl rfl (Nat.le_of_ble_eq_true rfl) (by decide) ⟨Nat.zero_le _, Nat.zero_le _⟩ ?_
  refine G_isub (pc := 20) dX2_gain_20 ?_
  refine G_iret (pc := 21) dX2_gain_21 rfl ?_
  exact ⟨rfl, rfl, rfl⟩
theorem c_added {E : EV} {M : Nat} {I J : Nat → Nat → Int} {hs : HS} (a : Nat) (hM : 71 ≤ M) (hH : HI I 3 hs) (hB : HB hs) (h2 : a < zA hs) : FnF E mdX2_added 4 M Rf [vr E 67, vi (a : Int)] I J (some (vi ((sumZ (fun s => (hs 0 s : Int) * gn hs s a) (zS hs)).tdiv 100))) I J := by
  have bS := hB.1
  have b5 := hB.2.2.2.2.1
  have v8 : I 3 8 = (zS hs : Int) := hH.2.2 8 (by omega) (by omega)
  have bd : ∀ n, n ≤ zS hs → -(n : Int) * 6000 ≤ sumZ (fun s => (hs 0 s : Int) * gn hs s a) n ∧ sumZ (fun s => (hs 0 s : Int) * gn hs s a) n ≤ (n : Int) * 6000 := by
    intro n
    induction n with
    | zero => intro _; simp [sumZ]
    | succ n ih =>
      intro hn
      have h0 := ih (by omega)
      have h5 := (b5 n (by omega)).2.1
      have hg := gn_R hs n a
      have h6 : (hs 0 n : Int) * gn hs n a ≤ 6000 := by
        have := Int.mul_le_mul_of_nonneg_left hg.2 (Int.natCast_nonneg (hs 0 n))
        omega
      have h7 : -6000 ≤ (hs 0 n : Int) * gn hs n a := by
        have := Int.mul_le_mul_of_nonneg_left hg.1 (Int.natCast_nonneg (hs 0 n))
        omega
      rw [sumZ]
      omega
  refine FnQ.of (by decide +kernel) (Nat.le_of_ble_eq_true rfl) ?_
  show GM E mdX2_added 4 M Rf _ I J 0 [some (vr E 67), some (vi (a : Int)), none, none] []
  have loop : ∀ (m i : Nat) (x : Int), i + m = zS hs → x = sumZ (fun s => (hs 0 s : Int) * gn hs s a) i → GM E mdX2_added 4 M Rf (QF (some (vi ((sumZ (fun s => (hs 0 s : Int) * gn hs s a) (zS hs)).tdiv 100))) I J) I J 4 [some (vr E 67), some (vi (a : Int)), some (vi x), some (vi (i : Int))] [] := by
    intro m
    induction m with
    | zero =>
      intro i x hi hx
      have hi : i = zS hs := by omega
      subst hi
      have hb := bd _ (Nat.le_refl _)
      refine G_iload_n (pc := 4) dX2_added_4 rfl ?_
      refine G_aload_n (pc := 5) dX2_added_5 rfl ?_
      refine G_getr (pc := 6) dX2_added_6 fiX2_9 (by first | rfl | assumption) (by omega) (by first | rfl | assumption) ?_
      refine G_geti (pc := 9) dX2_added_9 fiX2_19 (by first | rfl | assumption) (by omega) ?_
      refine G_icmp_ge (pc := 12) (tgt := 39) dX2_added_12 (Ri.mk (by omega) (by omega)) (Ri.mk (by omega) (by omega)) (by decide) (fun h_12 => ?_) (fun h_12 => ?_)
      · refine G_iload_n (pc := 39) dX2_added_39 rfl ?_
        refine G_bipush (pc := 40) dX2_added_40 (by decide) ?_
        refine G_idiv (pc := 42) dX2_added_42 (Ri.mk (by omega) (by omega)) (Ri.mk (by omega) (by omega)) (by omega) ?_
        refine G_iret (pc := 43) dX2_added_43 rfl ?_
        exact ⟨by rw [hx], rfl, rfl⟩
      · exact absurd h_12 (by omega)
    | succ m ih =>
      intro i x hi hx
      refine G_iload_n (pc := 4) dX2_added_4 rfl ?_
      refine G_aload_n (pc := 5) dX2_added_5 rfl ?_
      refine G_getr (pc := 6) dX2_added_6 fiX2_9 (by first | rfl | assumption) (by omega) (by first | rfl | assumption) ?_
      refine G_geti (pc := 9) dX2_added_9 fiX2_19 (by first | rfl | assumption) (by omega) ?_
      refine G_icmp_ge (pc := 12) (tgt := 39) dX2_added_12 (Ri.mk (by omega) (by omega)) (Ri.mk (by omega) (by omega)) (by decide) (fun h_12 => ?_) (fun h_12 => ?_)
      · exact absurd h_12 (by omega)
      · refine G_iload_n (pc := 15) dX2_added_15 rfl ?_
        refine G_aload_n (pc := 16) dX2_added_16 rfl ?_
        refine G_getr (pc := 17) dX2_added_17 fiX2_9 (by first | rfl | assumption) (by omega) (by first | rfl | assumption) ?_
        refine G_iload_n (pc := 20) dX2_added_20 rfl ?_
        refine G_callV1 (pc := 21) (md := mdX4_size) (av := [_]) dX2_added_21 lkX2_25 mwX4_size (c_size 3 i (Or.inl rfl) hM hH hB (by omega)) rfl (by first | rfl | assumption) (by omega) rfl rfl (Nat.le_of_ble_eq_true rfl) (by decide) ⟨Nat.zero_le _, Nat.zero_le _⟩ ?_
        refine G_aload_n (pc := 24) dX2_added_24 rfl ?_
        refine G_iload_n (pc := 25) dX2_added_25 rfl ?_
        refine G_iload_n (pc := 26) dX2_added_26 rfl ?_
        refine G_callV1 (pc := 27) (md := mdX2_gain) (av := [_, _]) dX2_added_27 lkX2_42 mwX2_gain (c_gain i a hM hH hB (by omega) h2) rfl (by first | rfl | assumption) (by omega) rfl rfl (Nat.le_of_ble_eq_true rfl) (by decide) ⟨Nat.zero_le _, Nat.zero_le _⟩ ?_
        refine G_imul (pc := 30) dX2_added_30 ?_
        refine G_iadd (pc := 31) dX2_added_31 ?_
        refine G_istore_n (pc := 32) (lv' := [_, _, _, _]) dX2_added_32 (by decide) rfl ?_
        refine G_iinc (pc := 33) (lv' := [_, _, _, _]) dX2_added_33 (by decide) rfl rfl ?_
        refine G_goto (pc := 36) (tgt := 4) dX2_added_36 (by decide) ?_
        exact ih (i + 1) _ (by omega) (by rw [hx, sumZ])
  refine G_iconst (pc := 0) dX2_added_0 ?_
  refine G_istore_n (pc := 1) (lv' := [_, _, _, _]) dX2_added_1 (by decide) rfl ?_
  refine G_iconst (pc := 2) dX2_added_2 ?_
  refine G_istore_n (pc := 3) (lv' := [_, _, _, _]) dX2_added_3 (by decide) rfl ?_
  exact loop (zS hs) 0 _ (by omega) rfl
theorem c_mostHarmed {E : EV} {M : Nat} {I J : Nat → Nat → Int} {hs : HS} (a : Nat) (hM : 71 ≤ M) (hH : HI I 3 hs) (hB : HB hs) (h0 : 0 < zS hs) (h2 : a < zA hs) : FnF E mdX2_mostHarmed 4 M Rf [vr E 67, vi (a : Int)] I J (some (vi (am (fun s => gn hs s a) (zS hs) : Int))) I J := by
  have bS := hB.1
  have v8 : I 3 8 = (zS hs : Int) := hH.2.2 8 (by omega) (by omega)
  refine FnQ.of (by decide +kernel) (Nat.le_of_ble_eq_true rfl) ?_
  show GM E mdX2_mostHarmed 4 M Rf _ I J 0 [some (vr E 67), some (vi (a : Int)), none, none] []
  have loop : ∀ (m i : Nat), i + m = zS hs → 0 < i → GM E mdX2_mostHarmed 4 M Rf (QF (some (vi (am (fun s => gn hs s a) (zS hs) : Int))) I J) I J 4 [some (vr E 67), some (vi (a : Int)), some (vi (am (fun s => gn hs s a) i : Int)), some (vi (i : Int))] [] := by
    intro m
    induction m with
    | zero =>
      intro i hi h0i
      have hi : i = zS hs := by omega
      subst hi
      refine G_iload_n (pc := 4) dX2_mostHarmed_4 rfl ?_
      refine G_aload_n (pc := 5) dX2_mostHarmed_5 rfl ?_
      refine G_getr (pc := 6) dX2_mostHarmed_6 fiX2_9 (by first | rfl | assumption) (by omega) (by first | rfl | assumption) ?_
      refine G_geti (pc := 9) dX2_mostHarmed_9 fiX2_19 (by first | rfl | assumption) (by omega) ?_
      refine G_icmp_ge (pc := 12) (tgt := 38) dX2_mostHarmed_12 (Ri.mk (by omega) (by omega)) (Ri.mk (by omega) (by omega)) (by decide) (fun h_12 => ?_) (fun h_12 => ?_)
      · refine G_iload_n (pc := 38) dX2_mostHarmed_38 rfl ?_
        refine G_iret (pc := 39) dX2_mostHarmed_39 rfl ?_
        exact ⟨rfl, rfl, rfl⟩
      · exact absurd h_12 (by omega)
    | succ m ih =>
      intro i hi h0i
      have hal := am_lt (fun s => gn hs s a) i h0i
      have hg1 := gn_R hs i a
      have hg2 := gn_R hs (am (fun s => gn hs s a) i) a
      refine G_iload_n (pc := 4) dX2_mostHarmed_4 rfl ?_
      refine G_aload_n (pc := 5) dX2_mostHarmed_5 rfl ?_
      refine G_getr (pc := 6) dX2_mostHarmed_6 fiX2_9 (by first | rfl | assumption) (by omega) (by first | rfl | assumption) ?_
      refine G_geti (pc := 9) dX2_mostHarmed_9 fiX2_19 (by first | rfl | assumption) (by omega) ?_
      refine G_icmp_ge (pc := 12) (tgt := 38) dX2_mostHarmed_12 (Ri.mk (by omega) (by omega)) (Ri.mk (by omega) (by omega)) (by decide) (fun h_12 => ?_) (fun h_12 => ?_)
      · exact absurd h_12 (by omega)
      · refine G_aload_n (pc := 15) dX2_mostHarmed_15 rfl ?_
        refine G_iload_n (pc := 16) dX2_mostHarmed_16 rfl ?_
        refine G_iload_n (pc := 17) dX2_mostHarmed_17 rfl ?_
        refine G_callV1 (pc := 18) (md := mdX2_gain) (av := [_, _]) dX2_mostHarmed_18 lkX2_42 mwX2_gain (c_gain i a hM hH hB (by omega) h2) rfl (by first | rfl | assumption) (by omega) rfl rfl (Nat.le_of_ble_eq_true rfl) (by decide) ⟨Nat.zero_le _, Nat.zero_le _⟩ ?_
        refine G_aload_n (pc := 21) dX2_mostHarmed_21 rfl ?_
        refine G_iload_n (pc := 22) dX2_mostHarmed_22 rfl ?_
        refine G_iload_n (pc := 23) dX2_mostHarmed_23 rfl ?_
        refine G_callV1 (pc := 24) (md := mdX2_gain) (av := [_, _]) dX2_mostHarmed_24 lkX2_42 mwX2_gain (c_gain (am (fun s => gn hs s a) i) a hM hH hB (by omega) h2) rfl (by first | rfl | assumption) (by omega) rfl rfl (Nat.le_of_ble_eq_true rfl) (by decide) ⟨Nat.zero_le _, Nat.zero_le _⟩ ?_
        refine G_icmp_le (pc := 27) (tgt := 32) dX2_mostHarmed_27 (Ri.mk (by omega) (by omega)) (Ri.mk (by omega) (by omega)) (by decide) (fun h_27 => ?_) (fun h_27 => ?_)
        · refine G_iinc (pc := 32) (lv' := [_, _, _, _]) dX2_mostHarmed_32 (by decide) rfl rfl ?_
          refine G_goto (pc := 35) (tgt := 4) dX2_mostHarmed_35 (by decide) ?_
          refine G_eq rfl rfl ?_ rfl (ih (i + 1) (by omega) (by omega))
          rw [am]; first | rw [if_pos (by assumption)]; rfl | rw [if_neg (by omega)]; rfl
        · refine G_iload_n (pc := 30) dX2_mostHarmed_30 rfl ?_
          refine G_istore_n (pc := 31) (lv' := [_, _, _, _]) dX2_mostHarmed_31 (by decide) rfl ?_
          refine G_iinc (pc := 32) (lv' := [_, _, _, _]) dX2_mostHarmed_32 (by decide) rfl rfl ?_
          refine G_goto (pc := 35) (tgt := 4) dX2_mostHarmed_35 (by decide) ?_
          refine G_eq rfl rfl ?_ rfl (ih (i + 1) (by omega) (by omega))
          rw [am]; first | rw [if_pos (by assumption)]; rfl | rw [if_neg (by omega)]; rfl
  refine G_iconst (pc := 0) dX2_mostHarmed_0 ?_
  refine G_istore_n (pc := 1) (lv' := [_, _, _, _]) dX2_mostHarmed_1 (by decide) rfl ?_
  refine G_iconst (pc := 2) dX2_mostHarmed_2 ?_
  refine G_istore_n (pc := 3) (lv' := [_, _, _, _]) dX2_mostHarmed_3 (by decide) rfl ?_
  refine G_eq rfl rfl ?_ rfl (loop (zS hs - 1) 1 (by omega) (by omega))
  rw [show am (fun s => gn hs s a) 1 = 0 by simp [am]]; rfl
theorem c_eased {E : EV} {M : Nat} {I J : Nat → Nat → Int} {hs : HS} (s a : Nat) (hM : 71 ≤ M) (hH : HI I 3 hs) (hB : HB hs) (h1 : s < zS hs) (h2 : a < zA hs) : FnF E mdX2_eased 2 M Rf [vr E 67, vi (s : Int), vi (a : Int)] I J (some (vi ((hs 12 0 * fe hs s a 0 / 20 : Nat) : Int))) I J := by
  have v12 : I 3 12 = (hs 12 0 : Int) := hH.2.2 12 (by omega) (by omega)
  have hb := Nat.mul_le_mul hB.2.2.2.2.2.2.2.1 (fe_le hs s a 0)
  refine FnQ.of (by decide +kernel) (Nat.le_of_ble_eq_true rfl) ?_
  show GM E mdX2_eased 2 M Rf _ I J 0 [some (vr E 67), some (vi (s : Int)), some (vi (a : Int))] []
  refine G_aload_n (pc := 0) dX2_eased_0 rfl ?_
  refine G_getr (pc := 1) dX2_eased_1 fiX2_9 (by first | rfl | assumption) (by omega) (by first | rfl | assumption) ?_
  refine G_geti (pc := 4) dX2_eased_4 fiX2_46 (by first | rfl | assumption) (by omega) ?_
  refine G_aload_n (pc := 7) dX2_eased_7 rfl ?_
  refine G_getr (pc := 8) dX2_eased_8 fiX2_9 (by first | rfl | assumption) (by omega) (by first | rfl | assumption) ?_
  refine G_iload_n (pc := 11) dX2_eased_11 rfl ?_
  refine G_iload_n (pc := 12) dX2_eased_12 rfl ?_
  refine G_iconst (pc := 13) dX2_eased_13 ?_
  refine G_callV1 (pc := 14) (md := mdX4_feeling) (av := [_, _, _]) dX2_eased_14 lkX2_29 mwX4_feeling (c_feeling 3 s a 0 (Or.inl rfl) hM hH hB h1 h2 (by omega)) rfl (by first | rfl | assumption) (by omega) rfl rfl (Nat.le_of_ble_eq_true rfl) (by decide) ⟨Nat.zero_le _, Nat.zero_le _⟩ ?_
  refine G_imul (pc := 17) dX2_eased_17 ?_
  refine G_bipush (pc := 18) dX2_eased_18 (by decide) ?_
  rw [v12, ← Int.natCast_mul]
  refine G_idiv (pc := 20) dX2_eased_20 (Ri.mk (by omega) (by omega)) (Ri.mk (by omega) (by omega)) (by omega) ?_
  refine G_iret (pc := 21) dX2_eased_21 rfl ?_
  exact ⟨by rw [Int.ofNat_tdiv]; rfl, rfl, rfl⟩
theorem c_weighPeople {E : EV} {M : Nat} {I J : Nat → Nat → Int} {hs : HS} (wo : Int) (hM : 71 ≤ M) (hH : HI I 3 hs) (hB : HB hs) (hwo : Ri wo) : FnF E mdX2_weighPeople 3 M Rf [vr E 67, vi wo] I J none I (wr (wr J 66 0 ((btw hs wo / Nat.gcd (btw hs wo) (blw hs wo) : Nat) : Int)) 66 1 ((blw hs wo / Nat.gcd (btw hs wo) (blw hs wo) : Nat) : Int)) := by
  have bS := hB.1
  have bA := hB.2.1
  have b5 := hB.2.2.2.2.1
  have bN := hB.2.2.1
  have v8 : I 3 8 = (zS hs : Int) := hH.2.2 8 (by omega) (by omega)
  have v9 : I 3 9 = (zA hs : Int) := hH.2.2 9 (by omega) (by omega)
  have v10 : I 3 10 = (zN hs : Int) := hH.2.2 10 (by omega) (by omega)
  obtain ⟨q1, q2⟩ := btw_ok hB wo
  have q3 := blw_le hB wo
  refine FnQ.of (by decide +kernel) (Nat.le_of_ble_eq_true rfl) ?_
  show GM E mdX2_weighPeople 3 M Rf _ I J 0 [some (vr E 67), some (vi wo), none, none, none, none, none, none, none, none, none, none, none, none, none, none] []
  generalize hQ : QF none I (wr (wr J 66 0 ((btw hs wo / Nat.gcd (btw hs wo) (blw hs wo) : Nat) : Int)) 66 1 ((blw hs wo / Nat.gcd (btw hs wo) (blw hs wo) : Nat) : Int)) = Q
  have loop : ∀ (m i : Nat) (x y z : Int) (e1 e2 e3 e4 e5 e6 e7 : Option Value), i + m = zS hs → x = (pB hs wo i : Nat) → y = (pC hs wo i : Nat) → z = (pV hs wo i : Nat) → GM E mdX2_weighPeople 3 M Rf Q I J 11 [some (vr E 67), some (vi wo), some (vl x), none, some (vl y), none, some (vl z), none, some (vi (i : Int)), e1, e2, e3, e4, e5, e6, e7] [] := by
    intro m
    induction m with
    | zero =>
      intro i x y z e1 e2 e3 e4 e5 e6 e7 hi hx hy hz
      have hi : i = zS hs := by omega
      subst hi
      have e10 : (zN hs : Int) * y - x * x = (btw hs wo : Nat) := by rw [hx, hy, btw, Int.ofNat_sub q1, Int.natCast_mul, Int.natCast_mul]
      have e11 : (btw hs wo : Int) + (zN hs : Int) * z = (blw hs wo : Nat) := by rw [hz, blw, Int.natCast_add, Int.natCast_mul]
      refine G_iload (pc := 11) dX2_weighPeople_11 rfl ?_
      refine G_aload_n (pc := 13) dX2_weighPeople_13 rfl ?_
      refine G_getr (pc := 14) dX2_weighPeople_14 fiX2_9 (by first | rfl | assumption) (by omega) (by first | rfl | assumption) ?_
      refine G_geti (pc := 17) dX2_weighPeople_17 fiX2_19 (by first | rfl | assumption) (by omega) ?_
      refine G_icmp_ge (pc := 20) (tgt := 135) dX2_weighPeople_20 (Ri.mk (by omega) (by omega)) (Ri.mk (by omega) (by omega)) (by decide) (fun h_20 => ?_) (fun h_20 => ?_)
      · refine G_aload_n (pc := 135) dX2_weighPeople_135 rfl ?_
        refine G_getr (pc := 136) dX2_weighPeople_136 fiX2_9 (by first | rfl | assumption) (by omega) (by first | rfl | assumption) ?_
        refine G_geti (pc := 139) dX2_weighPeople_139 fiX2_54 (by first | rfl | assumption) (by omega) ?_
        refine G_i2l (pc := 142) dX2_weighPeople_142 (Ri.mk (by omega) (by omega)) ?_
        refine G_lload (pc := 143) dX2_weighPeople_143 rfl ?_
        refine G_lmul (pc := 145) dX2_weighPeople_145 ?_
        refine G_lload_n (pc := 146) dX2_weighPeople_146 rfl ?_
        refine G_lload_n (pc := 147) dX2_weighPeople_147 rfl ?_
        refine G_lmul (pc := 148) dX2_weighPeople_148 ?_
        refine G_lsub (pc := 149) dX2_weighPeople_149 ?_
        rw [v10, e10]
        refine G_lstore (pc := 150) (lv' := [_, _, _, _, _, _, _, _, _, _, _, _, _, _, _, _]) dX2_weighPeople_150 (by decide) rfl ?_
        refine G_aload_n (pc := 152) dX2_weighPeople_152 rfl ?_
        refine G_getr (pc := 153) dX2_weighPeople_153 fiX2_15 (by first | rfl | assumption) (by omega) (by first | rfl | assumption) ?_
        refine G_lload (pc := 156) dX2_weighPeople_156 rfl ?_
        refine G_lload (pc := 158) dX2_weighPeople_158 rfl ?_
        refine G_aload_n (pc := 160) dX2_weighPeople_160 rfl ?_
        refine G_getr (pc := 161) dX2_weighPeople_161 fiX2_9 (by first | rfl | assumption) (by omega) (by first | rfl | assumption) ?_
        refine G_geti (pc := 164) dX2_weighPeople_164 fiX2_54 (by first | rfl | assumption) (by omega) ?_
        refine G_i2l (pc := 167) dX2_weighPeople_167 (Ri.mk (by omega) (by omega)) ?_
        refine G_lload (pc := 168) dX2_weighPeople_168 rfl ?_
        refine G_lmul (pc := 170) dX2_weighPeople_170 ?_
        refine G_ladd (pc := 171) dX2_weighPeople_171 ?_
        rw [v10, e11]
        refine G_callV0 (pc := 172) (md := mdX3_set) (av := [_, _]) dX2_weighPeople_172 lkX2_36 mwX3_set (c_Fset _ _ hM (by omega) (by omega)) rfl (by first | rfl | assumption) (by omega) rfl rfl (Nat.le_of_ble_eq_true rfl) (by decide) ⟨Nat.zero_le _, Nat.zero_le _⟩ ?_
        refine G_vret (pc := 175) dX2_weighPeople_175 rfl ?_
        rw [← hQ]; exact ⟨rfl, rfl, rfl⟩
      · exact absurd h_20 (by omega)
    | succ m ih =>
      intro i x y z e1 e2 e3 e4 e5 e6 e7 hi hx hy hz
      have h5 := b5 i (by omega)
      have inner : ∀ (k j : Nat) (u v : Int) (e6 e7 : Option Value), j + k = zA hs → u = (sumN (dW hs wo i) j : Nat) → v = ((pV hs wo i + hs 0 i * sumN (fun a => dW hs wo i a * (100 - dW hs wo i a)) j : Nat) : Int) → GM E mdX2_weighPeople 3 M Rf Q I J 41 [some (vr E 67), some (vi wo), some (vl x), none, some (vl y), none, some (vl v), none, some (vi (i : Int)), some (vl u), none, some (vl (hs 0 i : Int)), none, some (vi (j : Int)), e6, e7] [] := by
        intro k
        induction k with
        | zero =>
          intro j u v e6 e7 hj hu hv
          have hj : j = zA hs := by omega
          subst hj
          refine G_iload (pc := 41) dX2_weighPeople_41 rfl ?_
          refine G_aload_n (pc := 43) dX2_weighPeople_43 rfl ?_
          refine G_getr (pc := 44) dX2_weighPeople_44 fiX2_9 (by first | rfl | assumption) (by omega) (by first | rfl | assumption) ?_
          refine G_geti (pc := 47) dX2_weighPeople_47 fiX2_49 (by first | rfl | assumption) (by omega) ?_
          refine G_icmp_ge (pc := 50) (tgt := 108) dX2_weighPeople_50 (Ri.mk (by omega) (by omega)) (Ri.mk (by omega) (by omega)) (by decide) (fun h_50 => ?_) (fun h_50 => ?_)
          · refine G_lload_n (pc := 108) dX2_weighPeople_108 rfl ?_
            refine G_lload (pc := 109) dX2_weighPeople_109 rfl ?_
            refine G_lload (pc := 111) dX2_weighPeople_111 rfl ?_
            refine G_lmul (pc := 113) dX2_weighPeople_113 ?_
            refine G_ladd (pc := 114) dX2_weighPeople_114 ?_
            refine G_lstore_n (pc := 115) (lv' := [_, _, _, _, _, _, _, _, _, _, _, _, _, _, _, _]) dX2_weighPeople_115 (by decide) rfl ?_
            refine G_lload (pc := 116) dX2_weighPeople_116 rfl ?_
            refine G_lload (pc := 118) dX2_weighPeople_118 rfl ?_
            refine G_lload (pc := 120) dX2_weighPeople_120 rfl ?_
            refine G_lmul (pc := 122) dX2_weighPeople_122 ?_
            refine G_lload (pc := 123) dX2_weighPeople_123 rfl ?_
            refine G_lmul (pc := 125) dX2_weighPeople_125 ?_
            refine G_ladd (pc := 126) dX2_weighPeople_126 ?_
            refine G_lstore (pc := 127) (lv' := [_, _, _, _, _, _, _, _, _, _, _, _, _, _, _, _]) dX2_weighPeople_127 (by decide) rfl ?_
            refine G_iinc (pc := 129) (lv' := [_, _, _, _, _, _, _, _, _, _, _, _, _, _, _, _]) dX2_weighPeople_129 (by decide) rfl rfl ?_
            refine G_goto (pc := 132) (tgt := 11) dX2_weighPeople_132 (by decide) ?_
            exact ih (i + 1) _ _ _ _ _ _ _ _ _ _ (by omega) (by rw [hu, hx, pB, sumN, Int.natCast_add, Int.natCast_mul]; rfl) (by rw [hu, hy, pC, sumN, Int.natCast_add, Int.natCast_mul, Int.natCast_mul]; rfl) (by rw [hv]; rfl)
          · exact absurd h_50 (by omega)
        | succ k ihk =>
          intro j u v e6 e7 hj hu hv
          have hd := dO_le hs i j 0
          refine G_iload (pc := 41) dX2_weighPeople_41 rfl ?_
          refine G_aload_n (pc := 43) dX2_weighPeople_43 rfl ?_
          refine G_getr (pc := 44) dX2_weighPeople_44 fiX2_9 (by first | rfl | assumption) (by omega) (by first | rfl | assumption) ?_
          refine G_geti (pc := 47) dX2_weighPeople_47 fiX2_49 (by first | rfl | assumption) (by omega) ?_
          refine G_icmp_ge (pc := 50) (tgt := 108) dX2_weighPeople_50 (Ri.mk (by omega) (by omega)) (Ri.mk (by omega) (by omega)) (by decide) (fun h_50 => ?_) (fun h_50 => ?_)
          · exact absurd h_50 (by omega)
          · refine G_iload (pc := 53) dX2_weighPeople_53 rfl ?_
            refine G_iload_n (pc := 55) dX2_weighPeople_55 rfl ?_
            refine G_icmp_ne (pc := 56) (tgt := 63) dX2_weighPeople_56 (Ri.mk (by omega) (by omega)) hwo (by decide) (fun h_56 => ?_) (fun h_56 => ?_)
            · refine G_aload_n (pc := 63) dX2_weighPeople_63 rfl ?_
              refine G_getr (pc := 64) dX2_weighPeople_64 fiX2_9 (by first | rfl | assumption) (by omega) (by first | rfl | assumption) ?_
              refine G_iload (pc := 67) dX2_weighPeople_67 rfl ?_
              refine G_iload (pc := 69) dX2_weighPeople_69 rfl ?_
              refine G_iconst (pc := 71) dX2_weighPeople_71 ?_
              refine G_callV1 (pc := 72) (md := mdX4_doing) (av := [_, _, _]) dX2_weighPeople_72 lkX2_33 mwX4_doing (c_doing 3 i j 0 (Or.inl rfl) hM hH hB (by omega) (by omega) (by omega)) rfl (by first | rfl | assumption) (by omega) rfl rfl (Nat.le_of_ble_eq_true rfl) (by decide) ⟨Nat.zero_le _, Nat.zero_le _⟩ ?_
              refine G_i2l (pc := 75) dX2_weighPeople_75 (Ri.mk (by omega) (by omega)) ?_
              refine G_lstore (pc := 76) (lv' := [_, _, _, _, _, _, _, _, _, _, _, _, _, _, _, _]) dX2_weighPeople_76 (by decide) rfl ?_
              refine G_lload (pc := 78) dX2_weighPeople_78 rfl ?_
              refine G_lload (pc := 80) dX2_weighPeople_80 rfl ?_
              refine G_ladd (pc := 82) dX2_weighPeople_82 ?_
              refine G_lstore (pc := 83) (lv' := [_, _, _, _, _, _, _, _, _, _, _, _, _, _, _, _]) dX2_weighPeople_83 (by decide) rfl ?_
              refine G_lload (pc := 85) dX2_weighPeople_85 rfl ?_
              refine G_lload (pc := 87) dX2_weighPeople_87 rfl ?_
              refine G_lload (pc := 89) dX2_weighPeople_89 rfl ?_
              refine G_lmul (pc := 91) dX2_weighPeople_91 ?_
              refine G_ldc2 (pc := 92) dX2_weighPeople_92 klX2_52 ?_
              refine G_lload (pc := 95) dX2_weighPeople_95 rfl ?_
              refine G_lsub (pc := 97) dX2_weighPeople_97 ?_
              refine G_lmul (pc := 98) dX2_weighPeople_98 ?_
              refine G_ladd (pc := 99) dX2_weighPeople_99 ?_
              refine G_lstore (pc := 100) (lv' := [_, _, _, _, _, _, _, _, _, _, _, _, _, _, _, _]) dX2_weighPeople_100 (by decide) rfl ?_
              refine G_iinc (pc := 102) (lv' := [_, _, _, _, _, _, _, _, _, _, _, _, _, _, _, _]) dX2_weighPeople_102 (by decide) rfl rfl ?_
              refine G_goto (pc := 105) (tgt := 41) dX2_weighPeople_105 (by decide) ?_
              refine ihk (j + 1) _ _ _ _ (by omega) ?_ ?_
              · rw [sumN, Int.natCast_add, hu]; congr 1; first | (rw [dW, if_pos (by omega)]; rfl) | (rw [dW, if_neg (by omega)])
              · rw [sumN, Nat.mul_add, ← Nat.add_assoc, Int.natCast_add, hv]; congr 1; first | (rw [dW, if_pos (by omega)]; simp) | (rw [dW, if_neg (by omega), Int.natCast_mul, Int.natCast_mul, Int.ofNat_sub hd, Int.mul_assoc]; rfl)
            · refine G_lconst (pc := 59) dX2_weighPeople_59 ?_
              refine G_goto (pc := 60) (tgt := 76) dX2_weighPeople_60 (by decide) ?_
              refine G_lstore (pc := 76) (lv' := [_, _, _, _, _, _, _, _, _, _, _, _, _, _, _, _]) dX2_weighPeople_76 (by decide) rfl ?_
              refine G_lload (pc := 78) dX2_weighPeople_78 rfl ?_
              refine G_lload (pc := 80) dX2_weighPeople_80 rfl ?_
              refine G_ladd (pc := 82) dX2_weighPeople_82 ?_
              refine G_lstore (pc := 83) (lv' := [_, _, _, _, _, _, _, _, _, _, _, _, _, _, _, _]) dX2_weighPeople_83 (by decide) rfl ?_
              refine G_lload (pc := 85) dX2_weighPeople_85 rfl ?_
              refine G_lload (pc := 87) dX2_weighPeople_87 rfl ?_
              refine G_lload (pc := 89) dX2_weighPeople_89 rfl ?_
              refine G_lmul (pc := 91) dX2_weighPeople_91 ?_
              refine G_ldc2 (pc := 92) dX2_weighPeople_92 klX2_52 ?_
              refine G_lload (pc := 95) dX2_weighPeople_95 rfl ?_
              refine G_lsub (pc := 97) dX2_weighPeople_97 ?_
              refine G_lmul (pc := 98) dX2_weighPeople_98 ?_
              refine G_ladd (pc := 99) dX2_weighPeople_99 ?_
              refine G_lstore (pc := 100) (lv' := [_, _, _, _, _, _, _, _, _, _, _, _, _, _, _, _]) dX2_weighPeople_100 (by decide) rfl ?_
              refine G_iinc (pc := 102) (lv' := [_, _, _, _, _, _, _, _, _, _, _, _, _, _, _, _]) dX2_weighPeople_102 (by decide) rfl rfl ?_
              refine G_goto (pc := 105) (tgt := 41) dX2_weighPeople_105 (by decide) ?_
              refine ihk (j + 1) _ _ _ _ (by omega) ?_ ?_
              · rw [sumN, Int.natCast_add, hu]; congr 1; first | (rw [dW, if_pos (by omega)]; rfl) | (rw [dW, if_neg (by omega)])
              · rw [sumN, Nat.mul_add, ← Nat.add_assoc, Int.natCast_add, hv]; congr 1; first | (rw [dW, if_pos (by omega)]; simp) | (rw [dW, if_neg (by omega), Int.natCast_mul, Int.natCast_mul, Int.ofNat_sub hd, Int.mul_assoc]; rfl)
      refine G_iload (pc := 11) dX2_weighPeople_11 rfl ?_
      refine G_aload_n (pc := 13) dX2_weighPeople_13 rfl ?_
      refine G_getr (pc := 14) dX2_weighPeople_14 fiX2_9 (by first | rfl | assumption) (by omega) (by first | rfl | assumption) ?_
      refine G_geti (pc := 17) dX2_weighPeople_17 fiX2_19 (by first | rfl | assumption) (by omega) ?_
      refine G_icmp_ge (pc := 20) (tgt := 135) dX2_weighPeople_20 (Ri.mk (by omega) (by omega)) (Ri.mk (by omega) (by omega)) (by decide) (fun h_20 => ?_) (fun h_20 => ?_)
      · exact absurd h_20 (by omega)
      · refine G_lconst (pc := 23) dX2_weighPeople_23 ?_
        refine G_lstore (pc := 24) (lv' := [_, _, _, _, _, _, _, _, _, _, _, _, _, _, _, _]) dX2_weighPeople_24 (by decide) rfl ?_
        refine G_aload_n (pc := 26) dX2_weighPeople_26 rfl ?_
        refine G_getr (pc := 27) dX2_weighPeople_27 fiX2_9 (by first | rfl | assumption) (by omega) (by first | rfl | assumption) ?_
        refine G_iload (pc := 30) dX2_weighPeople_30 rfl ?_
        refine G_callV1 (pc := 32) (md := mdX4_size) (av := [_]) dX2_weighPeople_32 lkX2_25 mwX4_size (c_size 3 i (Or.inl rfl) hM hH hB (by omega)) rfl (by first | rfl | assumption) (by omega) rfl rfl (Nat.le_of_ble_eq_true rfl) (by decide) ⟨Nat.zero_le _, Nat.zero_le _⟩ ?_
        refine G_i2l (pc := 35) dX2_weighPeople_35 (Ri.mk (by omega) (by omega)) ?_
        refine G_lstore (pc := 36) (lv' := [_, _, _, _, _, _, _, _, _, _, _, _, _, _, _, _]) dX2_weighPeople_36 (by decide) rfl ?_
        refine G_iconst (pc := 38) dX2_weighPeople_38 ?_
        refine G_istore (pc := 39) (lv' := [_, _, _, _, _, _, _, _, _, _, _, _, _, _, _, _]) dX2_weighPeople_39 (by decide) rfl ?_
        exact inner (zA hs) 0 _ _ _ _ (by omega) rfl (by rw [hz]; simp [sumN])
  refine G_lconst (pc := 0) dX2_weighPeople_0 ?_
  refine G_lstore_n (pc := 1) (lv' := [_, _, _, _, _, _, _, _, _, _, _, _, _, _, _, _]) dX2_weighPeople_1 (by decide) rfl ?_
  refine G_lconst (pc := 2) dX2_weighPeople_2 ?_
  refine G_lstore (pc := 3) (lv' := [_, _, _, _, _, _, _, _, _, _, _, _, _, _, _, _]) dX2_weighPeople_3 (by decide) rfl ?_
  refine G_lconst (pc := 5) dX2_weighPeople_5 ?_
  refine G_lstore (pc := 6) (lv' := [_, _, _, _, _, _, _, _, _, _, _, _, _, _, _, _]) dX2_weighPeople_6 (by decide) rfl ?_
  refine G_iconst (pc := 8) dX2_weighPeople_8 ?_
  refine G_istore (pc := 9) (lv' := [_, _, _, _, _, _, _, _, _, _, _, _, _, _, _, _]) dX2_weighPeople_9 (by decide) rfl ?_
  exact loop (zS hs) 0 _ _ _ _ _ _ _ _ _ _ (by omega) rfl rfl rfl
theorem te_core {hs : HS} (hB : HB hs) (n f : Nat) {a b c d : Nat} (h1 : a = btw hs n / Nat.gcd (btw hs n) (blw hs n)) (h2 : b = max 1 (blw hs n / Nat.gcd (btw hs n) (blw hs n))) (h3 : c = btw hs f / Nat.gcd (btw hs f) (blw hs f)) (h4 : d = max 1 (blw hs f / Nat.gcd (btw hs f) (blw hs f))) : a * d < c * b ↔ btw hs n * max 1 (blw hs f) < btw hs f * max 1 (blw hs n) := by
  have key : ∀ k : Nat, ∃ g, 0 < g ∧ btw hs k = g * (btw hs k / Nat.gcd (btw hs k) (blw hs k)) ∧ max 1 (blw hs k) = g * max 1 (blw hs k / Nat.gcd (btw hs k) (blw hs k)) := by
    intro k
    have hle : btw hs k ≤ blw hs k := by unfold blw; omega
    rcases Nat.eq_zero_or_pos (blw hs k) with h | h
    · have hb0 : btw hs k = 0 := by omega
      refine ⟨1, Nat.one_pos, ?_, ?_⟩
      · rw [hb0]; simp
      · rw [h]; simp
    · have hg : 0 < Nat.gcd (btw hs k) (blw hs k) := Nat.gcd_pos_of_pos_right _ h
      have hd : 0 < blw hs k / Nat.gcd (btw hs k) (blw hs k) := Nat.div_pos (Nat.gcd_le_right _ h) hg
      refine ⟨_, hg, (Nat.mul_div_cancel' (Nat.gcd_dvd_left _ _)).symm, ?_⟩
      rw [Nat.max_eq_right h, Nat.max_eq_right hd]
      exact (Nat.mul_div_cancel' (Nat.gcd_dvd_right _ _)).symm
  obtain ⟨g, g0, g1, g2⟩ := key n
  obtain ⟨h, h0, k1, k2⟩ := key f
  rw [← h1] at g1
  rw [← h2] at g2
  rw [← h3] at k1
  rw [← h4] at k2
  rw [g1, g2, k1, k2]
  exact lt_scale g0 h0
def TeI (hs : HS) (i : Nat) (x : Int) (y z : Nat) : Prop := (i = 0 ∧ x = -4 ∧ y = 0 ∧ z = 1) ∨ (0 < i ∧ x = (teF hs i : Int) ∧ y = btw hs (teF hs i) / Nat.gcd (btw hs (teF hs i)) (blw hs (teF hs i)) ∧ z = max 1 (blw hs (teF hs i) / Nat.gcd (btw hs (teF hs i)) (blw hs (teF hs i))))
theorem te_up {hs : HS} (hB : HB hs) {i : Nat} {x : Int} {y z a b : Nat} (h : TeI hs i x y z) (ha : a = btw hs i / Nat.gcd (btw hs i) (blw hs i)) (hb : b = max 1 (blw hs i / Nat.gcd (btw hs i) (blw hs i))) (hc : x = -4 ∨ a * z < y * b) : TeI hs (i + 1) i a b := by
  have e : teF hs (i + 1) = i := by
    rcases h with ⟨h1, -⟩ | ⟨h1, h2, h3, h4⟩
    · subst h1; rw [teF, if_pos rfl]
    · rw [teF, if_neg (by omega)]
      rcases hc with hc | hc
      · omega
      · rw [if_pos ((te_core hB i (teF hs i) ha hb h3 h4).mp hc)]
  right
  rw [e]
  exact ⟨by omega, rfl, ha, hb⟩
theorem te_no {hs : HS} (hB : HB hs) {i : Nat} {x : Int} {y z a b : Nat} (h : TeI hs i x y z) (ha : a = btw hs i / Nat.gcd (btw hs i) (blw hs i)) (hb : b = max 1 (blw hs i / Nat.gcd (btw hs i) (blw hs i))) (hx : x ≠ -4) (hc : ¬ a * z < y * b) : TeI hs (i + 1) x y z := by
  rcases h with ⟨-, h2, -⟩ | ⟨h1, h2, h3, h4⟩
  · exact absurd h2 hx
  · have e : teF hs (i + 1) = teF hs i := by
      rw [teF, if_neg (by omega), if_neg (fun z => hc ((te_core hB i (teF hs i) ha hb h3 h4).mpr z))]
    right
    rw [e]
    exact ⟨by omega, h2, h3, h4⟩
theorem c_mostTelling {E : EV} {M : Nat} {I J : Nat → Nat → Int} {hs : HS} (hM : 71 ≤ M) (hH : HI I 3 hs) (hB : HB hs) (h0 : 0 < zA hs) : FnQ E mdX2_mostTelling 4 M Rf [vr E 67] I J (fun v I' J' => v = some (vi (teF hs (zA hs) : Int)) ∧ I' = I ∧ Off J J' 66 66) := by
  have bA := hB.2.1
  have v9 : I 3 9 = (zA hs : Int) := hH.2.2 9 (by omega) (by omega)
  have dle : ∀ (k g : Nat), k ≤ 1512000000 → k / g ≤ 1512000000 := fun k g h => Nat.le_trans (Nat.div_le_self _ _) h
  refine FnQ.of (by decide +kernel) (Nat.le_of_ble_eq_true rfl) ?_
  show GM E mdX2_mostTelling 4 M Rf _ I J 0 [some (vr E 67), none, none, none, none, none, none, none, none, none, none] []
  have loop : ∀ (m i : Nat) (J' : Nat → Nat → Int) (x : Int) (y z : Nat) (e1 e2 e3 e4 : Option Value), i + m = zA hs → Off J J' 66 66 → TeI hs i x y z → GM E mdX2_mostTelling 4 M Rf (fun v I' J' => v = some (vi (teF hs (zA hs) : Int)) ∧ I' = I ∧ Off J J' 66 66) I J' 11 [some (vr E 67), some (vi x), some (vl (y : Int)), none, some (vl (z : Int)), none, some (vi (i : Int)), e1, e2, e3, e4] [] := by
    intro m
    induction m with
    | zero =>
      intro i J' x y z e1 e2 e3 e4 hi hO hs0
      have hi : i = zA hs := by omega
      subst hi
      rcases hs0 with ⟨h, -⟩ | ⟨-, hx, -⟩
      · omega
      refine G_iload (pc := 11) dX2_mostTelling_11 rfl ?_
      refine G_aload_n (pc := 13) dX2_mostTelling_13 rfl ?_
      refine G_getr (pc := 14) dX2_mostTelling_14 fiX2_9 (by first | rfl | assumption) (by omega) (by first | rfl | assumption) ?_
      refine G_geti (pc := 17) dX2_mostTelling_17 fiX2_49 (by first | rfl | assumption) (by omega) ?_
      refine G_icmp_ge (pc := 20) (tgt := 86) dX2_mostTelling_20 (Ri.mk (by omega) (by omega)) (Ri.mk (by omega) (by omega)) (by decide) (fun h_20 => ?_) (fun h_20 => ?_)
      · refine G_iload_n (pc := 86) dX2_mostTelling_86 rfl ?_
        refine G_iret (pc := 87) dX2_mostTelling_87 rfl ?_
        exact ⟨by rw [hx], rfl, hO⟩
      · exact absurd h_20 (by omega)
    | succ m ih =>
      intro i J' x y z e1 e2 e3 e4 hi hO hs0
      have hxr : -4 ≤ x ∧ x ≤ 6 := by
        rcases hs0 with ⟨-, hx, -⟩ | ⟨h, hx, -⟩
        · omega
        · have := teF_lt hs i h; omega
      have hyz : y ≤ 1512000000 ∧ z ≤ 1512000000 := by
        rcases hs0 with ⟨-, -, hy, hz⟩ | ⟨h, -, hy, hz⟩
        · omega
        · have q1 := (btw_ok hB (teF hs i : Int)).2
          have q2 := blw_le hB (teF hs i : Int)
          have q3 := dle _ (Nat.gcd (btw hs (teF hs i)) (blw hs (teF hs i))) (show btw hs (teF hs i) ≤ 1512000000 by omega)
          have q4 := dle _ (Nat.gcd (btw hs (teF hs i)) (blw hs (teF hs i))) q2
          omega
      obtain ⟨a, ha⟩ : ∃ a, a = btw hs i / Nat.gcd (btw hs i) (blw hs i) := ⟨_, rfl⟩
      obtain ⟨b0, hb0⟩ : ∃ b, b = blw hs i / Nat.gcd (btw hs i) (blw hs i) := ⟨_, rfl⟩
      obtain ⟨b, hb⟩ : ∃ b, b = max 1 b0 := ⟨_, rfl⟩
      have ha2 : a ≤ 1512000000 := by rw [ha]; exact dle _ _ (by have := (btw_ok hB (i : Int)).2; omega)
      have hb2 : b0 ≤ 1512000000 := by rw [hb0]; exact dle _ _ (blw_le hB (i : Int))
      have p1 := Nat.mul_le_mul ha2 hyz.2
      have p2 := Nat.mul_le_mul hyz.1 (show b ≤ 1512000000 by omega)
      refine G_iload (pc := 11) dX2_mostTelling_11 rfl ?_
      refine G_aload_n (pc := 13) dX2_mostTelling_13 rfl ?_
      refine G_getr (pc := 14) dX2_mostTelling_14 fiX2_9 (by first | rfl | assumption) (by omega) (by first | rfl | assumption) ?_
      refine G_geti (pc := 17) dX2_mostTelling_17 fiX2_49 (by first | rfl | assumption) (by omega) ?_
      refine G_icmp_ge (pc := 20) (tgt := 86) dX2_mostTelling_20 (Ri.mk (by omega) (by omega)) (Ri.mk (by omega) (by omega)) (by decide) (fun h_20 => ?_) (fun h_20 => ?_)
      · exact absurd h_20 (by omega)
      · refine G_aload_n (pc := 23) dX2_mostTelling_23 rfl ?_
        refine G_iload (pc := 24) dX2_mostTelling_24 rfl ?_
        refine G_callV0 (pc := 26) (md := mdX2_weighPeople) (av := [_]) dX2_mostTelling_26 lkX2_57 mwX2_weighPeople (c_weighPeople (i : Int) hM hH hB (Ri.mk (by omega) (by omega))) rfl (by first | rfl | assumption) (by omega) rfl rfl (Nat.le_of_ble_eq_true rfl) (by decide) ⟨Nat.zero_le _, Nat.zero_le _⟩ ?_
        refine G_aload_n (pc := 29) dX2_mostTelling_29 rfl ?_
        refine G_getr (pc := 30) dX2_mostTelling_30 fiX2_15 (by first | rfl | assumption) (by omega) (by first | rfl | assumption) ?_
        refine G_getl (pc := 33) dX2_mostTelling_33 fiX2_61 (by first | rfl | assumption) (by omega) ?_
        rw [wr_n (by decide), wr_s, ← ha]
        refine G_lstore (pc := 36) (lv' := [_, _, _, _, _, _, _, _, _, _, _]) dX2_mostTelling_36 (by decide) rfl ?_
        refine G_lconst (pc := 38) dX2_mostTelling_38 ?_
        refine G_aload_n (pc := 39) dX2_mostTelling_39 rfl ?_
        refine G_getr (pc := 40) dX2_mostTelling_40 fiX2_15 (by first | rfl | assumption) (by omega) (by first | rfl | assumption) ?_
        refine G_getl (pc := 43) dX2_mostTelling_43 fiX2_65 (by first | rfl | assumption) (by omega) ?_
        rw [wr_s, ← hb0]
        refine G_lmax (pc := 46) dX2_mostTelling_46 mmax_1 mmax_2 mmax_3 mmax_4 (Rl.mk (by omega) (by omega)) (Rl.mk (by omega) (by omega)) ⟨by decide, Nat.le_of_ble_eq_true rfl⟩ ⟨Nat.zero_le _, Nat.zero_le _⟩ ?_
        rw [show (if ((b0 : Nat) : Int) < ((1 : Fin 2) : Nat) then (((1 : Fin 2) : Nat) : Int) else (b0 : Int)) = (b : Int) by rw [hb]; split <;> (simp at *; try omega)]
        refine G_lstore (pc := 49) (lv' := [_, _, _, _, _, _, _, _, _, _, _]) dX2_mostTelling_49 (by decide) rfl ?_
        refine G_iload_n (pc := 51) dX2_mostTelling_51 rfl ?_
        refine G_bipush (pc := 52) dX2_mostTelling_52 (by decide) ?_
        refine G_icmp_eq (pc := 54) (tgt := 70) dX2_mostTelling_54 (Ri.mk (by omega) (by omega)) (Ri.mk (by omega) (by omega)) (by decide) (fun h_54 => ?_) (fun h_54 => ?_)
        · refine G_iload (pc := 70) dX2_mostTelling_70 rfl ?_
          refine G_istore_n (pc := 72) (lv' := [_, _, _, _, _, _, _, _, _, _, _]) dX2_mostTelling_72 (by decide) rfl ?_
          refine G_lload (pc := 73) dX2_mostTelling_73 rfl ?_
          refine G_lstore_n (pc := 75) (lv' := [_, _, _, _, _, _, _, _, _, _, _]) dX2_mostTelling_75 (by decide) rfl ?_
          refine G_lload (pc := 76) dX2_mostTelling_76 rfl ?_
          refine G_lstore (pc := 78) (lv' := [_, _, _, _, _, _, _, _, _, _, _]) dX2_mostTelling_78 (by decide) rfl ?_
          refine G_iinc (pc := 80) (lv' := [_, _, _, _, _, _, _, _, _, _, _]) dX2_mostTelling_80 (by decide) rfl rfl ?_
          refine G_goto (pc := 83) (tgt := 11) dX2_mostTelling_83 (by decide) ?_
          first
            | exact ih (i + 1) _ _ _ _ _ _ _ _ (by omega) (fun q hq => by rw [wr_o (by omega), wr_o (by omega)]; exact hO q hq) (te_up hB hs0 ha (hb.trans (by rw [hb0])) (Or.inl (by assumption)))
            | exact ih (i + 1) _ _ _ _ _ _ _ _ (by omega) (fun q hq => by rw [wr_o (by omega), wr_o (by omega)]; exact hO q hq) (te_up hB hs0 ha (hb.trans (by rw [hb0])) (Or.inr (Int.ofNat_lt.mp (by assumption))))
            | exact ih (i + 1) _ _ _ _ _ _ _ _ (by omega) (fun q hq => by rw [wr_o (by omega), wr_o (by omega)]; exact hO q hq) (te_no hB hs0 ha (hb.trans (by rw [hb0])) (by assumption) (Nat.not_lt.mpr (Int.ofNat_le.mp (by assumption))))
        · refine G_lload (pc := 57) dX2_mostTelling_57 rfl ?_
          refine G_lload (pc := 59) dX2_mostTelling_59 rfl ?_
          refine G_lmul (pc := 61) dX2_mostTelling_61 ?_
          refine G_lload_n (pc := 62) dX2_mostTelling_62 rfl ?_
          refine G_lload (pc := 63) dX2_mostTelling_63 rfl ?_
          refine G_lmul (pc := 65) dX2_mostTelling_65 ?_
          rw [← Int.natCast_mul, ← Int.natCast_mul]
          refine G_lc_ge (pc := 66) (tgt := 80) dX2_mostTelling_66 dX2_mostTelling_67 (Rl.mk (by omega) (by omega)) (Rl.mk (by omega) (by omega)) (by decide) (fun h_66 => ?_) (fun h_66 => ?_)
          · refine G_iinc (pc := 80) (lv' := [_, _, _, _, _, _, _, _, _, _, _]) dX2_mostTelling_80 (by decide) rfl rfl ?_
            refine G_goto (pc := 83) (tgt := 11) dX2_mostTelling_83 (by decide) ?_
            first
              | exact ih (i + 1) _ _ _ _ _ _ _ _ (by omega) (fun q hq => by rw [wr_o (by omega), wr_o (by omega)]; exact hO q hq) (te_up hB hs0 ha (hb.trans (by rw [hb0])) (Or.inl (by assumption)))
              | exact ih (i + 1) _ _ _ _ _ _ _ _ (by omega) (fun q hq => by rw [wr_o (by omega), wr_o (by omega)]; exact hO q hq) (te_up hB hs0 ha (hb.trans (by rw [hb0])) (Or.inr (Int.ofNat_lt.mp (by assumption))))
              | exact ih (i + 1) _ _ _ _ _ _ _ _ (by omega) (fun q hq => by rw [wr_o (by omega), wr_o (by omega)]; exact hO q hq) (te_no hB hs0 ha (hb.trans (by rw [hb0])) (by assumption) (Nat.not_lt.mpr (Int.ofNat_le.mp (by assumption))))
          · refine G_iload (pc := 70) dX2_mostTelling_70 rfl ?_
            refine G_istore_n (pc := 72) (lv' := [_, _, _, _, _, _, _, _, _, _, _]) dX2_mostTelling_72 (by decide) rfl ?_
            refine G_lload (pc := 73) dX2_mostTelling_73 rfl ?_
            refine G_lstore_n (pc := 75) (lv' := [_, _, _, _, _, _, _, _, _, _, _]) dX2_mostTelling_75 (by decide) rfl ?_
            refine G_lload (pc := 76) dX2_mostTelling_76 rfl ?_
            refine G_lstore (pc := 78) (lv' := [_, _, _, _, _, _, _, _, _, _, _]) dX2_mostTelling_78 (by decide) rfl ?_
            refine G_iinc (pc := 80) (lv' := [_, _, _, _, _, _, _, _, _, _, _]) dX2_mostTelling_80 (by decide) rfl rfl ?_
            refine G_goto (pc := 83) (tgt := 11) dX2_mostTelling_83 (by decide) ?_
            first
              | exact ih (i + 1) _ _ _ _ _ _ _ _ (by omega) (fun q hq => by rw [wr_o (by omega), wr_o (by omega)]; exact hO q hq) (te_up hB hs0 ha (hb.trans (by rw [hb0])) (Or.inl (by assumption)))
              | exact ih (i + 1) _ _ _ _ _ _ _ _ (by omega) (fun q hq => by rw [wr_o (by omega), wr_o (by omega)]; exact hO q hq) (te_up hB hs0 ha (hb.trans (by rw [hb0])) (Or.inr (Int.ofNat_lt.mp (by assumption))))
              | exact ih (i + 1) _ _ _ _ _ _ _ _ (by omega) (fun q hq => by rw [wr_o (by omega), wr_o (by omega)]; exact hO q hq) (te_no hB hs0 ha (hb.trans (by rw [hb0])) (by assumption) (Nat.not_lt.mpr (Int.ofNat_le.mp (by assumption))))
  refine G_bipush (pc := 0) dX2_mostTelling_0 (by decide) ?_
  refine G_istore_n (pc := 2) (lv' := [_, _, _, _, _, _, _, _, _, _, _]) dX2_mostTelling_2 (by decide) rfl ?_
  refine G_lconst (pc := 3) dX2_mostTelling_3 ?_
  refine G_lstore_n (pc := 4) (lv' := [_, _, _, _, _, _, _, _, _, _, _]) dX2_mostTelling_4 (by decide) rfl ?_
  refine G_lconst (pc := 5) dX2_mostTelling_5 ?_
  refine G_lstore (pc := 6) (lv' := [_, _, _, _, _, _, _, _, _, _, _]) dX2_mostTelling_6 (by decide) rfl ?_
  refine G_iconst (pc := 8) dX2_mostTelling_8 ?_
  refine G_istore (pc := 9) (lv' := [_, _, _, _, _, _, _, _, _, _, _]) dX2_mostTelling_9 (by decide) rfl ?_
  exact loop (zA hs) 0 _ _ 0 1 _ _ _ _ (by omega) Off.rfl (Or.inl ⟨rfl, rfl, rfl, rfl⟩)
