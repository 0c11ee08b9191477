/-! ROW and TOLD -/
def isRow (k : Nat) : Prop := k = 13 ∨ k = 30 ∨ k = 36 ∨ k = 45 ∨ k = 57 ∨ k = 60
def isTold (k : Nat) : Prop := k = 16 ∨ k = 39 ∨ k = 48
theorem Row_all {k : Nat} (h : isRow k) : k < 61 ∧ shp k = .inl 7 ∧ Rf k 0 = some (k + 1) ∧ Rf k 1 = some (k + 2) ∧ shp (k + 1) = .inr (0, 8) ∧ shp (k + 2) = .inr (0, 8) := by
  rcases h with rfl | rfl | rfl | rfl | rfl | rfl <;> exact ⟨by decide, rfl, rfl, rfl, rfl, rfl⟩
theorem Told_all {k : Nat} (h : isTold k) : k < 49 ∧ shp k = .inl 10 ∧ Rf k 0 = some (k + 1) ∧ Rf k 1 = some (k + 2) ∧ Rf k 2 = some (k + 3) ∧ Rf k 3 = some (k + 4) ∧ shp (k + 1) = .inr (0, 3) ∧ shp (k + 2) = .inr (0, 3) ∧ shp (k + 3) = .inr (0, 3) ∧ shp (k + 4) = .inr (0, 3) := by
  rcases h with rfl | rfl | rfl <;> exact ⟨by decide, rfl, rfl, rfl, rfl, rfl, rfl, rfl, rfl, rfl⟩
theorem c_Radd {E : EV} {M : Nat} {I J : Nat → Nat → Int} {C : CS} (k a b : Nat) (hk : isRow k) (hM : 71 ≤ M) (hR : RI I k C) (h8 : C 0 0 ≤ 8) : FnQ E mdX7_add 1 M Rf [vr E k, vi (a : Int), vi (b : Int)] I J (fun v I' J' => J' = J ∧ ((C 0 0 < 8 ∧ v = some (vi 1) ∧ RI I' k (addR C a b) ∧ Off I I' k (k + 2)) ∨ (C 0 0 = 8 ∧ v = some (vi 0) ∧ I' = I))) := by
  obtain ⟨hk60, hsh, r0, r1, s1, s2⟩ := Row_all hk
  have v2 := hR.1
  refine FnQ.of (by decide +kernel) (Nat.le_of_ble_eq_true rfl) ?_
  show GM E mdX7_add 1 M Rf _ I J 0 [some (vr E k), some (vi (a : Int)), some (vi (b : Int))] []
  refine G_aload_n (pc := 0) dX7_add_0 rfl ?_
  refine G_geti (pc := 1) dX7_add_1 fiX7_18 (by first | rfl | assumption) (by omega) ?_
  refine G_bipush (pc := 4) dX7_add_4 (by decide) ?_
  refine G_icmp_lt (pc := 6) (tgt := 11) dX7_add_6 (Ri.mk (by omega) (by omega)) (Ri.mk (by omega) (by omega)) (by decide) (fun h_6 => ?_) (fun h_6 => ?_)
  · refine G_aload_n (pc := 11) dX7_add_11 rfl ?_
    refine G_getr (pc := 12) dX7_add_12 fiX7_9 (by first | rfl | assumption) (by omega) (by first | rfl | assumption) ?_
    refine G_aload_n (pc := 15) dX7_add_15 rfl ?_
    refine G_geti (pc := 16) dX7_add_16 fiX7_18 (by first | rfl | assumption) (by omega) ?_
    refine G_iload_n (pc := 19) dX7_add_19 rfl ?_
    refine G_callS0 (pc := 20) (md := mdX11_put) (av := [_, _, _]) dX7_add_20 lkX7_22 mwX11_put (c_put _ 8 (C 0 0) _ _ s1 (by omega) (by omega) (by omega) v2) rfl rfl (Nat.le_of_ble_eq_true rfl) (by decide) ⟨Nat.zero_le _, Nat.zero_le _⟩ ?_
    refine G_aload_n (pc := 23) dX7_add_23 rfl ?_
    refine G_getr (pc := 24) dX7_add_24 fiX7_15 (by first | rfl | assumption) (by omega) (by first | rfl | assumption) ?_
    refine G_aload_n (pc := 27) dX7_add_27 rfl ?_
    refine G_geti (pc := 28) dX7_add_28 fiX7_18 (by first | rfl | assumption) (by omega) ?_
    refine G_iload_n (pc := 31) dX7_add_31 rfl ?_
    refine G_callS0 (pc := 32) (md := mdX11_put) (av := [_, _, _]) dX7_add_32 lkX7_22 mwX11_put (c_put _ 8 (C 0 0) _ _ s2 (by omega) (by omega) (by omega) (by simp (disch := omega) only [wr_o]; exact v2)) rfl rfl (Nat.le_of_ble_eq_true rfl) (by decide) ⟨Nat.zero_le _, Nat.zero_le _⟩ ?_
    refine G_aload_n (pc := 35) dX7_add_35 rfl ?_
    refine G_dup (pc := 36) dX7_add_36 rfl ?_
    refine G_geti (pc := 37) dX7_add_37 fiX7_18 (by first | rfl | assumption) (by omega) ?_
    refine G_iconst (pc := 40) dX7_add_40 ?_
    refine G_iadd (pc := 41) dX7_add_41 ?_
    refine G_puti (pc := 42) dX7_add_42 fiX7_18 (by first | rfl | assumption) (by omega) ?_
    refine G_iconst (pc := 45) dX7_add_45 ?_
    refine G_zret (pc := 46) dX7_add_46 rfl (by omega) ?_
    refine ⟨rfl, Or.inl ⟨by omega, rfl, ⟨?_, fun t ht => ?_⟩, ?_⟩⟩
    · simp (disch := omega) only [wr_n, wr_s, wr_o]; rw [v2]; simp [addR]
    · have ht2 : t < C 0 0 + 1 := ht
      by_cases e : t = C 0 0
      · subst e; simp (disch := omega) only [wr_n, wr_s, wr_o]; simp [addR]
      · have := hR.2 t (by omega)
        simp (disch := omega) only [wr_n, wr_s, wr_o]; rw [this.1, this.2]; simp [addR, e]
    · intro q hq
      simp (disch := omega) only [wr_o]
  · refine G_iconst (pc := 9) dX7_add_9 ?_
    refine G_zret (pc := 10) dX7_add_10 rfl (by omega) ?_
    exact ⟨rfl, Or.inr ⟨by omega, rfl, rfl⟩⟩
theorem c_Rcopy {E : EV} {M : Nat} {I J : Nat → Nat → Int} {C : CS} (k r : Nat) (hk : isRow k) (hr : isRow r) (hne : k ≠ r) (hM : 71 ≤ M) (hR : RI I r C) (h8 : C 0 0 ≤ 8) : FnQ E mdX7_copy 2 M Rf [vr E k, vr E r] I J (fun v I' J' => v = none ∧ J' = J ∧ RI I' k C ∧ Off I I' k (k + 2)) := by
  obtain ⟨hk60, hsh, r0, r1, s1, s2⟩ := Row_all hk
  obtain ⟨hk602, hsh2, r02, r12, s12, s22⟩ := Row_all hr
  have hfar : k + 2 < r ∨ r + 2 < k := by
    rcases hk with rfl | rfl | rfl | rfl | rfl | rfl <;> rcases hr with rfl | rfl | rfl | rfl | rfl | rfl <;> omega
  refine FnQ.of (by decide +kernel) (Nat.le_of_ble_eq_true rfl) ?_
  show GM E mdX7_copy 2 M Rf _ I J 0 [some (vr E k), some (vr E r)] []
  refine G_aload_n (pc := 0) dX7_copy_0 rfl ?_
  refine G_getr (pc := 1) dX7_copy_1 fiX7_9 (by first | rfl | assumption) (by omega) (by first | rfl | assumption) ?_
  refine G_aload_n (pc := 4) dX7_copy_4 rfl ?_
  refine G_getr (pc := 5) dX7_copy_5 fiX7_9 (by first | rfl | assumption) (by omega) (by first | rfl | assumption) ?_
  refine G_callS0 (pc := 8) (md := mdX11_copyRow) (av := [_, _]) dX7_copy_8 lkX7_26 mwX11_copyRow (c_copyRow _ _ 8 s1 s12 (by omega) (by omega) (by omega) (by omega)) rfl rfl (Nat.le_of_ble_eq_true rfl) (by decide) ⟨Nat.zero_le _, Nat.zero_le _⟩ ?_
  refine G_aload_n (pc := 11) dX7_copy_11 rfl ?_
  refine G_getr (pc := 12) dX7_copy_12 fiX7_15 (by first | rfl | assumption) (by omega) (by first | rfl | assumption) ?_
  refine G_aload_n (pc := 15) dX7_copy_15 rfl ?_
  refine G_getr (pc := 16) dX7_copy_16 fiX7_15 (by first | rfl | assumption) (by omega) (by first | rfl | assumption) ?_
  refine G_callS0 (pc := 19) (md := mdX11_copyRow) (av := [_, _]) dX7_copy_19 lkX7_26 mwX11_copyRow (c_copyRow _ _ 8 s2 s22 (by omega) (by omega) (by omega) (by omega)) rfl rfl (Nat.le_of_ble_eq_true rfl) (by decide) ⟨Nat.zero_le _, Nat.zero_le _⟩ ?_
  refine G_aload_n (pc := 22) dX7_copy_22 rfl ?_
  refine G_aload_n (pc := 23) dX7_copy_23 rfl ?_
  refine G_geti (pc := 24) dX7_copy_24 fiX7_18 (by first | rfl | assumption) (by omega) ?_
  refine G_puti (pc := 27) dX7_copy_27 fiX7_18 (by first | rfl | assumption) (by omega) ?_
  refine G_vret (pc := 30) dX7_copy_30 rfl ?_
  refine ⟨rfl, rfl, ⟨?_, fun t ht => ?_⟩, ?_⟩
  · simp (disch := omega) only [wr_s, cpR_o]; exact hR.1
  · simp (disch := omega) only [wr_o, cpR_o, cpR_s]; exact hR.2 t ht
  · intro q hq
    simp (disch := omega) only [wr_o, cpR_o]
theorem c_Rask {E : EV} {M : Nat} {I J : Nat → Nat → Int} {C : CS} (k t : Nat) (hk : isRow k) (hM : 71 ≤ M) (hR : RI I k C) (h8 : C 0 0 ≤ 8) (ht : t < C 0 0) : FnF E mdX7_ask 1 M Rf [vr E k, vi (t : Int)] I J (some (vi (C 1 t : Int))) I J := by
  obtain ⟨hk60, hsh, r0, r1, s1, s2⟩ := Row_all hk
  refine FnQ.of (by decide +kernel) (Nat.le_of_ble_eq_true rfl) ?_
  show GM E mdX7_ask 1 M Rf _ I J 0 [some (vr E k), some (vi (t : Int))] []
  refine G_aload_n (pc := 0) dX7_ask_0 rfl ?_
  refine G_getr (pc := 1) dX7_ask_1 fiX7_9 (by first | rfl | assumption) (by omega) (by first | rfl | assumption) ?_
  refine G_iload_n (pc := 4) dX7_ask_4 rfl ?_
  refine G_callS1 (pc := 5) (md := mdX11_at) (av := [_, _]) dX7_ask_5 lkX7_30 mwX11_at (c_atv _ 8 t _ s1 (by omega) (by omega) (by omega) (hR.2 t ht).1) rfl rfl (Nat.le_of_ble_eq_true rfl) (by decide) ⟨Nat.zero_le _, Nat.zero_le _⟩ ?_
  refine G_iret (pc := 8) dX7_ask_8 rfl ?_
  exact ⟨rfl, rfl, rfl⟩
theorem c_Rkeeps {E : EV} {M : Nat} {I J : Nat → Nat → Int} {C : CS} (k t : Nat) (hk : isRow k) (hM : 71 ≤ M) (hR : RI I k C) (h8 : C 0 0 ≤ 8) (ht : t < C 0 0) (h1 : C 2 t ≤ 1) : FnF E mdX7_keepsDoers 1 M Rf [vr E k, vi (t : Int)] I J (some (vi (bI (C 2 t = 0)))) I J := by
  obtain ⟨hk60, hsh, r0, r1, s1, s2⟩ := Row_all hk
  refine FnQ.of (by decide +kernel) (Nat.le_of_ble_eq_true rfl) ?_
  show GM E mdX7_keepsDoers 1 M Rf _ I J 0 [some (vr E k), some (vi (t : Int))] []
  refine G_aload_n (pc := 0) dX7_keepsDoers_0 rfl ?_
  refine G_getr (pc := 1) dX7_keepsDoers_1 fiX7_15 (by first | rfl | assumption) (by omega) (by first | rfl | assumption) ?_
  refine G_iload_n (pc := 4) dX7_keepsDoers_4 rfl ?_
  refine G_callS1 (pc := 5) (md := mdX11_at) (av := [_, _]) dX7_keepsDoers_5 lkX7_30 mwX11_at (c_atv _ 8 t _ s2 (by omega) (by omega) (by omega) (hR.2 t ht).2) rfl rfl (Nat.le_of_ble_eq_true rfl) (by decide) ⟨Nat.zero_le _, Nat.zero_le _⟩ ?_
  refine G_if_ne (pc := 8) (tgt := 15) dX7_keepsDoers_8 (Ri.mk (by omega) (by omega)) (by decide) (fun h_8 => ?_) (fun h_8 => ?_)
  · try simp only [bI_eq0, bI_ne0] at h_8
    refine G_iconst (pc := 15) dX7_keepsDoers_15 ?_
    refine G_zret (pc := 16) dX7_keepsDoers_16 rfl (by omega) ?_
    exact ⟨by first | rw [bI_t (by omega)] | rw [bI_f (by omega)], rfl, rfl⟩
  · try simp only [bI_eq0, bI_ne0] at h_8
    refine G_iconst (pc := 11) dX7_keepsDoers_11 ?_
    refine G_goto (pc := 12) (tgt := 16) dX7_keepsDoers_12 (by decide) ?_
    refine G_zret (pc := 16) dX7_keepsDoers_16 rfl (by omega) ?_
    exact ⟨by first | rw [bI_t (by omega)] | rw [bI_f (by omega)], rfl, rfl⟩
theorem c_Tadd {E : EV} {M : Nat} {I J : Nat → Nat → Int} {C : CS} (k a b c d : Nat) (hk : isTold k) (hM : 71 ≤ M) (hT : TI I k C) (h8 : C 3 0 ≤ 3) : FnQ E mdX10_add 1 M Rf [vr E k, vi (a : Int), vi (b : Int), vi (c : Int), vi (d : Int)] I J (fun v I' J' => J' = J ∧ ((C 3 0 < 3 ∧ v = some (vi 1) ∧ TI I' k (addT C a b c d) ∧ Off I I' k (k + 4)) ∨ (C 3 0 = 3 ∧ v = some (vi 0) ∧ I' = I))) := by
  obtain ⟨hk60, hsh, r0, r1, r2, r3, s1, s2, s3, s4⟩ := Told_all hk
  have v4 := hT.1
  refine FnQ.of (by decide +kernel) (Nat.le_of_ble_eq_true rfl) ?_
  show GM E mdX10_add 1 M Rf _ I J 0 [some (vr E k), some (vi (a : Int)), some (vi (b : Int)), some (vi (c : Int)), some (vi (d : Int))] []
  refine G_aload_n (pc := 0) dX10_add_0 rfl ?_
  refine G_geti (pc := 1) dX10_add_1 fiX10_24 (by first | rfl | assumption) (by omega) ?_
  refine G_iconst (pc := 4) dX10_add_4 ?_
  refine G_icmp_lt (pc := 5) (tgt := 10) dX10_add_5 (Ri.mk (by omega) (by omega)) (Ri.mk (by omega) (by omega)) (by decide) (fun h_5 => ?_) (fun h_5 => ?_)
  · refine G_aload_n (pc := 10) dX10_add_10 rfl ?_
    refine G_getr (pc := 11) dX10_add_11 fiX10_9 (by first | rfl | assumption) (by omega) (by first | rfl | assumption) ?_
    refine G_aload_n (pc := 14) dX10_add_14 rfl ?_
    refine G_geti (pc := 15) dX10_add_15 fiX10_24 (by first | rfl | assumption) (by omega) ?_
    refine G_iload_n (pc := 18) dX10_add_18 rfl ?_
    refine G_callS0 (pc := 19) (md := mdX11_put) (av := [_, _, _]) dX10_add_19 lkX10_28 mwX11_put (c_put _ 3 (C 3 0) _ _ (by first | exact s1 | exact s2 | exact s3 | exact s4) (by omega) (by omega) (by omega) (by first | exact v4 | (simp (disch := omega) only [wr_o]; exact v4))) rfl rfl (Nat.le_of_ble_eq_true rfl) (by decide) ⟨Nat.zero_le _, Nat.zero_le _⟩ ?_
    refine G_aload_n (pc := 22) dX10_add_22 rfl ?_
    refine G_getr (pc := 23) dX10_add_23 fiX10_15 (by first | rfl | assumption) (by omega) (by first | rfl | assumption) ?_
    refine G_aload_n (pc := 26) dX10_add_26 rfl ?_
    refine G_geti (pc := 27) dX10_add_27 fiX10_24 (by first | rfl | assumption) (by omega) ?_
    refine G_iload_n (pc := 30) dX10_add_30 rfl ?_
    refine G_callS0 (pc := 31) (md := mdX11_put) (av := [_, _, _]) dX10_add_31 lkX10_28 mwX11_put (c_put _ 3 (C 3 0) _ _ (by first | exact s1 | exact s2 | exact s3 | exact s4) (by omega) (by omega) (by omega) (by first | exact v4 | (simp (disch := omega) only [wr_o]; exact v4))) rfl rfl (Nat.le_of_ble_eq_true rfl) (by decide) ⟨Nat.zero_le _, Nat.zero_le _⟩ ?_
    refine G_aload_n (pc := 34) dX10_add_34 rfl ?_
    refine G_getr (pc := 35) dX10_add_35 fiX10_18 (by first | rfl | assumption) (by omega) (by first | rfl | assumption) ?_
    refine G_aload_n (pc := 38) dX10_add_38 rfl ?_
    refine G_geti (pc := 39) dX10_add_39 fiX10_24 (by first | rfl | assumption) (by omega) ?_
    refine G_iload_n (pc := 42) dX10_add_42 rfl ?_
    refine G_callS0 (pc := 43) (md := mdX11_put) (av := [_, _, _]) dX10_add_43 lkX10_28 mwX11_put (c_put _ 3 (C 3 0) _ _ (by first | exact s1 | exact s2 | exact s3 | exact s4) (by omega) (by omega) (by omega) (by first | exact v4 | (simp (disch := omega) only [wr_o]; exact v4))) rfl rfl (Nat.le_of_ble_eq_true rfl) (by decide) ⟨Nat.zero_le _, Nat.zero_le _⟩ ?_
    refine G_aload_n (pc := 46) dX10_add_46 rfl ?_
    refine G_getr (pc := 47) dX10_add_47 fiX10_21 (by first | rfl | assumption) (by omega) (by first | rfl | assumption) ?_
    refine G_aload_n (pc := 50) dX10_add_50 rfl ?_
    refine G_geti (pc := 51) dX10_add_51 fiX10_24 (by first | rfl | assumption) (by omega) ?_
    refine G_iload (pc := 54) dX10_add_54 rfl ?_
    refine G_callS0 (pc := 56) (md := mdX11_put) (av := [_, _, _]) dX10_add_56 lkX10_28 mwX11_put (c_put _ 3 (C 3 0) _ _ (by first | exact s1 | exact s2 | exact s3 | exact s4) (by omega) (by omega) (by omega) (by first | exact v4 | (simp (disch := omega) only [wr_o]; exact v4))) rfl rfl (Nat.le_of_ble_eq_true rfl) (by decide) ⟨Nat.zero_le _, Nat.zero_le _⟩ ?_
    refine G_aload_n (pc := 59) dX10_add_59 rfl ?_
    refine G_dup (pc := 60) dX10_add_60 rfl ?_
    refine G_geti (pc := 61) dX10_add_61 fiX10_24 (by first | rfl | assumption) (by omega) ?_
    refine G_iconst (pc := 64) dX10_add_64 ?_
    refine G_iadd (pc := 65) dX10_add_65 ?_
    refine G_puti (pc := 66) dX10_add_66 fiX10_24 (by first | rfl | assumption) (by omega) ?_
    refine G_iconst (pc := 69) dX10_add_69 ?_
    refine G_zret (pc := 70) dX10_add_70 rfl (by omega) ?_
    refine ⟨rfl, Or.inl ⟨by omega, rfl, ⟨?_, fun t ht => ?_⟩, ?_⟩⟩
    · simp (disch := omega) only [wr_n, wr_s, wr_o]; rw [v4]; simp [addT]
    · have ht2 : t < C 3 0 + 1 := ht
      by_cases e : t = C 3 0
      · subst e; simp (disch := omega) only [wr_n, wr_s, wr_o]; simp [addT]
      · have := hT.2 t (by omega)
        simp (disch := omega) only [wr_n, wr_s, wr_o]; rw [this.1, this.2.1, this.2.2.1, this.2.2.2]; simp [addT, e]
    · intro q hq
      simp (disch := omega) only [wr_o]
  · refine G_iconst (pc := 8) dX10_add_8 ?_
    refine G_zret (pc := 9) dX10_add_9 rfl (by omega) ?_
    exact ⟨rfl, Or.inr ⟨by omega, rfl, rfl⟩⟩
theorem c_likely {E : EV} {M : Nat} {R : Nat → Nat → Option Nat} {I J : Nat → Nat → Int} (p n d : Nat) (hp : p ≤ 10) (hn : n ≤ 4) (hd : d ≤ n) : FnF E mdX10_likely 0 M R [vi (p : Int), vi (n : Int), vi (d : Int)] I J (some (vl (lik p n d : Int))) I J := by
  refine FnQ.of (by decide +kernel) (Nat.le_of_ble_eq_true rfl) ?_
  show GM E mdX10_likely 0 M R _ I J 0 [some (vi (p : Int)), some (vi (n : Int)), some (vi (d : Int)), none, none, none] []
  have hc := chC_le hn hd
  have loop2 : ∀ (m i : Nat) (x : Int), i + m = n → x = (chC n d * lkP p d i : Nat) → GM E mdX10_likely 0 M R (QF (some (vl (lik p n d : Int))) I J) I J 34 [some (vi (p : Int)), some (vi (n : Int)), some (vi (d : Int)), some (vl x), none, some (vi (i : Int))] [] := by
    intro m
    induction m with
    | zero =>
      intro i x hi hx
      have hi : i = n := by omega
      subst hi
      refine G_iload (pc := 34) dX10_likely_34 rfl ?_
      refine G_iload_n (pc := 36) dX10_likely_36 rfl ?_
      refine G_icmp_ge (pc := 37) (tgt := 65) dX10_likely_37 (Ri.mk (by omega) (by omega)) (Ri.mk (by omega) (by omega)) (by decide) (fun h_37 => ?_) (fun h_37 => ?_)
      · refine G_lload_n (pc := 65) dX10_likely_65 rfl ?_
        refine G_lret (pc := 66) dX10_likely_66 rfl ?_
        exact ⟨by rw [hx]; rfl, rfl, rfl⟩
      · exact absurd h_37 (by omega)
    | succ m ih =>
      intro i x hi hx
      refine G_iload (pc := 34) dX10_likely_34 rfl ?_
      refine G_iload_n (pc := 36) dX10_likely_36 rfl ?_
      refine G_icmp_ge (pc := 37) (tgt := 65) dX10_likely_37 (Ri.mk (by omega) (by omega)) (Ri.mk (by omega) (by omega)) (by decide) (fun h_37 => ?_) (fun h_37 => ?_)
      · exact absurd h_37 (by omega)
      · refine G_lload_n (pc := 40) dX10_likely_40 rfl ?_
        refine G_iload (pc := 41) dX10_likely_41 rfl ?_
        refine G_iload_n (pc := 43) dX10_likely_43 rfl ?_
        refine G_icmp_ge (pc := 44) (tgt := 52) dX10_likely_44 (Ri.mk (by omega) (by omega)) (Ri.mk (by omega) (by omega)) (by decide) (fun h_44 => ?_) (fun h_44 => ?_)
        · refine G_bipush (pc := 52) dX10_likely_52 (by decide) ?_
          refine G_iload_n (pc := 54) dX10_likely_54 rfl ?_
          refine G_isub (pc := 55) dX10_likely_55 ?_
          refine G_i2l (pc := 56) dX10_likely_56 (Ri.mk (by omega) (by omega)) ?_
          refine G_lmul (pc := 57) dX10_likely_57 ?_
          refine G_lstore_n (pc := 58) (lv' := [_, _, _, _, _, _]) dX10_likely_58 (by decide) rfl ?_
          refine G_iinc (pc := 59) (lv' := [_, _, _, _, _, _]) dX10_likely_59 (by decide) rfl rfl ?_
          refine G_goto (pc := 62) (tgt := 34) dX10_likely_62 (by decide) ?_
          exact ih (i + 1) _ (by omega) (by rw [hx, lkP]; (first | rw [if_pos (by omega)] | rw [if_neg (by omega)]); rw [← Nat.mul_assoc, Int.natCast_mul (chC n d * lkP p d i)]; try (rw [Int.ofNat_sub hp]; rfl))
        · refine G_iload_n (pc := 47) dX10_likely_47 rfl ?_
          refine G_i2l (pc := 48) dX10_likely_48 (Ri.mk (by omega) (by omega)) ?_
          refine G_goto (pc := 49) (tgt := 57) dX10_likely_49 (by decide) ?_
          refine G_lmul (pc := 57) dX10_likely_57 ?_
          refine G_lstore_n (pc := 58) (lv' := [_, _, _, _, _, _]) dX10_likely_58 (by decide) rfl ?_
          refine G_iinc (pc := 59) (lv' := [_, _, _, _, _, _]) dX10_likely_59 (by decide) rfl rfl ?_
          refine G_goto (pc := 62) (tgt := 34) dX10_likely_62 (by decide) ?_
          exact ih (i + 1) _ (by omega) (by rw [hx, lkP]; (first | rw [if_pos (by omega)] | rw [if_neg (by omega)]); rw [← Nat.mul_assoc, Int.natCast_mul (chC n d * lkP p d i)]; try (rw [Int.ofNat_sub hp]; rfl))
  have loop1 : ∀ (m i : Nat) (x : Int), i + m = d → x = (chC n i : Nat) → GM E mdX10_likely 0 M R (QF (some (vl (lik p n d : Int))) I J) I J 5 [some (vi (p : Int)), some (vi (n : Int)), some (vi (d : Int)), some (vl x), none, some (vi (i : Int))] [] := by
    intro m
    induction m with
    | zero =>
      intro i x hi hx
      have hi : i = d := by omega
      subst hi
      refine G_iload (pc := 5) dX10_likely_5 rfl ?_
      refine G_iload_n (pc := 7) dX10_likely_7 rfl ?_
      refine G_icmp_ge (pc := 8) (tgt := 31) dX10_likely_8 (Ri.mk (by omega) (by omega)) (Ri.mk (by omega) (by omega)) (by decide) (fun h_8 => ?_) (fun h_8 => ?_)
      · refine G_iconst (pc := 31) dX10_likely_31 ?_
        refine G_istore (pc := 32) (lv' := [_, _, _, _, _, _]) dX10_likely_32 (by decide) rfl ?_
        exact loop2 n 0 _ (by omega) (by rw [hx]; simp [lkP])
      · exact absurd h_8 (by omega)
    | succ m ih =>
      intro i x hi hx
      have hc2 := chC_le (d := i) hn (by omega)
      have e1 : x * ((n : Int) - (i : Int)) = ((chC n i * (n - i) : Nat) : Int) := by rw [hx, Int.natCast_mul, Int.ofNat_sub (by omega)]
      have hb1 := Nat.mul_le_mul hc2 (show n - i ≤ 4 by omega)
      refine G_iload (pc := 5) dX10_likely_5 rfl ?_
      refine G_iload_n (pc := 7) dX10_likely_7 rfl ?_
      refine G_icmp_ge (pc := 8) (tgt := 31) dX10_likely_8 (Ri.mk (by omega) (by omega)) (Ri.mk (by omega) (by omega)) (by decide) (fun h_8 => ?_) (fun h_8 => ?_)
      · exact absurd h_8 (by omega)
      · refine G_lload_n (pc := 11) dX10_likely_11 rfl ?_
        refine G_iload_n (pc := 12) dX10_likely_12 rfl ?_
        refine G_iload (pc := 13) dX10_likely_13 rfl ?_
        refine G_isub (pc := 15) dX10_likely_15 ?_
        refine G_i2l (pc := 16) dX10_likely_16 (Ri.mk (by omega) (by omega)) ?_
        refine G_lmul (pc := 17) dX10_likely_17 ?_
        refine G_iload (pc := 18) dX10_likely_18 rfl ?_
        refine G_iconst (pc := 20) dX10_likely_20 ?_
        refine G_iadd (pc := 21) dX10_likely_21 ?_
        refine G_i2l (pc := 22) dX10_likely_22 (Ri.mk (by omega) (by omega)) ?_
        rw [e1]
        refine G_ldiv (pc := 23) dX10_likely_23 (Rl.mk (by omega) (by omega)) (Rl.mk (by omega) (by omega)) (by omega) ?_
        refine G_lstore_n (pc := 24) (lv' := [_, _, _, _, _, _]) dX10_likely_24 (by decide) rfl ?_
        refine G_iinc (pc := 25) (lv' := [_, _, _, _, _, _]) dX10_likely_25 (by decide) rfl rfl ?_
        refine G_goto (pc := 28) (tgt := 5) dX10_likely_28 (by decide) ?_
        exact ih (i + 1) _ (by omega) (by rw [chC, show ((i : Int) + 1) = ((i + 1 : Nat) : Int) from rfl, ← Int.ofNat_tdiv])
  refine G_lconst (pc := 0) dX10_likely_0 ?_
  refine G_lstore_n (pc := 1) (lv' := [_, _, _, _, _, _]) dX10_likely_1 (by decide) rfl ?_
  refine G_iconst (pc := 2) dX10_likely_2 ?_
  refine G_istore (pc := 3) (lv' := [_, _, _, _, _, _]) dX10_likely_3 (by decide) rfl ?_
  exact loop1 d 0 _ (by omega) rfl
theorem c_doesTenths {E : EV} {M : Nat} {I J : Nat → Nat → Int} {hs : HS} {C : CS} (k t : Nat) (hk : isTold k) (hM : 71 ≤ M) (hH : HI I 3 hs) (hB : HB hs) (hT : TI I k C) (hTB : TB hs C) (ht : t < C 3 0) : FnF E mdX10_doesTenths 3 M Rf [vr E k, vr E 3, vi (t : Int)] I J (some (vi (pT hs C t : Int))) I J := by
  obtain ⟨hk60, hsh, r0, r1, r2, r3, s1, s2, s3, s4⟩ := Told_all hk
  have h8 := hTB.1
  have hb := hTB.2 t ht
  have hd := dO_le hs (C 4 t) (C 5 t) 0
  refine FnQ.of (by decide +kernel) (Nat.le_of_ble_eq_true rfl) ?_
  show GM E mdX10_doesTenths 3 M Rf _ I J 0 [some (vr E k), some (vr E 3), some (vi (t : Int))] []
  refine G_aload_n (pc := 0) dX10_doesTenths_0 rfl ?_
  refine G_aload_n (pc := 1) dX10_doesTenths_1 rfl ?_
  refine G_getr (pc := 2) dX10_doesTenths_2 fiX10_9 (by first | rfl | assumption) (by omega) (by first | rfl | assumption) ?_
  refine G_iload_n (pc := 5) dX10_doesTenths_5 rfl ?_
  refine G_callS1 (pc := 6) (md := mdX11_at) (av := [_, _]) dX10_doesTenths_6 lkX10_40 mwX11_at (c_atv _ 3 t _ s1 (by omega) (by omega) (by omega) (hT.2 t ht).1) rfl rfl (Nat.le_of_ble_eq_true rfl) (by decide) ⟨Nat.zero_le _, Nat.zero_le _⟩ ?_
  refine G_aload_n (pc := 9) dX10_doesTenths_9 rfl ?_
  refine G_getr (pc := 10) dX10_doesTenths_10 fiX10_15 (by first | rfl | assumption) (by omega) (by first | rfl | assumption) ?_
  refine G_iload_n (pc := 13) dX10_doesTenths_13 rfl ?_
  refine G_callS1 (pc := 14) (md := mdX11_at) (av := [_, _]) dX10_doesTenths_14 lkX10_40 mwX11_at (c_atv _ 3 t _ s2 (by omega) (by omega) (by omega) (hT.2 t ht).2.1) rfl rfl (Nat.le_of_ble_eq_true rfl) (by decide) ⟨Nat.zero_le _, Nat.zero_le _⟩ ?_
  refine G_iconst (pc := 17) dX10_doesTenths_17 ?_
  refine G_callV1 (pc := 18) (md := mdX4_doing) (av := [_, _, _]) dX10_doesTenths_18 lkX10_50 mwX4_doing (c_doing 3 (C 4 t) (C 5 t) 0 (Or.inl rfl) hM hH hB hb.1 hb.2.1 (by omega)) rfl (by first | rfl | assumption) (by omega) rfl rfl (Nat.le_of_ble_eq_true rfl) (by decide) ⟨Nat.zero_le _, Nat.zero_le _⟩ ?_
  refine G_bipush (pc := 21) dX10_doesTenths_21 (by decide) ?_
  refine G_idiv (pc := 23) dX10_doesTenths_23 (Ri.mk (by omega) (by omega)) (Ri.mk (by omega) (by omega)) (by omega) ?_
  refine G_iret (pc := 24) dX10_doesTenths_24 rfl ?_
  exact ⟨by rw [show (10 : Int) = ((10 : Nat) : Int) from rfl, ← Int.ofNat_tdiv]; rfl, rfl, rfl⟩
theorem c_withoutHim {E : EV} {M : Nat} {I J : Nat → Nat → Int} {hs : HS} {C : CS} (k : Nat) (hk : isTold k) (hM : 71 ≤ M) (hH : HI I 3 hs) (hB : HB hs) (hT : TI I k C) (hTB : TB hs C) : FnF E mdX10_withoutHim 4 M Rf [vr E k, vr E 3] I J (some (vl (prodN (woT hs C) (C 3 0) : Int))) I J := by
  obtain ⟨hk60, hsh, r0, r1, r2, r3, s1, s2, s3, s4⟩ := Told_all hk
  have h8 := hTB.1
  have v4 := hT.1
  refine FnQ.of (by decide +kernel) (Nat.le_of_ble_eq_true rfl) ?_
  show GM E mdX10_withoutHim 4 M Rf _ I J 0 [some (vr E k), some (vr E 3), none, none, none] []
  have loop : ∀ (m i : Nat) (x : Int), i + m = C 3 0 → x = (prodN (woT hs C) i : Nat) → GM E mdX10_withoutHim 4 M Rf (QF (some (vl (prodN (woT hs C) (C 3 0) : Int))) I J) I J 5 [some (vr E k), some (vr E 3), some (vl x), none, some (vi (i : Int))] [] := by
    intro m
    induction m with
    | zero =>
      intro i x hi hx
      have hi : i = C 3 0 := by omega
      subst hi
      refine G_iload (pc := 5) dX10_withoutHim_5 rfl ?_
      refine G_aload_n (pc := 7) dX10_withoutHim_7 rfl ?_
      refine G_geti (pc := 8) dX10_withoutHim_8 fiX10_24 (by first | rfl | assumption) (by omega) ?_
      refine G_icmp_ge (pc := 11) (tgt := 51) dX10_withoutHim_11 (Ri.mk (by omega) (by omega)) (Ri.mk (by omega) (by omega)) (by decide) (fun h_11 => ?_) (fun h_11 => ?_)
      · refine G_lload_n (pc := 51) dX10_withoutHim_51 rfl ?_
        refine G_lret (pc := 52) dX10_withoutHim_52 rfl ?_
        exact ⟨by rw [hx], rfl, rfl⟩
      · exact absurd h_11 (by omega)
    | succ m ih =>
      intro i x hi hx
      have ht : i < C 3 0 := by omega
      have hb := hTB.2 i ht
      refine G_iload (pc := 5) dX10_withoutHim_5 rfl ?_
      refine G_aload_n (pc := 7) dX10_withoutHim_7 rfl ?_
      refine G_geti (pc := 8) dX10_withoutHim_8 fiX10_24 (by first | rfl | assumption) (by omega) ?_
      refine G_icmp_ge (pc := 11) (tgt := 51) dX10_withoutHim_11 (Ri.mk (by omega) (by omega)) (Ri.mk (by omega) (by omega)) (by decide) (fun h_11 => ?_) (fun h_11 => ?_)
      · exact absurd h_11 (by omega)
      · refine G_lload_n (pc := 14) dX10_withoutHim_14 rfl ?_
        refine G_aload_n (pc := 15) dX10_withoutHim_15 rfl ?_
        refine G_aload_n (pc := 16) dX10_withoutHim_16 rfl ?_
        refine G_iload (pc := 17) dX10_withoutHim_17 rfl ?_
        refine G_callV1 (pc := 19) (md := mdX10_doesTenths) (av := [_, _]) dX10_withoutHim_19 lkX10_36 mwX10_doesTenths (c_doesTenths k i hk hM hH hB hT hTB ht) rfl (by first | rfl | assumption) (by omega) rfl rfl (Nat.le_of_ble_eq_true rfl) (by decide) ⟨Nat.zero_le _, Nat.zero_le _⟩ ?_
        refine G_aload_n (pc := 22) dX10_withoutHim_22 rfl ?_
        refine G_getr (pc := 23) dX10_withoutHim_23 fiX10_18 (by first | rfl | assumption) (by omega) (by first | rfl | assumption) ?_
        refine G_iload (pc := 26) dX10_withoutHim_26 rfl ?_
        refine G_callS1 (pc := 28) (md := mdX11_at) (av := [_, _]) dX10_withoutHim_28 lkX10_40 mwX11_at (c_atv _ 3 i _ s3 (by omega) (by omega) (by omega) (hT.2 i ht).2.2.1) rfl rfl (Nat.le_of_ble_eq_true rfl) (by decide) ⟨Nat.zero_le _, Nat.zero_le _⟩ ?_
        refine G_aload_n (pc := 31) dX10_withoutHim_31 rfl ?_
        refine G_getr (pc := 32) dX10_withoutHim_32 fiX10_21 (by first | rfl | assumption) (by omega) (by first | rfl | assumption) ?_
        refine G_iload (pc := 35) dX10_withoutHim_35 rfl ?_
        refine G_callS1 (pc := 37) (md := mdX11_at) (av := [_, _]) dX10_withoutHim_37 lkX10_40 mwX11_at (c_atv _ 3 i _ s4 (by omega) (by omega) (by omega) (hT.2 i ht).2.2.2) rfl rfl (Nat.le_of_ble_eq_true rfl) (by decide) ⟨Nat.zero_le _, Nat.zero_le _⟩ ?_
        refine G_callS1 (pc := 40) (md := mdX10_likely) (av := [_, _, _]) dX10_withoutHim_40 lkX10_44 mwX10_likely (c_likely _ _ _ (pT_le hs C i) (by omega) (by omega)) rfl rfl (Nat.le_of_ble_eq_true rfl) (by decide) ⟨Nat.zero_le _, Nat.zero_le _⟩ ?_
        refine G_lmul (pc := 43) dX10_withoutHim_43 ?_
        refine G_lstore_n (pc := 44) (lv' := [_, _, _, _, _]) dX10_withoutHim_44 (by decide) rfl ?_
        refine G_iinc (pc := 45) (lv' := [_, _, _, _, _]) dX10_withoutHim_45 (by decide) rfl rfl ?_
        refine G_goto (pc := 48) (tgt := 5) dX10_withoutHim_48 (by decide) ?_
        exact ih (i + 1) _ (by omega) (by rw [hx, prodN, Int.natCast_mul]; rfl)
  refine G_lconst (pc := 0) dX10_withoutHim_0 ?_
  refine G_lstore_n (pc := 1) (lv' := [_, _, _, _, _]) dX10_withoutHim_1 (by decide) rfl ?_
  refine G_iconst (pc := 2) dX10_withoutHim_2 ?_
  refine G_istore (pc := 3) (lv' := [_, _, _, _, _]) dX10_withoutHim_3 (by decide) rfl ?_
  exact loop (C 3 0) 0 _ (by omega) rfl
theorem c_withHim {E : EV} {M : Nat} {I J : Nat → Nat → Int} {hs : HS} {C : CS} (k : Nat) (hk : isTold k) (hM : 71 ≤ M) (hH : HI I 3 hs) (hB : HB hs) (hT : TI I k C) (hTB : TB hs C) : FnF E mdX10_withHim 4 M Rf [vr E k, vr E 3] I J (some (vl (prodN (wiT hs C) (C 3 0) : Int))) I J := by
  obtain ⟨hk60, hsh, r0, r1, r2, r3, s1, s2, s3, s4⟩ := Told_all hk
  have h8 := hTB.1
  have v4 := hT.1
  refine FnQ.of (by decide +kernel) (Nat.le_of_ble_eq_true rfl) ?_
  show GM E mdX10_withHim 4 M Rf _ I J 0 [some (vr E k), some (vr E 3), none, none, none, none] []
  have loop : ∀ (m i : Nat) (x : Int) (y : Option Value), i + m = C 3 0 → x = (prodN (wiT hs C) i : Nat) → GM E mdX10_withHim 4 M Rf (QF (some (vl (prodN (wiT hs C) (C 3 0) : Int))) I J) I J 5 [some (vr E k), some (vr E 3), some (vl x), none, some (vi (i : Int)), y] [] := by
    intro m
    induction m with
    | zero =>
      intro i x y hi hx
      have hi : i = C 3 0 := by omega
      subst hi
      refine G_iload (pc := 5) dX10_withHim_5 rfl ?_
      refine G_aload_n (pc := 7) dX10_withHim_7 rfl ?_
      refine G_geti (pc := 8) dX10_withHim_8 fiX10_24 (by first | rfl | assumption) (by omega) ?_
      refine G_icmp_ge (pc := 11) (tgt := 72) dX10_withHim_11 (Ri.mk (by omega) (by omega)) (Ri.mk (by omega) (by omega)) (by decide) (fun h_11 => ?_) (fun h_11 => ?_)
      · refine G_lload_n (pc := 72) dX10_withHim_72 rfl ?_
        refine G_lret (pc := 73) dX10_withHim_73 rfl ?_
        exact ⟨by rw [hx], rfl, rfl⟩
      · exact absurd h_11 (by omega)
    | succ m ih =>
      intro i x y hi hx
      have ht : i < C 3 0 := by omega
      have hb := hTB.2 i ht
      refine G_iload (pc := 5) dX10_withHim_5 rfl ?_
      refine G_aload_n (pc := 7) dX10_withHim_7 rfl ?_
      refine G_geti (pc := 8) dX10_withHim_8 fiX10_24 (by first | rfl | assumption) (by omega) ?_
      refine G_icmp_ge (pc := 11) (tgt := 72) dX10_withHim_11 (Ri.mk (by omega) (by omega)) (Ri.mk (by omega) (by omega)) (by decide) (fun h_11 => ?_) (fun h_11 => ?_)
      · exact absurd h_11 (by omega)
      · refine G_aload_n (pc := 14) dX10_withHim_14 rfl ?_
        refine G_getr (pc := 15) dX10_withHim_15 fiX10_21 (by first | rfl | assumption) (by omega) (by first | rfl | assumption) ?_
        refine G_iload (pc := 18) dX10_withHim_18 rfl ?_
        refine G_callS1 (pc := 20) (md := mdX11_at) (av := [_, _]) dX10_withHim_20 lkX10_40 mwX11_at (c_atv _ 3 i _ s4 (by omega) (by omega) (by omega) (hT.2 i ht).2.2.2) rfl rfl (Nat.le_of_ble_eq_true rfl) (by decide) ⟨Nat.zero_le _, Nat.zero_le _⟩ ?_
        refine G_istore (pc := 23) (lv' := [_, _, _, _, _, _]) dX10_withHim_23 (by decide) rfl ?_
        refine G_lload_n (pc := 25) dX10_withHim_25 rfl ?_
        refine G_iload (pc := 26) dX10_withHim_26 rfl ?_
        refine G_if_ne (pc := 28) (tgt := 35) dX10_withHim_28 (Ri.mk (by omega) (by omega)) (by decide) (fun h_28 => ?_) (fun h_28 => ?_)
        · try simp only [bI_eq0, bI_ne0] at h_28
          refine G_ldc2 (pc := 35) dX10_withHim_35 klX10_48 ?_
          refine G_aload_n (pc := 38) dX10_withHim_38 rfl ?_
          refine G_aload_n (pc := 39) dX10_withHim_39 rfl ?_
          refine G_iload (pc := 40) dX10_withHim_40 rfl ?_
          refine G_callV1 (pc := 42) (md := mdX10_doesTenths) (av := [_, _]) dX10_withHim_42 lkX10_36 mwX10_doesTenths (c_doesTenths k i hk hM hH hB hT hTB ht) rfl (by first | rfl | assumption) (by omega) rfl rfl (Nat.le_of_ble_eq_true rfl) (by decide) ⟨Nat.zero_le _, Nat.zero_le _⟩ ?_
          refine G_aload_n (pc := 45) dX10_withHim_45 rfl ?_
          refine G_getr (pc := 46) dX10_withHim_46 fiX10_18 (by first | rfl | assumption) (by omega) (by first | rfl | assumption) ?_
          refine G_iload (pc := 49) dX10_withHim_49 rfl ?_
          refine G_callS1 (pc := 51) (md := mdX11_at) (av := [_, _]) dX10_withHim_51 lkX10_40 mwX11_at (c_atv _ 3 i _ s3 (by omega) (by omega) (by omega) (hT.2 i ht).2.2.1) rfl rfl (Nat.le_of_ble_eq_true rfl) (by decide) ⟨Nat.zero_le _, Nat.zero_le _⟩ ?_
          refine G_iconst (pc := 54) dX10_withHim_54 ?_
          refine G_isub (pc := 55) dX10_withHim_55 ?_
          refine G_iload (pc := 56) dX10_withHim_56 rfl ?_
          refine G_iconst (pc := 58) dX10_withHim_58 ?_
          refine G_isub (pc := 59) dX10_withHim_59 ?_
          refine G_callS1 (pc := 60) (md := mdX10_likely) (av := [_, _, _]) dX10_withHim_60 lkX10_44 mwX10_likely (FnQ.av (by rw [Int.ofNat_sub (show 1 ≤ C 6 i by omega), Int.ofNat_sub (show 1 ≤ C 7 i by omega)]; rfl) (c_likely (pT hs C i) (C 6 i - 1) (C 7 i - 1) (pT_le hs C i) (by omega) (by omega))) rfl rfl (Nat.le_of_ble_eq_true rfl) (by decide) ⟨Nat.zero_le _, Nat.zero_le _⟩ ?_
          refine G_lmul (pc := 63) dX10_withHim_63 ?_
          refine G_lmul (pc := 64) dX10_withHim_64 ?_
          refine G_lstore_n (pc := 65) (lv' := [_, _, _, _, _, _]) dX10_withHim_65 (by decide) rfl ?_
          refine G_iinc (pc := 66) (lv' := [_, _, _, _, _, _]) dX10_withHim_66 (by decide) rfl rfl ?_
          refine G_goto (pc := 69) (tgt := 5) dX10_withHim_69 (by decide) ?_
          exact ih (i + 1) _ _ (by omega) (by rw [hx, prodN, Int.natCast_mul]; first | rw [wiT, if_pos (by omega)]; rfl | rw [wiT, if_neg (by omega), Int.natCast_mul]; rfl)
        · try simp only [bI_eq0, bI_ne0] at h_28
          refine G_lconst (pc := 31) dX10_withHim_31 ?_
          refine G_goto (pc := 32) (tgt := 64) dX10_withHim_32 (by decide) ?_
          refine G_lmul (pc := 64) dX10_withHim_64 ?_
          refine G_lstore_n (pc := 65) (lv' := [_, _, _, _, _, _]) dX10_withHim_65 (by decide) rfl ?_
          refine G_iinc (pc := 66) (lv' := [_, _, _, _, _, _]) dX10_withHim_66 (by decide) rfl rfl ?_
          refine G_goto (pc := 69) (tgt := 5) dX10_withHim_69 (by decide) ?_
          exact ih (i + 1) _ _ (by omega) (by rw [hx, prodN, Int.natCast_mul]; first | rw [wiT, if_pos (by omega)]; rfl | rw [wiT, if_neg (by omega), Int.natCast_mul]; rfl)
  refine G_lconst (pc := 0) dX10_withHim_0 ?_
  refine G_lstore_n (pc := 1) (lv' := [_, _, _, _, _, _]) dX10_withHim_1 (by decide) rfl ?_
  refine G_iconst (pc := 2) dX10_withHim_2 ?_
  refine G_istore (pc := 3) (lv' := [_, _, _, _, _, _]) dX10_withHim_3 (by decide) rfl ?_
  exact loop (C 3 0) 0 _ _ (by omega) rfl
/-! TEXT and FRACTION -/
def XI (I : Nat → Nat → Int) (n : Nat) (tx : Nat → Int) : Prop := I 1 1 = n ∧ ∀ i, i < n → I 2 i = tx i
theorem XI.off {I I' : Nat → Nat → Int} {n : Nat} {tx : Nat → Int} (h : XI I n tx) (h1 : I' 1 = I 1) (h2 : I' 2 = I 2) : XI I' n tx := ⟨by rw [h1]; exact h.1, fun i hi => by rw [h2]; exact h.2 i hi⟩
theorem c_Xadd {E : EV} {M : Nat} {I J : Nat → Nat → Int} {n : Nat} {tx : Nat → Int} (b : Int) (hM : 71 ≤ M) (hX : XI I n tx) (hn : n < 400) (hb : -128 ≤ b ∧ b < 128) : FnF E mdX9_add 0 M Rf [vr E 1, vi b] I J none (wr (wr I 2 n b) 1 1 ((n + 1 : Nat) : Int)) J := by
  have v1 := hX.1
  refine FnQ.of (by decide +kernel) (Nat.le_of_ble_eq_true rfl) ?_
  show GM E mdX9_add 0 M Rf _ I J 0 [some (vr E 1), some (vi b)] []
  refine G_aload_n (pc := 0) dX9_add_0 rfl ?_
  refine G_geti (pc := 1) dX9_add_1 fiX9_15 (by first | rfl | assumption) (by omega) ?_
  refine G_if_lt (pc := 4) (tgt := 39) dX9_add_4 (Ri.mk (by omega) (by omega)) (by decide) (fun h_4 => ?_) (fun h_4 => ?_)
  · exact absurd h_4 (by omega)
  · refine G_aload_n (pc := 7) dX9_add_7 rfl ?_
    refine G_geti (pc := 8) dX9_add_8 fiX9_15 (by first | rfl | assumption) (by omega) ?_
    refine G_aload_n (pc := 11) dX9_add_11 rfl ?_
    refine G_getr (pc := 12) dX9_add_12 fiX9_9 (by first | rfl | assumption) (by omega) (by first | rfl | assumption) ?_
    refine G_alen (pc := 15) dX9_add_15 (by first | rfl | assumption) (by decide) (by omega) ?_
    refine G_icmp_ge (pc := 16) (tgt := 39) dX9_add_16 (Ri.mk (by omega) (by omega)) (Ri.mk (by omega) (by omega)) (by decide) (fun h_16 => ?_) (fun h_16 => ?_)
    · exact absurd h_16 (by omega)
    · refine G_aload_n (pc := 19) dX9_add_19 rfl ?_
      refine G_getr (pc := 20) dX9_add_20 fiX9_9 (by first | rfl | assumption) (by omega) (by first | rfl | assumption) ?_
      refine G_aload_n (pc := 23) dX9_add_23 rfl ?_
      refine G_geti (pc := 24) dX9_add_24 fiX9_15 (by first | rfl | assumption) (by omega) ?_
      refine G_iload_n (pc := 27) dX9_add_27 rfl ?_
      refine G_bast (pc := 28) dX9_add_28 (by first | rfl | assumption) (by omega) (by omega) (by omega) (by omega) hb ?_
      refine G_aload_n (pc := 29) dX9_add_29 rfl ?_
      refine G_dup (pc := 30) dX9_add_30 rfl ?_
      refine G_geti (pc := 31) dX9_add_31 fiX9_15 (by first | rfl | assumption) (by omega) ?_
      refine G_iconst (pc := 34) dX9_add_34 ?_
      refine G_iadd (pc := 35) dX9_add_35 ?_
      refine G_puti (pc := 36) dX9_add_36 fiX9_15 (by first | rfl | assumption) (by omega) ?_
      refine G_vret (pc := 39) dX9_add_39 rfl ?_
      exact ⟨rfl, by rw [v1, Int.toNat_natCast]; congr 1; rw [wr_o (by omega), v1]; rfl, rfl⟩
theorem c_byteAt {E : EV} {M : Nat} {I J : Nat → Nat → Int} {n : Nat} {tx : Nat → Int} (a : Int) (hM : 71 ≤ M) (hX : XI I n tx) (hn : n ≤ 400) (ha : Ri a) : FnF E mdX9_byteAt 0 M Rf [vr E 1, vi a] I J (some (vi (if 0 ≤ a ∧ a < n then tx a.toNat else 0))) I J := by
  have v1 := hX.1
  refine FnQ.of (by decide +kernel) (Nat.le_of_ble_eq_true rfl) ?_
  show GM E mdX9_byteAt 0 M Rf _ I J 0 [some (vr E 1), some (vi a)] []
  refine G_iload_n (pc := 0) dX9_byteAt_0 rfl ?_
  refine G_if_lt (pc := 1) (tgt := 30) dX9_byteAt_1 ha (by decide) (fun h_1 => ?_) (fun h_1 => ?_)
  · refine G_iconst (pc := 30) dX9_byteAt_30 ?_
    refine G_iret (pc := 31) dX9_byteAt_31 rfl ?_
    exact ⟨by first | rw [if_pos (by omega), hX.2 _ (by omega)] | rw [if_neg (by omega)], rfl, rfl⟩
  · refine G_iload_n (pc := 4) dX9_byteAt_4 rfl ?_
    refine G_aload_n (pc := 5) dX9_byteAt_5 rfl ?_
    refine G_geti (pc := 6) dX9_byteAt_6 fiX9_15 (by first | rfl | assumption) (by omega) ?_
    refine G_icmp_ge (pc := 9) (tgt := 30) dX9_byteAt_9 ha (Ri.mk (by omega) (by omega)) (by decide) (fun h_9 => ?_) (fun h_9 => ?_)
    · refine G_iconst (pc := 30) dX9_byteAt_30 ?_
      refine G_iret (pc := 31) dX9_byteAt_31 rfl ?_
      exact ⟨by first | rw [if_pos (by omega), hX.2 _ (by omega)] | rw [if_neg (by omega)], rfl, rfl⟩
    · refine G_iload_n (pc := 12) dX9_byteAt_12 rfl ?_
      refine G_aload_n (pc := 13) dX9_byteAt_13 rfl ?_
      refine G_getr (pc := 14) dX9_byteAt_14 fiX9_9 (by first | rfl | assumption) (by omega) (by first | rfl | assumption) ?_
      refine G_alen (pc := 17) dX9_byteAt_17 (by first | rfl | assumption) (by decide) (by omega) ?_
      refine G_icmp_ge (pc := 18) (tgt := 30) dX9_byteAt_18 ha (Ri.mk (by omega) (by omega)) (by decide) (fun h_18 => ?_) (fun h_18 => ?_)
      · refine G_iconst (pc := 30) dX9_byteAt_30 ?_
        refine G_iret (pc := 31) dX9_byteAt_31 rfl ?_
        exact ⟨by first | rw [if_pos (by omega), hX.2 _ (by omega)] | rw [if_neg (by omega)], rfl, rfl⟩
      · refine G_aload_n (pc := 21) dX9_byteAt_21 rfl ?_
        refine G_getr (pc := 22) dX9_byteAt_22 fiX9_9 (by first | rfl | assumption) (by omega) (by first | rfl | assumption) ?_
        refine G_iload_n (pc := 25) dX9_byteAt_25 rfl ?_
        refine G_bald (pc := 26) dX9_byteAt_26 (by first | rfl | assumption) (by omega) (by omega) (by omega) (by omega) ?_
        refine G_goto (pc := 27) (tgt := 31) dX9_byteAt_27 (by decide) ?_
        refine G_iret (pc := 31) dX9_byteAt_31 rfl ?_
        exact ⟨by first | rw [if_pos (by omega), hX.2 _ (by omega)] | rw [if_neg (by omega)], rfl, rfl⟩
def Eu : Nat → Nat → Nat → Prop
  | 0, _, y => y = 0
  | k + 1, x, y => y = 0 ∨ Eu k y (x % y)
theorem Eu_pow : ∀ (m x y : Nat), y < 2 ^ m → Eu (2 * m) x y
  | 0, x, y, h => by simp at h; exact h
  | m + 1, x, y, h => by
    show y = 0 ∨ Eu (2 * m + 1) y (x % y)
    rcases Nat.eq_zero_or_pos y with h0 | h0
    · exact Or.inl h0
    right
    show x % y = 0 ∨ Eu (2 * m) (x % y) (y % (x % y))
    rcases Nat.eq_zero_or_pos (x % y) with h1 | h1
    · exact Or.inl h1
    right
    refine Eu_pow m _ _ ?_
    have h2 := Nat.mod_lt x h0
    have h3 := Nat.mod_lt y h1
    have h4 : y % (x % y) + (x % y) ≤ y := by
      have h5 := Nat.div_add_mod y (x % y)
      have h6 : 1 ≤ y / (x % y) := Nat.div_pos (by omega) h1
      have h7 := Nat.mul_le_mul_left (x % y) h6
      omega
    rw [Nat.pow_succ] at h
    omega
theorem c_commonDivisor {E : EV} {M : Nat} {R : Nat → Nat → Option Nat} {I J : Nat → Nat → Int} (a b : Nat) (ha : a < 4611686018427387904) (hb : b < 4611686018427387904) : FnF E mdX3_commonDivisor 0 M R [vl (a : Int), vl (b : Int)] I J (some (vl (Nat.gcd a b : Int))) I J := by
  refine FnQ.of (by decide +kernel) (Nat.le_of_ble_eq_true rfl) ?_
  show GM E mdX3_commonDivisor 0 M R _ I J 0 [some (vl (a : Int)), none, some (vl (b : Int)), none, none, none, none, none, none, none, none] []
  have loop : ∀ (k i x y : Nat) (w : Option Value), Eu k x y → i + k ≤ 1000 → x < 4611686018427387904 → y < 4611686018427387904 → Nat.gcd x y = Nat.gcd a b → GM E mdX3_commonDivisor 0 M R (QF (some (vl (Nat.gcd a b : Int))) I J) I J 9 [some (vl (a : Int)), none, some (vl (b : Int)), none, some (vl (x : Int)), none, some (vl (y : Int)), none, some (vi (i : Int)), w, none] [] := by
    intro k
    induction k with
    | zero =>
      intro i x y w he hk hx hy hg
      have he : y = 0 := he
      subst he
      refine G_iload (pc := 9) dX3_commonDivisor_9 rfl ?_
      refine G_sipush (pc := 11) dX3_commonDivisor_11 (by decide) ?_
      refine G_icmp_ge (pc := 14) (tgt := 45) dX3_commonDivisor_14 (Ri.mk (by omega) (by omega)) (Ri.mk (by omega) (by omega)) (by decide) (fun h_14 => ?_) (fun h_14 => ?_)
      · refine G_lload (pc := 45) dX3_commonDivisor_45 rfl ?_
        refine G_lret (pc := 47) dX3_commonDivisor_47 rfl ?_
        exact ⟨by rw [← hg, Nat.gcd_zero_right], rfl, rfl⟩
      · refine G_lload (pc := 17) dX3_commonDivisor_17 rfl ?_
        refine G_lconst (pc := 19) dX3_commonDivisor_19 ?_
        refine G_lc_eq (pc := 20) (tgt := 45) dX3_commonDivisor_20 dX3_commonDivisor_21 (Rl.mk (by omega) (by omega)) (Rl.mk (by omega) (by omega)) (by decide) (fun h_20 => ?_) (fun h_20 => ?_)
        · refine G_lload (pc := 45) dX3_commonDivisor_45 rfl ?_
          refine G_lret (pc := 47) dX3_commonDivisor_47 rfl ?_
          exact ⟨by rw [← hg, Nat.gcd_zero_right], rfl, rfl⟩
        · exact absurd rfl h_20
    | succ k ih =>
      intro i x y w he hk hx hy hg
      refine G_iload (pc := 9) dX3_commonDivisor_9 rfl ?_
      refine G_sipush (pc := 11) dX3_commonDivisor_11 (by decide) ?_
      refine G_icmp_ge (pc := 14) (tgt := 45) dX3_commonDivisor_14 (Ri.mk (by omega) (by omega)) (Ri.mk (by omega) (by omega)) (by decide) (fun h_14 => ?_) (fun h_14 => ?_)
      · exact absurd h_14 (by omega)
      · refine G_lload (pc := 17) dX3_commonDivisor_17 rfl ?_
        refine G_lconst (pc := 19) dX3_commonDivisor_19 ?_
        refine G_lc_eq (pc := 20) (tgt := 45) dX3_commonDivisor_20 dX3_commonDivisor_21 (Rl.mk (by omega) (by omega)) (Rl.mk (by omega) (by omega)) (by decide) (fun h_20 => ?_) (fun h_20 => ?_)
        · refine G_lload (pc := 45) dX3_commonDivisor_45 rfl ?_
          refine G_lret (pc := 47) dX3_commonDivisor_47 rfl ?_
          exact ⟨by rw [← hg, show y = 0 by omega, Nat.gcd_zero_right], rfl, rfl⟩
        · refine G_lload (pc := 24) dX3_commonDivisor_24 rfl ?_
          refine G_lload (pc := 26) dX3_commonDivisor_26 rfl ?_
          refine G_lrem (pc := 28) dX3_commonDivisor_28 (Rl.mk (by omega) (by omega)) (Rl.mk (by omega) (by omega)) (by omega) ?_
          refine G_lstore (pc := 29) (lv' := [_, _, _, _, _, _, _, _, _, _, _]) dX3_commonDivisor_29 (by decide) rfl ?_
          refine G_lload (pc := 31) dX3_commonDivisor_31 rfl ?_
          refine G_lstore (pc := 33) (lv' := [_, _, _, _, _, _, _, _, _, _, _]) dX3_commonDivisor_33 (by decide) rfl ?_
          refine G_lload (pc := 35) dX3_commonDivisor_35 rfl ?_
          refine G_lstore (pc := 37) (lv' := [_, _, _, _, _, _, _, _, _, _, _]) dX3_commonDivisor_37 (by decide) rfl ?_
          refine G_iinc (pc := 39) (lv' := [_, _, _, _, _, _, _, _, _, _, _]) dX3_commonDivisor_39 (by decide) rfl rfl ?_
          refine G_goto (pc := 42) (tgt := 9) dX3_commonDivisor_42 (by decide) ?_
          have hy0 : y ≠ 0 := by omega
          have he2 : Eu k y (x % y) := he.resolve_left hy0
          have hlt := Nat.mod_lt x (Nat.pos_of_ne_zero hy0)
          exact ih (i + 1) y (x % y) (some (vl ((x % y : Nat) : Int))) he2 (by omega) hy (by omega) (by rw [← hg, Nat.gcd_comm x y, Nat.gcd_rec y x, Nat.gcd_comm])
  refine G_lload_n (pc := 0) dX3_commonDivisor_0 rfl ?_
  refine G_lstore (pc := 1) (lv' := [_, _, _, _, _, _, _, _, _, _, _]) dX3_commonDivisor_1 (by decide) rfl ?_
  refine G_lload_n (pc := 3) dX3_commonDivisor_3 rfl ?_
  refine G_lstore (pc := 4) (lv' := [_, _, _, _, _, _, _, _, _, _, _]) dX3_commonDivisor_4 (by decide) rfl ?_
  refine G_iconst (pc := 6) dX3_commonDivisor_6 ?_
  refine G_istore (pc := 7) (lv' := [_, _, _, _, _, _, _, _, _, _, _]) dX3_commonDivisor_7 (by decide) rfl ?_
  exact loop 124 0 a b _ (Eu_pow 62 a b hb) (by omega) ha hb rfl
theorem c_Fset {E : EV} {M : Nat} {I J : Nat → Nat → Int} (a b : Nat) (hM : 71 ≤ M) (ha : a < 4611686018427387904) (hb : b < 4611686018427387904) : FnF E mdX3_set 1 M Rf [vr E 66, vl (a : Int), vl (b : Int)] I J none I (wr (wr J 66 0 ((a / Nat.gcd a b : Nat) : Int)) 66 1 ((b / Nat.gcd a b : Nat) : Int)) := by
  have hg : Nat.gcd a b < 4611686018427387904 := by
    rcases Nat.eq_zero_or_pos a with h | h
    · rw [h, Nat.gcd_zero_left]; exact hb
    · exact Nat.lt_of_le_of_lt (Nat.gcd_le_left b h) ha
  refine FnQ.of (by decide +kernel) (Nat.le_of_ble_eq_true rfl) ?_
  show GM E mdX3_set 1 M Rf _ I J 0 [some (vr E 66), some (vl (a : Int)), none, some (vl (b : Int)), none, none, none] []

  refine G_lload_n (pc := 0) dX3_set_0 rfl ?_
  refine G_lload_n (pc := 1) dX3_set_1 rfl ?_
  refine G_callS1 (pc := 2) (md := mdX3_commonDivisor) (av := [_, _]) dX3_set_2 lkX3_9 mwX3_commonDivisor (c_commonDivisor a b ha hb) rfl rfl (Nat.le_of_ble_eq_true rfl) (by decide) ⟨Nat.zero_le _, Nat.zero_le _⟩ ?_
  refine G_lstore (pc := 5) (lv' := [_, _, _, _, _, _, _]) dX3_set_5 (by decide) rfl ?_
  refine G_aload_n (pc := 7) dX3_set_7 rfl ?_
  refine G_lload (pc := 8) dX3_set_8 rfl ?_
  refine G_lconst (pc := 10) dX3_set_10 ?_
  refine G_lc_ne (pc := 11) (tgt := 19) dX3_set_11 dX3_set_12 (Rl.mk (by omega) (by omega)) (Rl.mk (by omega) (by omega)) (by decide) (fun h_11 => ?_) (fun h_11 => ?_)
  · refine G_lload_n (pc := 19) dX3_set_19 rfl ?_
    refine G_lload (pc := 20) dX3_set_20 rfl ?_
    refine G_ldiv (pc := 22) dX3_set_22 (Rl.mk (by omega) (by omega)) (Rl.mk (by omega) (by omega)) (by omega) ?_
    refine G_putl (pc := 23) dX3_set_23 fiX3_15 (by first | rfl | assumption) (by omega) ?_
    refine G_aload_n (pc := 26) dX3_set_26 rfl ?_
    refine G_lload (pc := 27) dX3_set_27 rfl ?_
    refine G_lconst (pc := 29) dX3_set_29 ?_
    refine G_lc_ne (pc := 30) (tgt := 38) dX3_set_30 dX3_set_31 (Rl.mk (by omega) (by omega)) (Rl.mk (by omega) (by omega)) (by decide) (fun h_30 => ?_) (fun h_30 => ?_)
    · refine G_lload_n (pc := 38) dX3_set_38 rfl ?_
      refine G_lload (pc := 39) dX3_set_39 rfl ?_
      refine G_ldiv (pc := 41) dX3_set_41 (Rl.mk (by omega) (by omega)) (Rl.mk (by omega) (by omega)) (by omega) ?_
      refine G_putl (pc := 42) dX3_set_42 fiX3_19 (by first | rfl | assumption) (by omega) ?_
      refine G_vret (pc := 45) dX3_set_45 rfl ?_
      refine ⟨rfl, rfl, ?_⟩
      first
        | (exfalso; omega)
        | (have e : Nat.gcd a b = 0 := by omega
           rw [e, Nat.div_zero, Nat.div_zero]; rfl)
        | (rw [Int.ofNat_tdiv, Int.ofNat_tdiv])
    · refine G_lconst (pc := 34) dX3_set_34 ?_
      refine G_goto (pc := 35) (tgt := 42) dX3_set_35 (by decide) ?_
      refine G_putl (pc := 42) dX3_set_42 fiX3_19 (by first | rfl | assumption) (by omega) ?_
      refine G_vret (pc := 45) dX3_set_45 rfl ?_
      refine ⟨rfl, rfl, ?_⟩
      first
        | (exfalso; omega)
        | (have e : Nat.gcd a b = 0 := by omega
           rw [e, Nat.div_zero, Nat.div_zero]; rfl)
        | (rw [Int.ofNat_tdiv, Int.ofNat_tdiv])
  · refine G_lconst (pc := 15) dX3_set_15 ?_
    refine G_goto (pc := 16) (tgt := 23) dX3_set_16 (by decide) ?_
    refine G_putl (pc := 23) dX3_set_23 fiX3_15 (by first | rfl | assumption) (by omega) ?_
    refine G_aload_n (pc := 26) dX3_set_26 rfl ?_
    refine G_lload (pc := 27) dX3_set_27 rfl ?_
    refine G_lconst (pc := 29) dX3_set_29 ?_
    refine G_lc_ne (pc := 30) (tgt := 38) dX3_set_30 dX3_set_31 (Rl.mk (by omega) (by omega)) (Rl.mk (by omega) (by omega)) (by decide) (fun h_30 => ?_) (fun h_30 => ?_)
    · refine G_lload_n (pc := 38) dX3_set_38 rfl ?_
      refine G_lload (pc := 39) dX3_set_39 rfl ?_
      refine G_ldiv (pc := 41) dX3_set_41 (Rl.mk (by omega) (by omega)) (Rl.mk (by omega) (by omega)) (by omega) ?_
      refine G_putl (pc := 42) dX3_set_42 fiX3_19 (by first | rfl | assumption) (by omega) ?_
      refine G_vret (pc := 45) dX3_set_45 rfl ?_
      refine ⟨rfl, rfl, ?_⟩
      first
        | (exfalso; omega)
        | (have e : Nat.gcd a b = 0 := by omega
           rw [e, Nat.div_zero, Nat.div_zero]; rfl)
        | (rw [Int.ofNat_tdiv, Int.ofNat_tdiv])
    · refine G_lconst (pc := 34) dX3_set_34 ?_
      refine G_goto (pc := 35) (tgt := 42) dX3_set_35 (by decide) ?_
      refine G_putl (pc := 42) dX3_set_42 fiX3_19 (by first | rfl | assumption) (by omega) ?_
      refine G_vret (pc := 45) dX3_set_45 rfl ?_
      refine ⟨rfl, rfl, ?_⟩
      first
        | (exfalso; omega)
        | (have e : Nat.gcd a b = 0 := by omega
           rw [e, Nat.div_zero, Nat.div_zero]; rfl)
        | (rw [Int.ofNat_tdiv, Int.ofNat_tdiv])
theorem c_part {E : EV} {M : Nat} {I J : Nat → Nat → Int} (x y a : Int) (hM : 71 ≤ M) (hx : J 66 0 = x) (hy : J 66 1 = y) (ry : Rl y) (ha : Ri a) : FnF E mdX3_part 0 M Rf [vr E 66, vi a] I J (some (vl (if y = 0 then -4 else if a = 0 then x else y))) I J := by
  refine FnQ.of (by decide +kernel) (Nat.le_of_ble_eq_true rfl) ?_
  show GM E mdX3_part 0 M Rf _ I J 0 [some (vr E 66), some (vi a)] []
  refine G_aload_n (pc := 0) dX3_part_0 rfl ?_
  refine G_getl (pc := 1) dX3_part_1 fiX3_19 (by first | rfl | assumption) (by omega) ?_
  refine G_lconst (pc := 4) dX3_part_4 ?_
  refine G_lc_ne (pc := 5) (tgt := 13) dX3_part_5 dX3_part_6 (by rw [hy]; exact ry) (Rl.mk (by omega) (by omega)) (by decide) (fun h_5 => ?_) (fun h_5 => ?_)
  · refine G_iload_n (pc := 13) dX3_part_13 rfl ?_
    refine G_if_ne (pc := 14) (tgt := 24) dX3_part_14 ha (by decide) (fun h_14 => ?_) (fun h_14 => ?_)
    · try simp only [bI_eq0, bI_ne0] at h_14
      refine G_aload_n (pc := 24) dX3_part_24 rfl ?_
      refine G_getl (pc := 25) dX3_part_25 fiX3_19 (by first | rfl | assumption) (by omega) ?_
      refine G_lret (pc := 28) dX3_part_28 rfl ?_
      exact ⟨by subst hy; subst hx; first | rw [if_pos (by omega)] | rw [if_neg (by omega), if_pos (by omega)] | rw [if_neg (by omega), if_neg (by omega)], rfl, rfl⟩
    · try simp only [bI_eq0, bI_ne0] at h_14
      refine G_aload_n (pc := 17) dX3_part_17 rfl ?_
      refine G_getl (pc := 18) dX3_part_18 fiX3_15 (by first | rfl | assumption) (by omega) ?_
      refine G_goto (pc := 21) (tgt := 28) dX3_part_21 (by decide) ?_
      refine G_lret (pc := 28) dX3_part_28 rfl ?_
      exact ⟨by subst hy; subst hx; first | rw [if_pos (by omega)] | rw [if_neg (by omega), if_pos (by omega)] | rw [if_neg (by omega), if_neg (by omega)], rfl, rfl⟩
  · refine G_ldc2 (pc := 9) dX3_part_9 klX3_22 ?_
    refine G_lret (pc := 12) dX3_part_12 rfl ?_
    exact ⟨by subst hy; subst hx; first | rw [if_pos (by omega)] | rw [if_neg (by omega), if_pos (by omega)] | rw [if_neg (by omega), if_neg (by omega)], rfl, rfl⟩
