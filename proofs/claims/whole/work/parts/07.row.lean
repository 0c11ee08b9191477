/-! ROW and TOLD -/
def isRow (k : Nat) : Prop := k = 13 ∨ k = 30 ∨ k = 36 ∨ k = 45 ∨ k = 57 ∨ k = 60
def isTold (k : Nat) : Prop := k = 16 ∨ k = 39 ∨ k = 48
theorem Row_all {k : Nat} (h : isRow k) : k < 61 ∧ shp k = .inl 7 ∧ Rf k 0 = some (k + 1) ∧ Rf k 1 = some (k + 2) ∧ shp (k + 1) = .inr (0, 8) ∧ shp (k + 2) = .inr (0, 8) := by
  rcases h with rfl | rfl | rfl | rfl | rfl | rfl <;> exact ⟨by decide, rfl, rfl, rfl, rfl, rfl⟩
theorem Told_all {k : Nat} (h : isTold k) : k < 49 ∧ shp k = .inl 10 ∧ Rf k 0 = some (k + 1) ∧ Rf k 1 = some (k + 2) ∧ Rf k 2 = some (k + 3) ∧ Rf k 3 = some (k + 4) ∧ shp (k + 1) = .inr (0, 3) ∧ shp (k + 2) = .inr (0, 3) ∧ shp (k + 3) = .inr (0, 3) ∧ shp (k + 4) = .inr (0, 3) := by
  rcases h with rfl | rfl | rfl <;> exact ⟨by decide, rfl, rfl, rfl, rfl, rfl, rfl, rfl, rfl, rfl⟩
theorem c_Radd {E : EV} {M : Nat} {I J : Nat → Nat → Int} {C : CS} (k a b : Nat) (hk : isRow k) (hM : 71 ≤ M) (hR : RI I k C) (h8 : C 0 0 ≤ 8) : FnQ E mdX7_add 1 M Rf [vr E k, vi (a : Int), vi (b : Int)] I J (fun v I' J' => J' = J ∧ ((C 0 0 < 8 ∧ v = some (vi 1) ∧ RI I' k (addR C a b) ∧ Off I I' k (k + 2)) ∨ (C 0 0 = 8 ∧ v = some (vi 0) ∧ I' = I))) := by
  obtain ⟨hk60, hsh, r0, r1, s1, s2⟩ := Row_all hk
  have v2 := hR.1
  refine FnQ.of (by decide +kernel) (Nat.le_of_ble_eq_true rfl) ?_
  show GM E mdX7_add 1 M Rf _ I J 0 [some (vr E k), some (vi (a : Int)), some (vi (b : Int))] []
  refine G_aload_n (pc := 0) dX7_add_0 rfl ?_
  refine G_geti (pc := 1) dX7_add_1 fiX7_18 (by first | rfl | assumption) (by omega) ?_
  refine G_bipush (pc := 4) dX7_add_4 (by decide) ?_
  refine G_icmp_lt (pc := 6) (tgt := 11) dX7_add_6 (Ri.mk (by omega) (by omega)) (Ri.mk (by omega) (by omega)) (by decide) (fun h_6 => ?_) (fun h_6 => ?_)
  · refine G_aload_n (pc := 11) dX7_add_11 rfl ?_
    refine G_getr (pc := 12) dX7_add_12 fiX7_9 (by first | rfl | assumption) (by omega) (by first | rfl | assumption) ?_
    refine G_aload_n (pc := 15) dX7_add_15 rfl ?_
    refine G_geti (pc := 16) dX7_add_16 fiX7_18 (by first | rfl | assumption) (by omega) ?_
    refine G_iload_n (pc := 19) dX7_add_19 rfl ?_
    refine G_callS0 (pc := 20) (md := mdX11_put) (av := [_, _, _]) dX7_add_20 lkX7_22 mwX11_put (c_put _ 8 (C 0 0) _ _ s1 (by omega) (by omega) (by omega) v2) rfl rfl (Nat.le_of_ble_eq_true rfl) (by decide) ⟨Nat.zero_le _, Nat.zero_le _⟩ ?_
    refine G_aload_n (pc := 23) dX7_add_23 rfl ?_
    refine G_getr (pc := 24) dX7_add_24 fiX7_15 (by first | rfl | assumption) (by omega) (by first | rfl | assumption) ?_
    refine G_aload_n (pc := 27) dX7_add_27 rfl ?_
    refine G_geti (pc := 28) dX7_add_28 fiX7_18 (by first | rfl | assumption) (by omega) ?_
    refine G_iload_n (pc := 31) dX7_add_31 rfl ?_
    refine G_callS0 (pc := 32) (md := mdX11_put) (av := [_, _, _]) dX7_add_32 lkX7_22 mwX11_put (c_put _ 8 (C 0 0) _ _ s2 (by omega) (by omega) (by omega) (by simp (disch := omega) only [wr_o]; exact v2)) rfl rfl (Nat.le_of_ble_eq_true rfl) (by decide) ⟨Nat.zero_le _, Nat.zero_le _⟩ ?_
    refine G_aload_n (pc := 35) dX7_add_35 rfl ?_
    refine G_dup (pc := 36) dX7_add_36 rfl ?_
    refine G_geti (pc := 37) dX7_add_37 fiX7_18 (by first | rfl | assumption) (by omega) ?_
    refine G_iconst (pc := 40) dX7_add_40 ?_
    refine G_iadd (pc := 41) dX7_add_41 ?_
    refine G_puti (pc := 42) dX7_add_42 fiX7_18 (by first | rfl | assumption) (by omega) ?_
    refine G_iconst (pc := 45) dX7_add_45 ?_
    refine G_zret (pc := 46) dX7_add_46 rfl (by omega) ?_
    refine ⟨rfl, Or.inl ⟨by omega, rfl, ⟨?_, fun t ht => ?_⟩, ?_⟩⟩
    · simp (disch := omega) only [wr_n, wr_s, wr_o]; rw [v2]; simp [addR]
    · have ht2 : t < C 0 0 + 1 := ht
      by_cases e : t = C 0 0
      · subst e; simp (disch := omega) only [wr_n, wr_s, wr_o]; simp [addR]
      · have := hR.2 t (by omega)
        simp (disch := omega) only [wr_n, wr_s, wr_o]; rw [this.1, this.2]; simp [addR, e]
    · intro q hq
      simp (disch := omega) only [wr_o]
  · refine G_iconst (pc := 9) dX7_add_9 ?_
    refine G_zret (pc := 10) dX7_add_10 rfl (by omega) ?_
    exact ⟨rfl, Or.inr ⟨by omega, rfl, rfl⟩⟩
theorem c_Rcopy {E : EV} {M : Nat} {I J : Nat → Nat → Int} {C : CS} (k r : Nat) (hk : isRow k) (hr : isRow r) (hne : k ≠ r) (hM : 71 ≤ M) (hR : RI I r C) (h8 : C 0 0 ≤ 8) : FnQ E mdX7_copy 2 M Rf [vr E k, vr E r] I J (fun v I' J' => v = none ∧ J' = J ∧ RI I' k C ∧ Off I I' k (k + 2)) := by
  obtain ⟨hk60, hsh, r0, r1, s1, s2⟩ := Row_all hk
  obtain ⟨hk602, hsh2, r02, r12, s12, s22⟩ := Row_all hr
  have hfar : k + 2 < r ∨ r + 2 < k := by
    rcases hk with rfl | rfl | rfl | rfl | rfl | rfl <;> rcases hr with rfl | rfl | rfl | rfl | rfl | rfl <;> omega
  refine FnQ.of (by decide +kernel) (Nat.le_of_ble_eq_true rfl) ?_
  show GM E mdX7_copy 2 M Rf _ I J 0 [some (vr E k), some (vr E r)] []
  refine G_aload_n (pc := 0) dX7_copy_0 rfl ?_
  refine G_getr (pc := 1) dX7_copy_1 fiX7_9 (by first | rfl | assumption) (by omega) (by first | rfl | assumption) ?_
  refine G_aload_n (pc := 4) dX7_copy_4 rfl ?_
  refine G_getr (pc := 5) dX7_copy_5 fiX7_9 (by first | rfl | assumption) (by omega) (by first | rfl | assumption) ?_
  refine G_callS0 (pc := 8) (md := mdX11_copyRow) (av := [_, _]) dX7_copy_8 lkX7_26 mwX11_copyRow (c_copyRow _ _ 8 s1 s12 (by omega) (by omega) (by omega) (by omega)) rfl rfl (Nat.le_of_ble_eq_true rfl) (by decide) ⟨Nat.zero_le _, Nat.zero_le _⟩ ?_
  refine G_aload_n (pc := 11) dX7_copy_11 rfl ?_
  refine G_getr (pc := 12) dX7_copy_12 fiX7_15 (by first | rfl | assumption) (by omega) (by first | rfl | assumption) ?_
  refine G_aload_n (pc := 15) dX7_copy_15 rfl ?_
  refine G_getr (pc := 16) dX7_copy_16 fiX7_15 (by first | rfl | assumption) (by omega) (by first | rfl | assumption) ?_
  refine G_callS0 (pc := 19) (md := mdX11_copyRow) (av := [_, _]) dX7_copy_19 lkX7_26 mwX11_copyRow (c_copyRow _ _ 8 s2 s22 (by omega) (by omega) (by omega) (by omega)) rfl rfl (Nat.le_of_ble_eq_true rfl) (by decide) ⟨Nat.zero_le _, Nat.zero_le _⟩ ?_
  refine G_aload_n (pc := 22) dX7_copy_22 rfl ?_
  refine G_aload_n (pc := 23) dX7_copy_23 rfl ?_
  refine G_geti (pc := 24) dX7_copy_24 fiX7_18 (by first | rfl | assumption) (by omega) ?_
  refine G_puti (pc := 27) dX7_copy_27 fiX7_18 (by first | rfl | assumption) (by omega) ?_
  refine G_vret (pc := 30) dX7_copy_30 rfl ?_
  refine ⟨rfl, rfl, ⟨?_, fun t ht => ?_⟩, ?_⟩
  · simp (disch := omega) only [wr_s, cpR_o]; exact hR.1
  · simp (disch := omega) only [wr_o, cpR_o, cpR_s]; exact hR.2 t ht
  · intro q hq
    simp (disch := omega) only [wr_o, cpR_o]
theorem c_Rask {E : EV} {M : Nat} {I J : Nat → Nat → Int} {C : CS} (k t : Nat) (hk : isRow k) (hM : 71 ≤ M) (hR : RI I k C) (h8 : C 0 0 ≤ 8) (ht : t < C 0 0) : FnF E mdX7_ask 1 M Rf [vr E k, vi (t : Int)] I J (some (vi (C 1 t : Int))) I J := by
  obtain ⟨hk60, hsh, r0, r1, s1, s2⟩ := Row_all hk
  refine FnQ.of (by decide +kernel) (Nat.le_of_ble_eq_true rfl) ?_
  show GM E mdX7_ask 1 M Rf _ I J 0 [some (vr E k), some (vi (t : Int))] []
  refine G_aload_n (pc := 0) dX7_ask_0 rfl ?_
  refine G_getr (pc := 1) dX7_ask_1 fiX7_9 (by first | rfl | assumption) (by omega) (by first | rfl | assumption) ?_
  refine G_iload_n (pc := 4) dX7_ask_4 rfl ?_
  refine G_callS1 (pc := 5) (md := mdX11_at) (av := [_, _]) dX7_ask_5 lkX7_30 mwX11_at (c_atv _ 8 t _ s1 (by omega) (by omega) (by omega) (hR.2 t ht).1) rfl rfl (Nat.le_of_ble_eq_true rfl) (by decide) ⟨Nat.zero_le _, Nat.zero_le _⟩ ?_
  refine G_iret (pc := 8) dX7_ask_8 rfl ?_
  exact ⟨rfl, rfl, rfl⟩
theorem c_Rkeeps {E : EV} {M : Nat} {I J : Nat → Nat → Int} {C : CS} (k t : Nat) (hk : isRow k) (hM : 71 ≤ M) (hR : RI I k C) (h8 : C 0 0 ≤ 8) (ht : t < C 0 0) (h1 : C 2 t ≤ 1) : FnF E mdX7_keepsDoers 1 M Rf [vr E k, vi (t : Int)] I J (some (vi (bI (C 2 t = 0)))) I J := by
  obtain ⟨hk60, hsh, r0, r1, s1, s2⟩ := Row_all hk
  refine FnQ.of (by decide +kernel) (Nat.le_of_ble_eq_true rfl) ?_
  show GM E mdX7_keepsDoers 1 M Rf _ I J 0 [some (vr E k), some (vi (t : Int))] []
  refine G_aload_n (pc := 0) dX7_keepsDoers_0 rfl ?_
  refine G_getr (pc := 1) dX7_keepsDoers_1 fiX7_15 (by first | rfl | assumption) (by omega) (by first | rfl | assumption) ?_
  refine G_iload_n (pc := 4) dX7_keepsDoers_4 rfl ?_
  refine G_callS1 (pc := 5) (md := mdX11_at) (av := [_, _]) dX7_keepsDoers_5 lkX7_30 mwX11_at (c_atv _ 8 t _ s2 (by omega) (by omega) (by omega) (hR.2 t ht).2) rfl rfl (Nat.le_of_ble_eq_true rfl) (by decide) ⟨Nat.zero_le _, Nat.zero_le _⟩ ?_
  refine G_if_ne (pc := 8) (tgt := 15) dX7_keepsDoers_8 (Ri.mk (by omega) (by omega)) (by decide) (fun h_8 => ?_) (fun h_8 => ?_)
  · try simp only [bI_eq0, bI_ne0] at h_8
    refine G_iconst (pc := 15) dX7_keepsDoers_15 ?_
    refine G_zret (pc := 16) dX7_keepsDoers_16 rfl (by omega) ?_
    exact ⟨by first | rw [bI_t (by omega)] | rw [bI_f (by omega)], rfl, rfl⟩
  · try simp only [bI_eq0, bI_ne0] at h_8
    refine G_iconst (pc := 11) dX7_keepsDoers_11 ?_
    refine G_goto (pc := 12) (tgt := 16) dX7_keepsDoers_12 (by decide) ?_
    refine G_zret (pc := 16) dX7_keepsDoers_16 rfl (by omega) ?_
    exact ⟨by first | rw [bI_t (by omega)] | rw [bI_f (by omega)], rfl, rfl⟩
theorem c_Tadd {E : EV} {M : Nat} {I J : Nat → Nat → Int} {C : CS} (k a b c d : Nat) (hk : isTold k) (hM : 71 ≤ M) (hT : TI I k C) (h8 : C 3 0 ≤ 3) : FnQ E mdX10_add 1 M Rf [vr E k, vi (a : Int), vi (b : Int), vi (c : Int), vi (d : Int)] I J (fun v I' J' => J' = J ∧ ((C 3 0 < 3 ∧ v = some (vi 1) ∧ TI I' k (addT C a b c d) ∧ Off I I' k (k + 4)) ∨ (C 3 0 = 3 ∧ v = some (vi 0) ∧ I' = I))) := by
  obtain ⟨hk60, hsh, r0, r1, r2, r3, s1, s2, s3, s4⟩ := Told_all hk
  have v4 := hT.1
  refine FnQ.of (by decide +kernel) (Nat.le_of_ble_eq_true rfl) ?_
  show GM E mdX10_add 1 M Rf _ I J 0 [some (vr E k), some (vi (a : Int)), some (vi (b : Int)), some (vi (c : Int)), some (vi (d : Int))] []
  refine G_aload_n (pc := 0) dX10_add_0 rfl ?_
  refine G_geti (pc := 1) dX10_add_1 fiX10_24 (by first | rfl | assumption) (by omega) ?_
  refine G_iconst (pc := 4) dX10_add_4 ?_
  refine G_icmp_lt (pc := 5) (tgt := 10) dX10_add_5 (Ri.mk (by omega) (by omega)) (Ri.mk (by omega) (by omega)) (by decide) (fun h_5 => ?_) (fun h_5 => ?_)
  · refine G_aload_n (pc := 10) dX10_add_10 rfl ?_
    refine G_getr (pc := 11) dX10_add_11 fiX10_9 (by first | rfl | assumption) (by omega) (by first | rfl | assumption) ?_
    refine G_aload_n (pc := 14) dX10_add_14 rfl ?_
    refine G_geti (pc := 15) dX10_add_15 fiX10_24 (by first | rfl | assumption) (by omega) ?_
    refine G_iload_n (pc := 18) dX10_add_18 rfl ?_
    refine G_callS0 (pc := 19) (md := mdX11_put) (av := [_, _, _]) dX10_add_19 lkX10_28 mwX11_put (c_put _ 3 (C 3 0) _ _ (by first | exact s1 | exact s2 | exact s3 | exact s4) (by omega) (by omega) (by omega) (by first | exact v4 | (simp (disch := omega) only [wr_o]; exact v4))) rfl rfl (Nat.le_of_ble_eq_true rfl) (by decide) ⟨Nat.zero_le _, Nat.zero_le _⟩ ?_
    refine G_aload_n (pc := 22) dX10_add_22 rfl ?_
    refine G_getr (pc := 23) dX10_add_23 fiX10_15 (by first | rfl | assumption) (by omega) (by first | rfl | assumption) ?_
    refine G_aload_n (pc := 26) dX10_add_26 rfl ?_
    refine G_geti (pc := 27) dX10_add_27 fiX10_24 (by first | rfl | assumption) (by omega) ?_
    refine G_iload_n (pc := 30) dX10_add_30 rfl ?_
    refine G_callS0 (pc := 31) (md := mdX11_put) (av := [_, _, _]) dX10_add_31 lkX10_28 mwX11_put (c_put _ 3 (C 3 0) _ _ (by first | exact s1 | exact s2 | exact s3 | exact s4) (by omega) (by omega) (by omega) (by first | exact v4 | (simp (disch := omega) only [wr_o]; exact v4))) rfl rfl (Nat.le_of_ble_eq_true rfl) (by decide) ⟨Nat.zero_le _, Nat.zero_le _⟩ ?_
    refine G_aload_n (pc := 34) dX10_add_34 rfl ?_
    refine G_getr (pc := 35) dX10_add_35 fiX10_18 (by first | rfl | assumption) (by omega) (by first | rfl | assumption) ?_
    refine G_aload_n (pc := 38) dX10_add_38 rfl ?_
    refine G_geti (pc := 39) dX10_add_39 fiX10_24 (by first | rfl | assumption) (by omega) ?_
    refine G_iload_n (pc := 42) dX10_add_42 rfl ?_
    refine G_callS0 (pc := 43) (md := mdX11_put) (av := [_, _, _]) dX10_add_43 lkX10_28 mwX11_put (c_put _ 3 (C 3 0) _ _ (by first | exact s1 | exact s2 | exact s3 | exact s4) (by omega) (by omega) (by omega) (by first | exact v4 | (simp (disch := omega) only [wr_o]; exact v4))) rfl rfl (Nat.le_of_ble_eq_true rfl) (by decide) ⟨Nat.zero_le _, Nat.zero_le _⟩ ?_
    refine G_aload_n (pc := 46) dX10_add_46 rfl ?_
    refine G_getr (pc := 47) dX10_add_47 fiX10_21 (by first | rfl | assumption) (by omega) (by first | rfl | assumption) ?_
    refine G_aload_n (pc := 50) dX10_add_50 rfl ?_
    refine G_geti (pc := 51) dX10_add_51 fiX10_24 (by first | rfl | assumption) (by omega) ?_
    refine G_iload (pc := 54) dX10_add_54 rfl ?_
    refine G_callS0 (pc := 56) (md := mdX11_put) (av := [_, _, _]) dX10_add_56 lkX10_28 mwX11_put (c_put _ 3 (C 3 0) _ _ (by first | exact s1 | exact s2 | exact s3 | exact s4) (by omega) (by omega) (by omega) (by first | exact v4 | (simp (disch := omega) only [wr_o]; exact v4))) rfl rfl (Nat.le_of_ble_eq_true rfl) (by decide) ⟨Nat.zero_le _, Nat.zero_le _⟩ ?_
    refine G_aload_n (pc := 59) dX10_add_59 rfl ?_
    refine G_dup (pc := 60) dX10_add_60 rfl ?_
    refine G_geti (pc := 61) dX10_add_61 fiX10_24 (by first | rfl | assumption) (by omega) ?_
    refine G_iconst (pc := 64) dX10_add_64 ?_
    refine G_iadd (pc := 65) dX10_add_65 ?_
    refine G_puti (pc := 66) dX10_add_66 fiX10_24 (by first | rfl | assumption) (by omega) ?_
    refine G_iconst (pc := 69) dX10_add_69 ?_
    refine G_zret (pc := 70) dX10_add_70 rfl (by omega) ?_
    refine ⟨rfl, Or.inl ⟨by omega, rfl, ⟨?_, fun t ht => ?_⟩, ?_⟩⟩
    · simp (disch := omega) only [wr_n, wr_s, wr_o]; rw [v4]; simp [addT]
    · have ht2 : t < C 3 0 + 1 := ht
      by_cases e : t = C 3 0
      · subst e; simp (disch := omega) only [wr_n, wr_s, wr_o]; simp [addT]
      · have := hT.2 t (by omega)
        simp (disch := omega) only [wr_n, wr_s, wr_o]; rw [this.1, this.2.1, this.2.2.1, this.2.2.2]; simp [addT, e]
    · intro q hq
      simp (disch := omega) only [wr_o]
  · refine G_iconst (pc := 8) dX10_add_8 ?_
    refine G_zret (pc := 9) dX10_add_9 rfl (by omega) ?_
    exact ⟨rfl, Or.inr ⟨by omega, rfl, rfl⟩⟩
theorem c_Tcopy {E : EV} {M : Nat} {I J : Nat → Nat → Int} {C : CS} (k r : Nat) (hk : isTold k) (hr : isTold r) (hne : k ≠ r) (hM : 71 ≤ M) (hT : TI I r C) (h8 : C 3 0 ≤ 3) : FnQ E mdX10_copy 2 M Rf [vr E k, vr E r] I J (fun v I' J' => v = none ∧ J' = J ∧ TI I' k C ∧ Off I I' k (k + 4)) := by
  obtain ⟨hk60, hsh, r0, r1, r2, r3, s1, s2, s3, s4⟩ := Told_all hk
  obtain ⟨hk602, hsh2, r02, r12, r22, r32, s12, s22, s32, s42⟩ := Told_all hr
  have hfar : k + 4 < r ∨ r + 4 < k := by
    rcases hk with rfl | rfl | rfl <;> rcases hr with rfl | rfl | rfl <;> omega
  refine FnQ.of (by decide +kernel) (Nat.le_of_ble_eq_true rfl) ?_
  show GM E mdX10_copy 2 M Rf _ I J 0 [some (vr E k), some (vr E r)] []
  refine G_aload_n (pc := 0) dX10_copy_0 rfl ?_
  refine G_getr (pc := 1) dX10_copy_1 fiX10_9 (by first | rfl | assumption) (by omega) (by first | rfl | assumption) ?_
  refine G_aload_n (pc := 4) dX10_copy_4 rfl ?_
  refine G_getr (pc := 5) dX10_copy_5 fiX10_9 (by first | rfl | assumption) (by omega) (by first | rfl | assumption) ?_
  refine G_callS0 (pc := 8) (md := mdX11_copyRow) (av := [_, _]) dX10_copy_8 lkX10_32 mwX11_copyRow (c_copyRow _ _ 3 s1 s12 (by omega) (by omega) (by omega) (by omega)) rfl rfl (Nat.le_of_ble_eq_true rfl) (by decide) ⟨Nat.zero_le _, Nat.zero_le _⟩ ?_
  refine G_aload_n (pc := 11) dX10_copy_11 rfl ?_
  refine G_getr (pc := 12) dX10_copy_12 fiX10_15 (by first | rfl | assumption) (by omega) (by first | rfl | assumption) ?_
  refine G_aload_n (pc := 15) dX10_copy_15 rfl ?_
  refine G_getr (pc := 16) dX10_copy_16 fiX10_15 (by first | rfl | assumption) (by omega) (by first | rfl | assumption) ?_
  refine G_callS0 (pc := 19) (md := mdX11_copyRow) (av := [_, _]) dX10_copy_19 lkX10_32 mwX11_copyRow (c_copyRow _ _ 3 s2 s22 (by omega) (by omega) (by omega) (by omega)) rfl rfl (Nat.le_of_ble_eq_true rfl) (by decide) ⟨Nat.zero_le _, Nat.zero_le _⟩ ?_
  refine G_aload_n (pc := 22) dX10_copy_22 rfl ?_
  refine G_getr (pc := 23) dX10_copy_23 fiX10_18 (by first | rfl | assumption) (by omega) (by first | rfl | assumption) ?_
  refine G_aload_n (pc := 26) dX10_copy_26 rfl ?_
  refine G_getr (pc := 27) dX10_copy_27 fiX10_18 (by first | rfl | assumption) (by omega) (by first | rfl | assumption) ?_
  refine G_callS0 (pc := 30) (md := mdX11_copyRow) (av := [_, _]) dX10_copy_30 lkX10_32 mwX11_copyRow (c_copyRow _ _ 3 s3 s32 (by omega) (by omega) (by omega) (by omega)) rfl rfl (Nat.le_of_ble_eq_true rfl) (by decide) ⟨Nat.zero_le _, Nat.zero_le _⟩ ?_
  refine G_aload_n (pc := 33) dX10_copy_33 rfl ?_
  refine G_getr (pc := 34) dX10_copy_34 fiX10_21 (by first | rfl | assumption) (by omega) (by first | rfl | assumption) ?_
  refine G_aload_n (pc := 37) dX10_copy_37 rfl ?_
  refine G_getr (pc := 38) dX10_copy_38 fiX10_21 (by first | rfl | assumption) (by omega) (by first | rfl | assumption) ?_
  refine G_callS0 (pc := 41) (md := mdX11_copyRow) (av := [_, _]) dX10_copy_41 lkX10_32 mwX11_copyRow (c_copyRow _ _ 3 s4 s42 (by omega) (by omega) (by omega) (by omega)) rfl rfl (Nat.le_of_ble_eq_true rfl) (by decide) ⟨Nat.zero_le _, Nat.zero_le _⟩ ?_
  refine G_aload_n (pc := 44) dX10_copy_44 rfl ?_
  refine G_aload_n (pc := 45) dX10_copy_45 rfl ?_
  refine G_geti (pc := 46) dX10_copy_46 fiX10_24 (by first | rfl | assumption) (by omega) ?_
  refine G_puti (pc := 49) dX10_copy_49 fiX10_24 (by first | rfl | assumption) (by omega) ?_
  refine G_vret (pc := 52) dX10_copy_52 rfl ?_
  refine ⟨rfl, rfl, ⟨?_, fun t ht => ?_⟩, ?_⟩
  · simp (disch := omega) only [wr_s, cpR_o]; exact hT.1
  · simp (disch := omega) only [wr_o, cpR_o, cpR_s]; exact hT.2 t ht
  · intro q hq
    simp (disch := omega) only [wr_o, cpR_o]
