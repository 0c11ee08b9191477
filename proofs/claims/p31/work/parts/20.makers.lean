/-! THE COMPONENT'S MAKERS -/
abbrev rowR (R : Nat → Nat → Option Nat) (q M : Nat) : Nat → Nat → Option Nat := wr (wr R q 0 (some M)) q 1 (some (M + 1))
abbrev toldR (R : Nat → Nat → Option Nat) (q M : Nat) : Nat → Nat → Option Nat := wr (wr (rowR R q M) q 2 (some (M + 2))) q 3 (some (M + 3))
abbrev courseR (R : Nat → Nat → Option Nat) (q M : Nat) : Nat → Nat → Option Nat := wr (toldR (wr (rowR R M (M + 1)) q 0 (some M)) (M + 3) (M + 4)) q 1 (some (M + 3))
abbrev houseR (R : Nat → Nat → Option Nat) (q M : Nat) : Nat → Nat → Option Nat := wr (wr (wr (wr (toldR R q M) q 4 (some (M + 4))) q 5 (some (M + 5))) q 6 (some (M + 6))) q 7 (some (M + 7))
abbrev clrI (I : Nat → Nat → Int) (k : Nat) : Nat → Nat → Int := wr (wr (wr (wr (wr (wr I k 8 0) k 9 0) k 10 0) k 11 1) k 12 50) k 13 2
section MAKERS
variable {E : EV} {M : Nat} {I J : Nat → Nat → Int} {R : Nat → Nat → Option Nat}
theorem m_Text (q : Nat) (hs : shp q = .inl 9) (hq : q < M) (s1 : shp M = .inr (2, 400)) (hI : IZ I M) (hJ : IZ J M) (hR : RZ R M) : FnM E mdX9_init 1 1 400 M R (M + 1) (wr R q 0 (some M)) [vr E q] I J (QF none I J) := by
  refine FnM.of (by decide +kernel) rfl (Nat.le_of_ble_eq_true rfl) ?_
  show GK E mdX9_init 1 1 400 _ _ _ M I J R 0 0 0 [some (vr E q)] []
  refine G_aload_n (pc := 0) dX9_init_0 rfl ?_
  refine G_obj (pc := 1) dX9_init_1 oi_X9 oi_inst oi_code (Nat.le_of_ble_eq_true rfl) ⟨Nat.le_of_ble_eq_true rfl, Nat.le_of_ble_eq_true rfl⟩ ?_
  refine G_aload_n (pc := 4) dX9_init_4 rfl ?_
  refine G_sipush (pc := 5) dX9_init_5 (by decide) ?_
  refine G_newb (pc := 8) (z := 400) dX9_init_8 ac_byte (Nat.le_of_ble_eq_true rfl) (by first | rfl | assumption) rfl (by first | assumption | exact hI.up (by omega) | (repeat (refine IZ.wr ?_ (by omega))); exact hI.up (by omega)) (by first | assumption | exact hJ.up (by omega) | (repeat (refine IZ.wr ?_ (by omega))); exact hJ.up (by omega)) ⟨Nat.le_of_ble_eq_true rfl, Nat.le_of_ble_eq_true rfl⟩ ?_
  refine G_putr (pc := 10) dX9_init_10 fiX9_9 prX9_9 (by first | rfl | assumption) (by omega) ?_
  refine G_vret (pc := 13) dX9_init_13 rfl ?_
  exact ⟨rfl, rfl, rfl⟩
theorem m_Row (q : Nat) (hs : shp q = .inl 7) (hq : q < M) (s1 : shp M = .inr (0, 8)) (s2 : shp (M + 1) = .inr (0, 8)) (hI : IZ I M) (hJ : IZ J M) (hR : RZ R M) : FnM E mdX7_init 1 2 16 M R (M + 2) (rowR R q M) [vr E q] I J (QF none I J) := by
  refine FnM.of (by decide +kernel) rfl (Nat.le_of_ble_eq_true rfl) ?_
  show GK E mdX7_init 1 2 16 _ _ _ M I J R 0 0 0 [some (vr E q)] []
  refine G_aload_n (pc := 0) dX7_init_0 rfl ?_
  refine G_obj (pc := 1) dX7_init_1 oi_X7 oi_inst oi_code (Nat.le_of_ble_eq_true rfl) ⟨Nat.le_of_ble_eq_true rfl, Nat.le_of_ble_eq_true rfl⟩ ?_
  refine G_aload_n (pc := 4) dX7_init_4 rfl ?_
  refine G_bipush (pc := 5) dX7_init_5 (by decide) ?_
  refine G_newi (pc := 7) (z := 8) dX7_init_7 ac_int (Nat.le_of_ble_eq_true rfl) (by first | rfl | assumption) rfl (by first | assumption | exact hI.up (by omega) | (repeat (refine IZ.wr ?_ (by omega))); exact hI.up (by omega)) (by first | assumption | exact hJ.up (by omega) | (repeat (refine IZ.wr ?_ (by omega))); exact hJ.up (by omega)) ⟨Nat.le_of_ble_eq_true rfl, Nat.le_of_ble_eq_true rfl⟩ ?_
  refine G_putr (pc := 9) dX7_init_9 fiX7_9 prX7_9 (by first | rfl | assumption) (by omega) ?_
  refine G_aload_n (pc := 12) dX7_init_12 rfl ?_
  refine G_bipush (pc := 13) dX7_init_13 (by decide) ?_
  refine G_newi (pc := 15) (z := 8) dX7_init_15 ac_int (Nat.le_of_ble_eq_true rfl) (by first | rfl | assumption) rfl (by first | assumption | exact hI.up (by omega) | (repeat (refine IZ.wr ?_ (by omega))); exact hI.up (by omega)) (by first | assumption | exact hJ.up (by omega) | (repeat (refine IZ.wr ?_ (by omega))); exact hJ.up (by omega)) ⟨Nat.le_of_ble_eq_true rfl, Nat.le_of_ble_eq_true rfl⟩ ?_
  refine G_putr (pc := 17) dX7_init_17 fiX7_15 prX7_15 (by first | rfl | assumption) (by omega) ?_
  refine G_vret (pc := 20) dX7_init_20 rfl ?_
  exact ⟨rfl, rfl, rfl⟩
theorem m_Told (q : Nat) (hs : shp q = .inl 10) (hq : q < M) (s1 : shp M = .inr (0, 3)) (s2 : shp (M + 1) = .inr (0, 3)) (s3 : shp (M + 1 + 1) = .inr (0, 3)) (s4 : shp (M + 1 + 1 + 1) = .inr (0, 3)) (hI : IZ I M) (hJ : IZ J M) (hR : RZ R M) : FnM E mdX10_init 1 4 12 M R (M + 4) (toldR R q M) [vr E q] I J (QF none I J) := by
  refine FnM.of (by decide +kernel) rfl (Nat.le_of_ble_eq_true rfl) ?_
  show GK E mdX10_init 1 4 12 _ _ _ M I J R 0 0 0 [some (vr E q)] []
  refine G_aload_n (pc := 0) dX10_init_0 rfl ?_
  refine G_obj (pc := 1) dX10_init_1 oi_X10 oi_inst oi_code (Nat.le_of_ble_eq_true rfl) ⟨Nat.le_of_ble_eq_true rfl, Nat.le_of_ble_eq_true rfl⟩ ?_
  refine G_aload_n (pc := 4) dX10_init_4 rfl ?_
  refine G_iconst (pc := 5) dX10_init_5 ?_
  refine G_newi (pc := 6) (z := 3) dX10_init_6 ac_int (Nat.le_of_ble_eq_true rfl) (by first | rfl | assumption) rfl (by first | assumption | exact hI.up (by omega) | (repeat (refine IZ.wr ?_ (by omega))); exact hI.up (by omega)) (by first | assumption | exact hJ.up (by omega) | (repeat (refine IZ.wr ?_ (by omega))); exact hJ.up (by omega)) ⟨Nat.le_of_ble_eq_true rfl, Nat.le_of_ble_eq_true rfl⟩ ?_
  refine G_putr (pc := 8) dX10_init_8 fiX10_9 prX10_9 (by first | rfl | assumption) (by omega) ?_
  refine G_aload_n (pc := 11) dX10_init_11 rfl ?_
  refine G_iconst (pc := 12) dX10_init_12 ?_
  refine G_newi (pc := 13) (z := 3) dX10_init_13 ac_int (Nat.le_of_ble_eq_true rfl) (by first | rfl | assumption) rfl (by first | assumption | exact hI.up (by omega) | (repeat (refine IZ.wr ?_ (by omega))); exact hI.up (by omega)) (by first | assumption | exact hJ.up (by omega) | (repeat (refine IZ.wr ?_ (by omega))); exact hJ.up (by omega)) ⟨Nat.le_of_ble_eq_true rfl, Nat.le_of_ble_eq_true rfl⟩ ?_
  refine G_putr (pc := 15) dX10_init_15 fiX10_15 prX10_15 (by first | rfl | assumption) (by omega) ?_
  refine G_aload_n (pc := 18) dX10_init_18 rfl ?_
  refine G_iconst (pc := 19) dX10_init_19 ?_
  refine G_newi (pc := 20) (z := 3) dX10_init_20 ac_int (Nat.le_of_ble_eq_true rfl) (by first | rfl | assumption) rfl (by first | assumption | exact hI.up (by omega) | (repeat (refine IZ.wr ?_ (by omega))); exact hI.up (by omega)) (by first | assumption | exact hJ.up (by omega) | (repeat (refine IZ.wr ?_ (by omega))); exact hJ.up (by omega)) ⟨Nat.le_of_ble_eq_true rfl, Nat.le_of_ble_eq_true rfl⟩ ?_
  refine G_putr (pc := 22) dX10_init_22 fiX10_18 prX10_18 (by first | rfl | assumption) (by omega) ?_
  refine G_aload_n (pc := 25) dX10_init_25 rfl ?_
  refine G_iconst (pc := 26) dX10_init_26 ?_
  refine G_newi (pc := 27) (z := 3) dX10_init_27 ac_int (Nat.le_of_ble_eq_true rfl) (by first | rfl | assumption) rfl (by first | assumption | exact hI.up (by omega) | (repeat (refine IZ.wr ?_ (by omega))); exact hI.up (by omega)) (by first | assumption | exact hJ.up (by omega) | (repeat (refine IZ.wr ?_ (by omega))); exact hJ.up (by omega)) ⟨Nat.le_of_ble_eq_true rfl, Nat.le_of_ble_eq_true rfl⟩ ?_
  refine G_putr (pc := 29) dX10_init_29 fiX10_21 prX10_21 (by first | rfl | assumption) (by omega) ?_
  refine G_vret (pc := 32) dX10_init_32 rfl ?_
  exact ⟨rfl, rfl, rfl⟩
theorem m_Course (q : Nat) (hs : shp q = .inl 1) (hq : q < M) (s0 : shp M = .inl 7) (s1 : shp (M + 1) = .inr (0, 8)) (s2 : shp (M + 1 + 1) = .inr (0, 8)) (s3 : shp (M + 1 + 2) = .inl 10) (s4 : shp (M + 1 + 2 + 1) = .inr (0, 3)) (s5 : shp (M + 1 + 2 + 1 + 1) = .inr (0, 3)) (s6 : shp (M + 1 + 2 + 1 + 1 + 1) = .inr (0, 3)) (s7 : shp (M + 1 + 2 + 1 + 1 + 1 + 1) = .inr (0, 3)) (hI : IZ I M) (hJ : IZ J M) (hR : RZ R M) : FnM E mdX1_init 2 8 36 M R (M + 8) (courseR R q M) [vr E q] I J (QF none I J) := by
  refine FnM.of (by decide +kernel) rfl (Nat.le_of_ble_eq_true rfl) ?_
  show GK E mdX1_init 2 8 36 _ _ _ M I J R 0 0 0 [some (vr E q)] []
  refine G_aload_n (pc := 0) dX1_init_0 rfl ?_
  refine G_obj (pc := 1) dX1_init_1 oi_X1 oi_inst oi_code (Nat.le_of_ble_eq_true rfl) ⟨Nat.le_of_ble_eq_true rfl, Nat.le_of_ble_eq_true rfl⟩ ?_
  refine G_aload_n (pc := 4) dX1_init_4 rfl ?_
  refine G_new (pc := 5) dX1_init_5 clX1_7 cw_7 (by first | rfl | assumption) (by first | assumption | exact hI.up (by omega) | (repeat (refine IZ.wr ?_ (by omega))); exact hI.up (by omega)) (by first | assumption | exact hJ.up (by omega) | (repeat (refine IZ.wr ?_ (by omega))); exact hJ.up (by omega)) (by first | assumption | exact hR.up (by omega) | (repeat (refine RZ.wr ?_ (by omega))); exact hR.up (by omega)) ⟨Nat.le_of_ble_eq_true rfl, Nat.le_of_ble_eq_true rfl⟩ ?_
  refine G_dup (pc := 8) dX1_init_8 rfl ?_
  refine G_callI (pc := 9) (md := mdX7_init) (av := []) dX1_init_9 lkX1_9 mwX7_init rfl rfl (m_Row M s0 (by omega) s1 s2 (hI.up (by omega)) (hJ.up (by omega)) (hR.up (by omega))) rfl rfl (Nat.le_of_ble_eq_true rfl) ⟨Nat.le_of_ble_eq_true rfl, Nat.le_of_ble_eq_true rfl⟩ ⟨Nat.le_of_ble_eq_true rfl, Nat.le_of_ble_eq_true rfl⟩ ?_
  rintro v I1 J1 ⟨rfl, rfl, rfl⟩
  refine G_putr (pc := 12) dX1_init_12 fiX1_10 prX1_10 (by first | rfl | assumption) (by omega) ?_
  refine G_aload_n (pc := 15) dX1_init_15 rfl ?_
  refine G_new (pc := 16) dX1_init_16 clX1_16 cw_10 (by first | rfl | assumption) (by first | assumption | exact hI.up (by omega) | (repeat (refine IZ.wr ?_ (by omega))); exact hI.up (by omega)) (by first | assumption | exact hJ.up (by omega) | (repeat (refine IZ.wr ?_ (by omega))); exact hJ.up (by omega)) (by first | assumption | exact hR.up (by omega) | (repeat (refine RZ.wr ?_ (by omega))); exact hR.up (by omega)) ⟨Nat.le_of_ble_eq_true rfl, Nat.le_of_ble_eq_true rfl⟩ ?_
  refine G_dup (pc := 19) dX1_init_19 rfl ?_
  refine G_callI (pc := 20) (md := mdX10_init) (av := []) dX1_init_20 lkX1_18 mwX10_init rfl rfl (m_Told (M + 1 + 2) s3 (by omega) s4 s5 s6 s7 (hI.up (by omega)) (hJ.up (by omega)) (((hR.up (show M ≤ M + 1 + 2 + 1 by omega)).wr (by omega)).wr (by omega) |>.wr (by omega))) rfl rfl (Nat.le_of_ble_eq_true rfl) ⟨Nat.le_of_ble_eq_true rfl, Nat.le_of_ble_eq_true rfl⟩ ⟨Nat.le_of_ble_eq_true rfl, Nat.le_of_ble_eq_true rfl⟩ ?_
  rintro v I1 J1 ⟨rfl, rfl, rfl⟩
  refine G_putr (pc := 23) dX1_init_23 fiX1_19 prX1_19 (by first | rfl | assumption) (by omega) ?_
  refine G_vret (pc := 26) dX1_init_26 rfl ?_
  exact ⟨rfl, rfl, rfl⟩
theorem m_House (q : Nat) (hk : isHouse q) (hq : q < M) (s1 : shp M = .inr (0, 6)) (s2 : shp (M + 1) = .inr (0, 6)) (s3 : shp (M + 1 + 1) = .inr (0, 6)) (s4 : shp (M + 1 + 1 + 1) = .inr (0, 6)) (s5 : shp (M + 1 + 1 + 1 + 1) = .inr (0, 6)) (s6 : shp (M + 1 + 1 + 1 + 1 + 1) = .inr (0, 6)) (s7 : shp (M + 1 + 1 + 1 + 1 + 1 + 1) = .inr (0, 6)) (s8 : shp (M + 1 + 1 + 1 + 1 + 1 + 1 + 1) = .inr (0, 6)) (hI : IZ I M) (hJ : IZ J M) (hR : RZ R M) : FnM E mdX4_init 3 8 48 M R (M + 8) (houseR R q M) [vr E q] I J (QF none (clrI I q) J) := by
  have hs : shp q = .inl 4 := by rcases hk with rfl | rfl <;> rfl
  refine FnM.of (by decide +kernel) rfl (Nat.le_of_ble_eq_true rfl) ?_
  show GK E mdX4_init 3 8 48 _ _ _ M I J R 0 0 0 [some (vr E q)] []
  refine G_aload_n (pc := 0) dX4_init_0 rfl ?_
  refine G_obj (pc := 1) dX4_init_1 oi_X4 oi_inst oi_code (Nat.le_of_ble_eq_true rfl) ⟨Nat.le_of_ble_eq_true rfl, Nat.le_of_ble_eq_true rfl⟩ ?_
  refine G_aload_n (pc := 4) dX4_init_4 rfl ?_
  refine G_bipush (pc := 5) dX4_init_5 (by decide) ?_
  refine G_newi (pc := 7) (z := 6) dX4_init_7 ac_int (Nat.le_of_ble_eq_true rfl) (by first | rfl | assumption) rfl (by first | assumption | exact hI.up (by omega) | (repeat (refine IZ.wr ?_ (by omega))); exact hI.up (by omega)) (by first | assumption | exact hJ.up (by omega) | (repeat (refine IZ.wr ?_ (by omega))); exact hJ.up (by omega)) ⟨Nat.le_of_ble_eq_true rfl, Nat.le_of_ble_eq_true rfl⟩ ?_
  refine G_putr (pc := 9) dX4_init_9 fiX4_9 prX4_9 (by first | rfl | assumption) (by omega) ?_
  refine G_aload_n (pc := 12) dX4_init_12 rfl ?_
  refine G_bipush (pc := 13) dX4_init_13 (by decide) ?_
  refine G_newi (pc := 15) (z := 6) dX4_init_15 ac_int (Nat.le_of_ble_eq_true rfl) (by first | rfl | assumption) rfl (by first | assumption | exact hI.up (by omega) | (repeat (refine IZ.wr ?_ (by omega))); exact hI.up (by omega)) (by first | assumption | exact hJ.up (by omega) | (repeat (refine IZ.wr ?_ (by omega))); exact hJ.up (by omega)) ⟨Nat.le_of_ble_eq_true rfl, Nat.le_of_ble_eq_true rfl⟩ ?_
  refine G_putr (pc := 17) dX4_init_17 fiX4_15 prX4_15 (by first | rfl | assumption) (by omega) ?_
  refine G_aload_n (pc := 20) dX4_init_20 rfl ?_
  refine G_bipush (pc := 21) dX4_init_21 (by decide) ?_
  refine G_newi (pc := 23) (z := 6) dX4_init_23 ac_int (Nat.le_of_ble_eq_true rfl) (by first | rfl | assumption) rfl (by first | assumption | exact hI.up (by omega) | (repeat (refine IZ.wr ?_ (by omega))); exact hI.up (by omega)) (by first | assumption | exact hJ.up (by omega) | (repeat (refine IZ.wr ?_ (by omega))); exact hJ.up (by omega)) ⟨Nat.le_of_ble_eq_true rfl, Nat.le_of_ble_eq_true rfl⟩ ?_
  refine G_putr (pc := 25) dX4_init_25 fiX4_18 prX4_18 (by first | rfl | assumption) (by omega) ?_
  refine G_aload_n (pc := 28) dX4_init_28 rfl ?_
  refine G_bipush (pc := 29) dX4_init_29 (by decide) ?_
  refine G_newi (pc := 31) (z := 6) dX4_init_31 ac_int (Nat.le_of_ble_eq_true rfl) (by first | rfl | assumption) rfl (by first | assumption | exact hI.up (by omega) | (repeat (refine IZ.wr ?_ (by omega))); exact hI.up (by omega)) (by first | assumption | exact hJ.up (by omega) | (repeat (refine IZ.wr ?_ (by omega))); exact hJ.up (by omega)) ⟨Nat.le_of_ble_eq_true rfl, Nat.le_of_ble_eq_true rfl⟩ ?_
  refine G_putr (pc := 33) dX4_init_33 fiX4_21 prX4_21 (by first | rfl | assumption) (by omega) ?_
  refine G_aload_n (pc := 36) dX4_init_36 rfl ?_
  refine G_bipush (pc := 37) dX4_init_37 (by decide) ?_
  refine G_newi (pc := 39) (z := 6) dX4_init_39 ac_int (Nat.le_of_ble_eq_true rfl) (by first | rfl | assumption) rfl (by first | assumption | exact hI.up (by omega) | (repeat (refine IZ.wr ?_ (by omega))); exact hI.up (by omega)) (by first | assumption | exact hJ.up (by omega) | (repeat (refine IZ.wr ?_ (by omega))); exact hJ.up (by omega)) ⟨Nat.le_of_ble_eq_true rfl, Nat.le_of_ble_eq_true rfl⟩ ?_
  refine G_putr (pc := 41) dX4_init_41 fiX4_24 prX4_24 (by first | rfl | assumption) (by omega) ?_
  refine G_aload_n (pc := 44) dX4_init_44 rfl ?_
  refine G_bipush (pc := 45) dX4_init_45 (by decide) ?_
  refine G_newi (pc := 47) (z := 6) dX4_init_47 ac_int (Nat.le_of_ble_eq_true rfl) (by first | rfl | assumption) rfl (by first | assumption | exact hI.up (by omega) | (repeat (refine IZ.wr ?_ (by omega))); exact hI.up (by omega)) (by first | assumption | exact hJ.up (by omega) | (repeat (refine IZ.wr ?_ (by omega))); exact hJ.up (by omega)) ⟨Nat.le_of_ble_eq_true rfl, Nat.le_of_ble_eq_true rfl⟩ ?_
  refine G_putr (pc := 49) dX4_init_49 fiX4_27 prX4_27 (by first | rfl | assumption) (by omega) ?_
  refine G_aload_n (pc := 52) dX4_init_52 rfl ?_
  refine G_bipush (pc := 53) dX4_init_53 (by decide) ?_
  refine G_newi (pc := 55) (z := 6) dX4_init_55 ac_int (Nat.le_of_ble_eq_true rfl) (by first | rfl | assumption) rfl (by first | assumption | exact hI.up (by omega) | (repeat (refine IZ.wr ?_ (by omega))); exact hI.up (by omega)) (by first | assumption | exact hJ.up (by omega) | (repeat (refine IZ.wr ?_ (by omega))); exact hJ.up (by omega)) ⟨Nat.le_of_ble_eq_true rfl, Nat.le_of_ble_eq_true rfl⟩ ?_
  refine G_putr (pc := 57) dX4_init_57 fiX4_30 prX4_30 (by first | rfl | assumption) (by omega) ?_
  refine G_aload_n (pc := 60) dX4_init_60 rfl ?_
  refine G_bipush (pc := 61) dX4_init_61 (by decide) ?_
  refine G_newi (pc := 63) (z := 6) dX4_init_63 ac_int (Nat.le_of_ble_eq_true rfl) (by first | rfl | assumption) rfl (by first | assumption | exact hI.up (by omega) | (repeat (refine IZ.wr ?_ (by omega))); exact hI.up (by omega)) (by first | assumption | exact hJ.up (by omega) | (repeat (refine IZ.wr ?_ (by omega))); exact hJ.up (by omega)) ⟨Nat.le_of_ble_eq_true rfl, Nat.le_of_ble_eq_true rfl⟩ ?_
  refine G_putr (pc := 65) dX4_init_65 fiX4_33 prX4_33 (by first | rfl | assumption) (by omega) ?_
  refine G_aload_n (pc := 68) dX4_init_68 rfl ?_
  refine G_callV0 (pc := 69) (md := mdX4_clear) (av := []) dX4_init_69 lkX4_36 mwX4_clear (c_clear q hk (by omega)) rfl (by first | rfl | assumption) (by omega) rfl rfl (Nat.le_of_ble_eq_true rfl) (by decide) ⟨Nat.le_of_ble_eq_true rfl, Nat.le_of_ble_eq_true rfl⟩ ?_
  refine G_vret (pc := 72) dX4_init_72 rfl ?_
  exact ⟨rfl, rfl, rfl⟩
theorem m_Reader (q a b : Nat) (hs : shp q = .inl 6) (hq : q < M) (s1 : shp M = .inr (0, 4)) (hI : IZ I M) (hJ : IZ J M) (hR : RZ R M) : FnM E mdX6_init 1 1 4 M R (M + 1) (wr (wr (wr R q 2 (some M)) q 0 (some a)) q 1 (some b)) [vr E q, vr E a, vr E b] I J (QF none I J) := by
  refine FnM.of (by decide +kernel) rfl (Nat.le_of_ble_eq_true rfl) ?_
  show GK E mdX6_init 1 1 4 _ _ _ M I J R 0 0 0 [some (vr E q), some (vr E a), some (vr E b)] []
  refine G_aload_n (pc := 0) dX6_init_0 rfl ?_
  refine G_obj (pc := 1) dX6_init_1 oi_X6 oi_inst oi_code (Nat.le_of_ble_eq_true rfl) ⟨Nat.le_of_ble_eq_true rfl, Nat.le_of_ble_eq_true rfl⟩ ?_
  refine G_aload_n (pc := 4) dX6_init_4 rfl ?_
  refine G_iconst (pc := 5) dX6_init_5 ?_
  refine G_newi (pc := 6) (z := 4) dX6_init_6 ac_int (Nat.le_of_ble_eq_true rfl) (by first | rfl | assumption) rfl (by first | assumption | exact hI.up (by omega) | (repeat (refine IZ.wr ?_ (by omega))); exact hI.up (by omega)) (by first | assumption | exact hJ.up (by omega) | (repeat (refine IZ.wr ?_ (by omega))); exact hJ.up (by omega)) ⟨Nat.le_of_ble_eq_true rfl, Nat.le_of_ble_eq_true rfl⟩ ?_
  refine G_putr (pc := 8) dX6_init_8 fiX6_9 prX6_9 (by first | rfl | assumption) (by omega) ?_
  refine G_aload_n (pc := 11) dX6_init_11 rfl ?_
  refine G_aload_n (pc := 12) dX6_init_12 rfl ?_
  refine G_putr (pc := 13) dX6_init_13 fiX6_15 prX6_15 (by first | rfl | assumption) (by omega) ?_
  refine G_aload_n (pc := 16) dX6_init_16 rfl ?_
  refine G_aload_n (pc := 17) dX6_init_17 rfl ?_
  refine G_putr (pc := 18) dX6_init_18 fiX6_19 prX6_19 (by first | rfl | assumption) (by omega) ?_
  refine G_vret (pc := 21) dX6_init_21 rfl ?_
  exact ⟨rfl, rfl, rfl⟩
theorem m_Sieve (q a : Nat) (hs : shp q = .inl 8) (hq : q < M) (s1 : shp M = .inr (1, 6)) (s2 : shp (M + 1) = .inr (1, 13)) (hI : IZ I M) (hJ : IZ J M) (hR : RZ R M) : FnM E mdX8_init 1 2 19 M R (M + 2) (wr (wr (wr R q 1 (some M)) q 2 (some (M + 1))) q 0 (some a)) [vr E q, vr E a] I J (QF none I J) := by
  refine FnM.of (by decide +kernel) rfl (Nat.le_of_ble_eq_true rfl) ?_
  show GK E mdX8_init 1 2 19 _ _ _ M I J R 0 0 0 [some (vr E q), some (vr E a)] []
  refine G_aload_n (pc := 0) dX8_init_0 rfl ?_
  refine G_obj (pc := 1) dX8_init_1 oi_X8 oi_inst oi_code (Nat.le_of_ble_eq_true rfl) ⟨Nat.le_of_ble_eq_true rfl, Nat.le_of_ble_eq_true rfl⟩ ?_
  refine G_aload_n (pc := 4) dX8_init_4 rfl ?_
  refine G_bipush (pc := 5) dX8_init_5 (by decide) ?_
  refine G_newl (pc := 7) (z := 6) dX8_init_7 ac_long (Nat.le_of_ble_eq_true rfl) (by first | rfl | assumption) rfl (by first | assumption | exact hI.up (by omega) | (repeat (refine IZ.wr ?_ (by omega))); exact hI.up (by omega)) (by first | assumption | exact hJ.up (by omega) | (repeat (refine IZ.wr ?_ (by omega))); exact hJ.up (by omega)) ⟨Nat.le_of_ble_eq_true rfl, Nat.le_of_ble_eq_true rfl⟩ ?_
  refine G_putr (pc := 9) dX8_init_9 fiX8_9 prX8_9 (by first | rfl | assumption) (by omega) ?_
  refine G_aload_n (pc := 12) dX8_init_12 rfl ?_
  refine G_bipush (pc := 13) dX8_init_13 (by decide) ?_
  refine G_newl (pc := 15) (z := 13) dX8_init_15 ac_long (Nat.le_of_ble_eq_true rfl) (by first | rfl | assumption) rfl (by first | assumption | exact hI.up (by omega) | (repeat (refine IZ.wr ?_ (by omega))); exact hI.up (by omega)) (by first | assumption | exact hJ.up (by omega) | (repeat (refine IZ.wr ?_ (by omega))); exact hJ.up (by omega)) ⟨Nat.le_of_ble_eq_true rfl, Nat.le_of_ble_eq_true rfl⟩ ?_
  refine G_putr (pc := 17) dX8_init_17 fiX8_15 prX8_15 (by first | rfl | assumption) (by omega) ?_
  refine G_aload_n (pc := 20) dX8_init_20 rfl ?_
  refine G_aload_n (pc := 21) dX8_init_21 rfl ?_
  refine G_putr (pc := 22) dX8_init_22 fiX8_18 prX8_18 (by first | rfl | assumption) (by omega) ?_
  refine G_vret (pc := 25) dX8_init_25 rfl ?_
  exact ⟨rfl, rfl, rfl⟩
theorem m_Fraction (q : Nat) (hs : shp q = .inl 3) (hq : q < M) : FnM E mdX3_init 1 0 0 M R M R [vr E q] I J (QF none I J) := by
  refine FnM.of (by decide +kernel) rfl (Nat.le_of_ble_eq_true rfl) ?_
  show GK E mdX3_init 1 0 0 _ _ _ M I J R 0 0 0 [some (vr E q)] []
  refine G_aload_n (pc := 0) dX3_init_0 rfl ?_
  refine G_obj (pc := 1) dX3_init_1 oi_X3 oi_inst oi_code (Nat.le_of_ble_eq_true rfl) ⟨Nat.le_of_ble_eq_true rfl, Nat.le_of_ble_eq_true rfl⟩ ?_
  refine G_vret (pc := 4) dX3_init_4 rfl ?_
  exact ⟨rfl, rfl, rfl⟩
theorem m_Feelings (q a b : Nat) (hs : shp q = .inl 2) (hq : q < M) : FnM E mdX2_init 1 0 0 M R M (wr (wr R q 0 (some a)) q 1 (some b)) [vr E q, vr E a, vr E b] I J (QF none I J) := by
  refine FnM.of (by decide +kernel) rfl (Nat.le_of_ble_eq_true rfl) ?_
  show GK E mdX2_init 1 0 0 _ _ _ M I J R 0 0 0 [some (vr E q), some (vr E a), some (vr E b)] []
  refine G_aload_n (pc := 0) dX2_init_0 rfl ?_
  refine G_obj (pc := 1) dX2_init_1 oi_X2 oi_inst oi_code (Nat.le_of_ble_eq_true rfl) ⟨Nat.le_of_ble_eq_true rfl, Nat.le_of_ble_eq_true rfl⟩ ?_
  refine G_aload_n (pc := 4) dX2_init_4 rfl ?_
  refine G_aload_n (pc := 5) dX2_init_5 rfl ?_
  refine G_putr (pc := 6) dX2_init_6 fiX2_9 prX2_9 (by first | rfl | assumption) (by omega) ?_
  refine G_aload_n (pc := 9) dX2_init_9 rfl ?_
  refine G_aload_n (pc := 10) dX2_init_10 rfl ?_
  refine G_putr (pc := 11) dX2_init_11 fiX2_15 prX2_15 (by first | rfl | assumption) (by omega) ?_
  refine G_vret (pc := 14) dX2_init_14 rfl ?_
  exact ⟨rfl, rfl, rfl⟩
theorem m_Night (q a : Nat) (hs : shp q = .inl 5) (hq : q < M) (s1 : shp M = .inr (3, 120)) (s2 : shp (M + 1) = .inr (3, 120)) (hI : IZ I M) (hJ : IZ J M) (hR : RZ R M) : FnM E mdX5_init 1 2 240 M R (M + 2) (wr (wr (wr R q 1 (some M)) q 2 (some (M + 1))) q 0 (some a)) [vr E q, vr E a] I J (QF none I J) := by
  refine FnM.of (by decide +kernel) rfl (Nat.le_of_ble_eq_true rfl) ?_
  show GK E mdX5_init 1 2 240 _ _ _ M I J R 0 0 0 [some (vr E q), some (vr E a)] []
  refine G_aload_n (pc := 0) dX5_init_0 rfl ?_
  refine G_obj (pc := 1) dX5_init_1 oi_X5 oi_inst oi_code (Nat.le_of_ble_eq_true rfl) ⟨Nat.le_of_ble_eq_true rfl, Nat.le_of_ble_eq_true rfl⟩ ?_
  refine G_aload_n (pc := 4) dX5_init_4 rfl ?_
  refine G_bipush (pc := 5) dX5_init_5 (by decide) ?_
  refine G_newz (pc := 7) (z := 120) dX5_init_7 ac_boolean (Nat.le_of_ble_eq_true rfl) (by first | rfl | assumption) rfl (by first | assumption | exact hI.up (by omega) | (repeat (refine IZ.wr ?_ (by omega))); exact hI.up (by omega)) (by first | assumption | exact hJ.up (by omega) | (repeat (refine IZ.wr ?_ (by omega))); exact hJ.up (by omega)) ⟨Nat.le_of_ble_eq_true rfl, Nat.le_of_ble_eq_true rfl⟩ ?_
  refine G_putr (pc := 9) dX5_init_9 fiX5_9 prX5_9 (by first | rfl | assumption) (by omega) ?_
  refine G_aload_n (pc := 12) dX5_init_12 rfl ?_
  refine G_bipush (pc := 13) dX5_init_13 (by decide) ?_
  refine G_newz (pc := 15) (z := 120) dX5_init_15 ac_boolean (Nat.le_of_ble_eq_true rfl) (by first | rfl | assumption) rfl (by first | assumption | exact hI.up (by omega) | (repeat (refine IZ.wr ?_ (by omega))); exact hI.up (by omega)) (by first | assumption | exact hJ.up (by omega) | (repeat (refine IZ.wr ?_ (by omega))); exact hJ.up (by omega)) ⟨Nat.le_of_ble_eq_true rfl, Nat.le_of_ble_eq_true rfl⟩ ?_
  refine G_putr (pc := 17) dX5_init_17 fiX5_15 prX5_15 (by first | rfl | assumption) (by omega) ?_
  refine G_aload_n (pc := 20) dX5_init_20 rfl ?_
  refine G_aload_n (pc := 21) dX5_init_21 rfl ?_
  refine G_putr (pc := 22) dX5_init_22 fiX5_18 prX5_18 (by first | rfl | assumption) (by omega) ?_
  refine G_vret (pc := 25) dX5_init_25 rfl ?_
  exact ⟨rfl, rfl, rfl⟩
end MAKERS
