/-! THE CLASS'S OWN MAKER -/
abbrev sieveR (R : Nat → Nat → Option Nat) (q M a : Nat) : Nat → Nat → Option Nat := wr (wr (wr R q 1 (some M)) q 2 (some (M + 1))) q 0 (some a)
abbrev chooserR (R : Nat → Nat → Option Nat) : Nat → Nat → Option Nat := wr (sieveR (wr (wr (rowR (wr (rowR R 57 58) 56 2 (some 57)) 60 61) 56 3 (some 60)) 56 0 (some 3)) 63 64 3) 56 1 (some 63)
def hs0 : HS := addAskH (addSortH (clearH (fun _ _ => 0)) 10 5 5 0) 5 2 5 5
def S0 : ST := (0, fun _ => 0, hs0, fun _ _ => 0, 0, fun _ _ _ => 0)
theorem ok_s0 : okS (clearH (fun _ _ => 0)) 10 5 5 0 := by decide
theorem ok_a0 : okA (addSortH (clearH (fun _ _ => 0)) 10 5 5 0) 5 2 5 5 := by decide
theorem S0_W : WFS S0 := by
  refine ⟨Nat.zero_le _, fun i => by show -128 ≤ (0 : Int) ∧ (0 : Int) ≤ 127; omega, addAskH_B (addSortH_B (clearH_B _) ok_s0) ok_a0, by decide, by decide, ⟨Nat.zero_le _, fun t h => absurd h (Nat.not_lt_zero _)⟩, ⟨Nat.zero_le _, fun t h => absurd h (Nat.not_lt_zero _)⟩, Nat.zero_le _, fun j h1 h2 => absurd (Nat.le_trans h1 h2) (by decide)⟩
theorem HI_clear {I : Nat → Nat → Int} {k : Nat} {h0 : HS} : HI (clrI I k) k (clearH h0) := by
  refine ⟨fun i hi x hx => absurd hx (Nat.not_lt_zero _), fun i h4 hi x hx => absurd hx (Nat.not_lt_zero _), fun i h8 hi => ?_⟩
  rcases (show i = 8 ∨ i = 9 ∨ i = 10 ∨ i = 11 ∨ i = 12 ∨ i = 13 by omega) with rfl | rfl | rfl | rfl | rfl | rfl <;> simp [clrI, wr, clearH]
section MAKERS2
variable {E : EV}
theorem m_Chooser {I J : Nat → Nat → Int} {R : Nat → Nat → Option Nat} (hI : IZ I 57) (hJ : IZ J 57) (hR : RZ R 57) : FnM E mdX0_init 2 9 60 57 R 66 (chooserR R) [vr E 56, vr E 3] I J (QF none I J) := by
  refine FnM.of (by decide +kernel) rfl (Nat.le_of_ble_eq_true rfl) ?_
  show GK E mdX0_init 2 9 60 _ _ _ 57 I J R 0 0 0 [some (vr E 56), some (vr E 3)] []
  refine G_aload_n (pc := 0) dX0_init_0 rfl ?_
  refine G_obj (pc := 1) dX0_init_1 oi_X0 oi_inst oi_code (Nat.le_of_ble_eq_true rfl) ⟨Nat.le_of_ble_eq_true rfl, Nat.le_of_ble_eq_true rfl⟩ ?_
  refine G_aload_n (pc := 4) dX0_init_4 rfl ?_
  refine G_new (pc := 5) dX0_init_5 clX0_9 cw_7 (by first | rfl | assumption) (by first | assumption | exact hI.up (by omega) | (repeat (refine IZ.wr ?_ (by omega))); exact hI.up (by omega)) (by first | assumption | exact hJ.up (by omega) | (repeat (refine IZ.wr ?_ (by omega))); exact hJ.up (by omega)) (by first | assumption | exact hR.up (by omega) | (repeat (refine RZ.wr ?_ (by omega))); exact hR.up (by omega)) ⟨Nat.le_of_ble_eq_true rfl, Nat.le_of_ble_eq_true rfl⟩ ?_
  refine G_dup (pc := 8) dX0_init_8 rfl ?_
  refine G_callI (pc := 9) (md := mdX7_init) (av := []) dX0_init_9 lkX0_11 mwX7_init rfl rfl (m_Row 57 rfl (by omega) rfl rfl (hI.up (by omega)) (hJ.up (by omega)) (hR.up (by omega))) rfl rfl (Nat.le_of_ble_eq_true rfl) ⟨Nat.le_of_ble_eq_true rfl, Nat.le_of_ble_eq_true rfl⟩ ⟨Nat.le_of_ble_eq_true rfl, Nat.le_of_ble_eq_true rfl⟩ ?_
  rintro v I1 J1 ⟨rfl, rfl, rfl⟩
  refine G_putr (pc := 12) dX0_init_12 fiX0_12 prX0_12 (by first | rfl | assumption) (by omega) ?_
  refine G_aload_n (pc := 15) dX0_init_15 rfl ?_
  refine G_new (pc := 16) dX0_init_16 clX0_9 cw_7 (by first | rfl | assumption) (by first | assumption | exact hI.up (by omega) | (repeat (refine IZ.wr ?_ (by omega))); exact hI.up (by omega)) (by first | assumption | exact hJ.up (by omega) | (repeat (refine IZ.wr ?_ (by omega))); exact hJ.up (by omega)) (by first | assumption | exact hR.up (by omega) | (repeat (refine RZ.wr ?_ (by omega))); exact hR.up (by omega)) ⟨Nat.le_of_ble_eq_true rfl, Nat.le_of_ble_eq_true rfl⟩ ?_
  refine G_dup (pc := 19) dX0_init_19 rfl ?_
  refine G_callI (pc := 20) (md := mdX7_init) (av := []) dX0_init_20 lkX0_11 mwX7_init rfl rfl (m_Row 60 rfl (by omega) rfl rfl (hI.up (by omega)) (hJ.up (by omega)) (by (repeat (refine RZ.wr ?_ (by omega))); exact hR.up (by omega))) rfl rfl (Nat.le_of_ble_eq_true rfl) ⟨Nat.le_of_ble_eq_true rfl, Nat.le_of_ble_eq_true rfl⟩ ⟨Nat.le_of_ble_eq_true rfl, Nat.le_of_ble_eq_true rfl⟩ ?_
  rintro v I1 J1 ⟨rfl, rfl, rfl⟩
  refine G_putr (pc := 23) dX0_init_23 fiX0_18 prX0_18 (by first | rfl | assumption) (by omega) ?_
  refine G_aload_n (pc := 26) dX0_init_26 rfl ?_
  refine G_aload_n (pc := 27) dX0_init_27 rfl ?_
  refine G_putr (pc := 28) dX0_init_28 fiX0_21 prX0_21 (by first | rfl | assumption) (by omega) ?_
  refine G_aload_n (pc := 31) dX0_init_31 rfl ?_
  refine G_new (pc := 32) dX0_init_32 clX0_25 cw_8 (by first | rfl | assumption) (by first | assumption | exact hI.up (by omega) | (repeat (refine IZ.wr ?_ (by omega))); exact hI.up (by omega)) (by first | assumption | exact hJ.up (by omega) | (repeat (refine IZ.wr ?_ (by omega))); exact hJ.up (by omega)) (by first | assumption | exact hR.up (by omega) | (repeat (refine RZ.wr ?_ (by omega))); exact hR.up (by omega)) ⟨Nat.le_of_ble_eq_true rfl, Nat.le_of_ble_eq_true rfl⟩ ?_
  refine G_dup (pc := 35) dX0_init_35 rfl ?_
  refine G_aload_n (pc := 36) dX0_init_36 rfl ?_
  refine G_callI (pc := 37) (md := mdX8_init) (av := [_]) dX0_init_37 lkX0_27 mwX8_init rfl rfl (m_Sieve 63 3 rfl (by omega) rfl rfl (hI.up (by omega)) (hJ.up (by omega)) (by (repeat (refine RZ.wr ?_ (by omega))); exact hR.up (by omega))) rfl rfl (Nat.le_of_ble_eq_true rfl) ⟨Nat.le_of_ble_eq_true rfl, Nat.le_of_ble_eq_true rfl⟩ ⟨Nat.le_of_ble_eq_true rfl, Nat.le_of_ble_eq_true rfl⟩ ?_
  rintro v I1 J1 ⟨rfl, rfl, rfl⟩
  refine G_putr (pc := 40) dX0_init_40 fiX0_30 prX0_30 (by first | rfl | assumption) (by omega) ?_
  refine G_vret (pc := 43) dX0_init_43 rfl ?_
  exact ⟨rfl, rfl, rfl⟩
def Q0 : Option Value → (Nat → Nat → Int) → (Nat → Nat → Int) → Prop := fun v I' J' => v = none ∧ J' = (fun _ _ => 0) ∧ CIS I' S0 ∧ IZ I' 71
theorem m_Main : FnM E mdX11_init 8 70 1006 1 (fun _ _ => none) 71 Rf [vr E 0] (fun _ _ => 0) (fun _ _ => 0) Q0 := by
  have hI : IZ (fun _ _ => 0) 1 := fun _ _ _ => rfl
  have hJ : IZ (fun _ _ => 0) 1 := fun _ _ _ => rfl
  have hR : RZ (fun _ _ => none) 1 := fun _ _ _ => rfl
  refine FnM.of (by decide +kernel) rfl (Nat.le_of_ble_eq_true rfl) ?_
  show GK E mdX11_init 8 70 1006 _ _ _ 1 _ _ _ 0 0 0 [some (vr E 0)] []
  refine G_aload_n (pc := 0) dX11_init_0 rfl ?_
  refine G_obj (pc := 1) dX11_init_1 oi_X11 oi_inst oi_code (Nat.le_of_ble_eq_true rfl) ⟨Nat.le_of_ble_eq_true rfl, Nat.le_of_ble_eq_true rfl⟩ ?_
  refine G_aload_n (pc := 4) dX11_init_4 rfl ?_
  refine G_new (pc := 5) dX11_init_5 clX11_7 cw_9 (by first | rfl | assumption) (by first | assumption | exact hI.up (by omega) | (repeat (refine IZ.wr ?_ (by omega))); exact hI.up (by omega)) (by first | assumption | exact hJ.up (by omega) | (repeat (refine IZ.wr ?_ (by omega))); exact hJ.up (by omega)) (by first | assumption | exact hR.up (by omega) | (repeat (refine RZ.wr ?_ (by omega))); exact hR.up (by omega)) ⟨Nat.le_of_ble_eq_true rfl, Nat.le_of_ble_eq_true rfl⟩ ?_
  refine G_dup (pc := 8) dX11_init_8 rfl ?_
  refine G_callI (pc := 9) (md := mdX9_init) (av := []) dX11_init_9 lkX11_9 mwX9_init rfl rfl (m_Text 1 rfl (by omega) rfl (hI.up (by omega)) (hJ.up (by omega)) (by (repeat (refine RZ.wr ?_ (by omega))); exact hR.up (by omega))) rfl rfl (Nat.le_of_ble_eq_true rfl) ⟨Nat.le_of_ble_eq_true rfl, Nat.le_of_ble_eq_true rfl⟩ ⟨Nat.le_of_ble_eq_true rfl, Nat.le_of_ble_eq_true rfl⟩ ?_
  rintro v I1 J1 ⟨rfl, rfl, rfl⟩
  refine G_putr (pc := 12) dX11_init_12 fiX11_10 prX11_10 (by first | rfl | assumption) (by omega) ?_
  refine G_aload_n (pc := 15) dX11_init_15 rfl ?_
  refine G_new (pc := 16) dX11_init_16 clX11_16 cw_4 (by first | rfl | assumption) (by first | assumption | exact hI.up (by omega) | (repeat (refine IZ.wr ?_ (by omega))); exact hI.up (by omega)) (by first | assumption | exact hJ.up (by omega) | (repeat (refine IZ.wr ?_ (by omega))); exact hJ.up (by omega)) (by first | assumption | exact hR.up (by omega) | (repeat (refine RZ.wr ?_ (by omega))); exact hR.up (by omega)) ⟨Nat.le_of_ble_eq_true rfl, Nat.le_of_ble_eq_true rfl⟩ ?_
  refine G_dup (pc := 19) dX11_init_19 rfl ?_
  refine G_callI (pc := 20) (md := mdX4_init) (av := []) dX11_init_20 lkX11_18 mwX4_init rfl rfl (m_House 3 (Or.inl rfl) (by omega) rfl rfl rfl rfl rfl rfl rfl rfl (hI.up (by omega)) (hJ.up (by omega)) (by (repeat (refine RZ.wr ?_ (by omega))); exact hR.up (by omega))) rfl rfl (Nat.le_of_ble_eq_true rfl) ⟨Nat.le_of_ble_eq_true rfl, Nat.le_of_ble_eq_true rfl⟩ ⟨Nat.le_of_ble_eq_true rfl, Nat.le_of_ble_eq_true rfl⟩ ?_
  rintro v I1 J1 ⟨rfl, rfl, rfl⟩
  refine G_putr (pc := 23) dX11_init_23 fiX11_19 prX11_19 (by first | rfl | assumption) (by omega) ?_
  refine G_aload_n (pc := 26) dX11_init_26 rfl ?_
  refine G_new (pc := 27) dX11_init_27 clX11_23 cw_1 (by first | rfl | assumption) (by first | assumption | exact hI.up (by omega) | (repeat (refine IZ.wr ?_ (by omega))); exact hI.up (by omega)) (by first | assumption | exact hJ.up (by omega) | (repeat (refine IZ.wr ?_ (by omega))); exact hJ.up (by omega)) (by first | assumption | exact hR.up (by omega) | (repeat (refine RZ.wr ?_ (by omega))); exact hR.up (by omega)) ⟨Nat.le_of_ble_eq_true rfl, Nat.le_of_ble_eq_true rfl⟩ ?_
  refine G_dup (pc := 30) dX11_init_30 rfl ?_
  refine G_callI (pc := 31) (md := mdX1_init) (av := []) dX11_init_31 lkX11_25 mwX1_init rfl rfl (m_Course 12 rfl (by omega) rfl rfl rfl rfl rfl rfl rfl rfl (by (repeat (refine IZ.wr ?_ (by omega))); exact hI.up (by omega)) (hJ.up (by omega)) (by (repeat (refine RZ.wr ?_ (by omega))); exact hR.up (by omega))) rfl rfl (Nat.le_of_ble_eq_true rfl) ⟨Nat.le_of_ble_eq_true rfl, Nat.le_of_ble_eq_true rfl⟩ ⟨Nat.le_of_ble_eq_true rfl, Nat.le_of_ble_eq_true rfl⟩ ?_
  rintro v I1 J1 ⟨rfl, rfl, rfl⟩
  refine G_putr (pc := 34) dX11_init_34 fiX11_26 prX11_26 (by first | rfl | assumption) (by omega) ?_
  refine G_aload_n (pc := 37) dX11_init_37 rfl ?_
  refine G_new (pc := 38) dX11_init_38 clX11_16 cw_4 (by first | rfl | assumption) (by first | assumption | exact hI.up (by omega) | (repeat (refine IZ.wr ?_ (by omega))); exact hI.up (by omega)) (by first | assumption | exact hJ.up (by omega) | (repeat (refine IZ.wr ?_ (by omega))); exact hJ.up (by omega)) (by first | assumption | exact hR.up (by omega) | (repeat (refine RZ.wr ?_ (by omega))); exact hR.up (by omega)) ⟨Nat.le_of_ble_eq_true rfl, Nat.le_of_ble_eq_true rfl⟩ ?_
  refine G_dup (pc := 41) dX11_init_41 rfl ?_
  refine G_callI (pc := 42) (md := mdX4_init) (av := []) dX11_init_42 lkX11_18 mwX4_init rfl rfl (m_House 21 (Or.inr rfl) (by omega) rfl rfl rfl rfl rfl rfl rfl rfl (by (repeat (refine IZ.wr ?_ (by omega))); exact hI.up (by omega)) (hJ.up (by omega)) (by (repeat (refine RZ.wr ?_ (by omega))); exact hR.up (by omega))) rfl rfl (Nat.le_of_ble_eq_true rfl) ⟨Nat.le_of_ble_eq_true rfl, Nat.le_of_ble_eq_true rfl⟩ ⟨Nat.le_of_ble_eq_true rfl, Nat.le_of_ble_eq_true rfl⟩ ?_
  rintro v I1 J1 ⟨rfl, rfl, rfl⟩
  refine G_putr (pc := 45) dX11_init_45 fiX11_30 prX11_30 (by first | rfl | assumption) (by omega) ?_
  refine G_aload_n (pc := 48) dX11_init_48 rfl ?_
  refine G_new (pc := 49) dX11_init_49 clX11_33 cw_7 (by first | rfl | assumption) (by first | assumption | exact hI.up (by omega) | (repeat (refine IZ.wr ?_ (by omega))); exact hI.up (by omega)) (by first | assumption | exact hJ.up (by omega) | (repeat (refine IZ.wr ?_ (by omega))); exact hJ.up (by omega)) (by first | assumption | exact hR.up (by omega) | (repeat (refine RZ.wr ?_ (by omega))); exact hR.up (by omega)) ⟨Nat.le_of_ble_eq_true rfl, Nat.le_of_ble_eq_true rfl⟩ ?_
  refine G_dup (pc := 52) dX11_init_52 rfl ?_
  refine G_callI (pc := 53) (md := mdX7_init) (av := []) dX11_init_53 lkX11_35 mwX7_init rfl rfl (m_Row 30 rfl (by omega) rfl rfl (by (repeat (refine IZ.wr ?_ (by omega))); exact hI.up (by omega)) (hJ.up (by omega)) (by (repeat (refine RZ.wr ?_ (by omega))); exact hR.up (by omega))) rfl rfl (Nat.le_of_ble_eq_true rfl) ⟨Nat.le_of_ble_eq_true rfl, Nat.le_of_ble_eq_true rfl⟩ ⟨Nat.le_of_ble_eq_true rfl, Nat.le_of_ble_eq_true rfl⟩ ?_
  rintro v I1 J1 ⟨rfl, rfl, rfl⟩
  refine G_putr (pc := 56) dX11_init_56 fiX11_36 prX11_36 (by first | rfl | assumption) (by omega) ?_
  refine G_aload_n (pc := 59) dX11_init_59 rfl ?_
  refine G_new (pc := 60) dX11_init_60 clX11_40 cw_6 (by first | rfl | assumption) (by first | assumption | exact hI.up (by omega) | (repeat (refine IZ.wr ?_ (by omega))); exact hI.up (by omega)) (by first | assumption | exact hJ.up (by omega) | (repeat (refine IZ.wr ?_ (by omega))); exact hJ.up (by omega)) (by first | assumption | exact hR.up (by omega) | (repeat (refine RZ.wr ?_ (by omega))); exact hR.up (by omega)) ⟨Nat.le_of_ble_eq_true rfl, Nat.le_of_ble_eq_true rfl⟩ ?_
  refine G_dup (pc := 63) dX11_init_63 rfl ?_
  refine G_aload_n (pc := 64) dX11_init_64 rfl ?_
  refine G_getr (pc := 65) (j := 21) dX11_init_65 fiX11_30 (by first | rfl | assumption) (by omega) (by decide +kernel) ?_
  refine G_aload_n (pc := 68) dX11_init_68 rfl ?_
  refine G_getr (pc := 69) (j := 30) dX11_init_69 fiX11_36 (by first | rfl | assumption) (by omega) (by decide +kernel) ?_
  refine G_callI (pc := 72) (md := mdX6_init) (av := [_, _]) dX11_init_72 lkX11_42 mwX6_init rfl rfl (m_Reader 33 21 30 rfl (by omega) rfl (by (repeat (refine IZ.wr ?_ (by omega))); exact hI.up (by omega)) (hJ.up (by omega)) (by (repeat (refine RZ.wr ?_ (by omega))); exact hR.up (by omega))) rfl rfl (Nat.le_of_ble_eq_true rfl) ⟨Nat.le_of_ble_eq_true rfl, Nat.le_of_ble_eq_true rfl⟩ ⟨Nat.le_of_ble_eq_true rfl, Nat.le_of_ble_eq_true rfl⟩ ?_
  rintro v I1 J1 ⟨rfl, rfl, rfl⟩
  refine G_putr (pc := 75) dX11_init_75 fiX11_45 prX11_45 (by first | rfl | assumption) (by omega) ?_
  refine G_aload_n (pc := 78) dX11_init_78 rfl ?_
  refine G_new (pc := 79) dX11_init_79 clX11_23 cw_1 (by first | rfl | assumption) (by first | assumption | exact hI.up (by omega) | (repeat (refine IZ.wr ?_ (by omega))); exact hI.up (by omega)) (by first | assumption | exact hJ.up (by omega) | (repeat (refine IZ.wr ?_ (by omega))); exact hJ.up (by omega)) (by first | assumption | exact hR.up (by omega) | (repeat (refine RZ.wr ?_ (by omega))); exact hR.up (by omega)) ⟨Nat.le_of_ble_eq_true rfl, Nat.le_of_ble_eq_true rfl⟩ ?_
  refine G_dup (pc := 82) dX11_init_82 rfl ?_
  refine G_callI (pc := 83) (md := mdX1_init) (av := []) dX11_init_83 lkX11_25 mwX1_init rfl rfl (m_Course 35 rfl (by omega) rfl rfl rfl rfl rfl rfl rfl rfl (by (repeat (refine IZ.wr ?_ (by omega))); exact hI.up (by omega)) (hJ.up (by omega)) (by (repeat (refine RZ.wr ?_ (by omega))); exact hR.up (by omega))) rfl rfl (Nat.le_of_ble_eq_true rfl) ⟨Nat.le_of_ble_eq_true rfl, Nat.le_of_ble_eq_true rfl⟩ ⟨Nat.le_of_ble_eq_true rfl, Nat.le_of_ble_eq_true rfl⟩ ?_
  rintro v I1 J1 ⟨rfl, rfl, rfl⟩
  refine G_putr (pc := 86) dX11_init_86 fiX11_49 prX11_49 (by first | rfl | assumption) (by omega) ?_
  refine G_aload_n (pc := 89) dX11_init_89 rfl ?_
  refine G_new (pc := 90) dX11_init_90 clX11_23 cw_1 (by first | rfl | assumption) (by first | assumption | exact hI.up (by omega) | (repeat (refine IZ.wr ?_ (by omega))); exact hI.up (by omega)) (by first | assumption | exact hJ.up (by omega) | (repeat (refine IZ.wr ?_ (by omega))); exact hJ.up (by omega)) (by first | assumption | exact hR.up (by omega) | (repeat (refine RZ.wr ?_ (by omega))); exact hR.up (by omega)) ⟨Nat.le_of_ble_eq_true rfl, Nat.le_of_ble_eq_true rfl⟩ ?_
  refine G_dup (pc := 93) dX11_init_93 rfl ?_
  refine G_callI (pc := 94) (md := mdX1_init) (av := []) dX11_init_94 lkX11_25 mwX1_init rfl rfl (m_Course 44 rfl (by omega) rfl rfl rfl rfl rfl rfl rfl rfl (by (repeat (refine IZ.wr ?_ (by omega))); exact hI.up (by omega)) (hJ.up (by omega)) (by (repeat (refine RZ.wr ?_ (by omega))); exact hR.up (by omega))) rfl rfl (Nat.le_of_ble_eq_true rfl) ⟨Nat.le_of_ble_eq_true rfl, Nat.le_of_ble_eq_true rfl⟩ ⟨Nat.le_of_ble_eq_true rfl, Nat.le_of_ble_eq_true rfl⟩ ?_
  rintro v I1 J1 ⟨rfl, rfl, rfl⟩
  refine G_putr (pc := 97) dX11_init_97 fiX11_52 prX11_52 (by first | rfl | assumption) (by omega) ?_
  refine G_aload_n (pc := 100) dX11_init_100 rfl ?_
  refine G_new (pc := 101) dX11_init_101 clX11_55 cw_8 (by first | rfl | assumption) (by first | assumption | exact hI.up (by omega) | (repeat (refine IZ.wr ?_ (by omega))); exact hI.up (by omega)) (by first | assumption | exact hJ.up (by omega) | (repeat (refine IZ.wr ?_ (by omega))); exact hJ.up (by omega)) (by first | assumption | exact hR.up (by omega) | (repeat (refine RZ.wr ?_ (by omega))); exact hR.up (by omega)) ⟨Nat.le_of_ble_eq_true rfl, Nat.le_of_ble_eq_true rfl⟩ ?_
  refine G_dup (pc := 104) dX11_init_104 rfl ?_
  refine G_aload_n (pc := 105) dX11_init_105 rfl ?_
  refine G_getr (pc := 106) (j := 3) dX11_init_106 fiX11_19 (by first | rfl | assumption) (by omega) (by decide +kernel) ?_
  refine G_callI (pc := 109) (md := mdX8_init) (av := [_]) dX11_init_109 lkX11_57 mwX8_init rfl rfl (m_Sieve 53 3 rfl (by omega) rfl rfl (by (repeat (refine IZ.wr ?_ (by omega))); exact hI.up (by omega)) (hJ.up (by omega)) (by (repeat (refine RZ.wr ?_ (by omega))); exact hR.up (by omega))) rfl rfl (Nat.le_of_ble_eq_true rfl) ⟨Nat.le_of_ble_eq_true rfl, Nat.le_of_ble_eq_true rfl⟩ ⟨Nat.le_of_ble_eq_true rfl, Nat.le_of_ble_eq_true rfl⟩ ?_
  rintro v I1 J1 ⟨rfl, rfl, rfl⟩
  refine G_putr (pc := 112) dX11_init_112 fiX11_60 prX11_60 (by first | rfl | assumption) (by omega) ?_
  refine G_aload_n (pc := 115) dX11_init_115 rfl ?_
  refine G_new (pc := 116) dX11_init_116 clX11_64 cw_0 (by first | rfl | assumption) (by first | assumption | exact hI.up (by omega) | (repeat (refine IZ.wr ?_ (by omega))); exact hI.up (by omega)) (by first | assumption | exact hJ.up (by omega) | (repeat (refine IZ.wr ?_ (by omega))); exact hJ.up (by omega)) (by first | assumption | exact hR.up (by omega) | (repeat (refine RZ.wr ?_ (by omega))); exact hR.up (by omega)) ⟨Nat.le_of_ble_eq_true rfl, Nat.le_of_ble_eq_true rfl⟩ ?_
  refine G_dup (pc := 119) dX11_init_119 rfl ?_
  refine G_aload_n (pc := 120) dX11_init_120 rfl ?_
  refine G_getr (pc := 121) (j := 3) dX11_init_121 fiX11_19 (by first | rfl | assumption) (by omega) (by decide +kernel) ?_
  refine G_callI (pc := 124) (md := mdX0_init) (av := [_]) dX11_init_124 lkX11_66 mwX0_init rfl rfl (m_Chooser (by (repeat (refine IZ.wr ?_ (by omega))); exact hI.up (by omega)) (hJ.up (by omega)) (by (repeat (refine RZ.wr ?_ (by omega))); exact hR.up (by omega))) rfl rfl (Nat.le_of_ble_eq_true rfl) ⟨Nat.le_of_ble_eq_true rfl, Nat.le_of_ble_eq_true rfl⟩ ⟨Nat.le_of_ble_eq_true rfl, Nat.le_of_ble_eq_true rfl⟩ ?_
  rintro v I1 J1 ⟨rfl, rfl, rfl⟩
  refine G_putr (pc := 127) dX11_init_127 fiX11_67 prX11_67 (by first | rfl | assumption) (by omega) ?_
  refine G_aload_n (pc := 130) dX11_init_130 rfl ?_
  refine G_new (pc := 131) dX11_init_131 clX11_71 cw_3 (by first | rfl | assumption) (by first | assumption | exact hI.up (by omega) | (repeat (refine IZ.wr ?_ (by omega))); exact hI.up (by omega)) (by first | assumption | exact hJ.up (by omega) | (repeat (refine IZ.wr ?_ (by omega))); exact hJ.up (by omega)) (by first | assumption | exact hR.up (by omega) | (repeat (refine RZ.wr ?_ (by omega))); exact hR.up (by omega)) ⟨Nat.le_of_ble_eq_true rfl, Nat.le_of_ble_eq_true rfl⟩ ?_
  refine G_dup (pc := 134) dX11_init_134 rfl ?_
  refine G_callI (pc := 135) (md := mdX3_init) (av := []) dX11_init_135 lkX11_73 mwX3_init rfl rfl (m_Fraction 66 rfl (by omega)) rfl rfl (Nat.le_of_ble_eq_true rfl) ⟨Nat.le_of_ble_eq_true rfl, Nat.le_of_ble_eq_true rfl⟩ ⟨Nat.le_of_ble_eq_true rfl, Nat.le_of_ble_eq_true rfl⟩ ?_
  rintro v I1 J1 ⟨rfl, rfl, rfl⟩
  refine G_putr (pc := 138) dX11_init_138 fiX11_74 prX11_74 (by first | rfl | assumption) (by omega) ?_
  refine G_aload_n (pc := 141) dX11_init_141 rfl ?_
  refine G_new (pc := 142) dX11_init_142 clX11_78 cw_2 (by first | rfl | assumption) (by first | assumption | exact hI.up (by omega) | (repeat (refine IZ.wr ?_ (by omega))); exact hI.up (by omega)) (by first | assumption | exact hJ.up (by omega) | (repeat (refine IZ.wr ?_ (by omega))); exact hJ.up (by omega)) (by first | assumption | exact hR.up (by omega) | (repeat (refine RZ.wr ?_ (by omega))); exact hR.up (by omega)) ⟨Nat.le_of_ble_eq_true rfl, Nat.le_of_ble_eq_true rfl⟩ ?_
  refine G_dup (pc := 145) dX11_init_145 rfl ?_
  refine G_aload_n (pc := 146) dX11_init_146 rfl ?_
  refine G_getr (pc := 147) (j := 3) dX11_init_147 fiX11_19 (by first | rfl | assumption) (by omega) (by decide +kernel) ?_
  refine G_aload_n (pc := 150) dX11_init_150 rfl ?_
  refine G_getr (pc := 151) (j := 66) dX11_init_151 fiX11_74 (by first | rfl | assumption) (by omega) (by decide +kernel) ?_
  refine G_callI (pc := 154) (md := mdX2_init) (av := [_, _]) dX11_init_154 lkX11_80 mwX2_init rfl rfl (m_Feelings 67 3 66 rfl (by omega)) rfl rfl (Nat.le_of_ble_eq_true rfl) ⟨Nat.le_of_ble_eq_true rfl, Nat.le_of_ble_eq_true rfl⟩ ⟨Nat.le_of_ble_eq_true rfl, Nat.le_of_ble_eq_true rfl⟩ ?_
  rintro v I1 J1 ⟨rfl, rfl, rfl⟩
  refine G_putr (pc := 157) dX11_init_157 fiX11_83 prX11_83 (by first | rfl | assumption) (by omega) ?_
  refine G_aload_n (pc := 160) dX11_init_160 rfl ?_
  refine G_new (pc := 161) dX11_init_161 clX11_87 cw_5 (by first | rfl | assumption) (by first | assumption | exact hI.up (by omega) | (repeat (refine IZ.wr ?_ (by omega))); exact hI.up (by omega)) (by first | assumption | exact hJ.up (by omega) | (repeat (refine IZ.wr ?_ (by omega))); exact hJ.up (by omega)) (by first | assumption | exact hR.up (by omega) | (repeat (refine RZ.wr ?_ (by omega))); exact hR.up (by omega)) ⟨Nat.le_of_ble_eq_true rfl, Nat.le_of_ble_eq_true rfl⟩ ?_
  refine G_dup (pc := 164) dX11_init_164 rfl ?_
  refine G_aload_n (pc := 165) dX11_init_165 rfl ?_
  refine G_getr (pc := 166) (j := 3) dX11_init_166 fiX11_19 (by first | rfl | assumption) (by omega) (by decide +kernel) ?_
  refine G_callI (pc := 169) (md := mdX5_init) (av := [_]) dX11_init_169 lkX11_89 mwX5_init rfl rfl (m_Night 68 3 rfl (by omega) rfl rfl (by (repeat (refine IZ.wr ?_ (by omega))); exact hI.up (by omega)) (hJ.up (by omega)) (by (repeat (refine RZ.wr ?_ (by omega))); exact hR.up (by omega))) rfl rfl (Nat.le_of_ble_eq_true rfl) ⟨Nat.le_of_ble_eq_true rfl, Nat.le_of_ble_eq_true rfl⟩ ⟨Nat.le_of_ble_eq_true rfl, Nat.le_of_ble_eq_true rfl⟩ ?_
  rintro v I1 J1 ⟨rfl, rfl, rfl⟩
  refine G_putr (pc := 172) dX11_init_172 fiX11_90 prX11_90 (by first | rfl | assumption) (by omega) ?_
  refine G_world (R' := Rf) (by decide +kernel) ?_
  have hH0 : HI (clrI (clrI (fun _ _ => 0) 3) 21) 3 (clearH fun _ _ => 0) := HI.off (I := clrI (fun _ _ => 0) 3) HI_clear fun q a b => by simp (disch := omega) only [wr_o]
  refine G_aload_n (pc := 175) dX11_init_175 rfl ?_
  refine G_getr (pc := 176) dX11_init_176 fiX11_19 (by first | rfl | assumption) (by omega) rfl ?_
  refine G_bipush (pc := 179) dX11_init_179 (by decide) ?_
  refine G_iconst (pc := 181) dX11_init_181 ?_
  refine G_iconst (pc := 182) dX11_init_182 ?_
  refine G_iconst (pc := 183) dX11_init_183 ?_
  refine G_callV (pc := 184) (md := mdX4_addSort) (av := [_, _, _, _]) dX11_init_184 lkX11_94 mwX4_addSort (c_addSort 3 10 5 5 0 (Or.inl rfl) (by omega) hH0 (clearH_B _) (by omega) (by omega) (by omega) (by omega)) rfl (by first | rfl | assumption) (by omega) rfl rfl (Nat.le_of_ble_eq_true rfl) (by decide) ⟨Nat.le_of_ble_eq_true rfl, Nat.le_of_ble_eq_true rfl⟩ ?_
  rintro v I1 J1 ⟨rfl, hor⟩
  obtain ⟨-, rfl, hH1, hO1⟩ := hor.resolve_right (fun z => z.1 ok_s0)
  refine G_pop (pc := 187) dX11_init_187 rfl ?_
  refine G_aload_n (pc := 188) dX11_init_188 rfl ?_
  refine G_getr (pc := 189) dX11_init_189 fiX11_19 (by first | rfl | assumption) (by omega) rfl ?_
  refine G_iconst (pc := 192) dX11_init_192 ?_
  refine G_iconst (pc := 193) dX11_init_193 ?_
  refine G_iconst (pc := 194) dX11_init_194 ?_
  refine G_iconst (pc := 195) dX11_init_195 ?_
  refine G_callV (pc := 196) (md := mdX4_addAsk) (av := [_, _, _, _]) dX11_init_196 lkX11_98 mwX4_addAsk (c_addAsk 3 5 2 5 5 (Or.inl rfl) (by omega) hH1 (addSortH_B (clearH_B _) ok_s0) (by omega) (by omega) (by omega) (by omega)) rfl (by first | rfl | assumption) (by omega) rfl rfl (Nat.le_of_ble_eq_true rfl) (by decide) ⟨Nat.le_of_ble_eq_true rfl, Nat.le_of_ble_eq_true rfl⟩ ?_
  rintro v I2 J2 ⟨rfl, hor⟩
  obtain ⟨-, rfl, hH2, hO2⟩ := hor.resolve_right (fun z => z.1 ok_a0)
  refine G_pop (pc := 199) dX11_init_199 rfl ?_
  refine G_vret (pc := 200) dX11_init_200 rfl ?_
  have o : ∀ x, (x < 3 ∨ 11 < x) → x ≠ 21 → ∀ i, I2 x i = 0 := by
    intro x h1 h2 i
    rw [hO2 x (by omega), hO1 x (by omega)]
    simp (disch := omega) only [wr_o]
  refine ⟨rfl, rfl, ⟨⟨o 1 (by omega) (by omega) 1, fun i hi => absurd hi (Nat.not_lt_zero _)⟩, hH2, ⟨o 13 (by omega) (by omega) 2, fun i hi => absurd hi (Nat.not_lt_zero _)⟩, ⟨o 16 (by omega) (by omega) 4, fun i hi => absurd hi (Nat.not_lt_zero _)⟩, o 0 (by omega) (by omega) 13, fun z => absurd z (by decide), fun z => absurd z (by decide), Or.inl (o 56 (by omega) (by omega) 4)⟩, fun x hx i => o x (by omega) (by omega) i⟩
end MAKERS2
