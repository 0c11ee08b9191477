/-! THE REFERENCE'S CALLS, third: what is kept -/
theorem RM.same {I I' : Nat → Nat → Int} {j : Nat} {C : CS} (h : RM I j C) (h8 : C 0 0 ≤ 8) (h1 : I' 79 j = I 79 j) (h2 : ∀ x, 16 * j ≤ x → x < 16 * j + 16 → I' 80 x = I 80 x) : RM I' j C := ⟨by rw [h1]; exact h.1, fun t ht => by rw [h2 _ (by omega) (by omega), h2 _ (by omega) (by omega)]; exact h.2 t ht⟩
theorem TM.same {I I' : Nat → Nat → Int} {j : Nat} {C : CS} (h : TM I j C) (h8 : C 3 0 ≤ 3) (h1 : I' 81 j = I 81 j) (h2 : ∀ x, 12 * j ≤ x → x < 12 * j + 12 → I' 82 x = I 82 x) : TM I' j C := ⟨by rw [h1]; exact h.1, fun t ht => by rw [h2 _ (by omega) (by omega), h2 _ (by omega) (by omega), h2 _ (by omega) (by omega), h2 _ (by omega) (by omega)]; exact h.2 t ht⟩
/-- slot b is now as slot a was; k places of it, all else as before -/
def cpS (I I' : Nat → Nat → Int) (a b k : Nat) : Prop := Off I I' 79 82 ∧ (I' 79 b = I 79 a ∧ ∀ x, x ≠ b → I' 79 x = I 79 x) ∧ (I' 81 b = I 81 a ∧ ∀ x, x ≠ b → I' 81 x = I 81 x) ∧ (∀ y, y < k → I' 80 (16 * b + y) = I 80 (16 * a + y)) ∧ (∀ x, (x < 16 * b ∨ 16 * b + 16 ≤ x) → I' 80 x = I 80 x) ∧ (∀ y, y < k → y < 12 → I' 82 (12 * b + y) = I 82 (12 * a + y)) ∧ ∀ x, (x < 12 * b ∨ 12 * b + 12 ≤ x) → I' 82 x = I 82 x
theorem cpS.to {I I' : Nat → Nat → Int} {a b : Nat} {C : CS} (h : cpS I I' a b 16) (hR : RM I a C) (hT : TM I a C) (h8 : C 0 0 ≤ 8) (h3 : C 3 0 ≤ 3) : RM I' b C ∧ TM I' b C := by
  obtain ⟨-, ⟨e1, -⟩, ⟨e2, -⟩, e3, -, e4, -⟩ := h
  refine ⟨⟨by rw [e1]; exact hR.1, fun t ht => ?_⟩, ⟨by rw [e2]; exact hT.1, fun t ht => ?_⟩⟩
  · rw [Nat.add_assoc, e3 _ (by omega), e3 _ (by omega), ← Nat.add_assoc]; exact hR.2 t ht
  · rw [Nat.add_assoc, Nat.add_assoc, Nat.add_assoc, e4 _ (by omega) (by omega), e4 _ (by omega) (by omega), e4 _ (by omega) (by omega), e4 _ (by omega) (by omega), ← Nat.add_assoc, ← Nat.add_assoc, ← Nat.add_assoc]; exact hT.2 t ht
theorem cpS.old {I I' : Nat → Nat → Int} {a b k j : Nat} {C : CS} (h : cpS I I' a b k) (hj : j ≠ b) (z : RM I j C ∧ TM I j C) (h8 : C 0 0 ≤ 8) (h3 : C 3 0 ≤ 3) : RM I' j C ∧ TM I' j C := by
  obtain ⟨-, ⟨-, e1⟩, ⟨-, e2⟩, -, e3, -, e4⟩ := h
  exact ⟨z.1.same h8 (e1 j hj) (fun x h1 h2 => e3 x (by omega)), z.2.same h3 (e2 j hj) (fun x h1 h2 => e4 x (by omega))⟩
section MOD5
variable {E : EV} {M : Nat} {I J : Nat → Nat → Int} {n : Nat} {tx : Nat → Int} {hs : HS} {C : CS} {kn : Nat} {K : Nat → CS}
theorem m_copies (a b : Nat) (ha : a ≤ 2) (hb : b ≤ 2) (hab : a ≠ b) (hM : 87 ≤ M) : FnQ E mdX12_copies 0 M Rf [vr E 71, vi (a : Int), vi (b : Int)] I J (fun v I' J' => v = none ∧ J' = J ∧ cpS I I' a b 16) := by
  refine FnQ.of (by decide +kernel) (Nat.le_of_ble_eq_true rfl) ?_
  show GM E mdX12_copies 0 M Rf _ I J 0 [some (vr E 71), some (vi (a : Int)), some (vi (b : Int)), none] []
  have loop : ∀ (r k : Nat) (I' : Nat → Nat → Int), k + r = 16 → cpS I I' a b k → GM E mdX12_copies 0 M Rf (fun v I' J' => v = none ∧ J' = J ∧ cpS I I' a b 16) I' J 26 [some (vr E 71), some (vi (a : Int)), some (vi (b : Int)), some (vi (k : Int))] [] := by
    intro r
    induction r with
    | zero =>
      intro k I' hk hc
      have hk : k = 16 := by omega
      subst hk
      refine G_iload_n (pc := 26) dX12_copies_26 rfl ?_
      refine G_bipush (pc := 27) dX12_copies_27 (by decide) ?_
      refine G_icmp_ge (pc := 29) (tgt := 88) dX12_copies_29 (Ri.mk (by omega) (by omega)) (Ri.mk (by omega) (by omega)) (by decide) (fun h_29 => ?_) (fun h_29 => ?_)
      · refine G_vret (pc := 88) dX12_copies_88 rfl ?_
        exact ⟨rfl, rfl, hc⟩
      · exact absurd h_29 (by omega)
    | succ r ih =>
      intro k I' hk hc
      obtain ⟨hO, ⟨h1, h2⟩, ⟨h3, h4⟩, h5, h6, h7, h8⟩ := hc
      have e1 : (16 * (b : Int) + k).toNat = 16 * b + k := by omega
      have e2 : (16 * (a : Int) + k).toNat = 16 * a + k := by omega
      have e3 : (12 * (b : Int) + k).toNat = 12 * b + k := by omega
      have e4 : (12 * (a : Int) + k).toNat = 12 * a + k := by omega
      refine G_iload_n (pc := 26) dX12_copies_26 rfl ?_
      refine G_bipush (pc := 27) dX12_copies_27 (by decide) ?_
      refine G_icmp_ge (pc := 29) (tgt := 88) dX12_copies_29 (Ri.mk (by omega) (by omega)) (Ri.mk (by omega) (by omega)) (by decide) (fun h_29 => ?_) (fun h_29 => ?_)
      · exact absurd h_29 (by omega)
      · refine G_aload_n (pc := 32) dX12_copies_32 rfl ?_
        refine G_getr (pc := 33) dX12_copies_33 fiX12_35 (by first | rfl | assumption) (by omega) (by first | rfl | assumption) ?_
        refine G_bipush (pc := 36) dX12_copies_36 (by decide) ?_
        refine G_iload_n (pc := 38) dX12_copies_38 rfl ?_
        refine G_imul (pc := 39) dX12_copies_39 ?_
        refine G_iload_n (pc := 40) dX12_copies_40 rfl ?_
        refine G_iadd (pc := 41) dX12_copies_41 ?_
        refine G_aload_n (pc := 42) dX12_copies_42 rfl ?_
        refine G_getr (pc := 43) dX12_copies_43 fiX12_35 (by first | rfl | assumption) (by omega) (by first | rfl | assumption) ?_
        refine G_bipush (pc := 46) dX12_copies_46 (by decide) ?_
        refine G_iload_n (pc := 48) dX12_copies_48 rfl ?_
        refine G_imul (pc := 49) dX12_copies_49 ?_
        refine G_iload_n (pc := 50) dX12_copies_50 rfl ?_
        refine G_iadd (pc := 51) dX12_copies_51 ?_
        refine G_iald (pc := 52) dX12_copies_52 (by first | rfl | assumption) (by omega) (by omega) (by omega) (by omega) ?_
        refine G_iast (pc := 53) dX12_copies_53 (by first | rfl | assumption) (by omega) (by omega) (by omega) (by omega) ?_
        refine G_iload_n (pc := 54) dX12_copies_54 rfl ?_
        refine G_bipush (pc := 55) dX12_copies_55 (by decide) ?_
        refine G_icmp_ge (pc := 57) (tgt := 82) dX12_copies_57 (Ri.mk (by omega) (by omega)) (Ri.mk (by omega) (by omega)) (by decide) (fun h_57 => ?_) (fun h_57 => ?_)
        · refine G_iinc (pc := 82) (lv' := [_, _, _, _]) dX12_copies_82 (by decide) rfl rfl ?_
          refine G_goto (pc := 85) (tgt := 26) dX12_copies_85 (by decide) ?_
          refine ih (k + 1) _ (by omega) ?_
          try rw [e1]
          try rw [e2]
          try rw [e3]
          try rw [e4]
          rw [h6 _ (by omega)]
          try rw [wr_o (show (82 : Nat) ≠ 80 by decide), h8 _ (by omega)]
          refine ⟨fun q hq => by simp (disch := omega) only [wr_o]; exact hO q hq, ⟨by simp (disch := omega) only [wr_o]; exact h1, fun x hx => by simp (disch := omega) only [wr_o]; exact h2 x hx⟩, ⟨by simp (disch := omega) only [wr_o]; exact h3, fun x hx => by simp (disch := omega) only [wr_o]; exact h4 x hx⟩, fun y hy => ?_, fun x hx => ?_, fun y hy hy2 => ?_, fun x hx => ?_⟩
          · by_cases e : y = k
            · subst e; simp (disch := omega) only [wr_o, wr_s]
            · simp (disch := omega) only [wr_o, wr_n]; exact h5 y (by omega)
          · simp (disch := omega) only [wr_o, wr_n]; exact h6 x hx
          · first
            | (by_cases e : y = k
               · subst e; simp (disch := omega) only [wr_o, wr_s]
               · simp (disch := omega) only [wr_o, wr_n]; exact h7 y (by omega) hy2)
            | (simp (disch := omega) only [wr_o]; exact h7 y (by omega) hy2)
          · first
            | (simp (disch := omega) only [wr_o, wr_n]; exact h8 x hx)
            | (simp (disch := omega) only [wr_o]; exact h8 x hx)
        · refine G_aload_n (pc := 60) dX12_copies_60 rfl ?_
          refine G_getr (pc := 61) dX12_copies_61 fiX12_41 (by first | rfl | assumption) (by omega) (by first | rfl | assumption) ?_
          refine G_bipush (pc := 64) dX12_copies_64 (by decide) ?_
          refine G_iload_n (pc := 66) dX12_copies_66 rfl ?_
          refine G_imul (pc := 67) dX12_copies_67 ?_
          refine G_iload_n (pc := 68) dX12_copies_68 rfl ?_
          refine G_iadd (pc := 69) dX12_copies_69 ?_
          refine G_aload_n (pc := 70) dX12_copies_70 rfl ?_
          refine G_getr (pc := 71) dX12_copies_71 fiX12_41 (by first | rfl | assumption) (by omega) (by first | rfl | assumption) ?_
          refine G_bipush (pc := 74) dX12_copies_74 (by decide) ?_
          refine G_iload_n (pc := 76) dX12_copies_76 rfl ?_
          refine G_imul (pc := 77) dX12_copies_77 ?_
          refine G_iload_n (pc := 78) dX12_copies_78 rfl ?_
          refine G_iadd (pc := 79) dX12_copies_79 ?_
          refine G_iald (pc := 80) dX12_copies_80 (by first | rfl | assumption) (by omega) (by omega) (by omega) (by omega) ?_
          refine G_iast (pc := 81) dX12_copies_81 (by first | rfl | assumption) (by omega) (by omega) (by omega) (by omega) ?_
          refine G_iinc (pc := 82) (lv' := [_, _, _, _]) dX12_copies_82 (by decide) rfl rfl ?_
          refine G_goto (pc := 85) (tgt := 26) dX12_copies_85 (by decide) ?_
          refine ih (k + 1) _ (by omega) ?_
          try rw [e1]
          try rw [e2]
          try rw [e3]
          try rw [e4]
          rw [h6 _ (by omega)]
          try rw [wr_o (show (82 : Nat) ≠ 80 by decide), h8 _ (by omega)]
          refine ⟨fun q hq => by simp (disch := omega) only [wr_o]; exact hO q hq, ⟨by simp (disch := omega) only [wr_o]; exact h1, fun x hx => by simp (disch := omega) only [wr_o]; exact h2 x hx⟩, ⟨by simp (disch := omega) only [wr_o]; exact h3, fun x hx => by simp (disch := omega) only [wr_o]; exact h4 x hx⟩, fun y hy => ?_, fun x hx => ?_, fun y hy hy2 => ?_, fun x hx => ?_⟩
          · by_cases e : y = k
            · subst e; simp (disch := omega) only [wr_o, wr_s]
            · simp (disch := omega) only [wr_o, wr_n]; exact h5 y (by omega)
          · simp (disch := omega) only [wr_o, wr_n]; exact h6 x hx
          · first
            | (by_cases e : y = k
               · subst e; simp (disch := omega) only [wr_o, wr_s]
               · simp (disch := omega) only [wr_o, wr_n]; exact h7 y (by omega) hy2)
            | (simp (disch := omega) only [wr_o]; exact h7 y (by omega) hy2)
          · first
            | (simp (disch := omega) only [wr_o, wr_n]; exact h8 x hx)
            | (simp (disch := omega) only [wr_o]; exact h8 x hx)
  refine G_aload_n (pc := 0) dX12_copies_0 rfl ?_
  refine G_getr (pc := 1) dX12_copies_1 fiX12_32 (by first | rfl | assumption) (by omega) (by first | rfl | assumption) ?_
  refine G_iload_n (pc := 4) dX12_copies_4 rfl ?_
  refine G_aload_n (pc := 5) dX12_copies_5 rfl ?_
  refine G_getr (pc := 6) dX12_copies_6 fiX12_32 (by first | rfl | assumption) (by omega) (by first | rfl | assumption) ?_
  refine G_iload_n (pc := 9) dX12_copies_9 rfl ?_
  refine G_iald (pc := 10) dX12_copies_10 (by first | rfl | assumption) (by omega) (by omega) (by omega) (by omega) ?_
  refine G_iast (pc := 11) dX12_copies_11 (by first | rfl | assumption) (by omega) (by omega) (by omega) (by omega) ?_
  refine G_aload_n (pc := 12) dX12_copies_12 rfl ?_
  refine G_getr (pc := 13) dX12_copies_13 fiX12_38 (by first | rfl | assumption) (by omega) (by first | rfl | assumption) ?_
  refine G_iload_n (pc := 16) dX12_copies_16 rfl ?_
  refine G_aload_n (pc := 17) dX12_copies_17 rfl ?_
  refine G_getr (pc := 18) dX12_copies_18 fiX12_38 (by first | rfl | assumption) (by omega) (by first | rfl | assumption) ?_
  refine G_iload_n (pc := 21) dX12_copies_21 rfl ?_
  refine G_iald (pc := 22) dX12_copies_22 (by first | rfl | assumption) (by omega) (by omega) (by omega) (by omega) ?_
  refine G_iast (pc := 23) dX12_copies_23 (by first | rfl | assumption) (by omega) (by omega) (by omega) (by omega) ?_
  refine G_iconst (pc := 24) dX12_copies_24 ?_
  refine G_istore_n (pc := 25) (lv' := [_, _, _, _]) dX12_copies_25 (by decide) rfl ?_
  refine loop 16 0 _ (by omega) ?_
  simp only [Int.toNat_natCast]
  rw [wr_o (show (81 : Nat) ≠ 79 by decide)]
  exact ⟨(Off.rfl.set (by omega) (by omega)).set (by omega) (by omega), ⟨by rw [wr_o (by decide), wr_s], fun x hx => by rw [wr_o (by decide), wr_n hx]⟩, ⟨wr_s, fun x hx => by rw [wr_n hx, wr_o (by decide)]⟩, fun y hy => absurd hy (Nat.not_lt_zero _), fun x hx => by rw [wr_o (by decide), wr_o (by decide)], fun y hy => absurd hy (Nat.not_lt_zero _), fun x hx => by rw [wr_o (by decide), wr_o (by decide)]⟩
theorem y_keep (hM : 87 ≤ M) (hC : MI I n tx hs C kn K) (hW : WF n tx hs C kn K) : FnQ E mdX12_keep 8 M Rf [vr E 71] I J (MQS I J (aKeep kn) (sKeep (n, tx, hs, C, kn, K))) := by
  obtain ⟨h1, hH, h3, h4, h5, h6, h7⟩ := id hC
  obtain ⟨-, -, hB, -, -, hRB, hTB, hkn, hK⟩ := id hW
  refine FnQ.of (by decide +kernel) (Nat.le_of_ble_eq_true rfl) ?_
  show GM E mdX12_keep 8 M Rf _ I J 0 [some (vr E 71)] []
  refine G_aload_n (pc := 0) dX12_keep_0 rfl ?_
  refine G_getiv (pc := 1) dX12_keep_1 fiX12_109 (by first | rfl | assumption) (by omega) (h5) ?_
  refine G_iconst (pc := 4) dX12_keep_4 ?_
  refine G_icmp_ne (pc := 5) (tgt := 11) dX12_keep_5 (Ri.mk (by omega) (by omega)) (Ri.mk (by omega) (by omega)) (by decide) (fun h_5 => ?_) (fun h_5 => ?_)
  · refine G_aload_n (pc := 11) dX12_keep_11 rfl ?_
    refine G_dup (pc := 12) dX12_keep_12 rfl ?_
    refine G_getiv (pc := 13) dX12_keep_13 fiX12_109 (by first | rfl | assumption) (by omega) (h5) ?_
    refine G_iconst (pc := 16) dX12_keep_16 ?_
    refine G_iadd (pc := 17) dX12_keep_17 ?_
    refine G_puti (pc := 18) dX12_keep_18 fiX12_109 (by first | rfl | assumption) (by omega) ?_
    refine G_aload_n (pc := 21) dX12_keep_21 rfl ?_
    refine G_iconst (pc := 22) dX12_keep_22 ?_
    refine G_aload_n (pc := 23) dX12_keep_23 rfl ?_
    refine G_getiv (pc := 24) dX12_keep_24 fiX12_109 (by first | rfl | assumption) (by omega) ((show wr I 71 10 _ 71 10 = ((kn + 1 : Nat) : Int) from wr_s)) ?_
    refine G_callV (pc := 27) (md := mdX12_copies) (av := [_, _]) dX12_keep_27 lkX12_227 mwX12_copies (m_copies 0 (kn + 1) (by omega) (by omega) (by omega) hM) rfl (by first | rfl | assumption) (by omega) rfl rfl (Nat.le_of_ble_eq_true rfl) (by decide) ⟨Nat.zero_le _, Nat.zero_le _⟩ ?_
    rintro v I1 J1 ⟨rfl, rfl, hc⟩
    have e5 : I1 71 10 = ((kn + 1 : Nat) : Int) := by rw [hc.1 71 (by omega), wr_s]; rfl
    refine G_aload_n (pc := 30) dX12_keep_30 rfl ?_
    refine G_getiv (pc := 31) dX12_keep_31 fiX12_109 (by first | rfl | assumption) (by omega) (e5) ?_
    refine G_iret (pc := 34) dX12_keep_34 rfl ?_
    refine ⟨by unfold aKeep; rw [if_neg (by omega)]; rfl, (Off.rfl.set (by omega) (by omega)).trans (hc.1.mono (by omega) (by omega)), Off.rfl, ?_⟩
    unfold sKeep; rw [if_neg (show ¬ kn = 2 by omega)]
    have o : ∀ q, 72 ≤ q → q ≤ 78 → I1 q = I q := fun q a b => (hc.1 q (by omega)).trans (wr_o (by omega))
    have o0 : ∀ j C, RM I j C ∧ TM I j C → RM (wr I 71 10 ((kn : Int) + 1)) j C ∧ TM (wr I 71 10 ((kn : Int) + 1)) j C := fun j C z => ⟨z.1.off (wr_o (by decide)) (wr_o (by decide)), z.2.off (wr_o (by decide)) (wr_o (by decide))⟩
    have n0 := hc.old (C := C) (show 0 ≠ kn + 1 by omega) (o0 0 C ⟨h3, h4⟩) hRB.1 hTB.1
    have n1 := hc.to (C := C) (o0 0 C ⟨h3, h4⟩).1 (o0 0 C ⟨h3, h4⟩).2 hRB.1 hTB.1
    refine ⟨⟨by rw [hc.1 71 (by omega), wr_n (by decide)]; exact h1.1, fun i hi => by rw [o 72 (by omega) (by omega)]; exact h1.2 i hi⟩, hH.off fun q a b => o q (by omega) (by omega), n0.1, n0.2, e5, fun z => ?_, fun z => ?_⟩
    · by_cases e : kn = 0
      · subst e; exact n1
      · have e1 : kn = 1 := by omega
        subst e1; exact hc.old (by decide) (o0 1 _ (h6 (by omega))) (hK 1 (by omega) (by omega)).1.1 (hK 1 (by omega) (by omega)).2.1
    · by_cases e : kn = 0
      · subst e; exact absurd z (by show ¬ 2 ≤ 0 + 1; decide)
      · have e1 : kn = 1 := by omega
        subst e1; exact n1
  · refine G_bipush (pc := 8) dX12_keep_8 (by decide) ?_
    refine G_iret (pc := 10) dX12_keep_10 rfl ?_
    exact ⟨by unfold aKeep; rw [if_pos (by omega)], Off.rfl, Off.rfl, by unfold sKeep; rw [if_pos (show kn = 2 by omega)]; exact hC⟩
theorem y_back (hM : 87 ≤ M) (hC : MI I n tx hs C kn K) (hW : WF n tx hs C kn K) : FnQ E mdX12_back 8 M Rf [vr E 71] I J (MQS I J (aBack kn) (sBack (n, tx, hs, C, kn, K))) := by
  obtain ⟨h1, hH, h3, h4, h5, h6, h7⟩ := id hC
  obtain ⟨-, -, hB, -, -, hRB, hTB, hkn, hK⟩ := id hW
  refine FnQ.of (by decide +kernel) (Nat.le_of_ble_eq_true rfl) ?_
  show GM E mdX12_back 8 M Rf _ I J 0 [some (vr E 71)] []
  refine G_aload_n (pc := 0) dX12_back_0 rfl ?_
  refine G_getiv (pc := 1) dX12_back_1 fiX12_109 (by first | rfl | assumption) (by omega) (h5) ?_
  refine G_if_ne (pc := 4) (tgt := 10) dX12_back_4 (Ri.mk (by omega) (by omega)) (by decide) (fun h_4 => ?_) (fun h_4 => ?_)
  · try simp only [bI_eq0, bI_ne0] at h_4
    refine G_aload_n (pc := 10) dX12_back_10 rfl ?_
    refine G_aload_n (pc := 11) dX12_back_11 rfl ?_
    refine G_getiv (pc := 12) dX12_back_12 fiX12_109 (by first | rfl | assumption) (by omega) (h5) ?_
    refine G_iconst (pc := 15) dX12_back_15 ?_
    refine G_callV (pc := 16) (md := mdX12_copies) (av := [_, _]) dX12_back_16 lkX12_227 mwX12_copies (m_copies kn 0 (by omega) (by omega) (by omega) hM) rfl (by first | rfl | assumption) (by omega) rfl rfl (Nat.le_of_ble_eq_true rfl) (by decide) ⟨Nat.zero_le _, Nat.zero_le _⟩ ?_
    rintro v I1 J1 ⟨rfl, rfl, hc⟩
    have e5 : I1 71 10 = (kn : Int) := by rw [hc.1 71 (by omega)]; exact h5
    refine G_aload_n (pc := 19) dX12_back_19 rfl ?_
    refine G_dup (pc := 20) dX12_back_20 rfl ?_
    refine G_getiv (pc := 21) dX12_back_21 fiX12_109 (by first | rfl | assumption) (by omega) (e5) ?_
    refine G_iconst (pc := 24) dX12_back_24 ?_
    refine G_isub (pc := 25) dX12_back_25 ?_
    refine G_puti (pc := 26) dX12_back_26 fiX12_109 (by first | rfl | assumption) (by omega) ?_
    refine G_aload_n (pc := 29) dX12_back_29 rfl ?_
    refine G_getiv (pc := 30) dX12_back_30 fiX12_109 (by first | rfl | assumption) (by omega) ((show wr I1 71 10 _ 71 10 = (kn : Int) - 1 from wr_s)) ?_
    refine G_iret (pc := 33) dX12_back_33 rfl ?_
    refine ⟨by unfold aBack; rw [if_neg (by omega)], (hc.1.mono (by omega) (by omega)).set (by omega) (by omega), Off.rfl, ?_⟩
    unfold sBack; rw [if_neg (show ¬ kn = 0 by omega)]
    have o : ∀ q, 72 ≤ q → q ≤ 78 → wr I1 71 10 ((kn : Int) - 1) q = I q := fun q a b => (wr_o (by omega)).trans (hc.1 q (by omega))
    have o0 : ∀ j C, RM I1 j C ∧ TM I1 j C → RM (wr I1 71 10 ((kn : Int) - 1)) j C ∧ TM (wr I1 71 10 ((kn : Int) - 1)) j C := fun j C z => ⟨z.1.off (wr_o (by decide)) (wr_o (by decide)), z.2.off (wr_o (by decide)) (wr_o (by decide))⟩
    have hKk : RM I kn (K kn) ∧ TM I kn (K kn) := by
      rcases (show kn = 1 ∨ kn = 2 by omega) with rfl | rfl
      · exact h6 (by omega)
      · exact h7 (by omega)
    have n1 := o0 _ _ (hc.to (C := K kn) hKk.1 hKk.2 (hK kn (by omega) (by omega)).1.1 (hK kn (by omega) (by omega)).2.1)
    refine ⟨⟨by rw [wr_n (by decide), hc.1 71 (by omega)]; exact h1.1, fun i hi => by rw [o 72 (by omega) (by omega)]; exact h1.2 i hi⟩, hH.off fun q a b => o q (by omega) (by omega), n1.1, n1.2, by rw [wr_s]; show (kn : Int) - 1 = ((kn - 1 : Nat) : Int); omega, fun z => ?_, fun z => absurd z (by show ¬ 2 ≤ kn - 1; omega)⟩
    exact o0 _ _ (hc.old (by decide) (h6 (by omega)) (hK 1 (by omega) (by omega)).1.1 (hK 1 (by omega) (by omega)).2.1)
  · try simp only [bI_eq0, bI_ne0] at h_4
    refine G_bipush (pc := 7) dX12_back_7 (by decide) ?_
    refine G_iret (pc := 9) dX12_back_9 rfl ?_
    exact ⟨by unfold aBack; rw [if_pos (by omega)], Off.rfl, Off.rfl, by unfold sBack; rw [if_pos (show kn = 0 by omega)]; exact hC⟩
end MOD5
