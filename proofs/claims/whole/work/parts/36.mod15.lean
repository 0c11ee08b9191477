/-! THE REFERENCE LAYS; its maker -/
def tkS (I I' : Nat → Nat → Int) (k : Nat) : Prop := (∀ q, q ≠ 74 → q ≠ 76 → q ≠ 78 → q ≠ 80 → I' q = I q) ∧ (∀ x, x < k → I' 74 x = I 74 (24 + x) ∧ I' 76 x = I 76 (24 + x) ∧ (x < 16 → I' 80 x = I 77 x) ∧ (x < 3 → I' 78 x = I 78 (3 + x))) ∧ (∀ x, 24 ≤ x → I' 74 x = I 74 x ∧ I' 76 x = I 76 x) ∧ ∀ x, 3 ≤ x → I' 78 x = I 78 x
theorem tkS.up {I I' W : Nat → Nat → Int} {k : Nat} (h : tkS I I' k) (hk : k < 24) (hq : ∀ q, q ≠ 74 → q ≠ 76 → q ≠ 78 → q ≠ 80 → W q = I' q) (h74 : ∀ x, W 74 x = if x = k then I 74 (24 + k) else I' 74 x) (h76 : ∀ x, W 76 x = if x = k then I 76 (24 + k) else I' 76 x) (h80 : ∀ x, W 80 x = if x = k ∧ k < 16 then I 77 k else I' 80 x) (h78 : ∀ x, W 78 x = if x = k ∧ k < 3 then I 78 (3 + k) else I' 78 x) : tkS I W (k + 1) := by
  obtain ⟨a1, a2, a3, a4⟩ := h
  refine ⟨fun q b c d e => (hq q b c d e).trans (a1 q b c d e), fun x hx => ?_, fun x hx => ?_, fun x hx => ?_⟩
  · rw [h74, h76, h80, h78]
    by_cases e : x = k
    · subst e
      rw [if_pos rfl, if_pos rfl]
      exact ⟨rfl, rfl, fun h => by rw [if_pos ⟨rfl, h⟩], fun h => by rw [if_pos ⟨rfl, h⟩]⟩
    · rw [if_neg e, if_neg e, if_neg (fun z => e z.1), if_neg (fun z => e z.1)]
      exact a2 x (by omega)
  · rw [h74, h76, if_neg (by omega), if_neg (by omega)]; exact a3 x hx
  · rw [h78, if_neg (by omega)]; exact a4 x hx
theorem tk_end {I I0 I' W : Nat → Nat → Int} {D : DS} (hP : PD I D) (hD : DB D) (h0 : ∀ q, q ≠ 73 → q ≠ 75 → q ≠ 79 → I0 q = I q) (h73 : I0 73 0 = (zS D.1 : Int)) (h75 : I0 75 0 = (zA D.1 : Int)) (h79 : I0 79 0 = (D.2 0 0 : Int)) (h : tkS I0 I' 24) (hW : ∀ q, q ≠ 71 → q ≠ 81 → W q = I' q) (h81 : W 81 0 = 0) : MH W 0 D.1 ∧ RM W 0 (noT D.2) ∧ TM W 0 (noT D.2) := by
  obtain ⟨⟨m1, m2, m3, m4, m5⟩, m6, m7⟩ := hP
  obtain ⟨a1, a2, a3, a4⟩ := h
  have bS := hD.1.1
  have bA := hD.1.2.1
  have n8 := hD.2.1
  refine ⟨⟨?_, ?_, fun s hs i hi => ?_, fun a ha i h4 h8 => ?_, fun i h11 h14 => ?_⟩, ⟨?_, fun t ht => ?_⟩, ⟨h81, fun t ht => absurd ht (Nat.not_lt_zero _)⟩⟩
  · rw [hW 73 (by decide) (by decide), a1 73 (by decide) (by decide) (by decide) (by decide)]; exact h73
  · rw [hW 75 (by decide) (by decide), a1 75 (by decide) (by decide) (by decide) (by decide)]; exact h75
  · rw [hW 74 (by decide) (by decide), show 24 * 0 + 4 * s + i = 4 * s + i by omega, (a2 (4 * s + i) (by omega)).1, h0 74 (by decide) (by decide) (by decide)]
    have := m3 s hs i hi
    rwa [show 24 * 1 + 4 * s + i = 24 + (4 * s + i) by omega] at this
  · rw [hW 76 (by decide) (by decide), show 24 * 0 + 4 * a + (i - 4) = 4 * a + (i - 4) by omega, (a2 (4 * a + (i - 4)) (by omega)).2.1, h0 76 (by decide) (by decide) (by decide)]
    have := m4 a ha i h4 h8
    rwa [show 24 * 1 + 4 * a + (i - 4) = 24 + (4 * a + (i - 4)) by omega] at this
  · rw [hW 78 (by decide) (by decide), show 3 * 0 + (i - 11) = i - 11 by omega, (a2 (i - 11) (by omega)).2.2.2 (by omega), h0 78 (by decide) (by decide) (by decide)]
    have := m5 i h11 h14
    rwa [show 3 * 1 + (i - 11) = 3 + (i - 11) by omega] at this
  · rw [hW 79 (by decide) (by decide), a1 79 (by decide) (by decide) (by decide) (by decide)]; exact h79
  · have ht : t < D.2 0 0 := ht
    have := m7 t ht
    rw [hW 80 (by decide) (by decide), show 16 * 0 + 2 * t = 2 * t by omega, (a2 (2 * t) (by omega)).2.2.1 (by omega), (a2 (2 * t + 1) (by omega)).2.2.1 (by omega), h0 77 (by decide) (by decide) (by decide)]
    exact this
section MOD15
variable {E : EV} {M : Nat} {I J : Nat → Nat → Int} {n : Nat} {tx : Nat → Int} {hs : HS} {C : CS} {kn : Nat} {K : Nat → CS} {D : DS}
theorem m_takes (hM : 87 ≤ M) (hP : PD I D) (hD : DB D) : FnQ E mdX12_takes 0 M Rf [vr E 71] I J (fun v I' J' => v = none ∧ J' = J ∧ ((∀ q, q ≠ 71 → q ≠ 73 → q ≠ 74 → q ≠ 75 → q ≠ 76 → q ≠ 78 → q ≠ 79 → q ≠ 80 → q ≠ 81 → I' q = I q) ∧ ∀ i, i ≠ 10 → I' 71 i = I 71 i) ∧ MH I' 0 D.1 ∧ RM I' 0 (noT D.2) ∧ TM I' 0 (noT D.2) ∧ I' 71 10 = 0) := by
  refine FnQ.of (by decide +kernel) (Nat.le_of_ble_eq_true rfl) ?_
  show GM E mdX12_takes 0 M Rf _ I J 0 [some (vr E 71), none] []
  obtain ⟨I0, hI0⟩ : ∃ f, f = wr (wr (wr I 73 0 (zS D.1 : Int)) 75 0 (zA D.1 : Int)) 79 0 (D.2 0 0 : Int) := ⟨_, rfl⟩
  have o0 : ∀ q, q ≠ 73 → q ≠ 75 → q ≠ 79 → I0 q = I q := fun q a b c => by rw [hI0, wr_o c, wr_o b, wr_o a]
  have h73 : I0 73 0 = (zS D.1 : Int) := by rw [hI0, wr_o (by decide), wr_o (by decide), wr_s]
  have h75 : I0 75 0 = (zA D.1 : Int) := by rw [hI0, wr_o (by decide), wr_s]
  have h79 : I0 79 0 = (D.2 0 0 : Int) := by rw [hI0, wr_s]
  have loop : ∀ (r k : Nat) (I' : Nat → Nat → Int), k + r = 24 → tkS I0 I' k → GM E mdX12_takes 0 M Rf (fun v I' J' => v = none ∧ J' = J ∧ ((∀ q, q ≠ 71 → q ≠ 73 → q ≠ 74 → q ≠ 75 → q ≠ 76 → q ≠ 78 → q ≠ 79 → q ≠ 80 → q ≠ 81 → I' q = I q) ∧ ∀ i, i ≠ 10 → I' 71 i = I 71 i) ∧ MH I' 0 D.1 ∧ RM I' 0 (noT D.2) ∧ TM I' 0 (noT D.2) ∧ I' 71 10 = 0) I' J 36 [some (vr E 71), some (vi (k : Int))] [] := by
    intro r
    induction r with
    | zero =>
      intro k I' hk h
      have hk : k = 24 := by omega
      subst hk
      refine G_iload_n (pc := 36) dX12_takes_36 rfl ?_
      refine G_bipush (pc := 37) dX12_takes_37 (by decide) ?_
      refine G_icmp_ge (pc := 39) (tgt := 115) dX12_takes_39 (Ri.mk (by omega) (by omega)) (Ri.mk (by omega) (by omega)) (by decide) (fun h_39 => ?_) (fun h_39 => ?_)
      · refine G_aload_n (pc := 115) dX12_takes_115 rfl ?_
        refine G_getr (pc := 116) dX12_takes_116 fiX12_38 (by first | rfl | assumption) (by omega) (by first | rfl | assumption) ?_
        refine G_iconst (pc := 119) dX12_takes_119 ?_
        refine G_iconst (pc := 120) dX12_takes_120 ?_
        refine G_iast (pc := 121) dX12_takes_121 (by first | rfl | assumption) (by omega) (by omega) (by omega) (by omega) ?_
        refine G_aload_n (pc := 122) dX12_takes_122 rfl ?_
        refine G_iconst (pc := 123) dX12_takes_123 ?_
        refine G_puti (pc := 124) dX12_takes_124 fiX12_109 (by first | rfl | assumption) (by omega) ?_
        refine G_vret (pc := 127) dX12_takes_127 rfl ?_
        obtain ⟨e1, e2, e3⟩ := tk_end (W := wr (wr I' 81 0 0) 71 10 0) hP hD o0 h73 h75 h79 h (fun q a b => by rw [wr_o a, wr_o b]) (by rw [wr_o (by decide), wr_s])
        exact ⟨rfl, rfl, ⟨fun q a b c d e f g i j => by rw [wr_o a, wr_o j, h.1 q c e f i, o0 q b d g], fun i hi => by rw [wr_n hi, wr_o (by decide), h.1 71 (by decide) (by decide) (by decide) (by decide), o0 71 (by decide) (by decide) (by decide)]⟩, e1, e2, e3, wr_s⟩
      · exact absurd h_39 (by omega)
    | succ r ih =>
      intro k I' hk h
      refine G_iload_n (pc := 36) dX12_takes_36 rfl ?_
      refine G_bipush (pc := 37) dX12_takes_37 (by decide) ?_
      refine G_icmp_ge (pc := 39) (tgt := 115) dX12_takes_39 (Ri.mk (by omega) (by omega)) (Ri.mk (by omega) (by omega)) (by decide) (fun h_39 => ?_) (fun h_39 => ?_)
      · exact absurd h_39 (by omega)
      · refine G_aload_n (pc := 42) dX12_takes_42 rfl ?_
        refine G_getr (pc := 43) dX12_takes_43 fiX12_17 (by first | rfl | assumption) (by omega) (by first | rfl | assumption) ?_
        refine G_iload_n (pc := 46) dX12_takes_46 rfl ?_
        refine G_aload_n (pc := 47) dX12_takes_47 rfl ?_
        refine G_getr (pc := 48) dX12_takes_48 fiX12_17 (by first | rfl | assumption) (by omega) (by first | rfl | assumption) ?_
        refine G_bipush (pc := 51) dX12_takes_51 (by decide) ?_
        refine G_iload_n (pc := 53) dX12_takes_53 rfl ?_
        refine G_iadd (pc := 54) dX12_takes_54 ?_
        refine G_ialdv (pc := 55) dX12_takes_55 (by first | rfl | assumption) (by omega) (by omega) (by omega) (by omega) ((show I' 74 (24 + (k : Int)).toNat = I0 74 (24 + k) by rw [show (24 + (k : Int)).toNat = 24 + k by omega]; exact (h.2.2.1 _ (by omega)).1)) ?_
        refine G_iast (pc := 56) dX12_takes_56 (by first | rfl | assumption) (by omega) (by omega) (by omega) (by omega) ?_
        refine G_aload_n (pc := 57) dX12_takes_57 rfl ?_
        refine G_getr (pc := 58) dX12_takes_58 fiX12_23 (by first | rfl | assumption) (by omega) (by first | rfl | assumption) ?_
        refine G_iload_n (pc := 61) dX12_takes_61 rfl ?_
        refine G_aload_n (pc := 62) dX12_takes_62 rfl ?_
        refine G_getr (pc := 63) dX12_takes_63 fiX12_23 (by first | rfl | assumption) (by omega) (by first | rfl | assumption) ?_
        refine G_bipush (pc := 66) dX12_takes_66 (by decide) ?_
        refine G_iload_n (pc := 68) dX12_takes_68 rfl ?_
        refine G_iadd (pc := 69) dX12_takes_69 ?_
        refine G_ialdv (pc := 70) dX12_takes_70 (by first | rfl | assumption) (by omega) (by omega) (by omega) (by omega) ((show wr I' 74 _ _ 76 (24 + (k : Int)).toNat = I0 76 (24 + k) by rw [show (24 + (k : Int)).toNat = 24 + k by omega, wr_o (by decide)]; exact (h.2.2.1 _ (by omega)).2)) ?_
        refine G_iast (pc := 71) dX12_takes_71 (by first | rfl | assumption) (by omega) (by omega) (by omega) (by omega) ?_
        refine G_iload_n (pc := 72) dX12_takes_72 rfl ?_
        refine G_bipush (pc := 73) dX12_takes_73 (by decide) ?_
        refine G_icmp_ge (pc := 75) (tgt := 90) dX12_takes_75 (Ri.mk (by omega) (by omega)) (Ri.mk (by omega) (by omega)) (by decide) (fun h_75 => ?_) (fun h_75 => ?_)
        · refine G_iload_n (pc := 90) dX12_takes_90 rfl ?_
          refine G_iconst (pc := 91) dX12_takes_91 ?_
          refine G_icmp_ge (pc := 92) (tgt := 109) dX12_takes_92 (Ri.mk (by omega) (by omega)) (Ri.mk (by omega) (by omega)) (by decide) (fun h_92 => ?_) (fun h_92 => ?_)
          · refine G_iinc (pc := 109) (lv' := [_, _]) dX12_takes_109 (by decide) rfl rfl ?_
            refine G_goto (pc := 112) (tgt := 36) dX12_takes_112 (by decide) ?_
            first
              | (exfalso; omega)
              | (rw [Int.toNat_natCast]
                 refine ih (k + 1) _ (by omega) (h.up (by omega) (fun q a b c d => by simp (disch := omega) only [wr_o]) (fun x => by simp [wr]) (fun x => by simp [wr]) (fun x => ?_) (fun x => ?_))
                 · first
                     | (simp [wr, show k < 16 by omega]; done)
                     | (simp [wr, show ¬ k < 16 by omega]; done)
                 · first
                     | (simp [wr, show k < 3 by omega]; done)
                     | (simp [wr, show ¬ k < 3 by omega]; done))
          · refine G_aload_n (pc := 95) dX12_takes_95 rfl ?_
            refine G_getr (pc := 96) dX12_takes_96 fiX12_29 (by first | rfl | assumption) (by omega) (by first | rfl | assumption) ?_
            refine G_iload_n (pc := 99) dX12_takes_99 rfl ?_
            refine G_aload_n (pc := 100) dX12_takes_100 rfl ?_
            refine G_getr (pc := 101) dX12_takes_101 fiX12_29 (by first | rfl | assumption) (by omega) (by first | rfl | assumption) ?_
            refine G_iconst (pc := 104) dX12_takes_104 ?_
            refine G_iload_n (pc := 105) dX12_takes_105 rfl ?_
            refine G_iadd (pc := 106) dX12_takes_106 ?_
            refine G_ialdv (pc := 107) dX12_takes_107 (by first | rfl | assumption) (by omega) (by omega) (by omega) (by omega) ((show _ = I0 78 (3 + k) by rw [show (3 + (k : Int)).toNat = 3 + k by omega]; simp (disch := omega) only [wr_o]; exact h.2.2.2 _ (by omega))) ?_
            refine G_iast (pc := 108) dX12_takes_108 (by first | rfl | assumption) (by omega) (by omega) (by omega) (by omega) ?_
            refine G_iinc (pc := 109) (lv' := [_, _]) dX12_takes_109 (by decide) rfl rfl ?_
            refine G_goto (pc := 112) (tgt := 36) dX12_takes_112 (by decide) ?_
            first
              | (exfalso; omega)
              | (rw [Int.toNat_natCast]
                 refine ih (k + 1) _ (by omega) (h.up (by omega) (fun q a b c d => by simp (disch := omega) only [wr_o]) (fun x => by simp [wr]) (fun x => by simp [wr]) (fun x => ?_) (fun x => ?_))
                 · first
                     | (simp [wr, show k < 16 by omega]; done)
                     | (simp [wr, show ¬ k < 16 by omega]; done)
                 · first
                     | (simp [wr, show k < 3 by omega]; done)
                     | (simp [wr, show ¬ k < 3 by omega]; done))
        · refine G_aload_n (pc := 78) dX12_takes_78 rfl ?_
          refine G_getr (pc := 79) dX12_takes_79 fiX12_35 (by first | rfl | assumption) (by omega) (by first | rfl | assumption) ?_
          refine G_iload_n (pc := 82) dX12_takes_82 rfl ?_
          refine G_aload_n (pc := 83) dX12_takes_83 rfl ?_
          refine G_getr (pc := 84) dX12_takes_84 fiX12_26 (by first | rfl | assumption) (by omega) (by first | rfl | assumption) ?_
          refine G_iload_n (pc := 87) dX12_takes_87 rfl ?_
          refine G_ialdv (pc := 88) dX12_takes_88 (by first | rfl | assumption) (by omega) (by omega) (by omega) (by omega) ((show wr (wr I' 74 _ _) 76 _ _ 77 ((k : Int)).toNat = I0 77 k by rw [Int.toNat_natCast, wr_o (by decide), wr_o (by decide), h.1 77 (by decide) (by decide) (by decide) (by decide)])) ?_
          refine G_iast (pc := 89) dX12_takes_89 (by first | rfl | assumption) (by omega) (by omega) (by omega) (by omega) ?_
          refine G_iload_n (pc := 90) dX12_takes_90 rfl ?_
          refine G_iconst (pc := 91) dX12_takes_91 ?_
          refine G_icmp_ge (pc := 92) (tgt := 109) dX12_takes_92 (Ri.mk (by omega) (by omega)) (Ri.mk (by omega) (by omega)) (by decide) (fun h_92 => ?_) (fun h_92 => ?_)
          · refine G_iinc (pc := 109) (lv' := [_, _]) dX12_takes_109 (by decide) rfl rfl ?_
            refine G_goto (pc := 112) (tgt := 36) dX12_takes_112 (by decide) ?_
            first
              | (exfalso; omega)
              | (rw [Int.toNat_natCast]
                 refine ih (k + 1) _ (by omega) (h.up (by omega) (fun q a b c d => by simp (disch := omega) only [wr_o]) (fun x => by simp [wr]) (fun x => by simp [wr]) (fun x => ?_) (fun x => ?_))
                 · first
                     | (simp [wr, show k < 16 by omega]; done)
                     | (simp [wr, show ¬ k < 16 by omega]; done)
                 · first
                     | (simp [wr, show k < 3 by omega]; done)
                     | (simp [wr, show ¬ k < 3 by omega]; done))
          · refine G_aload_n (pc := 95) dX12_takes_95 rfl ?_
            refine G_getr (pc := 96) dX12_takes_96 fiX12_29 (by first | rfl | assumption) (by omega) (by first | rfl | assumption) ?_
            refine G_iload_n (pc := 99) dX12_takes_99 rfl ?_
            refine G_aload_n (pc := 100) dX12_takes_100 rfl ?_
            refine G_getr (pc := 101) dX12_takes_101 fiX12_29 (by first | rfl | assumption) (by omega) (by first | rfl | assumption) ?_
            refine G_iconst (pc := 104) dX12_takes_104 ?_
            refine G_iload_n (pc := 105) dX12_takes_105 rfl ?_
            refine G_iadd (pc := 106) dX12_takes_106 ?_
            refine G_ialdv (pc := 107) dX12_takes_107 (by first | rfl | assumption) (by omega) (by omega) (by omega) (by omega) ((show _ = I0 78 (3 + k) by rw [show (3 + (k : Int)).toNat = 3 + k by omega]; simp (disch := omega) only [wr_o]; exact h.2.2.2 _ (by omega))) ?_
            refine G_iast (pc := 108) dX12_takes_108 (by first | rfl | assumption) (by omega) (by omega) (by omega) (by omega) ?_
            refine G_iinc (pc := 109) (lv' := [_, _]) dX12_takes_109 (by decide) rfl rfl ?_
            refine G_goto (pc := 112) (tgt := 36) dX12_takes_112 (by decide) ?_
            first
              | (exfalso; omega)
              | (rw [Int.toNat_natCast]
                 refine ih (k + 1) _ (by omega) (h.up (by omega) (fun q a b c d => by simp (disch := omega) only [wr_o]) (fun x => by simp [wr]) (fun x => by simp [wr]) (fun x => ?_) (fun x => ?_))
                 · first
                     | (simp [wr, show k < 16 by omega]; done)
                     | (simp [wr, show ¬ k < 16 by omega]; done)
                 · first
                     | (simp [wr, show k < 3 by omega]; done)
                     | (simp [wr, show ¬ k < 3 by omega]; done))
  refine G_aload_n (pc := 0) dX12_takes_0 rfl ?_
  refine G_getr (pc := 1) dX12_takes_1 fiX12_13 (by first | rfl | assumption) (by omega) (by first | rfl | assumption) ?_
  refine G_iconst (pc := 4) dX12_takes_4 ?_
  refine G_aload_n (pc := 5) dX12_takes_5 rfl ?_
  refine G_getr (pc := 6) dX12_takes_6 fiX12_13 (by first | rfl | assumption) (by omega) (by first | rfl | assumption) ?_
  refine G_iconst (pc := 9) dX12_takes_9 ?_
  refine G_ialdv (pc := 10) dX12_takes_10 (by first | rfl | assumption) (by omega) (by omega) (by omega) (by omega) (hP.1.1) ?_
  refine G_iast (pc := 11) dX12_takes_11 (by first | rfl | assumption) (by omega) (by omega) (by omega) (by omega) ?_
  refine G_aload_n (pc := 12) dX12_takes_12 rfl ?_
  refine G_getr (pc := 13) dX12_takes_13 fiX12_20 (by first | rfl | assumption) (by omega) (by first | rfl | assumption) ?_
  refine G_iconst (pc := 16) dX12_takes_16 ?_
  refine G_aload_n (pc := 17) dX12_takes_17 rfl ?_
  refine G_getr (pc := 18) dX12_takes_18 fiX12_20 (by first | rfl | assumption) (by omega) (by first | rfl | assumption) ?_
  refine G_iconst (pc := 21) dX12_takes_21 ?_
  refine G_ialdv (pc := 22) dX12_takes_22 (by first | rfl | assumption) (by omega) (by omega) (by omega) (by omega) ((show wr I 73 _ _ 75 1 = (zA D.1 : Int) by rw [wr_o (by decide)]; exact hP.1.2.1)) ?_
  refine G_iast (pc := 23) dX12_takes_23 (by first | rfl | assumption) (by omega) (by omega) (by omega) (by omega) ?_
  refine G_aload_n (pc := 24) dX12_takes_24 rfl ?_
  refine G_getr (pc := 25) dX12_takes_25 fiX12_32 (by first | rfl | assumption) (by omega) (by first | rfl | assumption) ?_
  refine G_iconst (pc := 28) dX12_takes_28 ?_
  refine G_aload_n (pc := 29) dX12_takes_29 rfl ?_
  refine G_getiv (pc := 30) dX12_takes_30 fiX12_104 (by first | rfl | assumption) (by omega) ((show wr (wr I 73 _ _) 75 _ _ 71 7 = (D.2 0 0 : Int) by rw [wr_o (by decide), wr_o (by decide)]; exact hP.2.1)) ?_
  refine G_iast (pc := 33) dX12_takes_33 (by first | rfl | assumption) (by omega) (by omega) (by omega) (by omega) ?_
  refine G_iconst (pc := 34) dX12_takes_34 ?_
  refine G_istore_n (pc := 35) (lv' := [_, _]) dX12_takes_35 (by decide) rfl ?_
  exact G_eq hI0.symm rfl rfl rfl (loop 24 0 I0 (by omega) ⟨fun _ _ _ _ _ => rfl, fun x hx => absurd hx (Nat.not_lt_zero _), fun _ _ => ⟨rfl, rfl⟩, fun _ _ => rfl⟩)
theorem y_lay (hM : 87 ≤ M) (hC : MI I n tx hs C kn K) (hW : WF n tx hs C kn K) : FnQ E mdX12_lay 8 M Rf [vr E 71] I J (MQS I J (aLay tx n) (sLay (n, tx, hs, C, kn, K))) := by
  have hDB : DB (parse tx n).2 := paF_B tx n (n + 1) 0 D0 D0_B
  have rp := parse_R tx n hW.1
  have hB := hW.2.2.1
  have b8 : zS (parse tx n).2.1 ≤ 6 := hDB.1.1
  have b9 : zA (parse tx n).2.1 ≤ 6 := hDB.1.2.1
  refine FnQ.of (by decide +kernel) (Nat.le_of_ble_eq_true rfl) ?_
  show GM E mdX12_lay 8 M Rf _ I J 0 [some (vr E 71)] []
  refine G_aload_n (pc := 0) dX12_lay_0 rfl ?_
  refine G_callV (pc := 1) (md := mdX12_fault) (av := []) dX12_lay_1 lkX12_116 mwX12_fault (m_fault hM hC.1 hW.1 hW.2.1) rfl (by first | rfl | assumption) (by omega) rfl rfl (Nat.le_of_ble_eq_true rfl) (by decide) ⟨Nat.zero_le _, Nat.zero_le _⟩ ?_
  rintro v I1 J1 ⟨rfl, rfl, hO1, hPD⟩
  have hC1 : MI I1 n tx hs C kn K := hO1.mi hB hC
  refine G_bipush (pc := 4) dX12_lay_4 (by decide) ?_
  refine G_icmp_ne (pc := 6) (tgt := 27) dX12_lay_6 (Ri.mk (by omega) (by omega)) (Ri.mk (by omega) (by omega)) (by decide) (fun h_6 => ?_) (fun h_6 => ?_)
  · refine G_bipush (pc := 27) dX12_lay_27 (by decide) ?_
    refine G_iret (pc := 29) dX12_lay_29 rfl ?_
    exact ⟨by unfold aLay; rw [if_neg (by intro z; have z1 := z.1; have z2 : 0 < zS (parse tx n).2.1 := z.2.1; have z3 : 0 < zA (parse tx n).2.1 := z.2.2; omega)], hO1.off, Off.rfl, by unfold sLay; rw [if_neg (by intro z; have z1 : (parse tx n).1 = -4 := z.1; have z2 : 0 < zS (parse tx n).2.1 := z.2.1; have z3 : 0 < zA (parse tx n).2.1 := z.2.2; omega)]; exact hC1⟩
  · refine G_aload_n (pc := 9) dX12_lay_9 rfl ?_
    refine G_getr (pc := 10) dX12_lay_10 fiX12_13 (by first | rfl | assumption) (by omega) (by first | rfl | assumption) ?_
    refine G_iconst (pc := 13) dX12_lay_13 ?_
    refine G_ialdv (pc := 14) dX12_lay_14 (by first | rfl | assumption) (by omega) (by omega) (by omega) (by omega) ((hPD (by omega)).1.1) ?_
    refine G_if_eq (pc := 15) (tgt := 27) dX12_lay_15 (Ri.mk (by omega) (by omega)) (by decide) (fun h_15 => ?_) (fun h_15 => ?_)
    · try simp only [bI_eq0, bI_ne0] at h_15
      refine G_bipush (pc := 27) dX12_lay_27 (by decide) ?_
      refine G_iret (pc := 29) dX12_lay_29 rfl ?_
      exact ⟨by unfold aLay; rw [if_neg (by intro z; have z1 := z.1; have z2 : 0 < zS (parse tx n).2.1 := z.2.1; have z3 : 0 < zA (parse tx n).2.1 := z.2.2; omega)], hO1.off, Off.rfl, by unfold sLay; rw [if_neg (by intro z; have z1 : (parse tx n).1 = -4 := z.1; have z2 : 0 < zS (parse tx n).2.1 := z.2.1; have z3 : 0 < zA (parse tx n).2.1 := z.2.2; omega)]; exact hC1⟩
    · try simp only [bI_eq0, bI_ne0] at h_15
      refine G_aload_n (pc := 18) dX12_lay_18 rfl ?_
      refine G_getr (pc := 19) dX12_lay_19 fiX12_20 (by first | rfl | assumption) (by omega) (by first | rfl | assumption) ?_
      refine G_iconst (pc := 22) dX12_lay_22 ?_
      refine G_ialdv (pc := 23) dX12_lay_23 (by first | rfl | assumption) (by omega) (by omega) (by omega) (by omega) ((hPD (by omega)).1.2.1) ?_
      refine G_if_ne (pc := 24) (tgt := 30) dX12_lay_24 (Ri.mk (by omega) (by omega)) (by decide) (fun h_24 => ?_) (fun h_24 => ?_)
      · try simp only [bI_eq0, bI_ne0] at h_24
        refine G_aload_n (pc := 30) dX12_lay_30 rfl ?_
        refine G_callV (pc := 31) (md := mdX12_takes) (av := []) dX12_lay_31 lkX12_61 mwX12_takes (m_takes hM (hPD (by omega)) hDB) rfl (by first | rfl | assumption) (by omega) rfl rfl (Nat.le_of_ble_eq_true rfl) (by decide) ⟨Nat.zero_le _, Nat.zero_le _⟩ ?_
        rintro v I2 J2 ⟨rfl, rfl, ⟨hq, h71⟩, hH2, hR2, hT2, hk2⟩
        refine G_aload_n (pc := 34) dX12_lay_34 rfl ?_
        refine G_iconst (pc := 35) dX12_lay_35 ?_
        refine G_callV1 (pc := 36) (md := mdX12_folk) (av := [_]) dX12_lay_36 lkX12_99 mwX12_folk (m_folk 0 (by omega) hM hH2 hDB.1) rfl (by first | rfl | assumption) (by omega) rfl rfl (Nat.le_of_ble_eq_true rfl) (by decide) ⟨Nat.zero_le _, Nat.zero_le _⟩ ?_
        refine G_iret (pc := 39) dX12_lay_39 rfl ?_
        have ok : okL tx n := ⟨by omega, by omega, by omega⟩
        refine ⟨by unfold aLay; rw [if_pos ok], hO1.off.trans (fun q hq2 => hq q (by omega) (by omega) (by omega) (by omega) (by omega) (by omega) (by omega) (by omega) (by omega)), Off.rfl, ?_⟩
        unfold sLay; rw [if_pos ok]
        exact ⟨⟨by rw [h71 0 (by decide)]; exact hC1.1.1, fun i hi => by rw [hq 72 (by decide) (by decide) (by decide) (by decide) (by decide) (by decide) (by decide) (by decide) (by decide)]; exact hC1.1.2 i hi⟩, hH2, hR2, hT2, hk2, fun z => absurd z (show ¬ 1 ≤ 0 by decide), fun z => absurd z (show ¬ 2 ≤ 0 by decide)⟩
      · try simp only [bI_eq0, bI_ne0] at h_24
        refine G_bipush (pc := 27) dX12_lay_27 (by decide) ?_
        refine G_iret (pc := 29) dX12_lay_29 rfl ?_
        exact ⟨by unfold aLay; rw [if_neg (by intro z; have z1 := z.1; have z2 : 0 < zS (parse tx n).2.1 := z.2.1; have z3 : 0 < zA (parse tx n).2.1 := z.2.2; omega)], hO1.off, Off.rfl, by unfold sLay; rw [if_neg (by intro z; have z1 : (parse tx n).1 = -4 := z.1; have z2 : 0 < zS (parse tx n).2.1 := z.2.1; have z3 : 0 < zA (parse tx n).2.1 := z.2.2; omega)]; exact hC1⟩
end MOD15
section MOD15M
variable {E : EV}
abbrev bgI (I : Nat → Nat → Int) : Nat → Nat → Int := wr (wr (wr (wr (wr (wr I 73 1 0) 75 1 0) 71 7 0) 78 3 1) 78 4 50) 78 5 2
theorem m_beginsF {M : Nat} {I J : Nat → Nat → Int} (hM : 87 ≤ M) : FnF E mdX12_begins 0 M Rf [vr E 71] I J none (bgI I) J := by
  refine FnQ.of (by decide +kernel) (Nat.le_of_ble_eq_true rfl) ?_
  show GM E mdX12_begins 0 M Rf _ I J 0 [some (vr E 71)] []
  refine G_aload_n (pc := 0) dX12_begins_0 rfl ?_
  refine G_getr (pc := 1) dX12_begins_1 fiX12_13 (by first | rfl | assumption) (by omega) (by first | rfl | assumption) ?_
  refine G_iconst (pc := 4) dX12_begins_4 ?_
  refine G_iconst (pc := 5) dX12_begins_5 ?_
  refine G_iast (pc := 6) dX12_begins_6 (by first | rfl | assumption) (by omega) (by omega) (by omega) (by omega) ?_
  refine G_aload_n (pc := 7) dX12_begins_7 rfl ?_
  refine G_getr (pc := 8) dX12_begins_8 fiX12_20 (by first | rfl | assumption) (by omega) (by first | rfl | assumption) ?_
  refine G_iconst (pc := 11) dX12_begins_11 ?_
  refine G_iconst (pc := 12) dX12_begins_12 ?_
  refine G_iast (pc := 13) dX12_begins_13 (by first | rfl | assumption) (by omega) (by omega) (by omega) (by omega) ?_
  refine G_aload_n (pc := 14) dX12_begins_14 rfl ?_
  refine G_iconst (pc := 15) dX12_begins_15 ?_
  refine G_puti (pc := 16) dX12_begins_16 fiX12_104 (by first | rfl | assumption) (by omega) ?_
  refine G_aload_n (pc := 19) dX12_begins_19 rfl ?_
  refine G_getr (pc := 20) dX12_begins_20 fiX12_29 (by first | rfl | assumption) (by omega) (by first | rfl | assumption) ?_
  refine G_iconst (pc := 23) dX12_begins_23 ?_
  refine G_iconst (pc := 24) dX12_begins_24 ?_
  refine G_iast (pc := 25) dX12_begins_25 (by first | rfl | assumption) (by omega) (by omega) (by omega) (by omega) ?_
  refine G_aload_n (pc := 26) dX12_begins_26 rfl ?_
  refine G_getr (pc := 27) dX12_begins_27 fiX12_29 (by first | rfl | assumption) (by omega) (by first | rfl | assumption) ?_
  refine G_iconst (pc := 30) dX12_begins_30 ?_
  refine G_bipush (pc := 31) dX12_begins_31 (by decide) ?_
  refine G_iast (pc := 33) dX12_begins_33 (by first | rfl | assumption) (by omega) (by omega) (by omega) (by omega) ?_
  refine G_aload_n (pc := 34) dX12_begins_34 rfl ?_
  refine G_getr (pc := 35) dX12_begins_35 fiX12_29 (by first | rfl | assumption) (by omega) (by first | rfl | assumption) ?_
  refine G_iconst (pc := 38) dX12_begins_38 ?_
  refine G_iconst (pc := 39) dX12_begins_39 ?_
  refine G_iast (pc := 40) dX12_begins_40 (by first | rfl | assumption) (by omega) (by omega) (by omega) (by omega) ?_
  refine G_vret (pc := 41) dX12_begins_41 rfl ?_
  exact ⟨rfl, rfl, rfl⟩
def R0 : Nat → Nat → Option Nat := fun q i => if q < 71 then Rf q i else none
theorem R0_Z : RZ R0 71 := fun x hx i => if_neg (by omega)
theorem m_Ref {I J : Nat → Nat → Int} (hI : IZ I 71) (hJ : IZ J 71) : FnM E mdX12_init 8 15 887 72 R0 87 Rf [vr E 71] I J (fun v I' J' => v = none ∧ Off I I' 71 86 ∧ Off J J' 71 86 ∧ MIS I' S0) := by
  have hR := R0_Z
  have hDB : DB (hs0, fun _ _ => 0) := ⟨addAskH_B (addSortH_B (clearH_B _) ok_s0) ok_a0, Nat.zero_le _, fun t h => absurd h (Nat.not_lt_zero _)⟩
  refine FnM.of (by decide +kernel) rfl (Nat.le_of_ble_eq_true rfl) ?_
  show GK E mdX12_init 8 15 887 _ _ _ 72 _ _ _ 0 0 0 [some (vr E 71)] []
  refine G_aload_n (pc := 0) dX12_init_0 rfl ?_
  refine G_obj (pc := 1) dX12_init_1 oi_X12 oi_inst oi_code (Nat.le_of_ble_eq_true rfl) ⟨Nat.le_of_ble_eq_true rfl, Nat.le_of_ble_eq_true rfl⟩ ?_
  refine G_aload_n (pc := 4) dX12_init_4 rfl ?_
  refine G_sipush (pc := 5) dX12_init_5 (by decide) ?_
  refine G_newb (pc := 8) (z := 400) dX12_init_8 ac_byte (Nat.le_of_ble_eq_true rfl) (by first | rfl | assumption) rfl (by first | assumption | exact hI.up (by omega) | (repeat (refine IZ.wr ?_ (by omega))); exact hI.up (by omega)) (by first | assumption | exact hJ.up (by omega) | (repeat (refine IZ.wr ?_ (by omega))); exact hJ.up (by omega)) ⟨Nat.le_of_ble_eq_true rfl, Nat.le_of_ble_eq_true rfl⟩ ?_
  refine G_putr (pc := 10) dX12_init_10 fiX12_7 prX12_7 (by first | rfl | assumption) (by omega) ?_
  refine G_aload_n (pc := 13) dX12_init_13 rfl ?_
  refine G_iconst (pc := 14) dX12_init_14 ?_
  refine G_newi (pc := 15) (z := 2) dX12_init_15 ac_int (Nat.le_of_ble_eq_true rfl) (by first | rfl | assumption) rfl (by first | assumption | exact hI.up (by omega) | (repeat (refine IZ.wr ?_ (by omega))); exact hI.up (by omega)) (by first | assumption | exact hJ.up (by omega) | (repeat (refine IZ.wr ?_ (by omega))); exact hJ.up (by omega)) ⟨Nat.le_of_ble_eq_true rfl, Nat.le_of_ble_eq_true rfl⟩ ?_
  refine G_putr (pc := 17) dX12_init_17 fiX12_13 prX12_13 (by first | rfl | assumption) (by omega) ?_
  refine G_aload_n (pc := 20) dX12_init_20 rfl ?_
  refine G_bipush (pc := 21) dX12_init_21 (by decide) ?_
  refine G_newi (pc := 23) (z := 48) dX12_init_23 ac_int (Nat.le_of_ble_eq_true rfl) (by first | rfl | assumption) rfl (by first | assumption | exact hI.up (by omega) | (repeat (refine IZ.wr ?_ (by omega))); exact hI.up (by omega)) (by first | assumption | exact hJ.up (by omega) | (repeat (refine IZ.wr ?_ (by omega))); exact hJ.up (by omega)) ⟨Nat.le_of_ble_eq_true rfl, Nat.le_of_ble_eq_true rfl⟩ ?_
  refine G_putr (pc := 25) dX12_init_25 fiX12_17 prX12_17 (by first | rfl | assumption) (by omega) ?_
  refine G_aload_n (pc := 28) dX12_init_28 rfl ?_
  refine G_iconst (pc := 29) dX12_init_29 ?_
  refine G_newi (pc := 30) (z := 2) dX12_init_30 ac_int (Nat.le_of_ble_eq_true rfl) (by first | rfl | assumption) rfl (by first | assumption | exact hI.up (by omega) | (repeat (refine IZ.wr ?_ (by omega))); exact hI.up (by omega)) (by first | assumption | exact hJ.up (by omega) | (repeat (refine IZ.wr ?_ (by omega))); exact hJ.up (by omega)) ⟨Nat.le_of_ble_eq_true rfl, Nat.le_of_ble_eq_true rfl⟩ ?_
  refine G_putr (pc := 32) dX12_init_32 fiX12_20 prX12_20 (by first | rfl | assumption) (by omega) ?_
  refine G_aload_n (pc := 35) dX12_init_35 rfl ?_
  refine G_bipush (pc := 36) dX12_init_36 (by decide) ?_
  refine G_newi (pc := 38) (z := 48) dX12_init_38 ac_int (Nat.le_of_ble_eq_true rfl) (by first | rfl | assumption) rfl (by first | assumption | exact hI.up (by omega) | (repeat (refine IZ.wr ?_ (by omega))); exact hI.up (by omega)) (by first | assumption | exact hJ.up (by omega) | (repeat (refine IZ.wr ?_ (by omega))); exact hJ.up (by omega)) ⟨Nat.le_of_ble_eq_true rfl, Nat.le_of_ble_eq_true rfl⟩ ?_
  refine G_putr (pc := 40) dX12_init_40 fiX12_23 prX12_23 (by first | rfl | assumption) (by omega) ?_
  refine G_aload_n (pc := 43) dX12_init_43 rfl ?_
  refine G_bipush (pc := 44) dX12_init_44 (by decide) ?_
  refine G_newi (pc := 46) (z := 16) dX12_init_46 ac_int (Nat.le_of_ble_eq_true rfl) (by first | rfl | assumption) rfl (by first | assumption | exact hI.up (by omega) | (repeat (refine IZ.wr ?_ (by omega))); exact hI.up (by omega)) (by first | assumption | exact hJ.up (by omega) | (repeat (refine IZ.wr ?_ (by omega))); exact hJ.up (by omega)) ⟨Nat.le_of_ble_eq_true rfl, Nat.le_of_ble_eq_true rfl⟩ ?_
  refine G_putr (pc := 48) dX12_init_48 fiX12_26 prX12_26 (by first | rfl | assumption) (by omega) ?_
  refine G_aload_n (pc := 51) dX12_init_51 rfl ?_
  refine G_bipush (pc := 52) dX12_init_52 (by decide) ?_
  refine G_newi (pc := 54) (z := 6) dX12_init_54 ac_int (Nat.le_of_ble_eq_true rfl) (by first | rfl | assumption) rfl (by first | assumption | exact hI.up (by omega) | (repeat (refine IZ.wr ?_ (by omega))); exact hI.up (by omega)) (by first | assumption | exact hJ.up (by omega) | (repeat (refine IZ.wr ?_ (by omega))); exact hJ.up (by omega)) ⟨Nat.le_of_ble_eq_true rfl, Nat.le_of_ble_eq_true rfl⟩ ?_
  refine G_putr (pc := 56) dX12_init_56 fiX12_29 prX12_29 (by first | rfl | assumption) (by omega) ?_
  refine G_aload_n (pc := 59) dX12_init_59 rfl ?_
  refine G_iconst (pc := 60) dX12_init_60 ?_
  refine G_newi (pc := 61) (z := 4) dX12_init_61 ac_int (Nat.le_of_ble_eq_true rfl) (by first | rfl | assumption) rfl (by first | assumption | exact hI.up (by omega) | (repeat (refine IZ.wr ?_ (by omega))); exact hI.up (by omega)) (by first | assumption | exact hJ.up (by omega) | (repeat (refine IZ.wr ?_ (by omega))); exact hJ.up (by omega)) ⟨Nat.le_of_ble_eq_true rfl, Nat.le_of_ble_eq_true rfl⟩ ?_
  refine G_putr (pc := 63) dX12_init_63 fiX12_32 prX12_32 (by first | rfl | assumption) (by omega) ?_
  refine G_aload_n (pc := 66) dX12_init_66 rfl ?_
  refine G_bipush (pc := 67) dX12_init_67 (by decide) ?_
  refine G_newi (pc := 69) (z := 64) dX12_init_69 ac_int (Nat.le_of_ble_eq_true rfl) (by first | rfl | assumption) rfl (by first | assumption | exact hI.up (by omega) | (repeat (refine IZ.wr ?_ (by omega))); exact hI.up (by omega)) (by first | assumption | exact hJ.up (by omega) | (repeat (refine IZ.wr ?_ (by omega))); exact hJ.up (by omega)) ⟨Nat.le_of_ble_eq_true rfl, Nat.le_of_ble_eq_true rfl⟩ ?_
  refine G_putr (pc := 71) dX12_init_71 fiX12_35 prX12_35 (by first | rfl | assumption) (by omega) ?_
  refine G_aload_n (pc := 74) dX12_init_74 rfl ?_
  refine G_iconst (pc := 75) dX12_init_75 ?_
  refine G_newi (pc := 76) (z := 3) dX12_init_76 ac_int (Nat.le_of_ble_eq_true rfl) (by first | rfl | assumption) rfl (by first | assumption | exact hI.up (by omega) | (repeat (refine IZ.wr ?_ (by omega))); exact hI.up (by omega)) (by first | assumption | exact hJ.up (by omega) | (repeat (refine IZ.wr ?_ (by omega))); exact hJ.up (by omega)) ⟨Nat.le_of_ble_eq_true rfl, Nat.le_of_ble_eq_true rfl⟩ ?_
  refine G_putr (pc := 78) dX12_init_78 fiX12_38 prX12_38 (by first | rfl | assumption) (by omega) ?_
  refine G_aload_n (pc := 81) dX12_init_81 rfl ?_
  refine G_bipush (pc := 82) dX12_init_82 (by decide) ?_
  refine G_newi (pc := 84) (z := 36) dX12_init_84 ac_int (Nat.le_of_ble_eq_true rfl) (by first | rfl | assumption) rfl (by first | assumption | exact hI.up (by omega) | (repeat (refine IZ.wr ?_ (by omega))); exact hI.up (by omega)) (by first | assumption | exact hJ.up (by omega) | (repeat (refine IZ.wr ?_ (by omega))); exact hJ.up (by omega)) ⟨Nat.le_of_ble_eq_true rfl, Nat.le_of_ble_eq_true rfl⟩ ?_
  refine G_putr (pc := 86) dX12_init_86 fiX12_41 prX12_41 (by first | rfl | assumption) (by omega) ?_
  refine G_aload_n (pc := 89) dX12_init_89 rfl ?_
  refine G_bipush (pc := 90) dX12_init_90 (by decide) ?_
  refine G_newl (pc := 92) (z := 14) dX12_init_92 ac_long (Nat.le_of_ble_eq_true rfl) (by first | rfl | assumption) rfl (by first | assumption | exact hI.up (by omega) | (repeat (refine IZ.wr ?_ (by omega))); exact hI.up (by omega)) (by first | assumption | exact hJ.up (by omega) | (repeat (refine IZ.wr ?_ (by omega))); exact hJ.up (by omega)) ⟨Nat.le_of_ble_eq_true rfl, Nat.le_of_ble_eq_true rfl⟩ ?_
  refine G_putr (pc := 94) dX12_init_94 fiX12_44 prX12_44 (by first | rfl | assumption) (by omega) ?_
  refine G_aload_n (pc := 97) dX12_init_97 rfl ?_
  refine G_bipush (pc := 98) dX12_init_98 (by decide) ?_
  refine G_newz (pc := 100) (z := 120) dX12_init_100 ac_boolean (Nat.le_of_ble_eq_true rfl) (by first | rfl | assumption) rfl (by first | assumption | exact hI.up (by omega) | (repeat (refine IZ.wr ?_ (by omega))); exact hI.up (by omega)) (by first | assumption | exact hJ.up (by omega) | (repeat (refine IZ.wr ?_ (by omega))); exact hJ.up (by omega)) ⟨Nat.le_of_ble_eq_true rfl, Nat.le_of_ble_eq_true rfl⟩ ?_
  refine G_putr (pc := 102) dX12_init_102 fiX12_48 prX12_48 (by first | rfl | assumption) (by omega) ?_
  refine G_aload_n (pc := 105) dX12_init_105 rfl ?_
  refine G_bipush (pc := 106) dX12_init_106 (by decide) ?_
  refine G_newz (pc := 108) (z := 120) dX12_init_108 ac_boolean (Nat.le_of_ble_eq_true rfl) (by first | rfl | assumption) rfl (by first | assumption | exact hI.up (by omega) | (repeat (refine IZ.wr ?_ (by omega))); exact hI.up (by omega)) (by first | assumption | exact hJ.up (by omega) | (repeat (refine IZ.wr ?_ (by omega))); exact hJ.up (by omega)) ⟨Nat.le_of_ble_eq_true rfl, Nat.le_of_ble_eq_true rfl⟩ ?_
  refine G_putr (pc := 110) dX12_init_110 fiX12_52 prX12_52 (by first | rfl | assumption) (by omega) ?_
  refine G_aload_n (pc := 113) dX12_init_113 rfl ?_
  refine G_iconst (pc := 114) dX12_init_114 ?_
  refine G_newi (pc := 115) (z := 4) dX12_init_115 ac_int (Nat.le_of_ble_eq_true rfl) (by first | rfl | assumption) rfl (by first | assumption | exact hI.up (by omega) | (repeat (refine IZ.wr ?_ (by omega))); exact hI.up (by omega)) (by first | assumption | exact hJ.up (by omega) | (repeat (refine IZ.wr ?_ (by omega))); exact hJ.up (by omega)) ⟨Nat.le_of_ble_eq_true rfl, Nat.le_of_ble_eq_true rfl⟩ ?_
  refine G_putr (pc := 117) dX12_init_117 fiX12_55 prX12_55 (by first | rfl | assumption) (by omega) ?_
  refine G_world (R' := Rf) (by decide +kernel) ?_
  refine G_aload_n (pc := 120) dX12_init_120 rfl ?_
  refine G_callV0 (pc := 121) (md := mdX12_begins) (av := []) dX12_init_121 lkX12_58 mwX12_begins (m_beginsF (by omega)) rfl (by first | rfl | assumption) (by omega) rfl rfl (Nat.le_of_ble_eq_true rfl) (by decide) ⟨Nat.le_of_ble_eq_true rfl, Nat.le_of_ble_eq_true rfl⟩ ?_
  refine G_aload_n (pc := 124) dX12_init_124 rfl ?_
  refine G_getr (pc := 125) dX12_init_125 fiX12_13 (by first | rfl | assumption) (by omega) (by first | rfl | assumption) ?_
  refine G_iconst (pc := 128) dX12_init_128 ?_
  refine G_iconst (pc := 129) dX12_init_129 ?_
  refine G_iast (pc := 130) dX12_init_130 (by first | rfl | assumption) (by omega) (by omega) (by omega) (by omega) ?_
  refine G_aload_n (pc := 131) dX12_init_131 rfl ?_
  refine G_getr (pc := 132) dX12_init_132 fiX12_17 (by first | rfl | assumption) (by omega) (by first | rfl | assumption) ?_
  refine G_bipush (pc := 135) dX12_init_135 (by decide) ?_
  refine G_bipush (pc := 137) dX12_init_137 (by decide) ?_
  refine G_iast (pc := 139) dX12_init_139 (by first | rfl | assumption) (by omega) (by omega) (by omega) (by omega) ?_
  refine G_aload_n (pc := 140) dX12_init_140 rfl ?_
  refine G_getr (pc := 141) dX12_init_141 fiX12_17 (by first | rfl | assumption) (by omega) (by first | rfl | assumption) ?_
  refine G_bipush (pc := 144) dX12_init_144 (by decide) ?_
  refine G_iconst (pc := 146) dX12_init_146 ?_
  refine G_iast (pc := 147) dX12_init_147 (by first | rfl | assumption) (by omega) (by omega) (by omega) (by omega) ?_
  refine G_aload_n (pc := 148) dX12_init_148 rfl ?_
  refine G_getr (pc := 149) dX12_init_149 fiX12_17 (by first | rfl | assumption) (by omega) (by first | rfl | assumption) ?_
  refine G_bipush (pc := 152) dX12_init_152 (by decide) ?_
  refine G_iconst (pc := 154) dX12_init_154 ?_
  refine G_iast (pc := 155) dX12_init_155 (by first | rfl | assumption) (by omega) (by omega) (by omega) (by omega) ?_
  refine G_aload_n (pc := 156) dX12_init_156 rfl ?_
  refine G_getr (pc := 157) dX12_init_157 fiX12_20 (by first | rfl | assumption) (by omega) (by first | rfl | assumption) ?_
  refine G_iconst (pc := 160) dX12_init_160 ?_
  refine G_iconst (pc := 161) dX12_init_161 ?_
  refine G_iast (pc := 162) dX12_init_162 (by first | rfl | assumption) (by omega) (by omega) (by omega) (by omega) ?_
  refine G_aload_n (pc := 163) dX12_init_163 rfl ?_
  refine G_getr (pc := 164) dX12_init_164 fiX12_23 (by first | rfl | assumption) (by omega) (by first | rfl | assumption) ?_
  refine G_bipush (pc := 167) dX12_init_167 (by decide) ?_
  refine G_iconst (pc := 169) dX12_init_169 ?_
  refine G_iast (pc := 170) dX12_init_170 (by first | rfl | assumption) (by omega) (by omega) (by omega) (by omega) ?_
  refine G_aload_n (pc := 171) dX12_init_171 rfl ?_
  refine G_getr (pc := 172) dX12_init_172 fiX12_23 (by first | rfl | assumption) (by omega) (by first | rfl | assumption) ?_
  refine G_bipush (pc := 175) dX12_init_175 (by decide) ?_
  refine G_iconst (pc := 177) dX12_init_177 ?_
  refine G_iast (pc := 178) dX12_init_178 (by first | rfl | assumption) (by omega) (by omega) (by omega) (by omega) ?_
  refine G_aload_n (pc := 179) dX12_init_179 rfl ?_
  refine G_getr (pc := 180) dX12_init_180 fiX12_23 (by first | rfl | assumption) (by omega) (by first | rfl | assumption) ?_
  refine G_bipush (pc := 183) dX12_init_183 (by decide) ?_
  refine G_iconst (pc := 185) dX12_init_185 ?_
  refine G_iast (pc := 186) dX12_init_186 (by first | rfl | assumption) (by omega) (by omega) (by omega) (by omega) ?_
  refine G_aload_n (pc := 187) dX12_init_187 rfl ?_
  refine G_getr (pc := 188) dX12_init_188 fiX12_23 (by first | rfl | assumption) (by omega) (by first | rfl | assumption) ?_
  refine G_bipush (pc := 191) dX12_init_191 (by decide) ?_
  refine G_iconst (pc := 193) dX12_init_193 ?_
  refine G_iast (pc := 194) dX12_init_194 (by first | rfl | assumption) (by omega) (by omega) (by omega) (by omega) ?_
  have z74 : I 74 27 = 0 := hI 74 (by omega) 27
  have hPD : PD (wr (wr (wr (wr (wr (wr (wr (wr (wr (bgI I) 73 1 1) 74 24 10) 74 25 5) 74 26 5) 75 1 1) 76 24 5) 76 25 2) 76 26 5) 76 27 5) (hs0, fun _ _ => 0) := by
    refine ⟨⟨by simp [wr]; rfl, by simp [wr]; rfl, fun s hs i hi => ?_, fun a ha i h4 h8 => ?_, fun i h11 h14 => ?_⟩, by simp [wr], fun t ht => absurd ht (Nat.not_lt_zero _)⟩
    · have hs : s < 1 := hs
      obtain rfl : s = 0 := by omega
      rcases (show i = 0 ∨ i = 1 ∨ i = 2 ∨ i = 3 by omega) with rfl | rfl | rfl | rfl <;> simp [wr, z74] <;> rfl
    · have ha : a < 1 := ha
      obtain rfl : a = 0 := by omega
      rcases (show i = 4 ∨ i = 5 ∨ i = 6 ∨ i = 7 by omega) with rfl | rfl | rfl | rfl <;> simp [wr] <;> rfl
    · rcases (show i = 11 ∨ i = 12 ∨ i = 13 by omega) with rfl | rfl | rfl <;> simp [wr] <;> rfl
  refine G_aload_n (pc := 195) dX12_init_195 rfl ?_
  refine G_callV (pc := 196) (md := mdX12_takes) (av := []) dX12_init_196 lkX12_61 mwX12_takes (m_takes (by omega) hPD hDB) rfl (by first | rfl | assumption) (by omega) rfl rfl (Nat.le_of_ble_eq_true rfl) (by decide) ⟨Nat.le_of_ble_eq_true rfl, Nat.le_of_ble_eq_true rfl⟩ ?_
  rintro v I2 J2 ⟨rfl, rfl, ⟨hq, h71⟩, hH2, hR2, hT2, hk2⟩
  refine G_vret (pc := 199) dX12_init_199 rfl ?_
  refine ⟨rfl, fun q hq2 => ?_, Off.rfl, ⟨⟨?_, fun i hi => absurd hi (Nat.not_lt_zero _)⟩, hH2, ⟨hR2.1, fun t ht => absurd ht (Nat.not_lt_zero _)⟩, ⟨hT2.1, fun t ht => absurd ht (Nat.not_lt_zero _)⟩, hk2, fun z => absurd z (show ¬ 1 ≤ 0 by decide), fun z => absurd z (show ¬ 2 ≤ 0 by decide)⟩⟩
  · rw [hq q (by omega) (by omega) (by omega) (by omega) (by omega) (by omega) (by omega) (by omega) (by omega)]
    simp (disch := omega) only [wr_o]
  · rw [h71 0 (by decide)]
    have z0 : I 71 0 = 0 := hI 71 (by omega) 0
    simp [wr, z0]; rfl
end MOD15M
