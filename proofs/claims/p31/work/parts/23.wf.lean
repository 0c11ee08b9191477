/-! THE STATE STAYS ONE -/
theorem TB_addR {hs : HS} {C : CS} {a b : Nat} (h : TB hs C) : TB hs (addR C a b) := by
  have e : ∀ i, 3 ≤ i → addR C a b i = C i := fun i hi => by funext x; simp [addR, show ¬ i = 0 by omega, show ¬ i = 1 by omega, show ¬ i = 2 by omega]
  unfold TB at *
  rw [e 3 (by omega), e 4 (by omega), e 5 (by omega), e 6 (by omega), e 7 (by omega)]
  exact h
theorem RB_noT {hs : HS} {C : CS} (h : RB hs C) : RB hs (noT C) := by
  have e : ∀ i, i ≠ 3 → noT C i = C i := fun i hi => by funext x; simp [noT, hi]
  unfold RB at *
  rw [e 0 (by omega), e 1 (by omega), e 2 (by omega)]
  exact h
theorem TB_noT (hs : HS) (C : CS) : TB hs (noT C) := ⟨Nat.zero_le _, fun t h => absurd h (Nat.not_lt_zero _)⟩
theorem RB_noR (hs : HS) (C : CS) : RB hs (noR C) := ⟨Nat.zero_le _, fun t h => absurd h (Nat.not_lt_zero _)⟩
theorem TB_noR {hs : HS} {C : CS} (h : TB hs C) : TB hs (noR C) := by
  have e : ∀ i, i ≠ 0 → noR C i = C i := fun i hi => by funext x; simp [noR, hi]
  unfold TB at *
  rw [e 3 (by omega), e 4 (by omega), e 5 (by omega), e 6 (by omega), e 7 (by omega)]
  exact h
theorem RB_addT {hs : HS} {C : CS} {a b c d : Nat} (h : RB hs C) : RB hs (addT C a b c d) := by
  have e : ∀ i, i < 3 → addT C a b c d i = C i := fun i hi => by funext x; simp [addT, show ¬ i = 3 by omega, show ¬ i = 4 by omega, show ¬ i = 5 by omega, show ¬ i = 6 by omega, show ¬ i = 7 by omega]
  unfold RB at *
  rw [e 0 (by omega), e 1 (by omega), e 2 (by omega)]
  exact h
theorem RB_addR {hs : HS} {C : CS} {a b : Nat} (h : RB hs C) (h8 : C 0 0 < 8) (ha : a < zA hs) (hb : b ≤ 1) : RB hs (addR C a b) := by
  refine ⟨by show C 0 0 + 1 ≤ 8; omega, fun t ht => ?_⟩
  have ht : t < C 0 0 + 1 := ht
  by_cases e : t = C 0 0
  · subst e; simp [addR]; omega
  · have := h.2 t (by omega)
    simpa [addR, e] using this
theorem TB_addT {hs : HS} {C : CS} {a b c d : Nat} (h : TB hs C) (h3 : C 3 0 < 3) (ha : a < zS hs) (hb : b < zA hs) (hc : 1 ≤ c ∧ c ≤ 4) (hd : d ≤ c) : TB hs (addT C a b c d) := by
  refine ⟨by show C 3 0 + 1 ≤ 3; omega, fun t ht => ?_⟩
  have ht : t < C 3 0 + 1 := ht
  by_cases e : t = C 3 0
  · subst e; simp [addT]; omega
  · have := h.2 t (by omega)
    simpa [addT, e] using this
theorem W_co {S : ST} {C' : CS} (h : WFS S) (hR : RB S.2.2.1 C') (hT : TB S.2.2.1 C') : WFS (sCo S C') := ⟨h.1, h.2.1, h.2.2.1, h.2.2.2.1, h.2.2.2.2.1, hR, hT, h.2.2.2.2.2.2.2⟩
theorem W_write {S : ST} (h : WFS S) (k v : Int) : WFS (sWrite S k v) := by
  unfold sWrite
  by_cases g : (1 ≤ k ∧ k ≤ 8) ∧ (S.1 : Int) + k ≤ 400
  · rw [if_pos g]
    obtain ⟨h1, h2, h3⟩ := h
    refine ⟨by show S.1 + k.toNat ≤ 400; omega, fun i => ?_, h3⟩
    show -128 ≤ txW S.2.1 S.1 k.toNat v i ∧ txW S.2.1 S.1 k.toNat v i ≤ 127
    unfold txW
    by_cases e : S.1 ≤ i ∧ i < S.1 + k.toNat
    · rw [if_pos e]; exact bt_R _ _
    · rw [if_neg e]; exact h2 i
  · rw [if_neg g]; exact h
theorem W_wipe {S : ST} (h : WFS S) : WFS (0, S.2) := ⟨Nat.zero_le _, h.2⟩
theorem W_lay {S : ST} (h : WFS S) : WFS (sLay S) := by
  unfold sLay
  by_cases g : okL S.2.1 S.1
  · rw [if_pos g]
    have hD : DB (parse S.2.1 S.1).2 := paF_B _ _ _ 0 D0 D0_B
    exact ⟨h.1, h.2.1, hD.1, g.2.1, g.2.2, RB_noT hD.2, TB_noT _ _, Nat.zero_le _, fun j a b => absurd (Nat.le_trans a b) (show ¬ 1 ≤ 0 by decide)⟩
  · rw [if_neg g]; exact h
theorem W_step {S : ST} (h : WFS S) (a k : Int) : WFS (sStep S a k) := by
  unfold sStep
  by_cases g : (isA S.2.2.1 a ∧ 0 ≤ k ∧ k ≤ 1) ∧ S.2.2.2.1 0 0 < 8
  · rw [if_pos g]
    have ga : 0 ≤ a ∧ a < (zA S.2.2.1 : Int) := g.1.1
    have gk := g.1.2
    exact W_co h (RB_addR h.2.2.2.2.2.1 g.2 (by omega) (by omega)) (TB_addR h.2.2.2.2.2.2.1)
  · rw [if_neg g]; exact h
theorem W_noRow {S : ST} (h : WFS S) : WFS (sNoRow S) := W_co h (RB_noR _ _) (TB_noR h.2.2.2.2.2.2.1)
theorem W_forget {S : ST} (h : WFS S) : WFS (sForget S) := W_co h (RB_noT h.2.2.2.2.2.1) (TB_noT _ _)
theorem W_tell {S : ST} (h : WFS S) (s a n d : Int) : WFS (sTell S s a n d) := by
  unfold sTell
  by_cases g : (isS S.2.2.1 s ∧ isA S.2.2.1 a ∧ (1 ≤ n ∧ n ≤ 4) ∧ 0 ≤ d ∧ d ≤ n) ∧ S.2.2.2.1 3 0 < 3
  · rw [if_pos g]
    have gs : 0 ≤ s ∧ s < (zS S.2.2.1 : Int) := g.1.1
    have ga : 0 ≤ a ∧ a < (zA S.2.2.1 : Int) := g.1.2.1
    have gn := g.1.2.2.1
    have gd := g.1.2.2.2
    exact W_co h (RB_addT h.2.2.2.2.2.1) (TB_addT h.2.2.2.2.2.2.1 g.2 (by omega) (by omega) (by omega) (by omega))
  · rw [if_neg g]; exact h
theorem W_keep {S : ST} (h : WFS S) : WFS (sKeep S) := by
  unfold sKeep
  by_cases g : S.2.2.2.2.1 = 2
  · rw [if_pos g]; exact h
  · rw [if_neg g]
    obtain ⟨h1, h2, h3, h4, h5, h6, h7, h8, h9⟩ := h
    refine ⟨h1, h2, h3, h4, h5, h6, h7, by show S.2.2.2.2.1 + 1 ≤ 2; omega, fun j a b => ?_⟩
    have b : j ≤ S.2.2.2.2.1 + 1 := b
    show RB S.2.2.1 (if j = S.2.2.2.2.1 + 1 then S.2.2.2.1 else S.2.2.2.2.2 j) ∧ TB S.2.2.1 (if j = S.2.2.2.2.1 + 1 then S.2.2.2.1 else S.2.2.2.2.2 j)
    by_cases e : j = S.2.2.2.2.1 + 1
    · rw [if_pos e]; exact ⟨h6, h7⟩
    · rw [if_neg e]; exact h9 j a (by omega)
theorem W_back {S : ST} (h : WFS S) : WFS (sBack S) := by
  unfold sBack
  by_cases g : S.2.2.2.2.1 = 0
  · rw [if_pos g]; exact h
  · rw [if_neg g]
    obtain ⟨h1, h2, h3, h4, h5, h6, h7, h8, h9⟩ := h
    have hk := h9 S.2.2.2.2.1 (by omega) (Nat.le_refl _)
    exact ⟨h1, h2, h3, h4, h5, hk.1, hk.2, by show S.2.2.2.2.1 - 1 ≤ 2; omega, fun j a b => h9 j a (by have b : j ≤ S.2.2.2.2.1 - 1 := b; omega)⟩
