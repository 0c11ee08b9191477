/-! FACTS: what the answers are to each other -/
theorem aDoes_e {hs : HS} {k a : Nat} {m w : Int} (hk : k < hs 8 0) (ha : a < hs 9 0) (hm : 0 ≤ m ∧ m ≤ 3) (hw : 0 ≤ w ∧ w ≤ 2) : aDoes hs k a m w = if w = 0 then (fe hs k a m.toNat : Int) else if w = 1 then (pl hs k a m.toNat : Int) else (dO hs k a m.toNat : Int) := by
  have c1 : (0 : Int) ≤ (k : Int) ∧ (k : Int) < (hs 8 0 : Nat) := by omega
  have c2 : (0 : Int) ≤ (a : Int) ∧ (a : Int) < (hs 9 0 : Nat) := by omega
  unfold aDoes
  rw [if_pos ⟨c1, c2, hm, hw⟩, Int.toNat_natCast, Int.toNat_natCast]
theorem fe_10 (hs : HS) (s a : Nat) : fe hs s a 1 ≤ fe hs s a 0 := by
  rw [show fe hs s a 1 = min 10 (hs 1 s - hs 4 a) from rfl, show fe hs s a 0 = min 10 (hs 1 s + hs 5 a - hs 4 a) from rfl]; omega
theorem pl_10 (hs : HS) (s a : Nat) : pl hs s a 1 ≤ pl hs s a 0 := by
  rw [show pl hs s a 1 = min 10 (hs 2 s - hs 6 a) from rfl, show pl hs s a 0 = min 10 (hs 2 s + hs 3 s - hs 6 a) from rfl]; omega
theorem dof_mono {f p f' p' : Nat} (h1 : f ≤ f') (h2 : p ≤ p') (h3 : f' ≤ 10) (h4 : p' ≤ 10) : dof f p ≤ dof f' p' := by
  unfold dof
  obtain ⟨e, rfl⟩ : ∃ e, f' = f + e := ⟨f' - f, by omega⟩
  have a1 := Nat.mul_le_mul_left (10 - f) h2
  have a2 : (10 - f) * p' = (10 - (f + e)) * p' + e * p' := by rw [← Nat.add_mul]; congr 1; omega
  have a3 := Nat.mul_le_mul_left e h4
  omega
theorem dO_10 (hs : HS) (s a : Nat) : dO hs s a 1 ≤ dO hs s a 0 := dof_mono (fe_10 hs s a) (pl_10 hs s a) (fe_le _ _ _ _) (pl_le _ _ _ _)
theorem f_does {hs : HS} {k a : Nat} (hk : k < hs 8 0) (ha : a < hs 9 0) : (0 ≤ aDoes hs k a 1 0 ∧ aDoes hs k a 1 0 ≤ aDoes hs k a 0 0 ∧ aDoes hs k a 0 0 ≤ 10) ∧ aDoes hs k a 3 0 = aDoes hs k a 0 0 ∧ aDoes hs k a 2 0 = 0 ∧ aDoes hs k a 3 1 = 0 ∧ (0 ≤ aDoes hs k a 1 1 ∧ aDoes hs k a 1 1 ≤ aDoes hs k a 0 1 ∧ aDoes hs k a 0 1 ≤ 10) ∧ aDoes hs k a 3 2 = 10 * aDoes hs k a 0 0 ∧ (0 ≤ aDoes hs k a 1 2 ∧ aDoes hs k a 1 2 ≤ aDoes hs k a 0 2 ∧ aDoes hs k a 0 2 ≤ 100) := by
  have e00 : aDoes hs k a 0 0 = (fe hs k a 0 : Int) := aDoes_e hk ha (by omega) (by omega)
  have e10 : aDoes hs k a 1 0 = (fe hs k a 1 : Int) := aDoes_e hk ha (by omega) (by omega)
  have e30 : aDoes hs k a 3 0 = (fe hs k a 0 : Int) := aDoes_e hk ha (by omega) (by omega)
  have e20 : aDoes hs k a 2 0 = ((0 : Nat) : Int) := aDoes_e hk ha (by omega) (by omega)
  have e31 : aDoes hs k a 3 1 = ((0 : Nat) : Int) := aDoes_e hk ha (by omega) (by omega)
  have e01 : aDoes hs k a 0 1 = (pl hs k a 0 : Int) := aDoes_e hk ha (by omega) (by omega)
  have e11 : aDoes hs k a 1 1 = (pl hs k a 1 : Int) := aDoes_e hk ha (by omega) (by omega)
  have e32 : aDoes hs k a 3 2 = ((10 * fe hs k a 0 + (10 - fe hs k a 0) * 0 : Nat) : Int) := aDoes_e hk ha (by omega) (by omega)
  have e02 : aDoes hs k a 0 2 = (dO hs k a 0 : Int) := aDoes_e hk ha (by omega) (by omega)
  have e12 : aDoes hs k a 1 2 = (dO hs k a 1 : Int) := aDoes_e hk ha (by omega) (by omega)
  have g1 := fe_10 hs k a
  have g2 := pl_10 hs k a
  have g3 := dO_10 hs k a
  have g4 := fe_le hs k a 0
  have g5 := pl_le hs k a 0
  have g6 := dO_le hs k a 0
  rw [e00, e10, e30, e20, e31, e01, e11, e32, e02, e12, Nat.mul_zero]
  omega
theorem f_relief {hs : HS} {k a : Nat} (hk : k < hs 8 0) (ha : a < hs 9 0) : 0 ≤ aRelief hs k a 0 ∧ aRelief hs k a 0 ≤ (hs 12 0 / 2 : Nat) := by
  have c1 : (0 : Int) ≤ (k : Int) ∧ (k : Int) < (hs 8 0 : Nat) := by omega
  have c2 : (0 : Int) ≤ (a : Int) ∧ (a : Int) < (hs 9 0 : Nat) := by omega
  have e : aRelief hs k a 0 = ((hs 12 0 * fe hs k a 0 / 20 : Nat) : Int) := by
    unfold aRelief
    rw [if_pos ⟨c1, c2, by omega, by omega⟩, if_pos rfl, Int.toNat_natCast, Int.toNat_natCast]
    rfl
  have h := Nat.mul_le_mul_left (hs 12 0) (fe_le hs k a 0)
  rw [e]
  omega
theorem am_ge (g : Nat → Int) : ∀ n k, k < n → g k ≤ g (am g n)
  | 0, k, h => absurd h (Nat.not_lt_zero k)
  | n + 1, k, h => by
    rw [am]
    by_cases e : k = n
    · subst e
      split
      · exact Int.le_refl _
      · omega
    · have := am_ge g n k (by omega)
      split
      · omega
      · exact this
theorem f_harm {hs : HS} {k a : Nat} (hk : k < hs 8 0) (ha : a < hs 9 0) : 100 ≤ aHarm hs a 0 ∧ aHarm hs a 0 ≤ 200 ∧ aDoes hs k a 0 2 - aDoes hs k a 1 2 ≤ aHarm hs a 0 - 100 := by
  have c2 : (0 : Int) ≤ (a : Int) ∧ (a : Int) < (hs 9 0 : Nat) := by omega
  have e : aHarm hs a 0 = gn hs (am (fun s => gn hs s a) (hs 8 0)) a + 100 := by
    unfold aHarm
    rw [if_pos ⟨c2, by omega, by omega⟩, if_pos rfl, Int.toNat_natCast]
  have e02 : aDoes hs k a 0 2 = (dO hs k a 0 : Int) := aDoes_e hk ha (by omega) (by omega)
  have e12 : aDoes hs k a 1 2 = (dO hs k a 1 : Int) := aDoes_e hk ha (by omega) (by omega)
  have h1 := am_ge (fun s => gn hs s a) (hs 8 0) k hk
  have h2 := dO_10 hs k a
  have h3 := gn_R hs (am (fun s => gn hs s a) (hs 8 0)) a
  have h4 : gn hs k a ≤ gn hs (am (fun s => gn hs s a) (hs 8 0)) a := h1
  have h5 : gn hs k a = (dO hs k a 0 : Int) - (dO hs k a 1 : Int) := rfl
  rw [e, e02, e12]
  omega
theorem sumZ_R {f : Nat → Int} {b : Nat} : ∀ n, (∀ i, i < n → 0 ≤ f i ∧ f i ≤ b) → 0 ≤ sumZ f n ∧ sumZ f n ≤ ((n * b : Nat) : Int)
  | 0, _ => by rw [sumZ, Nat.zero_mul]; omega
  | n + 1, h => by
    have h1 := sumZ_R n fun i hi => h i (by omega)
    have h2 := h n (by omega)
    rw [sumZ, Nat.succ_mul]
    omega
theorem f_words {hs : HS} (hB : HB hs) {a : Nat} (ha : a < hs 9 0) : 1000 ≤ aWords hs a ∧ aWords hs a ≤ 100000 := by
  have c2 : (0 : Int) ≤ (a : Int) ∧ (a : Int) < (hs 9 0 : Nat) := by omega
  have hS : hs 8 0 ≤ 6 := hB.1
  have h1 := sumZ_R (f := fun s => (hs 0 s : Int) * gn hs s a) (b := 6000) (hs 8 0) fun i hi => by
    have h2 := (hB.2.2.2.2.1 i hi).2.1
    have h3 := dO_10 hs i a
    have h4 := dO_le hs i a 0
    have h5 : gn hs i a = ((dO hs i a 0 - dO hs i a 1 : Nat) : Int) := by unfold gn; omega
    have h6 : (hs 0 i : Int) * gn hs i a = ((hs 0 i * (dO hs i a 0 - dO hs i a 1) : Nat) : Int) := by rw [h5, Int.natCast_mul]
    have h7 : hs 0 i * (dO hs i a 0 - dO hs i a 1) ≤ 60 * 100 := Nat.mul_le_mul h2 (by omega)
    show 0 ≤ (hs 0 i : Int) * gn hs i a ∧ (hs 0 i : Int) * gn hs i a ≤ (6000 : Nat)
    rw [h6]
    omega
  have e : aWords hs a = (sumZ (fun s => (hs 0 s : Int) * gn hs s a) (hs 8 0)).tdiv 100 + 1000 := by
    unfold aWords
    rw [if_pos c2, Int.toNat_natCast]
  rw [e, Int.tdiv_eq_ediv_of_nonneg h1.1]
  omega
/-! the mean of what lies between lies between -/
theorem wavg {w b : Nat → Nat} {lo hi : Nat} {n : Nat} (h : ∀ s, s < n → lo ≤ b s ∧ b s ≤ hi) (h0 : 0 < sumN w n) : 1000 * lo ≤ 1000 * sumN (fun s => w s * b s) n / sumN w n ∧ 1000 * sumN (fun s => w s * b s) n / sumN w n ≤ 1000 * hi := by
  have key : ∀ m, m ≤ n → sumN w m * lo ≤ sumN (fun s => w s * b s) m ∧ sumN (fun s => w s * b s) m ≤ sumN w m * hi := by
    intro m
    induction m with
    | zero => intro _; simp [sumN]
    | succ m ih =>
      intro hm
      have i1 := ih (by omega)
      have i2 := h m (by omega)
      have j1 := Nat.mul_le_mul_left (w m) i2.1
      have j2 := Nat.mul_le_mul_left (w m) i2.2
      simp only [sumN, Nat.add_mul]
      omega
  obtain ⟨k1, k2⟩ := key n (Nat.le_refl n)
  constructor
  · rw [Nat.le_div_iff_mul_le h0]
    have := Nat.mul_le_mul_left 1000 k1
    rw [Nat.mul_assoc, Nat.mul_comm lo]
    exact this
  · refine Nat.div_le_of_le_mul ?_
    have := Nat.mul_le_mul_left 1000 k2
    rw [Nat.mul_left_comm]
    exact this
theorem f_bent0 {hs : HS} (hB : HB hs) (h0 : 0 < hs 8 0) {C : CS} {lo hi : Nat} (h : ∀ s, s < hs 8 0 → lo ≤ hs 1 s ∧ hs 1 s ≤ hi) (hh : hi ≤ 10) : 1000 * (lo : Int) ≤ aBent hs C 0 ∧ aBent hs C 0 ≤ 1000 * (hi : Int) ∧ 0 ≤ aBent hs C 0 ∧ aBent hs C 0 ≤ 10000 := by
  have hN : hs 10 0 = sumN (hs 0) (hs 8 0) := hB.2.2.2.1
  have hp : 0 < sumN (hs 0) (hs 8 0) := by
    have h1 := sumN_term (f := hs 0) h0
    have h2 := (hB.2.2.2.2.1 0 h0).1
    omega
  have h1 := wavg (w := hs 0) h hp
  have e : aBent hs C 0 = ((1000 * sumN (fun s => hs 0 s * hs 1 s) (hs 8 0) / sumN (hs 0) (hs 8 0) : Nat) : Int) := by
    rw [← hN]; rfl
  rw [e]
  omega
theorem f_bent1 {hs : HS} {C : CS} {lo hi : Nat} (h : ∀ s, s < hs 8 0 → lo ≤ hs 1 s ∧ hs 1 s ≤ hi) (hh : hi ≤ 10) (h0 : 0 < sumN (lf hs C) (hs 8 0)) : 1000 * (lo : Int) ≤ aBent hs C 1 ∧ aBent hs C 1 ≤ 1000 * (hi : Int) ∧ 0 ≤ aBent hs C 1 ∧ aBent hs C 1 ≤ 10000 := by
  have h1 := wavg (w := lf hs C) h h0
  have e : aBent hs C 1 = ((1000 * sumN (fun s => lf hs C s * hs 1 s) (hs 8 0) / sumN (lf hs C) (hs 8 0) : Nat) : Int) := by
    unfold aBent
    rw [if_neg (by decide), if_pos rfl, if_neg (show ¬ sumN (lf hs C) (hs 8 0) = 0 by omega)]
  rw [e]
  omega
theorem f_bentN {hs : HS} {C : CS} (h0 : sumN (lf hs C) (hs 8 0) = 0) (h8 : 0 < hs 8 0) : aBent hs C 1 = -4 ∧ aShare hs C 0 = -4 := by
  constructor
  · unfold aBent
    rw [if_neg (by decide), if_pos rfl, if_pos h0]
  · unfold aShare
    have c1 : (0 : Int) ≤ 0 ∧ (0 : Int) < (hs 8 0 : Nat) := by omega
    rw [if_pos c1, if_pos h0]
/-! rows of steps -/
theorem lfR_ext {hs : HS} {C C' : CS} {s : Nat} : ∀ t, (∀ x, x < t → C 1 x = C' 1 x ∧ C 2 x = C' 2 x) → lfR hs C s t = lfR hs C' s t
  | 0, _ => rfl
  | t + 1, h => by
    rw [lfR, lfR, lfR_ext t (fun x hx => h x (by omega)), (h t (by omega)).1, (h t (by omega)).2]
theorem sumN_mono2 {f g : Nat → Nat} : ∀ n, (∀ i, i < n → f i ≤ g i) → sumN f n ≤ sumN g n
  | 0, _ => Nat.le_refl _
  | n + 1, h => by
    have h1 := sumN_mono2 n fun i hi => h i (by omega)
    have h2 := h n (by omega)
    rw [sumN, sumN]; omega
theorem lfR_dec (hs : HS) (C : CS) (s t : Nat) : lfR hs C s (t + 1) ≤ lfR hs C s t := by
  rw [lfR]
  have h1 : (if C 2 t = 0 then dO hs s (C 1 t) 0 else 100 - dO hs s (C 1 t) 0) ≤ 100 := by
    have := dO_le hs s (C 1 t) 0
    split <;> omega
  have h2 := Nat.mul_le_mul_left (lfR hs C s t) h1
  omega
theorem lf_add {hs : HS} {C : CS} {a b s : Nat} : lf hs (addR C a b) s ≤ lf hs C s := by
  show lfR hs (addR C a b) s (C 0 0 + 1) ≤ lfR hs C s (C 0 0)
  refine Nat.le_trans (lfR_dec _ _ _ _) (Nat.le_of_eq (lfR_ext _ fun x hx => ?_))
  constructor
  · show (if (1 : Nat) = 0 then _ else if (1 : Nat) = 1 ∧ x = C 0 0 then a else _) = _
    simp [show ¬ x = C 0 0 by omega]
  · simp [addR, show ¬ x = C 0 0 by omega]
theorem f_left {hs : HS} (hB : HB hs) (C : CS) : aLeft hs C (-1) = (sumN (lf hs C) (hs 8 0) : Int) ∧ sumN (lf hs C) (hs 8 0) ≤ 360000000 := by
  have h6 : hs 8 0 ≤ 6 := hB.1
  have h := sumN_le (f := lf hs C) (n := hs 8 0) (b := 60000000) fun s h => by
    have h1 := lf_le hs C s
    have h2 := (hB.2.2.2.2.1 s h).2.1
    omega
  refine ⟨?_, by omega⟩
  unfold aLeft
  rw [if_pos rfl]
theorem f_leftAdd {hs : HS} (hB : HB hs) (C : CS) (a b : Nat) : aLeft hs (addR C a b) (-1) ≤ aLeft hs C (-1) := by
  rw [(f_left hB _).1, (f_left hB _).1]
  have h := sumN_mono2 (f := lf hs (addR C a b)) (g := lf hs C) (hs 8 0) fun s _ => lf_add
  omega
/-! the best row -/
theorem lf_ext {hs : HS} {C C' : CS} (h0 : C 0 0 = C' 0 0) (h : ∀ x, x < C 0 0 → C 1 x = C' 1 x ∧ C 2 x = C' 2 x) (s : Nat) : lf hs C s = lf hs C' s := by
  unfold lf
  rw [lfR_ext (C 0 0) h, h0]
theorem aBest_e {hs : HS} {n m c : Nat} {i : Int} (hn : 1 ≤ n ∧ n ≤ 3) (hm : m ≤ 90) (hc : c ≤ 12) (hi : -1 ≤ i ∧ i ≤ (n : Int) - 1) : aBest hs n m c i = (if (bsF hs n m c ((2 * hs 9 0) ^ n)).1 = -4 ∨ i = -1 then (bsF hs n m c ((2 * hs 9 0) ^ n)).1 else (dgB (2 * hs 9 0) n (bsF hs n m c ((2 * hs 9 0) ^ n)).2 i.toNat : Int)) := by
  have c1 : (1 : Int) ≤ (n : Int) ∧ (n : Int) ≤ 3 := by omega
  have c2 : (0 : Int) ≤ (m : Int) ∧ (m : Int) ≤ 90 := by omega
  have c3 : (0 : Int) ≤ (c : Int) ∧ (c : Int) ≤ 12 := by omega
  unfold aBest
  rw [if_pos ⟨c1, c2, c3, hi⟩, Int.toNat_natCast, Int.toNat_natCast, Int.toNat_natCast]
theorem aOdds_e {hs : HS} {C : CS} {c : Nat} (hc : c ≤ 12) : aOdds hs C c = (od hs C c : Int) := by
  have c3 : (0 : Int) ≤ (c : Int) ∧ (c : Int) ≤ 12 := by omega
  unfold aOdds
  rw [if_pos c3, Int.toNat_natCast]
theorem aBest_R {hs : HS} (hB : HB hs) (n m c k : Nat) : -4 ≤ (bsF hs n m c k).1 ∧ (bsF hs n m c k).1 ≤ 1000000 := bsF_R hs n m c (fun _ => od_le hB _ _) k
theorem f_best {hs : HS} (hB : HB hs) {C : CS} {c t m : Nat} (hc : c ≤ 12) (ht : t = 1 ∨ t = 2) (h0 : C 0 0 = t) (h : ∀ x, x < t → C 1 x < hs 9 0 ∧ C 2 x ≤ 1) (hm : m = sumN (fun x => hs 7 (C 1 x)) t) (hm9 : m ≤ 90) : aOdds hs C c ≤ aBest hs t m c (-1) ∧ 0 ≤ aOdds hs C c ∧ aBest hs t m c (-1) ≤ 1000000 := by
  rw [aOdds_e hc, aBest_e (by omega) hm9 hc (by omega), if_pos (Or.inr rfl)]
  refine ⟨?_, by omega, (aBest_R hB _ _ _ _).2⟩
  obtain ⟨B, hBe⟩ : ∃ B, B = 2 * hs 9 0 := ⟨_, rfl⟩
  rcases ht with rfl | rfl
  · have h1 := h 0 (by omega)
    have hd : dgB B 1 (2 * C 1 0 + C 2 0) 0 = 2 * C 1 0 + C 2 0 := by
      show (2 * C 1 0 + C 2 0) / B ^ 0 % B = _
      rw [Nat.pow_zero, Nat.div_one, Nat.mod_eq_of_lt (by omega)]
    have hge := bsF_ge hs 1 m c (j := 2 * C 1 0 + C 2 0) (k := (2 * hs 9 0) ^ 1) (by rw [Nat.pow_one]; omega) (by
      rw [hm]; unfold mns
      rw [← hBe]
      simp only [sumN]
      rw [hd, show (2 * C 1 0 + C 2 0) / 2 = C 1 0 by omega]
      exact Nat.le_refl _)
    refine Int.le_trans (Int.le_of_eq ?_) hge
    rw [← hBe, od_congr (C := C) (C' := cdC B 1 (2 * C 1 0 + C 2 0)) (lf_ext h0 fun x hx => ?_)]
    have : x = 0 := by omega
    subst this
    show C 1 0 = dgB B 1 (2 * C 1 0 + C 2 0) 0 / 2 ∧ C 2 0 = dgB B 1 (2 * C 1 0 + C 2 0) 0 % 2
    rw [hd]; omega
  · have h1 := h 0 (by omega)
    have h2 := h 1 (by omega)
    obtain ⟨p, hp⟩ : ∃ p, p = 2 * C 1 0 + C 2 0 := ⟨_, rfl⟩
    obtain ⟨q, hq⟩ : ∃ q, q = 2 * C 1 1 + C 2 1 := ⟨_, rfl⟩
    have hpB : p < B := by omega
    have hqB : q < B := by omega
    obtain ⟨e1, e2⟩ := dd_mod (x := p) hqB
    have d0 : dgB B 2 (p * B + q) 0 = p := by
      show (p * B + q) / B ^ 1 % B = p
      rw [Nat.pow_one, e1, Nat.mod_eq_of_lt hpB]
    have d1 : dgB B 2 (p * B + q) 1 = q := by
      show (p * B + q) / B ^ 0 % B = q
      rw [Nat.pow_zero, Nat.div_one, e2]
    have hlt : p * B + q < B ^ 2 := by
      have h3 : (p + 1) * B ≤ B * B := Nat.mul_le_mul_right B (by omega)
      rw [Nat.add_mul] at h3
      rw [Nat.pow_two]; omega
    have hge := bsF_ge hs 2 m c (j := p * B + q) (k := (2 * hs 9 0) ^ 2) (by rw [← hBe]; exact hlt) (by
      rw [hm]; unfold mns
      rw [← hBe]
      simp only [sumN]
      rw [d0, d1, show p / 2 = C 1 0 by omega, show q / 2 = C 1 1 by omega]
      exact Nat.le_refl _)
    refine Int.le_trans (Int.le_of_eq ?_) hge
    rw [← hBe, od_congr (C := C) (C' := cdC B 2 (p * B + q)) (lf_ext h0 fun x hx => ?_)]
    rcases (show x = 0 ∨ x = 1 by omega) with rfl | rfl
    · show C 1 0 = dgB B 2 (p * B + q) 0 / 2 ∧ C 2 0 = dgB B 2 (p * B + q) 0 % 2
      rw [d0]; omega
    · show C 1 1 = dgB B 2 (p * B + q) 1 / 2 ∧ C 2 1 = dgB B 2 (p * B + q) 1 % 2
      rw [d1]; omega
theorem mns_1 (hs : HS) (j : Nat) : mns hs 1 j = hs 7 (j % (2 * hs 9 0) / 2) := by
  unfold mns
  simp only [sumN]
  rw [show dgB (2 * zA hs) 1 j 0 = j % (2 * hs 9 0) by
    show j / (2 * hs 9 0) ^ 0 % (2 * hs 9 0) = _
    rw [Nat.pow_zero, Nat.div_one], Nat.zero_add]
theorem bs_none {hs : HS} (hB : HB hs) (hA2 : 0 < hs 9 0) {c : Nat} : ∀ k, bsF hs 1 0 c k = (-4, 0)
  | 0 => rfl
  | k + 1 => by
    rw [bsF, bs_none hB hA2 k]
    refine if_neg fun z => ?_
    have z1 := z.1
    rw [mns_1] at z1
    rcases Nat.eq_zero_or_pos (hs 9 0) with h | h
    · have := Nat.not_lt_zero k; exact absurd hA2 (by omega)
    · have h2 := Nat.mod_lt k (show 0 < 2 * hs 9 0 by omega)
      have h3 := (hB.2.2.2.2.2.1 (k % (2 * hs 9 0) / 2) (by show _ < hs 9 0; omega)).2.2.2.1
      omega
theorem f_best1 {hs : HS} (hB : HB hs) (hA : 0 < hs 9 0) {c : Nat} (hc : c ≤ 12) : (0 ≤ aBest hs 1 30 c 0 ∧ aBest hs 1 30 c 0 < 2 * (hs 9 0 : Int)) ∧ (0 ≤ aBest hs 1 30 c (-1) ∧ aBest hs 1 30 c (-1) ≤ 1000000) ∧ aBest hs 1 0 c (-1) = -4 := by
  have e1 : aBest hs 1 30 c 0 = _ := aBest_e (n := 1) (m := 30) (i := 0) (by omega) (by omega) hc (by omega)
  have e2 : aBest hs 1 30 c (-1) = _ := aBest_e (n := 1) (m := 30) (i := -1) (by omega) (by omega) hc (by omega)
  have e3 : aBest hs 1 0 c (-1) = _ := aBest_e (n := 1) (m := 0) (i := -1) (by omega) (by omega) hc (by omega)
  have hA' : 0 < 2 * hs 9 0 := by omega
  have h0 : (0 : Int) ≤ (bsF hs 1 30 c ((2 * hs 9 0) ^ 1)).1 := by
    have := bsF_ge hs 1 30 c (j := 0) (k := (2 * hs 9 0) ^ 1) (by rw [Nat.pow_one]; omega) (by
      rw [mns_1, Nat.zero_mod, Nat.zero_div]
      exact (hB.2.2.2.2.2.1 0 hA).2.2.2.2)
    omega
  have h1 := (aBest_R hB 1 30 c ((2 * hs 9 0) ^ 1)).2
  rw [if_neg (by omega)] at e1
  rw [if_pos (Or.inr rfl)] at e2 e3
  rw [bs_none hB hA] at e3
  have h2 : dgB (2 * hs 9 0) 1 (bsF hs 1 30 c ((2 * hs 9 0) ^ 1)).2 (0 : Int).toNat < 2 * hs 9 0 := Nat.mod_lt _ hA'
  refine ⟨?_, ?_, e3⟩
  · rw [e1]; omega
  · rw [e2]; omega
/-! fractions, people, tells -/
theorem aFr_R {a b : Nat} (h : a ≤ b) : aFr a b 1 = -4 ∨ (0 ≤ aFr a b 0 ∧ aFr a b 0 ≤ aFr a b 1) := by
  by_cases hb : b = 0
  · left; unfold aFr; rw [if_pos hb]
  · right
    have e0 : aFr a b 0 = ((a / Nat.gcd a b : Nat) : Int) := by unfold aFr; rw [if_neg hb, if_pos rfl]; rfl
    have e1 : aFr a b 1 = ((b / Nat.gcd a b : Nat) : Int) := by unfold aFr; rw [if_neg hb, if_neg (by decide)]; rfl
    have h1 := Nat.div_le_div_right (c := Nat.gcd a b) h
    rw [e0, e1]
    generalize a / Nat.gcd a b = x at h1 ⊢
    generalize b / Nat.gcd a b = y at h1 ⊢
    omega
theorem aFr_B {a b N : Nat} (ha : a ≤ N) (hb : b ≤ N) (p : Int) : -4 ≤ aFr a b p ∧ aFr a b p ≤ (N : Int) := by
  unfold aFr fA fB
  have h1 := Nat.div_le_self a (Nat.gcd a b)
  have h2 := Nat.div_le_self b (Nat.gcd a b)
  generalize a / Nat.gcd a b = x at h1 ⊢
  generalize b / Nat.gcd a b = y at h2 ⊢
  split
  · omega
  · split <;> omega
theorem f_people {hs : HS} (hB : HB hs) : (aPeople hs 1 = -4 ∨ (0 ≤ aPeople hs 0 ∧ aPeople hs 0 ≤ aPeople hs 1)) ∧ (∀ p : Int, (p = 0 ∨ p = 1) → -4 ≤ aPeople hs p ∧ aPeople hs p ≤ 2000000000) ∧ (hs 8 0 = 1 → aPeople hs 0 ≤ 0) := by
  have e0 : aPeople hs 0 = aFr (btw hs (-4)) (blw hs (-4)) 0 := by unfold aPeople; rw [if_pos (by omega)]
  have e1 : aPeople hs 1 = aFr (btw hs (-4)) (blw hs (-4)) 1 := by unfold aPeople; rw [if_pos (by omega)]
  have hle : btw hs (-4) ≤ blw hs (-4) := by unfold blw; exact Nat.le_add_right _ _
  have hb := blw_le hB (-4)
  refine ⟨by rw [e0, e1]; exact aFr_R hle, fun p hp => ?_, fun h1 => ?_⟩
  · have h := aFr_B (N := 2000000000) (show btw hs (-4) ≤ 2000000000 by omega) (show blw hs (-4) ≤ 2000000000 by omega) p
    rcases hp with rfl | rfl
    · rw [e0]; exact h
    · rw [e1]; exact h
  · have hz : btw hs (-4) = 0 := by
      unfold btw
      rw [show zN hs = sumN (hs 0) (zS hs) from hB.2.2.2.1, show zS hs = 1 from h1]
      simp only [pC, pB, sumN, Nat.zero_add]
      rw [show hs 0 0 * (hs 0 0 * mS hs (-4) 0 * mS hs (-4) 0) = hs 0 0 * mS hs (-4) 0 * (hs 0 0 * mS hs (-4) 0) by grind]
      exact Nat.sub_self _
    rw [e0, hz]
    unfold aFr fA
    split
    · omega
    · rw [if_pos rfl, Nat.zero_div]; omega
theorem f_tells {hs : HS} : (1 < hs 9 0 → 0 ≤ aTells hs) ∧ (¬ 1 < hs 9 0 → aTells hs = -4) ∧ -4 ≤ aTells hs ∧ aTells hs < hs 9 0 := by
  unfold aTells
  by_cases h : hs 9 0 < 2
  · rw [if_pos h]; omega
  · rw [if_neg h]
    have h1 : teF hs (zA hs) < hs 9 0 := teF_lt hs (hs 9 0) (by omega)
    omega
