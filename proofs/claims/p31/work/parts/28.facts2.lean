/-! FACTS, second: nights, a man of his -/
abbrev cnN (hs : HS) (C : CS) (z t : Nat) : Nat := sumN (NS hs C z t).1 (hs 10 0)
theorem sumN_ones {m : Nat} : ∀ n, n ≤ m → sumN (fun p => if p < m then 1 else 0) n = n
  | 0, _ => rfl
  | n + 1, h => by rw [sumN, sumN_ones n (by omega), if_pos (by omega)]
theorem cnN_0 (hs : HS) (C : CS) (z : Nat) : cnN hs C z 0 = hs 10 0 := sumN_ones (m := hs 10 0) (hs 10 0) (Nat.le_refl _)
theorem thU_le (hs : HS) (C : CS) (z t fo : Nat) (th : Nat → Nat) (p : Nat) : thU hs C z t fo th p ≤ th p := by
  unfold thU
  split
  · rename_i h; rw [h.1]; exact Nat.le_refl _
  · exact Nat.zero_le _
theorem cnN_dec (hs : HS) (C : CS) (z t : Nat) : cnN hs C z (t + 1) ≤ cnN hs C z t := sumN_mono2 _ fun p _ => thU_le hs C z t _ _ p
theorem sx_cn (hs : HS) (C : CS) (z : Nat) : ∀ t, (sxN hs C z t = -4 ∧ 6 < cnN hs C z t) ∨ (0 ≤ sxN hs C z t ∧ sxN hs C z t ≤ t ∧ cnN hs C z t ≤ 6)
  | 0 => by
    rw [sxN, cnN_0]
    by_cases h : hs 10 0 ≤ 6
    · rw [if_pos h]; omega
    · rw [if_neg h]; omega
  | t + 1 => by
    have h := sx_cn hs C z t
    have d := cnN_dec hs C z t
    have e : sxN hs C z (t + 1) = if sxN hs C z t = -4 ∧ cnN hs C z (t + 1) ≤ 6 then (t : Int) + 1 else sxN hs C z t := rfl
    rw [e]
    generalize cnN hs C z (t + 1) = x at d ⊢
    generalize cnN hs C z t = y at d h
    split <;> omega
theorem sx_0 {hs : HS} {C : CS} {z : Nat} (h : hs 10 0 ≤ 6) : ∀ t, sxN hs C z t = 0
  | 0 => if_pos h
  | t + 1 => by
    rw [sxN, sx_0 h t]
    exact if_neg (fun z => absurd z.1 (by decide))
theorem f_night (hs : HS) (C : CS) {z : Nat} (hz : z < 10000) : aNight hs C z 0 = (cnN hs C z (C 0 0) : Int) ∧ (0 ≤ aNight hs C z 1 ∧ aNight hs C z 1 ≤ (cnN hs C z (C 0 0) : Int)) ∧ ((aNight hs C z 2 = -4 ∧ 6 < cnN hs C z (C 0 0)) ∨ (0 ≤ aNight hs C z 2 ∧ aNight hs C z 2 ≤ (C 0 0 : Int) ∧ cnN hs C z (C 0 0) ≤ 6)) ∧ cnN hs C z (C 0 0) ≤ hs 10 0 ∧ (hs 10 0 ≤ 6 → aNight hs C z 2 = 0) := by
  have c1 : (0 : Int) ≤ (z : Int) ∧ (z : Int) ≤ 9999 := by omega
  have e0 : aNight hs C z 0 = (cnN hs C z (C 0 0) : Int) := by
    unfold aNight
    rw [if_pos ⟨c1, by omega, by omega⟩, if_pos rfl, Int.toNat_natCast]
    rfl
  have e1 : aNight hs C z 1 = (sumN (NS hs C z (C 0 0)).2 (hs 10 0) : Int) := by
    unfold aNight
    rw [if_pos ⟨c1, by omega, by omega⟩, if_neg (by decide), if_pos rfl, Int.toNat_natCast]
    rfl
  have e2 : aNight hs C z 2 = sxN hs C z (C 0 0) := by
    unfold aNight
    rw [if_pos ⟨c1, by omega, by omega⟩, if_neg (by decide), if_neg (by decide), Int.toNat_natCast]
  have hB := NS_B hs C z (C 0 0)
  have h1 := sumN_mono2 (f := (NS hs C z (C 0 0)).2) (g := (NS hs C z (C 0 0)).1) (hs 10 0) fun p _ => hB.2.2 p
  have h2 := sumN_le1 hB.1 (hs 10 0)
  have h3 := sx_cn hs C z (C 0 0)
  refine ⟨e0, by rw [e1]; exact ⟨Int.natCast_nonneg _, Int.ofNat_le.mpr h1⟩, by rw [e2]; exact h3, h2, fun h => by rw [e2]; exact sx_0 h _⟩
theorem ntN_at {th : Nat → Nat} (h1 : ∀ p, th p ≤ 1) {i : Nat} : ∀ n, i < sumN th n → ∃ p, p < n ∧ ntN th i n = (p : Int) ∧ sumN th p = i ∧ th p = 1
  | 0, h => absurd h (Nat.not_lt_zero i)
  | n + 1, h => by
    rw [sumN] at h
    by_cases e : sumN th n = i ∧ th n = 1
    · exact ⟨n, Nat.lt_succ_self n, by rw [ntN, if_pos e], e.1, e.2⟩
    · have h2 := h1 n
      obtain ⟨p, p1, p2, p3, p4⟩ := ntN_at (i := i) h1 n (show i < sumN th n by omega)
      exact ⟨p, by omega, by rw [ntN, if_neg e]; exact p2, p3, p4⟩
theorem ntN_no {th : Nat → Nat} {i : Nat} : ∀ n, sumN th n ≤ i → ntN th i n = -4
  | 0, _ => rfl
  | n + 1, h => by
    rw [sumN] at h
    rw [ntN, if_neg (by omega)]
    exact ntN_no n (by omega)
theorem aOne_e {hs : HS} {C : CS} {z i : Nat} (hz : z < 10000) : aOne hs C z i = ntN (NS hs C z (C 0 0)).1 i (hs 10 0) := by
  have c1 : (0 : Int) ≤ (z : Int) ∧ (z : Int) ≤ 9999 := by omega
  unfold aOne
  rw [if_pos ⟨c1, by omega⟩, Int.toNat_natCast, Int.toNat_natCast]
  rfl
theorem f_one {hs : HS} {C : CS} {z i : Nat} (hz : z < 10000) (hi : i < cnN hs C z (C 0 0)) : ∃ p, p < hs 10 0 ∧ aOne hs C z i = (p : Int) ∧ sumN (NS hs C z (C 0 0)).1 p = i ∧ (NS hs C z (C 0 0)).1 p = 1 := by
  rw [aOne_e hz]
  exact ntN_at (NS_B hs C z (C 0 0)).1 (hs 10 0) hi
theorem f_oneN {hs : HS} {C : CS} {z : Nat} (hz : z < 10000) : aOne hs C z (cnN hs C z (C 0 0) : Nat) = -4 := by
  rw [aOne_e hz]
  exact ntN_no (hs 10 0) (Nat.le_refl _)
theorem sumN_lt {th : Nat → Nat} {p q : Nat} (h : sumN th p < sumN th q) : p < q := by
  rcases Nat.lt_or_ge p q with h1 | h1
  · exact h1
  · have := sumN_mono (f := th) h1; omega
/-! nights of all numbers are ten -/
theorem ind_sum (x : Nat) : ∀ N, sumN (fun c => if x = c then 1 else 0) N = if x < N then 1 else 0
  | 0 => rfl
  | N + 1 => by
    rw [sumN, ind_sum x N]
    by_cases h : x = N
    · subst h; rw [if_neg (by omega), if_pos rfl, if_pos (by omega)]
    · by_cases h2 : x < N
      · rw [if_pos h2, if_neg h, if_pos (by omega)]
      · rw [if_neg h2, if_neg h, if_neg (by omega)]
theorem sumN_add {f g : Nat → Nat} : ∀ n, sumN (fun i => f i + g i) n = sumN f n + sumN g n
  | 0 => rfl
  | n + 1 => by rw [sumN, sumN, sumN, sumN_add n]; omega
theorem ns_sum (hs : HS) (C : CS) (z : Nat) : ∀ n, sumN (fun c => nsF hs C z (c : Nat) n) (hs 10 0 + 1) = n
  | 0 => by
    have : ∀ m, sumN (fun c => nsF hs C z ((c : Nat) : Int) 0) m = 0 := fun m => by
      induction m with
      | zero => rfl
      | succ m ih => rw [sumN, ih]; rfl
    exact this _
  | n + 1 => by
    obtain ⟨x, hx⟩ : ∃ x, x = cnN hs C ((z + n) % 10000) (C 0 0) := ⟨_, rfl⟩
    have hle : x ≤ hs 10 0 := by rw [hx]; exact sumN_le1 (NS_B hs C _ _).1 _
    have e : ∀ c, c < hs 10 0 + 1 → nsF hs C z ((c : Nat) : Int) (n + 1) = nsF hs C z (c : Nat) n + (if x = c then 1 else 0) := by
      intro c _
      have e1 : nsF hs C z ((c : Nat) : Int) (n + 1) = if ((cnN hs C ((z + n) % 10000) (C 0 0) : Nat) : Int) = ((c : Nat) : Int) then nsF hs C z (c : Nat) n + 1 else nsF hs C z (c : Nat) n := rfl
      rw [e1, ← hx]
      by_cases h : x = c
      · rw [if_pos (by omega), if_pos h]
      · rw [if_neg (by omega), if_neg h, Nat.add_zero]
    rw [sumN_congr e, sumN_add, ns_sum hs C z n, ind_sum, if_pos (by omega)]
theorem aNights_e {hs : HS} {C : CS} {z c : Nat} (hz : z < 10000) (hc : c ≤ 120) : aNights hs C z c = (nsF hs C z (c : Nat) 10 : Int) := by
  have c1 : (0 : Int) ≤ (z : Int) ∧ (z : Int) ≤ 9999 := by omega
  unfold aNights
  rw [if_pos ⟨c1, by omega, by omega⟩, Int.toNat_natCast]
/-! a man of his -/
theorem aFr_G {a b : Nat} (hb : b ≠ 0) : ∃ g x y, 0 < g ∧ a = g * x ∧ b = g * y ∧ aFr a b 0 = (x : Int) ∧ aFr a b 1 = (y : Int) := by
  have hg : 0 < Nat.gcd a b := Nat.gcd_pos_of_pos_right a (by omega)
  obtain ⟨x, hx⟩ := Nat.gcd_dvd_left a b
  obtain ⟨y, hy⟩ := Nat.gcd_dvd_right a b
  refine ⟨Nat.gcd a b, x, y, hg, hx, hy, ?_, ?_⟩
  · have e0 : aFr a b 0 = ((a / Nat.gcd a b : Nat) : Int) := by unfold aFr; rw [if_neg hb, if_pos rfl]; rfl
    rw [e0, Nat.div_eq_of_eq_mul_right hg hx]
  · have e1 : aFr a b 1 = ((b / Nat.gcd a b : Nat) : Int) := by unfold aFr; rw [if_neg hb, if_neg (by decide)]; rfl
    rw [e1, Nat.div_eq_of_eq_mul_right hg hy]
theorem aMan_e (hs : HS) (C : CS) {p : Int} (hp : p = 0 ∨ p = 1) : aMan hs C p = aFr (wiP hs C) (wiP hs C + woP hs C) p := by
  unfold aMan
  rw [if_pos (by omega)]
theorem f_man0 {hs : HS} (hB : HB hs) {C : CS} (h0 : C 3 0 = 0) : aMan hs C 0 * 10 = (hs 11 0 : Int) * aMan hs C 1 ∧ (-4 ≤ aMan hs C 0 ∧ aMan hs C 0 ≤ 10) ∧ (-4 ≤ aMan hs C 1 ∧ aMan hs C 1 ≤ 10) := by
  have hm : hs 11 0 ≤ 10 := hB.2.2.2.2.2.2.1
  have e1 : wiP hs C = hs 11 0 := by unfold wiP; rw [h0]; exact Nat.mul_one _
  have e2 : woP hs C = 10 - hs 11 0 := by unfold woP; rw [h0]; exact Nat.mul_one _
  rw [aMan_e hs C (Or.inl rfl), aMan_e hs C (Or.inr rfl), e1, e2, show hs 11 0 + (10 - hs 11 0) = 10 by omega]
  obtain ⟨g, x, y, hg, hx, hy, ex, ey⟩ := aFr_G (a := hs 11 0) (b := 10) (by decide)
  refine ⟨?_, aFr_B (N := 10) hm (Nat.le_refl _) 0, aFr_B (N := 10) hm (Nat.le_refl _) 1⟩
  rw [ex, ey]
  have h : x * 10 = hs 11 0 * y := by rw [hx]; rw [show x * 10 = x * (g * y) from congrArg (x * ·) hy]; grind
  have h2 : ((x * 10 : Nat) : Int) = ((hs 11 0 * y : Nat) : Int) := by rw [h]
  rw [Int.natCast_mul, Int.natCast_mul] at h2
  exact h2
theorem f_tell {hs : HS} {C : CS} {a : Nat} {d : Int} (ha : a < hs 9 0) (h8 : 0 < hs 8 0) (hd : 0 ≤ d ∧ d ≤ 2) (h0 : C 3 0 = 0) : aTell hs C 0 a 2 d = 1 ∧ ∀ (n : Nat) (tx : Nat → Int) (kn : Nat) (K : Nat → CS), sTell (n, tx, hs, C, kn, K) 0 a 2 d = (n, tx, hs, addT C 0 a 2 d.toNat, kn, K) := by
  have c1 : isS hs 0 := by show (0 : Int) ≤ 0 ∧ (0 : Int) < (hs 8 0 : Nat); omega
  have c2 : isA hs a := by show (0 : Int) ≤ (a : Int) ∧ (a : Int) < (hs 9 0 : Nat); omega
  have c3 : (1 : Int) ≤ 2 ∧ (2 : Int) ≤ 4 := by omega
  constructor
  · unfold aTell
    rw [if_pos ⟨c1, c2, c3, hd⟩, if_pos (by omega), h0]
    rfl
  · intro n tx kn K
    unfold sTell
    rw [if_pos ⟨⟨c1, c2, c3, hd⟩, show C 3 0 < 3 by omega⟩, Int.toNat_natCast]
    rfl
theorem f_told0 {hs : HS} (hB : HB hs) {C : CS} {a : Nat} (h0 : C 3 0 = 0) : (dO hs 0 a 0 / 10 = 10 ∨ hs 11 0 = 10 → aMan hs (addT C 0 a 2 0) 0 = -4) ∧ (dO hs 0 a 0 / 10 ≠ 10 → hs 11 0 ≠ 10 → aMan hs (addT C 0 a 2 0) 0 = 0 ∧ aMan hs (addT C 0 a 2 0) 1 = 1) := by
  obtain ⟨p, hp⟩ : ∃ p, p = dO hs 0 a 0 / 10 := ⟨_, rfl⟩
  have hp10 : p ≤ 10 := by have := dO_le hs 0 a 0; omega
  have hm : hs 11 0 ≤ 10 := hB.2.2.2.2.2.2.1
  have e30 : addT C 0 a 2 0 3 0 = 1 := by simp [addT, h0]
  have e4 : addT C 0 a 2 0 4 0 = 0 := by simp [addT, h0]
  have e5 : addT C 0 a 2 0 5 0 = a := by simp [addT, h0]
  have e6 : addT C 0 a 2 0 6 0 = 2 := by simp [addT, h0]
  have e7 : addT C 0 a 2 0 7 0 = 0 := by simp [addT, h0]
  have epT : pT hs (addT C 0 a 2 0) 0 = p := by unfold pT; rw [e4, e5, hp]
  have e1 : wiP hs (addT C 0 a 2 0) = 0 := by
    unfold wiP
    rw [e30]
    show hs 11 0 * (1 * wiT hs (addT C 0 a 2 0) 0) = 0
    unfold wiT
    rw [if_pos e7, Nat.mul_zero]
  have e2 : woP hs (addT C 0 a 2 0) = (10 - hs 11 0) * ((10 - p) * (10 - p)) := by
    unfold woP
    rw [e30]
    show (10 - hs 11 0) * (1 * woT hs (addT C 0 a 2 0) 0) = _
    unfold woT
    rw [epT, e6, e7]
    show (10 - hs 11 0) * (1 * (1 * (1 * (10 - p) * (10 - p)))) = _
    rw [Nat.one_mul, Nat.one_mul, Nat.one_mul]
  rw [← hp]
  constructor
  · intro h
    have hz : (10 - hs 11 0) * ((10 - p) * (10 - p)) = 0 := by
      rcases h with h | h
      · rw [h]; rfl
      · rw [h]; exact Nat.zero_mul _
    rw [aMan_e hs _ (Or.inl rfl), e1, e2, hz]
    rfl
  · intro h1 h2
    have hz : 0 < (10 - hs 11 0) * ((10 - p) * (10 - p)) := Nat.mul_pos (by omega) (Nat.mul_pos (by omega) (by omega))
    rw [aMan_e hs _ (Or.inl rfl), aMan_e hs _ (Or.inr rfl), e1, e2, Nat.zero_add]
    generalize (10 - hs 11 0) * ((10 - p) * (10 - p)) = w at hz
    constructor
    · unfold aFr fA
      rw [if_neg (by omega), if_pos rfl, Nat.zero_div]
      rfl
    · unfold aFr fB
      rw [if_neg (by omega), if_neg (by decide), Nat.gcd_zero_left, Nat.div_self hz]
      rfl
theorem f_told2 {hs : HS} (hB : HB hs) {C : CS} {a : Nat} (h0 : C 3 0 = 0) : aMan hs (addT C 0 a 2 2) 0 = -4 ∨ (0 ≤ aMan hs (addT C 0 a 2 2) 0 ∧ (hs 11 0 : Int) * aMan hs (addT C 0 a 2 2) 1 ≤ aMan hs (addT C 0 a 2 2) 0 * 10) := by
  obtain ⟨p, hp⟩ : ∃ p, p = dO hs 0 a 0 / 10 := ⟨_, rfl⟩
  have hp10 : p ≤ 10 := by have := dO_le hs 0 a 0; omega
  have hm : hs 11 0 ≤ 10 := hB.2.2.2.2.2.2.1
  have e30 : addT C 0 a 2 2 3 0 = 1 := by simp [addT, h0]
  have e4 : addT C 0 a 2 2 4 0 = 0 := by simp [addT, h0]
  have e5 : addT C 0 a 2 2 5 0 = a := by simp [addT, h0]
  have e6 : addT C 0 a 2 2 6 0 = 2 := by simp [addT, h0]
  have e7 : addT C 0 a 2 2 7 0 = 2 := by simp [addT, h0]
  have epT : pT hs (addT C 0 a 2 2) 0 = p := by unfold pT; rw [e4, e5, hp]
  have e1 : wiP hs (addT C 0 a 2 2) = hs 11 0 * (10 * p) := by
    unfold wiP
    rw [e30]
    show hs 11 0 * (1 * wiT hs (addT C 0 a 2 2) 0) = _
    unfold wiT
    rw [if_neg (by rw [e7]; decide), epT, e6, e7]
    show hs 11 0 * (1 * (10 * (1 * (1 * p)))) = _
    rw [Nat.one_mul, Nat.one_mul, Nat.one_mul]
  have e2 : woP hs (addT C 0 a 2 2) = (10 - hs 11 0) * (p * p) := by
    unfold woP
    rw [e30]
    show (10 - hs 11 0) * (1 * woT hs (addT C 0 a 2 2) 0) = _
    unfold woT
    rw [epT, e6, e7]
    show (10 - hs 11 0) * (1 * (1 * (1 * p * p))) = _
    rw [Nat.one_mul, Nat.one_mul, Nat.one_mul]
  rw [aMan_e hs _ (Or.inl rfl), aMan_e hs _ (Or.inr rfl), e1, e2]
  by_cases hb : hs 11 0 * (10 * p) + (10 - hs 11 0) * (p * p) = 0
  · left; unfold aFr; rw [if_pos hb]
  · right
    obtain ⟨g, x, y, hg, hx, hy, ex, ey⟩ := aFr_G (a := hs 11 0 * (10 * p)) hb
    rw [ex, ey]
    refine ⟨Int.natCast_nonneg _, ?_⟩
    have h : hs 11 0 * y ≤ x * 10 := by
      refine Nat.le_of_mul_le_mul_left ?_ hg
      have h1 : g * (hs 11 0 * y) = hs 11 0 * (hs 11 0 * (10 * p) + (10 - hs 11 0) * (p * p)) := by rw [hy]; grind
      have h2 : g * (x * 10) = hs 11 0 * (10 * p) * 10 := by rw [hx]; grind
      rw [h1, h2]
      obtain ⟨m, hme⟩ : ∃ m, m = hs 11 0 := ⟨_, rfl⟩
      rw [← hme] at hm ⊢
      obtain ⟨q, hq⟩ : ∃ q, q = 10 - m := ⟨_, rfl⟩
      rw [← hq]
      have h3 : q * (p * p) ≤ q * (10 * p) := Nat.mul_le_mul_left q (Nat.mul_le_mul_right p hp10)
      have h4 : m * (10 * p) + q * (10 * p) = 10 * (10 * p) := by rw [← Nat.add_mul]; congr 1; omega
      have h5 : m * (m * (10 * p) + q * (p * p)) ≤ m * (10 * (10 * p)) := Nat.mul_le_mul_left m (by omega)
      have h6 : m * (10 * (10 * p)) = m * (10 * p) * 10 := by grind
      omega
    have h2 : ((hs 11 0 * y : Nat) : Int) ≤ ((x * 10 : Nat) : Int) := Int.ofNat_le.mpr h
    rw [Int.natCast_mul, Int.natCast_mul] at h2
    exact h2
theorem aMan_R {hs : HS} (hB : HB hs) {C : CS} (hT : TB hs C) (h1 : C 3 0 ≤ 1) {p : Int} (hp : p = 0 ∨ p = 1) : -4 ≤ aMan hs C p ∧ aMan hs C p ≤ 12000000 := by
  have hm : hs 11 0 ≤ 10 := hB.2.2.2.2.2.2.1
  have w1 : prodN (wiT hs C) (C 3 0) ≤ 600000 := by
    rcases (show C 3 0 = 0 ∨ C 3 0 = 1 by omega) with e | e
    · rw [e]; exact (show 1 ≤ 600000 by omega)
    · have := wiT_le hT (show 0 < C 3 0 by omega)
      rw [e]; show 1 * wiT hs C 0 ≤ 600000; omega
  have w2 : prodN (woT hs C) (C 3 0) ≤ 600000 := by
    rcases (show C 3 0 = 0 ∨ C 3 0 = 1 by omega) with e | e
    · rw [e]; exact (show 1 ≤ 600000 by omega)
    · have := woT_le hT (show 0 < C 3 0 by omega)
      rw [e]; show 1 * woT hs C 0 ≤ 600000; omega
  have a1 : wiP hs C ≤ 6000000 := Nat.le_trans (Nat.mul_le_mul hm w1) (by decide)
  have a2 : woP hs C ≤ 6000000 := Nat.le_trans (Nat.mul_le_mul (show 10 - hs 11 0 ≤ 10 by omega) w2) (by decide)
  rw [aMan_e hs C hp]
  exact aFr_B (N := 12000000) (by omega) (by omega) p
