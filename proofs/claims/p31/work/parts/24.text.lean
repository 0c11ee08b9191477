/-! THE TEXT: an item written is an item read -/
def nmv (v : Nat → Nat) (j : Nat) : Nat → Nat := fun i => if i < j then v i else 0
theorem nmv_0 (v : Nat → Nat) : nmv v 0 = fun _ => 0 := by funext i; simp [nmv]
theorem nmv_s {v : Nat → Nat} {j i : Nat} (h : i < j) : nmv v j i = v i := if_pos h
theorem upN_nmv (v : Nat → Nat) (j : Nat) : upN (nmv v j) j (v j) = nmv v (j + 1) := by
  funext i
  simp only [upN, nmv]
  by_cases h : i = j
  · subst h; simp
  · by_cases h2 : i < j
    · simp [h, h2, show i < j + 1 by omega]
    · simp [h, h2, show ¬ i < j + 1 by omega]
/-- an item begun at n, written up to n1: what reading it has come to -/
def ITg (tx : Nat → Int) (n n1 : Nat) (l : Int) (k : Nat) (nm : Nat → Nat) (a f : Nat) : Prop :=
  n < n1 ∧ tx n = l ∧ ∀ (ty : Nat → Int) (fuel : Nat), (∀ i, i < n1 → ty i = tx i) → rdM ty ((n1 - (n + 1)) + fuel) (n + 1) 0 (fun _ => 0) 0 0 = rdM ty fuel n1 k nm a f
theorem ITg.nil {tx : Nat → Int} {n : Nat} {l : Int} (h : tx n = l) : ITg tx n (n + 1) l 0 (fun _ => 0) 0 0 := ⟨Nat.lt_succ_self n, h, fun ty fuel _ => by rw [Nat.sub_self, Nat.zero_add]⟩
theorem ITg.dig {tx tx' : Nat → Int} {n n1 : Nat} {l : Int} {k : Nat} {nm : Nat → Nat} {a f : Nat} {c : Int} (h : ITg tx n n1 l k nm a f) (hc : tx' n1 = c) (ho : ∀ i, i < n1 → tx' i = tx i) (h1 : 48 ≤ c ∧ c ≤ 57) (h2 : f < 3) : ITg tx' n (n1 + 1) l k nm (10 * a + (c - 48).toNat) (f + 1) := by
  obtain ⟨g1, g2, g3⟩ := h
  refine ⟨by omega, by rw [ho n g1]; exact g2, fun ty fuel hy => ?_⟩
  have e := g3 ty (fuel + 1) (fun i hi => by rw [hy i (by omega), ho i hi])
  have hc' : ty n1 = c := by rw [hy n1 (by omega), hc]
  rw [show n1 + 1 - (n + 1) + fuel = n1 - (n + 1) + (fuel + 1) by omega, e, rdM, hc', if_pos ⟨h1, h2⟩]
theorem ITg.comma {tx tx' : Nat → Int} {n n1 : Nat} {l : Int} {k : Nat} {nm : Nat → Nat} {a f : Nat} (h : ITg tx n n1 l k nm a f) (hc : tx' n1 = 44) (ho : ∀ i, i < n1 → tx' i = tx i) (h1 : 0 < f) (h2 : k < 4) : ITg tx' n (n1 + 1) l (k + 1) (upN nm k a) 0 0 := by
  obtain ⟨g1, g2, g3⟩ := h
  refine ⟨by omega, by rw [ho n g1]; exact g2, fun ty fuel hy => ?_⟩
  have e := g3 ty (fuel + 1) (fun i hi => by rw [hy i (by omega), ho i hi])
  have hc' : ty n1 = 44 := by rw [hy n1 (by omega), hc]
  rw [show n1 + 1 - (n + 1) + fuel = n1 - (n + 1) + (fuel + 1) by omega, e, rdM, hc', if_neg (fun z => absurd z.1.1 (by decide)), if_pos ⟨Or.inl rfl, h1, h2⟩, if_neg (by decide)]
/-- an item from n up to n' -/
def ITM (tx : Nat → Int) (n n' : Nat) (l : Int) (m : Nat) (nm : Nat → Nat) : Prop :=
  tx n = l ∧ n + 1 < n' ∧ ∀ (ty : Nat → Int) (fuel : Nat), (∀ i, i < n' → ty i = tx i) → rdM ty ((n' - (n + 1)) + fuel) (n + 1) 0 (fun _ => 0) 0 0 = some (m, nm, n')
theorem ITg.semi {tx tx' : Nat → Int} {n n1 : Nat} {l : Int} {k : Nat} {nm : Nat → Nat} {a f : Nat} (h : ITg tx n n1 l k nm a f) (hc : tx' n1 = 59) (ho : ∀ i, i < n1 → tx' i = tx i) (h1 : 0 < f) (h2 : k < 4) : ITM tx' n (n1 + 1) l (k + 1) (upN nm k a) := by
  obtain ⟨g1, g2, g3⟩ := h
  refine ⟨by rw [ho n g1]; exact g2, by omega, fun ty fuel hy => ?_⟩
  have e := g3 ty (fuel + 1) (fun i hi => by rw [hy i (by omega), ho i hi])
  have hc' : ty n1 = 59 := by rw [hy n1 (by omega), hc]
  rw [show n1 + 1 - (n + 1) + fuel = n1 - (n + 1) + (fuel + 1) by omega, e, rdM, hc', if_neg (fun z => absurd z.1.2 (by decide)), if_pos ⟨Or.inr rfl, h1, h2⟩, if_pos rfl]
/-- THE TEXT up to n tells D, whatever comes behind -/
def TXD (tx : Nat → Int) (n : Nat) (D : DS) : Prop := ∀ (ty : Nat → Int) (n' m : Nat), (∀ i, i < n → ty i = tx i) → n ≤ n' → n < m → ∃ m2, m - n ≤ m2 ∧ paF ty n' m 0 D0 = paF ty n' m2 n D
theorem TXD.nil (tx : Nat → Int) : TXD tx 0 D0 := fun ty n' m _ _ h => ⟨m, by omega, rfl⟩
theorem TXD.add {tx tx' : Nat → Int} {n n' : Nat} {l : Int} {c : Nat} {nm : Nat → Nat} {D D' : DS} (h : TXD tx n D) (hi : ITM tx' n n' l c nm) (ho : ∀ i, i < n → tx' i = tx i) (ht : takeD l c nm D = some D') : TXD tx' n' D' := by
  intro ty N m hy hN hm
  obtain ⟨g1, g2, g3⟩ := hi
  obtain ⟨m2, h1, h2⟩ := h ty N m (fun i q => by rw [hy i (by omega), ho i q]) (by omega) (by omega)
  obtain ⟨r, rfl⟩ : ∃ r, m2 = r + 1 := ⟨m2 - 1, by omega⟩
  refine ⟨r, by omega, ?_⟩
  have e := g3 ty (N - n') hy
  have hl : ty n = l := by rw [hy n (by omega), g1]
  rw [h2, paF, if_neg (by omega), show N - (n + 1) = n' - (n + 1) + (N - n') by omega, e]
  simp only [hl, ht]
theorem TXD.fin {tx : Nat → Int} {n : Nat} {D : DS} (h : TXD tx n D) : parse tx n = (-4, D) := by
  obtain ⟨m2, h1, h2⟩ := h tx n (n + 1) (fun _ _ => rfl) (Nat.le_refl n) (Nat.lt_succ_self n)
  obtain ⟨r, rfl⟩ : ∃ r, m2 = r + 1 := ⟨m2 - 1, by omega⟩
  unfold parse
  rw [h2, paF, if_pos (Nat.le_refl n)]
/-- a byte written behind -/
theorem w1_of {I1 : Nat → Nat → Int} {n : Nat} {tx : Nat → Int} {hs : HS} {C : CS} {kn : Nat} {K : Nat → CS} {v : Int} (hn : n + 1 ≤ 400) (hv : 0 ≤ v ∧ v ≤ 127) (hW : WF n tx hs C kn K) (hC : CIS I1 (sWrite (n, tx, hs, C, kn, K) 1 v)) : aWrite n 1 = ((n + 1 : Nat) : Int) ∧ ∃ tx', CI I1 (n + 1) tx' hs C kn K ∧ WF (n + 1) tx' hs C kn K ∧ tx' n = v ∧ ∀ i, i < n → tx' i = tx i := by
  have hg : ((1 : Int) ≤ 1 ∧ (1 : Int) ≤ 8) ∧ (n : Int) + 1 ≤ 400 := by omega
  have e : sWrite (n, tx, hs, C, kn, K) 1 v = (n + 1, txW tx n 1 v, hs, C, kn, K) := by unfold sWrite; rw [if_pos hg]; rfl
  have hW' := W_write (S := (n, tx, hs, C, kn, K)) hW 1 v
  rw [e] at hC hW'
  refine ⟨by unfold aWrite; rw [if_pos (by omega), if_pos (by omega)]; omega, txW tx n 1 v, hC, hW', ?_, fun i hi => ?_⟩
  · unfold txW
    rw [if_pos (by omega), show n + 1 - 1 - n = 0 by omega]
    show (v / (2 : Int) ^ (8 * 0)).bmod 256 = v
    rw [show (2 : Int) ^ (8 * 0) = 1 from rfl, Int.ediv_one]
    exact Int.bmod_eq_of_le (by omega) (by omega)
  · unfold txW; rw [if_neg (by omega)]
/-! what the law draws: its 46 numbers -/
def OI (I : Nat → Nat → Int) (o : Nat → Nat) : Prop := ∀ i, i < 46 → I 71 i = (o i : Int)
def DRo (o : Nat → Nat) : Prop := (1 ≤ o 0 ∧ o 0 ≤ 4) ∧ (1 ≤ o 1 ∧ o 1 ≤ 4) ∧ o 2 ≤ 4 ∧ o 3 ≤ 10 ∧ o 4 ≤ 99 ∧ o 5 ≤ 10 ∧ (∀ k, k < o 0 → (1 ≤ o (6 + 4 * k) ∧ o (6 + 4 * k) ≤ 20) ∧ o (6 + 4 * k + 1) ≤ 10 ∧ o (6 + 4 * k + 2) ≤ 10 ∧ o (6 + 4 * k + 3) ≤ 10) ∧ (∀ k, k < o 1 → o (22 + 4 * k) ≤ 10 ∧ o (22 + 4 * k + 1) ≤ 10 ∧ o (22 + 4 * k + 2) ≤ 10 ∧ 1 ≤ o (22 + 4 * k + 3) ∧ o (22 + 4 * k + 3) ≤ 30) ∧ ∀ k, k < o 2 → o (38 + 2 * k) < o 1 ∧ o (38 + 2 * k + 1) ≤ 1
/-- all people -/
def aP (o : Nat → Nat) (s : Nat) : Nat := sumN (fun j => o (6 + 4 * j)) s
theorem aP_le {o : Nat → Nat} (h : DRo o) {s : Nat} (hs : s ≤ o 0) : aP o s ≤ s * 20 := by
  unfold aP
  exact sumN_le fun i hi => (h.2.2.2.2.2.2.1 i (by omega)).1.2
theorem aP_80 {o : Nat → Nat} (h : DRo o) {s : Nat} (hs : s ≤ o 0) : aP o s ≤ 80 := by
  have h1 := aP_le h hs
  have h2 := h.1.2
  omega
/-- what is read so far -/
def LD (o : Nat → Nat) (s a t : Nat) (D : DS) : Prop := DB D ∧ D.1 8 0 = s ∧ D.1 9 0 = a ∧ D.1 10 0 = aP o s ∧ (∀ x, x < s → D.1 0 x = o (6 + 4 * x) ∧ D.1 1 x = o (6 + 4 * x + 1) ∧ D.1 2 x = o (6 + 4 * x + 2) ∧ D.1 3 x = o (6 + 4 * x + 3)) ∧ (∀ x, x < a → D.1 4 x = o (22 + 4 * x) ∧ D.1 5 x = o (22 + 4 * x + 1) ∧ D.1 6 x = o (22 + 4 * x + 2) ∧ D.1 7 x = o (22 + 4 * x + 3)) ∧ D.2 0 0 = t ∧ ∀ x, x < t → D.2 1 x = o (38 + 2 * x) ∧ D.2 2 x = o (38 + 2 * x + 1)
theorem LD.nil (o : Nat → Nat) : LD o 0 0 0 D0 := ⟨D0_B, rfl, rfl, rfl, fun x h => absurd h (Nat.not_lt_zero x), fun x h => absurd h (Nat.not_lt_zero x), rfl, fun x h => absurd h (Nat.not_lt_zero x)⟩
theorem LD.sort {o : Nat → Nat} {s : Nat} {D : DS} (ho : DRo o) (h : LD o s 0 0 D) (hs : s < o 0) : ∃ D', takeD 115 4 (nmv (fun i => o (6 + 4 * s + i)) 4) D = some D' ∧ LD o (s + 1) 0 0 D' := by
  obtain ⟨hB, e8, e9, e10, hS, hA, hT0, hT⟩ := h
  have h1 := (ho.2.2.2.2.2.2.1 s hs)
  have h2 := aP_le ho (show s ≤ o 0 by omega)
  have h3 := ho.1.2
  have ht : takeD 115 4 (nmv (fun i => o (6 + 4 * s + i)) 4) D = some (addSortH D.1 (o (6 + 4 * s)) (o (6 + 4 * s + 1)) (o (6 + 4 * s + 2)) (o (6 + 4 * s + 3)), D.2) := by
    unfold takeD
    rw [if_pos rfl, nmv_s (show 0 < 4 by omega), nmv_s (show 1 < 4 by omega), nmv_s (show 2 < 4 by omega), nmv_s (show 3 < 4 by omega)]
    refine if_pos ⟨rfl, ?_⟩
    show D.1 8 0 < 6 ∧ (1 ≤ o (6 + 4 * s) ∧ o (6 + 4 * s) ≤ 60) ∧ D.1 10 0 + o (6 + 4 * s) ≤ 120 ∧ o (6 + 4 * s + 1) ≤ 10 ∧ o (6 + 4 * s + 2) ≤ 10 ∧ o (6 + 4 * s + 3) ≤ 10
    omega
  refine ⟨_, ht, takeD_B hB ht, ?_, e9, ?_, fun x hx => ?_, fun x h => absurd h (Nat.not_lt_zero x), hT0, hT⟩
  · show D.1 8 0 + 1 = s + 1; omega
  · show D.1 10 0 + o (6 + 4 * s) = aP o s + o (6 + 4 * s); omega
  · by_cases e : x = s
    · subst e; simp [addSortH, e8]
    · have := hS x (by omega)
      simpa [addSortH, e8, e] using this
theorem LD.ask {o : Nat → Nat} {a : Nat} {D : DS} (ho : DRo o) (h : LD o (o 0) a 0 D) (ha : a < o 1) : ∃ D', takeD 97 4 (nmv (fun i => o (22 + 4 * a + i)) 4) D = some D' ∧ LD o (o 0) (a + 1) 0 D' := by
  obtain ⟨hB, e8, e9, e10, hS, hA, hT0, hT⟩ := h
  have h1 := (ho.2.2.2.2.2.2.2.1 a ha)
  have h3 := ho.2.1.2
  have ht : takeD 97 4 (nmv (fun i => o (22 + 4 * a + i)) 4) D = some (addAskH D.1 (o (22 + 4 * a)) (o (22 + 4 * a + 1)) (o (22 + 4 * a + 2)) (o (22 + 4 * a + 3)), D.2) := by
    unfold takeD
    rw [if_neg (by decide), if_pos rfl, nmv_s (show 0 < 4 by omega), nmv_s (show 1 < 4 by omega), nmv_s (show 2 < 4 by omega), nmv_s (show 3 < 4 by omega)]
    refine if_pos ⟨rfl, ?_⟩
    show D.1 9 0 < 6 ∧ (1 ≤ o (22 + 4 * a + 3) ∧ o (22 + 4 * a + 3) ≤ 30) ∧ o (22 + 4 * a) ≤ 10 ∧ o (22 + 4 * a + 1) ≤ 10 ∧ o (22 + 4 * a + 2) ≤ 10
    omega
  refine ⟨_, ht, takeD_B hB ht, e8, ?_, e10, fun x hx => ?_, fun x hx => ?_, hT0, hT⟩
  · show D.1 9 0 + 1 = a + 1; omega
  · have := hS x hx
    simpa [addAskH] using this
  · by_cases e : x = a
    · subst e; simp [addAskH, e9]
    · have := hA x (by omega)
      simpa [addAskH, e9, e] using this
theorem LD.step {o : Nat → Nat} {t : Nat} {D : DS} (ho : DRo o) (h : LD o (o 0) (o 1) t D) (ht0 : t < o 2) : ∃ D', takeD 116 2 (nmv (fun i => o (38 + 2 * t + i)) 2) D = some D' ∧ LD o (o 0) (o 1) (t + 1) D' := by
  obtain ⟨hB, e8, e9, e10, hS, hA, hT0, hT⟩ := h
  have h1 := (ho.2.2.2.2.2.2.2.2 t ht0)
  have h3 := ho.2.2.1
  have ht : takeD 116 2 (nmv (fun i => o (38 + 2 * t + i)) 2) D = some (D.1, addR D.2 (o (38 + 2 * t)) (o (38 + 2 * t + 1))) := by
    unfold takeD
    rw [if_neg (by decide), if_neg (by decide), if_pos rfl, nmv_s (show 0 < 2 by omega), nmv_s (show 1 < 2 by omega)]
    refine if_pos ⟨rfl, ?_⟩
    show o (38 + 2 * t) < D.1 9 0 ∧ o (38 + 2 * t + 1) ≤ 1 ∧ D.2 0 0 < 8
    omega
  refine ⟨_, ht, takeD_B hB ht, e8, e9, e10, hS, hA, ?_, fun x hx => ?_⟩
  · show D.2 0 0 + 1 = t + 1; omega
  · by_cases e : x = t
    · subst e; simp [addR, hT0]
    · have := hT x (by omega)
      simpa [addR, hT0, e] using this
/-- the house of the law's numbers -/
def HOo (o : Nat → Nat) (hs : HS) : Prop := hs 8 0 = o 0 ∧ hs 9 0 = o 1 ∧ hs 10 0 = aP o (o 0) ∧ (∀ x, x < o 0 → hs 0 x = o (6 + 4 * x) ∧ hs 1 x = o (6 + 4 * x + 1) ∧ hs 2 x = o (6 + 4 * x + 2) ∧ hs 3 x = o (6 + 4 * x + 3)) ∧ (∀ x, x < o 1 → hs 4 x = o (22 + 4 * x) ∧ hs 5 x = o (22 + 4 * x + 1) ∧ hs 6 x = o (22 + 4 * x + 2) ∧ hs 7 x = o (22 + 4 * x + 3)) ∧ hs 11 0 = o 3 ∧ hs 12 0 = o 4 ∧ hs 13 0 = o 5
def COo (o : Nat → Nat) (t : Nat) (C : CS) : Prop := C 0 0 = t ∧ ∀ x, x < t → C 1 x = o (38 + 2 * x) ∧ C 2 x = o (38 + 2 * x + 1)
theorem LD.last {o : Nat → Nat} {D : DS} (ho : DRo o) (h : LD o (o 0) (o 1) (o 2) D) : ∃ D' D'', takeD 99 1 (nmv (fun i => o (3 + i)) 1) D = some D' ∧ takeD 112 2 (nmv (fun i => o (4 + i)) 2) D' = some D'' ∧ DB D'' ∧ HOo o D''.1 ∧ COo o (o 2) D''.2 := by
  obtain ⟨hB, e8, e9, e10, hS, hA, hT0, hT⟩ := h
  have h3 := ho.2.2.2.1
  have h4 := ho.2.2.2.2.1
  have h5 := ho.2.2.2.2.2.1
  have ht : takeD 99 1 (nmv (fun i => o (3 + i)) 1) D = some (seH D.1 11 (o 3), D.2) := by
    unfold takeD
    rw [if_neg (by decide), if_neg (by decide), if_neg (by decide), if_pos rfl, nmv_s (show 0 < 1 by omega)]
    exact if_pos ⟨rfl, h3⟩
  have ht2 : takeD 112 2 (nmv (fun i => o (4 + i)) 2) (seH D.1 11 (o 3), D.2) = some (seH (seH (seH D.1 11 (o 3)) 12 (o 4)) 13 (o 5), D.2) := by
    unfold takeD
    rw [if_neg (by decide), if_neg (by decide), if_neg (by decide), if_neg (by decide), if_pos rfl, nmv_s (show 0 < 2 by omega), nmv_s (show 1 < 2 by omega)]
    exact if_pos ⟨rfl, h4, h5⟩
  refine ⟨_, _, ht, ht2, takeD_B (takeD_B hB ht) ht2, ⟨e8, e9, e10, fun x hx => ?_, fun x hx => ?_, rfl, rfl, rfl⟩, hT0, hT⟩
  · have := hS x hx
    simpa [seH] using this
  · have := hA x hx
    simpa [seH] using this
