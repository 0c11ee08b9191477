/-! THE REFERENCE READS THE TEXT: numbers, what it writes -/
theorem wr_x {α : Type} {I : Nat → Nat → α} {q i x y : Nat} {a : α} (h : ¬ (x = q ∧ y = i)) : wr I q i a x y = I x y := by
  simp only [wr]
  by_cases hx : x = q
  · by_cases hy : y = i
    · exact absurd ⟨hx, hy⟩ h
    · rw [if_pos hx, if_neg hy]
  · rw [if_neg hx]
theorem oN {α : Type} {o : Option α} (h : ¬ o.isSome = true) : o = none := by
  cases o with
  | none => rfl
  | some x => exact absurd rfl h
theorem oS {α : Type} {o : Option α} (h : o.isSome = true) : ∃ x, o = some x := by
  cases o with
  | none => cases h
  | some x => exact ⟨x, rfl⟩
/-- a number of the text from p on: what it comes to, how many figures, the place behind it -/
def nuM (tx : Nat → Int) : Nat → Nat → Nat → Nat → Nat × Nat × Nat
  | 0, p, v, f => (v, f, p)
  | m + 1, p, v, f => if 48 ≤ tx p ∧ tx p ≤ 57 then nuM tx m (p + 1) (if f < 3 then 10 * v + (tx p - 48).toNat else v) (f + 1) else (v, f, p)
theorem nuM_f (tx : Nat → Int) : ∀ (m p v f : Nat), f ≤ (nuM tx m p v f).2.1
  | 0, _, _, _ => Nat.le_refl _
  | m + 1, p, v, f => by
    rw [nuM]
    by_cases h : 48 ≤ tx p ∧ tx p ≤ 57
    · rw [if_pos h]
      have := nuM_f tx m (p + 1) (if f < 3 then 10 * v + (tx p - 48).toNat else v) (f + 1)
      omega
    · rw [if_neg h]; exact Nat.le_refl _
def vC (f v : Nat) : Prop := (f = 0 ∧ v = 0) ∨ (f = 1 ∧ v ≤ 9) ∨ (f = 2 ∧ v ≤ 99) ∨ (3 ≤ f ∧ v ≤ 999)
theorem vC_up {f v : Nat} {c : Int} (h : vC f v) (h1 : 48 ≤ c ∧ c ≤ 57) : vC (f + 1) (if f < 3 then 10 * v + (c - 48).toNat else v) := by
  unfold vC at *
  by_cases g : f < 3
  · rw [if_pos g]; omega
  · rw [if_neg g]; omega
theorem vC_le {f v : Nat} (h : vC f v) : v ≤ 999 := by unfold vC at h; omega
theorem nuM_B {tx : Nat → Int} : ∀ (m p v f : Nat), vC f v → (nuM tx m p v f).1 ≤ 999 ∧ p ≤ (nuM tx m p v f).2.2 ∧ (nuM tx m p v f).2.2 ≤ p + m
  | 0, _, _, _, h => ⟨vC_le h, Nat.le_refl _, Nat.le_refl _⟩
  | m + 1, p, v, f, h => by
    rw [nuM]
    by_cases g : 48 ≤ tx p ∧ tx p ≤ 57
    · rw [if_pos g]
      have := nuM_B (tx := tx) m (p + 1) _ (f + 1) (vC_up h g)
      omega
    · rw [if_neg g]; exact ⟨vC_le h, Nat.le_refl _, Nat.le_add_right _ _⟩
theorem rd_nu {tx : Nat → Int} {n j : Nat} {nm : Nat → Nat} (hj : j < 4) : ∀ (m p v f : Nat), f ≤ 3 → p + m = n → rdM tx m p j nm v f = if (nuM tx m p v f).2.1 ≤ 3 ∧ 0 < (nuM tx m p v f).2.1 then (if (nuM tx m p v f).2.2 < n ∧ tx (nuM tx m p v f).2.2 = 59 then some (j + 1, upN nm j (nuM tx m p v f).1, (nuM tx m p v f).2.2 + 1) else if (nuM tx m p v f).2.2 < n ∧ tx (nuM tx m p v f).2.2 = 44 then rdM tx (n - ((nuM tx m p v f).2.2 + 1)) ((nuM tx m p v f).2.2 + 1) (j + 1) (upN nm j (nuM tx m p v f).1) 0 0 else none) else none
  | 0, p, v, f, _, hn => by
    have e1 : rdM tx 0 p j nm v f = none := rfl
    have e2 : nuM tx 0 p v f = (v, f, p) := rfl
    rw [e1, e2]
    show none = if f ≤ 3 ∧ 0 < f then (if p < n ∧ tx p = 59 then _ else if p < n ∧ tx p = 44 then _ else none) else none
    by_cases h : f ≤ 3 ∧ 0 < f
    · rw [if_pos h, if_neg (by omega), if_neg (by omega)]
    · rw [if_neg h]
  | m + 1, p, v, f, hf3, hn => by
    have e1 : rdM tx (m + 1) p j nm v f = if (48 ≤ tx p ∧ tx p ≤ 57) ∧ f < 3 then rdM tx m (p + 1) j nm (10 * v + (tx p - 48).toNat) (f + 1)
      else if (tx p = 44 ∨ tx p = 59) ∧ 0 < f ∧ j < 4 then (if tx p = 59 then some (j + 1, upN nm j v, p + 1) else rdM tx m (p + 1) (j + 1) (upN nm j v) 0 0)
      else none := rfl
    have e2 : nuM tx (m + 1) p v f = if 48 ≤ tx p ∧ tx p ≤ 57 then nuM tx m (p + 1) (if f < 3 then 10 * v + (tx p - 48).toNat else v) (f + 1) else (v, f, p) := rfl
    rw [e1, e2]
    by_cases hd : 48 ≤ tx p ∧ tx p ≤ 57
    · by_cases hf : f < 3
      · rw [if_pos ⟨hd, hf⟩, if_pos hd, if_pos hf]
        exact rd_nu hj m (p + 1) _ (f + 1) (by omega) (by omega)
      · rw [if_neg (fun z => hf z.2), if_pos hd, if_neg hf, if_neg (show ¬ ((tx p = 44 ∨ tx p = 59) ∧ 0 < f ∧ j < 4) by omega)]
        have := nuM_f tx m (p + 1) v (f + 1)
        rw [if_neg (by omega)]
    · rw [if_neg (fun z => hd z.1), if_neg hd]
      show _ = if f ≤ 3 ∧ 0 < f then (if p < n ∧ tx p = 59 then some (j + 1, upN nm j v, p + 1) else if p < n ∧ tx p = 44 then rdM tx (n - (p + 1)) (p + 1) (j + 1) (upN nm j v) 0 0 else none) else none
      by_cases h2 : (tx p = 44 ∨ tx p = 59) ∧ 0 < f ∧ j < 4
      · rw [if_pos h2, if_pos (show f ≤ 3 ∧ 0 < f by omega)]
        by_cases h3 : tx p = 59
        · rw [if_pos h3, if_pos (show p < n ∧ tx p = 59 by omega)]
        · rw [if_neg h3, if_neg (show ¬ (p < n ∧ tx p = 59) by omega), if_pos (show p < n ∧ tx p = 44 by omega), show n - (p + 1) = m by omega]
      · rw [if_neg h2]
        by_cases h4 : f ≤ 3 ∧ 0 < f
        · rw [if_pos h4, if_neg (show ¬ (p < n ∧ tx p = 59) by omega), if_neg (show ¬ (p < n ∧ tx p = 44) by omega)]
        · rw [if_neg h4]
theorem rdM_j {tx : Nat → Int} : ∀ (m p j : Nat) (nm : Nat → Nat) (v f : Nat) (x : Nat × (Nat → Nat) × Nat), rdM tx m p j nm v f = some x → j < x.1
  | 0, _, _, _, _, _, x, h => by simp [rdM] at h
  | m + 1, p, j, nm, v, f, x, h => by
    rw [rdM] at h
    by_cases h1 : (48 ≤ tx p ∧ tx p ≤ 57) ∧ f < 3
    · rw [if_pos h1] at h; exact rdM_j m _ _ _ _ _ x h
    · rw [if_neg h1] at h
      by_cases h2 : (tx p = 44 ∨ tx p = 59) ∧ 0 < f ∧ j < 4
      · rw [if_pos h2] at h
        by_cases h3 : tx p = 59
        · rw [if_pos h3] at h; cases h; exact Nat.lt_succ_self j
        · rw [if_neg h3] at h
          have := rdM_j m _ _ _ _ _ x h
          omega
      · rw [if_neg h2] at h; cases h
/-- how many numbers an item of a letter has -/
def ptN (l : Int) : Nat := if l = 115 ∨ l = 97 then 4 else if l = 116 ∨ l = 112 then 2 else if l = 99 then 1 else 0
theorem takeD_ne {l : Int} {c : Nat} {nm : Nat → Nat} {D : DS} (h : c ≠ ptN l) : takeD l c nm D = none := by
  unfold takeD
  unfold ptN at h
  by_cases l1 : l = 115
  · rw [if_pos (Or.inl l1)] at h; rw [if_pos l1, if_neg (fun z => h z.1)]
  rw [if_neg l1]
  by_cases l2 : l = 97
  · rw [if_pos (Or.inr l2)] at h; rw [if_pos l2, if_neg (fun z => h z.1)]
  rw [if_neg l2]
  rw [if_neg (by omega)] at h
  by_cases l3 : l = 116
  · rw [if_pos (Or.inl l3)] at h; rw [if_pos l3, if_neg (fun z => h z.1)]
  rw [if_neg l3]
  by_cases l5 : l = 112
  · rw [if_pos (Or.inr l5)] at h; rw [if_neg (by omega), if_pos l5, if_neg (fun z => h z.1)]
  rw [if_neg (by omega)] at h
  by_cases l4 : l = 99
  · rw [if_pos l4] at h; rw [if_pos l4, if_neg (fun z => h z.1)]
  rw [if_neg l4, if_neg l5]
theorem takeD_0 {l : Int} {c : Nat} {nm : Nat → Nat} {D : DS} (h : ptN l = 0) : takeD l c nm D = none := by
  unfold ptN at h
  unfold takeD
  by_cases l1 : l = 115 ∨ l = 97
  · rw [if_pos l1] at h; omega
  rw [if_neg l1] at h
  by_cases l2 : l = 116 ∨ l = 112
  · rw [if_pos l2] at h; omega
  rw [if_neg l2] at h
  by_cases l3 : l = 99
  · rw [if_pos l3] at h; omega
  rw [if_neg (by omega), if_neg (by omega), if_neg (by omega), if_neg (by omega), if_neg (by omega)]
theorem ptN_le (l : Int) : ptN l ≤ 4 := by
  unfold ptN
  by_cases l1 : l = 115 ∨ l = 97
  · rw [if_pos l1]; omega
  rw [if_neg l1]
  by_cases l2 : l = 116 ∨ l = 112
  · rw [if_pos l2]; omega
  rw [if_neg l2]
  by_cases l3 : l = 99
  · rw [if_pos l3]; omega
  · rw [if_neg l3]; omega
theorem ptN_l {l : Int} (h : 0 < ptN l) : l = 115 ∨ l = 97 ∨ l = 116 ∨ l = 99 ∨ l = 112 := by
  unfold ptN at h
  by_cases l1 : l = 115 ∨ l = 97
  · omega
  rw [if_neg l1] at h
  by_cases l2 : l = 116 ∨ l = 112
  · omega
  rw [if_neg l2] at h
  by_cases l3 : l = 99
  · omega
  · rw [if_neg l3] at h; omega
theorem takeD_s (nm : Nat → Nat) (D : DS) : takeD 115 4 nm D = if okS D.1 (nm 0) (nm 1) (nm 2) (nm 3) then some (addSortH D.1 (nm 0) (nm 1) (nm 2) (nm 3), D.2) else none := by
  unfold takeD
  rw [if_pos rfl]
  by_cases h : okS D.1 (nm 0) (nm 1) (nm 2) (nm 3)
  · rw [if_pos h, if_pos ⟨rfl, h⟩]
  · rw [if_neg h, if_neg (fun z => h z.2)]
theorem takeD_a (nm : Nat → Nat) (D : DS) : takeD 97 4 nm D = if okA D.1 (nm 0) (nm 1) (nm 2) (nm 3) then some (addAskH D.1 (nm 0) (nm 1) (nm 2) (nm 3), D.2) else none := by
  unfold takeD
  rw [if_neg (by decide), if_pos rfl]
  by_cases h : okA D.1 (nm 0) (nm 1) (nm 2) (nm 3)
  · rw [if_pos h, if_pos ⟨rfl, h⟩]
  · rw [if_neg h, if_neg (fun z => h z.2)]
theorem takeD_t (nm : Nat → Nat) (D : DS) : takeD 116 2 nm D = if nm 0 < zA D.1 ∧ nm 1 ≤ 1 ∧ D.2 0 0 < 8 then some (D.1, addR D.2 (nm 0) (nm 1)) else none := by
  unfold takeD
  rw [if_neg (by decide), if_neg (by decide), if_pos rfl]
  by_cases h : nm 0 < zA D.1 ∧ nm 1 ≤ 1 ∧ D.2 0 0 < 8
  · rw [if_pos h, if_pos ⟨rfl, h⟩]
  · rw [if_neg h, if_neg (fun z => h z.2)]
theorem takeD_c (nm : Nat → Nat) (D : DS) : takeD 99 1 nm D = if nm 0 ≤ 10 then some (seH D.1 11 (nm 0), D.2) else none := by
  unfold takeD
  rw [if_neg (by decide), if_neg (by decide), if_neg (by decide), if_pos rfl]
  by_cases h : nm 0 ≤ 10
  · rw [if_pos h, if_pos ⟨rfl, h⟩]
  · rw [if_neg h, if_neg (fun z => h z.2)]
theorem takeD_p (nm : Nat → Nat) (D : DS) : takeD 112 2 nm D = if nm 0 ≤ 99 ∧ nm 1 ≤ 10 then some (seH (seH D.1 12 (nm 0)) 13 (nm 1), D.2) else none := by
  unfold takeD
  rw [if_neg (by decide), if_neg (by decide), if_neg (by decide), if_neg (by decide), if_pos rfl]
  by_cases h : nm 0 ≤ 99 ∧ nm 1 ≤ 10
  · rw [if_pos h, if_pos ⟨rfl, h⟩]
  · rw [if_neg h, if_neg (fun z => h z.2)]
/-- an item at p: what is told behind it, and its end -/
def itD (tx : Nat → Int) (n p : Nat) (D : DS) : Option (DS × Nat) := match rdM tx (n - (p + 1)) (p + 1) 0 (fun _ => 0) 0 0 with
  | none => none
  | some x => match takeD (tx p) x.1 x.2.1 D with
    | none => none
    | some D' => some (D', x.2.2)
theorem itD_none {tx : Nat → Int} {n p : Nat} {D : DS} (h : rdM tx (n - (p + 1)) (p + 1) 0 (fun _ => 0) 0 0 = none) : itD tx n p D = none := by unfold itD; rw [h]
theorem itD_no {tx : Nat → Int} {n p : Nat} {D : DS} {x : Nat × (Nat → Nat) × Nat} (h : rdM tx (n - (p + 1)) (p + 1) 0 (fun _ => 0) 0 0 = some x) (ht : takeD (tx p) x.1 x.2.1 D = none) : itD tx n p D = none := by unfold itD; rw [h]; simp only [ht]
theorem itD_yes {tx : Nat → Int} {n p : Nat} {D D' : DS} {x : Nat × (Nat → Nat) × Nat} (h : rdM tx (n - (p + 1)) (p + 1) 0 (fun _ => 0) 0 0 = some x) (ht : takeD (tx p) x.1 x.2.1 D = some D') : itD tx n p D = some (D', x.2.2) := by unfold itD; rw [h]; simp only [ht]
theorem itD_ne {tx : Nat → Int} {n p : Nat} {D : DS} {x : Nat × (Nat → Nat) × Nat} (h : rdM tx (n - (p + 1)) (p + 1) 0 (fun _ => 0) 0 0 = some x) (hn : x.1 ≠ ptN (tx p)) : itD tx n p D = none := itD_no h (takeD_ne hn)
theorem itD_0 {tx : Nat → Int} {n p : Nat} {D : DS} (h : ptN (tx p) = 0) : itD tx n p D = none := by
  cases hr : rdM tx (n - (p + 1)) (p + 1) 0 (fun _ => 0) 0 0 with
  | none => exact itD_none hr
  | some x => exact itD_no hr (takeD_0 h)
theorem itD_B {tx : Nat → Int} {n p : Nat} {D : DS} {x : DS × Nat} (hD : DB D) (h : itD tx n p D = some x) : DB x.1 ∧ p < x.2 := by
  cases hr : rdM tx (n - (p + 1)) (p + 1) 0 (fun _ => 0) 0 0 with
  | none => rw [itD_none hr] at h; cases h
  | some y =>
    have hb := rdM_B _ _ _ _ _ _ (Or.inl ⟨rfl, rfl⟩) (fun _ => Nat.zero_le _) (by omega) y hr
    cases ht : takeD (tx p) y.1 y.2.1 D with
    | none => rw [itD_no hr ht] at h; cases h
    | some D' =>
      rw [itD_yes hr ht] at h
      cases h
      exact ⟨takeD_B hD ht, by show p < y.2.2; omega⟩
theorem paF_it (tx : Nat → Int) (n m p : Nat) (D : DS) : paF tx n (m + 1) p D = if n ≤ p then (-4, D) else match itD tx n p D with
    | none => ((p : Int), D)
    | some x => paF tx n m x.2 x.1 := by
  rw [paF]
  by_cases hp : n ≤ p
  · rw [if_pos hp, if_pos hp]
  · rw [if_neg hp, if_neg hp]
    cases hr : rdM tx (n - (p + 1)) (p + 1) 0 (fun _ => 0) 0 0 with
    | none => rw [itD_none hr]
    | some y =>
      cases ht : takeD (tx p) y.1 y.2.1 D with
      | none => rw [itD_no hr ht]; simp only [ht]
      | some D' => rw [itD_yes hr ht]; simp only [ht]
/-- what is being read, in the reference's cells -/
def PD (I : Nat → Nat → Int) (D : DS) : Prop := MH I 1 D.1 ∧ I 71 7 = D.2 0 0 ∧ ∀ t, t < D.2 0 0 → I 77 (2 * t) = D.2 1 t ∧ I 77 (2 * t + 1) = D.2 2 t
theorem PD.off {I I' : Nat → Nat → Int} {D : DS} (h : PD I D) (h7 : I' 71 7 = I 71 7) (hI : ∀ q, 73 ≤ q → q ≤ 78 → I' q = I q) : PD I' D := ⟨h.1.off hI, by rw [h7]; exact h.2.1, fun t ht => by rw [hI 77 (by omega) (by omega)]; exact h.2.2 t ht⟩
/-- what reading may change -/
def OffP (I I' : Nat → Nat → Int) : Prop := (∀ q, q ≠ 71 → q ≠ 73 → q ≠ 74 → q ≠ 75 → q ≠ 76 → q ≠ 77 → q ≠ 78 → q ≠ 86 → I' q = I q) ∧ (∀ i, i ≠ 2 → i ≠ 7 → I' 71 i = I 71 i) ∧ I' 73 0 = I 73 0 ∧ I' 75 0 = I 75 0 ∧ (∀ x, x < 24 → I' 74 x = I 74 x) ∧ (∀ x, x < 24 → I' 76 x = I 76 x) ∧ ∀ x, x < 3 → I' 78 x = I 78 x
theorem OffP.rfl {I : Nat → Nat → Int} : OffP I I := ⟨fun _ _ _ _ _ _ _ _ _ => by rfl, fun _ _ _ => by rfl, by rfl, by rfl, fun _ _ => by rfl, fun _ _ => by rfl, fun _ _ => by rfl⟩
theorem OffP.trans {I I' I'' : Nat → Nat → Int} (h : OffP I I') (g : OffP I' I'') : OffP I I'' := ⟨fun q a b c d e f k l => (g.1 q a b c d e f k l).trans (h.1 q a b c d e f k l), fun i a b => (g.2.1 i a b).trans (h.2.1 i a b), g.2.2.1.trans h.2.2.1, g.2.2.2.1.trans h.2.2.2.1, fun x a => (g.2.2.2.2.1 x a).trans (h.2.2.2.2.1 x a), fun x a => (g.2.2.2.2.2.1 x a).trans (h.2.2.2.2.2.1 x a), fun x a => (g.2.2.2.2.2.2 x a).trans (h.2.2.2.2.2.2 x a)⟩
theorem OffP.w {I I' : Nat → Nat → Int} {q i : Nat} {a : Int} (h : OffP I I') (hq : (q = 71 ∧ (i = 2 ∨ i = 7)) ∨ (q = 73 ∧ 1 ≤ i) ∨ (q = 75 ∧ 1 ≤ i) ∨ (q = 74 ∧ 24 ≤ i) ∨ (q = 76 ∧ 24 ≤ i) ∨ q = 77 ∨ (q = 78 ∧ 3 ≤ i) ∨ q = 86) : OffP I (wr I' q i a) :=
  ⟨fun x a b c d e f k l => (wr_o (by omega)).trans (h.1 x a b c d e f k l), fun j a b => (wr_x (by omega)).trans (h.2.1 j a b), (wr_x (by omega)).trans h.2.2.1, (wr_x (by omega)).trans h.2.2.2.1, fun x a => (wr_x (by omega)).trans (h.2.2.2.2.1 x a), fun x a => (wr_x (by omega)).trans (h.2.2.2.2.2.1 x a), fun x a => (wr_x (by omega)).trans (h.2.2.2.2.2.2 x a)⟩
theorem OffP.off {I I' : Nat → Nat → Int} (h : OffP I I') : Off I I' 71 86 := fun q hq => h.1 q (by omega) (by omega) (by omega) (by omega) (by omega) (by omega) (by omega) (by omega)
theorem OffP.mh {I I' : Nat → Nat → Int} {hs : HS} (h : OffP I I') (hB : HB hs) (hM : MH I 0 hs) : MH I' 0 hs := by
  have bS := hB.1
  have bA := hB.2.1
  refine ⟨by rw [h.2.2.1]; exact hM.1, by rw [h.2.2.2.1]; exact hM.2.1, fun s hs' i hi => ?_, fun a ha i h4 h8 => ?_, fun i h1 h2 => ?_⟩
  · rw [h.2.2.2.2.1 _ (by omega)]; exact hM.2.2.1 s hs' i hi
  · rw [h.2.2.2.2.2.1 _ (by omega)]; exact hM.2.2.2.1 a ha i h4 h8
  · rw [h.2.2.2.2.2.2 _ (by omega)]; exact hM.2.2.2.2 i h1 h2
theorem OffP.mi {I I' : Nat → Nat → Int} {n : Nat} {tx : Nat → Int} {hs : HS} {C : CS} {kn : Nat} {K : Nat → CS} (h : OffP I I') (hB : HB hs) (hC : MI I n tx hs C kn K) : MI I' n tx hs C kn K := by
  obtain ⟨h1, h2, h3, h4, h5, h6, h7⟩ := hC
  have o : ∀ q, (q = 72 ∨ q = 79 ∨ q = 80 ∨ q = 81 ∨ q = 82) → I' q = I q := fun q hq => h.1 q (by omega) (by omega) (by omega) (by omega) (by omega) (by omega) (by omega) (by omega)
  have o2 : ∀ j C, RM I j C ∧ TM I j C → RM I' j C ∧ TM I' j C := fun j C z => ⟨z.1.off (o _ (by omega)) (o _ (by omega)), z.2.off (o _ (by omega)) (o _ (by omega))⟩
  exact ⟨⟨by rw [h.2.1 0 (by decide) (by decide)]; exact h1.1, fun i hi => by rw [o 72 (by omega)]; exact h1.2 i hi⟩, h.mh hB h2, (o2 0 C ⟨h3, h4⟩).1, (o2 0 C ⟨h3, h4⟩).2, by rw [h.2.1 10 (by decide) (by decide)]; exact h5, fun z => o2 _ _ (h6 z), fun z => o2 _ _ (h7 z)⟩
theorem OffP.x {I I' : Nat → Nat → Int} {n : Nat} {tx : Nat → Int} (h : OffP I I') (hX : XM I n tx) : XM I' n tx := ⟨by rw [h.2.1 0 (by decide) (by decide)]; exact hX.1, fun i hi => by rw [h.1 72 (by decide) (by decide) (by decide) (by decide) (by decide) (by decide) (by decide) (by decide)]; exact hX.2 i hi⟩
/-- only the place of reading is changed -/
def OffA (I I' : Nat → Nat → Int) : Prop := (∀ q, q ≠ 71 → I' q = I q) ∧ ∀ i, i ≠ 2 → I' 71 i = I 71 i
theorem OffA.p {I I' : Nat → Nat → Int} (h : OffA I I') : OffP I I' := ⟨fun q a _ _ _ _ _ _ _ => h.1 q a, fun i a _ => h.2 i a, by rw [h.1 73 (by decide)], by rw [h.1 75 (by decide)], fun x _ => by rw [h.1 74 (by decide)], fun x _ => by rw [h.1 76 (by decide)], fun x _ => by rw [h.1 78 (by decide)]⟩
theorem OffA.w {I I' : Nat → Nat → Int} {a : Int} (h : OffA I I') : OffA I (wr I' 71 2 a) := ⟨fun q hq => (wr_o hq).trans (h.1 q hq), fun i hi => (wr_n hi).trans (h.2 i hi)⟩
section MOD12
variable {E : EV} {M : Nat} {I J : Nat → Nat → Int} {n : Nat} {tx : Nat → Int}
theorem m_parts {R : Nat → Nat → Option Nat} (l : Int) (hl : -128 ≤ l ∧ l ≤ 127) : FnF E mdX12_parts 0 M R [vi l] I J (some (vi (ptN l : Int))) I J := by
  refine FnQ.of (by decide +kernel) (Nat.le_of_ble_eq_true rfl) ?_
  show GM E mdX12_parts 0 M R _ I J 0 [some (vi l)] []
  refine G_iload_n (pc := 0) dX12_parts_0 rfl ?_
  refine G_bipush (pc := 1) dX12_parts_1 (by decide) ?_
  refine G_icmp_eq (pc := 3) (tgt := 12) dX12_parts_3 (Ri.mk (by omega) (by omega)) (Ri.mk (by omega) (by omega)) (by decide) (fun h_3 => ?_) (fun h_3 => ?_)
  · refine G_iconst (pc := 12) dX12_parts_12 ?_
    refine G_goto (pc := 13) (tgt := 43) dX12_parts_13 (by decide) ?_
    refine G_iret (pc := 43) dX12_parts_43 rfl ?_
    refine ⟨?_, rfl, rfl⟩
    unfold ptN
    first
      | (rw [if_pos (by omega)] <;> rfl)
      | (rw [if_neg (by omega), if_pos (by omega)] <;> rfl)
      | (rw [if_neg (by omega), if_neg (by omega), if_pos (by omega)] <;> rfl)
      | (rw [if_neg (by omega), if_neg (by omega), if_neg (by omega)] <;> rfl)
  · refine G_iload_n (pc := 6) dX12_parts_6 rfl ?_
    refine G_bipush (pc := 7) dX12_parts_7 (by decide) ?_
    refine G_icmp_ne (pc := 9) (tgt := 16) dX12_parts_9 (Ri.mk (by omega) (by omega)) (Ri.mk (by omega) (by omega)) (by decide) (fun h_9 => ?_) (fun h_9 => ?_)
    · refine G_iload_n (pc := 16) dX12_parts_16 rfl ?_
      refine G_bipush (pc := 17) dX12_parts_17 (by decide) ?_
      refine G_icmp_eq (pc := 19) (tgt := 28) dX12_parts_19 (Ri.mk (by omega) (by omega)) (Ri.mk (by omega) (by omega)) (by decide) (fun h_19 => ?_) (fun h_19 => ?_)
      · refine G_iconst (pc := 28) dX12_parts_28 ?_
        refine G_goto (pc := 29) (tgt := 43) dX12_parts_29 (by decide) ?_
        refine G_iret (pc := 43) dX12_parts_43 rfl ?_
        refine ⟨?_, rfl, rfl⟩
        unfold ptN
        first
          | (rw [if_pos (by omega)] <;> rfl)
          | (rw [if_neg (by omega), if_pos (by omega)] <;> rfl)
          | (rw [if_neg (by omega), if_neg (by omega), if_pos (by omega)] <;> rfl)
          | (rw [if_neg (by omega), if_neg (by omega), if_neg (by omega)] <;> rfl)
      · refine G_iload_n (pc := 22) dX12_parts_22 rfl ?_
        refine G_bipush (pc := 23) dX12_parts_23 (by decide) ?_
        refine G_icmp_ne (pc := 25) (tgt := 32) dX12_parts_25 (Ri.mk (by omega) (by omega)) (Ri.mk (by omega) (by omega)) (by decide) (fun h_25 => ?_) (fun h_25 => ?_)
        · refine G_iload_n (pc := 32) dX12_parts_32 rfl ?_
          refine G_bipush (pc := 33) dX12_parts_33 (by decide) ?_
          refine G_icmp_ne (pc := 35) (tgt := 42) dX12_parts_35 (Ri.mk (by omega) (by omega)) (Ri.mk (by omega) (by omega)) (by decide) (fun h_35 => ?_) (fun h_35 => ?_)
          · refine G_iconst (pc := 42) dX12_parts_42 ?_
            refine G_iret (pc := 43) dX12_parts_43 rfl ?_
            refine ⟨?_, rfl, rfl⟩
            unfold ptN
            first
              | (rw [if_pos (by omega)] <;> rfl)
              | (rw [if_neg (by omega), if_pos (by omega)] <;> rfl)
              | (rw [if_neg (by omega), if_neg (by omega), if_pos (by omega)] <;> rfl)
              | (rw [if_neg (by omega), if_neg (by omega), if_neg (by omega)] <;> rfl)
          · refine G_iconst (pc := 38) dX12_parts_38 ?_
            refine G_goto (pc := 39) (tgt := 43) dX12_parts_39 (by decide) ?_
            refine G_iret (pc := 43) dX12_parts_43 rfl ?_
            refine ⟨?_, rfl, rfl⟩
            unfold ptN
            first
              | (rw [if_pos (by omega)] <;> rfl)
              | (rw [if_neg (by omega), if_pos (by omega)] <;> rfl)
              | (rw [if_neg (by omega), if_neg (by omega), if_pos (by omega)] <;> rfl)
              | (rw [if_neg (by omega), if_neg (by omega), if_neg (by omega)] <;> rfl)
        · refine G_iconst (pc := 28) dX12_parts_28 ?_
          refine G_goto (pc := 29) (tgt := 43) dX12_parts_29 (by decide) ?_
          refine G_iret (pc := 43) dX12_parts_43 rfl ?_
          refine ⟨?_, rfl, rfl⟩
          unfold ptN
          first
            | (rw [if_pos (by omega)] <;> rfl)
            | (rw [if_neg (by omega), if_pos (by omega)] <;> rfl)
            | (rw [if_neg (by omega), if_neg (by omega), if_pos (by omega)] <;> rfl)
            | (rw [if_neg (by omega), if_neg (by omega), if_neg (by omega)] <;> rfl)
    · refine G_iconst (pc := 12) dX12_parts_12 ?_
      refine G_goto (pc := 13) (tgt := 43) dX12_parts_13 (by decide) ?_
      refine G_iret (pc := 43) dX12_parts_43 rfl ?_
      refine ⟨?_, rfl, rfl⟩
      unfold ptN
      first
        | (rw [if_pos (by omega)] <;> rfl)
        | (rw [if_neg (by omega), if_pos (by omega)] <;> rfl)
        | (rw [if_neg (by omega), if_neg (by omega), if_pos (by omega)] <;> rfl)
        | (rw [if_neg (by omega), if_neg (by omega), if_neg (by omega)] <;> rfl)
theorem m_number (p : Nat) (hM : 87 ≤ M) (hX : XM I n tx) (hn : n ≤ 400) (htx : ∀ i, -128 ≤ tx i ∧ tx i ≤ 127) (hp : p ≤ n) (h2 : I 71 2 = p) : FnQ E mdX12_number 1 M Rf [vr E 71] I J (fun v I' J' => v = some (vi (if 1 ≤ (nuM tx (n - p) p 0 0).2.1 ∧ (nuM tx (n - p) p 0 0).2.1 ≤ 3 then ((nuM tx (n - p) p 0 0).1 : Int) else -1)) ∧ J' = J ∧ OffA I I' ∧ I' 71 2 = ((nuM tx (n - p) p 0 0).2.2 : Nat)) := by
  obtain ⟨N, hN⟩ : ∃ N, N = nuM tx (n - p) p 0 0 := ⟨_, rfl⟩
  rw [← hN]
  refine FnQ.of (by decide +kernel) (Nat.le_of_ble_eq_true rfl) ?_
  show GM E mdX12_number 1 M Rf _ I J 0 [some (vr E 71), none, none] []
  generalize hQ : (fun (v : Option Value) (I' J' : Nat → Nat → Int) => v = some (vi (if 1 ≤ N.2.1 ∧ N.2.1 ≤ 3 then (N.1 : Int) else -1)) ∧ J' = J ∧ OffA I I' ∧ I' 71 2 = (N.2.2 : Nat)) = Q
  have fin : ∀ (q v f : Nat) (I' : Nat → Nat → Int), N = (v, f, q) → f ≤ 401 → OffA I I' → I' 71 2 = q → GM E mdX12_number 1 M Rf Q I' J 80 [some (vr E 71), some (vi (v : Int)), some (vi (f : Int))] [] := by
    intro q v f I' hNe hf hO h2
    subst hNe
    refine G_iload_n (pc := 80) dX12_number_80 rfl ?_
    refine G_i2l (pc := 81) dX12_number_81 (Ri.mk (by omega) (by omega)) ?_
    refine G_lconst (pc := 82) dX12_number_82 ?_
    refine G_ldc2 (pc := 83) dX12_number_83 klX12_81 ?_
    refine G_callS1 (pc := 86) (md := mdX12_in) (av := [_, _, _]) dX12_number_86 lkX12_66 mwX12_in (m_inI _ _ _ (1 ≤ f ∧ f ≤ 3) (by omega) (Rl.mk (by omega) (by omega)) (Rl.mk (by omega) (by omega)) (Rl.mk (by omega) (by omega))) rfl rfl (Nat.le_of_ble_eq_true rfl) (by decide) ⟨Nat.zero_le _, Nat.zero_le _⟩ ?_
    refine G_if_eq (pc := 89) (tgt := 96) dX12_number_89 bI_R (by decide) (fun h_89 => ?_) (fun h_89 => ?_)
    · try simp only [bI_eq0, bI_ne0] at h_89
      refine G_iconst (pc := 96) dX12_number_96 ?_
      refine G_iret (pc := 97) dX12_number_97 rfl ?_
      rw [← hQ]; first | exact ⟨by rw [if_pos (by assumption)], rfl, hO, h2⟩ | exact ⟨by rw [if_neg (by assumption)], rfl, hO, h2⟩
    · try simp only [bI_eq0, bI_ne0] at h_89
      refine G_iload_n (pc := 92) dX12_number_92 rfl ?_
      refine G_goto (pc := 93) (tgt := 97) dX12_number_93 (by decide) ?_
      refine G_iret (pc := 97) dX12_number_97 rfl ?_
      rw [← hQ]; first | exact ⟨by rw [if_pos (by assumption)], rfl, hO, h2⟩ | exact ⟨by rw [if_neg (by assumption)], rfl, hO, h2⟩
  have loop : ∀ (m q v f : Nat) (I' : Nat → Nat → Int), q + m = n → nuM tx m q v f = N → vC f v → f ≤ q → OffA I I' → I' 71 2 = q → GM E mdX12_number 1 M Rf Q I' J 4 [some (vr E 71), some (vi (v : Int)), some (vi (f : Int))] [] := by
    intro m
    induction m with
    | zero =>
      intro q v f I' hq hr hv hf hO h2
      have hX' := hO.p.x hX
      have hr : (v, f, q) = N := hr
      refine G_aload_n (pc := 4) dX12_number_4 rfl ?_
      refine G_getiv (pc := 5) dX12_number_5 fiX12_74 (by first | rfl | assumption) (by omega) (h2) ?_
      refine G_aload_n (pc := 8) dX12_number_8 rfl ?_
      refine G_getiv (pc := 9) dX12_number_9 fiX12_70 (by first | rfl | assumption) (by omega) (hX'.1) ?_
      refine G_icmp_ge (pc := 12) (tgt := 80) dX12_number_12 (Ri.mk (by omega) (by omega)) (Ri.mk (by omega) (by omega)) (by decide) (fun h_12 => ?_) (fun h_12 => ?_)
      · exact fin q v f I' hr.symm (by omega) hO h2
      · exact absurd h_12 (by omega)
    | succ m ih =>
      intro q v f I' hq hr hv hf hO h2
      have hX' := hO.p.x hX
      have ht := htx q
      have hv9 := vC_le hv
      have hb : I' 72 ((q : Int)).toNat = tx q := by rw [Int.toNat_natCast]; exact hX'.2 q (by omega)
      rw [nuM] at hr
      refine G_aload_n (pc := 4) dX12_number_4 rfl ?_
      refine G_getiv (pc := 5) dX12_number_5 fiX12_74 (by first | rfl | assumption) (by omega) (h2) ?_
      refine G_aload_n (pc := 8) dX12_number_8 rfl ?_
      refine G_getiv (pc := 9) dX12_number_9 fiX12_70 (by first | rfl | assumption) (by omega) (hX'.1) ?_
      refine G_icmp_ge (pc := 12) (tgt := 80) dX12_number_12 (Ri.mk (by omega) (by omega)) (Ri.mk (by omega) (by omega)) (by decide) (fun h_12 => ?_) (fun h_12 => ?_)
      · exact absurd h_12 (by omega)
      · refine G_aload_n (pc := 15) dX12_number_15 rfl ?_
        refine G_getr (pc := 16) dX12_number_16 fiX12_7 (by first | rfl | assumption) (by omega) (by first | rfl | assumption) ?_
        refine G_aload_n (pc := 19) dX12_number_19 rfl ?_
        refine G_getiv (pc := 20) dX12_number_20 fiX12_74 (by first | rfl | assumption) (by omega) (h2) ?_
        refine G_baldv (pc := 23) dX12_number_23 (by first | rfl | assumption) (by omega) (by omega) (by omega) (by omega) (hb) ?_
        refine G_i2l (pc := 24) dX12_number_24 (Ri.mk (by omega) (by omega)) ?_
        refine G_ldc2 (pc := 25) dX12_number_25 klX12_77 ?_
        refine G_ldc2 (pc := 28) dX12_number_28 klX12_79 ?_
        refine G_callS1 (pc := 31) (md := mdX12_in) (av := [_, _, _]) dX12_number_31 lkX12_66 mwX12_in (m_inI _ _ _ (48 ≤ tx q ∧ tx q ≤ 57) (by omega) (Rl.mk (by omega) (by omega)) (Rl.mk (by omega) (by omega)) (Rl.mk (by omega) (by omega))) rfl rfl (Nat.le_of_ble_eq_true rfl) (by decide) ⟨Nat.zero_le _, Nat.zero_le _⟩ ?_
        refine G_if_eq (pc := 34) (tgt := 80) dX12_number_34 bI_R (by decide) (fun h_34 => ?_) (fun h_34 => ?_)
        · try simp only [bI_eq0, bI_ne0] at h_34
          rw [if_neg (by omega)] at hr
          exact fin q v f I' hr.symm (by omega) hO h2
        · try simp only [bI_eq0, bI_ne0] at h_34
          refine G_iload_n (pc := 37) dX12_number_37 rfl ?_
          refine G_iconst (pc := 38) dX12_number_38 ?_
          refine G_icmp_ge (pc := 39) (tgt := 62) dX12_number_39 (Ri.mk (by omega) (by omega)) (Ri.mk (by omega) (by omega)) (by decide) (fun h_39 => ?_) (fun h_39 => ?_)
          · refine G_iload_n (pc := 62) dX12_number_62 rfl ?_
            refine G_istore_n (pc := 63) (lv' := [_, _, _]) dX12_number_63 (by decide) rfl ?_
            refine G_iinc (pc := 64) (lv' := [_, _, _]) dX12_number_64 (by decide) rfl rfl ?_
            refine G_aload_n (pc := 67) dX12_number_67 rfl ?_
            refine G_dup (pc := 68) dX12_number_68 rfl ?_
            refine G_getiv (pc := 69) dX12_number_69 fiX12_74 (by first | rfl | assumption) (by omega) (h2) ?_
            refine G_iconst (pc := 72) dX12_number_72 ?_
            refine G_iadd (pc := 73) dX12_number_73 ?_
            refine G_puti (pc := 74) dX12_number_74 fiX12_74 (by first | rfl | assumption) (by omega) ?_
            refine G_goto (pc := 77) (tgt := 4) dX12_number_77 (by decide) ?_
            rw [if_pos (by omega)] at hr
            have hvu := vC_up (f := f) (v := v) (c := tx q) hv (by omega)
            first
              | (rw [if_pos (by omega)] at hr hvu
                 refine G_eq rfl rfl ?_ rfl (ih (q + 1) (10 * v + (tx q - 48).toNat) (f + 1) _ (by omega) hr hvu (by omega) hO.w wr_s)
                 rw [show (10 : Int) * (v : Int) + tx q - 48 = ((10 * v + (tx q - 48).toNat : Nat) : Int) by omega]; rfl)
              | (rw [if_neg (by omega)] at hr hvu
                 exact ih (q + 1) v (f + 1) _ (by omega) hr hvu (by omega) hO.w wr_s)
          · refine G_bipush (pc := 42) dX12_number_42 (by decide) ?_
            refine G_iload_n (pc := 44) dX12_number_44 rfl ?_
            refine G_imul (pc := 45) dX12_number_45 ?_
            refine G_aload_n (pc := 46) dX12_number_46 rfl ?_
            refine G_getr (pc := 47) dX12_number_47 fiX12_7 (by first | rfl | assumption) (by omega) (by first | rfl | assumption) ?_
            refine G_aload_n (pc := 50) dX12_number_50 rfl ?_
            refine G_getiv (pc := 51) dX12_number_51 fiX12_74 (by first | rfl | assumption) (by omega) (h2) ?_
            refine G_baldv (pc := 54) dX12_number_54 (by first | rfl | assumption) (by omega) (by omega) (by omega) (by omega) (hb) ?_
            refine G_iadd (pc := 55) dX12_number_55 ?_
            refine G_bipush (pc := 56) dX12_number_56 (by decide) ?_
            refine G_isub (pc := 58) dX12_number_58 ?_
            refine G_goto (pc := 59) (tgt := 63) dX12_number_59 (by decide) ?_
            refine G_istore_n (pc := 63) (lv' := [_, _, _]) dX12_number_63 (by decide) rfl ?_
            refine G_iinc (pc := 64) (lv' := [_, _, _]) dX12_number_64 (by decide) rfl rfl ?_
            refine G_aload_n (pc := 67) dX12_number_67 rfl ?_
            refine G_dup (pc := 68) dX12_number_68 rfl ?_
            refine G_getiv (pc := 69) dX12_number_69 fiX12_74 (by first | rfl | assumption) (by omega) (h2) ?_
            refine G_iconst (pc := 72) dX12_number_72 ?_
            refine G_iadd (pc := 73) dX12_number_73 ?_
            refine G_puti (pc := 74) dX12_number_74 fiX12_74 (by first | rfl | assumption) (by omega) ?_
            refine G_goto (pc := 77) (tgt := 4) dX12_number_77 (by decide) ?_
            rw [if_pos (by omega)] at hr
            have hvu := vC_up (f := f) (v := v) (c := tx q) hv (by omega)
            first
              | (rw [if_pos (by omega)] at hr hvu
                 refine G_eq rfl rfl ?_ rfl (ih (q + 1) (10 * v + (tx q - 48).toNat) (f + 1) _ (by omega) hr hvu (by omega) hO.w wr_s)
                 rw [show (10 : Int) * (v : Int) + tx q - 48 = ((10 * v + (tx q - 48).toNat : Nat) : Int) by omega]; rfl)
              | (rw [if_neg (by omega)] at hr hvu
                 exact ih (q + 1) v (f + 1) _ (by omega) hr hvu (by omega) hO.w wr_s)
  refine G_iconst (pc := 0) dX12_number_0 ?_
  refine G_istore_n (pc := 1) (lv' := [_, _, _]) dX12_number_1 (by decide) rfl ?_
  refine G_iconst (pc := 2) dX12_number_2 ?_
  refine G_istore_n (pc := 3) (lv' := [_, _, _]) dX12_number_3 (by decide) rfl ?_
  exact loop (n - p) p 0 0 I (by omega) hN.symm (Or.inl ⟨rfl, rfl⟩) (Nat.zero_le _) ⟨fun _ _ => rfl, fun _ _ => rfl⟩ h2
theorem m_begins (hM : 87 ≤ M) : FnQ E mdX12_begins 0 M Rf [vr E 71] I J (fun v I' J' => v = none ∧ J' = J ∧ OffP I I' ∧ PD I' D0 ∧ I' 71 2 = I 71 2) := by
  refine FnQ.of (by decide +kernel) (Nat.le_of_ble_eq_true rfl) ?_
  show GM E mdX12_begins 0 M Rf _ I J 0 [some (vr E 71)] []
  refine G_aload_n (pc := 0) dX12_begins_0 rfl ?_
  refine G_getr (pc := 1) dX12_begins_1 fiX12_13 (by first | rfl | assumption) (by omega) (by first | rfl | assumption) ?_
  refine G_iconst (pc := 4) dX12_begins_4 ?_
  refine G_iconst (pc := 5) dX12_begins_5 ?_
  refine G_iast (pc := 6) dX12_begins_6 (by first | rfl | assumption) (by omega) (by omega) (by omega) (by omega) ?_
  refine G_aload_n (pc := 7) dX12_begins_7 rfl ?_
  refine G_getr (pc := 8) dX12_begins_8 fiX12_20 (by first | rfl | assumption) (by omega) (by first | rfl | assumption) ?_
  refine G_iconst (pc := 11) dX12_begins_11 ?_
  refine G_iconst (pc := 12) dX12_begins_12 ?_
  refine G_iast (pc := 13) dX12_begins_13 (by first | rfl | assumption) (by omega) (by omega) (by omega) (by omega) ?_
  refine G_aload_n (pc := 14) dX12_begins_14 rfl ?_
  refine G_iconst (pc := 15) dX12_begins_15 ?_
  refine G_puti (pc := 16) dX12_begins_16 fiX12_104 (by first | rfl | assumption) (by omega) ?_
  refine G_aload_n (pc := 19) dX12_begins_19 rfl ?_
  refine G_getr (pc := 20) dX12_begins_20 fiX12_29 (by first | rfl | assumption) (by omega) (by first | rfl | assumption) ?_
  refine G_iconst (pc := 23) dX12_begins_23 ?_
  refine G_iconst (pc := 24) dX12_begins_24 ?_
  refine G_iast (pc := 25) dX12_begins_25 (by first | rfl | assumption) (by omega) (by omega) (by omega) (by omega) ?_
  refine G_aload_n (pc := 26) dX12_begins_26 rfl ?_
  refine G_getr (pc := 27) dX12_begins_27 fiX12_29 (by first | rfl | assumption) (by omega) (by first | rfl | assumption) ?_
  refine G_iconst (pc := 30) dX12_begins_30 ?_
  refine G_bipush (pc := 31) dX12_begins_31 (by decide) ?_
  refine G_iast (pc := 33) dX12_begins_33 (by first | rfl | assumption) (by omega) (by omega) (by omega) (by omega) ?_
  refine G_aload_n (pc := 34) dX12_begins_34 rfl ?_
  refine G_getr (pc := 35) dX12_begins_35 fiX12_29 (by first | rfl | assumption) (by omega) (by first | rfl | assumption) ?_
  refine G_iconst (pc := 38) dX12_begins_38 ?_
  refine G_iconst (pc := 39) dX12_begins_39 ?_
  refine G_iast (pc := 40) dX12_begins_40 (by first | rfl | assumption) (by omega) (by omega) (by omega) (by omega) ?_
  refine G_vret (pc := 41) dX12_begins_41 rfl ?_
  refine ⟨rfl, rfl, (((((OffP.rfl.w (by decide)).w (by decide)).w (by decide)).w (by decide)).w (by decide)).w (by decide), ⟨⟨by simp [wr]; rfl, by simp [wr]; rfl, fun s hs => absurd hs (Nat.not_lt_zero _), fun s hs => absurd hs (Nat.not_lt_zero _), fun i h1 h2 => ?_⟩, by simp [wr]; rfl, fun t ht => absurd ht (Nat.not_lt_zero _)⟩, by simp [wr]⟩
  rcases (show i = 11 ∨ i = 12 ∨ i = 13 by omega) with rfl | rfl | rfl <;> (simp [wr]; rfl)
end MOD12
