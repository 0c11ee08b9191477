/-! CHOOSER: rows of steps by their codes -/
def dgB (B n code k : Nat) : Nat := code / B ^ (n - 1 - k) % B
def cdC (B n code : Nat) : CS := fun i x => if i = 0 then n else if i = 1 then dgB B n code x / 2 else if i = 2 then dgB B n code x % 2 else 0
def mns (hs : HS) (n code : Nat) : Nat := sumN (fun k => hs 7 (dgB (2 * zA hs) n code k / 2)) n
def srt (B n code : Nat) : Prop := ∀ k, k + 1 < n → dgB B n code k ≤ dgB B n code (k + 1)
/-- the best of the first codes: its odds and its code; -4 where there is none -/
def bsF (hs : HS) (n m c : Nat) : Nat → Int × Nat
  | 0 => (-4, 0)
  | k + 1 => if mns hs n k ≤ m ∧ (bsF hs n m c k).1 < (od hs (cdC (2 * zA hs) n k) c : Int) then ((od hs (cdC (2 * zA hs) n k) c : Int), k) else bsF hs n m c k
theorem bsF_mono (hs : HS) (n m c : Nat) {j k : Nat} (h : j ≤ k) : (bsF hs n m c j).1 ≤ (bsF hs n m c k).1 := by
  induction k with
  | zero => rw [show j = 0 by omega]; exact Int.le_refl _
  | succ k ih =>
    rcases Nat.lt_or_ge j (k + 1) with q | q
    · refine Int.le_trans (ih (by omega)) ?_
      rw [bsF]; split
      · rename_i h; exact Int.le_of_lt h.2
      · exact Int.le_refl _
    · rw [show j = k + 1 by omega]; exact Int.le_refl _
theorem bsF_ge (hs : HS) (n m c : Nat) {j k : Nat} (h : j < k) (hm : mns hs n j ≤ m) : (od hs (cdC (2 * zA hs) n j) c : Int) ≤ (bsF hs n m c k).1 := by
  refine Int.le_trans ?_ (bsF_mono hs n m c (show j + 1 ≤ k by omega))
  rw [bsF]; split
  · exact Int.le_refl _
  · rename_i h2
    have : ¬ (bsF hs n m c j).1 < (od hs (cdC (2 * zA hs) n j) c : Int) := fun z => h2 ⟨hm, z⟩
    omega
theorem bsF_R (hs : HS) (n m c : Nat) (hod : ∀ k, od hs (cdC (2 * zA hs) n k) c ≤ 1000000) : ∀ k, -4 ≤ (bsF hs n m c k).1 ∧ (bsF hs n m c k).1 ≤ 1000000
  | 0 => by simp [bsF]
  | k + 1 => by
    rw [bsF]; split
    · have := hod k
      show -4 ≤ ((od hs (cdC (2 * zA hs) n k) c : Nat) : Int) ∧ _
      omega
    · exact bsF_R hs n m c hod k
theorem bsF_lt (hs : HS) (n m c : Nat) : ∀ k, (bsF hs n m c k).1 ≠ -4 → (bsF hs n m c k).2 < k
  | 0 => fun h => absurd rfl h
  | k + 1 => fun h => by
    rw [bsF] at h ⊢
    split
    · exact Nat.lt_succ_self k
    · rename_i h2
      rw [if_neg h2] at h
      have := bsF_lt hs n m c k h
      omega
theorem wS_congr {hs : HS} {f g : Nat → Nat} : ∀ n, (∀ s, s < n → f s = g s) → wS hs f n = wS hs g n
  | 0, _ => rfl
  | n + 1, h => by rw [wS, wS, wS_congr n (fun s hs' => h s (by omega)), h n (by omega)]
theorem dd_mod {x y B : Nat} (hy : y < B) : (x * B + y) / B = x ∧ (x * B + y) % B = y := by
  have hB : 0 < B := by omega
  constructor
  · rw [Nat.add_comm, Nat.add_mul_div_right _ _ hB, Nat.div_eq_of_lt hy, Nat.zero_add]
  · rw [Nat.add_comm, Nat.add_mul_mod_self_right, Nat.mod_eq_of_lt hy]
/-- what a step by its number leaves, in hundredths -/
def ddS (hs : HS) (s v : Nat) : Nat := if v % 2 = 0 then dO hs s (v / 2) 0 else 100 - dO hs s (v / 2) 0
theorem lf_step (hs : HS) (B n code s t : Nat) : lfR hs (cdC B n code) s (t + 1) = lfR hs (cdC B n code) s t * ddS hs s (dgB B n code t) / 100 := by
  rw [lfR]; simp [cdC, ddS]
theorem lf_two (hs : HS) (B code s : Nat) : lf hs (cdC B 2 code) s = hs 0 s * 100 * (ddS hs s (dgB B 2 code 0) * ddS hs s (dgB B 2 code 1)) := by
  show lfR hs (cdC B 2 code) s 2 = _
  rw [lf_step, lf_step, lfR]
  generalize ddS hs s (dgB B 2 code 0) = a
  generalize ddS hs s (dgB B 2 code 1) = b
  rw [show hs 0 s * 1000000 * a = (hs 0 s * 10000 * a) * 100 by grind, Nat.mul_div_cancel _ (by decide), show hs 0 s * 10000 * a * b = (hs 0 s * 100 * (a * b)) * 100 by grind, Nat.mul_div_cancel _ (by decide)]
theorem lf_three (hs : HS) (B code s : Nat) : lf hs (cdC B 3 code) s = hs 0 s * (ddS hs s (dgB B 3 code 0) * ddS hs s (dgB B 3 code 1) * ddS hs s (dgB B 3 code 2)) := by
  show lfR hs (cdC B 3 code) s 3 = _
  rw [lf_step, lf_step, lf_step, lfR]
  generalize ddS hs s (dgB B 3 code 0) = a
  generalize ddS hs s (dgB B 3 code 1) = b
  generalize ddS hs s (dgB B 3 code 2) = c
  rw [show hs 0 s * 1000000 * a = (hs 0 s * 10000 * a) * 100 by grind, Nat.mul_div_cancel _ (by decide), show hs 0 s * 10000 * a * b = (hs 0 s * 100 * (a * b)) * 100 by grind, Nat.mul_div_cancel _ (by decide), show hs 0 s * 100 * (a * b) * c = (hs 0 s * (a * b * c)) * 100 by grind, Nat.mul_div_cancel _ (by decide)]
theorem od_congr {hs : HS} {C C' : CS} (h : ∀ s, lf hs C s = lf hs C' s) (c : Nat) : od hs C c = od hs C' c := by
  unfold od
  rw [wS_congr (zS hs) (fun s _ => h s)]
theorem swap_two {hs : HS} {k : Nat} (hk : k < (2 * zA hs) ^ 2) (hu : ¬ srt (2 * zA hs) 2 k) : ∃ k', k' < k ∧ mns hs 2 k' = mns hs 2 k ∧ ∀ c, od hs (cdC (2 * zA hs) 2 k') c = od hs (cdC (2 * zA hs) 2 k) c := by
  obtain ⟨B, hB⟩ : ∃ B, B = 2 * zA hs := ⟨_, rfl⟩
  have hmns : ∀ c, mns hs 2 c = hs 7 (dgB B 2 c 0 / 2) + hs 7 (dgB B 2 c 1 / 2) := fun c => by unfold mns; rw [← hB]; simp [sumN]
  rw [← hB] at hk hu ⊢
  have hB0 : 0 < B := by
    rcases Nat.eq_zero_or_pos B with h | h
    · rw [h] at hk; simp at hk
    · exact h
  have e0 : ∀ c, dgB B 2 c 0 = c / B % B := fun c => by simp [dgB]
  have e1 : ∀ c, dgB B 2 c 1 = c % B := fun c => by simp [dgB]
  have ha : k / B < B := by rw [Nat.pow_two] at hk; exact Nat.div_lt_of_lt_mul hk
  have hb := Nat.mod_lt k hB0
  have hab : k % B < k / B := by
    have h : ¬ dgB B 2 k 0 ≤ dgB B 2 k 1 := fun z => hu fun j hj => by
      have : j = 0 := by omega
      subst this; exact z
    rw [e0, e1, Nat.mod_eq_of_lt ha] at h
    omega
  have hkd := Nat.div_add_mod k B
  obtain ⟨p1, p2⟩ := dd_mod (x := k % B) ha
  have q0 : dgB B 2 (k % B * B + k / B) 0 = k % B := by rw [e0, p1, Nat.mod_eq_of_lt hb]
  have q1 : dgB B 2 (k % B * B + k / B) 1 = k / B := by rw [e1, p2]
  have r0 : dgB B 2 k 0 = k / B := by rw [e0, Nat.mod_eq_of_lt ha]
  have r1 : dgB B 2 k 1 = k % B := e1 k
  refine ⟨k % B * B + k / B, ?_, ?_, fun c => od_congr (fun s => ?_) c⟩
  · have h1 : (k % B + 1) * B ≤ k / B * B := Nat.mul_le_mul_right B (by omega)
    rw [Nat.add_mul] at h1
    rw [Nat.mul_comm] at hkd
    omega
  · rw [hmns, hmns, q0, q1, r0, r1]; omega
  · rw [lf_two, lf_two, q0, q1, r0, r1]; grind
theorem swap_three {hs : HS} {k : Nat} (hk : k < (2 * zA hs) ^ 3) (hu : ¬ srt (2 * zA hs) 3 k) : ∃ k', k' < k ∧ mns hs 3 k' = mns hs 3 k ∧ ∀ c, od hs (cdC (2 * zA hs) 3 k') c = od hs (cdC (2 * zA hs) 3 k) c := by
  obtain ⟨B, hB⟩ : ∃ B, B = 2 * zA hs := ⟨_, rfl⟩
  have hmns : ∀ c, mns hs 3 c = hs 7 (dgB B 3 c 0 / 2) + hs 7 (dgB B 3 c 1 / 2) + hs 7 (dgB B 3 c 2 / 2) := fun c => by unfold mns; rw [← hB]; simp [sumN]
  rw [← hB] at hk hu ⊢
  have hB0 : 0 < B := by
    rcases Nat.eq_zero_or_pos B with h | h
    · rw [h] at hk; simp at hk
    · exact h
  have e0 : ∀ c, dgB B 3 c 0 = c / B / B % B := fun c => by simp [dgB, Nat.pow_two, Nat.div_div_eq_div_mul]
  have e1 : ∀ c, dgB B 3 c 1 = c / B % B := fun c => by simp [dgB]
  have e2 : ∀ c, dgB B 3 c 2 = c % B := fun c => by simp [dgB]
  have ha : k / B / B < B := by
    rw [Nat.div_div_eq_div_mul]
    exact Nat.div_lt_of_lt_mul (by rw [show B * B * B = B ^ 3 by grind]; exact hk)
  have hb := Nat.mod_lt (k / B) hB0
  have hc := Nat.mod_lt k hB0
  have hkd := Nat.div_add_mod k B
  have hkd2 := Nat.div_add_mod (k / B) B
  have r0 : dgB B 3 k 0 = k / B / B := by rw [e0, Nat.mod_eq_of_lt ha]
  have r1 : dgB B 3 k 1 = k / B % B := e1 k
  have r2 : dgB B 3 k 2 = k % B := e2 k
  obtain ⟨a, ea⟩ : ∃ a, a = k / B / B := ⟨_, rfl⟩
  obtain ⟨b, eb⟩ : ∃ b, b = k / B % B := ⟨_, rfl⟩
  obtain ⟨c, ec⟩ : ∃ c, c = k % B := ⟨_, rfl⟩
  rw [← ea, ← eb] at hkd2
  rw [← ec] at hkd hc r2
  rw [← ea] at ha r0
  rw [← eb] at hb r1
  have hkk : k = (a * B + b) * B + c := by
    rw [← hkd, ← hkd2]; grind
  by_cases hab : b < a
  · obtain ⟨p1, p2⟩ := dd_mod (x := b * B + a) hc
    obtain ⟨p3, p4⟩ := dd_mod (x := b) ha
    have q0 : dgB B 3 ((b * B + a) * B + c) 0 = b := by rw [e0, p1, p3, Nat.mod_eq_of_lt hb]
    have q1 : dgB B 3 ((b * B + a) * B + c) 1 = a := by rw [e1, p1, p4]
    have q2 : dgB B 3 ((b * B + a) * B + c) 2 = c := by rw [e2, p2]
    refine ⟨(b * B + a) * B + c, ?_, ?_, fun x => od_congr (fun s => ?_) x⟩
    · have h1 : (b + 1) * B ≤ a * B := Nat.mul_le_mul_right B (by omega)
      rw [Nat.add_mul] at h1
      have h2 : (b * B + a + 1) * B ≤ (a * B + b) * B := Nat.mul_le_mul_right B (by omega)
      rw [Nat.add_mul] at h2
      omega
    · rw [hmns, hmns, q0, q1, q2, r0, r1, r2]; omega
    · rw [lf_three, lf_three, q0, q1, q2, r0, r1, r2]; grind
  · have hbc : c < b := by
      have h : ¬ b ≤ c := fun z => hu fun j hj => by
        rcases (show j = 0 ∨ j = 1 by omega) with rfl | rfl
        · rw [r0, show 0 + 1 = 1 from rfl, r1]; omega
        · rw [r1, show 1 + 1 = 2 from rfl, r2]; exact z
      omega
    obtain ⟨p1, p2⟩ := dd_mod (x := a * B + c) hb
    obtain ⟨p3, p4⟩ := dd_mod (x := a) hc
    have q0 : dgB B 3 ((a * B + c) * B + b) 0 = a := by rw [e0, p1, p3, Nat.mod_eq_of_lt ha]
    have q1 : dgB B 3 ((a * B + c) * B + b) 1 = c := by rw [e1, p1, p4]
    have q2 : dgB B 3 ((a * B + c) * B + b) 2 = b := by rw [e2, p2]
    refine ⟨(a * B + c) * B + b, ?_, ?_, fun x => od_congr (fun s => ?_) x⟩
    · have h2 : (a * B + c + 1) * B ≤ (a * B + b) * B := Nat.mul_le_mul_right B (by omega)
      rw [Nat.add_mul] at h2
      omega
    · rw [hmns, hmns, q0, q1, q2, r0, r1, r2]; omega
    · rw [lf_three, lf_three, q0, q1, q2, r0, r1, r2]; grind
theorem bsF_uns {hs : HS} {n m c k : Nat} (hn : 1 ≤ n ∧ n ≤ 3) (hk : k < (2 * zA hs) ^ n) (hu : ¬ srt (2 * zA hs) n k) : bsF hs n m c (k + 1) = bsF hs n m c k := by
  have key : ∃ k', k' < k ∧ mns hs n k' = mns hs n k ∧ ∀ c, od hs (cdC (2 * zA hs) n k') c = od hs (cdC (2 * zA hs) n k) c := by
    rcases (show n = 1 ∨ n = 2 ∨ n = 3 by omega) with rfl | rfl | rfl
    · exact absurd (fun j hj => by omega) hu
    · exact swap_two hk hu
    · exact swap_three hk hu
  obtain ⟨k', h1, h2, h3⟩ := key
  rw [bsF, if_neg]
  rintro ⟨h4, h5⟩
  have := bsF_ge hs n m c h1 (by rw [h2]; exact h4)
  rw [h3 c] at this
  omega
