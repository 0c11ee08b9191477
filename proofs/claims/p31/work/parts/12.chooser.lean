/-! CHOOSER: rows of steps by their codes -/
def dgB (B n code k : Nat) : Nat := code / B ^ (n - 1 - k) % B
def cdC (B n code : Nat) : CS := fun i x => if i = 0 then n else if i = 1 then dgB B n code x / 2 else if i = 2 then dgB B n code x % 2 else 0
def mns (hs : HS) (n code : Nat) : Nat := sumN (fun k => hs 7 (dgB (2 * zA hs) n code k / 2)) n
def srt (B n code : Nat) : Prop := ∀ k, k + 1 < n → dgB B n code k ≤ dgB B n code (k + 1)
/-- the best of the first codes: its odds and its code; -4 where there is none -/
def bsF (hs : HS) (n m c : Nat) : Nat → Int × Nat
  | 0 => (-4, 0)
  | k + 1 => if mns hs n k ≤ m ∧ (bsF hs n m c k).1 < (od hs (cdC (2 * zA hs) n k) c : Int) then ((od hs (cdC (2 * zA hs) n k) c : Int), k) else bsF hs n m c k
theorem bsF_mono (hs : HS) (n m c : Nat) {j k : Nat} (h : j ≤ k) : (bsF hs n m c j).1 ≤ (bsF hs n m c k).1 := by
  induction k with
  | zero => rw [show j = 0 by omega]; exact Int.le_refl _
  | succ k ih =>
    rcases Nat.lt_or_ge j (k + 1) with q | q
    · refine Int.le_trans (ih (by omega)) ?_
      rw [bsF]; split
      · rename_i h; exact Int.le_of_lt h.2
      · exact Int.le_refl _
    · rw [show j = k + 1 by omega]; exact Int.le_refl _
theorem bsF_ge (hs : HS) (n m c : Nat) {j k : Nat} (h : j < k) (hm : mns hs n j ≤ m) : (od hs (cdC (2 * zA hs) n j) c : Int) ≤ (bsF hs n m c k).1 := by
  refine Int.le_trans ?_ (bsF_mono hs n m c (show j + 1 ≤ k by omega))
  rw [bsF]; split
  · exact Int.le_refl _
  · rename_i h2
    have : ¬ (bsF hs n m c j).1 < (od hs (cdC (2 * zA hs) n j) c : Int) := fun z => h2 ⟨hm, z⟩
    omega
theorem bsF_R (hs : HS) (n m c : Nat) (hod : ∀ k, od hs (cdC (2 * zA hs) n k) c ≤ 1000000) : ∀ k, -4 ≤ (bsF hs n m c k).1 ∧ (bsF hs n m c k).1 ≤ 1000000
  | 0 => by simp [bsF]
  | k + 1 => by
    rw [bsF]; split
    · have := hod k
      show -4 ≤ ((od hs (cdC (2 * zA hs) n k) c : Nat) : Int) ∧ _
      omega
    · exact bsF_R hs n m c hod k
theorem bsF_lt (hs : HS) (n m c : Nat) : ∀ k, (bsF hs n m c k).1 ≠ -4 → (bsF hs n m c k).2 < k
  | 0 => fun h => absurd rfl h
  | k + 1 => fun h => by
    rw [bsF] at h ⊢
    split
    · exact Nat.lt_succ_self k
    · rename_i h2
      rw [if_neg h2] at h
      have := bsF_lt hs n m c k h
      omega
theorem wS_congr {hs : HS} {f g : Nat → Nat} : ∀ n, (∀ s, s < n → f s = g s) → wS hs f n = wS hs g n
  | 0, _ => rfl
  | n + 1, h => by rw [wS, wS, wS_congr n (fun s hs' => h s (by omega)), h n (by omega)]
theorem dd_mod {x y B : Nat} (hy : y < B) : (x * B + y) / B = x ∧ (x * B + y) % B = y := by
  have hB : 0 < B := by omega
  constructor
  · rw [Nat.add_comm, Nat.add_mul_div_right _ _ hB, Nat.div_eq_of_lt hy, Nat.zero_add]
  · rw [Nat.add_comm, Nat.add_mul_mod_self_right, Nat.mod_eq_of_lt hy]
/-- what a step by its number leaves, in hundredths -/
def ddS (hs : HS) (s v : Nat) : Nat := if v % 2 = 0 then dO hs s (v / 2) 0 else 100 - dO hs s (v / 2) 0
theorem lf_step (hs : HS) (B n code s t : Nat) : lfR hs (cdC B n code) s (t + 1) = lfR hs (cdC B n code) s t * ddS hs s (dgB B n code t) / 100 := by
  rw [lfR]; simp [cdC, ddS]
theorem lf_two (hs : HS) (B code s : Nat) : lf hs (cdC B 2 code) s = hs 0 s * 100 * (ddS hs s (dgB B 2 code 0) * ddS hs s (dgB B 2 code 1)) := by
  show lfR hs (cdC B 2 code) s 2 = _
  rw [lf_step, lf_step, lfR]
  generalize ddS hs s (dgB B 2 code 0) = a
  generalize ddS hs s (dgB B 2 code 1) = b
  rw [show hs 0 s * 1000000 * a = (hs 0 s * 10000 * a) * 100 by grind, Nat.mul_div_cancel _ (by decide), show hs 0 s * 10000 * a * b = (hs 0 s * 100 * (a * b)) * 100 by grind, Nat.mul_div_cancel _ (by decide)]
theorem lf_three (hs : HS) (B code s : Nat) : lf hs (cdC B 3 code) s = hs 0 s * (ddS hs s (dgB B 3 code 0) * ddS hs s (dgB B 3 code 1) * ddS hs s (dgB B 3 code 2)) := by
  show lfR hs (cdC B 3 code) s 3 = _
  rw [lf_step, lf_step, lf_step, lfR]
  generalize ddS hs s (dgB B 3 code 0) = a
  generalize ddS hs s (dgB B 3 code 1) = b
  generalize ddS hs s (dgB B 3 code 2) = c
  rw [show hs 0 s * 1000000 * a = (hs 0 s * 10000 * a) * 100 by grind, Nat.mul_div_cancel _ (by decide), show hs 0 s * 10000 * a * b = (hs 0 s * 100 * (a * b)) * 100 by grind, Nat.mul_div_cancel _ (by decide), show hs 0 s * 100 * (a * b) * c = (hs 0 s * (a * b * c)) * 100 by grind, Nat.mul_div_cancel _ (by decide)]
theorem od_congr {hs : HS} {C C' : CS} (h : ∀ s, lf hs C s = lf hs C' s) (c : Nat) : od hs C c = od hs C' c := by
  unfold od
  rw [wS_congr (zS hs) (fun s _ => h s)]
theorem swap_two {hs : HS} {k : Nat} (hk : k < (2 * zA hs) ^ 2) (hu : ¬ srt (2 * zA hs) 2 k) : ∃ k', k' < k ∧ mns hs 2 k' = mns hs 2 k ∧ ∀ c, od hs (cdC (2 * zA hs) 2 k') c = od hs (cdC (2 * zA hs) 2 k) c := by
  obtain ⟨B, hB⟩ : ∃ B, B = 2 * zA hs := ⟨_, rfl⟩
  have hmns : ∀ c, mns hs 2 c = hs 7 (dgB B 2 c 0 / 2) + hs 7 (dgB B 2 c 1 / 2) := fun c => by unfold mns; rw [← hB]; simp [sumN]
  rw [← hB] at hk hu ⊢
  have hB0 : 0 < B := by
    rcases Nat.eq_zero_or_pos B with h | h
    · rw [h] at hk; simp at hk
    · exact h
  have e0 : ∀ c, dgB B 2 c 0 = c / B % B := fun c => by simp [dgB]
  have e1 : ∀ c, dgB B 2 c 1 = c % B := fun c => by simp [dgB]
  have ha : k / B < B := by rw [Nat.pow_two] at hk; exact Nat.div_lt_of_lt_mul hk
  have hb := Nat.mod_lt k hB0
  have hab : k % B < k / B := by
    have h : ¬ dgB B 2 k 0 ≤ dgB B 2 k 1 := fun z => hu fun j hj => by
      have : j = 0 := by omega
      subst this; exact z
    rw [e0, e1, Nat.mod_eq_of_lt ha] at h
    omega
  have hkd := Nat.div_add_mod k B
  obtain ⟨p1, p2⟩ := dd_mod (x := k % B) ha
  have q0 : dgB B 2 (k % B * B + k / B) 0 = k % B := by rw [e0, p1, Nat.mod_eq_of_lt hb]
  have q1 : dgB B 2 (k % B * B + k / B) 1 = k / B := by rw [e1, p2]
  have r0 : dgB B 2 k 0 = k / B := by rw [e0, Nat.mod_eq_of_lt ha]
  have r1 : dgB B 2 k 1 = k % B := e1 k
  refine ⟨k % B * B + k / B, ?_, ?_, fun c => od_congr (fun s => ?_) c⟩
  · have h1 : (k % B + 1) * B ≤ k / B * B := Nat.mul_le_mul_right B (by omega)
    rw [Nat.add_mul] at h1
    rw [Nat.mul_comm] at hkd
    omega
  · rw [hmns, hmns, q0, q1, r0, r1]; omega
  · rw [lf_two, lf_two, q0, q1, r0, r1]; grind
theorem swap_three {hs : HS} {k : Nat} (hk : k < (2 * zA hs) ^ 3) (hu : ¬ srt (2 * zA hs) 3 k) : ∃ k', k' < k ∧ mns hs 3 k' = mns hs 3 k ∧ ∀ c, od hs (cdC (2 * zA hs) 3 k') c = od hs (cdC (2 * zA hs) 3 k) c := by
  obtain ⟨B, hB⟩ : ∃ B, B = 2 * zA hs := ⟨_, rfl⟩
  have hmns : ∀ c, mns hs 3 c = hs 7 (dgB B 3 c 0 / 2) + hs 7 (dgB B 3 c 1 / 2) + hs 7 (dgB B 3 c 2 / 2) := fun c => by unfold mns; rw [← hB]; simp [sumN]
  rw [← hB] at hk hu ⊢
  have hB0 : 0 < B := by
    rcases Nat.eq_zero_or_pos B with h | h
    · rw [h] at hk; simp at hk
    · exact h
  have e0 : ∀ c, dgB B 3 c 0 = c / B / B % B := fun c => by simp [dgB, Nat.pow_two, Nat.div_div_eq_div_mul]
  have e1 : ∀ c, dgB B 3 c 1 = c / B % B := fun c => by simp [dgB]
  have e2 : ∀ c, dgB B 3 c 2 = c % B := fun c => by simp [dgB]
  have ha : k / B / B < B := by
    rw [Nat.div_div_eq_div_mul]
    exact Nat.div_lt_of_lt_mul (by rw [show B * B * B = B ^ 3 by grind]; exact hk)
  have hb := Nat.mod_lt (k / B) hB0
  have hc := Nat.mod_lt k hB0
  have hkd := Nat.div_add_mod k B
  have hkd2 := Nat.div_add_mod (k / B) B
  have r0 : dgB B 3 k 0 = k / B / B := by rw [e0, Nat.mod_eq_of_lt ha]
  have r1 : dgB B 3 k 1 = k / B % B := e1 k
  have r2 : dgB B 3 k 2 = k % B := e2 k
  obtain ⟨a, ea⟩ : ∃ a, a = k / B / B := ⟨_, rfl⟩
  obtain ⟨b, eb⟩ : ∃ b, b = k / B % B := ⟨_, rfl⟩
  obtain ⟨c, ec⟩ : ∃ c, c = k % B := ⟨_, rfl⟩
  rw [← ea, ← eb] at hkd2
  rw [← ec] at hkd hc r2
  rw [← ea] at ha r0
  rw [← eb] at hb r1
  have hkk : k = (a * B + b) * B + c := by
    rw [← hkd, ← hkd2]; grind
  by_cases hab : b < a
  · obtain ⟨p1, p2⟩ := dd_mod (x := b * B + a) hc
    obtain ⟨p3, p4⟩ := dd_mod (x := b) ha
    have q0 : dgB B 3 ((b * B + a) * B + c) 0 = b := by rw [e0, p1, p3, Nat.mod_eq_of_lt hb]
    have q1 : dgB B 3 ((b * B + a) * B + c) 1 = a := by rw [e1, p1, p4]
    have q2 : dgB B 3 ((b * B + a) * B + c) 2 = c := by rw [e2, p2]
    refine ⟨(b * B + a) * B + c, ?_, ?_, fun x => od_congr (fun s => ?_) x⟩
    · have h1 : (b + 1) * B ≤ a * B := Nat.mul_le_mul_right B (by omega)
      rw [Nat.add_mul] at h1
      have h2 : (b * B + a + 1) * B ≤ (a * B + b) * B := Nat.mul_le_mul_right B (by omega)
      rw [Nat.add_mul] at h2
      omega
    · rw [hmns, hmns, q0, q1, q2, r0, r1, r2]; omega
    · rw [lf_three, lf_three, q0, q1, q2, r0, r1, r2]; grind
  · have hbc : c < b := by
      have h : ¬ b ≤ c := fun z => hu fun j hj => by
        rcases (show j = 0 ∨ j = 1 by omega) with rfl | rfl
        · rw [r0, show 0 + 1 = 1 from rfl, r1]; omega
        · rw [r1, show 1 + 1 = 2 from rfl, r2]; exact z
      omega
    obtain ⟨p1, p2⟩ := dd_mod (x := a * B + c) hb
    obtain ⟨p3, p4⟩ := dd_mod (x := a) hc
    have q0 : dgB B 3 ((a * B + c) * B + b) 0 = a := by rw [e0, p1, p3, Nat.mod_eq_of_lt ha]
    have q1 : dgB B 3 ((a * B + c) * B + b) 1 = c := by rw [e1, p1, p4]
    have q2 : dgB B 3 ((a * B + c) * B + b) 2 = b := by rw [e2, p2]
    refine ⟨(a * B + c) * B + b, ?_, ?_, fun x => od_congr (fun s => ?_) x⟩
    · have h2 : (a * B + c + 1) * B ≤ (a * B + b) * B := Nat.mul_le_mul_right B (by omega)
      rw [Nat.add_mul] at h2
      omega
    · rw [hmns, hmns, q0, q1, q2, r0, r1, r2]; omega
    · rw [lf_three, lf_three, q0, q1, q2, r0, r1, r2]; grind
theorem bsF_uns {hs : HS} {n m c k : Nat} (hn : 1 ≤ n ∧ n ≤ 3) (hk : k < (2 * zA hs) ^ n) (hu : ¬ srt (2 * zA hs) n k) : bsF hs n m c (k + 1) = bsF hs n m c k := by
  have key : ∃ k', k' < k ∧ mns hs n k' = mns hs n k ∧ ∀ c, od hs (cdC (2 * zA hs) n k') c = od hs (cdC (2 * zA hs) n k) c := by
    rcases (show n = 1 ∨ n = 2 ∨ n = 3 by omega) with rfl | rfl | rfl
    · exact absurd (fun j hj => by omega) hu
    · exact swap_two hk hu
    · exact swap_three hk hu
  obtain ⟨k', h1, h2, h3⟩ := key
  rw [bsF, if_neg]
  rintro ⟨h4, h5⟩
  have := bsF_ge hs n m c h1 (by rw [h2]; exact h4)
  rw [h3 c] at this
  omega
theorem od_le {hs : HS} (hB : HB hs) (C : CS) (c : Nat) : od hs C c ≤ 1000000 := (wB_wS fun s _ => lf_le hs C s).le c
theorem dgB_lt {B n code k : Nat} (h : 0 < B) : dgB B n code k < B := Nat.mod_lt _ h
theorem cdC_B {hs : HS} {n code : Nat} (h : 0 < zA hs) (hn : n ≤ 3) : RB hs (cdC (2 * zA hs) n code) := by
  refine ⟨by show n ≤ 8; omega, fun t _ => ?_⟩
  have := dgB_lt (n := n) (code := code) (k := t) (show 0 < 2 * zA hs by omega)
  constructor
  · show dgB (2 * zA hs) n code t / 2 < zA hs; omega
  · show dgB (2 * zA hs) n code t % 2 ≤ 1; omega
theorem RI.congr {I : Nat → Nat → Int} {q : Nat} {C C' : CS} (h : RI I q C) (h0 : C' 0 0 = C 0 0) (h1 : ∀ t, t < C 0 0 → C' 1 t = C 1 t ∧ C' 2 t = C 2 t) : RI I q C' := by
  refine ⟨by rw [h0]; exact h.1, fun t ht => ?_⟩
  rw [h0] at ht
  rw [(h1 t ht).1, (h1 t ht).2]
  exact h.2 t ht
theorem c_number {E : EV} {M : Nat} {I J : Nat → Nat → Int} {C : CS} {hs : HS} (i : Nat) (hM : 71 ≤ M) (hR : RI I 60 C) (hRB : RB hs C) (hA : zA hs ≤ 6) (hi : i < C 0 0) : FnF E mdX0_number 2 M Rf [vr E 56, vi (i : Int)] I J (some (vi ((2 * C 1 i + C 2 i : Nat) : Int))) I J := by
  have hb := hRB.2 i hi
  refine FnQ.of (by decide +kernel) (Nat.le_of_ble_eq_true rfl) ?_
  show GM E mdX0_number 2 M Rf _ I J 0 [some (vr E 56), some (vi (i : Int))] []
  refine G_iconst (pc := 0) dX0_number_0 ?_
  refine G_aload_n (pc := 1) dX0_number_1 rfl ?_
  refine G_getr (pc := 2) dX0_number_2 fiX0_18 (by first | rfl | assumption) (by omega) (by first | rfl | assumption) ?_
  refine G_iload_n (pc := 5) dX0_number_5 rfl ?_
  refine G_callV1 (pc := 6) (md := mdX7_ask) (av := [_]) dX0_number_6 lkX0_38 mwX7_ask (c_Rask 60 i (by unfold isRow; omega) hM hR hRB.1 hi) rfl (by first | rfl | assumption) (by omega) rfl rfl (Nat.le_of_ble_eq_true rfl) (by decide) ⟨Nat.zero_le _, Nat.zero_le _⟩ ?_
  refine G_imul (pc := 9) dX0_number_9 ?_
  refine G_aload_n (pc := 10) dX0_number_10 rfl ?_
  refine G_getr (pc := 11) dX0_number_11 fiX0_18 (by first | rfl | assumption) (by omega) (by first | rfl | assumption) ?_
  refine G_iload_n (pc := 14) dX0_number_14 rfl ?_
  refine G_callV1 (pc := 15) (md := mdX7_keepsDoers) (av := [_]) dX0_number_15 lkX0_42 mwX7_keepsDoers (c_Rkeeps 60 i (by unfold isRow; omega) hM hR hRB.1 hi hb.2) rfl (by first | rfl | assumption) (by omega) rfl rfl (Nat.le_of_ble_eq_true rfl) (by decide) ⟨Nat.zero_le _, Nat.zero_le _⟩ ?_
  refine G_if_eq (pc := 18) (tgt := 25) dX0_number_18 bI_R (by decide) (fun h_18 => ?_) (fun h_18 => ?_)
  · try simp only [bI_eq0, bI_ne0] at h_18
    refine G_iconst (pc := 25) dX0_number_25 ?_
    refine G_iadd (pc := 26) dX0_number_26 ?_
    refine G_iret (pc := 27) dX0_number_27 rfl ?_
    exact ⟨by (first | rw [show C 2 i = 0 by omega] | rw [show C 2 i = 1 by omega]); simp [Int.natCast_add, Int.natCast_mul], rfl, rfl⟩
  · try simp only [bI_eq0, bI_ne0] at h_18
    refine G_iconst (pc := 21) dX0_number_21 ?_
    refine G_goto (pc := 22) (tgt := 26) dX0_number_22 (by decide) ?_
    refine G_iadd (pc := 26) dX0_number_26 ?_
    refine G_iret (pc := 27) dX0_number_27 rfl ?_
    exact ⟨by (first | rw [show C 2 i = 0 by omega] | rw [show C 2 i = 1 by omega]); simp [Int.natCast_add, Int.natCast_mul], rfl, rfl⟩
theorem c_renew {E : EV} {M : Nat} {I J : Nat → Nat → Int} (hM : 71 ≤ M) : FnF E mdX0_renew 0 M Rf [vr E 56] I J none (wr I 56 4 0) J := by
  refine FnQ.of (by decide +kernel) (Nat.le_of_ble_eq_true rfl) ?_
  show GM E mdX0_renew 0 M Rf _ I J 0 [some (vr E 56)] []
  refine G_aload_n (pc := 0) dX0_renew_0 rfl ?_
  refine G_iconst (pc := 1) dX0_renew_1 ?_
  refine G_puti (pc := 2) dX0_renew_2 fiX0_34 (by first | rfl | assumption) (by omega) ?_
  refine G_vret (pc := 5) dX0_renew_5 rfl ?_
  exact ⟨rfl, rfl, rfl⟩
theorem c_weigh {E : EV} {M : Nat} {I J : Nat → Nat → Int} {hs : HS} {C : CS} (c : Nat) (most : Int) (hM : 71 ≤ M) (hH : HI I 3 hs) (hB : HB hs) (hR : RI I 57 C) (hRB : RB hs C) (hc : I 56 6 = c) (hc12 : c ≤ 12) (hmo : I 56 7 = most) (hmr : -4 ≤ most ∧ most ≤ 1000000) : FnQ E mdX0_weigh 4 M Rf [vr E 56] I J (fun v I' J' => v = none ∧ Off J J' 64 65 ∧ Off I I' 56 62 ∧ I' 56 4 = I 56 4 ∧ I' 56 5 = I 56 5 ∧ I' 56 6 = c ∧ ((most < (od hs C c : Int) ∧ I' 56 7 = (od hs C c : Int) ∧ RI I' 60 C) ∨ (¬ most < (od hs C c : Int) ∧ I' = I))) := by
  have ho := od_le hB C c
  refine FnQ.of (by decide +kernel) (Nat.le_of_ble_eq_true rfl) ?_
  show GM E mdX0_weigh 4 M Rf _ I J 0 [some (vr E 56), none] []
  refine G_aload_n (pc := 0) dX0_weigh_0 rfl ?_
  refine G_getr (pc := 1) dX0_weigh_1 fiX0_30 (by first | rfl | assumption) (by omega) (by first | rfl | assumption) ?_
  refine G_aload_n (pc := 4) dX0_weigh_4 rfl ?_
  refine G_getr (pc := 5) dX0_weigh_5 fiX0_12 (by first | rfl | assumption) (by omega) (by first | rfl | assumption) ?_
  refine G_callV0 (pc := 8) (md := mdX8_pass) (av := [_]) dX0_weigh_8 lkX0_75 mwX8_pass (c_pass 63 57 (Or.inr rfl) (by unfold isRow; omega) hM hH hB hR hRB) rfl (by first | rfl | assumption) (by omega) rfl rfl (Nat.le_of_ble_eq_true rfl) (by decide) ⟨Nat.zero_le _, Nat.zero_le _⟩ ?_
  refine G_aload_n (pc := 11) dX0_weigh_11 rfl ?_
  refine G_getr (pc := 12) dX0_weigh_12 fiX0_30 (by first | rfl | assumption) (by omega) (by first | rfl | assumption) ?_
  refine G_aload_n (pc := 15) dX0_weigh_15 rfl ?_
  refine G_geti (pc := 16) dX0_weigh_16 fiX0_49 (by first | rfl | assumption) (by omega) ?_
  rw [hc]
  refine G_callV1 (pc := 19) (md := mdX8_chance) (av := [_]) dX0_weigh_19 lkX0_79 mwX8_chance (c_chance 63 c (Or.inr rfl) hM hH hB hc12 (fun s hs' => seJ_s hs') (fun s _ => lf_le hs C s)) rfl (by first | rfl | assumption) (by omega) rfl rfl (Nat.le_of_ble_eq_true rfl) (by decide) ⟨Nat.zero_le _, Nat.zero_le _⟩ ?_
  rw [show wS hs (lf hs C) (zS hs) c = od hs C c from rfl]
  refine G_istore_n (pc := 22) (lv' := [_, _]) dX0_weigh_22 (by decide) rfl ?_
  refine G_iload_n (pc := 23) dX0_weigh_23 rfl ?_
  refine G_aload_n (pc := 24) dX0_weigh_24 rfl ?_
  refine G_geti (pc := 25) dX0_weigh_25 fiX0_52 (by first | rfl | assumption) (by omega) ?_
  refine G_icmp_le (pc := 28) (tgt := 47) dX0_weigh_28 (Ri.mk (by omega) (by omega)) (Ri.mk (by omega) (by omega)) (by decide) (fun h_28 => ?_) (fun h_28 => ?_)
  · refine G_vret (pc := 47) dX0_weigh_47 rfl ?_
    exact ⟨rfl, fun q hq => by simp (disch := omega) only [seJ_o], Off.rfl, rfl, rfl, hc, Or.inr ⟨by omega, rfl⟩⟩
  · refine G_aload_n (pc := 31) dX0_weigh_31 rfl ?_
    refine G_iload_n (pc := 32) dX0_weigh_32 rfl ?_
    refine G_puti (pc := 33) dX0_weigh_33 fiX0_52 (by first | rfl | assumption) (by omega) ?_
    refine G_aload_n (pc := 36) dX0_weigh_36 rfl ?_
    refine G_getr (pc := 37) dX0_weigh_37 fiX0_18 (by first | rfl | assumption) (by omega) (by first | rfl | assumption) ?_
    refine G_aload_n (pc := 40) dX0_weigh_40 rfl ?_
    refine G_getr (pc := 41) dX0_weigh_41 fiX0_12 (by first | rfl | assumption) (by omega) (by first | rfl | assumption) ?_
    refine G_callV (pc := 44) (md := mdX7_copy) (av := [_]) dX0_weigh_44 lkX0_81 mwX7_copy (c_Rcopy 60 57 (by unfold isRow; omega) (by unfold isRow; omega) (by omega) hM (hR.off fun q h1 h2 => wr_o (by omega)) hRB.1) rfl (by first | rfl | assumption) (by omega) rfl rfl (Nat.le_of_ble_eq_true rfl) (by decide) ⟨Nat.zero_le _, Nat.zero_le _⟩ ?_
    rintro v I1 J1 ⟨rfl, rfl, hR1, hO1⟩
    refine G_vret (pc := 47) dX0_weigh_47 rfl ?_
    refine ⟨rfl, fun q hq => by simp (disch := omega) only [seJ_o], fun q hq => by rw [hO1 q (by omega), wr_o (by omega)], ?_, ?_, ?_, Or.inl ⟨by omega, ?_, hR1⟩⟩
    · rw [hO1 56 (by omega), wr_n (by decide)]
    · rw [hO1 56 (by omega), wr_n (by decide)]
    · rw [hO1 56 (by omega), wr_n (by decide), hc]
    · rw [hO1 56 (by omega), wr_s]
def cdP (B n code k : Nat) : CS := fun i x => if i = 0 then k else cdC B n code i x
theorem c_tryRow {E : EV} {M : Nat} {I J : Nat → Nat → Int} {hs : HS} (n m code : Nat) (hM : 71 ≤ M) (hH : HI I 3 hs) (hB : HB hs) (hA : 0 < zA hs) (hn : 1 ≤ n ∧ n ≤ 3) (h4 : I 56 4 = n) (h5 : I 56 5 = m) (hm : m ≤ 90) (hcode : code ≤ 2000) : FnQ E mdX0_tryRow 2 M Rf [vr E 56, vi (code : Int)] I J (fun v I' J' => J' = J ∧ Off I I' 57 59 ∧ ((srt (2 * zA hs) n code ∧ v = some (vi (bI (mns hs n code ≤ m))) ∧ RI I' 57 (cdC (2 * zA hs) n code)) ∨ (¬ srt (2 * zA hs) n code ∧ v = some (vi 0)))) := by
  have bA := hB.2.1
  have v9 : I 3 9 = (zA hs : Int) := hH.2.2 9 (by omega) (by omega)
  obtain ⟨B, hBd⟩ : ∃ B, B = 2 * zA hs := ⟨_, rfl⟩
  have hB12 : 2 ≤ B ∧ B ≤ 12 := by omega
  rw [← hBd]
  have hpow : ∀ k, k ≤ 2 → B ^ k ≤ 144 := fun k hk => by
    have h1 : B ^ k ≤ 12 ^ k := Nat.pow_le_pow_left hB12.2 k
    have h2 : 12 ^ k ≤ 12 ^ 2 := Nat.pow_le_pow_right (by decide) hk
    omega
  have hpos : ∀ k, 1 ≤ B ^ k := fun k => Nat.pow_pos (by omega)
  have hm7 : ∀ k, hs 7 (dgB B n code k / 2) ≤ 30 := fun k => by
    have := dgB_lt (B := B) (n := n) (code := code) (k := k) (by omega)
    exact (hB.2.2.2.2.2.1 _ (by omega)).2.2.2.2
  have hmnd : mns hs n code = sumN (fun k => hs 7 (dgB B n code k / 2)) n := by unfold mns; rw [hBd]
  refine FnQ.of (by decide +kernel) (Nat.le_of_ble_eq_true rfl) ?_
  show GM E mdX0_tryRow 2 M Rf _ I J 0 [some (vr E 56), some (vi (code : Int)), none, none, none, none, none, none] []
  generalize hQ : (fun (v : Option Value) (I' J' : Nat → Nat → Int) => J' = J ∧ Off I I' 57 59 ∧ ((srt B n code ∧ v = some (vi (bI (mns hs n code ≤ m))) ∧ RI I' 57 (cdC B n code)) ∨ (¬ srt B n code ∧ v = some (vi 0)))) = Q
  have loop2 : ∀ (r k un be tg : Nat) (I' : Nat → Nat → Int) (e1 : Option Value), k + r = n → (k < n → un = B ^ (n - 1 - k)) → un ≤ 144 → (k = 0 → be = 0) → (0 < k → be = dgB B n code (k - 1)) → tg = sumN (fun k => hs 7 (dgB B n code k / 2)) k → (∀ j, j + 1 < k → dgB B n code j ≤ dgB B n code (j + 1)) → Off I I' 57 59 → RI I' 57 (cdP B n code k) → GM E mdX0_tryRow 2 M Rf Q I' J 51 [some (vr E 56), some (vi (code : Int)), some (vi (B : Int)), some (vi (un : Int)), some (vi (be : Int)), some (vi (tg : Int)), some (vi (k : Int)), e1] [] := by
    intro r
    induction r with
    | zero =>
      intro k un be tg I' e1 hk hun hun2 hb0 hb1 htg hso hO hR
      have hk : k = n := by omega
      subst hk
      have h4' : I' 56 4 = k := by rw [hO 56 (by omega)]; exact h4
      have h5' : I' 56 5 = m := by rw [hO 56 (by omega)]; exact h5
      have htl : tg ≤ k * 30 := by rw [htg]; exact sumN_le fun i _ => hm7 i
      rw [← hmnd] at htg
      refine G_iload (pc := 51) dX0_tryRow_51 rfl ?_
      refine G_aload_n (pc := 53) dX0_tryRow_53 rfl ?_
      refine G_geti (pc := 54) dX0_tryRow_54 fiX0_34 (by first | rfl | assumption) (by omega) ?_
      refine G_icmp_ge (pc := 57) (tgt := 130) dX0_tryRow_57 (Ri.mk (by omega) (by omega)) (Ri.mk (by omega) (by omega)) (by decide) (fun h_57 => ?_) (fun h_57 => ?_)
      · refine G_iload (pc := 130) dX0_tryRow_130 rfl ?_
        refine G_aload_n (pc := 132) dX0_tryRow_132 rfl ?_
        refine G_geti (pc := 133) dX0_tryRow_133 fiX0_46 (by first | rfl | assumption) (by omega) ?_
        refine G_icmp_gt (pc := 136) (tgt := 143) dX0_tryRow_136 (Ri.mk (by omega) (by omega)) (Ri.mk (by omega) (by omega)) (by decide) (fun h_136 => ?_) (fun h_136 => ?_)
        · refine G_iconst (pc := 143) dX0_tryRow_143 ?_
          refine G_zret (pc := 144) dX0_tryRow_144 rfl (by omega) ?_
          rw [← hQ]; exact ⟨rfl, hO, Or.inl ⟨hso, by first | rw [bI_t (by omega)] | rw [bI_f (by omega)], hR.congr rfl fun t ht => ⟨rfl, rfl⟩⟩⟩
        · refine G_iconst (pc := 139) dX0_tryRow_139 ?_
          refine G_goto (pc := 140) (tgt := 144) dX0_tryRow_140 (by decide) ?_
          refine G_zret (pc := 144) dX0_tryRow_144 rfl (by omega) ?_
          rw [← hQ]; exact ⟨rfl, hO, Or.inl ⟨hso, by first | rw [bI_t (by omega)] | rw [bI_f (by omega)], hR.congr rfl fun t ht => ⟨rfl, rfl⟩⟩⟩
      · exact absurd h_57 (by omega)
    | succ r ih =>
      intro k un be tg I' e1 hk hun hun2 hb0 hb1 htg hso hO hR
      have h4' : I' 56 4 = n := by rw [hO 56 (by omega)]; exact h4
      have hH' : HI I' 3 hs := hH.off fun q h1 h2 => hO q (by omega)
      have hun := hun (by omega)
      have hun1 := hpos (n - 1 - k)
      have hdl := dgB_lt (B := B) (n := n) (code := code) (k := k) (by omega)
      have hbe : be ≤ 12 := by
        rcases Nat.eq_zero_or_pos k with h | h
        · rw [hb0 h]; omega
        · rw [hb1 h]; have := dgB_lt (B := B) (n := n) (code := code) (k := k - 1) (by omega); omega
      have htl : tg ≤ k * 30 := by rw [htg]; exact sumN_le fun i _ => hm7 i
      obtain ⟨dd, hdd⟩ : ∃ d, d = dgB B n code k := ⟨_, rfl⟩
      rw [← hdd] at hdl
      obtain ⟨cu, hcud⟩ : ∃ c, c = code / un := ⟨_, rfl⟩
      have e71 : ((code : Int).tdiv (un : Int)) = (cu : Int) := by rw [hcud]; exact (Int.ofNat_tdiv _ _).symm
      have hcu : cu ≤ 2000 := by rw [hcud]; exact Nat.le_trans (Nat.div_le_self _ _) hcode
      have e72 : ((cu : Int).tmod (B : Int)) = (dd : Int) := by rw [← Int.ofNat_tmod, hdd, dgB, hcud, hun]
      refine G_iload (pc := 51) dX0_tryRow_51 rfl ?_
      refine G_aload_n (pc := 53) dX0_tryRow_53 rfl ?_
      refine G_geti (pc := 54) dX0_tryRow_54 fiX0_34 (by first | rfl | assumption) (by omega) ?_
      refine G_icmp_ge (pc := 57) (tgt := 130) dX0_tryRow_57 (Ri.mk (by omega) (by omega)) (Ri.mk (by omega) (by omega)) (by decide) (fun h_57 => ?_) (fun h_57 => ?_)
      · exact absurd h_57 (by omega)
      · refine G_iload_n (pc := 60) dX0_tryRow_60 rfl ?_
        refine G_if_le (pc := 61) (tgt := 130) dX0_tryRow_61 (Ri.mk (by omega) (by omega)) (by decide) (fun h_61 => ?_) (fun h_61 => ?_)
        · exact absurd h_61 (by omega)
        · refine G_iload_n (pc := 64) dX0_tryRow_64 rfl ?_
          refine G_if_le (pc := 65) (tgt := 130) dX0_tryRow_65 (Ri.mk (by omega) (by omega)) (by decide) (fun h_65 => ?_) (fun h_65 => ?_)
          · exact absurd h_65 (by omega)
          · refine G_iload_n (pc := 68) dX0_tryRow_68 rfl ?_
            refine G_iload_n (pc := 69) dX0_tryRow_69 rfl ?_
            refine G_idiv (pc := 70) dX0_tryRow_70 (Ri.mk (by omega) (by omega)) (Ri.mk (by omega) (by omega)) (by omega) ?_
            rw [e71]
            refine G_iload_n (pc := 71) dX0_tryRow_71 rfl ?_
            refine G_irem (pc := 72) dX0_tryRow_72 (Ri.mk (by omega) (by omega)) (Ri.mk (by omega) (by omega)) (by omega) ?_
            refine G_istore (pc := 73) (lv' := [_, _, _, _, _, _, _, _]) dX0_tryRow_73 (by decide) rfl ?_
            rw [e72]
            refine G_iload (pc := 75) dX0_tryRow_75 rfl ?_
            refine G_iload (pc := 77) dX0_tryRow_77 rfl ?_
            refine G_icmp_ge (pc := 79) (tgt := 84) dX0_tryRow_79 (Ri.mk (by omega) (by omega)) (Ri.mk (by omega) (by omega)) (by decide) (fun h_79 => ?_) (fun h_79 => ?_)
            · refine G_aload_n (pc := 84) dX0_tryRow_84 rfl ?_
              refine G_getr (pc := 85) dX0_tryRow_85 fiX0_12 (by first | rfl | assumption) (by omega) (by first | rfl | assumption) ?_
              refine G_iload (pc := 88) dX0_tryRow_88 rfl ?_
              refine G_iconst (pc := 90) dX0_tryRow_90 ?_
              refine G_idiv (pc := 91) dX0_tryRow_91 (Ri.mk (by omega) (by omega)) (Ri.mk (by omega) (by omega)) (by omega) ?_
              refine G_iload (pc := 92) dX0_tryRow_92 rfl ?_
              refine G_iconst (pc := 94) dX0_tryRow_94 ?_
              refine G_irem (pc := 95) dX0_tryRow_95 (Ri.mk (by omega) (by omega)) (Ri.mk (by omega) (by omega)) (by omega) ?_
              refine G_callV (pc := 96) (md := mdX7_add) (av := [_, _]) dX0_tryRow_96 lkX0_69 mwX7_add (FnQ.av (by rfl) (c_Radd 57 (dd / 2) (dd % 2) (by unfold isRow; omega) hM hR (show k ≤ 8 by omega))) rfl (by first | rfl | assumption) (by omega) rfl rfl (Nat.le_of_ble_eq_true rfl) (by decide) ⟨Nat.zero_le _, Nat.zero_le _⟩ ?_
              rintro v I1 J1 ⟨rfl, hv⟩
              rcases hv.symm with ⟨h8, -⟩ | ⟨-, rfl, hR1, hO1⟩
              · exact absurd (show k = 8 from h8) (by omega)
              have hH1 : HI I1 3 hs := hH'.off fun q h1 h2 => hO1 q (by omega)
              refine G_pop (pc := 99) dX0_tryRow_99 rfl ?_
              refine G_iload (pc := 100) dX0_tryRow_100 rfl ?_
              refine G_aload_n (pc := 102) dX0_tryRow_102 rfl ?_
              refine G_getr (pc := 103) dX0_tryRow_103 fiX0_21 (by first | rfl | assumption) (by omega) (by first | rfl | assumption) ?_
              refine G_iload (pc := 106) dX0_tryRow_106 rfl ?_
              refine G_iconst (pc := 108) dX0_tryRow_108 ?_
              refine G_idiv (pc := 109) dX0_tryRow_109 (Ri.mk (by omega) (by omega)) (Ri.mk (by omega) (by omega)) (by omega) ?_
              refine G_callV1 (pc := 110) (md := mdX4_length) (av := [_]) dX0_tryRow_110 lkX0_73 mwX4_length (FnQ.av (by rfl) (c_length 3 (dd / 2) (Or.inl rfl) hM hH1 hB (by omega))) rfl (by first | rfl | assumption) (by omega) rfl rfl (Nat.le_of_ble_eq_true rfl) (by decide) ⟨Nat.zero_le _, Nat.zero_le _⟩ ?_
              refine G_iadd (pc := 113) dX0_tryRow_113 ?_
              refine G_istore (pc := 114) (lv' := [_, _, _, _, _, _, _, _]) dX0_tryRow_114 (by decide) rfl ?_
              refine G_iload (pc := 116) dX0_tryRow_116 rfl ?_
              refine G_istore (pc := 118) (lv' := [_, _, _, _, _, _, _, _]) dX0_tryRow_118 (by decide) rfl ?_
              refine G_iload_n (pc := 120) dX0_tryRow_120 rfl ?_
              refine G_iload_n (pc := 121) dX0_tryRow_121 rfl ?_
              refine G_idiv (pc := 122) dX0_tryRow_122 (Ri.mk (by omega) (by omega)) (Ri.mk (by omega) (by omega)) (by omega) ?_
              refine G_istore_n (pc := 123) (lv' := [_, _, _, _, _, _, _, _]) dX0_tryRow_123 (by decide) rfl ?_
              refine G_iinc (pc := 124) (lv' := [_, _, _, _, _, _, _, _]) dX0_tryRow_124 (by decide) rfl rfl ?_
              refine G_goto (pc := 127) (tgt := 51) dX0_tryRow_127 (by decide) ?_
              refine G_eq rfl rfl ?_ rfl (ih (k + 1) (un / B) dd (tg + hs 7 (dd / 2)) I1 (some (vi (dd : Int))) (by omega) (fun hk1 => ?_) (Nat.le_trans (Nat.div_le_self _ _) hun2) (fun h => absurd h (by omega)) (fun _ => by rw [hdd]; rfl) (by rw [sumN, htg, hdd]) (fun j hj => ?_) (hO.trans (hO1.mono (by omega) (by omega))) (hR1.congr rfl fun t ht => ?_))
              · rw [Int.natCast_add, Int.ofNat_tdiv]
                rfl
              · rw [hun, show n - 1 - k = (n - 1 - (k + 1)) + 1 by omega, Nat.pow_succ, Nat.mul_div_cancel _ (by omega)]
              · rcases Nat.lt_or_ge (j + 1) k with h | h
                · exact hso j h
                · have e : j + 1 = k := by omega
                  have h1 := hb1 (by omega)
                  rw [show k - 1 = j by omega] at h1
                  rw [e, ← hdd, ← h1]; omega
              · have ht : t < k + 1 := ht
                by_cases e : t = k
                · subst e; simp [addR, cdP, cdC, hdd]
                · simp [addR, cdP, cdC, e]
            · refine G_iconst (pc := 82) dX0_tryRow_82 ?_
              refine G_zret (pc := 83) dX0_tryRow_83 rfl (by omega) ?_
              rw [← hQ]
              refine ⟨rfl, hO, Or.inr ⟨fun hs2 => ?_, rfl⟩⟩
              rcases Nat.eq_zero_or_pos k with h | h
              · have := hb0 h; omega
              · have h1 := hb1 h
                have h2 := hs2 (k - 1) (by omega)
                rw [show k - 1 + 1 = k by omega, ← h1, ← hdd] at h2
                omega
  have loop1 : ∀ (r j : Nat) (x : Nat), j + r = n - 1 → x = B ^ j → GM E mdX0_tryRow 2 M Rf Q I J 15 [some (vr E 56), some (vi (code : Int)), some (vi (B : Int)), some (vi (x : Int)), some (vi ((j + 1 : Nat) : Int)), none, none, none] [] := by
    intro r
    induction r with
    | zero =>
      intro j x hj hx
      refine G_iload (pc := 15) dX0_tryRow_15 rfl ?_
      refine G_aload_n (pc := 17) dX0_tryRow_17 rfl ?_
      refine G_geti (pc := 18) dX0_tryRow_18 fiX0_34 (by first | rfl | assumption) (by omega) ?_
      refine G_icmp_ge (pc := 21) (tgt := 34) dX0_tryRow_21 (Ri.mk (by omega) (by omega)) (Ri.mk (by omega) (by omega)) (by decide) (fun h_21 => ?_) (fun h_21 => ?_)
      · refine G_aload_n (pc := 34) dX0_tryRow_34 rfl ?_
        refine G_getr (pc := 35) dX0_tryRow_35 fiX0_12 (by first | rfl | assumption) (by omega) (by first | rfl | assumption) ?_
        refine G_iconst (pc := 38) dX0_tryRow_38 ?_
        refine G_puti (pc := 39) dX0_tryRow_39 fiX0_66 (by first | rfl | assumption) (by omega) ?_
        refine G_iconst (pc := 42) dX0_tryRow_42 ?_
        refine G_istore (pc := 43) (lv' := [_, _, _, _, _, _, _, _]) dX0_tryRow_43 (by decide) rfl ?_
        refine G_iconst (pc := 45) dX0_tryRow_45 ?_
        refine G_istore (pc := 46) (lv' := [_, _, _, _, _, _, _, _]) dX0_tryRow_46 (by decide) rfl ?_
        refine G_iconst (pc := 48) dX0_tryRow_48 ?_
        refine G_istore (pc := 49) (lv' := [_, _, _, _, _, _, _, _]) dX0_tryRow_49 (by decide) rfl ?_
        refine loop2 n 0 x 0 0 _ none (by omega) (fun _ => by rw [hx, show n - 1 - 0 = j by omega]) (by rw [hx]; exact hpow j (by omega)) (fun _ => rfl) (fun h => absurd h (by omega)) rfl (fun j hj => absurd hj (by omega)) (Off.rfl.set (by omega) (by omega)) ⟨wr_s, fun t ht => absurd ht (Nat.not_lt_zero _)⟩
      · exact absurd h_21 (by omega)
    | succ r ih =>
      intro j x hj hx
      have hxl : x ≤ 144 := by rw [hx]; exact hpow j (by omega)
      refine G_iload (pc := 15) dX0_tryRow_15 rfl ?_
      refine G_aload_n (pc := 17) dX0_tryRow_17 rfl ?_
      refine G_geti (pc := 18) dX0_tryRow_18 fiX0_34 (by first | rfl | assumption) (by omega) ?_
      refine G_icmp_ge (pc := 21) (tgt := 34) dX0_tryRow_21 (Ri.mk (by omega) (by omega)) (Ri.mk (by omega) (by omega)) (by decide) (fun h_21 => ?_) (fun h_21 => ?_)
      · exact absurd h_21 (by omega)
      · refine G_iload_n (pc := 24) dX0_tryRow_24 rfl ?_
        refine G_iload_n (pc := 25) dX0_tryRow_25 rfl ?_
        refine G_imul (pc := 26) dX0_tryRow_26 ?_
        refine G_istore_n (pc := 27) (lv' := [_, _, _, _, _, _, _, _]) dX0_tryRow_27 (by decide) rfl ?_
        refine G_iinc (pc := 28) (lv' := [_, _, _, _, _, _, _, _]) dX0_tryRow_28 (by decide) rfl rfl ?_
        refine G_goto (pc := 31) (tgt := 15) dX0_tryRow_31 (by decide) ?_
        refine G_eq rfl rfl ?_ rfl (ih (j + 1) (x * B) (by omega) (by rw [hx, Nat.pow_succ]))
        rw [Int.natCast_mul]; rfl
  refine G_iconst (pc := 0) dX0_tryRow_0 ?_
  refine G_aload_n (pc := 1) dX0_tryRow_1 rfl ?_
  refine G_getr (pc := 2) dX0_tryRow_2 fiX0_21 (by first | rfl | assumption) (by omega) (by first | rfl | assumption) ?_
  refine G_geti (pc := 5) dX0_tryRow_5 fiX0_55 (by first | rfl | assumption) (by omega) ?_
  refine G_imul (pc := 8) dX0_tryRow_8 ?_
  refine G_istore_n (pc := 9) (lv' := [_, _, _, _, _, _, _, _]) dX0_tryRow_9 (by decide) rfl ?_
  refine G_iconst (pc := 10) dX0_tryRow_10 ?_
  refine G_istore_n (pc := 11) (lv' := [_, _, _, _, _, _, _, _]) dX0_tryRow_11 (by decide) rfl ?_
  refine G_iconst (pc := 12) dX0_tryRow_12 ?_
  refine G_istore (pc := 13) (lv' := [_, _, _, _, _, _, _, _]) dX0_tryRow_13 (by decide) rfl ?_
  refine G_eq rfl rfl ?_ rfl (loop1 (n - 1) 0 1 (by omega) (by simp))
  rw [v9, hBd, Int.natCast_mul]; rfl
def ChI (I : Nat → Nat → Int) (hs : HS) (n m c : Nat) (k : Nat) : Prop := I 56 4 = n ∧ I 56 5 = m ∧ I 56 6 = c ∧ I 56 7 = (bsF hs n m c k).1 ∧ ((bsF hs n m c k).1 ≠ -4 → RI I 60 (cdC (2 * zA hs) n (bsF hs n m c k).2))
/-- what the chooser remembers is so -/
def MemI (I : Nat → Nat → Int) (hs : HS) : Prop := I 56 4 = 0 ∨ ∃ n m c : Nat, (1 ≤ n ∧ n ≤ 3) ∧ m ≤ 90 ∧ c ≤ 12 ∧ ChI I hs n m c ((2 * zA hs) ^ n)
theorem c_choose {E : EV} {M : Nat} {I J : Nat → Nat → Int} {hs : HS} (n m c : Nat) (hM : 71 ≤ M) (hH : HI I 3 hs) (hB : HB hs) (hA : 0 < zA hs) (hn : 1 ≤ n ∧ n ≤ 3) (hm : m ≤ 90) (hc : c ≤ 12) (hMem : MemI I hs) : FnQ E mdX0_choose 5 M Rf [vr E 56, vi (n : Int), vi (m : Int), vi (c : Int)] I J (fun v I' J' => v = none ∧ Off J J' 64 65 ∧ Off I I' 56 62 ∧ ChI I' hs n m c ((2 * zA hs) ^ n)) := by
  have bA := hB.2.1
  have hod : ∀ k, od hs (cdC (2 * zA hs) n k) c ≤ 1000000 := fun k => od_le hB _ _
  have hbr := bsF_R hs n m c hod
  obtain ⟨B, hBd⟩ : ∃ B, B = 2 * zA hs := ⟨_, rfl⟩
  have hB12 : 2 ≤ B ∧ B ≤ 12 := by omega
  have hpow : ∀ k, k ≤ 3 → B ^ k ≤ 1728 := fun k hk => by
    have h1 : B ^ k ≤ 12 ^ k := Nat.pow_le_pow_left hB12.2 k
    have h2 : 12 ^ k ≤ 12 ^ 3 := Nat.pow_le_pow_right (by decide) hk
    omega
  have hpn := hpow n hn.2
  have hmemR : -2147483648 ≤ I 56 4 ∧ I 56 4 ≤ 3 ∧ (I 56 4 = n → ∃ m' c' : Nat, m' ≤ 90 ∧ c' ≤ 12 ∧ ChI I hs n m' c' ((2 * zA hs) ^ n)) := by
    rcases hMem with h | ⟨n', m', c', h1, h2, h3, h4⟩
    · exact ⟨by omega, by omega, fun h5 => by omega⟩
    · have h5 := h4.1
      refine ⟨by omega, by omega, fun h6 => ?_⟩
      have e : n' = n := by omega
      subst e
      exact ⟨m', c', h2, h3, h4⟩
  have hcon : I 56 4 = n → -2147483648 ≤ I 56 5 ∧ I 56 5 ≤ 90 ∧ -2147483648 ≤ I 56 6 ∧ I 56 6 ≤ 12 ∧ (I 56 5 = m → I 56 6 = c → ChI I hs n m c ((2 * zA hs) ^ n)) := by
    intro h
    obtain ⟨m', c', h2, h3, h4⟩ := hmemR.2.2 h
    have h5 := h4.2.1
    have h6 := h4.2.2.1
    refine ⟨by omega, by omega, by omega, by omega, fun h7 h8 => ?_⟩
    have e1 : m' = m := by omega
    have e2 : c' = c := by omega
    subst e1; subst e2; exact h4
  refine FnQ.of (by decide +kernel) (Nat.le_of_ble_eq_true rfl) ?_
  show GM E mdX0_choose 5 M Rf _ I J 0 [some (vr E 56), some (vi (n : Int)), some (vi (m : Int)), some (vi (c : Int)), none, none] []
  generalize hQ : (fun (v : Option Value) (I' J' : Nat → Nat → Int) => v = none ∧ Off J J' 64 65 ∧ Off I I' 56 62 ∧ ChI I' hs n m c ((2 * zA hs) ^ n)) = Q
  have loop2 : ∀ (r k : Nat) (I' J' : Nat → Nat → Int), k + r = B ^ n → Off I I' 56 62 → Off J J' 64 65 → ChI I' hs n m c k → GM E mdX0_choose 5 M Rf Q I' J' 81 [some (vr E 56), some (vi (n : Int)), some (vi (m : Int)), some (vi (c : Int)), some (vi ((B ^ n : Nat) : Int)), some (vi (k : Int))] [] := by
    intro r
    induction r with
    | zero =>
      intro k I' J' hk hO hOJ hC
      have hk : k = B ^ n := by omega
      subst hk
      refine G_iload (pc := 81) dX0_choose_81 rfl ?_
      refine G_iload (pc := 83) dX0_choose_83 rfl ?_
      refine G_icmp_ge (pc := 85) (tgt := 107) dX0_choose_85 (Ri.mk (by omega) (by omega)) (Ri.mk (by omega) (by omega)) (by decide) (fun h_85 => ?_) (fun h_85 => ?_)
      · refine G_vret (pc := 107) dX0_choose_107 rfl ?_
        rw [← hQ]; refine ⟨rfl, hOJ, hO, ?_⟩; rw [← hBd]; exact hC
      · exact absurd h_85 (by omega)
    | succ r ih =>
      intro k I' J' hk hO hOJ hC
      have hH' : HI I' 3 hs := hH.off fun q h1 h2 => hO q (by omega)
      refine G_iload (pc := 81) dX0_choose_81 rfl ?_
      refine G_iload (pc := 83) dX0_choose_83 rfl ?_
      refine G_icmp_ge (pc := 85) (tgt := 107) dX0_choose_85 (Ri.mk (by omega) (by omega)) (Ri.mk (by omega) (by omega)) (by decide) (fun hb => ?_) (fun hb => ?_)
      · exact absurd hb (by omega)
      refine G_aload_n (pc := 88) dX0_choose_88 rfl ?_
      refine G_iload (pc := 89) dX0_choose_89 rfl ?_
      refine G_callV (pc := 91) (md := mdX0_tryRow) (av := [_]) dX0_choose_91 lkX0_60 mwX0_tryRow (c_tryRow n m k hM hH' hB hA hn hC.1 hC.2.1 hm (by omega)) rfl (by first | rfl | assumption) (by omega) rfl rfl (Nat.le_of_ble_eq_true rfl) (by decide) ⟨Nat.zero_le _, Nat.zero_le _⟩ ?_
      rintro v I1 J1 ⟨rfl, hO1, hv⟩
      have hC1 : ChI I1 hs n m c k := ⟨by rw [hO1 56 (by omega)]; exact hC.1, by rw [hO1 56 (by omega)]; exact hC.2.1, by rw [hO1 56 (by omega)]; exact hC.2.2.1, by rw [hO1 56 (by omega)]; exact hC.2.2.2.1, fun h => (hC.2.2.2.2 h).off fun q h1 h2 => hO1 q (by omega)⟩
      have hO2 : Off I I1 56 62 := hO.trans (hO1.mono (by omega) (by omega))
      have hH1 : HI I1 3 hs := hH.off fun q h1 h2 => hO2 q (by omega)
      rcases hv with ⟨hso, rfl, hR1⟩ | ⟨hso, rfl⟩
      · skip
        refine G_if_eq (pc := 94) (tgt := 101) dX0_choose_94 bI_R (by decide) (fun h_94 => ?_) (fun h_94 => ?_)
        · try simp only [bI_eq0, bI_ne0] at h_94
          refine G_iinc (pc := 101) (lv' := [_, _, _, _, _, _]) dX0_choose_101 (by decide) rfl rfl ?_
          refine G_goto (pc := 104) (tgt := 81) dX0_choose_104 (by decide) ?_
          first
            | (refine ih (k + 1) _ _ (by omega) hO2 hOJ ?_
               unfold ChI at hC1 ⊢
               rw [bsF, if_neg (by omega)]
               exact hC1)
            | (refine ih (k + 1) _ _ (by omega) (hO2.trans hO3) (hOJ.trans hOJ2) ?_
               unfold ChI at hC1 ⊢
               rcases hw with ⟨w1, w2, w3⟩ | ⟨w1, rfl⟩
               · rw [bsF, if_pos ⟨by omega, w1⟩]
                 exact ⟨by rw [g4]; exact hC1.1, by rw [g5]; exact hC1.2.1, g6, w2, fun _ => w3⟩
               · rw [bsF, if_neg (fun z => w1 z.2)]
                 exact hC1)
        · try simp only [bI_eq0, bI_ne0] at h_94
          refine G_aload_n (pc := 97) dX0_choose_97 rfl ?_
          refine G_callV (pc := 98) (md := mdX0_weigh) (av := []) dX0_choose_98 lkX0_63 mwX0_weigh (c_weigh c _ hM hH1 hB hR1 (cdC_B hA (by omega)) hC1.2.2.1 hc hC1.2.2.2.1 (hbr k)) rfl (by first | rfl | assumption) (by omega) rfl rfl (Nat.le_of_ble_eq_true rfl) (by decide) ⟨Nat.zero_le _, Nat.zero_le _⟩ ?_
          rintro v I2 J2 ⟨rfl, hOJ2, hO3, g4, g5, g6, hw⟩
          refine G_iinc (pc := 101) (lv' := [_, _, _, _, _, _]) dX0_choose_101 (by decide) rfl rfl ?_
          refine G_goto (pc := 104) (tgt := 81) dX0_choose_104 (by decide) ?_
          first
            | (refine ih (k + 1) _ _ (by omega) hO2 hOJ ?_
               unfold ChI at hC1 ⊢
               rw [bsF, if_neg (by omega)]
               exact hC1)
            | (refine ih (k + 1) _ _ (by omega) (hO2.trans hO3) (hOJ.trans hOJ2) ?_
               unfold ChI at hC1 ⊢
               rcases hw with ⟨w1, w2, w3⟩ | ⟨w1, rfl⟩
               · rw [bsF, if_pos ⟨by omega, w1⟩]
                 exact ⟨by rw [g4]; exact hC1.1, by rw [g5]; exact hC1.2.1, g6, w2, fun _ => w3⟩
               · rw [bsF, if_neg (fun z => w1 z.2)]
                 exact hC1)
      · skip
        refine G_if_eq (pc := 94) (tgt := 101) dX0_choose_94 (Ri.mk (by omega) (by omega)) (by decide) (fun h_94 => ?_) (fun h_94 => ?_)
        · try simp only [bI_eq0, bI_ne0] at h_94
          refine G_iinc (pc := 101) (lv' := [_, _, _, _, _, _]) dX0_choose_101 (by decide) rfl rfl ?_
          refine G_goto (pc := 104) (tgt := 81) dX0_choose_104 (by decide) ?_
          refine ih (k + 1) _ _ (by omega) hO2 hOJ ?_
          unfold ChI at hC1 ⊢
          rw [bsF_uns hn (by rw [← hBd]; omega) hso]
          exact hC1
        · exact absurd rfl h_94
  have v9 : ∀ I' : Nat → Nat → Int, Off I I' 56 62 → I' 3 9 = (zA hs : Int) := fun I' hO => by rw [hO 3 (by omega)]; exact hH.2.2 9 (by omega) (by omega)
  have loop1 : ∀ (r j x : Nat) (I' : Nat → Nat → Int), j + r = n → x = B ^ j → Off I I' 56 62 → ChI I' hs n m c 0 → GM E mdX0_choose 5 M Rf Q I' J 52 [some (vr E 56), some (vi (n : Int)), some (vi (m : Int)), some (vi (c : Int)), some (vi (x : Int)), some (vi (j : Int))] [] := by
    intro r
    induction r with
    | zero =>
      intro j x I' hj hx hO hC
      have hj : j = n := by omega
      subst hj
      refine G_iload (pc := 52) dX0_choose_52 rfl ?_
      refine G_iload_n (pc := 54) dX0_choose_54 rfl ?_
      refine G_icmp_ge (pc := 55) (tgt := 78) dX0_choose_55 (Ri.mk (by omega) (by omega)) (Ri.mk (by omega) (by omega)) (by decide) (fun h_55 => ?_) (fun h_55 => ?_)
      · refine G_iconst (pc := 78) dX0_choose_78 ?_
        refine G_istore (pc := 79) (lv' := [_, _, _, _, _, _]) dX0_choose_79 (by decide) rfl ?_
        rw [hx]; exact loop2 (B ^ j) 0 _ _ (by omega) hO Off.rfl hC
      · exact absurd h_55 (by omega)
    | succ r ih =>
      intro j x I' hj hx hO hC
      have v9' := v9 I' hO
      have hxl : x ≤ 1728 := by rw [hx]; exact hpow j (by omega)
      refine G_iload (pc := 52) dX0_choose_52 rfl ?_
      refine G_iload_n (pc := 54) dX0_choose_54 rfl ?_
      refine G_icmp_ge (pc := 55) (tgt := 78) dX0_choose_55 (Ri.mk (by omega) (by omega)) (Ri.mk (by omega) (by omega)) (by decide) (fun h_55 => ?_) (fun h_55 => ?_)
      · exact absurd h_55 (by omega)
      · refine G_iload (pc := 58) dX0_choose_58 rfl ?_
        refine G_iconst (pc := 60) dX0_choose_60 ?_
        refine G_aload_n (pc := 61) dX0_choose_61 rfl ?_
        refine G_getr (pc := 62) dX0_choose_62 fiX0_21 (by first | rfl | assumption) (by omega) (by first | rfl | assumption) ?_
        refine G_geti (pc := 65) dX0_choose_65 fiX0_55 (by first | rfl | assumption) (by omega) ?_
        rw [v9']
        refine G_imul (pc := 68) dX0_choose_68 ?_
        refine G_imul (pc := 69) dX0_choose_69 ?_
        refine G_istore (pc := 70) (lv' := [_, _, _, _, _, _]) dX0_choose_70 (by decide) rfl ?_
        refine G_iinc (pc := 72) (lv' := [_, _, _, _, _, _]) dX0_choose_72 (by decide) rfl rfl ?_
        refine G_goto (pc := 75) (tgt := 52) dX0_choose_75 (by decide) ?_
        refine G_eq rfl rfl ?_ rfl (ih (j + 1) (x * B) _ (by omega) (by rw [hx, Nat.pow_succ]) hO hC)
        rw [hBd, Int.natCast_mul, Int.natCast_mul]; rfl
  refine G_aload_n (pc := 0) dX0_choose_0 rfl ?_
  refine G_geti (pc := 1) dX0_choose_1 fiX0_34 (by first | rfl | assumption) (by omega) ?_
  refine G_iload_n (pc := 4) dX0_choose_4 rfl ?_
  refine G_icmp_ne (pc := 5) (tgt := 25) dX0_choose_5 (Ri.mk (by omega) (by omega)) (Ri.mk (by omega) (by omega)) (by decide) (fun h_5 => ?_) (fun h_5 => ?_)
  · refine G_aload_n (pc := 25) dX0_choose_25 rfl ?_
    refine G_iload_n (pc := 26) dX0_choose_26 rfl ?_
    refine G_puti (pc := 27) dX0_choose_27 fiX0_34 (by first | rfl | assumption) (by omega) ?_
    refine G_aload_n (pc := 30) dX0_choose_30 rfl ?_
    refine G_iload_n (pc := 31) dX0_choose_31 rfl ?_
    refine G_puti (pc := 32) dX0_choose_32 fiX0_46 (by first | rfl | assumption) (by omega) ?_
    refine G_aload_n (pc := 35) dX0_choose_35 rfl ?_
    refine G_iload_n (pc := 36) dX0_choose_36 rfl ?_
    refine G_puti (pc := 37) dX0_choose_37 fiX0_49 (by first | rfl | assumption) (by omega) ?_
    refine G_aload_n (pc := 40) dX0_choose_40 rfl ?_
    refine G_bipush (pc := 41) dX0_choose_41 (by decide) ?_
    refine G_puti (pc := 43) dX0_choose_43 fiX0_52 (by first | rfl | assumption) (by omega) ?_
    refine G_iconst (pc := 46) dX0_choose_46 ?_
    refine G_istore (pc := 47) (lv' := [_, _, _, _, _, _]) dX0_choose_47 (by decide) rfl ?_
    refine G_iconst (pc := 49) dX0_choose_49 ?_
    refine G_istore (pc := 50) (lv' := [_, _, _, _, _, _]) dX0_choose_50 (by decide) rfl ?_
    refine loop1 n 0 1 _ (by omega) (by simp) (((( Off.rfl.set (by omega) (by omega)).set (by omega) (by omega)).set (by omega) (by omega)).set (by omega) (by omega)) ⟨?_, ?_, ?_, ?_, fun h => absurd rfl h⟩
    · simp [wr]
    · simp [wr]
    · simp [wr]
    · simp [wr, bsF]
  · refine G_aload_n (pc := 8) dX0_choose_8 rfl ?_
    refine G_geti (pc := 9) dX0_choose_9 fiX0_46 (by first | rfl | assumption) (by omega) ?_
    refine G_iload_n (pc := 12) dX0_choose_12 rfl ?_
    have hc5 := hcon h_5
    refine G_icmp_ne (pc := 13) (tgt := 25) dX0_choose_13 (Ri.mk (by omega) (by omega)) (Ri.mk (by omega) (by omega)) (by decide) (fun h_13 => ?_) (fun h_13 => ?_)
    · refine G_aload_n (pc := 25) dX0_choose_25 rfl ?_
      refine G_iload_n (pc := 26) dX0_choose_26 rfl ?_
      refine G_puti (pc := 27) dX0_choose_27 fiX0_34 (by first | rfl | assumption) (by omega) ?_
      refine G_aload_n (pc := 30) dX0_choose_30 rfl ?_
      refine G_iload_n (pc := 31) dX0_choose_31 rfl ?_
      refine G_puti (pc := 32) dX0_choose_32 fiX0_46 (by first | rfl | assumption) (by omega) ?_
      refine G_aload_n (pc := 35) dX0_choose_35 rfl ?_
      refine G_iload_n (pc := 36) dX0_choose_36 rfl ?_
      refine G_puti (pc := 37) dX0_choose_37 fiX0_49 (by first | rfl | assumption) (by omega) ?_
      refine G_aload_n (pc := 40) dX0_choose_40 rfl ?_
      refine G_bipush (pc := 41) dX0_choose_41 (by decide) ?_
      refine G_puti (pc := 43) dX0_choose_43 fiX0_52 (by first | rfl | assumption) (by omega) ?_
      refine G_iconst (pc := 46) dX0_choose_46 ?_
      refine G_istore (pc := 47) (lv' := [_, _, _, _, _, _]) dX0_choose_47 (by decide) rfl ?_
      refine G_iconst (pc := 49) dX0_choose_49 ?_
      refine G_istore (pc := 50) (lv' := [_, _, _, _, _, _]) dX0_choose_50 (by decide) rfl ?_
      refine loop1 n 0 1 _ (by omega) (by simp) (((( Off.rfl.set (by omega) (by omega)).set (by omega) (by omega)).set (by omega) (by omega)).set (by omega) (by omega)) ⟨?_, ?_, ?_, ?_, fun h => absurd rfl h⟩
      · simp [wr]
      · simp [wr]
      · simp [wr]
      · simp [wr, bsF]
    · refine G_aload_n (pc := 16) dX0_choose_16 rfl ?_
      refine G_geti (pc := 17) dX0_choose_17 fiX0_49 (by first | rfl | assumption) (by omega) ?_
      refine G_iload_n (pc := 20) dX0_choose_20 rfl ?_
      refine G_icmp_ne (pc := 21) (tgt := 25) dX0_choose_21 (Ri.mk (by omega) (by omega)) (Ri.mk (by omega) (by omega)) (by decide) (fun h_21 => ?_) (fun h_21 => ?_)
      · refine G_aload_n (pc := 25) dX0_choose_25 rfl ?_
        refine G_iload_n (pc := 26) dX0_choose_26 rfl ?_
        refine G_puti (pc := 27) dX0_choose_27 fiX0_34 (by first | rfl | assumption) (by omega) ?_
        refine G_aload_n (pc := 30) dX0_choose_30 rfl ?_
        refine G_iload_n (pc := 31) dX0_choose_31 rfl ?_
        refine G_puti (pc := 32) dX0_choose_32 fiX0_46 (by first | rfl | assumption) (by omega) ?_
        refine G_aload_n (pc := 35) dX0_choose_35 rfl ?_
        refine G_iload_n (pc := 36) dX0_choose_36 rfl ?_
        refine G_puti (pc := 37) dX0_choose_37 fiX0_49 (by first | rfl | assumption) (by omega) ?_
        refine G_aload_n (pc := 40) dX0_choose_40 rfl ?_
        refine G_bipush (pc := 41) dX0_choose_41 (by decide) ?_
        refine G_puti (pc := 43) dX0_choose_43 fiX0_52 (by first | rfl | assumption) (by omega) ?_
        refine G_iconst (pc := 46) dX0_choose_46 ?_
        refine G_istore (pc := 47) (lv' := [_, _, _, _, _, _]) dX0_choose_47 (by decide) rfl ?_
        refine G_iconst (pc := 49) dX0_choose_49 ?_
        refine G_istore (pc := 50) (lv' := [_, _, _, _, _, _]) dX0_choose_50 (by decide) rfl ?_
        refine loop1 n 0 1 _ (by omega) (by simp) (((( Off.rfl.set (by omega) (by omega)).set (by omega) (by omega)).set (by omega) (by omega)).set (by omega) (by omega)) ⟨?_, ?_, ?_, ?_, fun h => absurd rfl h⟩
        · simp [wr]
        · simp [wr]
        · simp [wr]
        · simp [wr, bsF]
      · refine G_vret (pc := 24) dX0_choose_24 rfl ?_
        rw [← hQ]; exact ⟨rfl, Off.rfl, Off.rfl, (hcon h_5).2.2.2.2 h_13 h_21⟩
