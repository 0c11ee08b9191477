/-! THE LAW'S NUMBERS: low, cell, people, draws -/
theorem and_nn (x : Int32) : 0 ≤ (x &&& Int32.ofInt 2147483647).toInt := by
  have h : (x &&& Int32.ofInt 2147483647).toBitVec.msb = false := by
    rw [Int32.toBitVec_and, BitVec.msb_and, show (Int32.ofInt 2147483647).toBitVec.msb = false by decide, Bool.and_false]
  rw [BitVec.msb_eq_toInt] at h
  have h2 := of_decide_eq_false h
  show 0 ≤ (x &&& Int32.ofInt 2147483647).toBitVec.toInt
  omega
theorem wr_nn {I : Nat → Nat → Int} {q j : Nat} {a : Int} (h : ∀ i, 0 ≤ I q i) (ha : 0 ≤ a) : ∀ i, 0 ≤ wr I q j a q i := by
  intro i
  by_cases e : i = j
  · subst e; rw [wr_s]; exact ha
  · rw [wr_n e]; exact h i
/-- the law's numbers while they are drawn -/
def fB0 (f : Nat → Int) : Prop := (∀ i, 0 ≤ f i) ∧ (1 ≤ f 0 ∧ f 0 ≤ 4) ∧ (1 ≤ f 1 ∧ f 1 ≤ 4) ∧ f 2 ≤ 4 ∧ f 3 ≤ 10 ∧ f 4 ≤ 99 ∧ f 5 ≤ 10
def fS0 (f : Nat → Int) (s : Nat) : Prop := ∀ k, k < s → (1 ≤ f (6 + 4 * k) ∧ f (6 + 4 * k) ≤ 20) ∧ f (6 + 4 * k + 1) ≤ 10 ∧ f (6 + 4 * k + 2) ≤ 10 ∧ f (6 + 4 * k + 3) ≤ 10
def fA0 (f : Nat → Int) (s : Nat) : Prop := ∀ k, k < s → f (22 + 4 * k) ≤ 10 ∧ f (22 + 4 * k + 1) ≤ 10 ∧ f (22 + 4 * k + 2) ≤ 10 ∧ 1 ≤ f (22 + 4 * k + 3) ∧ f (22 + 4 * k + 3) ≤ 30
def fT0 (f : Nat → Int) (s : Nat) : Prop := ∀ k, k < s → f (38 + 2 * k) < f 1 ∧ f (38 + 2 * k + 1) ≤ 1
theorem fB0.up {f g : Nat → Int} (h : fB0 f) (hg : ∀ i, i < 6 → g i = f i) (h0 : ∀ i, 0 ≤ g i) : fB0 g := by
  obtain ⟨-, h2⟩ := h
  refine ⟨h0, ?_⟩
  rw [hg 0 (by omega), hg 1 (by omega), hg 2 (by omega), hg 3 (by omega), hg 4 (by omega), hg 5 (by omega)]
  exact h2
theorem fS0.up {f g : Nat → Int} {s : Nat} (h : fS0 f s) (hs : s ≤ 4) (hg : ∀ i, i < 22 → g i = f i) : fS0 g s := by
  intro k hk
  rw [hg _ (by omega), hg _ (by omega), hg _ (by omega), hg _ (by omega)]
  exact h k hk
theorem fS0.add {f g : Nat → Int} {s : Nat} (h : fS0 f s) (hg : ∀ i, i < 6 + 4 * s → g i = f i) (h1 : (1 ≤ g (6 + 4 * s) ∧ g (6 + 4 * s) ≤ 20) ∧ g (6 + 4 * s + 1) ≤ 10 ∧ g (6 + 4 * s + 2) ≤ 10 ∧ g (6 + 4 * s + 3) ≤ 10) : fS0 g (s + 1) := by
  intro k hk
  by_cases e : k = s
  · subst e; exact h1
  · rw [hg _ (by omega), hg _ (by omega), hg _ (by omega), hg _ (by omega)]
    exact h k (by omega)
theorem fA0.up {f g : Nat → Int} {s : Nat} (h : fA0 f s) (hs : s ≤ 4) (hg : ∀ i, i < 38 → g i = f i) : fA0 g s := by
  intro k hk
  rw [hg _ (by omega), hg _ (by omega), hg _ (by omega), hg _ (by omega)]
  exact h k hk
theorem fA0.add {f g : Nat → Int} {s : Nat} (h : fA0 f s) (hg : ∀ i, i < 22 + 4 * s → g i = f i) (h1 : g (22 + 4 * s) ≤ 10 ∧ g (22 + 4 * s + 1) ≤ 10 ∧ g (22 + 4 * s + 2) ≤ 10 ∧ 1 ≤ g (22 + 4 * s + 3) ∧ g (22 + 4 * s + 3) ≤ 30) : fA0 g (s + 1) := by
  intro k hk
  by_cases e : k = s
  · subst e; exact h1
  · rw [hg _ (by omega), hg _ (by omega), hg _ (by omega), hg _ (by omega)]
    exact h k (by omega)
theorem fT0.add {f g : Nat → Int} {s : Nat} (h : fT0 f s) (hg : ∀ i, i < 38 + 2 * s → g i = f i) (h1 : g (38 + 2 * s) < f 1 ∧ g (38 + 2 * s + 1) ≤ 1) : fT0 g (s + 1) := by
  intro k hk
  rw [hg 1 (by omega)]
  by_cases e : k = s
  · subst e; exact h1
  · rw [hg _ (by omega), hg _ (by omega)]
    exact h k (by omega)
theorem f_end {I : Nat → Nat → Int} (h0 : fB0 (I 71)) (h1 : fS0 (I 71) (I 71 0).toNat) (h2 : fA0 (I 71) (I 71 1).toNat) (h3 : fT0 (I 71) (I 71 2).toNat) : ∃ o, DRo o ∧ OI I o := by
  obtain ⟨g, g0, g1, g2, g3, g4, g5⟩ := h0
  refine ⟨fun i => (I 71 i).toNat, ⟨show 1 ≤ (I 71 0).toNat ∧ (I 71 0).toNat ≤ 4 from by omega, show 1 ≤ (I 71 1).toNat ∧ (I 71 1).toNat ≤ 4 from by omega, show (I 71 2).toNat ≤ 4 from by omega, show (I 71 3).toNat ≤ 10 from by omega, show (I 71 4).toNat ≤ 99 from by omega, show (I 71 5).toNat ≤ 10 from by omega, fun k hk => ?_, fun k hk => ?_, fun k hk => ?_⟩, fun i _ => by rw [Int.toNat_of_nonneg (g i)]⟩
  · have := h1 k hk
    show (1 ≤ (I 71 (6 + 4 * k)).toNat ∧ (I 71 (6 + 4 * k)).toNat ≤ 20) ∧ (I 71 (6 + 4 * k + 1)).toNat ≤ 10 ∧ (I 71 (6 + 4 * k + 2)).toNat ≤ 10 ∧ (I 71 (6 + 4 * k + 3)).toNat ≤ 10
    omega
  · have := h2 k hk
    show (I 71 (22 + 4 * k)).toNat ≤ 10 ∧ (I 71 (22 + 4 * k + 1)).toNat ≤ 10 ∧ (I 71 (22 + 4 * k + 2)).toNat ≤ 10 ∧ 1 ≤ (I 71 (22 + 4 * k + 3)).toNat ∧ (I 71 (22 + 4 * k + 3)).toNat ≤ 30
    omega
  · have := h3 k hk
    have e := g (38 + 2 * k)
    show (I 71 (38 + 2 * k)).toNat < (I 71 1).toNat ∧ (I 71 (38 + 2 * k + 1)).toNat ≤ 1
    omega
abbrev QR (I J : Nat → Nat → Int) : Option Value → (Nat → Nat → Int) → (Nat → Nat → Int) → Prop := fun x I' J' => (∃ r : Int, x = some (vi r)) ∧ I' = I ∧ J' = J
abbrev QLo (n : Int) (I J : Nat → Nat → Int) : Option Value → (Nat → Nat → Int) → (Nat → Nat → Int) → Prop := fun x I' J' => (∃ r : Nat, (r : Int) < n ∧ x = some (vi r)) ∧ I' = I ∧ J' = J
abbrev QDr (I J : Nat → Nat → Int) : Option Value → (Nat → Nat → Int) → (Nat → Nat → Int) → Prop := fun x I' J' => x = none ∧ (∀ q, q ≠ 71 → I' q = I q) ∧ ∃ o, DRo o ∧ OI I' o
section DRAWS
variable {E : EV} {M b L : Nat} {xs : Nat → Int32} {I J : Nat → Nat → Int}
theorem c_low (v n : Int) (hn : 0 < n) (rn : Ri n) : FnQ E mdL_low 0 M Rf [vi v, vi n] I J (QLo n I J) := by
  refine FnQ.of (by decide +kernel) (Nat.le_of_ble_eq_true rfl) ?_
  show GM E mdL_low 0 M Rf _ I J 0 [some (vi v), some (vi n)] []
  refine G_iload_n (pc := 0) dL_low_0 rfl ?_
  refine G_ldc (pc := 1) dL_low_1 kiL_8 ?_
  refine G_iand (pc := 3) dL_low_3 ?_
  refine G_iload_n (pc := 4) dL_low_4 rfl ?_
  refine G_irem (pc := 5) dL_low_5 (Ri_toInt _) rn (by omega) ?_
  refine G_iret (pc := 6) dL_low_6 rfl ?_
  have h1 := and_nn (Int32.ofInt v)
  have h2 := Int.emod_lt_of_pos (Int32.ofInt v &&& Int32.ofInt 2147483647).toInt hn
  have h3 := Int.emod_nonneg (Int32.ofInt v &&& Int32.ofInt 2147483647).toInt (show n ≠ 0 by omega)
  refine ⟨⟨((Int32.ofInt v &&& Int32.ofInt 2147483647).toInt % n).toNat, by omega, ?_⟩, rfl, rfl⟩
  rw [Int.toNat_of_nonneg h3, Int.tmod_eq_emod_of_nonneg h1]
theorem c_cell (hL : L ≤ 260) (k : Int) (h0 : 0 ≤ k) (h1 : k ≤ 1000) : FnX E mdL_cell 0 M Rf b L xs [.ref b, vi k] I J (QR I J) := by
  refine FnX.of (by decide +kernel) (Nat.le_of_ble_eq_true rfl) ?_
  show GX E mdL_cell 0 M Rf b L xs _ I J 0 [some (.ref b), some (vi k)] []
  refine G_iload_n (pc := 0) dL_cell_0 rfl ?_
  refine G_aload_n (pc := 1) dL_cell_1 rfl ?_
  refine GX_slen (pc := 2) XSc.id dL_cell_2 ?_
  refine G_icmp_ge (pc := 3) (tgt := 12) dL_cell_3 (Ri.mk (by omega) (by omega)) (Ri.mk (by omega) (by omega)) (by decide) (fun h_3 => ?_) (fun h_3 => ?_)
  · refine G_ldc (pc := 12) dL_cell_12 kiL_7 ?_
    refine G_iload_n (pc := 14) dL_cell_14 rfl ?_
    refine G_iconst (pc := 15) dL_cell_15 ?_
    refine G_iadd (pc := 16) dL_cell_16 ?_
    refine G_imul (pc := 17) dL_cell_17 ?_
    refine G_iret (pc := 18) dL_cell_18 rfl ?_
    exact ⟨⟨_, rfl⟩, rfl, rfl⟩
  · refine G_aload_n (pc := 6) dL_cell_6 rfl ?_
    refine G_iload_n (pc := 7) dL_cell_7 rfl ?_
    refine GX_sld (pc := 8) XSc.id dL_cell_8 hL (by omega) (by omega) ?_
    refine G_goto (pc := 9) (tgt := 18) dL_cell_9 (by decide) ?_
    refine G_iret (pc := 18) dL_cell_18 rfl ?_
    exact ⟨⟨_, rfl⟩, rfl, rfl⟩
theorem c_people {o : Nat → Nat} (hM : 72 ≤ M) (hO : OI I o) (hD : DRo o) : FnQ E mdL_people 0 M Rf [vr E 71] I J (QF (some (vi (aP o (o 0) : Nat))) I J) := by
  refine FnQ.of (by decide +kernel) (Nat.le_of_ble_eq_true rfl) ?_
  show GM E mdL_people 0 M Rf _ I J 0 [some (vr E 71), none, none] []
  have h4 := hD.1.2
  have loop : ∀ (r t : Nat), t + r = o 0 → GM E mdL_people 0 M Rf (QF (some (vi (aP o (o 0) : Nat))) I J) I J 4 [some (vr E 71), some (vi (aP o t : Nat)), some (vi (t : Int))] [] := by
    intro r
    induction r with
    | zero =>
      intro t ht
      have e : t = o 0 := by omega
      subst e
      refine G_iload_n (pc := 4) dL_people_4 rfl ?_
      refine G_aload_n (pc := 5) dL_people_5 rfl ?_
      refine G_iconst (pc := 6) dL_people_6 ?_
      refine G_ialdv (pc := 7) dL_people_7 (by first | rfl | assumption) (by omega) (by omega) (by omega) (by omega) (hO 0 (by omega)) ?_
      refine G_icmp_ge (pc := 8) (tgt := 28) dL_people_8 (Ri.mk (by omega) (by omega)) (Ri.mk (by omega) (by omega)) (by decide) (fun h_8 => ?_) (fun h_8 => ?_)
      · refine G_iload_n (pc := 28) dL_people_28 rfl ?_
        refine G_iret (pc := 29) dL_people_29 rfl ?_
        exact ⟨rfl, rfl, rfl⟩
      · exact absurd h_8 (by omega)
    | succ r ih =>
      intro t ht
      refine G_iload_n (pc := 4) dL_people_4 rfl ?_
      refine G_aload_n (pc := 5) dL_people_5 rfl ?_
      refine G_iconst (pc := 6) dL_people_6 ?_
      refine G_ialdv (pc := 7) dL_people_7 (by first | rfl | assumption) (by omega) (by omega) (by omega) (by omega) (hO 0 (by omega)) ?_
      refine G_icmp_ge (pc := 8) (tgt := 28) dL_people_8 (Ri.mk (by omega) (by omega)) (Ri.mk (by omega) (by omega)) (by decide) (fun h_8 => ?_) (fun h_8 => ?_)
      · exact absurd h_8 (by omega)
      · refine G_iload_n (pc := 11) dL_people_11 rfl ?_
        refine G_aload_n (pc := 12) dL_people_12 rfl ?_
        refine G_bipush (pc := 13) dL_people_13 (by decide) ?_
        refine G_iconst (pc := 15) dL_people_15 ?_
        refine G_iload_n (pc := 16) dL_people_16 rfl ?_
        refine G_imul (pc := 17) dL_people_17 ?_
        refine G_iadd (pc := 18) dL_people_18 ?_
        refine G_ialdv (pc := 19) dL_people_19 (by first | rfl | assumption) (by omega) (by omega) (by omega) (by omega) (show I 71 (6 + 4 * (t : Int)).toNat = (o (6 + 4 * t) : Int) from by rw [show (6 + 4 * (t : Int)).toNat = 6 + 4 * t by omega]; exact hO _ (by omega)) ?_
        refine G_iadd (pc := 20) dL_people_20 ?_
        refine G_istore_n (pc := 21) (lv' := [_, _, _]) dL_people_21 (by decide) rfl ?_
        refine G_iinc (pc := 22) (lv' := [_, _, _]) dL_people_22 (by decide) rfl rfl ?_
        refine G_goto (pc := 25) (tgt := 4) dL_people_25 (by decide) ?_
        exact ih (t + 1) (by omega)
  refine G_iconst (pc := 0) dL_people_0 ?_
  refine G_istore_n (pc := 1) (lv' := [_, _, _]) dL_people_1 (by decide) rfl ?_
  refine G_iconst (pc := 2) dL_people_2 ?_
  refine G_istore_n (pc := 3) (lv' := [_, _, _]) dL_people_3 (by decide) rfl ?_
  exact loop (o 0) 0 (by omega)
theorem c_draws (hL : L ≤ 260) (hM : 72 ≤ M) (h0 : ∀ i, I 71 i = 0) : FnX E mdL_draws 3 M Rf b L xs [.ref b, vr E 71] I J (QDr I J) := by
  refine FnX.of (by decide +kernel) (Nat.le_of_ble_eq_true rfl) ?_
  show GX E mdL_draws 3 M Rf b L xs _ I J 0 [some (.ref b), some (vr E 71), none, none, none] []
  have st3 : ∀ (r t : Nat) (I' : Nat → Nat → Int) (x : Int), (t : Int) + r = I' 71 2 → (∀ q, q ≠ 71 → I' q = I q) → fB0 (I' 71) → fS0 (I' 71) (I' 71 0).toNat → fA0 (I' 71) (I' 71 1).toNat → fT0 (I' 71) t → GX E mdL_draws 3 M Rf b L xs (QDr I J) I' J 280 [some (.ref b), some (vr E 71), some (vi x), some (vi (t : Int)), none] [] := by
    intro r
    induction r with
    | zero =>
      intro t I' x ht hO f0 fs fa ft
      have b2 := f0.2.2.2.1
      refine G_iload_n (pc := 280) dL_draws_280 rfl ?_
      refine G_aload_n (pc := 281) dL_draws_281 rfl ?_
      refine G_iconst (pc := 282) dL_draws_282 ?_
      refine G_ialdv (pc := 283) dL_draws_283 (by first | rfl | assumption) (by omega) (by omega) (by omega) (by omega) ((rfl : I' 71 2 = I' 71 2)) ?_
      refine G_icmp_ge (pc := 284) (tgt := 343) dL_draws_284 (Ri.mk (by omega) (by omega)) (Ri.mk (by omega) (by omega)) (by decide) (fun h_284 => ?_) (fun h_284 => ?_)
      · refine G_vret (pc := 343) dL_draws_343 rfl ?_
        exact ⟨rfl, hO, f_end f0 fs fa (by rw [show (I' 71 2).toNat = t by omega]; exact ft)⟩
      · exact absurd h_284 (by omega)
    | succ r ih =>
      intro t I' x ht hO f0 fs fa ft
      have b0 := f0.2.1
      have b1 := f0.2.2.1
      have b2 := f0.2.2.2.1
      refine G_iload_n (pc := 280) dL_draws_280 rfl ?_
      refine G_aload_n (pc := 281) dL_draws_281 rfl ?_
      refine G_iconst (pc := 282) dL_draws_282 ?_
      refine G_ialdv (pc := 283) dL_draws_283 (by first | rfl | assumption) (by omega) (by omega) (by omega) (by omega) ((rfl : I' 71 2 = I' 71 2)) ?_
      refine G_icmp_ge (pc := 284) (tgt := 343) dL_draws_284 (Ri.mk (by omega) (by omega)) (Ri.mk (by omega) (by omega)) (by decide) (fun h_284 => ?_) (fun h_284 => ?_)
      · exact absurd h_284 (by omega)
      · refine G_aload_n (pc := 287) dL_draws_287 rfl ?_
        refine G_bipush (pc := 288) dL_draws_288 (by decide) ?_
        refine G_iload_n (pc := 290) dL_draws_290 rfl ?_
        refine G_iadd (pc := 291) dL_draws_291 ?_
        refine G_callX (pc := 292) (md := mdL_cell) (av := [_, _]) XSc.id dL_draws_292 lkL_19 mwL_cell (c_cell hL _ (by omega) (by omega)) rfl rfl (Nat.le_of_ble_eq_true rfl) (by decide) ⟨Nat.zero_le _, Nat.zero_le _⟩ ?_
        rintro v I1 J1 ⟨⟨y, rfl⟩, rfl, rfl⟩
        refine G_istore (pc := 295) (lv' := [_, _, _, _, _]) dL_draws_295 (by decide) rfl ?_
        refine G_aload_n (pc := 297) dL_draws_297 rfl ?_
        refine G_bipush (pc := 298) dL_draws_298 (by decide) ?_
        refine G_iconst (pc := 300) dL_draws_300 ?_
        refine G_iload_n (pc := 301) dL_draws_301 rfl ?_
        refine G_imul (pc := 302) dL_draws_302 ?_
        refine G_iadd (pc := 303) dL_draws_303 ?_
        refine G_iload (pc := 304) dL_draws_304 rfl ?_
        refine G_aload_n (pc := 306) dL_draws_306 rfl ?_
        refine G_iconst (pc := 307) dL_draws_307 ?_
        refine G_ialdv (pc := 308) dL_draws_308 (by first | rfl | assumption) (by omega) (by omega) (by omega) (by omega) ((rfl : I1 71 1 = I1 71 1)) ?_
        refine G_callS (pc := 309) (md := mdL_low) (av := [_, _]) dL_draws_309 lkL_25 mwL_low (c_low _ _ (by omega) (Ri.mk (by omega) (by omega))) rfl rfl (Nat.le_of_ble_eq_true rfl) (by decide) ⟨Nat.zero_le _, Nat.zero_le _⟩ ?_
        rintro v I2 J2 ⟨⟨r1, hr1, rfl⟩, rfl, rfl⟩
        refine G_iast (pc := 312) dL_draws_312 (by first | rfl | assumption) (by omega) (by omega) (by omega) (by omega) ?_
        rw [show (38 + 2 * (t : Int)).toNat = 38 + 2 * t by omega]
        refine G_aload_n (pc := 313) dL_draws_313 rfl ?_
        refine G_bipush (pc := 314) dL_draws_314 (by decide) ?_
        refine G_iconst (pc := 316) dL_draws_316 ?_
        refine G_iload_n (pc := 317) dL_draws_317 rfl ?_
        refine G_imul (pc := 318) dL_draws_318 ?_
        refine G_iadd (pc := 319) dL_draws_319 ?_
        refine G_iload (pc := 320) dL_draws_320 rfl ?_
        refine G_iconst (pc := 322) dL_draws_322 ?_
        refine G_ishr (pc := 323) dL_draws_323 (fun y_323 _ => ?_)
        refine G_iconst (pc := 324) dL_draws_324 ?_
        refine G_callS (pc := 325) (md := mdL_low) (av := [_, _]) dL_draws_325 lkL_25 mwL_low (c_low _ _ (by omega) (Ri.mk (by omega) (by omega))) rfl rfl (Nat.le_of_ble_eq_true rfl) (by decide) ⟨Nat.zero_le _, Nat.zero_le _⟩ ?_
        rintro v I3 J3 ⟨⟨r2, hr2, rfl⟩, rfl, rfl⟩
        refine G_if_ne (pc := 328) (tgt := 335) dL_draws_328 (Ri.mk (by omega) (by omega)) (by decide) (fun h_328 => ?_) (fun h_328 => ?_)
        · try simp only [bI_eq0, bI_ne0] at h_328
          refine G_iconst (pc := 335) dL_draws_335 ?_
          refine G_iast (pc := 336) dL_draws_336 (by first | rfl | assumption) (by omega) (by omega) (by omega) (by omega) ?_
          rw [show (39 + 2 * (t : Int)).toNat = 38 + 2 * t + 1 by omega]
          refine G_iinc (pc := 337) (lv' := [_, _, _, _, _]) dL_draws_337 (by decide) rfl rfl ?_
          refine G_goto (pc := 340) (tgt := 280) dL_draws_340 (by decide) ?_
          refine G_kill 4 rfl ?_
          have w1 : ∀ (a : Int) (i : Nat), i < 38 + 2 * t → wr (wr I2 71 (38 + 2 * t) (r1 : Int)) 71 (38 + 2 * t + 1) a 71 i = I2 71 i := fun a i hi => by rw [wr_n (by omega), wr_n (by omega)]
          exact ih (t + 1) _ x (by rw [w1 _ 2 (by omega)]; omega) (fun q hq => by rw [wr_o hq, wr_o hq]; exact hO q hq) (f0.up (fun i hi => w1 _ i (by omega)) (wr_nn (wr_nn f0.1 (by omega)) (by omega))) (by rw [w1 _ 0 (by omega)]; exact fs.up (by omega) fun i hi => w1 _ i (by omega)) (by rw [w1 _ 1 (by omega)]; exact fa.up (by omega) fun i hi => w1 _ i (by omega)) (ft.add (w1 _) ⟨by rw [wr_n (by omega), wr_s]; exact hr1, by rw [wr_s]; omega⟩)
        · try simp only [bI_eq0, bI_ne0] at h_328
          refine G_iconst (pc := 331) dL_draws_331 ?_
          refine G_goto (pc := 332) (tgt := 336) dL_draws_332 (by decide) ?_
          refine G_iast (pc := 336) dL_draws_336 (by first | rfl | assumption) (by omega) (by omega) (by omega) (by omega) ?_
          rw [show (39 + 2 * (t : Int)).toNat = 38 + 2 * t + 1 by omega]
          refine G_iinc (pc := 337) (lv' := [_, _, _, _, _]) dL_draws_337 (by decide) rfl rfl ?_
          refine G_goto (pc := 340) (tgt := 280) dL_draws_340 (by decide) ?_
          refine G_kill 4 rfl ?_
          have w1 : ∀ (a : Int) (i : Nat), i < 38 + 2 * t → wr (wr I2 71 (38 + 2 * t) (r1 : Int)) 71 (38 + 2 * t + 1) a 71 i = I2 71 i := fun a i hi => by rw [wr_n (by omega), wr_n (by omega)]
          exact ih (t + 1) _ x (by rw [w1 _ 2 (by omega)]; omega) (fun q hq => by rw [wr_o hq, wr_o hq]; exact hO q hq) (f0.up (fun i hi => w1 _ i (by omega)) (wr_nn (wr_nn f0.1 (by omega)) (by omega))) (by rw [w1 _ 0 (by omega)]; exact fs.up (by omega) fun i hi => w1 _ i (by omega)) (by rw [w1 _ 1 (by omega)]; exact fa.up (by omega) fun i hi => w1 _ i (by omega)) (ft.add (w1 _) ⟨by rw [wr_n (by omega), wr_s]; exact hr1, by rw [wr_s]; omega⟩)
  have st2 : ∀ (r t : Nat) (I' : Nat → Nat → Int) (x : Int), (t : Int) + r = I' 71 1 → (∀ q, q ≠ 71 → I' q = I q) → fB0 (I' 71) → fS0 (I' 71) (I' 71 0).toNat → fA0 (I' 71) t → GX E mdL_draws 3 M Rf b L xs (QDr I J) I' J 186 [some (.ref b), some (vr E 71), some (vi x), some (vi (t : Int)), none] [] := by
    intro r
    induction r with
    | zero =>
      intro t I' x ht hO f0 fs fa
      have b1 := f0.2.2.1
      have b2 := f0.2.2.2.1
      have p2 := f0.1 2
      refine G_iload_n (pc := 186) dL_draws_186 rfl ?_
      refine G_aload_n (pc := 187) dL_draws_187 rfl ?_
      refine G_iconst (pc := 188) dL_draws_188 ?_
      refine G_ialdv (pc := 189) dL_draws_189 (by first | rfl | assumption) (by omega) (by omega) (by omega) (by omega) ((rfl : I' 71 1 = I' 71 1)) ?_
      refine G_icmp_ge (pc := 190) (tgt := 278) dL_draws_190 (Ri.mk (by omega) (by omega)) (Ri.mk (by omega) (by omega)) (by decide) (fun h_190 => ?_) (fun h_190 => ?_)
      · refine G_iconst (pc := 278) dL_draws_278 ?_
        refine G_istore_n (pc := 279) (lv' := [_, _, _, _, _]) dL_draws_279 (by decide) rfl ?_
        exact st3 (I' 71 2).toNat 0 I' x (by omega) hO f0 fs (by rw [show (I' 71 1).toNat = t by omega]; exact fa) (fun k hk => absurd hk (Nat.not_lt_zero k))
      · exact absurd h_190 (by omega)
    | succ r ih =>
      intro t I' x ht hO f0 fs fa
      have b0 := f0.2.1
      have b1 := f0.2.2.1
      refine G_iload_n (pc := 186) dL_draws_186 rfl ?_
      refine G_aload_n (pc := 187) dL_draws_187 rfl ?_
      refine G_iconst (pc := 188) dL_draws_188 ?_
      refine G_ialdv (pc := 189) dL_draws_189 (by first | rfl | assumption) (by omega) (by omega) (by omega) (by omega) ((rfl : I' 71 1 = I' 71 1)) ?_
      refine G_icmp_ge (pc := 190) (tgt := 278) dL_draws_190 (Ri.mk (by omega) (by omega)) (Ri.mk (by omega) (by omega)) (by decide) (fun h_190 => ?_) (fun h_190 => ?_)
      · exact absurd h_190 (by omega)
      · refine G_aload_n (pc := 193) dL_draws_193 rfl ?_
        refine G_iconst (pc := 194) dL_draws_194 ?_
        refine G_iload_n (pc := 195) dL_draws_195 rfl ?_
        refine G_iadd (pc := 196) dL_draws_196 ?_
        refine G_callX (pc := 197) (md := mdL_cell) (av := [_, _]) XSc.id dL_draws_197 lkL_19 mwL_cell (c_cell hL _ (by omega) (by omega)) rfl rfl (Nat.le_of_ble_eq_true rfl) (by decide) ⟨Nat.zero_le _, Nat.zero_le _⟩ ?_
        rintro v I1 J1 ⟨⟨y, rfl⟩, rfl, rfl⟩
        refine G_istore (pc := 200) (lv' := [_, _, _, _, _]) dL_draws_200 (by decide) rfl ?_
        refine G_aload_n (pc := 202) dL_draws_202 rfl ?_
        refine G_bipush (pc := 203) dL_draws_203 (by decide) ?_
        refine G_iconst (pc := 205) dL_draws_205 ?_
        refine G_iload_n (pc := 206) dL_draws_206 rfl ?_
        refine G_imul (pc := 207) dL_draws_207 ?_
        refine G_iadd (pc := 208) dL_draws_208 ?_
        refine G_iload (pc := 209) dL_draws_209 rfl ?_
        refine G_bipush (pc := 211) dL_draws_211 (by decide) ?_
        refine G_callS (pc := 213) (md := mdL_low) (av := [_, _]) dL_draws_213 lkL_25 mwL_low (c_low _ _ (by omega) (Ri.mk (by omega) (by omega))) rfl rfl (Nat.le_of_ble_eq_true rfl) (by decide) ⟨Nat.zero_le _, Nat.zero_le _⟩ ?_
        rintro v I2 J2 ⟨⟨r1, hr1, rfl⟩, rfl, rfl⟩
        refine G_iast (pc := 216) dL_draws_216 (by first | rfl | assumption) (by omega) (by omega) (by omega) (by omega) ?_
        rw [show (22 + 4 * (t : Int)).toNat = 22 + 4 * t by omega]
        refine G_aload_n (pc := 217) dL_draws_217 rfl ?_
        refine G_bipush (pc := 218) dL_draws_218 (by decide) ?_
        refine G_iconst (pc := 220) dL_draws_220 ?_
        refine G_iload_n (pc := 221) dL_draws_221 rfl ?_
        refine G_imul (pc := 222) dL_draws_222 ?_
        refine G_iadd (pc := 223) dL_draws_223 ?_
        refine G_iload (pc := 224) dL_draws_224 rfl ?_
        refine G_iconst (pc := 226) dL_draws_226 ?_
        refine G_ishr (pc := 227) dL_draws_227 (fun y_227 _ => ?_)
        refine G_bipush (pc := 228) dL_draws_228 (by decide) ?_
        refine G_callS (pc := 230) (md := mdL_low) (av := [_, _]) dL_draws_230 lkL_25 mwL_low (c_low _ _ (by omega) (Ri.mk (by omega) (by omega))) rfl rfl (Nat.le_of_ble_eq_true rfl) (by decide) ⟨Nat.zero_le _, Nat.zero_le _⟩ ?_
        rintro v I3 J3 ⟨⟨r2, hr2, rfl⟩, rfl, rfl⟩
        refine G_iast (pc := 233) dL_draws_233 (by first | rfl | assumption) (by omega) (by omega) (by omega) (by omega) ?_
        rw [show (23 + 4 * (t : Int)).toNat = 22 + 4 * t + 1 by omega]
        refine G_aload_n (pc := 234) dL_draws_234 rfl ?_
        refine G_bipush (pc := 235) dL_draws_235 (by decide) ?_
        refine G_iconst (pc := 237) dL_draws_237 ?_
        refine G_iload_n (pc := 238) dL_draws_238 rfl ?_
        refine G_imul (pc := 239) dL_draws_239 ?_
        refine G_iadd (pc := 240) dL_draws_240 ?_
        refine G_iload (pc := 241) dL_draws_241 rfl ?_
        refine G_bipush (pc := 243) dL_draws_243 (by decide) ?_
        refine G_ishr (pc := 245) dL_draws_245 (fun y_245 _ => ?_)
        refine G_bipush (pc := 246) dL_draws_246 (by decide) ?_
        refine G_callS (pc := 248) (md := mdL_low) (av := [_, _]) dL_draws_248 lkL_25 mwL_low (c_low _ _ (by omega) (Ri.mk (by omega) (by omega))) rfl rfl (Nat.le_of_ble_eq_true rfl) (by decide) ⟨Nat.zero_le _, Nat.zero_le _⟩ ?_
        rintro v I4 J4 ⟨⟨r3, hr3, rfl⟩, rfl, rfl⟩
        refine G_iast (pc := 251) dL_draws_251 (by first | rfl | assumption) (by omega) (by omega) (by omega) (by omega) ?_
        rw [show (24 + 4 * (t : Int)).toNat = 22 + 4 * t + 2 by omega]
        refine G_aload_n (pc := 252) dL_draws_252 rfl ?_
        refine G_bipush (pc := 253) dL_draws_253 (by decide) ?_
        refine G_iconst (pc := 255) dL_draws_255 ?_
        refine G_iload_n (pc := 256) dL_draws_256 rfl ?_
        refine G_imul (pc := 257) dL_draws_257 ?_
        refine G_iadd (pc := 258) dL_draws_258 ?_
        refine G_iconst (pc := 259) dL_draws_259 ?_
        refine G_iload (pc := 260) dL_draws_260 rfl ?_
        refine G_bipush (pc := 262) dL_draws_262 (by decide) ?_
        refine G_ishr (pc := 264) dL_draws_264 (fun y_264 _ => ?_)
        refine G_bipush (pc := 265) dL_draws_265 (by decide) ?_
        refine G_callS (pc := 267) (md := mdL_low) (av := [_, _]) dL_draws_267 lkL_25 mwL_low (c_low _ _ (by omega) (Ri.mk (by omega) (by omega))) rfl rfl (Nat.le_of_ble_eq_true rfl) (by decide) ⟨Nat.zero_le _, Nat.zero_le _⟩ ?_
        rintro v I5 J5 ⟨⟨r4, hr4, rfl⟩, rfl, rfl⟩
        refine G_iadd (pc := 270) dL_draws_270 ?_
        refine G_iast (pc := 271) dL_draws_271 (by first | rfl | assumption) (by omega) (by omega) (by omega) (by omega) ?_
        rw [show (25 + 4 * (t : Int)).toNat = 22 + 4 * t + 3 by omega]
        refine G_iinc (pc := 272) (lv' := [_, _, _, _, _]) dL_draws_272 (by decide) rfl rfl ?_
        refine G_goto (pc := 275) (tgt := 186) dL_draws_275 (by decide) ?_
        refine G_kill 4 rfl ?_
        have w1 : ∀ i, i < 22 + 4 * t → wr (wr (wr (wr I2 71 (22 + 4 * t) (r1 : Int)) 71 (22 + 4 * t + 1) (r2 : Int)) 71 (22 + 4 * t + 2) (r3 : Int)) 71 (22 + 4 * t + 3) (1 + (r4 : Int)) 71 i = I2 71 i := fun i hi => by rw [wr_n (by omega), wr_n (by omega), wr_n (by omega), wr_n (by omega)]
        exact ih (t + 1) _ x (by rw [w1 1 (by omega)]; omega) (fun q hq => by rw [wr_o hq, wr_o hq, wr_o hq, wr_o hq]; exact hO q hq) (f0.up (fun i hi => w1 i (by omega)) (wr_nn (wr_nn (wr_nn (wr_nn f0.1 (by omega)) (by omega)) (by omega)) (by omega))) (by rw [w1 0 (by omega)]; exact fs.up (by omega) fun i hi => w1 i (by omega)) (fa.add w1 ⟨by rw [wr_n (by omega), wr_n (by omega), wr_n (by omega), wr_s]; omega, by rw [wr_n (by omega), wr_n (by omega), wr_s]; omega, by rw [wr_n (by omega), wr_s]; omega, by rw [wr_s]; omega, by rw [wr_s]; omega⟩)
  have st1 : ∀ (r t : Nat) (I' : Nat → Nat → Int) (x : Int), (t : Int) + r = I' 71 0 → (∀ q, q ≠ 71 → I' q = I q) → fB0 (I' 71) → fS0 (I' 71) t → GX E mdL_draws 3 M Rf b L xs (QDr I J) I' J 76 [some (.ref b), some (vr E 71), some (vi x), some (vi (t : Int)), none] [] := by
    intro r
    induction r with
    | zero =>
      intro t I' x ht hO f0 fs
      have b0 := f0.2.1
      have b1 := f0.2.2.1
      refine G_iload_n (pc := 76) dL_draws_76 rfl ?_
      refine G_aload_n (pc := 77) dL_draws_77 rfl ?_
      refine G_iconst (pc := 78) dL_draws_78 ?_
      refine G_ialdv (pc := 79) dL_draws_79 (by first | rfl | assumption) (by omega) (by omega) (by omega) (by omega) ((rfl : I' 71 0 = I' 71 0)) ?_
      refine G_icmp_ge (pc := 80) (tgt := 184) dL_draws_80 (Ri.mk (by omega) (by omega)) (Ri.mk (by omega) (by omega)) (by decide) (fun h_80 => ?_) (fun h_80 => ?_)
      · refine G_iconst (pc := 184) dL_draws_184 ?_
        refine G_istore_n (pc := 185) (lv' := [_, _, _, _, _]) dL_draws_185 (by decide) rfl ?_
        exact st2 (I' 71 1).toNat 0 I' x (by omega) hO f0 (by rw [show (I' 71 0).toNat = t by omega]; exact fs) (fun k hk => absurd hk (Nat.not_lt_zero k))
      · exact absurd h_80 (by omega)
    | succ r ih =>
      intro t I' x ht hO f0 fs
      have b0 := f0.2.1
      refine G_iload_n (pc := 76) dL_draws_76 rfl ?_
      refine G_aload_n (pc := 77) dL_draws_77 rfl ?_
      refine G_iconst (pc := 78) dL_draws_78 ?_
      refine G_ialdv (pc := 79) dL_draws_79 (by first | rfl | assumption) (by omega) (by omega) (by omega) (by omega) ((rfl : I' 71 0 = I' 71 0)) ?_
      refine G_icmp_ge (pc := 80) (tgt := 184) dL_draws_80 (Ri.mk (by omega) (by omega)) (Ri.mk (by omega) (by omega)) (by decide) (fun h_80 => ?_) (fun h_80 => ?_)
      · exact absurd h_80 (by omega)
      · refine G_aload_n (pc := 83) dL_draws_83 rfl ?_
        refine G_iconst (pc := 84) dL_draws_84 ?_
        refine G_iload_n (pc := 85) dL_draws_85 rfl ?_
        refine G_iadd (pc := 86) dL_draws_86 ?_
        refine G_callX (pc := 87) (md := mdL_cell) (av := [_, _]) XSc.id dL_draws_87 lkL_19 mwL_cell (c_cell hL _ (by omega) (by omega)) rfl rfl (Nat.le_of_ble_eq_true rfl) (by decide) ⟨Nat.zero_le _, Nat.zero_le _⟩ ?_
        rintro v I1 J1 ⟨⟨y, rfl⟩, rfl, rfl⟩
        refine G_istore (pc := 90) (lv' := [_, _, _, _, _]) dL_draws_90 (by decide) rfl ?_
        refine G_aload_n (pc := 92) dL_draws_92 rfl ?_
        refine G_bipush (pc := 93) dL_draws_93 (by decide) ?_
        refine G_iconst (pc := 95) dL_draws_95 ?_
        refine G_iload_n (pc := 96) dL_draws_96 rfl ?_
        refine G_imul (pc := 97) dL_draws_97 ?_
        refine G_iadd (pc := 98) dL_draws_98 ?_
        refine G_iconst (pc := 99) dL_draws_99 ?_
        refine G_iload (pc := 100) dL_draws_100 rfl ?_
        refine G_iload (pc := 102) dL_draws_102 rfl ?_
        refine G_bipush (pc := 104) dL_draws_104 (by decide) ?_
        refine G_ishr (pc := 106) dL_draws_106 (fun y_106 _ => ?_)
        refine G_iconst (pc := 107) dL_draws_107 ?_
        refine G_callS (pc := 108) (md := mdL_low) (av := [_, _]) dL_draws_108 lkL_25 mwL_low (c_low _ _ (by omega) (Ri.mk (by omega) (by omega))) rfl rfl (Nat.le_of_ble_eq_true rfl) (by decide) ⟨Nat.zero_le _, Nat.zero_le _⟩ ?_
        rintro v I2 J2 ⟨⟨r0, hr0, rfl⟩, rfl, rfl⟩
        refine G_if_ne (pc := 111) (tgt := 118) dL_draws_111 (Ri.mk (by omega) (by omega)) (by decide) (fun h_111 => ?_) (fun h_111 => ?_)
        · try simp only [bI_eq0, bI_ne0] at h_111
          refine G_bipush (pc := 118) dL_draws_118 (by decide) ?_
          refine G_callS (pc := 120) (md := mdL_low) (av := [_, _]) dL_draws_120 lkL_25 mwL_low (c_low _ _ (by omega) (Ri.mk (by omega) (by omega))) rfl rfl (Nat.le_of_ble_eq_true rfl) (by decide) ⟨Nat.zero_le _, Nat.zero_le _⟩ ?_
          rintro v I3 J3 ⟨⟨r1, hr1, rfl⟩, rfl, rfl⟩
          refine G_iadd (pc := 123) dL_draws_123 ?_
          refine G_iast (pc := 124) dL_draws_124 (by first | rfl | assumption) (by omega) (by omega) (by omega) (by omega) ?_
          rw [show (6 + 4 * (t : Int)).toNat = 6 + 4 * t by omega]
          refine G_aload_n (pc := 125) dL_draws_125 rfl ?_
          refine G_bipush (pc := 126) dL_draws_126 (by decide) ?_
          refine G_iconst (pc := 128) dL_draws_128 ?_
          refine G_iload_n (pc := 129) dL_draws_129 rfl ?_
          refine G_imul (pc := 130) dL_draws_130 ?_
          refine G_iadd (pc := 131) dL_draws_131 ?_
          refine G_iload (pc := 132) dL_draws_132 rfl ?_
          refine G_iconst (pc := 134) dL_draws_134 ?_
          refine G_ishr (pc := 135) dL_draws_135 (fun y_135 _ => ?_)
          refine G_bipush (pc := 136) dL_draws_136 (by decide) ?_
          refine G_callS (pc := 138) (md := mdL_low) (av := [_, _]) dL_draws_138 lkL_25 mwL_low (c_low _ _ (by omega) (Ri.mk (by omega) (by omega))) rfl rfl (Nat.le_of_ble_eq_true rfl) (by decide) ⟨Nat.zero_le _, Nat.zero_le _⟩ ?_
          rintro v I4 J4 ⟨⟨r2, hr2, rfl⟩, rfl, rfl⟩
          refine G_iast (pc := 141) dL_draws_141 (by first | rfl | assumption) (by omega) (by omega) (by omega) (by omega) ?_
          rw [show (7 + 4 * (t : Int)).toNat = 6 + 4 * t + 1 by omega]
          refine G_aload_n (pc := 142) dL_draws_142 rfl ?_
          refine G_bipush (pc := 143) dL_draws_143 (by decide) ?_
          refine G_iconst (pc := 145) dL_draws_145 ?_
          refine G_iload_n (pc := 146) dL_draws_146 rfl ?_
          refine G_imul (pc := 147) dL_draws_147 ?_
          refine G_iadd (pc := 148) dL_draws_148 ?_
          refine G_iload (pc := 149) dL_draws_149 rfl ?_
          refine G_bipush (pc := 151) dL_draws_151 (by decide) ?_
          refine G_ishr (pc := 153) dL_draws_153 (fun y_153 _ => ?_)
          refine G_bipush (pc := 154) dL_draws_154 (by decide) ?_
          refine G_callS (pc := 156) (md := mdL_low) (av := [_, _]) dL_draws_156 lkL_25 mwL_low (c_low _ _ (by omega) (Ri.mk (by omega) (by omega))) rfl rfl (Nat.le_of_ble_eq_true rfl) (by decide) ⟨Nat.zero_le _, Nat.zero_le _⟩ ?_
          rintro v I5 J5 ⟨⟨r3, hr3, rfl⟩, rfl, rfl⟩
          refine G_iast (pc := 159) dL_draws_159 (by first | rfl | assumption) (by omega) (by omega) (by omega) (by omega) ?_
          rw [show (8 + 4 * (t : Int)).toNat = 6 + 4 * t + 2 by omega]
          refine G_aload_n (pc := 160) dL_draws_160 rfl ?_
          refine G_bipush (pc := 161) dL_draws_161 (by decide) ?_
          refine G_iconst (pc := 163) dL_draws_163 ?_
          refine G_iload_n (pc := 164) dL_draws_164 rfl ?_
          refine G_imul (pc := 165) dL_draws_165 ?_
          refine G_iadd (pc := 166) dL_draws_166 ?_
          refine G_iload (pc := 167) dL_draws_167 rfl ?_
          refine G_bipush (pc := 169) dL_draws_169 (by decide) ?_
          refine G_ishr (pc := 171) dL_draws_171 (fun y_171 _ => ?_)
          refine G_bipush (pc := 172) dL_draws_172 (by decide) ?_
          refine G_callS (pc := 174) (md := mdL_low) (av := [_, _]) dL_draws_174 lkL_25 mwL_low (c_low _ _ (by omega) (Ri.mk (by omega) (by omega))) rfl rfl (Nat.le_of_ble_eq_true rfl) (by decide) ⟨Nat.zero_le _, Nat.zero_le _⟩ ?_
          rintro v I6 J6 ⟨⟨r4, hr4, rfl⟩, rfl, rfl⟩
          refine G_iast (pc := 177) dL_draws_177 (by first | rfl | assumption) (by omega) (by omega) (by omega) (by omega) ?_
          rw [show (9 + 4 * (t : Int)).toNat = 6 + 4 * t + 3 by omega]
          refine G_iinc (pc := 178) (lv' := [_, _, _, _, _]) dL_draws_178 (by decide) rfl rfl ?_
          refine G_goto (pc := 181) (tgt := 76) dL_draws_181 (by decide) ?_
          refine G_kill 4 rfl ?_
          have w1 : ∀ i, i < 6 + 4 * t → wr (wr (wr (wr I3 71 (6 + 4 * t) (1 + (r1 : Int))) 71 (6 + 4 * t + 1) (r2 : Int)) 71 (6 + 4 * t + 2) (r3 : Int)) 71 (6 + 4 * t + 3) (r4 : Int) 71 i = I3 71 i := fun i hi => by rw [wr_n (by omega), wr_n (by omega), wr_n (by omega), wr_n (by omega)]
          exact ih (t + 1) _ x (by rw [w1 0 (by omega)]; omega) (fun q hq => by rw [wr_o hq, wr_o hq, wr_o hq, wr_o hq]; exact hO q hq) (f0.up (fun i hi => w1 i (by omega)) (wr_nn (wr_nn (wr_nn (wr_nn f0.1 (by omega)) (by omega)) (by omega)) (by omega))) (fs.add w1 ⟨⟨by rw [wr_n (by omega), wr_n (by omega), wr_n (by omega), wr_s]; omega, by rw [wr_n (by omega), wr_n (by omega), wr_n (by omega), wr_s]; omega⟩, by rw [wr_n (by omega), wr_n (by omega), wr_s]; omega, by rw [wr_n (by omega), wr_s]; omega, by rw [wr_s]; omega⟩)
        · try simp only [bI_eq0, bI_ne0] at h_111
          refine G_iconst (pc := 114) dL_draws_114 ?_
          refine G_goto (pc := 115) (tgt := 120) dL_draws_115 (by decide) ?_
          refine G_callS (pc := 120) (md := mdL_low) (av := [_, _]) dL_draws_120 lkL_25 mwL_low (c_low _ _ (by omega) (Ri.mk (by omega) (by omega))) rfl rfl (Nat.le_of_ble_eq_true rfl) (by decide) ⟨Nat.zero_le _, Nat.zero_le _⟩ ?_
          rintro v I3 J3 ⟨⟨r1, hr1, rfl⟩, rfl, rfl⟩
          refine G_iadd (pc := 123) dL_draws_123 ?_
          refine G_iast (pc := 124) dL_draws_124 (by first | rfl | assumption) (by omega) (by omega) (by omega) (by omega) ?_
          rw [show (6 + 4 * (t : Int)).toNat = 6 + 4 * t by omega]
          refine G_aload_n (pc := 125) dL_draws_125 rfl ?_
          refine G_bipush (pc := 126) dL_draws_126 (by decide) ?_
          refine G_iconst (pc := 128) dL_draws_128 ?_
          refine G_iload_n (pc := 129) dL_draws_129 rfl ?_
          refine G_imul (pc := 130) dL_draws_130 ?_
          refine G_iadd (pc := 131) dL_draws_131 ?_
          refine G_iload (pc := 132) dL_draws_132 rfl ?_
          refine G_iconst (pc := 134) dL_draws_134 ?_
          refine G_ishr (pc := 135) dL_draws_135 (fun y_135 _ => ?_)
          refine G_bipush (pc := 136) dL_draws_136 (by decide) ?_
          refine G_callS (pc := 138) (md := mdL_low) (av := [_, _]) dL_draws_138 lkL_25 mwL_low (c_low _ _ (by omega) (Ri.mk (by omega) (by omega))) rfl rfl (Nat.le_of_ble_eq_true rfl) (by decide) ⟨Nat.zero_le _, Nat.zero_le _⟩ ?_
          rintro v I4 J4 ⟨⟨r2, hr2, rfl⟩, rfl, rfl⟩
          refine G_iast (pc := 141) dL_draws_141 (by first | rfl | assumption) (by omega) (by omega) (by omega) (by omega) ?_
          rw [show (7 + 4 * (t : Int)).toNat = 6 + 4 * t + 1 by omega]
          refine G_aload_n (pc := 142) dL_draws_142 rfl ?_
          refine G_bipush (pc := 143) dL_draws_143 (by decide) ?_
          refine G_iconst (pc := 145) dL_draws_145 ?_
          refine G_iload_n (pc := 146) dL_draws_146 rfl ?_
          refine G_imul (pc := 147) dL_draws_147 ?_
          refine G_iadd (pc := 148) dL_draws_148 ?_
          refine G_iload (pc := 149) dL_draws_149 rfl ?_
          refine G_bipush (pc := 151) dL_draws_151 (by decide) ?_
          refine G_ishr (pc := 153) dL_draws_153 (fun y_153 _ => ?_)
          refine G_bipush (pc := 154) dL_draws_154 (by decide) ?_
          refine G_callS (pc := 156) (md := mdL_low) (av := [_, _]) dL_draws_156 lkL_25 mwL_low (c_low _ _ (by omega) (Ri.mk (by omega) (by omega))) rfl rfl (Nat.le_of_ble_eq_true rfl) (by decide) ⟨Nat.zero_le _, Nat.zero_le _⟩ ?_
          rintro v I5 J5 ⟨⟨r3, hr3, rfl⟩, rfl, rfl⟩
          refine G_iast (pc := 159) dL_draws_159 (by first | rfl | assumption) (by omega) (by omega) (by omega) (by omega) ?_
          rw [show (8 + 4 * (t : Int)).toNat = 6 + 4 * t + 2 by omega]
          refine G_aload_n (pc := 160) dL_draws_160 rfl ?_
          refine G_bipush (pc := 161) dL_draws_161 (by decide) ?_
          refine G_iconst (pc := 163) dL_draws_163 ?_
          refine G_iload_n (pc := 164) dL_draws_164 rfl ?_
          refine G_imul (pc := 165) dL_draws_165 ?_
          refine G_iadd (pc := 166) dL_draws_166 ?_
          refine G_iload (pc := 167) dL_draws_167 rfl ?_
          refine G_bipush (pc := 169) dL_draws_169 (by decide) ?_
          refine G_ishr (pc := 171) dL_draws_171 (fun y_171 _ => ?_)
          refine G_bipush (pc := 172) dL_draws_172 (by decide) ?_
          refine G_callS (pc := 174) (md := mdL_low) (av := [_, _]) dL_draws_174 lkL_25 mwL_low (c_low _ _ (by omega) (Ri.mk (by omega) (by omega))) rfl rfl (Nat.le_of_ble_eq_true rfl) (by decide) ⟨Nat.zero_le _, Nat.zero_le _⟩ ?_
          rintro v I6 J6 ⟨⟨r4, hr4, rfl⟩, rfl, rfl⟩
          refine G_iast (pc := 177) dL_draws_177 (by first | rfl | assumption) (by omega) (by omega) (by omega) (by omega) ?_
          rw [show (9 + 4 * (t : Int)).toNat = 6 + 4 * t + 3 by omega]
          refine G_iinc (pc := 178) (lv' := [_, _, _, _, _]) dL_draws_178 (by decide) rfl rfl ?_
          refine G_goto (pc := 181) (tgt := 76) dL_draws_181 (by decide) ?_
          refine G_kill 4 rfl ?_
          have w1 : ∀ i, i < 6 + 4 * t → wr (wr (wr (wr I3 71 (6 + 4 * t) (1 + (r1 : Int))) 71 (6 + 4 * t + 1) (r2 : Int)) 71 (6 + 4 * t + 2) (r3 : Int)) 71 (6 + 4 * t + 3) (r4 : Int) 71 i = I3 71 i := fun i hi => by rw [wr_n (by omega), wr_n (by omega), wr_n (by omega), wr_n (by omega)]
          exact ih (t + 1) _ x (by rw [w1 0 (by omega)]; omega) (fun q hq => by rw [wr_o hq, wr_o hq, wr_o hq, wr_o hq]; exact hO q hq) (f0.up (fun i hi => w1 i (by omega)) (wr_nn (wr_nn (wr_nn (wr_nn f0.1 (by omega)) (by omega)) (by omega)) (by omega))) (fs.add w1 ⟨⟨by rw [wr_n (by omega), wr_n (by omega), wr_n (by omega), wr_s]; omega, by rw [wr_n (by omega), wr_n (by omega), wr_n (by omega), wr_s]; omega⟩, by rw [wr_n (by omega), wr_n (by omega), wr_s]; omega, by rw [wr_n (by omega), wr_s]; omega, by rw [wr_s]; omega⟩)
  refine G_aload_n (pc := 0) dL_draws_0 rfl ?_
  refine G_iconst (pc := 1) dL_draws_1 ?_
  refine G_callX (pc := 2) (md := mdL_cell) (av := [_, _]) XSc.id dL_draws_2 lkL_19 mwL_cell (c_cell hL _ (by omega) (by omega)) rfl rfl (Nat.le_of_ble_eq_true rfl) (by decide) ⟨Nat.zero_le _, Nat.zero_le _⟩ ?_
  rintro v I1 J1 ⟨⟨x, rfl⟩, rfl, rfl⟩
  refine G_istore_n (pc := 5) (lv' := [_, _, _, _, _]) dL_draws_5 (by decide) rfl ?_
  refine G_aload_n (pc := 6) dL_draws_6 rfl ?_
  refine G_iconst (pc := 7) dL_draws_7 ?_
  refine G_iconst (pc := 8) dL_draws_8 ?_
  refine G_iload_n (pc := 9) dL_draws_9 rfl ?_
  refine G_iconst (pc := 10) dL_draws_10 ?_
  refine G_callS (pc := 11) (md := mdL_low) (av := [_, _]) dL_draws_11 lkL_25 mwL_low (c_low _ _ (by omega) (Ri.mk (by omega) (by omega))) rfl rfl (Nat.le_of_ble_eq_true rfl) (by decide) ⟨Nat.zero_le _, Nat.zero_le _⟩ ?_
  rintro v I2 J2 ⟨⟨r0, hr0, rfl⟩, rfl, rfl⟩
  refine G_iadd (pc := 14) dL_draws_14 ?_
  refine G_iast (pc := 15) dL_draws_15 (by first | rfl | assumption) (by omega) (by omega) (by omega) (by omega) ?_
  refine G_aload_n (pc := 16) dL_draws_16 rfl ?_
  refine G_iconst (pc := 17) dL_draws_17 ?_
  refine G_iconst (pc := 18) dL_draws_18 ?_
  refine G_iload_n (pc := 19) dL_draws_19 rfl ?_
  refine G_iconst (pc := 20) dL_draws_20 ?_
  refine G_ishr (pc := 21) dL_draws_21 (fun y_21 _ => ?_)
  refine G_iconst (pc := 22) dL_draws_22 ?_
  refine G_callS (pc := 23) (md := mdL_low) (av := [_, _]) dL_draws_23 lkL_25 mwL_low (c_low _ _ (by omega) (Ri.mk (by omega) (by omega))) rfl rfl (Nat.le_of_ble_eq_true rfl) (by decide) ⟨Nat.zero_le _, Nat.zero_le _⟩ ?_
  rintro v I3 J3 ⟨⟨r1, hr1, rfl⟩, rfl, rfl⟩
  refine G_iadd (pc := 26) dL_draws_26 ?_
  refine G_iast (pc := 27) dL_draws_27 (by first | rfl | assumption) (by omega) (by omega) (by omega) (by omega) ?_
  refine G_aload_n (pc := 28) dL_draws_28 rfl ?_
  refine G_iconst (pc := 29) dL_draws_29 ?_
  refine G_iload_n (pc := 30) dL_draws_30 rfl ?_
  refine G_iconst (pc := 31) dL_draws_31 ?_
  refine G_ishr (pc := 32) dL_draws_32 (fun y_32 _ => ?_)
  refine G_iconst (pc := 33) dL_draws_33 ?_
  refine G_callS (pc := 34) (md := mdL_low) (av := [_, _]) dL_draws_34 lkL_25 mwL_low (c_low _ _ (by omega) (Ri.mk (by omega) (by omega))) rfl rfl (Nat.le_of_ble_eq_true rfl) (by decide) ⟨Nat.zero_le _, Nat.zero_le _⟩ ?_
  rintro v I4 J4 ⟨⟨r2, hr2, rfl⟩, rfl, rfl⟩
  refine G_iast (pc := 37) dL_draws_37 (by first | rfl | assumption) (by omega) (by omega) (by omega) (by omega) ?_
  refine G_aload_n (pc := 38) dL_draws_38 rfl ?_
  refine G_iconst (pc := 39) dL_draws_39 ?_
  refine G_iload_n (pc := 40) dL_draws_40 rfl ?_
  refine G_bipush (pc := 41) dL_draws_41 (by decide) ?_
  refine G_ishr (pc := 43) dL_draws_43 (fun y_43 _ => ?_)
  refine G_bipush (pc := 44) dL_draws_44 (by decide) ?_
  refine G_callS (pc := 46) (md := mdL_low) (av := [_, _]) dL_draws_46 lkL_25 mwL_low (c_low _ _ (by omega) (Ri.mk (by omega) (by omega))) rfl rfl (Nat.le_of_ble_eq_true rfl) (by decide) ⟨Nat.zero_le _, Nat.zero_le _⟩ ?_
  rintro v I5 J5 ⟨⟨r3, hr3, rfl⟩, rfl, rfl⟩
  refine G_iast (pc := 49) dL_draws_49 (by first | rfl | assumption) (by omega) (by omega) (by omega) (by omega) ?_
  refine G_aload_n (pc := 50) dL_draws_50 rfl ?_
  refine G_iconst (pc := 51) dL_draws_51 ?_
  refine G_iload_n (pc := 52) dL_draws_52 rfl ?_
  refine G_bipush (pc := 53) dL_draws_53 (by decide) ?_
  refine G_ishr (pc := 55) dL_draws_55 (fun y_55 _ => ?_)
  refine G_bipush (pc := 56) dL_draws_56 (by decide) ?_
  refine G_callS (pc := 58) (md := mdL_low) (av := [_, _]) dL_draws_58 lkL_25 mwL_low (c_low _ _ (by omega) (Ri.mk (by omega) (by omega))) rfl rfl (Nat.le_of_ble_eq_true rfl) (by decide) ⟨Nat.zero_le _, Nat.zero_le _⟩ ?_
  rintro v I6 J6 ⟨⟨r4, hr4, rfl⟩, rfl, rfl⟩
  refine G_iast (pc := 61) dL_draws_61 (by first | rfl | assumption) (by omega) (by omega) (by omega) (by omega) ?_
  refine G_aload_n (pc := 62) dL_draws_62 rfl ?_
  refine G_iconst (pc := 63) dL_draws_63 ?_
  refine G_iload_n (pc := 64) dL_draws_64 rfl ?_
  refine G_bipush (pc := 65) dL_draws_65 (by decide) ?_
  refine G_ishr (pc := 67) dL_draws_67 (fun y_67 _ => ?_)
  refine G_bipush (pc := 68) dL_draws_68 (by decide) ?_
  refine G_callS (pc := 70) (md := mdL_low) (av := [_, _]) dL_draws_70 lkL_25 mwL_low (c_low _ _ (by omega) (Ri.mk (by omega) (by omega))) rfl rfl (Nat.le_of_ble_eq_true rfl) (by decide) ⟨Nat.zero_le _, Nat.zero_le _⟩ ?_
  rintro v I7 J7 ⟨⟨r5, hr5, rfl⟩, rfl, rfl⟩
  refine G_iast (pc := 73) dL_draws_73 (by first | rfl | assumption) (by omega) (by omega) (by omega) (by omega) ?_
  refine G_eq (I' := wr (wr (wr (wr (wr (wr I2 71 0 (1 + (r0 : Int))) 71 1 (1 + (r1 : Int))) 71 2 (r2 : Int)) 71 3 (r3 : Int)) 71 4 (r4 : Int)) 71 5 (r5 : Int)) rfl rfl rfl rfl ?_
  refine G_iconst (pc := 74) dL_draws_74 ?_
  refine G_istore_n (pc := 75) (lv' := [_, _, _, _, _]) dL_draws_75 (by decide) rfl ?_
  have f0 : fB0 (wr (wr (wr (wr (wr (wr I2 71 0 (1 + (r0 : Int))) 71 1 (1 + (r1 : Int))) 71 2 (r2 : Int)) 71 3 (r3 : Int)) 71 4 (r4 : Int)) 71 5 (r5 : Int) 71) := by
    refine ⟨wr_nn (wr_nn (wr_nn (wr_nn (wr_nn (wr_nn (fun i => by rw [h0 i]; exact Int.le_refl 0) (by omega)) (by omega)) (by omega)) (by omega)) (by omega)) (by omega), ?_⟩
    simp (disch := omega) only [wr_n, wr_s]
    omega
  exact st1 _ 0 _ x (by rw [Int.toNat_of_nonneg (f0.1 0)]; omega) (fun q hq => by rw [wr_o hq, wr_o hq, wr_o hq, wr_o hq, wr_o hq, wr_o hq]) f0 (fun k hk => absurd hk (Nat.not_lt_zero k))
end DRAWS
