/-! THE REFERENCE'S CALLS, eighth: nights -/
theorem soF_lt (hs : HS) (p : Nat) : ∀ n, 0 < n → soF hs n p < n
  | 0, h => absurd h (Nat.lt_irrefl _)
  | n + 1, _ => by
    rw [soF]
    by_cases h : sumN (hs 0) n ≤ p
    · rw [if_pos h]; omega
    · rw [if_neg h]
      rcases Nat.eq_zero_or_pos n with q | q
      · subst q; exact absurd (Nat.zero_le p) h
      · have := soF_lt hs p n q; omega
/-- who is there, and who of them played, up to n -/
def NMI (I : Nat → Nat → Int) (n : Nat) (th py : Nat → Nat) : Prop := ∀ x, x < n → I 84 x = th x ∧ (th x = 1 → I 85 x = py x)
theorem mx_ne {f g : Nat → Nat} {p x : Nat} (e : x ≠ p) : mx f g (p + 1) x = mx f g p x := by
  simp only [mx]
  by_cases h : x < p
  · rw [if_pos h, if_pos (by omega)]
  · rw [if_neg h, if_neg (by omega)]
theorem mx_at (f g : Nat → Nat) (p : Nat) : mx f g (p + 1) p = f p := by simp only [mx]; rw [if_pos (by omega)]
theorem mx_on (f g : Nat → Nat) (p : Nat) : mx f g p p = g p := by simp only [mx]; rw [if_neg (by omega)]
theorem NMI.up {I : Nat → Nat → Int} {n p a b : Nat} {th py th' py' : Nat → Nat} (h : NMI I n (mx th' th p) (mx py' py p)) (ha : th' p = a) (hb : a = 1 → py' p = b) : NMI (wr (wr I 85 p (b : Int)) 84 p (a : Int)) n (mx th' th (p + 1)) (mx py' py (p + 1)) := by
  intro x hx
  obtain ⟨h1, h2⟩ := h x hx
  by_cases e : x = p
  · subst e
    rw [mx_at, mx_at, ha]
    refine ⟨wr_s, fun z => ?_⟩
    rw [wr_o (by decide), wr_s, hb z]
  · have g1 : wr (wr I 85 p (b : Int)) 84 p (a : Int) 84 x = I 84 x := by rw [wr_n e, wr_o (by decide)]
    have g2 : wr (wr I 85 p (b : Int)) 84 p (a : Int) 85 x = I 85 x := by rw [wr_o (by decide), wr_n e]
    rw [mx_ne e, mx_ne e, g1, g2]
    exact ⟨h1, h2⟩
theorem NMI.skip {I : Nat → Nat → Int} {n p : Nat} {th py th' py' : Nat → Nat} (h : NMI I n (mx th' th p) (mx py' py p)) (h0 : th p = 0) (ha : th' p = 0) : NMI I n (mx th' th (p + 1)) (mx py' py (p + 1)) := by
  intro x hx
  obtain ⟨h1, h2⟩ := h x hx
  by_cases e : x = p
  · subst e
    rw [mx_on, h0] at h1
    rw [mx_at, ha]
    exact ⟨h1, fun z => absurd z (by decide)⟩
  · rw [mx_ne e, mx_ne e]; exact ⟨h1, h2⟩
theorem mx_sum {f g : Nat → Nat} {n p : Nat} (h : p < n) : sumN (mx f g (p + 1)) n + g p = sumN (mx f g p) n + f p := by
  have := sumN_upd (f := mx f g p) (p := p) (v := f p) n h
  rw [mx_n rfl]
  rw [mx_on] at this
  exact this
/-- the first that is there, -1 where nobody is -/
def nxN (th : Nat → Nat) (p : Nat) : Int := if ntN th 0 p = -4 then -1 else ntN th 0 p
theorem nt_z {th : Nat → Nat} (h : ∀ p, th p ≤ 1) : ∀ n, sumN th n = 0 ↔ ntN th 0 n = -4
  | 0 => by simp [sumN, ntN]
  | n + 1 => by
    have ih := nt_z h n
    have h1 := h n
    have hr := ntN_R th 0 n
    rw [sumN, ntN]
    by_cases g : sumN th n = 0 ∧ th n = 1
    · rw [if_pos g]; omega
    · rw [if_neg g]; omega
theorem nxN_0 (th : Nat → Nat) : nxN th 0 = -1 := by simp [nxN, ntN]
theorem nxN_R (th : Nat → Nat) (p : Nat) : nxN th p = -1 ∨ (0 ≤ nxN th p ∧ nxN th p < p) := by
  have := ntN_R th 0 p
  unfold nxN
  by_cases e : ntN th 0 p = -4
  · rw [if_pos e]; omega
  · rw [if_neg e]; omega
theorem nxN_s {th : Nat → Nat} (h : ∀ p, th p ≤ 1) (p : Nat) : nxN th (p + 1) = if nxN th p < 0 ∧ th p = 1 then (p : Int) else nxN th p := by
  have hz := nt_z h p
  have hr := ntN_R th 0 p
  have hA : nxN th p = if ntN th 0 p = -4 then -1 else ntN th 0 p := rfl
  have hB : nxN th (p + 1) = if (if sumN th p = 0 ∧ th p = 1 then (p : Int) else ntN th 0 p) = -4 then -1 else (if sumN th p = 0 ∧ th p = 1 then (p : Int) else ntN th 0 p) := rfl
  rw [hB, hA]
  generalize ntN th 0 p = a at hz hr ⊢
  generalize sumN th p = b at hz ⊢
  by_cases g : b = 0 ∧ th p = 1
  · rw [if_pos g, if_neg (by omega), if_pos (show a = -4 from hz.mp g.1), if_pos ⟨by decide, g.2⟩]
  · rw [if_neg g]
    by_cases e : a = -4
    · rw [if_pos e, if_neg (by omega)]
    · rw [if_neg e, if_neg (by omega)]
theorem ffN_nx (th py : Nat → Nat) (n : Nat) : ffN th py n = if nxN th n < 0 then 0 else py (nxN th n).toNat := by
  rw [ffN_nt]
  have hr := ntN_R th 0 n
  unfold nxN
  by_cases e : ntN th 0 n = -4
  · rw [if_pos e, if_pos e, if_pos (by decide)]
  · rw [if_neg e, if_neg e, if_neg (by omega)]
theorem nx_th {th : Nat → Nat} (h : ∀ p, th p ≤ 1) : ∀ n, 0 ≤ nxN th n → th (nxN th n).toNat = 1
  | 0, z => by rw [nxN_0] at z; exact absurd z (by decide)
  | n + 1, z => by
    rw [nxN_s h] at z ⊢
    by_cases g : nxN th n < 0 ∧ th n = 1
    · rw [if_pos g, Int.toNat_natCast]; exact g.2
    · rw [if_neg g] at z ⊢; exact nx_th h n z
theorem ntN_none {th : Nat → Nat} {i : Nat} : ∀ n, sumN th n ≤ i → ntN th i n = -4
  | 0, _ => rfl
  | n + 1, h => by
    rw [sumN] at h
    by_cases g : sumN th n = i ∧ th n = 1
    · omega
    · rw [ntN, if_neg g]; exact ntN_none n (by omega)
/-- what a night changes of the reference -/
def OffG (I I' : Nat → Nat → Int) : Prop := (∀ q, q ≠ 71 → q ≠ 84 → q ≠ 85 → I' q = I q) ∧ ∀ i, i ≠ 20 → I' 71 i = I 71 i
theorem OffG.rfl {I : Nat → Nat → Int} : OffG I I := ⟨fun _ _ _ _ => by rfl, fun _ _ => by rfl⟩
theorem OffG.w84 {I I' : Nat → Nat → Int} {i : Nat} {a : Int} (h : OffG I I') : OffG I (wr I' 84 i a) := ⟨fun q h1 h2 h3 => (wr_o h2).trans (h.1 q h1 h2 h3), fun j hj => (congrFun (wr_o (show (71 : Nat) ≠ 84 by decide)) j).trans (h.2 j hj)⟩
theorem OffG.w85 {I I' : Nat → Nat → Int} {i : Nat} {a : Int} (h : OffG I I') : OffG I (wr I' 85 i a) := ⟨fun q h1 h2 h3 => (wr_o h3).trans (h.1 q h1 h2 h3), fun j hj => (congrFun (wr_o (show (71 : Nat) ≠ 85 by decide)) j).trans (h.2 j hj)⟩
theorem OffG.w71 {I I' : Nat → Nat → Int} {a : Int} (h : OffG I I') : OffG I (wr I' 71 20 a) := ⟨fun q h1 h2 h3 => (wr_o h1).trans (h.1 q h1 h2 h3), fun j hj => (wr_n hj).trans (h.2 j hj)⟩
theorem NMI.w71 {I : Nat → Nat → Int} {n : Nat} {th py : Nat → Nat} {i : Nat} {a : Int} (h : NMI I n th py) : NMI (wr I 71 i a) n th py := fun x hx => by
  rw [wr_o (show (84 : Nat) ≠ 71 by decide), wr_o (show (85 : Nat) ≠ 71 by decide)]; exact h x hx
theorem OffG.off {I I' : Nat → Nat → Int} (h : OffG I I') : Off I I' 71 86 := fun q hq => h.1 q (by omega) (by omega) (by omega)
theorem OffG.mi {I I' : Nat → Nat → Int} {n : Nat} {tx : Nat → Int} {hs : HS} {C : CS} {kn : Nat} {K : Nat → CS} (h : OffG I I') (hC : MI I n tx hs C kn K) : MI I' n tx hs C kn K := hC.off (h.2 0 (by decide)) (h.2 10 (by decide)) fun q a b => h.1 q (by omega) (by omega) (by omega)
section MOD10
variable {E : EV} {M : Nat} {I J : Nat → Nat → Int} {n : Nat} {tx : Nat → Int} {hs : HS} {C : CS} {kn : Nat} {K : Nat → CS}
theorem m_draw {R : Nat → Nat → Option Nat} (z p t : Nat) (hz : z < 10000) (hp : p < 120) (ht : t ≤ 8) : FnF E mdX12_draw 0 M R [vi (z : Int), vi (p : Int), vi (t : Int)] I J (some (vi (rzN z p t : Int))) I J := by
  obtain ⟨x, hx⟩ : ∃ x, x = 7919 * z + 6151 * p + 3571 * t + 1 := ⟨_, rfl⟩
  have hr : rzN z p t = x * x % 65521 % 100 := by rw [hx]; rfl
  have h0 : x ≤ 100000000 := by omega
  have h1 := Nat.mul_le_mul h0 h0
  rw [hr]
  refine FnQ.of (by decide +kernel) (Nat.le_of_ble_eq_true rfl) ?_
  show GM E mdX12_draw 0 M R _ I J 0 [some (vi (z : Int)), some (vi (p : Int)), some (vi (t : Int)), none, none] []
  refine G_ldc2 (pc := 0) dX12_draw_0 klX12_200 ?_
  refine G_iload_n (pc := 3) dX12_draw_3 rfl ?_
  refine G_i2l (pc := 4) dX12_draw_4 (Ri.mk (by omega) (by omega)) ?_
  refine G_lmul (pc := 5) dX12_draw_5 ?_
  refine G_ldc2 (pc := 6) dX12_draw_6 klX12_202 ?_
  refine G_iload_n (pc := 9) dX12_draw_9 rfl ?_
  refine G_i2l (pc := 10) dX12_draw_10 (Ri.mk (by omega) (by omega)) ?_
  refine G_lmul (pc := 11) dX12_draw_11 ?_
  refine G_ladd (pc := 12) dX12_draw_12 ?_
  refine G_ldc2 (pc := 13) dX12_draw_13 klX12_204 ?_
  refine G_iload_n (pc := 16) dX12_draw_16 rfl ?_
  refine G_i2l (pc := 17) dX12_draw_17 (Ri.mk (by omega) (by omega)) ?_
  refine G_lmul (pc := 18) dX12_draw_18 ?_
  refine G_ladd (pc := 19) dX12_draw_19 ?_
  refine G_lconst (pc := 20) dX12_draw_20 ?_
  refine G_ladd (pc := 21) dX12_draw_21 ?_
  refine G_st (st' := [vl (x : Int)]) (congrArg (fun q : Int => [vl q]) (show (7919 : Int) * (z : Int) + 6151 * (p : Int) + 3571 * (t : Int) + 1 = (x : Int) by omega)) ?_
  refine G_lstore_n (pc := 22) (lv' := [_, _, _, _, _]) dX12_draw_22 (by decide) rfl ?_
  refine G_lload_n (pc := 23) dX12_draw_23 rfl ?_
  refine G_lload_n (pc := 24) dX12_draw_24 rfl ?_
  refine G_lmul (pc := 25) dX12_draw_25 ?_
  rw [← Int.natCast_mul]
  refine G_ldc2 (pc := 26) dX12_draw_26 klX12_206 ?_
  refine G_lrem (pc := 29) dX12_draw_29 (Rl.mk (by omega) (by omega)) (Rl.mk (by omega) (by omega)) (by omega) ?_
  rw [show ((x * x : Nat) : Int).tmod 65521 = ((x * x % 65521 : Nat) : Int) from (Int.ofNat_tmod _ _).symm]
  refine G_ldc2 (pc := 30) dX12_draw_30 klX12_142 ?_
  refine G_lrem (pc := 33) dX12_draw_33 (Rl.mk (by omega) (by omega)) (Rl.mk (by omega) (by omega)) (by omega) ?_
  refine G_l2i (pc := 34) dX12_draw_34 ?_
  refine G_iret (pc := 35) dX12_draw_35 rfl ?_
  exact ⟨by rw [Int.ofNat_tmod]; rfl, rfl, rfl⟩
theorem m_sortOf (p : Nat) (hp : p < zN hs) (hM : 87 ≤ M) (hH : MH I 0 hs) (hB : HB hs) : FnF E mdX12_sortOf 0 M Rf [vr E 71, vi (p : Int)] I J (some (vi (soF hs (zS hs) p : Int))) I J := by
  have bS := hB.1
  have bN := hB.2.2.1
  have eN := hB.2.2.2.1
  refine FnQ.of (by decide +kernel) (Nat.le_of_ble_eq_true rfl) ?_
  show GM E mdX12_sortOf 0 M Rf _ I J 0 [some (vr E 71), some (vi (p : Int)), none, none] []
  have loop : ∀ (r s : Nat), s + r = zS hs → sumN (hs 0) s ≤ p → GM E mdX12_sortOf 0 M Rf (QF (some (vi (soF hs (zS hs) p : Int))) I J) I J 4 [some (vr E 71), some (vi (p : Int)), some (vi (s : Int)), some (vi ((p - sumN (hs 0) s : Nat) : Int))] [] := by
    intro r
    induction r with
    | zero =>
      intro s hs1 hle
      have hs1 : s = zS hs := by omega
      subst hs1
      exact absurd hle (by omega)
    | succ r ih =>
      intro s hs1 hle
      have hb := hB.2.2.2.2.1 s (by omega)
      have hsum : sumN (hs 0) (s + 1) = sumN (hs 0) s + hs 0 s := rfl
      refine G_iload_n (pc := 4) dX12_sortOf_4 rfl ?_
      refine G_aload_n (pc := 5) dX12_sortOf_5 rfl ?_
      refine G_getr (pc := 6) dX12_sortOf_6 fiX12_17 (by first | rfl | assumption) (by omega) (by first | rfl | assumption) ?_
      refine G_iconst (pc := 9) dX12_sortOf_9 ?_
      refine G_iload_n (pc := 10) dX12_sortOf_10 rfl ?_
      refine G_imul (pc := 11) dX12_sortOf_11 ?_
      refine G_ialdv (pc := 12) dX12_sortOf_12 (by first | rfl | assumption) (by omega) (by omega) (by omega) (by omega) (hH.so s 0 (by omega) (by omega) (by omega)) ?_
      refine G_icmp_lt (pc := 13) (tgt := 33) dX12_sortOf_13 (Ri.mk (by omega) (by omega)) (Ri.mk (by omega) (by omega)) (by decide) (fun h_13 => ?_) (fun h_13 => ?_)
      · refine G_iload_n (pc := 33) dX12_sortOf_33 rfl ?_
        refine G_iret (pc := 34) dX12_sortOf_34 rfl ?_
        exact ⟨by rw [soF_eq hle (by omega) (zS hs) (by omega)], rfl, rfl⟩
      · refine G_iload_n (pc := 16) dX12_sortOf_16 rfl ?_
        refine G_aload_n (pc := 17) dX12_sortOf_17 rfl ?_
        refine G_getr (pc := 18) dX12_sortOf_18 fiX12_17 (by first | rfl | assumption) (by omega) (by first | rfl | assumption) ?_
        refine G_iconst (pc := 21) dX12_sortOf_21 ?_
        refine G_iload_n (pc := 22) dX12_sortOf_22 rfl ?_
        refine G_imul (pc := 23) dX12_sortOf_23 ?_
        refine G_ialdv (pc := 24) dX12_sortOf_24 (by first | rfl | assumption) (by omega) (by omega) (by omega) (by omega) (hH.so s 0 (by omega) (by omega) (by omega)) ?_
        refine G_isub (pc := 25) dX12_sortOf_25 ?_
        refine G_istore_n (pc := 26) (lv' := [_, _, _, _]) dX12_sortOf_26 (by decide) rfl ?_
        refine G_iinc (pc := 27) (lv' := [_, _, _, _]) dX12_sortOf_27 (by decide) rfl rfl ?_
        refine G_goto (pc := 30) (tgt := 4) dX12_sortOf_30 (by decide) ?_
        refine G_eq rfl rfl ?_ rfl (ih (s + 1) (by omega) (by omega))
        rw [show ((p - sumN (hs 0) (s + 1) : Nat) : Int) = ((p - sumN (hs 0) s : Nat) : Int) - (hs 0 s : Int) by omega]; rfl
  refine G_iconst (pc := 0) dX12_sortOf_0 ?_
  refine G_istore_n (pc := 1) (lv' := [_, _, _, _]) dX12_sortOf_1 (by decide) rfl ?_
  refine G_iload_n (pc := 2) dX12_sortOf_2 rfl ?_
  refine G_istore_n (pc := 3) (lv' := [_, _, _, _]) dX12_sortOf_3 (by decide) rfl ?_
  exact loop (zS hs) 0 (by omega) (Nat.zero_le _)
theorem m_goes (z : Nat) (hM : 87 ≤ M) (hH : MH I 0 hs) (hB : HB hs) (hR : RM I 0 C) (hRB : RB hs C) (hz : z < 10000) : FnQ E mdX12_goes 3 M Rf [vr E 71, vi (z : Int)] I J (fun v I' J' => v = some (vi (sumN (thE hs C z) (zN hs) : Int)) ∧ J' = J ∧ OffG I I' ∧ NMI I' (zN hs) (thE hs C z) (pyE hs C z) ∧ I' 71 20 = sxN hs C z (C 0 0)) := by
  have bS := hB.1
  have bN := hB.2.2.1
  have n8 := hRB.1
  refine FnQ.of (by decide +kernel) (Nat.le_of_ble_eq_true rfl) ?_
  show GM E mdX12_goes 3 M Rf _ I J 0 [some (vr E 71), some (vi (z : Int)), none, none, none, none, none, none, none, none, none, none, none] []
  generalize hQ : (fun (v : Option Value) (I' J' : Nat → Nat → Int) => v = some (vi (sumN (thE hs C z) (zN hs) : Int)) ∧ J' = J ∧ OffG I I' ∧ NMI I' (zN hs) (thE hs C z) (pyE hs C z) ∧ I' 71 20 = sxN hs C z (C 0 0)) = Q
  have outer : ∀ (m t : Nat) (I' : Nat → Nat → Int) (d6 d7 d8 d9 d10 d11 d12 : Option Value), t + m = C 0 0 → OffG I I' → NMI I' (zN hs) (NS hs C z t).1 (NS hs C z t).2 → I' 71 20 = sxN hs C z t → GM E mdX12_goes 3 M Rf Q I' J 57 [some (vr E 71), some (vi (z : Int)), some (vi (zN hs : Int)), some (vi (sumN (NS hs C z t).1 (zN hs) : Int)), some (vi (ffN (NS hs C z t).1 (NS hs C z t).2 (zN hs) : Int)), some (vi (t : Int)), d6, d7, d8, d9, d10, d11, d12] [] := by
    intro m
    induction m with
    | zero =>
      intro t I' d6 d7 d8 d9 d10 d11 d12 ht hO hN h6
      have ht : t = C 0 0 := by omega
      subst ht
      have hR' : RM I' 0 C := hR.off (hO.1 79 (by decide) (by decide) (by decide)) (hO.1 80 (by decide) (by decide) (by decide))
      refine G_iload (pc := 57) dX12_goes_57 rfl ?_
      refine G_aload_n (pc := 59) dX12_goes_59 rfl ?_
      refine G_getr (pc := 60) dX12_goes_60 fiX12_32 (by first | rfl | assumption) (by omega) (by first | rfl | assumption) ?_
      refine G_iconst (pc := 63) dX12_goes_63 ?_
      refine G_ialdv (pc := 64) dX12_goes_64 (by first | rfl | assumption) (by omega) (by omega) (by omega) (by omega) (hR'.n rfl) ?_
      refine G_icmp_ge (pc := 65) (tgt := 338) dX12_goes_65 (Ri.mk (by omega) (by omega)) (Ri.mk (by omega) (by omega)) (by decide) (fun h_65 => ?_) (fun h_65 => ?_)
      · refine G_iload_n (pc := 338) dX12_goes_338 rfl ?_
        refine G_iret (pc := 339) dX12_goes_339 rfl ?_
        rw [← hQ]; exact ⟨rfl, rfl, hO, hN, h6⟩
      · exact absurd h_65 (by omega)
    | succ m ih =>
      intro t I' d6 d7 d8 d9 d10 d11 d12 ht hO hN h6
      have hsr := sxN_R hs C z t
      have hT := NS_B hs C z t
      have ihh := ih (t + 1)
      have hb := hRB.2 t (by omega)
      have hsx1 : sxN hs C z (t + 1) = if sxN hs C z t = -4 ∧ sumN (NS hs C z (t + 1)).1 (zN hs) ≤ 6 then (t : Int) + 1 else sxN hs C z t := rfl
      obtain ⟨th, eth⟩ : ∃ f, f = (NS hs C z t).1 := ⟨_, rfl⟩
      obtain ⟨py, epy⟩ : ∃ f, f = (NS hs C z t).2 := ⟨_, rfl⟩
      obtain ⟨fo, hfd⟩ : ∃ fo, fo = ffN th py (zN hs) := ⟨_, rfl⟩
      obtain ⟨th', hth⟩ : ∃ f, f = thU hs C z t fo th := ⟨_, rfl⟩
      obtain ⟨py', hpy⟩ : ∃ f, f = pyU hs C z t fo th := ⟨_, rfl⟩
      have e1 : (NS hs C z (t + 1)).1 = th' := by rw [hth, hfd, eth, epy]; rfl
      have e2 : (NS hs C z (t + 1)).2 = py' := by rw [hpy, hfd, eth, epy]; rfl
      rw [← eth, ← epy] at hN hT ⊢
      rw [← hfd]
      rw [e1] at hsx1
      rw [e1, e2] at ihh
      obtain ⟨t1, t2, t3⟩ := hT
      have hfo1 : fo ≤ 1 := by
        rw [hfd, ffN_nx]
        split
        · omega
        · exact Nat.le_trans (t3 _) (t1 _)
      have u1 : ∀ p, th' p ≤ 1 := fun p => by rw [hth]; simp only [thU]; split <;> omega
      have u3 : ∀ p, py' p ≤ 1 := fun p => by rw [hpy]; simp only [pyU]; split <;> omega
      have tail : ∀ (I' : Nat → Nat → Int) (d6 d7 d8 d9 d10 d11 d12 : Option Value), OffG I I' → NMI I' (zN hs) th' py' → I' 71 20 = sxN hs C z t → GM E mdX12_goes 3 M Rf Q I' J 304 [some (vr E 71), some (vi (z : Int)), some (vi (zN hs : Int)), some (vi (sumN th' (zN hs) : Int)), some (vi (ffN th' py' (zN hs) : Int)), some (vi (t : Int)), d6, d7, d8, d9, d10, d11, d12] [] := by
        intro I' d6 d7 d8 d9 d10 d11 d12 hO hN h6
        have hs120 := sumN_le1 u1 (zN hs)
        refine G_aload_n (pc := 304) dX12_goes_304 rfl ?_
        refine G_aload_n (pc := 305) dX12_goes_305 rfl ?_
        refine G_getiv (pc := 306) dX12_goes_306 fiX12_208 (by first | rfl | assumption) (by omega) (h6) ?_
        refine G_if_ge (pc := 309) (tgt := 325) dX12_goes_309 (Ri.mk (by omega) (by omega)) (by decide) (fun h_309 => ?_) (fun h_309 => ?_)
        · refine G_aload_n (pc := 325) dX12_goes_325 rfl ?_
          refine G_getiv (pc := 326) dX12_goes_326 fiX12_208 (by first | rfl | assumption) (by omega) (h6) ?_
          refine G_puti (pc := 329) dX12_goes_329 fiX12_208 (by first | rfl | assumption) (by omega) ?_
          refine G_iinc (pc := 332) (lv' := [_, _, _, _, _, _, _, _, _, _, _, _, _]) dX12_goes_332 (by decide) rfl rfl ?_
          refine G_goto (pc := 335) (tgt := 57) dX12_goes_335 (by decide) ?_
          first
            | exact ihh _ d6 d7 d8 d9 d10 d11 d12 (by omega) hO.w71 hN.w71 (by rw [wr_s, hsx1, if_pos (by omega)])
            | exact ihh _ d6 d7 d8 d9 d10 d11 d12 (by omega) hO.w71 hN.w71 (by rw [wr_s, hsx1, if_neg (by omega)])
        · refine G_iload_n (pc := 312) dX12_goes_312 rfl ?_
          refine G_bipush (pc := 313) dX12_goes_313 (by decide) ?_
          refine G_icmp_gt (pc := 315) (tgt := 325) dX12_goes_315 (Ri.mk (by omega) (by omega)) (Ri.mk (by omega) (by omega)) (by decide) (fun h_315 => ?_) (fun h_315 => ?_)
          · refine G_aload_n (pc := 325) dX12_goes_325 rfl ?_
            refine G_getiv (pc := 326) dX12_goes_326 fiX12_208 (by first | rfl | assumption) (by omega) (h6) ?_
            refine G_puti (pc := 329) dX12_goes_329 fiX12_208 (by first | rfl | assumption) (by omega) ?_
            refine G_iinc (pc := 332) (lv' := [_, _, _, _, _, _, _, _, _, _, _, _, _]) dX12_goes_332 (by decide) rfl rfl ?_
            refine G_goto (pc := 335) (tgt := 57) dX12_goes_335 (by decide) ?_
            first
              | exact ihh _ d6 d7 d8 d9 d10 d11 d12 (by omega) hO.w71 hN.w71 (by rw [wr_s, hsx1, if_pos (by omega)])
              | exact ihh _ d6 d7 d8 d9 d10 d11 d12 (by omega) hO.w71 hN.w71 (by rw [wr_s, hsx1, if_neg (by omega)])
          · refine G_iload (pc := 318) dX12_goes_318 rfl ?_
            refine G_iconst (pc := 320) dX12_goes_320 ?_
            refine G_iadd (pc := 321) dX12_goes_321 ?_
            refine G_goto (pc := 322) (tgt := 329) dX12_goes_322 (by decide) ?_
            refine G_puti (pc := 329) dX12_goes_329 fiX12_208 (by first | rfl | assumption) (by omega) ?_
            refine G_iinc (pc := 332) (lv' := [_, _, _, _, _, _, _, _, _, _, _, _, _]) dX12_goes_332 (by decide) rfl rfl ?_
            refine G_goto (pc := 335) (tgt := 57) dX12_goes_335 (by decide) ?_
            first
              | exact ihh _ d6 d7 d8 d9 d10 d11 d12 (by omega) hO.w71 hN.w71 (by rw [wr_s, hsx1, if_pos (by omega)])
              | exact ihh _ d6 d7 d8 d9 d10 d11 d12 (by omega) hO.w71 hN.w71 (by rw [wr_s, hsx1, if_neg (by omega)])
      have inner : ∀ (k p : Nat) (I' : Nat → Nat → Int) (d9 d10 d11 d12 : Option Value), p + k = zN hs → OffG I I' → NMI I' (zN hs) (mx th' th p) (mx py' py p) → I' 71 20 = sxN hs C z t → GM E mdX12_goes 3 M Rf Q I' J 85 [some (vr E 71), some (vi (z : Int)), some (vi (zN hs : Int)), some (vi (sumN (mx th' th p) (zN hs) : Int)), some (vi (fo : Int)), some (vi (t : Int)), some (vi (C 1 t : Int)), some (vi (nxN th' p)), some (vi (p : Int)), d9, d10, d11, d12] [] := by
        intro k
        induction k with
        | zero =>
          intro p I' d9 d10 d11 d12 hp hO hN h6
          have hp : p = zN hs := by omega
          subst hp
          have hNf : NMI I' (zN hs) th' py' := fun x hx => by
            have := hN x hx
            rw [show mx th' th (zN hs) x = th' x from if_pos hx, show mx py' py (zN hs) x = py' x from if_pos hx] at this
            exact this
          have hsum : sumN (mx th' th (zN hs)) (zN hs) = sumN th' (zN hs) := sumN_congr fun x hx => if_pos hx
          have hff := ffN_nx th' py' (zN hs)
          have hnr := nxN_R th' (zN hs)
          have hp1 := u3 (nxN th' (zN hs)).toNat
          refine G_iload (pc := 85) dX12_goes_85 rfl ?_
          refine G_iload_n (pc := 87) dX12_goes_87 rfl ?_
          refine G_icmp_ge (pc := 88) (tgt := 282) dX12_goes_88 (Ri.mk (by omega) (by omega)) (Ri.mk (by omega) (by omega)) (by decide) (fun h_88 => ?_) (fun h_88 => ?_)
          · refine G_iload (pc := 282) dX12_goes_282 rfl ?_
            refine G_if_lt (pc := 284) (tgt := 301) dX12_goes_284 (Ri.mk (by omega) (by omega)) (by decide) (fun h_284 => ?_) (fun h_284 => ?_)
            · refine G_iconst (pc := 301) dX12_goes_301 ?_
              refine G_istore (pc := 302) (lv' := [_, _, _, _, _, _, _, _, _, _, _, _, _]) dX12_goes_302 (by decide) rfl ?_
              refine G_eq rfl rfl ?_ rfl (tail I' (some (vi (C 1 t : Int))) (some (vi (nxN th' (zN hs)))) (some (vi (zN hs : Int))) d9 d10 d11 d12 hO hNf h6)
              first
                | (rw [hsum, show ffN th' py' (zN hs) = 0 by rw [hff]; split <;> omega]; rfl)
                | (rw [hsum, show ffN th' py' (zN hs) = 1 by rw [hff]; split <;> omega]; rfl)
            · refine G_aload_n (pc := 287) dX12_goes_287 rfl ?_
              refine G_getr (pc := 288) dX12_goes_288 fiX12_52 (by first | rfl | assumption) (by omega) (by first | rfl | assumption) ?_
              refine G_iload (pc := 291) dX12_goes_291 rfl ?_
              refine G_zaldv (pc := 293) dX12_goes_293 (by first | rfl | assumption) (by omega) (by omega) (by omega) (by omega) ((hNf (nxN th' (zN hs)).toNat (by omega)).2 (nx_th u1 _ (by omega))) ?_
              refine G_if_eq (pc := 294) (tgt := 301) dX12_goes_294 (Ri.mk (by omega) (by omega)) (by decide) (fun h_294 => ?_) (fun h_294 => ?_)
              · try simp only [bI_eq0, bI_ne0] at h_294
                refine G_iconst (pc := 301) dX12_goes_301 ?_
                refine G_istore (pc := 302) (lv' := [_, _, _, _, _, _, _, _, _, _, _, _, _]) dX12_goes_302 (by decide) rfl ?_
                refine G_eq rfl rfl ?_ rfl (tail I' (some (vi (C 1 t : Int))) (some (vi (nxN th' (zN hs)))) (some (vi (zN hs : Int))) d9 d10 d11 d12 hO hNf h6)
                first
                  | (rw [hsum, show ffN th' py' (zN hs) = 0 by rw [hff]; split <;> omega]; rfl)
                  | (rw [hsum, show ffN th' py' (zN hs) = 1 by rw [hff]; split <;> omega]; rfl)
              · try simp only [bI_eq0, bI_ne0] at h_294
                refine G_iconst (pc := 297) dX12_goes_297 ?_
                refine G_goto (pc := 298) (tgt := 302) dX12_goes_298 (by decide) ?_
                refine G_istore (pc := 302) (lv' := [_, _, _, _, _, _, _, _, _, _, _, _, _]) dX12_goes_302 (by decide) rfl ?_
                refine G_eq rfl rfl ?_ rfl (tail I' (some (vi (C 1 t : Int))) (some (vi (nxN th' (zN hs)))) (some (vi (zN hs : Int))) d9 d10 d11 d12 hO hNf h6)
                first
                  | (rw [hsum, show ffN th' py' (zN hs) = 0 by rw [hff]; split <;> omega]; rfl)
                  | (rw [hsum, show ffN th' py' (zN hs) = 1 by rw [hff]; split <;> omega]; rfl)
          · exact absurd h_88 (by omega)
        | succ k ihk =>
          intro p I' d9 d10 d11 d12 hp hO hN h6
          have hH' : MH I' 0 hs := hH.off fun q a b => hO.1 q (by omega) (by omega) (by omega)
          have hR' : RM I' 0 C := hR.off (hO.1 79 (by decide) (by decide) (by decide)) (hO.1 80 (by decide) (by decide) (by decide))
          obtain ⟨s, es⟩ : ∃ s, s = soF hs (zS hs) p := ⟨_, rfl⟩
          have h0S : 0 < zS hs := by
            rcases Nat.eq_zero_or_pos (zS hs) with h | h
            · have := hB.2.2.2.1
              rw [h] at this
              have : zN hs = 0 := this
              omega
            · exact h
          have hsl : s < zS hs := by rw [es]; exact soF_lt hs p _ h0S
          obtain ⟨f, ef⟩ : ∃ f, f = fe hs s (C 1 t) 0 := ⟨_, rfl⟩
          have hf10 : f ≤ 10 := by rw [ef]; exact fe_le _ _ _ _
          have hp10 := pl_le hs s (C 1 t) 0
          obtain ⟨d, hd⟩ : ∃ d, d = dof f (min 10 (pl hs s (C 1 t) 0 + fo)) := ⟨_, rfl⟩
          have hd100 : d ≤ 100 := by rw [hd]; exact dof_le hf10 (by omega)
          obtain ⟨rz, hrz⟩ : ∃ rz, rz = rzN z p t := ⟨_, rfl⟩
          have hrz100 : rz < 100 := by rw [hrz, rzN]; exact Nat.mod_lt _ (by decide)
          have et : th' p = if th p = 1 ∧ (rz < d ↔ C 2 t = 0) then 1 else 0 := by rw [hth, hrz, hd, ef, es]; rfl
          have ey : py' p = if (th p = 1 ∧ (rz < d ↔ C 2 t = 0)) ∧ rz < d ∧ 10 * f ≤ rz then 1 else 0 := by rw [hpy, hrz, hd, ef, es]; rfl
          have ms := mx_sum (f := th') (g := th) (show p < zN hs by omega)
          have hsl1 := sumN_le1 (th := mx th' th p) (fun x => by simp only [mx]; split; exact u1 x; exact t1 x) (zN hs)
          have ht1p := t1 p
          have hu1p := u1 p
          have hnr := nxN_R th' p
          have hns := nxN_s u1 p
          have P3 : ∀ (I2 : Nat → Nat → Int) (d9 d10 d11 d12 : Option Value), OffG I I2 → NMI I2 (zN hs) (mx th' th (p + 1)) (mx py' py (p + 1)) → I2 71 20 = sxN hs C z t → th p = 1 → GM E mdX12_goes 3 M Rf Q I2 J 234 [some (vr E 71), some (vi (z : Int)), some (vi (zN hs : Int)), some (vi (sumN (mx th' th p) (zN hs) : Int)), some (vi (fo : Int)), some (vi (t : Int)), some (vi (C 1 t : Int)), some (vi (nxN th' p)), some (vi (p : Int)), d9, d10, d11, d12] [] := by
            intro I2 d9 d10 d11 d12 hO2 hN2 h62 hth1
            have hv : I2 84 ((p : Int)).toNat = (th' p : Int) := by rw [Int.toNat_natCast, (hN2 p (by omega)).1, mx_at]
            refine G_iload_n (pc := 234) dX12_goes_234 rfl ?_
            refine G_aload_n (pc := 235) dX12_goes_235 rfl ?_
            refine G_getr (pc := 236) dX12_goes_236 fiX12_48 (by first | rfl | assumption) (by omega) (by first | rfl | assumption) ?_
            refine G_iload (pc := 239) dX12_goes_239 rfl ?_
            refine G_zaldv (pc := 241) dX12_goes_241 (by first | rfl | assumption) (by omega) (by omega) (by omega) (by omega) (hv) ?_
            refine G_if_eq (pc := 242) (tgt := 249) dX12_goes_242 (Ri.mk (by omega) (by omega)) (by decide) (fun h_242 => ?_) (fun h_242 => ?_)
            · try simp only [bI_eq0, bI_ne0] at h_242
              refine G_iconst (pc := 249) dX12_goes_249 ?_
              refine G_isub (pc := 250) dX12_goes_250 ?_
              refine G_istore_n (pc := 251) (lv' := [_, _, _, _, _, _, _, _, _, _, _, _, _]) dX12_goes_251 (by decide) rfl ?_
              refine G_aload_n (pc := 252) dX12_goes_252 rfl ?_
              refine G_getr (pc := 253) dX12_goes_253 fiX12_48 (by first | rfl | assumption) (by omega) (by first | rfl | assumption) ?_
              refine G_iload (pc := 256) dX12_goes_256 rfl ?_
              refine G_zaldv (pc := 258) dX12_goes_258 (by first | rfl | assumption) (by omega) (by omega) (by omega) (by omega) (hv) ?_
              refine G_if_eq (pc := 259) (tgt := 272) dX12_goes_259 (Ri.mk (by omega) (by omega)) (by decide) (fun h_259 => ?_) (fun h_259 => ?_)
              · try simp only [bI_eq0, bI_ne0] at h_259
                refine G_iload (pc := 272) dX12_goes_272 rfl ?_
                refine G_istore (pc := 274) (lv' := [_, _, _, _, _, _, _, _, _, _, _, _, _]) dX12_goes_274 (by decide) rfl ?_
                refine G_iinc (pc := 276) (lv' := [_, _, _, _, _, _, _, _, _, _, _, _, _]) dX12_goes_276 (by decide) rfl rfl ?_
                refine G_goto (pc := 279) (tgt := 85) dX12_goes_279 (by decide) ?_
                first
                  | (exfalso; omega)
                  | (refine G_eq rfl rfl ?_ rfl (ihk (p + 1) I2 d9 d10 d11 d12 (by omega) hO2 hN2 h62)
                     first
                       | (rw [show ((sumN (mx th' th (p + 1)) (zN hs) : Nat) : Int) = (sumN (mx th' th p) (zN hs) : Int) - 0 by omega, show nxN th' (p + 1) = (p : Int) by rw [hns, if_pos (by omega)]]; rfl)
                       | (rw [show ((sumN (mx th' th (p + 1)) (zN hs) : Nat) : Int) = (sumN (mx th' th p) (zN hs) : Int) - 0 by omega, show nxN th' (p + 1) = nxN th' p by rw [hns, if_neg (by omega)]]; rfl)
                       | (rw [show ((sumN (mx th' th (p + 1)) (zN hs) : Nat) : Int) = (sumN (mx th' th p) (zN hs) : Int) - 1 by omega, show nxN th' (p + 1) = nxN th' p by rw [hns, if_neg (by omega)]]; rfl))
              · try simp only [bI_eq0, bI_ne0] at h_259
                refine G_iload (pc := 262) dX12_goes_262 rfl ?_
                refine G_if_ge (pc := 264) (tgt := 272) dX12_goes_264 (Ri.mk (by omega) (by omega)) (by decide) (fun h_264 => ?_) (fun h_264 => ?_)
                · refine G_iload (pc := 272) dX12_goes_272 rfl ?_
                  refine G_istore (pc := 274) (lv' := [_, _, _, _, _, _, _, _, _, _, _, _, _]) dX12_goes_274 (by decide) rfl ?_
                  refine G_iinc (pc := 276) (lv' := [_, _, _, _, _, _, _, _, _, _, _, _, _]) dX12_goes_276 (by decide) rfl rfl ?_
                  refine G_goto (pc := 279) (tgt := 85) dX12_goes_279 (by decide) ?_
                  first
                    | (exfalso; omega)
                    | (refine G_eq rfl rfl ?_ rfl (ihk (p + 1) I2 d9 d10 d11 d12 (by omega) hO2 hN2 h62)
                       first
                         | (rw [show ((sumN (mx th' th (p + 1)) (zN hs) : Nat) : Int) = (sumN (mx th' th p) (zN hs) : Int) - 0 by omega, show nxN th' (p + 1) = (p : Int) by rw [hns, if_pos (by omega)]]; rfl)
                         | (rw [show ((sumN (mx th' th (p + 1)) (zN hs) : Nat) : Int) = (sumN (mx th' th p) (zN hs) : Int) - 0 by omega, show nxN th' (p + 1) = nxN th' p by rw [hns, if_neg (by omega)]]; rfl)
                         | (rw [show ((sumN (mx th' th (p + 1)) (zN hs) : Nat) : Int) = (sumN (mx th' th p) (zN hs) : Int) - 1 by omega, show nxN th' (p + 1) = nxN th' p by rw [hns, if_neg (by omega)]]; rfl))
                · refine G_iload (pc := 267) dX12_goes_267 rfl ?_
                  refine G_goto (pc := 269) (tgt := 274) dX12_goes_269 (by decide) ?_
                  refine G_istore (pc := 274) (lv' := [_, _, _, _, _, _, _, _, _, _, _, _, _]) dX12_goes_274 (by decide) rfl ?_
                  refine G_iinc (pc := 276) (lv' := [_, _, _, _, _, _, _, _, _, _, _, _, _]) dX12_goes_276 (by decide) rfl rfl ?_
                  refine G_goto (pc := 279) (tgt := 85) dX12_goes_279 (by decide) ?_
                  first
                    | (exfalso; omega)
                    | (refine G_eq rfl rfl ?_ rfl (ihk (p + 1) I2 d9 d10 d11 d12 (by omega) hO2 hN2 h62)
                       first
                         | (rw [show ((sumN (mx th' th (p + 1)) (zN hs) : Nat) : Int) = (sumN (mx th' th p) (zN hs) : Int) - 0 by omega, show nxN th' (p + 1) = (p : Int) by rw [hns, if_pos (by omega)]]; rfl)
                         | (rw [show ((sumN (mx th' th (p + 1)) (zN hs) : Nat) : Int) = (sumN (mx th' th p) (zN hs) : Int) - 0 by omega, show nxN th' (p + 1) = nxN th' p by rw [hns, if_neg (by omega)]]; rfl)
                         | (rw [show ((sumN (mx th' th (p + 1)) (zN hs) : Nat) : Int) = (sumN (mx th' th p) (zN hs) : Int) - 1 by omega, show nxN th' (p + 1) = nxN th' p by rw [hns, if_neg (by omega)]]; rfl))
            · try simp only [bI_eq0, bI_ne0] at h_242
              refine G_iconst (pc := 245) dX12_goes_245 ?_
              refine G_goto (pc := 246) (tgt := 250) dX12_goes_246 (by decide) ?_
              refine G_isub (pc := 250) dX12_goes_250 ?_
              refine G_istore_n (pc := 251) (lv' := [_, _, _, _, _, _, _, _, _, _, _, _, _]) dX12_goes_251 (by decide) rfl ?_
              refine G_aload_n (pc := 252) dX12_goes_252 rfl ?_
              refine G_getr (pc := 253) dX12_goes_253 fiX12_48 (by first | rfl | assumption) (by omega) (by first | rfl | assumption) ?_
              refine G_iload (pc := 256) dX12_goes_256 rfl ?_
              refine G_zaldv (pc := 258) dX12_goes_258 (by first | rfl | assumption) (by omega) (by omega) (by omega) (by omega) (hv) ?_
              refine G_if_eq (pc := 259) (tgt := 272) dX12_goes_259 (Ri.mk (by omega) (by omega)) (by decide) (fun h_259 => ?_) (fun h_259 => ?_)
              · try simp only [bI_eq0, bI_ne0] at h_259
                refine G_iload (pc := 272) dX12_goes_272 rfl ?_
                refine G_istore (pc := 274) (lv' := [_, _, _, _, _, _, _, _, _, _, _, _, _]) dX12_goes_274 (by decide) rfl ?_
                refine G_iinc (pc := 276) (lv' := [_, _, _, _, _, _, _, _, _, _, _, _, _]) dX12_goes_276 (by decide) rfl rfl ?_
                refine G_goto (pc := 279) (tgt := 85) dX12_goes_279 (by decide) ?_
                first
                  | (exfalso; omega)
                  | (refine G_eq rfl rfl ?_ rfl (ihk (p + 1) I2 d9 d10 d11 d12 (by omega) hO2 hN2 h62)
                     first
                       | (rw [show ((sumN (mx th' th (p + 1)) (zN hs) : Nat) : Int) = (sumN (mx th' th p) (zN hs) : Int) - 0 by omega, show nxN th' (p + 1) = (p : Int) by rw [hns, if_pos (by omega)]]; rfl)
                       | (rw [show ((sumN (mx th' th (p + 1)) (zN hs) : Nat) : Int) = (sumN (mx th' th p) (zN hs) : Int) - 0 by omega, show nxN th' (p + 1) = nxN th' p by rw [hns, if_neg (by omega)]]; rfl)
                       | (rw [show ((sumN (mx th' th (p + 1)) (zN hs) : Nat) : Int) = (sumN (mx th' th p) (zN hs) : Int) - 1 by omega, show nxN th' (p + 1) = nxN th' p by rw [hns, if_neg (by omega)]]; rfl))
              · try simp only [bI_eq0, bI_ne0] at h_259
                refine G_iload (pc := 262) dX12_goes_262 rfl ?_
                refine G_if_ge (pc := 264) (tgt := 272) dX12_goes_264 (Ri.mk (by omega) (by omega)) (by decide) (fun h_264 => ?_) (fun h_264 => ?_)
                · refine G_iload (pc := 272) dX12_goes_272 rfl ?_
                  refine G_istore (pc := 274) (lv' := [_, _, _, _, _, _, _, _, _, _, _, _, _]) dX12_goes_274 (by decide) rfl ?_
                  refine G_iinc (pc := 276) (lv' := [_, _, _, _, _, _, _, _, _, _, _, _, _]) dX12_goes_276 (by decide) rfl rfl ?_
                  refine G_goto (pc := 279) (tgt := 85) dX12_goes_279 (by decide) ?_
                  first
                    | (exfalso; omega)
                    | (refine G_eq rfl rfl ?_ rfl (ihk (p + 1) I2 d9 d10 d11 d12 (by omega) hO2 hN2 h62)
                       first
                         | (rw [show ((sumN (mx th' th (p + 1)) (zN hs) : Nat) : Int) = (sumN (mx th' th p) (zN hs) : Int) - 0 by omega, show nxN th' (p + 1) = (p : Int) by rw [hns, if_pos (by omega)]]; rfl)
                         | (rw [show ((sumN (mx th' th (p + 1)) (zN hs) : Nat) : Int) = (sumN (mx th' th p) (zN hs) : Int) - 0 by omega, show nxN th' (p + 1) = nxN th' p by rw [hns, if_neg (by omega)]]; rfl)
                         | (rw [show ((sumN (mx th' th (p + 1)) (zN hs) : Nat) : Int) = (sumN (mx th' th p) (zN hs) : Int) - 1 by omega, show nxN th' (p + 1) = nxN th' p by rw [hns, if_neg (by omega)]]; rfl))
                · refine G_iload (pc := 267) dX12_goes_267 rfl ?_
                  refine G_goto (pc := 269) (tgt := 274) dX12_goes_269 (by decide) ?_
                  refine G_istore (pc := 274) (lv' := [_, _, _, _, _, _, _, _, _, _, _, _, _]) dX12_goes_274 (by decide) rfl ?_
                  refine G_iinc (pc := 276) (lv' := [_, _, _, _, _, _, _, _, _, _, _, _, _]) dX12_goes_276 (by decide) rfl rfl ?_
                  refine G_goto (pc := 279) (tgt := 85) dX12_goes_279 (by decide) ?_
                  first
                    | (exfalso; omega)
                    | (refine G_eq rfl rfl ?_ rfl (ihk (p + 1) I2 d9 d10 d11 d12 (by omega) hO2 hN2 h62)
                       first
                         | (rw [show ((sumN (mx th' th (p + 1)) (zN hs) : Nat) : Int) = (sumN (mx th' th p) (zN hs) : Int) - 0 by omega, show nxN th' (p + 1) = (p : Int) by rw [hns, if_pos (by omega)]]; rfl)
                         | (rw [show ((sumN (mx th' th (p + 1)) (zN hs) : Nat) : Int) = (sumN (mx th' th p) (zN hs) : Int) - 0 by omega, show nxN th' (p + 1) = nxN th' p by rw [hns, if_neg (by omega)]]; rfl)
                         | (rw [show ((sumN (mx th' th (p + 1)) (zN hs) : Nat) : Int) = (sumN (mx th' th p) (zN hs) : Int) - 1 by omega, show nxN th' (p + 1) = nxN th' p by rw [hns, if_neg (by omega)]]; rfl))
          have P2 : ∀ (b : Nat), ((b = 1 ∧ (rz < d ∧ 10 * f ≤ rz)) ∨ (b = 0 ∧ ¬ (rz < d ∧ 10 * f ≤ rz))) → th p = 1 → GM E mdX12_goes 3 M Rf Q (wr I' 85 p (b : Int)) J 188 [some (vr E 71), some (vi (z : Int)), some (vi (zN hs : Int)), some (vi (sumN (mx th' th p) (zN hs) : Int)), some (vi (fo : Int)), some (vi (t : Int)), some (vi (C 1 t : Int)), some (vi (nxN th' p)), some (vi (p : Int)), some (vi (s : Int)), some (vi (f : Int)), some (vi (d : Int)), some (vi (rz : Int))] [] := by
            intro b hbb hth1
            have hR2 : RM (wr I' 85 p (b : Int)) 0 C := hR'.off (wr_o (by decide)) (wr_o (by decide))
            refine G_aload_n (pc := 188) dX12_goes_188 rfl ?_
            refine G_getr (pc := 189) dX12_goes_189 fiX12_48 (by first | rfl | assumption) (by omega) (by first | rfl | assumption) ?_
            refine G_iload (pc := 192) dX12_goes_192 rfl ?_
            refine G_iload (pc := 194) dX12_goes_194 rfl ?_
            refine G_iload (pc := 196) dX12_goes_196 rfl ?_
            refine G_icmp_ge (pc := 198) (tgt := 205) dX12_goes_198 (Ri.mk (by omega) (by omega)) (Ri.mk (by omega) (by omega)) (by decide) (fun h_198 => ?_) (fun h_198 => ?_)
            · refine G_iconst (pc := 205) dX12_goes_205 ?_
              refine G_aload_n (pc := 206) dX12_goes_206 rfl ?_
              refine G_getr (pc := 207) dX12_goes_207 fiX12_35 (by first | rfl | assumption) (by omega) (by first | rfl | assumption) ?_
              refine G_iconst (pc := 210) dX12_goes_210 ?_
              refine G_iload (pc := 211) dX12_goes_211 rfl ?_
              refine G_imul (pc := 213) dX12_goes_213 ?_
              refine G_iconst (pc := 214) dX12_goes_214 ?_
              refine G_iadd (pc := 215) dX12_goes_215 ?_
              refine G_ialdv (pc := 216) dX12_goes_216 (by first | rfl | assumption) (by omega) (by omega) (by omega) (by omega) (hR2.k t (by omega) (by omega)) ?_
              refine G_if_ne (pc := 217) (tgt := 224) dX12_goes_217 (Ri.mk (by omega) (by omega)) (by decide) (fun h_217 => ?_) (fun h_217 => ?_)
              · try simp only [bI_eq0, bI_ne0] at h_217
                refine G_iconst (pc := 224) dX12_goes_224 ?_
                refine G_icmp_ne (pc := 225) (tgt := 232) dX12_goes_225 (Ri.mk (by omega) (by omega)) (Ri.mk (by omega) (by omega)) (by decide) (fun h_225 => ?_) (fun h_225 => ?_)
                · refine G_iconst (pc := 232) dX12_goes_232 ?_
                  refine G_zast (pc := 233) dX12_goes_233 (by first | rfl | assumption) (by omega) (by omega) (by omega) (by omega) (by omega) ?_
                  rw [Int.toNat_natCast]
                  first
                    | (exfalso; omega)
                    | exact P3 _ _ _ _ _ hO.w85.w84 (NMI.up (a := 1) (b := b) hN (by rw [et, if_pos (by omega)]) (fun _ => by rw [ey]; split <;> omega)) (by rw [wr_o (by decide), wr_o (by decide)]; exact h6) hth1
                    | exact P3 _ _ _ _ _ hO.w85.w84 (NMI.up (a := 0) (b := b) hN (by rw [et, if_neg (by omega)]) (fun z => absurd z (by decide))) (by rw [wr_o (by decide), wr_o (by decide)]; exact h6) hth1
                · refine G_iconst (pc := 228) dX12_goes_228 ?_
                  refine G_goto (pc := 229) (tgt := 233) dX12_goes_229 (by decide) ?_
                  refine G_zast (pc := 233) dX12_goes_233 (by first | rfl | assumption) (by omega) (by omega) (by omega) (by omega) (by omega) ?_
                  rw [Int.toNat_natCast]
                  first
                    | (exfalso; omega)
                    | exact P3 _ _ _ _ _ hO.w85.w84 (NMI.up (a := 1) (b := b) hN (by rw [et, if_pos (by omega)]) (fun _ => by rw [ey]; split <;> omega)) (by rw [wr_o (by decide), wr_o (by decide)]; exact h6) hth1
                    | exact P3 _ _ _ _ _ hO.w85.w84 (NMI.up (a := 0) (b := b) hN (by rw [et, if_neg (by omega)]) (fun z => absurd z (by decide))) (by rw [wr_o (by decide), wr_o (by decide)]; exact h6) hth1
              · try simp only [bI_eq0, bI_ne0] at h_217
                refine G_iconst (pc := 220) dX12_goes_220 ?_
                refine G_goto (pc := 221) (tgt := 225) dX12_goes_221 (by decide) ?_
                refine G_icmp_ne (pc := 225) (tgt := 232) dX12_goes_225 (Ri.mk (by omega) (by omega)) (Ri.mk (by omega) (by omega)) (by decide) (fun h_225 => ?_) (fun h_225 => ?_)
                · refine G_iconst (pc := 232) dX12_goes_232 ?_
                  refine G_zast (pc := 233) dX12_goes_233 (by first | rfl | assumption) (by omega) (by omega) (by omega) (by omega) (by omega) ?_
                  rw [Int.toNat_natCast]
                  first
                    | (exfalso; omega)
                    | exact P3 _ _ _ _ _ hO.w85.w84 (NMI.up (a := 1) (b := b) hN (by rw [et, if_pos (by omega)]) (fun _ => by rw [ey]; split <;> omega)) (by rw [wr_o (by decide), wr_o (by decide)]; exact h6) hth1
                    | exact P3 _ _ _ _ _ hO.w85.w84 (NMI.up (a := 0) (b := b) hN (by rw [et, if_neg (by omega)]) (fun z => absurd z (by decide))) (by rw [wr_o (by decide), wr_o (by decide)]; exact h6) hth1
                · refine G_iconst (pc := 228) dX12_goes_228 ?_
                  refine G_goto (pc := 229) (tgt := 233) dX12_goes_229 (by decide) ?_
                  refine G_zast (pc := 233) dX12_goes_233 (by first | rfl | assumption) (by omega) (by omega) (by omega) (by omega) (by omega) ?_
                  rw [Int.toNat_natCast]
                  first
                    | (exfalso; omega)
                    | exact P3 _ _ _ _ _ hO.w85.w84 (NMI.up (a := 1) (b := b) hN (by rw [et, if_pos (by omega)]) (fun _ => by rw [ey]; split <;> omega)) (by rw [wr_o (by decide), wr_o (by decide)]; exact h6) hth1
                    | exact P3 _ _ _ _ _ hO.w85.w84 (NMI.up (a := 0) (b := b) hN (by rw [et, if_neg (by omega)]) (fun z => absurd z (by decide))) (by rw [wr_o (by decide), wr_o (by decide)]; exact h6) hth1
            · refine G_iconst (pc := 201) dX12_goes_201 ?_
              refine G_goto (pc := 202) (tgt := 206) dX12_goes_202 (by decide) ?_
              refine G_aload_n (pc := 206) dX12_goes_206 rfl ?_
              refine G_getr (pc := 207) dX12_goes_207 fiX12_35 (by first | rfl | assumption) (by omega) (by first | rfl | assumption) ?_
              refine G_iconst (pc := 210) dX12_goes_210 ?_
              refine G_iload (pc := 211) dX12_goes_211 rfl ?_
              refine G_imul (pc := 213) dX12_goes_213 ?_
              refine G_iconst (pc := 214) dX12_goes_214 ?_
              refine G_iadd (pc := 215) dX12_goes_215 ?_
              refine G_ialdv (pc := 216) dX12_goes_216 (by first | rfl | assumption) (by omega) (by omega) (by omega) (by omega) (hR2.k t (by omega) (by omega)) ?_
              refine G_if_ne (pc := 217) (tgt := 224) dX12_goes_217 (Ri.mk (by omega) (by omega)) (by decide) (fun h_217 => ?_) (fun h_217 => ?_)
              · try simp only [bI_eq0, bI_ne0] at h_217
                refine G_iconst (pc := 224) dX12_goes_224 ?_
                refine G_icmp_ne (pc := 225) (tgt := 232) dX12_goes_225 (Ri.mk (by omega) (by omega)) (Ri.mk (by omega) (by omega)) (by decide) (fun h_225 => ?_) (fun h_225 => ?_)
                · refine G_iconst (pc := 232) dX12_goes_232 ?_
                  refine G_zast (pc := 233) dX12_goes_233 (by first | rfl | assumption) (by omega) (by omega) (by omega) (by omega) (by omega) ?_
                  rw [Int.toNat_natCast]
                  first
                    | (exfalso; omega)
                    | exact P3 _ _ _ _ _ hO.w85.w84 (NMI.up (a := 1) (b := b) hN (by rw [et, if_pos (by omega)]) (fun _ => by rw [ey]; split <;> omega)) (by rw [wr_o (by decide), wr_o (by decide)]; exact h6) hth1
                    | exact P3 _ _ _ _ _ hO.w85.w84 (NMI.up (a := 0) (b := b) hN (by rw [et, if_neg (by omega)]) (fun z => absurd z (by decide))) (by rw [wr_o (by decide), wr_o (by decide)]; exact h6) hth1
                · refine G_iconst (pc := 228) dX12_goes_228 ?_
                  refine G_goto (pc := 229) (tgt := 233) dX12_goes_229 (by decide) ?_
                  refine G_zast (pc := 233) dX12_goes_233 (by first | rfl | assumption) (by omega) (by omega) (by omega) (by omega) (by omega) ?_
                  rw [Int.toNat_natCast]
                  first
                    | (exfalso; omega)
                    | exact P3 _ _ _ _ _ hO.w85.w84 (NMI.up (a := 1) (b := b) hN (by rw [et, if_pos (by omega)]) (fun _ => by rw [ey]; split <;> omega)) (by rw [wr_o (by decide), wr_o (by decide)]; exact h6) hth1
                    | exact P3 _ _ _ _ _ hO.w85.w84 (NMI.up (a := 0) (b := b) hN (by rw [et, if_neg (by omega)]) (fun z => absurd z (by decide))) (by rw [wr_o (by decide), wr_o (by decide)]; exact h6) hth1
              · try simp only [bI_eq0, bI_ne0] at h_217
                refine G_iconst (pc := 220) dX12_goes_220 ?_
                refine G_goto (pc := 221) (tgt := 225) dX12_goes_221 (by decide) ?_
                refine G_icmp_ne (pc := 225) (tgt := 232) dX12_goes_225 (Ri.mk (by omega) (by omega)) (Ri.mk (by omega) (by omega)) (by decide) (fun h_225 => ?_) (fun h_225 => ?_)
                · refine G_iconst (pc := 232) dX12_goes_232 ?_
                  refine G_zast (pc := 233) dX12_goes_233 (by first | rfl | assumption) (by omega) (by omega) (by omega) (by omega) (by omega) ?_
                  rw [Int.toNat_natCast]
                  first
                    | (exfalso; omega)
                    | exact P3 _ _ _ _ _ hO.w85.w84 (NMI.up (a := 1) (b := b) hN (by rw [et, if_pos (by omega)]) (fun _ => by rw [ey]; split <;> omega)) (by rw [wr_o (by decide), wr_o (by decide)]; exact h6) hth1
                    | exact P3 _ _ _ _ _ hO.w85.w84 (NMI.up (a := 0) (b := b) hN (by rw [et, if_neg (by omega)]) (fun z => absurd z (by decide))) (by rw [wr_o (by decide), wr_o (by decide)]; exact h6) hth1
                · refine G_iconst (pc := 228) dX12_goes_228 ?_
                  refine G_goto (pc := 229) (tgt := 233) dX12_goes_229 (by decide) ?_
                  refine G_zast (pc := 233) dX12_goes_233 (by first | rfl | assumption) (by omega) (by omega) (by omega) (by omega) (by omega) ?_
                  rw [Int.toNat_natCast]
                  first
                    | (exfalso; omega)
                    | exact P3 _ _ _ _ _ hO.w85.w84 (NMI.up (a := 1) (b := b) hN (by rw [et, if_pos (by omega)]) (fun _ => by rw [ey]; split <;> omega)) (by rw [wr_o (by decide), wr_o (by decide)]; exact h6) hth1
                    | exact P3 _ _ _ _ _ hO.w85.w84 (NMI.up (a := 0) (b := b) hN (by rw [et, if_neg (by omega)]) (fun z => absurd z (by decide))) (by rw [wr_o (by decide), wr_o (by decide)]; exact h6) hth1
          refine G_iload (pc := 85) dX12_goes_85 rfl ?_
          refine G_iload_n (pc := 87) dX12_goes_87 rfl ?_
          refine G_icmp_ge (pc := 88) (tgt := 282) dX12_goes_88 (Ri.mk (by omega) (by omega)) (Ri.mk (by omega) (by omega)) (by decide) (fun h_88 => ?_) (fun h_88 => ?_)
          · exact absurd h_88 (by omega)
          · refine G_aload_n (pc := 91) dX12_goes_91 rfl ?_
            refine G_getr (pc := 92) dX12_goes_92 fiX12_48 (by first | rfl | assumption) (by omega) (by first | rfl | assumption) ?_
            refine G_iload (pc := 95) dX12_goes_95 rfl ?_
            refine G_zaldv (pc := 97) dX12_goes_97 (by first | rfl | assumption) (by omega) (by omega) (by omega) (by omega) ((show I' 84 ((p : Int)).toNat = (th p : Int) by rw [Int.toNat_natCast, (hN p (by omega)).1, mx_on])) ?_
            refine G_if_eq (pc := 98) (tgt := 276) dX12_goes_98 (Ri.mk (by omega) (by omega)) (by decide) (fun h_98 => ?_) (fun h_98 => ?_)
            · try simp only [bI_eq0, bI_ne0] at h_98
              refine G_iinc (pc := 276) (lv' := [_, _, _, _, _, _, _, _, _, _, _, _, _]) dX12_goes_276 (by decide) rfl rfl ?_
              refine G_goto (pc := 279) (tgt := 85) dX12_goes_279 (by decide) ?_
              have h0 : th p = 0 := by omega
              have h0' : th' p = 0 := by rw [et, if_neg (by omega)]
              refine G_eq rfl rfl ?_ rfl (ihk (p + 1) I' d9 d10 d11 d12 (by omega) hO (hN.skip h0 h0') h6)
              rw [show sumN (mx th' th (p + 1)) (zN hs) = sumN (mx th' th p) (zN hs) by omega, show nxN th' (p + 1) = nxN th' p by rw [hns, if_neg (by omega)]]; rfl
            · try simp only [bI_eq0, bI_ne0] at h_98
              refine G_aload_n (pc := 101) dX12_goes_101 rfl ?_
              refine G_iload (pc := 102) dX12_goes_102 rfl ?_
              refine G_callV1 (pc := 104) (md := mdX12_sortOf) (av := [_]) dX12_goes_104 lkX12_211 mwX12_sortOf (m_sortOf p (by omega) hM hH' hB) rfl (by first | rfl | assumption) (by omega) rfl rfl (Nat.le_of_ble_eq_true rfl) (by decide) ⟨Nat.zero_le _, Nat.zero_le _⟩ ?_
              rw [← es]
              refine G_istore (pc := 107) (lv' := [_, _, _, _, _, _, _, _, _, _, _, _, _]) dX12_goes_107 (by decide) rfl ?_
              refine G_aload_n (pc := 109) dX12_goes_109 rfl ?_
              refine G_iload (pc := 110) dX12_goes_110 rfl ?_
              refine G_iload (pc := 112) dX12_goes_112 rfl ?_
              refine G_iconst (pc := 114) dX12_goes_114 ?_
              refine G_callV1 (pc := 115) (md := mdX12_feels) (av := [_, _, _]) dX12_goes_115 lkX12_122 mwX12_feels (m_feels s (C 1 t) 0 hM hH' hB hsl hb.1 (by omega)) rfl (by first | rfl | assumption) (by omega) rfl rfl (Nat.le_of_ble_eq_true rfl) (by decide) ⟨Nat.zero_le _, Nat.zero_le _⟩ ?_
              rw [← ef]
              refine G_istore (pc := 118) (lv' := [_, _, _, _, _, _, _, _, _, _, _, _, _]) dX12_goes_118 (by decide) rfl ?_
              refine G_bipush (pc := 120) dX12_goes_120 (by decide) ?_
              refine G_iload (pc := 122) dX12_goes_122 rfl ?_
              refine G_imul (pc := 124) dX12_goes_124 ?_
              refine G_bipush (pc := 125) dX12_goes_125 (by decide) ?_
              refine G_iload (pc := 127) dX12_goes_127 rfl ?_
              refine G_isub (pc := 129) dX12_goes_129 ?_
              refine G_aload_n (pc := 130) dX12_goes_130 rfl ?_
              refine G_iload (pc := 131) dX12_goes_131 rfl ?_
              refine G_iload (pc := 133) dX12_goes_133 rfl ?_
              refine G_iconst (pc := 135) dX12_goes_135 ?_
              refine G_callV1 (pc := 136) (md := mdX12_plays) (av := [_, _, _]) dX12_goes_136 lkX12_126 mwX12_plays (m_plays s (C 1 t) 0 hM hH' hB hsl hb.1 (by omega)) rfl (by first | rfl | assumption) (by omega) rfl rfl (Nat.le_of_ble_eq_true rfl) (by decide) ⟨Nat.zero_le _, Nat.zero_le _⟩ ?_
              refine G_iload (pc := 139) dX12_goes_139 rfl ?_
              refine G_iadd (pc := 141) dX12_goes_141 ?_
              refine G_callS1 (pc := 142) (md := mdX12_tenths) (av := [_]) dX12_goes_142 lkX12_119 mwX12_tenths (m_tenths _ (min 10 (pl hs s (C 1 t) 0 + fo)) (Ri.mk (by omega) (by omega)) (by split <;> (try split) <;> omega)) rfl rfl (Nat.le_of_ble_eq_true rfl) (by decide) ⟨Nat.zero_le _, Nat.zero_le _⟩ ?_
              refine G_imul (pc := 145) dX12_goes_145 ?_
              refine G_iadd (pc := 146) dX12_goes_146 ?_
              refine G_st (st' := [vi (d : Int)]) (by rw [hd]; unfold dof; rw [Int.natCast_add, Int.natCast_mul, Int.natCast_mul, Int.ofNat_sub hf10]; rfl) ?_
              refine G_istore (pc := 147) (lv' := [_, _, _, _, _, _, _, _, _, _, _, _, _]) dX12_goes_147 (by decide) rfl ?_
              refine G_iload_n (pc := 149) dX12_goes_149 rfl ?_
              refine G_iload (pc := 150) dX12_goes_150 rfl ?_
              refine G_iload (pc := 152) dX12_goes_152 rfl ?_
              refine G_callS1 (pc := 154) (md := mdX12_draw) (av := [_, _, _]) dX12_goes_154 lkX12_214 mwX12_draw (m_draw z p t hz (by omega) (by omega)) rfl rfl (Nat.le_of_ble_eq_true rfl) (by decide) ⟨Nat.zero_le _, Nat.zero_le _⟩ ?_
              rw [← hrz]
              refine G_istore (pc := 157) (lv' := [_, _, _, _, _, _, _, _, _, _, _, _, _]) dX12_goes_157 (by decide) rfl ?_
              refine G_aload_n (pc := 159) dX12_goes_159 rfl ?_
              refine G_getr (pc := 160) dX12_goes_160 fiX12_52 (by first | rfl | assumption) (by omega) (by first | rfl | assumption) ?_
              refine G_iload (pc := 163) dX12_goes_163 rfl ?_
              refine G_iload (pc := 165) dX12_goes_165 rfl ?_
              refine G_bipush (pc := 167) dX12_goes_167 (by decide) ?_
              refine G_iload (pc := 169) dX12_goes_169 rfl ?_
              refine G_imul (pc := 171) dX12_goes_171 ?_
              refine G_icmp_lt (pc := 172) (tgt := 186) dX12_goes_172 (Ri.mk (by omega) (by omega)) (Ri.mk (by omega) (by omega)) (by decide) (fun h_172 => ?_) (fun h_172 => ?_)
              · refine G_iconst (pc := 186) dX12_goes_186 ?_
                refine G_zast (pc := 187) dX12_goes_187 (by first | rfl | assumption) (by omega) (by omega) (by omega) (by omega) (by omega) ?_
                rw [Int.toNat_natCast]
                first
                  | exact P2 0 (Or.inr ⟨rfl, by omega⟩) (by omega)
                  | exact P2 1 (Or.inl ⟨rfl, by omega⟩) (by omega)
              · refine G_iload (pc := 175) dX12_goes_175 rfl ?_
                refine G_iload (pc := 177) dX12_goes_177 rfl ?_
                refine G_icmp_ge (pc := 179) (tgt := 186) dX12_goes_179 (Ri.mk (by omega) (by omega)) (Ri.mk (by omega) (by omega)) (by decide) (fun h_179 => ?_) (fun h_179 => ?_)
                · refine G_iconst (pc := 186) dX12_goes_186 ?_
                  refine G_zast (pc := 187) dX12_goes_187 (by first | rfl | assumption) (by omega) (by omega) (by omega) (by omega) (by omega) ?_
                  rw [Int.toNat_natCast]
                  first
                    | exact P2 0 (Or.inr ⟨rfl, by omega⟩) (by omega)
                    | exact P2 1 (Or.inl ⟨rfl, by omega⟩) (by omega)
                · refine G_iconst (pc := 182) dX12_goes_182 ?_
                  refine G_goto (pc := 183) (tgt := 187) dX12_goes_183 (by decide) ?_
                  refine G_zast (pc := 187) dX12_goes_187 (by first | rfl | assumption) (by omega) (by omega) (by omega) (by omega) (by omega) ?_
                  rw [Int.toNat_natCast]
                  first
                    | exact P2 0 (Or.inr ⟨rfl, by omega⟩) (by omega)
                    | exact P2 1 (Or.inl ⟨rfl, by omega⟩) (by omega)
      have hR' : RM I' 0 C := hR.off (hO.1 79 (by decide) (by decide) (by decide)) (hO.1 80 (by decide) (by decide) (by decide))
      refine G_iload (pc := 57) dX12_goes_57 rfl ?_
      refine G_aload_n (pc := 59) dX12_goes_59 rfl ?_
      refine G_getr (pc := 60) dX12_goes_60 fiX12_32 (by first | rfl | assumption) (by omega) (by first | rfl | assumption) ?_
      refine G_iconst (pc := 63) dX12_goes_63 ?_
      refine G_ialdv (pc := 64) dX12_goes_64 (by first | rfl | assumption) (by omega) (by omega) (by omega) (by omega) (hR'.n rfl) ?_
      refine G_icmp_ge (pc := 65) (tgt := 338) dX12_goes_65 (Ri.mk (by omega) (by omega)) (Ri.mk (by omega) (by omega)) (by decide) (fun h_65 => ?_) (fun h_65 => ?_)
      · exact absurd h_65 (by omega)
      · refine G_aload_n (pc := 68) dX12_goes_68 rfl ?_
        refine G_getr (pc := 69) dX12_goes_69 fiX12_35 (by first | rfl | assumption) (by omega) (by first | rfl | assumption) ?_
        refine G_iconst (pc := 72) dX12_goes_72 ?_
        refine G_iload (pc := 73) dX12_goes_73 rfl ?_
        refine G_imul (pc := 75) dX12_goes_75 ?_
        refine G_ialdv (pc := 76) dX12_goes_76 (by first | rfl | assumption) (by omega) (by omega) (by omega) (by omega) (hR'.a t (by omega) (by omega)) ?_
        refine G_istore (pc := 77) (lv' := [_, _, _, _, _, _, _, _, _, _, _, _, _]) dX12_goes_77 (by decide) rfl ?_
        refine G_iconst (pc := 79) dX12_goes_79 ?_
        refine G_istore (pc := 80) (lv' := [_, _, _, _, _, _, _, _, _, _, _, _, _]) dX12_goes_80 (by decide) rfl ?_
        refine G_iconst (pc := 82) dX12_goes_82 ?_
        refine G_istore (pc := 83) (lv' := [_, _, _, _, _, _, _, _, _, _, _, _, _]) dX12_goes_83 (by decide) rfl ?_
        refine G_eq rfl rfl ?_ rfl (inner (zN hs) 0 I' d9 d10 d11 d12 (by omega) hO (by rw [mx_0, mx_0]; exact hN) h6)
        rw [mx_0, nxN_0]; rfl
  have first_ : ∀ (m i : Nat) (I' : Nat → Nat → Int), i + m = zN hs → OffG I I' → (∀ x, x < i → I' 84 x = 1 ∧ I' 85 x = 0) → GM E mdX12_goes 3 M Rf Q I' J 8 [some (vr E 71), some (vi (z : Int)), some (vi (zN hs : Int)), some (vi (i : Int)), none, none, none, none, none, none, none, none, none] [] := by
    intro m
    induction m with
    | zero =>
      intro i I' hi hO hx
      have hi : i = zN hs := by omega
      subst hi
      have e0 : ∀ n, n ≤ zN hs → sumN (NS hs C z 0).1 n = n := by
        intro n
        induction n with
        | zero => intro _; rfl
        | succ n ihn => intro hn; rw [sumN, ihn (by omega)]; simp only [NS]; rw [if_pos (by omega)]
      have hN0 : ∀ (I2 : Nat → Nat → Int), I2 84 = I' 84 → I2 85 = I' 85 → NMI I2 (zN hs) (NS hs C z 0).1 (NS hs C z 0).2 := fun I2 g1 g2 x hx2 => by
        rw [g1, g2]
        refine ⟨?_, fun _ => (hx x hx2).2⟩
        rw [(hx x hx2).1]
        simp only [NS]; rw [if_pos hx2]; rfl
      have hf0 : ffN (NS hs C z 0).1 (NS hs C z 0).2 (zN hs) = 0 := by
        rw [ffN_nx]
        split
        · rfl
        · rfl
      have hsx0 : sxN hs C z 0 = if zN hs ≤ 6 then 0 else -4 := rfl
      refine G_iload_n (pc := 8) dX12_goes_8 rfl ?_
      refine G_iload_n (pc := 9) dX12_goes_9 rfl ?_
      refine G_icmp_ge (pc := 10) (tgt := 33) dX12_goes_10 (Ri.mk (by omega) (by omega)) (Ri.mk (by omega) (by omega)) (by decide) (fun h_10 => ?_) (fun h_10 => ?_)
      · refine G_iload_n (pc := 33) dX12_goes_33 rfl ?_
        refine G_istore_n (pc := 34) (lv' := [_, _, _, _, _, _, _, _, _, _, _, _, _]) dX12_goes_34 (by decide) rfl ?_
        refine G_aload_n (pc := 35) dX12_goes_35 rfl ?_
        refine G_iload_n (pc := 36) dX12_goes_36 rfl ?_
        refine G_bipush (pc := 37) dX12_goes_37 (by decide) ?_
        refine G_icmp_gt (pc := 39) (tgt := 46) dX12_goes_39 (Ri.mk (by omega) (by omega)) (Ri.mk (by omega) (by omega)) (by decide) (fun h_39 => ?_) (fun h_39 => ?_)
        · refine G_bipush (pc := 46) dX12_goes_46 (by decide) ?_
          refine G_puti (pc := 48) dX12_goes_48 fiX12_208 (by first | rfl | assumption) (by omega) ?_
          refine G_iconst (pc := 51) dX12_goes_51 ?_
          refine G_istore (pc := 52) (lv' := [_, _, _, _, _, _, _, _, _, _, _, _, _]) dX12_goes_52 (by decide) rfl ?_
          refine G_iconst (pc := 54) dX12_goes_54 ?_
          refine G_istore (pc := 55) (lv' := [_, _, _, _, _, _, _, _, _, _, _, _, _]) dX12_goes_55 (by decide) rfl ?_
          refine G_eq rfl rfl ?_ rfl (outer (C 0 0) 0 _ none none none none none none none (by omega) hO.w71 (hN0 _ (wr_o (by decide)) (wr_o (by decide))) (by rw [wr_s, hsx0]; first | rw [if_pos (by omega)] | rw [if_neg (by omega)]))
          rw [hf0, e0 _ (Nat.le_refl _)]; rfl
        · refine G_iconst (pc := 42) dX12_goes_42 ?_
          refine G_goto (pc := 43) (tgt := 48) dX12_goes_43 (by decide) ?_
          refine G_puti (pc := 48) dX12_goes_48 fiX12_208 (by first | rfl | assumption) (by omega) ?_
          refine G_iconst (pc := 51) dX12_goes_51 ?_
          refine G_istore (pc := 52) (lv' := [_, _, _, _, _, _, _, _, _, _, _, _, _]) dX12_goes_52 (by decide) rfl ?_
          refine G_iconst (pc := 54) dX12_goes_54 ?_
          refine G_istore (pc := 55) (lv' := [_, _, _, _, _, _, _, _, _, _, _, _, _]) dX12_goes_55 (by decide) rfl ?_
          refine G_eq rfl rfl ?_ rfl (outer (C 0 0) 0 _ none none none none none none none (by omega) hO.w71 (hN0 _ (wr_o (by decide)) (wr_o (by decide))) (by rw [wr_s, hsx0]; first | rw [if_pos (by omega)] | rw [if_neg (by omega)]))
          rw [hf0, e0 _ (Nat.le_refl _)]; rfl
      · exact absurd h_10 (by omega)
    | succ m ih =>
      intro i I' hi hO hx
      refine G_iload_n (pc := 8) dX12_goes_8 rfl ?_
      refine G_iload_n (pc := 9) dX12_goes_9 rfl ?_
      refine G_icmp_ge (pc := 10) (tgt := 33) dX12_goes_10 (Ri.mk (by omega) (by omega)) (Ri.mk (by omega) (by omega)) (by decide) (fun h_10 => ?_) (fun h_10 => ?_)
      · exact absurd h_10 (by omega)
      · refine G_aload_n (pc := 13) dX12_goes_13 rfl ?_
        refine G_getr (pc := 14) dX12_goes_14 fiX12_48 (by first | rfl | assumption) (by omega) (by first | rfl | assumption) ?_
        refine G_iload_n (pc := 17) dX12_goes_17 rfl ?_
        refine G_iconst (pc := 18) dX12_goes_18 ?_
        refine G_zast (pc := 19) dX12_goes_19 (by first | rfl | assumption) (by omega) (by omega) (by omega) (by omega) (by omega) ?_
        refine G_aload_n (pc := 20) dX12_goes_20 rfl ?_
        refine G_getr (pc := 21) dX12_goes_21 fiX12_52 (by first | rfl | assumption) (by omega) (by first | rfl | assumption) ?_
        refine G_iload_n (pc := 24) dX12_goes_24 rfl ?_
        refine G_iconst (pc := 25) dX12_goes_25 ?_
        refine G_zast (pc := 26) dX12_goes_26 (by first | rfl | assumption) (by omega) (by omega) (by omega) (by omega) (by omega) ?_
        refine G_iinc (pc := 27) (lv' := [_, _, _, _, _, _, _, _, _, _, _, _, _]) dX12_goes_27 (by decide) rfl rfl ?_
        refine G_goto (pc := 30) (tgt := 8) dX12_goes_30 (by decide) ?_
        rw [Int.toNat_natCast]
        refine ih (i + 1) _ (by omega) hO.w84.w85 (fun x hx2 => ?_)
        rw [wr_o (show (84 : Nat) ≠ 85 by decide)]
        by_cases e : x = i
        · subst e; rw [wr_s, wr_s]; exact ⟨rfl, rfl⟩
        · rw [wr_n e, wr_n e, wr_o (show (85 : Nat) ≠ 84 by decide)]; exact hx x (by omega)
  refine G_aload_n (pc := 0) dX12_goes_0 rfl ?_
  refine G_iconst (pc := 1) dX12_goes_1 ?_
  refine G_callV1 (pc := 2) (md := mdX12_folk) (av := [_]) dX12_goes_2 lkX12_99 mwX12_folk (m_folk 0 (by omega) hM hH hB) rfl (by first | rfl | assumption) (by omega) rfl rfl (Nat.le_of_ble_eq_true rfl) (by decide) ⟨Nat.zero_le _, Nat.zero_le _⟩ ?_
  refine G_istore_n (pc := 5) (lv' := [_, _, _, _, _, _, _, _, _, _, _, _, _]) dX12_goes_5 (by decide) rfl ?_
  refine G_iconst (pc := 6) dX12_goes_6 ?_
  refine G_istore_n (pc := 7) (lv' := [_, _, _, _, _, _, _, _, _, _, _, _, _]) dX12_goes_7 (by decide) rfl ?_
  exact first_ (zN hs) 0 I (by omega) OffG.rfl (fun x hx => absurd hx (Nat.not_lt_zero _))
end MOD10
