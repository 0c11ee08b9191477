/-! THE REFERENCE TAKES AN ITEM -/
def nrI (I : Nat → Nat → Int) (q : Nat) : Nat → Nat → Int := fun x y => if x = q then (Int32.ofInt (I x y)).toInt else I x y
theorem bI_S {α : Type} {x : α} : bI ((some x).isSome = true) = 1 := bI_t (c := (some x).isSome = true) rfl
theorem PD_s {I I' : Nat → Nat → Int} {D : DS} {nm : Nat → Nat} (hP : PD I D) (h73 : I' 73 1 = ((zS D.1 + 1 : Nat) : Int)) (h75 : I' 75 = I 75) (h76 : I' 76 = I 76) (h77 : I' 77 = I 77) (h78 : I' 78 = I 78) (h71 : I' 71 = I 71) (hn : ∀ j, j < 4 → I' 74 (24 + 4 * zS D.1 + j) = nm j) (ho : ∀ x, x < 24 + 4 * zS D.1 → I' 74 x = I 74 x) : PD I' (addSortH D.1 (nm 0) (nm 1) (nm 2) (nm 3), D.2) := by
  obtain ⟨⟨m1, m2, m3, m4, m5⟩, m6, m7⟩ := hP
  refine ⟨⟨by rw [h73]; rfl, by rw [h75]; exact m2, fun s hs i hi => ?_, fun a ha i h4 h8 => ?_, fun i h11 h14 => ?_⟩, by rw [h71]; exact m6, fun t ht => by rw [h77]; exact m7 t ht⟩
  · have hs : s < zS D.1 + 1 := hs
    by_cases e : s = zS D.1
    · subst e
      rw [show 24 * 1 + 4 * zS D.1 + i = 24 + 4 * zS D.1 + i by omega, hn i hi]
      rcases (show i = 0 ∨ i = 1 ∨ i = 2 ∨ i = 3 by omega) with rfl | rfl | rfl | rfl <;> simp [addSortH]
    · rw [ho _ (by omega), m3 s (by omega) i hi]; simp [addSortH, e, show ¬ i = 8 by omega, show ¬ i = 10 by omega]
  · have ha : a < zA D.1 := ha
    rw [h76, m4 a ha i h4 h8]; simp [addSortH, show ¬ i < 4 by omega, show ¬ i = 8 by omega, show ¬ i = 10 by omega]
  · rw [h78, m5 i h11 h14]; simp [addSortH, show ¬ i < 4 by omega, show ¬ i = 8 by omega, show ¬ i = 10 by omega]
theorem PD_a {I I' : Nat → Nat → Int} {D : DS} {nm : Nat → Nat} (hP : PD I D) (h75 : I' 75 1 = ((zA D.1 + 1 : Nat) : Int)) (h73 : I' 73 = I 73) (h74 : I' 74 = I 74) (h77 : I' 77 = I 77) (h78 : I' 78 = I 78) (h71 : I' 71 = I 71) (hn : ∀ j, j < 4 → I' 76 (24 + 4 * zA D.1 + j) = nm j) (ho : ∀ x, x < 24 + 4 * zA D.1 → I' 76 x = I 76 x) : PD I' (addAskH D.1 (nm 0) (nm 1) (nm 2) (nm 3), D.2) := by
  obtain ⟨⟨m1, m2, m3, m4, m5⟩, m6, m7⟩ := hP
  refine ⟨⟨by rw [h73]; exact m1, by rw [h75]; rfl, fun s hs i hi => ?_, fun a ha i h4 h8 => ?_, fun i h11 h14 => ?_⟩, by rw [h71]; exact m6, fun t ht => by rw [h77]; exact m7 t ht⟩
  · have hs : s < zS D.1 := hs
    rw [h74, m3 s hs i hi]; simp [addAskH, show ¬ 4 ≤ i by omega, show ¬ i = 9 by omega]
  · have ha : a < zA D.1 + 1 := ha
    by_cases e : a = zA D.1
    · subst e
      rw [show 24 * 1 + 4 * zA D.1 + (i - 4) = 24 + 4 * zA D.1 + (i - 4) by omega, hn (i - 4) (by omega)]
      rcases (show i = 4 ∨ i = 5 ∨ i = 6 ∨ i = 7 by omega) with rfl | rfl | rfl | rfl <;> simp [addAskH]
    · rw [ho _ (by omega), m4 a (by omega) i h4 h8]; simp [addAskH, e, show ¬ i = 9 by omega]
  · rw [h78, m5 i h11 h14]; simp [addAskH, show ¬ i < 8 by omega, show ¬ i = 9 by omega]
theorem PD_t {I I' : Nat → Nat → Int} {D : DS} {a b : Nat} (hP : PD I D) (hq : ∀ q, 73 ≤ q → q ≤ 78 → q ≠ 77 → I' q = I q) (h7 : I' 71 7 = ((D.2 0 0 + 1 : Nat) : Int)) (ha : I' 77 (2 * D.2 0 0) = a) (hb : I' 77 (2 * D.2 0 0 + 1) = b) (ho : ∀ x, x < 2 * D.2 0 0 → I' 77 x = I 77 x) : PD I' (D.1, addR D.2 a b) := by
  obtain ⟨hM, m6, m7⟩ := hP
  refine ⟨?_, by rw [h7]; rfl, fun t ht => ?_⟩
  · unfold MH at *
    rw [hq 73 (by omega) (by omega) (by omega), hq 74 (by omega) (by omega) (by omega), hq 75 (by omega) (by omega) (by omega), hq 76 (by omega) (by omega) (by omega), hq 78 (by omega) (by omega) (by omega)]
    exact hM
  · have ht : t < D.2 0 0 + 1 := ht
    by_cases e : t = D.2 0 0
    · subst e; rw [ha, hb]; simp [addR]
    · rw [ho _ (by omega), ho _ (by omega)]
      have := m7 t (by omega)
      simpa [addR, e] using this
theorem PD_se {I : Nat → Nat → Int} {D : DS} {i a : Nat} (hP : PD I D) (h8 : 11 ≤ i) (h14 : i < 14) : PD (wr I 78 (3 + (i - 11)) (a : Int)) (seH D.1 i a, D.2) := by
  obtain ⟨⟨m1, m2, m3, m4, m5⟩, m6, m7⟩ := hP
  have e8 : zS (seH D.1 i a) = zS D.1 := by simp [seH, show ¬ 8 = i by omega]
  have e9 : zA (seH D.1 i a) = zA D.1 := by simp [seH, show ¬ 9 = i by omega]
  refine ⟨⟨by rw [e8, wr_o (by decide)]; exact m1, by rw [e9, wr_o (by decide)]; exact m2, fun s hs j hj => ?_, fun b hb j h4 hj => ?_, fun j h11 hj => ?_⟩, by rw [wr_o (by decide)]; exact m6, fun t ht => by rw [wr_o (by decide)]; exact m7 t ht⟩
  · rw [e8] at hs; rw [wr_o (by decide), m3 s hs j hj]; simp [seH, show ¬ j = i by omega]
  · rw [e9] at hb; rw [wr_o (by decide), m4 b hb j h4 hj]; simp [seH, show ¬ j = i by omega]
  · by_cases e : j = i
    · subst e; rw [show 3 * 1 + (j - 11) = 3 + (j - 11) by omega, wr_s]; simp [seH]
    · rw [wr_n (by omega), m5 j h11 hj]; simp [seH, e]
section NRM
variable {E : EV} {rm : Room} {own : String} {cc : ByteArray} {nL : Nat} {ret : Option FieldType} {X : Method → Array Value → State → Prop} {Z : List Frame → Array Value → State → State → Prop} {M : Nat} {I J : Nat → Nat → Int} {R : Nat → Nat → Option Nat} {k n : Nat} {pc : Nat} {lv : List (Option Value)} {st : List Value}
theorem G_nrm {q z : Nat} (hs : shp q = .inr (0, z)) (kk : G E rm own cc nL ret X Z M (nrI I q) J R k n pc lv st) : G E rm own cc nL ret X Z M I J R k n pc lv st := by
  intro p e s m args below meth cd CC H locs ls hW hS hl
  refine kk p e s m args below meth cd CC H locs ls ⟨hW.1, fun j hj => ?_⟩ hS hl
  by_cases e : j = q
  · subst e
    have e2 : (fun i => Int32.ofInt (nrI I j j i)) = fun i => Int32.ofInt (I j i) := by
      funext i
      show Int32.ofInt (if j = j then (Int32.ofInt (I j i)).toInt else I j i) = _
      rw [if_pos rfl, Int32.ofInt_toInt]
    have he : ent E (nrI I j) J R j = ent E I J R j := by
      unfold ent
      rw [hs]
      simp only [entA, e2]
    rw [he]; exact hW.2 j hj
  · rw [ent_off (I' := nrI I q) (I := I) (J' := J) (J := J) (R' := R) (R := R) (by funext y; exact if_neg e) rfl rfl]; exact hW.2 j hj
end NRM
section MOD13
variable {E : EV} {M : Nat} {I J : Nat → Nat → Int} {nm : Nat → Nat} {D : DS}
theorem m_isGood (l : Int) (c : Nat) (hl : l = 115 ∨ l = 97 ∨ l = 116 ∨ l = 99 ∨ l = 112) (hc : c = ptN l) (hM : 87 ≤ M) (hP : PD I D) (hD : DB D) (h9 : ∀ i, nm i ≤ 999) (hg : ∀ i, i < c → I 86 i = nm i) : FnQ E mdX12_isGood 1 M Rf [vr E 71, vi l] I J (fun v I' J' => v = some (vi (bI ((takeD l c nm D).isSome = true))) ∧ J' = J ∧ OffP I I' ∧ I' 71 2 = I 71 2 ∧ ∀ D', takeD l c nm D = some D' → PD I' D') := by
  obtain ⟨I1, hI1⟩ : ∃ f, f = nrI I 86 := ⟨_, rfl⟩
  have o1 : ∀ q, q ≠ 86 → I1 q = I q := fun q hq => by rw [hI1]; funext y; exact if_neg hq
  have r1 : ∀ i, Ri (I1 86 i) := fun i => by
    rw [hI1]
    show Ri (if 86 = 86 then (Int32.ofInt (I 86 i)).toInt else I 86 i)
    rw [if_pos rfl]; exact Ri_toInt _
  have g1 : ∀ i, i < c → I1 86 i = nm i := fun i hi => by
    rw [hI1]
    show (if 86 = 86 then (Int32.ofInt (I 86 i)).toInt else I 86 i) = _
    rw [if_pos rfl, hg i hi]
    have := h9 i
    exact i_toInt (Ri.mk (by omega) (by omega))
  have hO1 : OffP I I1 := ⟨fun q _ _ _ _ _ _ _ h => o1 q h, fun i _ _ => by rw [o1 71 (by decide)], by rw [o1 73 (by decide)], by rw [o1 75 (by decide)], fun x _ => by rw [o1 74 (by decide)], fun x _ => by rw [o1 76 (by decide)], fun x _ => by rw [o1 78 (by decide)]⟩
  have hP1 : PD I1 D := hP.off (by rw [o1 71 (by decide)]) (fun q a b => o1 q (by omega))
  have h2 : I1 71 2 = I 71 2 := by rw [o1 71 (by decide)]
  have hB := hD.1
  have bS := hB.1
  have bA := hB.2.1
  have bN := hB.2.2.1
  have n8 := hD.2.1
  have n90 := h9 0
  have n91 := h9 1
  have n92 := h9 2
  have n93 := h9 3
  obtain ⟨a0, ea0⟩ : ∃ a, a = I1 86 0 := ⟨_, rfl⟩
  obtain ⟨a1, ea1⟩ : ∃ a, a = I1 86 1 := ⟨_, rfl⟩
  obtain ⟨a2, ea2⟩ : ∃ a, a = I1 86 2 := ⟨_, rfl⟩
  obtain ⟨a3, ea3⟩ : ∃ a, a = I1 86 3 := ⟨_, rfl⟩
  have l0 := (r1 0).lo
  have u0 := (r1 0).hi
  have l1 := (r1 1).lo
  have u1 := (r1 1).hi
  have l2 := (r1 2).lo
  have u2 := (r1 2).hi
  have l3 := (r1 3).lo
  have u3 := (r1 3).hi
  rw [← ea0] at l0 u0
  rw [← ea1] at l1 u1
  rw [← ea2] at l2 u2
  rw [← ea3] at l3 u3
  refine FnQ.of (by decide +kernel) (Nat.le_of_ble_eq_true rfl) ?_
  show GM E mdX12_isGood 1 M Rf _ I J 0 [some (vr E 71), some (vi l), none, none] []
  generalize hQ : (fun (v : Option Value) (I' J' : Nat → Nat → Int) => v = some (vi (bI ((takeD l c nm D).isSome = true))) ∧ J' = J ∧ OffP I I' ∧ I' 71 2 = I 71 2 ∧ ∀ D', takeD l c nm D = some D' → PD I' D') = Q
  refine G_nrm (q := 86) rfl ?_
  rw [← hI1]
  have main : GM E mdX12_isGood 1 M Rf Q I1 J 39 [some (vr E 71), some (vi l), none, none] [vi (bI ((0 ≤ a1 ∧ a1 ≤ 10) ∧ (0 ≤ a2 ∧ a2 ≤ 10)))] := by
    obtain ⟨te, ete⟩ : ∃ t, t = bI ((0 ≤ a1 ∧ a1 ≤ 10) ∧ (0 ≤ a2 ∧ a2 ≤ 10)) := ⟨_, rfl⟩
    have hte : te ≠ 0 ↔ ((0 ≤ a1 ∧ a1 ≤ 10) ∧ (0 ≤ a2 ∧ a2 ≤ 10)) := by rw [ete]; exact bI_ne0
    have hte1 : te = 0 ∨ te = 1 := by rw [ete]; exact bI_01
    rw [← ete]
    rcases hl with rfl | rfl | rfl | rfl | rfl
    · obtain rfl : c = 4 := hc.trans (by decide)
      have k0 : a0 = nm 0 := ea0.trans (g1 0 (by omega))
      have k1 : a1 = nm 1 := ea1.trans (g1 1 (by omega))
      have k2 : a2 = nm 2 := ea2.trans (g1 2 (by omega))
      have k3 : a3 = nm 3 := ea3.trans (g1 3 (by omega))
      have hok : okS D.1 (nm 0) (nm 1) (nm 2) (nm 3) ↔ (zS D.1 < 6 ∧ (1 ≤ nm 0 ∧ nm 0 ≤ 60) ∧ zN D.1 + nm 0 ≤ 120 ∧ nm 1 ≤ 10 ∧ nm 2 ≤ 10 ∧ nm 3 ≤ 10) := Iff.rfl
      have sloop : ∀ (r k : Nat) (I' : Nat → Nat → Int), okS D.1 (nm 0) (nm 1) (nm 2) (nm 3) → k + r = 4 → (∀ q, q ≠ 74 → I' q = I1 q) → (∀ x, x < 24 + 4 * zS D.1 → I' 74 x = I1 74 x) → (∀ j, j < k → I' 74 (24 + 4 * zS D.1 + j) = nm j) → GM E mdX12_isGood 1 M Rf Q I' J 116 [some (vr E 71), some (vi 115), some (vi te), some (vi (k : Int))] [] := by
        intro r
        induction r with
        | zero =>
          intro k I' hy hk hq ho hn
          have hy6 := hok.mp hy
          have hk : k = 4 := by omega
          subst hk
          have hyes : takeD 115 4 nm D = some (addSortH D.1 (nm 0) (nm 1) (nm 2) (nm 3), D.2) := by rw [takeD_s, if_pos hy]
          have hv : I' 73 1 = (zS D.1 : Int) := by rw [hq 73 (by decide)]; exact hP1.1.1
          refine G_iload_n (pc := 116) dX12_isGood_116 rfl ?_
          refine G_iconst (pc := 117) dX12_isGood_117 ?_
          refine G_icmp_ge (pc := 118) (tgt := 151) dX12_isGood_118 (by first | exact bI_R | exact Ri.mk (by omega) (by omega)) (Ri.mk (by omega) (by omega)) (by decide) (fun h_118 => ?_) (fun h_118 => ?_)
          · refine G_aload_n (pc := 151) dX12_isGood_151 rfl ?_
            refine G_getr (pc := 152) dX12_isGood_152 fiX12_13 (by first | rfl | assumption) (by omega) (by first | rfl | assumption) ?_
            refine G_iconst (pc := 155) dX12_isGood_155 ?_
            refine G_dup2 (pc := 156) dX12_isGood_156 rfl rfl ?_
            refine G_ialdv (pc := 157) dX12_isGood_157 (by first | rfl | assumption) (by omega) (by omega) (by omega) (by omega) (hv) ?_
            refine G_iconst (pc := 158) dX12_isGood_158 ?_
            refine G_iadd (pc := 159) dX12_isGood_159 ?_
            refine G_iast (pc := 160) dX12_isGood_160 (by first | rfl | assumption) (by omega) (by omega) (by omega) (by omega) ?_
            refine G_goto (pc := 161) (tgt := 472) dX12_isGood_161 (by decide) ?_
            refine G_iconst (pc := 472) dX12_isGood_472 ?_
            refine G_zret (pc := 473) dX12_isGood_473 rfl (by omega) ?_
            rw [← hQ]
            refine ⟨by rw [hyes, bI_S], rfl, hO1.trans ⟨fun q _ h73 h74 _ _ _ _ _ => (wr_o h73).trans (hq q h74), fun i _ _ => by rw [wr_o (by decide), hq 71 (by decide)], ?_, by rw [wr_o (by decide), hq 75 (by decide)], fun x hx => by rw [wr_o (by decide)]; exact ho x (by omega), fun x _ => by rw [wr_o (by decide), hq 76 (by decide)], fun x _ => by rw [wr_o (by decide), hq 78 (by decide)]⟩, by rw [wr_o (by decide), hq 71 (by decide)]; exact h2, fun D' hD' => ?_⟩
            · exact (wr_n (show (0 : Nat) ≠ 1 by decide)).trans (by rw [hq 73 (by decide)])
            · rw [hyes] at hD'; cases hD'
              exact PD_s hP1 wr_s ((wr_o (by decide)).trans (hq 75 (by decide))) ((wr_o (by decide)).trans (hq 76 (by decide))) ((wr_o (by decide)).trans (hq 77 (by decide))) ((wr_o (by decide)).trans (hq 78 (by decide))) ((wr_o (by decide)).trans (hq 71 (by decide))) (fun j hj => by rw [wr_o (by decide)]; exact hn j hj) (fun x hx => by rw [wr_o (by decide)]; exact ho x hx)
          · exact absurd h_118 (by omega)
        | succ r ih =>
          intro k I' hy hk hq ho hn
          have hy6 := hok.mp hy
          have hv : I' 73 1 = (zS D.1 : Int) := by rw [hq 73 (by decide)]; exact hP1.1.1
          have hgk : I' 86 ((k : Int)).toNat = (nm k : Int) := by rw [Int.toNat_natCast, hq 86 (by decide)]; exact g1 k (by omega)
          refine G_iload_n (pc := 116) dX12_isGood_116 rfl ?_
          refine G_iconst (pc := 117) dX12_isGood_117 ?_
          refine G_icmp_ge (pc := 118) (tgt := 151) dX12_isGood_118 (by first | exact bI_R | exact Ri.mk (by omega) (by omega)) (Ri.mk (by omega) (by omega)) (by decide) (fun h_118 => ?_) (fun h_118 => ?_)
          · exact absurd h_118 (by omega)
          · refine G_aload_n (pc := 121) dX12_isGood_121 rfl ?_
            refine G_getr (pc := 122) dX12_isGood_122 fiX12_17 (by first | rfl | assumption) (by omega) (by first | rfl | assumption) ?_
            refine G_bipush (pc := 125) dX12_isGood_125 (by decide) ?_
            refine G_iconst (pc := 127) dX12_isGood_127 ?_
            refine G_aload_n (pc := 128) dX12_isGood_128 rfl ?_
            refine G_getr (pc := 129) dX12_isGood_129 fiX12_13 (by first | rfl | assumption) (by omega) (by first | rfl | assumption) ?_
            refine G_iconst (pc := 132) dX12_isGood_132 ?_
            refine G_ialdv (pc := 133) dX12_isGood_133 (by first | rfl | assumption) (by omega) (by omega) (by omega) (by omega) (hv) ?_
            refine G_imul (pc := 134) dX12_isGood_134 ?_
            refine G_iadd (pc := 135) dX12_isGood_135 ?_
            refine G_iload_n (pc := 136) dX12_isGood_136 rfl ?_
            refine G_iadd (pc := 137) dX12_isGood_137 ?_
            refine G_aload_n (pc := 138) dX12_isGood_138 rfl ?_
            refine G_getr (pc := 139) dX12_isGood_139 fiX12_55 (by first | rfl | assumption) (by omega) (by first | rfl | assumption) ?_
            refine G_iload_n (pc := 142) dX12_isGood_142 rfl ?_
            refine G_ialdv (pc := 143) dX12_isGood_143 (by first | rfl | assumption) (by omega) (by omega) (by omega) (by omega) (hgk) ?_
            refine G_iast (pc := 144) dX12_isGood_144 (by first | rfl | assumption) (by omega) (by omega) (by omega) (by omega) ?_
            refine G_iinc (pc := 145) (lv' := [_, _, _, _]) dX12_isGood_145 (by decide) rfl rfl ?_
            refine G_goto (pc := 148) (tgt := 116) dX12_isGood_148 (by decide) ?_
            have e : (24 + 4 * (zS D.1 : Int) + (k : Int)).toNat = 24 + 4 * zS D.1 + k := by omega
            rw [e]
            refine ih (k + 1) _ hy (by omega) (fun q h => (wr_o h).trans (hq q h)) (fun x hx => (wr_n (by omega)).trans (ho x hx)) (fun j hj => ?_)
            by_cases ej : j = k
            · subst ej; exact wr_s
            · exact (wr_n (by omega)).trans (hn j (by omega))
      refine G_istore_n (pc := 39) (lv' := [_, _, _, _]) dX12_isGood_39 (by decide) rfl ?_
      refine G_iload_n (pc := 40) dX12_isGood_40 rfl ?_
      refine G_bipush (pc := 41) dX12_isGood_41 (by decide) ?_
      refine G_icmp_ne (pc := 43) (tgt := 164) dX12_isGood_43 (by first | exact bI_R | exact Ri.mk (by omega) (by omega)) (Ri.mk (by omega) (by omega)) (by decide) (fun h_43 => ?_) (fun h_43 => ?_)
      · exact absurd rfl h_43
      · refine G_aload_n (pc := 46) dX12_isGood_46 rfl ?_
        refine G_getr (pc := 47) dX12_isGood_47 fiX12_55 (by first | rfl | assumption) (by omega) (by first | rfl | assumption) ?_
        refine G_iconst (pc := 50) dX12_isGood_50 ?_
        refine G_ialdv (pc := 51) dX12_isGood_51 (by first | rfl | assumption) (by omega) (by omega) (by omega) (by omega) (ea0.symm) ?_
        refine G_i2l (pc := 52) dX12_isGood_52 (by first | exact bI_R | exact Ri.mk (by omega) (by omega)) ?_
        refine G_lconst (pc := 53) dX12_isGood_53 ?_
        refine G_ldc2 (pc := 54) dX12_isGood_54 klX12_97 ?_
        refine G_callS1 (pc := 57) (md := mdX12_in) (av := [_, _, _]) dX12_isGood_57 lkX12_66 mwX12_in (m_inI _ _ _ (1 ≤ a0 ∧ a0 ≤ 60) (by omega) (Rl.mk (by omega) (by omega)) (Rl.mk (by omega) (by omega)) (Rl.mk (by omega) (by omega))) rfl rfl (Nat.le_of_ble_eq_true rfl) (by decide) ⟨Nat.zero_le _, Nat.zero_le _⟩ ?_
        refine G_if_eq (pc := 60) (tgt := 112) dX12_isGood_60 (by first | exact bI_R | exact Ri.mk (by omega) (by omega)) (by decide) (fun h_60 => ?_) (fun h_60 => ?_)
        · try simp only [bI_eq0, bI_ne0] at h_60
          refine G_iconst (pc := 112) dX12_isGood_112 ?_
          refine G_zret (pc := 113) dX12_isGood_113 rfl (by omega) ?_
          have hno : takeD 115 4 nm D = none := by rw [takeD_s, if_neg (by rw [hok]; omega)]
          rw [← hQ]
          exact ⟨by rw [hno, bI_f (fun z => by cases z)], rfl, hO1, h2, fun D' hD' => by rw [hno] at hD'; cases hD'⟩
        · try simp only [bI_eq0, bI_ne0] at h_60
          refine G_iload_n (pc := 63) dX12_isGood_63 rfl ?_
          refine G_if_eq (pc := 64) (tgt := 112) dX12_isGood_64 (by first | exact bI_R | exact Ri.mk (by omega) (by omega)) (by decide) (fun h_64 => ?_) (fun h_64 => ?_)
          · try simp only [bI_eq0, bI_ne0] at h_64
            refine G_iconst (pc := 112) dX12_isGood_112 ?_
            refine G_zret (pc := 113) dX12_isGood_113 rfl (by omega) ?_
            have hno : takeD 115 4 nm D = none := by rw [takeD_s, if_neg (by rw [hok]; omega)]
            rw [← hQ]
            exact ⟨by rw [hno, bI_f (fun z => by cases z)], rfl, hO1, h2, fun D' hD' => by rw [hno] at hD'; cases hD'⟩
          · try simp only [bI_eq0, bI_ne0] at h_64
            refine G_aload_n (pc := 67) dX12_isGood_67 rfl ?_
            refine G_getr (pc := 68) dX12_isGood_68 fiX12_55 (by first | rfl | assumption) (by omega) (by first | rfl | assumption) ?_
            refine G_iconst (pc := 71) dX12_isGood_71 ?_
            refine G_ialdv (pc := 72) dX12_isGood_72 (by first | rfl | assumption) (by omega) (by omega) (by omega) (by omega) (ea3.symm) ?_
            refine G_i2l (pc := 73) dX12_isGood_73 (by first | exact bI_R | exact Ri.mk (by omega) (by omega)) ?_
            refine G_lconst (pc := 74) dX12_isGood_74 ?_
            refine G_ldc2 (pc := 75) dX12_isGood_75 klX12_95 ?_
            refine G_callS1 (pc := 78) (md := mdX12_in) (av := [_, _, _]) dX12_isGood_78 lkX12_66 mwX12_in (m_inI _ _ _ (0 ≤ a3 ∧ a3 ≤ 10) (by omega) (Rl.mk (by omega) (by omega)) (Rl.mk (by omega) (by omega)) (Rl.mk (by omega) (by omega))) rfl rfl (Nat.le_of_ble_eq_true rfl) (by decide) ⟨Nat.zero_le _, Nat.zero_le _⟩ ?_
            refine G_if_eq (pc := 81) (tgt := 112) dX12_isGood_81 (by first | exact bI_R | exact Ri.mk (by omega) (by omega)) (by decide) (fun h_81 => ?_) (fun h_81 => ?_)
            · try simp only [bI_eq0, bI_ne0] at h_81
              refine G_iconst (pc := 112) dX12_isGood_112 ?_
              refine G_zret (pc := 113) dX12_isGood_113 rfl (by omega) ?_
              have hno : takeD 115 4 nm D = none := by rw [takeD_s, if_neg (by rw [hok]; omega)]
              rw [← hQ]
              exact ⟨by rw [hno, bI_f (fun z => by cases z)], rfl, hO1, h2, fun D' hD' => by rw [hno] at hD'; cases hD'⟩
            · try simp only [bI_eq0, bI_ne0] at h_81
              refine G_aload_n (pc := 84) dX12_isGood_84 rfl ?_
              refine G_getr (pc := 85) dX12_isGood_85 fiX12_13 (by first | rfl | assumption) (by omega) (by first | rfl | assumption) ?_
              refine G_iconst (pc := 88) dX12_isGood_88 ?_
              refine G_ialdv (pc := 89) dX12_isGood_89 (by first | rfl | assumption) (by omega) (by omega) (by omega) (by omega) (hP1.1.1) ?_
              refine G_bipush (pc := 90) dX12_isGood_90 (by decide) ?_
              refine G_icmp_eq (pc := 92) (tgt := 112) dX12_isGood_92 (by first | exact bI_R | exact Ri.mk (by omega) (by omega)) (Ri.mk (by omega) (by omega)) (by decide) (fun h_92 => ?_) (fun h_92 => ?_)
              · refine G_iconst (pc := 112) dX12_isGood_112 ?_
                refine G_zret (pc := 113) dX12_isGood_113 rfl (by omega) ?_
                have hno : takeD 115 4 nm D = none := by rw [takeD_s, if_neg (by rw [hok]; omega)]
                rw [← hQ]
                exact ⟨by rw [hno, bI_f (fun z => by cases z)], rfl, hO1, h2, fun D' hD' => by rw [hno] at hD'; cases hD'⟩
              · refine G_aload_n (pc := 95) dX12_isGood_95 rfl ?_
                refine G_iconst (pc := 96) dX12_isGood_96 ?_
                refine G_callV1 (pc := 97) (md := mdX12_folk) (av := [_]) dX12_isGood_97 lkX12_99 mwX12_folk (m_folk 1 (by omega) hM hP1.1 hB) rfl (by first | rfl | assumption) (by omega) rfl rfl (Nat.le_of_ble_eq_true rfl) (by decide) ⟨Nat.zero_le _, Nat.zero_le _⟩ ?_
                refine G_aload_n (pc := 100) dX12_isGood_100 rfl ?_
                refine G_getr (pc := 101) dX12_isGood_101 fiX12_55 (by first | rfl | assumption) (by omega) (by first | rfl | assumption) ?_
                refine G_iconst (pc := 104) dX12_isGood_104 ?_
                refine G_ialdv (pc := 105) dX12_isGood_105 (by first | rfl | assumption) (by omega) (by omega) (by omega) (by omega) (ea0.symm) ?_
                refine G_iadd (pc := 106) dX12_isGood_106 ?_
                refine G_bipush (pc := 107) dX12_isGood_107 (by decide) ?_
                refine G_icmp_le (pc := 109) (tgt := 114) dX12_isGood_109 (by first | exact bI_R | exact Ri.mk (by omega) (by omega)) (Ri.mk (by omega) (by omega)) (by decide) (fun h_109 => ?_) (fun h_109 => ?_)
                · refine G_iconst (pc := 114) dX12_isGood_114 ?_
                  refine G_istore_n (pc := 115) (lv' := [_, _, _, _]) dX12_isGood_115 (by decide) rfl ?_
                  have hy : okS D.1 (nm 0) (nm 1) (nm 2) (nm 3) := hok.mpr (by omega)
                  exact sloop 4 0 I1 hy (by omega) (fun _ _ => rfl) (fun _ _ => rfl) (fun j hj => absurd hj (Nat.not_lt_zero _))
                · refine G_iconst (pc := 112) dX12_isGood_112 ?_
                  refine G_zret (pc := 113) dX12_isGood_113 rfl (by omega) ?_
                  have hno : takeD 115 4 nm D = none := by rw [takeD_s, if_neg (by rw [hok]; omega)]
                  rw [← hQ]
                  exact ⟨by rw [hno, bI_f (fun z => by cases z)], rfl, hO1, h2, fun D' hD' => by rw [hno] at hD'; cases hD'⟩
    · obtain rfl : c = 4 := hc.trans (by decide)
      have k0 : a0 = nm 0 := ea0.trans (g1 0 (by omega))
      have k1 : a1 = nm 1 := ea1.trans (g1 1 (by omega))
      have k2 : a2 = nm 2 := ea2.trans (g1 2 (by omega))
      have k3 : a3 = nm 3 := ea3.trans (g1 3 (by omega))
      have hok : okA D.1 (nm 0) (nm 1) (nm 2) (nm 3) ↔ (zA D.1 < 6 ∧ (1 ≤ nm 3 ∧ nm 3 ≤ 30) ∧ nm 0 ≤ 10 ∧ nm 1 ≤ 10 ∧ nm 2 ≤ 10) := Iff.rfl
      have aloop : ∀ (r k : Nat) (I' : Nat → Nat → Int), okA D.1 (nm 0) (nm 1) (nm 2) (nm 3) → k + r = 4 → (∀ q, q ≠ 76 → I' q = I1 q) → (∀ x, x < 24 + 4 * zA D.1 → I' 76 x = I1 76 x) → (∀ j, j < k → I' 76 (24 + 4 * zA D.1 + j) = nm j) → GM E mdX12_isGood 1 M Rf Q I' J 223 [some (vr E 71), some (vi 97), some (vi te), some (vi (k : Int))] [] := by
        intro r
        induction r with
        | zero =>
          intro k I' hy hk hq ho hn
          have hy6 := hok.mp hy
          have hk : k = 4 := by omega
          subst hk
          have hyes : takeD 97 4 nm D = some (addAskH D.1 (nm 0) (nm 1) (nm 2) (nm 3), D.2) := by rw [takeD_a, if_pos hy]
          have hv : I' 75 1 = (zA D.1 : Int) := by rw [hq 75 (by decide)]; exact hP1.1.2.1
          refine G_iload_n (pc := 223) dX12_isGood_223 rfl ?_
          refine G_iconst (pc := 224) dX12_isGood_224 ?_
          refine G_icmp_ge (pc := 225) (tgt := 258) dX12_isGood_225 (by first | exact bI_R | exact Ri.mk (by omega) (by omega)) (Ri.mk (by omega) (by omega)) (by decide) (fun h_225 => ?_) (fun h_225 => ?_)
          · refine G_aload_n (pc := 258) dX12_isGood_258 rfl ?_
            refine G_getr (pc := 259) dX12_isGood_259 fiX12_20 (by first | rfl | assumption) (by omega) (by first | rfl | assumption) ?_
            refine G_iconst (pc := 262) dX12_isGood_262 ?_
            refine G_dup2 (pc := 263) dX12_isGood_263 rfl rfl ?_
            refine G_ialdv (pc := 264) dX12_isGood_264 (by first | rfl | assumption) (by omega) (by omega) (by omega) (by omega) (hv) ?_
            refine G_iconst (pc := 265) dX12_isGood_265 ?_
            refine G_iadd (pc := 266) dX12_isGood_266 ?_
            refine G_iast (pc := 267) dX12_isGood_267 (by first | rfl | assumption) (by omega) (by omega) (by omega) (by omega) ?_
            refine G_goto (pc := 268) (tgt := 472) dX12_isGood_268 (by decide) ?_
            refine G_iconst (pc := 472) dX12_isGood_472 ?_
            refine G_zret (pc := 473) dX12_isGood_473 rfl (by omega) ?_
            rw [← hQ]
            refine ⟨by rw [hyes, bI_S], rfl, hO1.trans ⟨fun q _ _ _ h75 h76 _ _ _ => (wr_o h75).trans (hq q h76), fun i _ _ => by rw [wr_o (by decide), hq 71 (by decide)], by rw [wr_o (by decide), hq 73 (by decide)], ?_, fun x _ => by rw [wr_o (by decide), hq 74 (by decide)], fun x hx => by rw [wr_o (by decide)]; exact ho x (by omega), fun x _ => by rw [wr_o (by decide), hq 78 (by decide)]⟩, by rw [wr_o (by decide), hq 71 (by decide)]; exact h2, fun D' hD' => ?_⟩
            · exact (wr_n (show (0 : Nat) ≠ 1 by decide)).trans (by rw [hq 75 (by decide)])
            · rw [hyes] at hD'; cases hD'
              exact PD_a hP1 wr_s ((wr_o (by decide)).trans (hq 73 (by decide))) ((wr_o (by decide)).trans (hq 74 (by decide))) ((wr_o (by decide)).trans (hq 77 (by decide))) ((wr_o (by decide)).trans (hq 78 (by decide))) ((wr_o (by decide)).trans (hq 71 (by decide))) (fun j hj => by rw [wr_o (by decide)]; exact hn j hj) (fun x hx => by rw [wr_o (by decide)]; exact ho x hx)
          · exact absurd h_225 (by omega)
        | succ r ih =>
          intro k I' hy hk hq ho hn
          have hy6 := hok.mp hy
          have hv : I' 75 1 = (zA D.1 : Int) := by rw [hq 75 (by decide)]; exact hP1.1.2.1
          have hgk : I' 86 ((k : Int)).toNat = (nm k : Int) := by rw [Int.toNat_natCast, hq 86 (by decide)]; exact g1 k (by omega)
          refine G_iload_n (pc := 223) dX12_isGood_223 rfl ?_
          refine G_iconst (pc := 224) dX12_isGood_224 ?_
          refine G_icmp_ge (pc := 225) (tgt := 258) dX12_isGood_225 (by first | exact bI_R | exact Ri.mk (by omega) (by omega)) (Ri.mk (by omega) (by omega)) (by decide) (fun h_225 => ?_) (fun h_225 => ?_)
          · exact absurd h_225 (by omega)
          · refine G_aload_n (pc := 228) dX12_isGood_228 rfl ?_
            refine G_getr (pc := 229) dX12_isGood_229 fiX12_23 (by first | rfl | assumption) (by omega) (by first | rfl | assumption) ?_
            refine G_bipush (pc := 232) dX12_isGood_232 (by decide) ?_
            refine G_iconst (pc := 234) dX12_isGood_234 ?_
            refine G_aload_n (pc := 235) dX12_isGood_235 rfl ?_
            refine G_getr (pc := 236) dX12_isGood_236 fiX12_20 (by first | rfl | assumption) (by omega) (by first | rfl | assumption) ?_
            refine G_iconst (pc := 239) dX12_isGood_239 ?_
            refine G_ialdv (pc := 240) dX12_isGood_240 (by first | rfl | assumption) (by omega) (by omega) (by omega) (by omega) (hv) ?_
            refine G_imul (pc := 241) dX12_isGood_241 ?_
            refine G_iadd (pc := 242) dX12_isGood_242 ?_
            refine G_iload_n (pc := 243) dX12_isGood_243 rfl ?_
            refine G_iadd (pc := 244) dX12_isGood_244 ?_
            refine G_aload_n (pc := 245) dX12_isGood_245 rfl ?_
            refine G_getr (pc := 246) dX12_isGood_246 fiX12_55 (by first | rfl | assumption) (by omega) (by first | rfl | assumption) ?_
            refine G_iload_n (pc := 249) dX12_isGood_249 rfl ?_
            refine G_ialdv (pc := 250) dX12_isGood_250 (by first | rfl | assumption) (by omega) (by omega) (by omega) (by omega) (hgk) ?_
            refine G_iast (pc := 251) dX12_isGood_251 (by first | rfl | assumption) (by omega) (by omega) (by omega) (by omega) ?_
            refine G_iinc (pc := 252) (lv' := [_, _, _, _]) dX12_isGood_252 (by decide) rfl rfl ?_
            refine G_goto (pc := 255) (tgt := 223) dX12_isGood_255 (by decide) ?_
            have e : (24 + 4 * (zA D.1 : Int) + (k : Int)).toNat = 24 + 4 * zA D.1 + k := by omega
            rw [e]
            refine ih (k + 1) _ hy (by omega) (fun q h => (wr_o h).trans (hq q h)) (fun x hx => (wr_n (by omega)).trans (ho x hx)) (fun j hj => ?_)
            by_cases ej : j = k
            · subst ej; exact wr_s
            · exact (wr_n (by omega)).trans (hn j (by omega))
      refine G_istore_n (pc := 39) (lv' := [_, _, _, _]) dX12_isGood_39 (by decide) rfl ?_
      refine G_iload_n (pc := 40) dX12_isGood_40 rfl ?_
      refine G_bipush (pc := 41) dX12_isGood_41 (by decide) ?_
      refine G_icmp_ne (pc := 43) (tgt := 164) dX12_isGood_43 (by first | exact bI_R | exact Ri.mk (by omega) (by omega)) (Ri.mk (by omega) (by omega)) (by decide) (fun h_43 => ?_) (fun h_43 => ?_)
      · refine G_iload_n (pc := 164) dX12_isGood_164 rfl ?_
        refine G_bipush (pc := 165) dX12_isGood_165 (by decide) ?_
        refine G_icmp_ne (pc := 167) (tgt := 271) dX12_isGood_167 (by first | exact bI_R | exact Ri.mk (by omega) (by omega)) (Ri.mk (by omega) (by omega)) (by decide) (fun h_167 => ?_) (fun h_167 => ?_)
        · exact absurd rfl h_167
        · refine G_aload_n (pc := 170) dX12_isGood_170 rfl ?_
          refine G_getr (pc := 171) dX12_isGood_171 fiX12_55 (by first | rfl | assumption) (by omega) (by first | rfl | assumption) ?_
          refine G_iconst (pc := 174) dX12_isGood_174 ?_
          refine G_ialdv (pc := 175) dX12_isGood_175 (by first | rfl | assumption) (by omega) (by omega) (by omega) (by omega) (ea0.symm) ?_
          refine G_i2l (pc := 176) dX12_isGood_176 (by first | exact bI_R | exact Ri.mk (by omega) (by omega)) ?_
          refine G_lconst (pc := 177) dX12_isGood_177 ?_
          refine G_ldc2 (pc := 178) dX12_isGood_178 klX12_95 ?_
          refine G_callS1 (pc := 181) (md := mdX12_in) (av := [_, _, _]) dX12_isGood_181 lkX12_66 mwX12_in (m_inI _ _ _ (0 ≤ a0 ∧ a0 ≤ 10) (by omega) (Rl.mk (by omega) (by omega)) (Rl.mk (by omega) (by omega)) (Rl.mk (by omega) (by omega))) rfl rfl (Nat.le_of_ble_eq_true rfl) (by decide) ⟨Nat.zero_le _, Nat.zero_le _⟩ ?_
          refine G_if_eq (pc := 184) (tgt := 219) dX12_isGood_184 (by first | exact bI_R | exact Ri.mk (by omega) (by omega)) (by decide) (fun h_184 => ?_) (fun h_184 => ?_)
          · try simp only [bI_eq0, bI_ne0] at h_184
            refine G_iconst (pc := 219) dX12_isGood_219 ?_
            refine G_zret (pc := 220) dX12_isGood_220 rfl (by omega) ?_
            have hno : takeD 97 4 nm D = none := by rw [takeD_a, if_neg (by rw [hok]; omega)]
            rw [← hQ]
            exact ⟨by rw [hno, bI_f (fun z => by cases z)], rfl, hO1, h2, fun D' hD' => by rw [hno] at hD'; cases hD'⟩
          · try simp only [bI_eq0, bI_ne0] at h_184
            refine G_iload_n (pc := 187) dX12_isGood_187 rfl ?_
            refine G_if_eq (pc := 188) (tgt := 219) dX12_isGood_188 (by first | exact bI_R | exact Ri.mk (by omega) (by omega)) (by decide) (fun h_188 => ?_) (fun h_188 => ?_)
            · try simp only [bI_eq0, bI_ne0] at h_188
              refine G_iconst (pc := 219) dX12_isGood_219 ?_
              refine G_zret (pc := 220) dX12_isGood_220 rfl (by omega) ?_
              have hno : takeD 97 4 nm D = none := by rw [takeD_a, if_neg (by rw [hok]; omega)]
              rw [← hQ]
              exact ⟨by rw [hno, bI_f (fun z => by cases z)], rfl, hO1, h2, fun D' hD' => by rw [hno] at hD'; cases hD'⟩
            · try simp only [bI_eq0, bI_ne0] at h_188
              refine G_aload_n (pc := 191) dX12_isGood_191 rfl ?_
              refine G_getr (pc := 192) dX12_isGood_192 fiX12_55 (by first | rfl | assumption) (by omega) (by first | rfl | assumption) ?_
              refine G_iconst (pc := 195) dX12_isGood_195 ?_
              refine G_ialdv (pc := 196) dX12_isGood_196 (by first | rfl | assumption) (by omega) (by omega) (by omega) (by omega) (ea3.symm) ?_
              refine G_i2l (pc := 197) dX12_isGood_197 (by first | exact bI_R | exact Ri.mk (by omega) (by omega)) ?_
              refine G_lconst (pc := 198) dX12_isGood_198 ?_
              refine G_ldc2 (pc := 199) dX12_isGood_199 klX12_102 ?_
              refine G_callS1 (pc := 202) (md := mdX12_in) (av := [_, _, _]) dX12_isGood_202 lkX12_66 mwX12_in (m_inI _ _ _ (1 ≤ a3 ∧ a3 ≤ 30) (by omega) (Rl.mk (by omega) (by omega)) (Rl.mk (by omega) (by omega)) (Rl.mk (by omega) (by omega))) rfl rfl (Nat.le_of_ble_eq_true rfl) (by decide) ⟨Nat.zero_le _, Nat.zero_le _⟩ ?_
              refine G_if_eq (pc := 205) (tgt := 219) dX12_isGood_205 (by first | exact bI_R | exact Ri.mk (by omega) (by omega)) (by decide) (fun h_205 => ?_) (fun h_205 => ?_)
              · try simp only [bI_eq0, bI_ne0] at h_205
                refine G_iconst (pc := 219) dX12_isGood_219 ?_
                refine G_zret (pc := 220) dX12_isGood_220 rfl (by omega) ?_
                have hno : takeD 97 4 nm D = none := by rw [takeD_a, if_neg (by rw [hok]; omega)]
                rw [← hQ]
                exact ⟨by rw [hno, bI_f (fun z => by cases z)], rfl, hO1, h2, fun D' hD' => by rw [hno] at hD'; cases hD'⟩
              · try simp only [bI_eq0, bI_ne0] at h_205
                refine G_aload_n (pc := 208) dX12_isGood_208 rfl ?_
                refine G_getr (pc := 209) dX12_isGood_209 fiX12_20 (by first | rfl | assumption) (by omega) (by first | rfl | assumption) ?_
                refine G_iconst (pc := 212) dX12_isGood_212 ?_
                refine G_ialdv (pc := 213) dX12_isGood_213 (by first | rfl | assumption) (by omega) (by omega) (by omega) (by omega) (hP1.1.2.1) ?_
                refine G_bipush (pc := 214) dX12_isGood_214 (by decide) ?_
                refine G_icmp_ne (pc := 216) (tgt := 221) dX12_isGood_216 (by first | exact bI_R | exact Ri.mk (by omega) (by omega)) (Ri.mk (by omega) (by omega)) (by decide) (fun h_216 => ?_) (fun h_216 => ?_)
                · refine G_iconst (pc := 221) dX12_isGood_221 ?_
                  refine G_istore_n (pc := 222) (lv' := [_, _, _, _]) dX12_isGood_222 (by decide) rfl ?_
                  have hy : okA D.1 (nm 0) (nm 1) (nm 2) (nm 3) := hok.mpr (by omega)
                  exact aloop 4 0 I1 hy (by omega) (fun _ _ => rfl) (fun _ _ => rfl) (fun j hj => absurd hj (Nat.not_lt_zero _))
                · refine G_iconst (pc := 219) dX12_isGood_219 ?_
                  refine G_zret (pc := 220) dX12_isGood_220 rfl (by omega) ?_
                  have hno : takeD 97 4 nm D = none := by rw [takeD_a, if_neg (by rw [hok]; omega)]
                  rw [← hQ]
                  exact ⟨by rw [hno, bI_f (fun z => by cases z)], rfl, hO1, h2, fun D' hD' => by rw [hno] at hD'; cases hD'⟩
      · exact absurd h_43 (by decide)
    · obtain rfl : c = 2 := hc.trans (by decide)
      have k0 : a0 = nm 0 := ea0.trans (g1 0 (by omega))
      have k1 : a1 = nm 1 := ea1.trans (g1 1 (by omega))
      refine G_istore_n (pc := 39) (lv' := [_, _, _, _]) dX12_isGood_39 (by decide) rfl ?_
      refine G_iload_n (pc := 40) dX12_isGood_40 rfl ?_
      refine G_bipush (pc := 41) dX12_isGood_41 (by decide) ?_
      refine G_icmp_ne (pc := 43) (tgt := 164) dX12_isGood_43 (by first | exact bI_R | exact Ri.mk (by omega) (by omega)) (Ri.mk (by omega) (by omega)) (by decide) (fun h_43 => ?_) (fun h_43 => ?_)
      · refine G_iload_n (pc := 164) dX12_isGood_164 rfl ?_
        refine G_bipush (pc := 165) dX12_isGood_165 (by decide) ?_
        refine G_icmp_ne (pc := 167) (tgt := 271) dX12_isGood_167 (by first | exact bI_R | exact Ri.mk (by omega) (by omega)) (Ri.mk (by omega) (by omega)) (by decide) (fun h_167 => ?_) (fun h_167 => ?_)
        · refine G_iload_n (pc := 271) dX12_isGood_271 rfl ?_
          refine G_bipush (pc := 272) dX12_isGood_272 (by decide) ?_
          refine G_icmp_ne (pc := 274) (tgt := 375) dX12_isGood_274 (by first | exact bI_R | exact Ri.mk (by omega) (by omega)) (Ri.mk (by omega) (by omega)) (by decide) (fun h_274 => ?_) (fun h_274 => ?_)
          · exact absurd rfl h_274
          · refine G_aload_n (pc := 277) dX12_isGood_277 rfl ?_
            refine G_getr (pc := 278) dX12_isGood_278 fiX12_55 (by first | rfl | assumption) (by omega) (by first | rfl | assumption) ?_
            refine G_iconst (pc := 281) dX12_isGood_281 ?_
            refine G_ialdv (pc := 282) dX12_isGood_282 (by first | rfl | assumption) (by omega) (by omega) (by omega) (by omega) (ea0.symm) ?_
            refine G_i2l (pc := 283) dX12_isGood_283 (by first | exact bI_R | exact Ri.mk (by omega) (by omega)) ?_
            refine G_lconst (pc := 284) dX12_isGood_284 ?_
            refine G_aload_n (pc := 285) dX12_isGood_285 rfl ?_
            refine G_getr (pc := 286) dX12_isGood_286 fiX12_20 (by first | rfl | assumption) (by omega) (by first | rfl | assumption) ?_
            refine G_iconst (pc := 289) dX12_isGood_289 ?_
            refine G_ialdv (pc := 290) dX12_isGood_290 (by first | rfl | assumption) (by omega) (by omega) (by omega) (by omega) (hP1.1.2.1) ?_
            refine G_iconst (pc := 291) dX12_isGood_291 ?_
            refine G_isub (pc := 292) dX12_isGood_292 ?_
            refine G_i2l (pc := 293) dX12_isGood_293 (by first | exact bI_R | exact Ri.mk (by omega) (by omega)) ?_
            refine G_callS1 (pc := 294) (md := mdX12_in) (av := [_, _, _]) dX12_isGood_294 lkX12_66 mwX12_in (m_inI _ _ _ (0 ≤ a0 ∧ a0 < (zA D.1 : Int)) (by omega) (Rl.mk (by omega) (by omega)) (Rl.mk (by omega) (by omega)) (Rl.mk (by omega) (by omega))) rfl rfl (Nat.le_of_ble_eq_true rfl) (by decide) ⟨Nat.zero_le _, Nat.zero_le _⟩ ?_
            refine G_if_eq (pc := 297) (tgt := 324) dX12_isGood_297 (by first | exact bI_R | exact Ri.mk (by omega) (by omega)) (by decide) (fun h_297 => ?_) (fun h_297 => ?_)
            · try simp only [bI_eq0, bI_ne0] at h_297
              refine G_iconst (pc := 324) dX12_isGood_324 ?_
              refine G_zret (pc := 325) dX12_isGood_325 rfl (by omega) ?_
              have hno : takeD 116 2 nm D = none := by rw [takeD_t, if_neg (by omega)]
              rw [← hQ]
              exact ⟨by rw [hno, bI_f (fun z => by cases z)], rfl, hO1, h2, fun D' hD' => by rw [hno] at hD'; cases hD'⟩
            · try simp only [bI_eq0, bI_ne0] at h_297
              refine G_aload_n (pc := 300) dX12_isGood_300 rfl ?_
              refine G_getr (pc := 301) dX12_isGood_301 fiX12_55 (by first | rfl | assumption) (by omega) (by first | rfl | assumption) ?_
              refine G_iconst (pc := 304) dX12_isGood_304 ?_
              refine G_ialdv (pc := 305) dX12_isGood_305 (by first | rfl | assumption) (by omega) (by omega) (by omega) (by omega) (ea1.symm) ?_
              refine G_i2l (pc := 306) dX12_isGood_306 (by first | exact bI_R | exact Ri.mk (by omega) (by omega)) ?_
              refine G_lconst (pc := 307) dX12_isGood_307 ?_
              refine G_lconst (pc := 308) dX12_isGood_308 ?_
              refine G_callS1 (pc := 309) (md := mdX12_in) (av := [_, _, _]) dX12_isGood_309 lkX12_66 mwX12_in (m_inI _ _ _ (0 ≤ a1 ∧ a1 ≤ 1) (by omega) (Rl.mk (by omega) (by omega)) (Rl.mk (by omega) (by omega)) (Rl.mk (by omega) (by omega))) rfl rfl (Nat.le_of_ble_eq_true rfl) (by decide) ⟨Nat.zero_le _, Nat.zero_le _⟩ ?_
              refine G_if_eq (pc := 312) (tgt := 324) dX12_isGood_312 (by first | exact bI_R | exact Ri.mk (by omega) (by omega)) (by decide) (fun h_312 => ?_) (fun h_312 => ?_)
              · try simp only [bI_eq0, bI_ne0] at h_312
                refine G_iconst (pc := 324) dX12_isGood_324 ?_
                refine G_zret (pc := 325) dX12_isGood_325 rfl (by omega) ?_
                have hno : takeD 116 2 nm D = none := by rw [takeD_t, if_neg (by omega)]
                rw [← hQ]
                exact ⟨by rw [hno, bI_f (fun z => by cases z)], rfl, hO1, h2, fun D' hD' => by rw [hno] at hD'; cases hD'⟩
              · try simp only [bI_eq0, bI_ne0] at h_312
                refine G_aload_n (pc := 315) dX12_isGood_315 rfl ?_
                refine G_getiv (pc := 316) dX12_isGood_316 fiX12_104 (by first | rfl | assumption) (by omega) (hP1.2.1) ?_
                refine G_bipush (pc := 319) dX12_isGood_319 (by decide) ?_
                refine G_icmp_ne (pc := 321) (tgt := 326) dX12_isGood_321 (by first | exact bI_R | exact Ri.mk (by omega) (by omega)) (Ri.mk (by omega) (by omega)) (by decide) (fun h_321 => ?_) (fun h_321 => ?_)
                · refine G_aload_n (pc := 326) dX12_isGood_326 rfl ?_
                  refine G_getr (pc := 327) dX12_isGood_327 fiX12_26 (by first | rfl | assumption) (by omega) (by first | rfl | assumption) ?_
                  refine G_iconst (pc := 330) dX12_isGood_330 ?_
                  refine G_aload_n (pc := 331) dX12_isGood_331 rfl ?_
                  refine G_getiv (pc := 332) dX12_isGood_332 fiX12_104 (by first | rfl | assumption) (by omega) (hP1.2.1) ?_
                  refine G_imul (pc := 335) dX12_isGood_335 ?_
                  refine G_aload_n (pc := 336) dX12_isGood_336 rfl ?_
                  refine G_getr (pc := 337) dX12_isGood_337 fiX12_55 (by first | rfl | assumption) (by omega) (by first | rfl | assumption) ?_
                  refine G_iconst (pc := 340) dX12_isGood_340 ?_
                  refine G_ialdv (pc := 341) dX12_isGood_341 (by first | rfl | assumption) (by omega) (by omega) (by omega) (by omega) (ea0.symm) ?_
                  refine G_iast (pc := 342) dX12_isGood_342 (by first | rfl | assumption) (by omega) (by omega) (by omega) (by omega) ?_
                  refine G_aload_n (pc := 343) dX12_isGood_343 rfl ?_
                  refine G_getr (pc := 344) dX12_isGood_344 fiX12_26 (by first | rfl | assumption) (by omega) (by first | rfl | assumption) ?_
                  refine G_iconst (pc := 347) dX12_isGood_347 ?_
                  refine G_aload_n (pc := 348) dX12_isGood_348 rfl ?_
                  refine G_getiv (pc := 349) dX12_isGood_349 fiX12_104 (by first | rfl | assumption) (by omega) ((show wr I1 77 _ _ 71 7 = (D.2 0 0 : Int) by rw [wr_o (by decide)]; exact hP1.2.1)) ?_
                  refine G_imul (pc := 352) dX12_isGood_352 ?_
                  refine G_iconst (pc := 353) dX12_isGood_353 ?_
                  refine G_iadd (pc := 354) dX12_isGood_354 ?_
                  refine G_aload_n (pc := 355) dX12_isGood_355 rfl ?_
                  refine G_getr (pc := 356) dX12_isGood_356 fiX12_55 (by first | rfl | assumption) (by omega) (by first | rfl | assumption) ?_
                  refine G_iconst (pc := 359) dX12_isGood_359 ?_
                  refine G_ialdv (pc := 360) dX12_isGood_360 (by first | rfl | assumption) (by omega) (by omega) (by omega) (by omega) ((show wr I1 77 _ _ 86 1 = a1 by rw [wr_o (by decide)]; exact ea1.symm)) ?_
                  refine G_iast (pc := 361) dX12_isGood_361 (by first | rfl | assumption) (by omega) (by omega) (by omega) (by omega) ?_
                  refine G_aload_n (pc := 362) dX12_isGood_362 rfl ?_
                  refine G_dup (pc := 363) dX12_isGood_363 rfl ?_
                  refine G_getiv (pc := 364) dX12_isGood_364 fiX12_104 (by first | rfl | assumption) (by omega) ((show wr (wr I1 77 _ _) 77 _ _ 71 7 = (D.2 0 0 : Int) by rw [wr_o (by decide), wr_o (by decide)]; exact hP1.2.1)) ?_
                  refine G_iconst (pc := 367) dX12_isGood_367 ?_
                  refine G_iadd (pc := 368) dX12_isGood_368 ?_
                  refine G_puti (pc := 369) dX12_isGood_369 fiX12_104 (by first | rfl | assumption) (by omega) ?_
                  refine G_goto (pc := 372) (tgt := 472) dX12_isGood_372 (by decide) ?_
                  refine G_iconst (pc := 472) dX12_isGood_472 ?_
                  refine G_zret (pc := 473) dX12_isGood_473 rfl (by omega) ?_
                  have hyes : takeD 116 2 nm D = some (D.1, addR D.2 (nm 0) (nm 1)) := by rw [takeD_t, if_pos (by omega)]
                  have e0 : (2 * (D.2 0 0 : Int)).toNat = 2 * D.2 0 0 := by omega
                  have e1 : (2 * (D.2 0 0 : Int) + 1).toNat = 2 * D.2 0 0 + 1 := by omega
                  rw [← hQ, e0, e1, k0, k1]
                  refine ⟨by rw [hyes, bI_S], rfl, ((hO1.w (by omega)).w (by omega)).w (by omega), by rw [wr_n (by decide), wr_o (by decide), wr_o (by decide)]; exact h2, fun D' hD' => ?_⟩
                  rw [hyes] at hD'; cases hD'
                  exact PD_t hP1 (fun q a b d => by rw [wr_o (by omega), wr_o (by omega), wr_o (by omega)]) wr_s (by rw [wr_o (by decide), wr_n (by omega), wr_s]) (by rw [wr_o (by decide), wr_s]) (fun x hx => by rw [wr_o (by decide), wr_n (by omega), wr_n (by omega)])
                · refine G_iconst (pc := 324) dX12_isGood_324 ?_
                  refine G_zret (pc := 325) dX12_isGood_325 rfl (by omega) ?_
                  have hno : takeD 116 2 nm D = none := by rw [takeD_t, if_neg (by omega)]
                  rw [← hQ]
                  exact ⟨by rw [hno, bI_f (fun z => by cases z)], rfl, hO1, h2, fun D' hD' => by rw [hno] at hD'; cases hD'⟩
        · exact absurd h_167 (by decide)
      · exact absurd h_43 (by decide)
    · obtain rfl : c = 1 := hc.trans (by decide)
      have k0 : a0 = nm 0 := ea0.trans (g1 0 (by omega))
      refine G_istore_n (pc := 39) (lv' := [_, _, _, _]) dX12_isGood_39 (by decide) rfl ?_
      refine G_iload_n (pc := 40) dX12_isGood_40 rfl ?_
      refine G_bipush (pc := 41) dX12_isGood_41 (by decide) ?_
      refine G_icmp_ne (pc := 43) (tgt := 164) dX12_isGood_43 (by first | exact bI_R | exact Ri.mk (by omega) (by omega)) (Ri.mk (by omega) (by omega)) (by decide) (fun h_43 => ?_) (fun h_43 => ?_)
      · refine G_iload_n (pc := 164) dX12_isGood_164 rfl ?_
        refine G_bipush (pc := 165) dX12_isGood_165 (by decide) ?_
        refine G_icmp_ne (pc := 167) (tgt := 271) dX12_isGood_167 (by first | exact bI_R | exact Ri.mk (by omega) (by omega)) (Ri.mk (by omega) (by omega)) (by decide) (fun h_167 => ?_) (fun h_167 => ?_)
        · refine G_iload_n (pc := 271) dX12_isGood_271 rfl ?_
          refine G_bipush (pc := 272) dX12_isGood_272 (by decide) ?_
          refine G_icmp_ne (pc := 274) (tgt := 375) dX12_isGood_274 (by first | exact bI_R | exact Ri.mk (by omega) (by omega)) (Ri.mk (by omega) (by omega)) (by decide) (fun h_274 => ?_) (fun h_274 => ?_)
          · refine G_iload_n (pc := 375) dX12_isGood_375 rfl ?_
            refine G_bipush (pc := 376) dX12_isGood_376 (by decide) ?_
            refine G_icmp_ne (pc := 378) (tgt := 408) dX12_isGood_378 (by first | exact bI_R | exact Ri.mk (by omega) (by omega)) (Ri.mk (by omega) (by omega)) (by decide) (fun h_378 => ?_) (fun h_378 => ?_)
            · exact absurd rfl h_378
            · refine G_aload_n (pc := 381) dX12_isGood_381 rfl ?_
              refine G_getr (pc := 382) dX12_isGood_382 fiX12_29 (by first | rfl | assumption) (by omega) (by first | rfl | assumption) ?_
              refine G_iconst (pc := 385) dX12_isGood_385 ?_
              refine G_aload_n (pc := 386) dX12_isGood_386 rfl ?_
              refine G_getr (pc := 387) dX12_isGood_387 fiX12_55 (by first | rfl | assumption) (by omega) (by first | rfl | assumption) ?_
              refine G_iconst (pc := 390) dX12_isGood_390 ?_
              refine G_ialdv (pc := 391) dX12_isGood_391 (by first | rfl | assumption) (by omega) (by omega) (by omega) (by omega) (ea0.symm) ?_
              refine G_iast (pc := 392) dX12_isGood_392 (by first | rfl | assumption) (by omega) (by omega) (by omega) (by omega) ?_
              refine G_aload_n (pc := 393) dX12_isGood_393 rfl ?_
              refine G_getr (pc := 394) dX12_isGood_394 fiX12_55 (by first | rfl | assumption) (by omega) (by first | rfl | assumption) ?_
              refine G_iconst (pc := 397) dX12_isGood_397 ?_
              refine G_ialdv (pc := 398) dX12_isGood_398 (by first | rfl | assumption) (by omega) (by omega) (by omega) (by omega) ((show wr I1 78 _ _ 86 0 = a0 by rw [wr_o (by decide)]; exact ea0.symm)) ?_
              refine G_i2l (pc := 399) dX12_isGood_399 (by first | exact bI_R | exact Ri.mk (by omega) (by omega)) ?_
              refine G_lconst (pc := 400) dX12_isGood_400 ?_
              refine G_ldc2 (pc := 401) dX12_isGood_401 klX12_95 ?_
              refine G_callS1 (pc := 404) (md := mdX12_in) (av := [_, _, _]) dX12_isGood_404 lkX12_66 mwX12_in (m_inI _ _ _ (0 ≤ a0 ∧ a0 ≤ 10) (by omega) (Rl.mk (by omega) (by omega)) (Rl.mk (by omega) (by omega)) (Rl.mk (by omega) (by omega))) rfl rfl (Nat.le_of_ble_eq_true rfl) (by decide) ⟨Nat.zero_le _, Nat.zero_le _⟩ ?_
              refine G_zret (pc := 407) dX12_isGood_407 rfl bI_01 ?_
              rw [← hQ, k0]
              refine ⟨?_, rfl, hO1.w (by decide), by rw [wr_o (by decide)]; exact h2, fun D' hD' => ?_⟩
              · by_cases h : nm 0 ≤ 10
                · rw [takeD_c, if_pos h, bI_t (by omega), bI_S]
                · rw [takeD_c, if_neg h, bI_f (by omega), bI_f (fun z => by cases z)]
              · rw [takeD_c] at hD'
                by_cases h : nm 0 ≤ 10
                · rw [if_pos h] at hD'; cases hD'; exact PD_se (i := 11) hP1 (by omega) (by omega)
                · rw [if_neg h] at hD'; cases hD'
          · exact absurd h_274 (by decide)
        · exact absurd h_167 (by decide)
      · exact absurd h_43 (by decide)
    · obtain rfl : c = 2 := hc.trans (by decide)
      have k0 : a0 = nm 0 := ea0.trans (g1 0 (by omega))
      have k1 : a1 = nm 1 := ea1.trans (g1 1 (by omega))
      refine G_istore_n (pc := 39) (lv' := [_, _, _, _]) dX12_isGood_39 (by decide) rfl ?_
      refine G_iload_n (pc := 40) dX12_isGood_40 rfl ?_
      refine G_bipush (pc := 41) dX12_isGood_41 (by decide) ?_
      refine G_icmp_ne (pc := 43) (tgt := 164) dX12_isGood_43 (by first | exact bI_R | exact Ri.mk (by omega) (by omega)) (Ri.mk (by omega) (by omega)) (by decide) (fun h_43 => ?_) (fun h_43 => ?_)
      · refine G_iload_n (pc := 164) dX12_isGood_164 rfl ?_
        refine G_bipush (pc := 165) dX12_isGood_165 (by decide) ?_
        refine G_icmp_ne (pc := 167) (tgt := 271) dX12_isGood_167 (by first | exact bI_R | exact Ri.mk (by omega) (by omega)) (Ri.mk (by omega) (by omega)) (by decide) (fun h_167 => ?_) (fun h_167 => ?_)
        · refine G_iload_n (pc := 271) dX12_isGood_271 rfl ?_
          refine G_bipush (pc := 272) dX12_isGood_272 (by decide) ?_
          refine G_icmp_ne (pc := 274) (tgt := 375) dX12_isGood_274 (by first | exact bI_R | exact Ri.mk (by omega) (by omega)) (Ri.mk (by omega) (by omega)) (by decide) (fun h_274 => ?_) (fun h_274 => ?_)
          · refine G_iload_n (pc := 375) dX12_isGood_375 rfl ?_
            refine G_bipush (pc := 376) dX12_isGood_376 (by decide) ?_
            refine G_icmp_ne (pc := 378) (tgt := 408) dX12_isGood_378 (by first | exact bI_R | exact Ri.mk (by omega) (by omega)) (Ri.mk (by omega) (by omega)) (by decide) (fun h_378 => ?_) (fun h_378 => ?_)
            · refine G_aload_n (pc := 408) dX12_isGood_408 rfl ?_
              refine G_getr (pc := 409) dX12_isGood_409 fiX12_29 (by first | rfl | assumption) (by omega) (by first | rfl | assumption) ?_
              refine G_iconst (pc := 412) dX12_isGood_412 ?_
              refine G_aload_n (pc := 413) dX12_isGood_413 rfl ?_
              refine G_getr (pc := 414) dX12_isGood_414 fiX12_55 (by first | rfl | assumption) (by omega) (by first | rfl | assumption) ?_
              refine G_iconst (pc := 417) dX12_isGood_417 ?_
              refine G_ialdv (pc := 418) dX12_isGood_418 (by first | rfl | assumption) (by omega) (by omega) (by omega) (by omega) (ea0.symm) ?_
              refine G_iast (pc := 419) dX12_isGood_419 (by first | rfl | assumption) (by omega) (by omega) (by omega) (by omega) ?_
              refine G_aload_n (pc := 420) dX12_isGood_420 rfl ?_
              refine G_getr (pc := 421) dX12_isGood_421 fiX12_29 (by first | rfl | assumption) (by omega) (by first | rfl | assumption) ?_
              refine G_iconst (pc := 424) dX12_isGood_424 ?_
              refine G_aload_n (pc := 425) dX12_isGood_425 rfl ?_
              refine G_getr (pc := 426) dX12_isGood_426 fiX12_55 (by first | rfl | assumption) (by omega) (by first | rfl | assumption) ?_
              refine G_iconst (pc := 429) dX12_isGood_429 ?_
              refine G_ialdv (pc := 430) dX12_isGood_430 (by first | rfl | assumption) (by omega) (by omega) (by omega) (by omega) ((show wr I1 78 _ _ 86 1 = a1 by rw [wr_o (by decide)]; exact ea1.symm)) ?_
              refine G_iast (pc := 431) dX12_isGood_431 (by first | rfl | assumption) (by omega) (by omega) (by omega) (by omega) ?_
              refine G_aload_n (pc := 432) dX12_isGood_432 rfl ?_
              refine G_getr (pc := 433) dX12_isGood_433 fiX12_55 (by first | rfl | assumption) (by omega) (by first | rfl | assumption) ?_
              refine G_iconst (pc := 436) dX12_isGood_436 ?_
              refine G_ialdv (pc := 437) dX12_isGood_437 (by first | rfl | assumption) (by omega) (by omega) (by omega) (by omega) ((show wr (wr I1 78 _ _) 78 _ _ 86 0 = a0 by rw [wr_o (by decide), wr_o (by decide)]; exact ea0.symm)) ?_
              refine G_i2l (pc := 438) dX12_isGood_438 (by first | exact bI_R | exact Ri.mk (by omega) (by omega)) ?_
              refine G_lconst (pc := 439) dX12_isGood_439 ?_
              refine G_ldc2 (pc := 440) dX12_isGood_440 klX12_107 ?_
              refine G_callS1 (pc := 443) (md := mdX12_in) (av := [_, _, _]) dX12_isGood_443 lkX12_66 mwX12_in (m_inI _ _ _ (0 ≤ a0 ∧ a0 ≤ 99) (by omega) (Rl.mk (by omega) (by omega)) (Rl.mk (by omega) (by omega)) (Rl.mk (by omega) (by omega))) rfl rfl (Nat.le_of_ble_eq_true rfl) (by decide) ⟨Nat.zero_le _, Nat.zero_le _⟩ ?_
              refine G_if_eq (pc := 446) (tgt := 470) dX12_isGood_446 (by first | exact bI_R | exact Ri.mk (by omega) (by omega)) (by decide) (fun h_446 => ?_) (fun h_446 => ?_)
              · try simp only [bI_eq0, bI_ne0] at h_446
                refine G_iconst (pc := 470) dX12_isGood_470 ?_
                refine G_zret (pc := 471) dX12_isGood_471 rfl (by omega) ?_
                rw [← hQ, k0, k1]
                refine ⟨?_, rfl, (hO1.w (by decide)).w (by decide), by rw [wr_o (by decide), wr_o (by decide)]; exact h2, fun D' hD' => ?_⟩
                · by_cases h : nm 0 ≤ 99 ∧ nm 1 ≤ 10
                  · rw [takeD_p, if_pos h, bI_S] <;> (first | rfl | (exfalso; omega))
                  · rw [takeD_p, if_neg h, bI_f (fun z => by cases z)] <;> (first | rfl | (exfalso; omega))
                · rw [takeD_p] at hD'
                  by_cases h : nm 0 ≤ 99 ∧ nm 1 ≤ 10
                  · rw [if_pos h] at hD'; cases hD'; exact PD_se (i := 13) (PD_se (i := 12) hP1 (by omega) (by omega)) (by omega) (by omega)
                  · rw [if_neg h] at hD'; cases hD'
              · try simp only [bI_eq0, bI_ne0] at h_446
                refine G_aload_n (pc := 449) dX12_isGood_449 rfl ?_
                refine G_getr (pc := 450) dX12_isGood_450 fiX12_55 (by first | rfl | assumption) (by omega) (by first | rfl | assumption) ?_
                refine G_iconst (pc := 453) dX12_isGood_453 ?_
                refine G_ialdv (pc := 454) dX12_isGood_454 (by first | rfl | assumption) (by omega) (by omega) (by omega) (by omega) ((show wr (wr I1 78 _ _) 78 _ _ 86 1 = a1 by rw [wr_o (by decide), wr_o (by decide)]; exact ea1.symm)) ?_
                refine G_i2l (pc := 455) dX12_isGood_455 (by first | exact bI_R | exact Ri.mk (by omega) (by omega)) ?_
                refine G_lconst (pc := 456) dX12_isGood_456 ?_
                refine G_ldc2 (pc := 457) dX12_isGood_457 klX12_95 ?_
                refine G_callS1 (pc := 460) (md := mdX12_in) (av := [_, _, _]) dX12_isGood_460 lkX12_66 mwX12_in (m_inI _ _ _ (0 ≤ a1 ∧ a1 ≤ 10) (by omega) (Rl.mk (by omega) (by omega)) (Rl.mk (by omega) (by omega)) (Rl.mk (by omega) (by omega))) rfl rfl (Nat.le_of_ble_eq_true rfl) (by decide) ⟨Nat.zero_le _, Nat.zero_le _⟩ ?_
                refine G_if_eq (pc := 463) (tgt := 470) dX12_isGood_463 (by first | exact bI_R | exact Ri.mk (by omega) (by omega)) (by decide) (fun h_463 => ?_) (fun h_463 => ?_)
                · try simp only [bI_eq0, bI_ne0] at h_463
                  refine G_iconst (pc := 470) dX12_isGood_470 ?_
                  refine G_zret (pc := 471) dX12_isGood_471 rfl (by omega) ?_
                  rw [← hQ, k0, k1]
                  refine ⟨?_, rfl, (hO1.w (by decide)).w (by decide), by rw [wr_o (by decide), wr_o (by decide)]; exact h2, fun D' hD' => ?_⟩
                  · by_cases h : nm 0 ≤ 99 ∧ nm 1 ≤ 10
                    · rw [takeD_p, if_pos h, bI_S] <;> (first | rfl | (exfalso; omega))
                    · rw [takeD_p, if_neg h, bI_f (fun z => by cases z)] <;> (first | rfl | (exfalso; omega))
                  · rw [takeD_p] at hD'
                    by_cases h : nm 0 ≤ 99 ∧ nm 1 ≤ 10
                    · rw [if_pos h] at hD'; cases hD'; exact PD_se (i := 13) (PD_se (i := 12) hP1 (by omega) (by omega)) (by omega) (by omega)
                    · rw [if_neg h] at hD'; cases hD'
                · try simp only [bI_eq0, bI_ne0] at h_463
                  refine G_iconst (pc := 466) dX12_isGood_466 ?_
                  refine G_goto (pc := 467) (tgt := 471) dX12_isGood_467 (by decide) ?_
                  refine G_zret (pc := 471) dX12_isGood_471 rfl (by omega) ?_
                  rw [← hQ, k0, k1]
                  refine ⟨?_, rfl, (hO1.w (by decide)).w (by decide), by rw [wr_o (by decide), wr_o (by decide)]; exact h2, fun D' hD' => ?_⟩
                  · by_cases h : nm 0 ≤ 99 ∧ nm 1 ≤ 10
                    · rw [takeD_p, if_pos h, bI_S] <;> (first | rfl | (exfalso; omega))
                    · rw [takeD_p, if_neg h, bI_f (fun z => by cases z)] <;> (first | rfl | (exfalso; omega))
                  · rw [takeD_p] at hD'
                    by_cases h : nm 0 ≤ 99 ∧ nm 1 ≤ 10
                    · rw [if_pos h] at hD'; cases hD'; exact PD_se (i := 13) (PD_se (i := 12) hP1 (by omega) (by omega)) (by omega) (by omega)
                    · rw [if_neg h] at hD'; cases hD'
            · exact absurd h_378 (by decide)
          · exact absurd h_274 (by decide)
        · exact absurd h_167 (by decide)
      · exact absurd h_43 (by decide)
  refine G_aload_n (pc := 0) dX12_isGood_0 rfl ?_
  refine G_getr (pc := 1) dX12_isGood_1 fiX12_55 (by first | rfl | assumption) (by omega) (by first | rfl | assumption) ?_
  refine G_iconst (pc := 4) dX12_isGood_4 ?_
  refine G_ialdv (pc := 5) dX12_isGood_5 (by first | rfl | assumption) (by omega) (by omega) (by omega) (by omega) (ea1.symm) ?_
  refine G_i2l (pc := 6) dX12_isGood_6 (by first | exact bI_R | exact Ri.mk (by omega) (by omega)) ?_
  refine G_lconst (pc := 7) dX12_isGood_7 ?_
  refine G_ldc2 (pc := 8) dX12_isGood_8 klX12_95 ?_
  refine G_callS1 (pc := 11) (md := mdX12_in) (av := [_, _, _]) dX12_isGood_11 lkX12_66 mwX12_in (m_inI _ _ _ (0 ≤ a1 ∧ a1 ≤ 10) (by omega) (Rl.mk (by omega) (by omega)) (Rl.mk (by omega) (by omega)) (Rl.mk (by omega) (by omega))) rfl rfl (Nat.le_of_ble_eq_true rfl) (by decide) ⟨Nat.zero_le _, Nat.zero_le _⟩ ?_
  refine G_if_eq (pc := 14) (tgt := 38) dX12_isGood_14 (by first | exact bI_R | exact Ri.mk (by omega) (by omega)) (by decide) (fun h_14 => ?_) (fun h_14 => ?_)
  · try simp only [bI_eq0, bI_ne0] at h_14
    refine G_iconst (pc := 38) dX12_isGood_38 ?_
    refine G_st ?_ main
    first | (rw [bI_t (by omega)]; done) | (rw [bI_f (by omega)]; done) | (rw [bI_t (by omega)]; rfl) | (rw [bI_f (by omega)]; rfl)
  · try simp only [bI_eq0, bI_ne0] at h_14
    refine G_aload_n (pc := 17) dX12_isGood_17 rfl ?_
    refine G_getr (pc := 18) dX12_isGood_18 fiX12_55 (by first | rfl | assumption) (by omega) (by first | rfl | assumption) ?_
    refine G_iconst (pc := 21) dX12_isGood_21 ?_
    refine G_ialdv (pc := 22) dX12_isGood_22 (by first | rfl | assumption) (by omega) (by omega) (by omega) (by omega) (ea2.symm) ?_
    refine G_i2l (pc := 23) dX12_isGood_23 (by first | exact bI_R | exact Ri.mk (by omega) (by omega)) ?_
    refine G_lconst (pc := 24) dX12_isGood_24 ?_
    refine G_ldc2 (pc := 25) dX12_isGood_25 klX12_95 ?_
    refine G_callS1 (pc := 28) (md := mdX12_in) (av := [_, _, _]) dX12_isGood_28 lkX12_66 mwX12_in (m_inI _ _ _ (0 ≤ a2 ∧ a2 ≤ 10) (by omega) (Rl.mk (by omega) (by omega)) (Rl.mk (by omega) (by omega)) (Rl.mk (by omega) (by omega))) rfl rfl (Nat.le_of_ble_eq_true rfl) (by decide) ⟨Nat.zero_le _, Nat.zero_le _⟩ ?_
    refine G_if_eq (pc := 31) (tgt := 38) dX12_isGood_31 (by first | exact bI_R | exact Ri.mk (by omega) (by omega)) (by decide) (fun h_31 => ?_) (fun h_31 => ?_)
    · try simp only [bI_eq0, bI_ne0] at h_31
      refine G_iconst (pc := 38) dX12_isGood_38 ?_
      refine G_st ?_ main
      first | (rw [bI_t (by omega)]; done) | (rw [bI_f (by omega)]; done) | (rw [bI_t (by omega)]; rfl) | (rw [bI_f (by omega)]; rfl)
    · try simp only [bI_eq0, bI_ne0] at h_31
      refine G_iconst (pc := 34) dX12_isGood_34 ?_
      refine G_goto (pc := 35) (tgt := 39) dX12_isGood_35 (by decide) ?_
      refine G_st ?_ main
      first | (rw [bI_t (by omega)]; done) | (rw [bI_f (by omega)]; done) | (rw [bI_t (by omega)]; rfl) | (rw [bI_f (by omega)]; rfl)
end MOD13
