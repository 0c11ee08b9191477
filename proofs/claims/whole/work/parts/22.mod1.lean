/-! THE REFERENCE: its picture, its small methods -/
section ROWSV
variable {E : EV} {rm : Room} {own : String} {cc : ByteArray} {nL : Nat} {ret : Option FieldType} {X : Method → Array Value → State → Prop} {Z : List Frame → Array Value → State → State → Prop} {M : Nat} {I J : Nat → Nat → Int} {R : Nat → Nat → Option Nat} {k n : Nat} {pc : Nat} {lv : List (Option Value)} {st : List Value}
theorem G_getiv {idx c i q : Nat} {fin : Bool} {v : Int} (d : decode cc pc = .ok (.getfield idx, 3)) (hf : FI own idx c i 0 fin) (hs : shp q = .inl c) (hq : q < M) (hv : I q i = v) (kk : G E rm own cc nL ret X Z M I J R k n (pc + 3) lv (vi v :: st)) : G E rm own cc nL ret X Z M I J R k n pc lv (vr E q :: st) := G_geti d hf hs hq (by rw [hv]; exact kk)
theorem G_getlv {idx c i q : Nat} {fin : Bool} {v : Int} (d : decode cc pc = .ok (.getfield idx, 3)) (hf : FI own idx c i 1 fin) (hs : shp q = .inl c) (hq : q < M) (hv : J q i = v) (kk : G E rm own cc nL ret X Z M I J R k n (pc + 3) lv (vl v :: st)) : G E rm own cc nL ret X Z M I J R k n pc lv (vr E q :: st) := G_getl d hf hs hq (by rw [hv]; exact kk)
theorem G_ialdv {q z : Nat} {a v : Int} (d : decode cc pc = .ok (.iaload, 1)) (hs : shp q = .inr (0, z)) (hq : q < M) (hz : z < 2147483648) (h0 : 0 ≤ a) (h1 : a < z) (hv : I q a.toNat = v) (kk : G E rm own cc nL ret X Z M I J R k n (pc + 1) lv (vi v :: st)) : G E rm own cc nL ret X Z M I J R k n pc lv (vi a :: vr E q :: st) := G_iald d hs hq hz h0 h1 (by rw [hv]; exact kk)
theorem G_baldv {q z : Nat} {a v : Int} (d : decode cc pc = .ok (.baload, 1)) (hs : shp q = .inr (2, z)) (hq : q < M) (hz : z < 2147483648) (h0 : 0 ≤ a) (h1 : a < z) (hv : I q a.toNat = v) (kk : G E rm own cc nL ret X Z M I J R k n (pc + 1) lv (vi v :: st)) : G E rm own cc nL ret X Z M I J R k n pc lv (vi a :: vr E q :: st) := G_bald d hs hq hz h0 h1 (by rw [hv]; exact kk)
theorem G_zaldv {q z : Nat} {a v : Int} (d : decode cc pc = .ok (.baload, 1)) (hs : shp q = .inr (3, z)) (hq : q < M) (hz : z < 2147483648) (h0 : 0 ≤ a) (h1 : a < z) (hv : I q a.toNat = v) (kk : G E rm own cc nL ret X Z M I J R k n (pc + 1) lv (vi v :: st)) : G E rm own cc nL ret X Z M I J R k n pc lv (vi a :: vr E q :: st) := G_zald d hs hq hz h0 h1 (by rw [hv]; exact kk)
theorem G_laldv {q z : Nat} {a v : Int} (d : decode cc pc = .ok (.laload, 1)) (hs : shp q = .inr (1, z)) (hq : q < M) (hz : z < 2147483648) (h0 : 0 ≤ a) (h1 : a < z) (hv : J q a.toNat = v) (kk : G E rm own cc nL ret X Z M I J R k n (pc + 1) lv (vl v :: st)) : G E rm own cc nL ret X Z M I J R k n pc lv (vi a :: vr E q :: st) := G_lald d hs hq hz h0 h1 (by rw [hv]; exact kk)
end ROWSV
/-- a house in its rows: d = 0 what is laid, d = 1 what is being read -/
def MH (I : Nat → Nat → Int) (d : Nat) (hs : HS) : Prop := I 73 d = zS hs ∧ I 75 d = zA hs ∧ (∀ s, s < zS hs → ∀ i, i < 4 → I 74 (24 * d + 4 * s + i) = hs i s) ∧ (∀ a, a < zA hs → ∀ i, 4 ≤ i → i < 8 → I 76 (24 * d + 4 * a + (i - 4)) = hs i a) ∧ ∀ i, 11 ≤ i → i < 14 → I 78 (3 * d + (i - 11)) = hs i 0
theorem MH.so {I : Nat → Nat → Int} {d : Nat} {hs : HS} (h : MH I d hs) {x : Int} (s i : Nat) (h1 : s < zS hs) (h2 : i < 4) (hx : x = ((24 * d + 4 * s + i : Nat) : Int)) : I 74 x.toNat = hs i s := by subst hx; rw [Int.toNat_natCast]; exact h.2.2.1 s h1 i h2
theorem MH.ak {I : Nat → Nat → Int} {d : Nat} {hs : HS} (h : MH I d hs) {x : Int} (s i : Nat) (h1 : s < zA hs) (h2 : 4 ≤ i ∧ i < 8) (hx : x = ((24 * d + 4 * s + (i - 4) : Nat) : Int)) : I 76 x.toNat = hs i s := by subst hx; rw [Int.toNat_natCast]; exact h.2.2.2.1 s h1 i h2.1 h2.2
theorem MH.re {I : Nat → Nat → Int} {d : Nat} {hs : HS} (h : MH I d hs) {x : Int} (i : Nat) (h2 : 11 ≤ i ∧ i < 14) (hx : x = ((3 * d + (i - 11) : Nat) : Int)) : I 78 x.toNat = hs i 0 := by subst hx; rw [Int.toNat_natCast]; exact h.2.2.2.2 i h2.1 h2.2
theorem MH.ns {I : Nat → Nat → Int} {d : Nat} {hs : HS} (h : MH I d hs) {x : Int} (hx : x = d) : I 73 x.toNat = zS hs := by subst hx; rw [Int.toNat_natCast]; exact h.1
theorem MH.na {I : Nat → Nat → Int} {d : Nat} {hs : HS} (h : MH I d hs) {x : Int} (hx : x = d) : I 75 x.toNat = zA hs := by subst hx; rw [Int.toNat_natCast]; exact h.2.1
theorem MH.off {I I' : Nat → Nat → Int} {d : Nat} {hs : HS} (h : MH I d hs) (hI : ∀ q, 73 ≤ q → q ≤ 78 → I' q = I q) : MH I' d hs := by
  unfold MH at *
  rw [hI 73 (by omega) (by omega), hI 74 (by omega) (by omega), hI 75 (by omega) (by omega), hI 76 (by omega) (by omega), hI 78 (by omega) (by omega)]
  exact h
/-- a row in its slot, told nights in their slot -/
def RM (I : Nat → Nat → Int) (j : Nat) (C : CS) : Prop := I 79 j = C 0 0 ∧ ∀ t, t < C 0 0 → I 80 (16 * j + 2 * t) = C 1 t ∧ I 80 (16 * j + 2 * t + 1) = C 2 t
def TM (I : Nat → Nat → Int) (j : Nat) (C : CS) : Prop := I 81 j = C 3 0 ∧ ∀ t, t < C 3 0 → I 82 (12 * j + 4 * t) = C 4 t ∧ I 82 (12 * j + 4 * t + 1) = C 5 t ∧ I 82 (12 * j + 4 * t + 2) = C 6 t ∧ I 82 (12 * j + 4 * t + 3) = C 7 t
theorem RM.off {I I' : Nat → Nat → Int} {j : Nat} {C : CS} (h : RM I j C) (h1 : I' 79 = I 79) (h2 : I' 80 = I 80) : RM I' j C := by
  unfold RM at *; rw [h1, h2]; exact h
theorem TM.off {I I' : Nat → Nat → Int} {j : Nat} {C : CS} (h : TM I j C) (h1 : I' 81 = I 81) (h2 : I' 82 = I 82) : TM I' j C := by
  unfold TM at *; rw [h1, h2]; exact h
def XM (I : Nat → Nat → Int) (n : Nat) (tx : Nat → Int) : Prop := I 71 0 = n ∧ ∀ i, i < n → I 72 i = tx i
def MI (I : Nat → Nat → Int) (n : Nat) (tx : Nat → Int) (hs : HS) (C : CS) (kn : Nat) (K : Nat → CS) : Prop := XM I n tx ∧ MH I 0 hs ∧ RM I 0 C ∧ TM I 0 C ∧ I 71 10 = kn ∧ (1 ≤ kn → RM I 1 (K 1) ∧ TM I 1 (K 1)) ∧ (2 ≤ kn → RM I 2 (K 2) ∧ TM I 2 (K 2))
abbrev MIS (I : Nat → Nat → Int) (S : ST) : Prop := MI I S.1 S.2.1 S.2.2.1 S.2.2.2.1 S.2.2.2.2.1 S.2.2.2.2.2
abbrev MQ' (I J : Nat → Nat → Int) (a : Int) (n : Nat) (tx : Nat → Int) (hs : HS) (C : CS) (kn : Nat) (K : Nat → CS) : Option Value → (Nat → Nat → Int) → (Nat → Nat → Int) → Prop := fun v I' J' => v = some (vi a) ∧ Off I I' 71 86 ∧ Off J J' 71 86 ∧ MI I' n tx hs C kn K
abbrev MQl (I J : Nat → Nat → Int) (a : Int) (n : Nat) (tx : Nat → Int) (hs : HS) (C : CS) (kn : Nat) (K : Nat → CS) : Option Value → (Nat → Nat → Int) → (Nat → Nat → Int) → Prop := fun v I' J' => v = some (vl a) ∧ Off I I' 71 86 ∧ Off J J' 71 86 ∧ MI I' n tx hs C kn K
abbrev MQS (I J : Nat → Nat → Int) (a : Int) (S : ST) : Option Value → (Nat → Nat → Int) → (Nat → Nat → Int) → Prop := fun v I' J' => v = some (vi a) ∧ Off I I' 71 86 ∧ Off J J' 71 86 ∧ MIS I' S
section MOD1
variable {E : EV} {M : Nat} {I J : Nat → Nat → Int} {hs : HS}
theorem m_in {R : Nat → Nat → Option Nat} (a b c : Int) (ha : Rl a) (hb : Rl b) (hc : Rl c) : FnF E mdX12_in 0 M R [vl a, vl b, vl c] I J (some (vi (bI (b ≤ a ∧ a ≤ c)))) I J := by
  refine FnQ.of (by decide +kernel) (Nat.le_of_ble_eq_true rfl) ?_
  show GM E mdX12_in 0 M R _ I J 0 [some (vl a), none, some (vl b), none, some (vl c), none] []
  refine G_lload_n (pc := 0) dX12_in_0 rfl ?_
  refine G_lload_n (pc := 1) dX12_in_1 rfl ?_
  refine G_lc_lt (pc := 2) (tgt := 17) dX12_in_2 dX12_in_3 ha hb (by decide) (fun h_2 => ?_) (fun h_2 => ?_)
  · refine G_iconst (pc := 17) dX12_in_17 ?_
    refine G_zret (pc := 18) dX12_in_18 rfl (by omega) ?_
    exact ⟨by first | rw [bI_t (by omega)] | rw [bI_f (by omega)], rfl, rfl⟩
  · refine G_lload_n (pc := 6) dX12_in_6 rfl ?_
    refine G_lload (pc := 7) dX12_in_7 rfl ?_
    refine G_lc_gt (pc := 9) (tgt := 17) dX12_in_9 dX12_in_10 ha hc (by decide) (fun h_9 => ?_) (fun h_9 => ?_)
    · refine G_iconst (pc := 17) dX12_in_17 ?_
      refine G_zret (pc := 18) dX12_in_18 rfl (by omega) ?_
      exact ⟨by first | rw [bI_t (by omega)] | rw [bI_f (by omega)], rfl, rfl⟩
    · refine G_iconst (pc := 13) dX12_in_13 ?_
      refine G_goto (pc := 14) (tgt := 18) dX12_in_14 (by decide) ?_
      refine G_zret (pc := 18) dX12_in_18 rfl (by omega) ?_
      exact ⟨by first | rw [bI_t (by omega)] | rw [bI_f (by omega)], rfl, rfl⟩
theorem m_inI {R : Nat → Nat → Option Nat} (a b c : Int) (x : Prop) [Decidable x] (hx : (b ≤ a ∧ a ≤ c) ↔ x) (ha : Rl a) (hb : Rl b) (hc : Rl c) : FnF E mdX12_in 0 M R [vl a, vl b, vl c] I J (some (vi (bI x))) I J := by
  rw [← bI_congr hx]; exact m_in a b c ha hb hc
theorem m_isSort (s : Int) (hM : 87 ≤ M) (hH : MH I 0 hs) (hB : HB hs) (rs : Ri s) : FnF E mdX12_isSort 1 M Rf [vr E 71, vi s] I J (some (vi (bI (0 ≤ s ∧ s < (zS hs : Int))))) I J := by
  have v := hH.1
  have b := hB.1
  have r1 := rs.lo
  have r2 := rs.hi
  refine FnQ.of (by decide +kernel) (Nat.le_of_ble_eq_true rfl) ?_
  show GM E mdX12_isSort 1 M Rf _ I J 0 [some (vr E 71), some (vi s)] []
  refine G_iload_n (pc := 0) dX12_isSort_0 rfl ?_
  refine G_i2l (pc := 1) dX12_isSort_1 rs ?_
  refine G_lconst (pc := 2) dX12_isSort_2 ?_
  refine G_aload_n (pc := 3) dX12_isSort_3 rfl ?_
  refine G_getr (pc := 4) dX12_isSort_4 fiX12_13 (by first | rfl | assumption) (by omega) (by first | rfl | assumption) ?_
  refine G_iconst (pc := 7) dX12_isSort_7 ?_
  refine G_ialdv (pc := 8) dX12_isSort_8 (by first | rfl | assumption) (by omega) (by omega) (by omega) (by omega) (hH.1) ?_
  refine G_iconst (pc := 9) dX12_isSort_9 ?_
  refine G_isub (pc := 10) dX12_isSort_10 ?_
  refine G_i2l (pc := 11) dX12_isSort_11 (Ri.mk (by omega) (by omega)) ?_
  refine G_callS1 (pc := 12) (md := mdX12_in) (av := [_, _, _]) dX12_isSort_12 lkX12_66 mwX12_in (m_inI _ _ _ (0 ≤ s ∧ s < (zS hs : Int)) (by omega) (Rl.mk (by omega) (by omega)) (Rl.mk (by omega) (by omega)) (Rl.mk (by omega) (by omega))) rfl rfl (Nat.le_of_ble_eq_true rfl) (by decide) ⟨Nat.zero_le _, Nat.zero_le _⟩ ?_
  refine G_zret (pc := 15) dX12_isSort_15 rfl bI_01 ?_
  exact ⟨rfl, rfl, rfl⟩
theorem m_isAsk (s : Int) (hM : 87 ≤ M) (hH : MH I 0 hs) (hB : HB hs) (rs : Ri s) : FnF E mdX12_isAsk 1 M Rf [vr E 71, vi s] I J (some (vi (bI (0 ≤ s ∧ s < (zA hs : Int))))) I J := by
  have v := hH.2.1
  have b := hB.2.1
  have r1 := rs.lo
  have r2 := rs.hi
  refine FnQ.of (by decide +kernel) (Nat.le_of_ble_eq_true rfl) ?_
  show GM E mdX12_isAsk 1 M Rf _ I J 0 [some (vr E 71), some (vi s)] []
  refine G_iload_n (pc := 0) dX12_isAsk_0 rfl ?_
  refine G_i2l (pc := 1) dX12_isAsk_1 rs ?_
  refine G_lconst (pc := 2) dX12_isAsk_2 ?_
  refine G_aload_n (pc := 3) dX12_isAsk_3 rfl ?_
  refine G_getr (pc := 4) dX12_isAsk_4 fiX12_20 (by first | rfl | assumption) (by omega) (by first | rfl | assumption) ?_
  refine G_iconst (pc := 7) dX12_isAsk_7 ?_
  refine G_ialdv (pc := 8) dX12_isAsk_8 (by first | rfl | assumption) (by omega) (by omega) (by omega) (by omega) (hH.2.1) ?_
  refine G_iconst (pc := 9) dX12_isAsk_9 ?_
  refine G_isub (pc := 10) dX12_isAsk_10 ?_
  refine G_i2l (pc := 11) dX12_isAsk_11 (Ri.mk (by omega) (by omega)) ?_
  refine G_callS1 (pc := 12) (md := mdX12_in) (av := [_, _, _]) dX12_isAsk_12 lkX12_66 mwX12_in (m_inI _ _ _ (0 ≤ s ∧ s < (zA hs : Int)) (by omega) (Rl.mk (by omega) (by omega)) (Rl.mk (by omega) (by omega)) (Rl.mk (by omega) (by omega))) rfl rfl (Nat.le_of_ble_eq_true rfl) (by decide) ⟨Nat.zero_le _, Nat.zero_le _⟩ ?_
  refine G_zret (pc := 15) dX12_isAsk_15 rfl bI_01 ?_
  exact ⟨rfl, rfl, rfl⟩
theorem m_isSeed {R : Nat → Nat → Option Nat} (s : Int) (rs : Ri s) : FnF E mdX12_isSeed 1 M R [vi s] I J (some (vi (bI (0 ≤ s ∧ s ≤ 9999)))) I J := by
  have r1 := rs.lo
  have r2 := rs.hi
  refine FnQ.of (by decide +kernel) (Nat.le_of_ble_eq_true rfl) ?_
  show GM E mdX12_isSeed 1 M R _ I J 0 [some (vi s)] []
  refine G_iload_n (pc := 0) dX12_isSeed_0 rfl ?_
  refine G_i2l (pc := 1) dX12_isSeed_1 rs ?_
  refine G_lconst (pc := 2) dX12_isSeed_2 ?_
  refine G_ldc2 (pc := 3) dX12_isSeed_3 klX12_217 ?_
  refine G_callS1 (pc := 6) (md := mdX12_in) (av := [_, _, _]) dX12_isSeed_6 lkX12_66 mwX12_in (m_inI _ _ _ (0 ≤ s ∧ s ≤ 9999) (by omega) (Rl.mk (by omega) (by omega)) (Rl.mk (by omega) (by omega)) (Rl.mk (by omega) (by omega))) rfl rfl (Nat.le_of_ble_eq_true rfl) (by decide) ⟨Nat.zero_le _, Nat.zero_le _⟩ ?_
  refine G_zret (pc := 9) dX12_isSeed_9 rfl bI_01 ?_
  exact ⟨rfl, rfl, rfl⟩
theorem m_tenths {R : Nat → Nat → Option Nat} (a : Int) (n : Nat) (ha : Ri a) (hn : (n : Int) = if a < 0 then 0 else if 10 < a then 10 else a) : FnF E mdX12_tenths 0 M R [vi a] I J (some (vi (n : Int))) I J := by
  refine FnQ.of (by decide +kernel) (Nat.le_of_ble_eq_true rfl) ?_
  show GM E mdX12_tenths 0 M R _ I J 0 [some (vi a)] []
  refine G_iload_n (pc := 0) dX12_tenths_0 rfl ?_
  refine G_if_ge (pc := 1) (tgt := 8) dX12_tenths_1 ha (by decide) (fun h_1 => ?_) (fun h_1 => ?_)
  · refine G_iload_n (pc := 8) dX12_tenths_8 rfl ?_
    refine G_bipush (pc := 9) dX12_tenths_9 (by decide) ?_
    refine G_icmp_le (pc := 11) (tgt := 19) dX12_tenths_11 ha (Ri.mk (by omega) (by omega)) (by decide) (fun h_11 => ?_) (fun h_11 => ?_)
    · refine G_iload_n (pc := 19) dX12_tenths_19 rfl ?_
      refine G_iret (pc := 20) dX12_tenths_20 rfl ?_
      exact ⟨by rw [hn]; first | rw [if_pos (by omega)] | rw [if_neg (by omega), if_pos (by omega)] | rw [if_neg (by omega), if_neg (by omega)], rfl, rfl⟩
    · refine G_bipush (pc := 14) dX12_tenths_14 (by decide) ?_
      refine G_goto (pc := 16) (tgt := 20) dX12_tenths_16 (by decide) ?_
      refine G_iret (pc := 20) dX12_tenths_20 rfl ?_
      exact ⟨by rw [hn]; first | rw [if_pos (by omega)] | rw [if_neg (by omega), if_pos (by omega)] | rw [if_neg (by omega), if_neg (by omega)], rfl, rfl⟩
  · refine G_iconst (pc := 4) dX12_tenths_4 ?_
    refine G_goto (pc := 5) (tgt := 20) dX12_tenths_5 (by decide) ?_
    refine G_iret (pc := 20) dX12_tenths_20 rfl ?_
    exact ⟨by rw [hn]; first | rw [if_pos (by omega)] | rw [if_neg (by omega), if_pos (by omega)] | rw [if_neg (by omega), if_neg (by omega)], rfl, rfl⟩
theorem m_feels (s a mode : Nat) (hM : 87 ≤ M) (hH : MH I 0 hs) (hB : HB hs) (h1 : s < zS hs) (h2 : a < zA hs) (h3 : mode < 4) : FnF E mdX12_feels 1 M Rf [vr E 71, vi (s : Int), vi (a : Int), vi (mode : Int)] I J (some (vi (fe hs s a mode : Int))) I J := by
  have bS := hB.1
  have bA := hB.2.1
  have b1 := hB.2.2.2.2.1 s h1
  have b2 := hB.2.2.2.2.2.1 a h2
  refine FnQ.of (by decide +kernel) (Nat.le_of_ble_eq_true rfl) ?_
  show GM E mdX12_feels 1 M Rf _ I J 0 [some (vr E 71), some (vi (s : Int)), some (vi (a : Int)), some (vi (mode : Int)), none, none] []
  refine G_aload_n (pc := 0) dX12_feels_0 rfl ?_
  refine G_getr (pc := 1) dX12_feels_1 fiX12_17 (by first | rfl | assumption) (by omega) (by first | rfl | assumption) ?_
  refine G_iconst (pc := 4) dX12_feels_4 ?_
  refine G_iload_n (pc := 5) dX12_feels_5 rfl ?_
  refine G_imul (pc := 6) dX12_feels_6 ?_
  refine G_iconst (pc := 7) dX12_feels_7 ?_
  refine G_iadd (pc := 8) dX12_feels_8 ?_
  refine G_ialdv (pc := 9) dX12_feels_9 (by first | rfl | assumption) (by omega) (by omega) (by omega) (by omega) (hH.so s 1 h1 (by omega) (by omega)) ?_
  refine G_istore (pc := 10) (lv' := [_, _, _, _, _, _]) dX12_feels_10 (by decide) rfl ?_
  refine G_aload_n (pc := 12) dX12_feels_12 rfl ?_
  refine G_getr (pc := 13) dX12_feels_13 fiX12_23 (by first | rfl | assumption) (by omega) (by first | rfl | assumption) ?_
  refine G_iconst (pc := 16) dX12_feels_16 ?_
  refine G_iload_n (pc := 17) dX12_feels_17 rfl ?_
  refine G_imul (pc := 18) dX12_feels_18 ?_
  refine G_ialdv (pc := 19) dX12_feels_19 (by first | rfl | assumption) (by omega) (by omega) (by omega) (by omega) (hH.ak a 4 h2 (by omega) (by omega)) ?_
  refine G_istore (pc := 20) (lv' := [_, _, _, _, _, _]) dX12_feels_20 (by decide) rfl ?_
  refine G_iload_n (pc := 22) dX12_feels_22 rfl ?_
  refine G_iconst (pc := 23) dX12_feels_23 ?_
  refine G_icmp_ne (pc := 24) (tgt := 31) dX12_feels_24 (Ri.mk (by omega) (by omega)) (Ri.mk (by omega) (by omega)) (by decide) (fun h_24 => ?_) (fun h_24 => ?_)
  · refine G_iload_n (pc := 31) dX12_feels_31 rfl ?_
    refine G_iconst (pc := 32) dX12_feels_32 ?_
    refine G_icmp_ne (pc := 33) (tgt := 44) dX12_feels_33 (Ri.mk (by omega) (by omega)) (Ri.mk (by omega) (by omega)) (by decide) (fun h_33 => ?_) (fun h_33 => ?_)
    · refine G_iload (pc := 44) dX12_feels_44 rfl ?_
      refine G_aload_n (pc := 46) dX12_feels_46 rfl ?_
      refine G_getr (pc := 47) dX12_feels_47 fiX12_23 (by first | rfl | assumption) (by omega) (by first | rfl | assumption) ?_
      refine G_iconst (pc := 50) dX12_feels_50 ?_
      refine G_iload_n (pc := 51) dX12_feels_51 rfl ?_
      refine G_imul (pc := 52) dX12_feels_52 ?_
      refine G_iconst (pc := 53) dX12_feels_53 ?_
      refine G_iadd (pc := 54) dX12_feels_54 ?_
      refine G_ialdv (pc := 55) dX12_feels_55 (by first | rfl | assumption) (by omega) (by omega) (by omega) (by omega) (hH.ak a 5 h2 (by omega) (by omega)) ?_
      refine G_iadd (pc := 56) dX12_feels_56 ?_
      refine G_iload (pc := 57) dX12_feels_57 rfl ?_
      refine G_isub (pc := 59) dX12_feels_59 ?_
      refine G_callS1 (pc := 60) (md := mdX12_tenths) (av := [_]) dX12_feels_60 lkX12_119 mwX12_tenths (m_tenths _ (fe hs s a mode) (Ri.mk (by omega) (by omega)) (by unfold fe; split <;> (try split) <;> (try split) <;> (try split) <;> omega)) rfl rfl (Nat.le_of_ble_eq_true rfl) (by decide) ⟨Nat.zero_le _, Nat.zero_le _⟩ ?_
      refine G_iret (pc := 63) dX12_feels_63 rfl ?_
      first
        | exact ⟨rfl, rfl, rfl⟩
        | exact ⟨by unfold fe; rw [if_pos (by omega)]; rfl, rfl, rfl⟩
    · refine G_iload (pc := 36) dX12_feels_36 rfl ?_
      refine G_iload (pc := 38) dX12_feels_38 rfl ?_
      refine G_isub (pc := 40) dX12_feels_40 ?_
      refine G_goto (pc := 41) (tgt := 60) dX12_feels_41 (by decide) ?_
      refine G_callS1 (pc := 60) (md := mdX12_tenths) (av := [_]) dX12_feels_60 lkX12_119 mwX12_tenths (m_tenths _ (fe hs s a mode) (Ri.mk (by omega) (by omega)) (by unfold fe; split <;> (try split) <;> (try split) <;> (try split) <;> omega)) rfl rfl (Nat.le_of_ble_eq_true rfl) (by decide) ⟨Nat.zero_le _, Nat.zero_le _⟩ ?_
      refine G_iret (pc := 63) dX12_feels_63 rfl ?_
      first
        | exact ⟨rfl, rfl, rfl⟩
        | exact ⟨by unfold fe; rw [if_pos (by omega)]; rfl, rfl, rfl⟩
  · refine G_iconst (pc := 27) dX12_feels_27 ?_
    refine G_goto (pc := 28) (tgt := 63) dX12_feels_28 (by decide) ?_
    refine G_iret (pc := 63) dX12_feels_63 rfl ?_
    first
      | exact ⟨rfl, rfl, rfl⟩
      | exact ⟨by unfold fe; rw [if_pos (by omega)]; rfl, rfl, rfl⟩
theorem m_plays (s a mode : Nat) (hM : 87 ≤ M) (hH : MH I 0 hs) (hB : HB hs) (h1 : s < zS hs) (h2 : a < zA hs) (h3 : mode < 4) : FnF E mdX12_plays 1 M Rf [vr E 71, vi (s : Int), vi (a : Int), vi (mode : Int)] I J (some (vi (pl hs s a mode : Int))) I J := by
  have bS := hB.1
  have bA := hB.2.1
  have b1 := hB.2.2.2.2.1 s h1
  have b2 := hB.2.2.2.2.2.1 a h2
  refine FnQ.of (by decide +kernel) (Nat.le_of_ble_eq_true rfl) ?_
  show GM E mdX12_plays 1 M Rf _ I J 0 [some (vr E 71), some (vi (s : Int)), some (vi (a : Int)), some (vi (mode : Int)), none, none] []
  refine G_aload_n (pc := 0) dX12_plays_0 rfl ?_
  refine G_getr (pc := 1) dX12_plays_1 fiX12_17 (by first | rfl | assumption) (by omega) (by first | rfl | assumption) ?_
  refine G_iconst (pc := 4) dX12_plays_4 ?_
  refine G_iload_n (pc := 5) dX12_plays_5 rfl ?_
  refine G_imul (pc := 6) dX12_plays_6 ?_
  refine G_iconst (pc := 7) dX12_plays_7 ?_
  refine G_iadd (pc := 8) dX12_plays_8 ?_
  refine G_ialdv (pc := 9) dX12_plays_9 (by first | rfl | assumption) (by omega) (by omega) (by omega) (by omega) (hH.so s 2 h1 (by omega) (by omega)) ?_
  refine G_istore (pc := 10) (lv' := [_, _, _, _, _, _]) dX12_plays_10 (by decide) rfl ?_
  refine G_aload_n (pc := 12) dX12_plays_12 rfl ?_
  refine G_getr (pc := 13) dX12_plays_13 fiX12_23 (by first | rfl | assumption) (by omega) (by first | rfl | assumption) ?_
  refine G_iconst (pc := 16) dX12_plays_16 ?_
  refine G_iload_n (pc := 17) dX12_plays_17 rfl ?_
  refine G_imul (pc := 18) dX12_plays_18 ?_
  refine G_iconst (pc := 19) dX12_plays_19 ?_
  refine G_iadd (pc := 20) dX12_plays_20 ?_
  refine G_ialdv (pc := 21) dX12_plays_21 (by first | rfl | assumption) (by omega) (by omega) (by omega) (by omega) (hH.ak a 6 h2 (by omega) (by omega)) ?_
  refine G_istore (pc := 22) (lv' := [_, _, _, _, _, _]) dX12_plays_22 (by decide) rfl ?_
  refine G_iload_n (pc := 24) dX12_plays_24 rfl ?_
  refine G_iconst (pc := 25) dX12_plays_25 ?_
  refine G_icmp_ne (pc := 26) (tgt := 33) dX12_plays_26 (Ri.mk (by omega) (by omega)) (Ri.mk (by omega) (by omega)) (by decide) (fun h_26 => ?_) (fun h_26 => ?_)
  · refine G_iload_n (pc := 33) dX12_plays_33 rfl ?_
    refine G_if_ne (pc := 34) (tgt := 56) dX12_plays_34 (Ri.mk (by omega) (by omega)) (by decide) (fun h_34 => ?_) (fun h_34 => ?_)
    · try simp only [bI_eq0, bI_ne0] at h_34
      refine G_iload_n (pc := 56) dX12_plays_56 rfl ?_
      refine G_iconst (pc := 57) dX12_plays_57 ?_
      refine G_icmp_ne (pc := 58) (tgt := 69) dX12_plays_58 (Ri.mk (by omega) (by omega)) (Ri.mk (by omega) (by omega)) (by decide) (fun h_58 => ?_) (fun h_58 => ?_)
      · refine G_bipush (pc := 69) dX12_plays_69 (by decide) ?_
        refine G_iload (pc := 71) dX12_plays_71 rfl ?_
        refine G_isub (pc := 73) dX12_plays_73 ?_
        refine G_callS1 (pc := 74) (md := mdX12_tenths) (av := [_]) dX12_plays_74 lkX12_119 mwX12_tenths (m_tenths _ (pl hs s a mode) (Ri.mk (by omega) (by omega)) (by unfold pl; split <;> (try split) <;> (try split) <;> (try split) <;> (try split) <;> omega)) rfl rfl (Nat.le_of_ble_eq_true rfl) (by decide) ⟨Nat.zero_le _, Nat.zero_le _⟩ ?_
        refine G_iret (pc := 77) dX12_plays_77 rfl ?_
        first
          | exact ⟨rfl, rfl, rfl⟩
          | exact ⟨by unfold pl; rw [if_neg (by omega), if_neg (by omega), if_neg (by omega)]; rfl, rfl, rfl⟩
      · refine G_iload (pc := 61) dX12_plays_61 rfl ?_
        refine G_iload (pc := 63) dX12_plays_63 rfl ?_
        refine G_isub (pc := 65) dX12_plays_65 ?_
        refine G_goto (pc := 66) (tgt := 74) dX12_plays_66 (by decide) ?_
        refine G_callS1 (pc := 74) (md := mdX12_tenths) (av := [_]) dX12_plays_74 lkX12_119 mwX12_tenths (m_tenths _ (pl hs s a mode) (Ri.mk (by omega) (by omega)) (by unfold pl; split <;> (try split) <;> (try split) <;> (try split) <;> (try split) <;> omega)) rfl rfl (Nat.le_of_ble_eq_true rfl) (by decide) ⟨Nat.zero_le _, Nat.zero_le _⟩ ?_
        refine G_iret (pc := 77) dX12_plays_77 rfl ?_
        first
          | exact ⟨rfl, rfl, rfl⟩
          | exact ⟨by unfold pl; rw [if_neg (by omega), if_neg (by omega), if_neg (by omega)]; rfl, rfl, rfl⟩
    · try simp only [bI_eq0, bI_ne0] at h_34
      refine G_iload (pc := 37) dX12_plays_37 rfl ?_
      refine G_aload_n (pc := 39) dX12_plays_39 rfl ?_
      refine G_getr (pc := 40) dX12_plays_40 fiX12_17 (by first | rfl | assumption) (by omega) (by first | rfl | assumption) ?_
      refine G_iconst (pc := 43) dX12_plays_43 ?_
      refine G_iload_n (pc := 44) dX12_plays_44 rfl ?_
      refine G_imul (pc := 45) dX12_plays_45 ?_
      refine G_iconst (pc := 46) dX12_plays_46 ?_
      refine G_iadd (pc := 47) dX12_plays_47 ?_
      refine G_ialdv (pc := 48) dX12_plays_48 (by first | rfl | assumption) (by omega) (by omega) (by omega) (by omega) (hH.so s 3 h1 (by omega) (by omega)) ?_
      refine G_iadd (pc := 49) dX12_plays_49 ?_
      refine G_iload (pc := 50) dX12_plays_50 rfl ?_
      refine G_isub (pc := 52) dX12_plays_52 ?_
      refine G_goto (pc := 53) (tgt := 74) dX12_plays_53 (by decide) ?_
      refine G_callS1 (pc := 74) (md := mdX12_tenths) (av := [_]) dX12_plays_74 lkX12_119 mwX12_tenths (m_tenths _ (pl hs s a mode) (Ri.mk (by omega) (by omega)) (by unfold pl; split <;> (try split) <;> (try split) <;> (try split) <;> (try split) <;> omega)) rfl rfl (Nat.le_of_ble_eq_true rfl) (by decide) ⟨Nat.zero_le _, Nat.zero_le _⟩ ?_
      refine G_iret (pc := 77) dX12_plays_77 rfl ?_
      first
        | exact ⟨rfl, rfl, rfl⟩
        | exact ⟨by unfold pl; rw [if_neg (by omega), if_neg (by omega), if_neg (by omega)]; rfl, rfl, rfl⟩
  · refine G_iconst (pc := 29) dX12_plays_29 ?_
    refine G_goto (pc := 30) (tgt := 77) dX12_plays_30 (by decide) ?_
    refine G_iret (pc := 77) dX12_plays_77 rfl ?_
    first
      | exact ⟨rfl, rfl, rfl⟩
      | exact ⟨by unfold pl; rw [if_neg (by omega), if_neg (by omega), if_neg (by omega)]; rfl, rfl, rfl⟩
theorem m_doing (s a mode : Nat) (hM : 87 ≤ M) (hH : MH I 0 hs) (hB : HB hs) (h1 : s < zS hs) (h2 : a < zA hs) (h3 : mode < 4) : FnF E mdX12_doing 2 M Rf [vr E 71, vi (s : Int), vi (a : Int), vi (mode : Int)] I J (some (vi (dO hs s a mode : Int))) I J := by
  have hf := fe_le hs s a mode
  refine FnQ.of (by decide +kernel) (Nat.le_of_ble_eq_true rfl) ?_
  show GM E mdX12_doing 2 M Rf _ I J 0 [some (vr E 71), some (vi (s : Int)), some (vi (a : Int)), some (vi (mode : Int))] []
  refine G_bipush (pc := 0) dX12_doing_0 (by decide) ?_
  refine G_aload_n (pc := 2) dX12_doing_2 rfl ?_
  refine G_iload_n (pc := 3) dX12_doing_3 rfl ?_
  refine G_iload_n (pc := 4) dX12_doing_4 rfl ?_
  refine G_iload_n (pc := 5) dX12_doing_5 rfl ?_
  refine G_callV1 (pc := 6) (md := mdX12_feels) (av := [_, _, _]) dX12_doing_6 lkX12_122 mwX12_feels (m_feels s a mode hM hH hB h1 h2 h3) rfl (by first | rfl | assumption) (by omega) rfl rfl (Nat.le_of_ble_eq_true rfl) (by decide) ⟨Nat.zero_le _, Nat.zero_le _⟩ ?_
  refine G_imul (pc := 9) dX12_doing_9 ?_
  refine G_bipush (pc := 10) dX12_doing_10 (by decide) ?_
  refine G_aload_n (pc := 12) dX12_doing_12 rfl ?_
  refine G_iload_n (pc := 13) dX12_doing_13 rfl ?_
  refine G_iload_n (pc := 14) dX12_doing_14 rfl ?_
  refine G_iload_n (pc := 15) dX12_doing_15 rfl ?_
  refine G_callV1 (pc := 16) (md := mdX12_feels) (av := [_, _, _]) dX12_doing_16 lkX12_122 mwX12_feels (m_feels s a mode hM hH hB h1 h2 h3) rfl (by first | rfl | assumption) (by omega) rfl rfl (Nat.le_of_ble_eq_true rfl) (by decide) ⟨Nat.zero_le _, Nat.zero_le _⟩ ?_
  refine G_isub (pc := 19) dX12_doing_19 ?_
  refine G_aload_n (pc := 20) dX12_doing_20 rfl ?_
  refine G_iload_n (pc := 21) dX12_doing_21 rfl ?_
  refine G_iload_n (pc := 22) dX12_doing_22 rfl ?_
  refine G_iload_n (pc := 23) dX12_doing_23 rfl ?_
  refine G_callV1 (pc := 24) (md := mdX12_plays) (av := [_, _, _]) dX12_doing_24 lkX12_126 mwX12_plays (m_plays s a mode hM hH hB h1 h2 h3) rfl (by first | rfl | assumption) (by omega) rfl rfl (Nat.le_of_ble_eq_true rfl) (by decide) ⟨Nat.zero_le _, Nat.zero_le _⟩ ?_
  refine G_imul (pc := 27) dX12_doing_27 ?_
  refine G_iadd (pc := 28) dX12_doing_28 ?_
  refine G_iret (pc := 29) dX12_doing_29 rfl ?_
  exact ⟨by unfold dO dof; congr 3; rw [Int.natCast_add, Int.natCast_mul, Int.natCast_mul, Int.ofNat_sub hf]; rfl, rfl, rfl⟩
theorem m_folk (d : Nat) (hd : d ≤ 1) (hM : 87 ≤ M) (hH : MH I d hs) (hB : HB hs) : FnF E mdX12_folk 0 M Rf [vr E 71, vi (d : Int)] I J (some (vi (zN hs : Int))) I J := by
  have bS := hB.1
  have bN := hB.2.2.1
  have eN := hB.2.2.2.1
  refine FnQ.of (by decide +kernel) (Nat.le_of_ble_eq_true rfl) ?_
  show GM E mdX12_folk 0 M Rf _ I J 0 [some (vr E 71), some (vi (d : Int)), none, none] []
  have loop : ∀ (n i : Nat) (x : Int), i + n = zS hs → x = (sumN (hs 0) i : Nat) → GM E mdX12_folk 0 M Rf (QF (some (vi (zN hs : Int))) I J) I J 4 [some (vr E 71), some (vi (d : Int)), some (vi x), some (vi (i : Int))] [] := by
    intro n
    induction n with
    | zero =>
      intro i x hi hx
      have hi : i = zS hs := by omega
      subst hi
      refine G_iload_n (pc := 4) dX12_folk_4 rfl ?_
      refine G_aload_n (pc := 5) dX12_folk_5 rfl ?_
      refine G_getr (pc := 6) dX12_folk_6 fiX12_13 (by first | rfl | assumption) (by omega) (by first | rfl | assumption) ?_
      refine G_iload_n (pc := 9) dX12_folk_9 rfl ?_
      refine G_ialdv (pc := 10) dX12_folk_10 (by first | rfl | assumption) (by omega) (by omega) (by omega) (by omega) (hH.ns rfl) ?_
      refine G_icmp_ge (pc := 11) (tgt := 36) dX12_folk_11 (Ri.mk (by omega) (by omega)) (Ri.mk (by omega) (by omega)) (by decide) (fun h_11 => ?_) (fun h_11 => ?_)
      · refine G_iload_n (pc := 36) dX12_folk_36 rfl ?_
        refine G_iret (pc := 37) dX12_folk_37 rfl ?_
        exact ⟨by rw [hx, ← eN], rfl, rfl⟩
      · exact absurd h_11 (by omega)
    | succ n ih =>
      intro i x hi hx
      have h1 := sumN_part hB (show i ≤ zS hs by omega)
      refine G_iload_n (pc := 4) dX12_folk_4 rfl ?_
      refine G_aload_n (pc := 5) dX12_folk_5 rfl ?_
      refine G_getr (pc := 6) dX12_folk_6 fiX12_13 (by first | rfl | assumption) (by omega) (by first | rfl | assumption) ?_
      refine G_iload_n (pc := 9) dX12_folk_9 rfl ?_
      refine G_ialdv (pc := 10) dX12_folk_10 (by first | rfl | assumption) (by omega) (by omega) (by omega) (by omega) (hH.ns rfl) ?_
      refine G_icmp_ge (pc := 11) (tgt := 36) dX12_folk_11 (Ri.mk (by omega) (by omega)) (Ri.mk (by omega) (by omega)) (by decide) (fun h_11 => ?_) (fun h_11 => ?_)
      · exact absurd h_11 (by omega)
      · refine G_iload_n (pc := 14) dX12_folk_14 rfl ?_
        refine G_aload_n (pc := 15) dX12_folk_15 rfl ?_
        refine G_getr (pc := 16) dX12_folk_16 fiX12_17 (by first | rfl | assumption) (by omega) (by first | rfl | assumption) ?_
        refine G_bipush (pc := 19) dX12_folk_19 (by decide) ?_
        refine G_iload_n (pc := 21) dX12_folk_21 rfl ?_
        refine G_imul (pc := 22) dX12_folk_22 ?_
        refine G_iconst (pc := 23) dX12_folk_23 ?_
        refine G_iload_n (pc := 24) dX12_folk_24 rfl ?_
        refine G_imul (pc := 25) dX12_folk_25 ?_
        refine G_iadd (pc := 26) dX12_folk_26 ?_
        refine G_ialdv (pc := 27) dX12_folk_27 (by first | rfl | assumption) (by omega) (by omega) (by omega) (by omega) (hH.so i 0 (by omega) (by omega) (by omega)) ?_
        refine G_iadd (pc := 28) dX12_folk_28 ?_
        refine G_istore_n (pc := 29) (lv' := [_, _, _, _]) dX12_folk_29 (by decide) rfl ?_
        refine G_iinc (pc := 30) (lv' := [_, _, _, _]) dX12_folk_30 (by decide) rfl rfl ?_
        refine G_goto (pc := 33) (tgt := 4) dX12_folk_33 (by decide) ?_
        exact ih (i + 1) _ (by omega) (by rw [hx, sumN]; push_cast; rfl)
  refine G_iconst (pc := 0) dX12_folk_0 ?_
  refine G_istore_n (pc := 1) (lv' := [_, _, _, _]) dX12_folk_1 (by decide) rfl ?_
  refine G_iconst (pc := 2) dX12_folk_2 ?_
  refine G_istore_n (pc := 3) (lv' := [_, _, _, _]) dX12_folk_3 (by decide) rfl ?_
  exact loop (zS hs) 0 0 (by omega) rfl
end MOD1
