/-! HOUSE: its picture, its reads -/
def isHouse (k : Nat) : Prop := k = 3 ∨ k = 21
theorem House_sh {k : Nat} (h : isHouse k) : shp k = .inl 4 := by rcases h with rfl | rfl <;> rfl
theorem House_lt {k : Nat} (h : isHouse k) : k < 22 := by rcases h with rfl | rfl <;> decide
theorem House_rf {k : Nat} (h : isHouse k) (i : Nat) (hi : i < 8) : Rf k i = some (k + 1 + i) := by
  rcases h with rfl | rfl <;> rcases (show i = 0 ∨ i = 1 ∨ i = 2 ∨ i = 3 ∨ i = 4 ∨ i = 5 ∨ i = 6 ∨ i = 7 by omega) with rfl | rfl | rfl | rfl | rfl | rfl | rfl | rfl <;> rfl
theorem House_ar {k : Nat} (h : isHouse k) (i : Nat) (hi : i < 8) : shp (k + 1 + i) = .inr (0, 6) := by
  rcases h with rfl | rfl <;> rcases (show i = 0 ∨ i = 1 ∨ i = 2 ∨ i = 3 ∨ i = 4 ∨ i = 5 ∨ i = 6 ∨ i = 7 by omega) with rfl | rfl | rfl | rfl | rfl | rfl | rfl | rfl <;> rfl
/-- within(number, least, most) -/
theorem c_within {E : EV} {M : Nat} {R : Nat → Nat → Option Nat} {I J : Nat → Nat → Int} (a b c : Int) (ha : Ri a) (hb : Ri b) (hc : Ri c) : FnF E mdX11_within 0 M R [vi a, vi b, vi c] I J (some (vi (if b ≤ a ∧ a ≤ c then 1 else 0))) I J := by
  refine FnQ.of (by decide +kernel) (Nat.le_of_ble_eq_true rfl) ?_
  show GM E mdX11_within 0 M R _ I J 0 [some (vi a), some (vi b), some (vi c)] []
  refine G_iload_n (pc := 0) dX11_within_0 rfl ?_
  refine G_iload_n (pc := 1) dX11_within_1 rfl ?_
  refine G_icmp_lt (pc := 2) (tgt := 14) dX11_within_2 ha hb (by decide) (fun h_2 => ?_) (fun h_2 => ?_)
  · refine G_iconst (pc := 14) dX11_within_14 ?_
    refine G_zret (pc := 15) dX11_within_15 rfl (by omega) ?_
    exact ⟨by first | rw [if_pos (by omega)] | rw [if_neg (by omega)], rfl, rfl⟩
  · refine G_iload_n (pc := 5) dX11_within_5 rfl ?_
    refine G_iload_n (pc := 6) dX11_within_6 rfl ?_
    refine G_icmp_gt (pc := 7) (tgt := 14) dX11_within_7 ha hc (by decide) (fun h_7 => ?_) (fun h_7 => ?_)
    · refine G_iconst (pc := 14) dX11_within_14 ?_
      refine G_zret (pc := 15) dX11_within_15 rfl (by omega) ?_
      exact ⟨by first | rw [if_pos (by omega)] | rw [if_neg (by omega)], rfl, rfl⟩
    · refine G_iconst (pc := 10) dX11_within_10 ?_
      refine G_goto (pc := 11) (tgt := 15) dX11_within_11 (by decide) ?_
      refine G_zret (pc := 15) dX11_within_15 rfl (by omega) ?_
      exact ⟨by first | rw [if_pos (by omega)] | rw [if_neg (by omega)], rfl, rfl⟩
/-- at(row, place) -/
theorem c_at {E : EV} {M : Nat} {R : Nat → Nat → Option Nat} {I J : Nat → Nat → Int} (q z : Nat) (a : Int) (hs : shp q = .inr (0, z)) (hq : q < M) (hz : z < 2147483648) (ha : Ri a) : FnF E mdX11_at 0 M R [vr E q, vi a] I J (some (vi (if 0 ≤ a ∧ a < z then I q a.toNat else 0))) I J := by
  refine FnQ.of (by decide +kernel) (Nat.le_of_ble_eq_true rfl) ?_
  show GM E mdX11_at 0 M R _ I J 0 [some (vr E q), some (vi a)] []
  refine G_iload_n (pc := 0) dX11_at_0 rfl ?_
  refine G_if_lt (pc := 1) (tgt := 16) dX11_at_1 ha (by decide) (fun h_1 => ?_) (fun h_1 => ?_)
  · refine G_iconst (pc := 16) dX11_at_16 ?_
    refine G_iret (pc := 17) dX11_at_17 rfl ?_
    exact ⟨by first | rw [if_pos (by omega)] | rw [if_neg (by omega)], rfl, rfl⟩
  · refine G_iload_n (pc := 4) dX11_at_4 rfl ?_
    refine G_aload_n (pc := 5) dX11_at_5 rfl ?_
    refine G_alen (pc := 6) dX11_at_6 (by first | rfl | assumption) (by decide) (by omega) ?_
    refine G_icmp_ge (pc := 7) (tgt := 16) dX11_at_7 ha (Ri.mk (by omega) (by omega)) (by decide) (fun h_7 => ?_) (fun h_7 => ?_)
    · refine G_iconst (pc := 16) dX11_at_16 ?_
      refine G_iret (pc := 17) dX11_at_17 rfl ?_
      exact ⟨by first | rw [if_pos (by omega)] | rw [if_neg (by omega)], rfl, rfl⟩
    · refine G_aload_n (pc := 10) dX11_at_10 rfl ?_
      refine G_iload_n (pc := 11) dX11_at_11 rfl ?_
      refine G_iald (pc := 12) dX11_at_12 (by first | rfl | assumption) (by omega) (by omega) (by omega) (by omega) ?_
      refine G_goto (pc := 13) (tgt := 17) dX11_at_13 (by decide) ?_
      refine G_iret (pc := 17) dX11_at_17 rfl ?_
      exact ⟨by first | rw [if_pos (by omega)] | rw [if_neg (by omega)], rfl, rfl⟩
theorem c_atv {E : EV} {M : Nat} {R : Nat → Nat → Option Nat} {I J : Nat → Nat → Int} (q z x : Nat) (v : Int) (hs : shp q = .inr (0, z)) (hq : q < M) (hz : z < 2147483648) (hx : x < z) (hv : I q x = v) : FnF E mdX11_at 0 M R [vr E q, vi (x : Int)] I J (some (vi v)) I J := by
  have h := c_at (E := E) (M := M) (R := R) (I := I) (J := J) q z (x : Int) hs hq hz (Ri.mk (by omega) (by omega))
  rw [if_pos ⟨by omega, by omega⟩, Int.toNat_natCast, hv] at h
  exact h
theorem c_tenths {E : EV} {M : Nat} {R : Nat → Nat → Option Nat} {I J : Nat → Nat → Int} (a : Int) (n : Nat) (ha : Ri a) (hn : (n : Int) = if a < 0 then 0 else if 10 < a then 10 else a) : FnF E mdX4_tenths 0 M R [vi a] I J (some (vi (n : Int))) I J := by
  refine FnQ.of (by decide +kernel) (Nat.le_of_ble_eq_true rfl) ?_
  show GM E mdX4_tenths 0 M R _ I J 0 [some (vi a)] []
  refine G_iload_n (pc := 0) dX4_tenths_0 rfl ?_
  refine G_if_ge (pc := 1) (tgt := 6) dX4_tenths_1 ha (by decide) (fun h_1 => ?_) (fun h_1 => ?_)
  · refine G_iload_n (pc := 6) dX4_tenths_6 rfl ?_
    refine G_bipush (pc := 7) dX4_tenths_7 (by decide) ?_
    refine G_icmp_le (pc := 9) (tgt := 17) dX4_tenths_9 ha (Ri.mk (by omega) (by omega)) (by decide) (fun h_9 => ?_) (fun h_9 => ?_)
    · refine G_iload_n (pc := 17) dX4_tenths_17 rfl ?_
      refine G_iret (pc := 18) dX4_tenths_18 rfl ?_
      exact ⟨by rw [hn]; first | rw [if_pos (by omega)] | rw [if_neg (by omega), if_pos (by omega)] | rw [if_neg (by omega), if_neg (by omega)], rfl, rfl⟩
    · refine G_bipush (pc := 12) dX4_tenths_12 (by decide) ?_
      refine G_goto (pc := 14) (tgt := 18) dX4_tenths_14 (by decide) ?_
      refine G_iret (pc := 18) dX4_tenths_18 rfl ?_
      exact ⟨by rw [hn]; first | rw [if_pos (by omega)] | rw [if_neg (by omega), if_pos (by omega)] | rw [if_neg (by omega), if_neg (by omega)], rfl, rfl⟩
  · refine G_iconst (pc := 4) dX4_tenths_4 ?_
    refine G_iret (pc := 5) dX4_tenths_5 rfl ?_
    exact ⟨by rw [hn]; first | rw [if_pos (by omega)] | rw [if_neg (by omega), if_pos (by omega)] | rw [if_neg (by omega), if_neg (by omega)], rfl, rfl⟩
theorem c_feeling {E : EV} {M : Nat} {I J : Nat → Nat → Int} {hs : HS} (k s a mode : Nat) (hk : isHouse k) (hM : 71 ≤ M) (hH : HI I k hs) (hB : HB hs) (h1 : s < zS hs) (h2 : a < zA hs) (h3 : mode < 4) : FnF E mdX4_feeling 1 M Rf [vr E k, vi (s : Int), vi (a : Int), vi (mode : Int)] I J (some (vi (fe hs s a mode : Int))) I J := by
  have hk22 := House_lt hk
  have hsh := House_sh hk
  have r1 := House_rf hk 1 (by omega)
  have r4 := House_rf hk 4 (by omega)
  have r5 := House_rf hk 5 (by omega)
  have bS := hB.1
  have bA := hB.2.1
  have b1 := hB.2.2.2.2.1 s h1
  have b2 := hB.2.2.2.2.2.1 a h2
  have v1 := hH.1 1 (by omega) s h1
  have v4 := hH.2.1 4 (by omega) (by omega) a h2
  have v5 := hH.2.1 5 (by omega) (by omega) a h2
  refine FnQ.of (by decide +kernel) (Nat.le_of_ble_eq_true rfl) ?_
  show GM E mdX4_feeling 1 M Rf _ I J 0 [some (vr E k), some (vi (s : Int)), some (vi (a : Int)), some (vi (mode : Int)), none] []
  refine G_iload_n (pc := 0) dX4_feeling_0 rfl ?_
  refine G_iconst (pc := 1) dX4_feeling_1 ?_
  refine G_icmp_ne (pc := 2) (tgt := 7) dX4_feeling_2 (Ri.mk (by omega) (by omega)) (Ri.mk (by omega) (by omega)) (by decide) (fun h_2 => ?_) (fun h_2 => ?_)
  · refine G_iload_n (pc := 7) dX4_feeling_7 rfl ?_
    refine G_iconst (pc := 8) dX4_feeling_8 ?_
    refine G_icmp_ne (pc := 9) (tgt := 16) dX4_feeling_9 (Ri.mk (by omega) (by omega)) (Ri.mk (by omega) (by omega)) (by decide) (fun h_9 => ?_) (fun h_9 => ?_)
    · refine G_aload_n (pc := 16) dX4_feeling_16 rfl ?_
      refine G_getr (pc := 17) dX4_feeling_17 fiX4_27 (by first | rfl | assumption) (by omega) (by first | rfl | assumption) ?_
      refine G_iload_n (pc := 20) dX4_feeling_20 rfl ?_
      refine G_callS1 (pc := 21) (md := mdX11_at) (av := [_, _]) dX4_feeling_21 lkX4_74 mwX11_at (c_atv _ 6 _ _ (House_ar hk _ (by omega)) (by omega) (by omega) (by omega) (by first | exact v1 | exact v4 | exact v5)) rfl rfl (Nat.le_of_ble_eq_true rfl) (by decide) ⟨Nat.zero_le _, Nat.zero_le _⟩ ?_
      refine G_istore (pc := 24) (lv' := [_, _, _, _, _]) dX4_feeling_24 (by decide) rfl ?_
      refine G_aload_n (pc := 26) dX4_feeling_26 rfl ?_
      refine G_getr (pc := 27) dX4_feeling_27 fiX4_15 (by first | rfl | assumption) (by omega) (by first | rfl | assumption) ?_
      refine G_iload_n (pc := 30) dX4_feeling_30 rfl ?_
      refine G_callS1 (pc := 31) (md := mdX11_at) (av := [_, _]) dX4_feeling_31 lkX4_74 mwX11_at (c_atv _ 6 _ _ (House_ar hk _ (by omega)) (by omega) (by omega) (by omega) (by first | exact v1 | exact v4 | exact v5)) rfl rfl (Nat.le_of_ble_eq_true rfl) (by decide) ⟨Nat.zero_le _, Nat.zero_le _⟩ ?_
      refine G_iload (pc := 34) dX4_feeling_34 rfl ?_
      refine G_iadd (pc := 36) dX4_feeling_36 ?_
      refine G_aload_n (pc := 37) dX4_feeling_37 rfl ?_
      refine G_getr (pc := 38) dX4_feeling_38 fiX4_24 (by first | rfl | assumption) (by omega) (by first | rfl | assumption) ?_
      refine G_iload_n (pc := 41) dX4_feeling_41 rfl ?_
      refine G_callS1 (pc := 42) (md := mdX11_at) (av := [_, _]) dX4_feeling_42 lkX4_74 mwX11_at (c_atv _ 6 _ _ (House_ar hk _ (by omega)) (by omega) (by omega) (by omega) (by first | exact v1 | exact v4 | exact v5)) rfl rfl (Nat.le_of_ble_eq_true rfl) (by decide) ⟨Nat.zero_le _, Nat.zero_le _⟩ ?_
      refine G_isub (pc := 45) dX4_feeling_45 ?_
      refine G_callS1 (pc := 46) (md := mdX4_tenths) (av := [_]) dX4_feeling_46 lkX4_85 mwX4_tenths (c_tenths _ (fe hs s a mode) (Ri.mk (by omega) (by omega)) (by unfold fe; split <;> (try split) <;> (try split) <;> (try split) <;> omega)) rfl rfl (Nat.le_of_ble_eq_true rfl) (by decide) ⟨Nat.zero_le _, Nat.zero_le _⟩ ?_
      refine G_iret (pc := 49) dX4_feeling_49 rfl ?_
      exact ⟨rfl, rfl, rfl⟩
    · refine G_iconst (pc := 12) dX4_feeling_12 ?_
      refine G_goto (pc := 13) (tgt := 24) dX4_feeling_13 (by decide) ?_
      refine G_istore (pc := 24) (lv' := [_, _, _, _, _]) dX4_feeling_24 (by decide) rfl ?_
      refine G_aload_n (pc := 26) dX4_feeling_26 rfl ?_
      refine G_getr (pc := 27) dX4_feeling_27 fiX4_15 (by first | rfl | assumption) (by omega) (by first | rfl | assumption) ?_
      refine G_iload_n (pc := 30) dX4_feeling_30 rfl ?_
      refine G_callS1 (pc := 31) (md := mdX11_at) (av := [_, _]) dX4_feeling_31 lkX4_74 mwX11_at (c_atv _ 6 _ _ (House_ar hk _ (by omega)) (by omega) (by omega) (by omega) (by first | exact v1 | exact v4 | exact v5)) rfl rfl (Nat.le_of_ble_eq_true rfl) (by decide) ⟨Nat.zero_le _, Nat.zero_le _⟩ ?_
      refine G_iload (pc := 34) dX4_feeling_34 rfl ?_
      refine G_iadd (pc := 36) dX4_feeling_36 ?_
      refine G_aload_n (pc := 37) dX4_feeling_37 rfl ?_
      refine G_getr (pc := 38) dX4_feeling_38 fiX4_24 (by first | rfl | assumption) (by omega) (by first | rfl | assumption) ?_
      refine G_iload_n (pc := 41) dX4_feeling_41 rfl ?_
      refine G_callS1 (pc := 42) (md := mdX11_at) (av := [_, _]) dX4_feeling_42 lkX4_74 mwX11_at (c_atv _ 6 _ _ (House_ar hk _ (by omega)) (by omega) (by omega) (by omega) (by first | exact v1 | exact v4 | exact v5)) rfl rfl (Nat.le_of_ble_eq_true rfl) (by decide) ⟨Nat.zero_le _, Nat.zero_le _⟩ ?_
      refine G_isub (pc := 45) dX4_feeling_45 ?_
      refine G_callS1 (pc := 46) (md := mdX4_tenths) (av := [_]) dX4_feeling_46 lkX4_85 mwX4_tenths (c_tenths _ (fe hs s a mode) (Ri.mk (by omega) (by omega)) (by unfold fe; split <;> (try split) <;> (try split) <;> (try split) <;> omega)) rfl rfl (Nat.le_of_ble_eq_true rfl) (by decide) ⟨Nat.zero_le _, Nat.zero_le _⟩ ?_
      refine G_iret (pc := 49) dX4_feeling_49 rfl ?_
      exact ⟨rfl, rfl, rfl⟩
  · refine G_iconst (pc := 5) dX4_feeling_5 ?_
    refine G_iret (pc := 6) dX4_feeling_6 rfl ?_
    exact ⟨by unfold fe; rw [if_pos (by omega)]; rfl, rfl, rfl⟩
