/-! HOUSE: its picture, its reads -/
def isHouse (k : Nat) : Prop := k = 3 ∨ k = 21
theorem House_sh {k : Nat} (h : isHouse k) : shp k = .inl 4 := by rcases h with rfl | rfl <;> rfl
theorem House_lt {k : Nat} (h : isHouse k) : k < 22 := by rcases h with rfl | rfl <;> decide
theorem House_rf {k : Nat} (h : isHouse k) (i : Nat) (hi : i < 8) : Rf k i = some (k + 1 + i) := by
  rcases h with rfl | rfl <;> rcases (show i = 0 ∨ i = 1 ∨ i = 2 ∨ i = 3 ∨ i = 4 ∨ i = 5 ∨ i = 6 ∨ i = 7 by omega) with rfl | rfl | rfl | rfl | rfl | rfl | rfl | rfl <;> rfl
theorem House_ar {k : Nat} (h : isHouse k) (i : Nat) (hi : i < 8) : shp (k + 1 + i) = .inr (0, 6) := by
  rcases h with rfl | rfl <;> rcases (show i = 0 ∨ i = 1 ∨ i = 2 ∨ i = 3 ∨ i = 4 ∨ i = 5 ∨ i = 6 ∨ i = 7 by omega) with rfl | rfl | rfl | rfl | rfl | rfl | rfl | rfl <;> rfl
/-- within(number, least, most) -/
theorem c_within {E : EV} {M : Nat} {R : Nat → Nat → Option Nat} {I J : Nat → Nat → Int} (a b c : Int) (ha : Ri a) (hb : Ri b) (hc : Ri c) : FnF E mdX11_within 0 M R [vi a, vi b, vi c] I J (some (vi (bI (b ≤ a ∧ a ≤ c)))) I J := by
  refine FnQ.of (by decide +kernel) (Nat.le_of_ble_eq_true rfl) ?_
  show GM E mdX11_within 0 M R _ I J 0 [some (vi a), some (vi b), some (vi c)] []
  refine G_iload_n (pc := 0) dX11_within_0 rfl ?_
  refine G_iload_n (pc := 1) dX11_within_1 rfl ?_
  refine G_icmp_lt (pc := 2) (tgt := 14) dX11_within_2 ha hb (by decide) (fun h_2 => ?_) (fun h_2 => ?_)
  · refine G_iconst (pc := 14) dX11_within_14 ?_
    refine G_zret (pc := 15) dX11_within_15 rfl (by omega) ?_
    exact ⟨by first | rw [bI_t (by omega)] | rw [bI_f (by omega)], rfl, rfl⟩
  · refine G_iload_n (pc := 5) dX11_within_5 rfl ?_
    refine G_iload_n (pc := 6) dX11_within_6 rfl ?_
    refine G_icmp_gt (pc := 7) (tgt := 14) dX11_within_7 ha hc (by decide) (fun h_7 => ?_) (fun h_7 => ?_)
    · refine G_iconst (pc := 14) dX11_within_14 ?_
      refine G_zret (pc := 15) dX11_within_15 rfl (by omega) ?_
      exact ⟨by first | rw [bI_t (by omega)] | rw [bI_f (by omega)], rfl, rfl⟩
    · refine G_iconst (pc := 10) dX11_within_10 ?_
      refine G_goto (pc := 11) (tgt := 15) dX11_within_11 (by decide) ?_
      refine G_zret (pc := 15) dX11_within_15 rfl (by omega) ?_
      exact ⟨by first | rw [bI_t (by omega)] | rw [bI_f (by omega)], rfl, rfl⟩
/-- at(row, place) -/
theorem c_at {E : EV} {M : Nat} {R : Nat → Nat → Option Nat} {I J : Nat → Nat → Int} (q z : Nat) (a : Int) (hs : shp q = .inr (0, z)) (hq : q < M) (hz : z < 2147483648) (ha : Ri a) : FnF E mdX11_at 0 M R [vr E q, vi a] I J (some (vi (if 0 ≤ a ∧ a < z then I q a.toNat else 0))) I J := by
  refine FnQ.of (by decide +kernel) (Nat.le_of_ble_eq_true rfl) ?_
  show GM E mdX11_at 0 M R _ I J 0 [some (vr E q), some (vi a)] []
  refine G_iload_n (pc := 0) dX11_at_0 rfl ?_
  refine G_if_lt (pc := 1) (tgt := 16) dX11_at_1 ha (by decide) (fun h_1 => ?_) (fun h_1 => ?_)
  · refine G_iconst (pc := 16) dX11_at_16 ?_
    refine G_iret (pc := 17) dX11_at_17 rfl ?_
    exact ⟨by first | rw [if_pos (by omega)] | rw [if_neg (by omega)], rfl, rfl⟩
  · refine G_iload_n (pc := 4) dX11_at_4 rfl ?_
    refine G_aload_n (pc := 5) dX11_at_5 rfl ?_
    refine G_alen (pc := 6) dX11_at_6 (by first | rfl | assumption) (by decide) (by omega) ?_
    refine G_icmp_ge (pc := 7) (tgt := 16) dX11_at_7 ha (Ri.mk (by omega) (by omega)) (by decide) (fun h_7 => ?_) (fun h_7 => ?_)
    · refine G_iconst (pc := 16) dX11_at_16 ?_
      refine G_iret (pc := 17) dX11_at_17 rfl ?_
      exact ⟨by first | rw [if_pos (by omega)] | rw [if_neg (by omega)], rfl, rfl⟩
    · refine G_aload_n (pc := 10) dX11_at_10 rfl ?_
      refine G_iload_n (pc := 11) dX11_at_11 rfl ?_
      refine G_iald (pc := 12) dX11_at_12 (by first | rfl | assumption) (by omega) (by omega) (by omega) (by omega) ?_
      refine G_goto (pc := 13) (tgt := 17) dX11_at_13 (by decide) ?_
      refine G_iret (pc := 17) dX11_at_17 rfl ?_
      exact ⟨by first | rw [if_pos (by omega)] | rw [if_neg (by omega)], rfl, rfl⟩
theorem c_atv {E : EV} {M : Nat} {R : Nat → Nat → Option Nat} {I J : Nat → Nat → Int} (q z x : Nat) (v : Int) (hs : shp q = .inr (0, z)) (hq : q < M) (hz : z < 2147483648) (hx : x < z) (hv : I q x = v) : FnF E mdX11_at 0 M R [vr E q, vi (x : Int)] I J (some (vi v)) I J := by
  have h := c_at (E := E) (M := M) (R := R) (I := I) (J := J) q z (x : Int) hs hq hz (Ri.mk (by omega) (by omega))
  rw [if_pos ⟨by omega, by omega⟩, Int.toNat_natCast, hv] at h
  exact h
theorem c_tenths {E : EV} {M : Nat} {R : Nat → Nat → Option Nat} {I J : Nat → Nat → Int} (a : Int) (n : Nat) (ha : Ri a) (hn : (n : Int) = if a < 0 then 0 else if 10 < a then 10 else a) : FnF E mdX4_tenths 0 M R [vi a] I J (some (vi (n : Int))) I J := by
  refine FnQ.of (by decide +kernel) (Nat.le_of_ble_eq_true rfl) ?_
  show GM E mdX4_tenths 0 M R _ I J 0 [some (vi a)] []
  refine G_iload_n (pc := 0) dX4_tenths_0 rfl ?_
  refine G_if_ge (pc := 1) (tgt := 6) dX4_tenths_1 ha (by decide) (fun h_1 => ?_) (fun h_1 => ?_)
  · refine G_iload_n (pc := 6) dX4_tenths_6 rfl ?_
    refine G_bipush (pc := 7) dX4_tenths_7 (by decide) ?_
    refine G_icmp_le (pc := 9) (tgt := 17) dX4_tenths_9 ha (Ri.mk (by omega) (by omega)) (by decide) (fun h_9 => ?_) (fun h_9 => ?_)
    · refine G_iload_n (pc := 17) dX4_tenths_17 rfl ?_
      refine G_iret (pc := 18) dX4_tenths_18 rfl ?_
      exact ⟨by rw [hn]; first | rw [if_pos (by omega)] | rw [if_neg (by omega), if_pos (by omega)] | rw [if_neg (by omega), if_neg (by omega)], rfl, rfl⟩
    · refine G_bipush (pc := 12) dX4_tenths_12 (by decide) ?_
      refine G_goto (pc := 14) (tgt := 18) dX4_tenths_14 (by decide) ?_
      refine G_iret (pc := 18) dX4_tenths_18 rfl ?_
      exact ⟨by rw [hn]; first | rw [if_pos (by omega)] | rw [if_neg (by omega), if_pos (by omega)] | rw [if_neg (by omega), if_neg (by omega)], rfl, rfl⟩
  · refine G_iconst (pc := 4) dX4_tenths_4 ?_
    refine G_iret (pc := 5) dX4_tenths_5 rfl ?_
    exact ⟨by rw [hn]; first | rw [if_pos (by omega)] | rw [if_neg (by omega), if_pos (by omega)] | rw [if_neg (by omega), if_neg (by omega)], rfl, rfl⟩
theorem c_feeling {E : EV} {M : Nat} {I J : Nat → Nat → Int} {hs : HS} (k s a mode : Nat) (hk : isHouse k) (hM : 71 ≤ M) (hH : HI I k hs) (hB : HB hs) (h1 : s < zS hs) (h2 : a < zA hs) (h3 : mode < 4) : FnF E mdX4_feeling 1 M Rf [vr E k, vi (s : Int), vi (a : Int), vi (mode : Int)] I J (some (vi (fe hs s a mode : Int))) I J := by
  have hk22 := House_lt hk
  have hsh := House_sh hk
  have r1 := House_rf hk 1 (by omega)
  have r4 := House_rf hk 4 (by omega)
  have r5 := House_rf hk 5 (by omega)
  have bS := hB.1
  have bA := hB.2.1
  have b1 := hB.2.2.2.2.1 s h1
  have b2 := hB.2.2.2.2.2.1 a h2
  have v1 := hH.1 1 (by omega) s h1
  have v4 := hH.2.1 4 (by omega) (by omega) a h2
  have v5 := hH.2.1 5 (by omega) (by omega) a h2
  refine FnQ.of (by decide +kernel) (Nat.le_of_ble_eq_true rfl) ?_
  show GM E mdX4_feeling 1 M Rf _ I J 0 [some (vr E k), some (vi (s : Int)), some (vi (a : Int)), some (vi (mode : Int)), none] []
  refine G_iload_n (pc := 0) dX4_feeling_0 rfl ?_
  refine G_iconst (pc := 1) dX4_feeling_1 ?_
  refine G_icmp_ne (pc := 2) (tgt := 7) dX4_feeling_2 (Ri.mk (by omega) (by omega)) (Ri.mk (by omega) (by omega)) (by decide) (fun h_2 => ?_) (fun h_2 => ?_)
  · refine G_iload_n (pc := 7) dX4_feeling_7 rfl ?_
    refine G_iconst (pc := 8) dX4_feeling_8 ?_
    refine G_icmp_ne (pc := 9) (tgt := 16) dX4_feeling_9 (Ri.mk (by omega) (by omega)) (Ri.mk (by omega) (by omega)) (by decide) (fun h_9 => ?_) (fun h_9 => ?_)
    · refine G_aload_n (pc := 16) dX4_feeling_16 rfl ?_
      refine G_getr (pc := 17) dX4_feeling_17 fiX4_27 (by first | rfl | assumption) (by omega) (by first | rfl | assumption) ?_
      refine G_iload_n (pc := 20) dX4_feeling_20 rfl ?_
      refine G_callS1 (pc := 21) (md := mdX11_at) (av := [_, _]) dX4_feeling_21 lkX4_74 mwX11_at (c_atv _ 6 _ _ (House_ar hk _ (by omega)) (by omega) (by omega) (by omega) (by first | exact v1 | exact v4 | exact v5)) rfl rfl (Nat.le_of_ble_eq_true rfl) (by decide) ⟨Nat.zero_le _, Nat.zero_le _⟩ ?_
      refine G_istore (pc := 24) (lv' := [_, _, _, _, _]) dX4_feeling_24 (by decide) rfl ?_
      refine G_aload_n (pc := 26) dX4_feeling_26 rfl ?_
      refine G_getr (pc := 27) dX4_feeling_27 fiX4_15 (by first | rfl | assumption) (by omega) (by first | rfl | assumption) ?_
      refine G_iload_n (pc := 30) dX4_feeling_30 rfl ?_
      refine G_callS1 (pc := 31) (md := mdX11_at) (av := [_, _]) dX4_feeling_31 lkX4_74 mwX11_at (c_atv _ 6 _ _ (House_ar hk _ (by omega)) (by omega) (by omega) (by omega) (by first | exact v1 | exact v4 | exact v5)) rfl rfl (Nat.le_of_ble_eq_true rfl) (by decide) ⟨Nat.zero_le _, Nat.zero_le _⟩ ?_
      refine G_iload (pc := 34) dX4_feeling_34 rfl ?_
      refine G_iadd (pc := 36) dX4_feeling_36 ?_
      refine G_aload_n (pc := 37) dX4_feeling_37 rfl ?_
      refine G_getr (pc := 38) dX4_feeling_38 fiX4_24 (by first | rfl | assumption) (by omega) (by first | rfl | assumption) ?_
      refine G_iload_n (pc := 41) dX4_feeling_41 rfl ?_
      refine G_callS1 (pc := 42) (md := mdX11_at) (av := [_, _]) dX4_feeling_42 lkX4_74 mwX11_at (c_atv _ 6 _ _ (House_ar hk _ (by omega)) (by omega) (by omega) (by omega) (by first | exact v1 | exact v4 | exact v5)) rfl rfl (Nat.le_of_ble_eq_true rfl) (by decide) ⟨Nat.zero_le _, Nat.zero_le _⟩ ?_
      refine G_isub (pc := 45) dX4_feeling_45 ?_
      refine G_callS1 (pc := 46) (md := mdX4_tenths) (av := [_]) dX4_feeling_46 lkX4_85 mwX4_tenths (c_tenths _ (fe hs s a mode) (Ri.mk (by omega) (by omega)) (by unfold fe; split <;> (try split) <;> (try split) <;> (try split) <;> omega)) rfl rfl (Nat.le_of_ble_eq_true rfl) (by decide) ⟨Nat.zero_le _, Nat.zero_le _⟩ ?_
      refine G_iret (pc := 49) dX4_feeling_49 rfl ?_
      exact ⟨rfl, rfl, rfl⟩
    · refine G_iconst (pc := 12) dX4_feeling_12 ?_
      refine G_goto (pc := 13) (tgt := 24) dX4_feeling_13 (by decide) ?_
      refine G_istore (pc := 24) (lv' := [_, _, _, _, _]) dX4_feeling_24 (by decide) rfl ?_
      refine G_aload_n (pc := 26) dX4_feeling_26 rfl ?_
      refine G_getr (pc := 27) dX4_feeling_27 fiX4_15 (by first | rfl | assumption) (by omega) (by first | rfl | assumption) ?_
      refine G_iload_n (pc := 30) dX4_feeling_30 rfl ?_
      refine G_callS1 (pc := 31) (md := mdX11_at) (av := [_, _]) dX4_feeling_31 lkX4_74 mwX11_at (c_atv _ 6 _ _ (House_ar hk _ (by omega)) (by omega) (by omega) (by omega) (by first | exact v1 | exact v4 | exact v5)) rfl rfl (Nat.le_of_ble_eq_true rfl) (by decide) ⟨Nat.zero_le _, Nat.zero_le _⟩ ?_
      refine G_iload (pc := 34) dX4_feeling_34 rfl ?_
      refine G_iadd (pc := 36) dX4_feeling_36 ?_
      refine G_aload_n (pc := 37) dX4_feeling_37 rfl ?_
      refine G_getr (pc := 38) dX4_feeling_38 fiX4_24 (by first | rfl | assumption) (by omega) (by first | rfl | assumption) ?_
      refine G_iload_n (pc := 41) dX4_feeling_41 rfl ?_
      refine G_callS1 (pc := 42) (md := mdX11_at) (av := [_, _]) dX4_feeling_42 lkX4_74 mwX11_at (c_atv _ 6 _ _ (House_ar hk _ (by omega)) (by omega) (by omega) (by omega) (by first | exact v1 | exact v4 | exact v5)) rfl rfl (Nat.le_of_ble_eq_true rfl) (by decide) ⟨Nat.zero_le _, Nat.zero_le _⟩ ?_
      refine G_isub (pc := 45) dX4_feeling_45 ?_
      refine G_callS1 (pc := 46) (md := mdX4_tenths) (av := [_]) dX4_feeling_46 lkX4_85 mwX4_tenths (c_tenths _ (fe hs s a mode) (Ri.mk (by omega) (by omega)) (by unfold fe; split <;> (try split) <;> (try split) <;> (try split) <;> omega)) rfl rfl (Nat.le_of_ble_eq_true rfl) (by decide) ⟨Nat.zero_le _, Nat.zero_le _⟩ ?_
      refine G_iret (pc := 49) dX4_feeling_49 rfl ?_
      exact ⟨rfl, rfl, rfl⟩
  · refine G_iconst (pc := 5) dX4_feeling_5 ?_
    refine G_iret (pc := 6) dX4_feeling_6 rfl ?_
    exact ⟨by unfold fe; rw [if_pos (by omega)]; rfl, rfl, rfl⟩
theorem c_playing {E : EV} {M : Nat} {I J : Nat → Nat → Int} {hs : HS} (k s a mode : Nat) (hk : isHouse k) (hM : 71 ≤ M) (hH : HI I k hs) (hB : HB hs) (h1 : s < zS hs) (h2 : a < zA hs) (h3 : mode < 4) : FnF E mdX4_playing 1 M Rf [vr E k, vi (s : Int), vi (a : Int), vi (mode : Int)] I J (some (vi (pl hs s a mode : Int))) I J := by
  have hk22 := House_lt hk
  have hsh := House_sh hk
  have r2 := House_rf hk 2 (by omega)
  have r3 := House_rf hk 3 (by omega)
  have r6 := House_rf hk 6 (by omega)
  have bS := hB.1
  have bA := hB.2.1
  have b1 := hB.2.2.2.2.1 s h1
  have b2 := hB.2.2.2.2.2.1 a h2
  have v2 := hH.1 2 (by omega) s h1
  have v3 := hH.1 3 (by omega) s h1
  have v6 := hH.2.1 6 (by omega) (by omega) a h2
  refine FnQ.of (by decide +kernel) (Nat.le_of_ble_eq_true rfl) ?_
  show GM E mdX4_playing 1 M Rf _ I J 0 [some (vr E k), some (vi (s : Int)), some (vi (a : Int)), some (vi (mode : Int)), none] []
  refine G_aload_n (pc := 0) dX4_playing_0 rfl ?_
  refine G_getr (pc := 1) dX4_playing_1 fiX4_30 (by first | rfl | assumption) (by omega) (by first | rfl | assumption) ?_
  refine G_iload_n (pc := 4) dX4_playing_4 rfl ?_
  refine G_callS1 (pc := 5) (md := mdX11_at) (av := [_, _]) dX4_playing_5 lkX4_74 mwX11_at (c_atv _ 6 _ _ (House_ar hk _ (by omega)) (by omega) (by omega) (by omega) (by first | exact v2 | exact v3 | exact v6)) rfl rfl (Nat.le_of_ble_eq_true rfl) (by decide) ⟨Nat.zero_le _, Nat.zero_le _⟩ ?_
  refine G_istore (pc := 8) (lv' := [_, _, _, _, _]) dX4_playing_8 (by decide) rfl ?_
  refine G_iload_n (pc := 10) dX4_playing_10 rfl ?_
  rcases (show mode = 0 ∨ mode = 1 ∨ mode = 2 ∨ mode = 3 by omega) with rfl | rfl | rfl | rfl
  · skip
    refine G_tableIn (pc := 11) (off := 25) (tgt := 36) dX4_playing_11 (Ri.mk (by omega) (by omega)) (by omega) (by omega) rfl (by decide) ?_
    refine G_aload_n (pc := 36) dX4_playing_36 rfl ?_
    refine G_getr (pc := 37) dX4_playing_37 fiX4_18 (by first | rfl | assumption) (by omega) (by first | rfl | assumption) ?_
    refine G_iload_n (pc := 40) dX4_playing_40 rfl ?_
    refine G_callS1 (pc := 41) (md := mdX11_at) (av := [_, _]) dX4_playing_41 lkX4_74 mwX11_at (c_atv _ 6 _ _ (House_ar hk _ (by omega)) (by omega) (by omega) (by omega) (by first | exact v2 | exact v3 | exact v6)) rfl rfl (Nat.le_of_ble_eq_true rfl) (by decide) ⟨Nat.zero_le _, Nat.zero_le _⟩ ?_
    refine G_aload_n (pc := 44) dX4_playing_44 rfl ?_
    refine G_getr (pc := 45) dX4_playing_45 fiX4_21 (by first | rfl | assumption) (by omega) (by first | rfl | assumption) ?_
    refine G_iload_n (pc := 48) dX4_playing_48 rfl ?_
    refine G_callS1 (pc := 49) (md := mdX11_at) (av := [_, _]) dX4_playing_49 lkX4_74 mwX11_at (c_atv _ 6 _ _ (House_ar hk _ (by omega)) (by omega) (by omega) (by omega) (by first | exact v2 | exact v3 | exact v6)) rfl rfl (Nat.le_of_ble_eq_true rfl) (by decide) ⟨Nat.zero_le _, Nat.zero_le _⟩ ?_
    refine G_iadd (pc := 52) dX4_playing_52 ?_
    refine G_iload (pc := 53) dX4_playing_53 rfl ?_
    refine G_isub (pc := 55) dX4_playing_55 ?_
    refine G_callS1 (pc := 56) (md := mdX4_tenths) (av := [_]) dX4_playing_56 lkX4_85 mwX4_tenths (c_tenths _ (min 10 (hs 2 s + hs 3 s - hs 6 a)) (Ri.mk (by omega) (by omega)) (by split <;> (try split) <;> omega)) rfl rfl (Nat.le_of_ble_eq_true rfl) (by decide) ⟨Nat.zero_le _, Nat.zero_le _⟩ ?_
    refine G_iret (pc := 59) dX4_playing_59 rfl ?_
    exact ⟨rfl, rfl, rfl⟩
  · skip
    refine G_tableIn (pc := 11) (off := 49) (tgt := 60) dX4_playing_11 (Ri.mk (by omega) (by omega)) (by omega) (by omega) rfl (by decide) ?_
    refine G_aload_n (pc := 60) dX4_playing_60 rfl ?_
    refine G_getr (pc := 61) dX4_playing_61 fiX4_18 (by first | rfl | assumption) (by omega) (by first | rfl | assumption) ?_
    refine G_iload_n (pc := 64) dX4_playing_64 rfl ?_
    refine G_callS1 (pc := 65) (md := mdX11_at) (av := [_, _]) dX4_playing_65 lkX4_74 mwX11_at (c_atv _ 6 _ _ (House_ar hk _ (by omega)) (by omega) (by omega) (by omega) (by first | exact v2 | exact v3 | exact v6)) rfl rfl (Nat.le_of_ble_eq_true rfl) (by decide) ⟨Nat.zero_le _, Nat.zero_le _⟩ ?_
    refine G_iload (pc := 68) dX4_playing_68 rfl ?_
    refine G_isub (pc := 70) dX4_playing_70 ?_
    refine G_callS1 (pc := 71) (md := mdX4_tenths) (av := [_]) dX4_playing_71 lkX4_85 mwX4_tenths (c_tenths _ (min 10 (hs 2 s - hs 6 a)) (Ri.mk (by omega) (by omega)) (by split <;> (try split) <;> omega)) rfl rfl (Nat.le_of_ble_eq_true rfl) (by decide) ⟨Nat.zero_le _, Nat.zero_le _⟩ ?_
    refine G_iret (pc := 74) dX4_playing_74 rfl ?_
    exact ⟨rfl, rfl, rfl⟩
  · skip
    refine G_tableIn (pc := 11) (off := 64) (tgt := 75) dX4_playing_11 (Ri.mk (by omega) (by omega)) (by omega) (by omega) rfl (by decide) ?_
    refine G_bipush (pc := 75) dX4_playing_75 (by decide) ?_
    refine G_iload (pc := 77) dX4_playing_77 rfl ?_
    refine G_isub (pc := 79) dX4_playing_79 ?_
    refine G_callS1 (pc := 80) (md := mdX4_tenths) (av := [_]) dX4_playing_80 lkX4_85 mwX4_tenths (c_tenths _ (min 10 (10 - hs 6 a)) (Ri.mk (by omega) (by omega)) (by split <;> (try split) <;> omega)) rfl rfl (Nat.le_of_ble_eq_true rfl) (by decide) ⟨Nat.zero_le _, Nat.zero_le _⟩ ?_
    refine G_iret (pc := 83) dX4_playing_83 rfl ?_
    exact ⟨rfl, rfl, rfl⟩
  · skip
    refine G_tableOut (pc := 11) (tgt := 84) dX4_playing_11 (Ri.mk (by omega) (by omega)) (by omega) (by decide) ?_
    refine G_iconst (pc := 84) dX4_playing_84 ?_
    refine G_iret (pc := 85) dX4_playing_85 rfl ?_
    exact ⟨rfl, rfl, rfl⟩
theorem c_doing_ {E : EV} {M : Nat} {R : Nat → Nat → Option Nat} {I J : Nat → Nat → Int} (f p : Nat) (hf : f ≤ 10) : FnF E mdX4_doing_ 0 M R [vi (f : Int), vi (p : Int)] I J (some (vi (dof f p : Int))) I J := by
  refine FnQ.of (by decide +kernel) (Nat.le_of_ble_eq_true rfl) ?_
  show GM E mdX4_doing_ 0 M R _ I J 0 [some (vi (f : Int)), some (vi (p : Int))] []
  refine G_bipush (pc := 0) dX4_doing__0 (by decide) ?_
  refine G_iload_n (pc := 2) dX4_doing__2 rfl ?_
  refine G_imul (pc := 3) dX4_doing__3 ?_
  refine G_bipush (pc := 4) dX4_doing__4 (by decide) ?_
  refine G_iload_n (pc := 6) dX4_doing__6 rfl ?_
  refine G_isub (pc := 7) dX4_doing__7 ?_
  refine G_iload_n (pc := 8) dX4_doing__8 rfl ?_
  refine G_imul (pc := 9) dX4_doing__9 ?_
  refine G_iadd (pc := 10) dX4_doing__10 ?_
  refine G_iret (pc := 11) dX4_doing__11 rfl ?_
  exact ⟨by unfold dof; congr 3; rw [Int.natCast_add, Int.natCast_mul, Int.natCast_mul, Int.ofNat_sub hf]; rfl, rfl, rfl⟩
theorem c_doing {E : EV} {M : Nat} {I J : Nat → Nat → Int} {hs : HS} (k s a mode : Nat) (hk : isHouse k) (hM : 71 ≤ M) (hH : HI I k hs) (hB : HB hs) (h1 : s < zS hs) (h2 : a < zA hs) (h3 : mode < 4) : FnF E mdX4_doing 2 M Rf [vr E k, vi (s : Int), vi (a : Int), vi (mode : Int)] I J (some (vi (dO hs s a mode : Int))) I J := by
  have hk22 := House_lt hk
  have hsh := House_sh hk
  refine FnQ.of (by decide +kernel) (Nat.le_of_ble_eq_true rfl) ?_
  show GM E mdX4_doing 2 M Rf _ I J 0 [some (vr E k), some (vi (s : Int)), some (vi (a : Int)), some (vi (mode : Int))] []
  refine G_aload_n (pc := 0) dX4_doing_0 rfl ?_
  refine G_iload_n (pc := 1) dX4_doing_1 rfl ?_
  refine G_iload_n (pc := 2) dX4_doing_2 rfl ?_
  refine G_iload_n (pc := 3) dX4_doing_3 rfl ?_
  refine G_callV1 (pc := 4) (md := mdX4_feeling) (av := [_, _, _]) dX4_doing_4 lkX4_88 mwX4_feeling (c_feeling k s a mode hk hM hH hB h1 h2 h3) rfl (by first | rfl | assumption) (by omega) rfl rfl (Nat.le_of_ble_eq_true rfl) (by decide) ⟨Nat.zero_le _, Nat.zero_le _⟩ ?_
  refine G_aload_n (pc := 7) dX4_doing_7 rfl ?_
  refine G_iload_n (pc := 8) dX4_doing_8 rfl ?_
  refine G_iload_n (pc := 9) dX4_doing_9 rfl ?_
  refine G_iload_n (pc := 10) dX4_doing_10 rfl ?_
  refine G_callV1 (pc := 11) (md := mdX4_playing) (av := [_, _, _]) dX4_doing_11 lkX4_92 mwX4_playing (c_playing k s a mode hk hM hH hB h1 h2 h3) rfl (by first | rfl | assumption) (by omega) rfl rfl (Nat.le_of_ble_eq_true rfl) (by decide) ⟨Nat.zero_le _, Nat.zero_le _⟩ ?_
  refine G_callS1 (pc := 14) (md := mdX4_doing_) (av := [_, _]) dX4_doing_14 lkX4_95 mwX4_doing_ (c_doing_ _ _ (fe_le _ _ _ _)) rfl rfl (Nat.le_of_ble_eq_true rfl) (by decide) ⟨Nat.zero_le _, Nat.zero_le _⟩ ?_
  refine G_iret (pc := 17) dX4_doing_17 rfl ?_
  exact ⟨rfl, rfl, rfl⟩
theorem c_size {E : EV} {M : Nat} {I J : Nat → Nat → Int} {hs : HS} (k s : Nat) (hk : isHouse k) (hM : 71 ≤ M) (hH : HI I k hs) (hB : HB hs) (h1 : s < zS hs) : FnF E mdX4_size 1 M Rf [vr E k, vi (s : Int)] I J (some (vi (hs 0 s : Int))) I J := by
  have hk22 := House_lt hk
  have hsh := House_sh hk
  have r := House_rf hk 0 (by omega)
  have bS := hB.1
  have v := hH.1 0 (by omega) s h1
  refine FnQ.of (by decide +kernel) (Nat.le_of_ble_eq_true rfl) ?_
  show GM E mdX4_size 1 M Rf _ I J 0 [some (vr E k), some (vi (s : Int))] []
  refine G_aload_n (pc := 0) dX4_size_0 rfl ?_
  refine G_getr (pc := 1) dX4_size_1 fiX4_9 (by first | rfl | assumption) (by omega) (by first | rfl | assumption) ?_
  refine G_iload_n (pc := 4) dX4_size_4 rfl ?_
  refine G_callS1 (pc := 5) (md := mdX11_at) (av := [_, _]) dX4_size_5 lkX4_74 mwX11_at (c_atv _ 6 _ _ (House_ar hk _ (by omega)) (by omega) (by omega) (by omega) v) rfl rfl (Nat.le_of_ble_eq_true rfl) (by decide) ⟨Nat.zero_le _, Nat.zero_le _⟩ ?_
  refine G_iret (pc := 8) dX4_size_8 rfl ?_
  exact ⟨rfl, rfl, rfl⟩
theorem c_bentOf {E : EV} {M : Nat} {I J : Nat → Nat → Int} {hs : HS} (k s : Nat) (hk : isHouse k) (hM : 71 ≤ M) (hH : HI I k hs) (hB : HB hs) (h1 : s < zS hs) : FnF E mdX4_bentOf 1 M Rf [vr E k, vi (s : Int)] I J (some (vi (hs 1 s : Int))) I J := by
  have hk22 := House_lt hk
  have hsh := House_sh hk
  have r := House_rf hk 1 (by omega)
  have bS := hB.1
  have v := hH.1 1 (by omega) s h1
  refine FnQ.of (by decide +kernel) (Nat.le_of_ble_eq_true rfl) ?_
  show GM E mdX4_bentOf 1 M Rf _ I J 0 [some (vr E k), some (vi (s : Int))] []
  refine G_aload_n (pc := 0) dX4_bentOf_0 rfl ?_
  refine G_getr (pc := 1) dX4_bentOf_1 fiX4_15 (by first | rfl | assumption) (by omega) (by first | rfl | assumption) ?_
  refine G_iload_n (pc := 4) dX4_bentOf_4 rfl ?_
  refine G_callS1 (pc := 5) (md := mdX11_at) (av := [_, _]) dX4_bentOf_5 lkX4_74 mwX11_at (c_atv _ 6 _ _ (House_ar hk _ (by omega)) (by omega) (by omega) (by omega) v) rfl rfl (Nat.le_of_ble_eq_true rfl) (by decide) ⟨Nat.zero_le _, Nat.zero_le _⟩ ?_
  refine G_iret (pc := 8) dX4_bentOf_8 rfl ?_
  exact ⟨rfl, rfl, rfl⟩
theorem c_length {E : EV} {M : Nat} {I J : Nat → Nat → Int} {hs : HS} (k a : Nat) (hk : isHouse k) (hM : 71 ≤ M) (hH : HI I k hs) (hB : HB hs) (h1 : a < zA hs) : FnF E mdX4_length 1 M Rf [vr E k, vi (a : Int)] I J (some (vi (hs 7 a : Int))) I J := by
  have hk22 := House_lt hk
  have hsh := House_sh hk
  have r := House_rf hk 7 (by omega)
  have bA := hB.2.1
  have v := hH.2.1 7 (by omega) (by omega) a h1
  refine FnQ.of (by decide +kernel) (Nat.le_of_ble_eq_true rfl) ?_
  show GM E mdX4_length 1 M Rf _ I J 0 [some (vr E k), some (vi (a : Int))] []
  refine G_aload_n (pc := 0) dX4_length_0 rfl ?_
  refine G_getr (pc := 1) dX4_length_1 fiX4_33 (by first | rfl | assumption) (by omega) (by first | rfl | assumption) ?_
  refine G_iload_n (pc := 4) dX4_length_4 rfl ?_
  refine G_callS1 (pc := 5) (md := mdX11_at) (av := [_, _]) dX4_length_5 lkX4_74 mwX11_at (c_atv _ 6 _ _ (House_ar hk _ (by omega)) (by omega) (by omega) (by omega) v) rfl rfl (Nat.le_of_ble_eq_true rfl) (by decide) ⟨Nat.zero_le _, Nat.zero_le _⟩ ?_
  refine G_iret (pc := 8) dX4_length_8 rfl ?_
  exact ⟨rfl, rfl, rfl⟩
theorem c_hasSort {E : EV} {M : Nat} {I J : Nat → Nat → Int} {hs : HS} (k : Nat) (s : Int) (hk : isHouse k) (hM : 71 ≤ M) (hH : HI I k hs) (hB : HB hs) (hs0 : Ri s) : FnF E mdX4_hasSort 0 M Rf [vr E k, vi s] I J (some (vi (bI (0 ≤ s ∧ s < (zS hs : Int))))) I J := by
  have hk22 := House_lt hk
  have hsh := House_sh hk
  have v : I k 8 = (zS hs : Int) := hH.2.2 8 (by omega) (by omega)
  have bS := hB.1
  refine FnQ.of (by decide +kernel) (Nat.le_of_ble_eq_true rfl) ?_
  show GM E mdX4_hasSort 0 M Rf _ I J 0 [some (vr E k), some (vi s)] []
  refine G_iload_n (pc := 0) dX4_hasSort_0 rfl ?_
  refine G_if_lt (pc := 1) (tgt := 16) dX4_hasSort_1 hs0 (by decide) (fun h_1 => ?_) (fun h_1 => ?_)
  · refine G_iconst (pc := 16) dX4_hasSort_16 ?_
    refine G_zret (pc := 17) dX4_hasSort_17 rfl (by omega) ?_
    exact ⟨by first | rw [bI_t (by omega)] | rw [bI_f (by omega)], rfl, rfl⟩
  · refine G_iload_n (pc := 4) dX4_hasSort_4 rfl ?_
    refine G_aload_n (pc := 5) dX4_hasSort_5 rfl ?_
    refine G_geti (pc := 6) dX4_hasSort_6 fiX4_39 (by first | rfl | assumption) (by omega) ?_
    refine G_icmp_ge (pc := 9) (tgt := 16) dX4_hasSort_9 hs0 (Ri.mk (by omega) (by omega)) (by decide) (fun h_9 => ?_) (fun h_9 => ?_)
    · refine G_iconst (pc := 16) dX4_hasSort_16 ?_
      refine G_zret (pc := 17) dX4_hasSort_17 rfl (by omega) ?_
      exact ⟨by first | rw [bI_t (by omega)] | rw [bI_f (by omega)], rfl, rfl⟩
    · refine G_iconst (pc := 12) dX4_hasSort_12 ?_
      refine G_goto (pc := 13) (tgt := 17) dX4_hasSort_13 (by decide) ?_
      refine G_zret (pc := 17) dX4_hasSort_17 rfl (by omega) ?_
      exact ⟨by first | rw [bI_t (by omega)] | rw [bI_f (by omega)], rfl, rfl⟩
theorem c_hasAsk {E : EV} {M : Nat} {I J : Nat → Nat → Int} {hs : HS} (k : Nat) (s : Int) (hk : isHouse k) (hM : 71 ≤ M) (hH : HI I k hs) (hB : HB hs) (hs0 : Ri s) : FnF E mdX4_hasAsk 0 M Rf [vr E k, vi s] I J (some (vi (bI (0 ≤ s ∧ s < (zA hs : Int))))) I J := by
  have hk22 := House_lt hk
  have hsh := House_sh hk
  have v : I k 9 = (zA hs : Int) := hH.2.2 9 (by omega) (by omega)
  have bA := hB.2.1
  refine FnQ.of (by decide +kernel) (Nat.le_of_ble_eq_true rfl) ?_
  show GM E mdX4_hasAsk 0 M Rf _ I J 0 [some (vr E k), some (vi s)] []
  refine G_iload_n (pc := 0) dX4_hasAsk_0 rfl ?_
  refine G_if_lt (pc := 1) (tgt := 16) dX4_hasAsk_1 hs0 (by decide) (fun h_1 => ?_) (fun h_1 => ?_)
  · refine G_iconst (pc := 16) dX4_hasAsk_16 ?_
    refine G_zret (pc := 17) dX4_hasAsk_17 rfl (by omega) ?_
    exact ⟨by first | rw [bI_t (by omega)] | rw [bI_f (by omega)], rfl, rfl⟩
  · refine G_iload_n (pc := 4) dX4_hasAsk_4 rfl ?_
    refine G_aload_n (pc := 5) dX4_hasAsk_5 rfl ?_
    refine G_geti (pc := 6) dX4_hasAsk_6 fiX4_43 (by first | rfl | assumption) (by omega) ?_
    refine G_icmp_ge (pc := 9) (tgt := 16) dX4_hasAsk_9 hs0 (Ri.mk (by omega) (by omega)) (by decide) (fun h_9 => ?_) (fun h_9 => ?_)
    · refine G_iconst (pc := 16) dX4_hasAsk_16 ?_
      refine G_zret (pc := 17) dX4_hasAsk_17 rfl (by omega) ?_
      exact ⟨by first | rw [bI_t (by omega)] | rw [bI_f (by omega)], rfl, rfl⟩
    · refine G_iconst (pc := 12) dX4_hasAsk_12 ?_
      refine G_goto (pc := 13) (tgt := 17) dX4_hasAsk_13 (by decide) ?_
      refine G_zret (pc := 17) dX4_hasAsk_17 rfl (by omega) ?_
      exact ⟨by first | rw [bI_t (by omega)] | rw [bI_f (by omega)], rfl, rfl⟩
theorem c_put {E : EV} {M : Nat} {R : Nat → Nat → Option Nat} {I J : Nat → Nat → Int} (q z x : Nat) (a b : Int) (hs : shp q = .inr (0, z)) (hq : q < M) (hz : z < 2147483648) (hx : x < z) (ha : a = x) : FnF E mdX11_put 0 M R [vr E q, vi a, vi b] I J none (wr I q x b) J := by
  subst ha
  refine FnQ.of (by decide +kernel) (Nat.le_of_ble_eq_true rfl) ?_
  show GM E mdX11_put 0 M R _ I J 0 [some (vr E q), some (vi (x : Int)), some (vi b)] []
  refine G_iload_n (pc := 0) dX11_put_0 rfl ?_
  refine G_if_lt (pc := 1) (tgt := 14) dX11_put_1 (Ri.mk (by omega) (by omega)) (by decide) (fun h_1 => ?_) (fun h_1 => ?_)
  · exact absurd h_1 (by omega)
  · refine G_iload_n (pc := 4) dX11_put_4 rfl ?_
    refine G_aload_n (pc := 5) dX11_put_5 rfl ?_
    refine G_alen (pc := 6) dX11_put_6 (by first | rfl | assumption) (by decide) (by omega) ?_
    refine G_icmp_ge (pc := 7) (tgt := 14) dX11_put_7 (Ri.mk (by omega) (by omega)) (Ri.mk (by omega) (by omega)) (by decide) (fun h_7 => ?_) (fun h_7 => ?_)
    · exact absurd h_7 (by omega)
    · refine G_aload_n (pc := 10) dX11_put_10 rfl ?_
      refine G_iload_n (pc := 11) dX11_put_11 rfl ?_
      refine G_iload_n (pc := 12) dX11_put_12 rfl ?_
      refine G_iast (pc := 13) dX11_put_13 (by first | rfl | assumption) (by omega) (by omega) (by omega) (by omega) ?_
      refine G_vret (pc := 14) dX11_put_14 rfl ?_
      exact ⟨rfl, by rw [Int.toNat_natCast], rfl⟩
theorem c_easedBySugar {E : EV} {M : Nat} {I J : Nat → Nat → Int} {hs : HS} (k : Nat) (hk : isHouse k) (hM : 71 ≤ M) (hH : HI I k hs) (hB : HB hs) : FnF E mdX4_easedBySugar 0 M Rf [vr E k] I J (some (vi ((hs 12 0 * hs 13 0 / 10 : Nat) : Int))) I J := by
  have hk22 := House_lt hk
  have hsh := House_sh hk
  have v1 := hH.2.2 12 (by omega) (by omega)
  have v2 := hH.2.2 13 (by omega) (by omega)
  obtain ⟨-, -, -, -, -, -, -, b1, b2⟩ := hB
  have b3 := Nat.mul_le_mul b1 b2
  refine FnQ.of (by decide +kernel) (Nat.le_of_ble_eq_true rfl) ?_
  show GM E mdX4_easedBySugar 0 M Rf _ I J 0 [some (vr E k)] []
  refine G_aload_n (pc := 0) dX4_easedBySugar_0 rfl ?_
  refine G_geti (pc := 1) dX4_easedBySugar_1 fiX4_60 (by first | rfl | assumption) (by omega) ?_
  refine G_aload_n (pc := 4) dX4_easedBySugar_4 rfl ?_
  refine G_geti (pc := 5) dX4_easedBySugar_5 fiX4_63 (by first | rfl | assumption) (by omega) ?_
  refine G_imul (pc := 8) dX4_easedBySugar_8 ?_
  refine G_bipush (pc := 9) dX4_easedBySugar_9 (by decide) ?_
  rw [v1, v2, ← Int.natCast_mul]
  refine G_idiv (pc := 11) dX4_easedBySugar_11 (Ri.mk (by omega) (by omega)) (Ri.mk (by omega) (by omega)) (by omega) ?_
  refine G_iret (pc := 12) dX4_easedBySugar_12 rfl ?_
  exact ⟨by rw [Int.natCast_ediv]; rfl, rfl, rfl⟩
theorem c_setMan {E : EV} {M : Nat} {R : Nat → Nat → Option Nat} {I J : Nat → Nat → Int} (k : Nat) (a : Int) (hk : isHouse k) (hM : k < M) (ha : Ri a) : FnF E mdX4_setMan 1 M R [vr E k, vi a] I J (some (vi (bI (0 ≤ a ∧ a ≤ 10)))) (if 0 ≤ a ∧ a ≤ 10 then wr I k 11 a else I) J := by
  have hsh := House_sh hk
  refine FnQ.of (by decide +kernel) (Nat.le_of_ble_eq_true rfl) ?_
  show GM E mdX4_setMan 1 M R _ I J 0 [some (vr E k), some (vi a)] []
  refine G_iload_n (pc := 0) dX4_setMan_0 rfl ?_
  refine G_iconst (pc := 1) dX4_setMan_1 ?_
  refine G_bipush (pc := 2) dX4_setMan_2 (by decide) ?_
  refine G_callS1 (pc := 4) (md := mdX11_within) (av := [_, _, _]) dX4_setMan_4 lkX4_66 mwX11_within (c_within _ _ _ ha (Ri.mk (by omega) (by omega)) (Ri.mk (by omega) (by omega))) rfl rfl (Nat.le_of_ble_eq_true rfl) (by decide) ⟨Nat.zero_le _, Nat.zero_le _⟩ ?_
  refine G_if_ne (pc := 7) (tgt := 12) dX4_setMan_7 bI_R (by decide) (fun h_7 => ?_) (fun h_7 => ?_)
  · try simp only [bI_eq0, bI_ne0] at h_7
    refine G_aload_n (pc := 12) dX4_setMan_12 rfl ?_
    refine G_iload_n (pc := 13) dX4_setMan_13 rfl ?_
    refine G_puti (pc := 14) dX4_setMan_14 fiX4_49 (by first | rfl | assumption) (by omega) ?_
    refine G_iconst (pc := 17) dX4_setMan_17 ?_
    refine G_zret (pc := 18) dX4_setMan_18 rfl (by omega) ?_
    exact ⟨by first | rw [bI_t (by omega)] | rw [bI_f (by omega)], by first | rw [if_pos (by omega)] | rw [if_neg (by omega)], rfl⟩
  · try simp only [bI_eq0, bI_ne0] at h_7
    refine G_iconst (pc := 10) dX4_setMan_10 ?_
    refine G_zret (pc := 11) dX4_setMan_11 rfl (by omega) ?_
    exact ⟨by first | rw [bI_t (by omega)] | rw [bI_f (by omega)], by first | rw [if_pos (by omega)] | rw [if_neg (by omega)], rfl⟩
theorem c_setPain {E : EV} {M : Nat} {R : Nat → Nat → Option Nat} {I J : Nat → Nat → Int} (k : Nat) (a b : Int) (hk : isHouse k) (hM : k < M) (ha : Ri a) (hb : Ri b) : FnF E mdX4_setPain 1 M R [vr E k, vi a, vi b] I J (some (vi (bI ((0 ≤ a ∧ a ≤ 99) ∧ 0 ≤ b ∧ b ≤ 10)))) (if (0 ≤ a ∧ a ≤ 99) ∧ 0 ≤ b ∧ b ≤ 10 then wr (wr I k 12 a) k 13 b else I) J := by
  have hsh := House_sh hk
  refine FnQ.of (by decide +kernel) (Nat.le_of_ble_eq_true rfl) ?_
  show GM E mdX4_setPain 1 M R _ I J 0 [some (vr E k), some (vi a), some (vi b)] []
  refine G_iload_n (pc := 0) dX4_setPain_0 rfl ?_
  refine G_iconst (pc := 1) dX4_setPain_1 ?_
  refine G_bipush (pc := 2) dX4_setPain_2 (by decide) ?_
  refine G_callS1 (pc := 4) (md := mdX11_within) (av := [_, _, _]) dX4_setPain_4 lkX4_66 mwX11_within (c_within _ _ _ ha (Ri.mk (by omega) (by omega)) (Ri.mk (by omega) (by omega))) rfl rfl (Nat.le_of_ble_eq_true rfl) (by decide) ⟨Nat.zero_le _, Nat.zero_le _⟩ ?_
  refine G_if_eq (pc := 7) (tgt := 20) dX4_setPain_7 bI_R (by decide) (fun h_7 => ?_) (fun h_7 => ?_)
  · try simp only [bI_eq0, bI_ne0] at h_7
    refine G_iconst (pc := 20) dX4_setPain_20 ?_
    refine G_zret (pc := 21) dX4_setPain_21 rfl (by omega) ?_
    exact ⟨by first | rw [bI_t (by omega)] | rw [bI_f (by omega)], by first | rw [if_pos (by omega)] | rw [if_neg (by omega)], rfl⟩
  · try simp only [bI_eq0, bI_ne0] at h_7
    refine G_iload_n (pc := 10) dX4_setPain_10 rfl ?_
    refine G_iconst (pc := 11) dX4_setPain_11 ?_
    refine G_bipush (pc := 12) dX4_setPain_12 (by decide) ?_
    refine G_callS1 (pc := 14) (md := mdX11_within) (av := [_, _, _]) dX4_setPain_14 lkX4_66 mwX11_within (c_within _ _ _ hb (Ri.mk (by omega) (by omega)) (Ri.mk (by omega) (by omega))) rfl rfl (Nat.le_of_ble_eq_true rfl) (by decide) ⟨Nat.zero_le _, Nat.zero_le _⟩ ?_
    refine G_if_ne (pc := 17) (tgt := 22) dX4_setPain_17 bI_R (by decide) (fun h_17 => ?_) (fun h_17 => ?_)
    · try simp only [bI_eq0, bI_ne0] at h_17
      refine G_aload_n (pc := 22) dX4_setPain_22 rfl ?_
      refine G_iload_n (pc := 23) dX4_setPain_23 rfl ?_
      refine G_puti (pc := 24) dX4_setPain_24 fiX4_60 (by first | rfl | assumption) (by omega) ?_
      refine G_aload_n (pc := 27) dX4_setPain_27 rfl ?_
      refine G_iload_n (pc := 28) dX4_setPain_28 rfl ?_
      refine G_puti (pc := 29) dX4_setPain_29 fiX4_63 (by first | rfl | assumption) (by omega) ?_
      refine G_iconst (pc := 32) dX4_setPain_32 ?_
      refine G_zret (pc := 33) dX4_setPain_33 rfl (by omega) ?_
      exact ⟨by first | rw [bI_t (by omega)] | rw [bI_f (by omega)], by first | rw [if_pos (by omega)] | rw [if_neg (by omega)], rfl⟩
    · try simp only [bI_eq0, bI_ne0] at h_17
      refine G_iconst (pc := 20) dX4_setPain_20 ?_
      refine G_zret (pc := 21) dX4_setPain_21 rfl (by omega) ?_
      exact ⟨by first | rw [bI_t (by omega)] | rw [bI_f (by omega)], by first | rw [if_pos (by omega)] | rw [if_neg (by omega)], rfl⟩
theorem c_clear {E : EV} {M : Nat} {R : Nat → Nat → Option Nat} {I J : Nat → Nat → Int} (k : Nat) (hk : isHouse k) (hM : k < M) : FnF E mdX4_clear 2 M R [vr E k] I J none (wr (wr (wr (wr (wr (wr I k 8 0) k 9 0) k 10 0) k 11 1) k 12 50) k 13 2) J := by
  have hsh := House_sh hk
  refine FnQ.of (by decide +kernel) (Nat.le_of_ble_eq_true rfl) ?_
  show GM E mdX4_clear 2 M R _ I J 0 [some (vr E k)] []
  refine G_aload_n (pc := 0) dX4_clear_0 rfl ?_
  refine G_iconst (pc := 1) dX4_clear_1 ?_
  refine G_puti (pc := 2) dX4_clear_2 fiX4_39 (by first | rfl | assumption) (by omega) ?_
  refine G_aload_n (pc := 5) dX4_clear_5 rfl ?_
  refine G_iconst (pc := 6) dX4_clear_6 ?_
  refine G_puti (pc := 7) dX4_clear_7 fiX4_43 (by first | rfl | assumption) (by omega) ?_
  refine G_aload_n (pc := 10) dX4_clear_10 rfl ?_
  refine G_iconst (pc := 11) dX4_clear_11 ?_
  refine G_puti (pc := 12) dX4_clear_12 fiX4_46 (by first | rfl | assumption) (by omega) ?_
  refine G_aload_n (pc := 15) dX4_clear_15 rfl ?_
  refine G_iconst (pc := 16) dX4_clear_16 ?_
  refine G_puti (pc := 17) dX4_clear_17 fiX4_49 (by first | rfl | assumption) (by omega) ?_
  refine G_aload_n (pc := 20) dX4_clear_20 rfl ?_
  refine G_bipush (pc := 21) dX4_clear_21 (by decide) ?_
  refine G_iconst (pc := 23) dX4_clear_23 ?_
  refine G_callV1 (pc := 24) (md := mdX4_setPain) (av := [_, _]) dX4_clear_24 lkX4_52 mwX4_setPain (c_setPain k 50 2 hk hM (Ri.mk (by omega) (by omega)) (Ri.mk (by omega) (by omega))) rfl (by first | rfl | assumption) (by omega) rfl rfl (Nat.le_of_ble_eq_true rfl) (by decide) ⟨Nat.zero_le _, Nat.zero_le _⟩ ?_
  refine G_pop (pc := 27) dX4_clear_27 rfl ?_
  refine G_vret (pc := 28) dX4_clear_28 rfl ?_
  exact ⟨rfl, by rw [if_pos (by omega)], rfl⟩
theorem c_copyRow {E : EV} {M : Nat} {R : Nat → Nat → Option Nat} {I J : Nat → Nat → Int} (q r z : Nat) (hs : shp q = .inr (0, z)) (hs2 : shp r = .inr (0, z)) (hq : q < M) (hr : r < M) (hz : z < 2147483648) (hne : q ≠ r) : FnF E mdX11_copyRow 1 M R [vr E q, vr E r] I J none (cpR I q r z) J := by
  refine FnQ.of (by decide +kernel) (Nat.le_of_ble_eq_true rfl) ?_
  show GM E mdX11_copyRow 1 M R _ I J 0 [some (vr E q), some (vr E r), none] []
  have loop : ∀ (n i : Nat), i + n = z → GM E mdX11_copyRow 1 M R (QF none (cpR I q r z) J) (cpR I q r i) J 2 [some (vr E q), some (vr E r), some (vi (i : Int))] [] := by
    intro n
    induction n with
    | zero =>
      intro i hi
      have hi : i = z := by omega
      subst hi
      refine G_iload_n (pc := 2) dX11_copyRow_2 rfl ?_
      refine G_aload_n (pc := 3) dX11_copyRow_3 rfl ?_
      refine G_alen (pc := 4) dX11_copyRow_4 (by first | rfl | assumption) (by decide) (by omega) ?_
      refine G_icmp_ge (pc := 5) (tgt := 22) dX11_copyRow_5 (Ri.mk (by omega) (by omega)) (Ri.mk (by omega) (by omega)) (by decide) (fun h_5 => ?_) (fun h_5 => ?_)
      · refine G_vret (pc := 22) dX11_copyRow_22 rfl ?_
        exact ⟨rfl, rfl, rfl⟩
      · exact absurd h_5 (by omega)
    | succ n ih =>
      intro i hi
      refine G_iload_n (pc := 2) dX11_copyRow_2 rfl ?_
      refine G_aload_n (pc := 3) dX11_copyRow_3 rfl ?_
      refine G_alen (pc := 4) dX11_copyRow_4 (by first | rfl | assumption) (by decide) (by omega) ?_
      refine G_icmp_ge (pc := 5) (tgt := 22) dX11_copyRow_5 (Ri.mk (by omega) (by omega)) (Ri.mk (by omega) (by omega)) (by decide) (fun h_5 => ?_) (fun h_5 => ?_)
      · exact absurd h_5 (by omega)
      · refine G_aload_n (pc := 8) dX11_copyRow_8 rfl ?_
        refine G_iload_n (pc := 9) dX11_copyRow_9 rfl ?_
        refine G_aload_n (pc := 10) dX11_copyRow_10 rfl ?_
        refine G_iload_n (pc := 11) dX11_copyRow_11 rfl ?_
        refine G_callS1 (pc := 12) (md := mdX11_at) (av := [_, _]) dX11_copyRow_12 lkX11_271 mwX11_at (c_atv r z i _ hs2 hr hz (by omega) rfl) rfl rfl (Nat.le_of_ble_eq_true rfl) (by decide) ⟨Nat.zero_le _, Nat.zero_le _⟩ ?_
        refine G_iast (pc := 15) dX11_copyRow_15 (by first | rfl | assumption) (by omega) (by omega) (by omega) (by omega) ?_
        refine G_iinc (pc := 16) (lv' := [_, _, _]) dX11_copyRow_16 (by decide) rfl rfl ?_
        refine G_goto (pc := 19) (tgt := 2) dX11_copyRow_19 (by decide) ?_
        refine G_eq ?_ rfl ?_ rfl (ih (i + 1) (by omega))
        · rw [Int.toNat_natCast]; exact cpR_n hne
        · rfl
  refine G_iconst (pc := 0) dX11_copyRow_0 ?_
  refine G_istore_n (pc := 1) (lv' := [_, _, _]) dX11_copyRow_1 (by decide) rfl ?_
  exact G_eq (cpR_0 I q r).symm rfl rfl rfl (loop z 0 (by omega))
theorem c_addSort {E : EV} {M : Nat} {I J : Nat → Nat → Int} {hs : HS} (k b w f g : Nat) (hk : isHouse k) (hM : 71 ≤ M) (hH : HI I k hs) (hB : HB hs) (hb : b < 2147483000) (hw : w < 2147483000) (hf : f < 2147483000) (hg : g < 2147483000) : FnQ E mdX4_addSort 1 M Rf [vr E k, vi (b : Int), vi (w : Int), vi (f : Int), vi (g : Int)] I J (fun v I' J' => J' = J ∧ ((okS hs b w f g ∧ v = some (vi 1) ∧ HI I' k (addSortH hs b w f g) ∧ Off I I' k (k + 8)) ∨ (¬ okS hs b w f g ∧ v = some (vi 0) ∧ I' = I))) := by
  have hk22 := House_lt hk
  have hsh := House_sh hk
  have r0 := House_rf hk 0 (by omega)
  have r1 := House_rf hk 1 (by omega)
  have r2 := House_rf hk 2 (by omega)
  have r3 := House_rf hk 3 (by omega)
  have v8 : I k 8 = (zS hs : Int) := hH.2.2 8 (by omega) (by omega)
  have v10 : I k 10 = (zN hs : Int) := hH.2.2 10 (by omega) (by omega)
  have bS := hB.1
  have bN := hB.2.2.1
  refine FnQ.of (by decide +kernel) (Nat.le_of_ble_eq_true rfl) ?_
  show GM E mdX4_addSort 1 M Rf _ I J 0 [some (vr E k), some (vi (b : Int)), some (vi (w : Int)), some (vi (f : Int)), some (vi (g : Int))] []
  refine G_aload_n (pc := 0) dX4_addSort_0 rfl ?_
  refine G_geti (pc := 1) dX4_addSort_1 fiX4_39 (by first | rfl | assumption) (by omega) ?_
  refine G_bipush (pc := 4) dX4_addSort_4 (by decide) ?_
  refine G_icmp_eq (pc := 6) (tgt := 61) dX4_addSort_6 (by first | exact bI_R | exact Ri.mk (by omega) (by omega)) (Ri.mk (by omega) (by omega)) (by decide) (fun h_6 => ?_) (fun h_6 => ?_)
  · refine G_iconst (pc := 61) dX4_addSort_61 ?_
    refine G_zret (pc := 62) dX4_addSort_62 rfl (by omega) ?_
    exact ⟨rfl, Or.inr ⟨by unfold okS; omega, rfl, rfl⟩⟩
  · refine G_iload_n (pc := 9) dX4_addSort_9 rfl ?_
    refine G_iconst (pc := 10) dX4_addSort_10 ?_
    refine G_bipush (pc := 11) dX4_addSort_11 (by decide) ?_
    refine G_callS1 (pc := 13) (md := mdX11_within) (av := [_, _, _]) dX4_addSort_13 lkX4_66 mwX11_within (c_within _ _ _ (Ri.mk (by omega) (by omega)) (Ri.mk (by omega) (by omega)) (Ri.mk (by omega) (by omega))) rfl rfl (Nat.le_of_ble_eq_true rfl) (by decide) ⟨Nat.zero_le _, Nat.zero_le _⟩ ?_
    refine G_if_eq (pc := 16) (tgt := 61) dX4_addSort_16 (by first | exact bI_R | exact Ri.mk (by omega) (by omega)) (by decide) (fun h_16 => ?_) (fun h_16 => ?_)
    · try simp only [bI_eq0, bI_ne0] at h_16
      refine G_iconst (pc := 61) dX4_addSort_61 ?_
      refine G_zret (pc := 62) dX4_addSort_62 rfl (by omega) ?_
      exact ⟨rfl, Or.inr ⟨by unfold okS; omega, rfl, rfl⟩⟩
    · try simp only [bI_eq0, bI_ne0] at h_16
      refine G_aload_n (pc := 19) dX4_addSort_19 rfl ?_
      refine G_geti (pc := 20) dX4_addSort_20 fiX4_46 (by first | rfl | assumption) (by omega) ?_
      refine G_iload_n (pc := 23) dX4_addSort_23 rfl ?_
      refine G_iadd (pc := 24) dX4_addSort_24 ?_
      refine G_bipush (pc := 25) dX4_addSort_25 (by decide) ?_
      refine G_icmp_gt (pc := 27) (tgt := 61) dX4_addSort_27 (by first | exact bI_R | exact Ri.mk (by omega) (by omega)) (Ri.mk (by omega) (by omega)) (by decide) (fun h_27 => ?_) (fun h_27 => ?_)
      · refine G_iconst (pc := 61) dX4_addSort_61 ?_
        refine G_zret (pc := 62) dX4_addSort_62 rfl (by omega) ?_
        exact ⟨rfl, Or.inr ⟨by unfold okS; omega, rfl, rfl⟩⟩
      · refine G_iload_n (pc := 30) dX4_addSort_30 rfl ?_
        refine G_iconst (pc := 31) dX4_addSort_31 ?_
        refine G_bipush (pc := 32) dX4_addSort_32 (by decide) ?_
        refine G_callS1 (pc := 34) (md := mdX11_within) (av := [_, _, _]) dX4_addSort_34 lkX4_66 mwX11_within (c_within _ _ _ (Ri.mk (by omega) (by omega)) (Ri.mk (by omega) (by omega)) (Ri.mk (by omega) (by omega))) rfl rfl (Nat.le_of_ble_eq_true rfl) (by decide) ⟨Nat.zero_le _, Nat.zero_le _⟩ ?_
        refine G_if_eq (pc := 37) (tgt := 61) dX4_addSort_37 (by first | exact bI_R | exact Ri.mk (by omega) (by omega)) (by decide) (fun h_37 => ?_) (fun h_37 => ?_)
        · try simp only [bI_eq0, bI_ne0] at h_37
          refine G_iconst (pc := 61) dX4_addSort_61 ?_
          refine G_zret (pc := 62) dX4_addSort_62 rfl (by omega) ?_
          exact ⟨rfl, Or.inr ⟨by unfold okS; omega, rfl, rfl⟩⟩
        · try simp only [bI_eq0, bI_ne0] at h_37
          refine G_iload_n (pc := 40) dX4_addSort_40 rfl ?_
          refine G_iconst (pc := 41) dX4_addSort_41 ?_
          refine G_bipush (pc := 42) dX4_addSort_42 (by decide) ?_
          refine G_callS1 (pc := 44) (md := mdX11_within) (av := [_, _, _]) dX4_addSort_44 lkX4_66 mwX11_within (c_within _ _ _ (Ri.mk (by omega) (by omega)) (Ri.mk (by omega) (by omega)) (Ri.mk (by omega) (by omega))) rfl rfl (Nat.le_of_ble_eq_true rfl) (by decide) ⟨Nat.zero_le _, Nat.zero_le _⟩ ?_
          refine G_if_eq (pc := 47) (tgt := 61) dX4_addSort_47 (by first | exact bI_R | exact Ri.mk (by omega) (by omega)) (by decide) (fun h_47 => ?_) (fun h_47 => ?_)
          · try simp only [bI_eq0, bI_ne0] at h_47
            refine G_iconst (pc := 61) dX4_addSort_61 ?_
            refine G_zret (pc := 62) dX4_addSort_62 rfl (by omega) ?_
            exact ⟨rfl, Or.inr ⟨by unfold okS; omega, rfl, rfl⟩⟩
          · try simp only [bI_eq0, bI_ne0] at h_47
            refine G_iload (pc := 50) dX4_addSort_50 rfl ?_
            refine G_iconst (pc := 52) dX4_addSort_52 ?_
            refine G_bipush (pc := 53) dX4_addSort_53 (by decide) ?_
            refine G_callS1 (pc := 55) (md := mdX11_within) (av := [_, _, _]) dX4_addSort_55 lkX4_66 mwX11_within (c_within _ _ _ (Ri.mk (by omega) (by omega)) (Ri.mk (by omega) (by omega)) (Ri.mk (by omega) (by omega))) rfl rfl (Nat.le_of_ble_eq_true rfl) (by decide) ⟨Nat.zero_le _, Nat.zero_le _⟩ ?_
            refine G_if_ne (pc := 58) (tgt := 63) dX4_addSort_58 (by first | exact bI_R | exact Ri.mk (by omega) (by omega)) (by decide) (fun h_58 => ?_) (fun h_58 => ?_)
            · try simp only [bI_eq0, bI_ne0] at h_58
              refine G_aload_n (pc := 63) dX4_addSort_63 rfl ?_
              refine G_getr (pc := 64) dX4_addSort_64 fiX4_9 (by first | rfl | assumption) (by omega) (by first | rfl | assumption) ?_
              refine G_aload_n (pc := 67) dX4_addSort_67 rfl ?_
              refine G_geti (pc := 68) dX4_addSort_68 fiX4_39 (by first | rfl | assumption) (by omega) ?_
              refine G_iload_n (pc := 71) dX4_addSort_71 rfl ?_
              refine G_callS0 (pc := 72) (md := mdX11_put) (av := [_, _, _]) dX4_addSort_72 lkX4_70 mwX11_put (c_put _ 6 (zS hs) _ _ (House_ar hk _ (by omega)) (by omega) (by omega) (by omega) (by first | exact v8 | (simp (disch := omega) only [wr_o]; exact v8))) rfl rfl (Nat.le_of_ble_eq_true rfl) (by decide) ⟨Nat.zero_le _, Nat.zero_le _⟩ ?_
              refine G_aload_n (pc := 75) dX4_addSort_75 rfl ?_
              refine G_getr (pc := 76) dX4_addSort_76 fiX4_15 (by first | rfl | assumption) (by omega) (by first | rfl | assumption) ?_
              refine G_aload_n (pc := 79) dX4_addSort_79 rfl ?_
              refine G_geti (pc := 80) dX4_addSort_80 fiX4_39 (by first | rfl | assumption) (by omega) ?_
              refine G_iload_n (pc := 83) dX4_addSort_83 rfl ?_
              refine G_callS0 (pc := 84) (md := mdX11_put) (av := [_, _, _]) dX4_addSort_84 lkX4_70 mwX11_put (c_put _ 6 (zS hs) _ _ (House_ar hk _ (by omega)) (by omega) (by omega) (by omega) (by first | exact v8 | (simp (disch := omega) only [wr_o]; exact v8))) rfl rfl (Nat.le_of_ble_eq_true rfl) (by decide) ⟨Nat.zero_le _, Nat.zero_le _⟩ ?_
              refine G_aload_n (pc := 87) dX4_addSort_87 rfl ?_
              refine G_getr (pc := 88) dX4_addSort_88 fiX4_18 (by first | rfl | assumption) (by omega) (by first | rfl | assumption) ?_
              refine G_aload_n (pc := 91) dX4_addSort_91 rfl ?_
              refine G_geti (pc := 92) dX4_addSort_92 fiX4_39 (by first | rfl | assumption) (by omega) ?_
              refine G_iload_n (pc := 95) dX4_addSort_95 rfl ?_
              refine G_callS0 (pc := 96) (md := mdX11_put) (av := [_, _, _]) dX4_addSort_96 lkX4_70 mwX11_put (c_put _ 6 (zS hs) _ _ (House_ar hk _ (by omega)) (by omega) (by omega) (by omega) (by first | exact v8 | (simp (disch := omega) only [wr_o]; exact v8))) rfl rfl (Nat.le_of_ble_eq_true rfl) (by decide) ⟨Nat.zero_le _, Nat.zero_le _⟩ ?_
              refine G_aload_n (pc := 99) dX4_addSort_99 rfl ?_
              refine G_getr (pc := 100) dX4_addSort_100 fiX4_21 (by first | rfl | assumption) (by omega) (by first | rfl | assumption) ?_
              refine G_aload_n (pc := 103) dX4_addSort_103 rfl ?_
              refine G_geti (pc := 104) dX4_addSort_104 fiX4_39 (by first | rfl | assumption) (by omega) ?_
              refine G_iload (pc := 107) dX4_addSort_107 rfl ?_
              refine G_callS0 (pc := 109) (md := mdX11_put) (av := [_, _, _]) dX4_addSort_109 lkX4_70 mwX11_put (c_put _ 6 (zS hs) _ _ (House_ar hk _ (by omega)) (by omega) (by omega) (by omega) (by first | exact v8 | (simp (disch := omega) only [wr_o]; exact v8))) rfl rfl (Nat.le_of_ble_eq_true rfl) (by decide) ⟨Nat.zero_le _, Nat.zero_le _⟩ ?_
              refine G_aload_n (pc := 112) dX4_addSort_112 rfl ?_
              refine G_dup (pc := 113) dX4_addSort_113 rfl ?_
              refine G_geti (pc := 114) dX4_addSort_114 fiX4_39 (by first | rfl | assumption) (by omega) ?_
              refine G_iconst (pc := 117) dX4_addSort_117 ?_
              refine G_iadd (pc := 118) dX4_addSort_118 ?_
              refine G_puti (pc := 119) dX4_addSort_119 fiX4_39 (by first | rfl | assumption) (by omega) ?_
              refine G_aload_n (pc := 122) dX4_addSort_122 rfl ?_
              refine G_dup (pc := 123) dX4_addSort_123 rfl ?_
              refine G_geti (pc := 124) dX4_addSort_124 fiX4_46 (by first | rfl | assumption) (by omega) ?_
              refine G_iload_n (pc := 127) dX4_addSort_127 rfl ?_
              refine G_iadd (pc := 128) dX4_addSort_128 ?_
              refine G_puti (pc := 129) dX4_addSort_129 fiX4_46 (by first | rfl | assumption) (by omega) ?_
              refine G_iconst (pc := 132) dX4_addSort_132 ?_
              refine G_zret (pc := 133) dX4_addSort_133 rfl (by omega) ?_
              have e8 : zS (addSortH hs b w f g) = zS hs + 1 := rfl
              refine ⟨rfl, Or.inl ⟨by unfold okS; omega, rfl, ⟨fun i hi x hx => ?_, fun i h4 hi x hx => ?_, fun i h8 hi => ?_⟩, ?_⟩⟩
              · rw [e8] at hx
                have hold := fun h => hH.1 i hi x h
                rcases (show i = 0 ∨ i = 1 ∨ i = 2 ∨ i = 3 by omega) with rfl | rfl | rfl | rfl <;> simp (disch := omega) only [wr_o] <;> by_cases e : x = zS hs <;> simp [wr, addSortH, e] <;> exact hold (by omega)
              · have hold := hH.2.1 i h4 hi x hx
                simp (disch := omega) only [wr_o]
                rw [hold]; simp [addSortH, show ¬ i < 4 by omega, show i ≠ 8 by omega, show i ≠ 10 by omega]
              · have hold := hH.2.2 i h8 hi
                by_cases e : i = 8
                · subst e; simp (disch := omega) only [wr_n, wr_s, wr_o]; rw [v8]; simp [addSortH]
                · by_cases e2 : i = 10
                  · subst e2; simp (disch := omega) only [wr_n, wr_s, wr_o]; rw [v10]; simp [addSortH]
                  · simp (disch := omega) only [wr_n, wr_s, wr_o]; rw [hold]; simp [e, e2, addSortH, show ¬ i < 4 by omega]
              · intro q hq
                simp (disch := omega) only [wr_o]
            · try simp only [bI_eq0, bI_ne0] at h_58
              refine G_iconst (pc := 61) dX4_addSort_61 ?_
              refine G_zret (pc := 62) dX4_addSort_62 rfl (by omega) ?_
              exact ⟨rfl, Or.inr ⟨by unfold okS; omega, rfl, rfl⟩⟩
theorem c_addAsk {E : EV} {M : Nat} {I J : Nat → Nat → Int} {hs : HS} (k b w f g : Nat) (hk : isHouse k) (hM : 71 ≤ M) (hH : HI I k hs) (hB : HB hs) (hb : b < 2147483000) (hw : w < 2147483000) (hf : f < 2147483000) (hg : g < 2147483000) : FnQ E mdX4_addAsk 1 M Rf [vr E k, vi (b : Int), vi (w : Int), vi (f : Int), vi (g : Int)] I J (fun v I' J' => J' = J ∧ ((okA hs b w f g ∧ v = some (vi 1) ∧ HI I' k (addAskH hs b w f g) ∧ Off I I' k (k + 8)) ∨ (¬ okA hs b w f g ∧ v = some (vi 0) ∧ I' = I))) := by
  have hk22 := House_lt hk
  have hsh := House_sh hk
  have r4 := House_rf hk 4 (by omega)
  have r5 := House_rf hk 5 (by omega)
  have r6 := House_rf hk 6 (by omega)
  have r7 := House_rf hk 7 (by omega)
  have v9 : I k 9 = (zA hs : Int) := hH.2.2 9 (by omega) (by omega)
  have bA := hB.2.1
  refine FnQ.of (by decide +kernel) (Nat.le_of_ble_eq_true rfl) ?_
  show GM E mdX4_addAsk 1 M Rf _ I J 0 [some (vr E k), some (vi (b : Int)), some (vi (w : Int)), some (vi (f : Int)), some (vi (g : Int))] []
  refine G_aload_n (pc := 0) dX4_addAsk_0 rfl ?_
  refine G_geti (pc := 1) dX4_addAsk_1 fiX4_43 (by first | rfl | assumption) (by omega) ?_
  refine G_bipush (pc := 4) dX4_addAsk_4 (by decide) ?_
  refine G_icmp_eq (pc := 6) (tgt := 50) dX4_addAsk_6 (by first | exact bI_R | exact Ri.mk (by omega) (by omega)) (Ri.mk (by omega) (by omega)) (by decide) (fun h_6 => ?_) (fun h_6 => ?_)
  · refine G_iconst (pc := 50) dX4_addAsk_50 ?_
    refine G_zret (pc := 51) dX4_addAsk_51 rfl (by omega) ?_
    exact ⟨rfl, Or.inr ⟨by unfold okA; omega, rfl, rfl⟩⟩
  · refine G_iload (pc := 9) dX4_addAsk_9 rfl ?_
    refine G_iconst (pc := 11) dX4_addAsk_11 ?_
    refine G_bipush (pc := 12) dX4_addAsk_12 (by decide) ?_
    refine G_callS1 (pc := 14) (md := mdX11_within) (av := [_, _, _]) dX4_addAsk_14 lkX4_66 mwX11_within (c_within _ _ _ (Ri.mk (by omega) (by omega)) (Ri.mk (by omega) (by omega)) (Ri.mk (by omega) (by omega))) rfl rfl (Nat.le_of_ble_eq_true rfl) (by decide) ⟨Nat.zero_le _, Nat.zero_le _⟩ ?_
    refine G_if_eq (pc := 17) (tgt := 50) dX4_addAsk_17 (by first | exact bI_R | exact Ri.mk (by omega) (by omega)) (by decide) (fun h_17 => ?_) (fun h_17 => ?_)
    · try simp only [bI_eq0, bI_ne0] at h_17
      refine G_iconst (pc := 50) dX4_addAsk_50 ?_
      refine G_zret (pc := 51) dX4_addAsk_51 rfl (by omega) ?_
      exact ⟨rfl, Or.inr ⟨by unfold okA; omega, rfl, rfl⟩⟩
    · try simp only [bI_eq0, bI_ne0] at h_17
      refine G_iload_n (pc := 20) dX4_addAsk_20 rfl ?_
      refine G_iconst (pc := 21) dX4_addAsk_21 ?_
      refine G_bipush (pc := 22) dX4_addAsk_22 (by decide) ?_
      refine G_callS1 (pc := 24) (md := mdX11_within) (av := [_, _, _]) dX4_addAsk_24 lkX4_66 mwX11_within (c_within _ _ _ (Ri.mk (by omega) (by omega)) (Ri.mk (by omega) (by omega)) (Ri.mk (by omega) (by omega))) rfl rfl (Nat.le_of_ble_eq_true rfl) (by decide) ⟨Nat.zero_le _, Nat.zero_le _⟩ ?_
      refine G_if_eq (pc := 27) (tgt := 50) dX4_addAsk_27 (by first | exact bI_R | exact Ri.mk (by omega) (by omega)) (by decide) (fun h_27 => ?_) (fun h_27 => ?_)
      · try simp only [bI_eq0, bI_ne0] at h_27
        refine G_iconst (pc := 50) dX4_addAsk_50 ?_
        refine G_zret (pc := 51) dX4_addAsk_51 rfl (by omega) ?_
        exact ⟨rfl, Or.inr ⟨by unfold okA; omega, rfl, rfl⟩⟩
      · try simp only [bI_eq0, bI_ne0] at h_27
        refine G_iload_n (pc := 30) dX4_addAsk_30 rfl ?_
        refine G_iconst (pc := 31) dX4_addAsk_31 ?_
        refine G_bipush (pc := 32) dX4_addAsk_32 (by decide) ?_
        refine G_callS1 (pc := 34) (md := mdX11_within) (av := [_, _, _]) dX4_addAsk_34 lkX4_66 mwX11_within (c_within _ _ _ (Ri.mk (by omega) (by omega)) (Ri.mk (by omega) (by omega)) (Ri.mk (by omega) (by omega))) rfl rfl (Nat.le_of_ble_eq_true rfl) (by decide) ⟨Nat.zero_le _, Nat.zero_le _⟩ ?_
        refine G_if_eq (pc := 37) (tgt := 50) dX4_addAsk_37 (by first | exact bI_R | exact Ri.mk (by omega) (by omega)) (by decide) (fun h_37 => ?_) (fun h_37 => ?_)
        · try simp only [bI_eq0, bI_ne0] at h_37
          refine G_iconst (pc := 50) dX4_addAsk_50 ?_
          refine G_zret (pc := 51) dX4_addAsk_51 rfl (by omega) ?_
          exact ⟨rfl, Or.inr ⟨by unfold okA; omega, rfl, rfl⟩⟩
        · try simp only [bI_eq0, bI_ne0] at h_37
          refine G_iload_n (pc := 40) dX4_addAsk_40 rfl ?_
          refine G_iconst (pc := 41) dX4_addAsk_41 ?_
          refine G_bipush (pc := 42) dX4_addAsk_42 (by decide) ?_
          refine G_callS1 (pc := 44) (md := mdX11_within) (av := [_, _, _]) dX4_addAsk_44 lkX4_66 mwX11_within (c_within _ _ _ (Ri.mk (by omega) (by omega)) (Ri.mk (by omega) (by omega)) (Ri.mk (by omega) (by omega))) rfl rfl (Nat.le_of_ble_eq_true rfl) (by decide) ⟨Nat.zero_le _, Nat.zero_le _⟩ ?_
          refine G_if_ne (pc := 47) (tgt := 52) dX4_addAsk_47 (by first | exact bI_R | exact Ri.mk (by omega) (by omega)) (by decide) (fun h_47 => ?_) (fun h_47 => ?_)
          · try simp only [bI_eq0, bI_ne0] at h_47
            refine G_aload_n (pc := 52) dX4_addAsk_52 rfl ?_
            refine G_getr (pc := 53) dX4_addAsk_53 fiX4_24 (by first | rfl | assumption) (by omega) (by first | rfl | assumption) ?_
            refine G_aload_n (pc := 56) dX4_addAsk_56 rfl ?_
            refine G_geti (pc := 57) dX4_addAsk_57 fiX4_43 (by first | rfl | assumption) (by omega) ?_
            refine G_iload_n (pc := 60) dX4_addAsk_60 rfl ?_
            refine G_callS0 (pc := 61) (md := mdX11_put) (av := [_, _, _]) dX4_addAsk_61 lkX4_70 mwX11_put (c_put _ 6 (zA hs) _ _ (House_ar hk _ (by omega)) (by omega) (by omega) (by omega) (by first | exact v9 | (simp (disch := omega) only [wr_o]; exact v9))) rfl rfl (Nat.le_of_ble_eq_true rfl) (by decide) ⟨Nat.zero_le _, Nat.zero_le _⟩ ?_
            refine G_aload_n (pc := 64) dX4_addAsk_64 rfl ?_
            refine G_getr (pc := 65) dX4_addAsk_65 fiX4_27 (by first | rfl | assumption) (by omega) (by first | rfl | assumption) ?_
            refine G_aload_n (pc := 68) dX4_addAsk_68 rfl ?_
            refine G_geti (pc := 69) dX4_addAsk_69 fiX4_43 (by first | rfl | assumption) (by omega) ?_
            refine G_iload_n (pc := 72) dX4_addAsk_72 rfl ?_
            refine G_callS0 (pc := 73) (md := mdX11_put) (av := [_, _, _]) dX4_addAsk_73 lkX4_70 mwX11_put (c_put _ 6 (zA hs) _ _ (House_ar hk _ (by omega)) (by omega) (by omega) (by omega) (by first | exact v9 | (simp (disch := omega) only [wr_o]; exact v9))) rfl rfl (Nat.le_of_ble_eq_true rfl) (by decide) ⟨Nat.zero_le _, Nat.zero_le _⟩ ?_
            refine G_aload_n (pc := 76) dX4_addAsk_76 rfl ?_
            refine G_getr (pc := 77) dX4_addAsk_77 fiX4_30 (by first | rfl | assumption) (by omega) (by first | rfl | assumption) ?_
            refine G_aload_n (pc := 80) dX4_addAsk_80 rfl ?_
            refine G_geti (pc := 81) dX4_addAsk_81 fiX4_43 (by first | rfl | assumption) (by omega) ?_
            refine G_iload_n (pc := 84) dX4_addAsk_84 rfl ?_
            refine G_callS0 (pc := 85) (md := mdX11_put) (av := [_, _, _]) dX4_addAsk_85 lkX4_70 mwX11_put (c_put _ 6 (zA hs) _ _ (House_ar hk _ (by omega)) (by omega) (by omega) (by omega) (by first | exact v9 | (simp (disch := omega) only [wr_o]; exact v9))) rfl rfl (Nat.le_of_ble_eq_true rfl) (by decide) ⟨Nat.zero_le _, Nat.zero_le _⟩ ?_
            refine G_aload_n (pc := 88) dX4_addAsk_88 rfl ?_
            refine G_getr (pc := 89) dX4_addAsk_89 fiX4_33 (by first | rfl | assumption) (by omega) (by first | rfl | assumption) ?_
            refine G_aload_n (pc := 92) dX4_addAsk_92 rfl ?_
            refine G_geti (pc := 93) dX4_addAsk_93 fiX4_43 (by first | rfl | assumption) (by omega) ?_
            refine G_iload (pc := 96) dX4_addAsk_96 rfl ?_
            refine G_callS0 (pc := 98) (md := mdX11_put) (av := [_, _, _]) dX4_addAsk_98 lkX4_70 mwX11_put (c_put _ 6 (zA hs) _ _ (House_ar hk _ (by omega)) (by omega) (by omega) (by omega) (by first | exact v9 | (simp (disch := omega) only [wr_o]; exact v9))) rfl rfl (Nat.le_of_ble_eq_true rfl) (by decide) ⟨Nat.zero_le _, Nat.zero_le _⟩ ?_
            refine G_aload_n (pc := 101) dX4_addAsk_101 rfl ?_
            refine G_dup (pc := 102) dX4_addAsk_102 rfl ?_
            refine G_geti (pc := 103) dX4_addAsk_103 fiX4_43 (by first | rfl | assumption) (by omega) ?_
            refine G_iconst (pc := 106) dX4_addAsk_106 ?_
            refine G_iadd (pc := 107) dX4_addAsk_107 ?_
            refine G_puti (pc := 108) dX4_addAsk_108 fiX4_43 (by first | rfl | assumption) (by omega) ?_
            refine G_iconst (pc := 111) dX4_addAsk_111 ?_
            refine G_zret (pc := 112) dX4_addAsk_112 rfl (by omega) ?_
            have e9 : zA (addAskH hs b w f g) = zA hs + 1 := rfl
            refine ⟨rfl, Or.inl ⟨by unfold okA; omega, rfl, ⟨fun i hi x hx => ?_, fun i h4 hi x hx => ?_, fun i h8 hi => ?_⟩, ?_⟩⟩
            · have hold := hH.1 i hi x hx
              simp (disch := omega) only [wr_o]
              rw [hold]; simp [addAskH, show ¬ 4 ≤ i by omega, show i ≠ 9 by omega]
            · rw [e9] at hx
              have hold := fun h => hH.2.1 i h4 hi x h
              rcases (show i = 4 ∨ i = 5 ∨ i = 6 ∨ i = 7 by omega) with rfl | rfl | rfl | rfl <;> simp (disch := omega) only [wr_o] <;> by_cases e : x = zA hs <;> simp [wr, addAskH, e] <;> exact hold (by omega)
            · have hold := hH.2.2 i h8 hi
              by_cases e : i = 9
              · subst e; simp (disch := omega) only [wr_n, wr_s, wr_o]; rw [v9]; simp [addAskH]
              · simp (disch := omega) only [wr_n, wr_s, wr_o]; rw [hold]; simp [e, addAskH, show ¬ i < 8 by omega]
            · intro q hq
              simp (disch := omega) only [wr_o]
          · try simp only [bI_eq0, bI_ne0] at h_47
            refine G_iconst (pc := 50) dX4_addAsk_50 ?_
            refine G_zret (pc := 51) dX4_addAsk_51 rfl (by omega) ?_
            exact ⟨rfl, Or.inr ⟨by unfold okA; omega, rfl, rfl⟩⟩
theorem c_Hcopy {E : EV} {M : Nat} {I J : Nat → Nat → Int} {hs : HS} (hM : 71 ≤ M) (hH : HI I 21 hs) (hB : HB hs) : FnQ E mdX4_copy 2 M Rf [vr E 3, vr E 21] I J (fun v I' J' => v = none ∧ J' = J ∧ HI I' 3 hs ∧ Off I I' 3 11) := by
  have bS := hB.1
  have bA := hB.2.1
  have b12 := hB.2.2.2.2.2.2.2.1
  have b13 := hB.2.2.2.2.2.2.2.2
  have e8 : I 21 8 = (hs 8 0 : Int) := hH.2.2 8 (by omega) (by omega)
  have e9 : I 21 9 = (hs 9 0 : Int) := hH.2.2 9 (by omega) (by omega)
  have e10 : I 21 10 = (hs 10 0 : Int) := hH.2.2 10 (by omega) (by omega)
  have e11 : I 21 11 = (hs 11 0 : Int) := hH.2.2 11 (by omega) (by omega)
  have e12 : I 21 12 = (hs 12 0 : Int) := hH.2.2 12 (by omega) (by omega)
  have e13 : I 21 13 = (hs 13 0 : Int) := hH.2.2 13 (by omega) (by omega)
  refine FnQ.of (by decide +kernel) (Nat.le_of_ble_eq_true rfl) ?_
  show GM E mdX4_copy 2 M Rf _ I J 0 [some (vr E 3), some (vr E 21)] []
  refine G_aload_n (pc := 0) dX4_copy_0 rfl ?_
  refine G_getr (pc := 1) dX4_copy_1 fiX4_9 (by first | rfl | assumption) (by omega) (by first | rfl | assumption) ?_
  refine G_aload_n (pc := 4) dX4_copy_4 rfl ?_
  refine G_getr (pc := 5) dX4_copy_5 fiX4_9 (by first | rfl | assumption) (by omega) (by first | rfl | assumption) ?_
  refine G_callS0 (pc := 8) (md := mdX11_copyRow) (av := [_, _]) dX4_copy_8 lkX4_56 mwX11_copyRow (c_copyRow _ _ 6 rfl rfl (by omega) (by omega) (by omega) (by omega)) rfl rfl (Nat.le_of_ble_eq_true rfl) (by decide) ⟨Nat.zero_le _, Nat.zero_le _⟩ ?_
  refine G_aload_n (pc := 11) dX4_copy_11 rfl ?_
  refine G_getr (pc := 12) dX4_copy_12 fiX4_15 (by first | rfl | assumption) (by omega) (by first | rfl | assumption) ?_
  refine G_aload_n (pc := 15) dX4_copy_15 rfl ?_
  refine G_getr (pc := 16) dX4_copy_16 fiX4_15 (by first | rfl | assumption) (by omega) (by first | rfl | assumption) ?_
  refine G_callS0 (pc := 19) (md := mdX11_copyRow) (av := [_, _]) dX4_copy_19 lkX4_56 mwX11_copyRow (c_copyRow _ _ 6 rfl rfl (by omega) (by omega) (by omega) (by omega)) rfl rfl (Nat.le_of_ble_eq_true rfl) (by decide) ⟨Nat.zero_le _, Nat.zero_le _⟩ ?_
  refine G_aload_n (pc := 22) dX4_copy_22 rfl ?_
  refine G_getr (pc := 23) dX4_copy_23 fiX4_18 (by first | rfl | assumption) (by omega) (by first | rfl | assumption) ?_
  refine G_aload_n (pc := 26) dX4_copy_26 rfl ?_
  refine G_getr (pc := 27) dX4_copy_27 fiX4_18 (by first | rfl | assumption) (by omega) (by first | rfl | assumption) ?_
  refine G_callS0 (pc := 30) (md := mdX11_copyRow) (av := [_, _]) dX4_copy_30 lkX4_56 mwX11_copyRow (c_copyRow _ _ 6 rfl rfl (by omega) (by omega) (by omega) (by omega)) rfl rfl (Nat.le_of_ble_eq_true rfl) (by decide) ⟨Nat.zero_le _, Nat.zero_le _⟩ ?_
  refine G_aload_n (pc := 33) dX4_copy_33 rfl ?_
  refine G_getr (pc := 34) dX4_copy_34 fiX4_21 (by first | rfl | assumption) (by omega) (by first | rfl | assumption) ?_
  refine G_aload_n (pc := 37) dX4_copy_37 rfl ?_
  refine G_getr (pc := 38) dX4_copy_38 fiX4_21 (by first | rfl | assumption) (by omega) (by first | rfl | assumption) ?_
  refine G_callS0 (pc := 41) (md := mdX11_copyRow) (av := [_, _]) dX4_copy_41 lkX4_56 mwX11_copyRow (c_copyRow _ _ 6 rfl rfl (by omega) (by omega) (by omega) (by omega)) rfl rfl (Nat.le_of_ble_eq_true rfl) (by decide) ⟨Nat.zero_le _, Nat.zero_le _⟩ ?_
  refine G_aload_n (pc := 44) dX4_copy_44 rfl ?_
  refine G_getr (pc := 45) dX4_copy_45 fiX4_24 (by first | rfl | assumption) (by omega) (by first | rfl | assumption) ?_
  refine G_aload_n (pc := 48) dX4_copy_48 rfl ?_
  refine G_getr (pc := 49) dX4_copy_49 fiX4_24 (by first | rfl | assumption) (by omega) (by first | rfl | assumption) ?_
  refine G_callS0 (pc := 52) (md := mdX11_copyRow) (av := [_, _]) dX4_copy_52 lkX4_56 mwX11_copyRow (c_copyRow _ _ 6 rfl rfl (by omega) (by omega) (by omega) (by omega)) rfl rfl (Nat.le_of_ble_eq_true rfl) (by decide) ⟨Nat.zero_le _, Nat.zero_le _⟩ ?_
  refine G_aload_n (pc := 55) dX4_copy_55 rfl ?_
  refine G_getr (pc := 56) dX4_copy_56 fiX4_27 (by first | rfl | assumption) (by omega) (by first | rfl | assumption) ?_
  refine G_aload_n (pc := 59) dX4_copy_59 rfl ?_
  refine G_getr (pc := 60) dX4_copy_60 fiX4_27 (by first | rfl | assumption) (by omega) (by first | rfl | assumption) ?_
  refine G_callS0 (pc := 63) (md := mdX11_copyRow) (av := [_, _]) dX4_copy_63 lkX4_56 mwX11_copyRow (c_copyRow _ _ 6 rfl rfl (by omega) (by omega) (by omega) (by omega)) rfl rfl (Nat.le_of_ble_eq_true rfl) (by decide) ⟨Nat.zero_le _, Nat.zero_le _⟩ ?_
  refine G_aload_n (pc := 66) dX4_copy_66 rfl ?_
  refine G_getr (pc := 67) dX4_copy_67 fiX4_30 (by first | rfl | assumption) (by omega) (by first | rfl | assumption) ?_
  refine G_aload_n (pc := 70) dX4_copy_70 rfl ?_
  refine G_getr (pc := 71) dX4_copy_71 fiX4_30 (by first | rfl | assumption) (by omega) (by first | rfl | assumption) ?_
  refine G_callS0 (pc := 74) (md := mdX11_copyRow) (av := [_, _]) dX4_copy_74 lkX4_56 mwX11_copyRow (c_copyRow _ _ 6 rfl rfl (by omega) (by omega) (by omega) (by omega)) rfl rfl (Nat.le_of_ble_eq_true rfl) (by decide) ⟨Nat.zero_le _, Nat.zero_le _⟩ ?_
  refine G_aload_n (pc := 77) dX4_copy_77 rfl ?_
  refine G_getr (pc := 78) dX4_copy_78 fiX4_33 (by first | rfl | assumption) (by omega) (by first | rfl | assumption) ?_
  refine G_aload_n (pc := 81) dX4_copy_81 rfl ?_
  refine G_getr (pc := 82) dX4_copy_82 fiX4_33 (by first | rfl | assumption) (by omega) (by first | rfl | assumption) ?_
  refine G_callS0 (pc := 85) (md := mdX11_copyRow) (av := [_, _]) dX4_copy_85 lkX4_56 mwX11_copyRow (c_copyRow _ _ 6 rfl rfl (by omega) (by omega) (by omega) (by omega)) rfl rfl (Nat.le_of_ble_eq_true rfl) (by decide) ⟨Nat.zero_le _, Nat.zero_le _⟩ ?_
  refine G_aload_n (pc := 88) dX4_copy_88 rfl ?_
  refine G_aload_n (pc := 89) dX4_copy_89 rfl ?_
  refine G_geti (pc := 90) dX4_copy_90 fiX4_39 (by first | rfl | assumption) (by omega) ?_
  refine G_puti (pc := 93) dX4_copy_93 fiX4_39 (by first | rfl | assumption) (by omega) ?_
  refine G_aload_n (pc := 96) dX4_copy_96 rfl ?_
  refine G_aload_n (pc := 97) dX4_copy_97 rfl ?_
  refine G_geti (pc := 98) dX4_copy_98 fiX4_43 (by first | rfl | assumption) (by omega) ?_
  refine G_puti (pc := 101) dX4_copy_101 fiX4_43 (by first | rfl | assumption) (by omega) ?_
  refine G_aload_n (pc := 104) dX4_copy_104 rfl ?_
  refine G_aload_n (pc := 105) dX4_copy_105 rfl ?_
  refine G_geti (pc := 106) dX4_copy_106 fiX4_46 (by first | rfl | assumption) (by omega) ?_
  refine G_puti (pc := 109) dX4_copy_109 fiX4_46 (by first | rfl | assumption) (by omega) ?_
  refine G_aload_n (pc := 112) dX4_copy_112 rfl ?_
  refine G_aload_n (pc := 113) dX4_copy_113 rfl ?_
  refine G_geti (pc := 114) dX4_copy_114 fiX4_49 (by first | rfl | assumption) (by omega) ?_
  refine G_puti (pc := 117) dX4_copy_117 fiX4_49 (by first | rfl | assumption) (by omega) ?_
  refine G_aload_n (pc := 120) dX4_copy_120 rfl ?_
  refine G_aload_n (pc := 121) dX4_copy_121 rfl ?_
  refine G_geti (pc := 122) dX4_copy_122 fiX4_60 (by first | rfl | assumption) (by omega) ?_
  refine G_aload_n (pc := 125) dX4_copy_125 rfl ?_
  refine G_geti (pc := 126) dX4_copy_126 fiX4_63 (by first | rfl | assumption) (by omega) ?_
  simp (disch := decide) only [wr_o, cpR_o, e8, e9, e10, e11, e12, e13]
  refine G_callV1 (pc := 129) (md := mdX4_setPain) (av := [_, _]) dX4_copy_129 lkX4_52 mwX4_setPain (c_setPain 3 _ _ (Or.inl rfl) (by omega) (Ri.mk (by omega) (by omega)) (Ri.mk (by omega) (by omega))) rfl (by first | rfl | assumption) (by omega) rfl rfl (Nat.le_of_ble_eq_true rfl) (by decide) ⟨Nat.zero_le _, Nat.zero_le _⟩ ?_
  refine G_pop (pc := 132) dX4_copy_132 rfl ?_
  refine G_vret (pc := 133) dX4_copy_133 rfl ?_
  rw [if_pos (by omega)]
  refine ⟨rfl, rfl, ⟨fun i hi x hx => ?_, fun i h4 hi x hx => ?_, fun i h8 hi => ?_⟩, ?_⟩
  · have hold := hH.1 i hi x hx
    have hx6 : x < 6 := by omega
    rcases (show i = 0 ∨ i = 1 ∨ i = 2 ∨ i = 3 by omega) with rfl | rfl | rfl | rfl <;> simp (disch := omega) only [wr_o, cpR_o, cpR_s] <;> exact hold
  · have hold := hH.2.1 i h4 hi x hx
    have hx6 : x < 6 := by omega
    rcases (show i = 4 ∨ i = 5 ∨ i = 6 ∨ i = 7 by omega) with rfl | rfl | rfl | rfl <;> simp (disch := omega) only [wr_o, cpR_o, cpR_s] <;> exact hold
  · rcases (show i = 8 ∨ i = 9 ∨ i = 10 ∨ i = 11 ∨ i = 12 ∨ i = 13 by omega) with rfl | rfl | rfl | rfl | rfl | rfl <;> simp [wr]
  · intro q hq
    simp (disch := omega) only [wr_o, cpR_o]
theorem c_meanBent {E : EV} {M : Nat} {I J : Nat → Nat → Int} {hs : HS} (k : Nat) (hk : isHouse k) (hM : 71 ≤ M) (hH : HI I k hs) (hB : HB hs) (h0 : 0 < zN hs) : FnF E mdX4_meanBent 2 M Rf [vr E k] I J (some (vi ((1000 * sumN (fun s => hs 0 s * hs 1 s) (zS hs) / zN hs : Nat) : Int))) I J := by
  have hk22 := House_lt hk
  have hsh := House_sh hk
  have v8 : I k 8 = (zS hs : Int) := hH.2.2 8 (by omega) (by omega)
  have v10 : I k 10 = (zN hs : Int) := hH.2.2 10 (by omega) (by omega)
  have bS := hB.1
  have bN := hB.2.2.1
  have b5 := hB.2.2.2.2.1
  have hbd : ∀ i, i ≤ zS hs → sumN (fun s => hs 0 s * hs 1 s) i ≤ i * 600 := fun i hi => sumN_le (fun s hs' => by
    have := b5 s (by omega)
    have h1 := Nat.mul_le_mul this.2.1 this.2.2.1
    omega)
  refine FnQ.of (by decide +kernel) (Nat.le_of_ble_eq_true rfl) ?_
  show GM E mdX4_meanBent 2 M Rf _ I J 0 [some (vr E k), none, none] []
  have loop : ∀ (n i : Nat) (x : Int), i + n = zS hs → x = (sumN (fun s => hs 0 s * hs 1 s) i : Nat) → GM E mdX4_meanBent 2 M Rf (QF (some (vi ((1000 * sumN (fun s => hs 0 s * hs 1 s) (zS hs) / zN hs : Nat) : Int))) I J) I J 4 [some (vr E k), some (vi x), some (vi (i : Int))] [] := by
    intro n
    induction n with
    | zero =>
      intro i x hi hx
      have hi : i = zS hs := by omega
      subst hi
      have hbb := hbd _ (Nat.le_refl _)
      refine G_iload_n (pc := 4) dX4_meanBent_4 rfl ?_
      refine G_aload_n (pc := 5) dX4_meanBent_5 rfl ?_
      refine G_geti (pc := 6) dX4_meanBent_6 fiX4_39 (by first | rfl | assumption) (by omega) ?_
      refine G_icmp_ge (pc := 9) (tgt := 32) dX4_meanBent_9 (Ri.mk (by omega) (by omega)) (Ri.mk (by omega) (by omega)) (by decide) (fun h_9 => ?_) (fun h_9 => ?_)
      · refine G_aload_n (pc := 32) dX4_meanBent_32 rfl ?_
        refine G_geti (pc := 33) dX4_meanBent_33 fiX4_46 (by first | rfl | assumption) (by omega) ?_
        refine G_if_ne (pc := 36) (tgt := 44) dX4_meanBent_36 (Ri.mk (by omega) (by omega)) (by decide) (fun h_36 => ?_) (fun h_36 => ?_)
        · try simp only [bI_eq0, bI_ne0] at h_36
          refine G_sipush (pc := 44) dX4_meanBent_44 (by decide) ?_
          refine G_iload_n (pc := 47) dX4_meanBent_47 rfl ?_
          refine G_imul (pc := 48) dX4_meanBent_48 ?_
          refine G_aload_n (pc := 49) dX4_meanBent_49 rfl ?_
          refine G_geti (pc := 50) dX4_meanBent_50 fiX4_46 (by first | rfl | assumption) (by omega) ?_
          refine G_idiv (pc := 53) dX4_meanBent_53 (Ri.mk (by omega) (by omega)) (Ri.mk (by omega) (by omega)) (by omega) ?_
          refine G_iret (pc := 54) dX4_meanBent_54 rfl ?_
          exact ⟨by rw [hx, v10, show (1000 : Int) = ((1000 : Nat) : Int) from rfl, ← Int.natCast_mul, ← Int.ofNat_tdiv], rfl, rfl⟩
        · exact absurd h_36 (by omega)
      · exact absurd h_9 (by omega)
    | succ n ih =>
      intro i x hi hx
      refine G_iload_n (pc := 4) dX4_meanBent_4 rfl ?_
      refine G_aload_n (pc := 5) dX4_meanBent_5 rfl ?_
      refine G_geti (pc := 6) dX4_meanBent_6 fiX4_39 (by first | rfl | assumption) (by omega) ?_
      refine G_icmp_ge (pc := 9) (tgt := 32) dX4_meanBent_9 (Ri.mk (by omega) (by omega)) (Ri.mk (by omega) (by omega)) (by decide) (fun h_9 => ?_) (fun h_9 => ?_)
      · exact absurd h_9 (by omega)
      · refine G_iload_n (pc := 12) dX4_meanBent_12 rfl ?_
        refine G_aload_n (pc := 13) dX4_meanBent_13 rfl ?_
        refine G_iload_n (pc := 14) dX4_meanBent_14 rfl ?_
        refine G_callV1 (pc := 15) (md := mdX4_size) (av := [_]) dX4_meanBent_15 lkX4_78 mwX4_size (c_size k _ hk hM hH hB (by omega)) rfl (by first | rfl | assumption) (by omega) rfl rfl (Nat.le_of_ble_eq_true rfl) (by decide) ⟨Nat.zero_le _, Nat.zero_le _⟩ ?_
        refine G_aload_n (pc := 18) dX4_meanBent_18 rfl ?_
        refine G_iload_n (pc := 19) dX4_meanBent_19 rfl ?_
        refine G_callV1 (pc := 20) (md := mdX4_bentOf) (av := [_]) dX4_meanBent_20 lkX4_82 mwX4_bentOf (c_bentOf k _ hk hM hH hB (by omega)) rfl (by first | rfl | assumption) (by omega) rfl rfl (Nat.le_of_ble_eq_true rfl) (by decide) ⟨Nat.zero_le _, Nat.zero_le _⟩ ?_
        refine G_imul (pc := 23) dX4_meanBent_23 ?_
        refine G_iadd (pc := 24) dX4_meanBent_24 ?_
        refine G_istore_n (pc := 25) (lv' := [_, _, _]) dX4_meanBent_25 (by decide) rfl ?_
        refine G_iinc (pc := 26) (lv' := [_, _, _]) dX4_meanBent_26 (by decide) rfl rfl ?_
        refine G_goto (pc := 29) (tgt := 4) dX4_meanBent_29 (by decide) ?_
        exact ih (i + 1) _ (by omega) (by rw [hx, sumN]; push_cast; rfl)
  refine G_iconst (pc := 0) dX4_meanBent_0 ?_
  refine G_istore_n (pc := 1) (lv' := [_, _, _]) dX4_meanBent_1 (by decide) rfl ?_
  refine G_iconst (pc := 2) dX4_meanBent_2 ?_
  refine G_istore_n (pc := 3) (lv' := [_, _, _]) dX4_meanBent_3 (by decide) rfl ?_
  exact loop (zS hs) 0 0 (by omega) rfl
