/-! HOUSE: its picture, its reads -/
def isHouse (k : Nat) : Prop := k = 3 ∨ k = 21
theorem House_sh {k : Nat} (h : isHouse k) : shp k = .inl 4 := by rcases h with rfl | rfl <;> rfl
theorem House_lt {k : Nat} (h : isHouse k) : k < 22 := by rcases h with rfl | rfl <;> decide
theorem House_rf {k : Nat} (h : isHouse k) (i : Nat) (hi : i < 8) : Rf k i = some (k + 1 + i) := by
  rcases h with rfl | rfl <;> rcases (show i = 0 ∨ i = 1 ∨ i = 2 ∨ i = 3 ∨ i = 4 ∨ i = 5 ∨ i = 6 ∨ i = 7 by omega) with rfl | rfl | rfl | rfl | rfl | rfl | rfl | rfl <;> rfl
theorem House_ar {k : Nat} (h : isHouse k) (i : Nat) (hi : i < 8) : shp (k + 1 + i) = .inr (0, 6) := by
  rcases h with rfl | rfl <;> rcases (show i = 0 ∨ i = 1 ∨ i = 2 ∨ i = 3 ∨ i = 4 ∨ i = 5 ∨ i = 6 ∨ i = 7 by omega) with rfl | rfl | rfl | rfl | rfl | rfl | rfl | rfl <;> rfl
/-- within(number, least, most) -/
theorem c_within {E : EV} {M : Nat} {R : Nat → Nat → Option Nat} {I J : Nat → Nat → Int} (a b c : Int) (ha : Ri a) (hb : Ri b) (hc : Ri c) : FnF E mdX11_within 0 M R [vi a, vi b, vi c] I J (some (vi (bI (b ≤ a ∧ a ≤ c)))) I J := by
  refine FnQ.of (by decide +kernel) (Nat.le_of_ble_eq_true rfl) ?_
  show GM E mdX11_within 0 M R _ I J 0 [some (vi a), some (vi b), some (vi c)] []
  refine G_iload_n (pc := 0) dX11_within_0 rfl ?_
  refine G_iload_n (pc := 1) dX11_within_1 rfl ?_
  refine G_icmp_lt (pc := 2) (tgt := 14) dX11_within_2 ha hb (by decide) (fun h_2 => ?_) (fun h_2 => ?_)
  · refine G_iconst (pc := 14) dX11_within_14 ?_
    refine G_zret (pc := 15) dX11_within_15 rfl (by omega) ?_
    exact ⟨by first | rw [bI_t (by omega)] | rw [bI_f (by omega)], rfl, rfl⟩
  · refine G_iload_n (pc := 5) dX11_within_5 rfl ?_
    refine G_iload_n (pc := 6) dX11_within_6 rfl ?_
    refine G_icmp_gt (pc := 7) (tgt := 14) dX11_within_7 ha hc (by decide) (fun h_7 => ?_) (fun h_7 => ?_)
    · refine G_iconst (pc := 14) dX11_within_14 ?_
      refine G_zret (pc := 15) dX11_within_15 rfl (by omega) ?_
      exact ⟨by first | rw [bI_t (by omega)] | rw [bI_f (by omega)], rfl, rfl⟩
    · refine G_iconst (pc := 10) dX11_within_10 ?_
      refine G_goto (pc := 11) (tgt := 15) dX11_within_11 (by decide) ?_
      refine G_zret (pc := 15) dX11_within_15 rfl (by omega) ?_
      exact ⟨by first | rw [bI_t (by omega)] | rw [bI_f (by omega)], rfl, rfl⟩
/-- at(row, place) -/
theorem c_at {E : EV} {M : Nat} {R : Nat → Nat → Option Nat} {I J : Nat → Nat → Int} (q z : Nat) (a : Int) (hs : shp q = .inr (0, z)) (hq : q < M) (hz : z < 2147483648) (ha : Ri a) : FnF E mdX11_at 0 M R [vr E q, vi a] I J (some (vi (if 0 ≤ a ∧ a < z then I q a.toNat else 0))) I J := by
  refine FnQ.of (by decide +kernel) (Nat.le_of_ble_eq_true rfl) ?_
  show GM E mdX11_at 0 M R _ I J 0 [some (vr E q), some (vi a)] []
  refine G_iload_n (pc := 0) dX11_at_0 rfl ?_
  refine G_if_lt (pc := 1) (tgt := 16) dX11_at_1 ha (by decide) (fun h_1 => ?_) (fun h_1 => ?_)
  · refine G_iconst (pc := 16) dX11_at_16 ?_
    refine G_iret (pc := 17) dX11_at_17 rfl ?_
    exact ⟨by first | rw [if_pos (by omega)] | rw [if_neg (by omega)], rfl, rfl⟩
  · refine G_iload_n (pc := 4) dX11_at_4 rfl ?_
    refine G_aload_n (pc := 5) dX11_at_5 rfl ?_
    refine G_alen (pc := 6) dX11_at_6 (by first | rfl | assumption) (by decide) (by omega) ?_
    refine G_icmp_ge (pc := 7) (tgt := 16) dX11_at_7 ha (Ri.mk (by omega) (by omega)) (by decide) (fun h_7 => ?_) (fun h_7 => ?_)
    · refine G_iconst (pc := 16) dX11_at_16 ?_
      refine G_iret (pc := 17) dX11_at_17 rfl ?_
      exact ⟨by first | rw [if_pos (by omega)] | rw [if_neg (by omega)], rfl, rfl⟩
    · refine G_aload_n (pc := 10) dX11_at_10 rfl ?_
      refine G_iload_n (pc := 11) dX11_at_11 rfl ?_
      refine G_iald (pc := 12) dX11_at_12 (by first | rfl | assumption) (by omega) (by omega) (by omega) (by omega) ?_
      refine G_goto (pc := 13) (tgt := 17) dX11_at_13 (by decide) ?_
      refine G_iret (pc := 17) dX11_at_17 rfl ?_
      exact ⟨by first | rw [if_pos (by omega)] | rw [if_neg (by omega)], rfl, rfl⟩
theorem c_atv {E : EV} {M : Nat} {R : Nat → Nat → Option Nat} {I J : Nat → Nat → Int} (q z x : Nat) (v : Int) (hs : shp q = .inr (0, z)) (hq : q < M) (hz : z < 2147483648) (hx : x < z) (hv : I q x = v) : FnF E mdX11_at 0 M R [vr E q, vi (x : Int)] I J (some (vi v)) I J := by
  have h := c_at (E := E) (M := M) (R := R) (I := I) (J := J) q z (x : Int) hs hq hz (Ri.mk (by omega) (by omega))
  rw [if_pos ⟨by omega, by omega⟩, Int.toNat_natCast, hv] at h
  exact h
theorem c_tenths {E : EV} {M : Nat} {R : Nat → Nat → Option Nat} {I J : Nat → Nat → Int} (a : Int) (n : Nat) (ha : Ri a) (hn : (n : Int) = if a < 0 then 0 else if 10 < a then 10 else a) : FnF E mdX4_tenths 0 M R [vi a] I J (some (vi (n : Int))) I J := by
  refine FnQ.of (by decide +kernel) (Nat.le_of_ble_eq_true rfl) ?_
  show GM E mdX4_tenths 0 M R _ I J 0 [some (vi a)] []
  refine G_iload_n (pc := 0) dX4_tenths_0 rfl ?_
  refine G_if_ge (pc := 1) (tgt := 6) dX4_tenths_1 ha (by decide) (fun h_1 => ?_) (fun h_1 => ?_)
  · refine G_iload_n (pc := 6) dX4_tenths_6 rfl ?_
    refine G_bipush (pc := 7) dX4_tenths_7 (by decide) ?_
    refine G_icmp_le (pc := 9) (tgt := 17) dX4_tenths_9 ha (Ri.mk (by omega) (by omega)) (by decide) (fun h_9 => ?_) (fun h_9 => ?_)
    · refine G_iload_n (pc := 17) dX4_tenths_17 rfl ?_
      refine G_iret (pc := 18) dX4_tenths_18 rfl ?_
      exact ⟨by rw [hn]; first | rw [if_pos (by omega)] | rw [if_neg (by omega), if_pos (by omega)] | rw [if_neg (by omega), if_neg (by omega)], rfl, rfl⟩
    · refine G_bipush (pc := 12) dX4_tenths_12 (by decide) ?_
      refine G_goto (pc := 14) (tgt := 18) dX4_tenths_14 (by decide) ?_
      refine G_iret (pc := 18) dX4_tenths_18 rfl ?_
      exact ⟨by rw [hn]; first | rw [if_pos (by omega)] | rw [if_neg (by omega), if_pos (by omega)] | rw [if_neg (by omega), if_neg (by omega)], rfl, rfl⟩
  · refine G_iconst (pc := 4) dX4_tenths_4 ?_
    refine G_iret (pc := 5) dX4_tenths_5 rfl ?_
    exact ⟨by rw [hn]; first | rw [if_pos (by omega)] | rw [if_neg (by omega), if_pos (by omega)] | rw [if_neg (by omega), if_neg (by omega)], rfl, rfl⟩
theorem c_feeling {E : EV} {M : Nat} {I J : Nat → Nat → Int} {hs : HS} (k s a mode : Nat) (hk : isHouse k) (hM : 71 ≤ M) (hH : HI I k hs) (hB : HB hs) (h1 : s < zS hs) (h2 : a < zA hs) (h3 : mode < 4) : FnF E mdX4_feeling 1 M Rf [vr E k, vi (s : Int), vi (a : Int), vi (mode : Int)] I J (some (vi (fe hs s a mode : Int))) I J := by
  have hk22 := House_lt hk
  have hsh := House_sh hk
  have r1 := House_rf hk 1 (by omega)
  have r4 := House_rf hk 4 (by omega)
  have r5 := House_rf hk 5 (by omega)
  have bS := hB.1
  have bA := hB.2.1
  have b1 := hB.2.2.2.2.1 s h1
  have b2 := hB.2.2.2.2.2.1 a h2
  have v1 := hH.1 1 (by omega) s h1
  have v4 := hH.2.1 4 (by omega) (by omega) a h2
  have v5 := hH.2.1 5 (by omega) (by omega) a h2
  refine FnQ.of (by decide +kernel) (Nat.le_of_ble_eq_true rfl) ?_
  show GM E mdX4_feeling 1 M Rf _ I J 0 [some (vr E k), some (vi (s : Int)), some (vi (a : Int)), some (vi (mode : Int)), none] []
  refine G_iload_n (pc := 0) dX4_feeling_0 rfl ?_
  refine G_iconst (pc := 1) dX4_feeling_1 ?_
  refine G_icmp_ne (pc := 2) (tgt := 7) dX4_feeling_2 (Ri.mk (by omega) (by omega)) (Ri.mk (by omega) (by omega)) (by decide) (fun h_2 => ?_) (fun h_2 => ?_)
  · refine G_iload_n (pc := 7) dX4_feeling_7 rfl ?_
    refine G_iconst (pc := 8) dX4_feeling_8 ?_
    refine G_icmp_ne (pc := 9) (tgt := 16) dX4_feeling_9 (Ri.mk (by omega) (by omega)) (Ri.mk (by omega) (by omega)) (by decide) (fun h_9 => ?_) (fun h_9 => ?_)
    · refine G_aload_n (pc := 16) dX4_feeling_16 rfl ?_
      refine G_getr (pc := 17) dX4_feeling_17 fiX4_27 (by first | rfl | assumption) (by omega) (by first | rfl | assumption) ?_
      refine G_iload_n (pc := 20) dX4_feeling_20 rfl ?_
      refine G_callS1 (pc := 21) (md := mdX11_at) (av := [_, _]) dX4_feeling_21 lkX4_74 mwX11_at (c_atv _ 6 _ _ (House_ar hk _ (by omega)) (by omega) (by omega) (by omega) (by first | exact v1 | exact v4 | exact v5)) rfl rfl (Nat.le_of_ble_eq_true rfl) (by decide) ⟨Nat.zero_le _, Nat.zero_le _⟩ ?_
      refine G_istore (pc := 24) (lv' := [_, _, _, _, _]) dX4_feeling_24 (by decide) rfl ?_
      refine G_aload_n (pc := 26) dX4_feeling_26 rfl ?_
      refine G_getr (pc := 27) dX4_feeling_27 fiX4_15 (by first | rfl | assumption) (by omega) (by first | rfl | assumption) ?_
      refine G_iload_n (pc := 30) dX4_feeling_30 rfl ?_
      refine G_callS1 (pc := 31) (md := mdX11_at) (av := [_, _]) dX4_feeling_31 lkX4_74 mwX11_at (c_atv _ 6 _ _ (House_ar hk _ (by omega)) (by omega) (by omega) (by omega) (by first | exact v1 | exact v4 | exact v5)) rfl rfl (Nat.le_of_ble_eq_true rfl) (by decide) ⟨Nat.zero_le _, Nat.zero_le _⟩ ?_
      refine G_iload (pc := 34) dX4_feeling_34 rfl ?_
      refine G_iadd (pc := 36) dX4_feeling_36 ?_
      refine G_aload_n (pc := 37) dX4_feeling_37 rfl ?_
      refine G_getr (pc := 38) dX4_feeling_38 fiX4_24 (by first | rfl | assumption) (by omega) (by first | rfl | assumption) ?_
      refine G_iload_n (pc := 41) dX4_feeling_41 rfl ?_
      refine G_callS1 (pc := 42) (md := mdX11_at) (av := [_, _]) dX4_feeling_42 lkX4_74 mwX11_at (c_atv _ 6 _ _ (House_ar hk _ (by omega)) (by omega) (by omega) (by omega) (by first | exact v1 | exact v4 | exact v5)) rfl rfl (Nat.le_of_ble_eq_true rfl) (by decide) ⟨Nat.zero_le _, Nat.zero_le _⟩ ?_
      refine G_isub (pc := 45) dX4_feeling_45 ?_
      refine G_callS1 (pc := 46) (md := mdX4_tenths) (av := [_]) dX4_feeling_46 lkX4_85 mwX4_tenths (c_tenths _ (fe hs s a mode) (Ri.mk (by omega) (by omega)) (by unfold fe; split <;> (try split) <;> (try split) <;> (try split) <;> omega)) rfl rfl (Nat.le_of_ble_eq_true rfl) (by decide) ⟨Nat.zero_le _, Nat.zero_le _⟩ ?_
      refine G_iret (pc := 49) dX4_feeling_49 rfl ?_
      exact ⟨rfl, rfl, rfl⟩
    · refine G_iconst (pc := 12) dX4_feeling_12 ?_
      refine G_goto (pc := 13) (tgt := 24) dX4_feeling_13 (by decide) ?_
      refine G_istore (pc := 24) (lv' := [_, _, _, _, _]) dX4_feeling_24 (by decide) rfl ?_
      refine G_aload_n (pc := 26) dX4_feeling_26 rfl ?_
      refine G_getr (pc := 27) dX4_feeling_27 fiX4_15 (by first | rfl | assumption) (by omega) (by first | rfl | assumption) ?_
      refine G_iload_n (pc := 30) dX4_feeling_30 rfl ?_
      refine G_callS1 (pc := 31) (md := mdX11_at) (av := [_, _]) dX4_feeling_31 lkX4_74 mwX11_at (c_atv _ 6 _ _ (House_ar hk _ (by omega)) (by omega) (by omega) (by omega) (by first | exact v1 | exact v4 | exact v5)) rfl rfl (Nat.le_of_ble_eq_true rfl) (by decide) ⟨Nat.zero_le _, Nat.zero_le _⟩ ?_
      refine G_iload (pc := 34) dX4_feeling_34 rfl ?_
      refine G_iadd (pc := 36) dX4_feeling_36 ?_
      refine G_aload_n (pc := 37) dX4_feeling_37 rfl ?_
      refine G_getr (pc := 38) dX4_feeling_38 fiX4_24 (by first | rfl | assumption) (by omega) (by first | rfl | assumption) ?_
      refine G_iload_n (pc := 41) dX4_feeling_41 rfl ?_
      refine G_callS1 (pc := 42) (md := mdX11_at) (av := [_, _]) dX4_feeling_42 lkX4_74 mwX11_at (c_atv _ 6 _ _ (House_ar hk _ (by omega)) (by omega) (by omega) (by omega) (by first | exact v1 | exact v4 | exact v5)) rfl rfl (Nat.le_of_ble_eq_true rfl) (by decide) ⟨Nat.zero_le _, Nat.zero_le _⟩ ?_
      refine G_isub (pc := 45) dX4_feeling_45 ?_
      refine G_callS1 (pc := 46) (md := mdX4_tenths) (av := [_]) dX4_feeling_46 lkX4_85 mwX4_tenths (c_tenths _ (fe hs s a mode) (Ri.mk (by omega) (by omega)) (by unfold fe; split <;> (try split) <;> (try split) <;> (try split) <;> omega)) rfl rfl (Nat.le_of_ble_eq_true rfl) (by decide) ⟨Nat.zero_le _, Nat.zero_le _⟩ ?_
      refine G_iret (pc := 49) dX4_feeling_49 rfl ?_
      exact ⟨rfl, rfl, rfl⟩
  · refine G_iconst (pc := 5) dX4_feeling_5 ?_
    refine G_iret (pc := 6) dX4_feeling_6 rfl ?_
    exact ⟨by unfold fe; rw [if_pos (by omega)]; rfl, rfl, rfl⟩
theorem c_playing {E : EV} {M : Nat} {I J : Nat → Nat → Int} {hs : HS} (k s a mode : Nat) (hk : isHouse k) (hM : 71 ≤ M) (hH : HI I k hs) (hB : HB hs) (h1 : s < zS hs) (h2 : a < zA hs) (h3 : mode < 4) : FnF E mdX4_playing 1 M Rf [vr E k, vi (s : Int), vi (a : Int), vi (mode : Int)] I J (some (vi (pl hs s a mode : Int))) I J := by
  have hk22 := House_lt hk
  have hsh := House_sh hk
  have r2 := House_rf hk 2 (by omega)
  have r3 := House_rf hk 3 (by omega)
  have r6 := House_rf hk 6 (by omega)
  have bS := hB.1
  have bA := hB.2.1
  have b1 := hB.2.2.2.2.1 s h1
  have b2 := hB.2.2.2.2.2.1 a h2
  have v2 := hH.1 2 (by omega) s h1
  have v3 := hH.1 3 (by omega) s h1
  have v6 := hH.2.1 6 (by omega) (by omega) a h2
  refine FnQ.of (by decide +kernel) (Nat.le_of_ble_eq_true rfl) ?_
  show GM E mdX4_playing 1 M Rf _ I J 0 [some (vr E k), some (vi (s : Int)), some (vi (a : Int)), some (vi (mode : Int)), none] []
  refine G_aload_n (pc := 0) dX4_playing_0 rfl ?_
  refine G_getr (pc := 1) dX4_playing_1 fiX4_30 (by first | rfl | assumption) (by omega) (by first | rfl | assumption) ?_
  refine G_iload_n (pc := 4) dX4_playing_4 rfl ?_
  refine G_callS1 (pc := 5) (md := mdX11_at) (av := [_, _]) dX4_playing_5 lkX4_74 mwX11_at (c_atv _ 6 _ _ (House_ar hk _ (by omega)) (by omega) (by omega) (by omega) (by first | exact v2 | exact v3 | exact v6)) rfl rfl (Nat.le_of_ble_eq_true rfl) (by decide) ⟨Nat.zero_le _, Nat.zero_le _⟩ ?_
  refine G_istore (pc := 8) (lv' := [_, _, _, _, _]) dX4_playing_8 (by decide) rfl ?_
  refine G_iload_n (pc := 10) dX4_playing_10 rfl ?_
  rcases (show mode = 0 ∨ mode = 1 ∨ mode = 2 ∨ mode = 3 by omega) with rfl | rfl | rfl | rfl
  · skip
    refine G_tableIn (pc := 11) (off := 25) (tgt := 36) dX4_playing_11 (Ri.mk (by omega) (by omega)) (by omega) (by omega) rfl (by decide) ?_
    refine G_aload_n (pc := 36) dX4_playing_36 rfl ?_
    refine G_getr (pc := 37) dX4_playing_37 fiX4_18 (by first | rfl | assumption) (by omega) (by first | rfl | assumption) ?_
    refine G_iload_n (pc := 40) dX4_playing_40 rfl ?_
    refine G_callS1 (pc := 41) (md := mdX11_at) (av := [_, _]) dX4_playing_41 lkX4_74 mwX11_at (c_atv _ 6 _ _ (House_ar hk _ (by omega)) (by omega) (by omega) (by omega) (by first | exact v2 | exact v3 | exact v6)) rfl rfl (Nat.le_of_ble_eq_true rfl) (by decide) ⟨Nat.zero_le _, Nat.zero_le _⟩ ?_
    refine G_aload_n (pc := 44) dX4_playing_44 rfl ?_
    refine G_getr (pc := 45) dX4_playing_45 fiX4_21 (by first | rfl | assumption) (by omega) (by first | rfl | assumption) ?_
    refine G_iload_n (pc := 48) dX4_playing_48 rfl ?_
    refine G_callS1 (pc := 49) (md := mdX11_at) (av := [_, _]) dX4_playing_49 lkX4_74 mwX11_at (c_atv _ 6 _ _ (House_ar hk _ (by omega)) (by omega) (by omega) (by omega) (by first | exact v2 | exact v3 | exact v6)) rfl rfl (Nat.le_of_ble_eq_true rfl) (by decide) ⟨Nat.zero_le _, Nat.zero_le _⟩ ?_
    refine G_iadd (pc := 52) dX4_playing_52 ?_
    refine G_iload (pc := 53) dX4_playing_53 rfl ?_
    refine G_isub (pc := 55) dX4_playing_55 ?_
    refine G_callS1 (pc := 56) (md := mdX4_tenths) (av := [_]) dX4_playing_56 lkX4_85 mwX4_tenths (c_tenths _ (min 10 (hs 2 s + hs 3 s - hs 6 a)) (Ri.mk (by omega) (by omega)) (by split <;> (try split) <;> omega)) rfl rfl (Nat.le_of_ble_eq_true rfl) (by decide) ⟨Nat.zero_le _, Nat.zero_le _⟩ ?_
    refine G_iret (pc := 59) dX4_playing_59 rfl ?_
    exact ⟨rfl, rfl, rfl⟩
  · skip
    refine G_tableIn (pc := 11) (off := 49) (tgt := 60) dX4_playing_11 (Ri.mk (by omega) (by omega)) (by omega) (by omega) rfl (by decide) ?_
    refine G_aload_n (pc := 60) dX4_playing_60 rfl ?_
    refine G_getr (pc := 61) dX4_playing_61 fiX4_18 (by first | rfl | assumption) (by omega) (by first | rfl | assumption) ?_
    refine G_iload_n (pc := 64) dX4_playing_64 rfl ?_
    refine G_callS1 (pc := 65) (md := mdX11_at) (av := [_, _]) dX4_playing_65 lkX4_74 mwX11_at (c_atv _ 6 _ _ (House_ar hk _ (by omega)) (by omega) (by omega) (by omega) (by first | exact v2 | exact v3 | exact v6)) rfl rfl (Nat.le_of_ble_eq_true rfl) (by decide) ⟨Nat.zero_le _, Nat.zero_le _⟩ ?_
    refine G_iload (pc := 68) dX4_playing_68 rfl ?_
    refine G_isub (pc := 70) dX4_playing_70 ?_
    refine G_callS1 (pc := 71) (md := mdX4_tenths) (av := [_]) dX4_playing_71 lkX4_85 mwX4_tenths (c_tenths _ (min 10 (hs 2 s - hs 6 a)) (Ri.mk (by omega) (by omega)) (by split <;> (try split) <;> omega)) rfl rfl (Nat.le_of_ble_eq_true rfl) (by decide) ⟨Nat.zero_le _, Nat.zero_le _⟩ ?_
    refine G_iret (pc := 74) dX4_playing_74 rfl ?_
    exact ⟨rfl, rfl, rfl⟩
  · skip
    refine G_tableIn (pc := 11) (off := 64) (tgt := 75) dX4_playing_11 (Ri.mk (by omega) (by omega)) (by omega) (by omega) rfl (by decide) ?_
    refine G_bipush (pc := 75) dX4_playing_75 (by decide) ?_
    refine G_iload (pc := 77) dX4_playing_77 rfl ?_
    refine G_isub (pc := 79) dX4_playing_79 ?_
    refine G_callS1 (pc := 80) (md := mdX4_tenths) (av := [_]) dX4_playing_80 lkX4_85 mwX4_tenths (c_tenths _ (min 10 (10 - hs 6 a)) (Ri.mk (by omega) (by omega)) (by split <;> (try split) <;> omega)) rfl rfl (Nat.le_of_ble_eq_true rfl) (by decide) ⟨Nat.zero_le _, Nat.zero_le _⟩ ?_
    refine G_iret (pc := 83) dX4_playing_83 rfl ?_
    exact ⟨rfl, rfl, rfl⟩
  · skip
    refine G_tableOut (pc := 11) (tgt := 84) dX4_playing_11 (Ri.mk (by omega) (by omega)) (by omega) (by decide) ?_
    refine G_iconst (pc := 84) dX4_playing_84 ?_
    refine G_iret (pc := 85) dX4_playing_85 rfl ?_
    exact ⟨rfl, rfl, rfl⟩
theorem c_doing_ {E : EV} {M : Nat} {R : Nat → Nat → Option Nat} {I J : Nat → Nat → Int} (f p : Nat) (hf : f ≤ 10) : FnF E mdX4_doing_ 0 M R [vi (f : Int), vi (p : Int)] I J (some (vi (dof f p : Int))) I J := by
  refine FnQ.of (by decide +kernel) (Nat.le_of_ble_eq_true rfl) ?_
  show GM E mdX4_doing_ 0 M R _ I J 0 [some (vi (f : Int)), some (vi (p : Int))] []
  refine G_bipush (pc := 0) dX4_doing__0 (by decide) ?_
  refine G_iload_n (pc := 2) dX4_doing__2 rfl ?_
  refine G_imul (pc := 3) dX4_doing__3 ?_
  refine G_bipush (pc := 4) dX4_doing__4 (by decide) ?_
  refine G_iload_n (pc := 6) dX4_doing__6 rfl ?_
  refine G_isub (pc := 7) dX4_doing__7 ?_
  refine G_iload_n (pc := 8) dX4_doing__8 rfl ?_
  refine G_imul (pc := 9) dX4_doing__9 ?_
  refine G_iadd (pc := 10) dX4_doing__10 ?_
  refine G_iret (pc := 11) dX4_doing__11 rfl ?_
  exact ⟨by unfold dof; congr 3; rw [Int.natCast_add, Int.natCast_mul, Int.natCast_mul, Int.ofNat_sub hf]; rfl, rfl, rfl⟩
theorem c_doing {E : EV} {M : Nat} {I J : Nat → Nat → Int} {hs : HS} (k s a mode : Nat) (hk : isHouse k) (hM : 71 ≤ M) (hH : HI I k hs) (hB : HB hs) (h1 : s < zS hs) (h2 : a < zA hs) (h3 : mode < 4) : FnF E mdX4_doing 2 M Rf [vr E k, vi (s : Int), vi (a : Int), vi (mode : Int)] I J (some (vi (dO hs s a mode : Int))) I J := by
  have hk22 := House_lt hk
  have hsh := House_sh hk
  refine FnQ.of (by decide +kernel) (Nat.le_of_ble_eq_true rfl) ?_
  show GM E mdX4_doing 2 M Rf _ I J 0 [some (vr E k), some (vi (s : Int)), some (vi (a : Int)), some (vi (mode : Int))] []
  refine G_aload_n (pc := 0) dX4_doing_0 rfl ?_
  refine G_iload_n (pc := 1) dX4_doing_1 rfl ?_
  refine G_iload_n (pc := 2) dX4_doing_2 rfl ?_
  refine G_iload_n (pc := 3) dX4_doing_3 rfl ?_
  refine G_callV1 (pc := 4) (md := mdX4_feeling) (av := [_, _, _]) dX4_doing_4 lkX4_88 mwX4_feeling (c_feeling k s a mode hk hM hH hB h1 h2 h3) rfl (by first | rfl | assumption) (by omega) rfl rfl (Nat.le_of_ble_eq_true rfl) (by decide) ⟨Nat.zero_le _, Nat.zero_le _⟩ ?_
  refine G_aload_n (pc := 7) dX4_doing_7 rfl ?_
  refine G_iload_n (pc := 8) dX4_doing_8 rfl ?_
  refine G_iload_n (pc := 9) dX4_doing_9 rfl ?_
  refine G_iload_n (pc := 10) dX4_doing_10 rfl ?_
  refine G_callV1 (pc := 11) (md := mdX4_playing) (av := [_, _, _]) dX4_doing_11 lkX4_92 mwX4_playing (c_playing k s a mode hk hM hH hB h1 h2 h3) rfl (by first | rfl | assumption) (by omega) rfl rfl (Nat.le_of_ble_eq_true rfl) (by decide) ⟨Nat.zero_le _, Nat.zero_le _⟩ ?_
  refine G_callS1 (pc := 14) (md := mdX4_doing_) (av := [_, _]) dX4_doing_14 lkX4_95 mwX4_doing_ (c_doing_ _ _ (fe_le _ _ _ _)) rfl rfl (Nat.le_of_ble_eq_true rfl) (by decide) ⟨Nat.zero_le _, Nat.zero_le _⟩ ?_
  refine G_iret (pc := 17) dX4_doing_17 rfl ?_
  exact ⟨rfl, rfl, rfl⟩
theorem c_size {E : EV} {M : Nat} {I J : Nat → Nat → Int} {hs : HS} (k s : Nat) (hk : isHouse k) (hM : 71 ≤ M) (hH : HI I k hs) (hB : HB hs) (h1 : s < zS hs) : FnF E mdX4_size 1 M Rf [vr E k, vi (s : Int)] I J (some (vi (hs 0 s : Int))) I J := by
  have hk22 := House_lt hk
  have hsh := House_sh hk
  have r := House_rf hk 0 (by omega)
  have bS := hB.1
  have v := hH.1 0 (by omega) s h1
  refine FnQ.of (by decide +kernel) (Nat.le_of_ble_eq_true rfl) ?_
  show GM E mdX4_size 1 M Rf _ I J 0 [some (vr E k), some (vi (s : Int))] []
  refine G_aload_n (pc := 0) dX4_size_0 rfl ?_
  refine G_getr (pc := 1) dX4_size_1 fiX4_9 (by first | rfl | assumption) (by omega) (by first | rfl | assumption) ?_
  refine G_iload_n (pc := 4) dX4_size_4 rfl ?_
  refine G_callS1 (pc := 5) (md := mdX11_at) (av := [_, _]) dX4_size_5 lkX4_74 mwX11_at (c_atv _ 6 _ _ (House_ar hk _ (by omega)) (by omega) (by omega) (by omega) v) rfl rfl (Nat.le_of_ble_eq_true rfl) (by decide) ⟨Nat.zero_le _, Nat.zero_le _⟩ ?_
  refine G_iret (pc := 8) dX4_size_8 rfl ?_
  exact ⟨rfl, rfl, rfl⟩
theorem c_bentOf {E : EV} {M : Nat} {I J : Nat → Nat → Int} {hs : HS} (k s : Nat) (hk : isHouse k) (hM : 71 ≤ M) (hH : HI I k hs) (hB : HB hs) (h1 : s < zS hs) : FnF E mdX4_bentOf 1 M Rf [vr E k, vi (s : Int)] I J (some (vi (hs 1 s : Int))) I J := by
  have hk22 := House_lt hk
  have hsh := House_sh hk
  have r := House_rf hk 1 (by omega)
  have bS := hB.1
  have v := hH.1 1 (by omega) s h1
  refine FnQ.of (by decide +kernel) (Nat.le_of_ble_eq_true rfl) ?_
  show GM E mdX4_bentOf 1 M Rf _ I J 0 [some (vr E k), some (vi (s : Int))] []
  refine G_aload_n (pc := 0) dX4_bentOf_0 rfl ?_
  refine G_getr (pc := 1) dX4_bentOf_1 fiX4_15 (by first | rfl | assumption) (by omega) (by first | rfl | assumption) ?_
  refine G_iload_n (pc := 4) dX4_bentOf_4 rfl ?_
  refine G_callS1 (pc := 5) (md := mdX11_at) (av := [_, _]) dX4_bentOf_5 lkX4_74 mwX11_at (c_atv _ 6 _ _ (House_ar hk _ (by omega)) (by omega) (by omega) (by omega) v) rfl rfl (Nat.le_of_ble_eq_true rfl) (by decide) ⟨Nat.zero_le _, Nat.zero_le _⟩ ?_
  refine G_iret (pc := 8) dX4_bentOf_8 rfl ?_
  exact ⟨rfl, rfl, rfl⟩
theorem c_length {E : EV} {M : Nat} {I J : Nat → Nat → Int} {hs : HS} (k a : Nat) (hk : isHouse k) (hM : 71 ≤ M) (hH : HI I k hs) (hB : HB hs) (h1 : a < zA hs) : FnF E mdX4_length 1 M Rf [vr E k, vi (a : Int)] I J (some (vi (hs 7 a : Int))) I J := by
  have hk22 := House_lt hk
  have hsh := House_sh hk
  have r := House_rf hk 7 (by omega)
  have bA := hB.2.1
  have v := hH.2.1 7 (by omega) (by omega) a h1
  refine FnQ.of (by decide +kernel) (Nat.le_of_ble_eq_true rfl) ?_
  show GM E mdX4_length 1 M Rf _ I J 0 [some (vr E k), some (vi (a : Int))] []
  refine G_aload_n (pc := 0) dX4_length_0 rfl ?_
  refine G_getr (pc := 1) dX4_length_1 fiX4_33 (by first | rfl | assumption) (by omega) (by first | rfl | assumption) ?_
  refine G_iload_n (pc := 4) dX4_length_4 rfl ?_
  refine G_callS1 (pc := 5) (md := mdX11_at) (av := [_, _]) dX4_length_5 lkX4_74 mwX11_at (c_atv _ 6 _ _ (House_ar hk _ (by omega)) (by omega) (by omega) (by omega) v) rfl rfl (Nat.le_of_ble_eq_true rfl) (by decide) ⟨Nat.zero_le _, Nat.zero_le _⟩ ?_
  refine G_iret (pc := 8) dX4_length_8 rfl ?_
  exact ⟨rfl, rfl, rfl⟩
theorem c_hasSort {E : EV} {M : Nat} {I J : Nat → Nat → Int} {hs : HS} (k : Nat) (s : Int) (hk : isHouse k) (hM : 71 ≤ M) (hH : HI I k hs) (hB : HB hs) (hs0 : Ri s) : FnF E mdX4_hasSort 0 M Rf [vr E k, vi s] I J (some (vi (bI (0 ≤ s ∧ s < (zS hs : Int))))) I J := by
  have hk22 := House_lt hk
  have hsh := House_sh hk
  have v : I k 8 = (zS hs : Int) := hH.2.2 8 (by omega) (by omega)
  have bS := hB.1
  refine FnQ.of (by decide +kernel) (Nat.le_of_ble_eq_true rfl) ?_
  show GM E mdX4_hasSort 0 M Rf _ I J 0 [some (vr E k), some (vi s)] []
  refine G_iload_n (pc := 0) dX4_hasSort_0 rfl ?_
  refine G_if_lt (pc := 1) (tgt := 16) dX4_hasSort_1 hs0 (by decide) (fun h_1 => ?_) (fun h_1 => ?_)
  · refine G_iconst (pc := 16) dX4_hasSort_16 ?_
    refine G_zret (pc := 17) dX4_hasSort_17 rfl (by omega) ?_
    exact ⟨by first | rw [bI_t (by omega)] | rw [bI_f (by omega)], rfl, rfl⟩
  · refine G_iload_n (pc := 4) dX4_hasSort_4 rfl ?_
    refine G_aload_n (pc := 5) dX4_hasSort_5 rfl ?_
    refine G_geti (pc := 6) dX4_hasSort_6 fiX4_39 (by first | rfl | assumption) (by omega) ?_
    refine G_icmp_ge (pc := 9) (tgt := 16) dX4_hasSort_9 hs0 (Ri.mk (by omega) (by omega)) (by decide) (fun h_9 => ?_) (fun h_9 => ?_)
    · refine G_iconst (pc := 16) dX4_hasSort_16 ?_
      refine G_zret (pc := 17) dX4_hasSort_17 rfl (by omega) ?_
      exact ⟨by first | rw [bI_t (by omega)] | rw [bI_f (by omega)], rfl, rfl⟩
    · refine G_iconst (pc := 12) dX4_hasSort_12 ?_
      refine G_goto (pc := 13) (tgt := 17) dX4_hasSort_13 (by decide) ?_
      refine G_zret (pc := 17) dX4_hasSort_17 rfl (by omega) ?_
      exact ⟨by first | rw [bI_t (by omega)] | rw [bI_f (by omega)], rfl, rfl⟩
theorem c_hasAsk {E : EV} {M : Nat} {I J : Nat → Nat → Int} {hs : HS} (k : Nat) (s : Int) (hk : isHouse k) (hM : 71 ≤ M) (hH : HI I k hs) (hB : HB hs) (hs0 : Ri s) : FnF E mdX4_hasAsk 0 M Rf [vr E k, vi s] I J (some (vi (bI (0 ≤ s ∧ s < (zA hs : Int))))) I J := by
  have hk22 := House_lt hk
  have hsh := House_sh hk
  have v : I k 9 = (zA hs : Int) := hH.2.2 9 (by omega) (by omega)
  have bA := hB.2.1
  refine FnQ.of (by decide +kernel) (Nat.le_of_ble_eq_true rfl) ?_
  show GM E mdX4_hasAsk 0 M Rf _ I J 0 [some (vr E k), some (vi s)] []
  refine G_iload_n (pc := 0) dX4_hasAsk_0 rfl ?_
  refine G_if_lt (pc := 1) (tgt := 16) dX4_hasAsk_1 hs0 (by decide) (fun h_1 => ?_) (fun h_1 => ?_)
  · refine G_iconst (pc := 16) dX4_hasAsk_16 ?_
    refine G_zret (pc := 17) dX4_hasAsk_17 rfl (by omega) ?_
    exact ⟨by first | rw [bI_t (by omega)] | rw [bI_f (by omega)], rfl, rfl⟩
  · refine G_iload_n (pc := 4) dX4_hasAsk_4 rfl ?_
    refine G_aload_n (pc := 5) dX4_hasAsk_5 rfl ?_
    refine G_geti (pc := 6) dX4_hasAsk_6 fiX4_43 (by first | rfl | assumption) (by omega) ?_
    refine G_icmp_ge (pc := 9) (tgt := 16) dX4_hasAsk_9 hs0 (Ri.mk (by omega) (by omega)) (by decide) (fun h_9 => ?_) (fun h_9 => ?_)
    · refine G_iconst (pc := 16) dX4_hasAsk_16 ?_
      refine G_zret (pc := 17) dX4_hasAsk_17 rfl (by omega) ?_
      exact ⟨by first | rw [bI_t (by omega)] | rw [bI_f (by omega)], rfl, rfl⟩
    · refine G_iconst (pc := 12) dX4_hasAsk_12 ?_
      refine G_goto (pc := 13) (tgt := 17) dX4_hasAsk_13 (by decide) ?_
      refine G_zret (pc := 17) dX4_hasAsk_17 rfl (by omega) ?_
      exact ⟨by first | rw [bI_t (by omega)] | rw [bI_f (by omega)], rfl, rfl⟩
theorem c_put {E : EV} {M : Nat} {R : Nat → Nat → Option Nat} {I J : Nat → Nat → Int} (q z x : Nat) (a b : Int) (hs : shp q = .inr (0, z)) (hq : q < M) (hz : z < 2147483648) (hx : x < z) (ha : a = x) : FnF E mdX11_put 0 M R [vr E q, vi a, vi b] I J none (wr I q x b) J := by
  subst ha
  refine FnQ.of (by decide +kernel) (Nat.le_of_ble_eq_true rfl) ?_
  show GM E mdX11_put 0 M R _ I J 0 [some (vr E q), some (vi (x : Int)), some (vi b)] []
  refine G_iload_n (pc := 0) dX11_put_0 rfl ?_
  refine G_if_lt (pc := 1) (tgt := 14) dX11_put_1 (Ri.mk (by omega) (by omega)) (by decide) (fun h_1 => ?_) (fun h_1 => ?_)
  · exact absurd h_1 (by omega)
  · refine G_iload_n (pc := 4) dX11_put_4 rfl ?_
    refine G_aload_n (pc := 5) dX11_put_5 rfl ?_
    refine G_alen (pc := 6) dX11_put_6 (by first | rfl | assumption) (by decide) (by omega) ?_
    refine G_icmp_ge (pc := 7) (tgt := 14) dX11_put_7 (Ri.mk (by omega) (by omega)) (Ri.mk (by omega) (by omega)) (by decide) (fun h_7 => ?_) (fun h_7 => ?_)
    · exact absurd h_7 (by omega)
    · refine G_aload_n (pc := 10) dX11_put_10 rfl ?_
      refine G_iload_n (pc := 11) dX11_put_11 rfl ?_
      refine G_iload_n (pc := 12) dX11_put_12 rfl ?_
      refine G_iast (pc := 13) dX11_put_13 (by first | rfl | assumption) (by omega) (by omega) (by omega) (by omega) ?_
      refine G_vret (pc := 14) dX11_put_14 rfl ?_
      exact ⟨rfl, by rw [Int.toNat_natCast], rfl⟩
theorem c_easedBySugar {E : EV} {M : Nat} {I J : Nat → Nat → Int} {hs : HS} (k : Nat) (hk : isHouse k) (hM : 71 ≤ M) (hH : HI I k hs) (hB : HB hs) : FnF E mdX4_easedBySugar 0 M Rf [vr E k] I J (some (vi ((hs 12 0 * hs 13 0 / 10 : Nat) : Int))) I J := by
  have hk22 := House_lt hk
  have hsh := House_sh hk
  have v1 := hH.2.2 12 (by omega) (by omega)
  have v2 := hH.2.2 13 (by omega) (by omega)
  obtain ⟨-, -, -, -, -, -, -, b1, b2⟩ := hB
  have b3 := Nat.mul_le_mul b1 b2
  refine FnQ.of (by decide +kernel) (Nat.le_of_ble_eq_true rfl) ?_
  show GM E mdX4_easedBySugar 0 M Rf _ I J 0 [some (vr E k)] []
  refine G_aload_n (pc := 0) dX4_easedBySugar_0 rfl ?_
  refine G_geti (pc := 1) dX4_easedBySugar_1 fiX4_60 (by first | rfl | assumption) (by omega) ?_
  refine G_aload_n (pc := 4) dX4_easedBySugar_4 rfl ?_
  refine G_geti (pc := 5) dX4_easedBySugar_5 fiX4_63 (by first | rfl | assumption) (by omega) ?_
  refine G_imul (pc := 8) dX4_easedBySugar_8 ?_
  refine G_bipush (pc := 9) dX4_easedBySugar_9 (by decide) ?_
  rw [v1, v2, ← Int.natCast_mul]
  refine G_idiv (pc := 11) dX4_easedBySugar_11 (Ri.mk (by omega) (by omega)) (Ri.mk (by omega) (by omega)) (by omega) ?_
  refine G_iret (pc := 12) dX4_easedBySugar_12 rfl ?_
  exact ⟨by rw [Int.natCast_ediv]; rfl, rfl, rfl⟩
theorem c_setMan {E : EV} {M : Nat} {R : Nat → Nat → Option Nat} {I J : Nat → Nat → Int} (k : Nat) (a : Int) (hk : isHouse k) (hM : k < M) (ha : Ri a) : FnF E mdX4_setMan 1 M R [vr E k, vi a] I J (some (vi (bI (0 ≤ a ∧ a ≤ 10)))) (if 0 ≤ a ∧ a ≤ 10 then wr I k 11 a else I) J := by
  have hsh := House_sh hk
  refine FnQ.of (by decide +kernel) (Nat.le_of_ble_eq_true rfl) ?_
  show GM E mdX4_setMan 1 M R _ I J 0 [some (vr E k), some (vi a)] []
  refine G_iload_n (pc := 0) dX4_setMan_0 rfl ?_
  refine G_iconst (pc := 1) dX4_setMan_1 ?_
  refine G_bipush (pc := 2) dX4_setMan_2 (by decide) ?_
  refine G_callS1 (pc := 4) (md := mdX11_within) (av := [_, _, _]) dX4_setMan_4 lkX4_66 mwX11_within (c_within _ _ _ ha (Ri.mk (by omega) (by omega)) (Ri.mk (by omega) (by omega))) rfl rfl (Nat.le_of_ble_eq_true rfl) (by decide) ⟨Nat.zero_le _, Nat.zero_le _⟩ ?_
  refine G_if_ne (pc := 7) (tgt := 12) dX4_setMan_7 bI_R (by decide) (fun h_7 => ?_) (fun h_7 => ?_)
  · try simp only [bI_eq0, bI_ne0] at h_7
    refine G_aload_n (pc := 12) dX4_setMan_12 rfl ?_
    refine G_iload_n (pc := 13) dX4_setMan_13 rfl ?_
    refine G_puti (pc := 14) dX4_setMan_14 fiX4_49 (by first | rfl | assumption) (by omega) ?_
    refine G_iconst (pc := 17) dX4_setMan_17 ?_
    refine G_zret (pc := 18) dX4_setMan_18 rfl (by omega) ?_
    exact ⟨by first | rw [bI_t (by omega)] | rw [bI_f (by omega)], by first | rw [if_pos (by omega)] | rw [if_neg (by omega)], rfl⟩
  · try simp only [bI_eq0, bI_ne0] at h_7
    refine G_iconst (pc := 10) dX4_setMan_10 ?_
    refine G_zret (pc := 11) dX4_setMan_11 rfl (by omega) ?_
    exact ⟨by first | rw [bI_t (by omega)] | rw [bI_f (by omega)], by first | rw [if_pos (by omega)] | rw [if_neg (by omega)], rfl⟩
theorem c_setPain {E : EV} {M : Nat} {R : Nat → Nat → Option Nat} {I J : Nat → Nat → Int} (k : Nat) (a b : Int) (hk : isHouse k) (hM : k < M) (ha : Ri a) (hb : Ri b) : FnF E mdX4_setPain 1 M R [vr E k, vi a, vi b] I J (some (vi (bI ((0 ≤ a ∧ a ≤ 99) ∧ 0 ≤ b ∧ b ≤ 10)))) (if (0 ≤ a ∧ a ≤ 99) ∧ 0 ≤ b ∧ b ≤ 10 then wr (wr I k 12 a) k 13 b else I) J := by
  have hsh := House_sh hk
  refine FnQ.of (by decide +kernel) (Nat.le_of_ble_eq_true rfl) ?_
  show GM E mdX4_setPain 1 M R _ I J 0 [some (vr E k), some (vi a), some (vi b)] []
  refine G_iload_n (pc := 0) dX4_setPain_0 rfl ?_
  refine G_iconst (pc := 1) dX4_setPain_1 ?_
  refine G_bipush (pc := 2) dX4_setPain_2 (by decide) ?_
  refine G_callS1 (pc := 4) (md := mdX11_within) (av := [_, _, _]) dX4_setPain_4 lkX4_66 mwX11_within (c_within _ _ _ ha (Ri.mk (by omega) (by omega)) (Ri.mk (by omega) (by omega))) rfl rfl (Nat.le_of_ble_eq_true rfl) (by decide) ⟨Nat.zero_le _, Nat.zero_le _⟩ ?_
  refine G_if_eq (pc := 7) (tgt := 20) dX4_setPain_7 bI_R (by decide) (fun h_7 => ?_) (fun h_7 => ?_)
  · try simp only [bI_eq0, bI_ne0] at h_7
    refine G_iconst (pc := 20) dX4_setPain_20 ?_
    refine G_zret (pc := 21) dX4_setPain_21 rfl (by omega) ?_
    exact ⟨by first | rw [bI_t (by omega)] | rw [bI_f (by omega)], by first | rw [if_pos (by omega)] | rw [if_neg (by omega)], rfl⟩
  · try simp only [bI_eq0, bI_ne0] at h_7
    refine G_iload_n (pc := 10) dX4_setPain_10 rfl ?_
    refine G_iconst (pc := 11) dX4_setPain_11 ?_
    refine G_bipush (pc := 12) dX4_setPain_12 (by decide) ?_
    refine G_callS1 (pc := 14) (md := mdX11_within) (av := [_, _, _]) dX4_setPain_14 lkX4_66 mwX11_within (c_within _ _ _ hb (Ri.mk (by omega) (by omega)) (Ri.mk (by omega) (by omega))) rfl rfl (Nat.le_of_ble_eq_true rfl) (by decide) ⟨Nat.zero_le _, Nat.zero_le _⟩ ?_
    refine G_if_ne (pc := 17) (tgt := 22) dX4_setPain_17 bI_R (by decide) (fun h_17 => ?_) (fun h_17 => ?_)
    · try simp only [bI_eq0, bI_ne0] at h_17
      refine G_aload_n (pc := 22) dX4_setPain_22 rfl ?_
      refine G_iload_n (pc := 23) dX4_setPain_23 rfl ?_
      refine G_puti (pc := 24) dX4_setPain_24 fiX4_60 (by first | rfl | assumption) (by omega) ?_
      refine G_aload_n (pc := 27) dX4_setPain_27 rfl ?_
      refine G_iload_n (pc := 28) dX4_setPain_28 rfl ?_
      refine G_puti (pc := 29) dX4_setPain_29 fiX4_63 (by first | rfl | assumption) (by omega) ?_
      refine G_iconst (pc := 32) dX4_setPain_32 ?_
      refine G_zret (pc := 33) dX4_setPain_33 rfl (by omega) ?_
      exact ⟨by first | rw [bI_t (by omega)] | rw [bI_f (by omega)], by first | rw [if_pos (by omega)] | rw [if_neg (by omega)], rfl⟩
    · try simp only [bI_eq0, bI_ne0] at h_17
      refine G_iconst (pc := 20) dX4_setPain_20 ?_
      refine G_zret (pc := 21) dX4_setPain_21 rfl (by omega) ?_
      exact ⟨by first | rw [bI_t (by omega)] | rw [bI_f (by omega)], by first | rw [if_pos (by omega)] | rw [if_neg (by omega)], rfl⟩
theorem c_clear {E : EV} {M : Nat} {R : Nat → Nat → Option Nat} {I J : Nat → Nat → Int} (k : Nat) (hk : isHouse k) (hM : k < M) : FnF E mdX4_clear 2 M R [vr E k] I J none (wr (wr (wr (wr (wr (wr I k 8 0) k 9 0) k 10 0) k 11 1) k 12 50) k 13 2) J := by
  have hsh := House_sh hk
  refine FnQ.of (by decide +kernel) (Nat.le_of_ble_eq_true rfl) ?_
  show GM E mdX4_clear 2 M R _ I J 0 [some (vr E k)] []
  refine G_aload_n (pc := 0) dX4_clear_0 rfl ?_
  refine G_iconst (pc := 1) dX4_clear_1 ?_
  refine G_puti (pc := 2) dX4_clear_2 fiX4_39 (by first | rfl | assumption) (by omega) ?_
  refine G_aload_n (pc := 5) dX4_clear_5 rfl ?_
  refine G_iconst (pc := 6) dX4_clear_6 ?_
  refine G_puti (pc := 7) dX4_clear_7 fiX4_43 (by first | rfl | assumption) (by omega) ?_
  refine G_aload_n (pc := 10) dX4_clear_10 rfl ?_
  refine G_iconst (pc := 11) dX4_clear_11 ?_
  refine G_puti (pc := 12) dX4_clear_12 fiX4_46 (by first | rfl | assumption) (by omega) ?_
  refine G_aload_n (pc := 15) dX4_clear_15 rfl ?_
  refine G_iconst (pc := 16) dX4_clear_16 ?_
  refine G_puti (pc := 17) dX4_clear_17 fiX4_49 (by first | rfl | assumption) (by omega) ?_
  refine G_aload_n (pc := 20) dX4_clear_20 rfl ?_
  refine G_bipush (pc := 21) dX4_clear_21 (by decide) ?_
  refine G_iconst (pc := 23) dX4_clear_23 ?_
  refine G_callV1 (pc := 24) (md := mdX4_setPain) (av := [_, _]) dX4_clear_24 lkX4_52 mwX4_setPain (c_setPain k 50 2 hk hM (Ri.mk (by omega) (by omega)) (Ri.mk (by omega) (by omega))) rfl (by first | rfl | assumption) (by omega) rfl rfl (Nat.le_of_ble_eq_true rfl) (by decide) ⟨Nat.zero_le _, Nat.zero_le _⟩ ?_
  refine G_pop (pc := 27) dX4_clear_27 rfl ?_
  refine G_vret (pc := 28) dX4_clear_28 rfl ?_
  exact ⟨rfl, by rw [if_pos (by omega)], rfl⟩
theorem c_copyRow {E : EV} {M : Nat} {R : Nat → Nat → Option Nat} {I J : Nat → Nat → Int} (q r z : Nat) (hs : shp q = .inr (0, z)) (hs2 : shp r = .inr (0, z)) (hq : q < M) (hr : r < M) (hz : z < 2147483648) (hne : q ≠ r) : FnF E mdX11_copyRow 1 M R [vr E q, vr E r] I J none (cpR I q r z) J := by
  refine FnQ.of (by decide +kernel) (Nat.le_of_ble_eq_true rfl) ?_
  show GM E mdX11_copyRow 1 M R _ I J 0 [some (vr E q), some (vr E r), none] []
  have loop : ∀ (n i : Nat), i + n = z → GM E mdX11_copyRow 1 M R (QF none (cpR I q r z) J) (cpR I q r i) J 2 [some (vr E q), some (vr E r), some (vi (i : Int))] [] := by
    intro n
    induction n with
    | zero =>
      intro i hi
      have hi : i = z := by omega
      subst hi
      refine G_iload_n (pc := 2) dX11_copyRow_2 rfl ?_
      refine G_aload_n (pc := 3) dX11_copyRow_3 rfl ?_
      refine G_alen (pc := 4) dX11_copyRow_4 (by first | rfl | assumption) (by decide) (by omega) ?_
      refine G_icmp_ge (pc := 5) (tgt := 22) dX11_copyRow_5 (Ri.mk (by omega) (by omega)) (Ri.mk (by omega) (by omega)) (by decide) (fun h_5 => ?_) (fun h_5 => ?_)
      · refine G_vret (pc := 22) dX11_copyRow_22 rfl ?_
        exact ⟨rfl, rfl, rfl⟩
      · exact absurd h_5 (by omega)
    | succ n ih =>
      intro i hi
      refine G_iload_n (pc := 2) dX11_copyRow_2 rfl ?_
      refine G_aload_n (pc := 3) dX11_copyRow_3 rfl ?_
      refine G_alen (pc := 4) dX11_copyRow_4 (by first | rfl | assumption) (by decide) (by omega) ?_
      refine G_icmp_ge (pc := 5) (tgt := 22) dX11_copyRow_5 (Ri.mk (by omega) (by omega)) (Ri.mk (by omega) (by omega)) (by decide) (fun h_5 => ?_) (fun h_5 => ?_)
      · exact absurd h_5 (by omega)
      · refine G_aload_n (pc := 8) dX11_copyRow_8 rfl ?_
        refine G_iload_n (pc := 9) dX11_copyRow_9 rfl ?_
        refine G_aload_n (pc := 10) dX11_copyRow_10 rfl ?_
        refine G_iload_n (pc := 11) dX11_copyRow_11 rfl ?_
        refine G_callS1 (pc := 12) (md := mdX11_at) (av := [_, _]) dX11_copyRow_12 lkX11_271 mwX11_at (c_atv r z i _ hs2 hr hz (by omega) rfl) rfl rfl (Nat.le_of_ble_eq_true rfl) (by decide) ⟨Nat.zero_le _, Nat.zero_le _⟩ ?_
        refine G_iast (pc := 15) dX11_copyRow_15 (by first | rfl | assumption) (by omega) (by omega) (by omega) (by omega) ?_
        refine G_iinc (pc := 16) (lv' := [_, _, _]) dX11_copyRow_16 (by decide) rfl rfl ?_
        refine G_goto (pc := 19) (tgt := 2) dX11_copyRow_19 (by decide) ?_
        refine G_eq ?_ rfl ?_ rfl (ih (i + 1) (by omega))
        · rw [Int.toNat_natCast]; exact cpR_n hne
        · rfl
  refine G_iconst (pc := 0) dX11_copyRow_0 ?_
  refine G_istore_n (pc := 1) (lv' := [_, _, _]) dX11_copyRow_1 (by decide) rfl ?_
  exact G_eq (cpR_0 I q r).symm rfl rfl rfl (loop z 0 (by omega))
