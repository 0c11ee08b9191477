/-! THE REFERENCE: nights asked -/
section MOD11
variable {E : EV} {M : Nat} {I J : Nat → Nat → Int} {n : Nat} {tx : Nat → Int} {hs : HS} {C : CS} {kn : Nat} {K : Nat → CS}
theorem y_night (z w : Int) (hM : 87 ≤ M) (hC : MI I n tx hs C kn K) (hW : WF n tx hs C kn K) (rz : Ri z) (rw_ : Ri w) : FnQ E mdX12_night 8 M Rf [vr E 71, vi z, vi w] I J (MQ' I J (aNight hs C z w) n tx hs C kn K) := by
  obtain ⟨-, -, hB, -, -, hRB, hTB, -⟩ := id hW
  have bN := hB.2.2.1
  have r3 := rw_.lo
  have r4 := rw_.hi
  obtain ⟨nb1, nb2, nb3⟩ := NS_B hs C z.toNat (C 0 0)
  have nb1 : ∀ p, thE hs C z.toNat p ≤ 1 := nb1
  have nb3 : ∀ p, pyE hs C z.toNat p ≤ thE hs C z.toNat p := nb3
  refine FnQ.of (by decide +kernel) (Nat.le_of_ble_eq_true rfl) ?_
  show GM E mdX12_night 8 M Rf _ I J 0 [some (vr E 71), some (vi z), some (vi w), none, none, none] []
  have loop : ∀ (r i : Nat) (x : Int) (I1 : Nat → Nat → Int), i + r = zN hs → x = (sumN (pyE hs C z.toNat) i : Nat) → (0 ≤ z ∧ z ≤ 9999) → (0 ≤ w ∧ w ≤ 2) → Off I I1 71 86 → MI I1 n tx hs C kn K → NMI I1 (zN hs) (thE hs C z.toNat) (pyE hs C z.toNat) → I1 71 20 = sxN hs C z.toNat (C 0 0) → GM E mdX12_night 8 M Rf (MQ' I J (aNight hs C z w) n tx hs C kn K) I1 J 33 [some (vr E 71), some (vi z), some (vi w), some (vi (sumN (thE hs C z.toNat) (zN hs) : Int)), some (vi x), some (vi (i : Int))] [] := by
    intro r
    induction r with
    | zero =>
      intro i x I1 hi hx hz hw hO hC1 hN h6
      have hi : i = zN hs := by omega
      subst hi
      refine G_iload (pc := 33) dX12_night_33 rfl ?_
      refine G_aload_n (pc := 35) dX12_night_35 rfl ?_
      refine G_iconst (pc := 36) dX12_night_36 ?_
      refine G_callV1 (pc := 37) (md := mdX12_folk) (av := [_]) dX12_night_37 lkX12_99 mwX12_folk (m_folk 0 (by omega) hM hC1.2.1 hB) rfl (by first | rfl | assumption) (by omega) rfl rfl (Nat.le_of_ble_eq_true rfl) (by decide) ⟨Nat.zero_le _, Nat.zero_le _⟩ ?_
      refine G_icmp_ge (pc := 40) (tgt := 79) dX12_night_40 (Ri.mk (by omega) (by omega)) (Ri.mk (by omega) (by omega)) (by decide) (fun h_40 => ?_) (fun h_40 => ?_)
      · refine G_iload_n (pc := 79) dX12_night_79 rfl ?_
        refine G_if_ne (pc := 80) (tgt := 87) dX12_night_80 rw_ (by decide) (fun h_80 => ?_) (fun h_80 => ?_)
        · try simp only [bI_eq0, bI_ne0] at h_80
          refine G_iload_n (pc := 87) dX12_night_87 rfl ?_
          refine G_iconst (pc := 88) dX12_night_88 ?_
          refine G_icmp_ne (pc := 89) (tgt := 97) dX12_night_89 rw_ (Ri.mk (by omega) (by omega)) (by decide) (fun h_89 => ?_) (fun h_89 => ?_)
          · refine G_aload_n (pc := 97) dX12_night_97 rfl ?_
            refine G_getiv (pc := 98) dX12_night_98 fiX12_208 (by first | rfl | assumption) (by omega) (h6) ?_
            refine G_iret (pc := 101) dX12_night_101 rfl ?_
            exact ⟨by unfold aNight; rw [if_pos ⟨hz, hw⟩]; first | rw [if_pos (by omega)] | rw [if_neg (by omega), if_pos (by omega), hx] | rw [if_neg (by omega), if_neg (by omega)], hO, Off.rfl, hC1⟩
          · refine G_iload (pc := 92) dX12_night_92 rfl ?_
            refine G_goto (pc := 94) (tgt := 101) dX12_night_94 (by decide) ?_
            refine G_iret (pc := 101) dX12_night_101 rfl ?_
            exact ⟨by unfold aNight; rw [if_pos ⟨hz, hw⟩]; first | rw [if_pos (by omega)] | rw [if_neg (by omega), if_pos (by omega), hx] | rw [if_neg (by omega), if_neg (by omega)], hO, Off.rfl, hC1⟩
        · try simp only [bI_eq0, bI_ne0] at h_80
          refine G_iload_n (pc := 83) dX12_night_83 rfl ?_
          refine G_goto (pc := 84) (tgt := 101) dX12_night_84 (by decide) ?_
          refine G_iret (pc := 101) dX12_night_101 rfl ?_
          exact ⟨by unfold aNight; rw [if_pos ⟨hz, hw⟩]; first | rw [if_pos (by omega)] | rw [if_neg (by omega), if_pos (by omega), hx] | rw [if_neg (by omega), if_neg (by omega)], hO, Off.rfl, hC1⟩
      · exact absurd h_40 (by omega)
    | succ r ih =>
      intro i x I1 hi hx hz hw hO hC1 hN h6
      have g1 := nb1 i
      have g3 := nb3 i
      have gs := sumN_le1 (fun p => Nat.le_trans (nb3 p) (nb1 p)) i
      have hv : I1 84 ((i : Int)).toNat = (thE hs C z.toNat i : Int) := by rw [Int.toNat_natCast]; exact (hN i (by omega)).1
      have hv2 : thE hs C z.toNat i = 1 → I1 85 ((i : Int)).toNat = (pyE hs C z.toNat i : Int) := fun h => by rw [Int.toNat_natCast]; exact (hN i (by omega)).2 h
      have hsu : sumN (pyE hs C z.toNat) (i + 1) = sumN (pyE hs C z.toNat) i + pyE hs C z.toNat i := rfl
      refine G_iload (pc := 33) dX12_night_33 rfl ?_
      refine G_aload_n (pc := 35) dX12_night_35 rfl ?_
      refine G_iconst (pc := 36) dX12_night_36 ?_
      refine G_callV1 (pc := 37) (md := mdX12_folk) (av := [_]) dX12_night_37 lkX12_99 mwX12_folk (m_folk 0 (by omega) hM hC1.2.1 hB) rfl (by first | rfl | assumption) (by omega) rfl rfl (Nat.le_of_ble_eq_true rfl) (by decide) ⟨Nat.zero_le _, Nat.zero_le _⟩ ?_
      refine G_icmp_ge (pc := 40) (tgt := 79) dX12_night_40 (Ri.mk (by omega) (by omega)) (Ri.mk (by omega) (by omega)) (by decide) (fun h_40 => ?_) (fun h_40 => ?_)
      · exact absurd h_40 (by omega)
      · refine G_iload (pc := 43) dX12_night_43 rfl ?_
        refine G_aload_n (pc := 45) dX12_night_45 rfl ?_
        refine G_getr (pc := 46) dX12_night_46 fiX12_48 (by first | rfl | assumption) (by omega) (by first | rfl | assumption) ?_
        refine G_iload (pc := 49) dX12_night_49 rfl ?_
        refine G_zaldv (pc := 51) dX12_night_51 (by first | rfl | assumption) (by omega) (by omega) (by omega) (by omega) (hv) ?_
        refine G_if_eq (pc := 52) (tgt := 69) dX12_night_52 (Ri.mk (by omega) (by omega)) (by decide) (fun h_52 => ?_) (fun h_52 => ?_)
        · try simp only [bI_eq0, bI_ne0] at h_52
          refine G_iconst (pc := 69) dX12_night_69 ?_
          refine G_iadd (pc := 70) dX12_night_70 ?_
          refine G_istore (pc := 71) (lv' := [_, _, _, _, _, _]) dX12_night_71 (by decide) rfl ?_
          refine G_iinc (pc := 73) (lv' := [_, _, _, _, _, _]) dX12_night_73 (by decide) rfl rfl ?_
          refine G_goto (pc := 76) (tgt := 33) dX12_night_76 (by decide) ?_
          exact ih (i + 1) _ I1 (by omega) (by rw [hx, hsu]; omega) hz hw hO hC1 hN h6
        · try simp only [bI_eq0, bI_ne0] at h_52
          refine G_aload_n (pc := 55) dX12_night_55 rfl ?_
          refine G_getr (pc := 56) dX12_night_56 fiX12_52 (by first | rfl | assumption) (by omega) (by first | rfl | assumption) ?_
          refine G_iload (pc := 59) dX12_night_59 rfl ?_
          refine G_zaldv (pc := 61) dX12_night_61 (by first | rfl | assumption) (by omega) (by omega) (by omega) (by omega) (hv2 (by omega)) ?_
          refine G_if_eq (pc := 62) (tgt := 69) dX12_night_62 (Ri.mk (by omega) (by omega)) (by decide) (fun h_62 => ?_) (fun h_62 => ?_)
          · try simp only [bI_eq0, bI_ne0] at h_62
            refine G_iconst (pc := 69) dX12_night_69 ?_
            refine G_iadd (pc := 70) dX12_night_70 ?_
            refine G_istore (pc := 71) (lv' := [_, _, _, _, _, _]) dX12_night_71 (by decide) rfl ?_
            refine G_iinc (pc := 73) (lv' := [_, _, _, _, _, _]) dX12_night_73 (by decide) rfl rfl ?_
            refine G_goto (pc := 76) (tgt := 33) dX12_night_76 (by decide) ?_
            exact ih (i + 1) _ I1 (by omega) (by rw [hx, hsu]; omega) hz hw hO hC1 hN h6
          · try simp only [bI_eq0, bI_ne0] at h_62
            refine G_iconst (pc := 65) dX12_night_65 ?_
            refine G_goto (pc := 66) (tgt := 70) dX12_night_66 (by decide) ?_
            refine G_iadd (pc := 70) dX12_night_70 ?_
            refine G_istore (pc := 71) (lv' := [_, _, _, _, _, _]) dX12_night_71 (by decide) rfl ?_
            refine G_iinc (pc := 73) (lv' := [_, _, _, _, _, _]) dX12_night_73 (by decide) rfl rfl ?_
            refine G_goto (pc := 76) (tgt := 33) dX12_night_76 (by decide) ?_
            exact ih (i + 1) _ I1 (by omega) (by rw [hx, hsu]; omega) hz hw hO hC1 hN h6
  refine G_iload_n (pc := 0) dX12_night_0 rfl ?_
  refine G_callS1 (pc := 1) (md := mdX12_isSeed) (av := [_]) dX12_night_1 lkX12_219 mwX12_isSeed (m_isSeed z rz) rfl rfl (Nat.le_of_ble_eq_true rfl) (by decide) ⟨Nat.zero_le _, Nat.zero_le _⟩ ?_
  refine G_if_eq (pc := 4) (tgt := 19) dX12_night_4 bI_R (by decide) (fun h_4 => ?_) (fun h_4 => ?_)
  · try simp only [bI_eq0, bI_ne0] at h_4
    refine G_iconst (pc := 19) dX12_night_19 ?_
    refine G_iret (pc := 20) dX12_night_20 rfl ?_
    exact ⟨by unfold aNight; rw [if_neg (by omega)], Off.rfl, Off.rfl, hC⟩
  · try simp only [bI_eq0, bI_ne0] at h_4
    refine G_iload_n (pc := 7) dX12_night_7 rfl ?_
    refine G_i2l (pc := 8) dX12_night_8 rw_ ?_
    refine G_lconst (pc := 9) dX12_night_9 ?_
    refine G_ldc2 (pc := 10) dX12_night_10 klX12_135 ?_
    refine G_callS1 (pc := 13) (md := mdX12_in) (av := [_, _, _]) dX12_night_13 lkX12_66 mwX12_in (m_inI _ _ _ (0 ≤ w ∧ w ≤ 2) (by omega) (Rl.mk (by omega) (by omega)) (Rl.mk (by omega) (by omega)) (Rl.mk (by omega) (by omega))) rfl rfl (Nat.le_of_ble_eq_true rfl) (by decide) ⟨Nat.zero_le _, Nat.zero_le _⟩ ?_
    refine G_if_ne (pc := 16) (tgt := 21) dX12_night_16 bI_R (by decide) (fun h_16 => ?_) (fun h_16 => ?_)
    · try simp only [bI_eq0, bI_ne0] at h_16
      refine G_aload_n (pc := 21) dX12_night_21 rfl ?_
      refine G_iload_n (pc := 22) dX12_night_22 rfl ?_
      refine G_callV (pc := 23) (md := mdX12_goes) (av := [_]) dX12_night_23 lkX12_222 mwX12_goes (FnQ.av (by rw [Int.toNat_of_nonneg (show 0 ≤ z by omega)]) (m_goes z.toNat hM hC.2.1 hB hC.2.2.1 hRB (by omega))) rfl (by first | rfl | assumption) (by omega) rfl rfl (Nat.le_of_ble_eq_true rfl) (by decide) ⟨Nat.zero_le _, Nat.zero_le _⟩ ?_
      rintro v I1 J1 ⟨rfl, rfl, hO, hN, h6⟩
      refine G_istore_n (pc := 26) (lv' := [_, _, _, _, _, _]) dX12_night_26 (by decide) rfl ?_
      refine G_iconst (pc := 27) dX12_night_27 ?_
      refine G_istore (pc := 28) (lv' := [_, _, _, _, _, _]) dX12_night_28 (by decide) rfl ?_
      refine G_iconst (pc := 30) dX12_night_30 ?_
      refine G_istore (pc := 31) (lv' := [_, _, _, _, _, _]) dX12_night_31 (by decide) rfl ?_
      exact loop (zN hs) 0 0 I1 (by omega) rfl (by omega) (by omega) hO.off (hO.mi hC) hN h6
    · try simp only [bI_eq0, bI_ne0] at h_16
      refine G_iconst (pc := 19) dX12_night_19 ?_
      refine G_iret (pc := 20) dX12_night_20 rfl ?_
      exact ⟨by unfold aNight; rw [if_neg (by omega)], Off.rfl, Off.rfl, hC⟩
theorem y_one (z i : Int) (hM : 87 ≤ M) (hC : MI I n tx hs C kn K) (hW : WF n tx hs C kn K) (rz : Ri z) (ri : Ri i) : FnQ E mdX12_one 8 M Rf [vr E 71, vi z, vi i] I J (MQ' I J (aOne hs C z i) n tx hs C kn K) := by
  obtain ⟨-, -, hB, -, -, hRB, hTB, -⟩ := id hW
  have bN := hB.2.2.1
  have r3 := ri.lo
  have r4 := ri.hi
  obtain ⟨nb1, nb2, nb3⟩ := NS_B hs C z.toNat (C 0 0)
  have nb1 : ∀ p, thE hs C z.toNat p ≤ 1 := nb1
  refine FnQ.of (by decide +kernel) (Nat.le_of_ble_eq_true rfl) ?_
  show GM E mdX12_one 8 M Rf _ I J 0 [some (vr E 71), some (vi z), some (vi i), none, none, none] []
  obtain ⟨th, eth⟩ : ∃ f, f = thE hs C z.toNat := ⟨_, rfl⟩
  have ha : 0 ≤ z ∧ z ≤ 9999 → 0 ≤ i → aOne hs C z i = ntN th i.toNat (zN hs) := fun h1 h2 => by unfold aOne; rw [if_pos ⟨h1, h2⟩, ← eth]
  rw [← eth] at nb1
  have nbl := sumN_le1 nb1 (zN hs)
  have loop : ∀ (r p : Nat) (x : Int) (I1 : Nat → Nat → Int), p + r = zN hs → x = i - (sumN th p : Nat) → sumN th p ≤ i.toNat → ntN th i.toNat p = -4 → (0 ≤ z ∧ z ≤ 9999) → 0 ≤ i → Off I I1 71 86 → MI I1 n tx hs C kn K → NMI I1 (zN hs) th (pyE hs C z.toNat) → GM E mdX12_one 8 M Rf (MQ' I J (aOne hs C z i) n tx hs C kn K) I1 J 25 [some (vr E 71), some (vi z), some (vi i), some (vi (sumN th (zN hs) : Int)), some (vi x), some (vi (p : Int))] [] := by
    intro r
    induction r with
    | zero =>
      intro p x I1 hp hx hle hnt hz hi hO hC1 hN
      have hp : p = zN hs := by omega
      subst hp
      refine G_iload (pc := 25) dX12_one_25 rfl ?_
      refine G_aload_n (pc := 27) dX12_one_27 rfl ?_
      refine G_iconst (pc := 28) dX12_one_28 ?_
      refine G_callV1 (pc := 29) (md := mdX12_folk) (av := [_]) dX12_one_29 lkX12_99 mwX12_folk (m_folk 0 (by omega) hM hC1.2.1 hB) rfl (by first | rfl | assumption) (by omega) rfl rfl (Nat.le_of_ble_eq_true rfl) (by decide) ⟨Nat.zero_le _, Nat.zero_le _⟩ ?_
      refine G_icmp_ge (pc := 32) (tgt := 67) dX12_one_32 (Ri.mk (by omega) (by omega)) (Ri.mk (by omega) (by omega)) (by decide) (fun h_32 => ?_) (fun h_32 => ?_)
      · refine G_bipush (pc := 67) dX12_one_67 (by decide) ?_
        refine G_iret (pc := 69) dX12_one_69 rfl ?_
        exact ⟨by rw [ha hz hi, hnt], hO, Off.rfl, hC1⟩
      · exact absurd h_32 (by omega)
    | succ r ih =>
      intro p x I1 hp hx hle hnt hz hi hO hC1 hN
      have g1 := nb1 p
      have hv : I1 84 ((p : Int)).toNat = (th p : Int) := by rw [Int.toNat_natCast]; exact (hN p (by omega)).1
      have hsu : sumN th (p + 1) = sumN th p + th p := rfl
      have hn1 : ntN th i.toNat (p + 1) = if sumN th p = i.toNat ∧ th p = 1 then (p : Int) else ntN th i.toNat p := rfl
      refine G_iload (pc := 25) dX12_one_25 rfl ?_
      refine G_aload_n (pc := 27) dX12_one_27 rfl ?_
      refine G_iconst (pc := 28) dX12_one_28 ?_
      refine G_callV1 (pc := 29) (md := mdX12_folk) (av := [_]) dX12_one_29 lkX12_99 mwX12_folk (m_folk 0 (by omega) hM hC1.2.1 hB) rfl (by first | rfl | assumption) (by omega) rfl rfl (Nat.le_of_ble_eq_true rfl) (by decide) ⟨Nat.zero_le _, Nat.zero_le _⟩ ?_
      refine G_icmp_ge (pc := 32) (tgt := 67) dX12_one_32 (Ri.mk (by omega) (by omega)) (Ri.mk (by omega) (by omega)) (by decide) (fun h_32 => ?_) (fun h_32 => ?_)
      · exact absurd h_32 (by omega)
      · refine G_iload_n (pc := 35) dX12_one_35 rfl ?_
        refine G_iload_n (pc := 36) dX12_one_36 rfl ?_
        refine G_icmp_ge (pc := 37) (tgt := 67) dX12_one_37 ri (Ri.mk (by omega) (by omega)) (by decide) (fun h_37 => ?_) (fun h_37 => ?_)
        · refine G_bipush (pc := 67) dX12_one_67 (by decide) ?_
          refine G_iret (pc := 69) dX12_one_69 rfl ?_
          exact ⟨by rw [ha hz hi, ntN_none (zN hs) (by omega)], hO, Off.rfl, hC1⟩
        · refine G_aload_n (pc := 40) dX12_one_40 rfl ?_
          refine G_getr (pc := 41) dX12_one_41 fiX12_48 (by first | rfl | assumption) (by omega) (by first | rfl | assumption) ?_
          refine G_iload (pc := 44) dX12_one_44 rfl ?_
          refine G_zaldv (pc := 46) dX12_one_46 (by first | rfl | assumption) (by omega) (by omega) (by omega) (by omega) (hv) ?_
          refine G_if_eq (pc := 47) (tgt := 61) dX12_one_47 (Ri.mk (by omega) (by omega)) (by decide) (fun h_47 => ?_) (fun h_47 => ?_)
          · try simp only [bI_eq0, bI_ne0] at h_47
            refine G_iinc (pc := 61) (lv' := [_, _, _, _, _, _]) dX12_one_61 (by decide) rfl rfl ?_
            refine G_goto (pc := 64) (tgt := 25) dX12_one_64 (by decide) ?_
            exact ih (p + 1) _ I1 (by omega) (by rw [hx, hsu]; omega) (by omega) (by rw [hn1, if_neg (by omega)]; exact hnt) hz hi hO hC1 hN
          · try simp only [bI_eq0, bI_ne0] at h_47
            refine G_iload (pc := 50) dX12_one_50 rfl ?_
            refine G_if_ne (pc := 52) (tgt := 58) dX12_one_52 (Ri.mk (by omega) (by omega)) (by decide) (fun h_52 => ?_) (fun h_52 => ?_)
            · try simp only [bI_eq0, bI_ne0] at h_52
              refine G_iinc (pc := 58) (lv' := [_, _, _, _, _, _]) dX12_one_58 (by decide) rfl rfl ?_
              refine G_iinc (pc := 61) (lv' := [_, _, _, _, _, _]) dX12_one_61 (by decide) rfl rfl ?_
              refine G_goto (pc := 64) (tgt := 25) dX12_one_64 (by decide) ?_
              exact ih (p + 1) _ I1 (by omega) (by rw [hx, hsu]; omega) (by omega) (by rw [hn1, if_neg (by omega)]; exact hnt) hz hi hO hC1 hN
            · try simp only [bI_eq0, bI_ne0] at h_52
              refine G_iload (pc := 55) dX12_one_55 rfl ?_
              refine G_iret (pc := 57) dX12_one_57 rfl ?_
              have e1 : ntN th i.toNat (p + 1 + r) = ntN th i.toNat (p + 1) := ntN_stay (by omega) r
              exact ⟨by rw [ha hz hi, show zN hs = p + 1 + r by omega, e1, hn1, if_pos (by omega)], hO, Off.rfl, hC1⟩
  refine G_iload_n (pc := 0) dX12_one_0 rfl ?_
  refine G_callS1 (pc := 1) (md := mdX12_isSeed) (av := [_]) dX12_one_1 lkX12_219 mwX12_isSeed (m_isSeed z rz) rfl rfl (Nat.le_of_ble_eq_true rfl) (by decide) ⟨Nat.zero_le _, Nat.zero_le _⟩ ?_
  refine G_if_eq (pc := 4) (tgt := 11) dX12_one_4 bI_R (by decide) (fun h_4 => ?_) (fun h_4 => ?_)
  · try simp only [bI_eq0, bI_ne0] at h_4
    refine G_iconst (pc := 11) dX12_one_11 ?_
    refine G_iret (pc := 12) dX12_one_12 rfl ?_
    exact ⟨by unfold aOne; rw [if_neg (by omega)], Off.rfl, Off.rfl, hC⟩
  · try simp only [bI_eq0, bI_ne0] at h_4
    refine G_iload_n (pc := 7) dX12_one_7 rfl ?_
    refine G_if_ge (pc := 8) (tgt := 13) dX12_one_8 ri (by decide) (fun h_8 => ?_) (fun h_8 => ?_)
    · refine G_aload_n (pc := 13) dX12_one_13 rfl ?_
      refine G_iload_n (pc := 14) dX12_one_14 rfl ?_
      refine G_callV (pc := 15) (md := mdX12_goes) (av := [_]) dX12_one_15 lkX12_222 mwX12_goes (FnQ.av (by rw [Int.toNat_of_nonneg (show 0 ≤ z by omega)]) (m_goes z.toNat hM hC.2.1 hB hC.2.2.1 hRB (by omega))) rfl (by first | rfl | assumption) (by omega) rfl rfl (Nat.le_of_ble_eq_true rfl) (by decide) ⟨Nat.zero_le _, Nat.zero_le _⟩ ?_
      rintro v I1 J1 ⟨rfl, rfl, hO, hN, h6⟩
      rw [← eth] at hN ⊢
      refine G_istore_n (pc := 18) (lv' := [_, _, _, _, _, _]) dX12_one_18 (by decide) rfl ?_
      refine G_iload_n (pc := 19) dX12_one_19 rfl ?_
      refine G_istore (pc := 20) (lv' := [_, _, _, _, _, _]) dX12_one_20 (by decide) rfl ?_
      refine G_iconst (pc := 22) dX12_one_22 ?_
      refine G_istore (pc := 23) (lv' := [_, _, _, _, _, _]) dX12_one_23 (by decide) rfl ?_
      exact loop (zN hs) 0 i I1 (by omega) (show i = i - ((0 : Nat) : Int) by omega) (Nat.zero_le _) rfl (by omega) (by omega) hO.off (hO.mi hC) hN
    · refine G_iconst (pc := 11) dX12_one_11 ?_
      refine G_iret (pc := 12) dX12_one_12 rfl ?_
      exact ⟨by unfold aOne; rw [if_neg (by omega)], Off.rfl, Off.rfl, hC⟩
theorem y_nights (z c : Int) (hM : 87 ≤ M) (hC : MI I n tx hs C kn K) (hW : WF n tx hs C kn K) (rz : Ri z) (rc : Ri c) : FnQ E mdX12_nights 8 M Rf [vr E 71, vi z, vi c] I J (MQ' I J (aNights hs C z c) n tx hs C kn K) := by
  obtain ⟨-, -, hB, -, -, hRB, hTB, -⟩ := id hW
  have bN := hB.2.2.1
  have r3 := rc.lo
  have r4 := rc.hi
  refine FnQ.of (by decide +kernel) (Nat.le_of_ble_eq_true rfl) ?_
  show GM E mdX12_nights 8 M Rf _ I J 0 [some (vr E 71), some (vi z), some (vi c), none, none] []
  have loop : ∀ (r k : Nat) (x : Int) (I' : Nat → Nat → Int), k + r = 10 → x = (nsF hs C z.toNat c k : Nat) → (0 ≤ x ∧ x ≤ k) → Off I I' 71 86 → MI I' n tx hs C kn K → (0 ≤ z ∧ z ≤ 9999) → (0 ≤ c ∧ c ≤ 120) → GM E mdX12_nights 8 M Rf (MQ' I J (aNights hs C z c) n tx hs C kn K) I' J 26 [some (vr E 71), some (vi z), some (vi c), some (vi x), some (vi (k : Int))] [] := by
    intro r
    induction r with
    | zero =>
      intro k x I' hk hx hxr hO hC' hz hc
      have hk : k = 10 := by omega
      subst hk
      refine G_iload (pc := 26) dX12_nights_26 rfl ?_
      refine G_bipush (pc := 28) dX12_nights_28 (by decide) ?_
      refine G_icmp_ge (pc := 30) (tgt := 63) dX12_nights_30 (Ri.mk (by omega) (by omega)) (Ri.mk (by omega) (by omega)) (by decide) (fun h_30 => ?_) (fun h_30 => ?_)
      · refine G_iload_n (pc := 63) dX12_nights_63 rfl ?_
        refine G_iret (pc := 64) dX12_nights_64 rfl ?_
        exact ⟨by unfold aNights; rw [if_pos (show (0 ≤ z ∧ z ≤ 9999) ∧ 0 ≤ c ∧ c ≤ 120 by omega), hx], hO, Off.rfl, hC'⟩
      · exact absurd h_30 (by omega)
    | succ r ih =>
      intro k x I' hk hx hxr hO hC' hz hc
      have ez : (z + (k : Int)).tmod 10000 = (((z.toNat + k) % 10000 : Nat) : Int) := by rw [show z + (k : Int) = ((z.toNat + k : Nat) : Int) by omega]; exact (Int.ofNat_tmod _ _).symm
      have hz' : (z.toNat + k) % 10000 < 10000 := Nat.mod_lt _ (by decide)
      obtain ⟨nb1, nb2, nb3⟩ := NS_B hs C ((z.toNat + k) % 10000) (C 0 0)
      have hle : sumN (thE hs C ((z.toNat + k) % 10000)) (zN hs) ≤ zN hs := sumN_le1 nb1 (zN hs)
      refine G_iload (pc := 26) dX12_nights_26 rfl ?_
      refine G_bipush (pc := 28) dX12_nights_28 (by decide) ?_
      refine G_icmp_ge (pc := 30) (tgt := 63) dX12_nights_30 (Ri.mk (by omega) (by omega)) (Ri.mk (by omega) (by omega)) (by decide) (fun h_30 => ?_) (fun h_30 => ?_)
      · exact absurd h_30 (by omega)
      · refine G_iload_n (pc := 33) dX12_nights_33 rfl ?_
        refine G_aload_n (pc := 34) dX12_nights_34 rfl ?_
        refine G_iload_n (pc := 35) dX12_nights_35 rfl ?_
        refine G_iload (pc := 36) dX12_nights_36 rfl ?_
        refine G_iadd (pc := 38) dX12_nights_38 ?_
        refine G_sipush (pc := 39) dX12_nights_39 (by decide) ?_
        refine G_irem (pc := 42) dX12_nights_42 (Ri.mk (by omega) (by omega)) (Ri.mk (by omega) (by omega)) (by omega) ?_
        rw [ez]
        refine G_callV (pc := 43) (md := mdX12_goes) (av := [_]) dX12_nights_43 lkX12_222 mwX12_goes (m_goes _ hM hC'.2.1 hB hC'.2.2.1 hRB hz') rfl (by first | rfl | assumption) (by omega) rfl rfl (Nat.le_of_ble_eq_true rfl) (by decide) ⟨Nat.zero_le _, Nat.zero_le _⟩ ?_
        rintro v I1 J1 ⟨rfl, rfl, hO1, hN, h6⟩
        refine G_iload_n (pc := 46) dX12_nights_46 rfl ?_
        refine G_icmp_ne (pc := 47) (tgt := 54) dX12_nights_47 (Ri.mk (by omega) (by omega)) rc (by decide) (fun h_47 => ?_) (fun h_47 => ?_)
        · refine G_iconst (pc := 54) dX12_nights_54 ?_
          refine G_iadd (pc := 55) dX12_nights_55 ?_
          refine G_istore_n (pc := 56) (lv' := [_, _, _, _, _]) dX12_nights_56 (by decide) rfl ?_
          refine G_iinc (pc := 57) (lv' := [_, _, _, _, _]) dX12_nights_57 (by decide) rfl rfl ?_
          refine G_goto (pc := 60) (tgt := 26) dX12_nights_60 (by decide) ?_
          exact ih (k + 1) _ I1 (by omega) (by rw [hx, nsF]; first | (rw [if_pos (by omega)]; rfl) | (rw [if_neg (by omega)]; omega)) (by omega) (hO.trans hO1.off) (hO1.mi hC') hz hc
        · refine G_iconst (pc := 50) dX12_nights_50 ?_
          refine G_goto (pc := 51) (tgt := 55) dX12_nights_51 (by decide) ?_
          refine G_iadd (pc := 55) dX12_nights_55 ?_
          refine G_istore_n (pc := 56) (lv' := [_, _, _, _, _]) dX12_nights_56 (by decide) rfl ?_
          refine G_iinc (pc := 57) (lv' := [_, _, _, _, _]) dX12_nights_57 (by decide) rfl rfl ?_
          refine G_goto (pc := 60) (tgt := 26) dX12_nights_60 (by decide) ?_
          exact ih (k + 1) _ I1 (by omega) (by rw [hx, nsF]; first | (rw [if_pos (by omega)]; rfl) | (rw [if_neg (by omega)]; omega)) (by omega) (hO.trans hO1.off) (hO1.mi hC') hz hc
  refine G_iload_n (pc := 0) dX12_nights_0 rfl ?_
  refine G_callS1 (pc := 1) (md := mdX12_isSeed) (av := [_]) dX12_nights_1 lkX12_219 mwX12_isSeed (m_isSeed z rz) rfl rfl (Nat.le_of_ble_eq_true rfl) (by decide) ⟨Nat.zero_le _, Nat.zero_le _⟩ ?_
  refine G_if_eq (pc := 4) (tgt := 19) dX12_nights_4 bI_R (by decide) (fun h_4 => ?_) (fun h_4 => ?_)
  · try simp only [bI_eq0, bI_ne0] at h_4
    refine G_iconst (pc := 19) dX12_nights_19 ?_
    refine G_iret (pc := 20) dX12_nights_20 rfl ?_
    exact ⟨by unfold aNights; rw [if_neg (by omega)], Off.rfl, Off.rfl, hC⟩
  · try simp only [bI_eq0, bI_ne0] at h_4
    refine G_iload_n (pc := 7) dX12_nights_7 rfl ?_
    refine G_i2l (pc := 8) dX12_nights_8 rc ?_
    refine G_lconst (pc := 9) dX12_nights_9 ?_
    refine G_ldc2 (pc := 10) dX12_nights_10 klX12_225 ?_
    refine G_callS1 (pc := 13) (md := mdX12_in) (av := [_, _, _]) dX12_nights_13 lkX12_66 mwX12_in (m_inI _ _ _ (0 ≤ c ∧ c ≤ 120) (by omega) (Rl.mk (by omega) (by omega)) (Rl.mk (by omega) (by omega)) (Rl.mk (by omega) (by omega))) rfl rfl (Nat.le_of_ble_eq_true rfl) (by decide) ⟨Nat.zero_le _, Nat.zero_le _⟩ ?_
    refine G_if_ne (pc := 16) (tgt := 21) dX12_nights_16 bI_R (by decide) (fun h_16 => ?_) (fun h_16 => ?_)
    · try simp only [bI_eq0, bI_ne0] at h_16
      refine G_iconst (pc := 21) dX12_nights_21 ?_
      refine G_istore_n (pc := 22) (lv' := [_, _, _, _, _]) dX12_nights_22 (by decide) rfl ?_
      refine G_iconst (pc := 23) dX12_nights_23 ?_
      refine G_istore (pc := 24) (lv' := [_, _, _, _, _]) dX12_nights_24 (by decide) rfl ?_
      exact loop 10 0 0 _ (by omega) rfl (by omega) Off.rfl hC (by omega) (by omega)
    · try simp only [bI_eq0, bI_ne0] at h_16
      refine G_iconst (pc := 19) dX12_nights_19 ?_
      refine G_iret (pc := 20) dX12_nights_20 rfl ?_
      exact ⟨by unfold aNights; rw [if_neg (by omega)], Off.rfl, Off.rfl, hC⟩
end MOD11
