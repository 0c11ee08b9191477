section COMP3
variable {E : EV} {M : Nat} {I J : Nat → Nat → Int} {n : Nat} {tx : Nat → Int} {hs : HS} {C : CS} {kn : Nat} {K : Nat → CS}
theorem x_night (z w : Int) (hM : 71 ≤ M) (hC : CI I n tx hs C kn K) (hW : WF n tx hs C kn K) (rz : Ri z) (rw_ : Ri w) : FnQ E mdX11_night 8 M Rf [vr E 0, vi z, vi w] I J (CQ I J (aNight hs C z w) n tx hs C kn K) := by
  have hH := hC.2.1
  obtain ⟨-, -, hB, -, -, hRB, hTB, -⟩ := id hW
  refine FnQ.of (by decide +kernel) (Nat.le_of_ble_eq_true rfl) ?_
  show GM E mdX11_night 8 M Rf _ I J 0 [some (vr E 0), some (vi z), some (vi w)] []
  refine G_iload_n (pc := 0) dX11_night_0 rfl ?_
  refine G_iconst (pc := 1) dX11_night_1 ?_
  refine G_sipush (pc := 2) dX11_night_2 (by decide) ?_
  refine G_callS1 (pc := 5) (md := mdX11_within) (av := [_, _, _]) dX11_night_5 lkX11_101 mwX11_within (c_within _ _ _ rz (Ri.mk (by omega) (by omega)) (Ri.mk (by omega) (by omega))) rfl rfl (Nat.le_of_ble_eq_true rfl) (by decide) ⟨Nat.zero_le _, Nat.zero_le _⟩ ?_
  refine G_if_eq (pc := 8) (tgt := 20) dX11_night_8 (by first | exact bI_R | exact rw_) (by decide) (fun h_8 => ?_) (fun h_8 => ?_)
  · try simp only [bI_eq0, bI_ne0] at h_8
    refine G_iconst (pc := 20) dX11_night_20 ?_
    refine G_iret (pc := 21) dX11_night_21 rfl ?_
    exact ⟨by unfold aNight; rw [if_neg (by omega)], Off.rfl, Off.rfl, hC⟩
  · try simp only [bI_eq0, bI_ne0] at h_8
    refine G_iload_n (pc := 11) dX11_night_11 rfl ?_
    refine G_iconst (pc := 12) dX11_night_12 ?_
    refine G_iconst (pc := 13) dX11_night_13 ?_
    refine G_callS1 (pc := 14) (md := mdX11_within) (av := [_, _, _]) dX11_night_14 lkX11_101 mwX11_within (c_within _ _ _ rw_ (Ri.mk (by omega) (by omega)) (Ri.mk (by omega) (by omega))) rfl rfl (Nat.le_of_ble_eq_true rfl) (by decide) ⟨Nat.zero_le _, Nat.zero_le _⟩ ?_
    refine G_if_ne (pc := 17) (tgt := 22) dX11_night_17 (by first | exact bI_R | exact rw_) (by decide) (fun h_17 => ?_) (fun h_17 => ?_)
    · try simp only [bI_eq0, bI_ne0] at h_17
      refine G_aload_n (pc := 22) dX11_night_22 rfl ?_
      refine G_getr (pc := 23) dX11_night_23 fiX11_90 (by first | rfl | assumption) (by omega) (by first | rfl | assumption) ?_
      refine G_aload_n (pc := 26) dX11_night_26 rfl ?_
      refine G_getr (pc := 27) dX11_night_27 fiX11_26 (by first | rfl | assumption) (by omega) (by first | rfl | assumption) ?_
      refine G_getr (pc := 30) dX11_night_30 fiX11_126 (by first | rfl | assumption) (by omega) (by first | rfl | assumption) ?_
      refine G_iload_n (pc := 33) dX11_night_33 rfl ?_
      refine G_callV (pc := 34) (md := mdX5_play) (av := [_, _]) dX11_night_34 lkX11_248 mwX5_play (FnQ.av (by rw [Int.toNat_of_nonneg (show 0 ≤ z by omega)]) (c_play 13 z.toNat (Or.inl rfl) hM hH hB hC.2.2.1 hRB (by omega))) rfl (by first | rfl | assumption) (by omega) rfl rfl (Nat.le_of_ble_eq_true rfl) (by decide) ⟨Nat.zero_le _, Nat.zero_le _⟩ ?_
      rintro v I1 J1 ⟨rfl, rfl, hO, hN⟩
      have hN : NI I1 (thE hs C z.toNat) (pyE hs C z.toNat) (sumN (thE hs C z.toNat) (zN hs) : Nat) (sxN hs C z.toNat (C 0 0)) := hN
      have hCI : CI I1 n tx hs C kn K := hC.off fun q h => hO q (by omega)
      obtain ⟨nb1, nb2, nb3⟩ := NS_B hs C z.toNat (C 0 0)
      have hO2 : Off I I1 0 70 := hO.mono (by omega) (by omega)
      refine G_iload_n (pc := 37) dX11_night_37 rfl ?_
      refine G_if_ne (pc := 38) (tgt := 49) dX11_night_38 (by first | exact bI_R | exact rw_) (by decide) (fun h_38 => ?_) (fun h_38 => ?_)
      · try simp only [bI_eq0, bI_ne0] at h_38
        refine G_iload_n (pc := 49) dX11_night_49 rfl ?_
        refine G_iconst (pc := 50) dX11_night_50 ?_
        refine G_icmp_ne (pc := 51) (tgt := 64) dX11_night_51 (by first | exact bI_R | exact rw_) (Ri.mk (by omega) (by omega)) (by decide) (fun h_51 => ?_) (fun h_51 => ?_)
        · refine G_aload_n (pc := 64) dX11_night_64 rfl ?_
          refine G_getr (pc := 65) dX11_night_65 fiX11_90 (by first | rfl | assumption) (by omega) (by first | rfl | assumption) ?_
          refine G_geti (pc := 68) dX11_night_68 fiX11_258 (by first | rfl | assumption) (by omega) ?_
          refine G_iret (pc := 71) dX11_night_71 rfl ?_
          first
            | exact ⟨by unfold aNight; rw [if_pos (show (0 ≤ z ∧ z ≤ 9999) ∧ 0 ≤ w ∧ w ≤ 2 by omega), if_neg (show ¬ w = 0 by omega), if_neg (show ¬ w = 1 by omega), hN.2.2], hO2, Off.rfl, hCI⟩
            | (refine ⟨?_, hO2, Off.rfl, hCI⟩
               unfold aNight; rw [if_pos (show (0 ≤ z ∧ z ≤ 9999) ∧ 0 ≤ w ∧ w ≤ 2 by omega), if_neg (show ¬ w = 0 by omega), if_pos (show w = 1 by omega)]
               have hN120 := hB.2.2.1
               have e : ∀ k, sumN (pyE hs C z.toNat) (zN hs + k) = sumN (pyE hs C z.toNat) (zN hs) := by
                 intro k
                 induction k with
                 | zero => rfl
                 | succ k ihk =>
                   rw [← Nat.add_assoc, sumN, ihk]
                   have h1 := nb3 (zN hs + k)
                   have h2 := nb2 (zN hs + k) (by omega)
                   have h3 : pyE hs C z.toNat (zN hs + k) = 0 := by show (NS hs C z.toNat (C 0 0)).2 (zN hs + k) = 0; omega
                   omega
               rw [show (120 : Nat) = zN hs + (120 - zN hs) by omega, e])
        · refine G_aload_n (pc := 54) dX11_night_54 rfl ?_
          refine G_getr (pc := 55) dX11_night_55 fiX11_90 (by first | rfl | assumption) (by omega) (by first | rfl | assumption) ?_
          refine G_callV1 (pc := 58) (md := mdX5_players) (av := []) dX11_night_58 lkX11_255 mwX5_players (c_players hM hN (fun p => Nat.le_trans (nb3 p) (nb1 p))) rfl (by first | rfl | assumption) (by omega) rfl rfl (Nat.le_of_ble_eq_true rfl) (by decide) ⟨Nat.zero_le _, Nat.zero_le _⟩ ?_
          refine G_goto (pc := 61) (tgt := 71) dX11_night_61 (by decide) ?_
          refine G_iret (pc := 71) dX11_night_71 rfl ?_
          first
            | exact ⟨by unfold aNight; rw [if_pos (show (0 ≤ z ∧ z ≤ 9999) ∧ 0 ≤ w ∧ w ≤ 2 by omega), if_neg (show ¬ w = 0 by omega), if_neg (show ¬ w = 1 by omega), hN.2.2], hO2, Off.rfl, hCI⟩
            | (refine ⟨?_, hO2, Off.rfl, hCI⟩
               unfold aNight; rw [if_pos (show (0 ≤ z ∧ z ≤ 9999) ∧ 0 ≤ w ∧ w ≤ 2 by omega), if_neg (show ¬ w = 0 by omega), if_pos (show w = 1 by omega)]
               have hN120 := hB.2.2.1
               have e : ∀ k, sumN (pyE hs C z.toNat) (zN hs + k) = sumN (pyE hs C z.toNat) (zN hs) := by
                 intro k
                 induction k with
                 | zero => rfl
                 | succ k ihk =>
                   rw [← Nat.add_assoc, sumN, ihk]
                   have h1 := nb3 (zN hs + k)
                   have h2 := nb2 (zN hs + k) (by omega)
                   have h3 : pyE hs C z.toNat (zN hs + k) = 0 := by show (NS hs C z.toNat (C 0 0)).2 (zN hs + k) = 0; omega
                   omega
               rw [show (120 : Nat) = zN hs + (120 - zN hs) by omega, e])
      · try simp only [bI_eq0, bI_ne0] at h_38
        refine G_aload_n (pc := 41) dX11_night_41 rfl ?_
        refine G_getr (pc := 42) dX11_night_42 fiX11_90 (by first | rfl | assumption) (by omega) (by first | rfl | assumption) ?_
        refine G_geti (pc := 45) dX11_night_45 fiX11_252 (by first | rfl | assumption) (by omega) ?_
        refine G_iret (pc := 48) dX11_night_48 rfl ?_
        exact ⟨by unfold aNight; rw [if_pos (show (0 ≤ z ∧ z ≤ 9999) ∧ 0 ≤ w ∧ w ≤ 2 by omega), if_pos (show w = 0 by omega), hN.2.1], hO2, Off.rfl, hCI⟩
    · try simp only [bI_eq0, bI_ne0] at h_17
      refine G_iconst (pc := 20) dX11_night_20 ?_
      refine G_iret (pc := 21) dX11_night_21 rfl ?_
      exact ⟨by unfold aNight; rw [if_neg (by omega)], Off.rfl, Off.rfl, hC⟩
theorem x_one (z i : Int) (hM : 71 ≤ M) (hC : CI I n tx hs C kn K) (hW : WF n tx hs C kn K) (rz : Ri z) (ri : Ri i) : FnQ E mdX11_one 8 M Rf [vr E 0, vi z, vi i] I J (CQ I J (aOne hs C z i) n tx hs C kn K) := by
  have hH := hC.2.1
  obtain ⟨-, -, hB, -, -, hRB, hTB, -⟩ := id hW
  have hi2 := ri.hi
  have hN120 := hB.2.2.1
  refine FnQ.of (by decide +kernel) (Nat.le_of_ble_eq_true rfl) ?_
  show GM E mdX11_one 8 M Rf _ I J 0 [some (vr E 0), some (vi z), some (vi i)] []
  refine G_iload_n (pc := 0) dX11_one_0 rfl ?_
  refine G_iconst (pc := 1) dX11_one_1 ?_
  refine G_sipush (pc := 2) dX11_one_2 (by decide) ?_
  refine G_callS1 (pc := 5) (md := mdX11_within) (av := [_, _, _]) dX11_one_5 lkX11_101 mwX11_within (c_within _ _ _ rz (Ri.mk (by omega) (by omega)) (Ri.mk (by omega) (by omega))) rfl rfl (Nat.le_of_ble_eq_true rfl) (by decide) ⟨Nat.zero_le _, Nat.zero_le _⟩ ?_
  refine G_if_eq (pc := 8) (tgt := 15) dX11_one_8 (by first | exact bI_R | exact ri) (by decide) (fun h_8 => ?_) (fun h_8 => ?_)
  · try simp only [bI_eq0, bI_ne0] at h_8
    refine G_iconst (pc := 15) dX11_one_15 ?_
    refine G_iret (pc := 16) dX11_one_16 rfl ?_
    exact ⟨by unfold aOne; rw [if_neg (by omega)], Off.rfl, Off.rfl, hC⟩
  · try simp only [bI_eq0, bI_ne0] at h_8
    refine G_iload_n (pc := 11) dX11_one_11 rfl ?_
    refine G_if_ge (pc := 12) (tgt := 17) dX11_one_12 (by first | exact bI_R | exact ri) (by decide) (fun h_12 => ?_) (fun h_12 => ?_)
    · refine G_aload_n (pc := 17) dX11_one_17 rfl ?_
      refine G_getr (pc := 18) dX11_one_18 fiX11_90 (by first | rfl | assumption) (by omega) (by first | rfl | assumption) ?_
      refine G_aload_n (pc := 21) dX11_one_21 rfl ?_
      refine G_getr (pc := 22) dX11_one_22 fiX11_26 (by first | rfl | assumption) (by omega) (by first | rfl | assumption) ?_
      refine G_getr (pc := 25) dX11_one_25 fiX11_126 (by first | rfl | assumption) (by omega) (by first | rfl | assumption) ?_
      refine G_iload_n (pc := 28) dX11_one_28 rfl ?_
      refine G_callV (pc := 29) (md := mdX5_play) (av := [_, _]) dX11_one_29 lkX11_248 mwX5_play (FnQ.av (by rw [Int.toNat_of_nonneg (show 0 ≤ z by omega)]) (c_play 13 z.toNat (Or.inl rfl) hM hH hB hC.2.2.1 hRB (by omega))) rfl (by first | rfl | assumption) (by omega) rfl rfl (Nat.le_of_ble_eq_true rfl) (by decide) ⟨Nat.zero_le _, Nat.zero_le _⟩ ?_
      rintro v I1 J1 ⟨rfl, rfl, hO, hN⟩
      have hN : NI I1 (thE hs C z.toNat) (pyE hs C z.toNat) (sumN (thE hs C z.toNat) (zN hs) : Nat) (sxN hs C z.toNat (C 0 0)) := hN
      have hCI : CI I1 n tx hs C kn K := hC.off fun q h => hO q (by omega)
      obtain ⟨nb1, nb2, nb3⟩ := NS_B hs C z.toNat (C 0 0)
      have hO2 : Off I I1 0 70 := hO.mono (by omega) (by omega)
      refine G_aload_n (pc := 32) dX11_one_32 rfl ?_
      refine G_getr (pc := 33) dX11_one_33 fiX11_90 (by first | rfl | assumption) (by omega) (by first | rfl | assumption) ?_
      refine G_iload_n (pc := 36) dX11_one_36 rfl ?_
      refine G_callV1 (pc := 37) (md := mdX5_person) (av := [_]) dX11_one_37 lkX11_261 mwX5_person (FnQ.av (by rw [Int.toNat_of_nonneg (show 0 ≤ i by omega)]) (c_person i.toNat (by omega) hM hN nb1)) rfl (by first | rfl | assumption) (by omega) rfl rfl (Nat.le_of_ble_eq_true rfl) (by decide) ⟨Nat.zero_le _, Nat.zero_le _⟩ ?_
      refine G_iret (pc := 40) dX11_one_40 rfl ?_
      refine ⟨?_, hO2, Off.rfl, hCI⟩
      unfold aOne; rw [if_pos (show (0 ≤ z ∧ z ≤ 9999) ∧ 0 ≤ i by omega), show (120 : Nat) = zN hs + (120 - zN hs) by omega, ntN_zero (th := thE hs C z.toNat) nb2]
    · refine G_iconst (pc := 15) dX11_one_15 ?_
      refine G_iret (pc := 16) dX11_one_16 rfl ?_
      exact ⟨by unfold aOne; rw [if_neg (by omega)], Off.rfl, Off.rfl, hC⟩
theorem x_nights (z c : Int) (hM : 71 ≤ M) (hC : CI I n tx hs C kn K) (hW : WF n tx hs C kn K) (rz : Ri z) (rc : Ri c) : FnQ E mdX11_nights 8 M Rf [vr E 0, vi z, vi c] I J (CQ I J (aNights hs C z c) n tx hs C kn K) := by
  obtain ⟨-, -, hB, -, -, hRB, hTB, -⟩ := id hW
  have hN120 := hB.2.2.1
  refine FnQ.of (by decide +kernel) (Nat.le_of_ble_eq_true rfl) ?_
  show GM E mdX11_nights 8 M Rf _ I J 0 [some (vr E 0), some (vi z), some (vi c), none, none] []
  have loop : ∀ (r k : Nat) (x : Int) (I' : Nat → Nat → Int), k + r = 10 → x = (nsF hs C z.toNat c k : Nat) → (0 ≤ x ∧ x ≤ k) → Off I I' 0 70 → CI I' n tx hs C kn K → (0 ≤ z ∧ z ≤ 9999) → (0 ≤ c ∧ c ≤ 120) → GM E mdX11_nights 8 M Rf (CQ I J (aNights hs C z c) n tx hs C kn K) I' J 28 [some (vr E 0), some (vi z), some (vi c), some (vi x), some (vi (k : Int))] [] := by
    intro r
    induction r with
    | zero =>
      intro k x I' hk hx hxr hO hC' hz hc
      have hk : k = 10 := by omega
      subst hk
      refine G_iload (pc := 28) dX11_nights_28 rfl ?_
      refine G_bipush (pc := 30) dX11_nights_30 (by decide) ?_
      refine G_icmp_ge (pc := 32) (tgt := 77) dX11_nights_32 (Ri.mk (by omega) (by omega)) (Ri.mk (by omega) (by omega)) (by decide) (fun h_32 => ?_) (fun h_32 => ?_)
      · refine G_iload_n (pc := 77) dX11_nights_77 rfl ?_
        refine G_iret (pc := 78) dX11_nights_78 rfl ?_
        exact ⟨by unfold aNights; rw [if_pos (show (0 ≤ z ∧ z ≤ 9999) ∧ 0 ≤ c ∧ c ≤ 120 by omega), hx], hO, Off.rfl, hC'⟩
      · exact absurd h_32 (by omega)
    | succ r ih =>
      intro k x I' hk hx hxr hO hC' hz hc
      have ez : (z + (k : Int)).tmod 10000 = (((z.toNat + k) % 10000 : Nat) : Int) := by rw [show z + (k : Int) = ((z.toNat + k : Nat) : Int) by omega]; exact (Int.ofNat_tmod _ _).symm
      have hz' : (z.toNat + k) % 10000 < 10000 := Nat.mod_lt _ (by decide)
      obtain ⟨nb1, nb2, nb3⟩ := NS_B hs C ((z.toNat + k) % 10000) (C 0 0)
      have hle := sumN_le1 nb1 (zN hs)
      refine G_iload (pc := 28) dX11_nights_28 rfl ?_
      refine G_bipush (pc := 30) dX11_nights_30 (by decide) ?_
      refine G_icmp_ge (pc := 32) (tgt := 77) dX11_nights_32 (Ri.mk (by omega) (by omega)) (Ri.mk (by omega) (by omega)) (by decide) (fun h_32 => ?_) (fun h_32 => ?_)
      · exact absurd h_32 (by omega)
      · refine G_aload_n (pc := 35) dX11_nights_35 rfl ?_
        refine G_getr (pc := 36) dX11_nights_36 fiX11_90 (by first | rfl | assumption) (by omega) (by first | rfl | assumption) ?_
        refine G_aload_n (pc := 39) dX11_nights_39 rfl ?_
        refine G_getr (pc := 40) dX11_nights_40 fiX11_26 (by first | rfl | assumption) (by omega) (by first | rfl | assumption) ?_
        refine G_getr (pc := 43) dX11_nights_43 fiX11_126 (by first | rfl | assumption) (by omega) (by first | rfl | assumption) ?_
        refine G_iload_n (pc := 46) dX11_nights_46 rfl ?_
        refine G_iload (pc := 47) dX11_nights_47 rfl ?_
        refine G_iadd (pc := 49) dX11_nights_49 ?_
        refine G_sipush (pc := 50) dX11_nights_50 (by decide) ?_
        refine G_irem (pc := 53) dX11_nights_53 (Ri.mk (by omega) (by omega)) (Ri.mk (by omega) (by omega)) (by omega) ?_
        rw [ez]
        refine G_callV (pc := 54) (md := mdX5_play) (av := [_, _]) dX11_nights_54 lkX11_248 mwX5_play (c_play 13 _ (Or.inl rfl) hM hC'.2.1 hB hC'.2.2.1 hRB hz') rfl (by first | rfl | assumption) (by omega) rfl rfl (Nat.le_of_ble_eq_true rfl) (by decide) ⟨Nat.zero_le _, Nat.zero_le _⟩ ?_
        rintro v I1 J1 ⟨rfl, rfl, hO1, hN⟩
        have hN : NI I1 (thE hs C ((z.toNat + k) % 10000)) (pyE hs C ((z.toNat + k) % 10000)) (sumN (thE hs C ((z.toNat + k) % 10000)) (zN hs) : Nat) (sxN hs C ((z.toNat + k) % 10000) (C 0 0)) := hN
        have p3 := hN.2.1
        have hCI : CI I1 n tx hs C kn K := hC'.off fun q h => hO1 q (by omega)
        have hle : sumN (thE hs C ((z.toNat + k) % 10000)) (zN hs) ≤ zN hs := hle
        refine G_aload_n (pc := 57) dX11_nights_57 rfl ?_
        refine G_getr (pc := 58) dX11_nights_58 fiX11_90 (by first | rfl | assumption) (by omega) (by first | rfl | assumption) ?_
        refine G_geti (pc := 61) dX11_nights_61 fiX11_252 (by first | rfl | assumption) (by omega) ?_
        refine G_iload_n (pc := 64) dX11_nights_64 rfl ?_
        refine G_icmp_ne (pc := 65) (tgt := 71) dX11_nights_65 (Ri.mk (by omega) (by omega)) (Ri.mk (by omega) (by omega)) (by decide) (fun h_65 => ?_) (fun h_65 => ?_)
        · refine G_iinc (pc := 71) (lv' := [_, _, _, _, _]) dX11_nights_71 (by decide) rfl rfl ?_
          refine G_goto (pc := 74) (tgt := 28) dX11_nights_74 (by decide) ?_
          exact ih (k + 1) _ _ (by omega) (by rw [hx, nsF]; first | (rw [if_pos (by omega)]; rfl) | (rw [if_neg (by omega)])) (by omega) (hO.trans (hO1.mono (by omega) (by omega))) hCI hz hc
        · refine G_iinc (pc := 68) (lv' := [_, _, _, _, _]) dX11_nights_68 (by decide) rfl rfl ?_
          refine G_iinc (pc := 71) (lv' := [_, _, _, _, _]) dX11_nights_71 (by decide) rfl rfl ?_
          refine G_goto (pc := 74) (tgt := 28) dX11_nights_74 (by decide) ?_
          exact ih (k + 1) _ _ (by omega) (by rw [hx, nsF]; first | (rw [if_pos (by omega)]; rfl) | (rw [if_neg (by omega)])) (by omega) (hO.trans (hO1.mono (by omega) (by omega))) hCI hz hc
  refine G_iload_n (pc := 0) dX11_nights_0 rfl ?_
  refine G_iconst (pc := 1) dX11_nights_1 ?_
  refine G_sipush (pc := 2) dX11_nights_2 (by decide) ?_
  refine G_callS1 (pc := 5) (md := mdX11_within) (av := [_, _, _]) dX11_nights_5 lkX11_101 mwX11_within (c_within _ _ _ rz (Ri.mk (by omega) (by omega)) (Ri.mk (by omega) (by omega))) rfl rfl (Nat.le_of_ble_eq_true rfl) (by decide) ⟨Nat.zero_le _, Nat.zero_le _⟩ ?_
  refine G_if_eq (pc := 8) (tgt := 21) dX11_nights_8 (by first | exact bI_R | exact Ri.mk (by omega) (by omega)) (by decide) (fun h_8 => ?_) (fun h_8 => ?_)
  · try simp only [bI_eq0, bI_ne0] at h_8
    refine G_iconst (pc := 21) dX11_nights_21 ?_
    refine G_iret (pc := 22) dX11_nights_22 rfl ?_
    exact ⟨by unfold aNights; rw [if_neg (by omega)], Off.rfl, Off.rfl, hC⟩
  · try simp only [bI_eq0, bI_ne0] at h_8
    refine G_iload_n (pc := 11) dX11_nights_11 rfl ?_
    refine G_iconst (pc := 12) dX11_nights_12 ?_
    refine G_bipush (pc := 13) dX11_nights_13 (by decide) ?_
    refine G_callS1 (pc := 15) (md := mdX11_within) (av := [_, _, _]) dX11_nights_15 lkX11_101 mwX11_within (c_within _ _ _ rc (Ri.mk (by omega) (by omega)) (Ri.mk (by omega) (by omega))) rfl rfl (Nat.le_of_ble_eq_true rfl) (by decide) ⟨Nat.zero_le _, Nat.zero_le _⟩ ?_
    refine G_if_ne (pc := 18) (tgt := 23) dX11_nights_18 (by first | exact bI_R | exact Ri.mk (by omega) (by omega)) (by decide) (fun h_18 => ?_) (fun h_18 => ?_)
    · try simp only [bI_eq0, bI_ne0] at h_18
      refine G_iconst (pc := 23) dX11_nights_23 ?_
      refine G_istore_n (pc := 24) (lv' := [_, _, _, _, _]) dX11_nights_24 (by decide) rfl ?_
      refine G_iconst (pc := 25) dX11_nights_25 ?_
      refine G_istore (pc := 26) (lv' := [_, _, _, _, _]) dX11_nights_26 (by decide) rfl ?_
      exact loop 10 0 0 _ (by omega) rfl (by omega) Off.rfl hC (by omega) (by omega)
    · try simp only [bI_eq0, bI_ne0] at h_18
      refine G_iconst (pc := 21) dX11_nights_21 ?_
      refine G_iret (pc := 22) dX11_nights_22 rfl ?_
      exact ⟨by unfold aNights; rw [if_neg (by omega)], Off.rfl, Off.rfl, hC⟩
theorem x_best (a m c i : Int) (hM : 71 ≤ M) (hC : CI I n tx hs C kn K) (hW : WF n tx hs C kn K) (ra : Ri a) (rm : Ri m) (rc : Ri c) (ri : Ri i) : FnQ E mdX11_best 8 M Rf [vr E 0, vi a, vi m, vi c, vi i] I J (CQ I J (aBest hs a m c i) n tx hs C kn K) := by
  obtain ⟨h1, hH, h3, h4, h5, h6, h7, h8⟩ := id hC
  obtain ⟨-, -, hB, -, h0A, hRB, hTB, -⟩ := id hW
  have bA := hB.2.1
  have hod : ∀ k, od hs (cdC (2 * zA hs) a.toNat k) c.toNat ≤ 1000000 := fun k => od_le hB _ _
  have hbr := bsF_R hs a.toNat m.toNat c.toNat hod ((2 * zA hs) ^ a.toNat)
  refine FnQ.of (by decide +kernel) (Nat.le_of_ble_eq_true rfl) ?_
  show GM E mdX11_best 8 M Rf _ I J 0 [some (vr E 0), some (vi a), some (vi m), some (vi c), some (vi i)] []
  refine G_iload_n (pc := 0) dX11_best_0 rfl ?_
  refine G_iconst (pc := 1) dX11_best_1 ?_
  refine G_iconst (pc := 2) dX11_best_2 ?_
  refine G_callS1 (pc := 3) (md := mdX11_within) (av := [_, _, _]) dX11_best_3 lkX11_101 mwX11_within (c_within _ _ _ ra (Ri.mk (by omega) (by omega)) (Ri.mk (by omega) (by omega))) rfl rfl (Nat.le_of_ble_eq_true rfl) (by decide) ⟨Nat.zero_le _, Nat.zero_le _⟩ ?_
  refine G_if_eq (pc := 6) (tgt := 41) dX11_best_6 (by first | exact bI_R | exact Ri.mk (by omega) (by omega)) (by decide) (fun h_6 => ?_) (fun h_6 => ?_)
  · try simp only [bI_eq0, bI_ne0] at h_6
    refine G_iconst (pc := 41) dX11_best_41 ?_
    refine G_iret (pc := 42) dX11_best_42 rfl ?_
    exact ⟨by unfold aBest; rw [if_neg (by omega)], Off.rfl, Off.rfl, hC⟩
  · try simp only [bI_eq0, bI_ne0] at h_6
    refine G_iload_n (pc := 9) dX11_best_9 rfl ?_
    refine G_iconst (pc := 10) dX11_best_10 ?_
    refine G_bipush (pc := 11) dX11_best_11 (by decide) ?_
    refine G_callS1 (pc := 13) (md := mdX11_within) (av := [_, _, _]) dX11_best_13 lkX11_101 mwX11_within (c_within _ _ _ rm (Ri.mk (by omega) (by omega)) (Ri.mk (by omega) (by omega))) rfl rfl (Nat.le_of_ble_eq_true rfl) (by decide) ⟨Nat.zero_le _, Nat.zero_le _⟩ ?_
    refine G_if_eq (pc := 16) (tgt := 41) dX11_best_16 (by first | exact bI_R | exact Ri.mk (by omega) (by omega)) (by decide) (fun h_16 => ?_) (fun h_16 => ?_)
    · try simp only [bI_eq0, bI_ne0] at h_16
      refine G_iconst (pc := 41) dX11_best_41 ?_
      refine G_iret (pc := 42) dX11_best_42 rfl ?_
      exact ⟨by unfold aBest; rw [if_neg (by omega)], Off.rfl, Off.rfl, hC⟩
    · try simp only [bI_eq0, bI_ne0] at h_16
      refine G_iload_n (pc := 19) dX11_best_19 rfl ?_
      refine G_iconst (pc := 20) dX11_best_20 ?_
      refine G_bipush (pc := 21) dX11_best_21 (by decide) ?_
      refine G_callS1 (pc := 23) (md := mdX11_within) (av := [_, _, _]) dX11_best_23 lkX11_101 mwX11_within (c_within _ _ _ rc (Ri.mk (by omega) (by omega)) (Ri.mk (by omega) (by omega))) rfl rfl (Nat.le_of_ble_eq_true rfl) (by decide) ⟨Nat.zero_le _, Nat.zero_le _⟩ ?_
      refine G_if_eq (pc := 26) (tgt := 41) dX11_best_26 (by first | exact bI_R | exact Ri.mk (by omega) (by omega)) (by decide) (fun h_26 => ?_) (fun h_26 => ?_)
      · try simp only [bI_eq0, bI_ne0] at h_26
        refine G_iconst (pc := 41) dX11_best_41 ?_
        refine G_iret (pc := 42) dX11_best_42 rfl ?_
        exact ⟨by unfold aBest; rw [if_neg (by omega)], Off.rfl, Off.rfl, hC⟩
      · try simp only [bI_eq0, bI_ne0] at h_26
        refine G_iload (pc := 29) dX11_best_29 rfl ?_
        refine G_iconst (pc := 31) dX11_best_31 ?_
        refine G_iload_n (pc := 32) dX11_best_32 rfl ?_
        refine G_iconst (pc := 33) dX11_best_33 ?_
        refine G_isub (pc := 34) dX11_best_34 ?_
        refine G_callS1 (pc := 35) (md := mdX11_within) (av := [_, _, _]) dX11_best_35 lkX11_101 mwX11_within (c_within _ _ _ ri (Ri.mk (by omega) (by omega)) (Ri.mk (by omega) (by omega))) rfl rfl (Nat.le_of_ble_eq_true rfl) (by decide) ⟨Nat.zero_le _, Nat.zero_le _⟩ ?_
        refine G_if_ne (pc := 38) (tgt := 43) dX11_best_38 (by first | exact bI_R | exact Ri.mk (by omega) (by omega)) (by decide) (fun h_38 => ?_) (fun h_38 => ?_)
        · try simp only [bI_eq0, bI_ne0] at h_38
          refine G_aload_n (pc := 43) dX11_best_43 rfl ?_
          refine G_getr (pc := 44) dX11_best_44 fiX11_67 (by first | rfl | assumption) (by omega) (by first | rfl | assumption) ?_
          refine G_iload_n (pc := 47) dX11_best_47 rfl ?_
          refine G_iload_n (pc := 48) dX11_best_48 rfl ?_
          refine G_iload_n (pc := 49) dX11_best_49 rfl ?_
          refine G_callV (pc := 50) (md := mdX0_choose) (av := [_, _, _]) dX11_best_50 lkX11_191 mwX0_choose (FnQ.av (by rw [Int.toNat_of_nonneg (show 0 ≤ a by omega), Int.toNat_of_nonneg (show 0 ≤ m by omega), Int.toNat_of_nonneg (show 0 ≤ c by omega)]) (c_choose a.toNat m.toNat c.toNat hM hH hB h0A (by omega) (by omega) (by omega) h8)) rfl (by first | rfl | assumption) (by omega) rfl rfl (Nat.le_of_ble_eq_true rfl) (by decide) ⟨Nat.zero_le _, Nat.zero_le _⟩ ?_
          rintro v I1 J1 ⟨rfl, hOJ, hO, hCh⟩
          have hCI : CI I1 n tx hs C kn K := ⟨h1.off (hO 1 (by omega)) (hO 2 (by omega)), hH.off fun q a b => hO q (by omega), h3.off fun q a b => hO q (by omega), h4.off fun q a b => hO q (by omega), by rw [hO 0 (by omega)]; exact h5, fun z => ⟨(h6 z).1.off fun q a b => hO q (by omega), (h6 z).2.off fun q a b => hO q (by omega)⟩, fun z => ⟨(h7 z).1.off fun q a b => hO q (by omega), (h7 z).2.off fun q a b => hO q (by omega)⟩, Or.inr ⟨a.toNat, m.toNat, c.toNat, by omega, by omega, by omega, hCh⟩⟩
          have hO2 : Off I I1 0 70 := hO.mono (by omega) (by omega)
          have hOJ2 : Off J J1 0 70 := hOJ.mono (by omega) (by omega)
          have p7 := hCh.2.2.2.1
          have hcond : (1 ≤ a ∧ a ≤ 3) ∧ (0 ≤ m ∧ m ≤ 90) ∧ (0 ≤ c ∧ c ≤ 12) ∧ -1 ≤ i ∧ i ≤ a - 1 := by omega
          refine G_aload_n (pc := 53) dX11_best_53 rfl ?_
          refine G_getr (pc := 54) dX11_best_54 fiX11_67 (by first | rfl | assumption) (by omega) (by first | rfl | assumption) ?_
          refine G_geti (pc := 57) dX11_best_57 fiX11_195 (by first | rfl | assumption) (by omega) ?_
          refine G_bipush (pc := 60) dX11_best_60 (by decide) ?_
          refine G_icmp_eq (pc := 62) (tgt := 71) dX11_best_62 (by first | exact bI_R | exact Ri.mk (by omega) (by omega)) (Ri.mk (by omega) (by omega)) (by decide) (fun h_62 => ?_) (fun h_62 => ?_)
          · refine G_aload_n (pc := 71) dX11_best_71 rfl ?_
            refine G_getr (pc := 72) dX11_best_72 fiX11_67 (by first | rfl | assumption) (by omega) (by first | rfl | assumption) ?_
            refine G_geti (pc := 75) dX11_best_75 fiX11_195 (by first | rfl | assumption) (by omega) ?_
            refine G_iret (pc := 78) dX11_best_78 rfl ?_
            exact ⟨by unfold aBest; rw [if_pos hcond, if_pos (by omega), p7], hO2, hOJ2, hCI⟩
          · refine G_iload (pc := 65) dX11_best_65 rfl ?_
            refine G_iconst (pc := 67) dX11_best_67 ?_
            refine G_icmp_ne (pc := 68) (tgt := 79) dX11_best_68 (by first | exact bI_R | exact Ri.mk (by omega) (by omega)) (Ri.mk (by omega) (by omega)) (by decide) (fun h_68 => ?_) (fun h_68 => ?_)
            · refine G_aload_n (pc := 79) dX11_best_79 rfl ?_
              refine G_getr (pc := 80) dX11_best_80 fiX11_67 (by first | rfl | assumption) (by omega) (by first | rfl | assumption) ?_
              refine G_iload (pc := 83) dX11_best_83 rfl ?_
              refine G_callV1 (pc := 85) (md := mdX0_number) (av := [_]) dX11_best_85 lkX11_197 mwX0_number (FnQ.av (by rw [Int.toNat_of_nonneg (show 0 ≤ i by omega)]) (c_number (hs := hs) i.toNat hM (hCh.2.2.2.2 (by omega)) (cdC_B h0A (by omega)) bA (show i.toNat < a.toNat by omega))) rfl (by first | rfl | assumption) (by omega) rfl rfl (Nat.le_of_ble_eq_true rfl) (by decide) ⟨Nat.zero_le _, Nat.zero_le _⟩ ?_
              refine G_iret (pc := 88) dX11_best_88 rfl ?_
              refine ⟨?_, hO2, hOJ2, hCI⟩
              unfold aBest; rw [if_pos hcond, if_neg (by omega)]
              congr 3
              show 2 * (dgB (2 * zA hs) a.toNat _ i.toNat / 2) + dgB (2 * zA hs) a.toNat _ i.toNat % 2 = _
              omega
            · refine G_aload_n (pc := 71) dX11_best_71 rfl ?_
              refine G_getr (pc := 72) dX11_best_72 fiX11_67 (by first | rfl | assumption) (by omega) (by first | rfl | assumption) ?_
              refine G_geti (pc := 75) dX11_best_75 fiX11_195 (by first | rfl | assumption) (by omega) ?_
              refine G_iret (pc := 78) dX11_best_78 rfl ?_
              exact ⟨by unfold aBest; rw [if_pos hcond, if_pos (by omega), p7], hO2, hOJ2, hCI⟩
        · try simp only [bI_eq0, bI_ne0] at h_38
          refine G_iconst (pc := 41) dX11_best_41 ?_
          refine G_iret (pc := 42) dX11_best_42 rfl ?_
          exact ⟨by unfold aBest; rw [if_neg (by omega)], Off.rfl, Off.rfl, hC⟩
end COMP3
