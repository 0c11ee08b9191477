section COMP2
variable {E : EV} {M : Nat} {I J : Nat → Nat → Int} {n : Nat} {tx : Nat → Int} {hs : HS} {C : CS} {kn : Nat} {K : Nat → CS}
theorem Off66 {J : Nat → Nat → Int} {a b : Int} : Off J (wr (wr J 66 0 a) 66 1 b) 0 70 := (Off.rfl.set (by omega) (by omega)).set (by omega) (by omega)
theorem fA_le (a b : Nat) (h : a < 4611686018427387904) : 0 ≤ fA a b ∧ fA a b < 4611686018427387904 := by
  have := Nat.div_le_self a (Nat.gcd a b)
  unfold fA
  generalize a / Nat.gcd a b = x at this ⊢
  omega
theorem fB_le (a b : Nat) (h : b < 4611686018427387904) : 0 ≤ fB a b ∧ fB a b < 4611686018427387904 := by
  have := Nat.div_le_self b (Nat.gcd a b)
  unfold fB
  generalize b / Nat.gcd a b = x at this ⊢
  omega
theorem fB_0 (a b : Nat) : fB a b = 0 ↔ b = 0 := by
  unfold fB
  constructor
  · intro h
    rcases Nat.eq_zero_or_pos b with h0 | h0
    · exact h0
    · have := Nat.div_pos (Nat.gcd_le_right a h0) (Nat.gcd_pos_of_pos_right a h0)
      omega
  · intro h; rw [h, Nat.zero_div]; rfl
theorem aFr_eq (a b : Nat) (p : Int) : aFr a b p = if fB a b = 0 then -4 else if p = 0 then fA a b else fB a b := by
  unfold aFr
  by_cases h : b = 0
  · rw [if_pos h, if_pos ((fB_0 a b).mpr h)]
  · rw [if_neg h, if_neg (fun z => h ((fB_0 a b).mp z))]
theorem c_partF {a b : Nat} (p : Int) (hM : 71 ≤ M) (hb : b < 4611686018427387904) (rp : Ri p) : FnF E mdX3_part 0 M Rf [vr E 66, vi p] I (wr (wr J 66 0 ((a / Nat.gcd a b : Nat) : Int)) 66 1 ((b / Nat.gcd a b : Nat) : Int)) (some (vl (aFr a b p))) I (wr (wr J 66 0 ((a / Nat.gcd a b : Nat) : Int)) 66 1 ((b / Nat.gcd a b : Nat) : Int)) := by
  have h := fB_le a b hb
  have := c_part (E := E) (M := M) (I := I) (J := wr (wr J 66 0 ((a / Nat.gcd a b : Nat) : Int)) 66 1 ((b / Nat.gcd a b : Nat) : Int)) (fA a b) (fB a b) p hM (by rw [wr_n (by decide), wr_s]; rfl) (by rw [wr_s]; rfl) (Rl.mk (by omega) (by omega)) rp
  rw [aFr_eq]; exact this
theorem x_words (a : Int) (hM : 71 ≤ M) (hC : CI I n tx hs C kn K) (hW : WF n tx hs C kn K) (ra : Ri a) : FnQ E mdX11_words 8 M Rf [vr E 0, vi a] I J (CQ I J (aWords hs a) n tx hs C kn K) := by
  have hH := hC.2.1
  have hB := hW.2.2.1
  refine FnQ.of (by decide +kernel) (Nat.le_of_ble_eq_true rfl) ?_
  show GM E mdX11_words 8 M Rf _ I J 0 [some (vr E 0), some (vi a)] []
  refine G_aload_n (pc := 0) dX11_words_0 rfl ?_
  refine G_getr (pc := 1) dX11_words_1 fiX11_19 (by first | rfl | assumption) (by omega) (by first | rfl | assumption) ?_
  refine G_iload_n (pc := 4) dX11_words_4 rfl ?_
  refine G_callV1 (pc := 5) (md := mdX4_hasAsk) (av := [_]) dX11_words_5 lkX11_152 mwX4_hasAsk (c_hasAsk 3 a (Or.inl rfl) hM hH hB ra) rfl (by first | rfl | assumption) (by omega) rfl rfl (Nat.le_of_ble_eq_true rfl) (by decide) ⟨Nat.zero_le _, Nat.zero_le _⟩ ?_
  refine G_if_eq (pc := 8) (tgt := 26) dX11_words_8 bI_R (by decide) (fun h_8 => ?_) (fun h_8 => ?_)
  · try simp only [bI_eq0, bI_ne0] at h_8
    refine G_iconst (pc := 26) dX11_words_26 ?_
    refine G_iret (pc := 27) dX11_words_27 rfl ?_
    exact ⟨by unfold aWords; first | rw [if_neg (by omega)] | rw [if_pos (by omega)], Off.rfl, Off.rfl, hC⟩
  · try simp only [bI_eq0, bI_ne0] at h_8
    refine G_aload_n (pc := 11) dX11_words_11 rfl ?_
    refine G_getr (pc := 12) dX11_words_12 fiX11_83 (by first | rfl | assumption) (by omega) (by first | rfl | assumption) ?_
    refine G_iload_n (pc := 15) dX11_words_15 rfl ?_
    refine G_callV1 (pc := 16) (md := mdX2_added) (av := [_]) dX11_words_16 lkX11_207 mwX2_added (FnQ.av (by rw [Int.toNat_of_nonneg (show 0 ≤ a by omega)]) (c_added a.toNat hM hH hB (by omega))) rfl (by first | rfl | assumption) (by omega) rfl rfl (Nat.le_of_ble_eq_true rfl) (by decide) ⟨Nat.zero_le _, Nat.zero_le _⟩ ?_
    refine G_sipush (pc := 19) dX11_words_19 (by decide) ?_
    refine G_iadd (pc := 22) dX11_words_22 ?_
    refine G_goto (pc := 23) (tgt := 27) dX11_words_23 (by decide) ?_
    refine G_iret (pc := 27) dX11_words_27 rfl ?_
    exact ⟨by unfold aWords; first | rw [if_neg (by omega)] | rw [if_pos (by omega)], Off.rfl, Off.rfl, hC⟩
theorem x_harm (a w : Int) (hM : 71 ≤ M) (hC : CI I n tx hs C kn K) (hW : WF n tx hs C kn K) (ra : Ri a) (rw_ : Ri w) : FnQ E mdX11_harm 8 M Rf [vr E 0, vi a, vi w] I J (CQ I J (aHarm hs a w) n tx hs C kn K) := by
  have hH := hC.2.1
  have hB := hW.2.2.1
  have h0S := hW.2.2.2.1
  have hal := am_lt (fun s => gn hs s a.toNat) (zS hs) h0S
  refine FnQ.of (by decide +kernel) (Nat.le_of_ble_eq_true rfl) ?_
  show GM E mdX11_harm 8 M Rf _ I J 0 [some (vr E 0), some (vi a), some (vi w), none] []
  refine G_aload_n (pc := 0) dX11_harm_0 rfl ?_
  refine G_getr (pc := 1) dX11_harm_1 fiX11_19 (by first | rfl | assumption) (by omega) (by first | rfl | assumption) ?_
  refine G_iload_n (pc := 4) dX11_harm_4 rfl ?_
  refine G_callV1 (pc := 5) (md := mdX4_hasAsk) (av := [_]) dX11_harm_5 lkX11_152 mwX4_hasAsk (c_hasAsk 3 a (Or.inl rfl) hM hH hB ra) rfl (by first | rfl | assumption) (by omega) rfl rfl (Nat.le_of_ble_eq_true rfl) (by decide) ⟨Nat.zero_le _, Nat.zero_le _⟩ ?_
  refine G_if_eq (pc := 8) (tgt := 20) dX11_harm_8 (by first | exact bI_R | exact rw_) (by decide) (fun h_8 => ?_) (fun h_8 => ?_)
  · try simp only [bI_eq0, bI_ne0] at h_8
    refine G_iconst (pc := 20) dX11_harm_20 ?_
    refine G_iret (pc := 21) dX11_harm_21 rfl ?_
    exact ⟨by unfold aHarm; first | rw [if_neg (by omega)] | rw [if_pos (by omega), if_pos (by omega)] | rw [if_pos (by omega), if_neg (by omega)], Off.rfl, Off.rfl, hC⟩
  · try simp only [bI_eq0, bI_ne0] at h_8
    refine G_iload_n (pc := 11) dX11_harm_11 rfl ?_
    refine G_iconst (pc := 12) dX11_harm_12 ?_
    refine G_iconst (pc := 13) dX11_harm_13 ?_
    refine G_callS1 (pc := 14) (md := mdX11_within) (av := [_, _, _]) dX11_harm_14 lkX11_101 mwX11_within (c_within _ _ _ rw_ (Ri.mk (by omega) (by omega)) (Ri.mk (by omega) (by omega))) rfl rfl (Nat.le_of_ble_eq_true rfl) (by decide) ⟨Nat.zero_le _, Nat.zero_le _⟩ ?_
    refine G_if_ne (pc := 17) (tgt := 22) dX11_harm_17 (by first | exact bI_R | exact rw_) (by decide) (fun h_17 => ?_) (fun h_17 => ?_)
    · try simp only [bI_eq0, bI_ne0] at h_17
      refine G_aload_n (pc := 22) dX11_harm_22 rfl ?_
      refine G_getr (pc := 23) dX11_harm_23 fiX11_83 (by first | rfl | assumption) (by omega) (by first | rfl | assumption) ?_
      refine G_iload_n (pc := 26) dX11_harm_26 rfl ?_
      refine G_callV1 (pc := 27) (md := mdX2_mostHarmed) (av := [_]) dX11_harm_27 lkX11_210 mwX2_mostHarmed (FnQ.av (by rw [Int.toNat_of_nonneg (show 0 ≤ a by omega)]) (c_mostHarmed a.toNat hM hH hB h0S (by omega))) rfl (by first | rfl | assumption) (by omega) rfl rfl (Nat.le_of_ble_eq_true rfl) (by decide) ⟨Nat.zero_le _, Nat.zero_le _⟩ ?_
      refine G_istore_n (pc := 30) (lv' := [_, _, _, _]) dX11_harm_30 (by decide) rfl ?_
      refine G_iload_n (pc := 31) dX11_harm_31 rfl ?_
      refine G_if_ne (pc := 32) (tgt := 50) dX11_harm_32 (by first | exact bI_R | exact rw_) (by decide) (fun h_32 => ?_) (fun h_32 => ?_)
      · try simp only [bI_eq0, bI_ne0] at h_32
        refine G_iload_n (pc := 50) dX11_harm_50 rfl ?_
        refine G_iret (pc := 51) dX11_harm_51 rfl ?_
        exact ⟨by unfold aHarm; first | rw [if_neg (by omega)] | rw [if_pos (by omega), if_pos (by omega)] | rw [if_pos (by omega), if_neg (by omega)], Off.rfl, Off.rfl, hC⟩
      · try simp only [bI_eq0, bI_ne0] at h_32
        refine G_aload_n (pc := 35) dX11_harm_35 rfl ?_
        refine G_getr (pc := 36) dX11_harm_36 fiX11_83 (by first | rfl | assumption) (by omega) (by first | rfl | assumption) ?_
        refine G_iload_n (pc := 39) dX11_harm_39 rfl ?_
        refine G_iload_n (pc := 40) dX11_harm_40 rfl ?_
        refine G_callV1 (pc := 41) (md := mdX2_gain) (av := [_, _]) dX11_harm_41 lkX11_213 mwX2_gain (FnQ.av (by rw [Int.toNat_of_nonneg (show 0 ≤ a by omega)]) (c_gain (am (fun s => gn hs s a.toNat) (zS hs)) a.toNat hM hH hB hal (by omega))) rfl (by first | rfl | assumption) (by omega) rfl rfl (Nat.le_of_ble_eq_true rfl) (by decide) ⟨Nat.zero_le _, Nat.zero_le _⟩ ?_
        refine G_bipush (pc := 44) dX11_harm_44 (by decide) ?_
        refine G_iadd (pc := 46) dX11_harm_46 ?_
        refine G_goto (pc := 47) (tgt := 51) dX11_harm_47 (by decide) ?_
        refine G_iret (pc := 51) dX11_harm_51 rfl ?_
        exact ⟨by unfold aHarm; first | rw [if_neg (by omega)] | rw [if_pos (by omega), if_pos (by omega)] | rw [if_pos (by omega), if_neg (by omega)], Off.rfl, Off.rfl, hC⟩
    · try simp only [bI_eq0, bI_ne0] at h_17
      refine G_iconst (pc := 20) dX11_harm_20 ?_
      refine G_iret (pc := 21) dX11_harm_21 rfl ?_
      exact ⟨by unfold aHarm; first | rw [if_neg (by omega)] | rw [if_pos (by omega), if_pos (by omega)] | rw [if_pos (by omega), if_neg (by omega)], Off.rfl, Off.rfl, hC⟩
theorem x_people (p : Int) (hM : 71 ≤ M) (hC : CI I n tx hs C kn K) (hW : WF n tx hs C kn K) (rp : Ri p) : FnQ E mdX11_people 8 M Rf [vr E 0, vi p] I J (CQl I J (aPeople hs p) n tx hs C kn K) := by
  have hH := hC.2.1
  have hB := hW.2.2.1
  have hbl := blw_le hB (-4)
  refine FnQ.of (by decide +kernel) (Nat.le_of_ble_eq_true rfl) ?_
  show GM E mdX11_people 8 M Rf _ I J 0 [some (vr E 0), some (vi p)] []
  refine G_iload_n (pc := 0) dX11_people_0 rfl ?_
  refine G_iconst (pc := 1) dX11_people_1 ?_
  refine G_iconst (pc := 2) dX11_people_2 ?_
  refine G_callS1 (pc := 3) (md := mdX11_within) (av := [_, _, _]) dX11_people_3 lkX11_101 mwX11_within (c_within _ _ _ rp (Ri.mk (by omega) (by omega)) (Ri.mk (by omega) (by omega))) rfl rfl (Nat.le_of_ble_eq_true rfl) (by decide) ⟨Nat.zero_le _, Nat.zero_le _⟩ ?_
  refine G_if_ne (pc := 6) (tgt := 13) dX11_people_6 bI_R (by decide) (fun h_6 => ?_) (fun h_6 => ?_)
  · try simp only [bI_eq0, bI_ne0] at h_6
    refine G_aload_n (pc := 13) dX11_people_13 rfl ?_
    refine G_getr (pc := 14) dX11_people_14 fiX11_83 (by first | rfl | assumption) (by omega) (by first | rfl | assumption) ?_
    refine G_bipush (pc := 17) dX11_people_17 (by decide) ?_
    refine G_callV0 (pc := 19) (md := mdX2_weighPeople) (av := [_]) dX11_people_19 lkX11_219 mwX2_weighPeople (c_weighPeople (-4) hM hH hB (Ri.mk (by omega) (by omega))) rfl (by first | rfl | assumption) (by omega) rfl rfl (Nat.le_of_ble_eq_true rfl) (by decide) ⟨Nat.zero_le _, Nat.zero_le _⟩ ?_
    refine G_aload_n (pc := 22) dX11_people_22 rfl ?_
    refine G_getr (pc := 23) dX11_people_23 fiX11_74 (by first | rfl | assumption) (by omega) (by first | rfl | assumption) ?_
    refine G_iload_n (pc := 26) dX11_people_26 rfl ?_
    refine G_callV1 (pc := 27) (md := mdX3_part) (av := [_]) dX11_people_27 lkX11_204 mwX3_part (c_partF p hM (by omega) rp) rfl (by first | rfl | assumption) (by omega) rfl rfl (Nat.le_of_ble_eq_true rfl) (by decide) ⟨Nat.zero_le _, Nat.zero_le _⟩ ?_
    refine G_lret (pc := 30) dX11_people_30 rfl ?_
    exact ⟨by unfold aPeople; rw [if_pos (show 0 ≤ p ∧ p ≤ 1 by omega)], Off.rfl, Off66, hC⟩
  · try simp only [bI_eq0, bI_ne0] at h_6
    refine G_ldc2 (pc := 9) dX11_people_9 klX11_217 ?_
    refine G_lret (pc := 12) dX11_people_12 rfl ?_
    exact ⟨by unfold aPeople; rw [if_neg (by omega)], Off.rfl, Off.rfl, hC⟩
theorem x_tells (hM : 71 ≤ M) (hC : CI I n tx hs C kn K) (hW : WF n tx hs C kn K) : FnQ E mdX11_tells 8 M Rf [vr E 0] I J (CQ I J (aTells hs) n tx hs C kn K) := by
  have hH := hC.2.1
  have hB := hW.2.2.1
  have bA := hB.2.1
  have v9 : I 3 9 = (zA hs : Int) := hH.2.2 9 (by omega) (by omega)
  refine FnQ.of (by decide +kernel) (Nat.le_of_ble_eq_true rfl) ?_
  show GM E mdX11_tells 8 M Rf _ I J 0 [some (vr E 0)] []
  refine G_aload_n (pc := 0) dX11_tells_0 rfl ?_
  refine G_getr (pc := 1) dX11_tells_1 fiX11_19 (by first | rfl | assumption) (by omega) (by first | rfl | assumption) ?_
  refine G_geti (pc := 4) dX11_tells_4 fiX11_120 (by first | rfl | assumption) (by omega) ?_
  refine G_iconst (pc := 7) dX11_tells_7 ?_
  refine G_icmp_ge (pc := 8) (tgt := 16) dX11_tells_8 (Ri.mk (by omega) (by omega)) (Ri.mk (by omega) (by omega)) (by decide) (fun h_8 => ?_) (fun h_8 => ?_)
  · refine G_aload_n (pc := 16) dX11_tells_16 rfl ?_
    refine G_getr (pc := 17) dX11_tells_17 fiX11_83 (by first | rfl | assumption) (by omega) (by first | rfl | assumption) ?_
    refine G_callV (pc := 20) (md := mdX2_mostTelling) (av := []) dX11_tells_20 lkX11_223 mwX2_mostTelling (c_mostTelling hM hH hB (by omega)) rfl (by first | rfl | assumption) (by omega) rfl rfl (Nat.le_of_ble_eq_true rfl) (by decide) ⟨Nat.zero_le _, Nat.zero_le _⟩ ?_
    rintro v I1 J1 ⟨rfl, rfl, hO⟩
    refine G_iret (pc := 23) dX11_tells_23 rfl ?_
    first | exact ⟨by unfold aTells; rw [if_pos (by omega)], Off.rfl, Off.rfl, hC⟩ | exact ⟨by unfold aTells; rw [if_neg (by omega)], Off.rfl, hO.mono (by omega) (by omega), hC⟩
  · refine G_bipush (pc := 11) dX11_tells_11 (by decide) ?_
    refine G_goto (pc := 13) (tgt := 23) dX11_tells_13 (by decide) ?_
    refine G_iret (pc := 23) dX11_tells_23 rfl ?_
    first | exact ⟨by unfold aTells; rw [if_pos (by omega)], Off.rfl, Off.rfl, hC⟩ | exact ⟨by unfold aTells; rw [if_neg (by omega)], Off.rfl, hO.mono (by omega) (by omega), hC⟩
theorem x_relief (s a w : Int) (hM : 71 ≤ M) (hC : CI I n tx hs C kn K) (hW : WF n tx hs C kn K) (rs : Ri s) (ra : Ri a) (rw_ : Ri w) : FnQ E mdX11_relief 8 M Rf [vr E 0, vi s, vi a, vi w] I J (CQ I J (aRelief hs s a w) n tx hs C kn K) := by
  have hH := hC.2.1
  have hB := hW.2.2.1
  refine FnQ.of (by decide +kernel) (Nat.le_of_ble_eq_true rfl) ?_
  show GM E mdX11_relief 8 M Rf _ I J 0 [some (vr E 0), some (vi s), some (vi a), some (vi w)] []
  refine G_aload_n (pc := 0) dX11_relief_0 rfl ?_
  refine G_getr (pc := 1) dX11_relief_1 fiX11_19 (by first | rfl | assumption) (by omega) (by first | rfl | assumption) ?_
  refine G_iload_n (pc := 4) dX11_relief_4 rfl ?_
  refine G_callV1 (pc := 5) (md := mdX4_hasSort) (av := [_]) dX11_relief_5 lkX11_148 mwX4_hasSort (c_hasSort 3 s (Or.inl rfl) hM hH hB rs) rfl (by first | rfl | assumption) (by omega) rfl rfl (Nat.le_of_ble_eq_true rfl) (by decide) ⟨Nat.zero_le _, Nat.zero_le _⟩ ?_
  refine G_if_eq (pc := 8) (tgt := 31) dX11_relief_8 (by first | exact bI_R | exact rw_) (by decide) (fun h_8 => ?_) (fun h_8 => ?_)
  · try simp only [bI_eq0, bI_ne0] at h_8
    refine G_iconst (pc := 31) dX11_relief_31 ?_
    refine G_iret (pc := 32) dX11_relief_32 rfl ?_
    exact ⟨by unfold aRelief; first | rw [if_neg (by omega)] | (rw [if_pos (by omega), if_pos (by omega)]; rfl) | (rw [if_pos (by omega), if_neg (by omega)]; rfl), Off.rfl, Off.rfl, hC⟩
  · try simp only [bI_eq0, bI_ne0] at h_8
    refine G_aload_n (pc := 11) dX11_relief_11 rfl ?_
    refine G_getr (pc := 12) dX11_relief_12 fiX11_19 (by first | rfl | assumption) (by omega) (by first | rfl | assumption) ?_
    refine G_iload_n (pc := 15) dX11_relief_15 rfl ?_
    refine G_callV1 (pc := 16) (md := mdX4_hasAsk) (av := [_]) dX11_relief_16 lkX11_152 mwX4_hasAsk (c_hasAsk 3 a (Or.inl rfl) hM hH hB ra) rfl (by first | rfl | assumption) (by omega) rfl rfl (Nat.le_of_ble_eq_true rfl) (by decide) ⟨Nat.zero_le _, Nat.zero_le _⟩ ?_
    refine G_if_eq (pc := 19) (tgt := 31) dX11_relief_19 (by first | exact bI_R | exact rw_) (by decide) (fun h_19 => ?_) (fun h_19 => ?_)
    · try simp only [bI_eq0, bI_ne0] at h_19
      refine G_iconst (pc := 31) dX11_relief_31 ?_
      refine G_iret (pc := 32) dX11_relief_32 rfl ?_
      exact ⟨by unfold aRelief; first | rw [if_neg (by omega)] | (rw [if_pos (by omega), if_pos (by omega)]; rfl) | (rw [if_pos (by omega), if_neg (by omega)]; rfl), Off.rfl, Off.rfl, hC⟩
    · try simp only [bI_eq0, bI_ne0] at h_19
      refine G_iload_n (pc := 22) dX11_relief_22 rfl ?_
      refine G_iconst (pc := 23) dX11_relief_23 ?_
      refine G_iconst (pc := 24) dX11_relief_24 ?_
      refine G_callS1 (pc := 25) (md := mdX11_within) (av := [_, _, _]) dX11_relief_25 lkX11_101 mwX11_within (c_within _ _ _ rw_ (Ri.mk (by omega) (by omega)) (Ri.mk (by omega) (by omega))) rfl rfl (Nat.le_of_ble_eq_true rfl) (by decide) ⟨Nat.zero_le _, Nat.zero_le _⟩ ?_
      refine G_if_ne (pc := 28) (tgt := 33) dX11_relief_28 (by first | exact bI_R | exact rw_) (by decide) (fun h_28 => ?_) (fun h_28 => ?_)
      · try simp only [bI_eq0, bI_ne0] at h_28
        refine G_iload_n (pc := 33) dX11_relief_33 rfl ?_
        refine G_if_ne (pc := 34) (tgt := 49) dX11_relief_34 (by first | exact bI_R | exact rw_) (by decide) (fun h_34 => ?_) (fun h_34 => ?_)
        · try simp only [bI_eq0, bI_ne0] at h_34
          refine G_aload_n (pc := 49) dX11_relief_49 rfl ?_
          refine G_getr (pc := 50) dX11_relief_50 fiX11_19 (by first | rfl | assumption) (by omega) (by first | rfl | assumption) ?_
          refine G_callV1 (pc := 53) (md := mdX4_easedBySugar) (av := []) dX11_relief_53 lkX11_229 mwX4_easedBySugar (c_easedBySugar 3 (Or.inl rfl) hM hH hB) rfl (by first | rfl | assumption) (by omega) rfl rfl (Nat.le_of_ble_eq_true rfl) (by decide) ⟨Nat.zero_le _, Nat.zero_le _⟩ ?_
          refine G_iret (pc := 56) dX11_relief_56 rfl ?_
          exact ⟨by unfold aRelief; first | rw [if_neg (by omega)] | (rw [if_pos (by omega), if_pos (by omega)]; rfl) | (rw [if_pos (by omega), if_neg (by omega)]; rfl), Off.rfl, Off.rfl, hC⟩
        · try simp only [bI_eq0, bI_ne0] at h_34
          refine G_aload_n (pc := 37) dX11_relief_37 rfl ?_
          refine G_getr (pc := 38) dX11_relief_38 fiX11_83 (by first | rfl | assumption) (by omega) (by first | rfl | assumption) ?_
          refine G_iload_n (pc := 41) dX11_relief_41 rfl ?_
          refine G_iload_n (pc := 42) dX11_relief_42 rfl ?_
          refine G_callV1 (pc := 43) (md := mdX2_eased) (av := [_, _]) dX11_relief_43 lkX11_226 mwX2_eased (FnQ.av (by rw [Int.toNat_of_nonneg (show 0 ≤ s by omega), Int.toNat_of_nonneg (show 0 ≤ a by omega)]) (c_eased s.toNat a.toNat hM hH hB (by omega) (by omega))) rfl (by first | rfl | assumption) (by omega) rfl rfl (Nat.le_of_ble_eq_true rfl) (by decide) ⟨Nat.zero_le _, Nat.zero_le _⟩ ?_
          refine G_goto (pc := 46) (tgt := 56) dX11_relief_46 (by decide) ?_
          refine G_iret (pc := 56) dX11_relief_56 rfl ?_
          exact ⟨by unfold aRelief; first | rw [if_neg (by omega)] | (rw [if_pos (by omega), if_pos (by omega)]; rfl) | (rw [if_pos (by omega), if_neg (by omega)]; rfl), Off.rfl, Off.rfl, hC⟩
      · try simp only [bI_eq0, bI_ne0] at h_28
        refine G_iconst (pc := 31) dX11_relief_31 ?_
        refine G_iret (pc := 32) dX11_relief_32 rfl ?_
        exact ⟨by unfold aRelief; first | rw [if_neg (by omega)] | (rw [if_pos (by omega), if_pos (by omega)]; rfl) | (rw [if_pos (by omega), if_neg (by omega)]; rfl), Off.rfl, Off.rfl, hC⟩
theorem wtF_lt (hs : HS) (a q : Nat) : ∀ n, wtF hs a q n < 2 ^ n
  | 0 => by simp [wtF]
  | n + 1 => by
    have h := wtF_lt hs a q n
    have h2 : (2 : Nat) ^ (n + 1) = 2 ^ n + 2 ^ n := by rw [Nat.pow_succ]; omega
    rw [wtF]; split
    · exact Nat.or_lt_two_pow (by omega) (by have := Nat.pow_pos (n := n) (show 0 < 2 by decide); omega)
    · omega
theorem x_man (p : Int) (hM : 71 ≤ M) (hC : CI I n tx hs C kn K) (hW : WF n tx hs C kn K) (rp : Ri p) : FnQ E mdX11_man 8 M Rf [vr E 0, vi p] I J (CQl I J (aMan hs C p) n tx hs C kn K) := by
  have hH := hC.2.1
  obtain ⟨-, -, hB, -, -, hRB, hTB, -⟩ := id hW
  have v11 : I 3 11 = (hs 11 0 : Int) := hH.2.2 11 (by omega) (by omega)
  have b11 := hB.2.2.2.2.2.2.1
  have t3 := hTB.1
  have g1 : prodN (wiT hs C) (C 3 0) ≤ 600000 ^ 3 := Nat.le_trans (prodN_le fun i hi => wiT_le hTB hi) (Nat.pow_le_pow_right (by decide) t3)
  have g2 : prodN (woT hs C) (C 3 0) ≤ 600000 ^ 3 := Nat.le_trans (prodN_le fun i hi => woT_le hTB hi) (Nat.pow_le_pow_right (by decide) t3)
  have g3 := Nat.mul_le_mul b11 g1
  have g4 := Nat.mul_le_mul (show 10 - hs 11 0 ≤ 10 by omega) g2
  have e1 : (hs 11 0 : Int) * (prodN (wiT hs C) (C 3 0) : Int) = (wiP hs C : Int) := (Int.natCast_mul _ _).symm
  have e2 : ((10 : Int) - (hs 11 0 : Int)) * (prodN (woT hs C) (C 3 0) : Int) = (woP hs C : Int) := by rw [woP, Int.natCast_mul, Int.ofNat_sub b11]; rfl
  have g5 : wiP hs C ≤ 10 * 600000 ^ 3 := g3
  have g6 : woP hs C ≤ 10 * 600000 ^ 3 := g4
  refine FnQ.of (by decide +kernel) (Nat.le_of_ble_eq_true rfl) ?_
  show GM E mdX11_man 8 M Rf _ I J 0 [some (vr E 0), some (vi p), none, none, none, none] []
  refine G_iload_n (pc := 0) dX11_man_0 rfl ?_
  refine G_iconst (pc := 1) dX11_man_1 ?_
  refine G_iconst (pc := 2) dX11_man_2 ?_
  refine G_callS1 (pc := 3) (md := mdX11_within) (av := [_, _, _]) dX11_man_3 lkX11_101 mwX11_within (c_within _ _ _ rp (Ri.mk (by omega) (by omega)) (Ri.mk (by omega) (by omega))) rfl rfl (Nat.le_of_ble_eq_true rfl) (by decide) ⟨Nat.zero_le _, Nat.zero_le _⟩ ?_
  refine G_if_ne (pc := 6) (tgt := 13) dX11_man_6 (by first | exact bI_R | exact Ri.mk (by omega) (by omega)) (by decide) (fun h_6 => ?_) (fun h_6 => ?_)
  · try simp only [bI_eq0, bI_ne0] at h_6
    refine G_aload_n (pc := 13) dX11_man_13 rfl ?_
    refine G_getr (pc := 14) dX11_man_14 fiX11_19 (by first | rfl | assumption) (by omega) (by first | rfl | assumption) ?_
    refine G_geti (pc := 17) dX11_man_17 fiX11_234 (by first | rfl | assumption) (by omega) ?_
    refine G_i2l (pc := 20) dX11_man_20 (by first | exact bI_R | exact Ri.mk (by omega) (by omega)) ?_
    refine G_aload_n (pc := 21) dX11_man_21 rfl ?_
    refine G_getr (pc := 22) dX11_man_22 fiX11_26 (by first | rfl | assumption) (by omega) (by first | rfl | assumption) ?_
    refine G_getr (pc := 25) dX11_man_25 fiX11_132 (by first | rfl | assumption) (by omega) (by first | rfl | assumption) ?_
    refine G_aload_n (pc := 28) dX11_man_28 rfl ?_
    refine G_getr (pc := 29) dX11_man_29 fiX11_19 (by first | rfl | assumption) (by omega) (by first | rfl | assumption) ?_
    refine G_callV1 (pc := 32) (md := mdX10_withHim) (av := [_]) dX11_man_32 lkX11_237 mwX10_withHim (c_withHim 16 (Or.inl rfl) hM hH hB hC.2.2.2.1 hTB) rfl (by first | rfl | assumption) (by omega) rfl rfl (Nat.le_of_ble_eq_true rfl) (by decide) ⟨Nat.zero_le _, Nat.zero_le _⟩ ?_
    refine G_lmul (pc := 35) dX11_man_35 ?_
    rw [v11, e1]
    refine G_lstore_n (pc := 36) (lv' := [_, _, _, _, _, _]) dX11_man_36 (by decide) rfl ?_
    refine G_bipush (pc := 37) dX11_man_37 (by decide) ?_
    refine G_aload_n (pc := 39) dX11_man_39 rfl ?_
    refine G_getr (pc := 40) dX11_man_40 fiX11_19 (by first | rfl | assumption) (by omega) (by first | rfl | assumption) ?_
    refine G_geti (pc := 43) dX11_man_43 fiX11_234 (by first | rfl | assumption) (by omega) ?_
    refine G_isub (pc := 46) dX11_man_46 ?_
    refine G_i2l (pc := 47) dX11_man_47 (by first | exact bI_R | exact Ri.mk (by omega) (by omega)) ?_
    refine G_aload_n (pc := 48) dX11_man_48 rfl ?_
    refine G_getr (pc := 49) dX11_man_49 fiX11_26 (by first | rfl | assumption) (by omega) (by first | rfl | assumption) ?_
    refine G_getr (pc := 52) dX11_man_52 fiX11_132 (by first | rfl | assumption) (by omega) (by first | rfl | assumption) ?_
    refine G_aload_n (pc := 55) dX11_man_55 rfl ?_
    refine G_getr (pc := 56) dX11_man_56 fiX11_19 (by first | rfl | assumption) (by omega) (by first | rfl | assumption) ?_
    refine G_callV1 (pc := 59) (md := mdX10_withoutHim) (av := [_]) dX11_man_59 lkX11_241 mwX10_withoutHim (c_withoutHim 16 (Or.inl rfl) hM hH hB hC.2.2.2.1 hTB) rfl (by first | rfl | assumption) (by omega) rfl rfl (Nat.le_of_ble_eq_true rfl) (by decide) ⟨Nat.zero_le _, Nat.zero_le _⟩ ?_
    refine G_lmul (pc := 62) dX11_man_62 ?_
    rw [v11, e2]
    refine G_lstore (pc := 63) (lv' := [_, _, _, _, _, _]) dX11_man_63 (by decide) rfl ?_
    refine G_aload_n (pc := 65) dX11_man_65 rfl ?_
    refine G_getr (pc := 66) dX11_man_66 fiX11_74 (by first | rfl | assumption) (by omega) (by first | rfl | assumption) ?_
    refine G_lload_n (pc := 69) dX11_man_69 rfl ?_
    refine G_lload_n (pc := 70) dX11_man_70 rfl ?_
    refine G_lload (pc := 71) dX11_man_71 rfl ?_
    refine G_ladd (pc := 73) dX11_man_73 ?_
    refine G_callV0 (pc := 74) (md := mdX3_set) (av := [_, _]) dX11_man_74 lkX11_244 mwX3_set (FnQ.av (by rw [Int.natCast_add]) (c_Fset (wiP hs C) (wiP hs C + woP hs C) hM (by omega) (by omega))) rfl (by first | rfl | assumption) (by omega) rfl rfl (Nat.le_of_ble_eq_true rfl) (by decide) ⟨Nat.zero_le _, Nat.zero_le _⟩ ?_
    refine G_aload_n (pc := 77) dX11_man_77 rfl ?_
    refine G_getr (pc := 78) dX11_man_78 fiX11_74 (by first | rfl | assumption) (by omega) (by first | rfl | assumption) ?_
    refine G_iload_n (pc := 81) dX11_man_81 rfl ?_
    refine G_callV1 (pc := 82) (md := mdX3_part) (av := [_]) dX11_man_82 lkX11_204 mwX3_part (c_partF p hM (by omega) rp) rfl (by first | rfl | assumption) (by omega) rfl rfl (Nat.le_of_ble_eq_true rfl) (by decide) ⟨Nat.zero_le _, Nat.zero_le _⟩ ?_
    refine G_lret (pc := 85) dX11_man_85 rfl ?_
    exact ⟨by unfold aMan; rw [if_pos (show 0 ≤ p ∧ p ≤ 1 by omega)], Off.rfl, Off66, hC⟩
  · try simp only [bI_eq0, bI_ne0] at h_6
    refine G_ldc2 (pc := 9) dX11_man_9 klX11_217 ?_
    refine G_lret (pc := 12) dX11_man_12 rfl ?_
    exact ⟨by unfold aMan; rw [if_neg (by omega)], Off.rfl, Off.rfl, hC⟩
end COMP2
