/-! THE REFERENCE'S CALLS, fourth -/
section MOD6
variable {E : EV} {M : Nat} {I J : Nat → Nat → Int} {n : Nat} {tx : Nat → Int} {hs : HS} {C : CS} {kn : Nat} {K : Nat → CS}
theorem m_relieves (s a : Nat) (hM : 87 ≤ M) (hH : MH I 0 hs) (hB : HB hs) (h1 : s < zS hs) (h2 : a < zA hs) : FnF E mdX12_relieves 2 M Rf [vr E 71, vi (s : Int), vi (a : Int)] I J (some (vi (eaS hs s a : Int))) I J := by
  have b12 := hB.2.2.2.2.2.2.2.1
  have hf := fe_le hs s a 0
  have hm := Nat.mul_le_mul b12 hf
  refine FnQ.of (by decide +kernel) (Nat.le_of_ble_eq_true rfl) ?_
  show GM E mdX12_relieves 2 M Rf _ I J 0 [some (vr E 71), some (vi (s : Int)), some (vi (a : Int))] []
  refine G_aload_n (pc := 0) dX12_relieves_0 rfl ?_
  refine G_getr (pc := 1) dX12_relieves_1 fiX12_29 (by first | rfl | assumption) (by omega) (by first | rfl | assumption) ?_
  refine G_iconst (pc := 4) dX12_relieves_4 ?_
  refine G_ialdv (pc := 5) dX12_relieves_5 (by first | rfl | assumption) (by omega) (by omega) (by omega) (by omega) (hH.re 12 (by omega) rfl) ?_
  refine G_aload_n (pc := 6) dX12_relieves_6 rfl ?_
  refine G_iload_n (pc := 7) dX12_relieves_7 rfl ?_
  refine G_iload_n (pc := 8) dX12_relieves_8 rfl ?_
  refine G_iconst (pc := 9) dX12_relieves_9 ?_
  refine G_callV1 (pc := 10) (md := mdX12_feels) (av := [_, _, _]) dX12_relieves_10 lkX12_122 mwX12_feels (m_feels s a 0 hM hH hB h1 h2 (by omega)) rfl (by first | rfl | assumption) (by omega) rfl rfl (Nat.le_of_ble_eq_true rfl) (by decide) ⟨Nat.zero_le _, Nat.zero_le _⟩ ?_
  refine G_imul (pc := 13) dX12_relieves_13 ?_
  refine G_bipush (pc := 14) dX12_relieves_14 (by decide) ?_
  rw [← Int.natCast_mul]
  refine G_idiv (pc := 16) dX12_relieves_16 (Ri.mk (by omega) (by omega)) (Ri.mk (by omega) (by omega)) (by omega) ?_
  refine G_iret (pc := 17) dX12_relieves_17 rfl ?_
  exact ⟨rfl, rfl, rfl⟩
theorem m_sugar (hM : 87 ≤ M) (hH : MH I 0 hs) (hB : HB hs) : FnF E mdX12_sugar 2 M Rf [vr E 71] I J (some (vi (suG hs : Int))) I J := by
  have b12 := hB.2.2.2.2.2.2.2.1
  have b13 := hB.2.2.2.2.2.2.2.2
  have hm := Nat.mul_le_mul b12 b13
  refine FnQ.of (by decide +kernel) (Nat.le_of_ble_eq_true rfl) ?_
  show GM E mdX12_sugar 2 M Rf _ I J 0 [some (vr E 71)] []
  refine G_aload_n (pc := 0) dX12_sugar_0 rfl ?_
  refine G_getr (pc := 1) dX12_sugar_1 fiX12_29 (by first | rfl | assumption) (by omega) (by first | rfl | assumption) ?_
  refine G_iconst (pc := 4) dX12_sugar_4 ?_
  refine G_ialdv (pc := 5) dX12_sugar_5 (by first | rfl | assumption) (by omega) (by omega) (by omega) (by omega) (hH.re 12 (by omega) rfl) ?_
  refine G_aload_n (pc := 6) dX12_sugar_6 rfl ?_
  refine G_getr (pc := 7) dX12_sugar_7 fiX12_29 (by first | rfl | assumption) (by omega) (by first | rfl | assumption) ?_
  refine G_iconst (pc := 10) dX12_sugar_10 ?_
  refine G_ialdv (pc := 11) dX12_sugar_11 (by first | rfl | assumption) (by omega) (by omega) (by omega) (by omega) (hH.re 13 (by omega) rfl) ?_
  refine G_imul (pc := 12) dX12_sugar_12 ?_
  refine G_bipush (pc := 13) dX12_sugar_13 (by decide) ?_
  rw [← Int.natCast_mul]
  refine G_idiv (pc := 15) dX12_sugar_15 (Ri.mk (by omega) (by omega)) (Ri.mk (by omega) (by omega)) (by omega) ?_
  refine G_iret (pc := 16) dX12_sugar_16 rfl ?_
  exact ⟨rfl, rfl, rfl⟩
theorem y_relief (s a w : Int) (hM : 87 ≤ M) (hC : MI I n tx hs C kn K) (hW : WF n tx hs C kn K) (rs : Ri s) (ra : Ri a) (rw_ : Ri w) : FnQ E mdX12_relief 8 M Rf [vr E 71, vi s, vi a, vi w] I J (MQ' I J (aRelief hs s a w) n tx hs C kn K) := by
  have hH := hC.2.1
  have hB := hW.2.2.1
  have r1 := rw_.lo
  have r2 := rw_.hi
  refine FnQ.of (by decide +kernel) (Nat.le_of_ble_eq_true rfl) ?_
  show GM E mdX12_relief 8 M Rf _ I J 0 [some (vr E 71), some (vi s), some (vi a), some (vi w)] []
  refine G_aload_n (pc := 0) dX12_relief_0 rfl ?_
  refine G_iload_n (pc := 1) dX12_relief_1 rfl ?_
  refine G_callV1 (pc := 2) (md := mdX12_isSort) (av := [_]) dX12_relief_2 lkX12_129 mwX12_isSort (m_isSort s hM hH hB rs) rfl (by first | rfl | assumption) (by omega) rfl rfl (Nat.le_of_ble_eq_true rfl) (by decide) ⟨Nat.zero_le _, Nat.zero_le _⟩ ?_
  refine G_if_eq (pc := 5) (tgt := 26) dX12_relief_5 (by first | exact bI_R | exact rw_) (by decide) (fun h_5 => ?_) (fun h_5 => ?_)
  · try simp only [bI_eq0, bI_ne0] at h_5
    refine G_iconst (pc := 26) dX12_relief_26 ?_
    refine G_goto (pc := 27) (tgt := 47) dX12_relief_27 (by decide) ?_
    refine G_iret (pc := 47) dX12_relief_47 rfl ?_
    exact ⟨by unfold aRelief; first | rw [if_neg (by omega)] | rw [if_pos (by omega), if_pos (by omega)] | rw [if_pos (by omega), if_neg (by omega)], Off.rfl, Off.rfl, hC⟩
  · try simp only [bI_eq0, bI_ne0] at h_5
    refine G_aload_n (pc := 8) dX12_relief_8 rfl ?_
    refine G_iload_n (pc := 9) dX12_relief_9 rfl ?_
    refine G_callV1 (pc := 10) (md := mdX12_isAsk) (av := [_]) dX12_relief_10 lkX12_132 mwX12_isAsk (m_isAsk a hM hH hB ra) rfl (by first | rfl | assumption) (by omega) rfl rfl (Nat.le_of_ble_eq_true rfl) (by decide) ⟨Nat.zero_le _, Nat.zero_le _⟩ ?_
    refine G_if_eq (pc := 13) (tgt := 26) dX12_relief_13 (by first | exact bI_R | exact rw_) (by decide) (fun h_13 => ?_) (fun h_13 => ?_)
    · try simp only [bI_eq0, bI_ne0] at h_13
      refine G_iconst (pc := 26) dX12_relief_26 ?_
      refine G_goto (pc := 27) (tgt := 47) dX12_relief_27 (by decide) ?_
      refine G_iret (pc := 47) dX12_relief_47 rfl ?_
      exact ⟨by unfold aRelief; first | rw [if_neg (by omega)] | rw [if_pos (by omega), if_pos (by omega)] | rw [if_pos (by omega), if_neg (by omega)], Off.rfl, Off.rfl, hC⟩
    · try simp only [bI_eq0, bI_ne0] at h_13
      refine G_iload_n (pc := 16) dX12_relief_16 rfl ?_
      refine G_i2l (pc := 17) dX12_relief_17 (by first | exact bI_R | exact rw_) ?_
      refine G_lconst (pc := 18) dX12_relief_18 ?_
      refine G_lconst (pc := 19) dX12_relief_19 ?_
      refine G_callS1 (pc := 20) (md := mdX12_in) (av := [_, _, _]) dX12_relief_20 lkX12_66 mwX12_in (m_inI _ _ _ (0 ≤ w ∧ w ≤ 1) (by omega) (Rl.mk (by omega) (by omega)) (Rl.mk (by omega) (by omega)) (Rl.mk (by omega) (by omega))) rfl rfl (Nat.le_of_ble_eq_true rfl) (by decide) ⟨Nat.zero_le _, Nat.zero_le _⟩ ?_
      refine G_if_ne (pc := 23) (tgt := 30) dX12_relief_23 (by first | exact bI_R | exact rw_) (by decide) (fun h_23 => ?_) (fun h_23 => ?_)
      · try simp only [bI_eq0, bI_ne0] at h_23
        refine G_iload_n (pc := 30) dX12_relief_30 rfl ?_
        refine G_if_ne (pc := 31) (tgt := 43) dX12_relief_31 (by first | exact bI_R | exact rw_) (by decide) (fun h_31 => ?_) (fun h_31 => ?_)
        · try simp only [bI_eq0, bI_ne0] at h_31
          refine G_aload_n (pc := 43) dX12_relief_43 rfl ?_
          refine G_callV1 (pc := 44) (md := mdX12_sugar) (av := []) dX12_relief_44 lkX12_189 mwX12_sugar (m_sugar hM hH hB) rfl (by first | rfl | assumption) (by omega) rfl rfl (Nat.le_of_ble_eq_true rfl) (by decide) ⟨Nat.zero_le _, Nat.zero_le _⟩ ?_
          refine G_iret (pc := 47) dX12_relief_47 rfl ?_
          exact ⟨by unfold aRelief; first | rw [if_neg (by omega)] | rw [if_pos (by omega), if_pos (by omega)] | rw [if_pos (by omega), if_neg (by omega)], Off.rfl, Off.rfl, hC⟩
        · try simp only [bI_eq0, bI_ne0] at h_31
          refine G_aload_n (pc := 34) dX12_relief_34 rfl ?_
          refine G_iload_n (pc := 35) dX12_relief_35 rfl ?_
          refine G_iload_n (pc := 36) dX12_relief_36 rfl ?_
          refine G_callV1 (pc := 37) (md := mdX12_relieves) (av := [_, _]) dX12_relief_37 lkX12_186 mwX12_relieves (FnQ.av (by rw [Int.toNat_of_nonneg (show 0 ≤ s by omega), Int.toNat_of_nonneg (show 0 ≤ a by omega)]) (m_relieves s.toNat a.toNat hM hH hB (by omega) (by omega))) rfl (by first | rfl | assumption) (by omega) rfl rfl (Nat.le_of_ble_eq_true rfl) (by decide) ⟨Nat.zero_le _, Nat.zero_le _⟩ ?_
          refine G_goto (pc := 40) (tgt := 47) dX12_relief_40 (by decide) ?_
          refine G_iret (pc := 47) dX12_relief_47 rfl ?_
          exact ⟨by unfold aRelief; first | rw [if_neg (by omega)] | rw [if_pos (by omega), if_pos (by omega)] | rw [if_pos (by omega), if_neg (by omega)], Off.rfl, Off.rfl, hC⟩
      · try simp only [bI_eq0, bI_ne0] at h_23
        refine G_iconst (pc := 26) dX12_relief_26 ?_
        refine G_goto (pc := 27) (tgt := 47) dX12_relief_27 (by decide) ?_
        refine G_iret (pc := 47) dX12_relief_47 rfl ?_
        exact ⟨by unfold aRelief; first | rw [if_neg (by omega)] | rw [if_pos (by omega), if_pos (by omega)] | rw [if_pos (by omega), if_neg (by omega)], Off.rfl, Off.rfl, hC⟩
theorem y_worth (a q : Int) (hM : 87 ≤ M) (hC : MI I n tx hs C kn K) (hW : WF n tx hs C kn K) (ra : Ri a) (rq : Ri q) : FnQ E mdX12_worth 8 M Rf [vr E 71, vi a, vi q] I J (MQ' I J (aWorth hs a q) n tx hs C kn K) := by
  have hH := hC.2.1
  have hB := hW.2.2.1
  have bS := hB.1
  have r1 := rq.lo
  have r2 := rq.hi
  have hsu : suG hs ≤ 99 := by
    have := Nat.mul_le_mul hB.2.2.2.2.2.2.2.1 hB.2.2.2.2.2.2.2.2
    unfold suG; omega
  have hea : ∀ s a, eaS hs s a ≤ 50 := fun s a => by
    have := Nat.mul_le_mul hB.2.2.2.2.2.2.2.1 (fe_le hs s a 0)
    unfold eaS; omega
  refine FnQ.of (by decide +kernel) (Nat.le_of_ble_eq_true rfl) ?_
  show GM E mdX12_worth 8 M Rf _ I J 0 [some (vr E 71), some (vi a), some (vi q), none, none] []
  have loop : ∀ (r i : Nat), i + r = zS hs → (0 ≤ a ∧ a < (zA hs : Int)) → 0 ≤ q ∧ q ≤ 99 → GM E mdX12_worth 8 M Rf (MQ' I J (aWorth hs a q) n tx hs C kn K) I J 27 [some (vr E 71), some (vi a), some (vi q), some (vi (wtF hs a.toNat q.toNat i : Int)), some (vi (i : Int))] [] := by
    intro r
    induction r with
    | zero =>
      intro i hi ha hq
      have hi : i = zS hs := by omega
      subst hi
      refine G_iload (pc := 27) dX12_worth_27 rfl ?_
      refine G_aload_n (pc := 29) dX12_worth_29 rfl ?_
      refine G_getr (pc := 30) dX12_worth_30 fiX12_13 (by first | rfl | assumption) (by omega) (by first | rfl | assumption) ?_
      refine G_iconst (pc := 33) dX12_worth_33 ?_
      refine G_ialdv (pc := 34) dX12_worth_34 (by first | rfl | assumption) (by omega) (by omega) (by omega) (by omega) (hH.ns rfl) ?_
      refine G_icmp_ge (pc := 35) (tgt := 71) dX12_worth_35 (Ri.mk (by omega) (by omega)) (Ri.mk (by omega) (by omega)) (by decide) (fun h_35 => ?_) (fun h_35 => ?_)
      · refine G_iload_n (pc := 71) dX12_worth_71 rfl ?_
        refine G_iret (pc := 72) dX12_worth_72 rfl ?_
        exact ⟨by unfold aWorth; rw [if_pos (by omega)], Off.rfl, Off.rfl, hC⟩
      · exact absurd h_35 (by omega)
    | succ r ih =>
      intro i hi ha hq
      have hw := wtF_lt hs a.toNat q.toNat i
      have h2 : (2 : Nat) ^ i ≤ 2 ^ 6 := Nat.pow_le_pow_right (by decide) (by omega)
      have he := hea i a.toNat
      refine G_iload (pc := 27) dX12_worth_27 rfl ?_
      refine G_aload_n (pc := 29) dX12_worth_29 rfl ?_
      refine G_getr (pc := 30) dX12_worth_30 fiX12_13 (by first | rfl | assumption) (by omega) (by first | rfl | assumption) ?_
      refine G_iconst (pc := 33) dX12_worth_33 ?_
      refine G_ialdv (pc := 34) dX12_worth_34 (by first | rfl | assumption) (by omega) (by omega) (by omega) (by omega) (hH.ns rfl) ?_
      refine G_icmp_ge (pc := 35) (tgt := 71) dX12_worth_35 (Ri.mk (by omega) (by omega)) (Ri.mk (by omega) (by omega)) (by decide) (fun h_35 => ?_) (fun h_35 => ?_)
      · exact absurd h_35 (by omega)
      · refine G_iload_n (pc := 38) dX12_worth_38 rfl ?_
        refine G_aload_n (pc := 39) dX12_worth_39 rfl ?_
        refine G_iload (pc := 40) dX12_worth_40 rfl ?_
        refine G_iload_n (pc := 42) dX12_worth_42 rfl ?_
        refine G_callV1 (pc := 43) (md := mdX12_relieves) (av := [_, _]) dX12_worth_43 lkX12_186 mwX12_relieves (FnQ.av (by rw [Int.toNat_of_nonneg (show 0 ≤ a by omega)]) (m_relieves i a.toNat hM hH hB (by omega) (by omega))) rfl (by first | rfl | assumption) (by omega) rfl rfl (Nat.le_of_ble_eq_true rfl) (by decide) ⟨Nat.zero_le _, Nat.zero_le _⟩ ?_
        refine G_aload_n (pc := 46) dX12_worth_46 rfl ?_
        refine G_callV1 (pc := 47) (md := mdX12_sugar) (av := []) dX12_worth_47 lkX12_189 mwX12_sugar (m_sugar hM hH hB) rfl (by first | rfl | assumption) (by omega) rfl rfl (Nat.le_of_ble_eq_true rfl) (by decide) ⟨Nat.zero_le _, Nat.zero_le _⟩ ?_
        refine G_iload_n (pc := 50) dX12_worth_50 rfl ?_
        refine G_iadd (pc := 51) dX12_worth_51 ?_
        refine G_icmp_lt (pc := 52) (tgt := 62) dX12_worth_52 (Ri.mk (by omega) (by omega)) (Ri.mk (by omega) (by omega)) (by decide) (fun h_52 => ?_) (fun h_52 => ?_)
        · refine G_iconst (pc := 62) dX12_worth_62 ?_
          try refine G_st (st' := [vi ((0 : Nat) : Int), vi (wtF hs a.toNat q.toNat i : Int)]) rfl ?_
          refine G_ior (pc := 63) dX12_worth_63 (by omega) (by omega) ?_
          refine G_istore_n (pc := 64) (lv' := [_, _, _, _, _]) dX12_worth_64 (by decide) rfl ?_
          refine G_iinc (pc := 65) (lv' := [_, _, _, _, _]) dX12_worth_65 (by decide) rfl rfl ?_
          refine G_goto (pc := 68) (tgt := 27) dX12_worth_68 (by decide) ?_
          refine G_eq rfl rfl ?_ rfl (ih (i + 1) (by omega) ha hq)
          rw [wtF]; first | (rw [if_pos (by omega)]; rfl) | (rw [if_neg (by omega), Nat.or_zero]; rfl)
        · refine G_iconst (pc := 55) dX12_worth_55 ?_
          refine G_iload (pc := 56) dX12_worth_56 rfl ?_
          refine G_st (st' := [vi (i : Int), vi ((1 : Nat) : Int), vi (wtF hs a.toNat q.toNat i : Int)]) rfl ?_
          refine G_ishl (pc := 58) dX12_worth_58 (by omega) ?_
          rw [Nat.one_mul]
          refine G_goto (pc := 59) (tgt := 63) dX12_worth_59 (by decide) ?_
          try refine G_st (st' := [vi ((0 : Nat) : Int), vi (wtF hs a.toNat q.toNat i : Int)]) rfl ?_
          refine G_ior (pc := 63) dX12_worth_63 (by omega) (by omega) ?_
          refine G_istore_n (pc := 64) (lv' := [_, _, _, _, _]) dX12_worth_64 (by decide) rfl ?_
          refine G_iinc (pc := 65) (lv' := [_, _, _, _, _]) dX12_worth_65 (by decide) rfl rfl ?_
          refine G_goto (pc := 68) (tgt := 27) dX12_worth_68 (by decide) ?_
          refine G_eq rfl rfl ?_ rfl (ih (i + 1) (by omega) ha hq)
          rw [wtF]; first | (rw [if_pos (by omega)]; rfl) | (rw [if_neg (by omega), Nat.or_zero]; rfl)
  refine G_aload_n (pc := 0) dX12_worth_0 rfl ?_
  refine G_iload_n (pc := 1) dX12_worth_1 rfl ?_
  refine G_callV1 (pc := 2) (md := mdX12_isAsk) (av := [_]) dX12_worth_2 lkX12_132 mwX12_isAsk (m_isAsk a hM hH hB ra) rfl (by first | rfl | assumption) (by omega) rfl rfl (Nat.le_of_ble_eq_true rfl) (by decide) ⟨Nat.zero_le _, Nat.zero_le _⟩ ?_
  refine G_if_eq (pc := 5) (tgt := 20) dX12_worth_5 (by first | exact bI_R | exact rq) (by decide) (fun h_5 => ?_) (fun h_5 => ?_)
  · try simp only [bI_eq0, bI_ne0] at h_5
    refine G_iconst (pc := 20) dX12_worth_20 ?_
    refine G_iret (pc := 21) dX12_worth_21 rfl ?_
    exact ⟨by unfold aWorth; rw [if_neg (by omega)], Off.rfl, Off.rfl, hC⟩
  · try simp only [bI_eq0, bI_ne0] at h_5
    refine G_iload_n (pc := 8) dX12_worth_8 rfl ?_
    refine G_i2l (pc := 9) dX12_worth_9 (by first | exact bI_R | exact rq) ?_
    refine G_lconst (pc := 10) dX12_worth_10 ?_
    refine G_ldc2 (pc := 11) dX12_worth_11 klX12_107 ?_
    refine G_callS1 (pc := 14) (md := mdX12_in) (av := [_, _, _]) dX12_worth_14 lkX12_66 mwX12_in (m_inI _ _ _ (0 ≤ q ∧ q ≤ 99) (by omega) (Rl.mk (by omega) (by omega)) (Rl.mk (by omega) (by omega)) (Rl.mk (by omega) (by omega))) rfl rfl (Nat.le_of_ble_eq_true rfl) (by decide) ⟨Nat.zero_le _, Nat.zero_le _⟩ ?_
    refine G_if_ne (pc := 17) (tgt := 22) dX12_worth_17 (by first | exact bI_R | exact rq) (by decide) (fun h_17 => ?_) (fun h_17 => ?_)
    · try simp only [bI_eq0, bI_ne0] at h_17
      refine G_iconst (pc := 22) dX12_worth_22 ?_
      refine G_istore_n (pc := 23) (lv' := [_, _, _, _, _]) dX12_worth_23 (by decide) rfl ?_
      refine G_iconst (pc := 24) dX12_worth_24 ?_
      refine G_istore (pc := 25) (lv' := [_, _, _, _, _]) dX12_worth_25 (by decide) rfl ?_
      exact loop (zS hs) 0 (by omega) (by omega) (by omega)
    · try simp only [bI_eq0, bI_ne0] at h_17
      refine G_iconst (pc := 20) dX12_worth_20 ?_
      refine G_iret (pc := 21) dX12_worth_21 rfl ?_
      exact ⟨by unfold aWorth; rw [if_neg (by omega)], Off.rfl, Off.rfl, hC⟩
theorem y_words (a : Int) (hM : 87 ≤ M) (hC : MI I n tx hs C kn K) (hW : WF n tx hs C kn K) (ra : Ri a) : FnQ E mdX12_words 8 M Rf [vr E 71, vi a] I J (MQ' I J (aWords hs a) n tx hs C kn K) := by
  have hH := hC.2.1
  have hB := hW.2.2.1
  have bS := hB.1
  have b5 := hB.2.2.2.2.1
  have bd : ∀ n, n ≤ zS hs → -(n : Int) * 6000 ≤ sumZ (fun s => (hs 0 s : Int) * gn hs s a.toNat) n ∧ sumZ (fun s => (hs 0 s : Int) * gn hs s a.toNat) n ≤ (n : Int) * 6000 := by
    intro n
    induction n with
    | zero => intro _; simp [sumZ]
    | succ n ih =>
      intro hn
      have h0 := ih (by omega)
      have h5 := (b5 n (by omega)).2.1
      have hg := gn_R hs n a.toNat
      have h6 : (hs 0 n : Int) * gn hs n a.toNat ≤ 6000 := by
        have := Int.mul_le_mul_of_nonneg_left hg.2 (Int.natCast_nonneg (hs 0 n))
        omega
      have h7 : -6000 ≤ (hs 0 n : Int) * gn hs n a.toNat := by
        have := Int.mul_le_mul_of_nonneg_left hg.1 (Int.natCast_nonneg (hs 0 n))
        omega
      rw [sumZ]
      omega
  refine FnQ.of (by decide +kernel) (Nat.le_of_ble_eq_true rfl) ?_
  show GM E mdX12_words 8 M Rf _ I J 0 [some (vr E 71), some (vi a), none, none] []
  have loop : ∀ (m i : Nat) (x : Int), i + m = zS hs → (0 ≤ a ∧ a < (zA hs : Int)) → x = sumZ (fun s => (hs 0 s : Int) * gn hs s a.toNat) i → GM E mdX12_words 8 M Rf (MQ' I J (aWords hs a) n tx hs C kn K) I J 14 [some (vr E 71), some (vi a), some (vi x), some (vi (i : Int))] [] := by
    intro m
    induction m with
    | zero =>
      intro i x hi ha hx
      have hi : i = zS hs := by omega
      subst hi
      have hb := bd _ (Nat.le_refl _)
      refine G_iload_n (pc := 14) dX12_words_14 rfl ?_
      refine G_aload_n (pc := 15) dX12_words_15 rfl ?_
      refine G_getr (pc := 16) dX12_words_16 fiX12_13 (by first | rfl | assumption) (by omega) (by first | rfl | assumption) ?_
      refine G_iconst (pc := 19) dX12_words_19 ?_
      refine G_ialdv (pc := 20) dX12_words_20 (by first | rfl | assumption) (by omega) (by omega) (by omega) (by omega) (hH.ns rfl) ?_
      refine G_icmp_ge (pc := 21) (tgt := 57) dX12_words_21 (Ri.mk (by omega) (by omega)) (Ri.mk (by omega) (by omega)) (by decide) (fun h_21 => ?_) (fun h_21 => ?_)
      · refine G_iload_n (pc := 57) dX12_words_57 rfl ?_
        refine G_bipush (pc := 58) dX12_words_58 (by decide) ?_
        refine G_idiv (pc := 60) dX12_words_60 (Ri.mk (by omega) (by omega)) (Ri.mk (by omega) (by omega)) (by omega) ?_
        refine G_sipush (pc := 61) dX12_words_61 (by decide) ?_
        refine G_iadd (pc := 64) dX12_words_64 ?_
        refine G_iret (pc := 65) dX12_words_65 rfl ?_
        exact ⟨by unfold aWords; rw [if_pos (by omega), hx], Off.rfl, Off.rfl, hC⟩
      · exact absurd h_21 (by omega)
    | succ m ih =>
      intro i x hi ha hx
      refine G_iload_n (pc := 14) dX12_words_14 rfl ?_
      refine G_aload_n (pc := 15) dX12_words_15 rfl ?_
      refine G_getr (pc := 16) dX12_words_16 fiX12_13 (by first | rfl | assumption) (by omega) (by first | rfl | assumption) ?_
      refine G_iconst (pc := 19) dX12_words_19 ?_
      refine G_ialdv (pc := 20) dX12_words_20 (by first | rfl | assumption) (by omega) (by omega) (by omega) (by omega) (hH.ns rfl) ?_
      refine G_icmp_ge (pc := 21) (tgt := 57) dX12_words_21 (Ri.mk (by omega) (by omega)) (Ri.mk (by omega) (by omega)) (by decide) (fun h_21 => ?_) (fun h_21 => ?_)
      · exact absurd h_21 (by omega)
      · refine G_iload_n (pc := 24) dX12_words_24 rfl ?_
        refine G_aload_n (pc := 25) dX12_words_25 rfl ?_
        refine G_getr (pc := 26) dX12_words_26 fiX12_17 (by first | rfl | assumption) (by omega) (by first | rfl | assumption) ?_
        refine G_iconst (pc := 29) dX12_words_29 ?_
        refine G_iload_n (pc := 30) dX12_words_30 rfl ?_
        refine G_imul (pc := 31) dX12_words_31 ?_
        refine G_ialdv (pc := 32) dX12_words_32 (by first | rfl | assumption) (by omega) (by omega) (by omega) (by omega) (hH.so i 0 (by omega) (by omega) (by omega)) ?_
        refine G_aload_n (pc := 33) dX12_words_33 rfl ?_
        refine G_iload_n (pc := 34) dX12_words_34 rfl ?_
        refine G_iload_n (pc := 35) dX12_words_35 rfl ?_
        refine G_iconst (pc := 36) dX12_words_36 ?_
        refine G_callV1 (pc := 37) (md := mdX12_doing) (av := [_, _, _]) dX12_words_37 lkX12_137 mwX12_doing (FnQ.av (by rw [Int.toNat_of_nonneg (show 0 ≤ a by omega)]; rfl) (m_doing i a.toNat 0 hM hH hB (by omega) (by omega) (by omega))) rfl (by first | rfl | assumption) (by omega) rfl rfl (Nat.le_of_ble_eq_true rfl) (by decide) ⟨Nat.zero_le _, Nat.zero_le _⟩ ?_
        refine G_aload_n (pc := 40) dX12_words_40 rfl ?_
        refine G_iload_n (pc := 41) dX12_words_41 rfl ?_
        refine G_iload_n (pc := 42) dX12_words_42 rfl ?_
        refine G_iconst (pc := 43) dX12_words_43 ?_
        refine G_callV1 (pc := 44) (md := mdX12_doing) (av := [_, _, _]) dX12_words_44 lkX12_137 mwX12_doing (FnQ.av (by rw [Int.toNat_of_nonneg (show 0 ≤ a by omega)]; rfl) (m_doing i a.toNat 1 hM hH hB (by omega) (by omega) (by omega))) rfl (by first | rfl | assumption) (by omega) rfl rfl (Nat.le_of_ble_eq_true rfl) (by decide) ⟨Nat.zero_le _, Nat.zero_le _⟩ ?_
        refine G_isub (pc := 47) dX12_words_47 ?_
        refine G_imul (pc := 48) dX12_words_48 ?_
        refine G_iadd (pc := 49) dX12_words_49 ?_
        refine G_istore_n (pc := 50) (lv' := [_, _, _, _]) dX12_words_50 (by decide) rfl ?_
        refine G_iinc (pc := 51) (lv' := [_, _, _, _]) dX12_words_51 (by decide) rfl rfl ?_
        refine G_goto (pc := 54) (tgt := 14) dX12_words_54 (by decide) ?_
        exact ih (i + 1) _ (by omega) ha (by rw [hx, sumZ]; rfl)
  refine G_aload_n (pc := 0) dX12_words_0 rfl ?_
  refine G_iload_n (pc := 1) dX12_words_1 rfl ?_
  refine G_callV1 (pc := 2) (md := mdX12_isAsk) (av := [_]) dX12_words_2 lkX12_132 mwX12_isAsk (m_isAsk a hM hH hB ra) rfl (by first | rfl | assumption) (by omega) rfl rfl (Nat.le_of_ble_eq_true rfl) (by decide) ⟨Nat.zero_le _, Nat.zero_le _⟩ ?_
  refine G_if_ne (pc := 5) (tgt := 10) dX12_words_5 bI_R (by decide) (fun h_5 => ?_) (fun h_5 => ?_)
  · try simp only [bI_eq0, bI_ne0] at h_5
    refine G_iconst (pc := 10) dX12_words_10 ?_
    refine G_istore_n (pc := 11) (lv' := [_, _, _, _]) dX12_words_11 (by decide) rfl ?_
    refine G_iconst (pc := 12) dX12_words_12 ?_
    refine G_istore_n (pc := 13) (lv' := [_, _, _, _]) dX12_words_13 (by decide) rfl ?_
    exact loop (zS hs) 0 _ (by omega) (by omega) rfl
  · try simp only [bI_eq0, bI_ne0] at h_5
    refine G_iconst (pc := 8) dX12_words_8 ?_
    refine G_iret (pc := 9) dX12_words_9 rfl ?_
    exact ⟨by unfold aWords; rw [if_neg (by omega)], Off.rfl, Off.rfl, hC⟩
theorem y_harm (a w : Int) (hM : 87 ≤ M) (hC : MI I n tx hs C kn K) (hW : WF n tx hs C kn K) (ra : Ri a) (rw_ : Ri w) : FnQ E mdX12_harm 8 M Rf [vr E 71, vi a, vi w] I J (MQ' I J (aHarm hs a w) n tx hs C kn K) := by
  have hH := hC.2.1
  have hB := hW.2.2.1
  have h0S := hW.2.2.2.1
  have bS := hB.1
  have r1 := rw_.lo
  have r2 := rw_.hi
  refine FnQ.of (by decide +kernel) (Nat.le_of_ble_eq_true rfl) ?_
  show GM E mdX12_harm 8 M Rf _ I J 0 [some (vr E 71), some (vi a), some (vi w), none, none, none, none] []
  have loop : ∀ (m i : Nat) (fo mo : Int) (d : Option Value), i + m = zS hs → (0 ≤ a ∧ a < (zA hs : Int)) → (0 ≤ w ∧ w ≤ 1) → fo = (am (fun s => gn hs s a.toNat) i : Nat) → mo = (if i = 0 then -1000 else gn hs (am (fun s => gn hs s a.toNat) i) a.toNat) → GM E mdX12_harm 8 M Rf (MQ' I J (aHarm hs a w) n tx hs C kn K) I J 30 [some (vr E 71), some (vi a), some (vi w), some (vi fo), some (vi mo), some (vi (i : Int)), d] [] := by
    intro m
    induction m with
    | zero =>
      intro i fo mo d hi ha hw hfo hmo
      have hi : i = zS hs := by omega
      subst hi
      rw [if_neg (by omega)] at hmo
      refine G_iload (pc := 30) dX12_harm_30 rfl ?_
      refine G_aload_n (pc := 32) dX12_harm_32 rfl ?_
      refine G_getr (pc := 33) dX12_harm_33 fiX12_13 (by first | rfl | assumption) (by omega) (by first | rfl | assumption) ?_
      refine G_iconst (pc := 36) dX12_harm_36 ?_
      refine G_ialdv (pc := 37) dX12_harm_37 (by first | rfl | assumption) (by omega) (by omega) (by omega) (by omega) (hH.ns rfl) ?_
      refine G_icmp_ge (pc := 38) (tgt := 96) dX12_harm_38 (Ri.mk (by omega) (by omega)) (Ri.mk (by omega) (by omega)) (by decide) (fun h_38 => ?_) (fun h_38 => ?_)
      · refine G_iload_n (pc := 96) dX12_harm_96 rfl ?_
        refine G_if_ne (pc := 97) (tgt := 108) dX12_harm_97 rw_ (by decide) (fun h_97 => ?_) (fun h_97 => ?_)
        · try simp only [bI_eq0, bI_ne0] at h_97
          refine G_iload_n (pc := 108) dX12_harm_108 rfl ?_
          refine G_iret (pc := 109) dX12_harm_109 rfl ?_
          exact ⟨by unfold aHarm; first | rw [if_pos (by omega), if_pos (by omega), hmo] | rw [if_pos (by omega), if_neg (by omega), hfo], Off.rfl, Off.rfl, hC⟩
        · try simp only [bI_eq0, bI_ne0] at h_97
          refine G_iload (pc := 100) dX12_harm_100 rfl ?_
          refine G_bipush (pc := 102) dX12_harm_102 (by decide) ?_
          refine G_iadd (pc := 104) dX12_harm_104 ?_
          refine G_goto (pc := 105) (tgt := 109) dX12_harm_105 (by decide) ?_
          refine G_iret (pc := 109) dX12_harm_109 rfl ?_
          exact ⟨by unfold aHarm; first | rw [if_pos (by omega), if_pos (by omega), hmo] | rw [if_pos (by omega), if_neg (by omega), hfo], Off.rfl, Off.rfl, hC⟩
      · exact absurd h_38 (by omega)
    | succ m ih =>
      intro i fo mo d hi ha hw hfo hmo
      have hg1 := gn_R hs i a.toNat
      have hg2 := gn_R hs (am (fun s => gn hs s a.toNat) i) a.toNat
      have hmr : -1000 ≤ mo ∧ mo ≤ 100 := by rw [hmo]; split <;> omega
      have hst : am (fun s => gn hs s a.toNat) (i + 1) = if mo < gn hs i a.toNat then i else am (fun s => gn hs s a.toNat) i := by
        rw [am, hmo]
        by_cases e : i = 0
        · subst e; simp [am]
        · rw [if_neg e]
      refine G_iload (pc := 30) dX12_harm_30 rfl ?_
      refine G_aload_n (pc := 32) dX12_harm_32 rfl ?_
      refine G_getr (pc := 33) dX12_harm_33 fiX12_13 (by first | rfl | assumption) (by omega) (by first | rfl | assumption) ?_
      refine G_iconst (pc := 36) dX12_harm_36 ?_
      refine G_ialdv (pc := 37) dX12_harm_37 (by first | rfl | assumption) (by omega) (by omega) (by omega) (by omega) (hH.ns rfl) ?_
      refine G_icmp_ge (pc := 38) (tgt := 96) dX12_harm_38 (Ri.mk (by omega) (by omega)) (Ri.mk (by omega) (by omega)) (by decide) (fun h_38 => ?_) (fun h_38 => ?_)
      · exact absurd h_38 (by omega)
      · refine G_aload_n (pc := 41) dX12_harm_41 rfl ?_
        refine G_iload (pc := 42) dX12_harm_42 rfl ?_
        refine G_iload_n (pc := 44) dX12_harm_44 rfl ?_
        refine G_iconst (pc := 45) dX12_harm_45 ?_
        refine G_callV1 (pc := 46) (md := mdX12_doing) (av := [_, _, _]) dX12_harm_46 lkX12_137 mwX12_doing (FnQ.av (by rw [Int.toNat_of_nonneg (show 0 ≤ a by omega)]; rfl) (m_doing i a.toNat 0 hM hH hB (by omega) (by omega) (by omega))) rfl (by first | rfl | assumption) (by omega) rfl rfl (Nat.le_of_ble_eq_true rfl) (by decide) ⟨Nat.zero_le _, Nat.zero_le _⟩ ?_
        refine G_aload_n (pc := 49) dX12_harm_49 rfl ?_
        refine G_iload (pc := 50) dX12_harm_50 rfl ?_
        refine G_iload_n (pc := 52) dX12_harm_52 rfl ?_
        refine G_iconst (pc := 53) dX12_harm_53 ?_
        refine G_callV1 (pc := 54) (md := mdX12_doing) (av := [_, _, _]) dX12_harm_54 lkX12_137 mwX12_doing (FnQ.av (by rw [Int.toNat_of_nonneg (show 0 ≤ a by omega)]; rfl) (m_doing i a.toNat 1 hM hH hB (by omega) (by omega) (by omega))) rfl (by first | rfl | assumption) (by omega) rfl rfl (Nat.le_of_ble_eq_true rfl) (by decide) ⟨Nat.zero_le _, Nat.zero_le _⟩ ?_
        refine G_isub (pc := 57) dX12_harm_57 ?_
        rw [show (dO hs i a.toNat 0 : Int) - (dO hs i a.toNat 1 : Int) = gn hs i a.toNat from rfl]
        refine G_istore (pc := 58) (lv' := [_, _, _, _, _, _, _]) dX12_harm_58 (by decide) rfl ?_
        refine G_iload (pc := 60) dX12_harm_60 rfl ?_
        refine G_iload (pc := 62) dX12_harm_62 rfl ?_
        refine G_icmp_le (pc := 64) (tgt := 72) dX12_harm_64 (Ri.mk (by omega) (by omega)) (Ri.mk (by omega) (by omega)) (by decide) (fun h_64 => ?_) (fun h_64 => ?_)
        · refine G_iload_n (pc := 72) dX12_harm_72 rfl ?_
          refine G_istore_n (pc := 73) (lv' := [_, _, _, _, _, _, _]) dX12_harm_73 (by decide) rfl ?_
          refine G_iload (pc := 74) dX12_harm_74 rfl ?_
          refine G_iload (pc := 76) dX12_harm_76 rfl ?_
          refine G_icmp_le (pc := 78) (tgt := 86) dX12_harm_78 (Ri.mk (by omega) (by omega)) (Ri.mk (by omega) (by omega)) (by decide) (fun h_78 => ?_) (fun h_78 => ?_)
          · refine G_iload (pc := 86) dX12_harm_86 rfl ?_
            refine G_istore (pc := 88) (lv' := [_, _, _, _, _, _, _]) dX12_harm_88 (by decide) rfl ?_
            refine G_iinc (pc := 90) (lv' := [_, _, _, _, _, _, _]) dX12_harm_90 (by decide) rfl rfl ?_
            refine G_goto (pc := 93) (tgt := 30) dX12_harm_93 (by decide) ?_
            first
              | (exfalso; omega)
              | (refine ih (i + 1) _ _ _ (by omega) ha hw ?_ ?_
                 · rw [hst]; first | rw [if_pos (by omega)] | rw [if_neg (by omega)]; exact hfo
                 · rw [if_neg (by omega), hst]; first | rw [if_pos (by omega)] | (rw [if_neg (by omega), hmo, if_neg (by rintro rfl; rw [if_pos rfl] at hmo; omega)]))
          · refine G_iload (pc := 81) dX12_harm_81 rfl ?_
            refine G_goto (pc := 83) (tgt := 88) dX12_harm_83 (by decide) ?_
            refine G_istore (pc := 88) (lv' := [_, _, _, _, _, _, _]) dX12_harm_88 (by decide) rfl ?_
            refine G_iinc (pc := 90) (lv' := [_, _, _, _, _, _, _]) dX12_harm_90 (by decide) rfl rfl ?_
            refine G_goto (pc := 93) (tgt := 30) dX12_harm_93 (by decide) ?_
            first
              | (exfalso; omega)
              | (refine ih (i + 1) _ _ _ (by omega) ha hw ?_ ?_
                 · rw [hst]; first | rw [if_pos (by omega)] | rw [if_neg (by omega)]; exact hfo
                 · rw [if_neg (by omega), hst]; first | rw [if_pos (by omega)] | (rw [if_neg (by omega), hmo, if_neg (by rintro rfl; rw [if_pos rfl] at hmo; omega)]))
        · refine G_iload (pc := 67) dX12_harm_67 rfl ?_
          refine G_goto (pc := 69) (tgt := 73) dX12_harm_69 (by decide) ?_
          refine G_istore_n (pc := 73) (lv' := [_, _, _, _, _, _, _]) dX12_harm_73 (by decide) rfl ?_
          refine G_iload (pc := 74) dX12_harm_74 rfl ?_
          refine G_iload (pc := 76) dX12_harm_76 rfl ?_
          refine G_icmp_le (pc := 78) (tgt := 86) dX12_harm_78 (Ri.mk (by omega) (by omega)) (Ri.mk (by omega) (by omega)) (by decide) (fun h_78 => ?_) (fun h_78 => ?_)
          · refine G_iload (pc := 86) dX12_harm_86 rfl ?_
            refine G_istore (pc := 88) (lv' := [_, _, _, _, _, _, _]) dX12_harm_88 (by decide) rfl ?_
            refine G_iinc (pc := 90) (lv' := [_, _, _, _, _, _, _]) dX12_harm_90 (by decide) rfl rfl ?_
            refine G_goto (pc := 93) (tgt := 30) dX12_harm_93 (by decide) ?_
            first
              | (exfalso; omega)
              | (refine ih (i + 1) _ _ _ (by omega) ha hw ?_ ?_
                 · rw [hst]; first | rw [if_pos (by omega)] | rw [if_neg (by omega)]; exact hfo
                 · rw [if_neg (by omega), hst]; first | rw [if_pos (by omega)] | (rw [if_neg (by omega), hmo, if_neg (by rintro rfl; rw [if_pos rfl] at hmo; omega)]))
          · refine G_iload (pc := 81) dX12_harm_81 rfl ?_
            refine G_goto (pc := 83) (tgt := 88) dX12_harm_83 (by decide) ?_
            refine G_istore (pc := 88) (lv' := [_, _, _, _, _, _, _]) dX12_harm_88 (by decide) rfl ?_
            refine G_iinc (pc := 90) (lv' := [_, _, _, _, _, _, _]) dX12_harm_90 (by decide) rfl rfl ?_
            refine G_goto (pc := 93) (tgt := 30) dX12_harm_93 (by decide) ?_
            first
              | (exfalso; omega)
              | (refine ih (i + 1) _ _ _ (by omega) ha hw ?_ ?_
                 · rw [hst]; first | rw [if_pos (by omega)] | rw [if_neg (by omega)]; exact hfo
                 · rw [if_neg (by omega), hst]; first | rw [if_pos (by omega)] | (rw [if_neg (by omega), hmo, if_neg (by rintro rfl; rw [if_pos rfl] at hmo; omega)]))
  refine G_aload_n (pc := 0) dX12_harm_0 rfl ?_
  refine G_iload_n (pc := 1) dX12_harm_1 rfl ?_
  refine G_callV1 (pc := 2) (md := mdX12_isAsk) (av := [_]) dX12_harm_2 lkX12_132 mwX12_isAsk (m_isAsk a hM hH hB ra) rfl (by first | rfl | assumption) (by omega) rfl rfl (Nat.le_of_ble_eq_true rfl) (by decide) ⟨Nat.zero_le _, Nat.zero_le _⟩ ?_
  refine G_if_eq (pc := 5) (tgt := 18) dX12_harm_5 (by first | exact bI_R | exact rw_) (by decide) (fun h_5 => ?_) (fun h_5 => ?_)
  · try simp only [bI_eq0, bI_ne0] at h_5
    refine G_iconst (pc := 18) dX12_harm_18 ?_
    refine G_iret (pc := 19) dX12_harm_19 rfl ?_
    exact ⟨by unfold aHarm; rw [if_neg (by omega)], Off.rfl, Off.rfl, hC⟩
  · try simp only [bI_eq0, bI_ne0] at h_5
    refine G_iload_n (pc := 8) dX12_harm_8 rfl ?_
    refine G_i2l (pc := 9) dX12_harm_9 (by first | exact bI_R | exact rw_) ?_
    refine G_lconst (pc := 10) dX12_harm_10 ?_
    refine G_lconst (pc := 11) dX12_harm_11 ?_
    refine G_callS1 (pc := 12) (md := mdX12_in) (av := [_, _, _]) dX12_harm_12 lkX12_66 mwX12_in (m_inI _ _ _ (0 ≤ w ∧ w ≤ 1) (by omega) (Rl.mk (by omega) (by omega)) (Rl.mk (by omega) (by omega)) (Rl.mk (by omega) (by omega))) rfl rfl (Nat.le_of_ble_eq_true rfl) (by decide) ⟨Nat.zero_le _, Nat.zero_le _⟩ ?_
    refine G_if_ne (pc := 15) (tgt := 20) dX12_harm_15 (by first | exact bI_R | exact rw_) (by decide) (fun h_15 => ?_) (fun h_15 => ?_)
    · try simp only [bI_eq0, bI_ne0] at h_15
      refine G_iconst (pc := 20) dX12_harm_20 ?_
      refine G_istore_n (pc := 21) (lv' := [_, _, _, _, _, _, _]) dX12_harm_21 (by decide) rfl ?_
      refine G_sipush (pc := 22) dX12_harm_22 (by decide) ?_
      refine G_istore (pc := 25) (lv' := [_, _, _, _, _, _, _]) dX12_harm_25 (by decide) rfl ?_
      refine G_iconst (pc := 27) dX12_harm_27 ?_
      refine G_istore (pc := 28) (lv' := [_, _, _, _, _, _, _]) dX12_harm_28 (by decide) rfl ?_
      exact loop (zS hs) 0 _ _ _ (by omega) (by omega) (by omega) rfl rfl
    · try simp only [bI_eq0, bI_ne0] at h_15
      refine G_iconst (pc := 18) dX12_harm_18 ?_
      refine G_iret (pc := 19) dX12_harm_19 rfl ?_
      exact ⟨by unfold aHarm; rw [if_neg (by omega)], Off.rfl, Off.rfl, hC⟩
theorem m_lowest (a b : Nat) (ha : a < 4611686018427387904) (hb : b < 4611686018427387904) (h0 : 0 < b) (hM : 87 ≤ M) : FnF E mdX12_lowest 0 M Rf [vr E 71, vl (a : Int), vl (b : Int)] I J none I (wr (wr J 71 16 (fA a b)) 71 17 (fB a b)) := by
  have hgp := Nat.gcd_pos_of_pos_right a h0
  have hgl := Nat.gcd_le_right a h0
  refine FnQ.of (by decide +kernel) (Nat.le_of_ble_eq_true rfl) ?_
  show GM E mdX12_lowest 0 M Rf _ I J 0 [some (vr E 71), some (vl (a : Int)), none, some (vl (b : Int)), none, none, none, none, none, none, none] []
  have loop : ∀ (k x y : Nat) (w : Option Value), Eu k x y → x < 4611686018427387904 → y < 4611686018427387904 → Nat.gcd x y = Nat.gcd a b → GM E mdX12_lowest 0 M Rf (QF none I (wr (wr J 71 16 (fA a b)) 71 17 (fB a b))) I J 6 [some (vr E 71), some (vl (a : Int)), none, some (vl (b : Int)), none, some (vl (x : Int)), none, some (vl (y : Int)), none, w, none] [] := by
    intro k
    induction k with
    | zero =>
      intro x y w he hx hy hg
      have he : y = 0 := he
      subst he
      rw [Nat.gcd_zero_right] at hg
      refine G_lload (pc := 6) dX12_lowest_6 rfl ?_
      refine G_lconst (pc := 8) dX12_lowest_8 ?_
      refine G_lc_eq (pc := 9) (tgt := 31) dX12_lowest_9 dX12_lowest_10 (Rl.mk (by omega) (by omega)) (Rl.mk (by omega) (by omega)) (by decide) (fun h_9 => ?_) (fun h_9 => ?_)
      · refine G_aload_n (pc := 31) dX12_lowest_31 rfl ?_
        refine G_lload_n (pc := 32) dX12_lowest_32 rfl ?_
        refine G_lload (pc := 33) dX12_lowest_33 rfl ?_
        refine G_ldiv (pc := 35) dX12_lowest_35 (Rl.mk (by omega) (by omega)) (Rl.mk (by omega) (by omega)) (by omega) ?_
        refine G_putl (pc := 36) dX12_lowest_36 fiX12_171 (by first | rfl | assumption) (by omega) ?_
        refine G_aload_n (pc := 39) dX12_lowest_39 rfl ?_
        refine G_lload_n (pc := 40) dX12_lowest_40 rfl ?_
        refine G_lload (pc := 41) dX12_lowest_41 rfl ?_
        refine G_ldiv (pc := 43) dX12_lowest_43 (Rl.mk (by omega) (by omega)) (Rl.mk (by omega) (by omega)) (by omega) ?_
        refine G_putl (pc := 44) dX12_lowest_44 fiX12_175 (by first | rfl | assumption) (by omega) ?_
        refine G_vret (pc := 47) dX12_lowest_47 rfl ?_
        exact ⟨rfl, rfl, by rw [hg]; rfl⟩
      · exact absurd rfl h_9
    | succ k ih =>
      intro x y w he hx hy hg
      refine G_lload (pc := 6) dX12_lowest_6 rfl ?_
      refine G_lconst (pc := 8) dX12_lowest_8 ?_
      refine G_lc_eq (pc := 9) (tgt := 31) dX12_lowest_9 dX12_lowest_10 (Rl.mk (by omega) (by omega)) (Rl.mk (by omega) (by omega)) (by decide) (fun h_9 => ?_) (fun h_9 => ?_)
      · have hy0 : y = 0 := by omega
        subst hy0
        rw [Nat.gcd_zero_right] at hg
        refine G_aload_n (pc := 31) dX12_lowest_31 rfl ?_
        refine G_lload_n (pc := 32) dX12_lowest_32 rfl ?_
        refine G_lload (pc := 33) dX12_lowest_33 rfl ?_
        refine G_ldiv (pc := 35) dX12_lowest_35 (Rl.mk (by omega) (by omega)) (Rl.mk (by omega) (by omega)) (by omega) ?_
        refine G_putl (pc := 36) dX12_lowest_36 fiX12_171 (by first | rfl | assumption) (by omega) ?_
        refine G_aload_n (pc := 39) dX12_lowest_39 rfl ?_
        refine G_lload_n (pc := 40) dX12_lowest_40 rfl ?_
        refine G_lload (pc := 41) dX12_lowest_41 rfl ?_
        refine G_ldiv (pc := 43) dX12_lowest_43 (Rl.mk (by omega) (by omega)) (Rl.mk (by omega) (by omega)) (by omega) ?_
        refine G_putl (pc := 44) dX12_lowest_44 fiX12_175 (by first | rfl | assumption) (by omega) ?_
        refine G_vret (pc := 47) dX12_lowest_47 rfl ?_
        exact ⟨rfl, rfl, by rw [hg]; rfl⟩
      · refine G_lload (pc := 13) dX12_lowest_13 rfl ?_
        refine G_lload (pc := 15) dX12_lowest_15 rfl ?_
        refine G_lrem (pc := 17) dX12_lowest_17 (Rl.mk (by omega) (by omega)) (Rl.mk (by omega) (by omega)) (by omega) ?_
        refine G_lstore (pc := 18) (lv' := [_, _, _, _, _, _, _, _, _, _, _]) dX12_lowest_18 (by decide) rfl ?_
        refine G_lload (pc := 20) dX12_lowest_20 rfl ?_
        refine G_lstore (pc := 22) (lv' := [_, _, _, _, _, _, _, _, _, _, _]) dX12_lowest_22 (by decide) rfl ?_
        refine G_lload (pc := 24) dX12_lowest_24 rfl ?_
        refine G_lstore (pc := 26) (lv' := [_, _, _, _, _, _, _, _, _, _, _]) dX12_lowest_26 (by decide) rfl ?_
        refine G_goto (pc := 28) (tgt := 6) dX12_lowest_28 (by decide) ?_
        have hy0 : y ≠ 0 := by omega
        have he2 : Eu k y (x % y) := he.resolve_left hy0
        have hlt := Nat.mod_lt x (Nat.pos_of_ne_zero hy0)
        exact ih y (x % y) (some (vl ((x % y : Nat) : Int))) he2 hy (by omega) (by rw [← hg, Nat.gcd_comm x y, Nat.gcd_rec y x, Nat.gcd_comm])
  refine G_lload_n (pc := 0) dX12_lowest_0 rfl ?_
  refine G_lstore (pc := 1) (lv' := [_, _, _, _, _, _, _, _, _, _, _]) dX12_lowest_1 (by decide) rfl ?_
  refine G_lload_n (pc := 3) dX12_lowest_3 rfl ?_
  refine G_lstore (pc := 4) (lv' := [_, _, _, _, _, _, _, _, _, _, _]) dX12_lowest_4 (by decide) rfl ?_
  exact loop 124 a b _ (Eu_pow 62 a b hb) ha hb rfl
theorem y_felt (a m p : Int) (hM : 87 ≤ M) (hC : MI I n tx hs C kn K) (hW : WF n tx hs C kn K) (ra : Ri a) (rm : Ri m) (rp : Ri p) : FnQ E mdX12_felt 8 M Rf [vr E 71, vi a, vi m, vi p] I J (MQ' I J (aFelt hs a m p) n tx hs C kn K) := by
  have hH := hC.2.1
  have hB := hW.2.2.1
  have bS := hB.1
  have r1 := rm.lo
  have r2 := rm.hi
  have r3 := rp.lo
  have r4 := rp.hi
  have bd : sumN (fun s => hs 0 s * dO hs s a.toNat m.toNat) (zS hs) ≤ zS hs * 6000 := sumN_le fun s hs' => by
    have h1 := (hB.2.2.2.2.1 s hs').2.1
    have := Nat.mul_le_mul h1 (dO_le hs s a.toNat m.toNat)
    omega
  have bd2 : sumN (fun s => hs 0 s * 10 * fe hs s a.toNat m.toNat) (zS hs) ≤ zS hs * 6000 := sumN_le fun s hs' => by
    have h1 := (hB.2.2.2.2.1 s hs').2.1
    have := Nat.mul_le_mul (show hs 0 s * 10 ≤ 600 by omega) (fe_le hs s a.toNat m.toNat)
    omega
  refine FnQ.of (by decide +kernel) (Nat.le_of_ble_eq_true rfl) ?_
  show GM E mdX12_felt 8 M Rf _ I J 0 [some (vr E 71), some (vi a), some (vi m), some (vi p), none, none, none, none, none] []
  have loop : ∀ (r i : Nat) (x y : Int), i + r = zS hs → ((0 ≤ a ∧ a < (zA hs : Int)) ∧ (0 ≤ m ∧ m ≤ 3) ∧ 0 ≤ p ∧ p ≤ 1) → x = (sumN (fun s => hs 0 s * 10 * fe hs s a.toNat m.toNat) i : Nat) → y = (sumN (fun s => hs 0 s * dO hs s a.toNat m.toNat) i : Nat) → GM E mdX12_felt 8 M Rf (MQ' I J (aFelt hs a m p) n tx hs C kn K) I J 41 [some (vr E 71), some (vi a), some (vi m), some (vi p), some (vl x), none, some (vl y), none, some (vi (i : Int))] [] := by
    intro r
    induction r with
    | zero =>
      intro i x y hi hc hx hy
      have hi : i = zS hs := by omega
      subst hi
      subst hx
      subst hy
      refine G_iload (pc := 41) dX12_felt_41 rfl ?_
      refine G_aload_n (pc := 43) dX12_felt_43 rfl ?_
      refine G_getr (pc := 44) dX12_felt_44 fiX12_13 (by first | rfl | assumption) (by omega) (by first | rfl | assumption) ?_
      refine G_iconst (pc := 47) dX12_felt_47 ?_
      refine G_ialdv (pc := 48) dX12_felt_48 (by first | rfl | assumption) (by omega) (by omega) (by omega) (by omega) (hH.ns rfl) ?_
      refine G_icmp_ge (pc := 49) (tgt := 112) dX12_felt_49 (Ri.mk (by omega) (by omega)) (Ri.mk (by omega) (by omega)) (by decide) (fun h_49 => ?_) (fun h_49 => ?_)
      · refine G_lload (pc := 112) dX12_felt_112 rfl ?_
        refine G_lconst (pc := 114) dX12_felt_114 ?_
        refine G_lc_ne (pc := 115) (tgt := 122) dX12_felt_115 dX12_felt_116 (Rl.mk (by omega) (by omega)) (Rl.mk (by omega) (by omega)) (by decide) (fun h_115 => ?_) (fun h_115 => ?_)
        · refine G_aload_n (pc := 122) dX12_felt_122 rfl ?_
          refine G_lload (pc := 123) dX12_felt_123 rfl ?_
          refine G_lload (pc := 125) dX12_felt_125 rfl ?_
          refine G_callV0 (pc := 127) (md := mdX12_lowest) (av := [_, _]) dX12_felt_127 lkX12_178 mwX12_lowest (m_lowest _ _ (by omega) (by omega) (by omega) hM) rfl (by first | rfl | assumption) (by omega) rfl rfl (Nat.le_of_ble_eq_true rfl) (by decide) ⟨Nat.zero_le _, Nat.zero_le _⟩ ?_
          refine G_iload_n (pc := 130) dX12_felt_130 rfl ?_
          refine G_if_ne (pc := 131) (tgt := 141) dX12_felt_131 rp (by decide) (fun h_131 => ?_) (fun h_131 => ?_)
          · try simp only [bI_eq0, bI_ne0] at h_131
            refine G_aload_n (pc := 141) dX12_felt_141 rfl ?_
            refine G_getlv (pc := 142) dX12_felt_142 fiX12_175 (by first | rfl | assumption) (by omega) ((show wr (wr J 71 16 _) 71 17 _ 71 17 = _ from wr_s)) ?_
            refine G_l2i (pc := 145) dX12_felt_145 ?_
            refine G_iret (pc := 146) dX12_felt_146 rfl ?_
            exact ⟨by unfold aFelt; rw [if_pos hc, aFr, if_neg (by omega)]; first | rw [if_pos (by omega)] | rw [if_neg (by omega)], Off.rfl, (Off.rfl.set (by omega) (by omega)).set (by omega) (by omega), hC⟩
          · try simp only [bI_eq0, bI_ne0] at h_131
            refine G_aload_n (pc := 134) dX12_felt_134 rfl ?_
            refine G_getlv (pc := 135) dX12_felt_135 fiX12_171 (by first | rfl | assumption) (by omega) ((show wr (wr J 71 16 _) 71 17 _ 71 16 = _ by rw [wr_n (by decide), wr_s])) ?_
            refine G_goto (pc := 138) (tgt := 145) dX12_felt_138 (by decide) ?_
            refine G_l2i (pc := 145) dX12_felt_145 ?_
            refine G_iret (pc := 146) dX12_felt_146 rfl ?_
            exact ⟨by unfold aFelt; rw [if_pos hc, aFr, if_neg (by omega)]; first | rw [if_pos (by omega)] | rw [if_neg (by omega)], Off.rfl, (Off.rfl.set (by omega) (by omega)).set (by omega) (by omega), hC⟩
        · refine G_bipush (pc := 119) dX12_felt_119 (by decide) ?_
          refine G_iret (pc := 121) dX12_felt_121 rfl ?_
          exact ⟨by unfold aFelt; rw [if_pos hc, aFr, if_pos (by omega)], Off.rfl, Off.rfl, hC⟩
      · exact absurd h_49 (by omega)
    | succ r ih =>
      intro i x y hi hc hx hy
      refine G_iload (pc := 41) dX12_felt_41 rfl ?_
      refine G_aload_n (pc := 43) dX12_felt_43 rfl ?_
      refine G_getr (pc := 44) dX12_felt_44 fiX12_13 (by first | rfl | assumption) (by omega) (by first | rfl | assumption) ?_
      refine G_iconst (pc := 47) dX12_felt_47 ?_
      refine G_ialdv (pc := 48) dX12_felt_48 (by first | rfl | assumption) (by omega) (by omega) (by omega) (by omega) (hH.ns rfl) ?_
      refine G_icmp_ge (pc := 49) (tgt := 112) dX12_felt_49 (Ri.mk (by omega) (by omega)) (Ri.mk (by omega) (by omega)) (by decide) (fun h_49 => ?_) (fun h_49 => ?_)
      · exact absurd h_49 (by omega)
      · refine G_lload (pc := 52) dX12_felt_52 rfl ?_
        refine G_ldc2 (pc := 54) dX12_felt_54 klX12_95 ?_
        refine G_aload_n (pc := 57) dX12_felt_57 rfl ?_
        refine G_getr (pc := 58) dX12_felt_58 fiX12_17 (by first | rfl | assumption) (by omega) (by first | rfl | assumption) ?_
        refine G_iconst (pc := 61) dX12_felt_61 ?_
        refine G_iload (pc := 62) dX12_felt_62 rfl ?_
        refine G_imul (pc := 64) dX12_felt_64 ?_
        refine G_ialdv (pc := 65) dX12_felt_65 (by first | rfl | assumption) (by omega) (by omega) (by omega) (by omega) (hH.so i 0 (by omega) (by omega) (by omega)) ?_
        have b5 := hB.2.2.2.2.1 i (by omega)
        have hf5 := fe_le hs i a.toNat m.toNat
        have hd5 := dO_le hs i a.toNat m.toNat
        refine G_i2l (pc := 66) dX12_felt_66 (Ri.mk (by omega) (by omega)) ?_
        refine G_lmul (pc := 67) dX12_felt_67 ?_
        refine G_aload_n (pc := 68) dX12_felt_68 rfl ?_
        refine G_iload (pc := 69) dX12_felt_69 rfl ?_
        refine G_iload_n (pc := 71) dX12_felt_71 rfl ?_
        refine G_iload_n (pc := 72) dX12_felt_72 rfl ?_
        refine G_callV1 (pc := 73) (md := mdX12_feels) (av := [_, _, _]) dX12_felt_73 lkX12_122 mwX12_feels (FnQ.av (by rw [Int.toNat_of_nonneg (show 0 ≤ a by omega), Int.toNat_of_nonneg (show 0 ≤ m by omega)]) (m_feels i a.toNat m.toNat hM hH hB (by omega) (by omega) (by omega))) rfl (by first | rfl | assumption) (by omega) rfl rfl (Nat.le_of_ble_eq_true rfl) (by decide) ⟨Nat.zero_le _, Nat.zero_le _⟩ ?_
        refine G_i2l (pc := 76) dX12_felt_76 (Ri.mk (by omega) (by omega)) ?_
        refine G_lmul (pc := 77) dX12_felt_77 ?_
        refine G_ladd (pc := 78) dX12_felt_78 ?_
        refine G_lstore (pc := 79) (lv' := [_, _, _, _, _, _, _, _, _]) dX12_felt_79 (by decide) rfl ?_
        refine G_lload (pc := 81) dX12_felt_81 rfl ?_
        refine G_aload_n (pc := 83) dX12_felt_83 rfl ?_
        refine G_getr (pc := 84) dX12_felt_84 fiX12_17 (by first | rfl | assumption) (by omega) (by first | rfl | assumption) ?_
        refine G_iconst (pc := 87) dX12_felt_87 ?_
        refine G_iload (pc := 88) dX12_felt_88 rfl ?_
        refine G_imul (pc := 90) dX12_felt_90 ?_
        refine G_ialdv (pc := 91) dX12_felt_91 (by first | rfl | assumption) (by omega) (by omega) (by omega) (by omega) (hH.so i 0 (by omega) (by omega) (by omega)) ?_
        refine G_i2l (pc := 92) dX12_felt_92 (Ri.mk (by omega) (by omega)) ?_
        refine G_aload_n (pc := 93) dX12_felt_93 rfl ?_
        refine G_iload (pc := 94) dX12_felt_94 rfl ?_
        refine G_iload_n (pc := 96) dX12_felt_96 rfl ?_
        refine G_iload_n (pc := 97) dX12_felt_97 rfl ?_
        refine G_callV1 (pc := 98) (md := mdX12_doing) (av := [_, _, _]) dX12_felt_98 lkX12_137 mwX12_doing (FnQ.av (by rw [Int.toNat_of_nonneg (show 0 ≤ a by omega), Int.toNat_of_nonneg (show 0 ≤ m by omega)]) (m_doing i a.toNat m.toNat hM hH hB (by omega) (by omega) (by omega))) rfl (by first | rfl | assumption) (by omega) rfl rfl (Nat.le_of_ble_eq_true rfl) (by decide) ⟨Nat.zero_le _, Nat.zero_le _⟩ ?_
        refine G_i2l (pc := 101) dX12_felt_101 (Ri.mk (by omega) (by omega)) ?_
        refine G_lmul (pc := 102) dX12_felt_102 ?_
        refine G_ladd (pc := 103) dX12_felt_103 ?_
        refine G_lstore (pc := 104) (lv' := [_, _, _, _, _, _, _, _, _]) dX12_felt_104 (by decide) rfl ?_
        refine G_iinc (pc := 106) (lv' := [_, _, _, _, _, _, _, _, _]) dX12_felt_106 (by decide) rfl rfl ?_
        refine G_goto (pc := 109) (tgt := 41) dX12_felt_109 (by decide) ?_
        refine ih (i + 1) _ _ (by omega) hc ?_ ?_
        · rw [hx, sumN, Int.natCast_add, Int.natCast_mul, Int.natCast_mul, Int.mul_comm 10]; rfl
        · rw [hy, sumN, Int.natCast_add, Int.natCast_mul]
  refine G_aload_n (pc := 0) dX12_felt_0 rfl ?_
  refine G_iload_n (pc := 1) dX12_felt_1 rfl ?_
  refine G_callV1 (pc := 2) (md := mdX12_isAsk) (av := [_]) dX12_felt_2 lkX12_132 mwX12_isAsk (m_isAsk a hM hH hB ra) rfl (by first | rfl | assumption) (by omega) rfl rfl (Nat.le_of_ble_eq_true rfl) (by decide) ⟨Nat.zero_le _, Nat.zero_le _⟩ ?_
  refine G_if_eq (pc := 5) (tgt := 30) dX12_felt_5 (by first | exact bI_R | exact rm | exact rp) (by decide) (fun h_5 => ?_) (fun h_5 => ?_)
  · try simp only [bI_eq0, bI_ne0] at h_5
    refine G_iconst (pc := 30) dX12_felt_30 ?_
    refine G_iret (pc := 31) dX12_felt_31 rfl ?_
    exact ⟨by unfold aFelt; rw [if_neg (by omega)], Off.rfl, Off.rfl, hC⟩
  · try simp only [bI_eq0, bI_ne0] at h_5
    refine G_iload_n (pc := 8) dX12_felt_8 rfl ?_
    refine G_i2l (pc := 9) dX12_felt_9 rm ?_
    refine G_lconst (pc := 10) dX12_felt_10 ?_
    refine G_ldc2 (pc := 11) dX12_felt_11 klX12_81 ?_
    refine G_callS1 (pc := 14) (md := mdX12_in) (av := [_, _, _]) dX12_felt_14 lkX12_66 mwX12_in (m_inI _ _ _ (0 ≤ m ∧ m ≤ 3) (by omega) (Rl.mk (by omega) (by omega)) (Rl.mk (by omega) (by omega)) (Rl.mk (by omega) (by omega))) rfl rfl (Nat.le_of_ble_eq_true rfl) (by decide) ⟨Nat.zero_le _, Nat.zero_le _⟩ ?_
    refine G_if_eq (pc := 17) (tgt := 30) dX12_felt_17 (by first | exact bI_R | exact rm | exact rp) (by decide) (fun h_17 => ?_) (fun h_17 => ?_)
    · try simp only [bI_eq0, bI_ne0] at h_17
      refine G_iconst (pc := 30) dX12_felt_30 ?_
      refine G_iret (pc := 31) dX12_felt_31 rfl ?_
      exact ⟨by unfold aFelt; rw [if_neg (by omega)], Off.rfl, Off.rfl, hC⟩
    · try simp only [bI_eq0, bI_ne0] at h_17
      refine G_iload_n (pc := 20) dX12_felt_20 rfl ?_
      refine G_i2l (pc := 21) dX12_felt_21 rp ?_
      refine G_lconst (pc := 22) dX12_felt_22 ?_
      refine G_lconst (pc := 23) dX12_felt_23 ?_
      refine G_callS1 (pc := 24) (md := mdX12_in) (av := [_, _, _]) dX12_felt_24 lkX12_66 mwX12_in (m_inI _ _ _ (0 ≤ p ∧ p ≤ 1) (by omega) (Rl.mk (by omega) (by omega)) (Rl.mk (by omega) (by omega)) (Rl.mk (by omega) (by omega))) rfl rfl (Nat.le_of_ble_eq_true rfl) (by decide) ⟨Nat.zero_le _, Nat.zero_le _⟩ ?_
      refine G_if_ne (pc := 27) (tgt := 32) dX12_felt_27 (by first | exact bI_R | exact rm | exact rp) (by decide) (fun h_27 => ?_) (fun h_27 => ?_)
      · try simp only [bI_eq0, bI_ne0] at h_27
        refine G_lconst (pc := 32) dX12_felt_32 ?_
        refine G_lstore (pc := 33) (lv' := [_, _, _, _, _, _, _, _, _]) dX12_felt_33 (by decide) rfl ?_
        refine G_lconst (pc := 35) dX12_felt_35 ?_
        refine G_lstore (pc := 36) (lv' := [_, _, _, _, _, _, _, _, _]) dX12_felt_36 (by decide) rfl ?_
        refine G_iconst (pc := 38) dX12_felt_38 ?_
        refine G_istore (pc := 39) (lv' := [_, _, _, _, _, _, _, _, _]) dX12_felt_39 (by decide) rfl ?_
        exact loop (zS hs) 0 _ _ (by omega) (by omega) rfl rfl
      · try simp only [bI_eq0, bI_ne0] at h_27
        refine G_iconst (pc := 30) dX12_felt_30 ?_
        refine G_iret (pc := 31) dX12_felt_31 rfl ?_
        exact ⟨by unfold aFelt; rw [if_neg (by omega)], Off.rfl, Off.rfl, hC⟩
end MOD6
