/-! THE REFERENCE'S CALLS, first -/
theorem MI.off {I I' : Nat → Nat → Int} {n : Nat} {tx : Nat → Int} {hs : HS} {C : CS} {kn : Nat} {K : Nat → CS} (h : MI I n tx hs C kn K) (h0 : I' 71 0 = I 71 0) (h10 : I' 71 10 = I 71 10) (hI : ∀ q, 72 ≤ q → q ≤ 82 → I' q = I q) : MI I' n tx hs C kn K := by
  obtain ⟨h1, h2, h3, h4, h5, h6, h7⟩ := h
  have o : ∀ j C, RM I j C ∧ TM I j C → RM I' j C ∧ TM I' j C := fun j C z => ⟨z.1.off (hI _ (by omega) (by omega)) (hI _ (by omega) (by omega)), z.2.off (hI _ (by omega) (by omega)) (hI _ (by omega) (by omega))⟩
  exact ⟨⟨by rw [h0]; exact h1.1, fun i hi => by rw [hI 72 (by omega) (by omega)]; exact h1.2 i hi⟩, h2.off fun q a b => hI q (by omega) (by omega), (o 0 C ⟨h3, h4⟩).1, (o 0 C ⟨h3, h4⟩).2, by rw [h10]; exact h5, fun z => o _ _ (h6 z), fun z => o _ _ (h7 z)⟩
theorem zN_pos {hs : HS} (hB : HB hs) (h0S : 0 < zS hs) : 0 < zN hs := by
  have h1 := sumN_term (f := hs 0) h0S
  have h2 := (hB.2.2.2.2.1 0 h0S).1
  rw [hB.2.2.2.1]
  omega
section MOD3
variable {E : EV} {M : Nat} {I J : Nat → Nat → Int} {n : Nat} {tx : Nat → Int} {hs : HS} {C : CS} {kn : Nat} {K : Nat → CS}
theorem y_does (s a m w : Int) (hM : 87 ≤ M) (hC : MI I n tx hs C kn K) (hW : WF n tx hs C kn K) (rs : Ri s) (ra : Ri a) (rm : Ri m) (rw_ : Ri w) : FnQ E mdX12_does 8 M Rf [vr E 71, vi s, vi a, vi m, vi w] I J (MQ' I J (aDoes hs s a m w) n tx hs C kn K) := by
  have hH := hC.2.1
  have hB := hW.2.2.1
  have r1 := rm.lo
  have r2 := rm.hi
  have r3 := rw_.lo
  have r4 := rw_.hi
  refine FnQ.of (by decide +kernel) (Nat.le_of_ble_eq_true rfl) ?_
  show GM E mdX12_does 8 M Rf _ I J 0 [some (vr E 71), some (vi s), some (vi a), some (vi m), some (vi w)] []
  refine G_aload_n (pc := 0) dX12_does_0 rfl ?_
  refine G_iload_n (pc := 1) dX12_does_1 rfl ?_
  refine G_callV1 (pc := 2) (md := mdX12_isSort) (av := [_]) dX12_does_2 lkX12_129 mwX12_isSort (m_isSort s hM hH hB rs) rfl (by first | rfl | assumption) (by omega) rfl rfl (Nat.le_of_ble_eq_true rfl) (by decide) ⟨Nat.zero_le _, Nat.zero_le _⟩ ?_
  refine G_if_eq (pc := 5) (tgt := 41) dX12_does_5 (by first | exact bI_R | exact rw_ | exact rm) (by decide) (fun h_5 => ?_) (fun h_5 => ?_)
  · try simp only [bI_eq0, bI_ne0] at h_5
    refine G_iconst (pc := 41) dX12_does_41 ?_
    refine G_iret (pc := 42) dX12_does_42 rfl ?_
    exact ⟨by unfold aDoes; first | rw [if_neg (by omega)] | rw [if_pos (by omega), if_pos (by omega)] | rw [if_pos (by omega), if_neg (by omega), if_pos (by omega)] | rw [if_pos (by omega), if_neg (by omega), if_neg (by omega)], Off.rfl, Off.rfl, hC⟩
  · try simp only [bI_eq0, bI_ne0] at h_5
    refine G_aload_n (pc := 8) dX12_does_8 rfl ?_
    refine G_iload_n (pc := 9) dX12_does_9 rfl ?_
    refine G_callV1 (pc := 10) (md := mdX12_isAsk) (av := [_]) dX12_does_10 lkX12_132 mwX12_isAsk (m_isAsk a hM hH hB ra) rfl (by first | rfl | assumption) (by omega) rfl rfl (Nat.le_of_ble_eq_true rfl) (by decide) ⟨Nat.zero_le _, Nat.zero_le _⟩ ?_
    refine G_if_eq (pc := 13) (tgt := 41) dX12_does_13 (by first | exact bI_R | exact rw_ | exact rm) (by decide) (fun h_13 => ?_) (fun h_13 => ?_)
    · try simp only [bI_eq0, bI_ne0] at h_13
      refine G_iconst (pc := 41) dX12_does_41 ?_
      refine G_iret (pc := 42) dX12_does_42 rfl ?_
      exact ⟨by unfold aDoes; first | rw [if_neg (by omega)] | rw [if_pos (by omega), if_pos (by omega)] | rw [if_pos (by omega), if_neg (by omega), if_pos (by omega)] | rw [if_pos (by omega), if_neg (by omega), if_neg (by omega)], Off.rfl, Off.rfl, hC⟩
    · try simp only [bI_eq0, bI_ne0] at h_13
      refine G_iload_n (pc := 16) dX12_does_16 rfl ?_
      refine G_i2l (pc := 17) dX12_does_17 (by first | exact bI_R | exact rw_ | exact rm) ?_
      refine G_lconst (pc := 18) dX12_does_18 ?_
      refine G_ldc2 (pc := 19) dX12_does_19 klX12_81 ?_
      refine G_callS1 (pc := 22) (md := mdX12_in) (av := [_, _, _]) dX12_does_22 lkX12_66 mwX12_in (m_inI _ _ _ (0 ≤ m ∧ m ≤ 3) (by omega) (Rl.mk (by omega) (by omega)) (Rl.mk (by omega) (by omega)) (Rl.mk (by omega) (by omega))) rfl rfl (Nat.le_of_ble_eq_true rfl) (by decide) ⟨Nat.zero_le _, Nat.zero_le _⟩ ?_
      refine G_if_eq (pc := 25) (tgt := 41) dX12_does_25 (by first | exact bI_R | exact rw_ | exact rm) (by decide) (fun h_25 => ?_) (fun h_25 => ?_)
      · try simp only [bI_eq0, bI_ne0] at h_25
        refine G_iconst (pc := 41) dX12_does_41 ?_
        refine G_iret (pc := 42) dX12_does_42 rfl ?_
        exact ⟨by unfold aDoes; first | rw [if_neg (by omega)] | rw [if_pos (by omega), if_pos (by omega)] | rw [if_pos (by omega), if_neg (by omega), if_pos (by omega)] | rw [if_pos (by omega), if_neg (by omega), if_neg (by omega)], Off.rfl, Off.rfl, hC⟩
      · try simp only [bI_eq0, bI_ne0] at h_25
        refine G_iload (pc := 28) dX12_does_28 rfl ?_
        refine G_i2l (pc := 30) dX12_does_30 (by first | exact bI_R | exact rw_ | exact rm) ?_
        refine G_lconst (pc := 31) dX12_does_31 ?_
        refine G_ldc2 (pc := 32) dX12_does_32 klX12_135 ?_
        refine G_callS1 (pc := 35) (md := mdX12_in) (av := [_, _, _]) dX12_does_35 lkX12_66 mwX12_in (m_inI _ _ _ (0 ≤ w ∧ w ≤ 2) (by omega) (Rl.mk (by omega) (by omega)) (Rl.mk (by omega) (by omega)) (Rl.mk (by omega) (by omega))) rfl rfl (Nat.le_of_ble_eq_true rfl) (by decide) ⟨Nat.zero_le _, Nat.zero_le _⟩ ?_
        refine G_if_ne (pc := 38) (tgt := 43) dX12_does_38 (by first | exact bI_R | exact rw_ | exact rm) (by decide) (fun h_38 => ?_) (fun h_38 => ?_)
        · try simp only [bI_eq0, bI_ne0] at h_38
          refine G_iload (pc := 43) dX12_does_43 rfl ?_
          refine G_if_ne (pc := 45) (tgt := 58) dX12_does_45 (by first | exact bI_R | exact rw_ | exact rm) (by decide) (fun h_45 => ?_) (fun h_45 => ?_)
          · try simp only [bI_eq0, bI_ne0] at h_45
            refine G_iload (pc := 58) dX12_does_58 rfl ?_
            refine G_iconst (pc := 60) dX12_does_60 ?_
            refine G_icmp_ne (pc := 61) (tgt := 74) dX12_does_61 (by first | exact bI_R | exact rw_ | exact rm) (Ri.mk (by omega) (by omega)) (by decide) (fun h_61 => ?_) (fun h_61 => ?_)
            · refine G_aload_n (pc := 74) dX12_does_74 rfl ?_
              refine G_iload_n (pc := 75) dX12_does_75 rfl ?_
              refine G_iload_n (pc := 76) dX12_does_76 rfl ?_
              refine G_iload_n (pc := 77) dX12_does_77 rfl ?_
              refine G_callV1 (pc := 78) (md := mdX12_doing) (av := [_, _, _]) dX12_does_78 lkX12_137 mwX12_doing (FnQ.av (by rw [Int.toNat_of_nonneg (show 0 ≤ s by omega), Int.toNat_of_nonneg (show 0 ≤ a by omega), Int.toNat_of_nonneg (show 0 ≤ m by omega)]) (m_doing s.toNat a.toNat m.toNat hM hH hB (by omega) (by omega) (by omega))) rfl (by first | rfl | assumption) (by omega) rfl rfl (Nat.le_of_ble_eq_true rfl) (by decide) ⟨Nat.zero_le _, Nat.zero_le _⟩ ?_
              refine G_iret (pc := 81) dX12_does_81 rfl ?_
              exact ⟨by unfold aDoes; first | rw [if_neg (by omega)] | rw [if_pos (by omega), if_pos (by omega)] | rw [if_pos (by omega), if_neg (by omega), if_pos (by omega)] | rw [if_pos (by omega), if_neg (by omega), if_neg (by omega)], Off.rfl, Off.rfl, hC⟩
            · refine G_aload_n (pc := 64) dX12_does_64 rfl ?_
              refine G_iload_n (pc := 65) dX12_does_65 rfl ?_
              refine G_iload_n (pc := 66) dX12_does_66 rfl ?_
              refine G_iload_n (pc := 67) dX12_does_67 rfl ?_
              refine G_callV1 (pc := 68) (md := mdX12_plays) (av := [_, _, _]) dX12_does_68 lkX12_126 mwX12_plays (FnQ.av (by rw [Int.toNat_of_nonneg (show 0 ≤ s by omega), Int.toNat_of_nonneg (show 0 ≤ a by omega), Int.toNat_of_nonneg (show 0 ≤ m by omega)]) (m_plays s.toNat a.toNat m.toNat hM hH hB (by omega) (by omega) (by omega))) rfl (by first | rfl | assumption) (by omega) rfl rfl (Nat.le_of_ble_eq_true rfl) (by decide) ⟨Nat.zero_le _, Nat.zero_le _⟩ ?_
              refine G_goto (pc := 71) (tgt := 81) dX12_does_71 (by decide) ?_
              refine G_iret (pc := 81) dX12_does_81 rfl ?_
              exact ⟨by unfold aDoes; first | rw [if_neg (by omega)] | rw [if_pos (by omega), if_pos (by omega)] | rw [if_pos (by omega), if_neg (by omega), if_pos (by omega)] | rw [if_pos (by omega), if_neg (by omega), if_neg (by omega)], Off.rfl, Off.rfl, hC⟩
          · try simp only [bI_eq0, bI_ne0] at h_45
            refine G_aload_n (pc := 48) dX12_does_48 rfl ?_
            refine G_iload_n (pc := 49) dX12_does_49 rfl ?_
            refine G_iload_n (pc := 50) dX12_does_50 rfl ?_
            refine G_iload_n (pc := 51) dX12_does_51 rfl ?_
            refine G_callV1 (pc := 52) (md := mdX12_feels) (av := [_, _, _]) dX12_does_52 lkX12_122 mwX12_feels (FnQ.av (by rw [Int.toNat_of_nonneg (show 0 ≤ s by omega), Int.toNat_of_nonneg (show 0 ≤ a by omega), Int.toNat_of_nonneg (show 0 ≤ m by omega)]) (m_feels s.toNat a.toNat m.toNat hM hH hB (by omega) (by omega) (by omega))) rfl (by first | rfl | assumption) (by omega) rfl rfl (Nat.le_of_ble_eq_true rfl) (by decide) ⟨Nat.zero_le _, Nat.zero_le _⟩ ?_
            refine G_goto (pc := 55) (tgt := 81) dX12_does_55 (by decide) ?_
            refine G_iret (pc := 81) dX12_does_81 rfl ?_
            exact ⟨by unfold aDoes; first | rw [if_neg (by omega)] | rw [if_pos (by omega), if_pos (by omega)] | rw [if_pos (by omega), if_neg (by omega), if_pos (by omega)] | rw [if_pos (by omega), if_neg (by omega), if_neg (by omega)], Off.rfl, Off.rfl, hC⟩
        · try simp only [bI_eq0, bI_ne0] at h_38
          refine G_iconst (pc := 41) dX12_does_41 ?_
          refine G_iret (pc := 42) dX12_does_42 rfl ?_
          exact ⟨by unfold aDoes; first | rw [if_neg (by omega)] | rw [if_pos (by omega), if_pos (by omega)] | rw [if_pos (by omega), if_neg (by omega), if_pos (by omega)] | rw [if_pos (by omega), if_neg (by omega), if_neg (by omega)], Off.rfl, Off.rfl, hC⟩
theorem y_left (s : Int) (hM : 87 ≤ M) (hC : MI I n tx hs C kn K) (hW : WF n tx hs C kn K) (rs : Ri s) : FnQ E mdX12_left 8 M Rf [vr E 71, vi s] I J (MQ' I J (aLeft hs C s) n tx hs C kn K) := by
  have hH := hC.2.1
  have hR := hC.2.2.1
  obtain ⟨-, -, hB, -, -, hRB, -⟩ := id hW
  refine FnQ.of (by decide +kernel) (Nat.le_of_ble_eq_true rfl) ?_
  show GM E mdX12_left 8 M Rf _ I J 0 [some (vr E 71), some (vi s)] []
  refine G_iload_n (pc := 0) dX12_left_0 rfl ?_
  refine G_iconst (pc := 1) dX12_left_1 ?_
  refine G_icmp_ne (pc := 2) (tgt := 13) dX12_left_2 (by first | exact bI_R | exact rs) (Ri.mk (by omega) (by omega)) (by decide) (fun h_2 => ?_) (fun h_2 => ?_)
  · refine G_aload_n (pc := 13) dX12_left_13 rfl ?_
    refine G_iload_n (pc := 14) dX12_left_14 rfl ?_
    refine G_callV1 (pc := 15) (md := mdX12_isSort) (av := [_]) dX12_left_15 lkX12_129 mwX12_isSort (m_isSort s hM hH hB rs) rfl (by first | rfl | assumption) (by omega) rfl rfl (Nat.le_of_ble_eq_true rfl) (by decide) ⟨Nat.zero_le _, Nat.zero_le _⟩ ?_
    refine G_if_eq (pc := 18) (tgt := 31) dX12_left_18 (by first | exact bI_R | exact rs) (by decide) (fun h_18 => ?_) (fun h_18 => ?_)
    · try simp only [bI_eq0, bI_ne0] at h_18
      refine G_iconst (pc := 31) dX12_left_31 ?_
      refine G_iret (pc := 32) dX12_left_32 rfl ?_
      first | (exfalso; omega) | exact ⟨by unfold aLeft; first | rw [if_pos (by omega)] | rw [if_neg (by omega), if_pos (by omega)] | rw [if_neg (by omega), if_neg (by omega)], Off.rfl, Off.rfl, hC⟩
    · try simp only [bI_eq0, bI_ne0] at h_18
      refine G_aload_n (pc := 21) dX12_left_21 rfl ?_
      refine G_iconst (pc := 22) dX12_left_22 ?_
      refine G_iload_n (pc := 23) dX12_left_23 rfl ?_
      refine G_callV1 (pc := 24) (md := mdX12_leftOf) (av := [_, _]) dX12_left_24 lkX12_144 mwX12_leftOf (FnQ.av (by rw [Int.toNat_of_nonneg (show 0 ≤ s by omega)]; rfl) (m_leftOf 0 s.toNat (by omega) hM hH hB hR hRB (by omega))) rfl (by first | rfl | assumption) (by omega) rfl rfl (Nat.le_of_ble_eq_true rfl) (by decide) ⟨Nat.zero_le _, Nat.zero_le _⟩ ?_
      refine G_l2i (pc := 27) dX12_left_27 ?_
      refine G_goto (pc := 28) (tgt := 32) dX12_left_28 (by decide) ?_
      refine G_iret (pc := 32) dX12_left_32 rfl ?_
      first | (exfalso; omega) | exact ⟨by unfold aLeft; first | rw [if_pos (by omega)] | rw [if_neg (by omega), if_pos (by omega)] | rw [if_neg (by omega), if_neg (by omega)], Off.rfl, Off.rfl, hC⟩
  · refine G_aload_n (pc := 5) dX12_left_5 rfl ?_
    refine G_callV1 (pc := 6) (md := mdX12_allLeft) (av := []) dX12_left_6 lkX12_148 mwX12_allLeft (m_allLeft hM hH hB hR hRB) rfl (by first | rfl | assumption) (by omega) rfl rfl (Nat.le_of_ble_eq_true rfl) (by decide) ⟨Nat.zero_le _, Nat.zero_le _⟩ ?_
    refine G_l2i (pc := 9) dX12_left_9 ?_
    refine G_goto (pc := 10) (tgt := 32) dX12_left_10 (by decide) ?_
    refine G_iret (pc := 32) dX12_left_32 rfl ?_
    first | (exfalso; omega) | exact ⟨by unfold aLeft; first | rw [if_pos (by omega)] | rw [if_neg (by omega), if_pos (by omega)] | rw [if_neg (by omega), if_neg (by omega)], Off.rfl, Off.rfl, hC⟩
theorem y_share (s : Int) (hM : 87 ≤ M) (hC : MI I n tx hs C kn K) (hW : WF n tx hs C kn K) (rs : Ri s) : FnQ E mdX12_share 8 M Rf [vr E 71, vi s] I J (MQ' I J (aShare hs C s) n tx hs C kn K) := by
  have hH := hC.2.1
  have hR := hC.2.2.1
  obtain ⟨-, -, hB, -, -, hRB, -⟩ := id hW
  have bS := hB.1
  have b5 := hB.2.2.2.2.1
  have hlf : ∀ s, s < zS hs → lf hs C s ≤ 60000000 := fun s h => by
    have h1 := lf_le hs C s
    have h2 := (b5 s h).2.1
    omega
  have hsl := sumN_le hlf
  refine FnQ.of (by decide +kernel) (Nat.le_of_ble_eq_true rfl) ?_
  show GM E mdX12_share 8 M Rf _ I J 0 [some (vr E 71), some (vi s), none, none] []
  refine G_aload_n (pc := 0) dX12_share_0 rfl ?_
  refine G_iload_n (pc := 1) dX12_share_1 rfl ?_
  refine G_callV1 (pc := 2) (md := mdX12_isSort) (av := [_]) dX12_share_2 lkX12_129 mwX12_isSort (m_isSort s hM hH hB rs) rfl (by first | rfl | assumption) (by omega) rfl rfl (Nat.le_of_ble_eq_true rfl) (by decide) ⟨Nat.zero_le _, Nat.zero_le _⟩ ?_
  refine G_if_ne (pc := 5) (tgt := 10) dX12_share_5 (by first | exact bI_R | exact rs) (by decide) (fun h_5 => ?_) (fun h_5 => ?_)
  · try simp only [bI_eq0, bI_ne0] at h_5
    refine G_aload_n (pc := 10) dX12_share_10 rfl ?_
    refine G_callV1 (pc := 11) (md := mdX12_allLeft) (av := []) dX12_share_11 lkX12_148 mwX12_allLeft (m_allLeft hM hH hB hR hRB) rfl (by first | rfl | assumption) (by omega) rfl rfl (Nat.le_of_ble_eq_true rfl) (by decide) ⟨Nat.zero_le _, Nat.zero_le _⟩ ?_
    refine G_lstore_n (pc := 14) (lv' := [_, _, _, _]) dX12_share_14 (by decide) rfl ?_
    refine G_lload_n (pc := 15) dX12_share_15 rfl ?_
    refine G_lconst (pc := 16) dX12_share_16 ?_
    refine G_lc_ne (pc := 17) (tgt := 26) dX12_share_17 dX12_share_18 (Rl.mk (by omega) (by omega)) (Rl.mk (by omega) (by omega)) (by decide) (fun h_17 => ?_) (fun h_17 => ?_)
    · refine G_ldc2 (pc := 26) dX12_share_26 klX12_152 ?_
      refine G_aload_n (pc := 29) dX12_share_29 rfl ?_
      refine G_iconst (pc := 30) dX12_share_30 ?_
      refine G_iload_n (pc := 31) dX12_share_31 rfl ?_
      refine G_callV1 (pc := 32) (md := mdX12_leftOf) (av := [_, _]) dX12_share_32 lkX12_144 mwX12_leftOf (FnQ.av (by rw [Int.toNat_of_nonneg (show 0 ≤ s by omega)]; rfl) (m_leftOf 0 s.toNat (by omega) hM hH hB hR hRB (by omega))) rfl (by first | rfl | assumption) (by omega) rfl rfl (Nat.le_of_ble_eq_true rfl) (by decide) ⟨Nat.zero_le _, Nat.zero_le _⟩ ?_
      refine G_lmul (pc := 35) dX12_share_35 ?_
      refine G_lload_n (pc := 36) dX12_share_36 rfl ?_
      have hl1 := hlf s.toNat (by omega)
      refine G_ldiv (pc := 37) dX12_share_37 (Rl.mk (by omega) (by omega)) (Rl.mk (by omega) (by omega)) (by omega) ?_
      refine G_l2i (pc := 38) dX12_share_38 ?_
      refine G_iret (pc := 39) dX12_share_39 rfl ?_
      exact ⟨by unfold aShare; first | rw [if_neg (by omega)] | rw [if_pos (by omega), if_pos (by omega)] | (rw [if_pos (by omega), if_neg (by omega), Int.ofNat_tdiv, Int.natCast_mul]; rfl), Off.rfl, Off.rfl, hC⟩
    · refine G_bipush (pc := 21) dX12_share_21 (by decide) ?_
      refine G_goto (pc := 23) (tgt := 39) dX12_share_23 (by decide) ?_
      refine G_iret (pc := 39) dX12_share_39 rfl ?_
      exact ⟨by unfold aShare; first | rw [if_neg (by omega)] | rw [if_pos (by omega), if_pos (by omega)] | (rw [if_pos (by omega), if_neg (by omega), Int.ofNat_tdiv, Int.natCast_mul]; rfl), Off.rfl, Off.rfl, hC⟩
  · try simp only [bI_eq0, bI_ne0] at h_5
    refine G_iconst (pc := 8) dX12_share_8 ?_
    refine G_iret (pc := 9) dX12_share_9 rfl ?_
    exact ⟨by unfold aShare; first | rw [if_neg (by omega)] | rw [if_pos (by omega), if_pos (by omega)] | (rw [if_pos (by omega), if_neg (by omega), Int.ofNat_tdiv, Int.natCast_mul]; rfl), Off.rfl, Off.rfl, hC⟩
theorem y_odds (c : Int) (hM : 87 ≤ M) (hC : MI I n tx hs C kn K) (hW : WF n tx hs C kn K) (rc : Ri c) : FnQ E mdX12_odds 8 M Rf [vr E 71, vi c] I J (MQ' I J (aOdds hs C c) n tx hs C kn K) := by
  have hH := hC.2.1
  have hR := hC.2.2.1
  obtain ⟨-, -, hB, -, -, hRB, -⟩ := id hW
  have r1 := rc.lo
  have r2 := rc.hi
  refine FnQ.of (by decide +kernel) (Nat.le_of_ble_eq_true rfl) ?_
  show GM E mdX12_odds 8 M Rf _ I J 0 [some (vr E 71), some (vi c)] []
  refine G_iload_n (pc := 0) dX12_odds_0 rfl ?_
  refine G_i2l (pc := 1) dX12_odds_1 (by first | exact bI_R | exact rc) ?_
  refine G_lconst (pc := 2) dX12_odds_2 ?_
  refine G_ldc2 (pc := 3) dX12_odds_3 klX12_156 ?_
  refine G_callS1 (pc := 6) (md := mdX12_in) (av := [_, _, _]) dX12_odds_6 lkX12_66 mwX12_in (m_inI _ _ _ (0 ≤ c ∧ c ≤ 12) (by omega) (Rl.mk (by omega) (by omega)) (Rl.mk (by omega) (by omega)) (Rl.mk (by omega) (by omega))) rfl rfl (Nat.le_of_ble_eq_true rfl) (by decide) ⟨Nat.zero_le _, Nat.zero_le _⟩ ?_
  refine G_if_eq (pc := 9) (tgt := 22) dX12_odds_9 (by first | exact bI_R | exact rc) (by decide) (fun h_9 => ?_) (fun h_9 => ?_)
  · try simp only [bI_eq0, bI_ne0] at h_9
    refine G_iconst (pc := 22) dX12_odds_22 ?_
    refine G_iret (pc := 23) dX12_odds_23 rfl ?_
    first
      | exact ⟨by unfold aOdds; rw [if_pos (by omega)], Off.rfl, hOJ.mono (by omega) (by omega), hC⟩
      | exact ⟨by unfold aOdds; rw [if_neg (by omega)], Off.rfl, Off.rfl, hC⟩
  · try simp only [bI_eq0, bI_ne0] at h_9
    refine G_aload_n (pc := 12) dX12_odds_12 rfl ?_
    refine G_iconst (pc := 13) dX12_odds_13 ?_
    refine G_iload_n (pc := 14) dX12_odds_14 rfl ?_
    refine G_callV (pc := 15) (md := mdX12_oddsOf) (av := [_, _]) dX12_odds_15 lkX12_158 mwX12_oddsOf (FnQ.av (by rw [Int.toNat_of_nonneg (show 0 ≤ c by omega)]; rfl) (m_oddsOf 0 c.toNat (by omega) (by omega) hM hH hB hR hRB)) rfl (by first | rfl | assumption) (by omega) rfl rfl (Nat.le_of_ble_eq_true rfl) (by decide) ⟨Nat.zero_le _, Nat.zero_le _⟩ ?_
    rintro v I1 J1 ⟨rfl, rfl, hOJ⟩
    refine G_l2i (pc := 18) dX12_odds_18 ?_
    refine G_goto (pc := 19) (tgt := 23) dX12_odds_19 (by decide) ?_
    refine G_iret (pc := 23) dX12_odds_23 rfl ?_
    first
      | exact ⟨by unfold aOdds; rw [if_pos (by omega)], Off.rfl, hOJ.mono (by omega) (by omega), hC⟩
      | exact ⟨by unfold aOdds; rw [if_neg (by omega)], Off.rfl, Off.rfl, hC⟩
theorem y_bent (w : Int) (hM : 87 ≤ M) (hC : MI I n tx hs C kn K) (hW : WF n tx hs C kn K) (rw_ : Ri w) : FnQ E mdX12_bent 8 M Rf [vr E 71, vi w] I J (MQ' I J (aBent hs C w) n tx hs C kn K) := by
  have hH := hC.2.1
  have hR := hC.2.2.1
  obtain ⟨-, -, hB, h0S, -, hRB, -⟩ := id hW
  have r1 := rw_.lo
  have r2 := rw_.hi
  have bS := hB.1
  have bN := hB.2.2.1
  have b5 := hB.2.2.2.2.1
  have hlf : ∀ s, s < zS hs → lf hs C s ≤ 60000000 := fun s h => by
    have h1 := lf_le hs C s
    have h2 := (b5 s h).2.1
    omega
  have hN := zN_pos hB h0S
  have hsl := sumN_le hlf
  refine FnQ.of (by decide +kernel) (Nat.le_of_ble_eq_true rfl) ?_
  show GM E mdX12_bent 8 M Rf _ I J 0 [some (vr E 71), some (vi w), none, none, none, none, none] []
  have loop : ∀ (f : Nat → Nat) (al : Nat) (m i : Nat) (x : Int), ((w = 0 ∧ f = hs 0) ∨ (w = 1 ∧ f = lf hs C)) → (∀ s, s < zS hs → f s ≤ 60000000) → 0 < al → al ≤ 360000000 → aBent hs C w = ((1000 * sumN (fun s => hs 1 s * f s) (zS hs) / al : Nat) : Int) → i + m = zS hs → x = (sumN (fun s => hs 1 s * f s) i : Nat) → GM E mdX12_bent 8 M Rf (MQ' I J (aBent hs C w) n tx hs C kn K) I J 45 [some (vr E 71), some (vi w), some (vl (al : Int)), none, some (vl x), none, some (vi (i : Int))] [] := by
    intro f al m
    induction m with
    | zero =>
      intro i x hf hf6 hal hal2 ha hi hx
      have hi : i = zS hs := by omega
      subst hi
      have hb2 : sumN (fun s => hs 1 s * f s) (zS hs) ≤ zS hs * 600000000 := sumN_le fun s h => by
        have h1 := Nat.mul_le_mul (b5 s h).2.2.1 (hf6 s h)
        omega
      refine G_iload (pc := 45) dX12_bent_45 rfl ?_
      refine G_aload_n (pc := 47) dX12_bent_47 rfl ?_
      refine G_getr (pc := 48) dX12_bent_48 fiX12_13 (by first | rfl | assumption) (by omega) (by first | rfl | assumption) ?_
      refine G_iconst (pc := 51) dX12_bent_51 ?_
      refine G_ialdv (pc := 52) dX12_bent_52 (by first | rfl | assumption) (by omega) (by omega) (by omega) (by omega) (hH.ns rfl) ?_
      refine G_icmp_ge (pc := 53) (tgt := 104) dX12_bent_53 (Ri.mk (by omega) (by omega)) (Ri.mk (by omega) (by omega)) (by decide) (fun h_53 => ?_) (fun h_53 => ?_)
      · refine G_ldc2 (pc := 104) dX12_bent_104 klX12_154 ?_
        refine G_lload (pc := 107) dX12_bent_107 rfl ?_
        refine G_lmul (pc := 109) dX12_bent_109 ?_
        refine G_lload_n (pc := 110) dX12_bent_110 rfl ?_
        refine G_ldiv (pc := 111) dX12_bent_111 (Rl.mk (by omega) (by omega)) (Rl.mk (by omega) (by omega)) (by omega) ?_
        refine G_l2i (pc := 112) dX12_bent_112 ?_
        refine G_iret (pc := 113) dX12_bent_113 rfl ?_
        exact ⟨by rw [ha, hx, Int.ofNat_tdiv, Int.natCast_mul]; rfl, Off.rfl, Off.rfl, hC⟩
      · exact absurd h_53 (by omega)
    | succ m ih =>
      intro i x hf hf6 hal hal2 ha hi hx
      have b6 := b5 i (by omega)
      refine G_iload (pc := 45) dX12_bent_45 rfl ?_
      refine G_aload_n (pc := 47) dX12_bent_47 rfl ?_
      refine G_getr (pc := 48) dX12_bent_48 fiX12_13 (by first | rfl | assumption) (by omega) (by first | rfl | assumption) ?_
      refine G_iconst (pc := 51) dX12_bent_51 ?_
      refine G_ialdv (pc := 52) dX12_bent_52 (by first | rfl | assumption) (by omega) (by omega) (by omega) (by omega) (hH.ns rfl) ?_
      refine G_icmp_ge (pc := 53) (tgt := 104) dX12_bent_53 (Ri.mk (by omega) (by omega)) (Ri.mk (by omega) (by omega)) (by decide) (fun h_53 => ?_) (fun h_53 => ?_)
      · exact absurd h_53 (by omega)
      · refine G_lload (pc := 56) dX12_bent_56 rfl ?_
        refine G_aload_n (pc := 58) dX12_bent_58 rfl ?_
        refine G_getr (pc := 59) dX12_bent_59 fiX12_17 (by first | rfl | assumption) (by omega) (by first | rfl | assumption) ?_
        refine G_iconst (pc := 62) dX12_bent_62 ?_
        refine G_iload (pc := 63) dX12_bent_63 rfl ?_
        refine G_imul (pc := 65) dX12_bent_65 ?_
        refine G_iconst (pc := 66) dX12_bent_66 ?_
        refine G_iadd (pc := 67) dX12_bent_67 ?_
        refine G_ialdv (pc := 68) dX12_bent_68 (by first | rfl | assumption) (by omega) (by omega) (by omega) (by omega) (hH.so i 1 (by omega) (by omega) (by omega)) ?_
        refine G_i2l (pc := 69) dX12_bent_69 (Ri.mk (by omega) (by omega)) ?_
        refine G_iload_n (pc := 70) dX12_bent_70 rfl ?_
        refine G_if_ne (pc := 71) (tgt := 87) dX12_bent_71 rw_ (by decide) (fun h_71 => ?_) (fun h_71 => ?_)
        · try simp only [bI_eq0, bI_ne0] at h_71
          refine G_aload_n (pc := 87) dX12_bent_87 rfl ?_
          refine G_iconst (pc := 88) dX12_bent_88 ?_
          refine G_iload (pc := 89) dX12_bent_89 rfl ?_
          refine G_callV1 (pc := 91) (md := mdX12_leftOf) (av := [_, _]) dX12_bent_91 lkX12_144 mwX12_leftOf (m_leftOf 0 i (by omega) hM hH hB hR hRB (by omega)) rfl (by first | rfl | assumption) (by omega) rfl rfl (Nat.le_of_ble_eq_true rfl) (by decide) ⟨Nat.zero_le _, Nat.zero_le _⟩ ?_
          refine G_lmul (pc := 94) dX12_bent_94 ?_
          refine G_ladd (pc := 95) dX12_bent_95 ?_
          refine G_lstore (pc := 96) (lv' := [_, _, _, _, _, _, _]) dX12_bent_96 (by decide) rfl ?_
          refine G_iinc (pc := 98) (lv' := [_, _, _, _, _, _, _]) dX12_bent_98 (by decide) rfl rfl ?_
          refine G_goto (pc := 101) (tgt := 45) dX12_bent_101 (by decide) ?_
          refine ih (i + 1) _ hf hf6 hal hal2 ha (by omega) ?_
          rw [hx, sumN, Int.natCast_add, Int.natCast_mul]
          rcases hf with ⟨h, rfl⟩ | ⟨h, rfl⟩ <;> first | rfl | exact absurd h (by omega)
        · try simp only [bI_eq0, bI_ne0] at h_71
          refine G_aload_n (pc := 74) dX12_bent_74 rfl ?_
          refine G_getr (pc := 75) dX12_bent_75 fiX12_17 (by first | rfl | assumption) (by omega) (by first | rfl | assumption) ?_
          refine G_iconst (pc := 78) dX12_bent_78 ?_
          refine G_iload (pc := 79) dX12_bent_79 rfl ?_
          refine G_imul (pc := 81) dX12_bent_81 ?_
          refine G_ialdv (pc := 82) dX12_bent_82 (by first | rfl | assumption) (by omega) (by omega) (by omega) (by omega) (hH.so i 0 (by omega) (by omega) (by omega)) ?_
          refine G_i2l (pc := 83) dX12_bent_83 (Ri.mk (by omega) (by omega)) ?_
          refine G_goto (pc := 84) (tgt := 94) dX12_bent_84 (by decide) ?_
          refine G_lmul (pc := 94) dX12_bent_94 ?_
          refine G_ladd (pc := 95) dX12_bent_95 ?_
          refine G_lstore (pc := 96) (lv' := [_, _, _, _, _, _, _]) dX12_bent_96 (by decide) rfl ?_
          refine G_iinc (pc := 98) (lv' := [_, _, _, _, _, _, _]) dX12_bent_98 (by decide) rfl rfl ?_
          refine G_goto (pc := 101) (tgt := 45) dX12_bent_101 (by decide) ?_
          refine ih (i + 1) _ hf hf6 hal hal2 ha (by omega) ?_
          rw [hx, sumN, Int.natCast_add, Int.natCast_mul]
          rcases hf with ⟨h, rfl⟩ | ⟨h, rfl⟩ <;> first | rfl | exact absurd h (by omega)
  refine G_iload_n (pc := 0) dX12_bent_0 rfl ?_
  refine G_i2l (pc := 1) dX12_bent_1 (by first | exact bI_R | exact rw_) ?_
  refine G_lconst (pc := 2) dX12_bent_2 ?_
  refine G_lconst (pc := 3) dX12_bent_3 ?_
  refine G_callS1 (pc := 4) (md := mdX12_in) (av := [_, _, _]) dX12_bent_4 lkX12_66 mwX12_in (m_inI _ _ _ (0 ≤ w ∧ w ≤ 1) (by omega) (Rl.mk (by omega) (by omega)) (Rl.mk (by omega) (by omega)) (Rl.mk (by omega) (by omega))) rfl rfl (Nat.le_of_ble_eq_true rfl) (by decide) ⟨Nat.zero_le _, Nat.zero_le _⟩ ?_
  refine G_if_ne (pc := 7) (tgt := 12) dX12_bent_7 (by first | exact bI_R | exact rw_) (by decide) (fun h_7 => ?_) (fun h_7 => ?_)
  · try simp only [bI_eq0, bI_ne0] at h_7
    refine G_iload_n (pc := 12) dX12_bent_12 rfl ?_
    refine G_if_ne (pc := 13) (tgt := 25) dX12_bent_13 (by first | exact bI_R | exact rw_) (by decide) (fun h_13 => ?_) (fun h_13 => ?_)
    · try simp only [bI_eq0, bI_ne0] at h_13
      refine G_aload_n (pc := 25) dX12_bent_25 rfl ?_
      refine G_callV1 (pc := 26) (md := mdX12_allLeft) (av := []) dX12_bent_26 lkX12_148 mwX12_allLeft (m_allLeft hM hH hB hR hRB) rfl (by first | rfl | assumption) (by omega) rfl rfl (Nat.le_of_ble_eq_true rfl) (by decide) ⟨Nat.zero_le _, Nat.zero_le _⟩ ?_
      refine G_lstore_n (pc := 29) (lv' := [_, _, _, _, _, _, _]) dX12_bent_29 (by decide) rfl ?_
      refine G_lload_n (pc := 30) dX12_bent_30 rfl ?_
      refine G_lconst (pc := 31) dX12_bent_31 ?_
      refine G_lc_ne (pc := 32) (tgt := 39) dX12_bent_32 dX12_bent_33 (Rl.mk (by omega) (by omega)) (Rl.mk (by omega) (by omega)) (by decide) (fun h_32 => ?_) (fun h_32 => ?_)
      · refine G_lconst (pc := 39) dX12_bent_39 ?_
        refine G_lstore (pc := 40) (lv' := [_, _, _, _, _, _, _]) dX12_bent_40 (by decide) rfl ?_
        refine G_iconst (pc := 42) dX12_bent_42 ?_
        refine G_istore (pc := 43) (lv' := [_, _, _, _, _, _, _]) dX12_bent_43 (by decide) rfl ?_
        first
          | exact loop (hs 0) (zN hs) (zS hs) 0 0 (Or.inl ⟨by omega, rfl⟩) (fun s h => by have := (b5 s h).2.1; omega) hN (by omega) (by unfold aBent; rw [if_pos (show w = 0 by omega), sumN_congr (f := fun s => hs 0 s * hs 1 s) fun s _ => Nat.mul_comm _ _]) (by omega) rfl
          | exact loop (lf hs C) (sumN (lf hs C) (zS hs)) (zS hs) 0 0 (Or.inr ⟨by omega, rfl⟩) hlf (by omega) (by omega) (by unfold aBent; rw [if_neg (show ¬ w = 0 by omega), if_pos (show w = 1 by omega), if_neg (by omega), sumN_congr (f := fun s => lf hs C s * hs 1 s) fun s _ => Nat.mul_comm _ _]) (by omega) rfl
      · refine G_bipush (pc := 36) dX12_bent_36 (by decide) ?_
        refine G_iret (pc := 38) dX12_bent_38 rfl ?_
        exact ⟨by unfold aBent; rw [if_neg (show ¬ w = 0 by omega), if_pos (show w = 1 by omega), if_pos (by omega)], Off.rfl, Off.rfl, hC⟩
    · try simp only [bI_eq0, bI_ne0] at h_13
      refine G_aload_n (pc := 16) dX12_bent_16 rfl ?_
      refine G_iconst (pc := 17) dX12_bent_17 ?_
      refine G_callV1 (pc := 18) (md := mdX12_folk) (av := [_]) dX12_bent_18 lkX12_99 mwX12_folk (m_folk 0 (by omega) hM hH hB) rfl (by first | rfl | assumption) (by omega) rfl rfl (Nat.le_of_ble_eq_true rfl) (by decide) ⟨Nat.zero_le _, Nat.zero_le _⟩ ?_
      refine G_i2l (pc := 21) dX12_bent_21 (Ri.mk (by omega) (by omega)) ?_
      refine G_goto (pc := 22) (tgt := 29) dX12_bent_22 (by decide) ?_
      refine G_lstore_n (pc := 29) (lv' := [_, _, _, _, _, _, _]) dX12_bent_29 (by decide) rfl ?_
      refine G_lload_n (pc := 30) dX12_bent_30 rfl ?_
      refine G_lconst (pc := 31) dX12_bent_31 ?_
      refine G_lc_ne (pc := 32) (tgt := 39) dX12_bent_32 dX12_bent_33 (Rl.mk (by omega) (by omega)) (Rl.mk (by omega) (by omega)) (by decide) (fun h_32 => ?_) (fun h_32 => ?_)
      · refine G_lconst (pc := 39) dX12_bent_39 ?_
        refine G_lstore (pc := 40) (lv' := [_, _, _, _, _, _, _]) dX12_bent_40 (by decide) rfl ?_
        refine G_iconst (pc := 42) dX12_bent_42 ?_
        refine G_istore (pc := 43) (lv' := [_, _, _, _, _, _, _]) dX12_bent_43 (by decide) rfl ?_
        first
          | exact loop (hs 0) (zN hs) (zS hs) 0 0 (Or.inl ⟨by omega, rfl⟩) (fun s h => by have := (b5 s h).2.1; omega) hN (by omega) (by unfold aBent; rw [if_pos (show w = 0 by omega), sumN_congr (f := fun s => hs 0 s * hs 1 s) fun s _ => Nat.mul_comm _ _]) (by omega) rfl
          | exact loop (lf hs C) (sumN (lf hs C) (zS hs)) (zS hs) 0 0 (Or.inr ⟨by omega, rfl⟩) hlf (by omega) (by omega) (by unfold aBent; rw [if_neg (show ¬ w = 0 by omega), if_pos (show w = 1 by omega), if_neg (by omega), sumN_congr (f := fun s => lf hs C s * hs 1 s) fun s _ => Nat.mul_comm _ _]) (by omega) rfl
      · refine G_bipush (pc := 36) dX12_bent_36 (by decide) ?_
        refine G_iret (pc := 38) dX12_bent_38 rfl ?_
        exact ⟨by unfold aBent; rw [if_neg (show ¬ w = 0 by omega), if_pos (show w = 1 by omega), if_pos (by omega)], Off.rfl, Off.rfl, hC⟩
  · try simp only [bI_eq0, bI_ne0] at h_7
    refine G_iconst (pc := 10) dX12_bent_10 ?_
    refine G_iret (pc := 11) dX12_bent_11 rfl ?_
    exact ⟨by unfold aBent; rw [if_neg (show ¬ w = 0 by omega), if_neg (show ¬ w = 1 by omega)], Off.rfl, Off.rfl, hC⟩
end MOD3
