/-! THE CLASS'S CALLS -/
def CI (I : Nat → Nat → Int) (n : Nat) (tx : Nat → Int) (hs : HS) (C : CS) (kn : Nat) (K : Nat → CS) : Prop := XI I n tx ∧ HI I 3 hs ∧ RI I 13 C ∧ TI I 16 C ∧ I 0 13 = kn ∧ (1 ≤ kn → RI I 36 (K 1) ∧ TI I 39 (K 1)) ∧ (2 ≤ kn → RI I 45 (K 2) ∧ TI I 48 (K 2)) ∧ MemI I hs
theorem MemI.off {I I' : Nat → Nat → Int} {hs : HS} (h : MemI I hs) (h1 : I' 56 = I 56) (h2 : ∀ q, 60 ≤ q → q ≤ 62 → I' q = I q) : MemI I' hs := by
  unfold MemI ChI at *
  rw [h1]
  rcases h with h | ⟨n, m, c, a, b, d, e1, e2, e3, e4, e5⟩
  · exact Or.inl h
  · exact Or.inr ⟨n, m, c, a, b, d, e1, e2, e3, e4, fun z => (e5 z).off fun q h3 h4 => h2 q (by omega) (by omega)⟩
theorem CI.off {I I' : Nat → Nat → Int} {n : Nat} {tx : Nat → Int} {hs : HS} {C : CS} {kn : Nat} {K : Nat → CS} (h : CI I n tx hs C kn K) (hI : ∀ q, (q ≤ 20 ∨ (35 ≤ q ∧ q ≤ 52) ∨ q = 56 ∨ (60 ≤ q ∧ q ≤ 62)) → I' q = I q) : CI I' n tx hs C kn K := by
  obtain ⟨h1, h2, h3, h4, h5, h6, h7, h8⟩ := h
  refine ⟨h1.off (hI 1 (by omega)) (hI 2 (by omega)), h2.off fun q a b => hI q (by omega), h3.off fun q a b => hI q (by omega), h4.off fun q a b => hI q (by omega), by rw [hI 0 (by omega)]; exact h5, fun z => ⟨(h6 z).1.off fun q a b => hI q (by omega), (h6 z).2.off fun q a b => hI q (by omega)⟩, fun z => ⟨(h7 z).1.off fun q a b => hI q (by omega), (h7 z).2.off fun q a b => hI q (by omega)⟩, h8.off (hI 56 (by omega)) fun q a b => hI q (by omega)⟩
/-- what a call leaves: its answer, nothing of the other side changed, the state -/
abbrev CQ (I J : Nat → Nat → Int) (a : Int) (n : Nat) (tx : Nat → Int) (hs : HS) (C : CS) (kn : Nat) (K : Nat → CS) : Option Value → (Nat → Nat → Int) → (Nat → Nat → Int) → Prop := fun v I' J' => v = some (vi a) ∧ Off I I' 0 70 ∧ Off J J' 0 70 ∧ CI I' n tx hs C kn K
abbrev CQl (I J : Nat → Nat → Int) (a : Int) (n : Nat) (tx : Nat → Int) (hs : HS) (C : CS) (kn : Nat) (K : Nat → CS) : Option Value → (Nat → Nat → Int) → (Nat → Nat → Int) → Prop := fun v I' J' => v = some (vl a) ∧ Off I I' 0 70 ∧ Off J J' 0 70 ∧ CI I' n tx hs C kn K
section COMP
variable {E : EV} {M : Nat} {I J : Nat → Nat → Int} {n : Nat} {tx : Nat → Int} {hs : HS} {C : CS} {kn : Nat} {K : Nat → CS}
theorem x_wipe (hM : 71 ≤ M) (hC : CI I n tx hs C kn K) (hW : WF n tx hs C kn K) : FnQ E mdX11_wipe 6 M Rf [vr E 0] I J (CQ I J (n : Int) 0 tx hs C kn K) := by
  obtain ⟨hX, h2, h3, h4, h5, h6, h7, h8⟩ := id hC
  have v1 := hX.1
  refine FnQ.of (by decide +kernel) (Nat.le_of_ble_eq_true rfl) ?_
  show GM E mdX11_wipe 6 M Rf _ I J 0 [some (vr E 0), none] []
  refine G_aload_n (pc := 0) dX11_wipe_0 rfl ?_
  refine G_getr (pc := 1) dX11_wipe_1 fiX11_10 (by first | rfl | assumption) (by omega) (by first | rfl | assumption) ?_
  refine G_geti (pc := 4) dX11_wipe_4 fiX11_105 (by first | rfl | assumption) (by omega) ?_
  refine G_istore_n (pc := 7) (lv' := [_, _]) dX11_wipe_7 (by decide) rfl ?_
  refine G_aload_n (pc := 8) dX11_wipe_8 rfl ?_
  refine G_getr (pc := 9) dX11_wipe_9 fiX11_10 (by first | rfl | assumption) (by omega) (by first | rfl | assumption) ?_
  refine G_iconst (pc := 12) dX11_wipe_12 ?_
  refine G_puti (pc := 13) dX11_wipe_13 fiX11_105 (by first | rfl | assumption) (by omega) ?_
  refine G_iload_n (pc := 16) dX11_wipe_16 rfl ?_
  refine G_iret (pc := 17) dX11_wipe_17 rfl ?_
  refine ⟨by rw [v1], Off.rfl.set (by omega) (by omega), Off.rfl, ⟨wr_s, fun i hi => absurd hi (Nat.not_lt_zero _)⟩, h2.off fun q a b => wr_o (by omega), h3.off fun q a b => wr_o (by omega), h4.off fun q a b => wr_o (by omega), by rw [wr_o (by decide)]; exact h5, fun z => ⟨(h6 z).1.off fun q a b => wr_o (by omega), (h6 z).2.off fun q a b => wr_o (by omega)⟩, fun z => ⟨(h7 z).1.off fun q a b => wr_o (by omega), (h7 z).2.off fun q a b => wr_o (by omega)⟩, h8.off (wr_o (by decide)) fun q a b => wr_o (by omega)⟩
theorem x_does (s a m w : Int) (hM : 71 ≤ M) (hC : CI I n tx hs C kn K) (hW : WF n tx hs C kn K) (rs : Ri s) (ra : Ri a) (rm : Ri m) (rw_ : Ri w) : FnQ E mdX11_does 8 M Rf [vr E 0, vi s, vi a, vi m, vi w] I J (CQ I J (aDoes hs s a m w) n tx hs C kn K) := by
  have hH := hC.2.1
  have hB := hW.2.2.1
  refine FnQ.of (by decide +kernel) (Nat.le_of_ble_eq_true rfl) ?_
  show GM E mdX11_does 8 M Rf _ I J 0 [some (vr E 0), some (vi s), some (vi a), some (vi m), some (vi w)] []
  refine G_aload_n (pc := 0) dX11_does_0 rfl ?_
  refine G_getr (pc := 1) dX11_does_1 fiX11_19 (by first | rfl | assumption) (by omega) (by first | rfl | assumption) ?_
  refine G_iload_n (pc := 4) dX11_does_4 rfl ?_
  refine G_callV1 (pc := 5) (md := mdX4_hasSort) (av := [_]) dX11_does_5 lkX11_148 mwX4_hasSort (c_hasSort 3 s (Or.inl rfl) hM hH hB rs) rfl (by first | rfl | assumption) (by omega) rfl rfl (Nat.le_of_ble_eq_true rfl) (by decide) ⟨Nat.zero_le _, Nat.zero_le _⟩ ?_
  refine G_if_eq (pc := 8) (tgt := 41) dX11_does_8 (by first | exact bI_R | exact rw_) (by decide) (fun h_8 => ?_) (fun h_8 => ?_)
  · try simp only [bI_eq0, bI_ne0] at h_8
    refine G_iconst (pc := 41) dX11_does_41 ?_
    refine G_iret (pc := 42) dX11_does_42 rfl ?_
    exact ⟨by unfold aDoes; first | rw [if_neg (by omega)] | rw [if_pos (by omega), if_pos (by omega)] | rw [if_pos (by omega), if_neg (by omega), if_pos (by omega)] | rw [if_pos (by omega), if_neg (by omega), if_neg (by omega)], Off.rfl, Off.rfl, hC⟩
  · try simp only [bI_eq0, bI_ne0] at h_8
    refine G_aload_n (pc := 11) dX11_does_11 rfl ?_
    refine G_getr (pc := 12) dX11_does_12 fiX11_19 (by first | rfl | assumption) (by omega) (by first | rfl | assumption) ?_
    refine G_iload_n (pc := 15) dX11_does_15 rfl ?_
    refine G_callV1 (pc := 16) (md := mdX4_hasAsk) (av := [_]) dX11_does_16 lkX11_152 mwX4_hasAsk (c_hasAsk 3 a (Or.inl rfl) hM hH hB ra) rfl (by first | rfl | assumption) (by omega) rfl rfl (Nat.le_of_ble_eq_true rfl) (by decide) ⟨Nat.zero_le _, Nat.zero_le _⟩ ?_
    refine G_if_eq (pc := 19) (tgt := 41) dX11_does_19 (by first | exact bI_R | exact rw_) (by decide) (fun h_19 => ?_) (fun h_19 => ?_)
    · try simp only [bI_eq0, bI_ne0] at h_19
      refine G_iconst (pc := 41) dX11_does_41 ?_
      refine G_iret (pc := 42) dX11_does_42 rfl ?_
      exact ⟨by unfold aDoes; first | rw [if_neg (by omega)] | rw [if_pos (by omega), if_pos (by omega)] | rw [if_pos (by omega), if_neg (by omega), if_pos (by omega)] | rw [if_pos (by omega), if_neg (by omega), if_neg (by omega)], Off.rfl, Off.rfl, hC⟩
    · try simp only [bI_eq0, bI_ne0] at h_19
      refine G_iload_n (pc := 22) dX11_does_22 rfl ?_
      refine G_iconst (pc := 23) dX11_does_23 ?_
      refine G_iconst (pc := 24) dX11_does_24 ?_
      refine G_callS1 (pc := 25) (md := mdX11_within) (av := [_, _, _]) dX11_does_25 lkX11_101 mwX11_within (c_within _ _ _ rm (Ri.mk (by omega) (by omega)) (Ri.mk (by omega) (by omega))) rfl rfl (Nat.le_of_ble_eq_true rfl) (by decide) ⟨Nat.zero_le _, Nat.zero_le _⟩ ?_
      refine G_if_eq (pc := 28) (tgt := 41) dX11_does_28 (by first | exact bI_R | exact rw_) (by decide) (fun h_28 => ?_) (fun h_28 => ?_)
      · try simp only [bI_eq0, bI_ne0] at h_28
        refine G_iconst (pc := 41) dX11_does_41 ?_
        refine G_iret (pc := 42) dX11_does_42 rfl ?_
        exact ⟨by unfold aDoes; first | rw [if_neg (by omega)] | rw [if_pos (by omega), if_pos (by omega)] | rw [if_pos (by omega), if_neg (by omega), if_pos (by omega)] | rw [if_pos (by omega), if_neg (by omega), if_neg (by omega)], Off.rfl, Off.rfl, hC⟩
      · try simp only [bI_eq0, bI_ne0] at h_28
        refine G_iload (pc := 31) dX11_does_31 rfl ?_
        refine G_iconst (pc := 33) dX11_does_33 ?_
        refine G_iconst (pc := 34) dX11_does_34 ?_
        refine G_callS1 (pc := 35) (md := mdX11_within) (av := [_, _, _]) dX11_does_35 lkX11_101 mwX11_within (c_within _ _ _ rw_ (Ri.mk (by omega) (by omega)) (Ri.mk (by omega) (by omega))) rfl rfl (Nat.le_of_ble_eq_true rfl) (by decide) ⟨Nat.zero_le _, Nat.zero_le _⟩ ?_
        refine G_if_ne (pc := 38) (tgt := 43) dX11_does_38 (by first | exact bI_R | exact rw_) (by decide) (fun h_38 => ?_) (fun h_38 => ?_)
        · try simp only [bI_eq0, bI_ne0] at h_38
          refine G_iload (pc := 43) dX11_does_43 rfl ?_
          refine G_if_ne (pc := 45) (tgt := 59) dX11_does_45 (by first | exact bI_R | exact rw_) (by decide) (fun h_45 => ?_) (fun h_45 => ?_)
          · try simp only [bI_eq0, bI_ne0] at h_45
            refine G_iload (pc := 59) dX11_does_59 rfl ?_
            refine G_iconst (pc := 61) dX11_does_61 ?_
            refine G_icmp_ne (pc := 62) (tgt := 78) dX11_does_62 (by first | exact bI_R | exact rw_) (Ri.mk (by omega) (by omega)) (by decide) (fun h_62 => ?_) (fun h_62 => ?_)
            · refine G_aload_n (pc := 78) dX11_does_78 rfl ?_
              refine G_getr (pc := 79) dX11_does_79 fiX11_19 (by first | rfl | assumption) (by omega) (by first | rfl | assumption) ?_
              refine G_iload_n (pc := 82) dX11_does_82 rfl ?_
              refine G_iload_n (pc := 83) dX11_does_83 rfl ?_
              refine G_iload_n (pc := 84) dX11_does_84 rfl ?_
              refine G_callV1 (pc := 85) (md := mdX4_doing) (av := [_, _, _]) dX11_does_85 lkX11_162 mwX4_doing (FnQ.av (by rw [Int.toNat_of_nonneg (show 0 ≤ s by omega), Int.toNat_of_nonneg (show 0 ≤ a by omega), Int.toNat_of_nonneg (show 0 ≤ m by omega)]) (c_doing 3 s.toNat a.toNat m.toNat (Or.inl rfl) hM hH hB (by omega) (by omega) (by omega))) rfl (by first | rfl | assumption) (by omega) rfl rfl (Nat.le_of_ble_eq_true rfl) (by decide) ⟨Nat.zero_le _, Nat.zero_le _⟩ ?_
              refine G_iret (pc := 88) dX11_does_88 rfl ?_
              exact ⟨by unfold aDoes; first | rw [if_neg (by omega)] | rw [if_pos (by omega), if_pos (by omega)] | rw [if_pos (by omega), if_neg (by omega), if_pos (by omega)] | rw [if_pos (by omega), if_neg (by omega), if_neg (by omega)], Off.rfl, Off.rfl, hC⟩
            · refine G_aload_n (pc := 65) dX11_does_65 rfl ?_
              refine G_getr (pc := 66) dX11_does_66 fiX11_19 (by first | rfl | assumption) (by omega) (by first | rfl | assumption) ?_
              refine G_iload_n (pc := 69) dX11_does_69 rfl ?_
              refine G_iload_n (pc := 70) dX11_does_70 rfl ?_
              refine G_iload_n (pc := 71) dX11_does_71 rfl ?_
              refine G_callV1 (pc := 72) (md := mdX4_playing) (av := [_, _, _]) dX11_does_72 lkX11_159 mwX4_playing (FnQ.av (by rw [Int.toNat_of_nonneg (show 0 ≤ s by omega), Int.toNat_of_nonneg (show 0 ≤ a by omega), Int.toNat_of_nonneg (show 0 ≤ m by omega)]) (c_playing 3 s.toNat a.toNat m.toNat (Or.inl rfl) hM hH hB (by omega) (by omega) (by omega))) rfl (by first | rfl | assumption) (by omega) rfl rfl (Nat.le_of_ble_eq_true rfl) (by decide) ⟨Nat.zero_le _, Nat.zero_le _⟩ ?_
              refine G_goto (pc := 75) (tgt := 88) dX11_does_75 (by decide) ?_
              refine G_iret (pc := 88) dX11_does_88 rfl ?_
              exact ⟨by unfold aDoes; first | rw [if_neg (by omega)] | rw [if_pos (by omega), if_pos (by omega)] | rw [if_pos (by omega), if_neg (by omega), if_pos (by omega)] | rw [if_pos (by omega), if_neg (by omega), if_neg (by omega)], Off.rfl, Off.rfl, hC⟩
          · try simp only [bI_eq0, bI_ne0] at h_45
            refine G_aload_n (pc := 48) dX11_does_48 rfl ?_
            refine G_getr (pc := 49) dX11_does_49 fiX11_19 (by first | rfl | assumption) (by omega) (by first | rfl | assumption) ?_
            refine G_iload_n (pc := 52) dX11_does_52 rfl ?_
            refine G_iload_n (pc := 53) dX11_does_53 rfl ?_
            refine G_iload_n (pc := 54) dX11_does_54 rfl ?_
            refine G_callV1 (pc := 55) (md := mdX4_feeling) (av := [_, _, _]) dX11_does_55 lkX11_155 mwX4_feeling (FnQ.av (by rw [Int.toNat_of_nonneg (show 0 ≤ s by omega), Int.toNat_of_nonneg (show 0 ≤ a by omega), Int.toNat_of_nonneg (show 0 ≤ m by omega)]) (c_feeling 3 s.toNat a.toNat m.toNat (Or.inl rfl) hM hH hB (by omega) (by omega) (by omega))) rfl (by first | rfl | assumption) (by omega) rfl rfl (Nat.le_of_ble_eq_true rfl) (by decide) ⟨Nat.zero_le _, Nat.zero_le _⟩ ?_
            refine G_iret (pc := 58) dX11_does_58 rfl ?_
            exact ⟨by unfold aDoes; first | rw [if_neg (by omega)] | rw [if_pos (by omega), if_pos (by omega)] | rw [if_pos (by omega), if_neg (by omega), if_pos (by omega)] | rw [if_pos (by omega), if_neg (by omega), if_neg (by omega)], Off.rfl, Off.rfl, hC⟩
        · try simp only [bI_eq0, bI_ne0] at h_38
          refine G_iconst (pc := 41) dX11_does_41 ?_
          refine G_iret (pc := 42) dX11_does_42 rfl ?_
          exact ⟨by unfold aDoes; first | rw [if_neg (by omega)] | rw [if_pos (by omega), if_pos (by omega)] | rw [if_pos (by omega), if_neg (by omega), if_pos (by omega)] | rw [if_pos (by omega), if_neg (by omega), if_neg (by omega)], Off.rfl, Off.rfl, hC⟩
theorem x_left (s : Int) (hM : 71 ≤ M) (hC : CI I n tx hs C kn K) (hW : WF n tx hs C kn K) (rs : Ri s) : FnQ E mdX11_left 8 M Rf [vr E 0, vi s] I J (CQ I J (aLeft hs C s) n tx hs C kn K) := by
  have hH := hC.2.1
  obtain ⟨-, -, hB, -, -, hRB, -⟩ := id hW
  refine FnQ.of (by decide +kernel) (Nat.le_of_ble_eq_true rfl) ?_
  show GM E mdX11_left 8 M Rf _ I J 0 [some (vr E 0), some (vi s)] []
  have bS := hB.1
  refine G_iload_n (pc := 0) dX11_left_0 rfl ?_
  refine G_iconst (pc := 1) dX11_left_1 ?_
  refine G_icmp_eq (pc := 2) (tgt := 18) dX11_left_2 (by first | exact bI_R | exact rs) (Ri.mk (by omega) (by omega)) (by decide) (fun h_2 => ?_) (fun h_2 => ?_)
  · refine G_aload_n (pc := 18) dX11_left_18 rfl ?_
    refine G_getr (pc := 19) dX11_left_19 fiX11_60 (by first | rfl | assumption) (by omega) (by first | rfl | assumption) ?_
    refine G_aload_n (pc := 22) dX11_left_22 rfl ?_
    refine G_getr (pc := 23) dX11_left_23 fiX11_26 (by first | rfl | assumption) (by omega) (by first | rfl | assumption) ?_
    refine G_getr (pc := 26) dX11_left_26 fiX11_126 (by first | rfl | assumption) (by omega) (by first | rfl | assumption) ?_
    refine G_callV0 (pc := 29) (md := mdX8_pass) (av := [_]) dX11_left_29 lkX11_169 mwX8_pass (c_pass 53 13 (Or.inl rfl) (Or.inl rfl) hM hH hB hC.2.2.1 hRB) rfl (by first | rfl | assumption) (by omega) rfl rfl (Nat.le_of_ble_eq_true rfl) (by decide) ⟨Nat.zero_le _, Nat.zero_le _⟩ ?_
    refine G_iload_n (pc := 32) dX11_left_32 rfl ?_
    refine G_iconst (pc := 33) dX11_left_33 ?_
    refine G_icmp_ne (pc := 34) (tgt := 47) dX11_left_34 (by first | exact bI_R | exact rs) (Ri.mk (by omega) (by omega)) (by decide) (fun h_34 => ?_) (fun h_34 => ?_)
    · refine G_aload_n (pc := 47) dX11_left_47 rfl ?_
      refine G_getr (pc := 48) dX11_left_48 fiX11_60 (by first | rfl | assumption) (by omega) (by first | rfl | assumption) ?_
      refine G_iload_n (pc := 51) dX11_left_51 rfl ?_
      refine G_callV1 (pc := 52) (md := mdX8_remaining) (av := [_]) dX11_left_52 lkX11_176 mwX8_remaining (FnQ.av (by rw [Int.toNat_of_nonneg (show 0 ≤ s by omega)]) (c_remaining 53 s.toNat (lf hs C s.toNat : Int) (Or.inl rfl) hM (by omega) (seJ_s (by omega)))) rfl (by first | rfl | assumption) (by omega) rfl rfl (Nat.le_of_ble_eq_true rfl) (by decide) ⟨Nat.zero_le _, Nat.zero_le _⟩ ?_
      refine G_l2i (pc := 55) dX11_left_55 ?_
      refine G_iret (pc := 56) dX11_left_56 rfl ?_
      first | (exfalso; omega) | exact ⟨by unfold aLeft; first | rw [if_pos (by omega)] | rw [if_neg (by omega), if_pos (by omega)] | rw [if_neg (by omega), if_neg (by omega)], Off.rfl, by first | exact Off.rfl | exact fun q hq => seJ_o (by omega), hC⟩
    · refine G_aload_n (pc := 37) dX11_left_37 rfl ?_
      refine G_getr (pc := 38) dX11_left_38 fiX11_60 (by first | rfl | assumption) (by omega) (by first | rfl | assumption) ?_
      refine G_callV1 (pc := 41) (md := mdX8_together) (av := []) dX11_left_41 lkX11_172 mwX8_together (c_together (f := lf hs C) 53 (Or.inl rfl) hM hH hB (fun s hs' => seJ_s hs')) rfl (by first | rfl | assumption) (by omega) rfl rfl (Nat.le_of_ble_eq_true rfl) (by decide) ⟨Nat.zero_le _, Nat.zero_le _⟩ ?_
      refine G_goto (pc := 44) (tgt := 55) dX11_left_44 (by decide) ?_
      refine G_l2i (pc := 55) dX11_left_55 ?_
      refine G_iret (pc := 56) dX11_left_56 rfl ?_
      first | (exfalso; omega) | exact ⟨by unfold aLeft; first | rw [if_pos (by omega)] | rw [if_neg (by omega), if_pos (by omega)] | rw [if_neg (by omega), if_neg (by omega)], Off.rfl, by first | exact Off.rfl | exact fun q hq => seJ_o (by omega), hC⟩
  · refine G_aload_n (pc := 5) dX11_left_5 rfl ?_
    refine G_getr (pc := 6) dX11_left_6 fiX11_19 (by first | rfl | assumption) (by omega) (by first | rfl | assumption) ?_
    refine G_iload_n (pc := 9) dX11_left_9 rfl ?_
    refine G_callV1 (pc := 10) (md := mdX4_hasSort) (av := [_]) dX11_left_10 lkX11_148 mwX4_hasSort (c_hasSort 3 s (Or.inl rfl) hM hH hB rs) rfl (by first | rfl | assumption) (by omega) rfl rfl (Nat.le_of_ble_eq_true rfl) (by decide) ⟨Nat.zero_le _, Nat.zero_le _⟩ ?_
    refine G_if_ne (pc := 13) (tgt := 18) dX11_left_13 (by first | exact bI_R | exact rs) (by decide) (fun h_13 => ?_) (fun h_13 => ?_)
    · try simp only [bI_eq0, bI_ne0] at h_13
      refine G_aload_n (pc := 18) dX11_left_18 rfl ?_
      refine G_getr (pc := 19) dX11_left_19 fiX11_60 (by first | rfl | assumption) (by omega) (by first | rfl | assumption) ?_
      refine G_aload_n (pc := 22) dX11_left_22 rfl ?_
      refine G_getr (pc := 23) dX11_left_23 fiX11_26 (by first | rfl | assumption) (by omega) (by first | rfl | assumption) ?_
      refine G_getr (pc := 26) dX11_left_26 fiX11_126 (by first | rfl | assumption) (by omega) (by first | rfl | assumption) ?_
      refine G_callV0 (pc := 29) (md := mdX8_pass) (av := [_]) dX11_left_29 lkX11_169 mwX8_pass (c_pass 53 13 (Or.inl rfl) (Or.inl rfl) hM hH hB hC.2.2.1 hRB) rfl (by first | rfl | assumption) (by omega) rfl rfl (Nat.le_of_ble_eq_true rfl) (by decide) ⟨Nat.zero_le _, Nat.zero_le _⟩ ?_
      refine G_iload_n (pc := 32) dX11_left_32 rfl ?_
      refine G_iconst (pc := 33) dX11_left_33 ?_
      refine G_icmp_ne (pc := 34) (tgt := 47) dX11_left_34 (by first | exact bI_R | exact rs) (Ri.mk (by omega) (by omega)) (by decide) (fun h_34 => ?_) (fun h_34 => ?_)
      · refine G_aload_n (pc := 47) dX11_left_47 rfl ?_
        refine G_getr (pc := 48) dX11_left_48 fiX11_60 (by first | rfl | assumption) (by omega) (by first | rfl | assumption) ?_
        refine G_iload_n (pc := 51) dX11_left_51 rfl ?_
        refine G_callV1 (pc := 52) (md := mdX8_remaining) (av := [_]) dX11_left_52 lkX11_176 mwX8_remaining (FnQ.av (by rw [Int.toNat_of_nonneg (show 0 ≤ s by omega)]) (c_remaining 53 s.toNat (lf hs C s.toNat : Int) (Or.inl rfl) hM (by omega) (seJ_s (by omega)))) rfl (by first | rfl | assumption) (by omega) rfl rfl (Nat.le_of_ble_eq_true rfl) (by decide) ⟨Nat.zero_le _, Nat.zero_le _⟩ ?_
        refine G_l2i (pc := 55) dX11_left_55 ?_
        refine G_iret (pc := 56) dX11_left_56 rfl ?_
        first | (exfalso; omega) | exact ⟨by unfold aLeft; first | rw [if_pos (by omega)] | rw [if_neg (by omega), if_pos (by omega)] | rw [if_neg (by omega), if_neg (by omega)], Off.rfl, by first | exact Off.rfl | exact fun q hq => seJ_o (by omega), hC⟩
      · refine G_aload_n (pc := 37) dX11_left_37 rfl ?_
        refine G_getr (pc := 38) dX11_left_38 fiX11_60 (by first | rfl | assumption) (by omega) (by first | rfl | assumption) ?_
        refine G_callV1 (pc := 41) (md := mdX8_together) (av := []) dX11_left_41 lkX11_172 mwX8_together (c_together (f := lf hs C) 53 (Or.inl rfl) hM hH hB (fun s hs' => seJ_s hs')) rfl (by first | rfl | assumption) (by omega) rfl rfl (Nat.le_of_ble_eq_true rfl) (by decide) ⟨Nat.zero_le _, Nat.zero_le _⟩ ?_
        refine G_goto (pc := 44) (tgt := 55) dX11_left_44 (by decide) ?_
        refine G_l2i (pc := 55) dX11_left_55 ?_
        refine G_iret (pc := 56) dX11_left_56 rfl ?_
        first | (exfalso; omega) | exact ⟨by unfold aLeft; first | rw [if_pos (by omega)] | rw [if_neg (by omega), if_pos (by omega)] | rw [if_neg (by omega), if_neg (by omega)], Off.rfl, by first | exact Off.rfl | exact fun q hq => seJ_o (by omega), hC⟩
    · try simp only [bI_eq0, bI_ne0] at h_13
      refine G_iconst (pc := 16) dX11_left_16 ?_
      refine G_iret (pc := 17) dX11_left_17 rfl ?_
      first | (exfalso; omega) | exact ⟨by unfold aLeft; first | rw [if_pos (by omega)] | rw [if_neg (by omega), if_pos (by omega)] | rw [if_neg (by omega), if_neg (by omega)], Off.rfl, by first | exact Off.rfl | exact fun q hq => seJ_o (by omega), hC⟩
theorem x_share (s : Int) (hM : 71 ≤ M) (hC : CI I n tx hs C kn K) (hW : WF n tx hs C kn K) (rs : Ri s) : FnQ E mdX11_share 8 M Rf [vr E 0, vi s] I J (CQ I J (aShare hs C s) n tx hs C kn K) := by
  have hH := hC.2.1
  obtain ⟨-, -, hB, -, -, hRB, -⟩ := id hW
  have bS := hB.1
  have b5 := hB.2.2.2.2.1
  have hlf : ∀ s, s < zS hs → lf hs C s ≤ 60000000 := fun s h => by
    have h1 := lf_le hs C s
    have h2 := (b5 s h).2.1
    omega
  have hsl := sumN_le hlf
  refine FnQ.of (by decide +kernel) (Nat.le_of_ble_eq_true rfl) ?_
  show GM E mdX11_share 8 M Rf _ I J 0 [some (vr E 0), some (vi s), none, none] []
  refine G_aload_n (pc := 0) dX11_share_0 rfl ?_
  refine G_getr (pc := 1) dX11_share_1 fiX11_19 (by first | rfl | assumption) (by omega) (by first | rfl | assumption) ?_
  refine G_iload_n (pc := 4) dX11_share_4 rfl ?_
  refine G_callV1 (pc := 5) (md := mdX4_hasSort) (av := [_]) dX11_share_5 lkX11_148 mwX4_hasSort (c_hasSort 3 s (Or.inl rfl) hM hH hB rs) rfl (by first | rfl | assumption) (by omega) rfl rfl (Nat.le_of_ble_eq_true rfl) (by decide) ⟨Nat.zero_le _, Nat.zero_le _⟩ ?_
  refine G_if_ne (pc := 8) (tgt := 13) dX11_share_8 (by first | exact bI_R | exact rs) (by decide) (fun h_8 => ?_) (fun h_8 => ?_)
  · try simp only [bI_eq0, bI_ne0] at h_8
    refine G_aload_n (pc := 13) dX11_share_13 rfl ?_
    refine G_getr (pc := 14) dX11_share_14 fiX11_60 (by first | rfl | assumption) (by omega) (by first | rfl | assumption) ?_
    refine G_aload_n (pc := 17) dX11_share_17 rfl ?_
    refine G_getr (pc := 18) dX11_share_18 fiX11_26 (by first | rfl | assumption) (by omega) (by first | rfl | assumption) ?_
    refine G_getr (pc := 21) dX11_share_21 fiX11_126 (by first | rfl | assumption) (by omega) (by first | rfl | assumption) ?_
    refine G_callV0 (pc := 24) (md := mdX8_pass) (av := [_]) dX11_share_24 lkX11_169 mwX8_pass (c_pass 53 13 (Or.inl rfl) (Or.inl rfl) hM hH hB hC.2.2.1 hRB) rfl (by first | rfl | assumption) (by omega) rfl rfl (Nat.le_of_ble_eq_true rfl) (by decide) ⟨Nat.zero_le _, Nat.zero_le _⟩ ?_
    refine G_aload_n (pc := 27) dX11_share_27 rfl ?_
    refine G_getr (pc := 28) dX11_share_28 fiX11_60 (by first | rfl | assumption) (by omega) (by first | rfl | assumption) ?_
    refine G_callV1 (pc := 31) (md := mdX8_together) (av := []) dX11_share_31 lkX11_172 mwX8_together (c_together (f := lf hs C) 53 (Or.inl rfl) hM hH hB (fun s hs' => seJ_s hs')) rfl (by first | rfl | assumption) (by omega) rfl rfl (Nat.le_of_ble_eq_true rfl) (by decide) ⟨Nat.zero_le _, Nat.zero_le _⟩ ?_
    refine G_lstore_n (pc := 34) (lv' := [_, _, _, _]) dX11_share_34 (by decide) rfl ?_
    refine G_lload_n (pc := 35) dX11_share_35 rfl ?_
    refine G_lconst (pc := 36) dX11_share_36 ?_
    refine G_lc_ne (pc := 37) (tgt := 46) dX11_share_37 dX11_share_38 (Rl.mk (by omega) (by omega)) (Rl.mk (by omega) (by omega)) (by decide) (fun h_37 => ?_) (fun h_37 => ?_)
    · refine G_ldc2 (pc := 46) dX11_share_46 klX11_180 ?_
      refine G_aload_n (pc := 49) dX11_share_49 rfl ?_
      refine G_getr (pc := 50) dX11_share_50 fiX11_60 (by first | rfl | assumption) (by omega) (by first | rfl | assumption) ?_
      refine G_iload_n (pc := 53) dX11_share_53 rfl ?_
      refine G_callV1 (pc := 54) (md := mdX8_remaining) (av := [_]) dX11_share_54 lkX11_176 mwX8_remaining (FnQ.av (by rw [Int.toNat_of_nonneg (show 0 ≤ s by omega)]) (c_remaining 53 s.toNat (lf hs C s.toNat : Int) (Or.inl rfl) hM (by omega) (seJ_s (by omega)))) rfl (by first | rfl | assumption) (by omega) rfl rfl (Nat.le_of_ble_eq_true rfl) (by decide) ⟨Nat.zero_le _, Nat.zero_le _⟩ ?_
      refine G_lmul (pc := 57) dX11_share_57 ?_
      refine G_lload_n (pc := 58) dX11_share_58 rfl ?_
      have hl1 := hlf s.toNat (by omega)
      refine G_ldiv (pc := 59) dX11_share_59 (Rl.mk (by omega) (by omega)) (Rl.mk (by omega) (by omega)) (by omega) ?_
      refine G_l2i (pc := 60) dX11_share_60 ?_
      refine G_iret (pc := 61) dX11_share_61 rfl ?_
      exact ⟨by unfold aShare; first | rw [if_neg (by omega)] | rw [if_pos (by omega), if_pos (by omega)] | (rw [if_pos (by omega), if_neg (by omega), Int.ofNat_tdiv, Int.natCast_mul]; rfl), Off.rfl, by first | exact Off.rfl | exact fun q hq => seJ_o (by omega), hC⟩
    · refine G_bipush (pc := 41) dX11_share_41 (by decide) ?_
      refine G_goto (pc := 43) (tgt := 61) dX11_share_43 (by decide) ?_
      refine G_iret (pc := 61) dX11_share_61 rfl ?_
      exact ⟨by unfold aShare; first | rw [if_neg (by omega)] | rw [if_pos (by omega), if_pos (by omega)] | (rw [if_pos (by omega), if_neg (by omega), Int.ofNat_tdiv, Int.natCast_mul]; rfl), Off.rfl, by first | exact Off.rfl | exact fun q hq => seJ_o (by omega), hC⟩
  · try simp only [bI_eq0, bI_ne0] at h_8
    refine G_iconst (pc := 11) dX11_share_11 ?_
    refine G_iret (pc := 12) dX11_share_12 rfl ?_
    exact ⟨by unfold aShare; first | rw [if_neg (by omega)] | rw [if_pos (by omega), if_pos (by omega)] | (rw [if_pos (by omega), if_neg (by omega), Int.ofNat_tdiv, Int.natCast_mul]; rfl), Off.rfl, by first | exact Off.rfl | exact fun q hq => seJ_o (by omega), hC⟩
theorem x_bent (w : Int) (hM : 71 ≤ M) (hC : CI I n tx hs C kn K) (hW : WF n tx hs C kn K) (rw_ : Ri w) : FnQ E mdX11_bent 8 M Rf [vr E 0, vi w] I J (CQ I J (aBent hs C w) n tx hs C kn K) := by
  have hH := hC.2.1
  obtain ⟨-, -, hB, h0S, -, hRB, -⟩ := id hW
  have b5 := hB.2.2.2.2.1
  have hlf : ∀ s, s < zS hs → lf hs C s ≤ 60000000 := fun s h => by
    have h1 := lf_le hs C s
    have h2 := (b5 s h).2.1
    omega
  have hN : 0 < zN hs := by
    have h1 := sumN_term (f := hs 0) h0S
    have h2 := (b5 0 h0S).1
    rw [hB.2.2.2.1]
    omega
  refine FnQ.of (by decide +kernel) (Nat.le_of_ble_eq_true rfl) ?_
  show GM E mdX11_bent 8 M Rf _ I J 0 [some (vr E 0), some (vi w)] []
  refine G_iload_n (pc := 0) dX11_bent_0 rfl ?_
  refine G_iconst (pc := 1) dX11_bent_1 ?_
  refine G_iconst (pc := 2) dX11_bent_2 ?_
  refine G_callS1 (pc := 3) (md := mdX11_within) (av := [_, _, _]) dX11_bent_3 lkX11_101 mwX11_within (c_within _ _ _ rw_ (Ri.mk (by omega) (by omega)) (Ri.mk (by omega) (by omega))) rfl rfl (Nat.le_of_ble_eq_true rfl) (by decide) ⟨Nat.zero_le _, Nat.zero_le _⟩ ?_
  refine G_if_ne (pc := 6) (tgt := 11) dX11_bent_6 (by first | exact bI_R | exact rw_) (by decide) (fun h_6 => ?_) (fun h_6 => ?_)
  · try simp only [bI_eq0, bI_ne0] at h_6
    refine G_iload_n (pc := 11) dX11_bent_11 rfl ?_
    refine G_if_ne (pc := 12) (tgt := 23) dX11_bent_12 (by first | exact bI_R | exact rw_) (by decide) (fun h_12 => ?_) (fun h_12 => ?_)
    · try simp only [bI_eq0, bI_ne0] at h_12
      refine G_aload_n (pc := 23) dX11_bent_23 rfl ?_
      refine G_getr (pc := 24) dX11_bent_24 fiX11_60 (by first | rfl | assumption) (by omega) (by first | rfl | assumption) ?_
      refine G_aload_n (pc := 27) dX11_bent_27 rfl ?_
      refine G_getr (pc := 28) dX11_bent_28 fiX11_26 (by first | rfl | assumption) (by omega) (by first | rfl | assumption) ?_
      refine G_getr (pc := 31) dX11_bent_31 fiX11_126 (by first | rfl | assumption) (by omega) (by first | rfl | assumption) ?_
      refine G_callV0 (pc := 34) (md := mdX8_pass) (av := [_]) dX11_bent_34 lkX11_169 mwX8_pass (c_pass 53 13 (Or.inl rfl) (Or.inl rfl) hM hH hB hC.2.2.1 hRB) rfl (by first | rfl | assumption) (by omega) rfl rfl (Nat.le_of_ble_eq_true rfl) (by decide) ⟨Nat.zero_le _, Nat.zero_le _⟩ ?_
      refine G_aload_n (pc := 37) dX11_bent_37 rfl ?_
      refine G_getr (pc := 38) dX11_bent_38 fiX11_60 (by first | rfl | assumption) (by omega) (by first | rfl | assumption) ?_
      refine G_callV1 (pc := 41) (md := mdX8_meanBent) (av := []) dX11_bent_41 lkX11_186 mwX8_meanBent (c_SmeanBent (f := lf hs C) 53 (Or.inl rfl) hM hH hB (fun s hs' => seJ_s hs') hlf) rfl (by first | rfl | assumption) (by omega) rfl rfl (Nat.le_of_ble_eq_true rfl) (by decide) ⟨Nat.zero_le _, Nat.zero_le _⟩ ?_
      refine G_iret (pc := 44) dX11_bent_44 rfl ?_
      exact ⟨by unfold aBent; first | rw [if_neg (show ¬ w = 0 by omega), if_neg (show ¬ w = 1 by omega)] | rw [if_pos (show w = 0 by omega)] | rw [if_neg (show ¬ w = 0 by omega), if_pos (show w = 1 by omega)], Off.rfl, by first | exact Off.rfl | exact fun q hq => seJ_o (by omega), hC⟩
    · try simp only [bI_eq0, bI_ne0] at h_12
      refine G_aload_n (pc := 15) dX11_bent_15 rfl ?_
      refine G_getr (pc := 16) dX11_bent_16 fiX11_19 (by first | rfl | assumption) (by omega) (by first | rfl | assumption) ?_
      refine G_callV1 (pc := 19) (md := mdX4_meanBent) (av := []) dX11_bent_19 lkX11_182 mwX4_meanBent (c_meanBent 3 (Or.inl rfl) hM hH hB hN) rfl (by first | rfl | assumption) (by omega) rfl rfl (Nat.le_of_ble_eq_true rfl) (by decide) ⟨Nat.zero_le _, Nat.zero_le _⟩ ?_
      refine G_iret (pc := 22) dX11_bent_22 rfl ?_
      exact ⟨by unfold aBent; first | rw [if_neg (show ¬ w = 0 by omega), if_neg (show ¬ w = 1 by omega)] | rw [if_pos (show w = 0 by omega)] | rw [if_neg (show ¬ w = 0 by omega), if_pos (show w = 1 by omega)], Off.rfl, by first | exact Off.rfl | exact fun q hq => seJ_o (by omega), hC⟩
  · try simp only [bI_eq0, bI_ne0] at h_6
    refine G_iconst (pc := 9) dX11_bent_9 ?_
    refine G_iret (pc := 10) dX11_bent_10 rfl ?_
    exact ⟨by unfold aBent; first | rw [if_neg (show ¬ w = 0 by omega), if_neg (show ¬ w = 1 by omega)] | rw [if_pos (show w = 0 by omega)] | rw [if_neg (show ¬ w = 0 by omega), if_pos (show w = 1 by omega)], Off.rfl, by first | exact Off.rfl | exact fun q hq => seJ_o (by omega), hC⟩
theorem x_odds (c : Int) (hM : 71 ≤ M) (hC : CI I n tx hs C kn K) (hW : WF n tx hs C kn K) (rc : Ri c) : FnQ E mdX11_odds 8 M Rf [vr E 0, vi c] I J (CQ I J (aOdds hs C c) n tx hs C kn K) := by
  have hH := hC.2.1
  obtain ⟨-, -, hB, -, -, hRB, -⟩ := id hW
  refine FnQ.of (by decide +kernel) (Nat.le_of_ble_eq_true rfl) ?_
  show GM E mdX11_odds 8 M Rf _ I J 0 [some (vr E 0), some (vi c)] []
  refine G_iload_n (pc := 0) dX11_odds_0 rfl ?_
  refine G_iconst (pc := 1) dX11_odds_1 ?_
  refine G_bipush (pc := 2) dX11_odds_2 (by decide) ?_
  refine G_callS1 (pc := 4) (md := mdX11_within) (av := [_, _, _]) dX11_odds_4 lkX11_101 mwX11_within (c_within _ _ _ rc (Ri.mk (by omega) (by omega)) (Ri.mk (by omega) (by omega))) rfl rfl (Nat.le_of_ble_eq_true rfl) (by decide) ⟨Nat.zero_le _, Nat.zero_le _⟩ ?_
  refine G_if_ne (pc := 7) (tgt := 12) dX11_odds_7 (by first | exact bI_R | exact rc) (by decide) (fun h_7 => ?_) (fun h_7 => ?_)
  · try simp only [bI_eq0, bI_ne0] at h_7
    refine G_aload_n (pc := 12) dX11_odds_12 rfl ?_
    refine G_getr (pc := 13) dX11_odds_13 fiX11_60 (by first | rfl | assumption) (by omega) (by first | rfl | assumption) ?_
    refine G_aload_n (pc := 16) dX11_odds_16 rfl ?_
    refine G_getr (pc := 17) dX11_odds_17 fiX11_26 (by first | rfl | assumption) (by omega) (by first | rfl | assumption) ?_
    refine G_getr (pc := 20) dX11_odds_20 fiX11_126 (by first | rfl | assumption) (by omega) (by first | rfl | assumption) ?_
    refine G_callV0 (pc := 23) (md := mdX8_pass) (av := [_]) dX11_odds_23 lkX11_169 mwX8_pass (c_pass 53 13 (Or.inl rfl) (Or.inl rfl) hM hH hB hC.2.2.1 hRB) rfl (by first | rfl | assumption) (by omega) rfl rfl (Nat.le_of_ble_eq_true rfl) (by decide) ⟨Nat.zero_le _, Nat.zero_le _⟩ ?_
    refine G_aload_n (pc := 26) dX11_odds_26 rfl ?_
    refine G_getr (pc := 27) dX11_odds_27 fiX11_60 (by first | rfl | assumption) (by omega) (by first | rfl | assumption) ?_
    refine G_iload_n (pc := 30) dX11_odds_30 rfl ?_
    refine G_callV1 (pc := 31) (md := mdX8_chance) (av := [_]) dX11_odds_31 lkX11_187 mwX8_chance (FnQ.av (by rw [Int.toNat_of_nonneg (show 0 ≤ c by omega)]) (c_chance (f := lf hs C) 53 c.toNat (Or.inl rfl) hM hH hB (by omega) (fun s hs' => seJ_s hs') (fun s _ => lf_le hs C s))) rfl (by first | rfl | assumption) (by omega) rfl rfl (Nat.le_of_ble_eq_true rfl) (by decide) ⟨Nat.zero_le _, Nat.zero_le _⟩ ?_
    refine G_iret (pc := 34) dX11_odds_34 rfl ?_
    exact ⟨by unfold aOdds; rw [if_pos (by omega)]; rfl, Off.rfl, fun q hq => by simp (disch := omega) only [seJ_o], hC⟩
  · try simp only [bI_eq0, bI_ne0] at h_7
    refine G_iconst (pc := 10) dX11_odds_10 ?_
    refine G_iret (pc := 11) dX11_odds_11 rfl ?_
    exact ⟨by unfold aOdds; rw [if_neg (by omega)], Off.rfl, Off.rfl, hC⟩
end COMP
