/-! THE REFERENCE'S CALLS, second: the state's changes -/
theorem TM.n {I : Nat → Nat → Int} {j : Nat} {C : CS} (h : TM I j C) {x : Int} (hx : x = j) : I 81 x.toNat = C 3 0 := by subst hx; rw [Int.toNat_natCast]; exact h.1
theorem TM.g {I : Nat → Nat → Int} {j : Nat} {C : CS} (h : TM I j C) {x : Int} (t i : Nat) (ht : t < C 3 0) (hi : 4 ≤ i ∧ i < 8) (hx : x = ((12 * j + 4 * t + (i - 4) : Nat) : Int)) : I 82 x.toNat = C i t := by
  subst hx; rw [Int.toNat_natCast]
  obtain ⟨h1, h2, h3, h4⟩ := h.2 t ht
  rcases (show i = 4 ∨ i = 5 ∨ i = 6 ∨ i = 7 by omega) with rfl | rfl | rfl | rfl
  · exact h1
  · exact h2
  · exact h3
  · exact h4
/-- only the course's own slot is changed -/
theorem MI.co {I I' : Nat → Nat → Int} {n : Nat} {tx : Nat → Int} {hs : HS} {C C' : CS} {kn : Nat} {K : Nat → CS} (h : MI I n tx hs C kn K) (h0 : I' 71 0 = I 71 0) (h10 : I' 71 10 = I 71 10) (hI : ∀ q, 72 ≤ q → q ≤ 78 → I' q = I q) (h79 : ∀ x, 1 ≤ x → I' 79 x = I 79 x) (h80 : ∀ x, 16 ≤ x → I' 80 x = I 80 x) (h81 : ∀ x, 1 ≤ x → I' 81 x = I 81 x) (h82 : ∀ x, 12 ≤ x → I' 82 x = I 82 x) (hR : RM I' 0 C') (hT : TM I' 0 C') : MI I' n tx hs C' kn K := by
  obtain ⟨h1, h2, h3, h4, h5, h6, h7⟩ := h
  have o : ∀ j C, 1 ≤ j → RM I j C ∧ TM I j C → RM I' j C ∧ TM I' j C := fun j C hj z => ⟨⟨by rw [h79 j hj]; exact z.1.1, fun t ht => by rw [h80 _ (by omega), h80 _ (by omega)]; exact z.1.2 t ht⟩, ⟨by rw [h81 j hj]; exact z.2.1, fun t ht => by rw [h82 _ (by omega), h82 _ (by omega), h82 _ (by omega), h82 _ (by omega)]; exact z.2.2 t ht⟩⟩
  exact ⟨⟨by rw [h0]; exact h1.1, fun i hi => by rw [hI 72 (by omega) (by omega)]; exact h1.2 i hi⟩, h2.off fun q a b => hI q (by omega) (by omega), hR, hT, by rw [h10]; exact h5, fun z => o _ _ (by omega) (h6 z), fun z => o _ _ (by omega) (h7 z)⟩
section MOD4
variable {E : EV} {M : Nat} {I J : Nat → Nat → Int} {n : Nat} {tx : Nat → Int} {hs : HS} {C : CS} {kn : Nat} {K : Nat → CS}
theorem y_wipe (hM : 87 ≤ M) (hC : MI I n tx hs C kn K) (hW : WF n tx hs C kn K) : FnQ E mdX12_wipe 8 M Rf [vr E 71] I J (MQ' I J (n : Int) 0 tx hs C kn K) := by
  have v1 := hC.1.1
  refine FnQ.of (by decide +kernel) (Nat.le_of_ble_eq_true rfl) ?_
  show GM E mdX12_wipe 8 M Rf _ I J 0 [some (vr E 71), none] []
  refine G_aload_n (pc := 0) dX12_wipe_0 rfl ?_
  refine G_getiv (pc := 1) dX12_wipe_1 fiX12_70 (by first | rfl | assumption) (by omega) (v1) ?_
  refine G_istore_n (pc := 4) (lv' := [_, _]) dX12_wipe_4 (by decide) rfl ?_
  refine G_aload_n (pc := 5) dX12_wipe_5 rfl ?_
  refine G_iconst (pc := 6) dX12_wipe_6 ?_
  refine G_puti (pc := 7) dX12_wipe_7 fiX12_70 (by first | rfl | assumption) (by omega) ?_
  refine G_iload_n (pc := 10) dX12_wipe_10 rfl ?_
  refine G_iret (pc := 11) dX12_wipe_11 rfl ?_
  have hC' : MI (wr I 71 0 0) 0 tx hs C kn K := by
    have o : ∀ q, q ≠ 71 → wr I 71 0 (0 : Int) q = I q := fun q h => wr_o h
    obtain ⟨h1, h2, h3, h4, h5, h6, h7⟩ := hC
    have oo : ∀ j C, RM I j C ∧ TM I j C → RM (wr I 71 0 0) j C ∧ TM (wr I 71 0 0) j C := fun j C z => ⟨z.1.off (o _ (by omega)) (o _ (by omega)), z.2.off (o _ (by omega)) (o _ (by omega))⟩
    exact ⟨⟨wr_s, fun i hi => absurd hi (Nat.not_lt_zero _)⟩, h2.off fun q a b => o q (by omega), (oo 0 C ⟨h3, h4⟩).1, (oo 0 C ⟨h3, h4⟩).2, by rw [wr_n (by decide)]; exact h5, fun z => oo _ _ (h6 z), fun z => oo _ _ (h7 z)⟩
  exact ⟨rfl, Off.rfl.set (by omega) (by omega), Off.rfl, hC'⟩
theorem y_noRow (hM : 87 ≤ M) (hC : MI I n tx hs C kn K) (hW : WF n tx hs C kn K) : FnQ E mdX12_noRow 8 M Rf [vr E 71] I J (MQS I J (C 0 0) (sNoRow (n, tx, hs, C, kn, K))) := by
  have hR := hC.2.2.1
  refine FnQ.of (by decide +kernel) (Nat.le_of_ble_eq_true rfl) ?_
  show GM E mdX12_noRow 8 M Rf _ I J 0 [some (vr E 71), none] []
  refine G_aload_n (pc := 0) dX12_noRow_0 rfl ?_
  refine G_getr (pc := 1) dX12_noRow_1 fiX12_32 (by first | rfl | assumption) (by omega) (by first | rfl | assumption) ?_
  refine G_iconst (pc := 4) dX12_noRow_4 ?_
  refine G_ialdv (pc := 5) dX12_noRow_5 (by first | rfl | assumption) (by omega) (by omega) (by omega) (by omega) (hR.n rfl) ?_
  refine G_istore_n (pc := 6) (lv' := [_, _]) dX12_noRow_6 (by decide) rfl ?_
  refine G_aload_n (pc := 7) dX12_noRow_7 rfl ?_
  refine G_getr (pc := 8) dX12_noRow_8 fiX12_32 (by first | rfl | assumption) (by omega) (by first | rfl | assumption) ?_
  refine G_iconst (pc := 11) dX12_noRow_11 ?_
  refine G_iconst (pc := 12) dX12_noRow_12 ?_
  refine G_iast (pc := 13) dX12_noRow_13 (by first | rfl | assumption) (by omega) (by omega) (by omega) (by omega) ?_
  refine G_iload_n (pc := 14) dX12_noRow_14 rfl ?_
  refine G_iret (pc := 15) dX12_noRow_15 rfl ?_
  have e0 : (0 : Int).toNat = 0 := rfl
  rw [e0]
  exact ⟨rfl, Off.rfl.set (by omega) (by omega), Off.rfl, hC.co (C' := noR C) (by rw [wr_o (by decide)]) (by rw [wr_o (by decide)]) (fun q a b => wr_o (by omega)) (fun x hx => wr_n (by omega)) (fun x hx => by rw [wr_o (by decide)]) (fun x hx => by rw [wr_o (by decide)]) (fun x hx => by rw [wr_o (by decide)]) ⟨wr_s, fun t ht => absurd ht (Nat.not_lt_zero t)⟩ (hC.2.2.2.1.off (wr_o (by decide)) (wr_o (by decide)))⟩
theorem y_forget (hM : 87 ≤ M) (hC : MI I n tx hs C kn K) (hW : WF n tx hs C kn K) : FnQ E mdX12_forget 8 M Rf [vr E 71] I J (MQS I J (C 3 0) (sForget (n, tx, hs, C, kn, K))) := by
  have hT := hC.2.2.2.1
  refine FnQ.of (by decide +kernel) (Nat.le_of_ble_eq_true rfl) ?_
  show GM E mdX12_forget 8 M Rf _ I J 0 [some (vr E 71), none] []
  refine G_aload_n (pc := 0) dX12_forget_0 rfl ?_
  refine G_getr (pc := 1) dX12_forget_1 fiX12_38 (by first | rfl | assumption) (by omega) (by first | rfl | assumption) ?_
  refine G_iconst (pc := 4) dX12_forget_4 ?_
  refine G_ialdv (pc := 5) dX12_forget_5 (by first | rfl | assumption) (by omega) (by omega) (by omega) (by omega) (hT.n rfl) ?_
  refine G_istore_n (pc := 6) (lv' := [_, _]) dX12_forget_6 (by decide) rfl ?_
  refine G_aload_n (pc := 7) dX12_forget_7 rfl ?_
  refine G_getr (pc := 8) dX12_forget_8 fiX12_38 (by first | rfl | assumption) (by omega) (by first | rfl | assumption) ?_
  refine G_iconst (pc := 11) dX12_forget_11 ?_
  refine G_iconst (pc := 12) dX12_forget_12 ?_
  refine G_iast (pc := 13) dX12_forget_13 (by first | rfl | assumption) (by omega) (by omega) (by omega) (by omega) ?_
  refine G_iload_n (pc := 14) dX12_forget_14 rfl ?_
  refine G_iret (pc := 15) dX12_forget_15 rfl ?_
  have e0 : (0 : Int).toNat = 0 := rfl
  rw [e0]
  exact ⟨rfl, Off.rfl.set (by omega) (by omega), Off.rfl, hC.co (C' := noT C) (by rw [wr_o (by decide)]) (by rw [wr_o (by decide)]) (fun q a b => wr_o (by omega)) (fun x hx => by rw [wr_o (by decide)]) (fun x hx => by rw [wr_o (by decide)]) (fun x hx => wr_n (by omega)) (fun x hx => by rw [wr_o (by decide)]) (hC.2.2.1.off (wr_o (by decide)) (wr_o (by decide))) ⟨wr_s, fun t ht => absurd ht (Nat.not_lt_zero t)⟩⟩
theorem y_count (w : Int) (hM : 87 ≤ M) (hC : MI I n tx hs C kn K) (hW : WF n tx hs C kn K) (rw_ : Ri w) : FnQ E mdX12_count 8 M Rf [vr E 71, vi w] I J (MQ' I J (aCount n hs C kn w) n tx hs C kn K) := by
  obtain ⟨h1, hH, h3, h4, h5, h6, h7⟩ := id hC
  have hB := hW.2.2.1
  refine FnQ.of (by decide +kernel) (Nat.le_of_ble_eq_true rfl) ?_
  show GM E mdX12_count 8 M Rf _ I J 0 [some (vr E 71), some (vi w)] []
  refine G_iload_n (pc := 0) dX12_count_0 rfl ?_
  refine G_if_ne (pc := 1) (tgt := 13) dX12_count_1 rw_ (by decide) (fun h_1 => ?_) (fun h_1 => ?_)
  · try simp only [bI_eq0, bI_ne0] at h_1
    refine G_iload_n (pc := 13) dX12_count_13 rfl ?_
    refine G_iconst (pc := 14) dX12_count_14 ?_
    refine G_icmp_ne (pc := 15) (tgt := 27) dX12_count_15 rw_ (Ri.mk (by omega) (by omega)) (by decide) (fun h_15 => ?_) (fun h_15 => ?_)
    · refine G_iload_n (pc := 27) dX12_count_27 rfl ?_
      refine G_iconst (pc := 28) dX12_count_28 ?_
      refine G_icmp_ne (pc := 29) (tgt := 40) dX12_count_29 rw_ (Ri.mk (by omega) (by omega)) (by decide) (fun h_29 => ?_) (fun h_29 => ?_)
      · refine G_iload_n (pc := 40) dX12_count_40 rfl ?_
        refine G_iconst (pc := 41) dX12_count_41 ?_
        refine G_icmp_ne (pc := 42) (tgt := 54) dX12_count_42 rw_ (Ri.mk (by omega) (by omega)) (by decide) (fun h_42 => ?_) (fun h_42 => ?_)
        · refine G_iload_n (pc := 54) dX12_count_54 rfl ?_
          refine G_iconst (pc := 55) dX12_count_55 ?_
          refine G_icmp_ne (pc := 56) (tgt := 66) dX12_count_56 rw_ (Ri.mk (by omega) (by omega)) (by decide) (fun h_56 => ?_) (fun h_56 => ?_)
          · refine G_iload_n (pc := 66) dX12_count_66 rfl ?_
            refine G_iconst (pc := 67) dX12_count_67 ?_
            refine G_icmp_ne (pc := 68) (tgt := 80) dX12_count_68 rw_ (Ri.mk (by omega) (by omega)) (by decide) (fun h_68 => ?_) (fun h_68 => ?_)
            · refine G_iload_n (pc := 80) dX12_count_80 rfl ?_
              refine G_bipush (pc := 81) dX12_count_81 (by decide) ?_
              refine G_icmp_ne (pc := 83) (tgt := 93) dX12_count_83 rw_ (Ri.mk (by omega) (by omega)) (by decide) (fun h_83 => ?_) (fun h_83 => ?_)
              · refine G_iconst (pc := 93) dX12_count_93 ?_
                refine G_iret (pc := 94) dX12_count_94 rfl ?_
                refine ⟨?_, Off.rfl, Off.rfl, hC⟩
                unfold aCount
                first
                  | rw [if_pos (show w = 0 by omega)]
                  | rw [if_neg (show ¬ w = 0 by omega), if_pos (show w = 1 by omega)]
                  | rw [if_neg (show ¬ w = 0 by omega), if_neg (show ¬ w = 1 by omega), if_pos (show w = 2 by omega)]
                  | rw [if_neg (show ¬ w = 0 by omega), if_neg (show ¬ w = 1 by omega), if_neg (show ¬ w = 2 by omega), if_pos (show w = 3 by omega)]
                  | rw [if_neg (show ¬ w = 0 by omega), if_neg (show ¬ w = 1 by omega), if_neg (show ¬ w = 2 by omega), if_neg (show ¬ w = 3 by omega), if_pos (show w = 4 by omega)]
                  | rw [if_neg (show ¬ w = 0 by omega), if_neg (show ¬ w = 1 by omega), if_neg (show ¬ w = 2 by omega), if_neg (show ¬ w = 3 by omega), if_neg (show ¬ w = 4 by omega), if_pos (show w = 5 by omega)]
                  | rw [if_neg (show ¬ w = 0 by omega), if_neg (show ¬ w = 1 by omega), if_neg (show ¬ w = 2 by omega), if_neg (show ¬ w = 3 by omega), if_neg (show ¬ w = 4 by omega), if_neg (show ¬ w = 5 by omega), if_pos (show w = 6 by omega)]
                  | rw [if_neg (show ¬ w = 0 by omega), if_neg (show ¬ w = 1 by omega), if_neg (show ¬ w = 2 by omega), if_neg (show ¬ w = 3 by omega), if_neg (show ¬ w = 4 by omega), if_neg (show ¬ w = 5 by omega), if_neg (show ¬ w = 6 by omega)]
              · refine G_aload_n (pc := 86) dX12_count_86 rfl ?_
                refine G_getiv (pc := 87) dX12_count_87 fiX12_109 (by first | rfl | assumption) (by omega) (h5) ?_
                refine G_goto (pc := 90) (tgt := 94) dX12_count_90 (by decide) ?_
                refine G_iret (pc := 94) dX12_count_94 rfl ?_
                refine ⟨?_, Off.rfl, Off.rfl, hC⟩
                unfold aCount
                first
                  | rw [if_pos (show w = 0 by omega)]
                  | rw [if_neg (show ¬ w = 0 by omega), if_pos (show w = 1 by omega)]
                  | rw [if_neg (show ¬ w = 0 by omega), if_neg (show ¬ w = 1 by omega), if_pos (show w = 2 by omega)]
                  | rw [if_neg (show ¬ w = 0 by omega), if_neg (show ¬ w = 1 by omega), if_neg (show ¬ w = 2 by omega), if_pos (show w = 3 by omega)]
                  | rw [if_neg (show ¬ w = 0 by omega), if_neg (show ¬ w = 1 by omega), if_neg (show ¬ w = 2 by omega), if_neg (show ¬ w = 3 by omega), if_pos (show w = 4 by omega)]
                  | rw [if_neg (show ¬ w = 0 by omega), if_neg (show ¬ w = 1 by omega), if_neg (show ¬ w = 2 by omega), if_neg (show ¬ w = 3 by omega), if_neg (show ¬ w = 4 by omega), if_pos (show w = 5 by omega)]
                  | rw [if_neg (show ¬ w = 0 by omega), if_neg (show ¬ w = 1 by omega), if_neg (show ¬ w = 2 by omega), if_neg (show ¬ w = 3 by omega), if_neg (show ¬ w = 4 by omega), if_neg (show ¬ w = 5 by omega), if_pos (show w = 6 by omega)]
                  | rw [if_neg (show ¬ w = 0 by omega), if_neg (show ¬ w = 1 by omega), if_neg (show ¬ w = 2 by omega), if_neg (show ¬ w = 3 by omega), if_neg (show ¬ w = 4 by omega), if_neg (show ¬ w = 5 by omega), if_neg (show ¬ w = 6 by omega)]
            · refine G_aload_n (pc := 71) dX12_count_71 rfl ?_
              refine G_getr (pc := 72) dX12_count_72 fiX12_38 (by first | rfl | assumption) (by omega) (by first | rfl | assumption) ?_
              refine G_iconst (pc := 75) dX12_count_75 ?_
              refine G_ialdv (pc := 76) dX12_count_76 (by first | rfl | assumption) (by omega) (by omega) (by omega) (by omega) (h4.n rfl) ?_
              refine G_goto (pc := 77) (tgt := 94) dX12_count_77 (by decide) ?_
              refine G_iret (pc := 94) dX12_count_94 rfl ?_
              refine ⟨?_, Off.rfl, Off.rfl, hC⟩
              unfold aCount
              first
                | rw [if_pos (show w = 0 by omega)]
                | rw [if_neg (show ¬ w = 0 by omega), if_pos (show w = 1 by omega)]
                | rw [if_neg (show ¬ w = 0 by omega), if_neg (show ¬ w = 1 by omega), if_pos (show w = 2 by omega)]
                | rw [if_neg (show ¬ w = 0 by omega), if_neg (show ¬ w = 1 by omega), if_neg (show ¬ w = 2 by omega), if_pos (show w = 3 by omega)]
                | rw [if_neg (show ¬ w = 0 by omega), if_neg (show ¬ w = 1 by omega), if_neg (show ¬ w = 2 by omega), if_neg (show ¬ w = 3 by omega), if_pos (show w = 4 by omega)]
                | rw [if_neg (show ¬ w = 0 by omega), if_neg (show ¬ w = 1 by omega), if_neg (show ¬ w = 2 by omega), if_neg (show ¬ w = 3 by omega), if_neg (show ¬ w = 4 by omega), if_pos (show w = 5 by omega)]
                | rw [if_neg (show ¬ w = 0 by omega), if_neg (show ¬ w = 1 by omega), if_neg (show ¬ w = 2 by omega), if_neg (show ¬ w = 3 by omega), if_neg (show ¬ w = 4 by omega), if_neg (show ¬ w = 5 by omega), if_pos (show w = 6 by omega)]
                | rw [if_neg (show ¬ w = 0 by omega), if_neg (show ¬ w = 1 by omega), if_neg (show ¬ w = 2 by omega), if_neg (show ¬ w = 3 by omega), if_neg (show ¬ w = 4 by omega), if_neg (show ¬ w = 5 by omega), if_neg (show ¬ w = 6 by omega)]
          · refine G_aload_n (pc := 59) dX12_count_59 rfl ?_
            refine G_getiv (pc := 60) dX12_count_60 fiX12_70 (by first | rfl | assumption) (by omega) (h1.1) ?_
            refine G_goto (pc := 63) (tgt := 94) dX12_count_63 (by decide) ?_
            refine G_iret (pc := 94) dX12_count_94 rfl ?_
            refine ⟨?_, Off.rfl, Off.rfl, hC⟩
            unfold aCount
            first
              | rw [if_pos (show w = 0 by omega)]
              | rw [if_neg (show ¬ w = 0 by omega), if_pos (show w = 1 by omega)]
              | rw [if_neg (show ¬ w = 0 by omega), if_neg (show ¬ w = 1 by omega), if_pos (show w = 2 by omega)]
              | rw [if_neg (show ¬ w = 0 by omega), if_neg (show ¬ w = 1 by omega), if_neg (show ¬ w = 2 by omega), if_pos (show w = 3 by omega)]
              | rw [if_neg (show ¬ w = 0 by omega), if_neg (show ¬ w = 1 by omega), if_neg (show ¬ w = 2 by omega), if_neg (show ¬ w = 3 by omega), if_pos (show w = 4 by omega)]
              | rw [if_neg (show ¬ w = 0 by omega), if_neg (show ¬ w = 1 by omega), if_neg (show ¬ w = 2 by omega), if_neg (show ¬ w = 3 by omega), if_neg (show ¬ w = 4 by omega), if_pos (show w = 5 by omega)]
              | rw [if_neg (show ¬ w = 0 by omega), if_neg (show ¬ w = 1 by omega), if_neg (show ¬ w = 2 by omega), if_neg (show ¬ w = 3 by omega), if_neg (show ¬ w = 4 by omega), if_neg (show ¬ w = 5 by omega), if_pos (show w = 6 by omega)]
              | rw [if_neg (show ¬ w = 0 by omega), if_neg (show ¬ w = 1 by omega), if_neg (show ¬ w = 2 by omega), if_neg (show ¬ w = 3 by omega), if_neg (show ¬ w = 4 by omega), if_neg (show ¬ w = 5 by omega), if_neg (show ¬ w = 6 by omega)]
        · refine G_aload_n (pc := 45) dX12_count_45 rfl ?_
          refine G_getr (pc := 46) dX12_count_46 fiX12_32 (by first | rfl | assumption) (by omega) (by first | rfl | assumption) ?_
          refine G_iconst (pc := 49) dX12_count_49 ?_
          refine G_ialdv (pc := 50) dX12_count_50 (by first | rfl | assumption) (by omega) (by omega) (by omega) (by omega) (h3.n rfl) ?_
          refine G_goto (pc := 51) (tgt := 94) dX12_count_51 (by decide) ?_
          refine G_iret (pc := 94) dX12_count_94 rfl ?_
          refine ⟨?_, Off.rfl, Off.rfl, hC⟩
          unfold aCount
          first
            | rw [if_pos (show w = 0 by omega)]
            | rw [if_neg (show ¬ w = 0 by omega), if_pos (show w = 1 by omega)]
            | rw [if_neg (show ¬ w = 0 by omega), if_neg (show ¬ w = 1 by omega), if_pos (show w = 2 by omega)]
            | rw [if_neg (show ¬ w = 0 by omega), if_neg (show ¬ w = 1 by omega), if_neg (show ¬ w = 2 by omega), if_pos (show w = 3 by omega)]
            | rw [if_neg (show ¬ w = 0 by omega), if_neg (show ¬ w = 1 by omega), if_neg (show ¬ w = 2 by omega), if_neg (show ¬ w = 3 by omega), if_pos (show w = 4 by omega)]
            | rw [if_neg (show ¬ w = 0 by omega), if_neg (show ¬ w = 1 by omega), if_neg (show ¬ w = 2 by omega), if_neg (show ¬ w = 3 by omega), if_neg (show ¬ w = 4 by omega), if_pos (show w = 5 by omega)]
            | rw [if_neg (show ¬ w = 0 by omega), if_neg (show ¬ w = 1 by omega), if_neg (show ¬ w = 2 by omega), if_neg (show ¬ w = 3 by omega), if_neg (show ¬ w = 4 by omega), if_neg (show ¬ w = 5 by omega), if_pos (show w = 6 by omega)]
            | rw [if_neg (show ¬ w = 0 by omega), if_neg (show ¬ w = 1 by omega), if_neg (show ¬ w = 2 by omega), if_neg (show ¬ w = 3 by omega), if_neg (show ¬ w = 4 by omega), if_neg (show ¬ w = 5 by omega), if_neg (show ¬ w = 6 by omega)]
      · refine G_aload_n (pc := 32) dX12_count_32 rfl ?_
        refine G_iconst (pc := 33) dX12_count_33 ?_
        refine G_callV1 (pc := 34) (md := mdX12_folk) (av := [_]) dX12_count_34 lkX12_99 mwX12_folk (m_folk 0 (by omega) hM hH hB) rfl (by first | rfl | assumption) (by omega) rfl rfl (Nat.le_of_ble_eq_true rfl) (by decide) ⟨Nat.zero_le _, Nat.zero_le _⟩ ?_
        refine G_goto (pc := 37) (tgt := 94) dX12_count_37 (by decide) ?_
        refine G_iret (pc := 94) dX12_count_94 rfl ?_
        refine ⟨?_, Off.rfl, Off.rfl, hC⟩
        unfold aCount
        first
          | rw [if_pos (show w = 0 by omega)]
          | rw [if_neg (show ¬ w = 0 by omega), if_pos (show w = 1 by omega)]
          | rw [if_neg (show ¬ w = 0 by omega), if_neg (show ¬ w = 1 by omega), if_pos (show w = 2 by omega)]
          | rw [if_neg (show ¬ w = 0 by omega), if_neg (show ¬ w = 1 by omega), if_neg (show ¬ w = 2 by omega), if_pos (show w = 3 by omega)]
          | rw [if_neg (show ¬ w = 0 by omega), if_neg (show ¬ w = 1 by omega), if_neg (show ¬ w = 2 by omega), if_neg (show ¬ w = 3 by omega), if_pos (show w = 4 by omega)]
          | rw [if_neg (show ¬ w = 0 by omega), if_neg (show ¬ w = 1 by omega), if_neg (show ¬ w = 2 by omega), if_neg (show ¬ w = 3 by omega), if_neg (show ¬ w = 4 by omega), if_pos (show w = 5 by omega)]
          | rw [if_neg (show ¬ w = 0 by omega), if_neg (show ¬ w = 1 by omega), if_neg (show ¬ w = 2 by omega), if_neg (show ¬ w = 3 by omega), if_neg (show ¬ w = 4 by omega), if_neg (show ¬ w = 5 by omega), if_pos (show w = 6 by omega)]
          | rw [if_neg (show ¬ w = 0 by omega), if_neg (show ¬ w = 1 by omega), if_neg (show ¬ w = 2 by omega), if_neg (show ¬ w = 3 by omega), if_neg (show ¬ w = 4 by omega), if_neg (show ¬ w = 5 by omega), if_neg (show ¬ w = 6 by omega)]
    · refine G_aload_n (pc := 18) dX12_count_18 rfl ?_
      refine G_getr (pc := 19) dX12_count_19 fiX12_20 (by first | rfl | assumption) (by omega) (by first | rfl | assumption) ?_
      refine G_iconst (pc := 22) dX12_count_22 ?_
      refine G_ialdv (pc := 23) dX12_count_23 (by first | rfl | assumption) (by omega) (by omega) (by omega) (by omega) (hH.na rfl) ?_
      refine G_goto (pc := 24) (tgt := 94) dX12_count_24 (by decide) ?_
      refine G_iret (pc := 94) dX12_count_94 rfl ?_
      refine ⟨?_, Off.rfl, Off.rfl, hC⟩
      unfold aCount
      first
        | rw [if_pos (show w = 0 by omega)]
        | rw [if_neg (show ¬ w = 0 by omega), if_pos (show w = 1 by omega)]
        | rw [if_neg (show ¬ w = 0 by omega), if_neg (show ¬ w = 1 by omega), if_pos (show w = 2 by omega)]
        | rw [if_neg (show ¬ w = 0 by omega), if_neg (show ¬ w = 1 by omega), if_neg (show ¬ w = 2 by omega), if_pos (show w = 3 by omega)]
        | rw [if_neg (show ¬ w = 0 by omega), if_neg (show ¬ w = 1 by omega), if_neg (show ¬ w = 2 by omega), if_neg (show ¬ w = 3 by omega), if_pos (show w = 4 by omega)]
        | rw [if_neg (show ¬ w = 0 by omega), if_neg (show ¬ w = 1 by omega), if_neg (show ¬ w = 2 by omega), if_neg (show ¬ w = 3 by omega), if_neg (show ¬ w = 4 by omega), if_pos (show w = 5 by omega)]
        | rw [if_neg (show ¬ w = 0 by omega), if_neg (show ¬ w = 1 by omega), if_neg (show ¬ w = 2 by omega), if_neg (show ¬ w = 3 by omega), if_neg (show ¬ w = 4 by omega), if_neg (show ¬ w = 5 by omega), if_pos (show w = 6 by omega)]
        | rw [if_neg (show ¬ w = 0 by omega), if_neg (show ¬ w = 1 by omega), if_neg (show ¬ w = 2 by omega), if_neg (show ¬ w = 3 by omega), if_neg (show ¬ w = 4 by omega), if_neg (show ¬ w = 5 by omega), if_neg (show ¬ w = 6 by omega)]
  · try simp only [bI_eq0, bI_ne0] at h_1
    refine G_aload_n (pc := 4) dX12_count_4 rfl ?_
    refine G_getr (pc := 5) dX12_count_5 fiX12_13 (by first | rfl | assumption) (by omega) (by first | rfl | assumption) ?_
    refine G_iconst (pc := 8) dX12_count_8 ?_
    refine G_ialdv (pc := 9) dX12_count_9 (by first | rfl | assumption) (by omega) (by omega) (by omega) (by omega) (hH.ns rfl) ?_
    refine G_goto (pc := 10) (tgt := 94) dX12_count_10 (by decide) ?_
    refine G_iret (pc := 94) dX12_count_94 rfl ?_
    refine ⟨?_, Off.rfl, Off.rfl, hC⟩
    unfold aCount
    first
      | rw [if_pos (show w = 0 by omega)]
      | rw [if_neg (show ¬ w = 0 by omega), if_pos (show w = 1 by omega)]
      | rw [if_neg (show ¬ w = 0 by omega), if_neg (show ¬ w = 1 by omega), if_pos (show w = 2 by omega)]
      | rw [if_neg (show ¬ w = 0 by omega), if_neg (show ¬ w = 1 by omega), if_neg (show ¬ w = 2 by omega), if_pos (show w = 3 by omega)]
      | rw [if_neg (show ¬ w = 0 by omega), if_neg (show ¬ w = 1 by omega), if_neg (show ¬ w = 2 by omega), if_neg (show ¬ w = 3 by omega), if_pos (show w = 4 by omega)]
      | rw [if_neg (show ¬ w = 0 by omega), if_neg (show ¬ w = 1 by omega), if_neg (show ¬ w = 2 by omega), if_neg (show ¬ w = 3 by omega), if_neg (show ¬ w = 4 by omega), if_pos (show w = 5 by omega)]
      | rw [if_neg (show ¬ w = 0 by omega), if_neg (show ¬ w = 1 by omega), if_neg (show ¬ w = 2 by omega), if_neg (show ¬ w = 3 by omega), if_neg (show ¬ w = 4 by omega), if_neg (show ¬ w = 5 by omega), if_pos (show w = 6 by omega)]
      | rw [if_neg (show ¬ w = 0 by omega), if_neg (show ¬ w = 1 by omega), if_neg (show ¬ w = 2 by omega), if_neg (show ¬ w = 3 by omega), if_neg (show ¬ w = 4 by omega), if_neg (show ¬ w = 5 by omega), if_neg (show ¬ w = 6 by omega)]
theorem y_step (a k : Int) (hM : 87 ≤ M) (hC : MI I n tx hs C kn K) (hW : WF n tx hs C kn K) (ra : Ri a) (rk : Ri k) : FnQ E mdX12_step 8 M Rf [vr E 71, vi a, vi k] I J (MQS I J (aStep hs C a k) (sStep (n, tx, hs, C, kn, K) a k)) := by
  have hH := hC.2.1
  have hR := hC.2.2.1
  obtain ⟨-, -, hB, -, -, hRB, hTB, -⟩ := id hW
  have c8 := hRB.1
  have r1 := rk.lo
  have r2 := rk.hi
  have v0 : I 79 0 = (C 0 0 : Int) := hR.1
  refine FnQ.of (by decide +kernel) (Nat.le_of_ble_eq_true rfl) ?_
  show GM E mdX12_step 8 M Rf _ I J 0 [some (vr E 71), some (vi a), some (vi k)] []
  refine G_aload_n (pc := 0) dX12_step_0 rfl ?_
  refine G_iload_n (pc := 1) dX12_step_1 rfl ?_
  refine G_callV1 (pc := 2) (md := mdX12_isAsk) (av := [_]) dX12_step_2 lkX12_132 mwX12_isAsk (m_isAsk a hM hH hB ra) rfl (by first | rfl | assumption) (by omega) rfl rfl (Nat.le_of_ble_eq_true rfl) (by decide) ⟨Nat.zero_le _, Nat.zero_le _⟩ ?_
  refine G_if_eq (pc := 5) (tgt := 18) dX12_step_5 (by first | exact bI_R | exact rk) (by decide) (fun h_5 => ?_) (fun h_5 => ?_)
  · try simp only [bI_eq0, bI_ne0] at h_5
    refine G_iconst (pc := 18) dX12_step_18 ?_
    refine G_iret (pc := 19) dX12_step_19 rfl ?_
    exact ⟨by unfold aStep isA; rw [if_neg (by omega)], Off.rfl, Off.rfl, by unfold sStep isA; rw [if_neg (fun z => by have z1 := z.1.1; have z2 := z.1.2; have z1 : 0 ≤ a ∧ a < (zA hs : Int) := z1; omega)]; exact hC⟩
  · try simp only [bI_eq0, bI_ne0] at h_5
    refine G_iload_n (pc := 8) dX12_step_8 rfl ?_
    refine G_i2l (pc := 9) dX12_step_9 (by first | exact bI_R | exact rk) ?_
    refine G_lconst (pc := 10) dX12_step_10 ?_
    refine G_lconst (pc := 11) dX12_step_11 ?_
    refine G_callS1 (pc := 12) (md := mdX12_in) (av := [_, _, _]) dX12_step_12 lkX12_66 mwX12_in (m_inI _ _ _ (0 ≤ k ∧ k ≤ 1) (by omega) (Rl.mk (by omega) (by omega)) (Rl.mk (by omega) (by omega)) (Rl.mk (by omega) (by omega))) rfl rfl (Nat.le_of_ble_eq_true rfl) (by decide) ⟨Nat.zero_le _, Nat.zero_le _⟩ ?_
    refine G_if_ne (pc := 15) (tgt := 20) dX12_step_15 (by first | exact bI_R | exact rk) (by decide) (fun h_15 => ?_) (fun h_15 => ?_)
    · try simp only [bI_eq0, bI_ne0] at h_15
      refine G_aload_n (pc := 20) dX12_step_20 rfl ?_
      refine G_getr (pc := 21) dX12_step_21 fiX12_32 (by first | rfl | assumption) (by omega) (by first | rfl | assumption) ?_
      refine G_iconst (pc := 24) dX12_step_24 ?_
      refine G_ialdv (pc := 25) dX12_step_25 (by first | rfl | assumption) (by omega) (by omega) (by omega) (by omega) (v0) ?_
      refine G_bipush (pc := 26) dX12_step_26 (by decide) ?_
      refine G_icmp_ne (pc := 28) (tgt := 34) dX12_step_28 (Ri.mk (by omega) (by omega)) (Ri.mk (by omega) (by omega)) (by decide) (fun h_28 => ?_) (fun h_28 => ?_)
      · refine G_aload_n (pc := 34) dX12_step_34 rfl ?_
        refine G_getr (pc := 35) dX12_step_35 fiX12_35 (by first | rfl | assumption) (by omega) (by first | rfl | assumption) ?_
        refine G_iconst (pc := 38) dX12_step_38 ?_
        refine G_aload_n (pc := 39) dX12_step_39 rfl ?_
        refine G_getr (pc := 40) dX12_step_40 fiX12_32 (by first | rfl | assumption) (by omega) (by first | rfl | assumption) ?_
        refine G_iconst (pc := 43) dX12_step_43 ?_
        refine G_ialdv (pc := 44) dX12_step_44 (by first | rfl | assumption) (by omega) (by omega) (by omega) (by omega) (v0) ?_
        refine G_imul (pc := 45) dX12_step_45 ?_
        refine G_iload_n (pc := 46) dX12_step_46 rfl ?_
        refine G_iast (pc := 47) dX12_step_47 (by first | rfl | assumption) (by omega) (by omega) (by omega) (by omega) ?_
        refine G_aload_n (pc := 48) dX12_step_48 rfl ?_
        refine G_getr (pc := 49) dX12_step_49 fiX12_35 (by first | rfl | assumption) (by omega) (by first | rfl | assumption) ?_
        refine G_iconst (pc := 52) dX12_step_52 ?_
        refine G_aload_n (pc := 53) dX12_step_53 rfl ?_
        refine G_getr (pc := 54) dX12_step_54 fiX12_32 (by first | rfl | assumption) (by omega) (by first | rfl | assumption) ?_
        refine G_iconst (pc := 57) dX12_step_57 ?_
        refine G_ialdv (pc := 58) dX12_step_58 (by first | rfl | assumption) (by omega) (by omega) (by omega) (by omega) (v0) ?_
        refine G_imul (pc := 59) dX12_step_59 ?_
        refine G_iconst (pc := 60) dX12_step_60 ?_
        refine G_iadd (pc := 61) dX12_step_61 ?_
        refine G_iload_n (pc := 62) dX12_step_62 rfl ?_
        refine G_iast (pc := 63) dX12_step_63 (by first | rfl | assumption) (by omega) (by omega) (by omega) (by omega) ?_
        refine G_aload_n (pc := 64) dX12_step_64 rfl ?_
        refine G_getr (pc := 65) dX12_step_65 fiX12_32 (by first | rfl | assumption) (by omega) (by first | rfl | assumption) ?_
        refine G_iconst (pc := 68) dX12_step_68 ?_
        refine G_dup2 (pc := 69) dX12_step_69 rfl rfl ?_
        refine G_ialdv (pc := 70) dX12_step_70 (by first | rfl | assumption) (by omega) (by omega) (by omega) (by omega) (v0) ?_
        refine G_iconst (pc := 71) dX12_step_71 ?_
        refine G_iadd (pc := 72) dX12_step_72 ?_
        refine G_iast (pc := 73) dX12_step_73 (by first | rfl | assumption) (by omega) (by omega) (by omega) (by omega) ?_
        refine G_aload_n (pc := 74) dX12_step_74 rfl ?_
        refine G_getr (pc := 75) dX12_step_75 fiX12_32 (by first | rfl | assumption) (by omega) (by first | rfl | assumption) ?_
        refine G_iconst (pc := 78) dX12_step_78 ?_
        refine G_ialdv (pc := 79) dX12_step_79 (by first | rfl | assumption) (by omega) (by omega) (by omega) (by omega) ((show wr (wr (wr I 80 _ _) 80 _ _) 79 0 _ 79 0 = _ from wr_s)) ?_
        refine G_iret (pc := 80) dX12_step_80 rfl ?_
        have e1 : (2 * (C 0 0 : Int)).toNat = 2 * C 0 0 := by omega
        have e2 : (2 * (C 0 0 : Int) + 1).toNat = 2 * C 0 0 + 1 := by omega
        have e3 : (0 : Int).toNat = 0 := rfl
        rw [e1, e2, e3]
        refine ⟨by unfold aStep isA; rw [if_pos (by omega), if_pos (by omega)], ((Off.rfl.set (by omega) (by omega)).set (by omega) (by omega)).set (by omega) (by omega), Off.rfl, ?_⟩
        unfold sStep; rw [if_pos ⟨⟨by unfold isA; show 0 ≤ a ∧ a < (zA hs : Int); omega, by omega⟩, show C 0 0 < 8 by omega⟩]
        refine hC.co (by simp (disch := omega) only [wr_o]) (by simp (disch := omega) only [wr_o]) (fun q a b => by simp (disch := omega) only [wr_o]) (fun x hx => by simp (disch := omega) only [wr_o, wr_n]) (fun x hx => by simp (disch := omega) only [wr_o, wr_n]) (fun x hx => by simp (disch := omega) only [wr_o, wr_n]) (fun x hx => by simp (disch := omega) only [wr_o, wr_n]) ⟨?_, fun t ht => ?_⟩ (hC.2.2.2.1.off (by simp (disch := omega) only [wr_o]) (by simp (disch := omega) only [wr_o]))
        · rw [wr_s]; rfl
        · have ht2 : t < C 0 0 + 1 := ht
          by_cases e : t = C 0 0
          · subst e; simp (disch := omega) only [wr_n, wr_s, wr_o, Nat.zero_add, Nat.mul_zero]; simp only [addR]; simp; omega
          · have := hR.2 t (by omega)
            rw [Nat.mul_zero, Nat.zero_add] at this ⊢
            simp (disch := omega) only [wr_n, wr_s, wr_o]; rw [this.1, this.2]; simp [addR, e]
      · refine G_bipush (pc := 31) dX12_step_31 (by decide) ?_
        refine G_iret (pc := 33) dX12_step_33 rfl ?_
        exact ⟨by unfold aStep isA; rw [if_pos (by omega), if_neg (by omega)], Off.rfl, Off.rfl, by unfold sStep; rw [if_neg (fun z => by have z2 : C 0 0 < 8 := z.2; omega)]; exact hC⟩
    · try simp only [bI_eq0, bI_ne0] at h_15
      refine G_iconst (pc := 18) dX12_step_18 ?_
      refine G_iret (pc := 19) dX12_step_19 rfl ?_
      exact ⟨by unfold aStep isA; rw [if_neg (by omega)], Off.rfl, Off.rfl, by unfold sStep isA; rw [if_neg (fun z => by have z1 := z.1.1; have z2 := z.1.2; have z1 : 0 ≤ a ∧ a < (zA hs : Int) := z1; omega)]; exact hC⟩
theorem y_tell (s a m d : Int) (hM : 87 ≤ M) (hC : MI I n tx hs C kn K) (hW : WF n tx hs C kn K) (rs : Ri s) (ra : Ri a) (rm : Ri m) (rd : Ri d) : FnQ E mdX12_tell 8 M Rf [vr E 71, vi s, vi a, vi m, vi d] I J (MQS I J (aTell hs C s a m d) (sTell (n, tx, hs, C, kn, K) s a m d)) := by
  have hH := hC.2.1
  have hT := hC.2.2.2.1
  obtain ⟨-, -, hB, -, -, hRB, hTB, -⟩ := id hW
  have c3 := hTB.1
  have r1 := rm.lo
  have r2 := rm.hi
  have r3 := rd.lo
  have r4 := rd.hi
  have v0 : I 81 0 = (C 3 0 : Int) := hT.1
  refine FnQ.of (by decide +kernel) (Nat.le_of_ble_eq_true rfl) ?_
  show GM E mdX12_tell 8 M Rf _ I J 0 [some (vr E 71), some (vi s), some (vi a), some (vi m), some (vi d), none] []
  refine G_aload_n (pc := 0) dX12_tell_0 rfl ?_
  refine G_iload_n (pc := 1) dX12_tell_1 rfl ?_
  refine G_callV1 (pc := 2) (md := mdX12_isSort) (av := [_]) dX12_tell_2 lkX12_129 mwX12_isSort (m_isSort s hM hH hB rs) rfl (by first | rfl | assumption) (by omega) rfl rfl (Nat.le_of_ble_eq_true rfl) (by decide) ⟨Nat.zero_le _, Nat.zero_le _⟩ ?_
  refine G_if_eq (pc := 5) (tgt := 40) dX12_tell_5 (by first | exact bI_R | exact rm) (by decide) (fun h_5 => ?_) (fun h_5 => ?_)
  · try simp only [bI_eq0, bI_ne0] at h_5
    refine G_iconst (pc := 40) dX12_tell_40 ?_
    refine G_iret (pc := 41) dX12_tell_41 rfl ?_
    exact ⟨by unfold aTell isS isA; rw [if_neg (by omega)], Off.rfl, Off.rfl, by unfold sTell isS isA; rw [if_neg (fun z => by have z0 : 0 ≤ s ∧ s < (zS hs : Int) := z.1.1; have z1 : 0 ≤ a ∧ a < (zA hs : Int) := z.1.2.1; have z2 := z.1.2.2; omega)]; exact hC⟩
  · try simp only [bI_eq0, bI_ne0] at h_5
    refine G_aload_n (pc := 8) dX12_tell_8 rfl ?_
    refine G_iload_n (pc := 9) dX12_tell_9 rfl ?_
    refine G_callV1 (pc := 10) (md := mdX12_isAsk) (av := [_]) dX12_tell_10 lkX12_132 mwX12_isAsk (m_isAsk a hM hH hB ra) rfl (by first | rfl | assumption) (by omega) rfl rfl (Nat.le_of_ble_eq_true rfl) (by decide) ⟨Nat.zero_le _, Nat.zero_le _⟩ ?_
    refine G_if_eq (pc := 13) (tgt := 40) dX12_tell_13 (by first | exact bI_R | exact rm) (by decide) (fun h_13 => ?_) (fun h_13 => ?_)
    · try simp only [bI_eq0, bI_ne0] at h_13
      refine G_iconst (pc := 40) dX12_tell_40 ?_
      refine G_iret (pc := 41) dX12_tell_41 rfl ?_
      exact ⟨by unfold aTell isS isA; rw [if_neg (by omega)], Off.rfl, Off.rfl, by unfold sTell isS isA; rw [if_neg (fun z => by have z0 : 0 ≤ s ∧ s < (zS hs : Int) := z.1.1; have z1 : 0 ≤ a ∧ a < (zA hs : Int) := z.1.2.1; have z2 := z.1.2.2; omega)]; exact hC⟩
    · try simp only [bI_eq0, bI_ne0] at h_13
      refine G_iload_n (pc := 16) dX12_tell_16 rfl ?_
      refine G_i2l (pc := 17) dX12_tell_17 (by first | exact bI_R | exact rm) ?_
      refine G_lconst (pc := 18) dX12_tell_18 ?_
      refine G_ldc2 (pc := 19) dX12_tell_19 klX12_192 ?_
      refine G_callS1 (pc := 22) (md := mdX12_in) (av := [_, _, _]) dX12_tell_22 lkX12_66 mwX12_in (m_inI _ _ _ (1 ≤ m ∧ m ≤ 4) (by omega) (Rl.mk (by omega) (by omega)) (Rl.mk (by omega) (by omega)) (Rl.mk (by omega) (by omega))) rfl rfl (Nat.le_of_ble_eq_true rfl) (by decide) ⟨Nat.zero_le _, Nat.zero_le _⟩ ?_
      refine G_if_eq (pc := 25) (tgt := 40) dX12_tell_25 (by first | exact bI_R | exact rm) (by decide) (fun h_25 => ?_) (fun h_25 => ?_)
      · try simp only [bI_eq0, bI_ne0] at h_25
        refine G_iconst (pc := 40) dX12_tell_40 ?_
        refine G_iret (pc := 41) dX12_tell_41 rfl ?_
        exact ⟨by unfold aTell isS isA; rw [if_neg (by omega)], Off.rfl, Off.rfl, by unfold sTell isS isA; rw [if_neg (fun z => by have z0 : 0 ≤ s ∧ s < (zS hs : Int) := z.1.1; have z1 : 0 ≤ a ∧ a < (zA hs : Int) := z.1.2.1; have z2 := z.1.2.2; omega)]; exact hC⟩
      · try simp only [bI_eq0, bI_ne0] at h_25
        refine G_iload (pc := 28) dX12_tell_28 rfl ?_
        refine G_i2l (pc := 30) dX12_tell_30 rd ?_
        refine G_lconst (pc := 31) dX12_tell_31 ?_
        refine G_iload_n (pc := 32) dX12_tell_32 rfl ?_
        refine G_i2l (pc := 33) dX12_tell_33 (by first | exact bI_R | exact rm) ?_
        refine G_callS1 (pc := 34) (md := mdX12_in) (av := [_, _, _]) dX12_tell_34 lkX12_66 mwX12_in (m_inI _ _ _ (0 ≤ d ∧ d ≤ m) (by omega) (Rl.mk (by omega) (by omega)) (Rl.mk (by omega) (by omega)) (Rl.mk (by omega) (by omega))) rfl rfl (Nat.le_of_ble_eq_true rfl) (by decide) ⟨Nat.zero_le _, Nat.zero_le _⟩ ?_
        refine G_if_ne (pc := 37) (tgt := 42) dX12_tell_37 (by first | exact bI_R | exact rm) (by decide) (fun h_37 => ?_) (fun h_37 => ?_)
        · try simp only [bI_eq0, bI_ne0] at h_37
          refine G_aload_n (pc := 42) dX12_tell_42 rfl ?_
          refine G_getr (pc := 43) dX12_tell_43 fiX12_38 (by first | rfl | assumption) (by omega) (by first | rfl | assumption) ?_
          refine G_iconst (pc := 46) dX12_tell_46 ?_
          refine G_ialdv (pc := 47) dX12_tell_47 (by first | rfl | assumption) (by omega) (by omega) (by omega) (by omega) (v0) ?_
          refine G_istore (pc := 48) (lv' := [_, _, _, _, _, _]) dX12_tell_48 (by decide) rfl ?_
          refine G_iload (pc := 50) dX12_tell_50 rfl ?_
          refine G_iconst (pc := 52) dX12_tell_52 ?_
          refine G_icmp_ne (pc := 53) (tgt := 59) dX12_tell_53 (Ri.mk (by omega) (by omega)) (Ri.mk (by omega) (by omega)) (by decide) (fun h_53 => ?_) (fun h_53 => ?_)
          · refine G_aload_n (pc := 59) dX12_tell_59 rfl ?_
            refine G_getr (pc := 60) dX12_tell_60 fiX12_41 (by first | rfl | assumption) (by omega) (by first | rfl | assumption) ?_
            refine G_iconst (pc := 63) dX12_tell_63 ?_
            refine G_iload (pc := 64) dX12_tell_64 rfl ?_
            refine G_imul (pc := 66) dX12_tell_66 ?_
            refine G_iload_n (pc := 67) dX12_tell_67 rfl ?_
            refine G_iast (pc := 68) dX12_tell_68 (by first | rfl | assumption) (by omega) (by omega) (by omega) (by omega) ?_
            refine G_aload_n (pc := 69) dX12_tell_69 rfl ?_
            refine G_getr (pc := 70) dX12_tell_70 fiX12_41 (by first | rfl | assumption) (by omega) (by first | rfl | assumption) ?_
            refine G_iconst (pc := 73) dX12_tell_73 ?_
            refine G_iload (pc := 74) dX12_tell_74 rfl ?_
            refine G_imul (pc := 76) dX12_tell_76 ?_
            refine G_iconst (pc := 77) dX12_tell_77 ?_
            refine G_iadd (pc := 78) dX12_tell_78 ?_
            refine G_iload_n (pc := 79) dX12_tell_79 rfl ?_
            refine G_iast (pc := 80) dX12_tell_80 (by first | rfl | assumption) (by omega) (by omega) (by omega) (by omega) ?_
            refine G_aload_n (pc := 81) dX12_tell_81 rfl ?_
            refine G_getr (pc := 82) dX12_tell_82 fiX12_41 (by first | rfl | assumption) (by omega) (by first | rfl | assumption) ?_
            refine G_iconst (pc := 85) dX12_tell_85 ?_
            refine G_iload (pc := 86) dX12_tell_86 rfl ?_
            refine G_imul (pc := 88) dX12_tell_88 ?_
            refine G_iconst (pc := 89) dX12_tell_89 ?_
            refine G_iadd (pc := 90) dX12_tell_90 ?_
            refine G_iload_n (pc := 91) dX12_tell_91 rfl ?_
            refine G_iast (pc := 92) dX12_tell_92 (by first | rfl | assumption) (by omega) (by omega) (by omega) (by omega) ?_
            refine G_aload_n (pc := 93) dX12_tell_93 rfl ?_
            refine G_getr (pc := 94) dX12_tell_94 fiX12_41 (by first | rfl | assumption) (by omega) (by first | rfl | assumption) ?_
            refine G_iconst (pc := 97) dX12_tell_97 ?_
            refine G_iload (pc := 98) dX12_tell_98 rfl ?_
            refine G_imul (pc := 100) dX12_tell_100 ?_
            refine G_iconst (pc := 101) dX12_tell_101 ?_
            refine G_iadd (pc := 102) dX12_tell_102 ?_
            refine G_iload (pc := 103) dX12_tell_103 rfl ?_
            refine G_iast (pc := 105) dX12_tell_105 (by first | rfl | assumption) (by omega) (by omega) (by omega) (by omega) ?_
            refine G_aload_n (pc := 106) dX12_tell_106 rfl ?_
            refine G_getr (pc := 107) dX12_tell_107 fiX12_38 (by first | rfl | assumption) (by omega) (by first | rfl | assumption) ?_
            refine G_iconst (pc := 110) dX12_tell_110 ?_
            refine G_dup2 (pc := 111) dX12_tell_111 rfl rfl ?_
            refine G_ialdv (pc := 112) dX12_tell_112 (by first | rfl | assumption) (by omega) (by omega) (by omega) (by omega) ((show wr (wr (wr (wr I 82 _ _) 82 _ _) 82 _ _) 82 _ _ 81 0 = (C 3 0 : Int) by simp (disch := omega) only [wr_o]; exact v0)) ?_
            refine G_iconst (pc := 113) dX12_tell_113 ?_
            refine G_iadd (pc := 114) dX12_tell_114 ?_
            refine G_iast (pc := 115) dX12_tell_115 (by first | rfl | assumption) (by omega) (by omega) (by omega) (by omega) ?_
            refine G_aload_n (pc := 116) dX12_tell_116 rfl ?_
            refine G_getr (pc := 117) dX12_tell_117 fiX12_38 (by first | rfl | assumption) (by omega) (by first | rfl | assumption) ?_
            refine G_iconst (pc := 120) dX12_tell_120 ?_
            refine G_ialdv (pc := 121) dX12_tell_121 (by first | rfl | assumption) (by omega) (by omega) (by omega) (by omega) ((show wr (wr (wr (wr (wr I 82 _ _) 82 _ _) 82 _ _) 82 _ _) 81 0 _ 81 0 = _ from wr_s)) ?_
            refine G_iret (pc := 122) dX12_tell_122 rfl ?_
            have e1 : (4 * (C 3 0 : Int)).toNat = 4 * C 3 0 := by omega
            have e2 : (4 * (C 3 0 : Int) + 1).toNat = 4 * C 3 0 + 1 := by omega
            have e3 : (4 * (C 3 0 : Int) + 2).toNat = 4 * C 3 0 + 2 := by omega
            have e4 : (4 * (C 3 0 : Int) + 3).toNat = 4 * C 3 0 + 3 := by omega
            have e5 : (0 : Int).toNat = 0 := rfl
            rw [e1, e2, e3, e4, e5]
            refine ⟨by unfold aTell isS isA; rw [if_pos (by omega), if_pos (by omega)], ((((Off.rfl.set (by omega) (by omega)).set (by omega) (by omega)).set (by omega) (by omega)).set (by omega) (by omega)).set (by omega) (by omega), Off.rfl, ?_⟩
            unfold sTell; rw [if_pos ⟨⟨by unfold isS; show 0 ≤ s ∧ s < (zS hs : Int); omega, by unfold isA; show 0 ≤ a ∧ a < (zA hs : Int); omega, by omega⟩, show C 3 0 < 3 by omega⟩]
            refine hC.co (by simp (disch := omega) only [wr_o]) (by simp (disch := omega) only [wr_o]) (fun q a b => by simp (disch := omega) only [wr_o]) (fun x hx => by simp (disch := omega) only [wr_o, wr_n]) (fun x hx => by simp (disch := omega) only [wr_o, wr_n]) (fun x hx => by simp (disch := omega) only [wr_o, wr_n]) (fun x hx => by simp (disch := omega) only [wr_o, wr_n]) (hC.2.2.1.off (by simp (disch := omega) only [wr_o]) (by simp (disch := omega) only [wr_o])) ⟨?_, fun t ht => ?_⟩
            · rw [wr_s]; rfl
            · have ht2 : t < C 3 0 + 1 := ht
              by_cases e : t = C 3 0
              · subst e; simp (disch := omega) only [wr_n, wr_s, wr_o, Nat.zero_add, Nat.mul_zero]; simp only [addT]; simp; omega
              · have := hT.2 t (by omega)
                rw [Nat.mul_zero, Nat.zero_add] at this ⊢
                simp (disch := omega) only [wr_n, wr_s, wr_o]; rw [this.1, this.2.1, this.2.2.1, this.2.2.2]; simp [addT, e]
          · refine G_bipush (pc := 56) dX12_tell_56 (by decide) ?_
            refine G_iret (pc := 58) dX12_tell_58 rfl ?_
            exact ⟨by unfold aTell isS isA; rw [if_pos (by omega), if_neg (by omega)], Off.rfl, Off.rfl, by unfold sTell; rw [if_neg (fun z => by have z2 : C 3 0 < 3 := z.2; omega)]; exact hC⟩
        · try simp only [bI_eq0, bI_ne0] at h_37
          refine G_iconst (pc := 40) dX12_tell_40 ?_
          refine G_iret (pc := 41) dX12_tell_41 rfl ?_
          exact ⟨by unfold aTell isS isA; rw [if_neg (by omega)], Off.rfl, Off.rfl, by unfold sTell isS isA; rw [if_neg (fun z => by have z0 : 0 ≤ s ∧ s < (zS hs : Int) := z.1.1; have z1 : 0 ≤ a ∧ a < (zA hs : Int) := z.1.2.1; have z2 := z.1.2.2; omega)]; exact hC⟩
end MOD4
