/-! THE LAW: nights, people, tells -/
section LAWB
variable {E : EV} {b L : Nat} {xs : Nat → Int32} {I J : Nat → Nat → Int} {n : Nat} {tx : Nat → Int} {hs : HS} {C : CS} {K : Nat → CS} {o : Nat → Nat}
theorem la_sum (hL : L ≤ 260) (hD : DRo o) (hH : HOo o hs) (hO : OI I o) (hC : CI I n tx hs C 0 K) (hW : WF n tx hs C 0 K) (hT : C 3 0 = 0) : GW E b L xs I J 986 [some (.ref b), some (vr E 0), some (vr E 71), some (vi (aP o (o 0) : Nat)), none, none, none, none, none, none, none, none, none, none, none] [] := by
  have hB := hW.2.2.1
  have d4 := hD.2.2.2.2.1
  have d3 := hD.2.2.2.1
  have e10 := hH.2.2.1
  have e11 := hH.2.2.2.2.2.1
  have h80 := aP_80 hD (Nat.le_refl (o 0))
  have hns : ∀ c, nsF hs C (o 4) (c : Nat) 10 ≤ 10 := fun c => by
    rcases Nat.lt_or_ge c (hs 10 0 + 1) with h | h
    · have h1 := sumN_term (f := fun c => nsF hs C (o 4) (c : Nat) 10) h
      rw [ns_sum hs C (o 4) 10] at h1
      have h1 : sumN (fun c => nsF hs C (o 4) (c : Nat) 10) c + nsF hs C (o 4) (c : Nat) 10 ≤ 10 := h1
      omega
    · have key : ∀ m, nsF hs C (o 4) (c : Nat) m ≤ m := fun m => by
        induction m with
        | zero => exact Nat.le_refl _
        | succ m ih => rw [nsF]; split <;> omega
      exact key 10
  have loop : ∀ (r k : Nat) (I J : Nat → Nat → Int), k + r = aP o (o 0) + 1 → OI I o → CI I n tx hs C 0 K → GW E b L xs I J 992 [some (.ref b), some (vr E 0), some (vr E 71), some (vi (aP o (o 0) : Nat)), none, none, none, none, none, some (vi (sumN (fun c => nsF hs C (o 4) (c : Nat) 10) k : Nat)), some (vi (k : Int)), none, none, none, none] [] := by
    intro r
    induction r with
    | zero =>
      intro k I J hk hO hC
      have hs10 : sumN (fun c => nsF hs C (o 4) (c : Nat) 10) k = 10 := by rw [show k = hs 10 0 + 1 by omega]; exact ns_sum hs C (o 4) 10
      obtain ⟨m1, m2, m3⟩ := f_man0 hB hT
      rw [e11] at m1
      refine G_iload (pc := 992) dL_law_992 rfl ?_
      refine G_iload_n (pc := 994) dL_law_994 rfl ?_
      refine G_icmp_gt (pc := 995) (tgt := 1018) dL_law_995 (Ri.mk (by omega) (by omega)) (Ri.mk (by omega) (by omega)) (by decide) (fun h_995 => ?_) (fun h_995 => ?_)
      · refine G_iload (pc := 1018) dL_law_1018 rfl ?_
        refine G_bipush (pc := 1020) dL_law_1020 (by decide) ?_
        refine G_icmp_ne (pc := 1022) (tgt := 1048) dL_law_1022 (Ri.mk (by omega) (by omega)) (Ri.mk (by omega) (by omega)) (by decide) (fun h_1022 => ?_) (fun h_1022 => ?_)
        · exact absurd h_1022 (by omega)
        · refine G_aload_n (pc := 1025) dL_law_1025 rfl ?_
          refine G_iconst (pc := 1026) dL_law_1026 ?_
          refine G_callV (pc := 1027) (md := mdX11_man) (av := [_]) dL_law_1027 lkL_125 mwX11_man (x_man _ (by omega) hC hW (Ri.mk (by omega) (by omega))) rfl (by first | rfl | assumption) (by omega) rfl rfl (Nat.le_of_ble_eq_true rfl) ⟨Nat.le_of_ble_eq_true rfl, Nat.le_of_ble_eq_true rfl⟩ ⟨Nat.le_of_ble_eq_true rfl, Nat.le_of_ble_eq_true rfl⟩ ?_
          rintro v I1027 J1027 ⟨rfl, hf, -, hC⟩
          replace hO := hO.off hf
          clear hf
          refine G_ldc2 (pc := 1030) dL_law_1030 klL_128 ?_
          refine G_lmul (pc := 1033) dL_law_1033 ?_
          refine G_aload_n (pc := 1034) dL_law_1034 rfl ?_
          refine G_iconst (pc := 1035) dL_law_1035 ?_
          refine G_ialdv (pc := 1036) dL_law_1036 (by first | rfl | assumption) (by omega) (by omega) (by omega) (by omega) (hO 3 (by omega)) ?_
          refine G_i2l (pc := 1037) dL_law_1037 (Ri.mk (by omega) (by omega)) ?_
          refine G_aload_n (pc := 1038) dL_law_1038 rfl ?_
          refine G_iconst (pc := 1039) dL_law_1039 ?_
          refine G_callV (pc := 1040) (md := mdX11_man) (av := [_]) dL_law_1040 lkL_125 mwX11_man (x_man _ (by omega) hC hW (Ri.mk (by omega) (by omega))) rfl (by first | rfl | assumption) (by omega) rfl rfl (Nat.le_of_ble_eq_true rfl) ⟨Nat.le_of_ble_eq_true rfl, Nat.le_of_ble_eq_true rfl⟩ ⟨Nat.le_of_ble_eq_true rfl, Nat.le_of_ble_eq_true rfl⟩ ?_
          rintro v I1040 J1040 ⟨rfl, hf, -, hC⟩
          replace hO := hO.off hf
          clear hf
          refine G_lmul (pc := 1043) dL_law_1043 ?_
          refine G_lc_eq (pc := 1044) (tgt := 1050) dL_law_1044 dL_law_1045 (Rl.mk (by omega) (by omega)) (Rl.mk (by omega) (by omega)) (by decide) (fun h_1044 => ?_) (fun h_1044 => ?_)
          · exact G_kill 3 rfl (G_kill 9 rfl (G_kill 10 rfl (la_end hL hD hH hO hC hW hT)))
          · exact absurd m1 h_1044
      · exact absurd h_995 (by omega)
    | succ r ih =>
      intro k I J hk hO hC
      have e1 : aNights hs C (o 4 : Nat) (k : Nat) = (nsF hs C (o 4) (k : Nat) 10 : Int) := aNights_e (by omega) (by omega)
      have e2 := hns k
      refine G_iload (pc := 992) dL_law_992 rfl ?_
      refine G_iload_n (pc := 994) dL_law_994 rfl ?_
      refine G_icmp_gt (pc := 995) (tgt := 1018) dL_law_995 (Ri.mk (by omega) (by omega)) (Ri.mk (by omega) (by omega)) (by decide) (fun h_995 => ?_) (fun h_995 => ?_)
      · exact absurd h_995 (by omega)
      · refine G_iload (pc := 998) dL_law_998 rfl ?_
        refine G_aload_n (pc := 1000) dL_law_1000 rfl ?_
        refine G_aload_n (pc := 1001) dL_law_1001 rfl ?_
        refine G_iconst (pc := 1002) dL_law_1002 ?_
        refine G_ialdv (pc := 1003) dL_law_1003 (by first | rfl | assumption) (by omega) (by omega) (by omega) (by omega) (hO 4 (by omega)) ?_
        refine G_iload (pc := 1004) dL_law_1004 rfl ?_
        refine G_callV (pc := 1006) (md := mdX11_nights) (av := [_, _]) dL_law_1006 lkL_122 mwX11_nights (x_nights _ _ (by omega) hC hW (Ri.mk (by omega) (by omega)) (Ri.mk (by omega) (by omega))) rfl (by first | rfl | assumption) (by omega) rfl rfl (Nat.le_of_ble_eq_true rfl) ⟨Nat.le_of_ble_eq_true rfl, Nat.le_of_ble_eq_true rfl⟩ ⟨Nat.le_of_ble_eq_true rfl, Nat.le_of_ble_eq_true rfl⟩ ?_
        rintro v I1 J1 ⟨rfl, hf, -, hC⟩
        replace hO := hO.off hf
        clear hf
        rw [e1]
        refine G_iadd (pc := 1009) dL_law_1009 ?_
        refine G_istore (pc := 1010) (lv' := [_, _, _, _, _, _, _, _, _, _, _, _, _, _, _]) dL_law_1010 (by decide) rfl ?_
        refine G_iinc (pc := 1012) (lv' := [_, _, _, _, _, _, _, _, _, _, _, _, _, _, _]) dL_law_1012 (by decide) rfl rfl ?_
        refine G_goto (pc := 1015) (tgt := 992) dL_law_1015 (by decide) ?_
        exact ih (k + 1) _ _ (by omega) hO hC
  refine G_iconst (pc := 986) dL_law_986 ?_
  refine G_istore (pc := 987) (lv' := [_, _, _, _, _, _, _, _, _, _, _, _, _, _, _]) dL_law_987 (by decide) rfl ?_
  refine G_iconst (pc := 989) dL_law_989 ?_
  refine G_istore (pc := 990) (lv' := [_, _, _, _, _, _, _, _, _, _, _, _, _, _, _]) dL_law_990 (by decide) rfl ?_
  exact loop (aP o (o 0) + 1) 0 _ _ (by omega) hO hC
theorem la_nights (hL : L ≤ 260) (hD : DRo o) (hH : HOo o hs) (hO : OI I o) (hC : CI I n tx hs C 0 K) (hW : WF n tx hs C 0 K) (hT : C 3 0 = 0) (hR : C 0 0 = o 2) : GW E b L xs I J 796 [some (.ref b), some (vr E 0), some (vr E 71), some (vi (aP o (o 0) : Nat)), none, none, none, none, none, none, none, none, none, none, none] [] := by
  have hB := hW.2.2.1
  have d2 := hD.2.2.1
  have e10 := hH.2.2.1
  have h80 := aP_80 hD (Nat.le_refl (o 0))
  have outer : ∀ (r k : Nat) (I J : Nat → Nat → Int), k + r = 4 → OI I o → CI I n tx hs C 0 K → GW E b L xs I J 799 [some (.ref b), some (vr E 0), some (vr E 71), some (vi (aP o (o 0) : Nat)), none, none, none, none, none, some (vi (k : Int)), none, none, none, none, none] [] := by
    intro r
    induction r with
    | zero =>
      intro k I J hk hO hC
      refine G_iload (pc := 799) dL_law_799 rfl ?_
      refine G_iconst (pc := 801) dL_law_801 ?_
      refine G_icmp_ge (pc := 802) (tgt := 986) dL_law_802 (Ri.mk (by omega) (by omega)) (Ri.mk (by omega) (by omega)) (by decide) (fun h_802 => ?_) (fun h_802 => ?_)
      · exact G_kill 9 rfl (la_sum hL hD hH hO hC hW hT)
      · exact absurd h_802 (by omega)
    | succ r ih =>
      intro k I J hk hO hC
      have inner : ∀ (z : Nat), z < 10000 → ∀ (r2 i : Nat) (was : Int) (I J : Nat → Nat → Int), i + r2 = cnN hs C z (C 0 0) → ((i = 0 ∧ was = -1) ∨ ∃ p, was = ((p : Nat) : Int) ∧ p < hs 10 0 ∧ sumN (NS hs C z (C 0 0)).1 p + 1 = i) → OI I o → CI I n tx hs C 0 K → GW E b L xs I J 837 [some (.ref b), some (vr E 0), some (vr E 71), some (vi (aP o (o 0) : Nat)), none, none, none, none, none, some (vi (k : Int)), some (vi (z : Int)), some (vi (cnN hs C z (C 0 0) : Nat)), some (vi was), some (vi (i : Int)), none] [] := by
        intro z hz
        obtain ⟨n0, n1, n2, n3, n4⟩ := f_night hs C hz
        obtain ⟨c, hc⟩ : ∃ c, c = cnN hs C z (C 0 0) := ⟨_, rfl⟩
        have hN1 := f_oneN (hs := hs) (C := C) hz
        rw [← hc] at n0 n1 n2 n3 hN1 ⊢
        intro r2
        induction r2 with
        | zero =>
          intro i was I J hi hw hO hC
          refine G_iload (pc := 837) dL_law_837 rfl ?_
          refine G_iload (pc := 839) dL_law_839 rfl ?_
          refine G_icmp_ge (pc := 841) (tgt := 879) dL_law_841 (Ri.mk (by omega) (by omega)) (Ri.mk (by omega) (by omega)) (by decide) (fun h_841 => ?_) (fun h_841 => ?_)
          · refine G_aload_n (pc := 879) dL_law_879 rfl ?_
            refine G_iload (pc := 880) dL_law_880 rfl ?_
            refine G_iconst (pc := 882) dL_law_882 ?_
            refine G_callV (pc := 883) (md := mdX11_night) (av := [_, _]) dL_law_883 lkL_116 mwX11_night (x_night _ _ (by omega) hC hW (Ri.mk (by omega) (by omega)) (Ri.mk (by omega) (by omega))) rfl (by first | rfl | assumption) (by omega) rfl rfl (Nat.le_of_ble_eq_true rfl) ⟨Nat.le_of_ble_eq_true rfl, Nat.le_of_ble_eq_true rfl⟩ ⟨Nat.le_of_ble_eq_true rfl, Nat.le_of_ble_eq_true rfl⟩ ?_
            rintro v I883 J883 ⟨rfl, hf, -, hC⟩
            replace hO := hO.off hf
            clear hf
            refine G_istore (pc := 886) (lv' := [_, _, _, _, _, _, _, _, _, _, _, _, _, _, _]) dL_law_886 (by decide) rfl ?_
            refine G_iload (pc := 888) dL_law_888 rfl ?_
            refine G_if_lt (pc := 890) (tgt := 978) dL_law_890 (Ri.mk (by omega) (by omega)) (by decide) (fun h_890 => ?_) (fun h_890 => ?_)
            · exact absurd h_890 (by omega)
            · refine G_iload (pc := 893) dL_law_893 rfl ?_
              refine G_iload_n (pc := 895) dL_law_895 rfl ?_
              refine G_icmp_gt (pc := 896) (tgt := 978) dL_law_896 (Ri.mk (by omega) (by omega)) (Ri.mk (by omega) (by omega)) (by decide) (fun h_896 => ?_) (fun h_896 => ?_)
              · exact absurd h_896 (by omega)
              · refine G_aload_n (pc := 899) dL_law_899 rfl ?_
                refine G_iload (pc := 900) dL_law_900 rfl ?_
                refine G_iload (pc := 902) dL_law_902 rfl ?_
                refine G_callV (pc := 904) (md := mdX11_one) (av := [_, _]) dL_law_904 lkL_119 mwX11_one (x_one _ _ (by omega) hC hW (Ri.mk (by omega) (by omega)) (Ri.mk (by omega) (by omega))) rfl (by first | rfl | assumption) (by omega) rfl rfl (Nat.le_of_ble_eq_true rfl) ⟨Nat.le_of_ble_eq_true rfl, Nat.le_of_ble_eq_true rfl⟩ ⟨Nat.le_of_ble_eq_true rfl, Nat.le_of_ble_eq_true rfl⟩ ?_
                rintro v I904 J904 ⟨rfl, hf, -, hC⟩
                replace hO := hO.off hf
                clear hf
                refine G_bipush (pc := 907) dL_law_907 (by decide) ?_
                refine G_icmp_ne (pc := 909) (tgt := 978) dL_law_909 (Ri.mk (by omega) (by omega)) (Ri.mk (by omega) (by omega)) (by decide) (fun h_909 => ?_) (fun h_909 => ?_)
                · exact absurd hN1 h_909
                · refine G_aload_n (pc := 912) dL_law_912 rfl ?_
                  refine G_iload (pc := 913) dL_law_913 rfl ?_
                  refine G_iconst (pc := 915) dL_law_915 ?_
                  refine G_callV (pc := 916) (md := mdX11_night) (av := [_, _]) dL_law_916 lkL_116 mwX11_night (x_night _ _ (by omega) hC hW (Ri.mk (by omega) (by omega)) (Ri.mk (by omega) (by omega))) rfl (by first | rfl | assumption) (by omega) rfl rfl (Nat.le_of_ble_eq_true rfl) ⟨Nat.le_of_ble_eq_true rfl, Nat.le_of_ble_eq_true rfl⟩ ⟨Nat.le_of_ble_eq_true rfl, Nat.le_of_ble_eq_true rfl⟩ ?_
                  rintro v I916 J916 ⟨rfl, hf, -, hC⟩
                  replace hO := hO.off hf
                  clear hf
                  refine G_if_lt (pc := 919) (tgt := 978) dL_law_919 (Ri.mk (by omega) (by omega)) (by decide) (fun h_919 => ?_) (fun h_919 => ?_)
                  · exact absurd h_919 (by omega)
                  · refine G_aload_n (pc := 922) dL_law_922 rfl ?_
                    refine G_iload (pc := 923) dL_law_923 rfl ?_
                    refine G_iconst (pc := 925) dL_law_925 ?_
                    refine G_callV (pc := 926) (md := mdX11_night) (av := [_, _]) dL_law_926 lkL_116 mwX11_night (x_night _ _ (by omega) hC hW (Ri.mk (by omega) (by omega)) (Ri.mk (by omega) (by omega))) rfl (by first | rfl | assumption) (by omega) rfl rfl (Nat.le_of_ble_eq_true rfl) ⟨Nat.le_of_ble_eq_true rfl, Nat.le_of_ble_eq_true rfl⟩ ⟨Nat.le_of_ble_eq_true rfl, Nat.le_of_ble_eq_true rfl⟩ ?_
                    rintro v I926 J926 ⟨rfl, hf, -, hC⟩
                    replace hO := hO.off hf
                    clear hf
                    refine G_iload (pc := 929) dL_law_929 rfl ?_
                    refine G_icmp_gt (pc := 931) (tgt := 978) dL_law_931 (Ri.mk (by omega) (by omega)) (Ri.mk (by omega) (by omega)) (by decide) (fun h_931 => ?_) (fun h_931 => ?_)
                    · exact absurd h_931 (by omega)
                    · refine G_iload (pc := 934) dL_law_934 rfl ?_
                      refine G_bipush (pc := 936) dL_law_936 (by decide) ?_
                      refine G_icmp_ge (pc := 938) (tgt := 945) dL_law_938 (Ri.mk (by omega) (by omega)) (Ri.mk (by omega) (by omega)) (by decide) (fun h_938 => ?_) (fun h_938 => ?_)
                      · refine G_iconst (pc := 945) dL_law_945 ?_
                        refine G_iload (pc := 946) dL_law_946 rfl ?_
                        refine G_if_lt (pc := 948) (tgt := 955) dL_law_948 (Ri.mk (by omega) (by omega)) (by decide) (fun h_948 => ?_) (fun h_948 => ?_)
                        · refine G_iconst (pc := 955) dL_law_955 ?_
                          refine G_icmp_ne (pc := 956) (tgt := 978) dL_law_956 (Ri.mk (by omega) (by omega)) (Ri.mk (by omega) (by omega)) (by decide) (fun h_956 => ?_) (fun h_956 => ?_)
                          · exact absurd h_956 (by omega)
                          · refine G_iload (pc := 959) dL_law_959 rfl ?_
                            refine G_aload_n (pc := 961) dL_law_961 rfl ?_
                            refine G_iconst (pc := 962) dL_law_962 ?_
                            refine G_ialdv (pc := 963) dL_law_963 (by first | rfl | assumption) (by omega) (by omega) (by omega) (by omega) (hO 2 (by omega)) ?_
                            refine G_icmp_gt (pc := 964) (tgt := 978) dL_law_964 (Ri.mk (by omega) (by omega)) (Ri.mk (by omega) (by omega)) (by decide) (fun h_964 => ?_) (fun h_964 => ?_)
                            · exact absurd h_964 (by omega)
                            · refine G_iload_n (pc := 967) dL_law_967 rfl ?_
                              refine G_bipush (pc := 968) dL_law_968 (by decide) ?_
                              refine G_icmp_ge (pc := 970) (tgt := 980) dL_law_970 (Ri.mk (by omega) (by omega)) (Ri.mk (by omega) (by omega)) (by decide) (fun h_970 => ?_) (fun h_970 => ?_)
                              · refine G_iinc (pc := 980) (lv' := [_, _, _, _, _, _, _, _, _, _, _, _, _, _, _]) dL_law_980 (by decide) rfl rfl ?_
                                refine G_goto (pc := 983) (tgt := 799) dL_law_983 (by decide) ?_
                                exact G_kill 10 rfl (G_kill 11 rfl (G_kill 12 rfl (G_kill 13 rfl (G_kill 14 rfl (ih (k + 1) _ _ (by omega) hO hC)))))
                              · refine G_iload (pc := 973) dL_law_973 rfl ?_
                                refine G_if_eq (pc := 975) (tgt := 980) dL_law_975 (Ri.mk (by omega) (by omega)) (by decide) (fun h_975 => ?_) (fun h_975 => ?_)
                                · try simp only [bI_eq0, bI_ne0] at h_975
                                  refine G_iinc (pc := 980) (lv' := [_, _, _, _, _, _, _, _, _, _, _, _, _, _, _]) dL_law_980 (by decide) rfl rfl ?_
                                  refine G_goto (pc := 983) (tgt := 799) dL_law_983 (by decide) ?_
                                  exact G_kill 10 rfl (G_kill 11 rfl (G_kill 12 rfl (G_kill 13 rfl (G_kill 14 rfl (ih (k + 1) _ _ (by omega) hO hC)))))
                                · exact absurd (n4 (by omega)) h_975
                        · refine G_iconst (pc := 951) dL_law_951 ?_
                          refine G_goto (pc := 952) (tgt := 956) dL_law_952 (by decide) ?_
                          refine G_icmp_ne (pc := 956) (tgt := 978) dL_law_956 (Ri.mk (by omega) (by omega)) (Ri.mk (by omega) (by omega)) (by decide) (fun h_956 => ?_) (fun h_956 => ?_)
                          · exact absurd h_956 (by omega)
                          · refine G_iload (pc := 959) dL_law_959 rfl ?_
                            refine G_aload_n (pc := 961) dL_law_961 rfl ?_
                            refine G_iconst (pc := 962) dL_law_962 ?_
                            refine G_ialdv (pc := 963) dL_law_963 (by first | rfl | assumption) (by omega) (by omega) (by omega) (by omega) (hO 2 (by omega)) ?_
                            refine G_icmp_gt (pc := 964) (tgt := 978) dL_law_964 (Ri.mk (by omega) (by omega)) (Ri.mk (by omega) (by omega)) (by decide) (fun h_964 => ?_) (fun h_964 => ?_)
                            · exact absurd h_964 (by omega)
                            · refine G_iload_n (pc := 967) dL_law_967 rfl ?_
                              refine G_bipush (pc := 968) dL_law_968 (by decide) ?_
                              refine G_icmp_ge (pc := 970) (tgt := 980) dL_law_970 (Ri.mk (by omega) (by omega)) (Ri.mk (by omega) (by omega)) (by decide) (fun h_970 => ?_) (fun h_970 => ?_)
                              · refine G_iinc (pc := 980) (lv' := [_, _, _, _, _, _, _, _, _, _, _, _, _, _, _]) dL_law_980 (by decide) rfl rfl ?_
                                refine G_goto (pc := 983) (tgt := 799) dL_law_983 (by decide) ?_
                                exact G_kill 10 rfl (G_kill 11 rfl (G_kill 12 rfl (G_kill 13 rfl (G_kill 14 rfl (ih (k + 1) _ _ (by omega) hO hC)))))
                              · refine G_iload (pc := 973) dL_law_973 rfl ?_
                                refine G_if_eq (pc := 975) (tgt := 980) dL_law_975 (Ri.mk (by omega) (by omega)) (by decide) (fun h_975 => ?_) (fun h_975 => ?_)
                                · try simp only [bI_eq0, bI_ne0] at h_975
                                  refine G_iinc (pc := 980) (lv' := [_, _, _, _, _, _, _, _, _, _, _, _, _, _, _]) dL_law_980 (by decide) rfl rfl ?_
                                  refine G_goto (pc := 983) (tgt := 799) dL_law_983 (by decide) ?_
                                  exact G_kill 10 rfl (G_kill 11 rfl (G_kill 12 rfl (G_kill 13 rfl (G_kill 14 rfl (ih (k + 1) _ _ (by omega) hO hC)))))
                                · exact absurd (n4 (by omega)) h_975
                      · refine G_iconst (pc := 941) dL_law_941 ?_
                        refine G_goto (pc := 942) (tgt := 946) dL_law_942 (by decide) ?_
                        refine G_iload (pc := 946) dL_law_946 rfl ?_
                        refine G_if_lt (pc := 948) (tgt := 955) dL_law_948 (Ri.mk (by omega) (by omega)) (by decide) (fun h_948 => ?_) (fun h_948 => ?_)
                        · refine G_iconst (pc := 955) dL_law_955 ?_
                          refine G_icmp_ne (pc := 956) (tgt := 978) dL_law_956 (Ri.mk (by omega) (by omega)) (Ri.mk (by omega) (by omega)) (by decide) (fun h_956 => ?_) (fun h_956 => ?_)
                          · exact absurd h_956 (by omega)
                          · refine G_iload (pc := 959) dL_law_959 rfl ?_
                            refine G_aload_n (pc := 961) dL_law_961 rfl ?_
                            refine G_iconst (pc := 962) dL_law_962 ?_
                            refine G_ialdv (pc := 963) dL_law_963 (by first | rfl | assumption) (by omega) (by omega) (by omega) (by omega) (hO 2 (by omega)) ?_
                            refine G_icmp_gt (pc := 964) (tgt := 978) dL_law_964 (Ri.mk (by omega) (by omega)) (Ri.mk (by omega) (by omega)) (by decide) (fun h_964 => ?_) (fun h_964 => ?_)
                            · exact absurd h_964 (by omega)
                            · refine G_iload_n (pc := 967) dL_law_967 rfl ?_
                              refine G_bipush (pc := 968) dL_law_968 (by decide) ?_
                              refine G_icmp_ge (pc := 970) (tgt := 980) dL_law_970 (Ri.mk (by omega) (by omega)) (Ri.mk (by omega) (by omega)) (by decide) (fun h_970 => ?_) (fun h_970 => ?_)
                              · refine G_iinc (pc := 980) (lv' := [_, _, _, _, _, _, _, _, _, _, _, _, _, _, _]) dL_law_980 (by decide) rfl rfl ?_
                                refine G_goto (pc := 983) (tgt := 799) dL_law_983 (by decide) ?_
                                exact G_kill 10 rfl (G_kill 11 rfl (G_kill 12 rfl (G_kill 13 rfl (G_kill 14 rfl (ih (k + 1) _ _ (by omega) hO hC)))))
                              · refine G_iload (pc := 973) dL_law_973 rfl ?_
                                refine G_if_eq (pc := 975) (tgt := 980) dL_law_975 (Ri.mk (by omega) (by omega)) (by decide) (fun h_975 => ?_) (fun h_975 => ?_)
                                · try simp only [bI_eq0, bI_ne0] at h_975
                                  refine G_iinc (pc := 980) (lv' := [_, _, _, _, _, _, _, _, _, _, _, _, _, _, _]) dL_law_980 (by decide) rfl rfl ?_
                                  refine G_goto (pc := 983) (tgt := 799) dL_law_983 (by decide) ?_
                                  exact G_kill 10 rfl (G_kill 11 rfl (G_kill 12 rfl (G_kill 13 rfl (G_kill 14 rfl (ih (k + 1) _ _ (by omega) hO hC)))))
                                · exact absurd (n4 (by omega)) h_975
                        · refine G_iconst (pc := 951) dL_law_951 ?_
                          refine G_goto (pc := 952) (tgt := 956) dL_law_952 (by decide) ?_
                          refine G_icmp_ne (pc := 956) (tgt := 978) dL_law_956 (Ri.mk (by omega) (by omega)) (Ri.mk (by omega) (by omega)) (by decide) (fun h_956 => ?_) (fun h_956 => ?_)
                          · exact absurd h_956 (by omega)
                          · refine G_iload (pc := 959) dL_law_959 rfl ?_
                            refine G_aload_n (pc := 961) dL_law_961 rfl ?_
                            refine G_iconst (pc := 962) dL_law_962 ?_
                            refine G_ialdv (pc := 963) dL_law_963 (by first | rfl | assumption) (by omega) (by omega) (by omega) (by omega) (hO 2 (by omega)) ?_
                            refine G_icmp_gt (pc := 964) (tgt := 978) dL_law_964 (Ri.mk (by omega) (by omega)) (Ri.mk (by omega) (by omega)) (by decide) (fun h_964 => ?_) (fun h_964 => ?_)
                            · exact absurd h_964 (by omega)
                            · refine G_iload_n (pc := 967) dL_law_967 rfl ?_
                              refine G_bipush (pc := 968) dL_law_968 (by decide) ?_
                              refine G_icmp_ge (pc := 970) (tgt := 980) dL_law_970 (Ri.mk (by omega) (by omega)) (Ri.mk (by omega) (by omega)) (by decide) (fun h_970 => ?_) (fun h_970 => ?_)
                              · refine G_iinc (pc := 980) (lv' := [_, _, _, _, _, _, _, _, _, _, _, _, _, _, _]) dL_law_980 (by decide) rfl rfl ?_
                                refine G_goto (pc := 983) (tgt := 799) dL_law_983 (by decide) ?_
                                exact G_kill 10 rfl (G_kill 11 rfl (G_kill 12 rfl (G_kill 13 rfl (G_kill 14 rfl (ih (k + 1) _ _ (by omega) hO hC)))))
                              · refine G_iload (pc := 973) dL_law_973 rfl ?_
                                refine G_if_eq (pc := 975) (tgt := 980) dL_law_975 (Ri.mk (by omega) (by omega)) (by decide) (fun h_975 => ?_) (fun h_975 => ?_)
                                · try simp only [bI_eq0, bI_ne0] at h_975
                                  refine G_iinc (pc := 980) (lv' := [_, _, _, _, _, _, _, _, _, _, _, _, _, _, _]) dL_law_980 (by decide) rfl rfl ?_
                                  refine G_goto (pc := 983) (tgt := 799) dL_law_983 (by decide) ?_
                                  exact G_kill 10 rfl (G_kill 11 rfl (G_kill 12 rfl (G_kill 13 rfl (G_kill 14 rfl (ih (k + 1) _ _ (by omega) hO hC)))))
                                · exact absurd (n4 (by omega)) h_975
          · exact absurd h_841 (by omega)
        | succ r2 ih2 =>
          intro i was I J hi hw hO hC
          obtain ⟨p, p1, p2, p3, p4⟩ := f_one (hs := hs) (C := C) (z := z) (i := i) hz (by rw [← hc]; omega)
          have hwas : was < (p : Int) := by
            rcases hw with ⟨-, h⟩ | ⟨q, h1, -, h2⟩
            · omega
            · have := sumN_lt (th := (NS hs C z (C 0 0)).1) (p := q) (q := p) (by omega)
              omega
          have hwR : -1 ≤ was := by
            rcases hw with ⟨-, h⟩ | ⟨q, h1, -, h2⟩ <;> omega
          refine G_iload (pc := 837) dL_law_837 rfl ?_
          refine G_iload (pc := 839) dL_law_839 rfl ?_
          refine G_icmp_ge (pc := 841) (tgt := 879) dL_law_841 (Ri.mk (by omega) (by omega)) (Ri.mk (by omega) (by omega)) (by decide) (fun h_841 => ?_) (fun h_841 => ?_)
          · exact absurd h_841 (by omega)
          · refine G_aload_n (pc := 844) dL_law_844 rfl ?_
            refine G_iload (pc := 845) dL_law_845 rfl ?_
            refine G_iload (pc := 847) dL_law_847 rfl ?_
            refine G_callV (pc := 849) (md := mdX11_one) (av := [_, _]) dL_law_849 lkL_119 mwX11_one (x_one _ _ (by omega) hC hW (Ri.mk (by omega) (by omega)) (Ri.mk (by omega) (by omega))) rfl (by first | rfl | assumption) (by omega) rfl rfl (Nat.le_of_ble_eq_true rfl) ⟨Nat.le_of_ble_eq_true rfl, Nat.le_of_ble_eq_true rfl⟩ ⟨Nat.le_of_ble_eq_true rfl, Nat.le_of_ble_eq_true rfl⟩ ?_
            rintro v I1 J1 ⟨rfl, hf, -, hC⟩
            replace hO := hO.off hf
            clear hf
            rw [p2]
            refine G_istore (pc := 852) (lv' := [_, _, _, _, _, _, _, _, _, _, _, _, _, _, _]) dL_law_852 (by decide) rfl ?_
            refine G_iload (pc := 854) dL_law_854 rfl ?_
            refine G_iload (pc := 856) dL_law_856 rfl ?_
            refine G_icmp_le (pc := 858) (tgt := 867) dL_law_858 (Ri.mk (by omega) (by omega)) (Ri.mk (by omega) (by omega)) (by decide) (fun h_858 => ?_) (fun h_858 => ?_)
            · exact absurd h_858 (by omega)
            · refine G_iload (pc := 861) dL_law_861 rfl ?_
              refine G_iload_n (pc := 863) dL_law_863 rfl ?_
              refine G_icmp_lt (pc := 864) (tgt := 869) dL_law_864 (Ri.mk (by omega) (by omega)) (Ri.mk (by omega) (by omega)) (by decide) (fun h_864 => ?_) (fun h_864 => ?_)
              · refine G_iload (pc := 869) dL_law_869 rfl ?_
                refine G_istore (pc := 871) (lv' := [_, _, _, _, _, _, _, _, _, _, _, _, _, _, _]) dL_law_871 (by decide) rfl ?_
                refine G_iinc (pc := 873) (lv' := [_, _, _, _, _, _, _, _, _, _, _, _, _, _, _]) dL_law_873 (by decide) rfl rfl ?_
                refine G_goto (pc := 876) (tgt := 837) dL_law_876 (by decide) ?_
                exact G_kill 14 rfl (ih2 (i + 1) _ _ _ (by omega) (Or.inr ⟨p, rfl, p1, by omega⟩) hO hC)
              · exact absurd h_864 (by omega)
      refine G_iload (pc := 799) dL_law_799 rfl ?_
      refine G_iconst (pc := 801) dL_law_801 ?_
      refine G_icmp_ge (pc := 802) (tgt := 986) dL_law_802 (Ri.mk (by omega) (by omega)) (Ri.mk (by omega) (by omega)) (by decide) (fun h_802 => ?_) (fun h_802 => ?_)
      · exact absurd h_802 (by omega)
      · refine G_aload_n (pc := 805) dL_law_805 rfl ?_
        refine G_bipush (pc := 806) dL_law_806 (by decide) ?_
        refine G_iload (pc := 808) dL_law_808 rfl ?_
        refine G_iadd (pc := 810) dL_law_810 ?_
        refine G_callX (pc := 811) (md := mdL_cell) (av := [_, _]) XLw.x dL_law_811 lkL_19 mwL_cell (c_cell hL _ (by omega) (by omega)) rfl rfl (Nat.le_of_ble_eq_true rfl) ⟨Nat.le_of_ble_eq_true rfl, Nat.le_of_ble_eq_true rfl⟩ ⟨Nat.le_of_ble_eq_true rfl, Nat.le_of_ble_eq_true rfl⟩ ?_
        rintro v I1 J1 ⟨⟨y, rfl⟩, rfl, rfl⟩
        refine G_sipush (pc := 814) dL_law_814 (by decide) ?_
        refine G_callS (pc := 817) (md := mdL_low) (av := [_, _]) dL_law_817 lkL_25 mwL_low (c_low _ _ (by omega) (Ri.mk (by omega) (by omega))) rfl rfl (Nat.le_of_ble_eq_true rfl) ⟨Nat.le_of_ble_eq_true rfl, Nat.le_of_ble_eq_true rfl⟩ ⟨Nat.le_of_ble_eq_true rfl, Nat.le_of_ble_eq_true rfl⟩ ?_
        rintro v I2 J2 ⟨⟨z, hz, rfl⟩, rfl, rfl⟩
        have hz : z < 10000 := by omega
        refine G_istore (pc := 820) (lv' := [_, _, _, _, _, _, _, _, _, _, _, _, _, _, _]) dL_law_820 (by decide) rfl ?_
        refine G_aload_n (pc := 822) dL_law_822 rfl ?_
        refine G_iload (pc := 823) dL_law_823 rfl ?_
        refine G_iconst (pc := 825) dL_law_825 ?_
        refine G_callV (pc := 826) (md := mdX11_night) (av := [_, _]) dL_law_826 lkL_116 mwX11_night (x_night _ _ (by omega) hC hW (Ri.mk (by omega) (by omega)) (Ri.mk (by omega) (by omega))) rfl (by first | rfl | assumption) (by omega) rfl rfl (Nat.le_of_ble_eq_true rfl) ⟨Nat.le_of_ble_eq_true rfl, Nat.le_of_ble_eq_true rfl⟩ ⟨Nat.le_of_ble_eq_true rfl, Nat.le_of_ble_eq_true rfl⟩ ?_
        rintro v I3 J3 ⟨rfl, hf, -, hC⟩
        replace hO := hO.off hf
        clear hf
        rw [(f_night hs C hz).1]
        refine G_istore (pc := 829) (lv' := [_, _, _, _, _, _, _, _, _, _, _, _, _, _, _]) dL_law_829 (by decide) rfl ?_
        refine G_iconst (pc := 831) dL_law_831 ?_
        refine G_istore (pc := 832) (lv' := [_, _, _, _, _, _, _, _, _, _, _, _, _, _, _]) dL_law_832 (by decide) rfl ?_
        refine G_iconst (pc := 834) dL_law_834 ?_
        refine G_istore (pc := 835) (lv' := [_, _, _, _, _, _, _, _, _, _, _, _, _, _, _]) dL_law_835 (by decide) rfl ?_
        exact inner z hz (cnN hs C z (C 0 0)) 0 _ _ _ (by omega) (Or.inl ⟨rfl, rfl⟩) hO hC
  refine G_iconst (pc := 796) dL_law_796 ?_
  refine G_istore (pc := 797) (lv' := [_, _, _, _, _, _, _, _, _, _, _, _, _, _, _]) dL_law_797 (by decide) rfl ?_
  exact outer 4 0 _ _ (by omega) hO hC
theorem la_people (hL : L ≤ 260) (hD : DRo o) (hH : HOo o hs) (hO : OI I o) (hC : CI I n tx hs C 0 K) (hW : WF n tx hs C 0 K) (hT : C 3 0 = 0) (hR : C 0 0 = o 2) : GW E b L xs I J 704 [some (.ref b), some (vr E 0), some (vr E 71), some (vi (aP o (o 0) : Nat)), none, none, none, none, none, none, none, none, none, none, none] [] := by
  have hB := hW.2.2.1
  have d0 := hD.1
  have d1 := hD.2.1
  have e8 := hH.1
  have e9 := hH.2.1
  obtain ⟨g1, g2, g3⟩ := f_people hB
  have g20 := g2 0 (Or.inl rfl)
  have g21 := g2 1 (Or.inr rfl)
  obtain ⟨t1, t2, t3, t4⟩ := f_tells (hs := hs)
  have s757 : ∀ (I J : Nat → Nat → Int), OI I o → CI I n tx hs C 0 K → GW E b L xs I J 757 [some (.ref b), some (vr E 0), some (vr E 71), some (vi (aP o (o 0) : Nat)), none, none, none, none, none, none, none, none, none, none, none] [] := by
    intro I J hO hC
    refine G_aload_n (pc := 757) dL_law_757 rfl ?_
    refine G_iconst (pc := 758) dL_law_758 ?_
    refine G_ialdv (pc := 759) dL_law_759 (by first | rfl | assumption) (by omega) (by omega) (by omega) (by omega) (hO 1 (by omega)) ?_
    refine G_iconst (pc := 760) dL_law_760 ?_
    refine G_icmp_le (pc := 761) (tgt := 768) dL_law_761 (Ri.mk (by omega) (by omega)) (Ri.mk (by omega) (by omega)) (by decide) (fun h_761 => ?_) (fun h_761 => ?_)
    · refine G_iconst (pc := 768) dL_law_768 ?_
      refine G_aload_n (pc := 769) dL_law_769 rfl ?_
      refine G_callV (pc := 770) (md := mdX11_tells) (av := []) dL_law_770 lkL_113 mwX11_tells (x_tells (by omega) hC hW ) rfl (by first | rfl | assumption) (by omega) rfl rfl (Nat.le_of_ble_eq_true rfl) ⟨Nat.le_of_ble_eq_true rfl, Nat.le_of_ble_eq_true rfl⟩ ⟨Nat.le_of_ble_eq_true rfl, Nat.le_of_ble_eq_true rfl⟩ ?_
      rintro v I770 J770 ⟨rfl, hf, -, hC⟩
      replace hO := hO.off hf
      clear hf
      refine G_if_lt (pc := 773) (tgt := 780) dL_law_773 (Ri.mk (by omega) (by omega)) (by decide) (fun h_773 => ?_) (fun h_773 => ?_)
      · refine G_iconst (pc := 780) dL_law_780 ?_
        refine G_icmp_ne (pc := 781) (tgt := 794) dL_law_781 (Ri.mk (by omega) (by omega)) (Ri.mk (by omega) (by omega)) (by decide) (fun h_781 => ?_) (fun h_781 => ?_)
        · exact absurd h_781 (by omega)
        · refine G_aload_n (pc := 784) dL_law_784 rfl ?_
          refine G_callV (pc := 785) (md := mdX11_tells) (av := []) dL_law_785 lkL_113 mwX11_tells (x_tells (by omega) hC hW ) rfl (by first | rfl | assumption) (by omega) rfl rfl (Nat.le_of_ble_eq_true rfl) ⟨Nat.le_of_ble_eq_true rfl, Nat.le_of_ble_eq_true rfl⟩ ⟨Nat.le_of_ble_eq_true rfl, Nat.le_of_ble_eq_true rfl⟩ ?_
          rintro v I785 J785 ⟨rfl, hf, -, hC⟩
          replace hO := hO.off hf
          clear hf
          refine G_aload_n (pc := 788) dL_law_788 rfl ?_
          refine G_iconst (pc := 789) dL_law_789 ?_
          refine G_ialdv (pc := 790) dL_law_790 (by first | rfl | assumption) (by omega) (by omega) (by omega) (by omega) (hO 1 (by omega)) ?_
          refine G_icmp_lt (pc := 791) (tgt := 796) dL_law_791 (Ri.mk (by omega) (by omega)) (Ri.mk (by omega) (by omega)) (by decide) (fun h_791 => ?_) (fun h_791 => ?_)
          · exact la_nights hL hD hH hO hC hW hT hR
          · exact absurd h_791 (by omega)
      · refine G_iconst (pc := 776) dL_law_776 ?_
        refine G_goto (pc := 777) (tgt := 781) dL_law_777 (by decide) ?_
        refine G_icmp_ne (pc := 781) (tgt := 794) dL_law_781 (Ri.mk (by omega) (by omega)) (Ri.mk (by omega) (by omega)) (by decide) (fun h_781 => ?_) (fun h_781 => ?_)
        · exact absurd h_781 (by omega)
        · refine G_aload_n (pc := 784) dL_law_784 rfl ?_
          refine G_callV (pc := 785) (md := mdX11_tells) (av := []) dL_law_785 lkL_113 mwX11_tells (x_tells (by omega) hC hW ) rfl (by first | rfl | assumption) (by omega) rfl rfl (Nat.le_of_ble_eq_true rfl) ⟨Nat.le_of_ble_eq_true rfl, Nat.le_of_ble_eq_true rfl⟩ ⟨Nat.le_of_ble_eq_true rfl, Nat.le_of_ble_eq_true rfl⟩ ?_
          rintro v I785 J785 ⟨rfl, hf, -, hC⟩
          replace hO := hO.off hf
          clear hf
          refine G_aload_n (pc := 788) dL_law_788 rfl ?_
          refine G_iconst (pc := 789) dL_law_789 ?_
          refine G_ialdv (pc := 790) dL_law_790 (by first | rfl | assumption) (by omega) (by omega) (by omega) (by omega) (hO 1 (by omega)) ?_
          refine G_icmp_lt (pc := 791) (tgt := 796) dL_law_791 (Ri.mk (by omega) (by omega)) (Ri.mk (by omega) (by omega)) (by decide) (fun h_791 => ?_) (fun h_791 => ?_)
          · exact la_nights hL hD hH hO hC hW hT hR
          · exact absurd h_791 (by omega)
    · refine G_iconst (pc := 764) dL_law_764 ?_
      refine G_goto (pc := 765) (tgt := 769) dL_law_765 (by decide) ?_
      refine G_aload_n (pc := 769) dL_law_769 rfl ?_
      refine G_callV (pc := 770) (md := mdX11_tells) (av := []) dL_law_770 lkL_113 mwX11_tells (x_tells (by omega) hC hW ) rfl (by first | rfl | assumption) (by omega) rfl rfl (Nat.le_of_ble_eq_true rfl) ⟨Nat.le_of_ble_eq_true rfl, Nat.le_of_ble_eq_true rfl⟩ ⟨Nat.le_of_ble_eq_true rfl, Nat.le_of_ble_eq_true rfl⟩ ?_
      rintro v I770 J770 ⟨rfl, hf, -, hC⟩
      replace hO := hO.off hf
      clear hf
      refine G_if_lt (pc := 773) (tgt := 780) dL_law_773 (Ri.mk (by omega) (by omega)) (by decide) (fun h_773 => ?_) (fun h_773 => ?_)
      · refine G_iconst (pc := 780) dL_law_780 ?_
        refine G_icmp_ne (pc := 781) (tgt := 794) dL_law_781 (Ri.mk (by omega) (by omega)) (Ri.mk (by omega) (by omega)) (by decide) (fun h_781 => ?_) (fun h_781 => ?_)
        · exact absurd h_781 (by omega)
        · refine G_aload_n (pc := 784) dL_law_784 rfl ?_
          refine G_callV (pc := 785) (md := mdX11_tells) (av := []) dL_law_785 lkL_113 mwX11_tells (x_tells (by omega) hC hW ) rfl (by first | rfl | assumption) (by omega) rfl rfl (Nat.le_of_ble_eq_true rfl) ⟨Nat.le_of_ble_eq_true rfl, Nat.le_of_ble_eq_true rfl⟩ ⟨Nat.le_of_ble_eq_true rfl, Nat.le_of_ble_eq_true rfl⟩ ?_
          rintro v I785 J785 ⟨rfl, hf, -, hC⟩
          replace hO := hO.off hf
          clear hf
          refine G_aload_n (pc := 788) dL_law_788 rfl ?_
          refine G_iconst (pc := 789) dL_law_789 ?_
          refine G_ialdv (pc := 790) dL_law_790 (by first | rfl | assumption) (by omega) (by omega) (by omega) (by omega) (hO 1 (by omega)) ?_
          refine G_icmp_lt (pc := 791) (tgt := 796) dL_law_791 (Ri.mk (by omega) (by omega)) (Ri.mk (by omega) (by omega)) (by decide) (fun h_791 => ?_) (fun h_791 => ?_)
          · exact la_nights hL hD hH hO hC hW hT hR
          · exact absurd h_791 (by omega)
      · refine G_iconst (pc := 776) dL_law_776 ?_
        refine G_goto (pc := 777) (tgt := 781) dL_law_777 (by decide) ?_
        refine G_icmp_ne (pc := 781) (tgt := 794) dL_law_781 (Ri.mk (by omega) (by omega)) (Ri.mk (by omega) (by omega)) (by decide) (fun h_781 => ?_) (fun h_781 => ?_)
        · exact absurd h_781 (by omega)
        · refine G_aload_n (pc := 784) dL_law_784 rfl ?_
          refine G_callV (pc := 785) (md := mdX11_tells) (av := []) dL_law_785 lkL_113 mwX11_tells (x_tells (by omega) hC hW ) rfl (by first | rfl | assumption) (by omega) rfl rfl (Nat.le_of_ble_eq_true rfl) ⟨Nat.le_of_ble_eq_true rfl, Nat.le_of_ble_eq_true rfl⟩ ⟨Nat.le_of_ble_eq_true rfl, Nat.le_of_ble_eq_true rfl⟩ ?_
          rintro v I785 J785 ⟨rfl, hf, -, hC⟩
          replace hO := hO.off hf
          clear hf
          refine G_aload_n (pc := 788) dL_law_788 rfl ?_
          refine G_iconst (pc := 789) dL_law_789 ?_
          refine G_ialdv (pc := 790) dL_law_790 (by first | rfl | assumption) (by omega) (by omega) (by omega) (by omega) (hO 1 (by omega)) ?_
          refine G_icmp_lt (pc := 791) (tgt := 796) dL_law_791 (Ri.mk (by omega) (by omega)) (Ri.mk (by omega) (by omega)) (by decide) (fun h_791 => ?_) (fun h_791 => ?_)
          · exact la_nights hL hD hH hO hC hW hT hR
          · exact absurd h_791 (by omega)
  have s740 : ∀ (I J : Nat → Nat → Int), OI I o → CI I n tx hs C 0 K → GW E b L xs I J 740 [some (.ref b), some (vr E 0), some (vr E 71), some (vi (aP o (o 0) : Nat)), none, none, none, none, none, none, none, none, none, none, none] [] := by
    intro I J hO hC
    refine G_aload_n (pc := 740) dL_law_740 rfl ?_
    refine G_iconst (pc := 741) dL_law_741 ?_
    refine G_ialdv (pc := 742) dL_law_742 (by first | rfl | assumption) (by omega) (by omega) (by omega) (by omega) (hO 0 (by omega)) ?_
    refine G_iconst (pc := 743) dL_law_743 ?_
    refine G_icmp_ne (pc := 744) (tgt := 757) dL_law_744 (Ri.mk (by omega) (by omega)) (Ri.mk (by omega) (by omega)) (by decide) (fun h_744 => ?_) (fun h_744 => ?_)
    · exact s757 _ _ hO hC
    · refine G_aload_n (pc := 747) dL_law_747 rfl ?_
      refine G_iconst (pc := 748) dL_law_748 ?_
      refine G_callV (pc := 749) (md := mdX11_people) (av := [_]) dL_law_749 lkL_108 mwX11_people (x_people _ (by omega) hC hW (Ri.mk (by omega) (by omega))) rfl (by first | rfl | assumption) (by omega) rfl rfl (Nat.le_of_ble_eq_true rfl) ⟨Nat.le_of_ble_eq_true rfl, Nat.le_of_ble_eq_true rfl⟩ ⟨Nat.le_of_ble_eq_true rfl, Nat.le_of_ble_eq_true rfl⟩ ?_
      rintro v I749 J749 ⟨rfl, hf, -, hC⟩
      replace hO := hO.off hf
      clear hf
      refine G_lconst0 (pc := 752) dL_law_752 ?_
      refine G_lc_gt (pc := 753) (tgt := 794) dL_law_753 dL_law_754 (Rl.mk (by omega) (by omega)) (Rl.mk (by omega) (by omega)) (by decide) (fun h_753 => ?_) (fun h_753 => ?_)
      · exact absurd h_753 (by omega)
      · exact s757 _ _ hO hC
  refine G_aload_n (pc := 704) dL_law_704 rfl ?_
  refine G_iconst (pc := 705) dL_law_705 ?_
  refine G_callV (pc := 706) (md := mdX11_people) (av := [_]) dL_law_706 lkL_108 mwX11_people (x_people _ (by omega) hC hW (Ri.mk (by omega) (by omega))) rfl (by first | rfl | assumption) (by omega) rfl rfl (Nat.le_of_ble_eq_true rfl) ⟨Nat.le_of_ble_eq_true rfl, Nat.le_of_ble_eq_true rfl⟩ ⟨Nat.le_of_ble_eq_true rfl, Nat.le_of_ble_eq_true rfl⟩ ?_
  rintro v I706 J706 ⟨rfl, hf, -, hC⟩
  replace hO := hO.off hf
  clear hf
  refine G_ldc2 (pc := 709) dL_law_709 klL_111 ?_
  refine G_lc_eq (pc := 712) (tgt := 740) dL_law_712 dL_law_713 (Rl.mk (by omega) (by omega)) (Rl.mk (by omega) (by omega)) (by decide) (fun h_712 => ?_) (fun h_712 => ?_)
  · exact s740 _ _ hO hC
  · refine G_aload_n (pc := 716) dL_law_716 rfl ?_
    refine G_iconst (pc := 717) dL_law_717 ?_
    refine G_callV (pc := 718) (md := mdX11_people) (av := [_]) dL_law_718 lkL_108 mwX11_people (x_people _ (by omega) hC hW (Ri.mk (by omega) (by omega))) rfl (by first | rfl | assumption) (by omega) rfl rfl (Nat.le_of_ble_eq_true rfl) ⟨Nat.le_of_ble_eq_true rfl, Nat.le_of_ble_eq_true rfl⟩ ⟨Nat.le_of_ble_eq_true rfl, Nat.le_of_ble_eq_true rfl⟩ ?_
    rintro v I718 J718 ⟨rfl, hf, -, hC⟩
    replace hO := hO.off hf
    clear hf
    refine G_lconst0 (pc := 721) dL_law_721 ?_
    refine G_lc_lt (pc := 722) (tgt := 794) dL_law_722 dL_law_723 (Rl.mk (by omega) (by omega)) (Rl.mk (by omega) (by omega)) (by decide) (fun h_722 => ?_) (fun h_722 => ?_)
    · exact absurd h_722 (by omega)
    · refine G_aload_n (pc := 726) dL_law_726 rfl ?_
      refine G_iconst (pc := 727) dL_law_727 ?_
      refine G_callV (pc := 728) (md := mdX11_people) (av := [_]) dL_law_728 lkL_108 mwX11_people (x_people _ (by omega) hC hW (Ri.mk (by omega) (by omega))) rfl (by first | rfl | assumption) (by omega) rfl rfl (Nat.le_of_ble_eq_true rfl) ⟨Nat.le_of_ble_eq_true rfl, Nat.le_of_ble_eq_true rfl⟩ ⟨Nat.le_of_ble_eq_true rfl, Nat.le_of_ble_eq_true rfl⟩ ?_
      rintro v I728 J728 ⟨rfl, hf, -, hC⟩
      replace hO := hO.off hf
      clear hf
      refine G_aload_n (pc := 731) dL_law_731 rfl ?_
      refine G_iconst (pc := 732) dL_law_732 ?_
      refine G_callV (pc := 733) (md := mdX11_people) (av := [_]) dL_law_733 lkL_108 mwX11_people (x_people _ (by omega) hC hW (Ri.mk (by omega) (by omega))) rfl (by first | rfl | assumption) (by omega) rfl rfl (Nat.le_of_ble_eq_true rfl) ⟨Nat.le_of_ble_eq_true rfl, Nat.le_of_ble_eq_true rfl⟩ ⟨Nat.le_of_ble_eq_true rfl, Nat.le_of_ble_eq_true rfl⟩ ?_
      rintro v I733 J733 ⟨rfl, hf, -, hC⟩
      replace hO := hO.off hf
      clear hf
      refine G_lc_gt (pc := 736) (tgt := 794) dL_law_736 dL_law_737 (Rl.mk (by omega) (by omega)) (Rl.mk (by omega) (by omega)) (by decide) (fun h_736 => ?_) (fun h_736 => ?_)
      · exact absurd h_736 (by omega)
      · exact s740 _ _ hO hC
end LAWB

