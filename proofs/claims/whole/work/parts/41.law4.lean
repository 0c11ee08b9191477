/-! THE LAW: its cases -/
theorem lc_forget {E : EV} {b L : Nat} {xs : Nat → Int32} (hL : L ≤ 2560) (i : Nat) (hi : i + 5 ≤ L) {I J : Nat → Nat → Int} {S : ST} (hC : CIS I S) (hMm : MIS I S) (hW : WFS S) (fin : ∀ (S' : ST) (I' J' : Nat → Nat → Int), CIS I' S' → MIS I' S' → WFS S' → GL E b L xs 87 I' J' Rf 87 1929 956 [some (.ref b), some (vr E 0), some (vr E 71), some (vi (i : Int))] []) : GL E b L xs 87 I J Rf 87 1929 771 [some (.ref b), some (vr E 0), some (vr E 71), some (vi (i : Int))] [] := by
  obtain ⟨n, tx, hs, C, kn, K⟩ := S
  have hC : CI I n tx hs C kn K := hC
  have hMm : MI I n tx hs C kn K := hMm
  have hW : WF n tx hs C kn K := hW
  refine G_aload_n (pc := 771) dL_law_771 rfl ?_
  refine G_callV (pc := 772) (md := mdX11_forget) (av := []) dL_law_772 lkL_102 mwX11_forget (x_forget  (by omega) hC hW ) rfl (by first | rfl | assumption) (by omega) rfl rfl (Nat.le_of_ble_eq_true rfl) ⟨Nat.le_of_ble_eq_true rfl, Nat.le_of_ble_eq_true rfl⟩ ⟨Nat.le_of_ble_eq_true rfl, Nat.le_of_ble_eq_true rfl⟩ ?_
  rintro v I1 J1 ⟨rfl, hOI, -, hC1⟩
  have hM1 : MI I1 n tx hs C kn K := hMm.off (by rw [hOI 71 (by omega)]) (by rw [hOI 71 (by omega)]) (fun q a b => hOI q (by omega))
  refine G_aload_n (pc := 775) dL_law_775 rfl ?_
  refine G_callV (pc := 776) (md := mdX12_forget) (av := []) dL_law_776 lkL_105 mwX12_forget (y_forget  (by omega) hM1 hW ) rfl (by first | rfl | assumption) (by omega) rfl rfl (Nat.le_of_ble_eq_true rfl) ⟨Nat.le_of_ble_eq_true rfl, Nat.le_of_ble_eq_true rfl⟩ ⟨Nat.le_of_ble_eq_true rfl, Nat.le_of_ble_eq_true rfl⟩ ?_
  rintro v I2 J2 ⟨rfl, hOI2, -, hM2⟩
  have hC2 := CI.off (I' := I2) hC1 (fun q h => hOI2 q (by omega))
  refine G_same (pc := 779) (tgt := 956) dL_law_779 (by decide) ?_
  exact fin (sForget (n, tx, hs, C, kn, K)) I2 _ hC2 hM2 (W_forget (S := (n, tx, hs, C, kn, K)) hW)
theorem lc_man {E : EV} {b L : Nat} {xs : Nat → Int32} (hL : L ≤ 2560) (i : Nat) (hi : i + 5 ≤ L) {I J : Nat → Nat → Int} {S : ST} (hC : CIS I S) (hMm : MIS I S) (hW : WFS S) (fin : ∀ (S' : ST) (I' J' : Nat → Nat → Int), CIS I' S' → MIS I' S' → WFS S' → GL E b L xs 87 I' J' Rf 87 1929 956 [some (.ref b), some (vr E 0), some (vr E 71), some (vi (i : Int))] []) : GL E b L xs 87 I J Rf 87 1929 784 [some (.ref b), some (vr E 0), some (vr E 71), some (vi (i : Int))] [] := by
  obtain ⟨n, tx, hs, C, kn, K⟩ := S
  have hC : CI I n tx hs C kn K := hC
  have hMm : MI I n tx hs C kn K := hMm
  have hW : WF n tx hs C kn K := hW
  refine G_aload_n (pc := 784) dL_law_784 rfl ?_
  refine G_aload_n (pc := 785) dL_law_785 rfl ?_
  refine G_iload_n (pc := 786) dL_law_786 rfl ?_
  refine G_iconst (pc := 787) dL_law_787 ?_
  refine G_iadd (pc := 788) dL_law_788 ?_
  refine GL_sld (pc := 789) dL_law_789 hL (by omega) (by omega) ?_
  refine G_callV (pc := 790) (md := mdX11_man) (av := [_]) dL_law_790 lkL_106 mwX11_man (x_man _ (by omega) hC hW (Ri_toInt _)) rfl (by first | rfl | assumption) (by omega) rfl rfl (Nat.le_of_ble_eq_true rfl) ⟨Nat.le_of_ble_eq_true rfl, Nat.le_of_ble_eq_true rfl⟩ ⟨Nat.le_of_ble_eq_true rfl, Nat.le_of_ble_eq_true rfl⟩ ?_
  rintro v I1 J1 ⟨rfl, hOI, -, hC1⟩
  have hM1 : MI I1 n tx hs C kn K := hMm.off (by rw [hOI 71 (by omega)]) (by rw [hOI 71 (by omega)]) (fun q a b => hOI q (by omega))
  refine G_aload_n (pc := 793) dL_law_793 rfl ?_
  refine G_aload_n (pc := 794) dL_law_794 rfl ?_
  refine G_iload_n (pc := 795) dL_law_795 rfl ?_
  refine G_iconst (pc := 796) dL_law_796 ?_
  refine G_iadd (pc := 797) dL_law_797 ?_
  refine GL_sld (pc := 798) dL_law_798 hL (by omega) (by omega) ?_
  refine G_callV (pc := 799) (md := mdX12_man) (av := [_]) dL_law_799 lkL_109 mwX12_man (y_man _ (by omega) hM1 hW (Ri_toInt _)) rfl (by first | rfl | assumption) (by omega) rfl rfl (Nat.le_of_ble_eq_true rfl) ⟨Nat.le_of_ble_eq_true rfl, Nat.le_of_ble_eq_true rfl⟩ ⟨Nat.le_of_ble_eq_true rfl, Nat.le_of_ble_eq_true rfl⟩ ?_
  rintro v I2 J2 ⟨rfl, hOI2, -, hM2⟩
  have hC2 := CI.off (I' := I2) hC1 (fun q h => hOI2 q (by omega))
  refine G_lsame (pc := 802) (tgt := 956) dL_law_802 dL_law_803 (by decide) ?_
  exact fin ((n, tx, hs, C, kn, K)) I2 _ hC2 hM2 (hW)
theorem lc_night {E : EV} {b L : Nat} {xs : Nat → Int32} (hL : L ≤ 2560) (i : Nat) (hi : i + 5 ≤ L) {I J : Nat → Nat → Int} {S : ST} (hC : CIS I S) (hMm : MIS I S) (hW : WFS S) (fin : ∀ (S' : ST) (I' J' : Nat → Nat → Int), CIS I' S' → MIS I' S' → WFS S' → GL E b L xs 87 I' J' Rf 87 1929 956 [some (.ref b), some (vr E 0), some (vr E 71), some (vi (i : Int))] []) : GL E b L xs 87 I J Rf 87 1929 808 [some (.ref b), some (vr E 0), some (vr E 71), some (vi (i : Int))] [] := by
  obtain ⟨n, tx, hs, C, kn, K⟩ := S
  have hC : CI I n tx hs C kn K := hC
  have hMm : MI I n tx hs C kn K := hMm
  have hW : WF n tx hs C kn K := hW
  refine G_aload_n (pc := 808) dL_law_808 rfl ?_
  refine G_aload_n (pc := 809) dL_law_809 rfl ?_
  refine G_iload_n (pc := 810) dL_law_810 rfl ?_
  refine G_iconst (pc := 811) dL_law_811 ?_
  refine G_iadd (pc := 812) dL_law_812 ?_
  refine GL_sld (pc := 813) dL_law_813 hL (by omega) (by omega) ?_
  refine G_aload_n (pc := 814) dL_law_814 rfl ?_
  refine G_iload_n (pc := 815) dL_law_815 rfl ?_
  refine G_iconst (pc := 816) dL_law_816 ?_
  refine G_iadd (pc := 817) dL_law_817 ?_
  refine GL_sld (pc := 818) dL_law_818 hL (by omega) (by omega) ?_
  refine G_callV (pc := 819) (md := mdX11_night) (av := [_, _]) dL_law_819 lkL_110 mwX11_night (x_night _ _ (by omega) hC hW (Ri_toInt _) (Ri_toInt _)) rfl (by first | rfl | assumption) (by omega) rfl rfl (Nat.le_of_ble_eq_true rfl) ⟨Nat.le_of_ble_eq_true rfl, Nat.le_of_ble_eq_true rfl⟩ ⟨Nat.le_of_ble_eq_true rfl, Nat.le_of_ble_eq_true rfl⟩ ?_
  rintro v I1 J1 ⟨rfl, hOI, -, hC1⟩
  have hM1 : MI I1 n tx hs C kn K := hMm.off (by rw [hOI 71 (by omega)]) (by rw [hOI 71 (by omega)]) (fun q a b => hOI q (by omega))
  refine G_aload_n (pc := 822) dL_law_822 rfl ?_
  refine G_aload_n (pc := 823) dL_law_823 rfl ?_
  refine G_iload_n (pc := 824) dL_law_824 rfl ?_
  refine G_iconst (pc := 825) dL_law_825 ?_
  refine G_iadd (pc := 826) dL_law_826 ?_
  refine GL_sld (pc := 827) dL_law_827 hL (by omega) (by omega) ?_
  refine G_aload_n (pc := 828) dL_law_828 rfl ?_
  refine G_iload_n (pc := 829) dL_law_829 rfl ?_
  refine G_iconst (pc := 830) dL_law_830 ?_
  refine G_iadd (pc := 831) dL_law_831 ?_
  refine GL_sld (pc := 832) dL_law_832 hL (by omega) (by omega) ?_
  refine G_callV (pc := 833) (md := mdX12_night) (av := [_, _]) dL_law_833 lkL_113 mwX12_night (y_night _ _ (by omega) hM1 hW (Ri_toInt _) (Ri_toInt _)) rfl (by first | rfl | assumption) (by omega) rfl rfl (Nat.le_of_ble_eq_true rfl) ⟨Nat.le_of_ble_eq_true rfl, Nat.le_of_ble_eq_true rfl⟩ ⟨Nat.le_of_ble_eq_true rfl, Nat.le_of_ble_eq_true rfl⟩ ?_
  rintro v I2 J2 ⟨rfl, hOI2, -, hM2⟩
  have hC2 := CI.off (I' := I2) hC1 (fun q h => hOI2 q (by omega))
  refine G_same (pc := 836) (tgt := 956) dL_law_836 (by decide) ?_
  exact fin ((n, tx, hs, C, kn, K)) I2 _ hC2 hM2 (hW)
theorem lc_one {E : EV} {b L : Nat} {xs : Nat → Int32} (hL : L ≤ 2560) (i : Nat) (hi : i + 5 ≤ L) {I J : Nat → Nat → Int} {S : ST} (hC : CIS I S) (hMm : MIS I S) (hW : WFS S) (fin : ∀ (S' : ST) (I' J' : Nat → Nat → Int), CIS I' S' → MIS I' S' → WFS S' → GL E b L xs 87 I' J' Rf 87 1929 956 [some (.ref b), some (vr E 0), some (vr E 71), some (vi (i : Int))] []) : GL E b L xs 87 I J Rf 87 1929 841 [some (.ref b), some (vr E 0), some (vr E 71), some (vi (i : Int))] [] := by
  obtain ⟨n, tx, hs, C, kn, K⟩ := S
  have hC : CI I n tx hs C kn K := hC
  have hMm : MI I n tx hs C kn K := hMm
  have hW : WF n tx hs C kn K := hW
  refine G_aload_n (pc := 841) dL_law_841 rfl ?_
  refine G_aload_n (pc := 842) dL_law_842 rfl ?_
  refine G_iload_n (pc := 843) dL_law_843 rfl ?_
  refine G_iconst (pc := 844) dL_law_844 ?_
  refine G_iadd (pc := 845) dL_law_845 ?_
  refine GL_sld (pc := 846) dL_law_846 hL (by omega) (by omega) ?_
  refine G_aload_n (pc := 847) dL_law_847 rfl ?_
  refine G_iload_n (pc := 848) dL_law_848 rfl ?_
  refine G_iconst (pc := 849) dL_law_849 ?_
  refine G_iadd (pc := 850) dL_law_850 ?_
  refine GL_sld (pc := 851) dL_law_851 hL (by omega) (by omega) ?_
  refine G_callV (pc := 852) (md := mdX11_one) (av := [_, _]) dL_law_852 lkL_114 mwX11_one (x_one _ _ (by omega) hC hW (Ri_toInt _) (Ri_toInt _)) rfl (by first | rfl | assumption) (by omega) rfl rfl (Nat.le_of_ble_eq_true rfl) ⟨Nat.le_of_ble_eq_true rfl, Nat.le_of_ble_eq_true rfl⟩ ⟨Nat.le_of_ble_eq_true rfl, Nat.le_of_ble_eq_true rfl⟩ ?_
  rintro v I1 J1 ⟨rfl, hOI, -, hC1⟩
  have hM1 : MI I1 n tx hs C kn K := hMm.off (by rw [hOI 71 (by omega)]) (by rw [hOI 71 (by omega)]) (fun q a b => hOI q (by omega))
  refine G_aload_n (pc := 855) dL_law_855 rfl ?_
  refine G_aload_n (pc := 856) dL_law_856 rfl ?_
  refine G_iload_n (pc := 857) dL_law_857 rfl ?_
  refine G_iconst (pc := 858) dL_law_858 ?_
  refine G_iadd (pc := 859) dL_law_859 ?_
  refine GL_sld (pc := 860) dL_law_860 hL (by omega) (by omega) ?_
  refine G_aload_n (pc := 861) dL_law_861 rfl ?_
  refine G_iload_n (pc := 862) dL_law_862 rfl ?_
  refine G_iconst (pc := 863) dL_law_863 ?_
  refine G_iadd (pc := 864) dL_law_864 ?_
  refine GL_sld (pc := 865) dL_law_865 hL (by omega) (by omega) ?_
  refine G_callV (pc := 866) (md := mdX12_one) (av := [_, _]) dL_law_866 lkL_117 mwX12_one (y_one _ _ (by omega) hM1 hW (Ri_toInt _) (Ri_toInt _)) rfl (by first | rfl | assumption) (by omega) rfl rfl (Nat.le_of_ble_eq_true rfl) ⟨Nat.le_of_ble_eq_true rfl, Nat.le_of_ble_eq_true rfl⟩ ⟨Nat.le_of_ble_eq_true rfl, Nat.le_of_ble_eq_true rfl⟩ ?_
  rintro v I2 J2 ⟨rfl, hOI2, -, hM2⟩
  have hC2 := CI.off (I' := I2) hC1 (fun q h => hOI2 q (by omega))
  refine G_same (pc := 869) (tgt := 956) dL_law_869 (by decide) ?_
  exact fin ((n, tx, hs, C, kn, K)) I2 _ hC2 hM2 (hW)
theorem lc_nights {E : EV} {b L : Nat} {xs : Nat → Int32} (hL : L ≤ 2560) (i : Nat) (hi : i + 5 ≤ L) {I J : Nat → Nat → Int} {S : ST} (hC : CIS I S) (hMm : MIS I S) (hW : WFS S) (fin : ∀ (S' : ST) (I' J' : Nat → Nat → Int), CIS I' S' → MIS I' S' → WFS S' → GL E b L xs 87 I' J' Rf 87 1929 956 [some (.ref b), some (vr E 0), some (vr E 71), some (vi (i : Int))] []) : GL E b L xs 87 I J Rf 87 1929 874 [some (.ref b), some (vr E 0), some (vr E 71), some (vi (i : Int))] [] := by
  obtain ⟨n, tx, hs, C, kn, K⟩ := S
  have hC : CI I n tx hs C kn K := hC
  have hMm : MI I n tx hs C kn K := hMm
  have hW : WF n tx hs C kn K := hW
  refine G_aload_n (pc := 874) dL_law_874 rfl ?_
  refine G_aload_n (pc := 875) dL_law_875 rfl ?_
  refine G_iload_n (pc := 876) dL_law_876 rfl ?_
  refine G_iconst (pc := 877) dL_law_877 ?_
  refine G_iadd (pc := 878) dL_law_878 ?_
  refine GL_sld (pc := 879) dL_law_879 hL (by omega) (by omega) ?_
  refine G_aload_n (pc := 880) dL_law_880 rfl ?_
  refine G_iload_n (pc := 881) dL_law_881 rfl ?_
  refine G_iconst (pc := 882) dL_law_882 ?_
  refine G_iadd (pc := 883) dL_law_883 ?_
  refine GL_sld (pc := 884) dL_law_884 hL (by omega) (by omega) ?_
  refine G_callV (pc := 885) (md := mdX11_nights) (av := [_, _]) dL_law_885 lkL_118 mwX11_nights (x_nights _ _ (by omega) hC hW (Ri_toInt _) (Ri_toInt _)) rfl (by first | rfl | assumption) (by omega) rfl rfl (Nat.le_of_ble_eq_true rfl) ⟨Nat.le_of_ble_eq_true rfl, Nat.le_of_ble_eq_true rfl⟩ ⟨Nat.le_of_ble_eq_true rfl, Nat.le_of_ble_eq_true rfl⟩ ?_
  rintro v I1 J1 ⟨rfl, hOI, -, hC1⟩
  have hM1 : MI I1 n tx hs C kn K := hMm.off (by rw [hOI 71 (by omega)]) (by rw [hOI 71 (by omega)]) (fun q a b => hOI q (by omega))
  refine G_aload_n (pc := 888) dL_law_888 rfl ?_
  refine G_aload_n (pc := 889) dL_law_889 rfl ?_
  refine G_iload_n (pc := 890) dL_law_890 rfl ?_
  refine G_iconst (pc := 891) dL_law_891 ?_
  refine G_iadd (pc := 892) dL_law_892 ?_
  refine GL_sld (pc := 893) dL_law_893 hL (by omega) (by omega) ?_
  refine G_aload_n (pc := 894) dL_law_894 rfl ?_
  refine G_iload_n (pc := 895) dL_law_895 rfl ?_
  refine G_iconst (pc := 896) dL_law_896 ?_
  refine G_iadd (pc := 897) dL_law_897 ?_
  refine GL_sld (pc := 898) dL_law_898 hL (by omega) (by omega) ?_
  refine G_callV (pc := 899) (md := mdX12_nights) (av := [_, _]) dL_law_899 lkL_121 mwX12_nights (y_nights _ _ (by omega) hM1 hW (Ri_toInt _) (Ri_toInt _)) rfl (by first | rfl | assumption) (by omega) rfl rfl (Nat.le_of_ble_eq_true rfl) ⟨Nat.le_of_ble_eq_true rfl, Nat.le_of_ble_eq_true rfl⟩ ⟨Nat.le_of_ble_eq_true rfl, Nat.le_of_ble_eq_true rfl⟩ ?_
  rintro v I2 J2 ⟨rfl, hOI2, -, hM2⟩
  have hC2 := CI.off (I' := I2) hC1 (fun q h => hOI2 q (by omega))
  refine G_same (pc := 902) (tgt := 956) dL_law_902 (by decide) ?_
  exact fin ((n, tx, hs, C, kn, K)) I2 _ hC2 hM2 (hW)
theorem lc_keep {E : EV} {b L : Nat} {xs : Nat → Int32} (hL : L ≤ 2560) (i : Nat) (hi : i + 5 ≤ L) {I J : Nat → Nat → Int} {S : ST} (hC : CIS I S) (hMm : MIS I S) (hW : WFS S) (fin : ∀ (S' : ST) (I' J' : Nat → Nat → Int), CIS I' S' → MIS I' S' → WFS S' → GL E b L xs 87 I' J' Rf 87 1929 956 [some (.ref b), some (vr E 0), some (vr E 71), some (vi (i : Int))] []) : GL E b L xs 87 I J Rf 87 1929 907 [some (.ref b), some (vr E 0), some (vr E 71), some (vi (i : Int))] [] := by
  obtain ⟨n, tx, hs, C, kn, K⟩ := S
  have hC : CI I n tx hs C kn K := hC
  have hMm : MI I n tx hs C kn K := hMm
  have hW : WF n tx hs C kn K := hW
  refine G_aload_n (pc := 907) dL_law_907 rfl ?_
  refine G_callV (pc := 908) (md := mdX11_keep) (av := []) dL_law_908 lkL_122 mwX11_keep (x_keep  (by omega) hC hW ) rfl (by first | rfl | assumption) (by omega) rfl rfl (Nat.le_of_ble_eq_true rfl) ⟨Nat.le_of_ble_eq_true rfl, Nat.le_of_ble_eq_true rfl⟩ ⟨Nat.le_of_ble_eq_true rfl, Nat.le_of_ble_eq_true rfl⟩ ?_
  rintro v I1 J1 ⟨rfl, hOI, -, hC1⟩
  have hM1 : MI I1 n tx hs C kn K := hMm.off (by rw [hOI 71 (by omega)]) (by rw [hOI 71 (by omega)]) (fun q a b => hOI q (by omega))
  refine G_aload_n (pc := 911) dL_law_911 rfl ?_
  refine G_callV (pc := 912) (md := mdX12_keep) (av := []) dL_law_912 lkL_125 mwX12_keep (y_keep  (by omega) hM1 hW ) rfl (by first | rfl | assumption) (by omega) rfl rfl (Nat.le_of_ble_eq_true rfl) ⟨Nat.le_of_ble_eq_true rfl, Nat.le_of_ble_eq_true rfl⟩ ⟨Nat.le_of_ble_eq_true rfl, Nat.le_of_ble_eq_true rfl⟩ ?_
  rintro v I2 J2 ⟨rfl, hOI2, -, hM2⟩
  have hC2 := CI.off (I' := I2) hC1 (fun q h => hOI2 q (by omega))
  refine G_same (pc := 915) (tgt := 956) dL_law_915 (by decide) ?_
  exact fin (sKeep (n, tx, hs, C, kn, K)) I2 _ hC2 hM2 (W_keep (S := (n, tx, hs, C, kn, K)) hW)
theorem lc_back {E : EV} {b L : Nat} {xs : Nat → Int32} (hL : L ≤ 2560) (i : Nat) (hi : i + 5 ≤ L) {I J : Nat → Nat → Int} {S : ST} (hC : CIS I S) (hMm : MIS I S) (hW : WFS S) (fin : ∀ (S' : ST) (I' J' : Nat → Nat → Int), CIS I' S' → MIS I' S' → WFS S' → GL E b L xs 87 I' J' Rf 87 1929 956 [some (.ref b), some (vr E 0), some (vr E 71), some (vi (i : Int))] []) : GL E b L xs 87 I J Rf 87 1929 920 [some (.ref b), some (vr E 0), some (vr E 71), some (vi (i : Int))] [] := by
  obtain ⟨n, tx, hs, C, kn, K⟩ := S
  have hC : CI I n tx hs C kn K := hC
  have hMm : MI I n tx hs C kn K := hMm
  have hW : WF n tx hs C kn K := hW
  refine G_aload_n (pc := 920) dL_law_920 rfl ?_
  refine G_callV (pc := 921) (md := mdX11_back) (av := []) dL_law_921 lkL_126 mwX11_back (x_back  (by omega) hC hW ) rfl (by first | rfl | assumption) (by omega) rfl rfl (Nat.le_of_ble_eq_true rfl) ⟨Nat.le_of_ble_eq_true rfl, Nat.le_of_ble_eq_true rfl⟩ ⟨Nat.le_of_ble_eq_true rfl, Nat.le_of_ble_eq_true rfl⟩ ?_
  rintro v I1 J1 ⟨rfl, hOI, -, hC1⟩
  have hM1 : MI I1 n tx hs C kn K := hMm.off (by rw [hOI 71 (by omega)]) (by rw [hOI 71 (by omega)]) (fun q a b => hOI q (by omega))
  refine G_aload_n (pc := 924) dL_law_924 rfl ?_
  refine G_callV (pc := 925) (md := mdX12_back) (av := []) dL_law_925 lkL_129 mwX12_back (y_back  (by omega) hM1 hW ) rfl (by first | rfl | assumption) (by omega) rfl rfl (Nat.le_of_ble_eq_true rfl) ⟨Nat.le_of_ble_eq_true rfl, Nat.le_of_ble_eq_true rfl⟩ ⟨Nat.le_of_ble_eq_true rfl, Nat.le_of_ble_eq_true rfl⟩ ?_
  rintro v I2 J2 ⟨rfl, hOI2, -, hM2⟩
  have hC2 := CI.off (I' := I2) hC1 (fun q h => hOI2 q (by omega))
  refine G_same (pc := 928) (tgt := 956) dL_law_928 (by decide) ?_
  exact fin (sBack (n, tx, hs, C, kn, K)) I2 _ hC2 hM2 (W_back (S := (n, tx, hs, C, kn, K)) hW)
theorem lc_count {E : EV} {b L : Nat} {xs : Nat → Int32} (hL : L ≤ 2560) (i : Nat) (hi : i + 5 ≤ L) {I J : Nat → Nat → Int} {S : ST} (hC : CIS I S) (hMm : MIS I S) (hW : WFS S) (fin : ∀ (S' : ST) (I' J' : Nat → Nat → Int), CIS I' S' → MIS I' S' → WFS S' → GL E b L xs 87 I' J' Rf 87 1929 956 [some (.ref b), some (vr E 0), some (vr E 71), some (vi (i : Int))] []) : GL E b L xs 87 I J Rf 87 1929 933 [some (.ref b), some (vr E 0), some (vr E 71), some (vi (i : Int))] [] := by
  obtain ⟨n, tx, hs, C, kn, K⟩ := S
  have hC : CI I n tx hs C kn K := hC
  have hMm : MI I n tx hs C kn K := hMm
  have hW : WF n tx hs C kn K := hW
  refine G_aload_n (pc := 933) dL_law_933 rfl ?_
  refine G_aload_n (pc := 934) dL_law_934 rfl ?_
  refine G_iload_n (pc := 935) dL_law_935 rfl ?_
  refine G_iconst (pc := 936) dL_law_936 ?_
  refine G_iadd (pc := 937) dL_law_937 ?_
  refine GL_sld (pc := 938) dL_law_938 hL (by omega) (by omega) ?_
  refine G_callV (pc := 939) (md := mdX11_count) (av := [_]) dL_law_939 lkL_130 mwX11_count (x_count _ (by omega) hC hW (Ri_toInt _)) rfl (by first | rfl | assumption) (by omega) rfl rfl (Nat.le_of_ble_eq_true rfl) ⟨Nat.le_of_ble_eq_true rfl, Nat.le_of_ble_eq_true rfl⟩ ⟨Nat.le_of_ble_eq_true rfl, Nat.le_of_ble_eq_true rfl⟩ ?_
  rintro v I1 J1 ⟨rfl, hOI, -, hC1⟩
  have hM1 : MI I1 n tx hs C kn K := hMm.off (by rw [hOI 71 (by omega)]) (by rw [hOI 71 (by omega)]) (fun q a b => hOI q (by omega))
  refine G_aload_n (pc := 942) dL_law_942 rfl ?_
  refine G_aload_n (pc := 943) dL_law_943 rfl ?_
  refine G_iload_n (pc := 944) dL_law_944 rfl ?_
  refine G_iconst (pc := 945) dL_law_945 ?_
  refine G_iadd (pc := 946) dL_law_946 ?_
  refine GL_sld (pc := 947) dL_law_947 hL (by omega) (by omega) ?_
  refine G_callV (pc := 948) (md := mdX12_count) (av := [_]) dL_law_948 lkL_133 mwX12_count (y_count _ (by omega) hM1 hW (Ri_toInt _)) rfl (by first | rfl | assumption) (by omega) rfl rfl (Nat.le_of_ble_eq_true rfl) ⟨Nat.le_of_ble_eq_true rfl, Nat.le_of_ble_eq_true rfl⟩ ⟨Nat.le_of_ble_eq_true rfl, Nat.le_of_ble_eq_true rfl⟩ ?_
  rintro v I2 J2 ⟨rfl, hOI2, -, hM2⟩
  have hC2 := CI.off (I' := I2) hC1 (fun q h => hOI2 q (by omega))
  refine G_same (pc := 951) (tgt := 956) dL_law_951 (by decide) ?_
  exact fin ((n, tx, hs, C, kn, K)) I2 _ hC2 hM2 (hW)
