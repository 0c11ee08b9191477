/-! THE LAW LAYS A HOUSE: item, lays -/
def ITh (tx : Nat → Int) (n n1 : Nat) (l : Int) (v : Nat → Nat) : Nat → Prop
  | 0 => ITg tx n n1 l 0 (fun _ => 0) 0 0
  | j + 1 => ∃ f, 0 < f ∧ ITg tx n n1 l j (nmv v j) (v j) f
abbrev QIt (I : Nat → Nat → Int) (tx : Nat → Int) (n m : Nat) (l : Int) (v : Nat → Nat) (hs : HS) (C : CS) (kn : Nat) (K : Nat → CS) : Option Value → (Nat → Nat → Int) → (Nat → Nat → Int) → Prop := fun x I' J' => ∃ (n' : Nat) (tx' : Nat → Int), x = some (vi (n' : Int)) ∧ Off I I' 0 70 ∧ n' ≤ n + 1 + 3 * m ∧ CI I' n' tx' hs C kn K ∧ WF n' tx' hs C kn K ∧ (∀ i, i < n → tx' i = tx i) ∧ ITM tx' n n' l m (nmv v m)
abbrev QLa (I : Nat → Nat → Int) (o : Nat → Nat) : Option Value → (Nat → Nat → Int) → (Nat → Nat → Int) → Prop := fun x I' J' => x = some (vi (aP o (o 0) : Nat)) ∧ Off I I' 0 70 ∧ ∃ (n' : Nat) (tx' : Nat → Int) (hs' : HS) (C' : CS) (K' : Nat → CS), CI I' n' tx' hs' C' 0 K' ∧ WF n' tx' hs' C' 0 K' ∧ HOo o hs' ∧ COo o (o 2) C' ∧ C' 3 0 = 0
theorem OI.off {I I' : Nat → Nat → Int} {o : Nat → Nat} (h : OI I o) (hO : Off I I' 0 70) : OI I' o := fun i hi => by rw [hO 71 (by omega)]; exact h i hi
section LAYS
variable {E : EV} {M : Nat} {I J : Nat → Nat → Int} {n : Nat} {tx : Nat → Int} {hs : HS} {C : CS} {kn : Nat} {K : Nat → CS} {o : Nat → Nat}
theorem c_item (l : Int) (m fr : Nat) (mi fi : Int) (hmi : mi = (m : Int)) (hfi : fi = (fr : Int)) (hl : 1 ≤ l ∧ l ≤ 127) (hm : 1 ≤ m ∧ m ≤ 4) (hfr : fr + m ≤ 46) (hv : ∀ i, i < m → o (fr + i) ≤ 99) (hn : n + 1 + 3 * m ≤ 400) (hM : 72 ≤ M) (hO : OI I o) (hC : CI I n tx hs C kn K) (hW : WF n tx hs C kn K) : FnQ E mdL_item 5 M Rf [vr E 0, vi l, vi mi, vr E 71, vi fi] I J (QIt I tx n m l (fun i => o (fr + i)) hs C kn K) := by
  subst hmi
  subst hfi
  refine FnQ.of (by decide +kernel) (Nat.le_of_ble_eq_true rfl) ?_
  show GM E mdL_item 5 M Rf _ I J 0 [some (vr E 0), some (vi l), some (vi (m : Int)), some (vr E 71), some (vi (fr : Int)), none, none, none] []
  have loop : ∀ (r k : Nat) (I' J' : Nat → Nat → Int) (n1 : Nat) (tx1 : Nat → Int) (acc : Int), k + r = m → Off I I' 0 70 → CI I' n1 tx1 hs C kn K → WF n1 tx1 hs C kn K → ((k = 0 ∧ n1 ≤ n + 1) ∨ n1 ≤ n + 3 * k) → (∀ i, i < n → tx1 i = tx i) → ITh tx1 n n1 l (fun i => o (fr + i)) k → GM E mdL_item 5 M Rf (QIt I tx n m l (fun i => o (fr + i)) hs C kn K) I' J' 12 [some (vr E 0), some (vi l), some (vi (m : Int)), some (vr E 71), some (vi (fr : Int)), some (vi acc), some (vi (k : Int)), none] [] := by
    intro r
    induction r with
    | zero =>
      intro k I' J' n1 tx1 acc hk hOf hC1 hW1 hn1 ho1 hT
      obtain ⟨j, rfl⟩ : ∃ j, k = j + 1 := ⟨k - 1, by omega⟩
      obtain ⟨f, hf, hI⟩ := hT
      have em : j + 1 = m := by omega
      have g1 := hI.1
      refine G_iload (pc := 12) dL_item_12 rfl ?_
      refine G_iload_n (pc := 14) dL_item_14 rfl ?_
      refine G_icmp_ge (pc := 15) (tgt := 137) dL_item_15 (Ri.mk (by omega) (by omega)) (Ri.mk (by omega) (by omega)) (by decide) (fun h_15 => ?_) (fun h_15 => ?_)
      · refine G_iload (pc := 137) dL_item_137 rfl ?_
        refine G_iload (pc := 139) dL_item_139 rfl ?_
        refine G_isub (pc := 141) dL_item_141 ?_
        refine G_aload_n (pc := 142) dL_item_142 rfl ?_
        refine G_iconst (pc := 143) dL_item_143 ?_
        refine G_ldc2 (pc := 144) dL_item_144 klL_17 ?_
        refine G_callV (pc := 147) (md := mdX11_write) (av := [_, _]) dL_item_147 lkL_9 mwX11_write (x_write 1 59 (by omega) hC1 hW1 (Ri.mk (by omega) (by omega)) (Rl.mk (by omega) (by omega))) rfl (by first | rfl | assumption) (by omega) rfl rfl (Nat.le_of_ble_eq_true rfl) (by decide) ⟨Nat.zero_le _, Nat.zero_le _⟩ ?_
        rintro v I2 J2 ⟨rfl, hO2, -, hC2⟩
        obtain ⟨e2, tx2, hC2, hW2, hc2, ho2⟩ := w1_of (by omega) (by omega) hW1 hC2
        rw [e2]
        refine G_iadd (pc := 150) dL_item_150 ?_
        refine G_iret (pc := 151) dL_item_151 rfl ?_
        have hM2 := hI.semi hc2 ho2 hf (by omega)
        rw [upN_nmv (fun i => o (fr + i)) j, em] at hM2
        exact ⟨n1 + 1, tx2, by rw [show acc - acc + ((n1 + 1 : Nat) : Int) = ((n1 + 1 : Nat) : Int) by omega], hOf.trans hO2, by omega, hC2, hW2, fun i hi => by rw [ho2 i (by omega), ho1 i hi], hM2⟩
      · exact absurd h_15 (by omega)
    | succ r ih =>
      intro k I' J' n1 tx1 acc hk hOf hC1 hW1 hn1 ho1 hT
      have hO1 := hO.off hOf
      obtain ⟨x, hx⟩ : ∃ x, x = o (fr + k) := ⟨_, rfl⟩
      have hx9 : x ≤ 99 := by rw [hx]; exact hv k (by omega)
      have tail : ∀ (I' J' : Nat → Nat → Int) (n1 : Nat) (tx1 : Nat → Int) (acc a : Int) (d f : Nat), Off I I' 0 70 → CI I' n1 tx1 hs C kn K → WF n1 tx1 hs C kn K → n < n1 → n1 + 1 ≤ n + 3 * (k + 1) → (∀ i, i < n → tx1 i = tx i) → ITg tx1 n n1 l k (nmv (fun i => o (fr + i)) k) d f → f < 3 → 10 * d + x % 10 = x → GM E mdL_item 5 M Rf (QIt I tx n m l (fun i => o (fr + i)) hs C kn K) I' J' 109 [some (vr E 0), some (vi l), some (vi (m : Int)), some (vr E 71), some (vi (fr : Int)), some (vi acc), some (vi (k : Int)), some (vi (x : Int))] [vi a, vi acc] := by
        intro I' J' n1 tx1 acc a d f hOf hC1 hW1 hlt hn1 ho1 hI hf hd
        refine G_iadd (pc := 109) dL_item_109 ?_
        refine G_istore (pc := 110) (lv' := [_, _, _, _, _, _, _, _]) dL_item_110 (by decide) rfl ?_
        refine G_iload (pc := 112) dL_item_112 rfl ?_
        refine G_aload_n (pc := 114) dL_item_114 rfl ?_
        refine G_iconst (pc := 115) dL_item_115 ?_
        refine G_bipush (pc := 116) dL_item_116 (by decide) ?_
        refine G_iload (pc := 118) dL_item_118 rfl ?_
        refine G_bipush (pc := 120) dL_item_120 (by decide) ?_
        refine G_irem (pc := 122) dL_item_122 (Ri.mk (by omega) (by omega)) (Ri.mk (by omega) (by omega)) (by omega) ?_
        rw [Int.tmod_eq_emod_of_nonneg (show (0 : Int) ≤ (x : Int) by omega)]
        refine G_iadd (pc := 123) dL_item_123 ?_
        refine G_i2l (pc := 124) dL_item_124 (Ri.mk (by omega) (by omega)) ?_
        refine G_callV (pc := 125) (md := mdX11_write) (av := [_, _]) dL_item_125 lkL_9 mwX11_write (x_write 1 (48 + (x : Int) % 10) (by omega) hC1 hW1 (Ri.mk (by omega) (by omega)) (Rl.mk (by omega) (by omega))) rfl (by first | rfl | assumption) (by omega) rfl rfl (Nat.le_of_ble_eq_true rfl) (by decide) ⟨Nat.zero_le _, Nat.zero_le _⟩ ?_
        rintro v I2 J2 ⟨rfl, hO2, -, hC2⟩
        obtain ⟨e2, tx2, hC2, hW2, hc2, ho2⟩ := w1_of (by omega) (by omega) hW1 hC2
        rw [e2]
        refine G_iadd (pc := 128) dL_item_128 ?_
        refine G_istore (pc := 129) (lv' := [_, _, _, _, _, _, _, _]) dL_item_129 (by decide) rfl ?_
        refine G_iinc (pc := 131) (lv' := [_, _, _, _, _, _, _, _]) dL_item_131 (by decide) rfl rfl ?_
        refine G_goto (pc := 134) (tgt := 12) dL_item_134 (by decide) ?_
        refine G_kill 7 rfl ?_
        have hI2 := hI.dig hc2 ho2 (by omega) hf
        rw [show 10 * d + (48 + (x : Int) % 10 - 48).toNat = o (fr + k) by omega] at hI2
        exact ih (k + 1) I2 J2 (n1 + 1) tx2 _ (by omega) (hOf.trans hO2) hC2 hW2 (by omega) (fun i hi => by rw [ho2 i (by omega), ho1 i hi]) ⟨f + 1, by omega, hI2⟩
      have body : ∀ (I' J' : Nat → Nat → Int) (n1 : Nat) (tx1 : Nat → Int) (acc a : Int), Off I I' 0 70 → CI I' n1 tx1 hs C kn K → WF n1 tx1 hs C kn K → n < n1 → n1 ≤ n + 3 * k + 1 → (∀ i, i < n → tx1 i = tx i) → ITg tx1 n n1 l k (nmv (fun i => o (fr + i)) k) 0 0 → GM E mdL_item 5 M Rf (QIt I tx n m l (fun i => o (fr + i)) hs C kn K) I' J' 46 [some (vr E 0), some (vi l), some (vi (m : Int)), some (vr E 71), some (vi (fr : Int)), some (vi acc), some (vi (k : Int)), some (vi (x : Int))] [vi a, vi acc] := by
        intro I' J' n1 tx1 acc a hOf hC1 hW1 hlt hn1 ho1 hI
        refine G_iadd (pc := 46) dL_item_46 ?_
        refine G_istore (pc := 47) (lv' := [_, _, _, _, _, _, _, _]) dL_item_47 (by decide) rfl ?_
        refine G_iload (pc := 49) dL_item_49 rfl ?_
        refine G_iload (pc := 51) dL_item_51 rfl ?_
        refine G_bipush (pc := 53) dL_item_53 (by decide) ?_
        refine G_icmp_le (pc := 55) (tgt := 75) dL_item_55 (Ri.mk (by omega) (by omega)) (Ri.mk (by omega) (by omega)) (by decide) (fun h_55 => ?_) (fun h_55 => ?_)
        · refine G_iconst (pc := 75) dL_item_75 ?_
          refine G_iadd (pc := 76) dL_item_76 ?_
          refine G_istore (pc := 77) (lv' := [_, _, _, _, _, _, _, _]) dL_item_77 (by decide) rfl ?_
          refine G_iload (pc := 79) dL_item_79 rfl ?_
          refine G_iload (pc := 81) dL_item_81 rfl ?_
          refine G_bipush (pc := 83) dL_item_83 (by decide) ?_
          refine G_icmp_le (pc := 85) (tgt := 108) dL_item_85 (Ri.mk (by omega) (by omega)) (Ri.mk (by omega) (by omega)) (by decide) (fun h_85 => ?_) (fun h_85 => ?_)
          · refine G_iconst (pc := 108) dL_item_108 ?_
            first
              | exact tail I2 J2 (n1 + 1) tx2 _ _ _ _ (hOf.trans hO2) hC2 hW2 (by omega) (by omega) (fun i hi => by rw [ho2 i (by omega), ho1 i hi]) (hI.dig hc2 ho2 (by omega) (by omega)) (by omega) (by omega)
              | exact tail I' J' n1 tx1 _ _ 0 0 hOf hC1 hW1 hlt (by omega) ho1 hI (by omega) (by omega)
          · refine G_aload_n (pc := 88) dL_item_88 rfl ?_
            refine G_iconst (pc := 89) dL_item_89 ?_
            refine G_bipush (pc := 90) dL_item_90 (by decide) ?_
            refine G_iload (pc := 92) dL_item_92 rfl ?_
            refine G_bipush (pc := 94) dL_item_94 (by decide) ?_
            refine G_idiv (pc := 96) dL_item_96 (Ri.mk (by omega) (by omega)) (Ri.mk (by omega) (by omega)) (by omega) ?_
            rw [Int.tdiv_eq_ediv_of_nonneg (show (0 : Int) ≤ (x : Int) by omega)]
            refine G_bipush (pc := 97) dL_item_97 (by decide) ?_
            refine G_irem (pc := 99) dL_item_99 (Ri.mk (by omega) (by omega)) (Ri.mk (by omega) (by omega)) (by omega) ?_
            rw [Int.tmod_eq_emod_of_nonneg (show (0 : Int) ≤ (x : Int) / 10 by omega)]
            refine G_iadd (pc := 100) dL_item_100 ?_
            refine G_i2l (pc := 101) dL_item_101 (Ri.mk (by omega) (by omega)) ?_
            refine G_callV (pc := 102) (md := mdX11_write) (av := [_, _]) dL_item_102 lkL_9 mwX11_write (x_write 1 (48 + (x : Int) / 10 % 10) (by omega) hC1 hW1 (Ri.mk (by omega) (by omega)) (Rl.mk (by omega) (by omega))) rfl (by first | rfl | assumption) (by omega) rfl rfl (Nat.le_of_ble_eq_true rfl) (by decide) ⟨Nat.zero_le _, Nat.zero_le _⟩ ?_
            rintro v I2 J2 ⟨rfl, hO2, -, hC2⟩
            obtain ⟨e2, tx2, hC2, hW2, hc2, ho2⟩ := w1_of (by omega) (by omega) hW1 hC2
            rw [e2]
            refine G_goto (pc := 105) (tgt := 109) dL_item_105 (by decide) ?_
            first
              | exact tail I2 J2 (n1 + 1) tx2 _ _ _ _ (hOf.trans hO2) hC2 hW2 (by omega) (by omega) (fun i hi => by rw [ho2 i (by omega), ho1 i hi]) (hI.dig hc2 ho2 (by omega) (by omega)) (by omega) (by omega)
              | exact tail I' J' n1 tx1 _ _ 0 0 hOf hC1 hW1 hlt (by omega) ho1 hI (by omega) (by omega)
        · exact absurd h_55 (by omega)
      cases k with
      | zero =>
        have hI : ITg tx1 n n1 l 0 (fun _ => 0) 0 0 := hT
        have g1 := hI.1
        refine G_iload (pc := 12) dL_item_12 rfl ?_
        refine G_iload_n (pc := 14) dL_item_14 rfl ?_
        refine G_icmp_ge (pc := 15) (tgt := 137) dL_item_15 (Ri.mk (by omega) (by omega)) (Ri.mk (by omega) (by omega)) (by decide) (fun h_15 => ?_) (fun h_15 => ?_)
        · exact absurd h_15 (by omega)
        · refine G_aload_n (pc := 18) dL_item_18 rfl ?_
          refine G_iload (pc := 19) dL_item_19 rfl ?_
          refine G_iload (pc := 21) dL_item_21 rfl ?_
          refine G_iadd (pc := 23) dL_item_23 ?_
          refine G_ialdv (pc := 24) dL_item_24 (by first | rfl | assumption) (by omega) (by omega) (by omega) (by omega) (show I' 71 ((fr : Int) + ((0 : Nat) : Int)).toNat = (x : Int) from by rw [show ((fr : Int) + ((0 : Nat) : Int)).toNat = fr + 0 by omega, hx]; exact hO1 _ (by omega)) ?_
          refine G_istore (pc := 25) (lv' := [_, _, _, _, _, _, _, _]) dL_item_25 (by decide) rfl ?_
          refine G_iload (pc := 27) dL_item_27 rfl ?_
          refine G_iload (pc := 29) dL_item_29 rfl ?_
          refine G_if_le (pc := 31) (tgt := 45) dL_item_31 (Ri.mk (by omega) (by omega)) (by decide) (fun h_31 => ?_) (fun h_31 => ?_)
          · refine G_iconst (pc := 45) dL_item_45 ?_
            exact body I' J' n1 tx1 _ _ hOf hC1 hW1 g1 (by omega) ho1 (by rw [nmv_0]; exact hI)
          · exact absurd h_31 (by omega)
      | succ j =>
        obtain ⟨f, hf, hI⟩ := hT
        have g1 := hI.1
        refine G_iload (pc := 12) dL_item_12 rfl ?_
        refine G_iload_n (pc := 14) dL_item_14 rfl ?_
        refine G_icmp_ge (pc := 15) (tgt := 137) dL_item_15 (Ri.mk (by omega) (by omega)) (Ri.mk (by omega) (by omega)) (by decide) (fun h_15 => ?_) (fun h_15 => ?_)
        · exact absurd h_15 (by omega)
        · refine G_aload_n (pc := 18) dL_item_18 rfl ?_
          refine G_iload (pc := 19) dL_item_19 rfl ?_
          refine G_iload (pc := 21) dL_item_21 rfl ?_
          refine G_iadd (pc := 23) dL_item_23 ?_
          refine G_ialdv (pc := 24) dL_item_24 (by first | rfl | assumption) (by omega) (by omega) (by omega) (by omega) (show I' 71 ((fr : Int) + ((j + 1 : Nat) : Int)).toNat = (x : Int) from by rw [show ((fr : Int) + ((j + 1 : Nat) : Int)).toNat = fr + (j + 1) by omega, hx]; exact hO1 _ (by omega)) ?_
          refine G_istore (pc := 25) (lv' := [_, _, _, _, _, _, _, _]) dL_item_25 (by decide) rfl ?_
          refine G_iload (pc := 27) dL_item_27 rfl ?_
          refine G_iload (pc := 29) dL_item_29 rfl ?_
          refine G_if_le (pc := 31) (tgt := 45) dL_item_31 (Ri.mk (by omega) (by omega)) (by decide) (fun h_31 => ?_) (fun h_31 => ?_)
          · exact absurd h_31 (by omega)
          · refine G_aload_n (pc := 34) dL_item_34 rfl ?_
            refine G_iconst (pc := 35) dL_item_35 ?_
            refine G_ldc2 (pc := 36) dL_item_36 klL_15 ?_
            refine G_callV (pc := 39) (md := mdX11_write) (av := [_, _]) dL_item_39 lkL_9 mwX11_write (x_write 1 44 (by omega) hC1 hW1 (Ri.mk (by omega) (by omega)) (Rl.mk (by omega) (by omega))) rfl (by first | rfl | assumption) (by omega) rfl rfl (Nat.le_of_ble_eq_true rfl) (by decide) ⟨Nat.zero_le _, Nat.zero_le _⟩ ?_
            rintro v I2 J2 ⟨rfl, hO2, -, hC2⟩
            obtain ⟨e2, tx2, hC2, hW2, hc2, ho2⟩ := w1_of (by omega) (by omega) hW1 hC2
            rw [e2]
            refine G_goto (pc := 42) (tgt := 46) dL_item_42 (by decide) ?_
            have hI2 := hI.comma hc2 ho2 hf (by omega)
            rw [upN_nmv (fun i => o (fr + i)) j] at hI2
            exact body I2 J2 (n1 + 1) tx2 _ _ (hOf.trans hO2) hC2 hW2 (by omega) (by omega) (fun i hi => by rw [ho2 i (by omega), ho1 i hi]) hI2
  refine G_aload_n (pc := 0) dL_item_0 rfl ?_
  refine G_iconst (pc := 1) dL_item_1 ?_
  refine G_iload_n (pc := 2) dL_item_2 rfl ?_
  refine G_i2l (pc := 3) dL_item_3 (Ri.mk (by omega) (by omega)) ?_
  refine G_callV (pc := 4) (md := mdX11_write) (av := [_, _]) dL_item_4 lkL_9 mwX11_write (x_write 1 l (by omega) hC hW (Ri.mk (by omega) (by omega)) (Rl.mk (by omega) (by omega))) rfl (by first | rfl | assumption) (by omega) rfl rfl (Nat.le_of_ble_eq_true rfl) (by decide) ⟨Nat.zero_le _, Nat.zero_le _⟩ ?_
  rintro v I2 J2 ⟨rfl, hO2, -, hC2⟩
  obtain ⟨e2, tx2, hC2, hW2, hc2, ho2⟩ := w1_of (by omega) (by omega) hW hC2
  rw [e2]
  refine G_istore (pc := 7) (lv' := [_, _, _, _, _, _, _, _]) dL_item_7 (by decide) rfl ?_
  refine G_iconst (pc := 9) dL_item_9 ?_
  refine G_istore (pc := 10) (lv' := [_, _, _, _, _, _, _, _]) dL_item_10 (by decide) rfl ?_
  exact loop m 0 I2 J2 (n + 1) tx2 _ (by omega) hO2 hC2 hW2 (by omega) ho2 (ITg.nil hc2)
theorem c_lays (hM : 72 ≤ M) (hO : OI I o) (hD : DRo o) (hC : CI I n tx hs C kn K) (hW : WF n tx hs C kn K) : FnQ E mdL_lays 7 M Rf [vr E 0, vr E 71] I J (QLa I o) := by
  obtain ⟨d0, d1, d2, d3, d4, d5, d6, d7, d8⟩ := id hD
  refine FnQ.of (by decide +kernel) (Nat.le_of_ble_eq_true rfl) ?_
  show GM E mdL_lays 7 M Rf _ I J 0 [some (vr E 0), some (vr E 71), none, none] []
  have last : ∀ (I' J' : Nat → Nat → Int) (n1 : Nat) (tx1 : Nat → Int) (D : DS) (e k : Int), Off I I' 0 70 → CI I' n1 tx1 hs C kn K → WF n1 tx1 hs C kn K → n1 ≤ 132 → TXD tx1 n1 D → LD o (o 0) (o 1) (o 2) D → GM E mdL_lays 7 M Rf (QLa I o) I' J' 95 [some (vr E 0), some (vr E 71), some (vi e), some (vi k)] [] := by
    intro I' J' n1 tx1 D e k hOf hC1 hW1 hn1 hX hL
    obtain ⟨D1, D2, t1, t2, hB2, hH, hK⟩ := hL.last hD
    have h45 : ∀ i, i < 2 → o (4 + i) ≤ 99 := by
      intro i hi
      rcases (show i = 0 ∨ i = 1 by omega) with rfl | rfl
      · exact d4
      · exact (show o 5 ≤ 99 by omega)
    refine G_aload_n (pc := 95) dL_lays_95 rfl ?_
    refine G_bipush (pc := 96) dL_lays_96 (by decide) ?_
    refine G_iconst (pc := 98) dL_lays_98 ?_
    refine G_aload_n (pc := 99) dL_lays_99 rfl ?_
    refine G_iconst (pc := 100) dL_lays_100 ?_
    refine G_callS (pc := 101) (md := mdL_item) (av := [_, _, _, _, _]) dL_lays_101 lkL_33 mwL_item (c_item (o := o) 99 1 3 _ _ (by omega) (by omega) (by omega) (by omega) (by omega) (fun i hi => by rw [show 3 + i = 3 by omega]; omega) (by omega) hM (hO.off hOf) hC1 hW1) rfl rfl (Nat.le_of_ble_eq_true rfl) (by decide) ⟨Nat.zero_le _, Nat.zero_le _⟩ ?_
    rintro v I2 J2 ⟨n2, tx2, rfl, hO2, hn2, hC2, hW2, ho2, hT2⟩
    have hOf2 := hOf.trans hO2
    have hX2 := hX.add hT2 ho2 t1
    have g2 := hT2.2.1
    refine G_aload_n (pc := 104) dL_lays_104 rfl ?_
    refine G_bipush (pc := 105) dL_lays_105 (by decide) ?_
    refine G_iconst (pc := 107) dL_lays_107 ?_
    refine G_aload_n (pc := 108) dL_lays_108 rfl ?_
    refine G_iconst (pc := 109) dL_lays_109 ?_
    refine G_callS (pc := 110) (md := mdL_item) (av := [_, _, _, _, _]) dL_lays_110 lkL_33 mwL_item (c_item (o := o) 112 2 4 _ _ (by omega) (by omega) (by omega) (by omega) (by omega) h45 (by omega) hM (hO.off hOf2) hC2 hW2) rfl rfl (Nat.le_of_ble_eq_true rfl) (by decide) ⟨Nat.zero_le _, Nat.zero_le _⟩ ?_
    rintro v I3 J3 ⟨n3, tx3, rfl, hO3, hn3, hC3, hW3, ho3, hT3⟩
    have hOf3 := hOf2.trans hO3
    have hX3 := hX2.add hT3 ho3 t2
    have g3 := hT3.2.1
    refine G_iadd (pc := 113) dL_lays_113 ?_
    refine G_istore_n (pc := 114) (lv' := [_, _, _, _]) dL_lays_114 (by decide) rfl ?_
    refine G_iload_n (pc := 115) dL_lays_115 rfl ?_
    refine G_if_le (pc := 116) (tgt := 126) dL_lays_116 (Ri.mk (by omega) (by omega)) (by decide) (fun h_116 => ?_) (fun h_116 => ?_)
    · exact absurd h_116 (by omega)
    · refine G_aload_n (pc := 119) dL_lays_119 rfl ?_
      refine G_callV (pc := 120) (md := mdX11_lay) (av := []) dL_lays_120 lkL_37 mwX11_lay (x_lay (by omega) hC3 hW3) rfl (by first | rfl | assumption) (by omega) rfl rfl (Nat.le_of_ble_eq_true rfl) (by decide) ⟨Nat.zero_le _, Nat.zero_le _⟩ ?_
      rintro v I4 J4 ⟨rfl, hO4, -, hC4⟩
      refine G_goto (pc := 123) (tgt := 128) dL_lays_123 (by decide) ?_
      refine G_iret (pc := 128) dL_lays_128 rfl ?_
      have hp := hX3.fin
      have okl : okL tx3 n3 := by
        show (parse tx3 n3).1 = -4 ∧ 0 < (parse tx3 n3).2.1 8 0 ∧ 0 < (parse tx3 n3).2.1 9 0
        rw [hp]
        exact ⟨rfl, by rw [hH.1]; omega, by rw [hH.2.1]; omega⟩
      have e1 : aLay tx3 n3 = ((aP o (o 0) : Nat) : Int) := by
        unfold aLay
        rw [if_pos okl, hp]
        show ((D2.1 10 0 : Nat) : Int) = _
        rw [hH.2.2.1]
      have e2 : sLay (n3, tx3, hs, C, kn, K) = (n3, tx3, D2.1, noT D2.2, 0, K) := by
        unfold sLay
        rw [if_pos okl]
        show (n3, tx3, (parse tx3 n3).2.1, noT (parse tx3 n3).2.2, 0, K) = _
        rw [hp]
      have hW4 := W_lay (S := (n3, tx3, hs, C, kn, K)) hW3
      rw [e2] at hC4 hW4
      exact ⟨by rw [e1], hOf3.trans hO4, n3, tx3, D2.1, noT D2.2, K, hC4, hW4, hH, ⟨by show D2.2 0 0 = o 2; exact hK.1, fun x hx => hK.2 x hx⟩, rfl⟩
  have lp3 : ∀ (r k : Nat) (I' J' : Nat → Nat → Int) (n1 : Nat) (tx1 : Nat → Int) (D : DS) (e : Int), k + r = o 2 → Off I I' 0 70 → CI I' n1 tx1 hs C kn K → WF n1 tx1 hs C kn K → n1 ≤ 104 + 7 * k → TXD tx1 n1 D → LD o (o 0) (o 1) k D → GM E mdL_lays 7 M Rf (QLa I o) I' J' 67 [some (vr E 0), some (vr E 71), some (vi e), some (vi (k : Int))] [] := by
    intro r
    induction r with
    | zero =>
      intro k I' J' n1 tx1 D e hk hOf hC1 hW1 hn1 hX hL
      have hO1 := hO.off hOf
      refine G_iload_n (pc := 67) dL_lays_67 rfl ?_
      refine G_aload_n (pc := 68) dL_lays_68 rfl ?_
      refine G_iconst (pc := 69) dL_lays_69 ?_
      refine G_ialdv (pc := 70) dL_lays_70 (by first | rfl | assumption) (by omega) (by omega) (by omega) (by omega) (hO1 2 (by omega)) ?_
      refine G_icmp_ge (pc := 71) (tgt := 95) dL_lays_71 (Ri.mk (by omega) (by omega)) (Ri.mk (by omega) (by omega)) (by decide) (fun h_71 => ?_) (fun h_71 => ?_)
      · exact last I' J' n1 tx1 D _ _ hOf hC1 hW1 (by omega) hX (by rw [show o 2 = k by omega]; exact hL)
      · exact absurd h_71 (by omega)
    | succ r ih =>
      intro k I' J' n1 tx1 D e hk hOf hC1 hW1 hn1 hX hL
      have hO1 := hO.off hOf
      have d8k := d8 k (by omega)
      obtain ⟨D1, t1, hL1⟩ := hL.step hD (by omega)
      refine G_iload_n (pc := 67) dL_lays_67 rfl ?_
      refine G_aload_n (pc := 68) dL_lays_68 rfl ?_
      refine G_iconst (pc := 69) dL_lays_69 ?_
      refine G_ialdv (pc := 70) dL_lays_70 (by first | rfl | assumption) (by omega) (by omega) (by omega) (by omega) (hO1 2 (by omega)) ?_
      refine G_icmp_ge (pc := 71) (tgt := 95) dL_lays_71 (Ri.mk (by omega) (by omega)) (Ri.mk (by omega) (by omega)) (by decide) (fun h_71 => ?_) (fun h_71 => ?_)
      · exact absurd h_71 (by omega)
      · refine G_aload_n (pc := 74) dL_lays_74 rfl ?_
        refine G_bipush (pc := 75) dL_lays_75 (by decide) ?_
        refine G_iconst (pc := 77) dL_lays_77 ?_
        refine G_aload_n (pc := 78) dL_lays_78 rfl ?_
        refine G_bipush (pc := 79) dL_lays_79 (by decide) ?_
        refine G_iconst (pc := 81) dL_lays_81 ?_
        refine G_iload_n (pc := 82) dL_lays_82 rfl ?_
        refine G_imul (pc := 83) dL_lays_83 ?_
        refine G_iadd (pc := 84) dL_lays_84 ?_
        refine G_callS (pc := 85) (md := mdL_item) (av := [_, _, _, _, _]) dL_lays_85 lkL_33 mwL_item (c_item (o := o) 116 2 (38 + 2 * k) _ _ (by omega) (by omega) (by omega) (by omega) (by omega) (fun i hi => by rcases (show i = 0 ∨ i = 1 by omega) with rfl | rfl <;> first | omega | (rw [Nat.add_zero]; omega)) (by omega) hM hO1 hC1 hW1) rfl rfl (Nat.le_of_ble_eq_true rfl) (by decide) ⟨Nat.zero_le _, Nat.zero_le _⟩ ?_
        rintro v I2 J2 ⟨n2, tx2, rfl, hO2, hn2, hC2, hW2, ho2, hT2⟩
        refine G_istore_n (pc := 88) (lv' := [_, _, _, _]) dL_lays_88 (by decide) rfl ?_
        refine G_iinc (pc := 89) (lv' := [_, _, _, _]) dL_lays_89 (by decide) rfl rfl ?_
        refine G_goto (pc := 92) (tgt := 67) dL_lays_92 (by decide) ?_
        exact ih (k + 1) I2 J2 n2 tx2 D1 _ (by omega) (hOf.trans hO2) hC2 hW2 (by omega) (hX.add hT2 ho2 t1) hL1
  have lp2 : ∀ (r k : Nat) (I' J' : Nat → Nat → Int) (n1 : Nat) (tx1 : Nat → Int) (D : DS) (e : Int), k + r = o 1 → Off I I' 0 70 → CI I' n1 tx1 hs C kn K → WF n1 tx1 hs C kn K → n1 ≤ 52 + 13 * k → TXD tx1 n1 D → LD o (o 0) k 0 D → GM E mdL_lays 7 M Rf (QLa I o) I' J' 37 [some (vr E 0), some (vr E 71), some (vi e), some (vi (k : Int))] [] := by
    intro r
    induction r with
    | zero =>
      intro k I' J' n1 tx1 D e hk hOf hC1 hW1 hn1 hX hL
      have hO1 := hO.off hOf
      refine G_iload_n (pc := 37) dL_lays_37 rfl ?_
      refine G_aload_n (pc := 38) dL_lays_38 rfl ?_
      refine G_iconst (pc := 39) dL_lays_39 ?_
      refine G_ialdv (pc := 40) dL_lays_40 (by first | rfl | assumption) (by omega) (by omega) (by omega) (by omega) (hO1 1 (by omega)) ?_
      refine G_icmp_ge (pc := 41) (tgt := 65) dL_lays_41 (Ri.mk (by omega) (by omega)) (Ri.mk (by omega) (by omega)) (by decide) (fun h_41 => ?_) (fun h_41 => ?_)
      · refine G_iconst (pc := 65) dL_lays_65 ?_
        refine G_istore_n (pc := 66) (lv' := [_, _, _, _]) dL_lays_66 (by decide) rfl ?_
        exact lp3 (o 2) 0 I' J' n1 tx1 D _ (by omega) hOf hC1 hW1 (by omega) hX (by rw [show o 1 = k by omega]; exact hL)
      · exact absurd h_41 (by omega)
    | succ r ih =>
      intro k I' J' n1 tx1 D e hk hOf hC1 hW1 hn1 hX hL
      have hO1 := hO.off hOf
      have d7k := d7 k (by omega)
      obtain ⟨D1, t1, hL1⟩ := hL.ask hD (by omega)
      refine G_iload_n (pc := 37) dL_lays_37 rfl ?_
      refine G_aload_n (pc := 38) dL_lays_38 rfl ?_
      refine G_iconst (pc := 39) dL_lays_39 ?_
      refine G_ialdv (pc := 40) dL_lays_40 (by first | rfl | assumption) (by omega) (by omega) (by omega) (by omega) (hO1 1 (by omega)) ?_
      refine G_icmp_ge (pc := 41) (tgt := 65) dL_lays_41 (Ri.mk (by omega) (by omega)) (Ri.mk (by omega) (by omega)) (by decide) (fun h_41 => ?_) (fun h_41 => ?_)
      · exact absurd h_41 (by omega)
      · refine G_aload_n (pc := 44) dL_lays_44 rfl ?_
        refine G_bipush (pc := 45) dL_lays_45 (by decide) ?_
        refine G_iconst (pc := 47) dL_lays_47 ?_
        refine G_aload_n (pc := 48) dL_lays_48 rfl ?_
        refine G_bipush (pc := 49) dL_lays_49 (by decide) ?_
        refine G_iconst (pc := 51) dL_lays_51 ?_
        refine G_iload_n (pc := 52) dL_lays_52 rfl ?_
        refine G_imul (pc := 53) dL_lays_53 ?_
        refine G_iadd (pc := 54) dL_lays_54 ?_
        refine G_callS (pc := 55) (md := mdL_item) (av := [_, _, _, _, _]) dL_lays_55 lkL_33 mwL_item (c_item (o := o) 97 4 (22 + 4 * k) _ _ (by omega) (by omega) (by omega) (by omega) (by omega) (fun i hi => by rcases (show i = 0 ∨ i = 1 ∨ i = 2 ∨ i = 3 by omega) with rfl | rfl | rfl | rfl <;> first | omega | (rw [Nat.add_zero]; omega)) (by omega) hM hO1 hC1 hW1) rfl rfl (Nat.le_of_ble_eq_true rfl) (by decide) ⟨Nat.zero_le _, Nat.zero_le _⟩ ?_
        rintro v I2 J2 ⟨n2, tx2, rfl, hO2, hn2, hC2, hW2, ho2, hT2⟩
        refine G_istore_n (pc := 58) (lv' := [_, _, _, _]) dL_lays_58 (by decide) rfl ?_
        refine G_iinc (pc := 59) (lv' := [_, _, _, _]) dL_lays_59 (by decide) rfl rfl ?_
        refine G_goto (pc := 62) (tgt := 37) dL_lays_62 (by decide) ?_
        exact ih (k + 1) I2 J2 n2 tx2 D1 _ (by omega) (hOf.trans hO2) hC2 hW2 (by omega) (hX.add hT2 ho2 t1) hL1
  have lp1 : ∀ (r k : Nat) (I' J' : Nat → Nat → Int) (n1 : Nat) (tx1 : Nat → Int) (D : DS) (e : Int), k + r = o 0 → Off I I' 0 70 → CI I' n1 tx1 hs C kn K → WF n1 tx1 hs C kn K → n1 ≤ 13 * k → TXD tx1 n1 D → LD o k 0 0 D → GM E mdL_lays 7 M Rf (QLa I o) I' J' 7 [some (vr E 0), some (vr E 71), some (vi e), some (vi (k : Int))] [] := by
    intro r
    induction r with
    | zero =>
      intro k I' J' n1 tx1 D e hk hOf hC1 hW1 hn1 hX hL
      have hO1 := hO.off hOf
      refine G_iload_n (pc := 7) dL_lays_7 rfl ?_
      refine G_aload_n (pc := 8) dL_lays_8 rfl ?_
      refine G_iconst (pc := 9) dL_lays_9 ?_
      refine G_ialdv (pc := 10) dL_lays_10 (by first | rfl | assumption) (by omega) (by omega) (by omega) (by omega) (hO1 0 (by omega)) ?_
      refine G_icmp_ge (pc := 11) (tgt := 35) dL_lays_11 (Ri.mk (by omega) (by omega)) (Ri.mk (by omega) (by omega)) (by decide) (fun h_11 => ?_) (fun h_11 => ?_)
      · refine G_iconst (pc := 35) dL_lays_35 ?_
        refine G_istore_n (pc := 36) (lv' := [_, _, _, _]) dL_lays_36 (by decide) rfl ?_
        exact lp2 (o 1) 0 I' J' n1 tx1 D _ (by omega) hOf hC1 hW1 (by omega) hX (by rw [show o 0 = k by omega]; exact hL)
      · exact absurd h_11 (by omega)
    | succ r ih =>
      intro k I' J' n1 tx1 D e hk hOf hC1 hW1 hn1 hX hL
      have hO1 := hO.off hOf
      have d6k := d6 k (by omega)
      obtain ⟨D1, t1, hL1⟩ := hL.sort hD (by omega)
      refine G_iload_n (pc := 7) dL_lays_7 rfl ?_
      refine G_aload_n (pc := 8) dL_lays_8 rfl ?_
      refine G_iconst (pc := 9) dL_lays_9 ?_
      refine G_ialdv (pc := 10) dL_lays_10 (by first | rfl | assumption) (by omega) (by omega) (by omega) (by omega) (hO1 0 (by omega)) ?_
      refine G_icmp_ge (pc := 11) (tgt := 35) dL_lays_11 (Ri.mk (by omega) (by omega)) (Ri.mk (by omega) (by omega)) (by decide) (fun h_11 => ?_) (fun h_11 => ?_)
      · exact absurd h_11 (by omega)
      · refine G_aload_n (pc := 14) dL_lays_14 rfl ?_
        refine G_bipush (pc := 15) dL_lays_15 (by decide) ?_
        refine G_iconst (pc := 17) dL_lays_17 ?_
        refine G_aload_n (pc := 18) dL_lays_18 rfl ?_
        refine G_bipush (pc := 19) dL_lays_19 (by decide) ?_
        refine G_iconst (pc := 21) dL_lays_21 ?_
        refine G_iload_n (pc := 22) dL_lays_22 rfl ?_
        refine G_imul (pc := 23) dL_lays_23 ?_
        refine G_iadd (pc := 24) dL_lays_24 ?_
        refine G_callS (pc := 25) (md := mdL_item) (av := [_, _, _, _, _]) dL_lays_25 lkL_33 mwL_item (c_item (o := o) 115 4 (6 + 4 * k) _ _ (by omega) (by omega) (by omega) (by omega) (by omega) (fun i hi => by rcases (show i = 0 ∨ i = 1 ∨ i = 2 ∨ i = 3 by omega) with rfl | rfl | rfl | rfl <;> first | omega | (rw [Nat.add_zero]; omega)) (by omega) hM hO1 hC1 hW1) rfl rfl (Nat.le_of_ble_eq_true rfl) (by decide) ⟨Nat.zero_le _, Nat.zero_le _⟩ ?_
        rintro v I2 J2 ⟨n2, tx2, rfl, hO2, hn2, hC2, hW2, ho2, hT2⟩
        refine G_istore_n (pc := 28) (lv' := [_, _, _, _]) dL_lays_28 (by decide) rfl ?_
        refine G_iinc (pc := 29) (lv' := [_, _, _, _]) dL_lays_29 (by decide) rfl rfl ?_
        refine G_goto (pc := 32) (tgt := 7) dL_lays_32 (by decide) ?_
        exact ih (k + 1) I2 J2 n2 tx2 D1 _ (by omega) (hOf.trans hO2) hC2 hW2 (by omega) (hX.add hT2 ho2 t1) hL1
  refine G_aload_n (pc := 0) dL_lays_0 rfl ?_
  refine G_callV (pc := 1) (md := mdX11_wipe) (av := []) dL_lays_1 lkL_29 mwX11_wipe (x_wipe (by omega) hC hW) rfl (by first | rfl | assumption) (by omega) rfl rfl (Nat.le_of_ble_eq_true rfl) (by decide) ⟨Nat.zero_le _, Nat.zero_le _⟩ ?_
  rintro v I2 J2 ⟨rfl, hO2, -, hC2⟩
  refine G_istore_n (pc := 4) (lv' := [_, _, _, _]) dL_lays_4 (by decide) rfl ?_
  refine G_iconst (pc := 5) dL_lays_5 ?_
  refine G_istore_n (pc := 6) (lv' := [_, _, _, _]) dL_lays_6 (by decide) rfl ?_
  exact lp1 (o 0) 0 I2 J2 0 tx D0 _ (by omega) hO2 hC2 (W_wipe (S := (n, tx, hs, C, kn, K)) hW) (by omega) (TXD.nil tx) (LD.nil o)
end LAYS
