/-! READER -/
def DI (I : Nat → Nat → Int) (D : DS) : Prop := HI I 21 D.1 ∧ RI I 30 D.2
def rdQ (res : Option (Nat × (Nat → Nat) × Nat)) (v : Option Value) (I' : Nat → Nat → Int) : Prop := match res with
  | none => v = some (vi (-4))
  | some x => v = some (vi (x.2.2 : Int)) ∧ I' 33 3 = x.1 ∧ ∀ i, i < x.1 → I' 34 i = x.2.1 i
theorem c_readNumbers {E : EV} {M : Nat} {I J : Nat → Nat → Int} {n : Nat} {tx : Nat → Int} (p : Nat) (a : Int) (hM : 71 ≤ M) (hX : XI I n tx) (hn : n ≤ 400) (htx : ∀ i, -128 ≤ tx i ∧ tx i ≤ 127) (hp : p ≤ 401) (ha : a = p) : FnQ E mdX6_readNumbers 1 M Rf [vr E 33, vr E 1, vi a] I J (fun v I' J' => J' = J ∧ Off I I' 33 34 ∧ rdQ (rdM tx (n - p) p 0 (fun _ => 0) 0 0) v I') := by
  subst ha
  have v1 := hX.1
  refine FnQ.of (by decide +kernel) (Nat.le_of_ble_eq_true rfl) ?_
  show GM E mdX6_readNumbers 1 M Rf _ I J 0 [some (vr E 33), some (vr E 1), some (vi (p : Int)), none, none, none, none] []
  obtain ⟨res, hres⟩ : ∃ r, r = rdM tx (n - p) p 0 (fun _ => 0) 0 0 := ⟨_, rfl⟩
  rw [← hres]
  generalize hQ : (fun (v : Option Value) (I' J' : Nat → Nat → Int) => J' = J ∧ Off I I' 33 34 ∧ rdQ res v I') = Q
  have loop : ∀ (m q j v f : Nat) (nm : Nat → Nat) (I' : Nat → Nat → Int) (e1 : Option Value), m = n - q → q ≤ 401 → Off I I' 33 34 → I' 33 3 = j → (∀ i, i < j → I' 34 i = nm i) → j ≤ 4 → vB f v → rdM tx m q j nm v f = res → GM E mdX6_readNumbers 1 M Rf Q I' J 13 [some (vr E 33), some (vr E 1), some (vi (p : Int)), some (vi (v : Int)), some (vi (f : Int)), some (vi (q : Int)), e1] [] := by
    intro m
    induction m with
    | zero =>
      intro q j v f nm I' e1 hm hq hO hj hnm hj4 hv hr
      have v1' : I' 1 1 = n := by rw [hO 1 (by omega)]; exact v1
      have hr : none = res := hr
      refine G_iload (pc := 13) dX6_readNumbers_13 rfl ?_
      refine G_aload_n (pc := 15) dX6_readNumbers_15 rfl ?_
      refine G_geti (pc := 16) dX6_readNumbers_16 fiX6_34 (by first | rfl | assumption) (by omega) ?_
      refine G_icmp_ge (pc := 19) (tgt := 146) dX6_readNumbers_19 (Ri.mk (by omega) (by omega)) (Ri.mk (by omega) (by omega)) (by decide) (fun h_19 => ?_) (fun h_19 => ?_)
      · refine G_bipush (pc := 146) dX6_readNumbers_146 (by decide) ?_
        refine G_iret (pc := 148) dX6_readNumbers_148 rfl ?_
        rw [← hQ, ← hr]; exact ⟨rfl, hO, rfl⟩
      · exact absurd h_19 (by omega)
    | succ m ih =>
      intro q j v f nm I' e1 hm hq hO hj hnm hj4 hv hr
      have v1' : I' 1 1 = n := by rw [hO 1 (by omega)]; exact v1
      have hX' : XI I' n tx := hX.off (hO 1 (by omega)) (hO 2 (by omega))
      have hvb : v ≤ 999 ∧ f ≤ 3 := by unfold vB at hv; omega
      have ht := htx q
      rw [rdM] at hr
      refine G_iload (pc := 13) dX6_readNumbers_13 rfl ?_
      refine G_aload_n (pc := 15) dX6_readNumbers_15 rfl ?_
      refine G_geti (pc := 16) dX6_readNumbers_16 fiX6_34 (by first | rfl | assumption) (by omega) ?_
      refine G_icmp_ge (pc := 19) (tgt := 146) dX6_readNumbers_19 (Ri.mk (by omega) (by omega)) (Ri.mk (by omega) (by omega)) (by decide) (fun h_19 => ?_) (fun h_19 => ?_)
      · exact absurd h_19 (by omega)
      · refine G_aload_n (pc := 22) dX6_readNumbers_22 rfl ?_
        refine G_iload (pc := 23) dX6_readNumbers_23 rfl ?_
        refine G_callV1 (pc := 25) (md := mdX9_byteAt) (av := [_]) dX6_readNumbers_25 lkX6_41 mwX9_byteAt (c_byteAt (q : Int) hM hX' hn (Ri.mk (by omega) (by omega))) rfl (by first | rfl | assumption) (by omega) rfl rfl (Nat.le_of_ble_eq_true rfl) (by decide) ⟨Nat.zero_le _, Nat.zero_le _⟩ ?_
        rw [if_pos (show (0 : Int) ≤ (q : Int) ∧ (q : Int) < n by omega), Int.toNat_natCast]
        refine G_istore (pc := 28) (lv' := [_, _, _, _, _, _, _]) dX6_readNumbers_28 (by decide) rfl ?_
        refine G_iload (pc := 30) dX6_readNumbers_30 rfl ?_
        refine G_bipush (pc := 32) dX6_readNumbers_32 (by decide) ?_
        refine G_icmp_lt (pc := 34) (tgt := 67) dX6_readNumbers_34 (Ri.mk (by omega) (by omega)) (Ri.mk (by omega) (by omega)) (by decide) (fun h_34 => ?_) (fun h_34 => ?_)
        · refine G_iload (pc := 67) dX6_readNumbers_67 rfl ?_
          refine G_bipush (pc := 69) dX6_readNumbers_69 (by decide) ?_
          refine G_icmp_eq (pc := 71) (tgt := 81) dX6_readNumbers_71 (Ri.mk (by omega) (by omega)) (Ri.mk (by omega) (by omega)) (by decide) (fun h_71 => ?_) (fun h_71 => ?_)
          · refine G_iload (pc := 81) dX6_readNumbers_81 rfl ?_
            refine G_if_le (pc := 83) (tgt := 137) dX6_readNumbers_83 (Ri.mk (by omega) (by omega)) (by decide) (fun h_83 => ?_) (fun h_83 => ?_)
            · refine G_bipush (pc := 137) dX6_readNumbers_137 (by decide) ?_
              refine G_iret (pc := 139) dX6_readNumbers_139 rfl ?_
              rw [if_neg (by omega), if_neg (by omega)] at hr
              rw [← hQ, ← hr]
              exact ⟨rfl, hO, rfl⟩
            · refine G_aload_n (pc := 86) dX6_readNumbers_86 rfl ?_
              refine G_geti (pc := 87) dX6_readNumbers_87 fiX6_49 (by first | rfl | assumption) (by omega) ?_
              refine G_aload_n (pc := 90) dX6_readNumbers_90 rfl ?_
              refine G_getr (pc := 91) dX6_readNumbers_91 fiX6_9 (by first | rfl | assumption) (by omega) (by first | rfl | assumption) ?_
              refine G_alen (pc := 94) dX6_readNumbers_94 (by first | rfl | assumption) (by decide) (by omega) ?_
              refine G_icmp_ge (pc := 95) (tgt := 137) dX6_readNumbers_95 (Ri.mk (by omega) (by omega)) (Ri.mk (by omega) (by omega)) (by decide) (fun h_95 => ?_) (fun h_95 => ?_)
              · refine G_bipush (pc := 137) dX6_readNumbers_137 (by decide) ?_
                refine G_iret (pc := 139) dX6_readNumbers_139 rfl ?_
                rw [if_neg (by omega), if_neg (by omega)] at hr
                rw [← hQ, ← hr]
                exact ⟨rfl, hO, rfl⟩
              · refine G_aload_n (pc := 98) dX6_readNumbers_98 rfl ?_
                refine G_getr (pc := 99) dX6_readNumbers_99 fiX6_9 (by first | rfl | assumption) (by omega) (by first | rfl | assumption) ?_
                refine G_aload_n (pc := 102) dX6_readNumbers_102 rfl ?_
                refine G_geti (pc := 103) dX6_readNumbers_103 fiX6_49 (by first | rfl | assumption) (by omega) ?_
                refine G_iload_n (pc := 106) dX6_readNumbers_106 rfl ?_
                refine G_callS0 (pc := 107) (md := mdX11_put) (av := [_, _, _]) dX6_readNumbers_107 lkX6_52 mwX11_put (c_put 34 4 j _ _ rfl (by omega) (by omega) (by omega) hj) rfl rfl (Nat.le_of_ble_eq_true rfl) (by decide) ⟨Nat.zero_le _, Nat.zero_le _⟩ ?_
                refine G_aload_n (pc := 110) dX6_readNumbers_110 rfl ?_
                refine G_dup (pc := 111) dX6_readNumbers_111 rfl ?_
                refine G_geti (pc := 112) dX6_readNumbers_112 fiX6_49 (by first | rfl | assumption) (by omega) ?_
                refine G_iconst (pc := 115) dX6_readNumbers_115 ?_
                refine G_iadd (pc := 116) dX6_readNumbers_116 ?_
                refine G_puti (pc := 117) dX6_readNumbers_117 fiX6_49 (by first | rfl | assumption) (by omega) ?_
                refine G_iconst (pc := 120) dX6_readNumbers_120 ?_
                refine G_istore_n (pc := 121) (lv' := [_, _, _, _, _, _, _]) dX6_readNumbers_121 (by decide) rfl ?_
                refine G_iconst (pc := 122) dX6_readNumbers_122 ?_
                refine G_istore (pc := 123) (lv' := [_, _, _, _, _, _, _]) dX6_readNumbers_123 (by decide) rfl ?_
                refine G_iload (pc := 125) dX6_readNumbers_125 rfl ?_
                refine G_bipush (pc := 127) dX6_readNumbers_127 (by decide) ?_
                refine G_icmp_ne (pc := 129) (tgt := 140) dX6_readNumbers_129 (Ri.mk (by omega) (by omega)) (Ri.mk (by omega) (by omega)) (by decide) (fun h_129 => ?_) (fun h_129 => ?_)
                · refine G_iinc (pc := 140) (lv' := [_, _, _, _, _, _, _]) dX6_readNumbers_140 (by decide) rfl rfl ?_
                  refine G_goto (pc := 143) (tgt := 13) dX6_readNumbers_143 (by decide) ?_
                  first
                    | (rw [if_pos (by omega)] at hr
                       refine G_eq rfl rfl ?_ rfl (ih (q + 1) j (10 * v + (tx q - 48).toNat) (f + 1) nm I' (some (vi (tx q))) (by omega) (by omega) hO hj hnm hj4 (vB_up hv (by omega) (by omega)) hr)
                       rw [show (10 : Int) * (v : Int) + tx q - 48 = ((10 * v + (tx q - 48).toNat : Nat) : Int) by omega]; rfl)
                    | (rw [if_neg (by omega), if_pos (by omega), if_neg (by omega)] at hr
                       refine ih (q + 1) (j + 1) 0 0 (upN nm j v) _ _ (by omega) (by omega) ((hO.set (by omega) (by omega)).set (by omega) (by omega)) (by rw [wr_s, wr_o (by decide), hj]; rfl) (fun i hi => ?_) (by omega) (Or.inl ⟨rfl, rfl⟩) hr
                       rw [wr_o (by decide)]
                       by_cases e : i = j
                       · subst e; rw [wr_s]; simp [upN]
                       · rw [wr_n e, hnm i (by omega)]; simp [upN, e])
                · refine G_iload (pc := 132) dX6_readNumbers_132 rfl ?_
                  refine G_iconst (pc := 134) dX6_readNumbers_134 ?_
                  refine G_iadd (pc := 135) dX6_readNumbers_135 ?_
                  refine G_iret (pc := 136) dX6_readNumbers_136 rfl ?_
                  have h59 : tx q = 59 := by omega
                  rw [if_neg (by omega), if_pos (by omega), if_pos h59] at hr
                  rw [← hQ, ← hr]
                  refine ⟨rfl, (hO.set (by omega) (by omega)).set (by omega) (by omega), rfl, (by rw [wr_s, wr_o (by decide), hj]; rfl), fun i hi => ?_⟩
                  rw [wr_o (by decide)]
                  have hi : i < j + 1 := hi
                  by_cases e : i = j
                  · subst e; rw [wr_s]; simp [upN]
                  · rw [wr_n e, hnm i (by omega)]; simp [upN, e]
          · refine G_iload (pc := 74) dX6_readNumbers_74 rfl ?_
            refine G_bipush (pc := 76) dX6_readNumbers_76 (by decide) ?_
            refine G_icmp_ne (pc := 78) (tgt := 137) dX6_readNumbers_78 (Ri.mk (by omega) (by omega)) (Ri.mk (by omega) (by omega)) (by decide) (fun h_78 => ?_) (fun h_78 => ?_)
            · refine G_bipush (pc := 137) dX6_readNumbers_137 (by decide) ?_
              refine G_iret (pc := 139) dX6_readNumbers_139 rfl ?_
              rw [if_neg (by omega), if_neg (by omega)] at hr
              rw [← hQ, ← hr]
              exact ⟨rfl, hO, rfl⟩
            · refine G_iload (pc := 81) dX6_readNumbers_81 rfl ?_
              refine G_if_le (pc := 83) (tgt := 137) dX6_readNumbers_83 (Ri.mk (by omega) (by omega)) (by decide) (fun h_83 => ?_) (fun h_83 => ?_)
              · refine G_bipush (pc := 137) dX6_readNumbers_137 (by decide) ?_
                refine G_iret (pc := 139) dX6_readNumbers_139 rfl ?_
                rw [if_neg (by omega), if_neg (by omega)] at hr
                rw [← hQ, ← hr]
                exact ⟨rfl, hO, rfl⟩
              · refine G_aload_n (pc := 86) dX6_readNumbers_86 rfl ?_
                refine G_geti (pc := 87) dX6_readNumbers_87 fiX6_49 (by first | rfl | assumption) (by omega) ?_
                refine G_aload_n (pc := 90) dX6_readNumbers_90 rfl ?_
                refine G_getr (pc := 91) dX6_readNumbers_91 fiX6_9 (by first | rfl | assumption) (by omega) (by first | rfl | assumption) ?_
                refine G_alen (pc := 94) dX6_readNumbers_94 (by first | rfl | assumption) (by decide) (by omega) ?_
                refine G_icmp_ge (pc := 95) (tgt := 137) dX6_readNumbers_95 (Ri.mk (by omega) (by omega)) (Ri.mk (by omega) (by omega)) (by decide) (fun h_95 => ?_) (fun h_95 => ?_)
                · refine G_bipush (pc := 137) dX6_readNumbers_137 (by decide) ?_
                  refine G_iret (pc := 139) dX6_readNumbers_139 rfl ?_
                  rw [if_neg (by omega), if_neg (by omega)] at hr
                  rw [← hQ, ← hr]
                  exact ⟨rfl, hO, rfl⟩
                · refine G_aload_n (pc := 98) dX6_readNumbers_98 rfl ?_
                  refine G_getr (pc := 99) dX6_readNumbers_99 fiX6_9 (by first | rfl | assumption) (by omega) (by first | rfl | assumption) ?_
                  refine G_aload_n (pc := 102) dX6_readNumbers_102 rfl ?_
                  refine G_geti (pc := 103) dX6_readNumbers_103 fiX6_49 (by first | rfl | assumption) (by omega) ?_
                  refine G_iload_n (pc := 106) dX6_readNumbers_106 rfl ?_
                  refine G_callS0 (pc := 107) (md := mdX11_put) (av := [_, _, _]) dX6_readNumbers_107 lkX6_52 mwX11_put (c_put 34 4 j _ _ rfl (by omega) (by omega) (by omega) hj) rfl rfl (Nat.le_of_ble_eq_true rfl) (by decide) ⟨Nat.zero_le _, Nat.zero_le _⟩ ?_
                  refine G_aload_n (pc := 110) dX6_readNumbers_110 rfl ?_
                  refine G_dup (pc := 111) dX6_readNumbers_111 rfl ?_
                  refine G_geti (pc := 112) dX6_readNumbers_112 fiX6_49 (by first | rfl | assumption) (by omega) ?_
                  refine G_iconst (pc := 115) dX6_readNumbers_115 ?_
                  refine G_iadd (pc := 116) dX6_readNumbers_116 ?_
                  refine G_puti (pc := 117) dX6_readNumbers_117 fiX6_49 (by first | rfl | assumption) (by omega) ?_
                  refine G_iconst (pc := 120) dX6_readNumbers_120 ?_
                  refine G_istore_n (pc := 121) (lv' := [_, _, _, _, _, _, _]) dX6_readNumbers_121 (by decide) rfl ?_
                  refine G_iconst (pc := 122) dX6_readNumbers_122 ?_
                  refine G_istore (pc := 123) (lv' := [_, _, _, _, _, _, _]) dX6_readNumbers_123 (by decide) rfl ?_
                  refine G_iload (pc := 125) dX6_readNumbers_125 rfl ?_
                  refine G_bipush (pc := 127) dX6_readNumbers_127 (by decide) ?_
                  refine G_icmp_ne (pc := 129) (tgt := 140) dX6_readNumbers_129 (Ri.mk (by omega) (by omega)) (Ri.mk (by omega) (by omega)) (by decide) (fun h_129 => ?_) (fun h_129 => ?_)
                  · refine G_iinc (pc := 140) (lv' := [_, _, _, _, _, _, _]) dX6_readNumbers_140 (by decide) rfl rfl ?_
                    refine G_goto (pc := 143) (tgt := 13) dX6_readNumbers_143 (by decide) ?_
                    first
                      | (rw [if_pos (by omega)] at hr
                         refine G_eq rfl rfl ?_ rfl (ih (q + 1) j (10 * v + (tx q - 48).toNat) (f + 1) nm I' (some (vi (tx q))) (by omega) (by omega) hO hj hnm hj4 (vB_up hv (by omega) (by omega)) hr)
                         rw [show (10 : Int) * (v : Int) + tx q - 48 = ((10 * v + (tx q - 48).toNat : Nat) : Int) by omega]; rfl)
                      | (rw [if_neg (by omega), if_pos (by omega), if_neg (by omega)] at hr
                         refine ih (q + 1) (j + 1) 0 0 (upN nm j v) _ _ (by omega) (by omega) ((hO.set (by omega) (by omega)).set (by omega) (by omega)) (by rw [wr_s, wr_o (by decide), hj]; rfl) (fun i hi => ?_) (by omega) (Or.inl ⟨rfl, rfl⟩) hr
                         rw [wr_o (by decide)]
                         by_cases e : i = j
                         · subst e; rw [wr_s]; simp [upN]
                         · rw [wr_n e, hnm i (by omega)]; simp [upN, e])
                  · refine G_iload (pc := 132) dX6_readNumbers_132 rfl ?_
                    refine G_iconst (pc := 134) dX6_readNumbers_134 ?_
                    refine G_iadd (pc := 135) dX6_readNumbers_135 ?_
                    refine G_iret (pc := 136) dX6_readNumbers_136 rfl ?_
                    have h59 : tx q = 59 := by omega
                    rw [if_neg (by omega), if_pos (by omega), if_pos h59] at hr
                    rw [← hQ, ← hr]
                    refine ⟨rfl, (hO.set (by omega) (by omega)).set (by omega) (by omega), rfl, (by rw [wr_s, wr_o (by decide), hj]; rfl), fun i hi => ?_⟩
                    rw [wr_o (by decide)]
                    have hi : i < j + 1 := hi
                    by_cases e : i = j
                    · subst e; rw [wr_s]; simp [upN]
                    · rw [wr_n e, hnm i (by omega)]; simp [upN, e]
        · refine G_iload (pc := 37) dX6_readNumbers_37 rfl ?_
          refine G_bipush (pc := 39) dX6_readNumbers_39 (by decide) ?_
          refine G_icmp_gt (pc := 41) (tgt := 67) dX6_readNumbers_41 (Ri.mk (by omega) (by omega)) (Ri.mk (by omega) (by omega)) (by decide) (fun h_41 => ?_) (fun h_41 => ?_)
          · refine G_iload (pc := 67) dX6_readNumbers_67 rfl ?_
            refine G_bipush (pc := 69) dX6_readNumbers_69 (by decide) ?_
            refine G_icmp_eq (pc := 71) (tgt := 81) dX6_readNumbers_71 (Ri.mk (by omega) (by omega)) (Ri.mk (by omega) (by omega)) (by decide) (fun h_71 => ?_) (fun h_71 => ?_)
            · refine G_iload (pc := 81) dX6_readNumbers_81 rfl ?_
              refine G_if_le (pc := 83) (tgt := 137) dX6_readNumbers_83 (Ri.mk (by omega) (by omega)) (by decide) (fun h_83 => ?_) (fun h_83 => ?_)
              · refine G_bipush (pc := 137) dX6_readNumbers_137 (by decide) ?_
                refine G_iret (pc := 139) dX6_readNumbers_139 rfl ?_
                rw [if_neg (by omega), if_neg (by omega)] at hr
                rw [← hQ, ← hr]
                exact ⟨rfl, hO, rfl⟩
              · refine G_aload_n (pc := 86) dX6_readNumbers_86 rfl ?_
                refine G_geti (pc := 87) dX6_readNumbers_87 fiX6_49 (by first | rfl | assumption) (by omega) ?_
                refine G_aload_n (pc := 90) dX6_readNumbers_90 rfl ?_
                refine G_getr (pc := 91) dX6_readNumbers_91 fiX6_9 (by first | rfl | assumption) (by omega) (by first | rfl | assumption) ?_
                refine G_alen (pc := 94) dX6_readNumbers_94 (by first | rfl | assumption) (by decide) (by omega) ?_
                refine G_icmp_ge (pc := 95) (tgt := 137) dX6_readNumbers_95 (Ri.mk (by omega) (by omega)) (Ri.mk (by omega) (by omega)) (by decide) (fun h_95 => ?_) (fun h_95 => ?_)
                · refine G_bipush (pc := 137) dX6_readNumbers_137 (by decide) ?_
                  refine G_iret (pc := 139) dX6_readNumbers_139 rfl ?_
                  rw [if_neg (by omega), if_neg (by omega)] at hr
                  rw [← hQ, ← hr]
                  exact ⟨rfl, hO, rfl⟩
                · refine G_aload_n (pc := 98) dX6_readNumbers_98 rfl ?_
                  refine G_getr (pc := 99) dX6_readNumbers_99 fiX6_9 (by first | rfl | assumption) (by omega) (by first | rfl | assumption) ?_
                  refine G_aload_n (pc := 102) dX6_readNumbers_102 rfl ?_
                  refine G_geti (pc := 103) dX6_readNumbers_103 fiX6_49 (by first | rfl | assumption) (by omega) ?_
                  refine G_iload_n (pc := 106) dX6_readNumbers_106 rfl ?_
                  refine G_callS0 (pc := 107) (md := mdX11_put) (av := [_, _, _]) dX6_readNumbers_107 lkX6_52 mwX11_put (c_put 34 4 j _ _ rfl (by omega) (by omega) (by omega) hj) rfl rfl (Nat.le_of_ble_eq_true rfl) (by decide) ⟨Nat.zero_le _, Nat.zero_le _⟩ ?_
                  refine G_aload_n (pc := 110) dX6_readNumbers_110 rfl ?_
                  refine G_dup (pc := 111) dX6_readNumbers_111 rfl ?_
                  refine G_geti (pc := 112) dX6_readNumbers_112 fiX6_49 (by first | rfl | assumption) (by omega) ?_
                  refine G_iconst (pc := 115) dX6_readNumbers_115 ?_
                  refine G_iadd (pc := 116) dX6_readNumbers_116 ?_
                  refine G_puti (pc := 117) dX6_readNumbers_117 fiX6_49 (by first | rfl | assumption) (by omega) ?_
                  refine G_iconst (pc := 120) dX6_readNumbers_120 ?_
                  refine G_istore_n (pc := 121) (lv' := [_, _, _, _, _, _, _]) dX6_readNumbers_121 (by decide) rfl ?_
                  refine G_iconst (pc := 122) dX6_readNumbers_122 ?_
                  refine G_istore (pc := 123) (lv' := [_, _, _, _, _, _, _]) dX6_readNumbers_123 (by decide) rfl ?_
                  refine G_iload (pc := 125) dX6_readNumbers_125 rfl ?_
                  refine G_bipush (pc := 127) dX6_readNumbers_127 (by decide) ?_
                  refine G_icmp_ne (pc := 129) (tgt := 140) dX6_readNumbers_129 (Ri.mk (by omega) (by omega)) (Ri.mk (by omega) (by omega)) (by decide) (fun h_129 => ?_) (fun h_129 => ?_)
                  · refine G_iinc (pc := 140) (lv' := [_, _, _, _, _, _, _]) dX6_readNumbers_140 (by decide) rfl rfl ?_
                    refine G_goto (pc := 143) (tgt := 13) dX6_readNumbers_143 (by decide) ?_
                    first
                      | (rw [if_pos (by omega)] at hr
                         refine G_eq rfl rfl ?_ rfl (ih (q + 1) j (10 * v + (tx q - 48).toNat) (f + 1) nm I' (some (vi (tx q))) (by omega) (by omega) hO hj hnm hj4 (vB_up hv (by omega) (by omega)) hr)
                         rw [show (10 : Int) * (v : Int) + tx q - 48 = ((10 * v + (tx q - 48).toNat : Nat) : Int) by omega]; rfl)
                      | (rw [if_neg (by omega), if_pos (by omega), if_neg (by omega)] at hr
                         refine ih (q + 1) (j + 1) 0 0 (upN nm j v) _ _ (by omega) (by omega) ((hO.set (by omega) (by omega)).set (by omega) (by omega)) (by rw [wr_s, wr_o (by decide), hj]; rfl) (fun i hi => ?_) (by omega) (Or.inl ⟨rfl, rfl⟩) hr
                         rw [wr_o (by decide)]
                         by_cases e : i = j
                         · subst e; rw [wr_s]; simp [upN]
                         · rw [wr_n e, hnm i (by omega)]; simp [upN, e])
                  · refine G_iload (pc := 132) dX6_readNumbers_132 rfl ?_
                    refine G_iconst (pc := 134) dX6_readNumbers_134 ?_
                    refine G_iadd (pc := 135) dX6_readNumbers_135 ?_
                    refine G_iret (pc := 136) dX6_readNumbers_136 rfl ?_
                    have h59 : tx q = 59 := by omega
                    rw [if_neg (by omega), if_pos (by omega), if_pos h59] at hr
                    rw [← hQ, ← hr]
                    refine ⟨rfl, (hO.set (by omega) (by omega)).set (by omega) (by omega), rfl, (by rw [wr_s, wr_o (by decide), hj]; rfl), fun i hi => ?_⟩
                    rw [wr_o (by decide)]
                    have hi : i < j + 1 := hi
                    by_cases e : i = j
                    · subst e; rw [wr_s]; simp [upN]
                    · rw [wr_n e, hnm i (by omega)]; simp [upN, e]
            · refine G_iload (pc := 74) dX6_readNumbers_74 rfl ?_
              refine G_bipush (pc := 76) dX6_readNumbers_76 (by decide) ?_
              refine G_icmp_ne (pc := 78) (tgt := 137) dX6_readNumbers_78 (Ri.mk (by omega) (by omega)) (Ri.mk (by omega) (by omega)) (by decide) (fun h_78 => ?_) (fun h_78 => ?_)
              · refine G_bipush (pc := 137) dX6_readNumbers_137 (by decide) ?_
                refine G_iret (pc := 139) dX6_readNumbers_139 rfl ?_
                rw [if_neg (by omega), if_neg (by omega)] at hr
                rw [← hQ, ← hr]
                exact ⟨rfl, hO, rfl⟩
              · refine G_iload (pc := 81) dX6_readNumbers_81 rfl ?_
                refine G_if_le (pc := 83) (tgt := 137) dX6_readNumbers_83 (Ri.mk (by omega) (by omega)) (by decide) (fun h_83 => ?_) (fun h_83 => ?_)
                · refine G_bipush (pc := 137) dX6_readNumbers_137 (by decide) ?_
                  refine G_iret (pc := 139) dX6_readNumbers_139 rfl ?_
                  rw [if_neg (by omega), if_neg (by omega)] at hr
                  rw [← hQ, ← hr]
                  exact ⟨rfl, hO, rfl⟩
                · refine G_aload_n (pc := 86) dX6_readNumbers_86 rfl ?_
                  refine G_geti (pc := 87) dX6_readNumbers_87 fiX6_49 (by first | rfl | assumption) (by omega) ?_
                  refine G_aload_n (pc := 90) dX6_readNumbers_90 rfl ?_
                  refine G_getr (pc := 91) dX6_readNumbers_91 fiX6_9 (by first | rfl | assumption) (by omega) (by first | rfl | assumption) ?_
                  refine G_alen (pc := 94) dX6_readNumbers_94 (by first | rfl | assumption) (by decide) (by omega) ?_
                  refine G_icmp_ge (pc := 95) (tgt := 137) dX6_readNumbers_95 (Ri.mk (by omega) (by omega)) (Ri.mk (by omega) (by omega)) (by decide) (fun h_95 => ?_) (fun h_95 => ?_)
                  · refine G_bipush (pc := 137) dX6_readNumbers_137 (by decide) ?_
                    refine G_iret (pc := 139) dX6_readNumbers_139 rfl ?_
                    rw [if_neg (by omega), if_neg (by omega)] at hr
                    rw [← hQ, ← hr]
                    exact ⟨rfl, hO, rfl⟩
                  · refine G_aload_n (pc := 98) dX6_readNumbers_98 rfl ?_
                    refine G_getr (pc := 99) dX6_readNumbers_99 fiX6_9 (by first | rfl | assumption) (by omega) (by first | rfl | assumption) ?_
                    refine G_aload_n (pc := 102) dX6_readNumbers_102 rfl ?_
                    refine G_geti (pc := 103) dX6_readNumbers_103 fiX6_49 (by first | rfl | assumption) (by omega) ?_
                    refine G_iload_n (pc := 106) dX6_readNumbers_106 rfl ?_
                    refine G_callS0 (pc := 107) (md := mdX11_put) (av := [_, _, _]) dX6_readNumbers_107 lkX6_52 mwX11_put (c_put 34 4 j _ _ rfl (by omega) (by omega) (by omega) hj) rfl rfl (Nat.le_of_ble_eq_true rfl) (by decide) ⟨Nat.zero_le _, Nat.zero_le _⟩ ?_
                    refine G_aload_n (pc := 110) dX6_readNumbers_110 rfl ?_
                    refine G_dup (pc := 111) dX6_readNumbers_111 rfl ?_
                    refine G_geti (pc := 112) dX6_readNumbers_112 fiX6_49 (by first | rfl | assumption) (by omega) ?_
                    refine G_iconst (pc := 115) dX6_readNumbers_115 ?_
                    refine G_iadd (pc := 116) dX6_readNumbers_116 ?_
                    refine G_puti (pc := 117) dX6_readNumbers_117 fiX6_49 (by first | rfl | assumption) (by omega) ?_
                    refine G_iconst (pc := 120) dX6_readNumbers_120 ?_
                    refine G_istore_n (pc := 121) (lv' := [_, _, _, _, _, _, _]) dX6_readNumbers_121 (by decide) rfl ?_
                    refine G_iconst (pc := 122) dX6_readNumbers_122 ?_
                    refine G_istore (pc := 123) (lv' := [_, _, _, _, _, _, _]) dX6_readNumbers_123 (by decide) rfl ?_
                    refine G_iload (pc := 125) dX6_readNumbers_125 rfl ?_
                    refine G_bipush (pc := 127) dX6_readNumbers_127 (by decide) ?_
                    refine G_icmp_ne (pc := 129) (tgt := 140) dX6_readNumbers_129 (Ri.mk (by omega) (by omega)) (Ri.mk (by omega) (by omega)) (by decide) (fun h_129 => ?_) (fun h_129 => ?_)
                    · refine G_iinc (pc := 140) (lv' := [_, _, _, _, _, _, _]) dX6_readNumbers_140 (by decide) rfl rfl ?_
                      refine G_goto (pc := 143) (tgt := 13) dX6_readNumbers_143 (by decide) ?_
                      first
                        | (rw [if_pos (by omega)] at hr
                           refine G_eq rfl rfl ?_ rfl (ih (q + 1) j (10 * v + (tx q - 48).toNat) (f + 1) nm I' (some (vi (tx q))) (by omega) (by omega) hO hj hnm hj4 (vB_up hv (by omega) (by omega)) hr)
                           rw [show (10 : Int) * (v : Int) + tx q - 48 = ((10 * v + (tx q - 48).toNat : Nat) : Int) by omega]; rfl)
                        | (rw [if_neg (by omega), if_pos (by omega), if_neg (by omega)] at hr
                           refine ih (q + 1) (j + 1) 0 0 (upN nm j v) _ _ (by omega) (by omega) ((hO.set (by omega) (by omega)).set (by omega) (by omega)) (by rw [wr_s, wr_o (by decide), hj]; rfl) (fun i hi => ?_) (by omega) (Or.inl ⟨rfl, rfl⟩) hr
                           rw [wr_o (by decide)]
                           by_cases e : i = j
                           · subst e; rw [wr_s]; simp [upN]
                           · rw [wr_n e, hnm i (by omega)]; simp [upN, e])
                    · refine G_iload (pc := 132) dX6_readNumbers_132 rfl ?_
                      refine G_iconst (pc := 134) dX6_readNumbers_134 ?_
                      refine G_iadd (pc := 135) dX6_readNumbers_135 ?_
                      refine G_iret (pc := 136) dX6_readNumbers_136 rfl ?_
                      have h59 : tx q = 59 := by omega
                      rw [if_neg (by omega), if_pos (by omega), if_pos h59] at hr
                      rw [← hQ, ← hr]
                      refine ⟨rfl, (hO.set (by omega) (by omega)).set (by omega) (by omega), rfl, (by rw [wr_s, wr_o (by decide), hj]; rfl), fun i hi => ?_⟩
                      rw [wr_o (by decide)]
                      have hi : i < j + 1 := hi
                      by_cases e : i = j
                      · subst e; rw [wr_s]; simp [upN]
                      · rw [wr_n e, hnm i (by omega)]; simp [upN, e]
          · refine G_iload (pc := 44) dX6_readNumbers_44 rfl ?_
            refine G_iconst (pc := 46) dX6_readNumbers_46 ?_
            refine G_icmp_ge (pc := 47) (tgt := 67) dX6_readNumbers_47 (Ri.mk (by omega) (by omega)) (Ri.mk (by omega) (by omega)) (by decide) (fun h_47 => ?_) (fun h_47 => ?_)
            · refine G_iload (pc := 67) dX6_readNumbers_67 rfl ?_
              refine G_bipush (pc := 69) dX6_readNumbers_69 (by decide) ?_
              refine G_icmp_eq (pc := 71) (tgt := 81) dX6_readNumbers_71 (Ri.mk (by omega) (by omega)) (Ri.mk (by omega) (by omega)) (by decide) (fun h_71 => ?_) (fun h_71 => ?_)
              · refine G_iload (pc := 81) dX6_readNumbers_81 rfl ?_
                refine G_if_le (pc := 83) (tgt := 137) dX6_readNumbers_83 (Ri.mk (by omega) (by omega)) (by decide) (fun h_83 => ?_) (fun h_83 => ?_)
                · refine G_bipush (pc := 137) dX6_readNumbers_137 (by decide) ?_
                  refine G_iret (pc := 139) dX6_readNumbers_139 rfl ?_
                  rw [if_neg (by omega), if_neg (by omega)] at hr
                  rw [← hQ, ← hr]
                  exact ⟨rfl, hO, rfl⟩
                · refine G_aload_n (pc := 86) dX6_readNumbers_86 rfl ?_
                  refine G_geti (pc := 87) dX6_readNumbers_87 fiX6_49 (by first | rfl | assumption) (by omega) ?_
                  refine G_aload_n (pc := 90) dX6_readNumbers_90 rfl ?_
                  refine G_getr (pc := 91) dX6_readNumbers_91 fiX6_9 (by first | rfl | assumption) (by omega) (by first | rfl | assumption) ?_
                  refine G_alen (pc := 94) dX6_readNumbers_94 (by first | rfl | assumption) (by decide) (by omega) ?_
                  refine G_icmp_ge (pc := 95) (tgt := 137) dX6_readNumbers_95 (Ri.mk (by omega) (by omega)) (Ri.mk (by omega) (by omega)) (by decide) (fun h_95 => ?_) (fun h_95 => ?_)
                  · refine G_bipush (pc := 137) dX6_readNumbers_137 (by decide) ?_
                    refine G_iret (pc := 139) dX6_readNumbers_139 rfl ?_
                    rw [if_neg (by omega), if_neg (by omega)] at hr
                    rw [← hQ, ← hr]
                    exact ⟨rfl, hO, rfl⟩
                  · refine G_aload_n (pc := 98) dX6_readNumbers_98 rfl ?_
                    refine G_getr (pc := 99) dX6_readNumbers_99 fiX6_9 (by first | rfl | assumption) (by omega) (by first | rfl | assumption) ?_
                    refine G_aload_n (pc := 102) dX6_readNumbers_102 rfl ?_
                    refine G_geti (pc := 103) dX6_readNumbers_103 fiX6_49 (by first | rfl | assumption) (by omega) ?_
                    refine G_iload_n (pc := 106) dX6_readNumbers_106 rfl ?_
                    refine G_callS0 (pc := 107) (md := mdX11_put) (av := [_, _, _]) dX6_readNumbers_107 lkX6_52 mwX11_put (c_put 34 4 j _ _ rfl (by omega) (by omega) (by omega) hj) rfl rfl (Nat.le_of_ble_eq_true rfl) (by decide) ⟨Nat.zero_le _, Nat.zero_le _⟩ ?_
                    refine G_aload_n (pc := 110) dX6_readNumbers_110 rfl ?_
                    refine G_dup (pc := 111) dX6_readNumbers_111 rfl ?_
                    refine G_geti (pc := 112) dX6_readNumbers_112 fiX6_49 (by first | rfl | assumption) (by omega) ?_
                    refine G_iconst (pc := 115) dX6_readNumbers_115 ?_
                    refine G_iadd (pc := 116) dX6_readNumbers_116 ?_
                    refine G_puti (pc := 117) dX6_readNumbers_117 fiX6_49 (by first | rfl | assumption) (by omega) ?_
                    refine G_iconst (pc := 120) dX6_readNumbers_120 ?_
                    refine G_istore_n (pc := 121) (lv' := [_, _, _, _, _, _, _]) dX6_readNumbers_121 (by decide) rfl ?_
                    refine G_iconst (pc := 122) dX6_readNumbers_122 ?_
                    refine G_istore (pc := 123) (lv' := [_, _, _, _, _, _, _]) dX6_readNumbers_123 (by decide) rfl ?_
                    refine G_iload (pc := 125) dX6_readNumbers_125 rfl ?_
                    refine G_bipush (pc := 127) dX6_readNumbers_127 (by decide) ?_
                    refine G_icmp_ne (pc := 129) (tgt := 140) dX6_readNumbers_129 (Ri.mk (by omega) (by omega)) (Ri.mk (by omega) (by omega)) (by decide) (fun h_129 => ?_) (fun h_129 => ?_)
                    · refine G_iinc (pc := 140) (lv' := [_, _, _, _, _, _, _]) dX6_readNumbers_140 (by decide) rfl rfl ?_
                      refine G_goto (pc := 143) (tgt := 13) dX6_readNumbers_143 (by decide) ?_
                      first
                        | (rw [if_pos (by omega)] at hr
                           refine G_eq rfl rfl ?_ rfl (ih (q + 1) j (10 * v + (tx q - 48).toNat) (f + 1) nm I' (some (vi (tx q))) (by omega) (by omega) hO hj hnm hj4 (vB_up hv (by omega) (by omega)) hr)
                           rw [show (10 : Int) * (v : Int) + tx q - 48 = ((10 * v + (tx q - 48).toNat : Nat) : Int) by omega]; rfl)
                        | (rw [if_neg (by omega), if_pos (by omega), if_neg (by omega)] at hr
                           refine ih (q + 1) (j + 1) 0 0 (upN nm j v) _ _ (by omega) (by omega) ((hO.set (by omega) (by omega)).set (by omega) (by omega)) (by rw [wr_s, wr_o (by decide), hj]; rfl) (fun i hi => ?_) (by omega) (Or.inl ⟨rfl, rfl⟩) hr
                           rw [wr_o (by decide)]
                           by_cases e : i = j
                           · subst e; rw [wr_s]; simp [upN]
                           · rw [wr_n e, hnm i (by omega)]; simp [upN, e])
                    · refine G_iload (pc := 132) dX6_readNumbers_132 rfl ?_
                      refine G_iconst (pc := 134) dX6_readNumbers_134 ?_
                      refine G_iadd (pc := 135) dX6_readNumbers_135 ?_
                      refine G_iret (pc := 136) dX6_readNumbers_136 rfl ?_
                      have h59 : tx q = 59 := by omega
                      rw [if_neg (by omega), if_pos (by omega), if_pos h59] at hr
                      rw [← hQ, ← hr]
                      refine ⟨rfl, (hO.set (by omega) (by omega)).set (by omega) (by omega), rfl, (by rw [wr_s, wr_o (by decide), hj]; rfl), fun i hi => ?_⟩
                      rw [wr_o (by decide)]
                      have hi : i < j + 1 := hi
                      by_cases e : i = j
                      · subst e; rw [wr_s]; simp [upN]
                      · rw [wr_n e, hnm i (by omega)]; simp [upN, e]
              · refine G_iload (pc := 74) dX6_readNumbers_74 rfl ?_
                refine G_bipush (pc := 76) dX6_readNumbers_76 (by decide) ?_
                refine G_icmp_ne (pc := 78) (tgt := 137) dX6_readNumbers_78 (Ri.mk (by omega) (by omega)) (Ri.mk (by omega) (by omega)) (by decide) (fun h_78 => ?_) (fun h_78 => ?_)
                · refine G_bipush (pc := 137) dX6_readNumbers_137 (by decide) ?_
                  refine G_iret (pc := 139) dX6_readNumbers_139 rfl ?_
                  rw [if_neg (by omega), if_neg (by omega)] at hr
                  rw [← hQ, ← hr]
                  exact ⟨rfl, hO, rfl⟩
                · refine G_iload (pc := 81) dX6_readNumbers_81 rfl ?_
                  refine G_if_le (pc := 83) (tgt := 137) dX6_readNumbers_83 (Ri.mk (by omega) (by omega)) (by decide) (fun h_83 => ?_) (fun h_83 => ?_)
                  · refine G_bipush (pc := 137) dX6_readNumbers_137 (by decide) ?_
                    refine G_iret (pc := 139) dX6_readNumbers_139 rfl ?_
                    rw [if_neg (by omega), if_neg (by omega)] at hr
                    rw [← hQ, ← hr]
                    exact ⟨rfl, hO, rfl⟩
                  · refine G_aload_n (pc := 86) dX6_readNumbers_86 rfl ?_
                    refine G_geti (pc := 87) dX6_readNumbers_87 fiX6_49 (by first | rfl | assumption) (by omega) ?_
                    refine G_aload_n (pc := 90) dX6_readNumbers_90 rfl ?_
                    refine G_getr (pc := 91) dX6_readNumbers_91 fiX6_9 (by first | rfl | assumption) (by omega) (by first | rfl | assumption) ?_
                    refine G_alen (pc := 94) dX6_readNumbers_94 (by first | rfl | assumption) (by decide) (by omega) ?_
                    refine G_icmp_ge (pc := 95) (tgt := 137) dX6_readNumbers_95 (Ri.mk (by omega) (by omega)) (Ri.mk (by omega) (by omega)) (by decide) (fun h_95 => ?_) (fun h_95 => ?_)
                    · refine G_bipush (pc := 137) dX6_readNumbers_137 (by decide) ?_
                      refine G_iret (pc := 139) dX6_readNumbers_139 rfl ?_
                      rw [if_neg (by omega), if_neg (by omega)] at hr
                      rw [← hQ, ← hr]
                      exact ⟨rfl, hO, rfl⟩
                    · refine G_aload_n (pc := 98) dX6_readNumbers_98 rfl ?_
                      refine G_getr (pc := 99) dX6_readNumbers_99 fiX6_9 (by first | rfl | assumption) (by omega) (by first | rfl | assumption) ?_
                      refine G_aload_n (pc := 102) dX6_readNumbers_102 rfl ?_
                      refine G_geti (pc := 103) dX6_readNumbers_103 fiX6_49 (by first | rfl | assumption) (by omega) ?_
                      refine G_iload_n (pc := 106) dX6_readNumbers_106 rfl ?_
                      refine G_callS0 (pc := 107) (md := mdX11_put) (av := [_, _, _]) dX6_readNumbers_107 lkX6_52 mwX11_put (c_put 34 4 j _ _ rfl (by omega) (by omega) (by omega) hj) rfl rfl (Nat.le_of_ble_eq_true rfl) (by decide) ⟨Nat.zero_le _, Nat.zero_le _⟩ ?_
                      refine G_aload_n (pc := 110) dX6_readNumbers_110 rfl ?_
                      refine G_dup (pc := 111) dX6_readNumbers_111 rfl ?_
                      refine G_geti (pc := 112) dX6_readNumbers_112 fiX6_49 (by first | rfl | assumption) (by omega) ?_
                      refine G_iconst (pc := 115) dX6_readNumbers_115 ?_
                      refine G_iadd (pc := 116) dX6_readNumbers_116 ?_
                      refine G_puti (pc := 117) dX6_readNumbers_117 fiX6_49 (by first | rfl | assumption) (by omega) ?_
                      refine G_iconst (pc := 120) dX6_readNumbers_120 ?_
                      refine G_istore_n (pc := 121) (lv' := [_, _, _, _, _, _, _]) dX6_readNumbers_121 (by decide) rfl ?_
                      refine G_iconst (pc := 122) dX6_readNumbers_122 ?_
                      refine G_istore (pc := 123) (lv' := [_, _, _, _, _, _, _]) dX6_readNumbers_123 (by decide) rfl ?_
                      refine G_iload (pc := 125) dX6_readNumbers_125 rfl ?_
                      refine G_bipush (pc := 127) dX6_readNumbers_127 (by decide) ?_
                      refine G_icmp_ne (pc := 129) (tgt := 140) dX6_readNumbers_129 (Ri.mk (by omega) (by omega)) (Ri.mk (by omega) (by omega)) (by decide) (fun h_129 => ?_) (fun h_129 => ?_)
                      · refine G_iinc (pc := 140) (lv' := [_, _, _, _, _, _, _]) dX6_readNumbers_140 (by decide) rfl rfl ?_
                        refine G_goto (pc := 143) (tgt := 13) dX6_readNumbers_143 (by decide) ?_
                        first
                          | (rw [if_pos (by omega)] at hr
                             refine G_eq rfl rfl ?_ rfl (ih (q + 1) j (10 * v + (tx q - 48).toNat) (f + 1) nm I' (some (vi (tx q))) (by omega) (by omega) hO hj hnm hj4 (vB_up hv (by omega) (by omega)) hr)
                             rw [show (10 : Int) * (v : Int) + tx q - 48 = ((10 * v + (tx q - 48).toNat : Nat) : Int) by omega]; rfl)
                          | (rw [if_neg (by omega), if_pos (by omega), if_neg (by omega)] at hr
                             refine ih (q + 1) (j + 1) 0 0 (upN nm j v) _ _ (by omega) (by omega) ((hO.set (by omega) (by omega)).set (by omega) (by omega)) (by rw [wr_s, wr_o (by decide), hj]; rfl) (fun i hi => ?_) (by omega) (Or.inl ⟨rfl, rfl⟩) hr
                             rw [wr_o (by decide)]
                             by_cases e : i = j
                             · subst e; rw [wr_s]; simp [upN]
                             · rw [wr_n e, hnm i (by omega)]; simp [upN, e])
                      · refine G_iload (pc := 132) dX6_readNumbers_132 rfl ?_
                        refine G_iconst (pc := 134) dX6_readNumbers_134 ?_
                        refine G_iadd (pc := 135) dX6_readNumbers_135 ?_
                        refine G_iret (pc := 136) dX6_readNumbers_136 rfl ?_
                        have h59 : tx q = 59 := by omega
                        rw [if_neg (by omega), if_pos (by omega), if_pos h59] at hr
                        rw [← hQ, ← hr]
                        refine ⟨rfl, (hO.set (by omega) (by omega)).set (by omega) (by omega), rfl, (by rw [wr_s, wr_o (by decide), hj]; rfl), fun i hi => ?_⟩
                        rw [wr_o (by decide)]
                        have hi : i < j + 1 := hi
                        by_cases e : i = j
                        · subst e; rw [wr_s]; simp [upN]
                        · rw [wr_n e, hnm i (by omega)]; simp [upN, e]
            · refine G_bipush (pc := 50) dX6_readNumbers_50 (by decide) ?_
              refine G_iload_n (pc := 52) dX6_readNumbers_52 rfl ?_
              refine G_imul (pc := 53) dX6_readNumbers_53 ?_
              refine G_iload (pc := 54) dX6_readNumbers_54 rfl ?_
              refine G_iadd (pc := 56) dX6_readNumbers_56 ?_
              refine G_bipush (pc := 57) dX6_readNumbers_57 (by decide) ?_
              refine G_isub (pc := 59) dX6_readNumbers_59 ?_
              refine G_istore_n (pc := 60) (lv' := [_, _, _, _, _, _, _]) dX6_readNumbers_60 (by decide) rfl ?_
              refine G_iinc (pc := 61) (lv' := [_, _, _, _, _, _, _]) dX6_readNumbers_61 (by decide) rfl rfl ?_
              refine G_goto (pc := 64) (tgt := 140) dX6_readNumbers_64 (by decide) ?_
              refine G_iinc (pc := 140) (lv' := [_, _, _, _, _, _, _]) dX6_readNumbers_140 (by decide) rfl rfl ?_
              refine G_goto (pc := 143) (tgt := 13) dX6_readNumbers_143 (by decide) ?_
              first
                | (rw [if_pos (by omega)] at hr
                   refine G_eq rfl rfl ?_ rfl (ih (q + 1) j (10 * v + (tx q - 48).toNat) (f + 1) nm I' (some (vi (tx q))) (by omega) (by omega) hO hj hnm hj4 (vB_up hv (by omega) (by omega)) hr)
                   rw [show (10 : Int) * (v : Int) + tx q - 48 = ((10 * v + (tx q - 48).toNat : Nat) : Int) by omega]; rfl)
                | (rw [if_neg (by omega), if_pos (by omega), if_neg (by omega)] at hr
                   refine ih (q + 1) (j + 1) 0 0 (upN nm j v) _ _ (by omega) (by omega) ((hO.set (by omega) (by omega)).set (by omega) (by omega)) (by rw [wr_s, wr_o (by decide), hj]; rfl) (fun i hi => ?_) (by omega) (Or.inl ⟨rfl, rfl⟩) hr
                   rw [wr_o (by decide)]
                   by_cases e : i = j
                   · subst e; rw [wr_s]; simp [upN]
                   · rw [wr_n e, hnm i (by omega)]; simp [upN, e])
  refine G_aload_n (pc := 0) dX6_readNumbers_0 rfl ?_
  refine G_iconst (pc := 1) dX6_readNumbers_1 ?_
  refine G_puti (pc := 2) dX6_readNumbers_2 fiX6_49 (by first | rfl | assumption) (by omega) ?_
  refine G_iconst (pc := 5) dX6_readNumbers_5 ?_
  refine G_istore_n (pc := 6) (lv' := [_, _, _, _, _, _, _]) dX6_readNumbers_6 (by decide) rfl ?_
  refine G_iconst (pc := 7) dX6_readNumbers_7 ?_
  refine G_istore (pc := 8) (lv' := [_, _, _, _, _, _, _]) dX6_readNumbers_8 (by decide) rfl ?_
  refine G_iload_n (pc := 10) dX6_readNumbers_10 rfl ?_
  refine G_istore (pc := 11) (lv' := [_, _, _, _, _, _, _]) dX6_readNumbers_11 (by decide) rfl ?_
  exact loop (n - p) p 0 0 0 (fun _ => 0) _ _ rfl hp (Off.rfl.set (q := 33) (i := 3) (a := 0) (by omega) (by omega)) (by rw [wr_s]; rfl) (fun i hi => absurd hi (Nat.not_lt_zero _)) (by omega) (Or.inl ⟨rfl, rfl⟩) hres.symm
theorem or_bI {P : Prop} [Decidable P] {v : Option Value} {A B : Prop} (h : (P ∧ v = some (vi 1) ∧ A) ∨ (¬ P ∧ v = some (vi 0) ∧ B)) : v = some (vi (bI P)) ∧ (P → A) ∧ (¬ P → B) := by
  rcases h with ⟨h1, h2, h3⟩ | ⟨h1, h2, h3⟩
  · exact ⟨by rw [h2, bI_t h1], fun _ => h3, fun z => absurd h1 z⟩
  · exact ⟨by rw [h2, bI_f h1], fun z => absurd z h1, fun _ => h3⟩
def tkQ (res : Option DS) (v : Option Value) (I' : Nat → Nat → Int) : Prop := match res with
  | none => v = some (vi 0)
  | some D => v = some (vi 1) ∧ DI I' D
theorem HI_se {I : Nat → Nat → Int} {k i a : Nat} {hs : HS} (h : HI I k hs) (h8 : 11 ≤ i) (h14 : i < 14) : HI (wr I k i (a : Int)) k (seH hs i a) := by
  have e8 : zS (seH hs i a) = zS hs := by simp [seH, show ¬ 8 = i by omega]
  have e9 : zA (seH hs i a) = zA hs := by simp [seH, show ¬ 9 = i by omega]
  refine ⟨fun j hj x hx => ?_, fun j h4 hj x hx => ?_, fun j h4 hj => ?_⟩
  · rw [wr_o (by omega)]; rw [e8] at hx; rw [h.1 j hj x hx]; simp [seH, show ¬ j = i by omega]
  · rw [wr_o (by omega)]; rw [e9] at hx; rw [h.2.1 j h4 hj x hx]; simp [seH, show ¬ j = i by omega]
  · by_cases e : j = i
    · subst e; rw [wr_s]; simp [seH]
    · rw [wr_n e, h.2.2 j h4 hj]; simp [seH, e]
theorem c_take {E : EV} {M : Nat} {I J : Nat → Nat → Int} {D : DS} {nm : Nat → Nat} (l : Int) (c : Nat) (hM : 71 ≤ M) (hD : DI I D) (hDB : DB D) (hl : -128 ≤ l ∧ l ≤ 127) (hc : I 33 3 = c) (hc4 : c ≤ 4) (hnm : ∀ i, i < c → I 34 i = nm i) (h9 : ∀ i, nm i ≤ 999) : FnQ E mdX6_take 2 M Rf [vr E 33, vi l] I J (fun v I' J' => J' = J ∧ Off I I' 21 34 ∧ tkQ (takeD l c nm D) v I') := by
  obtain ⟨hH, hR⟩ := hD
  obtain ⟨hB, hRB⟩ := hDB
  have n0 := h9 0
  have n1 := h9 1
  have n2 := h9 2
  have n3 := h9 3
  have n8 := hRB.1
  have bA := hB.2.1
  refine FnQ.of (by decide +kernel) (Nat.le_of_ble_eq_true rfl) ?_
  show GM E mdX6_take 2 M Rf _ I J 0 [some (vr E 33), some (vi l), none, none] []
  refine G_aload_n (pc := 0) dX6_take_0 rfl ?_
  refine G_getr (pc := 1) dX6_take_1 fiX6_9 (by first | rfl | assumption) (by omega) (by first | rfl | assumption) ?_
  refine G_iconst (pc := 4) dX6_take_4 ?_
  refine G_callS1 (pc := 5) (md := mdX11_at) (av := [_, _]) dX6_take_5 lkX6_56 mwX11_at (c_atv 34 4 0 (I 34 0) rfl (by omega) (by omega) (by omega) rfl) rfl rfl (Nat.le_of_ble_eq_true rfl) (by decide) ⟨Nat.zero_le _, Nat.zero_le _⟩ ?_
  refine G_istore_n (pc := 8) (lv' := [_, _, _, _]) dX6_take_8 (by decide) rfl ?_
  refine G_aload_n (pc := 9) dX6_take_9 rfl ?_
  refine G_getr (pc := 10) dX6_take_10 fiX6_9 (by first | rfl | assumption) (by omega) (by first | rfl | assumption) ?_
  refine G_iconst (pc := 13) dX6_take_13 ?_
  refine G_callS1 (pc := 14) (md := mdX11_at) (av := [_, _]) dX6_take_14 lkX6_56 mwX11_at (c_atv 34 4 1 (I 34 1) rfl (by omega) (by omega) (by omega) rfl) rfl rfl (Nat.le_of_ble_eq_true rfl) (by decide) ⟨Nat.zero_le _, Nat.zero_le _⟩ ?_
  refine G_istore_n (pc := 17) (lv' := [_, _, _, _]) dX6_take_17 (by decide) rfl ?_
  refine G_iload_n (pc := 18) dX6_take_18 rfl ?_
  by_cases l1 : l = 115
  · subst l1
    refine G_lookup (pc := 19) (off := 49) (tgt := 68) dX6_take_19 (Ri.mk (by omega) (by omega)) (by decide) (by decide) (by decide) ?_
    refine G_aload_n (pc := 68) dX6_take_68 rfl ?_
    refine G_geti (pc := 69) dX6_take_69 fiX6_49 (by first | rfl | assumption) (by omega) ?_
    refine G_iconst (pc := 72) dX6_take_72 ?_
    refine G_icmp_ne (pc := 73) (tgt := 108) dX6_take_73 (by first | exact bI_R | exact Ri.mk (by omega) (by omega)) (Ri.mk (by omega) (by omega)) (by decide) (fun h_73 => ?_) (fun h_73 => ?_)
    · refine G_iconst (pc := 108) dX6_take_108 ?_
      refine G_zret (pc := 109) dX6_take_109 rfl (by omega) ?_
      first
        | (refine ⟨rfl, Off.rfl, ?_⟩
           unfold takeD; rw [if_pos rfl, if_neg (by omega)]; rfl)
        | (obtain rfl := hn (by assumption)
           refine ⟨rfl, Off.rfl, ?_⟩
           unfold takeD; rw [if_pos rfl, if_neg (by omega)]; rfl)
        | (have ho := hy (by assumption)
           refine ⟨rfl, ho.2.mono (by omega) (by omega), ?_⟩
           unfold takeD; rw [if_pos rfl, if_pos ⟨rfl, by assumption⟩]
           exact ⟨rfl, ho.1, hR.off fun q h1 h2 => ho.2 q (by omega)⟩)
    · refine G_aload_n (pc := 76) dX6_take_76 rfl ?_
      refine G_getr (pc := 77) dX6_take_77 fiX6_15 (by first | rfl | assumption) (by omega) (by first | rfl | assumption) ?_
      refine G_iload_n (pc := 80) dX6_take_80 rfl ?_
      refine G_iload_n (pc := 81) dX6_take_81 rfl ?_
      refine G_aload_n (pc := 82) dX6_take_82 rfl ?_
      refine G_getr (pc := 83) dX6_take_83 fiX6_9 (by first | rfl | assumption) (by omega) (by first | rfl | assumption) ?_
      refine G_iconst (pc := 86) dX6_take_86 ?_
      refine G_callS1 (pc := 87) (md := mdX11_at) (av := [_, _]) dX6_take_87 lkX6_56 mwX11_at (c_atv 34 4 2 (I 34 2) rfl (by omega) (by omega) (by omega) rfl) rfl rfl (Nat.le_of_ble_eq_true rfl) (by decide) ⟨Nat.zero_le _, Nat.zero_le _⟩ ?_
      refine G_aload_n (pc := 90) dX6_take_90 rfl ?_
      refine G_getr (pc := 91) dX6_take_91 fiX6_9 (by first | rfl | assumption) (by omega) (by first | rfl | assumption) ?_
      refine G_iconst (pc := 94) dX6_take_94 ?_
      refine G_callS1 (pc := 95) (md := mdX11_at) (av := [_, _]) dX6_take_95 lkX6_56 mwX11_at (c_atv 34 4 3 (I 34 3) rfl (by omega) (by omega) (by omega) rfl) rfl rfl (Nat.le_of_ble_eq_true rfl) (by decide) ⟨Nat.zero_le _, Nat.zero_le _⟩ ?_
      have c4 : c = 4 := by omega
      subst c4
      rw [hnm 0 (by omega), hnm 1 (by omega), hnm 2 (by omega), hnm 3 (by omega)]
      refine G_callV (pc := 98) (md := mdX4_addSort) (av := [_, _, _, _]) dX6_take_98 lkX6_60 mwX4_addSort (c_addSort 21 (nm 0) (nm 1) (nm 2) (nm 3) (Or.inr rfl) hM hH hB (by omega) (by omega) (by omega) (by omega)) rfl (by first | rfl | assumption) (by omega) rfl rfl (Nat.le_of_ble_eq_true rfl) (by decide) ⟨Nat.zero_le _, Nat.zero_le _⟩ ?_
      rintro v I1 J1 ⟨rfl, hv⟩
      obtain ⟨rfl, hy, hn⟩ := or_bI (B := I1 = I) hv
      refine G_if_eq (pc := 101) (tgt := 108) dX6_take_101 (by first | exact bI_R | exact Ri.mk (by omega) (by omega)) (by decide) (fun h_101 => ?_) (fun h_101 => ?_)
      · try simp only [bI_eq0, bI_ne0] at h_101
        refine G_iconst (pc := 108) dX6_take_108 ?_
        refine G_zret (pc := 109) dX6_take_109 rfl (by omega) ?_
        first
          | (refine ⟨rfl, Off.rfl, ?_⟩
             unfold takeD; rw [if_pos rfl, if_neg (by omega)]; rfl)
          | (obtain rfl := hn (by assumption)
             refine ⟨rfl, Off.rfl, ?_⟩
             unfold takeD; rw [if_pos rfl, if_neg (by omega)]; rfl)
          | (have ho := hy (by assumption)
             refine ⟨rfl, ho.2.mono (by omega) (by omega), ?_⟩
             unfold takeD; rw [if_pos rfl, if_pos ⟨rfl, by assumption⟩]
             exact ⟨rfl, ho.1, hR.off fun q h1 h2 => ho.2 q (by omega)⟩)
      · try simp only [bI_eq0, bI_ne0] at h_101
        refine G_iconst (pc := 104) dX6_take_104 ?_
        refine G_goto (pc := 105) (tgt := 109) dX6_take_105 (by decide) ?_
        refine G_zret (pc := 109) dX6_take_109 rfl (by omega) ?_
        first
          | (refine ⟨rfl, Off.rfl, ?_⟩
             unfold takeD; rw [if_pos rfl, if_neg (by omega)]; rfl)
          | (obtain rfl := hn (by assumption)
             refine ⟨rfl, Off.rfl, ?_⟩
             unfold takeD; rw [if_pos rfl, if_neg (by omega)]; rfl)
          | (have ho := hy (by assumption)
             refine ⟨rfl, ho.2.mono (by omega) (by omega), ?_⟩
             unfold takeD; rw [if_pos rfl, if_pos ⟨rfl, by assumption⟩]
             exact ⟨rfl, ho.1, hR.off fun q h1 h2 => ho.2 q (by omega)⟩)
  by_cases l2 : l = 97
  · subst l2
    refine G_lookup (pc := 19) (off := 91) (tgt := 110) dX6_take_19 (Ri.mk (by omega) (by omega)) (by decide) (by decide) (by decide) ?_
    refine G_aload_n (pc := 110) dX6_take_110 rfl ?_
    refine G_geti (pc := 111) dX6_take_111 fiX6_49 (by first | rfl | assumption) (by omega) ?_
    refine G_iconst (pc := 114) dX6_take_114 ?_
    refine G_icmp_ne (pc := 115) (tgt := 150) dX6_take_115 (by first | exact bI_R | exact Ri.mk (by omega) (by omega)) (Ri.mk (by omega) (by omega)) (by decide) (fun h_115 => ?_) (fun h_115 => ?_)
    · refine G_iconst (pc := 150) dX6_take_150 ?_
      refine G_zret (pc := 151) dX6_take_151 rfl (by omega) ?_
      first
        | (refine ⟨rfl, Off.rfl, ?_⟩
           unfold takeD; rw [if_neg (by decide), if_pos rfl, if_neg (by omega)]; rfl)
        | (obtain rfl := hn (by assumption)
           refine ⟨rfl, Off.rfl, ?_⟩
           unfold takeD; rw [if_neg (by decide), if_pos rfl, if_neg (by omega)]; rfl)
        | (have ho := hy (by assumption)
           refine ⟨rfl, ho.2.mono (by omega) (by omega), ?_⟩
           unfold takeD; rw [if_neg (by decide), if_pos rfl, if_pos ⟨rfl, by assumption⟩]
           exact ⟨rfl, ho.1, hR.off fun q h1 h2 => ho.2 q (by omega)⟩)
    · refine G_aload_n (pc := 118) dX6_take_118 rfl ?_
      refine G_getr (pc := 119) dX6_take_119 fiX6_15 (by first | rfl | assumption) (by omega) (by first | rfl | assumption) ?_
      refine G_iload_n (pc := 122) dX6_take_122 rfl ?_
      refine G_iload_n (pc := 123) dX6_take_123 rfl ?_
      refine G_aload_n (pc := 124) dX6_take_124 rfl ?_
      refine G_getr (pc := 125) dX6_take_125 fiX6_9 (by first | rfl | assumption) (by omega) (by first | rfl | assumption) ?_
      refine G_iconst (pc := 128) dX6_take_128 ?_
      refine G_callS1 (pc := 129) (md := mdX11_at) (av := [_, _]) dX6_take_129 lkX6_56 mwX11_at (c_atv 34 4 2 (I 34 2) rfl (by omega) (by omega) (by omega) rfl) rfl rfl (Nat.le_of_ble_eq_true rfl) (by decide) ⟨Nat.zero_le _, Nat.zero_le _⟩ ?_
      refine G_aload_n (pc := 132) dX6_take_132 rfl ?_
      refine G_getr (pc := 133) dX6_take_133 fiX6_9 (by first | rfl | assumption) (by omega) (by first | rfl | assumption) ?_
      refine G_iconst (pc := 136) dX6_take_136 ?_
      refine G_callS1 (pc := 137) (md := mdX11_at) (av := [_, _]) dX6_take_137 lkX6_56 mwX11_at (c_atv 34 4 3 (I 34 3) rfl (by omega) (by omega) (by omega) rfl) rfl rfl (Nat.le_of_ble_eq_true rfl) (by decide) ⟨Nat.zero_le _, Nat.zero_le _⟩ ?_
      have c4 : c = 4 := by omega
      subst c4
      rw [hnm 0 (by omega), hnm 1 (by omega), hnm 2 (by omega), hnm 3 (by omega)]
      refine G_callV (pc := 140) (md := mdX4_addAsk) (av := [_, _, _, _]) dX6_take_140 lkX6_64 mwX4_addAsk (c_addAsk 21 (nm 0) (nm 1) (nm 2) (nm 3) (Or.inr rfl) hM hH hB (by omega) (by omega) (by omega) (by omega)) rfl (by first | rfl | assumption) (by omega) rfl rfl (Nat.le_of_ble_eq_true rfl) (by decide) ⟨Nat.zero_le _, Nat.zero_le _⟩ ?_
      rintro v I1 J1 ⟨rfl, hv⟩
      obtain ⟨rfl, hy, hn⟩ := or_bI (B := I1 = I) hv
      refine G_if_eq (pc := 143) (tgt := 150) dX6_take_143 (by first | exact bI_R | exact Ri.mk (by omega) (by omega)) (by decide) (fun h_143 => ?_) (fun h_143 => ?_)
      · try simp only [bI_eq0, bI_ne0] at h_143
        refine G_iconst (pc := 150) dX6_take_150 ?_
        refine G_zret (pc := 151) dX6_take_151 rfl (by omega) ?_
        first
          | (refine ⟨rfl, Off.rfl, ?_⟩
             unfold takeD; rw [if_neg (by decide), if_pos rfl, if_neg (by omega)]; rfl)
          | (obtain rfl := hn (by assumption)
             refine ⟨rfl, Off.rfl, ?_⟩
             unfold takeD; rw [if_neg (by decide), if_pos rfl, if_neg (by omega)]; rfl)
          | (have ho := hy (by assumption)
             refine ⟨rfl, ho.2.mono (by omega) (by omega), ?_⟩
             unfold takeD; rw [if_neg (by decide), if_pos rfl, if_pos ⟨rfl, by assumption⟩]
             exact ⟨rfl, ho.1, hR.off fun q h1 h2 => ho.2 q (by omega)⟩)
      · try simp only [bI_eq0, bI_ne0] at h_143
        refine G_iconst (pc := 146) dX6_take_146 ?_
        refine G_goto (pc := 147) (tgt := 151) dX6_take_147 (by decide) ?_
        refine G_zret (pc := 151) dX6_take_151 rfl (by omega) ?_
        first
          | (refine ⟨rfl, Off.rfl, ?_⟩
             unfold takeD; rw [if_neg (by decide), if_pos rfl, if_neg (by omega)]; rfl)
          | (obtain rfl := hn (by assumption)
             refine ⟨rfl, Off.rfl, ?_⟩
             unfold takeD; rw [if_neg (by decide), if_pos rfl, if_neg (by omega)]; rfl)
          | (have ho := hy (by assumption)
             refine ⟨rfl, ho.2.mono (by omega) (by omega), ?_⟩
             unfold takeD; rw [if_neg (by decide), if_pos rfl, if_pos ⟨rfl, by assumption⟩]
             exact ⟨rfl, ho.1, hR.off fun q h1 h2 => ho.2 q (by omega)⟩)
  by_cases l3 : l = 116
  · subst l3
    refine G_lookup (pc := 19) (off := 133) (tgt := 152) dX6_take_19 (Ri.mk (by omega) (by omega)) (by decide) (by decide) (by decide) ?_
    refine G_aload_n (pc := 152) dX6_take_152 rfl ?_
    refine G_geti (pc := 153) dX6_take_153 fiX6_49 (by first | rfl | assumption) (by omega) ?_
    refine G_iconst (pc := 156) dX6_take_156 ?_
    refine G_icmp_ne (pc := 157) (tgt := 196) dX6_take_157 (by first | exact bI_R | exact Ri.mk (by omega) (by omega)) (Ri.mk (by omega) (by omega)) (by decide) (fun h_157 => ?_) (fun h_157 => ?_)
    · refine G_iconst (pc := 196) dX6_take_196 ?_
      refine G_zret (pc := 197) dX6_take_197 rfl (by omega) ?_
      first
        | (refine ⟨rfl, Off.rfl, ?_⟩
           unfold takeD; rw [if_neg (by decide), if_neg (by decide), if_pos rfl, if_neg (by omega)]; rfl)
        | (obtain rfl := hn (by assumption)
           refine ⟨rfl, Off.rfl, ?_⟩
           unfold takeD; rw [if_neg (by decide), if_neg (by decide), if_pos rfl, if_neg (by omega)]; rfl)
        | (have ho := hy (by assumption)
           refine ⟨rfl, ho.2.mono (by omega) (by omega), ?_⟩
           unfold takeD; rw [if_neg (by decide), if_neg (by decide), if_pos rfl, if_pos (by omega)]
           exact ⟨rfl, hH.off fun q h1 h2 => ho.2 q (by omega), ho.1⟩)
    · refine G_aload_n (pc := 160) dX6_take_160 rfl ?_
      refine G_getr (pc := 161) dX6_take_161 fiX6_15 (by first | rfl | assumption) (by omega) (by first | rfl | assumption) ?_
      refine G_iload_n (pc := 164) dX6_take_164 rfl ?_
      have c2 : c = 2 := by omega
      subst c2
      rw [hnm 0 (by omega), hnm 1 (by omega)]
      refine G_callV1 (pc := 165) (md := mdX4_hasAsk) (av := [_]) dX6_take_165 lkX6_67 mwX4_hasAsk (c_hasAsk 21 (nm 0 : Int) (Or.inr rfl) hM hH hB (Ri.mk (by omega) (by omega))) rfl (by first | rfl | assumption) (by omega) rfl rfl (Nat.le_of_ble_eq_true rfl) (by decide) ⟨Nat.zero_le _, Nat.zero_le _⟩ ?_
      refine G_if_eq (pc := 168) (tgt := 196) dX6_take_168 (by first | exact bI_R | exact Ri.mk (by omega) (by omega)) (by decide) (fun h_168 => ?_) (fun h_168 => ?_)
      · try simp only [bI_eq0, bI_ne0] at h_168
        refine G_iconst (pc := 196) dX6_take_196 ?_
        refine G_zret (pc := 197) dX6_take_197 rfl (by omega) ?_
        first
          | (refine ⟨rfl, Off.rfl, ?_⟩
             unfold takeD; rw [if_neg (by decide), if_neg (by decide), if_pos rfl, if_neg (by omega)]; rfl)
          | (obtain rfl := hn (by assumption)
             refine ⟨rfl, Off.rfl, ?_⟩
             unfold takeD; rw [if_neg (by decide), if_neg (by decide), if_pos rfl, if_neg (by omega)]; rfl)
          | (have ho := hy (by assumption)
             refine ⟨rfl, ho.2.mono (by omega) (by omega), ?_⟩
             unfold takeD; rw [if_neg (by decide), if_neg (by decide), if_pos rfl, if_pos (by omega)]
             exact ⟨rfl, hH.off fun q h1 h2 => ho.2 q (by omega), ho.1⟩)
      · try simp only [bI_eq0, bI_ne0] at h_168
        refine G_iload_n (pc := 171) dX6_take_171 rfl ?_
        refine G_iconst (pc := 172) dX6_take_172 ?_
        refine G_iconst (pc := 173) dX6_take_173 ?_
        refine G_callS1 (pc := 174) (md := mdX11_within) (av := [_, _, _]) dX6_take_174 lkX6_70 mwX11_within (c_within _ _ _ (Ri.mk (by omega) (by omega)) (Ri.mk (by omega) (by omega)) (Ri.mk (by omega) (by omega))) rfl rfl (Nat.le_of_ble_eq_true rfl) (by decide) ⟨Nat.zero_le _, Nat.zero_le _⟩ ?_
        refine G_if_eq (pc := 177) (tgt := 196) dX6_take_177 (by first | exact bI_R | exact Ri.mk (by omega) (by omega)) (by decide) (fun h_177 => ?_) (fun h_177 => ?_)
        · try simp only [bI_eq0, bI_ne0] at h_177
          refine G_iconst (pc := 196) dX6_take_196 ?_
          refine G_zret (pc := 197) dX6_take_197 rfl (by omega) ?_
          first
            | (refine ⟨rfl, Off.rfl, ?_⟩
               unfold takeD; rw [if_neg (by decide), if_neg (by decide), if_pos rfl, if_neg (by omega)]; rfl)
            | (obtain rfl := hn (by assumption)
               refine ⟨rfl, Off.rfl, ?_⟩
               unfold takeD; rw [if_neg (by decide), if_neg (by decide), if_pos rfl, if_neg (by omega)]; rfl)
            | (have ho := hy (by assumption)
               refine ⟨rfl, ho.2.mono (by omega) (by omega), ?_⟩
               unfold takeD; rw [if_neg (by decide), if_neg (by decide), if_pos rfl, if_pos (by omega)]
               exact ⟨rfl, hH.off fun q h1 h2 => ho.2 q (by omega), ho.1⟩)
        · try simp only [bI_eq0, bI_ne0] at h_177
          refine G_aload_n (pc := 180) dX6_take_180 rfl ?_
          refine G_getr (pc := 181) dX6_take_181 fiX6_19 (by first | rfl | assumption) (by omega) (by first | rfl | assumption) ?_
          refine G_iload_n (pc := 184) dX6_take_184 rfl ?_
          refine G_iload_n (pc := 185) dX6_take_185 rfl ?_
          refine G_callV (pc := 186) (md := mdX7_add) (av := [_, _]) dX6_take_186 lkX6_74 mwX7_add (c_Radd 30 (nm 0) (nm 1) (Or.inr (Or.inl rfl)) hM hR n8) rfl (by first | rfl | assumption) (by omega) rfl rfl (Nat.le_of_ble_eq_true rfl) (by decide) ⟨Nat.zero_le _, Nat.zero_le _⟩ ?_
          rintro v I1 J1 ⟨rfl, hv⟩
          obtain ⟨rfl, hy, hn⟩ := or_bI (B := I1 = I) (hv.imp id fun h => ⟨show ¬ D.2 0 0 < 8 by omega, h.2⟩)
          refine G_if_eq (pc := 189) (tgt := 196) dX6_take_189 (by first | exact bI_R | exact Ri.mk (by omega) (by omega)) (by decide) (fun h_189 => ?_) (fun h_189 => ?_)
          · try simp only [bI_eq0, bI_ne0] at h_189
            refine G_iconst (pc := 196) dX6_take_196 ?_
            refine G_zret (pc := 197) dX6_take_197 rfl (by omega) ?_
            first
              | (refine ⟨rfl, Off.rfl, ?_⟩
                 unfold takeD; rw [if_neg (by decide), if_neg (by decide), if_pos rfl, if_neg (by omega)]; rfl)
              | (obtain rfl := hn (by assumption)
                 refine ⟨rfl, Off.rfl, ?_⟩
                 unfold takeD; rw [if_neg (by decide), if_neg (by decide), if_pos rfl, if_neg (by omega)]; rfl)
              | (have ho := hy (by assumption)
                 refine ⟨rfl, ho.2.mono (by omega) (by omega), ?_⟩
                 unfold takeD; rw [if_neg (by decide), if_neg (by decide), if_pos rfl, if_pos (by omega)]
                 exact ⟨rfl, hH.off fun q h1 h2 => ho.2 q (by omega), ho.1⟩)
          · try simp only [bI_eq0, bI_ne0] at h_189
            refine G_iconst (pc := 192) dX6_take_192 ?_
            refine G_goto (pc := 193) (tgt := 197) dX6_take_193 (by decide) ?_
            refine G_zret (pc := 197) dX6_take_197 rfl (by omega) ?_
            first
              | (refine ⟨rfl, Off.rfl, ?_⟩
                 unfold takeD; rw [if_neg (by decide), if_neg (by decide), if_pos rfl, if_neg (by omega)]; rfl)
              | (obtain rfl := hn (by assumption)
                 refine ⟨rfl, Off.rfl, ?_⟩
                 unfold takeD; rw [if_neg (by decide), if_neg (by decide), if_pos rfl, if_neg (by omega)]; rfl)
              | (have ho := hy (by assumption)
                 refine ⟨rfl, ho.2.mono (by omega) (by omega), ?_⟩
                 unfold takeD; rw [if_neg (by decide), if_neg (by decide), if_pos rfl, if_pos (by omega)]
                 exact ⟨rfl, hH.off fun q h1 h2 => ho.2 q (by omega), ho.1⟩)
  by_cases l4 : l = 99
  · subst l4
    refine G_lookup (pc := 19) (off := 179) (tgt := 198) dX6_take_19 (Ri.mk (by omega) (by omega)) (by decide) (by decide) (by decide) ?_
    refine G_aload_n (pc := 198) dX6_take_198 rfl ?_
    refine G_geti (pc := 199) dX6_take_199 fiX6_49 (by first | rfl | assumption) (by omega) ?_
    refine G_iconst (pc := 202) dX6_take_202 ?_
    refine G_icmp_ne (pc := 203) (tgt := 221) dX6_take_203 (by first | exact bI_R | exact Ri.mk (by omega) (by omega)) (Ri.mk (by omega) (by omega)) (by decide) (fun h_203 => ?_) (fun h_203 => ?_)
    · refine G_iconst (pc := 221) dX6_take_221 ?_
      refine G_zret (pc := 222) dX6_take_222 rfl (by omega) ?_
      first
        | (refine ⟨rfl, Off.rfl, ?_⟩
           unfold takeD; rw [if_neg (by decide), if_neg (by decide), if_neg (by decide), if_pos rfl, if_neg (by omega)]; rfl)
        | (rw [if_neg (by omega)]
           refine ⟨rfl, Off.rfl, ?_⟩
           unfold takeD; rw [if_neg (by decide), if_neg (by decide), if_neg (by decide), if_pos rfl, if_neg (by omega)]; rfl)
        | (rw [if_pos (by omega)]
           refine ⟨rfl, Off.rfl.set (by omega) (by omega), ?_⟩
           unfold takeD; rw [if_neg (by decide), if_neg (by decide), if_neg (by decide), if_pos rfl, if_pos (by omega)]
           exact ⟨rfl, HI_se hH (by omega) (by omega), hR.off fun q h1 h2 => wr_o (by omega)⟩)
    · refine G_aload_n (pc := 206) dX6_take_206 rfl ?_
      refine G_getr (pc := 207) dX6_take_207 fiX6_15 (by first | rfl | assumption) (by omega) (by first | rfl | assumption) ?_
      refine G_iload_n (pc := 210) dX6_take_210 rfl ?_
      have c2 : c = 1 := by omega
      subst c2
      rw [hnm 0 (by omega)]
      refine G_callV1 (pc := 211) (md := mdX4_setMan) (av := [_]) dX6_take_211 lkX6_78 mwX4_setMan (c_setMan 21 (nm 0 : Int) (Or.inr rfl) (by omega) (Ri.mk (by omega) (by omega))) rfl (by first | rfl | assumption) (by omega) rfl rfl (Nat.le_of_ble_eq_true rfl) (by decide) ⟨Nat.zero_le _, Nat.zero_le _⟩ ?_
      refine G_if_eq (pc := 214) (tgt := 221) dX6_take_214 (by first | exact bI_R | exact Ri.mk (by omega) (by omega)) (by decide) (fun h_214 => ?_) (fun h_214 => ?_)
      · try simp only [bI_eq0, bI_ne0] at h_214
        refine G_iconst (pc := 221) dX6_take_221 ?_
        refine G_zret (pc := 222) dX6_take_222 rfl (by omega) ?_
        first
          | (refine ⟨rfl, Off.rfl, ?_⟩
             unfold takeD; rw [if_neg (by decide), if_neg (by decide), if_neg (by decide), if_pos rfl, if_neg (by omega)]; rfl)
          | (rw [if_neg (by omega)]
             refine ⟨rfl, Off.rfl, ?_⟩
             unfold takeD; rw [if_neg (by decide), if_neg (by decide), if_neg (by decide), if_pos rfl, if_neg (by omega)]; rfl)
          | (rw [if_pos (by omega)]
             refine ⟨rfl, Off.rfl.set (by omega) (by omega), ?_⟩
             unfold takeD; rw [if_neg (by decide), if_neg (by decide), if_neg (by decide), if_pos rfl, if_pos (by omega)]
             exact ⟨rfl, HI_se hH (by omega) (by omega), hR.off fun q h1 h2 => wr_o (by omega)⟩)
      · try simp only [bI_eq0, bI_ne0] at h_214
        refine G_iconst (pc := 217) dX6_take_217 ?_
        refine G_goto (pc := 218) (tgt := 222) dX6_take_218 (by decide) ?_
        refine G_zret (pc := 222) dX6_take_222 rfl (by omega) ?_
        first
          | (refine ⟨rfl, Off.rfl, ?_⟩
             unfold takeD; rw [if_neg (by decide), if_neg (by decide), if_neg (by decide), if_pos rfl, if_neg (by omega)]; rfl)
          | (rw [if_neg (by omega)]
             refine ⟨rfl, Off.rfl, ?_⟩
             unfold takeD; rw [if_neg (by decide), if_neg (by decide), if_neg (by decide), if_pos rfl, if_neg (by omega)]; rfl)
          | (rw [if_pos (by omega)]
             refine ⟨rfl, Off.rfl.set (by omega) (by omega), ?_⟩
             unfold takeD; rw [if_neg (by decide), if_neg (by decide), if_neg (by decide), if_pos rfl, if_pos (by omega)]
             exact ⟨rfl, HI_se hH (by omega) (by omega), hR.off fun q h1 h2 => wr_o (by omega)⟩)
  by_cases l5 : l = 112
  · subst l5
    refine G_lookup (pc := 19) (off := 204) (tgt := 223) dX6_take_19 (Ri.mk (by omega) (by omega)) (by decide) (by decide) (by decide) ?_
    refine G_aload_n (pc := 223) dX6_take_223 rfl ?_
    refine G_geti (pc := 224) dX6_take_224 fiX6_49 (by first | rfl | assumption) (by omega) ?_
    refine G_iconst (pc := 227) dX6_take_227 ?_
    refine G_icmp_ne (pc := 228) (tgt := 247) dX6_take_228 (by first | exact bI_R | exact Ri.mk (by omega) (by omega)) (Ri.mk (by omega) (by omega)) (by decide) (fun h_228 => ?_) (fun h_228 => ?_)
    · refine G_iconst (pc := 247) dX6_take_247 ?_
      refine G_zret (pc := 248) dX6_take_248 rfl (by omega) ?_
      first
        | (refine ⟨rfl, Off.rfl, ?_⟩
           unfold takeD; rw [if_neg (by decide), if_neg (by decide), if_neg (by decide), if_neg (by decide), if_pos rfl, if_neg (by omega)]; rfl)
        | (rw [if_neg (by omega)]
           refine ⟨rfl, Off.rfl, ?_⟩
           unfold takeD; rw [if_neg (by decide), if_neg (by decide), if_neg (by decide), if_neg (by decide), if_pos rfl, if_neg (by omega)]; rfl)
        | (rw [if_pos (by omega)]
           refine ⟨rfl, (Off.rfl.set (by omega) (by omega)).set (by omega) (by omega), ?_⟩
           unfold takeD; rw [if_neg (by decide), if_neg (by decide), if_neg (by decide), if_neg (by decide), if_pos rfl, if_pos (by omega)]
           exact ⟨rfl, HI_se (HI_se hH (by omega) (by omega)) (by omega) (by omega), hR.off fun q h1 h2 => by rw [wr_o (by omega), wr_o (by omega)]⟩)
    · refine G_aload_n (pc := 231) dX6_take_231 rfl ?_
      refine G_getr (pc := 232) dX6_take_232 fiX6_15 (by first | rfl | assumption) (by omega) (by first | rfl | assumption) ?_
      refine G_iload_n (pc := 235) dX6_take_235 rfl ?_
      refine G_iload_n (pc := 236) dX6_take_236 rfl ?_
      have c2 : c = 2 := by omega
      subst c2
      rw [hnm 0 (by omega), hnm 1 (by omega)]
      refine G_callV1 (pc := 237) (md := mdX4_setPain) (av := [_, _]) dX6_take_237 lkX6_81 mwX4_setPain (c_setPain 21 (nm 0 : Int) (nm 1 : Int) (Or.inr rfl) (by omega) (Ri.mk (by omega) (by omega)) (Ri.mk (by omega) (by omega))) rfl (by first | rfl | assumption) (by omega) rfl rfl (Nat.le_of_ble_eq_true rfl) (by decide) ⟨Nat.zero_le _, Nat.zero_le _⟩ ?_
      refine G_if_eq (pc := 240) (tgt := 247) dX6_take_240 (by first | exact bI_R | exact Ri.mk (by omega) (by omega)) (by decide) (fun h_240 => ?_) (fun h_240 => ?_)
      · try simp only [bI_eq0, bI_ne0] at h_240
        refine G_iconst (pc := 247) dX6_take_247 ?_
        refine G_zret (pc := 248) dX6_take_248 rfl (by omega) ?_
        first
          | (refine ⟨rfl, Off.rfl, ?_⟩
             unfold takeD; rw [if_neg (by decide), if_neg (by decide), if_neg (by decide), if_neg (by decide), if_pos rfl, if_neg (by omega)]; rfl)
          | (rw [if_neg (by omega)]
             refine ⟨rfl, Off.rfl, ?_⟩
             unfold takeD; rw [if_neg (by decide), if_neg (by decide), if_neg (by decide), if_neg (by decide), if_pos rfl, if_neg (by omega)]; rfl)
          | (rw [if_pos (by omega)]
             refine ⟨rfl, (Off.rfl.set (by omega) (by omega)).set (by omega) (by omega), ?_⟩
             unfold takeD; rw [if_neg (by decide), if_neg (by decide), if_neg (by decide), if_neg (by decide), if_pos rfl, if_pos (by omega)]
             exact ⟨rfl, HI_se (HI_se hH (by omega) (by omega)) (by omega) (by omega), hR.off fun q h1 h2 => by rw [wr_o (by omega), wr_o (by omega)]⟩)
      · try simp only [bI_eq0, bI_ne0] at h_240
        refine G_iconst (pc := 243) dX6_take_243 ?_
        refine G_goto (pc := 244) (tgt := 248) dX6_take_244 (by decide) ?_
        refine G_zret (pc := 248) dX6_take_248 rfl (by omega) ?_
        first
          | (refine ⟨rfl, Off.rfl, ?_⟩
             unfold takeD; rw [if_neg (by decide), if_neg (by decide), if_neg (by decide), if_neg (by decide), if_pos rfl, if_neg (by omega)]; rfl)
          | (rw [if_neg (by omega)]
             refine ⟨rfl, Off.rfl, ?_⟩
             unfold takeD; rw [if_neg (by decide), if_neg (by decide), if_neg (by decide), if_neg (by decide), if_pos rfl, if_neg (by omega)]; rfl)
          | (rw [if_pos (by omega)]
             refine ⟨rfl, (Off.rfl.set (by omega) (by omega)).set (by omega) (by omega), ?_⟩
             unfold takeD; rw [if_neg (by decide), if_neg (by decide), if_neg (by decide), if_neg (by decide), if_pos rfl, if_pos (by omega)]
             exact ⟨rfl, HI_se (HI_se hH (by omega) (by omega)) (by omega) (by omega), hR.off fun q h1 h2 => by rw [wr_o (by omega), wr_o (by omega)]⟩)
  refine G_lookup (pc := 19) (off := 230) (tgt := 249) dX6_take_19 (Ri.mk (by omega) (by omega)) (by decide) (by simp only [Op.lookupswitch.offset_cons, Op.lookupswitch.offset_nil]; rw [if_neg (by omega), if_neg (by omega), if_neg (by omega), if_neg (by omega), if_neg (by omega)]) (by decide) ?_
  refine G_iconst (pc := 249) dX6_take_249 ?_
  refine G_zret (pc := 250) dX6_take_250 rfl (by omega) ?_
  refine ⟨rfl, Off.rfl, ?_⟩
  unfold takeD; rw [if_neg l1, if_neg l2, if_neg l3, if_neg l4, if_neg l5]; rfl
theorem c_read {E : EV} {M : Nat} {I J : Nat → Nat → Int} {n : Nat} {tx : Nat → Int} (hM : 71 ≤ M) (hX : XI I n tx) (hn : n ≤ 400) (htx : ∀ i, -128 ≤ tx i ∧ tx i ≤ 127) : FnQ E mdX6_read 3 M Rf [vr E 33, vr E 1] I J (fun v I' J' => J' = J ∧ Off I I' 21 34 ∧ v = some (vi (parse tx n).1) ∧ ((parse tx n).1 = -4 → DI I' (parse tx n).2)) := by
  have v1 := hX.1
  refine FnQ.of (by decide +kernel) (Nat.le_of_ble_eq_true rfl) ?_
  show GM E mdX6_read 3 M Rf _ I J 0 [some (vr E 33), some (vr E 1), none, none, none] []
  obtain ⟨res, hres⟩ : ∃ r, r = parse tx n := ⟨_, rfl⟩
  rw [← hres]
  generalize hQ : (fun (v : Option Value) (I' J' : Nat → Nat → Int) => J' = J ∧ Off I I' 21 34 ∧ v = some (vi res.1) ∧ (res.1 = -4 → DI I' res.2)) = Q
  have loop : ∀ (m p k : Nat) (D : DS) (I' : Nat → Nat → Int) (e1 : Option Value), p ≤ n → n + 1 ≤ m + p → 2 * k ≤ p → Off I I' 21 34 → DI I' D → DB D → paF tx n m p D = res → GM E mdX6_read 3 M Rf Q I' J 19 [some (vr E 33), some (vr E 1), some (vi (p : Int)), some (vi (k : Int)), e1] [] := by
    intro m
    induction m with
    | zero =>
      intro p k D I' e1 hp hm
      omega
    | succ m ih =>
      intro p k D I' e1 hp hm hk hO hD hDB hr
      have v1' : I' 1 1 = n := by rw [hO 1 (by omega)]; exact v1
      have hX' : XI I' n tx := hX.off (hO 1 (by omega)) (hO 2 (by omega))
      have hlt := htx p
      rw [paF] at hr
      obtain ⟨rs, hrs⟩ : ∃ r, r = rdM tx (n - (p + 1)) (p + 1) 0 (fun _ => 0) 0 0 := ⟨_, rfl⟩
      rw [← hrs] at hr
      have hrB : ∀ x, rs = some x → x.1 ≤ 4 ∧ 1 ≤ x.1 ∧ (∀ i, x.2.1 i ≤ 999) ∧ p + 1 < x.2.2 ∧ x.2.2 ≤ (p + 1) + (n - (p + 1)) := fun x hx => rdM_B _ _ _ _ _ _ (Or.inl ⟨rfl, rfl⟩) (fun _ => Nat.zero_le _) (by omega) x (hrs.symm.trans hx)
      refine G_iload_n (pc := 19) dX6_read_19 rfl ?_
      refine G_sipush (pc := 20) dX6_read_20 (by decide) ?_
      refine G_icmp_gt (pc := 23) (tgt := 74) dX6_read_23 (Ri.mk (by omega) (by omega)) (Ri.mk (by omega) (by omega)) (by decide) (fun h_23 => ?_) (fun h_23 => ?_)
      · exact absurd h_23 (by omega)
      · refine G_iload_n (pc := 26) dX6_read_26 rfl ?_
        refine G_aload_n (pc := 27) dX6_read_27 rfl ?_
        refine G_geti (pc := 28) dX6_read_28 fiX6_34 (by first | rfl | assumption) (by omega) ?_
        refine G_icmp_ge (pc := 31) (tgt := 74) dX6_read_31 (Ri.mk (by omega) (by omega)) (Ri.mk (by omega) (by omega)) (by decide) (fun h_31 => ?_) (fun h_31 => ?_)
        · refine G_bipush (pc := 74) dX6_read_74 (by decide) ?_
          refine G_iret (pc := 76) dX6_read_76 rfl ?_
          rw [if_pos (by omega)] at hr
          rw [← hQ, ← hr]
          exact ⟨rfl, hO, rfl, fun _ => hD⟩
        · refine G_aload_n (pc := 34) dX6_read_34 rfl ?_
          refine G_aload_n (pc := 35) dX6_read_35 rfl ?_
          refine G_iload_n (pc := 36) dX6_read_36 rfl ?_
          refine G_iconst (pc := 37) dX6_read_37 ?_
          refine G_iadd (pc := 38) dX6_read_38 ?_
          refine G_callV (pc := 39) (md := mdX6_readNumbers) (av := [_, _]) dX6_read_39 lkX6_37 mwX6_readNumbers (c_readNumbers (p + 1) _ hM hX' hn htx (by omega) (by omega)) rfl (by first | rfl | assumption) (by omega) rfl rfl (Nat.le_of_ble_eq_true rfl) (by decide) ⟨Nat.zero_le _, Nat.zero_le _⟩ ?_
          rintro v I1 J1 ⟨rfl, hO1, hv⟩
          rw [← hrs] at hv
          have hD1 : DI I1 D := ⟨hD.1.off fun q h1 h2 => hO1 q (by omega), hD.2.off fun q h1 h2 => hO1 q (by omega)⟩
          have hX1 : XI I1 n tx := hX'.off (hO1 1 (by omega)) (hO1 2 (by omega))
          rw [if_neg (by omega)] at hr
          rcases hrc : rs with _ | x
          · rw [hrc] at hv hr
            obtain rfl : v = some (vi (-4)) := hv
            refine G_istore (pc := 42) (lv' := [_, _, _, _, _]) dX6_read_42 (by decide) rfl ?_
            refine G_iload (pc := 44) dX6_read_44 rfl ?_
            refine G_bipush (pc := 46) dX6_read_46 (by decide) ?_
            refine G_icmp_eq (pc := 48) (tgt := 63) dX6_read_48 (Ri.mk (by omega) (by omega)) (Ri.mk (by omega) (by omega)) (by decide) (fun _ => ?_) (fun h => absurd rfl h)
            refine G_iload_n (pc := 63) dX6_read_63 rfl ?_
            refine G_iret (pc := 64) dX6_read_64 rfl ?_
            rw [← hQ, ← hr]
            exact ⟨rfl, (hO.trans (hO1.mono (by omega) (by omega))), rfl, fun h => by have h : (p : Int) = -4 := h; omega⟩
          obtain ⟨x1, x2, x3, x4, x5⟩ := hrB x hrc
          rw [hrc] at hv hr
          obtain ⟨rfl, hx3, hx4⟩ := hv
          refine G_istore (pc := 42) (lv' := [_, _, _, _, _]) dX6_read_42 (by decide) rfl ?_
          refine G_iload (pc := 44) dX6_read_44 rfl ?_
          refine G_bipush (pc := 46) dX6_read_46 (by decide) ?_
          refine G_icmp_eq (pc := 48) (tgt := 63) dX6_read_48 (Ri.mk (by omega) (by omega)) (Ri.mk (by omega) (by omega)) (by decide) (fun h_48 => ?_) (fun h_48 => ?_)
          · exact absurd h_48 (by omega)
          · refine G_aload_n (pc := 51) dX6_read_51 rfl ?_
            refine G_aload_n (pc := 52) dX6_read_52 rfl ?_
            refine G_iload_n (pc := 53) dX6_read_53 rfl ?_
            refine G_callV1 (pc := 54) (md := mdX9_byteAt) (av := [_]) dX6_read_54 lkX6_41 mwX9_byteAt (c_byteAt (p : Int) hM hX1 hn (Ri.mk (by omega) (by omega))) rfl (by first | rfl | assumption) (by omega) rfl rfl (Nat.le_of_ble_eq_true rfl) (by decide) ⟨Nat.zero_le _, Nat.zero_le _⟩ ?_
            rw [if_pos (show (0 : Int) ≤ (p : Int) ∧ (p : Int) < n by omega), Int.toNat_natCast]
            refine G_callV (pc := 57) (md := mdX6_take) (av := [_]) dX6_read_57 lkX6_45 mwX6_take (c_take (tx p) x.1 hM hD1 hDB hlt hx3 (by omega) hx4 x3) rfl (by first | rfl | assumption) (by omega) rfl rfl (Nat.le_of_ble_eq_true rfl) (by decide) ⟨Nat.zero_le _, Nat.zero_le _⟩ ?_
            rintro v I2 J2 ⟨rfl, hO2, hv⟩
            have hO3 : Off I I2 21 34 := (hO.trans (hO1.mono (by omega) (by omega))).trans hO2
            rcases htc : takeD (tx p) x.1 x.2.1 D with _ | D'
            · rw [htc] at hv
              simp only [htc] at hr
              obtain rfl : v = some (vi 0) := hv
              refine G_if_ne (pc := 60) (tgt := 65) dX6_read_60 (Ri.mk (by omega) (by omega)) (by decide) (fun h => absurd rfl h) (fun _ => ?_)
              refine G_iload_n (pc := 63) dX6_read_63 rfl ?_
              refine G_iret (pc := 64) dX6_read_64 rfl ?_
              rw [← hQ, ← hr]
              exact ⟨rfl, hO3, rfl, fun h => by have h : (p : Int) = -4 := h; omega⟩
            rw [htc] at hv
            simp only [htc] at hr
            obtain ⟨rfl, hD2⟩ := hv
            refine G_if_ne (pc := 60) (tgt := 65) dX6_read_60 (Ri.mk (by omega) (by omega)) (by decide) (fun h_60 => ?_) (fun h_60 => ?_)
            · try simp only [bI_eq0, bI_ne0] at h_60
              refine G_iload (pc := 65) dX6_read_65 rfl ?_
              refine G_istore_n (pc := 67) (lv' := [_, _, _, _, _]) dX6_read_67 (by decide) rfl ?_
              refine G_iinc (pc := 68) (lv' := [_, _, _, _, _]) dX6_read_68 (by decide) rfl rfl ?_
              refine G_goto (pc := 71) (tgt := 19) dX6_read_71 (by decide) ?_
              exact ih x.2.2 (k + 1) D' _ _ (by omega) (by omega) (by omega) hO3 hD2 (takeD_B hDB htc) hr
            · exact absurd h_60 (by decide)
  refine G_aload_n (pc := 0) dX6_read_0 rfl ?_
  refine G_getr (pc := 1) dX6_read_1 fiX6_15 (by first | rfl | assumption) (by omega) (by first | rfl | assumption) ?_
  refine G_callV0 (pc := 4) (md := mdX4_clear) (av := []) dX6_read_4 lkX6_23 mwX4_clear (c_clear 21 (Or.inr rfl) (by omega)) rfl (by first | rfl | assumption) (by omega) rfl rfl (Nat.le_of_ble_eq_true rfl) (by decide) ⟨Nat.zero_le _, Nat.zero_le _⟩ ?_
  refine G_aload_n (pc := 7) dX6_read_7 rfl ?_
  refine G_getr (pc := 8) dX6_read_8 fiX6_19 (by first | rfl | assumption) (by omega) (by first | rfl | assumption) ?_
  refine G_iconst (pc := 11) dX6_read_11 ?_
  refine G_puti (pc := 12) dX6_read_12 fiX6_28 (by first | rfl | assumption) (by omega) ?_
  refine G_iconst (pc := 15) dX6_read_15 ?_
  refine G_istore_n (pc := 16) (lv' := [_, _, _, _, _]) dX6_read_16 (by decide) rfl ?_
  refine G_iconst (pc := 17) dX6_read_17 ?_
  refine G_istore_n (pc := 18) (lv' := [_, _, _, _, _]) dX6_read_18 (by decide) rfl ?_
  refine loop (n + 1) 0 0 D0 _ _ (by omega) (by omega) (by omega) (fun q hq => by simp (disch := omega) only [wr_o]) ⟨⟨fun i hi x hx => absurd hx (Nat.not_lt_zero _), fun i h4 hi x hx => absurd hx (Nat.not_lt_zero _), fun i h8 hi => ?_⟩, ?_, fun t ht => absurd ht (Nat.not_lt_zero _)⟩ D0_B hres.symm
  · rcases (show i = 8 ∨ i = 9 ∨ i = 10 ∨ i = 11 ∨ i = 12 ∨ i = 13 by omega) with rfl | rfl | rfl | rfl | rfl | rfl <;> simp [wr, D0, clearH]
  · rw [wr_s]; rfl
