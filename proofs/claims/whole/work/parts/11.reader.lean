/-! READER -/
def DI (I : Nat → Nat → Int) (D : DS) : Prop := HI I 21 D.1 ∧ RI I 30 D.2
def rdQ (res : Option (Nat × (Nat → Nat) × Nat)) (v : Option Value) (I' : Nat → Nat → Int) : Prop := match res with
  | none => v = some (vi (-4))
  | some x => v = some (vi (x.2.2 : Int)) ∧ I' 33 3 = x.1 ∧ ∀ i, i < x.1 → I' 34 i = x.2.1 i
theorem c_readNumbers {E : EV} {M : Nat} {I J : Nat → Nat → Int} {n : Nat} {tx : Nat → Int} (p : Nat) (a : Int) (hM : 71 ≤ M) (hX : XI I n tx) (hn : n ≤ 400) (htx : ∀ i, -128 ≤ tx i ∧ tx i ≤ 127) (hp : p ≤ 401) (ha : a = p) : FnQ E mdX6_readNumbers 1 M Rf [vr E 33, vr E 1, vi a] I J (fun v I' J' => J' = J ∧ Off I I' 33 34 ∧ rdQ (rdM tx (n - p) p 0 (fun _ => 0) 0 0) v I') := by
  subst ha
  have v1 := hX.1
  refine FnQ.of (by decide +kernel) (Nat.le_of_ble_eq_true rfl) ?_
  show GM E mdX6_readNumbers 1 M Rf _ I J 0 [some (vr E 33), some (vr E 1), some (vi (p : Int)), none, none, none, none] []
  obtain ⟨res, hres⟩ : ∃ r, r = rdM tx (n - p) p 0 (fun _ => 0) 0 0 := ⟨_, rfl⟩
  rw [← hres]
  generalize hQ : (fun (v : Option Value) (I' J' : Nat → Nat → Int) => J' = J ∧ Off I I' 33 34 ∧ rdQ res v I') = Q
  have loop : ∀ (m q j v f : Nat) (nm : Nat → Nat) (I' : Nat → Nat → Int) (e1 : Option Value), m = n - q → q ≤ 401 → Off I I' 33 34 → I' 33 3 = j → (∀ i, i < j → I' 34 i = nm i) → j ≤ 4 → vB f v → rdM tx m q j nm v f = res → GM E mdX6_readNumbers 1 M Rf Q I' J 13 [some (vr E 33), some (vr E 1), some (vi (p : Int)), some (vi (v : Int)), some (vi (f : Int)), some (vi (q : Int)), e1] [] := by
    intro m
    induction m with
    | zero =>
      intro q j v f nm I' e1 hm hq hO hj hnm hj4 hv hr
      have v1' : I' 1 1 = n := by rw [hO 1 (by omega)]; exact v1
      have hr : none = res := hr
      refine G_iload (pc := 13) dX6_readNumbers_13 rfl ?_
      refine G_aload_n (pc := 15) dX6_readNumbers_15 rfl ?_
      refine G_geti (pc := 16) dX6_readNumbers_16 fiX6_34 (by first | rfl | assumption) (by omega) ?_
      refine G_icmp_ge (pc := 19) (tgt := 146) dX6_readNumbers_19 (Ri.mk (by omega) (by omega)) (Ri.mk (by omega) (by omega)) (by decide) (fun h_19 => ?_) (fun h_19 => ?_)
      · refine G_bipush (pc := 146) dX6_readNumbers_146 (by decide) ?_
        refine G_iret (pc := 148) dX6_readNumbers_148 rfl ?_
        rw [← hQ, ← hr]; exact ⟨rfl, hO, rfl⟩
      · exact absurd h_19 (by omega)
    | succ m ih =>
      intro q j v f nm I' e1 hm hq hO hj hnm hj4 hv hr
      have v1' : I' 1 1 = n := by rw [hO 1 (by omega)]; exact v1
      have hX' : XI I' n tx := hX.off (hO 1 (by omega)) (hO 2 (by omega))
      have hvb : v ≤ 999 ∧ f ≤ 3 := by unfold vB at hv; omega
      have ht := htx q
      rw [rdM] at hr
      refine G_iload (pc := 13) dX6_readNumbers_13 rfl ?_
      refine G_aload_n (pc := 15) dX6_readNumbers_15 rfl ?_
      refine G_geti (pc := 16) dX6_readNumbers_16 fiX6_34 (by first | rfl | assumption) (by omega) ?_
      refine G_icmp_ge (pc := 19) (tgt := 146) dX6_readNumbers_19 (Ri.mk (by omega) (by omega)) (Ri.mk (by omega) (by omega)) (by decide) (fun h_19 => ?_) (fun h_19 => ?_)
      · exact absurd h_19 (by omega)
      · refine G_aload_n (pc := 22) dX6_readNumbers_22 rfl ?_
        refine G_iload (pc := 23) dX6_readNumbers_23 rfl ?_
        refine G_callV1 (pc := 25) (md := mdX9_byteAt) (av := [_]) dX6_readNumbers_25 lkX6_41 mwX9_byteAt (c_byteAt (q : Int) hM hX' hn (Ri.mk (by omega) (by omega))) rfl (by first | rfl | assumption) (by omega) rfl rfl (Nat.le_of_ble_eq_true rfl) (by decide) ⟨Nat.zero_le _, Nat.zero_le _⟩ ?_
        rw [if_pos (show (0 : Int) ≤ (q : Int) ∧ (q : Int) < n by omega), Int.toNat_natCast]
        refine G_istore (pc := 28) (lv' := [_, _, _, _, _, _, _]) dX6_readNumbers_28 (by decide) rfl ?_
        refine G_iload (pc := 30) dX6_readNumbers_30 rfl ?_
        refine G_bipush (pc := 32) dX6_readNumbers_32 (by decide) ?_
        refine G_icmp_lt (pc := 34) (tgt := 67) dX6_readNumbers_34 (Ri.mk (by omega) (by omega)) (Ri.mk (by omega) (by omega)) (by decide) (fun h_34 => ?_) (fun h_34 => ?_)
        · refine G_iload (pc := 67) dX6_readNumbers_67 rfl ?_
          refine G_bipush (pc := 69) dX6_readNumbers_69 (by decide) ?_
          refine G_icmp_eq (pc := 71) (tgt := 81) dX6_readNumbers_71 (Ri.mk (by omega) (by omega)) (Ri.mk (by omega) (by omega)) (by decide) (fun h_71 => ?_) (fun h_71 => ?_)
          · refine G_iload (pc := 81) dX6_readNumbers_81 rfl ?_
            refine G_if_le (pc := 83) (tgt := 137) dX6_readNumbers_83 (Ri.mk (by omega) (by omega)) (by decide) (fun h_83 => ?_) (fun h_83 => ?_)
            · refine G_bipush (pc := 137) dX6_readNumbers_137 (by decide) ?_
              refine G_iret (pc := 139) dX6_readNumbers_139 rfl ?_
              rw [if_neg (by omega), if_neg (by omega)] at hr
              rw [← hQ, ← hr]
              exact ⟨rfl, hO, rfl⟩
            · refine G_aload_n (pc := 86) dX6_readNumbers_86 rfl ?_
              refine G_geti (pc := 87) dX6_readNumbers_87 fiX6_49 (by first | rfl | assumption) (by omega) ?_
              refine G_aload_n (pc := 90) dX6_readNumbers_90 rfl ?_
              refine G_getr (pc := 91) dX6_readNumbers_91 fiX6_9 (by first | rfl | assumption) (by omega) (by first | rfl | assumption) ?_
              refine G_alen (pc := 94) dX6_readNumbers_94 (by first | rfl | assumption) (by decide) (by omega) ?_
              refine G_icmp_ge (pc := 95) (tgt := 137) dX6_readNumbers_95 (Ri.mk (by omega) (by omega)) (Ri.mk (by omega) (by omega)) (by decide) (fun h_95 => ?_) (fun h_95 => ?_)
              · refine G_bipush (pc := 137) dX6_readNumbers_137 (by decide) ?_
                refine G_iret (pc := 139) dX6_readNumbers_139 rfl ?_
                rw [if_neg (by omega), if_neg (by omega)] at hr
                rw [← hQ, ← hr]
                exact ⟨rfl, hO, rfl⟩
              · refine G_aload_n (pc := 98) dX6_readNumbers_98 rfl ?_
                refine G_getr (pc := 99) dX6_readNumbers_99 fiX6_9 (by first | rfl | assumption) (by omega) (by first | rfl | assumption) ?_
                refine G_aload_n (pc := 102) dX6_readNumbers_102 rfl ?_
                refine G_geti (pc := 103) dX6_readNumbers_103 fiX6_49 (by first | rfl | assumption) (by omega) ?_
                refine G_iload_n (pc := 106) dX6_readNumbers_106 rfl ?_
                refine G_callS0 (pc := 107) (md := mdX11_put) (av := [_, _, _]) dX6_readNumbers_107 lkX6_52 mwX11_put (c_put 34 4 j _ _ rfl (by omega) (by omega) (by omega) hj) rfl rfl (Nat.le_of_ble_eq_true rfl) (by decide) ⟨Nat.zero_le _, Nat.zero_le _⟩ ?_
                refine G_aload_n (pc := 110) dX6_readNumbers_110 rfl ?_
                refine G_dup (pc := 111) dX6_readNumbers_111 rfl ?_
                refine G_geti (pc := 112) dX6_readNumbers_112 fiX6_49 (by first | rfl | assumption) (by omega) ?_
                refine G_iconst (pc := 115) dX6_readNumbers_115 ?_
                refine G_iadd (pc := 116) dX6_readNumbers_116 ?_
                refine G_puti (pc := 117) dX6_readNumbers_117 fiX6_49 (by first | rfl | assumption) (by omega) ?_
                refine G_iconst (pc := 120) dX6_readNumbers_120 ?_
                refine G_istore_n (pc := 121) (lv' := [_, _, _, _, _, _, _]) dX6_readNumbers_121 (by decide) rfl ?_
                refine G_iconst (pc := 122) dX6_readNumbers_122 ?_
                refine G_istore (pc := 123) (lv' := [_, _, _, _, _, _, _]) dX6_readNumbers_123 (by decide) rfl ?_
                refine G_iload (pc := 125) dX6_readNumbers_125 rfl ?_
                refine G_bipush (pc := 127) dX6_readNumbers_127 (by decide) ?_
                refine G_icmp_ne (pc := 129) (tgt := 140) dX6_readNumbers_129 (Ri.mk (by omega) (by omega)) (Ri.mk (by omega) (by omega)) (by decide) (fun h_129 => ?_) (fun h_129 => ?_)
                · refine G_iinc (pc := 140) (lv' := [_, _, _, _, _, _, _]) dX6_readNumbers_140 (by decide) rfl rfl ?_
                  refine G_goto (pc := 143) (tgt := 13) dX6_readNumbers_143 (by decide) ?_
                  first
                    | (rw [if_pos (by omega)] at hr
                       refine G_eq rfl rfl ?_ rfl (ih (q + 1) j (10 * v + (tx q - 48).toNat) (f + 1) nm I' (some (vi (tx q))) (by omega) (by omega) hO hj hnm hj4 (vB_up hv (by omega) (by omega)) hr)
                       rw [show (10 : Int) * (v : Int) + tx q - 48 = ((10 * v + (tx q - 48).toNat : Nat) : Int) by omega]; rfl)
                    | (rw [if_neg (by omega), if_pos (by omega), if_neg (by omega)] at hr
                       refine ih (q + 1) (j + 1) 0 0 (upN nm j v) _ _ (by omega) (by omega) ((hO.set (by omega) (by omega)).set (by omega) (by omega)) (by rw [wr_s, wr_o (by decide), hj]; rfl) (fun i hi => ?_) (by omega) (Or.inl ⟨rfl, rfl⟩) hr
                       rw [wr_o (by decide)]
                       by_cases e : i = j
                       · subst e; rw [wr_s]; simp [upN]
                       · rw [wr_n e, hnm i (by omega)]; simp [upN, e])
                · refine G_iload (pc := 132) dX6_readNumbers_132 rfl ?_
                  refine G_iconst (pc := 134) dX6_readNumbers_134 ?_
                  refine G_iadd (pc := 135) dX6_readNumbers_135 ?_
                  refine G_iret (pc := 136) dX6_readNumbers_136 rfl ?_
                  have h59 : tx q = 59 := by omega
                  rw [if_neg (by omega), if_pos (by omega), if_pos h59] at hr
                  rw [← hQ, ← hr]
                  refine ⟨rfl, (hO.set (by omega) (by omega)).set (by omega) (by omega), rfl, (by rw [wr_s, wr_o (by decide), hj]; rfl), fun i hi => ?_⟩
                  rw [wr_o (by decide)]
                  have hi : i < j + 1 := hi
                  by_cases e : i = j
                  · subst e; rw [wr_s]; simp [upN]
                  · rw [wr_n e, hnm i (by omega)]; simp [upN, e]
          · refine G_iload (pc := 74) dX6_readNumbers_74 rfl ?_
            refine G_bipush (pc := 76) dX6_readNumbers_76 (by decide) ?_
            refine G_icmp_ne (pc := 78) (tgt := 137) dX6_readNumbers_78 (Ri.mk (by omega) (by omega)) (Ri.mk (by omega) (by omega)) (by decide) (fun h_78 => ?_) (fun h_78 => ?_)
            · refine G_bipush (pc := 137) dX6_readNumbers_137 (by decide) ?_
              refine G_iret (pc := 139) dX6_readNumbers_139 rfl ?_
              rw [if_neg (by omega), if_neg (by omega)] at hr
              rw [← hQ, ← hr]
              exact ⟨rfl, hO, rfl⟩
            · refine G_iload (pc := 81) dX6_readNumbers_81 rfl ?_
              refine G_if_le (pc := 83) (tgt := 137) dX6_readNumbers_83 (Ri.mk (by omega) (by omega)) (by decide) (fun h_83 => ?_) (fun h_83 => ?_)
              · refine G_bipush (pc := 137) dX6_readNumbers_137 (by decide) ?_
                refine G_iret (pc := 139) dX6_readNumbers_139 rfl ?_
                rw [if_neg (by omega), if_neg (by omega)] at hr
                rw [← hQ, ← hr]
                exact ⟨rfl, hO, rfl⟩
              · refine G_aload_n (pc := 86) dX6_readNumbers_86 rfl ?_
                refine G_geti (pc := 87) dX6_readNumbers_87 fiX6_49 (by first | rfl | assumption) (by omega) ?_
                refine G_aload_n (pc := 90) dX6_readNumbers_90 rfl ?_
                refine G_getr (pc := 91) dX6_readNumbers_91 fiX6_9 (by first | rfl | assumption) (by omega) (by first | rfl | assumption) ?_
                refine G_alen (pc := 94) dX6_readNumbers_94 (by first | rfl | assumption) (by decide) (by omega) ?_
                refine G_icmp_ge (pc := 95) (tgt := 137) dX6_readNumbers_95 (Ri.mk (by omega) (by omega)) (Ri.mk (by omega) (by omega)) (by decide) (fun h_95 => ?_) (fun h_95 => ?_)
                · refine G_bipush (pc := 137) dX6_readNumbers_137 (by decide) ?_
                  refine G_iret (pc := 139) dX6_readNumbers_139 rfl ?_
                  rw [if_neg (by omega), if_neg (by omega)] at hr
                  rw [← hQ, ← hr]
                  exact ⟨rfl, hO, rfl⟩
                · refine G_aload_n (pc := 98) dX6_readNumbers_98 rfl ?_
                  refine G_getr (pc := 99) dX6_readNumbers_99 fiX6_9 (by first | rfl | assumption) (by omega) (by first | rfl | assumption) ?_
                  refine G_aload_n (pc := 102) dX6_readNumbers_102 rfl ?_
                  refine G_geti (pc := 103) dX6_readNumbers_103 fiX6_49 (by first | rfl | assumption) (by omega) ?_
                  refine G_iload_n (pc := 106) dX6_readNumbers_106 rfl ?_
                  refine G_callS0 (pc := 107) (md := mdX11_put) (av := [_, _, _]) dX6_readNumbers_107 lkX6_52 mwX11_put (c_put 34 4 j _ _ rfl (by omega) (by omega) (by omega) hj) rfl rfl (Nat.le_of_ble_eq_true rfl) (by decide) ⟨Nat.zero_le _, Nat.zero_le _⟩ ?_
                  refine G_aload_n (pc := 110) dX6_readNumbers_110 rfl ?_
                  refine G_dup (pc := 111) dX6_readNumbers_111 rfl ?_
                  refine G_geti (pc := 112) dX6_readNumbers_112 fiX6_49 (by first | rfl | assumption) (by omega) ?_
                  refine G_iconst (pc := 115) dX6_readNumbers_115 ?_
                  refine G_iadd (pc := 116) dX6_readNumbers_116 ?_
                  refine G_puti (pc := 117) dX6_readNumbers_117 fiX6_49 (by first | rfl | assumption) (by omega) ?_
                  refine G_iconst (pc := 120) dX6_readNumbers_120 ?_
                  refine G_istore_n (pc := 121) (lv' := [_, _, _, _, _, _, _]) dX6_readNumbers_121 (by decide) rfl ?_
                  refine G_iconst (pc := 122) dX6_readNumbers_122 ?_
                  refine G_istore (pc := 123) (lv' := [_, _, _, _, _, _, _]) dX6_readNumbers_123 (by decide) rfl ?_
                  refine G_iload (pc := 125) dX6_readNumbers_125 rfl ?_
                  refine G_bipush (pc := 127) dX6_readNumbers_127 (by decide) ?_
                  refine G_icmp_ne (pc := 129) (tgt := 140) dX6_readNumbers_129 (Ri.mk (by omega) (by omega)) (Ri.mk (by omega) (by omega)) (by decide) (fun h_129 => ?_) (fun h_129 => ?_)
                  · refine G_iinc (pc := 140) (lv' := [_, _, _, _, _, _, _]) dX6_readNumbers_140 (by decide) rfl rfl ?_
                    refine G_goto (pc := 143) (tgt := 13) dX6_readNumbers_143 (by decide) ?_
                    first
                      | (rw [if_pos (by omega)] at hr
                         refine G_eq rfl rfl ?_ rfl (ih (q + 1) j (10 * v + (tx q - 48).toNat) (f + 1) nm I' (some (vi (tx q))) (by omega) (by omega) hO hj hnm hj4 (vB_up hv (by omega) (by omega)) hr)
                         rw [show (10 : Int) * (v : Int) + tx q - 48 = ((10 * v + (tx q - 48).toNat : Nat) : Int) by omega]; rfl)
                      | (rw [if_neg (by omega), if_pos (by omega), if_neg (by omega)] at hr
                         refine ih (q + 1) (j + 1) 0 0 (upN nm j v) _ _ (by omega) (by omega) ((hO.set (by omega) (by omega)).set (by omega) (by omega)) (by rw [wr_s, wr_o (by decide), hj]; rfl) (fun i hi => ?_) (by omega) (Or.inl ⟨rfl, rfl⟩) hr
                         rw [wr_o (by decide)]
                         by_cases e : i = j
                         · subst e; rw [wr_s]; simp [upN]
                         · rw [wr_n e, hnm i (by omega)]; simp [upN, e])
                  · refine G_iload (pc := 132) dX6_readNumbers_132 rfl ?_
                    refine G_iconst (pc := 134) dX6_readNumbers_134 ?_
                    refine G_iadd (pc := 135) dX6_readNumbers_135 ?_
                    refine G_iret (pc := 136) dX6_readNumbers_136 rfl ?_
                    have h59 : tx q = 59 := by omega
                    rw [if_neg (by omega), if_pos (by omega), if_pos h59] at hr
                    rw [← hQ, ← hr]
                    refine ⟨rfl, (hO.set (by omega) (by omega)).set (by omega) (by omega), rfl, (by rw [wr_s, wr_o (by decide), hj]; rfl), fun i hi => ?_⟩
                    rw [wr_o (by decide)]
                    have hi : i < j + 1 := hi
                    by_cases e : i = j
                    · subst e; rw [wr_s]; simp [upN]
                    · rw [wr_n e, hnm i (by omega)]; simp [upN, e]
        · refine G_iload (pc := 37) dX6_readNumbers_37 rfl ?_
          refine G_bipush (pc := 39) dX6_readNumbers_39 (by decide) ?_
          refine G_icmp_gt (pc := 41) (tgt := 67) dX6_readNumbers_41 (Ri.mk (by omega) (by omega)) (Ri.mk (by omega) (by omega)) (by decide) (fun h_41 => ?_) (fun h_41 => ?_)
          · refine G_iload (pc := 67) dX6_readNumbers_67 rfl ?_
            refine G_bipush (pc := 69) dX6_readNumbers_69 (by decide) ?_
            refine G_icmp_eq (pc := 71) (tgt := 81) dX6_readNumbers_71 (Ri.mk (by omega) (by omega)) (Ri.mk (by omega) (by omega)) (by decide) (fun h_71 => ?_) (fun h_71 => ?_)
            · refine G_iload (pc := 81) dX6_readNumbers_81 rfl ?_
              refine G_if_le (pc := 83) (tgt := 137) dX6_readNumbers_83 (Ri.mk (by omega) (by omega)) (by decide) (fun h_83 => ?_) (fun h_83 => ?_)
              · refine G_bipush (pc := 137) dX6_readNumbers_137 (by decide) ?_
                refine G_iret (pc := 139) dX6_readNumbers_139 rfl ?_
                rw [if_neg (by omega), if_neg (by omega)] at hr
                rw [← hQ, ← hr]
                exact ⟨rfl, hO, rfl⟩
              · refine G_aload_n (pc := 86) dX6_readNumbers_86 rfl ?_
                refine G_geti (pc := 87) dX6_readNumbers_87 fiX6_49 (by first | rfl | assumption) (by omega) ?_
                refine G_aload_n (pc := 90) dX6_readNumbers_90 rfl ?_
                refine G_getr (pc := 91) dX6_readNumbers_91 fiX6_9 (by first | rfl | assumption) (by omega) (by first | rfl | assumption) ?_
                refine G_alen (pc := 94) dX6_readNumbers_94 (by first | rfl | assumption) (by decide) (by omega) ?_
                refine G_icmp_ge (pc := 95) (tgt := 137) dX6_readNumbers_95 (Ri.mk (by omega) (by omega)) (Ri.mk (by omega) (by omega)) (by decide) (fun h_95 => ?_) (fun h_95 => ?_)
                · refine G_bipush (pc := 137) dX6_readNumbers_137 (by decide) ?_
                  refine G_iret (pc := 139) dX6_readNumbers_139 rfl ?_
                  rw [if_neg (by omega), if_neg (by omega)] at hr
                  rw [← hQ, ← hr]
                  exact ⟨rfl, hO, rfl⟩
                · refine G_aload_n (pc := 98) dX6_readNumbers_98 rfl ?_
                  refine G_getr (pc := 99) dX6_readNumbers_99 fiX6_9 (by first | rfl | assumption) (by omega) (by first | rfl | assumption) ?_
                  refine G_aload_n (pc := 102) dX6_readNumbers_102 rfl ?_
                  refine G_geti (pc := 103) dX6_readNumbers_103 fiX6_49 (by first | rfl | assumption) (by omega) ?_
                  refine G_iload_n (pc := 106) dX6_readNumbers_106 rfl ?_
                  refine G_callS0 (pc := 107) (md := mdX11_put) (av := [_, _, _]) dX6_readNumbers_107 lkX6_52 mwX11_put (c_put 34 4 j _ _ rfl (by omega) (by omega) (by omega) hj) rfl rfl (Nat.le_of_ble_eq_true rfl) (by decide) ⟨Nat.zero_le _, Nat.zero_le _⟩ ?_
                  refine G_aload_n (pc := 110) dX6_readNumbers_110 rfl ?_
                  refine G_dup (pc := 111) dX6_readNumbers_111 rfl ?_
                  refine G_geti (pc := 112) dX6_readNumbers_112 fiX6_49 (by first | rfl | assumption) (by omega) ?_
                  refine G_iconst (pc := 115) dX6_readNumbers_115 ?_
                  refine G_iadd (pc := 116) dX6_readNumbers_116 ?_
                  refine G_puti (pc := 117) dX6_readNumbers_117 fiX6_49 (by first | rfl | assumption) (by omega) ?_
                  refine G_iconst (pc := 120) dX6_readNumbers_120 ?_
                  refine G_istore_n (pc := 121) (lv' := [_, _, _, _, _, _, _]) dX6_readNumbers_121 (by decide) rfl ?_
                  refine G_iconst (pc := 122) dX6_readNumbers_122 ?_
                  refine G_istore (pc := 123) (lv' := [_, _, _, _, _, _, _]) dX6_readNumbers_123 (by decide) rfl ?_
                  refine G_iload (pc := 125) dX6_readNumbers_125 rfl ?_
                  refine G_bipush (pc := 127) dX6_readNumbers_127 (by decide) ?_
                  refine G_icmp_ne (pc := 129) (tgt := 140) dX6_readNumbers_129 (Ri.mk (by omega) (by omega)) (Ri.mk (by omega) (by omega)) (by decide) (fun h_129 => ?_) (fun h_129 => ?_)
                  · refine G_iinc (pc := 140) (lv' := [_, _, _, _, _, _, _]) dX6_readNumbers_140 (by decide) rfl rfl ?_
                    refine G_goto (pc := 143) (tgt := 13) dX6_readNumbers_143 (by decide) ?_
                    first
                      | (rw [if_pos (by omega)] at hr
                         refine G_eq rfl rfl ?_ rfl (ih (q + 1) j (10 * v + (tx q - 48).toNat) (f + 1) nm I' (some (vi (tx q))) (by omega) (by omega) hO hj hnm hj4 (vB_up hv (by omega) (by omega)) hr)
                         rw [show (10 : Int) * (v : Int) + tx q - 48 = ((10 * v + (tx q - 48).toNat : Nat) : Int) by omega]; rfl)
                      | (rw [if_neg (by omega), if_pos (by omega), if_neg (by omega)] at hr
                         refine ih (q + 1) (j + 1) 0 0 (upN nm j v) _ _ (by omega) (by omega) ((hO.set (by omega) (by omega)).set (by omega) (by omega)) (by rw [wr_s, wr_o (by decide), hj]; rfl) (fun i hi => ?_) (by omega) (Or.inl ⟨rfl, rfl⟩) hr
                         rw [wr_o (by decide)]
                         by_cases e : i = j
                         · subst e; rw [wr_s]; simp [upN]
                         · rw [wr_n e, hnm i (by omega)]; simp [upN, e])
                  · refine G_iload (pc := 132) dX6_readNumbers_132 rfl ?_
                    refine G_iconst (pc := 134) dX6_readNumbers_134 ?_
                    refine G_iadd (pc := 135) dX6_readNumbers_135 ?_
                    refine G_iret (pc := 136) dX6_readNumbers_136 rfl ?_
                    have h59 : tx q = 59 := by omega
                    rw [if_neg (by omega), if_pos (by omega), if_pos h59] at hr
                    rw [← hQ, ← hr]
                    refine ⟨rfl, (hO.set (by omega) (by omega)).set (by omega) (by omega), rfl, (by rw [wr_s, wr_o (by decide), hj]; rfl), fun i hi => ?_⟩
                    rw [wr_o (by decide)]
                    have hi : i < j + 1 := hi
                    by_cases e : i = j
                    · subst e; rw [wr_s]; simp [upN]
                    · rw [wr_n e, hnm i (by omega)]; simp [upN, e]
            · refine G_iload (pc := 74) dX6_readNumbers_74 rfl ?_
              refine G_bipush (pc := 76) dX6_readNumbers_76 (by decide) ?_
              refine G_icmp_ne (pc := 78) (tgt := 137) dX6_readNumbers_78 (Ri.mk (by omega) (by omega)) (Ri.mk (by omega) (by omega)) (by decide) (fun h_78 => ?_) (fun h_78 => ?_)
              · refine G_bipush (pc := 137) dX6_readNumbers_137 (by decide) ?_
                refine G_iret (pc := 139) dX6_readNumbers_139 rfl ?_
                rw [if_neg (by omega), if_neg (by omega)] at hr
                rw [← hQ, ← hr]
                exact ⟨rfl, hO, rfl⟩
              · refine G_iload (pc := 81) dX6_readNumbers_81 rfl ?_
                refine G_if_le (pc := 83) (tgt := 137) dX6_readNumbers_83 (Ri.mk (by omega) (by omega)) (by decide) (fun h_83 => ?_) (fun h_83 => ?_)
                · refine G_bipush (pc := 137) dX6_readNumbers_137 (by decide) ?_
                  refine G_iret (pc := 139) dX6_readNumbers_139 rfl ?_
                  rw [if_neg (by omega), if_neg (by omega)] at hr
                  rw [← hQ, ← hr]
                  exact ⟨rfl, hO, rfl⟩
                · refine G_aload_n (pc := 86) dX6_readNumbers_86 rfl ?_
                  refine G_geti (pc := 87) dX6_readNumbers_87 fiX6_49 (by first | rfl | assumption) (by omega) ?_
                  refine G_aload_n (pc := 90) dX6_readNumbers_90 rfl ?_
                  refine G_getr (pc := 91) dX6_readNumbers_91 fiX6_9 (by first | rfl | assumption) (by omega) (by first | rfl | assumption) ?_
                  refine G_alen (pc := 94) dX6_readNumbers_94 (by first | rfl | assumption) (by decide) (by omega) ?_
                  refine G_icmp_ge (pc := 95) (tgt := 137) dX6_readNumbers_95 (Ri.mk (by omega) (by omega)) (Ri.mk (by omega) (by omega)) (by decide) (fun h_95 => ?_) (fun h_95 => ?_)
                  · refine G_bipush (pc := 137) dX6_readNumbers_137 (by decide) ?_
                    refine G_iret (pc := 139) dX6_readNumbers_139 rfl ?_
                    rw [if_neg (by omega), if_neg (by omega)] at hr
                    rw [← hQ, ← hr]
                    exact ⟨rfl, hO, rfl⟩
                  · refine G_aload_n (pc := 98) dX6_readNumbers_98 rfl ?_
                    refine G_getr (pc := 99) dX6_readNumbers_99 fiX6_9 (by first | rfl | assumption) (by omega) (by first | rfl | assumption) ?_
                    refine G_aload_n (pc := 102) dX6_readNumbers_102 rfl ?_
                    refine G_geti (pc := 103) dX6_readNumbers_103 fiX6_49 (by first | rfl | assumption) (by omega) ?_
                    refine G_iload_n (pc := 106) dX6_readNumbers_106 rfl ?_
                    refine G_callS0 (pc := 107) (md := mdX11_put) (av := [_, _, _]) dX6_readNumbers_107 lkX6_52 mwX11_put (c_put 34 4 j _ _ rfl (by omega) (by omega) (by omega) hj) rfl rfl (Nat.le_of_ble_eq_true rfl) (by decide) ⟨Nat.zero_le _, Nat.zero_le _⟩ ?_
                    refine G_aload_n (pc := 110) dX6_readNumbers_110 rfl ?_
                    refine G_dup (pc := 111) dX6_readNumbers_111 rfl ?_
                    refine G_geti (pc := 112) dX6_readNumbers_112 fiX6_49 (by first | rfl | assumption) (by omega) ?_
                    refine G_iconst (pc := 115) dX6_readNumbers_115 ?_
                    refine G_iadd (pc := 116) dX6_readNumbers_116 ?_
                    refine G_puti (pc := 117) dX6_readNumbers_117 fiX6_49 (by first | rfl | assumption) (by omega) ?_
                    refine G_iconst (pc := 120) dX6_readNumbers_120 ?_
                    refine G_istore_n (pc := 121) (lv' := [_, _, _, _, _, _, _]) dX6_readNumbers_121 (by decide) rfl ?_
                    refine G_iconst (pc := 122) dX6_readNumbers_122 ?_
                    refine G_istore (pc := 123) (lv' := [_, _, _, _, _, _, _]) dX6_readNumbers_123 (by decide) rfl ?_
                    refine G_iload (pc := 125) dX6_readNumbers_125 rfl ?_
                    refine G_bipush (pc := 127) dX6_readNumbers_127 (by decide) ?_
                    refine G_icmp_ne (pc := 129) (tgt := 140) dX6_readNumbers_129 (Ri.mk (by omega) (by omega)) (Ri.mk (by omega) (by omega)) (by decide) (fun h_129 => ?_) (fun h_129 => ?_)
                    · refine G_iinc (pc := 140) (lv' := [_, _, _, _, _, _, _]) dX6_readNumbers_140 (by decide) rfl rfl ?_
                      refine G_goto (pc := 143) (tgt := 13) dX6_readNumbers_143 (by decide) ?_
                      first
                        | (rw [if_pos (by omega)] at hr
                           refine G_eq rfl rfl ?_ rfl (ih (q + 1) j (10 * v + (tx q - 48).toNat) (f + 1) nm I' (some (vi (tx q))) (by omega) (by omega) hO hj hnm hj4 (vB_up hv (by omega) (by omega)) hr)
                           rw [show (10 : Int) * (v : Int) + tx q - 48 = ((10 * v + (tx q - 48).toNat : Nat) : Int) by omega]; rfl)
                        | (rw [if_neg (by omega), if_pos (by omega), if_neg (by omega)] at hr
                           refine ih (q + 1) (j + 1) 0 0 (upN nm j v) _ _ (by omega) (by omega) ((hO.set (by omega) (by omega)).set (by omega) (by omega)) (by rw [wr_s, wr_o (by decide), hj]; rfl) (fun i hi => ?_) (by omega) (Or.inl ⟨rfl, rfl⟩) hr
                           rw [wr_o (by decide)]
                           by_cases e : i = j
                           · subst e; rw [wr_s]; simp [upN]
                           · rw [wr_n e, hnm i (by omega)]; simp [upN, e])
                    · refine G_iload (pc := 132) dX6_readNumbers_132 rfl ?_
                      refine G_iconst (pc := 134) dX6_readNumbers_134 ?_
                      refine G_iadd (pc := 135) dX6_readNumbers_135 ?_
                      refine G_iret (pc := 136) dX6_readNumbers_136 rfl ?_
                      have h59 : tx q = 59 := by omega
                      rw [if_neg (by omega), if_pos (by omega), if_pos h59] at hr
                      rw [← hQ, ← hr]
                      refine ⟨rfl, (hO.set (by omega) (by omega)).set (by omega) (by omega), rfl, (by rw [wr_s, wr_o (by decide), hj]; rfl), fun i hi => ?_⟩
                      rw [wr_o (by decide)]
                      have hi : i < j + 1 := hi
                      by_cases e : i = j
                      · subst e; rw [wr_s]; simp [upN]
                      · rw [wr_n e, hnm i (by omega)]; simp [upN, e]
          · refine G_iload (pc := 44) dX6_readNumbers_44 rfl ?_
            refine G_iconst (pc := 46) dX6_readNumbers_46 ?_
            refine G_icmp_ge (pc := 47) (tgt := 67) dX6_readNumbers_47 (Ri.mk (by omega) (by omega)) (Ri.mk (by omega) (by omega)) (by decide) (fun h_47 => ?_) (fun h_47 => ?_)
            · refine G_iload (pc := 67) dX6_readNumbers_67 rfl ?_
              refine G_bipush (pc := 69) dX6_readNumbers_69 (by decide) ?_
              refine G_icmp_eq (pc := 71) (tgt := 81) dX6_readNumbers_71 (Ri.mk (by omega) (by omega)) (Ri.mk (by omega) (by omega)) (by decide) (fun h_71 => ?_) (fun h_71 => ?_)
              · refine G_iload (pc := 81) dX6_readNumbers_81 rfl ?_
                refine G_if_le (pc := 83) (tgt := 137) dX6_readNumbers_83 (Ri.mk (by omega) (by omega)) (by decide) (fun h_83 => ?_) (fun h_83 => ?_)
                · refine G_bipush (pc := 137) dX6_readNumbers_137 (by decide) ?_
                  refine G_iret (pc := 139) dX6_readNumbers_139 rfl ?_
                  rw [if_neg (by omega), if_neg (by omega)] at hr
                  rw [← hQ, ← hr]
                  exact ⟨rfl, hO, rfl⟩
                · refine G_aload_n (pc := 86) dX6_readNumbers_86 rfl ?_
                  refine G_geti (pc := 87) dX6_readNumbers_87 fiX6_49 (by first | rfl | assumption) (by omega) ?_
                  refine G_aload_n (pc := 90) dX6_readNumbers_90 rfl ?_
                  refine G_getr (pc := 91) dX6_readNumbers_91 fiX6_9 (by first | rfl | assumption) (by omega) (by first | rfl | assumption) ?_
                  refine G_alen (pc := 94) dX6_readNumbers_94 (by first | rfl | assumption) (by decide) (by omega) ?_
                  refine G_icmp_ge (pc := 95) (tgt := 137) dX6_readNumbers_95 (Ri.mk (by omega) (by omega)) (Ri.mk (by omega) (by omega)) (by decide) (fun h_95 => ?_) (fun h_95 => ?_)
                  · refine G_bipush (pc := 137) dX6_readNumbers_137 (by decide) ?_
                    refine G_iret (pc := 139) dX6_readNumbers_139 rfl ?_
                    rw [if_neg (by omega), if_neg (by omega)] at hr
                    rw [← hQ, ← hr]
                    exact ⟨rfl, hO, rfl⟩
                  · refine G_aload_n (pc := 98) dX6_readNumbers_98 rfl ?_
                    refine G_getr (pc := 99) dX6_readNumbers_99 fiX6_9 (by first | rfl | assumption) (by omega) (by first | rfl | assumption) ?_
                    refine G_aload_n (pc := 102) dX6_readNumbers_102 rfl ?_
                    refine G_geti (pc := 103) dX6_readNumbers_103 fiX6_49 (by first | rfl | assumption) (by omega) ?_
                    refine G_iload_n (pc := 106) dX6_readNumbers_106 rfl ?_
                    refine G_callS0 (pc := 107) (md := mdX11_put) (av := [_, _, _]) dX6_readNumbers_107 lkX6_52 mwX11_put (c_put 34 4 j _ _ rfl (by omega) (by omega) (by omega) hj) rfl rfl (Nat.le_of_ble_eq_true rfl) (by decide) ⟨Nat.zero_le _, Nat.zero_le _⟩ ?_
                    refine G_aload_n (pc := 110) dX6_readNumbers_110 rfl ?_
                    refine G_dup (pc := 111) dX6_readNumbers_111 rfl ?_
                    refine G_geti (pc := 112) dX6_readNumbers_112 fiX6_49 (by first | rfl | assumption) (by omega) ?_
                    refine G_iconst (pc := 115) dX6_readNumbers_115 ?_
                    refine G_iadd (pc := 116) dX6_readNumbers_116 ?_
                    refine G_puti (pc := 117) dX6_readNumbers_117 fiX6_49 (by first | rfl | assumption) (by omega) ?_
                    refine G_iconst (pc := 120) dX6_readNumbers_120 ?_
                    refine G_istore_n (pc := 121) (lv' := [_, _, _, _, _, _, _]) dX6_readNumbers_121 (by decide) rfl ?_
                    refine G_iconst (pc := 122) dX6_readNumbers_122 ?_
                    refine G_istore (pc := 123) (lv' := [_, _, _, _, _, _, _]) dX6_readNumbers_123 (by decide) rfl ?_
                    refine G_iload (pc := 125) dX6_readNumbers_125 rfl ?_
                    refine G_bipush (pc := 127) dX6_readNumbers_127 (by decide) ?_
                    refine G_icmp_ne (pc := 129) (tgt := 140) dX6_readNumbers_129 (Ri.mk (by omega) (by omega)) (Ri.mk (by omega) (by omega)) (by decide) (fun h_129 => ?_) (fun h_129 => ?_)
                    · refine G_iinc (pc := 140) (lv' := [_, _, _, _, _, _, _]) dX6_readNumbers_140 (by decide) rfl rfl ?_
                      refine G_goto (pc := 143) (tgt := 13) dX6_readNumbers_143 (by decide) ?_
                      first
                        | (rw [if_pos (by omega)] at hr
                           refine G_eq rfl rfl ?_ rfl (ih (q + 1) j (10 * v + (tx q - 48).toNat) (f + 1) nm I' (some (vi (tx q))) (by omega) (by omega) hO hj hnm hj4 (vB_up hv (by omega) (by omega)) hr)
                           rw [show (10 : Int) * (v : Int) + tx q - 48 = ((10 * v + (tx q - 48).toNat : Nat) : Int) by omega]; rfl)
                        | (rw [if_neg (by omega), if_pos (by omega), if_neg (by omega)] at hr
                           refine ih (q + 1) (j + 1) 0 0 (upN nm j v) _ _ (by omega) (by omega) ((hO.set (by omega) (by omega)).set (by omega) (by omega)) (by rw [wr_s, wr_o (by decide), hj]; rfl) (fun i hi => ?_) (by omega) (Or.inl ⟨rfl, rfl⟩) hr
                           rw [wr_o (by decide)]
                           by_cases e : i = j
                           · subst e; rw [wr_s]; simp [upN]
                           · rw [wr_n e, hnm i (by omega)]; simp [upN, e])
                    · refine G_iload (pc := 132) dX6_readNumbers_132 rfl ?_
                      refine G_iconst (pc := 134) dX6_readNumbers_134 ?_
                      refine G_iadd (pc := 135) dX6_readNumbers_135 ?_
                      refine G_iret (pc := 136) dX6_readNumbers_136 rfl ?_
                      have h59 : tx q = 59 := by omega
                      rw [if_neg (by omega), if_pos (by omega), if_pos h59] at hr
                      rw [← hQ, ← hr]
                      refine ⟨rfl, (hO.set (by omega) (by omega)).set (by omega) (by omega), rfl, (by rw [wr_s, wr_o (by decide), hj]; rfl), fun i hi => ?_⟩
                      rw [wr_o (by decide)]
                      have hi : i < j + 1 := hi
                      by_cases e : i = j
                      · subst e; rw [wr_s]; simp [upN]
                      · rw [wr_n e, hnm i (by omega)]; simp [upN, e]
              · refine G_iload (pc := 74) dX6_readNumbers_74 rfl ?_
                refine G_bipush (pc := 76) dX6_readNumbers_76 (by decide) ?_
                refine G_icmp_ne (pc := 78) (tgt := 137) dX6_readNumbers_78 (Ri.mk (by omega) (by omega)) (Ri.mk (by omega) (by omega)) (by decide) (fun h_78 => ?_) (fun h_78 => ?_)
                · refine G_bipush (pc := 137) dX6_readNumbers_137 (by decide) ?_
                  refine G_iret (pc := 139) dX6_readNumbers_139 rfl ?_
                  rw [if_neg (by omega), if_neg (by omega)] at hr
                  rw [← hQ, ← hr]
                  exact ⟨rfl, hO, rfl⟩
                · refine G_iload (pc := 81) dX6_readNumbers_81 rfl ?_
                  refine G_if_le (pc := 83) (tgt := 137) dX6_readNumbers_83 (Ri.mk (by omega) (by omega)) (by decide) (fun h_83 => ?_) (fun h_83 => ?_)
                  · refine G_bipush (pc := 137) dX6_readNumbers_137 (by decide) ?_
                    refine G_iret (pc := 139) dX6_readNumbers_139 rfl ?_
                    rw [if_neg (by omega), if_neg (by omega)] at hr
                    rw [← hQ, ← hr]
                    exact ⟨rfl, hO, rfl⟩
                  · refine G_aload_n (pc := 86) dX6_readNumbers_86 rfl ?_
                    refine G_geti (pc := 87) dX6_readNumbers_87 fiX6_49 (by first | rfl | assumption) (by omega) ?_
                    refine G_aload_n (pc := 90) dX6_readNumbers_90 rfl ?_
                    refine G_getr (pc := 91) dX6_readNumbers_91 fiX6_9 (by first | rfl | assumption) (by omega) (by first | rfl | assumption) ?_
                    refine G_alen (pc := 94) dX6_readNumbers_94 (by first | rfl | assumption) (by decide) (by omega) ?_
                    refine G_icmp_ge (pc := 95) (tgt := 137) dX6_readNumbers_95 (Ri.mk (by omega) (by omega)) (Ri.mk (by omega) (by omega)) (by decide) (fun h_95 => ?_) (fun h_95 => ?_)
                    · refine G_bipush (pc := 137) dX6_readNumbers_137 (by decide) ?_
                      refine G_iret (pc := 139) dX6_readNumbers_139 rfl ?_
                      rw [if_neg (by omega), if_neg (by omega)] at hr
                      rw [← hQ, ← hr]
                      exact ⟨rfl, hO, rfl⟩
                    · refine G_aload_n (pc := 98) dX6_readNumbers_98 rfl ?_
                      refine G_getr (pc := 99) dX6_readNumbers_99 fiX6_9 (by first | rfl | assumption) (by omega) (by first | rfl | assumption) ?_
                      refine G_aload_n (pc := 102) dX6_readNumbers_102 rfl ?_
                      refine G_geti (pc := 103) dX6_readNumbers_103 fiX6_49 (by first | rfl | assumption) (by omega) ?_
                      refine G_iload_n (pc := 106) dX6_readNumbers_106 rfl ?_
                      refine G_callS0 (pc := 107) (md := mdX11_put) (av := [_, _, _]) dX6_readNumbers_107 lkX6_52 mwX11_put (c_put 34 4 j _ _ rfl (by omega) (by omega) (by omega) hj) rfl rfl (Nat.le_of_ble_eq_true rfl) (by decide) ⟨Nat.zero_le _, Nat.zero_le _⟩ ?_
                      refine G_aload_n (pc := 110) dX6_readNumbers_110 rfl ?_
                      refine G_dup (pc := 111) dX6_readNumbers_111 rfl ?_
                      refine G_geti (pc := 112) dX6_readNumbers_112 fiX6_49 (by first | rfl | assumption) (by omega) ?_
                      refine G_iconst (pc := 115) dX6_readNumbers_115 ?_
                      refine G_iadd (pc := 116) dX6_readNumbers_116 ?_
                      refine G_puti (pc := 117) dX6_readNumbers_117 fiX6_49 (by first | rfl | assumption) (by omega) ?_
                      refine G_iconst (pc := 120) dX6_readNumbers_120 ?_
                      refine G_istore_n (pc := 121) (lv' := [_, _, _, _, _, _, _]) dX6_readNumbers_121 (by decide) rfl ?_
                      refine G_iconst (pc := 122) dX6_readNumbers_122 ?_
                      refine G_istore (pc := 123) (lv' := [_, _, _, _, _, _, _]) dX6_readNumbers_123 (by decide) rfl ?_
                      refine G_iload (pc := 125) dX6_readNumbers_125 rfl ?_
                      refine G_bipush (pc := 127) dX6_readNumbers_127 (by decide) ?_
                      refine G_icmp_ne (pc := 129) (tgt := 140) dX6_readNumbers_129 (Ri.mk (by omega) (by omega)) (Ri.mk (by omega) (by omega)) (by decide) (fun h_129 => ?_) (fun h_129 => ?_)
                      · refine G_iinc (pc := 140) (lv' := [_, _, _, _, _, _, _]) dX6_readNumbers_140 (by decide) rfl rfl ?_
                        refine G_goto (pc := 143) (tgt := 13) dX6_readNumbers_143 (by decide) ?_
                        first
                          | (rw [if_pos (by omega)] at hr
                             refine G_eq rfl rfl ?_ rfl (ih (q + 1) j (10 * v + (tx q - 48).toNat) (f + 1) nm I' (some (vi (tx q))) (by omega) (by omega) hO hj hnm hj4 (vB_up hv (by omega) (by omega)) hr)
                             rw [show (10 : Int) * (v : Int) + tx q - 48 = ((10 * v + (tx q - 48).toNat : Nat) : Int) by omega]; rfl)
                          | (rw [if_neg (by omega), if_pos (by omega), if_neg (by omega)] at hr
                             refine ih (q + 1) (j + 1) 0 0 (upN nm j v) _ _ (by omega) (by omega) ((hO.set (by omega) (by omega)).set (by omega) (by omega)) (by rw [wr_s, wr_o (by decide), hj]; rfl) (fun i hi => ?_) (by omega) (Or.inl ⟨rfl, rfl⟩) hr
                             rw [wr_o (by decide)]
                             by_cases e : i = j
                             · subst e; rw [wr_s]; simp [upN]
                             · rw [wr_n e, hnm i (by omega)]; simp [upN, e])
                      · refine G_iload (pc := 132) dX6_readNumbers_132 rfl ?_
                        refine G_iconst (pc := 134) dX6_readNumbers_134 ?_
                        refine G_iadd (pc := 135) dX6_readNumbers_135 ?_
                        refine G_iret (pc := 136) dX6_readNumbers_136 rfl ?_
                        have h59 : tx q = 59 := by omega
                        rw [if_neg (by omega), if_pos (by omega), if_pos h59] at hr
                        rw [← hQ, ← hr]
                        refine ⟨rfl, (hO.set (by omega) (by omega)).set (by omega) (by omega), rfl, (by rw [wr_s, wr_o (by decide), hj]; rfl), fun i hi => ?_⟩
                        rw [wr_o (by decide)]
                        have hi : i < j + 1 := hi
                        by_cases e : i = j
                        · subst e; rw [wr_s]; simp [upN]
                        · rw [wr_n e, hnm i (by omega)]; simp [upN, e]
            · refine G_bipush (pc := 50) dX6_readNumbers_50 (by decide) ?_
              refine G_iload_n (pc := 52) dX6_readNumbers_52 rfl ?_
              refine G_imul (pc := 53) dX6_readNumbers_53 ?_
              refine G_iload (pc := 54) dX6_readNumbers_54 rfl ?_
              refine G_iadd (pc := 56) dX6_readNumbers_56 ?_
              refine G_bipush (pc := 57) dX6_readNumbers_57 (by decide) ?_
              refine G_isub (pc := 59) dX6_readNumbers_59 ?_
              refine G_istore_n (pc := 60) (lv' := [_, _, _, _, _, _, _]) dX6_readNumbers_60 (by decide) rfl ?_
              refine G_iinc (pc := 61) (lv' := [_, _, _, _, _, _, _]) dX6_readNumbers_61 (by decide) rfl rfl ?_
              refine G_goto (pc := 64) (tgt := 140) dX6_readNumbers_64 (by decide) ?_
              refine G_iinc (pc := 140) (lv' := [_, _, _, _, _, _, _]) dX6_readNumbers_140 (by decide) rfl rfl ?_
              refine G_goto (pc := 143) (tgt := 13) dX6_readNumbers_143 (by decide) ?_
              first
                | (rw [if_pos (by omega)] at hr
                   refine G_eq rfl rfl ?_ rfl (ih (q + 1) j (10 * v + (tx q - 48).toNat) (f + 1) nm I' (some (vi (tx q))) (by omega) (by omega) hO hj hnm hj4 (vB_up hv (by omega) (by omega)) hr)
                   rw [show (10 : Int) * (v : Int) + tx q - 48 = ((10 * v + (tx q - 48).toNat : Nat) : Int) by omega]; rfl)
                | (rw [if_neg (by omega), if_pos (by omega), if_neg (by omega)] at hr
                   refine ih (q + 1) (j + 1) 0 0 (upN nm j v) _ _ (by omega) (by omega) ((hO.set (by omega) (by omega)).set (by omega) (by omega)) (by rw [wr_s, wr_o (by decide), hj]; rfl) (fun i hi => ?_) (by omega) (Or.inl ⟨rfl, rfl⟩) hr
                   rw [wr_o (by decide)]
                   by_cases e : i = j
                   · subst e; rw [wr_s]; simp [upN]
                   · rw [wr_n e, hnm i (by omega)]; simp [upN, e])
  refine G_aload_n (pc := 0) dX6_readNumbers_0 rfl ?_
  refine G_iconst (pc := 1) dX6_readNumbers_1 ?_
  refine G_puti (pc := 2) dX6_readNumbers_2 fiX6_49 (by first | rfl | assumption) (by omega) ?_
  refine G_iconst (pc := 5) dX6_readNumbers_5 ?_
  refine G_istore_n (pc := 6) (lv' := [_, _, _, _, _, _, _]) dX6_readNumbers_6 (by decide) rfl ?_
  refine G_iconst (pc := 7) dX6_readNumbers_7 ?_
  refine G_istore (pc := 8) (lv' := [_, _, _, _, _, _, _]) dX6_readNumbers_8 (by decide) rfl ?_
  refine G_iload_n (pc := 10) dX6_readNumbers_10 rfl ?_
  refine G_istore (pc := 11) (lv' := [_, _, _, _, _, _, _]) dX6_readNumbers_11 (by decide) rfl ?_
  exact loop (n - p) p 0 0 0 (fun _ => 0) _ _ rfl hp (Off.rfl.set (q := 33) (i := 3) (a := 0) (by omega) (by omega)) (by rw [wr_s]; rfl) (fun i hi => absurd hi (Nat.not_lt_zero _)) (by omega) (Or.inl ⟨rfl, rfl⟩) hres.symm
