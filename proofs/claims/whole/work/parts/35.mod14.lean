/-! THE REFERENCE READS ITEM BY ITEM -/
theorem bI_N {α : Type} : bI ((none : Option α).isSome = true) = 0 := bI_f (fun z => by cases z)
def ItI (tx : Nat → Int) (n p k q : Nat) (nm : Nat → Nat) : Prop := q ≤ n ∧ p < q ∧ (∀ i, nm i ≤ 999) ∧ rdM tx (n - (p + 1)) (p + 1) 0 (fun _ => 0) 0 0 = (if q < n ∧ tx q = 59 then some (k, nm, q + 1) else if q < n ∧ tx q = 44 then rdM tx (n - (q + 1)) (q + 1) k nm 0 0 else none)
theorem itD_n {tx : Nat → Int} {n p : Nat} {D : DS} {x : DS × Nat} (hp : p < n) (h : itD tx n p D = some x) : x.2 ≤ n := by
  cases hr : rdM tx (n - (p + 1)) (p + 1) 0 (fun _ => 0) 0 0 with
  | none => rw [itD_none hr] at h; cases h
  | some y =>
    have hb := rdM_B _ _ _ _ _ _ (Or.inl ⟨rfl, rfl⟩) (fun _ => Nat.zero_le _) (by omega) y hr
    cases ht : takeD (tx p) y.1 y.2.1 D with
    | none => rw [itD_no hr ht] at h; cases h
    | some D' =>
      rw [itD_yes hr ht] at h
      cases h
      show y.2.2 ≤ n
      omega
section MOD14
variable {E : EV} {M : Nat} {I J : Nat → Nat → Int} {n : Nat} {tx : Nat → Int} {D : DS}
theorem m_isItem (p : Nat) (hM : 87 ≤ M) (hX : XM I n tx) (hn : n ≤ 400) (htx : ∀ i, -128 ≤ tx i ∧ tx i ≤ 127) (hp : p < n) (h2 : I 71 2 = p) (hP : PD I D) (hD : DB D) : FnQ E mdX12_isItem 2 M Rf [vr E 71] I J (fun v I' J' => v = some (vi (bI ((itD tx n p D).isSome = true))) ∧ J' = J ∧ OffP I I' ∧ ∀ x, itD tx n p D = some x → PD I' x.1 ∧ I' 71 2 = (x.2 : Nat)) := by
  obtain ⟨c, hc⟩ : ∃ c, c = ptN (tx p) := ⟨_, rfl⟩
  have hc4 : c ≤ 4 := by rw [hc]; exact ptN_le _
  have htp := htx p
  refine FnQ.of (by decide +kernel) (Nat.le_of_ble_eq_true rfl) ?_
  show GM E mdX12_isItem 2 M Rf _ I J 0 [some (vr E 71), none, none, none, none] []
  generalize hQ : (fun (v : Option Value) (I' J' : Nat → Nat → Int) => v = some (vi (bI ((itD tx n p D).isSome = true))) ∧ J' = J ∧ OffP I I' ∧ ∀ x, itD tx n p D = some x → PD I' x.1 ∧ I' 71 2 = (x.2 : Nat)) = Q
  have E0 : ∀ (k : Nat) (I' : Nat → Nat → Int), itD tx n p D = none → k ≤ 5 → OffP I I' → GM E mdX12_isItem 2 M Rf Q I' J 38 [some (vr E 71), some (vi (tx p)), some (vi (c : Int)), some (vi 0), some (vi (k : Int))] [] := by
    intro k I' hno hk hO
    refine G_iload (pc := 38) dX12_isItem_38 rfl ?_
    refine G_iload_n (pc := 40) dX12_isItem_40 rfl ?_
    refine G_icmp_ge (pc := 41) (tgt := 144) dX12_isItem_41 (Ri.mk (by omega) (by omega)) (Ri.mk (by omega) (by omega)) (by decide) (fun h_41 => ?_) (fun h_41 => ?_)
    · refine G_iload_n (pc := 144) dX12_isItem_144 rfl ?_
      refine G_if_eq (pc := 145) (tgt := 177) dX12_isItem_145 (Ri.mk (by omega) (by omega)) (by decide) (fun h_145 => ?_) (fun h_145 => ?_)
      · try simp only [bI_eq0, bI_ne0] at h_145
        refine G_iconst (pc := 177) dX12_isItem_177 ?_
        refine G_istore_n (pc := 178) (lv' := [_, _, _, _, _]) dX12_isItem_178 (by decide) rfl ?_
        refine G_aload_n (pc := 179) dX12_isItem_179 rfl ?_
        refine G_dup (pc := 180) dX12_isItem_180 rfl ?_
        refine G_geti (pc := 181) dX12_isItem_181 fiX12_74 (by first | rfl | assumption) (by omega) ?_
        refine G_iconst (pc := 184) dX12_isItem_184 ?_
        refine G_iadd (pc := 185) dX12_isItem_185 ?_
        refine G_puti (pc := 186) dX12_isItem_186 fiX12_74 (by first | rfl | assumption) (by omega) ?_
        refine G_iload_n (pc := 189) dX12_isItem_189 rfl ?_
        refine G_if_eq (pc := 190) (tgt := 205) dX12_isItem_190 (Ri.mk (by omega) (by omega)) (by decide) (fun h_190 => ?_) (fun h_190 => ?_)
        · try simp only [bI_eq0, bI_ne0] at h_190
          refine G_iconst (pc := 205) dX12_isItem_205 ?_
          refine G_zret (pc := 206) dX12_isItem_206 rfl (by omega) ?_
          rw [← hQ]; exact ⟨by rw [hno, bI_N], rfl, hO.w (by decide), fun x hx => by rw [hno] at hx; cases hx⟩
        · exact absurd rfl h_190
      · exact absurd rfl h_145
    · refine G_iload_n (pc := 44) dX12_isItem_44 rfl ?_
      refine G_if_eq (pc := 45) (tgt := 144) dX12_isItem_45 (Ri.mk (by omega) (by omega)) (by decide) (fun h_45 => ?_) (fun h_45 => ?_)
      · try simp only [bI_eq0, bI_ne0] at h_45
        refine G_iload_n (pc := 144) dX12_isItem_144 rfl ?_
        refine G_if_eq (pc := 145) (tgt := 177) dX12_isItem_145 (Ri.mk (by omega) (by omega)) (by decide) (fun h_145 => ?_) (fun h_145 => ?_)
        · try simp only [bI_eq0, bI_ne0] at h_145
          refine G_iconst (pc := 177) dX12_isItem_177 ?_
          refine G_istore_n (pc := 178) (lv' := [_, _, _, _, _]) dX12_isItem_178 (by decide) rfl ?_
          refine G_aload_n (pc := 179) dX12_isItem_179 rfl ?_
          refine G_dup (pc := 180) dX12_isItem_180 rfl ?_
          refine G_geti (pc := 181) dX12_isItem_181 fiX12_74 (by first | rfl | assumption) (by omega) ?_
          refine G_iconst (pc := 184) dX12_isItem_184 ?_
          refine G_iadd (pc := 185) dX12_isItem_185 ?_
          refine G_puti (pc := 186) dX12_isItem_186 fiX12_74 (by first | rfl | assumption) (by omega) ?_
          refine G_iload_n (pc := 189) dX12_isItem_189 rfl ?_
          refine G_if_eq (pc := 190) (tgt := 205) dX12_isItem_190 (Ri.mk (by omega) (by omega)) (by decide) (fun h_190 => ?_) (fun h_190 => ?_)
          · try simp only [bI_eq0, bI_ne0] at h_190
            refine G_iconst (pc := 205) dX12_isItem_205 ?_
            refine G_zret (pc := 206) dX12_isItem_206 rfl (by omega) ?_
            rw [← hQ]; exact ⟨by rw [hno, bI_N], rfl, hO.w (by decide), fun x hx => by rw [hno] at hx; cases hx⟩
          · exact absurd rfl h_190
        · exact absurd rfl h_145
      · exact absurd rfl h_45
  have B0 : ∀ (k : Nat) (I' : Nat → Nat → Int), itD tx n p D = none → k < 4 → OffP I I' → GM E mdX12_isItem 2 M Rf Q I' J 103 [some (vr E 71), some (vi (tx p)), some (vi (c : Int)), some (vi 0), some (vi (k : Int))] [] := by
    intro k I' hno hk hO
    refine G_aload_n (pc := 103) dX12_isItem_103 rfl ?_
    refine G_getr (pc := 104) dX12_isItem_104 fiX12_55 (by first | rfl | assumption) (by omega) (by first | rfl | assumption) ?_
    refine G_iload (pc := 107) dX12_isItem_107 rfl ?_
    refine G_iload_n (pc := 109) dX12_isItem_109 rfl ?_
    refine G_if_eq (pc := 110) (tgt := 120) dX12_isItem_110 (Ri.mk (by omega) (by omega)) (by decide) (fun h_110 => ?_) (fun h_110 => ?_)
    · try simp only [bI_eq0, bI_ne0] at h_110
      refine G_iconst (pc := 120) dX12_isItem_120 ?_
      refine G_iast (pc := 121) dX12_isItem_121 (by first | rfl | assumption) (by omega) (by omega) (by omega) (by omega) ?_
      refine G_aload_n (pc := 122) dX12_isItem_122 rfl ?_
      refine G_getr (pc := 123) dX12_isItem_123 fiX12_55 (by first | rfl | assumption) (by omega) (by first | rfl | assumption) ?_
      refine G_iload (pc := 126) dX12_isItem_126 rfl ?_
      refine G_ialdv (pc := 128) dX12_isItem_128 (by first | rfl | assumption) (by omega) (by omega) (by omega) (by omega) (wr_s) ?_
      refine G_if_lt (pc := 129) (tgt := 136) dX12_isItem_129 (Ri.mk (by omega) (by omega)) (by decide) (fun h_129 => ?_) (fun h_129 => ?_)
      · refine G_iconst (pc := 136) dX12_isItem_136 ?_
        refine G_istore_n (pc := 137) (lv' := [_, _, _, _, _]) dX12_isItem_137 (by decide) rfl ?_
        refine G_iinc (pc := 138) (lv' := [_, _, _, _, _]) dX12_isItem_138 (by decide) rfl rfl ?_
        refine G_goto (pc := 141) (tgt := 38) dX12_isItem_141 (by decide) ?_
        exact E0 (k + 1) _ hno (by omega) (hO.w (by omega))
      · exact absurd h_129 (by omega)
    · exact absurd rfl h_110
  have B1of : ∀ (r : Nat), (∀ (k q : Nat) (nm : Nat → Nat) (I' : Nat → Nat → Int), k + r = c → 1 ≤ k → ItI tx n p k q nm → OffP I I' → PD I' D → I' 71 2 = q → (∀ i, i < k → I' 86 i = nm i) → GM E mdX12_isItem 2 M Rf Q I' J 38 [some (vr E 71), some (vi (tx p)), some (vi (c : Int)), some (vi 1), some (vi (k : Int))] []) →
      ∀ (k q : Nat) (nm : Nat → Nat) (I' : Nat → Nat → Int), k + (r + 1) = c → q ≤ n → p < q → (∀ i, nm i ≤ 999) → rdM tx (n - (p + 1)) (p + 1) 0 (fun _ => 0) 0 0 = rdM tx (n - q) q k nm 0 0 → OffP I I' → PD I' D → I' 71 2 = q → (∀ i, i < k → I' 86 i = nm i) → GM E mdX12_isItem 2 M Rf Q I' J 103 [some (vr E 71), some (vi (tx p)), some (vi (c : Int)), some (vi 1), some (vi (k : Int))] [] := by
    intro r hL k q nm I' hk hq hpq h9 hr hO hP' h2' hg
    have hX' := hO.x hX
    have hB := nuM_B (tx := tx) (n - q) q 0 0 (Or.inl ⟨rfl, rfl⟩)
    have hru := hr.trans (rd_nu (tx := tx) (n := n) (j := k) (nm := nm) (by omega) (n - q) q 0 0 (by omega) (by omega))
    obtain ⟨⟨v', f', q'⟩, hN⟩ : ∃ N, N = nuM tx (n - q) q 0 0 := ⟨_, rfl⟩
    rw [← hN] at hB hru
    have hB : v' ≤ 999 ∧ q ≤ q' ∧ q' ≤ q + (n - q) := hB
    have hru : rdM tx (n - (p + 1)) (p + 1) 0 (fun _ => 0) 0 0 = if f' ≤ 3 ∧ 0 < f' then (if q' < n ∧ tx q' = 59 then some (k + 1, upN nm k v', q' + 1) else if q' < n ∧ tx q' = 44 then rdM tx (n - (q' + 1)) (q' + 1) (k + 1) (upN nm k v') 0 0 else none) else none := hru
    obtain ⟨a, ea⟩ : ∃ a : Int, a = if 1 ≤ f' ∧ f' ≤ 3 then (v' : Int) else -1 := ⟨_, rfl⟩
    have ha : (1 ≤ f' ∧ f' ≤ 3 ∧ a = v') ∨ (¬ (1 ≤ f' ∧ f' ≤ 3) ∧ a = -1) := by
      by_cases h : 1 ≤ f' ∧ f' ≤ 3
      · left; exact ⟨h.1, h.2, by rw [ea, if_pos h]⟩
      · right; exact ⟨h, by rw [ea, if_neg h]⟩
    refine G_aload_n (pc := 103) dX12_isItem_103 rfl ?_
    refine G_getr (pc := 104) dX12_isItem_104 fiX12_55 (by first | rfl | assumption) (by omega) (by first | rfl | assumption) ?_
    refine G_iload (pc := 107) dX12_isItem_107 rfl ?_
    refine G_iload_n (pc := 109) dX12_isItem_109 rfl ?_
    refine G_if_eq (pc := 110) (tgt := 120) dX12_isItem_110 (Ri.mk (by omega) (by omega)) (by decide) (fun h_110 => ?_) (fun h_110 => ?_)
    · exact absurd h_110 (by decide)
    · try simp only [bI_eq0, bI_ne0] at h_110
      refine G_aload_n (pc := 113) dX12_isItem_113 rfl ?_
      refine G_callV (pc := 114) (md := mdX12_number) (av := []) dX12_isItem_114 lkX12_87 mwX12_number (m_number q hM hX' hn htx hq h2') rfl (by first | rfl | assumption) (by omega) rfl rfl (Nat.le_of_ble_eq_true rfl) (by decide) ⟨Nat.zero_le _, Nat.zero_le _⟩ ?_
      rintro v I2 J2 ⟨rfl, rfl, hOA, h2n⟩
      rw [← hN] at h2n ⊢
      have h2n : I2 71 2 = (q' : Nat) := h2n
      rw [show (if 1 ≤ (v', f', q').2.1 ∧ (v', f', q').2.1 ≤ 3 then ((v', f', q').1 : Int) else -1) = a from ea.symm]
      have hP2 : PD I2 D := hP'.off (hOA.2 7 (by decide)) (fun q a b => hOA.1 q (by omega))
      refine G_goto (pc := 117) (tgt := 121) dX12_isItem_117 (by decide) ?_
      refine G_iast (pc := 121) dX12_isItem_121 (by first | rfl | assumption) (by omega) (by omega) (by omega) (by omega) ?_
      refine G_aload_n (pc := 122) dX12_isItem_122 rfl ?_
      refine G_getr (pc := 123) dX12_isItem_123 fiX12_55 (by first | rfl | assumption) (by omega) (by first | rfl | assumption) ?_
      refine G_iload (pc := 126) dX12_isItem_126 rfl ?_
      refine G_ialdv (pc := 128) dX12_isItem_128 (by first | rfl | assumption) (by omega) (by omega) (by omega) (by omega) (wr_s) ?_
      refine G_if_lt (pc := 129) (tgt := 136) dX12_isItem_129 (Ri.mk (by omega) (by omega)) (by decide) (fun h_129 => ?_) (fun h_129 => ?_)
      · refine G_iconst (pc := 136) dX12_isItem_136 ?_
        refine G_istore_n (pc := 137) (lv' := [_, _, _, _, _]) dX12_isItem_137 (by decide) rfl ?_
        refine G_iinc (pc := 138) (lv' := [_, _, _, _, _]) dX12_isItem_138 (by decide) rfl rfl ?_
        refine G_goto (pc := 141) (tgt := 38) dX12_isItem_141 (by decide) ?_
        rw [Int.toNat_natCast]
        first
          | exact E0 (k + 1) _ (itD_none (by rw [hru, if_neg (by omega)])) (by omega) ((hO.trans hOA.p).w (by omega))
          | (refine hL (k + 1) q' (upN nm k v') _ (by omega) (by omega) ⟨by omega, by omega, fun i => ?_, by rw [hru, if_pos (by omega)]⟩ ((hO.trans hOA.p).w (by omega)) (hP2.off (by rw [wr_o (by decide)]) (fun q a b => wr_o (by omega))) (by rw [wr_o (by decide)]; exact h2n) (fun i hi => ?_)
             · unfold upN; split
               · omega
               · exact h9 i
             · by_cases e : i = k
               · subst e; rw [wr_s, show upN nm i v' i = v' by simp [upN]]; omega
               · rw [wr_n e, hOA.1 86 (by decide), hg i (by omega)]; simp [upN, e])
      · refine G_iconst (pc := 132) dX12_isItem_132 ?_
        refine G_goto (pc := 133) (tgt := 137) dX12_isItem_133 (by decide) ?_
        refine G_istore_n (pc := 137) (lv' := [_, _, _, _, _]) dX12_isItem_137 (by decide) rfl ?_
        refine G_iinc (pc := 138) (lv' := [_, _, _, _, _]) dX12_isItem_138 (by decide) rfl rfl ?_
        refine G_goto (pc := 141) (tgt := 38) dX12_isItem_141 (by decide) ?_
        rw [Int.toNat_natCast]
        first
          | exact E0 (k + 1) _ (itD_none (by rw [hru, if_neg (by omega)])) (by omega) ((hO.trans hOA.p).w (by omega))
          | (refine hL (k + 1) q' (upN nm k v') _ (by omega) (by omega) ⟨by omega, by omega, fun i => ?_, by rw [hru, if_pos (by omega)]⟩ ((hO.trans hOA.p).w (by omega)) (hP2.off (by rw [wr_o (by decide)]) (fun q a b => wr_o (by omega))) (by rw [wr_o (by decide)]; exact h2n) (fun i hi => ?_)
             · unfold upN; split
               · omega
               · exact h9 i
             · by_cases e : i = k
               · subst e; rw [wr_s, show upN nm i v' i = v' by simp [upN]]; omega
               · rw [wr_n e, hOA.1 86 (by decide), hg i (by omega)]; simp [upN, e])
  have L1 : ∀ (r k q : Nat) (nm : Nat → Nat) (I' : Nat → Nat → Int), k + r = c → 1 ≤ k → ItI tx n p k q nm → OffP I I' → PD I' D → I' 71 2 = q → (∀ i, i < k → I' 86 i = nm i) → GM E mdX12_isItem 2 M Rf Q I' J 38 [some (vr E 71), some (vi (tx p)), some (vi (c : Int)), some (vi 1), some (vi (k : Int))] [] := by
    intro r
    induction r with
    | zero =>
      intro k q nm I' hk h1 hI hO hP' h2' hg
      obtain ⟨i1, i2, i3, i4⟩ := hI
      have hX' := hO.x hX
      have hkc : k = ptN (tx p) := by omega
      have hl := ptN_l (l := tx p) (by omega)
      have hfail : ¬ (q < n ∧ tx q = 59) → itD tx n p D = none := fun hne => by
        rw [if_neg hne] at i4
        by_cases h44 : q < n ∧ tx q = 44
        · rw [if_pos h44] at i4
          cases hx : rdM tx (n - (q + 1)) (q + 1) k nm 0 0 with
          | none => exact itD_none (i4.trans hx)
          | some x =>
            have := rdM_j _ _ _ _ _ _ x hx
            exact itD_ne (i4.trans hx) (by omega)
        · rw [if_neg h44] at i4; exact itD_none i4
      have hP2 : ∀ a, PD (wr I' 71 2 a) D := fun a => hP'.off (wr_n (by decide)) (fun q _ b => wr_o (by omega))
      have hg2 : ∀ a i, i < c → wr I' 71 2 a 86 i = nm i := fun a i hi => by rw [wr_o (by decide)]; exact hg i (by omega)
      have hb : q < n → I' 72 ((q : Int)).toNat = tx q := fun h => by rw [Int.toNat_natCast]; exact hX'.2 q h
      have htq := htx q
      refine G_iload (pc := 38) dX12_isItem_38 rfl ?_
      refine G_iload_n (pc := 40) dX12_isItem_40 rfl ?_
      refine G_icmp_ge (pc := 41) (tgt := 144) dX12_isItem_41 (Ri.mk (by omega) (by omega)) (Ri.mk (by omega) (by omega)) (by decide) (fun h_41 => ?_) (fun h_41 => ?_)
      · refine G_iload_n (pc := 144) dX12_isItem_144 rfl ?_
        refine G_if_eq (pc := 145) (tgt := 177) dX12_isItem_145 (Ri.mk (by omega) (by omega)) (by decide) (fun h_145 => ?_) (fun h_145 => ?_)
        · exact absurd h_145 (by decide)
        · try simp only [bI_eq0, bI_ne0] at h_145
          refine G_aload_n (pc := 148) dX12_isItem_148 rfl ?_
          refine G_getiv (pc := 149) dX12_isItem_149 fiX12_74 (by first | rfl | assumption) (by omega) (h2') ?_
          refine G_aload_n (pc := 152) dX12_isItem_152 rfl ?_
          refine G_getiv (pc := 153) dX12_isItem_153 fiX12_70 (by first | rfl | assumption) (by omega) (hX'.1) ?_
          refine G_icmp_ge (pc := 156) (tgt := 177) dX12_isItem_156 (Ri.mk (by omega) (by omega)) (Ri.mk (by omega) (by omega)) (by decide) (fun h_156 => ?_) (fun h_156 => ?_)
          · refine G_iconst (pc := 177) dX12_isItem_177 ?_
            refine G_istore_n (pc := 178) (lv' := [_, _, _, _, _]) dX12_isItem_178 (by decide) rfl ?_
            refine G_aload_n (pc := 179) dX12_isItem_179 rfl ?_
            refine G_dup (pc := 180) dX12_isItem_180 rfl ?_
            refine G_getiv (pc := 181) dX12_isItem_181 fiX12_74 (by first | rfl | assumption) (by omega) (h2') ?_
            refine G_iconst (pc := 184) dX12_isItem_184 ?_
            refine G_iadd (pc := 185) dX12_isItem_185 ?_
            refine G_puti (pc := 186) dX12_isItem_186 fiX12_74 (by first | rfl | assumption) (by omega) ?_
            refine G_iload_n (pc := 189) dX12_isItem_189 rfl ?_
            refine G_if_eq (pc := 190) (tgt := 205) dX12_isItem_190 (Ri.mk (by omega) (by omega)) (by decide) (fun h_190 => ?_) (fun h_190 => ?_)
            · try simp only [bI_eq0, bI_ne0] at h_190
              refine G_iconst (pc := 205) dX12_isItem_205 ?_
              refine G_zret (pc := 206) dX12_isItem_206 rfl (by omega) ?_
              first
                | (exfalso; omega)
                | (have hno := hfail (by omega)
                   rw [← hQ]; exact ⟨by rw [hno, bI_N], rfl, hO.w (by decide), fun x hx => by rw [hno] at hx; cases hx⟩)
                | (rw [if_pos (show q < n ∧ tx q = 59 by omega)] at i4
                   have htk := oN h_198
                   have hno := itD_no i4 (by rw [show c = k by omega] at htk; exact htk)
                   rw [← hQ]; exact ⟨by rw [hno, bI_N], rfl, (hO.w (by decide)).trans hO2, fun x hx => by rw [hno] at hx; cases hx⟩)
                | (rw [if_pos (show q < n ∧ tx q = 59 by omega)] at i4
                   obtain ⟨D', hD'⟩ := oS h_198
                   have hy := itD_yes (D' := D') i4 (by rw [show c = k by omega] at hD'; exact hD')
                   rw [← hQ]; exact ⟨by rw [hy, bI_S], rfl, (hO.w (by decide)).trans hO2, fun x hx => by rw [hy] at hx; cases hx; exact ⟨hPD2 D' hD', h22.trans wr_s⟩⟩)
            · try simp only [bI_eq0, bI_ne0] at h_190
              refine G_aload_n (pc := 193) dX12_isItem_193 rfl ?_
              refine G_iload_n (pc := 194) dX12_isItem_194 rfl ?_
              refine G_callV (pc := 195) (md := mdX12_isGood) (av := [_]) dX12_isItem_195 lkX12_91 mwX12_isGood (m_isGood (nm := nm) (D := D) (tx p) c hl hc hM (hP2 _) hD i3 (hg2 _)) rfl (by first | rfl | assumption) (by omega) rfl rfl (Nat.le_of_ble_eq_true rfl) (by decide) ⟨Nat.zero_le _, Nat.zero_le _⟩ ?_
              rintro v I2 J2 ⟨rfl, rfl, hO2, h22, hPD2⟩
              refine G_if_eq (pc := 198) (tgt := 205) dX12_isItem_198 bI_R (by decide) (fun h_198 => ?_) (fun h_198 => ?_)
              · try simp only [bI_eq0, bI_ne0] at h_198
                refine G_iconst (pc := 205) dX12_isItem_205 ?_
                refine G_zret (pc := 206) dX12_isItem_206 rfl (by omega) ?_
                first
                  | (exfalso; omega)
                  | (have hno := hfail (by omega)
                     rw [← hQ]; exact ⟨by rw [hno, bI_N], rfl, hO.w (by decide), fun x hx => by rw [hno] at hx; cases hx⟩)
                  | (rw [if_pos (show q < n ∧ tx q = 59 by omega)] at i4
                     have htk := oN h_198
                     have hno := itD_no i4 (by rw [show c = k by omega] at htk; exact htk)
                     rw [← hQ]; exact ⟨by rw [hno, bI_N], rfl, (hO.w (by decide)).trans hO2, fun x hx => by rw [hno] at hx; cases hx⟩)
                  | (rw [if_pos (show q < n ∧ tx q = 59 by omega)] at i4
                     obtain ⟨D', hD'⟩ := oS h_198
                     have hy := itD_yes (D' := D') i4 (by rw [show c = k by omega] at hD'; exact hD')
                     rw [← hQ]; exact ⟨by rw [hy, bI_S], rfl, (hO.w (by decide)).trans hO2, fun x hx => by rw [hy] at hx; cases hx; exact ⟨hPD2 D' hD', h22.trans wr_s⟩⟩)
              · try simp only [bI_eq0, bI_ne0] at h_198
                refine G_iconst (pc := 201) dX12_isItem_201 ?_
                refine G_goto (pc := 202) (tgt := 206) dX12_isItem_202 (by decide) ?_
                refine G_zret (pc := 206) dX12_isItem_206 rfl (by omega) ?_
                first
                  | (exfalso; omega)
                  | (have hno := hfail (by omega)
                     rw [← hQ]; exact ⟨by rw [hno, bI_N], rfl, hO.w (by decide), fun x hx => by rw [hno] at hx; cases hx⟩)
                  | (rw [if_pos (show q < n ∧ tx q = 59 by omega)] at i4
                     have htk := oN h_198
                     have hno := itD_no i4 (by rw [show c = k by omega] at htk; exact htk)
                     rw [← hQ]; exact ⟨by rw [hno, bI_N], rfl, (hO.w (by decide)).trans hO2, fun x hx => by rw [hno] at hx; cases hx⟩)
                  | (rw [if_pos (show q < n ∧ tx q = 59 by omega)] at i4
                     obtain ⟨D', hD'⟩ := oS h_198
                     have hy := itD_yes (D' := D') i4 (by rw [show c = k by omega] at hD'; exact hD')
                     rw [← hQ]; exact ⟨by rw [hy, bI_S], rfl, (hO.w (by decide)).trans hO2, fun x hx => by rw [hy] at hx; cases hx; exact ⟨hPD2 D' hD', h22.trans wr_s⟩⟩)
          · refine G_aload_n (pc := 159) dX12_isItem_159 rfl ?_
            refine G_getr (pc := 160) dX12_isItem_160 fiX12_7 (by first | rfl | assumption) (by omega) (by first | rfl | assumption) ?_
            refine G_aload_n (pc := 163) dX12_isItem_163 rfl ?_
            refine G_getiv (pc := 164) dX12_isItem_164 fiX12_74 (by first | rfl | assumption) (by omega) (h2') ?_
            refine G_baldv (pc := 167) dX12_isItem_167 (by first | rfl | assumption) (by omega) (by omega) (by omega) (by omega) (hb (by omega)) ?_
            refine G_bipush (pc := 168) dX12_isItem_168 (by decide) ?_
            refine G_icmp_ne (pc := 170) (tgt := 177) dX12_isItem_170 (Ri.mk (by omega) (by omega)) (Ri.mk (by omega) (by omega)) (by decide) (fun h_170 => ?_) (fun h_170 => ?_)
            · refine G_iconst (pc := 177) dX12_isItem_177 ?_
              refine G_istore_n (pc := 178) (lv' := [_, _, _, _, _]) dX12_isItem_178 (by decide) rfl ?_
              refine G_aload_n (pc := 179) dX12_isItem_179 rfl ?_
              refine G_dup (pc := 180) dX12_isItem_180 rfl ?_
              refine G_getiv (pc := 181) dX12_isItem_181 fiX12_74 (by first | rfl | assumption) (by omega) (h2') ?_
              refine G_iconst (pc := 184) dX12_isItem_184 ?_
              refine G_iadd (pc := 185) dX12_isItem_185 ?_
              refine G_puti (pc := 186) dX12_isItem_186 fiX12_74 (by first | rfl | assumption) (by omega) ?_
              refine G_iload_n (pc := 189) dX12_isItem_189 rfl ?_
              refine G_if_eq (pc := 190) (tgt := 205) dX12_isItem_190 (Ri.mk (by omega) (by omega)) (by decide) (fun h_190 => ?_) (fun h_190 => ?_)
              · try simp only [bI_eq0, bI_ne0] at h_190
                refine G_iconst (pc := 205) dX12_isItem_205 ?_
                refine G_zret (pc := 206) dX12_isItem_206 rfl (by omega) ?_
                first
                  | (exfalso; omega)
                  | (have hno := hfail (by omega)
                     rw [← hQ]; exact ⟨by rw [hno, bI_N], rfl, hO.w (by decide), fun x hx => by rw [hno] at hx; cases hx⟩)
                  | (rw [if_pos (show q < n ∧ tx q = 59 by omega)] at i4
                     have htk := oN h_198
                     have hno := itD_no i4 (by rw [show c = k by omega] at htk; exact htk)
                     rw [← hQ]; exact ⟨by rw [hno, bI_N], rfl, (hO.w (by decide)).trans hO2, fun x hx => by rw [hno] at hx; cases hx⟩)
                  | (rw [if_pos (show q < n ∧ tx q = 59 by omega)] at i4
                     obtain ⟨D', hD'⟩ := oS h_198
                     have hy := itD_yes (D' := D') i4 (by rw [show c = k by omega] at hD'; exact hD')
                     rw [← hQ]; exact ⟨by rw [hy, bI_S], rfl, (hO.w (by decide)).trans hO2, fun x hx => by rw [hy] at hx; cases hx; exact ⟨hPD2 D' hD', h22.trans wr_s⟩⟩)
              · try simp only [bI_eq0, bI_ne0] at h_190
                refine G_aload_n (pc := 193) dX12_isItem_193 rfl ?_
                refine G_iload_n (pc := 194) dX12_isItem_194 rfl ?_
                refine G_callV (pc := 195) (md := mdX12_isGood) (av := [_]) dX12_isItem_195 lkX12_91 mwX12_isGood (m_isGood (nm := nm) (D := D) (tx p) c hl hc hM (hP2 _) hD i3 (hg2 _)) rfl (by first | rfl | assumption) (by omega) rfl rfl (Nat.le_of_ble_eq_true rfl) (by decide) ⟨Nat.zero_le _, Nat.zero_le _⟩ ?_
                rintro v I2 J2 ⟨rfl, rfl, hO2, h22, hPD2⟩
                refine G_if_eq (pc := 198) (tgt := 205) dX12_isItem_198 bI_R (by decide) (fun h_198 => ?_) (fun h_198 => ?_)
                · try simp only [bI_eq0, bI_ne0] at h_198
                  refine G_iconst (pc := 205) dX12_isItem_205 ?_
                  refine G_zret (pc := 206) dX12_isItem_206 rfl (by omega) ?_
                  first
                    | (exfalso; omega)
                    | (have hno := hfail (by omega)
                       rw [← hQ]; exact ⟨by rw [hno, bI_N], rfl, hO.w (by decide), fun x hx => by rw [hno] at hx; cases hx⟩)
                    | (rw [if_pos (show q < n ∧ tx q = 59 by omega)] at i4
                       have htk := oN h_198
                       have hno := itD_no i4 (by rw [show c = k by omega] at htk; exact htk)
                       rw [← hQ]; exact ⟨by rw [hno, bI_N], rfl, (hO.w (by decide)).trans hO2, fun x hx => by rw [hno] at hx; cases hx⟩)
                    | (rw [if_pos (show q < n ∧ tx q = 59 by omega)] at i4
                       obtain ⟨D', hD'⟩ := oS h_198
                       have hy := itD_yes (D' := D') i4 (by rw [show c = k by omega] at hD'; exact hD')
                       rw [← hQ]; exact ⟨by rw [hy, bI_S], rfl, (hO.w (by decide)).trans hO2, fun x hx => by rw [hy] at hx; cases hx; exact ⟨hPD2 D' hD', h22.trans wr_s⟩⟩)
                · try simp only [bI_eq0, bI_ne0] at h_198
                  refine G_iconst (pc := 201) dX12_isItem_201 ?_
                  refine G_goto (pc := 202) (tgt := 206) dX12_isItem_202 (by decide) ?_
                  refine G_zret (pc := 206) dX12_isItem_206 rfl (by omega) ?_
                  first
                    | (exfalso; omega)
                    | (have hno := hfail (by omega)
                       rw [← hQ]; exact ⟨by rw [hno, bI_N], rfl, hO.w (by decide), fun x hx => by rw [hno] at hx; cases hx⟩)
                    | (rw [if_pos (show q < n ∧ tx q = 59 by omega)] at i4
                       have htk := oN h_198
                       have hno := itD_no i4 (by rw [show c = k by omega] at htk; exact htk)
                       rw [← hQ]; exact ⟨by rw [hno, bI_N], rfl, (hO.w (by decide)).trans hO2, fun x hx => by rw [hno] at hx; cases hx⟩)
                    | (rw [if_pos (show q < n ∧ tx q = 59 by omega)] at i4
                       obtain ⟨D', hD'⟩ := oS h_198
                       have hy := itD_yes (D' := D') i4 (by rw [show c = k by omega] at hD'; exact hD')
                       rw [← hQ]; exact ⟨by rw [hy, bI_S], rfl, (hO.w (by decide)).trans hO2, fun x hx => by rw [hy] at hx; cases hx; exact ⟨hPD2 D' hD', h22.trans wr_s⟩⟩)
            · refine G_iconst (pc := 173) dX12_isItem_173 ?_
              refine G_goto (pc := 174) (tgt := 178) dX12_isItem_174 (by decide) ?_
              refine G_istore_n (pc := 178) (lv' := [_, _, _, _, _]) dX12_isItem_178 (by decide) rfl ?_
              refine G_aload_n (pc := 179) dX12_isItem_179 rfl ?_
              refine G_dup (pc := 180) dX12_isItem_180 rfl ?_
              refine G_getiv (pc := 181) dX12_isItem_181 fiX12_74 (by first | rfl | assumption) (by omega) (h2') ?_
              refine G_iconst (pc := 184) dX12_isItem_184 ?_
              refine G_iadd (pc := 185) dX12_isItem_185 ?_
              refine G_puti (pc := 186) dX12_isItem_186 fiX12_74 (by first | rfl | assumption) (by omega) ?_
              refine G_iload_n (pc := 189) dX12_isItem_189 rfl ?_
              refine G_if_eq (pc := 190) (tgt := 205) dX12_isItem_190 (Ri.mk (by omega) (by omega)) (by decide) (fun h_190 => ?_) (fun h_190 => ?_)
              · try simp only [bI_eq0, bI_ne0] at h_190
                refine G_iconst (pc := 205) dX12_isItem_205 ?_
                refine G_zret (pc := 206) dX12_isItem_206 rfl (by omega) ?_
                first
                  | (exfalso; omega)
                  | (have hno := hfail (by omega)
                     rw [← hQ]; exact ⟨by rw [hno, bI_N], rfl, hO.w (by decide), fun x hx => by rw [hno] at hx; cases hx⟩)
                  | (rw [if_pos (show q < n ∧ tx q = 59 by omega)] at i4
                     have htk := oN h_198
                     have hno := itD_no i4 (by rw [show c = k by omega] at htk; exact htk)
                     rw [← hQ]; exact ⟨by rw [hno, bI_N], rfl, (hO.w (by decide)).trans hO2, fun x hx => by rw [hno] at hx; cases hx⟩)
                  | (rw [if_pos (show q < n ∧ tx q = 59 by omega)] at i4
                     obtain ⟨D', hD'⟩ := oS h_198
                     have hy := itD_yes (D' := D') i4 (by rw [show c = k by omega] at hD'; exact hD')
                     rw [← hQ]; exact ⟨by rw [hy, bI_S], rfl, (hO.w (by decide)).trans hO2, fun x hx => by rw [hy] at hx; cases hx; exact ⟨hPD2 D' hD', h22.trans wr_s⟩⟩)
              · try simp only [bI_eq0, bI_ne0] at h_190
                refine G_aload_n (pc := 193) dX12_isItem_193 rfl ?_
                refine G_iload_n (pc := 194) dX12_isItem_194 rfl ?_
                refine G_callV (pc := 195) (md := mdX12_isGood) (av := [_]) dX12_isItem_195 lkX12_91 mwX12_isGood (m_isGood (nm := nm) (D := D) (tx p) c hl hc hM (hP2 _) hD i3 (hg2 _)) rfl (by first | rfl | assumption) (by omega) rfl rfl (Nat.le_of_ble_eq_true rfl) (by decide) ⟨Nat.zero_le _, Nat.zero_le _⟩ ?_
                rintro v I2 J2 ⟨rfl, rfl, hO2, h22, hPD2⟩
                refine G_if_eq (pc := 198) (tgt := 205) dX12_isItem_198 bI_R (by decide) (fun h_198 => ?_) (fun h_198 => ?_)
                · try simp only [bI_eq0, bI_ne0] at h_198
                  refine G_iconst (pc := 205) dX12_isItem_205 ?_
                  refine G_zret (pc := 206) dX12_isItem_206 rfl (by omega) ?_
                  first
                    | (exfalso; omega)
                    | (have hno := hfail (by omega)
                       rw [← hQ]; exact ⟨by rw [hno, bI_N], rfl, hO.w (by decide), fun x hx => by rw [hno] at hx; cases hx⟩)
                    | (rw [if_pos (show q < n ∧ tx q = 59 by omega)] at i4
                       have htk := oN h_198
                       have hno := itD_no i4 (by rw [show c = k by omega] at htk; exact htk)
                       rw [← hQ]; exact ⟨by rw [hno, bI_N], rfl, (hO.w (by decide)).trans hO2, fun x hx => by rw [hno] at hx; cases hx⟩)
                    | (rw [if_pos (show q < n ∧ tx q = 59 by omega)] at i4
                       obtain ⟨D', hD'⟩ := oS h_198
                       have hy := itD_yes (D' := D') i4 (by rw [show c = k by omega] at hD'; exact hD')
                       rw [← hQ]; exact ⟨by rw [hy, bI_S], rfl, (hO.w (by decide)).trans hO2, fun x hx => by rw [hy] at hx; cases hx; exact ⟨hPD2 D' hD', h22.trans wr_s⟩⟩)
                · try simp only [bI_eq0, bI_ne0] at h_198
                  refine G_iconst (pc := 201) dX12_isItem_201 ?_
                  refine G_goto (pc := 202) (tgt := 206) dX12_isItem_202 (by decide) ?_
                  refine G_zret (pc := 206) dX12_isItem_206 rfl (by omega) ?_
                  first
                    | (exfalso; omega)
                    | (have hno := hfail (by omega)
                       rw [← hQ]; exact ⟨by rw [hno, bI_N], rfl, hO.w (by decide), fun x hx => by rw [hno] at hx; cases hx⟩)
                    | (rw [if_pos (show q < n ∧ tx q = 59 by omega)] at i4
                       have htk := oN h_198
                       have hno := itD_no i4 (by rw [show c = k by omega] at htk; exact htk)
                       rw [← hQ]; exact ⟨by rw [hno, bI_N], rfl, (hO.w (by decide)).trans hO2, fun x hx => by rw [hno] at hx; cases hx⟩)
                    | (rw [if_pos (show q < n ∧ tx q = 59 by omega)] at i4
                       obtain ⟨D', hD'⟩ := oS h_198
                       have hy := itD_yes (D' := D') i4 (by rw [show c = k by omega] at hD'; exact hD')
                       rw [← hQ]; exact ⟨by rw [hy, bI_S], rfl, (hO.w (by decide)).trans hO2, fun x hx => by rw [hy] at hx; cases hx; exact ⟨hPD2 D' hD', h22.trans wr_s⟩⟩)
      · exact absurd h_41 (by omega)
    | succ r ih =>
      intro k q nm I' hk h1 hI hO hP' h2' hg
      obtain ⟨i1, i2, i3, i4⟩ := hI
      have hX' := hO.x hX
      have hfail : ¬ (q < n ∧ tx q = 44) → itD tx n p D = none := fun hne => by
        by_cases h59 : q < n ∧ tx q = 59
        · rw [if_pos h59] at i4; exact itD_ne i4 (show k ≠ ptN (tx p) by omega)
        · rw [if_neg h59, if_neg hne] at i4; exact itD_none i4
      have hP2 : ∀ a, PD (wr I' 71 2 a) D := fun a => hP'.off (wr_n (by decide)) (fun q _ b => wr_o (by omega))
      have hb : q < n → I' 72 ((q : Int)).toNat = tx q := fun h => by rw [Int.toNat_natCast]; exact hX'.2 q h
      have htq := htx q
      refine G_iload (pc := 38) dX12_isItem_38 rfl ?_
      refine G_iload_n (pc := 40) dX12_isItem_40 rfl ?_
      refine G_icmp_ge (pc := 41) (tgt := 144) dX12_isItem_41 (Ri.mk (by omega) (by omega)) (Ri.mk (by omega) (by omega)) (by decide) (fun h_41 => ?_) (fun h_41 => ?_)
      · exact absurd h_41 (by omega)
      · refine G_iload_n (pc := 44) dX12_isItem_44 rfl ?_
        refine G_if_eq (pc := 45) (tgt := 144) dX12_isItem_45 (Ri.mk (by omega) (by omega)) (by decide) (fun h_45 => ?_) (fun h_45 => ?_)
        · exact absurd h_45 (by decide)
        · try simp only [bI_eq0, bI_ne0] at h_45
          refine G_iload (pc := 48) dX12_isItem_48 rfl ?_
          refine G_if_eq (pc := 50) (tgt := 78) dX12_isItem_50 (Ri.mk (by omega) (by omega)) (by decide) (fun h_50 => ?_) (fun h_50 => ?_)
          · exact absurd h_50 (by omega)
          · try simp only [bI_eq0, bI_ne0] at h_50
            refine G_aload_n (pc := 53) dX12_isItem_53 rfl ?_
            refine G_getiv (pc := 54) dX12_isItem_54 fiX12_74 (by first | rfl | assumption) (by omega) (h2') ?_
            refine G_aload_n (pc := 57) dX12_isItem_57 rfl ?_
            refine G_getiv (pc := 58) dX12_isItem_58 fiX12_70 (by first | rfl | assumption) (by omega) (hX'.1) ?_
            refine G_icmp_ge (pc := 61) (tgt := 82) dX12_isItem_61 (Ri.mk (by omega) (by omega)) (Ri.mk (by omega) (by omega)) (by decide) (fun h_61 => ?_) (fun h_61 => ?_)
            · refine G_iconst (pc := 82) dX12_isItem_82 ?_
              refine G_istore_n (pc := 83) (lv' := [_, _, _, _, _]) dX12_isItem_83 (by decide) rfl ?_
              refine G_aload_n (pc := 84) dX12_isItem_84 rfl ?_
              refine G_dup (pc := 85) dX12_isItem_85 rfl ?_
              refine G_getiv (pc := 86) dX12_isItem_86 fiX12_74 (by first | rfl | assumption) (by omega) (h2') ?_
              refine G_iload (pc := 89) dX12_isItem_89 rfl ?_
              refine G_if_ne (pc := 91) (tgt := 98) dX12_isItem_91 (Ri.mk (by omega) (by omega)) (by decide) (fun h_91 => ?_) (fun h_91 => ?_)
              · try simp only [bI_eq0, bI_ne0] at h_91
                refine G_iconst (pc := 98) dX12_isItem_98 ?_
                refine G_iadd (pc := 99) dX12_isItem_99 ?_
                refine G_puti (pc := 100) dX12_isItem_100 fiX12_74 (by first | rfl | assumption) (by omega) ?_
                first
                  | (have h44 : q < n ∧ tx q = 44 := by omega
                     exact B1of r ih k (q + 1) nm _ (by omega) (by omega) (by omega) i3 (by rw [i4, if_neg (by omega), if_pos h44]) (hO.w (by decide)) (hP2 _) wr_s (fun i hi => by rw [wr_o (by decide)]; exact hg i hi))
                  | exact B0 k _ (hfail (by omega)) (by omega) (hO.w (by decide))
              · exact absurd h_91 (by omega)
            · refine G_aload_n (pc := 64) dX12_isItem_64 rfl ?_
              refine G_getr (pc := 65) dX12_isItem_65 fiX12_7 (by first | rfl | assumption) (by omega) (by first | rfl | assumption) ?_
              refine G_aload_n (pc := 68) dX12_isItem_68 rfl ?_
              refine G_getiv (pc := 69) dX12_isItem_69 fiX12_74 (by first | rfl | assumption) (by omega) (h2') ?_
              refine G_baldv (pc := 72) dX12_isItem_72 (by first | rfl | assumption) (by omega) (by omega) (by omega) (by omega) (hb (by omega)) ?_
              refine G_bipush (pc := 73) dX12_isItem_73 (by decide) ?_
              refine G_icmp_ne (pc := 75) (tgt := 82) dX12_isItem_75 (Ri.mk (by omega) (by omega)) (Ri.mk (by omega) (by omega)) (by decide) (fun h_75 => ?_) (fun h_75 => ?_)
              · refine G_iconst (pc := 82) dX12_isItem_82 ?_
                refine G_istore_n (pc := 83) (lv' := [_, _, _, _, _]) dX12_isItem_83 (by decide) rfl ?_
                refine G_aload_n (pc := 84) dX12_isItem_84 rfl ?_
                refine G_dup (pc := 85) dX12_isItem_85 rfl ?_
                refine G_getiv (pc := 86) dX12_isItem_86 fiX12_74 (by first | rfl | assumption) (by omega) (h2') ?_
                refine G_iload (pc := 89) dX12_isItem_89 rfl ?_
                refine G_if_ne (pc := 91) (tgt := 98) dX12_isItem_91 (Ri.mk (by omega) (by omega)) (by decide) (fun h_91 => ?_) (fun h_91 => ?_)
                · try simp only [bI_eq0, bI_ne0] at h_91
                  refine G_iconst (pc := 98) dX12_isItem_98 ?_
                  refine G_iadd (pc := 99) dX12_isItem_99 ?_
                  refine G_puti (pc := 100) dX12_isItem_100 fiX12_74 (by first | rfl | assumption) (by omega) ?_
                  first
                    | (have h44 : q < n ∧ tx q = 44 := by omega
                       exact B1of r ih k (q + 1) nm _ (by omega) (by omega) (by omega) i3 (by rw [i4, if_neg (by omega), if_pos h44]) (hO.w (by decide)) (hP2 _) wr_s (fun i hi => by rw [wr_o (by decide)]; exact hg i hi))
                    | exact B0 k _ (hfail (by omega)) (by omega) (hO.w (by decide))
                · exact absurd h_91 (by omega)
              · refine G_iconst (pc := 78) dX12_isItem_78 ?_
                refine G_goto (pc := 79) (tgt := 83) dX12_isItem_79 (by decide) ?_
                refine G_istore_n (pc := 83) (lv' := [_, _, _, _, _]) dX12_isItem_83 (by decide) rfl ?_
                refine G_aload_n (pc := 84) dX12_isItem_84 rfl ?_
                refine G_dup (pc := 85) dX12_isItem_85 rfl ?_
                refine G_getiv (pc := 86) dX12_isItem_86 fiX12_74 (by first | rfl | assumption) (by omega) (h2') ?_
                refine G_iload (pc := 89) dX12_isItem_89 rfl ?_
                refine G_if_ne (pc := 91) (tgt := 98) dX12_isItem_91 (Ri.mk (by omega) (by omega)) (by decide) (fun h_91 => ?_) (fun h_91 => ?_)
                · try simp only [bI_eq0, bI_ne0] at h_91
                  refine G_iconst (pc := 98) dX12_isItem_98 ?_
                  refine G_iadd (pc := 99) dX12_isItem_99 ?_
                  refine G_puti (pc := 100) dX12_isItem_100 fiX12_74 (by first | rfl | assumption) (by omega) ?_
                  first
                    | (have h44 : q < n ∧ tx q = 44 := by omega
                       exact B1of r ih k (q + 1) nm _ (by omega) (by omega) (by omega) i3 (by rw [i4, if_neg (by omega), if_pos h44]) (hO.w (by decide)) (hP2 _) wr_s (fun i hi => by rw [wr_o (by decide)]; exact hg i hi))
                    | exact B0 k _ (hfail (by omega)) (by omega) (hO.w (by decide))
                · exact absurd h_91 (by omega)
  have F1 : ∀ (I' : Nat → Nat → Int), 0 < c → OffP I I' → PD I' D → I' 71 2 = ((p : Int) + 1) → GM E mdX12_isItem 2 M Rf Q I' J 38 [some (vr E 71), some (vi (tx p)), some (vi (c : Int)), some (vi 1), some (vi 0)] [] := by
    intro I' h0 hO hP' h2'
    refine G_iload (pc := 38) dX12_isItem_38 rfl ?_
    refine G_iload_n (pc := 40) dX12_isItem_40 rfl ?_
    refine G_icmp_ge (pc := 41) (tgt := 144) dX12_isItem_41 (Ri.mk (by omega) (by omega)) (Ri.mk (by omega) (by omega)) (by decide) (fun h_41 => ?_) (fun h_41 => ?_)
    · exact absurd h_41 (by omega)
    · refine G_iload_n (pc := 44) dX12_isItem_44 rfl ?_
      refine G_if_eq (pc := 45) (tgt := 144) dX12_isItem_45 (Ri.mk (by omega) (by omega)) (by decide) (fun h_45 => ?_) (fun h_45 => ?_)
      · exact absurd h_45 (by decide)
      · try simp only [bI_eq0, bI_ne0] at h_45
        refine G_iload (pc := 48) dX12_isItem_48 rfl ?_
        refine G_if_eq (pc := 50) (tgt := 78) dX12_isItem_50 (Ri.mk (by omega) (by omega)) (by decide) (fun h_50 => ?_) (fun h_50 => ?_)
        · try simp only [bI_eq0, bI_ne0] at h_50
          refine G_iconst (pc := 78) dX12_isItem_78 ?_
          refine G_goto (pc := 79) (tgt := 83) dX12_isItem_79 (by decide) ?_
          refine G_istore_n (pc := 83) (lv' := [_, _, _, _, _]) dX12_isItem_83 (by decide) rfl ?_
          refine G_aload_n (pc := 84) dX12_isItem_84 rfl ?_
          refine G_dup (pc := 85) dX12_isItem_85 rfl ?_
          refine G_getiv (pc := 86) dX12_isItem_86 fiX12_74 (by first | rfl | assumption) (by omega) (h2') ?_
          refine G_iload (pc := 89) dX12_isItem_89 rfl ?_
          refine G_if_ne (pc := 91) (tgt := 98) dX12_isItem_91 (Ri.mk (by omega) (by omega)) (by decide) (fun h_91 => ?_) (fun h_91 => ?_)
          · exact absurd rfl h_91
          · try simp only [bI_eq0, bI_ne0] at h_91
            refine G_iconst (pc := 94) dX12_isItem_94 ?_
            refine G_goto (pc := 95) (tgt := 99) dX12_isItem_95 (by decide) ?_
            refine G_iadd (pc := 99) dX12_isItem_99 ?_
            refine G_puti (pc := 100) dX12_isItem_100 fiX12_74 (by first | rfl | assumption) (by omega) ?_
            exact B1of (c - 1) (L1 (c - 1)) 0 (p + 1) (fun _ => 0) _ (by omega) (by omega) (by omega) (fun _ => Nat.zero_le _) rfl (hO.w (by decide)) (hP'.off (wr_n (by decide)) (fun q _ b => wr_o (by omega))) (wr_s.trans (by omega)) (fun i hi => absurd hi (Nat.not_lt_zero _))
        · exact absurd rfl h_50
  refine G_aload_n (pc := 0) dX12_isItem_0 rfl ?_
  refine G_getr (pc := 1) dX12_isItem_1 fiX12_7 (by first | rfl | assumption) (by omega) (by first | rfl | assumption) ?_
  refine G_aload_n (pc := 4) dX12_isItem_4 rfl ?_
  refine G_getiv (pc := 5) dX12_isItem_5 fiX12_74 (by first | rfl | assumption) (by omega) (h2) ?_
  refine G_baldv (pc := 8) dX12_isItem_8 (by first | rfl | assumption) (by omega) (by omega) (by omega) (by omega) ((show I 72 ((p : Int)).toNat = tx p by rw [Int.toNat_natCast]; exact hX.2 p hp)) ?_
  refine G_istore_n (pc := 9) (lv' := [_, _, _, _, _]) dX12_isItem_9 (by decide) rfl ?_
  refine G_aload_n (pc := 10) dX12_isItem_10 rfl ?_
  refine G_dup (pc := 11) dX12_isItem_11 rfl ?_
  refine G_getiv (pc := 12) dX12_isItem_12 fiX12_74 (by first | rfl | assumption) (by omega) (h2) ?_
  refine G_iconst (pc := 15) dX12_isItem_15 ?_
  refine G_iadd (pc := 16) dX12_isItem_16 ?_
  refine G_puti (pc := 17) dX12_isItem_17 fiX12_74 (by first | rfl | assumption) (by omega) ?_
  refine G_iload_n (pc := 20) dX12_isItem_20 rfl ?_
  refine G_callS1 (pc := 21) (md := mdX12_parts) (av := [_]) dX12_isItem_21 lkX12_83 mwX12_parts (m_parts (tx p) htp) rfl rfl (Nat.le_of_ble_eq_true rfl) (by decide) ⟨Nat.zero_le _, Nat.zero_le _⟩ ?_
  rw [← hc]
  refine G_istore_n (pc := 24) (lv' := [_, _, _, _, _]) dX12_isItem_24 (by decide) rfl ?_
  refine G_iload_n (pc := 25) dX12_isItem_25 rfl ?_
  refine G_if_le (pc := 26) (tgt := 33) dX12_isItem_26 (Ri.mk (by omega) (by omega)) (by decide) (fun h_26 => ?_) (fun h_26 => ?_)
  · refine G_iconst (pc := 33) dX12_isItem_33 ?_
    refine G_istore_n (pc := 34) (lv' := [_, _, _, _, _]) dX12_isItem_34 (by decide) rfl ?_
    refine G_iconst (pc := 35) dX12_isItem_35 ?_
    refine G_istore (pc := 36) (lv' := [_, _, _, _, _]) dX12_isItem_36 (by decide) rfl ?_
    first
      | (have h0 : ptN (tx p) = 0 := by omega
         exact E0 0 _ (itD_0 h0) (by omega) (OffP.rfl.w (by decide)))
      | exact F1 _ (by omega) (OffP.rfl.w (by decide)) (hP.off (wr_n (by decide)) (fun q _ b => wr_o (by omega))) wr_s
  · refine G_iconst (pc := 29) dX12_isItem_29 ?_
    refine G_goto (pc := 30) (tgt := 34) dX12_isItem_30 (by decide) ?_
    refine G_istore_n (pc := 34) (lv' := [_, _, _, _, _]) dX12_isItem_34 (by decide) rfl ?_
    refine G_iconst (pc := 35) dX12_isItem_35 ?_
    refine G_istore (pc := 36) (lv' := [_, _, _, _, _]) dX12_isItem_36 (by decide) rfl ?_
    first
      | (have h0 : ptN (tx p) = 0 := by omega
         exact E0 0 _ (itD_0 h0) (by omega) (OffP.rfl.w (by decide)))
      | exact F1 _ (by omega) (OffP.rfl.w (by decide)) (hP.off (wr_n (by decide)) (fun q _ b => wr_o (by omega))) wr_s
theorem m_fault (hM : 87 ≤ M) (hX : XM I n tx) (hn : n ≤ 400) (htx : ∀ i, -128 ≤ tx i ∧ tx i ≤ 127) : FnQ E mdX12_fault 3 M Rf [vr E 71] I J (fun v I' J' => v = some (vi (parse tx n).1) ∧ J' = J ∧ OffP I I' ∧ ((parse tx n).1 = -4 → PD I' (parse tx n).2)) := by
  refine FnQ.of (by decide +kernel) (Nat.le_of_ble_eq_true rfl) ?_
  show GM E mdX12_fault 3 M Rf _ I J 0 [some (vr E 71), none] []
  generalize hQ : (fun (v : Option Value) (I' J' : Nat → Nat → Int) => v = some (vi (parse tx n).1) ∧ J' = J ∧ OffP I I' ∧ ((parse tx n).1 = -4 → PD I' (parse tx n).2)) = Q
  have loop : ∀ (m p : Nat) (D : DS) (I' : Nat → Nat → Int) (d : Option Value), n + 1 ≤ m + p → p ≤ n → paF tx n m p D = parse tx n → PD I' D → DB D → OffP I I' → I' 71 2 = p → GM E mdX12_fault 3 M Rf Q I' J 9 [some (vr E 71), d] [] := by
    intro m
    induction m with
    | zero =>
      intro p D I' d h1 h2 hpar hP hD hO hat
      exact absurd h1 (by omega)
    | succ m ih =>
      intro p D I' d h1 h2 hpar hP hD hO hat
      have hX' := hO.x hX
      rw [paF_it] at hpar
      refine G_aload_n (pc := 9) dX12_fault_9 rfl ?_
      refine G_getiv (pc := 10) dX12_fault_10 fiX12_74 (by first | rfl | assumption) (by omega) (hat) ?_
      refine G_aload_n (pc := 13) dX12_fault_13 rfl ?_
      refine G_getiv (pc := 14) dX12_fault_14 fiX12_70 (by first | rfl | assumption) (by omega) (hX'.1) ?_
      refine G_icmp_ge (pc := 17) (tgt := 37) dX12_fault_17 (Ri.mk (by omega) (by omega)) (Ri.mk (by omega) (by omega)) (by decide) (fun h_17 => ?_) (fun h_17 => ?_)
      · refine G_bipush (pc := 37) dX12_fault_37 (by decide) ?_
        refine G_iret (pc := 39) dX12_fault_39 rfl ?_
        rw [if_pos (by omega)] at hpar
        rw [← hQ, ← hpar]
        exact ⟨rfl, rfl, hO, fun _ => hP⟩
      · refine G_aload_n (pc := 20) dX12_fault_20 rfl ?_
        refine G_getiv (pc := 21) dX12_fault_21 fiX12_74 (by first | rfl | assumption) (by omega) (hat) ?_
        refine G_istore_n (pc := 24) (lv' := [_, _]) dX12_fault_24 (by decide) rfl ?_
        refine G_aload_n (pc := 25) dX12_fault_25 rfl ?_
        refine G_callV (pc := 26) (md := mdX12_isItem) (av := []) dX12_fault_26 lkX12_112 mwX12_isItem (m_isItem p hM hX' hn htx (by omega) hat hP hD) rfl (by first | rfl | assumption) (by omega) rfl rfl (Nat.le_of_ble_eq_true rfl) (by decide) ⟨Nat.zero_le _, Nat.zero_le _⟩ ?_
        rintro v I2 J2 ⟨rfl, rfl, hO2, hx2⟩
        rw [if_neg (by omega)] at hpar
        refine G_if_ne (pc := 29) (tgt := 34) dX12_fault_29 bI_R (by decide) (fun h_29 => ?_) (fun h_29 => ?_)
        · try simp only [bI_eq0, bI_ne0] at h_29
          refine G_goto (pc := 34) (tgt := 9) dX12_fault_34 (by decide) ?_
          obtain ⟨x, hx⟩ := oS h_29
          rw [hx] at hpar
          have hpar : paF tx n m x.2 x.1 = parse tx n := hpar
          have hxB := itD_B hD hx
          exact ih x.2 x.1 I2 _ (by have := hxB.2; omega) (itD_n (by omega) hx) hpar (hx2 x hx).1 hxB.1 (hO.trans hO2) (hx2 x hx).2
        · try simp only [bI_eq0, bI_ne0] at h_29
          refine G_iload_n (pc := 32) dX12_fault_32 rfl ?_
          refine G_iret (pc := 33) dX12_fault_33 rfl ?_
          rw [oN h_29] at hpar
          have hpar : ((p : Int), D) = parse tx n := hpar
          rw [← hQ, ← hpar]
          exact ⟨rfl, rfl, hO.trans hO2, fun z => absurd z (show ¬ (p : Int) = -4 by omega)⟩
  refine G_aload_n (pc := 0) dX12_fault_0 rfl ?_
  refine G_iconst (pc := 1) dX12_fault_1 ?_
  refine G_puti (pc := 2) dX12_fault_2 fiX12_74 (by first | rfl | assumption) (by omega) ?_
  refine G_aload_n (pc := 5) dX12_fault_5 rfl ?_
  refine G_callV (pc := 6) (md := mdX12_begins) (av := []) dX12_fault_6 lkX12_58 mwX12_begins (m_begins hM) rfl (by first | rfl | assumption) (by omega) rfl rfl (Nat.le_of_ble_eq_true rfl) (by decide) ⟨Nat.zero_le _, Nat.zero_le _⟩ ?_
  rintro v I1 J1 ⟨rfl, rfl, hO1, hP1, h21⟩
  exact loop (n + 1) 0 D0 I1 none (by omega) (by omega) rfl hP1 D0_B ((OffP.rfl.w (by decide)).trans hO1) (h21.trans wr_s)
end MOD14
