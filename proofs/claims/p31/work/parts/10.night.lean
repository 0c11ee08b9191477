/-! NIGHT -/
def NI (I : Nat → Nat → Int) (th py : Nat → Nat) (pr sx : Int) : Prop := (∀ p, p < 120 → I 69 p = th p ∧ I 70 p = py p) ∧ I 68 3 = pr ∧ I 68 4 = sx
theorem c_draw {E : EV} {M : Nat} {R : Nat → Nat → Option Nat} {I J : Nat → Nat → Int} (n : Nat) (hn : n ≤ 3000000000) : FnF E mdX5_draw 0 M R [vl (n : Int)] I J (some (vi ((n * n % 65521 % 100 : Nat) : Int))) I J := by
  have h1 := Nat.mul_le_mul hn hn
  refine FnQ.of (by decide +kernel) (Nat.le_of_ble_eq_true rfl) ?_
  show GM E mdX5_draw 0 M R _ I J 0 [some (vl (n : Int)), none] []
  refine G_lload_n (pc := 0) dX5_draw_0 rfl ?_
  refine G_lload_n (pc := 1) dX5_draw_1 rfl ?_
  refine G_lmul (pc := 2) dX5_draw_2 ?_
  refine G_ldc2 (pc := 3) dX5_draw_3 klX5_89 ?_
  rw [← Int.natCast_mul]
  refine G_lrem (pc := 6) dX5_draw_6 (Rl.mk (by omega) (by omega)) (Rl.mk (by omega) (by omega)) (by omega) ?_
  refine G_ldc2 (pc := 7) dX5_draw_7 klX5_91 ?_
  rw [show ((n * n : Nat) : Int).tmod 65521 = ((n * n % 65521 : Nat) : Int) from (Int.ofNat_tmod _ _).symm]
  refine G_lrem (pc := 10) dX5_draw_10 (Rl.mk (by omega) (by omega)) (Rl.mk (by omega) (by omega)) (by omega) ?_
  refine G_l2i (pc := 11) dX5_draw_11 ?_
  refine G_iret (pc := 12) dX5_draw_12 rfl ?_
  exact ⟨by rw [Int.ofNat_tmod]; rfl, rfl, rfl⟩
theorem c_playedAt {E : EV} {M : Nat} {I J : Nat → Nat → Int} {th py : Nat → Nat} {pr sx : Int} (a : Int) (hM : 71 ≤ M) (hN : NI I th py pr sx) (ha : a = -4 ∨ (0 ≤ a ∧ a < 120)) (h1 : ∀ p, py p ≤ 1) : FnF E mdX5_playedAt 0 M Rf [vr E 68, vi a] I J (some (vi ((if a = -4 then 0 else py a.toNat : Nat) : Int))) I J := by
  refine FnQ.of (by decide +kernel) (Nat.le_of_ble_eq_true rfl) ?_
  show GM E mdX5_playedAt 0 M Rf _ I J 0 [some (vr E 68), some (vi a)] []
  refine G_iload_n (pc := 0) dX5_playedAt_0 rfl ?_
  refine G_if_lt (pc := 1) (tgt := 26) dX5_playedAt_1 (Ri.mk (by omega) (by omega)) (by decide) (fun h_1 => ?_) (fun h_1 => ?_)
  · refine G_iconst (pc := 26) dX5_playedAt_26 ?_
    refine G_zret (pc := 27) dX5_playedAt_27 rfl (by omega) ?_
    exact ⟨by first | (rw [if_pos (by omega)]; rfl) | (rw [if_neg (by omega), show py a.toNat = 1 by omega]; rfl) | (rw [if_neg (by omega), show py a.toNat = 0 by omega]; rfl), rfl, rfl⟩
  · refine G_iload_n (pc := 4) dX5_playedAt_4 rfl ?_
    refine G_aload_n (pc := 5) dX5_playedAt_5 rfl ?_
    refine G_getr (pc := 6) dX5_playedAt_6 fiX5_15 (by first | rfl | assumption) (by omega) (by first | rfl | assumption) ?_
    refine G_alen (pc := 9) dX5_playedAt_9 (by first | rfl | assumption) (by decide) (by omega) ?_
    refine G_icmp_ge (pc := 10) (tgt := 26) dX5_playedAt_10 (Ri.mk (by omega) (by omega)) (Ri.mk (by omega) (by omega)) (by decide) (fun h_10 => ?_) (fun h_10 => ?_)
    · refine G_iconst (pc := 26) dX5_playedAt_26 ?_
      refine G_zret (pc := 27) dX5_playedAt_27 rfl (by omega) ?_
      exact ⟨by first | (rw [if_pos (by omega)]; rfl) | (rw [if_neg (by omega), show py a.toNat = 1 by omega]; rfl) | (rw [if_neg (by omega), show py a.toNat = 0 by omega]; rfl), rfl, rfl⟩
    · refine G_aload_n (pc := 13) dX5_playedAt_13 rfl ?_
      refine G_getr (pc := 14) dX5_playedAt_14 fiX5_15 (by first | rfl | assumption) (by omega) (by first | rfl | assumption) ?_
      refine G_iload_n (pc := 17) dX5_playedAt_17 rfl ?_
      refine G_zald (pc := 18) dX5_playedAt_18 (by first | rfl | assumption) (by omega) (by omega) (by omega) (by omega) ?_
      rw [(hN.1 a.toNat (by omega)).2]
      have h11 := h1 a.toNat
      refine G_if_eq (pc := 19) (tgt := 26) dX5_playedAt_19 (Ri.mk (by omega) (by omega)) (by decide) (fun h_19 => ?_) (fun h_19 => ?_)
      · try simp only [bI_eq0, bI_ne0] at h_19
        refine G_iconst (pc := 26) dX5_playedAt_26 ?_
        refine G_zret (pc := 27) dX5_playedAt_27 rfl (by omega) ?_
        exact ⟨by first | (rw [if_pos (by omega)]; rfl) | (rw [if_neg (by omega), show py a.toNat = 1 by omega]; rfl) | (rw [if_neg (by omega), show py a.toNat = 0 by omega]; rfl), rfl, rfl⟩
      · try simp only [bI_eq0, bI_ne0] at h_19
        refine G_iconst (pc := 22) dX5_playedAt_22 ?_
        refine G_goto (pc := 23) (tgt := 27) dX5_playedAt_23 (by decide) ?_
        refine G_zret (pc := 27) dX5_playedAt_27 rfl (by omega) ?_
        exact ⟨by first | (rw [if_pos (by omega)]; rfl) | (rw [if_neg (by omega), show py a.toNat = 1 by omega]; rfl) | (rw [if_neg (by omega), show py a.toNat = 0 by omega]; rfl), rfl, rfl⟩
theorem c_players {E : EV} {M : Nat} {I J : Nat → Nat → Int} {th py : Nat → Nat} {pr sx : Int} (hM : 71 ≤ M) (hN : NI I th py pr sx) (h1 : ∀ p, py p ≤ 1) : FnF E mdX5_players 0 M Rf [vr E 68] I J (some (vi (sumN py 120 : Int))) I J := by
  refine FnQ.of (by decide +kernel) (Nat.le_of_ble_eq_true rfl) ?_
  show GM E mdX5_players 0 M Rf _ I J 0 [some (vr E 68), none, none] []
  have loop : ∀ (m i : Nat) (x : Int), i + m = 120 → x = (sumN py i : Nat) → GM E mdX5_players 0 M Rf (QF (some (vi (sumN py 120 : Int))) I J) I J 4 [some (vr E 68), some (vi x), some (vi (i : Int))] [] := by
    intro m
    induction m with
    | zero =>
      intro i x hi hx
      have hi : i = 120 := by omega
      subst hi
      refine G_iload_n (pc := 4) dX5_players_4 rfl ?_
      refine G_aload_n (pc := 5) dX5_players_5 rfl ?_
      refine G_getr (pc := 6) dX5_players_6 fiX5_15 (by first | rfl | assumption) (by omega) (by first | rfl | assumption) ?_
      refine G_alen (pc := 9) dX5_players_9 (by first | rfl | assumption) (by decide) (by omega) ?_
      refine G_icmp_ge (pc := 10) (tgt := 31) dX5_players_10 (Ri.mk (by omega) (by omega)) (Ri.mk (by omega) (by omega)) (by decide) (fun h_10 => ?_) (fun h_10 => ?_)
      · refine G_iload_n (pc := 31) dX5_players_31 rfl ?_
        refine G_iret (pc := 32) dX5_players_32 rfl ?_
        exact ⟨by rw [hx], rfl, rfl⟩
      · exact absurd h_10 (by omega)
    | succ m ih =>
      intro i x hi hx
      have h11 := h1 i
      refine G_iload_n (pc := 4) dX5_players_4 rfl ?_
      refine G_aload_n (pc := 5) dX5_players_5 rfl ?_
      refine G_getr (pc := 6) dX5_players_6 fiX5_15 (by first | rfl | assumption) (by omega) (by first | rfl | assumption) ?_
      refine G_alen (pc := 9) dX5_players_9 (by first | rfl | assumption) (by decide) (by omega) ?_
      refine G_icmp_ge (pc := 10) (tgt := 31) dX5_players_10 (Ri.mk (by omega) (by omega)) (Ri.mk (by omega) (by omega)) (by decide) (fun h_10 => ?_) (fun h_10 => ?_)
      · exact absurd h_10 (by omega)
      · refine G_aload_n (pc := 13) dX5_players_13 rfl ?_
        refine G_getr (pc := 14) dX5_players_14 fiX5_15 (by first | rfl | assumption) (by omega) (by first | rfl | assumption) ?_
        refine G_iload_n (pc := 17) dX5_players_17 rfl ?_
        refine G_zald (pc := 18) dX5_players_18 (by first | rfl | assumption) (by omega) (by omega) (by omega) (by omega) ?_
        rw [Int.toNat_natCast, (hN.1 i (by omega)).2]
        refine G_if_eq (pc := 19) (tgt := 25) dX5_players_19 (Ri.mk (by omega) (by omega)) (by decide) (fun h_19 => ?_) (fun h_19 => ?_)
        · try simp only [bI_eq0, bI_ne0] at h_19
          refine G_iinc (pc := 25) (lv' := [_, _, _]) dX5_players_25 (by decide) rfl rfl ?_
          refine G_goto (pc := 28) (tgt := 4) dX5_players_28 (by decide) ?_
          exact ih (i + 1) _ (by omega) (by rw [hx, sumN]; omega)
        · try simp only [bI_eq0, bI_ne0] at h_19
          refine G_iinc (pc := 22) (lv' := [_, _, _]) dX5_players_22 (by decide) rfl rfl ?_
          refine G_iinc (pc := 25) (lv' := [_, _, _]) dX5_players_25 (by decide) rfl rfl ?_
          refine G_goto (pc := 28) (tgt := 4) dX5_players_28 (by decide) ?_
          exact ih (i + 1) _ (by omega) (by rw [hx, sumN]; omega)
  refine G_iconst (pc := 0) dX5_players_0 ?_
  refine G_istore_n (pc := 1) (lv' := [_, _, _]) dX5_players_1 (by decide) rfl ?_
  refine G_iconst (pc := 2) dX5_players_2 ?_
  refine G_istore_n (pc := 3) (lv' := [_, _, _]) dX5_players_3 (by decide) rfl ?_
  exact loop 120 0 _ (by omega) rfl
theorem c_person {E : EV} {M : Nat} {I J : Nat → Nat → Int} {th py : Nat → Nat} {pr sx : Int} (a : Nat) (ha : a ≤ 2147483647) (hM : 71 ≤ M) (hN : NI I th py pr sx) (h1 : ∀ p, th p ≤ 1) : FnF E mdX5_person 0 M Rf [vr E 68, vi (a : Int)] I J (some (vi (ntN th a 120))) I J := by
  refine FnQ.of (by decide +kernel) (Nat.le_of_ble_eq_true rfl) ?_
  show GM E mdX5_person 0 M Rf _ I J 0 [some (vr E 68), some (vi (a : Int)), none, none] []
  have loop : ∀ (m i : Nat) (x : Int), i + m = 120 → x = (sumN th i : Nat) → ntN th a i = -4 → GM E mdX5_person 0 M Rf (QF (some (vi (ntN th a 120))) I J) I J 4 [some (vr E 68), some (vi (a : Int)), some (vi x), some (vi (i : Int))] [] := by
    intro m
    induction m with
    | zero =>
      intro i x hi hx hn
      have hi : i = 120 := by omega
      subst hi
      refine G_iload_n (pc := 4) dX5_person_4 rfl ?_
      refine G_aload_n (pc := 5) dX5_person_5 rfl ?_
      refine G_getr (pc := 6) dX5_person_6 fiX5_9 (by first | rfl | assumption) (by omega) (by first | rfl | assumption) ?_
      refine G_alen (pc := 9) dX5_person_9 (by first | rfl | assumption) (by decide) (by omega) ?_
      refine G_icmp_ge (pc := 10) (tgt := 38) dX5_person_10 (Ri.mk (by omega) (by omega)) (Ri.mk (by omega) (by omega)) (by decide) (fun h_10 => ?_) (fun h_10 => ?_)
      · refine G_bipush (pc := 38) dX5_person_38 (by decide) ?_
        refine G_iret (pc := 40) dX5_person_40 rfl ?_
        exact ⟨by rw [hn], rfl, rfl⟩
      · exact absurd h_10 (by omega)
    | succ m ih =>
      intro i x hi hx hn
      have h11 := h1 i
      have hsi := sumN_le1 h1 i
      refine G_iload_n (pc := 4) dX5_person_4 rfl ?_
      refine G_aload_n (pc := 5) dX5_person_5 rfl ?_
      refine G_getr (pc := 6) dX5_person_6 fiX5_9 (by first | rfl | assumption) (by omega) (by first | rfl | assumption) ?_
      refine G_alen (pc := 9) dX5_person_9 (by first | rfl | assumption) (by decide) (by omega) ?_
      refine G_icmp_ge (pc := 10) (tgt := 38) dX5_person_10 (Ri.mk (by omega) (by omega)) (Ri.mk (by omega) (by omega)) (by decide) (fun h_10 => ?_) (fun h_10 => ?_)
      · exact absurd h_10 (by omega)
      · refine G_aload_n (pc := 13) dX5_person_13 rfl ?_
        refine G_getr (pc := 14) dX5_person_14 fiX5_9 (by first | rfl | assumption) (by omega) (by first | rfl | assumption) ?_
        refine G_iload_n (pc := 17) dX5_person_17 rfl ?_
        refine G_zald (pc := 18) dX5_person_18 (by first | rfl | assumption) (by omega) (by omega) (by omega) (by omega) ?_
        rw [Int.toNat_natCast, (hN.1 i (by omega)).1]
        refine G_if_eq (pc := 19) (tgt := 32) dX5_person_19 (Ri.mk (by omega) (by omega)) (by decide) (fun h_19 => ?_) (fun h_19 => ?_)
        · try simp only [bI_eq0, bI_ne0] at h_19
          refine G_iinc (pc := 32) (lv' := [_, _, _, _]) dX5_person_32 (by decide) rfl rfl ?_
          refine G_goto (pc := 35) (tgt := 4) dX5_person_35 (by decide) ?_
          exact ih (i + 1) _ (by omega) (by rw [hx, sumN]; omega) (by rw [ntN, if_neg (by omega)]; exact hn)
        · try simp only [bI_eq0, bI_ne0] at h_19
          refine G_iload_n (pc := 22) dX5_person_22 rfl ?_
          refine G_iload_n (pc := 23) dX5_person_23 rfl ?_
          refine G_icmp_ne (pc := 24) (tgt := 29) dX5_person_24 (Ri.mk (by omega) (by omega)) (Ri.mk (by omega) (by omega)) (by decide) (fun h_24 => ?_) (fun h_24 => ?_)
          · refine G_iinc (pc := 29) (lv' := [_, _, _, _]) dX5_person_29 (by decide) rfl rfl ?_
            refine G_iinc (pc := 32) (lv' := [_, _, _, _]) dX5_person_32 (by decide) rfl rfl ?_
            refine G_goto (pc := 35) (tgt := 4) dX5_person_35 (by decide) ?_
            exact ih (i + 1) _ (by omega) (by rw [hx, sumN]; omega) (by rw [ntN, if_neg (by omega)]; exact hn)
          · refine G_iload_n (pc := 27) dX5_person_27 rfl ?_
            refine G_iret (pc := 28) dX5_person_28 rfl ?_
            have e1 : ntN th a (i + 1) = (i : Int) := by rw [ntN, if_pos (by omega)]
            have e2 : ntN th a (i + 1 + m) = ntN th a (i + 1) := ntN_stay (by rw [sumN]; omega) m
            exact ⟨by rw [show (120 : Nat) = i + 1 + m by omega, e2, e1], rfl, rfl⟩
  refine G_iconst (pc := 0) dX5_person_0 ?_
  refine G_istore_n (pc := 1) (lv' := [_, _, _, _]) dX5_person_1 (by decide) rfl ?_
  refine G_iconst (pc := 2) dX5_person_2 ?_
  refine G_istore_n (pc := 3) (lv' := [_, _, _, _]) dX5_person_3 (by decide) rfl ?_
  exact loop 120 0 _ (by omega) rfl rfl
theorem c_keepOrSend {E : EV} {M : Nat} {I J : Nat → Nat → Int} {th py : Nat → Nat} {pr sx : Int} (p a b : Nat) (hp : p < 120) (ha : a ≤ 1) (hb : b ≤ 1) (hM : 71 ≤ M) (hN : NI I th py pr sx) (h1 : ∀ p, th p ≤ 1) (hpr : -2147480000 ≤ pr ∧ pr ≤ 2147480000) : FnQ E mdX5_keepOrSend 0 M Rf [vr E 68, vi (p : Int), vi (a : Int), vi (b : Int)] I J (fun v I' J' => v = none ∧ J' = J ∧ Off I I' 68 70 ∧ ((th p = 0 ∧ NI I' th py pr sx) ∨ (th p = 1 ∧ NI I' (fun x => if x = p then a else th x) (fun x => if x = p then a * b else py x) (pr - 1 + a) sx))) := by
  have h11 := h1 p
  have hn := hN.1 p hp
  have hq : ∀ (u : Int), u = pr - 1 + a → NI (wr (wr (wr I 69 p (a : Int)) 70 p ((a * b : Nat) : Int)) 68 3 u) (fun x => if x = p then a else th x) (fun x => if x = p then a * b else py x) (pr - 1 + a) sx := by
    intro u hu
    refine ⟨fun x hx => ?_, ?_, ?_⟩
    · have hnx := hN.1 x hx
      by_cases hxp : x = p
      · subst hxp; simp [wr]
      · simp [wr, hxp, hnx]
    · simp [wr, hu]
    · simp [wr]; exact hN.2.2
  have e3 : wr (wr (wr I 69 p (a : Int)) 70 p ((a * b : Nat) : Int)) 68 3 pr = wr (wr I 69 p (a : Int)) 70 p ((a * b : Nat) : Int) := by
    funext x y
    simp only [wr]
    by_cases hx : x = 68
    · by_cases hy : y = 3
      · subst hx; subst hy; simp [hN.2.1]
      · simp [hx, hy]
    · simp [hx]
  refine FnQ.of (by decide +kernel) (Nat.le_of_ble_eq_true rfl) ?_
  show GM E mdX5_keepOrSend 0 M Rf _ I J 0 [some (vr E 68), some (vi (p : Int)), some (vi (a : Int)), some (vi (b : Int))] []
  refine G_iload_n (pc := 0) dX5_keepOrSend_0 rfl ?_
  refine G_if_lt (pc := 1) (tgt := 31) dX5_keepOrSend_1 (Ri.mk (by omega) (by omega)) (by decide) (fun h_1 => ?_) (fun h_1 => ?_)
  · exact absurd h_1 (by omega)
  · refine G_iload_n (pc := 4) dX5_keepOrSend_4 rfl ?_
    refine G_aload_n (pc := 5) dX5_keepOrSend_5 rfl ?_
    refine G_getr (pc := 6) dX5_keepOrSend_6 fiX5_9 (by first | rfl | assumption) (by omega) (by first | rfl | assumption) ?_
    refine G_alen (pc := 9) dX5_keepOrSend_9 (by first | rfl | assumption) (by decide) (by omega) ?_
    refine G_icmp_ge (pc := 10) (tgt := 31) dX5_keepOrSend_10 (Ri.mk (by omega) (by omega)) (Ri.mk (by omega) (by omega)) (by decide) (fun h_10 => ?_) (fun h_10 => ?_)
    · exact absurd h_10 (by omega)
    · refine G_iload_n (pc := 13) dX5_keepOrSend_13 rfl ?_
      refine G_aload_n (pc := 14) dX5_keepOrSend_14 rfl ?_
      refine G_getr (pc := 15) dX5_keepOrSend_15 fiX5_15 (by first | rfl | assumption) (by omega) (by first | rfl | assumption) ?_
      refine G_alen (pc := 18) dX5_keepOrSend_18 (by first | rfl | assumption) (by decide) (by omega) ?_
      refine G_icmp_ge (pc := 19) (tgt := 31) dX5_keepOrSend_19 (Ri.mk (by omega) (by omega)) (Ri.mk (by omega) (by omega)) (by decide) (fun h_19 => ?_) (fun h_19 => ?_)
      · exact absurd h_19 (by omega)
      · refine G_aload_n (pc := 22) dX5_keepOrSend_22 rfl ?_
        refine G_getr (pc := 23) dX5_keepOrSend_23 fiX5_9 (by first | rfl | assumption) (by omega) (by first | rfl | assumption) ?_
        refine G_iload_n (pc := 26) dX5_keepOrSend_26 rfl ?_
        refine G_zald (pc := 27) dX5_keepOrSend_27 (by first | rfl | assumption) (by omega) (by omega) (by omega) (by omega) ?_
        rw [Int.toNat_natCast, hn.1]
        refine G_if_ne (pc := 28) (tgt := 32) dX5_keepOrSend_28 (Ri.mk (by omega) (by omega)) (by decide) (fun h_28 => ?_) (fun h_28 => ?_)
        · try simp only [bI_eq0, bI_ne0] at h_28
          refine G_aload_n (pc := 32) dX5_keepOrSend_32 rfl ?_
          refine G_getr (pc := 33) dX5_keepOrSend_33 fiX5_9 (by first | rfl | assumption) (by omega) (by first | rfl | assumption) ?_
          refine G_iload_n (pc := 36) dX5_keepOrSend_36 rfl ?_
          refine G_iload_n (pc := 37) dX5_keepOrSend_37 rfl ?_
          refine G_zast (pc := 38) dX5_keepOrSend_38 (by first | rfl | assumption) (by omega) (by omega) (by omega) (by omega) (by omega) ?_
          refine G_aload_n (pc := 39) dX5_keepOrSend_39 rfl ?_
          refine G_getr (pc := 40) dX5_keepOrSend_40 fiX5_15 (by first | rfl | assumption) (by omega) (by first | rfl | assumption) ?_
          refine G_iload_n (pc := 43) dX5_keepOrSend_43 rfl ?_
          refine G_iload_n (pc := 44) dX5_keepOrSend_44 rfl ?_
          refine G_if_eq (pc := 45) (tgt := 56) dX5_keepOrSend_45 (Ri.mk (by omega) (by omega)) (by decide) (fun h_45 => ?_) (fun h_45 => ?_)
          · try simp only [bI_eq0, bI_ne0] at h_45
            refine G_iconst (pc := 56) dX5_keepOrSend_56 ?_
            refine G_zast (pc := 57) dX5_keepOrSend_57 (by first | rfl | assumption) (by omega) (by omega) (by omega) (by omega) (by omega) ?_
            rw [Int.toNat_natCast]
            refine G_iload_n (pc := 58) dX5_keepOrSend_58 rfl ?_
            refine G_if_ne (pc := 59) (tgt := 72) dX5_keepOrSend_59 (Ri.mk (by omega) (by omega)) (by decide) (fun h_59 => ?_) (fun h_59 => ?_)
            · try simp only [bI_eq0, bI_ne0] at h_59
              refine G_vret (pc := 72) dX5_keepOrSend_72 rfl ?_
              refine ⟨rfl, rfl, fun q hq => by simp (disch := omega) only [wr_o], Or.inr ⟨by omega, ?_⟩⟩
              first
                | (exfalso; omega)
                | (have ea : a = 1 := by omega
                   have eb : b = 1 := by omega
                   subst ea; subst eb
                   have := hq pr (by omega); rw [e3] at this; exact this)
                | (have ea : a = 1 := by omega
                   have eb : b = 0 := by omega
                   subst ea; subst eb
                   have := hq pr (by omega); rw [e3] at this; exact this)
                | (have ea : a = 0 := by omega
                   subst ea
                   rw [show ((0 : Nat) * b) = 0 from Nat.zero_mul b] at hq
                   simp only [Nat.zero_mul]
                   refine hq _ ?_
                   rw [wr_o (by decide), wr_o (by decide), hN.2.1]; omega)
            · try simp only [bI_eq0, bI_ne0] at h_59
              refine G_aload_n (pc := 62) dX5_keepOrSend_62 rfl ?_
              refine G_dup (pc := 63) dX5_keepOrSend_63 rfl ?_
              refine G_geti (pc := 64) dX5_keepOrSend_64 fiX5_28 (by first | rfl | assumption) (by omega) ?_
              refine G_iconst (pc := 67) dX5_keepOrSend_67 ?_
              refine G_isub (pc := 68) dX5_keepOrSend_68 ?_
              refine G_puti (pc := 69) dX5_keepOrSend_69 fiX5_28 (by first | rfl | assumption) (by omega) ?_
              refine G_vret (pc := 72) dX5_keepOrSend_72 rfl ?_
              refine ⟨rfl, rfl, fun q hq => by simp (disch := omega) only [wr_o], Or.inr ⟨by omega, ?_⟩⟩
              first
                | (exfalso; omega)
                | (have ea : a = 1 := by omega
                   have eb : b = 1 := by omega
                   subst ea; subst eb
                   have := hq pr (by omega); rw [e3] at this; exact this)
                | (have ea : a = 1 := by omega
                   have eb : b = 0 := by omega
                   subst ea; subst eb
                   have := hq pr (by omega); rw [e3] at this; exact this)
                | (have ea : a = 0 := by omega
                   subst ea
                   rw [show ((0 : Nat) * b) = 0 from Nat.zero_mul b] at hq
                   simp only [Nat.zero_mul]
                   refine hq _ ?_
                   rw [wr_o (by decide), wr_o (by decide), hN.2.1]; omega)
          · try simp only [bI_eq0, bI_ne0] at h_45
            refine G_iload_n (pc := 48) dX5_keepOrSend_48 rfl ?_
            refine G_if_eq (pc := 49) (tgt := 56) dX5_keepOrSend_49 (Ri.mk (by omega) (by omega)) (by decide) (fun h_49 => ?_) (fun h_49 => ?_)
            · try simp only [bI_eq0, bI_ne0] at h_49
              refine G_iconst (pc := 56) dX5_keepOrSend_56 ?_
              refine G_zast (pc := 57) dX5_keepOrSend_57 (by first | rfl | assumption) (by omega) (by omega) (by omega) (by omega) (by omega) ?_
              rw [Int.toNat_natCast]
              refine G_iload_n (pc := 58) dX5_keepOrSend_58 rfl ?_
              refine G_if_ne (pc := 59) (tgt := 72) dX5_keepOrSend_59 (Ri.mk (by omega) (by omega)) (by decide) (fun h_59 => ?_) (fun h_59 => ?_)
              · try simp only [bI_eq0, bI_ne0] at h_59
                refine G_vret (pc := 72) dX5_keepOrSend_72 rfl ?_
                refine ⟨rfl, rfl, fun q hq => by simp (disch := omega) only [wr_o], Or.inr ⟨by omega, ?_⟩⟩
                first
                  | (exfalso; omega)
                  | (have ea : a = 1 := by omega
                     have eb : b = 1 := by omega
                     subst ea; subst eb
                     have := hq pr (by omega); rw [e3] at this; exact this)
                  | (have ea : a = 1 := by omega
                     have eb : b = 0 := by omega
                     subst ea; subst eb
                     have := hq pr (by omega); rw [e3] at this; exact this)
                  | (have ea : a = 0 := by omega
                     subst ea
                     rw [show ((0 : Nat) * b) = 0 from Nat.zero_mul b] at hq
                     simp only [Nat.zero_mul]
                     refine hq _ ?_
                     rw [wr_o (by decide), wr_o (by decide), hN.2.1]; omega)
              · try simp only [bI_eq0, bI_ne0] at h_59
                refine G_aload_n (pc := 62) dX5_keepOrSend_62 rfl ?_
                refine G_dup (pc := 63) dX5_keepOrSend_63 rfl ?_
                refine G_geti (pc := 64) dX5_keepOrSend_64 fiX5_28 (by first | rfl | assumption) (by omega) ?_
                refine G_iconst (pc := 67) dX5_keepOrSend_67 ?_
                refine G_isub (pc := 68) dX5_keepOrSend_68 ?_
                refine G_puti (pc := 69) dX5_keepOrSend_69 fiX5_28 (by first | rfl | assumption) (by omega) ?_
                refine G_vret (pc := 72) dX5_keepOrSend_72 rfl ?_
                refine ⟨rfl, rfl, fun q hq => by simp (disch := omega) only [wr_o], Or.inr ⟨by omega, ?_⟩⟩
                first
                  | (exfalso; omega)
                  | (have ea : a = 1 := by omega
                     have eb : b = 1 := by omega
                     subst ea; subst eb
                     have := hq pr (by omega); rw [e3] at this; exact this)
                  | (have ea : a = 1 := by omega
                     have eb : b = 0 := by omega
                     subst ea; subst eb
                     have := hq pr (by omega); rw [e3] at this; exact this)
                  | (have ea : a = 0 := by omega
                     subst ea
                     rw [show ((0 : Nat) * b) = 0 from Nat.zero_mul b] at hq
                     simp only [Nat.zero_mul]
                     refine hq _ ?_
                     rw [wr_o (by decide), wr_o (by decide), hN.2.1]; omega)
            · try simp only [bI_eq0, bI_ne0] at h_49
              refine G_iconst (pc := 52) dX5_keepOrSend_52 ?_
              refine G_goto (pc := 53) (tgt := 57) dX5_keepOrSend_53 (by decide) ?_
              refine G_zast (pc := 57) dX5_keepOrSend_57 (by first | rfl | assumption) (by omega) (by omega) (by omega) (by omega) (by omega) ?_
              rw [Int.toNat_natCast]
              refine G_iload_n (pc := 58) dX5_keepOrSend_58 rfl ?_
              refine G_if_ne (pc := 59) (tgt := 72) dX5_keepOrSend_59 (Ri.mk (by omega) (by omega)) (by decide) (fun h_59 => ?_) (fun h_59 => ?_)
              · try simp only [bI_eq0, bI_ne0] at h_59
                refine G_vret (pc := 72) dX5_keepOrSend_72 rfl ?_
                refine ⟨rfl, rfl, fun q hq => by simp (disch := omega) only [wr_o], Or.inr ⟨by omega, ?_⟩⟩
                first
                  | (exfalso; omega)
                  | (have ea : a = 1 := by omega
                     have eb : b = 1 := by omega
                     subst ea; subst eb
                     have := hq pr (by omega); rw [e3] at this; exact this)
                  | (have ea : a = 1 := by omega
                     have eb : b = 0 := by omega
                     subst ea; subst eb
                     have := hq pr (by omega); rw [e3] at this; exact this)
                  | (have ea : a = 0 := by omega
                     subst ea
                     rw [show ((0 : Nat) * b) = 0 from Nat.zero_mul b] at hq
                     simp only [Nat.zero_mul]
                     refine hq _ ?_
                     rw [wr_o (by decide), wr_o (by decide), hN.2.1]; omega)
              · try simp only [bI_eq0, bI_ne0] at h_59
                refine G_aload_n (pc := 62) dX5_keepOrSend_62 rfl ?_
                refine G_dup (pc := 63) dX5_keepOrSend_63 rfl ?_
                refine G_geti (pc := 64) dX5_keepOrSend_64 fiX5_28 (by first | rfl | assumption) (by omega) ?_
                refine G_iconst (pc := 67) dX5_keepOrSend_67 ?_
                refine G_isub (pc := 68) dX5_keepOrSend_68 ?_
                refine G_puti (pc := 69) dX5_keepOrSend_69 fiX5_28 (by first | rfl | assumption) (by omega) ?_
                refine G_vret (pc := 72) dX5_keepOrSend_72 rfl ?_
                refine ⟨rfl, rfl, fun q hq => by simp (disch := omega) only [wr_o], Or.inr ⟨by omega, ?_⟩⟩
                first
                  | (exfalso; omega)
                  | (have ea : a = 1 := by omega
                     have eb : b = 1 := by omega
                     subst ea; subst eb
                     have := hq pr (by omega); rw [e3] at this; exact this)
                  | (have ea : a = 1 := by omega
                     have eb : b = 0 := by omega
                     subst ea; subst eb
                     have := hq pr (by omega); rw [e3] at this; exact this)
                  | (have ea : a = 0 := by omega
                     subst ea
                     rw [show ((0 : Nat) * b) = 0 from Nat.zero_mul b] at hq
                     simp only [Nat.zero_mul]
                     refine hq _ ?_
                     rw [wr_o (by decide), wr_o (by decide), hN.2.1]; omega)
        · try simp only [bI_eq0, bI_ne0] at h_28
          refine G_vret (pc := 31) dX5_keepOrSend_31 rfl ?_
          exact ⟨rfl, rfl, Off.rfl, Or.inl ⟨by omega, hN⟩⟩
theorem c_keepI {E : EV} {M : Nat} {I J : Nat → Nat → Int} {th py : Nat → Nat} {pr sx : Int} (p : Nat) (a b : Int) (hp : p < 120) (ha : a = 0 ∨ a = 1) (hb : b = 0 ∨ b = 1) (hM : 71 ≤ M) (hN : NI I th py pr sx) (h1 : ∀ p, th p ≤ 1) (hpr : -2147480000 ≤ pr ∧ pr ≤ 2147480000) : FnQ E mdX5_keepOrSend 0 M Rf [vr E 68, vi (p : Int), vi a, vi b] I J (fun v I' J' => v = none ∧ J' = J ∧ Off I I' 68 70 ∧ ((th p = 0 ∧ NI I' th py pr sx) ∨ (th p = 1 ∧ NI I' (fun x => if x = p then a.toNat else th x) (fun x => if x = p then a.toNat * b.toNat else py x) (pr - 1 + a.toNat) sx))) := by
  have e1 : a = (a.toNat : Int) := by omega
  have e2 : b = (b.toNat : Int) := by omega
  refine FnQ.av (av' := [vr E 68, vi (p : Int), vi (a.toNat : Int), vi (b.toNat : Int)]) (by rw [← e1, ← e2]) (c_keepOrSend p a.toNat b.toNat hp (by omega) (by omega) hM hN h1 hpr)
theorem c_Nask {E : EV} {M : Nat} {I J : Nat → Nat → Int} {hs : HS} {C : CS} {th py : Nat → Nat} {sx : Int} (r t z : Nat) (hr : isRow r) (hM : 71 ≤ M) (hH : HI I 3 hs) (hB : HB hs) (hR : RI I r C) (hRB : RB hs C) (ht : t < C 0 0) (hz : z < 10000) (hT : tB (zN hs) th py) (hN : NI I th py (sumN th (zN hs) : Nat) sx) : FnQ E mdX5_ask 2 M Rf [vr E 68, vr E r, vi (t : Int), vl ((7919 * z + 3571 * t + 1 : Nat) : Int)] I J (fun v I' J' => v = none ∧ J' = J ∧ Off I I' 68 70 ∧ NI I' (thU hs C z t (ffN th py (zN hs)) th) (pyU hs C z t (ffN th py (zN hs)) th) (sumN (thU hs C z t (ffN th py (zN hs)) th) (zN hs) : Nat) sx) := by
  obtain ⟨t1, t2, t3⟩ := hT
  have bS := hB.1
  have bN := hB.2.2.1
  have b4 := hB.2.2.2.1
  have n8 := hRB.1
  have hb := hRB.2 t ht
  have hk60 := (Row_all hr).1
  have hshr := (Row_all hr).2.1
  have v8 : I 3 8 = (zS hs : Int) := hH.2.2 8 (by omega) (by omega)
  have hfo : ((if ntN th 0 120 = -4 then 0 else py (ntN th 0 120).toNat : Nat)) = ffN th py (zN hs) := by
    rw [ffN_nt, show (120 : Nat) = zN hs + (120 - zN hs) by omega, ntN_zero t2]
  have hp1 : ∀ p, py p ≤ 1 := fun p => Nat.le_trans (t3 p) (t1 p)
  obtain ⟨fo, hfd⟩ : ∃ fo, fo = ffN th py (zN hs) := ⟨_, rfl⟩
  have hfo1 : fo ≤ 1 := by rw [hfd, ← hfo]; split <;> first | omega | exact hp1 _
  have hnr := ntN_R th 0 120
  rw [← hfd] at hfo ⊢
  obtain ⟨th', hth⟩ : ∃ f, f = thU hs C z t fo th := ⟨_, rfl⟩
  obtain ⟨py', hpy⟩ : ∃ f, f = pyU hs C z t fo th := ⟨_, rfl⟩
  rw [← hth, ← hpy]
  have u1 : ∀ p, th' p ≤ 1 := fun p => by rw [hth]; simp only [thU]; split <;> omega
  have u2 : ∀ p, zN hs ≤ p → th' p = th p := fun p hp => by rw [hth]; simp only [thU]; rw [if_neg (by rw [t2 p hp]; omega), t2 p hp]
  have u3 : ∀ p, zN hs ≤ p → py' p = py p := fun p hp => by
    have h1 := t3 p
    have h2 := t2 p hp
    rw [hpy]; simp only [pyU]; rw [if_neg (by rw [h2]; omega)]; omega
  have m1 : ∀ p x, mx th' th p x ≤ 1 := fun p x => by simp only [mx]; split; exact u1 x; exact t1 x
  refine FnQ.of (by decide +kernel) (Nat.le_of_ble_eq_true rfl) ?_
  show GM E mdX5_ask 2 M Rf _ I J 0 [some (vr E 68), some (vr E r), some (vi (t : Int)), some (vl ((7919 * z + 3571 * t + 1 : Nat) : Int)), none, none, none, none, none, none, none, none, none] []
  generalize hQ : (fun (v : Option Value) (I' J' : Nat → Nat → Int) => v = none ∧ J' = J ∧ Off I I' 68 70 ∧ NI I' th' py' (sumN th' (zN hs) : Nat) sx) = Q
  have outer : ∀ (m s : Nat) (I' : Nat → Nat → Int) (e1 e2 e3 : Option Value), s + m = zS hs → Off I I' 68 70 → NI I' (mx th' th (sumN (hs 0) s)) (mx py' py (sumN (hs 0) s)) (sumN (mx th' th (sumN (hs 0) s)) (zN hs) : Nat) sx → GM E mdX5_ask 2 M Rf Q I' J 35 [some (vr E 68), some (vr E r), some (vi (t : Int)), some (vl ((7919 * z + 3571 * t + 1 : Nat) : Int)), none, some (vi (C 1 t : Int)), some (vi (fo : Int)), some (vi (sumN (hs 0) s : Int)), some (vi (sumN (hs 0) s : Int)), some (vi (s : Int)), e1, e2, e3] [] := by
    intro m
    induction m with
    | zero =>
      intro s I' e1 e2 e3 hs0 hO hNI
      have hs1 : s = zS hs := by omega
      subst hs1
      have v8' : I' 3 8 = (zS hs : Int) := by rw [hO 3 (by omega)]; exact v8
      rw [← b4, mx_top u2, mx_top u3] at hNI
      refine G_iload (pc := 35) dX5_ask_35 rfl ?_
      refine G_aload_n (pc := 37) dX5_ask_37 rfl ?_
      refine G_getr (pc := 38) dX5_ask_38 fiX5_18 (by first | rfl | assumption) (by omega) (by first | rfl | assumption) ?_
      refine G_geti (pc := 41) dX5_ask_41 fiX5_57 (by first | rfl | assumption) (by omega) ?_
      refine G_icmp_ge (pc := 44) (tgt := 186) dX5_ask_44 (Ri.mk (by omega) (by omega)) (Ri.mk (by omega) (by omega)) (by decide) (fun h_44 => ?_) (fun h_44 => ?_)
      · refine G_vret (pc := 186) dX5_ask_186 rfl ?_
        rw [← hQ]; exact ⟨rfl, rfl, hO, hNI⟩
      · exact absurd h_44 (by omega)
    | succ m ih =>
      intro s I' e1 e2 e3 hs0 hO hNI
      have v8' : I' 3 8 = (zS hs : Int) := by rw [hO 3 (by omega)]; exact v8
      have hH' : HI I' 3 hs := hH.off fun q h1 h2 => hO q (by omega)
      have hsum : sumN (hs 0) (s + 1) = sumN (hs 0) s + hs 0 s := rfl
      have hsle := sumN_part hB (show s + 1 ≤ zS hs by omega)
      have hsN : sumN (hs 0) (s + 1) ≤ zN hs := by rw [b4]; exact sumN_mono (by omega)
      have hf10 := fe_le hs s (C 1 t) 0
      have hp10 := pl_le hs s (C 1 t) 0
      obtain ⟨d, hd⟩ : ∃ d, d = dN hs C t fo s := ⟨_, rfl⟩
      have hd100 : d ≤ 100 := by rw [hd]; exact dof_le hf10 (by omega)
      have inner : ∀ (k p : Nat) (I' : Nat → Nat → Int) (e3 : Option Value), p + k = sumN (hs 0) (s + 1) → sumN (hs 0) s ≤ p → Off I I' 68 70 → NI I' (mx th' th p) (mx py' py p) (sumN (mx th' th p) (zN hs) : Nat) sx → GM E mdX5_ask 2 M Rf Q I' J 100 [some (vr E 68), some (vr E r), some (vi (t : Int)), some (vl ((7919 * z + 3571 * t + 1 : Nat) : Int)), none, some (vi (C 1 t : Int)), some (vi (fo : Int)), some (vi (sumN (hs 0) (s + 1) : Int)), some (vi (p : Int)), some (vi (s : Int)), some (vi (fe hs s (C 1 t) 0 : Int)), some (vi (d : Int)), e3] [] := by
        intro k
        induction k with
        | zero =>
          intro p I' e3 hp1 hp2 hO hNI
          have hp : p = sumN (hs 0) (s + 1) := by omega
          subst hp
          refine G_iload (pc := 100) dX5_ask_100 rfl ?_
          refine G_iload (pc := 102) dX5_ask_102 rfl ?_
          refine G_icmp_ge (pc := 104) (tgt := 180) dX5_ask_104 (Ri.mk (by omega) (by omega)) (Ri.mk (by omega) (by omega)) (by decide) (fun h_104 => ?_) (fun h_104 => ?_)
          · refine G_iinc (pc := 180) (lv' := [_, _, _, _, _, _, _, _, _, _, _, _, _]) dX5_ask_180 (by decide) rfl rfl ?_
            refine G_goto (pc := 183) (tgt := 35) dX5_ask_183 (by decide) ?_
            exact ih (s + 1) _ _ _ _ (by omega) hO hNI
          · exact absurd h_104 (by omega)
        | succ k ihk =>
          intro p I' e3 hp1 hp2 hO hNI
          have hR' : RI I' r C := hR.off fun q h1 h2 => hO q (by omega)
          have hso : soF hs (zS hs) p = s := soF_eq hp2 (by omega) _ (by omega)
          obtain ⟨rz, hrz⟩ : ∃ rz, rz = rzN z p t := ⟨_, rfl⟩
          have hrz100 : rz < 100 := by rw [hrz, rzN]; exact Nat.mod_lt _ (by decide)
          have hk1 : bI (C 2 t = 0) = 1 ↔ C 2 t = 0 := bI_eq1
          have hk0 : bI (C 2 t = 0) = 0 ↔ ¬ C 2 t = 0 := bI_eq0
          have hk01 : bI (C 2 t = 0) = 0 ∨ bI (C 2 t = 0) = 1 := bI_01
          have hmp : mx th' th p p = th p := by simp [mx]
          have hsl := sumN_le1 (m1 p) (zN hs)
          have ht1p := t1 p
          have step : ∀ (a b : Nat) (I'' : Nat → Nat → Int), (a = 1 ∧ (rz < d ↔ C 2 t = 0) ∨ a = 0 ∧ ¬ (rz < d ↔ C 2 t = 0)) → (b = 1 ∧ (rz < d ∧ 10 * fe hs s (C 1 t) 0 ≤ rz) ∨ b = 0 ∧ ¬ (rz < d ∧ 10 * fe hs s (C 1 t) 0 ≤ rz)) → ((mx th' th p p = 0 ∧ NI I'' (mx th' th p) (mx py' py p) (sumN (mx th' th p) (zN hs) : Nat) sx) ∨ (mx th' th p p = 1 ∧ NI I'' (fun x => if x = p then a else mx th' th p x) (fun x => if x = p then a * b else mx py' py p x) ((sumN (mx th' th p) (zN hs) : Nat) - 1 + a) sx)) → NI I'' (mx th' th (p + 1)) (mx py' py (p + 1)) (sumN (mx th' th (p + 1)) (zN hs) : Nat) sx := by
            intro a b I'' ha hb2 hc
            rw [hmp] at hc
            have et : th' p = if th p = 1 ∧ (rz < d ↔ C 2 t = 0) then 1 else 0 := by rw [hth, hrz, hd]; simp only [thU]; rw [hso]
            have ey : py' p = if (th p = 1 ∧ (rz < d ↔ C 2 t = 0)) ∧ rz < d ∧ 10 * fe hs s (C 1 t) 0 ≤ rz then 1 else 0 := by rw [hpy, hrz, hd]; simp only [pyU]; rw [hso]
            rcases hc with ⟨h0, hN0⟩ | ⟨h1, hN1⟩
            · have e1 : mx th' th (p + 1) = mx th' th p := by
                rw [mx_n (show th' p = 0 by rw [et, if_neg (by omega)])]
                funext x; by_cases hx : x = p
                · subst hx; simp [hmp, h0]
                · simp [hx]
              have e2 : mx py' py (p + 1) = mx py' py p := by
                rw [mx_n (show py' p = 0 by rw [ey, if_neg (by omega)])]
                funext x; by_cases hx : x = p
                · subst hx; have := t3 x; simp [mx]; omega
                · simp [hx]
              rw [e1, e2]; exact hN0
            · have e1 : th' p = a := by
                rw [et]; rcases ha with ⟨h, h2⟩ | ⟨h, h2⟩
                · rw [if_pos ⟨h1, h2⟩, h]
                · rw [if_neg (fun z => h2 z.2), h]
              have e2 : py' p = a * b := by
                rw [ey]; rcases ha with ⟨h, h2⟩ | ⟨h, h2⟩
                · rcases hb2 with ⟨g, g2⟩ | ⟨g, g2⟩
                  · rw [if_pos ⟨⟨h1, h2⟩, g2⟩, h, g]
                  · rw [if_neg (fun z => g2 z.2), h, g]
                · rw [if_neg (fun z => h2 z.1.2), h, Nat.zero_mul]
              have e3 := sumN_upd (f := mx th' th p) (p := p) (v := a) (zN hs) (by omega)
              rw [hmp, h1] at e3
              rw [mx_n e1, mx_n e2]
              rw [show ((sumN (fun x => if x = p then a else mx th' th p x) (zN hs) : Nat) : Int) = ((sumN (mx th' th p) (zN hs) : Nat) : Int) - 1 + a by omega]
              exact hN1
          refine G_iload (pc := 100) dX5_ask_100 rfl ?_
          refine G_iload (pc := 102) dX5_ask_102 rfl ?_
          refine G_icmp_ge (pc := 104) (tgt := 180) dX5_ask_104 (Ri.mk (by omega) (by omega)) (Ri.mk (by omega) (by omega)) (by decide) (fun h_104 => ?_) (fun h_104 => ?_)
          · exact absurd h_104 (by omega)
          · refine G_lload_n (pc := 107) dX5_ask_107 rfl ?_
            refine G_ldc2 (pc := 108) dX5_ask_108 klX5_76 ?_
            refine G_iload (pc := 111) dX5_ask_111 rfl ?_
            refine G_i2l (pc := 113) dX5_ask_113 (Ri.mk (by omega) (by omega)) ?_
            refine G_lmul (pc := 114) dX5_ask_114 ?_
            refine G_ladd (pc := 115) dX5_ask_115 ?_
            refine G_callS1 (pc := 116) (md := mdX5_draw) (av := [_]) dX5_ask_116 lkX5_78 mwX5_draw (FnQ.av (by congr 3; omega) (c_draw (7919 * z + 6151 * p + 3571 * t + 1) (by omega))) rfl rfl (Nat.le_of_ble_eq_true rfl) (by decide) ⟨Nat.zero_le _, Nat.zero_le _⟩ ?_
            rw [show (7919 * z + 6151 * p + 3571 * t + 1) * (7919 * z + 6151 * p + 3571 * t + 1) % 65521 % 100 = rz from hrz.symm]
            refine G_istore (pc := 119) (lv' := [_, _, _, _, _, _, _, _, _, _, _, _, _]) dX5_ask_119 (by decide) rfl ?_
            refine G_aload_n (pc := 121) dX5_ask_121 rfl ?_
            refine G_iload (pc := 122) dX5_ask_122 rfl ?_
            refine G_iload (pc := 124) dX5_ask_124 rfl ?_
            refine G_iload (pc := 126) dX5_ask_126 rfl ?_
            refine G_icmp_ge (pc := 128) (tgt := 135) dX5_ask_128 (Ri.mk (by omega) (by omega)) (Ri.mk (by omega) (by omega)) (by decide) (fun h_128 => ?_) (fun h_128 => ?_)
            · refine G_iconst (pc := 135) dX5_ask_135 ?_
              refine G_aload_n (pc := 136) dX5_ask_136 rfl ?_
              refine G_iload_n (pc := 137) dX5_ask_137 rfl ?_
              refine G_callV1 (pc := 138) (md := mdX7_keepsDoers) (av := [_]) dX5_ask_138 lkX5_82 mwX7_keepsDoers (c_Rkeeps r t hr hM hR' n8 ht hb.2) rfl (by first | rfl | assumption) (by omega) rfl rfl (Nat.le_of_ble_eq_true rfl) (by decide) ⟨Nat.zero_le _, Nat.zero_le _⟩ ?_
              refine G_icmp_ne (pc := 141) (tgt := 148) dX5_ask_141 (Ri.mk (by omega) (by omega)) bI_R (by decide) (fun h_141 => ?_) (fun h_141 => ?_)
              · refine G_iconst (pc := 148) dX5_ask_148 ?_
                refine G_iload (pc := 149) dX5_ask_149 rfl ?_
                refine G_iload (pc := 151) dX5_ask_151 rfl ?_
                refine G_icmp_ge (pc := 153) (tgt := 170) dX5_ask_153 (Ri.mk (by omega) (by omega)) (Ri.mk (by omega) (by omega)) (by decide) (fun h_153 => ?_) (fun h_153 => ?_)
                · refine G_iconst (pc := 170) dX5_ask_170 ?_
                  refine G_callV (pc := 171) (md := mdX5_keepOrSend) (av := [_, _, _]) dX5_ask_171 lkX5_85 mwX5_keepOrSend (c_keepI p _ _ (by omega) (by omega) (by omega) hM hNI (m1 p) (by omega)) rfl (by first | rfl | assumption) (by omega) rfl rfl (Nat.le_of_ble_eq_true rfl) (by decide) ⟨Nat.zero_le _, Nat.zero_le _⟩ ?_
                  rintro v I2 J2 ⟨rfl, rfl, hO2, hc⟩
                  refine G_iinc (pc := 174) (lv' := [_, _, _, _, _, _, _, _, _, _, _, _, _]) dX5_ask_174 (by decide) rfl rfl ?_
                  refine G_goto (pc := 177) (tgt := 100) dX5_ask_177 (by decide) ?_
                  exact ihk (p + 1) _ _ (by omega) (by omega) (hO.trans hO2) (step _ _ _ (by omega) (by omega) hc)
                · refine G_iload (pc := 156) dX5_ask_156 rfl ?_
                  refine G_bipush (pc := 158) dX5_ask_158 (by decide) ?_
                  refine G_iload (pc := 160) dX5_ask_160 rfl ?_
                  refine G_imul (pc := 162) dX5_ask_162 ?_
                  refine G_icmp_lt (pc := 163) (tgt := 170) dX5_ask_163 (Ri.mk (by omega) (by omega)) (Ri.mk (by omega) (by omega)) (by decide) (fun h_163 => ?_) (fun h_163 => ?_)
                  · refine G_iconst (pc := 170) dX5_ask_170 ?_
                    refine G_callV (pc := 171) (md := mdX5_keepOrSend) (av := [_, _, _]) dX5_ask_171 lkX5_85 mwX5_keepOrSend (c_keepI p _ _ (by omega) (by omega) (by omega) hM hNI (m1 p) (by omega)) rfl (by first | rfl | assumption) (by omega) rfl rfl (Nat.le_of_ble_eq_true rfl) (by decide) ⟨Nat.zero_le _, Nat.zero_le _⟩ ?_
                    rintro v I2 J2 ⟨rfl, rfl, hO2, hc⟩
                    refine G_iinc (pc := 174) (lv' := [_, _, _, _, _, _, _, _, _, _, _, _, _]) dX5_ask_174 (by decide) rfl rfl ?_
                    refine G_goto (pc := 177) (tgt := 100) dX5_ask_177 (by decide) ?_
                    exact ihk (p + 1) _ _ (by omega) (by omega) (hO.trans hO2) (step _ _ _ (by omega) (by omega) hc)
                  · refine G_iconst (pc := 166) dX5_ask_166 ?_
                    refine G_goto (pc := 167) (tgt := 171) dX5_ask_167 (by decide) ?_
                    refine G_callV (pc := 171) (md := mdX5_keepOrSend) (av := [_, _, _]) dX5_ask_171 lkX5_85 mwX5_keepOrSend (c_keepI p _ _ (by omega) (by omega) (by omega) hM hNI (m1 p) (by omega)) rfl (by first | rfl | assumption) (by omega) rfl rfl (Nat.le_of_ble_eq_true rfl) (by decide) ⟨Nat.zero_le _, Nat.zero_le _⟩ ?_
                    rintro v I2 J2 ⟨rfl, rfl, hO2, hc⟩
                    refine G_iinc (pc := 174) (lv' := [_, _, _, _, _, _, _, _, _, _, _, _, _]) dX5_ask_174 (by decide) rfl rfl ?_
                    refine G_goto (pc := 177) (tgt := 100) dX5_ask_177 (by decide) ?_
                    exact ihk (p + 1) _ _ (by omega) (by omega) (hO.trans hO2) (step _ _ _ (by omega) (by omega) hc)
              · refine G_iconst (pc := 144) dX5_ask_144 ?_
                refine G_goto (pc := 145) (tgt := 149) dX5_ask_145 (by decide) ?_
                refine G_iload (pc := 149) dX5_ask_149 rfl ?_
                refine G_iload (pc := 151) dX5_ask_151 rfl ?_
                refine G_icmp_ge (pc := 153) (tgt := 170) dX5_ask_153 (Ri.mk (by omega) (by omega)) (Ri.mk (by omega) (by omega)) (by decide) (fun h_153 => ?_) (fun h_153 => ?_)
                · refine G_iconst (pc := 170) dX5_ask_170 ?_
                  refine G_callV (pc := 171) (md := mdX5_keepOrSend) (av := [_, _, _]) dX5_ask_171 lkX5_85 mwX5_keepOrSend (c_keepI p _ _ (by omega) (by omega) (by omega) hM hNI (m1 p) (by omega)) rfl (by first | rfl | assumption) (by omega) rfl rfl (Nat.le_of_ble_eq_true rfl) (by decide) ⟨Nat.zero_le _, Nat.zero_le _⟩ ?_
                  rintro v I2 J2 ⟨rfl, rfl, hO2, hc⟩
                  refine G_iinc (pc := 174) (lv' := [_, _, _, _, _, _, _, _, _, _, _, _, _]) dX5_ask_174 (by decide) rfl rfl ?_
                  refine G_goto (pc := 177) (tgt := 100) dX5_ask_177 (by decide) ?_
                  exact ihk (p + 1) _ _ (by omega) (by omega) (hO.trans hO2) (step _ _ _ (by omega) (by omega) hc)
                · refine G_iload (pc := 156) dX5_ask_156 rfl ?_
                  refine G_bipush (pc := 158) dX5_ask_158 (by decide) ?_
                  refine G_iload (pc := 160) dX5_ask_160 rfl ?_
                  refine G_imul (pc := 162) dX5_ask_162 ?_
                  refine G_icmp_lt (pc := 163) (tgt := 170) dX5_ask_163 (Ri.mk (by omega) (by omega)) (Ri.mk (by omega) (by omega)) (by decide) (fun h_163 => ?_) (fun h_163 => ?_)
                  · refine G_iconst (pc := 170) dX5_ask_170 ?_
                    refine G_callV (pc := 171) (md := mdX5_keepOrSend) (av := [_, _, _]) dX5_ask_171 lkX5_85 mwX5_keepOrSend (c_keepI p _ _ (by omega) (by omega) (by omega) hM hNI (m1 p) (by omega)) rfl (by first | rfl | assumption) (by omega) rfl rfl (Nat.le_of_ble_eq_true rfl) (by decide) ⟨Nat.zero_le _, Nat.zero_le _⟩ ?_
                    rintro v I2 J2 ⟨rfl, rfl, hO2, hc⟩
                    refine G_iinc (pc := 174) (lv' := [_, _, _, _, _, _, _, _, _, _, _, _, _]) dX5_ask_174 (by decide) rfl rfl ?_
                    refine G_goto (pc := 177) (tgt := 100) dX5_ask_177 (by decide) ?_
                    exact ihk (p + 1) _ _ (by omega) (by omega) (hO.trans hO2) (step _ _ _ (by omega) (by omega) hc)
                  · refine G_iconst (pc := 166) dX5_ask_166 ?_
                    refine G_goto (pc := 167) (tgt := 171) dX5_ask_167 (by decide) ?_
                    refine G_callV (pc := 171) (md := mdX5_keepOrSend) (av := [_, _, _]) dX5_ask_171 lkX5_85 mwX5_keepOrSend (c_keepI p _ _ (by omega) (by omega) (by omega) hM hNI (m1 p) (by omega)) rfl (by first | rfl | assumption) (by omega) rfl rfl (Nat.le_of_ble_eq_true rfl) (by decide) ⟨Nat.zero_le _, Nat.zero_le _⟩ ?_
                    rintro v I2 J2 ⟨rfl, rfl, hO2, hc⟩
                    refine G_iinc (pc := 174) (lv' := [_, _, _, _, _, _, _, _, _, _, _, _, _]) dX5_ask_174 (by decide) rfl rfl ?_
                    refine G_goto (pc := 177) (tgt := 100) dX5_ask_177 (by decide) ?_
                    exact ihk (p + 1) _ _ (by omega) (by omega) (hO.trans hO2) (step _ _ _ (by omega) (by omega) hc)
            · refine G_iconst (pc := 131) dX5_ask_131 ?_
              refine G_goto (pc := 132) (tgt := 136) dX5_ask_132 (by decide) ?_
              refine G_aload_n (pc := 136) dX5_ask_136 rfl ?_
              refine G_iload_n (pc := 137) dX5_ask_137 rfl ?_
              refine G_callV1 (pc := 138) (md := mdX7_keepsDoers) (av := [_]) dX5_ask_138 lkX5_82 mwX7_keepsDoers (c_Rkeeps r t hr hM hR' n8 ht hb.2) rfl (by first | rfl | assumption) (by omega) rfl rfl (Nat.le_of_ble_eq_true rfl) (by decide) ⟨Nat.zero_le _, Nat.zero_le _⟩ ?_
              refine G_icmp_ne (pc := 141) (tgt := 148) dX5_ask_141 (Ri.mk (by omega) (by omega)) bI_R (by decide) (fun h_141 => ?_) (fun h_141 => ?_)
              · refine G_iconst (pc := 148) dX5_ask_148 ?_
                refine G_iload (pc := 149) dX5_ask_149 rfl ?_
                refine G_iload (pc := 151) dX5_ask_151 rfl ?_
                refine G_icmp_ge (pc := 153) (tgt := 170) dX5_ask_153 (Ri.mk (by omega) (by omega)) (Ri.mk (by omega) (by omega)) (by decide) (fun h_153 => ?_) (fun h_153 => ?_)
                · refine G_iconst (pc := 170) dX5_ask_170 ?_
                  refine G_callV (pc := 171) (md := mdX5_keepOrSend) (av := [_, _, _]) dX5_ask_171 lkX5_85 mwX5_keepOrSend (c_keepI p _ _ (by omega) (by omega) (by omega) hM hNI (m1 p) (by omega)) rfl (by first | rfl | assumption) (by omega) rfl rfl (Nat.le_of_ble_eq_true rfl) (by decide) ⟨Nat.zero_le _, Nat.zero_le _⟩ ?_
                  rintro v I2 J2 ⟨rfl, rfl, hO2, hc⟩
                  refine G_iinc (pc := 174) (lv' := [_, _, _, _, _, _, _, _, _, _, _, _, _]) dX5_ask_174 (by decide) rfl rfl ?_
                  refine G_goto (pc := 177) (tgt := 100) dX5_ask_177 (by decide) ?_
                  exact ihk (p + 1) _ _ (by omega) (by omega) (hO.trans hO2) (step _ _ _ (by omega) (by omega) hc)
                · refine G_iload (pc := 156) dX5_ask_156 rfl ?_
                  refine G_bipush (pc := 158) dX5_ask_158 (by decide) ?_
                  refine G_iload (pc := 160) dX5_ask_160 rfl ?_
                  refine G_imul (pc := 162) dX5_ask_162 ?_
                  refine G_icmp_lt (pc := 163) (tgt := 170) dX5_ask_163 (Ri.mk (by omega) (by omega)) (Ri.mk (by omega) (by omega)) (by decide) (fun h_163 => ?_) (fun h_163 => ?_)
                  · refine G_iconst (pc := 170) dX5_ask_170 ?_
                    refine G_callV (pc := 171) (md := mdX5_keepOrSend) (av := [_, _, _]) dX5_ask_171 lkX5_85 mwX5_keepOrSend (c_keepI p _ _ (by omega) (by omega) (by omega) hM hNI (m1 p) (by omega)) rfl (by first | rfl | assumption) (by omega) rfl rfl (Nat.le_of_ble_eq_true rfl) (by decide) ⟨Nat.zero_le _, Nat.zero_le _⟩ ?_
                    rintro v I2 J2 ⟨rfl, rfl, hO2, hc⟩
                    refine G_iinc (pc := 174) (lv' := [_, _, _, _, _, _, _, _, _, _, _, _, _]) dX5_ask_174 (by decide) rfl rfl ?_
                    refine G_goto (pc := 177) (tgt := 100) dX5_ask_177 (by decide) ?_
                    exact ihk (p + 1) _ _ (by omega) (by omega) (hO.trans hO2) (step _ _ _ (by omega) (by omega) hc)
                  · refine G_iconst (pc := 166) dX5_ask_166 ?_
                    refine G_goto (pc := 167) (tgt := 171) dX5_ask_167 (by decide) ?_
                    refine G_callV (pc := 171) (md := mdX5_keepOrSend) (av := [_, _, _]) dX5_ask_171 lkX5_85 mwX5_keepOrSend (c_keepI p _ _ (by omega) (by omega) (by omega) hM hNI (m1 p) (by omega)) rfl (by first | rfl | assumption) (by omega) rfl rfl (Nat.le_of_ble_eq_true rfl) (by decide) ⟨Nat.zero_le _, Nat.zero_le _⟩ ?_
                    rintro v I2 J2 ⟨rfl, rfl, hO2, hc⟩
                    refine G_iinc (pc := 174) (lv' := [_, _, _, _, _, _, _, _, _, _, _, _, _]) dX5_ask_174 (by decide) rfl rfl ?_
                    refine G_goto (pc := 177) (tgt := 100) dX5_ask_177 (by decide) ?_
                    exact ihk (p + 1) _ _ (by omega) (by omega) (hO.trans hO2) (step _ _ _ (by omega) (by omega) hc)
              · refine G_iconst (pc := 144) dX5_ask_144 ?_
                refine G_goto (pc := 145) (tgt := 149) dX5_ask_145 (by decide) ?_
                refine G_iload (pc := 149) dX5_ask_149 rfl ?_
                refine G_iload (pc := 151) dX5_ask_151 rfl ?_
                refine G_icmp_ge (pc := 153) (tgt := 170) dX5_ask_153 (Ri.mk (by omega) (by omega)) (Ri.mk (by omega) (by omega)) (by decide) (fun h_153 => ?_) (fun h_153 => ?_)
                · refine G_iconst (pc := 170) dX5_ask_170 ?_
                  refine G_callV (pc := 171) (md := mdX5_keepOrSend) (av := [_, _, _]) dX5_ask_171 lkX5_85 mwX5_keepOrSend (c_keepI p _ _ (by omega) (by omega) (by omega) hM hNI (m1 p) (by omega)) rfl (by first | rfl | assumption) (by omega) rfl rfl (Nat.le_of_ble_eq_true rfl) (by decide) ⟨Nat.zero_le _, Nat.zero_le _⟩ ?_
                  rintro v I2 J2 ⟨rfl, rfl, hO2, hc⟩
                  refine G_iinc (pc := 174) (lv' := [_, _, _, _, _, _, _, _, _, _, _, _, _]) dX5_ask_174 (by decide) rfl rfl ?_
                  refine G_goto (pc := 177) (tgt := 100) dX5_ask_177 (by decide) ?_
                  exact ihk (p + 1) _ _ (by omega) (by omega) (hO.trans hO2) (step _ _ _ (by omega) (by omega) hc)
                · refine G_iload (pc := 156) dX5_ask_156 rfl ?_
                  refine G_bipush (pc := 158) dX5_ask_158 (by decide) ?_
                  refine G_iload (pc := 160) dX5_ask_160 rfl ?_
                  refine G_imul (pc := 162) dX5_ask_162 ?_
                  refine G_icmp_lt (pc := 163) (tgt := 170) dX5_ask_163 (Ri.mk (by omega) (by omega)) (Ri.mk (by omega) (by omega)) (by decide) (fun h_163 => ?_) (fun h_163 => ?_)
                  · refine G_iconst (pc := 170) dX5_ask_170 ?_
                    refine G_callV (pc := 171) (md := mdX5_keepOrSend) (av := [_, _, _]) dX5_ask_171 lkX5_85 mwX5_keepOrSend (c_keepI p _ _ (by omega) (by omega) (by omega) hM hNI (m1 p) (by omega)) rfl (by first | rfl | assumption) (by omega) rfl rfl (Nat.le_of_ble_eq_true rfl) (by decide) ⟨Nat.zero_le _, Nat.zero_le _⟩ ?_
                    rintro v I2 J2 ⟨rfl, rfl, hO2, hc⟩
                    refine G_iinc (pc := 174) (lv' := [_, _, _, _, _, _, _, _, _, _, _, _, _]) dX5_ask_174 (by decide) rfl rfl ?_
                    refine G_goto (pc := 177) (tgt := 100) dX5_ask_177 (by decide) ?_
                    exact ihk (p + 1) _ _ (by omega) (by omega) (hO.trans hO2) (step _ _ _ (by omega) (by omega) hc)
                  · refine G_iconst (pc := 166) dX5_ask_166 ?_
                    refine G_goto (pc := 167) (tgt := 171) dX5_ask_167 (by decide) ?_
                    refine G_callV (pc := 171) (md := mdX5_keepOrSend) (av := [_, _, _]) dX5_ask_171 lkX5_85 mwX5_keepOrSend (c_keepI p _ _ (by omega) (by omega) (by omega) hM hNI (m1 p) (by omega)) rfl (by first | rfl | assumption) (by omega) rfl rfl (Nat.le_of_ble_eq_true rfl) (by decide) ⟨Nat.zero_le _, Nat.zero_le _⟩ ?_
                    rintro v I2 J2 ⟨rfl, rfl, hO2, hc⟩
                    refine G_iinc (pc := 174) (lv' := [_, _, _, _, _, _, _, _, _, _, _, _, _]) dX5_ask_174 (by decide) rfl rfl ?_
                    refine G_goto (pc := 177) (tgt := 100) dX5_ask_177 (by decide) ?_
                    exact ihk (p + 1) _ _ (by omega) (by omega) (hO.trans hO2) (step _ _ _ (by omega) (by omega) hc)
      refine G_iload (pc := 35) dX5_ask_35 rfl ?_
      refine G_aload_n (pc := 37) dX5_ask_37 rfl ?_
      refine G_getr (pc := 38) dX5_ask_38 fiX5_18 (by first | rfl | assumption) (by omega) (by first | rfl | assumption) ?_
      refine G_geti (pc := 41) dX5_ask_41 fiX5_57 (by first | rfl | assumption) (by omega) ?_
      refine G_icmp_ge (pc := 44) (tgt := 186) dX5_ask_44 (Ri.mk (by omega) (by omega)) (Ri.mk (by omega) (by omega)) (by decide) (fun h_44 => ?_) (fun h_44 => ?_)
      · exact absurd h_44 (by omega)
      · refine G_aload_n (pc := 47) dX5_ask_47 rfl ?_
        refine G_getr (pc := 48) dX5_ask_48 fiX5_18 (by first | rfl | assumption) (by omega) (by first | rfl | assumption) ?_
        refine G_iload (pc := 51) dX5_ask_51 rfl ?_
        refine G_iload (pc := 53) dX5_ask_53 rfl ?_
        refine G_iconst (pc := 55) dX5_ask_55 ?_
        refine G_callV1 (pc := 56) (md := mdX4_feeling) (av := [_, _, _]) dX5_ask_56 lkX5_60 mwX4_feeling (c_feeling 3 s (C 1 t) 0 (Or.inl rfl) hM hH' hB (by omega) hb.1 (by omega)) rfl (by first | rfl | assumption) (by omega) rfl rfl (Nat.le_of_ble_eq_true rfl) (by decide) ⟨Nat.zero_le _, Nat.zero_le _⟩ ?_
        refine G_istore (pc := 59) (lv' := [_, _, _, _, _, _, _, _, _, _, _, _, _]) dX5_ask_59 (by decide) rfl ?_
        refine G_iload (pc := 61) dX5_ask_61 rfl ?_
        refine G_aload_n (pc := 63) dX5_ask_63 rfl ?_
        refine G_getr (pc := 64) dX5_ask_64 fiX5_18 (by first | rfl | assumption) (by omega) (by first | rfl | assumption) ?_
        refine G_iload (pc := 67) dX5_ask_67 rfl ?_
        refine G_iload (pc := 69) dX5_ask_69 rfl ?_
        refine G_iconst (pc := 71) dX5_ask_71 ?_
        refine G_callV1 (pc := 72) (md := mdX4_playing) (av := [_, _, _]) dX5_ask_72 lkX5_64 mwX4_playing (c_playing 3 s (C 1 t) 0 (Or.inl rfl) hM hH' hB (by omega) hb.1 (by omega)) rfl (by first | rfl | assumption) (by omega) rfl rfl (Nat.le_of_ble_eq_true rfl) (by decide) ⟨Nat.zero_le _, Nat.zero_le _⟩ ?_
        refine G_iload (pc := 75) dX5_ask_75 rfl ?_
        refine G_iadd (pc := 77) dX5_ask_77 ?_
        refine G_callS1 (pc := 78) (md := mdX4_tenths) (av := [_]) dX5_ask_78 lkX5_67 mwX4_tenths (c_tenths _ (min 10 (pl hs s (C 1 t) 0 + fo)) (Ri.mk (by omega) (by omega)) (by split <;> (try split) <;> omega)) rfl rfl (Nat.le_of_ble_eq_true rfl) (by decide) ⟨Nat.zero_le _, Nat.zero_le _⟩ ?_
        refine G_callS1 (pc := 81) (md := mdX4_doing_) (av := [_, _]) dX5_ask_81 lkX5_70 mwX4_doing_ (c_doing_ _ _ hf10) rfl rfl (Nat.le_of_ble_eq_true rfl) (by decide) ⟨Nat.zero_le _, Nat.zero_le _⟩ ?_
        rw [show dof (fe hs s (C 1 t) 0) (min 10 (pl hs s (C 1 t) 0 + fo)) = d from hd.symm]
        refine G_istore (pc := 84) (lv' := [_, _, _, _, _, _, _, _, _, _, _, _, _]) dX5_ask_84 (by decide) rfl ?_
        refine G_iload (pc := 86) dX5_ask_86 rfl ?_
        refine G_aload_n (pc := 88) dX5_ask_88 rfl ?_
        refine G_getr (pc := 89) dX5_ask_89 fiX5_18 (by first | rfl | assumption) (by omega) (by first | rfl | assumption) ?_
        refine G_iload (pc := 92) dX5_ask_92 rfl ?_
        refine G_callV1 (pc := 94) (md := mdX4_size) (av := [_]) dX5_ask_94 lkX5_74 mwX4_size (c_size 3 s (Or.inl rfl) hM hH' hB (by omega)) rfl (by first | rfl | assumption) (by omega) rfl rfl (Nat.le_of_ble_eq_true rfl) (by decide) ⟨Nat.zero_le _, Nat.zero_le _⟩ ?_
        refine G_iadd (pc := 97) dX5_ask_97 ?_
        refine G_istore (pc := 98) (lv' := [_, _, _, _, _, _, _, _, _, _, _, _, _]) dX5_ask_98 (by decide) rfl ?_
        refine G_eq rfl rfl ?_ rfl (inner (hs 0 s) (sumN (hs 0) s) I' e3 (by omega) (Nat.le_refl _) hO hNI)
        rw [hsum, Int.natCast_add]; rfl
  refine G_aload_n (pc := 0) dX5_ask_0 rfl ?_
  refine G_iload_n (pc := 1) dX5_ask_1 rfl ?_
  refine G_callV1 (pc := 2) (md := mdX7_ask) (av := [_]) dX5_ask_2 lkX5_47 mwX7_ask (c_Rask r t hr hM hR n8 ht) rfl (by first | rfl | assumption) (by omega) rfl rfl (Nat.le_of_ble_eq_true rfl) (by decide) ⟨Nat.zero_le _, Nat.zero_le _⟩ ?_
  refine G_istore (pc := 5) (lv' := [_, _, _, _, _, _, _, _, _, _, _, _, _]) dX5_ask_5 (by decide) rfl ?_
  refine G_aload_n (pc := 7) dX5_ask_7 rfl ?_
  refine G_aload_n (pc := 8) dX5_ask_8 rfl ?_
  refine G_iconst (pc := 9) dX5_ask_9 ?_
  refine G_callV1 (pc := 10) (md := mdX5_person) (av := [_]) dX5_ask_10 lkX5_50 mwX5_person (c_person 0 (by omega) hM hN t1) rfl (by first | rfl | assumption) (by omega) rfl rfl (Nat.le_of_ble_eq_true rfl) (by decide) ⟨Nat.zero_le _, Nat.zero_le _⟩ ?_
  refine G_callV1 (pc := 13) (md := mdX5_playedAt) (av := [_]) dX5_ask_13 lkX5_53 mwX5_playedAt (c_playedAt _ hM hN (by omega) hp1) rfl (by first | rfl | assumption) (by omega) rfl rfl (Nat.le_of_ble_eq_true rfl) (by decide) ⟨Nat.zero_le _, Nat.zero_le _⟩ ?_
  rw [hfo]
  refine G_if_eq (pc := 16) (tgt := 23) dX5_ask_16 (Ri.mk (by omega) (by omega)) (by decide) (fun h_16 => ?_) (fun h_16 => ?_)
  · try simp only [bI_eq0, bI_ne0] at h_16
    refine G_iconst (pc := 23) dX5_ask_23 ?_
    refine G_istore (pc := 24) (lv' := [_, _, _, _, _, _, _, _, _, _, _, _, _]) dX5_ask_24 (by decide) rfl ?_
    refine G_iconst (pc := 26) dX5_ask_26 ?_
    refine G_istore (pc := 27) (lv' := [_, _, _, _, _, _, _, _, _, _, _, _, _]) dX5_ask_27 (by decide) rfl ?_
    refine G_iconst (pc := 29) dX5_ask_29 ?_
    refine G_istore (pc := 30) (lv' := [_, _, _, _, _, _, _, _, _, _, _, _, _]) dX5_ask_30 (by decide) rfl ?_
    refine G_iconst (pc := 32) dX5_ask_32 ?_
    refine G_istore (pc := 33) (lv' := [_, _, _, _, _, _, _, _, _, _, _, _, _]) dX5_ask_33 (by decide) rfl ?_
    first
      | (refine G_eq rfl rfl ?_ rfl (outer (zS hs) 0 I none none none (by omega) Off.rfl (by rw [show sumN (hs 0) 0 = 0 from rfl, mx_0, mx_0]; exact hN))
         rw [show fo = 1 by omega]; rfl)
      | (refine G_eq rfl rfl ?_ rfl (outer (zS hs) 0 I none none none (by omega) Off.rfl (by rw [show sumN (hs 0) 0 = 0 from rfl, mx_0, mx_0]; exact hN))
         rw [show fo = 0 by omega]; rfl)
  · try simp only [bI_eq0, bI_ne0] at h_16
    refine G_iconst (pc := 19) dX5_ask_19 ?_
    refine G_goto (pc := 20) (tgt := 24) dX5_ask_20 (by decide) ?_
    refine G_istore (pc := 24) (lv' := [_, _, _, _, _, _, _, _, _, _, _, _, _]) dX5_ask_24 (by decide) rfl ?_
    refine G_iconst (pc := 26) dX5_ask_26 ?_
    refine G_istore (pc := 27) (lv' := [_, _, _, _, _, _, _, _, _, _, _, _, _]) dX5_ask_27 (by decide) rfl ?_
    refine G_iconst (pc := 29) dX5_ask_29 ?_
    refine G_istore (pc := 30) (lv' := [_, _, _, _, _, _, _, _, _, _, _, _, _]) dX5_ask_30 (by decide) rfl ?_
    refine G_iconst (pc := 32) dX5_ask_32 ?_
    refine G_istore (pc := 33) (lv' := [_, _, _, _, _, _, _, _, _, _, _, _, _]) dX5_ask_33 (by decide) rfl ?_
    first
      | (refine G_eq rfl rfl ?_ rfl (outer (zS hs) 0 I none none none (by omega) Off.rfl (by rw [show sumN (hs 0) 0 = 0 from rfl, mx_0, mx_0]; exact hN))
         rw [show fo = 1 by omega]; rfl)
      | (refine G_eq rfl rfl ?_ rfl (outer (zS hs) 0 I none none none (by omega) Off.rfl (by rw [show sumN (hs 0) 0 = 0 from rfl, mx_0, mx_0]; exact hN))
         rw [show fo = 0 by omega]; rfl)
theorem c_play {E : EV} {M : Nat} {I J : Nat → Nat → Int} {hs : HS} {C : CS} (r z : Nat) (hr : isRow r) (hM : 71 ≤ M) (hH : HI I 3 hs) (hB : HB hs) (hR : RI I r C) (hRB : RB hs C) (hz : z < 10000) : FnQ E mdX5_play 3 M Rf [vr E 68, vr E r, vi (z : Int)] I J (fun v I' J' => v = none ∧ J' = J ∧ Off I I' 68 70 ∧ NI I' (NS hs C z (C 0 0)).1 (NS hs C z (C 0 0)).2 (sumN (NS hs C z (C 0 0)).1 (zN hs) : Nat) (sxN hs C z (C 0 0))) := by
  have bN := hB.2.2.1
  have n8 := hRB.1
  have hk60 := (Row_all hr).1
  have hshr := (Row_all hr).2.1
  have v10 : I 3 10 = (zN hs : Int) := hH.2.2 10 (by omega) (by omega)
  refine FnQ.of (by decide +kernel) (Nat.le_of_ble_eq_true rfl) ?_
  show GM E mdX5_play 3 M Rf _ I J 0 [some (vr E 68), some (vr E r), some (vi (z : Int)), none] []
  generalize hQ : (fun (v : Option Value) (I' J' : Nat → Nat → Int) => v = none ∧ J' = J ∧ Off I I' 68 70 ∧ NI I' (NS hs C z (C 0 0)).1 (NS hs C z (C 0 0)).2 (sumN (NS hs C z (C 0 0)).1 (zN hs) : Nat) (sxN hs C z (C 0 0))) = Q
  have loop3 : ∀ (m t : Nat) (I' : Nat → Nat → Int), t + m = C 0 0 → Off I I' 68 70 → NI I' (NS hs C z t).1 (NS hs C z t).2 (sumN (NS hs C z t).1 (zN hs) : Nat) (sxN hs C z t) → GM E mdX5_play 3 M Rf Q I' J 95 [some (vr E 68), some (vr E r), some (vi (z : Int)), some (vi (t : Int))] [] := by
    intro m
    induction m with
    | zero =>
      intro t I' ht hO hN
      have ht : t = C 0 0 := by omega
      subst ht
      have vr2 : I' r 2 = C 0 0 := by rw [hO r (by omega)]; exact hR.1
      refine G_iload_n (pc := 95) dX5_play_95 rfl ?_
      refine G_aload_n (pc := 96) dX5_play_96 rfl ?_
      refine G_geti (pc := 97) dX5_play_97 fiX5_34 (by first | rfl | assumption) (by omega) ?_
      refine G_icmp_ge (pc := 100) (tgt := 155) dX5_play_100 (Ri.mk (by omega) (by omega)) (Ri.mk (by omega) (by omega)) (by decide) (fun h_100 => ?_) (fun h_100 => ?_)
      · refine G_vret (pc := 155) dX5_play_155 rfl ?_
        rw [← hQ]; exact ⟨rfl, rfl, hO, hN⟩
      · exact absurd h_100 (by omega)
    | succ m ih =>
      intro t I' ht hO hN
      have vr2 : I' r 2 = C 0 0 := by rw [hO r (by omega)]; exact hR.1
      have hH' : HI I' 3 hs := hH.off fun q h1 h2 => hO q (by omega)
      have hR' : RI I' r C := hR.off fun q h1 h2 => hO q (by omega)
      have hl := sumN_le1 (NS_B hs C z (t + 1)).1 (zN hs)
      have hsr := sxN_R hs C z t
      refine G_iload_n (pc := 95) dX5_play_95 rfl ?_
      refine G_aload_n (pc := 96) dX5_play_96 rfl ?_
      refine G_geti (pc := 97) dX5_play_97 fiX5_34 (by first | rfl | assumption) (by omega) ?_
      refine G_icmp_ge (pc := 100) (tgt := 155) dX5_play_100 (Ri.mk (by omega) (by omega)) (Ri.mk (by omega) (by omega)) (by decide) (fun h_100 => ?_) (fun h_100 => ?_)
      · exact absurd h_100 (by omega)
      · refine G_aload_n (pc := 103) dX5_play_103 rfl ?_
        refine G_aload_n (pc := 104) dX5_play_104 rfl ?_
        refine G_iload_n (pc := 105) dX5_play_105 rfl ?_
        refine G_ldc2 (pc := 106) dX5_play_106 klX5_39 ?_
        refine G_iload_n (pc := 109) dX5_play_109 rfl ?_
        refine G_i2l (pc := 110) dX5_play_110 (Ri.mk (by omega) (by omega)) ?_
        refine G_lmul (pc := 111) dX5_play_111 ?_
        refine G_ldc2 (pc := 112) dX5_play_112 klX5_41 ?_
        refine G_iload_n (pc := 115) dX5_play_115 rfl ?_
        refine G_i2l (pc := 116) dX5_play_116 (Ri.mk (by omega) (by omega)) ?_
        refine G_lmul (pc := 117) dX5_play_117 ?_
        refine G_ladd (pc := 118) dX5_play_118 ?_
        refine G_lconst (pc := 119) dX5_play_119 ?_
        refine G_ladd (pc := 120) dX5_play_120 ?_
        refine G_callV (pc := 121) (md := mdX5_ask) (av := [_, _, _]) dX5_play_121 lkX5_43 mwX5_ask (FnQ.av (by congr 4) (c_Nask r t z hr hM hH' hB hR' hRB (by omega) hz (NS_B hs C z t) hN)) rfl (by first | rfl | assumption) (by omega) rfl rfl (Nat.le_of_ble_eq_true rfl) (by decide) ⟨Nat.zero_le _, Nat.zero_le _⟩ ?_
        rintro v I2 J2 ⟨rfl, rfl, hO2, hN2⟩
        have hN2 : NI I2 (NS hs C z (t + 1)).1 (NS hs C z (t + 1)).2 (sumN (NS hs C z (t + 1)).1 (zN hs) : Nat) (sxN hs C z t) := hN2
        have p3 := hN2.2.1
        have p4 := hN2.2.2
        refine G_aload_n (pc := 124) dX5_play_124 rfl ?_
        refine G_geti (pc := 125) dX5_play_125 fiX5_28 (by first | rfl | assumption) (by omega) ?_
        refine G_bipush (pc := 128) dX5_play_128 (by decide) ?_
        refine G_icmp_gt (pc := 130) (tgt := 149) dX5_play_130 (Ri.mk (by omega) (by omega)) (Ri.mk (by omega) (by omega)) (by decide) (fun h_130 => ?_) (fun h_130 => ?_)
        · refine G_iinc (pc := 149) (lv' := [_, _, _, _]) dX5_play_149 (by decide) rfl rfl ?_
          refine G_goto (pc := 152) (tgt := 95) dX5_play_152 (by decide) ?_
          first
            | (refine ih (t + 1) _ (by omega) ((hO.trans hO2).set (by omega) (by omega)) ⟨fun p hp => by simp only [wr_o (show 69 ≠ 68 by decide), wr_o (show 70 ≠ 68 by decide)]; exact hN2.1 p hp, ?_, ?_⟩
               · rw [wr_n (by decide)]; exact hN2.2.1
               · rw [wr_s, sxN, if_pos (by omega)])
            | (refine ih (t + 1) _ (by omega) (hO.trans hO2) ⟨hN2.1, hN2.2.1, ?_⟩
               rw [hN2.2.2, sxN, if_neg (by omega)])
        · refine G_aload_n (pc := 133) dX5_play_133 rfl ?_
          refine G_geti (pc := 134) dX5_play_134 fiX5_31 (by first | rfl | assumption) (by omega) ?_
          refine G_bipush (pc := 137) dX5_play_137 (by decide) ?_
          refine G_icmp_ne (pc := 139) (tgt := 149) dX5_play_139 (Ri.mk (by omega) (by omega)) (Ri.mk (by omega) (by omega)) (by decide) (fun h_139 => ?_) (fun h_139 => ?_)
          · refine G_iinc (pc := 149) (lv' := [_, _, _, _]) dX5_play_149 (by decide) rfl rfl ?_
            refine G_goto (pc := 152) (tgt := 95) dX5_play_152 (by decide) ?_
            first
              | (refine ih (t + 1) _ (by omega) ((hO.trans hO2).set (by omega) (by omega)) ⟨fun p hp => by simp only [wr_o (show 69 ≠ 68 by decide), wr_o (show 70 ≠ 68 by decide)]; exact hN2.1 p hp, ?_, ?_⟩
                 · rw [wr_n (by decide)]; exact hN2.2.1
                 · rw [wr_s, sxN, if_pos (by omega)])
              | (refine ih (t + 1) _ (by omega) (hO.trans hO2) ⟨hN2.1, hN2.2.1, ?_⟩
                 rw [hN2.2.2, sxN, if_neg (by omega)])
          · refine G_aload_n (pc := 142) dX5_play_142 rfl ?_
            refine G_iload_n (pc := 143) dX5_play_143 rfl ?_
            refine G_iconst (pc := 144) dX5_play_144 ?_
            refine G_iadd (pc := 145) dX5_play_145 ?_
            refine G_puti (pc := 146) dX5_play_146 fiX5_31 (by first | rfl | assumption) (by omega) ?_
            refine G_iinc (pc := 149) (lv' := [_, _, _, _]) dX5_play_149 (by decide) rfl rfl ?_
            refine G_goto (pc := 152) (tgt := 95) dX5_play_152 (by decide) ?_
            first
              | (refine ih (t + 1) _ (by omega) ((hO.trans hO2).set (by omega) (by omega)) ⟨fun p hp => by simp only [wr_o (show 69 ≠ 68 by decide), wr_o (show 70 ≠ 68 by decide)]; exact hN2.1 p hp, ?_, ?_⟩
                 · rw [wr_n (by decide)]; exact hN2.2.1
                 · rw [wr_s, sxN, if_pos (by omega)])
              | (refine ih (t + 1) _ (by omega) (hO.trans hO2) ⟨hN2.1, hN2.2.1, ?_⟩
                 rw [hN2.2.2, sxN, if_neg (by omega)])
  have loop2 : ∀ (m i : Nat), i + m = 120 → GM E mdX5_play 3 M Rf Q (seJ (seJ I 69 (NS hs C z 0).1 120) 70 (NS hs C z 0).2 i) J 41 [some (vr E 68), some (vr E r), some (vi (z : Int)), some (vi (i : Int))] [] := by
    intro m
    induction m with
    | zero =>
      intro i hi
      have hi : i = 120 := by omega
      subst hi
      have e0 : sumN (NS hs C z 0).1 (zN hs) = zN hs := by
        have : ∀ n, n ≤ zN hs → sumN (NS hs C z 0).1 n = n := by
          intro n
          induction n with
          | zero => intro _; rfl
          | succ n ihn => intro hn; rw [sumN, ihn (by omega)]; simp only [NS]; rw [if_pos (by omega)]
        exact this _ (Nat.le_refl _)
      refine G_iload_n (pc := 41) dX5_play_41 rfl ?_
      refine G_aload_n (pc := 42) dX5_play_42 rfl ?_
      refine G_getr (pc := 43) dX5_play_43 fiX5_15 (by first | rfl | assumption) (by omega) (by first | rfl | assumption) ?_
      refine G_alen (pc := 46) dX5_play_46 (by first | rfl | assumption) (by decide) (by omega) ?_
      refine G_icmp_ge (pc := 47) (tgt := 63) dX5_play_47 (Ri.mk (by omega) (by omega)) (Ri.mk (by omega) (by omega)) (by decide) (fun h_47 => ?_) (fun h_47 => ?_)
      · refine G_aload_n (pc := 63) dX5_play_63 rfl ?_
        refine G_aload_n (pc := 64) dX5_play_64 rfl ?_
        refine G_getr (pc := 65) dX5_play_65 fiX5_18 (by first | rfl | assumption) (by omega) (by first | rfl | assumption) ?_
        refine G_geti (pc := 68) dX5_play_68 fiX5_22 (by first | rfl | assumption) (by omega) ?_
        rw [seJ_o (by decide), seJ_o (by decide), v10]
        refine G_puti (pc := 71) dX5_play_71 fiX5_28 (by first | rfl | assumption) (by omega) ?_
        refine G_aload_n (pc := 74) dX5_play_74 rfl ?_
        refine G_aload_n (pc := 75) dX5_play_75 rfl ?_
        refine G_geti (pc := 76) dX5_play_76 fiX5_28 (by first | rfl | assumption) (by omega) ?_
        rw [wr_s]
        refine G_bipush (pc := 79) dX5_play_79 (by decide) ?_
        refine G_icmp_gt (pc := 81) (tgt := 88) dX5_play_81 (Ri.mk (by omega) (by omega)) (Ri.mk (by omega) (by omega)) (by decide) (fun h_81 => ?_) (fun h_81 => ?_)
        · refine G_bipush (pc := 88) dX5_play_88 (by decide) ?_
          refine G_puti (pc := 90) dX5_play_90 fiX5_31 (by first | rfl | assumption) (by omega) ?_
          refine G_iconst (pc := 93) dX5_play_93 ?_
          refine G_istore_n (pc := 94) (lv' := [_, _, _, _]) dX5_play_94 (by decide) rfl ?_
          refine loop3 (C 0 0) 0 _ (by omega) (fun q hq => by simp (disch := omega) only [wr_o, seJ_o]) ⟨fun p hp => ?_, ?_, ?_⟩
          · simp (disch := omega) only [wr_o, seJ_o, seJ_s]; exact ⟨trivial, trivial⟩
          · rw [wr_n (by decide), wr_s, e0]
          · rw [wr_s, sxN]; first | rw [if_pos (by omega)] | rw [if_neg (by omega)]
        · refine G_iconst (pc := 84) dX5_play_84 ?_
          refine G_goto (pc := 85) (tgt := 90) dX5_play_85 (by decide) ?_
          refine G_puti (pc := 90) dX5_play_90 fiX5_31 (by first | rfl | assumption) (by omega) ?_
          refine G_iconst (pc := 93) dX5_play_93 ?_
          refine G_istore_n (pc := 94) (lv' := [_, _, _, _]) dX5_play_94 (by decide) rfl ?_
          refine loop3 (C 0 0) 0 _ (by omega) (fun q hq => by simp (disch := omega) only [wr_o, seJ_o]) ⟨fun p hp => ?_, ?_, ?_⟩
          · simp (disch := omega) only [wr_o, seJ_o, seJ_s]; exact ⟨trivial, trivial⟩
          · rw [wr_n (by decide), wr_s, e0]
          · rw [wr_s, sxN]; first | rw [if_pos (by omega)] | rw [if_neg (by omega)]
      · exact absurd h_47 (by omega)
    | succ m ih =>
      intro i hi
      refine G_iload_n (pc := 41) dX5_play_41 rfl ?_
      refine G_aload_n (pc := 42) dX5_play_42 rfl ?_
      refine G_getr (pc := 43) dX5_play_43 fiX5_15 (by first | rfl | assumption) (by omega) (by first | rfl | assumption) ?_
      refine G_alen (pc := 46) dX5_play_46 (by first | rfl | assumption) (by decide) (by omega) ?_
      refine G_icmp_ge (pc := 47) (tgt := 63) dX5_play_47 (Ri.mk (by omega) (by omega)) (Ri.mk (by omega) (by omega)) (by decide) (fun h_47 => ?_) (fun h_47 => ?_)
      · exact absurd h_47 (by omega)
      · refine G_aload_n (pc := 50) dX5_play_50 rfl ?_
        refine G_getr (pc := 51) dX5_play_51 fiX5_15 (by first | rfl | assumption) (by omega) (by first | rfl | assumption) ?_
        refine G_iload_n (pc := 54) dX5_play_54 rfl ?_
        refine G_iconst (pc := 55) dX5_play_55 ?_
        refine G_zast (pc := 56) dX5_play_56 (by first | rfl | assumption) (by omega) (by omega) (by omega) (by omega) (by omega) ?_
        refine G_iinc (pc := 57) (lv' := [_, _, _, _]) dX5_play_57 (by decide) rfl rfl ?_
        refine G_goto (pc := 60) (tgt := 41) dX5_play_60 (by decide) ?_
        refine G_eq ?_ rfl rfl rfl (ih (i + 1) (by omega))
        rw [Int.toNat_natCast]; exact seJ_n rfl
  have loop1 : ∀ (m i : Nat), i + m = 120 → GM E mdX5_play 3 M Rf Q (seJ I 69 (NS hs C z 0).1 i) J 2 [some (vr E 68), some (vr E r), some (vi (z : Int)), some (vi (i : Int))] [] := by
    intro m
    induction m with
    | zero =>
      intro i hi
      have hi : i = 120 := by omega
      subst hi
      refine G_iload_n (pc := 2) dX5_play_2 rfl ?_
      refine G_aload_n (pc := 3) dX5_play_3 rfl ?_
      refine G_getr (pc := 4) dX5_play_4 fiX5_9 (by first | rfl | assumption) (by omega) (by first | rfl | assumption) ?_
      refine G_alen (pc := 7) dX5_play_7 (by first | rfl | assumption) (by decide) (by omega) ?_
      refine G_icmp_ge (pc := 8) (tgt := 39) dX5_play_8 (Ri.mk (by omega) (by omega)) (Ri.mk (by omega) (by omega)) (by decide) (fun h_8 => ?_) (fun h_8 => ?_)
      · refine G_iconst (pc := 39) dX5_play_39 ?_
        refine G_istore_n (pc := 40) (lv' := [_, _, _, _]) dX5_play_40 (by decide) rfl ?_
        refine G_eq (seJ_0 _ 70 _).symm rfl rfl rfl (loop2 120 0 (by omega))
      · exact absurd h_8 (by omega)
    | succ m ih =>
      intro i hi
      refine G_iload_n (pc := 2) dX5_play_2 rfl ?_
      refine G_aload_n (pc := 3) dX5_play_3 rfl ?_
      refine G_getr (pc := 4) dX5_play_4 fiX5_9 (by first | rfl | assumption) (by omega) (by first | rfl | assumption) ?_
      refine G_alen (pc := 7) dX5_play_7 (by first | rfl | assumption) (by decide) (by omega) ?_
      refine G_icmp_ge (pc := 8) (tgt := 39) dX5_play_8 (Ri.mk (by omega) (by omega)) (Ri.mk (by omega) (by omega)) (by decide) (fun h_8 => ?_) (fun h_8 => ?_)
      · exact absurd h_8 (by omega)
      · refine G_aload_n (pc := 11) dX5_play_11 rfl ?_
        refine G_getr (pc := 12) dX5_play_12 fiX5_9 (by first | rfl | assumption) (by omega) (by first | rfl | assumption) ?_
        refine G_iload_n (pc := 15) dX5_play_15 rfl ?_
        refine G_iload_n (pc := 16) dX5_play_16 rfl ?_
        refine G_aload_n (pc := 17) dX5_play_17 rfl ?_
        refine G_getr (pc := 18) dX5_play_18 fiX5_18 (by first | rfl | assumption) (by omega) (by first | rfl | assumption) ?_
        refine G_geti (pc := 21) dX5_play_21 fiX5_22 (by first | rfl | assumption) (by omega) ?_
        rw [seJ_o (by decide), v10]
        refine G_icmp_ge (pc := 24) (tgt := 31) dX5_play_24 (Ri.mk (by omega) (by omega)) (Ri.mk (by omega) (by omega)) (by decide) (fun h_24 => ?_) (fun h_24 => ?_)
        · refine G_iconst (pc := 31) dX5_play_31 ?_
          refine G_zast (pc := 32) dX5_play_32 (by first | rfl | assumption) (by omega) (by omega) (by omega) (by omega) (by omega) ?_
          refine G_iinc (pc := 33) (lv' := [_, _, _, _]) dX5_play_33 (by decide) rfl rfl ?_
          refine G_goto (pc := 36) (tgt := 2) dX5_play_36 (by decide) ?_
          refine G_eq ?_ rfl rfl rfl (ih (i + 1) (by omega))
          rw [Int.toNat_natCast]; exact seJ_n (by simp only [NS]; first | (rw [if_pos (by omega)]; rfl) | (rw [if_neg (by omega)]; rfl))
        · refine G_iconst (pc := 27) dX5_play_27 ?_
          refine G_goto (pc := 28) (tgt := 32) dX5_play_28 (by decide) ?_
          refine G_zast (pc := 32) dX5_play_32 (by first | rfl | assumption) (by omega) (by omega) (by omega) (by omega) (by omega) ?_
          refine G_iinc (pc := 33) (lv' := [_, _, _, _]) dX5_play_33 (by decide) rfl rfl ?_
          refine G_goto (pc := 36) (tgt := 2) dX5_play_36 (by decide) ?_
          refine G_eq ?_ rfl rfl rfl (ih (i + 1) (by omega))
          rw [Int.toNat_natCast]; exact seJ_n (by simp only [NS]; first | (rw [if_pos (by omega)]; rfl) | (rw [if_neg (by omega)]; rfl))
  refine G_iconst (pc := 0) dX5_play_0 ?_
  refine G_istore_n (pc := 1) (lv' := [_, _, _, _]) dX5_play_1 (by decide) rfl ?_
  refine G_eq (seJ_0 _ 69 _).symm rfl rfl rfl (loop1 120 0 (by omega))
