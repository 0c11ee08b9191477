/-! THE REFERENCE'S CALLS, seventh: the best row -/
/-- all but the fourth slot of rows is as it was -/
theorem MI.sl3 {I I' : Nat → Nat → Int} {n : Nat} {tx : Nat → Int} {hs : HS} {C : CS} {kn : Nat} {K : Nat → CS} (h : MI I n tx hs C kn K) (hW : WF n tx hs C kn K) (hO : Off I I' 79 80) (h79 : ∀ x, x ≤ 2 → I' 79 x = I 79 x) (h80 : ∀ x, x < 48 → I' 80 x = I 80 x) : MI I' n tx hs C kn K := by
  obtain ⟨h1, h2, h3, h4, h5, h6, h7⟩ := h
  obtain ⟨-, -, -, -, -, hRB, hTB, hkn, hK⟩ := hW
  have o : ∀ j C, j ≤ 2 → RB hs C → RM I j C ∧ TM I j C → RM I' j C ∧ TM I' j C := fun j C hj hb z => ⟨z.1.same hb.1 (h79 j hj) (fun x a b => h80 x (by omega)), z.2.off (hO _ (by omega)) (hO _ (by omega))⟩
  exact ⟨⟨by rw [hO 71 (by omega)]; exact h1.1, fun i hi => by rw [hO 72 (by omega)]; exact h1.2 i hi⟩, h2.off fun q a b => hO q (by omega), (o 0 C (by omega) hRB ⟨h3, h4⟩).1, (o 0 C (by omega) hRB ⟨h3, h4⟩).2, by rw [hO 71 (by omega)]; exact h5, fun z => o _ _ (by omega) (hK 1 (by omega) (by omega)).1 (h6 z), fun z => o _ _ (by omega) (hK 2 (by omega) (by omega)).1 (h7 z)⟩
section MOD9
variable {E : EV} {M : Nat} {I J : Nat → Nat → Int} {n : Nat} {tx : Nat → Int} {hs : HS} {C : CS} {kn : Nat} {K : Nat → CS}
theorem m_tries (n code : Nat) (hn : 1 ≤ n ∧ n ≤ 3) (hcode : code ≤ 2000) (h0 : 0 < zA hs) (hM : 87 ≤ M) (hH : MH I 0 hs) (hB : HB hs) : FnQ E mdX12_tries 1 M Rf [vr E 71, vi (n : Int), vi (code : Int)] I J (fun v I' J' => v = some (vi (mns hs n code : Int)) ∧ J' = J ∧ Off I I' 80 80 ∧ (∀ x, x < 48 → I' 80 x = I 80 x) ∧ ∀ j, j < n → I' 80 (48 + 2 * j) = (dgB (2 * zA hs) n code j / 2 : Nat) ∧ I' 80 (49 + 2 * j) = (dgB (2 * zA hs) n code j % 2 : Nat)) := by
  have bA := hB.2.1
  refine FnQ.of (by decide +kernel) (Nat.le_of_ble_eq_true rfl) ?_
  show GM E mdX12_tries 1 M Rf _ I J 0 [some (vr E 71), some (vi (n : Int)), some (vi (code : Int)), none, none, none, none] []
  have loop : ∀ (b x : Nat) (I' : Nat → Nat → Int) (d : Option Value), b ≤ n → x + sumN (fun k => hs 7 (dgB (2 * zA hs) n code k / 2)) b = mns hs n code → x ≤ 100 → Off I I' 80 80 → (∀ x, x < 48 → I' 80 x = I 80 x) → (∀ j, b ≤ j → j < n → I' 80 (48 + 2 * j) = (dgB (2 * zA hs) n code j / 2 : Nat) ∧ I' 80 (49 + 2 * j) = (dgB (2 * zA hs) n code j % 2 : Nat)) → GM E mdX12_tries 1 M Rf (fun v I' J' => v = some (vi (mns hs n code : Int)) ∧ J' = J ∧ Off I I' 80 80 ∧ (∀ x, x < 48 → I' 80 x = I 80 x) ∧ ∀ j, j < n → I' 80 (48 + 2 * j) = (dgB (2 * zA hs) n code j / 2 : Nat) ∧ I' 80 (49 + 2 * j) = (dgB (2 * zA hs) n code j % 2 : Nat)) I' J 10 [some (vr E 71), some (vi (n : Int)), some (vi (code : Int)), some (vi ((code / (2 * zA hs) ^ (n - b) : Nat) : Int)), some (vi (x : Int)), some (vi ((b : Int) - 1)), d] [] := by
    intro b
    induction b with
    | zero =>
      intro x I' d hb hx hx1 hO h48 hr
      have hx : x + 0 = mns hs n code := hx
      refine G_iload (pc := 10) dX12_tries_10 rfl ?_
      refine G_if_lt (pc := 12) (tgt := 94) dX12_tries_12 (Ri.mk (by omega) (by omega)) (by decide) (fun h_12 => ?_) (fun h_12 => ?_)
      · refine G_iload (pc := 94) dX12_tries_94 rfl ?_
        refine G_iret (pc := 96) dX12_tries_96 rfl ?_
        exact ⟨by rw [← hx]; rfl, rfl, hO, h48, fun j hj => hr j (by omega) hj⟩
      · exact absurd h_12 (by omega)
    | succ b ih =>
      intro x I' d hb hx hx1 hO h48 hr
      have hH' : MH I' 0 hs := hH.off fun q a b => hO q (by omega)
      obtain ⟨lf', elf⟩ : ∃ l, l = code / (2 * zA hs) ^ (n - (b + 1)) := ⟨_, rfl⟩
      have hle : lf' ≤ code := by rw [elf]; exact Nat.div_le_self _ _
      obtain ⟨v, ev⟩ : ∃ v, v = lf' % (2 * zA hs) := ⟨_, rfl⟩
      have hv := Nat.mod_lt lf' (show 0 < 2 * zA hs by omega)
      rw [← ev] at hv
      have edg : dgB (2 * zA hs) n code b = v := by rw [ev, elf]; unfold dgB; rw [show n - 1 - b = n - (b + 1) by omega]
      have hdv := Nat.div_le_self lf' (2 * zA hs)
      have h7 := (hB.2.2.2.2.2.1 (v / 2) (by omega)).2.2.2
      rw [sumN, edg] at hx
      rw [← elf, show ((b + 1 : Nat) : Int) - 1 = (b : Int) by omega]
      refine G_iload (pc := 10) dX12_tries_10 rfl ?_
      refine G_if_lt (pc := 12) (tgt := 94) dX12_tries_12 (Ri.mk (by omega) (by omega)) (by decide) (fun h_12 => ?_) (fun h_12 => ?_)
      · exact absurd h_12 (by omega)
      · refine G_iload_n (pc := 15) dX12_tries_15 rfl ?_
        refine G_iconst (pc := 16) dX12_tries_16 ?_
        refine G_aload_n (pc := 17) dX12_tries_17 rfl ?_
        refine G_getr (pc := 18) dX12_tries_18 fiX12_20 (by first | rfl | assumption) (by omega) (by first | rfl | assumption) ?_
        refine G_iconst (pc := 21) dX12_tries_21 ?_
        refine G_ialdv (pc := 22) dX12_tries_22 (by first | rfl | assumption) (by omega) (by omega) (by omega) (by omega) (hH'.na rfl) ?_
        refine G_imul (pc := 23) dX12_tries_23 ?_
        refine G_irem (pc := 24) dX12_tries_24 (Ri.mk (by omega) (by omega)) (Ri.mk (by omega) (by omega)) (by omega) ?_
        refine G_st (st' := [vi (v : Int)]) (by rw [show (2 : Int) * (zA hs : Nat) = ((2 * zA hs : Nat) : Int) by omega, ← Int.ofNat_tmod, ← ev]) ?_
        refine G_istore (pc := 25) (lv' := [_, _, _, _, _, _, _]) dX12_tries_25 (by decide) rfl ?_
        refine G_iload_n (pc := 27) dX12_tries_27 rfl ?_
        refine G_iconst (pc := 28) dX12_tries_28 ?_
        refine G_aload_n (pc := 29) dX12_tries_29 rfl ?_
        refine G_getr (pc := 30) dX12_tries_30 fiX12_20 (by first | rfl | assumption) (by omega) (by first | rfl | assumption) ?_
        refine G_iconst (pc := 33) dX12_tries_33 ?_
        refine G_ialdv (pc := 34) dX12_tries_34 (by first | rfl | assumption) (by omega) (by omega) (by omega) (by omega) (hH'.na rfl) ?_
        refine G_imul (pc := 35) dX12_tries_35 ?_
        refine G_idiv (pc := 36) dX12_tries_36 (Ri.mk (by omega) (by omega)) (Ri.mk (by omega) (by omega)) (by omega) ?_
        refine G_st (st' := [vi ((lf' / (2 * zA hs) : Nat) : Int)]) (by rw [show (2 : Int) * (zA hs : Nat) = ((2 * zA hs : Nat) : Int) by omega]; rfl) ?_
        refine G_istore_n (pc := 37) (lv' := [_, _, _, _, _, _, _]) dX12_tries_37 (by decide) rfl ?_
        refine G_aload_n (pc := 38) dX12_tries_38 rfl ?_
        refine G_getr (pc := 39) dX12_tries_39 fiX12_35 (by first | rfl | assumption) (by omega) (by first | rfl | assumption) ?_
        refine G_bipush (pc := 42) dX12_tries_42 (by decide) ?_
        refine G_iconst (pc := 44) dX12_tries_44 ?_
        refine G_iload (pc := 45) dX12_tries_45 rfl ?_
        refine G_imul (pc := 47) dX12_tries_47 ?_
        refine G_iadd (pc := 48) dX12_tries_48 ?_
        refine G_iload (pc := 49) dX12_tries_49 rfl ?_
        refine G_iconst (pc := 51) dX12_tries_51 ?_
        refine G_idiv (pc := 52) dX12_tries_52 (Ri.mk (by omega) (by omega)) (Ri.mk (by omega) (by omega)) (by omega) ?_
        rw [show (v : Int).tdiv 2 = ((v / 2 : Nat) : Int) from rfl]
        refine G_iast (pc := 53) dX12_tries_53 (by first | rfl | assumption) (by omega) (by omega) (by omega) (by omega) ?_
        refine G_aload_n (pc := 54) dX12_tries_54 rfl ?_
        refine G_getr (pc := 55) dX12_tries_55 fiX12_35 (by first | rfl | assumption) (by omega) (by first | rfl | assumption) ?_
        refine G_bipush (pc := 58) dX12_tries_58 (by decide) ?_
        refine G_iconst (pc := 60) dX12_tries_60 ?_
        refine G_iload (pc := 61) dX12_tries_61 rfl ?_
        refine G_imul (pc := 63) dX12_tries_63 ?_
        refine G_iadd (pc := 64) dX12_tries_64 ?_
        refine G_iload (pc := 65) dX12_tries_65 rfl ?_
        refine G_iconst (pc := 67) dX12_tries_67 ?_
        refine G_irem (pc := 68) dX12_tries_68 (Ri.mk (by omega) (by omega)) (Ri.mk (by omega) (by omega)) (by omega) ?_
        rw [show (v : Int).tmod 2 = ((v % 2 : Nat) : Int) from rfl]
        refine G_iast (pc := 69) dX12_tries_69 (by first | rfl | assumption) (by omega) (by omega) (by omega) (by omega) ?_
        refine G_iload (pc := 70) dX12_tries_70 rfl ?_
        refine G_aload_n (pc := 72) dX12_tries_72 rfl ?_
        refine G_getr (pc := 73) dX12_tries_73 fiX12_23 (by first | rfl | assumption) (by omega) (by first | rfl | assumption) ?_
        refine G_iconst (pc := 76) dX12_tries_76 ?_
        refine G_iload (pc := 77) dX12_tries_77 rfl ?_
        refine G_iconst (pc := 79) dX12_tries_79 ?_
        refine G_idiv (pc := 80) dX12_tries_80 (Ri.mk (by omega) (by omega)) (Ri.mk (by omega) (by omega)) (by omega) ?_
        rw [show (v : Int).tdiv 2 = ((v / 2 : Nat) : Int) from rfl]
        refine G_imul (pc := 81) dX12_tries_81 ?_
        refine G_iconst (pc := 82) dX12_tries_82 ?_
        refine G_iadd (pc := 83) dX12_tries_83 ?_
        refine G_ialdv (pc := 84) dX12_tries_84 (by first | rfl | assumption) (by omega) (by omega) (by omega) (by omega) ((show wr (wr I' 80 _ _) 80 _ _ 76 (4 * ((v / 2 : Nat) : Int) + 3).toNat = (hs 7 (v / 2) : Int) by rw [wr_o (by decide), wr_o (by decide)]; exact hH'.ak (v / 2) 7 (by omega) (by omega) (by omega))) ?_
        refine G_iadd (pc := 85) dX12_tries_85 ?_
        refine G_istore (pc := 86) (lv' := [_, _, _, _, _, _, _]) dX12_tries_86 (by decide) rfl ?_
        refine G_iinc (pc := 88) (lv' := [_, _, _, _, _, _, _]) dX12_tries_88 (by decide) rfl rfl ?_
        refine G_goto (pc := 91) (tgt := 10) dX12_tries_91 (by decide) ?_
        have e1 : (48 + 2 * (b : Int)).toNat = 48 + 2 * b := by omega
        have e2 : (49 + 2 * (b : Int)).toNat = 49 + 2 * b := by omega
        rw [e1, e2]
        have e5 : code / (2 * zA hs) ^ (n - b) = lf' / (2 * zA hs) := by rw [show n - b = n - (b + 1) + 1 by omega, Nat.pow_succ, ← Nat.div_div_eq_div_mul, ← elf]
        refine G_eq rfl rfl ?_ rfl (ih (x + hs 7 (v / 2)) _ (some (vi (v : Int))) (by omega) (by omega) ?_ ((hO.set (by omega) (by omega)).set (by omega) (by omega)) (fun y hy => by rw [wr_n (by omega), wr_n (by omega)]; exact h48 y hy) (fun j h1 h2 => ?_))
        · rw [e5, show (b : Int) + -1 = (b : Int) - 1 by omega]; rfl
        · have : sumN (fun k => hs 7 (dgB (2 * zA hs) n code k / 2)) n ≤ n * 30 := sumN_le fun k _ => by
            have := dgB_lt (n := n) (code := code) (k := k) (show 0 < 2 * zA hs by omega)
            exact (hB.2.2.2.2.2.1 (dgB (2 * zA hs) n code k / 2) (by omega)).2.2.2.2
          have e : mns hs n code = sumN (fun k => hs 7 (dgB (2 * zA hs) n code k / 2)) n := rfl
          omega
        · by_cases e : j = b
          · subst e; rw [edg]; exact ⟨by rw [wr_n (by omega), wr_s], wr_s⟩
          · rw [wr_n (by omega), wr_n (by omega), wr_n (by omega), wr_n (by omega)]; exact hr j (by omega) h2
  refine G_iload_n (pc := 0) dX12_tries_0 rfl ?_
  refine G_istore_n (pc := 1) (lv' := [_, _, _, _, _, _, _]) dX12_tries_1 (by decide) rfl ?_
  refine G_iconst (pc := 2) dX12_tries_2 ?_
  refine G_istore (pc := 3) (lv' := [_, _, _, _, _, _, _]) dX12_tries_3 (by decide) rfl ?_
  refine G_iload_n (pc := 5) dX12_tries_5 rfl ?_
  refine G_iconst (pc := 6) dX12_tries_6 ?_
  refine G_isub (pc := 7) dX12_tries_7 ?_
  refine G_istore (pc := 8) (lv' := [_, _, _, _, _, _, _]) dX12_tries_8 (by decide) rfl ?_
  refine G_eq rfl rfl ?_ rfl (loop n 0 I none (Nat.le_refl _) (by rw [Nat.zero_add]; rfl) (by omega) Off.rfl (fun _ _ => rfl) (fun j h1 h2 => absurd h1 (by omega)))
  rw [Nat.sub_self, Nat.pow_zero, Nat.div_one]; rfl
theorem y_best (a m c i : Int) (hM : 87 ≤ M) (hC : MI I n tx hs C kn K) (hW : WF n tx hs C kn K) (ra : Ri a) (rm : Ri m) (rc : Ri c) (ri : Ri i) : FnQ E mdX12_best 8 M Rf [vr E 71, vi a, vi m, vi c, vi i] I J (MQ' I J (aBest hs a m c i) n tx hs C kn K) := by
  have hH := hC.2.1
  obtain ⟨-, -, hB, -, h0A, hRB, hTB, -⟩ := id hW
  have bA := hB.2.1
  have q1 := ra.lo
  have q2 := ra.hi
  have q3 := rm.lo
  have q4 := rm.hi
  have q5 := rc.lo
  have q6 := rc.hi
  have q7 := ri.lo
  have q8 := ri.hi
  have hod : ∀ k, od hs (cdC (2 * zA hs) a.toNat k) c.toNat ≤ 1000000 := fun k => od_le hB _ _
  have hbr := bsF_R hs a.toNat m.toNat c.toNat hod
  have hpw : (1 ≤ a ∧ a ≤ 3) → (2 * zA hs) ^ a.toNat ≤ 12 ^ 3 := fun h => Nat.le_trans (Nat.pow_le_pow_left (show 2 * zA hs ≤ 12 by omega) _) (Nat.pow_le_pow_right (by decide) (by omega))
  refine FnQ.of (by decide +kernel) (Nat.le_of_ble_eq_true rfl) ?_
  show GM E mdX12_best 8 M Rf _ I J 0 [some (vr E 71), some (vi a), some (vi m), some (vi c), some (vi i), none, none, none, none, none, none, none, none] []
  have loop : ∀ (r k : Nat) (bs : Option Value) (I' J' : Nat → Nat → Int) (fo : Int) (d e f : Option Value), k + r = (2 * zA hs) ^ a.toNat → ((1 ≤ a ∧ a ≤ 3) ∧ (0 ≤ m ∧ m ≤ 90) ∧ (0 ≤ c ∧ c ≤ 12) ∧ -1 ≤ i ∧ i ≤ a - 1) → MI I' n tx hs C kn K → I' 79 3 = a → Off I I' 71 86 → Off J J' 71 86 → (((bsF hs a.toNat m.toNat c.toNat k).1 = -4 ∧ fo = -1) ∨ ((bsF hs a.toNat m.toNat c.toNat k).1 ≠ -4 ∧ fo = ((bsF hs a.toNat m.toNat c.toNat k).2 : Nat))) → GM E mdX12_best 8 M Rf (MQ' I J (aBest hs a m c i) n tx hs C kn K) I' J' 115 [some (vr E 71), some (vi a), some (vi m), some (vi c), some (vi i), bs, some (vi (((2 * zA hs) ^ a.toNat : Nat) : Int)), some (vi fo), some (vl (bsF hs a.toNat m.toNat c.toNat k).1), none, some (vi (k : Int)), e, f] [] := by
    intro r
    induction r with
    | zero =>
      intro k bs I' J' fo d e f hk hcond hC' h3 hO hOJ hfo
      have hp := hpw hcond.1
      have hk : k = (2 * zA hs) ^ a.toNat := by omega
      subst hk
      have hbk := hbr ((2 * zA hs) ^ a.toNat)
      have hlt := bsF_lt hs a.toNat m.toNat c.toNat ((2 * zA hs) ^ a.toNat)
      have hfr : -1 ≤ fo ∧ fo ≤ 2000 := by
        rcases hfo with ⟨h1, h2⟩ | ⟨h1, h2⟩
        · omega
        · have := hlt h1; omega
      obtain ⟨bk, ebk⟩ : ∃ bk, bk = bsF hs a.toNat m.toNat c.toNat ((2 * zA hs) ^ a.toNat) := ⟨_, rfl⟩
      rw [← ebk] at hfo hlt hbk ⊢
      refine G_iload (pc := 115) dX12_best_115 rfl ?_
      refine G_iload (pc := 117) dX12_best_117 rfl ?_
      refine G_icmp_ge (pc := 119) (tgt := 181) dX12_best_119 (Ri.mk (by omega) (by omega)) (Ri.mk (by omega) (by omega)) (by decide) (fun h_119 => ?_) (fun h_119 => ?_)
      · refine G_iload (pc := 181) dX12_best_181 rfl ?_
        refine G_if_lt (pc := 183) (tgt := 191) dX12_best_183 (Ri.mk (by omega) (by omega)) (by decide) (fun h_183 => ?_) (fun h_183 => ?_)
        · refine G_lload (pc := 191) dX12_best_191 rfl ?_
          refine G_l2i (pc := 193) dX12_best_193 ?_
          refine G_iret (pc := 194) dX12_best_194 rfl ?_
          exact ⟨by unfold aBest; rw [if_pos hcond, ← ebk, if_pos (by omega)], hO, hOJ, hC'⟩
        · refine G_iload (pc := 186) dX12_best_186 rfl ?_
          refine G_if_ge (pc := 188) (tgt := 195) dX12_best_188 ri (by decide) (fun h_188 => ?_) (fun h_188 => ?_)
          · refine G_aload_n (pc := 195) dX12_best_195 rfl ?_
            refine G_iload_n (pc := 196) dX12_best_196 rfl ?_
            refine G_iload (pc := 197) dX12_best_197 rfl ?_
            refine G_callV (pc := 199) (md := mdX12_tries) (av := [_, _]) dX12_best_199 lkX12_167 mwX12_tries (FnQ.av (by rw [Int.toNat_of_nonneg (show 0 ≤ a by omega), show fo = ((bk.2 : Nat) : Int) by omega]) (m_tries a.toNat bk.2 (by omega) (by have := hlt (by omega); omega) h0A hM hC'.2.1 hB)) rfl (by first | rfl | assumption) (by omega) rfl rfl (Nat.le_of_ble_eq_true rfl) (by decide) ⟨Nat.zero_le _, Nat.zero_le _⟩ ?_
            rintro v I1 J1 ⟨rfl, rfl, hO1, h48, hdg⟩
            have hdi := hdg i.toNat (by omega)
            have hmn : mns hs a.toNat bk.2 ≤ a.toNat * 30 := sumN_le fun k _ => by
              have := dgB_lt (n := a.toNat) (code := bk.2) (k := k) (show 0 < 2 * zA hs by omega)
              exact (hB.2.2.2.2.2.1 (dgB (2 * zA hs) a.toNat bk.2 k / 2) (by omega)).2.2.2.2
            refine G_istore (pc := 202) (lv' := [_, _, _, _, _, _, _, _, _, _, _, _, _]) dX12_best_202 (by decide) rfl ?_
            refine G_iload (pc := 204) dX12_best_204 rfl ?_
            refine G_if_ge (pc := 206) (tgt := 213) dX12_best_206 (Ri.mk (by omega) (by omega)) (by decide) (fun h_206 => ?_) (fun h_206 => ?_)
            · refine G_iconst (pc := 213) dX12_best_213 ?_
              refine G_aload_n (pc := 214) dX12_best_214 rfl ?_
              refine G_getr (pc := 215) dX12_best_215 fiX12_35 (by first | rfl | assumption) (by omega) (by first | rfl | assumption) ?_
              refine G_bipush (pc := 218) dX12_best_218 (by decide) ?_
              refine G_iconst (pc := 220) dX12_best_220 ?_
              refine G_iload (pc := 221) dX12_best_221 rfl ?_
              refine G_imul (pc := 223) dX12_best_223 ?_
              refine G_iadd (pc := 224) dX12_best_224 ?_
              refine G_ialdv (pc := 225) dX12_best_225 (by first | rfl | assumption) (by omega) (by omega) (by omega) (by omega) ((show I1 80 (48 + 2 * i).toNat = ((dgB (2 * zA hs) a.toNat bk.2 i.toNat / 2 : Nat) : Int) by rw [show (48 + 2 * i).toNat = 48 + 2 * i.toNat by omega]; exact hdi.1)) ?_
              refine G_imul (pc := 226) dX12_best_226 ?_
              refine G_aload_n (pc := 227) dX12_best_227 rfl ?_
              refine G_getr (pc := 228) dX12_best_228 fiX12_35 (by first | rfl | assumption) (by omega) (by first | rfl | assumption) ?_
              refine G_bipush (pc := 231) dX12_best_231 (by decide) ?_
              refine G_iconst (pc := 233) dX12_best_233 ?_
              refine G_iload (pc := 234) dX12_best_234 rfl ?_
              refine G_imul (pc := 236) dX12_best_236 ?_
              refine G_iadd (pc := 237) dX12_best_237 ?_
              refine G_ialdv (pc := 238) dX12_best_238 (by first | rfl | assumption) (by omega) (by omega) (by omega) (by omega) ((show I1 80 (49 + 2 * i).toNat = ((dgB (2 * zA hs) a.toNat bk.2 i.toNat % 2 : Nat) : Int) by rw [show (49 + 2 * i).toNat = 49 + 2 * i.toNat by omega]; exact hdi.2)) ?_
              refine G_iadd (pc := 239) dX12_best_239 ?_
              refine G_iret (pc := 240) dX12_best_240 rfl ?_
              refine ⟨?_, hO.trans (hO1.mono (by omega) (by omega)), hOJ, hC'.sl3 hW (hO1.mono (by omega) (by omega)) (fun x hx => by rw [hO1 79 (by omega)]) h48⟩
              unfold aBest; rw [if_pos hcond, ← ebk, if_neg (by omega)]
              congr 2
              omega
            · exact absurd h_206 (by omega)
          · refine G_lload (pc := 191) dX12_best_191 rfl ?_
            refine G_l2i (pc := 193) dX12_best_193 ?_
            refine G_iret (pc := 194) dX12_best_194 rfl ?_
            exact ⟨by unfold aBest; rw [if_pos hcond, ← ebk, if_pos (by omega)], hO, hOJ, hC'⟩
      · exact absurd h_119 (by omega)
    | succ r ih =>
      intro k bs I' J' fo d e f hk hcond hC' h3 hO hOJ hfo
      have hp := hpw hcond.1
      have hbk := hbr k
      have hlt := bsF_lt hs a.toNat m.toNat c.toNat k
      have hfr : -1 ≤ fo ∧ fo ≤ 2000 := by
        rcases hfo with ⟨h1, h2⟩ | ⟨h1, h2⟩
        · omega
        · have := hlt h1; omega
      have hmn : mns hs a.toNat k ≤ a.toNat * 30 := sumN_le fun j _ => by
        have := dgB_lt (n := a.toNat) (code := k) (k := j) (show 0 < 2 * zA hs by omega)
        exact (hB.2.2.2.2.2.1 (dgB (2 * zA hs) a.toNat k j / 2) (by omega)).2.2.2.2
      have hodk := hod k
      refine G_iload (pc := 115) dX12_best_115 rfl ?_
      refine G_iload (pc := 117) dX12_best_117 rfl ?_
      refine G_icmp_ge (pc := 119) (tgt := 181) dX12_best_119 (Ri.mk (by omega) (by omega)) (Ri.mk (by omega) (by omega)) (by decide) (fun h_119 => ?_) (fun h_119 => ?_)
      · exact absurd h_119 (by omega)
      · refine G_aload_n (pc := 122) dX12_best_122 rfl ?_
        refine G_iload_n (pc := 123) dX12_best_123 rfl ?_
        refine G_iload (pc := 124) dX12_best_124 rfl ?_
        refine G_callV (pc := 126) (md := mdX12_tries) (av := [_, _]) dX12_best_126 lkX12_167 mwX12_tries (FnQ.av (by rw [Int.toNat_of_nonneg (show 0 ≤ a by omega)]) (m_tries a.toNat k (by omega) (by omega) h0A hM hC'.2.1 hB)) rfl (by first | rfl | assumption) (by omega) rfl rfl (Nat.le_of_ble_eq_true rfl) (by decide) ⟨Nat.zero_le _, Nat.zero_le _⟩ ?_
        rintro v I1 J1 ⟨rfl, rfl, hO1, h48, hdg⟩
        have hC1 : MI I1 n tx hs C kn K := hC'.sl3 hW (hO1.mono (by omega) (by omega)) (fun x hx => by rw [hO1 79 (by omega)]) h48
        have h31 : I1 79 3 = a := by rw [hO1 79 (by omega)]; exact h3
        have hR1 : RM I1 3 (cdC (2 * zA hs) a.toNat k) := ⟨by rw [h31]; show a = ((a.toNat : Nat) : Int); omega, fun t ht => ⟨(hdg t ht).1, by rw [show 16 * 3 + 2 * t + 1 = 49 + 2 * t by omega]; exact (hdg t ht).2⟩⟩
        have hO2 : Off I I1 71 86 := hO.trans (hO1.mono (by omega) (by omega))
        have hOJ2 : Off J1 J1 83 83 := Off.rfl
        refine G_iload_n (pc := 129) dX12_best_129 rfl ?_
        refine G_icmp_gt (pc := 130) (tgt := 175) dX12_best_130 (Ri.mk (by omega) (by omega)) rm (by decide) (fun h_130 => ?_) (fun h_130 => ?_)
        · refine G_iinc (pc := 175) (lv' := [_, _, _, _, _, _, _, _, _, _, _, _, _]) dX12_best_175 (by decide) rfl rfl ?_
          refine G_goto (pc := 178) (tgt := 115) dX12_best_178 (by decide) ?_
          first
            | (exfalso; omega)
            | (have hS : bsF hs a.toNat m.toNat c.toNat (k + 1) = ((od hs (cdC (2 * zA hs) a.toNat k) c.toNat : Int), k) := by rw [bsF, if_pos ⟨by omega, by omega⟩]
               refine G_eq rfl rfl ?_ rfl (ih (k + 1) bs _ _ (k : Int) none (some (vl (od hs (cdC (2 * zA hs) a.toNat k) c.toNat : Int))) none (by omega) hcond hC1 h31 hO2 (hOJ.trans (hOJ2.mono (by omega) (by omega))) (Or.inr ⟨by rw [hS]; show ((od hs (cdC (2 * zA hs) a.toNat k) c.toNat : Nat) : Int) ≠ -4; omega, by rw [hS]⟩))
               rw [hS]; rfl)
            | (have hS : bsF hs a.toNat m.toNat c.toNat (k + 1) = bsF hs a.toNat m.toNat c.toNat k := by rw [bsF, if_neg (by omega)]
               refine G_eq rfl rfl ?_ rfl (ih (k + 1) bs _ _ fo none (some (vl (od hs (cdC (2 * zA hs) a.toNat k) c.toNat : Int))) none (by omega) hcond hC1 h31 hO2 (hOJ.trans (hOJ2.mono (by omega) (by omega))) (by rw [hS]; exact hfo))
               rw [hS]; rfl)
            | (have hS : bsF hs a.toNat m.toNat c.toNat (k + 1) = bsF hs a.toNat m.toNat c.toNat k := by rw [bsF, if_neg (by omega)]
               refine G_eq rfl rfl ?_ rfl (ih (k + 1) bs _ _ fo none e f (by omega) hcond hC1 h31 hO2 hOJ (by rw [hS]; exact hfo))
               rw [hS]; rfl)
        · refine G_aload_n (pc := 133) dX12_best_133 rfl ?_
          refine G_iconst (pc := 134) dX12_best_134 ?_
          refine G_iload_n (pc := 135) dX12_best_135 rfl ?_
          refine G_callV (pc := 136) (md := mdX12_oddsOf) (av := [_, _]) dX12_best_136 lkX12_158 mwX12_oddsOf (FnQ.av (by rw [Int.toNat_of_nonneg (show 0 ≤ c by omega)]; rfl) (m_oddsOf 3 c.toNat (by omega) (by omega) hM hC1.2.1 hB hR1 (cdC_B h0A (by omega)))) rfl (by first | rfl | assumption) (by omega) rfl rfl (Nat.le_of_ble_eq_true rfl) (by decide) ⟨Nat.zero_le _, Nat.zero_le _⟩ ?_
          rintro v I2 J2 ⟨rfl, rfl, hOJ2⟩
          refine G_lstore (pc := 139) (lv' := [_, _, _, _, _, _, _, _, _, _, _, _, _]) dX12_best_139 (by decide) rfl ?_
          refine G_lload (pc := 141) dX12_best_141 rfl ?_
          refine G_lload (pc := 143) dX12_best_143 rfl ?_
          refine G_lc_le (pc := 145) (tgt := 154) dX12_best_145 dX12_best_146 (Rl.mk (by omega) (by omega)) (Rl.mk (by omega) (by omega)) (by decide) (fun h_145 => ?_) (fun h_145 => ?_)
          · refine G_iload (pc := 154) dX12_best_154 rfl ?_
            refine G_istore (pc := 156) (lv' := [_, _, _, _, _, _, _, _, _, _, _, _, _]) dX12_best_156 (by decide) rfl ?_
            refine G_lload (pc := 158) dX12_best_158 rfl ?_
            refine G_lload (pc := 160) dX12_best_160 rfl ?_
            refine G_lc_le (pc := 162) (tgt := 171) dX12_best_162 dX12_best_163 (Rl.mk (by omega) (by omega)) (Rl.mk (by omega) (by omega)) (by decide) (fun h_162 => ?_) (fun h_162 => ?_)
            · refine G_lload (pc := 171) dX12_best_171 rfl ?_
              refine G_lstore (pc := 173) (lv' := [_, _, _, _, _, _, _, _, _, _, _, _, _]) dX12_best_173 (by decide) rfl ?_
              refine G_iinc (pc := 175) (lv' := [_, _, _, _, _, _, _, _, _, _, _, _, _]) dX12_best_175 (by decide) rfl rfl ?_
              refine G_goto (pc := 178) (tgt := 115) dX12_best_178 (by decide) ?_
              first
                | (exfalso; omega)
                | (have hS : bsF hs a.toNat m.toNat c.toNat (k + 1) = ((od hs (cdC (2 * zA hs) a.toNat k) c.toNat : Int), k) := by rw [bsF, if_pos ⟨by omega, by omega⟩]
                   refine G_eq rfl rfl ?_ rfl (ih (k + 1) bs _ _ (k : Int) none (some (vl (od hs (cdC (2 * zA hs) a.toNat k) c.toNat : Int))) none (by omega) hcond hC1 h31 hO2 (hOJ.trans (hOJ2.mono (by omega) (by omega))) (Or.inr ⟨by rw [hS]; show ((od hs (cdC (2 * zA hs) a.toNat k) c.toNat : Nat) : Int) ≠ -4; omega, by rw [hS]⟩))
                   rw [hS]; rfl)
                | (have hS : bsF hs a.toNat m.toNat c.toNat (k + 1) = bsF hs a.toNat m.toNat c.toNat k := by rw [bsF, if_neg (by omega)]
                   refine G_eq rfl rfl ?_ rfl (ih (k + 1) bs _ _ fo none (some (vl (od hs (cdC (2 * zA hs) a.toNat k) c.toNat : Int))) none (by omega) hcond hC1 h31 hO2 (hOJ.trans (hOJ2.mono (by omega) (by omega))) (by rw [hS]; exact hfo))
                   rw [hS]; rfl)
                | (have hS : bsF hs a.toNat m.toNat c.toNat (k + 1) = bsF hs a.toNat m.toNat c.toNat k := by rw [bsF, if_neg (by omega)]
                   refine G_eq rfl rfl ?_ rfl (ih (k + 1) bs _ _ fo none e f (by omega) hcond hC1 h31 hO2 hOJ (by rw [hS]; exact hfo))
                   rw [hS]; rfl)
            · refine G_lload (pc := 166) dX12_best_166 rfl ?_
              refine G_goto (pc := 168) (tgt := 173) dX12_best_168 (by decide) ?_
              refine G_lstore (pc := 173) (lv' := [_, _, _, _, _, _, _, _, _, _, _, _, _]) dX12_best_173 (by decide) rfl ?_
              refine G_iinc (pc := 175) (lv' := [_, _, _, _, _, _, _, _, _, _, _, _, _]) dX12_best_175 (by decide) rfl rfl ?_
              refine G_goto (pc := 178) (tgt := 115) dX12_best_178 (by decide) ?_
              first
                | (exfalso; omega)
                | (have hS : bsF hs a.toNat m.toNat c.toNat (k + 1) = ((od hs (cdC (2 * zA hs) a.toNat k) c.toNat : Int), k) := by rw [bsF, if_pos ⟨by omega, by omega⟩]
                   refine G_eq rfl rfl ?_ rfl (ih (k + 1) bs _ _ (k : Int) none (some (vl (od hs (cdC (2 * zA hs) a.toNat k) c.toNat : Int))) none (by omega) hcond hC1 h31 hO2 (hOJ.trans (hOJ2.mono (by omega) (by omega))) (Or.inr ⟨by rw [hS]; show ((od hs (cdC (2 * zA hs) a.toNat k) c.toNat : Nat) : Int) ≠ -4; omega, by rw [hS]⟩))
                   rw [hS]; rfl)
                | (have hS : bsF hs a.toNat m.toNat c.toNat (k + 1) = bsF hs a.toNat m.toNat c.toNat k := by rw [bsF, if_neg (by omega)]
                   refine G_eq rfl rfl ?_ rfl (ih (k + 1) bs _ _ fo none (some (vl (od hs (cdC (2 * zA hs) a.toNat k) c.toNat : Int))) none (by omega) hcond hC1 h31 hO2 (hOJ.trans (hOJ2.mono (by omega) (by omega))) (by rw [hS]; exact hfo))
                   rw [hS]; rfl)
                | (have hS : bsF hs a.toNat m.toNat c.toNat (k + 1) = bsF hs a.toNat m.toNat c.toNat k := by rw [bsF, if_neg (by omega)]
                   refine G_eq rfl rfl ?_ rfl (ih (k + 1) bs _ _ fo none e f (by omega) hcond hC1 h31 hO2 hOJ (by rw [hS]; exact hfo))
                   rw [hS]; rfl)
          · refine G_iload (pc := 149) dX12_best_149 rfl ?_
            refine G_goto (pc := 151) (tgt := 156) dX12_best_151 (by decide) ?_
            refine G_istore (pc := 156) (lv' := [_, _, _, _, _, _, _, _, _, _, _, _, _]) dX12_best_156 (by decide) rfl ?_
            refine G_lload (pc := 158) dX12_best_158 rfl ?_
            refine G_lload (pc := 160) dX12_best_160 rfl ?_
            refine G_lc_le (pc := 162) (tgt := 171) dX12_best_162 dX12_best_163 (Rl.mk (by omega) (by omega)) (Rl.mk (by omega) (by omega)) (by decide) (fun h_162 => ?_) (fun h_162 => ?_)
            · refine G_lload (pc := 171) dX12_best_171 rfl ?_
              refine G_lstore (pc := 173) (lv' := [_, _, _, _, _, _, _, _, _, _, _, _, _]) dX12_best_173 (by decide) rfl ?_
              refine G_iinc (pc := 175) (lv' := [_, _, _, _, _, _, _, _, _, _, _, _, _]) dX12_best_175 (by decide) rfl rfl ?_
              refine G_goto (pc := 178) (tgt := 115) dX12_best_178 (by decide) ?_
              first
                | (exfalso; omega)
                | (have hS : bsF hs a.toNat m.toNat c.toNat (k + 1) = ((od hs (cdC (2 * zA hs) a.toNat k) c.toNat : Int), k) := by rw [bsF, if_pos ⟨by omega, by omega⟩]
                   refine G_eq rfl rfl ?_ rfl (ih (k + 1) bs _ _ (k : Int) none (some (vl (od hs (cdC (2 * zA hs) a.toNat k) c.toNat : Int))) none (by omega) hcond hC1 h31 hO2 (hOJ.trans (hOJ2.mono (by omega) (by omega))) (Or.inr ⟨by rw [hS]; show ((od hs (cdC (2 * zA hs) a.toNat k) c.toNat : Nat) : Int) ≠ -4; omega, by rw [hS]⟩))
                   rw [hS]; rfl)
                | (have hS : bsF hs a.toNat m.toNat c.toNat (k + 1) = bsF hs a.toNat m.toNat c.toNat k := by rw [bsF, if_neg (by omega)]
                   refine G_eq rfl rfl ?_ rfl (ih (k + 1) bs _ _ fo none (some (vl (od hs (cdC (2 * zA hs) a.toNat k) c.toNat : Int))) none (by omega) hcond hC1 h31 hO2 (hOJ.trans (hOJ2.mono (by omega) (by omega))) (by rw [hS]; exact hfo))
                   rw [hS]; rfl)
                | (have hS : bsF hs a.toNat m.toNat c.toNat (k + 1) = bsF hs a.toNat m.toNat c.toNat k := by rw [bsF, if_neg (by omega)]
                   refine G_eq rfl rfl ?_ rfl (ih (k + 1) bs _ _ fo none e f (by omega) hcond hC1 h31 hO2 hOJ (by rw [hS]; exact hfo))
                   rw [hS]; rfl)
            · refine G_lload (pc := 166) dX12_best_166 rfl ?_
              refine G_goto (pc := 168) (tgt := 173) dX12_best_168 (by decide) ?_
              refine G_lstore (pc := 173) (lv' := [_, _, _, _, _, _, _, _, _, _, _, _, _]) dX12_best_173 (by decide) rfl ?_
              refine G_iinc (pc := 175) (lv' := [_, _, _, _, _, _, _, _, _, _, _, _, _]) dX12_best_175 (by decide) rfl rfl ?_
              refine G_goto (pc := 178) (tgt := 115) dX12_best_178 (by decide) ?_
              first
                | (exfalso; omega)
                | (have hS : bsF hs a.toNat m.toNat c.toNat (k + 1) = ((od hs (cdC (2 * zA hs) a.toNat k) c.toNat : Int), k) := by rw [bsF, if_pos ⟨by omega, by omega⟩]
                   refine G_eq rfl rfl ?_ rfl (ih (k + 1) bs _ _ (k : Int) none (some (vl (od hs (cdC (2 * zA hs) a.toNat k) c.toNat : Int))) none (by omega) hcond hC1 h31 hO2 (hOJ.trans (hOJ2.mono (by omega) (by omega))) (Or.inr ⟨by rw [hS]; show ((od hs (cdC (2 * zA hs) a.toNat k) c.toNat : Nat) : Int) ≠ -4; omega, by rw [hS]⟩))
                   rw [hS]; rfl)
                | (have hS : bsF hs a.toNat m.toNat c.toNat (k + 1) = bsF hs a.toNat m.toNat c.toNat k := by rw [bsF, if_neg (by omega)]
                   refine G_eq rfl rfl ?_ rfl (ih (k + 1) bs _ _ fo none (some (vl (od hs (cdC (2 * zA hs) a.toNat k) c.toNat : Int))) none (by omega) hcond hC1 h31 hO2 (hOJ.trans (hOJ2.mono (by omega) (by omega))) (by rw [hS]; exact hfo))
                   rw [hS]; rfl)
                | (have hS : bsF hs a.toNat m.toNat c.toNat (k + 1) = bsF hs a.toNat m.toNat c.toNat k := by rw [bsF, if_neg (by omega)]
                   refine G_eq rfl rfl ?_ rfl (ih (k + 1) bs _ _ fo none e f (by omega) hcond hC1 h31 hO2 hOJ (by rw [hS]; exact hfo))
                   rw [hS]; rfl)
  refine G_iload_n (pc := 0) dX12_best_0 rfl ?_
  refine G_i2l (pc := 1) dX12_best_1 ra ?_
  refine G_lconst (pc := 2) dX12_best_2 ?_
  refine G_ldc2 (pc := 3) dX12_best_3 klX12_81 ?_
  refine G_callS1 (pc := 6) (md := mdX12_in) (av := [_, _, _]) dX12_best_6 lkX12_66 mwX12_in (m_inI _ _ _ (1 ≤ a ∧ a ≤ 3) (by omega) (Rl.mk (by omega) (by omega)) (Rl.mk (by omega) (by omega)) (Rl.mk (by omega) (by omega))) rfl rfl (Nat.le_of_ble_eq_true rfl) (by decide) ⟨Nat.zero_le _, Nat.zero_le _⟩ ?_
  refine G_if_eq (pc := 9) (tgt := 52) dX12_best_9 (by first | exact bI_R | exact ra | exact rm | exact rc | exact ri | exact Ri.mk (by omega) (by omega)) (by decide) (fun h_9 => ?_) (fun h_9 => ?_)
  · try simp only [bI_eq0, bI_ne0] at h_9
    refine G_iconst (pc := 52) dX12_best_52 ?_
    refine G_iret (pc := 53) dX12_best_53 rfl ?_
    exact ⟨by unfold aBest; rw [if_neg (by omega)], Off.rfl, Off.rfl, hC⟩
  · try simp only [bI_eq0, bI_ne0] at h_9
    refine G_iload_n (pc := 12) dX12_best_12 rfl ?_
    refine G_i2l (pc := 13) dX12_best_13 rm ?_
    refine G_lconst (pc := 14) dX12_best_14 ?_
    refine G_ldc2 (pc := 15) dX12_best_15 klX12_161 ?_
    refine G_callS1 (pc := 18) (md := mdX12_in) (av := [_, _, _]) dX12_best_18 lkX12_66 mwX12_in (m_inI _ _ _ (0 ≤ m ∧ m ≤ 90) (by omega) (Rl.mk (by omega) (by omega)) (Rl.mk (by omega) (by omega)) (Rl.mk (by omega) (by omega))) rfl rfl (Nat.le_of_ble_eq_true rfl) (by decide) ⟨Nat.zero_le _, Nat.zero_le _⟩ ?_
    refine G_if_eq (pc := 21) (tgt := 52) dX12_best_21 (by first | exact bI_R | exact ra | exact rm | exact rc | exact ri | exact Ri.mk (by omega) (by omega)) (by decide) (fun h_21 => ?_) (fun h_21 => ?_)
    · try simp only [bI_eq0, bI_ne0] at h_21
      refine G_iconst (pc := 52) dX12_best_52 ?_
      refine G_iret (pc := 53) dX12_best_53 rfl ?_
      exact ⟨by unfold aBest; rw [if_neg (by omega)], Off.rfl, Off.rfl, hC⟩
    · try simp only [bI_eq0, bI_ne0] at h_21
      refine G_iload_n (pc := 24) dX12_best_24 rfl ?_
      refine G_i2l (pc := 25) dX12_best_25 rc ?_
      refine G_lconst (pc := 26) dX12_best_26 ?_
      refine G_ldc2 (pc := 27) dX12_best_27 klX12_156 ?_
      refine G_callS1 (pc := 30) (md := mdX12_in) (av := [_, _, _]) dX12_best_30 lkX12_66 mwX12_in (m_inI _ _ _ (0 ≤ c ∧ c ≤ 12) (by omega) (Rl.mk (by omega) (by omega)) (Rl.mk (by omega) (by omega)) (Rl.mk (by omega) (by omega))) rfl rfl (Nat.le_of_ble_eq_true rfl) (by decide) ⟨Nat.zero_le _, Nat.zero_le _⟩ ?_
      refine G_if_eq (pc := 33) (tgt := 52) dX12_best_33 (by first | exact bI_R | exact ra | exact rm | exact rc | exact ri | exact Ri.mk (by omega) (by omega)) (by decide) (fun h_33 => ?_) (fun h_33 => ?_)
      · try simp only [bI_eq0, bI_ne0] at h_33
        refine G_iconst (pc := 52) dX12_best_52 ?_
        refine G_iret (pc := 53) dX12_best_53 rfl ?_
        exact ⟨by unfold aBest; rw [if_neg (by omega)], Off.rfl, Off.rfl, hC⟩
      · try simp only [bI_eq0, bI_ne0] at h_33
        refine G_iload (pc := 36) dX12_best_36 rfl ?_
        refine G_i2l (pc := 38) dX12_best_38 ri ?_
        refine G_ldc2 (pc := 39) dX12_best_39 klX12_163 ?_
        refine G_iload_n (pc := 42) dX12_best_42 rfl ?_
        refine G_iconst (pc := 43) dX12_best_43 ?_
        refine G_isub (pc := 44) dX12_best_44 ?_
        refine G_i2l (pc := 45) dX12_best_45 (Ri.mk (by omega) (by omega)) ?_
        refine G_callS1 (pc := 46) (md := mdX12_in) (av := [_, _, _]) dX12_best_46 lkX12_66 mwX12_in (m_inI _ _ _ (-1 ≤ i ∧ i ≤ a - 1) (by omega) (Rl.mk (by omega) (by omega)) (Rl.mk (by omega) (by omega)) (Rl.mk (by omega) (by omega))) rfl rfl (Nat.le_of_ble_eq_true rfl) (by decide) ⟨Nat.zero_le _, Nat.zero_le _⟩ ?_
        refine G_if_ne (pc := 49) (tgt := 54) dX12_best_49 (by first | exact bI_R | exact ra | exact rm | exact rc | exact ri | exact Ri.mk (by omega) (by omega)) (by decide) (fun h_49 => ?_) (fun h_49 => ?_)
        · try simp only [bI_eq0, bI_ne0] at h_49
          refine G_iconst (pc := 54) dX12_best_54 ?_
          refine G_aload_n (pc := 55) dX12_best_55 rfl ?_
          refine G_getr (pc := 56) dX12_best_56 fiX12_20 (by first | rfl | assumption) (by omega) (by first | rfl | assumption) ?_
          refine G_iconst (pc := 59) dX12_best_59 ?_
          refine G_ialdv (pc := 60) dX12_best_60 (by first | rfl | assumption) (by omega) (by omega) (by omega) (by omega) (hH.na rfl) ?_
          refine G_imul (pc := 61) dX12_best_61 ?_
          refine G_istore (pc := 62) (lv' := [_, _, _, _, _, _, _, _, _, _, _, _, _]) dX12_best_62 (by decide) rfl ?_
          refine G_iload_n (pc := 64) dX12_best_64 rfl ?_
          refine G_iconst (pc := 65) dX12_best_65 ?_
          refine G_icmp_ne (pc := 66) (tgt := 74) dX12_best_66 (by first | exact bI_R | exact ra | exact rm | exact rc | exact ri | exact Ri.mk (by omega) (by omega)) (Ri.mk (by omega) (by omega)) (by decide) (fun h_66 => ?_) (fun h_66 => ?_)
          · refine G_iload_n (pc := 74) dX12_best_74 rfl ?_
            refine G_iconst (pc := 75) dX12_best_75 ?_
            refine G_icmp_ne (pc := 76) (tgt := 87) dX12_best_76 (by first | exact bI_R | exact ra | exact rm | exact rc | exact ri | exact Ri.mk (by omega) (by omega)) (Ri.mk (by omega) (by omega)) (by decide) (fun h_76 => ?_) (fun h_76 => ?_)
            · refine G_iload (pc := 87) dX12_best_87 rfl ?_
              refine G_iload (pc := 89) dX12_best_89 rfl ?_
              refine G_imul (pc := 91) dX12_best_91 ?_
              refine G_iload (pc := 92) dX12_best_92 rfl ?_
              refine G_imul (pc := 94) dX12_best_94 ?_
              refine G_st (st' := [vi (((2 * zA hs) ^ a.toNat : Nat) : Int)]) ?_ ?_
              · first
                | (rw [show a.toNat = 1 by omega, Nat.pow_one, Int.natCast_mul]; rfl)
                | (rw [show a.toNat = 2 by omega, Nat.pow_two, Int.natCast_mul, Int.natCast_mul]; rfl)
                | (rw [show a.toNat = 3 by omega, show (2 * zA hs) ^ 3 = 2 * zA hs * (2 * zA hs) * (2 * zA hs) by grind, Int.natCast_mul, Int.natCast_mul, Int.natCast_mul]; rfl)
              refine G_istore (pc := 95) (lv' := [_, _, _, _, _, _, _, _, _, _, _, _, _]) dX12_best_95 (by decide) rfl ?_
              refine G_iconst (pc := 97) dX12_best_97 ?_
              refine G_istore (pc := 98) (lv' := [_, _, _, _, _, _, _, _, _, _, _, _, _]) dX12_best_98 (by decide) rfl ?_
              refine G_ldc2 (pc := 100) dX12_best_100 klX12_165 ?_
              refine G_lstore (pc := 103) (lv' := [_, _, _, _, _, _, _, _, _, _, _, _, _]) dX12_best_103 (by decide) rfl ?_
              refine G_aload_n (pc := 105) dX12_best_105 rfl ?_
              refine G_getr (pc := 106) dX12_best_106 fiX12_32 (by first | rfl | assumption) (by omega) (by first | rfl | assumption) ?_
              refine G_iconst (pc := 109) dX12_best_109 ?_
              refine G_iload_n (pc := 110) dX12_best_110 rfl ?_
              refine G_iast (pc := 111) dX12_best_111 (by first | rfl | assumption) (by omega) (by omega) (by omega) (by omega) ?_
              refine G_iconst (pc := 112) dX12_best_112 ?_
              refine G_istore (pc := 113) (lv' := [_, _, _, _, _, _, _, _, _, _, _, _, _]) dX12_best_113 (by decide) rfl ?_
              have h03 : ((3 : Int)).toNat = 3 := rfl
              rw [h03]
              exact loop _ 0 _ _ J _ none _ _ (Nat.zero_add _) (by omega) (hC.sl3 hW (Off.rfl.set (by omega) (by omega)) (fun x hx => wr_n (by omega)) (fun x hx => by rw [wr_o (by decide)])) wr_s (Off.rfl.set (by omega) (by omega)) Off.rfl (Or.inl ⟨rfl, rfl⟩)
            · refine G_iload (pc := 79) dX12_best_79 rfl ?_
              refine G_iload (pc := 81) dX12_best_81 rfl ?_
              refine G_imul (pc := 83) dX12_best_83 ?_
              refine G_goto (pc := 84) (tgt := 95) dX12_best_84 (by decide) ?_
              refine G_st (st' := [vi (((2 * zA hs) ^ a.toNat : Nat) : Int)]) ?_ ?_
              · first
                | (rw [show a.toNat = 1 by omega, Nat.pow_one, Int.natCast_mul]; rfl)
                | (rw [show a.toNat = 2 by omega, Nat.pow_two, Int.natCast_mul, Int.natCast_mul]; rfl)
                | (rw [show a.toNat = 3 by omega, show (2 * zA hs) ^ 3 = 2 * zA hs * (2 * zA hs) * (2 * zA hs) by grind, Int.natCast_mul, Int.natCast_mul, Int.natCast_mul]; rfl)
              refine G_istore (pc := 95) (lv' := [_, _, _, _, _, _, _, _, _, _, _, _, _]) dX12_best_95 (by decide) rfl ?_
              refine G_iconst (pc := 97) dX12_best_97 ?_
              refine G_istore (pc := 98) (lv' := [_, _, _, _, _, _, _, _, _, _, _, _, _]) dX12_best_98 (by decide) rfl ?_
              refine G_ldc2 (pc := 100) dX12_best_100 klX12_165 ?_
              refine G_lstore (pc := 103) (lv' := [_, _, _, _, _, _, _, _, _, _, _, _, _]) dX12_best_103 (by decide) rfl ?_
              refine G_aload_n (pc := 105) dX12_best_105 rfl ?_
              refine G_getr (pc := 106) dX12_best_106 fiX12_32 (by first | rfl | assumption) (by omega) (by first | rfl | assumption) ?_
              refine G_iconst (pc := 109) dX12_best_109 ?_
              refine G_iload_n (pc := 110) dX12_best_110 rfl ?_
              refine G_iast (pc := 111) dX12_best_111 (by first | rfl | assumption) (by omega) (by omega) (by omega) (by omega) ?_
              refine G_iconst (pc := 112) dX12_best_112 ?_
              refine G_istore (pc := 113) (lv' := [_, _, _, _, _, _, _, _, _, _, _, _, _]) dX12_best_113 (by decide) rfl ?_
              have h03 : ((3 : Int)).toNat = 3 := rfl
              rw [h03]
              exact loop _ 0 _ _ J _ none _ _ (Nat.zero_add _) (by omega) (hC.sl3 hW (Off.rfl.set (by omega) (by omega)) (fun x hx => wr_n (by omega)) (fun x hx => by rw [wr_o (by decide)])) wr_s (Off.rfl.set (by omega) (by omega)) Off.rfl (Or.inl ⟨rfl, rfl⟩)
          · refine G_iload (pc := 69) dX12_best_69 rfl ?_
            refine G_goto (pc := 71) (tgt := 95) dX12_best_71 (by decide) ?_
            refine G_st (st' := [vi (((2 * zA hs) ^ a.toNat : Nat) : Int)]) ?_ ?_
            · first
              | (rw [show a.toNat = 1 by omega, Nat.pow_one, Int.natCast_mul]; rfl)
              | (rw [show a.toNat = 2 by omega, Nat.pow_two, Int.natCast_mul, Int.natCast_mul]; rfl)
              | (rw [show a.toNat = 3 by omega, show (2 * zA hs) ^ 3 = 2 * zA hs * (2 * zA hs) * (2 * zA hs) by grind, Int.natCast_mul, Int.natCast_mul, Int.natCast_mul]; rfl)
            refine G_istore (pc := 95) (lv' := [_, _, _, _, _, _, _, _, _, _, _, _, _]) dX12_best_95 (by decide) rfl ?_
            refine G_iconst (pc := 97) dX12_best_97 ?_
            refine G_istore (pc := 98) (lv' := [_, _, _, _, _, _, _, _, _, _, _, _, _]) dX12_best_98 (by decide) rfl ?_
            refine G_ldc2 (pc := 100) dX12_best_100 klX12_165 ?_
            refine G_lstore (pc := 103) (lv' := [_, _, _, _, _, _, _, _, _, _, _, _, _]) dX12_best_103 (by decide) rfl ?_
            refine G_aload_n (pc := 105) dX12_best_105 rfl ?_
            refine G_getr (pc := 106) dX12_best_106 fiX12_32 (by first | rfl | assumption) (by omega) (by first | rfl | assumption) ?_
            refine G_iconst (pc := 109) dX12_best_109 ?_
            refine G_iload_n (pc := 110) dX12_best_110 rfl ?_
            refine G_iast (pc := 111) dX12_best_111 (by first | rfl | assumption) (by omega) (by omega) (by omega) (by omega) ?_
            refine G_iconst (pc := 112) dX12_best_112 ?_
            refine G_istore (pc := 113) (lv' := [_, _, _, _, _, _, _, _, _, _, _, _, _]) dX12_best_113 (by decide) rfl ?_
            have h03 : ((3 : Int)).toNat = 3 := rfl
            rw [h03]
            exact loop _ 0 _ _ J _ none _ _ (Nat.zero_add _) (by omega) (hC.sl3 hW (Off.rfl.set (by omega) (by omega)) (fun x hx => wr_n (by omega)) (fun x hx => by rw [wr_o (by decide)])) wr_s (Off.rfl.set (by omega) (by omega)) Off.rfl (Or.inl ⟨rfl, rfl⟩)
        · try simp only [bI_eq0, bI_ne0] at h_49
          refine G_iconst (pc := 52) dX12_best_52 ?_
          refine G_iret (pc := 53) dX12_best_53 rfl ?_
          exact ⟨by unfold aBest; rw [if_neg (by omega)], Off.rfl, Off.rfl, hC⟩
end MOD9
