/-! THE CLASS'S CALLS that change the state -/
abbrev ST : Type := Nat × (Nat → Int) × HS × CS × Nat × (Nat → CS)
abbrev CIS (I : Nat → Nat → Int) (S : ST) : Prop := CI I S.1 S.2.1 S.2.2.1 S.2.2.2.1 S.2.2.2.2.1 S.2.2.2.2.2
abbrev WFS (S : ST) : Prop := WF S.1 S.2.1 S.2.2.1 S.2.2.2.1 S.2.2.2.2.1 S.2.2.2.2.2
abbrev CQS (I J : Nat → Nat → Int) (a : Int) (S : ST) : Option Value → (Nat → Nat → Int) → (Nat → Nat → Int) → Prop := fun v I' J' => v = some (vi a) ∧ Off I I' 0 70 ∧ Off J J' 0 70 ∧ CIS I' S
theorem CI.tx {I I' : Nat → Nat → Int} {n n' : Nat} {tx tx' : Nat → Int} {hs : HS} {C : CS} {kn : Nat} {K : Nat → CS} (h : CI I n tx hs C kn K) (hI : ∀ q, q ≠ 1 → q ≠ 2 → I' q = I q) (hX : XI I' n' tx') : CI I' n' tx' hs C kn K := by
  obtain ⟨h1, h2, h3, h4, h5, h6, h7, h8⟩ := h
  exact ⟨hX, h2.off fun q a b => hI q (by omega) (by omega), h3.off fun q a b => hI q (by omega) (by omega), h4.off fun q a b => hI q (by omega) (by omega), by rw [hI 0 (by omega) (by omega)]; exact h5, fun z => ⟨(h6 z).1.off fun q a b => hI q (by omega) (by omega), (h6 z).2.off fun q a b => hI q (by omega) (by omega)⟩, fun z => ⟨(h7 z).1.off fun q a b => hI q (by omega) (by omega), (h7 z).2.off fun q a b => hI q (by omega) (by omega)⟩, h8.off (hI _ (by omega) (by omega)) fun q a b => hI q (by omega) (by omega)⟩
theorem CI.co {I I' : Nat → Nat → Int} {n : Nat} {tx : Nat → Int} {hs : HS} {C C' : CS} {kn : Nat} {K : Nat → CS} (h : CI I n tx hs C kn K) (hI : ∀ q, (q < 12 ∨ 20 < q) → I' q = I q) (hR : RI I' 13 C') (hT : TI I' 16 C') : CI I' n tx hs C' kn K := by
  obtain ⟨h1, h2, h3, h4, h5, h6, h7, h8⟩ := h
  exact ⟨h1.off (hI 1 (by omega)) (hI 2 (by omega)), h2.off fun q a b => hI q (by omega), hR, hT, by rw [hI 0 (by omega)]; exact h5, fun z => ⟨(h6 z).1.off fun q a b => hI q (by omega), (h6 z).2.off fun q a b => hI q (by omega)⟩, fun z => ⟨(h7 z).1.off fun q a b => hI q (by omega), (h7 z).2.off fun q a b => hI q (by omega)⟩, h8.off (hI _ (by omega)) fun q a b => hI q (by omega)⟩
def aWrite (n : Nat) (k : Int) : Int := if 1 ≤ k ∧ k ≤ 8 then (if (n : Int) + k ≤ 400 then n + k else -3) else -1
def sWrite (S : ST) (k v : Int) : ST := if (1 ≤ k ∧ k ≤ 8) ∧ (S.1 : Int) + k ≤ 400 then (S.1 + k.toNat, txW S.2.1 S.1 k.toNat v, S.2.2) else S
abbrev okL (tx : Nat → Int) (n : Nat) : Prop := (parse tx n).1 = -4 ∧ 0 < zS (parse tx n).2.1 ∧ 0 < zA (parse tx n).2.1
def aLay (tx : Nat → Int) (n : Nat) : Int := if okL tx n then (zN (parse tx n).2.1 : Int) else -2
def sLay (S : ST) : ST := if okL S.2.1 S.1 then (S.1, S.2.1, (parse S.2.1 S.1).2.1, noT (parse S.2.1 S.1).2.2, 0, S.2.2.2.2.2) else S
def aStep (hs : HS) (C : CS) (a k : Int) : Int := if isA hs a ∧ 0 ≤ k ∧ k ≤ 1 then (if C 0 0 < 8 then (C 0 0 : Int) + 1 else -3) else -1
abbrev sCo (S : ST) (C : CS) : ST := (S.1, S.2.1, S.2.2.1, C, S.2.2.2.2)
def sStep (S : ST) (a k : Int) : ST := if (isA S.2.2.1 a ∧ 0 ≤ k ∧ k ≤ 1) ∧ S.2.2.2.1 0 0 < 8 then sCo S (addR S.2.2.2.1 a.toNat k.toNat) else S
def sNoRow (S : ST) : ST := sCo S (noR S.2.2.2.1)
def aTell (hs : HS) (C : CS) (s a n d : Int) : Int := if isS hs s ∧ isA hs a ∧ (1 ≤ n ∧ n ≤ 4) ∧ 0 ≤ d ∧ d ≤ n then (if C 3 0 < 3 then (C 3 0 : Int) + 1 else -3) else -1
def sTell (S : ST) (s a n d : Int) : ST := if (isS S.2.2.1 s ∧ isA S.2.2.1 a ∧ (1 ≤ n ∧ n ≤ 4) ∧ 0 ≤ d ∧ d ≤ n) ∧ S.2.2.2.1 3 0 < 3 then sCo S (addT S.2.2.2.1 s.toNat a.toNat n.toNat d.toNat) else S
def sForget (S : ST) : ST := sCo S (noT S.2.2.2.1)
def aKeep (kn : Nat) : Int := if kn = 2 then -3 else (kn : Int) + 1
def sKeep (S : ST) : ST := if S.2.2.2.2.1 = 2 then S else (S.1, S.2.1, S.2.2.1, S.2.2.2.1, S.2.2.2.2.1 + 1, fun j => if j = S.2.2.2.2.1 + 1 then S.2.2.2.1 else S.2.2.2.2.2 j)
def aBack (kn : Nat) : Int := if kn = 0 then -2 else (kn : Int) - 1
def sBack (S : ST) : ST := if S.2.2.2.2.1 = 0 then S else (S.1, S.2.1, S.2.2.1, S.2.2.2.2.2 S.2.2.2.2.1, S.2.2.2.2.1 - 1, S.2.2.2.2.2)
theorem paF_R (tx : Nat → Int) (n : Nat) : ∀ (m p : Nat) (D : DS), -4 ≤ (paF tx n m p D).1 ∧ (paF tx n m p D).1 ≤ n
  | 0, _, D => by simp [paF]
  | m + 1, p, D => by
    rw [paF]
    split
    · simp
    · split
      · simp; omega
      · split
        · simp; omega
        · exact paF_R tx n m _ _
theorem parse_R (tx : Nat → Int) (n : Nat) (h : n ≤ 400) : -4 ≤ (parse tx n).1 ∧ (parse tx n).1 ≤ 1000 := by
  have := paF_R tx n (n + 1) 0 D0
  unfold parse
  omega
section COMP4
variable {E : EV} {M : Nat} {I J : Nat → Nat → Int} {n : Nat} {tx : Nat → Int} {hs : HS} {C : CS} {kn : Nat} {K : Nat → CS}
theorem x_write (k v : Int) (hM : 71 ≤ M) (hC : CI I n tx hs C kn K) (hW : WF n tx hs C kn K) (rk : Ri k) (rv : Rl v) : FnQ E mdX11_write 4 M Rf [vr E 0, vi k, vl v] I J (CQS I J (aWrite n k) (sWrite (n, tx, hs, C, kn, K) k v)) := by
  have v1 := hC.1.1
  have hn := hW.1
  refine FnQ.of (by decide +kernel) (Nat.le_of_ble_eq_true rfl) ?_
  show GM E mdX11_write 4 M Rf _ I J 0 [some (vr E 0), some (vi k), some (vl v), none, none] []
  have loop : ∀ (b : Nat) (I' : Nat → Nat → Int), b ≤ k.toNat → (1 ≤ k ∧ k ≤ 8) → (n : Int) + k ≤ 400 → CI I' (n + (k.toNat - b)) (txW tx n k.toNat v) hs C kn K → Off I I' 0 70 → GM E mdX11_write 4 M Rf (CQS I J (aWrite n k) (sWrite (n, tx, hs, C, kn, K) k v)) I' J 35 [some (vr E 0), some (vi k), some (vl v), none, some (vi ((b : Int) - 1))] [] := by
    intro b
    induction b with
    | zero =>
      intro I' hb hk hk4 hC' hO
      have v1' := hC'.1.1
      refine G_iload (pc := 35) dX11_write_35 rfl ?_
      refine G_if_lt (pc := 37) (tgt := 62) dX11_write_37 (Ri.mk (by omega) (by omega)) (by decide) (fun h_37 => ?_) (fun h_37 => ?_)
      · refine G_aload_n (pc := 62) dX11_write_62 rfl ?_
        refine G_getr (pc := 63) dX11_write_63 fiX11_10 (by first | rfl | assumption) (by omega) (by first | rfl | assumption) ?_
        refine G_geti (pc := 66) dX11_write_66 fiX11_105 (by first | rfl | assumption) (by omega) ?_
        refine G_iret (pc := 69) dX11_write_69 rfl ?_
        refine ⟨?_, hO, Off.rfl, ?_⟩
        · rw [v1']; unfold aWrite; rw [if_pos hk, if_pos hk4]; congr 2; omega
        · unfold sWrite; rw [if_pos ⟨hk, hk4⟩]; exact hC'
      · exact absurd h_37 (by omega)
    | succ b ih =>
      intro I' hb hk hk4 hC' hO
      have hX' := hC'.1
      refine G_iload (pc := 35) dX11_write_35 rfl ?_
      refine G_if_lt (pc := 37) (tgt := 62) dX11_write_37 (Ri.mk (by omega) (by omega)) (by decide) (fun h_37 => ?_) (fun h_37 => ?_)
      · exact absurd h_37 (by omega)
      · refine G_aload_n (pc := 40) dX11_write_40 rfl ?_
        refine G_getr (pc := 41) dX11_write_41 fiX11_10 (by first | rfl | assumption) (by omega) (by first | rfl | assumption) ?_
        refine G_lload_n (pc := 44) dX11_write_44 rfl ?_
        refine G_bipush (pc := 45) dX11_write_45 (by decide) ?_
        refine G_iload (pc := 47) dX11_write_47 rfl ?_
        refine G_imul (pc := 49) dX11_write_49 ?_
        refine G_st (st' := [vi ((8 * b : Nat) : Int), vl v, vr E 1]) (by rw [show (8 : Int) * (((b + 1 : Nat) : Int) - 1) = ((8 * b : Nat) : Int) by omega]) ?_
        refine G_lushr (pc := 50) dX11_write_50 (by omega) ?_
        refine G_l2i (pc := 51) dX11_write_51 ?_
        refine G_i2b (pc := 52) dX11_write_52 ?_
        rw [bt_u (by omega)]
        refine G_callV0 (pc := 53) (md := mdX9_add) (av := [_]) dX11_write_53 lkX11_109 mwX9_add (c_Xadd (bt v b) hM hX' (by omega) (by have := bt_R v b; omega)) rfl (by first | rfl | assumption) (by omega) rfl rfl (Nat.le_of_ble_eq_true rfl) (by decide) ⟨Nat.zero_le _, Nat.zero_le _⟩ ?_
        refine G_iinc (pc := 56) (lv' := [_, _, _, _, _]) dX11_write_56 (by decide) rfl rfl ?_
        refine G_goto (pc := 59) (tgt := 35) dX11_write_59 (by decide) ?_
        refine G_eq rfl rfl (by rw [show ((b + 1 : Nat) : Int) - 1 + -1 = (b : Int) - 1 by omega]; rfl) rfl (ih _ (by omega) hk hk4 (hC'.tx (fun q a c => by simp (disch := omega) only [wr_o]) ⟨?_, fun i hi => ?_⟩) ((hO.set (by omega) (by omega)).set (by omega) (by omega)))
        · rw [wr_s]; congr 1; omega
        · rw [wr_o (by decide)]
          by_cases e : i = n + (k.toNat - (b + 1))
          · subst e; rw [wr_s]; unfold txW; rw [if_pos (by omega)]; congr 1; omega
          · rw [wr_n e]; exact hX'.2 i (by omega)
  refine G_iload_n (pc := 0) dX11_write_0 rfl ?_
  refine G_iconst (pc := 1) dX11_write_1 ?_
  refine G_bipush (pc := 2) dX11_write_2 (by decide) ?_
  refine G_callS1 (pc := 4) (md := mdX11_within) (av := [_, _, _]) dX11_write_4 lkX11_101 mwX11_within (c_within _ _ _ rk (Ri.mk (by omega) (by omega)) (Ri.mk (by omega) (by omega))) rfl rfl (Nat.le_of_ble_eq_true rfl) (by decide) ⟨Nat.zero_le _, Nat.zero_le _⟩ ?_
  refine G_if_ne (pc := 7) (tgt := 12) dX11_write_7 (by first | exact bI_R | exact Ri.mk (by omega) (by omega)) (by decide) (fun h_7 => ?_) (fun h_7 => ?_)
  · try simp only [bI_eq0, bI_ne0] at h_7
    refine G_aload_n (pc := 12) dX11_write_12 rfl ?_
    refine G_getr (pc := 13) dX11_write_13 fiX11_10 (by first | rfl | assumption) (by omega) (by first | rfl | assumption) ?_
    refine G_geti (pc := 16) dX11_write_16 fiX11_105 (by first | rfl | assumption) (by omega) ?_
    refine G_iload_n (pc := 19) dX11_write_19 rfl ?_
    refine G_iadd (pc := 20) dX11_write_20 ?_
    refine G_sipush (pc := 21) dX11_write_21 (by decide) ?_
    refine G_icmp_le (pc := 24) (tgt := 30) dX11_write_24 (by first | exact bI_R | exact Ri.mk (by omega) (by omega)) (Ri.mk (by omega) (by omega)) (by decide) (fun h_24 => ?_) (fun h_24 => ?_)
    · refine G_iload_n (pc := 30) dX11_write_30 rfl ?_
      refine G_iconst (pc := 31) dX11_write_31 ?_
      refine G_isub (pc := 32) dX11_write_32 ?_
      refine G_istore (pc := 33) (lv' := [_, _, _, _, _]) dX11_write_33 (by decide) rfl ?_
      exact G_eq rfl rfl (by rw [Int.toNat_of_nonneg (show 0 ≤ k by omega)]; rfl) rfl (loop k.toNat I (Nat.le_refl _) (by omega) (by omega) (hC.tx (fun _ _ _ => rfl) ⟨by rw [v1]; congr 1; omega, fun i hi => by unfold txW; rw [if_neg (by omega)]; exact hC.1.2 i (by omega)⟩) Off.rfl)
    · refine G_bipush (pc := 27) dX11_write_27 (by decide) ?_
      refine G_iret (pc := 29) dX11_write_29 rfl ?_
      exact ⟨by unfold aWrite; rw [if_pos (by omega), if_neg (by omega)], Off.rfl, Off.rfl, by unfold sWrite; rw [if_neg (fun z => absurd z.2 (by show ¬ (n : Int) + k ≤ 400; omega))]; exact hC⟩
  · try simp only [bI_eq0, bI_ne0] at h_7
    refine G_iconst (pc := 10) dX11_write_10 ?_
    refine G_iret (pc := 11) dX11_write_11 rfl ?_
    exact ⟨by unfold aWrite; rw [if_neg (by omega)], Off.rfl, Off.rfl, by unfold sWrite; rw [if_neg (fun z => absurd z.1 (by omega))]; exact hC⟩
theorem x_lay (hM : 71 ≤ M) (hC : CI I n tx hs C kn K) (hW : WF n tx hs C kn K) : FnQ E mdX11_lay 6 M Rf [vr E 0] I J (CQS I J (aLay tx n) (sLay (n, tx, hs, C, kn, K))) := by
  have hDB : DB (parse tx n).2 := paF_B tx n (n + 1) 0 D0 D0_B
  have rp : -4 ≤ (parse tx n).1 ∧ (parse tx n).1 ≤ 1000 := parse_R tx n hW.1
  refine FnQ.of (by decide +kernel) (Nat.le_of_ble_eq_true rfl) ?_
  show GM E mdX11_lay 6 M Rf _ I J 0 [some (vr E 0)] []
  refine G_aload_n (pc := 0) dX11_lay_0 rfl ?_
  refine G_getr (pc := 1) dX11_lay_1 fiX11_45 (by first | rfl | assumption) (by omega) (by first | rfl | assumption) ?_
  refine G_aload_n (pc := 4) dX11_lay_4 rfl ?_
  refine G_getr (pc := 5) dX11_lay_5 fiX11_10 (by first | rfl | assumption) (by omega) (by first | rfl | assumption) ?_
  refine G_callV (pc := 8) (md := mdX6_read) (av := [_]) dX11_lay_8 lkX11_113 mwX6_read (c_read hM hC.1 hW.1 hW.2.1) rfl (by first | rfl | assumption) (by omega) rfl rfl (Nat.le_of_ble_eq_true rfl) (by decide) ⟨Nat.zero_le _, Nat.zero_le _⟩ ?_
  rintro v I1 J1 ⟨rfl, hO1, rfl, hD⟩
  have hC1 : CI I1 n tx hs C kn K := hC.off fun q h => hO1 q (by omega)
  refine G_bipush (pc := 11) dX11_lay_11 (by decide) ?_
  refine G_icmp_ne (pc := 13) (tgt := 36) dX11_lay_13 (Ri.mk (by omega) (by omega)) (Ri.mk (by omega) (by omega)) (by decide) (fun h_13 => ?_) (fun h_13 => ?_)
  · refine G_bipush (pc := 36) dX11_lay_36 (by decide) ?_
    refine G_iret (pc := 38) dX11_lay_38 rfl ?_
    exact ⟨by unfold aLay; rw [if_neg (by first | (intro z; exact absurd z.1 (by omega)) | (intro z; have := z.2.1; omega) | (intro z; have := z.2.2; omega))], hO1.mono (by omega) (by omega), Off.rfl, by unfold sLay; rw [if_neg (by first | (intro z; exact absurd z.1 h_13) | (intro z; have : 0 < zS (parse tx n).2.1 := z.2.1; omega) | (intro z; have : 0 < zA (parse tx n).2.1 := z.2.2; omega))]; exact hC1⟩
  · refine G_aload_n (pc := 16) dX11_lay_16 rfl ?_
    have hD1 := hD (by omega)
    have hH1 := hD1.1
    have v8 : I1 21 8 = (zS (parse tx n).2.1 : Int) := hH1.2.2 8 (by omega) (by omega)
    have v9 : I1 21 9 = (zA (parse tx n).2.1 : Int) := hH1.2.2 9 (by omega) (by omega)
    have b8 := hDB.1.1
    have b9 := hDB.1.2.1
    have b8 : zS (parse tx n).2.1 ≤ 6 := b8
    have b9 : zA (parse tx n).2.1 ≤ 6 := b9
    refine G_getr (pc := 17) dX11_lay_17 fiX11_30 (by first | rfl | assumption) (by omega) (by first | rfl | assumption) ?_
    refine G_geti (pc := 20) dX11_lay_20 fiX11_117 (by first | rfl | assumption) (by omega) ?_
    refine G_if_eq (pc := 23) (tgt := 36) dX11_lay_23 (Ri.mk (by omega) (by omega)) (by decide) (fun h_23 => ?_) (fun h_23 => ?_)
    · try simp only [bI_eq0, bI_ne0] at h_23
      refine G_bipush (pc := 36) dX11_lay_36 (by decide) ?_
      refine G_iret (pc := 38) dX11_lay_38 rfl ?_
      exact ⟨by unfold aLay; rw [if_neg (by first | (intro z; exact absurd z.1 (by omega)) | (intro z; have := z.2.1; omega) | (intro z; have := z.2.2; omega))], hO1.mono (by omega) (by omega), Off.rfl, by unfold sLay; rw [if_neg (by first | (intro z; exact absurd z.1 h_13) | (intro z; have : 0 < zS (parse tx n).2.1 := z.2.1; omega) | (intro z; have : 0 < zA (parse tx n).2.1 := z.2.2; omega))]; exact hC1⟩
    · try simp only [bI_eq0, bI_ne0] at h_23
      refine G_aload_n (pc := 26) dX11_lay_26 rfl ?_
      refine G_getr (pc := 27) dX11_lay_27 fiX11_30 (by first | rfl | assumption) (by omega) (by first | rfl | assumption) ?_
      refine G_geti (pc := 30) dX11_lay_30 fiX11_120 (by first | rfl | assumption) (by omega) ?_
      refine G_if_ne (pc := 33) (tgt := 39) dX11_lay_33 (Ri.mk (by omega) (by omega)) (by decide) (fun h_33 => ?_) (fun h_33 => ?_)
      · try simp only [bI_eq0, bI_ne0] at h_33
        refine G_aload_n (pc := 39) dX11_lay_39 rfl ?_
        refine G_getr (pc := 40) dX11_lay_40 fiX11_19 (by first | rfl | assumption) (by omega) (by first | rfl | assumption) ?_
        refine G_aload_n (pc := 43) dX11_lay_43 rfl ?_
        refine G_getr (pc := 44) dX11_lay_44 fiX11_30 (by first | rfl | assumption) (by omega) (by first | rfl | assumption) ?_
        refine G_callV (pc := 47) (md := mdX4_copy) (av := [_]) dX11_lay_47 lkX11_123 mwX4_copy (c_Hcopy hM hH1 hDB.1) rfl (by first | rfl | assumption) (by omega) rfl rfl (Nat.le_of_ble_eq_true rfl) (by decide) ⟨Nat.zero_le _, Nat.zero_le _⟩ ?_
        rintro v I2 J2 ⟨rfl, rfl, hH2, hO2⟩
        have hR2 : RI I2 30 (parse tx n).2.2 := hD1.2.off fun q a b => hO2 q (by omega)
        refine G_aload_n (pc := 50) dX11_lay_50 rfl ?_
        refine G_getr (pc := 51) dX11_lay_51 fiX11_26 (by first | rfl | assumption) (by omega) (by first | rfl | assumption) ?_
        refine G_getr (pc := 54) dX11_lay_54 fiX11_126 (by first | rfl | assumption) (by omega) (by first | rfl | assumption) ?_
        refine G_aload_n (pc := 57) dX11_lay_57 rfl ?_
        refine G_getr (pc := 58) dX11_lay_58 fiX11_36 (by first | rfl | assumption) (by omega) (by first | rfl | assumption) ?_
        refine G_callV (pc := 61) (md := mdX7_copy) (av := [_]) dX11_lay_61 lkX11_129 mwX7_copy (c_Rcopy 13 30 (by unfold isRow; omega) (by unfold isRow; omega) (by omega) hM hR2 hDB.2.1) rfl (by first | rfl | assumption) (by omega) rfl rfl (Nat.le_of_ble_eq_true rfl) (by decide) ⟨Nat.zero_le _, Nat.zero_le _⟩ ?_
        rintro v I3 J3 ⟨rfl, rfl, hR3, hO3⟩
        have hH3 : HI I3 3 (parse tx n).2.1 := hH2.off fun q a b => hO3 q (by omega)
        refine G_aload_n (pc := 64) dX11_lay_64 rfl ?_
        refine G_getr (pc := 65) dX11_lay_65 fiX11_26 (by first | rfl | assumption) (by omega) (by first | rfl | assumption) ?_
        refine G_getr (pc := 68) dX11_lay_68 fiX11_132 (by first | rfl | assumption) (by omega) (by first | rfl | assumption) ?_
        refine G_iconst (pc := 71) dX11_lay_71 ?_
        refine G_puti (pc := 72) dX11_lay_72 fiX11_136 (by first | rfl | assumption) (by omega) ?_
        refine G_aload_n (pc := 75) dX11_lay_75 rfl ?_
        refine G_iconst (pc := 76) dX11_lay_76 ?_
        refine G_puti (pc := 77) dX11_lay_77 fiX11_139 (by first | rfl | assumption) (by omega) ?_
        refine G_aload_n (pc := 80) dX11_lay_80 rfl ?_
        refine G_getr (pc := 81) dX11_lay_81 fiX11_67 (by first | rfl | assumption) (by omega) (by first | rfl | assumption) ?_
        refine G_callV0 (pc := 84) (md := mdX0_renew) (av := []) dX11_lay_84 lkX11_142 mwX0_renew (c_renew hM) rfl (by first | rfl | assumption) (by omega) rfl rfl (Nat.le_of_ble_eq_true rfl) (by decide) ⟨Nat.zero_le _, Nat.zero_le _⟩ ?_
        refine G_aload_n (pc := 87) dX11_lay_87 rfl ?_
        refine G_getr (pc := 88) dX11_lay_88 fiX11_19 (by first | rfl | assumption) (by omega) (by first | rfl | assumption) ?_
        refine G_geti (pc := 91) dX11_lay_91 fiX11_145 (by first | rfl | assumption) (by omega) ?_
        refine G_iret (pc := 94) dX11_lay_94 rfl ?_
        refine ⟨?_, ?_, Off.rfl, ?_⟩
        · unfold aLay; rw [if_pos ⟨by omega, by omega, by omega⟩]
          simp (disch := omega) only [wr_o]
          rw [show I3 3 10 = (zN (parse tx n).2.1 : Int) from hH3.2.2 10 (by omega) (by omega)]
        · exact (((((hO1.mono (by omega) (by omega)).trans (hO2.mono (by omega) (by omega))).trans (hO3.mono (by omega) (by omega))).set (by omega) (by omega)).set (by omega) (by omega)).set (by omega) (by omega)
        · have ok : okL tx n := ⟨by omega, by omega, by omega⟩
          unfold sLay; rw [if_pos ok]
          refine ⟨hC1.1.off ?_ ?_, hH3.off fun q a b => ?_, hR3.off fun q a b => ?_, ⟨?_, fun t ht => absurd ht (Nat.not_lt_zero t)⟩, ?_, fun z => absurd z (by show ¬ 1 ≤ 0; decide), fun z => absurd z (by show ¬ 2 ≤ 0; decide), Or.inl wr_s⟩
          · simp (disch := omega) only [wr_o]; exact (hO3 _ (by omega)).trans (hO2 _ (by omega))
          · simp (disch := omega) only [wr_o]; exact (hO3 _ (by omega)).trans (hO2 _ (by omega))
          · simp (disch := omega) only [wr_o]
          · simp (disch := omega) only [wr_o]
          · simp (disch := omega) only [wr_o, wr_s]; rfl
          · simp (disch := omega) only [wr_o, wr_s]; rfl
      · try simp only [bI_eq0, bI_ne0] at h_33
        refine G_bipush (pc := 36) dX11_lay_36 (by decide) ?_
        refine G_iret (pc := 38) dX11_lay_38 rfl ?_
        exact ⟨by unfold aLay; rw [if_neg (by first | (intro z; exact absurd z.1 (by omega)) | (intro z; have := z.2.1; omega) | (intro z; have := z.2.2; omega))], hO1.mono (by omega) (by omega), Off.rfl, by unfold sLay; rw [if_neg (by first | (intro z; exact absurd z.1 h_13) | (intro z; have : 0 < zS (parse tx n).2.1 := z.2.1; omega) | (intro z; have : 0 < zA (parse tx n).2.1 := z.2.2; omega))]; exact hC1⟩
theorem x_step (a k : Int) (hM : 71 ≤ M) (hC : CI I n tx hs C kn K) (hW : WF n tx hs C kn K) (ra : Ri a) (rk : Ri k) : FnQ E mdX11_step 8 M Rf [vr E 0, vi a, vi k] I J (CQS I J (aStep hs C a k) (sStep (n, tx, hs, C, kn, K) a k)) := by
  obtain ⟨h1, hH, h3, h4, h5, h6, h7, h8⟩ := id hC
  obtain ⟨-, -, hB, -, -, hRB, hTB, -⟩ := id hW
  have c8 := hRB.1
  refine FnQ.of (by decide +kernel) (Nat.le_of_ble_eq_true rfl) ?_
  show GM E mdX11_step 8 M Rf _ I J 0 [some (vr E 0), some (vi a), some (vi k)] []
  refine G_aload_n (pc := 0) dX11_step_0 rfl ?_
  refine G_getr (pc := 1) dX11_step_1 fiX11_19 (by first | rfl | assumption) (by omega) (by first | rfl | assumption) ?_
  refine G_iload_n (pc := 4) dX11_step_4 rfl ?_
  refine G_callV1 (pc := 5) (md := mdX4_hasAsk) (av := [_]) dX11_step_5 lkX11_152 mwX4_hasAsk (c_hasAsk 3 a (Or.inl rfl) hM hH hB ra) rfl (by first | rfl | assumption) (by omega) rfl rfl (Nat.le_of_ble_eq_true rfl) (by decide) ⟨Nat.zero_le _, Nat.zero_le _⟩ ?_
  refine G_if_eq (pc := 8) (tgt := 20) dX11_step_8 (by first | exact bI_R | exact Ri.mk (by omega) (by omega)) (by decide) (fun h_8 => ?_) (fun h_8 => ?_)
  · try simp only [bI_eq0, bI_ne0] at h_8
    refine G_iconst (pc := 20) dX11_step_20 ?_
    refine G_iret (pc := 21) dX11_step_21 rfl ?_
    exact ⟨by unfold aStep isA; rw [if_neg (by omega)], Off.rfl, Off.rfl, by unfold sStep isA; rw [if_neg (fun z => by have z1 := z.1.1; have z2 := z.1.2; have z1 : 0 ≤ a ∧ a < (zA hs : Int) := z1; omega)]; exact hC⟩
  · try simp only [bI_eq0, bI_ne0] at h_8
    refine G_iload_n (pc := 11) dX11_step_11 rfl ?_
    refine G_iconst (pc := 12) dX11_step_12 ?_
    refine G_iconst (pc := 13) dX11_step_13 ?_
    refine G_callS1 (pc := 14) (md := mdX11_within) (av := [_, _, _]) dX11_step_14 lkX11_101 mwX11_within (c_within _ _ _ rk (Ri.mk (by omega) (by omega)) (Ri.mk (by omega) (by omega))) rfl rfl (Nat.le_of_ble_eq_true rfl) (by decide) ⟨Nat.zero_le _, Nat.zero_le _⟩ ?_
    refine G_if_ne (pc := 17) (tgt := 22) dX11_step_17 (by first | exact bI_R | exact Ri.mk (by omega) (by omega)) (by decide) (fun h_17 => ?_) (fun h_17 => ?_)
    · try simp only [bI_eq0, bI_ne0] at h_17
      refine G_aload_n (pc := 22) dX11_step_22 rfl ?_
      refine G_getr (pc := 23) dX11_step_23 fiX11_26 (by first | rfl | assumption) (by omega) (by first | rfl | assumption) ?_
      refine G_getr (pc := 26) dX11_step_26 fiX11_126 (by first | rfl | assumption) (by omega) (by first | rfl | assumption) ?_
      refine G_iload_n (pc := 29) dX11_step_29 rfl ?_
      refine G_iload_n (pc := 30) dX11_step_30 rfl ?_
      refine G_callV (pc := 31) (md := mdX7_add) (av := [_, _]) dX11_step_31 lkX11_165 mwX7_add (FnQ.av (by rw [Int.toNat_of_nonneg (show 0 ≤ a by omega), Int.toNat_of_nonneg (show 0 ≤ k by omega)]) (c_Radd (C := C) 13 a.toNat k.toNat (by unfold isRow; omega) hM h3 c8)) rfl (by first | rfl | assumption) (by omega) rfl rfl (Nat.le_of_ble_eq_true rfl) (by decide) ⟨Nat.zero_le _, Nat.zero_le _⟩ ?_
      rintro v I1 J1 ⟨rfl, hor⟩
      have hv : v = some (vi (bI (C 0 0 < 8))) := by
        rcases hor with ⟨h, e, -⟩ | ⟨h, e, -⟩
        · rw [e, bI_t h]
        · rw [e, bI_f (by omega)]
      subst hv
      refine G_if_eq (pc := 34) (tgt := 50) dX11_step_34 (by first | exact bI_R | exact Ri.mk (by omega) (by omega)) (by decide) (fun h_34 => ?_) (fun h_34 => ?_)
      · try simp only [bI_eq0, bI_ne0] at h_34
        refine G_bipush (pc := 50) dX11_step_50 (by decide) ?_
        refine G_iret (pc := 52) dX11_step_52 rfl ?_
        first
          | (rcases hor with ⟨h, -⟩ | ⟨h, -, rfl⟩
             · exact absurd h h_34
             · exact ⟨by unfold aStep isA; rw [if_pos (by omega), if_neg (by omega)], Off.rfl, Off.rfl, by unfold sStep; rw [if_neg (fun z => by have z2 : C 0 0 < 8 := z.2; omega)]; exact hC⟩)
          | (rcases hor with ⟨h, -, hR1, hO1⟩ | ⟨h, -, -⟩
             · refine ⟨?_, hO1.mono (by omega) (by omega), Off.rfl, ?_⟩
               · unfold aStep isA; rw [if_pos (by omega), if_pos h, hR1.1]; rfl
               · unfold sStep; rw [if_pos ⟨⟨by unfold isA; show 0 ≤ a ∧ a < (zA hs : Int); omega, by omega⟩, h⟩]
                 exact hC.co (fun q hq => hO1 q (by omega)) hR1 (h4.off fun q a b => hO1 q (by omega))
             · exact absurd h_34 (by omega))
      · try simp only [bI_eq0, bI_ne0] at h_34
        refine G_aload_n (pc := 37) dX11_step_37 rfl ?_
        refine G_getr (pc := 38) dX11_step_38 fiX11_26 (by first | rfl | assumption) (by omega) (by first | rfl | assumption) ?_
        refine G_getr (pc := 41) dX11_step_41 fiX11_126 (by first | rfl | assumption) (by omega) (by first | rfl | assumption) ?_
        refine G_geti (pc := 44) dX11_step_44 fiX11_168 (by first | rfl | assumption) (by omega) ?_
        refine G_goto (pc := 47) (tgt := 52) dX11_step_47 (by decide) ?_
        refine G_iret (pc := 52) dX11_step_52 rfl ?_
        first
          | (rcases hor with ⟨h, -⟩ | ⟨h, -, rfl⟩
             · exact absurd h h_34
             · exact ⟨by unfold aStep isA; rw [if_pos (by omega), if_neg (by omega)], Off.rfl, Off.rfl, by unfold sStep; rw [if_neg (fun z => by have z2 : C 0 0 < 8 := z.2; omega)]; exact hC⟩)
          | (rcases hor with ⟨h, -, hR1, hO1⟩ | ⟨h, -, -⟩
             · refine ⟨?_, hO1.mono (by omega) (by omega), Off.rfl, ?_⟩
               · unfold aStep isA; rw [if_pos (by omega), if_pos h, hR1.1]; rfl
               · unfold sStep; rw [if_pos ⟨⟨by unfold isA; show 0 ≤ a ∧ a < (zA hs : Int); omega, by omega⟩, h⟩]
                 exact hC.co (fun q hq => hO1 q (by omega)) hR1 (h4.off fun q a b => hO1 q (by omega))
             · exact absurd h_34 (by omega))
    · try simp only [bI_eq0, bI_ne0] at h_17
      refine G_iconst (pc := 20) dX11_step_20 ?_
      refine G_iret (pc := 21) dX11_step_21 rfl ?_
      exact ⟨by unfold aStep isA; rw [if_neg (by omega)], Off.rfl, Off.rfl, by unfold sStep isA; rw [if_neg (fun z => by have z1 := z.1.1; have z2 := z.1.2; have z1 : 0 ≤ a ∧ a < (zA hs : Int) := z1; omega)]; exact hC⟩
theorem x_noRow (hM : 71 ≤ M) (hC : CI I n tx hs C kn K) (hW : WF n tx hs C kn K) : FnQ E mdX11_noRow 8 M Rf [vr E 0] I J (CQS I J (C 0 0) (sNoRow (n, tx, hs, C, kn, K))) := by
  have v1 := hC.2.2.1.1
  refine FnQ.of (by decide +kernel) (Nat.le_of_ble_eq_true rfl) ?_
  show GM E mdX11_noRow 8 M Rf _ I J 0 [some (vr E 0), none] []
  refine G_aload_n (pc := 0) dX11_noRow_0 rfl ?_
  refine G_getr (pc := 1) dX11_noRow_1 fiX11_26 (by first | rfl | assumption) (by omega) (by first | rfl | assumption) ?_
  refine G_getr (pc := 4) dX11_noRow_4 fiX11_126 (by first | rfl | assumption) (by omega) (by first | rfl | assumption) ?_
  refine G_geti (pc := 7) dX11_noRow_7 fiX11_168 (by first | rfl | assumption) (by omega) ?_
  refine G_istore_n (pc := 10) (lv' := [_, _]) dX11_noRow_10 (by decide) rfl ?_
  refine G_aload_n (pc := 11) dX11_noRow_11 rfl ?_
  refine G_getr (pc := 12) dX11_noRow_12 fiX11_26 (by first | rfl | assumption) (by omega) (by first | rfl | assumption) ?_
  refine G_getr (pc := 15) dX11_noRow_15 fiX11_126 (by first | rfl | assumption) (by omega) (by first | rfl | assumption) ?_
  refine G_iconst (pc := 18) dX11_noRow_18 ?_
  refine G_puti (pc := 19) dX11_noRow_19 fiX11_168 (by first | rfl | assumption) (by omega) ?_
  refine G_iload_n (pc := 22) dX11_noRow_22 rfl ?_
  refine G_iret (pc := 23) dX11_noRow_23 rfl ?_
  exact ⟨by rw [v1], Off.rfl.set (by omega) (by omega), Off.rfl, hC.co (C' := noR C) (fun q hq => wr_o (by omega)) ⟨wr_s, fun t ht => absurd ht (Nat.not_lt_zero t)⟩ (hC.2.2.2.1.off fun q a b => wr_o (by omega))⟩
theorem x_forget (hM : 71 ≤ M) (hC : CI I n tx hs C kn K) (hW : WF n tx hs C kn K) : FnQ E mdX11_forget 8 M Rf [vr E 0] I J (CQS I J (C 3 0) (sForget (n, tx, hs, C, kn, K))) := by
  have v1 := hC.2.2.2.1.1
  refine FnQ.of (by decide +kernel) (Nat.le_of_ble_eq_true rfl) ?_
  show GM E mdX11_forget 8 M Rf _ I J 0 [some (vr E 0), none] []
  refine G_aload_n (pc := 0) dX11_forget_0 rfl ?_
  refine G_getr (pc := 1) dX11_forget_1 fiX11_26 (by first | rfl | assumption) (by omega) (by first | rfl | assumption) ?_
  refine G_getr (pc := 4) dX11_forget_4 fiX11_132 (by first | rfl | assumption) (by omega) (by first | rfl | assumption) ?_
  refine G_geti (pc := 7) dX11_forget_7 fiX11_136 (by first | rfl | assumption) (by omega) ?_
  refine G_istore_n (pc := 10) (lv' := [_, _]) dX11_forget_10 (by decide) rfl ?_
  refine G_aload_n (pc := 11) dX11_forget_11 rfl ?_
  refine G_getr (pc := 12) dX11_forget_12 fiX11_26 (by first | rfl | assumption) (by omega) (by first | rfl | assumption) ?_
  refine G_getr (pc := 15) dX11_forget_15 fiX11_132 (by first | rfl | assumption) (by omega) (by first | rfl | assumption) ?_
  refine G_iconst (pc := 18) dX11_forget_18 ?_
  refine G_puti (pc := 19) dX11_forget_19 fiX11_136 (by first | rfl | assumption) (by omega) ?_
  refine G_iload_n (pc := 22) dX11_forget_22 rfl ?_
  refine G_iret (pc := 23) dX11_forget_23 rfl ?_
  exact ⟨by rw [v1], Off.rfl.set (by omega) (by omega), Off.rfl, hC.co (C' := noT C) (fun q hq => wr_o (by omega)) (hC.2.2.1.off fun q a b => wr_o (by omega)) ⟨wr_s, fun t ht => absurd ht (Nat.not_lt_zero t)⟩⟩
theorem x_tell (s a m d : Int) (hM : 71 ≤ M) (hC : CI I n tx hs C kn K) (hW : WF n tx hs C kn K) (rs : Ri s) (ra : Ri a) (rm : Ri m) (rd : Ri d) : FnQ E mdX11_tell 8 M Rf [vr E 0, vi s, vi a, vi m, vi d] I J (CQS I J (aTell hs C s a m d) (sTell (n, tx, hs, C, kn, K) s a m d)) := by
  obtain ⟨h1, hH, h3, h4, h5, h6, h7, h8⟩ := id hC
  obtain ⟨-, -, hB, -, -, hRB, hTB, -⟩ := id hW
  have c3 := hTB.1
  refine FnQ.of (by decide +kernel) (Nat.le_of_ble_eq_true rfl) ?_
  show GM E mdX11_tell 8 M Rf _ I J 0 [some (vr E 0), some (vi s), some (vi a), some (vi m), some (vi d)] []
  refine G_aload_n (pc := 0) dX11_tell_0 rfl ?_
  refine G_getr (pc := 1) dX11_tell_1 fiX11_19 (by first | rfl | assumption) (by omega) (by first | rfl | assumption) ?_
  refine G_iload_n (pc := 4) dX11_tell_4 rfl ?_
  refine G_callV1 (pc := 5) (md := mdX4_hasSort) (av := [_]) dX11_tell_5 lkX11_148 mwX4_hasSort (c_hasSort 3 s (Or.inl rfl) hM hH hB rs) rfl (by first | rfl | assumption) (by omega) rfl rfl (Nat.le_of_ble_eq_true rfl) (by decide) ⟨Nat.zero_le _, Nat.zero_le _⟩ ?_
  refine G_if_eq (pc := 8) (tgt := 41) dX11_tell_8 (by first | exact bI_R | exact Ri.mk (by omega) (by omega)) (by decide) (fun h_8 => ?_) (fun h_8 => ?_)
  · try simp only [bI_eq0, bI_ne0] at h_8
    refine G_iconst (pc := 41) dX11_tell_41 ?_
    refine G_iret (pc := 42) dX11_tell_42 rfl ?_
    exact ⟨by unfold aTell isS isA; rw [if_neg (by omega)], Off.rfl, Off.rfl, by unfold sTell isS isA; rw [if_neg (fun z => by have z0 : 0 ≤ s ∧ s < (zS hs : Int) := z.1.1; have z1 : 0 ≤ a ∧ a < (zA hs : Int) := z.1.2.1; have z2 := z.1.2.2; omega)]; exact hC⟩
  · try simp only [bI_eq0, bI_ne0] at h_8
    refine G_aload_n (pc := 11) dX11_tell_11 rfl ?_
    refine G_getr (pc := 12) dX11_tell_12 fiX11_19 (by first | rfl | assumption) (by omega) (by first | rfl | assumption) ?_
    refine G_iload_n (pc := 15) dX11_tell_15 rfl ?_
    refine G_callV1 (pc := 16) (md := mdX4_hasAsk) (av := [_]) dX11_tell_16 lkX11_152 mwX4_hasAsk (c_hasAsk 3 a (Or.inl rfl) hM hH hB ra) rfl (by first | rfl | assumption) (by omega) rfl rfl (Nat.le_of_ble_eq_true rfl) (by decide) ⟨Nat.zero_le _, Nat.zero_le _⟩ ?_
    refine G_if_eq (pc := 19) (tgt := 41) dX11_tell_19 (by first | exact bI_R | exact Ri.mk (by omega) (by omega)) (by decide) (fun h_19 => ?_) (fun h_19 => ?_)
    · try simp only [bI_eq0, bI_ne0] at h_19
      refine G_iconst (pc := 41) dX11_tell_41 ?_
      refine G_iret (pc := 42) dX11_tell_42 rfl ?_
      exact ⟨by unfold aTell isS isA; rw [if_neg (by omega)], Off.rfl, Off.rfl, by unfold sTell isS isA; rw [if_neg (fun z => by have z0 : 0 ≤ s ∧ s < (zS hs : Int) := z.1.1; have z1 : 0 ≤ a ∧ a < (zA hs : Int) := z.1.2.1; have z2 := z.1.2.2; omega)]; exact hC⟩
    · try simp only [bI_eq0, bI_ne0] at h_19
      refine G_iload_n (pc := 22) dX11_tell_22 rfl ?_
      refine G_iconst (pc := 23) dX11_tell_23 ?_
      refine G_iconst (pc := 24) dX11_tell_24 ?_
      refine G_callS1 (pc := 25) (md := mdX11_within) (av := [_, _, _]) dX11_tell_25 lkX11_101 mwX11_within (c_within _ _ _ rm (Ri.mk (by omega) (by omega)) (Ri.mk (by omega) (by omega))) rfl rfl (Nat.le_of_ble_eq_true rfl) (by decide) ⟨Nat.zero_le _, Nat.zero_le _⟩ ?_
      refine G_if_eq (pc := 28) (tgt := 41) dX11_tell_28 (by first | exact bI_R | exact Ri.mk (by omega) (by omega)) (by decide) (fun h_28 => ?_) (fun h_28 => ?_)
      · try simp only [bI_eq0, bI_ne0] at h_28
        refine G_iconst (pc := 41) dX11_tell_41 ?_
        refine G_iret (pc := 42) dX11_tell_42 rfl ?_
        exact ⟨by unfold aTell isS isA; rw [if_neg (by omega)], Off.rfl, Off.rfl, by unfold sTell isS isA; rw [if_neg (fun z => by have z0 : 0 ≤ s ∧ s < (zS hs : Int) := z.1.1; have z1 : 0 ≤ a ∧ a < (zA hs : Int) := z.1.2.1; have z2 := z.1.2.2; omega)]; exact hC⟩
      · try simp only [bI_eq0, bI_ne0] at h_28
        refine G_iload (pc := 31) dX11_tell_31 rfl ?_
        refine G_iconst (pc := 33) dX11_tell_33 ?_
        refine G_iload_n (pc := 34) dX11_tell_34 rfl ?_
        refine G_callS1 (pc := 35) (md := mdX11_within) (av := [_, _, _]) dX11_tell_35 lkX11_101 mwX11_within (c_within _ _ _ rd (Ri.mk (by omega) (by omega)) rm) rfl rfl (Nat.le_of_ble_eq_true rfl) (by decide) ⟨Nat.zero_le _, Nat.zero_le _⟩ ?_
        refine G_if_ne (pc := 38) (tgt := 43) dX11_tell_38 (by first | exact bI_R | exact Ri.mk (by omega) (by omega)) (by decide) (fun h_38 => ?_) (fun h_38 => ?_)
        · try simp only [bI_eq0, bI_ne0] at h_38
          refine G_aload_n (pc := 43) dX11_tell_43 rfl ?_
          refine G_getr (pc := 44) dX11_tell_44 fiX11_26 (by first | rfl | assumption) (by omega) (by first | rfl | assumption) ?_
          refine G_getr (pc := 47) dX11_tell_47 fiX11_132 (by first | rfl | assumption) (by omega) (by first | rfl | assumption) ?_
          refine G_iload_n (pc := 50) dX11_tell_50 rfl ?_
          refine G_iload_n (pc := 51) dX11_tell_51 rfl ?_
          refine G_iload_n (pc := 52) dX11_tell_52 rfl ?_
          refine G_iload (pc := 53) dX11_tell_53 rfl ?_
          refine G_callV (pc := 55) (md := mdX10_add) (av := [_, _, _, _]) dX11_tell_55 lkX11_232 mwX10_add (FnQ.av (by rw [Int.toNat_of_nonneg (show 0 ≤ s by omega), Int.toNat_of_nonneg (show 0 ≤ a by omega), Int.toNat_of_nonneg (show 0 ≤ m by omega), Int.toNat_of_nonneg (show 0 ≤ d by omega)]) (c_Tadd (C := C) 16 s.toNat a.toNat m.toNat d.toNat (by unfold isTold; omega) hM h4 c3)) rfl (by first | rfl | assumption) (by omega) rfl rfl (Nat.le_of_ble_eq_true rfl) (by decide) ⟨Nat.zero_le _, Nat.zero_le _⟩ ?_
          rintro v I1 J1 ⟨rfl, hor⟩
          have hv : v = some (vi (bI (C 3 0 < 3))) := by
            rcases hor with ⟨h, e, -⟩ | ⟨h, e, -⟩
            · rw [e, bI_t h]
            · rw [e, bI_f (by omega)]
          subst hv
          refine G_if_eq (pc := 58) (tgt := 74) dX11_tell_58 (by first | exact bI_R | exact Ri.mk (by omega) (by omega)) (by decide) (fun h_58 => ?_) (fun h_58 => ?_)
          · try simp only [bI_eq0, bI_ne0] at h_58
            refine G_bipush (pc := 74) dX11_tell_74 (by decide) ?_
            refine G_iret (pc := 76) dX11_tell_76 rfl ?_
            first
              | (rcases hor with ⟨h, -⟩ | ⟨h, -, rfl⟩
                 · exact absurd h h_58
                 · exact ⟨by unfold aTell isS isA; rw [if_pos (by omega), if_neg (by omega)], Off.rfl, Off.rfl, by unfold sTell; rw [if_neg (fun z => by have z2 : C 3 0 < 3 := z.2; omega)]; exact hC⟩)
              | (rcases hor with ⟨h, -, hR1, hO1⟩ | ⟨h, -, -⟩
                 · refine ⟨?_, hO1.mono (by omega) (by omega), Off.rfl, ?_⟩
                   · unfold aTell isS isA; rw [if_pos (by omega), if_pos h, hR1.1]; rfl
                   · unfold sTell; rw [if_pos ⟨⟨by unfold isS; show 0 ≤ s ∧ s < (zS hs : Int); omega, by unfold isA; show 0 ≤ a ∧ a < (zA hs : Int); omega, by omega⟩, h⟩]
                     exact hC.co (fun q hq => hO1 q (by omega)) (h3.off fun q a b => hO1 q (by omega)) hR1
                 · exact absurd h_58 (by omega))
          · try simp only [bI_eq0, bI_ne0] at h_58
            refine G_aload_n (pc := 61) dX11_tell_61 rfl ?_
            refine G_getr (pc := 62) dX11_tell_62 fiX11_26 (by first | rfl | assumption) (by omega) (by first | rfl | assumption) ?_
            refine G_getr (pc := 65) dX11_tell_65 fiX11_132 (by first | rfl | assumption) (by omega) (by first | rfl | assumption) ?_
            refine G_geti (pc := 68) dX11_tell_68 fiX11_136 (by first | rfl | assumption) (by omega) ?_
            refine G_goto (pc := 71) (tgt := 76) dX11_tell_71 (by decide) ?_
            refine G_iret (pc := 76) dX11_tell_76 rfl ?_
            first
              | (rcases hor with ⟨h, -⟩ | ⟨h, -, rfl⟩
                 · exact absurd h h_58
                 · exact ⟨by unfold aTell isS isA; rw [if_pos (by omega), if_neg (by omega)], Off.rfl, Off.rfl, by unfold sTell; rw [if_neg (fun z => by have z2 : C 3 0 < 3 := z.2; omega)]; exact hC⟩)
              | (rcases hor with ⟨h, -, hR1, hO1⟩ | ⟨h, -, -⟩
                 · refine ⟨?_, hO1.mono (by omega) (by omega), Off.rfl, ?_⟩
                   · unfold aTell isS isA; rw [if_pos (by omega), if_pos h, hR1.1]; rfl
                   · unfold sTell; rw [if_pos ⟨⟨by unfold isS; show 0 ≤ s ∧ s < (zS hs : Int); omega, by unfold isA; show 0 ≤ a ∧ a < (zA hs : Int); omega, by omega⟩, h⟩]
                     exact hC.co (fun q hq => hO1 q (by omega)) (h3.off fun q a b => hO1 q (by omega)) hR1
                 · exact absurd h_58 (by omega))
        · try simp only [bI_eq0, bI_ne0] at h_38
          refine G_iconst (pc := 41) dX11_tell_41 ?_
          refine G_iret (pc := 42) dX11_tell_42 rfl ?_
          exact ⟨by unfold aTell isS isA; rw [if_neg (by omega)], Off.rfl, Off.rfl, by unfold sTell isS isA; rw [if_neg (fun z => by have z0 : 0 ≤ s ∧ s < (zS hs : Int) := z.1.1; have z1 : 0 ≤ a ∧ a < (zA hs : Int) := z.1.2.1; have z2 := z.1.2.2; omega)]; exact hC⟩
end COMP4
