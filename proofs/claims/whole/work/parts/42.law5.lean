/-! THE LAW: its loop, its entry -/
theorem law_loop {E : EV} {b L : Nat} {xs : Nat → Int32} (hL : L ≤ 2560) : ∀ (r i : Nat) (I J : Nat → Nat → Int) (S : ST), L ≤ i + r → i ≤ 3000 → CIS I S → MIS I S → WFS S → GL E b L xs 87 I J Rf 87 1929 18 [some (.ref b), some (vr E 0), some (vr E 71), some (vi (i : Int))] [] := by
  intro r
  induction r with
  | zero =>
    intro i I J S hr hi hC hMm hW
    refine G_iload_n (pc := 18) dL_law_18 rfl ?_
    refine G_aload_n (pc := 19) dL_law_19 rfl ?_
    refine GL_slen (pc := 20) dL_law_20 hL ?_
    refine G_iconst (pc := 21) dL_law_21 ?_
    refine G_isub (pc := 22) dL_law_22 ?_
    refine G_icmp_gt (pc := 23) (tgt := 962) dL_law_23 (Ri.mk (by omega) (by omega)) (Ri.mk (by omega) (by omega)) (by decide) (fun h_23 => ?_) (fun h_23 => ?_)
    · refine G_iconst (pc := 962) dL_law_962 ?_
      exact GL_ret1 dL_law_963
    · exact absurd h_23 (by omega)
  | succ r ih =>
    intro i I J S hr hi hC hMm hW
    by_cases h5 : i + 5 ≤ L
    · have fin : ∀ (S' : ST) (I' J' : Nat → Nat → Int), CIS I' S' → MIS I' S' → WFS S' → GL E b L xs 87 I' J' Rf 87 1929 956 [some (.ref b), some (vr E 0), some (vr E 71), some (vi (i : Int))] [] := by
        intro S' I' J' hC' hM' hW'
        refine G_iinc (pc := 956) (lv' := [_, _, _, _]) dL_law_956 (by decide) rfl rfl ?_
        refine G_goto (pc := 959) (tgt := 18) dL_law_959 (by decide) ?_
        exact ih (i + 5) I' J' S' (by omega) (by omega) hC' hM' hW'
      have sw : ∀ (w : Int), Ri w → GL E b L xs 87 I J Rf 87 1929 32 [some (.ref b), some (vr E 0), some (vr E 71), some (vi (i : Int))] [vi w] := by
        intro w hw
        rcases (show w = 0 ∨ w = 1 ∨ w = 2 ∨ w = 3 ∨ w = 4 ∨ w = 5 ∨ w = 6 ∨ w = 7 ∨ w = 8 ∨ w = 9 ∨ w = 10 ∨ w = 11 ∨ w = 12 ∨ w = 13 ∨ w = 14 ∨ w = 15 ∨ w = 16 ∨ w = 17 ∨ w = 18 ∨ w = 19 ∨ w = 20 ∨ w = 21 ∨ w = 22 ∨ w = 23 ∨ w = 24 ∨ w = 25 ∨ w = 26 ∨ w = 27 ∨ (w < 0 ∨ 27 < w) by omega) with rfl | rfl | rfl | rfl | rfl | rfl | rfl | rfl | rfl | rfl | rfl | rfl | rfl | rfl | rfl | rfl | rfl | rfl | rfl | rfl | rfl | rfl | rfl | rfl | rfl | rfl | rfl | rfl | hx
        · refine G_tableIn (pc := 32) (off := 128) (tgt := 160) dL_law_32 hw (by omega) (by omega) rfl (by decide) ?_
          exact lc_write hL i h5 hC hMm hW fin
        · refine G_tableIn (pc := 32) (off := 191) (tgt := 223) dL_law_32 hw (by omega) (by omega) rfl (by decide) ?_
          exact lc_wipe hL i h5 hC hMm hW fin
        · refine G_tableIn (pc := 32) (off := 204) (tgt := 236) dL_law_32 hw (by omega) (by omega) rfl (by decide) ?_
          exact lc_fault hL i h5 hC hMm hW fin
        · refine G_tableIn (pc := 32) (off := 217) (tgt := 249) dL_law_32 hw (by omega) (by omega) rfl (by decide) ?_
          exact lc_lay hL i h5 hC hMm hW fin
        · refine G_tableIn (pc := 32) (off := 230) (tgt := 262) dL_law_32 hw (by omega) (by omega) rfl (by decide) ?_
          exact lc_does hL i h5 hC hMm hW fin
        · refine G_tableIn (pc := 32) (off := 283) (tgt := 315) dL_law_32 hw (by omega) (by omega) rfl (by decide) ?_
          exact lc_step hL i h5 hC hMm hW fin
        · refine G_tableIn (pc := 32) (off := 316) (tgt := 348) dL_law_32 hw (by omega) (by omega) rfl (by decide) ?_
          exact lc_noRow hL i h5 hC hMm hW fin
        · refine G_tableIn (pc := 32) (off := 329) (tgt := 361) dL_law_32 hw (by omega) (by omega) rfl (by decide) ?_
          exact lc_left hL i h5 hC hMm hW fin
        · refine G_tableIn (pc := 32) (off := 352) (tgt := 384) dL_law_32 hw (by omega) (by omega) rfl (by decide) ?_
          exact lc_share hL i h5 hC hMm hW fin
        · refine G_tableIn (pc := 32) (off := 375) (tgt := 407) dL_law_32 hw (by omega) (by omega) rfl (by decide) ?_
          exact lc_bent hL i h5 hC hMm hW fin
        · refine G_tableIn (pc := 32) (off := 398) (tgt := 430) dL_law_32 hw (by omega) (by omega) rfl (by decide) ?_
          exact lc_odds hL i h5 hC hMm hW fin
        · refine G_tableIn (pc := 32) (off := 421) (tgt := 453) dL_law_32 hw (by omega) (by omega) rfl (by decide) ?_
          exact lc_best hL i h5 hC hMm hW fin
        · refine G_tableIn (pc := 32) (off := 474) (tgt := 506) dL_law_32 hw (by omega) (by omega) rfl (by decide) ?_
          exact lc_felt hL i h5 hC hMm hW fin
        · refine G_tableIn (pc := 32) (off := 517) (tgt := 549) dL_law_32 hw (by omega) (by omega) rfl (by decide) ?_
          exact lc_words hL i h5 hC hMm hW fin
        · refine G_tableIn (pc := 32) (off := 540) (tgt := 572) dL_law_32 hw (by omega) (by omega) rfl (by decide) ?_
          exact lc_harm hL i h5 hC hMm hW fin
        · refine G_tableIn (pc := 32) (off := 573) (tgt := 605) dL_law_32 hw (by omega) (by omega) rfl (by decide) ?_
          exact lc_people hL i h5 hC hMm hW fin
        · refine G_tableIn (pc := 32) (off := 597) (tgt := 629) dL_law_32 hw (by omega) (by omega) rfl (by decide) ?_
          exact lc_tells hL i h5 hC hMm hW fin
        · refine G_tableIn (pc := 32) (off := 610) (tgt := 642) dL_law_32 hw (by omega) (by omega) rfl (by decide) ?_
          exact lc_relief hL i h5 hC hMm hW fin
        · refine G_tableIn (pc := 32) (off := 653) (tgt := 685) dL_law_32 hw (by omega) (by omega) rfl (by decide) ?_
          exact lc_worth hL i h5 hC hMm hW fin
        · refine G_tableIn (pc := 32) (off := 686) (tgt := 718) dL_law_32 hw (by omega) (by omega) rfl (by decide) ?_
          exact lc_tell hL i h5 hC hMm hW fin
        · refine G_tableIn (pc := 32) (off := 739) (tgt := 771) dL_law_32 hw (by omega) (by omega) rfl (by decide) ?_
          exact lc_forget hL i h5 hC hMm hW fin
        · refine G_tableIn (pc := 32) (off := 752) (tgt := 784) dL_law_32 hw (by omega) (by omega) rfl (by decide) ?_
          exact lc_man hL i h5 hC hMm hW fin
        · refine G_tableIn (pc := 32) (off := 776) (tgt := 808) dL_law_32 hw (by omega) (by omega) rfl (by decide) ?_
          exact lc_night hL i h5 hC hMm hW fin
        · refine G_tableIn (pc := 32) (off := 809) (tgt := 841) dL_law_32 hw (by omega) (by omega) rfl (by decide) ?_
          exact lc_one hL i h5 hC hMm hW fin
        · refine G_tableIn (pc := 32) (off := 842) (tgt := 874) dL_law_32 hw (by omega) (by omega) rfl (by decide) ?_
          exact lc_nights hL i h5 hC hMm hW fin
        · refine G_tableIn (pc := 32) (off := 875) (tgt := 907) dL_law_32 hw (by omega) (by omega) rfl (by decide) ?_
          exact lc_keep hL i h5 hC hMm hW fin
        · refine G_tableIn (pc := 32) (off := 888) (tgt := 920) dL_law_32 hw (by omega) (by omega) rfl (by decide) ?_
          exact lc_back hL i h5 hC hMm hW fin
        · refine G_tableIn (pc := 32) (off := 901) (tgt := 933) dL_law_32 hw (by omega) (by omega) rfl (by decide) ?_
          exact lc_count hL i h5 hC hMm hW fin
        · refine G_tableOut (pc := 32) (tgt := 956) dL_law_32 hw (by omega) (by decide) ?_
          exact fin S I J hC hMm hW
      refine G_iload_n (pc := 18) dL_law_18 rfl ?_
      refine G_aload_n (pc := 19) dL_law_19 rfl ?_
      refine GL_slen (pc := 20) dL_law_20 hL ?_
      refine G_iconst (pc := 21) dL_law_21 ?_
      refine G_isub (pc := 22) dL_law_22 ?_
      refine G_icmp_gt (pc := 23) (tgt := 962) dL_law_23 (Ri.mk (by omega) (by omega)) (Ri.mk (by omega) (by omega)) (by decide) (fun h_23 => ?_) (fun h_23 => ?_)
      · exact absurd h_23 (by omega)
      · refine G_aload_n (pc := 26) dL_law_26 rfl ?_
        refine G_iload_n (pc := 27) dL_law_27 rfl ?_
        refine GL_sld (pc := 28) dL_law_28 hL (by omega) (by omega) ?_
        refine G_bipush (pc := 29) dL_law_29 (by decide) ?_
        refine G_iand (pc := 31) dL_law_31 ?_
        exact sw _ (Ri_toInt _)
    · skip
      refine G_iload_n (pc := 18) dL_law_18 rfl ?_
      refine G_aload_n (pc := 19) dL_law_19 rfl ?_
      refine GL_slen (pc := 20) dL_law_20 hL ?_
      refine G_iconst (pc := 21) dL_law_21 ?_
      refine G_isub (pc := 22) dL_law_22 ?_
      refine G_icmp_gt (pc := 23) (tgt := 962) dL_law_23 (Ri.mk (by omega) (by omega)) (Ri.mk (by omega) (by omega)) (by decide) (fun h_23 => ?_) (fun h_23 => ?_)
      · refine G_iconst (pc := 962) dL_law_962 ?_
        exact GL_ret1 dL_law_963
      · exact absurd h_23 (by omega)
theorem law_main {E : EV} {b L : Nat} {xs : Nat → Int32} (hL : L ≤ 2560) : GL E b L xs 0 (fun _ _ => 0) (fun _ _ => 0) (fun _ _ => none) 0 0 0 [some (.ref b), none, none, none] [] := by
  have hI : IZ (fun _ _ => 0) 0 := fun _ _ _ => rfl
  have hJ : IZ (fun _ _ => 0) 0 := fun _ _ _ => rfl
  have hR : RZ (fun _ _ => none) 0 := fun _ _ _ => rfl
  refine G_new (pc := 0) dL_law_0 clL_7 cw_11 (by first | rfl | assumption) (by first | assumption | exact hI.up (by omega) | (repeat (refine IZ.wr ?_ (by omega))); exact hI.up (by omega)) (by first | assumption | exact hJ.up (by omega) | (repeat (refine IZ.wr ?_ (by omega))); exact hJ.up (by omega)) (by first | assumption | exact hR.up (by omega) | (repeat (refine RZ.wr ?_ (by omega))); exact hR.up (by omega)) ⟨Nat.le_of_ble_eq_true rfl, Nat.le_of_ble_eq_true rfl⟩ ?_
  refine G_dup (pc := 3) dL_law_3 rfl ?_
  refine G_callI (pc := 4) (md := mdX11_init) (av := []) dL_law_4 lkL_9 mwX11_init rfl rfl (m_Main) rfl rfl (Nat.le_of_ble_eq_true rfl) ⟨Nat.le_of_ble_eq_true rfl, Nat.le_of_ble_eq_true rfl⟩ ⟨Nat.le_of_ble_eq_true rfl, Nat.le_of_ble_eq_true rfl⟩ ?_
  rintro v I1 J1 ⟨rfl, rfl, hC1, hZ1⟩
  refine G_astore_n (pc := 7) (lv' := [_, _, _, _]) dL_law_7 (by decide) rfl ?_
  refine G_world (R' := R0) (fun q hq i _ => if_pos hq) ?_
  have hI : IZ I1 71 := hZ1
  have hR := R0_Z
  refine G_new (pc := 8) dL_law_8 clL_10 cw_12 (by first | rfl | assumption) (by first | assumption | exact hI.up (by omega) | (repeat (refine IZ.wr ?_ (by omega))); exact hI.up (by omega)) (by first | assumption | exact hJ.up (by omega) | (repeat (refine IZ.wr ?_ (by omega))); exact hJ.up (by omega)) (by first | assumption | exact hR.up (by omega) | (repeat (refine RZ.wr ?_ (by omega))); exact hR.up (by omega)) ⟨Nat.le_of_ble_eq_true rfl, Nat.le_of_ble_eq_true rfl⟩ ?_
  refine G_dup (pc := 11) dL_law_11 rfl ?_
  refine G_callI (pc := 12) (md := mdX12_init) (av := []) dL_law_12 lkL_12 mwX12_init rfl rfl (m_Ref hI (fun _ _ _ => rfl)) rfl rfl (Nat.le_of_ble_eq_true rfl) ⟨Nat.le_of_ble_eq_true rfl, Nat.le_of_ble_eq_true rfl⟩ ⟨Nat.le_of_ble_eq_true rfl, Nat.le_of_ble_eq_true rfl⟩ ?_
  rintro v I2 J2 ⟨rfl, hOI, -, hM2⟩
  have hC2 := CI.off (I' := I2) hC1 (fun q h => hOI q (by omega))
  refine G_astore_n (pc := 15) (lv' := [_, _, _, _]) dL_law_15 (by decide) rfl ?_
  refine G_iconst (pc := 16) dL_law_16 ?_
  refine G_istore_n (pc := 17) (lv' := [_, _, _, _]) dL_law_17 (by decide) rfl ?_
  exact law_loop hL L 0 I2 J2 S0 (by omega) (by omega) hC2 hM2 S0_W
theorem kn_1 {s : State} {args : Array Value} {c : Nat} {C : String} {T : u_T} {N nf : Nat} {ty0 : Nat → FieldType} (h : ∀ w ∈ gtb, w.before args s = true) (hw : CWd c C T N ty0 nf) : ∃ (cC : ClassId) (iS : Nat → Nat), u_Kn s C T N cC iS := u_known h hw.2.2.2.1 (h _ hw.2.1)
theorem kn_all {s : State} {args : Array Value} (h : ∀ w ∈ gtb, w.before args s = true) : ∃ (dC : Nat → ClassId) (dI : Nat → Nat → Nat), ∀ (k : Nat) (q : vw_C), vwCl[k]? = some q → u_Kn s q.1 q.2.1 q.2.2 (dC k) (dI k) := by
  obtain ⟨c0, i0, h0⟩ := kn_1 h cw_0
  obtain ⟨c1, i1, h1⟩ := kn_1 h cw_1
  obtain ⟨c2, i2, h2⟩ := kn_1 h cw_2
  obtain ⟨c3, i3, h3⟩ := kn_1 h cw_3
  obtain ⟨c4, i4, h4⟩ := kn_1 h cw_4
  obtain ⟨c5, i5, h5⟩ := kn_1 h cw_5
  obtain ⟨c6, i6, h6⟩ := kn_1 h cw_6
  obtain ⟨c7, i7, h7⟩ := kn_1 h cw_7
  obtain ⟨c8, i8, h8⟩ := kn_1 h cw_8
  obtain ⟨c9, i9, h9⟩ := kn_1 h cw_9
  obtain ⟨c10, i10, h10⟩ := kn_1 h cw_10
  obtain ⟨c11, i11, h11⟩ := kn_1 h cw_11
  obtain ⟨c12, i12, h12⟩ := kn_1 h cw_12
  refine ⟨fun k => [c0, c1, c2, c3, c4, c5, c6, c7, c8, c9, c10, c11, c12].getD k c0, fun k => [i0, i1, i2, i3, i4, i5, i6, i7, i8, i9, i10, i11, i12].getD k i0, fun k q hq => ?_⟩
  match k, hq with
  | 0, hq => cases hq; exact h0
  | 1, hq => cases hq; exact h1
  | 2, hq => cases hq; exact h2
  | 3, hq => cases hq; exact h3
  | 4, hq => cases hq; exact h4
  | 5, hq => cases hq; exact h5
  | 6, hq => cases hq; exact h6
  | 7, hq => cases hq; exact h7
  | 8, hq => cases hq; exact h8
  | 9, hq => cases hq; exact h9
  | 10, hq => cases hq; exact h10
  | 11, hq => cases hq; exact h11
  | 12, hq => cases hq; exact h12
  | k + 13, hq => simp [vwCl] at hq
theorem ar_1 {s : State} {args : Array Value} {ty : FieldType} (h : (Cond.arrayClass ty).before args s = true) (hRA : ∀ cA, s.vm.findClass ("[" ++ ty.toString) = some cA → va_RA s cA ty) : ∃ cA, ArrOfT s cA ty ∧ va_RA s cA ty := by
  obtain ⟨cA, kA, comp, h1, h2, h3⟩ := Cond.arrayClass_spec h
  exact ⟨cA, fun n z => ⟨fun k h => (by cases h), kA, h2, comp, h3⟩, hRA cA h1⟩
theorem ar_all {s : State} {args : Array Value} (h : ∀ w ∈ gtb, w.before args s = true) : ∃ (dA : Nat → ClassId), ∀ (k : Nat) (q : ClassId × FieldType), ([(dA 0, .int), (dA 1, .long), (dA 2, .byte), (dA 3, .boolean)] : List (ClassId × FieldType))[k]? = some q → ArrOfT s q.1 q.2 ∧ va_RA s q.1 q.2 := by
  obtain ⟨a0, h0⟩ := ar_1 (h _ ac_int) (fun _ z => z)
  obtain ⟨a1, h1⟩ := ar_1 (h _ ac_long) (fun _ z => z)
  obtain ⟨a2, h2⟩ := ar_1 (h _ ac_byte) (fun _ z => z)
  obtain ⟨a3, h3⟩ := ar_1 (h _ ac_boolean) (fun _ z => z)
  refine ⟨fun k => [a0, a1, a2, a3].getD k a0, fun k q hq => ?_⟩
  match k, hq with
  | 0, hq => cases hq; exact h0
  | 1, hq => cases hq; exact h1
  | 2, hq => cases hq; exact h2
  | 3, hq => cases hq; exact h3
  | k + 4, hq => simp at hq
/-- YOUR PART: from the entry, for every script of at most 2560 ints, the law comes to its end with true ('hflags': the launch's flags, for a law that throws: no stack traces) -/
theorem whole_start {p : Program} {e : Env} {s : State} {m : MethodId} {below : List Frame} {meth : Method} {c : Code} (l : Launch) (hflags : l.flags = flags0) {b L : Nat} {xs : Nat → Int32} (hL : L ≤ 2560) (C0 : lw_At p s m meth c b L xs) : W p l e room_1 s m #[Value.ref b] below meth c s.heap [] 0 0 (lw_Z below #[Value.ref b] s) (entryFrame m ([Value.ref b] : List Value).toArray 4) := by
  obtain ⟨hx, hb, hr, hml, hown, hts, hX, hbl, hlocks, hgv⟩ := C0
  have htg : ∀ w ∈ gtb, w.before #[Value.ref b] s = true := fun w hw => hts w (List.mem_filter.mp hw).1
  obtain ⟨dC, dI, hKn⟩ := kn_all htg
  obtain ⟨dA, hA⟩ := ar_all htg
  have key := law_main (E := (l, s.heap.size, (dC, dI), dA)) (b := b) (xs := xs) hL
  have hl := lv_entry [Value.ref b] (n := 4) (Nat.le_of_ble_eq_true rfl)
  rw [lg_entry_eq]
  refine key p e s m _ below meth c ⟨hx, hb, hml, hown, htg, hr, hlocks, ⟨hKn, hA⟩, Nat.le_refl _, NW.of hts, rfl, hX, hbl, rfl⟩ s.heap [] _ ⟨rfl, fun k hk => absurd hk (Nat.not_lt_zero _)⟩ va_S.rf ?_
  refine LH.of hl fun j w hj => ?_
  have := lini_mem [Value.ref b] 0 j w (lget_lpad 4 (lini [Value.ref b]) j w hj)
  rwa [Nat.zero_add] at this


set_option maxHeartbeats 4000000 in
theorem lw_walk (l : Launch) (hflags : l.flags = flags0) (b : Addr) (xs : List Int32) : MetFree l x (headSpec (Jvm.Cond.code x code maxLocals ret :: tables_1) room_1) (lw_P b xs) (fun _ _ _ _ _ => True) lw_Q := by
  refine MetFree.of_bodyS (code := code) (maxLocals := maxLocals) (ret := ret) (by decide) ?_ ?_
  · intro args s m h hn
    obtain ⟨meth, c, h1, h2, h3, h4, h5, h6, -, -⟩ := Cond.code_spec hn (atoms_spec (ws := Jvm.Cond.code x code maxLocals ret :: tables_1) h _ List.mem_cons_self)
    exact ⟨meth, c, h1, h2, h3, h4, h5, h6⟩
  · intro p e s m args below meth c s₁ B hml0 hP _
    obtain ⟨rfl, hx, hbd, hgv⟩ := hP
    obtain ⟨scr, harrAt, hlist, hof, hsmall⟩ := hx
    obtain ⟨hcb, hkn, -, -⟩ := State.arrayAt?_spec harrAt
    have hown : s.vm.findClass R_law = some m.cls := findClass_of_methodNamed B.named
    have hts0 : ∀ c ∈ (Jvm.Cond.code x code maxLocals ret :: tables_1), c.before #[Value.ref b] s = true := atoms_spec (ws := Jvm.Cond.code x code maxLocals ret :: tables_1) B.pre
    have hts : ∀ w ∈ lw_tbl, w.before #[Value.ref b] s = true := k2_hts_sels lw_privs (fun w hw => hts0 w (List.mem_cons_of_mem _ hw)) lw_privs_ok
    have hml : c.maxLocals = 4 := B.maxLocals_eq (hts0 _ List.mem_cons_self)
    have X₀ : Stand p l e room_1 s m #[Value.ref b] below meth c s₁ [] 0 0 := Stand.of_body B
    have hh0 : s₁.heap = s.heap := by rw [B.state]; rfl
    have hsz : scr.slots.size = xs.length := by rw [← Array.length_toList, hlist, List.length_map]
    have hval : ∀ j : Nat, j < xs.length → scr.slots[j]? = some (.int (xs.getD j 0)) := fun j hj => by
      rw [← Array.getElem?_toList, hlist]
      simp [hj]
    have hbl : b < s.heap.size := (Array.getElem?_eq_some_iff.mp hcb).1
    have hX : va_X b xs.length (fun j => xs.getD j 0) s s.heap := ⟨scr, hcb, hof, hkn, hsz, hval⟩
    have K : W p l e room_1 s m #[Value.ref b] below meth c s₁.heap [] 0 0 (lw_Z below #[Value.ref b] s) (entryFrame m ([Value.ref b] : List Value).toArray 4) := by
      rw [hh0]
      exact whole_start l hflags hbd ⟨B.exec, B.bytes, B.returns, hml, hown, hts, hX, hbl, B.notSynchronized, hgv⟩
    obtain ⟨t, a1, o, b1, b2, b3⟩ := K s₁ rfl X₀
    exact ⟨t, o, a1, b1, b2, b3⟩
theorem lw_pre_spec {args : Array Value} {s : State} (h : (Jvm.Cond.and given_1 narrow_1).before args s = true) (hr : rest_1_c.before args s = true) : ∃ (b : Addr) (xs : List Int32), lw_P b xs args s := by
  have hs := flat_of_before _ h
  have hq := flat_of_before _ hr
  have hc : (Cond.count 1).before args s = true := hs _ (by decide +kernel)
  have harr : (Cond.arrayOf (.arg 0) .int).before args s = true := hs _ (by decide +kernel)
  have hle : (Cond.le (.length (.arg 0)) (.int 2560)).before args s = true := hs _ (by decide +kernel)
  have hlen : (Cond.isInt (.length (.arg 0))).before args s = true := hq _ (by decide +kernel)
  have hall : (Cond.all (.arg 0) (.isInt (.elem (.arg 0) (.index 0)))).before args s = true := hq _ (by decide +kernel)
  obtain ⟨b, xs, hb, hx⟩ := State.ints_of_pre rfl harr hlen hall
  have hsm : xs.length < 2 ^ 31 := hx.choose_spec.2.2.2
  have hev : (Term.length (.arg 0)).eval args s none [] s = some (.int xs.length.toInt32) := hx.length_eval hb
  have hv := Cond.le_ints hev (show (Term.int 2560).eval args s none [] s = some (.int 2560) from rfl)
  have hd : xs.length.toInt32 ≤ 2560 := by
    simpa [Cond.before, Cond.holds, hv] using hle
  have hN : xs.length ≤ 2560 := (Int32.ofNat_le_ofNat hsm (by decide)).mp (show Int32.ofNat xs.length ≤ Int32.ofNat 2560 from hd)
  exact ⟨b, xs, Cond.one_arg hc (show args[0]? = some (.ref b) from hb), hx, hN, h⟩
theorem lw_comes (l : Launch) (hflags : l.flags = flags0) : Comes l x (Jvm.Cond.code x code maxLocals ret :: tables_1) room_1 (fun tb e args s => Calls_1 tb e args s ∧ rest_1 tb e args s ∧ Pre_1 tb e args s)
    (fun _ _ args s o t => lw_Q args s o t) := by
  intro p e ha hc hk s m args below hf hfit hheap happ hpre
  obtain ⟨b, xs, hP⟩ := lw_pre_spec hpre.2.2 hpre.2.1
  obtain ⟨k, o, h1, h2, h3, hQ⟩ := lw_walk l hflags b xs p e ha hc hk s m args below hf ((Spec.applies_iff_loose hf).mp happ).1 hP trivial
  exact ⟨k, o, h1, h2, h3, hQ⟩
theorem lw_frame {s t : State} {o : Outcome} {args : Array Value} (h : Framed s o t [] 87 1929) :
    Framed s o t (fieldLocs frame_1_writes args s ++ arrayLocs frame_1_arrays args s ++ staticLocs frame_1_statics s) 87 1929 := h
theorem lw_limb (L : Cond) (hL : ∀ (args : Array Value) (s t : State), L.after args s (.returned (some (.int 1))) t = true) :
    ArmFor flags0 classFile x code maxLocals ret World_1 tables_1 room_1 Calls_1 rest_1 Pre_1
      (fun tb e a s o t => postC L tb e a s o t ∧ Framed s o t (fieldLocs frame_1_writes a s ++ arrayLocs frame_1_arrays a s ++ staticLocs frame_1_statics s) 87 1929) := by
  intro l hflags _ _ p e ha hc hk s m args below hf hfit hheap happ hpre
  obtain ⟨k, o, h1, h2, h3, rfl, hF⟩ := lw_comes l hflags p e ha hc hk s m args below hf hfit hheap happ hpre
  exact ⟨k, _, h1, h2, h3, hL args s _, lw_frame hF⟩
theorem i_vc : Claimed_1_1 ∧ Claimed_1_2 := ⟨lw_limb limb_1_1 (fun args s t => by simp [limb_1_1, Cond.after, Cond.holds, Cond.value]), lw_limb limb_1_2 (fun args s t => Cond.after_iff.mpr (by
  first | (rw [show limb_1_2 = Cond.eq .result (.int 1) from rfl, Cond.eq_ints (x := 1) (y := 1) rfl rfl]; simp; done) | (simp [limb_1_2, Cond.value, Term.eval]; done)))⟩
