/-! THE LAW: its entry -/
theorem law_main {E : EV} {b L : Nat} {xs : Nat → Int32} (hL : L ≤ 260) : GL E b L xs 0 (fun _ _ => 0) (fun _ _ => 0) (fun _ _ => none) 0 0 0 [some (.ref b), none, none, none, none, none, none, none, none, none, none, none, none, none, none] [] := by
  have hI : IZ (fun _ _ => 0) 0 := fun _ _ _ => rfl
  have hJ : IZ (fun _ _ => 0) 0 := fun _ _ _ => rfl
  have hR : RZ (fun _ _ => none) 0 := fun _ _ _ => rfl
  refine G_new (pc := 0) dL_law_0 clL_10 cw_11 (by first | rfl | assumption) (by first | assumption | exact hI.up (by omega) | (repeat (refine IZ.wr ?_ (by omega))); exact hI.up (by omega)) (by first | assumption | exact hJ.up (by omega) | (repeat (refine IZ.wr ?_ (by omega))); exact hJ.up (by omega)) (by first | assumption | exact hR.up (by omega) | (repeat (refine RZ.wr ?_ (by omega))); exact hR.up (by omega)) ⟨Nat.le_of_ble_eq_true rfl, Nat.le_of_ble_eq_true rfl⟩ ?_
  refine G_dup (pc := 3) dL_law_3 rfl ?_
  refine G_callI (pc := 4) (md := mdX11_init) (av := []) dL_law_4 lkL_62 mwX11_init rfl rfl (m_Main) rfl rfl (Nat.le_of_ble_eq_true rfl) ⟨Nat.le_of_ble_eq_true rfl, Nat.le_of_ble_eq_true rfl⟩ ⟨Nat.le_of_ble_eq_true rfl, Nat.le_of_ble_eq_true rfl⟩ ?_
  rintro v I1 J1 ⟨rfl, rfl, hC1, hZ1⟩
  have hI : IZ I1 71 := hZ1
  refine G_astore_n (pc := 7) (lv' := [_, _, _, _, _, _, _, _, _, _, _, _, _, _, _]) dL_law_7 (by decide) rfl ?_
  refine G_bipush (pc := 8) dL_law_8 (by decide) ?_
  refine G_newi (pc := 10) (z := 46) dL_law_10 ac_int (Nat.le_of_ble_eq_true rfl) (by first | rfl | assumption) rfl (by first | assumption | exact hI.up (by omega) | (repeat (refine IZ.wr ?_ (by omega))); exact hI.up (by omega)) (by first | assumption | exact hJ.up (by omega) | (repeat (refine IZ.wr ?_ (by omega))); exact hJ.up (by omega)) ⟨Nat.le_of_ble_eq_true rfl, Nat.le_of_ble_eq_true rfl⟩ ?_
  refine G_astore_n (pc := 12) (lv' := [_, _, _, _, _, _, _, _, _, _, _, _, _, _, _]) dL_law_12 (by decide) rfl ?_
  refine G_aload_n (pc := 13) dL_law_13 rfl ?_
  refine G_aload_n (pc := 14) dL_law_14 rfl ?_
  refine G_callX (pc := 15) (md := mdL_draws) (av := [_, _]) XLw.x dL_law_15 lkL_63 mwL_draws (c_draws hL (by omega) (fun i => hZ1 71 (Nat.le_refl 71) i)) rfl rfl (Nat.le_of_ble_eq_true rfl) ⟨Nat.le_of_ble_eq_true rfl, Nat.le_of_ble_eq_true rfl⟩ ⟨Nat.le_of_ble_eq_true rfl, Nat.le_of_ble_eq_true rfl⟩ ?_
  rintro v I2 J2 ⟨rfl, hoff, o, hD, hO⟩
  have hC2 := CI.off (I' := I2) hC1 (fun q h => hoff q (by omega))
  refine G_aload_n (pc := 18) dL_law_18 rfl ?_
  refine G_callS1 (pc := 19) (md := mdL_people) (av := [_]) dL_law_19 lkL_67 mwL_people (c_people (by omega) hO hD) rfl rfl (Nat.le_of_ble_eq_true rfl) ⟨Nat.le_of_ble_eq_true rfl, Nat.le_of_ble_eq_true rfl⟩ ⟨Nat.le_of_ble_eq_true rfl, Nat.le_of_ble_eq_true rfl⟩ ?_
  refine G_istore_n (pc := 22) (lv' := [_, _, _, _, _, _, _, _, _, _, _, _, _, _, _]) dL_law_22 (by decide) rfl ?_
  refine G_aload_n (pc := 23) dL_law_23 rfl ?_
  refine G_aload_n (pc := 24) dL_law_24 rfl ?_
  refine G_callS (pc := 25) (md := mdL_lays) (av := [_, _]) dL_law_25 lkL_71 mwL_lays (c_lays (by omega) hO hD hC2 S0_W) rfl rfl (Nat.le_of_ble_eq_true rfl) ⟨Nat.le_of_ble_eq_true rfl, Nat.le_of_ble_eq_true rfl⟩ ⟨Nat.le_of_ble_eq_true rfl, Nat.le_of_ble_eq_true rfl⟩ ?_
  rintro v I3 J3 ⟨rfl, hf, n, tx, hs, C, K, hC, hW, hH, hR, hT⟩
  replace hO := hO.off hf
  have h80 := aP_80 hD (Nat.le_refl (o 0))
  refine G_iload_n (pc := 28) dL_law_28 rfl ?_
  refine G_icmp_eq (pc := 29) (tgt := 34) dL_law_29 (Ri.mk (by omega) (by omega)) (Ri.mk (by omega) (by omega)) (by decide) (fun h_29 => ?_) (fun h_29 => ?_)
  · exact la_does hL hD hH hO hC hW hT hR.1
  · exact absurd rfl h_29
theorem kn_1 {s : State} {args : Array Value} {c : Nat} {C : String} {T : u_T} {N nf : Nat} {ty0 : Nat → FieldType} (h : ∀ w ∈ gtb, w.before args s = true) (hw : CWd c C T N ty0 nf) : ∃ (cC : ClassId) (iS : Nat → Nat), u_Kn s C T N cC iS := u_known h hw.2.2.2.1 (h _ hw.2.1)
theorem kn_all {s : State} {args : Array Value} (h : ∀ w ∈ gtb, w.before args s = true) : ∃ (dC : Nat → ClassId) (dI : Nat → Nat → Nat), ∀ (k : Nat) (q : vw_C), vwCl[k]? = some q → u_Kn s q.1 q.2.1 q.2.2 (dC k) (dI k) := by
  obtain ⟨c0, i0, h0⟩ := kn_1 h cw_0
  obtain ⟨c1, i1, h1⟩ := kn_1 h cw_1
  obtain ⟨c2, i2, h2⟩ := kn_1 h cw_2
  obtain ⟨c3, i3, h3⟩ := kn_1 h cw_3
  obtain ⟨c4, i4, h4⟩ := kn_1 h cw_4
  obtain ⟨c5, i5, h5⟩ := kn_1 h cw_5
  obtain ⟨c6, i6, h6⟩ := kn_1 h cw_6
  obtain ⟨c7, i7, h7⟩ := kn_1 h cw_7
  obtain ⟨c8, i8, h8⟩ := kn_1 h cw_8
  obtain ⟨c9, i9, h9⟩ := kn_1 h cw_9
  obtain ⟨c10, i10, h10⟩ := kn_1 h cw_10
  obtain ⟨c11, i11, h11⟩ := kn_1 h cw_11
  refine ⟨fun k => [c0, c1, c2, c3, c4, c5, c6, c7, c8, c9, c10, c11].getD k c0, fun k => [i0, i1, i2, i3, i4, i5, i6, i7, i8, i9, i10, i11].getD k i0, fun k q hq => ?_⟩
  match k, hq with
  | 0, hq => cases hq; exact h0
  | 1, hq => cases hq; exact h1
  | 2, hq => cases hq; exact h2
  | 3, hq => cases hq; exact h3
  | 4, hq => cases hq; exact h4
  | 5, hq => cases hq; exact h5
  | 6, hq => cases hq; exact h6
  | 7, hq => cases hq; exact h7
  | 8, hq => cases hq; exact h8
  | 9, hq => cases hq; exact h9
  | 10, hq => cases hq; exact h10
  | 11, hq => cases hq; exact h11
  | k + 12, hq => simp [vwCl] at hq
theorem ar_1 {s : State} {args : Array Value} {ty : FieldType} (h : (Cond.arrayClass ty).before args s = true) (hRA : ∀ cA, s.vm.findClass ("[" ++ ty.toString) = some cA → va_RA s cA ty) : ∃ cA, ArrOfT s cA ty ∧ va_RA s cA ty := by
  obtain ⟨cA, kA, comp, h1, h2, h3⟩ := Cond.arrayClass_spec h
  exact ⟨cA, fun n z => ⟨fun k h => (by cases h), kA, h2, comp, h3⟩, hRA cA h1⟩
theorem ar_all {s : State} {args : Array Value} (h : ∀ w ∈ gtb, w.before args s = true) : ∃ (dA : Nat → ClassId), ∀ (k : Nat) (q : ClassId × FieldType), ([(dA 0, .int), (dA 1, .long), (dA 2, .byte), (dA 3, .boolean)] : List (ClassId × FieldType))[k]? = some q → ArrOfT s q.1 q.2 ∧ va_RA s q.1 q.2 := by
  obtain ⟨a0, h0⟩ := ar_1 (h _ ac_int) (fun _ z => z)
  obtain ⟨a1, h1⟩ := ar_1 (h _ ac_long) (fun _ z => z)
  obtain ⟨a2, h2⟩ := ar_1 (h _ ac_byte) (fun _ z => z)
  obtain ⟨a3, h3⟩ := ar_1 (h _ ac_boolean) (fun _ z => z)
  refine ⟨fun k => [a0, a1, a2, a3].getD k a0, fun k q hq => ?_⟩
  match k, hq with
  | 0, hq => cases hq; exact h0
  | 1, hq => cases hq; exact h1
  | 2, hq => cases hq; exact h2
  | 3, hq => cases hq; exact h3
  | k + 4, hq => simp at hq
/-- YOUR PART: from the entry, for every script of at most 260 ints, the law comes to its end with true ('hflags': the launch's flags, for a law that throws: no stack traces) -/
theorem whole_start {p : Program} {e : Env} {s : State} {m : MethodId} {below : List Frame} {meth : Method} {c : Code} (l : Launch) (hflags : l.flags = flags0) {b L : Nat} {xs : Nat → Int32} (hL : L ≤ 260) (C0 : lw_At p s m meth c b L xs) : W p l e room_1 s m #[Value.ref b] below meth c s.heap [] 0 0 (lw_Z below #[Value.ref b] s) (entryFrame m ([Value.ref b] : List Value).toArray 15) := by
  obtain ⟨hx, hb, hr, hml, hown, hts, hX, hbl, hlocks, hgv⟩ := C0
  have htg : ∀ w ∈ gtb, w.before #[Value.ref b] s = true := fun w hw => hts w (List.mem_filter.mp hw).1
  obtain ⟨dC, dI, hKn⟩ := kn_all htg
  obtain ⟨dA, hA⟩ := ar_all htg
  have key := law_main (E := (l, s.heap.size, (dC, dI), dA)) (b := b) (xs := xs) hL
  have hl := lv_entry [Value.ref b] (n := 15) (Nat.le_of_ble_eq_true rfl)
  rw [lg_entry_eq]
  refine key p e s m _ below meth c ⟨hx, hb, hml, hown, htg, hr, hlocks, ⟨hKn, hA⟩, Nat.le_refl _, NW.of hts, rfl, hX, hbl, rfl⟩ s.heap [] _ ⟨rfl, fun k hk => absurd hk (Nat.not_lt_zero _)⟩ va_S.rf ?_
  refine LH.of hl fun j w hj => ?_
  have := lini_mem [Value.ref b] 0 j w (lget_lpad 15 (lini [Value.ref b]) j w hj)
  rwa [Nat.zero_add] at this


set_option maxHeartbeats 4000000 in
theorem lw_walk (l : Launch) (hflags : l.flags = flags0) (b : Addr) (xs : List Int32) : MetFree l x (headSpec (Jvm.Cond.code x code maxLocals ret :: tables_1) room_1) (lw_P b xs) (fun _ _ _ _ _ => True) lw_Q := by
  refine MetFree.of_bodyS (code := code) (maxLocals := maxLocals) (ret := ret) (by decide) ?_ ?_
  · intro args s m h hn
    obtain ⟨meth, c, h1, h2, h3, h4, h5, h6, -, -⟩ := Cond.code_spec hn (atoms_spec (ws := Jvm.Cond.code x code maxLocals ret :: tables_1) h _ List.mem_cons_self)
    exact ⟨meth, c, h1, h2, h3, h4, h5, h6⟩
  · intro p e s m args below meth c s₁ B hml0 hP _
    obtain ⟨rfl, hx, hbd, hgv⟩ := hP
    obtain ⟨scr, harrAt, hlist, hof, hsmall⟩ := hx
    obtain ⟨hcb, hkn, -, -⟩ := State.arrayAt?_spec harrAt
    have hown : s.vm.findClass R_law = some m.cls := findClass_of_methodNamed B.named
    have hts0 : ∀ c ∈ (Jvm.Cond.code x code maxLocals ret :: tables_1), c.before #[Value.ref b] s = true := atoms_spec (ws := Jvm.Cond.code x code maxLocals ret :: tables_1) B.pre
    have hts : ∀ w ∈ lw_tbl, w.before #[Value.ref b] s = true := k2_hts_sels lw_privs (fun w hw => hts0 w (List.mem_cons_of_mem _ hw)) lw_privs_ok
    have hml : c.maxLocals = 15 := B.maxLocals_eq (hts0 _ List.mem_cons_self)
    have X₀ : Stand p l e room_1 s m #[Value.ref b] below meth c s₁ [] 0 0 := Stand.of_body B
    have hh0 : s₁.heap = s.heap := by rw [B.state]; rfl
    have hsz : scr.slots.size = xs.length := by rw [← Array.length_toList, hlist, List.length_map]
    have hval : ∀ j : Nat, j < xs.length → scr.slots[j]? = some (.int (xs.getD j 0)) := fun j hj => by
      rw [← Array.getElem?_toList, hlist]
      simp [hj]
    have hbl : b < s.heap.size := (Array.getElem?_eq_some_iff.mp hcb).1
    have hX : va_X b xs.length (fun j => xs.getD j 0) s s.heap := ⟨scr, hcb, hof, hkn, hsz, hval⟩
    have K : W p l e room_1 s m #[Value.ref b] below meth c s₁.heap [] 0 0 (lw_Z below #[Value.ref b] s) (entryFrame m ([Value.ref b] : List Value).toArray 15) := by
      rw [hh0]
      exact whole_start l hflags hbd ⟨B.exec, B.bytes, B.returns, hml, hown, hts, hX, hbl, B.notSynchronized, hgv⟩
    obtain ⟨t, a1, o, b1, b2, b3⟩ := K s₁ rfl X₀
    exact ⟨t, o, a1, b1, b2, b3⟩
theorem lw_pre_spec {args : Array Value} {s : State} (h : (Jvm.Cond.and given_1 narrow_1).before args s = true) (hr : rest_1_c.before args s = true) : ∃ (b : Addr) (xs : List Int32), lw_P b xs args s := by
  have hs := flat_of_before _ h
  have hq := flat_of_before _ hr
  have hc : (Cond.count 1).before args s = true := hs _ (by decide +kernel)
  have harr : (Cond.arrayOf (.arg 0) .int).before args s = true := hs _ (by decide +kernel)
  have hle : (Cond.le (.length (.arg 0)) (.int 260)).before args s = true := hs _ (by decide +kernel)
  have hlen : (Cond.isInt (.length (.arg 0))).before args s = true := hq _ (by decide +kernel)
  have hall : (Cond.all (.arg 0) (.isInt (.elem (.arg 0) (.index 0)))).before args s = true := hq _ (by decide +kernel)
  obtain ⟨b, xs, hb, hx⟩ := State.ints_of_pre rfl harr hlen hall
  have hsm : xs.length < 2 ^ 31 := hx.choose_spec.2.2.2
  have hev : (Term.length (.arg 0)).eval args s none [] s = some (.int xs.length.toInt32) := hx.length_eval hb
  have hv := Cond.le_ints hev (show (Term.int 260).eval args s none [] s = some (.int 260) from rfl)
  have hd : xs.length.toInt32 ≤ 260 := by
    simpa [Cond.before, Cond.holds, hv] using hle
  have hN : xs.length ≤ 260 := (Int32.ofNat_le_ofNat hsm (by decide)).mp (show Int32.ofNat xs.length ≤ Int32.ofNat 260 from hd)
  exact ⟨b, xs, Cond.one_arg hc (show args[0]? = some (.ref b) from hb), hx, hN, h⟩
theorem lw_comes (l : Launch) (hflags : l.flags = flags0) : Comes l x (Jvm.Cond.code x code maxLocals ret :: tables_1) room_1 (fun tb e args s => Calls_1 tb e args s ∧ rest_1 tb e args s ∧ Pre_1 tb e args s)
    (fun _ _ args s o t => lw_Q args s o t) := by
  intro p e ha hc hk s m args below hf hfit hheap happ hpre
  obtain ⟨b, xs, hP⟩ := lw_pre_spec hpre.2.2 hpre.2.1
  obtain ⟨k, o, h1, h2, h3, hQ⟩ := lw_walk l hflags b xs p e ha hc hk s m args below hf ((Spec.applies_iff_loose hf).mp happ).1 hP trivial
  exact ⟨k, o, h1, h2, h3, hQ⟩
theorem lw_frame {s t : State} {o : Outcome} {args : Array Value} (h : Framed s o t [] 72 1066) :
    Framed s o t (fieldLocs frame_1_writes args s ++ arrayLocs frame_1_arrays args s ++ staticLocs frame_1_statics s) 72 1066 := h
theorem lw_limb (L : Cond) (hL : ∀ (args : Array Value) (s t : State), L.after args s (.returned (some (.int 1))) t = true) :
    ArmFor flags0 classFile x code maxLocals ret World_1 tables_1 room_1 Calls_1 rest_1 Pre_1
      (fun tb e a s o t => postC L tb e a s o t ∧ Framed s o t (fieldLocs frame_1_writes a s ++ arrayLocs frame_1_arrays a s ++ staticLocs frame_1_statics s) 72 1066) := by
  intro l hflags _ _ p e ha hc hk s m args below hf hfit hheap happ hpre
  obtain ⟨k, o, h1, h2, h3, rfl, hF⟩ := lw_comes l hflags p e ha hc hk s m args below hf hfit hheap happ hpre
  exact ⟨k, _, h1, h2, h3, hL args s _, lw_frame hF⟩
theorem i_vc : Claimed_1_1 ∧ Claimed_1_2 := ⟨lw_limb limb_1_1 (fun args s t => by simp [limb_1_1, Cond.after, Cond.holds, Cond.value]), lw_limb limb_1_2 (fun args s t => Cond.after_iff.mpr (by
  first | (rw [show limb_1_2 = Cond.eq .result (.int 1) from rfl, Cond.eq_ints (x := 1) (y := 1) rfl rfl]; simp; done) | (simp [limb_1_2, Cond.value, Term.eval]; done)))⟩
