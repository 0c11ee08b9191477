/-! THE LAW'S OWN ROWS: whole numbers of the pool, the script that lies below, contracts that read it -/
theorem kiL_7 : Cond.constant RL 7 (Int32.ofInt 747796405) ∈ gtb := gtb_of 680 (by decide +kernel) (by decide +kernel)
theorem kiL_8 : Cond.constant RL 8 (Int32.ofInt 2147483647) ∈ gtb := gtb_of 684 (by decide +kernel) (by decide +kernel)
abbrev XSc (E : EV) (b L : Nat) (xs : Nat → Int32) : Method → Array Value → State → Prop := fun _ _ s => va_X b L xs s s.heap ∧ b < eB E
def PCX (E : EV) (M : Nat) (I J : Nat → Nat → Int) (R : Nat → Nat → Option Nat) (b L : Nat) (xs : Nat → Int32) (av : List Value) : Array Value → State → Prop := va_Pc av (fun U => (World E M I J R U.heap ∧ va_K (eD E) vwCl (tysE E) U ∧ NW U) ∧ va_X b L xs U U.heap ∧ b < eB E)
/-- a contract of a method that may read the script -/
def FnX (E : EV) (md : MD) (h M : Nat) (R : Nat → Nat → Option Nat) (b L : Nat) (xs : Nat → Int32) (av : List Value) (I J : Nat → Nat → Int) (Q : Option Value → (Nat → Nat → Int) → (Nat → Nat → Int) → Prop) : Prop :=
  Met (eL E) md.1 (mws md) (rmh h 0 0) (PCX E M I J R b L xs av) (QC E M R Q) 0 0 (aB E)
abbrev GX (E : EV) (md : MD) (h M : Nat) (R : Nat → Nat → Option Nat) (b L : Nat) (xs : Nat → Int32) (Q : Option Value → (Nat → Nat → Int) → (Nat → Nat → Int) → Prop) (I J : Nat → Nat → Int) (pc : Nat) (lv : List (Option Value)) (st : List Value) : Prop :=
  G E (rmh h 0 0) md.1.cls md.2.1 md.2.2.1 md.2.2.2 (XSc E b L xs) (ZM E M R Q 0 0) M I J R 0 0 pc lv st
theorem FnX.of {E : EV} {md : MD} {h M : Nat} {R : Nat → Nat → Option Nat} {b L : Nat} {xs : Nat → Int32} {av : List Value} {I J : Nat → Nat → Int} {Q : Option Value → (Nat → Nat → Int) → (Nat → Nat → Int) → Prop} (hy : plainName md.1.cls = true) (hlen : (lg_sl av).length ≤ md.2.2.1)
    (g : GX E md h M R b L xs Q I J 0 (lpad md.2.2.1 (lini av)) []) : FnX E md h M R b L xs av I J Q := by
  refine Met.ofW (cc := md.2.1) (maxL := md.2.2.1) (ret := md.2.2.2) (ws' := gtb) hy rfl ?_
  intro p e s m args below meth c s₁ B hml hv
  obtain ⟨rfl, ⟨hW, hK, hN⟩, hX⟩ := hv
  have hts := atoms_spec (ws := mws md) B.pre
  have hl := lv_entry av (n := md.2.2.1) hlen
  rw [lg_entry_eq]
  refine g p e s m _ below meth c ⟨B.exec, B.bytes, hml, findClass_of_methodNamed B.named, fun w hw => hts w (List.mem_cons_of_mem _ hw), B.returns, B.notSynchronized, hK, by rw [hW.1]; exact Nat.le_add_right _ _, hN, hX⟩ s.heap [] _ hW va_S.rf ?_
  refine LH.of hl fun j w hj => ?_
  have := lini_mem av 0 j w (lget_lpad _ _ _ _ hj)
  rwa [Nat.zero_add] at this
theorem PCX.blind {E : EV} {M : Nat} {I J : Nat → Nat → Int} {R : Nat → Nat → Option Nat} {b L : Nat} {xs : Nat → Int32} {av : List Value} : FrameBlind (PCX E M I J R b L xs av) := fun a U g mk q => ⟨q.1, ⟨q.2.1.1, va_K.moved (u := U) (U := U.calling g mk a) (Vm.Alike.refl U.vm) q.2.1.2.1, NW.same (u := U) (U := U.calling g mk a) rfl q.2.1.2.2⟩, va_X.moved (u := U) (U := U.calling g mk a) (Vm.Alike.refl U.vm) q.2.2.1, q.2.2.2⟩
theorem preSX_of {E : EV} {M : Nat} {I J : Nat → Nat → Int} {R : Nat → Nat → Option Nat} {b L : Nat} {xs : Nat → Int32} {av : List Value} {H : Heap} {s : State} {locs : List Loc} (hW : World E M I J R H) (hK : va_K (eD E) vwCl (tysE E) s) (hN : NW s) (hX : va_X b L xs s s.heap ∧ b < eB E) (he : eB E ≤ s.heap.size) (hS : va_S (aB E) s.heap H locs) : PreS s H (PCX E M I J R b L xs av) av :=
  ⟨PCX.blind, fun U hU hw => ⟨rfl, ⟨by rw [hU]; exact hW, va_K.moved hw.alike hK, hN.warm hw⟩, va_X.moved hw.alike (by
    obtain ⟨scr, h1, h2⟩ := hX.1
    refine ⟨scr, ?_, h2⟩
    rw [hU, hS.2.1 b (Nat.lt_of_lt_of_le hX.2 he) (fun z => absurd hX.2 (Nat.not_lt.mpr z))]; exact h1), hX.2⟩⟩
section LAWROWS
variable {E : EV} {rm : Room} {own : String} {cc : ByteArray} {nL : Nat} {ret : Option FieldType} {X : Method → Array Value → State → Prop} {Z : List Frame → Array Value → State → State → Prop} {M : Nat} {I J : Nat → Nat → Int} {R : Nat → Nat → Option Nat} {k n : Nat} {pc : Nat} {lv : List (Option Value)} {st : List Value}
theorem G_callX {md : MD} {h N idx b L : Nat} {xs : Nat → Int32} {av rest : List Value} {Q : Option Value → (Nat → Nat → Int) → (Nat → Nat → Int) → Prop} (hXs : ∀ meth args s, X meth args s → va_X b L xs s s.heap ∧ b < eB E) (d : decode cc pc = .ok (.invokestatic idx, 3)) (hlk : LK own idx md.1) (hw : MWS md N) (hF : FnX E md h M R b L xs av I J Q) (hav : av.length = N) (hst : st = av.reverse ++ rest) (hcat : (rest.map fun v => v.category).sum ≤ 8) (hroom : h + 1 ≤ rm.frames ∧ 8 + (md.2.2.1 + 11) + 36 * h ≤ rm.locals) (hcs : k ≤ rm.cells ∧ n ≤ rm.slots)
    (kk : ∀ (v : Option Value) (I' J' : Nat → Nat → Int), Q v I' J' → G E rm own cc nL ret X Z M I' J' R k n (pc + 3) lv (v.toList ++ rest)) : G E rm own cc nL ret X Z M I J R k n pc lv st := by
  intro p e s m args below meth cd C H locs ls hW hS hl
  have hts := C.2.2.2.2.1
  have hK := C.2.2.2.2.2.2.2.1
  have hfix : CallFix p m cd cc nL s args gtb own := ⟨C.1, C.2.1, C.2.2.1, C.2.2.2.1, hts⟩
  have hps : PreS s H (PCX E M I J R b L xs av) av := preSX_of hW hK C.2.2.2.2.2.2.2.2.2.1 (hXs _ _ _ C.2.2.2.2.2.2.2.2.2.2) C.2.2.2.2.2.2.2.2.1 hS
  refine call_go (rest := rest) (mc := 0) (ms := 0) (Q := Q) (a := av.toArray) ?_ hS (fun v I' J' H1 locs1 hqv hW1 hS1 => kk v I' J' hqv p e s m args below meth cd C H1 locs1 ls hW1 hS1 hl)
  rcases hlk with hlk | ⟨host, hlk⟩
  · exact va_runS hfix hF ⟨callB_mk hts hw.1 (hts _ hlk) hroom, hts _ hw.2⟩ hps rfl hav hl.1 hst (lv_room hcat) d hcs
  · exact va_runSN hfix hF ⟨callN_mk hts hw.1 (C.2.2.2.2.2.2.2.2.2.1.use hlk) hroom, hts _ hw.2, trivial⟩ hps rfl hav hl.1 hst (lv_room hcat) d hcs
theorem GX_sld {b L : Nat} {xs : Nat → Int32} {a : Int} (hXs : ∀ meth args s, X meth args s → va_X b L xs s s.heap ∧ b < eB E) (d : decode cc pc = .ok (.iaload, 1)) (hL : L ≤ 260) (h0 : 0 ≤ a) (h1 : a < (L : Int)) (kk : G E rm own cc nL ret X Z M I J R k n (pc + 1) lv (vi ((xs a.toNat).toInt) :: st)) : G E rm own cc nL ret X Z M I J R k n pc lv (vi a :: .ref b :: st) := by
  intro p e s m args below meth cd C H locs ls hW hS hl
  obtain ⟨hX, hbl⟩ := hXs _ _ _ C.2.2.2.2.2.2.2.2.2.2
  refine va_sld C.1 C.2.1 hX (Nat.lt_of_lt_of_le hbl C.2.2.2.2.2.2.2.2.1) (A := aB E) (fun h => absurd hbl (Nat.not_lt.mpr h)) hS (ix_in h0 h1 (by omega)) d ?_
  rw [ix_cl h0 (by omega)]
  have := kk p e s m args below meth cd C H locs ls hW hS hl
  rwa [show vi ((xs a.toNat).toInt) = Value.int (xs a.toNat) from congrArg Value.int (Int32.ofInt_toInt _)] at this
theorem GX_slen {b L : Nat} {xs : Nat → Int32} (hXs : ∀ meth args s, X meth args s → va_X b L xs s s.heap ∧ b < eB E) (d : decode cc pc = .ok (.arraylength, 1)) (kk : G E rm own cc nL ret X Z M I J R k n (pc + 1) lv (vi (L : Int) :: st)) : G E rm own cc nL ret X Z M I J R k n pc lv (.ref b :: st) := by
  intro p e s m args below meth cd C H locs ls hW hS hl
  obtain ⟨hX, hbl⟩ := hXs _ _ _ C.2.2.2.2.2.2.2.2.2.2
  refine va_slen C.1 C.2.1 hX (Nat.lt_of_lt_of_le hbl C.2.2.2.2.2.2.2.2.1) (A := aB E) (fun h => absurd hbl (Nat.not_lt.mpr h)) hS d ?_
  have := kk p e s m args below meth cd C H locs ls hW hS hl
  rwa [show vi (L : Int) = Value.int (Int32.ofNat L) from congrArg Value.int Int32.ofInt_eq_ofNat] at this
theorem G_iand {a c : Int} (d : decode cc pc = .ok (.iand, 1)) (kk : G E rm own cc nL ret X Z M I J R k n (pc + 1) lv (vi ((Int32.ofInt a &&& Int32.ofInt c).toInt) :: st)) : G E rm own cc nL ret X Z M I J R k n pc lv (vi c :: vi a :: st) := by
  intro p e s m args below meth cd C H locs ls hW hS hl
  refine lv_iand C.1 C.2.1 d ?_
  have := kk p e s m args below meth cd C H locs ls hW hS hl
  rwa [show vi ((Int32.ofInt a &&& Int32.ofInt c).toInt) = Value.int (Int32.ofInt a &&& Int32.ofInt c) from congrArg Value.int (Int32.ofInt_toInt _)] at this
/-- shifted: some whole number -/
theorem G_ishr {a c : Int} (d : decode cc pc = .ok (.ishr, 1)) (kk : ∀ y : Int, Ri y → G E rm own cc nL ret X Z M I J R k n (pc + 1) lv (vi y :: st)) : G E rm own cc nL ret X Z M I J R k n pc lv (vi c :: vi a :: st) := by
  intro p e s m args below meth cd C H locs ls hW hS hl
  refine lv_ishr C.1 C.2.1 d ?_
  have := kk (Int32.ofInt a >>> (Int32.ofInt c &&& 31)).toInt (Ri_toInt _) p e s m args below meth cd C H locs ls hW hS hl
  rwa [show vi ((Int32.ofInt a >>> (Int32.ofInt c &&& 31)).toInt) = Value.int (Int32.ofInt a >>> (Int32.ofInt c &&& 31)) from congrArg Value.int (Int32.ofInt_toInt _)] at this
theorem G_ldc {idx : Nat} {a : Int} (d : decode cc pc = .ok (.ldc idx, 2)) (hw : Cond.constant own idx (Int32.ofInt a) ∈ gtb) (kk : G E rm own cc nL ret X Z M I J R k n (pc + 2) lv (vi a :: st)) : G E rm own cc nL ret X Z M I J R k n pc lv st := by
  intro p e s m args below meth cd C H locs ls hW hS hl
  exact lv_ldc C.1 C.2.1 C.2.2.2.1 (C.2.2.2.2.1 _ hw) d (kk p e s m args below meth cd C H locs ls hW hS hl)
theorem G_ialdv {q z : Nat} {a x : Int} (d : decode cc pc = .ok (.iaload, 1)) (hs : shp q = .inr (0, z)) (hq : q < M) (hz : z < 2147483648) (h0 : 0 ≤ a) (h1 : a < z) (hv : I q a.toNat = x) (kk : G E rm own cc nL ret X Z M I J R k n (pc + 1) lv (vi x :: st)) : G E rm own cc nL ret X Z M I J R k n pc lv (vi a :: vr E q :: st) := G_iald d hs hq hz h0 h1 (by rw [hv]; exact kk)
/-- a local forgotten -/
theorem G_kill {lv' : List (Option Value)} (i : Nat) (h : lkill lv i = lv') (kk : G E rm own cc nL ret X Z M I J R k n pc lv' st) : G E rm own cc nL ret X Z M I J R k n pc lv st := by
  intro p e s m args below meth cd C H locs ls hW hS hl
  exact kk p e s m args below meth cd C H locs ls hW hS ⟨hl.1, hl.2.1, fun j w hj => hl.2.2 j w (lget_lkill _ _ _ _ (by rw [h]; exact hj)).2⟩
end LAWROWS
theorem XSc.id {E : EV} {b L : Nat} {xs : Nat → Int32} : ∀ (meth : Method) (args : Array Value) (s : State), XSc E b L xs meth args s → va_X b L xs s s.heap ∧ b < eB E := fun _ _ _ h => h
