/-! THE CLAIM OUT OF ONE WALK OF THE LAW'S BODY. Your part is whole_start (and what it stands on); all else here is the same for every law, but numbers. -/
def R_law : String := "StageSieveLaw"
def lw_P (b : Addr) (xs : List Int32) (args : Array Value) (s : State) : Prop := args = #[.ref b] ∧ s.IntsAt b xs ∧ xs.length ≤ 2560 ∧ (Jvm.Cond.and given_1 narrow_1).before args s = true
def lw_Q (_ : Array Value) (s : State) (o : Outcome) (t : State) : Prop := o = .returned (some (.int 1)) ∧ Framed s o t [] 87 1929
def lw_Z (below : List Frame) (a : Array Value) (s : State) : State → Prop := fun t => ∃ o, t.status = .running ∧ Ended t below o ∧ lw_Q a s o t
/-- the law's own end, with 1 on the stack, nothing written that was there before, its room as the claim has it -/
theorem lw_ret {p : Program} {l : Launch} {e : Env} {s : State} {m : MethodId} {below : List Frame} {meth : Method} {c : Code} {b : Nat} (hx : p.tables.exec = Jvm.exec) (hb : c.code = code) (hr : meth.sig.returnType = ret) (hlocks : meth.locks = false) {pc : Nat} {H : Heap} {ls : Array Slot} (hdg : decode code pc = .ok (.ireturn, 1)) : W p l e room_1 s m #[Value.ref b] below meth c H [] 87 1929 (lw_Z below #[Value.ref b] s) (F0 m pc ls [.int 1]) := by
  intro T hT X
  obtain ⟨fs, hret, hrun, hended, hW, hframe⟩ := X.leave (v := some (.int 1)) (hlocks := hlocks) (fun h => by rw [hr] at h; cases h)
  have hmeth' : T.vm.method? m = some meth := X.method'
  refine ⟨T.setFrames fs, ?_, .returned (some (.int 1)), hrun, hended, rfl, ⟨_, rfl⟩, hW, hframe⟩
  jvm_step X.here [X.here.top, hx, hb, hdg, hmeth', hr, ret, narrow_b1]
  (try refine ⟨rfl, ?_⟩); (try refine ⟨rfl, ?_⟩)
  first | (intro acts; rw [hret _ acts rfl rfl rfl]) | rw [hret _ _ rfl rfl rfl]
  exact Steps.refl _
/-- what holds at the law's entry: the machine, the code, the tables' words (any of lw_tbl by 'hts w (by decide +kernel)'), the script of L ints xs at the cell b, what the Statement gives of the start (any of its parts by flat_of_before) -/
def lw_At (p : Program) (s : State) (m : MethodId) (meth : Method) (c : Code) (b L : Nat) (xs : Nat → Int32) : Prop :=
  p.tables.exec = Jvm.exec ∧ c.code = code ∧ meth.sig.returnType = ret ∧ c.maxLocals = 4 ∧ s.vm.findClass R_law = some m.cls ∧ (∀ w ∈ lw_tbl, w.before #[Value.ref b] s = true) ∧ va_X b L xs s s.heap ∧ b < s.heap.size ∧ meth.locks = false ∧ (Jvm.Cond.and given_1 narrow_1).before #[Value.ref b] s = true
/-! THE LAW: its rows -/
abbrev XLw (E : EV) (b L : Nat) (xs : Nat → Int32) : Method → Array Value → State → Prop := fun _ args s => args = #[Value.ref b] ∧ va_X b L xs s s.heap ∧ b < s.heap.size ∧ s.heap.size = eB E
abbrev GL (E : EV) (b L : Nat) (xs : Nat → Int32) (M : Nat) (I J : Nat → Nat → Int) (R : Nat → Nat → Option Nat) (k n : Nat) (pc : Nat) (lv : List (Option Value)) (st : List Value) : Prop := G E room_1 RL cL_law 4 ret (XLw E b L xs) lw_Z M I J R k n pc lv st
section LAWR
variable {E : EV} {b L : Nat} {xs : Nat → Int32} {M : Nat} {I J : Nat → Nat → Int} {R : Nat → Nat → Option Nat} {k n : Nat} {pc : Nat} {lv : List (Option Value)} {st : List Value}
theorem GL_sld {a : Int} (d : decode cL_law pc = .ok (.iaload, 1)) (hL : L ≤ 2560) (h0 : 0 ≤ a) (h1 : a < (L : Int)) (kk : GL E b L xs M I J R k n (pc + 1) lv (vi ((xs a.toNat).toInt) :: st)) : GL E b L xs M I J R k n pc lv (vi a :: .ref b :: st) := by
  intro p e s m args below meth cd C H locs ls hW hS hl
  obtain ⟨ha, hX, hbl, he⟩ := C.2.2.2.2.2.2.2.2.2.2
  refine va_sld C.1 C.2.1 hX hbl (A := aB E) (fun h => absurd hbl (by rw [he]; exact Nat.not_lt.mpr h)) hS (ix_in h0 h1 (by omega)) d ?_
  rw [ix_cl h0 (by omega)]
  have := kk p e s m args below meth cd C H locs ls hW hS hl
  rwa [show vi ((xs a.toNat).toInt) = Value.int (xs a.toNat) from congrArg Value.int (Int32.ofInt_toInt _)] at this
theorem GL_slen (d : decode cL_law pc = .ok (.arraylength, 1)) (hL : L ≤ 2560) (kk : GL E b L xs M I J R k n (pc + 1) lv (vi (L : Int) :: st)) : GL E b L xs M I J R k n pc lv (.ref b :: st) := by
  intro p e s m args below meth cd C H locs ls hW hS hl
  obtain ⟨ha, hX, hbl, he⟩ := C.2.2.2.2.2.2.2.2.2.2
  refine va_slen C.1 C.2.1 hX hbl (A := aB E) (fun h => absurd hbl (by rw [he]; exact Nat.not_lt.mpr h)) hS d ?_
  have := kk p e s m args below meth cd C H locs ls hW hS hl
  rwa [show vi (L : Int) = Value.int (Int32.ofNat L) from congrArg Value.int Int32.ofInt_eq_ofNat] at this
theorem GL_ret1 (d : decode cL_law pc = .ok (.ireturn, 1)) : GL E b L xs M I J R 87 1929 pc lv [vi 1] := by
  intro p e s m args below meth cd C H locs ls hW hS hl
  obtain ⟨ha, hX, hbl, he⟩ := C.2.2.2.2.2.2.2.2.2.2
  subst ha
  refine va_forget (fun q hq => by rw [he]; exact hS.2.2 q hq) ?_
  rw [show vi 1 = Value.int 1 from rfl]
  exact lw_ret C.1 C.2.1 C.2.2.2.2.2.1 C.2.2.2.2.2.2.1 d
end LAWR
theorem lg_self (v : Int64) : lg_cmp v v = 0 := by
  unfold lg_cmp
  rw [if_neg (fun h => by have := Int64.lt_iff_toInt_lt.mp h; omega), if_pos rfl]
section LAWG
variable {E : EV} {rm : Room} {own : String} {cc : ByteArray} {nL : Nat} {ret : Option FieldType} {X : Method → Array Value → State → Prop} {Z : List Frame → Array Value → State → State → Prop} {M : Nat} {I J : Nat → Nat → Int} {R : Nat → Nat → Option Nat} {k n : Nat} {pc : Nat} {lv : List (Option Value)} {st : List Value}
theorem G_iand {a c : Int} (d : decode cc pc = .ok (.iand, 1)) (kk : G E rm own cc nL ret X Z M I J R k n (pc + 1) lv (vi ((Int32.ofInt a &&& Int32.ofInt c).toInt) :: st)) : G E rm own cc nL ret X Z M I J R k n pc lv (vi c :: vi a :: st) := by
  intro p e s m args below meth cd C H locs ls hW hS hl
  refine lv_iand C.1 C.2.1 d ?_
  have := kk p e s m args below meth cd C H locs ls hW hS hl
  rwa [show vi ((Int32.ofInt a &&& Int32.ofInt c).toInt) = Value.int (Int32.ofInt a &&& Int32.ofInt c) from congrArg Value.int (Int32.ofInt_toInt _)] at this
theorem G_land {a c : Int} (d : decode cc pc = .ok (.land, 1)) (kk : G E rm own cc nL ret X Z M I J R k n (pc + 1) lv (vl ((Int64.ofInt a &&& Int64.ofInt c).toInt) :: st)) : G E rm own cc nL ret X Z M I J R k n pc lv (vl c :: vl a :: st) := by
  intro p e s m args below meth cd C H locs ls hW hS hl
  refine lv_land C.1 C.2.1 d ?_
  have := kk p e s m args below meth cd C H locs ls hW hS hl
  rwa [show vl ((Int64.ofInt a &&& Int64.ofInt c).toInt) = Value.long (Int64.ofInt a &&& Int64.ofInt c) from congrArg Value.long (Int64.ofInt_toInt _)] at this
theorem G_lor {a c : Int} (d : decode cc pc = .ok (.lor, 1)) (kk : G E rm own cc nL ret X Z M I J R k n (pc + 1) lv (vl ((Int64.ofInt a ||| Int64.ofInt c).toInt) :: st)) : G E rm own cc nL ret X Z M I J R k n pc lv (vl c :: vl a :: st) := by
  intro p e s m args below meth cd C H locs ls hW hS hl
  refine lv_lor C.1 C.2.1 d ?_
  have := kk p e s m args below meth cd C H locs ls hW hS hl
  rwa [show vl ((Int64.ofInt a ||| Int64.ofInt c).toInt) = Value.long (Int64.ofInt a ||| Int64.ofInt c) from congrArg Value.long (Int64.ofInt_toInt _)] at this
theorem G_lshl {a c : Int} (d : decode cc pc = .ok (.lshl, 1)) (kk : G E rm own cc nL ret X Z M I J R k n (pc + 1) lv (vl ((Int64.ofInt a <<< ((Int32.ofInt c).toInt64 &&& 63)).toInt) :: st)) : G E rm own cc nL ret X Z M I J R k n pc lv (vi c :: vl a :: st) := by
  intro p e s m args below meth cd C H locs ls hW hS hl
  refine lv_lshl C.1 C.2.1 d rfl ?_
  have := kk p e s m args below meth cd C H locs ls hW hS hl
  rwa [show vl ((Int64.ofInt a <<< ((Int32.ofInt c).toInt64 &&& 63)).toInt) = Value.long (Int64.ofInt a <<< ((Int32.ofInt c).toInt64 &&& 63)) from congrArg Value.long (Int64.ofInt_toInt _)] at this
theorem G_same {tgt : Nat} {off a : Int} (d : decode cc pc = .ok (.if_icmp .eq off, 3)) (ht : (pc : Int) + off = (tgt : Int)) (kk : G E rm own cc nL ret X Z M I J R k n tgt lv st) : G E rm own cc nL ret X Z M I J R k n pc lv (vi a :: vi a :: st) := by
  intro p e s m args below meth cd C H locs ls hW hS hl
  exact lv_icmp_eq C.1 C.2.1 d ht (fun _ => kk p e s m args below meth cd C H locs ls hW hS hl) (fun h => absurd rfl h)
theorem G_lsame {tgt : Nat} {off a : Int} (d : decode cc pc = .ok (.lcmp, 1)) (d2 : decode cc (pc + 1) = .ok (.ifCond .eq off, 3)) (ht : ((pc + 1 : Nat) : Int) + off = (tgt : Int)) (kk : G E rm own cc nL ret X Z M I J R k n tgt lv st) : G E rm own cc nL ret X Z M I J R k n pc lv (vl a :: vl a :: st) := by
  intro p e s m args below meth cd C H locs ls hW hS hl
  refine W.lcmp C.1 C.2.1 d ?_
  rw [lg_self]
  exact lv_if_eq C.1 C.2.1 d2 ht (fun _ => kk p e s m args below meth cd C H locs ls hW hS hl) (fun h => absurd rfl h)
end LAWG
