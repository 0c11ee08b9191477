/-! MAKERS: new cells, new rows, the makers' contracts -/
def dv (t : Nat) : Value := if t = 0 then vi 0 else if t = 1 then vl 0 else .null
/-- the words of a class that is made -/
def CWd (c : Nat) (C : String) (T : u_T) (N : Nat) (ty0 : Nat → FieldType) (nf : Nat) : Prop := vwCl[c]? = some (C, T, N) ∧ Cond.instantiable C nf ∈ gtb ∧ Cond.initialized C ∈ gtb ∧ (∀ w ∈ u_ws C T N, w ∈ gtb) ∧ (∀ k, k < N → parseFieldDescriptor (T k).2.2.1 = some (ty0 k)) ∧ (ftl c).map dv = (List.range N).map (fun k => defaultValue (ty0 k))
/-- a reference of the class's own that a maker sets -/
def PRd (own : String) (idx c i : Nat) : Prop := ∀ (C : String) (T : u_T) (N : Nat) (ty0 : Nat → FieldType) (a : Addr), vwCl[c]? = some (C, T, N) → (C = own ∧ Cond.fieldLink own idx (T i).1 (T i).2.1 (T i).2.2.1 ∈ gtb) ∧ (parseFieldDescriptor (T i).2.2.1 = some (ty0 i) → narrow (ty0 i) (.ref a) = .ref a ∧ fits (ty0 i) (.ref a) = true)
theorem PRd.of {own : String} {idx c i : Nat} {C0 : String} {T0 : u_T} {N0 : Nat} {ty : FieldType} (h : vwCl[c]? = some (C0, T0, N0)) (hC : C0 = own) (hw : Cond.fieldLink own idx (T0 i).1 (T0 i).2.1 (T0 i).2.2.1 ∈ gtb) (hp : parseFieldDescriptor (T0 i).2.2.1 = some ty) (hn : ∀ a : Addr, narrow ty (.ref a) = .ref a ∧ fits ty (.ref a) = true) : PRd own idx c i := by
  intro C T N ty0 a h2
  rw [h] at h2
  cases h2
  refine ⟨⟨hC, hw⟩, fun hq => ?_⟩
  rw [hp] at hq
  rw [← Option.some.inj hq]
  exact hn a
/-- from M on all is empty -/
def RZ (R : Nat → Nat → Option Nat) (M : Nat) : Prop := ∀ x, M ≤ x → ∀ i, R x i = none
def IZ (I : Nat → Nat → Int) (M : Nat) : Prop := ∀ x, M ≤ x → ∀ i, I x i = 0
theorem RZ.up {R : Nat → Nat → Option Nat} {M M' : Nat} (h : RZ R M) (hm : M ≤ M') : RZ R M' := fun x hx => h x (by omega)
theorem IZ.up {I : Nat → Nat → Int} {M M' : Nat} (h : IZ I M) (hm : M ≤ M') : IZ I M' := fun x hx => h x (by omega)
theorem RZ.wr {R : Nat → Nat → Option Nat} {M q i : Nat} {a : Option Nat} (h : RZ R M) (hq : q < M) : RZ (wr R q i a) M := fun x hx j => by rw [wr_o (by omega)]; exact h x hx j
theorem IZ.wr {I : Nat → Nat → Int} {M q i : Nat} {a : Int} (h : IZ I M) (hq : q < M) : IZ (wr I q i a) M := fun x hx j => by rw [wr_o (by omega)]; exact h x hx j
theorem World.grown {E : EV} {M : Nat} {I J : Nat → Nat → Int} {R : Nat → Nat → Option Nat} {H H' : Heap} (h : World E M I J R H) (hz : H'.size = H.size + 1) (oq : ∀ q, q < H.size → H'[q]? = H[q]?) (hk : va_at (eD E) vwCl (eB E + M, ent E I J R M) H') : World E (M + 1) I J R H' := by
  refine ⟨by rw [hz, h.1]; rfl, fun j hj => ?_⟩
  by_cases hjk : j = M
  · subst hjk; exact hk
  · exact (h.2 j (by omega)).kept (oq _ (by rw [h.1]; show eB E + j < eB E + M; omega))
theorem va_S.more {A : Nat → Prop} {H0 H H1 : Heap} {locs : List Loc} (h : va_S A H0 H locs) (z : H1.size = H.size + 1) (oq : ∀ q : Nat, q < H.size → H1[q]? = H[q]?) : va_S A H0 H1 locs := ⟨by have := h.1; omega, fun q h1 h2 => by rw [oq q (Nat.lt_of_lt_of_le h1 h.1)]; exact h.2.1 q h1 h2, h.2.2⟩
theorem fvs_zero {b0 : Nat} {I J : Nat → Nat → Int} {R : Nat → Nat → Option Nat} {k : Nat} (hI : ∀ i, I k i = 0) (hJ : ∀ i, J k i = 0) (hR : ∀ i, R k i = none) : ∀ (l : List Nat) (i : Nat), fvs b0 I J R k l i = l.map dv
  | [], _ => rfl
  | t :: ts, i => by
    rw [fvs, fvs_zero hI hJ hR ts (i + 1), List.map_cons]
    congr 1
    unfold fvv dv
    split
    · rw [hI]; rfl
    · rw [hJ]; rfl
    · rename_i h0 h1
      rw [hR, if_neg (fun z => h0 z), if_neg (fun z => h1 z)]; rfl
section MAKE
variable {E : EV} {rm : Room} {own : String} {cc : ByteArray} {nL : Nat} {ret : Option FieldType} {X : Method → Array Value → State → Prop} {Z : List Frame → Array Value → State → State → Prop} {M : Nat} {I J : Nat → Nat → Int} {R : Nat → Nat → Option Nat} {k n : Nat} {pc : Nat} {lv : List (Option Value)} {st : List Value}
theorem G_new {idx c : Nat} {C : String} {T : u_T} {N nf : Nat} {ty0 : Nat → FieldType} (d : decode cc pc = .ok (.new idx, 3)) (w1 : Cond.classLink own idx C ∈ gtb) (hw : CWd c C T N ty0 nf) (hs : shp M = .inl c) (hI : IZ I M) (hJ : IZ J M) (hR : RZ R M) (hcs : k + 1 ≤ rm.cells ∧ n + nf ≤ rm.slots) (kk : G E rm own cc nL ret X Z (M + 1) I J R (k + 1) (n + nf) (pc + 3) lv (vr E M :: st)) : G E rm own cc nL ret X Z M I J R k n pc lv st := by
  intro p e s m args below meth cd CC H locs ls hW hS hl
  obtain ⟨hc, w2, w3, hin, hty, hdef⟩ := hw
  have hts := CC.2.2.2.2.1
  have hK := CC.2.2.2.2.2.2.2.1
  have hKn := hK.1 c _ hc
  refine W.newcK CC.1 CC.2.1 CC.2.2.2.1 (hts _ w1) (hts _ w2) (hts _ w3) rfl d hcs.1 hcs.2 hKn.2.1 (h := H.size) rfl fun H' kC hkC hcell hz oq => ?_
  rw [hW.1]
  refine kk p e s m args below meth cd CC H' locs ls (hW.grown (hz.trans rfl) oq ?_) (hS.more hz oq) hl
  rw [show ent E I J R M = .inr (c, (ftl c).map dv) by unfold ent; rw [hs]; simp only [fvs_zero (hI M (Nat.le_refl _)) (hJ M (Nat.le_refl _)) (hR M (Nat.le_refl _))]]
  refine ⟨_, hc, t_OB.to (u_born ty0 hts hin hKn hkC (by rw [← hW.1]; exact hcell) hty) fun j hj => ?_⟩
  show _ = ((ftl c).map dv).getD j .null
  rw [hdef, List.getD_eq_getElem?_getD, List.getElem?_map, List.getElem?_range hj]
  rfl
theorem G_newarr {t z : Nat} {ty : FieldType} {aty : ArrayType} {a : Int} (d : decode cc pc = .ok (.newarray aty, 2)) (hta : newarray.typeOf aty = ty) (w1 : Cond.arrayClass ty ∈ gtb) (hT : (tysE E)[t]? = some (eA E t, ty)) (hRA : ∀ (U : State), va_RA U (eA E t) ty → U.vm.findClass ("[" ++ ty.toString) = some (eA E t)) (hb : z * componentBytes ty ≤ 536870912) (hs : shp M = .inr (t, z)) (ha : a = z) (hz : z < 2147483648) (hdv : vp_cell (eA E t) (z, if t = 1 then .inr (.inl (fun _ => Int64.ofInt 0)) else .inl (fun _ => Int32.ofInt 0)) = arrV (eA E t) z (fun _ => defaultValue ty)) (hI : IZ I M) (hJ : IZ J M) (hcs : k + 1 ≤ rm.cells ∧ n + z ≤ rm.slots) (kk : G E rm own cc nL ret X Z (M + 1) I J R (k + 1) (n + z) (pc + 2) lv (vr E M :: st)) : G E rm own cc nL ret X Z M I J R k n pc lv (vi a :: st) := by
  intro p e s m args below meth cd CC H locs ls hW hS hl
  have hts := CC.2.2.2.2.1
  have hK := CC.2.2.2.2.2.2.2.1
  subst hta
  refine va_newaK CC.1 CC.2.1 (hts _ w1) rfl d (n := Int32.ofInt a) (N := z) (rest := st) rfl ?_ ?_ hb hcs.1 hcs.2 (h := H.size) rfl fun H' cA hcell hsz oq hArr hfc => ?_
  · rw [show (0 : Int32) = Int32.ofInt 0 from rfl, i_lt (Ri.mk (by omega) (by omega)) Ri0]; omega
  · rw [ix_cl (by omega) (by omega), ha, Int.toNat_natCast]
  rw [hW.1]
  have hcA : cA = eA E t := Option.some.inj (hfc.symm.trans (hRA s (hK.2 t _ hT).2))
  refine kk p e s m args below meth cd CC H' locs ls (hW.grown (hsz.trans rfl) oq ?_) (hS.more hsz oq) hl
  have e0 : (fun i => Int32.ofInt (I M i)) = fun _ => Int32.ofInt 0 := by funext i; rw [hI M (Nat.le_refl _)]
  have e1 : (fun i => Int64.ofInt (J M i)) = fun _ => Int64.ofInt 0 := by funext i; rw [hJ M (Nat.le_refl _)]
  rw [show ent E I J R M = .inl (eA E t, z, if t = 1 then .inr (.inl (fun _ => Int64.ofInt 0)) else .inl (fun _ => Int32.ofInt 0)) by unfold ent; rw [hs]; simp only [entA, e0, e1]]
  show H'[eB E + M]? = some (vp_cell _ _)
  rw [hdv, ← hcA, ← hW.1]
  exact hcell
theorem G_newi {z : Nat} {a : Int} (d : decode cc pc = .ok (.newarray .int, 2)) (w1 : Cond.arrayClass .int ∈ gtb) (hb : z ≤ 1000) (hs : shp M = .inr (0, z)) (ha : a = z) (hI : IZ I M) (hJ : IZ J M) (hcs : k + 1 ≤ rm.cells ∧ n + z ≤ rm.slots) (kk : G E rm own cc nL ret X Z (M + 1) I J R (k + 1) (n + z) (pc + 2) lv (vr E M :: st)) : G E rm own cc nL ret X Z M I J R k n pc lv (vi a :: st) :=
  G_newarr (t := 0) (ty := .int) d rfl w1 rfl (fun U h => h) (by show z * 4 ≤ _; omega) hs ha (by omega) rfl hI hJ hcs kk
theorem G_newl {z : Nat} {a : Int} (d : decode cc pc = .ok (.newarray .long, 2)) (w1 : Cond.arrayClass .long ∈ gtb) (hb : z ≤ 1000) (hs : shp M = .inr (1, z)) (ha : a = z) (hI : IZ I M) (hJ : IZ J M) (hcs : k + 1 ≤ rm.cells ∧ n + z ≤ rm.slots) (kk : G E rm own cc nL ret X Z (M + 1) I J R (k + 1) (n + z) (pc + 2) lv (vr E M :: st)) : G E rm own cc nL ret X Z M I J R k n pc lv (vi a :: st) :=
  G_newarr (t := 1) (ty := .long) d rfl w1 rfl (fun U h => h) (by show z * 8 ≤ _; omega) hs ha (by omega) rfl hI hJ hcs kk
theorem G_newb {z : Nat} {a : Int} (d : decode cc pc = .ok (.newarray .byte, 2)) (w1 : Cond.arrayClass .byte ∈ gtb) (hb : z ≤ 1000) (hs : shp M = .inr (2, z)) (ha : a = z) (hI : IZ I M) (hJ : IZ J M) (hcs : k + 1 ≤ rm.cells ∧ n + z ≤ rm.slots) (kk : G E rm own cc nL ret X Z (M + 1) I J R (k + 1) (n + z) (pc + 2) lv (vr E M :: st)) : G E rm own cc nL ret X Z M I J R k n pc lv (vi a :: st) :=
  G_newarr (t := 2) (ty := .byte) d rfl w1 rfl (fun U h => h) (by show z * 1 ≤ _; omega) hs ha (by omega) rfl hI hJ hcs kk
theorem G_newz {z : Nat} {a : Int} (d : decode cc pc = .ok (.newarray .boolean, 2)) (w1 : Cond.arrayClass .boolean ∈ gtb) (hb : z ≤ 1000) (hs : shp M = .inr (3, z)) (ha : a = z) (hI : IZ I M) (hJ : IZ J M) (hcs : k + 1 ≤ rm.cells ∧ n + z ≤ rm.slots) (kk : G E rm own cc nL ret X Z (M + 1) I J R (k + 1) (n + z) (pc + 2) lv (vr E M :: st)) : G E rm own cc nL ret X Z M I J R k n pc lv (vi a :: st) :=
  G_newarr (t := 3) (ty := .boolean) d rfl w1 rfl (fun U h => h) (by show z * 1 ≤ _; omega) hs ha (by omega) rfl hI hJ hcs kk
theorem G_obj {idx q : Nat} (d : decode cc pc = .ok (.invokespecial idx, 3)) (w1 : Cond.methodLink own idx Lib.objectInit ∈ gtb) (w2 : Cond.instanceMethod Lib.objectInit ∈ gtb) (w3 : Cond.code Lib.objectInit ⟨#[0xb1]⟩ 1 none ∈ gtb) (hcat : (st.map fun v => v.category).sum ≤ 8) (hroom : 1 ≤ rm.frames ∧ 20 ≤ rm.locals) (kk : G E rm own cc nL ret X Z M I J R k n (pc + 3) lv st) : G E rm own cc nL ret X Z M I J R k n pc lv (vr E q :: st) := by
  intro p e s m args below meth cd CC H locs ls hW hS hl
  have hts := CC.2.2.2.2.1
  have hr := lv_room (m := m) (pc := pc) (ls := ls) (rest := vr E q :: st) hcat
  exact W.objInit CC.1 CC.2.1 CC.2.2.2.1 (hts _ w1) (hts _ w2) (hts _ w3) rfl (hl.1.trans CC.2.2.1.symm) rfl d hroom.1 (by omega) (kk p e s m args below meth cd CC H locs ls hW hS hl)
theorem G_putr {own : String} {idx c i q j : Nat} {fin : Bool} (d : decode cc pc = .ok (.putfield idx, 3)) (hf : FI own idx c i 2 fin) (hp : PRd own idx c i) (hs : shp q = .inl c) (hq : q < M) (kk : G E rm own cc nL ret (fun meth _ _ => meth.name = "<init>") Z M I J (wr R q i (some j)) k n (pc + 3) lv st) : G E rm own cc nL ret (fun meth _ _ => meth.name = "<init>") Z M I J R k n pc lv (vr E j :: vr E q :: st) :=
  put_core (I' := I) (J' := J) (R' := wr R q i (some j)) d hf hs hq (by simp [fvv, wr, rvv]) (fun x t' hx => by unfold fvv; split <;> simp [wr, hx]) (fun _ _ => rfl) (fun _ _ => rfl) (fun x hx => wr_o hx) (fun C T N ty0 hc _ _ hty => (hp C T N ty0 _ hc).2 hty) (Or.inr fun _ _ _ h => h) kk (fun _ C T N hc => (hp C T N (fun _ => .int) 0 hc).1)
/-- what a maker does -/
def FnM (E : EV) (md : MD) (h mc ms M : Nat) (R : Nat → Nat → Option Nat) (M' : Nat) (R' : Nat → Nat → Option Nat) (av : List Value) (I J : Nat → Nat → Int) (Q : Option Value → (Nat → Nat → Int) → (Nat → Nat → Int) → Prop) : Prop :=
  Met (eL E) md.1 (mws md) (rmh h mc ms) (PC E M I J R av) (QC E M' R' Q) mc ms (aB E)
abbrev GK (E : EV) (md : MD) (h mc ms M' : Nat) (R' : Nat → Nat → Option Nat) (Q : Option Value → (Nat → Nat → Int) → (Nat → Nat → Int) → Prop) (M : Nat) (I J : Nat → Nat → Int) (R : Nat → Nat → Option Nat) (k n : Nat) (pc : Nat) (lv : List (Option Value)) (st : List Value) : Prop :=
  G E (rmh h mc ms) md.1.cls md.2.1 md.2.2.1 md.2.2.2 (fun meth _ _ => meth.name = "<init>") (ZM E M' R' Q mc ms) M I J R k n pc lv st
theorem FnM.of {E : EV} {md : MD} {h mc ms M M' : Nat} {R R' : Nat → Nat → Option Nat} {av : List Value} {I J : Nat → Nat → Int} {Q : Option Value → (Nat → Nat → Int) → (Nat → Nat → Int) → Prop} (hy : plainName md.1.cls = true) (hin : md.1.name = "<init>") (hlen : (lg_sl av).length ≤ md.2.2.1)
    (g : GK E md h mc ms M' R' Q M I J R 0 0 0 (lpad md.2.2.1 (lini av)) []) : FnM E md h mc ms M R M' R' av I J Q := by
  refine Met.ofW (cc := md.2.1) (maxL := md.2.2.1) (ret := md.2.2.2) (ws' := gtb) hy rfl ?_
  intro p e s m args below meth c s₁ B hml hv
  obtain ⟨rfl, hW, hK, hN⟩ := hv
  have hts := atoms_spec (ws := mws md) B.pre
  have hl := lv_entry av (n := md.2.2.1) hlen
  rw [lg_entry_eq]
  refine g p e s m _ below meth c ⟨B.exec, B.bytes, hml, findClass_of_methodNamed B.named, fun w hw => hts w (List.mem_cons_of_mem _ hw), B.returns, B.notSynchronized, hK, by rw [hW.1]; exact Nat.le_add_right _ _, hN, (name_of_methodNamed B.named B.method).1.trans hin⟩ s.heap [] _ hW va_S.rf ?_
  refine LH.of hl fun j w hj => ?_
  have := lini_mem av 0 j w (lget_lpad _ _ _ _ hj)
  rwa [Nat.zero_add] at this
theorem callM_mk {md : MD} {h N idx mc ms : Nat} {args : Array Value} {s : State} {rm0 : Room} (hts : ∀ w ∈ gtb, w.before args s = true) (hw : MW md N) (hl : (Cond.methodLink own idx md.1).before args s = true) (hroom : h + 1 ≤ rm0.frames ∧ 8 + (md.2.2.1 + 11) + 36 * h ≤ rm0.locals) : CallB rm0 s args own idx md.1 md.2.1 md.2.2.1 md.2.2.2 (mws md) (rmh h mc ms) mc ms N := by
  obtain ⟨h1, h2, h3, h4⟩ := hw
  refine ⟨rfl, rfl, hroom.1, hroom.2, pay_tbl hts (fun w hw => ?_), List.mem_cons_self, hts _ h1, hts _ h2, h3, fun sig hs => ?_, hl⟩
  · rcases List.mem_cons.mp hw with h | h
    · rw [h]; exact h1
    · exact h
  · rw [hs] at h4; exact (Option.some.inj h4).symm
theorem callMN_mk {md : MD} {h N idx mc ms : Nat} {host : String} {args : Array Value} {s : State} {rm0 : Room} (hts : ∀ w ∈ gtb, w.before args s = true) (hw : MW md N) (hl : (Cond.methodLinkNest own idx md.1 host).before args s = true) (hroom : h + 1 ≤ rm0.frames ∧ 8 + (md.2.2.1 + 11) + 36 * h ≤ rm0.locals) : va_CN rm0 s args own idx md.1 host md.2.1 md.2.2.1 md.2.2.2 (mws md) (rmh h mc ms) mc ms N := by
  obtain ⟨h1, h2, h3, h4⟩ := hw
  refine ⟨⟨rfl, rfl, hroom.1, hroom.2, pay_tbl hts (fun w hw => ?_), List.mem_cons_self⟩, hts _ h1, hts _ h2, h3, fun sig hs => ?_, hl⟩
  · rcases List.mem_cons.mp hw with h | h
    · rw [h]; exact h1
    · exact h
  · rw [hs] at h4; exact (Option.some.inj h4).symm
theorem G_callI {md : MD} {h N idx q0 mc ms M' : Nat} {R' : Nat → Nat → Option Nat} {av rest : List Value} {Q : Option Value → (Nat → Nat → Int) → (Nat → Nat → Int) → Prop} (d : decode cc pc = .ok (.invokespecial idx, 3)) (hlk : LK own idx md.1) (hw : MW md N ∧ Cond.instanceMethod md.1 ∈ gtb) (hin : md.1.name = "<init>") (hret : md.2.2.2 = none) (hF : FnM E md h mc ms M R M' R' (vr E q0 :: av) I J Q) (hav : av.length = N) (hst : st = av.reverse ++ vr E q0 :: rest) (hcat : (rest.map fun v => v.category).sum ≤ 8) (hroom : h + 1 ≤ rm.frames ∧ 8 + (md.2.2.1 + 11) + 36 * h ≤ rm.locals) (hcs : k + mc ≤ rm.cells ∧ n + ms ≤ rm.slots)
    (kk : ∀ (v : Option Value) (I' J' : Nat → Nat → Int), Q v I' J' → G E rm own cc nL ret X Z M' I' J' R' (k + mc) (n + ms) (pc + 3) lv (v.toList ++ rest)) : G E rm own cc nL ret X Z M I J R k n pc lv st := by
  intro p e s m args below meth cd C H locs ls hW hS hl
  have hts := C.2.2.2.2.1
  have hK := C.2.2.2.2.2.2.2.1
  have hpre : PreS s H (PC E M I J R (vr E q0 :: av)) (vr E q0 :: av) := preS_of hW hK C.2.2.2.2.2.2.2.2.2.1
  have hfix : CallFix p m cd cc nL s args gtb own := ⟨C.1, C.2.1, C.2.2.1, C.2.2.2.1, hts⟩
  refine call_go (rest := rest) (mc := mc) (ms := ms) (Q := Q) (a := (vr E q0 :: av).toArray) ?_ hS (fun v I' J' H1 locs1 hqv hW1 hS1 => kk v I' J' hqv p e s m args below meth cd C H1 locs1 ls hW1 hS1 hl)
  rcases hlk with hlk | ⟨host, hlk⟩
  · have hB := callM_mk (mc := mc) (ms := ms) hts hw.1 (hts _ hlk) hroom
    rw [hret] at hB
    exact va_runI hfix hF ⟨hB, hin, hts _ hw.2⟩ hpre rfl hav hl.1 hst (lv_room hcat) d hcs
  · have hB := callMN_mk (mc := mc) (ms := ms) hts hw.1 (C.2.2.2.2.2.2.2.2.2.1.use hlk) hroom
    rw [hret] at hB
    exact va_runIN hfix hF ⟨hB, hin, hts _ hw.2⟩ hpre rfl hav hl.1 hst (lv_room hcat) d hcs
/-- another picture of the same references -/
theorem ent_R {E : EV} {I J : Nat → Nat → Int} {R R' : Nat → Nat → Option Nat} {k : Nat} (h : ∀ i, i < 30 → R' k i = R k i) (hl : ∀ c, shp k = .inl c → (ftl c).length ≤ 30) : ent E I J R' k = ent E I J R k := by
  have key : ∀ (l : List Nat) (i : Nat), i + l.length ≤ 30 → fvs (eB E) I J R' k l i = fvs (eB E) I J R k l i := by
    intro l
    induction l with
    | nil => intro i _; rfl
    | cons t ts ih =>
      intro i hi
      simp only [List.length_cons] at hi
      simp only [fvs, ih (i + 1) (by omega)]
      congr 1
      unfold fvv
      split <;> simp [h i (by omega)]
  unfold ent
  cases hq : shp k with
  | inl c => show Sum.inr (c, fvs (eB E) I J R' k (ftl c) 0) = Sum.inr (c, fvs (eB E) I J R k (ftl c) 0); rw [show fvs (eB E) I J R' k (ftl c) 0 = fvs (eB E) I J R k (ftl c) 0 from key _ 0 (by have := hl c hq; omega)]
  | inr q => simp only [entA]
theorem ftl_len (c : Nat) : (ftl c).length ≤ 30 := by
  rcases Nat.lt_or_ge c 12 with h | h
  · have key : ∀ c, c < 12 → (ftl c).length ≤ 30 := by decide
    exact key c h
  · unfold ftl
    rw [List.getD_eq_getElem?_getD, List.getElem?_eq_none (by show 12 ≤ c; exact h)]
    exact Nat.zero_le _
theorem G_world {R' : Nat → Nat → Option Nat} (hR : ∀ q, q < M → ∀ i, i < 30 → R' q i = R q i) (kk : G E rm own cc nL ret X Z M I J R' k n pc lv st) : G E rm own cc nL ret X Z M I J R k n pc lv st := by
  intro p e s m args below meth cd CC H locs ls hW hS hl'
  refine kk p e s m args below meth cd CC H locs ls ⟨hW.1, fun q hq => ?_⟩ hS hl'
  rw [ent_R (hR q hq) fun c _ => ftl_len c]
  exact hW.2 q hq
end MAKE
