/-! CORE: one judgement G for all methods: the world is the cells that the two constructors make, in the order of their making; numbers are whole numbers. -/
abbrev EV : Type := Launch × Nat × va_G × (Nat → ClassId)
abbrev eL (E : EV) : Launch := E.1
abbrev eB (E : EV) : Nat := E.2.1
abbrev eD (E : EV) : va_G := E.2.2.1
abbrev eA (E : EV) : Nat → ClassId := E.2.2.2
abbrev tysE (E : EV) : List (ClassId × FieldType) := [(eA E 0, .int), (eA E 1, .long), (eA E 2, .byte), (eA E 3, .boolean)]
abbrev vi (a : Int) : Value := .int (Int32.ofInt a)
abbrev vl (a : Int) : Value := .long (Int64.ofInt a)
abbrev vr (E : EV) (k : Nat) : Value := .ref (eB E + k)
def rvv (b0 : Nat) (r : Option Nat) : Value := match r with
  | none => .null
  | some j => .ref (b0 + j)
def fvv (b0 : Nat) (I J : Nat → Nat → Int) (R : Nat → Nat → Option Nat) (k i t : Nat) : Value := match t with
  | 0 => vi (I k i)
  | 1 => vl (J k i)
  | _ => rvv b0 (R k i)
def fvs (b0 : Nat) (I J : Nat → Nat → Int) (R : Nat → Nat → Option Nat) (k : Nat) : List Nat → Nat → List Value
  | [], _ => []
  | t :: ts, i => fvv b0 I J R k i t :: fvs b0 I J R k ts (i + 1)
def entA (E : EV) (I J : Nat → Nat → Int) (k : Nat) (q : Nat × Nat) : va_E := .inl (eA E q.1, q.2, if q.1 = 1 then .inr (.inl (fun i => Int64.ofInt (J k i))) else .inl (fun i => Int32.ofInt (I k i)))
def ent (E : EV) (I J : Nat → Nat → Int) (R : Nat → Nat → Option Nat) (k : Nat) : va_E := match shp k with
  | .inl c => .inr (c, fvs (eB E) I J R k (ftl c) 0)
  | .inr q => entA E I J k q
def World (E : EV) (M : Nat) (I J : Nat → Nat → Int) (R : Nat → Nat → Option Nat) (H : Heap) : Prop := H.size = eB E + M ∧ ∀ k, k < M → va_at (eD E) vwCl (eB E + k, ent E I J R k) H
theorem fvs_len (b0 : Nat) (I J : Nat → Nat → Int) (R : Nat → Nat → Option Nat) (k : Nat) : ∀ (l : List Nat) (i : Nat), (fvs b0 I J R k l i).length = l.length
  | [], _ => rfl
  | _ :: ts, i => by simp [fvs, fvs_len b0 I J R k ts (i + 1)]
theorem fvs_get (b0 : Nat) (I J : Nat → Nat → Int) (R : Nat → Nat → Option Nat) (k : Nat) : ∀ (l : List Nat) (i j : Nat), (fvs b0 I J R k l i)[j]? = l[j]?.map (fun t => fvv b0 I J R k (i + j) t)
  | [], _, _ => by simp [fvs]
  | t :: ts, i, 0 => by simp [fvs]
  | t :: ts, i, j + 1 => by
    simp only [fvs, List.getElem?_cons_succ]
    rw [fvs_get b0 I J R k ts (i + 1) j, show i + 1 + j = i + (j + 1) by omega]
/-- the same cells, one apart -/
theorem ent_off {E : EV} {I J I' J' : Nat → Nat → Int} {R R' : Nat → Nat → Option Nat} {k : Nat} (hI : I' k = I k) (hJ : J' k = J k) (hR : R' k = R k) : ent E I' J' R' k = ent E I J R k := by
  have key : ∀ (l : List Nat) (i : Nat), fvs (eB E) I' J' R' k l i = fvs (eB E) I J R k l i := by
    intro l
    induction l with
    | nil => intro i; rfl
    | cons t ts ih =>
      intro i
      simp only [fvs, ih (i + 1)]
      congr 1
      unfold fvv
      split <;> simp [hI, hJ, hR]
  unfold ent
  cases shp k with
  | inl c => simp only [key]
  | inr q => simp only [entA, hI, hJ]
theorem World.moved {E : EV} {M k : Nat} {I J I' J' : Nat → Nat → Int} {R R' : Nat → Nat → Option Nat} {H H1 : Heap} (h : World E M I J R H) (hz : H1.size = H.size) (oq : ∀ q, q ≠ eB E + k → H1[q]? = H[q]?) (hI : ∀ j, j ≠ k → I' j = I j) (hJ : ∀ j, j ≠ k → J' j = J j) (hR : ∀ j, j ≠ k → R' j = R j) (hk : va_at (eD E) vwCl (eB E + k, ent E I' J' R' k) H1) : World E M I' J' R' H1 := by
  refine ⟨hz.trans h.1, fun j hj => ?_⟩
  by_cases hjk : j = k
  · subst hjk; exact hk
  · rw [ent_off (hI j hjk) (hJ j hjk) (hR j hjk)]
    exact (h.2 j hj).kept (oq _ (by intro z; exact hjk (by have : eB E + j = eB E + k := z; omega)))
/-! locals by their places -/
def lget : List (Option Value) → Nat → Option Value
  | [], _ => none
  | x :: _, 0 => x
  | _ :: t, n + 1 => lget t n
def lk1 (x : Option Value) : Option Value := match x with
  | some w => if w.category = 2 then none else some w
  | none => none
def lset : List (Option Value) → Nat → Value → List (Option Value)
  | [], _, _ => []
  | _ :: t, 0, v => some v :: t
  | [_], 1, _ => []
  | x :: _ :: t, 1, v => lk1 x :: some v :: t
  | x :: t, n + 2, v => x :: lset t (n + 1) v
def lkill : List (Option Value) → Nat → List (Option Value)
  | [], _ => []
  | _ :: t, 0 => none :: t
  | x :: t, n + 1 => x :: lkill t n
def lasc : Nat → List (Option Value) → List (Nat × Value)
  | _, [] => []
  | i, none :: t => lasc (i + 1) t
  | i, some v :: t => (i, v) :: lasc (i + 1) t
theorem lasc_mem : ∀ (l : List (Option Value)) (i j : Nat) (w : Value), (j, w) ∈ lasc i l ↔ i ≤ j ∧ lget l (j - i) = some w
  | [], i, j, w => by simp [lasc, lget]
  | none :: t, i, j, w => by
    rw [lasc, lasc_mem t (i + 1) j w]
    constructor
    · rintro ⟨h1, h2⟩
      refine ⟨by omega, ?_⟩
      rw [show j - i = (j - (i + 1)) + 1 by omega]; exact h2
    · rintro ⟨h1, h2⟩
      rcases Nat.eq_or_lt_of_le h1 with h | h
      · subst h; simp [lget] at h2
      · refine ⟨h, ?_⟩
        rw [show j - i = (j - (i + 1)) + 1 by omega] at h2; exact h2
  | some v :: t, i, j, w => by
    rw [lasc, List.mem_cons, lasc_mem t (i + 1) j w]
    constructor
    · rintro (h | ⟨h1, h2⟩)
      · cases h; simp [lget]
      · refine ⟨by omega, ?_⟩
        rw [show j - i = (j - (i + 1)) + 1 by omega]; exact h2
    · rintro ⟨h1, h2⟩
      rcases Nat.eq_or_lt_of_le h1 with h | h
      · subst h; simp [lget] at h2; left; rw [h2]
      · right; refine ⟨h, ?_⟩
        rw [show j - i = (j - (i + 1)) + 1 by omega] at h2; exact h2
theorem lget_lset : ∀ (l : List (Option Value)) (i j : Nat) (v w : Value), lget (lset l i v) j = some w → (j = i ∧ w = v) ∨ (j ≠ i ∧ lget l j = some w ∧ ¬ (j + 1 = i ∧ w.category = 2))
  | [], i, j, v, w, h => by simp [lset, lget] at h
  | x :: t, 0, 0, v, w, h => by simp [lset, lget] at h; left; exact ⟨rfl, h.symm⟩
  | x :: t, 0, j + 1, v, w, h => by simp only [lset, lget] at h ⊢; right; exact ⟨by omega, h, by omega⟩
  | [x], 1, j, v, w, h => by simp [lset, lget] at h
  | x :: y :: t, 1, 0, v, w, h => by
    simp only [lset, lget, lk1] at h ⊢
    right
    cases x with
    | none => simp at h
    | some u =>
      simp only at h
      split at h
      · cases h
      · rename_i hu; cases h; exact ⟨by omega, rfl, fun z => hu z.2⟩
  | x :: y :: t, 1, 1, v, w, h => by simp [lset, lget] at h; left; exact ⟨rfl, h.symm⟩
  | x :: y :: t, 1, j + 2, v, w, h => by simp only [lset, lget] at h ⊢; right; exact ⟨by omega, h, by omega⟩
  | x :: t, n + 2, 0, v, w, h => by simp only [lset, lget] at h ⊢; right; exact ⟨by omega, h, by omega⟩
  | x :: t, n + 2, j + 1, v, w, h => by
    simp only [lset, lget] at h ⊢
    rcases lget_lset t (n + 1) j v w h with ⟨h1, h2⟩ | ⟨h1, h2, h3⟩
    · left; exact ⟨by omega, h2⟩
    · right; exact ⟨by omega, h2, fun z => h3 ⟨by omega, z.2⟩⟩
theorem lget_lkill : ∀ (l : List (Option Value)) (i j : Nat) (w : Value), lget (lkill l i) j = some w → j ≠ i ∧ lget l j = some w
  | [], i, j, w, h => by simp [lkill, lget] at h
  | x :: t, 0, 0, w, h => by simp [lkill, lget] at h
  | x :: t, 0, j + 1, w, h => by simp only [lkill, lget] at h ⊢; exact ⟨by omega, h⟩
  | x :: t, i + 1, 0, w, h => by simp only [lkill, lget] at h ⊢; exact ⟨by omega, h⟩
  | x :: t, i + 1, j + 1, w, h => by
    simp only [lkill, lget] at h ⊢
    have := lget_lkill t i j w h
    exact ⟨by omega, this.2⟩
def LH (ls : Array Slot) (nL : Nat) (lv : List (Option Value)) : Prop := ls.size = nL ∧ lv_wf ls ∧ ∀ (j : Nat) (w : Value), lget lv j = some w → ls[j]? = some (.val w)
theorem LH.has {ls : Array Slot} {nL : Nat} {lv : List (Option Value)} (h : LH ls nL lv) : lv_has ls nL (lasc 0 lv) := ⟨h.1, h.2.1, fun q hq => by
  have := (lasc_mem lv 0 q.1 q.2).mp hq
  exact h.2.2 _ _ this.2⟩
theorem LH.of {ls : Array Slot} {nL : Nat} {lv : List (Option Value)} {l : List (Nat × Value)} (h : lv_has ls nL l) (hm : ∀ (j : Nat) (w : Value), lget lv j = some w → (j, w) ∈ l) : LH ls nL lv := ⟨h.1, h.2.1, fun j w hj => h.2.2 (j, w) (hm j w hj)⟩
theorem LH.seti {ls : Array Slot} {nL i : Nat} {v : Value} {lv lv' : List (Option Value)} (hv : lset lv i v = lv') (h : lv_has ls nL ((i, v) :: (lasc 0 lv).filter (fun q => !(q.1 == i) && !(q.1 + 1 == i && q.2.category == 2)))) : LH ls nL lv' := by
  subst hv
  refine LH.of h fun j w hj => ?_
  rcases lget_lset _ _ _ _ _ hj with ⟨h1, h2⟩ | ⟨h1, h2, h3⟩
  · subst h1; subst h2; exact List.mem_cons_self
  · refine List.mem_cons_of_mem _ (List.mem_filter.mpr ⟨(lasc_mem lv 0 j w).mpr ⟨Nat.zero_le _, h2⟩, ?_⟩)
    simp only [Bool.and_eq_true, Bool.not_eq_true', beq_eq_false_iff_ne, ne_eq, Bool.and_eq_false_iff]
    refine ⟨h1, ?_⟩
    by_cases hj1 : j + 1 = i
    · right; intro z; exact h3 ⟨hj1, z⟩
    · left; exact hj1
theorem LH.setl {ls : Array Slot} {nL i : Nat} {v : Value} {lv lv' : List (Option Value)} (hv : lkill (lset lv i v) (i + 1) = lv') (h : lv_has ls nL ((i, v) :: (lasc 0 lv).filter (fun q => !(q.1 == i) && (!(q.1 == i + 1) && !(q.1 + 1 == i && q.2.category == 2))))) : LH ls nL lv' := by
  subst hv
  refine LH.of h fun j w hj => ?_
  obtain ⟨h0, hj⟩ := lget_lkill _ _ _ _ hj
  rcases lget_lset _ _ _ _ _ hj with ⟨h1, h2⟩ | ⟨h1, h2, h3⟩
  · subst h1; subst h2; exact List.mem_cons_self
  · refine List.mem_cons_of_mem _ (List.mem_filter.mpr ⟨(lasc_mem lv 0 j w).mpr ⟨Nat.zero_le _, h2⟩, ?_⟩)
    simp only [Bool.and_eq_true, Bool.not_eq_true', beq_eq_false_iff_ne, ne_eq, Bool.and_eq_false_iff]
    refine ⟨h1, h0, ?_⟩
    by_cases hj1 : j + 1 = i
    · right; intro z; exact h3 ⟨hj1, z⟩
    · left; exact hj1
/-- the locals at a method's entry -/
def lini : List Value → List (Option Value)
  | [] => []
  | v :: t => if v.category = 2 then some v :: none :: lini t else some v :: lini t
def lpad : Nat → List (Option Value) → List (Option Value)
  | 0, _ => []
  | n + 1, [] => none :: lpad n []
  | n + 1, x :: t => x :: lpad n t
theorem lget_lpad : ∀ (n : Nat) (l : List (Option Value)) (j : Nat) (w : Value), lget (lpad n l) j = some w → lget l j = some w
  | 0, l, j, w, h => by simp [lpad, lget] at h
  | n + 1, [], 0, w, h => by simp [lpad, lget] at h
  | n + 1, [], j + 1, w, h => by
    simp only [lpad, lget] at h
    have := lget_lpad n [] j w h
    simp [lget] at this
  | n + 1, x :: t, 0, w, h => by simpa [lpad, lget] using h
  | n + 1, x :: t, j + 1, w, h => by
    simp only [lpad, lget] at h ⊢
    exact lget_lpad n t j w h

theorem lini_mem : ∀ (vs : List Value) (i j : Nat) (w : Value), lget (lini vs) j = some w → (i + j, w) ∈ lv_args i vs
  | [], i, j, w, h => by simp [lini, lget] at h
  | v :: t, i, j, w, h => by
    rw [lv_args]
    by_cases hc : v.category = 2
    · rw [if_pos hc]
      rw [lini, if_pos hc] at h
      match j, h with
      | 0, h => simp only [lget] at h; cases h; exact List.mem_cons_self
      | 1, h => simp [lget] at h
      | j + 2, h =>
        simp only [lget] at h
        have := lini_mem t (i + 2) j w h
        rw [show i + (j + 2) = i + 2 + j by omega]
        exact List.mem_cons_of_mem _ this
    · rw [if_neg hc]
      rw [lini, if_neg hc] at h
      match j, h with
      | 0, h => simp only [lget] at h; cases h; exact List.mem_cons_self
      | j + 1, h =>
        simp only [lget] at h
        have := lini_mem t (i + 1) j w h
        rw [show i + (j + 1) = i + 1 + j by omega]
        exact List.mem_cons_of_mem _ this
/-! numbers -/
def Ri (a : Int) : Prop := Int32.minValue.toInt ≤ a ∧ a ≤ Int32.maxValue.toInt
def Rl (a : Int) : Prop := Int64.minValue.toInt ≤ a ∧ a ≤ Int64.maxValue.toInt
theorem Ri.mk {a : Int} (h1 : -2147483648 ≤ a) (h2 : a ≤ 2147483647) : Ri a := ⟨h1, h2⟩
theorem Rl.mk {a : Int} (h1 : -9223372036854775808 ≤ a) (h2 : a ≤ 9223372036854775807) : Rl a := ⟨h1, h2⟩
theorem Ri.lo {a : Int} (h : Ri a) : -2147483648 ≤ a := h.1
theorem Ri.hi {a : Int} (h : Ri a) : a ≤ 2147483647 := h.2
theorem Rl.lo {a : Int} (h : Rl a) : -9223372036854775808 ≤ a := h.1
theorem Rl.hi {a : Int} (h : Rl a) : a ≤ 9223372036854775807 := h.2
theorem Ri_toInt (x : Int32) : Ri x.toInt := by
  have h1 := Int32.le_toInt x
  have h2 := Int32.toInt_lt x
  exact Ri.mk (by omega) (by omega)
theorem Rl_toInt (x : Int64) : Rl x.toInt := by
  have h1 := Int64.le_toInt x
  have h2 := Int64.toInt_lt x
  exact Rl.mk (by omega) (by omega)
theorem Ri0 : Ri 0 := Ri.mk (by decide) (by decide)
theorem i_toInt {a : Int} (h : Ri a) : (Int32.ofInt a).toInt = a := Int32.toInt_ofInt_of_le h.lo (by have := h.hi; omega)
theorem l_toInt {a : Int} (h : Rl a) : (Int64.ofInt a).toInt = a := Int64.toInt_ofInt_of_le h.lo (by have := h.hi; omega)
theorem i_eq {a b : Int} (ha : Ri a) (hb : Ri b) : Int32.ofInt a = Int32.ofInt b ↔ a = b := ⟨fun h => by rw [← i_toInt ha, h, i_toInt hb], fun h => by rw [h]⟩
theorem i_lt {a b : Int} (ha : Ri a) (hb : Ri b) : Int32.ofInt a < Int32.ofInt b ↔ a < b := Int32.ofInt_lt_iff_lt ha.1 ha.2 hb.1 hb.2
theorem i_le {a b : Int} (ha : Ri a) (hb : Ri b) : Int32.ofInt a ≤ Int32.ofInt b ↔ a ≤ b := Int32.ofInt_le_iff_le ha.1 ha.2 hb.1 hb.2
theorem l_eq {a b : Int} (ha : Rl a) (hb : Rl b) : Int64.ofInt a = Int64.ofInt b ↔ a = b := ⟨fun h => by rw [← l_toInt ha, h, l_toInt hb], fun h => by rw [h]⟩
theorem l_lt {a b : Int} (ha : Rl a) (hb : Rl b) : Int64.ofInt a < Int64.ofInt b ↔ a < b := Int64.ofInt_lt_iff_lt ha.1 ha.2 hb.1 hb.2
theorem i_ne0 {b : Int} (hb : Ri b) (h : b ≠ 0) : ¬ Int32.ofInt b = 0 := fun z => h ((i_eq hb Ri0).mp z)
theorem l_ne0 {b : Int} (hb : Rl b) (h : b ≠ 0) : ¬ Int64.ofInt b = 0 := fun z => h ((l_eq hb (Rl.mk (by decide) (by decide))).mp z)
theorem i8_i32 {a : Int} (h : -128 ≤ a ∧ a ≤ 127) : (Int8.ofInt a).toInt32 = Int32.ofInt a := by
  apply Int32.toInt.inj
  rw [Int8.toInt_toInt32, Int8.toInt_ofInt_of_le (by omega) (by omega), Int32.toInt_ofInt_of_le (by omega) (by omega)]
theorem i16_i32 {a : Int} (h : -32768 ≤ a ∧ a ≤ 32767) : (Int16.ofInt a).toInt32 = Int32.ofInt a := by
  apply Int32.toInt.inj
  rw [Int16.toInt_toInt32, Int16.toInt_ofInt_of_le (by omega) (by omega), Int32.toInt_ofInt_of_le (by omega) (by omega)]
theorem l_ofNat (n : Nat) : Int64.ofNat n = Int64.ofInt (n : Int) := Int64.ofInt_eq_ofNat.symm
theorem tmod_eq (a b : Int) : a.tmod b = a - a.tdiv b * b := by rw [Int.tmod_def, Int.mul_comm]
theorem i2b_eq (a : Int) : (Int32.ofInt a).toInt8.toInt32 = Int32.ofInt (a.bmod 256) := by
  apply Int32.toInt.inj
  have h1 := Int.bmod_lt (x := a) (m := 256) (by decide)
  have h2 := Int.le_bmod (x := a) (m := 256) (by decide)
  rw [Int8.toInt_toInt32, Int32.toInt_toInt8, Int32.toInt_ofInt, Int32.toInt_ofInt_of_le (by omega) (by omega)]
  exact Int.bmod_bmod_of_dvd (by decide)
/-- the words of the nest mates' private members -/
def NW (U : State) : Prop := ∀ w ∈ ntb, va_Nw w U
theorem nest_tab {w : Cond} (h : nestWord w = true) : w.onTables = true := by
  unfold nestWord at h
  split at h
  · rfl
  · rfl
  · cases h
theorem NW.same {u U : State} (h : u.vm = U.vm) (hN : NW u) : NW U := fun w hw => (hN w hw).same (nest_tab (List.mem_filter.mp hw).2) h
theorem NW.warm {s U : State} (hW : s.WarmedH U.vm) (hN : NW s) : NW U := fun w hw => by
  have h1 := (List.mem_filter.mp hw).2
  have h2 := hN w hw
  unfold nestWord at h1
  split at h1
  · exact va_Nw.warmF hW h2
  · exact va_Nw.warmM hW h2
  · cases h1
theorem NW.use {U : State} (hN : NW U) {w : Cond} (hw : w ∈ ntb) {A : Array Value} : w.before A U = true := va_Nw.use (nest_tab (List.mem_filter.mp hw).2) (hN w hw)
theorem NW.of {U : State} {A : Array Value} (h : ∀ w ∈ lw_tbl, w.before A U = true) : NW U := fun w hw => va_Nw.of (nest_tab (List.mem_filter.mp hw).2) (h w (List.mem_filter.mp hw).1)
/-- the judgement: at this place of this method, in this world, the machine comes to Z -/
def CX (E : EV) (own : String) (cc : ByteArray) (nL : Nat) (ret : Option FieldType) (X : Method → Array Value → State → Prop) (p : Program) (s : State) (m : MethodId) (args : Array Value) (meth : Method) (c : Code) : Prop :=
  p.tables.exec = Jvm.exec ∧ c.code = cc ∧ c.maxLocals = nL ∧ s.vm.findClass own = some m.cls ∧ (∀ w ∈ gtb, w.before args s = true) ∧ meth.sig.returnType = ret ∧ meth.locks = false ∧ va_K (eD E) vwCl (tysE E) s ∧ eB E ≤ s.heap.size ∧ NW s ∧ X meth args s
abbrev aB (E : EV) : Nat → Prop := fun q => eB E ≤ q
def G (E : EV) (rm : Room) (own : String) (cc : ByteArray) (nL : Nat) (ret : Option FieldType) (X : Method → Array Value → State → Prop) (Z : List Frame → Array Value → State → State → Prop) (M : Nat) (I J : Nat → Nat → Int) (R : Nat → Nat → Option Nat) (k n : Nat) (pc : Nat) (lv : List (Option Value)) (st : List Value) : Prop :=
  ∀ (p : Program) (e : Env) (s : State) (m : MethodId) (args : Array Value) (below : List Frame) (meth : Method) (c : Code), CX E own cc nL ret X p s m args meth c →
    ∀ (H : Heap) (locs : List Loc) (ls : Array Slot), World E M I J R H → va_S (aB E) s.heap H locs → LH ls nL lv → W p (eL E) e rm s m args below meth c H locs k n (Z below args s) (F0 m pc ls st)
def QC (E : EV) (M : Nat) (R : Nat → Nat → Option Nat) (Q : Option Value → (Nat → Nat → Int) → (Nat → Nat → Int) → Prop) : Array Value → State → Outcome → State → Prop := fun _ st oc t =>
  (∃ (v : Option Value) (I J : Nat → Nat → Int), oc = .returned v ∧ Q v I J ∧ World E M I J R t.heap) ∧ va_F (aB E) st t
def PC (E : EV) (M : Nat) (I J : Nat → Nat → Int) (R : Nat → Nat → Option Nat) (av : List Value) : Array Value → State → Prop := va_Pc av (fun U => World E M I J R U.heap ∧ va_K (eD E) vwCl (tysE E) U ∧ NW U)
abbrev ZM (E : EV) (M : Nat) (R : Nat → Nat → Option Nat) (Q : Option Value → (Nat → Nat → Int) → (Nat → Nat → Int) → Prop) (k n : Nat) : List Frame → Array Value → State → State → Prop := fun below args s => MQ below (QC E M R Q) args s k n (aB E)
abbrev rmh (h mc ms : Nat) : Room := { frames := h, cells := mc, slots := ms, locals := 36 * h }
abbrev mws (md : MD) : List Cond := .code md.1 md.2.1 md.2.2.1 md.2.2.2 :: gtb
/-- what a method does: from this world and these arguments it returns, with Q of its answer and of the world behind it -/
def FnQ (E : EV) (md : MD) (h M : Nat) (R : Nat → Nat → Option Nat) (av : List Value) (I J : Nat → Nat → Int) (Q : Option Value → (Nat → Nat → Int) → (Nat → Nat → Int) → Prop) : Prop :=
  Met (eL E) md.1 (mws md) (rmh h 0 0) (PC E M I J R av) (QC E M R Q) 0 0 (aB E)
/-- the judgement in a method's own body -/
abbrev GM (E : EV) (md : MD) (h M : Nat) (R : Nat → Nat → Option Nat) (Q : Option Value → (Nat → Nat → Int) → (Nat → Nat → Int) → Prop) (I J : Nat → Nat → Int) (pc : Nat) (lv : List (Option Value)) (st : List Value) : Prop :=
  G E (rmh h 0 0) md.1.cls md.2.1 md.2.2.1 md.2.2.2 (fun _ _ _ => True) (ZM E M R Q 0 0) M I J R 0 0 pc lv st
theorem FnQ.of {E : EV} {md : MD} {h M : Nat} {R : Nat → Nat → Option Nat} {av : List Value} {I J : Nat → Nat → Int} {Q : Option Value → (Nat → Nat → Int) → (Nat → Nat → Int) → Prop} (hy : plainName md.1.cls = true) (hlen : (lg_sl av).length ≤ md.2.2.1)
    (g : GM E md h M R Q I J 0 (lpad md.2.2.1 (lini av)) []) : FnQ E md h M R av I J Q := by
  refine Met.ofW (cc := md.2.1) (maxL := md.2.2.1) (ret := md.2.2.2) (ws' := gtb) hy rfl ?_
  intro p e s m args below meth c s₁ B hml hv
  obtain ⟨rfl, hW, hK, hN⟩ := hv
  have hts := atoms_spec (ws := mws md) B.pre
  have hl := lv_entry av (n := md.2.2.1) hlen
  rw [lg_entry_eq]
  refine g p e s m _ below meth c ⟨B.exec, B.bytes, hml, findClass_of_methodNamed B.named, fun w hw => hts w (List.mem_cons_of_mem _ hw), B.returns, B.notSynchronized, hK, by rw [hW.1]; exact Nat.le_add_right _ _, hN, trivial⟩ s.heap [] _ hW va_S.rf ?_
  refine LH.of hl fun j w hj => ?_
  have := lini_mem av 0 j w (lget_lpad _ _ _ _ hj)
  rwa [Nat.zero_add] at this
theorem pay_tbl {s : State} {args : Array Value} (hts : ∀ w ∈ gtb, w.before args s = true) {ws : List Cond} (h : ∀ w ∈ ws, w ∈ gtb) : ∀ w ∈ ws, ∀ (a' : Array Value) (U : State), s.WarmedH U.vm → w.before a' U = true :=
  fun w hw _ _ hW => word_at hW (lw_good w (h w hw)) (hts w (h w hw))
theorem PC.blind {E : EV} {M : Nat} {I J : Nat → Nat → Int} {R : Nat → Nat → Option Nat} {av : List Value} : FrameBlind (PC E M I J R av) := fun a U g mk q => ⟨q.1, q.2.1, va_K.moved (u := U) (U := U.calling g mk a) (Vm.Alike.refl U.vm) q.2.2.1, NW.same (u := U) (U := U.calling g mk a) rfl q.2.2.2⟩
theorem World.at {E : EV} {M : Nat} {I J : Nat → Nat → Int} {R : Nat → Nat → Option Nat} {H : Heap} (h : World E M I J R H) {k : Nat} (hk : k < M) {e : va_E} (he : ent E I J R k = e) : va_P (eD E) vwCl [(eB E + k, e)] H := by
  intro j q hj
  match j, hj with
  | 0, hj => cases hj; rw [← he]; exact h.2 k hk
  | j + 1, hj => simp at hj

section ROWS
variable {E : EV} {rm : Room} {own : String} {cc : ByteArray} {nL : Nat} {ret : Option FieldType} {X : Method → Array Value → State → Prop} {Z : List Frame → Array Value → State → State → Prop} {M : Nat} {I J : Nat → Nat → Int} {R : Nat → Nat → Option Nat} {k n : Nat} {pc : Nat} {lv : List (Option Value)} {st : List Value}
theorem G_iconst {a : Int} (d : decode cc pc = .ok (.iconst a, 1)) (kk : G E rm own cc nL ret X Z M I J R k n (pc + 1) lv (vi a :: st)) : G E rm own cc nL ret X Z M I J R k n pc lv (st) := by
  intro p e s m args below meth c C H locs ls hW hS hl
  refine lv_iconst C.1 C.2.1 d rfl ?_
  exact kk p e s m args below meth c C H locs ls hW hS hl
theorem G_bipush {a : Int} (d : decode cc pc = .ok (.bipush a, 2)) (h : -128 ≤ a ∧ a ≤ 127) (kk : G E rm own cc nL ret X Z M I J R k n (pc + 2) lv (vi a :: st)) : G E rm own cc nL ret X Z M I J R k n pc lv (st) := by
  intro p e s m args below meth c C H locs ls hW hS hl
  refine lv_bipush C.1 C.2.1 d (i8_i32 h) ?_
  exact kk p e s m args below meth c C H locs ls hW hS hl
theorem G_sipush {a : Int} (d : decode cc pc = .ok (.sipush a, 3)) (h : -32768 ≤ a ∧ a ≤ 32767) (kk : G E rm own cc nL ret X Z M I J R k n (pc + 3) lv (vi a :: st)) : G E rm own cc nL ret X Z M I J R k n pc lv (st) := by
  intro p e s m args below meth c C H locs ls hW hS hl
  refine lv_sipush C.1 C.2.1 d (i16_i32 h) ?_
  exact kk p e s m args below meth c C H locs ls hW hS hl
theorem G_lconst {a : Fin 2} (d : decode cc pc = .ok (.lconst a, 1)) (kk : G E rm own cc nL ret X Z M I J R k n (pc + 1) lv (vl ((a : Nat) : Int) :: st)) : G E rm own cc nL ret X Z M I J R k n pc lv (st) := by
  intro p e s m args below meth c C H locs ls hW hS hl
  refine lv_lconst C.1 C.2.1 d (l_ofNat _) ?_
  exact kk p e s m args below meth c C H locs ls hW hS hl
theorem G_pop {va : Value} (d : decode cc pc = .ok (.pop, 1)) (h : va.category = 1) (kk : G E rm own cc nL ret X Z M I J R k n (pc + 1) lv (st)) : G E rm own cc nL ret X Z M I J R k n pc lv (va :: st) := by
  intro p e s m args below meth c C H locs ls hW hS hl
  refine lv_pop C.1 C.2.1 d h ?_
  exact kk p e s m args below meth c C H locs ls hW hS hl
theorem G_dup {va : Value} (d : decode cc pc = .ok (.dup, 1)) (h : va.category = 1) (kk : G E rm own cc nL ret X Z M I J R k n (pc + 1) lv (va :: va :: st)) : G E rm own cc nL ret X Z M I J R k n pc lv (va :: st) := by
  intro p e s m args below meth c C H locs ls hW hS hl
  refine lv_dup C.1 C.2.1 d h ?_
  exact kk p e s m args below meth c C H locs ls hW hS hl
theorem G_dup_x1 {va vb : Value} (d : decode cc pc = .ok (.dup_x1, 1)) (h : va.category = 1) (h2 : vb.category = 1) (kk : G E rm own cc nL ret X Z M I J R k n (pc + 1) lv (va :: vb :: va :: st)) : G E rm own cc nL ret X Z M I J R k n pc lv (va :: vb :: st) := by
  intro p e s m args below meth c C H locs ls hW hS hl
  refine lv_dup_x1 C.1 C.2.1 d h h2 ?_
  exact kk p e s m args below meth c C H locs ls hW hS hl
theorem G_iload_n {q : Fin 4} {a : Int} (d : decode cc pc = .ok (.iload_n q, 1)) (h : lget lv (q : Nat) = some (vi a)) (kk : G E rm own cc nL ret X Z M I J R k n (pc + 1) lv (vi a :: st)) : G E rm own cc nL ret X Z M I J R k n pc lv (st) := by
  intro p e s m args below meth c C H locs ls hW hS hl
  refine lv_iload_n C.1 C.2.1 d rfl (hl.2.2 _ _ h) ?_
  exact kk p e s m args below meth c C H locs ls hW hS hl
theorem G_iload {q : Nat} {a : Int} (d : decode cc pc = .ok (.iload q, 2)) (h : lget lv q = some (vi a)) (kk : G E rm own cc nL ret X Z M I J R k n (pc + 2) lv (vi a :: st)) : G E rm own cc nL ret X Z M I J R k n pc lv (st) := by
  intro p e s m args below meth c C H locs ls hW hS hl
  refine lv_iload C.1 C.2.1 d (hl.2.2 _ _ h) ?_
  exact kk p e s m args below meth c C H locs ls hW hS hl
theorem G_lload_n {q : Fin 4} {a : Int} (d : decode cc pc = .ok (.lload_n q, 1)) (h : lget lv (q : Nat) = some (vl a)) (kk : G E rm own cc nL ret X Z M I J R k n (pc + 1) lv (vl a :: st)) : G E rm own cc nL ret X Z M I J R k n pc lv (st) := by
  intro p e s m args below meth c C H locs ls hW hS hl
  refine lv_lload_n C.1 C.2.1 d rfl (hl.2.2 _ _ h) ?_
  exact kk p e s m args below meth c C H locs ls hW hS hl
theorem G_lload {q : Nat} {a : Int} (d : decode cc pc = .ok (.lload q, 2)) (h : lget lv q = some (vl a)) (kk : G E rm own cc nL ret X Z M I J R k n (pc + 2) lv (vl a :: st)) : G E rm own cc nL ret X Z M I J R k n pc lv (st) := by
  intro p e s m args below meth c C H locs ls hW hS hl
  refine lv_lload C.1 C.2.1 d (hl.2.2 _ _ h) ?_
  exact kk p e s m args below meth c C H locs ls hW hS hl
theorem G_aload_n {q : Fin 4} {a : Nat} (d : decode cc pc = .ok (.aload_n q, 1)) (h : lget lv (q : Nat) = some (.ref a)) (kk : G E rm own cc nL ret X Z M I J R k n (pc + 1) lv (.ref a :: st)) : G E rm own cc nL ret X Z M I J R k n pc lv (st) := by
  intro p e s m args below meth c C H locs ls hW hS hl
  refine lv_aload_n C.1 C.2.1 d rfl (hl.2.2 _ _ h) ?_
  exact kk p e s m args below meth c C H locs ls hW hS hl
theorem G_aload {q : Nat} {a : Nat} (d : decode cc pc = .ok (.aload q, 2)) (h : lget lv q = some (.ref a)) (kk : G E rm own cc nL ret X Z M I J R k n (pc + 2) lv (.ref a :: st)) : G E rm own cc nL ret X Z M I J R k n pc lv (st) := by
  intro p e s m args below meth c C H locs ls hW hS hl
  refine lv_aload C.1 C.2.1 d (hl.2.2 _ _ h) ?_
  exact kk p e s m args below meth c C H locs ls hW hS hl
theorem G_istore_n {q : Fin 4} {a : Int} {lv' : List (Option Value)} (d : decode cc pc = .ok (.istore_n q, 1)) (hn : (q : Nat) < nL) (h : lset lv (q : Nat) (vi a) = lv') (kk : G E rm own cc nL ret X Z M I J R k n (pc + 1) lv' st) : G E rm own cc nL ret X Z M I J R k n pc lv (vi a :: st) := by
  intro p e s m args below meth c C H locs ls hW hS hl
  exact lv_istore_n C.1 C.2.1 d rfl hl.has hn rfl (fun ls2 h2 => kk p e s m args below meth c C H locs ls2 hW hS (LH.seti h h2))
theorem G_istore {q : Nat} {a : Int} {lv' : List (Option Value)} (d : decode cc pc = .ok (.istore q, 2)) (hn : q < nL) (h : lset lv q (vi a) = lv') (kk : G E rm own cc nL ret X Z M I J R k n (pc + 2) lv' st) : G E rm own cc nL ret X Z M I J R k n pc lv (vi a :: st) := by
  intro p e s m args below meth c C H locs ls hW hS hl
  exact lv_istore C.1 C.2.1 d hl.has hn rfl (fun ls2 h2 => kk p e s m args below meth c C H locs ls2 hW hS (LH.seti h h2))
theorem G_astore_n {q : Fin 4} {a : Nat} {lv' : List (Option Value)} (d : decode cc pc = .ok (.astore_n q, 1)) (hn : (q : Nat) < nL) (h : lset lv (q : Nat) (.ref a) = lv') (kk : G E rm own cc nL ret X Z M I J R k n (pc + 1) lv' st) : G E rm own cc nL ret X Z M I J R k n pc lv (.ref a :: st) := by
  intro p e s m args below meth c C H locs ls hW hS hl
  exact lv_astore_n C.1 C.2.1 d rfl hl.has hn rfl (fun ls2 h2 => kk p e s m args below meth c C H locs ls2 hW hS (LH.seti h h2))
theorem G_lstore_n {q : Fin 4} {a : Int} {lv' : List (Option Value)} (d : decode cc pc = .ok (.lstore_n q, 1)) (hn : (q : Nat) + 1 < nL) (h : lkill (lset lv (q : Nat) (vl a)) ((q : Nat) + 1) = lv') (kk : G E rm own cc nL ret X Z M I J R k n (pc + 1) lv' st) : G E rm own cc nL ret X Z M I J R k n pc lv (vl a :: st) := by
  intro p e s m args below meth c C H locs ls hW hS hl
  exact lv_lstore_n C.1 C.2.1 d rfl hl.has hn rfl (fun ls2 h2 => kk p e s m args below meth c C H locs ls2 hW hS (LH.setl h h2))
theorem G_lstore {q : Nat} {a : Int} {lv' : List (Option Value)} (d : decode cc pc = .ok (.lstore q, 2)) (hn : q + 1 < nL) (h : lkill (lset lv q (vl a)) (q + 1) = lv') (kk : G E rm own cc nL ret X Z M I J R k n (pc + 2) lv' st) : G E rm own cc nL ret X Z M I J R k n pc lv (vl a :: st) := by
  intro p e s m args below meth c C H locs ls hW hS hl
  exact lv_lstore C.1 C.2.1 d hl.has hn rfl (fun ls2 h2 => kk p e s m args below meth c C H locs ls2 hW hS (LH.setl h h2))
theorem G_iinc {q : Nat} {a b : Int} {lv' : List (Option Value)} (d : decode cc pc = .ok (.iinc q b, 3)) (hn : q < nL) (ha : lget lv q = some (vi a)) (h : lset lv q (vi (a + b)) = lv') (kk : G E rm own cc nL ret X Z M I J R k n (pc + 3) lv' st) : G E rm own cc nL ret X Z M I J R k n pc lv st := by
  intro p e s m args below meth c C H locs ls hW hS hl
  obtain ⟨i0, hi0⟩ := List.getElem?_of_mem ((lasc_mem lv 0 q (vi a)).mpr ⟨Nat.zero_le _, ha⟩)
  exact lv_iinc (v := Int32.ofInt (a + b)) C.1 C.2.1 d hl.has hi0 (Int32.ofInt_add a b).symm hn rfl (fun ls2 h2 => kk p e s m args below meth c C H locs ls2 hW hS (LH.seti h h2))
theorem G_iadd {a b : Int} (d : decode cc pc = .ok (.iadd, 1)) (kk : G E rm own cc nL ret X Z M I J R k n (pc + 1) lv (vi (a + b) :: st)) : G E rm own cc nL ret X Z M I J R k n pc lv (vi b :: vi a :: st) := by
  intro p e s m args below meth c C H locs ls hW hS hl
  refine lv_iadd C.1 C.2.1 d ?_
  rw [← Int32.ofInt_add]
  exact kk p e s m args below meth c C H locs ls hW hS hl
theorem G_isub {a b : Int} (d : decode cc pc = .ok (.isub, 1)) (kk : G E rm own cc nL ret X Z M I J R k n (pc + 1) lv (vi (a - b) :: st)) : G E rm own cc nL ret X Z M I J R k n pc lv (vi b :: vi a :: st) := by
  intro p e s m args below meth c C H locs ls hW hS hl
  refine lv_isub C.1 C.2.1 d ?_
  rw [← Int32.ofInt_sub]
  exact kk p e s m args below meth c C H locs ls hW hS hl
theorem G_imul {a b : Int} (d : decode cc pc = .ok (.imul, 1)) (kk : G E rm own cc nL ret X Z M I J R k n (pc + 1) lv (vi (a * b) :: st)) : G E rm own cc nL ret X Z M I J R k n pc lv (vi b :: vi a :: st) := by
  intro p e s m args below meth c C H locs ls hW hS hl
  refine lv_imul C.1 C.2.1 d ?_
  rw [← Int32.ofInt_mul]
  exact kk p e s m args below meth c C H locs ls hW hS hl
theorem G_idiv {a b : Int} (d : decode cc pc = .ok (.idiv, 1)) (ha : Ri a) (hb : Ri b) (h0 : b ≠ 0) (kk : G E rm own cc nL ret X Z M I J R k n (pc + 1) lv (vi (a.tdiv b) :: st)) : G E rm own cc nL ret X Z M I J R k n pc lv (vi b :: vi a :: st) := by
  intro p e s m args below meth c C H locs ls hW hS hl
  refine lv_idiv C.1 C.2.1 d (i_ne0 hb h0) ?_
  rw [← Int32.ofInt_tdiv ha.1 ha.2 hb.1 hb.2]
  exact kk p e s m args below meth c C H locs ls hW hS hl
theorem G_irem {a b : Int} (d : decode cc pc = .ok (.irem, 1)) (ha : Ri a) (hb : Ri b) (h0 : b ≠ 0) (kk : G E rm own cc nL ret X Z M I J R k n (pc + 1) lv (vi (a.tmod b) :: st)) : G E rm own cc nL ret X Z M I J R k n pc lv (vi b :: vi a :: st) := by
  intro p e s m args below meth c C H locs ls hW hS hl
  refine lv_irem C.1 C.2.1 d (i_ne0 hb h0) ?_
  rw [← Int32.ofInt_tdiv ha.1 ha.2 hb.1 hb.2, ← Int32.ofInt_mul, ← Int32.ofInt_sub, ← tmod_eq]
  exact kk p e s m args below meth c C H locs ls hW hS hl
theorem G_ladd {a b : Int} (d : decode cc pc = .ok (.ladd, 1)) (kk : G E rm own cc nL ret X Z M I J R k n (pc + 1) lv (vl (a + b) :: st)) : G E rm own cc nL ret X Z M I J R k n pc lv (vl b :: vl a :: st) := by
  intro p e s m args below meth c C H locs ls hW hS hl
  refine lv_ladd C.1 C.2.1 d ?_
  rw [← Int64.ofInt_add]
  exact kk p e s m args below meth c C H locs ls hW hS hl
theorem G_lsub {a b : Int} (d : decode cc pc = .ok (.lsub, 1)) (kk : G E rm own cc nL ret X Z M I J R k n (pc + 1) lv (vl (a - b) :: st)) : G E rm own cc nL ret X Z M I J R k n pc lv (vl b :: vl a :: st) := by
  intro p e s m args below meth c C H locs ls hW hS hl
  refine lv_lsub C.1 C.2.1 d ?_
  rw [← Int64.ofInt_sub]
  exact kk p e s m args below meth c C H locs ls hW hS hl
theorem G_lmul {a b : Int} (d : decode cc pc = .ok (.lmul, 1)) (kk : G E rm own cc nL ret X Z M I J R k n (pc + 1) lv (vl (a * b) :: st)) : G E rm own cc nL ret X Z M I J R k n pc lv (vl b :: vl a :: st) := by
  intro p e s m args below meth c C H locs ls hW hS hl
  refine lv_lmul C.1 C.2.1 d ?_
  rw [← Int64.ofInt_mul]
  exact kk p e s m args below meth c C H locs ls hW hS hl
theorem G_ldiv {a b : Int} (d : decode cc pc = .ok (.ldiv, 1)) (ha : Rl a) (hb : Rl b) (h0 : b ≠ 0) (kk : G E rm own cc nL ret X Z M I J R k n (pc + 1) lv (vl (a.tdiv b) :: st)) : G E rm own cc nL ret X Z M I J R k n pc lv (vl b :: vl a :: st) := by
  intro p e s m args below meth c C H locs ls hW hS hl
  refine lv_ldiv C.1 C.2.1 d (l_ne0 hb h0) ?_
  rw [← Int64.ofInt_tdiv ha.1 ha.2 hb.1 hb.2]
  exact kk p e s m args below meth c C H locs ls hW hS hl
theorem G_lrem {a b : Int} (d : decode cc pc = .ok (.lrem, 1)) (ha : Rl a) (hb : Rl b) (h0 : b ≠ 0) (kk : G E rm own cc nL ret X Z M I J R k n (pc + 1) lv (vl (a.tmod b) :: st)) : G E rm own cc nL ret X Z M I J R k n pc lv (vl b :: vl a :: st) := by
  intro p e s m args below meth c C H locs ls hW hS hl
  refine lv_lrem C.1 C.2.1 d (l_ne0 hb h0) ?_
  rw [← Int64.ofInt_tdiv ha.1 ha.2 hb.1 hb.2, ← Int64.ofInt_mul, ← Int64.ofInt_sub, ← tmod_eq]
  exact kk p e s m args below meth c C H locs ls hW hS hl
theorem G_i2l {a : Int} (d : decode cc pc = .ok (.i2l, 1)) (ha : Ri a) (kk : G E rm own cc nL ret X Z M I J R k n (pc + 1) lv (vl a :: st)) : G E rm own cc nL ret X Z M I J R k n pc lv (vi a :: st) := by
  intro p e s m args below meth c C H locs ls hW hS hl
  refine lv_i2l C.1 C.2.1 d (Int32.toInt64_ofInt ha.1 ha.2) ?_
  exact kk p e s m args below meth c C H locs ls hW hS hl
theorem G_l2i {a : Int} (d : decode cc pc = .ok (.l2i, 1)) (kk : G E rm own cc nL ret X Z M I J R k n (pc + 1) lv (vi a :: st)) : G E rm own cc nL ret X Z M I J R k n pc lv (vl a :: st) := by
  intro p e s m args below meth c C H locs ls hW hS hl
  refine lv_l2i C.1 C.2.1 d Int64.toInt32_ofInt ?_
  exact kk p e s m args below meth c C H locs ls hW hS hl
theorem G_i2b {a : Int} (d : decode cc pc = .ok (.i2b, 1)) (kk : G E rm own cc nL ret X Z M I J R k n (pc + 1) lv (vi (a.bmod 256) :: st)) : G E rm own cc nL ret X Z M I J R k n pc lv (vi a :: st) := by
  intro p e s m args below meth c C H locs ls hW hS hl
  refine lv_i2b C.1 C.2.1 d (i2b_eq a) ?_
  exact kk p e s m args below meth c C H locs ls hW hS hl
theorem G_icmp_eq {tgt : Nat} {off : Int} {a b : Int} (d : decode cc pc = .ok (.if_icmp .eq off, 3)) (ha : Ri a) (hb : Ri b) (ht : (pc : Int) + off = (tgt : Int)) (kt : a = b → G E rm own cc nL ret X Z M I J R k n tgt lv st) (kf : a ≠ b → G E rm own cc nL ret X Z M I J R k n (pc + 3) lv st) : G E rm own cc nL ret X Z M I J R k n pc lv (vi b :: vi a :: st) := by
  intro p e s m args below meth c C H locs ls hW hS hl
  exact lv_icmp_eq C.1 C.2.1 d ht (fun h => kt ((i_eq ha hb).mp h) p e s m args below meth c C H locs ls hW hS hl) (fun h => kf (fun z => h ((i_eq ha hb).mpr z)) p e s m args below meth c C H locs ls hW hS hl)
theorem G_if_eq {tgt : Nat} {off : Int} {a : Int} (d : decode cc pc = .ok (.ifCond .eq off, 3)) (ha : Ri a) (ht : (pc : Int) + off = (tgt : Int)) (kt : a = 0 → G E rm own cc nL ret X Z M I J R k n tgt lv st) (kf : a ≠ 0 → G E rm own cc nL ret X Z M I J R k n (pc + 3) lv st) : G E rm own cc nL ret X Z M I J R k n pc lv (vi a :: st) := by
  intro p e s m args below meth c C H locs ls hW hS hl
  exact lv_if_eq C.1 C.2.1 d ht (fun h => kt ((i_eq ha Ri0).mp h) p e s m args below meth c C H locs ls hW hS hl) (fun h => kf (fun z => h ((i_eq ha Ri0).mpr z)) p e s m args below meth c C H locs ls hW hS hl)
theorem G_icmp_ne {tgt : Nat} {off : Int} {a b : Int} (d : decode cc pc = .ok (.if_icmp .ne off, 3)) (ha : Ri a) (hb : Ri b) (ht : (pc : Int) + off = (tgt : Int)) (kt : a ≠ b → G E rm own cc nL ret X Z M I J R k n tgt lv st) (kf : a = b → G E rm own cc nL ret X Z M I J R k n (pc + 3) lv st) : G E rm own cc nL ret X Z M I J R k n pc lv (vi b :: vi a :: st) := by
  intro p e s m args below meth c C H locs ls hW hS hl
  exact lv_icmp_ne C.1 C.2.1 d ht (fun h => kt (fun z => h ((i_eq ha hb).mpr z)) p e s m args below meth c C H locs ls hW hS hl) (fun h => kf ((i_eq ha hb).mp h) p e s m args below meth c C H locs ls hW hS hl)
theorem G_if_ne {tgt : Nat} {off : Int} {a : Int} (d : decode cc pc = .ok (.ifCond .ne off, 3)) (ha : Ri a) (ht : (pc : Int) + off = (tgt : Int)) (kt : a ≠ 0 → G E rm own cc nL ret X Z M I J R k n tgt lv st) (kf : a = 0 → G E rm own cc nL ret X Z M I J R k n (pc + 3) lv st) : G E rm own cc nL ret X Z M I J R k n pc lv (vi a :: st) := by
  intro p e s m args below meth c C H locs ls hW hS hl
  exact lv_if_ne C.1 C.2.1 d ht (fun h => kt (fun z => h ((i_eq ha Ri0).mpr z)) p e s m args below meth c C H locs ls hW hS hl) (fun h => kf ((i_eq ha Ri0).mp h) p e s m args below meth c C H locs ls hW hS hl)
theorem G_icmp_lt {tgt : Nat} {off : Int} {a b : Int} (d : decode cc pc = .ok (.if_icmp .lt off, 3)) (ha : Ri a) (hb : Ri b) (ht : (pc : Int) + off = (tgt : Int)) (kt : a < b → G E rm own cc nL ret X Z M I J R k n tgt lv st) (kf : b ≤ a → G E rm own cc nL ret X Z M I J R k n (pc + 3) lv st) : G E rm own cc nL ret X Z M I J R k n pc lv (vi b :: vi a :: st) := by
  intro p e s m args below meth c C H locs ls hW hS hl
  exact lv_icmp_lt C.1 C.2.1 d ht (fun h => kt ((i_lt ha hb).mp h) p e s m args below meth c C H locs ls hW hS hl) (fun h => kf (Int.not_lt.mp (fun z => h ((i_lt ha hb).mpr z))) p e s m args below meth c C H locs ls hW hS hl)
theorem G_if_lt {tgt : Nat} {off : Int} {a : Int} (d : decode cc pc = .ok (.ifCond .lt off, 3)) (ha : Ri a) (ht : (pc : Int) + off = (tgt : Int)) (kt : a < 0 → G E rm own cc nL ret X Z M I J R k n tgt lv st) (kf : 0 ≤ a → G E rm own cc nL ret X Z M I J R k n (pc + 3) lv st) : G E rm own cc nL ret X Z M I J R k n pc lv (vi a :: st) := by
  intro p e s m args below meth c C H locs ls hW hS hl
  exact lv_if_lt C.1 C.2.1 d ht (fun h => kt ((i_lt ha Ri0).mp h) p e s m args below meth c C H locs ls hW hS hl) (fun h => kf (Int.not_lt.mp (fun z => h ((i_lt ha Ri0).mpr z))) p e s m args below meth c C H locs ls hW hS hl)
theorem G_icmp_ge {tgt : Nat} {off : Int} {a b : Int} (d : decode cc pc = .ok (.if_icmp .ge off, 3)) (ha : Ri a) (hb : Ri b) (ht : (pc : Int) + off = (tgt : Int)) (kt : b ≤ a → G E rm own cc nL ret X Z M I J R k n tgt lv st) (kf : a < b → G E rm own cc nL ret X Z M I J R k n (pc + 3) lv st) : G E rm own cc nL ret X Z M I J R k n pc lv (vi b :: vi a :: st) := by
  intro p e s m args below meth c C H locs ls hW hS hl
  exact lv_icmp_ge C.1 C.2.1 d ht (fun h => kt ((i_le hb ha).mp h) p e s m args below meth c C H locs ls hW hS hl) (fun h => kf (Int.not_le.mp (fun z => h ((i_le hb ha).mpr z))) p e s m args below meth c C H locs ls hW hS hl)
theorem G_if_ge {tgt : Nat} {off : Int} {a : Int} (d : decode cc pc = .ok (.ifCond .ge off, 3)) (ha : Ri a) (ht : (pc : Int) + off = (tgt : Int)) (kt : 0 ≤ a → G E rm own cc nL ret X Z M I J R k n tgt lv st) (kf : a < 0 → G E rm own cc nL ret X Z M I J R k n (pc + 3) lv st) : G E rm own cc nL ret X Z M I J R k n pc lv (vi a :: st) := by
  intro p e s m args below meth c C H locs ls hW hS hl
  exact lv_if_ge C.1 C.2.1 d ht (fun h => kt ((i_le Ri0 ha).mp h) p e s m args below meth c C H locs ls hW hS hl) (fun h => kf (Int.not_le.mp (fun z => h ((i_le Ri0 ha).mpr z))) p e s m args below meth c C H locs ls hW hS hl)
theorem G_icmp_gt {tgt : Nat} {off : Int} {a b : Int} (d : decode cc pc = .ok (.if_icmp .gt off, 3)) (ha : Ri a) (hb : Ri b) (ht : (pc : Int) + off = (tgt : Int)) (kt : b < a → G E rm own cc nL ret X Z M I J R k n tgt lv st) (kf : a ≤ b → G E rm own cc nL ret X Z M I J R k n (pc + 3) lv st) : G E rm own cc nL ret X Z M I J R k n pc lv (vi b :: vi a :: st) := by
  intro p e s m args below meth c C H locs ls hW hS hl
  exact lv_icmp_gt C.1 C.2.1 d ht (fun h => kt ((i_lt hb ha).mp h) p e s m args below meth c C H locs ls hW hS hl) (fun h => kf (Int.not_lt.mp (fun z => h ((i_lt hb ha).mpr z))) p e s m args below meth c C H locs ls hW hS hl)
theorem G_if_gt {tgt : Nat} {off : Int} {a : Int} (d : decode cc pc = .ok (.ifCond .gt off, 3)) (ha : Ri a) (ht : (pc : Int) + off = (tgt : Int)) (kt : 0 < a → G E rm own cc nL ret X Z M I J R k n tgt lv st) (kf : a ≤ 0 → G E rm own cc nL ret X Z M I J R k n (pc + 3) lv st) : G E rm own cc nL ret X Z M I J R k n pc lv (vi a :: st) := by
  intro p e s m args below meth c C H locs ls hW hS hl
  exact lv_if_gt C.1 C.2.1 d ht (fun h => kt ((i_lt Ri0 ha).mp h) p e s m args below meth c C H locs ls hW hS hl) (fun h => kf (Int.not_lt.mp (fun z => h ((i_lt Ri0 ha).mpr z))) p e s m args below meth c C H locs ls hW hS hl)
theorem G_icmp_le {tgt : Nat} {off : Int} {a b : Int} (d : decode cc pc = .ok (.if_icmp .le off, 3)) (ha : Ri a) (hb : Ri b) (ht : (pc : Int) + off = (tgt : Int)) (kt : a ≤ b → G E rm own cc nL ret X Z M I J R k n tgt lv st) (kf : b < a → G E rm own cc nL ret X Z M I J R k n (pc + 3) lv st) : G E rm own cc nL ret X Z M I J R k n pc lv (vi b :: vi a :: st) := by
  intro p e s m args below meth c C H locs ls hW hS hl
  exact lv_icmp_le C.1 C.2.1 d ht (fun h => kt ((i_le ha hb).mp h) p e s m args below meth c C H locs ls hW hS hl) (fun h => kf (Int.not_le.mp (fun z => h ((i_le ha hb).mpr z))) p e s m args below meth c C H locs ls hW hS hl)
theorem G_if_le {tgt : Nat} {off : Int} {a : Int} (d : decode cc pc = .ok (.ifCond .le off, 3)) (ha : Ri a) (ht : (pc : Int) + off = (tgt : Int)) (kt : a ≤ 0 → G E rm own cc nL ret X Z M I J R k n tgt lv st) (kf : 0 < a → G E rm own cc nL ret X Z M I J R k n (pc + 3) lv st) : G E rm own cc nL ret X Z M I J R k n pc lv (vi a :: st) := by
  intro p e s m args below meth c C H locs ls hW hS hl
  exact lv_if_le C.1 C.2.1 d ht (fun h => kt ((i_le ha Ri0).mp h) p e s m args below meth c C H locs ls hW hS hl) (fun h => kf (Int.not_le.mp (fun z => h ((i_le ha Ri0).mpr z))) p e s m args below meth c C H locs ls hW hS hl)
theorem G_goto {tgt : Nat} {off : Int} (d : decode cc pc = .ok (.goto off, 3)) (ht : (pc : Int) + off = (tgt : Int)) (kk : G E rm own cc nL ret X Z M I J R k n tgt lv st) : G E rm own cc nL ret X Z M I J R k n pc lv st := by
  intro p e s m args below meth c C H locs ls hW hS hl
  exact lv_goto C.1 C.2.1 d ht (kk p e s m args below meth c C H locs ls hW hS hl)
/-! fields -/
theorem G_get {idx c i t q : Nat} {fin : Bool} {v : Value} (d : decode cc pc = .ok (.getfield idx, 3)) (hf : FI own idx c i t fin) (hs : shp q = .inl c) (hq : q < M) (hv : fvv (eB E) I J R q i t = v) (kk : G E rm own cc nL ret X Z M I J R k n (pc + 3) lv (v :: st)) : G E rm own cc nL ret X Z M I J R k n pc lv (vr E q :: st) := by
  intro p e s m args below meth cd C H locs ls hW hS hl
  obtain ⟨C0, T, N, ty0, hc, hi, hin, hty, hnm, hfin, hft, -, -, -, -, hlk⟩ := hf
  have hP := hW.at hq (e := .inr (c, fvs (eB E) I J R q (ftl c) 0)) (by unfold ent; rw [hs])
  have hgv : (fvs (eB E) I J R q (ftl c) 0)[i]? = some v := by rw [fvs_get, hft, Nat.zero_add]; simp only [Option.map_some, hv]
  rcases hlk with hlk | ⟨host, hlk⟩
  · exact va_get C.1 C.2.1 C.2.2.2.2.1 hin C.2.2.2.1 C.2.2.2.2.2.2.2.1 hP 0 rfl hc i hi (C.2.2.2.2.1 _ hlk) (fun _ h => h) hgv d (kk p e s m args below meth cd C H locs ls hW hS hl)
  · exact va_getN C.1 C.2.1 C.2.2.2.2.1 hin C.2.2.2.1 C.2.2.2.2.2.2.2.1 hP 0 rfl hc i hi (C.2.2.2.2.2.2.2.2.2.1.use hlk) (fun _ h => h) hgv d (kk p e s m args below meth cd C H locs ls hW hS hl)
theorem fvs_set {b0 : Nat} {I J I' J' : Nat → Nat → Int} {R R' : Nat → Nat → Option Nat} {q i t : Nat} {l : List Nat} {v : Value} (hft : l[i]? = some t) (hv : fvv b0 I' J' R' q i t = v) (ho : ∀ j t', j ≠ i → fvv b0 I' J' R' q j t' = fvv b0 I J R q j t') : (fvs b0 I J R q l 0).set i v = fvs b0 I' J' R' q l 0 := by
  apply List.ext_getElem?
  intro j
  rw [fvs_get]
  by_cases hj : j = i
  · subst hj
    rw [List.getElem?_set_self (by rw [fvs_len]; exact (List.getElem?_eq_some_iff.mp hft).1), hft, Nat.zero_add]
    simp [hv]
  · rw [List.getElem?_set_ne (Ne.symm hj), fvs_get]
    cases l[j]? with
    | none => rfl
    | some t' => simp only [Option.map_some, Nat.zero_add]; rw [ho j t' hj]
theorem put_core {own : String} {idx c i t q : Nat} {I' J' : Nat → Nat → Int} {R' : Nat → Nat → Option Nat} {v : Value} {fin : Bool} (d : decode cc pc = .ok (.putfield idx, 3)) (hf : FI own idx c i t fin) (hs : shp q = .inl c) (hq : q < M) (hvv : fvv (eB E) I' J' R' q i t = v) (ho : ∀ j t', j ≠ i → fvv (eB E) I' J' R' q j t' = fvv (eB E) I J R q j t') (hI : ∀ j, j ≠ q → I' j = I j) (hJ : ∀ j, j ≠ q → J' j = J j) (hR : ∀ j, j ≠ q → R' j = R j)
    (hfit : ∀ (C : String) (T : u_T) (N : Nat) (ty0 : Nat → FieldType), vwCl[c]? = some (C, T, N) → (t = 0 → ty0 i = .int) → (t = 1 → ty0 i = .long) → parseFieldDescriptor (T i).2.2.1 = some (ty0 i) → narrow (ty0 i) v = v ∧ fits (ty0 i) v = true)
    (hcan : fin = false ∨ ∀ meth args s, X meth args s → meth.name = "<init>") (kk : G E rm own cc nL ret X Z M I' J' R' k n (pc + 3) lv st) (hcl : fin = true → ∀ (C : String) (T : u_T) (N : Nat), vwCl[c]? = some (C, T, N) → C = own ∧ Cond.fieldLink own idx (T i).1 (T i).2.1 (T i).2.2.1 ∈ gtb) : G E rm own cc nL ret X Z M I J R k n pc lv (v :: vr E q :: st) := by
  intro p e s m args below meth cd C H locs ls hW hS hl
  obtain ⟨C0, T, N, ty0, hc, hi, hin, hty, hnm, hfin, hft, ht0, ht1, hN, hTi, hlk⟩ := hf
  obtain ⟨hn, hfi⟩ := hfit C0 T N ty0 hc ht0 ht1 (hty i hi)
  have hx := C.1
  have hb := C.2.1
  have hts := C.2.2.2.2.1
  have hown := C.2.2.2.1
  have hK := C.2.2.2.2.2.2.2.1
  have hent : ent E I J R q = .inr (c, fvs (eB E) I J R q (ftl c) 0) := by unfold ent; rw [hs]
  have hent' : ent E I' J' R' q = .inr (c, fvs (eB E) I' J' R' q (ftl c) 0) := by unfold ent; rw [hs]
  have hap := va_apart (own := own) hts hin ty0 hty hnm hK hc
  have hat := hW.2 q hq
  rw [hent] at hat
  obtain ⟨r, h1, cell, q1, q2, q3, q4⟩ := hat
  have hr : r = (C0, T, N) := Option.some.inj (h1.symm.trans hc)
  subst hr
  obtain ⟨hSl, hfc, kC, hkC, hkind⟩ := hK.1 c _ hc
  obtain ⟨cf, kf, fi, f, hif, hsl⟩ := hSl i hi
  have hst := (u_facts hfc hkC (u_lays hts hin hi) hif).1
  have fin_ : ∀ H' : Heap, H'[eB E + q]? = some (cell.setSlot f.slot v) → H'.size = H.size → (∀ a, a ≠ eB E + q → H'[a]? = H[a]?) → W p (eL E) e rm s m args below meth cd H' (locs ++ [⟨eB E + q, f.slot⟩]) k n (Z below args s) (F0 m (pc + 3) ls st) := by
    intro H' e1 e2 e3
    rw [hsl] at e1
    refine kk p e s m args below meth cd C H' _ ls (hW.moved e2 e3 hI hJ hR ?_) (hS.put e2 e3 (Nat.le_add_right _ _)) hl
    rw [hent', ← fvs_set hft hvv ho]
    exact ⟨_, hc, t_OB.to (V := updV (vp_V (fvs (eB E) I J R q (ftl c) 0)) i v) ⟨_, e1, q2, q3, t_set q4 hap hi v⟩ (fun j _ => vp_updV_set (by rw [fvs_len, hN]; exact hi) v j)⟩
  cases fin with
  | false =>
    have hlay := hts _ (hin _ (u_in_lay hi))
    unfold u_lay at hlay
    rw [if_neg (by rw [hfin]; decide)] at hlay
    have h6 := u_store hfc hkC hkind hlay hif (hty i hi) hn hfi
    rcases hlk with hlk | ⟨host, hlk⟩
    · exact W.putK hx hb (f := f) ⟨hown, hts _ hlk, ⟨_, _, _, hif⟩, hst⟩ (by rw [q2]; exact h6) q1 q3 (by rw [hsl]; exact k2_hasslot (q4 i hi)) rfl rfl d fin_
    · exact va_WputK hx hb (f := f) hown (C.2.2.2.2.2.2.2.2.2.1.use hlk) hif hst (by rw [q2]; exact h6) q1 q3 (by rw [hsl]; exact k2_hasslot (q4 i hi)) rfl rfl d fin_
  | true =>
    have hnm2 : meth.name = "<init>" := by
      rcases hcan with h | h
      · cases h
      · exact h _ _ _ C.2.2.2.2.2.2.2.2.2.2
    obtain ⟨hC, hlk⟩ := hcl rfl C0 T N hc
    have hlay := hts _ (hin _ (u_in_lay hi))
    unfold u_lay at hlay
    rw [if_pos hfin] at hlay
    have hcf : m.cls = cf := by
      obtain ⟨_, _, c', _, _, _, -, -, hf', -, -, -, hown2, -⟩ := Cond.laysFinal_spec hlay
      have e1 : c' = cf := by have := hif.symm.trans hf'; simp at this; exact this.1.symm
      rw [hTi, hC] at hown2
      rw [← e1]; exact Option.some.inj (hown.symm.trans hown2)
    have h6 := u_fits hfc hkC hkind (Or.inr hlay) hif (hty i hi) hn hfi
    exact W.putFinK hx hb hown (hts _ hlk) hif hst hcf hnm2 (by rw [q2]; exact h6) q1 q3 (by rw [hsl]; exact k2_hasslot (q4 i hi)) rfl rfl d fin_
/-- a cell's one number written -/
def wr {α : Type} (I : Nat → Nat → α) (q i : Nat) (a : α) : Nat → Nat → α := fun x y => if x = q then (if y = i then a else I x y) else I x y
theorem wr_o {α : Type} {I : Nat → Nat → α} {q i : Nat} {a : α} {x : Nat} (h : x ≠ q) : wr I q i a x = I x := by funext y; simp [wr, h]
theorem wr_s {α : Type} {I : Nat → Nat → α} {q i : Nat} {a : α} : wr I q i a q i = a := by simp [wr]
theorem wr_n {α : Type} {I : Nat → Nat → α} {q i : Nat} {a : α} {x y : Nat} (h : y ≠ i) : wr I q i a x y = I x y := by simp [wr, h]
theorem G_puti {idx c i q : Nat} {a : Int} (d : decode cc pc = .ok (.putfield idx, 3)) (hf : FI own idx c i 0 false) (hs : shp q = .inl c) (hq : q < M) (kk : G E rm own cc nL ret X Z M (wr I q i a) J R k n (pc + 3) lv st) : G E rm own cc nL ret X Z M I J R k n pc lv (vi a :: vr E q :: st) :=
  put_core (R' := R) d hf hs hq (by simp [fvv, wr]) (fun j t' hj => by unfold fvv; split <;> simp [wr, hj]) (fun j hj => wr_o hj) (fun _ _ => rfl) (fun _ _ => rfl) (fun C T N ty0 _ h0 _ _ => by rw [h0 rfl]; exact ⟨rfl, rfl⟩) (Or.inl rfl) kk (fun h => by cases h)
theorem G_putl {idx c i q : Nat} {a : Int} (d : decode cc pc = .ok (.putfield idx, 3)) (hf : FI own idx c i 1 false) (hs : shp q = .inl c) (hq : q < M) (kk : G E rm own cc nL ret X Z M I (wr J q i a) R k n (pc + 3) lv st) : G E rm own cc nL ret X Z M I J R k n pc lv (vl a :: vr E q :: st) :=
  put_core (R' := R) d hf hs hq (by simp [fvv, wr]) (fun j t' hj => by unfold fvv; split <;> simp [wr, hj]) (fun _ _ => rfl) (fun j hj => wr_o hj) (fun _ _ => rfl) (fun C T N ty0 _ _ h1 _ => by rw [h1 rfl]; exact ⟨rfl, rfl⟩) (Or.inl rfl) kk (fun h => by cases h)
/-! arrays -/
theorem ix_in {a : Int} {z : Nat} (h0 : 0 ≤ a) (h1 : a < z) (hz : z < 2147483648) : vp_in (Int32.ofInt a) z := by
  rw [vp_in_iff, i_toInt (Ri.mk (by omega) (by omega))]
  exact ⟨h0, h1⟩
theorem ix_cl {a : Int} (h0 : 0 ≤ a) (h1 : a < 2147483648) : (Int32.ofInt a).toNatClampNeg = a.toNat := by
  rw [← Int32.toNat_toInt, i_toInt (Ri.mk (by omega) (by omega))]
theorem G_iald {q z : Nat} {a : Int} (d : decode cc pc = .ok (.iaload, 1)) (hs : shp q = .inr (0, z)) (hq : q < M) (hz : z < 2147483648) (h0 : 0 ≤ a) (h1 : a < z) (kk : G E rm own cc nL ret X Z M I J R k n (pc + 1) lv (vi (I q a.toNat) :: st)) : G E rm own cc nL ret X Z M I J R k n pc lv (vi a :: vr E q :: st) := by
  intro p e s m args below meth cd C H locs ls hW hS hl
  refine va_iald C.1 C.2.1 C.2.2.2.2.2.2.2.1 (hW.at hq (e := .inl (eA E 0, z, .inl (fun i => Int32.ofInt (I q i)))) (by unfold ent; rw [hs]; rfl)) 0 0 rfl rfl (ix_in h0 h1 hz) d ?_
  rw [ix_cl h0 (by omega)]
  exact kk p e s m args below meth cd C H locs ls hW hS hl
theorem G_bald {q z : Nat} {a : Int} (d : decode cc pc = .ok (.baload, 1)) (hs : shp q = .inr (2, z)) (hq : q < M) (hz : z < 2147483648) (h0 : 0 ≤ a) (h1 : a < z) (kk : G E rm own cc nL ret X Z M I J R k n (pc + 1) lv (vi (I q a.toNat) :: st)) : G E rm own cc nL ret X Z M I J R k n pc lv (vi a :: vr E q :: st) := by
  intro p e s m args below meth cd C H locs ls hW hS hl
  refine va_bald C.1 C.2.1 C.2.2.2.2.2.2.2.1 (hW.at hq (e := .inl (eA E 2, z, .inl (fun i => Int32.ofInt (I q i)))) (by unfold ent; rw [hs]; rfl)) 0 2 rfl rfl (ix_in h0 h1 hz) d ?_
  rw [ix_cl h0 (by omega)]
  exact kk p e s m args below meth cd C H locs ls hW hS hl
theorem G_zald {q z : Nat} {a : Int} (d : decode cc pc = .ok (.baload, 1)) (hs : shp q = .inr (3, z)) (hq : q < M) (hz : z < 2147483648) (h0 : 0 ≤ a) (h1 : a < z) (kk : G E rm own cc nL ret X Z M I J R k n (pc + 1) lv (vi (I q a.toNat) :: st)) : G E rm own cc nL ret X Z M I J R k n pc lv (vi a :: vr E q :: st) := by
  intro p e s m args below meth cd C H locs ls hW hS hl
  refine va_zald C.1 C.2.1 C.2.2.2.2.2.2.2.1 (hW.at hq (e := .inl (eA E 3, z, .inl (fun i => Int32.ofInt (I q i)))) (by unfold ent; rw [hs]; rfl)) 0 3 rfl rfl (ix_in h0 h1 hz) d ?_
  rw [ix_cl h0 (by omega)]
  exact kk p e s m args below meth cd C H locs ls hW hS hl
theorem G_lald {q z : Nat} {a : Int} (d : decode cc pc = .ok (.laload, 1)) (hs : shp q = .inr (1, z)) (hq : q < M) (hz : z < 2147483648) (h0 : 0 ≤ a) (h1 : a < z) (kk : G E rm own cc nL ret X Z M I J R k n (pc + 1) lv (vl (J q a.toNat) :: st)) : G E rm own cc nL ret X Z M I J R k n pc lv (vi a :: vr E q :: st) := by
  intro p e s m args below meth cd C H locs ls hW hS hl
  refine va_lald C.1 C.2.1 C.2.2.2.2.2.2.2.1 (hW.at hq (e := .inl (eA E 1, z, .inr (.inl (fun i => Int64.ofInt (J q i))))) (by unfold ent; rw [hs]; rfl)) 0 1 rfl rfl (ix_in h0 h1 hz) d ?_
  rw [ix_cl h0 (by omega)]
  exact kk p e s m args below meth cd C H locs ls hW hS hl
theorem G_alen {q t z : Nat} (d : decode cc pc = .ok (.arraylength, 1)) (hs : shp q = .inr (t, z)) (ht : t < 4) (hq : q < M) (kk : G E rm own cc nL ret X Z M I J R k n (pc + 1) lv (vi (z : Nat) :: st)) : G E rm own cc nL ret X Z M I J R k n pc lv (vr E q :: st) := by
  intro p e s m args below meth cd C H locs ls hW hS hl
  have hT : ∃ ty, (tysE E)[t]? = some (eA E t, ty) := by
    rcases (show t = 0 ∨ t = 1 ∨ t = 2 ∨ t = 3 by omega) with rfl | rfl | rfl | rfl <;> exact ⟨_, rfl⟩
  obtain ⟨ty, hty⟩ := hT
  exact va_alen C.1 C.2.1 C.2.2.2.2.2.2.2.1 (hW.at hq (e := entA E I J q (t, z)) (by unfold ent; rw [hs])) 0 t rfl hty (v := Int32.ofInt (z : Nat)) Int32.ofInt_eq_ofNat.symm d (kk p e s m args below meth cd C H locs ls hW hS hl)
theorem G_iast {q z : Nat} {a b : Int} (d : decode cc pc = .ok (.iastore, 1)) (hs : shp q = .inr (0, z)) (hq : q < M) (hz : z < 2147483648) (h0 : 0 ≤ a) (h1 : a < z) (kk : G E rm own cc nL ret X Z M (wr I q a.toNat b) J R k n (pc + 1) lv st) : G E rm own cc nL ret X Z M I J R k n pc lv (vi b :: vi a :: vr E q :: st) := by
  intro p e s m args below meth cd C H locs ls hW hS hl
  have hat := hW.2 q hq
  rw [show ent E I J R q = .inl (eA E 0, z, .inl (fun i => Int32.ofInt (I q i))) by unfold ent; rw [hs]; rfl] at hat
  refine W.iast C.1 C.2.1 hat ((C.2.2.2.2.2.2.2.1.2 0 _ rfl).1 z (fun j => .int (Int32.ofInt (I q j)))) (fun q => by cases q) (by show ¬ (_ ∨ (arrV _ _ _).slots.size ≤ _); rw [arrV_size]; exact ix_in h0 h1 hz) rfl rfl d fun H1 e1 e2 e3 => ?_
  refine kk p e s m args below meth cd C H1 _ ls (hW.moved (k := q) e2 e3 (fun j hj => wr_o hj) (fun _ _ => rfl) (fun _ _ => rfl) ?_) (hS.put e2 e3 (Nat.le_add_right _ _)) hl
  rw [show ent E (wr I q a.toNat b) J R q = .inl (eA E 0, z, .inl (fun i => Int32.ofInt (wr I q a.toNat b q i))) by unfold ent; rw [hs]; rfl]
  show H1[eB E + q]? = some (vp_cell _ _)
  rw [e1, ix_cl h0 (by omega), vp_cell_i, vp_cell_i, arrV_store]
  congr 2
  funext j
  by_cases hj : j = a.toNat <;> simp [updV, wr, hj]
theorem G_bast {q z : Nat} {a b : Int} (d : decode cc pc = .ok (.bastore, 1)) (hs : shp q = .inr (2, z)) (hq : q < M) (hz : z < 2147483648) (h0 : 0 ≤ a) (h1 : a < z) (hb : -128 ≤ b ∧ b < 128) (kk : G E rm own cc nL ret X Z M (wr I q a.toNat b) J R k n (pc + 1) lv st) : G E rm own cc nL ret X Z M I J R k n pc lv (vi b :: vi a :: vr E q :: st) := by
  intro p e s m args below meth cd C H locs ls hW hS hl
  have hat := hW.2 q hq
  rw [show ent E I J R q = .inl (eA E 2, z, .inl (fun i => Int32.ofInt (I q i))) by unfold ent; rw [hs]; rfl] at hat
  refine W.bast C.1 C.2.1 hat ((C.2.2.2.2.2.2.2.1.2 2 _ rfl).1 z (fun j => .int (Int32.ofInt (I q j)))) (fun q => by cases q) (by show ¬ (_ ∨ (arrV _ _ _).slots.size ≤ _); rw [arrV_size]; exact ix_in h0 h1 hz) rfl rfl d fun H1 e1 e2 e3 => ?_
  refine kk p e s m args below meth cd C H1 _ ls (hW.moved (k := q) e2 e3 (fun j hj => wr_o hj) (fun _ _ => rfl) (fun _ _ => rfl) ?_) (hS.put e2 e3 (Nat.le_add_right _ _)) hl
  rw [show ent E (wr I q a.toNat b) J R q = .inl (eA E 2, z, .inl (fun i => Int32.ofInt (wr I q a.toNat b q i))) by unfold ent; rw [hs]; rfl]
  show H1[eB E + q]? = some (vp_cell _ _)
  have hnar : narrow .byte (.int (Int32.ofInt b)) = .int (Int32.ofInt b) := by
    show Value.int (Int32.ofInt b).toInt8.toInt32 = _
    rw [i2b_eq, Int.bmod_eq_of_le (by omega) (by omega)]
  rw [e1, hnar, ix_cl h0 (by omega), vp_cell_i, vp_cell_i, arrV_store]
  congr 2
  funext j
  by_cases hj : j = a.toNat <;> simp [updV, wr, hj]
theorem G_zast {q z : Nat} {a b : Int} (d : decode cc pc = .ok (.bastore, 1)) (hs : shp q = .inr (3, z)) (hq : q < M) (hz : z < 2147483648) (h0 : 0 ≤ a) (h1 : a < z) (hb : b = 0 ∨ b = 1) (kk : G E rm own cc nL ret X Z M (wr I q a.toNat b) J R k n (pc + 1) lv st) : G E rm own cc nL ret X Z M I J R k n pc lv (vi b :: vi a :: vr E q :: st) := by
  intro p e s m args below meth cd C H locs ls hW hS hl
  have hat := hW.2 q hq
  rw [show ent E I J R q = .inl (eA E 3, z, .inl (fun i => Int32.ofInt (I q i))) by unfold ent; rw [hs]; rfl] at hat
  refine W.zast C.1 C.2.1 hat ((C.2.2.2.2.2.2.2.1.2 3 _ rfl).1 z (fun j => .int (Int32.ofInt (I q j)))) (fun q => by cases q) (by show ¬ (_ ∨ (arrV _ _ _).slots.size ≤ _); rw [arrV_size]; exact ix_in h0 h1 hz) rfl rfl d fun H1 e1 e2 e3 => ?_
  refine kk p e s m args below meth cd C H1 _ ls (hW.moved (k := q) e2 e3 (fun j hj => wr_o hj) (fun _ _ => rfl) (fun _ _ => rfl) ?_) (hS.put e2 e3 (Nat.le_add_right _ _)) hl
  rw [show ent E (wr I q a.toNat b) J R q = .inl (eA E 3, z, .inl (fun i => Int32.ofInt (wr I q a.toNat b q i))) by unfold ent; rw [hs]; rfl]
  show H1[eB E + q]? = some (vp_cell _ _)
  have hnar : narrow .boolean (.int (Int32.ofInt b)) = .int (Int32.ofInt b) := by rcases hb with rfl | rfl <;> rfl
  rw [e1, hnar, ix_cl h0 (by omega), vp_cell_i, vp_cell_i, arrV_store]
  congr 2
  funext j
  by_cases hj : j = a.toNat <;> simp [updV, wr, hj]
theorem G_last {q z : Nat} {a b : Int} (d : decode cc pc = .ok (.lastore, 1)) (hs : shp q = .inr (1, z)) (hq : q < M) (hz : z < 2147483648) (h0 : 0 ≤ a) (h1 : a < z) (kk : G E rm own cc nL ret X Z M I (wr J q a.toNat b) R k n (pc + 1) lv st) : G E rm own cc nL ret X Z M I J R k n pc lv (vl b :: vi a :: vr E q :: st) := by
  intro p e s m args below meth cd C H locs ls hW hS hl
  have hat := hW.2 q hq
  rw [show ent E I J R q = .inl (eA E 1, z, .inr (.inl (fun i => Int64.ofInt (J q i)))) by unfold ent; rw [hs]; rfl] at hat
  refine W.last C.1 C.2.1 hat ((C.2.2.2.2.2.2.2.1.2 1 _ rfl).1 z (fun j => .long (Int64.ofInt (J q j)))) (fun q => by cases q) (by show ¬ (_ ∨ (arrV _ _ _).slots.size ≤ _); rw [arrV_size]; exact ix_in h0 h1 hz) rfl rfl d fun H1 e1 e2 e3 => ?_
  refine kk p e s m args below meth cd C H1 _ ls (hW.moved (k := q) e2 e3 (fun _ _ => rfl) (fun j hj => wr_o hj) (fun _ _ => rfl) ?_) (hS.put e2 e3 (Nat.le_add_right _ _)) hl
  rw [show ent E I (wr J q a.toNat b) R q = .inl (eA E 1, z, .inr (.inl (fun i => Int64.ofInt (wr J q a.toNat b q i)))) by unfold ent; rw [hs]; rfl]
  show H1[eB E + q]? = some (vp_cell _ _)
  rw [e1, ix_cl h0 (by omega), vp_cell_l, vp_cell_l, arrV_store]
  congr 2
  funext j
  by_cases hj : j = a.toNat <;> simp [updV, wr, hj]
theorem G_ldc2 {idx : Nat} {a : Int} (d : decode cc pc = .ok (.ldc2_w idx, 3)) (hw : Cond.constantLong own idx (Int64.ofInt a) ∈ gtb) (kk : G E rm own cc nL ret X Z M I J R k n (pc + 3) lv (vl a :: st)) : G E rm own cc nL ret X Z M I J R k n pc lv st := by
  intro p e s m args below meth cd C H locs ls hW hS hl
  exact W.ldc2 C.1 C.2.1 C.2.2.2.1 (C.2.2.2.2.1 _ hw) rfl d (kk p e s m args below meth cd C H locs ls hW hS hl)
theorem G_dup2 {va vb : Value} (d : decode cc pc = .ok (.dup2, 1)) (h : va.category = 1) (h2 : vb.category = 1) (kk : G E rm own cc nL ret X Z M I J R k n (pc + 1) lv (va :: vb :: va :: vb :: st)) : G E rm own cc nL ret X Z M I J R k n pc lv (va :: vb :: st) := by
  intro p e s m args below meth cd C H locs ls hW hS hl
  exact lv_dup2_11 C.1 C.2.1 d h h2 (kk p e s m args below meth cd C H locs ls hW hS hl)
/-! two longs compared, and the branch on it -/
theorem lc_eq {a b : Int} (ha : Rl a) (hb : Rl b) : lg_cmp (Int64.ofInt a) (Int64.ofInt b) = Int32.ofInt (if b < a then 1 else if a = b then 0 else -1) := by
  unfold lg_cmp
  by_cases h : b < a
  · rw [if_pos ((l_lt hb ha).mpr h), if_pos h]; rfl
  · rw [if_neg (fun z => h ((l_lt hb ha).mp z)), if_neg h]
    by_cases h2 : a = b
    · rw [if_pos ((l_eq ha hb).mpr h2), if_pos h2]; rfl
    · rw [if_neg (fun z => h2 ((l_eq ha hb).mp z)), if_neg h2]; rfl
theorem G_lcmp {a b : Int} (d : decode cc pc = .ok (.lcmp, 1)) (ha : Rl a) (hb : Rl b) (kk : G E rm own cc nL ret X Z M I J R k n (pc + 1) lv (vi (if b < a then 1 else if a = b then 0 else -1) :: st)) : G E rm own cc nL ret X Z M I J R k n pc lv (vl b :: vl a :: st) := by
  intro p e s m args below meth cd C H locs ls hW hS hl
  refine W.lcmp C.1 C.2.1 d ?_
  rw [lc_eq ha hb]
  exact kk p e s m args below meth cd C H locs ls hW hS hl
theorem lc_R {a b : Int} : Ri (if b < a then 1 else if a = b then 0 else -1) := by
  apply Ri.mk <;> (split <;> try split) <;> omega
theorem lc_n {a b : Int} {P Q : Prop} (x : Int) (hx : (if b < a then 1 else if a = b then 0 else -1) = x) (h : (b < a ∧ x = 1) ∨ (a = b ∧ x = 0) ∨ (a < b ∧ x = -1) → P) : P := h (by
  by_cases h1 : b < a
  · rw [if_pos h1] at hx; exact Or.inl ⟨h1, hx.symm⟩
  · rw [if_neg h1] at hx
    by_cases h2 : a = b
    · rw [if_pos h2] at hx; exact Or.inr (Or.inl ⟨h2, hx.symm⟩)
    · rw [if_neg h2] at hx; exact Or.inr (Or.inr ⟨by omega, hx.symm⟩))
theorem G_lc_eq {tgt : Nat} {off : Int} {a b : Int} (d : decode cc pc = .ok (.lcmp, 1)) (d2 : decode cc (pc + 1) = .ok (.ifCond .eq off, 3)) (ha : Rl a) (hb : Rl b) (ht : ((pc + 1 : Nat) : Int) + off = (tgt : Int)) (kt : a = b → G E rm own cc nL ret X Z M I J R k n tgt lv st) (kf : a ≠ b → G E rm own cc nL ret X Z M I J R k n (pc + 4) lv st) : G E rm own cc nL ret X Z M I J R k n pc lv (vl b :: vl a :: st) := by
  refine G_lcmp d ha hb (G_if_eq d2 lc_R ht (fun h => kt ?_) (fun h => kf ?_))
  · split at h <;> (try split at h) <;> omega
  · split at h <;> (try split at h) <;> omega
theorem G_lc_ne {tgt : Nat} {off : Int} {a b : Int} (d : decode cc pc = .ok (.lcmp, 1)) (d2 : decode cc (pc + 1) = .ok (.ifCond .ne off, 3)) (ha : Rl a) (hb : Rl b) (ht : ((pc + 1 : Nat) : Int) + off = (tgt : Int)) (kt : a ≠ b → G E rm own cc nL ret X Z M I J R k n tgt lv st) (kf : a = b → G E rm own cc nL ret X Z M I J R k n (pc + 4) lv st) : G E rm own cc nL ret X Z M I J R k n pc lv (vl b :: vl a :: st) := by
  refine G_lcmp d ha hb (G_if_ne d2 lc_R ht (fun h => kt ?_) (fun h => kf ?_))
  · split at h <;> (try split at h) <;> omega
  · split at h <;> (try split at h) <;> omega
theorem G_lc_lt {tgt : Nat} {off : Int} {a b : Int} (d : decode cc pc = .ok (.lcmp, 1)) (d2 : decode cc (pc + 1) = .ok (.ifCond .lt off, 3)) (ha : Rl a) (hb : Rl b) (ht : ((pc + 1 : Nat) : Int) + off = (tgt : Int)) (kt : a < b → G E rm own cc nL ret X Z M I J R k n tgt lv st) (kf : b ≤ a → G E rm own cc nL ret X Z M I J R k n (pc + 4) lv st) : G E rm own cc nL ret X Z M I J R k n pc lv (vl b :: vl a :: st) := by
  refine G_lcmp d ha hb (G_if_lt d2 lc_R ht (fun h => kt ?_) (fun h => kf ?_))
  · split at h <;> (try split at h) <;> omega
  · split at h <;> (try split at h) <;> omega
theorem G_lc_ge {tgt : Nat} {off : Int} {a b : Int} (d : decode cc pc = .ok (.lcmp, 1)) (d2 : decode cc (pc + 1) = .ok (.ifCond .ge off, 3)) (ha : Rl a) (hb : Rl b) (ht : ((pc + 1 : Nat) : Int) + off = (tgt : Int)) (kt : b ≤ a → G E rm own cc nL ret X Z M I J R k n tgt lv st) (kf : a < b → G E rm own cc nL ret X Z M I J R k n (pc + 4) lv st) : G E rm own cc nL ret X Z M I J R k n pc lv (vl b :: vl a :: st) := by
  refine G_lcmp d ha hb (G_if_ge d2 lc_R ht (fun h => kt ?_) (fun h => kf ?_))
  · split at h <;> (try split at h) <;> omega
  · split at h <;> (try split at h) <;> omega
theorem G_lc_gt {tgt : Nat} {off : Int} {a b : Int} (d : decode cc pc = .ok (.lcmp, 1)) (d2 : decode cc (pc + 1) = .ok (.ifCond .gt off, 3)) (ha : Rl a) (hb : Rl b) (ht : ((pc + 1 : Nat) : Int) + off = (tgt : Int)) (kt : b < a → G E rm own cc nL ret X Z M I J R k n tgt lv st) (kf : a ≤ b → G E rm own cc nL ret X Z M I J R k n (pc + 4) lv st) : G E rm own cc nL ret X Z M I J R k n pc lv (vl b :: vl a :: st) := by
  refine G_lcmp d ha hb (G_if_gt d2 lc_R ht (fun h => kt ?_) (fun h => kf ?_))
  · split at h <;> (try split at h) <;> omega
  · split at h <;> (try split at h) <;> omega
theorem G_lc_le {tgt : Nat} {off : Int} {a b : Int} (d : decode cc pc = .ok (.lcmp, 1)) (d2 : decode cc (pc + 1) = .ok (.ifCond .le off, 3)) (ha : Rl a) (hb : Rl b) (ht : ((pc + 1 : Nat) : Int) + off = (tgt : Int)) (kt : a ≤ b → G E rm own cc nL ret X Z M I J R k n tgt lv st) (kf : b < a → G E rm own cc nL ret X Z M I J R k n (pc + 4) lv st) : G E rm own cc nL ret X Z M I J R k n pc lv (vl b :: vl a :: st) := by
  refine G_lcmp d ha hb (G_if_le d2 lc_R ht (fun h => kt ?_) (fun h => kf ?_))
  · split at h <;> (try split at h) <;> omega
  · split at h <;> (try split at h) <;> omega
/-! ends -/
theorem G_iret {Q : Option Value → (Nat → Nat → Int) → (Nat → Nat → Int) → Prop} {a : Int} (d : decode cc pc = .ok (.ireturn, 1)) (hr : ret = some .int) (hq : Q (some (vi a)) I J) : G E rm own cc nL ret X (ZM E M R Q k n) M I J R k n pc lv [vi a] := by
  intro p e s m args below meth cd C H locs ls hW hS hl
  exact W.iret C.1 C.2.1 (C.2.2.2.2.2.1.trans hr) (fun t ht _ => ⟨⟨_, I, J, rfl, hq, by rw [ht]; exact hW⟩, hS.F ht⟩) hS.2.2 d C.2.2.2.2.2.2.1
theorem G_zret {Q : Option Value → (Nat → Nat → Int) → (Nat → Nat → Int) → Prop} {a : Int} (d : decode cc pc = .ok (.ireturn, 1)) (hr : ret = some .boolean) (ha : a = 0 ∨ a = 1) (hq : Q (some (vi a)) I J) : G E rm own cc nL ret X (ZM E M R Q k n) M I J R k n pc lv [vi a] := by
  intro p e s m args below meth cd C H locs ls hW hS hl
  exact W.zret C.1 C.2.1 (C.2.2.2.2.2.1.trans hr) (by rcases ha with rfl | rfl <;> rfl) (fun t ht _ => ⟨⟨_, I, J, rfl, hq, by rw [ht]; exact hW⟩, hS.F ht⟩) hS.2.2 d C.2.2.2.2.2.2.1
theorem G_lret {Q : Option Value → (Nat → Nat → Int) → (Nat → Nat → Int) → Prop} {a : Int} (d : decode cc pc = .ok (.lreturn, 1)) (hr : ret = some .long) (hq : Q (some (vl a)) I J) : G E rm own cc nL ret X (ZM E M R Q k n) M I J R k n pc lv [vl a] := by
  intro p e s m args below meth cd C H locs ls hW hS hl
  exact W.lret C.1 C.2.1 (C.2.2.2.2.2.1.trans hr) (fun t ht _ => ⟨⟨_, I, J, rfl, hq, by rw [ht]; exact hW⟩, hS.F ht⟩) hS.2.2 d C.2.2.2.2.2.2.1
theorem G_vret {Q : Option Value → (Nat → Nat → Int) → (Nat → Nat → Int) → Prop} (d : decode cc pc = .ok (.return_, 1)) (hr : ret = none) (hq : Q none I J) : G E rm own cc nL ret X (ZM E M R Q k n) M I J R k n pc lv [] := by
  intro p e s m args below meth cd C H locs ls hW hS hl
  exact W.vret C.1 C.2.1 (C.2.2.2.2.2.1.trans hr) (fun t ht _ => ⟨⟨_, I, J, rfl, hq, by rw [ht]; exact hW⟩, hS.F ht⟩) hS.2.2 d C.2.2.2.2.2.2.1
theorem G_aret {Q : Option Value → (Nat → Nat → Int) → (Nat → Nat → Int) → Prop} {a : Nat} {cn : String} (d : decode cc pc = .ok (.areturn, 1)) (hr : ret = some (.object cn)) (hq : Q (some (.ref a)) I J) : G E rm own cc nL ret X (ZM E M R Q k n) M I J R k n pc lv [.ref a] := by
  intro p e s m args below meth cd C H locs ls hW hS hl
  exact W.aret C.1 C.2.1 (C.2.2.2.2.2.1.trans hr) (Or.inl ⟨_, rfl⟩) (Or.inr ⟨_, rfl⟩) (fun t ht _ => ⟨⟨_, I, J, rfl, hq, by rw [ht]; exact hW⟩, hS.F ht⟩) hS.2.2 d C.2.2.2.2.2.2.1
/-! calls -/
theorem call_go {p : Program} {l : Launch} {e : Env} {s : State} {m : MethodId} {args : Array Value} {below : List Frame} {meth : Method} {c : Code} {H : Heap} {locs : List Loc} {k n mc ms : Nat} {ls : Array Slot} {st0 rest : List Value} {a : Array Value} {M' : Nat} {R' : Nat → Nat → Option Nat} {Q : Option Value → (Nat → Nat → Int) → (Nat → Nat → Int) → Prop} {H0 : Heap} {Zq : State → Prop} {rm : Room}
    (hr : va_Run p l e rm s m args below meth c H locs k n mc ms (F0 m pc ls st0) rest (QC E M' R' Q a) (aB E)) (hS : va_S (aB E) H0 H locs)
    (kk : ∀ (v : Option Value) (I' J' : Nat → Nat → Int) (H1 : Heap) (locs1 : List Loc), Q v I' J' → World E M' I' J' R' H1 → va_S (aB E) H0 H1 locs1 → W p l e rm s m args below meth c H1 locs1 (k + mc) (n + ms) Zq (F0 m (pc + 3) ls (v.toList ++ rest))) : W p l e rm s m args below meth c H locs k n Zq (F0 m pc ls st0) := by
  intro T hT X
  obtain ⟨v, st₀, t, T', L, h0, X', hL, e1, e2, ⟨⟨v', I', J', hv, hq, hw⟩, hz, hk⟩, st⟩ := hr T hT X
  cases hv
  rw [h0] at hz hk
  obtain ⟨t2, a1, b1⟩ := kk v I' J' T'.heap (locs ++ L) hq (by rw [e1]; exact hw)
    ⟨Nat.le_trans hS.1 (by rw [e1]; exact hz), fun q h1 h2 => by rw [e1, hk q (Nat.lt_of_lt_of_le h1 hS.1) h2]; exact hS.2.1 q h1 h2, fun q hq => by
      rcases List.mem_append.mp hq with h | h
      · exact hS.2.2 q h
      · exact hL q h⟩ T' rfl X'
  exact ⟨t2, st t2 a1, b1⟩
theorem preS_of {av : List Value} {H : Heap} {s : State} (hW : World E M I J R H) (hK : va_K (eD E) vwCl (tysE E) s) (hN : NW s) : PreS s H (PC E M I J R av) av := ⟨PC.blind, fun U hU hw => ⟨rfl, by rw [hU]; exact hW, va_K.moved hw.alike hK, hN.warm hw⟩⟩
theorem callB_mk {md : MD} {h N idx : Nat} {args : Array Value} {s : State} {rm0 : Room} (hts : ∀ w ∈ gtb, w.before args s = true) (hw : MW md N) (hl : (Cond.methodLink own idx md.1).before args s = true) (hroom : h + 1 ≤ rm0.frames ∧ 8 + (md.2.2.1 + 11) + 36 * h ≤ rm0.locals) : CallB rm0 s args own idx md.1 md.2.1 md.2.2.1 md.2.2.2 (mws md) (rmh h 0 0) 0 0 N := by
  obtain ⟨h1, h2, h3, h4⟩ := hw
  refine ⟨rfl, rfl, hroom.1, hroom.2, pay_tbl hts (fun w hw => ?_), List.mem_cons_self, hts _ h1, hts _ h2, h3, fun sig hs => ?_, hl⟩
  · rcases List.mem_cons.mp hw with h | h
    · rw [h]; exact h1
    · exact h
  · rw [hs] at h4; exact (Option.some.inj h4).symm
theorem callN_mk {md : MD} {h N idx : Nat} {host : String} {args : Array Value} {s : State} {rm0 : Room} (hts : ∀ w ∈ gtb, w.before args s = true) (hw : MW md N) (hl : (Cond.methodLinkNest own idx md.1 host).before args s = true) (hroom : h + 1 ≤ rm0.frames ∧ 8 + (md.2.2.1 + 11) + 36 * h ≤ rm0.locals) : va_CN rm0 s args own idx md.1 host md.2.1 md.2.2.1 md.2.2.2 (mws md) (rmh h 0 0) 0 0 N := by
  obtain ⟨h1, h2, h3, h4⟩ := hw
  refine ⟨⟨rfl, rfl, hroom.1, hroom.2, pay_tbl hts (fun w hw => ?_), List.mem_cons_self⟩, hts _ h1, hts _ h2, h3, fun sig hs => ?_, hl⟩
  · rcases List.mem_cons.mp hw with h | h
    · rw [h]; exact h1
    · exact h
  · rw [hs] at h4; exact (Option.some.inj h4).symm
theorem G_callV {md : MD} {h N idx ci q0 : Nat} {av rest : List Value} {Q : Option Value → (Nat → Nat → Int) → (Nat → Nat → Int) → Prop} {T : u_T} {NF : Nat} (d : decode cc pc = .ok (.invokevirtual idx, 3)) (hlk : LK own idx md.1) (hw : MWV md N) (hF : FnQ E md h M R (vr E q0 :: av) I J Q) (hci : vwCl[ci]? = some (md.1.cls, T, NF)) (hs : shp q0 = .inl ci) (hq : q0 < M) (hav : av.length = N) (hst : st = av.reverse ++ vr E q0 :: rest) (hcat : (rest.map fun v => v.category).sum ≤ 8) (hroom : h + 1 ≤ rm.frames ∧ 8 + (md.2.2.1 + 11) + 36 * h ≤ rm.locals) (hcs : k ≤ rm.cells ∧ n ≤ rm.slots)
    (kk : ∀ (v : Option Value) (I' J' : Nat → Nat → Int), Q v I' J' → G E rm own cc nL ret X Z M I' J' R k n (pc + 3) lv (v.toList ++ rest)) : G E rm own cc nL ret X Z M I J R k n pc lv st := by
  intro p e s m args below meth cd C H locs ls hW hS hl
  have hts := C.2.2.2.2.1
  have hK := C.2.2.2.2.2.2.2.1
  have hrecv := va_recv hK (hW.at hq (e := .inr (ci, fvs (eB E) I J R q0 (ftl ci) 0)) (by unfold ent; rw [hs])) hci (q0 := 0) rfl
  have hpre : PreV s H md.1.cls (eB E + q0) (PC E M I J R (vr E q0 :: av)) av := ⟨PC.blind, hrecv, (preS_of hW hK C.2.2.2.2.2.2.2.2.2.1).2⟩
  have hfix : CallFix p m cd cc nL s args gtb own := ⟨C.1, C.2.1, C.2.2.1, C.2.2.2.1, hts⟩
  refine call_go (rest := rest) (mc := 0) (ms := 0) (Q := Q) (a := (vr E q0 :: av).toArray) ?_ hS (fun v I' J' H1 locs1 hqv hW1 hS1 => kk v I' J' hqv p e s m args below meth cd C H1 locs1 ls hW1 hS1 hl)
  rcases hlk with hlk | ⟨host, hlk⟩
  · exact va_runV hfix hF ⟨callB_mk hts hw.1 (hts _ hlk) hroom, hts _ hw.2.1, hts _ hw.2.2⟩ hpre rfl hav hl.1 hst (lv_room hcat) d hcs
  · exact va_runVN hfix hF ⟨callN_mk hts hw.1 (C.2.2.2.2.2.2.2.2.2.1.use hlk) hroom, hts _ hw.2.1, hts _ hw.2.2⟩ hpre rfl hav hl.1 hst (lv_room hcat) d hcs
theorem G_callS {md : MD} {h N idx : Nat} {av rest : List Value} {Q : Option Value → (Nat → Nat → Int) → (Nat → Nat → Int) → Prop} (d : decode cc pc = .ok (.invokestatic idx, 3)) (hlk : LK own idx md.1) (hw : MWS md N) (hF : FnQ E md h M R av I J Q) (hav : av.length = N) (hst : st = av.reverse ++ rest) (hcat : (rest.map fun v => v.category).sum ≤ 8) (hroom : h + 1 ≤ rm.frames ∧ 8 + (md.2.2.1 + 11) + 36 * h ≤ rm.locals) (hcs : k ≤ rm.cells ∧ n ≤ rm.slots)
    (kk : ∀ (v : Option Value) (I' J' : Nat → Nat → Int), Q v I' J' → G E rm own cc nL ret X Z M I' J' R k n (pc + 3) lv (v.toList ++ rest)) : G E rm own cc nL ret X Z M I J R k n pc lv st := by
  intro p e s m args below meth cd C H locs ls hW hS hl
  have hts := C.2.2.2.2.1
  have hK := C.2.2.2.2.2.2.2.1
  have hfix : CallFix p m cd cc nL s args gtb own := ⟨C.1, C.2.1, C.2.2.1, C.2.2.2.1, hts⟩
  refine call_go (rest := rest) (mc := 0) (ms := 0) (Q := Q) (a := av.toArray) ?_ hS (fun v I' J' H1 locs1 hqv hW1 hS1 => kk v I' J' hqv p e s m args below meth cd C H1 locs1 ls hW1 hS1 hl)
  rcases hlk with hlk | ⟨host, hlk⟩
  · exact va_runS hfix hF ⟨callB_mk hts hw.1 (hts _ hlk) hroom, hts _ hw.2⟩ (preS_of hW hK C.2.2.2.2.2.2.2.2.2.1) rfl hav hl.1 hst (lv_room hcat) d hcs
  · exact va_runSN hfix hF ⟨callN_mk hts hw.1 (C.2.2.2.2.2.2.2.2.2.1.use hlk) hroom, hts _ hw.2, trivial⟩ (preS_of hW hK C.2.2.2.2.2.2.2.2.2.1) rfl hav hl.1 hst (lv_room hcat) d hcs
/-! bits, shifts, switches, Math -/
theorem G_ior {a b : Nat} (d : decode cc pc = .ok (.ior, 1)) (ha : a < 2147483648) (hb : b < 2147483648) (kk : G E rm own cc nL ret X Z M I J R k n (pc + 1) lv (vi ((a ||| b : Nat) : Int) :: st)) : G E rm own cc nL ret X Z M I J R k n pc lv (vi (b : Int) :: vi (a : Int) :: st) := by
  intro p e s m args below meth cd C H locs ls hW hS hl
  refine lv_ior C.1 C.2.1 d ?_
  rw [show Int32.ofInt (a : Int) ||| Int32.ofInt (b : Int) = Int32.ofInt ((a ||| b : Nat) : Int) by
    rw [Int32.ofInt_eq_ofNat, Int32.ofInt_eq_ofNat, Int32.ofInt_eq_ofNat]
    apply Int32.toBitVec_inj.1
    simp]
  exact kk p e s m args below meth cd C H locs ls hW hS hl
theorem ishl_key {b : Nat} (hb : b < 31) : ((Int32.ofNat b &&& 31).toBitVec.smod 32).toNat = b := by
  rcases (show b = 0 ∨ b = 1 ∨ b = 2 ∨ b = 3 ∨ b = 4 ∨ b = 5 ∨ b = 6 ∨ b = 7 ∨ b = 8 ∨ b = 9 ∨ b = 10 ∨ b = 11 ∨ b = 12 ∨ b = 13 ∨ b = 14 ∨ b = 15 ∨ b = 16 ∨ b = 17 ∨ b = 18 ∨ b = 19 ∨ b = 20 ∨ b = 21 ∨ b = 22 ∨ b = 23 ∨ b = 24 ∨ b = 25 ∨ b = 26 ∨ b = 27 ∨ b = 28 ∨ b = 29 ∨ b = 30 by omega) with rfl | rfl | rfl | rfl | rfl | rfl | rfl | rfl | rfl | rfl | rfl | rfl | rfl | rfl | rfl | rfl | rfl | rfl | rfl | rfl | rfl | rfl | rfl | rfl | rfl | rfl | rfl | rfl | rfl | rfl | rfl <;> decide
theorem G_ishl {a b : Nat} (d : decode cc pc = .ok (.ishl, 1)) (hb : b < 31) (kk : G E rm own cc nL ret X Z M I J R k n (pc + 1) lv (vi ((a * 2 ^ b : Nat) : Int) :: st)) : G E rm own cc nL ret X Z M I J R k n pc lv (vi (b : Int) :: vi (a : Int) :: st) := by
  intro p e s m args below meth cd C H locs ls hW hS hl
  refine lv_ishl C.1 C.2.1 d ?_
  rw [show Int32.ofInt (a : Int) <<< (Int32.ofInt (b : Int) &&& 31) = Int32.ofInt ((a * 2 ^ b : Nat) : Int) by
    rw [Int32.ofInt_eq_ofNat, Int32.ofInt_eq_ofNat, Int32.ofInt_eq_ofNat]
    apply Int32.toBitVec_inj.1
    apply BitVec.eq_of_toNat_eq
    rw [pk_shl _ _ _ (ishl_key hb)]
    simp]
  exact kk p e s m args below meth cd C H locs ls hW hS hl
theorem lushr_eq (a : Int) (b : Nat) (y : UInt64) (hy : y.toNat % 64 = b) : ((Int64.ofInt a).toUInt64 >>> y).toInt64 = Int64.ofInt ((a % 18446744073709551616) / (2 : Int) ^ b) := by
  apply Int64.toBitVec_inj.1
  apply BitVec.eq_of_toNat_eq
  have h0 : (Int64.ofInt a).toUInt64.toNat = (a % 18446744073709551616).toNat := BitVec.toNat_ofInt a
  show ((Int64.ofInt a).toUInt64 >>> y).toNat = (BitVec.ofInt 64 _).toNat
  rw [UInt64.toNat_shiftRight, hy, h0, BitVec.toNat_ofInt, Nat.shiftRight_eq_div_pow]
  have h1 : 0 ≤ a % 18446744073709551616 := Int.emod_nonneg _ (by decide)
  have h2 : a % 18446744073709551616 < 18446744073709551616 := Int.emod_lt_of_pos _ (by decide)
  generalize a % 18446744073709551616 = x at h1 h2
  obtain ⟨n, rfl⟩ := Int.eq_ofNat_of_zero_le h1
  have h3 : ((n : Int) / (2 : Int) ^ b) = ((n / 2 ^ b : Nat) : Int) := by rw [Int.natCast_ediv]; simp
  rw [h3, Int.toNat_natCast]
  have h4 : n / 2 ^ b ≤ n := Nat.div_le_self _ _
  generalize n / 2 ^ b = w at h4
  rw [Int.emod_eq_of_lt (by omega) (by simp; omega), Int.toNat_natCast]
theorem G_lushr {a : Int} {b : Nat} (d : decode cc pc = .ok (.lushr, 1)) (hb : b = 0 ∨ b = 8 ∨ b = 16 ∨ b = 24 ∨ b = 32 ∨ b = 40 ∨ b = 48 ∨ b = 56) (kk : G E rm own cc nL ret X Z M I J R k n (pc + 1) lv (vl ((a % 18446744073709551616) / (2 : Int) ^ b) :: st)) : G E rm own cc nL ret X Z M I J R k n pc lv (vi (b : Int) :: vl a :: st) := by
  intro p e s m args below meth cd C H locs ls hW hS hl
  refine lv_lushr C.1 C.2.1 d (v := Int64.ofInt ((a % 18446744073709551616) / (2 : Int) ^ b)) (lushr_eq a b _ ?_) (kk p e s m args below meth cd C H locs ls hW hS hl)
  rcases hb with rfl | rfl | rfl | rfl | rfl | rfl | rfl | rfl <;> decide
theorem G_lshr {a : Int} {b : Nat} (d : decode cc pc = .ok (.lshr, 1)) (ha : Rl a) (hb : b = 0 ∨ b = 8 ∨ b = 16 ∨ b = 24 ∨ b = 32 ∨ b = 40 ∨ b = 48 ∨ b = 56) (kk : G E rm own cc nL ret X Z M I J R k n (pc + 1) lv (vl (a / (2 : Int) ^ b) :: st)) : G E rm own cc nL ret X Z M I J R k n pc lv (vi (b : Int) :: vl a :: st) := by
  intro p e s m args below meth cd C H locs ls hW hS hl
  refine lv_lshr C.1 C.2.1 d (v := Int64.ofInt (a / (2 : Int) ^ b)) ?_ (kk p e s m args below meth cd C H locs ls hW hS hl)
  have key : ∀ y : Int64, ((y.toBitVec.smod 64).toNat = b) → Int64.ofInt a >>> y = Int64.ofInt (a / (2 : Int) ^ b) := by
    intro y hy
    apply Int64.toInt.inj
    have hp : (0 : Int) < 2 ^ b := Int.pow_pos (by decide)
    have h1 := ha.lo
    have h2 := ha.hi
    have h3 : a / (2 : Int) ^ b ≤ 9223372036854775807 := by
      refine Int.le_trans (Int.ediv_le_ediv hp h2) (Int.ediv_le_self _ (by decide))
    have h4 : -9223372036854775808 ≤ a / (2 : Int) ^ b := by
      rw [Int.le_ediv_iff_mul_le hp]
      have : (1 : Int) ≤ 2 ^ b := by omega
      have := Int.mul_le_mul_of_nonneg_left this (show (0 : Int) ≤ 9223372036854775808 by decide)
      omega
    rw [l_toInt (Rl.mk h4 h3)]
    rw [← Int64.toInt_toBitVec, Int64.toBitVec_shiftRight, BitVec.sshiftRight', BitVec.toInt_sshiftRight, hy, Int64.toInt_toBitVec, l_toInt ha, Int.shiftRight_eq_div_pow]
    simp
  refine key _ ?_
  rcases hb with rfl | rfl | rfl | rfl | rfl | rfl | rfl | rfl <;> decide
theorem G_lookup {dflt : Int} {ps : Array (Int × Int)} {len : Nat} {a off : Int} {tgt : Nat} (d : decode cc pc = .ok (.lookupswitch dflt ps, len)) (ha : Ri a) (hp : (ps.toList.zip (ps.toList.drop 1)).all (fun (a, next) => a.1 < next.1) = true) (ho : Op.lookupswitch.offset ps.toList dflt a = off) (ht : (pc : Int) + off = (tgt : Int)) (kk : G E rm own cc nL ret X Z M I J R k n tgt lv st) : G E rm own cc nL ret X Z M I J R k n pc lv (vi a :: st) := by
  intro p e s m args below meth cd C H locs ls hW hS hl
  exact lv_lookup C.1 C.2.1 d hp (by rw [i_toInt ha]; exact ho) ht (kk p e s m args below meth cd C H locs ls hW hS hl)
theorem G_tableOut {dflt lo hi : Int} {offs : Array Int} {len : Nat} {a : Int} {tgt : Nat} (d : decode cc pc = .ok (.tableswitch dflt lo hi offs, len)) (ha : Ri a) (h : a < lo ∨ hi < a) (ht : (pc : Int) + dflt = (tgt : Int)) (kk : G E rm own cc nL ret X Z M I J R k n tgt lv st) : G E rm own cc nL ret X Z M I J R k n pc lv (vi a :: st) := by
  intro p e s m args below meth cd C H locs ls hW hS hl
  exact lv_tableOut C.1 C.2.1 d (by rw [i_toInt ha]; exact h) ht (kk p e s m args below meth cd C H locs ls hW hS hl)
theorem G_tableIn {dflt lo hi : Int} {offs : Array Int} {len : Nat} {a off : Int} {tgt : Nat} (d : decode cc pc = .ok (.tableswitch dflt lo hi offs, len)) (ha : Ri a) (h1 : lo ≤ a) (h2 : a ≤ hi) (ho : offs[(a - lo).toNat]? = some off) (ht : (pc : Int) + off = (tgt : Int)) (kk : G E rm own cc nL ret X Z M I J R k n tgt lv st) : G E rm own cc nL ret X Z M I J R k n pc lv (vi a :: st) := by
  intro p e s m args below meth cd C H locs ls hW hS hl
  exact lv_tableIn C.1 C.2.1 d (by rw [i_toInt ha]; omega) (by rw [i_toInt ha]; omega) (by rw [i_toInt ha]; exact ho) ht (kk p e s m args below meth cd C H locs ls hW hS hl)
theorem G_mmin {idx : Nat} {a b : Int} (d : decode cc pc = .ok (.invokestatic idx, 3)) (w1 : Cond.methodLink own idx Lib.Math.min.name ∈ gtb) (w2 : Cond.static Lib.Math.min.name ∈ gtb) (w3 : Cond.initialized "java/lang/Math" ∈ gtb) (w4 : Cond.code Lib.Math.min.name Lib.Math.min.code 2 (some .int) ∈ gtb) (ha : Ri a) (hb : Ri b) (hr : 1 ≤ rm.frames ∧ (st.map fun v => v.category).sum + 13 ≤ rm.locals) (hcs : k ≤ rm.cells ∧ n ≤ rm.slots)
    (kk : G E rm own cc nL ret X Z M I J R k n (pc + 3) lv (vi (if b < a then b else a) :: st)) : G E rm own cc nL ret X Z M I J R k n pc lv (vi b :: vi a :: st) := by
  intro p e s m args below meth cd C H locs ls hW hS hl
  have hts := C.2.2.2.2.1
  refine va_mmin C.1 C.2.1 (C.2.2.1.trans hl.1.symm) C.2.2.2.1 (hts _ w1) (hts _ w2) (hts _ w3) (hts _ w4) hr.1 hr.2 hcs.1 hcs.2 d ?_
  have := kk p e s m args below meth cd C H locs ls hW hS hl
  by_cases h : b < a
  · rw [if_pos ((i_lt hb ha).mpr h)]; rwa [if_pos h] at this
  · rw [if_neg (fun z => h ((i_lt hb ha).mp z))]; rwa [if_neg h] at this
theorem G_lmax {idx : Nat} {a b : Int} (d : decode cc pc = .ok (.invokestatic idx, 3)) (w1 : Cond.methodLink own idx Lib.MathLoose.max_long.x ∈ gtb) (w2 : Cond.static Lib.MathLoose.max_long.x ∈ gtb) (w3 : Cond.initialized "java/lang/Math" ∈ gtb) (w4 : Cond.code Lib.MathLoose.max_long.x Lib.MathLoose.max_long.code 4 (some .long) ∈ gtb) (ha : Rl a) (hb : Rl b) (hr : 1 ≤ rm.frames ∧ (st.map fun v => v.category).sum + 15 ≤ rm.locals) (hcs : k ≤ rm.cells ∧ n ≤ rm.slots)
    (kk : G E rm own cc nL ret X Z M I J R k n (pc + 3) lv (vl (if b < a then a else b) :: st)) : G E rm own cc nL ret X Z M I J R k n pc lv (vl b :: vl a :: st) := by
  intro p e s m args below meth cd C H locs ls hW hS hl
  have hts := C.2.2.2.2.1
  refine va_mmax_long C.1 C.2.1 (C.2.2.1.trans hl.1.symm) C.2.2.2.1 (hts _ w1) (hts _ w2) (hts _ w3) (hts _ w4) hr.1 hr.2 hcs.1 hcs.2 d ?_
  have := kk p e s m args below meth cd C H locs ls hW hS hl
  by_cases h : b < a
  · rw [if_pos ((l_lt hb ha).mpr h)]; rwa [if_pos h] at this
  · rw [if_neg (fun z => h ((l_lt hb ha).mp z))]; rwa [if_neg h] at this

end ROWS
/-! CORE, second: rows as the scripts use them -/
section ROWS2
variable {E : EV} {rm : Room} {own : String} {cc : ByteArray} {nL : Nat} {ret : Option FieldType} {X : Method → Array Value → State → Prop} {Z : List Frame → Array Value → State → State → Prop} {M : Nat} {I J : Nat → Nat → Int} {R : Nat → Nat → Option Nat} {k n : Nat} {pc : Nat} {lv : List (Option Value)} {st : List Value}
theorem G_geti {idx c i q : Nat} {fin : Bool} (d : decode cc pc = .ok (.getfield idx, 3)) (hf : FI own idx c i 0 fin) (hs : shp q = .inl c) (hq : q < M) (kk : G E rm own cc nL ret X Z M I J R k n (pc + 3) lv (vi (I q i) :: st)) : G E rm own cc nL ret X Z M I J R k n pc lv (vr E q :: st) := G_get d hf hs hq rfl kk
theorem G_getl {idx c i q : Nat} {fin : Bool} (d : decode cc pc = .ok (.getfield idx, 3)) (hf : FI own idx c i 1 fin) (hs : shp q = .inl c) (hq : q < M) (kk : G E rm own cc nL ret X Z M I J R k n (pc + 3) lv (vl (J q i) :: st)) : G E rm own cc nL ret X Z M I J R k n pc lv (vr E q :: st) := G_get d hf hs hq rfl kk
theorem G_getr {idx c i q j : Nat} {fin : Bool} (d : decode cc pc = .ok (.getfield idx, 3)) (hf : FI own idx c i 2 fin) (hs : shp q = .inl c) (hq : q < M) (hj : R q i = some j) (kk : G E rm own cc nL ret X Z M I J R k n (pc + 3) lv (vr E j :: st)) : G E rm own cc nL ret X Z M I J R k n pc lv (vr E q :: st) := G_get d hf hs hq (by simp [fvv, hj, rvv]) kk
/-- a contract that says all: the answer r, the world behind -/
abbrev QF (r : Option Value) (I1 J1 : Nat → Nat → Int) : Option Value → (Nat → Nat → Int) → (Nat → Nat → Int) → Prop := fun v I' J' => v = r ∧ I' = I1 ∧ J' = J1
abbrev FnF (E : EV) (md : MD) (h M : Nat) (R : Nat → Nat → Option Nat) (av : List Value) (I J : Nat → Nat → Int) (r : Option Value) (I1 J1 : Nat → Nat → Int) : Prop := FnQ E md h M R av I J (QF r I1 J1)
theorem G_callV1 {md : MD} {h N idx ci q0 : Nat} {av rest : List Value} {r : Value} {I1 J1 : Nat → Nat → Int} {T : u_T} {NF : Nat} (d : decode cc pc = .ok (.invokevirtual idx, 3)) (hlk : LK own idx md.1) (hw : MWV md N) (hF : FnF E md h M R (vr E q0 :: av) I J (some r) I1 J1) (hci : vwCl[ci]? = some (md.1.cls, T, NF)) (hs : shp q0 = .inl ci) (hq : q0 < M) (hav : av.length = N) (hst : st = av.reverse ++ vr E q0 :: rest) (hcat : (rest.map fun v => v.category).sum ≤ 8) (hroom : h + 1 ≤ rm.frames ∧ 8 + (md.2.2.1 + 11) + 36 * h ≤ rm.locals) (hcs : k ≤ rm.cells ∧ n ≤ rm.slots)
    (kk : G E rm own cc nL ret X Z M I1 J1 R k n (pc + 3) lv (r :: rest)) : G E rm own cc nL ret X Z M I J R k n pc lv st :=
  G_callV d hlk hw hF hci hs hq hav hst hcat hroom hcs (fun v I' J' hv => by obtain ⟨rfl, rfl, rfl⟩ := hv; exact kk)
theorem G_callV0 {md : MD} {h N idx ci q0 : Nat} {av rest : List Value} {I1 J1 : Nat → Nat → Int} {T : u_T} {NF : Nat} (d : decode cc pc = .ok (.invokevirtual idx, 3)) (hlk : LK own idx md.1) (hw : MWV md N) (hF : FnF E md h M R (vr E q0 :: av) I J none I1 J1) (hci : vwCl[ci]? = some (md.1.cls, T, NF)) (hs : shp q0 = .inl ci) (hq : q0 < M) (hav : av.length = N) (hst : st = av.reverse ++ vr E q0 :: rest) (hcat : (rest.map fun v => v.category).sum ≤ 8) (hroom : h + 1 ≤ rm.frames ∧ 8 + (md.2.2.1 + 11) + 36 * h ≤ rm.locals) (hcs : k ≤ rm.cells ∧ n ≤ rm.slots)
    (kk : G E rm own cc nL ret X Z M I1 J1 R k n (pc + 3) lv rest) : G E rm own cc nL ret X Z M I J R k n pc lv st :=
  G_callV d hlk hw hF hci hs hq hav hst hcat hroom hcs (fun v I' J' hv => by obtain ⟨rfl, rfl, rfl⟩ := hv; exact kk)
theorem G_callS1 {md : MD} {h N idx : Nat} {av rest : List Value} {r : Value} {I1 J1 : Nat → Nat → Int} (d : decode cc pc = .ok (.invokestatic idx, 3)) (hlk : LK own idx md.1) (hw : MWS md N) (hF : FnF E md h M R av I J (some r) I1 J1) (hav : av.length = N) (hst : st = av.reverse ++ rest) (hcat : (rest.map fun v => v.category).sum ≤ 8) (hroom : h + 1 ≤ rm.frames ∧ 8 + (md.2.2.1 + 11) + 36 * h ≤ rm.locals) (hcs : k ≤ rm.cells ∧ n ≤ rm.slots)
    (kk : G E rm own cc nL ret X Z M I1 J1 R k n (pc + 3) lv (r :: rest)) : G E rm own cc nL ret X Z M I J R k n pc lv st :=
  G_callS d hlk hw hF hav hst hcat hroom hcs (fun v I' J' hv => by obtain ⟨rfl, rfl, rfl⟩ := hv; exact kk)
theorem G_callS0 {md : MD} {h N idx : Nat} {av rest : List Value} {I1 J1 : Nat → Nat → Int} (d : decode cc pc = .ok (.invokestatic idx, 3)) (hlk : LK own idx md.1) (hw : MWS md N) (hF : FnF E md h M R av I J none I1 J1) (hav : av.length = N) (hst : st = av.reverse ++ rest) (hcat : (rest.map fun v => v.category).sum ≤ 8) (hroom : h + 1 ≤ rm.frames ∧ 8 + (md.2.2.1 + 11) + 36 * h ≤ rm.locals) (hcs : k ≤ rm.cells ∧ n ≤ rm.slots)
    (kk : G E rm own cc nL ret X Z M I1 J1 R k n (pc + 3) lv rest) : G E rm own cc nL ret X Z M I J R k n pc lv st :=
  G_callS d hlk hw hF hav hst hcat hroom hcs (fun v I' J' hv => by obtain ⟨rfl, rfl, rfl⟩ := hv; exact kk)
/-- another world that is the same, another stack or locals that are the same -/
theorem G_eq {I' J' : Nat → Nat → Int} {lv' : List (Option Value)} {st' : List Value} (hI : I = I') (hJ : J = J') (hl : lv = lv') (hs : st = st') (kk : G E rm own cc nL ret X Z M I' J' R k n pc lv' st') : G E rm own cc nL ret X Z M I J R k n pc lv st := by subst hI; subst hJ; subst hl; subst hs; exact kk
theorem G_st {st' : List Value} (hs : st = st') (kk : G E rm own cc nL ret X Z M I J R k n pc lv st') : G E rm own cc nL ret X Z M I J R k n pc lv st := hs ▸ kk
end ROWS2

