/-! shapes of the cells, in the order of their making: .inl a class, .inr (kind of row, length); kinds 0 int, 1 long, 2 byte, 3 boolean -/
def shpL : List (Nat ⊕ (Nat × Nat)) := [.inl 11, .inl 9, .inr (2, 400), .inl 4, .inr (0, 6), .inr (0, 6), .inr (0, 6), .inr (0, 6), .inr (0, 6), .inr (0, 6), .inr (0, 6), .inr (0, 6), .inl 1, .inl 7, .inr (0, 8), .inr (0, 8), .inl 10, .inr (0, 3), .inr (0, 3), .inr (0, 3), .inr (0, 3), .inl 4, .inr (0, 6), .inr (0, 6), .inr (0, 6), .inr (0, 6), .inr (0, 6), .inr (0, 6), .inr (0, 6), .inr (0, 6), .inl 7, .inr (0, 8), .inr (0, 8), .inl 6, .inr (0, 4), .inl 1, .inl 7, .inr (0, 8), .inr (0, 8), .inl 10, .inr (0, 3), .inr (0, 3), .inr (0, 3), .inr (0, 3), .inl 1, .inl 7, .inr (0, 8), .inr (0, 8), .inl 10, .inr (0, 3), .inr (0, 3), .inr (0, 3), .inr (0, 3), .inl 8, .inr (1, 6), .inr (1, 13), .inl 0, .inl 7, .inr (0, 8), .inr (0, 8), .inl 7, .inr (0, 8), .inr (0, 8), .inl 8, .inr (1, 6), .inr (1, 13), .inl 3, .inl 2, .inl 5, .inr (3, 120), .inr (3, 120), .inr (0, 46)]
/-- the fields of a class: 0 int, 1 long, 2 a reference -/
def ftL : List (List Nat) := [[2, 2, 2, 2, 0, 0, 0, 0], [2, 2], [2, 2], [1, 1], [2, 2, 2, 2, 2, 2, 2, 2, 0, 0, 0, 0, 0, 0], [2, 2, 2, 0, 0], [2, 2, 2, 0], [2, 2, 0], [2, 2, 2], [2, 0], [2, 2, 2, 2, 0], [2, 2, 2, 2, 2, 2, 2, 2, 2, 2, 2, 2, 2, 0]]
/-- what the references hold when all is made -/
def rfL : List (List (Option Nat)) := [[some 1, some 3, some 12, some 21, some 30, some 33, some 35, some 44, some 53, some 56, some 66, some 67, some 68, none], [some 2, none], [], [some 4, some 5, some 6, some 7, some 8, some 9, some 10, some 11, none, none, none, none, none, none], [], [], [], [], [], [], [], [], [some 13, some 16], [some 14, some 15, none], [], [], [some 17, some 18, some 19, some 20, none], [], [], [], [], [some 22, some 23, some 24, some 25, some 26, some 27, some 28, some 29, none, none, none, none, none, none], [], [], [], [], [], [], [], [], [some 31, some 32, none], [], [], [some 21, some 30, some 34, none], [], [some 36, some 39], [some 37, some 38, none], [], [], [some 40, some 41, some 42, some 43, none], [], [], [], [], [some 45, some 48], [some 46, some 47, none], [], [], [some 49, some 50, some 51, some 52, none], [], [], [], [], [some 3, some 54, some 55], [], [], [some 3, some 63, some 57, some 60, none, none, none, none], [some 58, some 59, none], [], [], [some 61, some 62, none], [], [], [some 3, some 64, some 65], [], [], [none, none], [some 3, some 66], [some 3, some 69, some 70, none, none], [], [], []]
def Rf (k i : Nat) : Option Nat := (rfL.getD k []).getD i none
/-! BASE: shapes, words, kinds of methods and fields -/
def shp (k : Nat) : Nat ⊕ (Nat × Nat) := shpL.getD k (.inl 99)
def ftl (c : Nat) : List Nat := ftL.getD c []
/-- the tables' words that a call may carry on -/
def gtb : List Cond := lw_tbl.filter goodWord
theorem lw_good : ∀ w ∈ gtb, (w.onTables && w.keeps) = true ∨ ∃ ty, w = .arrayClass ty := fun w hw => good_of_word (List.mem_filter.mp hw).2
theorem gtb_of {w : Cond} (i : Nat) (h : lw_tbl[i]? = some w) (hg : goodWord w = true) : w ∈ gtb := List.mem_filter.mpr ⟨List.mem_of_getElem? h, hg⟩
def nestWord : Cond → Bool
  | .fieldLinkNest _ _ _ _ _ _ => true
  | .methodLinkNest _ _ _ _ => true
  | _ => false
def ntb : List Cond := lw_tbl.filter nestWord
theorem ntb_of {w : Cond} (i : Nat) (h : lw_tbl[i]? = some w) (hg : nestWord w = true) : w ∈ ntb := List.mem_filter.mpr ⟨List.mem_of_getElem? h, hg⟩
abbrev MD : Type := MethodName × ByteArray × Nat × Option FieldType
/-- the words of a method that is called; n parameters -/
def MW (md : MD) (n : Nat) : Prop := Cond.code md.1 md.2.1 md.2.2.1 md.2.2.2 ∈ gtb ∧ Cond.initialized md.1.cls ∈ gtb ∧ (md.1.cls ≠ "java/lang/invoke/MethodHandle" ∧ md.1.cls ≠ "java/lang/invoke/VarHandle") ∧ (parseMethodDescriptor md.1.desc).map (fun d => d.parameters.length) = some n
def MWV (md : MD) (n : Nat) : Prop := MW md n ∧ Cond.instanceMethod md.1 ∈ gtb ∧ Cond.selects md.1.cls md.1 md.1 ∈ gtb
def MWS (md : MD) (n : Nat) : Prop := MW md n ∧ Cond.static md.1 ∈ gtb
def LK (own : String) (idx : Nat) (y : MethodName) : Prop := Cond.methodLink own idx y ∈ gtb ∨ ∃ host, Cond.methodLinkNest own idx y host ∈ ntb
/-- the words of a field: the class's number c, its place i, its kind t (0 int, 1 long, 2 reference), final or not -/
def FI (own : String) (idx c i t : Nat) (fin : Bool) : Prop := ∃ (C : String) (T : u_T) (N : Nat) (ty0 : Nat → FieldType), vwCl[c]? = some (C, T, N) ∧ i < N ∧ (∀ w ∈ u_ws C T N, w ∈ gtb) ∧ (∀ k, k < N → parseFieldDescriptor (T k).2.2.1 = some (ty0 k)) ∧ (∀ a, a < N → ∀ b, b < N → a ≠ b → (T a).2.1 ≠ (T b).2.1) ∧ (T i).2.2.2 = fin ∧ (ftl c)[i]? = some t ∧ (t = 0 → ty0 i = .int) ∧ (t = 1 → ty0 i = .long) ∧ (ftl c).length = N ∧ (T i).1 = C ∧
  (Cond.fieldLink own idx (T i).1 (T i).2.1 (T i).2.2.1 ∈ gtb ∨ ∃ host, Cond.fieldLinkNest own idx (T i).1 (T i).2.1 (T i).2.2.1 host ∈ ntb)

