/-! THE CLAIM OUT OF ONE WALK OF THE LAW'S BODY. Your part is whole_start (and what it stands on); all else here is the same for every law, but numbers. -/
def R_law : String := "StageSieveLaw"
def lw_P (b : Addr) (xs : List Int32) (args : Array Value) (s : State) : Prop := args = #[.ref b] ∧ s.IntsAt b xs ∧ xs.length ≤ 260 ∧ (Jvm.Cond.and given_1 narrow_1).before args s = true
def lw_Q (_ : Array Value) (s : State) (o : Outcome) (t : State) : Prop := o = .returned (some (.int 1)) ∧ Framed s o t [] 72 1066
def lw_Z (below : List Frame) (a : Array Value) (s : State) : State → Prop := fun t => ∃ o, t.status = .running ∧ Ended t below o ∧ lw_Q a s o t
/-- the law's own end, with 1 on the stack, nothing written that was there before, its room as the claim has it -/
theorem lw_ret {p : Program} {l : Launch} {e : Env} {s : State} {m : MethodId} {below : List Frame} {meth : Method} {c : Code} {b : Nat} (hx : p.tables.exec = Jvm.exec) (hb : c.code = code) (hr : meth.sig.returnType = ret) (hlocks : meth.locks = false) {pc : Nat} {H : Heap} {ls : Array Slot} (hdg : decode code pc = .ok (.ireturn, 1)) : W p l e room_1 s m #[Value.ref b] below meth c H [] 72 1066 (lw_Z below #[Value.ref b] s) (F0 m pc ls [.int 1]) := by
  intro T hT X
  obtain ⟨fs, hret, hrun, hended, hW, hframe⟩ := X.leave (v := some (.int 1)) (hlocks := hlocks) (fun h => by rw [hr] at h; cases h)
  have hmeth' : T.vm.method? m = some meth := X.method'
  refine ⟨T.setFrames fs, ?_, .returned (some (.int 1)), hrun, hended, rfl, ⟨_, rfl⟩, hW, hframe⟩
  jvm_step X.here [X.here.top, hx, hb, hdg, hmeth', hr, ret, narrow_b1]
  (try refine ⟨rfl, ?_⟩); (try refine ⟨rfl, ?_⟩)
  first | (intro acts; rw [hret _ acts rfl rfl rfl]) | rw [hret _ _ rfl rfl rfl]
  exact Steps.refl _
/-- what holds at the law's entry: the machine, the code, the tables' words (any of lw_tbl by 'hts w (by decide +kernel)'), the script of L ints xs at the cell b, what the Statement gives of the start (any of its parts by flat_of_before) -/
def lw_At (p : Program) (s : State) (m : MethodId) (meth : Method) (c : Code) (b L : Nat) (xs : Nat → Int32) : Prop :=
  p.tables.exec = Jvm.exec ∧ c.code = code ∧ meth.sig.returnType = ret ∧ c.maxLocals = 15 ∧ s.vm.findClass R_law = some m.cls ∧ (∀ w ∈ lw_tbl, w.before #[Value.ref b] s = true) ∧ va_X b L xs s s.heap ∧ b < s.heap.size ∧ meth.locks = false ∧ (Jvm.Cond.and given_1 narrow_1).before #[Value.ref b] s = true
/-! THE LAW: its frame, its end -/
abbrev XLw (E : EV) (b L : Nat) (xs : Nat → Int32) : Method → Array Value → State → Prop := fun _ args s => args = #[Value.ref b] ∧ va_X b L xs s s.heap ∧ b < s.heap.size ∧ s.heap.size = eB E
theorem XLw.x {E : EV} {b L : Nat} {xs : Nat → Int32} : ∀ (meth : Method) (args : Array Value) (s : State), XLw E b L xs meth args s → va_X b L xs s s.heap ∧ b < eB E := fun _ _ _ h => ⟨h.2.1, h.2.2.2 ▸ h.2.2.1⟩
abbrev GL (E : EV) (b L : Nat) (xs : Nat → Int32) (M : Nat) (I J : Nat → Nat → Int) (R : Nat → Nat → Option Nat) (k n : Nat) (pc : Nat) (lv : List (Option Value)) (st : List Value) : Prop := G E room_1 RL cL_law 15 ret (XLw E b L xs) lw_Z M I J R k n pc lv st
abbrev GW (E : EV) (b L : Nat) (xs : Nat → Int32) (I J : Nat → Nat → Int) (pc : Nat) (lv : List (Option Value)) (st : List Value) : Prop := GL E b L xs 72 I J Rf 72 1066 pc lv st
theorem GL_ret1 {E : EV} {b L : Nat} {xs : Nat → Int32} {M : Nat} {I J : Nat → Nat → Int} {R : Nat → Nat → Option Nat} {pc : Nat} {lv : List (Option Value)} (d : decode cL_law pc = .ok (.ireturn, 1)) : GL E b L xs M I J R 72 1066 pc lv [vi 1] := by
  intro p e s m args below meth cd C H locs ls hW hS hl
  obtain ⟨ha, hX, hbl, he⟩ := C.2.2.2.2.2.2.2.2.2.2
  subst ha
  refine va_forget (fun q hq => by rw [he]; exact hS.2.2 q hq) ?_
  rw [show vi 1 = Value.int 1 from rfl]
  exact lw_ret C.1 C.2.1 C.2.2.2.2.2.1 C.2.2.2.2.2.2.1 d
section LCONST
variable {E : EV} {rm : Room} {own : String} {cc : ByteArray} {nL : Nat} {ret : Option FieldType} {X : Method → Array Value → State → Prop} {Z : List Frame → Array Value → State → State → Prop} {M : Nat} {I J : Nat → Nat → Int} {R : Nat → Nat → Option Nat} {k n : Nat} {pc : Nat} {lv : List (Option Value)} {st : List Value}
theorem G_lconst0 (d : decode cc pc = .ok (.lconst 0, 1)) (kk : G E rm own cc nL ret X Z M I J R k n (pc + 1) lv (vl 0 :: st)) : G E rm own cc nL ret X Z M I J R k n pc lv st := G_lconst d (G_st (st' := vl 0 :: st) rfl kk)
theorem G_lconst1 (d : decode cc pc = .ok (.lconst 1, 1)) (kk : G E rm own cc nL ret X Z M I J R k n (pc + 1) lv (vl 1 :: st)) : G E rm own cc nL ret X Z M I J R k n pc lv st := G_lconst d (G_st (st' := vl 1 :: st) rfl kk)
end LCONST
theorem mulR {m : Nat} {y : Int} {N : Nat} (hm : m ≤ 10) (h1 : -4 ≤ y) (h2 : y ≤ N) : -40 ≤ (m : Int) * y ∧ (m : Int) * y ≤ 10 * (N : Int) := by
  have a1 := Int.mul_nonneg (Int.natCast_nonneg m) (show 0 ≤ y + 4 by omega)
  have a2 := Int.mul_nonneg (Int.natCast_nonneg m) (show 0 ≤ (N : Int) - y by omega)
  have a3 : (m : Int) * (N : Int) ≤ 10 * (N : Int) := Int.mul_le_mul_of_nonneg_right (by omega) (Int.natCast_nonneg N)
  rw [Int.mul_add] at a1
  rw [Int.mul_sub] at a2
  omega
section LAWA
variable {E : EV} {b L : Nat} {xs : Nat → Int32} {I J : Nat → Nat → Int} {n : Nat} {tx : Nat → Int} {hs : HS} {C : CS} {K : Nat → CS} {o : Nat → Nat}
theorem la_end (hL : L ≤ 260) (hD : DRo o) (hH : HOo o hs) (hO : OI I o) (hC : CI I n tx hs C 0 K) (hW : WF n tx hs C 0 K) (hT : C 3 0 = 0) : GW E b L xs I J 1050 [some (.ref b), some (vr E 0), some (vr E 71), none, none, none, none, none, none, none, none, none, none, none, none] [] := by
  have d1 := hD.2.1
  have hB := hW.2.2.1
  have h8 : 0 < hs 8 0 := hW.2.2.2.1
  have e9 := hH.2.1
  have e11 := hH.2.2.2.2.2.1
  have hm : hs 11 0 ≤ 10 := hB.2.2.2.2.2.2.1
  have rest : ∀ (a p : Nat) (C1 : CS) (I J : Nat → Nat → Int), a < hs 9 0 → p ≤ 10 → C1 3 0 = 1 → WF n tx hs C1 0 K → OI I o → CI I n tx hs C1 0 K → GW E b L xs I J 1151 [some (.ref b), some (vr E 0), some (vr E 71), none, none, none, none, none, none, none, some (vi (a : Int)), some (vi (p : Int)), none, none, none] [] := by
    intro a p C1 I J ha9 hp10 e31 hW hO hC
    obtain ⟨t1, t2⟩ := f_tell (hs := hs) (C := noT C1) (a := a) (d := 2) ha9 h8 (by omega) rfl
    have t3 : sTell (n, tx, hs, noT C1, 0, K) 0 a 2 2 = (n, tx, hs, addT (noT C1) 0 a 2 2, 0, K) := t2 n tx 0 K
    have hW0 : WF n tx hs (noT C1) 0 K := W_forget (S := (n, tx, hs, C1, 0, K)) hW
    have hW1 := W_tell (S := (n, tx, hs, noT C1, 0, K)) hW0 0 a 2 2
    obtain ⟨C2, hC2⟩ : ∃ C2, C2 = addT (noT C1) 0 a 2 2 := ⟨_, rfl⟩
    rw [t3, ← hC2] at hW1
    have hW1 : WF n tx hs C2 0 K := hW1
    have e32 : C2 3 0 = 1 := by rw [hC2]; rfl
    have m1 := f_told2 hB (C := noT C1) (a := a) rfl
    rw [← hC2] at m1
    have r0 := aMan_R hB hW1.2.2.2.2.2.2.1 (by omega) (Or.inl rfl)
    have r1 := aMan_R hB hW1.2.2.2.2.2.2.1 (by omega) (Or.inr rfl)
    have r2 := mulR (N := 12000000) hm r1.1 r1.2
    rw [e11] at m1 r2
    refine G_aload_n (pc := 1151) dL_law_1151 rfl ?_
    refine G_callV (pc := 1152) (md := mdX11_forget) (av := []) dL_law_1152 lkL_133 mwX11_forget (x_forget (by omega) hC hW ) rfl (by first | rfl | assumption) (by omega) rfl rfl (Nat.le_of_ble_eq_true rfl) ⟨Nat.le_of_ble_eq_true rfl, Nat.le_of_ble_eq_true rfl⟩ ⟨Nat.le_of_ble_eq_true rfl, Nat.le_of_ble_eq_true rfl⟩ ?_
    rintro v I5 J5 ⟨rfl, hf, -, hC⟩
    replace hO := hO.off hf
    clear hf
    have hC : CI I5 n tx hs (noT C1) 0 K := hC
    rw [e31]
    refine G_iconst (pc := 1155) dL_law_1155 ?_
    refine G_icmp_ne (pc := 1156) (tgt := 1255) dL_law_1156 (Ri.mk (by omega) (by omega)) (Ri.mk (by omega) (by omega)) (by decide) (fun h_1156 => ?_) (fun h_1156 => ?_)
    · exact absurd rfl h_1156
    · refine G_aload_n (pc := 1159) dL_law_1159 rfl ?_
      refine G_iconst (pc := 1160) dL_law_1160 ?_
      refine G_iload (pc := 1161) dL_law_1161 rfl ?_
      refine G_iconst (pc := 1163) dL_law_1163 ?_
      refine G_iconst (pc := 1164) dL_law_1164 ?_
      refine G_callV (pc := 1165) (md := mdX11_tell) (av := [_, _, _, _]) dL_law_1165 lkL_130 mwX11_tell (x_tell _ _ _ _ (by omega) hC hW0 (Ri.mk (by omega) (by omega)) (Ri.mk (by omega) (by omega)) (Ri.mk (by omega) (by omega)) (Ri.mk (by omega) (by omega))) rfl (by first | rfl | assumption) (by omega) rfl rfl (Nat.le_of_ble_eq_true rfl) ⟨Nat.le_of_ble_eq_true rfl, Nat.le_of_ble_eq_true rfl⟩ ⟨Nat.le_of_ble_eq_true rfl, Nat.le_of_ble_eq_true rfl⟩ ?_
      rintro v I6 J6 ⟨rfl, hf, -, hC⟩
      replace hO := hO.off hf
      clear hf
      rw [t1]
      rw [t3, ← hC2] at hC
      have hC : CI I6 n tx hs C2 0 K := hC
      replace hW := hW1
      refine G_iconst (pc := 1168) dL_law_1168 ?_
      refine G_icmp_ne (pc := 1169) (tgt := 1255) dL_law_1169 (Ri.mk (by omega) (by omega)) (Ri.mk (by omega) (by omega)) (by decide) (fun h_1169 => ?_) (fun h_1169 => ?_)
      · exact absurd rfl h_1169
      · refine G_iload (pc := 1172) dL_law_1172 rfl ?_
        refine G_if_ne (pc := 1174) (tgt := 1216) dL_law_1174 (Ri.mk (by omega) (by omega)) (by decide) (fun h_1174 => ?_) (fun h_1174 => ?_)
        · try simp only [bI_eq0, bI_ne0] at h_1174
          refine G_aload_n (pc := 1216) dL_law_1216 rfl ?_
          refine G_iconst (pc := 1217) dL_law_1217 ?_
          refine G_callV (pc := 1218) (md := mdX11_man) (av := [_]) dL_law_1218 lkL_125 mwX11_man (x_man _ (by omega) hC hW (Ri.mk (by omega) (by omega))) rfl (by first | rfl | assumption) (by omega) rfl rfl (Nat.le_of_ble_eq_true rfl) ⟨Nat.le_of_ble_eq_true rfl, Nat.le_of_ble_eq_true rfl⟩ ⟨Nat.le_of_ble_eq_true rfl, Nat.le_of_ble_eq_true rfl⟩ ?_
          rintro v I1218 J1218 ⟨rfl, hf, -, hC⟩
          replace hO := hO.off hf
          clear hf
          refine G_ldc2 (pc := 1221) dL_law_1221 klL_111 ?_
          refine G_lc_eq (pc := 1224) (tgt := 1251) dL_law_1224 dL_law_1225 (Rl.mk (by omega) (by omega)) (Rl.mk (by omega) (by omega)) (by decide) (fun h_1224 => ?_) (fun h_1224 => ?_)
          · refine G_iconst (pc := 1251) dL_law_1251 ?_
            refine G_goto (pc := 1252) (tgt := 1256) dL_law_1252 (by decide) ?_
            exact GL_ret1 dL_law_1256
          · refine G_aload_n (pc := 1228) dL_law_1228 rfl ?_
            refine G_iconst (pc := 1229) dL_law_1229 ?_
            refine G_callV (pc := 1230) (md := mdX11_man) (av := [_]) dL_law_1230 lkL_125 mwX11_man (x_man _ (by omega) hC hW (Ri.mk (by omega) (by omega))) rfl (by first | rfl | assumption) (by omega) rfl rfl (Nat.le_of_ble_eq_true rfl) ⟨Nat.le_of_ble_eq_true rfl, Nat.le_of_ble_eq_true rfl⟩ ⟨Nat.le_of_ble_eq_true rfl, Nat.le_of_ble_eq_true rfl⟩ ?_
            rintro v I1230 J1230 ⟨rfl, hf, -, hC⟩
            replace hO := hO.off hf
            clear hf
            refine G_ldc2 (pc := 1233) dL_law_1233 klL_128 ?_
            refine G_lmul (pc := 1236) dL_law_1236 ?_
            refine G_aload_n (pc := 1237) dL_law_1237 rfl ?_
            refine G_iconst (pc := 1238) dL_law_1238 ?_
            refine G_ialdv (pc := 1239) dL_law_1239 (by first | rfl | assumption) (by omega) (by omega) (by omega) (by omega) (hO 3 (by omega)) ?_
            refine G_i2l (pc := 1240) dL_law_1240 (Ri.mk (by omega) (by omega)) ?_
            refine G_aload_n (pc := 1241) dL_law_1241 rfl ?_
            refine G_iconst (pc := 1242) dL_law_1242 ?_
            refine G_callV (pc := 1243) (md := mdX11_man) (av := [_]) dL_law_1243 lkL_125 mwX11_man (x_man _ (by omega) hC hW (Ri.mk (by omega) (by omega))) rfl (by first | rfl | assumption) (by omega) rfl rfl (Nat.le_of_ble_eq_true rfl) ⟨Nat.le_of_ble_eq_true rfl, Nat.le_of_ble_eq_true rfl⟩ ⟨Nat.le_of_ble_eq_true rfl, Nat.le_of_ble_eq_true rfl⟩ ?_
            rintro v I1243 J1243 ⟨rfl, hf, -, hC⟩
            replace hO := hO.off hf
            clear hf
            refine G_lmul (pc := 1246) dL_law_1246 ?_
            refine G_lc_lt (pc := 1247) (tgt := 1255) dL_law_1247 dL_law_1248 (Rl.mk (by omega) (by omega)) (Rl.mk (by omega) (by omega)) (by decide) (fun h_1247 => ?_) (fun h_1247 => ?_)
            · exact absurd h_1247 (by omega)
            · refine G_iconst (pc := 1251) dL_law_1251 ?_
              refine G_goto (pc := 1252) (tgt := 1256) dL_law_1252 (by decide) ?_
              exact GL_ret1 dL_law_1256
        · try simp only [bI_eq0, bI_ne0] at h_1174
          refine G_aload_n (pc := 1177) dL_law_1177 rfl ?_
          refine G_iconst (pc := 1178) dL_law_1178 ?_
          refine G_ialdv (pc := 1179) dL_law_1179 (by first | rfl | assumption) (by omega) (by omega) (by omega) (by omega) (hO 3 (by omega)) ?_
          refine G_bipush (pc := 1180) dL_law_1180 (by decide) ?_
          refine G_icmp_ge (pc := 1182) (tgt := 1216) dL_law_1182 (Ri.mk (by omega) (by omega)) (Ri.mk (by omega) (by omega)) (by decide) (fun h_1182 => ?_) (fun h_1182 => ?_)
          · refine G_aload_n (pc := 1216) dL_law_1216 rfl ?_
            refine G_iconst (pc := 1217) dL_law_1217 ?_
            refine G_callV (pc := 1218) (md := mdX11_man) (av := [_]) dL_law_1218 lkL_125 mwX11_man (x_man _ (by omega) hC hW (Ri.mk (by omega) (by omega))) rfl (by first | rfl | assumption) (by omega) rfl rfl (Nat.le_of_ble_eq_true rfl) ⟨Nat.le_of_ble_eq_true rfl, Nat.le_of_ble_eq_true rfl⟩ ⟨Nat.le_of_ble_eq_true rfl, Nat.le_of_ble_eq_true rfl⟩ ?_
            rintro v I1218 J1218 ⟨rfl, hf, -, hC⟩
            replace hO := hO.off hf
            clear hf
            refine G_ldc2 (pc := 1221) dL_law_1221 klL_111 ?_
            refine G_lc_eq (pc := 1224) (tgt := 1251) dL_law_1224 dL_law_1225 (Rl.mk (by omega) (by omega)) (Rl.mk (by omega) (by omega)) (by decide) (fun h_1224 => ?_) (fun h_1224 => ?_)
            · refine G_iconst (pc := 1251) dL_law_1251 ?_
              refine G_goto (pc := 1252) (tgt := 1256) dL_law_1252 (by decide) ?_
              exact GL_ret1 dL_law_1256
            · refine G_aload_n (pc := 1228) dL_law_1228 rfl ?_
              refine G_iconst (pc := 1229) dL_law_1229 ?_
              refine G_callV (pc := 1230) (md := mdX11_man) (av := [_]) dL_law_1230 lkL_125 mwX11_man (x_man _ (by omega) hC hW (Ri.mk (by omega) (by omega))) rfl (by first | rfl | assumption) (by omega) rfl rfl (Nat.le_of_ble_eq_true rfl) ⟨Nat.le_of_ble_eq_true rfl, Nat.le_of_ble_eq_true rfl⟩ ⟨Nat.le_of_ble_eq_true rfl, Nat.le_of_ble_eq_true rfl⟩ ?_
              rintro v I1230 J1230 ⟨rfl, hf, -, hC⟩
              replace hO := hO.off hf
              clear hf
              refine G_ldc2 (pc := 1233) dL_law_1233 klL_128 ?_
              refine G_lmul (pc := 1236) dL_law_1236 ?_
              refine G_aload_n (pc := 1237) dL_law_1237 rfl ?_
              refine G_iconst (pc := 1238) dL_law_1238 ?_
              refine G_ialdv (pc := 1239) dL_law_1239 (by first | rfl | assumption) (by omega) (by omega) (by omega) (by omega) (hO 3 (by omega)) ?_
              refine G_i2l (pc := 1240) dL_law_1240 (Ri.mk (by omega) (by omega)) ?_
              refine G_aload_n (pc := 1241) dL_law_1241 rfl ?_
              refine G_iconst (pc := 1242) dL_law_1242 ?_
              refine G_callV (pc := 1243) (md := mdX11_man) (av := [_]) dL_law_1243 lkL_125 mwX11_man (x_man _ (by omega) hC hW (Ri.mk (by omega) (by omega))) rfl (by first | rfl | assumption) (by omega) rfl rfl (Nat.le_of_ble_eq_true rfl) ⟨Nat.le_of_ble_eq_true rfl, Nat.le_of_ble_eq_true rfl⟩ ⟨Nat.le_of_ble_eq_true rfl, Nat.le_of_ble_eq_true rfl⟩ ?_
              rintro v I1243 J1243 ⟨rfl, hf, -, hC⟩
              replace hO := hO.off hf
              clear hf
              refine G_lmul (pc := 1246) dL_law_1246 ?_
              refine G_lc_lt (pc := 1247) (tgt := 1255) dL_law_1247 dL_law_1248 (Rl.mk (by omega) (by omega)) (Rl.mk (by omega) (by omega)) (by decide) (fun h_1247 => ?_) (fun h_1247 => ?_)
              · exact absurd h_1247 (by omega)
              · refine G_iconst (pc := 1251) dL_law_1251 ?_
                refine G_goto (pc := 1252) (tgt := 1256) dL_law_1252 (by decide) ?_
                exact GL_ret1 dL_law_1256
          · refine G_aload_n (pc := 1185) dL_law_1185 rfl ?_
            refine G_iconst (pc := 1186) dL_law_1186 ?_
            refine G_ialdv (pc := 1187) dL_law_1187 (by first | rfl | assumption) (by omega) (by omega) (by omega) (by omega) (hO 3 (by omega)) ?_
            refine G_if_le (pc := 1188) (tgt := 1216) dL_law_1188 (Ri.mk (by omega) (by omega)) (by decide) (fun h_1188 => ?_) (fun h_1188 => ?_)
            · refine G_aload_n (pc := 1216) dL_law_1216 rfl ?_
              refine G_iconst (pc := 1217) dL_law_1217 ?_
              refine G_callV (pc := 1218) (md := mdX11_man) (av := [_]) dL_law_1218 lkL_125 mwX11_man (x_man _ (by omega) hC hW (Ri.mk (by omega) (by omega))) rfl (by first | rfl | assumption) (by omega) rfl rfl (Nat.le_of_ble_eq_true rfl) ⟨Nat.le_of_ble_eq_true rfl, Nat.le_of_ble_eq_true rfl⟩ ⟨Nat.le_of_ble_eq_true rfl, Nat.le_of_ble_eq_true rfl⟩ ?_
              rintro v I1218 J1218 ⟨rfl, hf, -, hC⟩
              replace hO := hO.off hf
              clear hf
              refine G_ldc2 (pc := 1221) dL_law_1221 klL_111 ?_
              refine G_lc_eq (pc := 1224) (tgt := 1251) dL_law_1224 dL_law_1225 (Rl.mk (by omega) (by omega)) (Rl.mk (by omega) (by omega)) (by decide) (fun h_1224 => ?_) (fun h_1224 => ?_)
              · refine G_iconst (pc := 1251) dL_law_1251 ?_
                refine G_goto (pc := 1252) (tgt := 1256) dL_law_1252 (by decide) ?_
                exact GL_ret1 dL_law_1256
              · refine G_aload_n (pc := 1228) dL_law_1228 rfl ?_
                refine G_iconst (pc := 1229) dL_law_1229 ?_
                refine G_callV (pc := 1230) (md := mdX11_man) (av := [_]) dL_law_1230 lkL_125 mwX11_man (x_man _ (by omega) hC hW (Ri.mk (by omega) (by omega))) rfl (by first | rfl | assumption) (by omega) rfl rfl (Nat.le_of_ble_eq_true rfl) ⟨Nat.le_of_ble_eq_true rfl, Nat.le_of_ble_eq_true rfl⟩ ⟨Nat.le_of_ble_eq_true rfl, Nat.le_of_ble_eq_true rfl⟩ ?_
                rintro v I1230 J1230 ⟨rfl, hf, -, hC⟩
                replace hO := hO.off hf
                clear hf
                refine G_ldc2 (pc := 1233) dL_law_1233 klL_128 ?_
                refine G_lmul (pc := 1236) dL_law_1236 ?_
                refine G_aload_n (pc := 1237) dL_law_1237 rfl ?_
                refine G_iconst (pc := 1238) dL_law_1238 ?_
                refine G_ialdv (pc := 1239) dL_law_1239 (by first | rfl | assumption) (by omega) (by omega) (by omega) (by omega) (hO 3 (by omega)) ?_
                refine G_i2l (pc := 1240) dL_law_1240 (Ri.mk (by omega) (by omega)) ?_
                refine G_aload_n (pc := 1241) dL_law_1241 rfl ?_
                refine G_iconst (pc := 1242) dL_law_1242 ?_
                refine G_callV (pc := 1243) (md := mdX11_man) (av := [_]) dL_law_1243 lkL_125 mwX11_man (x_man _ (by omega) hC hW (Ri.mk (by omega) (by omega))) rfl (by first | rfl | assumption) (by omega) rfl rfl (Nat.le_of_ble_eq_true rfl) ⟨Nat.le_of_ble_eq_true rfl, Nat.le_of_ble_eq_true rfl⟩ ⟨Nat.le_of_ble_eq_true rfl, Nat.le_of_ble_eq_true rfl⟩ ?_
                rintro v I1243 J1243 ⟨rfl, hf, -, hC⟩
                replace hO := hO.off hf
                clear hf
                refine G_lmul (pc := 1246) dL_law_1246 ?_
                refine G_lc_lt (pc := 1247) (tgt := 1255) dL_law_1247 dL_law_1248 (Rl.mk (by omega) (by omega)) (Rl.mk (by omega) (by omega)) (by decide) (fun h_1247 => ?_) (fun h_1247 => ?_)
                · exact absurd h_1247 (by omega)
                · refine G_iconst (pc := 1251) dL_law_1251 ?_
                  refine G_goto (pc := 1252) (tgt := 1256) dL_law_1252 (by decide) ?_
                  exact GL_ret1 dL_law_1256
            · refine G_aload_n (pc := 1191) dL_law_1191 rfl ?_
              refine G_iconst (pc := 1192) dL_law_1192 ?_
              refine G_callV (pc := 1193) (md := mdX11_man) (av := [_]) dL_law_1193 lkL_125 mwX11_man (x_man _ (by omega) hC hW (Ri.mk (by omega) (by omega))) rfl (by first | rfl | assumption) (by omega) rfl rfl (Nat.le_of_ble_eq_true rfl) ⟨Nat.le_of_ble_eq_true rfl, Nat.le_of_ble_eq_true rfl⟩ ⟨Nat.le_of_ble_eq_true rfl, Nat.le_of_ble_eq_true rfl⟩ ?_
              rintro v I1193 J1193 ⟨rfl, hf, -, hC⟩
              replace hO := hO.off hf
              clear hf
              refine G_ldc2 (pc := 1196) dL_law_1196 klL_111 ?_
              refine G_lc_eq (pc := 1199) (tgt := 1251) dL_law_1199 dL_law_1200 (Rl.mk (by omega) (by omega)) (Rl.mk (by omega) (by omega)) (by decide) (fun h_1199 => ?_) (fun h_1199 => ?_)
              · refine G_iconst (pc := 1251) dL_law_1251 ?_
                refine G_goto (pc := 1252) (tgt := 1256) dL_law_1252 (by decide) ?_
                exact GL_ret1 dL_law_1256
              · refine G_aload_n (pc := 1203) dL_law_1203 rfl ?_
                refine G_iconst (pc := 1204) dL_law_1204 ?_
                refine G_callV (pc := 1205) (md := mdX11_man) (av := [_]) dL_law_1205 lkL_125 mwX11_man (x_man _ (by omega) hC hW (Ri.mk (by omega) (by omega))) rfl (by first | rfl | assumption) (by omega) rfl rfl (Nat.le_of_ble_eq_true rfl) ⟨Nat.le_of_ble_eq_true rfl, Nat.le_of_ble_eq_true rfl⟩ ⟨Nat.le_of_ble_eq_true rfl, Nat.le_of_ble_eq_true rfl⟩ ?_
                rintro v I1205 J1205 ⟨rfl, hf, -, hC⟩
                replace hO := hO.off hf
                clear hf
                refine G_lconst0 (pc := 1208) dL_law_1208 ?_
                refine G_lc_lt (pc := 1209) (tgt := 1255) dL_law_1209 dL_law_1210 (Rl.mk (by omega) (by omega)) (Rl.mk (by omega) (by omega)) (by decide) (fun h_1209 => ?_) (fun h_1209 => ?_)
                · exact absurd h_1209 (by omega)
                · refine G_goto (pc := 1213) (tgt := 1251) dL_law_1213 (by decide) ?_
                  refine G_iconst (pc := 1251) dL_law_1251 ?_
                  refine G_goto (pc := 1252) (tgt := 1256) dL_law_1252 (by decide) ?_
                  exact GL_ret1 dL_law_1256
  refine G_aload_n (pc := 1050) dL_law_1050 rfl ?_
  refine G_bipush (pc := 1051) dL_law_1051 (by decide) ?_
  refine G_callX (pc := 1053) (md := mdL_cell) (av := [_, _]) XLw.x dL_law_1053 lkL_19 mwL_cell (c_cell hL _ (by omega) (by omega)) rfl rfl (Nat.le_of_ble_eq_true rfl) ⟨Nat.le_of_ble_eq_true rfl, Nat.le_of_ble_eq_true rfl⟩ ⟨Nat.le_of_ble_eq_true rfl, Nat.le_of_ble_eq_true rfl⟩ ?_
  rintro v I1 J1 ⟨⟨y, rfl⟩, rfl, rfl⟩
  refine G_aload_n (pc := 1056) dL_law_1056 rfl ?_
  refine G_iconst (pc := 1057) dL_law_1057 ?_
  refine G_ialdv (pc := 1058) dL_law_1058 (by first | rfl | assumption) (by omega) (by omega) (by omega) (by omega) (hO 1 (by omega)) ?_
  refine G_callS (pc := 1059) (md := mdL_low) (av := [_, _]) dL_law_1059 lkL_25 mwL_low (c_low _ _ (by omega) (Ri.mk (by omega) (by omega))) rfl rfl (Nat.le_of_ble_eq_true rfl) ⟨Nat.le_of_ble_eq_true rfl, Nat.le_of_ble_eq_true rfl⟩ ⟨Nat.le_of_ble_eq_true rfl, Nat.le_of_ble_eq_true rfl⟩ ?_
  rintro v I2 J2 ⟨⟨a, ha, rfl⟩, rfl, rfl⟩
  have ha9 : a < hs 9 0 := by omega
  obtain ⟨p, hp⟩ : ∃ p, p = dO hs 0 a 0 / 10 := ⟨_, rfl⟩
  have hdo := dO_le hs 0 a 0
  have ed : aDoes hs 0 (a : Int) 0 2 = (dO hs 0 a 0 : Int) := aDoes_e (k := 0) h8 ha9 (by omega) (by omega)
  refine G_istore (pc := 1062) (lv' := [_, _, _, _, _, _, _, _, _, _, _, _, _, _, _]) dL_law_1062 (by decide) rfl ?_
  refine G_aload_n (pc := 1064) dL_law_1064 rfl ?_
  refine G_iconst (pc := 1065) dL_law_1065 ?_
  refine G_iload (pc := 1066) dL_law_1066 rfl ?_
  refine G_iconst (pc := 1068) dL_law_1068 ?_
  refine G_iconst (pc := 1069) dL_law_1069 ?_
  refine G_callV (pc := 1070) (md := mdX11_does) (av := [_, _, _, _]) dL_law_1070 lkL_75 mwX11_does (x_does _ _ _ _ (by omega) hC hW (Ri.mk (by omega) (by omega)) (Ri.mk (by omega) (by omega)) (Ri.mk (by omega) (by omega)) (Ri.mk (by omega) (by omega))) rfl (by first | rfl | assumption) (by omega) rfl rfl (Nat.le_of_ble_eq_true rfl) ⟨Nat.le_of_ble_eq_true rfl, Nat.le_of_ble_eq_true rfl⟩ ⟨Nat.le_of_ble_eq_true rfl, Nat.le_of_ble_eq_true rfl⟩ ?_
  rintro v I3 J3 ⟨rfl, hf, -, hC⟩
  replace hO := hO.off hf
  clear hf
  rw [ed]
  refine G_bipush (pc := 1073) dL_law_1073 (by decide) ?_
  refine G_idiv (pc := 1075) dL_law_1075 (Ri.mk (by omega) (by omega)) (Ri.mk (by omega) (by omega)) (by omega) ?_
  rw [show ((dO hs 0 a 0 : Nat) : Int).tdiv 10 = (p : Int) by rw [Int.tdiv_eq_ediv_of_nonneg (Int.natCast_nonneg _)]; omega]
  obtain ⟨t1, t2⟩ := f_tell (hs := hs) (C := C) (a := a) (d := 0) ha9 h8 (by omega) hT
  have t3 : sTell (n, tx, hs, C, 0, K) 0 a 2 0 = (n, tx, hs, addT C 0 a 2 0, 0, K) := t2 n tx 0 K
  obtain ⟨C1, hC1⟩ : ∃ C1, C1 = addT C 0 a 2 0 := ⟨_, rfl⟩
  have hW1 := W_tell (S := (n, tx, hs, C, 0, K)) hW 0 a 2 0
  rw [t3, ← hC1] at hW1
  have hW1 : WF n tx hs C1 0 K := hW1
  have e31 : C1 3 0 = 1 := by rw [hC1]; simp [addT, hT]
  obtain ⟨m1, m2⟩ := f_told0 hB (a := a) hT
  rw [← hp, ← hC1] at m1 m2
  have r0 := aMan_R hB hW1.2.2.2.2.2.2.1 (by omega) (Or.inl rfl)
  have r1 := aMan_R hB hW1.2.2.2.2.2.2.1 (by omega) (Or.inr rfl)
  refine G_istore (pc := 1076) (lv' := [_, _, _, _, _, _, _, _, _, _, _, _, _, _, _]) dL_law_1076 (by decide) rfl ?_
  refine G_aload_n (pc := 1078) dL_law_1078 rfl ?_
  refine G_iconst (pc := 1079) dL_law_1079 ?_
  refine G_iload (pc := 1080) dL_law_1080 rfl ?_
  refine G_iconst (pc := 1082) dL_law_1082 ?_
  refine G_iconst (pc := 1083) dL_law_1083 ?_
  refine G_callV (pc := 1084) (md := mdX11_tell) (av := [_, _, _, _]) dL_law_1084 lkL_130 mwX11_tell (x_tell _ _ _ _ (by omega) hC hW (Ri.mk (by omega) (by omega)) (Ri.mk (by omega) (by omega)) (Ri.mk (by omega) (by omega)) (Ri.mk (by omega) (by omega))) rfl (by first | rfl | assumption) (by omega) rfl rfl (Nat.le_of_ble_eq_true rfl) ⟨Nat.le_of_ble_eq_true rfl, Nat.le_of_ble_eq_true rfl⟩ ⟨Nat.le_of_ble_eq_true rfl, Nat.le_of_ble_eq_true rfl⟩ ?_
  rintro v I4 J4 ⟨rfl, hf, -, hC⟩
  replace hO := hO.off hf
  clear hf
  rw [t1]
  rw [t3, ← hC1] at hC
  have hC : CI I4 n tx hs C1 0 K := hC
  replace hW := hW1
  refine G_iconst (pc := 1087) dL_law_1087 ?_
  refine G_icmp_ne (pc := 1088) (tgt := 1255) dL_law_1088 (Ri.mk (by omega) (by omega)) (Ri.mk (by omega) (by omega)) (by decide) (fun h_1088 => ?_) (fun h_1088 => ?_)
  · exact absurd rfl h_1088
  · refine G_iload (pc := 1091) dL_law_1091 rfl ?_
    refine G_bipush (pc := 1093) dL_law_1093 (by decide) ?_
    refine G_icmp_eq (pc := 1095) (tgt := 1106) dL_law_1095 (Ri.mk (by omega) (by omega)) (Ri.mk (by omega) (by omega)) (by decide) (fun h_1095 => ?_) (fun h_1095 => ?_)
    · refine G_aload_n (pc := 1106) dL_law_1106 rfl ?_
      refine G_iconst (pc := 1107) dL_law_1107 ?_
      refine G_callV (pc := 1108) (md := mdX11_man) (av := [_]) dL_law_1108 lkL_125 mwX11_man (x_man _ (by omega) hC hW (Ri.mk (by omega) (by omega))) rfl (by first | rfl | assumption) (by omega) rfl rfl (Nat.le_of_ble_eq_true rfl) ⟨Nat.le_of_ble_eq_true rfl, Nat.le_of_ble_eq_true rfl⟩ ⟨Nat.le_of_ble_eq_true rfl, Nat.le_of_ble_eq_true rfl⟩ ?_
      rintro v I1108 J1108 ⟨rfl, hf, -, hC⟩
      replace hO := hO.off hf
      clear hf
      refine G_ldc2 (pc := 1111) dL_law_1111 klL_111 ?_
      refine G_lc_eq (pc := 1114) (tgt := 1151) dL_law_1114 dL_law_1115 (Rl.mk (by omega) (by omega)) (Rl.mk (by omega) (by omega)) (by decide) (fun h_1114 => ?_) (fun h_1114 => ?_)
      · exact rest a p C1 _ _ ha9 (by omega) e31 hW hO hC
      · exact absurd (m1 (by omega)) h_1114
    · refine G_aload_n (pc := 1098) dL_law_1098 rfl ?_
      refine G_iconst (pc := 1099) dL_law_1099 ?_
      refine G_ialdv (pc := 1100) dL_law_1100 (by first | rfl | assumption) (by omega) (by omega) (by omega) (by omega) (hO 3 (by omega)) ?_
      refine G_bipush (pc := 1101) dL_law_1101 (by decide) ?_
      refine G_icmp_ne (pc := 1103) (tgt := 1131) dL_law_1103 (Ri.mk (by omega) (by omega)) (Ri.mk (by omega) (by omega)) (by decide) (fun h_1103 => ?_) (fun h_1103 => ?_)
      · refine G_aload_n (pc := 1131) dL_law_1131 rfl ?_
        refine G_iconst (pc := 1132) dL_law_1132 ?_
        refine G_callV (pc := 1133) (md := mdX11_man) (av := [_]) dL_law_1133 lkL_125 mwX11_man (x_man _ (by omega) hC hW (Ri.mk (by omega) (by omega))) rfl (by first | rfl | assumption) (by omega) rfl rfl (Nat.le_of_ble_eq_true rfl) ⟨Nat.le_of_ble_eq_true rfl, Nat.le_of_ble_eq_true rfl⟩ ⟨Nat.le_of_ble_eq_true rfl, Nat.le_of_ble_eq_true rfl⟩ ?_
        rintro v I1133 J1133 ⟨rfl, hf, -, hC⟩
        replace hO := hO.off hf
        clear hf
        refine G_lconst0 (pc := 1136) dL_law_1136 ?_
        refine G_lc_ne (pc := 1137) (tgt := 1255) dL_law_1137 dL_law_1138 (Rl.mk (by omega) (by omega)) (Rl.mk (by omega) (by omega)) (by decide) (fun h_1137 => ?_) (fun h_1137 => ?_)
        · exact absurd (m2 (by omega) (by omega)).1 h_1137
        · refine G_aload_n (pc := 1141) dL_law_1141 rfl ?_
          refine G_iconst (pc := 1142) dL_law_1142 ?_
          refine G_callV (pc := 1143) (md := mdX11_man) (av := [_]) dL_law_1143 lkL_125 mwX11_man (x_man _ (by omega) hC hW (Ri.mk (by omega) (by omega))) rfl (by first | rfl | assumption) (by omega) rfl rfl (Nat.le_of_ble_eq_true rfl) ⟨Nat.le_of_ble_eq_true rfl, Nat.le_of_ble_eq_true rfl⟩ ⟨Nat.le_of_ble_eq_true rfl, Nat.le_of_ble_eq_true rfl⟩ ?_
          rintro v I1143 J1143 ⟨rfl, hf, -, hC⟩
          replace hO := hO.off hf
          clear hf
          refine G_lconst1 (pc := 1146) dL_law_1146 ?_
          refine G_lc_ne (pc := 1147) (tgt := 1255) dL_law_1147 dL_law_1148 (Rl.mk (by omega) (by omega)) (Rl.mk (by omega) (by omega)) (by decide) (fun h_1147 => ?_) (fun h_1147 => ?_)
          · exact absurd (m2 (by omega) (by omega)).2 h_1147
          · exact rest a p C1 _ _ ha9 (by omega) e31 hW hO hC
      · refine G_aload_n (pc := 1106) dL_law_1106 rfl ?_
        refine G_iconst (pc := 1107) dL_law_1107 ?_
        refine G_callV (pc := 1108) (md := mdX11_man) (av := [_]) dL_law_1108 lkL_125 mwX11_man (x_man _ (by omega) hC hW (Ri.mk (by omega) (by omega))) rfl (by first | rfl | assumption) (by omega) rfl rfl (Nat.le_of_ble_eq_true rfl) ⟨Nat.le_of_ble_eq_true rfl, Nat.le_of_ble_eq_true rfl⟩ ⟨Nat.le_of_ble_eq_true rfl, Nat.le_of_ble_eq_true rfl⟩ ?_
        rintro v I1108 J1108 ⟨rfl, hf, -, hC⟩
        replace hO := hO.off hf
        clear hf
        refine G_ldc2 (pc := 1111) dL_law_1111 klL_111 ?_
        refine G_lc_eq (pc := 1114) (tgt := 1151) dL_law_1114 dL_law_1115 (Rl.mk (by omega) (by omega)) (Rl.mk (by omega) (by omega)) (by decide) (fun h_1114 => ?_) (fun h_1114 => ?_)
        · exact rest a p C1 _ _ ha9 (by omega) e31 hW hO hC
        · exact absurd (m1 (by omega)) h_1114
end LAWA

