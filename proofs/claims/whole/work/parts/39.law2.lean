/-! THE LAW: its cases -/
theorem lc_write {E : EV} {b L : Nat} {xs : Nat → Int32} (hL : L ≤ 2560) (i : Nat) (hi : i + 5 ≤ L) {I J : Nat → Nat → Int} {S : ST} (hC : CIS I S) (hMm : MIS I S) (hW : WFS S) (fin : ∀ (S' : ST) (I' J' : Nat → Nat → Int), CIS I' S' → MIS I' S' → WFS S' → GL E b L xs 87 I' J' Rf 87 1929 956 [some (.ref b), some (vr E 0), some (vr E 71), some (vi (i : Int))] []) : GL E b L xs 87 I J Rf 87 1929 160 [some (.ref b), some (vr E 0), some (vr E 71), some (vi (i : Int))] [] := by
  obtain ⟨n, tx, hs, C, kn, K⟩ := S
  have hC : CI I n tx hs C kn K := hC
  have hMm : MI I n tx hs C kn K := hMm
  have hW : WF n tx hs C kn K := hW
  refine G_aload_n (pc := 160) dL_law_160 rfl ?_
  refine G_aload_n (pc := 161) dL_law_161 rfl ?_
  refine G_iload_n (pc := 162) dL_law_162 rfl ?_
  refine G_iconst (pc := 163) dL_law_163 ?_
  refine G_iadd (pc := 164) dL_law_164 ?_
  refine GL_sld (pc := 165) dL_law_165 hL (by omega) (by omega) ?_
  refine G_aload_n (pc := 166) dL_law_166 rfl ?_
  refine G_iload_n (pc := 167) dL_law_167 rfl ?_
  refine G_iconst (pc := 168) dL_law_168 ?_
  refine G_iadd (pc := 169) dL_law_169 ?_
  refine GL_sld (pc := 170) dL_law_170 hL (by omega) (by omega) ?_
  refine G_i2l (pc := 171) dL_law_171 (Ri_toInt _) ?_
  refine G_bipush (pc := 172) dL_law_172 (by decide) ?_
  refine G_lshl (pc := 174) dL_law_174 ?_
  refine G_aload_n (pc := 175) dL_law_175 rfl ?_
  refine G_iload_n (pc := 176) dL_law_176 rfl ?_
  refine G_iconst (pc := 177) dL_law_177 ?_
  refine G_iadd (pc := 178) dL_law_178 ?_
  refine GL_sld (pc := 179) dL_law_179 hL (by omega) (by omega) ?_
  refine G_i2l (pc := 180) dL_law_180 (Ri_toInt _) ?_
  refine G_ldc2 (pc := 181) dL_law_181 klL_13 ?_
  refine G_land (pc := 184) dL_law_184 ?_
  refine G_lor (pc := 185) dL_law_185 ?_
  refine G_callV (pc := 186) (md := mdX11_write) (av := [_, _]) dL_law_186 lkL_15 mwX11_write (x_write _ _ (by omega) hC hW (Ri_toInt _) (Rl_toInt _)) rfl (by first | rfl | assumption) (by omega) rfl rfl (Nat.le_of_ble_eq_true rfl) ⟨Nat.le_of_ble_eq_true rfl, Nat.le_of_ble_eq_true rfl⟩ ⟨Nat.le_of_ble_eq_true rfl, Nat.le_of_ble_eq_true rfl⟩ ?_
  rintro v I1 J1 ⟨rfl, hOI, -, hC1⟩
  have hM1 : MI I1 n tx hs C kn K := hMm.off (by rw [hOI 71 (by omega)]) (by rw [hOI 71 (by omega)]) (fun q a b => hOI q (by omega))
  refine G_aload_n (pc := 189) dL_law_189 rfl ?_
  refine G_aload_n (pc := 190) dL_law_190 rfl ?_
  refine G_iload_n (pc := 191) dL_law_191 rfl ?_
  refine G_iconst (pc := 192) dL_law_192 ?_
  refine G_iadd (pc := 193) dL_law_193 ?_
  refine GL_sld (pc := 194) dL_law_194 hL (by omega) (by omega) ?_
  refine G_aload_n (pc := 195) dL_law_195 rfl ?_
  refine G_iload_n (pc := 196) dL_law_196 rfl ?_
  refine G_iconst (pc := 197) dL_law_197 ?_
  refine G_iadd (pc := 198) dL_law_198 ?_
  refine GL_sld (pc := 199) dL_law_199 hL (by omega) (by omega) ?_
  refine G_i2l (pc := 200) dL_law_200 (Ri_toInt _) ?_
  refine G_bipush (pc := 201) dL_law_201 (by decide) ?_
  refine G_lshl (pc := 203) dL_law_203 ?_
  refine G_aload_n (pc := 204) dL_law_204 rfl ?_
  refine G_iload_n (pc := 205) dL_law_205 rfl ?_
  refine G_iconst (pc := 206) dL_law_206 ?_
  refine G_iadd (pc := 207) dL_law_207 ?_
  refine GL_sld (pc := 208) dL_law_208 hL (by omega) (by omega) ?_
  refine G_i2l (pc := 209) dL_law_209 (Ri_toInt _) ?_
  refine G_ldc2 (pc := 210) dL_law_210 klL_13 ?_
  refine G_land (pc := 213) dL_law_213 ?_
  refine G_lor (pc := 214) dL_law_214 ?_
  refine G_callV (pc := 215) (md := mdX12_write) (av := [_, _]) dL_law_215 lkL_19 mwX12_write (y_write _ _ (by omega) hM1 hW (Ri_toInt _) (Rl_toInt _)) rfl (by first | rfl | assumption) (by omega) rfl rfl (Nat.le_of_ble_eq_true rfl) ⟨Nat.le_of_ble_eq_true rfl, Nat.le_of_ble_eq_true rfl⟩ ⟨Nat.le_of_ble_eq_true rfl, Nat.le_of_ble_eq_true rfl⟩ ?_
  rintro v I2 J2 ⟨rfl, hOI2, -, hM2⟩
  have hC2 := CI.off (I' := I2) hC1 (fun q h => hOI2 q (by omega))
  refine G_same (pc := 218) (tgt := 956) dL_law_218 (by decide) ?_
  exact fin (sWrite (n, tx, hs, C, kn, K) _ _) I2 _ hC2 hM2 (W_write (S := (n, tx, hs, C, kn, K)) hW _ _)
theorem lc_wipe {E : EV} {b L : Nat} {xs : Nat → Int32} (hL : L ≤ 2560) (i : Nat) (hi : i + 5 ≤ L) {I J : Nat → Nat → Int} {S : ST} (hC : CIS I S) (hMm : MIS I S) (hW : WFS S) (fin : ∀ (S' : ST) (I' J' : Nat → Nat → Int), CIS I' S' → MIS I' S' → WFS S' → GL E b L xs 87 I' J' Rf 87 1929 956 [some (.ref b), some (vr E 0), some (vr E 71), some (vi (i : Int))] []) : GL E b L xs 87 I J Rf 87 1929 223 [some (.ref b), some (vr E 0), some (vr E 71), some (vi (i : Int))] [] := by
  obtain ⟨n, tx, hs, C, kn, K⟩ := S
  have hC : CI I n tx hs C kn K := hC
  have hMm : MI I n tx hs C kn K := hMm
  have hW : WF n tx hs C kn K := hW
  refine G_aload_n (pc := 223) dL_law_223 rfl ?_
  refine G_callV (pc := 224) (md := mdX11_wipe) (av := []) dL_law_224 lkL_20 mwX11_wipe (x_wipe  (by omega) hC hW ) rfl (by first | rfl | assumption) (by omega) rfl rfl (Nat.le_of_ble_eq_true rfl) ⟨Nat.le_of_ble_eq_true rfl, Nat.le_of_ble_eq_true rfl⟩ ⟨Nat.le_of_ble_eq_true rfl, Nat.le_of_ble_eq_true rfl⟩ ?_
  rintro v I1 J1 ⟨rfl, hOI, -, hC1⟩
  have hM1 : MI I1 n tx hs C kn K := hMm.off (by rw [hOI 71 (by omega)]) (by rw [hOI 71 (by omega)]) (fun q a b => hOI q (by omega))
  refine G_aload_n (pc := 227) dL_law_227 rfl ?_
  refine G_callV (pc := 228) (md := mdX12_wipe) (av := []) dL_law_228 lkL_24 mwX12_wipe (y_wipe  (by omega) hM1 hW ) rfl (by first | rfl | assumption) (by omega) rfl rfl (Nat.le_of_ble_eq_true rfl) ⟨Nat.le_of_ble_eq_true rfl, Nat.le_of_ble_eq_true rfl⟩ ⟨Nat.le_of_ble_eq_true rfl, Nat.le_of_ble_eq_true rfl⟩ ?_
  rintro v I2 J2 ⟨rfl, hOI2, -, hM2⟩
  have hC2 := CI.off (I' := I2) hC1 (fun q h => hOI2 q (by omega))
  refine G_same (pc := 231) (tgt := 956) dL_law_231 (by decide) ?_
  exact fin ((0, tx, hs, C, kn, K)) I2 _ hC2 hM2 (⟨Nat.zero_le _, hW.2⟩)
theorem lc_fault {E : EV} {b L : Nat} {xs : Nat → Int32} (hL : L ≤ 2560) (i : Nat) (hi : i + 5 ≤ L) {I J : Nat → Nat → Int} {S : ST} (hC : CIS I S) (hMm : MIS I S) (hW : WFS S) (fin : ∀ (S' : ST) (I' J' : Nat → Nat → Int), CIS I' S' → MIS I' S' → WFS S' → GL E b L xs 87 I' J' Rf 87 1929 956 [some (.ref b), some (vr E 0), some (vr E 71), some (vi (i : Int))] []) : GL E b L xs 87 I J Rf 87 1929 236 [some (.ref b), some (vr E 0), some (vr E 71), some (vi (i : Int))] [] := by
  obtain ⟨n, tx, hs, C, kn, K⟩ := S
  have hC : CI I n tx hs C kn K := hC
  have hMm : MI I n tx hs C kn K := hMm
  have hW : WF n tx hs C kn K := hW
  refine G_aload_n (pc := 236) dL_law_236 rfl ?_
  refine G_callV (pc := 237) (md := mdX11_fault) (av := []) dL_law_237 lkL_25 mwX11_fault (x_fault  (by omega) hC hW ) rfl (by first | rfl | assumption) (by omega) rfl rfl (Nat.le_of_ble_eq_true rfl) ⟨Nat.le_of_ble_eq_true rfl, Nat.le_of_ble_eq_true rfl⟩ ⟨Nat.le_of_ble_eq_true rfl, Nat.le_of_ble_eq_true rfl⟩ ?_
  rintro v I1 J1 ⟨rfl, hOI, -, hC1⟩
  have hM1 : MI I1 n tx hs C kn K := hMm.off (by rw [hOI 71 (by omega)]) (by rw [hOI 71 (by omega)]) (fun q a b => hOI q (by omega))
  refine G_aload_n (pc := 240) dL_law_240 rfl ?_
  refine G_callV (pc := 241) (md := mdX12_fault) (av := []) dL_law_241 lkL_28 mwX12_fault (m_fault (by omega) hM1.1 hW.1 hW.2.1) rfl (by first | rfl | assumption) (by omega) rfl rfl (Nat.le_of_ble_eq_true rfl) ⟨Nat.le_of_ble_eq_true rfl, Nat.le_of_ble_eq_true rfl⟩ ⟨Nat.le_of_ble_eq_true rfl, Nat.le_of_ble_eq_true rfl⟩ ?_
  rintro v I2 J2 ⟨rfl, rfl, hOP, -⟩
  have hM2 := hOP.mi hW.2.2.1 hM1
  have hC2 := CI.off (I' := I2) hC1 (fun q h => hOP.off q (by omega))
  refine G_same (pc := 244) (tgt := 956) dL_law_244 (by decide) ?_
  exact fin ((n, tx, hs, C, kn, K)) I2 _ hC2 hM2 (hW)
theorem lc_lay {E : EV} {b L : Nat} {xs : Nat → Int32} (hL : L ≤ 2560) (i : Nat) (hi : i + 5 ≤ L) {I J : Nat → Nat → Int} {S : ST} (hC : CIS I S) (hMm : MIS I S) (hW : WFS S) (fin : ∀ (S' : ST) (I' J' : Nat → Nat → Int), CIS I' S' → MIS I' S' → WFS S' → GL E b L xs 87 I' J' Rf 87 1929 956 [some (.ref b), some (vr E 0), some (vr E 71), some (vi (i : Int))] []) : GL E b L xs 87 I J Rf 87 1929 249 [some (.ref b), some (vr E 0), some (vr E 71), some (vi (i : Int))] [] := by
  obtain ⟨n, tx, hs, C, kn, K⟩ := S
  have hC : CI I n tx hs C kn K := hC
  have hMm : MI I n tx hs C kn K := hMm
  have hW : WF n tx hs C kn K := hW
  refine G_aload_n (pc := 249) dL_law_249 rfl ?_
  refine G_callV (pc := 250) (md := mdX11_lay) (av := []) dL_law_250 lkL_29 mwX11_lay (x_lay  (by omega) hC hW ) rfl (by first | rfl | assumption) (by omega) rfl rfl (Nat.le_of_ble_eq_true rfl) ⟨Nat.le_of_ble_eq_true rfl, Nat.le_of_ble_eq_true rfl⟩ ⟨Nat.le_of_ble_eq_true rfl, Nat.le_of_ble_eq_true rfl⟩ ?_
  rintro v I1 J1 ⟨rfl, hOI, -, hC1⟩
  have hM1 : MI I1 n tx hs C kn K := hMm.off (by rw [hOI 71 (by omega)]) (by rw [hOI 71 (by omega)]) (fun q a b => hOI q (by omega))
  refine G_aload_n (pc := 253) dL_law_253 rfl ?_
  refine G_callV (pc := 254) (md := mdX12_lay) (av := []) dL_law_254 lkL_32 mwX12_lay (y_lay  (by omega) hM1 hW ) rfl (by first | rfl | assumption) (by omega) rfl rfl (Nat.le_of_ble_eq_true rfl) ⟨Nat.le_of_ble_eq_true rfl, Nat.le_of_ble_eq_true rfl⟩ ⟨Nat.le_of_ble_eq_true rfl, Nat.le_of_ble_eq_true rfl⟩ ?_
  rintro v I2 J2 ⟨rfl, hOI2, -, hM2⟩
  have hC2 := CI.off (I' := I2) hC1 (fun q h => hOI2 q (by omega))
  refine G_same (pc := 257) (tgt := 956) dL_law_257 (by decide) ?_
  exact fin (sLay (n, tx, hs, C, kn, K)) I2 _ hC2 hM2 (W_lay (S := (n, tx, hs, C, kn, K)) hW)
theorem lc_does {E : EV} {b L : Nat} {xs : Nat → Int32} (hL : L ≤ 2560) (i : Nat) (hi : i + 5 ≤ L) {I J : Nat → Nat → Int} {S : ST} (hC : CIS I S) (hMm : MIS I S) (hW : WFS S) (fin : ∀ (S' : ST) (I' J' : Nat → Nat → Int), CIS I' S' → MIS I' S' → WFS S' → GL E b L xs 87 I' J' Rf 87 1929 956 [some (.ref b), some (vr E 0), some (vr E 71), some (vi (i : Int))] []) : GL E b L xs 87 I J Rf 87 1929 262 [some (.ref b), some (vr E 0), some (vr E 71), some (vi (i : Int))] [] := by
  obtain ⟨n, tx, hs, C, kn, K⟩ := S
  have hC : CI I n tx hs C kn K := hC
  have hMm : MI I n tx hs C kn K := hMm
  have hW : WF n tx hs C kn K := hW
  refine G_aload_n (pc := 262) dL_law_262 rfl ?_
  refine G_aload_n (pc := 263) dL_law_263 rfl ?_
  refine G_iload_n (pc := 264) dL_law_264 rfl ?_
  refine G_iconst (pc := 265) dL_law_265 ?_
  refine G_iadd (pc := 266) dL_law_266 ?_
  refine GL_sld (pc := 267) dL_law_267 hL (by omega) (by omega) ?_
  refine G_aload_n (pc := 268) dL_law_268 rfl ?_
  refine G_iload_n (pc := 269) dL_law_269 rfl ?_
  refine G_iconst (pc := 270) dL_law_270 ?_
  refine G_iadd (pc := 271) dL_law_271 ?_
  refine GL_sld (pc := 272) dL_law_272 hL (by omega) (by omega) ?_
  refine G_aload_n (pc := 273) dL_law_273 rfl ?_
  refine G_iload_n (pc := 274) dL_law_274 rfl ?_
  refine G_iconst (pc := 275) dL_law_275 ?_
  refine G_iadd (pc := 276) dL_law_276 ?_
  refine GL_sld (pc := 277) dL_law_277 hL (by omega) (by omega) ?_
  refine G_aload_n (pc := 278) dL_law_278 rfl ?_
  refine G_iload_n (pc := 279) dL_law_279 rfl ?_
  refine G_iconst (pc := 280) dL_law_280 ?_
  refine G_iadd (pc := 281) dL_law_281 ?_
  refine GL_sld (pc := 282) dL_law_282 hL (by omega) (by omega) ?_
  refine G_callV (pc := 283) (md := mdX11_does) (av := [_, _, _, _]) dL_law_283 lkL_33 mwX11_does (x_does _ _ _ _ (by omega) hC hW (Ri_toInt _) (Ri_toInt _) (Ri_toInt _) (Ri_toInt _)) rfl (by first | rfl | assumption) (by omega) rfl rfl (Nat.le_of_ble_eq_true rfl) ⟨Nat.le_of_ble_eq_true rfl, Nat.le_of_ble_eq_true rfl⟩ ⟨Nat.le_of_ble_eq_true rfl, Nat.le_of_ble_eq_true rfl⟩ ?_
  rintro v I1 J1 ⟨rfl, hOI, -, hC1⟩
  have hM1 : MI I1 n tx hs C kn K := hMm.off (by rw [hOI 71 (by omega)]) (by rw [hOI 71 (by omega)]) (fun q a b => hOI q (by omega))
  refine G_aload_n (pc := 286) dL_law_286 rfl ?_
  refine G_aload_n (pc := 287) dL_law_287 rfl ?_
  refine G_iload_n (pc := 288) dL_law_288 rfl ?_
  refine G_iconst (pc := 289) dL_law_289 ?_
  refine G_iadd (pc := 290) dL_law_290 ?_
  refine GL_sld (pc := 291) dL_law_291 hL (by omega) (by omega) ?_
  refine G_aload_n (pc := 292) dL_law_292 rfl ?_
  refine G_iload_n (pc := 293) dL_law_293 rfl ?_
  refine G_iconst (pc := 294) dL_law_294 ?_
  refine G_iadd (pc := 295) dL_law_295 ?_
  refine GL_sld (pc := 296) dL_law_296 hL (by omega) (by omega) ?_
  refine G_aload_n (pc := 297) dL_law_297 rfl ?_
  refine G_iload_n (pc := 298) dL_law_298 rfl ?_
  refine G_iconst (pc := 299) dL_law_299 ?_
  refine G_iadd (pc := 300) dL_law_300 ?_
  refine GL_sld (pc := 301) dL_law_301 hL (by omega) (by omega) ?_
  refine G_aload_n (pc := 302) dL_law_302 rfl ?_
  refine G_iload_n (pc := 303) dL_law_303 rfl ?_
  refine G_iconst (pc := 304) dL_law_304 ?_
  refine G_iadd (pc := 305) dL_law_305 ?_
  refine GL_sld (pc := 306) dL_law_306 hL (by omega) (by omega) ?_
  refine G_callV (pc := 307) (md := mdX12_does) (av := [_, _, _, _]) dL_law_307 lkL_37 mwX12_does (y_does _ _ _ _ (by omega) hM1 hW (Ri_toInt _) (Ri_toInt _) (Ri_toInt _) (Ri_toInt _)) rfl (by first | rfl | assumption) (by omega) rfl rfl (Nat.le_of_ble_eq_true rfl) ⟨Nat.le_of_ble_eq_true rfl, Nat.le_of_ble_eq_true rfl⟩ ⟨Nat.le_of_ble_eq_true rfl, Nat.le_of_ble_eq_true rfl⟩ ?_
  rintro v I2 J2 ⟨rfl, hOI2, -, hM2⟩
  have hC2 := CI.off (I' := I2) hC1 (fun q h => hOI2 q (by omega))
  refine G_same (pc := 310) (tgt := 956) dL_law_310 (by decide) ?_
  exact fin ((n, tx, hs, C, kn, K)) I2 _ hC2 hM2 (hW)
theorem lc_step {E : EV} {b L : Nat} {xs : Nat → Int32} (hL : L ≤ 2560) (i : Nat) (hi : i + 5 ≤ L) {I J : Nat → Nat → Int} {S : ST} (hC : CIS I S) (hMm : MIS I S) (hW : WFS S) (fin : ∀ (S' : ST) (I' J' : Nat → Nat → Int), CIS I' S' → MIS I' S' → WFS S' → GL E b L xs 87 I' J' Rf 87 1929 956 [some (.ref b), some (vr E 0), some (vr E 71), some (vi (i : Int))] []) : GL E b L xs 87 I J Rf 87 1929 315 [some (.ref b), some (vr E 0), some (vr E 71), some (vi (i : Int))] [] := by
  obtain ⟨n, tx, hs, C, kn, K⟩ := S
  have hC : CI I n tx hs C kn K := hC
  have hMm : MI I n tx hs C kn K := hMm
  have hW : WF n tx hs C kn K := hW
  refine G_aload_n (pc := 315) dL_law_315 rfl ?_
  refine G_aload_n (pc := 316) dL_law_316 rfl ?_
  refine G_iload_n (pc := 317) dL_law_317 rfl ?_
  refine G_iconst (pc := 318) dL_law_318 ?_
  refine G_iadd (pc := 319) dL_law_319 ?_
  refine GL_sld (pc := 320) dL_law_320 hL (by omega) (by omega) ?_
  refine G_aload_n (pc := 321) dL_law_321 rfl ?_
  refine G_iload_n (pc := 322) dL_law_322 rfl ?_
  refine G_iconst (pc := 323) dL_law_323 ?_
  refine G_iadd (pc := 324) dL_law_324 ?_
  refine GL_sld (pc := 325) dL_law_325 hL (by omega) (by omega) ?_
  refine G_callV (pc := 326) (md := mdX11_step) (av := [_, _]) dL_law_326 lkL_38 mwX11_step (x_step _ _ (by omega) hC hW (Ri_toInt _) (Ri_toInt _)) rfl (by first | rfl | assumption) (by omega) rfl rfl (Nat.le_of_ble_eq_true rfl) ⟨Nat.le_of_ble_eq_true rfl, Nat.le_of_ble_eq_true rfl⟩ ⟨Nat.le_of_ble_eq_true rfl, Nat.le_of_ble_eq_true rfl⟩ ?_
  rintro v I1 J1 ⟨rfl, hOI, -, hC1⟩
  have hM1 : MI I1 n tx hs C kn K := hMm.off (by rw [hOI 71 (by omega)]) (by rw [hOI 71 (by omega)]) (fun q a b => hOI q (by omega))
  refine G_aload_n (pc := 329) dL_law_329 rfl ?_
  refine G_aload_n (pc := 330) dL_law_330 rfl ?_
  refine G_iload_n (pc := 331) dL_law_331 rfl ?_
  refine G_iconst (pc := 332) dL_law_332 ?_
  refine G_iadd (pc := 333) dL_law_333 ?_
  refine GL_sld (pc := 334) dL_law_334 hL (by omega) (by omega) ?_
  refine G_aload_n (pc := 335) dL_law_335 rfl ?_
  refine G_iload_n (pc := 336) dL_law_336 rfl ?_
  refine G_iconst (pc := 337) dL_law_337 ?_
  refine G_iadd (pc := 338) dL_law_338 ?_
  refine GL_sld (pc := 339) dL_law_339 hL (by omega) (by omega) ?_
  refine G_callV (pc := 340) (md := mdX12_step) (av := [_, _]) dL_law_340 lkL_42 mwX12_step (y_step _ _ (by omega) hM1 hW (Ri_toInt _) (Ri_toInt _)) rfl (by first | rfl | assumption) (by omega) rfl rfl (Nat.le_of_ble_eq_true rfl) ⟨Nat.le_of_ble_eq_true rfl, Nat.le_of_ble_eq_true rfl⟩ ⟨Nat.le_of_ble_eq_true rfl, Nat.le_of_ble_eq_true rfl⟩ ?_
  rintro v I2 J2 ⟨rfl, hOI2, -, hM2⟩
  have hC2 := CI.off (I' := I2) hC1 (fun q h => hOI2 q (by omega))
  refine G_same (pc := 343) (tgt := 956) dL_law_343 (by decide) ?_
  exact fin (sStep (n, tx, hs, C, kn, K) _ _) I2 _ hC2 hM2 (W_step (S := (n, tx, hs, C, kn, K)) hW _ _)
theorem lc_noRow {E : EV} {b L : Nat} {xs : Nat → Int32} (hL : L ≤ 2560) (i : Nat) (hi : i + 5 ≤ L) {I J : Nat → Nat → Int} {S : ST} (hC : CIS I S) (hMm : MIS I S) (hW : WFS S) (fin : ∀ (S' : ST) (I' J' : Nat → Nat → Int), CIS I' S' → MIS I' S' → WFS S' → GL E b L xs 87 I' J' Rf 87 1929 956 [some (.ref b), some (vr E 0), some (vr E 71), some (vi (i : Int))] []) : GL E b L xs 87 I J Rf 87 1929 348 [some (.ref b), some (vr E 0), some (vr E 71), some (vi (i : Int))] [] := by
  obtain ⟨n, tx, hs, C, kn, K⟩ := S
  have hC : CI I n tx hs C kn K := hC
  have hMm : MI I n tx hs C kn K := hMm
  have hW : WF n tx hs C kn K := hW
  refine G_aload_n (pc := 348) dL_law_348 rfl ?_
  refine G_callV (pc := 349) (md := mdX11_noRow) (av := []) dL_law_349 lkL_43 mwX11_noRow (x_noRow  (by omega) hC hW ) rfl (by first | rfl | assumption) (by omega) rfl rfl (Nat.le_of_ble_eq_true rfl) ⟨Nat.le_of_ble_eq_true rfl, Nat.le_of_ble_eq_true rfl⟩ ⟨Nat.le_of_ble_eq_true rfl, Nat.le_of_ble_eq_true rfl⟩ ?_
  rintro v I1 J1 ⟨rfl, hOI, -, hC1⟩
  have hM1 : MI I1 n tx hs C kn K := hMm.off (by rw [hOI 71 (by omega)]) (by rw [hOI 71 (by omega)]) (fun q a b => hOI q (by omega))
  refine G_aload_n (pc := 352) dL_law_352 rfl ?_
  refine G_callV (pc := 353) (md := mdX12_noRow) (av := []) dL_law_353 lkL_46 mwX12_noRow (y_noRow  (by omega) hM1 hW ) rfl (by first | rfl | assumption) (by omega) rfl rfl (Nat.le_of_ble_eq_true rfl) ⟨Nat.le_of_ble_eq_true rfl, Nat.le_of_ble_eq_true rfl⟩ ⟨Nat.le_of_ble_eq_true rfl, Nat.le_of_ble_eq_true rfl⟩ ?_
  rintro v I2 J2 ⟨rfl, hOI2, -, hM2⟩
  have hC2 := CI.off (I' := I2) hC1 (fun q h => hOI2 q (by omega))
  refine G_same (pc := 356) (tgt := 956) dL_law_356 (by decide) ?_
  exact fin (sNoRow (n, tx, hs, C, kn, K)) I2 _ hC2 hM2 (W_noRow (S := (n, tx, hs, C, kn, K)) hW)
theorem lc_left {E : EV} {b L : Nat} {xs : Nat → Int32} (hL : L ≤ 2560) (i : Nat) (hi : i + 5 ≤ L) {I J : Nat → Nat → Int} {S : ST} (hC : CIS I S) (hMm : MIS I S) (hW : WFS S) (fin : ∀ (S' : ST) (I' J' : Nat → Nat → Int), CIS I' S' → MIS I' S' → WFS S' → GL E b L xs 87 I' J' Rf 87 1929 956 [some (.ref b), some (vr E 0), some (vr E 71), some (vi (i : Int))] []) : GL E b L xs 87 I J Rf 87 1929 361 [some (.ref b), some (vr E 0), some (vr E 71), some (vi (i : Int))] [] := by
  obtain ⟨n, tx, hs, C, kn, K⟩ := S
  have hC : CI I n tx hs C kn K := hC
  have hMm : MI I n tx hs C kn K := hMm
  have hW : WF n tx hs C kn K := hW
  refine G_aload_n (pc := 361) dL_law_361 rfl ?_
  refine G_aload_n (pc := 362) dL_law_362 rfl ?_
  refine G_iload_n (pc := 363) dL_law_363 rfl ?_
  refine G_iconst (pc := 364) dL_law_364 ?_
  refine G_iadd (pc := 365) dL_law_365 ?_
  refine GL_sld (pc := 366) dL_law_366 hL (by omega) (by omega) ?_
  refine G_callV (pc := 367) (md := mdX11_left) (av := [_]) dL_law_367 lkL_47 mwX11_left (x_left _ (by omega) hC hW (Ri_toInt _)) rfl (by first | rfl | assumption) (by omega) rfl rfl (Nat.le_of_ble_eq_true rfl) ⟨Nat.le_of_ble_eq_true rfl, Nat.le_of_ble_eq_true rfl⟩ ⟨Nat.le_of_ble_eq_true rfl, Nat.le_of_ble_eq_true rfl⟩ ?_
  rintro v I1 J1 ⟨rfl, hOI, -, hC1⟩
  have hM1 : MI I1 n tx hs C kn K := hMm.off (by rw [hOI 71 (by omega)]) (by rw [hOI 71 (by omega)]) (fun q a b => hOI q (by omega))
  refine G_aload_n (pc := 370) dL_law_370 rfl ?_
  refine G_aload_n (pc := 371) dL_law_371 rfl ?_
  refine G_iload_n (pc := 372) dL_law_372 rfl ?_
  refine G_iconst (pc := 373) dL_law_373 ?_
  refine G_iadd (pc := 374) dL_law_374 ?_
  refine GL_sld (pc := 375) dL_law_375 hL (by omega) (by omega) ?_
  refine G_callV (pc := 376) (md := mdX12_left) (av := [_]) dL_law_376 lkL_51 mwX12_left (y_left _ (by omega) hM1 hW (Ri_toInt _)) rfl (by first | rfl | assumption) (by omega) rfl rfl (Nat.le_of_ble_eq_true rfl) ⟨Nat.le_of_ble_eq_true rfl, Nat.le_of_ble_eq_true rfl⟩ ⟨Nat.le_of_ble_eq_true rfl, Nat.le_of_ble_eq_true rfl⟩ ?_
  rintro v I2 J2 ⟨rfl, hOI2, -, hM2⟩
  have hC2 := CI.off (I' := I2) hC1 (fun q h => hOI2 q (by omega))
  refine G_same (pc := 379) (tgt := 956) dL_law_379 (by decide) ?_
  exact fin ((n, tx, hs, C, kn, K)) I2 _ hC2 hM2 (hW)
theorem lc_share {E : EV} {b L : Nat} {xs : Nat → Int32} (hL : L ≤ 2560) (i : Nat) (hi : i + 5 ≤ L) {I J : Nat → Nat → Int} {S : ST} (hC : CIS I S) (hMm : MIS I S) (hW : WFS S) (fin : ∀ (S' : ST) (I' J' : Nat → Nat → Int), CIS I' S' → MIS I' S' → WFS S' → GL E b L xs 87 I' J' Rf 87 1929 956 [some (.ref b), some (vr E 0), some (vr E 71), some (vi (i : Int))] []) : GL E b L xs 87 I J Rf 87 1929 384 [some (.ref b), some (vr E 0), some (vr E 71), some (vi (i : Int))] [] := by
  obtain ⟨n, tx, hs, C, kn, K⟩ := S
  have hC : CI I n tx hs C kn K := hC
  have hMm : MI I n tx hs C kn K := hMm
  have hW : WF n tx hs C kn K := hW
  refine G_aload_n (pc := 384) dL_law_384 rfl ?_
  refine G_aload_n (pc := 385) dL_law_385 rfl ?_
  refine G_iload_n (pc := 386) dL_law_386 rfl ?_
  refine G_iconst (pc := 387) dL_law_387 ?_
  refine G_iadd (pc := 388) dL_law_388 ?_
  refine GL_sld (pc := 389) dL_law_389 hL (by omega) (by omega) ?_
  refine G_callV (pc := 390) (md := mdX11_share) (av := [_]) dL_law_390 lkL_52 mwX11_share (x_share _ (by omega) hC hW (Ri_toInt _)) rfl (by first | rfl | assumption) (by omega) rfl rfl (Nat.le_of_ble_eq_true rfl) ⟨Nat.le_of_ble_eq_true rfl, Nat.le_of_ble_eq_true rfl⟩ ⟨Nat.le_of_ble_eq_true rfl, Nat.le_of_ble_eq_true rfl⟩ ?_
  rintro v I1 J1 ⟨rfl, hOI, -, hC1⟩
  have hM1 : MI I1 n tx hs C kn K := hMm.off (by rw [hOI 71 (by omega)]) (by rw [hOI 71 (by omega)]) (fun q a b => hOI q (by omega))
  refine G_aload_n (pc := 393) dL_law_393 rfl ?_
  refine G_aload_n (pc := 394) dL_law_394 rfl ?_
  refine G_iload_n (pc := 395) dL_law_395 rfl ?_
  refine G_iconst (pc := 396) dL_law_396 ?_
  refine G_iadd (pc := 397) dL_law_397 ?_
  refine GL_sld (pc := 398) dL_law_398 hL (by omega) (by omega) ?_
  refine G_callV (pc := 399) (md := mdX12_share) (av := [_]) dL_law_399 lkL_55 mwX12_share (y_share _ (by omega) hM1 hW (Ri_toInt _)) rfl (by first | rfl | assumption) (by omega) rfl rfl (Nat.le_of_ble_eq_true rfl) ⟨Nat.le_of_ble_eq_true rfl, Nat.le_of_ble_eq_true rfl⟩ ⟨Nat.le_of_ble_eq_true rfl, Nat.le_of_ble_eq_true rfl⟩ ?_
  rintro v I2 J2 ⟨rfl, hOI2, -, hM2⟩
  have hC2 := CI.off (I' := I2) hC1 (fun q h => hOI2 q (by omega))
  refine G_same (pc := 402) (tgt := 956) dL_law_402 (by decide) ?_
  exact fin ((n, tx, hs, C, kn, K)) I2 _ hC2 hM2 (hW)
theorem lc_bent {E : EV} {b L : Nat} {xs : Nat → Int32} (hL : L ≤ 2560) (i : Nat) (hi : i + 5 ≤ L) {I J : Nat → Nat → Int} {S : ST} (hC : CIS I S) (hMm : MIS I S) (hW : WFS S) (fin : ∀ (S' : ST) (I' J' : Nat → Nat → Int), CIS I' S' → MIS I' S' → WFS S' → GL E b L xs 87 I' J' Rf 87 1929 956 [some (.ref b), some (vr E 0), some (vr E 71), some (vi (i : Int))] []) : GL E b L xs 87 I J Rf 87 1929 407 [some (.ref b), some (vr E 0), some (vr E 71), some (vi (i : Int))] [] := by
  obtain ⟨n, tx, hs, C, kn, K⟩ := S
  have hC : CI I n tx hs C kn K := hC
  have hMm : MI I n tx hs C kn K := hMm
  have hW : WF n tx hs C kn K := hW
  refine G_aload_n (pc := 407) dL_law_407 rfl ?_
  refine G_aload_n (pc := 408) dL_law_408 rfl ?_
  refine G_iload_n (pc := 409) dL_law_409 rfl ?_
  refine G_iconst (pc := 410) dL_law_410 ?_
  refine G_iadd (pc := 411) dL_law_411 ?_
  refine GL_sld (pc := 412) dL_law_412 hL (by omega) (by omega) ?_
  refine G_callV (pc := 413) (md := mdX11_bent) (av := [_]) dL_law_413 lkL_56 mwX11_bent (x_bent _ (by omega) hC hW (Ri_toInt _)) rfl (by first | rfl | assumption) (by omega) rfl rfl (Nat.le_of_ble_eq_true rfl) ⟨Nat.le_of_ble_eq_true rfl, Nat.le_of_ble_eq_true rfl⟩ ⟨Nat.le_of_ble_eq_true rfl, Nat.le_of_ble_eq_true rfl⟩ ?_
  rintro v I1 J1 ⟨rfl, hOI, -, hC1⟩
  have hM1 : MI I1 n tx hs C kn K := hMm.off (by rw [hOI 71 (by omega)]) (by rw [hOI 71 (by omega)]) (fun q a b => hOI q (by omega))
  refine G_aload_n (pc := 416) dL_law_416 rfl ?_
  refine G_aload_n (pc := 417) dL_law_417 rfl ?_
  refine G_iload_n (pc := 418) dL_law_418 rfl ?_
  refine G_iconst (pc := 419) dL_law_419 ?_
  refine G_iadd (pc := 420) dL_law_420 ?_
  refine GL_sld (pc := 421) dL_law_421 hL (by omega) (by omega) ?_
  refine G_callV (pc := 422) (md := mdX12_bent) (av := [_]) dL_law_422 lkL_59 mwX12_bent (y_bent _ (by omega) hM1 hW (Ri_toInt _)) rfl (by first | rfl | assumption) (by omega) rfl rfl (Nat.le_of_ble_eq_true rfl) ⟨Nat.le_of_ble_eq_true rfl, Nat.le_of_ble_eq_true rfl⟩ ⟨Nat.le_of_ble_eq_true rfl, Nat.le_of_ble_eq_true rfl⟩ ?_
  rintro v I2 J2 ⟨rfl, hOI2, -, hM2⟩
  have hC2 := CI.off (I' := I2) hC1 (fun q h => hOI2 q (by omega))
  refine G_same (pc := 425) (tgt := 956) dL_law_425 (by decide) ?_
  exact fin ((n, tx, hs, C, kn, K)) I2 _ hC2 hM2 (hW)
