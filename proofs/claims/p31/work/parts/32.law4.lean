/-! THE LAW: what is felt, played, done; the least and the greatest bent -/
section LAWD
variable {E : EV} {b L : Nat} {xs : Nat → Int32} {I J : Nat → Nat → Int} {n : Nat} {tx : Nat → Int} {hs : HS} {C : CS} {K : Nat → CS} {o : Nat → Nat}
theorem la_lohi (hL : L ≤ 260) (hD : DRo o) (hH : HOo o hs) (hO : OI I o) (hC : CI I n tx hs C 0 K) (hW : WF n tx hs C 0 K) (hT : C 3 0 = 0) (hR : C 0 0 = o 2) : GW E b L xs I J 304 [some (.ref b), some (vr E 0), some (vr E 71), some (vi (aP o (o 0) : Nat)), none, none, none, none, none, none, none, none, none, none, none] [] := by
  have d0 := hD.1
  have e8 := hH.1
  have loop : ∀ (r k lo hi : Nat), k + r = o 0 → (∀ s, s < k → lo ≤ hs 1 s ∧ hs 1 s ≤ hi) → lo ≤ 10 → hi ≤ 10 → GW E b L xs I J 314 [some (.ref b), some (vr E 0), some (vr E 71), some (vi (aP o (o 0) : Nat)), some (vi (lo : Int)), some (vi (hi : Int)), some (vi (k : Int)), none, none, none, none, none, none, none, none] [] := by
    intro r
    induction r with
    | zero =>
      intro k lo hi hk hb hlo hhi
      refine G_iload (pc := 314) dL_law_314 rfl ?_
      refine G_aload_n (pc := 316) dL_law_316 rfl ?_
      refine G_iconst (pc := 317) dL_law_317 ?_
      refine G_ialdv (pc := 318) dL_law_318 (by first | rfl | assumption) (by omega) (by omega) (by omega) (by omega) (hO 0 (by omega)) ?_
      refine G_icmp_ge (pc := 319) (tgt := 388) dL_law_319 (Ri.mk (by omega) (by omega)) (Ri.mk (by omega) (by omega)) (by decide) (fun h_319 => ?_) (fun h_319 => ?_)
      · exact G_kill 6 rfl (la_steps hL hD hH (fun s h => hb s (by omega)) hlo hhi hO hC hW hT hR)
      · exact absurd h_319 (by omega)
    | succ r ih =>
      intro k lo hi hk hb hlo hhi
      have hbk := (hH.2.2.2.1 k (by omega)).2.1
      have hb10 := (hD.2.2.2.2.2.2.1 k (by omega)).2.1
      have hv : I 71 (7 + 4 * (k : Int)).toNat = (o (6 + 4 * k + 1) : Int) := by rw [show (7 + 4 * (k : Int)).toNat = 6 + 4 * k + 1 by omega]; exact hO _ (by omega)
      refine G_iload (pc := 314) dL_law_314 rfl ?_
      refine G_aload_n (pc := 316) dL_law_316 rfl ?_
      refine G_iconst (pc := 317) dL_law_317 ?_
      refine G_ialdv (pc := 318) dL_law_318 (by first | rfl | assumption) (by omega) (by omega) (by omega) (by omega) (hO 0 (by omega)) ?_
      refine G_icmp_ge (pc := 319) (tgt := 388) dL_law_319 (Ri.mk (by omega) (by omega)) (Ri.mk (by omega) (by omega)) (by decide) (fun h_319 => ?_) (fun h_319 => ?_)
      · exact absurd h_319 (by omega)
      · refine G_aload_n (pc := 322) dL_law_322 rfl ?_
        refine G_bipush (pc := 323) dL_law_323 (by decide) ?_
        refine G_iconst (pc := 325) dL_law_325 ?_
        refine G_iload (pc := 326) dL_law_326 rfl ?_
        refine G_imul (pc := 328) dL_law_328 ?_
        refine G_iadd (pc := 329) dL_law_329 ?_
        refine G_ialdv (pc := 330) dL_law_330 (by first | rfl | assumption) (by omega) (by omega) (by omega) (by omega) (hv) ?_
        refine G_iload (pc := 331) dL_law_331 rfl ?_
        refine G_icmp_ge (pc := 333) (tgt := 348) dL_law_333 (Ri.mk (by omega) (by omega)) (Ri.mk (by omega) (by omega)) (by decide) (fun h_333 => ?_) (fun h_333 => ?_)
        · refine G_iload (pc := 348) dL_law_348 rfl ?_
          refine G_istore (pc := 350) (lv' := [_, _, _, _, _, _, _, _, _, _, _, _, _, _, _]) dL_law_350 (by decide) rfl ?_
          refine G_aload_n (pc := 352) dL_law_352 rfl ?_
          refine G_bipush (pc := 353) dL_law_353 (by decide) ?_
          refine G_iconst (pc := 355) dL_law_355 ?_
          refine G_iload (pc := 356) dL_law_356 rfl ?_
          refine G_imul (pc := 358) dL_law_358 ?_
          refine G_iadd (pc := 359) dL_law_359 ?_
          refine G_ialdv (pc := 360) dL_law_360 (by first | rfl | assumption) (by omega) (by omega) (by omega) (by omega) (hv) ?_
          refine G_iload (pc := 361) dL_law_361 rfl ?_
          refine G_icmp_le (pc := 363) (tgt := 378) dL_law_363 (Ri.mk (by omega) (by omega)) (Ri.mk (by omega) (by omega)) (by decide) (fun h_363 => ?_) (fun h_363 => ?_)
          · refine G_iload (pc := 378) dL_law_378 rfl ?_
            refine G_istore (pc := 380) (lv' := [_, _, _, _, _, _, _, _, _, _, _, _, _, _, _]) dL_law_380 (by decide) rfl ?_
            refine G_iinc (pc := 382) (lv' := [_, _, _, _, _, _, _, _, _, _, _, _, _, _, _]) dL_law_382 (by decide) rfl rfl ?_
            refine G_goto (pc := 385) (tgt := 314) dL_law_385 (by decide) ?_
            exact ih (k + 1) _ _ (by omega) (fun s h => by
              rcases (show s < k ∨ s = k by omega) with h1 | h1
              · have := hb s h1; omega
              · rw [h1, hbk]; omega) (by omega) (by omega)
          · refine G_aload_n (pc := 366) dL_law_366 rfl ?_
            refine G_bipush (pc := 367) dL_law_367 (by decide) ?_
            refine G_iconst (pc := 369) dL_law_369 ?_
            refine G_iload (pc := 370) dL_law_370 rfl ?_
            refine G_imul (pc := 372) dL_law_372 ?_
            refine G_iadd (pc := 373) dL_law_373 ?_
            refine G_ialdv (pc := 374) dL_law_374 (by first | rfl | assumption) (by omega) (by omega) (by omega) (by omega) (hv) ?_
            refine G_goto (pc := 375) (tgt := 380) dL_law_375 (by decide) ?_
            refine G_istore (pc := 380) (lv' := [_, _, _, _, _, _, _, _, _, _, _, _, _, _, _]) dL_law_380 (by decide) rfl ?_
            refine G_iinc (pc := 382) (lv' := [_, _, _, _, _, _, _, _, _, _, _, _, _, _, _]) dL_law_382 (by decide) rfl rfl ?_
            refine G_goto (pc := 385) (tgt := 314) dL_law_385 (by decide) ?_
            exact ih (k + 1) _ _ (by omega) (fun s h => by
              rcases (show s < k ∨ s = k by omega) with h1 | h1
              · have := hb s h1; omega
              · rw [h1, hbk]; omega) (by omega) (by omega)
        · refine G_aload_n (pc := 336) dL_law_336 rfl ?_
          refine G_bipush (pc := 337) dL_law_337 (by decide) ?_
          refine G_iconst (pc := 339) dL_law_339 ?_
          refine G_iload (pc := 340) dL_law_340 rfl ?_
          refine G_imul (pc := 342) dL_law_342 ?_
          refine G_iadd (pc := 343) dL_law_343 ?_
          refine G_ialdv (pc := 344) dL_law_344 (by first | rfl | assumption) (by omega) (by omega) (by omega) (by omega) (hv) ?_
          refine G_goto (pc := 345) (tgt := 350) dL_law_345 (by decide) ?_
          refine G_istore (pc := 350) (lv' := [_, _, _, _, _, _, _, _, _, _, _, _, _, _, _]) dL_law_350 (by decide) rfl ?_
          refine G_aload_n (pc := 352) dL_law_352 rfl ?_
          refine G_bipush (pc := 353) dL_law_353 (by decide) ?_
          refine G_iconst (pc := 355) dL_law_355 ?_
          refine G_iload (pc := 356) dL_law_356 rfl ?_
          refine G_imul (pc := 358) dL_law_358 ?_
          refine G_iadd (pc := 359) dL_law_359 ?_
          refine G_ialdv (pc := 360) dL_law_360 (by first | rfl | assumption) (by omega) (by omega) (by omega) (by omega) (hv) ?_
          refine G_iload (pc := 361) dL_law_361 rfl ?_
          refine G_icmp_le (pc := 363) (tgt := 378) dL_law_363 (Ri.mk (by omega) (by omega)) (Ri.mk (by omega) (by omega)) (by decide) (fun h_363 => ?_) (fun h_363 => ?_)
          · refine G_iload (pc := 378) dL_law_378 rfl ?_
            refine G_istore (pc := 380) (lv' := [_, _, _, _, _, _, _, _, _, _, _, _, _, _, _]) dL_law_380 (by decide) rfl ?_
            refine G_iinc (pc := 382) (lv' := [_, _, _, _, _, _, _, _, _, _, _, _, _, _, _]) dL_law_382 (by decide) rfl rfl ?_
            refine G_goto (pc := 385) (tgt := 314) dL_law_385 (by decide) ?_
            exact ih (k + 1) _ _ (by omega) (fun s h => by
              rcases (show s < k ∨ s = k by omega) with h1 | h1
              · have := hb s h1; omega
              · rw [h1, hbk]; omega) (by omega) (by omega)
          · refine G_aload_n (pc := 366) dL_law_366 rfl ?_
            refine G_bipush (pc := 367) dL_law_367 (by decide) ?_
            refine G_iconst (pc := 369) dL_law_369 ?_
            refine G_iload (pc := 370) dL_law_370 rfl ?_
            refine G_imul (pc := 372) dL_law_372 ?_
            refine G_iadd (pc := 373) dL_law_373 ?_
            refine G_ialdv (pc := 374) dL_law_374 (by first | rfl | assumption) (by omega) (by omega) (by omega) (by omega) (hv) ?_
            refine G_goto (pc := 375) (tgt := 380) dL_law_375 (by decide) ?_
            refine G_istore (pc := 380) (lv' := [_, _, _, _, _, _, _, _, _, _, _, _, _, _, _]) dL_law_380 (by decide) rfl ?_
            refine G_iinc (pc := 382) (lv' := [_, _, _, _, _, _, _, _, _, _, _, _, _, _, _]) dL_law_382 (by decide) rfl rfl ?_
            refine G_goto (pc := 385) (tgt := 314) dL_law_385 (by decide) ?_
            exact ih (k + 1) _ _ (by omega) (fun s h => by
              rcases (show s < k ∨ s = k by omega) with h1 | h1
              · have := hb s h1; omega
              · rw [h1, hbk]; omega) (by omega) (by omega)
  refine G_bipush (pc := 304) dL_law_304 (by decide) ?_
  refine G_istore (pc := 306) (lv' := [_, _, _, _, _, _, _, _, _, _, _, _, _, _, _]) dL_law_306 (by decide) rfl ?_
  refine G_iconst (pc := 308) dL_law_308 ?_
  refine G_istore (pc := 309) (lv' := [_, _, _, _, _, _, _, _, _, _, _, _, _, _, _]) dL_law_309 (by decide) rfl ?_
  refine G_iconst (pc := 311) dL_law_311 ?_
  refine G_istore (pc := 312) (lv' := [_, _, _, _, _, _, _, _, _, _, _, _, _, _, _]) dL_law_312 (by decide) rfl ?_
  exact loop (o 0) 0 10 0 (by omega) (fun s h => absurd h (Nat.not_lt_zero s)) (by omega) (by omega)
theorem la_does (hL : L ≤ 260) (hD : DRo o) (hH : HOo o hs) (hO : OI I o) (hC : CI I n tx hs C 0 K) (hW : WF n tx hs C 0 K) (hT : C 3 0 = 0) (hR : C 0 0 = o 2) : GW E b L xs I J 34 [some (.ref b), some (vr E 0), some (vr E 71), some (vi (aP o (o 0) : Nat)), none, none, none, none, none, none, none, none, none, none, none] [] := by
  have hB := hW.2.2.1
  have d0 := hD.1
  have d1 := hD.2.1
  have d4 := hD.2.2.2.2.1
  have e8 := hH.1
  have e9 := hH.2.1
  have e12 := hH.2.2.2.2.2.2.1
  have outer : ∀ (r k : Nat) (I J : Nat → Nat → Int), k + r = o 0 → OI I o → CI I n tx hs C 0 K → GW E b L xs I J 37 [some (.ref b), some (vr E 0), some (vr E 71), some (vi (aP o (o 0) : Nat)), some (vi (k : Int)), none, none, none, none, none, none, none, none, none, none] [] := by
    intro r
    induction r with
    | zero =>
      intro k I J hk hO hC
      refine G_iload (pc := 37) dL_law_37 rfl ?_
      refine G_aload_n (pc := 39) dL_law_39 rfl ?_
      refine G_iconst (pc := 40) dL_law_40 ?_
      refine G_ialdv (pc := 41) dL_law_41 (by first | rfl | assumption) (by omega) (by omega) (by omega) (by omega) (hO 0 (by omega)) ?_
      refine G_icmp_ge (pc := 42) (tgt := 304) dL_law_42 (Ri.mk (by omega) (by omega)) (Ri.mk (by omega) (by omega)) (by decide) (fun h_42 => ?_) (fun h_42 => ?_)
      · exact G_kill 4 rfl (la_lohi hL hD hH hO hC hW hT hR)
      · exact absurd h_42 (by omega)
    | succ r ih =>
      intro k I J hk hO hC
      have inner : ∀ (r2 a : Nat) (I J : Nat → Nat → Int), a + r2 = o 1 → OI I o → CI I n tx hs C 0 K → GW E b L xs I J 48 [some (.ref b), some (vr E 0), some (vr E 71), some (vi (aP o (o 0) : Nat)), some (vi (k : Int)), some (vi (a : Int)), none, none, none, none, none, none, none, none, none] [] := by
        intro r2
        induction r2 with
        | zero =>
          intro a I J ha hO hC
          refine G_iload (pc := 48) dL_law_48 rfl ?_
          refine G_aload_n (pc := 50) dL_law_50 rfl ?_
          refine G_iconst (pc := 51) dL_law_51 ?_
          refine G_ialdv (pc := 52) dL_law_52 (by first | rfl | assumption) (by omega) (by omega) (by omega) (by omega) (hO 1 (by omega)) ?_
          refine G_icmp_ge (pc := 53) (tgt := 298) dL_law_53 (Ri.mk (by omega) (by omega)) (Ri.mk (by omega) (by omega)) (by decide) (fun h_53 => ?_) (fun h_53 => ?_)
          · refine G_iinc (pc := 298) (lv' := [_, _, _, _, _, _, _, _, _, _, _, _, _, _, _]) dL_law_298 (by decide) rfl rfl ?_
            refine G_goto (pc := 301) (tgt := 37) dL_law_301 (by decide) ?_
            exact G_kill 5 rfl (ih (k + 1) _ _ (by omega) hO hC)
          · exact absurd h_53 (by omega)
        | succ r2 ih2 =>
          intro a I J ha hO hC
          have hk8 : k < hs 8 0 := by omega
          have ha9 : a < hs 9 0 := by omega
          obtain ⟨g1, g2, g3, g4, g5, g6, g7⟩ := f_does (hs := hs) hk8 ha9
          have g8 := f_relief (hs := hs) hk8 ha9
          have g9 := f_harm (hs := hs) hk8 ha9
          have g10 := f_words hB ha9
          rw [e12] at g8
          refine G_iload (pc := 48) dL_law_48 rfl ?_
          refine G_aload_n (pc := 50) dL_law_50 rfl ?_
          refine G_iconst (pc := 51) dL_law_51 ?_
          refine G_ialdv (pc := 52) dL_law_52 (by first | rfl | assumption) (by omega) (by omega) (by omega) (by omega) (hO 1 (by omega)) ?_
          refine G_icmp_ge (pc := 53) (tgt := 298) dL_law_53 (Ri.mk (by omega) (by omega)) (Ri.mk (by omega) (by omega)) (by decide) (fun h_53 => ?_) (fun h_53 => ?_)
          · exact absurd h_53 (by omega)
          · refine G_aload_n (pc := 56) dL_law_56 rfl ?_
            refine G_iload (pc := 57) dL_law_57 rfl ?_
            refine G_iload (pc := 59) dL_law_59 rfl ?_
            refine G_iconst (pc := 61) dL_law_61 ?_
            refine G_iconst (pc := 62) dL_law_62 ?_
            refine G_callV (pc := 63) (md := mdX11_does) (av := [_, _, _, _]) dL_law_63 lkL_75 mwX11_does (x_does _ _ _ _ (by omega) hC hW (Ri.mk (by omega) (by omega)) (Ri.mk (by omega) (by omega)) (Ri.mk (by omega) (by omega)) (Ri.mk (by omega) (by omega))) rfl (by first | rfl | assumption) (by omega) rfl rfl (Nat.le_of_ble_eq_true rfl) ⟨Nat.le_of_ble_eq_true rfl, Nat.le_of_ble_eq_true rfl⟩ ⟨Nat.le_of_ble_eq_true rfl, Nat.le_of_ble_eq_true rfl⟩ ?_
            rintro v I63 J63 ⟨rfl, hf, -, hC⟩
            replace hO := hO.off hf
            clear hf
            refine G_aload_n (pc := 66) dL_law_66 rfl ?_
            refine G_iload (pc := 67) dL_law_67 rfl ?_
            refine G_iload (pc := 69) dL_law_69 rfl ?_
            refine G_iconst (pc := 71) dL_law_71 ?_
            refine G_iconst (pc := 72) dL_law_72 ?_
            refine G_callV (pc := 73) (md := mdX11_does) (av := [_, _, _, _]) dL_law_73 lkL_75 mwX11_does (x_does _ _ _ _ (by omega) hC hW (Ri.mk (by omega) (by omega)) (Ri.mk (by omega) (by omega)) (Ri.mk (by omega) (by omega)) (Ri.mk (by omega) (by omega))) rfl (by first | rfl | assumption) (by omega) rfl rfl (Nat.le_of_ble_eq_true rfl) ⟨Nat.le_of_ble_eq_true rfl, Nat.le_of_ble_eq_true rfl⟩ ⟨Nat.le_of_ble_eq_true rfl, Nat.le_of_ble_eq_true rfl⟩ ?_
            rintro v I73 J73 ⟨rfl, hf, -, hC⟩
            replace hO := hO.off hf
            clear hf
            refine G_icmp_lt (pc := 76) (tgt := 290) dL_law_76 (Ri.mk (by omega) (by omega)) (Ri.mk (by omega) (by omega)) (by decide) (fun h_76 => ?_) (fun h_76 => ?_)
            · exact absurd h_76 (by omega)
            · refine G_aload_n (pc := 79) dL_law_79 rfl ?_
              refine G_iload (pc := 80) dL_law_80 rfl ?_
              refine G_iload (pc := 82) dL_law_82 rfl ?_
              refine G_iconst (pc := 84) dL_law_84 ?_
              refine G_iconst (pc := 85) dL_law_85 ?_
              refine G_callV (pc := 86) (md := mdX11_does) (av := [_, _, _, _]) dL_law_86 lkL_75 mwX11_does (x_does _ _ _ _ (by omega) hC hW (Ri.mk (by omega) (by omega)) (Ri.mk (by omega) (by omega)) (Ri.mk (by omega) (by omega)) (Ri.mk (by omega) (by omega))) rfl (by first | rfl | assumption) (by omega) rfl rfl (Nat.le_of_ble_eq_true rfl) ⟨Nat.le_of_ble_eq_true rfl, Nat.le_of_ble_eq_true rfl⟩ ⟨Nat.le_of_ble_eq_true rfl, Nat.le_of_ble_eq_true rfl⟩ ?_
              rintro v I86 J86 ⟨rfl, hf, -, hC⟩
              replace hO := hO.off hf
              clear hf
              refine G_aload_n (pc := 89) dL_law_89 rfl ?_
              refine G_iload (pc := 90) dL_law_90 rfl ?_
              refine G_iload (pc := 92) dL_law_92 rfl ?_
              refine G_iconst (pc := 94) dL_law_94 ?_
              refine G_iconst (pc := 95) dL_law_95 ?_
              refine G_callV (pc := 96) (md := mdX11_does) (av := [_, _, _, _]) dL_law_96 lkL_75 mwX11_does (x_does _ _ _ _ (by omega) hC hW (Ri.mk (by omega) (by omega)) (Ri.mk (by omega) (by omega)) (Ri.mk (by omega) (by omega)) (Ri.mk (by omega) (by omega))) rfl (by first | rfl | assumption) (by omega) rfl rfl (Nat.le_of_ble_eq_true rfl) ⟨Nat.le_of_ble_eq_true rfl, Nat.le_of_ble_eq_true rfl⟩ ⟨Nat.le_of_ble_eq_true rfl, Nat.le_of_ble_eq_true rfl⟩ ?_
              rintro v I96 J96 ⟨rfl, hf, -, hC⟩
              replace hO := hO.off hf
              clear hf
              refine G_icmp_ne (pc := 99) (tgt := 290) dL_law_99 (Ri.mk (by omega) (by omega)) (Ri.mk (by omega) (by omega)) (by decide) (fun h_99 => ?_) (fun h_99 => ?_)
              · exact absurd h_99 (by omega)
              · refine G_aload_n (pc := 102) dL_law_102 rfl ?_
                refine G_iload (pc := 103) dL_law_103 rfl ?_
                refine G_iload (pc := 105) dL_law_105 rfl ?_
                refine G_iconst (pc := 107) dL_law_107 ?_
                refine G_iconst (pc := 108) dL_law_108 ?_
                refine G_callV (pc := 109) (md := mdX11_does) (av := [_, _, _, _]) dL_law_109 lkL_75 mwX11_does (x_does _ _ _ _ (by omega) hC hW (Ri.mk (by omega) (by omega)) (Ri.mk (by omega) (by omega)) (Ri.mk (by omega) (by omega)) (Ri.mk (by omega) (by omega))) rfl (by first | rfl | assumption) (by omega) rfl rfl (Nat.le_of_ble_eq_true rfl) ⟨Nat.le_of_ble_eq_true rfl, Nat.le_of_ble_eq_true rfl⟩ ⟨Nat.le_of_ble_eq_true rfl, Nat.le_of_ble_eq_true rfl⟩ ?_
                rintro v I109 J109 ⟨rfl, hf, -, hC⟩
                replace hO := hO.off hf
                clear hf
                refine G_if_ne (pc := 112) (tgt := 290) dL_law_112 (Ri.mk (by omega) (by omega)) (by decide) (fun h_112 => ?_) (fun h_112 => ?_)
                · exact absurd h_112 (by omega)
                · try simp only [bI_eq0, bI_ne0] at h_112
                  refine G_aload_n (pc := 115) dL_law_115 rfl ?_
                  refine G_iload (pc := 116) dL_law_116 rfl ?_
                  refine G_iload (pc := 118) dL_law_118 rfl ?_
                  refine G_iconst (pc := 120) dL_law_120 ?_
                  refine G_iconst (pc := 121) dL_law_121 ?_
                  refine G_callV (pc := 122) (md := mdX11_does) (av := [_, _, _, _]) dL_law_122 lkL_75 mwX11_does (x_does _ _ _ _ (by omega) hC hW (Ri.mk (by omega) (by omega)) (Ri.mk (by omega) (by omega)) (Ri.mk (by omega) (by omega)) (Ri.mk (by omega) (by omega))) rfl (by first | rfl | assumption) (by omega) rfl rfl (Nat.le_of_ble_eq_true rfl) ⟨Nat.le_of_ble_eq_true rfl, Nat.le_of_ble_eq_true rfl⟩ ⟨Nat.le_of_ble_eq_true rfl, Nat.le_of_ble_eq_true rfl⟩ ?_
                  rintro v I122 J122 ⟨rfl, hf, -, hC⟩
                  replace hO := hO.off hf
                  clear hf
                  refine G_if_ne (pc := 125) (tgt := 290) dL_law_125 (Ri.mk (by omega) (by omega)) (by decide) (fun h_125 => ?_) (fun h_125 => ?_)
                  · exact absurd h_125 (by omega)
                  · try simp only [bI_eq0, bI_ne0] at h_125
                    refine G_aload_n (pc := 128) dL_law_128 rfl ?_
                    refine G_iload (pc := 129) dL_law_129 rfl ?_
                    refine G_iload (pc := 131) dL_law_131 rfl ?_
                    refine G_iconst (pc := 133) dL_law_133 ?_
                    refine G_iconst (pc := 134) dL_law_134 ?_
                    refine G_callV (pc := 135) (md := mdX11_does) (av := [_, _, _, _]) dL_law_135 lkL_75 mwX11_does (x_does _ _ _ _ (by omega) hC hW (Ri.mk (by omega) (by omega)) (Ri.mk (by omega) (by omega)) (Ri.mk (by omega) (by omega)) (Ri.mk (by omega) (by omega))) rfl (by first | rfl | assumption) (by omega) rfl rfl (Nat.le_of_ble_eq_true rfl) ⟨Nat.le_of_ble_eq_true rfl, Nat.le_of_ble_eq_true rfl⟩ ⟨Nat.le_of_ble_eq_true rfl, Nat.le_of_ble_eq_true rfl⟩ ?_
                    rintro v I135 J135 ⟨rfl, hf, -, hC⟩
                    replace hO := hO.off hf
                    clear hf
                    refine G_aload_n (pc := 138) dL_law_138 rfl ?_
                    refine G_iload (pc := 139) dL_law_139 rfl ?_
                    refine G_iload (pc := 141) dL_law_141 rfl ?_
                    refine G_iconst (pc := 143) dL_law_143 ?_
                    refine G_iconst (pc := 144) dL_law_144 ?_
                    refine G_callV (pc := 145) (md := mdX11_does) (av := [_, _, _, _]) dL_law_145 lkL_75 mwX11_does (x_does _ _ _ _ (by omega) hC hW (Ri.mk (by omega) (by omega)) (Ri.mk (by omega) (by omega)) (Ri.mk (by omega) (by omega)) (Ri.mk (by omega) (by omega))) rfl (by first | rfl | assumption) (by omega) rfl rfl (Nat.le_of_ble_eq_true rfl) ⟨Nat.le_of_ble_eq_true rfl, Nat.le_of_ble_eq_true rfl⟩ ⟨Nat.le_of_ble_eq_true rfl, Nat.le_of_ble_eq_true rfl⟩ ?_
                    rintro v I145 J145 ⟨rfl, hf, -, hC⟩
                    replace hO := hO.off hf
                    clear hf
                    refine G_icmp_lt (pc := 148) (tgt := 290) dL_law_148 (Ri.mk (by omega) (by omega)) (Ri.mk (by omega) (by omega)) (by decide) (fun h_148 => ?_) (fun h_148 => ?_)
                    · exact absurd h_148 (by omega)
                    · refine G_aload_n (pc := 151) dL_law_151 rfl ?_
                      refine G_iload (pc := 152) dL_law_152 rfl ?_
                      refine G_iload (pc := 154) dL_law_154 rfl ?_
                      refine G_iconst (pc := 156) dL_law_156 ?_
                      refine G_iconst (pc := 157) dL_law_157 ?_
                      refine G_callV (pc := 158) (md := mdX11_does) (av := [_, _, _, _]) dL_law_158 lkL_75 mwX11_does (x_does _ _ _ _ (by omega) hC hW (Ri.mk (by omega) (by omega)) (Ri.mk (by omega) (by omega)) (Ri.mk (by omega) (by omega)) (Ri.mk (by omega) (by omega))) rfl (by first | rfl | assumption) (by omega) rfl rfl (Nat.le_of_ble_eq_true rfl) ⟨Nat.le_of_ble_eq_true rfl, Nat.le_of_ble_eq_true rfl⟩ ⟨Nat.le_of_ble_eq_true rfl, Nat.le_of_ble_eq_true rfl⟩ ?_
                      rintro v I158 J158 ⟨rfl, hf, -, hC⟩
                      replace hO := hO.off hf
                      clear hf
                      refine G_bipush (pc := 161) dL_law_161 (by decide) ?_
                      refine G_aload_n (pc := 163) dL_law_163 rfl ?_
                      refine G_iload (pc := 164) dL_law_164 rfl ?_
                      refine G_iload (pc := 166) dL_law_166 rfl ?_
                      refine G_iconst (pc := 168) dL_law_168 ?_
                      refine G_iconst (pc := 169) dL_law_169 ?_
                      refine G_callV (pc := 170) (md := mdX11_does) (av := [_, _, _, _]) dL_law_170 lkL_75 mwX11_does (x_does _ _ _ _ (by omega) hC hW (Ri.mk (by omega) (by omega)) (Ri.mk (by omega) (by omega)) (Ri.mk (by omega) (by omega)) (Ri.mk (by omega) (by omega))) rfl (by first | rfl | assumption) (by omega) rfl rfl (Nat.le_of_ble_eq_true rfl) ⟨Nat.le_of_ble_eq_true rfl, Nat.le_of_ble_eq_true rfl⟩ ⟨Nat.le_of_ble_eq_true rfl, Nat.le_of_ble_eq_true rfl⟩ ?_
                      rintro v I170 J170 ⟨rfl, hf, -, hC⟩
                      replace hO := hO.off hf
                      clear hf
                      refine G_imul (pc := 173) dL_law_173 ?_
                      refine G_icmp_ne (pc := 174) (tgt := 290) dL_law_174 (Ri.mk (by omega) (by omega)) (Ri.mk (by omega) (by omega)) (by decide) (fun h_174 => ?_) (fun h_174 => ?_)
                      · exact absurd h_174 (by omega)
                      · refine G_aload_n (pc := 177) dL_law_177 rfl ?_
                        refine G_iload (pc := 178) dL_law_178 rfl ?_
                        refine G_iload (pc := 180) dL_law_180 rfl ?_
                        refine G_iconst (pc := 182) dL_law_182 ?_
                        refine G_iconst (pc := 183) dL_law_183 ?_
                        refine G_callV (pc := 184) (md := mdX11_does) (av := [_, _, _, _]) dL_law_184 lkL_75 mwX11_does (x_does _ _ _ _ (by omega) hC hW (Ri.mk (by omega) (by omega)) (Ri.mk (by omega) (by omega)) (Ri.mk (by omega) (by omega)) (Ri.mk (by omega) (by omega))) rfl (by first | rfl | assumption) (by omega) rfl rfl (Nat.le_of_ble_eq_true rfl) ⟨Nat.le_of_ble_eq_true rfl, Nat.le_of_ble_eq_true rfl⟩ ⟨Nat.le_of_ble_eq_true rfl, Nat.le_of_ble_eq_true rfl⟩ ?_
                        rintro v I184 J184 ⟨rfl, hf, -, hC⟩
                        replace hO := hO.off hf
                        clear hf
                        refine G_aload_n (pc := 187) dL_law_187 rfl ?_
                        refine G_iload (pc := 188) dL_law_188 rfl ?_
                        refine G_iload (pc := 190) dL_law_190 rfl ?_
                        refine G_iconst (pc := 192) dL_law_192 ?_
                        refine G_iconst (pc := 193) dL_law_193 ?_
                        refine G_callV (pc := 194) (md := mdX11_does) (av := [_, _, _, _]) dL_law_194 lkL_75 mwX11_does (x_does _ _ _ _ (by omega) hC hW (Ri.mk (by omega) (by omega)) (Ri.mk (by omega) (by omega)) (Ri.mk (by omega) (by omega)) (Ri.mk (by omega) (by omega))) rfl (by first | rfl | assumption) (by omega) rfl rfl (Nat.le_of_ble_eq_true rfl) ⟨Nat.le_of_ble_eq_true rfl, Nat.le_of_ble_eq_true rfl⟩ ⟨Nat.le_of_ble_eq_true rfl, Nat.le_of_ble_eq_true rfl⟩ ?_
                        rintro v I194 J194 ⟨rfl, hf, -, hC⟩
                        replace hO := hO.off hf
                        clear hf
                        refine G_icmp_lt (pc := 197) (tgt := 290) dL_law_197 (Ri.mk (by omega) (by omega)) (Ri.mk (by omega) (by omega)) (by decide) (fun h_197 => ?_) (fun h_197 => ?_)
                        · exact absurd h_197 (by omega)
                        · refine G_aload_n (pc := 200) dL_law_200 rfl ?_
                          refine G_iload (pc := 201) dL_law_201 rfl ?_
                          refine G_iload (pc := 203) dL_law_203 rfl ?_
                          refine G_iconst (pc := 205) dL_law_205 ?_
                          refine G_iconst (pc := 206) dL_law_206 ?_
                          refine G_callV (pc := 207) (md := mdX11_does) (av := [_, _, _, _]) dL_law_207 lkL_75 mwX11_does (x_does _ _ _ _ (by omega) hC hW (Ri.mk (by omega) (by omega)) (Ri.mk (by omega) (by omega)) (Ri.mk (by omega) (by omega)) (Ri.mk (by omega) (by omega))) rfl (by first | rfl | assumption) (by omega) rfl rfl (Nat.le_of_ble_eq_true rfl) ⟨Nat.le_of_ble_eq_true rfl, Nat.le_of_ble_eq_true rfl⟩ ⟨Nat.le_of_ble_eq_true rfl, Nat.le_of_ble_eq_true rfl⟩ ?_
                          rintro v I207 J207 ⟨rfl, hf, -, hC⟩
                          replace hO := hO.off hf
                          clear hf
                          refine G_bipush (pc := 210) dL_law_210 (by decide) ?_
                          refine G_icmp_gt (pc := 212) (tgt := 290) dL_law_212 (Ri.mk (by omega) (by omega)) (Ri.mk (by omega) (by omega)) (by decide) (fun h_212 => ?_) (fun h_212 => ?_)
                          · exact absurd h_212 (by omega)
                          · refine G_aload_n (pc := 215) dL_law_215 rfl ?_
                            refine G_iload (pc := 216) dL_law_216 rfl ?_
                            refine G_iload (pc := 218) dL_law_218 rfl ?_
                            refine G_iconst (pc := 220) dL_law_220 ?_
                            refine G_callV (pc := 221) (md := mdX11_relief) (av := [_, _, _]) dL_law_221 lkL_78 mwX11_relief (x_relief _ _ _ (by omega) hC hW (Ri.mk (by omega) (by omega)) (Ri.mk (by omega) (by omega)) (Ri.mk (by omega) (by omega))) rfl (by first | rfl | assumption) (by omega) rfl rfl (Nat.le_of_ble_eq_true rfl) ⟨Nat.le_of_ble_eq_true rfl, Nat.le_of_ble_eq_true rfl⟩ ⟨Nat.le_of_ble_eq_true rfl, Nat.le_of_ble_eq_true rfl⟩ ?_
                            rintro v I221 J221 ⟨rfl, hf, -, hC⟩
                            replace hO := hO.off hf
                            clear hf
                            refine G_aload_n (pc := 224) dL_law_224 rfl ?_
                            refine G_iconst (pc := 225) dL_law_225 ?_
                            refine G_ialdv (pc := 226) dL_law_226 (by first | rfl | assumption) (by omega) (by omega) (by omega) (by omega) (hO 4 (by omega)) ?_
                            refine G_iconst (pc := 227) dL_law_227 ?_
                            refine G_idiv (pc := 228) dL_law_228 (Ri.mk (by omega) (by omega)) (Ri.mk (by omega) (by omega)) (by omega) ?_
                            rw [Int.tdiv_eq_ediv_of_nonneg (Int.natCast_nonneg (o 4))]
                            refine G_icmp_gt (pc := 229) (tgt := 290) dL_law_229 (Ri.mk (by omega) (by omega)) (Ri.mk (by omega) (by omega)) (by decide) (fun h_229 => ?_) (fun h_229 => ?_)
                            · exact absurd h_229 (by omega)
                            · refine G_aload_n (pc := 232) dL_law_232 rfl ?_
                              refine G_iload (pc := 233) dL_law_233 rfl ?_
                              refine G_iconst (pc := 235) dL_law_235 ?_
                              refine G_callV (pc := 236) (md := mdX11_harm) (av := [_, _]) dL_law_236 lkL_82 mwX11_harm (x_harm _ _ (by omega) hC hW (Ri.mk (by omega) (by omega)) (Ri.mk (by omega) (by omega))) rfl (by first | rfl | assumption) (by omega) rfl rfl (Nat.le_of_ble_eq_true rfl) ⟨Nat.le_of_ble_eq_true rfl, Nat.le_of_ble_eq_true rfl⟩ ⟨Nat.le_of_ble_eq_true rfl, Nat.le_of_ble_eq_true rfl⟩ ?_
                              rintro v I236 J236 ⟨rfl, hf, -, hC⟩
                              replace hO := hO.off hf
                              clear hf
                              refine G_bipush (pc := 239) dL_law_239 (by decide) ?_
                              refine G_icmp_lt (pc := 241) (tgt := 290) dL_law_241 (Ri.mk (by omega) (by omega)) (Ri.mk (by omega) (by omega)) (by decide) (fun h_241 => ?_) (fun h_241 => ?_)
                              · exact absurd h_241 (by omega)
                              · refine G_aload_n (pc := 244) dL_law_244 rfl ?_
                                refine G_iload (pc := 245) dL_law_245 rfl ?_
                                refine G_callV (pc := 247) (md := mdX11_words) (av := [_]) dL_law_247 lkL_85 mwX11_words (x_words _ (by omega) hC hW (Ri.mk (by omega) (by omega))) rfl (by first | rfl | assumption) (by omega) rfl rfl (Nat.le_of_ble_eq_true rfl) ⟨Nat.le_of_ble_eq_true rfl, Nat.le_of_ble_eq_true rfl⟩ ⟨Nat.le_of_ble_eq_true rfl, Nat.le_of_ble_eq_true rfl⟩ ?_
                                rintro v I247 J247 ⟨rfl, hf, -, hC⟩
                                replace hO := hO.off hf
                                clear hf
                                refine G_sipush (pc := 250) dL_law_250 (by decide) ?_
                                refine G_icmp_lt (pc := 253) (tgt := 290) dL_law_253 (Ri.mk (by omega) (by omega)) (Ri.mk (by omega) (by omega)) (by decide) (fun h_253 => ?_) (fun h_253 => ?_)
                                · exact absurd h_253 (by omega)
                                · refine G_aload_n (pc := 256) dL_law_256 rfl ?_
                                  refine G_iload (pc := 257) dL_law_257 rfl ?_
                                  refine G_iconst (pc := 259) dL_law_259 ?_
                                  refine G_callV (pc := 260) (md := mdX11_harm) (av := [_, _]) dL_law_260 lkL_82 mwX11_harm (x_harm _ _ (by omega) hC hW (Ri.mk (by omega) (by omega)) (Ri.mk (by omega) (by omega))) rfl (by first | rfl | assumption) (by omega) rfl rfl (Nat.le_of_ble_eq_true rfl) ⟨Nat.le_of_ble_eq_true rfl, Nat.le_of_ble_eq_true rfl⟩ ⟨Nat.le_of_ble_eq_true rfl, Nat.le_of_ble_eq_true rfl⟩ ?_
                                  rintro v I260 J260 ⟨rfl, hf, -, hC⟩
                                  replace hO := hO.off hf
                                  clear hf
                                  refine G_bipush (pc := 263) dL_law_263 (by decide) ?_
                                  refine G_isub (pc := 265) dL_law_265 ?_
                                  refine G_aload_n (pc := 266) dL_law_266 rfl ?_
                                  refine G_iload (pc := 267) dL_law_267 rfl ?_
                                  refine G_iload (pc := 269) dL_law_269 rfl ?_
                                  refine G_iconst (pc := 271) dL_law_271 ?_
                                  refine G_iconst (pc := 272) dL_law_272 ?_
                                  refine G_callV (pc := 273) (md := mdX11_does) (av := [_, _, _, _]) dL_law_273 lkL_75 mwX11_does (x_does _ _ _ _ (by omega) hC hW (Ri.mk (by omega) (by omega)) (Ri.mk (by omega) (by omega)) (Ri.mk (by omega) (by omega)) (Ri.mk (by omega) (by omega))) rfl (by first | rfl | assumption) (by omega) rfl rfl (Nat.le_of_ble_eq_true rfl) ⟨Nat.le_of_ble_eq_true rfl, Nat.le_of_ble_eq_true rfl⟩ ⟨Nat.le_of_ble_eq_true rfl, Nat.le_of_ble_eq_true rfl⟩ ?_
                                  rintro v I273 J273 ⟨rfl, hf, -, hC⟩
                                  replace hO := hO.off hf
                                  clear hf
                                  refine G_aload_n (pc := 276) dL_law_276 rfl ?_
                                  refine G_iload (pc := 277) dL_law_277 rfl ?_
                                  refine G_iload (pc := 279) dL_law_279 rfl ?_
                                  refine G_iconst (pc := 281) dL_law_281 ?_
                                  refine G_iconst (pc := 282) dL_law_282 ?_
                                  refine G_callV (pc := 283) (md := mdX11_does) (av := [_, _, _, _]) dL_law_283 lkL_75 mwX11_does (x_does _ _ _ _ (by omega) hC hW (Ri.mk (by omega) (by omega)) (Ri.mk (by omega) (by omega)) (Ri.mk (by omega) (by omega)) (Ri.mk (by omega) (by omega))) rfl (by first | rfl | assumption) (by omega) rfl rfl (Nat.le_of_ble_eq_true rfl) ⟨Nat.le_of_ble_eq_true rfl, Nat.le_of_ble_eq_true rfl⟩ ⟨Nat.le_of_ble_eq_true rfl, Nat.le_of_ble_eq_true rfl⟩ ?_
                                  rintro v I283 J283 ⟨rfl, hf, -, hC⟩
                                  replace hO := hO.off hf
                                  clear hf
                                  refine G_isub (pc := 286) dL_law_286 ?_
                                  refine G_icmp_ge (pc := 287) (tgt := 292) dL_law_287 (Ri.mk (by omega) (by omega)) (Ri.mk (by omega) (by omega)) (by decide) (fun h_287 => ?_) (fun h_287 => ?_)
                                  · refine G_iinc (pc := 292) (lv' := [_, _, _, _, _, _, _, _, _, _, _, _, _, _, _]) dL_law_292 (by decide) rfl rfl ?_
                                    refine G_goto (pc := 295) (tgt := 48) dL_law_295 (by decide) ?_
                                    exact ih2 (a + 1) _ _ (by omega) hO hC
                                  · exact absurd h_287 (by omega)
      refine G_iload (pc := 37) dL_law_37 rfl ?_
      refine G_aload_n (pc := 39) dL_law_39 rfl ?_
      refine G_iconst (pc := 40) dL_law_40 ?_
      refine G_ialdv (pc := 41) dL_law_41 (by first | rfl | assumption) (by omega) (by omega) (by omega) (by omega) (hO 0 (by omega)) ?_
      refine G_icmp_ge (pc := 42) (tgt := 304) dL_law_42 (Ri.mk (by omega) (by omega)) (Ri.mk (by omega) (by omega)) (by decide) (fun h_42 => ?_) (fun h_42 => ?_)
      · exact absurd h_42 (by omega)
      · refine G_iconst (pc := 45) dL_law_45 ?_
        refine G_istore (pc := 46) (lv' := [_, _, _, _, _, _, _, _, _, _, _, _, _, _, _]) dL_law_46 (by decide) rfl ?_
        exact inner (o 1) 0 _ _ (by omega) hO hC
  refine G_iconst (pc := 34) dL_law_34 ?_
  refine G_istore (pc := 35) (lv' := [_, _, _, _, _, _, _, _, _, _, _, _, _, _, _]) dL_law_35 (by decide) rfl ?_
  exact outer (o 0) 0 _ _ (by omega) hO hC
end LAWD

