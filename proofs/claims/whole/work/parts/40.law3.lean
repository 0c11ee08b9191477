/-! THE LAW: its cases -/
theorem lc_odds {E : EV} {b L : Nat} {xs : Nat → Int32} (hL : L ≤ 2560) (i : Nat) (hi : i + 5 ≤ L) {I J : Nat → Nat → Int} {S : ST} (hC : CIS I S) (hMm : MIS I S) (hW : WFS S) (fin : ∀ (S' : ST) (I' J' : Nat → Nat → Int), CIS I' S' → MIS I' S' → WFS S' → GL E b L xs 87 I' J' Rf 87 1929 956 [some (.ref b), some (vr E 0), some (vr E 71), some (vi (i : Int))] []) : GL E b L xs 87 I J Rf 87 1929 430 [some (.ref b), some (vr E 0), some (vr E 71), some (vi (i : Int))] [] := by
  obtain ⟨n, tx, hs, C, kn, K⟩ := S
  have hC : CI I n tx hs C kn K := hC
  have hMm : MI I n tx hs C kn K := hMm
  have hW : WF n tx hs C kn K := hW
  refine G_aload_n (pc := 430) dL_law_430 rfl ?_
  refine G_aload_n (pc := 431) dL_law_431 rfl ?_
  refine G_iload_n (pc := 432) dL_law_432 rfl ?_
  refine G_iconst (pc := 433) dL_law_433 ?_
  refine G_iadd (pc := 434) dL_law_434 ?_
  refine GL_sld (pc := 435) dL_law_435 hL (by omega) (by omega) ?_
  refine G_callV (pc := 436) (md := mdX11_odds) (av := [_]) dL_law_436 lkL_60 mwX11_odds (x_odds _ (by omega) hC hW (Ri_toInt _)) rfl (by first | rfl | assumption) (by omega) rfl rfl (Nat.le_of_ble_eq_true rfl) ⟨Nat.le_of_ble_eq_true rfl, Nat.le_of_ble_eq_true rfl⟩ ⟨Nat.le_of_ble_eq_true rfl, Nat.le_of_ble_eq_true rfl⟩ ?_
  rintro v I1 J1 ⟨rfl, hOI, -, hC1⟩
  have hM1 : MI I1 n tx hs C kn K := hMm.off (by rw [hOI 71 (by omega)]) (by rw [hOI 71 (by omega)]) (fun q a b => hOI q (by omega))
  refine G_aload_n (pc := 439) dL_law_439 rfl ?_
  refine G_aload_n (pc := 440) dL_law_440 rfl ?_
  refine G_iload_n (pc := 441) dL_law_441 rfl ?_
  refine G_iconst (pc := 442) dL_law_442 ?_
  refine G_iadd (pc := 443) dL_law_443 ?_
  refine GL_sld (pc := 444) dL_law_444 hL (by omega) (by omega) ?_
  refine G_callV (pc := 445) (md := mdX12_odds) (av := [_]) dL_law_445 lkL_63 mwX12_odds (y_odds _ (by omega) hM1 hW (Ri_toInt _)) rfl (by first | rfl | assumption) (by omega) rfl rfl (Nat.le_of_ble_eq_true rfl) ⟨Nat.le_of_ble_eq_true rfl, Nat.le_of_ble_eq_true rfl⟩ ⟨Nat.le_of_ble_eq_true rfl, Nat.le_of_ble_eq_true rfl⟩ ?_
  rintro v I2 J2 ⟨rfl, hOI2, -, hM2⟩
  have hC2 := CI.off (I' := I2) hC1 (fun q h => hOI2 q (by omega))
  refine G_same (pc := 448) (tgt := 956) dL_law_448 (by decide) ?_
  exact fin ((n, tx, hs, C, kn, K)) I2 _ hC2 hM2 (hW)
theorem lc_best {E : EV} {b L : Nat} {xs : Nat → Int32} (hL : L ≤ 2560) (i : Nat) (hi : i + 5 ≤ L) {I J : Nat → Nat → Int} {S : ST} (hC : CIS I S) (hMm : MIS I S) (hW : WFS S) (fin : ∀ (S' : ST) (I' J' : Nat → Nat → Int), CIS I' S' → MIS I' S' → WFS S' → GL E b L xs 87 I' J' Rf 87 1929 956 [some (.ref b), some (vr E 0), some (vr E 71), some (vi (i : Int))] []) : GL E b L xs 87 I J Rf 87 1929 453 [some (.ref b), some (vr E 0), some (vr E 71), some (vi (i : Int))] [] := by
  obtain ⟨n, tx, hs, C, kn, K⟩ := S
  have hC : CI I n tx hs C kn K := hC
  have hMm : MI I n tx hs C kn K := hMm
  have hW : WF n tx hs C kn K := hW
  refine G_aload_n (pc := 453) dL_law_453 rfl ?_
  refine G_aload_n (pc := 454) dL_law_454 rfl ?_
  refine G_iload_n (pc := 455) dL_law_455 rfl ?_
  refine G_iconst (pc := 456) dL_law_456 ?_
  refine G_iadd (pc := 457) dL_law_457 ?_
  refine GL_sld (pc := 458) dL_law_458 hL (by omega) (by omega) ?_
  refine G_aload_n (pc := 459) dL_law_459 rfl ?_
  refine G_iload_n (pc := 460) dL_law_460 rfl ?_
  refine G_iconst (pc := 461) dL_law_461 ?_
  refine G_iadd (pc := 462) dL_law_462 ?_
  refine GL_sld (pc := 463) dL_law_463 hL (by omega) (by omega) ?_
  refine G_aload_n (pc := 464) dL_law_464 rfl ?_
  refine G_iload_n (pc := 465) dL_law_465 rfl ?_
  refine G_iconst (pc := 466) dL_law_466 ?_
  refine G_iadd (pc := 467) dL_law_467 ?_
  refine GL_sld (pc := 468) dL_law_468 hL (by omega) (by omega) ?_
  refine G_aload_n (pc := 469) dL_law_469 rfl ?_
  refine G_iload_n (pc := 470) dL_law_470 rfl ?_
  refine G_iconst (pc := 471) dL_law_471 ?_
  refine G_iadd (pc := 472) dL_law_472 ?_
  refine GL_sld (pc := 473) dL_law_473 hL (by omega) (by omega) ?_
  refine G_callV (pc := 474) (md := mdX11_best) (av := [_, _, _, _]) dL_law_474 lkL_64 mwX11_best (x_best _ _ _ _ (by omega) hC hW (Ri_toInt _) (Ri_toInt _) (Ri_toInt _) (Ri_toInt _)) rfl (by first | rfl | assumption) (by omega) rfl rfl (Nat.le_of_ble_eq_true rfl) ⟨Nat.le_of_ble_eq_true rfl, Nat.le_of_ble_eq_true rfl⟩ ⟨Nat.le_of_ble_eq_true rfl, Nat.le_of_ble_eq_true rfl⟩ ?_
  rintro v I1 J1 ⟨rfl, hOI, -, hC1⟩
  have hM1 : MI I1 n tx hs C kn K := hMm.off (by rw [hOI 71 (by omega)]) (by rw [hOI 71 (by omega)]) (fun q a b => hOI q (by omega))
  refine G_aload_n (pc := 477) dL_law_477 rfl ?_
  refine G_aload_n (pc := 478) dL_law_478 rfl ?_
  refine G_iload_n (pc := 479) dL_law_479 rfl ?_
  refine G_iconst (pc := 480) dL_law_480 ?_
  refine G_iadd (pc := 481) dL_law_481 ?_
  refine GL_sld (pc := 482) dL_law_482 hL (by omega) (by omega) ?_
  refine G_aload_n (pc := 483) dL_law_483 rfl ?_
  refine G_iload_n (pc := 484) dL_law_484 rfl ?_
  refine G_iconst (pc := 485) dL_law_485 ?_
  refine G_iadd (pc := 486) dL_law_486 ?_
  refine GL_sld (pc := 487) dL_law_487 hL (by omega) (by omega) ?_
  refine G_aload_n (pc := 488) dL_law_488 rfl ?_
  refine G_iload_n (pc := 489) dL_law_489 rfl ?_
  refine G_iconst (pc := 490) dL_law_490 ?_
  refine G_iadd (pc := 491) dL_law_491 ?_
  refine GL_sld (pc := 492) dL_law_492 hL (by omega) (by omega) ?_
  refine G_aload_n (pc := 493) dL_law_493 rfl ?_
  refine G_iload_n (pc := 494) dL_law_494 rfl ?_
  refine G_iconst (pc := 495) dL_law_495 ?_
  refine G_iadd (pc := 496) dL_law_496 ?_
  refine GL_sld (pc := 497) dL_law_497 hL (by omega) (by omega) ?_
  refine G_callV (pc := 498) (md := mdX12_best) (av := [_, _, _, _]) dL_law_498 lkL_67 mwX12_best (y_best _ _ _ _ (by omega) hM1 hW (Ri_toInt _) (Ri_toInt _) (Ri_toInt _) (Ri_toInt _)) rfl (by first | rfl | assumption) (by omega) rfl rfl (Nat.le_of_ble_eq_true rfl) ⟨Nat.le_of_ble_eq_true rfl, Nat.le_of_ble_eq_true rfl⟩ ⟨Nat.le_of_ble_eq_true rfl, Nat.le_of_ble_eq_true rfl⟩ ?_
  rintro v I2 J2 ⟨rfl, hOI2, -, hM2⟩
  have hC2 := CI.off (I' := I2) hC1 (fun q h => hOI2 q (by omega))
  refine G_same (pc := 501) (tgt := 956) dL_law_501 (by decide) ?_
  exact fin ((n, tx, hs, C, kn, K)) I2 _ hC2 hM2 (hW)
theorem lc_felt {E : EV} {b L : Nat} {xs : Nat → Int32} (hL : L ≤ 2560) (i : Nat) (hi : i + 5 ≤ L) {I J : Nat → Nat → Int} {S : ST} (hC : CIS I S) (hMm : MIS I S) (hW : WFS S) (fin : ∀ (S' : ST) (I' J' : Nat → Nat → Int), CIS I' S' → MIS I' S' → WFS S' → GL E b L xs 87 I' J' Rf 87 1929 956 [some (.ref b), some (vr E 0), some (vr E 71), some (vi (i : Int))] []) : GL E b L xs 87 I J Rf 87 1929 506 [some (.ref b), some (vr E 0), some (vr E 71), some (vi (i : Int))] [] := by
  obtain ⟨n, tx, hs, C, kn, K⟩ := S
  have hC : CI I n tx hs C kn K := hC
  have hMm : MI I n tx hs C kn K := hMm
  have hW : WF n tx hs C kn K := hW
  refine G_aload_n (pc := 506) dL_law_506 rfl ?_
  refine G_aload_n (pc := 507) dL_law_507 rfl ?_
  refine G_iload_n (pc := 508) dL_law_508 rfl ?_
  refine G_iconst (pc := 509) dL_law_509 ?_
  refine G_iadd (pc := 510) dL_law_510 ?_
  refine GL_sld (pc := 511) dL_law_511 hL (by omega) (by omega) ?_
  refine G_aload_n (pc := 512) dL_law_512 rfl ?_
  refine G_iload_n (pc := 513) dL_law_513 rfl ?_
  refine G_iconst (pc := 514) dL_law_514 ?_
  refine G_iadd (pc := 515) dL_law_515 ?_
  refine GL_sld (pc := 516) dL_law_516 hL (by omega) (by omega) ?_
  refine G_aload_n (pc := 517) dL_law_517 rfl ?_
  refine G_iload_n (pc := 518) dL_law_518 rfl ?_
  refine G_iconst (pc := 519) dL_law_519 ?_
  refine G_iadd (pc := 520) dL_law_520 ?_
  refine GL_sld (pc := 521) dL_law_521 hL (by omega) (by omega) ?_
  refine G_callV (pc := 522) (md := mdX11_felt) (av := [_, _, _]) dL_law_522 lkL_68 mwX11_felt (x_felt _ _ _ (by omega) hC hW (Ri_toInt _) (Ri_toInt _) (Ri_toInt _)) rfl (by first | rfl | assumption) (by omega) rfl rfl (Nat.le_of_ble_eq_true rfl) ⟨Nat.le_of_ble_eq_true rfl, Nat.le_of_ble_eq_true rfl⟩ ⟨Nat.le_of_ble_eq_true rfl, Nat.le_of_ble_eq_true rfl⟩ ?_
  rintro v I1 J1 ⟨rfl, hOI, -, hC1⟩
  have hM1 : MI I1 n tx hs C kn K := hMm.off (by rw [hOI 71 (by omega)]) (by rw [hOI 71 (by omega)]) (fun q a b => hOI q (by omega))
  refine G_aload_n (pc := 525) dL_law_525 rfl ?_
  refine G_aload_n (pc := 526) dL_law_526 rfl ?_
  refine G_iload_n (pc := 527) dL_law_527 rfl ?_
  refine G_iconst (pc := 528) dL_law_528 ?_
  refine G_iadd (pc := 529) dL_law_529 ?_
  refine GL_sld (pc := 530) dL_law_530 hL (by omega) (by omega) ?_
  refine G_aload_n (pc := 531) dL_law_531 rfl ?_
  refine G_iload_n (pc := 532) dL_law_532 rfl ?_
  refine G_iconst (pc := 533) dL_law_533 ?_
  refine G_iadd (pc := 534) dL_law_534 ?_
  refine GL_sld (pc := 535) dL_law_535 hL (by omega) (by omega) ?_
  refine G_aload_n (pc := 536) dL_law_536 rfl ?_
  refine G_iload_n (pc := 537) dL_law_537 rfl ?_
  refine G_iconst (pc := 538) dL_law_538 ?_
  refine G_iadd (pc := 539) dL_law_539 ?_
  refine GL_sld (pc := 540) dL_law_540 hL (by omega) (by omega) ?_
  refine G_callV (pc := 541) (md := mdX12_felt) (av := [_, _, _]) dL_law_541 lkL_72 mwX12_felt (y_felt _ _ _ (by omega) hM1 hW (Ri_toInt _) (Ri_toInt _) (Ri_toInt _)) rfl (by first | rfl | assumption) (by omega) rfl rfl (Nat.le_of_ble_eq_true rfl) ⟨Nat.le_of_ble_eq_true rfl, Nat.le_of_ble_eq_true rfl⟩ ⟨Nat.le_of_ble_eq_true rfl, Nat.le_of_ble_eq_true rfl⟩ ?_
  rintro v I2 J2 ⟨rfl, hOI2, -, hM2⟩
  have hC2 := CI.off (I' := I2) hC1 (fun q h => hOI2 q (by omega))
  refine G_same (pc := 544) (tgt := 956) dL_law_544 (by decide) ?_
  exact fin ((n, tx, hs, C, kn, K)) I2 _ hC2 hM2 (hW)
theorem lc_words {E : EV} {b L : Nat} {xs : Nat → Int32} (hL : L ≤ 2560) (i : Nat) (hi : i + 5 ≤ L) {I J : Nat → Nat → Int} {S : ST} (hC : CIS I S) (hMm : MIS I S) (hW : WFS S) (fin : ∀ (S' : ST) (I' J' : Nat → Nat → Int), CIS I' S' → MIS I' S' → WFS S' → GL E b L xs 87 I' J' Rf 87 1929 956 [some (.ref b), some (vr E 0), some (vr E 71), some (vi (i : Int))] []) : GL E b L xs 87 I J Rf 87 1929 549 [some (.ref b), some (vr E 0), some (vr E 71), some (vi (i : Int))] [] := by
  obtain ⟨n, tx, hs, C, kn, K⟩ := S
  have hC : CI I n tx hs C kn K := hC
  have hMm : MI I n tx hs C kn K := hMm
  have hW : WF n tx hs C kn K := hW
  refine G_aload_n (pc := 549) dL_law_549 rfl ?_
  refine G_aload_n (pc := 550) dL_law_550 rfl ?_
  refine G_iload_n (pc := 551) dL_law_551 rfl ?_
  refine G_iconst (pc := 552) dL_law_552 ?_
  refine G_iadd (pc := 553) dL_law_553 ?_
  refine GL_sld (pc := 554) dL_law_554 hL (by omega) (by omega) ?_
  refine G_callV (pc := 555) (md := mdX11_words) (av := [_]) dL_law_555 lkL_73 mwX11_words (x_words _ (by omega) hC hW (Ri_toInt _)) rfl (by first | rfl | assumption) (by omega) rfl rfl (Nat.le_of_ble_eq_true rfl) ⟨Nat.le_of_ble_eq_true rfl, Nat.le_of_ble_eq_true rfl⟩ ⟨Nat.le_of_ble_eq_true rfl, Nat.le_of_ble_eq_true rfl⟩ ?_
  rintro v I1 J1 ⟨rfl, hOI, -, hC1⟩
  have hM1 : MI I1 n tx hs C kn K := hMm.off (by rw [hOI 71 (by omega)]) (by rw [hOI 71 (by omega)]) (fun q a b => hOI q (by omega))
  refine G_aload_n (pc := 558) dL_law_558 rfl ?_
  refine G_aload_n (pc := 559) dL_law_559 rfl ?_
  refine G_iload_n (pc := 560) dL_law_560 rfl ?_
  refine G_iconst (pc := 561) dL_law_561 ?_
  refine G_iadd (pc := 562) dL_law_562 ?_
  refine GL_sld (pc := 563) dL_law_563 hL (by omega) (by omega) ?_
  refine G_callV (pc := 564) (md := mdX12_words) (av := [_]) dL_law_564 lkL_76 mwX12_words (y_words _ (by omega) hM1 hW (Ri_toInt _)) rfl (by first | rfl | assumption) (by omega) rfl rfl (Nat.le_of_ble_eq_true rfl) ⟨Nat.le_of_ble_eq_true rfl, Nat.le_of_ble_eq_true rfl⟩ ⟨Nat.le_of_ble_eq_true rfl, Nat.le_of_ble_eq_true rfl⟩ ?_
  rintro v I2 J2 ⟨rfl, hOI2, -, hM2⟩
  have hC2 := CI.off (I' := I2) hC1 (fun q h => hOI2 q (by omega))
  refine G_same (pc := 567) (tgt := 956) dL_law_567 (by decide) ?_
  exact fin ((n, tx, hs, C, kn, K)) I2 _ hC2 hM2 (hW)
theorem lc_harm {E : EV} {b L : Nat} {xs : Nat → Int32} (hL : L ≤ 2560) (i : Nat) (hi : i + 5 ≤ L) {I J : Nat → Nat → Int} {S : ST} (hC : CIS I S) (hMm : MIS I S) (hW : WFS S) (fin : ∀ (S' : ST) (I' J' : Nat → Nat → Int), CIS I' S' → MIS I' S' → WFS S' → GL E b L xs 87 I' J' Rf 87 1929 956 [some (.ref b), some (vr E 0), some (vr E 71), some (vi (i : Int))] []) : GL E b L xs 87 I J Rf 87 1929 572 [some (.ref b), some (vr E 0), some (vr E 71), some (vi (i : Int))] [] := by
  obtain ⟨n, tx, hs, C, kn, K⟩ := S
  have hC : CI I n tx hs C kn K := hC
  have hMm : MI I n tx hs C kn K := hMm
  have hW : WF n tx hs C kn K := hW
  refine G_aload_n (pc := 572) dL_law_572 rfl ?_
  refine G_aload_n (pc := 573) dL_law_573 rfl ?_
  refine G_iload_n (pc := 574) dL_law_574 rfl ?_
  refine G_iconst (pc := 575) dL_law_575 ?_
  refine G_iadd (pc := 576) dL_law_576 ?_
  refine GL_sld (pc := 577) dL_law_577 hL (by omega) (by omega) ?_
  refine G_aload_n (pc := 578) dL_law_578 rfl ?_
  refine G_iload_n (pc := 579) dL_law_579 rfl ?_
  refine G_iconst (pc := 580) dL_law_580 ?_
  refine G_iadd (pc := 581) dL_law_581 ?_
  refine GL_sld (pc := 582) dL_law_582 hL (by omega) (by omega) ?_
  refine G_callV (pc := 583) (md := mdX11_harm) (av := [_, _]) dL_law_583 lkL_77 mwX11_harm (x_harm _ _ (by omega) hC hW (Ri_toInt _) (Ri_toInt _)) rfl (by first | rfl | assumption) (by omega) rfl rfl (Nat.le_of_ble_eq_true rfl) ⟨Nat.le_of_ble_eq_true rfl, Nat.le_of_ble_eq_true rfl⟩ ⟨Nat.le_of_ble_eq_true rfl, Nat.le_of_ble_eq_true rfl⟩ ?_
  rintro v I1 J1 ⟨rfl, hOI, -, hC1⟩
  have hM1 : MI I1 n tx hs C kn K := hMm.off (by rw [hOI 71 (by omega)]) (by rw [hOI 71 (by omega)]) (fun q a b => hOI q (by omega))
  refine G_aload_n (pc := 586) dL_law_586 rfl ?_
  refine G_aload_n (pc := 587) dL_law_587 rfl ?_
  refine G_iload_n (pc := 588) dL_law_588 rfl ?_
  refine G_iconst (pc := 589) dL_law_589 ?_
  refine G_iadd (pc := 590) dL_law_590 ?_
  refine GL_sld (pc := 591) dL_law_591 hL (by omega) (by omega) ?_
  refine G_aload_n (pc := 592) dL_law_592 rfl ?_
  refine G_iload_n (pc := 593) dL_law_593 rfl ?_
  refine G_iconst (pc := 594) dL_law_594 ?_
  refine G_iadd (pc := 595) dL_law_595 ?_
  refine GL_sld (pc := 596) dL_law_596 hL (by omega) (by omega) ?_
  refine G_callV (pc := 597) (md := mdX12_harm) (av := [_, _]) dL_law_597 lkL_80 mwX12_harm (y_harm _ _ (by omega) hM1 hW (Ri_toInt _) (Ri_toInt _)) rfl (by first | rfl | assumption) (by omega) rfl rfl (Nat.le_of_ble_eq_true rfl) ⟨Nat.le_of_ble_eq_true rfl, Nat.le_of_ble_eq_true rfl⟩ ⟨Nat.le_of_ble_eq_true rfl, Nat.le_of_ble_eq_true rfl⟩ ?_
  rintro v I2 J2 ⟨rfl, hOI2, -, hM2⟩
  have hC2 := CI.off (I' := I2) hC1 (fun q h => hOI2 q (by omega))
  refine G_same (pc := 600) (tgt := 956) dL_law_600 (by decide) ?_
  exact fin ((n, tx, hs, C, kn, K)) I2 _ hC2 hM2 (hW)
theorem lc_people {E : EV} {b L : Nat} {xs : Nat → Int32} (hL : L ≤ 2560) (i : Nat) (hi : i + 5 ≤ L) {I J : Nat → Nat → Int} {S : ST} (hC : CIS I S) (hMm : MIS I S) (hW : WFS S) (fin : ∀ (S' : ST) (I' J' : Nat → Nat → Int), CIS I' S' → MIS I' S' → WFS S' → GL E b L xs 87 I' J' Rf 87 1929 956 [some (.ref b), some (vr E 0), some (vr E 71), some (vi (i : Int))] []) : GL E b L xs 87 I J Rf 87 1929 605 [some (.ref b), some (vr E 0), some (vr E 71), some (vi (i : Int))] [] := by
  obtain ⟨n, tx, hs, C, kn, K⟩ := S
  have hC : CI I n tx hs C kn K := hC
  have hMm : MI I n tx hs C kn K := hMm
  have hW : WF n tx hs C kn K := hW
  refine G_aload_n (pc := 605) dL_law_605 rfl ?_
  refine G_aload_n (pc := 606) dL_law_606 rfl ?_
  refine G_iload_n (pc := 607) dL_law_607 rfl ?_
  refine G_iconst (pc := 608) dL_law_608 ?_
  refine G_iadd (pc := 609) dL_law_609 ?_
  refine GL_sld (pc := 610) dL_law_610 hL (by omega) (by omega) ?_
  refine G_callV (pc := 611) (md := mdX11_people) (av := [_]) dL_law_611 lkL_81 mwX11_people (x_people _ (by omega) hC hW (Ri_toInt _)) rfl (by first | rfl | assumption) (by omega) rfl rfl (Nat.le_of_ble_eq_true rfl) ⟨Nat.le_of_ble_eq_true rfl, Nat.le_of_ble_eq_true rfl⟩ ⟨Nat.le_of_ble_eq_true rfl, Nat.le_of_ble_eq_true rfl⟩ ?_
  rintro v I1 J1 ⟨rfl, hOI, -, hC1⟩
  have hM1 : MI I1 n tx hs C kn K := hMm.off (by rw [hOI 71 (by omega)]) (by rw [hOI 71 (by omega)]) (fun q a b => hOI q (by omega))
  refine G_aload_n (pc := 614) dL_law_614 rfl ?_
  refine G_aload_n (pc := 615) dL_law_615 rfl ?_
  refine G_iload_n (pc := 616) dL_law_616 rfl ?_
  refine G_iconst (pc := 617) dL_law_617 ?_
  refine G_iadd (pc := 618) dL_law_618 ?_
  refine GL_sld (pc := 619) dL_law_619 hL (by omega) (by omega) ?_
  refine G_callV (pc := 620) (md := mdX12_people) (av := [_]) dL_law_620 lkL_85 mwX12_people (y_people _ (by omega) hM1 hW (Ri_toInt _)) rfl (by first | rfl | assumption) (by omega) rfl rfl (Nat.le_of_ble_eq_true rfl) ⟨Nat.le_of_ble_eq_true rfl, Nat.le_of_ble_eq_true rfl⟩ ⟨Nat.le_of_ble_eq_true rfl, Nat.le_of_ble_eq_true rfl⟩ ?_
  rintro v I2 J2 ⟨rfl, hOI2, -, hM2⟩
  have hC2 := CI.off (I' := I2) hC1 (fun q h => hOI2 q (by omega))
  refine G_lsame (pc := 623) (tgt := 956) dL_law_623 dL_law_624 (by decide) ?_
  exact fin ((n, tx, hs, C, kn, K)) I2 _ hC2 hM2 (hW)
theorem lc_tells {E : EV} {b L : Nat} {xs : Nat → Int32} (hL : L ≤ 2560) (i : Nat) (hi : i + 5 ≤ L) {I J : Nat → Nat → Int} {S : ST} (hC : CIS I S) (hMm : MIS I S) (hW : WFS S) (fin : ∀ (S' : ST) (I' J' : Nat → Nat → Int), CIS I' S' → MIS I' S' → WFS S' → GL E b L xs 87 I' J' Rf 87 1929 956 [some (.ref b), some (vr E 0), some (vr E 71), some (vi (i : Int))] []) : GL E b L xs 87 I J Rf 87 1929 629 [some (.ref b), some (vr E 0), some (vr E 71), some (vi (i : Int))] [] := by
  obtain ⟨n, tx, hs, C, kn, K⟩ := S
  have hC : CI I n tx hs C kn K := hC
  have hMm : MI I n tx hs C kn K := hMm
  have hW : WF n tx hs C kn K := hW
  refine G_aload_n (pc := 629) dL_law_629 rfl ?_
  refine G_callV (pc := 630) (md := mdX11_tells) (av := []) dL_law_630 lkL_86 mwX11_tells (x_tells  (by omega) hC hW ) rfl (by first | rfl | assumption) (by omega) rfl rfl (Nat.le_of_ble_eq_true rfl) ⟨Nat.le_of_ble_eq_true rfl, Nat.le_of_ble_eq_true rfl⟩ ⟨Nat.le_of_ble_eq_true rfl, Nat.le_of_ble_eq_true rfl⟩ ?_
  rintro v I1 J1 ⟨rfl, hOI, -, hC1⟩
  have hM1 : MI I1 n tx hs C kn K := hMm.off (by rw [hOI 71 (by omega)]) (by rw [hOI 71 (by omega)]) (fun q a b => hOI q (by omega))
  refine G_aload_n (pc := 633) dL_law_633 rfl ?_
  refine G_callV (pc := 634) (md := mdX12_tells) (av := []) dL_law_634 lkL_89 mwX12_tells (y_tells  (by omega) hM1 hW ) rfl (by first | rfl | assumption) (by omega) rfl rfl (Nat.le_of_ble_eq_true rfl) ⟨Nat.le_of_ble_eq_true rfl, Nat.le_of_ble_eq_true rfl⟩ ⟨Nat.le_of_ble_eq_true rfl, Nat.le_of_ble_eq_true rfl⟩ ?_
  rintro v I2 J2 ⟨rfl, hOI2, -, hM2⟩
  have hC2 := CI.off (I' := I2) hC1 (fun q h => hOI2 q (by omega))
  refine G_same (pc := 637) (tgt := 956) dL_law_637 (by decide) ?_
  exact fin ((n, tx, hs, C, kn, K)) I2 _ hC2 hM2 (hW)
theorem lc_relief {E : EV} {b L : Nat} {xs : Nat → Int32} (hL : L ≤ 2560) (i : Nat) (hi : i + 5 ≤ L) {I J : Nat → Nat → Int} {S : ST} (hC : CIS I S) (hMm : MIS I S) (hW : WFS S) (fin : ∀ (S' : ST) (I' J' : Nat → Nat → Int), CIS I' S' → MIS I' S' → WFS S' → GL E b L xs 87 I' J' Rf 87 1929 956 [some (.ref b), some (vr E 0), some (vr E 71), some (vi (i : Int))] []) : GL E b L xs 87 I J Rf 87 1929 642 [some (.ref b), some (vr E 0), some (vr E 71), some (vi (i : Int))] [] := by
  obtain ⟨n, tx, hs, C, kn, K⟩ := S
  have hC : CI I n tx hs C kn K := hC
  have hMm : MI I n tx hs C kn K := hMm
  have hW : WF n tx hs C kn K := hW
  refine G_aload_n (pc := 642) dL_law_642 rfl ?_
  refine G_aload_n (pc := 643) dL_law_643 rfl ?_
  refine G_iload_n (pc := 644) dL_law_644 rfl ?_
  refine G_iconst (pc := 645) dL_law_645 ?_
  refine G_iadd (pc := 646) dL_law_646 ?_
  refine GL_sld (pc := 647) dL_law_647 hL (by omega) (by omega) ?_
  refine G_aload_n (pc := 648) dL_law_648 rfl ?_
  refine G_iload_n (pc := 649) dL_law_649 rfl ?_
  refine G_iconst (pc := 650) dL_law_650 ?_
  refine G_iadd (pc := 651) dL_law_651 ?_
  refine GL_sld (pc := 652) dL_law_652 hL (by omega) (by omega) ?_
  refine G_aload_n (pc := 653) dL_law_653 rfl ?_
  refine G_iload_n (pc := 654) dL_law_654 rfl ?_
  refine G_iconst (pc := 655) dL_law_655 ?_
  refine G_iadd (pc := 656) dL_law_656 ?_
  refine GL_sld (pc := 657) dL_law_657 hL (by omega) (by omega) ?_
  refine G_callV (pc := 658) (md := mdX11_relief) (av := [_, _, _]) dL_law_658 lkL_90 mwX11_relief (x_relief _ _ _ (by omega) hC hW (Ri_toInt _) (Ri_toInt _) (Ri_toInt _)) rfl (by first | rfl | assumption) (by omega) rfl rfl (Nat.le_of_ble_eq_true rfl) ⟨Nat.le_of_ble_eq_true rfl, Nat.le_of_ble_eq_true rfl⟩ ⟨Nat.le_of_ble_eq_true rfl, Nat.le_of_ble_eq_true rfl⟩ ?_
  rintro v I1 J1 ⟨rfl, hOI, -, hC1⟩
  have hM1 : MI I1 n tx hs C kn K := hMm.off (by rw [hOI 71 (by omega)]) (by rw [hOI 71 (by omega)]) (fun q a b => hOI q (by omega))
  refine G_aload_n (pc := 661) dL_law_661 rfl ?_
  refine G_aload_n (pc := 662) dL_law_662 rfl ?_
  refine G_iload_n (pc := 663) dL_law_663 rfl ?_
  refine G_iconst (pc := 664) dL_law_664 ?_
  refine G_iadd (pc := 665) dL_law_665 ?_
  refine GL_sld (pc := 666) dL_law_666 hL (by omega) (by omega) ?_
  refine G_aload_n (pc := 667) dL_law_667 rfl ?_
  refine G_iload_n (pc := 668) dL_law_668 rfl ?_
  refine G_iconst (pc := 669) dL_law_669 ?_
  refine G_iadd (pc := 670) dL_law_670 ?_
  refine GL_sld (pc := 671) dL_law_671 hL (by omega) (by omega) ?_
  refine G_aload_n (pc := 672) dL_law_672 rfl ?_
  refine G_iload_n (pc := 673) dL_law_673 rfl ?_
  refine G_iconst (pc := 674) dL_law_674 ?_
  refine G_iadd (pc := 675) dL_law_675 ?_
  refine GL_sld (pc := 676) dL_law_676 hL (by omega) (by omega) ?_
  refine G_callV (pc := 677) (md := mdX12_relief) (av := [_, _, _]) dL_law_677 lkL_93 mwX12_relief (y_relief _ _ _ (by omega) hM1 hW (Ri_toInt _) (Ri_toInt _) (Ri_toInt _)) rfl (by first | rfl | assumption) (by omega) rfl rfl (Nat.le_of_ble_eq_true rfl) ⟨Nat.le_of_ble_eq_true rfl, Nat.le_of_ble_eq_true rfl⟩ ⟨Nat.le_of_ble_eq_true rfl, Nat.le_of_ble_eq_true rfl⟩ ?_
  rintro v I2 J2 ⟨rfl, hOI2, -, hM2⟩
  have hC2 := CI.off (I' := I2) hC1 (fun q h => hOI2 q (by omega))
  refine G_same (pc := 680) (tgt := 956) dL_law_680 (by decide) ?_
  exact fin ((n, tx, hs, C, kn, K)) I2 _ hC2 hM2 (hW)
theorem lc_worth {E : EV} {b L : Nat} {xs : Nat → Int32} (hL : L ≤ 2560) (i : Nat) (hi : i + 5 ≤ L) {I J : Nat → Nat → Int} {S : ST} (hC : CIS I S) (hMm : MIS I S) (hW : WFS S) (fin : ∀ (S' : ST) (I' J' : Nat → Nat → Int), CIS I' S' → MIS I' S' → WFS S' → GL E b L xs 87 I' J' Rf 87 1929 956 [some (.ref b), some (vr E 0), some (vr E 71), some (vi (i : Int))] []) : GL E b L xs 87 I J Rf 87 1929 685 [some (.ref b), some (vr E 0), some (vr E 71), some (vi (i : Int))] [] := by
  obtain ⟨n, tx, hs, C, kn, K⟩ := S
  have hC : CI I n tx hs C kn K := hC
  have hMm : MI I n tx hs C kn K := hMm
  have hW : WF n tx hs C kn K := hW
  refine G_aload_n (pc := 685) dL_law_685 rfl ?_
  refine G_aload_n (pc := 686) dL_law_686 rfl ?_
  refine G_iload_n (pc := 687) dL_law_687 rfl ?_
  refine G_iconst (pc := 688) dL_law_688 ?_
  refine G_iadd (pc := 689) dL_law_689 ?_
  refine GL_sld (pc := 690) dL_law_690 hL (by omega) (by omega) ?_
  refine G_aload_n (pc := 691) dL_law_691 rfl ?_
  refine G_iload_n (pc := 692) dL_law_692 rfl ?_
  refine G_iconst (pc := 693) dL_law_693 ?_
  refine G_iadd (pc := 694) dL_law_694 ?_
  refine GL_sld (pc := 695) dL_law_695 hL (by omega) (by omega) ?_
  refine G_callV (pc := 696) (md := mdX11_worth) (av := [_, _]) dL_law_696 lkL_94 mwX11_worth (x_worth _ _ (by omega) hC hW (Ri_toInt _) (Ri_toInt _)) rfl (by first | rfl | assumption) (by omega) rfl rfl (Nat.le_of_ble_eq_true rfl) ⟨Nat.le_of_ble_eq_true rfl, Nat.le_of_ble_eq_true rfl⟩ ⟨Nat.le_of_ble_eq_true rfl, Nat.le_of_ble_eq_true rfl⟩ ?_
  rintro v I1 J1 ⟨rfl, hOI, -, hC1⟩
  have hM1 : MI I1 n tx hs C kn K := hMm.off (by rw [hOI 71 (by omega)]) (by rw [hOI 71 (by omega)]) (fun q a b => hOI q (by omega))
  refine G_aload_n (pc := 699) dL_law_699 rfl ?_
  refine G_aload_n (pc := 700) dL_law_700 rfl ?_
  refine G_iload_n (pc := 701) dL_law_701 rfl ?_
  refine G_iconst (pc := 702) dL_law_702 ?_
  refine G_iadd (pc := 703) dL_law_703 ?_
  refine GL_sld (pc := 704) dL_law_704 hL (by omega) (by omega) ?_
  refine G_aload_n (pc := 705) dL_law_705 rfl ?_
  refine G_iload_n (pc := 706) dL_law_706 rfl ?_
  refine G_iconst (pc := 707) dL_law_707 ?_
  refine G_iadd (pc := 708) dL_law_708 ?_
  refine GL_sld (pc := 709) dL_law_709 hL (by omega) (by omega) ?_
  refine G_callV (pc := 710) (md := mdX12_worth) (av := [_, _]) dL_law_710 lkL_97 mwX12_worth (y_worth _ _ (by omega) hM1 hW (Ri_toInt _) (Ri_toInt _)) rfl (by first | rfl | assumption) (by omega) rfl rfl (Nat.le_of_ble_eq_true rfl) ⟨Nat.le_of_ble_eq_true rfl, Nat.le_of_ble_eq_true rfl⟩ ⟨Nat.le_of_ble_eq_true rfl, Nat.le_of_ble_eq_true rfl⟩ ?_
  rintro v I2 J2 ⟨rfl, hOI2, -, hM2⟩
  have hC2 := CI.off (I' := I2) hC1 (fun q h => hOI2 q (by omega))
  refine G_same (pc := 713) (tgt := 956) dL_law_713 (by decide) ?_
  exact fin ((n, tx, hs, C, kn, K)) I2 _ hC2 hM2 (hW)
theorem lc_tell {E : EV} {b L : Nat} {xs : Nat → Int32} (hL : L ≤ 2560) (i : Nat) (hi : i + 5 ≤ L) {I J : Nat → Nat → Int} {S : ST} (hC : CIS I S) (hMm : MIS I S) (hW : WFS S) (fin : ∀ (S' : ST) (I' J' : Nat → Nat → Int), CIS I' S' → MIS I' S' → WFS S' → GL E b L xs 87 I' J' Rf 87 1929 956 [some (.ref b), some (vr E 0), some (vr E 71), some (vi (i : Int))] []) : GL E b L xs 87 I J Rf 87 1929 718 [some (.ref b), some (vr E 0), some (vr E 71), some (vi (i : Int))] [] := by
  obtain ⟨n, tx, hs, C, kn, K⟩ := S
  have hC : CI I n tx hs C kn K := hC
  have hMm : MI I n tx hs C kn K := hMm
  have hW : WF n tx hs C kn K := hW
  refine G_aload_n (pc := 718) dL_law_718 rfl ?_
  refine G_aload_n (pc := 719) dL_law_719 rfl ?_
  refine G_iload_n (pc := 720) dL_law_720 rfl ?_
  refine G_iconst (pc := 721) dL_law_721 ?_
  refine G_iadd (pc := 722) dL_law_722 ?_
  refine GL_sld (pc := 723) dL_law_723 hL (by omega) (by omega) ?_
  refine G_aload_n (pc := 724) dL_law_724 rfl ?_
  refine G_iload_n (pc := 725) dL_law_725 rfl ?_
  refine G_iconst (pc := 726) dL_law_726 ?_
  refine G_iadd (pc := 727) dL_law_727 ?_
  refine GL_sld (pc := 728) dL_law_728 hL (by omega) (by omega) ?_
  refine G_aload_n (pc := 729) dL_law_729 rfl ?_
  refine G_iload_n (pc := 730) dL_law_730 rfl ?_
  refine G_iconst (pc := 731) dL_law_731 ?_
  refine G_iadd (pc := 732) dL_law_732 ?_
  refine GL_sld (pc := 733) dL_law_733 hL (by omega) (by omega) ?_
  refine G_aload_n (pc := 734) dL_law_734 rfl ?_
  refine G_iload_n (pc := 735) dL_law_735 rfl ?_
  refine G_iconst (pc := 736) dL_law_736 ?_
  refine G_iadd (pc := 737) dL_law_737 ?_
  refine GL_sld (pc := 738) dL_law_738 hL (by omega) (by omega) ?_
  refine G_callV (pc := 739) (md := mdX11_tell) (av := [_, _, _, _]) dL_law_739 lkL_98 mwX11_tell (x_tell _ _ _ _ (by omega) hC hW (Ri_toInt _) (Ri_toInt _) (Ri_toInt _) (Ri_toInt _)) rfl (by first | rfl | assumption) (by omega) rfl rfl (Nat.le_of_ble_eq_true rfl) ⟨Nat.le_of_ble_eq_true rfl, Nat.le_of_ble_eq_true rfl⟩ ⟨Nat.le_of_ble_eq_true rfl, Nat.le_of_ble_eq_true rfl⟩ ?_
  rintro v I1 J1 ⟨rfl, hOI, -, hC1⟩
  have hM1 : MI I1 n tx hs C kn K := hMm.off (by rw [hOI 71 (by omega)]) (by rw [hOI 71 (by omega)]) (fun q a b => hOI q (by omega))
  refine G_aload_n (pc := 742) dL_law_742 rfl ?_
  refine G_aload_n (pc := 743) dL_law_743 rfl ?_
  refine G_iload_n (pc := 744) dL_law_744 rfl ?_
  refine G_iconst (pc := 745) dL_law_745 ?_
  refine G_iadd (pc := 746) dL_law_746 ?_
  refine GL_sld (pc := 747) dL_law_747 hL (by omega) (by omega) ?_
  refine G_aload_n (pc := 748) dL_law_748 rfl ?_
  refine G_iload_n (pc := 749) dL_law_749 rfl ?_
  refine G_iconst (pc := 750) dL_law_750 ?_
  refine G_iadd (pc := 751) dL_law_751 ?_
  refine GL_sld (pc := 752) dL_law_752 hL (by omega) (by omega) ?_
  refine G_aload_n (pc := 753) dL_law_753 rfl ?_
  refine G_iload_n (pc := 754) dL_law_754 rfl ?_
  refine G_iconst (pc := 755) dL_law_755 ?_
  refine G_iadd (pc := 756) dL_law_756 ?_
  refine GL_sld (pc := 757) dL_law_757 hL (by omega) (by omega) ?_
  refine G_aload_n (pc := 758) dL_law_758 rfl ?_
  refine G_iload_n (pc := 759) dL_law_759 rfl ?_
  refine G_iconst (pc := 760) dL_law_760 ?_
  refine G_iadd (pc := 761) dL_law_761 ?_
  refine GL_sld (pc := 762) dL_law_762 hL (by omega) (by omega) ?_
  refine G_callV (pc := 763) (md := mdX12_tell) (av := [_, _, _, _]) dL_law_763 lkL_101 mwX12_tell (y_tell _ _ _ _ (by omega) hM1 hW (Ri_toInt _) (Ri_toInt _) (Ri_toInt _) (Ri_toInt _)) rfl (by first | rfl | assumption) (by omega) rfl rfl (Nat.le_of_ble_eq_true rfl) ⟨Nat.le_of_ble_eq_true rfl, Nat.le_of_ble_eq_true rfl⟩ ⟨Nat.le_of_ble_eq_true rfl, Nat.le_of_ble_eq_true rfl⟩ ?_
  rintro v I2 J2 ⟨rfl, hOI2, -, hM2⟩
  have hC2 := CI.off (I' := I2) hC1 (fun q h => hOI2 q (by omega))
  refine G_same (pc := 766) (tgt := 956) dL_law_766 (by decide) ?_
  exact fin (sTell (n, tx, hs, C, kn, K) _ _ _ _) I2 _ hC2 hM2 (W_tell (S := (n, tx, hs, C, kn, K)) hW _ _ _ _)
