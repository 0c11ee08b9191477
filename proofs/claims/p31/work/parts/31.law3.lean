/-! THE LAW: the best row, rows of steps, bents -/
section LAWC
variable {E : EV} {b L : Nat} {xs : Nat → Int32} {I J : Nat → Nat → Int} {n : Nat} {tx : Nat → Int} {hs : HS} {C : CS} {K : Nat → CS} {o : Nat → Nat}
theorem la_best (hL : L ≤ 260) (hD : DRo o) (hH : HOo o hs) (hO : OI I o) (hC : CI I n tx hs C 0 K) (hW : WF n tx hs C 0 K) (hT : C 3 0 = 0) (hR : COo o (o 2) C) : GW E b L xs I J 558 [some (.ref b), some (vr E 0), some (vr E 71), some (vi (aP o (o 0) : Nat)), none, none, none, none, none, none, none, none, none, none, none] [] := by
  have hB := hW.2.2.1
  have d1 := hD.2.1
  have d2 := hD.2.2.1
  have e9 := hH.2.1
  have s648 : ∀ (c : Nat) (I J : Nat → Nat → Int), c < 13 → OI I o → CI I n tx hs C 0 K → GW E b L xs I J 648 [some (.ref b), some (vr E 0), some (vr E 71), some (vi (aP o (o 0) : Nat)), none, none, none, some (vi (c : Int)), none, none, none, none, none, none, none] [] := by
    intro c I J hc hO hC
    obtain ⟨g1, g2, g3⟩ := f_best1 hB (show 0 < hs 9 0 by omega) (show c ≤ 12 by omega)
    refine G_aload_n (pc := 648) dL_law_648 rfl ?_
    refine G_iconst (pc := 649) dL_law_649 ?_
    refine G_bipush (pc := 650) dL_law_650 (by decide) ?_
    refine G_iload (pc := 652) dL_law_652 rfl ?_
    refine G_iconst (pc := 654) dL_law_654 ?_
    refine G_callV (pc := 655) (md := mdX11_best) (av := [_, _, _, _]) dL_law_655 lkL_102 mwX11_best (x_best _ _ _ _ (by omega) hC hW (Ri.mk (by omega) (by omega)) (Ri.mk (by omega) (by omega)) (Ri.mk (by omega) (by omega)) (Ri.mk (by omega) (by omega))) rfl (by first | rfl | assumption) (by omega) rfl rfl (Nat.le_of_ble_eq_true rfl) ⟨Nat.le_of_ble_eq_true rfl, Nat.le_of_ble_eq_true rfl⟩ ⟨Nat.le_of_ble_eq_true rfl, Nat.le_of_ble_eq_true rfl⟩ ?_
    rintro v I655 J655 ⟨rfl, hf, -, hC⟩
    replace hO := hO.off hf
    clear hf
    refine G_istore (pc := 658) (lv' := [_, _, _, _, _, _, _, _, _, _, _, _, _, _, _]) dL_law_658 (by decide) rfl ?_
    refine G_iload (pc := 660) dL_law_660 rfl ?_
    refine G_if_lt (pc := 662) (tgt := 702) dL_law_662 (Ri.mk (by omega) (by omega)) (by decide) (fun h_662 => ?_) (fun h_662 => ?_)
    · exact absurd h_662 (by omega)
    · refine G_iload (pc := 665) dL_law_665 rfl ?_
      refine G_iconst (pc := 667) dL_law_667 ?_
      refine G_aload_n (pc := 668) dL_law_668 rfl ?_
      refine G_iconst (pc := 669) dL_law_669 ?_
      refine G_ialdv (pc := 670) dL_law_670 (by first | rfl | assumption) (by omega) (by omega) (by omega) (by omega) (hO 1 (by omega)) ?_
      refine G_imul (pc := 671) dL_law_671 ?_
      refine G_icmp_ge (pc := 672) (tgt := 702) dL_law_672 (Ri.mk (by omega) (by omega)) (Ri.mk (by omega) (by omega)) (by decide) (fun h_672 => ?_) (fun h_672 => ?_)
      · exact absurd h_672 (by omega)
      · refine G_aload_n (pc := 675) dL_law_675 rfl ?_
        refine G_iconst (pc := 676) dL_law_676 ?_
        refine G_bipush (pc := 677) dL_law_677 (by decide) ?_
        refine G_iload (pc := 679) dL_law_679 rfl ?_
        refine G_iconst (pc := 681) dL_law_681 ?_
        refine G_callV (pc := 682) (md := mdX11_best) (av := [_, _, _, _]) dL_law_682 lkL_102 mwX11_best (x_best _ _ _ _ (by omega) hC hW (Ri.mk (by omega) (by omega)) (Ri.mk (by omega) (by omega)) (Ri.mk (by omega) (by omega)) (Ri.mk (by omega) (by omega))) rfl (by first | rfl | assumption) (by omega) rfl rfl (Nat.le_of_ble_eq_true rfl) ⟨Nat.le_of_ble_eq_true rfl, Nat.le_of_ble_eq_true rfl⟩ ⟨Nat.le_of_ble_eq_true rfl, Nat.le_of_ble_eq_true rfl⟩ ?_
        rintro v I682 J682 ⟨rfl, hf, -, hC⟩
        replace hO := hO.off hf
        clear hf
        refine G_if_lt (pc := 685) (tgt := 702) dL_law_685 (Ri.mk (by omega) (by omega)) (by decide) (fun h_685 => ?_) (fun h_685 => ?_)
        · exact absurd h_685 (by omega)
        · refine G_aload_n (pc := 688) dL_law_688 rfl ?_
          refine G_iconst (pc := 689) dL_law_689 ?_
          refine G_iconst (pc := 690) dL_law_690 ?_
          refine G_iload (pc := 691) dL_law_691 rfl ?_
          refine G_iconst (pc := 693) dL_law_693 ?_
          refine G_callV (pc := 694) (md := mdX11_best) (av := [_, _, _, _]) dL_law_694 lkL_102 mwX11_best (x_best _ _ _ _ (by omega) hC hW (Ri.mk (by omega) (by omega)) (Ri.mk (by omega) (by omega)) (Ri.mk (by omega) (by omega)) (Ri.mk (by omega) (by omega))) rfl (by first | rfl | assumption) (by omega) rfl rfl (Nat.le_of_ble_eq_true rfl) ⟨Nat.le_of_ble_eq_true rfl, Nat.le_of_ble_eq_true rfl⟩ ⟨Nat.le_of_ble_eq_true rfl, Nat.le_of_ble_eq_true rfl⟩ ?_
          rintro v I694 J694 ⟨rfl, hf, -, hC⟩
          replace hO := hO.off hf
          clear hf
          refine G_bipush (pc := 697) dL_law_697 (by decide) ?_
          refine G_icmp_eq (pc := 699) (tgt := 704) dL_law_699 (Ri.mk (by omega) (by omega)) (Ri.mk (by omega) (by omega)) (by decide) (fun h_699 => ?_) (fun h_699 => ?_)
          · exact G_kill 7 rfl (G_kill 8 rfl (la_people hL hD hH hO hC hW hT hR.1))
          · exact absurd g3 h_699
  have s625 : ∀ (c m : Nat) (I J : Nat → Nat → Int), c < 13 → (o 2 = 1 ∨ o 2 = 2) → m = sumN (fun x => o (22 + 4 * o (38 + 2 * x) + 3)) (o 2) → m ≤ 60 → OI I o → CI I n tx hs C 0 K → GW E b L xs I J 625 [some (.ref b), some (vr E 0), some (vr E 71), some (vi (aP o (o 0) : Nat)), none, none, none, some (vi (c : Int)), some (vi (m : Int)), none, none, none, none, none, none] [] := by
    intro c m I J hc h2 hm hm6 hO hC
    have hst : ∀ x, x < o 2 → C 1 x < hs 9 0 ∧ C 2 x ≤ 1 := fun x hx => by
      have q1 := hR.2 x hx
      have q2 := hD.2.2.2.2.2.2.2.2 x hx
      omega
    have hm' : m = sumN (fun x => hs 7 (C 1 x)) (o 2) := by
      rw [hm]
      refine sumN_congr fun x hx => ?_
      have q1 := hR.2 x hx
      have q2 := hD.2.2.2.2.2.2.2.2 x hx
      rw [q1.1]
      exact ((hH.2.2.2.2.1 (o (38 + 2 * x)) q2.1).2.2.2).symm
    obtain ⟨g1, g2, g3⟩ := f_best hB (C := C) (show c ≤ 12 by omega) h2 hR.1 hst hm' (by omega)
    refine G_aload_n (pc := 625) dL_law_625 rfl ?_
    refine G_aload_n (pc := 626) dL_law_626 rfl ?_
    refine G_iconst (pc := 627) dL_law_627 ?_
    refine G_ialdv (pc := 628) dL_law_628 (by first | rfl | assumption) (by omega) (by omega) (by omega) (by omega) (hO 2 (by omega)) ?_
    refine G_iload (pc := 629) dL_law_629 rfl ?_
    refine G_iload (pc := 631) dL_law_631 rfl ?_
    refine G_iconst (pc := 633) dL_law_633 ?_
    refine G_callV (pc := 634) (md := mdX11_best) (av := [_, _, _, _]) dL_law_634 lkL_102 mwX11_best (x_best _ _ _ _ (by omega) hC hW (Ri.mk (by omega) (by omega)) (Ri.mk (by omega) (by omega)) (Ri.mk (by omega) (by omega)) (Ri.mk (by omega) (by omega))) rfl (by first | rfl | assumption) (by omega) rfl rfl (Nat.le_of_ble_eq_true rfl) ⟨Nat.le_of_ble_eq_true rfl, Nat.le_of_ble_eq_true rfl⟩ ⟨Nat.le_of_ble_eq_true rfl, Nat.le_of_ble_eq_true rfl⟩ ?_
    rintro v I634 J634 ⟨rfl, hf, -, hC⟩
    replace hO := hO.off hf
    clear hf
    refine G_aload_n (pc := 637) dL_law_637 rfl ?_
    refine G_iload (pc := 638) dL_law_638 rfl ?_
    refine G_callV (pc := 640) (md := mdX11_odds) (av := [_]) dL_law_640 lkL_105 mwX11_odds (x_odds _ (by omega) hC hW (Ri.mk (by omega) (by omega))) rfl (by first | rfl | assumption) (by omega) rfl rfl (Nat.le_of_ble_eq_true rfl) ⟨Nat.le_of_ble_eq_true rfl, Nat.le_of_ble_eq_true rfl⟩ ⟨Nat.le_of_ble_eq_true rfl, Nat.le_of_ble_eq_true rfl⟩ ?_
    rintro v I640 J640 ⟨rfl, hf, -, hC⟩
    replace hO := hO.off hf
    clear hf
    refine G_icmp_ge (pc := 643) (tgt := 648) dL_law_643 (Ri.mk (by omega) (by omega)) (Ri.mk (by omega) (by omega)) (by decide) (fun h_643 => ?_) (fun h_643 => ?_)
    · exact G_kill 8 rfl (s648 c _ _ hc hO hC)
    · exact absurd h_643 (by omega)
  have loop : ∀ (c : Nat), c < 13 → (o 2 = 1 ∨ o 2 = 2) → ∀ (r t : Nat) (I J : Nat → Nat → Int), t + r = o 2 → OI I o → CI I n tx hs C 0 K → GW E b L xs I J 590 [some (.ref b), some (vr E 0), some (vr E 71), some (vi (aP o (o 0) : Nat)), none, none, none, some (vi (c : Int)), some (vi (sumN (fun x => o (22 + 4 * o (38 + 2 * x) + 3)) t : Nat)), some (vi (t : Int)), none, none, none, none, none] [] := by
    intro c hc h2 r
    induction r with
    | zero =>
      intro t I J ht hO hC
      have hle := sumN_le (f := fun x => o (22 + 4 * o (38 + 2 * x) + 3)) (n := o 2) (b := 30) fun x hx => by
        have q2 := hD.2.2.2.2.2.2.2.2 x hx
        exact (hD.2.2.2.2.2.2.2.1 _ q2.1).2.2.2.2
      have e : t = o 2 := by omega
      subst e
      refine G_iload (pc := 590) dL_law_590 rfl ?_
      refine G_aload_n (pc := 592) dL_law_592 rfl ?_
      refine G_iconst (pc := 593) dL_law_593 ?_
      refine G_ialdv (pc := 594) dL_law_594 (by first | rfl | assumption) (by omega) (by omega) (by omega) (by omega) (hO 2 (by omega)) ?_
      refine G_icmp_ge (pc := 595) (tgt := 625) dL_law_595 (Ri.mk (by omega) (by omega)) (Ri.mk (by omega) (by omega)) (by decide) (fun h_595 => ?_) (fun h_595 => ?_)
      · exact G_kill 9 rfl (s625 c _ _ _ hc h2 rfl (by omega) hO hC)
      · exact absurd h_595 (by omega)
    | succ r ih =>
      intro t I J ht hO hC
      have q2 := hD.2.2.2.2.2.2.2.2 t (by omega)
      refine G_iload (pc := 590) dL_law_590 rfl ?_
      refine G_aload_n (pc := 592) dL_law_592 rfl ?_
      refine G_iconst (pc := 593) dL_law_593 ?_
      refine G_ialdv (pc := 594) dL_law_594 (by first | rfl | assumption) (by omega) (by omega) (by omega) (by omega) (hO 2 (by omega)) ?_
      refine G_icmp_ge (pc := 595) (tgt := 625) dL_law_595 (Ri.mk (by omega) (by omega)) (Ri.mk (by omega) (by omega)) (by decide) (fun h_595 => ?_) (fun h_595 => ?_)
      · exact absurd h_595 (by omega)
      · refine G_iload (pc := 598) dL_law_598 rfl ?_
        refine G_aload_n (pc := 600) dL_law_600 rfl ?_
        refine G_bipush (pc := 601) dL_law_601 (by decide) ?_
        refine G_iconst (pc := 603) dL_law_603 ?_
        refine G_aload_n (pc := 604) dL_law_604 rfl ?_
        refine G_bipush (pc := 605) dL_law_605 (by decide) ?_
        refine G_iconst (pc := 607) dL_law_607 ?_
        refine G_iload (pc := 608) dL_law_608 rfl ?_
        refine G_imul (pc := 610) dL_law_610 ?_
        refine G_iadd (pc := 611) dL_law_611 ?_
        refine G_ialdv (pc := 612) dL_law_612 (by first | rfl | assumption) (by omega) (by omega) (by omega) (by omega) (show I 71 (38 + 2 * (t : Int)).toNat = (o (38 + 2 * t) : Int) from by rw [show (38 + 2 * (t : Int)).toNat = 38 + 2 * t by omega]; exact hO _ (by omega)) ?_
        refine G_imul (pc := 613) dL_law_613 ?_
        refine G_iadd (pc := 614) dL_law_614 ?_
        refine G_ialdv (pc := 615) dL_law_615 (by first | rfl | assumption) (by omega) (by omega) (by omega) (by omega) (show I 71 (25 + 4 * (o (38 + 2 * t) : Int)).toNat = (o (22 + 4 * o (38 + 2 * t) + 3) : Int) from by rw [show (25 + 4 * (o (38 + 2 * t) : Int)).toNat = 22 + 4 * o (38 + 2 * t) + 3 by omega]; exact hO _ (by omega)) ?_
        refine G_iadd (pc := 616) dL_law_616 ?_
        refine G_istore (pc := 617) (lv' := [_, _, _, _, _, _, _, _, _, _, _, _, _, _, _]) dL_law_617 (by decide) rfl ?_
        refine G_iinc (pc := 619) (lv' := [_, _, _, _, _, _, _, _, _, _, _, _, _, _, _]) dL_law_619 (by decide) rfl rfl ?_
        refine G_goto (pc := 622) (tgt := 590) dL_law_622 (by decide) ?_
        exact ih (t + 1) _ _ (by omega) hO hC
  refine G_aload_n (pc := 558) dL_law_558 rfl ?_
  refine G_bipush (pc := 559) dL_law_559 (by decide) ?_
  refine G_callX (pc := 561) (md := mdL_cell) (av := [_, _]) XLw.x dL_law_561 lkL_19 mwL_cell (c_cell hL _ (by omega) (by omega)) rfl rfl (Nat.le_of_ble_eq_true rfl) ⟨Nat.le_of_ble_eq_true rfl, Nat.le_of_ble_eq_true rfl⟩ ⟨Nat.le_of_ble_eq_true rfl, Nat.le_of_ble_eq_true rfl⟩ ?_
  rintro v I1 J1 ⟨⟨y, rfl⟩, rfl, rfl⟩
  refine G_bipush (pc := 564) dL_law_564 (by decide) ?_
  refine G_callS (pc := 566) (md := mdL_low) (av := [_, _]) dL_law_566 lkL_25 mwL_low (c_low _ _ (by omega) (Ri.mk (by omega) (by omega))) rfl rfl (Nat.le_of_ble_eq_true rfl) ⟨Nat.le_of_ble_eq_true rfl, Nat.le_of_ble_eq_true rfl⟩ ⟨Nat.le_of_ble_eq_true rfl, Nat.le_of_ble_eq_true rfl⟩ ?_
  rintro v I2 J2 ⟨⟨c, hc, rfl⟩, rfl, rfl⟩
  have hc : c < 13 := by omega
  refine G_istore (pc := 569) (lv' := [_, _, _, _, _, _, _, _, _, _, _, _, _, _, _]) dL_law_569 (by decide) rfl ?_
  refine G_aload_n (pc := 571) dL_law_571 rfl ?_
  refine G_iconst (pc := 572) dL_law_572 ?_
  refine G_ialdv (pc := 573) dL_law_573 (by first | rfl | assumption) (by omega) (by omega) (by omega) (by omega) (hO 2 (by omega)) ?_
  refine G_if_le (pc := 574) (tgt := 648) dL_law_574 (Ri.mk (by omega) (by omega)) (by decide) (fun h_574 => ?_) (fun h_574 => ?_)
  · exact s648 c _ _ hc hO hC
  · refine G_aload_n (pc := 577) dL_law_577 rfl ?_
    refine G_iconst (pc := 578) dL_law_578 ?_
    refine G_ialdv (pc := 579) dL_law_579 (by first | rfl | assumption) (by omega) (by omega) (by omega) (by omega) (hO 2 (by omega)) ?_
    refine G_iconst (pc := 580) dL_law_580 ?_
    refine G_icmp_ge (pc := 581) (tgt := 648) dL_law_581 (Ri.mk (by omega) (by omega)) (Ri.mk (by omega) (by omega)) (by decide) (fun h_581 => ?_) (fun h_581 => ?_)
    · exact s648 c _ _ hc hO hC
    · refine G_iconst (pc := 584) dL_law_584 ?_
      refine G_istore (pc := 585) (lv' := [_, _, _, _, _, _, _, _, _, _, _, _, _, _, _]) dL_law_585 (by decide) rfl ?_
      refine G_iconst (pc := 587) dL_law_587 ?_
      refine G_istore (pc := 588) (lv' := [_, _, _, _, _, _, _, _, _, _, _, _, _, _, _]) dL_law_588 (by decide) rfl ?_
      exact loop c hc (by omega) (o 2) 0 _ _ (by omega) hO hC
theorem COo.add {t : Nat} (h : COo o t C) : COo o (t + 1) (addR C (o (38 + 2 * t)) (o (38 + 2 * t + 1))) := by
  refine ⟨by show C 0 0 + 1 = t + 1; rw [h.1], fun x hx => ?_⟩
  by_cases e : x = t
  · subst e; simp [addR, h.1]
  · have := h.2 x (by omega)
    simpa [addR, h.1, e] using this
theorem f_step {t : Nat} (hD : DRo o) (hH : HOo o hs) (h : COo o t C) (ht : t < o 2) : aStep hs C (o (38 + 2 * t) : Nat) (o (38 + 2 * t + 1) : Nat) = (t : Int) + 1 ∧ sStep (n, tx, hs, C, 0, K) (o (38 + 2 * t) : Nat) (o (38 + 2 * t + 1) : Nat) = (n, tx, hs, addR C (o (38 + 2 * t)) (o (38 + 2 * t + 1)), 0, K) := by
  have q2 := hD.2.2.2.2.2.2.2.2 t ht
  have d2 := hD.2.2.1
  have e9 := hH.2.1
  have e0 := h.1
  have c1 : isA hs (o (38 + 2 * t) : Nat) := by show (0 : Int) ≤ (o (38 + 2 * t) : Nat) ∧ ((o (38 + 2 * t) : Nat) : Int) < (hs 9 0 : Nat); omega
  have c2 : (0 : Int) ≤ (o (38 + 2 * t + 1) : Nat) ∧ ((o (38 + 2 * t + 1) : Nat) : Int) ≤ 1 := by omega
  constructor
  · unfold aStep
    rw [if_pos ⟨c1, c2⟩, if_pos (by omega), e0]
  · unfold sStep
    rw [if_pos ⟨⟨c1, c2⟩, show C 0 0 < 8 by omega⟩, Int.toNat_natCast, Int.toNat_natCast]
theorem la_steps {lo hi : Nat} (hL : L ≤ 260) (hD : DRo o) (hH : HOo o hs) (hb : ∀ s, s < hs 8 0 → lo ≤ hs 1 s ∧ hs 1 s ≤ hi) (hlo : lo ≤ 10) (hhi : hi ≤ 10) (hO : OI I o) (hC : CI I n tx hs C 0 K) (hW : WF n tx hs C 0 K) (hT : C 3 0 = 0) (hR : C 0 0 = o 2) : GW E b L xs I J 388 [some (.ref b), some (vr E 0), some (vr E 71), some (vi (aP o (o 0) : Nat)), some (vi (lo : Int)), some (vi (hi : Int)), none, none, none, none, none, none, none, none, none] [] := by
  have hB := hW.2.2.1
  have d1 := hD.2.1
  have d2 := hD.2.2.1
  have h8 : 0 < hs 8 0 := hW.2.2.2.1
  have loop : ∀ (r t : Nat) (C : CS) (I J : Nat → Nat → Int), t + r = o 2 → COo o t C → C 3 0 = 0 → OI I o → CI I n tx hs C 0 K → WF n tx hs C 0 K → GW E b L xs I J 438 [some (.ref b), some (vr E 0), some (vr E 71), some (vi (aP o (o 0) : Nat)), some (vi (lo : Int)), some (vi (hi : Int)), some (vi (aLeft hs C (-1))), some (vi (t : Int)), none, none, none, none, none, none, none] [] := by
    intro r
    induction r with
    | zero =>
      intro t C I J ht hR hT hO hC hW
      have e : t = o 2 := by omega
      subst e
      refine G_iload (pc := 438) dL_law_438 rfl ?_
      refine G_aload_n (pc := 440) dL_law_440 rfl ?_
      refine G_iconst (pc := 441) dL_law_441 ?_
      refine G_ialdv (pc := 442) dL_law_442 (by first | rfl | assumption) (by omega) (by omega) (by omega) (by omega) (hO 2 (by omega)) ?_
      refine G_icmp_ge (pc := 443) (tgt := 558) dL_law_443 (Ri.mk (by omega) (by omega)) (Ri.mk (by omega) (by omega)) (by decide) (fun h_443 => ?_) (fun h_443 => ?_)
      · exact G_kill 4 rfl (G_kill 5 rfl (G_kill 6 rfl (G_kill 7 rfl (la_best hL hD hH hO hC hW hT hR))))
      · exact absurd h_443 (by omega)
    | succ r ih =>
      intro t C I J ht hR hT hO hC hW
      have q2 := hD.2.2.2.2.2.2.2.2 t (by omega)
      obtain ⟨t1, t2⟩ := f_step (n := n) (tx := tx) (K := K) hD hH hR (show t < o 2 by omega)
      obtain ⟨C1, hC1⟩ : ∃ C1, C1 = addR C (o (38 + 2 * t)) (o (38 + 2 * t + 1)) := ⟨_, rfl⟩
      have hW1 := W_step (S := (n, tx, hs, C, 0, K)) hW (o (38 + 2 * t) : Nat) (o (38 + 2 * t + 1) : Nat)
      rw [t2, ← hC1] at hW1
      have hW1 : WF n tx hs C1 0 K := hW1
      have hR1 := hR.add
      rw [← hC1] at hR1
      have hT1 : C1 3 0 = 0 := by rw [hC1]; exact hT
      have l1 := f_leftAdd hB C (o (38 + 2 * t)) (o (38 + 2 * t + 1))
      rw [← hC1] at l1
      obtain ⟨l2, l3⟩ := f_left hB C1
      obtain ⟨l4, l5⟩ := f_left hB C
      obtain ⟨y, hy⟩ : ∃ y, y = sumN (lf hs C1) (hs 8 0) := ⟨_, rfl⟩
      rw [← hy] at l2 l3
      refine G_iload (pc := 438) dL_law_438 rfl ?_
      refine G_aload_n (pc := 440) dL_law_440 rfl ?_
      refine G_iconst (pc := 441) dL_law_441 ?_
      refine G_ialdv (pc := 442) dL_law_442 (by first | rfl | assumption) (by omega) (by omega) (by omega) (by omega) (hO 2 (by omega)) ?_
      refine G_icmp_ge (pc := 443) (tgt := 558) dL_law_443 (Ri.mk (by omega) (by omega)) (Ri.mk (by omega) (by omega)) (by decide) (fun h_443 => ?_) (fun h_443 => ?_)
      · exact absurd h_443 (by omega)
      · refine G_aload_n (pc := 446) dL_law_446 rfl ?_
        refine G_aload_n (pc := 447) dL_law_447 rfl ?_
        refine G_bipush (pc := 448) dL_law_448 (by decide) ?_
        refine G_iconst (pc := 450) dL_law_450 ?_
        refine G_iload (pc := 451) dL_law_451 rfl ?_
        refine G_imul (pc := 453) dL_law_453 ?_
        refine G_iadd (pc := 454) dL_law_454 ?_
        refine G_ialdv (pc := 455) dL_law_455 (by first | rfl | assumption) (by omega) (by omega) (by omega) (by omega) (show I 71 (38 + 2 * (t : Int)).toNat = (o (38 + 2 * t) : Int) from by rw [show (38 + 2 * (t : Int)).toNat = 38 + 2 * t by omega]; exact hO _ (by omega)) ?_
        refine G_aload_n (pc := 456) dL_law_456 rfl ?_
        refine G_bipush (pc := 457) dL_law_457 (by decide) ?_
        refine G_iconst (pc := 459) dL_law_459 ?_
        refine G_iload (pc := 460) dL_law_460 rfl ?_
        refine G_imul (pc := 462) dL_law_462 ?_
        refine G_iadd (pc := 463) dL_law_463 ?_
        refine G_ialdv (pc := 464) dL_law_464 (by first | rfl | assumption) (by omega) (by omega) (by omega) (by omega) (show I 71 (39 + 2 * (t : Int)).toNat = (o (38 + 2 * t + 1) : Int) from by rw [show (39 + 2 * (t : Int)).toNat = 38 + 2 * t + 1 by omega]; exact hO _ (by omega)) ?_
        refine G_callV (pc := 465) (md := mdX11_step) (av := [_, _]) dL_law_465 lkL_96 mwX11_step (x_step _ _ (by omega) hC hW (Ri.mk (by omega) (by omega)) (Ri.mk (by omega) (by omega))) rfl (by first | rfl | assumption) (by omega) rfl rfl (Nat.le_of_ble_eq_true rfl) ⟨Nat.le_of_ble_eq_true rfl, Nat.le_of_ble_eq_true rfl⟩ ⟨Nat.le_of_ble_eq_true rfl, Nat.le_of_ble_eq_true rfl⟩ ?_
        rintro v I1 J1 ⟨rfl, hf, -, hC⟩
        replace hO := hO.off hf
        clear hf
        rw [t1]
        rw [t2, ← hC1] at hC
        have hC : CI I1 n tx hs C1 0 K := hC
        replace hW := hW1
        refine G_iload (pc := 468) dL_law_468 rfl ?_
        refine G_iconst (pc := 470) dL_law_470 ?_
        refine G_iadd (pc := 471) dL_law_471 ?_
        refine G_icmp_ne (pc := 472) (tgt := 485) dL_law_472 (Ri.mk (by omega) (by omega)) (Ri.mk (by omega) (by omega)) (by decide) (fun h_472 => ?_) (fun h_472 => ?_)
        · exact absurd rfl h_472
        · refine G_aload_n (pc := 475) dL_law_475 rfl ?_
          refine G_iconst (pc := 476) dL_law_476 ?_
          refine G_callV (pc := 477) (md := mdX11_left) (av := [_]) dL_law_477 lkL_94 mwX11_left (x_left _ (by omega) hC hW (Ri.mk (by omega) (by omega))) rfl (by first | rfl | assumption) (by omega) rfl rfl (Nat.le_of_ble_eq_true rfl) ⟨Nat.le_of_ble_eq_true rfl, Nat.le_of_ble_eq_true rfl⟩ ⟨Nat.le_of_ble_eq_true rfl, Nat.le_of_ble_eq_true rfl⟩ ?_
          rintro v I477 J477 ⟨rfl, hf, -, hC⟩
          replace hO := hO.off hf
          clear hf
          refine G_iload (pc := 480) dL_law_480 rfl ?_
          refine G_icmp_le (pc := 482) (tgt := 487) dL_law_482 (Ri.mk (by omega) (by omega)) (Ri.mk (by omega) (by omega)) (by decide) (fun h_482 => ?_) (fun h_482 => ?_)
          · refine G_aload_n (pc := 487) dL_law_487 rfl ?_
            refine G_iconst (pc := 488) dL_law_488 ?_
            refine G_callV (pc := 489) (md := mdX11_left) (av := [_]) dL_law_489 lkL_94 mwX11_left (x_left _ (by omega) hC hW (Ri.mk (by omega) (by omega))) rfl (by first | rfl | assumption) (by omega) rfl rfl (Nat.le_of_ble_eq_true rfl) ⟨Nat.le_of_ble_eq_true rfl, Nat.le_of_ble_eq_true rfl⟩ ⟨Nat.le_of_ble_eq_true rfl, Nat.le_of_ble_eq_true rfl⟩ ?_
            rintro v I489 J489 ⟨rfl, hf, -, hC⟩
            replace hO := hO.off hf
            clear hf
            refine G_istore (pc := 492) (lv' := [_, _, _, _, _, _, _, _, _, _, _, _, _, _, _]) dL_law_492 (by decide) rfl ?_
            refine G_iload (pc := 494) dL_law_494 rfl ?_
            refine G_if_le (pc := 496) (tgt := 530) dL_law_496 (Ri.mk (by omega) (by omega)) (by decide) (fun h_496 => ?_) (fun h_496 => ?_)
            · obtain ⟨b1, b2⟩ := f_bentN (C := C1) (by omega) h8
              refine G_aload_n (pc := 530) dL_law_530 rfl ?_
              refine G_iconst (pc := 531) dL_law_531 ?_
              refine G_callV (pc := 532) (md := mdX11_bent) (av := [_]) dL_law_532 lkL_88 mwX11_bent (x_bent _ (by omega) hC hW (Ri.mk (by omega) (by omega))) rfl (by first | rfl | assumption) (by omega) rfl rfl (Nat.le_of_ble_eq_true rfl) ⟨Nat.le_of_ble_eq_true rfl, Nat.le_of_ble_eq_true rfl⟩ ⟨Nat.le_of_ble_eq_true rfl, Nat.le_of_ble_eq_true rfl⟩ ?_
              rintro v I532 J532 ⟨rfl, hf, -, hC⟩
              replace hO := hO.off hf
              clear hf
              refine G_bipush (pc := 535) dL_law_535 (by decide) ?_
              refine G_icmp_ne (pc := 537) (tgt := 550) dL_law_537 (Ri.mk (by omega) (by omega)) (Ri.mk (by omega) (by omega)) (by decide) (fun h_537 => ?_) (fun h_537 => ?_)
              · exact absurd b1 h_537
              · refine G_aload_n (pc := 540) dL_law_540 rfl ?_
                refine G_iconst (pc := 541) dL_law_541 ?_
                refine G_callV (pc := 542) (md := mdX11_share) (av := [_]) dL_law_542 lkL_99 mwX11_share (x_share _ (by omega) hC hW (Ri.mk (by omega) (by omega))) rfl (by first | rfl | assumption) (by omega) rfl rfl (Nat.le_of_ble_eq_true rfl) ⟨Nat.le_of_ble_eq_true rfl, Nat.le_of_ble_eq_true rfl⟩ ⟨Nat.le_of_ble_eq_true rfl, Nat.le_of_ble_eq_true rfl⟩ ?_
                rintro v I542 J542 ⟨rfl, hf, -, hC⟩
                replace hO := hO.off hf
                clear hf
                refine G_bipush (pc := 545) dL_law_545 (by decide) ?_
                refine G_icmp_eq (pc := 547) (tgt := 552) dL_law_547 (Ri.mk (by omega) (by omega)) (Ri.mk (by omega) (by omega)) (by decide) (fun h_547 => ?_) (fun h_547 => ?_)
                · refine G_iinc (pc := 552) (lv' := [_, _, _, _, _, _, _, _, _, _, _, _, _, _, _]) dL_law_552 (by decide) rfl rfl ?_
                  refine G_goto (pc := 555) (tgt := 438) dL_law_555 (by decide) ?_
                  exact ih (t + 1) C1 _ _ (by omega) hR1 hT1 hO hC hW
                · exact absurd b2 h_547
            · obtain ⟨b1, b2, b3, b4⟩ := f_bent1 (C := C1) hb hhi (by omega)
              refine G_aload_n (pc := 499) dL_law_499 rfl ?_
              refine G_iconst (pc := 500) dL_law_500 ?_
              refine G_callV (pc := 501) (md := mdX11_bent) (av := [_]) dL_law_501 lkL_88 mwX11_bent (x_bent _ (by omega) hC hW (Ri.mk (by omega) (by omega))) rfl (by first | rfl | assumption) (by omega) rfl rfl (Nat.le_of_ble_eq_true rfl) ⟨Nat.le_of_ble_eq_true rfl, Nat.le_of_ble_eq_true rfl⟩ ⟨Nat.le_of_ble_eq_true rfl, Nat.le_of_ble_eq_true rfl⟩ ?_
              rintro v I501 J501 ⟨rfl, hf, -, hC⟩
              replace hO := hO.off hf
              clear hf
              refine G_sipush (pc := 504) dL_law_504 (by decide) ?_
              refine G_iload (pc := 507) dL_law_507 rfl ?_
              refine G_imul (pc := 509) dL_law_509 ?_
              refine G_icmp_lt (pc := 510) (tgt := 550) dL_law_510 (Ri.mk (by omega) (by omega)) (Ri.mk (by omega) (by omega)) (by decide) (fun h_510 => ?_) (fun h_510 => ?_)
              · exact absurd h_510 (by omega)
              · refine G_aload_n (pc := 513) dL_law_513 rfl ?_
                refine G_iconst (pc := 514) dL_law_514 ?_
                refine G_callV (pc := 515) (md := mdX11_bent) (av := [_]) dL_law_515 lkL_88 mwX11_bent (x_bent _ (by omega) hC hW (Ri.mk (by omega) (by omega))) rfl (by first | rfl | assumption) (by omega) rfl rfl (Nat.le_of_ble_eq_true rfl) ⟨Nat.le_of_ble_eq_true rfl, Nat.le_of_ble_eq_true rfl⟩ ⟨Nat.le_of_ble_eq_true rfl, Nat.le_of_ble_eq_true rfl⟩ ?_
                rintro v I515 J515 ⟨rfl, hf, -, hC⟩
                replace hO := hO.off hf
                clear hf
                refine G_sipush (pc := 518) dL_law_518 (by decide) ?_
                refine G_iload (pc := 521) dL_law_521 rfl ?_
                refine G_imul (pc := 523) dL_law_523 ?_
                refine G_icmp_le (pc := 524) (tgt := 552) dL_law_524 (Ri.mk (by omega) (by omega)) (Ri.mk (by omega) (by omega)) (by decide) (fun h_524 => ?_) (fun h_524 => ?_)
                · refine G_iinc (pc := 552) (lv' := [_, _, _, _, _, _, _, _, _, _, _, _, _, _, _]) dL_law_552 (by decide) rfl rfl ?_
                  refine G_goto (pc := 555) (tgt := 438) dL_law_555 (by decide) ?_
                  exact ih (t + 1) C1 _ _ (by omega) hR1 hT1 hO hC hW
                · exact absurd h_524 (by omega)
          · exact absurd h_482 (by omega)
  obtain ⟨b1, b2, b3, b4⟩ := f_bent0 hB h8 (C := C) hb hhi
  refine G_aload_n (pc := 388) dL_law_388 rfl ?_
  refine G_iconst (pc := 389) dL_law_389 ?_
  refine G_callV (pc := 390) (md := mdX11_bent) (av := [_]) dL_law_390 lkL_88 mwX11_bent (x_bent _ (by omega) hC hW (Ri.mk (by omega) (by omega))) rfl (by first | rfl | assumption) (by omega) rfl rfl (Nat.le_of_ble_eq_true rfl) ⟨Nat.le_of_ble_eq_true rfl, Nat.le_of_ble_eq_true rfl⟩ ⟨Nat.le_of_ble_eq_true rfl, Nat.le_of_ble_eq_true rfl⟩ ?_
  rintro v I390 J390 ⟨rfl, hf, -, hC⟩
  replace hO := hO.off hf
  clear hf
  refine G_sipush (pc := 393) dL_law_393 (by decide) ?_
  refine G_iload (pc := 396) dL_law_396 rfl ?_
  refine G_imul (pc := 398) dL_law_398 ?_
  refine G_icmp_lt (pc := 399) (tgt := 426) dL_law_399 (Ri.mk (by omega) (by omega)) (Ri.mk (by omega) (by omega)) (by decide) (fun h_399 => ?_) (fun h_399 => ?_)
  · exact absurd h_399 (by omega)
  · refine G_aload_n (pc := 402) dL_law_402 rfl ?_
    refine G_iconst (pc := 403) dL_law_403 ?_
    refine G_callV (pc := 404) (md := mdX11_bent) (av := [_]) dL_law_404 lkL_88 mwX11_bent (x_bent _ (by omega) hC hW (Ri.mk (by omega) (by omega))) rfl (by first | rfl | assumption) (by omega) rfl rfl (Nat.le_of_ble_eq_true rfl) ⟨Nat.le_of_ble_eq_true rfl, Nat.le_of_ble_eq_true rfl⟩ ⟨Nat.le_of_ble_eq_true rfl, Nat.le_of_ble_eq_true rfl⟩ ?_
    rintro v I404 J404 ⟨rfl, hf, -, hC⟩
    replace hO := hO.off hf
    clear hf
    refine G_sipush (pc := 407) dL_law_407 (by decide) ?_
    refine G_iload (pc := 410) dL_law_410 rfl ?_
    refine G_imul (pc := 412) dL_law_412 ?_
    refine G_icmp_gt (pc := 413) (tgt := 426) dL_law_413 (Ri.mk (by omega) (by omega)) (Ri.mk (by omega) (by omega)) (by decide) (fun h_413 => ?_) (fun h_413 => ?_)
    · exact absurd h_413 (by omega)
    · refine G_aload_n (pc := 416) dL_law_416 rfl ?_
      refine G_callV (pc := 417) (md := mdX11_noRow) (av := []) dL_law_417 lkL_91 mwX11_noRow (x_noRow (by omega) hC hW ) rfl (by first | rfl | assumption) (by omega) rfl rfl (Nat.le_of_ble_eq_true rfl) ⟨Nat.le_of_ble_eq_true rfl, Nat.le_of_ble_eq_true rfl⟩ ⟨Nat.le_of_ble_eq_true rfl, Nat.le_of_ble_eq_true rfl⟩ ?_
      rintro v I1 J1 ⟨rfl, hf, -, hC⟩
      replace hO := hO.off hf
      clear hf
      replace hW : WF n tx hs (noR C) 0 K := W_noRow (S := (n, tx, hs, C, 0, K)) hW
      replace hC : CI I1 n tx hs (noR C) 0 K := hC
      refine G_aload_n (pc := 420) dL_law_420 rfl ?_
      refine G_iconst (pc := 421) dL_law_421 ?_
      refine G_ialdv (pc := 422) dL_law_422 (by first | rfl | assumption) (by omega) (by omega) (by omega) (by omega) (hO 2 (by omega)) ?_
      refine G_icmp_eq (pc := 423) (tgt := 428) dL_law_423 (Ri.mk (by omega) (by omega)) (Ri.mk (by omega) (by omega)) (by decide) (fun h_423 => ?_) (fun h_423 => ?_)
      · refine G_aload_n (pc := 428) dL_law_428 rfl ?_
        refine G_iconst (pc := 429) dL_law_429 ?_
        refine G_callV (pc := 430) (md := mdX11_left) (av := [_]) dL_law_430 lkL_94 mwX11_left (x_left _ (by omega) hC hW (Ri.mk (by omega) (by omega))) rfl (by first | rfl | assumption) (by omega) rfl rfl (Nat.le_of_ble_eq_true rfl) ⟨Nat.le_of_ble_eq_true rfl, Nat.le_of_ble_eq_true rfl⟩ ⟨Nat.le_of_ble_eq_true rfl, Nat.le_of_ble_eq_true rfl⟩ ?_
        rintro v I430 J430 ⟨rfl, hf, -, hC⟩
        replace hO := hO.off hf
        clear hf
        refine G_istore (pc := 433) (lv' := [_, _, _, _, _, _, _, _, _, _, _, _, _, _, _]) dL_law_433 (by decide) rfl ?_
        refine G_iconst (pc := 435) dL_law_435 ?_
        refine G_istore (pc := 436) (lv' := [_, _, _, _, _, _, _, _, _, _, _, _, _, _, _]) dL_law_436 (by decide) rfl ?_
        exact loop (o 2) 0 (noR C) _ _ (by omega) ⟨rfl, fun x hx => absurd hx (Nat.not_lt_zero x)⟩ hT hO hC hW
      · exact absurd (by omega) h_423
end LAWC

