theorem RF.q {h h1 : HM} {F : Nat → Fg} (e : ∀ j, h1.I 151 j = h.I 151 j) (r : RF h F) : RF h1 F := by unfold RF RFg at *; simp only [e]; exact r
theorem RV.q {h h1 : HM} {V : Nat → Fg} (e : ∀ j, h1.I 151 j = h.I 151 j) (r : RV h V) : RV h1 V := by unfold RV RVg at *; simp only [e]; exact r
theorem RS.q {h h1 : HM} {S : Nat → Sg} (e : ∀ j, h1.I 151 j = h.I 151 j) (r : RS h S) : RS h1 S := by unfold RS RSg at *; simp only [e]; exact r
theorem Inv.f {h h1 : HM} (hi : Inv h) (f : FrF h h1) : Inv h1 := hi.fr (fun a j q => by unfold Sees at q; rw [(f a (by omega)).1])
theorem Inv.j {h h1 : HM} (hi : Inv h) (f : FrJ h h1) : Inv h1 := hi.fr (fun a j q => f.1 a j (by unfold Sees at q; omega))
theorem Inv.c {h h1 : HM} (hi : Inv h) (f : FrC h h1) : Inv h1 := hi.fr (fun a j q => f.2 a j (by unfold Sees at q; omega))
theorem Inv.t {h h1 : HM} (hi : Inv h) (f : Fr82 h h1) : Inv h1 := hi.fr (fun a j q => by unfold Sees at q; rw [(f a (by omega)).1])
theorem Inv.u {h h1 : HM} (hi : Inv h) (f : Fr85 h h1) : Inv h1 := hi.fr (fun a j q => by unfold Sees at q; rw [(f a (by omega)).1])
set_option maxRecDepth 100000 in
set_option maxHeartbeats 1000000 in
theorem lc_next {G : GX} {R : Room} {Z : ZT} {y : LY} {h : HM} {cs : Nat × Nat} (hY : Lay y) (hi : Inv h) {at_ : Int} (hat : 0 ≤ at_ ∧ at_ + 7 ≤ G.len) (hlen : G.len < 2147483648) (hR : RO R 20 0 0 cs) (kk : ∀ h2, Inv h2 → Go G mL_law R Z y 2060 [some (.ref 8), some (.ref 9), some (.ref 150), some (.int (iZ at_))] [] h2 cs) : Go G mL_law R Z y 470 [some (.ref 8), some (.ref 9), some (.ref 150), some (.int (iZ at_))] [] h cs := by
  have es := hi.st
  have hw := hi.cw
  have e0 := es.1.1
  have e1 := es.2.1.1
  have e5 := es.2.2.1.1
  have e6 := es.2.2.2
  have w6 := hw.2.2.2.1
  have r1 := scV_r G (at_ + 1)
  have r2 := scV_r G (at_ + 2)
  have r3 := scV_r G (at_ + 3)
  have r4 := scV_r G (at_ + 4)
  have r5 := scV_r G (at_ + 5)
  have r6 := scV_r G (at_ + 6)
  refine g_aload_n dL_law_470 rfl rfl (g_aload_n dL_law_471 rfl rfl (g_iload_n dL_law_472 rfl rfl (g_iconst dL_law_473 (g_iadd dL_law_474 (g_sld dL_law_475 ⟨by omega, by omega, by omega⟩ (g_aload_n dL_law_476 rfl rfl (g_iload_n dL_law_477 rfl rfl (g_iconst dL_law_478 (g_iadd dL_law_479 (g_sld dL_law_480 ⟨by omega, by omega, by omega⟩ (g_i2l dL_law_481 (by omega) ?_)))))))))))
  refine g_bipush dL_law_482 kb32 (g_lshl dL_law_484 (g_aload_n dL_law_485 rfl rfl (g_iload_n dL_law_486 rfl rfl (g_iconst dL_law_487 (g_iadd dL_law_488 (g_sld dL_law_489 ⟨by omega, by omega, by omega⟩ (g_i2l dL_law_490 (by omega) (c2_L_13 (M := mL_law) rfl dL_law_491 (g_land dL_law_494 (g_lor dL_law_495 ?_))))))))))
  refine cv_L_52 (M := mL_law) rfl dL_law_496 (yo9 hY) hR (Nat.le_of_ble_eq_true rfl) (e_X8_next hY r1 (lOr_r _ _) hw.F) (kQW fun v496 h496 hq496 => ?_)
  have hi1 : Inv h496 := hi.f hq496.1
  have q151 : ∀ j, h496.I 151 j = h.I 151 j := fun j => by rw [(hq496.1 151 (by omega)).1]
  have hR1 : RF h496 (cFs h 12) := hi.rf.q q151
  have hS1 : RS h496 (cSs h 12) := hi.rs.q q151
  have n1 : h496.I 151 0 = h.I 12 3 := by rw [q151]; exact e0
  have n5 : h496.I 151 71 = h.I 12 5 := by rw [q151]; exact e5
  refine g_aload_n dL_law_499 rfl rfl (g_aload_n dL_law_500 rfl rfl (g_iload_n dL_law_501 rfl rfl (g_iconst dL_law_502 (g_iadd dL_law_503 (g_sld dL_law_504 ⟨by omega, by omega, by omega⟩ (g_aload_n dL_law_505 rfl rfl (g_iload_n dL_law_506 rfl rfl (g_iconst dL_law_507 (g_iadd dL_law_508 (g_sld dL_law_509 ⟨by omega, by omega, by omega⟩ (g_i2l dL_law_510 (by omega) ?_)))))))))))
  refine g_bipush dL_law_511 kb32 (g_lshl dL_law_513 (g_aload_n dL_law_514 rfl rfl (g_iload_n dL_law_515 rfl rfl (g_iconst dL_law_516 (g_iadd dL_law_517 (g_sld dL_law_518 ⟨by omega, by omega, by omega⟩ (g_i2l dL_law_519 (by omega) (c2_L_13 (M := mL_law) rfl dL_law_520 (g_land dL_law_523 (g_lor dL_law_524 ?_))))))))))
  refine cv_L_56 (M := mL_law) rfl dL_law_525 (yo150 hY) hR (Nat.le_of_ble_eq_true rfl) (e_X9_next hY hR1 r1 (lOr_r _ _)) (kQL fun v525 hq525 => ?_)
  have z2 := hq525
  rw [n1] at z2
  refine g_leqS 2060 dL_law_528 dL_law_529 rfl (by (rcases hq496.2 with ⟨a1, a2⟩ | ⟨a1, a2⟩ <;> rcases z2 with ⟨b1, b2⟩ | ⟨b1, b2⟩ <;> first | exact a2.trans b2.symm | exact absurd b1 a1 | exact absurd a1 b1 | exact EarlP.uniq (by omega) a2 b2)) ?_
  exact kk _ hi1
set_option maxRecDepth 100000 in
set_option maxHeartbeats 1000000 in
theorem lc_often {G : GX} {R : Room} {Z : ZT} {y : LY} {h : HM} {cs : Nat × Nat} (hY : Lay y) (hi : Inv h) {at_ : Int} (hat : 0 ≤ at_ ∧ at_ + 7 ≤ G.len) (hlen : G.len < 2147483648) (hR : RO R 20 0 0 cs) (kk : ∀ h2, Inv h2 → Go G mL_law R Z y 2060 [some (.ref 8), some (.ref 9), some (.ref 150), some (.int (iZ at_))] [] h2 cs) : Go G mL_law R Z y 598 [some (.ref 8), some (.ref 9), some (.ref 150), some (.int (iZ at_))] [] h cs := by
  have es := hi.st
  have hw := hi.cw
  have e0 := es.1.1
  have e1 := es.2.1.1
  have e5 := es.2.2.1.1
  have e6 := es.2.2.2
  have w6 := hw.2.2.2.1
  have r1 := scV_r G (at_ + 1)
  have r2 := scV_r G (at_ + 2)
  have r3 := scV_r G (at_ + 3)
  have r4 := scV_r G (at_ + 4)
  have r5 := scV_r G (at_ + 5)
  have r6 := scV_r G (at_ + 6)
  refine g_aload_n dL_law_598 rfl rfl (g_aload_n dL_law_599 rfl rfl (g_iload_n dL_law_600 rfl rfl (g_iconst dL_law_601 (g_iadd dL_law_602 (g_sld dL_law_603 ⟨by omega, by omega, by omega⟩ (g_aload_n dL_law_604 rfl rfl (g_iload_n dL_law_605 rfl rfl (g_iconst dL_law_606 (g_iadd dL_law_607 (g_sld dL_law_608 ⟨by omega, by omega, by omega⟩ (g_i2l dL_law_609 (by omega) ?_)))))))))))
  refine g_bipush dL_law_610 kb32 (g_lshl dL_law_612 (g_aload_n dL_law_613 rfl rfl (g_iload_n dL_law_614 rfl rfl (g_iconst dL_law_615 (g_iadd dL_law_616 (g_sld dL_law_617 ⟨by omega, by omega, by omega⟩ (g_i2l dL_law_618 (by omega) (c2_L_13 (M := mL_law) rfl dL_law_619 (g_land dL_law_622 (g_lor dL_law_623 (g_aload_n dL_law_624 rfl rfl ?_)))))))))))
  refine g_iload_n dL_law_625 rfl rfl (g_iconst dL_law_626 (g_iadd dL_law_627 (g_sld dL_law_628 ⟨by omega, by omega, by omega⟩ (g_i2l dL_law_629 (by omega) (g_bipush dL_law_630 kb32 (g_lshl dL_law_632 (g_aload_n dL_law_633 rfl rfl (g_iload_n dL_law_634 rfl rfl (g_iconst dL_law_635 (g_iadd dL_law_636 (g_sld dL_law_637 ⟨by omega, by omega, by omega⟩ ?_)))))))))))
  refine g_i2l dL_law_638 (by omega) (c2_L_13 (M := mL_law) rfl dL_law_639 (g_land dL_law_642 (g_lor dL_law_643 ?_)))
  refine cv_L_61 (M := mL_law) rfl dL_law_644 (yo9 hY) hR (Nat.le_of_ble_eq_true rfl) (e_X8_often hY r1 (lOr_r _ _) (lOr_r _ _) hw.F) (kQW fun v644 h644 hq644 => ?_)
  have hi1 : Inv h644 := hi.f hq644.1
  have q151 : ∀ j, h644.I 151 j = h.I 151 j := fun j => by rw [(hq644.1 151 (by omega)).1]
  have hR1 : RF h644 (cFs h 12) := hi.rf.q q151
  have hS1 : RS h644 (cSs h 12) := hi.rs.q q151
  have n1 : h644.I 151 0 = h.I 12 3 := by rw [q151]; exact e0
  have n5 : h644.I 151 71 = h.I 12 5 := by rw [q151]; exact e5
  refine g_aload_n dL_law_647 rfl rfl (g_aload_n dL_law_648 rfl rfl (g_iload_n dL_law_649 rfl rfl (g_iconst dL_law_650 (g_iadd dL_law_651 (g_sld dL_law_652 ⟨by omega, by omega, by omega⟩ (g_aload_n dL_law_653 rfl rfl (g_iload_n dL_law_654 rfl rfl (g_iconst dL_law_655 (g_iadd dL_law_656 (g_sld dL_law_657 ⟨by omega, by omega, by omega⟩ (g_i2l dL_law_658 (by omega) ?_)))))))))))
  refine g_bipush dL_law_659 kb32 (g_lshl dL_law_661 (g_aload_n dL_law_662 rfl rfl (g_iload_n dL_law_663 rfl rfl (g_iconst dL_law_664 (g_iadd dL_law_665 (g_sld dL_law_666 ⟨by omega, by omega, by omega⟩ (g_i2l dL_law_667 (by omega) (c2_L_13 (M := mL_law) rfl dL_law_668 (g_land dL_law_671 (g_lor dL_law_672 (g_aload_n dL_law_673 rfl rfl ?_)))))))))))
  refine g_iload_n dL_law_674 rfl rfl (g_iconst dL_law_675 (g_iadd dL_law_676 (g_sld dL_law_677 ⟨by omega, by omega, by omega⟩ (g_i2l dL_law_678 (by omega) (g_bipush dL_law_679 kb32 (g_lshl dL_law_681 (g_aload_n dL_law_682 rfl rfl (g_iload_n dL_law_683 rfl rfl (g_iconst dL_law_684 (g_iadd dL_law_685 (g_sld dL_law_686 ⟨by omega, by omega, by omega⟩ ?_)))))))))))
  refine g_i2l dL_law_687 (by omega) (c2_L_13 (M := mL_law) rfl dL_law_688 (g_land dL_law_691 (g_lor dL_law_692 ?_)))
  refine cv_L_65 (M := mL_law) rfl dL_law_693 (yo150 hY) hR (Nat.le_of_ble_eq_true rfl) (e_X9_often hY hR1 r1 (lOr_r _ _) (lOr_r _ _)) (kQL fun v693 hq693 => ?_)
  have z2 := hq693
  rw [n1] at z2
  refine g_leqS 2060 dL_law_696 dL_law_697 rfl (by (rcases hq644.2 with ⟨a1, a2⟩ | ⟨a1, a2⟩ <;> rcases z2 with ⟨b1, b2⟩ | ⟨b1, b2⟩ <;> first | exact a2.trans b2.symm | exact absurd b1 a1 | exact absurd a1 b1 | omega)) ?_
  exact kk _ hi1
set_option maxRecDepth 100000 in
set_option maxHeartbeats 1000000 in
theorem lc_turn {G : GX} {R : Room} {Z : ZT} {y : LY} {h : HM} {cs : Nat × Nat} (hY : Lay y) (hi : Inv h) {at_ : Int} (hat : 0 ≤ at_ ∧ at_ + 7 ≤ G.len) (hlen : G.len < 2147483648) (hR : RO R 20 0 0 cs) (kk : ∀ h2, Inv h2 → Go G mL_law R Z y 2060 [some (.ref 8), some (.ref 9), some (.ref 150), some (.int (iZ at_))] [] h2 cs) : Go G mL_law R Z y 1367 [some (.ref 8), some (.ref 9), some (.ref 150), some (.int (iZ at_))] [] h cs := by
  have es := hi.st
  have hw := hi.cw
  have e0 := es.1.1
  have e1 := es.2.1.1
  have e5 := es.2.2.1.1
  have e6 := es.2.2.2
  have w6 := hw.2.2.2.1
  have r1 := scV_r G (at_ + 1)
  have r2 := scV_r G (at_ + 2)
  have r3 := scV_r G (at_ + 3)
  have r4 := scV_r G (at_ + 4)
  have r5 := scV_r G (at_ + 5)
  have r6 := scV_r G (at_ + 6)
  refine g_aload_n dL_law_1367 rfl rfl (g_aload_n dL_law_1368 rfl rfl (g_iload_n dL_law_1369 rfl rfl (g_iconst dL_law_1370 (g_iadd dL_law_1371 (g_sld dL_law_1372 ⟨by omega, by omega, by omega⟩ ?_)))))
  refine cv_L_121 (M := mL_law) rfl dL_law_1373 (yo9 hY) hR (Nat.le_of_ble_eq_true rfl) (e_X8_turn hY r1 hw.F) (kQX fun v1373 h1373 hq1373 => ?_)
  have hi1 : Inv h1373 := hi.t hq1373.1
  have q151 : ∀ j, h1373.I 151 j = h.I 151 j := fun j => by rw [(hq1373.1 151 (by omega)).1]
  have hR1 : RF h1373 (cFs h 12) := hi.rf.q q151
  have hS1 : RS h1373 (cSs h 12) := hi.rs.q q151
  have n1 : h1373.I 151 0 = h.I 12 3 := by rw [q151]; exact e0
  have n5 : h1373.I 151 71 = h.I 12 5 := by rw [q151]; exact e5
  refine g_aload_n dL_law_1376 rfl rfl (g_aload_n dL_law_1377 rfl rfl (g_iload_n dL_law_1378 rfl rfl (g_iconst dL_law_1379 (g_iadd dL_law_1380 (g_sld dL_law_1381 ⟨by omega, by omega, by omega⟩ ?_)))))
  refine cv_L_124 (M := mL_law) rfl dL_law_1382 (yo150 hY) hR (Nat.le_of_ble_eq_true rfl) (e_X9_turn hY hR1 r1) (kQX fun v1382 h1382 hq1382 => ?_)
  have z2 := hq1382.2
  rw [n1] at z2
  refine g_ieqS 2060 dL_law_1385 rfl (by (rcases hq1373.2 with ⟨a1, a2⟩ | ⟨a1, a2⟩ <;> rcases z2 with ⟨b1, b2⟩ | ⟨b1, b2⟩ <;> first | exact a2.trans b2.symm | exact absurd b1 a1 | exact absurd a1 b1 | exact a2.uniq b2)) ?_
  exact kk _ (hi1.c hq1382.1)
set_option maxRecDepth 100000 in
set_option maxHeartbeats 1000000 in
theorem lc_together {G : GX} {R : Room} {Z : ZT} {y : LY} {h : HM} {cs : Nat × Nat} (hY : Lay y) (hi : Inv h) {at_ : Int} (hat : 0 ≤ at_ ∧ at_ + 7 ≤ G.len) (hlen : G.len < 2147483648) (hR : RO R 20 0 0 cs) (kk : ∀ h2, Inv h2 → Go G mL_law R Z y 2060 [some (.ref 8), some (.ref 9), some (.ref 150), some (.int (iZ at_))] [] h2 cs) : Go G mL_law R Z y 702 [some (.ref 8), some (.ref 9), some (.ref 150), some (.int (iZ at_))] [] h cs := by
  have es := hi.st
  have hw := hi.cw
  have e0 := es.1.1
  have e1 := es.2.1.1
  have e5 := es.2.2.1.1
  have e6 := es.2.2.2
  have w6 := hw.2.2.2.1
  have r1 := scV_r G (at_ + 1)
  have r2 := scV_r G (at_ + 2)
  have r3 := scV_r G (at_ + 3)
  have r4 := scV_r G (at_ + 4)
  have r5 := scV_r G (at_ + 5)
  have r6 := scV_r G (at_ + 6)
  refine g_aload_n dL_law_702 rfl rfl (g_aload_n dL_law_703 rfl rfl (g_iload_n dL_law_704 rfl rfl (g_iconst dL_law_705 (g_iadd dL_law_706 (g_sld dL_law_707 ⟨by omega, by omega, by omega⟩ (g_aload_n dL_law_708 rfl rfl (g_iload_n dL_law_709 rfl rfl (g_iconst dL_law_710 (g_iadd dL_law_711 (g_sld dL_law_712 ⟨by omega, by omega, by omega⟩ (g_aload_n dL_law_713 rfl rfl ?_)))))))))))
  refine g_iload_n dL_law_714 rfl rfl (g_iconst dL_law_715 (g_iadd dL_law_716 (g_sld dL_law_717 ⟨by omega, by omega, by omega⟩ (g_i2l dL_law_718 (by omega) (g_bipush dL_law_719 kb32 (g_lshl dL_law_721 (g_aload_n dL_law_722 rfl rfl (g_iload_n dL_law_723 rfl rfl (g_iconst dL_law_724 (g_iadd dL_law_725 (g_sld dL_law_726 ⟨by omega, by omega, by omega⟩ ?_)))))))))))
  refine g_i2l dL_law_727 (by omega) (c2_L_13 (M := mL_law) rfl dL_law_728 (g_land dL_law_731 (g_lor dL_law_732 ?_)))
  refine cv_L_66 (M := mL_law) rfl dL_law_733 (yo9 hY) hR (Nat.le_of_ble_eq_true rfl) (e_X8_together hY r1 r2 (lOr_r _ _) hw.F) (kQW fun v733 h733 hq733 => ?_)
  have hi1 : Inv h733 := hi.f hq733.1
  have q151 : ∀ j, h733.I 151 j = h.I 151 j := fun j => by rw [(hq733.1 151 (by omega)).1]
  have hR1 : RF h733 (cFs h 12) := hi.rf.q q151
  have hS1 : RS h733 (cSs h 12) := hi.rs.q q151
  have n1 : h733.I 151 0 = h.I 12 3 := by rw [q151]; exact e0
  have n5 : h733.I 151 71 = h.I 12 5 := by rw [q151]; exact e5
  refine g_aload_n dL_law_736 rfl rfl (g_aload_n dL_law_737 rfl rfl (g_iload_n dL_law_738 rfl rfl (g_iconst dL_law_739 (g_iadd dL_law_740 (g_sld dL_law_741 ⟨by omega, by omega, by omega⟩ (g_aload_n dL_law_742 rfl rfl (g_iload_n dL_law_743 rfl rfl (g_iconst dL_law_744 (g_iadd dL_law_745 (g_sld dL_law_746 ⟨by omega, by omega, by omega⟩ (g_aload_n dL_law_747 rfl rfl ?_)))))))))))
  refine g_iload_n dL_law_748 rfl rfl (g_iconst dL_law_749 (g_iadd dL_law_750 (g_sld dL_law_751 ⟨by omega, by omega, by omega⟩ (g_i2l dL_law_752 (by omega) (g_bipush dL_law_753 kb32 (g_lshl dL_law_755 (g_aload_n dL_law_756 rfl rfl (g_iload_n dL_law_757 rfl rfl (g_iconst dL_law_758 (g_iadd dL_law_759 (g_sld dL_law_760 ⟨by omega, by omega, by omega⟩ ?_)))))))))))
  refine g_i2l dL_law_761 (by omega) (c2_L_13 (M := mL_law) rfl dL_law_762 (g_land dL_law_765 (g_lor dL_law_766 ?_)))
  refine cv_L_70 (M := mL_law) rfl dL_law_767 (yo150 hY) hR (Nat.le_of_ble_eq_true rfl) (e_X9_together hY hR1 r1 r2 (lOr_r _ _)) (kQW fun v767 h767 hq767 => ?_)
  have z2 := hq767.2
  rw [n1] at z2
  refine g_leqS 2060 dL_law_770 dL_law_771 rfl (by (rcases hq733.2 with ⟨a1, a2⟩ | ⟨a1, a2⟩ <;> rcases z2 with ⟨b1, b2⟩ | ⟨b1, b2⟩ <;> first | exact a2.trans b2.symm | exact absurd b1 a1 | exact absurd a1 b1 | exact EarlP.uniq (by omega) a2 b2)) ?_
  exact kk _ (hi1.j hq767.1)
set_option maxRecDepth 100000 in
set_option maxHeartbeats 1000000 in
theorem lc_meetings {G : GX} {R : Room} {Z : ZT} {y : LY} {h : HM} {cs : Nat × Nat} (hY : Lay y) (hi : Inv h) {at_ : Int} (hat : 0 ≤ at_ ∧ at_ + 7 ≤ G.len) (hlen : G.len < 2147483648) (hR : RO R 20 0 0 cs) (kk : ∀ h2, Inv h2 → Go G mL_law R Z y 2060 [some (.ref 8), some (.ref 9), some (.ref 150), some (.int (iZ at_))] [] h2 cs) : Go G mL_law R Z y 776 [some (.ref 8), some (.ref 9), some (.ref 150), some (.int (iZ at_))] [] h cs := by
  have es := hi.st
  have hw := hi.cw
  have e0 := es.1.1
  have e1 := es.2.1.1
  have e5 := es.2.2.1.1
  have e6 := es.2.2.2
  have w6 := hw.2.2.2.1
  have r1 := scV_r G (at_ + 1)
  have r2 := scV_r G (at_ + 2)
  have r3 := scV_r G (at_ + 3)
  have r4 := scV_r G (at_ + 4)
  have r5 := scV_r G (at_ + 5)
  have r6 := scV_r G (at_ + 6)
  refine g_aload_n dL_law_776 rfl rfl (g_aload_n dL_law_777 rfl rfl (g_iload_n dL_law_778 rfl rfl (g_iconst dL_law_779 (g_iadd dL_law_780 (g_sld dL_law_781 ⟨by omega, by omega, by omega⟩ (g_aload_n dL_law_782 rfl rfl (g_iload_n dL_law_783 rfl rfl (g_iconst dL_law_784 (g_iadd dL_law_785 (g_sld dL_law_786 ⟨by omega, by omega, by omega⟩ (g_aload_n dL_law_787 rfl rfl ?_)))))))))))
  refine g_iload_n dL_law_788 rfl rfl (g_iconst dL_law_789 (g_iadd dL_law_790 (g_sld dL_law_791 ⟨by omega, by omega, by omega⟩ (g_i2l dL_law_792 (by omega) (g_bipush dL_law_793 kb32 (g_lshl dL_law_795 (g_aload_n dL_law_796 rfl rfl (g_iload_n dL_law_797 rfl rfl (g_iconst dL_law_798 (g_iadd dL_law_799 (g_sld dL_law_800 ⟨by omega, by omega, by omega⟩ ?_)))))))))))
  refine g_i2l dL_law_801 (by omega) (c2_L_13 (M := mL_law) rfl dL_law_802 (g_land dL_law_805 (g_lor dL_law_806 (g_aload_n dL_law_807 rfl rfl (g_iload_n dL_law_808 rfl rfl (g_iconst dL_law_809 (g_iadd dL_law_810 (g_sld dL_law_811 ⟨by omega, by omega, by omega⟩ (g_i2l dL_law_812 (by omega) (g_bipush dL_law_813 kb32 (g_lshl dL_law_815 ?_)))))))))))
  refine g_aload_n dL_law_816 rfl rfl (g_iload_n dL_law_817 rfl rfl (g_bipush dL_law_818 kb6 (g_iadd dL_law_820 (g_sld dL_law_821 ⟨by omega, by omega, by omega⟩ (g_i2l dL_law_822 (by omega) (c2_L_13 (M := mL_law) rfl dL_law_823 (g_land dL_law_826 (g_lor dL_law_827 ?_))))))))
  refine cv_L_71 (M := mL_law) rfl dL_law_828 (yo9 hY) hR (Nat.le_of_ble_eq_true rfl) (e_X8_meetings hY r1 r2 (lOr_r _ _) (lOr_r _ _) hw.F) (kQW fun v828 h828 hq828 => ?_)
  have hi1 : Inv h828 := hi.f hq828.1
  have q151 : ∀ j, h828.I 151 j = h.I 151 j := fun j => by rw [(hq828.1 151 (by omega)).1]
  have hR1 : RF h828 (cFs h 12) := hi.rf.q q151
  have hS1 : RS h828 (cSs h 12) := hi.rs.q q151
  have n1 : h828.I 151 0 = h.I 12 3 := by rw [q151]; exact e0
  have n5 : h828.I 151 71 = h.I 12 5 := by rw [q151]; exact e5
  refine g_aload_n dL_law_831 rfl rfl (g_aload_n dL_law_832 rfl rfl (g_iload_n dL_law_833 rfl rfl (g_iconst dL_law_834 (g_iadd dL_law_835 (g_sld dL_law_836 ⟨by omega, by omega, by omega⟩ (g_aload_n dL_law_837 rfl rfl (g_iload_n dL_law_838 rfl rfl (g_iconst dL_law_839 (g_iadd dL_law_840 (g_sld dL_law_841 ⟨by omega, by omega, by omega⟩ (g_aload_n dL_law_842 rfl rfl ?_)))))))))))
  refine g_iload_n dL_law_843 rfl rfl (g_iconst dL_law_844 (g_iadd dL_law_845 (g_sld dL_law_846 ⟨by omega, by omega, by omega⟩ (g_i2l dL_law_847 (by omega) (g_bipush dL_law_848 kb32 (g_lshl dL_law_850 (g_aload_n dL_law_851 rfl rfl (g_iload_n dL_law_852 rfl rfl (g_iconst dL_law_853 (g_iadd dL_law_854 (g_sld dL_law_855 ⟨by omega, by omega, by omega⟩ ?_)))))))))))
  refine g_i2l dL_law_856 (by omega) (c2_L_13 (M := mL_law) rfl dL_law_857 (g_land dL_law_860 (g_lor dL_law_861 (g_aload_n dL_law_862 rfl rfl (g_iload_n dL_law_863 rfl rfl (g_iconst dL_law_864 (g_iadd dL_law_865 (g_sld dL_law_866 ⟨by omega, by omega, by omega⟩ (g_i2l dL_law_867 (by omega) (g_bipush dL_law_868 kb32 (g_lshl dL_law_870 ?_)))))))))))
  refine g_aload_n dL_law_871 rfl rfl (g_iload_n dL_law_872 rfl rfl (g_bipush dL_law_873 kb6 (g_iadd dL_law_875 (g_sld dL_law_876 ⟨by omega, by omega, by omega⟩ (g_i2l dL_law_877 (by omega) (c2_L_13 (M := mL_law) rfl dL_law_878 (g_land dL_law_881 (g_lor dL_law_882 ?_))))))))
  refine cv_L_75 (M := mL_law) rfl dL_law_883 (yo150 hY) hR (Nat.le_of_ble_eq_true rfl) (e_X9_meetings hY hR1 r1 r2 (lOr_r _ _) (lOr_r _ _)) (kQW fun v883 h883 hq883 => ?_)
  have z2 := hq883.2
  rw [n1] at z2
  refine g_leqS 2060 dL_law_886 dL_law_887 rfl (by (rcases hq828.2 with ⟨a1, a2⟩ | ⟨a1, a2⟩ <;> rcases z2 with ⟨b1, b2⟩ | ⟨b1, b2⟩ <;> first | exact a2.trans b2.symm | exact absurd b1 a1 | exact absurd a1 b1 | omega)) ?_
  exact kk _ (hi1.j hq883.1)
set_option maxRecDepth 100000 in
set_option maxHeartbeats 1000000 in
theorem lc_all {G : GX} {R : Room} {Z : ZT} {y : LY} {h : HM} {cs : Nat × Nat} (hY : Lay y) (hi : Inv h) {at_ : Int} (hat : 0 ≤ at_ ∧ at_ + 7 ≤ G.len) (hlen : G.len < 2147483648) (hR : RO R 20 0 0 cs) (kk : ∀ h2, Inv h2 → Go G mL_law R Z y 2060 [some (.ref 8), some (.ref 9), some (.ref 150), some (.int (iZ at_))] [] h2 cs) : Go G mL_law R Z y 892 [some (.ref 8), some (.ref 9), some (.ref 150), some (.int (iZ at_))] [] h cs := by
  have es := hi.st
  have hw := hi.cw
  have e0 := es.1.1
  have e1 := es.2.1.1
  have e5 := es.2.2.1.1
  have e6 := es.2.2.2
  have w6 := hw.2.2.2.1
  have r1 := scV_r G (at_ + 1)
  have r2 := scV_r G (at_ + 2)
  have r3 := scV_r G (at_ + 3)
  have r4 := scV_r G (at_ + 4)
  have r5 := scV_r G (at_ + 5)
  have r6 := scV_r G (at_ + 6)
  refine g_aload_n dL_law_892 rfl rfl (g_aload_n dL_law_893 rfl rfl (g_iload_n dL_law_894 rfl rfl (g_iconst dL_law_895 (g_iadd dL_law_896 (g_sld dL_law_897 ⟨by omega, by omega, by omega⟩ (g_aload_n dL_law_898 rfl rfl (g_iload_n dL_law_899 rfl rfl (g_iconst dL_law_900 (g_iadd dL_law_901 (g_sld dL_law_902 ⟨by omega, by omega, by omega⟩ (g_i2l dL_law_903 (by omega) ?_)))))))))))
  refine g_bipush dL_law_904 kb32 (g_lshl dL_law_906 (g_aload_n dL_law_907 rfl rfl (g_iload_n dL_law_908 rfl rfl (g_iconst dL_law_909 (g_iadd dL_law_910 (g_sld dL_law_911 ⟨by omega, by omega, by omega⟩ (g_i2l dL_law_912 (by omega) (c2_L_13 (M := mL_law) rfl dL_law_913 (g_land dL_law_916 (g_lor dL_law_917 ?_))))))))))
  refine cv_L_76 (M := mL_law) rfl dL_law_918 (yo9 hY) hR (Nat.le_of_ble_eq_true rfl) (e_X8_all hY r1 (lOr_r _ _) hw.F) (kQW fun v918 h918 hq918 => ?_)
  have hi1 : Inv h918 := hi.f hq918.1
  have q151 : ∀ j, h918.I 151 j = h.I 151 j := fun j => by rw [(hq918.1 151 (by omega)).1]
  have hR1 : RF h918 (cFs h 12) := hi.rf.q q151
  have hS1 : RS h918 (cSs h 12) := hi.rs.q q151
  have n1 : h918.I 151 0 = h.I 12 3 := by rw [q151]; exact e0
  have n5 : h918.I 151 71 = h.I 12 5 := by rw [q151]; exact e5
  refine g_aload_n dL_law_921 rfl rfl (g_aload_n dL_law_922 rfl rfl (g_iload_n dL_law_923 rfl rfl (g_iconst dL_law_924 (g_iadd dL_law_925 (g_sld dL_law_926 ⟨by omega, by omega, by omega⟩ (g_aload_n dL_law_927 rfl rfl (g_iload_n dL_law_928 rfl rfl (g_iconst dL_law_929 (g_iadd dL_law_930 (g_sld dL_law_931 ⟨by omega, by omega, by omega⟩ (g_i2l dL_law_932 (by omega) ?_)))))))))))
  refine g_bipush dL_law_933 kb32 (g_lshl dL_law_935 (g_aload_n dL_law_936 rfl rfl (g_iload_n dL_law_937 rfl rfl (g_iconst dL_law_938 (g_iadd dL_law_939 (g_sld dL_law_940 ⟨by omega, by omega, by omega⟩ (g_i2l dL_law_941 (by omega) (c2_L_13 (M := mL_law) rfl dL_law_942 (g_land dL_law_945 (g_lor dL_law_946 ?_))))))))))
  refine cv_L_79 (M := mL_law) rfl dL_law_947 (yo150 hY) hR (Nat.le_of_ble_eq_true rfl) (e_X9_all hY hR1 r1 (lOr_r _ _)) (kQW fun v947 h947 hq947 => ?_)
  have z2 := hq947.2
  rw [n1] at z2
  refine g_leqS 2060 dL_law_950 dL_law_951 rfl (by (rcases hq918.2 with ⟨a1, a2⟩ | ⟨a1, a2⟩ <;> rcases z2 with ⟨b1, b2⟩ | ⟨b1, b2⟩ <;> first | exact a2.trans b2.symm | exact absurd b1 a1 | exact absurd a1 b1 | exact EarlP.uniq a1.2.1 a2 b2)) ?_
  exact kk _ (hi1.j hq947.1)
set_option maxRecDepth 100000 in
set_option maxHeartbeats 1000000 in
theorem lc_cycle {G : GX} {R : Room} {Z : ZT} {y : LY} {h : HM} {cs : Nat × Nat} (hY : Lay y) (hi : Inv h) {at_ : Int} (hat : 0 ≤ at_ ∧ at_ + 7 ≤ G.len) (hlen : G.len < 2147483648) (hR : RO R 20 0 0 cs) (kk : ∀ h2, Inv h2 → Go G mL_law R Z y 2060 [some (.ref 8), some (.ref 9), some (.ref 150), some (.int (iZ at_))] [] h2 cs) : Go G mL_law R Z y 956 [some (.ref 8), some (.ref 9), some (.ref 150), some (.int (iZ at_))] [] h cs := by
  have es := hi.st
  have hw := hi.cw
  have e0 := es.1.1
  have e1 := es.2.1.1
  have e5 := es.2.2.1.1
  have e6 := es.2.2.2
  have w6 := hw.2.2.2.1
  have r1 := scV_r G (at_ + 1)
  have r2 := scV_r G (at_ + 2)
  have r3 := scV_r G (at_ + 3)
  have r4 := scV_r G (at_ + 4)
  have r5 := scV_r G (at_ + 5)
  have r6 := scV_r G (at_ + 6)
  refine g_aload_n dL_law_956 rfl rfl (g_aload_n dL_law_957 rfl rfl (g_iload_n dL_law_958 rfl rfl (g_iconst dL_law_959 (g_iadd dL_law_960 (g_sld dL_law_961 ⟨by omega, by omega, by omega⟩ ?_)))))
  refine cv_L_80 (M := mL_law) rfl dL_law_962 (yo9 hY) hR (Nat.le_of_ble_eq_true rfl) (e_X8_cycle hY r1 hw.F) (kQW fun v962 h962 hq962 => ?_)
  have hi1 : Inv h962 := hi.f hq962.1
  have q151 : ∀ j, h962.I 151 j = h.I 151 j := fun j => by rw [(hq962.1 151 (by omega)).1]
  have hR1 : RF h962 (cFs h 12) := hi.rf.q q151
  have hS1 : RS h962 (cSs h 12) := hi.rs.q q151
  have n1 : h962.I 151 0 = h.I 12 3 := by rw [q151]; exact e0
  have n5 : h962.I 151 71 = h.I 12 5 := by rw [q151]; exact e5
  refine g_aload_n dL_law_965 rfl rfl (g_aload_n dL_law_966 rfl rfl (g_iload_n dL_law_967 rfl rfl (g_iconst dL_law_968 (g_iadd dL_law_969 (g_sld dL_law_970 ⟨by omega, by omega, by omega⟩ ?_)))))
  refine cv_L_84 (M := mL_law) rfl dL_law_971 (yo150 hY) hR (Nat.le_of_ble_eq_true rfl) (e_X9_cycle hY hR1 r1) (kQL fun v971 hq971 => ?_)
  have z2 := hq971
  rw [n1] at z2
  refine g_leqS 2060 dL_law_974 dL_law_975 rfl (by (rcases hq962.2 with ⟨a1, a2⟩ | ⟨a1, a2⟩ <;> rcases z2 with ⟨b1, b2⟩ | ⟨b1, b2⟩ <;> first | exact a2.trans b2.symm | exact absurd b1 a1 | exact absurd a1 b1 | omega)) ?_
  exact kk _ hi1
set_option maxRecDepth 100000 in
set_option maxHeartbeats 1000000 in
theorem lc_first {G : GX} {R : Room} {Z : ZT} {y : LY} {h : HM} {cs : Nat × Nat} (hY : Lay y) (hi : Inv h) {at_ : Int} (hat : 0 ≤ at_ ∧ at_ + 7 ≤ G.len) (hlen : G.len < 2147483648) (hR : RO R 20 0 0 cs) (kk : ∀ h2, Inv h2 → Go G mL_law R Z y 2060 [some (.ref 8), some (.ref 9), some (.ref 150), some (.int (iZ at_))] [] h2 cs) : Go G mL_law R Z y 1003 [some (.ref 8), some (.ref 9), some (.ref 150), some (.int (iZ at_))] [] h cs := by
  have es := hi.st
  have hw := hi.cw
  have e0 := es.1.1
  have e1 := es.2.1.1
  have e5 := es.2.2.1.1
  have e6 := es.2.2.2
  have w6 := hw.2.2.2.1
  have r1 := scV_r G (at_ + 1)
  have r2 := scV_r G (at_ + 2)
  have r3 := scV_r G (at_ + 3)
  have r4 := scV_r G (at_ + 4)
  have r5 := scV_r G (at_ + 5)
  have r6 := scV_r G (at_ + 6)
  refine g_aload_n dL_law_1003 rfl rfl (g_aload_n dL_law_1004 rfl rfl (g_iload_n dL_law_1005 rfl rfl (g_iconst dL_law_1006 (g_iadd dL_law_1007 (g_sld dL_law_1008 ⟨by omega, by omega, by omega⟩ (g_i2l dL_law_1009 (by omega) (g_bipush dL_law_1010 kb32 (g_lshl dL_law_1012 (g_aload_n dL_law_1013 rfl rfl (g_iload_n dL_law_1014 rfl rfl (g_iconst dL_law_1015 ?_)))))))))))
  refine g_iadd dL_law_1016 (g_sld dL_law_1017 ⟨by omega, by omega, by omega⟩ (g_i2l dL_law_1018 (by omega) (c2_L_13 (M := mL_law) rfl dL_law_1019 (g_land dL_law_1022 (g_lor dL_law_1023 (g_aload_n dL_law_1024 rfl rfl (g_iload_n dL_law_1025 rfl rfl (g_iconst dL_law_1026 (g_iadd dL_law_1027 (g_sld dL_law_1028 ⟨by omega, by omega, by omega⟩ ?_))))))))))
  refine cv_L_89 (M := mL_law) rfl dL_law_1029 (yo9 hY) hR (Nat.le_of_ble_eq_true rfl) (e_X8_first hY (lOr_r _ _) r3 hw.F) (kQW fun v1029 h1029 hq1029 => ?_)
  have hi1 : Inv h1029 := hi.f hq1029.1
  have q151 : ∀ j, h1029.I 151 j = h.I 151 j := fun j => by rw [(hq1029.1 151 (by omega)).1]
  have hR1 : RF h1029 (cFs h 12) := hi.rf.q q151
  have hS1 : RS h1029 (cSs h 12) := hi.rs.q q151
  have n1 : h1029.I 151 0 = h.I 12 3 := by rw [q151]; exact e0
  have n5 : h1029.I 151 71 = h.I 12 5 := by rw [q151]; exact e5
  refine g_aload_n dL_law_1032 rfl rfl (g_aload_n dL_law_1033 rfl rfl (g_iload_n dL_law_1034 rfl rfl (g_iconst dL_law_1035 (g_iadd dL_law_1036 (g_sld dL_law_1037 ⟨by omega, by omega, by omega⟩ (g_i2l dL_law_1038 (by omega) (g_bipush dL_law_1039 kb32 (g_lshl dL_law_1041 (g_aload_n dL_law_1042 rfl rfl (g_iload_n dL_law_1043 rfl rfl (g_iconst dL_law_1044 ?_)))))))))))
  refine g_iadd dL_law_1045 (g_sld dL_law_1046 ⟨by omega, by omega, by omega⟩ (g_i2l dL_law_1047 (by omega) (c2_L_13 (M := mL_law) rfl dL_law_1048 (g_land dL_law_1051 (g_lor dL_law_1052 (g_aload_n dL_law_1053 rfl rfl (g_iload_n dL_law_1054 rfl rfl (g_iconst dL_law_1055 (g_iadd dL_law_1056 (g_sld dL_law_1057 ⟨by omega, by omega, by omega⟩ ?_))))))))))
  refine cv_L_93 (M := mL_law) rfl dL_law_1058 (yo150 hY) hR (Nat.le_of_ble_eq_true rfl) (e_X9_first hY hR1 (lOr_r _ _) r3) (kQW fun v1058 h1058 hq1058 => ?_)
  have z2 := hq1058.2
  rw [n1] at z2
  refine g_leqS 2060 dL_law_1061 dL_law_1062 rfl (by (rcases hq1029.2 with ⟨a1, a2⟩ | ⟨a1, a2⟩ <;> rcases z2 with ⟨b1, b2⟩ | ⟨b1, b2⟩ <;> first | exact a2.trans b2.symm | exact absurd b1 a1 | exact absurd a1 b1 | exact a2.uniq b2)) ?_
  exact kk _ (hi1.j hq1058.1)
set_option maxRecDepth 100000 in
set_option maxHeartbeats 1000000 in
theorem lc_cut {G : GX} {R : Room} {Z : ZT} {y : LY} {h : HM} {cs : Nat × Nat} (hY : Lay y) (hi : Inv h) {at_ : Int} (hat : 0 ≤ at_ ∧ at_ + 7 ≤ G.len) (hlen : G.len < 2147483648) (hR : RO R 20 0 0 cs) (kk : ∀ h2, Inv h2 → Go G mL_law R Z y 2060 [some (.ref 8), some (.ref 9), some (.ref 150), some (.int (iZ at_))] [] h2 cs) : Go G mL_law R Z y 1334 [some (.ref 8), some (.ref 9), some (.ref 150), some (.int (iZ at_))] [] h cs := by
  have es := hi.st
  have hw := hi.cw
  have e0 := es.1.1
  have e1 := es.2.1.1
  have e5 := es.2.2.1.1
  have e6 := es.2.2.2
  have w6 := hw.2.2.2.1
  have r1 := scV_r G (at_ + 1)
  have r2 := scV_r G (at_ + 2)
  have r3 := scV_r G (at_ + 3)
  have r4 := scV_r G (at_ + 4)
  have r5 := scV_r G (at_ + 5)
  have r6 := scV_r G (at_ + 6)
  refine g_aload_n dL_law_1334 rfl rfl (g_aload_n dL_law_1335 rfl rfl (g_iload_n dL_law_1336 rfl rfl (g_iconst dL_law_1337 (g_iadd dL_law_1338 (g_sld dL_law_1339 ⟨by omega, by omega, by omega⟩ (g_aload_n dL_law_1340 rfl rfl (g_iload_n dL_law_1341 rfl rfl (g_iconst dL_law_1342 (g_iadd dL_law_1343 (g_sld dL_law_1344 ⟨by omega, by omega, by omega⟩ ?_))))))))))
  refine cv_L_117 (M := mL_law) rfl dL_law_1345 (yo9 hY) hR (Nat.le_of_ble_eq_true rfl) (e_X8_cut hY r1 r2 hw.F) (kQX fun v1345 h1345 hq1345 => ?_)
  have hi1 : Inv h1345 := hi.t hq1345.1
  have q151 : ∀ j, h1345.I 151 j = h.I 151 j := fun j => by rw [(hq1345.1 151 (by omega)).1]
  have hR1 : RF h1345 (cFs h 12) := hi.rf.q q151
  have hS1 : RS h1345 (cSs h 12) := hi.rs.q q151
  have n1 : h1345.I 151 0 = h.I 12 3 := by rw [q151]; exact e0
  have n5 : h1345.I 151 71 = h.I 12 5 := by rw [q151]; exact e5
  refine g_aload_n dL_law_1348 rfl rfl (g_aload_n dL_law_1349 rfl rfl (g_iload_n dL_law_1350 rfl rfl (g_iconst dL_law_1351 (g_iadd dL_law_1352 (g_sld dL_law_1353 ⟨by omega, by omega, by omega⟩ (g_aload_n dL_law_1354 rfl rfl (g_iload_n dL_law_1355 rfl rfl (g_iconst dL_law_1356 (g_iadd dL_law_1357 (g_sld dL_law_1358 ⟨by omega, by omega, by omega⟩ ?_))))))))))
  refine cv_L_120 (M := mL_law) rfl dL_law_1359 (yo150 hY) hR (Nat.le_of_ble_eq_true rfl) (e_X9_cut hY hR1 r1 r2) (kQX fun v1359 h1359 hq1359 => ?_)
  have z2 := hq1359.2
  rw [n1] at z2
  refine g_ieqS 2060 dL_law_1362 rfl (by (rcases hq1345.2 with ⟨a1, a2⟩ | ⟨a1, a2⟩ <;> rcases z2 with ⟨b1, b2⟩ | ⟨b1, b2⟩ <;> first | exact a2.trans b2.symm | exact absurd b1 a1 | exact absurd a1 b1 | exact a2.uniq b2)) ?_
  exact kk _ (hi1.c hq1359.1)
set_option maxRecDepth 100000 in
set_option maxHeartbeats 1000000 in
theorem lc_error {G : GX} {R : Room} {Z : ZT} {y : LY} {h : HM} {cs : Nat × Nat} (hY : Lay y) (hi : Inv h) {at_ : Int} (hat : 0 ≤ at_ ∧ at_ + 7 ≤ G.len) (hlen : G.len < 2147483648) (hR : RO R 20 0 0 cs) (kk : ∀ h2, Inv h2 → Go G mL_law R Z y 2060 [some (.ref 8), some (.ref 9), some (.ref 150), some (.int (iZ at_))] [] h2 cs) : Go G mL_law R Z y 1624 [some (.ref 8), some (.ref 9), some (.ref 150), some (.int (iZ at_))] [] h cs := by
  have es := hi.st
  have hw := hi.cw
  have e0 := es.1.1
  have e1 := es.2.1.1
  have e5 := es.2.2.1.1
  have e6 := es.2.2.2
  have w6 := hw.2.2.2.1
  have r1 := scV_r G (at_ + 1)
  have r2 := scV_r G (at_ + 2)
  have r3 := scV_r G (at_ + 3)
  have r4 := scV_r G (at_ + 4)
  have r5 := scV_r G (at_ + 5)
  have r6 := scV_r G (at_ + 6)
  refine g_aload_n dL_law_1624 rfl rfl (g_aload_n dL_law_1625 rfl rfl (g_iload_n dL_law_1626 rfl rfl (g_iconst dL_law_1627 (g_iadd dL_law_1628 (g_sld dL_law_1629 ⟨by omega, by omega, by omega⟩ ?_)))))
  refine cv_L_151 (M := mL_law) rfl dL_law_1630 (yo9 hY) hR (Nat.le_of_ble_eq_true rfl) (e_X8_error hY r1 hw.S hw.F) (kQX fun v1630 h1630 hq1630 => ?_)
  have hi1 : Inv h1630 := hi.t hq1630.1
  have q151 : ∀ j, h1630.I 151 j = h.I 151 j := fun j => by rw [(hq1630.1 151 (by omega)).1]
  have hR1 : RF h1630 (cFs h 12) := hi.rf.q q151
  have hS1 : RS h1630 (cSs h 12) := hi.rs.q q151
  have n1 : h1630.I 151 0 = h.I 12 3 := by rw [q151]; exact e0
  have n5 : h1630.I 151 71 = h.I 12 5 := by rw [q151]; exact e5
  refine g_aload_n dL_law_1633 rfl rfl (g_aload_n dL_law_1634 rfl rfl (g_iload_n dL_law_1635 rfl rfl (g_iconst dL_law_1636 (g_iadd dL_law_1637 (g_sld dL_law_1638 ⟨by omega, by omega, by omega⟩ ?_)))))
  refine cv_L_154 (M := mL_law) rfl dL_law_1639 (yo150 hY) hR (Nat.le_of_ble_eq_true rfl) (e_X9_error hY hR1 hS1 r1) (kQI fun v1639 hq1639 => ?_)
  have z2 := hq1639
  rw [n1] at z2
  refine g_ieqS 2060 dL_law_1642 rfl (by (rcases hq1630.2 with ⟨a1, a2⟩ | ⟨a1, a2⟩ <;> rcases z2 with ⟨b1, b2⟩ | ⟨b1, b2⟩ <;> first | exact a2.trans b2.symm | exact absurd b1 a1 | exact absurd a1 b1 | (rw [n5] at b2; exact a2.trans b2.symm))) ?_
  exact kk _ hi1
set_option maxRecDepth 100000 in
set_option maxHeartbeats 1000000 in
theorem lc_worn {G : GX} {R : Room} {Z : ZT} {y : LY} {h : HM} {cs : Nat × Nat} (hY : Lay y) (hi : Inv h) {at_ : Int} (hat : 0 ≤ at_ ∧ at_ + 7 ≤ G.len) (hlen : G.len < 2147483648) (hR : RO R 20 0 0 cs) (kk : ∀ h2, Inv h2 → Go G mL_law R Z y 2060 [some (.ref 8), some (.ref 9), some (.ref 150), some (.int (iZ at_))] [] h2 cs) : Go G mL_law R Z y 1680 [some (.ref 8), some (.ref 9), some (.ref 150), some (.int (iZ at_))] [] h cs := by
  have es := hi.st
  have hw := hi.cw
  have e0 := es.1.1
  have e1 := es.2.1.1
  have e5 := es.2.2.1.1
  have e6 := es.2.2.2
  have w6 := hw.2.2.2.1
  have r1 := scV_r G (at_ + 1)
  have r2 := scV_r G (at_ + 2)
  have r3 := scV_r G (at_ + 3)
  have r4 := scV_r G (at_ + 4)
  have r5 := scV_r G (at_ + 5)
  have r6 := scV_r G (at_ + 6)
  refine g_aload_n dL_law_1680 rfl rfl (g_aload_n dL_law_1681 rfl rfl (g_iload_n dL_law_1682 rfl rfl (g_iconst dL_law_1683 (g_iadd dL_law_1684 (g_sld dL_law_1685 ⟨by omega, by omega, by omega⟩ ?_)))))
  refine cv_L_159 (M := mL_law) rfl dL_law_1686 (yo9 hY) hR (Nat.le_of_ble_eq_true rfl) (e_X8_worn hY r1 hw.S hw.F) (kQX fun v1686 h1686 hq1686 => ?_)
  have hi1 : Inv h1686 := hi.t hq1686.1
  have q151 : ∀ j, h1686.I 151 j = h.I 151 j := fun j => by rw [(hq1686.1 151 (by omega)).1]
  have hR1 : RF h1686 (cFs h 12) := hi.rf.q q151
  have hS1 : RS h1686 (cSs h 12) := hi.rs.q q151
  have n1 : h1686.I 151 0 = h.I 12 3 := by rw [q151]; exact e0
  have n5 : h1686.I 151 71 = h.I 12 5 := by rw [q151]; exact e5
  refine g_aload_n dL_law_1689 rfl rfl (g_aload_n dL_law_1690 rfl rfl (g_iload_n dL_law_1691 rfl rfl (g_iconst dL_law_1692 (g_iadd dL_law_1693 (g_sld dL_law_1694 ⟨by omega, by omega, by omega⟩ ?_)))))
  refine cv_L_162 (M := mL_law) rfl dL_law_1695 (yo150 hY) hR (Nat.le_of_ble_eq_true rfl) (e_X9_worn hY hR1 hS1 r1) (kQI fun v1695 hq1695 => ?_)
  have z2 := hq1695
  rw [n1] at z2
  refine g_ieqS 2060 dL_law_1698 rfl (by (rcases hq1686.2 with ⟨a1, a2⟩ | ⟨a1, a2⟩ <;> rcases z2 with ⟨b1, b2⟩ | ⟨b1, b2⟩ <;> first | exact a2.trans b2.symm | exact absurd b1 a1 | exact absurd a1 b1 | (rw [n5] at b2; exact a2.trans b2.symm))) ?_
  exact kk _ hi1
