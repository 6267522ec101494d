theorem RF.q {h h1 : HM} {F : Nat → Fg} (e : ∀ j, h1.I 151 j = h.I 151 j) (r : RF h F) : RF h1 F := by unfold RF RFg at *; simp only [e]; exact r
theorem RV.q {h h1 : HM} {V : Nat → Fg} (e : ∀ j, h1.I 151 j = h.I 151 j) (r : RV h V) : RV h1 V := by unfold RV RVg at *; simp only [e]; exact r
theorem RS.q {h h1 : HM} {S : Nat → Sg} (e : ∀ j, h1.I 151 j = h.I 151 j) (r : RS h S) : RS h1 S := by unfold RS RSg at *; simp only [e]; exact r
theorem Inv.f {h h1 : HM} (hi : Inv h) (f : FrF h h1) : Inv h1 := hi.fr (fun a j q => by unfold Sees at q; rw [(f a (by omega)).1])
theorem Inv.j {h h1 : HM} (hi : Inv h) (f : FrJ h h1) : Inv h1 := hi.fr (fun a j q => f.1 a j (by unfold Sees at q; omega))
theorem Inv.c {h h1 : HM} (hi : Inv h) (f : FrC h h1) : Inv h1 := hi.fr (fun a j q => f.2 a j (by unfold Sees at q; omega))
theorem Inv.t {h h1 : HM} (hi : Inv h) (f : Fr82 h h1) : Inv h1 := hi.fr (fun a j q => by unfold Sees at q; rw [(f a (by omega)).1])
theorem Inv.u {h h1 : HM} (hi : Inv h) (f : Fr85 h h1) : Inv h1 := hi.fr (fun a j q => by unfold Sees at q; rw [(f a (by omega)).1])
set_option maxRecDepth 100000 in
set_option maxHeartbeats 1000000 in
theorem lc_next {G : GX} {R : Room} {Z : ZT} {y : LY} {h : HM} {cs : Nat × Nat} (hY : Lay y) (hi : Inv h) {at_ : Int} (hat : 0 ≤ at_ ∧ at_ + 7 ≤ G.len) (hlen : G.len < 2147483648) (hR : RO R 20 0 0 cs) (kk : ∀ h2, Inv h2 → Go G mL_law R Z y 2060 [some (.ref 8), some (.ref 9), some (.ref 150), some (.int (iZ at_))] [] h2 cs) : Go G mL_law R Z y 470 [some (.ref 8), some (.ref 9), some (.ref 150), some (.int (iZ at_))] [] h cs := by
  have es := hi.st
  have hw := hi.cw
  have e0 := es.1.1
  have e1 := es.2.1.1
  have e5 := es.2.2.1.1
  have e6 := es.2.2.2
  have w6 := hw.2.2.2.1
  have r1 := scV_r G (at_ + 1)
  have r2 := scV_r G (at_ + 2)
  have r3 := scV_r G (at_ + 3)
  have r4 := scV_r G (at_ + 4)
  have r5 := scV_r G (at_ + 5)
  have r6 := scV_r G (at_ + 6)
  refine g_aload_n dL_law_470 rfl rfl (g_aload_n dL_law_471 rfl rfl (g_iload_n dL_law_472 rfl rfl (g_iconst dL_law_473 (g_iadd dL_law_474 (g_sld dL_law_475 ⟨by omega, by omega, by omega⟩ (g_aload_n dL_law_476 rfl rfl (g_iload_n dL_law_477 rfl rfl (g_iconst dL_law_478 (g_iadd dL_law_479 (g_sld dL_law_480 ⟨by omega, by omega, by omega⟩ (g_i2l dL_law_481 (by omega) ?_)))))))))))
  refine g_bipush dL_law_482 kb32 (g_lshl dL_law_484 (g_aload_n dL_law_485 rfl rfl (g_iload_n dL_law_486 rfl rfl (g_iconst dL_law_487 (g_iadd dL_law_488 (g_sld dL_law_489 ⟨by omega, by omega, by omega⟩ (g_i2l dL_law_490 (by omega) (c2_L_13 (M := mL_law) rfl dL_law_491 (g_land dL_law_494 (g_lor dL_law_495 ?_))))))))))
  refine cv_L_52 (M := mL_law) rfl dL_law_496 (yo9 hY) hR (Nat.le_of_ble_eq_true rfl) (e_X8_next hY r1 (lOr_r _ _) hw.F) (kQW fun v496 h496 hq496 => ?_)
  have hi1 : Inv h496 := hi.f hq496.1
  have q151 : ∀ j, h496.I 151 j = h.I 151 j := fun j => by rw [(hq496.1 151 (by omega)).1]
  have hR1 : RF h496 (cFs h 12) := hi.rf.q q151
  have hS1 : RS h496 (cSs h 12) := hi.rs.q q151
  have n1 : h496.I 151 0 = h.I 12 3 := by rw [q151]; exact e0
  have n5 : h496.I 151 71 = h.I 12 5 := by rw [q151]; exact e5
  refine g_aload_n dL_law_499 rfl rfl (g_aload_n dL_law_500 rfl rfl (g_iload_n dL_law_501 rfl rfl (g_iconst dL_law_502 (g_iadd dL_law_503 (g_sld dL_law_504 ⟨by omega, by omega, by omega⟩ (g_aload_n dL_law_505 rfl rfl (g_iload_n dL_law_506 rfl rfl (g_iconst dL_law_507 (g_iadd dL_law_508 (g_sld dL_law_509 ⟨by omega, by omega, by omega⟩ (g_i2l dL_law_510 (by omega) ?_)))))))))))
  refine g_bipush dL_law_511 kb32 (g_lshl dL_law_513 (g_aload_n dL_law_514 rfl rfl (g_iload_n dL_law_515 rfl rfl (g_iconst dL_law_516 (g_iadd dL_law_517 (g_sld dL_law_518 ⟨by omega, by omega, by omega⟩ (g_i2l dL_law_519 (by omega) (c2_L_13 (M := mL_law) rfl dL_law_520 (g_land dL_law_523 (g_lor dL_law_524 ?_))))))))))
  refine cv_L_56 (M := mL_law) rfl dL_law_525 (yo150 hY) hR (Nat.le_of_ble_eq_true rfl) (e_X9_next hY hR1 r1 (lOr_r _ _)) (kQL fun v525 hq525 => ?_)
  have z2 := hq525
  rw [n1] at z2
  refine g_leqS 2060 dL_law_528 dL_law_529 rfl (by (rcases hq496.2 with ⟨a1, a2⟩ | ⟨a1, a2⟩ <;> rcases z2 with ⟨b1, b2⟩ | ⟨b1, b2⟩ <;> first | exact a2.trans b2.symm | exact absurd b1 a1 | exact absurd a1 b1 | exact EarlP.uniq (by omega) a2 b2)) ?_
  exact kk _ hi1
set_option maxRecDepth 100000 in
set_option maxHeartbeats 1000000 in
theorem lc_often {G : GX} {R : Room} {Z : ZT} {y : LY} {h : HM} {cs : Nat × Nat} (hY : Lay y) (hi : Inv h) {at_ : Int} (hat : 0 ≤ at_ ∧ at_ + 7 ≤ G.len) (hlen : G.len < 2147483648) (hR : RO R 20 0 0 cs) (kk : ∀ h2, Inv h2 → Go G mL_law R Z y 2060 [some (.ref 8), some (.ref 9), some (.ref 150), some (.int (iZ at_))] [] h2 cs) : Go G mL_law R Z y 598 [some (.ref 8), some (.ref 9), some (.ref 150), some (.int (iZ at_))] [] h cs := by
  have es := hi.st
  have hw := hi.cw
  have e0 := es.1.1
  have e1 := es.2.1.1
  have e5 := es.2.2.1.1
  have e6 := es.2.2.2
  have w6 := hw.2.2.2.1
  have r1 := scV_r G (at_ + 1)
  have r2 := scV_r G (at_ + 2)
  have r3 := scV_r G (at_ + 3)
  have r4 := scV_r G (at_ + 4)
  have r5 := scV_r G (at_ + 5)
  have r6 := scV_r G (at_ + 6)
  refine g_aload_n dL_law_598 rfl rfl (g_aload_n dL_law_599 rfl rfl (g_iload_n dL_law_600 rfl rfl (g_iconst dL_law_601 (g_iadd dL_law_602 (g_sld dL_law_603 ⟨by omega, by omega, by omega⟩ (g_aload_n dL_law_604 rfl rfl (g_iload_n dL_law_605 rfl rfl (g_iconst dL_law_606 (g_iadd dL_law_607 (g_sld dL_law_608 ⟨by omega, by omega, by omega⟩ (g_i2l dL_law_609 (by omega) ?_)))))))))))
  refine g_bipush dL_law_610 kb32 (g_lshl dL_law_612 (g_aload_n dL_law_613 rfl rfl (g_iload_n dL_law_614 rfl rfl (g_iconst dL_law_615 (g_iadd dL_law_616 (g_sld dL_law_617 ⟨by omega, by omega, by omega⟩ (g_i2l dL_law_618 (by omega) (c2_L_13 (M := mL_law) rfl dL_law_619 (g_land dL_law_622 (g_lor dL_law_623 (g_aload_n dL_law_624 rfl rfl ?_)))))))))))
  refine g_iload_n dL_law_625 rfl rfl (g_iconst dL_law_626 (g_iadd dL_law_627 (g_sld dL_law_628 ⟨by omega, by omega, by omega⟩ (g_i2l dL_law_629 (by omega) (g_bipush dL_law_630 kb32 (g_lshl dL_law_632 (g_aload_n dL_law_633 rfl rfl (g_iload_n dL_law_634 rfl rfl (g_iconst dL_law_635 (g_iadd dL_law_636 (g_sld dL_law_637 ⟨by omega, by omega, by omega⟩ ?_)))))))))))
  refine g_i2l dL_law_638 (by omega) (c2_L_13 (M := mL_law) rfl dL_law_639 (g_land dL_law_642 (g_lor dL_law_643 ?_)))
  refine cv_L_61 (M := mL_law) rfl dL_law_644 (yo9 hY) hR (Nat.le_of_ble_eq_true rfl) (e_X8_often hY r1 (lOr_r _ _) (lOr_r _ _) hw.F) (kQW fun v644 h644 hq644 => ?_)
  have hi1 : Inv h644 := hi.f hq644.1
  have q151 : ∀ j, h644.I 151 j = h.I 151 j := fun j => by rw [(hq644.1 151 (by omega)).1]
  have hR1 : RF h644 (cFs h 12) := hi.rf.q q151
  have hS1 : RS h644 (cSs h 12) := hi.rs.q q151
  have n1 : h644.I 151 0 = h.I 12 3 := by rw [q151]; exact e0
  have n5 : h644.I 151 71 = h.I 12 5 := by rw [q151]; exact e5
  refine g_aload_n dL_law_647 rfl rfl (g_aload_n dL_law_648 rfl rfl (g_iload_n dL_law_649 rfl rfl (g_iconst dL_law_650 (g_iadd dL_law_651 (g_sld dL_law_652 ⟨by omega, by omega, by omega⟩ (g_aload_n dL_law_653 rfl rfl (g_iload_n dL_law_654 rfl rfl (g_iconst dL_law_655 (g_iadd dL_law_656 (g_sld dL_law_657 ⟨by omega, by omega, by omega⟩ (g_i2l dL_law_658 (by omega) ?_)))))))))))
  refine g_bipush dL_law_659 kb32 (g_lshl dL_law_661 (g_aload_n dL_law_662 rfl rfl (g_iload_n dL_law_663 rfl rfl (g_iconst dL_law_664 (g_iadd dL_law_665 (g_sld dL_law_666 ⟨by omega, by omega, by omega⟩ (g_i2l dL_law_667 (by omega) (c2_L_13 (M := mL_law) rfl dL_law_668 (g_land dL_law_671 (g_lor dL_law_672 (g_aload_n dL_law_673 rfl rfl ?_)))))))))))
  refine g_iload_n dL_law_674 rfl rfl (g_iconst dL_law_675 (g_iadd dL_law_676 (g_sld dL_law_677 ⟨by omega, by omega, by omega⟩ (g_i2l dL_law_678 (by omega) (g_bipush dL_law_679 kb32 (g_lshl dL_law_681 (g_aload_n dL_law_682 rfl rfl (g_iload_n dL_law_683 rfl rfl (g_iconst dL_law_684 (g_iadd dL_law_685 (g_sld dL_law_686 ⟨by omega, by omega, by omega⟩ ?_)))))))))))
  refine g_i2l dL_law_687 (by omega) (c2_L_13 (M := mL_law) rfl dL_law_688 (g_land dL_law_691 (g_lor dL_law_692 ?_)))
  refine cv_L_65 (M := mL_law) rfl dL_law_693 (yo150 hY) hR (Nat.le_of_ble_eq_true rfl) (e_X9_often hY hR1 r1 (lOr_r _ _) (lOr_r _ _)) (kQL fun v693 hq693 => ?_)
  have z2 := hq693
  rw [n1] at z2
  refine g_leqS 2060 dL_law_696 dL_law_697 rfl (by (rcases hq644.2 with ⟨a1, a2⟩ | ⟨a1, a2⟩ <;> rcases z2 with ⟨b1, b2⟩ | ⟨b1, b2⟩ <;> first | exact a2.trans b2.symm | exact absurd b1 a1 | exact absurd a1 b1 | omega)) ?_
  exact kk _ hi1
set_option maxRecDepth 100000 in
set_option maxHeartbeats 1000000 in
theorem lc_turn {G : GX} {R : Room} {Z : ZT} {y : LY} {h : HM} {cs : Nat × Nat} (hY : Lay y) (hi : Inv h) {at_ : Int} (hat : 0 ≤ at_ ∧ at_ + 7 ≤ G.len) (hlen : G.len < 2147483648) (hR : RO R 20 0 0 cs) (kk : ∀ h2, Inv h2 → Go G mL_law R Z y 2060 [some (.ref 8), some (.ref 9), some (.ref 150), some (.int (iZ at_))] [] h2 cs) : Go G mL_law R Z y 1367 [some (.ref 8), some (.ref 9), some (.ref 150), some (.int (iZ at_))] [] h cs := by
  have es := hi.st
  have hw := hi.cw
  have e0 := es.1.1
  have e1 := es.2.1.1
  have e5 := es.2.2.1.1
  have e6 := es.2.2.2
  have w6 := hw.2.2.2.1
  have r1 := scV_r G (at_ + 1)
  have r2 := scV_r G (at_ + 2)
  have r3 := scV_r G (at_ + 3)
  have r4 := scV_r G (at_ + 4)
  have r5 := scV_r G (at_ + 5)
  have r6 := scV_r G (at_ + 6)
  refine g_aload_n dL_law_1367 rfl rfl (g_aload_n dL_law_1368 rfl rfl (g_iload_n dL_law_1369 rfl rfl (g_iconst dL_law_1370 (g_iadd dL_law_1371 (g_sld dL_law_1372 ⟨by omega, by omega, by omega⟩ ?_)))))
  refine cv_L_121 (M := mL_law) rfl dL_law_1373 (yo9 hY) hR (Nat.le_of_ble_eq_true rfl) (e_X8_turn hY r1 hw.F) (kQX fun v1373 h1373 hq1373 => ?_)
  have hi1 : Inv h1373 := hi.t hq1373.1
  have q151 : ∀ j, h1373.I 151 j = h.I 151 j := fun j => by rw [(hq1373.1 151 (by omega)).1]
  have hR1 : RF h1373 (cFs h 12) := hi.rf.q q151
  have hS1 : RS h1373 (cSs h 12) := hi.rs.q q151
  have n1 : h1373.I 151 0 = h.I 12 3 := by rw [q151]; exact e0
  have n5 : h1373.I 151 71 = h.I 12 5 := by rw [q151]; exact e5
  refine g_aload_n dL_law_1376 rfl rfl (g_aload_n dL_law_1377 rfl rfl (g_iload_n dL_law_1378 rfl rfl (g_iconst dL_law_1379 (g_iadd dL_law_1380 (g_sld dL_law_1381 ⟨by omega, by omega, by omega⟩ ?_)))))
  refine cv_L_124 (M := mL_law) rfl dL_law_1382 (yo150 hY) hR (Nat.le_of_ble_eq_true rfl) (e_X9_turn hY hR1 r1) (kQX fun v1382 h1382 hq1382 => ?_)
  have z2 := hq1382.2
  rw [n1] at z2
  refine g_ieqS 2060 dL_law_1385 rfl (by (rcases hq1373.2 with ⟨a1, a2⟩ | ⟨a1, a2⟩ <;> rcases z2 with ⟨b1, b2⟩ | ⟨b1, b2⟩ <;> first | exact a2.trans b2.symm | exact absurd b1 a1 | exact absurd a1 b1 | exact a2.uniq b2)) ?_
  exact kk _ (hi1.c hq1382.1)
