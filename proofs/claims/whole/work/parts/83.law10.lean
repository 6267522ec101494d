theorem IvC.sg {h h2 : HM} (hi : Inv h) {S : Nat → Sg} (hS : RS h2 S) (n5 : h2.I 151 71 = h2.I 12 5) (eS : ∀ i : Int, 0 ≤ i → i < h2.I 12 5 → S i.toNat = cSs h2 12 i.toNat) (o : ∀ a j : Nat, (12 ≤ a ∧ a < 28) ∨ a = 151 ∨ (a = 150 ∧ j = 2) → ¬ (a = 12 ∧ j = 5) → ¬ (a = 151 ∧ 71 ≤ j ∧ j < 108) → h2.I a j = h.I a j) : IvC h2 := by
  have hw := hi.cw
  have hs := hi.st
  have m3 := hw.1.1; have m4 := hw.2.1.1
  have x9 := o 12 9 (by omega) (by omega) (by omega)
  have x2 := o 150 2 (by omega) (by omega) (by omega)
  have c3 := o 12 3 (by omega) (by omega) (by omega)
  have c4 := o 12 4 (by omega) (by omega) (by omega)
  have d6 := o 12 6 (by omega) (by omega) (by omega)
  have d7 := o 12 7 (by omega) (by omega) (by omega)
  have d8 := o 12 8 (by omega) (by omega) (by omega)
  refine IvC.re (hi.rf.p (fun j hj => o 151 j (by omega) (by omega) (by omega))) (hi.rv.p (o 151 0 (by omega) (by omega) (by omega)) (fun j hj hk => o 151 j (by omega) (by omega) (by omega))) hS ?_ ?_ n5 ?_ ?_ ?_ ?_ (fun i i0 i1 => ?_) (fun i i0 i1 => ?_) eS
  · rw [o 151 0 (by omega) (by omega) (by omega), c3]; exact hs.1.1
  · rw [o 151 37 (by omega) (by omega) (by omega), c4]; exact hs.2.1.1
  · rw [d6, d7, d8, o 151 68 (by omega) (by omega) (by omega), o 151 69 (by omega) (by omega) (by omega), o 151 70 (by omega) (by omega) (by omega)]; exact hs.2.2.2
  · rw [d6, d7, d8]; exact hw.2.2.2.1
  · rw [x9]; exact hw.2.2.2.2
  · rw [x9, x2]; exact hi.rc
  · rw [c3] at i1
    exact (c5_eq (fun j => o _ j (by omega) (by omega) (by omega))).symm
  · rw [c4] at i1
    exact (c5_eq (fun j => o _ j (by omega) (by omega) (by omega))).symm
theorem as_S {h : HM} {p q e : Int} (h0 : 0 ≤ h.I 12 5) (i : Nat) : cSs (asH h p q e) 12 i = upS (cSs h 12) (h.I 12 5).toNat (p, q, e) i := by
  unfold upS cSs asH wr3
  by_cases z : i = (h.I 12 5).toNat
  · rw [if_pos z, ← z]
    rw [sI_I, if_neg (by omega), sI_I, if_neg (by omega), sI_I, if_neg (by omega), sI_I, if_pos ⟨rfl, rfl⟩]
    rw [sI_I, if_neg (by omega), sI_I, if_neg (by omega), sI_I, if_pos ⟨rfl, rfl⟩]
    rw [sI_I, if_neg (by omega), sI_I, if_pos ⟨rfl, rfl⟩]
  · rw [if_neg z]
    rw [sI_I, if_neg (by omega), sI_I, if_neg (by omega), sI_I, if_neg (by omega), sI_I, if_neg (by omega)]
    rw [sI_I, if_neg (by omega), sI_I, if_neg (by omega), sI_I, if_neg (by omega), sI_I, if_neg (by omega)]
    rw [sI_I, if_neg (by omega), sI_I, if_neg (by omega), sI_I, if_neg (by omega), sI_I, if_neg (by omega)]
theorem as_o {h : HM} {p q e : Int} (h0 : 0 ≤ h.I 12 5 ∧ h.I 12 5 < 12) {a j : Nat} (q1 : ¬ (28 ≤ a ∧ a < 40)) (q2 : ¬ (a = 12 ∧ j = 5)) : (asH h p q e).I a j = h.I a j := by
  unfold asH wr3
  rw [sI_I, if_neg q2, sI_I, if_neg (by omega), sI_I, if_neg (by omega), sI_I, if_neg (by omega)]
theorem Inv.seen {h h2 : HM} (hi : Inv h) {p q e : Int} (h5 : h.I 12 5 < 12) (hS : RS h2 (upS (cSs h 12) (h.I 12 5).toNat (p, q, e))) (hn : h2.I 151 71 = h.I 12 5 + 1) (f : FrR (asH h p q e) h2 71 108) : Inv h2 := by
  have hw := hi.cw
  have m5 := hw.2.2.1.1
  have o : ∀ a j : Nat, ¬ (28 ≤ a ∧ a < 40) → ¬ (a = 12 ∧ j = 5) → ¬ (a = 151 ∧ 71 ≤ j ∧ j < 108) → h2.I a j = h.I a j := fun a j q1 q2 q3 => by
    rw [f.2 a j (by omega)]; exact as_o ⟨m5.1, h5⟩ q1 q2
  have oc : ∀ a j : Nat, a ≠ 151 → h2.I a j = (asH h p q e).I a j := fun a j q => f.2 a j (Or.inl q)
  have c5_ : h2.I 12 5 = h.I 12 5 + 1 := by rw [oc 12 5 (by omega), asH_12, if_pos rfl]
  refine hi.re (IvC.sg hi hS (by rw [hn, c5_]) (fun i i0 i1 => ?_) (fun a j _ q1 q2 => o a j (by omega) q1 q2)) (o 12 9 (by omega) (by omega) (by omega)) (fun a j _ q1 q2 => o a j (by omega) (by omega) (by omega))
  rw [c5_] at i1
  rw [cSs_eq (h1 := h2) (h := asH h p q e) (fun j => oc _ j (by omega)), as_S m5.1]
set_option maxRecDepth 100000 in
set_option maxHeartbeats 1000000 in
theorem lc_see {G : GX} {R : Room} {Z : ZT} {y : LY} {h : HM} {cs : Nat × Nat} (hY : Lay y) (hi : Inv h) {at_ : Int} (hat : 0 ≤ at_ ∧ at_ + 7 ≤ G.len) (hlen : G.len < 2147483648) (hR : RO R 20 0 0 cs) (kk : ∀ h2, Inv h2 → Go G mL_law R Z y 2060 [some (.ref 8), some (.ref 9), some (.ref 150), some (.int (iZ at_))] [] h2 cs) : Go G mL_law R Z y 1542 [some (.ref 8), some (.ref 9), some (.ref 150), some (.int (iZ at_))] [] h cs := by
  have es := hi.st
  have hw := hi.cw
  have e0 := es.1.1
  have e1 := es.2.1.1
  have e5 := es.2.2.1.1
  have e6 := es.2.2.2
  have w6 := hw.2.2.2.1
  have w9 := hw.2.2.2.2
  have er := hi.rc
  have m3 := hw.1.1
  have m5 := hw.2.2.1.1
  have r1 := scV_r G (at_ + 1)
  have r2 := scV_r G (at_ + 2)
  have r3 := scV_r G (at_ + 3)
  have r4 := scV_r G (at_ + 4)
  have r5 := scV_r G (at_ + 5)
  have r6 := scV_r G (at_ + 6)
  refine g_aload_n dL_law_1542 rfl rfl (g_aload_n dL_law_1543 rfl rfl (g_iload_n dL_law_1544 rfl rfl (g_iconst dL_law_1545 (g_iadd dL_law_1546 (g_sld dL_law_1547 ⟨by omega, by omega, by omega⟩ (g_aload_n dL_law_1548 rfl rfl (g_iload_n dL_law_1549 rfl rfl (g_iconst dL_law_1550 (g_iadd dL_law_1551 (g_sld dL_law_1552 ⟨by omega, by omega, by omega⟩ (g_aload_n dL_law_1553 rfl rfl ?_)))))))))))
  refine g_iload_n dL_law_1554 rfl rfl (g_iconst dL_law_1555 (g_iadd dL_law_1556 (g_sld dL_law_1557 ⟨by omega, by omega, by omega⟩ ?_)))
  refine g_if_eq 1565 dL_law_1558 rfl (by omega) (fun c1558 => ?_) (fun c1558 => ?_)
  · skip
    refine g_iconst dL_law_1565 ?_
    refine cv_L_142 (M := mL_law) rfl dL_law_1566 (yo9 hY) hR (Nat.le_of_ble_eq_true rfl) (e_X8_see hY r1 r2 (by omega) m3 m5) (kQX fun v1566 h1566 hq1566 => ?_)
    unfold SeeP at hq1566
    have q151 : ∀ j, h1566.I 151 j = h.I 151 j := fun j => (by have m5 := hw.2.2.1.1; rcases hq1566 with ⟨_, _, z⟩ | ⟨_, ⟨_, _, z⟩ | ⟨x1, _, z⟩⟩; (rw [z]); (rw [z]); (rw [z]; exact as_o ⟨m5.1, x1⟩ (by omega) (by omega)))
    have hR1 : RF h1566 (cFs h 12) := hi.rf.q q151
    have hS1 : RS h1566 (cSs h 12) := hi.rs.q q151
    have n1 : h1566.I 151 0 = h.I 12 3 := by rw [q151]; exact e0
    have n5 : h1566.I 151 71 = h.I 12 5 := by rw [q151]; exact e5
    refine g_aload_n dL_law_1569 rfl rfl (g_aload_n dL_law_1570 rfl rfl (g_iload_n dL_law_1571 rfl rfl (g_iconst dL_law_1572 (g_iadd dL_law_1573 (g_sld dL_law_1574 ⟨by omega, by omega, by omega⟩ (g_aload_n dL_law_1575 rfl rfl (g_iload_n dL_law_1576 rfl rfl (g_iconst dL_law_1577 (g_iadd dL_law_1578 (g_sld dL_law_1579 ⟨by omega, by omega, by omega⟩ (g_aload_n dL_law_1580 rfl rfl ?_)))))))))))
    refine g_iload_n dL_law_1581 rfl rfl (g_iconst dL_law_1582 (g_iadd dL_law_1583 (g_sld dL_law_1584 ⟨by omega, by omega, by omega⟩ ?_)))
    refine g_if_eq 1592 dL_law_1585 rfl (by omega) (fun c1585 => ?_) (fun c1585 => ?_)
    · skip
      refine g_iconst dL_law_1592 ?_
      refine cv_L_146 (M := mL_law) rfl dL_law_1593 (yo150 hY) hR (Nat.le_of_ble_eq_true rfl) (e_X9_see hY hR1 hS1 r1 r2 (by omega)) (kQX fun v1593 h1593 hq1593 => ?_)
      have z2 := hq1593
      rw [n1, n5] at z2
      have hx : v1566 = v1593 ∧ Inv h1593 := (by first | (exfalso; clear hq1566 hq1593 z2; omega) | (rcases hq1566 with ⟨a1, a2, a3⟩ | ⟨a1, ⟨a4, a2, a3⟩ | ⟨a4, a2, a3⟩⟩ <;> rcases z2 with ⟨b1, b2, b3⟩ | ⟨b1, ⟨b4, b2, b3⟩ | ⟨b4, b2, b3, b5, b6⟩⟩ <;> first | exact absurd b1 a1 | exact absurd a1 b1 | (exfalso; clear b1 a1; omega) | exact ⟨a2.trans b2.symm, by rw [b3, a3]; exact hi⟩ | (rw [a3] at b6; exact ⟨a2.trans b2.symm, hi.seen a4 b3 b5 b6⟩)))
      refine g_ieqS 2060 dL_law_1596 rfl hx.1 ?_
      exact kk _ hx.2
    · skip
      refine g_iconst dL_law_1588 (g_goto 1593 dL_law_1589 rfl ?_)
      refine cv_L_146 (M := mL_law) rfl dL_law_1593 (yo150 hY) hR (Nat.le_of_ble_eq_true rfl) (e_X9_see hY hR1 hS1 r1 r2 (by omega)) (kQX fun v1593 h1593 hq1593 => ?_)
      have z2 := hq1593
      rw [n1, n5] at z2
      have hx : v1566 = v1593 ∧ Inv h1593 := (by first | (exfalso; clear hq1566 hq1593 z2; omega) | (rcases hq1566 with ⟨a1, a2, a3⟩ | ⟨a1, ⟨a4, a2, a3⟩ | ⟨a4, a2, a3⟩⟩ <;> rcases z2 with ⟨b1, b2, b3⟩ | ⟨b1, ⟨b4, b2, b3⟩ | ⟨b4, b2, b3, b5, b6⟩⟩ <;> first | exact absurd b1 a1 | exact absurd a1 b1 | (exfalso; clear b1 a1; omega) | exact ⟨a2.trans b2.symm, by rw [b3, a3]; exact hi⟩ | (rw [a3] at b6; exact ⟨a2.trans b2.symm, hi.seen a4 b3 b5 b6⟩)))
      refine g_ieqS 2060 dL_law_1596 rfl hx.1 ?_
      exact kk _ hx.2
  · skip
    refine g_iconst dL_law_1561 (g_goto 1566 dL_law_1562 rfl ?_)
    refine cv_L_142 (M := mL_law) rfl dL_law_1566 (yo9 hY) hR (Nat.le_of_ble_eq_true rfl) (e_X8_see hY r1 r2 (by omega) m3 m5) (kQX fun v1566 h1566 hq1566 => ?_)
    unfold SeeP at hq1566
    have q151 : ∀ j, h1566.I 151 j = h.I 151 j := fun j => (by have m5 := hw.2.2.1.1; rcases hq1566 with ⟨_, _, z⟩ | ⟨_, ⟨_, _, z⟩ | ⟨x1, _, z⟩⟩; (rw [z]); (rw [z]); (rw [z]; exact as_o ⟨m5.1, x1⟩ (by omega) (by omega)))
    have hR1 : RF h1566 (cFs h 12) := hi.rf.q q151
    have hS1 : RS h1566 (cSs h 12) := hi.rs.q q151
    have n1 : h1566.I 151 0 = h.I 12 3 := by rw [q151]; exact e0
    have n5 : h1566.I 151 71 = h.I 12 5 := by rw [q151]; exact e5
    refine g_aload_n dL_law_1569 rfl rfl (g_aload_n dL_law_1570 rfl rfl (g_iload_n dL_law_1571 rfl rfl (g_iconst dL_law_1572 (g_iadd dL_law_1573 (g_sld dL_law_1574 ⟨by omega, by omega, by omega⟩ (g_aload_n dL_law_1575 rfl rfl (g_iload_n dL_law_1576 rfl rfl (g_iconst dL_law_1577 (g_iadd dL_law_1578 (g_sld dL_law_1579 ⟨by omega, by omega, by omega⟩ (g_aload_n dL_law_1580 rfl rfl ?_)))))))))))
    refine g_iload_n dL_law_1581 rfl rfl (g_iconst dL_law_1582 (g_iadd dL_law_1583 (g_sld dL_law_1584 ⟨by omega, by omega, by omega⟩ ?_)))
    refine g_if_eq 1592 dL_law_1585 rfl (by omega) (fun c1585 => ?_) (fun c1585 => ?_)
    · skip
      refine g_iconst dL_law_1592 ?_
      refine cv_L_146 (M := mL_law) rfl dL_law_1593 (yo150 hY) hR (Nat.le_of_ble_eq_true rfl) (e_X9_see hY hR1 hS1 r1 r2 (by omega)) (kQX fun v1593 h1593 hq1593 => ?_)
      have z2 := hq1593
      rw [n1, n5] at z2
      have hx : v1566 = v1593 ∧ Inv h1593 := (by first | (exfalso; clear hq1566 hq1593 z2; omega) | (rcases hq1566 with ⟨a1, a2, a3⟩ | ⟨a1, ⟨a4, a2, a3⟩ | ⟨a4, a2, a3⟩⟩ <;> rcases z2 with ⟨b1, b2, b3⟩ | ⟨b1, ⟨b4, b2, b3⟩ | ⟨b4, b2, b3, b5, b6⟩⟩ <;> first | exact absurd b1 a1 | exact absurd a1 b1 | (exfalso; clear b1 a1; omega) | exact ⟨a2.trans b2.symm, by rw [b3, a3]; exact hi⟩ | (rw [a3] at b6; exact ⟨a2.trans b2.symm, hi.seen a4 b3 b5 b6⟩)))
      refine g_ieqS 2060 dL_law_1596 rfl hx.1 ?_
      exact kk _ hx.2
    · skip
      refine g_iconst dL_law_1588 (g_goto 1593 dL_law_1589 rfl ?_)
      refine cv_L_146 (M := mL_law) rfl dL_law_1593 (yo150 hY) hR (Nat.le_of_ble_eq_true rfl) (e_X9_see hY hR1 hS1 r1 r2 (by omega)) (kQX fun v1593 h1593 hq1593 => ?_)
      have z2 := hq1593
      rw [n1, n5] at z2
      have hx : v1566 = v1593 ∧ Inv h1593 := (by first | (exfalso; clear hq1566 hq1593 z2; omega) | (rcases hq1566 with ⟨a1, a2, a3⟩ | ⟨a1, ⟨a4, a2, a3⟩ | ⟨a4, a2, a3⟩⟩ <;> rcases z2 with ⟨b1, b2, b3⟩ | ⟨b1, ⟨b4, b2, b3⟩ | ⟨b4, b2, b3, b5, b6⟩⟩ <;> first | exact absurd b1 a1 | exact absurd a1 b1 | (exfalso; clear b1 a1; omega) | exact ⟨a2.trans b2.symm, by rw [b3, a3]; exact hi⟩ | (rw [a3] at b6; exact ⟨a2.trans b2.symm, hi.seen a4 b3 b5 b6⟩)))
      refine g_ieqS 2060 dL_law_1596 rfl hx.1 ?_
      exact kk _ hx.2
theorem rd_S (h : HM) (a : Int) (r : Nat) (h0 : 0 ≤ h.I 12 5) : ∀ i : Nat, ∀ j : Nat, cSs (rdH h r a i) 12 j = rdSs (cSs h 12) (h.I 12 5) (h.I r) a i j
  | 0, _ => rfl
  | i + 1, j => by
    show cSs (asH (rdH h r a i) (h.I r (a + 3 * i).toNat) (h.I r (a + 3 * i + 1).toNat) (h.I r (a + 3 * i + 2).toNat)) 12 j = upS (rdSs (cSs h 12) (h.I 12 5) (h.I r) a i) (h.I 12 5 + i).toNat (h.I r (a + 3 * i).toNat, h.I r (a + 3 * i + 1).toNat, h.I r (a + 3 * i + 2).toNat) j
    rw [as_S (by rw [rdH_5]; omega), rdH_5]
    unfold upS
    rw [rd_S h a r h0 i j]
/-- what reading leaves in both halves -/
theorem Inv.rdn {h h2 : HM} (hi : Inv h) {n5 t : Int} {S : Nat → Sg} (ht : 0 ≤ t ∧ t ≤ 3) (hS : RS h2 S) (hn : h2.I 151 71 = n5) (c5_ : h2.I 12 5 = n5) (eS : ∀ i : Int, 0 ≤ i → i < n5 → S i.toNat = cSs h2 12 i.toNat) (t9 : h2.I 9 12 = t) (t2 : h2.I 150 26 = t) (o : ∀ a j : Nat, ¬ (28 ≤ a ∧ a < 40) → ¬ (a = 12 ∧ j = 5) → ¬ (a = 151 ∧ 71 ≤ j ∧ j < 108) → ¬ (a = 9 ∧ j = 12) → ¬ (a = 150 ∧ j = 26) → h2.I a j = h.I a j) : Inv h2 := by
  have x9 := o 12 9 (by omega) (by omega) (by omega) (by omega) (by omega)
  refine Inv.of (IvC.sg hi hS (by rw [hn, c5_]) (fun i i0 i1 => eS i i0 (by rw [c5_] at i1; exact i1)) (fun a j _ q1 q2 => o a j (by omega) q1 q2 (by omega) (by omega))) (hi.vK.fr (fun a j q => ?_)) (hi.vS.fr (fun a j q => o a j (by omega) (by omega) (by omega) (by omega) (by omega))) (hi.vT.fr (fun a j q => o a j (by omega) (by omega) (by omega) (by omega) (by omega))) ⟨?_, ?_⟩
  · exact o a j (by omega) (by omega) (by omega) (by omega) (by omega)
  · rw [o 150 14 (by omega) (by omega) (by omega) (by omega) (by omega), o 9 11 (by omega) (by omega) (by omega) (by omega) (by omega)]; exact hi.fa
  · rw [t9, t2]; exact ⟨rfl, ht⟩
theorem rd_lo {S : Nat → Sg} {ns : Int} {R : Nat → Int} {a : Int} (h0 : 0 ≤ ns) {j : Nat} (hj : (j : Int) < ns) : ∀ i : Nat, rdSs S ns R a i j = S j
  | 0 => rfl
  | i + 1 => by
    show upS (rdSs S ns R a i) (ns + i).toNat (R (a + 3 * i).toNat, R (a + 3 * i + 1).toNat, R (a + 3 * i + 2).toNat) j = S j
    unfold upS
    rw [if_neg (by omega)]; exact rd_lo h0 hj i
theorem rd_bd {nf ns L C l f n : Int} {R : Nat → Int} {i : Nat} (h0 : ns ≤ 12) (q : RdQ nf ns L C l f n R i) : ns + i ≤ 12 := by
  rcases i with _ | i
  · omega
  · have := (q.1 i (by omega)).2.2.2.2
    omega
def rdC (h : HM) (r : Nat) (L C l f n : Int) (i : Nat) : HM := (if (i : Int) = n then (rdH h r f i).sI 9 12 0 else if fltS L C l (f + 3 * i) 3 ≠ 0 then (rdH h r f i).sI 9 12 (fltS L C l (f + 3 * i) 3) else (rdH h r f i).sI 12 5 (h.I 12 5))
theorem rdH_o {h : HM} {r : Nat} {f : Int} {i : Nat} (h0 : 0 ≤ h.I 12 5) (hb : h.I 12 5 + i ≤ 12) {a j : Nat} (q1 : ¬ (28 ≤ a ∧ a < 40)) (q2 : ¬ (a = 12 ∧ j = 5)) : (rdH h r f i).I a j = h.I a j := by
  by_cases z : a = 12
  · rw [z]; exact rdH_3 h r f j (by omega) i
  · exact rdH_I h r f h0 (by omega) j i hb
theorem rdC_o {h : HM} {r : Nat} {L C l f n : Int} {i : Nat} (h0 : 0 ≤ h.I 12 5) (hb : h.I 12 5 + i ≤ 12) {a j : Nat} (q1 : ¬ (28 ≤ a ∧ a < 40)) (q2 : ¬ (a = 12 ∧ j = 5)) (q3 : ¬ (a = 9 ∧ j = 12)) : (rdC h r L C l f n i).I a j = h.I a j := by
  unfold rdC
  split
  · rw [sI_I, if_neg q3]; exact rdH_o h0 hb q1 q2
  · split
    · rw [sI_I, if_neg q3]; exact rdH_o h0 hb q1 q2
    · rw [sI_I, if_neg q2]; exact rdH_o h0 hb q1 q2
theorem Inv.rdd {h h2 : HM} (hi : Inv h) {L C l f n : Int} {r i : Nat} (hb : h.I 12 5 + i ≤ 12) (b : RdE (rdC h r L C l f n i) h2 (cSs h 12) L C l f n (h.I r) i) : Inv h2 := by
  have hw := hi.cw
  have m5 := hw.2.2.1.1
  have e5 := hi.st.2.2.1.1
  have co := fun (a j : Nat) (q1 : ¬ (28 ≤ a ∧ a < 40)) (q2 : ¬ (a = 12 ∧ j = 5)) (q3 : ¬ (a = 9 ∧ j = 12)) => rdC_o (r := r) (L := L) (C := C) (l := l) (f := f) (n := n) (i := i) m5.1 hb q1 q2 q3
  have n71 : (rdC h r L C l f n i).I 151 71 = h.I 12 5 := by rw [co 151 71 (by omega) (by omega) (by omega)]; exact e5
  have n26 : (rdC h r L C l f n i).I 150 26 = h.I 9 12 := by rw [co 150 26 (by omega) (by omega) (by omega)]; exact hi.to.1
  obtain ⟨_, bo, bc⟩ := b
  rw [n71, n26] at bc
  have oc : ∀ a j : Nat, a ≠ 151 → a ≠ 150 → h2.I a j = (rdC h r L C l f n i).I a j := fun a j q1 q2 => bo a j (Or.inl q1) (Or.inl q2)
  have o : ∀ a j : Nat, ¬ (28 ≤ a ∧ a < 40) → ¬ (a = 12 ∧ j = 5) → ¬ (a = 151 ∧ 71 ≤ j ∧ j < 108) → ¬ (a = 9 ∧ j = 12) → ¬ (a = 150 ∧ j = 26) → h2.I a j = h.I a j := fun a j q1 q2 q3 q4 q5 => by
    rw [bo a j (by omega) (by omega)]; exact co a j q1 q2 q4
  have fl := fltS_c L C l (f + 3 * i) 3
  rcases bc with ⟨b1, b2, b3, b4⟩ | ⟨b1, b5, b2, b3, b4⟩ | ⟨b1, b5, b2, b3, b4⟩
  · have e : rdC h r L C l f n i = (rdH h r f i).sI 9 12 0 := by unfold rdC; rw [if_pos b1]
    rw [e] at oc
    refine hi.rdn (n5 := h.I 12 5 + i) (t := 0) (by omega) b2 b3 ?_ (fun j j0 j1 => ?_) ?_ b4 o
    · rw [oc 12 5 (by omega) (by omega), sI_I, if_neg (by omega)]; exact rdH_5 h r f i
    · rw [cSs_eq (h1 := h2) (h := rdH h r f i) (fun k => by rw [oc _ k (by omega) (by omega), sI_I, if_neg (by omega)]), rd_S h f r m5.1]
    · rw [oc 9 12 (by omega) (by omega), sI_I, if_pos ⟨rfl, rfl⟩]
  · have e : rdC h r L C l f n i = (rdH h r f i).sI 9 12 (fltS L C l (f + 3 * i) 3) := by unfold rdC; rw [if_neg b1, if_pos b5]
    rw [e] at oc
    refine hi.rdn (n5 := h.I 12 5 + i) (t := fltS L C l (f + 3 * i) 3) fl.1 b2 b3 ?_ (fun j j0 j1 => ?_) ?_ b4 o
    · rw [oc 12 5 (by omega) (by omega), sI_I, if_neg (by omega)]; exact rdH_5 h r f i
    · rw [cSs_eq (h1 := h2) (h := rdH h r f i) (fun k => by rw [oc _ k (by omega) (by omega), sI_I, if_neg (by omega)]), rd_S h f r m5.1]
    · rw [oc 9 12 (by omega) (by omega), sI_I, if_pos ⟨rfl, rfl⟩]
  · have e : rdC h r L C l f n i = (rdH h r f i).sI 12 5 (h.I 12 5) := by unfold rdC; rw [if_neg b1, if_neg (fun q => q b5)]
    rw [e] at oc
    refine hi.rdn (n5 := h.I 12 5) (t := h.I 9 12) hi.to.2 b2 b3 ?_ (fun j j0 j1 => ?_) ?_ b4 o
    · rw [oc 12 5 (by omega) (by omega), sI_I, if_pos ⟨rfl, rfl⟩]
    · rw [cSs_eq (h1 := h2) (h := rdH h r f i) (fun k => by rw [oc _ k (by omega) (by omega), sI_I, if_neg (by omega)]), rd_S h f r m5.1, rd_lo m5.1 (by omega)]
    · rw [oc 9 12 (by omega) (by omega), sI_I, if_neg (by omega)]; exact rdH_o m5.1 hb (by omega) (by omega)
set_option maxRecDepth 100000 in
set_option maxHeartbeats 1000000 in
theorem e_X8_read2 {G : GX} {y : LY} {h : HM} {d : Nat} (hY : Lay y) {k l f n : Int} (hk : R32 k) (hl : R32 l) (hf : R32 f) (hn : R32 n) (hL : 0 ≤ k → k < 4 → R32 (h.I (142 + 2 * k.toNat) 1) ∧ R32 (h.I (142 + 2 * k.toNat) 2) ∧ h.I (142 + 2 * k.toNat) 2 ≤ 40) (hcl : 0 ≤ k → k < 4 → ∀ j, j < 40 → R32 (h.I (143 + 2 * k.toNat) j)) (hnf : 0 ≤ h.I 12 3 ∧ h.I 12 3 ≤ 6) (hns : 0 ≤ h.I 12 5 ∧ h.I 12 5 ≤ 12) : EvQX G mX8_read (d + 3) [.ref 9, .int (iZ k), .int (iZ l), .int (iZ f), .int (iZ n)] y h (fun v h1 => (¬ ((0 ≤ k ∧ k < 4) ∧ (0 ≤ l ∧ l ≤ 2) ∧ (0 ≤ n ∧ n ≤ 12)) ∧ v = -1 ∧ h1 = h) ∨ (((0 ≤ k ∧ k < 4) ∧ (0 ≤ l ∧ l ≤ 2) ∧ (0 ≤ n ∧ n ≤ 12)) ∧ ∃ i : Nat, RdQ (h.I 12 3) (h.I 12 5) (h.I (142 + 2 * k.toNat) 1) (h.I (142 + 2 * k.toNat) 2) l f n (h.I (143 + 2 * k.toNat)) i ∧ v = rdV (h.I (142 + 2 * k.toNat) 1) (h.I (142 + 2 * k.toNat) 2) l f n i ∧ h1 = (if (i : Int) = n then (rdH h (143 + 2 * k.toNat) f i).sI 9 12 0 else if fltS (h.I (142 + 2 * k.toNat) 1) (h.I (142 + 2 * k.toNat) 2) l (f + 3 * i) 3 ≠ 0 then (rdH h (143 + 2 * k.toNat) f i).sI 9 12 (fltS (h.I (142 + 2 * k.toNat) 1) (h.I (142 + 2 * k.toNat) 2) l (f + 3 * i) 3) else (rdH h (143 + 2 * k.toNat) f i).sI 12 5 (h.I 12 5)))) := by
  have hzk := pI_01 (0 ≤ k ∧ k < 4)
  have hyk := pI_eq1 (P := 0 ≤ k ∧ k < 4)
  have hzl := pI_01 (0 ≤ l ∧ l ≤ 2)
  have hyl := pI_eq1 (P := 0 ≤ l ∧ l ≤ 2)
  refine Ev.of rfl [some (.ref 9), some (.int (iZ k)), some (.int (iZ l)), some (.int (iZ f)), some (.int (iZ n)), none, none, none, none, none, none] rfl (Nat.le_of_ble_eq_true rfl) ?_
  have L48 : ∀ (m : Nat) (i : Nat), (m : Int) = n - i → (i : Int) ≤ n → (0 ≤ k ∧ k < 4) ∧ (0 ≤ l ∧ l ≤ 2) ∧ (0 ≤ n ∧ n ≤ 12) → (∀ j, j < i → OkR (h.I 12 3) (h.I 12 5) (h.I (142 + 2 * k.toNat) 1) (h.I (142 + 2 * k.toNat) 2) l f (h.I (143 + 2 * k.toNat)) j) → Go G mX8_read (rmo (d + 3) 0 0) (ZM G y 0 0 (fun r h1 => ∃ v_ : Int, r = some (.int (iZ v_)) ∧ (fun v h1 => (¬ ((0 ≤ k ∧ k < 4) ∧ (0 ≤ l ∧ l ≤ 2) ∧ (0 ≤ n ∧ n ≤ 12)) ∧ v = -1 ∧ h1 = h) ∨ (((0 ≤ k ∧ k < 4) ∧ (0 ≤ l ∧ l ≤ 2) ∧ (0 ≤ n ∧ n ≤ 12)) ∧ ∃ i : Nat, RdQ (h.I 12 3) (h.I 12 5) (h.I (142 + 2 * k.toNat) 1) (h.I (142 + 2 * k.toNat) 2) l f n (h.I (143 + 2 * k.toNat)) i ∧ v = rdV (h.I (142 + 2 * k.toNat) 1) (h.I (142 + 2 * k.toNat) 2) l f n i ∧ h1 = (if (i : Int) = n then (rdH h (143 + 2 * k.toNat) f i).sI 9 12 0 else if fltS (h.I (142 + 2 * k.toNat) 1) (h.I (142 + 2 * k.toNat) 2) l (f + 3 * i) 3 ≠ 0 then (rdH h (143 + 2 * k.toNat) f i).sI 9 12 (fltS (h.I (142 + 2 * k.toNat) 1) (h.I (142 + 2 * k.toNat) 2) l (f + 3 * i) 3) else (rdH h (143 + 2 * k.toNat) f i).sI 12 5 (h.I 12 5)))) v_ h1)) y 48 [some (.ref 9), some (.int (iZ k)), some (.int (iZ l)), some (.int (iZ f)), some (.int (iZ n)), some (.ref (142 + 2 * k.toNat)), some (.int (iZ (h.I 12 5))), some (.int (iZ i)), none, none, none] [] (rdH h (143 + 2 * k.toNat) f i) (0, 0) := by
    intro m
    induction m using Nat.strongRecOn with | _ m ih =>
    intro i hm hin hok hall
    have hk4 : 0 ≤ k ∧ k < 4 := hok.1
    have hLk := hL hk4.1 hk4.2
    have h12 := rd_12 hns.2 hall
    have eR := fun j => rdH_I h (143 + 2 * k.toNat) f hns.1 (b := (143 + 2 * k.toNat)) (by omega) j i h12
    have eS := fun j => rdH_I h (143 + 2 * k.toNat) f hns.1 (b := (142 + 2 * k.toNat)) (by omega) j i h12
    have e5 := rdH_5 h (143 + 2 * k.toNat) f i
    have e3 := rdH_3 h (143 + 2 * k.toNat) f 3 (by decide) i
    have hfb := fltS_c (h.I (142 + 2 * k.toNat) 1) (h.I (142 + 2 * k.toNat) 2) l (f + 3 * i) 3
    have es1 := eS 1
    have es2 := eS 2
    refine g_iload dX8_read_48 rfl (g_iload dX8_read_50 rfl ?_)
    refine g_icmp_ge 125 dX8_read_52 rfl (by omega) (by omega) (fun c52 => ?_) (fun c52 => ?_)
    · skip
      refine g_aload_n dX8_read_125 rfl rfl (g_iconst dX8_read_126 (pf_X8_68 (M := mX8_read) rfl dX8_read_127 (yo9 hY) (g_iload dX8_read_130 rfl ?_)))
      exact g_iret dX8_read_132 rfl rfl ⟨Nat.le_refl _, Nat.le_refl _⟩ (by exact ⟨_, rfl, Or.inr ⟨hok, i, ⟨hall, by omega, Or.inl (by omega)⟩, by rw [rdV, if_pos (by omega)], by rw [if_pos (by omega)]⟩⟩)
    · skip
      refine g_iload_n dX8_read_55 rfl rfl (g_i2l dX8_read_56 (by omega) (c2_X8_319 (M := mX8_read) rfl dX8_read_57 (g_iload dX8_read_60 rfl (g_i2l dX8_read_62 (by omega) (g_lmul dX8_read_63 (g_ladd dX8_read_64 (g_lst8 dX8_read_65 (by decide) rfl (g_aload dX8_read_67 rfl (g_iload_n dX8_read_69 rfl rfl (g_lload dX8_read_70 rfl (g_iconst dX8_read_72 ?_)))))))))))
      refine cv_X8_312 (M := mX8_read) rfl dX8_read_73 (sh_o hY hk4) (RO.same _ _ _) (Nat.le_of_ble_eq_true rfl) (e_X4_faultOf hY hk4 (by omega) (by omega) (by omega) (by omega) (by omega)) <| kI ?_
      rw [eS, eS]
      refine g_ist10 dX8_read_76 (by decide) rfl (g_iload dX8_read_78 rfl ?_)
      refine g_if_eq 92 dX8_read_80 rfl (by omega) (fun c80 => ?_) (fun c80 => ?_)
      · skip
        have hfl0 : fltS (h.I (142 + 2 * k.toNat) 1) (h.I (142 + 2 * k.toNat) 2) l (f + 3 * i) 3 = 0 := (by omega)
        have hr0 := eR (f + 3 * i).toNat
        have hr1 := eR (f + 3 * i + 1).toNat
        have hr2 := eR (f + 3 * i + 2).toNat
        have hc0 := hcl hk4.1 hk4.2 (f + 3 * i).toNat (by omega)
        have hc1 := hcl hk4.1 hk4.2 (f + 3 * i + 1).toNat (by omega)
        have hc2 := hcl hk4.1 hk4.2 (f + 3 * i + 2).toNat (by omega)
        refine g_aload_n dX8_read_92 rfl rfl (g_aload dX8_read_93 rfl (g_lload dX8_read_95 rfl (g_l2i dX8_read_97 ?_)))
        refine cv_X8_321 (M := mX8_read) rfl dX8_read_98 (yo9 hY) (RO.same _ _ _) (Nat.le_of_ble_eq_true rfl) (e_X8_addSightOf hY hk4 (by omega) (by omega) (by omega) (by omega) (by omega) (by omega)) (kQX fun v98 h98 hq98 => ?_)
        have ho98 := rd_one hns.1 h12 hfl0 (by omega) hq98
        have hv98 : v98 = 0 ∨ v98 = 1 := (by omega)
        refine g_if_ne 119 dX8_read_101 rfl (by omega) (fun c101 => ?_) (fun c101 => ?_)
        · skip
          refine g_inc7 dX8_read_119 (by decide) rfl (g_goto 48 dX8_read_122 rfl (g_dr8 (g_dr10 ?_)))
          rcases ho98 with ⟨q1, q2, q3⟩ | ⟨q1, q2, q3⟩
          · exfalso; omega
          · rw [q2]
            have hx := ih (m - 1) (by omega) (i + 1) (by omega) (by omega) hok (fun j hj => by by_cases z : j = i; (subst z; exact q3); exact hall j (by omega))
            exact hx
        · skip
          refine g_aload_n dX8_read_104 rfl rfl (gf_X8_19 (M := mX8_read) rfl dX8_read_105 (yo9 hY) (yr9_1 hY) (g_iload dX8_read_108 rfl (pf_X8_274 (M := mX8_read) rfl dX8_read_110 (ck_o hY clk12) (g_bipush dX8_read_113 kbm20 (g_iload dX8_read_115 rfl (g_isub dX8_read_117 ?_))))))
          exact g_iret dX8_read_118 rfl rfl ⟨Nat.le_refl _, Nat.le_refl _⟩ (by rcases ho98 with ⟨q1, q2, q3⟩ | ⟨q1, q2, q3⟩ <;> first | (exfalso; omega) | exact ⟨_, rfl, Or.inr ⟨hok, i, ⟨hall, by omega, Or.inr q3⟩, by rw [rdV, if_neg (by omega), if_neg (fun z => z hfl0)], by rw [if_neg (by omega), if_neg (fun z => z hfl0), q2]⟩⟩)
      · skip
        refine g_aload_n dX8_read_83 rfl rfl (g_iload dX8_read_84 rfl (pf_X8_68 (M := mX8_read) rfl dX8_read_86 (yo9 hY) (g_iload dX8_read_89 rfl ?_)))
        exact g_iret dX8_read_91 rfl rfl ⟨Nat.le_refl _, Nat.le_refl _⟩ (by exact ⟨_, rfl, Or.inr ⟨hok, i, ⟨hall, by omega, Or.inr (fun z => c80 z.1)⟩, by rw [rdV, if_neg (by omega), if_pos c80], by rw [if_neg (by omega), if_pos c80]⟩⟩)
  refine g_iload_n dX8_read_0 rfl rfl (cv_X8_299 (M := mX8_read) rfl dX8_read_1 (RO.same _ _ _) (Nat.le_of_ble_eq_true rfl) (e_X8_isSheet (by omega)) <| kI ?_)
  refine g_if_eq 26 dX8_read_4 rfl (by omega) (fun c4 => ?_) (fun c4 => ?_)
  · skip
    refine g_iconst dX8_read_26 ?_
    exact g_iret dX8_read_27 rfl rfl ⟨Nat.le_refl _, Nat.le_refl _⟩ (by exact ⟨-1, rfl, Or.inl ⟨by omega, rfl, rfl⟩⟩)
  · skip
    refine g_iload_n dX8_read_7 rfl rfl (cv_X8_302 (M := mX8_read) rfl dX8_read_8 (RO.same _ _ _) (Nat.le_of_ble_eq_true rfl) (e_X8_isLane (by omega)) <| kI ?_)
    refine g_if_eq 26 dX8_read_11 rfl (by omega) (fun c11 => ?_) (fun c11 => ?_)
    · skip
      refine g_iconst dX8_read_26 ?_
      exact g_iret dX8_read_27 rfl rfl ⟨Nat.le_refl _, Nat.le_refl _⟩ (by exact ⟨-1, rfl, Or.inl ⟨by omega, rfl, rfl⟩⟩)
    · skip
      refine g_iload dX8_read_14 rfl ?_
      refine g_if_lt 26 dX8_read_16 rfl (by omega) (fun c16 => ?_) (fun c16 => ?_)
      · skip
        refine g_iconst dX8_read_26 ?_
        exact g_iret dX8_read_27 rfl rfl ⟨Nat.le_refl _, Nat.le_refl _⟩ (by exact ⟨-1, rfl, Or.inl ⟨by omega, rfl, rfl⟩⟩)
      · skip
        refine g_iload dX8_read_19 rfl (g_bipush dX8_read_21 kb12 ?_)
        refine g_icmp_le 28 dX8_read_23 rfl (by omega) (by omega) (fun c23 => ?_) (fun c23 => ?_)
        · skip
          have hk4 : 0 ≤ k ∧ k < 4 := (by omega)
          refine g_aload_n dX8_read_28 rfl rfl (gf_X8_36 (M := mX8_read) rfl dX8_read_29 (yo9 hY) (yr9_5 hY) (g_iload_n dX8_read_32 rfl rfl (g_aald dX8_read_33 (ya70 hY) (by decide) (D0 := "ClockTeeth$Sheet") rfl ⟨by omega, by omega, by omega⟩ (sh_r hY (by omega)) (g_ast5 dX8_read_34 (by decide) rfl (g_aload_n dX8_read_36 rfl rfl (gf_X8_19 (M := mX8_read) rfl dX8_read_37 (yo9 hY) (yr9_1 hY) (gf_X8_274 (M := mX8_read) rfl dX8_read_40 (ck_o hY clk12) (g_ist6 dX8_read_43 (by decide) rfl (g_iconst dX8_read_45 (g_ist7 dX8_read_46 (by decide) rfl ?_))))))))))
          exact L48 n.toNat 0 (by omega) (by omega) (by omega) (fun j hj => by omega)
        · skip
          refine g_iconst dX8_read_26 ?_
          exact g_iret dX8_read_27 rfl rfl ⟨Nat.le_refl _, Nat.le_refl _⟩ (by exact ⟨-1, rfl, Or.inl ⟨by omega, rfl, rfl⟩⟩)
set_option maxRecDepth 100000 in
set_option maxHeartbeats 1000000 in
theorem lc_read {G : GX} {R : Room} {Z : ZT} {y : LY} {h : HM} {cs : Nat × Nat} (hY : Lay y) (hi : Inv h) {at_ : Int} (hat : 0 ≤ at_ ∧ at_ + 7 ≤ G.len) (hlen : G.len < 2147483648) (hR : RO R 20 0 0 cs) (kk : ∀ h2, Inv h2 → Go G mL_law R Z y 2060 [some (.ref 8), some (.ref 9), some (.ref 150), some (.int (iZ at_))] [] h2 cs) : Go G mL_law R Z y 1971 [some (.ref 8), some (.ref 9), some (.ref 150), some (.int (iZ at_))] [] h cs := by
  have es := hi.st
  have hw := hi.cw
  have e0 := es.1.1
  have e1 := es.2.1.1
  have e5 := es.2.2.1.1
  have e6 := es.2.2.2
  have w6 := hw.2.2.2.1
  have w9 := hw.2.2.2.2
  have er := hi.rc
  have m3 := hw.1.1
  have m5 := hw.2.2.1.1
  have hsh : ∀ k : Int, 0 ≤ k → k < 4 → ShR h k (h.I (142 + 2 * k.toNat) 1) (h.I (142 + 2 * k.toNat) 2) ∧ (-1 ≤ h.I (142 + 2 * k.toNat) 2) ∧ (0 ≤ h.I (142 + 2 * k.toNat) 1 ∧ h.I (142 + 2 * k.toNat) 1 ≤ 2) := fun k k0 k1 => (by have q := hi.sh k.toNat (by omega); rw [show ((k.toNat : Nat) : Int) = k by omega] at q; exact q)
  have r1 := scV_r G (at_ + 1)
  have r2 := scV_r G (at_ + 2)
  have r3 := scV_r G (at_ + 3)
  have r4 := scV_r G (at_ + 4)
  have r5 := scV_r G (at_ + 5)
  have r6 := scV_r G (at_ + 6)
  refine g_aload_n dL_law_1971 rfl rfl (g_aload_n dL_law_1972 rfl rfl (g_iload_n dL_law_1973 rfl rfl (g_iconst dL_law_1974 (g_iadd dL_law_1975 (g_sld dL_law_1976 ⟨by omega, by omega, by omega⟩ (g_aload_n dL_law_1977 rfl rfl (g_iload_n dL_law_1978 rfl rfl (g_iconst dL_law_1979 (g_iadd dL_law_1980 (g_sld dL_law_1981 ⟨by omega, by omega, by omega⟩ (g_aload_n dL_law_1982 rfl rfl ?_)))))))))))
  refine g_iload_n dL_law_1983 rfl rfl (g_iconst dL_law_1984 (g_iadd dL_law_1985 (g_sld dL_law_1986 ⟨by omega, by omega, by omega⟩ (g_aload_n dL_law_1987 rfl rfl (g_iload_n dL_law_1988 rfl rfl (g_iconst dL_law_1989 (g_iadd dL_law_1990 (g_sld dL_law_1991 ⟨by omega, by omega, by omega⟩ ?_))))))))
  refine cv_L_188 (M := mL_law) rfl dL_law_1992 (yo9 hY) hR (Nat.le_of_ble_eq_true rfl) (e_X8_read2 hY r1 r2 r3 r4 (fun k0 k1 => by (have q := hsh _ k0 k1; have qc := q.1.c; omega)) (fun k0 k1 j hj => (hi.ce _ j (by omega) hj).2) m3 m5) (kQX fun v1992 h1992 hq1992 => ?_)
  have ro : ∀ a j : Nat, ¬ (28 ≤ a ∧ a < 40) → ¬ (a = 12 ∧ j = 5) → ¬ (a = 9 ∧ j = 12) → h1992.I a j = h.I a j := (by intro a j q1 q2 q3; rcases hq1992 with ⟨_, _, z⟩ | ⟨_, i, q, _, z⟩; (rw [z]); (rw [z]; exact rdC_o m5.1 (rd_bd m5.2 q) q1 q2 q3))
  have q151 : ∀ j, h1992.I 151 j = h.I 151 j := fun j => ro 151 j (by omega) (by omega) (by omega)
  have hR1 : RF h1992 (cFs h 12) := hi.rf.q q151
  have hS1 : RS h1992 (cSs h 12) := hi.rs.q q151
  have n1 : h1992.I 151 0 = h.I 12 3 := by rw [q151]; exact e0
  have n5 : h1992.I 151 71 = h.I 12 5 := by rw [q151]; exact e5
  have hLr : 0 ≤ (scV G (at_ + 1)) → (scV G (at_ + 1)) < 4 → ShR h1992 (scV G (at_ + 1)) (h.I (142 + 2 * (scV G (at_ + 1)).toNat) 1) (h.I (142 + 2 * (scV G (at_ + 1)).toNat) 2) ∧ ∀ j : Nat, j < 40 → h1992.I 160 (40 * (scV G (at_ + 1)).toNat + j) = (h.I (143 + 2 * (scV G (at_ + 1)).toNat)) j ∧ R32 ((h.I (143 + 2 * (scV G (at_ + 1)).toNat)) j) := (by intro k0 k1; refine ⟨?_, fun j hj => ?_⟩; (have q := (hsh _ k0 k1).1; unfold ShR at q ⊢; rw [ro 158 _ (by omega) (by omega) (by omega), ro 159 _ (by omega) (by omega) (by omega)]; exact q); (rw [ro 160 _ (by omega) (by omega) (by omega)]; exact hi.ce _ j (by omega) hj))
  refine g_aload_n dL_law_1995 rfl rfl (g_aload_n dL_law_1996 rfl rfl (g_iload_n dL_law_1997 rfl rfl (g_iconst dL_law_1998 (g_iadd dL_law_1999 (g_sld dL_law_2000 ⟨by omega, by omega, by omega⟩ (g_aload_n dL_law_2001 rfl rfl (g_iload_n dL_law_2002 rfl rfl (g_iconst dL_law_2003 (g_iadd dL_law_2004 (g_sld dL_law_2005 ⟨by omega, by omega, by omega⟩ (g_aload_n dL_law_2006 rfl rfl ?_)))))))))))
  refine g_iload_n dL_law_2007 rfl rfl (g_iconst dL_law_2008 (g_iadd dL_law_2009 (g_sld dL_law_2010 ⟨by omega, by omega, by omega⟩ (g_aload_n dL_law_2011 rfl rfl (g_iload_n dL_law_2012 rfl rfl (g_iconst dL_law_2013 (g_iadd dL_law_2014 (g_sld dL_law_2015 ⟨by omega, by omega, by omega⟩ ?_))))))))
  refine cv_L_192 (M := mL_law) rfl dL_law_2016 (yo150 hY) hR (Nat.le_of_ble_eq_true rfl) (e_X9_read hY hR1 hS1 (L := (h.I (142 + 2 * (scV G (at_ + 1)).toNat) 1)) (C := (h.I (142 + 2 * (scV G (at_ + 1)).toNat) 2)) (R := (h.I (143 + 2 * (scV G (at_ + 1)).toNat))) r1 r2 r3 r4 hLr) (kQX fun v2016 h2016 hq2016 => ?_)
  have z2 := hq2016
  rw [n1, n5] at z2
  have hx : v1992 = v2016 ∧ Inv h2016 := (by rcases hq1992 with ⟨a1, a2, a3⟩ | ⟨a1, i, a4, a2, a3⟩ <;> rcases z2 with ⟨b1, b2, b3⟩ | ⟨b1, i2, b4, b2, b3⟩ <;> first | exact absurd b1 a1 | exact absurd a1 b1 | exact ⟨a2.trans b2.symm, by rw [b3, a3]; exact hi⟩ | (have ii := RdQ.uniq a4 b4; subst ii; rw [a3] at b3; exact ⟨a2.trans b2.symm, hi.rdd (rd_bd m5.2 a4) b3⟩))
  refine g_ieqS 2060 dL_law_2019 rfl hx.1 ?_
  exact kk _ hx.2
