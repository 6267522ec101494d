theorem hd_F (h : HM) : ∀ v : Nat, (∀ k, k < v → 0 ≤ h.I (12 + 10 + k) 1 ∧ h.I (12 + 10 + k) 1 < 6) → ∀ i : Nat, i < 6 → cFs (hvF h 12 v) 12 i = hdF (cFs h 12) (cVs h 12) v i
  | 0, _, _, _ => rfl
  | v + 1, hk, i, hi => by
    have ih := hd_F h v (fun k q => hk k (by omega)) i hi
    show c5 (wr5 (hvF h 12 v) (12 + 4 + (h.I (12 + 10 + v) 1).toNat) (h.I (12 + 10 + v) 2, h.I (12 + 10 + v) 3, h.I (12 + 10 + v) 4, 0, 0)) (12 + 4 + i) = upF (hdF (cFs h 12) (cVs h 12) v) (h.I (12 + 10 + v) 1).toNat (h.I (12 + 10 + v) 2, h.I (12 + 10 + v) 3, h.I (12 + 10 + v) 4, 0, 0) i
    unfold upF
    by_cases q : i = (h.I (12 + 10 + v) 1).toNat
    · rw [if_pos q, ← q, c5_wr5]
    · rw [if_neg q, c5_wr5n _ _ (by omega)]; exact ih
theorem hd_B {F V : Nat → Fg} {nf : Int} (hF : ∀ i : Nat, (i : Int) < nf → FgB (F i)) : ∀ v : Nat, (∀ k, k < v → VoB (V k)) → ∀ i : Nat, (i : Int) < nf → FgB (hdF F V v i)
  | 0, _, i, hi => hF i hi
  | v + 1, hk, i, hi => by
    have ih := hd_B hF v (fun k q => hk k (by omega)) i hi
    have b := hk v (by omega)
    show FgB (upF (hdF F V v) (V v).2.1.toNat ((V v).2.2.1, (V v).2.2.2.1, (V v).2.2.2.2, 0, 0) i)
    unfold upF
    by_cases q : i = (V v).2.1.toNat
    · rw [if_pos q]
      exact ⟨⟨b.2.2.1.1, b.2.2.1.2, Int.le_refl 0, (by decide : (0 : Int) ≤ 3), Int.le_refl 0, (show (0 : Int) < (V v).2.2.1 by have := b.2.2.1.1; omega)⟩, b.2.2.2.1.1, b.2.2.2.1.2, b.2.2.2.2.1, b.2.2.2.2.2⟩
    · rw [if_neg q]; exact ih
theorem hd_o {h : HM} {n : Int} (hV : CV h 12) (hn : 0 ≤ n ∧ n ≤ h.I 12 4) {a j : Nat} (q1 : ¬ (16 ≤ a ∧ a < 28)) (q2 : ¬ (a = 12 ∧ j = 4)) : (hdH h 12 n).I a j = h.I a j := by
  have m := hV.1
  unfold hdH
  rw [sI_I, if_neg q2, cpB_I, if_neg (by omega), hvF_I h 12 _ (fun k hk => by have := hV.2 (k : Int) (by omega) (by omega); rw [show ((k : Int)).toNat = k by omega] at this; exact this) a j (by omega)]
theorem hd_4 (h : HM) (n : Int) : (hdH h 12 n).I 12 4 = h.I 12 4 - n := by unfold hdH; rw [sI_I, if_pos ⟨rfl, rfl⟩]
theorem hd_f {h : HM} {n : Int} (hV : CV h 12) (hn : 0 ≤ n ∧ n ≤ h.I 12 4) {i : Nat} (hi : i < 6) : cFs (hdH h 12 n) 12 i = hdF (cFs h 12) (cVs h 12) n.toNat i := by
  have m := hV.1
  rw [← hd_F h n.toNat (fun k hk => by have := hV.2 (k : Int) (by omega) (by omega); rw [show ((k : Int)).toNat = k by omega] at this; exact this) i hi]
  refine c5_eq (fun j => ?_)
  unfold hdH
  rw [sI_I, if_neg (by omega), cpB_I, if_neg (by omega)]
theorem hd_v {h : HM} {n : Int} (hV : CV h 12) (hn : 0 ≤ n ∧ n ≤ h.I 12 4) {i : Nat} (hi : (i : Int) < h.I 12 4 - n) : cVs (hdH h 12 n) 12 i = cVs h 12 (i + n.toNat) := by
  have m := hV.1
  have e : ∀ j, j < 5 → (hdH h 12 n).I (12 + 10 + i) j = h.I (12 + 10 + (i + n.toNat)) j := fun j hj => by
    unfold hdH
    rw [sI_I, if_neg (by omega), cpB_I, if_pos (by omega), show 12 + 10 + i - (12 + 10) + (12 + 10 + n.toNat) = 12 + 10 + (i + n.toNat) by omega, hvF_I h 12 _ (fun k hk => by have := hV.2 (k : Int) (by omega) (by omega); rw [show ((k : Int)).toNat = k by omega] at this; exact this) _ j (by omega)]
  unfold cVs c5
  rw [e 0 (by omega), e 1 (by omega), e 2 (by omega), e 3 (by omega), e 4 (by omega)]
theorem Inv.hdB {h : HM} (hi : Inv h) {n : Int} (hn : 0 ≤ n ∧ n ≤ h.I 12 4) : ∀ i : Nat, (i : Int) < h.I 12 3 → FgB (hdF (cFs h 12) (cVs h 12) n.toNat i) := by
  have hw := hi.cw
  refine hd_B (fun i hi => ?_) _ (fun k hk => ?_)
  · have := hw.1.2 (i : Int) (by omega) hi
    rw [show ((i : Int)).toNat = i by omega] at this; exact this
  · have := (hw.2.1.2 (k : Int) (by omega) (by omega)).1
    rw [show ((k : Int)).toNat = k by omega] at this; exact this
theorem Inv.hdC {h : HM} (hi : Inv h) {n : Int} (h0 : 0 ≤ n) (h1 : n ≤ h.I 12 4) : CF (hdH h 12 n) 12 := by
  have hw := hi.cw
  have m := hw.1.1
  have e3 : (hdH h 12 n).I 12 3 = h.I 12 3 := hd_o hw.V ⟨h0, h1⟩ (by omega) (by omega)
  refine ⟨by rw [e3]; exact m, fun i i0 i1 => ?_⟩
  rw [e3] at i1
  show FgB (cFs (hdH h 12 n) 12 i.toNat)
  rw [hd_f hw.V ⟨h0, h1⟩ (by omega)]
  exact hi.hdB ⟨h0, h1⟩ _ (by omega)
theorem Inv.hld {h h2 : HM} (hi : Inv h) {n : Int} (hn : 0 ≤ n ∧ n ≤ h.I 12 4) (hF : RF h2 (hdF (cFs h 12) (cVs h 12) n.toNat)) (hV : RV h2 (fun i => cVs h 12 (i + n.toNat))) (h37 : h2.I 151 37 = h.I 12 4 - n) (f : FrR (hdH h 12 n) h2 1 68) : Inv h2 := by
  have hw := hi.cw
  have hs := hi.st
  have m3 := hw.1.1; have m4 := hw.2.1.1; have m5 := hw.2.2.1.1
  have o : ∀ a j : Nat, ¬ (16 ≤ a ∧ a < 28) → ¬ (a = 12 ∧ j = 4) → ¬ (a = 151 ∧ 1 ≤ j ∧ j < 68) → h2.I a j = h.I a j := fun a j q1 q2 q3 => by
    rw [f.2 a j (by omega)]; exact hd_o hw.V hn q1 q2
  have oc : ∀ a j : Nat, a ≠ 151 → h2.I a j = (hdH h 12 n).I a j := fun a j q => f.2 a j (Or.inl q)
  have x9 := o 12 9 (by omega) (by omega) (by omega)
  have x2 := o 150 2 (by omega) (by omega) (by omega)
  have c3 := o 12 3 (by omega) (by omega) (by omega)
  have c4 : h2.I 12 4 = h.I 12 4 - n := by rw [oc 12 4 (by omega)]; exact hd_4 h n
  have c5_ := o 12 5 (by omega) (by omega) (by omega)
  have d6 := o 12 6 (by omega) (by omega) (by omega)
  have d7 := o 12 7 (by omega) (by omega) (by omega)
  have d8 := o 12 8 (by omega) (by omega) (by omega)
  refine hi.re (IvC.re hF hV (hi.rs.p (fun j hj hk => o 151 j (by omega) (by omega) (by omega))) ?_ ?_ ?_ ?_ ?_ ?_ ?_ (fun i i0 i1 => ?_) (fun i i0 i1 => ?_) (fun i i0 i1 => ?_)) x9 (fun a j _ q1 q2 => o a j (by omega) (by omega) (by omega))
  · rw [o 151 0 (by omega) (by omega) (by omega), c3]; exact hs.1.1
  · rw [h37, c4]
  · rw [o 151 71 (by omega) (by omega) (by omega), c5_]; exact hs.2.2.1.1
  · rw [d6, d7, d8, o 151 68 (by omega) (by omega) (by omega), o 151 69 (by omega) (by omega) (by omega), o 151 70 (by omega) (by omega) (by omega)]; exact hs.2.2.2
  · rw [d6, d7, d8]; exact hw.2.2.2.1
  · rw [x9]; exact hw.2.2.2.2
  · rw [x9, x2]; exact hi.rc
  · rw [c3] at i1
    rw [show cFs h2 12 i.toNat = cFs (hdH h 12 n) 12 i.toNat from c5_eq (fun j => oc _ j (by omega)), hd_f hw.V hn (by omega)]
  · rw [c4] at i1
    rw [show cVs h2 12 i.toNat = cVs (hdH h 12 n) 12 i.toNat from c5_eq (fun j => oc _ j (by omega)), hd_v hw.V hn (by omega)]
  · exact (cSs_eq (fun j => o _ j (by omega) (by omega) (by omega))).symm
set_option maxRecDepth 100000 in
set_option maxHeartbeats 1000000 in
theorem lc_hold {G : GX} {R : Room} {Z : ZT} {y : LY} {h : HM} {cs : Nat × Nat} (hY : Lay y) (hi : Inv h) {at_ : Int} (hat : 0 ≤ at_ ∧ at_ + 7 ≤ G.len) (hlen : G.len < 2147483648) (hR : RO R 20 0 0 cs) (kk : ∀ h2, Inv h2 → Go G mL_law R Z y 2060 [some (.ref 8), some (.ref 9), some (.ref 150), some (.int (iZ at_))] [] h2 cs) : Go G mL_law R Z y 1456 [some (.ref 8), some (.ref 9), some (.ref 150), some (.int (iZ at_))] [] h cs := by
  have es := hi.st
  have hw := hi.cw
  have e0 := es.1.1
  have e1 := es.2.1.1
  have e5 := es.2.2.1.1
  have e6 := es.2.2.2
  have w6 := hw.2.2.2.1
  have w9 := hw.2.2.2.2
  have er := hi.rc
  have m3 := hw.1.1
  have r1 := scV_r G (at_ + 1)
  have r2 := scV_r G (at_ + 2)
  have r3 := scV_r G (at_ + 3)
  have r4 := scV_r G (at_ + 4)
  have r5 := scV_r G (at_ + 5)
  have r6 := scV_r G (at_ + 6)
  refine g_aload_n dL_law_1456 rfl rfl (g_aload_n dL_law_1457 rfl rfl (g_iload_n dL_law_1458 rfl rfl (g_iconst dL_law_1459 (g_iadd dL_law_1460 (g_sld dL_law_1461 ⟨by omega, by omega, by omega⟩ ?_)))))
  refine cv_L_133 (M := mL_law) rfl dL_law_1462 (yo9 hY) hR (Nat.le_of_ble_eq_true rfl) (e_X8_hold hY r1 hw.F hw.V (fun g0 g1 => hi.hdC g0 g1)) (kQX fun v1462 h1462 hq1462 => ?_)
  have q151 : ∀ j, h1462.I 151 j = h.I 151 j := fun j => (by rcases hq1462 with ⟨_, _, z⟩ | ⟨x1, _, z⟩; (rw [z]); (rw [z]; exact hd_o hw.V x1 (by omega) (by omega)))
  have hR1 : RF h1462 (cFs h 12) := hi.rf.q q151
  have hV1 : RV h1462 (cVs h 12) := hi.rv.q q151
  have n1 : h1462.I 151 0 = h.I 12 3 := by rw [q151]; exact e0
  have n4 : h1462.I 151 37 = h.I 12 4 := by rw [q151]; exact e1
  refine g_aload_n dL_law_1465 rfl rfl (g_aload_n dL_law_1466 rfl rfl (g_iload_n dL_law_1467 rfl rfl (g_iconst dL_law_1468 (g_iadd dL_law_1469 (g_sld dL_law_1470 ⟨by omega, by omega, by omega⟩ ?_)))))
  refine cv_L_136 (M := mL_law) rfl dL_law_1471 (yo150 hY) hR (Nat.le_of_ble_eq_true rfl) (e_X9_hold hY hR1 hV1 r1) (kQX fun v1471 h1471 hq1471 => ?_)
  have z2 := hq1471
  rw [n1, n4] at z2
  have hx : v1462 = v1471 ∧ Inv h1471 := (by rcases hq1462 with ⟨a1, a2, a3⟩ | ⟨a1, a2, a3⟩ <;> rcases z2 with ⟨b1, b2, b3⟩ | ⟨b1, b2, b3, b4, b5, b6⟩ <;> first | exact ⟨a2.trans b2.symm, by rw [b3, a3]; exact hi⟩ | exact absurd b1 a1 | exact absurd a1 b1 | (rw [a3] at b6; refine ⟨?_, hi.hld a1 b3 b4 b5 b6⟩; rw [a2, b2, hd_o hw.V a1 (by omega) (by omega)]; exact EqF.hmSe (n := h.I 12 3) (fun i hi => hd_f hw.V a1 (by omega)) (by omega) _ (by omega)))
  refine g_ieqS 2060 dL_law_1474 rfl hx.1 ?_
  exact kk _ hx.2
theorem Inv.asd {h h2 : HM} (hi : Inv h) {X : Fg} (h6 : h.I 12 4 < 6) (hV : RV h2 (upF (cVs h 12) (h.I 12 4).toNat X)) (h37 : h2.I 151 37 = h.I 12 4 + 1) (f : FrR ((wr5 h (12 + 10 + (h.I 12 4).toNat) X).sI 12 4 (h.I 12 4 + 1)) h2 37 68) : Inv h2 := by
  have hw := hi.cw
  have hs := hi.st
  have m3 := hw.1.1; have m4 := hw.2.1.1; have m5 := hw.2.2.1.1
  have o : ∀ a j : Nat, ¬ (a = 22 + (h.I 12 4).toNat) → ¬ (a = 12 ∧ j = 4) → ¬ (a = 151 ∧ 37 ≤ j ∧ j < 68) → h2.I a j = h.I a j := fun a j q1 q2 q3 => by
    rw [f.2 a j (by omega), sI_I, if_neg q2, wr5_e (by omega)]
  have oc : ∀ j : Nat, h2.I (12 + 10 + (h.I 12 4).toNat) j = (wr5 h (12 + 10 + (h.I 12 4).toNat) X).I (12 + 10 + (h.I 12 4).toNat) j := fun j => by rw [f.2 _ j (by omega), sI_I, if_neg (by omega)]
  have x9 := o 12 9 (by omega) (by omega) (by omega)
  have x2 := o 150 2 (by omega) (by omega) (by omega)
  have c3 := o 12 3 (by omega) (by omega) (by omega)
  have c4 : h2.I 12 4 = h.I 12 4 + 1 := by rw [f.2 12 4 (by omega), sI_I, if_pos ⟨rfl, rfl⟩]
  have c5_ := o 12 5 (by omega) (by omega) (by omega)
  have d6 := o 12 6 (by omega) (by omega) (by omega)
  have d7 := o 12 7 (by omega) (by omega) (by omega)
  have d8 := o 12 8 (by omega) (by omega) (by omega)
  refine hi.re (IvC.re (hi.rf.p (fun j hj => o 151 j (by omega) (by omega) (by omega))) hV (hi.rs.p (fun j hj hk => o 151 j (by omega) (by omega) (by omega))) ?_ ?_ ?_ ?_ ?_ ?_ ?_ (fun i i0 i1 => ?_) (fun i i0 i1 => ?_) (fun i i0 i1 => ?_)) x9 (fun a j _ q1 q2 => o a j (by omega) (by omega) (by omega))
  · rw [o 151 0 (by omega) (by omega) (by omega), c3]; exact hs.1.1
  · rw [h37, c4]
  · rw [o 151 71 (by omega) (by omega) (by omega), c5_]; exact hs.2.2.1.1
  · rw [d6, d7, d8, o 151 68 (by omega) (by omega) (by omega), o 151 69 (by omega) (by omega) (by omega), o 151 70 (by omega) (by omega) (by omega)]; exact hs.2.2.2
  · rw [d6, d7, d8]; exact hw.2.2.2.1
  · rw [x9]; exact hw.2.2.2.2
  · rw [x9, x2]; exact hi.rc
  · rw [c3] at i1
    exact (c5_eq (fun j => o _ j (by omega) (by omega) (by omega))).symm
  · rw [c4] at i1
    unfold upF
    by_cases q : i.toNat = (h.I 12 4).toNat
    · rw [if_pos q, q]
      rw [show cVs h2 12 (h.I 12 4).toNat = c5 (wr5 h (12 + 10 + (h.I 12 4).toNat) X) (12 + 10 + (h.I 12 4).toNat) from c5_eq oc, c5_wr5]
    · rw [if_neg q]
      exact (c5_eq (fun j => o _ j (by omega) (by omega) (by omega))).symm
  · exact (cSs_eq (fun j => o _ j (by omega) (by omega) (by omega))).symm
theorem Inv.lvB {h : HM} (hi : Inv h) : 0 ≤ lvy h 12 ∧ lvy h 12 ≤ 99 := by
  have hw := hi.cw
  unfold lvy
  split
  · have b := (hw.2.1.2 (h.I 12 4 - 1) (by omega) (by omega)).1.1
    exact b
  · omega
set_option maxRecDepth 100000 in
set_option maxHeartbeats 1000000 in
theorem lc_ask {G : GX} {R : Room} {Z : ZT} {y : LY} {h : HM} {cs : Nat × Nat} (hY : Lay y) (hi : Inv h) {at_ : Int} (hat : 0 ≤ at_ ∧ at_ + 7 ≤ G.len) (hlen : G.len < 2147483648) (hR : RO R 20 0 0 cs) (kk : ∀ h2, Inv h2 → Go G mL_law R Z y 2060 [some (.ref 8), some (.ref 9), some (.ref 150), some (.int (iZ at_))] [] h2 cs) : Go G mL_law R Z y 1479 [some (.ref 8), some (.ref 9), some (.ref 150), some (.int (iZ at_))] [] h cs := by
  have es := hi.st
  have hw := hi.cw
  have e0 := es.1.1
  have e1 := es.2.1.1
  have e5 := es.2.2.1.1
  have e6 := es.2.2.2
  have w6 := hw.2.2.2.1
  have w9 := hw.2.2.2.2
  have er := hi.rc
  have m3 := hw.1.1
  have lb := hi.lvB
  have lvE : lvR (cVs h 12) (h.I 12 4) = lvy h 12 := rfl
  have r1 := scV_r G (at_ + 1)
  have r2 := scV_r G (at_ + 2)
  have r3 := scV_r G (at_ + 3)
  have r4 := scV_r G (at_ + 4)
  have r5 := scV_r G (at_ + 5)
  have r6 := scV_r G (at_ + 6)
  refine g_aload_n dL_law_1479 rfl rfl (g_aload_n dL_law_1480 rfl rfl (g_iload_n dL_law_1481 rfl rfl (g_iconst dL_law_1482 (g_iadd dL_law_1483 (g_sld dL_law_1484 ⟨by omega, by omega, by omega⟩ (g_aload_n dL_law_1485 rfl rfl (g_iload_n dL_law_1486 rfl rfl (g_iconst dL_law_1487 (g_iadd dL_law_1488 (g_sld dL_law_1489 ⟨by omega, by omega, by omega⟩ (g_aload_n dL_law_1490 rfl rfl ?_)))))))))))
  refine g_iload_n dL_law_1491 rfl rfl (g_iconst dL_law_1492 (g_iadd dL_law_1493 (g_sld dL_law_1494 ⟨by omega, by omega, by omega⟩ (g_aload_n dL_law_1495 rfl rfl (g_iload_n dL_law_1496 rfl rfl (g_iconst dL_law_1497 (g_iadd dL_law_1498 (g_sld dL_law_1499 ⟨by omega, by omega, by omega⟩ (g_aload_n dL_law_1500 rfl rfl (g_iload_n dL_law_1501 rfl rfl (g_iconst dL_law_1502 ?_)))))))))))
  refine g_iadd dL_law_1503 (g_sld dL_law_1504 ⟨by omega, by omega, by omega⟩ ?_)
  refine cv_L_137 (M := mL_law) rfl dL_law_1505 (yo9 hY) hR (Nat.le_of_ble_eq_true rfl) (e_X8_ask hY r1 r2 r3 r4 r5 m3 hw.V (by omega)) (kQX fun v1505 h1505 hq1505 => ?_)
  have q151 : ∀ j, h1505.I 151 j = h.I 151 j := fun j => (by have m4 := hw.2.1.1; rcases hq1505 with ⟨_, _, z⟩ | ⟨_, ⟨_, _, z⟩ | ⟨_, _, z⟩⟩; (rw [z]); (rw [z]); (rw [z, sI_I, if_neg (by omega), wr5_e (by omega)]))
  have hR1 : RF h1505 (cFs h 12) := hi.rf.q q151
  have hV1 : RV h1505 (cVs h 12) := hi.rv.q q151
  have n1 : h1505.I 151 0 = h.I 12 3 := by rw [q151]; exact e0
  have n4 : h1505.I 151 37 = h.I 12 4 := by rw [q151]; exact e1
  refine g_aload_n dL_law_1508 rfl rfl (g_aload_n dL_law_1509 rfl rfl (g_iload_n dL_law_1510 rfl rfl (g_iconst dL_law_1511 (g_iadd dL_law_1512 (g_sld dL_law_1513 ⟨by omega, by omega, by omega⟩ (g_aload_n dL_law_1514 rfl rfl (g_iload_n dL_law_1515 rfl rfl (g_iconst dL_law_1516 (g_iadd dL_law_1517 (g_sld dL_law_1518 ⟨by omega, by omega, by omega⟩ (g_aload_n dL_law_1519 rfl rfl ?_)))))))))))
  refine g_iload_n dL_law_1520 rfl rfl (g_iconst dL_law_1521 (g_iadd dL_law_1522 (g_sld dL_law_1523 ⟨by omega, by omega, by omega⟩ (g_aload_n dL_law_1524 rfl rfl (g_iload_n dL_law_1525 rfl rfl (g_iconst dL_law_1526 (g_iadd dL_law_1527 (g_sld dL_law_1528 ⟨by omega, by omega, by omega⟩ (g_aload_n dL_law_1529 rfl rfl (g_iload_n dL_law_1530 rfl rfl (g_iconst dL_law_1531 ?_)))))))))))
  refine g_iadd dL_law_1532 (g_sld dL_law_1533 ⟨by omega, by omega, by omega⟩ ?_)
  refine cv_L_141 (M := mL_law) rfl dL_law_1534 (yo150 hY) hR (Nat.le_of_ble_eq_true rfl) (e_X9_ask hY hR1 hV1 r1 r2 r3 r4 r5) (kQX fun v1534 h1534 hq1534 => ?_)
  have z2 := hq1534
  rw [n1, n4, lvE] at z2
  have hx : v1505 = v1534 ∧ Inv h1534 := (by rcases hq1505 with ⟨a1, a2, a3⟩ | ⟨a1, ⟨a4, a2, a3⟩ | ⟨a4, a2, a3⟩⟩ <;> rcases z2 with ⟨b1, b2, b3⟩ | ⟨b1, ⟨b4, b2, b3⟩ | ⟨b4, b2, b3, b5, b6⟩⟩ <;> first | exact absurd b1 a1 | exact absurd a1 b1 | (exfalso; clear b1 a1; omega) | exact ⟨a2.trans b2.symm, by rw [b3, a3]; exact hi⟩ | (rw [a3] at b6; exact ⟨a2.trans b2.symm, hi.asd a4 b3 b5 b6⟩))
  refine g_ieqS 2060 dL_law_1537 rfl hx.1 ?_
  exact kk _ hx.2
