theorem Inv.rct {h : HM} (hi : Inv h) {f n k : Int} (hf : 0 ≤ f ∧ f < h.I 12 3) (hn : 2 ≤ n ∧ n ≤ 60 ∧ 0 ≤ k ∧ k < n) (hg : h.I (12 + 4 + f.toNat) 4 < n) : Inv ((((h.sI (12 + 4 + f.toNat) 0 n).sI (12 + 4 + f.toNat) 1 k).sI 151 (1 + 6 * f + 1).toNat n).sI 151 (1 + 6 * f + 2).toNat k) := by
  have hw := hi.cw
  have hs := hi.st
  have m3 := hw.1.1; have m4 := hw.2.1.1; have m5 := hw.2.2.1.1
  generalize h2d : (((h.sI (12 + 4 + f.toNat) 0 n).sI (12 + 4 + f.toNat) 1 k).sI 151 (1 + 6 * f + 1).toNat n).sI 151 (1 + 6 * f + 2).toNat k = h2
  have o : ∀ a j : Nat, ¬ (a = 12 + 4 + f.toNat ∧ j < 2) → ¬ (a = 151 ∧ (j = (1 + 6 * f + 1).toNat ∨ j = (1 + 6 * f + 2).toNat)) → h2.I a j = h.I a j := fun a j q1 q2 => by
    rw [← h2d, sI_I, if_neg (by omega), sI_I, if_neg (by omega), sI_I, if_neg (by omega), sI_I, if_neg (by omega)]
  have a0 : h2.I (12 + 4 + f.toNat) 0 = n ∧ h2.I (12 + 4 + f.toNat) 1 = k := by
    constructor
    · rw [← h2d, sI_I, if_neg (by omega), sI_I, if_neg (by omega), sI_I, if_neg (by omega), sI_I, if_pos ⟨rfl, rfl⟩]
    · rw [← h2d, sI_I, if_neg (by omega), sI_I, if_neg (by omega), sI_I, if_pos ⟨rfl, rfl⟩]
  have b0 : h2.I 151 (1 + 6 * f + 1).toNat = n ∧ h2.I 151 (1 + 6 * f + 2).toNat = k := by
    constructor
    · rw [← h2d, sI_I, if_neg (by omega), sI_I, if_pos ⟨rfl, rfl⟩]
    · rw [← h2d, sI_I, if_pos ⟨rfl, rfl⟩]
  clear h2d
  have z := hi.rf.2 f hf.1 (by rw [hs.1.1]; exact hf.2)
  have hF : RF h2 (upF (cFs h 12) f.toNat (n, k, h.I (12 + 4 + f.toNat) 2, h.I (12 + 4 + f.toNat) 3, h.I (12 + 4 + f.toNat) 4)) := by
    refine ⟨by rw [o 151 0 (by omega) (by omega)]; exact hi.rf.1, fun i i0 i1 => ?_⟩
    rw [o 151 0 (by omega) (by omega)] at i1
    have y := hi.rf.2 i i0 i1
    rw [hs.1.1] at i1
    by_cases q : i = f
    · subst q
      unfold upF
      rw [if_pos rfl]
      have z1 := z.1
      unfold RFg at z1
      refine ⟨?_, ⟨⟨hn.1, hn.2.1, z.2.1.2.2.1, z.2.1.2.2.2.1, z.2.1.2.2.2.2.1, hg⟩, hn.2.2.1, hn.2.2.2, z.2.2.2.2⟩⟩
      unfold RFg
      rw [b0.1, b0.2, o 151 _ (by omega) (by omega), o 151 _ (by omega) (by omega), o 151 _ (by omega) (by omega), o 151 _ (by omega) (by omega)]
      exact ⟨z1.1, rfl, rfl, z1.2.2.2.1, z1.2.2.2.2.1, z1.2.2.2.2.2⟩
    · unfold upF
      rw [if_neg (by omega)]
      refine ⟨?_, y.2⟩
      have y1 := y.1
      unfold RFg at y1 ⊢
      rw [o 151 _ (by omega) (by omega), o 151 _ (by omega) (by omega), o 151 _ (by omega) (by omega), o 151 _ (by omega) (by omega), o 151 _ (by omega) (by omega), o 151 _ (by omega) (by omega)]
      exact y1
  have x9 := o 12 9 (by omega) (by omega)
  have x2 := o 150 2 (by omega) (by omega)
  have c3 := o 12 3 (by omega) (by omega)
  have c4 := o 12 4 (by omega) (by omega)
  have c5_ := o 12 5 (by omega) (by omega)
  have d6 := o 12 6 (by omega) (by omega)
  have d7 := o 12 7 (by omega) (by omega)
  have d8 := o 12 8 (by omega) (by omega)
  refine hi.re (IvC.re hF (hi.rv.p (o 151 0 (by omega) (by omega)) (fun j hj hk => o 151 j (by omega) (by omega))) (hi.rs.p (fun j hj hk => o 151 j (by omega) (by omega))) ?_ ?_ ?_ ?_ ?_ ?_ ?_ (fun i i0 i1 => ?_) (fun i i0 i1 => ?_) (fun i i0 i1 => ?_)) x9 (fun a j _ q1 q2 => o a j (by omega) (by omega))
  · rw [o 151 0 (by omega) (by omega), c3]; exact hs.1.1
  · rw [o 151 37 (by omega) (by omega), c4]; exact hs.2.1.1
  · rw [o 151 71 (by omega) (by omega), c5_]; exact hs.2.2.1.1
  · rw [d6, d7, d8, o 151 68 (by omega) (by omega), o 151 69 (by omega) (by omega), o 151 70 (by omega) (by omega)]; exact hs.2.2.2
  · rw [d6, d7, d8]; exact hw.2.2.2.1
  · rw [x9]; exact hw.2.2.2.2
  · rw [x9, x2]; exact hi.rc
  · rw [c3] at i1
    by_cases q : i = f
    · subst q
      unfold upF cFs c5
      rw [if_pos rfl, a0.1, a0.2, o _ 2 (by omega) (by omega), o _ 3 (by omega) (by omega), o _ 4 (by omega) (by omega)]
    · unfold upF
      rw [if_neg (by omega)]
      exact (c5_eq (fun j => o _ j (by omega) (by omega))).symm
  · exact (c5_eq (fun j => o _ j (by omega) (by omega))).symm
  · exact (cSs_eq (fun j => o _ j (by omega) (by omega))).symm
set_option maxRecDepth 100000 in
set_option maxHeartbeats 1000000 in
theorem lc_recut {G : GX} {R : Room} {Z : ZT} {y : LY} {h : HM} {cs : Nat × Nat} (hY : Lay y) (hi : Inv h) {at_ : Int} (hat : 0 ≤ at_ ∧ at_ + 7 ≤ G.len) (hlen : G.len < 2147483648) (hR : RO R 20 0 0 cs) (kk : ∀ h2, Inv h2 → Go G mL_law R Z y 2060 [some (.ref 8), some (.ref 9), some (.ref 150), some (.int (iZ at_))] [] h2 cs) : Go G mL_law R Z y 1390 [some (.ref 8), some (.ref 9), some (.ref 150), some (.int (iZ at_))] [] h cs := by
  have es := hi.st
  have hw := hi.cw
  have e0 := es.1.1
  have e1 := es.2.1.1
  have e5 := es.2.2.1.1
  have e6 := es.2.2.2
  have w6 := hw.2.2.2.1
  have w9 := hw.2.2.2.2
  have er := hi.rc
  have r1 := scV_r G (at_ + 1)
  have r2 := scV_r G (at_ + 2)
  have r3 := scV_r G (at_ + 3)
  have r4 := scV_r G (at_ + 4)
  have r5 := scV_r G (at_ + 5)
  have r6 := scV_r G (at_ + 6)
  refine g_aload_n dL_law_1390 rfl rfl (g_aload_n dL_law_1391 rfl rfl (g_iload_n dL_law_1392 rfl rfl (g_iconst dL_law_1393 (g_iadd dL_law_1394 (g_sld dL_law_1395 ⟨by omega, by omega, by omega⟩ (g_aload_n dL_law_1396 rfl rfl (g_iload_n dL_law_1397 rfl rfl (g_iconst dL_law_1398 (g_iadd dL_law_1399 (g_sld dL_law_1400 ⟨by omega, by omega, by omega⟩ (g_aload_n dL_law_1401 rfl rfl ?_)))))))))))
  refine g_iload_n dL_law_1402 rfl rfl (g_iconst dL_law_1403 (g_iadd dL_law_1404 (g_sld dL_law_1405 ⟨by omega, by omega, by omega⟩ ?_)))
  refine cv_L_125 (M := mL_law) rfl dL_law_1406 (yo9 hY) hR (Nat.le_of_ble_eq_true rfl) (e_X8_recut hY r1 r2 r3 hw.F) (kQX fun v1406 h1406 hq1406 => ?_)
  have q151 : ∀ j, h1406.I 151 j = h.I 151 j := fun j => (by have m3 := hw.1.1; rcases hq1406 with ⟨_, _, z⟩ | ⟨x1, _, z⟩; (rw [z]); (rw [z, sI_I, if_neg (by omega), sI_I, if_neg (by omega)]))
  have hR1 : RF h1406 (cFs h 12) := hi.rf.q q151
  have n1 : h1406.I 151 0 = h.I 12 3 := by rw [q151]; exact e0
  refine g_aload_n dL_law_1409 rfl rfl (g_aload_n dL_law_1410 rfl rfl (g_iload_n dL_law_1411 rfl rfl (g_iconst dL_law_1412 (g_iadd dL_law_1413 (g_sld dL_law_1414 ⟨by omega, by omega, by omega⟩ (g_aload_n dL_law_1415 rfl rfl (g_iload_n dL_law_1416 rfl rfl (g_iconst dL_law_1417 (g_iadd dL_law_1418 (g_sld dL_law_1419 ⟨by omega, by omega, by omega⟩ (g_aload_n dL_law_1420 rfl rfl ?_)))))))))))
  refine g_iload_n dL_law_1421 rfl rfl (g_iconst dL_law_1422 (g_iadd dL_law_1423 (g_sld dL_law_1424 ⟨by omega, by omega, by omega⟩ ?_)))
  refine cv_L_128 (M := mL_law) rfl dL_law_1425 (yo150 hY) hR (Nat.le_of_ble_eq_true rfl) (e_X9_recut hY hR1 r1 r2 r3) (kQX fun v1425 h1425 hq1425 => ?_)
  rw [n1] at hq1425
  have hx : v1406 = v1425 ∧ Inv h1425 := (by rcases hq1406 with ⟨a1, a2, a3⟩ | ⟨a1, a2, a3⟩ <;> rcases hq1425 with ⟨b1, b2, b3⟩ | ⟨b1, b2, b3⟩ <;> first | exact ⟨a2.trans b2.symm, by rw [b3, a3]; exact hi⟩ | exact absurd b1 a1 | exact absurd a1 b1 | exact ⟨a2.trans b2.symm, by rw [b3, a3]; exact hi.rct a1.1 a1.2.1 a1.2.2⟩)
  refine g_ieqS 2060 dL_law_1428 rfl hx.1 ?_
  exact kk _ hx.2
set_option maxRecDepth 100000 in
set_option maxHeartbeats 1000000 in
theorem lc_mend {G : GX} {R : Room} {Z : ZT} {y : LY} {h : HM} {cs : Nat × Nat} (hY : Lay y) (hi : Inv h) {at_ : Int} (hat : 0 ≤ at_ ∧ at_ + 7 ≤ G.len) (hlen : G.len < 2147483648) (hR : RO R 20 0 0 cs) (kk : ∀ h2, Inv h2 → Go G mL_law R Z y 2060 [some (.ref 8), some (.ref 9), some (.ref 150), some (.int (iZ at_))] [] h2 cs) : Go G mL_law R Z y 1433 [some (.ref 8), some (.ref 9), some (.ref 150), some (.int (iZ at_))] [] h cs := by
  have es := hi.st
  have hw := hi.cw
  have e0 := es.1.1
  have e1 := es.2.1.1
  have e5 := es.2.2.1.1
  have e6 := es.2.2.2
  have w6 := hw.2.2.2.1
  have w9 := hw.2.2.2.2
  have er := hi.rc
  have m3 := hw.1.1
  have r1 := scV_r G (at_ + 1)
  have r2 := scV_r G (at_ + 2)
  have r3 := scV_r G (at_ + 3)
  have r4 := scV_r G (at_ + 4)
  have r5 := scV_r G (at_ + 5)
  have r6 := scV_r G (at_ + 6)
  refine g_aload_n dL_law_1433 rfl rfl (g_aload_n dL_law_1434 rfl rfl (g_iload_n dL_law_1435 rfl rfl (g_iconst dL_law_1436 (g_iadd dL_law_1437 (g_sld dL_law_1438 ⟨by omega, by omega, by omega⟩ ?_)))))
  refine cv_L_129 (M := mL_law) rfl dL_law_1439 (yo9 hY) hR (Nat.le_of_ble_eq_true rfl) (e_X8_mend hY r1 hw.F) (kQX fun v1439 h1439 hq1439 => ?_)
  have hi1 : Inv h1439 := hi.fr (fun a j q => by unfold Sees at q; rw [(hq1439.1 a (by omega) (by omega) (by omega)).1])
  have q151 : ∀ j, h1439.I 151 j = h.I 151 j := fun j => by rw [(hq1439.1 151 (by omega) (by omega) (by omega)).1]
  have hR1 : RF h1439 (cFs h 12) := hi.rf.q q151
  have n1 : h1439.I 151 0 = h.I 12 3 := by rw [q151]; exact e0
  refine g_aload_n dL_law_1442 rfl rfl (g_aload_n dL_law_1443 rfl rfl (g_iload_n dL_law_1444 rfl rfl (g_iconst dL_law_1445 (g_iadd dL_law_1446 (g_sld dL_law_1447 ⟨by omega, by omega, by omega⟩ ?_)))))
  refine cv_L_132 (M := mL_law) rfl dL_law_1448 (yo150 hY) hR (Nat.le_of_ble_eq_true rfl) (e_X9_mend hY hR1 r1) (kQX fun v1448 h1448 hq1448 => ?_)
  have z2 := hq1448.2
  rw [n1] at z2
  have hx : v1439 = v1448 := (by rcases hq1439.2 with ⟨a1, a2⟩ | ⟨a1, F2, c2, a2, a3⟩ <;> rcases z2 with ⟨b1, b2⟩ | ⟨b1, F3, c3, b2, b3⟩ <;> first | exact a2.trans b2.symm | exact absurd b1 a1 | exact absurd a1 b1 | (have u := MdR.uniq (EqF.rfl' (cFs h 12)) _ _ _ _ _ (by omega) a2 b2; rw [a3, b3, u.2, u.1.hmSe (by omega) _ (by omega)]))
  have hi2 : Inv h1448 := hi1.fr (fun a j q => hq1448.1.2 a j (by unfold Sees at q; omega) (by unfold Sees at q; omega))
  refine g_ieqS 2060 dL_law_1451 rfl hx ?_
  exact kk _ hi2
