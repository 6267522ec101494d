/-! the clock and the row changed together -/
theorem RF.p {h h1 : HM} {F : Nat → Fg} (r : RF h F) (e : ∀ j, j < 37 → h1.I 151 j = h.I 151 j) : RF h1 F := by
  have n := r.1
  unfold RF
  rw [e 0 (by omega)]
  refine ⟨n, fun i i0 i1 => ⟨?_, (r.2 i i0 i1).2⟩⟩
  have q := (r.2 i i0 i1).1
  unfold RFg at *
  rw [e _ (by omega), e _ (by omega), e _ (by omega), e _ (by omega), e _ (by omega), e _ (by omega)]; exact q
theorem RV.p {h h1 : HM} {V : Nat → Fg} (r : RV h V) (e0 : h1.I 151 0 = h.I 151 0) (e : ∀ j, 37 ≤ j → j < 68 → h1.I 151 j = h.I 151 j) : RV h1 V := by
  have n := r.1
  unfold RV
  rw [e0, e 37 (by omega) (by omega)]
  refine ⟨n, fun i i0 i1 => ⟨?_, (r.2 i i0 i1).2⟩⟩
  have q := (r.2 i i0 i1).1
  unfold RVg at *
  rw [e _ (by omega) (by omega), e _ (by omega) (by omega), e _ (by omega) (by omega), e _ (by omega) (by omega), e _ (by omega) (by omega)]; exact q
theorem RS.p {h h1 : HM} {S : Nat → Sg} (r : RS h S) (e : ∀ j, 71 ≤ j → j < 108 → h1.I 151 j = h.I 151 j) : RS h1 S := by
  have n := r.1
  unfold RS
  rw [e 71 (by omega) (by omega)]
  refine ⟨n, fun i i0 i1 => ⟨?_, (r.2 i i0 i1).2⟩⟩
  have q := (r.2 i i0 i1).1
  unfold RSg at *
  rw [e _ (by omega) (by omega), e _ (by omega) (by omega), e _ (by omega) (by omega)]; exact q
theorem IvC.re {h2 : HM} {F V : Nat → Fg} {S : Nat → Sg} (hF : RF h2 F) (hV : RV h2 V) (hS : RS h2 S) (n3 : h2.I 151 0 = h2.I 12 3) (n4 : h2.I 151 37 = h2.I 12 4) (n5 : h2.I 151 71 = h2.I 12 5) (n6 : h2.I 151 68 = h2.I 12 6 ∧ h2.I 151 69 = h2.I 12 7 ∧ h2.I 151 70 = h2.I 12 8) (w6 : (-4 ≤ h2.I 12 6 ∧ h2.I 12 6 ≤ 8) ∧ (-4 ≤ h2.I 12 7 ∧ h2.I 12 7 ≤ 365) ∧ (-4 ≤ h2.I 12 8 ∧ h2.I 12 8 ≤ 365)) (w9 : 0 ≤ h2.I 12 9 ∧ h2.I 12 9 ≤ 3) (n2 : h2.I 150 2 = h2.I 12 9) (eF : ∀ i : Int, 0 ≤ i → i < h2.I 12 3 → F i.toNat = cFs h2 12 i.toNat) (eV : ∀ i : Int, 0 ≤ i → i < h2.I 12 4 → V i.toNat = cVs h2 12 i.toNat) (eS : ∀ i : Int, 0 ≤ i → i < h2.I 12 5 → S i.toNat = cSs h2 12 i.toNat) : IvC h2 := by
  refine ⟨⟨⟨by rw [← n3]; exact hF.1, fun i i0 i1 => ?_⟩, ⟨by rw [← n4]; exact hV.1, fun i i0 i1 => ?_⟩, ⟨by rw [← n5]; exact hS.1, fun i i0 i1 => ?_⟩, w6, w9⟩, ⟨⟨n3, fun i i0 i1 => ?_⟩, ⟨n4, fun i i0 i1 => ?_⟩, ⟨n5, fun i i0 i1 => ?_⟩, n6⟩, n2⟩
  · rw [← eF i i0 i1]; exact (hF.2 i i0 (by omega)).2
  · rw [← eV i i0 i1, ← n3]; exact (hV.2 i i0 (by omega)).2
  · rw [← eS i i0 i1]; exact (hS.2 i i0 (by omega)).2
  · rw [← eF i i0 i1]; exact (hF.2 i i0 (by omega)).1
  · rw [← eV i i0 i1]; exact (hV.2 i i0 (by omega)).1
  · rw [← eS i i0 i1]; exact (hS.2 i i0 (by omega)).1
theorem Inv.re {h h2 : HM} (hi : Inv h) (c : IvC h2) (n9 : h2.I 12 9 = h.I 12 9) (e : ∀ a j : Nat, Sees a j → ¬ (12 ≤ a ∧ a < 40) → ¬ (a = 151 ∧ j < 108) → h2.I a j = h.I a j) : Inv h2 := by
  refine Inv.of c (hi.vK.fr (fun a j q => ?_)) (hi.vS.fr (fun a j q => e a j (by unfold Sees; omega) (by omega) (by omega))) (hi.vT.fr (fun a j q => e a j (by unfold Sees; omega) (by omega) (by omega))) (hi.vF.fr (fun a j q => e a j (by unfold Sees; omega) (by omega) (by omega)))
  by_cases z : a = 12 ∧ j = 9
  · rw [z.1, z.2]; exact n9
  · exact e a j (by unfold Sees; omega) (by omega) (by omega)
theorem cSs_eq {h h1 : HM} {c i : Nat} (e : ∀ j, h1.I (c + 16 + i) j = h.I (c + 16 + i) j) : cSs h1 c i = cSs h c i := by
  unfold cSs; rw [e, e, e]
theorem Inv.stk {h : HM} (hi : Inv h) {p q e : Int} (hp : -4 ≤ p ∧ p ≤ 8) (hq : -4 ≤ q ∧ q ≤ 365) (he : -4 ≤ e ∧ e ≤ 365) : Inv (wS (wJ h 12 p q e) p q e) := by
  generalize h2d : wS (wJ h 12 p q e) p q e = h2
  have o : ∀ a j : Nat, ¬ (a = 12 ∧ 6 ≤ j ∧ j ≤ 8) → ¬ (a = 151 ∧ 68 ≤ j ∧ j ≤ 70) → h2.I a j = h.I a j := fun a j q1 q2 => by
    rw [← h2d]; unfold wS wJ
    rw [sI_I, if_neg (by omega), sI_I, if_neg (by omega), sI_I, if_neg (by omega), sI_I, if_neg (by omega), sI_I, if_neg (by omega), sI_I, if_neg (by omega)]
  have a6 : h2.I 12 6 = p ∧ h2.I 12 7 = q ∧ h2.I 12 8 = e := by
    rw [← h2d]; unfold wS wJ
    refine ⟨?_, ?_, ?_⟩
    · rw [sI_I, if_neg (by omega), sI_I, if_neg (by omega), sI_I, if_neg (by omega), sI_I, if_neg (by omega), sI_I, if_neg (by omega), sI_I, if_pos ⟨rfl, rfl⟩]
    · rw [sI_I, if_neg (by omega), sI_I, if_neg (by omega), sI_I, if_neg (by omega), sI_I, if_neg (by omega), sI_I, if_pos ⟨rfl, rfl⟩]
    · rw [sI_I, if_neg (by omega), sI_I, if_neg (by omega), sI_I, if_neg (by omega), sI_I, if_pos ⟨rfl, rfl⟩]
  have b6 : h2.I 151 68 = p ∧ h2.I 151 69 = q ∧ h2.I 151 70 = e := by
    rw [← h2d]; unfold wS
    refine ⟨?_, ?_, ?_⟩
    · rw [sI_I, if_neg (by omega), sI_I, if_neg (by omega), sI_I, if_pos ⟨rfl, rfl⟩]
    · rw [sI_I, if_neg (by omega), sI_I, if_pos ⟨rfl, rfl⟩]
    · rw [sI_I, if_pos ⟨rfl, rfl⟩]
  have hw := hi.cw
  have hs := hi.st
  have x9 := o 12 9 (by omega) (by omega)
  have x2 := o 150 2 (by omega) (by omega)
  have xr := hi.rc
  have c3 := o 12 3 (by omega) (by omega)
  have c4 := o 12 4 (by omega) (by omega)
  have c5_ := o 12 5 (by omega) (by omega)
  have m3 := hw.1.1; have m4 := hw.2.1.1; have m5 := hw.2.2.1.1
  refine hi.re (IvC.re (hi.rf.p (fun j hj => o 151 j (by omega) (by omega))) (hi.rv.p (o 151 0 (by omega) (by omega)) (fun j hj hk => o 151 j (by omega) (by omega))) (hi.rs.p (fun j hj hk => o 151 j (by omega) (by omega))) ?_ ?_ ?_ ?_ ?_ ?_ ?_ (fun i i0 i1 => ?_) (fun i i0 i1 => ?_) (fun i i0 i1 => ?_)) (o 12 9 (by omega) (by omega)) (fun a j _ q1 q2 => o a j (by omega) (by omega))
  · rw [o 151 0 (by omega) (by omega), c3]; exact hs.1.1
  · rw [o 151 37 (by omega) (by omega), c4]; exact hs.2.1.1
  · rw [o 151 71 (by omega) (by omega), c5_]; exact hs.2.2.1.1
  · rw [a6.1, a6.2.1, a6.2.2]; exact b6
  · rw [a6.1, a6.2.1, a6.2.2]; exact ⟨hp, hq, he⟩
  · rw [x9]; exact hw.2.2.2.2
  · rw [x9, x2]; exact xr
  · exact (c5_eq (fun j => o _ j (by omega) (by omega))).symm
  · exact (c5_eq (fun j => o _ j (by omega) (by omega))).symm
  · exact (cSs_eq (fun j => o _ j (by omega) (by omega))).symm
set_option maxRecDepth 100000 in
set_option maxHeartbeats 1000000 in
theorem lc_stick {G : GX} {R : Room} {Z : ZT} {y : LY} {h : HM} {cs : Nat × Nat} (hY : Lay y) (hi : Inv h) {at_ : Int} (hat : 0 ≤ at_ ∧ at_ + 7 ≤ G.len) (hlen : G.len < 2147483648) (hR : RO R 20 0 0 cs) (kk : ∀ h2, Inv h2 → Go G mL_law R Z y 2060 [some (.ref 8), some (.ref 9), some (.ref 150), some (.int (iZ at_))] [] h2 cs) : Go G mL_law R Z y 1291 [some (.ref 8), some (.ref 9), some (.ref 150), some (.int (iZ at_))] [] h cs := by
  have es := hi.st
  have hw := hi.cw
  have e0 := es.1.1
  have e1 := es.2.1.1
  have e5 := es.2.2.1.1
  have e6 := es.2.2.2
  have w6 := hw.2.2.2.1
  have w9 := hw.2.2.2.2
  have er := hi.rc
  have r1 := scV_r G (at_ + 1)
  have r2 := scV_r G (at_ + 2)
  have r3 := scV_r G (at_ + 3)
  have r4 := scV_r G (at_ + 4)
  have r5 := scV_r G (at_ + 5)
  have r6 := scV_r G (at_ + 6)
  refine g_aload_n dL_law_1291 rfl rfl (g_aload_n dL_law_1292 rfl rfl (g_iload_n dL_law_1293 rfl rfl (g_iconst dL_law_1294 (g_iadd dL_law_1295 (g_sld dL_law_1296 ⟨by omega, by omega, by omega⟩ (g_aload_n dL_law_1297 rfl rfl (g_iload_n dL_law_1298 rfl rfl (g_iconst dL_law_1299 (g_iadd dL_law_1300 (g_sld dL_law_1301 ⟨by omega, by omega, by omega⟩ (g_aload_n dL_law_1302 rfl rfl ?_)))))))))))
  refine g_iload_n dL_law_1303 rfl rfl (g_iconst dL_law_1304 (g_iadd dL_law_1305 (g_sld dL_law_1306 ⟨by omega, by omega, by omega⟩ ?_)))
  refine cv_L_112 (M := mL_law) rfl dL_law_1307 (yo9 hY) hR (Nat.le_of_ble_eq_true rfl) (e_X8_stick hY r1 r2 r3 (by omega)) (kQX fun v1307 h1307 hq1307 => ?_)
  have e9 : h1307.I 151 68 = h.I 12 6 := (by rcases hq1307 with ⟨_, _, z⟩ | ⟨_, _, z⟩ | ⟨_, _, z⟩; (rw [z]; exact e6.1); (rw [z]; unfold wJ; rw [sI_I, if_neg (by omega), sI_I, if_neg (by omega), sI_I, if_neg (by omega)]; exact e6.1); (rw [z]; unfold wJ; rw [sI_I, if_neg (by omega), sI_I, if_neg (by omega), sI_I, if_neg (by omega)]; exact e6.1))
  refine g_aload_n dL_law_1310 rfl rfl (g_aload_n dL_law_1311 rfl rfl (g_iload_n dL_law_1312 rfl rfl (g_iconst dL_law_1313 (g_iadd dL_law_1314 (g_sld dL_law_1315 ⟨by omega, by omega, by omega⟩ (g_aload_n dL_law_1316 rfl rfl (g_iload_n dL_law_1317 rfl rfl (g_iconst dL_law_1318 (g_iadd dL_law_1319 (g_sld dL_law_1320 ⟨by omega, by omega, by omega⟩ (g_aload_n dL_law_1321 rfl rfl ?_)))))))))))
  refine g_iload_n dL_law_1322 rfl rfl (g_iconst dL_law_1323 (g_iadd dL_law_1324 (g_sld dL_law_1325 ⟨by omega, by omega, by omega⟩ ?_)))
  refine cv_L_116 (M := mL_law) rfl dL_law_1326 (yo150 hY) hR (Nat.le_of_ble_eq_true rfl) (e_X9_stick hY r1 r2 r3 (by rw [e9]; omega)) (kQX fun v1326 h1326 hq1326 => ?_)
  rw [e9] at hq1326
  have hx : v1307 = v1326 ∧ Inv h1326 := (by rcases hq1307 with ⟨a1, a2, a3⟩ | ⟨a1, a2, a3⟩ | ⟨a1, a2, a3⟩ <;> rcases hq1326 with ⟨b1, b2, b3⟩ | ⟨b1, b2, b3⟩ | ⟨b1, b2, b3⟩ <;> first | (exfalso; omega) | exact ⟨a2.trans b2.symm, by rw [b3, a3]; exact hi⟩ | exact ⟨a2.trans b2.symm, by rw [b3, a3]; exact hi.stk (by omega) (by omega) (by omega)⟩)
  refine g_ieqS 2060 dL_law_1329 rfl hx.1 ?_
  exact kk _ hx.2
