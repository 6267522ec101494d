theorem Inv.fgt {h : HM} (hi : Inv h) {n : Int} (hn : 0 ≤ n ∧ n ≤ h.I 12 5) : Inv ((h.sI 12 5 n).sI 151 71 n) := by
  have e : ∀ a j : Nat, ¬ (a = 12 ∧ j = 5) → ¬ (a = 151 ∧ j = 71) → ((h.sI 12 5 n).sI 151 71 n).I a j = h.I a j := fun a j q1 q2 => by rw [sI_I, if_neg q2, sI_I, if_neg q1]
  have e5 : ((h.sI 12 5 n).sI 151 71 n).I 12 5 = n := by rw [sI_I, if_neg (by omega), sI_I, if_pos ⟨rfl, rfl⟩]
  have g71 : ((h.sI 12 5 n).sI 151 71 n).I 151 71 = n := by rw [sI_I, if_pos ⟨rfl, rfl⟩]
  have hw := hi.cw
  have hs := hi.st
  have n3 := hw.1.1; have n4 := hw.2.1.1; have n5 := hw.2.2.1.1
  have f : ∀ i : Int, 0 ≤ i → i < h.I 12 3 → cFs ((h.sI 12 5 n).sI 151 71 n) 12 i.toNat = cFs h 12 i.toNat := fun i i0 i1 => c5_eq (fun j => e _ j (by omega) (by omega))
  have v : ∀ i : Int, 0 ≤ i → i < h.I 12 4 → cVs ((h.sI 12 5 n).sI 151 71 n) 12 i.toNat = cVs h 12 i.toNat := fun i i0 i1 => c5_eq (fun j => e _ j (by omega) (by omega))
  have s : ∀ i : Int, 0 ≤ i → i < h.I 12 5 → cSs ((h.sI 12 5 n).sI 151 71 n) 12 i.toNat = cSs h 12 i.toNat := fun i i0 i1 => by
    unfold cSs; rw [e _ _ (by omega) (by omega), e _ _ (by omega) (by omega), e _ _ (by omega) (by omega)]
  refine Inv.of ⟨?_, ?_, by rw [e 150 2 (by omega) (by omega), e 12 9 (by omega) (by omega)]; exact hi.rc⟩ (hi.vK.fr (fun a j q => e a j (by omega) (by omega))) (hi.vS.fr (fun a j q => e a j (by omega) (by omega))) (hi.vT.fr (fun a j q => e a j (by omega) (by omega))) (hi.vF.fr (fun a j q => e a j (by omega) (by omega)))
  · unfold CkW
    rw [e5, e 12 3 (by omega) (by omega), e 12 4 (by omega) (by omega), e 12 6 (by omega) (by omega), e 12 7 (by omega) (by omega), e 12 8 (by omega) (by omega), e 12 9 (by omega) (by omega)]
    exact ⟨⟨n3, fun i i0 i1 => by rw [f i i0 i1]; exact hw.1.2 i i0 i1⟩, ⟨n4, fun i i0 i1 => by rw [v i i0 i1]; exact hw.2.1.2 i i0 i1⟩, ⟨by omega, fun i i0 i1 => by rw [s i i0 (by omega)]; exact hw.2.2.1.2 i i0 (by omega)⟩, hw.2.2.2⟩
  · unfold StR
    rw [e5, g71, e 12 3 (by omega) (by omega), e 12 4 (by omega) (by omega), e 12 6 (by omega) (by omega), e 12 7 (by omega) (by omega), e 12 8 (by omega) (by omega), e 151 0 (by omega) (by omega), e 151 37 (by omega) (by omega), e 151 68 (by omega) (by omega), e 151 69 (by omega) (by omega), e 151 70 (by omega) (by omega)]
    refine ⟨⟨hs.1.1, fun i i0 i1 => ?_⟩, ⟨hs.2.1.1, fun i i0 i1 => ?_⟩, ⟨rfl, fun i i0 i1 => ?_⟩, hs.2.2.2⟩
    · rw [f i i0 i1]
      unfold RGf
      rw [e 151 _ (by omega) (by omega), e 151 _ (by omega) (by omega), e 151 _ (by omega) (by omega), e 151 _ (by omega) (by omega), e 151 _ (by omega) (by omega), e 151 _ (by omega) (by omega)]
      exact hs.1.2 i i0 i1
    · rw [v i i0 i1]
      unfold RGv
      rw [e 151 _ (by omega) (by omega), e 151 _ (by omega) (by omega), e 151 _ (by omega) (by omega), e 151 _ (by omega) (by omega), e 151 _ (by omega) (by omega)]
      exact hs.2.1.2 i i0 i1
    · rw [s i i0 (by omega)]
      unfold RGs
      rw [e 151 _ (by omega) (by omega), e 151 _ (by omega) (by omega), e 151 _ (by omega) (by omega)]
      exact hs.2.2.1.2 i i0 (by omega)
set_option maxRecDepth 100000 in
set_option maxHeartbeats 1000000 in
theorem lc_forget {G : GX} {R : Room} {Z : ZT} {y : LY} {h : HM} {cs : Nat × Nat} (hY : Lay y) (hi : Inv h) {at_ : Int} (hat : 0 ≤ at_ ∧ at_ + 7 ≤ G.len) (hlen : G.len < 2147483648) (hR : RO R 20 0 0 cs) (kk : ∀ h2, Inv h2 → Go G mL_law R Z y 2060 [some (.ref 8), some (.ref 9), some (.ref 150), some (.int (iZ at_))] [] h2 cs) : Go G mL_law R Z y 1601 [some (.ref 8), some (.ref 9), some (.ref 150), some (.int (iZ at_))] [] h cs := by
  have es := hi.st
  have hw := hi.cw
  have e0 := es.1.1
  have e1 := es.2.1.1
  have e5 := es.2.2.1.1
  have e6 := es.2.2.2
  have w6 := hw.2.2.2.1
  have w9 := hw.2.2.2.2
  have er := hi.rc
  have r1 := scV_r G (at_ + 1)
  have r2 := scV_r G (at_ + 2)
  have r3 := scV_r G (at_ + 3)
  have r4 := scV_r G (at_ + 4)
  have r5 := scV_r G (at_ + 5)
  have r6 := scV_r G (at_ + 6)
  refine g_aload_n dL_law_1601 rfl rfl (g_aload_n dL_law_1602 rfl rfl (g_iload_n dL_law_1603 rfl rfl (g_iconst dL_law_1604 (g_iadd dL_law_1605 (g_sld dL_law_1606 ⟨by omega, by omega, by omega⟩ ?_)))))
  refine cv_L_147 (M := mL_law) rfl dL_law_1607 (yo9 hY) hR (Nat.le_of_ble_eq_true rfl) (e_X8_forget hY r1 hw.2.2.1.1) (kQX fun v1607 h1607 hq1607 => ?_)
  have q151 : ∀ j, h1607.I 151 j = h.I 151 j := fun j => (by rcases hq1607 with ⟨_, _, z⟩ | ⟨_, _, z⟩; (rw [z]); (rw [z, sI_I, if_neg (by omega)]))
  have hS1 := hi.rs.q q151
  have n5 : h1607.I 151 71 = h.I 12 5 := by rw [q151]; exact e5
  refine g_aload_n dL_law_1610 rfl rfl (g_aload_n dL_law_1611 rfl rfl (g_iload_n dL_law_1612 rfl rfl (g_iconst dL_law_1613 (g_iadd dL_law_1614 (g_sld dL_law_1615 ⟨by omega, by omega, by omega⟩ ?_)))))
  refine cv_L_150 (M := mL_law) rfl dL_law_1616 (yo150 hY) hR (Nat.le_of_ble_eq_true rfl) (e_X9_forget hY hS1 r1) (kQX fun v1616 h1616 hq1616 => ?_)
  rw [n5] at hq1616
  have hx : v1607 = v1616 ∧ Inv h1616 := (by rcases hq1607 with ⟨a1, a2, a3⟩ | ⟨a1, a2, a3⟩ <;> rcases hq1616 with ⟨b1, b2, b3⟩ | ⟨b1, b2, b3⟩ <;> first | exact absurd b1 a1 | exact absurd a1 b1 | exact ⟨a2.trans b2.symm, by rw [b3, a3]; exact hi⟩ | exact ⟨a2.trans b2.symm, by rw [b3, a3]; exact hi.fgt a1⟩)
  refine g_ieqS 2060 dL_law_1619 rfl hx.1 ?_
  exact kk _ hx.2
