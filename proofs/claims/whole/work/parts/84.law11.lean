theorem ck_mv {h h1 : HM} {c s : Nat} (hw : CkW h s) (e0 : ∀ j, 3 ≤ j → j ≤ 9 → h1.I c j = h.I s j) (ef : ∀ i j : Nat, (i : Int) < h.I s 3 → j < 5 → h1.I (c + 4 + i) j = h.I (s + 4 + i) j) (ev : ∀ i j : Nat, (i : Int) < h.I s 4 → j < 5 → h1.I (c + 10 + i) j = h.I (s + 10 + i) j) (es : ∀ i j : Nat, (i : Int) < h.I s 5 → j < 3 → h1.I (c + 16 + i) j = h.I (s + 16 + i) j) : CkW h1 c ∧ ∀ g, StR g h s → StR g h1 c := by
  have n3 := hw.1.1; have n4 := hw.2.1.1; have n5 := hw.2.2.1.1
  have f : ∀ i : Int, 0 ≤ i → i < h.I s 3 → cFs h1 c i.toNat = cFs h s i.toNat := fun i i0 i1 => by
    unfold cFs c5; rw [ef _ 0 (by omega) (by omega), ef _ 1 (by omega) (by omega), ef _ 2 (by omega) (by omega), ef _ 3 (by omega) (by omega), ef _ 4 (by omega) (by omega)]
  have v : ∀ i : Int, 0 ≤ i → i < h.I s 4 → cVs h1 c i.toNat = cVs h s i.toNat := fun i i0 i1 => by
    unfold cVs c5; rw [ev _ 0 (by omega) (by omega), ev _ 1 (by omega) (by omega), ev _ 2 (by omega) (by omega), ev _ 3 (by omega) (by omega), ev _ 4 (by omega) (by omega)]
  have s_ : ∀ i : Int, 0 ≤ i → i < h.I s 5 → cSs h1 c i.toNat = cSs h s i.toNat := fun i i0 i1 => by
    unfold cSs; rw [es _ 0 (by omega) (by omega), es _ 1 (by omega) (by omega), es _ 2 (by omega) (by omega)]
  have a3 := e0 3 (by omega) (by omega); have a4 := e0 4 (by omega) (by omega); have a5 := e0 5 (by omega) (by omega); have a6 := e0 6 (by omega) (by omega)
  have a7 := e0 7 (by omega) (by omega); have a8 := e0 8 (by omega) (by omega); have a9 := e0 9 (by omega) (by omega)
  constructor
  · unfold CkW
    rw [a3, a4, a5, a6, a7, a8, a9]
    exact ⟨⟨n3, fun i i0 i1 => by rw [f i i0 i1]; exact hw.1.2 i i0 i1⟩, ⟨n4, fun i i0 i1 => by rw [v i i0 i1]; exact hw.2.1.2 i i0 i1⟩, ⟨n5, fun i i0 i1 => by rw [s_ i i0 i1]; exact hw.2.2.1.2 i i0 i1⟩, hw.2.2.2⟩
  · intro g hg
    unfold StR
    rw [a3, a4, a5, a6, a7, a8]
    exact ⟨⟨hg.1.1, fun i i0 i1 => by rw [f i i0 i1]; exact hg.1.2 i i0 i1⟩, ⟨hg.2.1.1, fun i i0 i1 => by rw [v i i0 i1]; exact hg.2.1.2 i i0 i1⟩, ⟨hg.2.2.1.1, fun i i0 i1 => by rw [s_ i i0 i1]; exact hg.2.2.1.2 i i0 i1⟩, hg.2.2.2⟩
theorem StR.g {g g2 : Nat → Int} {h : HM} {c : Nat} (s : StR g h c) (hw : CkW h c) (e : ∀ j, j < 108 → g2 j = g j) : StR g2 h c := by
  have n3 := hw.1.1; have n4 := hw.2.1.1; have n5 := hw.2.2.1.1
  unfold StR
  rw [e 0 (by omega), e 37 (by omega), e 71 (by omega), e 68 (by omega), e 69 (by omega), e 70 (by omega)]
  refine ⟨⟨s.1.1, fun i i0 i1 => ?_⟩, ⟨s.2.1.1, fun i i0 i1 => ?_⟩, ⟨s.2.2.1.1, fun i i0 i1 => ?_⟩, s.2.2.2⟩
  · have q := s.1.2 i i0 i1
    unfold RGf at q ⊢
    rw [e _ (by omega), e _ (by omega), e _ (by omega), e _ (by omega), e _ (by omega), e _ (by omega)]; exact q
  · have q := s.2.1.2 i i0 i1
    unfold RGv at q ⊢
    rw [e _ (by omega), e _ (by omega), e _ (by omega), e _ (by omega), e _ (by omega)]; exact q
  · have q := s.2.2.1.2 i i0 i1
    unfold RGs at q ⊢
    rw [e _ (by omega), e _ (by omega), e _ (by omega)]; exact q
theorem bc_mv {h h1 : HM} {c s : Nat} (hc : Clk c) (hs : Clk s) (hne : c ≠ s) (hw : CkW h s) (e : ∀ a j : Nat, c ≤ a → a < c + 28 → h1.I a j = (bcH h c s).I a j) : CkW h1 c ∧ ∀ g, StR g h s → StR g h1 c := by
  have n3 := hw.1.1; have n4 := hw.2.1.1; have n5 := hw.2.2.1.1
  refine ck_mv hw (fun j j0 j1 => ?_) (fun i j i0 j0 => ?_) (fun i j i0 j0 => ?_) (fun i j i0 j0 => ?_)
  · rw [e c j (by omega) (by omega)]; exact bcH_c h c s ⟨j0, j1⟩
  · rw [e _ j (by omega) (by omega)]; exact bcH_fig h c s (by omega) (by omega) j0
  · rw [e _ j (by omega) (by omega)]; exact bcH_vot h hc hs hne (by omega) (by omega) (by omega) j0
  · rw [e _ j (by omega) (by omega)]; exact bcH_sig h hc hs hne (by omega) (by omega) (by omega) (by omega) j0
theorem Inv.kpt {h : HM} (hi : Inv h) {k : Nat} (hk : k < 2) : Inv (cpR (((bcH h (86 + 28 * k) 12).sI 69 k 1).sI 152 k 1) (108 * (k + 1)) 0) := by
  have hw := hi.cw
  have m3 := hw.1.1; have m4 := hw.2.1.1; have m5 := hw.2.2.1.1
  generalize h2d : cpR (((bcH h (86 + 28 * k) 12).sI 69 k 1).sI 152 k 1) (108 * (k + 1)) 0 = h2
  have bo : ∀ a j : Nat, ¬ (86 + 28 * k ≤ a ∧ a < 86 + 28 * k + 28) → ¬ (a = 69 ∧ j = k) → ¬ (a = 152 ∧ j = k) → (((bcH h (86 + 28 * k) 12).sI 69 k 1).sI 152 k 1).I a j = h.I a j := fun a j q1 q2 q3 => by
    rw [sI_I, if_neg q3, sI_I, if_neg q2]; exact bcH_out h _ 12 (by omega) (by omega) (by omega) (by omega) j
  have o : ∀ a j : Nat, ¬ (86 + 28 * k ≤ a ∧ a < 86 + 28 * k + 28) → ¬ (a = 69 ∧ j = k) → ¬ (a = 152 ∧ j = k) → ¬ (a = 151 ∧ 108 * (k + 1) ≤ j ∧ j < 108 * (k + 1) + 108) → h2.I a j = h.I a j := fun a j q1 q2 q3 q4 => by
    rw [← h2d]; unfold cpR
    rw [sA_I]
    by_cases z : a = 151
    · rw [if_pos z, if_neg (by omega), z]; exact bo 151 j (by omega) (by omega) (by omega)
    · rw [if_neg z]; exact bo a j q1 q2 q3
  have rn : ∀ j, j < 108 → rwI h2 (108 * (k + 1)) j = h.I 151 j := fun j hj => by
    unfold rwI
    rw [← h2d]; unfold cpR
    rw [sA_I, if_pos rfl, if_pos (by omega), show 108 * (k + 1) + j - 108 * (k + 1) + 0 = j by omega]; exact bo 151 j (by omega) (by omega) (by omega)
  have oc : ∀ a j : Nat, 86 + 28 * k ≤ a → a < 86 + 28 * k + 28 → h2.I a j = (bcH h (86 + 28 * k) 12).I a j := fun a j q1 q2 => by
    rw [← h2d]; unfold cpR
    rw [sA_I, if_neg (by omega), sI_I, if_neg (by omega), sI_I, if_neg (by omega)]
  have p69 : h2.I 69 k = 1 := by rw [← h2d]; unfold cpR; rw [sA_I, if_neg (by omega), sI_I, if_neg (by omega), sI_I, if_pos ⟨rfl, rfl⟩]
  have p152 : h2.I 152 k = 1 := by rw [← h2d]; unfold cpR; rw [sA_I, if_neg (by omega), sI_I, if_pos ⟨rfl, rfl⟩]
  clear h2d
  have mv := bc_mv (c := 86 + 28 * k) (s := 12) (h1 := h2) (im_dec k hk).2 (Or.inl rfl) (by omega) hw oc
  have x9 : h2.I 12 9 = h.I 12 9 := o 12 9 (by omega) (by omega) (by omega) (by omega)
  have c12 := ck_eq (h1 := h2) (c := 12) (fun a j a0 a1 => o a j (by omega) (by omega) (by omega) (by omega)) hw
  refine Inv.of ⟨c12.1, (c12.2 _ hi.st).g c12.1 (fun j hj => o 151 j (by omega) (by omega) (by omega) (by omega)), by rw [x9, o 150 2 (by omega) (by omega) (by omega) (by omega)]; exact hi.rc⟩ ⟨fun k2 hk2 => ?_, fun k2 hk2 hz => ?_⟩ (hi.vS.fr (fun a j q => o a j (by omega) (by omega) (by omega) (by omega))) (hi.vT.fr (fun a j q => o a j (by omega) (by omega) (by omega) (by omega))) (hi.vF.fr (fun a j q => o a j (by omega) (by omega) (by omega) (by omega)))
  · by_cases z : k2 = k
    · rw [z, p69, p152]; exact ⟨rfl, Or.inr rfl⟩
    · rw [o 152 k2 (by omega) (by omega) (by omega) (by omega), o 69 k2 (by omega) (by omega) (by omega) (by omega)]; exact hi.kp k2 hk2
  · by_cases z : k2 = k
    · rw [z]
      refine ⟨mv.1, (mv.2 _ hi.st).g mv.1 rn, ?_⟩
      rw [x9, oc _ 9 (by omega) (by omega)]; exact bcH_c h _ 12 ⟨by omega, by omega⟩
    · rw [o 69 k2 (by omega) (by omega) (by omega) (by omega)] at hz
      have q := hi.im k2 hk2 hz
      have ck := ck_eq (h1 := h2) (c := 86 + 28 * k2) (fun a j a0 a1 => o a j (by omega) (by omega) (by omega) (by omega)) q.1
      refine ⟨ck.1, (ck.2 _ q.2.1).g ck.1 (fun j hj => ?_), ?_⟩
      · unfold rwI; exact o 151 _ (by omega) (by omega) (by omega) (by omega)
      · rw [x9, o _ 9 (by omega) (by omega) (by omega) (by omega)]; exact q.2.2
theorem Inv.bck {h : HM} (hi : Inv h) {k : Nat} (hk : k < 2) (h1k : h.I 69 k = 1) : Inv (cpR (bcH h 12 (86 + 28 * k)) 0 (108 * (k + 1))) := by
  have q := hi.im k hk h1k
  have hw := q.1
  have m3 := hw.1.1; have m4 := hw.2.1.1; have m5 := hw.2.2.1.1
  generalize h2d : cpR (bcH h 12 (86 + 28 * k)) 0 (108 * (k + 1)) = h2
  have bo : ∀ a j : Nat, ¬ (12 ≤ a ∧ a < 40) → (bcH h 12 (86 + 28 * k)).I a j = h.I a j := fun a j q1 => bcH_out h 12 _ (by omega) (by omega) (by omega) (by omega) j
  have o : ∀ a j : Nat, ¬ (12 ≤ a ∧ a < 40) → ¬ (a = 151 ∧ j < 108) → h2.I a j = h.I a j := fun a j q1 q4 => by
    rw [← h2d]; unfold cpR
    rw [sA_I]
    by_cases z : a = 151
    · rw [if_pos z, if_neg (by omega), z]; exact bo 151 j (by omega)
    · rw [if_neg z]; exact bo a j q1
  have rn : ∀ j, j < 108 → h2.I 151 j = rwI h (108 * (k + 1)) j := fun j hj => by
    unfold rwI
    rw [← h2d]; unfold cpR
    rw [sA_I, if_pos rfl, if_pos (by omega), show j - 0 + 108 * (k + 1) = 108 * (k + 1) + j by omega]; exact bo 151 _ (by omega)
  have oc : ∀ a j : Nat, 12 ≤ a → a < 12 + 28 → h2.I a j = (bcH h 12 (86 + 28 * k)).I a j := fun a j q1 q2 => by
    rw [← h2d]; unfold cpR
    rw [sA_I, if_neg (by omega)]
  clear h2d
  have mv := bc_mv (c := 12) (s := 86 + 28 * k) (h1 := h2) (Or.inl rfl) (im_dec k hk).2 (by omega) hw oc
  have x9 : h2.I 12 9 = h.I 12 9 := by rw [oc 12 9 (by omega) (by omega), bcH_c h 12 _ ⟨by omega, by omega⟩]; exact q.2.2
  exact hi.re ⟨mv.1, (mv.2 _ q.2.1).g mv.1 rn, by rw [x9, o 150 2 (by omega) (by omega)]; exact hi.rc⟩ x9 (fun a j _ q1 q2 => o a j q1 q2)
set_option maxRecDepth 100000 in
set_option maxHeartbeats 1000000 in
theorem lc_keep {G : GX} {R : Room} {Z : ZT} {y : LY} {h : HM} {cs : Nat × Nat} (hY : Lay y) (hi : Inv h) {at_ : Int} (hat : 0 ≤ at_ ∧ at_ + 7 ≤ G.len) (hlen : G.len < 2147483648) (hR : RO R 20 0 0 cs) (kk : ∀ h2, Inv h2 → Go G mL_law R Z y 2060 [some (.ref 8), some (.ref 9), some (.ref 150), some (.int (iZ at_))] [] h2 cs) : Go G mL_law R Z y 1839 [some (.ref 8), some (.ref 9), some (.ref 150), some (.int (iZ at_))] [] h cs := by
  have es := hi.st
  have hw := hi.cw
  have e0 := es.1.1
  have e1 := es.2.1.1
  have e5 := es.2.2.1.1
  have e6 := es.2.2.2
  have w6 := hw.2.2.2.1
  have w9 := hw.2.2.2.2
  have er := hi.rc
  have hkp : ∀ k : Int, 0 ≤ k → k < 2 → h.I 152 k.toNat = h.I 69 k.toNat ∧ (h.I 69 k.toNat = 0 ∨ h.I 69 k.toNat = 1) := fun k k0 k1 => hi.kp k.toNat (by omega)
  have m3 := hw.1.1
  have m4 := hw.2.1.1
  have m5 := hw.2.2.1.1
  have r1 := scV_r G (at_ + 1)
  have r2 := scV_r G (at_ + 2)
  have r3 := scV_r G (at_ + 3)
  have r4 := scV_r G (at_ + 4)
  have r5 := scV_r G (at_ + 5)
  have r6 := scV_r G (at_ + 6)
  refine g_aload_n dL_law_1839 rfl rfl (g_aload_n dL_law_1840 rfl rfl (g_iload_n dL_law_1841 rfl rfl (g_iconst dL_law_1842 (g_iadd dL_law_1843 (g_sld dL_law_1844 ⟨by omega, by omega, by omega⟩ ?_)))))
  refine cv_L_172 (M := mL_law) rfl dL_law_1845 (yo9 hY) hR (Nat.le_of_ble_eq_true rfl) (e_X8_keep hY r1 hw.B (fun k0 k1 => (hkp _ k0 k1).2)) (kQX fun v1845 h1845 hq1845 => ?_)
  have e15 : 0 ≤ (scV G (at_ + 1)) → (scV G (at_ + 1)) < 2 → h1845.I 152 (scV G (at_ + 1)).toNat = h.I 69 (scV G (at_ + 1)).toNat := (by intro k0 k1; rw [← (hkp _ k0 k1).1]; rcases hq1845 with ⟨_, _, z⟩ | ⟨_, _, z⟩; (rw [z]); (rw [z, sI_I, if_neg (by omega)]; exact bcH_out h _ 12 (by omega) (by omega) (by omega) (by omega) _))
  refine g_aload_n dL_law_1848 rfl rfl (g_aload_n dL_law_1849 rfl rfl (g_iload_n dL_law_1850 rfl rfl (g_iconst dL_law_1851 (g_iadd dL_law_1852 (g_sld dL_law_1853 ⟨by omega, by omega, by omega⟩ ?_)))))
  refine cv_L_175 (M := mL_law) rfl dL_law_1854 (yo150 hY) hR (Nat.le_of_ble_eq_true rfl) (e_X9_keep hY r1 (fun k0 k1 => by rw [e15 k0 k1]; exact (hkp _ k0 k1).2)) (kQX fun v1854 h1854 hq1854 => ?_)
  have hx : v1845 = v1854 ∧ Inv h1854 := (by rcases hq1845 with ⟨a1, a2, a3⟩ | ⟨a1, a2, a3⟩ <;> rcases hq1854 with ⟨b1, b2, b3⟩ | ⟨b1, b2, b3⟩ <;> first | exact absurd b1 a1 | exact absurd a1 b1 | exact ⟨a2.trans b2.symm, by rw [b3, a3]; exact hi⟩ | (refine ⟨by rw [a2, b2, e15 a1.1 a1.2], ?_⟩; rw [b3, a3, show (108 * ((scV G (at_ + 1)) + 1)).toNat = 108 * ((scV G (at_ + 1)).toNat + 1) by omega]; exact hi.kpt (by omega)))
  refine g_ieqS 2060 dL_law_1857 rfl hx.1 ?_
  exact kk _ hx.2
set_option maxRecDepth 100000 in
set_option maxHeartbeats 1000000 in
theorem e_X8_back2 {G : GX} {y : LY} {h : HM} {d : Nat} (hY : Lay y) {k : Int} (hk : R32 k) (hB : 0 ≤ k → k < 2 → h.I 69 k.toNat = 1 → CkB h (86 + 28 * k.toNat)) (hK : 0 ≤ k → k < 2 → h.I 69 k.toNat = 0 ∨ h.I 69 k.toNat = 1) : EvQX G mX8_back (d + 2) [.ref 9, .int (iZ k)] y h (fun v h1 => (¬ (0 ≤ k ∧ k < 2) ∧ v = -1 ∧ h1 = h) ∨ ((0 ≤ k ∧ k < 2) ∧ ((h.I 69 k.toNat = 0 ∧ v = -2 ∧ h1 = h) ∨ (h.I 69 k.toNat = 1 ∧ v = h.I (86 + 28 * k.toNat) 3 ∧ h1 = bcH h 12 (86 + 28 * k.toNat))))) := by
  have hzk := pI_01 (0 ≤ k ∧ k < 2)
  have hyk := pI_eq1 (P := 0 ≤ k ∧ k < 2)
  refine Ev.of rfl [some (.ref 9), some (.int (iZ k))] rfl (Nat.le_of_ble_eq_true rfl) ?_
  refine g_iload_n dX8_back_0 rfl rfl (cv_X8_296 (M := mX8_back) rfl dX8_back_1 (RO.same _ _ _) (Nat.le_of_ble_eq_true rfl) (e_X8_isImage (by omega)) <| kI ?_)
  refine g_if_ne 9 dX8_back_4 rfl (by omega) (fun c4 => ?_) (fun c4 => ?_)
  · skip
    have hKk := hK (by omega) (by omega)
    refine g_aload_n dX8_back_9 rfl rfl (gf_X8_30 (M := mX8_back) rfl dX8_back_10 (yo9 hY) (yr9_4 hY) (g_iload_n dX8_back_13 rfl rfl (g_zald dX8_back_14 (ya69 hY) ⟨by omega, by omega, by omega⟩ ?_)))
    refine g_if_ne 21 dX8_back_15 rfl (by omega) (fun c15 => ?_) (fun c15 => ?_)
    · skip
      refine g_aload_n dX8_back_21 rfl rfl (gf_X8_19 (M := mX8_back) rfl dX8_back_22 (yo9 hY) (yr9_1 hY) (g_aload_n dX8_back_25 rfl rfl (gf_X8_26 (M := mX8_back) rfl dX8_back_26 (yo9 hY) (yr9_3 hY) (g_iload_n dX8_back_29 rfl rfl (g_aald dX8_back_30 (ya68 hY) (by decide) (D0 := "ClockTeeth$Clock") rfl ⟨by omega, by omega, by omega⟩ (im_r hY (by omega)) (cv_X8_94 (M := mX8_back) rfl dX8_back_31 (ck_o hY clk12) (RO.same _ _ _) (Nat.le_of_ble_eq_true rfl) (e_X0_become hY (Or.inl rfl) (im_c (by omega)) (by omega) (hB (by omega) (by omega) (by omega)).1 (hB (by omega) (by omega) (by omega)).2.1 (hB (by omega) (by omega) (by omega)).2.2.1 (hB (by omega) (by omega) (by omega)).2.2.2) <| kV (g_aload_n dX8_back_34 rfl rfl (gf_X8_19 (M := mX8_back) rfl dX8_back_35 (yo9 hY) (yr9_1 hY) (gf_X8_98 (M := mX8_back) rfl dX8_back_38 (ck_o hY clk12) ?_)))))))))
      exact g_iret dX8_back_41 rfl rfl ⟨Nat.le_refl _, Nat.le_refl _⟩ (by first | exact ⟨-1, rfl, Or.inl ⟨by omega, rfl, rfl⟩⟩ | exact ⟨-2, rfl, Or.inr ⟨by omega, Or.inl ⟨by omega, rfl, rfl⟩⟩⟩ | exact ⟨_, by rw [bcH_3], Or.inr ⟨by omega, Or.inr ⟨by omega, rfl, rfl⟩⟩⟩)
    · skip
      refine g_bipush dX8_back_18 kbm2 ?_
      exact g_iret dX8_back_20 rfl rfl ⟨Nat.le_refl _, Nat.le_refl _⟩ (by first | exact ⟨-1, rfl, Or.inl ⟨by omega, rfl, rfl⟩⟩ | exact ⟨-2, rfl, Or.inr ⟨by omega, Or.inl ⟨by omega, rfl, rfl⟩⟩⟩ | exact ⟨_, by rw [bcH_3], Or.inr ⟨by omega, Or.inr ⟨by omega, rfl, rfl⟩⟩⟩)
  · skip
    refine g_iconst dX8_back_7 ?_
    exact g_iret dX8_back_8 rfl rfl ⟨Nat.le_refl _, Nat.le_refl _⟩ (by first | exact ⟨-1, rfl, Or.inl ⟨by omega, rfl, rfl⟩⟩ | exact ⟨-2, rfl, Or.inr ⟨by omega, Or.inl ⟨by omega, rfl, rfl⟩⟩⟩ | exact ⟨_, by rw [bcH_3], Or.inr ⟨by omega, Or.inr ⟨by omega, rfl, rfl⟩⟩⟩)
set_option maxRecDepth 100000 in
set_option maxHeartbeats 1000000 in
theorem lc_back {G : GX} {R : Room} {Z : ZT} {y : LY} {h : HM} {cs : Nat × Nat} (hY : Lay y) (hi : Inv h) {at_ : Int} (hat : 0 ≤ at_ ∧ at_ + 7 ≤ G.len) (hlen : G.len < 2147483648) (hR : RO R 20 0 0 cs) (kk : ∀ h2, Inv h2 → Go G mL_law R Z y 2060 [some (.ref 8), some (.ref 9), some (.ref 150), some (.int (iZ at_))] [] h2 cs) : Go G mL_law R Z y 1862 [some (.ref 8), some (.ref 9), some (.ref 150), some (.int (iZ at_))] [] h cs := by
  have es := hi.st
  have hw := hi.cw
  have e0 := es.1.1
  have e1 := es.2.1.1
  have e5 := es.2.2.1.1
  have e6 := es.2.2.2
  have w6 := hw.2.2.2.1
  have w9 := hw.2.2.2.2
  have er := hi.rc
  have hkp : ∀ k : Int, 0 ≤ k → k < 2 → h.I 152 k.toNat = h.I 69 k.toNat ∧ (h.I 69 k.toNat = 0 ∨ h.I 69 k.toNat = 1) := fun k k0 k1 => hi.kp k.toNat (by omega)
  have r1 := scV_r G (at_ + 1)
  have r2 := scV_r G (at_ + 2)
  have r3 := scV_r G (at_ + 3)
  have r4 := scV_r G (at_ + 4)
  have r5 := scV_r G (at_ + 5)
  have r6 := scV_r G (at_ + 6)
  refine g_aload_n dL_law_1862 rfl rfl (g_aload_n dL_law_1863 rfl rfl (g_iload_n dL_law_1864 rfl rfl (g_iconst dL_law_1865 (g_iadd dL_law_1866 (g_sld dL_law_1867 ⟨by omega, by omega, by omega⟩ ?_)))))
  refine cv_L_176 (M := mL_law) rfl dL_law_1868 (yo9 hY) hR (Nat.le_of_ble_eq_true rfl) (e_X8_back2 hY r1 (fun k0 k1 kz => (hi.im _ (by omega) kz).1.B) (fun k0 k1 => (hkp _ k0 k1).2)) (kQX fun v1868 h1868 hq1868 => ?_)
  have bo : ∀ a j : Nat, ¬ (12 ≤ a ∧ a < 40) → h1868.I a j = h.I a j := (by intro a j q; rcases hq1868 with ⟨_, _, z⟩ | ⟨x1, ⟨_, _, z⟩ | ⟨x2, _, z⟩⟩; (rw [z]); (rw [z]); (have w := (hi.im (scV G (at_ + 1)).toNat (by omega) x2).1; have m3 := w.1.1; have m4 := w.2.1.1; have m5 := w.2.2.1.1; rw [z]; exact bcH_out h 12 _ (by omega) (by omega) (by omega) (by omega) j))
  have e15 : 0 ≤ (scV G (at_ + 1)) → (scV G (at_ + 1)) < 2 → h1868.I 152 (scV G (at_ + 1)).toNat = h.I 69 (scV G (at_ + 1)).toNat := fun k0 k1 => by rw [bo 152 _ (by omega)]; exact (hkp _ k0 k1).1
  refine g_aload_n dL_law_1871 rfl rfl (g_aload_n dL_law_1872 rfl rfl (g_iload_n dL_law_1873 rfl rfl (g_iconst dL_law_1874 (g_iadd dL_law_1875 (g_sld dL_law_1876 ⟨by omega, by omega, by omega⟩ ?_)))))
  refine cv_L_179 (M := mL_law) rfl dL_law_1877 (yo150 hY) hR (Nat.le_of_ble_eq_true rfl) (e_X9_back hY r1 (fun k0 k1 => by rw [e15 k0 k1]; exact (hkp _ k0 k1).2)) (kQX fun v1877 h1877 hq1877 => ?_)
  have hx : v1868 = v1877 ∧ Inv h1877 := (by rcases hq1868 with ⟨a1, a2, a3⟩ | ⟨a1, ⟨a4, a2, a3⟩ | ⟨a4, a2, a3⟩⟩ <;> rcases hq1877 with ⟨b1, b2, b3⟩ | ⟨b1, ⟨b4, b2, b3⟩ | ⟨b4, b2, b3⟩⟩ <;> first | exact absurd b1 a1 | exact absurd a1 b1 | (exfalso; rw [e15 a1.1 a1.2] at b4; omega) | exact ⟨a2.trans b2.symm, by rw [b3, a3]; exact hi⟩ | (have w := (hi.im (scV G (at_ + 1)).toNat (by omega) a4).2.1.1.1; unfold rwI at w; refine ⟨?_, ?_⟩; (rw [a2, b2, bo 151 _ (by omega), ← w, show (108 * ((scV G (at_ + 1)) + 1)).toNat = 108 * ((scV G (at_ + 1)).toNat + 1) + 0 by omega]); (rw [b3, a3, show (108 * ((scV G (at_ + 1)) + 1)).toNat = 108 * ((scV G (at_ + 1)).toNat + 1) by omega]; exact hi.bck (by omega) a4)))
  refine g_ieqS 2060 dL_law_1880 rfl hx.1 ?_
  exact kk _ hx.2
