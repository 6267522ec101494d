theorem bcH_3 (h : HM) (c s : Nat) : (bcH h c s).I c 3 = h.I s 3 := by simp [bcH, wJ, HM.sI, HM.I, up2]
abbrev CkB (h : HM) (c : Nat) : Prop := (0 ≤ h.I c 3 ∧ h.I c 3 ≤ 6) ∧ (0 ≤ h.I c 4 ∧ h.I c 4 ≤ 6) ∧ (0 ≤ h.I c 5 ∧ h.I c 5 ≤ 12) ∧ ∀ i : Int, 0 ≤ i → i < h.I c 5 → h.I (c + 16 + i.toNat) 2 = 0 ∨ h.I (c + 16 + i.toNat) 2 = 1
def FitF (h : HM) (c : Nat) (F : Fg) (f : Int) : Prop := ∀ s : Int, 0 ≤ s → s < h.I c 5 → h.I (c + 16 + s.toNat) 0 = f → pI (OutF F (h.I (c + 16 + s.toNat) 1)) = h.I (c + 16 + s.toNat) 2
theorem FitP_F (h : HM) (c a : Nat) (f : Int) : FitP h c a f ↔ FitF h c (c5 h a) f := Iff.rfl
theorem Fr82.I {h h1 : HM} (hf : Fr82 h h1) {a : Nat} (ha : a ≠ 82) (j : Nat) : h1.I a j = h.I a j := by rw [(hf a ha).1]
theorem Fr82.tr {h h1 h2 : HM} (a : Fr82 h h1) (b : Fr82 h1 h2) : Fr82 h h2 := fun x hx => ⟨((b x hx).1).trans (a x hx).1, ((b x hx).2).trans (a x hx).2⟩
theorem Fr82.s (h : HM) (j : Nat) (v : Int) : Fr82 h (h.sI 82 j v) := fun a ha => ⟨by funext j; simp [HM.sI, HM.I, up2, ha], rfl⟩
theorem CS_82 {h h1 : HM} (hf : Fr82 h h1) (hS : CS_ h 12) : CS_ h1 12 := by
  have e := hf.I (a := 12) (by omega) 5
  refine ⟨by rw [e]; exact hS.1, fun i i0 i1 => ?_⟩
  have n : 12 + 16 + i.toNat ≠ 82 := by have := hS.1; rw [e] at i1; omega
  rw [hf.I n, hf.I n, hf.I n]; exact hS.2 i i0 (by rw [e] at i1; exact i1)
theorem FitF_82 {h h1 : HM} (hf : Fr82 h h1) (hS : CS_ h 12) {F : Fg} {f : Int} : FitF h1 12 F f ↔ FitF h 12 F f := by
  have e := hf.I (a := 12) (by omega) 5
  have hn := hS.1
  unfold FitF
  rw [e]
  constructor <;> intro q s s0 s1
  · have n : 12 + 16 + s.toNat ≠ 82 := by omega
    have := q s s0 s1; rw [hf.I n, hf.I n, hf.I n] at this; exact this
  · have n : 12 + 16 + s.toNat ≠ 82 := by omega
    rw [hf.I n, hf.I n, hf.I n]; exact q s s0 s1
set_option maxRecDepth 100000 in
set_option maxHeartbeats 1000000 in
theorem e_X8_keep {G : GX} {y : LY} {h : HM} {d : Nat} (hY : Lay y) {k : Int} (hk : R32 k) (hB : CkB h 12) (hK : 0 ≤ k → k < 2 → h.I 69 k.toNat = 0 ∨ h.I 69 k.toNat = 1) : EvQX G mX8_keep (d + 2) [.ref 9, .int (iZ k)] y h (fun v h1 => (¬ (0 ≤ k ∧ k < 2) ∧ v = -1 ∧ h1 = h) ∨ ((0 ≤ k ∧ k < 2) ∧ v = h.I 69 k.toNat ∧ h1 = (bcH h (86 + 28 * k.toNat) 12).sI 69 k.toNat 1)) := by
  have hzk := pI_01 (0 ≤ k ∧ k < 2)
  have hyk := pI_eq1 (P := 0 ≤ k ∧ k < 2)
  refine Ev.of rfl [some (.ref 9), some (.int (iZ k)), none] rfl (Nat.le_of_ble_eq_true rfl) ?_
  refine g_iload_n dX8_keep_0 rfl rfl (cv_X8_296 (M := mX8_keep) rfl dX8_keep_1 (RO.same _ _ _) (Nat.le_of_ble_eq_true rfl) (e_X8_isImage (by omega)) <| kI ?_)
  refine g_if_ne 9 dX8_keep_4 rfl (by omega) (fun c4 => ?_) (fun c4 => ?_)
  · skip
    have hKk := hK (by omega) (by omega)
    refine g_aload_n dX8_keep_9 rfl rfl (gf_X8_30 (M := mX8_keep) rfl dX8_keep_10 (yo9 hY) (yr9_4 hY) (g_iload_n dX8_keep_13 rfl rfl (g_zald dX8_keep_14 (ya69 hY) ⟨by omega, by omega, by omega⟩ ?_)))
    refine g_if_eq 22 dX8_keep_15 rfl (by omega) (fun c15 => ?_) (fun c15 => ?_)
    · skip
      refine g_iconst dX8_keep_22 (g_ist2 dX8_keep_23 (by decide) rfl (g_aload_n dX8_keep_24 rfl rfl (gf_X8_26 (M := mX8_keep) rfl dX8_keep_25 (yo9 hY) (yr9_3 hY) (g_iload_n dX8_keep_28 rfl rfl (g_aald dX8_keep_29 (ya68 hY) (by decide) (D0 := "ClockTeeth$Clock") rfl ⟨by omega, by omega, by omega⟩ (im_r hY (by omega)) (g_aload_n dX8_keep_30 rfl rfl (gf_X8_19 (M := mX8_keep) rfl dX8_keep_31 (yo9 hY) (yr9_1 hY) (cv_X8_94 (M := mX8_keep) rfl dX8_keep_34 (ck_o hY (im_c (by omega))) (RO.same _ _ _) (Nat.le_of_ble_eq_true rfl) (e_X0_become hY (im_c (by omega)) (Or.inl rfl) (by omega) hB.1 hB.2.1 hB.2.2.1 hB.2.2.2) <| kV (g_aload_n dX8_keep_37 rfl rfl (gf_X8_30 (M := mX8_keep) rfl dX8_keep_38 (yo9 hY) (yr9_4 hY) (g_iload_n dX8_keep_41 rfl rfl ?_)))))))))))
      refine g_iconst dX8_keep_42 (g_zast dX8_keep_43 (ya69 hY) ⟨by omega, by omega, by omega⟩ (by omega) (g_iload_n dX8_keep_44 rfl rfl ?_))
      exact g_iret dX8_keep_45 rfl rfl ⟨Nat.le_refl _, Nat.le_refl _⟩ (by first | exact ⟨-1, rfl, Or.inl ⟨by omega, rfl, rfl⟩⟩ | exact ⟨_, rfl, Or.inr ⟨by omega, by omega, rfl⟩⟩)
    · skip
      refine g_iconst dX8_keep_18 (g_goto 23 dX8_keep_19 rfl (g_ist2 dX8_keep_23 (by decide) rfl (g_aload_n dX8_keep_24 rfl rfl (gf_X8_26 (M := mX8_keep) rfl dX8_keep_25 (yo9 hY) (yr9_3 hY) (g_iload_n dX8_keep_28 rfl rfl (g_aald dX8_keep_29 (ya68 hY) (by decide) (D0 := "ClockTeeth$Clock") rfl ⟨by omega, by omega, by omega⟩ (im_r hY (by omega)) (g_aload_n dX8_keep_30 rfl rfl (gf_X8_19 (M := mX8_keep) rfl dX8_keep_31 (yo9 hY) (yr9_1 hY) (cv_X8_94 (M := mX8_keep) rfl dX8_keep_34 (ck_o hY (im_c (by omega))) (RO.same _ _ _) (Nat.le_of_ble_eq_true rfl) (e_X0_become hY (im_c (by omega)) (Or.inl rfl) (by omega) hB.1 hB.2.1 hB.2.2.1 hB.2.2.2) <| kV (g_aload_n dX8_keep_37 rfl rfl (gf_X8_30 (M := mX8_keep) rfl dX8_keep_38 (yo9 hY) (yr9_4 hY) ?_)))))))))))
      refine g_iload_n dX8_keep_41 rfl rfl (g_iconst dX8_keep_42 (g_zast dX8_keep_43 (ya69 hY) ⟨by omega, by omega, by omega⟩ (by omega) (g_iload_n dX8_keep_44 rfl rfl ?_)))
      exact g_iret dX8_keep_45 rfl rfl ⟨Nat.le_refl _, Nat.le_refl _⟩ (by first | exact ⟨-1, rfl, Or.inl ⟨by omega, rfl, rfl⟩⟩ | exact ⟨_, rfl, Or.inr ⟨by omega, by omega, rfl⟩⟩)
  · skip
    refine g_iconst dX8_keep_7 ?_
    exact g_iret dX8_keep_8 rfl rfl ⟨Nat.le_refl _, Nat.le_refl _⟩ (by first | exact ⟨-1, rfl, Or.inl ⟨by omega, rfl, rfl⟩⟩ | exact ⟨_, rfl, Or.inr ⟨by omega, by omega, rfl⟩⟩)
set_option maxRecDepth 100000 in
set_option maxHeartbeats 1000000 in
theorem e_X8_back {G : GX} {y : LY} {h : HM} {d : Nat} (hY : Lay y) {k : Int} (hk : R32 k) (hB : 0 ≤ k → k < 2 → CkB h (86 + 28 * k.toNat)) (hK : 0 ≤ k → k < 2 → h.I 69 k.toNat = 0 ∨ h.I 69 k.toNat = 1) : EvQX G mX8_back (d + 2) [.ref 9, .int (iZ k)] y h (fun v h1 => (¬ (0 ≤ k ∧ k < 2) ∧ v = -1 ∧ h1 = h) ∨ ((0 ≤ k ∧ k < 2) ∧ ((h.I 69 k.toNat = 0 ∧ v = -2 ∧ h1 = h) ∨ (h.I 69 k.toNat = 1 ∧ v = h.I (86 + 28 * k.toNat) 3 ∧ h1 = bcH h 12 (86 + 28 * k.toNat))))) := by
  have hzk := pI_01 (0 ≤ k ∧ k < 2)
  have hyk := pI_eq1 (P := 0 ≤ k ∧ k < 2)
  refine Ev.of rfl [some (.ref 9), some (.int (iZ k))] rfl (Nat.le_of_ble_eq_true rfl) ?_
  refine g_iload_n dX8_back_0 rfl rfl (cv_X8_296 (M := mX8_back) rfl dX8_back_1 (RO.same _ _ _) (Nat.le_of_ble_eq_true rfl) (e_X8_isImage (by omega)) <| kI ?_)
  refine g_if_ne 9 dX8_back_4 rfl (by omega) (fun c4 => ?_) (fun c4 => ?_)
  · skip
    have hKk := hK (by omega) (by omega)
    obtain ⟨hB1, hB2, hB3, hB4⟩ := hB (by omega) (by omega)
    refine g_aload_n dX8_back_9 rfl rfl (gf_X8_30 (M := mX8_back) rfl dX8_back_10 (yo9 hY) (yr9_4 hY) (g_iload_n dX8_back_13 rfl rfl (g_zald dX8_back_14 (ya69 hY) ⟨by omega, by omega, by omega⟩ ?_)))
    refine g_if_ne 21 dX8_back_15 rfl (by omega) (fun c15 => ?_) (fun c15 => ?_)
    · skip
      refine g_aload_n dX8_back_21 rfl rfl (gf_X8_19 (M := mX8_back) rfl dX8_back_22 (yo9 hY) (yr9_1 hY) (g_aload_n dX8_back_25 rfl rfl (gf_X8_26 (M := mX8_back) rfl dX8_back_26 (yo9 hY) (yr9_3 hY) (g_iload_n dX8_back_29 rfl rfl (g_aald dX8_back_30 (ya68 hY) (by decide) (D0 := "ClockTeeth$Clock") rfl ⟨by omega, by omega, by omega⟩ (im_r hY (by omega)) (cv_X8_94 (M := mX8_back) rfl dX8_back_31 (ck_o hY clk12) (RO.same _ _ _) (Nat.le_of_ble_eq_true rfl) (e_X0_become hY (Or.inl rfl) (im_c (by omega)) (by omega) hB1 hB2 hB3 hB4) <| kV (g_aload_n dX8_back_34 rfl rfl (gf_X8_19 (M := mX8_back) rfl dX8_back_35 (yo9 hY) (yr9_1 hY) (gf_X8_98 (M := mX8_back) rfl dX8_back_38 (ck_o hY clk12) ?_)))))))))
      exact g_iret dX8_back_41 rfl rfl ⟨Nat.le_refl _, Nat.le_refl _⟩ (by first | exact ⟨-1, rfl, Or.inl ⟨by omega, rfl, rfl⟩⟩ | exact ⟨-2, rfl, Or.inr ⟨by omega, Or.inl ⟨by omega, rfl, rfl⟩⟩⟩ | exact ⟨_, by rw [bcH_3], Or.inr ⟨by omega, Or.inr ⟨by omega, rfl, rfl⟩⟩⟩)
    · skip
      refine g_bipush dX8_back_18 kbm2 ?_
      exact g_iret dX8_back_20 rfl rfl ⟨Nat.le_refl _, Nat.le_refl _⟩ (by first | exact ⟨-1, rfl, Or.inl ⟨by omega, rfl, rfl⟩⟩ | exact ⟨-2, rfl, Or.inr ⟨by omega, Or.inl ⟨by omega, rfl, rfl⟩⟩⟩ | exact ⟨_, by rw [bcH_3], Or.inr ⟨by omega, Or.inr ⟨by omega, rfl, rfl⟩⟩⟩)
  · skip
    refine g_iconst dX8_back_7 ?_
    exact g_iret dX8_back_8 rfl rfl ⟨Nat.le_refl _, Nat.le_refl _⟩ (by first | exact ⟨-1, rfl, Or.inl ⟨by omega, rfl, rfl⟩⟩ | exact ⟨-2, rfl, Or.inr ⟨by omega, Or.inl ⟨by omega, rfl, rfl⟩⟩⟩ | exact ⟨_, by rw [bcH_3], Or.inr ⟨by omega, Or.inr ⟨by omega, rfl, rfl⟩⟩⟩)
