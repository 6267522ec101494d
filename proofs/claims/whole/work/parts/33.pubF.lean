def asH (h : HM) (p q r : Int) : HM := (wr3 h (12 + 16 + (h.I 12 5).toNat) p q r).sI 12 5 (h.I 12 5 + 1)
theorem asH_e (h : HM) (p q r : Int) : (wr3 h (12 + 16 + (h.I 12 5).toNat) p q r).I 12 5 = h.I 12 5 := by
  have n1 : ¬ 12 = 12 + 16 + (h.I 12 5).toNat := by omega
  simp only [wr3, HM.sI, HM.I, up2] at n1 ⊢
  simp [n1]
def SeeP (h : HM) (p q r : Int) (v : Int) (h1 : HM) : Prop := (¬ ((0 ≤ p ∧ p < h.I 12 3) ∧ 0 ≤ q ∧ q ≤ 30000) ∧ v = -1 ∧ h1 = h) ∨ (((0 ≤ p ∧ p < h.I 12 3) ∧ 0 ≤ q ∧ q ≤ 30000) ∧ ((12 ≤ h.I 12 5 ∧ v = -3 ∧ h1 = h) ∨ (h.I 12 5 < 12 ∧ v = h.I 12 5 + 1 ∧ h1 = asH h p q r)))
theorem fltS_c (l c a t n : Int) : (0 ≤ fltS l c a t n ∧ fltS l c a t n ≤ 3) ∧ (fltS l c a t n = 0 → 0 ≤ c ∧ a = l ∧ 0 ≤ t ∧ t + n ≤ c) := by
  unfold fltS; split
  · omega
  · split
    · omega
    · split <;> omega
set_option maxRecDepth 100000 in
set_option maxHeartbeats 1000000 in
theorem e_X8_addSight {G : GX} {y : LY} {h : HM} {d : Nat} (hY : Lay y) {p q r : Int} (hp : R32 p) (hq : R32 q) (hr : r = 0 ∨ r = 1) (hnf : 0 ≤ h.I 12 3 ∧ h.I 12 3 ≤ 6) (hns : 0 ≤ h.I 12 5 ∧ h.I 12 5 ≤ 12) : EvQX G mX8_addSight (d + 1) [.ref 9, .int (iZ p), .int (iZ q), .int (iZ r)] y h (SeeP h p q r) := by
  have hpf := pI_01 (0 ≤ p ∧ p < h.I 12 3)
  have hpf2 := pI_eq1 (P := 0 ≤ p ∧ p < h.I 12 3)
  have eas := asH_e h p q r
  refine Ev.of rfl [some (.ref 9), some (.int (iZ p)), some (.int (iZ q)), some (.int (iZ r))] rfl (Nat.le_of_ble_eq_true rfl) ?_
  refine g_aload_n dX8_addSight_0 rfl rfl (g_iload_n dX8_addSight_1 rfl rfl (cv_X8_116 (M := mX8_addSight) rfl dX8_addSight_2 (yo9 hY) (RO.same _ _ _) (Nat.le_of_ble_eq_true rfl) (e_X8_isFigure hY (by omega) (by omega)) <| kI ?_))
  refine g_if_eq 19 dX8_addSight_5 rfl (by omega) (fun c5 => ?_) (fun c5 => ?_)
  · skip
    refine g_iconst dX8_addSight_19 ?_
    exact g_iret dX8_addSight_20 rfl rfl ⟨Nat.le_refl _, Nat.le_refl _⟩ (by first | exact ⟨-1, rfl, Or.inl ⟨by omega, rfl, rfl⟩⟩ | exact ⟨-3, rfl, Or.inr ⟨by omega, Or.inl ⟨by omega, rfl, rfl⟩⟩⟩ | exact ⟨h.I 12 5 + 1, by simp [HM.sI, HM.I, up2] at eas ⊢; rw [eas], Or.inr ⟨by omega, Or.inr ⟨by omega, rfl, by unfold asH; rw [eas]⟩⟩⟩)
  · skip
    refine g_iload_n dX8_addSight_8 rfl rfl ?_
    refine g_if_lt 19 dX8_addSight_9 rfl (by omega) (fun c9 => ?_) (fun c9 => ?_)
    · skip
      refine g_iconst dX8_addSight_19 ?_
      exact g_iret dX8_addSight_20 rfl rfl ⟨Nat.le_refl _, Nat.le_refl _⟩ (by first | exact ⟨-1, rfl, Or.inl ⟨by omega, rfl, rfl⟩⟩ | exact ⟨-3, rfl, Or.inr ⟨by omega, Or.inl ⟨by omega, rfl, rfl⟩⟩⟩ | exact ⟨h.I 12 5 + 1, by simp [HM.sI, HM.I, up2] at eas ⊢; rw [eas], Or.inr ⟨by omega, Or.inr ⟨by omega, rfl, by unfold asH; rw [eas]⟩⟩⟩)
    · skip
      refine g_iload_n dX8_addSight_12 rfl rfl (g_sipush dX8_addSight_13 ks30000 ?_)
      refine g_icmp_le 21 dX8_addSight_16 rfl (by omega) (by omega) (fun c16 => ?_) (fun c16 => ?_)
      · skip
        refine g_aload_n dX8_addSight_21 rfl rfl (gf_X8_19 (M := mX8_addSight) rfl dX8_addSight_22 (yo9 hY) (yr9_1 hY) (gf_X8_274 (M := mX8_addSight) rfl dX8_addSight_25 (ck_o hY clk12) (g_bipush dX8_addSight_28 kb12 ?_)))
        refine g_icmp_lt 36 dX8_addSight_30 rfl (by omega) (by omega) (fun c30 => ?_) (fun c30 => ?_)
        · skip
          refine g_aload_n dX8_addSight_36 rfl rfl (gf_X8_19 (M := mX8_addSight) rfl dX8_addSight_37 (yo9 hY) (yr9_1 hY) (gf_X8_330 (M := mX8_addSight) rfl dX8_addSight_40 (ck_o hY clk12) (ck_r2 hY clk12) (g_aload_n dX8_addSight_43 rfl rfl (gf_X8_19 (M := mX8_addSight) rfl dX8_addSight_44 (yo9 hY) (yr9_1 hY) (gf_X8_274 (M := mX8_addSight) rfl dX8_addSight_47 (ck_o hY clk12) (g_aald dX8_addSight_50 (ck_a2 hY clk12) (by decide) (D0 := "ClockTeeth$Sight") rfl ⟨by omega, by omega, by omega⟩ (ck_sr hY clk12 (by omega)) (g_iload_n dX8_addSight_51 rfl rfl (g_iload_n dX8_addSight_52 rfl rfl (g_iload_n dX8_addSight_53 rfl rfl (cv_X8_334 (M := mX8_addSight) rfl dX8_addSight_54 (ck_so hY clk12 (by omega)) (RO.same _ _ _) (Nat.le_of_ble_eq_true rfl) (e_X5_tell (ck_so hY (Or.inl rfl) (by omega)) hr) <| kV (g_aload_n dX8_addSight_57 rfl rfl ?_)))))))))))
          refine gf_X8_19 (M := mX8_addSight) rfl dX8_addSight_58 (yo9 hY) (yr9_1 hY) (g_dup dX8_addSight_61 rfl (gf_X8_274 (M := mX8_addSight) rfl dX8_addSight_62 (ck_o hY clk12) (g_iconst dX8_addSight_65 (g_iadd dX8_addSight_66 (pf_X8_274 (M := mX8_addSight) rfl dX8_addSight_67 (ck_o hY clk12) (g_aload_n dX8_addSight_70 rfl rfl (gf_X8_19 (M := mX8_addSight) rfl dX8_addSight_71 (yo9 hY) (yr9_1 hY) (gf_X8_274 (M := mX8_addSight) rfl dX8_addSight_74 (ck_o hY clk12) ?_))))))))
          exact g_iret dX8_addSight_77 rfl rfl ⟨Nat.le_refl _, Nat.le_refl _⟩ (by first | exact ⟨-1, rfl, Or.inl ⟨by omega, rfl, rfl⟩⟩ | exact ⟨-3, rfl, Or.inr ⟨by omega, Or.inl ⟨by omega, rfl, rfl⟩⟩⟩ | exact ⟨h.I 12 5 + 1, by simp [HM.sI, HM.I, up2] at eas ⊢; rw [eas], Or.inr ⟨by omega, Or.inr ⟨by omega, rfl, by unfold asH; rw [eas]⟩⟩⟩)
        · skip
          refine g_bipush dX8_addSight_33 kbm3 ?_
          exact g_iret dX8_addSight_35 rfl rfl ⟨Nat.le_refl _, Nat.le_refl _⟩ (by first | exact ⟨-1, rfl, Or.inl ⟨by omega, rfl, rfl⟩⟩ | exact ⟨-3, rfl, Or.inr ⟨by omega, Or.inl ⟨by omega, rfl, rfl⟩⟩⟩ | exact ⟨h.I 12 5 + 1, by simp [HM.sI, HM.I, up2] at eas ⊢; rw [eas], Or.inr ⟨by omega, Or.inr ⟨by omega, rfl, by unfold asH; rw [eas]⟩⟩⟩)
      · skip
        refine g_iconst dX8_addSight_19 ?_
        exact g_iret dX8_addSight_20 rfl rfl ⟨Nat.le_refl _, Nat.le_refl _⟩ (by first | exact ⟨-1, rfl, Or.inl ⟨by omega, rfl, rfl⟩⟩ | exact ⟨-3, rfl, Or.inr ⟨by omega, Or.inl ⟨by omega, rfl, rfl⟩⟩⟩ | exact ⟨h.I 12 5 + 1, by simp [HM.sI, HM.I, up2] at eas ⊢; rw [eas], Or.inr ⟨by omega, Or.inr ⟨by omega, rfl, by unfold asH; rw [eas]⟩⟩⟩)
set_option maxRecDepth 100000 in
set_option maxHeartbeats 1000000 in
theorem e_X8_see {G : GX} {y : LY} {h : HM} {d : Nat} (hY : Lay y) {p q r : Int} (hp : R32 p) (hq : R32 q) (hr : r = 0 ∨ r = 1) (hnf : 0 ≤ h.I 12 3 ∧ h.I 12 3 ≤ 6) (hns : 0 ≤ h.I 12 5 ∧ h.I 12 5 ≤ 12) : EvQX G mX8_see (d + 2) [.ref 9, .int (iZ p), .int (iZ q), .int (iZ r)] y h (SeeP h p q r) := by
  refine Ev.of rfl [some (.ref 9), some (.int (iZ p)), some (.int (iZ q)), some (.int (iZ r))] rfl (Nat.le_of_ble_eq_true rfl) ?_
  refine g_aload_n dX8_see_0 rfl rfl (g_iload_n dX8_see_1 rfl rfl (g_iload_n dX8_see_2 rfl rfl (g_iload_n dX8_see_3 rfl rfl ?_)))
  refine cv_X8_270 (M := mX8_see) rfl dX8_see_4 (yo9 hY) (RO.same _ _ _) (Nat.le_of_ble_eq_true rfl) (e_X8_addSight hY (by omega) (by omega) (by omega) (by omega) (by omega)) (kQX fun v4 h4 hq4 => ?_)
  exact g_iret dX8_see_7 rfl rfl ⟨Nat.le_refl _, Nat.le_refl _⟩ (by exact ⟨_, rfl, hq4⟩)
set_option maxRecDepth 100000 in
set_option maxHeartbeats 1000000 in
theorem e_X8_forget {G : GX} {y : LY} {h : HM} {d : Nat} (hY : Lay y) {n : Int} (hn : R32 n) (hns : 0 ≤ h.I 12 5 ∧ h.I 12 5 ≤ 12) : EvQX G mX8_forget (d) [.ref 9, .int (iZ n)] y h (fun v h1 => (¬ (0 ≤ n ∧ n ≤ h.I 12 5) ∧ v = -1 ∧ h1 = h) ∨ ((0 ≤ n ∧ n ≤ h.I 12 5) ∧ v = h.I 12 5 ∧ h1 = h.sI 12 5 n)) := by
  refine Ev.of rfl [some (.ref 9), some (.int (iZ n)), none] rfl (Nat.le_of_ble_eq_true rfl) ?_
  refine g_iload_n dX8_forget_0 rfl rfl ?_
  refine g_if_lt 15 dX8_forget_1 rfl (by omega) (fun c1 => ?_) (fun c1 => ?_)
  · skip
    refine g_iconst dX8_forget_15 ?_
    exact g_iret dX8_forget_16 rfl rfl ⟨Nat.le_refl _, Nat.le_refl _⟩ (by first | exact ⟨-1, rfl, Or.inl ⟨by omega, rfl, rfl⟩⟩ | exact ⟨_, rfl, Or.inr ⟨by omega, rfl, rfl⟩⟩)
  · skip
    refine g_iload_n dX8_forget_4 rfl rfl (g_aload_n dX8_forget_5 rfl rfl (gf_X8_19 (M := mX8_forget) rfl dX8_forget_6 (yo9 hY) (yr9_1 hY) (gf_X8_274 (M := mX8_forget) rfl dX8_forget_9 (ck_o hY clk12) ?_)))
    refine g_icmp_le 17 dX8_forget_12 rfl (by omega) (by omega) (fun c12 => ?_) (fun c12 => ?_)
    · skip
      refine g_aload_n dX8_forget_17 rfl rfl (gf_X8_19 (M := mX8_forget) rfl dX8_forget_18 (yo9 hY) (yr9_1 hY) (gf_X8_274 (M := mX8_forget) rfl dX8_forget_21 (ck_o hY clk12) (g_ist2 dX8_forget_24 (by decide) rfl (g_aload_n dX8_forget_25 rfl rfl (gf_X8_19 (M := mX8_forget) rfl dX8_forget_26 (yo9 hY) (yr9_1 hY) (g_iload_n dX8_forget_29 rfl rfl (pf_X8_274 (M := mX8_forget) rfl dX8_forget_30 (ck_o hY clk12) (g_iload_n dX8_forget_33 rfl rfl ?_))))))))
      exact g_iret dX8_forget_34 rfl rfl ⟨Nat.le_refl _, Nat.le_refl _⟩ (by first | exact ⟨-1, rfl, Or.inl ⟨by omega, rfl, rfl⟩⟩ | exact ⟨_, rfl, Or.inr ⟨by omega, rfl, rfl⟩⟩)
    · skip
      refine g_iconst dX8_forget_15 ?_
      exact g_iret dX8_forget_16 rfl rfl ⟨Nat.le_refl _, Nat.le_refl _⟩ (by first | exact ⟨-1, rfl, Or.inl ⟨by omega, rfl, rfl⟩⟩ | exact ⟨_, rfl, Or.inr ⟨by omega, rfl, rfl⟩⟩)
set_option maxRecDepth 100000 in
set_option maxHeartbeats 1000000 in
theorem e_X8_sheet {G : GX} {y : LY} {h : HM} {d : Nat} (hY : Lay y) {k l n : Int} (hk : R32 k) (hl : R32 l) (hn : R32 n) : EvQX G mX8_sheet (d + 1) [.ref 9, .int (iZ k), .int (iZ l), .int (iZ n)] y h (fun v h1 => (¬ ((0 ≤ k ∧ k < 4) ∧ (0 ≤ l ∧ l ≤ 2) ∧ n ≤ 40) ∧ v = -1 ∧ h1 = h) ∨ (((0 ≤ k ∧ k < 4) ∧ (0 ≤ l ∧ l ≤ 2) ∧ n ≤ 40) ∧ ((n < 0 ∧ v = -14 ∧ h1 = h) ∨ (0 ≤ n ∧ v = 1 ∧ h1 = ((h.sI (142 + 2 * k.toNat) 1 l).sI (142 + 2 * k.toNat) 2 n).sA (143 + 2 * k.toNat) (fun j => if j < 40 then 0 else h.I (143 + 2 * k.toNat) j))))) := by
  have hzk := pI_01 (0 ≤ k ∧ k < 4)
  have hyk := pI_eq1 (P := 0 ≤ k ∧ k < 4)
  have hzl := pI_01 (0 ≤ l ∧ l ≤ 2)
  have hyl := pI_eq1 (P := 0 ≤ l ∧ l ≤ 2)
  refine Ev.of rfl [some (.ref 9), some (.int (iZ k)), some (.int (iZ l)), some (.int (iZ n))] rfl (Nat.le_of_ble_eq_true rfl) ?_
  refine g_iload_n dX8_sheet_0 rfl rfl (cv_X8_299 (M := mX8_sheet) rfl dX8_sheet_1 (RO.same _ _ _) (Nat.le_of_ble_eq_true rfl) (e_X8_isSheet (by omega)) <| kI ?_)
  refine g_if_eq 20 dX8_sheet_4 rfl (by omega) (fun c4 => ?_) (fun c4 => ?_)
  · skip
    refine g_iconst dX8_sheet_20 ?_
    exact g_iret dX8_sheet_21 rfl rfl ⟨Nat.le_refl _, Nat.le_refl _⟩ (by first | exact ⟨-1, rfl, Or.inl ⟨by omega, rfl, rfl⟩⟩ | exact ⟨-14, rfl, Or.inr ⟨by omega, Or.inl ⟨by omega, rfl, rfl⟩⟩⟩ | exact ⟨1, rfl, Or.inr ⟨by omega, Or.inr ⟨by omega, rfl, rfl⟩⟩⟩)
  · skip
    refine g_iload_n dX8_sheet_7 rfl rfl (cv_X8_302 (M := mX8_sheet) rfl dX8_sheet_8 (RO.same _ _ _) (Nat.le_of_ble_eq_true rfl) (e_X8_isLane (by omega)) <| kI ?_)
    refine g_if_eq 20 dX8_sheet_11 rfl (by omega) (fun c11 => ?_) (fun c11 => ?_)
    · skip
      refine g_iconst dX8_sheet_20 ?_
      exact g_iret dX8_sheet_21 rfl rfl ⟨Nat.le_refl _, Nat.le_refl _⟩ (by first | exact ⟨-1, rfl, Or.inl ⟨by omega, rfl, rfl⟩⟩ | exact ⟨-14, rfl, Or.inr ⟨by omega, Or.inl ⟨by omega, rfl, rfl⟩⟩⟩ | exact ⟨1, rfl, Or.inr ⟨by omega, Or.inr ⟨by omega, rfl, rfl⟩⟩⟩)
    · skip
      refine g_iload_n dX8_sheet_14 rfl rfl (g_bipush dX8_sheet_15 kb40 ?_)
      refine g_icmp_le 22 dX8_sheet_17 rfl (by omega) (by omega) (fun c17 => ?_) (fun c17 => ?_)
      · skip
        refine g_iload_n dX8_sheet_22 rfl rfl ?_
        refine g_if_ge 29 dX8_sheet_23 rfl (by omega) (fun c23 => ?_) (fun c23 => ?_)
        · skip
          refine g_aload_n dX8_sheet_29 rfl rfl (gf_X8_36 (M := mX8_sheet) rfl dX8_sheet_30 (yo9 hY) (yr9_5 hY) (g_iload_n dX8_sheet_33 rfl rfl (g_aald dX8_sheet_34 (ya70 hY) (by decide) (D0 := "ClockTeeth$Sheet") rfl ⟨by omega, by omega, by omega⟩ (sh_r hY (by omega)) (g_iload_n dX8_sheet_35 rfl rfl (g_iload_n dX8_sheet_36 rfl rfl (cv_X8_305 (M := mX8_sheet) rfl dX8_sheet_37 (sh_o hY (by omega)) (RO.same _ _ _) (Nat.le_of_ble_eq_true rfl) (e_X4_renew hY (by omega)) <| kV (g_iconst dX8_sheet_40 ?_)))))))
          exact g_iret dX8_sheet_41 rfl rfl ⟨Nat.le_refl _, Nat.le_refl _⟩ (by first | exact ⟨-1, rfl, Or.inl ⟨by omega, rfl, rfl⟩⟩ | exact ⟨-14, rfl, Or.inr ⟨by omega, Or.inl ⟨by omega, rfl, rfl⟩⟩⟩ | exact ⟨1, rfl, Or.inr ⟨by omega, Or.inr ⟨by omega, rfl, rfl⟩⟩⟩)
        · skip
          refine g_bipush dX8_sheet_26 kbm14 ?_
          exact g_iret dX8_sheet_28 rfl rfl ⟨Nat.le_refl _, Nat.le_refl _⟩ (by first | exact ⟨-1, rfl, Or.inl ⟨by omega, rfl, rfl⟩⟩ | exact ⟨-14, rfl, Or.inr ⟨by omega, Or.inl ⟨by omega, rfl, rfl⟩⟩⟩ | exact ⟨1, rfl, Or.inr ⟨by omega, Or.inr ⟨by omega, rfl, rfl⟩⟩⟩)
      · skip
        refine g_iconst dX8_sheet_20 ?_
        exact g_iret dX8_sheet_21 rfl rfl ⟨Nat.le_refl _, Nat.le_refl _⟩ (by first | exact ⟨-1, rfl, Or.inl ⟨by omega, rfl, rfl⟩⟩ | exact ⟨-14, rfl, Or.inr ⟨by omega, Or.inl ⟨by omega, rfl, rfl⟩⟩⟩ | exact ⟨1, rfl, Or.inr ⟨by omega, Or.inr ⟨by omega, rfl, rfl⟩⟩⟩)
set_option maxRecDepth 100000 in
set_option maxHeartbeats 1000000 in
theorem e_X8_lay {G : GX} {y : LY} {h : HM} {d : Nat} (hY : Lay y) {k i v : Int} (hk : R32 k) (hi : R32 i) (hv : R32 v) (hL : 0 ≤ k → k < 4 → (0 ≤ h.I (142 + 2 * k.toNat) 1 ∧ h.I (142 + 2 * k.toNat) 1 ≤ 2) ∧ R32 (h.I (142 + 2 * k.toNat) 2) ∧ h.I (142 + 2 * k.toNat) 2 ≤ 40) : EvQX G mX8_lay (d + 1) [.ref 9, .int (iZ k), .int (iZ i), .int (iZ v)] y h (fun z h1 => (¬ (0 ≤ k ∧ k < 4) ∧ z = -1 ∧ h1 = h) ∨ ((0 ≤ k ∧ k < 4) ∧ ((fltS (h.I (142 + 2 * k.toNat) 1) (h.I (142 + 2 * k.toNat) 2) (h.I (142 + 2 * k.toNat) 1) i 1 ≠ 0 ∧ z = -10 - fltS (h.I (142 + 2 * k.toNat) 1) (h.I (142 + 2 * k.toNat) 2) (h.I (142 + 2 * k.toNat) 1) i 1 ∧ h1 = h) ∨ (fltS (h.I (142 + 2 * k.toNat) 1) (h.I (142 + 2 * k.toNat) 2) (h.I (142 + 2 * k.toNat) 1) i 1 = 0 ∧ z = 1 ∧ h1 = h.sI (143 + 2 * k.toNat) i.toNat (putS (h.I (142 + 2 * k.toNat) 1) v))))) := by
  have hzk := pI_01 (0 ≤ k ∧ k < 4)
  have hyk := pI_eq1 (P := 0 ≤ k ∧ k < 4)
  have hfb := fltS_c (h.I (142 + 2 * k.toNat) 1) (h.I (142 + 2 * k.toNat) 2) (h.I (142 + 2 * k.toNat) 1) i 1
  refine Ev.of rfl [some (.ref 9), some (.int (iZ k)), some (.int (iZ i)), some (.int (iZ v)), none, none] rfl (Nat.le_of_ble_eq_true rfl) ?_
  refine g_iload_n dX8_lay_0 rfl rfl (cv_X8_299 (M := mX8_lay) rfl dX8_lay_1 (RO.same _ _ _) (Nat.le_of_ble_eq_true rfl) (e_X8_isSheet (by omega)) <| kI ?_)
  refine g_if_ne 9 dX8_lay_4 rfl (by omega) (fun c4 => ?_) (fun c4 => ?_)
  · skip
    have hLk := hL (by omega) (by omega)
    refine g_aload_n dX8_lay_9 rfl rfl (gf_X8_36 (M := mX8_lay) rfl dX8_lay_10 (yo9 hY) (yr9_5 hY) (g_iload_n dX8_lay_13 rfl rfl (g_aald dX8_lay_14 (ya70 hY) (by decide) (D0 := "ClockTeeth$Sheet") rfl ⟨by omega, by omega, by omega⟩ (sh_r hY (by omega)) (g_ast4 dX8_lay_15 (by decide) rfl (g_aload dX8_lay_17 rfl (g_aload dX8_lay_19 rfl (gf_X8_309 (M := mX8_lay) rfl dX8_lay_21 (sh_o hY (by omega)) (g_iload_n dX8_lay_24 rfl rfl (g_i2l dX8_lay_25 (by omega) (g_iconst dX8_lay_26 (cv_X8_312 (M := mX8_lay) rfl dX8_lay_27 (sh_o hY (by omega)) (RO.same _ _ _) (Nat.le_of_ble_eq_true rfl) (e_X4_faultOf hY (by omega) (by omega) (by omega) (by omega) (by omega) (by omega)) <| kI ?_)))))))))))
    refine g_ist5 dX8_lay_30 (by decide) rfl (g_iload dX8_lay_32 rfl ?_)
    refine g_if_eq 43 dX8_lay_34 rfl (by omega) (fun c34 => ?_) (fun c34 => ?_)
    · skip
      refine g_aload dX8_lay_43 rfl (g_iload_n dX8_lay_45 rfl rfl (g_iload_n dX8_lay_46 rfl rfl (cv_X8_316 (M := mX8_lay) rfl dX8_lay_47 (sh_o hY (by omega)) (RO.same _ _ _) (Nat.le_of_ble_eq_true rfl) (e_X4_put hY (by omega) (by omega) (by omega)) <| kV (g_iconst dX8_lay_50 ?_))))
      exact g_iret dX8_lay_51 rfl rfl ⟨Nat.le_refl _, Nat.le_refl _⟩ (by first | exact ⟨-1, rfl, Or.inl ⟨by omega, rfl, rfl⟩⟩ | exact ⟨_, rfl, Or.inr ⟨by omega, Or.inl ⟨by omega, by omega, rfl⟩⟩⟩ | exact ⟨1, rfl, Or.inr ⟨by omega, Or.inr ⟨by omega, rfl, rfl⟩⟩⟩)
    · skip
      refine g_bipush dX8_lay_37 kbm10 (g_iload dX8_lay_39 rfl (g_isub dX8_lay_41 ?_))
      exact g_iret dX8_lay_42 rfl rfl ⟨Nat.le_refl _, Nat.le_refl _⟩ (by first | exact ⟨-1, rfl, Or.inl ⟨by omega, rfl, rfl⟩⟩ | exact ⟨_, rfl, Or.inr ⟨by omega, Or.inl ⟨by omega, by omega, rfl⟩⟩⟩ | exact ⟨1, rfl, Or.inr ⟨by omega, Or.inr ⟨by omega, rfl, rfl⟩⟩⟩)
  · skip
    refine g_iconst dX8_lay_7 ?_
    exact g_iret dX8_lay_8 rfl rfl ⟨Nat.le_refl _, Nat.le_refl _⟩ (by first | exact ⟨-1, rfl, Or.inl ⟨by omega, rfl, rfl⟩⟩ | exact ⟨_, rfl, Or.inr ⟨by omega, Or.inl ⟨by omega, by omega, rfl⟩⟩⟩ | exact ⟨1, rfl, Or.inr ⟨by omega, Or.inr ⟨by omega, rfl, rfl⟩⟩⟩)
