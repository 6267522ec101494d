set_option maxRecDepth 100000 in
set_option maxHeartbeats 1000000 in
theorem e_X8_stick {G : GX} {y : LY} {h : HM} {d : Nat} (hY : Lay y) {p q r : Int} (hp : R32 p) (hq : R32 q) (hr : R32 r) (h6 : R32 (h.I 12 6)) : EvQX G mX8_stick (d + 2) [.ref 9, .int (iZ p), .int (iZ q), .int (iZ r)] y h (fun v h1 => (¬ ((p = -4 ∧ q = 0 ∧ r = 0) ∨ ((0 ≤ p ∧ p ≤ 8) ∧ 0 ≤ q ∧ q ≤ r ∧ r ≤ 365)) ∧ v = -1 ∧ h1 = h) ∨ ((p = -4 ∧ q = 0 ∧ r = 0) ∧ v = (if h.I 12 6 = -4 then 0 else 1) ∧ h1 = wJ h 12 (-4) (-4) (-4)) ∨ (((0 ≤ p ∧ p ≤ 8) ∧ 0 ≤ q ∧ q ≤ r ∧ r ≤ 365) ∧ v = (if h.I 12 6 = -4 then 0 else 1) ∧ h1 = wJ h 12 p q r)) := by
  have hzp := pI_01 (0 ≤ p ∧ p ≤ 8)
  have hyp := pI_eq1 (P := 0 ≤ p ∧ p ≤ 8)
  refine Ev.of rfl [some (.ref 9), some (.int (iZ p)), some (.int (iZ q)), some (.int (iZ r)), none, none] rfl (Nat.le_of_ble_eq_true rfl) ?_
  refine g_iload_n dX8_stick_0 rfl rfl (g_bipush dX8_stick_1 kbm4 ?_)
  refine g_icmp_ne 18 dX8_stick_3 rfl (by omega) (by omega) (fun c3 => ?_) (fun c3 => ?_)
  · skip
    refine g_iconst dX8_stick_18 (g_ist4 dX8_stick_19 (by decide) rfl (g_iload dX8_stick_21 rfl ?_))
    refine g_if_ne 51 dX8_stick_23 rfl (by omega) (fun c23 => ?_) (fun c23 => ?_)
    · skip
      refine g_aload_n dX8_stick_51 rfl rfl (gf_X8_19 (M := mX8_stick) rfl dX8_stick_52 (yo9 hY) (yr9_1 hY) (gf_X8_101 (M := mX8_stick) rfl dX8_stick_55 (ck_o hY clk12) (g_bipush dX8_stick_58 kbm4 ?_)))
      refine g_icmp_ne 67 dX8_stick_60 rfl (by omega) (by omega) (fun c60 => ?_) (fun c60 => ?_)
      · skip
        refine g_iconst dX8_stick_67 (g_ist5 dX8_stick_68 (by decide) rfl (g_iload dX8_stick_70 rfl ?_))
        refine g_if_eq 85 dX8_stick_72 rfl (by omega) (fun c72 => ?_) (fun c72 => ?_)
        · skip
          refine g_aload_n dX8_stick_85 rfl rfl (gf_X8_19 (M := mX8_stick) rfl dX8_stick_86 (yo9 hY) (yr9_1 hY) (g_iload_n dX8_stick_89 rfl rfl (g_iload_n dX8_stick_90 rfl rfl (g_iload_n dX8_stick_91 rfl rfl (cv_X8_238 (M := mX8_stick) rfl dX8_stick_92 (ck_o hY clk12) (RO.same _ _ _) (Nat.le_of_ble_eq_true rfl) (e_X0_jam hY clk12) <| kV (g_iload dX8_stick_95 rfl ?_))))))
          exact g_iret dX8_stick_97 rfl rfl ⟨Nat.le_refl _, Nat.le_refl _⟩ (by first | exact ⟨-1, rfl, Or.inl ⟨by omega, rfl, rfl⟩⟩ | exact ⟨0, rfl, Or.inr (Or.inl ⟨by omega, by rw [if_pos (by omega)], rfl⟩)⟩ | exact ⟨1, rfl, Or.inr (Or.inl ⟨by omega, by rw [if_neg (by omega)], rfl⟩)⟩ | exact ⟨0, rfl, Or.inr (Or.inr ⟨by omega, by rw [if_pos (by omega)], rfl⟩)⟩ | exact ⟨1, rfl, Or.inr (Or.inr ⟨by omega, by rw [if_neg (by omega)], rfl⟩)⟩ | (exfalso; omega))
        · skip
          refine g_aload_n dX8_stick_75 rfl rfl (gf_X8_19 (M := mX8_stick) rfl dX8_stick_76 (yo9 hY) (yr9_1 hY) (cv_X8_235 (M := mX8_stick) rfl dX8_stick_79 (ck_o hY clk12) (RO.same _ _ _) (Nat.le_of_ble_eq_true rfl) (e_X0_free hY clk12) <| kV (g_goto 95 dX8_stick_82 rfl (g_iload dX8_stick_95 rfl ?_))))
          exact g_iret dX8_stick_97 rfl rfl ⟨Nat.le_refl _, Nat.le_refl _⟩ (by first | exact ⟨-1, rfl, Or.inl ⟨by omega, rfl, rfl⟩⟩ | exact ⟨0, rfl, Or.inr (Or.inl ⟨by omega, by rw [if_pos (by omega)], rfl⟩)⟩ | exact ⟨1, rfl, Or.inr (Or.inl ⟨by omega, by rw [if_neg (by omega)], rfl⟩)⟩ | exact ⟨0, rfl, Or.inr (Or.inr ⟨by omega, by rw [if_pos (by omega)], rfl⟩)⟩ | exact ⟨1, rfl, Or.inr (Or.inr ⟨by omega, by rw [if_neg (by omega)], rfl⟩)⟩ | (exfalso; omega))
      · skip
        refine g_iconst dX8_stick_63 (g_goto 68 dX8_stick_64 rfl (g_ist5 dX8_stick_68 (by decide) rfl (g_iload dX8_stick_70 rfl ?_)))
        refine g_if_eq 85 dX8_stick_72 rfl (by omega) (fun c72 => ?_) (fun c72 => ?_)
        · skip
          refine g_aload_n dX8_stick_85 rfl rfl (gf_X8_19 (M := mX8_stick) rfl dX8_stick_86 (yo9 hY) (yr9_1 hY) (g_iload_n dX8_stick_89 rfl rfl (g_iload_n dX8_stick_90 rfl rfl (g_iload_n dX8_stick_91 rfl rfl (cv_X8_238 (M := mX8_stick) rfl dX8_stick_92 (ck_o hY clk12) (RO.same _ _ _) (Nat.le_of_ble_eq_true rfl) (e_X0_jam hY clk12) <| kV (g_iload dX8_stick_95 rfl ?_))))))
          exact g_iret dX8_stick_97 rfl rfl ⟨Nat.le_refl _, Nat.le_refl _⟩ (by first | exact ⟨-1, rfl, Or.inl ⟨by omega, rfl, rfl⟩⟩ | exact ⟨0, rfl, Or.inr (Or.inl ⟨by omega, by rw [if_pos (by omega)], rfl⟩)⟩ | exact ⟨1, rfl, Or.inr (Or.inl ⟨by omega, by rw [if_neg (by omega)], rfl⟩)⟩ | exact ⟨0, rfl, Or.inr (Or.inr ⟨by omega, by rw [if_pos (by omega)], rfl⟩)⟩ | exact ⟨1, rfl, Or.inr (Or.inr ⟨by omega, by rw [if_neg (by omega)], rfl⟩)⟩ | (exfalso; omega))
        · skip
          refine g_aload_n dX8_stick_75 rfl rfl (gf_X8_19 (M := mX8_stick) rfl dX8_stick_76 (yo9 hY) (yr9_1 hY) (cv_X8_235 (M := mX8_stick) rfl dX8_stick_79 (ck_o hY clk12) (RO.same _ _ _) (Nat.le_of_ble_eq_true rfl) (e_X0_free hY clk12) <| kV (g_goto 95 dX8_stick_82 rfl (g_iload dX8_stick_95 rfl ?_))))
          exact g_iret dX8_stick_97 rfl rfl ⟨Nat.le_refl _, Nat.le_refl _⟩ (by first | exact ⟨-1, rfl, Or.inl ⟨by omega, rfl, rfl⟩⟩ | exact ⟨0, rfl, Or.inr (Or.inl ⟨by omega, by rw [if_pos (by omega)], rfl⟩)⟩ | exact ⟨1, rfl, Or.inr (Or.inl ⟨by omega, by rw [if_neg (by omega)], rfl⟩)⟩ | exact ⟨0, rfl, Or.inr (Or.inr ⟨by omega, by rw [if_pos (by omega)], rfl⟩)⟩ | exact ⟨1, rfl, Or.inr (Or.inr ⟨by omega, by rw [if_neg (by omega)], rfl⟩)⟩ | (exfalso; omega))
    · skip
      refine g_iload_n dX8_stick_26 rfl rfl (cv_X8_232 (M := mX8_stick) rfl dX8_stick_27 (RO.same _ _ _) (Nat.le_of_ble_eq_true rfl) (e_X8_isDoor (by omega)) <| kI ?_)
      refine g_if_eq 49 dX8_stick_30 rfl (by omega) (fun c30 => ?_) (fun c30 => ?_)
      · skip
        refine g_iconst dX8_stick_49 ?_
        exact g_iret dX8_stick_50 rfl rfl ⟨Nat.le_refl _, Nat.le_refl _⟩ (by first | exact ⟨-1, rfl, Or.inl ⟨by omega, rfl, rfl⟩⟩ | exact ⟨0, rfl, Or.inr (Or.inl ⟨by omega, by rw [if_pos (by omega)], rfl⟩)⟩ | exact ⟨1, rfl, Or.inr (Or.inl ⟨by omega, by rw [if_neg (by omega)], rfl⟩)⟩ | exact ⟨0, rfl, Or.inr (Or.inr ⟨by omega, by rw [if_pos (by omega)], rfl⟩)⟩ | exact ⟨1, rfl, Or.inr (Or.inr ⟨by omega, by rw [if_neg (by omega)], rfl⟩)⟩ | (exfalso; omega))
      · skip
        refine g_iload_n dX8_stick_33 rfl rfl ?_
        refine g_if_lt 49 dX8_stick_34 rfl (by omega) (fun c34 => ?_) (fun c34 => ?_)
        · skip
          refine g_iconst dX8_stick_49 ?_
          exact g_iret dX8_stick_50 rfl rfl ⟨Nat.le_refl _, Nat.le_refl _⟩ (by first | exact ⟨-1, rfl, Or.inl ⟨by omega, rfl, rfl⟩⟩ | exact ⟨0, rfl, Or.inr (Or.inl ⟨by omega, by rw [if_pos (by omega)], rfl⟩)⟩ | exact ⟨1, rfl, Or.inr (Or.inl ⟨by omega, by rw [if_neg (by omega)], rfl⟩)⟩ | exact ⟨0, rfl, Or.inr (Or.inr ⟨by omega, by rw [if_pos (by omega)], rfl⟩)⟩ | exact ⟨1, rfl, Or.inr (Or.inr ⟨by omega, by rw [if_neg (by omega)], rfl⟩)⟩ | (exfalso; omega))
        · skip
          refine g_iload_n dX8_stick_37 rfl rfl (g_iload_n dX8_stick_38 rfl rfl ?_)
          refine g_icmp_lt 49 dX8_stick_39 rfl (by omega) (by omega) (fun c39 => ?_) (fun c39 => ?_)
          · skip
            refine g_iconst dX8_stick_49 ?_
            exact g_iret dX8_stick_50 rfl rfl ⟨Nat.le_refl _, Nat.le_refl _⟩ (by first | exact ⟨-1, rfl, Or.inl ⟨by omega, rfl, rfl⟩⟩ | exact ⟨0, rfl, Or.inr (Or.inl ⟨by omega, by rw [if_pos (by omega)], rfl⟩)⟩ | exact ⟨1, rfl, Or.inr (Or.inl ⟨by omega, by rw [if_neg (by omega)], rfl⟩)⟩ | exact ⟨0, rfl, Or.inr (Or.inr ⟨by omega, by rw [if_pos (by omega)], rfl⟩)⟩ | exact ⟨1, rfl, Or.inr (Or.inr ⟨by omega, by rw [if_neg (by omega)], rfl⟩)⟩ | (exfalso; omega))
          · skip
            refine g_iload_n dX8_stick_42 rfl rfl (g_sipush dX8_stick_43 ks365 ?_)
            refine g_icmp_le 51 dX8_stick_46 rfl (by omega) (by omega) (fun c46 => ?_) (fun c46 => ?_)
            · skip
              refine g_aload_n dX8_stick_51 rfl rfl (gf_X8_19 (M := mX8_stick) rfl dX8_stick_52 (yo9 hY) (yr9_1 hY) (gf_X8_101 (M := mX8_stick) rfl dX8_stick_55 (ck_o hY clk12) (g_bipush dX8_stick_58 kbm4 ?_)))
              refine g_icmp_ne 67 dX8_stick_60 rfl (by omega) (by omega) (fun c60 => ?_) (fun c60 => ?_)
              · skip
                refine g_iconst dX8_stick_67 (g_ist5 dX8_stick_68 (by decide) rfl (g_iload dX8_stick_70 rfl ?_))
                refine g_if_eq 85 dX8_stick_72 rfl (by omega) (fun c72 => ?_) (fun c72 => ?_)
                · skip
                  refine g_aload_n dX8_stick_85 rfl rfl (gf_X8_19 (M := mX8_stick) rfl dX8_stick_86 (yo9 hY) (yr9_1 hY) (g_iload_n dX8_stick_89 rfl rfl (g_iload_n dX8_stick_90 rfl rfl (g_iload_n dX8_stick_91 rfl rfl (cv_X8_238 (M := mX8_stick) rfl dX8_stick_92 (ck_o hY clk12) (RO.same _ _ _) (Nat.le_of_ble_eq_true rfl) (e_X0_jam hY clk12) <| kV (g_iload dX8_stick_95 rfl ?_))))))
                  exact g_iret dX8_stick_97 rfl rfl ⟨Nat.le_refl _, Nat.le_refl _⟩ (by first | exact ⟨-1, rfl, Or.inl ⟨by omega, rfl, rfl⟩⟩ | exact ⟨0, rfl, Or.inr (Or.inl ⟨by omega, by rw [if_pos (by omega)], rfl⟩)⟩ | exact ⟨1, rfl, Or.inr (Or.inl ⟨by omega, by rw [if_neg (by omega)], rfl⟩)⟩ | exact ⟨0, rfl, Or.inr (Or.inr ⟨by omega, by rw [if_pos (by omega)], rfl⟩)⟩ | exact ⟨1, rfl, Or.inr (Or.inr ⟨by omega, by rw [if_neg (by omega)], rfl⟩)⟩ | (exfalso; omega))
                · skip
                  refine g_aload_n dX8_stick_75 rfl rfl (gf_X8_19 (M := mX8_stick) rfl dX8_stick_76 (yo9 hY) (yr9_1 hY) (cv_X8_235 (M := mX8_stick) rfl dX8_stick_79 (ck_o hY clk12) (RO.same _ _ _) (Nat.le_of_ble_eq_true rfl) (e_X0_free hY clk12) <| kV (g_goto 95 dX8_stick_82 rfl (g_iload dX8_stick_95 rfl ?_))))
                  exact g_iret dX8_stick_97 rfl rfl ⟨Nat.le_refl _, Nat.le_refl _⟩ (by first | exact ⟨-1, rfl, Or.inl ⟨by omega, rfl, rfl⟩⟩ | exact ⟨0, rfl, Or.inr (Or.inl ⟨by omega, by rw [if_pos (by omega)], rfl⟩)⟩ | exact ⟨1, rfl, Or.inr (Or.inl ⟨by omega, by rw [if_neg (by omega)], rfl⟩)⟩ | exact ⟨0, rfl, Or.inr (Or.inr ⟨by omega, by rw [if_pos (by omega)], rfl⟩)⟩ | exact ⟨1, rfl, Or.inr (Or.inr ⟨by omega, by rw [if_neg (by omega)], rfl⟩)⟩ | (exfalso; omega))
              · skip
                refine g_iconst dX8_stick_63 (g_goto 68 dX8_stick_64 rfl (g_ist5 dX8_stick_68 (by decide) rfl (g_iload dX8_stick_70 rfl ?_)))
                refine g_if_eq 85 dX8_stick_72 rfl (by omega) (fun c72 => ?_) (fun c72 => ?_)
                · skip
                  refine g_aload_n dX8_stick_85 rfl rfl (gf_X8_19 (M := mX8_stick) rfl dX8_stick_86 (yo9 hY) (yr9_1 hY) (g_iload_n dX8_stick_89 rfl rfl (g_iload_n dX8_stick_90 rfl rfl (g_iload_n dX8_stick_91 rfl rfl (cv_X8_238 (M := mX8_stick) rfl dX8_stick_92 (ck_o hY clk12) (RO.same _ _ _) (Nat.le_of_ble_eq_true rfl) (e_X0_jam hY clk12) <| kV (g_iload dX8_stick_95 rfl ?_))))))
                  exact g_iret dX8_stick_97 rfl rfl ⟨Nat.le_refl _, Nat.le_refl _⟩ (by first | exact ⟨-1, rfl, Or.inl ⟨by omega, rfl, rfl⟩⟩ | exact ⟨0, rfl, Or.inr (Or.inl ⟨by omega, by rw [if_pos (by omega)], rfl⟩)⟩ | exact ⟨1, rfl, Or.inr (Or.inl ⟨by omega, by rw [if_neg (by omega)], rfl⟩)⟩ | exact ⟨0, rfl, Or.inr (Or.inr ⟨by omega, by rw [if_pos (by omega)], rfl⟩)⟩ | exact ⟨1, rfl, Or.inr (Or.inr ⟨by omega, by rw [if_neg (by omega)], rfl⟩)⟩ | (exfalso; omega))
                · skip
                  refine g_aload_n dX8_stick_75 rfl rfl (gf_X8_19 (M := mX8_stick) rfl dX8_stick_76 (yo9 hY) (yr9_1 hY) (cv_X8_235 (M := mX8_stick) rfl dX8_stick_79 (ck_o hY clk12) (RO.same _ _ _) (Nat.le_of_ble_eq_true rfl) (e_X0_free hY clk12) <| kV (g_goto 95 dX8_stick_82 rfl (g_iload dX8_stick_95 rfl ?_))))
                  exact g_iret dX8_stick_97 rfl rfl ⟨Nat.le_refl _, Nat.le_refl _⟩ (by first | exact ⟨-1, rfl, Or.inl ⟨by omega, rfl, rfl⟩⟩ | exact ⟨0, rfl, Or.inr (Or.inl ⟨by omega, by rw [if_pos (by omega)], rfl⟩)⟩ | exact ⟨1, rfl, Or.inr (Or.inl ⟨by omega, by rw [if_neg (by omega)], rfl⟩)⟩ | exact ⟨0, rfl, Or.inr (Or.inr ⟨by omega, by rw [if_pos (by omega)], rfl⟩)⟩ | exact ⟨1, rfl, Or.inr (Or.inr ⟨by omega, by rw [if_neg (by omega)], rfl⟩)⟩ | (exfalso; omega))
            · skip
              refine g_iconst dX8_stick_49 ?_
              exact g_iret dX8_stick_50 rfl rfl ⟨Nat.le_refl _, Nat.le_refl _⟩ (by first | exact ⟨-1, rfl, Or.inl ⟨by omega, rfl, rfl⟩⟩ | exact ⟨0, rfl, Or.inr (Or.inl ⟨by omega, by rw [if_pos (by omega)], rfl⟩)⟩ | exact ⟨1, rfl, Or.inr (Or.inl ⟨by omega, by rw [if_neg (by omega)], rfl⟩)⟩ | exact ⟨0, rfl, Or.inr (Or.inr ⟨by omega, by rw [if_pos (by omega)], rfl⟩)⟩ | exact ⟨1, rfl, Or.inr (Or.inr ⟨by omega, by rw [if_neg (by omega)], rfl⟩)⟩ | (exfalso; omega))
  · skip
    refine g_iload_n dX8_stick_6 rfl rfl ?_
    refine g_if_ne 18 dX8_stick_7 rfl (by omega) (fun c7 => ?_) (fun c7 => ?_)
    · skip
      refine g_iconst dX8_stick_18 (g_ist4 dX8_stick_19 (by decide) rfl (g_iload dX8_stick_21 rfl ?_))
      refine g_if_ne 51 dX8_stick_23 rfl (by omega) (fun c23 => ?_) (fun c23 => ?_)
      · skip
        refine g_aload_n dX8_stick_51 rfl rfl (gf_X8_19 (M := mX8_stick) rfl dX8_stick_52 (yo9 hY) (yr9_1 hY) (gf_X8_101 (M := mX8_stick) rfl dX8_stick_55 (ck_o hY clk12) (g_bipush dX8_stick_58 kbm4 ?_)))
        refine g_icmp_ne 67 dX8_stick_60 rfl (by omega) (by omega) (fun c60 => ?_) (fun c60 => ?_)
        · skip
          refine g_iconst dX8_stick_67 (g_ist5 dX8_stick_68 (by decide) rfl (g_iload dX8_stick_70 rfl ?_))
          refine g_if_eq 85 dX8_stick_72 rfl (by omega) (fun c72 => ?_) (fun c72 => ?_)
          · skip
            refine g_aload_n dX8_stick_85 rfl rfl (gf_X8_19 (M := mX8_stick) rfl dX8_stick_86 (yo9 hY) (yr9_1 hY) (g_iload_n dX8_stick_89 rfl rfl (g_iload_n dX8_stick_90 rfl rfl (g_iload_n dX8_stick_91 rfl rfl (cv_X8_238 (M := mX8_stick) rfl dX8_stick_92 (ck_o hY clk12) (RO.same _ _ _) (Nat.le_of_ble_eq_true rfl) (e_X0_jam hY clk12) <| kV (g_iload dX8_stick_95 rfl ?_))))))
            exact g_iret dX8_stick_97 rfl rfl ⟨Nat.le_refl _, Nat.le_refl _⟩ (by first | exact ⟨-1, rfl, Or.inl ⟨by omega, rfl, rfl⟩⟩ | exact ⟨0, rfl, Or.inr (Or.inl ⟨by omega, by rw [if_pos (by omega)], rfl⟩)⟩ | exact ⟨1, rfl, Or.inr (Or.inl ⟨by omega, by rw [if_neg (by omega)], rfl⟩)⟩ | exact ⟨0, rfl, Or.inr (Or.inr ⟨by omega, by rw [if_pos (by omega)], rfl⟩)⟩ | exact ⟨1, rfl, Or.inr (Or.inr ⟨by omega, by rw [if_neg (by omega)], rfl⟩)⟩ | (exfalso; omega))
          · skip
            refine g_aload_n dX8_stick_75 rfl rfl (gf_X8_19 (M := mX8_stick) rfl dX8_stick_76 (yo9 hY) (yr9_1 hY) (cv_X8_235 (M := mX8_stick) rfl dX8_stick_79 (ck_o hY clk12) (RO.same _ _ _) (Nat.le_of_ble_eq_true rfl) (e_X0_free hY clk12) <| kV (g_goto 95 dX8_stick_82 rfl (g_iload dX8_stick_95 rfl ?_))))
            exact g_iret dX8_stick_97 rfl rfl ⟨Nat.le_refl _, Nat.le_refl _⟩ (by first | exact ⟨-1, rfl, Or.inl ⟨by omega, rfl, rfl⟩⟩ | exact ⟨0, rfl, Or.inr (Or.inl ⟨by omega, by rw [if_pos (by omega)], rfl⟩)⟩ | exact ⟨1, rfl, Or.inr (Or.inl ⟨by omega, by rw [if_neg (by omega)], rfl⟩)⟩ | exact ⟨0, rfl, Or.inr (Or.inr ⟨by omega, by rw [if_pos (by omega)], rfl⟩)⟩ | exact ⟨1, rfl, Or.inr (Or.inr ⟨by omega, by rw [if_neg (by omega)], rfl⟩)⟩ | (exfalso; omega))
        · skip
          refine g_iconst dX8_stick_63 (g_goto 68 dX8_stick_64 rfl (g_ist5 dX8_stick_68 (by decide) rfl (g_iload dX8_stick_70 rfl ?_)))
          refine g_if_eq 85 dX8_stick_72 rfl (by omega) (fun c72 => ?_) (fun c72 => ?_)
          · skip
            refine g_aload_n dX8_stick_85 rfl rfl (gf_X8_19 (M := mX8_stick) rfl dX8_stick_86 (yo9 hY) (yr9_1 hY) (g_iload_n dX8_stick_89 rfl rfl (g_iload_n dX8_stick_90 rfl rfl (g_iload_n dX8_stick_91 rfl rfl (cv_X8_238 (M := mX8_stick) rfl dX8_stick_92 (ck_o hY clk12) (RO.same _ _ _) (Nat.le_of_ble_eq_true rfl) (e_X0_jam hY clk12) <| kV (g_iload dX8_stick_95 rfl ?_))))))
            exact g_iret dX8_stick_97 rfl rfl ⟨Nat.le_refl _, Nat.le_refl _⟩ (by first | exact ⟨-1, rfl, Or.inl ⟨by omega, rfl, rfl⟩⟩ | exact ⟨0, rfl, Or.inr (Or.inl ⟨by omega, by rw [if_pos (by omega)], rfl⟩)⟩ | exact ⟨1, rfl, Or.inr (Or.inl ⟨by omega, by rw [if_neg (by omega)], rfl⟩)⟩ | exact ⟨0, rfl, Or.inr (Or.inr ⟨by omega, by rw [if_pos (by omega)], rfl⟩)⟩ | exact ⟨1, rfl, Or.inr (Or.inr ⟨by omega, by rw [if_neg (by omega)], rfl⟩)⟩ | (exfalso; omega))
          · skip
            refine g_aload_n dX8_stick_75 rfl rfl (gf_X8_19 (M := mX8_stick) rfl dX8_stick_76 (yo9 hY) (yr9_1 hY) (cv_X8_235 (M := mX8_stick) rfl dX8_stick_79 (ck_o hY clk12) (RO.same _ _ _) (Nat.le_of_ble_eq_true rfl) (e_X0_free hY clk12) <| kV (g_goto 95 dX8_stick_82 rfl (g_iload dX8_stick_95 rfl ?_))))
            exact g_iret dX8_stick_97 rfl rfl ⟨Nat.le_refl _, Nat.le_refl _⟩ (by first | exact ⟨-1, rfl, Or.inl ⟨by omega, rfl, rfl⟩⟩ | exact ⟨0, rfl, Or.inr (Or.inl ⟨by omega, by rw [if_pos (by omega)], rfl⟩)⟩ | exact ⟨1, rfl, Or.inr (Or.inl ⟨by omega, by rw [if_neg (by omega)], rfl⟩)⟩ | exact ⟨0, rfl, Or.inr (Or.inr ⟨by omega, by rw [if_pos (by omega)], rfl⟩)⟩ | exact ⟨1, rfl, Or.inr (Or.inr ⟨by omega, by rw [if_neg (by omega)], rfl⟩)⟩ | (exfalso; omega))
      · skip
        refine g_iload_n dX8_stick_26 rfl rfl (cv_X8_232 (M := mX8_stick) rfl dX8_stick_27 (RO.same _ _ _) (Nat.le_of_ble_eq_true rfl) (e_X8_isDoor (by omega)) <| kI ?_)
        refine g_if_eq 49 dX8_stick_30 rfl (by omega) (fun c30 => ?_) (fun c30 => ?_)
        · skip
          refine g_iconst dX8_stick_49 ?_
          exact g_iret dX8_stick_50 rfl rfl ⟨Nat.le_refl _, Nat.le_refl _⟩ (by first | exact ⟨-1, rfl, Or.inl ⟨by omega, rfl, rfl⟩⟩ | exact ⟨0, rfl, Or.inr (Or.inl ⟨by omega, by rw [if_pos (by omega)], rfl⟩)⟩ | exact ⟨1, rfl, Or.inr (Or.inl ⟨by omega, by rw [if_neg (by omega)], rfl⟩)⟩ | exact ⟨0, rfl, Or.inr (Or.inr ⟨by omega, by rw [if_pos (by omega)], rfl⟩)⟩ | exact ⟨1, rfl, Or.inr (Or.inr ⟨by omega, by rw [if_neg (by omega)], rfl⟩)⟩ | (exfalso; omega))
        · skip
          refine g_iload_n dX8_stick_33 rfl rfl ?_
          refine g_if_lt 49 dX8_stick_34 rfl (by omega) (fun c34 => ?_) (fun c34 => ?_)
          · skip
            refine g_iconst dX8_stick_49 ?_
            exact g_iret dX8_stick_50 rfl rfl ⟨Nat.le_refl _, Nat.le_refl _⟩ (by first | exact ⟨-1, rfl, Or.inl ⟨by omega, rfl, rfl⟩⟩ | exact ⟨0, rfl, Or.inr (Or.inl ⟨by omega, by rw [if_pos (by omega)], rfl⟩)⟩ | exact ⟨1, rfl, Or.inr (Or.inl ⟨by omega, by rw [if_neg (by omega)], rfl⟩)⟩ | exact ⟨0, rfl, Or.inr (Or.inr ⟨by omega, by rw [if_pos (by omega)], rfl⟩)⟩ | exact ⟨1, rfl, Or.inr (Or.inr ⟨by omega, by rw [if_neg (by omega)], rfl⟩)⟩ | (exfalso; omega))
          · skip
            refine g_iload_n dX8_stick_37 rfl rfl (g_iload_n dX8_stick_38 rfl rfl ?_)
            refine g_icmp_lt 49 dX8_stick_39 rfl (by omega) (by omega) (fun c39 => ?_) (fun c39 => ?_)
            · skip
              refine g_iconst dX8_stick_49 ?_
              exact g_iret dX8_stick_50 rfl rfl ⟨Nat.le_refl _, Nat.le_refl _⟩ (by first | exact ⟨-1, rfl, Or.inl ⟨by omega, rfl, rfl⟩⟩ | exact ⟨0, rfl, Or.inr (Or.inl ⟨by omega, by rw [if_pos (by omega)], rfl⟩)⟩ | exact ⟨1, rfl, Or.inr (Or.inl ⟨by omega, by rw [if_neg (by omega)], rfl⟩)⟩ | exact ⟨0, rfl, Or.inr (Or.inr ⟨by omega, by rw [if_pos (by omega)], rfl⟩)⟩ | exact ⟨1, rfl, Or.inr (Or.inr ⟨by omega, by rw [if_neg (by omega)], rfl⟩)⟩ | (exfalso; omega))
            · skip
              refine g_iload_n dX8_stick_42 rfl rfl (g_sipush dX8_stick_43 ks365 ?_)
              refine g_icmp_le 51 dX8_stick_46 rfl (by omega) (by omega) (fun c46 => ?_) (fun c46 => ?_)
              · skip
                refine g_aload_n dX8_stick_51 rfl rfl (gf_X8_19 (M := mX8_stick) rfl dX8_stick_52 (yo9 hY) (yr9_1 hY) (gf_X8_101 (M := mX8_stick) rfl dX8_stick_55 (ck_o hY clk12) (g_bipush dX8_stick_58 kbm4 ?_)))
                refine g_icmp_ne 67 dX8_stick_60 rfl (by omega) (by omega) (fun c60 => ?_) (fun c60 => ?_)
                · skip
                  refine g_iconst dX8_stick_67 (g_ist5 dX8_stick_68 (by decide) rfl (g_iload dX8_stick_70 rfl ?_))
                  refine g_if_eq 85 dX8_stick_72 rfl (by omega) (fun c72 => ?_) (fun c72 => ?_)
                  · skip
                    refine g_aload_n dX8_stick_85 rfl rfl (gf_X8_19 (M := mX8_stick) rfl dX8_stick_86 (yo9 hY) (yr9_1 hY) (g_iload_n dX8_stick_89 rfl rfl (g_iload_n dX8_stick_90 rfl rfl (g_iload_n dX8_stick_91 rfl rfl (cv_X8_238 (M := mX8_stick) rfl dX8_stick_92 (ck_o hY clk12) (RO.same _ _ _) (Nat.le_of_ble_eq_true rfl) (e_X0_jam hY clk12) <| kV (g_iload dX8_stick_95 rfl ?_))))))
                    exact g_iret dX8_stick_97 rfl rfl ⟨Nat.le_refl _, Nat.le_refl _⟩ (by first | exact ⟨-1, rfl, Or.inl ⟨by omega, rfl, rfl⟩⟩ | exact ⟨0, rfl, Or.inr (Or.inl ⟨by omega, by rw [if_pos (by omega)], rfl⟩)⟩ | exact ⟨1, rfl, Or.inr (Or.inl ⟨by omega, by rw [if_neg (by omega)], rfl⟩)⟩ | exact ⟨0, rfl, Or.inr (Or.inr ⟨by omega, by rw [if_pos (by omega)], rfl⟩)⟩ | exact ⟨1, rfl, Or.inr (Or.inr ⟨by omega, by rw [if_neg (by omega)], rfl⟩)⟩ | (exfalso; omega))
                  · skip
                    refine g_aload_n dX8_stick_75 rfl rfl (gf_X8_19 (M := mX8_stick) rfl dX8_stick_76 (yo9 hY) (yr9_1 hY) (cv_X8_235 (M := mX8_stick) rfl dX8_stick_79 (ck_o hY clk12) (RO.same _ _ _) (Nat.le_of_ble_eq_true rfl) (e_X0_free hY clk12) <| kV (g_goto 95 dX8_stick_82 rfl (g_iload dX8_stick_95 rfl ?_))))
                    exact g_iret dX8_stick_97 rfl rfl ⟨Nat.le_refl _, Nat.le_refl _⟩ (by first | exact ⟨-1, rfl, Or.inl ⟨by omega, rfl, rfl⟩⟩ | exact ⟨0, rfl, Or.inr (Or.inl ⟨by omega, by rw [if_pos (by omega)], rfl⟩)⟩ | exact ⟨1, rfl, Or.inr (Or.inl ⟨by omega, by rw [if_neg (by omega)], rfl⟩)⟩ | exact ⟨0, rfl, Or.inr (Or.inr ⟨by omega, by rw [if_pos (by omega)], rfl⟩)⟩ | exact ⟨1, rfl, Or.inr (Or.inr ⟨by omega, by rw [if_neg (by omega)], rfl⟩)⟩ | (exfalso; omega))
                · skip
                  refine g_iconst dX8_stick_63 (g_goto 68 dX8_stick_64 rfl (g_ist5 dX8_stick_68 (by decide) rfl (g_iload dX8_stick_70 rfl ?_)))
                  refine g_if_eq 85 dX8_stick_72 rfl (by omega) (fun c72 => ?_) (fun c72 => ?_)
                  · skip
                    refine g_aload_n dX8_stick_85 rfl rfl (gf_X8_19 (M := mX8_stick) rfl dX8_stick_86 (yo9 hY) (yr9_1 hY) (g_iload_n dX8_stick_89 rfl rfl (g_iload_n dX8_stick_90 rfl rfl (g_iload_n dX8_stick_91 rfl rfl (cv_X8_238 (M := mX8_stick) rfl dX8_stick_92 (ck_o hY clk12) (RO.same _ _ _) (Nat.le_of_ble_eq_true rfl) (e_X0_jam hY clk12) <| kV (g_iload dX8_stick_95 rfl ?_))))))
                    exact g_iret dX8_stick_97 rfl rfl ⟨Nat.le_refl _, Nat.le_refl _⟩ (by first | exact ⟨-1, rfl, Or.inl ⟨by omega, rfl, rfl⟩⟩ | exact ⟨0, rfl, Or.inr (Or.inl ⟨by omega, by rw [if_pos (by omega)], rfl⟩)⟩ | exact ⟨1, rfl, Or.inr (Or.inl ⟨by omega, by rw [if_neg (by omega)], rfl⟩)⟩ | exact ⟨0, rfl, Or.inr (Or.inr ⟨by omega, by rw [if_pos (by omega)], rfl⟩)⟩ | exact ⟨1, rfl, Or.inr (Or.inr ⟨by omega, by rw [if_neg (by omega)], rfl⟩)⟩ | (exfalso; omega))
                  · skip
                    refine g_aload_n dX8_stick_75 rfl rfl (gf_X8_19 (M := mX8_stick) rfl dX8_stick_76 (yo9 hY) (yr9_1 hY) (cv_X8_235 (M := mX8_stick) rfl dX8_stick_79 (ck_o hY clk12) (RO.same _ _ _) (Nat.le_of_ble_eq_true rfl) (e_X0_free hY clk12) <| kV (g_goto 95 dX8_stick_82 rfl (g_iload dX8_stick_95 rfl ?_))))
                    exact g_iret dX8_stick_97 rfl rfl ⟨Nat.le_refl _, Nat.le_refl _⟩ (by first | exact ⟨-1, rfl, Or.inl ⟨by omega, rfl, rfl⟩⟩ | exact ⟨0, rfl, Or.inr (Or.inl ⟨by omega, by rw [if_pos (by omega)], rfl⟩)⟩ | exact ⟨1, rfl, Or.inr (Or.inl ⟨by omega, by rw [if_neg (by omega)], rfl⟩)⟩ | exact ⟨0, rfl, Or.inr (Or.inr ⟨by omega, by rw [if_pos (by omega)], rfl⟩)⟩ | exact ⟨1, rfl, Or.inr (Or.inr ⟨by omega, by rw [if_neg (by omega)], rfl⟩)⟩ | (exfalso; omega))
              · skip
                refine g_iconst dX8_stick_49 ?_
                exact g_iret dX8_stick_50 rfl rfl ⟨Nat.le_refl _, Nat.le_refl _⟩ (by first | exact ⟨-1, rfl, Or.inl ⟨by omega, rfl, rfl⟩⟩ | exact ⟨0, rfl, Or.inr (Or.inl ⟨by omega, by rw [if_pos (by omega)], rfl⟩)⟩ | exact ⟨1, rfl, Or.inr (Or.inl ⟨by omega, by rw [if_neg (by omega)], rfl⟩)⟩ | exact ⟨0, rfl, Or.inr (Or.inr ⟨by omega, by rw [if_pos (by omega)], rfl⟩)⟩ | exact ⟨1, rfl, Or.inr (Or.inr ⟨by omega, by rw [if_neg (by omega)], rfl⟩)⟩ | (exfalso; omega))
    · skip
      refine g_iload_n dX8_stick_10 rfl rfl ?_
      refine g_if_ne 18 dX8_stick_11 rfl (by omega) (fun c11 => ?_) (fun c11 => ?_)
      · skip
        refine g_iconst dX8_stick_18 (g_ist4 dX8_stick_19 (by decide) rfl (g_iload dX8_stick_21 rfl ?_))
        refine g_if_ne 51 dX8_stick_23 rfl (by omega) (fun c23 => ?_) (fun c23 => ?_)
        · skip
          refine g_aload_n dX8_stick_51 rfl rfl (gf_X8_19 (M := mX8_stick) rfl dX8_stick_52 (yo9 hY) (yr9_1 hY) (gf_X8_101 (M := mX8_stick) rfl dX8_stick_55 (ck_o hY clk12) (g_bipush dX8_stick_58 kbm4 ?_)))
          refine g_icmp_ne 67 dX8_stick_60 rfl (by omega) (by omega) (fun c60 => ?_) (fun c60 => ?_)
          · skip
            refine g_iconst dX8_stick_67 (g_ist5 dX8_stick_68 (by decide) rfl (g_iload dX8_stick_70 rfl ?_))
            refine g_if_eq 85 dX8_stick_72 rfl (by omega) (fun c72 => ?_) (fun c72 => ?_)
            · skip
              refine g_aload_n dX8_stick_85 rfl rfl (gf_X8_19 (M := mX8_stick) rfl dX8_stick_86 (yo9 hY) (yr9_1 hY) (g_iload_n dX8_stick_89 rfl rfl (g_iload_n dX8_stick_90 rfl rfl (g_iload_n dX8_stick_91 rfl rfl (cv_X8_238 (M := mX8_stick) rfl dX8_stick_92 (ck_o hY clk12) (RO.same _ _ _) (Nat.le_of_ble_eq_true rfl) (e_X0_jam hY clk12) <| kV (g_iload dX8_stick_95 rfl ?_))))))
              exact g_iret dX8_stick_97 rfl rfl ⟨Nat.le_refl _, Nat.le_refl _⟩ (by first | exact ⟨-1, rfl, Or.inl ⟨by omega, rfl, rfl⟩⟩ | exact ⟨0, rfl, Or.inr (Or.inl ⟨by omega, by rw [if_pos (by omega)], rfl⟩)⟩ | exact ⟨1, rfl, Or.inr (Or.inl ⟨by omega, by rw [if_neg (by omega)], rfl⟩)⟩ | exact ⟨0, rfl, Or.inr (Or.inr ⟨by omega, by rw [if_pos (by omega)], rfl⟩)⟩ | exact ⟨1, rfl, Or.inr (Or.inr ⟨by omega, by rw [if_neg (by omega)], rfl⟩)⟩ | (exfalso; omega))
            · skip
              refine g_aload_n dX8_stick_75 rfl rfl (gf_X8_19 (M := mX8_stick) rfl dX8_stick_76 (yo9 hY) (yr9_1 hY) (cv_X8_235 (M := mX8_stick) rfl dX8_stick_79 (ck_o hY clk12) (RO.same _ _ _) (Nat.le_of_ble_eq_true rfl) (e_X0_free hY clk12) <| kV (g_goto 95 dX8_stick_82 rfl (g_iload dX8_stick_95 rfl ?_))))
              exact g_iret dX8_stick_97 rfl rfl ⟨Nat.le_refl _, Nat.le_refl _⟩ (by first | exact ⟨-1, rfl, Or.inl ⟨by omega, rfl, rfl⟩⟩ | exact ⟨0, rfl, Or.inr (Or.inl ⟨by omega, by rw [if_pos (by omega)], rfl⟩)⟩ | exact ⟨1, rfl, Or.inr (Or.inl ⟨by omega, by rw [if_neg (by omega)], rfl⟩)⟩ | exact ⟨0, rfl, Or.inr (Or.inr ⟨by omega, by rw [if_pos (by omega)], rfl⟩)⟩ | exact ⟨1, rfl, Or.inr (Or.inr ⟨by omega, by rw [if_neg (by omega)], rfl⟩)⟩ | (exfalso; omega))
          · skip
            refine g_iconst dX8_stick_63 (g_goto 68 dX8_stick_64 rfl (g_ist5 dX8_stick_68 (by decide) rfl (g_iload dX8_stick_70 rfl ?_)))
            refine g_if_eq 85 dX8_stick_72 rfl (by omega) (fun c72 => ?_) (fun c72 => ?_)
            · skip
              refine g_aload_n dX8_stick_85 rfl rfl (gf_X8_19 (M := mX8_stick) rfl dX8_stick_86 (yo9 hY) (yr9_1 hY) (g_iload_n dX8_stick_89 rfl rfl (g_iload_n dX8_stick_90 rfl rfl (g_iload_n dX8_stick_91 rfl rfl (cv_X8_238 (M := mX8_stick) rfl dX8_stick_92 (ck_o hY clk12) (RO.same _ _ _) (Nat.le_of_ble_eq_true rfl) (e_X0_jam hY clk12) <| kV (g_iload dX8_stick_95 rfl ?_))))))
              exact g_iret dX8_stick_97 rfl rfl ⟨Nat.le_refl _, Nat.le_refl _⟩ (by first | exact ⟨-1, rfl, Or.inl ⟨by omega, rfl, rfl⟩⟩ | exact ⟨0, rfl, Or.inr (Or.inl ⟨by omega, by rw [if_pos (by omega)], rfl⟩)⟩ | exact ⟨1, rfl, Or.inr (Or.inl ⟨by omega, by rw [if_neg (by omega)], rfl⟩)⟩ | exact ⟨0, rfl, Or.inr (Or.inr ⟨by omega, by rw [if_pos (by omega)], rfl⟩)⟩ | exact ⟨1, rfl, Or.inr (Or.inr ⟨by omega, by rw [if_neg (by omega)], rfl⟩)⟩ | (exfalso; omega))
            · skip
              refine g_aload_n dX8_stick_75 rfl rfl (gf_X8_19 (M := mX8_stick) rfl dX8_stick_76 (yo9 hY) (yr9_1 hY) (cv_X8_235 (M := mX8_stick) rfl dX8_stick_79 (ck_o hY clk12) (RO.same _ _ _) (Nat.le_of_ble_eq_true rfl) (e_X0_free hY clk12) <| kV (g_goto 95 dX8_stick_82 rfl (g_iload dX8_stick_95 rfl ?_))))
              exact g_iret dX8_stick_97 rfl rfl ⟨Nat.le_refl _, Nat.le_refl _⟩ (by first | exact ⟨-1, rfl, Or.inl ⟨by omega, rfl, rfl⟩⟩ | exact ⟨0, rfl, Or.inr (Or.inl ⟨by omega, by rw [if_pos (by omega)], rfl⟩)⟩ | exact ⟨1, rfl, Or.inr (Or.inl ⟨by omega, by rw [if_neg (by omega)], rfl⟩)⟩ | exact ⟨0, rfl, Or.inr (Or.inr ⟨by omega, by rw [if_pos (by omega)], rfl⟩)⟩ | exact ⟨1, rfl, Or.inr (Or.inr ⟨by omega, by rw [if_neg (by omega)], rfl⟩)⟩ | (exfalso; omega))
        · skip
          refine g_iload_n dX8_stick_26 rfl rfl (cv_X8_232 (M := mX8_stick) rfl dX8_stick_27 (RO.same _ _ _) (Nat.le_of_ble_eq_true rfl) (e_X8_isDoor (by omega)) <| kI ?_)
          refine g_if_eq 49 dX8_stick_30 rfl (by omega) (fun c30 => ?_) (fun c30 => ?_)
          · skip
            refine g_iconst dX8_stick_49 ?_
            exact g_iret dX8_stick_50 rfl rfl ⟨Nat.le_refl _, Nat.le_refl _⟩ (by first | exact ⟨-1, rfl, Or.inl ⟨by omega, rfl, rfl⟩⟩ | exact ⟨0, rfl, Or.inr (Or.inl ⟨by omega, by rw [if_pos (by omega)], rfl⟩)⟩ | exact ⟨1, rfl, Or.inr (Or.inl ⟨by omega, by rw [if_neg (by omega)], rfl⟩)⟩ | exact ⟨0, rfl, Or.inr (Or.inr ⟨by omega, by rw [if_pos (by omega)], rfl⟩)⟩ | exact ⟨1, rfl, Or.inr (Or.inr ⟨by omega, by rw [if_neg (by omega)], rfl⟩)⟩ | (exfalso; omega))
          · skip
            refine g_iload_n dX8_stick_33 rfl rfl ?_
            refine g_if_lt 49 dX8_stick_34 rfl (by omega) (fun c34 => ?_) (fun c34 => ?_)
            · skip
              refine g_iconst dX8_stick_49 ?_
              exact g_iret dX8_stick_50 rfl rfl ⟨Nat.le_refl _, Nat.le_refl _⟩ (by first | exact ⟨-1, rfl, Or.inl ⟨by omega, rfl, rfl⟩⟩ | exact ⟨0, rfl, Or.inr (Or.inl ⟨by omega, by rw [if_pos (by omega)], rfl⟩)⟩ | exact ⟨1, rfl, Or.inr (Or.inl ⟨by omega, by rw [if_neg (by omega)], rfl⟩)⟩ | exact ⟨0, rfl, Or.inr (Or.inr ⟨by omega, by rw [if_pos (by omega)], rfl⟩)⟩ | exact ⟨1, rfl, Or.inr (Or.inr ⟨by omega, by rw [if_neg (by omega)], rfl⟩)⟩ | (exfalso; omega))
            · skip
              refine g_iload_n dX8_stick_37 rfl rfl (g_iload_n dX8_stick_38 rfl rfl ?_)
              refine g_icmp_lt 49 dX8_stick_39 rfl (by omega) (by omega) (fun c39 => ?_) (fun c39 => ?_)
              · skip
                refine g_iconst dX8_stick_49 ?_
                exact g_iret dX8_stick_50 rfl rfl ⟨Nat.le_refl _, Nat.le_refl _⟩ (by first | exact ⟨-1, rfl, Or.inl ⟨by omega, rfl, rfl⟩⟩ | exact ⟨0, rfl, Or.inr (Or.inl ⟨by omega, by rw [if_pos (by omega)], rfl⟩)⟩ | exact ⟨1, rfl, Or.inr (Or.inl ⟨by omega, by rw [if_neg (by omega)], rfl⟩)⟩ | exact ⟨0, rfl, Or.inr (Or.inr ⟨by omega, by rw [if_pos (by omega)], rfl⟩)⟩ | exact ⟨1, rfl, Or.inr (Or.inr ⟨by omega, by rw [if_neg (by omega)], rfl⟩)⟩ | (exfalso; omega))
              · skip
                refine g_iload_n dX8_stick_42 rfl rfl (g_sipush dX8_stick_43 ks365 ?_)
                refine g_icmp_le 51 dX8_stick_46 rfl (by omega) (by omega) (fun c46 => ?_) (fun c46 => ?_)
                · skip
                  refine g_aload_n dX8_stick_51 rfl rfl (gf_X8_19 (M := mX8_stick) rfl dX8_stick_52 (yo9 hY) (yr9_1 hY) (gf_X8_101 (M := mX8_stick) rfl dX8_stick_55 (ck_o hY clk12) (g_bipush dX8_stick_58 kbm4 ?_)))
                  refine g_icmp_ne 67 dX8_stick_60 rfl (by omega) (by omega) (fun c60 => ?_) (fun c60 => ?_)
                  · skip
                    refine g_iconst dX8_stick_67 (g_ist5 dX8_stick_68 (by decide) rfl (g_iload dX8_stick_70 rfl ?_))
                    refine g_if_eq 85 dX8_stick_72 rfl (by omega) (fun c72 => ?_) (fun c72 => ?_)
                    · skip
                      refine g_aload_n dX8_stick_85 rfl rfl (gf_X8_19 (M := mX8_stick) rfl dX8_stick_86 (yo9 hY) (yr9_1 hY) (g_iload_n dX8_stick_89 rfl rfl (g_iload_n dX8_stick_90 rfl rfl (g_iload_n dX8_stick_91 rfl rfl (cv_X8_238 (M := mX8_stick) rfl dX8_stick_92 (ck_o hY clk12) (RO.same _ _ _) (Nat.le_of_ble_eq_true rfl) (e_X0_jam hY clk12) <| kV (g_iload dX8_stick_95 rfl ?_))))))
                      exact g_iret dX8_stick_97 rfl rfl ⟨Nat.le_refl _, Nat.le_refl _⟩ (by first | exact ⟨-1, rfl, Or.inl ⟨by omega, rfl, rfl⟩⟩ | exact ⟨0, rfl, Or.inr (Or.inl ⟨by omega, by rw [if_pos (by omega)], rfl⟩)⟩ | exact ⟨1, rfl, Or.inr (Or.inl ⟨by omega, by rw [if_neg (by omega)], rfl⟩)⟩ | exact ⟨0, rfl, Or.inr (Or.inr ⟨by omega, by rw [if_pos (by omega)], rfl⟩)⟩ | exact ⟨1, rfl, Or.inr (Or.inr ⟨by omega, by rw [if_neg (by omega)], rfl⟩)⟩ | (exfalso; omega))
                    · skip
                      refine g_aload_n dX8_stick_75 rfl rfl (gf_X8_19 (M := mX8_stick) rfl dX8_stick_76 (yo9 hY) (yr9_1 hY) (cv_X8_235 (M := mX8_stick) rfl dX8_stick_79 (ck_o hY clk12) (RO.same _ _ _) (Nat.le_of_ble_eq_true rfl) (e_X0_free hY clk12) <| kV (g_goto 95 dX8_stick_82 rfl (g_iload dX8_stick_95 rfl ?_))))
                      exact g_iret dX8_stick_97 rfl rfl ⟨Nat.le_refl _, Nat.le_refl _⟩ (by first | exact ⟨-1, rfl, Or.inl ⟨by omega, rfl, rfl⟩⟩ | exact ⟨0, rfl, Or.inr (Or.inl ⟨by omega, by rw [if_pos (by omega)], rfl⟩)⟩ | exact ⟨1, rfl, Or.inr (Or.inl ⟨by omega, by rw [if_neg (by omega)], rfl⟩)⟩ | exact ⟨0, rfl, Or.inr (Or.inr ⟨by omega, by rw [if_pos (by omega)], rfl⟩)⟩ | exact ⟨1, rfl, Or.inr (Or.inr ⟨by omega, by rw [if_neg (by omega)], rfl⟩)⟩ | (exfalso; omega))
                  · skip
                    refine g_iconst dX8_stick_63 (g_goto 68 dX8_stick_64 rfl (g_ist5 dX8_stick_68 (by decide) rfl (g_iload dX8_stick_70 rfl ?_)))
                    refine g_if_eq 85 dX8_stick_72 rfl (by omega) (fun c72 => ?_) (fun c72 => ?_)
                    · skip
                      refine g_aload_n dX8_stick_85 rfl rfl (gf_X8_19 (M := mX8_stick) rfl dX8_stick_86 (yo9 hY) (yr9_1 hY) (g_iload_n dX8_stick_89 rfl rfl (g_iload_n dX8_stick_90 rfl rfl (g_iload_n dX8_stick_91 rfl rfl (cv_X8_238 (M := mX8_stick) rfl dX8_stick_92 (ck_o hY clk12) (RO.same _ _ _) (Nat.le_of_ble_eq_true rfl) (e_X0_jam hY clk12) <| kV (g_iload dX8_stick_95 rfl ?_))))))
                      exact g_iret dX8_stick_97 rfl rfl ⟨Nat.le_refl _, Nat.le_refl _⟩ (by first | exact ⟨-1, rfl, Or.inl ⟨by omega, rfl, rfl⟩⟩ | exact ⟨0, rfl, Or.inr (Or.inl ⟨by omega, by rw [if_pos (by omega)], rfl⟩)⟩ | exact ⟨1, rfl, Or.inr (Or.inl ⟨by omega, by rw [if_neg (by omega)], rfl⟩)⟩ | exact ⟨0, rfl, Or.inr (Or.inr ⟨by omega, by rw [if_pos (by omega)], rfl⟩)⟩ | exact ⟨1, rfl, Or.inr (Or.inr ⟨by omega, by rw [if_neg (by omega)], rfl⟩)⟩ | (exfalso; omega))
                    · skip
                      refine g_aload_n dX8_stick_75 rfl rfl (gf_X8_19 (M := mX8_stick) rfl dX8_stick_76 (yo9 hY) (yr9_1 hY) (cv_X8_235 (M := mX8_stick) rfl dX8_stick_79 (ck_o hY clk12) (RO.same _ _ _) (Nat.le_of_ble_eq_true rfl) (e_X0_free hY clk12) <| kV (g_goto 95 dX8_stick_82 rfl (g_iload dX8_stick_95 rfl ?_))))
                      exact g_iret dX8_stick_97 rfl rfl ⟨Nat.le_refl _, Nat.le_refl _⟩ (by first | exact ⟨-1, rfl, Or.inl ⟨by omega, rfl, rfl⟩⟩ | exact ⟨0, rfl, Or.inr (Or.inl ⟨by omega, by rw [if_pos (by omega)], rfl⟩)⟩ | exact ⟨1, rfl, Or.inr (Or.inl ⟨by omega, by rw [if_neg (by omega)], rfl⟩)⟩ | exact ⟨0, rfl, Or.inr (Or.inr ⟨by omega, by rw [if_pos (by omega)], rfl⟩)⟩ | exact ⟨1, rfl, Or.inr (Or.inr ⟨by omega, by rw [if_neg (by omega)], rfl⟩)⟩ | (exfalso; omega))
                · skip
                  refine g_iconst dX8_stick_49 ?_
                  exact g_iret dX8_stick_50 rfl rfl ⟨Nat.le_refl _, Nat.le_refl _⟩ (by first | exact ⟨-1, rfl, Or.inl ⟨by omega, rfl, rfl⟩⟩ | exact ⟨0, rfl, Or.inr (Or.inl ⟨by omega, by rw [if_pos (by omega)], rfl⟩)⟩ | exact ⟨1, rfl, Or.inr (Or.inl ⟨by omega, by rw [if_neg (by omega)], rfl⟩)⟩ | exact ⟨0, rfl, Or.inr (Or.inr ⟨by omega, by rw [if_pos (by omega)], rfl⟩)⟩ | exact ⟨1, rfl, Or.inr (Or.inr ⟨by omega, by rw [if_neg (by omega)], rfl⟩)⟩ | (exfalso; omega))
      · skip
        refine g_iconst dX8_stick_14 (g_goto 19 dX8_stick_15 rfl (g_ist4 dX8_stick_19 (by decide) rfl (g_iload dX8_stick_21 rfl ?_)))
        refine g_if_ne 51 dX8_stick_23 rfl (by omega) (fun c23 => ?_) (fun c23 => ?_)
        · skip
          refine g_aload_n dX8_stick_51 rfl rfl (gf_X8_19 (M := mX8_stick) rfl dX8_stick_52 (yo9 hY) (yr9_1 hY) (gf_X8_101 (M := mX8_stick) rfl dX8_stick_55 (ck_o hY clk12) (g_bipush dX8_stick_58 kbm4 ?_)))
          refine g_icmp_ne 67 dX8_stick_60 rfl (by omega) (by omega) (fun c60 => ?_) (fun c60 => ?_)
          · skip
            refine g_iconst dX8_stick_67 (g_ist5 dX8_stick_68 (by decide) rfl (g_iload dX8_stick_70 rfl ?_))
            refine g_if_eq 85 dX8_stick_72 rfl (by omega) (fun c72 => ?_) (fun c72 => ?_)
            · skip
              refine g_aload_n dX8_stick_85 rfl rfl (gf_X8_19 (M := mX8_stick) rfl dX8_stick_86 (yo9 hY) (yr9_1 hY) (g_iload_n dX8_stick_89 rfl rfl (g_iload_n dX8_stick_90 rfl rfl (g_iload_n dX8_stick_91 rfl rfl (cv_X8_238 (M := mX8_stick) rfl dX8_stick_92 (ck_o hY clk12) (RO.same _ _ _) (Nat.le_of_ble_eq_true rfl) (e_X0_jam hY clk12) <| kV (g_iload dX8_stick_95 rfl ?_))))))
              exact g_iret dX8_stick_97 rfl rfl ⟨Nat.le_refl _, Nat.le_refl _⟩ (by first | exact ⟨-1, rfl, Or.inl ⟨by omega, rfl, rfl⟩⟩ | exact ⟨0, rfl, Or.inr (Or.inl ⟨by omega, by rw [if_pos (by omega)], rfl⟩)⟩ | exact ⟨1, rfl, Or.inr (Or.inl ⟨by omega, by rw [if_neg (by omega)], rfl⟩)⟩ | exact ⟨0, rfl, Or.inr (Or.inr ⟨by omega, by rw [if_pos (by omega)], rfl⟩)⟩ | exact ⟨1, rfl, Or.inr (Or.inr ⟨by omega, by rw [if_neg (by omega)], rfl⟩)⟩ | (exfalso; omega))
            · skip
              refine g_aload_n dX8_stick_75 rfl rfl (gf_X8_19 (M := mX8_stick) rfl dX8_stick_76 (yo9 hY) (yr9_1 hY) (cv_X8_235 (M := mX8_stick) rfl dX8_stick_79 (ck_o hY clk12) (RO.same _ _ _) (Nat.le_of_ble_eq_true rfl) (e_X0_free hY clk12) <| kV (g_goto 95 dX8_stick_82 rfl (g_iload dX8_stick_95 rfl ?_))))
              exact g_iret dX8_stick_97 rfl rfl ⟨Nat.le_refl _, Nat.le_refl _⟩ (by first | exact ⟨-1, rfl, Or.inl ⟨by omega, rfl, rfl⟩⟩ | exact ⟨0, rfl, Or.inr (Or.inl ⟨by omega, by rw [if_pos (by omega)], rfl⟩)⟩ | exact ⟨1, rfl, Or.inr (Or.inl ⟨by omega, by rw [if_neg (by omega)], rfl⟩)⟩ | exact ⟨0, rfl, Or.inr (Or.inr ⟨by omega, by rw [if_pos (by omega)], rfl⟩)⟩ | exact ⟨1, rfl, Or.inr (Or.inr ⟨by omega, by rw [if_neg (by omega)], rfl⟩)⟩ | (exfalso; omega))
          · skip
            refine g_iconst dX8_stick_63 (g_goto 68 dX8_stick_64 rfl (g_ist5 dX8_stick_68 (by decide) rfl (g_iload dX8_stick_70 rfl ?_)))
            refine g_if_eq 85 dX8_stick_72 rfl (by omega) (fun c72 => ?_) (fun c72 => ?_)
            · skip
              refine g_aload_n dX8_stick_85 rfl rfl (gf_X8_19 (M := mX8_stick) rfl dX8_stick_86 (yo9 hY) (yr9_1 hY) (g_iload_n dX8_stick_89 rfl rfl (g_iload_n dX8_stick_90 rfl rfl (g_iload_n dX8_stick_91 rfl rfl (cv_X8_238 (M := mX8_stick) rfl dX8_stick_92 (ck_o hY clk12) (RO.same _ _ _) (Nat.le_of_ble_eq_true rfl) (e_X0_jam hY clk12) <| kV (g_iload dX8_stick_95 rfl ?_))))))
              exact g_iret dX8_stick_97 rfl rfl ⟨Nat.le_refl _, Nat.le_refl _⟩ (by first | exact ⟨-1, rfl, Or.inl ⟨by omega, rfl, rfl⟩⟩ | exact ⟨0, rfl, Or.inr (Or.inl ⟨by omega, by rw [if_pos (by omega)], rfl⟩)⟩ | exact ⟨1, rfl, Or.inr (Or.inl ⟨by omega, by rw [if_neg (by omega)], rfl⟩)⟩ | exact ⟨0, rfl, Or.inr (Or.inr ⟨by omega, by rw [if_pos (by omega)], rfl⟩)⟩ | exact ⟨1, rfl, Or.inr (Or.inr ⟨by omega, by rw [if_neg (by omega)], rfl⟩)⟩ | (exfalso; omega))
            · skip
              refine g_aload_n dX8_stick_75 rfl rfl (gf_X8_19 (M := mX8_stick) rfl dX8_stick_76 (yo9 hY) (yr9_1 hY) (cv_X8_235 (M := mX8_stick) rfl dX8_stick_79 (ck_o hY clk12) (RO.same _ _ _) (Nat.le_of_ble_eq_true rfl) (e_X0_free hY clk12) <| kV (g_goto 95 dX8_stick_82 rfl (g_iload dX8_stick_95 rfl ?_))))
              exact g_iret dX8_stick_97 rfl rfl ⟨Nat.le_refl _, Nat.le_refl _⟩ (by first | exact ⟨-1, rfl, Or.inl ⟨by omega, rfl, rfl⟩⟩ | exact ⟨0, rfl, Or.inr (Or.inl ⟨by omega, by rw [if_pos (by omega)], rfl⟩)⟩ | exact ⟨1, rfl, Or.inr (Or.inl ⟨by omega, by rw [if_neg (by omega)], rfl⟩)⟩ | exact ⟨0, rfl, Or.inr (Or.inr ⟨by omega, by rw [if_pos (by omega)], rfl⟩)⟩ | exact ⟨1, rfl, Or.inr (Or.inr ⟨by omega, by rw [if_neg (by omega)], rfl⟩)⟩ | (exfalso; omega))
        · skip
          refine g_iload_n dX8_stick_26 rfl rfl (cv_X8_232 (M := mX8_stick) rfl dX8_stick_27 (RO.same _ _ _) (Nat.le_of_ble_eq_true rfl) (e_X8_isDoor (by omega)) <| kI ?_)
          refine g_if_eq 49 dX8_stick_30 rfl (by omega) (fun c30 => ?_) (fun c30 => ?_)
          · skip
            refine g_iconst dX8_stick_49 ?_
            exact g_iret dX8_stick_50 rfl rfl ⟨Nat.le_refl _, Nat.le_refl _⟩ (by first | exact ⟨-1, rfl, Or.inl ⟨by omega, rfl, rfl⟩⟩ | exact ⟨0, rfl, Or.inr (Or.inl ⟨by omega, by rw [if_pos (by omega)], rfl⟩)⟩ | exact ⟨1, rfl, Or.inr (Or.inl ⟨by omega, by rw [if_neg (by omega)], rfl⟩)⟩ | exact ⟨0, rfl, Or.inr (Or.inr ⟨by omega, by rw [if_pos (by omega)], rfl⟩)⟩ | exact ⟨1, rfl, Or.inr (Or.inr ⟨by omega, by rw [if_neg (by omega)], rfl⟩)⟩ | (exfalso; omega))
          · skip
            refine g_iload_n dX8_stick_33 rfl rfl ?_
            refine g_if_lt 49 dX8_stick_34 rfl (by omega) (fun c34 => ?_) (fun c34 => ?_)
            · skip
              refine g_iconst dX8_stick_49 ?_
              exact g_iret dX8_stick_50 rfl rfl ⟨Nat.le_refl _, Nat.le_refl _⟩ (by first | exact ⟨-1, rfl, Or.inl ⟨by omega, rfl, rfl⟩⟩ | exact ⟨0, rfl, Or.inr (Or.inl ⟨by omega, by rw [if_pos (by omega)], rfl⟩)⟩ | exact ⟨1, rfl, Or.inr (Or.inl ⟨by omega, by rw [if_neg (by omega)], rfl⟩)⟩ | exact ⟨0, rfl, Or.inr (Or.inr ⟨by omega, by rw [if_pos (by omega)], rfl⟩)⟩ | exact ⟨1, rfl, Or.inr (Or.inr ⟨by omega, by rw [if_neg (by omega)], rfl⟩)⟩ | (exfalso; omega))
            · skip
              refine g_iload_n dX8_stick_37 rfl rfl (g_iload_n dX8_stick_38 rfl rfl ?_)
              refine g_icmp_lt 49 dX8_stick_39 rfl (by omega) (by omega) (fun c39 => ?_) (fun c39 => ?_)
              · skip
                refine g_iconst dX8_stick_49 ?_
                exact g_iret dX8_stick_50 rfl rfl ⟨Nat.le_refl _, Nat.le_refl _⟩ (by first | exact ⟨-1, rfl, Or.inl ⟨by omega, rfl, rfl⟩⟩ | exact ⟨0, rfl, Or.inr (Or.inl ⟨by omega, by rw [if_pos (by omega)], rfl⟩)⟩ | exact ⟨1, rfl, Or.inr (Or.inl ⟨by omega, by rw [if_neg (by omega)], rfl⟩)⟩ | exact ⟨0, rfl, Or.inr (Or.inr ⟨by omega, by rw [if_pos (by omega)], rfl⟩)⟩ | exact ⟨1, rfl, Or.inr (Or.inr ⟨by omega, by rw [if_neg (by omega)], rfl⟩)⟩ | (exfalso; omega))
              · skip
                refine g_iload_n dX8_stick_42 rfl rfl (g_sipush dX8_stick_43 ks365 ?_)
                refine g_icmp_le 51 dX8_stick_46 rfl (by omega) (by omega) (fun c46 => ?_) (fun c46 => ?_)
                · skip
                  refine g_aload_n dX8_stick_51 rfl rfl (gf_X8_19 (M := mX8_stick) rfl dX8_stick_52 (yo9 hY) (yr9_1 hY) (gf_X8_101 (M := mX8_stick) rfl dX8_stick_55 (ck_o hY clk12) (g_bipush dX8_stick_58 kbm4 ?_)))
                  refine g_icmp_ne 67 dX8_stick_60 rfl (by omega) (by omega) (fun c60 => ?_) (fun c60 => ?_)
                  · skip
                    refine g_iconst dX8_stick_67 (g_ist5 dX8_stick_68 (by decide) rfl (g_iload dX8_stick_70 rfl ?_))
                    refine g_if_eq 85 dX8_stick_72 rfl (by omega) (fun c72 => ?_) (fun c72 => ?_)
                    · skip
                      refine g_aload_n dX8_stick_85 rfl rfl (gf_X8_19 (M := mX8_stick) rfl dX8_stick_86 (yo9 hY) (yr9_1 hY) (g_iload_n dX8_stick_89 rfl rfl (g_iload_n dX8_stick_90 rfl rfl (g_iload_n dX8_stick_91 rfl rfl (cv_X8_238 (M := mX8_stick) rfl dX8_stick_92 (ck_o hY clk12) (RO.same _ _ _) (Nat.le_of_ble_eq_true rfl) (e_X0_jam hY clk12) <| kV (g_iload dX8_stick_95 rfl ?_))))))
                      exact g_iret dX8_stick_97 rfl rfl ⟨Nat.le_refl _, Nat.le_refl _⟩ (by first | exact ⟨-1, rfl, Or.inl ⟨by omega, rfl, rfl⟩⟩ | exact ⟨0, rfl, Or.inr (Or.inl ⟨by omega, by rw [if_pos (by omega)], rfl⟩)⟩ | exact ⟨1, rfl, Or.inr (Or.inl ⟨by omega, by rw [if_neg (by omega)], rfl⟩)⟩ | exact ⟨0, rfl, Or.inr (Or.inr ⟨by omega, by rw [if_pos (by omega)], rfl⟩)⟩ | exact ⟨1, rfl, Or.inr (Or.inr ⟨by omega, by rw [if_neg (by omega)], rfl⟩)⟩ | (exfalso; omega))
                    · skip
                      refine g_aload_n dX8_stick_75 rfl rfl (gf_X8_19 (M := mX8_stick) rfl dX8_stick_76 (yo9 hY) (yr9_1 hY) (cv_X8_235 (M := mX8_stick) rfl dX8_stick_79 (ck_o hY clk12) (RO.same _ _ _) (Nat.le_of_ble_eq_true rfl) (e_X0_free hY clk12) <| kV (g_goto 95 dX8_stick_82 rfl (g_iload dX8_stick_95 rfl ?_))))
                      exact g_iret dX8_stick_97 rfl rfl ⟨Nat.le_refl _, Nat.le_refl _⟩ (by first | exact ⟨-1, rfl, Or.inl ⟨by omega, rfl, rfl⟩⟩ | exact ⟨0, rfl, Or.inr (Or.inl ⟨by omega, by rw [if_pos (by omega)], rfl⟩)⟩ | exact ⟨1, rfl, Or.inr (Or.inl ⟨by omega, by rw [if_neg (by omega)], rfl⟩)⟩ | exact ⟨0, rfl, Or.inr (Or.inr ⟨by omega, by rw [if_pos (by omega)], rfl⟩)⟩ | exact ⟨1, rfl, Or.inr (Or.inr ⟨by omega, by rw [if_neg (by omega)], rfl⟩)⟩ | (exfalso; omega))
                  · skip
                    refine g_iconst dX8_stick_63 (g_goto 68 dX8_stick_64 rfl (g_ist5 dX8_stick_68 (by decide) rfl (g_iload dX8_stick_70 rfl ?_)))
                    refine g_if_eq 85 dX8_stick_72 rfl (by omega) (fun c72 => ?_) (fun c72 => ?_)
                    · skip
                      refine g_aload_n dX8_stick_85 rfl rfl (gf_X8_19 (M := mX8_stick) rfl dX8_stick_86 (yo9 hY) (yr9_1 hY) (g_iload_n dX8_stick_89 rfl rfl (g_iload_n dX8_stick_90 rfl rfl (g_iload_n dX8_stick_91 rfl rfl (cv_X8_238 (M := mX8_stick) rfl dX8_stick_92 (ck_o hY clk12) (RO.same _ _ _) (Nat.le_of_ble_eq_true rfl) (e_X0_jam hY clk12) <| kV (g_iload dX8_stick_95 rfl ?_))))))
                      exact g_iret dX8_stick_97 rfl rfl ⟨Nat.le_refl _, Nat.le_refl _⟩ (by first | exact ⟨-1, rfl, Or.inl ⟨by omega, rfl, rfl⟩⟩ | exact ⟨0, rfl, Or.inr (Or.inl ⟨by omega, by rw [if_pos (by omega)], rfl⟩)⟩ | exact ⟨1, rfl, Or.inr (Or.inl ⟨by omega, by rw [if_neg (by omega)], rfl⟩)⟩ | exact ⟨0, rfl, Or.inr (Or.inr ⟨by omega, by rw [if_pos (by omega)], rfl⟩)⟩ | exact ⟨1, rfl, Or.inr (Or.inr ⟨by omega, by rw [if_neg (by omega)], rfl⟩)⟩ | (exfalso; omega))
                    · skip
                      refine g_aload_n dX8_stick_75 rfl rfl (gf_X8_19 (M := mX8_stick) rfl dX8_stick_76 (yo9 hY) (yr9_1 hY) (cv_X8_235 (M := mX8_stick) rfl dX8_stick_79 (ck_o hY clk12) (RO.same _ _ _) (Nat.le_of_ble_eq_true rfl) (e_X0_free hY clk12) <| kV (g_goto 95 dX8_stick_82 rfl (g_iload dX8_stick_95 rfl ?_))))
                      exact g_iret dX8_stick_97 rfl rfl ⟨Nat.le_refl _, Nat.le_refl _⟩ (by first | exact ⟨-1, rfl, Or.inl ⟨by omega, rfl, rfl⟩⟩ | exact ⟨0, rfl, Or.inr (Or.inl ⟨by omega, by rw [if_pos (by omega)], rfl⟩)⟩ | exact ⟨1, rfl, Or.inr (Or.inl ⟨by omega, by rw [if_neg (by omega)], rfl⟩)⟩ | exact ⟨0, rfl, Or.inr (Or.inr ⟨by omega, by rw [if_pos (by omega)], rfl⟩)⟩ | exact ⟨1, rfl, Or.inr (Or.inr ⟨by omega, by rw [if_neg (by omega)], rfl⟩)⟩ | (exfalso; omega))
                · skip
                  refine g_iconst dX8_stick_49 ?_
                  exact g_iret dX8_stick_50 rfl rfl ⟨Nat.le_refl _, Nat.le_refl _⟩ (by first | exact ⟨-1, rfl, Or.inl ⟨by omega, rfl, rfl⟩⟩ | exact ⟨0, rfl, Or.inr (Or.inl ⟨by omega, by rw [if_pos (by omega)], rfl⟩)⟩ | exact ⟨1, rfl, Or.inr (Or.inl ⟨by omega, by rw [if_neg (by omega)], rfl⟩)⟩ | exact ⟨0, rfl, Or.inr (Or.inr ⟨by omega, by rw [if_pos (by omega)], rfl⟩)⟩ | exact ⟨1, rfl, Or.inr (Or.inr ⟨by omega, by rw [if_neg (by omega)], rfl⟩)⟩ | (exfalso; omega))
/-- what a cut finds: a wheel and a start, or none -/
def CutP (F : Nat → Fg) (nf f w v : Int) : Prop := (v = -4 ∧ NoCut F nf f 118) ∨ ∃ (n : Nat) (s : Int), n < 118 ∧ CutAt F nf f n s ∧ v = if w = 0 then teAt (F f.toNat).te n else s
theorem wr5_at (h : HM) (a : Nat) (F : Fg) : (wr5 h a F).I a 0 = F.1 ∧ (wr5 h a F).I a 1 = F.2.1 := by
  constructor <;> simp [wr5, HM.sI, HM.I, up2]
def Fr82 (h h1 : HM) : Prop := ∀ a, a ≠ 82 → h1.I a = h.I a ∧ h1.L a = h.L a
theorem Fr82_wr5 (h : HM) (F : Fg) : Fr82 h (wr5 h 82 F) := by
  intro a ha
  constructor
  · funext j; simp [wr5, HM.sI, HM.I, up2, ha]
  · rfl
set_option maxRecDepth 100000 in
set_option maxHeartbeats 1000000 in
theorem e_X8_cut {G : GX} {y : LY} {h : HM} {d : Nat} (hY : Lay y) {f w : Int} (hf : R32 f) (hw : R32 w) (hC : CF h 12) : EvQX G mX8_cut (d + 6) [.ref 9, .int (iZ f), .int (iZ w)] y h (fun v h1 => Fr82 h h1 ∧ ((¬ ((0 ≤ f ∧ f < h.I 12 3) ∧ (w = 0 ∨ w = 1)) ∧ v = -1) ∨ (((0 ≤ f ∧ f < h.I 12 3) ∧ (w = 0 ∨ w = 1)) ∧ CutP (cFs h 12) (h.I 12 3) f w v))) := by
  have hnf := hC.1
  have hpf := pI_01 (0 ≤ f ∧ f < h.I 12 3)
  have hpf2 := pI_eq1 (P := 0 ≤ f ∧ f < h.I 12 3)
  have hzw := pI_01 (w = 0 ∨ w = 1)
  have hyw := pI_eq1 (P := w = 0 ∨ w = 1)
  refine Ev.of rfl [some (.ref 9), some (.int (iZ f)), some (.int (iZ w))] rfl (Nat.le_of_ble_eq_true rfl) ?_
  refine g_aload_n dX8_cut_0 rfl rfl (g_iload_n dX8_cut_1 rfl rfl (cv_X8_116 (M := mX8_cut) rfl dX8_cut_2 (yo9 hY) (RO.same _ _ _) (Nat.le_of_ble_eq_true rfl) (e_X8_isFigure hY (by omega) (by omega)) <| kI ?_))
  refine g_if_eq 15 dX8_cut_5 rfl (by omega) (fun c5 => ?_) (fun c5 => ?_)
  · skip
    refine g_iconst dX8_cut_15 ?_
    exact g_iret dX8_cut_16 rfl rfl ⟨Nat.le_refl _, Nat.le_refl _⟩ (by first | exact ⟨-1, rfl, fun _ _ => ⟨rfl, rfl⟩, Or.inl ⟨by omega, rfl⟩⟩ | (rcases hq26 with ⟨q0, q1, T, rfl⟩ | ⟨q0, n, s, q1, q2, rfl⟩ <;> first | (exfalso; omega) | exact ⟨-4, rfl, Fr82_wr5 _ _, Or.inr ⟨by omega, Or.inl ⟨rfl, q1⟩⟩⟩ | (first | exact ⟨_, rfl, Fr82_wr5 _ _, Or.inr ⟨by omega, Or.inr ⟨n, s, q1, q2, by rw [if_pos (by omega)]; exact (wr5_at _ _ _).1⟩⟩⟩ | exact ⟨_, rfl, Fr82_wr5 _ _, Or.inr ⟨by omega, Or.inr ⟨n, s, q1, q2, by rw [if_neg (by omega)]; exact (wr5_at _ _ _).2⟩⟩⟩)))
  · skip
    refine g_iload_n dX8_cut_8 rfl rfl (cv_X8_207 (M := mX8_cut) rfl dX8_cut_9 (RO.same _ _ _) (Nat.le_of_ble_eq_true rfl) (e_X8_isYesOrNo (by omega)) <| kI ?_)
    refine g_if_ne 17 dX8_cut_12 rfl (by omega) (fun c12 => ?_) (fun c12 => ?_)
    · skip
      refine g_aload_n dX8_cut_17 rfl rfl (gf_X8_19 (M := mX8_cut) rfl dX8_cut_18 (yo9 hY) (yr9_1 hY) (g_iload_n dX8_cut_21 rfl rfl (g_aload_n dX8_cut_22 rfl rfl (gf_X8_50 (M := mX8_cut) rfl dX8_cut_23 (yo9 hY) (yr9_7 hY) ?_))))
      refine cv_X8_242 (M := mX8_cut) rfl dX8_cut_26 (ck_o hY clk12) (RO.same _ _ _) (Nat.le_of_ble_eq_true rfl) (e_X0_cutInto hY hC (by omega)) (kQX fun v26 h26 hq26 => ?_)
      have hv26 : v26 = 0 ∨ v26 = 1 := by rcases hq26 with ⟨q, _⟩ | ⟨q, _⟩ <;> omega
      refine g_if_ne 35 dX8_cut_29 rfl (by omega) (fun c29 => ?_) (fun c29 => ?_)
      · skip
        refine g_iload_n dX8_cut_35 rfl rfl ?_
        refine g_if_ne 49 dX8_cut_36 rfl (by omega) (fun c36 => ?_) (fun c36 => ?_)
        · skip
          refine g_aload_n dX8_cut_49 rfl rfl (gf_X8_50 (M := mX8_cut) rfl dX8_cut_50 (yo9 hY) (yr9_7 hY) (gf_X8_130 (M := mX8_cut) rfl dX8_cut_53 (yo82 hY) ?_))
          exact g_iret dX8_cut_56 rfl rfl ⟨Nat.le_refl _, Nat.le_refl _⟩ (by first | exact ⟨-1, rfl, fun _ _ => ⟨rfl, rfl⟩, Or.inl ⟨by omega, rfl⟩⟩ | (rcases hq26 with ⟨q0, q1, T, rfl⟩ | ⟨q0, n, s, q1, q2, rfl⟩ <;> first | (exfalso; omega) | exact ⟨-4, rfl, Fr82_wr5 _ _, Or.inr ⟨by omega, Or.inl ⟨rfl, q1⟩⟩⟩ | (first | exact ⟨_, rfl, Fr82_wr5 _ _, Or.inr ⟨by omega, Or.inr ⟨n, s, q1, q2, by rw [if_pos (by omega)]; exact (wr5_at _ _ _).1⟩⟩⟩ | exact ⟨_, rfl, Fr82_wr5 _ _, Or.inr ⟨by omega, Or.inr ⟨n, s, q1, q2, by rw [if_neg (by omega)]; exact (wr5_at _ _ _).2⟩⟩⟩)))
        · skip
          refine g_aload_n dX8_cut_39 rfl rfl (gf_X8_50 (M := mX8_cut) rfl dX8_cut_40 (yo9 hY) (yr9_7 hY) (gf_X8_127 (M := mX8_cut) rfl dX8_cut_43 (yo82 hY) (g_goto 56 dX8_cut_46 rfl ?_)))
          exact g_iret dX8_cut_56 rfl rfl ⟨Nat.le_refl _, Nat.le_refl _⟩ (by first | exact ⟨-1, rfl, fun _ _ => ⟨rfl, rfl⟩, Or.inl ⟨by omega, rfl⟩⟩ | (rcases hq26 with ⟨q0, q1, T, rfl⟩ | ⟨q0, n, s, q1, q2, rfl⟩ <;> first | (exfalso; omega) | exact ⟨-4, rfl, Fr82_wr5 _ _, Or.inr ⟨by omega, Or.inl ⟨rfl, q1⟩⟩⟩ | (first | exact ⟨_, rfl, Fr82_wr5 _ _, Or.inr ⟨by omega, Or.inr ⟨n, s, q1, q2, by rw [if_pos (by omega)]; exact (wr5_at _ _ _).1⟩⟩⟩ | exact ⟨_, rfl, Fr82_wr5 _ _, Or.inr ⟨by omega, Or.inr ⟨n, s, q1, q2, by rw [if_neg (by omega)]; exact (wr5_at _ _ _).2⟩⟩⟩)))
      · skip
        refine g_bipush dX8_cut_32 kbm4 ?_
        exact g_iret dX8_cut_34 rfl rfl ⟨Nat.le_refl _, Nat.le_refl _⟩ (by first | exact ⟨-1, rfl, fun _ _ => ⟨rfl, rfl⟩, Or.inl ⟨by omega, rfl⟩⟩ | (rcases hq26 with ⟨q0, q1, T, rfl⟩ | ⟨q0, n, s, q1, q2, rfl⟩ <;> first | (exfalso; omega) | exact ⟨-4, rfl, Fr82_wr5 _ _, Or.inr ⟨by omega, Or.inl ⟨rfl, q1⟩⟩⟩ | (first | exact ⟨_, rfl, Fr82_wr5 _ _, Or.inr ⟨by omega, Or.inr ⟨n, s, q1, q2, by rw [if_pos (by omega)]; exact (wr5_at _ _ _).1⟩⟩⟩ | exact ⟨_, rfl, Fr82_wr5 _ _, Or.inr ⟨by omega, Or.inr ⟨n, s, q1, q2, by rw [if_neg (by omega)]; exact (wr5_at _ _ _).2⟩⟩⟩)))
    · skip
      refine g_iconst dX8_cut_15 ?_
      exact g_iret dX8_cut_16 rfl rfl ⟨Nat.le_refl _, Nat.le_refl _⟩ (by first | exact ⟨-1, rfl, fun _ _ => ⟨rfl, rfl⟩, Or.inl ⟨by omega, rfl⟩⟩ | (rcases hq26 with ⟨q0, q1, T, rfl⟩ | ⟨q0, n, s, q1, q2, rfl⟩ <;> first | (exfalso; omega) | exact ⟨-4, rfl, Fr82_wr5 _ _, Or.inr ⟨by omega, Or.inl ⟨rfl, q1⟩⟩⟩ | (first | exact ⟨_, rfl, Fr82_wr5 _ _, Or.inr ⟨by omega, Or.inr ⟨n, s, q1, q2, by rw [if_pos (by omega)]; exact (wr5_at _ _ _).1⟩⟩⟩ | exact ⟨_, rfl, Fr82_wr5 _ _, Or.inr ⟨by omega, Or.inr ⟨n, s, q1, q2, by rw [if_neg (by omega)]; exact (wr5_at _ _ _).2⟩⟩⟩)))
set_option maxRecDepth 100000 in
set_option maxHeartbeats 1000000 in
theorem e_X8_recut {G : GX} {y : LY} {h : HM} {d : Nat} (hY : Lay y) {f n k : Int} (hf : R32 f) (hn : R32 n) (hk : R32 k) (hC : CF h 12) : EvQX G mX8_recut (d + 1) [.ref 9, .int (iZ f), .int (iZ n), .int (iZ k)] y h (fun v h1 => (¬ ((0 ≤ f ∧ f < h.I 12 3) ∧ (2 ≤ n ∧ n ≤ 60 ∧ 0 ≤ k ∧ k < n) ∧ h.I (12 + 4 + f.toNat) 4 < n) ∧ v = -1 ∧ h1 = h) ∨ (((0 ≤ f ∧ f < h.I 12 3) ∧ (2 ≤ n ∧ n ≤ 60 ∧ 0 ≤ k ∧ k < n) ∧ h.I (12 + 4 + f.toNat) 4 < n) ∧ v = h.I (12 + 4 + f.toNat) 0 ∧ h1 = (h.sI (12 + 4 + f.toNat) 0 n).sI (12 + 4 + f.toNat) 1 k)) := by
  have hnf := hC.1
  have hpf := pI_01 (0 ≤ f ∧ f < h.I 12 3)
  have hpf2 := pI_eq1 (P := 0 ≤ f ∧ f < h.I 12 3)
  have hzw := pI_01 (2 ≤ n ∧ n ≤ 60 ∧ 0 ≤ k ∧ k < n)
  have hyw := pI_eq1 (P := 2 ≤ n ∧ n ≤ 60 ∧ 0 ≤ k ∧ k < n)
  refine Ev.of rfl [some (.ref 9), some (.int (iZ f)), some (.int (iZ n)), some (.int (iZ k)), none, none] rfl (Nat.le_of_ble_eq_true rfl) ?_
  refine g_aload_n dX8_recut_0 rfl rfl (g_iload_n dX8_recut_1 rfl rfl (cv_X8_116 (M := mX8_recut) rfl dX8_recut_2 (yo9 hY) (RO.same _ _ _) (Nat.le_of_ble_eq_true rfl) (e_X8_isFigure hY (by omega) (by omega)) <| kI ?_))
  refine g_if_eq 32 dX8_recut_5 rfl (by omega) (fun c5 => ?_) (fun c5 => ?_)
  · skip
    refine g_iconst dX8_recut_32 ?_
    exact g_iret dX8_recut_33 rfl rfl ⟨Nat.le_refl _, Nat.le_refl _⟩ (by first | exact ⟨-1, rfl, Or.inl ⟨by omega, rfl, rfl⟩⟩ | exact ⟨_, rfl, Or.inr ⟨by omega, rfl, rfl⟩⟩)
  · skip
    have hFf := hC.2 f (by omega) (by omega)
    refine g_iload_n dX8_recut_8 rfl rfl (g_iload_n dX8_recut_9 rfl rfl (cv_X8_253 (M := mX8_recut) rfl dX8_recut_10 (RO.same _ _ _) (Nat.le_of_ble_eq_true rfl) (e_X8_isWheel (by omega) (by omega)) <| kI ?_))
    refine g_if_eq 32 dX8_recut_13 rfl (by omega) (fun c13 => ?_) (fun c13 => ?_)
    · skip
      refine g_iconst dX8_recut_32 ?_
      exact g_iret dX8_recut_33 rfl rfl ⟨Nat.le_refl _, Nat.le_refl _⟩ (by first | exact ⟨-1, rfl, Or.inl ⟨by omega, rfl, rfl⟩⟩ | exact ⟨_, rfl, Or.inr ⟨by omega, rfl, rfl⟩⟩)
    · skip
      refine g_aload_n dX8_recut_16 rfl rfl (gf_X8_19 (M := mX8_recut) rfl dX8_recut_17 (yo9 hY) (yr9_1 hY) (gf_X8_120 (M := mX8_recut) rfl dX8_recut_20 (ck_o hY clk12) (ck_r0 hY clk12) (g_iload_n dX8_recut_23 rfl rfl (g_aald dX8_recut_24 (ck_a0 hY clk12) (by decide) (D0 := "ClockTeeth$Figure") rfl ⟨by omega, by omega, by omega⟩ (ck_fr hY clk12 (by omega)) (gf_X8_139 (M := mX8_recut) rfl dX8_recut_25 (ck_fo hY clk12 (by omega)) (g_iload_n dX8_recut_28 rfl rfl ?_))))))
      refine g_icmp_lt 34 dX8_recut_29 rfl (by omega) (by omega) (fun c29 => ?_) (fun c29 => ?_)
      · skip
        refine g_aload_n dX8_recut_34 rfl rfl (gf_X8_19 (M := mX8_recut) rfl dX8_recut_35 (yo9 hY) (yr9_1 hY) (gf_X8_120 (M := mX8_recut) rfl dX8_recut_38 (ck_o hY clk12) (ck_r0 hY clk12) (g_iload_n dX8_recut_41 rfl rfl (g_aald dX8_recut_42 (ck_a0 hY clk12) (by decide) (D0 := "ClockTeeth$Figure") rfl ⟨by omega, by omega, by omega⟩ (ck_fr hY clk12 (by omega)) (g_ast4 dX8_recut_43 (by decide) rfl (g_aload dX8_recut_45 rfl (gf_X8_127 (M := mX8_recut) rfl dX8_recut_47 (ck_fo hY clk12 (by omega)) (g_ist5 dX8_recut_50 (by decide) rfl (g_aload dX8_recut_52 rfl (g_iload_n dX8_recut_54 rfl rfl (pf_X8_127 (M := mX8_recut) rfl dX8_recut_55 (ck_fo hY clk12 (by omega)) ?_)))))))))))
        refine g_aload dX8_recut_58 rfl (g_iload_n dX8_recut_60 rfl rfl (pf_X8_130 (M := mX8_recut) rfl dX8_recut_61 (ck_fo hY clk12 (by omega)) (g_iload dX8_recut_64 rfl ?_)))
        exact g_iret dX8_recut_66 rfl rfl ⟨Nat.le_refl _, Nat.le_refl _⟩ (by first | exact ⟨-1, rfl, Or.inl ⟨by omega, rfl, rfl⟩⟩ | exact ⟨_, rfl, Or.inr ⟨by omega, rfl, rfl⟩⟩)
      · skip
        refine g_iconst dX8_recut_32 ?_
        exact g_iret dX8_recut_33 rfl rfl ⟨Nat.le_refl _, Nat.le_refl _⟩ (by first | exact ⟨-1, rfl, Or.inl ⟨by omega, rfl, rfl⟩⟩ | exact ⟨_, rfl, Or.inr ⟨by omega, rfl, rfl⟩⟩)
set_option maxRecDepth 100000 in
set_option maxHeartbeats 1000000 in
theorem e_X8_hold {G : GX} {y : LY} {h : HM} {d : Nat} (hY : Lay y) {n : Int} (hn : R32 n) (hC : CF h 12) (hV : CV h 12) (hC2 : 0 ≤ n → n ≤ h.I 12 4 → CF (hdH h 12 n) 12) : EvQX G mX8_hold (d + 5) [.ref 9, .int (iZ n)] y h (fun v h1 => (¬ (0 ≤ n ∧ n ≤ h.I 12 4) ∧ v = -1 ∧ h1 = h) ∨ ((0 ≤ n ∧ n ≤ h.I 12 4) ∧ v = hmS (cFs (hdH h 12 n) 12) ((hdH h 12 n).I 12 3).toNat ((hdH h 12 n).I 12 3).toNat ∧ h1 = hdH h 12 n)) := by
  have hnv := hV.1
  refine Ev.of rfl [some (.ref 9), some (.int (iZ n))] rfl (Nat.le_of_ble_eq_true rfl) ?_
  refine g_iload_n dX8_hold_0 rfl rfl ?_
  refine g_if_lt 15 dX8_hold_1 rfl (by omega) (fun c1 => ?_) (fun c1 => ?_)
  · skip
    refine g_iconst dX8_hold_15 ?_
    exact g_iret dX8_hold_16 rfl rfl ⟨Nat.le_refl _, Nat.le_refl _⟩ (by first | exact ⟨-1, rfl, Or.inl ⟨by omega, rfl, rfl⟩⟩ | exact ⟨_, rfl, Or.inr ⟨by omega, rfl, rfl⟩⟩)
  · skip
    refine g_iload_n dX8_hold_4 rfl rfl (g_aload_n dX8_hold_5 rfl rfl (gf_X8_19 (M := mX8_hold) rfl dX8_hold_6 (yo9 hY) (yr9_1 hY) (gf_X8_113 (M := mX8_hold) rfl dX8_hold_9 (ck_o hY clk12) ?_)))
    refine g_icmp_le 17 dX8_hold_12 rfl (by omega) (by omega) (fun c12 => ?_) (fun c12 => ?_)
    · skip
      refine g_aload_n dX8_hold_17 rfl rfl (gf_X8_19 (M := mX8_hold) rfl dX8_hold_18 (yo9 hY) (yr9_1 hY) (g_iload_n dX8_hold_21 rfl rfl (cv_X8_259 (M := mX8_hold) rfl dX8_hold_22 (ck_o hY clk12) (RO.same _ _ _) (Nat.le_of_ble_eq_true rfl) (e_X0_holdVotes hY hV (by omega)) <| kV (g_aload_n dX8_hold_25 rfl rfl (gf_X8_19 (M := mX8_hold) rfl dX8_hold_26 (yo9 hY) (yr9_1 hY) (cv_X8_256 (M := mX8_hold) rfl dX8_hold_29 (ck_o hY clk12) (RO.same _ _ _) (Nat.le_of_ble_eq_true rfl) (e_X0_howManyCrash hY (Or.inl rfl) (hC2 (by omega) (by omega))) <| kI ?_))))))
      exact g_iret dX8_hold_32 rfl rfl ⟨Nat.le_refl _, Nat.le_refl _⟩ (by first | exact ⟨-1, rfl, Or.inl ⟨by omega, rfl, rfl⟩⟩ | exact ⟨_, rfl, Or.inr ⟨by omega, rfl, rfl⟩⟩)
    · skip
      refine g_iconst dX8_hold_15 ?_
      exact g_iret dX8_hold_16 rfl rfl ⟨Nat.le_refl _, Nat.le_refl _⟩ (by first | exact ⟨-1, rfl, Or.inl ⟨by omega, rfl, rfl⟩⟩ | exact ⟨_, rfl, Or.inr ⟨by omega, rfl, rfl⟩⟩)
set_option maxRecDepth 100000 in
set_option maxHeartbeats 1000000 in
theorem e_X8_ask {G : GX} {y : LY} {h : HM} {d : Nat} (hY : Lay y) {a f n k e : Int} (ha : R32 a) (hf : R32 f) (hn : R32 n) (hk : R32 k) (he : R32 e) (hnf : 0 ≤ h.I 12 3 ∧ h.I 12 3 ≤ 6) (hV : CV h 12) (hly : R32 (lvy h 12)) : EvQX G mX8_ask (d + 1) [.ref 9, .int (iZ a), .int (iZ f), .int (iZ n), .int (iZ k), .int (iZ e)] y h (fun v h1 => (¬ ((lvy h 12 ≤ a ∧ a ≤ 99) ∧ (0 ≤ f ∧ f < h.I 12 3) ∧ (2 ≤ n ∧ n ≤ 60 ∧ 0 ≤ k ∧ k < n) ∧ (0 ≤ e ∧ e ≤ 8)) ∧ v = -1 ∧ h1 = h) ∨ (((lvy h 12 ≤ a ∧ a ≤ 99) ∧ (0 ≤ f ∧ f < h.I 12 3) ∧ (2 ≤ n ∧ n ≤ 60 ∧ 0 ≤ k ∧ k < n) ∧ (0 ≤ e ∧ e ≤ 8)) ∧ ((6 ≤ h.I 12 4 ∧ v = -3 ∧ h1 = h) ∨ (h.I 12 4 < 6 ∧ v = h.I 12 4 + 1 ∧ h1 = (wr5 h (12 + 10 + (h.I 12 4).toNat) (a, f, n, k, e)).sI 12 4 (h.I 12 4 + 1))))) := by
  have hnv := hV.1
  have hpf := pI_01 (0 ≤ f ∧ f < h.I 12 3)
  have hpf2 := pI_eq1 (P := 0 ≤ f ∧ f < h.I 12 3)
  have hzw := pI_01 (2 ≤ n ∧ n ≤ 60 ∧ 0 ≤ k ∧ k < n)
  have hyw := pI_eq1 (P := 2 ≤ n ∧ n ≤ 60 ∧ 0 ≤ k ∧ k < n)
  have hze := pI_01 (0 ≤ e ∧ e ≤ 8)
  have hye := pI_eq1 (P := 0 ≤ e ∧ e ≤ 8)
  refine Ev.of rfl [some (.ref 9), some (.int (iZ a)), some (.int (iZ f)), some (.int (iZ n)), some (.int (iZ k)), some (.int (iZ e))] rfl (Nat.le_of_ble_eq_true rfl) ?_
  refine g_iload_n dX8_ask_0 rfl rfl (g_aload_n dX8_ask_1 rfl rfl (gf_X8_19 (M := mX8_ask) rfl dX8_ask_2 (yo9 hY) (yr9_1 hY) (cv_X8_263 (M := mX8_ask) rfl dX8_ask_5 (ck_o hY clk12) (RO.same _ _ _) (Nat.le_of_ble_eq_true rfl) (e_X0_leastVoteYear hY clk12 (by omega)) <| kI ?_)))
  refine g_icmp_lt 42 dX8_ask_8 rfl (by omega) (by omega) (fun c8 => ?_) (fun c8 => ?_)
  · skip
    refine g_iconst dX8_ask_42 ?_
    exact g_iret dX8_ask_43 rfl rfl ⟨Nat.le_refl _, Nat.le_refl _⟩ (by first | exact ⟨-1, rfl, Or.inl ⟨by omega, rfl, rfl⟩⟩ | exact ⟨-3, rfl, Or.inr ⟨by omega, Or.inl ⟨by omega, rfl, rfl⟩⟩⟩ | exact ⟨_, rfl, Or.inr ⟨by omega, Or.inr ⟨by omega, by simp [HM.sI, HM.I, up2], rfl⟩⟩⟩)
  · skip
    refine g_iload_n dX8_ask_11 rfl rfl (g_bipush dX8_ask_12 kb99 ?_)
    refine g_icmp_gt 42 dX8_ask_14 rfl (by omega) (by omega) (fun c14 => ?_) (fun c14 => ?_)
    · skip
      refine g_iconst dX8_ask_42 ?_
      exact g_iret dX8_ask_43 rfl rfl ⟨Nat.le_refl _, Nat.le_refl _⟩ (by first | exact ⟨-1, rfl, Or.inl ⟨by omega, rfl, rfl⟩⟩ | exact ⟨-3, rfl, Or.inr ⟨by omega, Or.inl ⟨by omega, rfl, rfl⟩⟩⟩ | exact ⟨_, rfl, Or.inr ⟨by omega, Or.inr ⟨by omega, by simp [HM.sI, HM.I, up2], rfl⟩⟩⟩)
    · skip
      refine g_aload_n dX8_ask_17 rfl rfl (g_iload_n dX8_ask_18 rfl rfl (cv_X8_116 (M := mX8_ask) rfl dX8_ask_19 (yo9 hY) (RO.same _ _ _) (Nat.le_of_ble_eq_true rfl) (e_X8_isFigure hY (by omega) (by omega)) <| kI ?_))
      refine g_if_eq 42 dX8_ask_22 rfl (by omega) (fun c22 => ?_) (fun c22 => ?_)
      · skip
        refine g_iconst dX8_ask_42 ?_
        exact g_iret dX8_ask_43 rfl rfl ⟨Nat.le_refl _, Nat.le_refl _⟩ (by first | exact ⟨-1, rfl, Or.inl ⟨by omega, rfl, rfl⟩⟩ | exact ⟨-3, rfl, Or.inr ⟨by omega, Or.inl ⟨by omega, rfl, rfl⟩⟩⟩ | exact ⟨_, rfl, Or.inr ⟨by omega, Or.inr ⟨by omega, by simp [HM.sI, HM.I, up2], rfl⟩⟩⟩)
      · skip
        refine g_iload_n dX8_ask_25 rfl rfl (g_iload dX8_ask_26 rfl (cv_X8_253 (M := mX8_ask) rfl dX8_ask_28 (RO.same _ _ _) (Nat.le_of_ble_eq_true rfl) (e_X8_isWheel (by omega) (by omega)) <| kI ?_))
        refine g_if_eq 42 dX8_ask_31 rfl (by omega) (fun c31 => ?_) (fun c31 => ?_)
        · skip
          refine g_iconst dX8_ask_42 ?_
          exact g_iret dX8_ask_43 rfl rfl ⟨Nat.le_refl _, Nat.le_refl _⟩ (by first | exact ⟨-1, rfl, Or.inl ⟨by omega, rfl, rfl⟩⟩ | exact ⟨-3, rfl, Or.inr ⟨by omega, Or.inl ⟨by omega, rfl, rfl⟩⟩⟩ | exact ⟨_, rfl, Or.inr ⟨by omega, Or.inr ⟨by omega, by simp [HM.sI, HM.I, up2], rfl⟩⟩⟩)
        · skip
          refine g_iload dX8_ask_34 rfl (cv_X8_232 (M := mX8_ask) rfl dX8_ask_36 (RO.same _ _ _) (Nat.le_of_ble_eq_true rfl) (e_X8_isDoor (by omega)) <| kI ?_)
          refine g_if_ne 44 dX8_ask_39 rfl (by omega) (fun c39 => ?_) (fun c39 => ?_)
          · skip
            refine g_aload_n dX8_ask_44 rfl rfl (gf_X8_19 (M := mX8_ask) rfl dX8_ask_45 (yo9 hY) (yr9_1 hY) (gf_X8_113 (M := mX8_ask) rfl dX8_ask_48 (ck_o hY clk12) (g_bipush dX8_ask_51 kb6 ?_)))
            refine g_icmp_lt 59 dX8_ask_53 rfl (by omega) (by omega) (fun c53 => ?_) (fun c53 => ?_)
            · skip
              refine g_aload_n dX8_ask_59 rfl rfl (gf_X8_19 (M := mX8_ask) rfl dX8_ask_60 (yo9 hY) (yr9_1 hY) (g_iload_n dX8_ask_63 rfl rfl (g_iload_n dX8_ask_64 rfl rfl (g_iload_n dX8_ask_65 rfl rfl (g_iload dX8_ask_66 rfl (g_iload dX8_ask_68 rfl (cv_X8_266 (M := mX8_ask) rfl dX8_ask_70 (ck_o hY clk12) (RO.same _ _ _) (Nat.le_of_ble_eq_true rfl) (e_X0_addVote hY clk12 (by omega)) <| kV (g_aload_n dX8_ask_73 rfl rfl (gf_X8_19 (M := mX8_ask) rfl dX8_ask_74 (yo9 hY) (yr9_1 hY) (gf_X8_113 (M := mX8_ask) rfl dX8_ask_77 (ck_o hY clk12) ?_))))))))))
              exact g_iret dX8_ask_80 rfl rfl ⟨Nat.le_refl _, Nat.le_refl _⟩ (by first | exact ⟨-1, rfl, Or.inl ⟨by omega, rfl, rfl⟩⟩ | exact ⟨-3, rfl, Or.inr ⟨by omega, Or.inl ⟨by omega, rfl, rfl⟩⟩⟩ | exact ⟨_, rfl, Or.inr ⟨by omega, Or.inr ⟨by omega, by simp [HM.sI, HM.I, up2], rfl⟩⟩⟩)
            · skip
              refine g_bipush dX8_ask_56 kbm3 ?_
              exact g_iret dX8_ask_58 rfl rfl ⟨Nat.le_refl _, Nat.le_refl _⟩ (by first | exact ⟨-1, rfl, Or.inl ⟨by omega, rfl, rfl⟩⟩ | exact ⟨-3, rfl, Or.inr ⟨by omega, Or.inl ⟨by omega, rfl, rfl⟩⟩⟩ | exact ⟨_, rfl, Or.inr ⟨by omega, Or.inr ⟨by omega, by simp [HM.sI, HM.I, up2], rfl⟩⟩⟩)
          · skip
            refine g_iconst dX8_ask_42 ?_
            exact g_iret dX8_ask_43 rfl rfl ⟨Nat.le_refl _, Nat.le_refl _⟩ (by first | exact ⟨-1, rfl, Or.inl ⟨by omega, rfl, rfl⟩⟩ | exact ⟨-3, rfl, Or.inr ⟨by omega, Or.inl ⟨by omega, rfl, rfl⟩⟩⟩ | exact ⟨_, rfl, Or.inr ⟨by omega, Or.inr ⟨by omega, by simp [HM.sI, HM.I, up2], rfl⟩⟩⟩)
