def sp_count (hm ns k0 k1 tl cl w : Int) : Int := if w = 0 then hm else if w = 1 then ns else if w = 2 then k0 + k1 else if w = 3 then tl else if w = 4 then (if cl < 0 then -4 else cl) else -1
set_option maxRecDepth 100000 in
set_option maxHeartbeats 1000000 in
theorem e_X8_count {G : GX} {y : LY} {h : HM} {d : Nat} (hY : Lay y) {w : Int} (hw : R32 w) (hk0 : h.I 69 0 = 0 ∨ h.I 69 0 = 1) (hk1 : h.I 69 1 = 0 ∨ h.I 69 1 = 1) (hcl : R32 (h.I 142 2)) (hC : CF h 12) : EvI G mX8_count (d + 5) [.ref 9, .int (iZ w)] y h (sp_count (hmS (cFs h 12) (h.I 12 3).toNat (h.I 12 3).toNat) (h.I 12 5) (h.I 69 0) (h.I 69 1) (h.I 10 1) (h.I 142 2) w) := by
  have hnf := hC.1
  have z0 : h.I 69 (Int.toNat 0) = h.I 69 0 := rfl
  have z1 : h.I 69 (Int.toNat 1) = h.I 69 1 := rfl
  have z2 : h.I (142 + 2 * Int.toNat 0) 2 = h.I 142 2 := rfl
  refine Ev.of rfl [some (.ref 9), some (.int (iZ w))] rfl (Nat.le_of_ble_eq_true rfl) ?_
  refine g_iload_n dX8_count_0 rfl rfl ?_
  by_cases sw1 : w < 0 ∨ 4 < w
  · refine g_tsOut 117 dX8_count_1 (by omega) sw1 rfl ?_
    refine g_iconst dX8_count_117 ?_
    exact g_iret dX8_count_118 rfl rfl ⟨Nat.le_refl _, Nat.le_refl _⟩ (by exact ⟨someI (by unfold sp_count; first | rfl | (show _ = h.I 69 0 + h.I 69 1; omega) | (show _ = if h.I 142 2 < 0 then -4 else h.I 142 2; split <;> omega) | (rw [if_neg (by omega), if_neg (by omega), if_neg (by omega), if_neg (by omega), if_neg (by omega)])), rfl⟩)
  · rcases (by omega : w = 0 ∨ w = 1 ∨ w = 2 ∨ w = 3 ∨ w = 4) with rfl | rfl | rfl | rfl | rfl
    · refine g_tsIn 36 dX8_count_1 (by decide) (by decide) (by decide) rfl rfl ?_
      refine g_aload_n dX8_count_36 rfl rfl (gf_X8_19 (M := mX8_count) rfl dX8_count_37 (yo9 hY) (yr9_1 hY) (cv_X8_256 (M := mX8_count) rfl dX8_count_40 (ck_o hY clk12) (RO.same _ _ _) (Nat.le_of_ble_eq_true rfl) (e_X0_howManyCrash hY (Or.inl rfl) hC) <| kI ?_))
      exact g_iret dX8_count_43 rfl rfl ⟨Nat.le_refl _, Nat.le_refl _⟩ (by exact ⟨someI (by unfold sp_count; first | rfl | (show _ = h.I 69 0 + h.I 69 1; omega) | (show _ = if h.I 142 2 < 0 then -4 else h.I 142 2; split <;> omega) | (rw [if_neg (by omega), if_neg (by omega), if_neg (by omega), if_neg (by omega), if_neg (by omega)])), rfl⟩)
    · refine g_tsIn 44 dX8_count_1 (by decide) (by decide) (by decide) rfl rfl ?_
      refine g_aload_n dX8_count_44 rfl rfl (gf_X8_19 (M := mX8_count) rfl dX8_count_45 (yo9 hY) (yr9_1 hY) (gf_X8_274 (M := mX8_count) rfl dX8_count_48 (ck_o hY clk12) ?_))
      exact g_iret dX8_count_51 rfl rfl ⟨Nat.le_refl _, Nat.le_refl _⟩ (by exact ⟨someI (by unfold sp_count; first | rfl | (show _ = h.I 69 0 + h.I 69 1; omega) | (show _ = if h.I 142 2 < 0 then -4 else h.I 142 2; split <;> omega) | (rw [if_neg (by omega), if_neg (by omega), if_neg (by omega), if_neg (by omega), if_neg (by omega)])), rfl⟩)
    · refine g_tsIn 52 dX8_count_1 (by decide) (by decide) (by decide) rfl rfl ?_
      refine g_aload_n dX8_count_52 rfl rfl (gf_X8_30 (M := mX8_count) rfl dX8_count_53 (yo9 hY) (yr9_4 hY) (g_iconst dX8_count_56 (g_zald dX8_count_57 (ya69 hY) ⟨by omega, by omega, by omega⟩ ?_)))
      refine g_if_eq 65 dX8_count_58 rfl (by omega) (fun c58 => ?_) (fun c58 => ?_)
      · skip
        refine g_iconst dX8_count_65 (g_aload_n dX8_count_66 rfl rfl (gf_X8_30 (M := mX8_count) rfl dX8_count_67 (yo9 hY) (yr9_4 hY) (g_iconst dX8_count_70 (g_zald dX8_count_71 (ya69 hY) ⟨by omega, by omega, by omega⟩ ?_))))
        refine g_if_eq 79 dX8_count_72 rfl (by omega) (fun c72 => ?_) (fun c72 => ?_)
        · skip
          refine g_iconst dX8_count_79 (g_iadd dX8_count_80 ?_)
          exact g_iret dX8_count_81 rfl rfl ⟨Nat.le_refl _, Nat.le_refl _⟩ (by exact ⟨someI (by unfold sp_count; first | rfl | (show _ = h.I 69 0 + h.I 69 1; omega) | (show _ = if h.I 142 2 < 0 then -4 else h.I 142 2; split <;> omega) | (rw [if_neg (by omega), if_neg (by omega), if_neg (by omega), if_neg (by omega), if_neg (by omega)])), rfl⟩)
        · skip
          refine g_iconst dX8_count_75 (g_goto 80 dX8_count_76 rfl (g_iadd dX8_count_80 ?_))
          exact g_iret dX8_count_81 rfl rfl ⟨Nat.le_refl _, Nat.le_refl _⟩ (by exact ⟨someI (by unfold sp_count; first | rfl | (show _ = h.I 69 0 + h.I 69 1; omega) | (show _ = if h.I 142 2 < 0 then -4 else h.I 142 2; split <;> omega) | (rw [if_neg (by omega), if_neg (by omega), if_neg (by omega), if_neg (by omega), if_neg (by omega)])), rfl⟩)
      · skip
        refine g_iconst dX8_count_61 (g_goto 66 dX8_count_62 rfl (g_aload_n dX8_count_66 rfl rfl (gf_X8_30 (M := mX8_count) rfl dX8_count_67 (yo9 hY) (yr9_4 hY) (g_iconst dX8_count_70 (g_zald dX8_count_71 (ya69 hY) ⟨by omega, by omega, by omega⟩ ?_)))))
        refine g_if_eq 79 dX8_count_72 rfl (by omega) (fun c72 => ?_) (fun c72 => ?_)
        · skip
          refine g_iconst dX8_count_79 (g_iadd dX8_count_80 ?_)
          exact g_iret dX8_count_81 rfl rfl ⟨Nat.le_refl _, Nat.le_refl _⟩ (by exact ⟨someI (by unfold sp_count; first | rfl | (show _ = h.I 69 0 + h.I 69 1; omega) | (show _ = if h.I 142 2 < 0 then -4 else h.I 142 2; split <;> omega) | (rw [if_neg (by omega), if_neg (by omega), if_neg (by omega), if_neg (by omega), if_neg (by omega)])), rfl⟩)
        · skip
          refine g_iconst dX8_count_75 (g_goto 80 dX8_count_76 rfl (g_iadd dX8_count_80 ?_))
          exact g_iret dX8_count_81 rfl rfl ⟨Nat.le_refl _, Nat.le_refl _⟩ (by exact ⟨someI (by unfold sp_count; first | rfl | (show _ = h.I 69 0 + h.I 69 1; omega) | (show _ = if h.I 142 2 < 0 then -4 else h.I 142 2; split <;> omega) | (rw [if_neg (by omega), if_neg (by omega), if_neg (by omega), if_neg (by omega), if_neg (by omega)])), rfl⟩)
    · refine g_tsIn 82 dX8_count_1 (by decide) (by decide) (by decide) rfl rfl ?_
      refine g_aload_n dX8_count_82 rfl rfl (gf_X8_12 (M := mX8_count) rfl dX8_count_83 (yo9 hY) (yr9_0 hY) (gf_X8_76 (M := mX8_count) rfl dX8_count_86 (yo10 hY) ?_))
      exact g_iret dX8_count_89 rfl rfl ⟨Nat.le_refl _, Nat.le_refl _⟩ (by exact ⟨someI (by unfold sp_count; first | rfl | (show _ = h.I 69 0 + h.I 69 1; omega) | (show _ = if h.I 142 2 < 0 then -4 else h.I 142 2; split <;> omega) | (rw [if_neg (by omega), if_neg (by omega), if_neg (by omega), if_neg (by omega), if_neg (by omega)])), rfl⟩)
    · refine g_tsIn 90 dX8_count_1 (by decide) (by decide) (by decide) rfl rfl ?_
      refine g_aload_n dX8_count_90 rfl rfl (gf_X8_36 (M := mX8_count) rfl dX8_count_91 (yo9 hY) (yr9_5 hY) (g_iconst dX8_count_94 (g_aald dX8_count_95 (ya70 hY) (by decide) (D0 := "ClockTeeth$Sheet") rfl ⟨by omega, by omega, by omega⟩ (sh_r hY (by omega)) (gf_X8_325 (M := mX8_count) rfl dX8_count_96 (sh_o hY (by omega)) ?_))))
      refine g_if_ge 107 dX8_count_99 rfl (by omega) (fun c99 => ?_) (fun c99 => ?_)
      · skip
        refine g_aload_n dX8_count_107 rfl rfl (gf_X8_36 (M := mX8_count) rfl dX8_count_108 (yo9 hY) (yr9_5 hY) (g_iconst dX8_count_111 (g_aald dX8_count_112 (ya70 hY) (by decide) (D0 := "ClockTeeth$Sheet") rfl ⟨by omega, by omega, by omega⟩ (sh_r hY (by omega)) (gf_X8_325 (M := mX8_count) rfl dX8_count_113 (sh_o hY (by omega)) ?_))))
        exact g_iret dX8_count_116 rfl rfl ⟨Nat.le_refl _, Nat.le_refl _⟩ (by exact ⟨someI (by unfold sp_count; first | rfl | (show _ = h.I 69 0 + h.I 69 1; omega) | (show _ = if h.I 142 2 < 0 then -4 else h.I 142 2; split <;> omega) | (rw [if_neg (by omega), if_neg (by omega), if_neg (by omega), if_neg (by omega), if_neg (by omega)])), rfl⟩)
      · skip
        refine g_bipush dX8_count_102 kbm4 (g_goto 116 dX8_count_104 rfl ?_)
        exact g_iret dX8_count_116 rfl rfl ⟨Nat.le_refl _, Nat.le_refl _⟩ (by exact ⟨someI (by unfold sp_count; first | rfl | (show _ = h.I 69 0 + h.I 69 1; omega) | (show _ = if h.I 142 2 < 0 then -4 else h.I 142 2; split <;> omega) | (rw [if_neg (by omega), if_neg (by omega), if_neg (by omega), if_neg (by omega), if_neg (by omega)])), rfl⟩)
