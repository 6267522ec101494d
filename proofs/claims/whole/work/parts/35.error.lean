def errS (a b : Int) : Int := if a ≠ 0 then (if b ≠ 0 then 2 else 0) else (if b ≠ 0 then 1 else 3)
def nxF (F : Fg) : Fg := stF F (if F.st + 1 < F.te then F.st + 1 else 0)
theorem erF (h : HM) (a : Nat) (x : Int) : Fr82 h ((wr5 h 82 (c5 h a)).sI 82 1 x) := (Fr82_wr5 h _).tr (Fr82.s _ _ _)
theorem trlA (h : HM) {a : Nat} (ha : a ≠ 82) : (wr5 h 82 (c5 h a)).I a 0 = h.I a 0 ∧ (wr5 h 82 (c5 h a)).I a 1 = h.I a 1 := ⟨(Fr82_wr5 h _).I ha 0, (Fr82_wr5 h _).I ha 1⟩
theorem fr_fw {h h1 : HM} (hf : Fr82 h h1) {a : Nat} (ha : a ≠ 82) (hF : FB h a) : FW h1 a ∧ (0 ≤ h1.I a 1 ∧ h1.I a 1 ≤ 60) := by
  simp only [FW, hf.I ha]; exact ⟨hF.1, by omega⟩
theorem er_c (h : HM) (a : Nat) (x : Int) : c5 ((wr5 h 82 (c5 h a)).sI 82 1 x) 82 = stF (c5 h a) x := by
  simp [wr5, HM.sI, HM.I, up2, c5, stF, Fg.te, Fg.dr, Fg.la, Fg.ga]
theorem er_fw {h : HM} {a : Nat} (hF : FB h a) {x : Int} (hx : 0 ≤ x ∧ x ≤ 60) : FW ((wr5 h 82 (c5 h a)).sI 82 1 x) 82 ∧ (0 ≤ ((wr5 h 82 (c5 h a)).sI 82 1 x).I 82 1 ∧ ((wr5 h 82 (c5 h a)).sI 82 1 x).I 82 1 ≤ 60) := by
  have e := er_c h a x
  have e0 := congrArg Fg.te e
  have e1 := congrArg Fg.st e
  have e3 := congrArg Fg.la e
  have e4 := congrArg Fg.ga e
  simp only [c5, stF, Fg.te, Fg.st, Fg.la, Fg.ga] at e0 e1 e3 e4
  have := hF.1
  simp only [FW, c5, e0, e1, e3, e4]
  exact ⟨this, hx⟩
theorem er1 {h : HM} (hS : CS_ h 12) {a : Nat} (ha : a ≠ 82) {x f : Int} : pI (FitP ((wr5 h 82 (c5 h a)).sI 82 1 x) 12 a f) = pI (FitF h 12 (c5 h a) f) := by
  apply pI_congr
  rw [FitP_F, FitF_82 (erF h a x) hS]
  have e : c5 ((wr5 h 82 (c5 h a)).sI 82 1 x) a = c5 h a := (show ∀ h1 : HM, (∀ j, h1.I a j = h.I a j) → c5 h1 a = c5 h a from fun h1 q => by simp only [c5, q]) _ ((erF h a x).I ha)
  rw [e]
theorem er2 {h : HM} (hS : CS_ h 12) {a : Nat} {x f : Int} : pI (FitP ((wr5 h 82 (c5 h a)).sI 82 1 x) 12 82 f) = pI (FitF h 12 (stF (c5 h a) x) f) := by
  apply pI_congr
  rw [FitP_F, FitF_82 (erF h a x) hS, er_c]
theorem nxa {h : HM} {a : Nat} (ha : a ≠ 82) (hx : h.I a 1 + 1 < h.I a 0) : stF (c5 h a) ((wr5 h 82 (c5 h a)).I a 1 + 1) = nxF (c5 h a) := by
  rw [(trlA h ha).2]; unfold nxF; rw [if_pos (show (c5 h a).st + 1 < (c5 h a).te from hx)]; rfl
theorem nxb {h : HM} {a : Nat} (hx : ¬ h.I a 1 + 1 < h.I a 0) : stF (c5 h a) 0 = nxF (c5 h a) := by
  unfold nxF; rw [if_neg (show ¬ (c5 h a).st + 1 < (c5 h a).te from hx)]
set_option maxRecDepth 100000 in
set_option maxHeartbeats 1000000 in
theorem e_X8_error {G : GX} {y : LY} {h : HM} {d : Nat} (hY : Lay y) {f : Int} (hf : R32 f) (hS : CS_ h 12) (hC : CF h 12) : EvQX G mX8_error (d + 3) [.ref 9, .int (iZ f)] y h (fun v h1 => Fr82 h h1 ∧ ((¬ (0 ≤ f ∧ f < h.I 12 3) ∧ v = -1) ∨ ((0 ≤ f ∧ f < h.I 12 3) ∧ v = errS (pI (FitF h 12 (c5 h (12 + 4 + f.toNat)) f)) (pI (FitF h 12 (nxF (c5 h (12 + 4 + f.toNat))) f))))) := by
  have hnf := hC.1
  have hpf := pI_01 (0 ≤ f ∧ f < h.I 12 3)
  have hpf2 := pI_eq1 (P := 0 ≤ f ∧ f < h.I 12 3)
  have hp1 := pI_01 (FitF h 12 (c5 h (12 + 4 + f.toNat)) f)
  have hp2 := pI_01 (FitF h 12 (nxF (c5 h (12 + 4 + f.toNat))) f)
  refine Ev.of rfl [some (.ref 9), some (.int (iZ f)), none, none, none] rfl (Nat.le_of_ble_eq_true rfl) ?_
  refine g_aload_n dX8_error_0 rfl rfl (g_iload_n dX8_error_1 rfl rfl (cv_X8_116 (M := mX8_error) rfl dX8_error_2 (yo9 hY) (RO.same _ _ _) (Nat.le_of_ble_eq_true rfl) (e_X8_isFigure hY (by omega) (by omega)) <| kI ?_))
  refine g_if_ne 10 dX8_error_5 rfl (by omega) (fun c5 => ?_) (fun c5 => ?_)
  · skip
    have hFf := hC.2 f (by omega) (by omega)
    have hA82 : (12 + 4 + f.toNat) ≠ 82 := by omega
    refine g_aload_n dX8_error_10 rfl rfl (gf_X8_19 (M := mX8_error) rfl dX8_error_11 (yo9 hY) (yr9_1 hY) (gf_X8_120 (M := mX8_error) rfl dX8_error_14 (ck_o hY clk12) (ck_r0 hY clk12) (g_iload_n dX8_error_17 rfl rfl (g_aald dX8_error_18 (ck_a0 hY clk12) (by decide) (D0 := "ClockTeeth$Figure") rfl ⟨by omega, by omega, by omega⟩ (ck_fr hY clk12 (by omega)) (g_ast2 dX8_error_19 (by decide) rfl (g_aload_n dX8_error_20 rfl rfl (gf_X8_50 (M := mX8_error) rfl dX8_error_21 (yo9 hY) (yr9_7 hY) (g_aload_n dX8_error_24 rfl rfl (cv_X8_246 (M := mX8_error) rfl dX8_error_25 (yo82 hY) (RO.same _ _ _) (Nat.le_of_ble_eq_true rfl) (e_X1_become (yo82 hY) (ck_fo hY clk12 (by omega))) <| kV ?_)))))))))
    obtain ⟨e0, e1⟩ := trlA h hA82
    refine g_aload_n dX8_error_28 rfl rfl (gf_X8_50 (M := mX8_error) rfl dX8_error_29 (yo9 hY) (yr9_7 hY) (g_aload_n dX8_error_32 rfl rfl (gf_X8_130 (M := mX8_error) rfl dX8_error_33 (ck_fo hY clk12 (by omega)) (g_iconst dX8_error_36 (g_iadd dX8_error_37 (g_aload_n dX8_error_38 rfl rfl (gf_X8_127 (M := mX8_error) rfl dX8_error_39 (ck_fo hY clk12 (by omega)) ?_)))))))
    refine g_icmp_ge 54 dX8_error_42 rfl (by omega) (by omega) (fun c42 => ?_) (fun c42 => ?_)
    · skip
      refine g_iconst dX8_error_54 (pf_X8_130 (M := mX8_error) rfl dX8_error_55 (yo82 hY) (g_aload_n dX8_error_58 rfl rfl (gf_X8_19 (M := mX8_error) rfl dX8_error_59 (yo9 hY) (yr9_1 hY) (g_iload_n dX8_error_62 rfl rfl (g_aload_n dX8_error_63 rfl rfl (cv_X8_277 (M := mX8_error) rfl dX8_error_64 (ck_o hY clk12) (RO.same _ _ _) (Nat.le_of_ble_eq_true rfl) (e_X0_fits hY (Or.inl rfl) (ck_fo hY (Or.inl rfl) (by omega)) (CS_82 (erF h _ _) hS) (fr_fw (erF h _ _) hA82 hFf).1 (fr_fw (erF h _ _) hA82 hFf).2 (by omega)) <| kI (g_ist3 dX8_error_67 (by decide) rfl (g_aload_n dX8_error_68 rfl rfl (gf_X8_19 (M := mX8_error) rfl dX8_error_69 (yo9 hY) (yr9_1 hY) (g_iload_n dX8_error_72 rfl rfl (g_aload_n dX8_error_73 rfl rfl ?_)))))))))))
      refine gf_X8_50 (M := mX8_error) rfl dX8_error_74 (yo9 hY) (yr9_7 hY) (cv_X8_277 (M := mX8_error) rfl dX8_error_77 (ck_o hY clk12) (RO.same _ _ _) (Nat.le_of_ble_eq_true rfl) (e_X0_fits hY (Or.inl rfl) (yo82 hY) (CS_82 (erF h _ _) hS) (er_fw hFf (by omega)).1 (er_fw hFf (by omega)).2 (by omega)) <| kI (g_ist4 dX8_error_80 (by decide) rfl ?_))
      rw [er1 hS hA82, er2 hS]
      first | rw [nxa hA82 (by omega)] | rw [nxb (by omega)]
      refine g_iload_n dX8_error_82 rfl rfl ?_
      refine g_if_eq 97 dX8_error_83 rfl (by omega) (fun c83 => ?_) (fun c83 => ?_)
      · skip
        refine g_iload dX8_error_97 rfl ?_
        refine g_if_eq 106 dX8_error_99 rfl (by omega) (fun c99 => ?_) (fun c99 => ?_)
        · skip
          refine g_iconst dX8_error_106 ?_
          exact g_iret dX8_error_107 rfl rfl ⟨Nat.le_refl _, Nat.le_refl _⟩ (by first | exact ⟨-1, rfl, fun _ _ => ⟨rfl, rfl⟩, Or.inl ⟨by omega, rfl⟩⟩ | (refine ⟨_, rfl, erF h _ _, Or.inr ⟨by omega, ?_⟩⟩; unfold errS; first | rw [if_pos (by omega), if_pos (by omega)] | rw [if_pos (by omega), if_neg (by omega)] | rw [if_neg (by omega), if_pos (by omega)] | rw [if_neg (by omega), if_neg (by omega)]))
        · skip
          refine g_iconst dX8_error_102 (g_goto 107 dX8_error_103 rfl ?_)
          exact g_iret dX8_error_107 rfl rfl ⟨Nat.le_refl _, Nat.le_refl _⟩ (by first | exact ⟨-1, rfl, fun _ _ => ⟨rfl, rfl⟩, Or.inl ⟨by omega, rfl⟩⟩ | (refine ⟨_, rfl, erF h _ _, Or.inr ⟨by omega, ?_⟩⟩; unfold errS; first | rw [if_pos (by omega), if_pos (by omega)] | rw [if_pos (by omega), if_neg (by omega)] | rw [if_neg (by omega), if_pos (by omega)] | rw [if_neg (by omega), if_neg (by omega)]))
      · skip
        refine g_iload dX8_error_86 rfl ?_
        refine g_if_eq 95 dX8_error_88 rfl (by omega) (fun c88 => ?_) (fun c88 => ?_)
        · skip
          refine g_iconst dX8_error_95 ?_
          exact g_iret dX8_error_96 rfl rfl ⟨Nat.le_refl _, Nat.le_refl _⟩ (by first | exact ⟨-1, rfl, fun _ _ => ⟨rfl, rfl⟩, Or.inl ⟨by omega, rfl⟩⟩ | (refine ⟨_, rfl, erF h _ _, Or.inr ⟨by omega, ?_⟩⟩; unfold errS; first | rw [if_pos (by omega), if_pos (by omega)] | rw [if_pos (by omega), if_neg (by omega)] | rw [if_neg (by omega), if_pos (by omega)] | rw [if_neg (by omega), if_neg (by omega)]))
        · skip
          refine g_iconst dX8_error_91 (g_goto 96 dX8_error_92 rfl ?_)
          exact g_iret dX8_error_96 rfl rfl ⟨Nat.le_refl _, Nat.le_refl _⟩ (by first | exact ⟨-1, rfl, fun _ _ => ⟨rfl, rfl⟩, Or.inl ⟨by omega, rfl⟩⟩ | (refine ⟨_, rfl, erF h _ _, Or.inr ⟨by omega, ?_⟩⟩; unfold errS; first | rw [if_pos (by omega), if_pos (by omega)] | rw [if_pos (by omega), if_neg (by omega)] | rw [if_neg (by omega), if_pos (by omega)] | rw [if_neg (by omega), if_neg (by omega)]))
    · skip
      refine g_aload_n dX8_error_45 rfl rfl (gf_X8_130 (M := mX8_error) rfl dX8_error_46 (ck_fo hY clk12 (by omega)) (g_iconst dX8_error_49 (g_iadd dX8_error_50 (g_goto 55 dX8_error_51 rfl (pf_X8_130 (M := mX8_error) rfl dX8_error_55 (yo82 hY) (g_aload_n dX8_error_58 rfl rfl (gf_X8_19 (M := mX8_error) rfl dX8_error_59 (yo9 hY) (yr9_1 hY) (g_iload_n dX8_error_62 rfl rfl (g_aload_n dX8_error_63 rfl rfl (cv_X8_277 (M := mX8_error) rfl dX8_error_64 (ck_o hY clk12) (RO.same _ _ _) (Nat.le_of_ble_eq_true rfl) (e_X0_fits hY (Or.inl rfl) (ck_fo hY (Or.inl rfl) (by omega)) (CS_82 (erF h _ _) hS) (fr_fw (erF h _ _) hA82 hFf).1 (fr_fw (erF h _ _) hA82 hFf).2 (by omega)) <| kI (g_ist3 dX8_error_67 (by decide) rfl ?_)))))))))))
      refine g_aload_n dX8_error_68 rfl rfl (gf_X8_19 (M := mX8_error) rfl dX8_error_69 (yo9 hY) (yr9_1 hY) (g_iload_n dX8_error_72 rfl rfl (g_aload_n dX8_error_73 rfl rfl (gf_X8_50 (M := mX8_error) rfl dX8_error_74 (yo9 hY) (yr9_7 hY) (cv_X8_277 (M := mX8_error) rfl dX8_error_77 (ck_o hY clk12) (RO.same _ _ _) (Nat.le_of_ble_eq_true rfl) (e_X0_fits hY (Or.inl rfl) (yo82 hY) (CS_82 (erF h _ _) hS) (er_fw hFf (by omega)).1 (er_fw hFf (by omega)).2 (by omega)) <| kI (g_ist4 dX8_error_80 (by decide) rfl ?_))))))
      rw [er1 hS hA82, er2 hS]
      first | rw [nxa hA82 (by omega)] | rw [nxb (by omega)]
      refine g_iload_n dX8_error_82 rfl rfl ?_
      refine g_if_eq 97 dX8_error_83 rfl (by omega) (fun c83 => ?_) (fun c83 => ?_)
      · skip
        refine g_iload dX8_error_97 rfl ?_
        refine g_if_eq 106 dX8_error_99 rfl (by omega) (fun c99 => ?_) (fun c99 => ?_)
        · skip
          refine g_iconst dX8_error_106 ?_
          exact g_iret dX8_error_107 rfl rfl ⟨Nat.le_refl _, Nat.le_refl _⟩ (by first | exact ⟨-1, rfl, fun _ _ => ⟨rfl, rfl⟩, Or.inl ⟨by omega, rfl⟩⟩ | (refine ⟨_, rfl, erF h _ _, Or.inr ⟨by omega, ?_⟩⟩; unfold errS; first | rw [if_pos (by omega), if_pos (by omega)] | rw [if_pos (by omega), if_neg (by omega)] | rw [if_neg (by omega), if_pos (by omega)] | rw [if_neg (by omega), if_neg (by omega)]))
        · skip
          refine g_iconst dX8_error_102 (g_goto 107 dX8_error_103 rfl ?_)
          exact g_iret dX8_error_107 rfl rfl ⟨Nat.le_refl _, Nat.le_refl _⟩ (by first | exact ⟨-1, rfl, fun _ _ => ⟨rfl, rfl⟩, Or.inl ⟨by omega, rfl⟩⟩ | (refine ⟨_, rfl, erF h _ _, Or.inr ⟨by omega, ?_⟩⟩; unfold errS; first | rw [if_pos (by omega), if_pos (by omega)] | rw [if_pos (by omega), if_neg (by omega)] | rw [if_neg (by omega), if_pos (by omega)] | rw [if_neg (by omega), if_neg (by omega)]))
      · skip
        refine g_iload dX8_error_86 rfl ?_
        refine g_if_eq 95 dX8_error_88 rfl (by omega) (fun c88 => ?_) (fun c88 => ?_)
        · skip
          refine g_iconst dX8_error_95 ?_
          exact g_iret dX8_error_96 rfl rfl ⟨Nat.le_refl _, Nat.le_refl _⟩ (by first | exact ⟨-1, rfl, fun _ _ => ⟨rfl, rfl⟩, Or.inl ⟨by omega, rfl⟩⟩ | (refine ⟨_, rfl, erF h _ _, Or.inr ⟨by omega, ?_⟩⟩; unfold errS; first | rw [if_pos (by omega), if_pos (by omega)] | rw [if_pos (by omega), if_neg (by omega)] | rw [if_neg (by omega), if_pos (by omega)] | rw [if_neg (by omega), if_neg (by omega)]))
        · skip
          refine g_iconst dX8_error_91 (g_goto 96 dX8_error_92 rfl ?_)
          exact g_iret dX8_error_96 rfl rfl ⟨Nat.le_refl _, Nat.le_refl _⟩ (by first | exact ⟨-1, rfl, fun _ _ => ⟨rfl, rfl⟩, Or.inl ⟨by omega, rfl⟩⟩ | (refine ⟨_, rfl, erF h _ _, Or.inr ⟨by omega, ?_⟩⟩; unfold errS; first | rw [if_pos (by omega), if_pos (by omega)] | rw [if_pos (by omega), if_neg (by omega)] | rw [if_neg (by omega), if_pos (by omega)] | rw [if_neg (by omega), if_neg (by omega)]))
  · skip
    refine g_iconst dX8_error_8 ?_
    exact g_iret dX8_error_9 rfl rfl ⟨Nat.le_refl _, Nat.le_refl _⟩ (by first | exact ⟨-1, rfl, fun _ _ => ⟨rfl, rfl⟩, Or.inl ⟨by omega, rfl⟩⟩ | (refine ⟨_, rfl, erF h _ _, Or.inr ⟨by omega, ?_⟩⟩; unfold errS; first | rw [if_pos (by omega), if_pos (by omega)] | rw [if_pos (by omega), if_neg (by omega)] | rw [if_neg (by omega), if_pos (by omega)] | rw [if_neg (by omega), if_neg (by omega)]))
