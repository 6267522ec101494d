def TurnP (F : Nat → Fg) (nf f v : Int) : Prop :=
  (v = -4 ∧ ∀ j : Int, 0 ≤ j → j < (F f.toNat).te → ¬ FrA F nf f (F f.toNat) (((F f.toNat).st + j) % (F f.toNat).te)) ∨
  ∃ i : Int, (0 ≤ i ∧ i < (F f.toNat).te) ∧ v = ((F f.toNat).st + i) % (F f.toNat).te ∧ FrA F nf f (F f.toNat) v ∧ ∀ j : Int, 0 ≤ j → j < i → ¬ FrA F nf f (F f.toNat) (((F f.toNat).st + j) % (F f.toNat).te)
theorem TurnP.uniq {F : Nat → Fg} {nf f v w : Int} (h1 : TurnP F nf f v) (h2 : TurnP F nf f w) : v = w := by
  rcases h1 with ⟨a, a1⟩ | ⟨i, a, a1, a2, a3⟩ <;> rcases h2 with ⟨b, b1⟩ | ⟨j, b, b1, b2, b3⟩
  · omega
  · exact absurd (b1 ▸ b2) (a1 j b.1 b.2)
  · exact absurd (a1 ▸ a2) (b1 i a.1 a.2)
  · rcases Int.lt_trichotomy i j with z | z | z
    · exact absurd (a1 ▸ a2) (b3 i a.1 z)
    · rw [a1, b1, z]
    · exact absurd (b1 ▸ b2) (a3 j b.1 z)
theorem cFs_te (h : HM) (f : Int) : (cFs h 12 f.toNat).te = h.I (12 + 4 + f.toNat) 0 ∧ (cFs h 12 f.toNat).st = h.I (12 + 4 + f.toNat) 1 := ⟨rfl, rfl⟩
theorem trl (h : HM) (a : Nat) : (wr5 h 82 (c5 h a)).I 82 0 = h.I a 0 ∧ (wr5 h 82 (c5 h a)).I 82 2 = h.I a 2 ∧ (wr5 h 82 (c5 h a)).I 82 3 = h.I a 3 ∧ (wr5 h 82 (c5 h a)).I 82 4 = h.I a 4 ∧ (wr5 h 82 (c5 h a)).I 12 3 = h.I 12 3 ∧ c5 (wr5 h 82 (c5 h a)) 82 = c5 h a := by
  refine ⟨?_, ?_, ?_, ?_, ?_, ?_⟩ <;> simp [wr5, HM.sI, HM.I, up2, c5]
theorem trlW {h : HM} {a : Nat} (hF : FB h a) : FW (wr5 h 82 (c5 h a)) 82 := by
  obtain ⟨e0, _, e3, e4, _⟩ := trl h a
  simp only [FW, e0, e3, e4]; exact hF.1
theorem trlD {h : HM} {a : Nat} (hF : FB h a) : 0 ≤ (wr5 h 82 (c5 h a)).I 82 2 ∧ (wr5 h 82 (c5 h a)).I 82 2 ≤ 8 := by
  obtain ⟨_, e2, _⟩ := trl h a
  rw [e2]; exact hF.2.2.2
set_option maxRecDepth 100000 in
set_option maxHeartbeats 1000000 in
theorem e_X8_turn {G : GX} {y : LY} {h : HM} {d : Nat} (hY : Lay y) {f : Int} (hf : R32 f) (hC : CF h 12) : EvQX G mX8_turn (d + 4) [.ref 9, .int (iZ f)] y h (fun v h1 => Fr82 h h1 ∧ ((¬ (0 ≤ f ∧ f < h.I 12 3) ∧ v = -1) ∨ ((0 ≤ f ∧ f < h.I 12 3) ∧ TurnP (cFs h 12) (h.I 12 3) f v))) := by
  have hnf := hC.1
  have hpf := pI_01 (0 ≤ f ∧ f < h.I 12 3)
  have hpf2 := pI_eq1 (P := 0 ≤ f ∧ f < h.I 12 3)
  refine Ev.of rfl [some (.ref 9), some (.int (iZ f)), none, none, none, none, none] rfl (Nat.le_of_ble_eq_true rfl) ?_
  have L44 : ∀ (m : Nat) (h1 : HM) (i : Int) (Y : Nat), (m : Int) = h.I (12 + 4 + f.toNat) 0 - i → (0 ≤ f ∧ f < h.I 12 3) → 0 ≤ i ∧ i ≤ h.I (12 + 4 + f.toNat) 0 → Fr82 h h1 → Y < 2 ^ 60 → (∀ s : Nat, Y.testBit s = true ↔ s < (h.I (12 + 4 + f.toNat) 0).toNat ∧ FrA (cFs h 12) (h.I 12 3) f (cFs h 12 f.toNat) s) → (∀ j : Int, 0 ≤ j → j < i → ¬ FrA (cFs h 12) (h.I 12 3) f (cFs h 12 f.toNat) (((cFs h 12 f.toNat).st + j) % (cFs h 12 f.toNat).te)) → Go G mX8_turn (rmo (d + 4) 0 0) (ZM G y 0 0 (fun r h1 => ∃ v_ : Int, r = some (.int (iZ v_)) ∧ (fun v h1 => Fr82 h h1 ∧ ((¬ (0 ≤ f ∧ f < h.I 12 3) ∧ v = -1) ∨ ((0 ≤ f ∧ f < h.I 12 3) ∧ TurnP (cFs h 12) (h.I 12 3) f v))) v_ h1)) y 44 [some (.ref 9), some (.int (iZ f)), some (.ref (12 + 4 + f.toNat)), some (.long (lZ Y)), none, some (.int (iZ i)), none] [] h1 (0, 0) := by
    intro m
    induction m using Nat.strongRecOn with | _ m ih =>
    intro h1 i Y hm hok hi hfr hYb hB hN
    have hFf := hC.2 f hok.1 hok.2
    have e0 : h1.I (12 + 4 + f.toNat) 0 = h.I (12 + 4 + f.toNat) 0 := by rw [(hfr (12 + 4 + f.toNat) (by omega)).1]
    have e1 : h1.I (12 + 4 + f.toNat) 1 = h.I (12 + 4 + f.toNat) 1 := by rw [(hfr (12 + 4 + f.toNat) (by omega)).1]
    have hem := em_bd (h1.I (12 + 4 + f.toNat) 1 + i) (d := h1.I (12 + 4 + f.toNat) 0) (by omega)
    have hbq := bitQ' (X := Y) (i := (h1.I (12 + 4 + f.toNat) 1 + i) % h1.I (12 + 4 + f.toNat) 0) (by omega) (by omega)
    have hbt := hB ((h1.I (12 + 4 + f.toNat) 1 + i) % h1.I (12 + 4 + f.toNat) 0).toNat
    have hS : (((cFs h 12 f.toNat).st + i) % (cFs h 12 f.toNat).te) = (h1.I (12 + 4 + f.toNat) 1 + i) % h1.I (12 + 4 + f.toNat) 0 := by rw [e0, e1]; rfl
    rw [show (((h1.I (12 + 4 + f.toNat) 1 + i) % h1.I (12 + 4 + f.toNat) 0).toNat : Int) = (h1.I (12 + 4 + f.toNat) 1 + i) % h1.I (12 + 4 + f.toNat) 0 by omega] at hbt
    have hlt : ((h1.I (12 + 4 + f.toNat) 1 + i) % h1.I (12 + 4 + f.toNat) 0).toNat < (h.I (12 + 4 + f.toNat) 0).toNat := by omega
    refine g_iload dX8_turn_44 rfl (g_aload_n dX8_turn_46 rfl rfl (gf_X8_127 (M := mX8_turn) rfl dX8_turn_47 (ck_fo hY (c := 12) (Or.inl rfl) (i := f) (by omega)) ?_))
    refine g_icmp_ge 92 dX8_turn_50 rfl (by omega) (by omega) (fun c50 => ?_) (fun c50 => ?_)
    · skip
      refine g_bipush dX8_turn_92 kbm4 ?_
      exact g_iret dX8_turn_94 rfl rfl ⟨Nat.le_refl _, Nat.le_refl _⟩ (by first | exact ⟨-4, rfl, hfr, Or.inr ⟨hok, Or.inl ⟨rfl, fun j j0 j1 => hN j j0 (by rw [(cFs_te h f).1] at j1; omega)⟩⟩⟩ | exact ⟨_, rfl, hfr, Or.inr ⟨hok, Or.inr ⟨i, ⟨by omega, by rw [(cFs_te h f).1]; omega⟩, hS.symm, (hbt.mp (Decidable.byContradiction fun z => c79 (by rw [hbq, if_neg z]))).2, hN⟩⟩⟩)
    · skip
      refine g_aload_n dX8_turn_53 rfl rfl (gf_X8_130 (M := mX8_turn) rfl dX8_turn_54 (ck_fo hY (c := 12) (Or.inl rfl) (i := f) (by omega)) (g_iload dX8_turn_57 rfl (g_iadd dX8_turn_59 (g_i2l dX8_turn_60 (by omega) (g_aload_n dX8_turn_61 rfl rfl (gf_X8_127 (M := mX8_turn) rfl dX8_turn_62 (ck_fo hY (c := 12) (Or.inl rfl) (i := f) (by omega)) (g_i2l dX8_turn_65 (by omega) (cv_X8_181 (M := mX8_turn) rfl dX8_turn_66 (RO.same _ _ _) (Nat.le_of_ble_eq_true rfl) (e_X8_rest (by omega) (by omega)) <| kL (g_l2i dX8_turn_69 (g_ist6 dX8_turn_70 (by decide) rfl (g_lload_n dX8_turn_72 rfl rfl ?_)))))))))))
      refine g_iload dX8_turn_73 rfl (g_lushr dX8_turn_75 (g_lconst (v := 1) dX8_turn_76 rfl (g_land dX8_turn_77 (g_lconst (v := 0) dX8_turn_78 rfl ?_))))
      refine g_lcmp_eq 86 dX8_turn_79 dX8_turn_80 rfl (by omega) (by omega) (fun c79 => ?_) (fun c79 => ?_)
      · skip
        refine g_inc5 dX8_turn_86 (by decide) rfl (g_goto 44 dX8_turn_89 rfl (g_dr6 ?_))
        refine ih (m - 1) (by omega) h1 (i + 1) Y (by omega) hok (by omega) hfr hYb hB (fun j j0 j1 z => ?_)
        rcases (by omega : j < i ∨ j = i) with w | rfl
        · exact hN j j0 w z
        · rw [hS] at z; rw [hbq, if_pos (hbt.mpr ⟨hlt, z⟩)] at c79; omega
      · skip
        refine g_iload dX8_turn_83 rfl ?_
        exact g_iret dX8_turn_85 rfl rfl ⟨Nat.le_refl _, Nat.le_refl _⟩ (by first | exact ⟨-4, rfl, hfr, Or.inr ⟨hok, Or.inl ⟨rfl, fun j j0 j1 => hN j j0 (by rw [(cFs_te h f).1] at j1; omega)⟩⟩⟩ | exact ⟨_, rfl, hfr, Or.inr ⟨hok, Or.inr ⟨i, ⟨by omega, by rw [(cFs_te h f).1]; omega⟩, hS.symm, (hbt.mp (Decidable.byContradiction fun z => c79 (by rw [hbq, if_neg z]))).2, hN⟩⟩⟩)
  refine g_aload_n dX8_turn_0 rfl rfl (g_iload_n dX8_turn_1 rfl rfl (cv_X8_116 (M := mX8_turn) rfl dX8_turn_2 (yo9 hY) (RO.same _ _ _) (Nat.le_of_ble_eq_true rfl) (e_X8_isFigure hY (by omega) (by omega)) <| kI ?_))
  refine g_if_ne 10 dX8_turn_5 rfl (by omega) (fun c5 => ?_) (fun c5 => ?_)
  · skip
    have hFf := hC.2 f (by omega) (by omega)
    refine g_aload_n dX8_turn_10 rfl rfl (gf_X8_19 (M := mX8_turn) rfl dX8_turn_11 (yo9 hY) (yr9_1 hY) (gf_X8_120 (M := mX8_turn) rfl dX8_turn_14 (ck_o hY clk12) (ck_r0 hY clk12) (g_iload_n dX8_turn_17 rfl rfl (g_aald dX8_turn_18 (ck_a0 hY clk12) (by decide) (D0 := "ClockTeeth$Figure") rfl ⟨by omega, by omega, by omega⟩ (ck_fr hY clk12 (by omega)) (g_ast2 dX8_turn_19 (by decide) rfl (g_aload_n dX8_turn_20 rfl rfl (gf_X8_50 (M := mX8_turn) rfl dX8_turn_21 (yo9 hY) (yr9_7 hY) (g_aload_n dX8_turn_24 rfl rfl (cv_X8_246 (M := mX8_turn) rfl dX8_turn_25 (yo82 hY) (RO.same _ _ _) (Nat.le_of_ble_eq_true rfl) (e_X1_become (yo82 hY) (ck_fo hY clk12 (by omega))) <| kV ?_)))))))))
    obtain ⟨ec0, ec2, ec3, ec4, e3, e5⟩ := trl h (12 + 4 + f.toNat)
    have e6 : 2 ^ (h.I (12 + 4 + f.toNat) 0).toNat ≤ 2 ^ 60 := Nat.pow_le_pow_right (by decide) (by omega)
    refine g_aload_n dX8_turn_28 rfl rfl (gf_X8_19 (M := mX8_turn) rfl dX8_turn_29 (yo9 hY) (yr9_1 hY) (g_iload_n dX8_turn_32 rfl rfl (g_aload_n dX8_turn_33 rfl rfl (gf_X8_50 (M := mX8_turn) rfl dX8_turn_34 (yo9 hY) (yr9_7 hY) ?_))))
    refine cv_X8_249 (M := mX8_turn) rfl dX8_turn_37 (ck_o hY clk12) (RO.same _ _ _) (Nat.le_of_ble_eq_true rfl) (e_X0_freeStarts hY (CF_tr (cFs h 12 f.toNat) hC) (trlW hFf) (trlD hFf) (by omega)) (kQL fun v37 hq37 => ?_)
    obtain ⟨Y, rfl, hY1, hB⟩ := hq37
    rw [ec0, e3, e5] at hB
    rw [ec0] at hY1
    refine g_lst3 dX8_turn_40 (by decide) rfl (g_iconst dX8_turn_41 (g_ist5 dX8_turn_42 (by decide) rfl ?_))
    exact L44 (h.I (12 + 4 + f.toNat) 0).toNat _ 0 Y (by omega) (by omega) (by omega) (Fr82_wr5 h _) (by omega) (fun s => (hB s).trans (by rw [FrA_tr h _ _ (by omega)]; exact Iff.rfl)) (fun j j0 j1 => by omega)
  · skip
    refine g_iconst dX8_turn_8 ?_
    exact g_iret dX8_turn_9 rfl rfl ⟨Nat.le_refl _, Nat.le_refl _⟩ (by exact ⟨-1, rfl, fun _ _ => ⟨rfl, rfl⟩, Or.inl ⟨by omega, rfl⟩⟩)
