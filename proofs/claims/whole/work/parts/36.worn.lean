def laF (F : Fg) (l : Int) : Fg := (F.te, F.st, F.dr, l, F.ga)
noncomputable def wrn (P : Int → Prop) : Nat → Nat
  | 0 => 0
  | i + 1 => @ite Nat (P i) (Classical.propDecidable _) (wrn P i ||| 2 ^ i) (wrn P i)
theorem wrn_bd {P : Int → Prop} : ∀ i : Nat, wrn P i < 2 ^ i
  | 0 => Nat.zero_lt_succ _
  | i + 1 => by
    have := wrn_bd (P := P) i
    have e : 2 ^ i < 2 ^ (i + 1) := Nat.pow_lt_pow_right (by decide) (by omega)
    unfold wrn; split
    · exact Nat.or_lt_two_pow (by omega) e
    · omega
theorem wrn_t {P : Int → Prop} {i : Nat} (h : P i) : wrn P (i + 1) = wrn P i ||| 2 ^ i := if_pos h
theorem wrn_f {P : Int → Prop} {i : Nat} (h : ¬ P i) : wrn P (i + 1) = wrn P i := if_neg h
theorem wo_c {h : HM} {F : Fg} {l : Int} (e : c5 h 82 = laF F l) (k : Int) : c5 (h.sI 82 3 k) 82 = laF F k := by
  simp only [c5, laF, Prod.mk.injEq] at e
  simp [c5, HM.sI, HM.I, up2, laF] at e ⊢
  exact ⟨e.1, e.2.1, e.2.2.1, e.2.2.2.2⟩
theorem wo_fw {h : HM} {a : Nat} (hF : FB h a) {h1 : HM} {k : Int} (hk : 0 ≤ k ∧ k ≤ 3) (e : c5 h1 82 = laF (c5 h a) k) : FW h1 82 ∧ (0 ≤ h1.I 82 1 ∧ h1.I 82 1 ≤ 60) := by
  simp only [c5, laF, Prod.mk.injEq, Fg.te, Fg.st, Fg.dr, Fg.ga] at e
  obtain ⟨e0, e1, e2, e3, e4⟩ := e
  simp only [FW, e0, e1, e3, e4]
  have := hF.1; have := hF.2
  omega
theorem wo_fit {h h1 : HM} (hS : CS_ h 12) (hf : Fr82 h h1) {F : Fg} {f : Int} (e : c5 h1 82 = F) : pI (FitP h1 12 82 f) = pI (FitF h 12 F f) := by
  apply pI_congr
  rw [FitP_F, FitF_82 hf hS, e]
theorem wo_or {n : Nat} {i : Int} (hi : 0 ≤ i ∧ i ≤ 3) (hn : n < 16) : iOr n (iShl 1 i) = ((n ||| 2 ^ i.toNat : Nat) : Int) := by
  rw [iShl1' (by omega)]
  have h1 : 2 ^ i.toNat < 2 ^ 4 := Nat.pow_lt_pow_right (by decide) (by omega)
  have := iOrN (a := n) (b := 2 ^ i.toNat) (by omega) (by omega)
  push_cast at this ⊢
  exact this
set_option maxRecDepth 100000 in
set_option maxHeartbeats 1000000 in
theorem e_X8_worn {G : GX} {y : LY} {h : HM} {d : Nat} (hY : Lay y) {f : Int} (hf : R32 f) (hS : CS_ h 12) (hC : CF h 12) : EvQX G mX8_worn (d + 3) [.ref 9, .int (iZ f)] y h (fun (v : Int) h1 => Fr82 h h1 ∧ ((¬ (0 ≤ f ∧ f < h.I 12 3) ∧ v = -1) ∨ ((0 ≤ f ∧ f < h.I 12 3) ∧ v = ((wrn (fun l => FitF h 12 (laF (c5 h (12 + 4 + f.toNat)) l) f) 4 : Nat) : Int)))) := by
  have hnf := hC.1
  have hpf := pI_01 (0 ≤ f ∧ f < h.I 12 3)
  have hpf2 := pI_eq1 (P := 0 ≤ f ∧ f < h.I 12 3)
  refine Ev.of rfl [some (.ref 9), some (.int (iZ f)), none, none] rfl (Nat.le_of_ble_eq_true rfl) ?_
  have L30 : ∀ (m : Nat) (h1 : HM) (i : Nat) (l : Int), m = 4 - i → (0 ≤ f ∧ f < h.I 12 3) → i ≤ 4 → Fr82 h h1 → c5 h1 82 = laF (c5 h (12 + 4 + f.toNat)) l → Go G mX8_worn (rmo (d + 3) 0 0) (ZM G y 0 0 (fun r h1 => ∃ v_ : Int, r = some (.int (iZ v_)) ∧ (fun (v : Int) h1 => Fr82 h h1 ∧ ((¬ (0 ≤ f ∧ f < h.I 12 3) ∧ v = -1) ∨ ((0 ≤ f ∧ f < h.I 12 3) ∧ v = ((wrn (fun l => FitF h 12 (laF (c5 h (12 + 4 + f.toNat)) l) f) 4 : Nat) : Int)))) v_ h1)) y 30 [some (.ref 9), some (.int (iZ f)), some (.int (iZ (wrn (fun l => FitF h 12 (laF (c5 h (12 + 4 + f.toNat)) l) f) i : Nat))), some (.int (iZ i))] [] h1 (0, 0) := by
    intro m
    induction m using Nat.strongRecOn with | _ m ih =>
    intro h1 i l hm hok hi hfr he
    have hFf := hC.2 f hok.1 hok.2
    have he2 := wo_c he i
    have hf2 := hfr.tr (Fr82.s h1 3 i)
    have hw := wrn_bd (P := (fun l => FitF h 12 (laF (c5 h (12 + 4 + f.toNat)) l) f)) i
    have hw2 : 2 ^ i ≤ 2 ^ 4 := Nat.pow_le_pow_right (by decide) hi
    have hp1 := pI_01 (FitF h 12 (laF (c5 h (12 + 4 + f.toNat)) i) f)
    have hpe := pI_eq1 (P := FitF h 12 (laF (c5 h (12 + 4 + f.toNat)) i) f)
    refine g_iload_n dX8_worn_30 rfl rfl (g_iconst dX8_worn_31 ?_)
    refine g_icmp_gt 70 dX8_worn_32 rfl (by omega) (by omega) (fun c32 => ?_) (fun c32 => ?_)
    · skip
      refine g_iload_n dX8_worn_70 rfl rfl ?_
      exact g_iret dX8_worn_71 rfl rfl ⟨Nat.le_refl _, Nat.le_refl _⟩ (by obtain rfl : i = 4 := (by omega); exact ⟨_, rfl, hfr, Or.inr ⟨hok, rfl⟩⟩)
    · skip
      refine g_aload_n dX8_worn_35 rfl rfl (gf_X8_50 (M := mX8_worn) rfl dX8_worn_36 (yo9 hY) (yr9_7 hY) (g_iload_n dX8_worn_39 rfl rfl (pf_X8_136 (M := mX8_worn) rfl dX8_worn_40 (yo82 hY) (g_aload_n dX8_worn_43 rfl rfl (gf_X8_19 (M := mX8_worn) rfl dX8_worn_44 (yo9 hY) (yr9_1 hY) (g_iload_n dX8_worn_47 rfl rfl (g_aload_n dX8_worn_48 rfl rfl (gf_X8_50 (M := mX8_worn) rfl dX8_worn_49 (yo9 hY) (yr9_7 hY) (cv_X8_277 (M := mX8_worn) rfl dX8_worn_52 (ck_o hY clk12) (RO.same _ _ _) (Nat.le_of_ble_eq_true rfl) (e_X0_fits hY (Or.inl rfl) (yo82 hY) (CS_82 hf2 hS) (wo_fw hFf (by omega) he2).1 (wo_fw hFf (by omega) he2).2 (by omega)) <| kI ?_)))))))))
      rw [wo_fit hS hf2 he2]
      refine g_if_eq 64 dX8_worn_55 rfl (by omega) (fun c55 => ?_) (fun c55 => ?_)
      · skip
        refine g_inc3 dX8_worn_64 (by decide) rfl (g_goto 30 dX8_worn_67 rfl ?_)
        have hx := ih (m - 1) (by omega) _ (i + 1) _ (by omega) hok (by omega) hf2 he2
        first | (rw [wrn_f (P := (fun l => FitF h 12 (laF (c5 h (12 + 4 + f.toNat)) l) f)) (i := i) (fun z => by have := hpe.mpr z; omega)] at hx; exact hx) | (rw [wrn_t (P := (fun l => FitF h 12 (laF (c5 h (12 + 4 + f.toNat)) l) f)) (i := i) (hpe.mp (by omega))] at hx; exact hx)
      · skip
        refine g_iload_n dX8_worn_58 rfl rfl (g_iconst dX8_worn_59 (g_iload_n dX8_worn_60 rfl rfl (g_ishl dX8_worn_61 (g_ior dX8_worn_62 ?_))))
        rw [wo_or (by omega) (by omega)]
        refine g_ist2 dX8_worn_63 (by decide) rfl (g_inc3 dX8_worn_64 (by decide) rfl (g_goto 30 dX8_worn_67 rfl ?_))
        have hx := ih (m - 1) (by omega) _ (i + 1) _ (by omega) hok (by omega) hf2 he2
        first | (rw [wrn_f (P := (fun l => FitF h 12 (laF (c5 h (12 + 4 + f.toNat)) l) f)) (i := i) (fun z => by have := hpe.mpr z; omega)] at hx; exact hx) | (rw [wrn_t (P := (fun l => FitF h 12 (laF (c5 h (12 + 4 + f.toNat)) l) f)) (i := i) (hpe.mp (by omega))] at hx; exact hx)
  refine g_aload_n dX8_worn_0 rfl rfl (g_iload_n dX8_worn_1 rfl rfl (cv_X8_116 (M := mX8_worn) rfl dX8_worn_2 (yo9 hY) (RO.same _ _ _) (Nat.le_of_ble_eq_true rfl) (e_X8_isFigure hY (by omega) (by omega)) <| kI ?_))
  refine g_if_ne 10 dX8_worn_5 rfl (by omega) (fun c5 => ?_) (fun c5 => ?_)
  · skip
    have hFf := hC.2 f (by omega) (by omega)
    refine g_aload_n dX8_worn_10 rfl rfl (gf_X8_50 (M := mX8_worn) rfl dX8_worn_11 (yo9 hY) (yr9_7 hY) (g_aload_n dX8_worn_14 rfl rfl (gf_X8_19 (M := mX8_worn) rfl dX8_worn_15 (yo9 hY) (yr9_1 hY) (gf_X8_120 (M := mX8_worn) rfl dX8_worn_18 (ck_o hY clk12) (ck_r0 hY clk12) (g_iload_n dX8_worn_21 rfl rfl (g_aald dX8_worn_22 (ck_a0 hY clk12) (by decide) (D0 := "ClockTeeth$Figure") rfl ⟨by omega, by omega, by omega⟩ (ck_fr hY clk12 (by omega)) (cv_X8_246 (M := mX8_worn) rfl dX8_worn_23 (yo82 hY) (RO.same _ _ _) (Nat.le_of_ble_eq_true rfl) (e_X1_become (yo82 hY) (ck_fo hY clk12 (by omega))) <| kV (g_iconst dX8_worn_26 (g_ist2 dX8_worn_27 (by decide) rfl (g_iconst dX8_worn_28 (g_ist3 dX8_worn_29 (by decide) rfl ?_)))))))))))
    exact L30 4 _ 0 (h.I (12 + 4 + f.toNat) 3) (by omega) (by omega) (by omega) (Fr82_wr5 h _) (trl h (12 + 4 + f.toNat)).2.2.2.2.2
  · skip
    refine g_iconst dX8_worn_8 ?_
    exact g_iret dX8_worn_9 rfl rfl ⟨Nat.le_refl _, Nat.le_refl _⟩ (by exact ⟨-1, rfl, fun _ _ => ⟨rfl, rfl⟩, Or.inl ⟨by omega, rfl⟩⟩)
