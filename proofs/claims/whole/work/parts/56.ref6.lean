/-- two who come out by one door -/
def ClB (O : Nat → Prop) (D : Nat → Int) (n : Nat) : Prop := ∃ f g, f < g ∧ g < n ∧ O f ∧ O g ∧ D f = D g
theorem ClB_s {O : Nat → Prop} {D : Nat → Int} {n : Nat} : ClB O D (n + 1) ↔ ClB O D n ∨ (O n ∧ ∃ f, f < n ∧ O f ∧ D f = D n) := by
  constructor
  · rintro ⟨f, g, a, b, c, d, e⟩
    rcases (by omega : g < n ∨ g = n) with q | rfl
    · exact Or.inl ⟨f, g, a, q, c, d, e⟩
    · exact Or.inr ⟨d, f, a, c, e⟩
  · rintro (⟨f, g, a, b, c, d, e⟩ | ⟨d, f, a, c, e⟩)
    · exact ⟨f, g, a, by omega, c, d, e⟩
    · exact ⟨f, n, a, by omega, c, d, e⟩
theorem drs_bit {O : Nat → Prop} {D : Nat → Int} : ∀ n : Nat, (∀ i, i < n → 0 ≤ D i ∧ D i ≤ 8) → (∀ d : Nat, d < 9 → ((drs O D n).testBit d = true ↔ ∃ f, f < n ∧ O f ∧ D f = d)) ∧ ((drs O D n).testBit 9 = true ↔ ClB O D n)
  | 0, _ => ⟨fun d _ => by simp [drs], by
      constructor
      · intro z; simp [drs] at z
      · rintro ⟨f, g, a, b, _⟩; omega⟩
  | n + 1, h => by
    have ih := drs_bit (O := O) (D := D) n (fun i hi => h i (by omega))
    have hn := h n (by omega)
    by_cases z : O n
    · rw [drs_t z]
      unfold dst
      have i9 := ih.1 (D n).toNat (by omega)
      by_cases q : (drs O D n).testBit (D n).toNat = true
      · rw [if_pos q]
        obtain ⟨f, f1, f2, f3⟩ := i9.mp q
        refine ⟨fun d hd => ?_, ?_⟩
        · rw [Nat.testBit_or, show (512 : Nat) = 2 ^ 9 from rfl, Nat.testBit_two_pow]
          simp only [Bool.or_eq_true, decide_eq_true_eq]
          rw [ih.1 d hd]
          constructor
          · rintro (⟨g, g1, g2⟩ | e)
            · exact ⟨g, by omega, g2⟩
            · omega
          · rintro ⟨g, g1, g2, g3⟩
            rcases (by omega : g < n ∨ g = n) with w | rfl
            · exact Or.inl ⟨g, w, g2, g3⟩
            · exact Or.inl ⟨f, f1, f2, by omega⟩
        · rw [Nat.testBit_or, show (512 : Nat) = 2 ^ 9 from rfl, Nat.testBit_two_pow]
          simp only [Bool.or_eq_true, decide_eq_true_eq]
          exact ⟨fun _ => ClB_s.mpr (Or.inr ⟨z, f, f1, f2, by omega⟩), fun _ => Or.inr trivial⟩
      · rw [if_neg q]
        refine ⟨fun d hd => ?_, ?_⟩
        · rw [Nat.testBit_or, Nat.testBit_two_pow]
          simp only [Bool.or_eq_true, decide_eq_true_eq]
          rw [ih.1 d hd]
          constructor
          · rintro (⟨g, g1, g2⟩ | e)
            · exact ⟨g, by omega, g2⟩
            · exact ⟨n, by omega, z, by omega⟩
          · rintro ⟨g, g1, g2, g3⟩
            rcases (by omega : g < n ∨ g = n) with w | rfl
            · exact Or.inl ⟨g, w, g2, g3⟩
            · exact Or.inr (by omega)
        · rw [Nat.testBit_or, Nat.testBit_two_pow]
          simp only [Bool.or_eq_true, decide_eq_true_eq]
          rw [ih.2, ClB_s]
          constructor
          · rintro (e | e)
            · exact Or.inl e
            · omega
          · rintro (e | ⟨_, f, f1, f2, f3⟩)
            · exact Or.inl e
            · exact absurd (i9.mpr ⟨f, f1, f2, by omega⟩) q
    · rw [drs_f z]
      refine ⟨fun d hd => (ih.1 d hd).trans ⟨fun ⟨g, g1, g2⟩ => ⟨g, by omega, g2⟩, fun ⟨g, g1, g2, g3⟩ => ?_⟩, ih.2.trans (ClB_s.trans ⟨fun w => w.elim id (fun w => absurd w.1 z), Or.inl⟩).symm⟩
      rcases (by omega : g < n ∨ g = n) with w | rfl
      · exact ⟨g, w, g2, g3⟩
      · exact absurd g2 z
noncomputable def rdN (O : Nat → Prop) (D : Nat → Int) : Nat → Nat
  | 0 => 0
  | f + 1 => cnd (O f) (rdN O D f ||| 2 ^ (D f).toNat) (rdN O D f)
theorem rdN_bit {O : Nat → Prop} {D : Nat → Int} (d : Nat) : ∀ n : Nat, (rdN O D n).testBit d = true ↔ ∃ f, f < n ∧ O f ∧ (D f).toNat = d
  | 0 => by simp [rdN]
  | n + 1 => by
    have ih := rdN_bit (O := O) (D := D) d n
    unfold rdN
    by_cases z : O n
    · rw [cnd_t z, Nat.testBit_or, Nat.testBit_two_pow]
      simp only [Bool.or_eq_true, decide_eq_true_eq]
      rw [ih]
      constructor
      · rintro (⟨g, g1, g2⟩ | e)
        · exact ⟨g, by omega, g2⟩
        · exact ⟨n, by omega, z, e⟩
      · rintro ⟨g, g1, g2, g3⟩
        rcases (by omega : g < n ∨ g = n) with w | rfl
        · exact Or.inl ⟨g, w, g2, g3⟩
        · exact Or.inr g3
    · rw [cnd_f z, ih]
      constructor
      · rintro ⟨g, g1, g2⟩; exact ⟨g, by omega, g2⟩
      · rintro ⟨g, g1, g2, g3⟩
        rcases (by omega : g < n ∨ g = n) with w | rfl
        · exact ⟨g, w, g2, g3⟩
        · exact absurd g2 z
theorem rdN_bd {O : Nat → Prop} {D : Nat → Int} : ∀ n : Nat, (∀ i, i < n → 0 ≤ D i ∧ D i ≤ 8) → rdN O D n < 512
  | 0, _ => by simp [rdN]
  | n + 1, h => by
    have h1 := rdN_bd (O := O) (D := D) n (fun i hi => h i (by omega))
    have h2 := h n (by omega)
    unfold rdN
    by_cases z : O n
    · rw [cnd_t z]; exact Nat.or_lt_two_pow (n := 9) h1 (Nat.pow_lt_pow_right (by decide) (by omega))
    · rw [cnd_f z]; exact h1
abbrev oF (F : Nat → Fg) (t : Int) : Nat → Prop := fun i => OutF (F i) t
abbrev dF (F : Nat → Fg) (sd sf s2 t : Int) : Nat → Int := fun i => dorS (F i).dr sd sf s2 (dyo t)
def wS (h : HM) (a b c : Int) : HM := ((h.sI 151 68 a).sI 151 69 b).sI 151 70 c
theorem pI_r (P : Prop) : R32 (pI P) := by rcases pI_01 P with q | q <;> rw [q] <;> decide
theorem pI_ne {P : Prop} (h : ¬ pI P = 0) : P := pI_eq1.mp ((pI_01 P).resolve_left h)
theorem p2_8 {n : Nat} (h : n ≤ 8) : (2 : Int) ^ n ≤ 256 := by
  rcases (by omega : n = 0 ∨ n = 1 ∨ n = 2 ∨ n = 3 ∨ n = 4 ∨ n = 5 ∨ n = 6 ∨ n = 7 ∨ n = 8) with rfl | rfl | rfl | rfl | rfl | rfl | rfl | rfl | rfl <;> decide
set_option maxRecDepth 100000 in
set_option maxHeartbeats 1000000 in
theorem e_X9_ofFour {G : GX} {y : LY} {h : HM} {d : Nat} {t : Int} (ht : 0 ≤ t ∧ t ≤ 2000000000000) : EvI G mX9_ofFour (d) [.long (lZ t)] y h ((if t % 1461 < 366 then 0 else 1 + (t % 1461 - 366) / 365)) := by
  refine Ev.of rfl [some (.long (lZ t)), none, none] rfl (Nat.le_of_ble_eq_true rfl) ?_
  refine g_lload_n dX9_ofFour_0 rfl rfl (c2_X9_248 (M := mX9_ofFour) rfl dX9_ofFour_1 (g_lremP dX9_ofFour_4 (by omega) (by omega) (g_l2i dX9_ofFour_5 (g_ist2 dX9_ofFour_6 (by decide) rfl (g_iload_n dX9_ofFour_7 rfl rfl (g_sipush dX9_ofFour_8 ks366 ?_))))))
  refine g_icmp_ge 18 dX9_ofFour_11 rfl (by omega) (by omega) (fun c11 => ?_) (fun c11 => ?_)
  · skip
    refine g_iconst dX9_ofFour_18 (g_iload_n dX9_ofFour_19 rfl rfl (g_sipush dX9_ofFour_20 ks366 (g_isub dX9_ofFour_23 (g_sipush dX9_ofFour_24 ks365 (g_idivP dX9_ofFour_27 (by omega) (by omega) (g_iadd dX9_ofFour_28 ?_))))))
    exact g_iret dX9_ofFour_29 rfl rfl ⟨Nat.le_refl _, Nat.le_refl _⟩ (by first | exact ⟨someI (by rw [if_pos (by omega)]), rfl⟩ | exact ⟨someI (by rw [if_neg (by omega)]), rfl⟩)
  · skip
    refine g_iconst dX9_ofFour_14 (g_goto 29 dX9_ofFour_15 rfl ?_)
    exact g_iret dX9_ofFour_29 rfl rfl ⟨Nat.le_refl _, Nat.le_refl _⟩ (by first | exact ⟨someI (by rw [if_pos (by omega)]), rfl⟩ | exact ⟨someI (by rw [if_neg (by omega)]), rfl⟩)
set_option maxRecDepth 100000 in
set_option maxHeartbeats 1000000 in
theorem e_X9_dayOf {G : GX} {y : LY} {h : HM} {d : Nat} {t : Int} (ht : 0 ≤ t ∧ t ≤ 2000000000000) : EvI G mX9_dayOf (d) [.long (lZ t)] y h (dyo t) := by
  refine Ev.of rfl [some (.long (lZ t)), none, none] rfl (Nat.le_of_ble_eq_true rfl) ?_
  refine g_lload_n dX9_dayOf_0 rfl rfl (c2_X9_248 (M := mX9_dayOf) rfl dX9_dayOf_1 (g_lremP dX9_dayOf_4 (by omega) (by omega) (g_l2i dX9_dayOf_5 (g_ist2 dX9_dayOf_6 (by decide) rfl (g_iload_n dX9_dayOf_7 rfl rfl (g_sipush dX9_dayOf_8 ks366 ?_))))))
  refine g_icmp_ge 18 dX9_dayOf_11 rfl (by omega) (by omega) (fun c11 => ?_) (fun c11 => ?_)
  · skip
    refine g_iload_n dX9_dayOf_18 rfl rfl (g_sipush dX9_dayOf_19 ks366 (g_isub dX9_dayOf_22 (g_sipush dX9_dayOf_23 ks365 (g_iremP dX9_dayOf_26 (by omega) (by omega) ?_))))
    exact g_iret dX9_dayOf_27 rfl rfl ⟨Nat.le_refl _, Nat.le_refl _⟩ (by unfold dyo; first | exact ⟨someI (by rw [if_pos (by omega)]), rfl⟩ | exact ⟨someI (by rw [if_neg (by omega)]), rfl⟩)
  · skip
    refine g_iload_n dX9_dayOf_14 rfl rfl (g_goto 27 dX9_dayOf_15 rfl ?_)
    exact g_iret dX9_dayOf_27 rfl rfl ⟨Nat.le_refl _, Nat.le_refl _⟩ (by unfold dyo; first | exact ⟨someI (by rw [if_pos (by omega)]), rfl⟩ | exact ⟨someI (by rw [if_neg (by omega)]), rfl⟩)
set_option maxRecDepth 100000 in
set_option maxHeartbeats 1000000 in
theorem e_X9_date {G : GX} {y : LY} {h : HM} {d : Nat} (hY : Lay y) {t w : Int} (ht : R64 t) (hw : R32 w) : EvL G mX9_date (d + 2) [.ref 150, .long (lZ t), .int (iZ w)] y h (sp_date t w) := by
  have hpt := pI_01 (0 ≤ t ∧ t ≤ 1000000000000)
  have hpu := pI_eq1 (P := 0 ≤ t ∧ t ≤ 1000000000000)
  have hzw := pI_01 (0 ≤ w ∧ w ≤ 1)
  have hyw := pI_eq1 (P := 0 ≤ w ∧ w ≤ 1)
  have hdb := dyo_bd (t := t)
  refine Ev.of rfl [some (.ref 150), some (.long (lZ t)), none, some (.int (iZ w))] rfl (Nat.le_of_ble_eq_true rfl) ?_
  refine g_lload_n dX9_date_0 rfl rfl (cv_X9_165 (M := mX9_date) rfl dX9_date_1 (RO.same _ _ _) (Nat.le_of_ble_eq_true rfl) (e_X9_isDay (by omega)) <| kI ?_)
  refine g_if_eq 17 dX9_date_4 rfl (by omega) (fun c4 => ?_) (fun c4 => ?_)
  · skip
    refine c2_X9_177 (M := mX9_date) rfl dX9_date_17 ?_
    exact g_lret dX9_date_20 rfl rfl ⟨Nat.le_refl _, Nat.le_refl _⟩ (by unfold sp_date; first | exact ⟨someL (by rw [if_pos (by omega)]), rfl⟩ | exact ⟨someL (by rw [if_neg (by omega), if_neg (by omega)]), rfl⟩ | (refine ⟨someL ?_, rfl⟩; by_cases c4 : t % 1461 < 366; (rw [if_pos c4, if_neg (by omega), if_pos (by omega)]; unfold yro; rw [if_pos c4]; omega); (rw [if_neg c4, if_neg (by omega), if_pos (by omega)]; unfold yro; rw [if_neg c4]; omega)))
  · skip
    refine g_iload_n dX9_date_7 rfl rfl (g_i2l dX9_date_8 (by omega) (g_lconst (v := 0) dX9_date_9 rfl (g_lconst (v := 1) dX9_date_10 rfl (cv_X9_71 (M := mX9_date) rfl dX9_date_11 (RO.same _ _ _) (Nat.le_of_ble_eq_true rfl) (e_X9_in (by omega) (by omega) (by omega)) <| kI ?_))))
    refine g_if_ne 21 dX9_date_14 rfl (by omega) (fun c14 => ?_) (fun c14 => ?_)
    · skip
      refine g_iload_n dX9_date_21 rfl rfl ?_
      refine g_if_ne 43 dX9_date_22 rfl (by omega) (fun c22 => ?_) (fun c22 => ?_)
      · skip
        refine g_lload_n dX9_date_43 rfl rfl (cv_X9_254 (M := mX9_date) rfl dX9_date_44 (RO.same _ _ _) (Nat.le_of_ble_eq_true rfl) (e_X9_dayOf (by omega)) <| kI (g_i2l dX9_date_47 (by omega) ?_))
        exact g_lret dX9_date_48 rfl rfl ⟨Nat.le_refl _, Nat.le_refl _⟩ (by unfold sp_date; first | exact ⟨someL (by rw [if_pos (by omega)]), rfl⟩ | exact ⟨someL (by rw [if_neg (by omega), if_neg (by omega)]), rfl⟩ | (refine ⟨someL ?_, rfl⟩; by_cases c4 : t % 1461 < 366; (rw [if_pos c4, if_neg (by omega), if_pos (by omega)]; unfold yro; rw [if_pos c4]; omega); (rw [if_neg c4, if_neg (by omega), if_pos (by omega)]; unfold yro; rw [if_neg c4]; omega)))
      · skip
        refine c2_X9_155 (M := mX9_date) rfl dX9_date_25 (g_lload_n dX9_date_28 rfl rfl (c2_X9_248 (M := mX9_date) rfl dX9_date_29 (g_ldivP dX9_date_32 (by omega) (by omega) (g_lmul dX9_date_33 (g_lload_n dX9_date_34 rfl rfl (cv_X9_250 (M := mX9_date) rfl dX9_date_35 (RO.same _ _ _) (Nat.le_of_ble_eq_true rfl) (e_X9_ofFour (by omega)) <| kI (g_i2l dX9_date_38 (by split <;> omega) (g_ladd dX9_date_39 (g_goto 48 dX9_date_40 rfl ?_)))))))))
        exact g_lret dX9_date_48 rfl rfl ⟨Nat.le_refl _, Nat.le_refl _⟩ (by unfold sp_date; first | exact ⟨someL (by rw [if_pos (by omega)]), rfl⟩ | exact ⟨someL (by rw [if_neg (by omega), if_neg (by omega)]), rfl⟩ | (refine ⟨someL ?_, rfl⟩; by_cases c4 : t % 1461 < 366; (rw [if_pos c4, if_neg (by omega), if_pos (by omega)]; unfold yro; rw [if_pos c4]; omega); (rw [if_neg c4, if_neg (by omega), if_pos (by omega)]; unfold yro; rw [if_neg c4]; omega)))
    · skip
      refine c2_X9_177 (M := mX9_date) rfl dX9_date_17 ?_
      exact g_lret dX9_date_20 rfl rfl ⟨Nat.le_refl _, Nat.le_refl _⟩ (by unfold sp_date; first | exact ⟨someL (by rw [if_pos (by omega)]), rfl⟩ | exact ⟨someL (by rw [if_neg (by omega), if_neg (by omega)]), rfl⟩ | (refine ⟨someL ?_, rfl⟩; by_cases c4 : t % 1461 < 366; (rw [if_pos c4, if_neg (by omega), if_pos (by omega)]; unfold yro; rw [if_pos c4]; omega); (rw [if_neg c4, if_neg (by omega), if_pos (by omega)]; unfold yro; rw [if_neg c4]; omega)))
set_option maxRecDepth 100000 in
set_option maxHeartbeats 1000000 in
theorem e_X9_day {G : GX} {y : LY} {h : HM} {d : Nat} (hY : Lay y) {a d_ : Int} (ha : R32 a) (hd : R32 d_) : EvL G mX9_day (d + 1) [.ref 150, .int (iZ a), .int (iZ d_)] y h (sp_day a d_) := by
  have hza := pI_01 (0 ≤ a ∧ a ≤ 9999)
  have hya := pI_eq1 (P := 0 ≤ a ∧ a ≤ 9999)
  have hzq := pI_01 (0 ≤ d_ ∧ d_ ≤ 365)
  have hyq := pI_eq1 (P := 0 ≤ d_ ∧ d_ ≤ 365)
  have hzr := pI_01 (0 ≤ d_ ∧ d_ ≤ 364)
  have hyr := pI_eq1 (P := 0 ≤ d_ ∧ d_ ≤ 364)
  refine Ev.of rfl [some (.ref 150), some (.int (iZ a)), some (.int (iZ d_)), none] rfl (Nat.le_of_ble_eq_true rfl) ?_
  refine g_iload_n dX9_day_0 rfl rfl (g_i2l dX9_day_1 (by omega) (g_lconst (v := 0) dX9_day_2 rfl (c2_X9_257 (M := mX9_day) rfl dX9_day_3 (cv_X9_71 (M := mX9_day) rfl dX9_day_6 (RO.same _ _ _) (Nat.le_of_ble_eq_true rfl) (e_X9_in (by omega) (by omega) (by omega)) <| kI ?_))))
  refine g_if_eq 36 dX9_day_9 rfl (by omega) (fun c9 => ?_) (fun c9 => ?_)
  · skip
    refine c2_X9_177 (M := mX9_day) rfl dX9_day_36 ?_
    exact g_lret dX9_day_39 rfl rfl ⟨Nat.le_refl _, Nat.le_refl _⟩ (by unfold sp_day; by_cases c4 : a % 4 = 0; all_goals (first | rw [if_pos c4] | rw [if_neg c4]); all_goals first | (exfalso; omega) | exact ⟨someL (by rw [if_pos (by omega)]), rfl⟩ | exact ⟨someL (by rw [if_neg (by omega)]; omega), rfl⟩)
  · skip
    refine g_iload_n dX9_day_12 rfl rfl (g_i2l dX9_day_13 (by omega) (g_lconst (v := 0) dX9_day_14 rfl (g_iload_n dX9_day_15 rfl rfl (g_iconst dX9_day_16 (g_iremP dX9_day_17 (by omega) (by omega) ?_)))))
    refine g_if_ne 27 dX9_day_18 rfl (by omega) (fun c18 => ?_) (fun c18 => ?_)
    · skip
      refine c2_X9_261 (M := mX9_day) rfl dX9_day_27 (cv_X9_71 (M := mX9_day) rfl dX9_day_30 (RO.same _ _ _) (Nat.le_of_ble_eq_true rfl) (e_X9_in (by omega) (by omega) (by omega)) <| kI ?_)
      refine g_if_ne 40 dX9_day_33 rfl (by omega) (fun c33 => ?_) (fun c33 => ?_)
      · skip
        refine g_iload_n dX9_day_40 rfl rfl (g_iconst dX9_day_41 (g_iremP dX9_day_42 (by omega) (by omega) (g_ist3 dX9_day_43 (by decide) rfl (c2_X9_248 (M := mX9_day) rfl dX9_day_44 (g_iload_n dX9_day_47 rfl rfl (g_iconst dX9_day_48 (g_idivP dX9_day_49 (by omega) (by omega) (g_i2l dX9_day_50 (by omega) (g_lmul dX9_day_51 (g_iload_n dX9_day_52 rfl rfl ?_))))))))))
        refine g_if_ne 60 dX9_day_53 rfl (by omega) (fun c53 => ?_) (fun c53 => ?_)
        · skip
          refine g_sipush dX9_day_60 ks366 (g_sipush dX9_day_63 ks365 (g_iload_n dX9_day_66 rfl rfl (g_iconst dX9_day_67 (g_isub dX9_day_68 (g_imul dX9_day_69 (g_iadd dX9_day_70 (g_i2l dX9_day_71 (by omega) (g_ladd dX9_day_72 (g_iload_n dX9_day_73 rfl rfl (g_i2l dX9_day_74 (by omega) (g_ladd dX9_day_75 ?_)))))))))))
          exact g_lret dX9_day_76 rfl rfl ⟨Nat.le_refl _, Nat.le_refl _⟩ (by unfold sp_day; by_cases c4 : a % 4 = 0; all_goals (first | rw [if_pos c4] | rw [if_neg c4]); all_goals first | (exfalso; omega) | exact ⟨someL (by rw [if_pos (by omega)]), rfl⟩ | exact ⟨someL (by rw [if_neg (by omega)]; omega), rfl⟩)
        · skip
          refine g_iconst dX9_day_56 (g_goto 71 dX9_day_57 rfl (g_i2l dX9_day_71 (by omega) (g_ladd dX9_day_72 (g_iload_n dX9_day_73 rfl rfl (g_i2l dX9_day_74 (by omega) (g_ladd dX9_day_75 ?_))))))
          exact g_lret dX9_day_76 rfl rfl ⟨Nat.le_refl _, Nat.le_refl _⟩ (by unfold sp_day; by_cases c4 : a % 4 = 0; all_goals (first | rw [if_pos c4] | rw [if_neg c4]); all_goals first | (exfalso; omega) | exact ⟨someL (by rw [if_pos (by omega)]), rfl⟩ | exact ⟨someL (by rw [if_neg (by omega)]; omega), rfl⟩)
      · skip
        refine c2_X9_177 (M := mX9_day) rfl dX9_day_36 ?_
        exact g_lret dX9_day_39 rfl rfl ⟨Nat.le_refl _, Nat.le_refl _⟩ (by unfold sp_day; by_cases c4 : a % 4 = 0; all_goals (first | rw [if_pos c4] | rw [if_neg c4]); all_goals first | (exfalso; omega) | exact ⟨someL (by rw [if_pos (by omega)]), rfl⟩ | exact ⟨someL (by rw [if_neg (by omega)]; omega), rfl⟩)
    · skip
      refine c2_X9_259 (M := mX9_day) rfl dX9_day_21 (g_goto 30 dX9_day_24 rfl (cv_X9_71 (M := mX9_day) rfl dX9_day_30 (RO.same _ _ _) (Nat.le_of_ble_eq_true rfl) (e_X9_in (by omega) (by omega) (by omega)) <| kI ?_))
      refine g_if_ne 40 dX9_day_33 rfl (by omega) (fun c33 => ?_) (fun c33 => ?_)
      · skip
        refine g_iload_n dX9_day_40 rfl rfl (g_iconst dX9_day_41 (g_iremP dX9_day_42 (by omega) (by omega) (g_ist3 dX9_day_43 (by decide) rfl (c2_X9_248 (M := mX9_day) rfl dX9_day_44 (g_iload_n dX9_day_47 rfl rfl (g_iconst dX9_day_48 (g_idivP dX9_day_49 (by omega) (by omega) (g_i2l dX9_day_50 (by omega) (g_lmul dX9_day_51 (g_iload_n dX9_day_52 rfl rfl ?_))))))))))
        refine g_if_ne 60 dX9_day_53 rfl (by omega) (fun c53 => ?_) (fun c53 => ?_)
        · skip
          refine g_sipush dX9_day_60 ks366 (g_sipush dX9_day_63 ks365 (g_iload_n dX9_day_66 rfl rfl (g_iconst dX9_day_67 (g_isub dX9_day_68 (g_imul dX9_day_69 (g_iadd dX9_day_70 (g_i2l dX9_day_71 (by omega) (g_ladd dX9_day_72 (g_iload_n dX9_day_73 rfl rfl (g_i2l dX9_day_74 (by omega) (g_ladd dX9_day_75 ?_)))))))))))
          exact g_lret dX9_day_76 rfl rfl ⟨Nat.le_refl _, Nat.le_refl _⟩ (by unfold sp_day; by_cases c4 : a % 4 = 0; all_goals (first | rw [if_pos c4] | rw [if_neg c4]); all_goals first | (exfalso; omega) | exact ⟨someL (by rw [if_pos (by omega)]), rfl⟩ | exact ⟨someL (by rw [if_neg (by omega)]; omega), rfl⟩)
        · skip
          refine g_iconst dX9_day_56 (g_goto 71 dX9_day_57 rfl (g_i2l dX9_day_71 (by omega) (g_ladd dX9_day_72 (g_iload_n dX9_day_73 rfl rfl (g_i2l dX9_day_74 (by omega) (g_ladd dX9_day_75 ?_))))))
          exact g_lret dX9_day_76 rfl rfl ⟨Nat.le_refl _, Nat.le_refl _⟩ (by unfold sp_day; by_cases c4 : a % 4 = 0; all_goals (first | rw [if_pos c4] | rw [if_neg c4]); all_goals first | (exfalso; omega) | exact ⟨someL (by rw [if_pos (by omega)]), rfl⟩ | exact ⟨someL (by rw [if_neg (by omega)]; omega), rfl⟩)
      · skip
        refine c2_X9_177 (M := mX9_day) rfl dX9_day_36 ?_
        exact g_lret dX9_day_39 rfl rfl ⟨Nat.le_refl _, Nat.le_refl _⟩ (by unfold sp_day; by_cases c4 : a % 4 = 0; all_goals (first | rw [if_pos c4] | rw [if_neg c4]); all_goals first | (exfalso; omega) | exact ⟨someL (by rw [if_pos (by omega)]), rfl⟩ | exact ⟨someL (by rw [if_neg (by omega)]; omega), rfl⟩)
set_option maxRecDepth 100000 in
set_option maxHeartbeats 1000000 in
theorem e_X9_doorOn {G : GX} {y : LY} {h : HM} {d : Nat} (hY : Lay y) {f : Int} {X : Fg} (hf : 0 ≤ f ∧ f ≤ 5) (hF : RFg h f X) (hB : FgB X) (h6 : R32 (h.I 151 68)) (h7 : R32 (h.I 151 69)) (h8 : R32 (h.I 151 70)) {t : Int} (ht : 0 ≤ t ∧ t ≤ 2000000000000) : EvI G mX9_doorOn (d + 1) [.ref 150, .int (iZ f), .long (lZ t)] y h (dorS X.dr (h.I 151 68) (h.I 151 69) (h.I 151 70) (dyo t)) := by
  have hk := kR hB.1
  have hbw := rn_bd hB.1
  have hBB := hB
  have hdb := dyo_bd (t := t)
  have hzs := pI_01 (h.I 151 69 ≤ dyo t ∧ dyo t ≤ h.I 151 70)
  have hys := pI_eq1 (P := h.I 151 69 ≤ dyo t ∧ dyo t ≤ h.I 151 70)
  refine Ev.of rfl [some (.ref 150), some (.int (iZ f)), some (.long (lZ t)), none, none, none] rfl (Nat.le_of_ble_eq_true rfl) ?_
  refine g_aload_n dX9_doorOn_0 rfl rfl (g_iload_n dX9_doorOn_1 rfl rfl (g_iconst dX9_doorOn_2 (cv_X9_143 (M := mX9_doorOn) rfl dX9_doorOn_3 (yo150 hY) (RO.same _ _ _) (Nat.le_of_ble_eq_true rfl) (e_of3 hY hf hF) <| kI (g_ist4 dX9_doorOn_6 (by decide) rfl (g_aload_n dX9_doorOn_8 rfl rfl (gf_X9_7 (M := mX9_doorOn) rfl dX9_doorOn_9 (yo150 hY) (yr150_0 hY) (g_bipush dX9_doorOn_12 kb68 (g_iaN 68 dX9_doorOn_14 (ya151 hY) ⟨by decide, by decide, by decide⟩ rfl (g_iload dX9_doorOn_15 rfl ?_)))))))))
  refine g_icmp_ne 51 dX9_doorOn_17 rfl (by omega) (by omega) (fun c17 => ?_) (fun c17 => ?_)
  · skip
    refine g_iconst dX9_doorOn_51 (g_ist5 dX9_doorOn_52 (by decide) rfl (g_iload dX9_doorOn_54 rfl ?_))
    refine g_if_eq 69 dX9_doorOn_56 rfl (by omega) (fun c56 => ?_) (fun c56 => ?_)
    · skip
      refine g_iload dX9_doorOn_69 rfl ?_
      exact g_iret dX9_doorOn_71 rfl rfl ⟨Nat.le_refl _, Nat.le_refl _⟩ (by unfold dorS; first | (exfalso; omega) | exact ⟨someI (by rw [if_pos (by omega)]), rfl⟩ | (refine ⟨someI ?_, rfl⟩; rw [if_neg (by omega)]; by_cases c8 : X.dr < 8; (rw [if_pos c8]; omega); (rw [if_neg c8]; omega)))
    · skip
      refine g_iload dX9_doorOn_59 rfl (g_iconst dX9_doorOn_61 (g_iadd dX9_doorOn_62 (g_bipush dX9_doorOn_63 kb9 (g_iremP dX9_doorOn_65 (by omega) (by omega) (g_goto 71 dX9_doorOn_66 rfl ?_)))))
      exact g_iret dX9_doorOn_71 rfl rfl ⟨Nat.le_refl _, Nat.le_refl _⟩ (by unfold dorS; first | (exfalso; omega) | exact ⟨someI (by rw [if_pos (by omega)]), rfl⟩ | (refine ⟨someI ?_, rfl⟩; rw [if_neg (by omega)]; by_cases c8 : X.dr < 8; (rw [if_pos c8]; omega); (rw [if_neg c8]; omega)))
  · skip
    refine g_lload_n dX9_doorOn_20 rfl rfl (cv_X9_254 (M := mX9_doorOn) rfl dX9_doorOn_21 (RO.same _ _ _) (Nat.le_of_ble_eq_true rfl) (e_X9_dayOf (by omega)) <| kI (g_i2l dX9_doorOn_24 (by omega) (g_aload_n dX9_doorOn_25 rfl rfl (gf_X9_7 (M := mX9_doorOn) rfl dX9_doorOn_26 (yo150 hY) (yr150_0 hY) (g_bipush dX9_doorOn_29 kb69 (g_iaN 69 dX9_doorOn_31 (ya151 hY) ⟨by decide, by decide, by decide⟩ rfl (g_i2l dX9_doorOn_32 (by omega) (g_aload_n dX9_doorOn_33 rfl rfl (gf_X9_7 (M := mX9_doorOn) rfl dX9_doorOn_34 (yo150 hY) (yr150_0 hY) (g_bipush dX9_doorOn_37 kb70 (g_iaN 70 dX9_doorOn_39 (ya151 hY) ⟨by decide, by decide, by decide⟩ rfl ?_)))))))))))
    refine g_i2l dX9_doorOn_40 (by omega) (cv_X9_71 (M := mX9_doorOn) rfl dX9_doorOn_41 (RO.same _ _ _) (Nat.le_of_ble_eq_true rfl) (e_X9_in (by omega) (by omega) (by omega)) <| kI ?_)
    refine g_if_eq 51 dX9_doorOn_44 rfl (by omega) (fun c44 => ?_) (fun c44 => ?_)
    · skip
      refine g_iconst dX9_doorOn_51 (g_ist5 dX9_doorOn_52 (by decide) rfl (g_iload dX9_doorOn_54 rfl ?_))
      refine g_if_eq 69 dX9_doorOn_56 rfl (by omega) (fun c56 => ?_) (fun c56 => ?_)
      · skip
        refine g_iload dX9_doorOn_69 rfl ?_
        exact g_iret dX9_doorOn_71 rfl rfl ⟨Nat.le_refl _, Nat.le_refl _⟩ (by unfold dorS; first | (exfalso; omega) | exact ⟨someI (by rw [if_pos (by omega)]), rfl⟩ | (refine ⟨someI ?_, rfl⟩; rw [if_neg (by omega)]; by_cases c8 : X.dr < 8; (rw [if_pos c8]; omega); (rw [if_neg c8]; omega)))
      · skip
        refine g_iload dX9_doorOn_59 rfl (g_iconst dX9_doorOn_61 (g_iadd dX9_doorOn_62 (g_bipush dX9_doorOn_63 kb9 (g_iremP dX9_doorOn_65 (by omega) (by omega) (g_goto 71 dX9_doorOn_66 rfl ?_)))))
        exact g_iret dX9_doorOn_71 rfl rfl ⟨Nat.le_refl _, Nat.le_refl _⟩ (by unfold dorS; first | (exfalso; omega) | exact ⟨someI (by rw [if_pos (by omega)]), rfl⟩ | (refine ⟨someI ?_, rfl⟩; rw [if_neg (by omega)]; by_cases c8 : X.dr < 8; (rw [if_pos c8]; omega); (rw [if_neg c8]; omega)))
    · skip
      refine g_iconst dX9_doorOn_47 (g_goto 52 dX9_doorOn_48 rfl (g_ist5 dX9_doorOn_52 (by decide) rfl (g_iload dX9_doorOn_54 rfl ?_)))
      refine g_if_eq 69 dX9_doorOn_56 rfl (by omega) (fun c56 => ?_) (fun c56 => ?_)
      · skip
        refine g_iload dX9_doorOn_69 rfl ?_
        exact g_iret dX9_doorOn_71 rfl rfl ⟨Nat.le_refl _, Nat.le_refl _⟩ (by unfold dorS; first | (exfalso; omega) | exact ⟨someI (by rw [if_pos (by omega)]), rfl⟩ | (refine ⟨someI ?_, rfl⟩; rw [if_neg (by omega)]; by_cases c8 : X.dr < 8; (rw [if_pos c8]; omega); (rw [if_neg c8]; omega)))
      · skip
        refine g_iload dX9_doorOn_59 rfl (g_iconst dX9_doorOn_61 (g_iadd dX9_doorOn_62 (g_bipush dX9_doorOn_63 kb9 (g_iremP dX9_doorOn_65 (by omega) (by omega) (g_goto 71 dX9_doorOn_66 rfl ?_)))))
        exact g_iret dX9_doorOn_71 rfl rfl ⟨Nat.le_refl _, Nat.le_refl _⟩ (by unfold dorS; first | (exfalso; omega) | exact ⟨someI (by rw [if_pos (by omega)]), rfl⟩ | (refine ⟨someI ?_, rfl⟩; rw [if_neg (by omega)]; by_cases c8 : X.dr < 8; (rw [if_pos c8]; omega); (rw [if_neg c8]; omega)))
set_option maxRecDepth 100000 in
set_option maxHeartbeats 1000000 in
theorem e_X9_by {G : GX} {y : LY} {h : HM} {d : Nat} (hY : Lay y) {F : Nat → Fg} (hR : RF h F) (h6 : R32 (h.I 151 68)) (h7 : R32 (h.I 151 69)) (h8 : R32 (h.I 151 70)) {f t : Int} (hf : R32 f) (ht : R64 t) : EvI G mX9_by (d + 4) [.ref 150, .int (iZ f), .long (lZ t)] y h (sp_by (h.I 151 0) (F f.toNat) (h.I 151 68) (h.I 151 69) (h.I 151 70) f t) := by
  have hnf := hR.1
  have hpf := pI_01 (0 ≤ f ∧ f < h.I 151 0)
  have hpe := pI_eq1 (P := 0 ≤ f ∧ f < h.I 151 0)
  have hpt := pI_01 (0 ≤ t ∧ t ≤ 1000000000000)
  have hpu := pI_eq1 (P := 0 ≤ t ∧ t ≤ 1000000000000)
  have hpo := pI_01 (OutF (F f.toNat) t)
  refine Ev.of rfl [some (.ref 150), some (.int (iZ f)), some (.long (lZ t)), none] rfl (Nat.le_of_ble_eq_true rfl) ?_
  refine g_aload_n dX9_by_0 rfl rfl (g_iload_n dX9_by_1 rfl rfl (cv_X9_146 (M := mX9_by) rfl dX9_by_2 (yo150 hY) (RO.same _ _ _) (Nat.le_of_ble_eq_true rfl) (e_X9_isFigure hY (by omega) (by omega)) <| kI ?_))
  refine g_if_eq 15 dX9_by_5 rfl (by omega) (fun c5 => ?_) (fun c5 => ?_)
  · skip
    refine g_iconst dX9_by_15 (g_goto 39 dX9_by_16 rfl ?_)
    exact g_iret dX9_by_39 rfl rfl ⟨Nat.le_refl _, Nat.le_refl _⟩ (by unfold sp_by; first | exact ⟨someI (by rw [if_pos (by omega)]), rfl⟩ | exact ⟨someI (by rw [if_neg (by omega), if_pos (by omega)]), rfl⟩ | exact ⟨someI (by rw [if_neg (by omega), if_neg (by omega)]), rfl⟩)
  · skip
    refine g_lload_n dX9_by_8 rfl rfl (cv_X9_165 (M := mX9_by) rfl dX9_by_9 (RO.same _ _ _) (Nat.le_of_ble_eq_true rfl) (e_X9_isDay (by omega)) <| kI ?_)
    refine g_if_ne 19 dX9_by_12 rfl (by omega) (fun c12 => ?_) (fun c12 => ?_)
    · skip
      have hFf := hR.2 f (by omega) (by omega)
      have hfb : 0 ≤ f ∧ f ≤ 5 := by omega
      refine g_aload_n dX9_by_19 rfl rfl (g_iload_n dX9_by_20 rfl rfl (g_lload_n dX9_by_21 rfl rfl (cv_X9_169 (M := mX9_by) rfl dX9_by_22 (yo150 hY) (RO.same _ _ _) (Nat.le_of_ble_eq_true rfl) (e_X9_isOut hY hfb hFf.1 hFf.2 (by omega)) <| kI ?_)))
      refine g_if_eq 37 dX9_by_25 rfl (by omega) (fun c25 => ?_) (fun c25 => ?_)
      · skip
        refine g_bipush dX9_by_37 kbm4 ?_
        exact g_iret dX9_by_39 rfl rfl ⟨Nat.le_refl _, Nat.le_refl _⟩ (by unfold sp_by; first | exact ⟨someI (by rw [if_pos (by omega)]), rfl⟩ | exact ⟨someI (by rw [if_neg (by omega), if_pos (by omega)]), rfl⟩ | exact ⟨someI (by rw [if_neg (by omega), if_neg (by omega)]), rfl⟩)
      · skip
        refine g_aload_n dX9_by_28 rfl rfl (g_iload_n dX9_by_29 rfl rfl (g_lload_n dX9_by_30 rfl rfl (cv_X9_263 (M := mX9_by) rfl dX9_by_31 (yo150 hY) (RO.same _ _ _) (Nat.le_of_ble_eq_true rfl) (e_X9_doorOn hY hfb hFf.1 hFf.2 h6 h7 h8 (by omega)) <| kI (g_goto 39 dX9_by_34 rfl ?_))))
        exact g_iret dX9_by_39 rfl rfl ⟨Nat.le_refl _, Nat.le_refl _⟩ (by unfold sp_by; first | exact ⟨someI (by rw [if_pos (by omega)]), rfl⟩ | exact ⟨someI (by rw [if_neg (by omega), if_pos (by omega)]), rfl⟩ | exact ⟨someI (by rw [if_neg (by omega), if_neg (by omega)]), rfl⟩)
    · skip
      refine g_iconst dX9_by_15 (g_goto 39 dX9_by_16 rfl ?_)
      exact g_iret dX9_by_39 rfl rfl ⟨Nat.le_refl _, Nat.le_refl _⟩ (by unfold sp_by; first | exact ⟨someI (by rw [if_pos (by omega)]), rfl⟩ | exact ⟨someI (by rw [if_neg (by omega), if_pos (by omega)]), rfl⟩ | exact ⟨someI (by rw [if_neg (by omega), if_neg (by omega)]), rfl⟩)
set_option maxRecDepth 100000 in
set_option maxHeartbeats 1000000 in
theorem e_X9_areMany {G : GX} {y : LY} {h : HM} {d : Nat} {t n : Int} (ht : R64 t) (hn : R32 n) : EvI G mX9_areMany (d + 2) [.long (lZ t), .int (iZ n)] y h (pI ((0 ≤ t ∧ t ≤ 1000000000000) ∧ (1 ≤ n ∧ n ≤ 400))) := by
  have hpt := pI_01 (0 ≤ t ∧ t ≤ 1000000000000)
  have hpu := pI_eq1 (P := 0 ≤ t ∧ t ≤ 1000000000000)
  have hzn := pI_01 (1 ≤ n ∧ n ≤ 400)
  have hyn := pI_eq1 (P := 1 ≤ n ∧ n ≤ 400)
  refine Ev.of rfl [some (.long (lZ t)), none, some (.int (iZ n))] rfl (Nat.le_of_ble_eq_true rfl) ?_
  refine g_lload_n dX9_areMany_0 rfl rfl (cv_X9_165 (M := mX9_areMany) rfl dX9_areMany_1 (RO.same _ _ _) (Nat.le_of_ble_eq_true rfl) (e_X9_isDay (by omega)) <| kI ?_)
  refine g_if_eq 23 dX9_areMany_4 rfl (by omega) (fun c4 => ?_) (fun c4 => ?_)
  · skip
    refine g_iconst dX9_areMany_23 ?_
    exact g_zret dX9_areMany_24 rfl rfl ⟨Nat.le_refl _, Nat.le_refl _⟩ (by omega) (by first | exact ⟨someI (pI_t (by omega)).symm, rfl⟩ | exact ⟨someI (pI_f (by omega)).symm, rfl⟩)
  · skip
    refine g_iload_n dX9_areMany_7 rfl rfl (g_i2l dX9_areMany_8 (by omega) (g_lconst (v := 1) dX9_areMany_9 rfl (c2_X9_267 (M := mX9_areMany) rfl dX9_areMany_10 (cv_X9_71 (M := mX9_areMany) rfl dX9_areMany_13 (RO.same _ _ _) (Nat.le_of_ble_eq_true rfl) (e_X9_in (by omega) (by omega) (by omega)) <| kI ?_))))
    refine g_if_eq 23 dX9_areMany_16 rfl (by omega) (fun c16 => ?_) (fun c16 => ?_)
    · skip
      refine g_iconst dX9_areMany_23 ?_
      exact g_zret dX9_areMany_24 rfl rfl ⟨Nat.le_refl _, Nat.le_refl _⟩ (by omega) (by first | exact ⟨someI (pI_t (by omega)).symm, rfl⟩ | exact ⟨someI (pI_f (by omega)).symm, rfl⟩)
    · skip
      refine g_iconst dX9_areMany_19 (g_goto 24 dX9_areMany_20 rfl ?_)
      exact g_zret dX9_areMany_24 rfl rfl ⟨Nat.le_refl _, Nat.le_refl _⟩ (by omega) (by first | exact ⟨someI (pI_t (by omega)).symm, rfl⟩ | exact ⟨someI (pI_f (by omega)).symm, rfl⟩)
set_option maxRecDepth 100000 in
set_option maxHeartbeats 1000000 in
theorem e_X9_isClash {G : GX} {y : LY} {h : HM} {d : Nat} (hY : Lay y) {F : Nat → Fg} (hR : RF h F) (h6 : R32 (h.I 151 68)) (h7 : R32 (h.I 151 69)) (h8 : R32 (h.I 151 70)) {t : Int} (ht : 0 ≤ t ∧ t ≤ 2000000000000) : EvI G mX9_isClash (d + 4) [.ref 150, .long (lZ t)] y h (pI (ClB (oF F t) (dF F (h.I 151 68) (h.I 151 69) (h.I 151 70) t) (h.I 151 0).toNat)) := by
  have hnf := hR.1
  have hdd : ∀ i : Nat, (i : Int) < (h.I 151 0) → 0 ≤ (dF F (h.I 151 68) (h.I 151 69) (h.I 151 70) t) i ∧ (dF F (h.I 151 68) (h.I 151 69) (h.I 151 70) t) i ≤ 8 := fun i hi => dorS_bd (by have := (hR.2 i (by omega) hi).2; rw [Int.toNat_natCast] at this; omega)
  refine Ev.of rfl [some (.ref 150), some (.long (lZ t)), none, none, none, none, none] rfl (Nat.le_of_ble_eq_true rfl) ?_
  have L8 : ∀ (m : Nat) (f : Nat), (m : Int) = (h.I 151 0) - f → (f : Int) ≤ (h.I 151 0) → Go G mX9_isClash (rmo (d + 4) 0 0) (ZM G y 0 0 (fun r h1 => r = some (.int (iZ (pI (ClB (oF F t) (dF F (h.I 151 68) (h.I 151 69) (h.I 151 70) t) (h.I 151 0).toNat)))) ∧ h1 = h)) y 8 [some (.ref 150), some (.long (lZ t)), none, some (.int (iZ (rdN (oF F t) (dF F (h.I 151 68) (h.I 151 69) (h.I 151 70) t) f : Nat))), some (.int (iZ (pI (ClB (oF F t) (dF F (h.I 151 68) (h.I 151 69) (h.I 151 70) t) f)))), some (.int (iZ f)), none] [] h (0, 0) := by
    intro m
    induction m using Nat.strongRecOn with | _ m ih =>
    intro f hm hf
    have hrb := rdN_bd (O := (oF F t)) (D := (dF F (h.I 151 68) (h.I 151 69) (h.I 151 70) t)) f (fun i hi => hdd i (by omega))
    have hpc := pI_01 (ClB (oF F t) (dF F (h.I 151 68) (h.I 151 69) (h.I 151 70) t) f)
    have hpo := pI_01 (OutF (F f) t)
    have hpe := pI_eq1 (P := OutF (F f) t)
    have hpd := pI_eq1 (P := ClB (oF F t) (dF F (h.I 151 68) (h.I 151 69) (h.I 151 70) t) f)
    refine g_iload dX9_isClash_8 rfl (g_aload_n dX9_isClash_10 rfl rfl (gf_X9_7 (M := mX9_isClash) rfl dX9_isClash_11 (yo150 hY) (yr150_0 hY) (g_iconst dX9_isClash_14 (g_iaN 0 dX9_isClash_15 (ya151 hY) ⟨by decide, by decide, by decide⟩ rfl ?_))))
    refine g_icmp_ge 70 dX9_isClash_16 rfl (by omega) (by omega) (fun c16 => ?_) (fun c16 => ?_)
    · skip
      refine g_iload dX9_isClash_70 rfl ?_
      exact g_zret dX9_isClash_72 rfl rfl ⟨Nat.le_refl _, Nat.le_refl _⟩ (pI_01 _) (by obtain rfl : f = (h.I 151 0).toNat := (by omega); exact ⟨rfl, rfl⟩)
    · skip
      have hFf := hR.2 (f : Int) (by omega) (by omega)
      rw [Int.toNat_natCast] at hFf
      have hdf := hdd f (by omega)
      have hab := andB (x := rdN (oF F t) (dF F (h.I 151 68) (h.I 151 69) (h.I 151 70) t) f) (d := (dF F (h.I 151 68) (h.I 151 69) (h.I 151 70) t) f) (by omega) hdf
      have hob := orB (x := rdN (oF F t) (dF F (h.I 151 68) (h.I 151 69) (h.I 151 70) t) f) (d := (dF F (h.I 151 68) (h.I 151 69) (h.I 151 70) t) f) (by omega) hdf
      have hp29 : (1 : Int) ≤ 2 ^ ((dF F (h.I 151 68) (h.I 151 69) (h.I 151 70) t) f).toNat := p2_1 _
      have hp99 : (2 : Int) ^ ((dF F (h.I 151 68) (h.I 151 69) (h.I 151 70) t) f).toNat ≤ 256 := p2_8 (by omega)
      refine g_aload_n dX9_isClash_19 rfl rfl (g_iload dX9_isClash_20 rfl (g_lload_n dX9_isClash_22 rfl rfl (cv_X9_169 (M := mX9_isClash) rfl dX9_isClash_23 (yo150 hY) (RO.same _ _ _) (Nat.le_of_ble_eq_true rfl) (e_X9_isOut hY (by omega) hFf.1 hFf.2 (by omega)) <| kI ?_)))
      refine g_if_eq 64 dX9_isClash_26 rfl (by omega) (fun c26 => ?_) (fun c26 => ?_)
      · skip
        refine g_inc5 dX9_isClash_64 (by decide) rfl (g_goto 8 dX9_isClash_67 rfl ?_)
        have hx := ih (m - 1) (by omega) (f + 1) (by omega) (by omega)
        first
        | (have z : ¬ OutF (F f) t := (fun w => by have := hpe.mpr w; omega); rw [show rdN (oF F t) (dF F (h.I 151 68) (h.I 151 69) (h.I 151 70) t) (f + 1) = rdN (oF F t) (dF F (h.I 151 68) (h.I 151 69) (h.I 151 70) t) f from cnd_f z, pI_congr (ClB_s (O := (oF F t)) (D := (dF F (h.I 151 68) (h.I 151 69) (h.I 151 70) t)) (n := f)), pI_congr (show (ClB (oF F t) (dF F (h.I 151 68) (h.I 151 69) (h.I 151 70) t) f ∨ (OutF (F f) t ∧ ∃ g, g < f ∧ (oF F t) g ∧ (dF F (h.I 151 68) (h.I 151 69) (h.I 151 70) t) g = (dF F (h.I 151 68) (h.I 151 69) (h.I 151 70) t) f)) ↔ ClB (oF F t) (dF F (h.I 151 68) (h.I 151 69) (h.I 151 70) t) f from ⟨fun w => w.elim id (fun w => absurd w.1 z), Or.inl⟩)] at hx; exact hx)
        | (have z : OutF (F f) t := hpe.mp (by omega); rw [show rdN (oF F t) (dF F (h.I 151 68) (h.I 151 69) (h.I 151 70) t) (f + 1) = rdN (oF F t) (dF F (h.I 151 68) (h.I 151 69) (h.I 151 70) t) f ||| 2 ^ ((dF F (h.I 151 68) (h.I 151 69) (h.I 151 70) t) f).toNat from cnd_t z] at hx; rw [hob]; first | (rw [pI_t ((ClB_s (O := (oF F t)) (D := (dF F (h.I 151 68) (h.I 151 69) (h.I 151 70) t)) (n := f)).mpr (Or.inl (hpd.mp (by omega))))] at hx; exact hx) | (have q : (rdN (oF F t) (dF F (h.I 151 68) (h.I 151 69) (h.I 151 70) t) f).testBit ((dF F (h.I 151 68) (h.I 151 69) (h.I 151 70) t) f).toNat = true := Decidable.byContradiction (fun w => by rw [if_neg w] at c49; omega); obtain ⟨g, g1, g2, g3⟩ := (rdN_bit (O := (oF F t)) (D := (dF F (h.I 151 68) (h.I 151 69) (h.I 151 70) t)) ((dF F (h.I 151 68) (h.I 151 69) (h.I 151 70) t) f).toNat f).mp q; have g4 := hdd g (by omega); rw [pI_t ((ClB_s (O := (oF F t)) (D := (dF F (h.I 151 68) (h.I 151 69) (h.I 151 70) t)) (n := f)).mpr (Or.inr ⟨z, g, g1, g2, by omega⟩))] at hx; exact hx) | (have q : ¬ (rdN (oF F t) (dF F (h.I 151 68) (h.I 151 69) (h.I 151 70) t) f).testBit ((dF F (h.I 151 68) (h.I 151 69) (h.I 151 70) t) f).toNat = true := (fun w => by rw [if_pos w] at c49; omega); rw [pI_f (fun w => ((ClB_s (O := (oF F t)) (D := (dF F (h.I 151 68) (h.I 151 69) (h.I 151 70) t)) (n := f)).mp w).elim (fun w => by have := hpd.mpr w; omega) (fun ⟨_, g, g1, g2, g3⟩ => q ((rdN_bit (O := (oF F t)) (D := (dF F (h.I 151 68) (h.I 151 69) (h.I 151 70) t)) ((dF F (h.I 151 68) (h.I 151 69) (h.I 151 70) t) f).toNat f).mpr ⟨g, g1, g2, by omega⟩)))] at hx; exact hx))
      · skip
        refine g_iconst dX9_isClash_29 (g_aload_n dX9_isClash_30 rfl rfl (g_iload dX9_isClash_31 rfl (g_lload_n dX9_isClash_33 rfl rfl (cv_X9_263 (M := mX9_isClash) rfl dX9_isClash_34 (yo150 hY) (RO.same _ _ _) (Nat.le_of_ble_eq_true rfl) (e_X9_doorOn hY (by omega) hFf.1 hFf.2 h6 h7 h8 (by omega)) <| kI (g_ishl dX9_isClash_37 (g_ist6 dX9_isClash_38 (by decide) rfl (g_iload dX9_isClash_40 rfl ?_)))))))
        refine g_if_ne 52 dX9_isClash_42 rfl (by omega) (fun c42 => ?_) (fun c42 => ?_)
        · skip
          refine g_iconst dX9_isClash_52 (g_goto 57 dX9_isClash_53 rfl (g_ist4 dX9_isClash_57 (by decide) rfl (g_iload_n dX9_isClash_59 rfl rfl (g_iload dX9_isClash_60 rfl (g_ior dX9_isClash_62 (g_ist3 dX9_isClash_63 (by decide) rfl (g_inc5 dX9_isClash_64 (by decide) rfl (g_goto 8 dX9_isClash_67 rfl (g_dr6 ?_)))))))))
          have hx := ih (m - 1) (by omega) (f + 1) (by omega) (by omega)
          first
          | (have z : ¬ OutF (F f) t := (fun w => by have := hpe.mpr w; omega); rw [show rdN (oF F t) (dF F (h.I 151 68) (h.I 151 69) (h.I 151 70) t) (f + 1) = rdN (oF F t) (dF F (h.I 151 68) (h.I 151 69) (h.I 151 70) t) f from cnd_f z, pI_congr (ClB_s (O := (oF F t)) (D := (dF F (h.I 151 68) (h.I 151 69) (h.I 151 70) t)) (n := f)), pI_congr (show (ClB (oF F t) (dF F (h.I 151 68) (h.I 151 69) (h.I 151 70) t) f ∨ (OutF (F f) t ∧ ∃ g, g < f ∧ (oF F t) g ∧ (dF F (h.I 151 68) (h.I 151 69) (h.I 151 70) t) g = (dF F (h.I 151 68) (h.I 151 69) (h.I 151 70) t) f)) ↔ ClB (oF F t) (dF F (h.I 151 68) (h.I 151 69) (h.I 151 70) t) f from ⟨fun w => w.elim id (fun w => absurd w.1 z), Or.inl⟩)] at hx; exact hx)
          | (have z : OutF (F f) t := hpe.mp (by omega); rw [show rdN (oF F t) (dF F (h.I 151 68) (h.I 151 69) (h.I 151 70) t) (f + 1) = rdN (oF F t) (dF F (h.I 151 68) (h.I 151 69) (h.I 151 70) t) f ||| 2 ^ ((dF F (h.I 151 68) (h.I 151 69) (h.I 151 70) t) f).toNat from cnd_t z] at hx; rw [hob]; first | (rw [pI_t ((ClB_s (O := (oF F t)) (D := (dF F (h.I 151 68) (h.I 151 69) (h.I 151 70) t)) (n := f)).mpr (Or.inl (hpd.mp (by omega))))] at hx; exact hx) | (have q : (rdN (oF F t) (dF F (h.I 151 68) (h.I 151 69) (h.I 151 70) t) f).testBit ((dF F (h.I 151 68) (h.I 151 69) (h.I 151 70) t) f).toNat = true := Decidable.byContradiction (fun w => by rw [if_neg w] at c49; omega); obtain ⟨g, g1, g2, g3⟩ := (rdN_bit (O := (oF F t)) (D := (dF F (h.I 151 68) (h.I 151 69) (h.I 151 70) t)) ((dF F (h.I 151 68) (h.I 151 69) (h.I 151 70) t) f).toNat f).mp q; have g4 := hdd g (by omega); rw [pI_t ((ClB_s (O := (oF F t)) (D := (dF F (h.I 151 68) (h.I 151 69) (h.I 151 70) t)) (n := f)).mpr (Or.inr ⟨z, g, g1, g2, by omega⟩))] at hx; exact hx) | (have q : ¬ (rdN (oF F t) (dF F (h.I 151 68) (h.I 151 69) (h.I 151 70) t) f).testBit ((dF F (h.I 151 68) (h.I 151 69) (h.I 151 70) t) f).toNat = true := (fun w => by rw [if_pos w] at c49; omega); rw [pI_f (fun w => ((ClB_s (O := (oF F t)) (D := (dF F (h.I 151 68) (h.I 151 69) (h.I 151 70) t)) (n := f)).mp w).elim (fun w => by have := hpd.mpr w; omega) (fun ⟨_, g, g1, g2, g3⟩ => q ((rdN_bit (O := (oF F t)) (D := (dF F (h.I 151 68) (h.I 151 69) (h.I 151 70) t)) ((dF F (h.I 151 68) (h.I 151 69) (h.I 151 70) t) f).toNat f).mpr ⟨g, g1, g2, by omega⟩)))] at hx; exact hx))
        · skip
          refine g_iload_n dX9_isClash_45 rfl rfl (g_iload dX9_isClash_46 rfl (g_iand dX9_isClash_48 ?_))
          rw [hab]
          refine g_if_eq 56 dX9_isClash_49 rfl (by split <;> omega) (fun c49 => ?_) (fun c49 => ?_)
          · skip
            refine g_iconst dX9_isClash_56 (g_ist4 dX9_isClash_57 (by decide) rfl (g_iload_n dX9_isClash_59 rfl rfl (g_iload dX9_isClash_60 rfl (g_ior dX9_isClash_62 (g_ist3 dX9_isClash_63 (by decide) rfl (g_inc5 dX9_isClash_64 (by decide) rfl (g_goto 8 dX9_isClash_67 rfl (g_dr6 ?_))))))))
            have hx := ih (m - 1) (by omega) (f + 1) (by omega) (by omega)
            first
            | (have z : ¬ OutF (F f) t := (fun w => by have := hpe.mpr w; omega); rw [show rdN (oF F t) (dF F (h.I 151 68) (h.I 151 69) (h.I 151 70) t) (f + 1) = rdN (oF F t) (dF F (h.I 151 68) (h.I 151 69) (h.I 151 70) t) f from cnd_f z, pI_congr (ClB_s (O := (oF F t)) (D := (dF F (h.I 151 68) (h.I 151 69) (h.I 151 70) t)) (n := f)), pI_congr (show (ClB (oF F t) (dF F (h.I 151 68) (h.I 151 69) (h.I 151 70) t) f ∨ (OutF (F f) t ∧ ∃ g, g < f ∧ (oF F t) g ∧ (dF F (h.I 151 68) (h.I 151 69) (h.I 151 70) t) g = (dF F (h.I 151 68) (h.I 151 69) (h.I 151 70) t) f)) ↔ ClB (oF F t) (dF F (h.I 151 68) (h.I 151 69) (h.I 151 70) t) f from ⟨fun w => w.elim id (fun w => absurd w.1 z), Or.inl⟩)] at hx; exact hx)
            | (have z : OutF (F f) t := hpe.mp (by omega); rw [show rdN (oF F t) (dF F (h.I 151 68) (h.I 151 69) (h.I 151 70) t) (f + 1) = rdN (oF F t) (dF F (h.I 151 68) (h.I 151 69) (h.I 151 70) t) f ||| 2 ^ ((dF F (h.I 151 68) (h.I 151 69) (h.I 151 70) t) f).toNat from cnd_t z] at hx; rw [hob]; first | (rw [pI_t ((ClB_s (O := (oF F t)) (D := (dF F (h.I 151 68) (h.I 151 69) (h.I 151 70) t)) (n := f)).mpr (Or.inl (hpd.mp (by omega))))] at hx; exact hx) | (have q : (rdN (oF F t) (dF F (h.I 151 68) (h.I 151 69) (h.I 151 70) t) f).testBit ((dF F (h.I 151 68) (h.I 151 69) (h.I 151 70) t) f).toNat = true := Decidable.byContradiction (fun w => by rw [if_neg w] at c49; omega); obtain ⟨g, g1, g2, g3⟩ := (rdN_bit (O := (oF F t)) (D := (dF F (h.I 151 68) (h.I 151 69) (h.I 151 70) t)) ((dF F (h.I 151 68) (h.I 151 69) (h.I 151 70) t) f).toNat f).mp q; have g4 := hdd g (by omega); rw [pI_t ((ClB_s (O := (oF F t)) (D := (dF F (h.I 151 68) (h.I 151 69) (h.I 151 70) t)) (n := f)).mpr (Or.inr ⟨z, g, g1, g2, by omega⟩))] at hx; exact hx) | (have q : ¬ (rdN (oF F t) (dF F (h.I 151 68) (h.I 151 69) (h.I 151 70) t) f).testBit ((dF F (h.I 151 68) (h.I 151 69) (h.I 151 70) t) f).toNat = true := (fun w => by rw [if_pos w] at c49; omega); rw [pI_f (fun w => ((ClB_s (O := (oF F t)) (D := (dF F (h.I 151 68) (h.I 151 69) (h.I 151 70) t)) (n := f)).mp w).elim (fun w => by have := hpd.mpr w; omega) (fun ⟨_, g, g1, g2, g3⟩ => q ((rdN_bit (O := (oF F t)) (D := (dF F (h.I 151 68) (h.I 151 69) (h.I 151 70) t)) ((dF F (h.I 151 68) (h.I 151 69) (h.I 151 70) t) f).toNat f).mpr ⟨g, g1, g2, by omega⟩)))] at hx; exact hx))
          · skip
            refine g_iconst dX9_isClash_52 (g_goto 57 dX9_isClash_53 rfl (g_ist4 dX9_isClash_57 (by decide) rfl (g_iload_n dX9_isClash_59 rfl rfl (g_iload dX9_isClash_60 rfl (g_ior dX9_isClash_62 (g_ist3 dX9_isClash_63 (by decide) rfl (g_inc5 dX9_isClash_64 (by decide) rfl (g_goto 8 dX9_isClash_67 rfl (g_dr6 ?_)))))))))
            have hx := ih (m - 1) (by omega) (f + 1) (by omega) (by omega)
            first
            | (have z : ¬ OutF (F f) t := (fun w => by have := hpe.mpr w; omega); rw [show rdN (oF F t) (dF F (h.I 151 68) (h.I 151 69) (h.I 151 70) t) (f + 1) = rdN (oF F t) (dF F (h.I 151 68) (h.I 151 69) (h.I 151 70) t) f from cnd_f z, pI_congr (ClB_s (O := (oF F t)) (D := (dF F (h.I 151 68) (h.I 151 69) (h.I 151 70) t)) (n := f)), pI_congr (show (ClB (oF F t) (dF F (h.I 151 68) (h.I 151 69) (h.I 151 70) t) f ∨ (OutF (F f) t ∧ ∃ g, g < f ∧ (oF F t) g ∧ (dF F (h.I 151 68) (h.I 151 69) (h.I 151 70) t) g = (dF F (h.I 151 68) (h.I 151 69) (h.I 151 70) t) f)) ↔ ClB (oF F t) (dF F (h.I 151 68) (h.I 151 69) (h.I 151 70) t) f from ⟨fun w => w.elim id (fun w => absurd w.1 z), Or.inl⟩)] at hx; exact hx)
            | (have z : OutF (F f) t := hpe.mp (by omega); rw [show rdN (oF F t) (dF F (h.I 151 68) (h.I 151 69) (h.I 151 70) t) (f + 1) = rdN (oF F t) (dF F (h.I 151 68) (h.I 151 69) (h.I 151 70) t) f ||| 2 ^ ((dF F (h.I 151 68) (h.I 151 69) (h.I 151 70) t) f).toNat from cnd_t z] at hx; rw [hob]; first | (rw [pI_t ((ClB_s (O := (oF F t)) (D := (dF F (h.I 151 68) (h.I 151 69) (h.I 151 70) t)) (n := f)).mpr (Or.inl (hpd.mp (by omega))))] at hx; exact hx) | (have q : (rdN (oF F t) (dF F (h.I 151 68) (h.I 151 69) (h.I 151 70) t) f).testBit ((dF F (h.I 151 68) (h.I 151 69) (h.I 151 70) t) f).toNat = true := Decidable.byContradiction (fun w => by rw [if_neg w] at c49; omega); obtain ⟨g, g1, g2, g3⟩ := (rdN_bit (O := (oF F t)) (D := (dF F (h.I 151 68) (h.I 151 69) (h.I 151 70) t)) ((dF F (h.I 151 68) (h.I 151 69) (h.I 151 70) t) f).toNat f).mp q; have g4 := hdd g (by omega); rw [pI_t ((ClB_s (O := (oF F t)) (D := (dF F (h.I 151 68) (h.I 151 69) (h.I 151 70) t)) (n := f)).mpr (Or.inr ⟨z, g, g1, g2, by omega⟩))] at hx; exact hx) | (have q : ¬ (rdN (oF F t) (dF F (h.I 151 68) (h.I 151 69) (h.I 151 70) t) f).testBit ((dF F (h.I 151 68) (h.I 151 69) (h.I 151 70) t) f).toNat = true := (fun w => by rw [if_pos w] at c49; omega); rw [pI_f (fun w => ((ClB_s (O := (oF F t)) (D := (dF F (h.I 151 68) (h.I 151 69) (h.I 151 70) t)) (n := f)).mp w).elim (fun w => by have := hpd.mpr w; omega) (fun ⟨_, g, g1, g2, g3⟩ => q ((rdN_bit (O := (oF F t)) (D := (dF F (h.I 151 68) (h.I 151 69) (h.I 151 70) t)) ((dF F (h.I 151 68) (h.I 151 69) (h.I 151 70) t) f).toNat f).mpr ⟨g, g1, g2, by omega⟩)))] at hx; exact hx))
  refine g_iconst dX9_isClash_0 (g_ist3 dX9_isClash_1 (by decide) rfl (g_iconst dX9_isClash_2 (g_ist4 dX9_isClash_3 (by decide) rfl (g_iconst dX9_isClash_5 (g_ist5 dX9_isClash_6 (by decide) rfl ?_)))))
  have hx := L8 (h.I 151 0).toNat 0 (by omega) (by omega)
  rw [pI_f (show ¬ ClB (oF F t) (dF F (h.I 151 68) (h.I 151 69) (h.I 151 70) t) 0 from fun ⟨f, g, a, b, _⟩ => by omega)] at hx
  exact hx
set_option maxRecDepth 100000 in
set_option maxHeartbeats 1000000 in
theorem e_X9_clashes {G : GX} {y : LY} {h : HM} {d : Nat} (hY : Lay y) {F : Nat → Fg} (hR : RF h F) (h6 : R32 (h.I 151 68)) (h7 : R32 (h.I 151 69)) (h8 : R32 (h.I 151 70)) {t n : Int} (ht : R64 t) (hn : R32 n) : EvQI G mX9_clashes (d + 5) [.ref 150, .long (lZ t), .int (iZ n)] y h (fun v : Int => (¬ ((0 ≤ t ∧ t ≤ 1000000000000) ∧ (1 ≤ n ∧ n ≤ 400)) ∧ v = -1) ∨ (((0 ≤ t ∧ t ≤ 1000000000000) ∧ (1 ≤ n ∧ n ≤ 400)) ∧ v = cntN (fun t => ClB (oF F t) (dF F (h.I 151 68) (h.I 151 69) (h.I 151 70) t) (h.I 151 0).toNat) t n.toNat)) := by
  have hzm := pI_01 (((0 ≤ t ∧ t ≤ 1000000000000) ∧ (1 ≤ n ∧ n ≤ 400)))
  have hym := pI_eq1 (P := ((0 ≤ t ∧ t ≤ 1000000000000) ∧ (1 ≤ n ∧ n ≤ 400)))
  refine Ev.of rfl [some (.ref 150), some (.long (lZ t)), none, some (.int (iZ n)), none, none] rfl (Nat.le_of_ble_eq_true rfl) ?_
  have L16 : ∀ (m : Nat) (i : Nat), (m : Int) = n - i → (i : Int) ≤ n → ((0 ≤ t ∧ t ≤ 1000000000000) ∧ (1 ≤ n ∧ n ≤ 400)) → Go G mX9_clashes (rmo (d + 5) 0 0) (ZM G y 0 0 (fun r h1 => ∃ v_ : Int, r = some (.int (iZ v_)) ∧ h1 = h ∧ (fun v : Int => (¬ ((0 ≤ t ∧ t ≤ 1000000000000) ∧ (1 ≤ n ∧ n ≤ 400)) ∧ v = -1) ∨ (((0 ≤ t ∧ t ≤ 1000000000000) ∧ (1 ≤ n ∧ n ≤ 400)) ∧ v = cntN (fun t => ClB (oF F t) (dF F (h.I 151 68) (h.I 151 69) (h.I 151 70) t) (h.I 151 0).toNat) t n.toNat)) v_)) y 16 [some (.ref 150), some (.long (lZ t)), none, some (.int (iZ n)), some (.int (iZ (cntN (fun t => ClB (oF F t) (dF F (h.I 151 68) (h.I 151 69) (h.I 151 70) t) (h.I 151 0).toNat) t i))), some (.int (iZ i))] [] h (0, 0) := by
    intro m
    induction m using Nat.strongRecOn with | _ m ih =>
    intro i hm hi hok
    have hp := pI_01 ((fun t => ClB (oF F t) (dF F (h.I 151 68) (h.I 151 69) (h.I 151 70) t) (h.I 151 0).toNat) (t + i))
    refine g_iload dX9_clashes_16 rfl (g_iload_n dX9_clashes_18 rfl rfl ?_)
    refine g_icmp_ge 45 dX9_clashes_19 rfl (by omega) (by omega) (fun c19 => ?_) (fun c19 => ?_)
    · skip
      refine g_iload dX9_clashes_45 rfl ?_
      exact g_iret dX9_clashes_47 rfl rfl ⟨Nat.le_refl _, Nat.le_refl _⟩ (by obtain rfl : i = n.toNat := (by omega); exact ⟨_, rfl, rfl, Or.inr ⟨hok, rfl⟩⟩)
    · skip
      refine g_iload dX9_clashes_22 rfl (g_aload_n dX9_clashes_24 rfl rfl (g_lload_n dX9_clashes_25 rfl rfl (g_iload dX9_clashes_26 rfl (g_i2l dX9_clashes_28 (by omega) (g_ladd dX9_clashes_29 (cv_X9_273 (M := mX9_clashes) rfl dX9_clashes_30 (yo150 hY) (RO.same _ _ _) (Nat.le_of_ble_eq_true rfl) (e_X9_isClash hY hR h6 h7 h8 (by omega)) <| kI (cv_X9_173 (M := mX9_clashes) rfl dX9_clashes_33 (RO.same _ _ _) (Nat.le_of_ble_eq_true rfl) (e_X9_flag (by omega)) <| kI (g_iadd dX9_clashes_36 (g_ist4 dX9_clashes_37 (by decide) rfl (g_inc5 dX9_clashes_39 (by decide) rfl (g_goto 16 dX9_clashes_42 rfl ?_)))))))))))
      have hx := ih (m - 1) (by omega) (i + 1) (by omega) (by omega) hok
      rw [cntN] at hx
      exact hx
  refine g_lload_n dX9_clashes_0 rfl rfl (g_iload_n dX9_clashes_1 rfl rfl (cv_X9_269 (M := mX9_clashes) rfl dX9_clashes_2 (RO.same _ _ _) (Nat.le_of_ble_eq_true rfl) (e_X9_areMany (by omega) (by omega)) <| kI ?_))
  refine g_if_ne 10 dX9_clashes_5 rfl (by omega) (fun c5 => ?_) (fun c5 => ?_)
  · skip
    refine g_iconst dX9_clashes_10 (g_ist4 dX9_clashes_11 (by decide) rfl (g_iconst dX9_clashes_13 (g_ist5 dX9_clashes_14 (by decide) rfl ?_)))
    exact L16 n.toNat 0 (by omega) (by omega) (by omega)
  · skip
    refine g_iconst dX9_clashes_8 ?_
    exact g_iret dX9_clashes_9 rfl rfl ⟨Nat.le_refl _, Nat.le_refl _⟩ (by exact ⟨-1, rfl, rfl, Or.inl ⟨by omega, rfl⟩⟩)
set_option maxRecDepth 100000 in
set_option maxHeartbeats 1000000 in
theorem e_X9_stick {G : GX} {y : LY} {h : HM} {d : Nat} (hY : Lay y) {p q e : Int} (hp : R32 p) (hq : R32 q) (hr : R32 e) (h6 : R32 (h.I 151 68)) : EvQX G mX9_stick (d + 1) [.ref 150, .int (iZ p), .int (iZ q), .int (iZ e)] y h (fun v h1 => (¬ ((p = -4 ∧ q = 0 ∧ e = 0) ∨ ((0 ≤ p ∧ p ≤ 8) ∧ 0 ≤ q ∧ q ≤ e ∧ e ≤ 365)) ∧ v = -1 ∧ h1 = h) ∨ ((p = -4 ∧ q = 0 ∧ e = 0) ∧ v = (if h.I 151 68 = -4 then 0 else 1) ∧ h1 = wS h (-4) (-4) (-4)) ∨ (((0 ≤ p ∧ p ≤ 8) ∧ 0 ≤ q ∧ q ≤ e ∧ e ≤ 365) ∧ v = (if h.I 151 68 = -4 then 0 else 1) ∧ h1 = wS h p q e)) := by
  refine Ev.of rfl [some (.ref 150), some (.int (iZ p)), some (.int (iZ q)), some (.int (iZ e)), none, none] rfl (Nat.le_of_ble_eq_true rfl) ?_
  have L65 : ∀ (b : Int), (b = 1 ∧ (p = -4 ∧ q = 0 ∧ e = 0)) ∨ (b = 0 ∧ ¬ (p = -4 ∧ q = 0 ∧ e = 0) ∧ ((0 ≤ p ∧ p ≤ 8) ∧ 0 ≤ q ∧ q ≤ e ∧ e ≤ 365)) → Go G mX9_stick (rmo (d + 1) 0 0) (ZM G y 0 0 (fun r h1 => ∃ v_ : Int, r = some (.int (iZ v_)) ∧ (fun v h1 => (¬ ((p = -4 ∧ q = 0 ∧ e = 0) ∨ ((0 ≤ p ∧ p ≤ 8) ∧ 0 ≤ q ∧ q ≤ e ∧ e ≤ 365)) ∧ v = -1 ∧ h1 = h) ∨ ((p = -4 ∧ q = 0 ∧ e = 0) ∧ v = (if h.I 151 68 = -4 then 0 else 1) ∧ h1 = wS h (-4) (-4) (-4)) ∨ (((0 ≤ p ∧ p ≤ 8) ∧ 0 ≤ q ∧ q ≤ e ∧ e ≤ 365) ∧ v = (if h.I 151 68 = -4 then 0 else 1) ∧ h1 = wS h p q e)) v_ h1)) y 65 [some (.ref 150), some (.int (iZ p)), some (.int (iZ q)), some (.int (iZ e)), some (.int (iZ b)), none] [] h (0, 0) := by
    intro b hb
    rcases hb with ⟨rfl, rfl, rfl, rfl⟩ | ⟨rfl, hn, hok⟩
    · skip
      refine g_aload_n dX9_stick_65 rfl rfl (gf_X9_7 (M := mX9_stick) rfl dX9_stick_66 (yo150 hY) (yr150_0 hY) (g_bipush dX9_stick_69 kb68 (g_iaN 68 dX9_stick_71 (ya151 hY) ⟨by decide, by decide, by decide⟩ rfl (g_bipush dX9_stick_72 kbm4 ?_))))
      refine g_icmp_eq 81 dX9_stick_74 rfl (by omega) (by omega) (fun c74 => ?_) (fun c74 => ?_)
      · have ee : (if h.I 151 68 = -4 then (0 : Int) else 1) = 0 := if_pos c74
        refine g_iconst dX9_stick_81 (cv_X9_173 (M := mX9_stick) rfl dX9_stick_82 (RO.same _ _ _) (Nat.le_of_ble_eq_true rfl) (e_X9_flag (by omega)) <| kI (g_ist5 dX9_stick_85 (by decide) rfl (g_aload_n dX9_stick_87 rfl rfl (gf_X9_7 (M := mX9_stick) rfl dX9_stick_88 (yo150 hY) (yr150_0 hY) (g_bipush dX9_stick_91 kb68 (g_iload_n dX9_stick_93 rfl rfl (g_isN 68 dX9_stick_94 (ya151 hY) ⟨by decide, by decide, by decide⟩ rfl (g_aload_n dX9_stick_95 rfl rfl (gf_X9_7 (M := mX9_stick) rfl dX9_stick_96 (yo150 hY) (yr150_0 hY) (g_bipush dX9_stick_99 kb69 (g_iload dX9_stick_101 rfl ?_)))))))))))
        refine g_if_eq 111 dX9_stick_103 rfl (by omega) (fun c103 => absurd c103 (by decide)) (fun c103 => ?_)
        refine g_bipush dX9_stick_106 kbm4 (g_goto 112 dX9_stick_108 rfl (g_isN 69 dX9_stick_112 (ya151 hY) ⟨by decide, by decide, by decide⟩ rfl (g_aload_n dX9_stick_113 rfl rfl (gf_X9_7 (M := mX9_stick) rfl dX9_stick_114 (yo150 hY) (yr150_0 hY) (g_bipush dX9_stick_117 kb70 (g_iload dX9_stick_119 rfl ?_))))))
        refine g_if_eq 129 dX9_stick_121 rfl (by omega) (fun c121 => absurd c121 (by decide)) (fun c121 => ?_)
        refine g_bipush dX9_stick_124 kbm4 (g_goto 130 dX9_stick_126 rfl (g_isN 70 dX9_stick_130 (ya151 hY) ⟨by decide, by decide, by decide⟩ rfl (g_iload dX9_stick_131 rfl ?_)))
        exact g_iret dX9_stick_133 rfl rfl ⟨Nat.le_refl _, Nat.le_refl _⟩ (by exact ⟨_, rfl, Or.inr (Or.inl ⟨⟨rfl, rfl, rfl⟩, ee.symm, rfl⟩)⟩)
      · have ee : (if h.I 151 68 = -4 then (0 : Int) else 1) = 1 := if_neg c74
        refine g_iconst dX9_stick_77 (g_goto 82 dX9_stick_78 rfl (cv_X9_173 (M := mX9_stick) rfl dX9_stick_82 (RO.same _ _ _) (Nat.le_of_ble_eq_true rfl) (e_X9_flag (by omega)) <| kI (g_ist5 dX9_stick_85 (by decide) rfl (g_aload_n dX9_stick_87 rfl rfl (gf_X9_7 (M := mX9_stick) rfl dX9_stick_88 (yo150 hY) (yr150_0 hY) (g_bipush dX9_stick_91 kb68 (g_iload_n dX9_stick_93 rfl rfl (g_isN 68 dX9_stick_94 (ya151 hY) ⟨by decide, by decide, by decide⟩ rfl (g_aload_n dX9_stick_95 rfl rfl (gf_X9_7 (M := mX9_stick) rfl dX9_stick_96 (yo150 hY) (yr150_0 hY) (g_bipush dX9_stick_99 kb69 ?_)))))))))))
        refine g_iload dX9_stick_101 rfl ?_
        refine g_if_eq 111 dX9_stick_103 rfl (by omega) (fun c103 => absurd c103 (by decide)) (fun c103 => ?_)
        refine g_bipush dX9_stick_106 kbm4 (g_goto 112 dX9_stick_108 rfl (g_isN 69 dX9_stick_112 (ya151 hY) ⟨by decide, by decide, by decide⟩ rfl (g_aload_n dX9_stick_113 rfl rfl (gf_X9_7 (M := mX9_stick) rfl dX9_stick_114 (yo150 hY) (yr150_0 hY) (g_bipush dX9_stick_117 kb70 (g_iload dX9_stick_119 rfl ?_))))))
        refine g_if_eq 129 dX9_stick_121 rfl (by omega) (fun c121 => absurd c121 (by decide)) (fun c121 => ?_)
        refine g_bipush dX9_stick_124 kbm4 (g_goto 130 dX9_stick_126 rfl (g_isN 70 dX9_stick_130 (ya151 hY) ⟨by decide, by decide, by decide⟩ rfl (g_iload dX9_stick_131 rfl ?_)))
        exact g_iret dX9_stick_133 rfl rfl ⟨Nat.le_refl _, Nat.le_refl _⟩ (by exact ⟨_, rfl, Or.inr (Or.inl ⟨⟨rfl, rfl, rfl⟩, ee.symm, rfl⟩)⟩)
    · skip
      refine g_aload_n dX9_stick_65 rfl rfl (gf_X9_7 (M := mX9_stick) rfl dX9_stick_66 (yo150 hY) (yr150_0 hY) (g_bipush dX9_stick_69 kb68 (g_iaN 68 dX9_stick_71 (ya151 hY) ⟨by decide, by decide, by decide⟩ rfl (g_bipush dX9_stick_72 kbm4 ?_))))
      refine g_icmp_eq 81 dX9_stick_74 rfl (by omega) (by omega) (fun c74 => ?_) (fun c74 => ?_)
      · have ee : (if h.I 151 68 = -4 then (0 : Int) else 1) = 0 := if_pos c74
        refine g_iconst dX9_stick_81 (cv_X9_173 (M := mX9_stick) rfl dX9_stick_82 (RO.same _ _ _) (Nat.le_of_ble_eq_true rfl) (e_X9_flag (by omega)) <| kI (g_ist5 dX9_stick_85 (by decide) rfl (g_aload_n dX9_stick_87 rfl rfl (gf_X9_7 (M := mX9_stick) rfl dX9_stick_88 (yo150 hY) (yr150_0 hY) (g_bipush dX9_stick_91 kb68 (g_iload_n dX9_stick_93 rfl rfl (g_isN 68 dX9_stick_94 (ya151 hY) ⟨by decide, by decide, by decide⟩ rfl (g_aload_n dX9_stick_95 rfl rfl (gf_X9_7 (M := mX9_stick) rfl dX9_stick_96 (yo150 hY) (yr150_0 hY) (g_bipush dX9_stick_99 kb69 (g_iload dX9_stick_101 rfl ?_)))))))))))
        refine g_if_eq 111 dX9_stick_103 rfl (by omega) (fun c103 => ?_) (fun c103 => absurd c103 (fun z => z rfl))
        refine g_iload_n dX9_stick_111 rfl rfl (g_isN 69 dX9_stick_112 (ya151 hY) ⟨by decide, by decide, by decide⟩ rfl (g_aload_n dX9_stick_113 rfl rfl (gf_X9_7 (M := mX9_stick) rfl dX9_stick_114 (yo150 hY) (yr150_0 hY) (g_bipush dX9_stick_117 kb70 (g_iload dX9_stick_119 rfl ?_)))))
        refine g_if_eq 129 dX9_stick_121 rfl (by omega) (fun c121 => ?_) (fun c121 => absurd c121 (fun z => z rfl))
        refine g_iload_n dX9_stick_129 rfl rfl (g_isN 70 dX9_stick_130 (ya151 hY) ⟨by decide, by decide, by decide⟩ rfl (g_iload dX9_stick_131 rfl ?_))
        exact g_iret dX9_stick_133 rfl rfl ⟨Nat.le_refl _, Nat.le_refl _⟩ (by exact ⟨_, rfl, Or.inr (Or.inr ⟨hok, ee.symm, rfl⟩)⟩)
      · have ee : (if h.I 151 68 = -4 then (0 : Int) else 1) = 1 := if_neg c74
        refine g_iconst dX9_stick_77 (g_goto 82 dX9_stick_78 rfl (cv_X9_173 (M := mX9_stick) rfl dX9_stick_82 (RO.same _ _ _) (Nat.le_of_ble_eq_true rfl) (e_X9_flag (by omega)) <| kI (g_ist5 dX9_stick_85 (by decide) rfl (g_aload_n dX9_stick_87 rfl rfl (gf_X9_7 (M := mX9_stick) rfl dX9_stick_88 (yo150 hY) (yr150_0 hY) (g_bipush dX9_stick_91 kb68 (g_iload_n dX9_stick_93 rfl rfl (g_isN 68 dX9_stick_94 (ya151 hY) ⟨by decide, by decide, by decide⟩ rfl (g_aload_n dX9_stick_95 rfl rfl (gf_X9_7 (M := mX9_stick) rfl dX9_stick_96 (yo150 hY) (yr150_0 hY) (g_bipush dX9_stick_99 kb69 ?_)))))))))))
        refine g_iload dX9_stick_101 rfl ?_
        refine g_if_eq 111 dX9_stick_103 rfl (by omega) (fun c103 => ?_) (fun c103 => absurd c103 (fun z => z rfl))
        refine g_iload_n dX9_stick_111 rfl rfl (g_isN 69 dX9_stick_112 (ya151 hY) ⟨by decide, by decide, by decide⟩ rfl (g_aload_n dX9_stick_113 rfl rfl (gf_X9_7 (M := mX9_stick) rfl dX9_stick_114 (yo150 hY) (yr150_0 hY) (g_bipush dX9_stick_117 kb70 (g_iload dX9_stick_119 rfl ?_)))))
        refine g_if_eq 129 dX9_stick_121 rfl (by omega) (fun c121 => ?_) (fun c121 => absurd c121 (fun z => z rfl))
        refine g_iload_n dX9_stick_129 rfl rfl (g_isN 70 dX9_stick_130 (ya151 hY) ⟨by decide, by decide, by decide⟩ rfl (g_iload dX9_stick_131 rfl ?_))
        exact g_iret dX9_stick_133 rfl rfl ⟨Nat.le_refl _, Nat.le_refl _⟩ (by exact ⟨_, rfl, Or.inr (Or.inr ⟨hok, ee.symm, rfl⟩)⟩)
  refine g_iload_n dX9_stick_0 rfl rfl (g_bipush dX9_stick_1 kbm4 ?_)
  refine g_icmp_ne 18 dX9_stick_3 rfl (by omega) (by omega) (fun c3 => ?_) (fun c3 => ?_)
  · skip
    refine g_iconst dX9_stick_18 (g_ist4 dX9_stick_19 (by decide) rfl (g_iload dX9_stick_21 rfl ?_))
    refine g_if_ne 65 dX9_stick_23 rfl (by omega) (fun c23 => ?_) (fun c23 => ?_)
    · skip
      first | exact L65 1 (Or.inl ⟨rfl, by omega⟩) | exact L65 0 (Or.inr ⟨rfl, by omega⟩) | (exfalso; omega)
    · skip
      refine g_iload_n dX9_stick_26 rfl rfl (g_i2l dX9_stick_27 (by omega) (g_lconst (v := 0) dX9_stick_28 rfl (c2_X9_276 (M := mX9_stick) rfl dX9_stick_29 (cv_X9_71 (M := mX9_stick) rfl dX9_stick_32 (RO.same _ _ _) (Nat.le_of_ble_eq_true rfl) (e_X9_in (by omega) (by omega) (by omega)) <| kI ?_))))
      refine g_if_eq 63 dX9_stick_35 rfl (pI_r _) (fun c35 => ?_) (fun c35 => ?_)
      · have k35 := pI_eq0.mp c35
        refine g_iconst dX9_stick_63 ?_
        exact g_iret dX9_stick_64 rfl rfl ⟨Nat.le_refl _, Nat.le_refl _⟩ (by first | (exfalso; omega) | exact ⟨-1, rfl, Or.inl ⟨by omega, rfl, rfl⟩⟩)
      · have k35 := pI_ne c35
        refine g_iload_n dX9_stick_38 rfl rfl (g_i2l dX9_stick_39 (by omega) (g_lconst (v := 0) dX9_stick_40 rfl (c2_X9_259 (M := mX9_stick) rfl dX9_stick_41 (cv_X9_71 (M := mX9_stick) rfl dX9_stick_44 (RO.same _ _ _) (Nat.le_of_ble_eq_true rfl) (e_X9_in (by omega) (by omega) (by omega)) <| kI ?_))))
        refine g_if_eq 63 dX9_stick_47 rfl (pI_r _) (fun c47 => ?_) (fun c47 => ?_)
        · have k47 := pI_eq0.mp c47
          refine g_iconst dX9_stick_63 ?_
          exact g_iret dX9_stick_64 rfl rfl ⟨Nat.le_refl _, Nat.le_refl _⟩ (by first | (exfalso; omega) | exact ⟨-1, rfl, Or.inl ⟨by omega, rfl, rfl⟩⟩)
        · have k47 := pI_ne c47
          refine g_iload_n dX9_stick_50 rfl rfl (g_i2l dX9_stick_51 (by omega) (g_iload_n dX9_stick_52 rfl rfl (g_i2l dX9_stick_53 (by omega) (c2_X9_259 (M := mX9_stick) rfl dX9_stick_54 (cv_X9_71 (M := mX9_stick) rfl dX9_stick_57 (RO.same _ _ _) (Nat.le_of_ble_eq_true rfl) (e_X9_in (by omega) (by omega) (by omega)) <| kI ?_)))))
          refine g_if_ne 65 dX9_stick_60 rfl (pI_r _) (fun c60 => ?_) (fun c60 => ?_)
          · have k60 := pI_ne c60
            first | exact L65 1 (Or.inl ⟨rfl, by omega⟩) | exact L65 0 (Or.inr ⟨rfl, by omega⟩) | (exfalso; omega)
          · have k60 := pI_eq0.mp c60
            refine g_iconst dX9_stick_63 ?_
            exact g_iret dX9_stick_64 rfl rfl ⟨Nat.le_refl _, Nat.le_refl _⟩ (by first | (exfalso; omega) | exact ⟨-1, rfl, Or.inl ⟨by omega, rfl, rfl⟩⟩)
  · skip
    refine g_iload_n dX9_stick_6 rfl rfl ?_
    refine g_if_ne 18 dX9_stick_7 rfl (by omega) (fun c7 => ?_) (fun c7 => ?_)
    · skip
      refine g_iconst dX9_stick_18 (g_ist4 dX9_stick_19 (by decide) rfl (g_iload dX9_stick_21 rfl ?_))
      refine g_if_ne 65 dX9_stick_23 rfl (by omega) (fun c23 => ?_) (fun c23 => ?_)
      · skip
        first | exact L65 1 (Or.inl ⟨rfl, by omega⟩) | exact L65 0 (Or.inr ⟨rfl, by omega⟩) | (exfalso; omega)
      · skip
        refine g_iload_n dX9_stick_26 rfl rfl (g_i2l dX9_stick_27 (by omega) (g_lconst (v := 0) dX9_stick_28 rfl (c2_X9_276 (M := mX9_stick) rfl dX9_stick_29 (cv_X9_71 (M := mX9_stick) rfl dX9_stick_32 (RO.same _ _ _) (Nat.le_of_ble_eq_true rfl) (e_X9_in (by omega) (by omega) (by omega)) <| kI ?_))))
        refine g_if_eq 63 dX9_stick_35 rfl (pI_r _) (fun c35 => ?_) (fun c35 => ?_)
        · have k35 := pI_eq0.mp c35
          refine g_iconst dX9_stick_63 ?_
          exact g_iret dX9_stick_64 rfl rfl ⟨Nat.le_refl _, Nat.le_refl _⟩ (by first | (exfalso; omega) | exact ⟨-1, rfl, Or.inl ⟨by omega, rfl, rfl⟩⟩)
        · have k35 := pI_ne c35
          refine g_iload_n dX9_stick_38 rfl rfl (g_i2l dX9_stick_39 (by omega) (g_lconst (v := 0) dX9_stick_40 rfl (c2_X9_259 (M := mX9_stick) rfl dX9_stick_41 (cv_X9_71 (M := mX9_stick) rfl dX9_stick_44 (RO.same _ _ _) (Nat.le_of_ble_eq_true rfl) (e_X9_in (by omega) (by omega) (by omega)) <| kI ?_))))
          refine g_if_eq 63 dX9_stick_47 rfl (pI_r _) (fun c47 => ?_) (fun c47 => ?_)
          · have k47 := pI_eq0.mp c47
            refine g_iconst dX9_stick_63 ?_
            exact g_iret dX9_stick_64 rfl rfl ⟨Nat.le_refl _, Nat.le_refl _⟩ (by first | (exfalso; omega) | exact ⟨-1, rfl, Or.inl ⟨by omega, rfl, rfl⟩⟩)
          · have k47 := pI_ne c47
            refine g_iload_n dX9_stick_50 rfl rfl (g_i2l dX9_stick_51 (by omega) (g_iload_n dX9_stick_52 rfl rfl (g_i2l dX9_stick_53 (by omega) (c2_X9_259 (M := mX9_stick) rfl dX9_stick_54 (cv_X9_71 (M := mX9_stick) rfl dX9_stick_57 (RO.same _ _ _) (Nat.le_of_ble_eq_true rfl) (e_X9_in (by omega) (by omega) (by omega)) <| kI ?_)))))
            refine g_if_ne 65 dX9_stick_60 rfl (pI_r _) (fun c60 => ?_) (fun c60 => ?_)
            · have k60 := pI_ne c60
              first | exact L65 1 (Or.inl ⟨rfl, by omega⟩) | exact L65 0 (Or.inr ⟨rfl, by omega⟩) | (exfalso; omega)
            · have k60 := pI_eq0.mp c60
              refine g_iconst dX9_stick_63 ?_
              exact g_iret dX9_stick_64 rfl rfl ⟨Nat.le_refl _, Nat.le_refl _⟩ (by first | (exfalso; omega) | exact ⟨-1, rfl, Or.inl ⟨by omega, rfl, rfl⟩⟩)
    · skip
      refine g_iload_n dX9_stick_10 rfl rfl ?_
      refine g_if_ne 18 dX9_stick_11 rfl (by omega) (fun c11 => ?_) (fun c11 => ?_)
      · skip
        refine g_iconst dX9_stick_18 (g_ist4 dX9_stick_19 (by decide) rfl (g_iload dX9_stick_21 rfl ?_))
        refine g_if_ne 65 dX9_stick_23 rfl (by omega) (fun c23 => ?_) (fun c23 => ?_)
        · skip
          first | exact L65 1 (Or.inl ⟨rfl, by omega⟩) | exact L65 0 (Or.inr ⟨rfl, by omega⟩) | (exfalso; omega)
        · skip
          refine g_iload_n dX9_stick_26 rfl rfl (g_i2l dX9_stick_27 (by omega) (g_lconst (v := 0) dX9_stick_28 rfl (c2_X9_276 (M := mX9_stick) rfl dX9_stick_29 (cv_X9_71 (M := mX9_stick) rfl dX9_stick_32 (RO.same _ _ _) (Nat.le_of_ble_eq_true rfl) (e_X9_in (by omega) (by omega) (by omega)) <| kI ?_))))
          refine g_if_eq 63 dX9_stick_35 rfl (pI_r _) (fun c35 => ?_) (fun c35 => ?_)
          · have k35 := pI_eq0.mp c35
            refine g_iconst dX9_stick_63 ?_
            exact g_iret dX9_stick_64 rfl rfl ⟨Nat.le_refl _, Nat.le_refl _⟩ (by first | (exfalso; omega) | exact ⟨-1, rfl, Or.inl ⟨by omega, rfl, rfl⟩⟩)
          · have k35 := pI_ne c35
            refine g_iload_n dX9_stick_38 rfl rfl (g_i2l dX9_stick_39 (by omega) (g_lconst (v := 0) dX9_stick_40 rfl (c2_X9_259 (M := mX9_stick) rfl dX9_stick_41 (cv_X9_71 (M := mX9_stick) rfl dX9_stick_44 (RO.same _ _ _) (Nat.le_of_ble_eq_true rfl) (e_X9_in (by omega) (by omega) (by omega)) <| kI ?_))))
            refine g_if_eq 63 dX9_stick_47 rfl (pI_r _) (fun c47 => ?_) (fun c47 => ?_)
            · have k47 := pI_eq0.mp c47
              refine g_iconst dX9_stick_63 ?_
              exact g_iret dX9_stick_64 rfl rfl ⟨Nat.le_refl _, Nat.le_refl _⟩ (by first | (exfalso; omega) | exact ⟨-1, rfl, Or.inl ⟨by omega, rfl, rfl⟩⟩)
            · have k47 := pI_ne c47
              refine g_iload_n dX9_stick_50 rfl rfl (g_i2l dX9_stick_51 (by omega) (g_iload_n dX9_stick_52 rfl rfl (g_i2l dX9_stick_53 (by omega) (c2_X9_259 (M := mX9_stick) rfl dX9_stick_54 (cv_X9_71 (M := mX9_stick) rfl dX9_stick_57 (RO.same _ _ _) (Nat.le_of_ble_eq_true rfl) (e_X9_in (by omega) (by omega) (by omega)) <| kI ?_)))))
              refine g_if_ne 65 dX9_stick_60 rfl (pI_r _) (fun c60 => ?_) (fun c60 => ?_)
              · have k60 := pI_ne c60
                first | exact L65 1 (Or.inl ⟨rfl, by omega⟩) | exact L65 0 (Or.inr ⟨rfl, by omega⟩) | (exfalso; omega)
              · have k60 := pI_eq0.mp c60
                refine g_iconst dX9_stick_63 ?_
                exact g_iret dX9_stick_64 rfl rfl ⟨Nat.le_refl _, Nat.le_refl _⟩ (by first | (exfalso; omega) | exact ⟨-1, rfl, Or.inl ⟨by omega, rfl, rfl⟩⟩)
      · skip
        refine g_iconst dX9_stick_14 (g_goto 19 dX9_stick_15 rfl (g_ist4 dX9_stick_19 (by decide) rfl (g_iload dX9_stick_21 rfl ?_)))
        refine g_if_ne 65 dX9_stick_23 rfl (by omega) (fun c23 => ?_) (fun c23 => ?_)
        · skip
          first | exact L65 1 (Or.inl ⟨rfl, by omega⟩) | exact L65 0 (Or.inr ⟨rfl, by omega⟩) | (exfalso; omega)
        · skip
          refine g_iload_n dX9_stick_26 rfl rfl (g_i2l dX9_stick_27 (by omega) (g_lconst (v := 0) dX9_stick_28 rfl (c2_X9_276 (M := mX9_stick) rfl dX9_stick_29 (cv_X9_71 (M := mX9_stick) rfl dX9_stick_32 (RO.same _ _ _) (Nat.le_of_ble_eq_true rfl) (e_X9_in (by omega) (by omega) (by omega)) <| kI ?_))))
          refine g_if_eq 63 dX9_stick_35 rfl (pI_r _) (fun c35 => ?_) (fun c35 => ?_)
          · have k35 := pI_eq0.mp c35
            refine g_iconst dX9_stick_63 ?_
            exact g_iret dX9_stick_64 rfl rfl ⟨Nat.le_refl _, Nat.le_refl _⟩ (by first | (exfalso; omega) | exact ⟨-1, rfl, Or.inl ⟨by omega, rfl, rfl⟩⟩)
          · have k35 := pI_ne c35
            refine g_iload_n dX9_stick_38 rfl rfl (g_i2l dX9_stick_39 (by omega) (g_lconst (v := 0) dX9_stick_40 rfl (c2_X9_259 (M := mX9_stick) rfl dX9_stick_41 (cv_X9_71 (M := mX9_stick) rfl dX9_stick_44 (RO.same _ _ _) (Nat.le_of_ble_eq_true rfl) (e_X9_in (by omega) (by omega) (by omega)) <| kI ?_))))
            refine g_if_eq 63 dX9_stick_47 rfl (pI_r _) (fun c47 => ?_) (fun c47 => ?_)
            · have k47 := pI_eq0.mp c47
              refine g_iconst dX9_stick_63 ?_
              exact g_iret dX9_stick_64 rfl rfl ⟨Nat.le_refl _, Nat.le_refl _⟩ (by first | (exfalso; omega) | exact ⟨-1, rfl, Or.inl ⟨by omega, rfl, rfl⟩⟩)
            · have k47 := pI_ne c47
              refine g_iload_n dX9_stick_50 rfl rfl (g_i2l dX9_stick_51 (by omega) (g_iload_n dX9_stick_52 rfl rfl (g_i2l dX9_stick_53 (by omega) (c2_X9_259 (M := mX9_stick) rfl dX9_stick_54 (cv_X9_71 (M := mX9_stick) rfl dX9_stick_57 (RO.same _ _ _) (Nat.le_of_ble_eq_true rfl) (e_X9_in (by omega) (by omega) (by omega)) <| kI ?_)))))
              refine g_if_ne 65 dX9_stick_60 rfl (pI_r _) (fun c60 => ?_) (fun c60 => ?_)
              · have k60 := pI_ne c60
                first | exact L65 1 (Or.inl ⟨rfl, by omega⟩) | exact L65 0 (Or.inr ⟨rfl, by omega⟩) | (exfalso; omega)
              · have k60 := pI_eq0.mp c60
                refine g_iconst dX9_stick_63 ?_
                exact g_iret dX9_stick_64 rfl rfl ⟨Nat.le_refl _, Nat.le_refl _⟩ (by first | (exfalso; omega) | exact ⟨-1, rfl, Or.inl ⟨by omega, rfl, rfl⟩⟩)
