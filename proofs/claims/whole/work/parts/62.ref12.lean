/-! images and sheets, in the reference -/
theorem go_h {G : GX} {M : MI} {R : Room} {Z : ZT} {y : LY} {pc : Nat} {ls : List (Option Value)} {st : List Value} {h1 h2 : HM} {cs : Nat × Nat} (e : h1 = h2) (k : Go G M R Z y pc ls st h1 cs) : Go G M R Z y pc ls st h2 cs := e ▸ k
def cpR (h : HM) (b a : Nat) : HM := h.sA 151 (fun j => if b ≤ j ∧ j < b + 108 then h.I 151 (j - b + a) else h.I 151 j)
/-- a sheet as the reference has it -/
def ShR (h : HM) (k : Int) (L C : Int) : Prop := (C < 0 ∧ h.I 158 k.toNat = -4) ∨ ((0 ≤ C ∧ C ≤ 40) ∧ (0 ≤ L ∧ L ≤ 2) ∧ h.I 158 k.toNat = L ∧ h.I 159 k.toNat = C)
def rnR (h : HM) (k : Nat) (l n : Int) : HM := ((h.sI 158 k l).sI 159 k n).sA 160 (fun j => if 40 * k ≤ j ∧ j < 40 * k + 40 then 0 else h.I 160 j)
def flI (L C l a c : Int) : Int := if c = 0 then 0 else fltS L C l a c
theorem flI_s {L C l a c v : Int} (hc : 0 ≤ c) (hz : flI L C l a c = 0) (hv : (C < 0 ∧ v = 1) ∨ (0 ≤ C ∧ l ≠ L ∧ v = 3) ∨ (0 ≤ C ∧ l = L ∧ (a + c < 0 ∨ C ≤ a + c) ∧ v = 2) ∨ (0 ≤ C ∧ l = L ∧ 0 ≤ a + c ∧ a + c < C ∧ v = 0)) : flI L C l a (c + 1) = v := by
  unfold flI at hz ⊢
  rw [if_neg (by omega)]
  by_cases q : c = 0
  · subst q
    unfold fltS
    by_cases z1 : C < 0
    · rw [if_pos z1]; omega
    · rw [if_neg z1]
      by_cases z2 : l ≠ L
      · rw [if_pos z2]; omega
      · rw [if_neg z2]
        by_cases z3 : a < 0 ∨ C < a + (0 + 1)
        · rw [if_pos z3]; omega
        · rw [if_neg z3]; omega
  · rw [if_neg q] at hz
    have h0 := (fltS_c L C l a c).2 hz
    unfold fltS
    rw [if_neg (by omega), if_neg (by omega)]
    by_cases z3 : a < 0 ∨ C < a + (c + 1)
    · rw [if_pos z3]; omega
    · rw [if_neg z3]; omega
theorem flI_e {L C l a c : Int} (hc : 0 ≤ c ∧ c ≤ 3) (h : c = 3 ∨ flI L C l a c ≠ 0) : flI L C l a c = fltS L C l a 3 := by
  rcases h with rfl | h
  · unfold flI; rw [if_neg (by omega)]
  · unfold flI at h ⊢
    by_cases q : c = 0
    · rw [if_pos q] at h; omega
    · rw [if_neg q] at h ⊢
      unfold fltS at h ⊢
      by_cases z1 : C < 0
      · rw [if_pos z1, if_pos z1]
      · rw [if_neg z1] at h ⊢
        by_cases z2 : l ≠ L
        · rw [if_pos z2, if_neg z1, if_pos z2]
        · rw [if_neg z2] at h ⊢
          by_cases z3 : a < 0 ∨ C < a + c
          · rw [if_pos z3, if_neg z1, if_neg z2, if_pos (by omega)]
          · rw [if_neg z3] at h; omega
theorem flI_bd (L C l a c : Int) : 0 ≤ flI L C l a c ∧ flI L C l a c ≤ 3 := by
  unfold flI
  by_cases q : c = 0
  · rw [if_pos q]; omega
  · rw [if_neg q]; exact (fltS_c L C l a c).1
def rdSs (S : Nat → Sg) (ns : Int) (R : Nat → Int) (f : Int) : Nat → (Nat → Sg)
  | 0 => S
  | i + 1 => upS (rdSs S ns R f i) (ns + i).toNat (R (f + 3 * i).toNat, R (f + 3 * i + 1).toNat, R (f + 3 * i + 2).toNat)
/-- what reading leaves behind -/
def RdE (h h1 : HM) (S : Nat → Sg) (L C l f n : Int) (R : Nat → Int) (i : Nat) : Prop :=
  h1.L = h.L ∧ (∀ a j : Nat, (a ≠ 151 ∨ j < 71 ∨ 108 ≤ j) → (a ≠ 150 ∨ j ≠ 26) → h1.I a j = h.I a j) ∧
  (((i : Int) = n ∧ RS h1 (rdSs S (h.I 151 71) R f i) ∧ h1.I 151 71 = h.I 151 71 + i ∧ h1.I 150 26 = 0) ∨
   ((i : Int) ≠ n ∧ fltS L C l (f + 3 * i) 3 ≠ 0 ∧ RS h1 (rdSs S (h.I 151 71) R f i) ∧ h1.I 151 71 = h.I 151 71 + i ∧ h1.I 150 26 = fltS L C l (f + 3 * i) 3) ∨
   ((i : Int) ≠ n ∧ fltS L C l (f + 3 * i) 3 = 0 ∧ RS h1 S ∧ h1.I 151 71 = h.I 151 71 ∧ h1.I 150 26 = h.I 150 26))
theorem rs_back {h h1 : HM} {S : Nat → Sg} {ns : Int} {R : Nat → Int} {f : Int} (hS : RS h S) (hn : h.I 151 71 = ns) : ∀ {i : Nat}, RS h1 (rdSs S ns R f i) → h1.I 151 71 = ns + i → RS (h1.sI 151 71 ns) S
  | i, h1S, h1n => by
    have h0 := hS.1
    have hx := h1S.1
    have key : ∀ i j : Nat, (j : Int) < ns → rdSs S ns R f i j = S j := fun i => by
      induction i with
      | zero => intro j hj; rfl
      | succ i ih =>
        intro j hj
        show upS _ _ _ j = _
        unfold upS
        rw [if_neg (by omega)]
        exact ih j hj
    refine ⟨by rw [sI_I, if_pos ⟨rfl, rfl⟩]; omega, fun j j0 j1 => ?_⟩
    rw [sI_I, if_pos ⟨rfl, rfl⟩] at j1
    have hj := h1S.2 j j0 (by omega)
    rw [key i j.toNat (by omega)] at hj
    refine ⟨?_, hj.2⟩
    unfold RSg
    rw [sI_I, if_neg (by omega), sI_I, if_neg (by omega), sI_I, if_neg (by omega)]
    exact hj.1
set_option maxRecDepth 100000 in
set_option maxHeartbeats 1000000 in
theorem e_X9_copies {G : GX} {y : LY} {h : HM} {d : Nat} (hY : Lay y) {b a : Int} (hb : (0 ≤ b ∧ b + 108 ≤ 324) ∧ (0 ≤ a ∧ a + 108 ≤ 324)) (hd : b + 108 ≤ a ∨ a + 108 ≤ b) : EvV G mX9_copies (d) [.ref 150, .int (iZ b), .int (iZ a)] y h (cpR h b.toNat a.toNat) := by
  refine Ev.of rfl [some (.ref 150), some (.int (iZ b)), some (.int (iZ a)), none] rfl (Nat.le_of_ble_eq_true rfl) ?_
  have L2 : ∀ (m : Nat) (i : Int), (m : Int) = 108 - i → 0 ≤ i ∧ i ≤ 108 → Go G mX9_copies (rmo (d) 0 0) (ZM G y 0 0 (fun r h1 => r = none ∧ h1 = cpR h b.toNat a.toNat)) y 2 [some (.ref 150), some (.int (iZ b)), some (.int (iZ a)), some (.int (iZ i))] [] (h.sA 151 (fun j => if b.toNat ≤ j ∧ j < b.toNat + i.toNat then h.I 151 (j - b.toNat + a.toNat) else h.I 151 j)) (0, 0) := by
    intro m
    induction m using Nat.strongRecOn with | _ m ih =>
    intro i hm hi
    refine g_iload_n dX9_copies_2 rfl rfl (g_bipush dX9_copies_3 kb108 ?_)
    refine g_icmp_ge 30 dX9_copies_5 rfl (by omega) (by omega) (fun c5 => ?_) (fun c5 => ?_)
    · skip
      exact g_vret dX9_copies_30 rfl rfl ⟨Nat.le_refl _, Nat.le_refl _⟩ (by obtain rfl : i = 108 := (by omega); exact ⟨rfl, rfl⟩)
    · skip
      refine g_aload_n dX9_copies_8 rfl rfl (gf_X9_7 (M := mX9_copies) rfl dX9_copies_9 (yo150 hY) (yr150_0 hY) (g_iload_n dX9_copies_12 rfl rfl (g_iload_n dX9_copies_13 rfl rfl (g_iadd dX9_copies_14 (g_aload_n dX9_copies_15 rfl rfl (gf_X9_7 (M := mX9_copies) rfl dX9_copies_16 (yo150 hY) (yr150_0 hY) (g_iload_n dX9_copies_19 rfl rfl (g_iload_n dX9_copies_20 rfl rfl (g_iadd dX9_copies_21 (g_iald dX9_copies_22 (ya151 hY) ⟨by omega, by omega, by omega⟩ (g_iast dX9_copies_23 (ya151 hY) ⟨by omega, by omega, by omega⟩ ?_)))))))))))
      rw [sA_I, if_pos rfl, if_neg (by omega), sA_sI]
      refine g_inc3 dX9_copies_24 (by decide) rfl (g_goto 2 dX9_copies_27 rfl ?_)
      have hx := ih (m - 1) (by omega) (i + 1) (by omega) (by omega)
      refine go_h (sA_congr h 151 (fun j => ?_)) hx
      by_cases q : j = (b + i).toNat
      · rw [if_pos q, if_pos (by omega)]; congr 1; omega
      · rw [if_neg q]; by_cases z : b.toNat ≤ j ∧ j < b.toNat + i.toNat; (rw [if_pos z, if_pos (by omega)]); (rw [if_neg z, if_neg (by omega)])
  refine g_iconst dX9_copies_0 (g_ist3 dX9_copies_1 (by decide) rfl ?_)
  have hx := L2 108 0 (by omega) (by omega)
  refine go_h ((sA_congr h 151 (g := h.I 151) (fun j => ?_)).trans (sA_self h 151)) hx
  rw [if_neg (by omega)]
set_option maxRecDepth 100000 in
set_option maxHeartbeats 1000000 in
theorem e_X9_keep {G : GX} {y : LY} {h : HM} {d : Nat} (hY : Lay y) {k : Int} (hk : R32 k) (hK : 0 ≤ k → k < 2 → h.I 152 k.toNat = 0 ∨ h.I 152 k.toNat = 1) : EvQX G mX9_keep (d + 1) [.ref 150, .int (iZ k)] y h (fun v h1 => (¬ (0 ≤ k ∧ k < 2) ∧ v = -1 ∧ h1 = h) ∨ ((0 ≤ k ∧ k < 2) ∧ v = h.I 152 k.toNat ∧ h1 = cpR (h.sI 152 k.toNat 1) (108 * (k + 1)).toNat 0)) := by
  have hzk := pI_01 (0 ≤ k ∧ k ≤ 1)
  have hyk := pI_eq1 (P := 0 ≤ k ∧ k ≤ 1)
  refine Ev.of rfl [some (.ref 150), some (.int (iZ k)), none] rfl (Nat.le_of_ble_eq_true rfl) ?_
  refine g_iload_n dX9_keep_0 rfl rfl (g_i2l dX9_keep_1 (by omega) (g_lconst (v := 0) dX9_keep_2 rfl (g_lconst (v := 1) dX9_keep_3 rfl (cv_X9_71 (M := mX9_keep) rfl dX9_keep_4 (RO.same _ _ _) (Nat.le_of_ble_eq_true rfl) (e_X9_in (by omega) (by omega) (by omega)) <| kI ?_))))
  refine g_if_ne 12 dX9_keep_7 rfl (by omega) (fun c7 => ?_) (fun c7 => ?_)
  · skip
    have hKk := hK (by omega) (by omega)
    refine g_aload_n dX9_keep_12 rfl rfl (gf_X9_13 (M := mX9_keep) rfl dX9_keep_13 (yo150 hY) (yr150_1 hY) (g_iload_n dX9_keep_16 rfl rfl (g_zald dX9_keep_17 (ya152 hY) ⟨by omega, by omega, by omega⟩ (cv_X9_173 (M := mX9_keep) rfl dX9_keep_18 (RO.same _ _ _) (Nat.le_of_ble_eq_true rfl) (e_X9_flag (by omega)) <| kI (g_ist2 dX9_keep_21 (by decide) rfl (g_aload_n dX9_keep_22 rfl rfl (gf_X9_13 (M := mX9_keep) rfl dX9_keep_23 (yo150 hY) (yr150_1 hY) (g_iload_n dX9_keep_26 rfl rfl (g_iconst dX9_keep_27 (g_zast dX9_keep_28 (ya152 hY) ⟨by omega, by omega, by omega⟩ (by omega) (g_aload_n dX9_keep_29 rfl rfl ?_)))))))))))
    refine g_bipush dX9_keep_30 kb108 (g_iload_n dX9_keep_32 rfl rfl (g_iconst dX9_keep_33 (g_iadd dX9_keep_34 (g_imul dX9_keep_35 (g_iconst dX9_keep_36 (cv_X9_320 (M := mX9_keep) rfl dX9_keep_37 (yo150 hY) (RO.same _ _ _) (Nat.le_of_ble_eq_true rfl) (e_X9_copies hY (by omega) (by omega)) <| kV (g_iload_n dX9_keep_40 rfl rfl ?_)))))))
    exact g_iret dX9_keep_41 rfl rfl ⟨Nat.le_refl _, Nat.le_refl _⟩ (by first | exact ⟨-1, rfl, Or.inl ⟨by omega, rfl, rfl⟩⟩ | exact ⟨_, rfl, Or.inr ⟨by omega, rfl, rfl⟩⟩)
  · skip
    refine g_iconst dX9_keep_10 ?_
    exact g_iret dX9_keep_11 rfl rfl ⟨Nat.le_refl _, Nat.le_refl _⟩ (by first | exact ⟨-1, rfl, Or.inl ⟨by omega, rfl, rfl⟩⟩ | exact ⟨_, rfl, Or.inr ⟨by omega, rfl, rfl⟩⟩)
set_option maxRecDepth 100000 in
set_option maxHeartbeats 1000000 in
theorem e_X9_back {G : GX} {y : LY} {h : HM} {d : Nat} (hY : Lay y) {k : Int} (hk : R32 k) (hK : 0 ≤ k → k < 2 → h.I 152 k.toNat = 0 ∨ h.I 152 k.toNat = 1) : EvQX G mX9_back (d + 1) [.ref 150, .int (iZ k)] y h (fun v h1 => (¬ (0 ≤ k ∧ k < 2) ∧ v = -1 ∧ h1 = h) ∨ ((0 ≤ k ∧ k < 2) ∧ ((h.I 152 k.toNat = 0 ∧ v = -2 ∧ h1 = h) ∨ (h.I 152 k.toNat = 1 ∧ v = h.I 151 (108 * (k + 1)).toNat ∧ h1 = cpR h 0 (108 * (k + 1)).toNat)))) := by
  have hzk := pI_01 (0 ≤ k ∧ k ≤ 1)
  have hyk := pI_eq1 (P := 0 ≤ k ∧ k ≤ 1)
  refine Ev.of rfl [some (.ref 150), some (.int (iZ k))] rfl (Nat.le_of_ble_eq_true rfl) ?_
  refine g_iload_n dX9_back_0 rfl rfl (g_i2l dX9_back_1 (by omega) (g_lconst (v := 0) dX9_back_2 rfl (g_lconst (v := 1) dX9_back_3 rfl (cv_X9_71 (M := mX9_back) rfl dX9_back_4 (RO.same _ _ _) (Nat.le_of_ble_eq_true rfl) (e_X9_in (by omega) (by omega) (by omega)) <| kI ?_))))
  refine g_if_ne 12 dX9_back_7 rfl (by omega) (fun c7 => ?_) (fun c7 => ?_)
  · skip
    have hKk := hK (by omega) (by omega)
    refine g_aload_n dX9_back_12 rfl rfl (gf_X9_13 (M := mX9_back) rfl dX9_back_13 (yo150 hY) (yr150_1 hY) (g_iload_n dX9_back_16 rfl rfl (g_zald dX9_back_17 (ya152 hY) ⟨by omega, by omega, by omega⟩ ?_)))
    refine g_if_ne 24 dX9_back_18 rfl (by omega) (fun c18 => ?_) (fun c18 => ?_)
    · skip
      refine g_aload_n dX9_back_24 rfl rfl (g_iconst dX9_back_25 (g_bipush dX9_back_26 kb108 (g_iload_n dX9_back_28 rfl rfl (g_iconst dX9_back_29 (g_iadd dX9_back_30 (g_imul dX9_back_31 (cv_X9_320 (M := mX9_back) rfl dX9_back_32 (yo150 hY) (RO.same _ _ _) (Nat.le_of_ble_eq_true rfl) (e_X9_copies hY (by omega) (by omega)) <| kV (g_aload_n dX9_back_35 rfl rfl (gf_X9_7 (M := mX9_back) rfl dX9_back_36 (yo150 hY) (yr150_0 hY) (g_iconst dX9_back_39 (g_iaN 0 dX9_back_40 (ya151 hY) ⟨by decide, by decide, by decide⟩ rfl ?_)))))))))))
      exact g_iret dX9_back_41 rfl rfl ⟨Nat.le_refl _, Nat.le_refl _⟩ (by first | exact ⟨-1, rfl, Or.inl ⟨by omega, rfl, rfl⟩⟩ | exact ⟨-2, rfl, Or.inr ⟨by omega, Or.inl ⟨by omega, rfl, rfl⟩⟩⟩ | exact ⟨h.I 151 (108 * (k + 1)).toNat, by (show some (Value.int (iZ ((cpR h 0 (108 * (k + 1)).toNat).I 151 0))) = _; congr 3; unfold cpR; rw [sA_I, if_pos rfl, if_pos (by omega)]; congr 1; omega), Or.inr ⟨by omega, Or.inr ⟨by omega, rfl, rfl⟩⟩⟩)
    · skip
      refine g_bipush dX9_back_21 kbm2 ?_
      exact g_iret dX9_back_23 rfl rfl ⟨Nat.le_refl _, Nat.le_refl _⟩ (by first | exact ⟨-1, rfl, Or.inl ⟨by omega, rfl, rfl⟩⟩ | exact ⟨-2, rfl, Or.inr ⟨by omega, Or.inl ⟨by omega, rfl, rfl⟩⟩⟩ | exact ⟨h.I 151 (108 * (k + 1)).toNat, by (show some (Value.int (iZ ((cpR h 0 (108 * (k + 1)).toNat).I 151 0))) = _; congr 3; unfold cpR; rw [sA_I, if_pos rfl, if_pos (by omega)]; congr 1; omega), Or.inr ⟨by omega, Or.inr ⟨by omega, rfl, rfl⟩⟩⟩)
  · skip
    refine g_iconst dX9_back_10 ?_
    exact g_iret dX9_back_11 rfl rfl ⟨Nat.le_refl _, Nat.le_refl _⟩ (by first | exact ⟨-1, rfl, Or.inl ⟨by omega, rfl, rfl⟩⟩ | exact ⟨-2, rfl, Or.inr ⟨by omega, Or.inl ⟨by omega, rfl, rfl⟩⟩⟩ | exact ⟨h.I 151 (108 * (k + 1)).toNat, by (show some (Value.int (iZ ((cpR h 0 (108 * (k + 1)).toNat).I 151 0))) = _; congr 3; unfold cpR; rw [sA_I, if_pos rfl, if_pos (by omega)]; congr 1; omega), Or.inr ⟨by omega, Or.inr ⟨by omega, rfl, rfl⟩⟩⟩)
set_option maxRecDepth 100000 in
set_option maxHeartbeats 1000000 in
theorem e_X9_isSheet {G : GX} {y : LY} {h : HM} {d : Nat} {k l : Int} (hk : R32 k) (hl : R32 l) : EvI G mX9_isSheet (d + 1) [.int (iZ k), .int (iZ l)] y h (pI ((0 ≤ k ∧ k ≤ 3) ∧ (0 ≤ l ∧ l ≤ 2))) := by
  have hzk := pI_01 (0 ≤ k ∧ k ≤ 3)
  have hyk := pI_eq1 (P := 0 ≤ k ∧ k ≤ 3)
  have hzl := pI_01 (0 ≤ l ∧ l ≤ 2)
  have hyl := pI_eq1 (P := 0 ≤ l ∧ l ≤ 2)
  refine Ev.of rfl [some (.int (iZ k)), some (.int (iZ l))] rfl (Nat.le_of_ble_eq_true rfl) ?_
  refine g_iload_n dX9_isSheet_0 rfl rfl (g_i2l dX9_isSheet_1 (by omega) (g_lconst (v := 0) dX9_isSheet_2 rfl (c2_X9_324 (M := mX9_isSheet) rfl dX9_isSheet_3 (cv_X9_71 (M := mX9_isSheet) rfl dX9_isSheet_6 (RO.same _ _ _) (Nat.le_of_ble_eq_true rfl) (e_X9_in (by omega) (by omega) (by omega)) <| kI ?_))))
  refine g_if_eq 28 dX9_isSheet_9 rfl (by omega) (fun c9 => ?_) (fun c9 => ?_)
  · skip
    refine g_iconst dX9_isSheet_28 ?_
    exact g_zret dX9_isSheet_29 rfl rfl ⟨Nat.le_refl _, Nat.le_refl _⟩ (by omega) (by first | exact ⟨someI (pI_t (by omega)).symm, rfl⟩ | exact ⟨someI (pI_f (by omega)).symm, rfl⟩)
  · skip
    refine g_iload_n dX9_isSheet_12 rfl rfl (g_i2l dX9_isSheet_13 (by omega) (g_lconst (v := 0) dX9_isSheet_14 rfl (c2_X9_278 (M := mX9_isSheet) rfl dX9_isSheet_15 (cv_X9_71 (M := mX9_isSheet) rfl dX9_isSheet_18 (RO.same _ _ _) (Nat.le_of_ble_eq_true rfl) (e_X9_in (by omega) (by omega) (by omega)) <| kI ?_))))
    refine g_if_eq 28 dX9_isSheet_21 rfl (by omega) (fun c21 => ?_) (fun c21 => ?_)
    · skip
      refine g_iconst dX9_isSheet_28 ?_
      exact g_zret dX9_isSheet_29 rfl rfl ⟨Nat.le_refl _, Nat.le_refl _⟩ (by omega) (by first | exact ⟨someI (pI_t (by omega)).symm, rfl⟩ | exact ⟨someI (pI_f (by omega)).symm, rfl⟩)
    · skip
      refine g_iconst dX9_isSheet_24 (g_goto 29 dX9_isSheet_25 rfl ?_)
      exact g_zret dX9_isSheet_29 rfl rfl ⟨Nat.le_refl _, Nat.le_refl _⟩ (by omega) (by first | exact ⟨someI (pI_t (by omega)).symm, rfl⟩ | exact ⟨someI (pI_f (by omega)).symm, rfl⟩)
set_option maxRecDepth 100000 in
set_option maxHeartbeats 1000000 in
theorem e_X9_sheet {G : GX} {y : LY} {h : HM} {d : Nat} (hY : Lay y) {k l n : Int} (hk : R32 k) (hl : R32 l) (hn : R32 n) : EvQX G mX9_sheet (d + 2) [.ref 150, .int (iZ k), .int (iZ l), .int (iZ n)] y h (fun v h1 => (¬ ((0 ≤ k ∧ k < 4) ∧ (0 ≤ l ∧ l ≤ 2) ∧ n ≤ 40) ∧ v = -1 ∧ h1 = h) ∨ (((0 ≤ k ∧ k < 4) ∧ (0 ≤ l ∧ l ≤ 2) ∧ n ≤ 40) ∧ ((n < 0 ∧ v = -14 ∧ h1 = h) ∨ (0 ≤ n ∧ v = 1 ∧ h1 = rnR h k.toNat l n)))) := by
  have hzs := pI_01 ((0 ≤ k ∧ k ≤ 3) ∧ (0 ≤ l ∧ l ≤ 2))
  have hys := pI_eq1 (P := (0 ≤ k ∧ k ≤ 3) ∧ (0 ≤ l ∧ l ≤ 2))
  refine Ev.of rfl [some (.ref 150), some (.int (iZ k)), some (.int (iZ l)), some (.int (iZ n)), none] rfl (Nat.le_of_ble_eq_true rfl) ?_
  have L40 : ∀ (m : Nat) (i : Int), (m : Int) = 40 - i → 0 ≤ i ∧ i ≤ 40 → ((0 ≤ k ∧ k < 4) ∧ (0 ≤ l ∧ l ≤ 2) ∧ n ≤ 40) → 0 ≤ n → Go G mX9_sheet (rmo (d + 2) 0 0) (ZM G y 0 0 (fun r h1 => ∃ v_ : Int, r = some (.int (iZ v_)) ∧ (fun v h1 => (¬ ((0 ≤ k ∧ k < 4) ∧ (0 ≤ l ∧ l ≤ 2) ∧ n ≤ 40) ∧ v = -1 ∧ h1 = h) ∨ (((0 ≤ k ∧ k < 4) ∧ (0 ≤ l ∧ l ≤ 2) ∧ n ≤ 40) ∧ ((n < 0 ∧ v = -14 ∧ h1 = h) ∨ (0 ≤ n ∧ v = 1 ∧ h1 = rnR h k.toNat l n)))) v_ h1)) y 40 [some (.ref 150), some (.int (iZ k)), some (.int (iZ l)), some (.int (iZ n)), some (.int (iZ i))] [] (((h.sI 158 k.toNat l).sI 159 k.toNat n).sA 160 (fun j => if 40 * k.toNat ≤ j ∧ j < 40 * k.toNat + i.toNat then 0 else h.I 160 j)) (0, 0) := by
    intro m
    induction m using Nat.strongRecOn with | _ m ih =>
    intro i hm hi hok hn0
    refine g_iload dX9_sheet_40 rfl (g_bipush dX9_sheet_42 kb40 ?_)
    refine g_icmp_ge 66 dX9_sheet_44 rfl (by omega) (by omega) (fun c44 => ?_) (fun c44 => ?_)
    · skip
      refine g_iconst dX9_sheet_66 ?_
      exact g_iret dX9_sheet_67 rfl rfl ⟨Nat.le_refl _, Nat.le_refl _⟩ (by obtain rfl : i = 40 := (by omega); exact ⟨1, rfl, Or.inr ⟨hok, Or.inr ⟨hn0, rfl, rfl⟩⟩⟩)
    · skip
      refine g_aload_n dX9_sheet_47 rfl rfl (gf_X9_40 (M := mX9_sheet) rfl dX9_sheet_48 (yo150 hY) (yr150_25 hY) (g_bipush dX9_sheet_51 kb40 (g_iload_n dX9_sheet_53 rfl rfl (g_imul dX9_sheet_54 (g_iload dX9_sheet_55 rfl (g_iadd dX9_sheet_57 (g_iconst dX9_sheet_58 (g_iast dX9_sheet_59 (ya160 hY) ⟨by omega, by omega, by omega⟩ ?_))))))))
      rw [sA_sI]
      refine g_inc4 dX9_sheet_60 (by decide) rfl (g_goto 40 dX9_sheet_63 rfl ?_)
      have hx := ih (m - 1) (by omega) (i + 1) (by omega) (by omega) hok hn0
      refine go_h (sA_congr _ 160 (fun j => ?_)) hx
      by_cases q : j = (40 * k + i).toNat
      · rw [if_pos q, if_pos (by omega)]
      · rw [if_neg q]; by_cases z : 40 * k.toNat ≤ j ∧ j < 40 * k.toNat + i.toNat; (rw [if_pos z, if_pos (by omega)]); (rw [if_neg z, if_neg (by omega)])
  refine g_iload_n dX9_sheet_0 rfl rfl (g_iload_n dX9_sheet_1 rfl rfl (cv_X9_326 (M := mX9_sheet) rfl dX9_sheet_2 (RO.same _ _ _) (Nat.le_of_ble_eq_true rfl) (e_X9_isSheet (by omega) (by omega)) <| kI ?_))
  refine g_if_eq 14 dX9_sheet_5 rfl (by omega) (fun c5 => ?_) (fun c5 => ?_)
  · skip
    refine g_iconst dX9_sheet_14 ?_
    exact g_iret dX9_sheet_15 rfl rfl ⟨Nat.le_refl _, Nat.le_refl _⟩ (by first | exact ⟨-1, rfl, Or.inl ⟨by omega, rfl, rfl⟩⟩ | exact ⟨-14, rfl, Or.inr ⟨by omega, Or.inl ⟨by omega, rfl, rfl⟩⟩⟩)
  · skip
    refine g_iload_n dX9_sheet_8 rfl rfl (g_bipush dX9_sheet_9 kb40 ?_)
    refine g_icmp_le 16 dX9_sheet_11 rfl (by omega) (by omega) (fun c11 => ?_) (fun c11 => ?_)
    · skip
      refine g_iload_n dX9_sheet_16 rfl rfl ?_
      refine g_if_ge 23 dX9_sheet_17 rfl (by omega) (fun c17 => ?_) (fun c17 => ?_)
      · skip
        refine g_aload_n dX9_sheet_23 rfl rfl (gf_X9_34 (M := mX9_sheet) rfl dX9_sheet_24 (yo150 hY) (yr150_23 hY) (g_iload_n dX9_sheet_27 rfl rfl (g_iload_n dX9_sheet_28 rfl rfl (g_iast dX9_sheet_29 (ya158 hY) ⟨by omega, by omega, by omega⟩ (g_aload_n dX9_sheet_30 rfl rfl (gf_X9_37 (M := mX9_sheet) rfl dX9_sheet_31 (yo150 hY) (yr150_24 hY) (g_iload_n dX9_sheet_34 rfl rfl (g_iload_n dX9_sheet_35 rfl rfl (g_iast dX9_sheet_36 (ya159 hY) ⟨by omega, by omega, by omega⟩ (g_iconst dX9_sheet_37 (g_ist4 dX9_sheet_38 (by decide) rfl ?_)))))))))))
        have hx := L40 40 0 (by omega) (by omega) (by omega) (by omega)
        refine go_h ((sA_congr _ 160 (g := ((h.sI 158 k.toNat l).sI 159 k.toNat n).I 160) (fun j => ?_)).trans (sA_self ((h.sI 158 k.toNat l).sI 159 k.toNat n) 160)) hx
        rw [if_neg (by omega), sI_I, if_neg (by omega), sI_I, if_neg (by omega)]
      · skip
        refine g_bipush dX9_sheet_20 kbm14 ?_
        exact g_iret dX9_sheet_22 rfl rfl ⟨Nat.le_refl _, Nat.le_refl _⟩ (by first | exact ⟨-1, rfl, Or.inl ⟨by omega, rfl, rfl⟩⟩ | exact ⟨-14, rfl, Or.inr ⟨by omega, Or.inl ⟨by omega, rfl, rfl⟩⟩⟩)
    · skip
      refine g_iconst dX9_sheet_14 ?_
      exact g_iret dX9_sheet_15 rfl rfl ⟨Nat.le_refl _, Nat.le_refl _⟩ (by first | exact ⟨-1, rfl, Or.inl ⟨by omega, rfl, rfl⟩⟩ | exact ⟨-14, rfl, Or.inr ⟨by omega, Or.inl ⟨by omega, rfl, rfl⟩⟩⟩)
set_option maxRecDepth 100000 in
set_option maxHeartbeats 1000000 in
theorem e_X9_lay {G : GX} {y : LY} {h : HM} {d : Nat} (hY : Lay y) {k i v L C : Int} (hk : R32 k) (hi : R32 i) (hv : R32 v) (hL : 0 ≤ k → k < 4 → ShR h k L C) : EvQX G mX9_lay (d + 2) [.ref 150, .int (iZ k), .int (iZ i), .int (iZ v)] y h (fun z h1 => (¬ (0 ≤ k ∧ k < 4) ∧ z = -1 ∧ h1 = h) ∨ ((0 ≤ k ∧ k < 4) ∧ ((fltS L C L i 1 ≠ 0 ∧ z = -10 - fltS L C L i 1 ∧ h1 = h) ∨ (fltS L C L i 1 = 0 ∧ z = 1 ∧ h1 = h.sI 160 (40 * k + i).toNat (putS L v))))) := by
  have hzs := pI_01 ((0 ≤ k ∧ k ≤ 3) ∧ (0 ≤ (0 : Int) ∧ (0 : Int) ≤ 2))
  have hys := pI_eq1 (P := (0 ≤ k ∧ k ≤ 3) ∧ (0 ≤ (0 : Int) ∧ (0 : Int) ≤ 2))
  have hfl : (C < 0 ∧ fltS L C L i 1 = 1) ∨ (0 ≤ C ∧ (i < 0 ∨ C ≤ i) ∧ fltS L C L i 1 = 2) ∨ (0 ≤ C ∧ 0 ≤ i ∧ i < C ∧ fltS L C L i 1 = 0) := by
    unfold fltS
    by_cases z1 : C < 0
    · rw [if_pos z1]; omega
    · rw [if_neg z1, if_neg (fun z => z rfl)]
      by_cases z3 : i < 0 ∨ C < i + 1
      · rw [if_pos z3]; omega
      · rw [if_neg z3]; omega
  have hzu := pI_01 (0 ≤ i ∧ i ≤ h.I 159 k.toNat - 1)
  have hyu := pI_eq1 (P := 0 ≤ i ∧ i ≤ h.I 159 k.toNat - 1)
  refine Ev.of rfl [some (.ref 150), some (.int (iZ k)), some (.int (iZ i)), some (.int (iZ v))] rfl (Nat.le_of_ble_eq_true rfl) ?_
  refine g_iload_n dX9_lay_0 rfl rfl (g_iconst dX9_lay_1 (cv_X9_326 (M := mX9_lay) rfl dX9_lay_2 (RO.same _ _ _) (Nat.le_of_ble_eq_true rfl) (e_X9_isSheet (by omega) (by omega)) <| kI ?_))
  refine g_if_ne 10 dX9_lay_5 rfl (by omega) (fun c5 => ?_) (fun c5 => ?_)
  · skip
    have hLk := hL (by omega) (by omega)
    unfold ShR at hLk
    refine g_aload_n dX9_lay_10 rfl rfl (gf_X9_34 (M := mX9_lay) rfl dX9_lay_11 (yo150 hY) (yr150_23 hY) (g_iload_n dX9_lay_14 rfl rfl (g_iald dX9_lay_15 (ya158 hY) ⟨by omega, by omega, by omega⟩ (g_bipush dX9_lay_16 kbm4 ?_))))
    refine g_icmp_ne 24 dX9_lay_18 rfl (by omega) (by omega) (fun c18 => ?_) (fun c18 => ?_)
    · skip
      refine g_iload_n dX9_lay_24 rfl rfl (g_i2l dX9_lay_25 (by omega) (g_lconst (v := 0) dX9_lay_26 rfl (g_aload_n dX9_lay_27 rfl rfl (gf_X9_37 (M := mX9_lay) rfl dX9_lay_28 (yo150 hY) (yr150_24 hY) (g_iload_n dX9_lay_31 rfl rfl (g_iald dX9_lay_32 (ya159 hY) ⟨by omega, by omega, by omega⟩ (g_iconst dX9_lay_33 (g_isub dX9_lay_34 (g_i2l dX9_lay_35 (by omega) (cv_X9_71 (M := mX9_lay) rfl dX9_lay_36 (RO.same _ _ _) (Nat.le_of_ble_eq_true rfl) (e_X9_in (by omega) (by omega) (by omega)) <| kI ?_))))))))))
      refine g_if_ne 45 dX9_lay_39 rfl (by omega) (fun c39 => ?_) (fun c39 => ?_)
      · skip
        refine g_aload_n dX9_lay_45 rfl rfl (gf_X9_40 (M := mX9_lay) rfl dX9_lay_46 (yo150 hY) (yr150_25 hY) (g_bipush dX9_lay_49 kb40 (g_iload_n dX9_lay_51 rfl rfl (g_imul dX9_lay_52 (g_iload_n dX9_lay_53 rfl rfl (g_iadd dX9_lay_54 (g_aload_n dX9_lay_55 rfl rfl (gf_X9_34 (M := mX9_lay) rfl dX9_lay_56 (yo150 hY) (yr150_23 hY) (g_iload_n dX9_lay_59 rfl rfl (g_iald dX9_lay_60 (ya158 hY) ⟨by omega, by omega, by omega⟩ ?_))))))))))
        refine g_if_ne 69 dX9_lay_61 rfl (by omega) (fun c61 => ?_) (fun c61 => ?_)
        · skip
          refine g_aload_n dX9_lay_69 rfl rfl (gf_X9_34 (M := mX9_lay) rfl dX9_lay_70 (yo150 hY) (yr150_23 hY) (g_iload_n dX9_lay_73 rfl rfl (g_iald dX9_lay_74 (ya158 hY) ⟨by omega, by omega, by omega⟩ (g_iconst dX9_lay_75 ?_))))
          refine g_icmp_ne 84 dX9_lay_76 rfl (by omega) (by omega) (fun c76 => ?_) (fun c76 => ?_)
          · skip
            refine g_iload_n dX9_lay_84 rfl rfl ?_
            first | rw [show i2bZ v = putS L v by (unfold putS; rw [if_pos (by omega)])] | rw [show i2sZ v = putS L v by (unfold putS; rw [if_neg (by omega), if_pos (by omega)])] | rw [show iZ v = iZ (putS L v) by (unfold putS; rw [if_neg (by omega), if_neg (by omega)])]
            refine g_iast dX9_lay_85 (ya160 hY) ⟨by omega, by omega, by omega⟩ (g_iconst dX9_lay_86 ?_)
            exact g_iret dX9_lay_87 rfl rfl ⟨Nat.le_refl _, Nat.le_refl _⟩ (by first | exact ⟨-1, rfl, Or.inl ⟨by omega, rfl, rfl⟩⟩ | exact ⟨_, rfl, Or.inr ⟨by omega, Or.inl ⟨by omega, by omega, rfl⟩⟩⟩ | exact ⟨1, rfl, Or.inr ⟨by omega, Or.inr ⟨by omega, rfl, rfl⟩⟩⟩)
          · skip
            refine g_iload_n dX9_lay_79 rfl rfl (g_i2s dX9_lay_80 (g_goto 85 dX9_lay_81 rfl ?_))
            first | rw [show i2bZ v = putS L v by (unfold putS; rw [if_pos (by omega)])] | rw [show i2sZ v = putS L v by (unfold putS; rw [if_neg (by omega), if_pos (by omega)])] | rw [show iZ v = iZ (putS L v) by (unfold putS; rw [if_neg (by omega), if_neg (by omega)])]
            refine g_iast dX9_lay_85 (ya160 hY) ⟨by omega, by omega, by omega⟩ (g_iconst dX9_lay_86 ?_)
            exact g_iret dX9_lay_87 rfl rfl ⟨Nat.le_refl _, Nat.le_refl _⟩ (by first | exact ⟨-1, rfl, Or.inl ⟨by omega, rfl, rfl⟩⟩ | exact ⟨_, rfl, Or.inr ⟨by omega, Or.inl ⟨by omega, by omega, rfl⟩⟩⟩ | exact ⟨1, rfl, Or.inr ⟨by omega, Or.inr ⟨by omega, rfl, rfl⟩⟩⟩)
        · skip
          refine g_iload_n dX9_lay_64 rfl rfl (g_i2b dX9_lay_65 (g_goto 85 dX9_lay_66 rfl ?_))
          first | rw [show i2bZ v = putS L v by (unfold putS; rw [if_pos (by omega)])] | rw [show i2sZ v = putS L v by (unfold putS; rw [if_neg (by omega), if_pos (by omega)])] | rw [show iZ v = iZ (putS L v) by (unfold putS; rw [if_neg (by omega), if_neg (by omega)])]
          refine g_iast dX9_lay_85 (ya160 hY) ⟨by omega, by omega, by omega⟩ (g_iconst dX9_lay_86 ?_)
          exact g_iret dX9_lay_87 rfl rfl ⟨Nat.le_refl _, Nat.le_refl _⟩ (by first | exact ⟨-1, rfl, Or.inl ⟨by omega, rfl, rfl⟩⟩ | exact ⟨_, rfl, Or.inr ⟨by omega, Or.inl ⟨by omega, by omega, rfl⟩⟩⟩ | exact ⟨1, rfl, Or.inr ⟨by omega, Or.inr ⟨by omega, rfl, rfl⟩⟩⟩)
      · skip
        refine g_bipush dX9_lay_42 kbm12 ?_
        exact g_iret dX9_lay_44 rfl rfl ⟨Nat.le_refl _, Nat.le_refl _⟩ (by first | exact ⟨-1, rfl, Or.inl ⟨by omega, rfl, rfl⟩⟩ | exact ⟨_, rfl, Or.inr ⟨by omega, Or.inl ⟨by omega, by omega, rfl⟩⟩⟩ | exact ⟨1, rfl, Or.inr ⟨by omega, Or.inr ⟨by omega, rfl, rfl⟩⟩⟩)
    · skip
      refine g_bipush dX9_lay_21 kbm11 ?_
      exact g_iret dX9_lay_23 rfl rfl ⟨Nat.le_refl _, Nat.le_refl _⟩ (by first | exact ⟨-1, rfl, Or.inl ⟨by omega, rfl, rfl⟩⟩ | exact ⟨_, rfl, Or.inr ⟨by omega, Or.inl ⟨by omega, by omega, rfl⟩⟩⟩ | exact ⟨1, rfl, Or.inr ⟨by omega, Or.inr ⟨by omega, rfl, rfl⟩⟩⟩)
  · skip
    refine g_iconst dX9_lay_8 ?_
    exact g_iret dX9_lay_9 rfl rfl ⟨Nat.le_refl _, Nat.le_refl _⟩ (by first | exact ⟨-1, rfl, Or.inl ⟨by omega, rfl, rfl⟩⟩ | exact ⟨_, rfl, Or.inr ⟨by omega, Or.inl ⟨by omega, by omega, rfl⟩⟩⟩ | exact ⟨1, rfl, Or.inr ⟨by omega, Or.inr ⟨by omega, rfl, rfl⟩⟩⟩)
set_option maxRecDepth 100000 in
set_option maxHeartbeats 1000000 in
theorem e_X9_torn {G : GX} {y : LY} {h : HM} {d : Nat} (hY : Lay y) : EvI G mX9_torn (d) [.ref 150] y h (h.I 150 26) := by
  refine Ev.of rfl [some (.ref 150)] rfl (Nat.le_of_ble_eq_true rfl) ?_
  refine g_aload_n dX9_torn_0 rfl rfl (gf_X9_335 (M := mX9_torn) rfl dX9_torn_1 (yo150 hY) ?_)
  exact g_iret dX9_torn_4 rfl rfl ⟨Nat.le_refl _, Nat.le_refl _⟩ (by exact ⟨rfl, rfl⟩)
