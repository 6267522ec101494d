theorem bez : ∀ (b : Nat) (a : Int), 0 ≤ a → ∃ u v : Int, u * a + v * b = (Int.gcd a b : Int) := by
  intro b
  induction b using Nat.strongRecOn with | _ b ih =>
  intro a ha
  by_cases hb : b = 0
  · subst hb
    exact ⟨1, 0, by simp [Int.natAbs_of_nonneg ha]⟩
  · obtain ⟨n, rfl⟩ := Int.eq_ofNat_of_zero_le ha
    obtain ⟨u, v, e⟩ := ih (n % b) (Nat.mod_lt _ (by omega)) (b : Int) (by omega)
    refine ⟨v, u - v * ((n : Int) / b), ?_⟩
    have e2 : Int.gcd (b : Int) ((n % b : Nat) : Int) = Int.gcd (n : Int) (b : Int) := by
      show Nat.gcd b (n % b) = Nat.gcd n b
      rw [Nat.gcd_comm b (n % b), ← Nat.gcd_rec, Nat.gcd_comm]
    rw [e2] at e
    have e3 : ((n % b : Nat) : Int) = (n : Int) - b * ((n : Int) / b) := by
      have := Int.emod_add_mul_ediv (n : Int) (b : Int)
      rw [Int.natCast_emod]; omega
    rw [e3] at e
    rw [← e, Int.mul_sub, Int.sub_mul]
    rw [show v * ((b : Int) * ((n : Int) / b)) = v * ((n : Int) / b) * b by rw [Int.mul_comm (b : Int), Int.mul_assoc]]
    omega
/-- an inverse, where there is one -/
theorem inv_ex {a m : Int} (ha : 0 ≤ a) (hm : 2 ≤ m) (hg : Int.gcd a m = 1) : ∃ i : Int, 1 ≤ i ∧ i < m ∧ a * i % m = 1 := by
  obtain ⟨n, rfl⟩ := Int.eq_ofNat_of_zero_le (show 0 ≤ m by omega)
  obtain ⟨u, v, e⟩ := bez n a ha
  rw [hg] at e
  have hb := em_bd u (d := (n : Int)) (by omega)
  have h1 : a * (u % n) % n = 1 := by
    rw [Int.mul_emod, Int.emod_emod_of_dvd _ (Int.dvd_refl _), ← Int.mul_emod]
    rw [show a * u = 1 + n * (-v) by rw [Int.mul_neg, Int.mul_comm a u, Int.mul_comm (n : Int) v]; omega, Int.add_mul_emod_self_left]
    exact Int.emod_eq_of_lt (by omega) (by omega)
  refine ⟨u % n, ?_, hb.2, h1⟩
  rcases (by omega : u % n = 0 ∨ 1 ≤ u % n) with z | z
  · rw [z] at h1; simp at h1
  · exact z
theorem mul_bd {a b A B : Int} (h0 : 0 ≤ a) (h1 : a ≤ A) (h2 : 0 ≤ b) (h3 : b ≤ B) : 0 ≤ a * b ∧ a * b ≤ A * B := ⟨Int.mul_nonneg h0 h2, Int.mul_le_mul h1 h3 h2 (by omega)⟩
def InvP (a m v : Int) : Prop := 0 ≤ v ∧ v < 181 ∧ (m = 1 ∨ a * v % m = 1)
set_option maxRecDepth 100000 in
set_option maxHeartbeats 4000000 in
theorem e_X2_inverseOf {G : GX} {y : LY} {h : HM} {d : Nat} {a k : Int} (ha : 0 < a ∧ a ≤ 35161828327081) (hk : 1 ≤ k ∧ k ≤ 181) (hg : Int.gcd a k = 1) : EvQL G mX2_inverseOf (d + 1) [.long (lZ a), .long (lZ k)] y h (InvP a k) := by
  refine Ev.of rfl [some (.long (lZ a)), none, some (.long (lZ k)), none, none, none] rfl (Nat.le_of_ble_eq_true rfl) ?_
  have L3 : ∀ (m : Nat) (i : Int), m = (k - i).toNat → 1 ≤ i ∧ (i ≤ k) → (∀ j : Int, 1 ≤ j → j < i → ¬ a * j % k = 1) → Go G mX2_inverseOf (rmo (d + 1) 0 0) (ZM G y 0 0 (fun r h1 => ∃ v_ : Int, r = some (.long (lZ v_)) ∧ h1 = h ∧ (InvP a k) v_)) y 3 [some (.long (lZ a)), none, some (.long (lZ k)), none, some (.long (lZ i)), none] [] h (0, 0) := by
    intro m
    induction m using Nat.strongRecOn with | _ m ih =>
    intro i hm hi hno
    have hmb := mul_bd (a := a) (b := i) (A := 35161828327081) (B := 181) (by omega) (by omega) (by omega) (by omega)
    have hem := em_bd (a * i) (d := k) (by omega)
    refine g_lload dX2_inverseOf_3 rfl (g_lload_n dX2_inverseOf_5 rfl rfl ?_)
    refine g_lcmp_ge 35 dX2_inverseOf_6 dX2_inverseOf_7 rfl (by omega) (by omega) (fun c6 => ?_) (fun c6 => ?_)
    · skip
      refine g_lconst (v := 0) dX2_inverseOf_35 rfl ?_
      exact g_lret dX2_inverseOf_36 rfl rfl ⟨Nat.le_refl _, Nat.le_refl _⟩ (by refine ⟨0, rfl, rfl, by omega, by omega, ?_⟩; (rcases (by omega : k = 1 ∨ 2 ≤ k) with z | z; exact Or.inl z; (obtain ⟨j, j0, j1, j2⟩ := inv_ex (by omega) z hg; exact absurd j2 (hno j j0 (by omega)))))
    · skip
      refine g_lload_n dX2_inverseOf_10 rfl rfl (g_lload dX2_inverseOf_11 rfl (g_lmul dX2_inverseOf_13 (g_lload_n dX2_inverseOf_14 rfl rfl (cv_X2_73 (M := mX2_inverseOf) rfl dX2_inverseOf_15 (RO.same _ _ _) (Nat.le_of_ble_eq_true rfl) (e_X8_rest (by omega) (by omega)) <| kL (g_lconst (v := 1) dX2_inverseOf_18 rfl ?_)))))
      refine g_lcmp_ne 26 dX2_inverseOf_19 dX2_inverseOf_20 rfl (by omega) (by omega) (fun c19 => ?_) (fun c19 => ?_)
      · skip
        refine g_lload dX2_inverseOf_26 rfl (g_lconst (v := 1) dX2_inverseOf_28 rfl (g_ladd dX2_inverseOf_29 (g_lst4 dX2_inverseOf_30 (by decide) rfl (g_goto 3 dX2_inverseOf_32 rfl ?_))))
        refine ih _ (by omega) (i + 1) rfl (by omega) (fun j j0 j1 => ?_)
        rcases (by omega : j < i ∨ j = i) with z | rfl
        · exact hno j j0 z
        · assumption
      · skip
        refine g_lload dX2_inverseOf_23 rfl ?_
        exact g_lret dX2_inverseOf_25 rfl rfl ⟨Nat.le_refl _, Nat.le_refl _⟩ (by exact ⟨i, rfl, rfl, by omega, by omega, Or.inr (by omega)⟩)
  refine g_lconst (v := 1) dX2_inverseOf_0 rfl (g_lst4 dX2_inverseOf_1 (by decide) rfl ?_)
  exact L3 _ 1 rfl (by omega) (fun j j0 j1 => absurd j1 (by omega))
/-- the finder, n levels of it -/
def lcI (a b : Int) : Int := a * (b / (Int.gcd a b : Int))
def Lvl (h : HM) (l : Nat) : Prop := FB h (76 + l) ∧ (1 ≤ h.L 73 l ∧ h.L 73 l ≤ 181 ^ l) ∧ h.L 74 l = (Int.gcd (h.L 73 l) (rn (c5 h (76 + l))) : Int) ∧ h.L 73 (l + 1) = lcI (h.L 73 l) (rn (c5 h (76 + l))) ∧ InvP (h.L 73 l / h.L 74 l) (rn (c5 h (76 + l)) / h.L 74 l) (h.L 75 l)
def FSt (h : HM) (n : Nat) : Prop := h.I 71 4 = n ∧ n ≤ 6 ∧ h.L 73 0 = 1 ∧ (1 ≤ h.L 73 n ∧ h.L 73 n ≤ 181 ^ n) ∧ ∀ l, l < n → Lvl h l
theorem p181 {n : Nat} (h : n ≤ 6) : (181 : Int) ^ n ≤ 35161828327081 ∧ 1 ≤ (181 : Int) ^ n := by
  rcases (by omega : n = 0 ∨ n = 1 ∨ n = 2 ∨ n = 3 ∨ n = 4 ∨ n = 5 ∨ n = 6) with e | e | e | e | e | e | e <;> rw [e] <;> decide
def alH (h : HM) (b : Nat) (v : Int) : HM := ((((wr5 h (76 + (h.I 71 4).toNat) (c5 h b)).sL 74 (h.I 71 4).toNat (Int.gcd (h.L 73 (h.I 71 4).toNat) (rn (c5 h b)) : Int)).sL 75 (h.I 71 4).toNat v).sL 73 (h.I 71 4 + 1).toNat (lcI (h.L 73 (h.I 71 4).toNat) (rn (c5 h b)))).sI 71 4 (h.I 71 4 + 1)
theorem div_cop {a b : Int} (ha : 0 < a) (hb : 0 < b) : Int.gcd (a / (Int.gcd a b : Int)) (b / (Int.gcd a b : Int)) = 1 := by
  have hp : 0 < Int.gcd a b := Int.gcd_pos_of_ne_zero_left b (by omega)
  obtain ⟨n, rfl⟩ := Int.eq_ofNat_of_zero_le (Int.le_of_lt ha)
  obtain ⟨m, rfl⟩ := Int.eq_ofNat_of_zero_le (Int.le_of_lt hb)
  have hp2 : 0 < Nat.gcd n m := hp
  show Int.gcd ((n : Int) / (Nat.gcd n m : Nat)) ((m : Int) / (Nat.gcd n m : Nat)) = 1
  rw [← Int.natCast_ediv, ← Int.natCast_ediv]
  show Nat.gcd (n / Nat.gcd n m) (m / Nat.gcd n m) = 1
  rw [Nat.gcd_div (Nat.gcd_dvd_left n m) (Nat.gcd_dvd_right n m), Nat.div_self hp2]
set_option maxRecDepth 100000 in
set_option maxHeartbeats 4000000 in
theorem e_X2_addLevel {G : GX} {y : LY} {h : HM} {d : Nat} (hY : Lay y) {b : Nat} (ho : IsO y b 1) (hF : FB h b) (hb : b < 76 ∨ 82 ≤ b) (hn : 0 ≤ h.I 71 4 ∧ h.I 71 4 ≤ 5) (hs : 1 ≤ h.L 73 (h.I 71 4).toNat ∧ h.L 73 (h.I 71 4).toNat ≤ 35161828327081) : EvQV G mX2_addLevel (d + 2) [.ref 71, .ref b] y h (fun h1 => ∃ v : Int, h1 = alH h b v ∧ InvP (h.L 73 (h.I 71 4).toNat / (Int.gcd (h.L 73 (h.I 71 4).toNat) (rnd (h.I b 3) (h.I b 0)) : Int)) (rnd (h.I b 3) (h.I b 0) / (Int.gcd (h.L 73 (h.I 71 4).toNat) (rnd (h.I b 3) (h.I b 0)) : Int)) v) := by
  have hr := rnd_bd (la := h.I b 3) (te := h.I b 0) (by omega)
  have hg := gcd_bd (a := h.L 73 (h.I 71 4).toNat) (b := rnd (h.I b 3) (h.I b 0)) (by omega) (by omega)
  have hd1 : 1 ≤ rnd (h.I b 3) (h.I b 0) / (Int.gcd (h.L 73 (h.I 71 4).toNat) (rnd (h.I b 3) (h.I b 0)) : Int) ∧ rnd (h.I b 3) (h.I b 0) / (Int.gcd (h.L 73 (h.I 71 4).toNat) (rnd (h.I b 3) (h.I b 0)) : Int) ≤ 181 := ⟨Int.le_ediv_of_mul_le (by omega) (by omega), Int.le_trans (Int.ediv_le_self _ (by omega)) (by omega)⟩
  have hdl : (Int.gcd (h.L 73 (h.I 71 4).toNat) (rnd (h.I b 3) (h.I b 0)) : Int) ≤ h.L 73 (h.I 71 4).toNat := Int.le_of_dvd (by omega) (Int.gcd_dvd_left _ _)
  have hd2 : 1 ≤ h.L 73 (h.I 71 4).toNat / (Int.gcd (h.L 73 (h.I 71 4).toNat) (rnd (h.I b 3) (h.I b 0)) : Int) ∧ h.L 73 (h.I 71 4).toNat / (Int.gcd (h.L 73 (h.I 71 4).toNat) (rnd (h.I b 3) (h.I b 0)) : Int) ≤ 35161828327081 := ⟨Int.le_ediv_of_mul_le (by omega) (by omega), Int.le_trans (Int.ediv_le_self _ (by omega)) (by omega)⟩
  have hcp := div_cop (a := h.L 73 (h.I 71 4).toNat) (b := rnd (h.I b 3) (h.I b 0)) (by omega) (by omega)
  have w4 : ∀ F : Fg, (wr5 h (76 + (h.I 71 4).toNat) F).I 71 4 = h.I 71 4 := fun F => wr5_I h _ F 71 4 (Or.inl (by omega))
  refine Ev.of rfl [some (.ref 71), some (.ref b), none, none, none, none] rfl (Nat.le_of_ble_eq_true rfl) ?_
  refine g_aload_n dX2_addLevel_0 rfl rfl (gf_X2_17 (M := mX2_addLevel) rfl dX2_addLevel_1 (yo71 hY) (yr71_1 hY) (g_aload_n dX2_addLevel_4 rfl rfl (gf_X2_27 (M := mX2_addLevel) rfl dX2_addLevel_5 (yo71 hY) (g_lald dX2_addLevel_8 (ya73 hY) ⟨by omega, by omega, by omega⟩ (g_aload_n dX2_addLevel_9 rfl rfl ?_)))))
  refine cv_X2_59 (M := mX2_addLevel) rfl dX2_addLevel_10 ho (RO.same _ _ _) (Nat.le_of_ble_eq_true rfl) (e_X1_round ho (by omega)) <| kI (g_i2l dX2_addLevel_13 (by omega) (cv_X2_63 (M := mX2_addLevel) rfl dX2_addLevel_14 (RO.same _ _ _) (Nat.le_of_ble_eq_true rfl) (e_X8_commonDivisor (by omega) (by omega)) <| kL (g_lst2 dX2_addLevel_17 (by decide) rfl (g_aload_n dX2_addLevel_18 rfl rfl (cv_X2_59 (M := mX2_addLevel) rfl dX2_addLevel_19 ho (RO.same _ _ _) (Nat.le_of_ble_eq_true rfl) (e_X1_round ho (by omega)) <| kI ?_)))))
  refine g_i2l dX2_addLevel_22 (by omega) (g_lload_n dX2_addLevel_23 rfl rfl (g_ldivP dX2_addLevel_24 (by omega) (by omega) (g_lst4 dX2_addLevel_25 (by decide) rfl (g_aload_n dX2_addLevel_27 rfl rfl (gf_X2_11 (M := mX2_addLevel) rfl dX2_addLevel_28 (yo71 hY) (yr71_0 hY) ?_)))))
  refine g_aload_n dX2_addLevel_31 rfl rfl (gf_X2_27 (M := mX2_addLevel) rfl dX2_addLevel_32 (yo71 hY) (g_aald dX2_addLevel_35 (ya72 hY) (by decide) (D0 := "ClockTeeth$Figure") rfl ⟨by omega, by omega, by omega⟩ (fd_r hY (by omega)) (g_aload_n dX2_addLevel_36 rfl rfl (cv_X2_67 (M := mX2_addLevel) rfl dX2_addLevel_37 (fd_o hY (by omega)) (RO.same _ _ _) (Nat.le_of_ble_eq_true rfl) (e_X1_become (fd_o hY (by omega)) ho) <| kV (g_aload_n dX2_addLevel_40 rfl rfl ?_)))))
  refine gf_X2_21 (M := mX2_addLevel) rfl dX2_addLevel_41 (yo71 hY) (yr71_2 hY) (g_aload_n dX2_addLevel_44 rfl rfl (gf_X2_27 (M := mX2_addLevel) rfl dX2_addLevel_45 (yo71 hY) ?_))
  simp only [sL_I, sL_L, wr5_L, w4, Nat.reduceEqDiff, false_and, if_false]
  refine g_lload_n dX2_addLevel_48 rfl rfl (g_last dX2_addLevel_49 (ya74 hY) ⟨by omega, by omega, by omega⟩ (g_aload_n dX2_addLevel_50 rfl rfl (gf_X2_24 (M := mX2_addLevel) rfl dX2_addLevel_51 (yo71 hY) (yr71_3 hY) (g_aload_n dX2_addLevel_54 rfl rfl (gf_X2_27 (M := mX2_addLevel) rfl dX2_addLevel_55 (yo71 hY) ?_)))))
  simp only [sL_I, sL_L, wr5_L, w4, Nat.reduceEqDiff, false_and, if_false]
  refine g_aload_n dX2_addLevel_58 rfl rfl (gf_X2_17 (M := mX2_addLevel) rfl dX2_addLevel_59 (yo71 hY) (yr71_1 hY) (g_aload_n dX2_addLevel_62 rfl rfl (gf_X2_27 (M := mX2_addLevel) rfl dX2_addLevel_63 (yo71 hY) ?_)))
  simp only [sL_I, sL_L, wr5_L, w4, Nat.reduceEqDiff, false_and, if_false]
  refine g_lald dX2_addLevel_66 (ya73 hY) ⟨by omega, by omega, by omega⟩ ?_
  simp only [sL_I, sL_L, wr5_L, w4, Nat.reduceEqDiff, false_and, if_false]
  refine g_lload_n dX2_addLevel_67 rfl rfl (g_ldivP dX2_addLevel_68 (by omega) (by omega) (g_lload dX2_addLevel_69 rfl ?_))
  refine cv_X2_70 (M := mX2_addLevel) rfl dX2_addLevel_71 (RO.same _ _ _) (Nat.le_of_ble_eq_true rfl) (e_X2_inverseOf (a := h.L 73 (h.I 71 4).toNat / (Int.gcd (h.L 73 (h.I 71 4).toNat) (rnd (h.I b 3) (h.I b 0)) : Int)) (k := rnd (h.I b 3) (h.I b 0) / (Int.gcd (h.L 73 (h.I 71 4).toNat) (rnd (h.I b 3) (h.I b 0)) : Int)) (by omega) (by omega) hcp) (kQL fun v71 hq71 => ?_)
  refine g_last dX2_addLevel_74 (ya75 hY) ⟨by omega, by omega, by omega⟩ (g_aload_n dX2_addLevel_75 rfl rfl (gf_X2_17 (M := mX2_addLevel) rfl dX2_addLevel_76 (yo71 hY) (yr71_1 hY) (g_aload_n dX2_addLevel_79 rfl rfl (gf_X2_27 (M := mX2_addLevel) rfl dX2_addLevel_80 (yo71 hY) ?_))))
  simp only [sL_I, sL_L, wr5_L, w4, Nat.reduceEqDiff, false_and, if_false]
  refine g_iconst dX2_addLevel_83 (g_iadd dX2_addLevel_84 (g_aload_n dX2_addLevel_85 rfl rfl (gf_X2_17 (M := mX2_addLevel) rfl dX2_addLevel_86 (yo71 hY) (yr71_1 hY) (g_aload_n dX2_addLevel_89 rfl rfl (gf_X2_27 (M := mX2_addLevel) rfl dX2_addLevel_90 (yo71 hY) ?_)))))
  simp only [sL_I, sL_L, wr5_L, w4, Nat.reduceEqDiff, false_and, if_false]
  refine g_lald dX2_addLevel_93 (ya73 hY) ⟨by omega, by omega, by omega⟩ ?_
  simp only [sL_I, sL_L, wr5_L, w4, Nat.reduceEqDiff, false_and, if_false]
  refine g_lload dX2_addLevel_94 rfl (g_lmul dX2_addLevel_96 (g_last dX2_addLevel_97 (ya73 hY) ⟨by omega, by omega, by omega⟩ (g_aload_n dX2_addLevel_98 rfl rfl (g_dup dX2_addLevel_99 rfl (gf_X2_27 (M := mX2_addLevel) rfl dX2_addLevel_100 (yo71 hY) ?_)))))
  simp only [sL_I, sL_L, wr5_L, w4, Nat.reduceEqDiff, false_and, if_false]
  refine g_iconst dX2_addLevel_103 (g_iadd dX2_addLevel_104 (pf_X2_27 (M := mX2_addLevel) rfl dX2_addLevel_105 (yo71 hY) ?_))
  exact g_vret dX2_addLevel_108 rfl rfl ⟨Nat.le_refl _, Nat.le_refl _⟩ (by refine ⟨rfl, v71, ?_, hq71⟩; rfl)
