/-- the heap behind i sights read from row r at a on -/
def rdH (h : HM) (r : Nat) (a : Int) : Nat → HM
  | 0 => h
  | i + 1 => asH (rdH h r a i) (h.I r (a + 3 * i).toNat) (h.I r (a + 3 * i + 1).toNat) (h.I r (a + 3 * i + 2).toNat)
theorem asH_I (h : HM) (p q r : Int) {a : Nat} (ha : a ≠ 12) (hb : a < 28 ∨ 28 + (h.I 12 5).toNat < a ∨ a < 28 + (h.I 12 5).toNat) (j : Nat) : (asH h p q r).I a j = h.I a j := by
  have n1 : ¬ a = 12 + 16 + (h.I 12 5).toNat := by omega
  unfold asH wr3
  simp only [sI_I, n1, ha, false_and, if_false]
theorem asH_12 (h : HM) (p q r : Int) (j : Nat) : (asH h p q r).I 12 j = if j = 5 then h.I 12 5 + 1 else h.I 12 j := by
  have n1 : ¬ 12 = 12 + 16 + (h.I 12 5).toNat := by omega
  unfold asH wr3
  simp only [sI_I, n1, false_and, if_false, true_and]
theorem rdH_5 (h : HM) (r : Nat) (a : Int) : ∀ i : Nat, (rdH h r a i).I 12 5 = h.I 12 5 + i
  | 0 => by simp [rdH]
  | i + 1 => by rw [rdH, asH_12, if_pos rfl, rdH_5 h r a i]; push_cast; omega
theorem rdH_3 (h : HM) (r : Nat) (a : Int) (j : Nat) (hj : j ≠ 5) : ∀ i : Nat, (rdH h r a i).I 12 j = h.I 12 j
  | 0 => rfl
  | i + 1 => by rw [rdH, asH_12, if_neg hj, rdH_3 h r a j hj i]
theorem rdH_I (h : HM) (r : Nat) (a : Int) (h0 : 0 ≤ h.I 12 5) {b : Nat} (hb : b < 12 ∨ (12 < b ∧ b < 28) ∨ 39 < b) (j : Nat) : ∀ i : Nat, h.I 12 5 + i ≤ 12 → (rdH h r a i).I b j = h.I b j
  | 0, _ => rfl
  | i + 1, hi => by
    push_cast at hi
    have e := rdH_5 h r a i
    rw [rdH, asH_I _ _ _ _ (by omega) (by omega), rdH_I h r a h0 hb j i (by omega)]
/-- the j-th sight of a row may come -/
def OkR (nf ns lane cells l f : Int) (R : Nat → Int) (j : Nat) : Prop := fltS lane cells l (f + 3 * j) 3 = 0 ∧ (R (f + 3 * j + 2).toNat = 0 ∨ R (f + 3 * j + 2).toNat = 1) ∧ (0 ≤ R (f + 3 * j).toNat ∧ R (f + 3 * j).toNat < nf) ∧ (0 ≤ R (f + 3 * j + 1).toNat ∧ R (f + 3 * j + 1).toNat ≤ 30000) ∧ ns + j < 12
/-- i is the first that does not come (n: all come) -/
def RdQ (nf ns lane cells l f n : Int) (R : Nat → Int) (i : Nat) : Prop := (∀ j, j < i → OkR nf ns lane cells l f R j) ∧ (i : Int) ≤ n ∧ ((i : Int) = n ∨ ¬ OkR nf ns lane cells l f R i)
def rdV (lane cells l f n : Int) (i : Nat) : Int := if (i : Int) = n then n else if fltS lane cells l (f + 3 * i) 3 ≠ 0 then i else -20 - i
theorem RdQ.uniq {nf ns lane cells l f n : Int} {R : Nat → Int} {i j : Nat} (h1 : RdQ nf ns lane cells l f n R i) (h2 : RdQ nf ns lane cells l f n R j) : i = j := by
  rcases Nat.lt_trichotomy i j with q | q | q
  · rcases h1.2.2 with z | z
    · have := h2.2.1; omega
    · exact absurd (h2.1 i q) z
  · exact q
  · rcases h2.2.2 with z | z
    · have := h1.2.1; omega
    · exact absurd (h1.1 j q) z
theorem rd_12 {nf ns lane cells l f : Int} {R : Nat → Int} {i : Nat} (h0 : ns ≤ 12) (h : ∀ j, j < i → OkR nf ns lane cells l f R j) : ns + i ≤ 12 := by
  cases i with
  | zero => simpa using h0
  | succ i => have := (h i (by omega)).2.2.2.2; push_cast; omega
theorem rd_one {h : HM} {r : Nat} {f : Int} {i : Nat} {lane cells l v : Int} {h1 : HM} (h0 : 0 ≤ h.I 12 5) (h12 : h.I 12 5 + i ≤ 12) (hfl : fltS lane cells l (f + 3 * i) 3 = 0) (hr : 39 < r)
    (hq : (¬ ((rdH h r f i).I r (f + 3 * i + 2).toNat = 0 ∨ (rdH h r f i).I r (f + 3 * i + 2).toNat = 1) ∧ v = 0 ∧ h1 = rdH h r f i) ∨ (((rdH h r f i).I r (f + 3 * i + 2).toNat = 0 ∨ (rdH h r f i).I r (f + 3 * i + 2).toNat = 1) ∧ ∃ z : Int, SeeP (rdH h r f i) ((rdH h r f i).I r (f + 3 * i).toNat) ((rdH h r f i).I r (f + 3 * i + 1).toNat) ((rdH h r f i).I r (f + 3 * i + 2).toNat) z h1 ∧ v = if 0 < z then 1 else 0)) :
    (v = 0 ∧ h1 = rdH h r f i ∧ ¬ OkR (h.I 12 3) (h.I 12 5) lane cells l f (h.I r) i) ∨ (v = 1 ∧ h1 = rdH h r f (i + 1) ∧ OkR (h.I 12 3) (h.I 12 5) lane cells l f (h.I r) i) := by
  have e := fun j => rdH_I h r f h0 (b := r) (by omega) j i h12
  have e5 := rdH_5 h r f i
  have e3 := rdH_3 h r f 3 (by decide) i
  rw [e, e, e] at hq
  unfold SeeP at hq
  rw [e3, e5] at hq
  rcases hq with ⟨q1, q2, q3⟩ | ⟨q1, z, q2, q3⟩
  · exact Or.inl ⟨q2, q3, fun k => q1 k.2.1⟩
  · rcases q2 with ⟨z1, z2, z3⟩ | ⟨z1, ⟨z2, z3, z4⟩ | ⟨z2, z3, z4⟩⟩
    · refine Or.inl ⟨by rw [q3, if_neg (by omega)], z3, fun k => z1 ⟨k.2.2.1, k.2.2.2.1⟩⟩
    · refine Or.inl ⟨by rw [q3, if_neg (by omega)], z4, fun k => ?_⟩
      have := k.2.2.2.2; omega
    · refine Or.inr ⟨by rw [q3, if_pos (by omega)], z4, hfl, q1, z1.1, z1.2, by omega⟩
set_option maxRecDepth 100000 in
set_option maxHeartbeats 1000000 in
theorem e_X8_read {G : GX} {y : LY} {h : HM} {d : Nat} (hY : Lay y) {k l f n : Int} (hk : R32 k) (hl : R32 l) (hf : R32 f) (hn : R32 n) (hL : 0 ≤ k → k < 4 → R32 (h.I (142 + 2 * k.toNat) 1) ∧ R32 (h.I (142 + 2 * k.toNat) 2) ∧ h.I (142 + 2 * k.toNat) 2 ≤ 40) (hcl : ∀ j, j < 40 → R32 (h.I (143 + 2 * k.toNat) j)) (hnf : 0 ≤ h.I 12 3 ∧ h.I 12 3 ≤ 6) (hns : 0 ≤ h.I 12 5 ∧ h.I 12 5 ≤ 12) : EvQX G mX8_read (d + 3) [.ref 9, .int (iZ k), .int (iZ l), .int (iZ f), .int (iZ n)] y h (fun v h1 => (¬ ((0 ≤ k ∧ k < 4) ∧ (0 ≤ l ∧ l ≤ 2) ∧ (0 ≤ n ∧ n ≤ 12)) ∧ v = -1 ∧ h1 = h) ∨ (((0 ≤ k ∧ k < 4) ∧ (0 ≤ l ∧ l ≤ 2) ∧ (0 ≤ n ∧ n ≤ 12)) ∧ ∃ i : Nat, RdQ (h.I 12 3) (h.I 12 5) (h.I (142 + 2 * k.toNat) 1) (h.I (142 + 2 * k.toNat) 2) l f n (h.I (143 + 2 * k.toNat)) i ∧ v = rdV (h.I (142 + 2 * k.toNat) 1) (h.I (142 + 2 * k.toNat) 2) l f n i ∧ h1 = (if (i : Int) = n then (rdH h (143 + 2 * k.toNat) f i).sI 9 12 0 else if fltS (h.I (142 + 2 * k.toNat) 1) (h.I (142 + 2 * k.toNat) 2) l (f + 3 * i) 3 ≠ 0 then (rdH h (143 + 2 * k.toNat) f i).sI 9 12 (fltS (h.I (142 + 2 * k.toNat) 1) (h.I (142 + 2 * k.toNat) 2) l (f + 3 * i) 3) else (rdH h (143 + 2 * k.toNat) f i).sI 12 5 (h.I 12 5)))) := by
  have hzk := pI_01 (0 ≤ k ∧ k < 4)
  have hyk := pI_eq1 (P := 0 ≤ k ∧ k < 4)
  have hzl := pI_01 (0 ≤ l ∧ l ≤ 2)
  have hyl := pI_eq1 (P := 0 ≤ l ∧ l ≤ 2)
  refine Ev.of rfl [some (.ref 9), some (.int (iZ k)), some (.int (iZ l)), some (.int (iZ f)), some (.int (iZ n)), none, none, none, none, none, none] rfl (Nat.le_of_ble_eq_true rfl) ?_
  have L48 : ∀ (m : Nat) (i : Nat), (m : Int) = n - i → (i : Int) ≤ n → (0 ≤ k ∧ k < 4) ∧ (0 ≤ l ∧ l ≤ 2) ∧ (0 ≤ n ∧ n ≤ 12) → (∀ j, j < i → OkR (h.I 12 3) (h.I 12 5) (h.I (142 + 2 * k.toNat) 1) (h.I (142 + 2 * k.toNat) 2) l f (h.I (143 + 2 * k.toNat)) j) → Go G mX8_read (rmo (d + 3) 0 0) (ZM G y 0 0 (fun r h1 => ∃ v_ : Int, r = some (.int (iZ v_)) ∧ (fun v h1 => (¬ ((0 ≤ k ∧ k < 4) ∧ (0 ≤ l ∧ l ≤ 2) ∧ (0 ≤ n ∧ n ≤ 12)) ∧ v = -1 ∧ h1 = h) ∨ (((0 ≤ k ∧ k < 4) ∧ (0 ≤ l ∧ l ≤ 2) ∧ (0 ≤ n ∧ n ≤ 12)) ∧ ∃ i : Nat, RdQ (h.I 12 3) (h.I 12 5) (h.I (142 + 2 * k.toNat) 1) (h.I (142 + 2 * k.toNat) 2) l f n (h.I (143 + 2 * k.toNat)) i ∧ v = rdV (h.I (142 + 2 * k.toNat) 1) (h.I (142 + 2 * k.toNat) 2) l f n i ∧ h1 = (if (i : Int) = n then (rdH h (143 + 2 * k.toNat) f i).sI 9 12 0 else if fltS (h.I (142 + 2 * k.toNat) 1) (h.I (142 + 2 * k.toNat) 2) l (f + 3 * i) 3 ≠ 0 then (rdH h (143 + 2 * k.toNat) f i).sI 9 12 (fltS (h.I (142 + 2 * k.toNat) 1) (h.I (142 + 2 * k.toNat) 2) l (f + 3 * i) 3) else (rdH h (143 + 2 * k.toNat) f i).sI 12 5 (h.I 12 5)))) v_ h1)) y 48 [some (.ref 9), some (.int (iZ k)), some (.int (iZ l)), some (.int (iZ f)), some (.int (iZ n)), some (.ref (142 + 2 * k.toNat)), some (.int (iZ (h.I 12 5))), some (.int (iZ i)), none, none, none] [] (rdH h (143 + 2 * k.toNat) f i) (0, 0) := by
    intro m
    induction m using Nat.strongRecOn with | _ m ih =>
    intro i hm hin hok hall
    have hk4 : 0 ≤ k ∧ k < 4 := hok.1
    have hLk := hL hk4.1 hk4.2
    have h12 := rd_12 hns.2 hall
    have eR := fun j => rdH_I h (143 + 2 * k.toNat) f hns.1 (b := (143 + 2 * k.toNat)) (by omega) j i h12
    have eS := fun j => rdH_I h (143 + 2 * k.toNat) f hns.1 (b := (142 + 2 * k.toNat)) (by omega) j i h12
    have e5 := rdH_5 h (143 + 2 * k.toNat) f i
    have e3 := rdH_3 h (143 + 2 * k.toNat) f 3 (by decide) i
    have hfb := fltS_c (h.I (142 + 2 * k.toNat) 1) (h.I (142 + 2 * k.toNat) 2) l (f + 3 * i) 3
    have es1 := eS 1
    have es2 := eS 2
    refine g_iload dX8_read_48 rfl (g_iload dX8_read_50 rfl ?_)
    refine g_icmp_ge 125 dX8_read_52 rfl (by omega) (by omega) (fun c52 => ?_) (fun c52 => ?_)
    · skip
      refine g_aload_n dX8_read_125 rfl rfl (g_iconst dX8_read_126 (pf_X8_68 (M := mX8_read) rfl dX8_read_127 (yo9 hY) (g_iload dX8_read_130 rfl ?_)))
      exact g_iret dX8_read_132 rfl rfl ⟨Nat.le_refl _, Nat.le_refl _⟩ (by exact ⟨_, rfl, Or.inr ⟨hok, i, ⟨hall, by omega, Or.inl (by omega)⟩, by rw [rdV, if_pos (by omega)], by rw [if_pos (by omega)]⟩⟩)
    · skip
      refine g_iload_n dX8_read_55 rfl rfl (g_i2l dX8_read_56 (by omega) (c2_X8_319 (M := mX8_read) rfl dX8_read_57 (g_iload dX8_read_60 rfl (g_i2l dX8_read_62 (by omega) (g_lmul dX8_read_63 (g_ladd dX8_read_64 (g_lst8 dX8_read_65 (by decide) rfl (g_aload dX8_read_67 rfl (g_iload_n dX8_read_69 rfl rfl (g_lload dX8_read_70 rfl (g_iconst dX8_read_72 ?_)))))))))))
      refine cv_X8_312 (M := mX8_read) rfl dX8_read_73 (sh_o hY hk4) (RO.same _ _ _) (Nat.le_of_ble_eq_true rfl) (e_X4_faultOf hY hk4 (by omega) (by omega) (by omega) (by omega) (by omega)) <| kI ?_
      rw [eS, eS]
      refine g_ist10 dX8_read_76 (by decide) rfl (g_iload dX8_read_78 rfl ?_)
      refine g_if_eq 92 dX8_read_80 rfl (by omega) (fun c80 => ?_) (fun c80 => ?_)
      · skip
        have hfl0 : fltS (h.I (142 + 2 * k.toNat) 1) (h.I (142 + 2 * k.toNat) 2) l (f + 3 * i) 3 = 0 := (by omega)
        have hr0 := eR (f + 3 * i).toNat
        have hr1 := eR (f + 3 * i + 1).toNat
        have hr2 := eR (f + 3 * i + 2).toNat
        have hc0 := hcl (f + 3 * i).toNat (by omega)
        have hc1 := hcl (f + 3 * i + 1).toNat (by omega)
        have hc2 := hcl (f + 3 * i + 2).toNat (by omega)
        refine g_aload_n dX8_read_92 rfl rfl (g_aload dX8_read_93 rfl (g_lload dX8_read_95 rfl (g_l2i dX8_read_97 ?_)))
        refine cv_X8_321 (M := mX8_read) rfl dX8_read_98 (yo9 hY) (RO.same _ _ _) (Nat.le_of_ble_eq_true rfl) (e_X8_addSightOf hY hk4 (by omega) (by omega) (by omega) (by omega) (by omega) (by omega)) (kQX fun v98 h98 hq98 => ?_)
        have ho98 := rd_one hns.1 h12 hfl0 (by omega) hq98
        have hv98 : v98 = 0 ∨ v98 = 1 := (by omega)
        refine g_if_ne 119 dX8_read_101 rfl (by omega) (fun c101 => ?_) (fun c101 => ?_)
        · skip
          refine g_inc7 dX8_read_119 (by decide) rfl (g_goto 48 dX8_read_122 rfl (g_dr8 (g_dr10 ?_)))
          rcases ho98 with ⟨q1, q2, q3⟩ | ⟨q1, q2, q3⟩
          · exfalso; omega
          · rw [q2]
            have hx := ih (m - 1) (by omega) (i + 1) (by omega) (by omega) hok (fun j hj => by by_cases z : j = i; (subst z; exact q3); exact hall j (by omega))
            exact hx
        · skip
          refine g_aload_n dX8_read_104 rfl rfl (gf_X8_19 (M := mX8_read) rfl dX8_read_105 (yo9 hY) (yr9_1 hY) (g_iload dX8_read_108 rfl (pf_X8_274 (M := mX8_read) rfl dX8_read_110 (ck_o hY clk12) (g_bipush dX8_read_113 kbm20 (g_iload dX8_read_115 rfl (g_isub dX8_read_117 ?_))))))
          exact g_iret dX8_read_118 rfl rfl ⟨Nat.le_refl _, Nat.le_refl _⟩ (by rcases ho98 with ⟨q1, q2, q3⟩ | ⟨q1, q2, q3⟩ <;> first | (exfalso; omega) | exact ⟨_, rfl, Or.inr ⟨hok, i, ⟨hall, by omega, Or.inr q3⟩, by rw [rdV, if_neg (by omega), if_neg (fun z => z hfl0)], by rw [if_neg (by omega), if_neg (fun z => z hfl0), q2]⟩⟩)
      · skip
        refine g_aload_n dX8_read_83 rfl rfl (g_iload dX8_read_84 rfl (pf_X8_68 (M := mX8_read) rfl dX8_read_86 (yo9 hY) (g_iload dX8_read_89 rfl ?_)))
        exact g_iret dX8_read_91 rfl rfl ⟨Nat.le_refl _, Nat.le_refl _⟩ (by exact ⟨_, rfl, Or.inr ⟨hok, i, ⟨hall, by omega, Or.inr (fun z => c80 z.1)⟩, by rw [rdV, if_neg (by omega), if_pos c80], by rw [if_neg (by omega), if_pos c80]⟩⟩)
  refine g_iload_n dX8_read_0 rfl rfl (cv_X8_299 (M := mX8_read) rfl dX8_read_1 (RO.same _ _ _) (Nat.le_of_ble_eq_true rfl) (e_X8_isSheet (by omega)) <| kI ?_)
  refine g_if_eq 26 dX8_read_4 rfl (by omega) (fun c4 => ?_) (fun c4 => ?_)
  · skip
    refine g_iconst dX8_read_26 ?_
    exact g_iret dX8_read_27 rfl rfl ⟨Nat.le_refl _, Nat.le_refl _⟩ (by exact ⟨-1, rfl, Or.inl ⟨by omega, rfl, rfl⟩⟩)
  · skip
    refine g_iload_n dX8_read_7 rfl rfl (cv_X8_302 (M := mX8_read) rfl dX8_read_8 (RO.same _ _ _) (Nat.le_of_ble_eq_true rfl) (e_X8_isLane (by omega)) <| kI ?_)
    refine g_if_eq 26 dX8_read_11 rfl (by omega) (fun c11 => ?_) (fun c11 => ?_)
    · skip
      refine g_iconst dX8_read_26 ?_
      exact g_iret dX8_read_27 rfl rfl ⟨Nat.le_refl _, Nat.le_refl _⟩ (by exact ⟨-1, rfl, Or.inl ⟨by omega, rfl, rfl⟩⟩)
    · skip
      refine g_iload dX8_read_14 rfl ?_
      refine g_if_lt 26 dX8_read_16 rfl (by omega) (fun c16 => ?_) (fun c16 => ?_)
      · skip
        refine g_iconst dX8_read_26 ?_
        exact g_iret dX8_read_27 rfl rfl ⟨Nat.le_refl _, Nat.le_refl _⟩ (by exact ⟨-1, rfl, Or.inl ⟨by omega, rfl, rfl⟩⟩)
      · skip
        refine g_iload dX8_read_19 rfl (g_bipush dX8_read_21 kb12 ?_)
        refine g_icmp_le 28 dX8_read_23 rfl (by omega) (by omega) (fun c23 => ?_) (fun c23 => ?_)
        · skip
          have hk4 : 0 ≤ k ∧ k < 4 := (by omega)
          refine g_aload_n dX8_read_28 rfl rfl (gf_X8_36 (M := mX8_read) rfl dX8_read_29 (yo9 hY) (yr9_5 hY) (g_iload_n dX8_read_32 rfl rfl (g_aald dX8_read_33 (ya70 hY) (by decide) (D0 := "ClockTeeth$Sheet") rfl ⟨by omega, by omega, by omega⟩ (sh_r hY (by omega)) (g_ast5 dX8_read_34 (by decide) rfl (g_aload_n dX8_read_36 rfl rfl (gf_X8_19 (M := mX8_read) rfl dX8_read_37 (yo9 hY) (yr9_1 hY) (gf_X8_274 (M := mX8_read) rfl dX8_read_40 (ck_o hY clk12) (g_ist6 dX8_read_43 (by decide) rfl (g_iconst dX8_read_45 (g_ist7 dX8_read_46 (by decide) rfl ?_))))))))))
          exact L48 n.toNat 0 (by omega) (by omega) (by omega) (fun j hj => by omega)
        · skip
          refine g_iconst dX8_read_26 ?_
          exact g_iret dX8_read_27 rfl rfl ⟨Nat.le_refl _, Nat.le_refl _⟩ (by exact ⟨-1, rfl, Or.inl ⟨by omega, rfl, rfl⟩⟩)
