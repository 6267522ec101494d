/-- a plain wheel fits -/
def PlF (h : HM) (c : Nat) (f te s : Int) : Prop := ∀ t : Int, 0 ≤ t → t < h.I c 5 → h.I (c + 16 + t.toNat) 0 = f → pI (h.I (c + 16 + t.toNat) 1 % te = s) = h.I (c + 16 + t.toNat) 2
theorem Cl.and {X Y : Nat} {P : Nat → Prop} (k : Nat) (h : Cl X Y P) : Cl X (Y &&& 2 ^ k) (fun s => P s ∨ s ≠ k) := by
  refine ⟨Nat.le_trans Nat.and_le_left h.1, fun s => ?_⟩
  rw [Nat.testBit_and, Nat.testBit_two_pow]
  simp only [Bool.and_eq_true, decide_eq_true_eq, h.2 s]
  constructor
  · rintro ⟨⟨a, b⟩, c⟩; exact ⟨a, fun z => z.elim b (fun q => q c.symm)⟩
  · rintro ⟨a, b⟩; exact ⟨⟨a, fun z => b (Or.inl z)⟩, Decidable.byContradiction fun z => b (Or.inr fun e => z e.symm)⟩
theorem andI {n : Nat} {k : Int} (hk : 0 ≤ k ∧ k < 62) (hn : n < 2 ^ 63) : lAnd n (lShl 1 k) = ((n &&& 2 ^ k.toNat : Nat) : Int) := by
  have h1 : 2 ^ k.toNat < 2 ^ 63 := Nat.pow_lt_pow_right (by decide) (by omega)
  have e := lShlN (a := 1) (k := k.toNat) (by omega) (by rw [Nat.one_mul]; exact h1)
  rw [show ((1 : Nat) : Int) = 1 from rfl, show ((k.toNat : Nat) : Int) = k by omega, Nat.one_mul] at e
  rw [e, lAndN hn (by omega)]
set_option maxRecDepth 100000 in
set_option maxHeartbeats 4000000 in
theorem e_X0_fittingStarts {G : GX} {y : LY} {h : HM} {d : Nat} (hY : Lay y) {c : Nat} (hc : Clk c) {f te : Int} (hS : CS_ h c) (hf : R32 f) (ht : 2 ≤ te ∧ te ≤ 60) : EvQL G mX0_fittingStarts (d + 1) [.ref c, .int (iZ f), .int (iZ te)] y h (fun v : Int => ∃ Y : Nat, v = (Y : Int) ∧ Y < 2 ^ te.toNat ∧ ∀ s : Nat, Y.testBit s = true ↔ s < te.toNat ∧ PlF h c f te s) := by
  have hns := hS.1
  have h2p := two_le te.toNat
  have hX60 : 2 ^ te.toNat ≤ 2 ^ 60 := Nat.pow_le_pow_right (by decide) (by omega)
  have hon := lOnes (te := te) (by omega)
  refine Ev.of rfl [some (.ref c), some (.int (iZ f)), some (.int (iZ te)), none, none, none, none, none, none] rfl (Nat.le_of_ble_eq_true rfl) ?_
  have L9 : ∀ (m : Nat) (t : Int) (Y : Nat), m = (h.I c 5 - t).toNat → 0 ≤ t ∧ t ≤ h.I c 5 → Cl (2 ^ te.toNat - 1) Y (fun s => ∃ t2 : Int, (0 ≤ t2 ∧ t2 < t) ∧ h.I (c + 16 + t2.toNat) 0 = f ∧ ¬ pI (h.I (c + 16 + t2.toNat) 1 % te = (s : Int)) = h.I (c + 16 + t2.toNat) 2) → Go G mX0_fittingStarts (rmo (d + 1) 0 0) (ZM G y 0 0 (fun r h1 => ∃ v : Int, r = some (.long (lZ v)) ∧ h1 = h ∧ (fun v : Int => ∃ Y : Nat, v = (Y : Int) ∧ Y < 2 ^ te.toNat ∧ ∀ s : Nat, Y.testBit s = true ↔ s < te.toNat ∧ PlF h c f te s) v)) y 9 [some (.ref c), some (.int (iZ f)), some (.int (iZ te)), some (.long (lZ Y)), none, some (.int (iZ t)), none, none, none] [] h (0, 0) := by
    intro m
    induction m using Nat.strongRecOn with | _ m ih =>
    intro t Y hm ht0 hYg
    have hYX := hYg.1
    refine g_iload dX0_fittingStarts_9 rfl (g_aload_n dX0_fittingStarts_11 rfl rfl (gf_X0_36 (M := mX0_fittingStarts) rfl dX0_fittingStarts_12 (ck_o hY hc) ?_))
    refine g_icmp_ge 80 dX0_fittingStarts_15 rfl (by omega) (by omega) (fun c15 => ?_) (fun c15 => ?_)
    · skip
      refine g_lload_n dX0_fittingStarts_80 rfl rfl ?_
      exact g_lret dX0_fittingStarts_81 rfl rfl ⟨Nat.le_refl _, Nat.le_refl _⟩ (by refine ⟨Y, rfl, rfl, Y, rfl, by omega, fun s => ?_⟩; rw [hYg.2 s, Nat.testBit_two_pow_sub_one]; simp only [decide_eq_true_eq]; constructor; (rintro ⟨q1, q2⟩; exact ⟨q1, fun t2 z1 z2 z3 => Decidable.byContradiction fun z4 => q2 ⟨t2, ⟨z1, by omega⟩, z3, z4⟩⟩); (rintro ⟨q1, q2⟩; exact ⟨q1, fun z => by obtain ⟨t2, z1, z2, z3⟩ := z; exact z3 (q2 t2 z1.1 (by omega) z2)⟩))
    · skip
      have hSs := hS.2 t ht0.1 (by omega)
      have hem := em_bd (h.I (c + 16 + t.toNat) 1) (d := te) (by omega)
      have hcl := clrI (n := Y) (k := h.I (c + 16 + t.toNat) 1 % te) (by omega) (by omega)
      have han := andI (n := Y) (k := h.I (c + 16 + t.toNat) 1 % te) (by omega) (by omega)
      refine g_aload_n dX0_fittingStarts_18 rfl rfl (gf_X0_25 (M := mX0_fittingStarts) rfl dX0_fittingStarts_19 (ck_o hY hc) (ck_r2 hY hc) (g_iload dX0_fittingStarts_22 rfl (g_aald dX0_fittingStarts_24 (ck_a2 hY hc) (by decide) (D0 := "ClockTeeth$Sight") rfl ⟨by omega, by omega, by omega⟩ (ck_sr hY hc (by omega)) (g_ast6 dX0_fittingStarts_25 (by decide) rfl (g_aload dX0_fittingStarts_27 rfl (gf_X0_68 (M := mX0_fittingStarts) rfl dX0_fittingStarts_29 (ck_so hY hc (by omega)) (g_iload_n dX0_fittingStarts_32 rfl rfl ?_)))))))
      refine g_icmp_ne 74 dX0_fittingStarts_33 rfl (by omega) (by omega) (fun c33 => ?_) (fun c33 => ?_)
      · skip
        refine g_inc5 dX0_fittingStarts_74 (by decide) rfl (g_goto 9 dX0_fittingStarts_77 rfl (g_dr6 ?_))
        first
        | (refine ih _ (by omega) (t + 1) _ rfl (by omega) (hYg.w (fun s z => (by obtain ⟨t2, z1, z2⟩ := z; exact ⟨t2, by omega, z2⟩)) (Or.inr fun s _ z => (by obtain ⟨t2, z1, z2, z3⟩ := z; rcases (by omega : t2 < t ∨ t2 = t) with z5 | rfl; exact ⟨t2, by omega, z2, z3⟩; exact absurd z2 c33))); done)
        | (rw [hcl]; refine ih _ (by omega) (t + 1) _ rfl (by omega) ((hYg.clr (by omega) (by omega)).w (fun s z => ?_) (Or.inr fun s _ z => ?_)); (rcases z with ⟨t2, z1, z2⟩ | rfl; exact ⟨t2, by omega, z2⟩; exact ⟨t, by omega, c33, by rw [show (((h.I (c + 16 + t.toNat) 1 % te).toNat : Nat) : Int) = h.I (c + 16 + t.toNat) 1 % te by omega, pI_t rfl]; omega⟩); (obtain ⟨t2, z1, z2, z3⟩ := z; rcases (by omega : t2 < t ∨ t2 = t) with z5 | rfl; exact Or.inl ⟨t2, by omega, z2, z3⟩; refine Or.inr (Decidable.byContradiction fun z6 => z3 ?_); rw [pI_f (fun e => z6 (by omega))]; omega))
        | (rw [han]; refine ih _ (by omega) (t + 1) _ rfl (by omega) ((hYg.and (h.I (c + 16 + t.toNat) 1 % te).toNat).w (fun s z => ?_) (Or.inr fun s _ z => ?_)); (rcases z with ⟨t2, z1, z2⟩ | z0; exact ⟨t2, by omega, z2⟩; exact ⟨t, by omega, c33, by rw [pI_f (fun e => z0 (by omega))]; omega⟩); (obtain ⟨t2, z1, z2, z3⟩ := z; rcases (by omega : t2 < t ∨ t2 = t) with z5 | rfl; exact Or.inl ⟨t2, by omega, z2, z3⟩; refine Or.inr (fun z6 => z3 ?_); rw [pI_t (by omega)]; omega))
      · skip
        refine g_lconst (v := 1) dX0_fittingStarts_36 rfl (g_aload dX0_fittingStarts_37 rfl (gf_X0_71 (M := mX0_fittingStarts) rfl dX0_fittingStarts_39 (ck_so hY hc (by omega)) (g_i2l dX0_fittingStarts_42 (by omega) (g_iload_n dX0_fittingStarts_43 rfl rfl (g_i2l dX0_fittingStarts_44 (by omega) (cv_X0_158 (M := mX0_fittingStarts) rfl dX0_fittingStarts_45 (RO.same _ _ _) (Nat.le_of_ble_eq_true rfl) (e_X8_rest (by omega) (by omega)) <| kL (g_l2i dX0_fittingStarts_48 (g_lshl dX0_fittingStarts_49 (g_lst7 dX0_fittingStarts_50 (by decide) rfl (g_lload_n dX0_fittingStarts_52 rfl rfl (g_aload dX0_fittingStarts_53 rfl ?_)))))))))))
        refine gf_X0_74 (M := mX0_fittingStarts) rfl dX0_fittingStarts_55 (ck_so hY hc (by omega)) ?_
        refine g_if_eq 66 dX0_fittingStarts_58 rfl (by omega) (fun c58 => ?_) (fun c58 => ?_)
        · skip
          refine g_lload dX0_fittingStarts_66 rfl (c2_X0_161 (M := mX0_fittingStarts) rfl dX0_fittingStarts_68 (g_lxor dX0_fittingStarts_71 ?_))
          refine g_land dX0_fittingStarts_72 (g_lst3 dX0_fittingStarts_73 (by decide) rfl (g_inc5 dX0_fittingStarts_74 (by decide) rfl (g_goto 9 dX0_fittingStarts_77 rfl (g_dr6 (g_dr7 ?_)))))
          first
          | (refine ih _ (by omega) (t + 1) _ rfl (by omega) (hYg.w (fun s z => (by obtain ⟨t2, z1, z2⟩ := z; exact ⟨t2, by omega, z2⟩)) (Or.inr fun s _ z => (by obtain ⟨t2, z1, z2, z3⟩ := z; rcases (by omega : t2 < t ∨ t2 = t) with z5 | rfl; exact ⟨t2, by omega, z2, z3⟩; exact absurd z2 c33))); done)
          | (rw [hcl]; refine ih _ (by omega) (t + 1) _ rfl (by omega) ((hYg.clr (by omega) (by omega)).w (fun s z => ?_) (Or.inr fun s _ z => ?_)); (rcases z with ⟨t2, z1, z2⟩ | rfl; exact ⟨t2, by omega, z2⟩; exact ⟨t, by omega, c33, by rw [show (((h.I (c + 16 + t.toNat) 1 % te).toNat : Nat) : Int) = h.I (c + 16 + t.toNat) 1 % te by omega, pI_t rfl]; omega⟩); (obtain ⟨t2, z1, z2, z3⟩ := z; rcases (by omega : t2 < t ∨ t2 = t) with z5 | rfl; exact Or.inl ⟨t2, by omega, z2, z3⟩; refine Or.inr (Decidable.byContradiction fun z6 => z3 ?_); rw [pI_f (fun e => z6 (by omega))]; omega))
          | (rw [han]; refine ih _ (by omega) (t + 1) _ rfl (by omega) ((hYg.and (h.I (c + 16 + t.toNat) 1 % te).toNat).w (fun s z => ?_) (Or.inr fun s _ z => ?_)); (rcases z with ⟨t2, z1, z2⟩ | z0; exact ⟨t2, by omega, z2⟩; exact ⟨t, by omega, c33, by rw [pI_f (fun e => z0 (by omega))]; omega⟩); (obtain ⟨t2, z1, z2, z3⟩ := z; rcases (by omega : t2 < t ∨ t2 = t) with z5 | rfl; exact Or.inl ⟨t2, by omega, z2, z3⟩; refine Or.inr (fun z6 => z3 ?_); rw [pI_t (by omega)]; omega))
        · skip
          refine g_lload dX0_fittingStarts_61 rfl (g_goto 72 dX0_fittingStarts_63 rfl ?_)
          refine g_land dX0_fittingStarts_72 (g_lst3 dX0_fittingStarts_73 (by decide) rfl (g_inc5 dX0_fittingStarts_74 (by decide) rfl (g_goto 9 dX0_fittingStarts_77 rfl (g_dr6 (g_dr7 ?_)))))
          first
          | (refine ih _ (by omega) (t + 1) _ rfl (by omega) (hYg.w (fun s z => (by obtain ⟨t2, z1, z2⟩ := z; exact ⟨t2, by omega, z2⟩)) (Or.inr fun s _ z => (by obtain ⟨t2, z1, z2, z3⟩ := z; rcases (by omega : t2 < t ∨ t2 = t) with z5 | rfl; exact ⟨t2, by omega, z2, z3⟩; exact absurd z2 c33))); done)
          | (rw [hcl]; refine ih _ (by omega) (t + 1) _ rfl (by omega) ((hYg.clr (by omega) (by omega)).w (fun s z => ?_) (Or.inr fun s _ z => ?_)); (rcases z with ⟨t2, z1, z2⟩ | rfl; exact ⟨t2, by omega, z2⟩; exact ⟨t, by omega, c33, by rw [show (((h.I (c + 16 + t.toNat) 1 % te).toNat : Nat) : Int) = h.I (c + 16 + t.toNat) 1 % te by omega, pI_t rfl]; omega⟩); (obtain ⟨t2, z1, z2, z3⟩ := z; rcases (by omega : t2 < t ∨ t2 = t) with z5 | rfl; exact Or.inl ⟨t2, by omega, z2, z3⟩; refine Or.inr (Decidable.byContradiction fun z6 => z3 ?_); rw [pI_f (fun e => z6 (by omega))]; omega))
          | (rw [han]; refine ih _ (by omega) (t + 1) _ rfl (by omega) ((hYg.and (h.I (c + 16 + t.toNat) 1 % te).toNat).w (fun s z => ?_) (Or.inr fun s _ z => ?_)); (rcases z with ⟨t2, z1, z2⟩ | z0; exact ⟨t2, by omega, z2⟩; exact ⟨t, by omega, c33, by rw [pI_f (fun e => z0 (by omega))]; omega⟩); (obtain ⟨t2, z1, z2, z3⟩ := z; rcases (by omega : t2 < t ∨ t2 = t) with z5 | rfl; exact Or.inl ⟨t2, by omega, z2, z3⟩; refine Or.inr (fun z6 => z3 ?_); rw [pI_t (by omega)]; omega))
  refine g_lconst (v := 1) dX0_fittingStarts_0 rfl (g_iload_n dX0_fittingStarts_1 rfl rfl (g_lshl dX0_fittingStarts_2 (g_lconst (v := 1) dX0_fittingStarts_3 rfl (g_lsub dX0_fittingStarts_4 (g_lst3 dX0_fittingStarts_5 (by decide) rfl (g_iconst dX0_fittingStarts_6 (g_ist5 dX0_fittingStarts_7 (by decide) rfl ?_)))))))
  rw [hon]
  refine L9 _ 0 _ rfl (by omega) ⟨Nat.le_refl _, fun s => ⟨fun q => ⟨q, ?_⟩, fun q => q.1⟩⟩
  rintro ⟨t2, z1, z2⟩
  omega
/-- the doors of a day: a bit each, and 512 if one is used twice -/
def dst (x d : Nat) : Nat := if x.testBit d = true then x ||| 512 else x ||| 2 ^ d
noncomputable def drs (O : Nat → Prop) (D : Nat → Int) : Nat → Nat
  | 0 => 0
  | f + 1 => @ite Nat (O f) (Classical.propDecidable _) (dst (drs O D f) (D f).toNat) (drs O D f)
theorem dst_bd {x d : Nat} (hx : x < 1024) (hd : d < 9) : dst x d < 1024 := by
  unfold dst; split
  · exact Nat.or_lt_two_pow (n := 10) hx (by decide)
  · exact Nat.or_lt_two_pow (n := 10) hx (Nat.pow_lt_pow_right (by decide) (by omega))
theorem drs_bd {O : Nat → Prop} {D : Nat → Int} (h : ∀ i, 0 ≤ D i ∧ D i ≤ 8) : ∀ n, drs O D n < 1024
  | 0 => Nat.zero_lt_succ _
  | n + 1 => by
    have := drs_bd (O := O) h n
    have := h n
    unfold drs; split
    · exact dst_bd (by assumption) (by omega)
    · assumption
theorem and2 (x d : Nat) : x &&& 2 ^ d = if x.testBit d = true then 2 ^ d else 0 := by
  apply Nat.eq_of_testBit_eq; intro i
  rw [Nat.testBit_and, Nat.testBit_two_pow]
  by_cases h : x.testBit d = true
  · rw [if_pos h, Nat.testBit_two_pow]
    by_cases e : d = i
    · subst e; simp [h]
    · simp [e]
  · rw [if_neg h, Nat.zero_testBit]
    by_cases e : d = i
    · subst e; simp [h]
    · simp [e]
theorem andB {x : Nat} {d : Int} (hx : x < 1024) (hd : 0 ≤ d ∧ d ≤ 8) : iAnd x (iShl 1 d) = if x.testBit d.toNat = true then 2 ^ d.toNat else 0 := by
  rw [iShl1' (by omega)]
  have := iAndN (a := x) (b := 2 ^ d.toNat) (by omega)
  rw [and2] at this
  rw [show ((2 : Int) ^ d.toNat) = ((2 ^ d.toNat : Nat) : Int) by push_cast; rfl, this]
  split <;> simp
theorem orB {x : Nat} {d : Int} (hx : x < 1024) (hd : 0 ≤ d ∧ d ≤ 8) : iOr x (iShl 1 d) = ((x ||| 2 ^ d.toNat : Nat) : Int) := by
  rw [iShl1' (by omega)]
  have h1 : 2 ^ d.toNat < 2 ^ 31 := Nat.pow_lt_pow_right (by decide) (by omega)
  rw [show ((2 : Int) ^ d.toNat) = ((2 ^ d.toNat : Nat) : Int) by push_cast; rfl]
  exact iOrN (by omega) h1
theorem orC {x : Nat} (hx : x < 1024) : iOr x 512 = ((x ||| 512 : Nat) : Int) := iOrN (a := x) (b := 512) (by omega) (by decide)
def dOut (h : HM) (c : Nat) (t : Int) (i : Nat) : Prop := Out (h.I (c + 4 + i) 0) (h.I (c + 4 + i) 1) (h.I (c + 4 + i) 3) (h.I (c + 4 + i) 4) t
def dDor (h : HM) (c : Nat) (t : Int) (i : Nat) : Int := dorS (h.I (c + 4 + i) 2) (h.I c 6) (h.I c 7) (h.I c 8) (dyo t)
theorem dorS_bd {dr sd sf st yd : Int} (h : 0 ≤ dr ∧ dr ≤ 8) : 0 ≤ dorS dr sd sf st yd ∧ dorS dr sd sf st yd ≤ 8 := by unfold dorS; repeat (split) <;> omega
theorem drs_bd' {O : Nat → Prop} {D : Nat → Int} : ∀ n, (∀ i, i < n → 0 ≤ D i ∧ D i ≤ 8) → drs O D n < 1024
  | 0, _ => Nat.zero_lt_succ _
  | n + 1, h => by
    have h1 := drs_bd' (O := O) (D := D) n (fun i hi => h i (by omega))
    have h2 := h n (by omega)
    unfold drs; split
    · exact dst_bd h1 (by omega)
    · exact h1
theorem drs_t {O : Nat → Prop} {D : Nat → Int} {n : Nat} (h : O n) : drs O D (n + 1) = dst (drs O D n) (D n).toNat := if_pos h
theorem drs_f {O : Nat → Prop} {D : Nat → Int} {n : Nat} (h : ¬ O n) : drs O D (n + 1) = drs O D n := if_neg h
theorem dyo_bd {t : Int} : 0 ≤ dyo t ∧ dyo t ≤ 365 := by
  have := em_bd t (d := 1461) (by omega)
  have := em_bd (t % 1461 - 366) (d := 365) (by omega)
  unfold dyo; split <;> omega
set_option maxRecDepth 100000 in
set_option maxHeartbeats 4000000 in
theorem e_X0_doorsOn {G : GX} {y : LY} {h : HM} {d : Nat} (hY : Lay y) {c : Nat} (hc : Clk c) {t : Int} (hC : CF h c) (ht : 0 ≤ t ∧ t ≤ 2000000000000) (h6 : R32 (h.I c 6)) (h7 : R32 (h.I c 7)) (h8 : R32 (h.I c 8)) : EvI G mX0_doorsOn (d + 2) [.ref c, .long (lZ t)] y h ((drs (dOut h c t) (dDor h c t) (h.I c 3).toNat : Nat)) := by
  have hnf := hC.1
  have hdy := dyo_bd (t := t)
  refine Ev.of rfl [some (.ref c), some (.long (lZ t)), none, none, none, none, none] rfl (Nat.le_of_ble_eq_true rfl) ?_
  have L11 : ∀ (m : Nat) (f : Int), m = (h.I c 3 - f).toNat → 0 ≤ f ∧ f ≤ h.I c 3 → Go G mX0_doorsOn (rmo (d + 2) 0 0) (ZM G y 0 0 (fun r h1 => r = some (.int (iZ ((drs (dOut h c t) (dDor h c t) (h.I c 3).toNat : Nat)))) ∧ h1 = h)) y 11 [some (.ref c), some (.long (lZ t)), none, some (.int (iZ (drs (dOut h c t) (dDor h c t) f.toNat : Nat))), some (.int (iZ (dyo t))), some (.int (iZ f)), none] [] h (0, 0) := by
    intro m
    induction m using Nat.strongRecOn with | _ m ih =>
    intro f hm hf
    have hx : drs (dOut h c t) (dDor h c t) f.toNat < 1024 := drs_bd' _ (fun i hi => by have := hC.2 (i : Int) (by omega) (by omega); rw [show ((i : Int)).toNat = i by omega] at this; exact dorS_bd (by omega))
    have e1 : (f + 1).toNat = f.toNat + 1 := by omega
    refine g_iload dX0_doorsOn_11 rfl (g_aload_n dX0_doorsOn_13 rfl rfl (gf_X0_29 (M := mX0_doorsOn) rfl dX0_doorsOn_14 (ck_o hY hc) ?_))
    refine g_icmp_ge 75 dX0_doorsOn_17 rfl (by omega) (by omega) (fun c17 => ?_) (fun c17 => ?_)
    · skip
      refine g_iload_n dX0_doorsOn_75 rfl rfl ?_
      exact g_iret dX0_doorsOn_76 rfl rfl ⟨Nat.le_refl _, Nat.le_refl _⟩ (by exact ⟨someI (by rw [show f = h.I c 3 by omega]), rfl⟩)
    · skip
      have hFf := hC.2 f hf.1 (by omega)
      have hdb : 0 ≤ dDor h c t f.toNat ∧ dDor h c t f.toNat ≤ 8 := dorS_bd (by omega)
      have hpo := pI_01 (Out (h.I (c + 4 + f.toNat) 0) (h.I (c + 4 + f.toNat) 1) (h.I (c + 4 + f.toNat) 3) (h.I (c + 4 + f.toNat) 4) t)
      have han := andB (d := dDor h c t f.toNat) hx hdb
      have hor := orB (d := dDor h c t f.toNat) hx hdb
      have hoc := orC hx
      have h2b : (1 : Int) ≤ 2 ^ (dDor h c t f.toNat).toNat ∧ (2 : Int) ^ (dDor h c t f.toNat).toNat ≤ 256 := by
        rcases (by omega : (dDor h c t f.toNat).toNat = 0 ∨ (dDor h c t f.toNat).toNat = 1 ∨ (dDor h c t f.toNat).toNat = 2 ∨ (dDor h c t f.toNat).toNat = 3 ∨ (dDor h c t f.toNat).toNat = 4 ∨ (dDor h c t f.toNat).toNat = 5 ∨ (dDor h c t f.toNat).toNat = 6 ∨ (dDor h c t f.toNat).toNat = 7 ∨ (dDor h c t f.toNat).toNat = 8) with e | e | e | e | e | e | e | e | e <;> rw [e] <;> decide
      refine g_aload_n dX0_doorsOn_20 rfl rfl (gf_X0_11 (M := mX0_doorsOn) rfl dX0_doorsOn_21 (ck_o hY hc) (ck_r0 hY hc) (g_iload dX0_doorsOn_24 rfl (g_aald dX0_doorsOn_26 (ck_a0 hY hc) (by decide) (D0 := "ClockTeeth$Figure") rfl ⟨by omega, by omega, by omega⟩ (ck_fr hY hc (by omega)) (g_lload_n dX0_doorsOn_27 rfl rfl (cv_X0_110 (M := mX0_doorsOn) rfl dX0_doorsOn_28 (ck_fo hY hc (by omega)) (RO.same _ _ _) (Nat.le_of_ble_eq_true rfl) (e_X1_comesOut (ck_fo hY hc (by omega)) (by omega) (by omega) (by omega)) <| kI ?_)))))
      refine g_if_eq 69 dX0_doorsOn_31 rfl (by omega) (fun c31 => ?_) (fun c31 => ?_)
      · skip
        refine g_inc5 dX0_doorsOn_69 (by decide) rfl (g_goto 11 dX0_doorsOn_72 rfl ?_)
        have hgo := ih _ (by omega) (f + 1) rfl (by omega)
        rw [e1] at hgo
        first
        | (rw [drs_f (fun q => by have := pI_t (P := Out (h.I (c + 4 + f.toNat) 0) (h.I (c + 4 + f.toNat) 1) (h.I (c + 4 + f.toNat) 3) (h.I (c + 4 + f.toNat) 4) t) q; omega)] at hgo; exact hgo)
        | (have hbit : (drs (dOut h c t) (dDor h c t) f.toNat).testBit (dDor h c t f.toNat).toNat = true := (by rw [han2] at c56; split at c56; assumption; exact absurd rfl c56); rw [drs_t hO] at hgo; unfold dst at hgo; rw [if_pos hbit, ← hoc] at hgo; exact hgo)
        | (have hbit : ¬ (drs (dOut h c t) (dDor h c t) f.toNat).testBit (dDor h c t f.toNat).toNat = true := (by intro q; rw [han2, if_pos q] at c56; omega); rw [drs_t hO] at hgo; unfold dst at hgo; rw [if_neg hbit, ← hor] at hgo; exact hgo)
      · skip
        have hO : dOut h c t f.toNat := pI_eq1.mp (show pI (Out (h.I (c + 4 + f.toNat) 0) (h.I (c + 4 + f.toNat) 1) (h.I (c + 4 + f.toNat) 3) (h.I (c + 4 + f.toNat) 4) t) = 1 by omega)
        refine g_iconst dX0_doorsOn_34 (g_aload_n dX0_doorsOn_35 rfl rfl (g_aload_n dX0_doorsOn_36 rfl rfl (gf_X0_11 (M := mX0_doorsOn) rfl dX0_doorsOn_37 (ck_o hY hc) (ck_r0 hY hc) (g_iload dX0_doorsOn_40 rfl (g_aald dX0_doorsOn_42 (ck_a0 hY hc) (by decide) (D0 := "ClockTeeth$Figure") rfl ⟨by omega, by omega, by omega⟩ (ck_fr hY hc (by omega)) (g_iload dX0_doorsOn_43 rfl (cv_X0_114 (M := mX0_doorsOn) rfl dX0_doorsOn_45 (ck_o hY hc) (RO.same _ _ _) (Nat.le_of_ble_eq_true rfl) (e_X0_doorOf hY hc (ck_fo hY hc (by omega)) (by omega) (by omega) (by omega) (by omega) (by omega)) <| kI (g_ishl dX0_doorsOn_48 (g_ist6 dX0_doorsOn_49 (by decide) rfl ?_)))))))))
        have han2 : iAnd (drs (dOut h c t) (dDor h c t) f.toNat : Nat) (iShl 1 (dorS (h.I (c + 4 + f.toNat) 2) (h.I c 6) (h.I c 7) (h.I c 8) (dyo t))) = if (drs (dOut h c t) (dDor h c t) f.toNat).testBit (dDor h c t f.toNat).toNat = true then 2 ^ (dDor h c t f.toNat).toNat else 0 := han
        have hr2 : R32 (iAnd (drs (dOut h c t) (dDor h c t) f.toNat : Nat) (iShl 1 (dorS (h.I (c + 4 + f.toNat) 2) (h.I c 6) (h.I c 7) (h.I c 8) (dyo t)))) := by rw [han2]; split <;> omega
        refine g_iload_n dX0_doorsOn_51 rfl rfl (g_iload_n dX0_doorsOn_52 rfl rfl (g_iload dX0_doorsOn_53 rfl (g_iand dX0_doorsOn_55 ?_)))
        refine g_if_eq 65 dX0_doorsOn_56 rfl (hr2) (fun c56 => ?_) (fun c56 => ?_)
        · skip
          refine g_iload dX0_doorsOn_65 rfl (g_ior dX0_doorsOn_67 (g_ist3 dX0_doorsOn_68 (by decide) rfl (g_inc5 dX0_doorsOn_69 (by decide) rfl (g_goto 11 dX0_doorsOn_72 rfl (g_dr6 ?_)))))
          have hgo := ih _ (by omega) (f + 1) rfl (by omega)
          rw [e1] at hgo
          first
          | (rw [drs_f (fun q => by have := pI_t (P := Out (h.I (c + 4 + f.toNat) 0) (h.I (c + 4 + f.toNat) 1) (h.I (c + 4 + f.toNat) 3) (h.I (c + 4 + f.toNat) 4) t) q; omega)] at hgo; exact hgo)
          | (have hbit : (drs (dOut h c t) (dDor h c t) f.toNat).testBit (dDor h c t f.toNat).toNat = true := (by rw [han2] at c56; split at c56; assumption; exact absurd rfl c56); rw [drs_t hO] at hgo; unfold dst at hgo; rw [if_pos hbit, ← hoc] at hgo; exact hgo)
          | (have hbit : ¬ (drs (dOut h c t) (dDor h c t) f.toNat).testBit (dDor h c t f.toNat).toNat = true := (by intro q; rw [han2, if_pos q] at c56; omega); rw [drs_t hO] at hgo; unfold dst at hgo; rw [if_neg hbit, ← hor] at hgo; exact hgo)
        · skip
          refine g_sipush dX0_doorsOn_59 ks512 (g_goto 67 dX0_doorsOn_62 rfl (g_ior dX0_doorsOn_67 (g_ist3 dX0_doorsOn_68 (by decide) rfl (g_inc5 dX0_doorsOn_69 (by decide) rfl (g_goto 11 dX0_doorsOn_72 rfl (g_dr6 ?_))))))
          have hgo := ih _ (by omega) (f + 1) rfl (by omega)
          rw [e1] at hgo
          first
          | (rw [drs_f (fun q => by have := pI_t (P := Out (h.I (c + 4 + f.toNat) 0) (h.I (c + 4 + f.toNat) 1) (h.I (c + 4 + f.toNat) 3) (h.I (c + 4 + f.toNat) 4) t) q; omega)] at hgo; exact hgo)
          | (have hbit : (drs (dOut h c t) (dDor h c t) f.toNat).testBit (dDor h c t f.toNat).toNat = true := (by rw [han2] at c56; split at c56; assumption; exact absurd rfl c56); rw [drs_t hO] at hgo; unfold dst at hgo; rw [if_pos hbit, ← hoc] at hgo; exact hgo)
          | (have hbit : ¬ (drs (dOut h c t) (dDor h c t) f.toNat).testBit (dDor h c t f.toNat).toNat = true := (by intro q; rw [han2, if_pos q] at c56; omega); rw [drs_t hO] at hgo; unfold dst at hgo; rw [if_neg hbit, ← hor] at hgo; exact hgo)
  refine g_iconst dX0_doorsOn_0 (g_ist3 dX0_doorsOn_1 (by decide) rfl (g_lload_n dX0_doorsOn_2 rfl rfl (cv_X0_106 (M := mX0_doorsOn) rfl dX0_doorsOn_3 (RO.same _ _ _) (Nat.le_of_ble_eq_true rfl) (e_X8_dayOfYear (by omega)) <| kI (g_ist4 dX0_doorsOn_6 (by decide) rfl (g_iconst dX0_doorsOn_8 (g_ist5 dX0_doorsOn_9 (by decide) rfl ?_))))))
  exact L11 _ 0 rfl (by omega)
