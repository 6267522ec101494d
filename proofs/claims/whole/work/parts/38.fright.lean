theorem cntN_bd {P : Int → Prop} {lo : Int} : ∀ n : Nat, 0 ≤ cntN P lo n ∧ cntN P lo n ≤ n
  | 0 => ⟨Int.le_refl _, Int.le_refl _⟩
  | n + 1 => by
    have := cntN_bd (P := P) (lo := lo) n
    have := pI_01 (P (lo + n))
    rw [cntN]; push_cast; omega
/-- on the day something stands near the door -/
def FrgP (h : HM) (p : Nat) (t : Int) : Prop := iAnd (drs (dOut h 12 t) (dDor h 12 t) (h.I 12 3).toNat : Nat) (nearB p (h.I 12 9)) ≠ 0
def Fr85 (h h1 : HM) : Prop := ∀ a, a ≠ 85 → h1.I a = h.I a ∧ h1.L a = h.L a
theorem Fr85.I {h h1 : HM} (hf : Fr85 h h1) {a : Nat} (ha : a ≠ 85) (j : Nat) : h1.I a j = h.I a j := by rw [(hf a ha).1]
theorem Fr85.s {h h1 : HM} (hf : Fr85 h h1) (j : Nat) (v : Int) : Fr85 h (h1.sI 85 j v) := fun a ha => ⟨by funext i; rw [sI_I, if_neg (fun z => ha z.1), hf.I ha], (hf a ha).2⟩
theorem Fr85.CF {h h1 : HM} (hf : Fr85 h h1) (hC : CF h 12) : CF h1 12 := CF_eq (hf.I (by omega) 3) (fun i i0 i1 j => hf.I (by have := hC.1; omega) j) hC
theorem iAnd_r (a b : Int) : R32 (iAnd a b) := by
  have h1 := (iZ a &&& iZ b).le_toInt
  have h2 := (iZ a &&& iZ b).toInt_lt
  exact ⟨h1, h2⟩
theorem drs_congr {O O' : Nat → Prop} {D D' : Nat → Int} : ∀ n : Nat, (∀ i, i < n → (O i ↔ O' i) ∧ D i = D' i) → drs O D n = drs O' D' n
  | 0, _ => rfl
  | n + 1, h => by
    have e := drs_congr n (fun i hi => h i (by omega))
    have q := h n (by omega)
    unfold drs
    rw [e, q.2]
    by_cases z : O n
    · rw [if_pos z, if_pos (q.1.mp z)]
    · rw [if_neg z, if_neg (fun w => z (q.1.mpr w))]
theorem Fr85.drs {h h1 : HM} (hf : Fr85 h h1) (hn : h.I 12 3 ≤ 6) (t : Int) : drs (dOut h1 12 t) (dDor h1 12 t) (h1.I 12 3).toNat = drs (dOut h 12 t) (dDor h 12 t) (h.I 12 3).toNat := by
  rw [hf.I (by omega) 3]
  refine drs_congr _ (fun i hi => ?_)
  have n : 12 + 4 + i ≠ 85 := by omega
  unfold dOut dDor
  rw [hf.I n, hf.I n, hf.I n, hf.I n, hf.I n, hf.I (by omega), hf.I (by omega), hf.I (by omega)]
  exact ⟨Iff.rfl, rfl⟩
set_option maxRecDepth 100000 in
set_option maxHeartbeats 1000000 in
theorem e_X8_countFrights {G : GX} {y : LY} {h : HM} {d : Nat} (hY : Lay y) {t n : Int} (ht : 0 ≤ t ∧ t ≤ 1000000000000) (hn : 1 ≤ n ∧ n ≤ 400) (hC : CF h 12) (h6 : R32 (h.I 12 6)) (h7 : R32 (h.I 12 7)) (h8 : R32 (h.I 12 8)) (h9 : 0 ≤ h.I 12 9 ∧ h.I 12 9 ≤ 3) : EvQV G mX8_countFrights (d + 3) [.ref 9, .long (lZ t), .int (iZ n)] y h (fun h1 => Fr85 h h1 ∧ ∀ q : Nat, q < 9 → h1.I 85 q = cntN (FrgP h q) t n.toNat) := by
  have hnf := hC.1
  refine Ev.of rfl [some (.ref 9), some (.long (lZ t)), none, some (.int (iZ n)), none, none, none] rfl (Nat.le_of_ble_eq_true rfl) ?_
  have L30 : ∀ (m : Nat) (h1 : HM) (i : Nat), (m : Int) = n - i → (i : Int) ≤ n → Fr85 h h1 → (∀ q : Nat, q < 9 → h1.I 85 q = cntN (FrgP h q) t i) → Go G mX8_countFrights (rmo (d + 3) 0 0) (ZM G y 0 0 (fun r h1 => r = none ∧ (fun h1 => Fr85 h h1 ∧ ∀ q : Nat, q < 9 → h1.I 85 q = cntN (FrgP h q) t n.toNat) h1)) y 30 [some (.ref 9), some (.long (lZ t)), none, some (.int (iZ n)), some (.int (iZ i)), none, none] [] h1 (0, 0) := by
    intro m
    induction m using Nat.strongRecOn with | _ m ih =>
    intro h1 i hm hi hfr hV
    have hC1 := hfr.CF hC
    have e6 := hfr.I (a := 12) (by omega) 6
    have e7 := hfr.I (a := 12) (by omega) 7
    have e8 := hfr.I (a := 12) (by omega) 8
    have e9 := hfr.I (a := 12) (by omega) 9
    have L53 : ∀ (m2 : Nat) (h1 : HM) (p : Int), (m2 : Int) = 9 - p → 0 ≤ p ∧ p ≤ 9 → (i : Int) < n → Fr85 h h1 → (∀ q : Nat, q < 9 → h1.I 85 q = if (q : Int) < p then cntN (FrgP h q) t (i + 1) else cntN (FrgP h q) t i) → Go G mX8_countFrights (rmo (d + 3) 0 0) (ZM G y 0 0 (fun r h1 => r = none ∧ (fun h1 => Fr85 h h1 ∧ ∀ q : Nat, q < 9 → h1.I 85 q = cntN (FrgP h q) t n.toNat) h1)) y 53 [some (.ref 9), some (.long (lZ t)), none, some (.int (iZ n)), some (.int (iZ i)), some (.int (iZ (drs (dOut h 12 (t + i)) (dDor h 12 (t + i)) (h.I 12 3).toNat : Nat))), some (.int (iZ p))] [] h1 (0, 0) := by
      clear hV e6 e7 e8 e9 hC1 hfr h1
      intro m2
      induction m2 using Nat.strongRecOn with | _ m2 ih2 =>
      intro h1 p hm2 hp hin hfr hV
      have hC1 := hfr.CF hC
      have e6 := hfr.I (a := 12) (by omega) 6
      have e7 := hfr.I (a := 12) (by omega) 7
      have e8 := hfr.I (a := 12) (by omega) 8
      have e9 := hfr.I (a := 12) (by omega) 9
      have hcb := cntN_bd (P := FrgP h p.toNat) (lo := t) i
      have hVp : p < 9 → h1.I 85 p.toNat = cntN (FrgP h p.toNat) t i := fun z => by rw [hV p.toNat (by omega), if_neg (by omega)]
      refine g_iload dX8_countFrights_53 rfl (g_aload_n dX8_countFrights_55 rfl rfl (gf_X8_61 (M := mX8_countFrights) rfl dX8_countFrights_56 (yo9 hY) (yr9_10 hY) (g_alen dX8_countFrights_59 (ya85 hY) (by decide) rfl ?_)))
      refine g_icmp_ge 98 dX8_countFrights_60 rfl (by omega) (by omega) (fun c60 => ?_) (fun c60 => ?_)
      · skip
        refine g_inc4 dX8_countFrights_98 (by decide) rfl (g_goto 30 dX8_countFrights_101 rfl (g_dr5 (g_dr6 ?_)))
        exact ih (m - 1) (by omega) h1 (i + 1) (by omega) (by omega) hfr (fun q q9 => by rw [hV q q9, if_pos (by omega)])
      · skip
        have hVq := hVp (by omega)
        have hia := iAnd_r (drs (dOut h 12 (t + i)) (dDor h 12 (t + i)) (h.I 12 3).toNat : Nat) (nearB p (h1.I 12 9))
        refine g_iload dX8_countFrights_63 rfl (g_iload dX8_countFrights_65 rfl (g_aload_n dX8_countFrights_67 rfl rfl (gf_X8_19 (M := mX8_countFrights) rfl dX8_countFrights_68 (yo9 hY) (yr9_1 hY) (gf_X8_110 (M := mX8_countFrights) rfl dX8_countFrights_71 (ck_o hY clk12) (cv_X8_343 (M := mX8_countFrights) rfl dX8_countFrights_74 (RO.same _ _ _) (Nat.le_of_ble_eq_true rfl) (e_X8_near (by omega) (by omega)) <| kI (g_iand dX8_countFrights_77 ?_))))))
        refine g_if_eq 92 dX8_countFrights_78 rfl (by omega) (fun c78 => ?_) (fun c78 => ?_)
        · skip
          refine g_inc6 dX8_countFrights_92 (by decide) rfl (g_goto 53 dX8_countFrights_95 rfl ?_)
          refine ih2 (m2 - 1) (by omega) _ (p + 1) (by omega) (by omega) hin (by first | exact hfr.s _ _ | exact hfr) (fun q q9 => ?_)
          have hVr := hV q q9
          first
          | (rw [sI_I]; by_cases e : q = p.toNat; (subst e; rw [if_pos ⟨rfl, rfl⟩, if_pos (by omega), cntN, hVq, pI_t (show FrgP h p.toNat (t + i) from fun z => c78 (by rw [e9]; rw [show ((p.toNat : Nat) : Int) = p by omega] at z; exact z))]); (rw [if_neg (fun z => e z.2), hVr]; by_cases w : (q : Int) < p; (rw [if_pos w, if_pos (by omega)]); (rw [if_neg w, if_neg (by omega)])))
          | (by_cases e : q = p.toNat; (subst e; rw [if_pos (by omega), cntN, hVq, pI_f (show ¬ FrgP h p.toNat (t + i) from fun z => z (by rw [show ((p.toNat : Nat) : Int) = p by omega, ← e9]; exact c78))]; omega); (rw [hVr]; by_cases w : (q : Int) < p; (rw [if_pos w, if_pos (by omega)]); (rw [if_neg w, if_neg (by omega)])))
        · skip
          refine g_aload_n dX8_countFrights_81 rfl rfl (gf_X8_61 (M := mX8_countFrights) rfl dX8_countFrights_82 (yo9 hY) (yr9_10 hY) (g_iload dX8_countFrights_85 rfl (g_dup2 dX8_countFrights_87 rfl rfl (g_iald dX8_countFrights_88 (ya85 hY) ⟨by omega, by omega, by omega⟩ (g_iconst dX8_countFrights_89 (g_iadd dX8_countFrights_90 (g_iast dX8_countFrights_91 (ya85 hY) ⟨by omega, by omega, by omega⟩ (g_inc6 dX8_countFrights_92 (by decide) rfl (g_goto 53 dX8_countFrights_95 rfl ?_)))))))))
          refine ih2 (m2 - 1) (by omega) _ (p + 1) (by omega) (by omega) hin (by first | exact hfr.s _ _ | exact hfr) (fun q q9 => ?_)
          have hVr := hV q q9
          first
          | (rw [sI_I]; by_cases e : q = p.toNat; (subst e; rw [if_pos ⟨rfl, rfl⟩, if_pos (by omega), cntN, hVq, pI_t (show FrgP h p.toNat (t + i) from fun z => c78 (by rw [e9]; rw [show ((p.toNat : Nat) : Int) = p by omega] at z; exact z))]); (rw [if_neg (fun z => e z.2), hVr]; by_cases w : (q : Int) < p; (rw [if_pos w, if_pos (by omega)]); (rw [if_neg w, if_neg (by omega)])))
          | (by_cases e : q = p.toNat; (subst e; rw [if_pos (by omega), cntN, hVq, pI_f (show ¬ FrgP h p.toNat (t + i) from fun z => z (by rw [show ((p.toNat : Nat) : Int) = p by omega, ← e9]; exact c78))]; omega); (rw [hVr]; by_cases w : (q : Int) < p; (rw [if_pos w, if_pos (by omega)]); (rw [if_neg w, if_neg (by omega)])))
    refine g_iload dX8_countFrights_30 rfl (g_iload_n dX8_countFrights_32 rfl rfl ?_)
    refine g_icmp_ge 104 dX8_countFrights_33 rfl (by omega) (by omega) (fun c33 => ?_) (fun c33 => ?_)
    · skip
      exact g_vret dX8_countFrights_104 rfl rfl ⟨Nat.le_refl _, Nat.le_refl _⟩ (by exact ⟨rfl, hfr, fun q q9 => by rw [hV q q9, show i = n.toNat by omega]⟩)
    · skip
      refine g_aload_n dX8_countFrights_36 rfl rfl (gf_X8_19 (M := mX8_countFrights) rfl dX8_countFrights_37 (yo9 hY) (yr9_1 hY) (g_lload_n dX8_countFrights_40 rfl rfl (g_iload dX8_countFrights_41 rfl (g_i2l dX8_countFrights_43 (by omega) (g_ladd dX8_countFrights_44 (cv_X8_229 (M := mX8_countFrights) rfl dX8_countFrights_45 (ck_o hY clk12) (RO.same _ _ _) (Nat.le_of_ble_eq_true rfl) (e_X0_doorsOn hY (Or.inl rfl) hC1 (by omega) (by omega) (by omega) (by omega)) <| kI ?_))))))
      rw [hfr.drs (by omega)]
      refine g_ist5 dX8_countFrights_48 (by decide) rfl (g_iconst dX8_countFrights_50 (g_ist6 dX8_countFrights_51 (by decide) rfl ?_))
      exact L53 9 h1 0 (by omega) (by omega) (by omega) hfr (fun q q9 => by rw [hV q q9, if_neg (by omega)])
  have L3 : ∀ (m : Nat) (h1 : HM) (i : Nat), (m : Int) = 9 - i → i ≤ 9 → Fr85 h h1 → (∀ q : Nat, q < i → h1.I 85 q = 0) → Go G mX8_countFrights (rmo (d + 3) 0 0) (ZM G y 0 0 (fun r h1 => r = none ∧ (fun h1 => Fr85 h h1 ∧ ∀ q : Nat, q < 9 → h1.I 85 q = cntN (FrgP h q) t n.toNat) h1)) y 3 [some (.ref 9), some (.long (lZ t)), none, some (.int (iZ n)), some (.int (iZ i)), none, none] [] h1 (0, 0) := by
    intro m
    induction m using Nat.strongRecOn with | _ m ih =>
    intro h1 i hm hi hfr hV
    refine g_iload dX8_countFrights_3 rfl (g_aload_n dX8_countFrights_5 rfl rfl (gf_X8_61 (M := mX8_countFrights) rfl dX8_countFrights_6 (yo9 hY) (yr9_10 hY) (g_alen dX8_countFrights_9 (ya85 hY) (by decide) rfl ?_)))
    refine g_icmp_ge 27 dX8_countFrights_10 rfl (by omega) (by omega) (fun c10 => ?_) (fun c10 => ?_)
    · skip
      refine g_iconst dX8_countFrights_27 (g_ist4 dX8_countFrights_28 (by decide) rfl ?_)
      exact L30 n.toNat h1 0 (by omega) (by omega) hfr (fun q q9 => by rw [hV q (by omega)]; rfl)
    · skip
      refine g_aload_n dX8_countFrights_13 rfl rfl (gf_X8_61 (M := mX8_countFrights) rfl dX8_countFrights_14 (yo9 hY) (yr9_10 hY) (g_iload dX8_countFrights_17 rfl (g_iconst dX8_countFrights_19 (g_iast dX8_countFrights_20 (ya85 hY) ⟨by omega, by omega, by omega⟩ (g_inc4 dX8_countFrights_21 (by decide) rfl (g_goto 3 dX8_countFrights_24 rfl ?_))))))
      refine ih (m - 1) (by omega) _ (i + 1) (by omega) (by omega) (hfr.s _ _) (fun q q9 => ?_)
      rw [sI_I]; split
      · rfl
      · rename_i z; exact hV q (by omega)
  refine g_iconst dX8_countFrights_0 (g_ist4 dX8_countFrights_1 (by decide) rfl ?_)
  exact L3 9 h 0 (by omega) (by omega) (fun _ _ => ⟨rfl, rfl⟩) (fun q q9 => by omega)
