/-! frights, in the reference -/
def FrE (F : Nat → Fg) (sd sf s2 r n p t : Int) : Prop := ExI (fun i => OutF (F i.toNat) t ∧ (p - r ≤ dF F sd sf s2 t i.toNat ∧ dF F sd sf s2 t i.toNat ≤ p + r)) n
set_option maxRecDepth 100000 in
theorem near_bit0 : ∀ p : Fin 9, ∀ r : Fin 4, (0 ≤ nearB (p.val : Int) (r.val : Int) ∧ nearB (p.val : Int) (r.val : Int) < 512) ∧ ∀ e : Fin 9, ((nearB (p.val : Int) (r.val : Int)).toNat.testBit e.val = decide ((p.val : Int) - (r.val : Int) ≤ (e.val : Int) ∧ (e.val : Int) ≤ (p.val : Int) + (r.val : Int))) := by decide +kernel
theorem near_bit {p r : Int} (hp : 0 ≤ p ∧ p ≤ 8) (hr : 0 ≤ r ∧ r ≤ 3) : (0 ≤ nearB p r ∧ nearB p r < 512) ∧ ∀ e : Nat, e < 9 → ((nearB p r).toNat.testBit e = true ↔ p - r ≤ (e : Int) ∧ (e : Int) ≤ p + r) := by
  have h := near_bit0 ⟨p.toNat, by omega⟩ ⟨r.toNat, by omega⟩
  simp only [show ((p.toNat : Nat) : Int) = p by omega, show ((r.toNat : Nat) : Int) = r by omega] at h
  refine ⟨h.1, fun e he => ?_⟩
  rw [h.2 ⟨e, he⟩]
  exact decide_eq_true_iff
theorem and_ne {a b : Nat} : a &&& b ≠ 0 ↔ ∃ e : Nat, a.testBit e = true ∧ b.testBit e = true := by
  constructor
  · intro h
    apply Classical.byContradiction
    intro hn
    apply h
    apply Nat.eq_of_testBit_eq
    intro i
    rw [Nat.zero_testBit, Nat.testBit_and]
    cases ha : a.testBit i with
    | false => rfl
    | true =>
      cases hb : b.testBit i with
      | false => rfl
      | true => exact absurd ⟨i, ha, hb⟩ hn
  · rintro ⟨e, h1, h2⟩ h3
    have := congrArg (fun x => x.testBit e) h3
    simp only [Nat.testBit_and, h1, h2, Nat.zero_testBit] at this
    cases this
theorem FrgP_E {h : HM} (hC : CF h 12) (h9 : 0 ≤ h.I 12 9 ∧ h.I 12 9 ≤ 3) {p : Nat} (hp : p < 9) (t : Int) : FrgP h p t ↔ FrE (cFs h 12) (h.I 12 6) (h.I 12 7) (h.I 12 8) (h.I 12 9) (h.I 12 3) p t := by
  have hnf := hC.1
  have hdd : ∀ i, i < (h.I 12 3).toNat → 0 ≤ dDor h 12 t i ∧ dDor h 12 t i ≤ 8 := fun j hj => by
    have := hC.2 (j : Int) (by omega) (by omega)
    rw [show ((j : Int)).toNat = j by omega] at this
    exact dorS_bd (by omega)
  have hdb := drs_bd' (O := dOut h 12 t) (D := dDor h 12 t) (h.I 12 3).toNat hdd
  have hbit := (drs_bit (O := dOut h 12 t) (D := dDor h 12 t) (h.I 12 3).toNat hdd).1
  have hnb := near_bit (p := (p : Int)) (r := h.I 12 9) (by omega) h9
  unfold FrgP
  have e : iAnd (drs (dOut h 12 t) (dDor h 12 t) (h.I 12 3).toNat : Nat) (nearB p (h.I 12 9)) = ((drs (dOut h 12 t) (dDor h 12 t) (h.I 12 3).toNat &&& (nearB p (h.I 12 9)).toNat : Nat) : Int) := by
    have q := iAndN (a := drs (dOut h 12 t) (dDor h 12 t) (h.I 12 3).toNat) (b := (nearB p (h.I 12 9)).toNat) (by omega)
    rw [show (((nearB p (h.I 12 9)).toNat : Nat) : Int) = nearB p (h.I 12 9) by omega] at q
    exact q
  rw [e]
  have e2 : ((drs (dOut h 12 t) (dDor h 12 t) (h.I 12 3).toNat &&& (nearB p (h.I 12 9)).toNat : Nat) : Int) ≠ 0 ↔ drs (dOut h 12 t) (dDor h 12 t) (h.I 12 3).toNat &&& (nearB p (h.I 12 9)).toNat ≠ 0 := by omega
  rw [e2, and_ne]
  constructor
  · rintro ⟨b, b1, b2⟩
    have hb : b < 9 := lt_of_bit (X := (nearB p (h.I 12 9)).toNat) (te := 9) (by omega) b2
    obtain ⟨f, f1, f2, f3⟩ := (hbit b hb).mp b1
    have q := (hnb.2 b hb).mp b2
    refine ⟨(f : Int), by omega, ?_⟩
    show Out _ _ _ _ t ∧ _
    rw [Int.toNat_natCast]
    have f4 : dF (cFs h 12) (h.I 12 6) (h.I 12 7) (h.I 12 8) t f = (b : Int) := f3
    rw [f4]
    exact ⟨f2, q⟩
  · rintro ⟨j, j1, j2, j3⟩
    have hd := hdd j.toNat (by omega)
    have f4 : dF (cFs h 12) (h.I 12 6) (h.I 12 7) (h.I 12 8) t j.toNat = dDor h 12 t j.toNat := rfl
    rw [f4] at j3
    refine ⟨(dDor h 12 t j.toNat).toNat, (hbit _ (by omega)).mpr ⟨j.toNat, by omega, j2, by omega⟩, (hnb.2 _ (by omega)).mpr (by omega)⟩
theorem StandP.uniq {c : Nat → Int} {v v2 : Int} (h1 : StandP c v) (h2 : StandP c v2) : v = v2 := by
  obtain ⟨a1, a2, a3⟩ := h1
  obtain ⟨b1, b2, b3⟩ := h2
  have x := a2 v2.toNat (by omega)
  have z := b2 v.toNat (by omega)
  rcases Int.lt_trichotomy v v2 with q | q | q
  · have := b3 v.toNat (by omega); omega
  · exact q
  · have := a3 v2.toNat (by omega); omega
theorem StandP.congr {c c2 : Nat → Int} {v : Int} (h : ∀ q : Nat, q < 9 → c q = c2 q) (h1 : StandP c v) : StandP c2 v := by
  obtain ⟨a1, a2, a3⟩ := h1
  refine ⟨a1, fun q q9 => ?_, fun q q9 => ?_⟩
  · rw [← h _ (by omega), ← h q q9]; exact a2 q q9
  · rw [← h _ (by omega), ← h q (by omega)]; exact a3 q q9
def StI (c : Nat → Int) (p b m : Int) : Prop := (p = 0 ∧ b = -4 ∧ m = 0) ∨ ((0 ≤ b ∧ b < p) ∧ m = c b.toNat ∧ (∀ q : Nat, (q : Int) < p → c b.toNat ≤ c q) ∧ ∀ q : Nat, (q : Int) < b → c b.toNat < c q)
theorem StI.bd {c : Nat → Int} {p b m : Int} (h : StI c p b m) (hp : p ≤ 9) (hc : ∀ q : Nat, 0 ≤ c q ∧ c q ≤ 400) : ((p = 0 ∧ b = -4) ∨ (0 ≤ b ∧ b < p)) ∧ (0 ≤ m ∧ m ≤ 400) := by
  rcases h with z | z
  · omega
  · have := hc b.toNat; omega
theorem StI.y {c : Nat → Int} {p b m : Int} (h : StI c p b m) (hp : 0 ≤ p) (q : b = -4 ∨ c p.toNat < m) : StI c (p + 1) p (c p.toNat) := by
  refine Or.inr ⟨by omega, rfl, fun j hj => ?_, fun j hj => ?_⟩
  · rcases h with z | ⟨z1, z2, z3, z4⟩
    · rw [show j = p.toNat by omega]; exact Int.le_refl _
    · rcases (by omega : (j : Int) < p ∨ j = p.toNat) with w | w
      · have := z3 j w; omega
      · rw [w]; exact Int.le_refl _
  · rcases h with z | ⟨z1, z2, z3, z4⟩
    · omega
    · have := z3 j hj; omega
theorem StI.n {c : Nat → Int} {p b m : Int} (h : StI c p b m) (hp : 0 ≤ p) (q : ¬ b = -4) (w : ¬ c p.toNat < m) : StI c (p + 1) b m := by
  rcases h with z | ⟨z1, z2, z3, z4⟩
  · omega
  · refine Or.inr ⟨by omega, z2, fun j hj => ?_, z4⟩
    rcases (by omega : (j : Int) < p ∨ j = p.toNat) with u | u
    · exact z3 j u
    · rw [u]; omega
theorem StI.e {c : Nat → Int} {b m : Int} (h : StI c 9 b m) : StandP c b := by
  rcases h with z | ⟨z1, z2, z3, z4⟩
  · omega
  · exact ⟨z1, fun q hq => z3 q (by omega), z4⟩
set_option maxRecDepth 100000 in
set_option maxHeartbeats 1000000 in
theorem e_X9_isFright {G : GX} {y : LY} {h : HM} {d : Nat} (hY : Lay y) {F : Nat → Fg} (hR : RF h F) (h6 : R32 (h.I 151 68)) (h7 : R32 (h.I 151 69)) (h8 : R32 (h.I 151 70)) (hre : 0 ≤ h.I 150 2 ∧ h.I 150 2 ≤ 3) {p t : Int} (hp : 0 ≤ p ∧ p ≤ 8) (ht : 0 ≤ t ∧ t ≤ 2000000000000) : EvI G mX9_isFright (d + 4) [.ref 150, .int (iZ p), .long (lZ t)] y h (pI (FrE F (h.I 151 68) (h.I 151 69) (h.I 151 70) (h.I 150 2) (h.I 151 0) p t)) := by
  have hnf := hR.1
  refine Ev.of rfl [some (.ref 150), some (.int (iZ p)), some (.long (lZ t)), none, none, none] rfl (Nat.le_of_ble_eq_true rfl) ?_
  have L6 : ∀ (m : Nat) (i : Int), (m : Int) = (h.I 151 0) - i → 0 ≤ i ∧ i ≤ (h.I 151 0) → Go G mX9_isFright (rmo (d + 4) 0 0) (ZM G y 0 0 (fun r h1 => r = some (.int (iZ (pI (FrE F (h.I 151 68) (h.I 151 69) (h.I 151 70) (h.I 150 2) (h.I 151 0) p t)))) ∧ h1 = h)) y 6 [some (.ref 150), some (.int (iZ p)), some (.long (lZ t)), none, some (.int (iZ (pI (ExI (fun i => OutF (F i.toNat) t ∧ (p - (h.I 150 2) ≤ dF F (h.I 151 68) (h.I 151 69) (h.I 151 70) t i.toNat ∧ dF F (h.I 151 68) (h.I 151 69) (h.I 151 70) t i.toNat ≤ p + (h.I 150 2))) i)))), some (.int (iZ i))] [] h (0, 0) := by
    intro m
    induction m using Nat.strongRecOn with | _ m ih =>
    intro i hm hi
    have hpx := pI_01 (ExI (fun i => OutF (F i.toNat) t ∧ (p - (h.I 150 2) ≤ dF F (h.I 151 68) (h.I 151 69) (h.I 151 70) t i.toNat ∧ dF F (h.I 151 68) (h.I 151 69) (h.I 151 70) t i.toNat ≤ p + (h.I 150 2))) i)
    have hpo := pI_01 (OutF (F i.toNat) t)
    have hp1 := pI_eq1 (P := OutF (F i.toNat) t)
    have hpn := pI_01 (p - h.I 150 2 ≤ dorS (F i.toNat).dr (h.I 151 68) (h.I 151 69) (h.I 151 70) (dyo t) ∧ dorS (F i.toNat).dr (h.I 151 68) (h.I 151 69) (h.I 151 70) (dyo t) ≤ p + h.I 150 2)
    have hp2 := pI_eq1 (P := p - h.I 150 2 ≤ dorS (F i.toNat).dr (h.I 151 68) (h.I 151 69) (h.I 151 70) (dyo t) ∧ dorS (F i.toNat).dr (h.I 151 68) (h.I 151 69) (h.I 151 70) (dyo t) ≤ p + h.I 150 2)
    refine g_iload dX9_isFright_6 rfl (g_aload_n dX9_isFright_8 rfl rfl (gf_X9_7 (M := mX9_isFright) rfl dX9_isFright_9 (yo150 hY) (yr150_0 hY) (g_iconst dX9_isFright_12 (g_iaN 0 dX9_isFright_13 (ya151 hY) ⟨by decide, by decide, by decide⟩ rfl ?_))))
    refine g_icmp_ge 73 dX9_isFright_14 rfl (by omega) (by omega) (fun c14 => ?_) (fun c14 => ?_)
    · skip
      refine g_iload dX9_isFright_73 rfl ?_
      exact g_zret dX9_isFright_75 rfl rfl ⟨Nat.le_refl _, Nat.le_refl _⟩ (by omega) (by obtain rfl : i = (h.I 151 0) := (by omega); exact ⟨rfl, rfl⟩)
    · skip
      refine g_iload dX9_isFright_17 rfl ?_
      refine g_if_ne 60 dX9_isFright_19 rfl (by omega) (fun c19 => ?_) (fun c19 => ?_)
      · skip
        refine g_iconst dX9_isFright_60 (g_goto 65 dX9_isFright_61 rfl (g_ist4 dX9_isFright_65 (by decide) rfl (g_inc5 dX9_isFright_67 (by decide) rfl (g_goto 6 dX9_isFright_70 rfl ?_))))
        have hx := ih (m - 1) (by omega) (i + 1) (by omega) (by omega)
        first | (rw [ExI_1 (P := (fun i => OutF (F i.toNat) t ∧ (p - (h.I 150 2) ≤ dF F (h.I 151 68) (h.I 151 69) (h.I 151 70) t i.toNat ∧ dF F (h.I 151 68) (h.I 151 69) (h.I 151 70) t i.toNat ≤ p + (h.I 150 2)))) (by omega) (Or.inl (by omega))] at hx; exact hx) | (rw [ExI_1 (P := (fun i => OutF (F i.toNat) t ∧ (p - (h.I 150 2) ≤ dF F (h.I 151 68) (h.I 151 69) (h.I 151 70) t i.toNat ∧ dF F (h.I 151 68) (h.I 151 69) (h.I 151 70) t i.toNat ≤ p + (h.I 150 2)))) (by omega) (Or.inr ⟨hp1.mp (by omega), hp2.mp (by omega)⟩)] at hx; exact hx) | (rw [ExI_0 (P := (fun i => OutF (F i.toNat) t ∧ (p - (h.I 150 2) ≤ dF F (h.I 151 68) (h.I 151 69) (h.I 151 70) t i.toNat ∧ dF F (h.I 151 68) (h.I 151 69) (h.I 151 70) t i.toNat ≤ p + (h.I 150 2)))) (by omega) (fun z => by have := hp1.mpr z.1; omega)] at hx; exact hx) | (rw [ExI_0 (P := (fun i => OutF (F i.toNat) t ∧ (p - (h.I 150 2) ≤ dF F (h.I 151 68) (h.I 151 69) (h.I 151 70) t i.toNat ∧ dF F (h.I 151 68) (h.I 151 69) (h.I 151 70) t i.toNat ≤ p + (h.I 150 2)))) (by omega) (fun z => by have := hp2.mpr z.2; omega)] at hx; exact hx)
      · skip
        have hFf := hR.2 i (by omega) (by omega)
        have hdb : 0 ≤ dorS (F i.toNat).dr (h.I 151 68) (h.I 151 69) (h.I 151 70) (dyo t) ∧ dorS (F i.toNat).dr (h.I 151 68) (h.I 151 69) (h.I 151 70) (dyo t) ≤ 8 := dorS_bd (by omega)
        refine g_aload_n dX9_isFright_22 rfl rfl (g_iload dX9_isFright_23 rfl (g_lload_n dX9_isFright_25 rfl rfl (cv_X9_169 (M := mX9_isFright) rfl dX9_isFright_26 (yo150 hY) (RO.same _ _ _) (Nat.le_of_ble_eq_true rfl) (e_X9_isOut hY (by omega) hFf.1 hFf.2 (by omega)) <| kI ?_)))
        refine g_if_eq 64 dX9_isFright_29 rfl (by omega) (fun c29 => ?_) (fun c29 => ?_)
        · skip
          refine g_iconst dX9_isFright_64 (g_ist4 dX9_isFright_65 (by decide) rfl (g_inc5 dX9_isFright_67 (by decide) rfl (g_goto 6 dX9_isFright_70 rfl ?_)))
          have hx := ih (m - 1) (by omega) (i + 1) (by omega) (by omega)
          first | (rw [ExI_1 (P := (fun i => OutF (F i.toNat) t ∧ (p - (h.I 150 2) ≤ dF F (h.I 151 68) (h.I 151 69) (h.I 151 70) t i.toNat ∧ dF F (h.I 151 68) (h.I 151 69) (h.I 151 70) t i.toNat ≤ p + (h.I 150 2)))) (by omega) (Or.inl (by omega))] at hx; exact hx) | (rw [ExI_1 (P := (fun i => OutF (F i.toNat) t ∧ (p - (h.I 150 2) ≤ dF F (h.I 151 68) (h.I 151 69) (h.I 151 70) t i.toNat ∧ dF F (h.I 151 68) (h.I 151 69) (h.I 151 70) t i.toNat ≤ p + (h.I 150 2)))) (by omega) (Or.inr ⟨hp1.mp (by omega), hp2.mp (by omega)⟩)] at hx; exact hx) | (rw [ExI_0 (P := (fun i => OutF (F i.toNat) t ∧ (p - (h.I 150 2) ≤ dF F (h.I 151 68) (h.I 151 69) (h.I 151 70) t i.toNat ∧ dF F (h.I 151 68) (h.I 151 69) (h.I 151 70) t i.toNat ≤ p + (h.I 150 2)))) (by omega) (fun z => by have := hp1.mpr z.1; omega)] at hx; exact hx) | (rw [ExI_0 (P := (fun i => OutF (F i.toNat) t ∧ (p - (h.I 150 2) ≤ dF F (h.I 151 68) (h.I 151 69) (h.I 151 70) t i.toNat ∧ dF F (h.I 151 68) (h.I 151 69) (h.I 151 70) t i.toNat ≤ p + (h.I 150 2)))) (by omega) (fun z => by have := hp2.mpr z.2; omega)] at hx; exact hx)
        · skip
          refine g_aload_n dX9_isFright_32 rfl rfl (g_iload dX9_isFright_33 rfl (g_lload_n dX9_isFright_35 rfl rfl (cv_X9_263 (M := mX9_isFright) rfl dX9_isFright_36 (yo150 hY) (RO.same _ _ _) (Nat.le_of_ble_eq_true rfl) (e_X9_doorOn hY (by omega) hFf.1 hFf.2 h6 h7 h8 (by omega)) <| kI (g_i2l dX9_isFright_39 (by omega) (g_iload_n dX9_isFright_40 rfl rfl (g_aload_n dX9_isFright_41 rfl rfl (gf_X9_63 (M := mX9_isFright) rfl dX9_isFright_42 (yo150 hY) (g_isub dX9_isFright_45 (g_i2l dX9_isFright_46 (by omega) (g_iload_n dX9_isFright_47 rfl rfl (g_aload_n dX9_isFright_48 rfl rfl ?_)))))))))))
          refine gf_X9_63 (M := mX9_isFright) rfl dX9_isFright_49 (yo150 hY) (g_iadd dX9_isFright_52 (g_i2l dX9_isFright_53 (by omega) (cv_X9_71 (M := mX9_isFright) rfl dX9_isFright_54 (RO.same _ _ _) (Nat.le_of_ble_eq_true rfl) (e_X9_in (by omega) (by omega) (by omega)) <| kI ?_)))
          refine g_if_eq 64 dX9_isFright_57 rfl (by omega) (fun c57 => ?_) (fun c57 => ?_)
          · skip
            refine g_iconst dX9_isFright_64 (g_ist4 dX9_isFright_65 (by decide) rfl (g_inc5 dX9_isFright_67 (by decide) rfl (g_goto 6 dX9_isFright_70 rfl ?_)))
            have hx := ih (m - 1) (by omega) (i + 1) (by omega) (by omega)
            first | (rw [ExI_1 (P := (fun i => OutF (F i.toNat) t ∧ (p - (h.I 150 2) ≤ dF F (h.I 151 68) (h.I 151 69) (h.I 151 70) t i.toNat ∧ dF F (h.I 151 68) (h.I 151 69) (h.I 151 70) t i.toNat ≤ p + (h.I 150 2)))) (by omega) (Or.inl (by omega))] at hx; exact hx) | (rw [ExI_1 (P := (fun i => OutF (F i.toNat) t ∧ (p - (h.I 150 2) ≤ dF F (h.I 151 68) (h.I 151 69) (h.I 151 70) t i.toNat ∧ dF F (h.I 151 68) (h.I 151 69) (h.I 151 70) t i.toNat ≤ p + (h.I 150 2)))) (by omega) (Or.inr ⟨hp1.mp (by omega), hp2.mp (by omega)⟩)] at hx; exact hx) | (rw [ExI_0 (P := (fun i => OutF (F i.toNat) t ∧ (p - (h.I 150 2) ≤ dF F (h.I 151 68) (h.I 151 69) (h.I 151 70) t i.toNat ∧ dF F (h.I 151 68) (h.I 151 69) (h.I 151 70) t i.toNat ≤ p + (h.I 150 2)))) (by omega) (fun z => by have := hp1.mpr z.1; omega)] at hx; exact hx) | (rw [ExI_0 (P := (fun i => OutF (F i.toNat) t ∧ (p - (h.I 150 2) ≤ dF F (h.I 151 68) (h.I 151 69) (h.I 151 70) t i.toNat ∧ dF F (h.I 151 68) (h.I 151 69) (h.I 151 70) t i.toNat ≤ p + (h.I 150 2)))) (by omega) (fun z => by have := hp2.mpr z.2; omega)] at hx; exact hx)
          · skip
            refine g_iconst dX9_isFright_60 (g_goto 65 dX9_isFright_61 rfl (g_ist4 dX9_isFright_65 (by decide) rfl (g_inc5 dX9_isFright_67 (by decide) rfl (g_goto 6 dX9_isFright_70 rfl ?_))))
            have hx := ih (m - 1) (by omega) (i + 1) (by omega) (by omega)
            first | (rw [ExI_1 (P := (fun i => OutF (F i.toNat) t ∧ (p - (h.I 150 2) ≤ dF F (h.I 151 68) (h.I 151 69) (h.I 151 70) t i.toNat ∧ dF F (h.I 151 68) (h.I 151 69) (h.I 151 70) t i.toNat ≤ p + (h.I 150 2)))) (by omega) (Or.inl (by omega))] at hx; exact hx) | (rw [ExI_1 (P := (fun i => OutF (F i.toNat) t ∧ (p - (h.I 150 2) ≤ dF F (h.I 151 68) (h.I 151 69) (h.I 151 70) t i.toNat ∧ dF F (h.I 151 68) (h.I 151 69) (h.I 151 70) t i.toNat ≤ p + (h.I 150 2)))) (by omega) (Or.inr ⟨hp1.mp (by omega), hp2.mp (by omega)⟩)] at hx; exact hx) | (rw [ExI_0 (P := (fun i => OutF (F i.toNat) t ∧ (p - (h.I 150 2) ≤ dF F (h.I 151 68) (h.I 151 69) (h.I 151 70) t i.toNat ∧ dF F (h.I 151 68) (h.I 151 69) (h.I 151 70) t i.toNat ≤ p + (h.I 150 2)))) (by omega) (fun z => by have := hp1.mpr z.1; omega)] at hx; exact hx) | (rw [ExI_0 (P := (fun i => OutF (F i.toNat) t ∧ (p - (h.I 150 2) ≤ dF F (h.I 151 68) (h.I 151 69) (h.I 151 70) t i.toNat ∧ dF F (h.I 151 68) (h.I 151 69) (h.I 151 70) t i.toNat ≤ p + (h.I 150 2)))) (by omega) (fun z => by have := hp2.mpr z.2; omega)] at hx; exact hx)
  refine g_iconst dX9_isFright_0 (g_ist4 dX9_isFright_1 (by decide) rfl (g_iconst dX9_isFright_3 (g_ist5 dX9_isFright_4 (by decide) rfl ?_)))
  have hx := L6 (h.I 151 0).toNat 0 (by omega) (by omega)
  rw [ExI_z (P := (fun i => OutF (F i.toNat) t ∧ (p - (h.I 150 2) ≤ dF F (h.I 151 68) (h.I 151 69) (h.I 151 70) t i.toNat ∧ dF F (h.I 151 68) (h.I 151 69) (h.I 151 70) t i.toNat ≤ p + (h.I 150 2))))] at hx
  exact hx
set_option maxRecDepth 100000 in
set_option maxHeartbeats 1000000 in
theorem e_X9_frightOf {G : GX} {y : LY} {h : HM} {d : Nat} (hY : Lay y) {F : Nat → Fg} (hR : RF h F) (h6 : R32 (h.I 151 68)) (h7 : R32 (h.I 151 69)) (h8 : R32 (h.I 151 70)) (hre : 0 ≤ h.I 150 2 ∧ h.I 150 2 ≤ 3) {p t n : Int} (hp : 0 ≤ p ∧ p ≤ 8) (ht : 0 ≤ t ∧ t ≤ 1000000000000) (hn : 1 ≤ n ∧ n ≤ 400) : EvI G mX9_frightOf (d + 5) [.ref 150, .int (iZ p), .long (lZ t), .int (iZ n)] y h ((cntN (FrE F (h.I 151 68) (h.I 151 69) (h.I 151 70) (h.I 150 2) (h.I 151 0) p) t  n.toNat)) := by
  refine Ev.of rfl [some (.ref 150), some (.int (iZ p)), some (.long (lZ t)), none, some (.int (iZ n)), none, none] rfl (Nat.le_of_ble_eq_true rfl) ?_
  have L6 : ∀ (m : Nat) (i : Nat), (m : Int) = n - i → (i : Int) ≤ n → Go G mX9_frightOf (rmo (d + 5) 0 0) (ZM G y 0 0 (fun r h1 => r = some (.int (iZ ((cntN (FrE F (h.I 151 68) (h.I 151 69) (h.I 151 70) (h.I 150 2) (h.I 151 0) p) t  n.toNat)))) ∧ h1 = h)) y 6 [some (.ref 150), some (.int (iZ p)), some (.long (lZ t)), none, some (.int (iZ n)), some (.int (iZ (cntN (FrE F (h.I 151 68) (h.I 151 69) (h.I 151 70) (h.I 150 2) (h.I 151 0) p) t  i))), some (.int (iZ i))] [] h (0, 0) := by
    intro m
    induction m using Nat.strongRecOn with | _ m ih =>
    intro i hm hi
    have hcb := cntN_bd (P := FrE F (h.I 151 68) (h.I 151 69) (h.I 151 70) (h.I 150 2) (h.I 151 0) p) (lo := t) i
    have hpo := pI_01 (FrE F (h.I 151 68) (h.I 151 69) (h.I 151 70) (h.I 150 2) (h.I 151 0) p (t + i))
    refine g_iload dX9_frightOf_6 rfl (g_iload dX9_frightOf_8 rfl ?_)
    refine g_icmp_ge 37 dX9_frightOf_10 rfl (by omega) (by omega) (fun c10 => ?_) (fun c10 => ?_)
    · skip
      refine g_iload dX9_frightOf_37 rfl ?_
      exact g_iret dX9_frightOf_39 rfl rfl ⟨Nat.le_refl _, Nat.le_refl _⟩ (by obtain rfl : i = n.toNat := (by omega); exact ⟨rfl, rfl⟩)
    · skip
      refine g_iload dX9_frightOf_13 rfl (g_aload_n dX9_frightOf_15 rfl rfl (g_iload_n dX9_frightOf_16 rfl rfl (g_lload_n dX9_frightOf_17 rfl rfl (g_iload dX9_frightOf_18 rfl (g_i2l dX9_frightOf_20 (by omega) (g_ladd dX9_frightOf_21 (cv_X9_313 (M := mX9_frightOf) rfl dX9_frightOf_22 (yo150 hY) (RO.same _ _ _) (Nat.le_of_ble_eq_true rfl) (e_X9_isFright hY hR h6 h7 h8 hre (by omega) (by omega)) <| kI (cv_X9_173 (M := mX9_frightOf) rfl dX9_frightOf_25 (RO.same _ _ _) (Nat.le_of_ble_eq_true rfl) (e_X9_flag (by omega)) <| kI (g_iadd dX9_frightOf_28 (g_ist5 dX9_frightOf_29 (by decide) rfl (g_inc6 dX9_frightOf_31 (by decide) rfl ?_)))))))))))
      refine g_goto 6 dX9_frightOf_34 rfl ?_
      exact ih (m - 1) (by omega) (i + 1) (by omega) (by omega)
  refine g_iconst dX9_frightOf_0 (g_ist5 dX9_frightOf_1 (by decide) rfl (g_iconst dX9_frightOf_3 (g_ist6 dX9_frightOf_4 (by decide) rfl ?_)))
  exact L6 n.toNat 0 (by omega) (by omega)
set_option maxRecDepth 100000 in
set_option maxHeartbeats 1000000 in
theorem e_X9_fright {G : GX} {y : LY} {h : HM} {d : Nat} (hY : Lay y) {F : Nat → Fg} (hR : RF h F) (h6 : R32 (h.I 151 68)) (h7 : R32 (h.I 151 69)) (h8 : R32 (h.I 151 70)) (hre : 0 ≤ h.I 150 2 ∧ h.I 150 2 ≤ 3) {p t n : Int} (hp : R32 p) (ht : R64 t) (hn : R32 n) : EvQI G mX9_fright (d + 6) [.ref 150, .int (iZ p), .long (lZ t), .int (iZ n)] y h (fun v => (¬ ((0 ≤ p ∧ p ≤ 8) ∧ ((0 ≤ t ∧ t ≤ 1000000000000) ∧ (1 ≤ n ∧ n ≤ 400))) ∧ v = -1) ∨ (((0 ≤ p ∧ p ≤ 8) ∧ ((0 ≤ t ∧ t ≤ 1000000000000) ∧ (1 ≤ n ∧ n ≤ 400))) ∧ v = (cntN (FrE F (h.I 151 68) (h.I 151 69) (h.I 151 70) (h.I 150 2) (h.I 151 0) p) t  n.toNat))) := by
  have hzp := pI_01 (0 ≤ p ∧ p ≤ 8)
  have hyp := pI_eq1 (P := 0 ≤ p ∧ p ≤ 8)
  have hzs := pI_01 (((0 ≤ t ∧ t ≤ 1000000000000) ∧ (1 ≤ n ∧ n ≤ 400)))
  have hys := pI_eq1 (P := ((0 ≤ t ∧ t ≤ 1000000000000) ∧ (1 ≤ n ∧ n ≤ 400)))
  refine Ev.of rfl [some (.ref 150), some (.int (iZ p)), some (.long (lZ t)), none, some (.int (iZ n))] rfl (Nat.le_of_ble_eq_true rfl) ?_
  refine g_iload_n dX9_fright_0 rfl rfl (g_i2l dX9_fright_1 (by omega) (g_lconst (v := 0) dX9_fright_2 rfl (c2_X9_276 (M := mX9_fright) rfl dX9_fright_3 (cv_X9_71 (M := mX9_fright) rfl dX9_fright_6 (RO.same _ _ _) (Nat.le_of_ble_eq_true rfl) (e_X9_in (by omega) (by omega) (by omega)) <| kI ?_))))
  refine g_if_eq 32 dX9_fright_9 rfl (by omega) (fun c9 => ?_) (fun c9 => ?_)
  · skip
    refine g_iconst dX9_fright_32 ?_
    exact g_iret dX9_fright_33 rfl rfl ⟨Nat.le_refl _, Nat.le_refl _⟩ (by first | exact ⟨-1, rfl, rfl, Or.inl ⟨by omega, rfl⟩⟩ | exact ⟨_, rfl, rfl, Or.inr ⟨by omega, rfl⟩⟩)
  · skip
    refine g_lload_n dX9_fright_12 rfl rfl (g_iload dX9_fright_13 rfl (cv_X9_269 (M := mX9_fright) rfl dX9_fright_15 (RO.same _ _ _) (Nat.le_of_ble_eq_true rfl) (e_X9_areMany (by omega) (by omega)) <| kI ?_))
    refine g_if_eq 32 dX9_fright_18 rfl (by omega) (fun c18 => ?_) (fun c18 => ?_)
    · skip
      refine g_iconst dX9_fright_32 ?_
      exact g_iret dX9_fright_33 rfl rfl ⟨Nat.le_refl _, Nat.le_refl _⟩ (by first | exact ⟨-1, rfl, rfl, Or.inl ⟨by omega, rfl⟩⟩ | exact ⟨_, rfl, rfl, Or.inr ⟨by omega, rfl⟩⟩)
    · skip
      refine g_aload_n dX9_fright_21 rfl rfl (g_iload_n dX9_fright_22 rfl rfl (g_lload_n dX9_fright_23 rfl rfl (g_iload dX9_fright_24 rfl (cv_X9_316 (M := mX9_fright) rfl dX9_fright_26 (yo150 hY) (RO.same _ _ _) (Nat.le_of_ble_eq_true rfl) (e_X9_frightOf hY hR h6 h7 h8 hre (by omega) (by omega) (by omega)) <| kI (g_goto 33 dX9_fright_29 rfl ?_)))))
      exact g_iret dX9_fright_33 rfl rfl ⟨Nat.le_refl _, Nat.le_refl _⟩ (by first | exact ⟨-1, rfl, rfl, Or.inl ⟨by omega, rfl⟩⟩ | exact ⟨_, rfl, rfl, Or.inr ⟨by omega, rfl⟩⟩)
set_option maxRecDepth 100000 in
set_option maxHeartbeats 1000000 in
theorem e_X9_stand {G : GX} {y : LY} {h : HM} {d : Nat} (hY : Lay y) {F : Nat → Fg} (hR : RF h F) (h6 : R32 (h.I 151 68)) (h7 : R32 (h.I 151 69)) (h8 : R32 (h.I 151 70)) (hre : 0 ≤ h.I 150 2 ∧ h.I 150 2 ≤ 3) {t n : Int} (ht : R64 t) (hn : R32 n) : EvQI G mX9_stand (d + 6) [.ref 150, .long (lZ t), .int (iZ n)] y h (fun v => (¬ ((0 ≤ t ∧ t ≤ 1000000000000) ∧ (1 ≤ n ∧ n ≤ 400)) ∧ v = -1) ∨ (((0 ≤ t ∧ t ≤ 1000000000000) ∧ (1 ≤ n ∧ n ≤ 400)) ∧ StandP (fun q : Nat => cntN (FrE F (h.I 151 68) (h.I 151 69) (h.I 151 70) (h.I 150 2) (h.I 151 0) q) t n.toNat) v)) := by
  have hzs := pI_01 (((0 ≤ t ∧ t ≤ 1000000000000) ∧ (1 ≤ n ∧ n ≤ 400)))
  have hys := pI_eq1 (P := ((0 ≤ t ∧ t ≤ 1000000000000) ∧ (1 ≤ n ∧ n ≤ 400)))
  refine Ev.of rfl [some (.ref 150), some (.long (lZ t)), none, some (.int (iZ n)), none, none, none, none, none] rfl (Nat.le_of_ble_eq_true rfl) ?_
  have L20 : ∀ (m : Nat) (p b mn : Int), (m : Int) = 9 - p → 0 ≤ p ∧ p ≤ 9 → ((0 ≤ t ∧ t ≤ 1000000000000) ∧ (1 ≤ n ∧ n ≤ 400)) → StI (fun q : Nat => cntN (FrE F (h.I 151 68) (h.I 151 69) (h.I 151 70) (h.I 150 2) (h.I 151 0) q) t n.toNat) p b mn → Go G mX9_stand (rmo (d + 6) 0 0) (ZM G y 0 0 (fun r h1 => ∃ v_ : Int, r = some (.int (iZ v_)) ∧ h1 = h ∧ (fun v => (¬ ((0 ≤ t ∧ t ≤ 1000000000000) ∧ (1 ≤ n ∧ n ≤ 400)) ∧ v = -1) ∨ (((0 ≤ t ∧ t ≤ 1000000000000) ∧ (1 ≤ n ∧ n ≤ 400)) ∧ StandP (fun q : Nat => cntN (FrE F (h.I 151 68) (h.I 151 69) (h.I 151 70) (h.I 150 2) (h.I 151 0) q) t n.toNat) v)) v_)) y 20 [some (.ref 150), some (.long (lZ t)), none, some (.int (iZ n)), some (.int (iZ b)), some (.int (iZ mn)), some (.int (iZ p)), none, none] [] h (0, 0) := by
    intro m
    induction m using Nat.strongRecOn with | _ m ih =>
    intro p b mn hm hp hok hI
    have hcb : ∀ q : Nat, 0 ≤ (fun q : Nat => cntN (FrE F (h.I 151 68) (h.I 151 69) (h.I 151 70) (h.I 150 2) (h.I 151 0) q) t n.toNat) q ∧ (fun q : Nat => cntN (FrE F (h.I 151 68) (h.I 151 69) (h.I 151 70) (h.I 150 2) (h.I 151 0) q) t n.toNat) q ≤ 400 := fun q => by have := cntN_bd (P := FrE F (h.I 151 68) (h.I 151 69) (h.I 151 70) (h.I 150 2) (h.I 151 0) q) (lo := t) n.toNat; show 0 ≤ cntN (FrE F (h.I 151 68) (h.I 151 69) (h.I 151 70) (h.I 150 2) (h.I 151 0) q) t n.toNat ∧ cntN (FrE F (h.I 151 68) (h.I 151 69) (h.I 151 70) (h.I 150 2) (h.I 151 0) q) t n.toNat ≤ 400; omega
    have hbd := hI.bd hp.2 hcb
    have hcp : 0 ≤ cntN (FrE F (h.I 151 68) (h.I 151 69) (h.I 151 70) (h.I 150 2) (h.I 151 0) p) t n.toNat ∧ cntN (FrE F (h.I 151 68) (h.I 151 69) (h.I 151 70) (h.I 150 2) (h.I 151 0) p) t n.toNat ≤ 400 := by have := cntN_bd (P := FrE F (h.I 151 68) (h.I 151 69) (h.I 151 70) (h.I 150 2) (h.I 151 0) p) (lo := t) n.toNat; omega
    have hce2 : cntN (FrE F (h.I 151 68) (h.I 151 69) (h.I 151 70) (h.I 150 2) (h.I 151 0) ((p.toNat : Nat) : Int)) t n.toNat = cntN (FrE F (h.I 151 68) (h.I 151 69) (h.I 151 70) (h.I 150 2) (h.I 151 0) p) t n.toNat := by rw [show ((p.toNat : Nat) : Int) = p by omega]
    have hce : (fun q : Nat => cntN (FrE F (h.I 151 68) (h.I 151 69) (h.I 151 70) (h.I 150 2) (h.I 151 0) q) t n.toNat) p.toNat = cntN (FrE F (h.I 151 68) (h.I 151 69) (h.I 151 70) (h.I 150 2) (h.I 151 0) p) t n.toNat := by show cntN (FrE F (h.I 151 68) (h.I 151 69) (h.I 151 70) (h.I 150 2) (h.I 151 0) (p.toNat : Int)) t n.toNat = _; rw [show ((p.toNat : Nat) : Int) = p by omega]
    refine g_iload dX9_stand_20 rfl (g_bipush dX9_stand_22 kb9 ?_)
    refine g_icmp_ge 92 dX9_stand_24 rfl (by omega) (by omega) (fun c24 => ?_) (fun c24 => ?_)
    · skip
      refine g_iload dX9_stand_92 rfl ?_
      exact g_iret dX9_stand_94 rfl rfl ⟨Nat.le_refl _, Nat.le_refl _⟩ (by obtain rfl : p = 9 := (by omega); exact ⟨b, rfl, rfl, Or.inr ⟨hok, hI.e⟩⟩)
    · skip
      refine g_aload_n dX9_stand_27 rfl rfl (g_iload dX9_stand_28 rfl (g_lload_n dX9_stand_30 rfl rfl (g_iload_n dX9_stand_31 rfl rfl (cv_X9_316 (M := mX9_stand) rfl dX9_stand_32 (yo150 hY) (RO.same _ _ _) (Nat.le_of_ble_eq_true rfl) (e_X9_frightOf hY hR h6 h7 h8 hre (by omega) (by omega) (by omega)) <| kI (g_ist7 dX9_stand_35 (by decide) rfl (g_iload dX9_stand_37 rfl (g_bipush dX9_stand_39 kbm4 ?_)))))))
      refine g_icmp_eq 51 dX9_stand_41 rfl (by omega) (by omega) (fun c41 => ?_) (fun c41 => ?_)
      · skip
        refine g_iconst dX9_stand_51 (g_goto 56 dX9_stand_52 rfl (g_ist8 dX9_stand_56 (by decide) rfl (g_iload dX9_stand_58 rfl ?_)))
        refine g_if_eq 68 dX9_stand_60 rfl (by omega) (fun c60 => ?_) (fun c60 => ?_)
        · skip
          refine g_iload dX9_stand_68 rfl (g_ist4 dX9_stand_70 (by decide) rfl (g_iload dX9_stand_72 rfl ?_))
          refine g_if_eq 82 dX9_stand_74 rfl (by omega) (fun c74 => ?_) (fun c74 => ?_)
          · skip
            refine g_iload dX9_stand_82 rfl (g_ist5 dX9_stand_84 (by decide) rfl (g_inc6 dX9_stand_86 (by decide) rfl (g_goto 20 dX9_stand_89 rfl (g_dr7 (g_dr8 ?_)))))
            first | (exfalso; omega) | (have hx := ih (m - 1) (by omega) (p + 1) _ _ (by omega) (by omega) hok (hI.y hp.1 (by omega)); first | exact hx | (rw [hce] at hx; exact hx) | (simp only [hce2] at hx; exact hx)) | exact ih (m - 1) (by omega) (p + 1) b mn (by omega) (by omega) hok (hI.n hp.1 (by omega) (by omega))
          · skip
            refine g_iload dX9_stand_77 rfl (g_goto 84 dX9_stand_79 rfl (g_ist5 dX9_stand_84 (by decide) rfl (g_inc6 dX9_stand_86 (by decide) rfl (g_goto 20 dX9_stand_89 rfl (g_dr7 (g_dr8 ?_))))))
            first | (exfalso; omega) | (have hx := ih (m - 1) (by omega) (p + 1) _ _ (by omega) (by omega) hok (hI.y hp.1 (by omega)); first | exact hx | (rw [hce] at hx; exact hx) | (simp only [hce2] at hx; exact hx)) | exact ih (m - 1) (by omega) (p + 1) b mn (by omega) (by omega) hok (hI.n hp.1 (by omega) (by omega))
        · skip
          refine g_iload dX9_stand_63 rfl (g_goto 70 dX9_stand_65 rfl (g_ist4 dX9_stand_70 (by decide) rfl (g_iload dX9_stand_72 rfl ?_)))
          refine g_if_eq 82 dX9_stand_74 rfl (by omega) (fun c74 => ?_) (fun c74 => ?_)
          · skip
            refine g_iload dX9_stand_82 rfl (g_ist5 dX9_stand_84 (by decide) rfl (g_inc6 dX9_stand_86 (by decide) rfl (g_goto 20 dX9_stand_89 rfl (g_dr7 (g_dr8 ?_)))))
            first | (exfalso; omega) | (have hx := ih (m - 1) (by omega) (p + 1) _ _ (by omega) (by omega) hok (hI.y hp.1 (by omega)); first | exact hx | (rw [hce] at hx; exact hx) | (simp only [hce2] at hx; exact hx)) | exact ih (m - 1) (by omega) (p + 1) b mn (by omega) (by omega) hok (hI.n hp.1 (by omega) (by omega))
          · skip
            refine g_iload dX9_stand_77 rfl (g_goto 84 dX9_stand_79 rfl (g_ist5 dX9_stand_84 (by decide) rfl (g_inc6 dX9_stand_86 (by decide) rfl (g_goto 20 dX9_stand_89 rfl (g_dr7 (g_dr8 ?_))))))
            first | (exfalso; omega) | (have hx := ih (m - 1) (by omega) (p + 1) _ _ (by omega) (by omega) hok (hI.y hp.1 (by omega)); first | exact hx | (rw [hce] at hx; exact hx) | (simp only [hce2] at hx; exact hx)) | exact ih (m - 1) (by omega) (p + 1) b mn (by omega) (by omega) hok (hI.n hp.1 (by omega) (by omega))
      · skip
        refine g_iload dX9_stand_44 rfl (g_iload dX9_stand_46 rfl ?_)
        refine g_icmp_ge 55 dX9_stand_48 rfl (by omega) (by omega) (fun c48 => ?_) (fun c48 => ?_)
        · skip
          refine g_iconst dX9_stand_55 (g_ist8 dX9_stand_56 (by decide) rfl (g_iload dX9_stand_58 rfl ?_))
          refine g_if_eq 68 dX9_stand_60 rfl (by omega) (fun c60 => ?_) (fun c60 => ?_)
          · skip
            refine g_iload dX9_stand_68 rfl (g_ist4 dX9_stand_70 (by decide) rfl (g_iload dX9_stand_72 rfl ?_))
            refine g_if_eq 82 dX9_stand_74 rfl (by omega) (fun c74 => ?_) (fun c74 => ?_)
            · skip
              refine g_iload dX9_stand_82 rfl (g_ist5 dX9_stand_84 (by decide) rfl (g_inc6 dX9_stand_86 (by decide) rfl (g_goto 20 dX9_stand_89 rfl (g_dr7 (g_dr8 ?_)))))
              first | (exfalso; omega) | (have hx := ih (m - 1) (by omega) (p + 1) _ _ (by omega) (by omega) hok (hI.y hp.1 (by omega)); first | exact hx | (rw [hce] at hx; exact hx) | (simp only [hce2] at hx; exact hx)) | exact ih (m - 1) (by omega) (p + 1) b mn (by omega) (by omega) hok (hI.n hp.1 (by omega) (by omega))
            · skip
              refine g_iload dX9_stand_77 rfl (g_goto 84 dX9_stand_79 rfl (g_ist5 dX9_stand_84 (by decide) rfl (g_inc6 dX9_stand_86 (by decide) rfl (g_goto 20 dX9_stand_89 rfl (g_dr7 (g_dr8 ?_))))))
              first | (exfalso; omega) | (have hx := ih (m - 1) (by omega) (p + 1) _ _ (by omega) (by omega) hok (hI.y hp.1 (by omega)); first | exact hx | (rw [hce] at hx; exact hx) | (simp only [hce2] at hx; exact hx)) | exact ih (m - 1) (by omega) (p + 1) b mn (by omega) (by omega) hok (hI.n hp.1 (by omega) (by omega))
          · skip
            refine g_iload dX9_stand_63 rfl (g_goto 70 dX9_stand_65 rfl (g_ist4 dX9_stand_70 (by decide) rfl (g_iload dX9_stand_72 rfl ?_)))
            refine g_if_eq 82 dX9_stand_74 rfl (by omega) (fun c74 => ?_) (fun c74 => ?_)
            · skip
              refine g_iload dX9_stand_82 rfl (g_ist5 dX9_stand_84 (by decide) rfl (g_inc6 dX9_stand_86 (by decide) rfl (g_goto 20 dX9_stand_89 rfl (g_dr7 (g_dr8 ?_)))))
              first | (exfalso; omega) | (have hx := ih (m - 1) (by omega) (p + 1) _ _ (by omega) (by omega) hok (hI.y hp.1 (by omega)); first | exact hx | (rw [hce] at hx; exact hx) | (simp only [hce2] at hx; exact hx)) | exact ih (m - 1) (by omega) (p + 1) b mn (by omega) (by omega) hok (hI.n hp.1 (by omega) (by omega))
            · skip
              refine g_iload dX9_stand_77 rfl (g_goto 84 dX9_stand_79 rfl (g_ist5 dX9_stand_84 (by decide) rfl (g_inc6 dX9_stand_86 (by decide) rfl (g_goto 20 dX9_stand_89 rfl (g_dr7 (g_dr8 ?_))))))
              first | (exfalso; omega) | (have hx := ih (m - 1) (by omega) (p + 1) _ _ (by omega) (by omega) hok (hI.y hp.1 (by omega)); first | exact hx | (rw [hce] at hx; exact hx) | (simp only [hce2] at hx; exact hx)) | exact ih (m - 1) (by omega) (p + 1) b mn (by omega) (by omega) hok (hI.n hp.1 (by omega) (by omega))
        · skip
          refine g_iconst dX9_stand_51 (g_goto 56 dX9_stand_52 rfl (g_ist8 dX9_stand_56 (by decide) rfl (g_iload dX9_stand_58 rfl ?_)))
          refine g_if_eq 68 dX9_stand_60 rfl (by omega) (fun c60 => ?_) (fun c60 => ?_)
          · skip
            refine g_iload dX9_stand_68 rfl (g_ist4 dX9_stand_70 (by decide) rfl (g_iload dX9_stand_72 rfl ?_))
            refine g_if_eq 82 dX9_stand_74 rfl (by omega) (fun c74 => ?_) (fun c74 => ?_)
            · skip
              refine g_iload dX9_stand_82 rfl (g_ist5 dX9_stand_84 (by decide) rfl (g_inc6 dX9_stand_86 (by decide) rfl (g_goto 20 dX9_stand_89 rfl (g_dr7 (g_dr8 ?_)))))
              first | (exfalso; omega) | (have hx := ih (m - 1) (by omega) (p + 1) _ _ (by omega) (by omega) hok (hI.y hp.1 (by omega)); first | exact hx | (rw [hce] at hx; exact hx) | (simp only [hce2] at hx; exact hx)) | exact ih (m - 1) (by omega) (p + 1) b mn (by omega) (by omega) hok (hI.n hp.1 (by omega) (by omega))
            · skip
              refine g_iload dX9_stand_77 rfl (g_goto 84 dX9_stand_79 rfl (g_ist5 dX9_stand_84 (by decide) rfl (g_inc6 dX9_stand_86 (by decide) rfl (g_goto 20 dX9_stand_89 rfl (g_dr7 (g_dr8 ?_))))))
              first | (exfalso; omega) | (have hx := ih (m - 1) (by omega) (p + 1) _ _ (by omega) (by omega) hok (hI.y hp.1 (by omega)); first | exact hx | (rw [hce] at hx; exact hx) | (simp only [hce2] at hx; exact hx)) | exact ih (m - 1) (by omega) (p + 1) b mn (by omega) (by omega) hok (hI.n hp.1 (by omega) (by omega))
          · skip
            refine g_iload dX9_stand_63 rfl (g_goto 70 dX9_stand_65 rfl (g_ist4 dX9_stand_70 (by decide) rfl (g_iload dX9_stand_72 rfl ?_)))
            refine g_if_eq 82 dX9_stand_74 rfl (by omega) (fun c74 => ?_) (fun c74 => ?_)
            · skip
              refine g_iload dX9_stand_82 rfl (g_ist5 dX9_stand_84 (by decide) rfl (g_inc6 dX9_stand_86 (by decide) rfl (g_goto 20 dX9_stand_89 rfl (g_dr7 (g_dr8 ?_)))))
              first | (exfalso; omega) | (have hx := ih (m - 1) (by omega) (p + 1) _ _ (by omega) (by omega) hok (hI.y hp.1 (by omega)); first | exact hx | (rw [hce] at hx; exact hx) | (simp only [hce2] at hx; exact hx)) | exact ih (m - 1) (by omega) (p + 1) b mn (by omega) (by omega) hok (hI.n hp.1 (by omega) (by omega))
            · skip
              refine g_iload dX9_stand_77 rfl (g_goto 84 dX9_stand_79 rfl (g_ist5 dX9_stand_84 (by decide) rfl (g_inc6 dX9_stand_86 (by decide) rfl (g_goto 20 dX9_stand_89 rfl (g_dr7 (g_dr8 ?_))))))
              first | (exfalso; omega) | (have hx := ih (m - 1) (by omega) (p + 1) _ _ (by omega) (by omega) hok (hI.y hp.1 (by omega)); first | exact hx | (rw [hce] at hx; exact hx) | (simp only [hce2] at hx; exact hx)) | exact ih (m - 1) (by omega) (p + 1) b mn (by omega) (by omega) hok (hI.n hp.1 (by omega) (by omega))
  refine g_lload_n dX9_stand_0 rfl rfl (g_iload_n dX9_stand_1 rfl rfl (cv_X9_269 (M := mX9_stand) rfl dX9_stand_2 (RO.same _ _ _) (Nat.le_of_ble_eq_true rfl) (e_X9_areMany (by omega) (by omega)) <| kI ?_))
  refine g_if_ne 10 dX9_stand_5 rfl (by omega) (fun c5 => ?_) (fun c5 => ?_)
  · skip
    refine g_bipush dX9_stand_10 kbm4 (g_ist4 dX9_stand_12 (by decide) rfl (g_iconst dX9_stand_14 (g_ist5 dX9_stand_15 (by decide) rfl (g_iconst dX9_stand_17 (g_ist6 dX9_stand_18 (by decide) rfl ?_)))))
    exact L20 9 0 (-4) 0 (by omega) (by omega) (by omega) (Or.inl ⟨rfl, rfl, rfl⟩)
  · skip
    refine g_iconst dX9_stand_8 ?_
    exact g_iret dX9_stand_9 rfl rfl ⟨Nat.le_refl _, Nat.le_refl _⟩ (by exact ⟨-1, rfl, rfl, Or.inl ⟨by omega, rfl⟩⟩)
