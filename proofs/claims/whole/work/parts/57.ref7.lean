/-! a wheel cut anew: the reference changes the figure itself for a while -/
def FrG (h h1 : HM) (f : Int) : Prop := h1.L = h.L ∧ ∀ a j : Nat, (a ≠ 150 ∨ (j ≠ 20 ∧ j ≠ 21)) → (a ≠ 151 ∨ (j ≠ (1 + 6 * f + 1).toNat ∧ j ≠ (1 + 6 * f + 2).toNat)) → h1.I a j = h.I a j
def ChG (h h1 : HM) (f te st : Int) : Prop := FrG h h1 f ∧ h1.I 151 (1 + 6 * f + 1).toNat = te ∧ h1.I 151 (1 + 6 * f + 2).toNat = st
theorem ChG.rf {h : HM} {f : Int} {X : Fg} (hF : RFg h f X) : ChG h h f X.te X.st := ⟨⟨rfl, fun _ _ _ _ => rfl⟩, hF.2.1, hF.2.2.1⟩
theorem ChG.te {h h1 : HM} {f a b : Int} (hf : 0 ≤ f) (hC : ChG h h1 f a b) (v : Int) : ChG h (h1.sI 151 (1 + 6 * f + 1).toNat v) f v b := ⟨⟨hC.1.1, fun x j q1 q2 => by rw [sI_I, if_neg (by omega)]; exact hC.1.2 x j q1 q2⟩, by rw [sI_I, if_pos ⟨rfl, rfl⟩], by rw [sI_I, if_neg (by omega)]; exact hC.2.2⟩
theorem ChG.st {h h1 : HM} {f a b : Int} (hf : 0 ≤ f) (hC : ChG h h1 f a b) (v : Int) : ChG h (h1.sI 151 (1 + 6 * f + 2).toNat v) f a v := ⟨⟨hC.1.1, fun x j q1 q2 => by rw [sI_I, if_neg (by omega)]; exact hC.1.2 x j q1 q2⟩, by rw [sI_I, if_neg (by omega)]; exact hC.2.1, by rw [sI_I, if_pos ⟨rfl, rfl⟩]⟩
theorem ChG.c {h h1 : HM} {f a b : Int} (hC : ChG h h1 f a b) {j : Nat} (hj : j = 20 ∨ j = 21) (v : Int) : ChG h (h1.sI 150 j v) f a b := ⟨⟨hC.1.1, fun x k q1 q2 => by rw [sI_I, if_neg (by omega)]; exact hC.1.2 x k q1 q2⟩, by rw [sI_I, if_neg (by omega)]; exact hC.2.1, by rw [sI_I, if_neg (by omega)]; exact hC.2.2⟩
theorem ChG.rF {h h1 : HM} {F : Nat → Fg} {f te st : Int} (hR : RF h F) (hf : 0 ≤ f ∧ f < h.I 151 0) (hC : ChG h h1 f te st) (hB : FgB (cutF (F f.toNat) te st)) : RF h1 (upF F f.toNat (cutF (F f.toNat) te st)) := by
  have hnf := hR.1
  have e0 : h1.I 151 0 = h.I 151 0 := hC.1.2 151 0 (by omega) (by omega)
  refine ⟨by rw [e0]; exact hnf, fun i i0 i1 => ?_⟩
  rw [e0] at i1
  have hi := hR.2 i i0 i1
  have ec : ∀ w : Int, 0 ≤ w → w ≤ 5 → (i ≠ f ∨ (w ≠ 1 ∧ w ≠ 2)) → h1.I 151 (1 + 6 * i + w).toNat = h.I 151 (1 + 6 * i + w).toNat := fun w w0 w1 q => hC.1.2 151 _ (by omega) (by omega)
  unfold upF
  by_cases q : i = f
  · subst q
    rw [if_pos rfl]
    refine ⟨⟨?_, hC.2.1, hC.2.2, ?_, ?_, ?_⟩, hB⟩
    · rw [ec 0 (by omega) (by omega) (by omega)]; exact hi.1.1
    · rw [ec 3 (by omega) (by omega) (by omega)]; exact hi.1.2.2.2.1
    · rw [ec 4 (by omega) (by omega) (by omega)]; exact hi.1.2.2.2.2.1
    · rw [ec 5 (by omega) (by omega) (by omega)]; exact hi.1.2.2.2.2.2
  · rw [if_neg (by omega)]
    refine ⟨?_, hi.2⟩
    unfold RFg
    rw [ec 0 (by omega) (by omega) (by omega), ec 1 (by omega) (by omega) (by omega), ec 2 (by omega) (by omega) (by omega), ec 3 (by omega) (by omega) (by omega), ec 4 (by omega) (by omega) (by omega), ec 5 (by omega) (by omega) (by omega)]
    exact hi.1
theorem crS_0 {F : Nat → Fg} {f : Nat} : ∀ n : Nat, crS F f n = 0 ↔ ∀ g, g < n → ¬ CrP F f g
  | 0 => ⟨fun _ g hg => by omega, fun _ => rfl⟩
  | n + 1 => by
    have ih := crS_0 (F := F) (f := f) n
    have hb := crS_bd F f n
    have hp := p2_1 n
    rw [crS]
    constructor
    · intro z g hg
      have hpi := pI_01 (CrP F f n)
      have h0 : pI (CrP F f n) = 0 ∧ crS F f n = 0 := by
        rcases hpi with q | q
        · rw [q] at z; exact ⟨q, by omega⟩
        · rw [q] at z; omega
      rcases (by omega : g < n ∨ g = n) with q | rfl
      · exact ih.mp h0.2 g q
      · exact pI_eq0.mp h0.1
    · intro z
      rw [ih.mpr (fun g hg => z g (by omega)), pI_f (z n (by omega))]; omega
theorem fr_cr {F : Nat → Fg} {n f : Int} {T : Fg} (hf : 0 ≤ f ∧ f < n) (v : Int) : crS (upF F f.toNat (stF T v)) f.toNat n.toNat = 0 ↔ FrA F n f T v := by
  rw [crS_0]
  have e1 : upF F f.toNat (stF T v) f.toNat = stF T v := if_pos rfl
  constructor
  · intro z g g0 g1 g2 g3 g4
    have e2 : upF F f.toNat (stF T v) g.toNat = F g.toNat := if_neg (by omega)
    exact z g.toNat (by omega) ⟨by omega, by rw [e1, e2]; exact g3, by rw [e1, e2]; exact g4⟩
  · intro z g hg hc
    have e2 : upF F f.toNat (stF T v) g = F g := if_neg hc.1
    have h2 := hc.2
    rw [e1, e2] at h2
    exact z g (by omega) (by omega) (by have := hc.1; omega) (by rw [Int.toNat_natCast]; exact h2.1) (by rw [Int.toNat_natCast]; exact h2.2)
set_option maxRecDepth 100000 in
set_option maxHeartbeats 1000000 in
theorem e_X9_mayHave {G : GX} {y : LY} {h : HM} {d : Nat} (hY : Lay y) {F : Nat → Fg} {h0 : HM} (hR : RF h0 F) {f a b : Int} (hf : 0 ≤ f ∧ f < h0.I 151 0) (hC : ChG h0 h f a b) {te : Int} (ht : R32 te) : EvI G mX9_mayHave (d + 1) [.ref 150, .int (iZ f), .int (iZ te)] y h (pI (TeOK (F f.toNat) te)) := by
  have hnf := hR.1
  have hFf := hR.2 f hf.1 hf.2
  have hW := hFf.2.1
  have hk := kR hW
  have e5 : h.I 151 (1 + 6 * f + 5).toNat = gaR (F f.toNat) := (hC.1.2 151 _ (by omega) (by omega)).trans hFf.1.2.2.2.2.2
  have hzt := pI_01 (2 ≤ te ∧ te ≤ 60)
  have hyt := pI_eq1 (P := 2 ≤ te ∧ te ≤ 60)
  refine Ev.of rfl [some (.ref 150), some (.int (iZ f)), some (.int (iZ te))] rfl (Nat.le_of_ble_eq_true rfl) ?_
  refine g_iload_n dX9_mayHave_0 rfl rfl (g_i2l dX9_mayHave_1 (by omega) (c2_X9_278 (M := mX9_mayHave) rfl dX9_mayHave_2 (c2_X9_280 (M := mX9_mayHave) rfl dX9_mayHave_5 (cv_X9_71 (M := mX9_mayHave) rfl dX9_mayHave_8 (RO.same _ _ _) (Nat.le_of_ble_eq_true rfl) (e_X9_in (by omega) (by omega) (by omega)) <| kI ?_))))
  refine g_if_eq 28 dX9_mayHave_11 rfl (by omega) (fun c11 => ?_) (fun c11 => ?_)
  · skip
    refine g_iconst dX9_mayHave_28 ?_
    exact g_zret dX9_mayHave_29 rfl rfl ⟨Nat.le_refl _, Nat.le_refl _⟩ (by omega) (by unfold TeOK; first | exact ⟨someI (pI_t (by omega)).symm, rfl⟩ | exact ⟨someI (pI_f (by omega)).symm, rfl⟩)
  · skip
    refine g_iload_n dX9_mayHave_14 rfl rfl (g_aload_n dX9_mayHave_15 rfl rfl (g_iload_n dX9_mayHave_16 rfl rfl (g_iconst dX9_mayHave_17 (cv_X9_143 (M := mX9_mayHave) rfl dX9_mayHave_18 (yo150 hY) (RO.same _ _ _) (Nat.le_of_ble_eq_true rfl) (e_X9_of hY (by omega) (by omega)) <| kI ?_))))
    refine g_icmp_le 28 dX9_mayHave_21 rfl (by omega) (by omega) (fun c21 => ?_) (fun c21 => ?_)
    · skip
      refine g_iconst dX9_mayHave_28 ?_
      exact g_zret dX9_mayHave_29 rfl rfl ⟨Nat.le_refl _, Nat.le_refl _⟩ (by omega) (by unfold TeOK; first | exact ⟨someI (pI_t (by omega)).symm, rfl⟩ | exact ⟨someI (pI_f (by omega)).symm, rfl⟩)
    · skip
      refine g_iconst dX9_mayHave_24 (g_goto 29 dX9_mayHave_25 rfl ?_)
      exact g_zret dX9_mayHave_29 rfl rfl ⟨Nat.le_refl _, Nat.le_refl _⟩ (by omega) (by unfold TeOK; first | exact ⟨someI (pI_t (by omega)).symm, rfl⟩ | exact ⟨someI (pI_f (by omega)).symm, rfl⟩)
set_option maxRecDepth 100000 in
set_option maxHeartbeats 1000000 in
theorem e_X9_quietFirst {G : GX} {y : LY} {h : HM} {d : Nat} (hY : Lay y) {F : Nat → Fg} {h0 : HM} (hR : RF h0 F) {f a b : Int} (hf : 0 ≤ f ∧ f < h0.I 151 0) (hC : ChG h0 h f a b) {te : Int} (hte : TeOK (F f.toNat) te) : EvQX G mX9_quietFirst (d + 5) [.ref 150, .int (iZ f), .int (iZ te)] y h (fun v h1 => ∃ s : Int, (0 ≤ s ∧ s < te) ∧ ChG h0 h1 f te s ∧ (∀ j, h1.I 150 j = h.I 150 j) ∧ ((v = s ∧ LeastFr F (h0.I 151 0) f (cutF (F f.toNat) te 0) v) ∨ (v = -4 ∧ NoFr F (h0.I 151 0) f (cutF (F f.toNat) te 0)))) := by
  have hnf := hR.1
  have hFf := hR.2 f hf.1 hf.2
  have hW := hFf.2.1
  have hk := kR hW
  unfold TeOK at hte
  refine Ev.of rfl [some (.ref 150), some (.int (iZ f)), some (.int (iZ te)), none, none] rfl (Nat.le_of_ble_eq_true rfl) ?_
  have L20 : ∀ (m : Nat) (h1 : HM) (v fd s : Int), (m : Int) = te - v → 0 ≤ v ∧ v ≤ te → ChG h0 h1 f te s → (∀ j, h1.I 150 j = h.I 150 j) → (0 < v → 0 ≤ s ∧ s < te) → ((fd = s ∧ 0 < v ∧ LeastFr F (h0.I 151 0) f (cutF (F f.toNat) te 0) fd) ∨ (fd = -4 ∧ ∀ w : Int, 0 ≤ w → w < v → ¬ FrA F (h0.I 151 0) f (cutF (F f.toNat) te 0) w)) → Go G mX9_quietFirst (rmo (d + 5) 0 0) (ZM G y 0 0 (fun r h1 => ∃ v_ : Int, r = some (.int (iZ v_)) ∧ (fun v h1 => ∃ s : Int, (0 ≤ s ∧ s < te) ∧ ChG h0 h1 f te s ∧ (∀ j, h1.I 150 j = h.I 150 j) ∧ ((v = s ∧ LeastFr F (h0.I 151 0) f (cutF (F f.toNat) te 0) v) ∨ (v = -4 ∧ NoFr F (h0.I 151 0) f (cutF (F f.toNat) te 0)))) v_ h1)) y 20 [some (.ref 150), some (.int (iZ f)), some (.int (iZ te)), some (.int (iZ fd)), some (.int (iZ v))] [] h1 (0, 0) := by
    intro m
    induction m using Nat.strongRecOn with | _ m ih =>
    intro h1 v fd s hm hv hC1 he hs hfd
    have hfb : -4 ≤ fd ∧ fd < 60 ∧ (fd = -4 ∨ 0 ≤ fd) := by rcases hfd with ⟨z1, z2, z3⟩ | ⟨z1, _⟩; (have := z3.1; have := hs z2; omega); omega
    refine g_iload dX9_quietFirst_20 rfl (g_iload_n dX9_quietFirst_22 rfl rfl ?_)
    refine g_icmp_ge 68 dX9_quietFirst_23 rfl (by omega) (by omega) (fun c23 => ?_) (fun c23 => ?_)
    · skip
      refine g_iload_n dX9_quietFirst_68 rfl rfl ?_
      exact g_iret dX9_quietFirst_69 rfl rfl ⟨Nat.le_refl _, Nat.le_refl _⟩ (by refine ⟨fd, rfl, s, ?_⟩; rcases hfd with ⟨z1, z2, z3⟩ | ⟨z1, z2⟩; exact ⟨hs z2, hC1, he, Or.inl ⟨z1, z3⟩⟩; exact ⟨hs (by omega), hC1, he, Or.inr ⟨z1, fun w w0 w1 => z2 w w0 (by have w1 : w < te := w1; omega)⟩⟩)
    · skip
      refine g_iload_n dX9_quietFirst_26 rfl rfl (g_bipush dX9_quietFirst_27 kbm4 ?_)
      refine g_icmp_ne 68 dX9_quietFirst_29 rfl (by omega) (by omega) (fun c29 => ?_) (fun c29 => ?_)
      · skip
        refine g_iload_n dX9_quietFirst_68 rfl rfl ?_
        exact g_iret dX9_quietFirst_69 rfl rfl ⟨Nat.le_refl _, Nat.le_refl _⟩ (by refine ⟨fd, rfl, s, ?_⟩; rcases hfd with ⟨z1, z2, z3⟩ | ⟨z1, z2⟩; exact ⟨hs z2, hC1, he, Or.inl ⟨z1, z3⟩⟩; exact ⟨hs (by omega), hC1, he, Or.inr ⟨z1, fun w w0 w1 => z2 w w0 (by have w1 : w < te := w1; omega)⟩⟩)
      · skip
        refine g_aload_n dX9_quietFirst_32 rfl rfl (gf_X9_7 (M := mX9_quietFirst) rfl dX9_quietFirst_33 (yo150 hY) (yr150_0 hY) (g_iconst dX9_quietFirst_36 (g_bipush dX9_quietFirst_37 kb6 (g_iload_n dX9_quietFirst_39 rfl rfl (g_imul dX9_quietFirst_40 (g_iadd dX9_quietFirst_41 (g_iconst dX9_quietFirst_42 (g_iadd dX9_quietFirst_43 (g_iload dX9_quietFirst_44 rfl (g_iast dX9_quietFirst_46 (ya151 hY) ⟨by omega, by omega, by omega⟩ ?_))))))))))
        have hC2 := hC1.st hf.1 v
        have hB2 : FgB (cutF (F f.toNat) te v) := ⟨⟨by show 2 ≤ te; omega, by show te ≤ 60; omega, hW.2.2.1, hW.2.2.2.1, hW.2.2.2.2.1, by show (F f.toNat).ga < te; omega⟩, by show 0 ≤ v; omega, by show v < te; omega, hFf.2.2.2.2.1, hFf.2.2.2.2.2⟩
        have hR2 := hC2.rF hR hf hB2
        have e0 : (h1.sI 151 (1 + 6 * f + 2).toNat v).I 151 0 = h0.I 151 0 := hC2.1.2 151 0 (by omega) (by omega)
        have hcr := fr_cr (F := F) (n := (h0.I 151 0)) (f := f) (T := (cutF (F f.toNat) te 0)) hf v
        have hcb := crS_bd (upF F f.toNat (cutF (F f.toNat) te v)) f.toNat (h0.I 151 0).toNat
        have hc2 := p2_6 (n := (h0.I 151 0).toNat) (by omega)
        refine g_aload_n dX9_quietFirst_47 rfl rfl (g_iload_n dX9_quietFirst_48 rfl rfl (cv_X9_245 (M := mX9_quietFirst) rfl dX9_quietFirst_49 (yo150 hY) (RO.same _ _ _) (Nat.le_of_ble_eq_true rfl) (e_X9_crashOf hY hR2 (by omega)) <| kI ?_))
        rw [e0]
        refine g_if_ne 60 dX9_quietFirst_52 rfl (by omega) (fun c52 => ?_) (fun c52 => ?_)
        · skip
          refine g_iload_n dX9_quietFirst_60 rfl rfl (g_ist3 dX9_quietFirst_61 (by decide) rfl (g_inc4 dX9_quietFirst_62 (by decide) rfl (g_goto 20 dX9_quietFirst_65 rfl ?_)))
          have he2 : ∀ j, (h1.sI 151 (1 + 6 * f + 2).toNat v).I 150 j = h.I 150 j := fun j => by rw [sI_I, if_neg (by omega)]; exact he j
          obtain ⟨ef, hno⟩ := hfd.resolve_left (fun z => by have := z.2.2.1; omega)
          first
          | exact ih (m - 1) (by omega) _ (v + 1) v v (by omega) (by omega) hC2 he2 (fun _ => by omega) (Or.inl ⟨rfl, by omega, by omega, by show v < te; omega, hcr.mp c52, fun s2 a b => hno s2 a b⟩)
          | exact ih (m - 1) (by omega) _ (v + 1) fd v (by omega) (by omega) hC2 he2 (fun _ => by omega) (Or.inr ⟨ef, fun w w0 w1 => by rcases (by omega : w < v ∨ w = v) with q | rfl; exact hno w w0 q; exact fun z => c52 (hcr.mpr z)⟩)
        · skip
          refine g_iload dX9_quietFirst_55 rfl (g_goto 61 dX9_quietFirst_57 rfl (g_ist3 dX9_quietFirst_61 (by decide) rfl (g_inc4 dX9_quietFirst_62 (by decide) rfl (g_goto 20 dX9_quietFirst_65 rfl ?_))))
          have he2 : ∀ j, (h1.sI 151 (1 + 6 * f + 2).toNat v).I 150 j = h.I 150 j := fun j => by rw [sI_I, if_neg (by omega)]; exact he j
          obtain ⟨ef, hno⟩ := hfd.resolve_left (fun z => by have := z.2.2.1; omega)
          first
          | exact ih (m - 1) (by omega) _ (v + 1) v v (by omega) (by omega) hC2 he2 (fun _ => by omega) (Or.inl ⟨rfl, by omega, by omega, by show v < te; omega, hcr.mp c52, fun s2 a b => hno s2 a b⟩)
          | exact ih (m - 1) (by omega) _ (v + 1) fd v (by omega) (by omega) hC2 he2 (fun _ => by omega) (Or.inr ⟨ef, fun w w0 w1 => by rcases (by omega : w < v ∨ w = v) with q | rfl; exact hno w w0 q; exact fun z => c52 (hcr.mpr z)⟩)
  refine g_bipush dX9_quietFirst_0 kbm4 (g_ist3 dX9_quietFirst_2 (by decide) rfl (g_aload_n dX9_quietFirst_3 rfl rfl (gf_X9_7 (M := mX9_quietFirst) rfl dX9_quietFirst_4 (yo150 hY) (yr150_0 hY) (g_iconst dX9_quietFirst_7 (g_bipush dX9_quietFirst_8 kb6 (g_iload_n dX9_quietFirst_10 rfl rfl (g_imul dX9_quietFirst_11 (g_iadd dX9_quietFirst_12 (g_iconst dX9_quietFirst_13 (g_iadd dX9_quietFirst_14 (g_iload_n dX9_quietFirst_15 rfl rfl ?_)))))))))))
  refine g_iast dX9_quietFirst_16 (ya151 hY) ⟨by omega, by omega, by omega⟩ (g_iconst dX9_quietFirst_17 (g_ist4 dX9_quietFirst_18 (by decide) rfl ?_))
  exact L20 te.toNat _ 0 (-4) b (by omega) (by omega) (hC.te hf.1 te) (fun j => by rw [sI_I, if_neg (by omega)]) (fun z => by omega) (Or.inr ⟨rfl, fun w w0 w1 => by omega⟩)
/-- the search for a cut, behind n tries -/
def FcI (h0 h1 : HM) (F : Nat → Fg) (f : Int) (n : Nat) : Prop := (∃ a b : Int, ChG h0 h1 f a b) ∧ ((h1.I 150 20 = -4 ∧ NoCut F (h0.I 151 0) f n) ∨ ∃ (k : Nat) (s : Int), k < n ∧ CutAt F (h0.I 151 0) f k s ∧ h1.I 150 20 = teAt (F f.toNat).te k ∧ h1.I 150 21 = s)
def FcE (h0 h1 : HM) (F : Nat → Fg) (f : Int) : Prop := (∃ a b : Int, ChG h0 h1 f a b) ∧ ((h1.I 150 20 = -4 ∧ NoCut F (h0.I 151 0) f 118) ∨ ∃ (k : Nat) (s : Int), k < 118 ∧ CutAt F (h0.I 151 0) f k s ∧ h1.I 150 20 = teAt (F f.toNat).te k ∧ h1.I 150 21 = s)
def FcR (F : Nat → Fg) (nf f v : Int) (h1 : HM) : Prop := (v = 0 ∧ NoCut F nf f 118) ∨ (v = 1 ∧ ∃ (n : Nat) (s : Int), n < 118 ∧ CutAt F nf f n s ∧ h1.I 150 20 = teAt (F f.toNat).te n ∧ h1.I 150 21 = s)
def FrC (h h1 : HM) : Prop := h1.L = h.L ∧ ∀ a j : Nat, (a ≠ 150 ∨ (j ≠ 20 ∧ j ≠ 21)) → h1.I a j = h.I a j
theorem te_hi {F : Nat → Fg} {f : Int} {k : Nat} (hW : FgW (F f.toNat)) (hk : 118 ≤ k) : ¬ TeOK (F f.toNat) (teAt (F f.toNat).te k) := by
  unfold TeOK teAt
  by_cases q : k % 2 = 0
  · rw [if_pos q]; omega
  · rw [if_neg q]; omega
theorem FrC.rF {h h1 : HM} {F : Nat → Fg} (hR : RF h F) (f : FrC h h1) : RF h1 F := by
  unfold RF
  rw [f.2 151 0 (by omega)]
  refine ⟨hR.1, fun i i0 i1 => ⟨?_, (hR.2 i i0 i1).2⟩⟩
  unfold RFg
  rw [f.2 151 _ (by omega), f.2 151 _ (by omega), f.2 151 _ (by omega), f.2 151 _ (by omega), f.2 151 _ (by omega), f.2 151 _ (by omega)]
  exact (hR.2 i i0 i1).1
theorem fc_end {h0 h1 : HM} {F : Nat → Fg} {f : Int} (hR : RF h0 F) (hf : 0 ≤ f ∧ f < h0.I 151 0) (hI : ∃ a b : Int, ChG h0 h1 f a b) : FrC h0 ((h1.sI 151 (1 + 6 * f + 1).toNat (F f.toNat).te).sI 151 (1 + 6 * f + 2).toNat (F f.toNat).st) := by
  obtain ⟨a, b, hC⟩ := hI
  have hC2 := (hC.te hf.1 (F f.toNat).te).st hf.1 (F f.toNat).st
  have hF := (hR.2 f hf.1 hf.2).1
  refine ⟨hC2.1.1, fun x j q => ?_⟩
  by_cases z : x = 151 ∧ (j = (1 + 6 * f + 1).toNat ∨ j = (1 + 6 * f + 2).toNat)
  · obtain ⟨rfl, z2⟩ := z
    rcases z2 with rfl | rfl
    · rw [hC2.2.1]; exact hF.2.1.symm
    · rw [hC2.2.2]; exact hF.2.2.1.symm
  · exact hC2.1.2 x j q (by omega)
set_option maxRecDepth 100000 in
set_option maxHeartbeats 1000000 in
theorem e_X9_findCut {G : GX} {y : LY} {h : HM} {d : Nat} (hY : Lay y) {F : Nat → Fg} (hR : RF h F) {f : Int} (hf : 0 ≤ f ∧ f < (h.I 151 0)) : EvQX G mX9_findCut (d + 6) [.ref 150, .int (iZ f)] y h (fun v h1 => FrC h h1 ∧ ((v = 0 ∧ NoCut F (h.I 151 0) f 118) ∨ (v = 1 ∧ ∃ (n : Nat) (s : Int), n < 118 ∧ CutAt F (h.I 151 0) f n s ∧ h1.I 150 20 = teAt (F f.toNat).te n ∧ h1.I 150 21 = s))) := by
  have hnf := hR.1
  have hFf := hR.2 f hf.1 hf.2
  have hW := hFf.2.1
  refine Ev.of rfl [some (.ref 150), some (.int (iZ f)), none, none, none, none, none] rfl (Nat.le_of_ble_eq_true rfl) ?_
  have L128 : ∀ (h1 : HM) (o1 o2 o3 : Option Value), FcI h h1 F f 120 ∨ (FcI h h1 F f 118) ∨ (∃ n, n ≤ 120 ∧ FcI h h1 F f n ∧ h1.I 150 20 ≠ -4) → Go G mX9_findCut (rmo (d + 6) 0 0) (ZM G y 0 0 (fun r h1 => ∃ v_ : Int, r = some (.int (iZ v_)) ∧ (fun v h1 => FrC h h1 ∧ ((v = 0 ∧ NoCut F (h.I 151 0) f 118) ∨ (v = 1 ∧ ∃ (n : Nat) (s : Int), n < 118 ∧ CutAt F (h.I 151 0) f n s ∧ h1.I 150 20 = teAt (F f.toNat).te n ∧ h1.I 150 21 = s))) v_ h1)) y 128 [some (.ref 150), some (.int (iZ f)), some (.int (iZ (F f.toNat).te)), some (.int (iZ (F f.toNat).st)), o1, o2, o3] [] h1 (0, 0) := by
    intro h1 o1 o2 o3 hI
    have hI2 : FcE h h1 F f := by
      have key : ∀ n, n ≤ 120 → FcI h h1 F f n → (118 ≤ n ∨ h1.I 150 20 ≠ -4) → (∃ a b : Int, ChG h h1 f a b) ∧ ((h1.I 150 20 = -4 ∧ NoCut F (h.I 151 0) f 118) ∨ ∃ (k : Nat) (s : Int), k < 118 ∧ CutAt F (h.I 151 0) f k s ∧ h1.I 150 20 = teAt (F f.toNat).te k ∧ h1.I 150 21 = s) := by
        intro n hn ⟨a, b⟩ q
        refine ⟨a, ?_⟩
        rcases b with ⟨b1, b2⟩ | ⟨k, s, b0, b1, b2, b3⟩
        · exact Or.inl ⟨b1, fun j hj ho => b2 j (by omega) ho⟩
        · exact Or.inr ⟨k, s, by rcases Nat.lt_or_ge k 118 with z | z; exact z; exact absurd b1.2.1 (te_hi hW z), b1, b2, b3⟩
      rcases hI with z | z | ⟨n, z0, z1, z2⟩
      · exact key 120 (by omega) z (Or.inl (by omega))
      · exact key 118 (by omega) z (Or.inl (by omega))
      · exact key n z0 z1 (Or.inr z2)
    clear hI
    have hfe := fc_end hR hf hI2.1
    have ee : ∀ j, ((h1.sI 151 (1 + 6 * f + 1).toNat (F f.toNat).te).sI 151 (1 + 6 * f + 2).toNat (F f.toNat).st).I 150 j = h1.I 150 j := fun j => by rw [sI_I, if_neg (by omega), sI_I, if_neg (by omega)]
    have h20 : -4 ≤ h1.I 150 20 ∧ h1.I 150 20 ≤ 60 ∧ (h1.I 150 20 = -4 ∨ 2 ≤ h1.I 150 20) := by (rcases hI2.2 with ⟨z, _⟩ | ⟨k, s, z0, z1, z2, _⟩; omega; (have z3 := z1.2.1; unfold TeOK at z3; omega))
    refine g_aload_n dX9_findCut_128 rfl rfl (gf_X9_7 (M := mX9_findCut) rfl dX9_findCut_129 (yo150 hY) (yr150_0 hY) (g_iconst dX9_findCut_132 (g_bipush dX9_findCut_133 kb6 (g_iload_n dX9_findCut_135 rfl rfl (g_imul dX9_findCut_136 (g_iadd dX9_findCut_137 (g_iconst dX9_findCut_138 (g_iadd dX9_findCut_139 (g_iload_n dX9_findCut_140 rfl rfl (g_iast dX9_findCut_141 (ya151 hY) ⟨by omega, by omega, by omega⟩ (g_aload_n dX9_findCut_142 rfl rfl ?_)))))))))))
    refine gf_X9_7 (M := mX9_findCut) rfl dX9_findCut_143 (yo150 hY) (yr150_0 hY) (g_iconst dX9_findCut_146 (g_bipush dX9_findCut_147 kb6 (g_iload_n dX9_findCut_149 rfl rfl (g_imul dX9_findCut_150 (g_iadd dX9_findCut_151 (g_iconst dX9_findCut_152 (g_iadd dX9_findCut_153 (g_iload_n dX9_findCut_154 rfl rfl (g_iast dX9_findCut_155 (ya151 hY) ⟨by omega, by omega, by omega⟩ (g_aload_n dX9_findCut_156 rfl rfl (gf_X9_282 (M := mX9_findCut) rfl dX9_findCut_157 (yo150 hY) ?_)))))))))))
    rw [ee]
    refine g_bipush dX9_findCut_160 kbm4 ?_
    refine g_icmp_eq 169 dX9_findCut_162 rfl (by omega) (by omega) (fun c162 => ?_) (fun c162 => ?_)
    · skip
      refine g_iconst dX9_findCut_169 ?_
      exact g_zret dX9_findCut_170 rfl rfl ⟨Nat.le_refl _, Nat.le_refl _⟩ (by omega) (by rcases hI2.2 with ⟨z1, z2⟩ | ⟨k, s, z0, z1, z2, z3⟩ <;> first | (exfalso; have z4 := z1.2.1; unfold TeOK at z4; omega) | (exfalso; omega) | exact ⟨_, rfl, hfe, Or.inl ⟨rfl, z2⟩⟩ | exact ⟨_, rfl, hfe, Or.inr ⟨rfl, k, s, z0, z1, by rw [ee]; exact z2, by rw [ee]; exact z3⟩⟩)
    · skip
      refine g_iconst dX9_findCut_165 (g_goto 170 dX9_findCut_166 rfl ?_)
      exact g_zret dX9_findCut_170 rfl rfl ⟨Nat.le_refl _, Nat.le_refl _⟩ (by omega) (by rcases hI2.2 with ⟨z1, z2⟩ | ⟨k, s, z0, z1, z2, z3⟩ <;> first | (exfalso; have z4 := z1.2.1; unfold TeOK at z4; omega) | (exfalso; omega) | exact ⟨_, rfl, hfe, Or.inl ⟨rfl, z2⟩⟩ | exact ⟨_, rfl, hfe, Or.inr ⟨rfl, k, s, z0, z1, by rw [ee]; exact z2, by rw [ee]; exact z3⟩⟩)
  have L23 : ∀ (m : Nat) (h1 : HM) (c : Nat), m = 60 - c → c ≤ 60 → FcI h h1 F f (2 * c) → Go G mX9_findCut (rmo (d + 6) 0 0) (ZM G y 0 0 (fun r h1 => ∃ v_ : Int, r = some (.int (iZ v_)) ∧ (fun v h1 => FrC h h1 ∧ ((v = 0 ∧ NoCut F (h.I 151 0) f 118) ∨ (v = 1 ∧ ∃ (n : Nat) (s : Int), n < 118 ∧ CutAt F (h.I 151 0) f n s ∧ h1.I 150 20 = teAt (F f.toNat).te n ∧ h1.I 150 21 = s))) v_ h1)) y 23 [some (.ref 150), some (.int (iZ f)), some (.int (iZ (F f.toNat).te)), some (.int (iZ (F f.toNat).st)), some (.int (iZ c)), none, none] [] h1 (0, 0) := by
    intro m
    induction m using Nat.strongRecOn with | _ m ih =>
    intro h1 c hm hc hI
    have h20 : -4 ≤ h1.I 150 20 ∧ h1.I 150 20 ≤ 60 ∧ (h1.I 150 20 = -4 ∨ 2 ≤ h1.I 150 20) := by (rcases hI.2 with ⟨z, _⟩ | ⟨k, s, z0, z1, z2, _⟩; omega; (have z3 := z1.2.1; unfold TeOK at z3; omega))
    have L42 : ∀ (m2 : Nat) (h1 : HM) (k : Nat), m2 = 2 - k → k ≤ 2 → c < 60 → FcI h h1 F f (2 * c + k) → Go G mX9_findCut (rmo (d + 6) 0 0) (ZM G y 0 0 (fun r h1 => ∃ v_ : Int, r = some (.int (iZ v_)) ∧ (fun v h1 => FrC h h1 ∧ ((v = 0 ∧ NoCut F (h.I 151 0) f 118) ∨ (v = 1 ∧ ∃ (n : Nat) (s : Int), n < 118 ∧ CutAt F (h.I 151 0) f n s ∧ h1.I 150 20 = teAt (F f.toNat).te n ∧ h1.I 150 21 = s))) v_ h1)) y 42 [some (.ref 150), some (.int (iZ f)), some (.int (iZ (F f.toNat).te)), some (.int (iZ (F f.toNat).st)), some (.int (iZ c)), some (.int (iZ k)), none] [] h1 (0, 0) := by
      clear hI h20 h1
      intro m2
      induction m2 using Nat.strongRecOn with | _ m2 ih2 =>
      intro h1 k hm2 hk hc60 hI
      have h20 : -4 ≤ h1.I 150 20 ∧ h1.I 150 20 ≤ 60 ∧ (h1.I 150 20 = -4 ∨ 2 ≤ h1.I 150 20) := by (rcases hI.2 with ⟨z, _⟩ | ⟨k, s, z0, z1, z2, _⟩; omega; (have z3 := z1.2.1; unfold TeOK at z3; omega))
      have L75 : ∀ (to : Int), to = teAt (F f.toNat).te (2 * c + k) → k < 2 → h1.I 150 20 = -4 → Go G mX9_findCut (rmo (d + 6) 0 0) (ZM G y 0 0 (fun r h1 => ∃ v_ : Int, r = some (.int (iZ v_)) ∧ (fun v h1 => FrC h h1 ∧ ((v = 0 ∧ NoCut F (h.I 151 0) f 118) ∨ (v = 1 ∧ ∃ (n : Nat) (s : Int), n < 118 ∧ CutAt F (h.I 151 0) f n s ∧ h1.I 150 20 = teAt (F f.toNat).te n ∧ h1.I 150 21 = s))) v_ h1)) y 75 [some (.ref 150), some (.int (iZ f)), some (.int (iZ (F f.toNat).te)), some (.int (iZ (F f.toNat).st)), some (.int (iZ c)), some (.int (iZ k)), some (.int (iZ to))] [] h1 (0, 0) := by
        intro to hto hk2 hz
        obtain ⟨⟨a, b, hC⟩, hc⟩ := hI
        have hno : NoCut F (h.I 151 0) f (2 * c + k) := by rcases hc with z | ⟨k2, s, z0, z1, z2, _⟩; exact z.2; (have z3 := z1.2.1; unfold TeOK at z3; omega)
        clear hc
        have hpt := pI_01 (TeOK (F f.toNat) to)
        have hpe := pI_eq1 (P := TeOK (F f.toNat) to)
        have htb : -60 ≤ to ∧ to ≤ 200 := by (rw [hto]; unfold teAt; split <;> omega)
        refine g_aload_n dX9_findCut_75 rfl rfl (g_iload_n dX9_findCut_76 rfl rfl (g_iload dX9_findCut_77 rfl (cv_X9_285 (M := mX9_findCut) rfl dX9_findCut_79 (yo150 hY) (RO.same _ _ _) (Nat.le_of_ble_eq_true rfl) (e_X9_mayHave hY hR hf hC (by omega)) <| kI ?_)))
        refine g_if_eq 116 dX9_findCut_82 rfl (by omega) (fun c82 => ?_) (fun c82 => ?_)
        · skip
          refine g_inc5 dX9_findCut_116 (by decide) rfl (g_goto 42 dX9_findCut_119 rfl (g_dr6 ?_))
          first
          | (refine ih2 (m2 - 1) (by omega) h1 (k + 1) (by omega) (by omega) hc60 ⟨⟨a, b, hC⟩, Or.inl ⟨hz, hno.next (fun z => absurd (hpe.mpr (by rw [hto]; exact z)) (by omega))⟩⟩)
          | (have hr3 := hr2.resolve_right (fun z => absurd z.1 (by omega)); refine ih2 (m2 - 1) (by omega) _ (k + 1) (by omega) (by omega) hc60 ⟨⟨_, _, (hC2.c (Or.inr rfl) _).c (Or.inl rfl) _⟩, Or.inr ⟨2 * c + k, v90, by omega, ⟨hno, by rw [← hto]; exact hpe.mp (by omega), by rw [← hto]; exact hr3.2⟩, ?_, ?_⟩⟩; (rw [sI_I, if_pos ⟨rfl, rfl⟩]; exact hto); (rw [sI_I, if_neg (by omega), sI_I, if_pos ⟨rfl, rfl⟩]))
          | (have hr3 := hr2.resolve_left (fun z => by have z1 := z.1; omega); refine ih2 (m2 - 1) (by omega) _ (k + 1) (by omega) (by omega) hc60 ⟨⟨_, _, (hC2.c (Or.inr rfl) _).c (Or.inl rfl) _⟩, Or.inl ⟨by rw [sI_I, if_pos ⟨rfl, rfl⟩], hno.next (fun z => ?_)⟩⟩; rw [← hto]; exact hr3.2)
        · skip
          refine g_aload_n dX9_findCut_85 rfl rfl (g_aload_n dX9_findCut_86 rfl rfl (g_iload_n dX9_findCut_87 rfl rfl (g_iload dX9_findCut_88 rfl ?_)))
          refine cv_X9_288 (M := mX9_findCut) rfl dX9_findCut_90 (yo150 hY) (RO.same _ _ _) (Nat.le_of_ble_eq_true rfl) (e_X9_quietFirst hY hR hf hC (hpe.mp (by omega))) (kQX fun v90 h90 hq90 => ?_)
          obtain ⟨s, hs, hC2, he2, hr2⟩ := hq90
          have hvb : -4 ≤ v90 ∧ v90 < 60 ∧ (v90 = -4 ∨ 0 ≤ v90) := by (have hok := hpe.mp (by omega); unfold TeOK at hok; rcases hr2 with z | z <;> omega)
          have e21 : (h90.sI 150 21 v90).I 150 21 = v90 := by rw [sI_I, if_pos ⟨rfl, rfl⟩]
          refine pf_X9_291 (M := mX9_findCut) rfl dX9_findCut_93 (yo150 hY) (g_aload_n dX9_findCut_96 rfl rfl (g_aload_n dX9_findCut_97 rfl rfl (gf_X9_291 (M := mX9_findCut) rfl dX9_findCut_98 (yo150 hY) ?_)))
          rw [e21]
          refine g_bipush dX9_findCut_101 kbm4 ?_
          refine g_icmp_ne 111 dX9_findCut_103 rfl (by omega) (by omega) (fun c103 => ?_) (fun c103 => ?_)
          · skip
            refine g_iload dX9_findCut_111 rfl (pf_X9_282 (M := mX9_findCut) rfl dX9_findCut_113 (yo150 hY) (g_inc5 dX9_findCut_116 (by decide) rfl (g_goto 42 dX9_findCut_119 rfl (g_dr6 ?_))))
            first
            | (refine ih2 (m2 - 1) (by omega) h1 (k + 1) (by omega) (by omega) hc60 ⟨⟨a, b, hC⟩, Or.inl ⟨hz, hno.next (fun z => absurd (hpe.mpr (by rw [hto]; exact z)) (by omega))⟩⟩)
            | (have hr3 := hr2.resolve_right (fun z => absurd z.1 (by omega)); refine ih2 (m2 - 1) (by omega) _ (k + 1) (by omega) (by omega) hc60 ⟨⟨_, _, (hC2.c (Or.inr rfl) _).c (Or.inl rfl) _⟩, Or.inr ⟨2 * c + k, v90, by omega, ⟨hno, by rw [← hto]; exact hpe.mp (by omega), by rw [← hto]; exact hr3.2⟩, ?_, ?_⟩⟩; (rw [sI_I, if_pos ⟨rfl, rfl⟩]; exact hto); (rw [sI_I, if_neg (by omega), sI_I, if_pos ⟨rfl, rfl⟩]))
            | (have hr3 := hr2.resolve_left (fun z => by have z1 := z.1; omega); refine ih2 (m2 - 1) (by omega) _ (k + 1) (by omega) (by omega) hc60 ⟨⟨_, _, (hC2.c (Or.inr rfl) _).c (Or.inl rfl) _⟩, Or.inl ⟨by rw [sI_I, if_pos ⟨rfl, rfl⟩], hno.next (fun z => ?_)⟩⟩; rw [← hto]; exact hr3.2)
          · skip
            refine g_bipush dX9_findCut_106 kbm4 (g_goto 113 dX9_findCut_108 rfl (pf_X9_282 (M := mX9_findCut) rfl dX9_findCut_113 (yo150 hY) (g_inc5 dX9_findCut_116 (by decide) rfl (g_goto 42 dX9_findCut_119 rfl (g_dr6 ?_)))))
            first
            | (refine ih2 (m2 - 1) (by omega) h1 (k + 1) (by omega) (by omega) hc60 ⟨⟨a, b, hC⟩, Or.inl ⟨hz, hno.next (fun z => absurd (hpe.mpr (by rw [hto]; exact z)) (by omega))⟩⟩)
            | (have hr3 := hr2.resolve_right (fun z => absurd z.1 (by omega)); refine ih2 (m2 - 1) (by omega) _ (k + 1) (by omega) (by omega) hc60 ⟨⟨_, _, (hC2.c (Or.inr rfl) _).c (Or.inl rfl) _⟩, Or.inr ⟨2 * c + k, v90, by omega, ⟨hno, by rw [← hto]; exact hpe.mp (by omega), by rw [← hto]; exact hr3.2⟩, ?_, ?_⟩⟩; (rw [sI_I, if_pos ⟨rfl, rfl⟩]; exact hto); (rw [sI_I, if_neg (by omega), sI_I, if_pos ⟨rfl, rfl⟩]))
            | (have hr3 := hr2.resolve_left (fun z => by have z1 := z.1; omega); refine ih2 (m2 - 1) (by omega) _ (k + 1) (by omega) (by omega) hc60 ⟨⟨_, _, (hC2.c (Or.inr rfl) _).c (Or.inl rfl) _⟩, Or.inl ⟨by rw [sI_I, if_pos ⟨rfl, rfl⟩], hno.next (fun z => ?_)⟩⟩; rw [← hto]; exact hr3.2)
      refine g_iload dX9_findCut_42 rfl (g_iconst dX9_findCut_44 ?_)
      refine g_icmp_ge 122 dX9_findCut_45 rfl (by omega) (by omega) (fun c45 => ?_) (fun c45 => ?_)
      · skip
        refine g_inc4 dX9_findCut_122 (by decide) rfl (g_goto 23 dX9_findCut_125 rfl (g_dr5 ?_))
        by_cases hk2 : k = 2
        · subst hk2; exact ih (m - 1) (by omega) h1 (c + 1) (by omega) (by omega) hI
        · (refine ih (m - 1) (by omega) h1 (c + 1) (by omega) (by omega) ⟨hI.1, Or.inr ?_⟩; rcases hI.2 with z | ⟨k2, s, z0, z1, z2, z3⟩; (exact absurd z.1 (by omega)); exact ⟨k2, s, by omega, z1, z2, z3⟩)
      · skip
        refine g_aload_n dX9_findCut_48 rfl rfl (gf_X9_282 (M := mX9_findCut) rfl dX9_findCut_49 (yo150 hY) (g_bipush dX9_findCut_52 kbm4 ?_))
        refine g_icmp_ne 122 dX9_findCut_54 rfl (by omega) (by omega) (fun c54 => ?_) (fun c54 => ?_)
        · skip
          refine g_inc4 dX9_findCut_122 (by decide) rfl (g_goto 23 dX9_findCut_125 rfl (g_dr5 ?_))
          by_cases hk2 : k = 2
          · subst hk2; exact ih (m - 1) (by omega) h1 (c + 1) (by omega) (by omega) hI
          · (refine ih (m - 1) (by omega) h1 (c + 1) (by omega) (by omega) ⟨hI.1, Or.inr ?_⟩; rcases hI.2 with z | ⟨k2, s, z0, z1, z2, z3⟩; (exact absurd z.1 (by omega)); exact ⟨k2, s, by omega, z1, z2, z3⟩)
        · skip
          refine g_iload dX9_findCut_57 rfl ?_
          refine g_if_ne 69 dX9_findCut_59 rfl (by omega) (fun c59 => ?_) (fun c59 => ?_)
          · skip
            refine g_iload_n dX9_findCut_69 rfl rfl (g_iload dX9_findCut_70 rfl (g_iadd dX9_findCut_72 (g_ist6 dX9_findCut_73 (by decide) rfl ?_)))
            have hte := teAt_e (F f.toNat).te (ch := (c : Int)) (by omega)
            rw [Int.toNat_natCast] at hte
            first
            | (obtain rfl : k = 0 := (by omega); exact L75 _ hte.1.symm (by omega) (by omega))
            | (obtain rfl : k = 1 := (by omega); exact L75 _ hte.2.symm (by omega) (by omega))
          · skip
            refine g_iload_n dX9_findCut_62 rfl rfl (g_iload dX9_findCut_63 rfl (g_isub dX9_findCut_65 (g_goto 73 dX9_findCut_66 rfl (g_ist6 dX9_findCut_73 (by decide) rfl ?_))))
            have hte := teAt_e (F f.toNat).te (ch := (c : Int)) (by omega)
            rw [Int.toNat_natCast] at hte
            first
            | (obtain rfl : k = 0 := (by omega); exact L75 _ hte.1.symm (by omega) (by omega))
            | (obtain rfl : k = 1 := (by omega); exact L75 _ hte.2.symm (by omega) (by omega))
    refine g_iload dX9_findCut_23 rfl (g_bipush dX9_findCut_25 kb60 ?_)
    refine g_icmp_ge 128 dX9_findCut_27 rfl (by omega) (by omega) (fun c27 => ?_) (fun c27 => ?_)
    · skip
      by_cases hk2 : c = 60
      · subst hk2; exact L128 h1 _ _ _ (Or.inl hI)
      · exact L128 h1 _ _ _ (Or.inr (Or.inr ⟨2 * c, by omega, hI, by omega⟩))
    · skip
      refine g_aload_n dX9_findCut_30 rfl rfl (gf_X9_282 (M := mX9_findCut) rfl dX9_findCut_31 (yo150 hY) (g_bipush dX9_findCut_34 kbm4 ?_))
      refine g_icmp_ne 128 dX9_findCut_36 rfl (by omega) (by omega) (fun c36 => ?_) (fun c36 => ?_)
      · skip
        by_cases hk2 : c = 60
        · subst hk2; exact L128 h1 _ _ _ (Or.inl hI)
        · exact L128 h1 _ _ _ (Or.inr (Or.inr ⟨2 * c, by omega, hI, by omega⟩))
      · skip
        refine g_iconst dX9_findCut_39 (g_ist5 dX9_findCut_40 (by decide) rfl ?_)
        exact L42 2 h1 0 (by omega) (by omega) (by omega) hI
  refine g_aload_n dX9_findCut_0 rfl rfl (g_iload_n dX9_findCut_1 rfl rfl (g_iconst dX9_findCut_2 (cv_X9_143 (M := mX9_findCut) rfl dX9_findCut_3 (yo150 hY) (RO.same _ _ _) (Nat.le_of_ble_eq_true rfl) (e_of1 hY (by omega) hFf.1) <| kI (g_ist2 dX9_findCut_6 (by decide) rfl (g_aload_n dX9_findCut_7 rfl rfl (g_iload_n dX9_findCut_8 rfl rfl (g_iconst dX9_findCut_9 (cv_X9_143 (M := mX9_findCut) rfl dX9_findCut_10 (yo150 hY) (RO.same _ _ _) (Nat.le_of_ble_eq_true rfl) (e_of2 hY (by omega) hFf.1) <| kI (g_ist3 dX9_findCut_13 (by decide) rfl (g_aload_n dX9_findCut_14 rfl rfl (g_bipush dX9_findCut_15 kbm4 ?_)))))))))))
  refine pf_X9_282 (M := mX9_findCut) rfl dX9_findCut_17 (yo150 hY) (g_iconst dX9_findCut_20 (g_ist4 dX9_findCut_21 (by decide) rfl ?_))
  exact L23 60 _ 0 (by omega) (by omega) ⟨⟨_, _, (ChG.rf hFf.1).c (Or.inl rfl) _⟩, Or.inl ⟨by rw [sI_I, if_pos ⟨rfl, rfl⟩], fun k hk => by omega⟩⟩
theorem FrC.rf (h : HM) : FrC h h := ⟨rfl, fun _ _ _ => rfl⟩
set_option maxRecDepth 100000 in
set_option maxHeartbeats 1000000 in
theorem e_X9_cut {G : GX} {y : LY} {h : HM} {d : Nat} (hY : Lay y) {F : Nat → Fg} (hR : RF h F) {f w : Int} (hf : R32 f) (hw : R32 w) : EvQX G mX9_cut (d + 7) [.ref 150, .int (iZ f), .int (iZ w)] y h (fun v h1 => FrC h h1 ∧ ((¬ ((0 ≤ f ∧ f < (h.I 151 0)) ∧ (w = 0 ∨ w = 1)) ∧ v = -1) ∨ (((0 ≤ f ∧ f < (h.I 151 0)) ∧ (w = 0 ∨ w = 1)) ∧ CutP F (h.I 151 0) f w v))) := by
  have hnf := hR.1
  have hpf := pI_01 (0 ≤ f ∧ f < h.I 151 0)
  have hpe := pI_eq1 (P := 0 ≤ f ∧ f < h.I 151 0)
  have hzw := pI_01 (0 ≤ w ∧ w ≤ 1)
  have hyw := pI_eq1 (P := 0 ≤ w ∧ w ≤ 1)
  refine Ev.of rfl [some (.ref 150), some (.int (iZ f)), some (.int (iZ w))] rfl (Nat.le_of_ble_eq_true rfl) ?_
  refine g_aload_n dX9_cut_0 rfl rfl (g_iload_n dX9_cut_1 rfl rfl (cv_X9_146 (M := mX9_cut) rfl dX9_cut_2 (yo150 hY) (RO.same _ _ _) (Nat.le_of_ble_eq_true rfl) (e_X9_isFigure hY (by omega) (by omega)) <| kI ?_))
  refine g_if_eq 18 dX9_cut_5 rfl (by omega) (fun c5 => ?_) (fun c5 => ?_)
  · skip
    refine g_iconst dX9_cut_18 ?_
    exact g_iret dX9_cut_19 rfl rfl ⟨Nat.le_refl _, Nat.le_refl _⟩ (by first | exact ⟨-1, rfl, FrC.rf h, Or.inl ⟨by omega, rfl⟩⟩ | (rcases hq22 with ⟨q0, q1⟩ | ⟨q0, n, s, q1, q2, q3, q4⟩ <;> first | (exfalso; omega) | exact ⟨-4, rfl, fc22, Or.inr ⟨by omega, Or.inl ⟨rfl, q1⟩⟩⟩ | exact ⟨_, rfl, fc22, Or.inr ⟨by omega, Or.inr ⟨n, s, q1, q2, by rw [if_pos (by omega)]; exact q3⟩⟩⟩ | exact ⟨_, rfl, fc22, Or.inr ⟨by omega, Or.inr ⟨n, s, q1, q2, by rw [if_neg (by omega)]; exact q4⟩⟩⟩))
  · skip
    refine g_iload_n dX9_cut_8 rfl rfl (g_i2l dX9_cut_9 (by omega) (g_lconst (v := 0) dX9_cut_10 rfl (g_lconst (v := 1) dX9_cut_11 rfl (cv_X9_71 (M := mX9_cut) rfl dX9_cut_12 (RO.same _ _ _) (Nat.le_of_ble_eq_true rfl) (e_X9_in (by omega) (by omega) (by omega)) <| kI ?_))))
    refine g_if_ne 20 dX9_cut_15 rfl (by omega) (fun c15 => ?_) (fun c15 => ?_)
    · skip
      refine g_aload_n dX9_cut_20 rfl rfl (g_iload_n dX9_cut_21 rfl rfl ?_)
      refine cv_X9_294 (M := mX9_cut) rfl dX9_cut_22 (yo150 hY) (RO.same _ _ _) (Nat.le_of_ble_eq_true rfl) (e_X9_findCut hY hR (by omega)) (kQX fun v22 h22 hq22 => ?_)
      have hv22 : v22 = 0 ∨ v22 = 1 := (by rcases hq22.2 with ⟨q, _⟩ | ⟨q, _⟩ <;> omega)
      obtain ⟨fc22, hq22⟩ := hq22
      replace hq22 : FcR F (h.I 151 0) f v22 h22 := hq22
      refine g_if_ne 33 dX9_cut_25 rfl (by omega) (fun c25 => ?_) (fun c25 => ?_)
      · skip
        refine g_iload_n dX9_cut_33 rfl rfl ?_
        refine g_if_ne 44 dX9_cut_34 rfl (by omega) (fun c34 => ?_) (fun c34 => ?_)
        · skip
          refine g_aload_n dX9_cut_44 rfl rfl (gf_X9_291 (M := mX9_cut) rfl dX9_cut_45 (yo150 hY) ?_)
          exact g_iret dX9_cut_48 rfl rfl ⟨Nat.le_refl _, Nat.le_refl _⟩ (by first | exact ⟨-1, rfl, FrC.rf h, Or.inl ⟨by omega, rfl⟩⟩ | (rcases hq22 with ⟨q0, q1⟩ | ⟨q0, n, s, q1, q2, q3, q4⟩ <;> first | (exfalso; omega) | exact ⟨-4, rfl, fc22, Or.inr ⟨by omega, Or.inl ⟨rfl, q1⟩⟩⟩ | exact ⟨_, rfl, fc22, Or.inr ⟨by omega, Or.inr ⟨n, s, q1, q2, by rw [if_pos (by omega)]; exact q3⟩⟩⟩ | exact ⟨_, rfl, fc22, Or.inr ⟨by omega, Or.inr ⟨n, s, q1, q2, by rw [if_neg (by omega)]; exact q4⟩⟩⟩))
        · skip
          refine g_aload_n dX9_cut_37 rfl rfl (gf_X9_282 (M := mX9_cut) rfl dX9_cut_38 (yo150 hY) (g_goto 48 dX9_cut_41 rfl ?_))
          exact g_iret dX9_cut_48 rfl rfl ⟨Nat.le_refl _, Nat.le_refl _⟩ (by first | exact ⟨-1, rfl, FrC.rf h, Or.inl ⟨by omega, rfl⟩⟩ | (rcases hq22 with ⟨q0, q1⟩ | ⟨q0, n, s, q1, q2, q3, q4⟩ <;> first | (exfalso; omega) | exact ⟨-4, rfl, fc22, Or.inr ⟨by omega, Or.inl ⟨rfl, q1⟩⟩⟩ | exact ⟨_, rfl, fc22, Or.inr ⟨by omega, Or.inr ⟨n, s, q1, q2, by rw [if_pos (by omega)]; exact q3⟩⟩⟩ | exact ⟨_, rfl, fc22, Or.inr ⟨by omega, Or.inr ⟨n, s, q1, q2, by rw [if_neg (by omega)]; exact q4⟩⟩⟩))
      · skip
        refine g_bipush dX9_cut_28 kbm4 (g_goto 48 dX9_cut_30 rfl ?_)
        exact g_iret dX9_cut_48 rfl rfl ⟨Nat.le_refl _, Nat.le_refl _⟩ (by first | exact ⟨-1, rfl, FrC.rf h, Or.inl ⟨by omega, rfl⟩⟩ | (rcases hq22 with ⟨q0, q1⟩ | ⟨q0, n, s, q1, q2, q3, q4⟩ <;> first | (exfalso; omega) | exact ⟨-4, rfl, fc22, Or.inr ⟨by omega, Or.inl ⟨rfl, q1⟩⟩⟩ | exact ⟨_, rfl, fc22, Or.inr ⟨by omega, Or.inr ⟨n, s, q1, q2, by rw [if_pos (by omega)]; exact q3⟩⟩⟩ | exact ⟨_, rfl, fc22, Or.inr ⟨by omega, Or.inr ⟨n, s, q1, q2, by rw [if_neg (by omega)]; exact q4⟩⟩⟩))
    · skip
      refine g_iconst dX9_cut_18 ?_
      exact g_iret dX9_cut_19 rfl rfl ⟨Nat.le_refl _, Nat.le_refl _⟩ (by first | exact ⟨-1, rfl, FrC.rf h, Or.inl ⟨by omega, rfl⟩⟩ | (rcases hq22 with ⟨q0, q1⟩ | ⟨q0, n, s, q1, q2, q3, q4⟩ <;> first | (exfalso; omega) | exact ⟨-4, rfl, fc22, Or.inr ⟨by omega, Or.inl ⟨rfl, q1⟩⟩⟩ | exact ⟨_, rfl, fc22, Or.inr ⟨by omega, Or.inr ⟨n, s, q1, q2, by rw [if_pos (by omega)]; exact q3⟩⟩⟩ | exact ⟨_, rfl, fc22, Or.inr ⟨by omega, Or.inr ⟨n, s, q1, q2, by rw [if_neg (by omega)]; exact q4⟩⟩⟩))
