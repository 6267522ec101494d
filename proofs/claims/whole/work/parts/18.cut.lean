/-- a wheel cut anew; he crashes with nobody then -/
def cutF (F : Fg) (te s : Int) : Fg := (te, s, F.dr, F.la, F.ga)
def FrA (F : Nat → Fg) (nf : Int) (f : Int) (T : Fg) (s : Int) : Prop := ∀ g : Int, 0 ≤ g → g < nf → g ≠ f → (F g.toNat).dr = T.dr → ¬ MeetP (stF T s) (F g.toNat)
theorem lOnes {te : Int} (h : 0 ≤ te ∧ te ≤ 60) : lShl 1 te - 1 = ((2 ^ te.toNat - 1 : Nat) : Int) := by
  have e := lShlN (a := 1) (k := te.toNat) (by omega) (by rw [Nat.one_mul]; exact Nat.pow_lt_pow_right (by decide) (by omega))
  rw [show ((1 : Nat) : Int) = 1 from rfl, show ((te.toNat : Nat) : Int) = te by omega, Nat.one_mul] at e
  have := two_le te.toNat
  rw [e]; omega
set_option maxRecDepth 100000 in
set_option maxHeartbeats 4000000 in
theorem e_X0_freeStarts {G : GX} {y : LY} {h : HM} {d : Nat} (hY : Lay y) {f : Int} (hC : CF h 12) (hwa : FW h 82) (hd8 : 0 ≤ h.I 82 2 ∧ h.I 82 2 ≤ 8) (hf : R32 f) : EvQL G mX0_freeStarts (d + 3) [.ref 12, .int (iZ f), .ref 82] y h (fun v : Int => ∃ Y : Nat, v = (Y : Int) ∧ Y < 2 ^ (h.I 82 0).toNat ∧ ∀ s : Nat, Y.testBit s = true ↔ s < (h.I 82 0).toNat ∧ FrA (cFs h 12) (h.I 12 3) f (c5 h 82) s) := by
  have hnf := hC.1
  have h2p := two_le (h.I 82 0).toNat
  have hX60 : 2 ^ (h.I 82 0).toNat ≤ 2 ^ 60 := Nat.pow_le_pow_right (by decide) (by omega)
  have hon := lOnes (te := h.I 82 0) (by omega)
  refine Ev.of rfl [some (.ref 12), some (.int (iZ f)), some (.ref 82), none, none, none] rfl (Nat.le_of_ble_eq_true rfl) ?_
  have L12 : ∀ (m : Nat) (g : Int) (Y : Nat), m = (h.I 12 3 - g).toNat → 0 ≤ g ∧ g ≤ h.I 12 3 → Cl (2 ^ (h.I 82 0).toNat - 1) Y (fun s => ∃ g2 : Int, (0 ≤ g2 ∧ g2 < g) ∧ g2 ≠ f ∧ (cFs h 12 g2.toNat).dr = (c5 h 82).dr ∧ MeetP (stF (c5 h 82) s) (cFs h 12 g2.toNat)) → Go G mX0_freeStarts (rmo (d + 3) 0 0) (ZM G y 0 0 (fun r h1 => ∃ v : Int, r = some (.long (lZ v)) ∧ h1 = h ∧ (fun v : Int => ∃ Y : Nat, v = (Y : Int) ∧ Y < 2 ^ (h.I 82 0).toNat ∧ ∀ s : Nat, Y.testBit s = true ↔ s < (h.I 82 0).toNat ∧ FrA (cFs h 12) (h.I 12 3) f (c5 h 82) s) v)) y 12 [some (.ref 12), some (.int (iZ f)), some (.ref 82), some (.long (lZ Y)), none, some (.int (iZ g))] [] h (0, 0) := by
    intro m
    induction m using Nat.strongRecOn with | _ m ih =>
    intro g Y hm hg hYg
    have hYX := hYg.1
    refine g_iload dX0_freeStarts_12 rfl (g_aload_n dX0_freeStarts_14 rfl rfl (gf_X0_29 (M := mX0_freeStarts) rfl dX0_freeStarts_15 (ck_o hY clk12) ?_))
    refine g_icmp_ge 69 dX0_freeStarts_18 rfl (by omega) (by omega) (fun c18 => ?_) (fun c18 => ?_)
    · skip
      refine g_lload_n dX0_freeStarts_69 rfl rfl ?_
      exact g_lret dX0_freeStarts_70 rfl rfl ⟨Nat.le_refl _, Nat.le_refl _⟩ (by have hW := hYg.w (P' := fun s => ∃ g2 : Int, (0 ≤ g2 ∧ g2 < h.I 12 3) ∧ g2 ≠ f ∧ (cFs h 12 g2.toNat).dr = (c5 h 82).dr ∧ MeetP (stF (c5 h 82) s) (cFs h 12 g2.toNat)) (fun s z => (by obtain ⟨g2, z1, z2⟩ := z; exact ⟨g2, by omega, z2⟩)) (by rcases (by omega : Y = 0 ∨ (0 : Int) < Y) with z0 | z0; exact Or.inl z0; exact Or.inr fun s _ z => (by obtain ⟨g2, z1, z2⟩ := z; exact ⟨g2, by omega, z2⟩)); refine ⟨Y, rfl, rfl, Y, rfl, by omega, fun s => ?_⟩; rw [hW.2 s, Nat.testBit_two_pow_sub_one]; simp only [decide_eq_true_eq]; constructor; (rintro ⟨q1, q2⟩; exact ⟨q1, fun g2 z1 z2 z3 z4 z5 => q2 ⟨g2, ⟨z1, z2⟩, z3, z4, z5⟩⟩); (rintro ⟨q1, q2⟩; exact ⟨q1, fun z => by obtain ⟨g2, z1, z2, z3, z4⟩ := z; exact q2 g2 z1.1 z1.2 z2 z3 z4⟩))
    · skip
      refine g_lload_n dX0_freeStarts_21 rfl rfl (g_lconst (v := 0) dX0_freeStarts_22 rfl ?_)
      refine g_lcmp_eq 69 dX0_freeStarts_23 dX0_freeStarts_24 rfl (by omega) (by omega) (fun c23 => ?_) (fun c23 => ?_)
      · skip
        refine g_lload_n dX0_freeStarts_69 rfl rfl ?_
        exact g_lret dX0_freeStarts_70 rfl rfl ⟨Nat.le_refl _, Nat.le_refl _⟩ (by have hW := hYg.w (P' := fun s => ∃ g2 : Int, (0 ≤ g2 ∧ g2 < h.I 12 3) ∧ g2 ≠ f ∧ (cFs h 12 g2.toNat).dr = (c5 h 82).dr ∧ MeetP (stF (c5 h 82) s) (cFs h 12 g2.toNat)) (fun s z => (by obtain ⟨g2, z1, z2⟩ := z; exact ⟨g2, by omega, z2⟩)) (by rcases (by omega : Y = 0 ∨ (0 : Int) < Y) with z0 | z0; exact Or.inl z0; exact Or.inr fun s _ z => (by obtain ⟨g2, z1, z2⟩ := z; exact ⟨g2, by omega, z2⟩)); refine ⟨Y, rfl, rfl, Y, rfl, by omega, fun s => ?_⟩; rw [hW.2 s, Nat.testBit_two_pow_sub_one]; simp only [decide_eq_true_eq]; constructor; (rintro ⟨q1, q2⟩; exact ⟨q1, fun g2 z1 z2 z3 z4 z5 => q2 ⟨g2, ⟨z1, z2⟩, z3, z4, z5⟩⟩); (rintro ⟨q1, q2⟩; exact ⟨q1, fun z => by obtain ⟨g2, z1, z2, z3, z4⟩ := z; exact q2 g2 z1.1 z1.2 z2 z3 z4⟩))
      · skip
        have hFg := hC.2 g hg.1 (by omega)
        refine g_iload dX0_freeStarts_27 rfl (g_iload_n dX0_freeStarts_29 rfl rfl ?_)
        refine g_icmp_eq 63 dX0_freeStarts_30 rfl (by omega) (by omega) (fun c30 => ?_) (fun c30 => ?_)
        · skip
          refine g_inc5 dX0_freeStarts_63 (by decide) rfl (g_goto 12 dX0_freeStarts_66 rfl ?_)
          first
          | (refine ih _ (by omega) (g + 1) _ rfl (by omega) (hYg.w (fun s z => (by obtain ⟨g2, z1, z2⟩ := z; exact ⟨g2, by omega, z2⟩)) (Or.inr fun s _ z => (by obtain ⟨g2, z1, z2, z3, z4⟩ := z; rcases (by omega : g2 < g ∨ g2 = g) with z5 | rfl; exact ⟨g2, by omega, z2, z3, z4⟩; exact absurd c30 z2))); done)
          | (refine ih _ (by omega) (g + 1) _ rfl (by omega) (hYg.w (fun s z => (by obtain ⟨g2, z1, z2⟩ := z; exact ⟨g2, by omega, z2⟩)) (Or.inr fun s _ z => (by obtain ⟨g2, z1, z2, z3, z4⟩ := z; rcases (by omega : g2 < g ∨ g2 = g) with z5 | rfl; exact ⟨g2, by omega, z2, z3, z4⟩; exact absurd z3 c47))); done)
          | (refine ih _ (by omega) (g + 1) Y2 rfl (by omega) ⟨Nat.le_trans hY2.1 hYX, fun s => ?_⟩; rw [hY2.2 s, hYg.2 s]; constructor; (rintro ⟨⟨q1, q2⟩, q3⟩; refine ⟨q1, fun z => ?_⟩; obtain ⟨g2, z1, z2, z3, z4⟩ := z; rcases (by omega : g2 < g ∨ g2 = g) with z5 | rfl; exact q2 ⟨g2, by omega, z2, z3, z4⟩; exact q3 z4); (rintro ⟨q1, q2⟩; exact ⟨⟨q1, fun z => q2 (by obtain ⟨g2, z1, z2⟩ := z; exact ⟨g2, by omega, z2⟩)⟩, fun z => q2 ⟨g, by omega, c30, c47, z⟩⟩))
        · skip
          refine g_aload_n dX0_freeStarts_33 rfl rfl (gf_X0_11 (M := mX0_freeStarts) rfl dX0_freeStarts_34 (ck_o hY clk12) (ck_r0 hY clk12) (g_iload dX0_freeStarts_37 rfl (g_aald dX0_freeStarts_39 (ck_a0 hY clk12) (by decide) (D0 := "ClockTeeth$Figure") rfl ⟨by omega, by omega, by omega⟩ (ck_fr hY clk12 (by omega)) (gf_X0_99 (M := mX0_freeStarts) rfl dX0_freeStarts_40 (ck_fo hY clk12 (by omega)) (g_aload_n dX0_freeStarts_43 rfl rfl (gf_X0_99 (M := mX0_freeStarts) rfl dX0_freeStarts_44 (yo82 hY) ?_))))))
          refine g_icmp_ne 63 dX0_freeStarts_47 rfl (by omega) (by omega) (fun c47 => ?_) (fun c47 => ?_)
          · skip
            refine g_inc5 dX0_freeStarts_63 (by decide) rfl (g_goto 12 dX0_freeStarts_66 rfl ?_)
            first
            | (refine ih _ (by omega) (g + 1) _ rfl (by omega) (hYg.w (fun s z => (by obtain ⟨g2, z1, z2⟩ := z; exact ⟨g2, by omega, z2⟩)) (Or.inr fun s _ z => (by obtain ⟨g2, z1, z2, z3, z4⟩ := z; rcases (by omega : g2 < g ∨ g2 = g) with z5 | rfl; exact ⟨g2, by omega, z2, z3, z4⟩; exact absurd c30 z2))); done)
            | (refine ih _ (by omega) (g + 1) _ rfl (by omega) (hYg.w (fun s z => (by obtain ⟨g2, z1, z2⟩ := z; exact ⟨g2, by omega, z2⟩)) (Or.inr fun s _ z => (by obtain ⟨g2, z1, z2, z3, z4⟩ := z; rcases (by omega : g2 < g ∨ g2 = g) with z5 | rfl; exact ⟨g2, by omega, z2, z3, z4⟩; exact absurd z3 c47))); done)
            | (refine ih _ (by omega) (g + 1) Y2 rfl (by omega) ⟨Nat.le_trans hY2.1 hYX, fun s => ?_⟩; rw [hY2.2 s, hYg.2 s]; constructor; (rintro ⟨⟨q1, q2⟩, q3⟩; refine ⟨q1, fun z => ?_⟩; obtain ⟨g2, z1, z2, z3, z4⟩ := z; rcases (by omega : g2 < g ∨ g2 = g) with z5 | rfl; exact q2 ⟨g2, by omega, z2, z3, z4⟩; exact q3 z4); (rintro ⟨q1, q2⟩; exact ⟨⟨q1, fun z => q2 (by obtain ⟨g2, z1, z2⟩ := z; exact ⟨g2, by omega, z2⟩)⟩, fun z => q2 ⟨g, by omega, c30, c47, z⟩⟩))
          · skip
            refine g_aload_n dX0_freeStarts_50 rfl rfl (gf_X0_11 (M := mX0_freeStarts) rfl dX0_freeStarts_51 (ck_o hY clk12) (ck_r0 hY clk12) (g_iload dX0_freeStarts_54 rfl (g_aald dX0_freeStarts_56 (ck_a0 hY clk12) (by decide) (D0 := "ClockTeeth$Figure") rfl ⟨by omega, by omega, by omega⟩ (ck_fr hY clk12 (by omega)) (g_aload_n dX0_freeStarts_57 rfl rfl (g_lload_n dX0_freeStarts_58 rfl rfl ?_)))))
            refine cv_X0_137 (M := mX0_freeStarts) rfl dX0_freeStarts_59 (RO.same _ _ _) (Nat.le_of_ble_eq_true rfl) (e_X0_freeOf (X := Y) (yo82 hY) (ck_fo hY clk12 (by omega)) hwa hFg (by omega)) (kQL fun v59 hq59 => ?_)
            obtain ⟨Y2, rfl, hY2⟩ := hq59
            refine g_lst3 dX0_freeStarts_62 (by decide) rfl (g_inc5 dX0_freeStarts_63 (by decide) rfl (g_goto 12 dX0_freeStarts_66 rfl ?_))
            first
            | (refine ih _ (by omega) (g + 1) _ rfl (by omega) (hYg.w (fun s z => (by obtain ⟨g2, z1, z2⟩ := z; exact ⟨g2, by omega, z2⟩)) (Or.inr fun s _ z => (by obtain ⟨g2, z1, z2, z3, z4⟩ := z; rcases (by omega : g2 < g ∨ g2 = g) with z5 | rfl; exact ⟨g2, by omega, z2, z3, z4⟩; exact absurd c30 z2))); done)
            | (refine ih _ (by omega) (g + 1) _ rfl (by omega) (hYg.w (fun s z => (by obtain ⟨g2, z1, z2⟩ := z; exact ⟨g2, by omega, z2⟩)) (Or.inr fun s _ z => (by obtain ⟨g2, z1, z2, z3, z4⟩ := z; rcases (by omega : g2 < g ∨ g2 = g) with z5 | rfl; exact ⟨g2, by omega, z2, z3, z4⟩; exact absurd z3 c47))); done)
            | (refine ih _ (by omega) (g + 1) Y2 rfl (by omega) ⟨Nat.le_trans hY2.1 hYX, fun s => ?_⟩; rw [hY2.2 s, hYg.2 s]; constructor; (rintro ⟨⟨q1, q2⟩, q3⟩; refine ⟨q1, fun z => ?_⟩; obtain ⟨g2, z1, z2, z3, z4⟩ := z; rcases (by omega : g2 < g ∨ g2 = g) with z5 | rfl; exact q2 ⟨g2, by omega, z2, z3, z4⟩; exact q3 z4); (rintro ⟨q1, q2⟩; exact ⟨⟨q1, fun z => q2 (by obtain ⟨g2, z1, z2⟩ := z; exact ⟨g2, by omega, z2⟩)⟩, fun z => q2 ⟨g, by omega, c30, c47, z⟩⟩))
  refine g_lconst (v := 1) dX0_freeStarts_0 rfl (g_aload_n dX0_freeStarts_1 rfl rfl (gf_X0_97 (M := mX0_freeStarts) rfl dX0_freeStarts_2 (yo82 hY) (g_lshl dX0_freeStarts_5 (g_lconst (v := 1) dX0_freeStarts_6 rfl (g_lsub dX0_freeStarts_7 (g_lst3 dX0_freeStarts_8 (by decide) rfl (g_iconst dX0_freeStarts_9 (g_ist5 dX0_freeStarts_10 (by decide) rfl ?_))))))))
  rw [hon]
  refine L12 _ 0 _ rfl (by omega) ⟨Nat.le_refl _, fun s => ⟨fun q => ⟨q, ?_⟩, fun q => q.1⟩⟩
  rintro ⟨g2, z1, z2⟩
  omega
theorem FB_eq {h h1 : HM} {b : Nat} (e : ∀ j, h1.I b j = h.I b j) (hF : FB h b) : FB h1 b := by
  unfold FB FW at *
  simpa only [e] using hF
theorem CF_eq {h h1 : HM} {c : Nat} (e : h1.I c 3 = h.I c 3) (e2 : ∀ i : Int, 0 ≤ i → i < h.I c 3 → ∀ j, h1.I (c + 4 + i.toNat) j = h.I (c + 4 + i.toNat) j) (hC : CF h c) : CF h1 c :=
  ⟨by rw [e]; exact hC.1, fun i i0 i1 => FB_eq (e2 i i0 (by rw [e] at i1; exact i1)) (hC.2 i i0 (by rw [e] at i1; exact i1))⟩
theorem wr_ts (h : HM) (a : Nat) (x s : Int) : (h.sI a 0 x).sI a 1 s = wr5 h a (cutF (c5 h a) x s) := by
  unfold wr5 cutF c5 HM.sI up2 Fg.dr Fg.la Fg.ga HM.I
  ext1
  · funext z j
    by_cases hz : z = a
    · subst hz
      by_cases j0 : j = 0
      · simp [j0]
      · by_cases j1 : j = 1
        · simp [j1]
        · by_cases j2 : j = 2
          · simp [j2]
          · by_cases j3 : j = 3
            · simp [j3]
            · by_cases j4 : j = 4 <;> simp [j0, j1, j2, j3, j4]
    · simp [hz]
  · rfl
theorem wr_wr (h : HM) (a : Nat) (F H : Fg) : wr5 (wr5 h a F) a H = wr5 h a H := by
  unfold wr5 HM.sI up2
  ext1
  · funext z j
    by_cases hz : z = a
    · subst hz
      by_cases j0 : j = 0
      · simp [j0]
      · by_cases j1 : j = 1
        · simp [j1]
        · by_cases j2 : j = 2
          · simp [j2]
          · by_cases j3 : j = 3
            · simp [j3]
            · by_cases j4 : j = 4 <;> simp [j0, j1, j2, j3, j4]
    · simp [hz]
  · rfl
theorem wr_self (h : HM) (a : Nat) : wr5 h a (c5 h a) = h := by
  unfold wr5 c5 HM.sI up2 HM.I
  ext1
  · funext z j
    by_cases hz : z = a
    · subst hz
      by_cases j0 : j = 0
      · simp [j0]
      · by_cases j1 : j = 1
        · simp [j1]
        · by_cases j2 : j = 2
          · simp [j2]
          · by_cases j3 : j = 3
            · simp [j3]
            · by_cases j4 : j = 4 <;> simp [j0, j1, j2, j3, j4]
    · simp [hz]
  · rfl
/-- the least start by which he crashes with nobody -/
def LeastFr (F : Nat → Fg) (nf f : Int) (T : Fg) (s : Int) : Prop := 0 ≤ s ∧ s < T.te ∧ FrA F nf f T s ∧ ∀ s2 : Int, 0 ≤ s2 → s2 < s → ¬ FrA F nf f T s2
def NoFr (F : Nat → Fg) (nf f : Int) (T : Fg) : Prop := ∀ s : Int, 0 ≤ s → s < T.te → ¬ FrA F nf f T s
theorem low_fr {F : Nat → Fg} {nf f : Int} {T : Fg} {X : Nat} {v : Int} (hte : 2 ≤ T.te ∧ T.te ≤ 60) (hX : X < 2 ^ T.te.toNat) (hb : ∀ s : Nat, X.testBit s = true ↔ s < T.te.toNat ∧ FrA F nf f T s) (hl : LowP X v) : (0 ≤ v ∧ v < T.te) ∧ ((X = 0 ∧ NoFr F nf f T) ∨ (X ≠ 0 ∧ LeastFr F nf f T v)) := by
  rcases hl with ⟨rfl, rfl⟩ | ⟨h0, h1, h2, h3⟩
  · refine ⟨by omega, Or.inl ⟨rfl, fun s s0 s1 q => ?_⟩⟩
    have := (hb s.toNat).mpr ⟨by omega, by rw [show ((s.toNat : Nat) : Int) = s by omega]; exact q⟩
    simp at this
  · have hv := (hb v.toNat).mp h2
    rw [show ((v.toNat : Nat) : Int) = v by omega] at hv
    refine ⟨by omega, Or.inr ⟨fun e => ?_, h0, by omega, hv.2, fun s2 z0 z1 q => ?_⟩⟩
    · rw [e] at h2; simp at h2
    · have := (hb s2.toNat).mpr ⟨by omega, by rw [show ((s2.toNat : Nat) : Int) = s2 by omega]; exact q⟩
      rw [h3 s2.toNat (by omega)] at this
      cases this
set_option maxRecDepth 100000 in
set_option maxHeartbeats 4000000 in
theorem e_X0_startFirst {G : GX} {y : LY} {h : HM} {d : Nat} (hY : Lay y) {f te : Int} (hC : CF h 12) (hwa : 0 ≤ h.I 82 3 ∧ h.I 82 3 ≤ 3 ∧ 0 ≤ h.I 82 4 ∧ h.I 82 4 ≤ 59) (hd8 : 0 ≤ h.I 82 2 ∧ h.I 82 2 ≤ 8) (hf : R32 f) (ht : R32 te) : EvQX G mX0_startFirst (d + 4) [.ref 12, .int (iZ f), .ref 82, .int (iZ te)] y h (fun v h1 => (¬ (2 ≤ te ∧ te ≤ 60 ∧ h.I 82 4 < te) ∧ v = 0 ∧ h1 = h) ∨ ((2 ≤ te ∧ te ≤ 60 ∧ h.I 82 4 < te) ∧ ∃ s : Int, (0 ≤ s ∧ s < te) ∧ h1 = wr5 h 82 (cutF (c5 h 82) te s) ∧ ((v = 1 ∧ LeastFr (cFs h 12) (h.I 12 3) f (cutF (c5 h 82) te 0) s) ∨ (v = 0 ∧ NoFr (cFs h 12) (h.I 12 3) f (cutF (c5 h 82) te 0))))) := by
  refine Ev.of rfl [some (.ref 12), some (.int (iZ f)), some (.ref 82), some (.int (iZ te)), none, none] rfl (Nat.le_of_ble_eq_true rfl) ?_
  refine g_iload_n dX0_startFirst_0 rfl rfl (g_iconst dX0_startFirst_1 ?_)
  refine g_icmp_lt 19 dX0_startFirst_2 rfl (by omega) (by omega) (fun c2 => ?_) (fun c2 => ?_)
  · skip
    refine g_iconst dX0_startFirst_19 ?_
    exact g_zret dX0_startFirst_20 rfl rfl ⟨Nat.le_refl _, Nat.le_refl _⟩ (by omega) (by exact ⟨0, rfl, Or.inl ⟨by omega, rfl, rfl⟩⟩)
  · skip
    refine g_iload_n dX0_startFirst_5 rfl rfl (g_bipush dX0_startFirst_6 kb60 ?_)
    refine g_icmp_gt 19 dX0_startFirst_8 rfl (by omega) (by omega) (fun c8 => ?_) (fun c8 => ?_)
    · skip
      refine g_iconst dX0_startFirst_19 ?_
      exact g_zret dX0_startFirst_20 rfl rfl ⟨Nat.le_refl _, Nat.le_refl _⟩ (by omega) (by exact ⟨0, rfl, Or.inl ⟨by omega, rfl, rfl⟩⟩)
    · skip
      refine g_aload_n dX0_startFirst_11 rfl rfl (gf_X0_103 (M := mX0_startFirst) rfl dX0_startFirst_12 (yo82 hY) (g_iload_n dX0_startFirst_15 rfl rfl ?_))
      refine g_icmp_lt 21 dX0_startFirst_16 rfl (by omega) (by omega) (fun c16 => ?_) (fun c16 => ?_)
      · skip
        refine g_aload_n dX0_startFirst_21 rfl rfl (g_iload_n dX0_startFirst_22 rfl rfl (pf_X0_97 (M := mX0_startFirst) rfl dX0_startFirst_23 (yo82 hY) ?_))
        have hnf := hC.1
        have e0 : (h.sI 82 0 te).I 82 0 = te := by simp [sI_I]
        have hC2 : CF (h.sI 82 0 te) 12 := CF_eq (by simp [sI_I]) (fun i i0 i1 j => by rw [sI_I, if_neg (by omega)]) hC
        have hW2 : FW (h.sI 82 0 te) 82 := by unfold FW; simp only [sI_I]; simp; omega
        have hFs : cFs (h.sI 82 0 te) 12 = fun i => if 12 + 4 + i = 82 then c5 (h.sI 82 0 te) 82 else c5 h (12 + 4 + i) := by
          funext i; by_cases e : 12 + 4 + i = 82
          · simp only [cFs]; rw [if_pos e, e]
          · simp [cFs, c5, sI_I, e]
        refine g_aload_n dX0_startFirst_26 rfl rfl (g_iload_n dX0_startFirst_27 rfl rfl (g_aload_n dX0_startFirst_28 rfl rfl ?_))
        refine cv_X0_130 (M := mX0_startFirst) rfl dX0_startFirst_29 (ck_o hY clk12) (RO.same _ _ _) (Nat.le_of_ble_eq_true rfl) (e_X0_freeStarts hY hC2 hW2 (by simp [sI_I]; omega) (by omega)) (kQL fun v29 hq29 => ?_)
        obtain ⟨Y, rfl, hYl, hYb⟩ := hq29
        have hYl2 : Y < 2 ^ te.toNat := by simpa [sI_I] using hYl
        have hY60 : Y < 2 ^ 60 := Nat.lt_of_lt_of_le hYl2 (Nat.pow_le_pow_right (by decide) (by omega))
        refine g_lst4 dX0_startFirst_32 (by decide) rfl (g_aload_n dX0_startFirst_34 rfl rfl (g_lload dX0_startFirst_35 rfl ?_))
        refine cv_X0_134 (M := mX0_startFirst) rfl dX0_startFirst_37 (RO.same _ _ _) (Nat.le_of_ble_eq_true rfl) (e_X8_lowestBit (X := Y) hY60) (kQI fun v37 hq37 => ?_)
        have hfr : ∀ s : Int, FrA (cFs (h.sI 82 0 te) 12) ((h.sI 82 0 te).I 12 3) f (c5 (h.sI 82 0 te) 82) s ↔ FrA (cFs h 12) (h.I 12 3) f (cutF (c5 h 82) te 0) s := by
          intro s
          have e3 : (h.sI 82 0 te).I 12 3 = h.I 12 3 := by simp [sI_I]
          rw [e3]
          have e4 : ∀ g : Int, 0 ≤ g → g < h.I 12 3 → cFs (h.sI 82 0 te) 12 g.toNat = cFs h 12 g.toNat := by
            intro g g0 g1; have := hC.1; rw [hFs]; simp only [if_neg (show ¬ (12 + 4 + g.toNat = 82) by omega)]; rfl
          have e5 : stF (c5 (h.sI 82 0 te) 82) s = stF (cutF (c5 h 82) te 0) s := by simp [stF, cutF, c5, sI_I, Fg.te, Fg.dr, Fg.la, Fg.ga]
          have e6 : (c5 (h.sI 82 0 te) 82).dr = (cutF (c5 h 82) te 0).dr := by simp [cutF, c5, sI_I, Fg.dr]
          unfold FrA
          constructor
          · intro q g g0 g1 g2 g3; have := q g g0 g1 g2 (by rw [e4 g g0 g1, e6]; exact g3); rw [e4 g g0 g1, e5] at this; exact this
          · intro q g g0 g1 g2 g3; rw [e4 g g0 g1, e5]; exact q g g0 g1 g2 (by rw [e4 g g0 g1, e6] at g3; exact g3)
        have hlow := low_fr (F := cFs h 12) (nf := h.I 12 3) (f := f) (T := cutF (c5 h 82) te 0) (X := Y) (by show 2 ≤ te ∧ te ≤ 60; omega) hYl2 (fun s => by have := hYb s; rw [hfr, e0] at this; exact this) hq37
        have hlv : 0 ≤ v37 ∧ v37 < te := hlow.1
        refine pf_X0_98 (M := mX0_startFirst) rfl dX0_startFirst_40 (yo82 hY) (g_lload dX0_startFirst_43 rfl (g_lconst (v := 0) dX0_startFirst_45 rfl ?_))
        refine g_lcmp_eq 54 dX0_startFirst_46 dX0_startFirst_47 rfl (by omega) (by omega) (fun c46 => ?_) (fun c46 => ?_)
        · skip
          refine g_iconst dX0_startFirst_54 ?_
          exact g_zret dX0_startFirst_55 rfl rfl ⟨Nat.le_refl _, Nat.le_refl _⟩ (by omega) (by first | exact ⟨0, rfl, Or.inr ⟨by omega, v37, hlv, wr_ts h 82 te v37, Or.inr ⟨rfl, hlow.2.elim (fun q => q.2) (fun q => absurd (by omega) q.1)⟩⟩⟩ | exact ⟨1, rfl, Or.inr ⟨by omega, v37, hlv, wr_ts h 82 te v37, Or.inl ⟨rfl, hlow.2.elim (fun q => absurd (by omega) c46) (fun q => q.2)⟩⟩⟩)
        · skip
          refine g_iconst dX0_startFirst_50 (g_goto 55 dX0_startFirst_51 rfl ?_)
          exact g_zret dX0_startFirst_55 rfl rfl ⟨Nat.le_refl _, Nat.le_refl _⟩ (by omega) (by first | exact ⟨0, rfl, Or.inr ⟨by omega, v37, hlv, wr_ts h 82 te v37, Or.inr ⟨rfl, hlow.2.elim (fun q => q.2) (fun q => absurd (by omega) q.1)⟩⟩⟩ | exact ⟨1, rfl, Or.inr ⟨by omega, v37, hlv, wr_ts h 82 te v37, Or.inl ⟨rfl, hlow.2.elim (fun q => absurd (by omega) c46) (fun q => q.2)⟩⟩⟩)
      · skip
        refine g_iconst dX0_startFirst_19 ?_
        exact g_zret dX0_startFirst_20 rfl rfl ⟨Nat.le_refl _, Nat.le_refl _⟩ (by omega) (by exact ⟨0, rfl, Or.inl ⟨by omega, rfl, rfl⟩⟩)
/-- the n-th number of teeth that is tried -/
def teAt (te0 : Int) (n : Nat) : Int := if n % 2 = 0 then te0 - (n / 2 : Nat) else te0 + (n / 2 : Nat)
def TeOK (F : Fg) (te : Int) : Prop := 2 ≤ te ∧ te ≤ 60 ∧ F.ga < te
/-- he can't be cut with one of the first n -/
def NoCut (F : Nat → Fg) (nf f : Int) (n : Nat) : Prop := ∀ k, k < n → TeOK (F f.toNat) (teAt (F f.toNat).te k) → NoFr F nf f (cutF (F f.toNat) (teAt (F f.toNat).te k) 0)
def CutAt (F : Nat → Fg) (nf f : Int) (n : Nat) (s : Int) : Prop := NoCut F nf f n ∧ TeOK (F f.toNat) (teAt (F f.toNat).te n) ∧ LeastFr F nf f (cutF (F f.toNat) (teAt (F f.toNat).te n) 0) s
theorem NoCut.next {F : Nat → Fg} {nf f : Int} {n : Nat} (h : NoCut F nf f n) (h2 : TeOK (F f.toNat) (teAt (F f.toNat).te n) → NoFr F nf f (cutF (F f.toNat) (teAt (F f.toNat).te n) 0)) : NoCut F nf f (n + 1) := by
  intro k hk
  rcases (by omega : k < n ∨ k = n) with z | rfl
  · exact h k z
  · exact h2
theorem teAt_e (te0 : Int) {ch : Int} (h : 0 ≤ ch) : teAt te0 (2 * ch.toNat) = te0 - ch ∧ teAt te0 (2 * ch.toNat + 1) = te0 + ch := by
  unfold teAt
  rw [if_pos (by omega), if_neg (by omega)]
  constructor <;> omega
/-- the figures don't change, whatever the trial is -/
theorem cFs_tr (h : HM) (T : Fg) {i : Int} (hi : 0 ≤ i ∧ i < 6) : cFs (wr5 h 82 T) 12 i.toNat = cFs h 12 i.toNat := c5_wr5n h T (by omega)
theorem FrA_tr (h : HM) (T U : Fg) {nf f s : Int} (hn : nf ≤ 6) : FrA (cFs (wr5 h 82 T) 12) nf f U s ↔ FrA (cFs h 12) nf f U s := by
  unfold FrA
  constructor
  · intro q g g0 g1 g2 g3; have := q g g0 g1 g2; rw [cFs_tr h T (by omega)] at this; exact this g3
  · intro q g g0 g1 g2 g3; rw [cFs_tr h T (by omega)] at g3 ⊢; exact q g g0 g1 g2 g3
theorem CF_tr {h : HM} (T : Fg) (hC : CF h 12) : CF (wr5 h 82 T) 12 := CF_eq (wr5_I h 82 T 12 3 (Or.inl (by decide))) (fun i i0 i1 j => wr5_I h 82 T _ j (Or.inl (by have := hC.1; omega))) hC
set_option maxRecDepth 100000 in
set_option maxHeartbeats 4000000 in
theorem e_X0_cutInto {G : GX} {y : LY} {h : HM} {d : Nat} (hY : Lay y) {f : Int} (hC : CF h 12) (hf : 0 ≤ f ∧ f < h.I 12 3) : EvQX G mX0_cutInto (d + 5) [.ref 12, .int (iZ f), .ref 82] y h (fun v h1 => (v = 0 ∧ NoCut (cFs h 12) (h.I 12 3) f 118 ∧ ∃ T : Fg, h1 = wr5 h 82 T) ∨ (v = 1 ∧ ∃ (n : Nat) (s : Int), n < 118 ∧ CutAt (cFs h 12) (h.I 12 3) f n s ∧ h1 = wr5 h 82 (cutF (c5 h (12 + 4 + f.toNat)) (teAt (h.I (12 + 4 + f.toNat) 0) n) s))) := by
  have hFf := hC.2 f hf.1 hf.2
  have hnf := hC.1
  have t3 : ∀ tt ss : Int, (wr5 h 82 (cutF (c5 h (12 + 4 + f.toNat)) tt ss)).I 82 3 = h.I (12 + 4 + f.toNat) 3 := fun tt ss => by simp [wr5, cutF, c5, sI_I, Fg.la, Fg.dr, Fg.ga]
  have t4 : ∀ tt ss : Int, (wr5 h 82 (cutF (c5 h (12 + 4 + f.toNat)) tt ss)).I 82 4 = h.I (12 + 4 + f.toNat) 4 := fun tt ss => by simp [wr5, cutF, c5, sI_I, Fg.la, Fg.dr, Fg.ga]
  have t2 : ∀ tt ss : Int, (wr5 h 82 (cutF (c5 h (12 + 4 + f.toNat)) tt ss)).I 82 2 = h.I (12 + 4 + f.toNat) 2 := fun tt ss => by simp [wr5, cutF, c5, sI_I, Fg.la, Fg.dr, Fg.ga]
  have tc : ∀ (tt ss te s : Int), wr5 (wr5 h 82 (cutF (c5 h (12 + 4 + f.toNat)) tt ss)) 82 (cutF (c5 (wr5 h 82 (cutF (c5 h (12 + 4 + f.toNat)) tt ss)) 82) te s) = wr5 h 82 (cutF (c5 h (12 + 4 + f.toNat)) te s) := fun tt ss te s => by rw [wr_wr, c5_wr5]; rfl
  have tn : ∀ tt ss : Int, (wr5 h 82 (cutF (c5 h (12 + 4 + f.toNat)) tt ss)).I 12 3 = h.I 12 3 := fun tt ss => wr5_I h 82 _ 12 3 (Or.inl (by decide))
  have tN : ∀ tt ss te : Int, NoFr (cFs (wr5 h 82 (cutF (c5 h (12 + 4 + f.toNat)) tt ss)) 12) ((wr5 h 82 (cutF (c5 h (12 + 4 + f.toNat)) tt ss)).I 12 3) f (cutF (c5 (wr5 h 82 (cutF (c5 h (12 + 4 + f.toNat)) tt ss)) 82) te 0) ↔ NoFr (cFs h 12) (h.I 12 3) f (cutF (c5 h (12 + 4 + f.toNat)) te 0) := by
    intro tt ss te; rw [tn, c5_wr5]; unfold NoFr
    exact ⟨fun q s s0 s1 z => q s s0 s1 ((FrA_tr h _ _ hnf.2).mpr z), fun q s s0 s1 z => q s s0 s1 ((FrA_tr h _ _ hnf.2).mp z)⟩
  have tL : ∀ tt ss te s : Int, LeastFr (cFs (wr5 h 82 (cutF (c5 h (12 + 4 + f.toNat)) tt ss)) 12) ((wr5 h 82 (cutF (c5 h (12 + 4 + f.toNat)) tt ss)).I 12 3) f (cutF (c5 (wr5 h 82 (cutF (c5 h (12 + 4 + f.toNat)) tt ss)) 82) te 0) s → LeastFr (cFs h 12) (h.I 12 3) f (cutF (c5 h (12 + 4 + f.toNat)) te 0) s := by
    intro tt ss te s; rw [tn, c5_wr5]
    rintro ⟨q0, q1, q2, q3⟩
    exact ⟨q0, q1, (FrA_tr h _ _ hnf.2).mp q2, fun s2 z0 z1 z => q3 s2 z0 z1 ((FrA_tr h _ _ hnf.2).mpr z)⟩
  refine Ev.of rfl [some (.ref 12), some (.int (iZ f)), some (.ref 82), none, none] rfl (Nat.le_of_ble_eq_true rfl) ?_
  have L18 : ∀ (m : Nat) (ch tt ss : Int), m = (59 - ch).toNat → 0 ≤ ch ∧ ch ≤ 59 → NoCut (cFs h 12) (h.I 12 3) f (2 * ch.toNat) → Go G mX0_cutInto (rmo (d + 5) 0 0) (ZM G y 0 0 (fun r h1 => ∃ v : Int, r = some (.int (iZ v)) ∧ (fun v h1 => (v = 0 ∧ NoCut (cFs h 12) (h.I 12 3) f 118 ∧ ∃ T : Fg, h1 = wr5 h 82 T) ∨ (v = 1 ∧ ∃ (n : Nat) (s : Int), n < 118 ∧ CutAt (cFs h 12) (h.I 12 3) f n s ∧ h1 = wr5 h 82 (cutF (c5 h (12 + 4 + f.toNat)) (teAt (h.I (12 + 4 + f.toNat) 0) n) s))) v h1)) y 18 [some (.ref 12), some (.int (iZ f)), some (.ref 82), some (.int (iZ (h.I (12 + 4 + f.toNat) 0))), some (.int (iZ ch))] [] (wr5 h 82 (cutF (c5 h (12 + 4 + f.toNat)) tt ss)) (0, 0) := by
    intro m
    induction m using Nat.strongRecOn with | _ m ih =>
    intro ch tt ss hm hch hno
    have hte := teAt_e (h.I (12 + 4 + f.toNat) 0) hch.1
    refine g_iload dX0_cutInto_18 rfl (g_bipush dX0_cutInto_20 kb58 ?_)
    refine g_icmp_gt 59 dX0_cutInto_22 rfl (by omega) (by omega) (fun c22 => ?_) (fun c22 => ?_)
    · skip
      refine g_iconst dX0_cutInto_59 ?_
      exact g_zret dX0_cutInto_60 rfl rfl ⟨Nat.le_refl _, Nat.le_refl _⟩ (by omega) (by exact ⟨0, rfl, Or.inl ⟨rfl, by rw [show 2 * ch.toNat = 118 by omega] at hno; exact hno, _, rfl⟩⟩)
    · skip
      refine g_aload_n dX0_cutInto_25 rfl rfl (g_iload_n dX0_cutInto_26 rfl rfl (g_aload_n dX0_cutInto_27 rfl rfl (g_iload_n dX0_cutInto_28 rfl rfl (g_iload dX0_cutInto_29 rfl (g_isub dX0_cutInto_31 ?_)))))
      refine cv_X0_126 (M := mX0_cutInto) rfl dX0_cutInto_32 (ck_o hY clk12) (RO.same _ _ _) (Nat.le_of_ble_eq_true rfl) (e_X0_startFirst hY (CF_tr _ hC) (by rw [t3, t4]; omega) (by rw [t2]; omega) (by omega) (by omega)) (kQX fun v32 h32 hq32 => ?_)
      rw [t4] at hq32
      have hv32 : v32 = 0 ∨ v32 = 1 := by rcases hq32 with q | ⟨q, s, q1, q2, q3 | q3⟩ <;> omega
      refine g_if_ne 51 dX0_cutInto_35 rfl (by omega) (fun c35 => ?_) (fun c35 => ?_)
      · skip
        refine g_iconst dX0_cutInto_51 ?_
        exact g_zret dX0_cutInto_52 rfl rfl ⟨Nat.le_refl _, Nat.le_refl _⟩ (by omega) (by first | (rcases hq32 with ⟨q1, q2, q3⟩ | ⟨q1, s, q2, q3, ⟨q4, q5⟩ | ⟨q4, q5⟩⟩; omega; exact ⟨1, rfl, Or.inr ⟨rfl, 2 * ch.toNat, s, by omega, ⟨hno, (by rw [show (cFs h 12 f.toNat).te = h.I (12 + 4 + f.toNat) 0 from rfl, hte.1]; exact q1), (by have := tL _ _ _ _ q5; rw [← hte.1] at this; exact this)⟩, by rw [hte.1]; exact q3.trans (tc _ _ _ _)⟩⟩; omega) | (rcases hq45 with ⟨q1, q2, q3⟩ | ⟨q1, s, q2, q3, ⟨q4, q5⟩ | ⟨q4, q5⟩⟩; omega; exact ⟨1, rfl, Or.inr ⟨rfl, 2 * ch.toNat + 1, s, by omega, ⟨n32, (by rw [show (cFs h 12 f.toNat).te = h.I (12 + 4 + f.toNat) 0 from rfl, hte.2]; exact q1), (by have := tL _ _ _ _ q5; rw [← hte.2] at this; exact this)⟩, by rw [hte.2]; exact q3.trans (tc _ _ _ _)⟩⟩; omega))
      · skip
        obtain ⟨tt2, ss2, e32, n32⟩ : ∃ tt2 ss2 : Int, h32 = wr5 h 82 (cutF (c5 h (12 + 4 + f.toNat)) tt2 ss2) ∧ NoCut (cFs h 12) (h.I 12 3) f (2 * ch.toNat + 1) := by
          rcases hq32 with ⟨q1, q2, q3⟩ | ⟨q1, s, q2, q3, ⟨q4, q5⟩ | ⟨q4, q5⟩⟩
          · exact ⟨tt, ss, q3, hno.next (fun z => absurd (show 2 ≤ h.I (12 + 4 + f.toNat) 0 - ch ∧ h.I (12 + 4 + f.toNat) 0 - ch ≤ 60 ∧ h.I (12 + 4 + f.toNat) 4 < h.I (12 + 4 + f.toNat) 0 - ch by rw [← hte.1]; exact z) q1)⟩
          · omega
          · exact ⟨_, s, q3.trans (tc _ _ _ _), hno.next (fun _ => by have := (tN _ _ _).mp q5; rw [← hte.1] at this; exact this)⟩
        subst e32
        refine g_aload_n dX0_cutInto_38 rfl rfl (g_iload_n dX0_cutInto_39 rfl rfl (g_aload_n dX0_cutInto_40 rfl rfl (g_iload_n dX0_cutInto_41 rfl rfl (g_iload dX0_cutInto_42 rfl (g_iadd dX0_cutInto_44 ?_)))))
        refine cv_X0_126 (M := mX0_cutInto) rfl dX0_cutInto_45 (ck_o hY clk12) (RO.same _ _ _) (Nat.le_of_ble_eq_true rfl) (e_X0_startFirst hY (CF_tr _ hC) (by rw [t3, t4]; omega) (by rw [t2]; omega) (by omega) (by omega)) (kQX fun v45 h45 hq45 => ?_)
        rw [t4] at hq45
        have hv45 : v45 = 0 ∨ v45 = 1 := by rcases hq45 with q | ⟨q, s, q1, q2, q3 | q3⟩ <;> omega
        refine g_if_eq 53 dX0_cutInto_48 rfl (by omega) (fun c48 => ?_) (fun c48 => ?_)
        · skip
          obtain ⟨tt3, ss3, e45, n45⟩ : ∃ tt3 ss3 : Int, h45 = wr5 h 82 (cutF (c5 h (12 + 4 + f.toNat)) tt3 ss3) ∧ NoCut (cFs h 12) (h.I 12 3) f (2 * ch.toNat + 1 + 1) := by
            rcases hq45 with ⟨q1, q2, q3⟩ | ⟨q1, s, q2, q3, ⟨q4, q5⟩ | ⟨q4, q5⟩⟩
            · exact ⟨tt2, ss2, q3, n32.next (fun z => absurd (show 2 ≤ h.I (12 + 4 + f.toNat) 0 + ch ∧ h.I (12 + 4 + f.toNat) 0 + ch ≤ 60 ∧ h.I (12 + 4 + f.toNat) 4 < h.I (12 + 4 + f.toNat) 0 + ch by rw [← hte.2]; exact z) q1)⟩
            · omega
            · exact ⟨_, s, q3.trans (tc _ _ _ _), n32.next (fun _ => by have := (tN _ _ _).mp q5; rw [← hte.2] at this; exact this)⟩
          subst e45
          clear hq45 hq32
          refine g_inc4 dX0_cutInto_53 (by decide) rfl (g_goto 18 dX0_cutInto_56 rfl ?_)
          refine ih _ (by omega) (ch + 1) tt3 ss3 rfl (by omega) ?_
          rw [show 2 * (ch + 1).toNat = 2 * ch.toNat + 1 + 1 by omega]
          exact n45
        · skip
          refine g_iconst dX0_cutInto_51 ?_
          exact g_zret dX0_cutInto_52 rfl rfl ⟨Nat.le_refl _, Nat.le_refl _⟩ (by omega) (by first | (rcases hq32 with ⟨q1, q2, q3⟩ | ⟨q1, s, q2, q3, ⟨q4, q5⟩ | ⟨q4, q5⟩⟩; omega; exact ⟨1, rfl, Or.inr ⟨rfl, 2 * ch.toNat, s, by omega, ⟨hno, (by rw [show (cFs h 12 f.toNat).te = h.I (12 + 4 + f.toNat) 0 from rfl, hte.1]; exact q1), (by have := tL _ _ _ _ q5; rw [← hte.1] at this; exact this)⟩, by rw [hte.1]; exact q3.trans (tc _ _ _ _)⟩⟩; omega) | (rcases hq45 with ⟨q1, q2, q3⟩ | ⟨q1, s, q2, q3, ⟨q4, q5⟩ | ⟨q4, q5⟩⟩; omega; exact ⟨1, rfl, Or.inr ⟨rfl, 2 * ch.toNat + 1, s, by omega, ⟨n32, (by rw [show (cFs h 12 f.toNat).te = h.I (12 + 4 + f.toNat) 0 from rfl, hte.2]; exact q1), (by have := tL _ _ _ _ q5; rw [← hte.2] at this; exact this)⟩, by rw [hte.2]; exact q3.trans (tc _ _ _ _)⟩⟩; omega))
  refine g_aload_n dX0_cutInto_0 rfl rfl (g_aload_n dX0_cutInto_1 rfl rfl (gf_X0_11 (M := mX0_cutInto) rfl dX0_cutInto_2 (ck_o hY clk12) (ck_r0 hY clk12) (g_iload_n dX0_cutInto_5 rfl rfl (g_aald dX0_cutInto_6 (ck_a0 hY clk12) (by decide) (D0 := "ClockTeeth$Figure") rfl ⟨by omega, by omega, by omega⟩ (ck_fr hY clk12 (by omega)) (cv_X0_61 (M := mX0_cutInto) rfl dX0_cutInto_7 (yo82 hY) (RO.same _ _ _) (Nat.le_of_ble_eq_true rfl) (e_X1_become (yo82 hY) (ck_fo hY clk12 (by omega))) <| kV (g_aload_n dX0_cutInto_10 rfl rfl (gf_X0_97 (M := mX0_cutInto) rfl dX0_cutInto_11 (yo82 hY) ?_)))))))
  have e14 : (wr5 h 82 (c5 h (12 + 4 + f.toNat))).I 82 0 = h.I (12 + 4 + f.toNat) 0 := by simp [wr5, c5, sI_I]
  rw [e14]
  have e15 : c5 h (12 + 4 + f.toNat) = cutF (c5 h (12 + 4 + f.toNat)) (h.I (12 + 4 + f.toNat) 0) (h.I (12 + 4 + f.toNat) 1) := rfl
  refine g_h (congrArg (wr5 h 82) e15) ?_
  refine g_ist3 dX0_cutInto_14 (by decide) rfl (g_iconst dX0_cutInto_15 (g_ist4 dX0_cutInto_16 (by decide) rfl ?_))
  exact L18 _ 0 _ _ rfl (by omega) (fun k hk => absurd hk (by omega))
