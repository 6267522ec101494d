/-! does what was seen fit, in the reference -/
def FitS (S : Nat → Sg) (n : Int) (X : Fg) (f : Int) : Prop := ∀ s : Int, 0 ≤ s → s < n → (S s.toNat).1 = f → pI (OutF X (S s.toNat).2.1) = (S s.toNat).2.2
def PlS (S : Nat → Sg) (n f te c : Int) : Prop := ∀ s : Int, 0 ≤ s → s < n → (S s.toNat).1 = f → pI ((S s.toNat).2.1 % te = c) = (S s.toNat).2.2
def cSs (h : HM) (c : Nat) : Nat → Sg := fun i => (h.I (c + 16 + i) 0, h.I (c + 16 + i) 1, h.I (c + 16 + i) 2)
theorem FitS_c (h : HM) (X : Fg) (f : Int) : FitS (cSs h 12) (h.I 12 5) X f ↔ FitF h 12 X f := Iff.rfl
theorem PlS_c (h : HM) (f : Int) : PlS (cSs h 12) (h.I 12 5) f = PlF h 12 f := rfl
def AlS (Q : Int → Prop) (n : Int) : Prop := ∀ s : Int, 0 ≤ s → s < n → Q s
theorem AlS.z (Q : Int → Prop) : pI (AlS Q 0) = 1 := pI_t (fun s a b => by omega)
theorem AlS.f {Q : Int → Prop} {n : Int} (z : pI (AlS Q n) = 0) : pI (AlS Q (n + 1)) = 0 := pI_f (fun w => pI_eq0.mp z (fun s a b => w s a (by omega)))
theorem AlS.nf {Q : Int → Prop} {n : Int} (n0 : 0 ≤ n) (w : ¬ Q n) : pI (AlS Q (n + 1)) = 0 := pI_f (fun z => w (z n n0 (by omega)))
theorem AlS.t {Q : Int → Prop} {n : Int} (z : ¬ pI (AlS Q n) = 0) (w : Q n) : pI (AlS Q (n + 1)) = 1 := pI_t (fun s a b => by
  rcases (by omega : s < n ∨ s = n) with q | rfl
  · exact pI_ne z s a q
  · exact w)
theorem FrR.rFg {h h1 : HM} {lo hi : Nat} (f : FrR h h1 lo hi) (q : 37 ≤ lo) {i : Int} (hi2 : 0 ≤ i ∧ i ≤ 5) {X : Fg} (hF : RFg h i X) : RFg h1 i X := by
  unfold RFg
  rw [f.2 151 _ (by omega), f.2 151 _ (by omega), f.2 151 _ (by omega), f.2 151 _ (by omega), f.2 151 _ (by omega), f.2 151 _ (by omega)]
  exact hF
theorem rfg_st {h : HM} {f : Int} {X : Fg} (hf : 0 ≤ f ∧ f ≤ 5) (hF : RFg h f X) (x : Int) : RFg (h.sI 151 (1 + 6 * f + 2).toNat x) f (stF X x) := by
  refine ⟨?_, ?_, ?_, ?_, ?_, ?_⟩
  · rw [sI_I, if_neg (by omega)]; exact hF.1
  · rw [sI_I, if_neg (by omega)]; exact hF.2.1
  · rw [sI_I, if_pos ⟨rfl, rfl⟩]; rfl
  · rw [sI_I, if_neg (by omega)]; exact hF.2.2.2.1
  · rw [sI_I, if_neg (by omega)]; exact hF.2.2.2.2.1
  · rw [sI_I, if_neg (by omega)]; exact hF.2.2.2.2.2
theorem fr_st (h : HM) {f : Int} (hf : 0 ≤ f ∧ f ≤ 5) (x : Int) : FrR h (h.sI 151 (1 + 6 * f + 2).toNat x) 1 37 := (FrR.rf h 1 37).s (by omega) x
theorem sI_back (h : HM) (a k : Nat) (x : Int) {v : Int} (hv : h.I a k = v) : (h.sI a k x).sI a k v = h := by
  refine Prod.ext ?_ rfl
  funext b j
  show (if b = a ∧ j = k then v else if b = a ∧ j = k then x else h.1 b j) = h.1 b j
  by_cases q : b = a ∧ j = k
  · rw [if_pos q, q.1, q.2]; exact hv.symm
  · rw [if_neg q, if_neg q]
theorem nx_m {X : Fg} (hB : FgB X) : stF X ((X.st + 1) % X.te) = nxF X := by
  unfold nxF
  by_cases q : X.st + 1 < X.te
  · rw [if_pos q, Int.emod_eq_of_lt (by omega) q]
  · rw [if_neg q, show X.st + 1 = X.te by omega, Int.emod_self]
theorem nx_B {X : Fg} (hB : FgB X) : FgB (stF X ((X.st + 1) % X.te)) := ⟨hB.1, (em_bd _ (by omega)).1, (em_bd _ (by omega)).2, hB.2.2.2.1, hB.2.2.2.2⟩
/-- the wheels looked at so far -/
def WhI (P : Int → Int → Prop) (te s n a b : Int) : Prop := n = cwT P (te - 2).toNat + cntN (P te) 0 s.toNat ∧ ((n = 0 ∧ a = -4 ∧ b = -4 ∧ NoW P te ∧ ∀ s2 : Int, 0 ≤ s2 → s2 < s → ¬ P te s2) ∨ (0 < n ∧ FstW P a b))
theorem WhI.bd {P : Int → Int → Prop} {te s n a b : Int} (h : WhI P te s n a b) (ht : 2 ≤ te ∧ te ≤ 61) (hs : 0 ≤ s ∧ s ≤ 61) : (0 ≤ n ∧ n ≤ 7000) ∧ (-4 ≤ a ∧ a ≤ 60) ∧ (-4 ≤ b ∧ b ≤ 60) := by
  have h1 := cwT_bd P (te - 2).toNat (by omega)
  have h2 := cntN_bd (P := P te) (lo := 0) s.toNat
  refine ⟨by have := h.1; omega, ?_⟩
  rcases h.2 with z | ⟨_, z⟩
  · omega
  · have := z.2.2.1; have := z.2.2.2.1; omega
theorem WhI.z (P : Int → Int → Prop) : WhI P 2 0 0 (-4) (-4) := ⟨rfl, Or.inl ⟨rfl, rfl, rfl, fun te s a b => by omega, fun s a b => by omega⟩⟩
theorem cnt_s {P : Int → Prop} {s : Int} (hs : 0 ≤ s) : cntN P 0 (s + 1).toNat = cntN P 0 s.toNat + pI (P s) := by
  rw [show (s + 1).toNat = s.toNat + 1 by omega, cntN, show (0 : Int) + (s.toNat : Int) = s by omega]
theorem WhI.y0 {P : Int → Int → Prop} {te s n a b : Int} (h : WhI P te s n a b) (hn : n = 0) (ht : 2 ≤ te ∧ te ≤ 60) (hs : 0 ≤ s ∧ s < te) (p : P te s) : WhI P te (s + 1) (n + 1) te s := by
  refine ⟨by rw [cnt_s hs.1, pI_t p]; have := h.1; omega, Or.inr ⟨by omega, ?_⟩⟩
  rcases h.2 with z | z
  · exact ⟨z.2.2.2.1, p, ht, hs, z.2.2.2.2⟩
  · omega
theorem WhI.y1 {P : Int → Int → Prop} {te s n a b : Int} (h : WhI P te s n a b) (hn : ¬ n = 0) (hs : 0 ≤ s) (p : P te s) : WhI P te (s + 1) (n + 1) a b := by
  refine ⟨by rw [cnt_s hs, pI_t p]; have := h.1; omega, Or.inr ?_⟩
  rcases h.2 with z | z
  · exact absurd z.1 hn
  · exact ⟨by omega, z.2⟩
theorem WhI.n {P : Int → Int → Prop} {te s n a b : Int} (h : WhI P te s n a b) (hs : 0 ≤ s) (p : ¬ P te s) : WhI P te (s + 1) n a b := by
  refine ⟨by rw [cnt_s hs, pI_f p]; have := h.1; omega, ?_⟩
  rcases h.2 with ⟨z1, z2, z3, z4, z5⟩ | z
  · refine Or.inl ⟨z1, z2, z3, z4, fun s2 a b => ?_⟩
    rcases (by omega : s2 < s ∨ s2 = s) with q | rfl
    · exact z5 s2 a q
    · exact p
  · exact Or.inr z
theorem WhI.nx {P : Int → Int → Prop} {te n a b : Int} (h : WhI P te te n a b) (ht : 2 ≤ te) : WhI P (te + 1) 0 n a b := by
  constructor
  · rw [show (te + 1 - 2).toNat = (te - 2).toNat + 1 by omega, cwT, show (((te - 2).toNat : Nat) : Int) + 2 = te by omega, show (te - 2).toNat + 2 = te.toNat by omega, show (0 : Int).toNat = 0 from rfl, show cntN (P (te + 1)) 0 0 = 0 from rfl, Int.add_zero]
    exact h.1
  · rcases h.2 with ⟨z1, z2, z3, z4, z5⟩ | z
    · refine Or.inl ⟨z1, z2, z3, fun t2 s a b c d => ?_, fun s a b => by omega⟩
      rcases (by omega : t2 < te ∨ t2 = te) with q | rfl
      · exact z4 t2 s a q c d
      · exact z5 s c d
    · exact Or.inr z
theorem WhI.e {P : Int → Int → Prop} {n a b w v : Int} (h : WhI P 61 0 n a b) (hw : (w = 0 ∧ v = n) ∨ (w = 1 ∧ v = a) ∨ (w = 2 ∧ v = b)) : WhP P w v := by
  have h1 := h.1
  rw [show (61 - 2 : Int).toNat = 59 from rfl, show (0 : Int).toNat = 0 from rfl, show cntN (P 61) 0 0 = 0 from rfl, Int.add_zero] at h1
  rcases hw with ⟨q, rfl⟩ | ⟨q, rfl⟩ | ⟨q, rfl⟩
  · exact Or.inl ⟨q, h1⟩
  · refine Or.inr ⟨Or.inl q, ?_⟩
    rcases h.2 with z | ⟨_, z⟩
    · exact Or.inl ⟨z.2.2.2.1, z.2.1⟩
    · exact Or.inr ⟨_, _, z, by rw [if_pos q]⟩
  · refine Or.inr ⟨Or.inr q, ?_⟩
    rcases h.2 with z | ⟨_, z⟩
    · exact Or.inl ⟨z.2.2.2.1, z.2.2.1⟩
    · exact Or.inr ⟨_, _, z, by rw [if_neg (by omega)]⟩
/-- the kinds tried -/
def WnG (h h1 : HM) (f : Int) (X : Fg) (l : Int) : Prop := h1.L = h.L ∧ (∀ a j : Nat, (a ≠ 151 ∨ (j ≠ (1 + 6 * f + 0).toNat ∧ j ≠ (1 + 6 * f + 4).toNat)) → h1.I a j = h.I a j) ∧ RFg h1 f (laF X l)
theorem WnG.s {h h1 : HM} {f l : Int} {X : Fg} (hf : 0 ≤ f ∧ f ≤ 5) (g : WnG h h1 f X l) {k a b : Int} (ha : a = kdR (laF X k)) (hb : b = laR (laF X k)) : WnG h ((h1.sI 151 (1 + 6 * f + 0).toNat a).sI 151 (1 + 6 * f + 4).toNat b) f X k := by
  refine ⟨g.1, fun x j q => ?_, ?_, ?_, ?_, ?_, ?_, ?_⟩
  · rw [sI_I, if_neg (by omega), sI_I, if_neg (by omega)]; exact g.2.1 x j q
  · rw [sI_I, if_neg (by omega), sI_I, if_pos ⟨rfl, rfl⟩]; exact ha
  · rw [sI_I, if_neg (by omega), sI_I, if_neg (by omega)]; exact g.2.2.2.1
  · rw [sI_I, if_neg (by omega), sI_I, if_neg (by omega)]; exact g.2.2.2.2.1
  · rw [sI_I, if_neg (by omega), sI_I, if_neg (by omega)]; exact g.2.2.2.2.2.1
  · rw [sI_I, if_pos ⟨rfl, rfl⟩]; exact hb
  · rw [sI_I, if_neg (by omega), sI_I, if_neg (by omega)]; exact g.2.2.2.2.2.2.2
theorem WnG.fr {h h1 : HM} {f l : Int} {X : Fg} (hf : 0 ≤ f ∧ f ≤ 5) (g : WnG h h1 f X l) : FrR h h1 1 37 := ⟨g.1, fun a j q => g.2.1 a j (by omega)⟩
theorem WnG.bk {h h1 : HM} {f l : Int} {X : Fg} (hf : 0 ≤ f ∧ f ≤ 5) (hF : RFg h f X) (g : WnG h h1 f X l) : (h1.sI 151 (1 + 6 * f + 0).toNat (kdR X)).sI 151 (1 + 6 * f + 4).toNat (laR X) = h := by
  refine Prod.ext ?_ g.1
  funext b j
  show ((h1.sI 151 (1 + 6 * f + 0).toNat (kdR X)).sI 151 (1 + 6 * f + 4).toNat (laR X)).I b j = h.I b j
  rw [sI_I]
  by_cases q : b = 151 ∧ j = (1 + 6 * f + 4).toNat
  · rw [if_pos q, q.1, q.2]; exact hF.2.2.2.2.1.symm
  · rw [if_neg q, sI_I]
    by_cases q2 : b = 151 ∧ j = (1 + 6 * f + 0).toNat
    · rw [if_pos q2, q2.1, q2.2]; exact hF.1.symm
    · rw [if_neg q2]; exact g.2.1 b j (by omega)
theorem wo_pi {P : Int → Prop} {i : Nat} (hi : i ≤ 3) : iOr (wrn P i) (iShl (pI (P i)) i) = ((wrn P (i + 1) : Nat) : Int) := by
  have hb := wrn_bd (P := P) i
  have h4 : 2 ^ i ≤ 2 ^ 3 := Nat.pow_le_pow_right (by decide) hi
  by_cases q : P i
  · rw [pI_t q, wrn_t q, wo_or (by omega) (by omega), Int.toNat_natCast]
  · rw [pI_f q, wrn_f q]
    have e := iShlN (a := 0) (k := i) (by omega) (by omega)
    rw [Nat.zero_mul] at e
    rw [show (0 : Int) = ((0 : Nat) : Int) from rfl, e, iOrN (by omega) (by omega), Nat.or_zero]
theorem kd_la {X : Fg} (hW : FgW X) (i : Int) : (0 < i → kdR X / 2 * 2 + 1 = kdR (laF X i) ∧ i = laR (laF X i)) ∧ (¬ 0 < i → kdR X / 2 * 2 + 0 = kdR (laF X i) ∧ -4 = laR (laF X i)) := by
  unfold kdR laR kndF
  show (0 < i → ((if 0 < X.la then 1 else 0) + (if 0 < X.ga then 2 else 0)) / 2 * 2 + 1 = (if 0 < i then 1 else 0) + (if 0 < X.ga then 2 else 0) ∧ i = (if 0 < i then i else -4)) ∧ (¬ 0 < i → ((if 0 < X.la then 1 else 0) + (if 0 < X.ga then 2 else 0)) / 2 * 2 + 0 = (if 0 < i then 1 else 0) + (if 0 < X.ga then 2 else 0) ∧ -4 = (if 0 < i then i else -4))
  by_cases a : 0 < i <;> by_cases b : 0 < X.la <;> by_cases c : 0 < X.ga <;> simp [a, b, c]
set_option maxRecDepth 100000 in
set_option maxHeartbeats 1000000 in
theorem e_X9_isFit {G : GX} {y : LY} {h : HM} {d : Nat} (hY : Lay y) {f : Int} {X : Fg} (hf : 0 ≤ f ∧ f ≤ 5) (hF : RFg h f X) (hB : FgB X) {S : Nat → Sg} (hS : RS h S) : EvI G mX9_isFit (d + 4) [.ref 150, .int (iZ f)] y h (pI (FitS S (h.I 151 71) X f)) := by
  have hns := hS.1
  refine Ev.of rfl [some (.ref 150), some (.int (iZ f)), none, none, none] rfl (Nat.le_of_ble_eq_true rfl) ?_
  have L4 : ∀ (m : Nat) (s : Int), (m : Int) = (h.I 151 71) - s → 0 ≤ s ∧ s ≤ (h.I 151 71) → Go G mX9_isFit (rmo (d + 4) 0 0) (ZM G y 0 0 (fun r h1 => r = some (.int (iZ (pI (FitS S (h.I 151 71) X f)))) ∧ h1 = h)) y 4 [some (.ref 150), some (.int (iZ f)), some (.int (iZ (pI (AlS (fun s => (S s.toNat).1 = f → pI (OutF X (S s.toNat).2.1) = (S s.toNat).2.2) s)))), some (.int (iZ s)), none] [] h (0, 0) := by
    intro m
    induction m using Nat.strongRecOn with | _ m ih =>
    intro s hm hs
    have hp := pI_01 (AlS (fun s => (S s.toNat).1 = f → pI (OutF X (S s.toNat).2.1) = (S s.toNat).2.2) s)
    have hpo := pI_01 (OutF X (S s.toNat).2.1)
    refine g_iload_n dX9_isFit_4 rfl rfl (g_aload_n dX9_isFit_5 rfl rfl (gf_X9_7 (M := mX9_isFit) rfl dX9_isFit_6 (yo150 hY) (yr150_0 hY) (g_bipush dX9_isFit_9 kb71 (g_iaN 71 dX9_isFit_11 (ya151 hY) ⟨by decide, by decide, by decide⟩ rfl ?_))))
    refine g_icmp_ge 80 dX9_isFit_12 rfl (by omega) (by omega) (fun c12 => ?_) (fun c12 => ?_)
    · skip
      refine g_iload_n dX9_isFit_80 rfl rfl ?_
      exact g_zret dX9_isFit_81 rfl rfl ⟨Nat.le_refl _, Nat.le_refl _⟩ (by omega) (by obtain rfl : s = (h.I 151 71) := (by omega); exact ⟨rfl, rfl⟩)
    · skip
      have hSs := hS.2 s (by omega) (by omega)
      have hSb := hSs.2
      unfold RSg at hSs
      refine g_bipush dX9_isFit_15 kb72 (g_iconst dX9_isFit_17 (g_iload_n dX9_isFit_18 rfl rfl (g_imul dX9_isFit_19 (g_iadd dX9_isFit_20 (g_ist4 dX9_isFit_21 (by decide) rfl (g_iload_n dX9_isFit_23 rfl rfl ?_))))))
      refine g_if_eq 72 dX9_isFit_24 rfl (by omega) (fun c24 => ?_) (fun c24 => ?_)
      · skip
        refine g_iconst dX9_isFit_72 (g_ist2 dX9_isFit_73 (by decide) rfl (g_inc3 dX9_isFit_74 (by decide) rfl (g_goto 4 dX9_isFit_77 rfl (g_dr4 ?_))))
        have hx := ih (m - 1) (by omega) (s + 1) (by omega) (by omega)
        first | (rw [AlS.f (Q := (fun s => (S s.toNat).1 = f → pI (OutF X (S s.toNat).2.1) = (S s.toNat).2.2)) c24] at hx; exact hx) | (rw [AlS.t (Q := (fun s => (S s.toNat).1 = f → pI (OutF X (S s.toNat).2.1) = (S s.toNat).2.2)) c24 (fun z => absurd z (by omega))] at hx; exact hx) | (rw [AlS.t (Q := (fun s => (S s.toNat).1 = f → pI (OutF X (S s.toNat).2.1) = (S s.toNat).2.2)) c24 (fun _ => by omega)] at hx; exact hx) | (rw [AlS.nf (Q := (fun s => (S s.toNat).1 = f → pI (OutF X (S s.toNat).2.1) = (S s.toNat).2.2)) hs.1 (fun z => absurd (z (by omega)) (by omega))] at hx; exact hx)
      · skip
        refine g_aload_n dX9_isFit_27 rfl rfl (gf_X9_7 (M := mX9_isFit) rfl dX9_isFit_28 (yo150 hY) (yr150_0 hY) (g_iload dX9_isFit_31 rfl (g_iald dX9_isFit_33 (ya151 hY) ⟨by omega, by omega, by omega⟩ ?_)))
        rw [hSs.1.1]
        refine g_iload_n dX9_isFit_34 rfl rfl ?_
        refine g_icmp_ne 68 dX9_isFit_35 rfl (by omega) (by omega) (fun c35 => ?_) (fun c35 => ?_)
        · skip
          refine g_iconst dX9_isFit_68 (g_goto 73 dX9_isFit_69 rfl (g_ist2 dX9_isFit_73 (by decide) rfl (g_inc3 dX9_isFit_74 (by decide) rfl (g_goto 4 dX9_isFit_77 rfl (g_dr4 ?_)))))
          have hx := ih (m - 1) (by omega) (s + 1) (by omega) (by omega)
          first | (rw [AlS.f (Q := (fun s => (S s.toNat).1 = f → pI (OutF X (S s.toNat).2.1) = (S s.toNat).2.2)) c24] at hx; exact hx) | (rw [AlS.t (Q := (fun s => (S s.toNat).1 = f → pI (OutF X (S s.toNat).2.1) = (S s.toNat).2.2)) c24 (fun z => absurd z (by omega))] at hx; exact hx) | (rw [AlS.t (Q := (fun s => (S s.toNat).1 = f → pI (OutF X (S s.toNat).2.1) = (S s.toNat).2.2)) c24 (fun _ => by omega)] at hx; exact hx) | (rw [AlS.nf (Q := (fun s => (S s.toNat).1 = f → pI (OutF X (S s.toNat).2.1) = (S s.toNat).2.2)) hs.1 (fun z => absurd (z (by omega)) (by omega))] at hx; exact hx)
        · skip
          refine g_aload_n dX9_isFit_38 rfl rfl (g_iload_n dX9_isFit_39 rfl rfl (g_aload_n dX9_isFit_40 rfl rfl (gf_X9_7 (M := mX9_isFit) rfl dX9_isFit_41 (yo150 hY) (yr150_0 hY) (g_iload dX9_isFit_44 rfl (g_iconst dX9_isFit_46 (g_iadd dX9_isFit_47 (g_iald dX9_isFit_48 (ya151 hY) ⟨by omega, by omega, by omega⟩ ?_)))))))
          rw [hSs.1.2.1]
          refine g_i2l dX9_isFit_49 (by omega) (cv_X9_169 (M := mX9_isFit) rfl dX9_isFit_50 (yo150 hY) (RO.same _ _ _) (Nat.le_of_ble_eq_true rfl) (e_X9_isOut hY hf hF hB (by omega)) <| kI (cv_X9_173 (M := mX9_isFit) rfl dX9_isFit_53 (RO.same _ _ _) (Nat.le_of_ble_eq_true rfl) (e_X9_flag (by omega)) <| kI (g_aload_n dX9_isFit_56 rfl rfl (gf_X9_7 (M := mX9_isFit) rfl dX9_isFit_57 (yo150 hY) (yr150_0 hY) (g_iload dX9_isFit_60 rfl (g_iconst dX9_isFit_62 (g_iadd dX9_isFit_63 (g_iald dX9_isFit_64 (ya151 hY) ⟨by omega, by omega, by omega⟩ ?_))))))))
          rw [hSs.1.2.2]
          refine g_icmp_ne 72 dX9_isFit_65 rfl (by omega) (by omega) (fun c65 => ?_) (fun c65 => ?_)
          · skip
            refine g_iconst dX9_isFit_72 (g_ist2 dX9_isFit_73 (by decide) rfl (g_inc3 dX9_isFit_74 (by decide) rfl (g_goto 4 dX9_isFit_77 rfl (g_dr4 ?_))))
            have hx := ih (m - 1) (by omega) (s + 1) (by omega) (by omega)
            first | (rw [AlS.f (Q := (fun s => (S s.toNat).1 = f → pI (OutF X (S s.toNat).2.1) = (S s.toNat).2.2)) c24] at hx; exact hx) | (rw [AlS.t (Q := (fun s => (S s.toNat).1 = f → pI (OutF X (S s.toNat).2.1) = (S s.toNat).2.2)) c24 (fun z => absurd z (by omega))] at hx; exact hx) | (rw [AlS.t (Q := (fun s => (S s.toNat).1 = f → pI (OutF X (S s.toNat).2.1) = (S s.toNat).2.2)) c24 (fun _ => by omega)] at hx; exact hx) | (rw [AlS.nf (Q := (fun s => (S s.toNat).1 = f → pI (OutF X (S s.toNat).2.1) = (S s.toNat).2.2)) hs.1 (fun z => absurd (z (by omega)) (by omega))] at hx; exact hx)
          · skip
            refine g_iconst dX9_isFit_68 (g_goto 73 dX9_isFit_69 rfl (g_ist2 dX9_isFit_73 (by decide) rfl (g_inc3 dX9_isFit_74 (by decide) rfl (g_goto 4 dX9_isFit_77 rfl (g_dr4 ?_)))))
            have hx := ih (m - 1) (by omega) (s + 1) (by omega) (by omega)
            first | (rw [AlS.f (Q := (fun s => (S s.toNat).1 = f → pI (OutF X (S s.toNat).2.1) = (S s.toNat).2.2)) c24] at hx; exact hx) | (rw [AlS.t (Q := (fun s => (S s.toNat).1 = f → pI (OutF X (S s.toNat).2.1) = (S s.toNat).2.2)) c24 (fun z => absurd z (by omega))] at hx; exact hx) | (rw [AlS.t (Q := (fun s => (S s.toNat).1 = f → pI (OutF X (S s.toNat).2.1) = (S s.toNat).2.2)) c24 (fun _ => by omega)] at hx; exact hx) | (rw [AlS.nf (Q := (fun s => (S s.toNat).1 = f → pI (OutF X (S s.toNat).2.1) = (S s.toNat).2.2)) hs.1 (fun z => absurd (z (by omega)) (by omega))] at hx; exact hx)
  refine g_iconst dX9_isFit_0 (g_ist2 dX9_isFit_1 (by decide) rfl (g_iconst dX9_isFit_2 (g_ist3 dX9_isFit_3 (by decide) rfl ?_)))
  have hx := L4 (h.I 151 71).toNat 0 (by omega) (by omega)
  rw [AlS.z (fun s => (S s.toNat).1 = f → pI (OutF X (S s.toNat).2.1) = (S s.toNat).2.2)] at hx
  exact hx
set_option maxRecDepth 100000 in
set_option maxHeartbeats 1000000 in
theorem e_X9_error {G : GX} {y : LY} {h : HM} {d : Nat} (hY : Lay y) {F : Nat → Fg} (hR : RF h F) {S : Nat → Sg} (hS : RS h S) {f : Int} (hf : R32 f) : EvQI G mX9_error (d + 5) [.ref 150, .int (iZ f)] y h (fun v => (¬ (0 ≤ f ∧ f < (h.I 151 0)) ∧ v = -1) ∨ ((0 ≤ f ∧ f < (h.I 151 0)) ∧ v = errS (pI (FitS S (h.I 151 71) (F f.toNat) f)) (pI (FitS S (h.I 151 71) (nxF (F f.toNat)) f)))) := by
  have hnf := hR.1
  have hpf := pI_01 (0 ≤ f ∧ f < h.I 151 0)
  have hpe := pI_eq1 (P := 0 ≤ f ∧ f < h.I 151 0)
  have hp1 := pI_01 (FitS S (h.I 151 71) (F f.toNat) f)
  have hp2 := pI_01 (FitS S (h.I 151 71) (nxF (F f.toNat)) f)
  refine Ev.of rfl [some (.ref 150), some (.int (iZ f)), none, none, none] rfl (Nat.le_of_ble_eq_true rfl) ?_
  refine g_aload_n dX9_error_0 rfl rfl (g_iload_n dX9_error_1 rfl rfl (cv_X9_146 (M := mX9_error) rfl dX9_error_2 (yo150 hY) (RO.same _ _ _) (Nat.le_of_ble_eq_true rfl) (e_X9_isFigure hY (by omega) (by omega)) <| kI ?_))
  refine g_if_ne 10 dX9_error_5 rfl (by omega) (fun c5 => ?_) (fun c5 => ?_)
  · skip
    have hFf := hR.2 f (by omega) (by omega)
    have hfb : 0 ≤ f ∧ f ≤ 5 := by omega
    have hB := hFf.2
    have hem := em_bd ((F f.toNat).st + 1) (d := (F f.toNat).te) (by omega)
    refine g_aload_n dX9_error_10 rfl rfl (g_iload_n dX9_error_11 rfl rfl (cv_X9_307 (M := mX9_error) rfl dX9_error_12 (yo150 hY) (RO.same _ _ _) (Nat.le_of_ble_eq_true rfl) (e_X9_isFit hY hfb hFf.1 hFf.2 hS) <| kI (g_ist2 dX9_error_15 (by decide) rfl (g_aload_n dX9_error_16 rfl rfl (g_iload_n dX9_error_17 rfl rfl (g_iconst dX9_error_18 (cv_X9_143 (M := mX9_error) rfl dX9_error_19 (yo150 hY) (RO.same _ _ _) (Nat.le_of_ble_eq_true rfl) (e_of2 hY hfb hFf.1) <| kI (g_ist3 dX9_error_22 (by decide) rfl (g_aload_n dX9_error_23 rfl rfl (gf_X9_7 (M := mX9_error) rfl dX9_error_24 (yo150 hY) (yr150_0 hY) (g_iconst dX9_error_27 ?_)))))))))))
    refine g_bipush dX9_error_28 kb6 (g_iload_n dX9_error_30 rfl rfl (g_imul dX9_error_31 (g_iadd dX9_error_32 (g_iconst dX9_error_33 (g_iadd dX9_error_34 (g_iload_n dX9_error_35 rfl rfl (g_iconst dX9_error_36 (g_iadd dX9_error_37 (g_aload_n dX9_error_38 rfl rfl (g_iload_n dX9_error_39 rfl rfl (g_iconst dX9_error_40 ?_)))))))))))
    refine cv_X9_143 (M := mX9_error) rfl dX9_error_41 (yo150 hY) (RO.same _ _ _) (Nat.le_of_ble_eq_true rfl) (e_of1 hY hfb hFf.1) <| kI (g_iremP dX9_error_44 (by omega) (by omega) (g_iast dX9_error_45 (ya151 hY) ⟨by omega, by omega, by omega⟩ ?_))
    have hF2 := rfg_st hfb hFf.1 (((F f.toNat).st + 1) % (F f.toNat).te)
    have hS2 := (fr_st h hfb (((F f.toNat).st + 1) % (F f.toNat).te)).rS (by omega) hS
    have en := (fr_st h hfb (((F f.toNat).st + 1) % (F f.toNat).te)).2 151 71 (by omega)
    refine g_aload_n dX9_error_46 rfl rfl (g_iload_n dX9_error_47 rfl rfl (cv_X9_307 (M := mX9_error) rfl dX9_error_48 (yo150 hY) (RO.same _ _ _) (Nat.le_of_ble_eq_true rfl) (e_X9_isFit hY hfb hF2 (nx_B hB) hS2) <| kI ?_))
    rw [en, nx_m hB]
    refine g_ist4 dX9_error_51 (by decide) rfl (g_aload_n dX9_error_53 rfl rfl (gf_X9_7 (M := mX9_error) rfl dX9_error_54 (yo150 hY) (yr150_0 hY) (g_iconst dX9_error_57 (g_bipush dX9_error_58 kb6 (g_iload_n dX9_error_60 rfl rfl (g_imul dX9_error_61 (g_iadd dX9_error_62 (g_iconst dX9_error_63 (g_iadd dX9_error_64 (g_iload_n dX9_error_65 rfl rfl (g_iast dX9_error_66 (ya151 hY) ⟨by omega, by omega, by omega⟩ ?_)))))))))))
    rw [sI_back h 151 _ _ hFf.1.2.2.1]
    refine g_iload_n dX9_error_67 rfl rfl ?_
    refine g_if_eq 84 dX9_error_68 rfl (by omega) (fun c68 => ?_) (fun c68 => ?_)
    · skip
      refine g_iload dX9_error_84 rfl ?_
      refine g_if_eq 93 dX9_error_86 rfl (by omega) (fun c86 => ?_) (fun c86 => ?_)
      · skip
        refine g_iconst dX9_error_93 ?_
        exact g_iret dX9_error_94 rfl rfl ⟨Nat.le_refl _, Nat.le_refl _⟩ (by first | exact ⟨-1, rfl, rfl, Or.inl ⟨by omega, rfl⟩⟩ | (refine ⟨_, rfl, rfl, Or.inr ⟨by omega, ?_⟩⟩; unfold errS; first | rw [if_pos (by omega), if_pos (by omega)] | rw [if_pos (by omega), if_neg (by omega)] | rw [if_neg (by omega), if_pos (by omega)] | rw [if_neg (by omega), if_neg (by omega)]))
      · skip
        refine g_iconst dX9_error_89 (g_goto 94 dX9_error_90 rfl ?_)
        exact g_iret dX9_error_94 rfl rfl ⟨Nat.le_refl _, Nat.le_refl _⟩ (by first | exact ⟨-1, rfl, rfl, Or.inl ⟨by omega, rfl⟩⟩ | (refine ⟨_, rfl, rfl, Or.inr ⟨by omega, ?_⟩⟩; unfold errS; first | rw [if_pos (by omega), if_pos (by omega)] | rw [if_pos (by omega), if_neg (by omega)] | rw [if_neg (by omega), if_pos (by omega)] | rw [if_neg (by omega), if_neg (by omega)]))
    · skip
      refine g_iload dX9_error_71 rfl ?_
      refine g_if_eq 80 dX9_error_73 rfl (by omega) (fun c73 => ?_) (fun c73 => ?_)
      · skip
        refine g_iconst dX9_error_80 (g_goto 94 dX9_error_81 rfl ?_)
        exact g_iret dX9_error_94 rfl rfl ⟨Nat.le_refl _, Nat.le_refl _⟩ (by first | exact ⟨-1, rfl, rfl, Or.inl ⟨by omega, rfl⟩⟩ | (refine ⟨_, rfl, rfl, Or.inr ⟨by omega, ?_⟩⟩; unfold errS; first | rw [if_pos (by omega), if_pos (by omega)] | rw [if_pos (by omega), if_neg (by omega)] | rw [if_neg (by omega), if_pos (by omega)] | rw [if_neg (by omega), if_neg (by omega)]))
      · skip
        refine g_iconst dX9_error_76 (g_goto 94 dX9_error_77 rfl ?_)
        exact g_iret dX9_error_94 rfl rfl ⟨Nat.le_refl _, Nat.le_refl _⟩ (by first | exact ⟨-1, rfl, rfl, Or.inl ⟨by omega, rfl⟩⟩ | (refine ⟨_, rfl, rfl, Or.inr ⟨by omega, ?_⟩⟩; unfold errS; first | rw [if_pos (by omega), if_pos (by omega)] | rw [if_pos (by omega), if_neg (by omega)] | rw [if_neg (by omega), if_pos (by omega)] | rw [if_neg (by omega), if_neg (by omega)]))
  · skip
    refine g_iconst dX9_error_8 ?_
    exact g_iret dX9_error_9 rfl rfl ⟨Nat.le_refl _, Nat.le_refl _⟩ (by first | exact ⟨-1, rfl, rfl, Or.inl ⟨by omega, rfl⟩⟩ | (refine ⟨_, rfl, rfl, Or.inr ⟨by omega, ?_⟩⟩; unfold errS; first | rw [if_pos (by omega), if_pos (by omega)] | rw [if_pos (by omega), if_neg (by omega)] | rw [if_neg (by omega), if_pos (by omega)] | rw [if_neg (by omega), if_neg (by omega)]))
set_option maxRecDepth 100000 in
set_option maxHeartbeats 1000000 in
theorem e_X9_isPlainFit {G : GX} {y : LY} {h : HM} {d : Nat} (hY : Lay y) {S : Nat → Sg} (hS : RS h S) {f te c : Int} (hf : 0 ≤ f ∧ f ≤ 5) (ht : 2 ≤ te ∧ te ≤ 60) (hc : 0 ≤ c ∧ c ≤ 60) : EvI G mX9_isPlainFit (d + 1) [.ref 150, .int (iZ f), .int (iZ te), .int (iZ c)] y h (pI (PlS S (h.I 151 71) f te c)) := by
  have hns := hS.1
  refine Ev.of rfl [some (.ref 150), some (.int (iZ f)), some (.int (iZ te)), some (.int (iZ c)), none, none, none] rfl (Nat.le_of_ble_eq_true rfl) ?_
  have L6 : ∀ (m : Nat) (s : Int), (m : Int) = (h.I 151 71) - s → 0 ≤ s ∧ s ≤ (h.I 151 71) → Go G mX9_isPlainFit (rmo (d + 1) 0 0) (ZM G y 0 0 (fun r h1 => r = some (.int (iZ (pI (PlS S (h.I 151 71) f te c)))) ∧ h1 = h)) y 6 [some (.ref 150), some (.int (iZ f)), some (.int (iZ te)), some (.int (iZ c)), some (.int (iZ (pI (AlS (fun s => (S s.toNat).1 = f → pI ((S s.toNat).2.1 % te = c) = (S s.toNat).2.2) s)))), some (.int (iZ s)), none] [] h (0, 0) := by
    intro m
    induction m using Nat.strongRecOn with | _ m ih =>
    intro s hm hs
    have hp := pI_01 (AlS (fun s => (S s.toNat).1 = f → pI ((S s.toNat).2.1 % te = c) = (S s.toNat).2.2) s)
    have hpo := pI_01 ((S s.toNat).2.1 % te = c)
    have hp1 := pI_eq1 (P := (S s.toNat).2.1 % te = c)
    refine g_iload dX9_isPlainFit_6 rfl (g_aload_n dX9_isPlainFit_8 rfl rfl (gf_X9_7 (M := mX9_isPlainFit) rfl dX9_isPlainFit_9 (yo150 hY) (yr150_0 hY) (g_bipush dX9_isPlainFit_12 kb71 (g_iaN 71 dX9_isPlainFit_14 (ya151 hY) ⟨by decide, by decide, by decide⟩ rfl ?_))))
    refine g_icmp_ge 91 dX9_isPlainFit_15 rfl (by omega) (by omega) (fun c15 => ?_) (fun c15 => ?_)
    · skip
      refine g_iload dX9_isPlainFit_91 rfl ?_
      exact g_zret dX9_isPlainFit_93 rfl rfl ⟨Nat.le_refl _, Nat.le_refl _⟩ (by omega) (by obtain rfl : s = (h.I 151 71) := (by omega); exact ⟨rfl, rfl⟩)
    · skip
      have hSs := hS.2 s (by omega) (by omega)
      have hSb := hSs.2
      unfold RSg at hSs
      have hem := em_bd (S s.toNat).2.1 (d := te) (by omega)
      refine g_bipush dX9_isPlainFit_18 kb72 (g_iconst dX9_isPlainFit_20 (g_iload dX9_isPlainFit_21 rfl (g_imul dX9_isPlainFit_23 (g_iadd dX9_isPlainFit_24 (g_ist6 dX9_isPlainFit_25 (by decide) rfl (g_iload dX9_isPlainFit_27 rfl ?_))))))
      refine g_if_eq 82 dX9_isPlainFit_29 rfl (by omega) (fun c29 => ?_) (fun c29 => ?_)
      · skip
        refine g_iconst dX9_isPlainFit_82 (g_ist4 dX9_isPlainFit_83 (by decide) rfl (g_inc5 dX9_isPlainFit_85 (by decide) rfl (g_goto 6 dX9_isPlainFit_88 rfl (g_dr6 ?_))))
        have hx := ih (m - 1) (by omega) (s + 1) (by omega) (by omega)
        first | (rw [AlS.f (Q := (fun s => (S s.toNat).1 = f → pI ((S s.toNat).2.1 % te = c) = (S s.toNat).2.2)) c29] at hx; exact hx) | (rw [AlS.t (Q := (fun s => (S s.toNat).1 = f → pI ((S s.toNat).2.1 % te = c) = (S s.toNat).2.2)) c29 (fun z => absurd z (by omega))] at hx; exact hx) | (rw [AlS.t (Q := (fun s => (S s.toNat).1 = f → pI ((S s.toNat).2.1 % te = c) = (S s.toNat).2.2)) c29 (fun _ => by omega)] at hx; exact hx) | (rw [AlS.nf (Q := (fun s => (S s.toNat).1 = f → pI ((S s.toNat).2.1 % te = c) = (S s.toNat).2.2)) hs.1 (fun z => absurd (z (by omega)) (by omega))] at hx; exact hx)
      · skip
        refine g_aload_n dX9_isPlainFit_32 rfl rfl (gf_X9_7 (M := mX9_isPlainFit) rfl dX9_isPlainFit_33 (yo150 hY) (yr150_0 hY) (g_iload dX9_isPlainFit_36 rfl (g_iald dX9_isPlainFit_38 (ya151 hY) ⟨by omega, by omega, by omega⟩ ?_)))
        rw [hSs.1.1]
        refine g_iload_n dX9_isPlainFit_39 rfl rfl ?_
        refine g_icmp_ne 78 dX9_isPlainFit_40 rfl (by omega) (by omega) (fun c40 => ?_) (fun c40 => ?_)
        · skip
          refine g_iconst dX9_isPlainFit_78 (g_goto 83 dX9_isPlainFit_79 rfl (g_ist4 dX9_isPlainFit_83 (by decide) rfl (g_inc5 dX9_isPlainFit_85 (by decide) rfl (g_goto 6 dX9_isPlainFit_88 rfl (g_dr6 ?_)))))
          have hx := ih (m - 1) (by omega) (s + 1) (by omega) (by omega)
          first | (rw [AlS.f (Q := (fun s => (S s.toNat).1 = f → pI ((S s.toNat).2.1 % te = c) = (S s.toNat).2.2)) c29] at hx; exact hx) | (rw [AlS.t (Q := (fun s => (S s.toNat).1 = f → pI ((S s.toNat).2.1 % te = c) = (S s.toNat).2.2)) c29 (fun z => absurd z (by omega))] at hx; exact hx) | (rw [AlS.t (Q := (fun s => (S s.toNat).1 = f → pI ((S s.toNat).2.1 % te = c) = (S s.toNat).2.2)) c29 (fun _ => by omega)] at hx; exact hx) | (rw [AlS.nf (Q := (fun s => (S s.toNat).1 = f → pI ((S s.toNat).2.1 % te = c) = (S s.toNat).2.2)) hs.1 (fun z => absurd (z (by omega)) (by omega))] at hx; exact hx)
        · skip
          refine g_aload_n dX9_isPlainFit_43 rfl rfl (gf_X9_7 (M := mX9_isPlainFit) rfl dX9_isPlainFit_44 (yo150 hY) (yr150_0 hY) (g_iload dX9_isPlainFit_47 rfl (g_iconst dX9_isPlainFit_49 (g_iadd dX9_isPlainFit_50 (g_iald dX9_isPlainFit_51 (ya151 hY) ⟨by omega, by omega, by omega⟩ ?_)))))
          rw [hSs.1.2.1]
          refine g_iload_n dX9_isPlainFit_52 rfl rfl (g_iremP dX9_isPlainFit_53 (by omega) (by omega) (g_iload_n dX9_isPlainFit_54 rfl rfl ?_))
          refine g_icmp_ne 62 dX9_isPlainFit_55 rfl (by omega) (by omega) (fun c55 => ?_) (fun c55 => ?_)
          · skip
            refine g_iconst dX9_isPlainFit_62 (cv_X9_173 (M := mX9_isPlainFit) rfl dX9_isPlainFit_63 (RO.same _ _ _) (Nat.le_of_ble_eq_true rfl) (e_X9_flag (by omega)) <| kI (g_aload_n dX9_isPlainFit_66 rfl rfl (gf_X9_7 (M := mX9_isPlainFit) rfl dX9_isPlainFit_67 (yo150 hY) (yr150_0 hY) (g_iload dX9_isPlainFit_70 rfl (g_iconst dX9_isPlainFit_72 (g_iadd dX9_isPlainFit_73 (g_iald dX9_isPlainFit_74 (ya151 hY) ⟨by omega, by omega, by omega⟩ ?_)))))))
            rw [hSs.1.2.2]
            refine g_icmp_ne 82 dX9_isPlainFit_75 rfl (by omega) (by omega) (fun c75 => ?_) (fun c75 => ?_)
            · skip
              refine g_iconst dX9_isPlainFit_82 (g_ist4 dX9_isPlainFit_83 (by decide) rfl (g_inc5 dX9_isPlainFit_85 (by decide) rfl (g_goto 6 dX9_isPlainFit_88 rfl (g_dr6 ?_))))
              have hx := ih (m - 1) (by omega) (s + 1) (by omega) (by omega)
              first | (rw [AlS.f (Q := (fun s => (S s.toNat).1 = f → pI ((S s.toNat).2.1 % te = c) = (S s.toNat).2.2)) c29] at hx; exact hx) | (rw [AlS.t (Q := (fun s => (S s.toNat).1 = f → pI ((S s.toNat).2.1 % te = c) = (S s.toNat).2.2)) c29 (fun z => absurd z (by omega))] at hx; exact hx) | (rw [AlS.t (Q := (fun s => (S s.toNat).1 = f → pI ((S s.toNat).2.1 % te = c) = (S s.toNat).2.2)) c29 (fun _ => by omega)] at hx; exact hx) | (rw [AlS.nf (Q := (fun s => (S s.toNat).1 = f → pI ((S s.toNat).2.1 % te = c) = (S s.toNat).2.2)) hs.1 (fun z => absurd (z (by omega)) (by omega))] at hx; exact hx)
            · skip
              refine g_iconst dX9_isPlainFit_78 (g_goto 83 dX9_isPlainFit_79 rfl (g_ist4 dX9_isPlainFit_83 (by decide) rfl (g_inc5 dX9_isPlainFit_85 (by decide) rfl (g_goto 6 dX9_isPlainFit_88 rfl (g_dr6 ?_)))))
              have hx := ih (m - 1) (by omega) (s + 1) (by omega) (by omega)
              first | (rw [AlS.f (Q := (fun s => (S s.toNat).1 = f → pI ((S s.toNat).2.1 % te = c) = (S s.toNat).2.2)) c29] at hx; exact hx) | (rw [AlS.t (Q := (fun s => (S s.toNat).1 = f → pI ((S s.toNat).2.1 % te = c) = (S s.toNat).2.2)) c29 (fun z => absurd z (by omega))] at hx; exact hx) | (rw [AlS.t (Q := (fun s => (S s.toNat).1 = f → pI ((S s.toNat).2.1 % te = c) = (S s.toNat).2.2)) c29 (fun _ => by omega)] at hx; exact hx) | (rw [AlS.nf (Q := (fun s => (S s.toNat).1 = f → pI ((S s.toNat).2.1 % te = c) = (S s.toNat).2.2)) hs.1 (fun z => absurd (z (by omega)) (by omega))] at hx; exact hx)
          · skip
            refine g_iconst dX9_isPlainFit_58 (g_goto 63 dX9_isPlainFit_59 rfl (cv_X9_173 (M := mX9_isPlainFit) rfl dX9_isPlainFit_63 (RO.same _ _ _) (Nat.le_of_ble_eq_true rfl) (e_X9_flag (by omega)) <| kI (g_aload_n dX9_isPlainFit_66 rfl rfl (gf_X9_7 (M := mX9_isPlainFit) rfl dX9_isPlainFit_67 (yo150 hY) (yr150_0 hY) (g_iload dX9_isPlainFit_70 rfl (g_iconst dX9_isPlainFit_72 (g_iadd dX9_isPlainFit_73 (g_iald dX9_isPlainFit_74 (ya151 hY) ⟨by omega, by omega, by omega⟩ ?_))))))))
            rw [hSs.1.2.2]
            refine g_icmp_ne 82 dX9_isPlainFit_75 rfl (by omega) (by omega) (fun c75 => ?_) (fun c75 => ?_)
            · skip
              refine g_iconst dX9_isPlainFit_82 (g_ist4 dX9_isPlainFit_83 (by decide) rfl (g_inc5 dX9_isPlainFit_85 (by decide) rfl (g_goto 6 dX9_isPlainFit_88 rfl (g_dr6 ?_))))
              have hx := ih (m - 1) (by omega) (s + 1) (by omega) (by omega)
              first | (rw [AlS.f (Q := (fun s => (S s.toNat).1 = f → pI ((S s.toNat).2.1 % te = c) = (S s.toNat).2.2)) c29] at hx; exact hx) | (rw [AlS.t (Q := (fun s => (S s.toNat).1 = f → pI ((S s.toNat).2.1 % te = c) = (S s.toNat).2.2)) c29 (fun z => absurd z (by omega))] at hx; exact hx) | (rw [AlS.t (Q := (fun s => (S s.toNat).1 = f → pI ((S s.toNat).2.1 % te = c) = (S s.toNat).2.2)) c29 (fun _ => by omega)] at hx; exact hx) | (rw [AlS.nf (Q := (fun s => (S s.toNat).1 = f → pI ((S s.toNat).2.1 % te = c) = (S s.toNat).2.2)) hs.1 (fun z => absurd (z (by omega)) (by omega))] at hx; exact hx)
            · skip
              refine g_iconst dX9_isPlainFit_78 (g_goto 83 dX9_isPlainFit_79 rfl (g_ist4 dX9_isPlainFit_83 (by decide) rfl (g_inc5 dX9_isPlainFit_85 (by decide) rfl (g_goto 6 dX9_isPlainFit_88 rfl (g_dr6 ?_)))))
              have hx := ih (m - 1) (by omega) (s + 1) (by omega) (by omega)
              first | (rw [AlS.f (Q := (fun s => (S s.toNat).1 = f → pI ((S s.toNat).2.1 % te = c) = (S s.toNat).2.2)) c29] at hx; exact hx) | (rw [AlS.t (Q := (fun s => (S s.toNat).1 = f → pI ((S s.toNat).2.1 % te = c) = (S s.toNat).2.2)) c29 (fun z => absurd z (by omega))] at hx; exact hx) | (rw [AlS.t (Q := (fun s => (S s.toNat).1 = f → pI ((S s.toNat).2.1 % te = c) = (S s.toNat).2.2)) c29 (fun _ => by omega)] at hx; exact hx) | (rw [AlS.nf (Q := (fun s => (S s.toNat).1 = f → pI ((S s.toNat).2.1 % te = c) = (S s.toNat).2.2)) hs.1 (fun z => absurd (z (by omega)) (by omega))] at hx; exact hx)
  refine g_iconst dX9_isPlainFit_0 (g_ist4 dX9_isPlainFit_1 (by decide) rfl (g_iconst dX9_isPlainFit_3 (g_ist5 dX9_isPlainFit_4 (by decide) rfl ?_)))
  have hx := L6 (h.I 151 71).toNat 0 (by omega) (by omega)
  rw [AlS.z (fun s => (S s.toNat).1 = f → pI ((S s.toNat).2.1 % te = c) = (S s.toNat).2.2)] at hx
  exact hx
set_option maxRecDepth 100000 in
set_option maxHeartbeats 1000000 in
theorem e_X9_wheels {G : GX} {y : LY} {h : HM} {d : Nat} (hY : Lay y) {F : Nat → Fg} (hR : RF h F) {S : Nat → Sg} (hS : RS h S) {f w : Int} (hf : R32 f) (hw : R32 w) : EvQI G mX9_wheels (d + 2) [.ref 150, .int (iZ f), .int (iZ w)] y h (fun v => (¬ ((0 ≤ f ∧ f < (h.I 151 0)) ∧ (0 ≤ w ∧ w ≤ 2)) ∧ v = -1) ∨ (((0 ≤ f ∧ f < (h.I 151 0)) ∧ (0 ≤ w ∧ w ≤ 2)) ∧ WhP (PlS S (h.I 151 71) f) w v)) := by
  have hnf := hR.1
  have hpf := pI_01 (0 ≤ f ∧ f < h.I 151 0)
  have hpe := pI_eq1 (P := 0 ≤ f ∧ f < h.I 151 0)
  have hzw := pI_01 (0 ≤ w ∧ w ≤ 2)
  have hyw := pI_eq1 (P := 0 ≤ w ∧ w ≤ 2)
  refine Ev.of rfl [some (.ref 150), some (.int (iZ f)), some (.int (iZ w)), none, none, none, none, none] rfl (Nat.le_of_ble_eq_true rfl) ?_
  have L35 : ∀ (m : Nat) (te n a b : Int), (m : Int) = 61 - te → 2 ≤ te ∧ te ≤ 61 → ((0 ≤ f ∧ f < (h.I 151 0)) ∧ (0 ≤ w ∧ w ≤ 2)) → WhI (PlS S (h.I 151 71) f) te 0 n a b → Go G mX9_wheels (rmo (d + 2) 0 0) (ZM G y 0 0 (fun r h1 => ∃ v_ : Int, r = some (.int (iZ v_)) ∧ h1 = h ∧ (fun v => (¬ ((0 ≤ f ∧ f < (h.I 151 0)) ∧ (0 ≤ w ∧ w ≤ 2)) ∧ v = -1) ∨ (((0 ≤ f ∧ f < (h.I 151 0)) ∧ (0 ≤ w ∧ w ≤ 2)) ∧ WhP (PlS S (h.I 151 71) f) w v)) v_)) y 35 [some (.ref 150), some (.int (iZ f)), some (.int (iZ w)), some (.int (iZ n)), some (.int (iZ a)), some (.int (iZ b)), some (.int (iZ te)), none] [] h (0, 0) := by
    intro m
    induction m using Nat.strongRecOn with | _ m ih =>
    intro te n a b hm ht hok hI
    have hbd := hI.bd ht (by omega)
    have L45 : te ≤ 60 → ∀ (k : Nat) (c n a b : Int), (k : Int) = te - c → 0 ≤ c ∧ c ≤ te → WhI (PlS S (h.I 151 71) f) te c n a b → Go G mX9_wheels (rmo (d + 2) 0 0) (ZM G y 0 0 (fun r h1 => ∃ v_ : Int, r = some (.int (iZ v_)) ∧ h1 = h ∧ (fun v => (¬ ((0 ≤ f ∧ f < (h.I 151 0)) ∧ (0 ≤ w ∧ w ≤ 2)) ∧ v = -1) ∨ (((0 ≤ f ∧ f < (h.I 151 0)) ∧ (0 ≤ w ∧ w ≤ 2)) ∧ WhP (PlS S (h.I 151 71) f) w v)) v_)) y 45 [some (.ref 150), some (.int (iZ f)), some (.int (iZ w)), some (.int (iZ n)), some (.int (iZ a)), some (.int (iZ b)), some (.int (iZ te)), some (.int (iZ c))] [] h (0, 0) := by
      intro h60 k
      induction k using Nat.strongRecOn with | _ k jh =>
      intro c n a b hk hc hI
      have hbd := hI.bd ht (by omega)
      have hp := pI_01 ((PlS S (h.I 151 71) f) te c)
      refine g_iload dX9_wheels_45 rfl (g_iload dX9_wheels_47 rfl ?_)
      refine g_icmp_ge 99 dX9_wheels_49 rfl (by omega) (by omega) (fun c49 => ?_) (fun c49 => ?_)
      · skip
        refine g_inc6 dX9_wheels_99 (by decide) rfl (g_goto 35 dX9_wheels_102 rfl (g_dr7 ?_))
        obtain rfl : c = te := (by omega)
        exact ih (m - 1) (by omega) (c + 1) _ _ _ (by omega) (by omega) hok (hI.nx ht.1)
      · skip
        refine g_aload_n dX9_wheels_52 rfl rfl (g_iload_n dX9_wheels_53 rfl rfl (g_iload dX9_wheels_54 rfl (g_iload dX9_wheels_56 rfl (cv_X9_310 (M := mX9_wheels) rfl dX9_wheels_58 (yo150 hY) (RO.same _ _ _) (Nat.le_of_ble_eq_true rfl) (e_X9_isPlainFit hY hS (by omega) (by omega) (by omega)) <| kI ?_))))
        refine g_if_eq 93 dX9_wheels_61 rfl (by omega) (fun c61 => ?_) (fun c61 => ?_)
        · have k61 := pI_eq0.mp c61
          refine g_inc7 dX9_wheels_93 (by decide) rfl (g_goto 45 dX9_wheels_96 rfl ?_)
          first | (exfalso; omega) | exact jh (k - 1) (by omega) (c + 1) _ _ _ (by omega) (by omega) (hI.n hc.1 k61) | exact jh (k - 1) (by omega) (c + 1) _ _ _ (by omega) (by omega) (hI.y0 (by omega) (by omega) (by omega) k61) | exact jh (k - 1) (by omega) (c + 1) _ _ _ (by omega) (by omega) (hI.y1 (by omega) hc.1 k61)
        · have k61 := pI_ne c61
          refine g_iload_n dX9_wheels_64 rfl rfl ?_
          refine g_if_ne 73 dX9_wheels_65 rfl (by omega) (fun c65 => ?_) (fun c65 => ?_)
          · skip
            refine g_iload dX9_wheels_73 rfl (g_ist4 dX9_wheels_75 (by decide) rfl (g_iload_n dX9_wheels_77 rfl rfl ?_))
            refine g_if_ne 86 dX9_wheels_78 rfl (by omega) (fun c78 => ?_) (fun c78 => ?_)
            · skip
              refine g_iload dX9_wheels_86 rfl (g_ist5 dX9_wheels_88 (by decide) rfl (g_inc3 dX9_wheels_90 (by decide) rfl (g_inc7 dX9_wheels_93 (by decide) rfl (g_goto 45 dX9_wheels_96 rfl ?_))))
              first | (exfalso; omega) | exact jh (k - 1) (by omega) (c + 1) _ _ _ (by omega) (by omega) (hI.n hc.1 k61) | exact jh (k - 1) (by omega) (c + 1) _ _ _ (by omega) (by omega) (hI.y0 (by omega) (by omega) (by omega) k61) | exact jh (k - 1) (by omega) (c + 1) _ _ _ (by omega) (by omega) (hI.y1 (by omega) hc.1 k61)
            · skip
              refine g_iload dX9_wheels_81 rfl (g_goto 88 dX9_wheels_83 rfl (g_ist5 dX9_wheels_88 (by decide) rfl (g_inc3 dX9_wheels_90 (by decide) rfl (g_inc7 dX9_wheels_93 (by decide) rfl (g_goto 45 dX9_wheels_96 rfl ?_)))))
              first | (exfalso; omega) | exact jh (k - 1) (by omega) (c + 1) _ _ _ (by omega) (by omega) (hI.n hc.1 k61) | exact jh (k - 1) (by omega) (c + 1) _ _ _ (by omega) (by omega) (hI.y0 (by omega) (by omega) (by omega) k61) | exact jh (k - 1) (by omega) (c + 1) _ _ _ (by omega) (by omega) (hI.y1 (by omega) hc.1 k61)
          · skip
            refine g_iload dX9_wheels_68 rfl (g_goto 75 dX9_wheels_70 rfl (g_ist4 dX9_wheels_75 (by decide) rfl (g_iload_n dX9_wheels_77 rfl rfl ?_)))
            refine g_if_ne 86 dX9_wheels_78 rfl (by omega) (fun c78 => ?_) (fun c78 => ?_)
            · skip
              refine g_iload dX9_wheels_86 rfl (g_ist5 dX9_wheels_88 (by decide) rfl (g_inc3 dX9_wheels_90 (by decide) rfl (g_inc7 dX9_wheels_93 (by decide) rfl (g_goto 45 dX9_wheels_96 rfl ?_))))
              first | (exfalso; omega) | exact jh (k - 1) (by omega) (c + 1) _ _ _ (by omega) (by omega) (hI.n hc.1 k61) | exact jh (k - 1) (by omega) (c + 1) _ _ _ (by omega) (by omega) (hI.y0 (by omega) (by omega) (by omega) k61) | exact jh (k - 1) (by omega) (c + 1) _ _ _ (by omega) (by omega) (hI.y1 (by omega) hc.1 k61)
            · skip
              refine g_iload dX9_wheels_81 rfl (g_goto 88 dX9_wheels_83 rfl (g_ist5 dX9_wheels_88 (by decide) rfl (g_inc3 dX9_wheels_90 (by decide) rfl (g_inc7 dX9_wheels_93 (by decide) rfl (g_goto 45 dX9_wheels_96 rfl ?_)))))
              first | (exfalso; omega) | exact jh (k - 1) (by omega) (c + 1) _ _ _ (by omega) (by omega) (hI.n hc.1 k61) | exact jh (k - 1) (by omega) (c + 1) _ _ _ (by omega) (by omega) (hI.y0 (by omega) (by omega) (by omega) k61) | exact jh (k - 1) (by omega) (c + 1) _ _ _ (by omega) (by omega) (hI.y1 (by omega) hc.1 k61)
    refine g_iload dX9_wheels_35 rfl (g_bipush dX9_wheels_37 kb60 ?_)
    refine g_icmp_gt 105 dX9_wheels_39 rfl (by omega) (by omega) (fun c39 => ?_) (fun c39 => ?_)
    · skip
      refine g_iload_n dX9_wheels_105 rfl rfl ?_
      refine g_if_ne 113 dX9_wheels_106 rfl (by omega) (fun c106 => ?_) (fun c106 => ?_)
      · skip
        refine g_iload_n dX9_wheels_113 rfl rfl (g_iconst dX9_wheels_114 ?_)
        refine g_icmp_ne 123 dX9_wheels_115 rfl (by omega) (by omega) (fun c115 => ?_) (fun c115 => ?_)
        · skip
          refine g_iload dX9_wheels_123 rfl ?_
          exact g_iret dX9_wheels_125 rfl rfl ⟨Nat.le_refl _, Nat.le_refl _⟩ (by obtain rfl : te = 61 := (by omega); exact ⟨_, rfl, rfl, Or.inr ⟨hok, hI.e (by omega)⟩⟩)
        · skip
          refine g_iload dX9_wheels_118 rfl (g_goto 125 dX9_wheels_120 rfl ?_)
          exact g_iret dX9_wheels_125 rfl rfl ⟨Nat.le_refl _, Nat.le_refl _⟩ (by obtain rfl : te = 61 := (by omega); exact ⟨_, rfl, rfl, Or.inr ⟨hok, hI.e (by omega)⟩⟩)
      · skip
        refine g_iload_n dX9_wheels_109 rfl rfl (g_goto 125 dX9_wheels_110 rfl ?_)
        exact g_iret dX9_wheels_125 rfl rfl ⟨Nat.le_refl _, Nat.le_refl _⟩ (by obtain rfl : te = 61 := (by omega); exact ⟨_, rfl, rfl, Or.inr ⟨hok, hI.e (by omega)⟩⟩)
    · skip
      refine g_iconst dX9_wheels_42 (g_ist7 dX9_wheels_43 (by decide) rfl ?_)
      exact L45 (by omega) te.toNat 0 _ _ _ (by omega) (by omega) hI
  refine g_aload_n dX9_wheels_0 rfl rfl (g_iload_n dX9_wheels_1 rfl rfl (cv_X9_146 (M := mX9_wheels) rfl dX9_wheels_2 (yo150 hY) (RO.same _ _ _) (Nat.le_of_ble_eq_true rfl) (e_X9_isFigure hY (by omega) (by omega)) <| kI ?_))
  refine g_if_eq 20 dX9_wheels_5 rfl (by omega) (fun c5 => ?_) (fun c5 => ?_)
  · skip
    refine g_iconst dX9_wheels_20 ?_
    exact g_iret dX9_wheels_21 rfl rfl ⟨Nat.le_refl _, Nat.le_refl _⟩ (by exact ⟨-1, rfl, rfl, Or.inl ⟨by omega, rfl⟩⟩)
  · skip
    refine g_iload_n dX9_wheels_8 rfl rfl (g_i2l dX9_wheels_9 (by omega) (g_lconst (v := 0) dX9_wheels_10 rfl (c2_X9_278 (M := mX9_wheels) rfl dX9_wheels_11 (cv_X9_71 (M := mX9_wheels) rfl dX9_wheels_14 (RO.same _ _ _) (Nat.le_of_ble_eq_true rfl) (e_X9_in (by omega) (by omega) (by omega)) <| kI ?_))))
    refine g_if_ne 22 dX9_wheels_17 rfl (by omega) (fun c17 => ?_) (fun c17 => ?_)
    · skip
      refine g_iconst dX9_wheels_22 (g_ist3 dX9_wheels_23 (by decide) rfl (g_bipush dX9_wheels_24 kbm4 (g_ist4 dX9_wheels_26 (by decide) rfl (g_bipush dX9_wheels_28 kbm4 (g_ist5 dX9_wheels_30 (by decide) rfl (g_iconst dX9_wheels_32 (g_ist6 dX9_wheels_33 (by decide) rfl ?_)))))))
      exact L35 59 2 0 (-4) (-4) (by omega) (by omega) (by omega) (WhI.z _)
    · skip
      refine g_iconst dX9_wheels_20 ?_
      exact g_iret dX9_wheels_21 rfl rfl ⟨Nat.le_refl _, Nat.le_refl _⟩ (by exact ⟨-1, rfl, rfl, Or.inl ⟨by omega, rfl⟩⟩)
set_option maxRecDepth 100000 in
set_option maxHeartbeats 1000000 in
theorem e_X9_worn {G : GX} {y : LY} {h : HM} {d : Nat} (hY : Lay y) {F : Nat → Fg} (hR : RF h F) {S : Nat → Sg} (hS : RS h S) {f : Int} (hf : R32 f) : EvQI G mX9_worn (d + 5) [.ref 150, .int (iZ f)] y h (fun v => (¬ (0 ≤ f ∧ f < (h.I 151 0)) ∧ v = -1) ∨ ((0 ≤ f ∧ f < (h.I 151 0)) ∧ v = ((wrn (fun l => FitS S (h.I 151 71) (laF (F f.toNat) l) f) 4 : Nat) : Int))) := by
  have hnf := hR.1
  have hpf := pI_01 (0 ≤ f ∧ f < h.I 151 0)
  have hpe := pI_eq1 (P := 0 ≤ f ∧ f < h.I 151 0)
  refine Ev.of rfl [some (.ref 150), some (.int (iZ f)), none, none, none, none] rfl (Nat.le_of_ble_eq_true rfl) ?_
  have L30 : ∀ (m : Nat) (h1 : HM) (i : Nat) (l : Int), m = 4 - i → (0 ≤ f ∧ f < (h.I 151 0)) → i ≤ 4 → WnG h h1 f (F f.toNat) l → Go G mX9_worn (rmo (d + 5) 0 0) (ZM G y 0 0 (fun r h1 => ∃ v_ : Int, r = some (.int (iZ v_)) ∧ h1 = h ∧ (fun v => (¬ (0 ≤ f ∧ f < (h.I 151 0)) ∧ v = -1) ∨ ((0 ≤ f ∧ f < (h.I 151 0)) ∧ v = ((wrn (fun l => FitS S (h.I 151 71) (laF (F f.toNat) l) f) 4 : Nat) : Int))) v_)) y 30 [some (.ref 150), some (.int (iZ f)), some (.int (iZ (kdR (F f.toNat)))), some (.int (iZ (laR (F f.toNat)))), some (.int (iZ (wrn (fun l => FitS S (h.I 151 71) (laF (F f.toNat) l) f) i : Nat))), some (.int (iZ i))] [] h1 (0, 0) := by
    intro m
    induction m using Nat.strongRecOn with | _ m ih =>
    intro h1 i l hm hok hi hG
    have hFf := hR.2 f (by omega) (by omega)
    have hfb : 0 ≤ f ∧ f ≤ 5 := by omega
    have hB := hFf.2
    have hk := kR hB.1
    have hw := wrn_bd (P := (fun l => FitS S (h.I 151 71) (laF (F f.toNat) l) f)) i
    have hw2 : 2 ^ i ≤ 2 ^ 4 := Nat.pow_le_pow_right (by decide) hi
    have hkl := kd_la hB.1 (i : Int)
    have hp := pI_01 (FitS S (h.I 151 71) (laF (F f.toNat) i) f)
    rcases (by omega : (0 : Int) < (i : Int) ∨ ¬ (0 : Int) < (i : Int)) with h0 | h0
    · skip
      refine g_iload dX9_worn_30 rfl (g_iconst dX9_worn_32 ?_)
      refine g_icmp_ge 115 dX9_worn_33 rfl (by omega) (by omega) (fun c33 => ?_) (fun c33 => ?_)
      · skip
        refine g_aload_n dX9_worn_115 rfl rfl (gf_X9_7 (M := mX9_worn) rfl dX9_worn_116 (yo150 hY) (yr150_0 hY) (g_iconst dX9_worn_119 (g_bipush dX9_worn_120 kb6 (g_iload_n dX9_worn_122 rfl rfl (g_imul dX9_worn_123 (g_iadd dX9_worn_124 (g_iconst dX9_worn_125 (g_iadd dX9_worn_126 (g_iload_n dX9_worn_127 rfl rfl (g_iast dX9_worn_128 (ya151 hY) ⟨by omega, by omega, by omega⟩ (g_aload_n dX9_worn_129 rfl rfl ?_)))))))))))
        refine gf_X9_7 (M := mX9_worn) rfl dX9_worn_130 (yo150 hY) (yr150_0 hY) (g_iconst dX9_worn_133 (g_bipush dX9_worn_134 kb6 (g_iload_n dX9_worn_136 rfl rfl (g_imul dX9_worn_137 (g_iadd dX9_worn_138 (g_iconst dX9_worn_139 (g_iadd dX9_worn_140 (g_iload_n dX9_worn_141 rfl rfl (g_iast dX9_worn_142 (ya151 hY) ⟨by omega, by omega, by omega⟩ ?_)))))))))
        rw [hG.bk hfb hFf.1]
        refine g_iload dX9_worn_143 rfl ?_
        exact g_iret dX9_worn_145 rfl rfl ⟨Nat.le_refl _, Nat.le_refl _⟩ (by obtain rfl : i = 4 := (by omega); exact ⟨_, rfl, rfl, Or.inr ⟨hok, rfl⟩⟩)
      · skip
        refine g_aload_n dX9_worn_36 rfl rfl (gf_X9_7 (M := mX9_worn) rfl dX9_worn_37 (yo150 hY) (yr150_0 hY) (g_iconst dX9_worn_40 (g_bipush dX9_worn_41 kb6 (g_iload_n dX9_worn_43 rfl rfl (g_imul dX9_worn_44 (g_iadd dX9_worn_45 (g_iconst dX9_worn_46 (g_iadd dX9_worn_47 (g_iload_n dX9_worn_48 rfl rfl (g_iconst dX9_worn_49 (g_idivP dX9_worn_50 (by omega) (by omega) ?_)))))))))))
        refine g_iconst dX9_worn_51 (g_imul dX9_worn_52 (g_iload dX9_worn_53 rfl ?_))
        refine g_if_le 62 dX9_worn_55 rfl (by omega) (fun c55 => absurd c55 (by omega)) (fun c55 => ?_)
        refine g_iconst dX9_worn_58 (g_goto 63 dX9_worn_59 rfl (cv_X9_173 (M := mX9_worn) rfl dX9_worn_63 (RO.same _ _ _) (Nat.le_of_ble_eq_true rfl) (e_X9_flag (by omega)) <| kI (g_iadd dX9_worn_66 (g_iast dX9_worn_67 (ya151 hY) ⟨by omega, by omega, by omega⟩ (g_aload_n dX9_worn_68 rfl rfl (gf_X9_7 (M := mX9_worn) rfl dX9_worn_69 (yo150 hY) (yr150_0 hY) (g_iconst dX9_worn_72 (g_bipush dX9_worn_73 kb6 (g_iload_n dX9_worn_75 rfl rfl (g_imul dX9_worn_76 (g_iadd dX9_worn_77 ?_)))))))))))
        refine g_iconst dX9_worn_78 (g_iadd dX9_worn_79 (g_iload dX9_worn_80 rfl ?_))
        refine g_if_le 90 dX9_worn_82 rfl (by omega) (fun c82 => absurd c82 (by omega)) (fun c82 => ?_)
        refine g_iload dX9_worn_85 rfl (g_goto 92 dX9_worn_87 rfl (g_iast dX9_worn_92 (ya151 hY) ⟨by omega, by omega, by omega⟩ ?_))
        have hG2 : WnG h _ f (F f.toNat) (i : Int) := hG.s hfb (by first | exact (hkl.1 (by omega)).1 | exact (hkl.2 (by omega)).1) (by first | exact (hkl.1 (by omega)).2 | exact (hkl.2 (by omega)).2)
        have hS2 := (hG2.fr hfb).rS (by omega) hS
        have en := (hG2.fr hfb).2 151 71 (by omega)
        have hB2 : FgB (laF (F f.toNat) i) := ⟨⟨hB.1.1, hB.1.2.1, by show 0 ≤ (i : Int); omega, by show (i : Int) ≤ 3; omega, hB.1.2.2.2.2⟩, hB.2⟩
        refine g_iload dX9_worn_93 rfl (g_aload_n dX9_worn_95 rfl rfl (g_iload_n dX9_worn_96 rfl rfl (cv_X9_307 (M := mX9_worn) rfl dX9_worn_97 (yo150 hY) (RO.same _ _ _) (Nat.le_of_ble_eq_true rfl) (e_X9_isFit hY hfb hG2.2.2 hB2 hS2) <| kI ?_)))
        rw [en]
        refine cv_X9_173 (M := mX9_worn) rfl dX9_worn_100 (RO.same _ _ _) (Nat.le_of_ble_eq_true rfl) (e_X9_flag (by omega)) <| kI (g_iload dX9_worn_103 rfl (g_ishl dX9_worn_105 (g_ior dX9_worn_106 ?_)))
        rw [show iOr (wrn (fun l => FitS S (h.I 151 71) (laF (F f.toNat) l) f) i) (iShl (pI (FitS S (h.I 151 71) (laF (F f.toNat) i) f)) i) = ((wrn (fun l => FitS S (h.I 151 71) (laF (F f.toNat) l) f) (i + 1) : Nat) : Int) from wo_pi (P := (fun l => FitS S (h.I 151 71) (laF (F f.toNat) l) f)) (by omega)]
        refine g_ist4 dX9_worn_107 (by decide) rfl (g_inc5 dX9_worn_109 (by decide) rfl (g_goto 30 dX9_worn_112 rfl ?_))
        exact ih (m - 1) (by omega) _ (i + 1) _ (by omega) hok (by omega) hG2
    · skip
      refine g_iload dX9_worn_30 rfl (g_iconst dX9_worn_32 ?_)
      refine g_icmp_ge 115 dX9_worn_33 rfl (by omega) (by omega) (fun c33 => ?_) (fun c33 => ?_)
      · skip
        refine g_aload_n dX9_worn_115 rfl rfl (gf_X9_7 (M := mX9_worn) rfl dX9_worn_116 (yo150 hY) (yr150_0 hY) (g_iconst dX9_worn_119 (g_bipush dX9_worn_120 kb6 (g_iload_n dX9_worn_122 rfl rfl (g_imul dX9_worn_123 (g_iadd dX9_worn_124 (g_iconst dX9_worn_125 (g_iadd dX9_worn_126 (g_iload_n dX9_worn_127 rfl rfl (g_iast dX9_worn_128 (ya151 hY) ⟨by omega, by omega, by omega⟩ (g_aload_n dX9_worn_129 rfl rfl ?_)))))))))))
        refine gf_X9_7 (M := mX9_worn) rfl dX9_worn_130 (yo150 hY) (yr150_0 hY) (g_iconst dX9_worn_133 (g_bipush dX9_worn_134 kb6 (g_iload_n dX9_worn_136 rfl rfl (g_imul dX9_worn_137 (g_iadd dX9_worn_138 (g_iconst dX9_worn_139 (g_iadd dX9_worn_140 (g_iload_n dX9_worn_141 rfl rfl (g_iast dX9_worn_142 (ya151 hY) ⟨by omega, by omega, by omega⟩ ?_)))))))))
        rw [hG.bk hfb hFf.1]
        refine g_iload dX9_worn_143 rfl ?_
        exact g_iret dX9_worn_145 rfl rfl ⟨Nat.le_refl _, Nat.le_refl _⟩ (by obtain rfl : i = 4 := (by omega); exact ⟨_, rfl, rfl, Or.inr ⟨hok, rfl⟩⟩)
      · skip
        refine g_aload_n dX9_worn_36 rfl rfl (gf_X9_7 (M := mX9_worn) rfl dX9_worn_37 (yo150 hY) (yr150_0 hY) (g_iconst dX9_worn_40 (g_bipush dX9_worn_41 kb6 (g_iload_n dX9_worn_43 rfl rfl (g_imul dX9_worn_44 (g_iadd dX9_worn_45 (g_iconst dX9_worn_46 (g_iadd dX9_worn_47 (g_iload_n dX9_worn_48 rfl rfl (g_iconst dX9_worn_49 (g_idivP dX9_worn_50 (by omega) (by omega) ?_)))))))))))
        refine g_iconst dX9_worn_51 (g_imul dX9_worn_52 (g_iload dX9_worn_53 rfl ?_))
        refine g_if_le 62 dX9_worn_55 rfl (by omega) (fun c55 => ?_) (fun c55 => absurd c55 (by omega))
        refine g_iconst dX9_worn_62 (cv_X9_173 (M := mX9_worn) rfl dX9_worn_63 (RO.same _ _ _) (Nat.le_of_ble_eq_true rfl) (e_X9_flag (by omega)) <| kI (g_iadd dX9_worn_66 (g_iast dX9_worn_67 (ya151 hY) ⟨by omega, by omega, by omega⟩ (g_aload_n dX9_worn_68 rfl rfl (gf_X9_7 (M := mX9_worn) rfl dX9_worn_69 (yo150 hY) (yr150_0 hY) (g_iconst dX9_worn_72 (g_bipush dX9_worn_73 kb6 (g_iload_n dX9_worn_75 rfl rfl (g_imul dX9_worn_76 (g_iadd dX9_worn_77 (g_iconst dX9_worn_78 ?_)))))))))))
        refine g_iadd dX9_worn_79 (g_iload dX9_worn_80 rfl ?_)
        refine g_if_le 90 dX9_worn_82 rfl (by omega) (fun c82 => ?_) (fun c82 => absurd c82 (by omega))
        refine g_bipush dX9_worn_90 kbm4 (g_iast dX9_worn_92 (ya151 hY) ⟨by omega, by omega, by omega⟩ ?_)
        have hG2 : WnG h _ f (F f.toNat) (i : Int) := hG.s hfb (by first | exact (hkl.1 (by omega)).1 | exact (hkl.2 (by omega)).1) (by first | exact (hkl.1 (by omega)).2 | exact (hkl.2 (by omega)).2)
        have hS2 := (hG2.fr hfb).rS (by omega) hS
        have en := (hG2.fr hfb).2 151 71 (by omega)
        have hB2 : FgB (laF (F f.toNat) i) := ⟨⟨hB.1.1, hB.1.2.1, by show 0 ≤ (i : Int); omega, by show (i : Int) ≤ 3; omega, hB.1.2.2.2.2⟩, hB.2⟩
        refine g_iload dX9_worn_93 rfl (g_aload_n dX9_worn_95 rfl rfl (g_iload_n dX9_worn_96 rfl rfl (cv_X9_307 (M := mX9_worn) rfl dX9_worn_97 (yo150 hY) (RO.same _ _ _) (Nat.le_of_ble_eq_true rfl) (e_X9_isFit hY hfb hG2.2.2 hB2 hS2) <| kI ?_)))
        rw [en]
        refine cv_X9_173 (M := mX9_worn) rfl dX9_worn_100 (RO.same _ _ _) (Nat.le_of_ble_eq_true rfl) (e_X9_flag (by omega)) <| kI (g_iload dX9_worn_103 rfl (g_ishl dX9_worn_105 (g_ior dX9_worn_106 ?_)))
        rw [show iOr (wrn (fun l => FitS S (h.I 151 71) (laF (F f.toNat) l) f) i) (iShl (pI (FitS S (h.I 151 71) (laF (F f.toNat) i) f)) i) = ((wrn (fun l => FitS S (h.I 151 71) (laF (F f.toNat) l) f) (i + 1) : Nat) : Int) from wo_pi (P := (fun l => FitS S (h.I 151 71) (laF (F f.toNat) l) f)) (by omega)]
        refine g_ist4 dX9_worn_107 (by decide) rfl (g_inc5 dX9_worn_109 (by decide) rfl (g_goto 30 dX9_worn_112 rfl ?_))
        exact ih (m - 1) (by omega) _ (i + 1) _ (by omega) hok (by omega) hG2
  refine g_aload_n dX9_worn_0 rfl rfl (g_iload_n dX9_worn_1 rfl rfl (cv_X9_146 (M := mX9_worn) rfl dX9_worn_2 (yo150 hY) (RO.same _ _ _) (Nat.le_of_ble_eq_true rfl) (e_X9_isFigure hY (by omega) (by omega)) <| kI ?_))
  refine g_if_ne 10 dX9_worn_5 rfl (by omega) (fun c5 => ?_) (fun c5 => ?_)
  · skip
    have hFf := hR.2 f (by omega) (by omega)
    have hfb : 0 ≤ f ∧ f ≤ 5 := by omega
    have hk := kR hFf.2.1
    refine g_aload_n dX9_worn_10 rfl rfl (g_iload_n dX9_worn_11 rfl rfl (g_iconst dX9_worn_12 (cv_X9_143 (M := mX9_worn) rfl dX9_worn_13 (yo150 hY) (RO.same _ _ _) (Nat.le_of_ble_eq_true rfl) (e_of0 hY hfb hFf.1) <| kI (g_ist2 dX9_worn_16 (by decide) rfl (g_aload_n dX9_worn_17 rfl rfl (g_iload_n dX9_worn_18 rfl rfl (g_iconst dX9_worn_19 (cv_X9_143 (M := mX9_worn) rfl dX9_worn_20 (yo150 hY) (RO.same _ _ _) (Nat.le_of_ble_eq_true rfl) (e_of4 hY hfb hFf.1) <| kI (g_ist3 dX9_worn_23 (by decide) rfl (g_iconst dX9_worn_24 (g_ist4 dX9_worn_25 (by decide) rfl ?_)))))))))))
    refine g_iconst dX9_worn_27 (g_ist5 dX9_worn_28 (by decide) rfl ?_)
    exact L30 4 h 0 (F f.toNat).la (by omega) (by omega) (by omega) ⟨rfl, fun _ _ _ => rfl, hFf.1⟩
  · skip
    refine g_iconst dX9_worn_8 ?_
    exact g_iret dX9_worn_9 rfl rfl ⟨Nat.le_refl _, Nat.le_refl _⟩ (by exact ⟨-1, rfl, rfl, Or.inl ⟨by omega, rfl⟩⟩)
