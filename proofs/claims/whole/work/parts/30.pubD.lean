/-- the first pair and day among the pairs of S -/
def FstQ (S : Nat → Nat → Prop) (P : Nat → Nat → Int → Prop) (t b nm : Int) : Prop :=
  (nm = -4 ∧ 1000000000000 < b ∧ ∀ f g, S f g → ∀ d : Int, t ≤ d → d ≤ 1000000000000 → ¬ P f g d) ∨
  (t ≤ b ∧ b ≤ 1000000000000 ∧ ∃ f g : Nat, S f g ∧ nm = 10 * f + g ∧ P f g b ∧ (∀ f' g', S f' g' → ∀ d : Int, t ≤ d → d < b → ¬ P f' g' d) ∧ ∀ f' g', S f' g' → (f' < f ∨ (f' = f ∧ g' < g)) → ¬ P f' g' b)
theorem FstQ.w {S S' : Nat → Nat → Prop} {P : Nat → Nat → Int → Prop} {t b nm : Int} (h : ∀ f g, S f g ↔ S' f g) (q : FstQ S P t b nm) : FstQ S' P t b nm := by
  rw [show S' = S from funext fun f => funext fun g => propext (h f g).symm]; exact q
theorem fst_step {S : Nat → Nat → Prop} {P : Nat → Nat → Int → Prop} {t b nm v : Int} {f g : Nat} (ht : 0 ≤ t) (q : FstQ S P t b nm) (hS : ∀ f' g', S f' g' → f' < f ∨ (f' = f ∧ g' < g)) (hv : EarlP (P f g) t v) :
    (0 ≤ v ∧ v < b → FstQ (fun x z => S x z ∨ (x = f ∧ z = g)) P t v (10 * f + g)) ∧ (¬ (0 ≤ v ∧ v < b) → FstQ (fun x z => S x z ∨ (x = f ∧ z = g)) P t b nm) := by
  constructor
  · intro c
    rcases hv with ⟨v0, _⟩ | ⟨v0, v1, v2⟩
    · omega
    refine Or.inr ⟨v0.1, v0.2, f, g, Or.inr ⟨rfl, rfl⟩, rfl, v1, ?_, ?_⟩
    · rintro f' g' (s | ⟨rfl, rfl⟩) d d0 d1
      · rcases q with ⟨_, q1, q2⟩ | ⟨q0, q1, _, _, _, _, _, q2, _⟩
        · exact q2 f' g' s d d0 (by omega)
        · exact q2 f' g' s d d0 (by omega)
      · exact v2 d d0 d1
    · rintro f' g' (s | ⟨rfl, rfl⟩) l
      · rcases q with ⟨_, q1, q2⟩ | ⟨q0, q1, _, _, _, _, _, q2, _⟩
        · exact q2 f' g' s v (by omega) (by omega)
        · exact q2 f' g' s v (by omega) (by omega)
      · omega
  · intro c
    rcases q with ⟨q0, q1, q2⟩ | ⟨q0, q1, a, e, q2, q3, q4, q5, q6⟩
    · refine Or.inl ⟨q0, q1, ?_⟩
      rintro f' g' (s | ⟨rfl, rfl⟩) d d0 d1
      · exact q2 f' g' s d d0 d1
      · rcases hv with ⟨v0, v1⟩ | ⟨v0, v1, v2⟩
        · exact v1 d d0 d1
        · omega
    · refine Or.inr ⟨q0, q1, a, e, Or.inl q2, q3, q4, ?_, ?_⟩
      · rintro f' g' (s | ⟨rfl, rfl⟩) d d0 d1
        · exact q5 f' g' s d d0 d1
        · rcases hv with ⟨v0, v1⟩ | ⟨v0, v1, v2⟩
          · exact v1 d d0 (by omega)
          · exact v2 d d0 (by omega)
      · rintro f' g' (s | ⟨rfl, rfl⟩) l
        · exact q6 f' g' s l
        · have := hS a e q2; omega
theorem FstQ.bd {S : Nat → Nat → Prop} {P : Nat → Nat → Int → Prop} {t b nm : Int} {n : Nat} (h : FstQ S P t b nm) (hS : ∀ f g, S f g → f < n ∧ g < n) (hn : n ≤ 6) : -4 ≤ nm ∧ nm ≤ 60 := by
  rcases h with ⟨a, _⟩ | ⟨_, _, f, g, s, e, _⟩
  · omega
  · have := hS f g s; omega
theorem FstQ.uniq {S : Nat → Nat → Prop} {P : Nat → Nat → Int → Prop} {t b nm b2 nm2 : Int} (h1 : FstQ S P t b nm) (h2 : FstQ S P t b2 nm2) : nm = nm2 ∧ (nm = -4 ∨ b = b2) := by
  rcases h1 with ⟨a, a1, a2⟩ | ⟨a0, a1, f, g, a2, a3, a4, a5, a6⟩ <;> rcases h2 with ⟨c, c1, c2⟩ | ⟨c0, c1, f2, g2, c2, c3, c4, c5, c6⟩
  · exact ⟨by omega, Or.inl a⟩
  · exact absurd c4 (a2 f2 g2 c2 b2 (by omega) (by omega))
  · exact absurd a4 (c2 f g a2 b (by omega) (by omega))
  · have eb : b = b2 := by
      rcases Int.lt_trichotomy b b2 with z | z | z
      · exact absurd a4 (c5 f g a2 b a0 z)
      · exact z
      · exact absurd c4 (a5 f2 g2 c2 b2 c0 z)
    subst eb
    have e1 : f = f2 ∧ g = g2 := by
      rcases (by omega : (f < f2 ∨ (f = f2 ∧ g < g2)) ∨ (f2 < f ∨ (f2 = f ∧ g2 < g)) ∨ (f = f2 ∧ g = g2)) with z | z | z
      · exact absurd a4 (c6 f g a2 z)
      · exact absurd c4 (a6 f2 g2 c2 z)
      · exact z
    obtain ⟨rfl, rfl⟩ := e1
    exact ⟨by omega, Or.inr rfl⟩
def PrP (F : Nat → Fg) (f g : Nat) (d : Int) : Prop := (F f).dr = (F g).dr ∧ OutF (F f) d ∧ OutF (F g) d
def FirstP (n : Nat) (F : Nat → Fg) (t w v : Int) : Prop := ∃ b nm : Int, FstQ (fun f g => f < g ∧ g < n) (PrP F) t b nm ∧ v = if nm = -4 then -4 else if w = 0 then b else nm
theorem FirstP.uniq {n : Nat} {F : Nat → Fg} {t w v v2 : Int} (h1 : FirstP n F t w v) (h2 : FirstP n F t w v2) : v = v2 := by
  obtain ⟨b, nm, q, rfl⟩ := h1
  obtain ⟨b2, nm2, q2, rfl⟩ := h2
  obtain ⟨rfl, e⟩ := q.uniq q2
  split
  · rfl
  · rcases e with e | rfl
    · contradiction
    · rfl
theorem FrF.cFs {h h1 : HM} (a : FrF h h1) {i : Nat} (hi : i < 6) : cFs h1 12 i = cFs h 12 i := FrF_c5 a (by omega)
theorem FrF.CF {h h1 : HM} (a : FrF h h1) (hC : CF h 12) : CF h1 12 := by
  have e : h1.I 12 3 = h.I 12 3 := by rw [(a 12 (by omega)).1]
  refine ⟨by rw [e]; exact hC.1, fun i i0 i1 => FrF_FB a (by have := hC.1; rw [e] at i1; omega) (hC.2 i i0 (by rw [e] at i1; exact i1))⟩
set_option maxRecDepth 100000 in
set_option maxHeartbeats 1000000 in
theorem e_X8_first {G : GX} {y : LY} {h : HM} {d : Nat} (hY : Lay y) {t w : Int} (ht : R64 t) (hw : R32 w) (hC : CF h 12) : EvQW G mX8_first (d + 11) [.ref 9, .long (lZ t), .int (iZ w)] y h (fun v h1 => FrF h h1 ∧ ((¬ ((0 ≤ t ∧ t ≤ 1000000000000) ∧ (w = 0 ∨ w = 1)) ∧ v = -1) ∨ (((0 ≤ t ∧ t ≤ 1000000000000) ∧ (w = 0 ∨ w = 1)) ∧ FirstP (h.I 12 3).toNat (cFs h 12) t w v))) := by
  have hnf := hC.1
  have hpd := pI_01 (0 ≤ t ∧ t ≤ 1000000000000)
  have hpd2 := pI_eq1 (P := 0 ≤ t ∧ t ≤ 1000000000000)
  have hpw := pI_01 (w = 0 ∨ w = 1)
  have hpw2 := pI_eq1 (P := w = 0 ∨ w = 1)
  refine Ev.of rfl [some (.ref 9), some (.long (lZ t)), none, some (.int (iZ w)), none, none, none, none, none, none, none] rfl (Nat.le_of_ble_eq_true rfl) ?_
  have L30 : ∀ (m : Nat) (h1 : HM) (f b nm : Int), (m : Int) = h.I 12 3 - f → (0 ≤ t ∧ t ≤ 1000000000000) ∧ (w = 0 ∨ w = 1) → 0 ≤ f ∧ f ≤ h.I 12 3 → R64 b → -4 ≤ nm ∧ nm ≤ 60 → FrF h h1 → FstQ (fun x z : Nat => (x < z ∧ (z : Int) < h.I 12 3) ∧ ((x : Int) < f ∨ ((x : Int) = f ∧ (z : Int) < f))) (PrP (cFs h 12)) t b nm → Go G mX8_first (rmo (d + 11) 0 0) (ZM G y 0 0 (fun r h1 => ∃ v_ : Int, r = some (.long (lZ v_)) ∧ (fun v h1 => FrF h h1 ∧ ((¬ ((0 ≤ t ∧ t ≤ 1000000000000) ∧ (w = 0 ∨ w = 1)) ∧ v = -1) ∨ (((0 ≤ t ∧ t ≤ 1000000000000) ∧ (w = 0 ∨ w = 1)) ∧ FirstP (h.I 12 3).toNat (cFs h 12) t w v))) v_ h1)) y 30 [some (.ref 9), some (.long (lZ t)), none, some (.int (iZ w)), some (.long (lZ b)), none, some (.int (iZ nm)), some (.int (iZ f)), none, none, none] [] h1 (0, 0) := by
    intro m
    induction m using Nat.strongRecOn with | _ m ih =>
    intro h1 f b nm hm hok hf hb hnm hfr hQ
    have e3 : h1.I 12 3 = h.I 12 3 := by rw [(hfr 12 (by omega)).1]
    have hC1 := hfr.CF hC
    have L48 : ∀ (m2 : Nat) (h1 : HM) (g b nm : Int), (m2 : Int) = h.I 12 3 - g → 0 ≤ f ∧ f < g ∧ g ≤ h.I 12 3 → R64 b → -4 ≤ nm ∧ nm ≤ 60 → FrF h h1 → FstQ (fun x z : Nat => (x < z ∧ (z : Int) < h.I 12 3) ∧ ((x : Int) < f ∨ ((x : Int) = f ∧ (z : Int) < g))) (PrP (cFs h 12)) t b nm → Go G mX8_first (rmo (d + 11) 0 0) (ZM G y 0 0 (fun r h1 => ∃ v_ : Int, r = some (.long (lZ v_)) ∧ (fun v h1 => FrF h h1 ∧ ((¬ ((0 ≤ t ∧ t ≤ 1000000000000) ∧ (w = 0 ∨ w = 1)) ∧ v = -1) ∨ (((0 ≤ t ∧ t ≤ 1000000000000) ∧ (w = 0 ∨ w = 1)) ∧ FirstP (h.I 12 3).toNat (cFs h 12) t w v))) v_ h1)) y 48 [some (.ref 9), some (.long (lZ t)), none, some (.int (iZ w)), some (.long (lZ b)), none, some (.int (iZ nm)), some (.int (iZ f)), some (.int (iZ g)), none, none] [] h1 (0, 0) := by
      clear hQ hfr hb hnm e3 hC1 h1 b nm
      intro m2
      induction m2 using Nat.strongRecOn with | _ m2 ih2 =>
      intro h1 g b nm hm2 hg hb hnm hfr hQ
      have e3 : h1.I 12 3 = h.I 12 3 := by rw [(hfr 12 (by omega)).1]
      have hC1 := hfr.CF hC
      refine g_iload dX8_first_48 rfl (g_aload_n dX8_first_50 rfl rfl (gf_X8_19 (M := mX8_first) rfl dX8_first_51 (yo9 hY) (yr9_1 hY) (gf_X8_98 (M := mX8_first) rfl dX8_first_54 (ck_o hY clk12) ?_)))
      refine g_icmp_ge 156 dX8_first_57 rfl (by omega) (by omega) (fun c57 => ?_) (fun c57 => ?_)
      · skip
        refine g_inc7 dX8_first_156 (by decide) rfl (g_goto 30 dX8_first_159 rfl (g_dr8 ?_))
        exact ih (m - 1) (by omega) _ (f + 1) _ _ (by omega) hok (by omega) hb hnm hfr (FstQ.w (by intro x z; constructor <;> intro q <;> omega) hQ)
      · skip
        have hFf := hC.2 f (by omega) (by omega)
        have hFg := hC.2 g (by omega) (by omega)
        have hp2 := p2or (f := f) (g := g) (n := h1.I 12 3) (by omega) (by omega) (by omega)
        have ef := hfr.cFs (i := f.toNat) (by omega)
        have eg := hfr.cFs (i := g.toNat) (by omega)
        have edr : h1.I (12 + 4 + f.toNat) 2 = h.I (12 + 4 + f.toNat) 2 := by rw [(hfr (12 + 4 + f.toNat) (by omega)).1]
        have edg : h1.I (12 + 4 + g.toNat) 2 = h.I (12 + 4 + g.toNat) 2 := by rw [(hfr (12 + 4 + g.toNat) (by omega)).1]
        refine g_aload_n dX8_first_60 rfl rfl (gf_X8_19 (M := mX8_first) rfl dX8_first_61 (yo9 hY) (yr9_1 hY) (gf_X8_120 (M := mX8_first) rfl dX8_first_64 (ck_o hY clk12) (ck_r0 hY clk12) (g_iload dX8_first_67 rfl (g_aald dX8_first_69 (ck_a0 hY clk12) (by decide) (D0 := "ClockTeeth$Figure") rfl ⟨by omega, by omega, by omega⟩ (ck_fr hY clk12 (by omega)) (gf_X8_133 (M := mX8_first) rfl dX8_first_70 (ck_fo hY clk12 (by omega)) (g_aload_n dX8_first_73 rfl rfl (gf_X8_19 (M := mX8_first) rfl dX8_first_74 (yo9 hY) (yr9_1 hY) (gf_X8_120 (M := mX8_first) rfl dX8_first_77 (ck_o hY clk12) (ck_r0 hY clk12) (g_iload dX8_first_80 rfl (g_aald dX8_first_82 (ck_a0 hY clk12) (by decide) (D0 := "ClockTeeth$Figure") rfl ⟨by omega, by omega, by omega⟩ (ck_fr hY clk12 (by omega)) (gf_X8_133 (M := mX8_first) rfl dX8_first_83 (ck_fo hY clk12 (by omega)) ?_)))))))))))
        refine g_icmp_ne 116 dX8_first_86 rfl (by omega) (by omega) (fun c86 => ?_) (fun c86 => ?_)
        · skip
          refine c2_X8_172 (M := mX8_first) rfl dX8_first_116 ?_
          refine g_lst9 dX8_first_119 (by decide) rfl (g_lload dX8_first_121 rfl (g_lconst (v := 0) dX8_first_123 rfl ?_))
          refine g_lcmp_lt 150 dX8_first_124 dX8_first_125 rfl (by omega) (by omega) (fun c124 => ?_) (fun c124 => ?_)
          · skip
            refine g_inc8 dX8_first_150 (by decide) rfl (g_goto 48 dX8_first_153 rfl (g_dr9 ?_))
            first
            | (exfalso; omega)
            | exact ih2 (m2 - 1) (by omega) _ (g + 1) _ _ (by omega) (by omega) (by omega) (by omega) (hfr.tr hq110.1) (FstQ.w (by intro x z; constructor <;> intro q <;> omega) (hst.1 (by omega)))
            | exact ih2 (m2 - 1) (by omega) _ (g + 1) _ _ (by omega) (by omega) (by omega) (by omega) (hfr.tr hq110.1) (FstQ.w (by intro x z; constructor <;> intro q <;> omega) (hst.2 (by omega)))
            | exact ih2 (m2 - 1) (by omega) _ (g + 1) _ _ (by omega) (by omega) (by omega) (by omega) hfr (FstQ.w (by intro x z; constructor <;> intro q <;> omega) ((fst_step (by omega) hQ (f := f.toNat) (g := g.toNat) (v := -4) (by rintro f2 g2 ⟨z1, z2⟩; omega) (Or.inl ⟨rfl, fun d _ _ z => by have z1 : h.I (12 + 4 + f.toNat) 2 = h.I (12 + 4 + g.toNat) 2 := z.1; omega⟩)).2 (by omega)))
          · skip
            refine g_lload dX8_first_128 rfl (g_lload dX8_first_130 rfl ?_)
            refine g_lcmp_ge 150 dX8_first_132 dX8_first_133 rfl (by omega) (by omega) (fun c132 => ?_) (fun c132 => ?_)
            · skip
              refine g_inc8 dX8_first_150 (by decide) rfl (g_goto 48 dX8_first_153 rfl (g_dr9 ?_))
              first
              | (exfalso; omega)
              | exact ih2 (m2 - 1) (by omega) _ (g + 1) _ _ (by omega) (by omega) (by omega) (by omega) (hfr.tr hq110.1) (FstQ.w (by intro x z; constructor <;> intro q <;> omega) (hst.1 (by omega)))
              | exact ih2 (m2 - 1) (by omega) _ (g + 1) _ _ (by omega) (by omega) (by omega) (by omega) (hfr.tr hq110.1) (FstQ.w (by intro x z; constructor <;> intro q <;> omega) (hst.2 (by omega)))
              | exact ih2 (m2 - 1) (by omega) _ (g + 1) _ _ (by omega) (by omega) (by omega) (by omega) hfr (FstQ.w (by intro x z; constructor <;> intro q <;> omega) ((fst_step (by omega) hQ (f := f.toNat) (g := g.toNat) (v := -4) (by rintro f2 g2 ⟨z1, z2⟩; omega) (Or.inl ⟨rfl, fun d _ _ z => by have z1 : h.I (12 + 4 + f.toNat) 2 = h.I (12 + 4 + g.toNat) 2 := z.1; omega⟩)).2 (by omega)))
            · skip
              refine g_lload dX8_first_136 rfl (g_lst4 dX8_first_138 (by decide) rfl (g_bipush dX8_first_140 kb10 (g_iload dX8_first_142 rfl (g_imul dX8_first_144 (g_iload dX8_first_145 rfl (g_iadd dX8_first_147 (g_ist6 dX8_first_148 (by decide) rfl (g_inc8 dX8_first_150 (by decide) rfl (g_goto 48 dX8_first_153 rfl (g_dr9 ?_))))))))))
              first
              | (exfalso; omega)
              | exact ih2 (m2 - 1) (by omega) _ (g + 1) _ _ (by omega) (by omega) (by omega) (by omega) (hfr.tr hq110.1) (FstQ.w (by intro x z; constructor <;> intro q <;> omega) (hst.1 (by omega)))
              | exact ih2 (m2 - 1) (by omega) _ (g + 1) _ _ (by omega) (by omega) (by omega) (by omega) (hfr.tr hq110.1) (FstQ.w (by intro x z; constructor <;> intro q <;> omega) (hst.2 (by omega)))
              | exact ih2 (m2 - 1) (by omega) _ (g + 1) _ _ (by omega) (by omega) (by omega) (by omega) hfr (FstQ.w (by intro x z; constructor <;> intro q <;> omega) ((fst_step (by omega) hQ (f := f.toNat) (g := g.toNat) (v := -4) (by rintro f2 g2 ⟨z1, z2⟩; omega) (Or.inl ⟨rfl, fun d _ _ z => by have z1 : h.I (12 + 4 + f.toNat) 2 = h.I (12 + 4 + g.toNat) 2 := z.1; omega⟩)).2 (by omega)))
        · skip
          refine g_aload_n dX8_first_89 rfl rfl (gf_X8_43 (M := mX8_first) rfl dX8_first_90 (yo9 hY) (yr9_6 hY) (g_aload_n dX8_first_93 rfl rfl (gf_X8_19 (M := mX8_first) rfl dX8_first_94 (yo9 hY) (yr9_1 hY) (gf_X8_120 (M := mX8_first) rfl dX8_first_97 (ck_o hY clk12) (ck_r0 hY clk12) (g_iconst dX8_first_100 (g_iload dX8_first_101 rfl (g_ishl dX8_first_103 (g_iconst dX8_first_104 (g_iload dX8_first_105 rfl (g_ishl dX8_first_107 (g_ior dX8_first_108 ?_)))))))))))
          rw [hp2.1]
          refine g_lload_n dX8_first_109 rfl rfl ?_
          refine cv_X8_168 (M := mX8_first) rfl dX8_first_110 (yo71 hY) (RO.same _ _ _) (Nat.le_of_ble_eq_true rfl) (e_X2_earliest hY hC1 hp2.2 (by omega)) (kQW fun v110 h110 hq110 => ?_)
          have hE : EarlP (PrP (cFs h 12) f.toNat g.toNat) t v110 := EarlP_congr (fun d => (all2 (by omega) (by omega) d).trans (by rw [ef, eg]; exact ⟨fun z => ⟨(show h.I (12 + 4 + f.toNat) 2 = h.I (12 + 4 + g.toNat) 2 by omega), z.1, z.2⟩, fun z => z.2⟩)) hq110.2
          have hvb : -4 ≤ v110 ∧ v110 ≤ 1000000000000 := (by rcases hq110.2 with ⟨z, _⟩ | ⟨z, _⟩ <;> omega)
          have hst := fst_step (by omega) hQ (f := f.toNat) (g := g.toNat) (by rintro f2 g2 ⟨z1, z2⟩; omega) hE
          rw [show 10 * (f.toNat : Int) + (g.toNat : Int) = 10 * f + g by omega] at hst
          refine g_goto 119 dX8_first_113 rfl ?_
          refine g_lst9 dX8_first_119 (by decide) rfl (g_lload dX8_first_121 rfl (g_lconst (v := 0) dX8_first_123 rfl ?_))
          refine g_lcmp_lt 150 dX8_first_124 dX8_first_125 rfl (by omega) (by omega) (fun c124 => ?_) (fun c124 => ?_)
          · skip
            refine g_inc8 dX8_first_150 (by decide) rfl (g_goto 48 dX8_first_153 rfl (g_dr9 ?_))
            first
            | (exfalso; omega)
            | exact ih2 (m2 - 1) (by omega) _ (g + 1) _ _ (by omega) (by omega) (by omega) (by omega) (hfr.tr hq110.1) (FstQ.w (by intro x z; constructor <;> intro q <;> omega) (hst.1 (by omega)))
            | exact ih2 (m2 - 1) (by omega) _ (g + 1) _ _ (by omega) (by omega) (by omega) (by omega) (hfr.tr hq110.1) (FstQ.w (by intro x z; constructor <;> intro q <;> omega) (hst.2 (by omega)))
            | exact ih2 (m2 - 1) (by omega) _ (g + 1) _ _ (by omega) (by omega) (by omega) (by omega) hfr (FstQ.w (by intro x z; constructor <;> intro q <;> omega) ((fst_step (by omega) hQ (f := f.toNat) (g := g.toNat) (v := -4) (by rintro f2 g2 ⟨z1, z2⟩; omega) (Or.inl ⟨rfl, fun d _ _ z => by have z1 : h.I (12 + 4 + f.toNat) 2 = h.I (12 + 4 + g.toNat) 2 := z.1; omega⟩)).2 (by omega)))
          · skip
            refine g_lload dX8_first_128 rfl (g_lload dX8_first_130 rfl ?_)
            refine g_lcmp_ge 150 dX8_first_132 dX8_first_133 rfl (by omega) (by omega) (fun c132 => ?_) (fun c132 => ?_)
            · skip
              refine g_inc8 dX8_first_150 (by decide) rfl (g_goto 48 dX8_first_153 rfl (g_dr9 ?_))
              first
              | (exfalso; omega)
              | exact ih2 (m2 - 1) (by omega) _ (g + 1) _ _ (by omega) (by omega) (by omega) (by omega) (hfr.tr hq110.1) (FstQ.w (by intro x z; constructor <;> intro q <;> omega) (hst.1 (by omega)))
              | exact ih2 (m2 - 1) (by omega) _ (g + 1) _ _ (by omega) (by omega) (by omega) (by omega) (hfr.tr hq110.1) (FstQ.w (by intro x z; constructor <;> intro q <;> omega) (hst.2 (by omega)))
              | exact ih2 (m2 - 1) (by omega) _ (g + 1) _ _ (by omega) (by omega) (by omega) (by omega) hfr (FstQ.w (by intro x z; constructor <;> intro q <;> omega) ((fst_step (by omega) hQ (f := f.toNat) (g := g.toNat) (v := -4) (by rintro f2 g2 ⟨z1, z2⟩; omega) (Or.inl ⟨rfl, fun d _ _ z => by have z1 : h.I (12 + 4 + f.toNat) 2 = h.I (12 + 4 + g.toNat) 2 := z.1; omega⟩)).2 (by omega)))
            · skip
              refine g_lload dX8_first_136 rfl (g_lst4 dX8_first_138 (by decide) rfl (g_bipush dX8_first_140 kb10 (g_iload dX8_first_142 rfl (g_imul dX8_first_144 (g_iload dX8_first_145 rfl (g_iadd dX8_first_147 (g_ist6 dX8_first_148 (by decide) rfl (g_inc8 dX8_first_150 (by decide) rfl (g_goto 48 dX8_first_153 rfl (g_dr9 ?_))))))))))
              first
              | (exfalso; omega)
              | exact ih2 (m2 - 1) (by omega) _ (g + 1) _ _ (by omega) (by omega) (by omega) (by omega) (hfr.tr hq110.1) (FstQ.w (by intro x z; constructor <;> intro q <;> omega) (hst.1 (by omega)))
              | exact ih2 (m2 - 1) (by omega) _ (g + 1) _ _ (by omega) (by omega) (by omega) (by omega) (hfr.tr hq110.1) (FstQ.w (by intro x z; constructor <;> intro q <;> omega) (hst.2 (by omega)))
              | exact ih2 (m2 - 1) (by omega) _ (g + 1) _ _ (by omega) (by omega) (by omega) (by omega) hfr (FstQ.w (by intro x z; constructor <;> intro q <;> omega) ((fst_step (by omega) hQ (f := f.toNat) (g := g.toNat) (v := -4) (by rintro f2 g2 ⟨z1, z2⟩; omega) (Or.inl ⟨rfl, fun d _ _ z => by have z1 : h.I (12 + 4 + f.toNat) 2 = h.I (12 + 4 + g.toNat) 2 := z.1; omega⟩)).2 (by omega)))
    refine g_iload dX8_first_30 rfl (g_aload_n dX8_first_32 rfl rfl (gf_X8_19 (M := mX8_first) rfl dX8_first_33 (yo9 hY) (yr9_1 hY) (gf_X8_98 (M := mX8_first) rfl dX8_first_36 (ck_o hY clk12) ?_)))
    refine g_icmp_ge 162 dX8_first_39 rfl (by omega) (by omega) (fun c39 => ?_) (fun c39 => ?_)
    · skip
      refine g_iload dX8_first_162 rfl (g_bipush dX8_first_164 kbm4 ?_)
      refine g_icmp_ne 173 dX8_first_166 rfl (by omega) (by omega) (fun c166 => ?_) (fun c166 => ?_)
      · skip
        refine g_iload_n dX8_first_173 rfl rfl ?_
        refine g_if_ne 182 dX8_first_174 rfl (by omega) (fun c174 => ?_) (fun c174 => ?_)
        · skip
          refine g_iload dX8_first_182 rfl (g_i2l dX8_first_184 (by omega) ?_)
          exact g_lret dX8_first_185 rfl rfl ⟨Nat.le_refl _, Nat.le_refl _⟩ (by refine ⟨_, rfl, hfr, Or.inr ⟨hok, b, nm, FstQ.w (by intro x z; constructor <;> intro q <;> omega) hQ, ?_⟩⟩; first | rw [if_pos (by omega)] | rw [if_neg (by omega), if_pos (by omega)] | rw [if_neg (by omega), if_neg (by omega)])
        · skip
          refine g_lload dX8_first_177 rfl (g_goto 185 dX8_first_179 rfl ?_)
          exact g_lret dX8_first_185 rfl rfl ⟨Nat.le_refl _, Nat.le_refl _⟩ (by refine ⟨_, rfl, hfr, Or.inr ⟨hok, b, nm, FstQ.w (by intro x z; constructor <;> intro q <;> omega) hQ, ?_⟩⟩; first | rw [if_pos (by omega)] | rw [if_neg (by omega), if_pos (by omega)] | rw [if_neg (by omega), if_neg (by omega)])
      · skip
        refine c2_X8_172 (M := mX8_first) rfl dX8_first_169 ?_
        exact g_lret dX8_first_172 rfl rfl ⟨Nat.le_refl _, Nat.le_refl _⟩ (by refine ⟨_, rfl, hfr, Or.inr ⟨hok, b, nm, FstQ.w (by intro x z; constructor <;> intro q <;> omega) hQ, ?_⟩⟩; first | rw [if_pos (by omega)] | rw [if_neg (by omega), if_pos (by omega)] | rw [if_neg (by omega), if_neg (by omega)])
    · skip
      refine g_iload dX8_first_42 rfl (g_iconst dX8_first_44 (g_iadd dX8_first_45 (g_ist8 dX8_first_46 (by decide) rfl ?_)))
      exact L48 (h.I 12 3 - (f + 1)).toNat h1 (f + 1) b nm (by omega) (by omega) hb hnm hfr (FstQ.w (by intro x z; constructor <;> intro q <;> omega) hQ)
  refine g_lload_n dX8_first_0 rfl rfl (cv_X8_160 (M := mX8_first) rfl dX8_first_1 (RO.same _ _ _) (Nat.le_of_ble_eq_true rfl) (e_X8_isDay (by omega)) <| kI ?_)
  refine g_if_eq 14 dX8_first_4 rfl (by omega) (fun c4 => ?_) (fun c4 => ?_)
  · skip
    refine c2_X8_166 (M := mX8_first) rfl dX8_first_14 ?_
    exact g_lret dX8_first_17 rfl rfl ⟨Nat.le_refl _, Nat.le_refl _⟩ (by refine ⟨-1, rfl, fun _ _ => ⟨rfl, rfl⟩, Or.inl ⟨by omega, rfl⟩⟩)
  · skip
    refine g_iload_n dX8_first_7 rfl rfl (cv_X8_207 (M := mX8_first) rfl dX8_first_8 (RO.same _ _ _) (Nat.le_of_ble_eq_true rfl) (e_X8_isYesOrNo (by omega)) <| kI ?_)
    refine g_if_ne 18 dX8_first_11 rfl (by omega) (fun c11 => ?_) (fun c11 => ?_)
    · skip
      refine c2_X8_210 (M := mX8_first) rfl dX8_first_18 (g_lst4 dX8_first_21 (by decide) rfl (g_bipush dX8_first_23 kbm4 (g_ist6 dX8_first_25 (by decide) rfl (g_iconst dX8_first_27 (g_ist7 dX8_first_28 (by decide) rfl ?_)))))
      exact L30 (h.I 12 3).toNat h 0 _ (-4) (by omega) (by omega) (by omega) (by omega) (by omega) (fun _ _ => ⟨rfl, rfl⟩) (Or.inl ⟨rfl, by omega, fun f g q => by omega⟩)
    · skip
      refine c2_X8_166 (M := mX8_first) rfl dX8_first_14 ?_
      exact g_lret dX8_first_17 rfl rfl ⟨Nat.le_refl _, Nat.le_refl _⟩ (by refine ⟨-1, rfl, fun _ _ => ⟨rfl, rfl⟩, Or.inl ⟨by omega, rfl⟩⟩)
