theorem EarlP_congr {P Q : Int → Prop} (h : ∀ d, P d ↔ Q d) {t r : Int} (hp : EarlP P t r) : EarlP Q t r := by
  rw [show Q = P from funext fun d => propext (h d).symm]; exact hp
theorem all1 {F : Nat → Fg} {f : Int} (hf : 0 ≤ f ∧ f < 6) (d : Int) : AllOut F (2 ^ f.toNat) d ↔ OutF (F f.toNat) d := by
  have e : ((2 : Int) ^ f.toNat).toNat = 2 ^ f.toNat := by
    rw [show ((2 : Int) ^ f.toNat) = ((2 ^ f.toNat : Nat) : Int) by push_cast; rfl, Int.toNat_natCast]
  unfold AllOut
  rw [e]
  constructor
  · intro q; exact q f.toNat (by omega) (by rw [Nat.testBit_two_pow]; simp)
  · intro q g g0 g1; rw [Nat.testBit_two_pow] at g1; simp at g1; rw [← g1]; exact q
theorem all2 {F : Nat → Fg} {f g : Int} (hf : 0 ≤ f ∧ f < 6) (hg : 0 ≤ g ∧ g < 6) (d : Int) : AllOut F ((2 ^ f.toNat ||| 2 ^ g.toNat : Nat) : Int) d ↔ OutF (F f.toNat) d ∧ OutF (F g.toNat) d := by
  unfold AllOut
  rw [Int.toNat_natCast]
  constructor
  · intro q
    exact ⟨q f.toNat (by omega) (by rw [Nat.testBit_or, Nat.testBit_two_pow]; simp), q g.toNat (by omega) (by rw [Nat.testBit_or, Nat.testBit_two_pow, Nat.testBit_two_pow]; simp)⟩
  · intro q k k0 k1
    rw [Nat.testBit_or, Nat.testBit_two_pow, Nat.testBit_two_pow] at k1
    simp at k1
    rcases k1 with z | z
    · rw [← z]; exact q.1
    · rw [← z]; exact q.2
theorem p2lt {f n : Int} (hf : 0 ≤ f ∧ f < n) : 0 ≤ (2 : Int) ^ f.toNat ∧ (2 : Int) ^ f.toNat < 2 ^ n.toNat := by
  have h1 : 2 ^ f.toNat < 2 ^ n.toNat := Nat.pow_lt_pow_right (by decide) (by omega)
  have e1 : ((2 : Int) ^ f.toNat) = ((2 ^ f.toNat : Nat) : Int) := by push_cast; rfl
  have e2 : ((2 : Int) ^ n.toNat) = ((2 ^ n.toNat : Nat) : Int) := by push_cast; rfl
  rw [e1, e2]; exact ⟨Int.natCast_nonneg _, Int.ofNat_lt.mpr h1⟩
theorem p2or {f g n : Int} (hf : 0 ≤ f ∧ f < n) (hg : 0 ≤ g ∧ g < n) (hn : n ≤ 6) : iOr (iShl 1 f) (iShl 1 g) = ((2 ^ f.toNat ||| 2 ^ g.toNat : Nat) : Int) ∧ 0 ≤ ((2 ^ f.toNat ||| 2 ^ g.toNat : Nat) : Int) ∧ ((2 ^ f.toNat ||| 2 ^ g.toNat : Nat) : Int) < 2 ^ n.toNat := by
  have h1 : 2 ^ f.toNat < 2 ^ n.toNat := Nat.pow_lt_pow_right (by decide) (by omega)
  have h2 : 2 ^ g.toNat < 2 ^ n.toNat := Nat.pow_lt_pow_right (by decide) (by omega)
  have h3 := Nat.or_lt_two_pow h1 h2
  have h4 : 2 ^ n.toNat ≤ 2 ^ 6 := Nat.pow_le_pow_right (by decide) (by omega)
  have e2 : ((2 : Int) ^ n.toNat) = ((2 ^ n.toNat : Nat) : Int) := by push_cast; rfl
  refine ⟨?_, by omega, by rw [e2]; omega⟩
  rw [iShl1' (by omega), iShl1' (by omega)]
  have := iOrN (a := 2 ^ f.toNat) (b := 2 ^ g.toNat) (by omega) (by omega)
  push_cast at this ⊢
  exact this
set_option maxRecDepth 100000 in
set_option maxHeartbeats 1000000 in
theorem e_X8_next {G : GX} {y : LY} {h : HM} {d : Nat} (hY : Lay y) {f t : Int} (hf : R32 f) (ht : R64 t) (hC : CF h 12) : EvQW G mX8_next (d + 11) [.ref 9, .int (iZ f), .long (lZ t)] y h (fun v h1 => FrF h h1 ∧ ((¬ ((0 ≤ f ∧ f < h.I 12 3) ∧ (0 ≤ t ∧ t ≤ 1000000000000)) ∧ v = -1) ∨ (((0 ≤ f ∧ f < h.I 12 3) ∧ (0 ≤ t ∧ t ≤ 1000000000000)) ∧ EarlP (OutF (cFs h 12 f.toNat)) t v))) := by
  have hnf := hC.1
  have hpf := pI_01 (0 ≤ f ∧ f < h.I 12 3)
  have hpf2 := pI_eq1 (P := 0 ≤ f ∧ f < h.I 12 3)
  have hpd := pI_01 (0 ≤ t ∧ t ≤ 1000000000000)
  have hpd2 := pI_eq1 (P := 0 ≤ t ∧ t ≤ 1000000000000)
  refine Ev.of rfl [some (.ref 9), some (.int (iZ f)), some (.long (lZ t)), none] rfl (Nat.le_of_ble_eq_true rfl) ?_
  refine g_aload_n dX8_next_0 rfl rfl (g_iload_n dX8_next_1 rfl rfl (cv_X8_116 (M := mX8_next) rfl dX8_next_2 (yo9 hY) (RO.same _ _ _) (Nat.le_of_ble_eq_true rfl) (e_X8_isFigure hY (by omega) (by omega)) <| kI ?_))
  refine g_if_eq 15 dX8_next_5 rfl (by omega) (fun c5 => ?_) (fun c5 => ?_)
  · skip
    refine c2_X8_166 (M := mX8_next) rfl dX8_next_15 ?_
    exact g_lret dX8_next_18 rfl rfl ⟨Nat.le_refl _, Nat.le_refl _⟩ (by first | (refine ⟨-1, rfl, fun _ _ => ⟨rfl, rfl⟩, Or.inl ⟨by omega, rfl⟩⟩) | exact ⟨_, rfl, hq34.1, Or.inr ⟨by omega, EarlP_congr (all1 (by omega)) hq34.2⟩⟩)
  · skip
    refine g_lload_n dX8_next_8 rfl rfl (cv_X8_160 (M := mX8_next) rfl dX8_next_9 (RO.same _ _ _) (Nat.le_of_ble_eq_true rfl) (e_X8_isDay (by omega)) <| kI ?_)
    refine g_if_ne 19 dX8_next_12 rfl (by omega) (fun c12 => ?_) (fun c12 => ?_)
    · skip
      have hp2 := p2lt (f := f) (n := h.I 12 3) (by omega)
      have hsh := iShl1' (k := f) (by omega)
      refine g_aload_n dX8_next_19 rfl rfl (gf_X8_43 (M := mX8_next) rfl dX8_next_20 (yo9 hY) (yr9_6 hY) (g_aload_n dX8_next_23 rfl rfl (gf_X8_19 (M := mX8_next) rfl dX8_next_24 (yo9 hY) (yr9_1 hY) (gf_X8_120 (M := mX8_next) rfl dX8_next_27 (ck_o hY clk12) (ck_r0 hY clk12) (g_iconst dX8_next_30 (g_iload_n dX8_next_31 rfl rfl (g_ishl dX8_next_32 ?_)))))))
      rw [hsh]
      refine g_lload_n dX8_next_33 rfl rfl ?_
      refine cv_X8_168 (M := mX8_next) rfl dX8_next_34 (yo71 hY) (RO.same _ _ _) (Nat.le_of_ble_eq_true rfl) (e_X2_earliest hY hC hp2 (by omega)) (kQW fun v34 h34 hq34 => ?_)
      exact g_lret dX8_next_37 rfl rfl ⟨Nat.le_refl _, Nat.le_refl _⟩ (by first | (refine ⟨-1, rfl, fun _ _ => ⟨rfl, rfl⟩, Or.inl ⟨by omega, rfl⟩⟩) | exact ⟨_, rfl, hq34.1, Or.inr ⟨by omega, EarlP_congr (all1 (by omega)) hq34.2⟩⟩)
    · skip
      refine c2_X8_166 (M := mX8_next) rfl dX8_next_15 ?_
      exact g_lret dX8_next_18 rfl rfl ⟨Nat.le_refl _, Nat.le_refl _⟩ (by first | (refine ⟨-1, rfl, fun _ _ => ⟨rfl, rfl⟩, Or.inl ⟨by omega, rfl⟩⟩) | exact ⟨_, rfl, hq34.1, Or.inr ⟨by omega, EarlP_congr (all1 (by omega)) hq34.2⟩⟩)
set_option maxRecDepth 100000 in
set_option maxHeartbeats 1000000 in
theorem e_X8_together {G : GX} {y : LY} {h : HM} {d : Nat} (hY : Lay y) {f g t : Int} (hf : R32 f) (hg : R32 g) (ht : R64 t) (hC : CF h 12) : EvQW G mX8_together (d + 11) [.ref 9, .int (iZ f), .int (iZ g), .long (lZ t)] y h (fun v h1 => FrF h h1 ∧ ((¬ (((0 ≤ f ∧ f < h.I 12 3) ∧ (0 ≤ g ∧ g < h.I 12 3) ∧ f ≠ g) ∧ (0 ≤ t ∧ t ≤ 1000000000000)) ∧ v = -1) ∨ ((((0 ≤ f ∧ f < h.I 12 3) ∧ (0 ≤ g ∧ g < h.I 12 3) ∧ f ≠ g) ∧ (0 ≤ t ∧ t ≤ 1000000000000)) ∧ EarlP (fun d => OutF (cFs h 12 f.toNat) d ∧ OutF (cFs h 12 g.toNat) d) t v))) := by
  have hnf := hC.1
  have hpp := pI_01 ((0 ≤ f ∧ f < h.I 12 3) ∧ (0 ≤ g ∧ g < h.I 12 3) ∧ f ≠ g)
  have hpp2 := pI_eq1 (P := (0 ≤ f ∧ f < h.I 12 3) ∧ (0 ≤ g ∧ g < h.I 12 3) ∧ f ≠ g)
  have hpd := pI_01 (0 ≤ t ∧ t ≤ 1000000000000)
  have hpd2 := pI_eq1 (P := 0 ≤ t ∧ t ≤ 1000000000000)
  refine Ev.of rfl [some (.ref 9), some (.int (iZ f)), some (.int (iZ g)), some (.long (lZ t)), none] rfl (Nat.le_of_ble_eq_true rfl) ?_
  refine g_aload_n dX8_together_0 rfl rfl (g_iload_n dX8_together_1 rfl rfl (g_iload_n dX8_together_2 rfl rfl (cv_X8_193 (M := mX8_together) rfl dX8_together_3 (yo9 hY) (RO.same _ _ _) (Nat.le_of_ble_eq_true rfl) (e_X8_isPair hY (by omega) (by omega) (by omega)) <| kI ?_)))
  refine g_if_eq 16 dX8_together_6 rfl (by omega) (fun c6 => ?_) (fun c6 => ?_)
  · skip
    refine c2_X8_166 (M := mX8_together) rfl dX8_together_16 ?_
    exact g_lret dX8_together_19 rfl rfl ⟨Nat.le_refl _, Nat.le_refl _⟩ (by first | (refine ⟨-1, rfl, fun _ _ => ⟨rfl, rfl⟩, Or.inl ⟨by omega, rfl⟩⟩) | exact ⟨_, rfl, hq39.1, Or.inr ⟨by omega, EarlP_congr (all2 (by omega) (by omega)) hq39.2⟩⟩)
  · skip
    refine g_lload_n dX8_together_9 rfl rfl (cv_X8_160 (M := mX8_together) rfl dX8_together_10 (RO.same _ _ _) (Nat.le_of_ble_eq_true rfl) (e_X8_isDay (by omega)) <| kI ?_)
    refine g_if_ne 20 dX8_together_13 rfl (by omega) (fun c13 => ?_) (fun c13 => ?_)
    · skip
      have hp2 := p2or (f := f) (g := g) (n := h.I 12 3) (by omega) (by omega) (by omega)
      refine g_aload_n dX8_together_20 rfl rfl (gf_X8_43 (M := mX8_together) rfl dX8_together_21 (yo9 hY) (yr9_6 hY) (g_aload_n dX8_together_24 rfl rfl (gf_X8_19 (M := mX8_together) rfl dX8_together_25 (yo9 hY) (yr9_1 hY) (gf_X8_120 (M := mX8_together) rfl dX8_together_28 (ck_o hY clk12) (ck_r0 hY clk12) (g_iconst dX8_together_31 (g_iload_n dX8_together_32 rfl rfl (g_ishl dX8_together_33 (g_iconst dX8_together_34 (g_iload_n dX8_together_35 rfl rfl (g_ishl dX8_together_36 (g_ior dX8_together_37 ?_)))))))))))
      rw [hp2.1]
      refine g_lload_n dX8_together_38 rfl rfl ?_
      refine cv_X8_168 (M := mX8_together) rfl dX8_together_39 (yo71 hY) (RO.same _ _ _) (Nat.le_of_ble_eq_true rfl) (e_X2_earliest hY hC hp2.2 (by omega)) (kQW fun v39 h39 hq39 => ?_)
      exact g_lret dX8_together_42 rfl rfl ⟨Nat.le_refl _, Nat.le_refl _⟩ (by first | (refine ⟨-1, rfl, fun _ _ => ⟨rfl, rfl⟩, Or.inl ⟨by omega, rfl⟩⟩) | exact ⟨_, rfl, hq39.1, Or.inr ⟨by omega, EarlP_congr (all2 (by omega) (by omega)) hq39.2⟩⟩)
    · skip
      refine c2_X8_166 (M := mX8_together) rfl dX8_together_16 ?_
      exact g_lret dX8_together_19 rfl rfl ⟨Nat.le_refl _, Nat.le_refl _⟩ (by first | (refine ⟨-1, rfl, fun _ _ => ⟨rfl, rfl⟩, Or.inl ⟨by omega, rfl⟩⟩) | exact ⟨_, rfl, hq39.1, Or.inr ⟨by omega, EarlP_congr (all2 (by omega) (by omega)) hq39.2⟩⟩)
set_option maxRecDepth 100000 in
set_option maxHeartbeats 1000000 in
theorem e_X8_all {G : GX} {y : LY} {h : HM} {d : Nat} (hY : Lay y) {s t : Int} (hs : R32 s) (ht : R64 t) (hC : CF h 12) : EvQW G mX8_all (d + 11) [.ref 9, .int (iZ s), .long (lZ t)] y h (fun v h1 => FrF h h1 ∧ ((¬ ((0 < s ∧ s < 2 ^ (h.I 12 3).toNat) ∧ (0 ≤ t ∧ t ≤ 1000000000000)) ∧ v = -1) ∨ (((0 < s ∧ s < 2 ^ (h.I 12 3).toNat) ∧ (0 ≤ t ∧ t ≤ 1000000000000)) ∧ EarlP (AllOut (cFs h 12) s) t v))) := by
  have hnf := hC.1
  have hps := pI_01 (0 < s ∧ s < 2 ^ (h.I 12 3).toNat)
  have hps2 := pI_eq1 (P := 0 < s ∧ s < 2 ^ (h.I 12 3).toNat)
  have hpd := pI_01 (0 ≤ t ∧ t ≤ 1000000000000)
  have hpd2 := pI_eq1 (P := 0 ≤ t ∧ t ≤ 1000000000000)
  refine Ev.of rfl [some (.ref 9), some (.int (iZ s)), some (.long (lZ t)), none] rfl (Nat.le_of_ble_eq_true rfl) ?_
  refine g_aload_n dX8_all_0 rfl rfl (g_iload_n dX8_all_1 rfl rfl (cv_X8_197 (M := mX8_all) rfl dX8_all_2 (yo9 hY) (RO.same _ _ _) (Nat.le_of_ble_eq_true rfl) (e_X8_isSome hY (by omega) (by omega)) <| kI ?_))
  refine g_if_eq 15 dX8_all_5 rfl (by omega) (fun c5 => ?_) (fun c5 => ?_)
  · skip
    refine c2_X8_166 (M := mX8_all) rfl dX8_all_15 ?_
    exact g_lret dX8_all_18 rfl rfl ⟨Nat.le_refl _, Nat.le_refl _⟩ (by first | (refine ⟨-1, rfl, fun _ _ => ⟨rfl, rfl⟩, Or.inl ⟨by omega, rfl⟩⟩) | exact ⟨_, rfl, hq32.1, Or.inr ⟨by omega, hq32.2⟩⟩)
  · skip
    refine g_lload_n dX8_all_8 rfl rfl (cv_X8_160 (M := mX8_all) rfl dX8_all_9 (RO.same _ _ _) (Nat.le_of_ble_eq_true rfl) (e_X8_isDay (by omega)) <| kI ?_)
    refine g_if_ne 19 dX8_all_12 rfl (by omega) (fun c12 => ?_) (fun c12 => ?_)
    · skip
      refine g_aload_n dX8_all_19 rfl rfl (gf_X8_43 (M := mX8_all) rfl dX8_all_20 (yo9 hY) (yr9_6 hY) (g_aload_n dX8_all_23 rfl rfl (gf_X8_19 (M := mX8_all) rfl dX8_all_24 (yo9 hY) (yr9_1 hY) (gf_X8_120 (M := mX8_all) rfl dX8_all_27 (ck_o hY clk12) (ck_r0 hY clk12) (g_iload_n dX8_all_30 rfl rfl (g_lload_n dX8_all_31 rfl rfl ?_))))))
      refine cv_X8_168 (M := mX8_all) rfl dX8_all_32 (yo71 hY) (RO.same _ _ _) (Nat.le_of_ble_eq_true rfl) (e_X2_earliest hY hC (by omega) (by omega)) (kQW fun v32 h32 hq32 => ?_)
      exact g_lret dX8_all_35 rfl rfl ⟨Nat.le_refl _, Nat.le_refl _⟩ (by first | (refine ⟨-1, rfl, fun _ _ => ⟨rfl, rfl⟩, Or.inl ⟨by omega, rfl⟩⟩) | exact ⟨_, rfl, hq32.1, Or.inr ⟨by omega, hq32.2⟩⟩)
    · skip
      refine c2_X8_166 (M := mX8_all) rfl dX8_all_15 ?_
      exact g_lret dX8_all_18 rfl rfl ⟨Nat.le_refl _, Nat.le_refl _⟩ (by first | (refine ⟨-1, rfl, fun _ _ => ⟨rfl, rfl⟩, Or.inl ⟨by omega, rfl⟩⟩) | exact ⟨_, rfl, hq32.1, Or.inr ⟨by omega, hq32.2⟩⟩)
set_option maxRecDepth 100000 in
set_option maxHeartbeats 1000000 in
theorem e_X8_cycle {G : GX} {y : LY} {h : HM} {d : Nat} (hY : Lay y) {s : Int} (hs : R32 s) (hC : CF h 12) : EvQW G mX8_cycle (d + 5) [.ref 9, .int (iZ s)] y h (fun v h1 => FrF h h1 ∧ ((¬ (0 < s ∧ s < 2 ^ (h.I 12 3).toNat) ∧ v = -1) ∨ ((0 < s ∧ s < 2 ^ (h.I 12 3).toNat) ∧ v = lcF (cFs h 12) s 6))) := by
  have hnf := hC.1
  have hps := pI_01 (0 < s ∧ s < 2 ^ (h.I 12 3).toNat)
  have hps2 := pI_eq1 (P := 0 < s ∧ s < 2 ^ (h.I 12 3).toNat)
  refine Ev.of rfl [some (.ref 9), some (.int (iZ s))] rfl (Nat.le_of_ble_eq_true rfl) ?_
  refine g_aload_n dX8_cycle_0 rfl rfl (g_iload_n dX8_cycle_1 rfl rfl (cv_X8_197 (M := mX8_cycle) rfl dX8_cycle_2 (yo9 hY) (RO.same _ _ _) (Nat.le_of_ble_eq_true rfl) (e_X8_isSome hY (by omega) (by omega)) <| kI ?_))
  refine g_if_ne 12 dX8_cycle_5 rfl (by omega) (fun c5 => ?_) (fun c5 => ?_)
  · skip
    refine g_aload_n dX8_cycle_12 rfl rfl (gf_X8_43 (M := mX8_cycle) rfl dX8_cycle_13 (yo9 hY) (yr9_6 hY) (g_aload_n dX8_cycle_16 rfl rfl (gf_X8_19 (M := mX8_cycle) rfl dX8_cycle_17 (yo9 hY) (yr9_1 hY) (gf_X8_120 (M := mX8_cycle) rfl dX8_cycle_20 (ck_o hY clk12) (ck_r0 hY clk12) (g_iload_n dX8_cycle_23 rfl rfl ?_)))))
    refine cv_X8_200 (M := mX8_cycle) rfl dX8_cycle_24 (yo71 hY) (RO.same _ _ _) (Nat.le_of_ble_eq_true rfl) (e_X2_commonRound hY hC (by omega)) (kQW fun v24 h24 hq24 => ?_)
    exact g_lret dX8_cycle_27 rfl rfl ⟨Nat.le_refl _, Nat.le_refl _⟩ (by first | (refine ⟨-1, rfl, fun _ _ => ⟨rfl, rfl⟩, Or.inl ⟨by omega, rfl⟩⟩) | exact ⟨_, rfl, hq24.1, Or.inr ⟨by omega, hq24.2⟩⟩)
  · skip
    refine c2_X8_166 (M := mX8_cycle) rfl dX8_cycle_8 ?_
    exact g_lret dX8_cycle_11 rfl rfl ⟨Nat.le_refl _, Nat.le_refl _⟩ (by first | (refine ⟨-1, rfl, fun _ _ => ⟨rfl, rfl⟩, Or.inl ⟨by omega, rfl⟩⟩) | exact ⟨_, rfl, hq24.1, Or.inr ⟨by omega, hq24.2⟩⟩)
set_option maxRecDepth 100000 in
set_option maxHeartbeats 1000000 in
theorem e_X8_often {G : GX} {y : LY} {h : HM} {d : Nat} (hY : Lay y) {f t u : Int} (hf : R32 f) (ht : R64 t) (hu : R64 u) (hC : CF h 12) : EvQW G mX8_often (d + 11) [.ref 9, .int (iZ f), .long (lZ t), .long (lZ u)] y h (fun v h1 => FrF h h1 ∧ ((¬ ((0 ≤ f ∧ f < h.I 12 3) ∧ (0 ≤ t ∧ t ≤ u ∧ u ≤ 1000000000000)) ∧ v = -1) ∨ (((0 ≤ f ∧ f < h.I 12 3) ∧ (0 ≤ t ∧ t ≤ u ∧ u ≤ 1000000000000)) ∧ v = cntN (OutF (cFs h 12 f.toNat)) t (u - t + 1).toNat))) := by
  have hnf := hC.1
  have hpf := pI_01 (0 ≤ f ∧ f < h.I 12 3)
  have hpf2 := pI_eq1 (P := 0 ≤ f ∧ f < h.I 12 3)
  have hpd := pI_01 (0 ≤ t ∧ t ≤ u ∧ u ≤ 1000000000000)
  have hpd2 := pI_eq1 (P := 0 ≤ t ∧ t ≤ u ∧ u ≤ 1000000000000)
  refine Ev.of rfl [some (.ref 9), some (.int (iZ f)), some (.long (lZ t)), none, some (.long (lZ u)), none] rfl (Nat.le_of_ble_eq_true rfl) ?_
  refine g_aload_n dX8_often_0 rfl rfl (g_iload_n dX8_often_1 rfl rfl (cv_X8_116 (M := mX8_often) rfl dX8_often_2 (yo9 hY) (RO.same _ _ _) (Nat.le_of_ble_eq_true rfl) (e_X8_isFigure hY (by omega) (by omega)) <| kI ?_))
  refine g_if_eq 17 dX8_often_5 rfl (by omega) (fun c5 => ?_) (fun c5 => ?_)
  · skip
    refine c2_X8_166 (M := mX8_often) rfl dX8_often_17 ?_
    exact g_lret dX8_often_20 rfl rfl ⟨Nat.le_refl _, Nat.le_refl _⟩ (by first | (refine ⟨-1, rfl, fun _ _ => ⟨rfl, rfl⟩, Or.inl ⟨by omega, rfl⟩⟩) | exact ⟨_, rfl, hq38.1, Or.inr ⟨by omega, hq38.2.trans (cntN_congr fun i _ => all1 (by omega) _)⟩⟩)
  · skip
    refine g_lload_n dX8_often_8 rfl rfl (g_lload dX8_often_9 rfl (cv_X8_185 (M := mX8_often) rfl dX8_often_11 (RO.same _ _ _) (Nat.le_of_ble_eq_true rfl) (e_X8_isSpan (by omega) (by omega)) <| kI ?_))
    refine g_if_ne 21 dX8_often_14 rfl (by omega) (fun c14 => ?_) (fun c14 => ?_)
    · skip
      have hp2 := p2lt (f := f) (n := h.I 12 3) (by omega)
      have hsh := iShl1' (k := f) (by omega)
      refine g_aload_n dX8_often_21 rfl rfl (gf_X8_43 (M := mX8_often) rfl dX8_often_22 (yo9 hY) (yr9_6 hY) (g_aload_n dX8_often_25 rfl rfl (gf_X8_19 (M := mX8_often) rfl dX8_often_26 (yo9 hY) (yr9_1 hY) (gf_X8_120 (M := mX8_often) rfl dX8_often_29 (ck_o hY clk12) (ck_r0 hY clk12) (g_iconst dX8_often_32 (g_iload_n dX8_often_33 rfl rfl (g_ishl dX8_often_34 ?_)))))))
      rw [hsh]
      refine g_lload_n dX8_often_35 rfl rfl (g_lload dX8_often_36 rfl ?_)
      refine cv_X8_189 (M := mX8_often) rfl dX8_often_38 (yo71 hY) (RO.same _ _ _) (Nat.le_of_ble_eq_true rfl) (e_X2_howOften hY hC hp2 (by omega) (by omega)) (kQW fun v38 h38 hq38 => ?_)
      exact g_lret dX8_often_41 rfl rfl ⟨Nat.le_refl _, Nat.le_refl _⟩ (by first | (refine ⟨-1, rfl, fun _ _ => ⟨rfl, rfl⟩, Or.inl ⟨by omega, rfl⟩⟩) | exact ⟨_, rfl, hq38.1, Or.inr ⟨by omega, hq38.2.trans (cntN_congr fun i _ => all1 (by omega) _)⟩⟩)
    · skip
      refine c2_X8_166 (M := mX8_often) rfl dX8_often_17 ?_
      exact g_lret dX8_often_20 rfl rfl ⟨Nat.le_refl _, Nat.le_refl _⟩ (by first | (refine ⟨-1, rfl, fun _ _ => ⟨rfl, rfl⟩, Or.inl ⟨by omega, rfl⟩⟩) | exact ⟨_, rfl, hq38.1, Or.inr ⟨by omega, hq38.2.trans (cntN_congr fun i _ => all1 (by omega) _)⟩⟩)
set_option maxRecDepth 100000 in
set_option maxHeartbeats 1000000 in
theorem e_X8_meetings {G : GX} {y : LY} {h : HM} {d : Nat} (hY : Lay y) {f g t u : Int} (hf : R32 f) (hg : R32 g) (ht : R64 t) (hu : R64 u) (hC : CF h 12) : EvQW G mX8_meetings (d + 11) [.ref 9, .int (iZ f), .int (iZ g), .long (lZ t), .long (lZ u)] y h (fun v h1 => FrF h h1 ∧ ((¬ (((0 ≤ f ∧ f < h.I 12 3) ∧ (0 ≤ g ∧ g < h.I 12 3) ∧ f ≠ g) ∧ (0 ≤ t ∧ t ≤ u ∧ u ≤ 1000000000000)) ∧ v = -1) ∨ ((((0 ≤ f ∧ f < h.I 12 3) ∧ (0 ≤ g ∧ g < h.I 12 3) ∧ f ≠ g) ∧ (0 ≤ t ∧ t ≤ u ∧ u ≤ 1000000000000)) ∧ v = cntN (fun d => OutF (cFs h 12 f.toNat) d ∧ OutF (cFs h 12 g.toNat) d) t (u - t + 1).toNat))) := by
  have hnf := hC.1
  have hpp := pI_01 ((0 ≤ f ∧ f < h.I 12 3) ∧ (0 ≤ g ∧ g < h.I 12 3) ∧ f ≠ g)
  have hpp2 := pI_eq1 (P := (0 ≤ f ∧ f < h.I 12 3) ∧ (0 ≤ g ∧ g < h.I 12 3) ∧ f ≠ g)
  have hpd := pI_01 (0 ≤ t ∧ t ≤ u ∧ u ≤ 1000000000000)
  have hpd2 := pI_eq1 (P := 0 ≤ t ∧ t ≤ u ∧ u ≤ 1000000000000)
  refine Ev.of rfl [some (.ref 9), some (.int (iZ f)), some (.int (iZ g)), some (.long (lZ t)), none, some (.long (lZ u)), none] rfl (Nat.le_of_ble_eq_true rfl) ?_
  refine g_aload_n dX8_meetings_0 rfl rfl (g_iload_n dX8_meetings_1 rfl rfl (g_iload_n dX8_meetings_2 rfl rfl (cv_X8_193 (M := mX8_meetings) rfl dX8_meetings_3 (yo9 hY) (RO.same _ _ _) (Nat.le_of_ble_eq_true rfl) (e_X8_isPair hY (by omega) (by omega) (by omega)) <| kI ?_)))
  refine g_if_eq 18 dX8_meetings_6 rfl (by omega) (fun c6 => ?_) (fun c6 => ?_)
  · skip
    refine c2_X8_166 (M := mX8_meetings) rfl dX8_meetings_18 ?_
    exact g_lret dX8_meetings_21 rfl rfl ⟨Nat.le_refl _, Nat.le_refl _⟩ (by first | (refine ⟨-1, rfl, fun _ _ => ⟨rfl, rfl⟩, Or.inl ⟨by omega, rfl⟩⟩) | exact ⟨_, rfl, hq43.1, Or.inr ⟨by omega, hq43.2.trans (cntN_congr fun i _ => all2 (by omega) (by omega) _)⟩⟩)
  · skip
    refine g_lload_n dX8_meetings_9 rfl rfl (g_lload dX8_meetings_10 rfl (cv_X8_185 (M := mX8_meetings) rfl dX8_meetings_12 (RO.same _ _ _) (Nat.le_of_ble_eq_true rfl) (e_X8_isSpan (by omega) (by omega)) <| kI ?_))
    refine g_if_ne 22 dX8_meetings_15 rfl (by omega) (fun c15 => ?_) (fun c15 => ?_)
    · skip
      have hp2 := p2or (f := f) (g := g) (n := h.I 12 3) (by omega) (by omega) (by omega)
      refine g_aload_n dX8_meetings_22 rfl rfl (gf_X8_43 (M := mX8_meetings) rfl dX8_meetings_23 (yo9 hY) (yr9_6 hY) (g_aload_n dX8_meetings_26 rfl rfl (gf_X8_19 (M := mX8_meetings) rfl dX8_meetings_27 (yo9 hY) (yr9_1 hY) (gf_X8_120 (M := mX8_meetings) rfl dX8_meetings_30 (ck_o hY clk12) (ck_r0 hY clk12) (g_iconst dX8_meetings_33 (g_iload_n dX8_meetings_34 rfl rfl (g_ishl dX8_meetings_35 (g_iconst dX8_meetings_36 (g_iload_n dX8_meetings_37 rfl rfl (g_ishl dX8_meetings_38 (g_ior dX8_meetings_39 ?_)))))))))))
      rw [hp2.1]
      refine g_lload_n dX8_meetings_40 rfl rfl (g_lload dX8_meetings_41 rfl ?_)
      refine cv_X8_189 (M := mX8_meetings) rfl dX8_meetings_43 (yo71 hY) (RO.same _ _ _) (Nat.le_of_ble_eq_true rfl) (e_X2_howOften hY hC hp2.2 (by omega) (by omega)) (kQW fun v43 h43 hq43 => ?_)
      exact g_lret dX8_meetings_46 rfl rfl ⟨Nat.le_refl _, Nat.le_refl _⟩ (by first | (refine ⟨-1, rfl, fun _ _ => ⟨rfl, rfl⟩, Or.inl ⟨by omega, rfl⟩⟩) | exact ⟨_, rfl, hq43.1, Or.inr ⟨by omega, hq43.2.trans (cntN_congr fun i _ => all2 (by omega) (by omega) _)⟩⟩)
    · skip
      refine c2_X8_166 (M := mX8_meetings) rfl dX8_meetings_18 ?_
      exact g_lret dX8_meetings_21 rfl rfl ⟨Nat.le_refl _, Nat.le_refl _⟩ (by first | (refine ⟨-1, rfl, fun _ _ => ⟨rfl, rfl⟩, Or.inl ⟨by omega, rfl⟩⟩) | exact ⟨_, rfl, hq43.1, Or.inr ⟨by omega, hq43.2.trans (cntN_congr fun i _ => all2 (by omega) (by omega) _)⟩⟩)
