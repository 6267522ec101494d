def LastP (P : Int → Prop) (t r : Int) : Prop := (r = -4 ∧ ∀ d : Int, 0 ≤ d → d ≤ t → ¬ P d) ∨ ((0 ≤ r ∧ r ≤ t) ∧ P r ∧ ∀ d : Int, r < d → d ≤ t → ¬ P d)
theorem LastP.uniq {P : Int → Prop} {t r s : Int} (h1 : LastP P t r) (h2 : LastP P t s) : r = s := by
  rcases h1 with ⟨a, b⟩ | ⟨a, b, c⟩ <;> rcases h2 with ⟨a2, b2⟩ | ⟨a2, b2, c2⟩
  · omega
  · exact absurd b2 (b s (by omega) (by omega))
  · exact absurd b (b2 r (by omega) (by omega))
  · rcases Int.lt_trichotomy r s with z | z | z
    · exact absurd b2 (c s z (by omega))
    · exact z
    · exact absurd b (c2 r z (by omega))
theorem LastP.bd {P : Int → Prop} {t r : Int} (h : LastP P t r) (ht : 0 ≤ t) : -4 ≤ r ∧ r ≤ t := by
  rcases h with ⟨a, _⟩ | ⟨a, _⟩ <;> omega
theorem last_v {t m r d : Int} (hr : 0 < r) (h1 : t - (t - m) % r < d) (h2 : d ≤ t) : ¬ (d - m) % r = 0 := by
  intro e
  have e1 := Int.emod_add_mul_ediv (t - m) r
  have e2 := Int.emod_add_mul_ediv (d - m) r
  have b1 := em_bd (t - m) hr
  have := dvd_gap (p := t - (t - m) % r - m) (q := d - m) hr (by rw [show t - (t - m) % r - m = r * ((t - m) / r) by omega]; exact Int.mul_emod_right _ _) e (by omega) (by omega)
  omega
theorem last_step {T : Int → Int} {t r k b : Int} (ht : 0 ≤ t) (hr : 0 < r) (hk : 0 ≤ k) (h : LastP (fun d => ∃ i : Int, (0 ≤ i ∧ i < k) ∧ (d - T i) % r = 0) t b) :
    (0 ≤ t - (t - T k) % r ∧ b < t - (t - T k) % r → LastP (fun d => ∃ i : Int, (0 ≤ i ∧ i < k + 1) ∧ (d - T i) % r = 0) t (t - (t - T k) % r)) ∧
    (¬ (0 ≤ t - (t - T k) % r ∧ b < t - (t - T k) % r) → LastP (fun d => ∃ i : Int, (0 ≤ i ∧ i < k + 1) ∧ (d - T i) % r = 0) t b) := by
  have b1 := em_bd (t - T k) hr
  have e1 := Int.emod_add_mul_ediv (t - T k) r
  have ev : (t - (t - T k) % r - T k) % r = 0 := by
    rw [show t - (t - T k) % r - T k = r * ((t - T k) / r) by omega]; exact Int.mul_emod_right _ _
  have hv := fun d => last_v (t := t) (m := T k) (r := r) (d := d) hr
  refine ⟨fun q => Or.inr ⟨by omega, ⟨k, by omega, ev⟩, fun d d0 d1 z => ?_⟩, fun q => ?_⟩
  · obtain ⟨i, i0, i1⟩ := z
    rcases (by omega : i = k ∨ i < k) with rfl | w
    · exact hv d d0 d1 i1
    · rcases h with ⟨a, b2⟩ | ⟨a, b2, c⟩
      · exact b2 d (by omega) d1 ⟨i, by omega, i1⟩
      · exact c d (by omega) d1 ⟨i, by omega, i1⟩
  · rcases h with ⟨a, b2⟩ | ⟨a, ⟨i, i0, i1⟩, c⟩
    · refine Or.inl ⟨a, fun d d0 d1 z => ?_⟩
      obtain ⟨i, i0, i1⟩ := z
      rcases (by omega : i = k ∨ i < k) with rfl | w
      · exact hv d (by omega) d1 i1
      · exact b2 d d0 d1 ⟨i, by omega, i1⟩
    · refine Or.inr ⟨a, ⟨i, by omega, i1⟩, fun d d0 d1 z => ?_⟩
      obtain ⟨i2, j0, j1⟩ := z
      rcases (by omega : i2 = k ∨ i2 < k) with rfl | w
      · exact hv d (by omega) d1 j1
      · exact c d d0 d1 ⟨i2, by omega, j1⟩
theorem LastP_congr {P Q : Int → Prop} (h : ∀ d, P d ↔ Q d) {t r : Int} (hp : LastP P t r) : LastP Q t r := by
  rw [show Q = P from funext fun d => propext (h d).symm]; exact hp
theorem and512 {x : Nat} (hx : x < 1024) : iAnd x 512 = if x.testBit 9 = true then 512 else 0 := by
  have := iAndN (a := x) (b := 512) (by omega)
  rw [show (512 : Nat) = 2 ^ 9 from rfl, and2] at this
  rw [show ((512 : Int)) = ((2 ^ 9 : Nat) : Int) from rfl, this]
  split <;> rfl
/-- a door is used twice on the day -/
def ClsP (h : HM) (c : Nat) (t : Int) : Prop := (drs (dOut h c t) (dDor h c t) (h.I c 3).toNat).testBit 9 = true
set_option maxRecDepth 100000 in
set_option maxHeartbeats 1000000 in
theorem e_X8_last {G : GX} {y : LY} {h : HM} {d : Nat} (hY : Lay y) {f t : Int} (hf : R32 f) (ht : R64 t) (hC : CF h 12) : EvQL G mX8_last (d + 3) [.ref 9, .int (iZ f), .long (lZ t)] y h (fun v : Int => (¬ ((0 ≤ f ∧ f < h.I 12 3) ∧ (0 ≤ t ∧ t ≤ 1000000000000)) ∧ v = -1) ∨ (((0 ≤ f ∧ f < h.I 12 3) ∧ (0 ≤ t ∧ t ≤ 1000000000000)) ∧ LastP (OutF (cFs h 12 f.toNat)) t v)) := by
  have hnf := hC.1
  have hpf := pI_01 (0 ≤ f ∧ f < h.I 12 3)
  have hpf2 := pI_eq1 (P := 0 ≤ f ∧ f < h.I 12 3)
  have hpd := pI_01 (0 ≤ t ∧ t ≤ 1000000000000)
  have hpd2 := pI_eq1 (P := 0 ≤ t ∧ t ≤ 1000000000000)
  refine Ev.of rfl [some (.ref 9), some (.int (iZ f)), some (.long (lZ t)), none, none, none, none, none, none, none] rfl (Nat.le_of_ble_eq_true rfl) ?_
  have L38 : ∀ (m : Nat) (k b : Int), (m : Int) = tms (h.I (12 + 4 + f.toNat) 3) (h.I (12 + 4 + f.toNat) 4) - k → (0 ≤ f ∧ f < h.I 12 3) ∧ (0 ≤ t ∧ t ≤ 1000000000000) → 0 ≤ k ∧ k ≤ tms (h.I (12 + 4 + f.toNat) 3) (h.I (12 + 4 + f.toNat) 4) → LastP (fun d => ∃ i : Int, (0 ≤ i ∧ i < k) ∧ (d - (fun i => tmo (h.I (12 + 4 + f.toNat) 0) (h.I (12 + 4 + f.toNat) 1) (h.I (12 + 4 + f.toNat) 3) (h.I (12 + 4 + f.toNat) 4) i) i) % rnd (h.I (12 + 4 + f.toNat) 3) (h.I (12 + 4 + f.toNat) 0) = 0) t b → Go G mX8_last (rmo (d + 3) 0 0) (ZM G y 0 0 (fun r h1 => ∃ v_ : Int, r = some (.long (lZ v_)) ∧ h1 = h ∧ (fun v : Int => (¬ ((0 ≤ f ∧ f < h.I 12 3) ∧ (0 ≤ t ∧ t ≤ 1000000000000)) ∧ v = -1) ∨ (((0 ≤ f ∧ f < h.I 12 3) ∧ (0 ≤ t ∧ t ≤ 1000000000000)) ∧ LastP (OutF (cFs h 12 f.toNat)) t v)) v_)) y 38 [some (.ref 9), some (.int (iZ f)), some (.long (lZ t)), none, some (.ref (12 + 4 + f.toNat)), some (.long (lZ b)), none, some (.int (iZ k)), none, none] [] h (0, 0) := by
    intro m
    induction m using Nat.strongRecOn with | _ m ih =>
    intro k b hm hok hk hL
    have hLb := hL.bd hok.2.1
    have hFf := hC.2 f hok.1.1 hok.1.2
    have hrb := rnd_bd (la := h.I (12 + 4 + f.toNat) 3) (te := h.I (12 + 4 + f.toNat) 0) (by omega)
    have htb := tms_bd (la := h.I (12 + 4 + f.toNat) 3) (ga := h.I (12 + 4 + f.toNat) 4) (by omega)
    have htk := tmo_bd (te := h.I (12 + 4 + f.toNat) 0) (st := h.I (12 + 4 + f.toNat) 1) (la := h.I (12 + 4 + f.toNat) 3) (ga := h.I (12 + 4 + f.toNat) 4) (k := k) (by omega)
    have hem := em_bd (t - tmo (h.I (12 + 4 + f.toNat) 0) (h.I (12 + 4 + f.toNat) 1) (h.I (12 + 4 + f.toNat) 3) (h.I (12 + 4 + f.toNat) 4) k) (d := rnd (h.I (12 + 4 + f.toNat) 3) (h.I (12 + 4 + f.toNat) 0)) (by omega)
    have hst := last_step (T := (fun i => tmo (h.I (12 + 4 + f.toNat) 0) (h.I (12 + 4 + f.toNat) 1) (h.I (12 + 4 + f.toNat) 3) (h.I (12 + 4 + f.toNat) 4) i)) (t := t) (r := rnd (h.I (12 + 4 + f.toNat) 3) (h.I (12 + 4 + f.toNat) 0)) (k := k) (b := b) (by omega) (by omega) (by omega) hL
    refine g_iload dX8_last_38 rfl (g_aload dX8_last_40 rfl (cv_X8_174 (M := mX8_last) rfl dX8_last_42 (ck_fo hY (c := 12) (Or.inl rfl) (i := f) (by omega)) (RO.same _ _ _) (Nat.le_of_ble_eq_true rfl) (e_X1_times (ck_fo hY (c := 12) (Or.inl rfl) (i := f) (by omega)) (by omega) (by omega)) <| kI ?_))
    refine g_icmp_ge 96 dX8_last_45 rfl (by omega) (by omega) (fun c45 => ?_) (fun c45 => ?_)
    · skip
      refine g_lload dX8_last_96 rfl ?_
      exact g_lret dX8_last_98 rfl rfl ⟨Nat.le_refl _, Nat.le_refl _⟩ (by have ek : k = tms (cFs h 12 f.toNat).la (cFs h 12 f.toNat).ga := (show k = tms (h.I (12 + 4 + f.toNat) 3) (h.I (12 + 4 + f.toNat) 4) by omega); refine ⟨b, rfl, rfl, Or.inr ⟨hok, LastP_congr (fun d => ?_) hL⟩⟩; rw [out_tmo (F := cFs h 12 f.toNat) hFf.1]; constructor; (rintro ⟨i, i0, i1⟩; exact ⟨i, ⟨i0.1, ek ▸ i0.2⟩, i1⟩); (rintro ⟨i, i0, i1⟩; exact ⟨i, ⟨i0.1, ek ▸ i0.2⟩, i1⟩))
    · skip
      refine g_lload_n dX8_last_48 rfl rfl (g_lload_n dX8_last_49 rfl rfl (g_aload dX8_last_50 rfl (g_iload dX8_last_52 rfl (cv_X8_177 (M := mX8_last) rfl dX8_last_54 (ck_fo hY (c := 12) (Or.inl rfl) (i := f) (by omega)) (RO.same _ _ _) (Nat.le_of_ble_eq_true rfl) (e_X1_timeOf (ck_fo hY (c := 12) (Or.inl rfl) (i := f) (by omega)) (by omega) (by omega) (by omega)) <| kI (g_i2l dX8_last_57 (by omega) (g_lsub dX8_last_58 (g_aload dX8_last_59 rfl (cv_X8_142 (M := mX8_last) rfl dX8_last_61 (ck_fo hY (c := 12) (Or.inl rfl) (i := f) (by omega)) (RO.same _ _ _) (Nat.le_of_ble_eq_true rfl) (e_X1_round (ck_fo hY (c := 12) (Or.inl rfl) (i := f) (by omega)) (by omega)) <| kI (g_i2l dX8_last_64 (by omega) (cv_X8_181 (M := mX8_last) rfl dX8_last_65 (RO.same _ _ _) (Nat.le_of_ble_eq_true rfl) (e_X8_rest (by omega) (by omega)) <| kL (g_lsub dX8_last_68 ?_)))))))))))
      refine g_lst8 dX8_last_69 (by decide) rfl (g_lload dX8_last_71 rfl (g_lconst (v := 0) dX8_last_73 rfl ?_))
      refine g_lcmp_lt 90 dX8_last_74 dX8_last_75 rfl (by omega) (by omega) (fun c74 => ?_) (fun c74 => ?_)
      · skip
        refine g_inc7 dX8_last_90 (by decide) rfl (g_goto 38 dX8_last_93 rfl (g_dr8 ?_))
        first
        | exact ih (m - 1) (by omega) (k + 1) _ (by omega) hok (by omega) (hst.1 (by omega))
        | exact ih (m - 1) (by omega) (k + 1) _ (by omega) hok (by omega) (hst.2 (by omega))
      · skip
        refine g_lload dX8_last_78 rfl (g_lload dX8_last_80 rfl ?_)
        refine g_lcmp_le 90 dX8_last_82 dX8_last_83 rfl (by omega) (by omega) (fun c82 => ?_) (fun c82 => ?_)
        · skip
          refine g_inc7 dX8_last_90 (by decide) rfl (g_goto 38 dX8_last_93 rfl (g_dr8 ?_))
          first
          | exact ih (m - 1) (by omega) (k + 1) _ (by omega) hok (by omega) (hst.1 (by omega))
          | exact ih (m - 1) (by omega) (k + 1) _ (by omega) hok (by omega) (hst.2 (by omega))
        · skip
          refine g_lload dX8_last_86 rfl (g_lst5 dX8_last_88 (by decide) rfl (g_inc7 dX8_last_90 (by decide) rfl (g_goto 38 dX8_last_93 rfl (g_dr8 ?_))))
          first
          | exact ih (m - 1) (by omega) (k + 1) _ (by omega) hok (by omega) (hst.1 (by omega))
          | exact ih (m - 1) (by omega) (k + 1) _ (by omega) hok (by omega) (hst.2 (by omega))
  refine g_aload_n dX8_last_0 rfl rfl (g_iload_n dX8_last_1 rfl rfl (cv_X8_116 (M := mX8_last) rfl dX8_last_2 (yo9 hY) (RO.same _ _ _) (Nat.le_of_ble_eq_true rfl) (e_X8_isFigure hY (by omega) (by omega)) <| kI ?_))
  refine g_if_eq 15 dX8_last_5 rfl (by omega) (fun c5 => ?_) (fun c5 => ?_)
  · skip
    refine c2_X8_166 (M := mX8_last) rfl dX8_last_15 ?_
    exact g_lret dX8_last_18 rfl rfl ⟨Nat.le_refl _, Nat.le_refl _⟩ (by exact ⟨-1, rfl, rfl, Or.inl ⟨by omega, rfl⟩⟩)
  · skip
    refine g_lload_n dX8_last_8 rfl rfl (cv_X8_160 (M := mX8_last) rfl dX8_last_9 (RO.same _ _ _) (Nat.le_of_ble_eq_true rfl) (e_X8_isDay (by omega)) <| kI ?_)
    refine g_if_ne 19 dX8_last_12 rfl (by omega) (fun c12 => ?_) (fun c12 => ?_)
    · skip
      have hFf := hC.2 f (by omega) (by omega)
      have htb := tms_bd (la := h.I (12 + 4 + f.toNat) 3) (ga := h.I (12 + 4 + f.toNat) 4) (by omega)
      refine g_aload_n dX8_last_19 rfl rfl (gf_X8_19 (M := mX8_last) rfl dX8_last_20 (yo9 hY) (yr9_1 hY) (gf_X8_120 (M := mX8_last) rfl dX8_last_23 (ck_o hY clk12) (ck_r0 hY clk12) (g_iload_n dX8_last_26 rfl rfl (g_aald dX8_last_27 (ck_a0 hY clk12) (by decide) (D0 := "ClockTeeth$Figure") rfl ⟨by omega, by omega, by omega⟩ (ck_fr hY clk12 (by omega)) (g_ast4 dX8_last_28 (by decide) rfl (c2_X8_172 (M := mX8_last) rfl dX8_last_30 (g_lst5 dX8_last_33 (by decide) rfl (g_iconst dX8_last_35 (g_ist7 dX8_last_36 (by decide) rfl ?_)))))))))
      exact L38 (tms (h.I (12 + 4 + f.toNat) 3) (h.I (12 + 4 + f.toNat) 4)).toNat 0 (-4) (by omega) (by omega) (by omega) (Or.inl ⟨rfl, fun d d0 d1 z => by obtain ⟨i, i0, i1⟩ := z; omega⟩)
    · skip
      refine c2_X8_166 (M := mX8_last) rfl dX8_last_15 ?_
      exact g_lret dX8_last_18 rfl rfl ⟨Nat.le_refl _, Nat.le_refl _⟩ (by exact ⟨-1, rfl, rfl, Or.inl ⟨by omega, rfl⟩⟩)
set_option maxRecDepth 100000 in
set_option maxHeartbeats 1000000 in
theorem e_X8_clashes {G : GX} {y : LY} {h : HM} {d : Nat} (hY : Lay y) {t n : Int} (ht : R64 t) (hn : R32 n) (hC : CF h 12) (h6 : R32 (h.I 12 6)) (h7 : R32 (h.I 12 7)) (h8 : R32 (h.I 12 8)) : EvQI G mX8_clashes (d + 3) [.ref 9, .long (lZ t), .int (iZ n)] y h (fun v : Int => (¬ ((0 ≤ t ∧ t ≤ 1000000000000) ∧ (1 ≤ n ∧ n ≤ 400)) ∧ v = -1) ∨ (((0 ≤ t ∧ t ≤ 1000000000000) ∧ (1 ≤ n ∧ n ≤ 400)) ∧ v = cntN (ClsP h 12) t n.toNat)) := by
  have hnf := hC.1
  have hpd := pI_01 (0 ≤ t ∧ t ≤ 1000000000000)
  have hpd2 := pI_eq1 (P := 0 ≤ t ∧ t ≤ 1000000000000)
  have hpn := pI_01 (1 ≤ n ∧ n ≤ 400)
  have hpn2 := pI_eq1 (P := 1 ≤ n ∧ n ≤ 400)
  refine Ev.of rfl [some (.ref 9), some (.long (lZ t)), none, some (.int (iZ n)), none, none] rfl (Nat.le_of_ble_eq_true rfl) ?_
  have L22 : ∀ (m : Nat) (i : Nat) (s : Int), (m : Int) = n - i → (0 ≤ t ∧ t ≤ 1000000000000) ∧ (1 ≤ n ∧ n ≤ 400) → (i : Int) ≤ n → s = cntN (ClsP h 12) t i → 0 ≤ s ∧ s ≤ i → Go G mX8_clashes (rmo (d + 3) 0 0) (ZM G y 0 0 (fun r h1 => ∃ v_ : Int, r = some (.int (iZ v_)) ∧ h1 = h ∧ (fun v : Int => (¬ ((0 ≤ t ∧ t ≤ 1000000000000) ∧ (1 ≤ n ∧ n ≤ 400)) ∧ v = -1) ∨ (((0 ≤ t ∧ t ≤ 1000000000000) ∧ (1 ≤ n ∧ n ≤ 400)) ∧ v = cntN (ClsP h 12) t n.toNat)) v_)) y 22 [some (.ref 9), some (.long (lZ t)), none, some (.int (iZ n)), some (.int (iZ s)), some (.int (iZ i))] [] h (0, 0) := by
    intro m
    induction m using Nat.strongRecOn with | _ m ih =>
    intro i s hm hok hi hs hsb
    have hdb : drs (dOut h 12 (t + i)) (dDor h 12 (t + i)) (h.I 12 3).toNat < 1024 := drs_bd' _ (fun j hj => by have := hC.2 (j : Int) (by omega) (by omega); rw [show ((j : Int)).toNat = j by omega] at this; exact dorS_bd (by omega))
    have ha := and512 hdb
    refine g_iload dX8_clashes_22 rfl (g_iload_n dX8_clashes_24 rfl rfl ?_)
    refine g_icmp_ge 56 dX8_clashes_25 rfl (by omega) (by omega) (fun c25 => ?_) (fun c25 => ?_)
    · skip
      refine g_iload dX8_clashes_56 rfl ?_
      exact g_iret dX8_clashes_58 rfl rfl ⟨Nat.le_refl _, Nat.le_refl _⟩ (by exact ⟨s, rfl, rfl, Or.inr ⟨hok, by rw [hs]; congr 1; omega⟩⟩)
    · skip
      refine g_aload_n dX8_clashes_28 rfl rfl (gf_X8_19 (M := mX8_clashes) rfl dX8_clashes_29 (yo9 hY) (yr9_1 hY) (g_lload_n dX8_clashes_32 rfl rfl (g_iload dX8_clashes_33 rfl (g_i2l dX8_clashes_35 (by omega) (g_ladd dX8_clashes_36 (cv_X8_229 (M := mX8_clashes) rfl dX8_clashes_37 (ck_o hY clk12) (RO.same _ _ _) (Nat.le_of_ble_eq_true rfl) (e_X0_doorsOn hY clk12 hC (by omega) (by omega) (by omega) (by omega)) <| kI (g_sipush dX8_clashes_40 ks512 (g_iand dX8_clashes_43 ?_))))))))
      refine g_if_eq 50 dX8_clashes_44 rfl (by omega) (fun c44 => ?_) (fun c44 => ?_)
      · skip
        refine g_inc5 dX8_clashes_50 (by decide) rfl (g_goto 22 dX8_clashes_53 rfl ?_)
        first
        | exact ih (m - 1) (by omega) (i + 1) (s + 1) (by omega) hok (by omega) (by rw [cntN, ← hs, pI_t (show ClsP h 12 (t + i) from by unfold ClsP; exact Decidable.byContradiction fun z => c44 (by rw [ha, if_neg z]))]) (by omega)
        | exact ih (m - 1) (by omega) (i + 1) s (by omega) hok (by omega) (by rw [cntN, ← hs, pI_f (show ¬ ClsP h 12 (t + i) from fun z => by unfold ClsP at z; rw [ha, if_pos z] at c44; omega)]; omega) (by omega)
      · skip
        refine g_inc4 dX8_clashes_47 (by decide) rfl (g_inc5 dX8_clashes_50 (by decide) rfl (g_goto 22 dX8_clashes_53 rfl ?_))
        first
        | exact ih (m - 1) (by omega) (i + 1) (s + 1) (by omega) hok (by omega) (by rw [cntN, ← hs, pI_t (show ClsP h 12 (t + i) from by unfold ClsP; exact Decidable.byContradiction fun z => c44 (by rw [ha, if_neg z]))]) (by omega)
        | exact ih (m - 1) (by omega) (i + 1) s (by omega) hok (by omega) (by rw [cntN, ← hs, pI_f (show ¬ ClsP h 12 (t + i) from fun z => by unfold ClsP at z; rw [ha, if_pos z] at c44; omega)]; omega) (by omega)
  refine g_lload_n dX8_clashes_0 rfl rfl (cv_X8_160 (M := mX8_clashes) rfl dX8_clashes_1 (RO.same _ _ _) (Nat.le_of_ble_eq_true rfl) (e_X8_isDay (by omega)) <| kI ?_)
  refine g_if_eq 14 dX8_clashes_4 rfl (by omega) (fun c4 => ?_) (fun c4 => ?_)
  · skip
    refine g_iconst dX8_clashes_14 ?_
    exact g_iret dX8_clashes_15 rfl rfl ⟨Nat.le_refl _, Nat.le_refl _⟩ (by exact ⟨-1, rfl, rfl, Or.inl ⟨by omega, rfl⟩⟩)
  · skip
    refine g_iload_n dX8_clashes_7 rfl rfl (cv_X8_226 (M := mX8_clashes) rfl dX8_clashes_8 (RO.same _ _ _) (Nat.le_of_ble_eq_true rfl) (e_X8_isDayCount (by omega)) <| kI ?_)
    refine g_if_ne 16 dX8_clashes_11 rfl (by omega) (fun c11 => ?_) (fun c11 => ?_)
    · skip
      refine g_iconst dX8_clashes_16 (g_ist4 dX8_clashes_17 (by decide) rfl (g_iconst dX8_clashes_19 (g_ist5 dX8_clashes_20 (by decide) rfl ?_)))
      exact L22 n.toNat 0 0 (by omega) (by omega) (by omega) rfl (by omega)
    · skip
      refine g_iconst dX8_clashes_14 ?_
      exact g_iret dX8_clashes_15 rfl rfl ⟨Nat.le_refl _, Nat.le_refl _⟩ (by exact ⟨-1, rfl, rfl, Or.inl ⟨by omega, rfl⟩⟩)
