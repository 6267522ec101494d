/-! a clock becomes another: field by field -/
theorem clk_ap {c s : Nat} (hc : Clk c) (hs : Clk s) (hne : c ≠ s) : s + 28 ≤ c ∨ c + 28 ≤ s := by rcases hc with rfl | rfl | rfl | rfl <;> rcases hs with rfl | rfl | rfl | rfl <;> first | omega | exact absurd rfl hne
theorem bcH_out (h : HM) (c s : Nat) {a : Nat} (ha : a < c ∨ c + 28 ≤ a) (hf : (h.I s 3).toNat ≤ 6) (hv : (h.I s 4).toNat ≤ 6) (hn : (h.I s 5).toNat ≤ 12) (j : Nat) : (bcH h c s).I a j = h.I a j := by
  unfold bcH wJ
  simp only [sI_I]
  rw [if_neg (by omega), if_neg (by omega), if_neg (by omega), if_neg (by omega), if_neg (by omega), if_neg (by omega), if_neg (by omega)]
  unfold bcS bcV bcF
  rw [cpB_I, if_neg (by omega), cpB_I, if_neg (by omega), cpB_I, if_neg (by omega)]
theorem bcH_L (h : HM) (c s : Nat) : (bcH h c s).L = h.L := rfl
theorem bcH_fig (h : HM) (c s : Nat) {i j : Nat} (hi : i < (h.I s 3).toNat) (hf : (h.I s 3).toNat ≤ 6) (hj : j < 5) : (bcH h c s).I (c + 4 + i) j = h.I (s + 4 + i) j := by
  unfold bcH wJ
  simp only [sI_I]
  rw [if_neg (by omega), if_neg (by omega), if_neg (by omega), if_neg (by omega), if_neg (by omega), if_neg (by omega), if_neg (by omega)]
  unfold bcS bcV bcF
  rw [cpB_I, if_neg (by omega), cpB_I, if_neg (by omega), cpB_I, if_pos (by omega)]
  congr 1; omega
theorem bcH_vot (h : HM) {c s : Nat} (hc : Clk c) (hs : Clk s) (hne : c ≠ s) {i j : Nat} (hi : i < (h.I s 4).toNat) (hf : (h.I s 3).toNat ≤ 6) (hv : (h.I s 4).toNat ≤ 6) (hj : j < 5) : (bcH h c s).I (c + 10 + i) j = h.I (s + 10 + i) j := by
  have ap := clk_ap hc hs hne
  unfold bcH wJ
  simp only [sI_I]
  rw [if_neg (by omega), if_neg (by omega), if_neg (by omega), if_neg (by omega), if_neg (by omega), if_neg (by omega), if_neg (by omega)]
  unfold bcS bcV bcF
  rw [cpB_I, if_neg (by omega), cpB_I, if_pos (by omega), cpB_I, if_neg (by omega)]
  congr 1; omega
theorem bcH_sig (h : HM) {c s : Nat} (hc : Clk c) (hs : Clk s) (hne : c ≠ s) {i j : Nat} (hi : i < (h.I s 5).toNat) (hf : (h.I s 3).toNat ≤ 6) (hv : (h.I s 4).toNat ≤ 6) (hn : (h.I s 5).toNat ≤ 12) (hj : j < 3) : (bcH h c s).I (c + 16 + i) j = h.I (s + 16 + i) j := by
  have ap := clk_ap hc hs hne
  unfold bcH wJ
  simp only [sI_I]
  rw [if_neg (by omega), if_neg (by omega), if_neg (by omega), if_neg (by omega), if_neg (by omega), if_neg (by omega), if_neg (by omega)]
  unfold bcS bcV bcF
  rw [cpB_I, if_pos (by omega), cpB_I, if_neg (by omega), cpB_I, if_neg (by omega)]
  congr 1; omega
theorem bcH_c (h : HM) (c s : Nat) {j : Nat} (hj : 3 ≤ j ∧ j ≤ 9) : (bcH h c s).I c j = h.I s j := by
  rcases (by omega : j = 3 ∨ j = 4 ∨ j = 5 ∨ j = 6 ∨ j = 7 ∨ j = 8 ∨ j = 9) with rfl | rfl | rfl | rfl | rfl | rfl | rfl <;> (unfold bcH wJ; simp [sI_I])
/-- a clock as a text tells it -/
def ClkD (h : HM) (c : Nat) (D : DT) : Prop := (h.I c 3 = D.nf ∧ ∀ i : Nat, (i : Int) < D.nf → c5 h (c + 4 + i) = D.F i) ∧ (h.I c 4 = D.nv ∧ ∀ i : Nat, (i : Int) < D.nv → c5 h (c + 10 + i) = D.V i) ∧ h.I c 5 = 0 ∧ h.I c 6 = D.sd ∧ h.I c 7 = D.sf ∧ h.I c 8 = D.s2 ∧ h.I c 9 = D.rc
theorem bc_D {h : HM} {u : Nat} {D : DT} (hD : DrC h u D) (hV : DV D) : ClkD (bcH h 12 40) 12 D := by
  have hn := hV.1.1; have hm := hV.2.1.1
  have e3 := hD.1.1; have e4 := hD.2.1.1
  have c12 : Clk 12 := Or.inl rfl
  have c40 : Clk 40 := clk40
  refine ⟨⟨(bcH_c h 12 40 (by omega)).trans e3, fun i hi => ?_⟩, ⟨(bcH_c h 12 40 (by omega)).trans e4, fun i hi => ?_⟩, (bcH_c h 12 40 (by omega)).trans hD.2.2.1.2.2.2.2, (bcH_c h 12 40 (by omega)).trans hD.2.2.1.1, (bcH_c h 12 40 (by omega)).trans hD.2.2.1.2.1, (bcH_c h 12 40 (by omega)).trans hD.2.2.1.2.2.1, (bcH_c h 12 40 (by omega)).trans hD.2.2.1.2.2.2.1⟩
  · rw [← hD.1.2 i hi]
    unfold c5
    rw [bcH_fig h 12 40 (by omega) (by omega) (by decide), bcH_fig h 12 40 (by omega) (by omega) (by decide), bcH_fig h 12 40 (by omega) (by omega) (by decide), bcH_fig h 12 40 (by omega) (by omega) (by decide), bcH_fig h 12 40 (by omega) (by omega) (by decide)]
  · rw [← hD.2.1.2 i hi]
    unfold c5
    rw [bcH_vot h c12 c40 (by decide) (by omega) (by omega) (by omega) (by decide), bcH_vot h c12 c40 (by decide) (by omega) (by omega) (by omega) (by decide), bcH_vot h c12 c40 (by decide) (by omega) (by omega) (by omega) (by decide), bcH_vot h c12 c40 (by decide) (by omega) (by omega) (by omega) (by decide), bcH_vot h c12 c40 (by decide) (by omega) (by omega) (by omega) (by decide)]
/-! the layout with a reader more -/
def yT (y : LY) : LY := ((y.new (.inl 3)).sR y.n 0 (some 10)).sR y.n 1 (some 40)
theorem yT_n (y : LY) : (yT y).n = y.n + 1 := rfl
theorem yT_k {y : LY} {a : Nat} (h : a ≠ y.n) : (yT y).k a = y.k a := if_neg h
theorem yT_R {y : LY} {a : Nat} (h : a ≠ y.n) (j : Nat) : (yT y).R a j = y.R a j := by
  show up2 (up2 (fun x j => if x = y.1 then none else y.2.2 x j) y.n 0 (some 10)) y.n 1 (some 40) a j = _
  unfold up2
  rw [if_neg (fun z => h z.1), if_neg (fun z => h z.1)]
  exact if_neg h
theorem yT_Lay {y : LY} (hY : Lay y) : Lay (yT y) := ⟨by rw [yT_n]; have := hY.1; omega, fun a h1 h2 => by
  have := hY.1
  have q : a ≠ y.n := by omega
  exact ⟨(yT_k q).trans (hY.2 a h1 h2).1, fun j => (yT_R q j).trans ((hY.2 a h1 h2).2 j)⟩⟩
theorem yT_o {y : LY} (hY : Lay y) : IsO (yT y) y.n 3 := ⟨by have := hY.1; omega, by rw [yT_n]; omega, by
  show (if y.n = y.1 then (.inl 3 : Kd) else y.2.1 y.n) = _
  exact if_pos rfl⟩
theorem yT_0 (y : LY) : (yT y).R y.n 0 = some 10 := by
  show up2 (up2 (fun x j => if x = y.1 then none else y.2.2 x j) y.n 0 (some 10)) y.n 1 (some 40) y.n 0 = _
  unfold up2
  rw [if_neg (fun z => absurd z.2 (by decide)), if_pos ⟨rfl, rfl⟩]
theorem yT_1 (y : LY) : (yT y).R y.n 1 = some 40 := by
  show up2 (up2 (fun x j => if x = y.1 then none else y.2.2 x j) y.n 0 (some 10)) y.n 1 (some 40) y.n 1 = _
  unfold up2
  rw [if_pos ⟨rfl, rfl⟩]
def rdI (h : HM) (u : Nat) : HM := ((((((h.sI u 2 0).sI u 3 0).sI u 4 0).sI u 5 0).sI u 6 0).sI u 7 0).sI u 8 0
theorem rdI_I (h : HM) {u a : Nat} (q : a ≠ u) (j : Nat) : (rdI h u).I a j = h.I a j := by
  unfold rdI
  simp only [sI_I, q, false_and, if_false]
theorem rdI_L (h : HM) (u : Nat) : (rdI h u).L = h.L := rfl
theorem rdI_P (h : HM) (u : Nat) : rdP (rdI h u) u = P0 ∧ (rdI h u).I u 5 = 0 ∧ (rdI h u).I u 6 = 0 := by
  unfold rdI
  refine ⟨?_, ?_, ?_⟩ <;> simp [rdP, P0, HM.sI, HM.I, up2]
theorem new_I (h : HM) {u a : Nat} (q : a ≠ u) (j : Nat) : (h.new u).I a j = h.I a j := if_neg q
theorem new_L (h : HM) {u a : Nat} (q : a ≠ u) : (h.new u).L a = h.L a := funext fun _ => if_neg q
theorem RO_19 (d : Nat) : RO (rmo (d + 1) 1 9) d 0 0 (1, 9) := ⟨Nat.le_refl _, Nat.le_refl _, Nat.le_refl _, Nat.le_refl _⟩
set_option maxRecDepth 100000 in
set_option maxHeartbeats 1000000 in
theorem e_X3_init {G : GX} {y : LY} {h : HM} {d u : Nat} (ho : IsO y u 3) : Ev G mX3_init (d + 1) 0 0 [.ref u, .ref 10, .ref 40] y h ((y.sR u 0 (some 10)).sR u 1 (some 40)) (fun r h1 => r = none ∧ h1 = rdI h u) := by
  refine Ev.of rfl [some (.ref u), some (.ref 10), some (.ref 40)] rfl (Nat.le_of_ble_eq_true rfl) ?_
  refine g_aload_n dX3_init_0 rfl rfl (cv_X3_3 (M := mX3_init) rfl dX3_init_1 ⟨by simp [rmo], by simp only [rmo]; omega⟩ (Nat.le_of_ble_eq_true rfl) (g_aload_n dX3_init_4 rfl rfl (g_iconst dX3_init_5 (pf_X3_11 (M := mX3_init) rfl dX3_init_6 ho (g_aload_n dX3_init_9 rfl rfl (g_iconst dX3_init_10 (pf_X3_15 (M := mX3_init) rfl dX3_init_11 ho (g_aload_n dX3_init_14 rfl rfl (g_iconst dX3_init_15 (pf_X3_18 (M := mX3_init) rfl dX3_init_16 ho (g_aload_n dX3_init_19 rfl rfl ?_)))))))))))
  refine g_iconst dX3_init_20 (pf_X3_21 (M := mX3_init) rfl dX3_init_21 (by omega) ho (g_aload_n dX3_init_24 rfl rfl (g_iconst dX3_init_25 (pf_X3_25 (M := mX3_init) rfl dX3_init_26 (by omega) ho (g_aload_n dX3_init_29 rfl rfl (g_iconst dX3_init_30 (pf_X3_28 (M := mX3_init) rfl dX3_init_31 ho (g_aload_n dX3_init_34 rfl rfl (g_iconst dX3_init_35 (pf_X3_31 (M := mX3_init) rfl dX3_init_36 ho (g_aload_n dX3_init_39 rfl rfl (g_aload_n dX3_init_40 rfl rfl (pf_X3_34 (M := mX3_init) rfl rfl dX3_init_41 ho (g_aload_n dX3_init_44 rfl rfl (g_aload_n dX3_init_45 rfl rfl (pf_X3_38 (M := mX3_init) rfl rfl dX3_init_46 ho ?_))))))))))))))))
  exact g_vret dX3_init_49 rfl rfl ⟨Nat.le_refl _, Nat.le_refl _⟩ ⟨rfl, rfl⟩
/-- what text() leaves -/
def FrT (h h1 : HM) : Prop := (∀ a, a < 161 → h1.L a = h.L a) ∧ (∀ j, j ≠ 11 → h1.I 9 j = h.I 9 j) ∧ ∀ a j, a < 161 → a ≠ 9 → a ≠ 10 → ¬ (12 ≤ a ∧ a < 68) → a ≠ 69 → h1.I a j = h.I a j
def TxtP (h0 : HM) (v : Int) (h1 : HM) : Prop := FrT h0 h1 ∧ h1.I 10 1 = 0 ∧ h1.I 9 11 = (paP (h0.I 11) (h0.I 10 1)).fnd ∧
  (((paP (h0.I 11) (h0.I 10 1)).fnd ≠ 0 ∧ v = -10 - (paP (h0.I 11) (h0.I 10 1)).fat ∧ (∀ a j, 12 ≤ a → a < 40 → h1.I a j = h0.I a j) ∧ ∀ j, h1.I 69 j = h0.I 69 j) ∨
   ((paP (h0.I 11) (h0.I 10 1)).fnd = 0 ∧ v = ((pa0 (h0.I 11) (h0.I 10 1)).2 : Int) ∧ ClkD h1 12 (pa0 (h0.I 11) (h0.I 10 1)).1.2 ∧ DV (pa0 (h0.I 11) (h0.I 10 1)).1.2 ∧ DW (pa0 (h0.I 11) (h0.I 10 1)).1.2 ∧ (∀ v : Nat, (v : Int) < (pa0 (h0.I 11) (h0.I 10 1)).1.2.nv → ((pa0 (h0.I 11) (h0.I 10 1)).1.2.V v).2.1 < (pa0 (h0.I 11) (h0.I 10 1)).1.2.nf) ∧ h1.I 69 0 = 0 ∧ h1.I 69 1 = 0))
theorem tx_a {h0 h h1 : HM} {u : Nat} (hu : 161 ≤ u) (e0 : ∀ a j, a < 161 → h.I a j = h0.I a j) (eL : ∀ a, a < 161 → h.L a = h0.L a) (hf : FrL u h h1) (w : Int) : FrT h0 ((h1.sI 10 1 0).sI 9 11 w) ∧ (∀ a j, 12 ≤ a → a < 40 → ((h1.sI 10 1 0).sI 9 11 w).I a j = h0.I a j) ∧ (∀ j, ((h1.sI 10 1 0).sI 9 11 w).I 69 j = h0.I 69 j) ∧ ((h1.sI 10 1 0).sI 9 11 w).I 10 1 = 0 ∧ ((h1.sI 10 1 0).sI 9 11 w).I 9 11 = w := by
  refine ⟨⟨fun a ha => ?_, fun j hj => ?_, fun a j a1 a2 a3 a4 a5 => ?_⟩, fun a j a1 a2 => ?_, fun j => ?_, ?_, ?_⟩
  · show h1.L a = _; rw [hf.1]; exact eL a ha
  · rw [sI_I, if_neg (by omega), sI_I, if_neg (by omega), hf.2 9 j (by omega) (by omega)]; exact e0 9 j (by omega)
  · rw [sI_I, if_neg (by omega), sI_I, if_neg (by omega), hf.2 a j (by omega) (by omega)]; exact e0 a j a1
  · rw [sI_I, if_neg (by omega), sI_I, if_neg (by omega), hf.2 a j (by omega) (by omega)]; exact e0 a j (by omega)
  · rw [sI_I, if_neg (by omega), sI_I, if_neg (by omega), hf.2 69 j (by omega) (by omega)]; exact e0 69 j (by omega)
  · rw [sI_I, if_neg (by omega), sI_I, if_pos ⟨rfl, rfl⟩]
  · rw [sI_I, if_pos ⟨rfl, rfl⟩]
theorem pa_6 {T : Nat → Int} {len : Int} (hB : PB T len (pa0 T len).1.1) (h : (paP T len).fnd = 0) : (pa0 T len).1.1.fnd = 0 ∧ ∀ v : Nat, (v : Int) < (pa0 T len).1.2.nv → ((pa0 T len).1.2.V v).2.1 < (pa0 T len).1.2.nf := by
  have h0 : ¬ ((pa0 T len).1.1.fnd = 0 ∧ ∃ v : Nat, v < (pa0 T len).1.2.nv.toNat ∧ (pa0 T len).1.2.nf ≤ ((pa0 T len).1.2.V v).2.1) := fun z => by
    rw [show paP T len = _ from cnd_t z] at h
    exact absurd h (by show ¬ (6 : Int) = 0; decide)
  rw [show paP T len = (pa0 T len).1.1 from cnd_f h0] at h
  refine ⟨h, fun v hv => ?_⟩
  exact Int.not_le.mp (fun z => h0 ⟨h, v, by omega, z⟩)
theorem tx_b {h0 H2 : HM} {u : Nat} {D : DT} (hF : FrT h0 H2) (hD : DrC H2 u D) (hV : DV D) (e1 : H2.I 10 1 = 0) {w : Int} (e2 : H2.I 9 11 = w) : FrT h0 (((bcH H2 12 40).sI 69 0 0).sI 69 1 0) ∧ (((bcH H2 12 40).sI 69 0 0).sI 69 1 0).I 10 1 = 0 ∧ (((bcH H2 12 40).sI 69 0 0).sI 69 1 0).I 9 11 = w ∧ ClkD (((bcH H2 12 40).sI 69 0 0).sI 69 1 0) 12 D ∧ (((bcH H2 12 40).sI 69 0 0).sI 69 1 0).I 69 0 = 0 ∧ (((bcH H2 12 40).sI 69 0 0).sI 69 1 0).I 69 1 = 0 := by
  have hn := hV.1.1; have hm := hV.2.1.1
  have e3 := hD.1.1; have e4 := hD.2.1.1; have e5 := hD.2.2.1.2.2.2.2
  have eo : ∀ a j, (a < 12 ∨ 40 ≤ a) → (bcH H2 12 40).I a j = H2.I a j := fun a j q => bcH_out H2 12 40 (by omega) (by omega) (by omega) (by omega) j
  have hc := bc_D hD hV
  have e69 : ∀ a j, a ≠ 69 → (((bcH H2 12 40).sI 69 0 0).sI 69 1 0).I a j = (bcH H2 12 40).I a j := fun a j q => by rw [sI_I, if_neg (by omega), sI_I, if_neg (by omega)]
  refine ⟨⟨fun a ha => hF.1 a ha, fun j hj => ?_, fun a j a1 a2 a3 a4 a5 => ?_⟩, ?_, ?_, ⟨⟨?_, fun i hi => ?_⟩, ⟨?_, fun i hi => ?_⟩, ?_, ?_, ?_, ?_, ?_⟩, ?_, ?_⟩
  · rw [e69 _ _ (by omega), eo _ _ (by omega)]; exact hF.2.1 j hj
  · rw [e69 _ _ (by omega), eo _ _ (by omega)]; exact hF.2.2 a j a1 a2 a3 a4 a5
  · rw [e69 _ _ (by omega), eo _ _ (by omega)]; exact e1
  · rw [e69 _ _ (by omega), eo _ _ (by omega)]; exact e2
  · rw [e69 _ _ (by omega)]; exact hc.1.1
  · rw [c5_eq (fun j => e69 _ j (by omega))]; exact hc.1.2 i hi
  · rw [e69 _ _ (by omega)]; exact hc.2.1.1
  · rw [c5_eq (fun j => e69 _ j (by omega))]; exact hc.2.1.2 i hi
  · rw [e69 _ _ (by omega)]; exact hc.2.2.1
  · rw [e69 _ _ (by omega)]; exact hc.2.2.2.1
  · rw [e69 _ _ (by omega)]; exact hc.2.2.2.2.1
  · rw [e69 _ _ (by omega)]; exact hc.2.2.2.2.2.1
  · rw [e69 _ _ (by omega)]; exact hc.2.2.2.2.2.2
  · rw [sI_I, if_neg (by decide), sI_I, if_pos ⟨rfl, rfl⟩]
  · rw [sI_I, if_pos ⟨rfl, rfl⟩]
theorem RO_19w (d : Nat) : RO (rmo (d + 8) 1 9) (d + 1) 0 0 (1, 9) := ⟨by show d + 1 + 1 ≤ d + 8; omega, by show 64 * (d + 1 + 1) ≤ 64 * (d + 8); omega, Nat.le_refl _, Nat.le_refl _⟩
theorem tx_d {h : HM} {u : Nat} {D : DT} {w : Int} (hr : 161 ≤ u) (hD : DrC h u D) (hV : DV D) : DrC ((h.sI 10 1 0).sI 9 11 w) u D := by
  have e : ∀ a j, a ≠ 9 → a ≠ 10 → ((h.sI 10 1 0).sI 9 11 w).I a j = h.I a j := fun a j q1 q2 => by rw [sI_I, if_neg (by omega), sI_I, if_neg (by omega)]
  have hn := hV.1.1; have hm := hV.2.1.1
  refine ⟨⟨(e _ _ (by omega) (by omega)).trans hD.1.1, fun i hi => (c5_eq fun j => e _ j (by omega) (by omega)).trans (hD.1.2 i hi)⟩, ⟨(e _ _ (by omega) (by omega)).trans hD.2.1.1, fun i hi => (c5_eq fun j => e _ j (by omega) (by omega)).trans (hD.2.1.2 i hi)⟩, ⟨(e _ _ (by omega) (by omega)).trans hD.2.2.1.1, (e _ _ (by omega) (by omega)).trans hD.2.2.1.2.1, (e _ _ (by omega) (by omega)).trans hD.2.2.1.2.2.1, (e _ _ (by omega) (by omega)).trans hD.2.2.1.2.2.2.1, (e _ _ (by omega) (by omega)).trans hD.2.2.1.2.2.2.2⟩, (e _ _ (by omega) (by omega)).trans hD.2.2.2.1, (e _ _ (by omega) (by omega)).trans hD.2.2.2.2⟩
theorem run_B {T : Nat → Int} {len : Int} : ∀ (n : Nat) (P : PS) (D : DT), PB T len P → PB T len (runS T len n P D).1.1
  | 0, P, D, h => h
  | n + 1, P, D, h => by
    by_cases z : P.fnd = 0 ∧ P.tok ≠ 0
    · rw [run_s z]; exact run_B n _ _ (liS_M h).1.adv
    · rw [run_n z]; exact h
set_option maxRecDepth 100000 in
set_option maxHeartbeats 1000000 in
theorem t_X8_text {G : GX} {y : LY} {h h0 : HM} {d u : Nat} (hY : Lay y) (ho : IsO y u 3) (hRt : y.R u 0 = some 10) (hRd : y.R u 1 = some 40) (hr : 161 ≤ u) (hS : TS h u (h0.I 11) (h0.I 10 1) P0) (h5 : h.I u 5 = 0) (h6 : h.I u 6 = 0) (e0 : ∀ a j, a < 161 → h.I a j = h0.I a j) (eL : ∀ a, a < 161 → h.L a = h0.L a) : Go G mX8_text (rmo (d + 8) 1 9) (ZM G y 1 9 (fun r h1 => ∃ v_ : Int, r = some (.int (iZ v_)) ∧ TxtP h0 v_ h1)) y 15 [some (.ref 9), none, none, none] [.ref u] h (1, 9) := by
  refine g_ast1 dX8_text_15 (by decide) rfl (g_aload_n dX8_text_16 rfl rfl ?_)
  refine cv_X8_84 (M := mX8_text) rfl dX8_text_17 ho (RO_19 _) (Nat.le_of_ble_eq_true rfl) (e_X3_readLines hY ho hRt hRd hr hS h5 h6) (kQX fun v17 h17 hq17 => ?_)
  obtain ⟨ev, fl, ts, dc, dv, dw⟩ := hq17
  subst ev
  have ff := ts.f
  have xb := ts.2.2.2.2.2.2.1
  have hta := tx_a hr e0 eL fl (h17.I u 7)
  have hU7 : (h17.sI 10 1 0).I u 7 = h17.I u 7 := by rw [sI_I, if_neg (by omega)]
  have hU8 : ((h17.sI 10 1 0).sI 9 11 (h17.I u 7)).I u 8 = h17.I u 8 := by rw [sI_I, if_neg (by omega), sI_I, if_neg (by omega)]
  have dc2 : DrC ((h17.sI 10 1 0).sI 9 11 (h17.I u 7)) u (pa0 (h0.I 11) (h0.I 10 1)).1.2 := tx_d hr dc dv
  have db2 := dc2.b dv
  have e45 := dc2.2.2.1.2.2.2.2
  refine g_ist2 dX8_text_20 (by decide) rfl (g_aload_n dX8_text_21 rfl rfl (gf_X8_12 (M := mX8_text) rfl dX8_text_22 (yo9 hY) (yr9_0 hY) (g_iconst dX8_text_25 (pf_X8_76 (M := mX8_text) rfl dX8_text_26 (yo10 hY) (g_aload_n dX8_text_29 rfl rfl (g_aload_n dX8_text_30 rfl rfl (gf_X8_88 (M := mX8_text) rfl dX8_text_31 ho (pf_X8_64 (M := mX8_text) rfl dX8_text_34 (yo9 hY) ?_))))))))
  rw [hU7]
  refine g_aload_n dX8_text_37 rfl rfl (gf_X8_64 (M := mX8_text) rfl dX8_text_38 (yo9 hY) ?_)
  rw [hta.2.2.2.2]
  refine g_if_eq 52 dX8_text_41 rfl (by omega) (fun c41 => ?_) (fun c41 => ?_)
  · skip
    refine g_aload_n dX8_text_52 rfl rfl (gf_X8_19 (M := mX8_text) rfl dX8_text_53 (yo9 hY) (yr9_1 hY) (g_aload_n dX8_text_56 rfl rfl (gf_X8_23 (M := mX8_text) rfl dX8_text_57 (yo9 hY) (yr9_2 hY) (cv_X8_94 (M := mX8_text) rfl dX8_text_60 (ck_o hY clk12) (RO_19 _) (Nat.le_of_ble_eq_true rfl) (e_X0_become hY (Or.inl rfl) clk40 (by decide) (by omega) (by omega) (by omega) (fun i i0 i1 => by omega)) <| kV (g_iconst dX8_text_63 (g_ist3 dX8_text_64 (by decide) rfl ?_))))))
    have L65 : ∀ (m : Nat) (h1 : HM) (k : Nat), m = 2 - k → k ≤ 2 → (k = 0 → h1 = bcH ((h17.sI 10 1 0).sI 9 11 (h17.I u 7)) 12 40) → (k = 1 → h1 = (bcH ((h17.sI 10 1 0).sI 9 11 (h17.I u 7)) 12 40).sI 69 0 0) → (k = 2 → h1 = ((bcH ((h17.sI 10 1 0).sI 9 11 (h17.I u 7)) 12 40).sI 69 0 0).sI 69 1 0) → Go G mX8_text (rmo (d + 8) 1 9) (ZM G y 1 9 (fun r h1 => ∃ v_ : Int, r = some (.int (iZ v_)) ∧ TxtP h0 v_ h1)) y 65 [some (.ref 9), some (.ref u), some (.int (iZ ((pa0 (h0.I 11) (h0.I 10 1)).2 : Int))), some (.int (iZ k))] [] h1 (1, 9) := by
      intro m
      induction m using Nat.strongRecOn with | _ m ih =>
      intro h1 k hm hk k0 k1 k2
      refine g_iload_n dX8_text_65 rfl rfl (g_aload_n dX8_text_66 rfl rfl (gf_X8_30 (M := mX8_text) rfl dX8_text_67 (yo9 hY) (yr9_4 hY) (g_alen dX8_text_70 (ya69 hY) (by decide) rfl ?_)))
      refine g_icmp_ge 87 dX8_text_71 rfl (by omega) (by omega) (fun c71 => ?_) (fun c71 => ?_)
      · skip
        refine g_iload_n dX8_text_87 rfl rfl ?_
        exact g_iret dX8_text_88 rfl rfl ⟨Nat.le_refl _, Nat.le_refl _⟩ (by obtain rfl : k = 2 := (by omega); rw [k2 rfl]; have hz := tx_b hta.1 dc2 dv hta.2.2.2.1 hta.2.2.2.2; refine ⟨_, rfl, hz.1, hz.2.1, by rw [hz.2.2.1]; exact ff.2.2.2.1, Or.inr ⟨by omega, rfl, hz.2.2.2.1, dv, dw (pa_6 (run_B 401 _ _ (P0_B hS.1.2.2.1.1).adv) (by omega)).1, (pa_6 (run_B 401 _ _ (P0_B hS.1.2.2.1.1).adv) (by omega)).2, hz.2.2.2.2.1, hz.2.2.2.2.2⟩⟩)
      · skip
        refine g_aload_n dX8_text_74 rfl rfl (gf_X8_30 (M := mX8_text) rfl dX8_text_75 (yo9 hY) (yr9_4 hY) (g_iload_n dX8_text_78 rfl rfl (g_iconst dX8_text_79 (g_zast dX8_text_80 (ya69 hY) ⟨by omega, by omega, by omega⟩ (by omega) (g_inc3 dX8_text_81 (by decide) rfl (g_goto 65 dX8_text_84 rfl ?_))))))
        refine ih (m - 1) (by omega) _ (k + 1) (by omega) (by omega) (fun z => by omega) (fun z => ?_) (fun z => ?_)
        · obtain rfl : k = 0 := by omega
          rw [k0 rfl]; rfl
        · obtain rfl : k = 1 := by omega
          rw [k1 rfl]; rfl
    exact L65 2 _ 0 (by omega) (by omega) (fun _ => rfl) (fun z => by omega) (fun z => by omega)
  · skip
    refine g_bipush dX8_text_44 kbm10 (g_aload_n dX8_text_46 rfl rfl (gf_X8_91 (M := mX8_text) rfl dX8_text_47 ho ?_))
    rw [hU8]
    refine g_isub dX8_text_50 ?_
    exact g_iret dX8_text_51 rfl rfl ⟨Nat.le_refl _, Nat.le_refl _⟩ (by refine ⟨_, rfl, hta.1, hta.2.2.2.1, by rw [hta.2.2.2.2]; exact ff.2.2.2.1, Or.inl ⟨by omega, ?_, hta.2.1, hta.2.2.1⟩⟩; rw [ff.2.2.2.2 (by omega)])
set_option maxRecDepth 100000 in
set_option maxHeartbeats 1000000 in
theorem e_X8_text {G : GX} {y : LY} {h : HM} {d : Nat} (hY : Lay y) (hT : TP h (h.I 11) (h.I 10 1)) : Ev G mX8_text (d + 8) 1 9 [.ref 9] y h (yT y) (fun r h1 => ∃ v_ : Int, r = some (.int (iZ v_)) ∧ TxtP h v_ h1) := by
  have hn := hY.1
  have q : ∀ a, a < 161 → a ≠ y.n := fun a z => by omega
  have hp := rdI_P (h.new y.n) y.n
  have e0 : ∀ a j, a < 161 → (rdI (h.new y.n) y.n).I a j = h.I a j := fun a j z => (rdI_I _ (q a z) j).trans (new_I h (q a z) j)
  have eL : ∀ a, a < 161 → (rdI (h.new y.n) y.n).L a = h.L a := fun a z => new_L h (q a z)
  refine Ev.of rfl [some (.ref 9), none, none, none] rfl (Nat.le_of_ble_eq_true rfl) ?_
  refine nw_X8_79 (M := mX8_text) rfl dX8_text_0 ⟨Nat.le_refl _, Nat.le_refl _⟩ ?_
  have hY1 : Lay (y.new (.inl 3)) := ⟨by show 161 ≤ y.n + 1; omega, fun a h1 h2 => ⟨(if_neg (q a h2)).trans (hY.2 a h1 h2).1, fun j => (if_neg (q a h2)).trans ((hY.2 a h1 h2).2 j)⟩⟩
  refine g_dup dX8_text_3 rfl (g_aload_n dX8_text_4 rfl rfl (gf_X8_12 (M := mX8_text) rfl dX8_text_5 (yo9 hY1) (yr9_0 hY1) (g_aload_n dX8_text_8 rfl rfl (gf_X8_23 (M := mX8_text) rfl dX8_text_9 (yo9 hY1) (yr9_2 hY1) ?_))))
  refine cv_X8_81 (M := mX8_text) rfl dX8_text_12 (d := d + 1) (RO_19w _) (Nat.le_of_ble_eq_true rfl) (e_X3_init ⟨by omega, Nat.lt_succ_self _, if_pos rfl⟩) ?_
  rintro r h1 ⟨rfl, rfl⟩
  have hS : TS (rdI (h.new y.n) y.n) y.n (h.I 11) (h.I 10 1) P0 := ⟨⟨funext fun j => e0 11 j (by decide), e0 10 1 (by decide), hT.2.2⟩, hp.1, P0_B hT.2.2.1.1⟩
  exact t_X8_text (d := d) (yT_Lay hY) (yT_o hY) (yT_0 y) (yT_1 y) hn hS hp.2.1 hp.2.2 e0 eL
