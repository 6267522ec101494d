/-! THE REFERENCE. its figures: kind, teeth, first, door, late, gap at 1 + 6 f on -/
def laR (X : Fg) : Int := if 0 < X.la then X.la else -4
def gaR (X : Fg) : Int := if 0 < X.ga then X.ga else -4
def kdR (X : Fg) : Int := kndF X.la X.ga
def RFg (h : HM) (f : Int) (X : Fg) : Prop := h.I 151 (1 + 6 * f + 0).toNat = kdR X ∧ h.I 151 (1 + 6 * f + 1).toNat = X.te ∧ h.I 151 (1 + 6 * f + 2).toNat = X.st ∧ h.I 151 (1 + 6 * f + 3).toNat = X.dr ∧ h.I 151 (1 + 6 * f + 4).toNat = laR X ∧ h.I 151 (1 + 6 * f + 5).toNat = gaR X
theorem kR {X : Fg} (hW : FgW X) : (0 ≤ kdR X ∧ kdR X ≤ 3) ∧ ((kdR X % 2 = 1 ∧ 0 < X.la ∧ laR X = X.la ∧ max X.la 1 = laR X ∧ rn X = laR X * X.te + 1) ∨ (kdR X % 2 = 0 ∧ X.la = 0 ∧ laR X = -4 ∧ max X.la 1 = 1 ∧ rn X = X.te)) ∧ ((1 < kdR X ∧ 0 < X.ga ∧ gaR X = X.ga) ∨ (kdR X ≤ 1 ∧ X.ga = 0 ∧ gaR X = -4)) := by
  unfold kdR laR gaR kndF rn rnd
  have h1 := hW.2.2.1
  have h2 := hW.2.2.2.2.1
  by_cases a : 0 < X.la
  · by_cases b : 0 < X.ga
    · simp only [if_pos a, if_pos b]; exact ⟨⟨by omega, by omega⟩, Or.inl ⟨by omega, a, (by first | rfl | trivial), by omega, (by first | rfl | trivial)⟩, Or.inl ⟨by omega, b, (by first | rfl | trivial)⟩⟩
    · simp only [if_pos a, if_neg b]; exact ⟨⟨by omega, by omega⟩, Or.inl ⟨by omega, a, (by first | rfl | trivial), by omega, (by first | rfl | trivial)⟩, Or.inr ⟨by omega, by omega, (by first | rfl | trivial)⟩⟩
  · by_cases b : 0 < X.ga
    · simp only [if_neg a, if_pos b]; exact ⟨⟨by omega, by omega⟩, Or.inr ⟨by omega, by omega, (by first | rfl | trivial), by omega, (by first | rfl | trivial)⟩, Or.inl ⟨by omega, b, (by first | rfl | trivial)⟩⟩
    · simp only [if_neg a, if_neg b]; exact ⟨⟨by omega, by omega⟩, Or.inr ⟨by omega, by omega, (by first | rfl | trivial), by omega, (by first | rfl | trivial)⟩, Or.inr ⟨by omega, by omega, (by first | rfl | trivial)⟩⟩
/-- the i-th rest of a round -/
def rsR (X : Fg) (i : Int) : Int := (X.st + i % max X.la 1 * X.te + (if i < max X.la 1 then 0 else X.ga)) % rn X
def rsO (X : Fg) (i : Int) : Int := i % max X.la 1 * X.te + (if i < max X.la 1 then 0 else X.ga)
theorem rsR_bd {X : Fg} (hW : FgW X) (i : Int) : 0 ≤ rsR X i ∧ rsR X i < rn X := em_bd _ (by have := rn_bd hW; omega)
theorem rsR_o (X : Fg) (i : Int) : rsR X i = (X.st + rsO X i) % rn X := by unfold rsR rsO; rw [Int.add_assoc]
theorem tms_c {X : Fg} : tms X.la X.ga = if 0 < X.ga then max X.la 1 * 2 else max X.la 1 * 1 := by unfold tms; split <;> rfl
theorem rsO_off {X : Fg} (hW : FgW X) {i : Int} (hi : 0 ≤ i ∧ i < tms X.la X.ga) : Off X (rsO X i) := by
  have ht := tms_c (X := X)
  have hm : 1 ≤ max X.la 1 := by omega
  have hb := em_bd i (d := max X.la 1) (by omega)
  unfold rsO
  by_cases c : i < max X.la 1
  · rw [if_pos c]
    exact ⟨i % max X.la 1, hb.1, hb.2, Or.inl (by omega)⟩
  · rw [if_neg c]
    by_cases g : 0 < X.ga
    · exact ⟨i % max X.la 1, hb.1, hb.2, Or.inr ⟨g, rfl⟩⟩
    · rw [if_neg g] at ht; omega
theorem off_rsO {X : Fg} {x : Int} (h : Off X x) : ∃ i : Int, (0 ≤ i ∧ i < tms X.la X.ga) ∧ x = rsO X i := by
  obtain ⟨i, h0, h1, h2⟩ := h
  have ht := tms_c (X := X)
  unfold rsO
  rcases h2 with h2 | ⟨g, h2⟩
  · refine ⟨i, ⟨h0, ?_⟩, ?_⟩
    · by_cases g : 0 < X.ga
      · rw [if_pos g] at ht; omega
      · rw [if_neg g] at ht; omega
    · rw [if_pos h1, Int.emod_eq_of_lt h0 h1]; omega
  · rw [if_pos g] at ht
    refine ⟨i + max X.la 1, ⟨by omega, by omega⟩, ?_⟩
    rw [if_neg (by omega), Int.add_emod_right, Int.emod_eq_of_lt h0 h1]; exact h2
theorem off_ex {X : Fg} (P : Int → Prop) : (∃ x, Off X x ∧ P x) ↔ ∃ k : Int, (0 ≤ k ∧ k < tms X.la X.ga) ∧ P (ofs X.te X.ga k) := by
  constructor
  · rintro ⟨x, h, p⟩
    obtain ⟨k, k0, k1, rfl⟩ := of_off h
    exact ⟨k, ⟨k0, k1⟩, p⟩
  · rintro ⟨k, hk, p⟩
    exact ⟨_, off_of k hk, p⟩
theorem off_ex2 {X : Fg} (hW : FgW X) (P : Int → Prop) : (∃ x, Off X x ∧ P x) ↔ ∃ i : Int, (0 ≤ i ∧ i < tms X.la X.ga) ∧ P (rsO X i) := by
  constructor
  · rintro ⟨x, h, p⟩
    obtain ⟨i, hi, rfl⟩ := off_rsO h
    exact ⟨i, hi, p⟩
  · rintro ⟨i, hi, p⟩
    exact ⟨_, rsO_off hW hi, p⟩
theorem sub_mm (t x n : Int) : (t - x % n) % n = (t - x) % n := by rw [Int.sub_emod, Int.emod_emod_of_dvd _ (Int.dvd_refl n), ← Int.sub_emod]
theorem out_rsR {X : Fg} (hW : FgW X) (t : Int) : OutF X t ↔ ∃ i : Int, (0 ≤ i ∧ i < tms X.la X.ga) ∧ (t - rsR X i) % rn X = 0 := by
  rw [out_tmo hW t]
  have e1 : ∀ k, (t - tmo X.te X.st X.la X.ga k) % rn X = (t - (X.st + ofs X.te X.ga k)) % rn X := fun k => sub_mm _ _ _
  have e2 : ∀ i, (t - rsR X i) % rn X = (t - (X.st + rsO X i)) % rn X := fun i => by rw [rsR_o]; exact sub_mm _ _ _
  simp only [e1, e2]
  exact (off_ex (X := X) (fun x => (t - (X.st + x)) % rn X = 0)).symm.trans (off_ex2 hW (fun x => (t - (X.st + x)) % rn X = 0))
theorem mod_rest {t r n : Int} (hr : 0 ≤ r ∧ r < n) : (t - r) % n = 0 ↔ t % n = r := by
  have hn : 0 < n := by omega
  constructor
  · intro h
    have h1 : t % n = r % n := by
      have := Int.emod_emod_of_dvd
      have h2 := Int.sub_emod t r n
      rw [h] at h2
      exact (Int.emod_eq_emod_iff_emod_sub_eq_zero).mpr h
    rw [h1, Int.emod_eq_of_lt hr.1 hr.2]
  · intro h
    apply (Int.emod_eq_emod_iff_emod_sub_eq_zero).mp
    rw [h, Int.emod_eq_of_lt hr.1 hr.2]
theorem rsO_inj {X : Fg} (hW : FgW X) {i j : Int} (hi : 0 ≤ i ∧ i < tms X.la X.ga) (hj : 0 ≤ j ∧ j < tms X.la X.ga) (h : rsO X i = rsO X j) : i = j := by
  have ht := tms_c (X := X)
  have hte : 0 < X.te := by omega
  have key : ∀ a b c : Int, 0 ≤ c → c < X.te → (a * X.te + c) / X.te = a ∧ (a * X.te + c) % X.te = c := fun a b c c0 c1 => by
    constructor
    · rw [Int.add_comm, Int.add_mul_ediv_right _ _ (by omega), Int.ediv_eq_zero_of_lt c0 c1]; omega
    · rw [Int.add_comm, Int.add_mul_emod_self_right, Int.emod_eq_of_lt c0 c1]
  have hx : ∀ z : Int, 0 ≤ z ∧ z < tms X.la X.ga → rsO X z / X.te = z % max X.la 1 ∧ rsO X z % X.te = (if z < max X.la 1 then 0 else X.ga) := fun z hz => by
    unfold rsO
    by_cases c : z < max X.la 1
    · rw [if_pos c]; exact key _ 0 0 (by omega) hte
    · rw [if_neg c]; exact key _ 0 X.ga hW.2.2.2.2.1 hW.2.2.2.2.2
  have a := hx i hi
  have b := hx j hj
  rw [h] at a
  have e1 : i % max X.la 1 = j % max X.la 1 := a.1.symm.trans b.1
  have e2 := a.2.symm.trans b.2
  by_cases ci : i < max X.la 1
  · by_cases cj : j < max X.la 1
    · rw [Int.emod_eq_of_lt hi.1 ci, Int.emod_eq_of_lt hj.1 cj] at e1; exact e1
    · rw [if_pos ci, if_neg cj] at e2
      by_cases g : 0 < X.ga
      · omega
      · rw [if_neg g] at ht; omega
  · by_cases cj : j < max X.la 1
    · rw [if_neg ci, if_pos cj] at e2
      by_cases g : 0 < X.ga
      · omega
      · rw [if_neg g] at ht; omega
    · by_cases g : 0 < X.ga
      · rw [if_pos g] at ht
        have q1 : i % max X.la 1 = i - max X.la 1 := by
          rw [← Int.sub_emod_right, Int.emod_eq_of_lt (by omega) (by omega)]
        have q2 : j % max X.la 1 = j - max X.la 1 := by
          rw [← Int.sub_emod_right, Int.emod_eq_of_lt (by omega) (by omega)]
        omega
      · rw [if_neg g] at ht; omega
theorem rsR_inj {X : Fg} (hW : FgW X) {t i j : Int} (hi : 0 ≤ i ∧ i < tms X.la X.ga) (hj : 0 ≤ j ∧ j < tms X.la X.ga) (h1 : (t - rsR X i) % rn X = 0) (h2 : (t - rsR X j) % rn X = 0) : i = j := by
  have hr := rn_bd hW
  have b1 := off_bd hW (rsO_off hW hi)
  have b2 := off_bd hW (rsO_off hW hj)
  rw [rsR_o, sub_mm] at h1 h2
  have h3 : (rsO X i - rsO X j) % rn X = 0 := by
    have : (rsO X i - rsO X j) = (t - (X.st + rsO X j)) - (t - (X.st + rsO X i)) := by omega
    rw [this, Int.sub_emod, h1, h2]; simp
  refine rsO_inj hW hi hj ?_
  obtain ⟨q, hq⟩ := Int.dvd_of_emod_eq_zero h3
  have q0 : q = 0 := by
    rcases Int.lt_trichotomy q 0 with z | z | z
    · have : rn X * q ≤ rn X * (-1) := Int.mul_le_mul_of_nonneg_left (by omega) (by omega)
      omega
    · exact z
    · have : rn X * 1 ≤ rn X * q := Int.mul_le_mul_of_nonneg_left (by omega) (by omega)
      omega
  rw [q0] at hq; omega
section
variable {G : GX} {M : MI} {R : Room} {Z : ZT} {y : LY} {pc : Nat} {ls : List (Option Value)} {st : List Value} {h : HM} {cs : Nat × Nat}
theorem g_iaN {a n : Nat} (k : Nat) {i : Int} (hd : decode M.2.1 pc = .ok (.iaload, 1)) (ha : IsA y a 0 n) (hi : IX i n) (hk : i.toNat = k) (kk : Go G M R Z y (pc + 1) ls (.int (iZ (h.I a k)) :: st) h cs) : Go G M R Z y pc ls (.int (iZ i) :: .ref a :: st) h cs := g_iald hd ha hi (by rw [hk]; exact kk)
theorem g_laN {a n : Nat} (k : Nat) {i : Int} (hd : decode M.2.1 pc = .ok (.laload, 1)) (ha : IsA y a 1 n) (hi : IX i n) (hk : i.toNat = k) (kk : Go G M R Z y (pc + 1) ls (.long (lZ (h.L a k)) :: st) h cs) : Go G M R Z y pc ls (.int (iZ i) :: .ref a :: st) h cs := g_lald hd ha hi (by rw [hk]; exact kk)
theorem g_zaN {a n : Nat} (k : Nat) {i : Int} (hd : decode M.2.1 pc = .ok (.baload, 1)) (ha : IsA y a 2 n) (hi : IX i n) (hk : i.toNat = k) (kk : Go G M R Z y (pc + 1) ls (.int (iZ (h.I a k)) :: st) h cs) : Go G M R Z y pc ls (.int (iZ i) :: .ref a :: st) h cs := g_zald hd ha hi (by rw [hk]; exact kk)
theorem g_isN {a n : Nat} (k : Nat) {i x : Int} (hd : decode M.2.1 pc = .ok (.iastore, 1)) (ha : IsA y a 0 n) (hi : IX i n) (hk : i.toNat = k) (kk : Go G M R Z y (pc + 1) ls st (h.sI a k x) cs) : Go G M R Z y pc ls (.int (iZ x) :: .int (iZ i) :: .ref a :: st) h cs := g_iast hd ha hi (by rw [hk]; exact kk)
theorem g_zsN {a n : Nat} (k : Nat) {i x : Int} (hd : decode M.2.1 pc = .ok (.bastore, 1)) (ha : IsA y a 2 n) (hi : IX i n) (hk : i.toNat = k) (hx : x = 0 ∨ x = 1) (kk : Go G M R Z y (pc + 1) ls st (h.sI a k x) cs) : Go G M R Z y pc ls (.int (iZ x) :: .int (iZ i) :: .ref a :: st) h cs := g_zast hd ha hi hx (by rw [hk]; exact kk)
theorem g_lsN {a n : Nat} (k : Nat) {i x : Int} (hd : decode M.2.1 pc = .ok (.lastore, 1)) (ha : IsA y a 1 n) (hi : IX i n) (hk : i.toNat = k) (kk : Go G M R Z y (pc + 1) ls st (h.sL a k x) cs) : Go G M R Z y pc ls (.long (lZ x) :: .int (iZ i) :: .ref a :: st) h cs := g_last hd ha hi (by rw [hk]; exact kk)
end
set_option maxRecDepth 100000 in
set_option maxHeartbeats 1000000 in
theorem e_X9_in {G : GX} {y : LY} {h : HM} {d : Nat} {a b c : Int} (ha : R64 a) (hb : R64 b) (hc : R64 c) : EvI G mX9_in (d) [.long (lZ a), .long (lZ b), .long (lZ c)] y h (pI (b ≤ a ∧ a ≤ c)) := by
  refine Ev.of rfl [some (.long (lZ a)), none, some (.long (lZ b)), none, some (.long (lZ c)), none] rfl (Nat.le_of_ble_eq_true rfl) ?_
  refine g_lload_n dX9_in_0 rfl rfl (g_lload_n dX9_in_1 rfl rfl ?_)
  refine g_lcmp_lt 17 dX9_in_2 dX9_in_3 rfl (by omega) (by omega) (fun c2 => ?_) (fun c2 => ?_)
  · skip
    refine g_iconst dX9_in_17 ?_
    exact g_zret dX9_in_18 rfl rfl ⟨Nat.le_refl _, Nat.le_refl _⟩ (by omega) (by first | exact ⟨someI (pI_t (by omega)).symm, rfl⟩ | exact ⟨someI (pI_f (by omega)).symm, rfl⟩)
  · skip
    refine g_lload_n dX9_in_6 rfl rfl (g_lload dX9_in_7 rfl ?_)
    refine g_lcmp_gt 17 dX9_in_9 dX9_in_10 rfl (by omega) (by omega) (fun c9 => ?_) (fun c9 => ?_)
    · skip
      refine g_iconst dX9_in_17 ?_
      exact g_zret dX9_in_18 rfl rfl ⟨Nat.le_refl _, Nat.le_refl _⟩ (by omega) (by first | exact ⟨someI (pI_t (by omega)).symm, rfl⟩ | exact ⟨someI (pI_f (by omega)).symm, rfl⟩)
    · skip
      refine g_iconst dX9_in_13 (g_goto 18 dX9_in_14 rfl ?_)
      exact g_zret dX9_in_18 rfl rfl ⟨Nat.le_refl _, Nat.le_refl _⟩ (by omega) (by first | exact ⟨someI (pI_t (by omega)).symm, rfl⟩ | exact ⟨someI (pI_f (by omega)).symm, rfl⟩)
set_option maxRecDepth 100000 in
set_option maxHeartbeats 1000000 in
theorem e_X9_flag {G : GX} {y : LY} {h : HM} {d : Nat} {a : Int} (ha : a = 0 ∨ a = 1) : EvI G mX9_flag (d) [.int (iZ a)] y h (a) := by
  refine Ev.of rfl [some (.int (iZ a))] rfl (Nat.le_of_ble_eq_true rfl) ?_
  refine g_iload_n dX9_flag_0 rfl rfl ?_
  refine g_if_eq 8 dX9_flag_1 rfl (by omega) (fun c1 => ?_) (fun c1 => ?_)
  · skip
    refine g_iconst dX9_flag_8 ?_
    exact g_iret dX9_flag_9 rfl rfl ⟨Nat.le_refl _, Nat.le_refl _⟩ (by exact ⟨someI (by omega), rfl⟩)
  · skip
    refine g_iconst dX9_flag_4 (g_goto 9 dX9_flag_5 rfl ?_)
    exact g_iret dX9_flag_9 rfl rfl ⟨Nat.le_refl _, Nat.le_refl _⟩ (by exact ⟨someI (by omega), rfl⟩)
set_option maxRecDepth 100000 in
set_option maxHeartbeats 1000000 in
theorem e_X9_isFigure {G : GX} {y : LY} {h : HM} {d : Nat} (hY : Lay y) {f : Int} (hf : R32 f) (hnf : 0 ≤ h.I 151 0 ∧ h.I 151 0 ≤ 6) : EvI G mX9_isFigure (d + 1) [.ref 150, .int (iZ f)] y h (pI (0 ≤ f ∧ f < h.I 151 0)) := by
  refine Ev.of rfl [some (.ref 150), some (.int (iZ f))] rfl (Nat.le_of_ble_eq_true rfl) ?_
  refine g_iload_n dX9_isFigure_0 rfl rfl (g_i2l dX9_isFigure_1 (by omega) (g_lconst (v := 0) dX9_isFigure_2 rfl (g_aload_n dX9_isFigure_3 rfl rfl (gf_X9_7 (M := mX9_isFigure) rfl dX9_isFigure_4 (yo150 hY) (yr150_0 hY) (g_iconst dX9_isFigure_7 (g_iaN 0 dX9_isFigure_8 (ya151 hY) ⟨by decide, by decide, by decide⟩ rfl (g_iconst dX9_isFigure_9 (g_isub dX9_isFigure_10 (g_i2l dX9_isFigure_11 (by omega) (cv_X9_71 (M := mX9_isFigure) rfl dX9_isFigure_12 (RO.same _ _ _) (Nat.le_of_ble_eq_true rfl) (e_X9_in (by omega) (by omega) (by omega)) <| kI ?_))))))))))
  exact g_zret dX9_isFigure_15 rfl rfl ⟨Nat.le_refl _, Nat.le_refl _⟩ (pI_01 _) (by exact ⟨someI (pI_congr (by omega)), rfl⟩)
set_option maxRecDepth 100000 in
set_option maxHeartbeats 1000000 in
theorem e_X9_of {G : GX} {y : LY} {h : HM} {d : Nat} (hY : Lay y) {f w : Int} (hf : 0 ≤ f ∧ f ≤ 5) (hw : 0 ≤ w ∧ w ≤ 6) : EvI G mX9_of (d) [.ref 150, .int (iZ f), .int (iZ w)] y h (h.I 151 (1 + 6 * f + w).toNat) := by
  refine Ev.of rfl [some (.ref 150), some (.int (iZ f)), some (.int (iZ w))] rfl (Nat.le_of_ble_eq_true rfl) ?_
  refine g_aload_n dX9_of_0 rfl rfl (gf_X9_7 (M := mX9_of) rfl dX9_of_1 (yo150 hY) (yr150_0 hY) (g_iconst dX9_of_4 (g_bipush dX9_of_5 kb6 (g_iload_n dX9_of_7 rfl rfl (g_imul dX9_of_8 (g_iadd dX9_of_9 (g_iload_n dX9_of_10 rfl rfl (g_iadd dX9_of_11 (g_iald dX9_of_12 (ya151 hY) ⟨by omega, by omega, by omega⟩ ?_)))))))))
  exact g_iret dX9_of_13 rfl rfl ⟨Nat.le_refl _, Nat.le_refl _⟩ (by exact ⟨rfl, rfl⟩)
theorem e_of0 {G : GX} {y : LY} {h : HM} {d : Nat} (hY : Lay y) {f : Int} {X : Fg} (hf : 0 ≤ f ∧ f ≤ 5) (hF : RFg h f X) : EvI G mX9_of d [.ref 150, .int (iZ f), .int (iZ 0)] y h (kdR X) := by
  have q := e_X9_of (G := G) (d := d) (h := h) hY (w := 0) hf (by omega)
  rw [hF.1] at q; exact q
theorem e_of1 {G : GX} {y : LY} {h : HM} {d : Nat} (hY : Lay y) {f : Int} {X : Fg} (hf : 0 ≤ f ∧ f ≤ 5) (hF : RFg h f X) : EvI G mX9_of d [.ref 150, .int (iZ f), .int (iZ 1)] y h (X.te) := by
  have q := e_X9_of (G := G) (d := d) (h := h) hY (w := 1) hf (by omega)
  rw [hF.2.1] at q; exact q
theorem e_of2 {G : GX} {y : LY} {h : HM} {d : Nat} (hY : Lay y) {f : Int} {X : Fg} (hf : 0 ≤ f ∧ f ≤ 5) (hF : RFg h f X) : EvI G mX9_of d [.ref 150, .int (iZ f), .int (iZ 2)] y h (X.st) := by
  have q := e_X9_of (G := G) (d := d) (h := h) hY (w := 2) hf (by omega)
  rw [hF.2.2.1] at q; exact q
theorem e_of3 {G : GX} {y : LY} {h : HM} {d : Nat} (hY : Lay y) {f : Int} {X : Fg} (hf : 0 ≤ f ∧ f ≤ 5) (hF : RFg h f X) : EvI G mX9_of d [.ref 150, .int (iZ f), .int (iZ 3)] y h (X.dr) := by
  have q := e_X9_of (G := G) (d := d) (h := h) hY (w := 3) hf (by omega)
  rw [hF.2.2.2.1] at q; exact q
theorem e_of4 {G : GX} {y : LY} {h : HM} {d : Nat} (hY : Lay y) {f : Int} {X : Fg} (hf : 0 ≤ f ∧ f ≤ 5) (hF : RFg h f X) : EvI G mX9_of d [.ref 150, .int (iZ f), .int (iZ 4)] y h (laR X) := by
  have q := e_X9_of (G := G) (d := d) (h := h) hY (w := 4) hf (by omega)
  rw [hF.2.2.2.2.1] at q; exact q
theorem e_of5 {G : GX} {y : LY} {h : HM} {d : Nat} (hY : Lay y) {f : Int} {X : Fg} (hf : 0 ≤ f ∧ f ≤ 5) (hF : RFg h f X) : EvI G mX9_of d [.ref 150, .int (iZ f), .int (iZ 5)] y h (gaR X) := by
  have q := e_X9_of (G := G) (d := d) (h := h) hY (w := 5) hf (by omega)
  rw [hF.2.2.2.2.2] at q; exact q
set_option maxRecDepth 100000 in
set_option maxHeartbeats 1000000 in
theorem e_X9_roundOf {G : GX} {y : LY} {h : HM} {d : Nat} (hY : Lay y) {f : Int} {X : Fg} (hf : 0 ≤ f ∧ f ≤ 5) (hF : RFg h f X) (hB : FgB X) : EvI G mX9_roundOf (d + 1) [.ref 150, .int (iZ f)] y h (rn X) := by
  have hk := kR hB.1
  have hbw := rn_bd hB.1
  have hBB := hB
  refine Ev.of rfl [some (.ref 150), some (.int (iZ f))] rfl (Nat.le_of_ble_eq_true rfl) ?_
  refine g_aload_n dX9_roundOf_0 rfl rfl (g_iload_n dX9_roundOf_1 rfl rfl (g_iconst dX9_roundOf_2 (cv_X9_143 (M := mX9_roundOf) rfl dX9_roundOf_3 (yo150 hY) (RO.same _ _ _) (Nat.le_of_ble_eq_true rfl) (e_of0 hY hf hF) <| kI (g_iconst dX9_roundOf_6 (g_iremP dX9_roundOf_7 (by omega) (by omega) (g_iconst dX9_roundOf_8 ?_))))))
  refine g_icmp_ne 30 dX9_roundOf_9 rfl (by omega) (by omega) (fun c9 => ?_) (fun c9 => ?_)
  · skip
    refine g_aload_n dX9_roundOf_30 rfl rfl (g_iload_n dX9_roundOf_31 rfl rfl (g_iconst dX9_roundOf_32 (cv_X9_143 (M := mX9_roundOf) rfl dX9_roundOf_33 (yo150 hY) (RO.same _ _ _) (Nat.le_of_ble_eq_true rfl) (e_of1 hY hf hF) <| kI ?_)))
    exact g_iret dX9_roundOf_36 rfl rfl ⟨Nat.le_refl _, Nat.le_refl _⟩ (by first | exact ⟨someI (by omega), rfl⟩ | (refine ⟨someI ?_, rfl⟩; rcases hk.2.1 with z | z; exact z.2.2.2.2.symm; omega))
  · skip
    refine g_aload_n dX9_roundOf_12 rfl rfl (g_iload_n dX9_roundOf_13 rfl rfl (g_iconst dX9_roundOf_14 (cv_X9_143 (M := mX9_roundOf) rfl dX9_roundOf_15 (yo150 hY) (RO.same _ _ _) (Nat.le_of_ble_eq_true rfl) (e_of4 hY hf hF) <| kI (g_aload_n dX9_roundOf_18 rfl rfl (g_iload_n dX9_roundOf_19 rfl rfl (g_iconst dX9_roundOf_20 (cv_X9_143 (M := mX9_roundOf) rfl dX9_roundOf_21 (yo150 hY) (RO.same _ _ _) (Nat.le_of_ble_eq_true rfl) (e_of1 hY hf hF) <| kI (g_imul dX9_roundOf_24 (g_iconst dX9_roundOf_25 (g_iadd dX9_roundOf_26 (g_goto 36 dX9_roundOf_27 rfl ?_)))))))))))
    exact g_iret dX9_roundOf_36 rfl rfl ⟨Nat.le_refl _, Nat.le_refl _⟩ (by first | exact ⟨someI (by omega), rfl⟩ | (refine ⟨someI ?_, rfl⟩; rcases hk.2.1 with z | z; exact z.2.2.2.2.symm; omega))
set_option maxRecDepth 100000 in
set_option maxHeartbeats 1000000 in
theorem e_X9_timesOf {G : GX} {y : LY} {h : HM} {d : Nat} (hY : Lay y) {f : Int} {X : Fg} (hf : 0 ≤ f ∧ f ≤ 5) (hF : RFg h f X) (hB : FgB X) : EvI G mX9_timesOf (d + 1) [.ref 150, .int (iZ f)] y h (tms X.la X.ga) := by
  have hk := kR hB.1
  have hbw := rn_bd hB.1
  have hBB := hB
  have htc := tms_c (X := X)
  refine Ev.of rfl [some (.ref 150), some (.int (iZ f))] rfl (Nat.le_of_ble_eq_true rfl) ?_
  refine g_aload_n dX9_timesOf_0 rfl rfl (g_iload_n dX9_timesOf_1 rfl rfl (g_iconst dX9_timesOf_2 (cv_X9_143 (M := mX9_timesOf) rfl dX9_timesOf_3 (yo150 hY) (RO.same _ _ _) (Nat.le_of_ble_eq_true rfl) (e_of0 hY hf hF) <| kI (g_iconst dX9_timesOf_6 (g_iremP dX9_timesOf_7 (by omega) (by omega) (g_iconst dX9_timesOf_8 ?_))))))
  refine g_icmp_ne 21 dX9_timesOf_9 rfl (by omega) (by omega) (fun c9 => ?_) (fun c9 => ?_)
  · skip
    refine g_iconst dX9_timesOf_21 (g_aload_n dX9_timesOf_22 rfl rfl (g_iload_n dX9_timesOf_23 rfl rfl (g_iconst dX9_timesOf_24 (cv_X9_143 (M := mX9_timesOf) rfl dX9_timesOf_25 (yo150 hY) (RO.same _ _ _) (Nat.le_of_ble_eq_true rfl) (e_of0 hY hf hF) <| kI (g_iconst dX9_timesOf_28 ?_)))))
    refine g_icmp_le 36 dX9_timesOf_29 rfl (by omega) (by omega) (fun c29 => ?_) (fun c29 => ?_)
    · skip
      refine g_iconst dX9_timesOf_36 (g_imul dX9_timesOf_37 ?_)
      exact g_iret dX9_timesOf_38 rfl rfl ⟨Nat.le_refl _, Nat.le_refl _⟩ (by refine ⟨someI ?_, rfl⟩; rw [htc]; first | (rw [if_pos (by omega)]; omega) | (rw [if_neg (by omega)]; omega))
    · skip
      refine g_iconst dX9_timesOf_32 (g_goto 37 dX9_timesOf_33 rfl (g_imul dX9_timesOf_37 ?_))
      exact g_iret dX9_timesOf_38 rfl rfl ⟨Nat.le_refl _, Nat.le_refl _⟩ (by refine ⟨someI ?_, rfl⟩; rw [htc]; first | (rw [if_pos (by omega)]; omega) | (rw [if_neg (by omega)]; omega))
  · skip
    refine g_aload_n dX9_timesOf_12 rfl rfl (g_iload_n dX9_timesOf_13 rfl rfl (g_iconst dX9_timesOf_14 (cv_X9_143 (M := mX9_timesOf) rfl dX9_timesOf_15 (yo150 hY) (RO.same _ _ _) (Nat.le_of_ble_eq_true rfl) (e_of4 hY hf hF) <| kI (g_goto 22 dX9_timesOf_18 rfl (g_aload_n dX9_timesOf_22 rfl rfl (g_iload_n dX9_timesOf_23 rfl rfl (g_iconst dX9_timesOf_24 (cv_X9_143 (M := mX9_timesOf) rfl dX9_timesOf_25 (yo150 hY) (RO.same _ _ _) (Nat.le_of_ble_eq_true rfl) (e_of0 hY hf hF) <| kI (g_iconst dX9_timesOf_28 ?_)))))))))
    refine g_icmp_le 36 dX9_timesOf_29 rfl (by omega) (by omega) (fun c29 => ?_) (fun c29 => ?_)
    · skip
      refine g_iconst dX9_timesOf_36 (g_imul dX9_timesOf_37 ?_)
      exact g_iret dX9_timesOf_38 rfl rfl ⟨Nat.le_refl _, Nat.le_refl _⟩ (by refine ⟨someI ?_, rfl⟩; rw [htc]; first | (rw [if_pos (by omega)]; omega) | (rw [if_neg (by omega)]; omega))
    · skip
      refine g_iconst dX9_timesOf_32 (g_goto 37 dX9_timesOf_33 rfl (g_imul dX9_timesOf_37 ?_))
      exact g_iret dX9_timesOf_38 rfl rfl ⟨Nat.le_refl _, Nat.le_refl _⟩ (by refine ⟨someI ?_, rfl⟩; rw [htc]; first | (rw [if_pos (by omega)]; omega) | (rw [if_neg (by omega)]; omega))
set_option maxRecDepth 100000 in
set_option maxHeartbeats 1000000 in
theorem e_X9_restOf {G : GX} {y : LY} {h : HM} {d : Nat} (hY : Lay y) {f : Int} {X : Fg} (hf : 0 ≤ f ∧ f ≤ 5) (hF : RFg h f X) (hB : FgB X) {i : Int} (hi : 0 ≤ i ∧ i < tms X.la X.ga) : EvI G mX9_restOf (d + 2) [.ref 150, .int (iZ f), .int (iZ i)] y h (rsR X i) := by
  have hk := kR hB.1
  have hbw := rn_bd hB.1
  have hBB := hB
  have htb := tms_bd (la := X.la) (ga := X.ga) (by omega)
  have htc : (0 < X.ga ∧ tms X.la X.ga = max X.la 1 * 2) ∨ (X.ga = 0 ∧ tms X.la X.ga = max X.la 1 * 1) := by (have q := tms_c (X := X); by_cases g : 0 < X.ga; (rw [if_pos g] at q; exact Or.inl ⟨g, q⟩); (rw [if_neg g] at q; exact Or.inr ⟨by omega, q⟩))
  have hem := em_bd i (d := max X.la 1) (by omega)
  have hm1 := mul_le (a := i % max X.la 1) (b := X.te) (c := 3) (d := 60) (by omega) (by omega) (by omega) (by omega)
  have e1 : laR X = max X.la 1 → i % laR X = i % max X.la 1 := fun z => by rw [z]
  have e2 : max X.la 1 = 1 → i % 1 = i % max X.la 1 := fun z => by rw [z]
  refine Ev.of rfl [some (.ref 150), some (.int (iZ f)), some (.int (iZ i)), none, none] rfl (Nat.le_of_ble_eq_true rfl) ?_
  refine g_aload_n dX9_restOf_0 rfl rfl (g_iload_n dX9_restOf_1 rfl rfl (g_iconst dX9_restOf_2 (cv_X9_143 (M := mX9_restOf) rfl dX9_restOf_3 (yo150 hY) (RO.same _ _ _) (Nat.le_of_ble_eq_true rfl) (e_of0 hY hf hF) <| kI (g_iconst dX9_restOf_6 (g_iremP dX9_restOf_7 (by omega) (by omega) (g_iconst dX9_restOf_8 ?_))))))
  refine g_icmp_ne 21 dX9_restOf_9 rfl (by omega) (by omega) (fun c9 => ?_) (fun c9 => ?_)
  · skip
    refine g_iconst dX9_restOf_21 (g_ist3 dX9_restOf_22 (by decide) rfl (g_aload_n dX9_restOf_23 rfl rfl (g_iload_n dX9_restOf_24 rfl rfl (g_iconst dX9_restOf_25 (cv_X9_143 (M := mX9_restOf) rfl dX9_restOf_26 (yo150 hY) (RO.same _ _ _) (Nat.le_of_ble_eq_true rfl) (e_of2 hY hf hF) <| kI (g_iload_n dX9_restOf_29 rfl rfl (g_iload_n dX9_restOf_30 rfl rfl (g_iremP dX9_restOf_31 (by omega) (by omega) (g_aload_n dX9_restOf_32 rfl rfl (g_iload_n dX9_restOf_33 rfl rfl (g_iconst dX9_restOf_34 ?_)))))))))))
    refine cv_X9_143 (M := mX9_restOf) rfl dX9_restOf_35 (yo150 hY) (RO.same _ _ _) (Nat.le_of_ble_eq_true rfl) (e_of1 hY hf hF) <| kI (g_imul dX9_restOf_38 (g_iadd dX9_restOf_39 ?_))
    first | rw [e1 (by omega)] | rw [e2 (by omega)]
    refine g_iload_n dX9_restOf_40 rfl rfl (g_iload_n dX9_restOf_41 rfl rfl ?_)
    refine g_icmp_ge 49 dX9_restOf_42 rfl (by omega) (by omega) (fun c42 => ?_) (fun c42 => ?_)
    · skip
      refine g_aload_n dX9_restOf_49 rfl rfl (g_iload_n dX9_restOf_50 rfl rfl (g_iconst dX9_restOf_51 (cv_X9_143 (M := mX9_restOf) rfl dX9_restOf_52 (yo150 hY) (RO.same _ _ _) (Nat.le_of_ble_eq_true rfl) (e_of5 hY hf hF) <| kI (g_iadd dX9_restOf_55 (g_ist4 dX9_restOf_56 (by decide) rfl (g_iload dX9_restOf_58 rfl (g_aload_n dX9_restOf_60 rfl rfl (g_iload_n dX9_restOf_61 rfl rfl (cv_X9_152 (M := mX9_restOf) rfl dX9_restOf_62 (yo150 hY) (RO.same _ _ _) (Nat.le_of_ble_eq_true rfl) (e_X9_roundOf hY hf hF hB) <| kI (g_iremP dX9_restOf_65 (by omega) (by omega) ?_))))))))))
      exact g_iret dX9_restOf_66 rfl rfl ⟨Nat.le_refl _, Nat.le_refl _⟩ (by refine ⟨someI ?_, rfl⟩; unfold rsR; first | (rw [if_pos (by omega), Int.add_zero]; done) | (rw [if_neg (by omega)]; rcases hk.2.2 with z | z; (rw [z.2.2]); (exfalso; omega)))
    · skip
      refine g_iconst dX9_restOf_45 (g_goto 55 dX9_restOf_46 rfl (g_iadd dX9_restOf_55 (g_ist4 dX9_restOf_56 (by decide) rfl (g_iload dX9_restOf_58 rfl (g_aload_n dX9_restOf_60 rfl rfl (g_iload_n dX9_restOf_61 rfl rfl (cv_X9_152 (M := mX9_restOf) rfl dX9_restOf_62 (yo150 hY) (RO.same _ _ _) (Nat.le_of_ble_eq_true rfl) (e_X9_roundOf hY hf hF hB) <| kI (g_iremP dX9_restOf_65 (by omega) (by omega) ?_))))))))
      exact g_iret dX9_restOf_66 rfl rfl ⟨Nat.le_refl _, Nat.le_refl _⟩ (by refine ⟨someI ?_, rfl⟩; unfold rsR; first | (rw [if_pos (by omega), Int.add_zero]; done) | (rw [if_neg (by omega)]; rcases hk.2.2 with z | z; (rw [z.2.2]); (exfalso; omega)))
  · skip
    refine g_aload_n dX9_restOf_12 rfl rfl (g_iload_n dX9_restOf_13 rfl rfl (g_iconst dX9_restOf_14 (cv_X9_143 (M := mX9_restOf) rfl dX9_restOf_15 (yo150 hY) (RO.same _ _ _) (Nat.le_of_ble_eq_true rfl) (e_of4 hY hf hF) <| kI (g_goto 22 dX9_restOf_18 rfl (g_ist3 dX9_restOf_22 (by decide) rfl (g_aload_n dX9_restOf_23 rfl rfl (g_iload_n dX9_restOf_24 rfl rfl (g_iconst dX9_restOf_25 (cv_X9_143 (M := mX9_restOf) rfl dX9_restOf_26 (yo150 hY) (RO.same _ _ _) (Nat.le_of_ble_eq_true rfl) (e_of2 hY hf hF) <| kI (g_iload_n dX9_restOf_29 rfl rfl (g_iload_n dX9_restOf_30 rfl rfl ?_)))))))))))
    refine g_iremP dX9_restOf_31 (by omega) (by omega) (g_aload_n dX9_restOf_32 rfl rfl (g_iload_n dX9_restOf_33 rfl rfl (g_iconst dX9_restOf_34 (cv_X9_143 (M := mX9_restOf) rfl dX9_restOf_35 (yo150 hY) (RO.same _ _ _) (Nat.le_of_ble_eq_true rfl) (e_of1 hY hf hF) <| kI (g_imul dX9_restOf_38 (g_iadd dX9_restOf_39 ?_))))))
    first | rw [e1 (by omega)] | rw [e2 (by omega)]
    refine g_iload_n dX9_restOf_40 rfl rfl (g_iload_n dX9_restOf_41 rfl rfl ?_)
    refine g_icmp_ge 49 dX9_restOf_42 rfl (by omega) (by omega) (fun c42 => ?_) (fun c42 => ?_)
    · skip
      refine g_aload_n dX9_restOf_49 rfl rfl (g_iload_n dX9_restOf_50 rfl rfl (g_iconst dX9_restOf_51 (cv_X9_143 (M := mX9_restOf) rfl dX9_restOf_52 (yo150 hY) (RO.same _ _ _) (Nat.le_of_ble_eq_true rfl) (e_of5 hY hf hF) <| kI (g_iadd dX9_restOf_55 (g_ist4 dX9_restOf_56 (by decide) rfl (g_iload dX9_restOf_58 rfl (g_aload_n dX9_restOf_60 rfl rfl (g_iload_n dX9_restOf_61 rfl rfl (cv_X9_152 (M := mX9_restOf) rfl dX9_restOf_62 (yo150 hY) (RO.same _ _ _) (Nat.le_of_ble_eq_true rfl) (e_X9_roundOf hY hf hF hB) <| kI (g_iremP dX9_restOf_65 (by omega) (by omega) ?_))))))))))
      exact g_iret dX9_restOf_66 rfl rfl ⟨Nat.le_refl _, Nat.le_refl _⟩ (by refine ⟨someI ?_, rfl⟩; unfold rsR; first | (rw [if_pos (by omega), Int.add_zero]; done) | (rw [if_neg (by omega)]; rcases hk.2.2 with z | z; (rw [z.2.2]); (exfalso; omega)))
    · skip
      refine g_iconst dX9_restOf_45 (g_goto 55 dX9_restOf_46 rfl (g_iadd dX9_restOf_55 (g_ist4 dX9_restOf_56 (by decide) rfl (g_iload dX9_restOf_58 rfl (g_aload_n dX9_restOf_60 rfl rfl (g_iload_n dX9_restOf_61 rfl rfl (cv_X9_152 (M := mX9_restOf) rfl dX9_restOf_62 (yo150 hY) (RO.same _ _ _) (Nat.le_of_ble_eq_true rfl) (e_X9_roundOf hY hf hF hB) <| kI (g_iremP dX9_restOf_65 (by omega) (by omega) ?_))))))))
      exact g_iret dX9_restOf_66 rfl rfl ⟨Nat.le_refl _, Nat.le_refl _⟩ (by refine ⟨someI ?_, rfl⟩; unfold rsR; first | (rw [if_pos (by omega), Int.add_zero]; done) | (rw [if_neg (by omega)]; rcases hk.2.2 with z | z; (rw [z.2.2]); (exfalso; omega)))
