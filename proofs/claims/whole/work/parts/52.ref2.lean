def RF (h : HM) (F : Nat → Fg) : Prop := (0 ≤ h.I 151 0 ∧ h.I 151 0 ≤ 6) ∧ ∀ i : Int, 0 ≤ i → i < h.I 151 0 → RFg h i (F i.toNat) ∧ FgB (F i.toNat)
def ExI (P : Int → Prop) (i : Int) : Prop := ∃ j : Int, (0 ≤ j ∧ j < i) ∧ P j
theorem ExI_1 {P : Int → Prop} {i : Int} (hi : 0 ≤ i) (h : pI (ExI P i) ≠ 0 ∨ P i) : pI (ExI P (i + 1)) = 1 := by
  rcases h with h | h
  · obtain ⟨j, hj, p⟩ := (pI_eq1.mp ((pI_01 (ExI P i)).resolve_left h))
    exact pI_t ⟨j, by omega, p⟩
  · exact pI_t ⟨i, by omega, h⟩
theorem ExI_0 {P : Int → Prop} {i : Int} (h0 : pI (ExI P i) = 0) (h : ¬ P i) : pI (ExI P (i + 1)) = 0 := by
  refine pI_f ?_
  rintro ⟨j, hj, p⟩
  rcases (by omega : j < i ∨ j = i) with q | rfl
  · exact pI_eq0.mp h0 ⟨j, by omega, p⟩
  · exact h p
theorem ExI_z {P : Int → Prop} : pI (ExI P 0) = 0 := pI_f (by rintro ⟨j, hj, _⟩; omega)
/-- the first day from t on that leaves a rest -/
def FbP (t r b v : Int) : Prop := t ≤ v ∧ v < t + b ∧ (v - r) % b = 0
theorem fb_ok {t r b : Int} : (t + b - (t - r) % b - r) % b = 0 := by
  have h := Int.mul_ediv_add_emod (t - r) b
  have e : t + b - (t - r) % b - r = b * ((t - r) / b + 1) := by
    rw [Int.mul_add, Int.mul_one]; omega
  rw [e, Int.mul_emod_right]
theorem dv_gap {d v r b : Int} (hb : 0 < b) (h1 : (d - r) % b = 0) (h2 : (v - r) % b = 0) (h3 : d < v) : d + b ≤ v := by
  have h4 : (v - d) % b = 0 := by
    have : v - d = (v - r) - (d - r) := by omega
    rw [this, Int.sub_emod, h1, h2]; simp
  obtain ⟨q, hq⟩ := Int.dvd_of_emod_eq_zero h4
  have q1 : 1 ≤ q := by
    rcases Int.lt_or_le q 1 with z | z
    · have : b * q ≤ b * 0 := Int.mul_le_mul_of_nonneg_left (by omega) (by omega)
      omega
    · exact z
  have : b * 1 ≤ b * q := Int.mul_le_mul_of_nonneg_left q1 (by omega)
  omega
theorem FbP.no {t r b v d : Int} (hb : 0 < b) (h : FbP t r b v) (h1 : t ≤ d) (h2 : d < v) : ¬ (d - r) % b = 0 := fun z => by
  have := dv_gap hb z h.2.2 h2
  have := h.2.1
  omega
def NxI (R : Int → Int) (b t i l : Int) : Prop := (i = 0 ∧ l = -1) ∨ (0 < i ∧ (t ≤ l ∧ l < t + b) ∧ (∃ j : Int, (0 ≤ j ∧ j < i) ∧ (l - R j) % b = 0) ∧ ∀ d : Int, t ≤ d → d < l → ∀ j : Int, 0 ≤ j → j < i → ¬ (d - R j) % b = 0)
theorem nx_t {R : Int → Int} {b t i l v : Int} (hb : 0 < b) (hi : 0 ≤ i) (ht : 0 ≤ t) (h : NxI R b t i l) (hv : FbP t (R i) b v) (hc : l < 0 ∨ v < l) : NxI R b t (i + 1) v := by
  refine Or.inr ⟨by omega, ⟨hv.1, hv.2.1⟩, ⟨i, by omega, hv.2.2⟩, fun d d0 d1 j j0 j1 => ?_⟩
  rcases (by omega : j < i ∨ j = i) with q | rfl
  · rcases h with ⟨z, _⟩ | ⟨_, z1, _, z3⟩
    · omega
    · exact z3 d d0 (by omega) j j0 q
  · exact hv.no hb d0 d1
theorem nx_f {R : Int → Int} {b t i l v : Int} (hb : 0 < b) (hi : 0 ≤ i) (h : NxI R b t i l) (hv : FbP t (R i) b v) (hc : ¬ (l < 0 ∨ v < l)) : NxI R b t (i + 1) l := by
  rcases h with ⟨z1, z2⟩ | ⟨z0, z1, ⟨k, k1, k2⟩, z3⟩
  · omega
  · refine Or.inr ⟨by omega, z1, ⟨k, by omega, k2⟩, fun d d0 d1 j j0 j1 => ?_⟩
    rcases (by omega : j < i ∨ j = i) with q | rfl
    · exact z3 d d0 d1 j j0 q
    · exact hv.no hb d0 (by omega)
def ExR (R : Int → Int) (b n d : Int) : Prop := ∃ j : Int, (0 ≤ j ∧ j < n) ∧ (d - R j) % b = 0
theorem nx_e {R : Int → Int} {b t n l : Int} (ht : 0 ≤ t) (h : NxI R b t n l) : EarlP (ExR R b n) t (if 1000000000000 < l ∨ l < 0 then -4 else l) := by
  rcases h with ⟨z1, z2⟩ | ⟨z0, z1, z2, z3⟩
  · rw [if_pos (by omega)]
    exact Or.inl ⟨rfl, fun d _ _ ⟨j, j1, _⟩ => by omega⟩
  · by_cases c : 1000000000000 < l ∨ l < 0
    · rw [if_pos c]
      exact Or.inl ⟨rfl, fun d d0 d1 ⟨j, j1, j2⟩ => z3 d d0 (by omega) j j1.1 j1.2 j2⟩
    · rw [if_neg c]
      exact Or.inr ⟨by omega, z2, fun d d0 d1 ⟨j, j1, j2⟩ => z3 d d0 d1 j j1.1 j1.2 j2⟩
def LsI (R : Int → Int) (b t i l : Int) : Prop := (-4 ≤ l ∧ l ≤ t) ∧ (l = -4 ∨ ∃ j : Int, (0 ≤ j ∧ j < i) ∧ (l - R j) % b = 0) ∧ ∀ d : Int, l < d → d ≤ t → ∀ j : Int, 0 ≤ j → j < i → ¬ (d - R j) % b = 0
theorem ls_no {t r b v d : Int} (hb : 0 < b) (h : FbP (t + 1) r b v) (h1 : v - b < d) (h2 : d ≤ t) : ¬ (d - r) % b = 0 := fun z => by
  have h3 := h.1
  have := dv_gap hb z h.2.2 (by omega)
  omega
theorem ls_m {t r b v : Int} (h : FbP (t + 1) r b v) : (v - b - r) % b = 0 := by
  have : v - b - r = (v - r) - b := by omega
  rw [this, Int.sub_emod_right]; exact h.2.2
theorem ls_t {R : Int → Int} {b t i l v : Int} (hb : 0 < b) (hi : 0 ≤ i) (h : LsI R b t i l) (hv : FbP (t + 1) (R i) b v) (hc : l < v - b) : LsI R b t (i + 1) (v - b) := by
  have h3 := hv.2.1
  refine ⟨by have := h.1; omega, Or.inr ⟨i, by omega, ls_m hv⟩, fun d d0 d1 j j0 j1 => ?_⟩
  rcases (by omega : j < i ∨ j = i) with q | rfl
  · exact h.2.2 d (by omega) d1 j j0 q
  · exact ls_no hb hv d0 d1
theorem ls_f {R : Int → Int} {b t i l v : Int} (hb : 0 < b) (hi : 0 ≤ i) (h : LsI R b t i l) (hv : FbP (t + 1) (R i) b v) (hc : ¬ l < v - b) : LsI R b t (i + 1) l := by
  refine ⟨h.1, h.2.1.imp id (fun ⟨k, k1, k2⟩ => ⟨k, by omega, k2⟩), fun d d0 d1 j j0 j1 => ?_⟩
  rcases (by omega : j < i ∨ j = i) with q | rfl
  · exact h.2.2 d d0 d1 j j0 q
  · exact ls_no hb hv (by omega) d1
theorem ls_e {R : Int → Int} {b t n l : Int} (h : LsI R b t n l) : LastP (ExR R b n) t (if 1000000000000 < l ∨ l < 0 then -4 else l) ∨ 1000000000000 < t := by
  by_cases ct : 1000000000000 < t
  · exact Or.inr ct
  · refine Or.inl ?_
    by_cases c : 1000000000000 < l ∨ l < 0
    · rw [if_pos c]
      exact Or.inl ⟨rfl, fun d d0 d1 ⟨j, j1, j2⟩ => h.2.2 d (by have := h.1; omega) d1 j j1.1 j1.2 j2⟩
    · rw [if_neg c]
      refine Or.inr ⟨by have := h.1; omega, ?_, fun d d0 d1 ⟨j, j1, j2⟩ => h.2.2 d d0 d1 j j1.1 j1.2 j2⟩
      rcases h.2.1 with z | z
      · omega
      · exact z
/-- counting -/
theorem cnt_up {r b : Int} (hr : 0 ≤ r ∧ r < b) (t : Int) (ht : -1 ≤ t) : cntN (fun d => (d - r) % b = 0) 0 (t + 1).toNat = if t < r then 0 else (t - r) / b + 1 := by
  have hz : ∀ i : Nat, (i : Int) < r → ¬ (0 + (i : Int) - r) % b = 0 := fun i hi z => by
    have := (mod_rest (t := (i : Int)) hr).mp (by rw [Int.zero_add] at z; exact z)
    rw [Int.emod_eq_of_lt (by omega) (by omega)] at this
    omega
  by_cases c : t < r
  · rw [if_pos c]
    exact cntN_no (fun i hi => hz i (by omega))
  · rw [if_neg c]
    have e : (t + 1).toNat = r.toNat + ((t - r).toNat + 1) := by omega
    rw [e, cntN_off (k := r.toNat) (fun i hi => hz i (by omega))]
    have q := cntN_ap r (s := b) (by omega) (t - r).toNat
    rw [show (0 : Int) + (r.toNat : Int) = r by omega]
    rw [show ((((t - r).toNat : Nat)) : Int) = t - r by omega] at q
    rw [← q]
    exact cntN_congr (fun i hi => ⟨fun z => ⟨by omega, z⟩, fun z => z.2⟩)
theorem cnt_mb {r b : Int} (hr : 0 ≤ r ∧ r < b) {lo hi : Int} (h : 0 ≤ lo ∧ lo ≤ hi) : cntN (fun d => (d - r) % b = 0) lo (hi - lo + 1).toNat = (if hi < r then 0 else (hi - r) / b + 1) - (if lo - 1 < r then 0 else (lo - 1 - r) / b + 1) := by
  rw [← cnt_up hr hi (by omega), ← cnt_up hr (lo - 1) (by omega), show (hi + 1).toNat = (lo - 1 + 1).toNat + (hi - lo + 1).toNat by omega, cntN_split, show (0 : Int) + (((lo - 1 + 1).toNat : Nat) : Int) = lo by omega]
  omega
theorem cnt_st {R : Int → Int} {b lo i : Int} {n : Nat} (hi : 0 ≤ i) (hd : ∀ d j : Int, 0 ≤ j → j < i → (d - R j) % b = 0 → ¬ (d - R i) % b = 0) : cntN (ExR R b (i + 1)) lo n = cntN (ExR R b i) lo n + cntN (fun d => (d - R i) % b = 0) lo n := by
  rw [← cntN_or (P := ExR R b i) (Q := fun d => (d - R i) % b = 0) (fun k _ ⟨⟨j, j1, j2⟩, z⟩ => hd _ j j1.1 j1.2 j2 z)]
  refine cntN_congr (fun k _ => ⟨fun ⟨j, j1, j2⟩ => ?_, fun z => ?_⟩)
  · rcases (by omega : j < i ∨ j = i) with q | rfl
    · exact Or.inl ⟨j, by omega, j2⟩
    · exact Or.inr j2
  · rcases z with ⟨j, j1, j2⟩ | z
    · exact ⟨j, by omega, j2⟩
    · exact ⟨i, by omega, z⟩
theorem cnt_0 {R : Int → Int} {b lo : Int} {n : Nat} : cntN (ExR R b 0) lo n = 0 := cntN_no (fun i _ ⟨j, j1, _⟩ => by omega)
theorem out_ExR {X : Fg} (hW : FgW X) (t : Int) : OutF X t ↔ ExR (rsR X) (rn X) (tms X.la X.ga) t := out_rsR hW t
set_option maxRecDepth 100000 in
set_option maxHeartbeats 1000000 in
theorem e_X9_isDay {G : GX} {y : LY} {h : HM} {d : Nat} {t : Int} (ht : R64 t) : EvI G mX9_isDay (d + 1) [.long (lZ t)] y h (pI (0 ≤ t ∧ t ≤ 1000000000000)) := by
  refine Ev.of rfl [some (.long (lZ t)), none] rfl (Nat.le_of_ble_eq_true rfl) ?_
  refine g_lload_n dX9_isDay_0 rfl rfl (g_lconst (v := 0) dX9_isDay_1 rfl (c2_X9_163 (M := mX9_isDay) rfl dX9_isDay_2 (cv_X9_71 (M := mX9_isDay) rfl dX9_isDay_5 (RO.same _ _ _) (Nat.le_of_ble_eq_true rfl) (e_X9_in (by omega) (by omega) (by omega)) <| kI ?_)))
  exact g_zret dX9_isDay_8 rfl rfl ⟨Nat.le_refl _, Nat.le_refl _⟩ (pI_01 _) (by exact ⟨rfl, rfl⟩)
set_option maxRecDepth 100000 in
set_option maxHeartbeats 1000000 in
theorem e_X9_isOut {G : GX} {y : LY} {h : HM} {d : Nat} (hY : Lay y) {f : Int} {X : Fg} (hf : 0 ≤ f ∧ f ≤ 5) (hF : RFg h f X) (hB : FgB X) {t : Int} (ht : 0 ≤ t ∧ t ≤ 2000000000000) : EvI G mX9_isOut (d + 3) [.ref 150, .int (iZ f), .long (lZ t)] y h (pI (OutF X t)) := by
  have hk := kR hB.1
  have hbw := rn_bd hB.1
  have hBB := hB
  have htb := tms_bd (la := X.la) (ga := X.ga) (by omega)
  have hem := em_bd t (d := rn X) (by omega)
  refine Ev.of rfl [some (.ref 150), some (.int (iZ f)), some (.long (lZ t)), none, none, none, none] rfl (Nat.le_of_ble_eq_true rfl) ?_
  have L17 : ∀ (m : Nat) (i : Int), m = (tms X.la X.ga - i).toNat → 0 ≤ i ∧ i ≤ tms X.la X.ga → Go G mX9_isOut (rmo (d + 3) 0 0) (ZM G y 0 0 (fun r h1 => r = some (.int (iZ (pI (OutF X t)))) ∧ h1 = h)) y 17 [some (.ref 150), some (.int (iZ f)), some (.long (lZ t)), none, some (.int (iZ (pI (ExI (fun j => rsR X j = t % rn X) i)))), some (.int (iZ (t % rn X))), some (.int (iZ i))] [] h (0, 0) := by
    intro m
    induction m using Nat.strongRecOn with | _ m ih =>
    intro i hm hi
    have hrb := rsR_bd hB.1 i
    have hp := pI_01 (ExI (fun j => rsR X j = t % rn X) i)
    refine g_iload dX9_isOut_17 rfl (g_aload_n dX9_isOut_19 rfl rfl (g_iload_n dX9_isOut_20 rfl rfl (cv_X9_157 (M := mX9_isOut) rfl dX9_isOut_21 (yo150 hY) (RO.same _ _ _) (Nat.le_of_ble_eq_true rfl) (e_X9_timesOf hY hf hF hB) <| kI ?_)))
    refine g_icmp_ge 57 dX9_isOut_24 rfl (by omega) (by omega) (fun c24 => ?_) (fun c24 => ?_)
    · skip
      refine g_iload dX9_isOut_57 rfl ?_
      exact g_zret dX9_isOut_59 rfl rfl ⟨Nat.le_refl _, Nat.le_refl _⟩ (pI_01 _) (by obtain rfl : i = tms X.la X.ga := (by omega); refine ⟨someI (pI_congr ?_), rfl⟩; rw [out_rsR hB.1 t]; exact ⟨fun ⟨j, j1, j2⟩ => ⟨j, j1, (mod_rest (rsR_bd hB.1 j)).mpr j2.symm⟩, fun ⟨j, j1, j2⟩ => ⟨j, j1, ((mod_rest (rsR_bd hB.1 j)).mp j2).symm⟩⟩)
    · skip
      refine g_iload dX9_isOut_27 rfl ?_
      refine g_if_ne 44 dX9_isOut_29 rfl (by omega) (fun c29 => ?_) (fun c29 => ?_)
      · skip
        refine g_iconst dX9_isOut_44 (g_goto 49 dX9_isOut_45 rfl (g_ist4 dX9_isOut_49 (by decide) rfl (g_inc6 dX9_isOut_51 (by decide) rfl (g_goto 17 dX9_isOut_54 rfl ?_))))
        have hx := ih _ (by omega) (i + 1) rfl (by omega)
        first | (rw [ExI_1 (P := (fun j => rsR X j = t % rn X)) (by omega) (Or.inl (by omega))] at hx; exact hx) | (rw [ExI_1 (P := (fun j => rsR X j = t % rn X)) (by omega) (Or.inr (by omega))] at hx; exact hx) | (rw [ExI_0 (P := (fun j => rsR X j = t % rn X)) (by omega) (by omega)] at hx; exact hx)
      · skip
        refine g_aload_n dX9_isOut_32 rfl rfl (g_iload_n dX9_isOut_33 rfl rfl (g_iload dX9_isOut_34 rfl (cv_X9_160 (M := mX9_isOut) rfl dX9_isOut_36 (yo150 hY) (RO.same _ _ _) (Nat.le_of_ble_eq_true rfl) (e_X9_restOf hY hf hF hB (by omega)) <| kI (g_iload dX9_isOut_39 rfl ?_))))
        refine g_icmp_ne 48 dX9_isOut_41 rfl (by omega) (by omega) (fun c41 => ?_) (fun c41 => ?_)
        · skip
          refine g_iconst dX9_isOut_48 (g_ist4 dX9_isOut_49 (by decide) rfl (g_inc6 dX9_isOut_51 (by decide) rfl (g_goto 17 dX9_isOut_54 rfl ?_)))
          have hx := ih _ (by omega) (i + 1) rfl (by omega)
          first | (rw [ExI_1 (P := (fun j => rsR X j = t % rn X)) (by omega) (Or.inl (by omega))] at hx; exact hx) | (rw [ExI_1 (P := (fun j => rsR X j = t % rn X)) (by omega) (Or.inr (by omega))] at hx; exact hx) | (rw [ExI_0 (P := (fun j => rsR X j = t % rn X)) (by omega) (by omega)] at hx; exact hx)
        · skip
          refine g_iconst dX9_isOut_44 (g_goto 49 dX9_isOut_45 rfl (g_ist4 dX9_isOut_49 (by decide) rfl (g_inc6 dX9_isOut_51 (by decide) rfl (g_goto 17 dX9_isOut_54 rfl ?_))))
          have hx := ih _ (by omega) (i + 1) rfl (by omega)
          first | (rw [ExI_1 (P := (fun j => rsR X j = t % rn X)) (by omega) (Or.inl (by omega))] at hx; exact hx) | (rw [ExI_1 (P := (fun j => rsR X j = t % rn X)) (by omega) (Or.inr (by omega))] at hx; exact hx) | (rw [ExI_0 (P := (fun j => rsR X j = t % rn X)) (by omega) (by omega)] at hx; exact hx)
  refine g_iconst dX9_isOut_0 (g_ist4 dX9_isOut_1 (by decide) rfl (g_lload_n dX9_isOut_3 rfl rfl (g_aload_n dX9_isOut_4 rfl rfl (g_iload_n dX9_isOut_5 rfl rfl (cv_X9_152 (M := mX9_isOut) rfl dX9_isOut_6 (yo150 hY) (RO.same _ _ _) (Nat.le_of_ble_eq_true rfl) (e_X9_roundOf hY hf hF hB) <| kI (g_i2l dX9_isOut_9 (by omega) (g_lremP dX9_isOut_10 (by omega) (by omega) (g_l2i dX9_isOut_11 (g_ist5 dX9_isOut_12 (by decide) rfl (g_iconst dX9_isOut_14 (g_ist6 dX9_isOut_15 (by decide) rfl ?_)))))))))))
  have hx := L17 _ 0 rfl (by omega)
  rw [ExI_z (P := (fun j => rsR X j = t % rn X))] at hx
  exact hx
set_option maxRecDepth 100000 in
set_option maxHeartbeats 1000000 in
theorem e_X9_out {G : GX} {y : LY} {h : HM} {d : Nat} (hY : Lay y) {F : Nat → Fg} (hR : RF h F) {f t : Int} (hf : R32 f) (ht : R64 t) : EvI G mX9_out (d + 4) [.ref 150, .int (iZ f), .long (lZ t)] y h (sp_out (h.I 151 0) (F f.toNat) f t) := by
  have hnf := hR.1
  have hpf := pI_01 (0 ≤ f ∧ f < h.I 151 0)
  have hpe := pI_eq1 (P := 0 ≤ f ∧ f < h.I 151 0)
  have hpt := pI_01 (0 ≤ t ∧ t ≤ 1000000000000)
  have hpu := pI_eq1 (P := 0 ≤ t ∧ t ≤ 1000000000000)
  have hpo := pI_01 (OutF (F f.toNat) t)
  refine Ev.of rfl [some (.ref 150), some (.int (iZ f)), some (.long (lZ t)), none] rfl (Nat.le_of_ble_eq_true rfl) ?_
  refine g_aload_n dX9_out_0 rfl rfl (g_iload_n dX9_out_1 rfl rfl (cv_X9_146 (M := mX9_out) rfl dX9_out_2 (yo150 hY) (RO.same _ _ _) (Nat.le_of_ble_eq_true rfl) (e_X9_isFigure hY (by omega) (by omega)) <| kI ?_))
  refine g_if_eq 27 dX9_out_5 rfl (by omega) (fun c5 => ?_) (fun c5 => ?_)
  · skip
    refine g_iconst dX9_out_27 ?_
    exact g_iret dX9_out_28 rfl rfl ⟨Nat.le_refl _, Nat.le_refl _⟩ (by unfold sp_out; first | exact ⟨someI (by rw [if_pos (by omega)]), rfl⟩ | exact ⟨someI (by rw [if_neg (by omega)]), rfl⟩)
  · skip
    refine g_lload_n dX9_out_8 rfl rfl (cv_X9_165 (M := mX9_out) rfl dX9_out_9 (RO.same _ _ _) (Nat.le_of_ble_eq_true rfl) (e_X9_isDay (by omega)) <| kI ?_)
    refine g_if_eq 27 dX9_out_12 rfl (by omega) (fun c12 => ?_) (fun c12 => ?_)
    · skip
      refine g_iconst dX9_out_27 ?_
      exact g_iret dX9_out_28 rfl rfl ⟨Nat.le_refl _, Nat.le_refl _⟩ (by unfold sp_out; first | exact ⟨someI (by rw [if_pos (by omega)]), rfl⟩ | exact ⟨someI (by rw [if_neg (by omega)]), rfl⟩)
    · skip
      have hFf := hR.2 f (by omega) (by omega)
      have hfb : 0 ≤ f ∧ f ≤ 5 := by omega
      refine g_aload_n dX9_out_15 rfl rfl (g_iload_n dX9_out_16 rfl rfl (g_lload_n dX9_out_17 rfl rfl (cv_X9_169 (M := mX9_out) rfl dX9_out_18 (yo150 hY) (RO.same _ _ _) (Nat.le_of_ble_eq_true rfl) (e_X9_isOut hY hfb hFf.1 hFf.2 (by omega)) <| kI (cv_X9_173 (M := mX9_out) rfl dX9_out_21 (RO.same _ _ _) (Nat.le_of_ble_eq_true rfl) (e_X9_flag (by omega)) <| kI (g_goto 28 dX9_out_24 rfl ?_)))))
      exact g_iret dX9_out_28 rfl rfl ⟨Nat.le_refl _, Nat.le_refl _⟩ (by unfold sp_out; first | exact ⟨someI (by rw [if_pos (by omega)]), rfl⟩ | exact ⟨someI (by rw [if_neg (by omega)]), rfl⟩)
set_option maxRecDepth 100000 in
set_option maxHeartbeats 1000000 in
theorem e_X9_firstBy {G : GX} {y : LY} {h : HM} {d : Nat} {t r b : Int} (ht : 0 ≤ t ∧ t ≤ 2000000000000) (hr : 0 ≤ r ∧ r ≤ 40000000000000) (hb : 0 < b ∧ b ≤ 40000000000000) : EvQL G mX9_firstBy (d) [.long (lZ t), .long (lZ r), .long (lZ b)] y h (FbP t r b) := by
  have h1 := tm_em (n := t - r) (d := b) hb.1
  have h2 := tm_bd (n := t - r) (d := b) hb.1
  have h3 := em_bd (t - r) (d := b) hb.1
  have h4 := fb_ok (t := t) (r := r) (b := b)
  refine Ev.of rfl [some (.long (lZ t)), none, some (.long (lZ r)), none, some (.long (lZ b)), none, none, none] rfl (Nat.le_of_ble_eq_true rfl) ?_
  refine g_lload_n dX9_firstBy_0 rfl rfl (g_lload_n dX9_firstBy_1 rfl rfl (g_lsub dX9_firstBy_2 (g_lload dX9_firstBy_3 rfl (g_lrem dX9_firstBy_5 (by omega) (by omega) (by omega) (g_lst6 dX9_firstBy_6 (by decide) rfl (g_lload dX9_firstBy_8 rfl (g_lconst (v := 0) dX9_firstBy_10 rfl ?_)))))))
  refine g_lcmp_ge 23 dX9_firstBy_11 dX9_firstBy_12 rfl (by omega) (by omega) (fun c11 => ?_) (fun c11 => ?_)
  · skip
    refine g_lload dX9_firstBy_23 rfl (g_lst6 dX9_firstBy_25 (by decide) rfl (g_lload dX9_firstBy_27 rfl (g_lconst (v := 0) dX9_firstBy_29 rfl ?_)))
    refine g_lcmp_ne 38 dX9_firstBy_30 dX9_firstBy_31 rfl (by omega) (by omega) (fun c30 => ?_) (fun c30 => ?_)
    · skip
      refine g_lload_n dX9_firstBy_38 rfl rfl (g_lload dX9_firstBy_39 rfl (g_ladd dX9_firstBy_41 (g_lload dX9_firstBy_42 rfl (g_lsub dX9_firstBy_44 ?_))))
      exact g_lret dX9_firstBy_45 rfl rfl ⟨Nat.le_refl _, Nat.le_refl _⟩ (by refine ⟨_, rfl, rfl, by omega, by omega, ?_⟩; first | (have e : (t - r) % b = 0 := (by omega); exact e) | (have e : (t - r) % b = (t - r).tmod b + b := h1.1 (by omega); rw [← e]; exact h4) | (have e : (t - r) % b = (t - r).tmod b := h1.2 (by omega); rw [← e]; exact h4))
    · skip
      refine g_lload_n dX9_firstBy_34 rfl rfl (g_goto 45 dX9_firstBy_35 rfl ?_)
      exact g_lret dX9_firstBy_45 rfl rfl ⟨Nat.le_refl _, Nat.le_refl _⟩ (by refine ⟨_, rfl, rfl, by omega, by omega, ?_⟩; first | (have e : (t - r) % b = 0 := (by omega); exact e) | (have e : (t - r) % b = (t - r).tmod b + b := h1.1 (by omega); rw [← e]; exact h4) | (have e : (t - r) % b = (t - r).tmod b := h1.2 (by omega); rw [← e]; exact h4))
  · skip
    refine g_lload dX9_firstBy_15 rfl (g_lload dX9_firstBy_17 rfl (g_ladd dX9_firstBy_19 (g_goto 25 dX9_firstBy_20 rfl (g_lst6 dX9_firstBy_25 (by decide) rfl (g_lload dX9_firstBy_27 rfl (g_lconst (v := 0) dX9_firstBy_29 rfl ?_))))))
    refine g_lcmp_ne 38 dX9_firstBy_30 dX9_firstBy_31 rfl (by omega) (by omega) (fun c30 => ?_) (fun c30 => ?_)
    · skip
      refine g_lload_n dX9_firstBy_38 rfl rfl (g_lload dX9_firstBy_39 rfl (g_ladd dX9_firstBy_41 (g_lload dX9_firstBy_42 rfl (g_lsub dX9_firstBy_44 ?_))))
      exact g_lret dX9_firstBy_45 rfl rfl ⟨Nat.le_refl _, Nat.le_refl _⟩ (by refine ⟨_, rfl, rfl, by omega, by omega, ?_⟩; first | (have e : (t - r) % b = 0 := (by omega); exact e) | (have e : (t - r) % b = (t - r).tmod b + b := h1.1 (by omega); rw [← e]; exact h4) | (have e : (t - r) % b = (t - r).tmod b := h1.2 (by omega); rw [← e]; exact h4))
    · skip
      refine g_lload_n dX9_firstBy_34 rfl rfl (g_goto 45 dX9_firstBy_35 rfl ?_)
      exact g_lret dX9_firstBy_45 rfl rfl ⟨Nat.le_refl _, Nat.le_refl _⟩ (by refine ⟨_, rfl, rfl, by omega, by omega, ?_⟩; first | (have e : (t - r) % b = 0 := (by omega); exact e) | (have e : (t - r) % b = (t - r).tmod b + b := h1.1 (by omega); rw [← e]; exact h4) | (have e : (t - r) % b = (t - r).tmod b := h1.2 (by omega); rw [← e]; exact h4))
set_option maxRecDepth 100000 in
set_option maxHeartbeats 1000000 in
theorem e_X9_nextOf {G : GX} {y : LY} {h : HM} {d : Nat} (hY : Lay y) {f : Int} {X : Fg} (hf : 0 ≤ f ∧ f ≤ 5) (hF : RFg h f X) (hB : FgB X) {t : Int} (ht : 0 ≤ t ∧ t ≤ 1000000000001) : EvQL G mX9_nextOf (d + 3) [.ref 150, .int (iZ f), .long (lZ t)] y h (NxI (rsR X) (rn X) t (tms X.la X.ga)) := by
  have hk := kR hB.1
  have hbw := rn_bd hB.1
  have hBB := hB
  have htb := tms_bd (la := X.la) (ga := X.ga) (by omega)
  refine Ev.of rfl [some (.ref 150), some (.int (iZ f)), some (.long (lZ t)), none, none, none, none, none, none] rfl (Nat.le_of_ble_eq_true rfl) ?_
  have L8 : ∀ (m : Nat) (i l : Int), m = (tms X.la X.ga - i).toNat → 0 ≤ i ∧ i ≤ tms X.la X.ga → NxI (rsR X) (rn X) t i l → Go G mX9_nextOf (rmo (d + 3) 0 0) (ZM G y 0 0 (fun r h1 => ∃ v_ : Int, r = some (.long (lZ v_)) ∧ h1 = h ∧ (NxI (rsR X) (rn X) t (tms X.la X.ga)) v_)) y 8 [some (.ref 150), some (.int (iZ f)), some (.long (lZ t)), none, some (.long (lZ l)), none, some (.int (iZ i)), none, none] [] h (0, 0) := by
    intro m
    induction m using Nat.strongRecOn with | _ m ih =>
    intro i l hm hi hN
    have hrb := rsR_bd hB.1 i
    have hlb : -1 ≤ l ∧ l < t + rn X := by rcases hN with z | z <;> omega
    refine g_iload dX9_nextOf_8 rfl (g_aload_n dX9_nextOf_10 rfl rfl (g_iload_n dX9_nextOf_11 rfl rfl (cv_X9_157 (M := mX9_nextOf) rfl dX9_nextOf_12 (yo150 hY) (RO.same _ _ _) (Nat.le_of_ble_eq_true rfl) (e_X9_timesOf hY hf hF hB) <| kI ?_)))
    refine g_icmp_ge 68 dX9_nextOf_15 rfl (by omega) (by omega) (fun c15 => ?_) (fun c15 => ?_)
    · skip
      refine g_lload dX9_nextOf_68 rfl ?_
      exact g_lret dX9_nextOf_70 rfl rfl ⟨Nat.le_refl _, Nat.le_refl _⟩ (by obtain rfl : i = tms X.la X.ga := (by omega); exact ⟨_, rfl, rfl, hN⟩)
    · skip
      refine g_lload_n dX9_nextOf_18 rfl rfl (g_aload_n dX9_nextOf_19 rfl rfl (g_iload_n dX9_nextOf_20 rfl rfl (g_iload dX9_nextOf_21 rfl (cv_X9_160 (M := mX9_nextOf) rfl dX9_nextOf_23 (yo150 hY) (RO.same _ _ _) (Nat.le_of_ble_eq_true rfl) (e_X9_restOf hY hf hF hB (by omega)) <| kI (g_i2l dX9_nextOf_26 (by omega) (g_aload_n dX9_nextOf_27 rfl rfl (g_iload_n dX9_nextOf_28 rfl rfl (cv_X9_152 (M := mX9_nextOf) rfl dX9_nextOf_29 (yo150 hY) (RO.same _ _ _) (Nat.le_of_ble_eq_true rfl) (e_X9_roundOf hY hf hF hB) <| kI (g_i2l dX9_nextOf_32 (by omega) ?_)))))))))
      refine cv_X9_179 (M := mX9_nextOf) rfl dX9_nextOf_33 (RO.same _ _ _) (Nat.le_of_ble_eq_true rfl) (e_X9_firstBy (t := t) (r := rsR X i) (b := rn X) (by omega) (by omega) (by omega)) (kQL fun v33 hq33 => ?_)
      have hv33 := hq33.1
      have hw33 := hq33.2.1
      refine g_lst7 dX9_nextOf_36 (by decide) rfl (g_lload dX9_nextOf_38 rfl (g_lconst (v := 0) dX9_nextOf_40 rfl ?_))
      refine g_lcmp_lt 53 dX9_nextOf_41 dX9_nextOf_42 rfl (by omega) (by omega) (fun c41 => ?_) (fun c41 => ?_)
      · skip
        refine g_lload dX9_nextOf_53 rfl (g_goto 60 dX9_nextOf_55 rfl (g_lst4 dX9_nextOf_60 (by decide) rfl (g_inc6 dX9_nextOf_62 (by decide) rfl (g_goto 8 dX9_nextOf_65 rfl (g_dr7 ?_)))))
        first | exact ih _ (by omega) (i + 1) _ rfl (by omega) (nx_t (by omega) (by omega) (by omega) hN hq33 (by omega)) | exact ih _ (by omega) (i + 1) _ rfl (by omega) (nx_f (by omega) (by omega) hN hq33 (by omega))
      · skip
        refine g_lload dX9_nextOf_45 rfl (g_lload dX9_nextOf_47 rfl ?_)
        refine g_lcmp_ge 58 dX9_nextOf_49 dX9_nextOf_50 rfl (by omega) (by omega) (fun c49 => ?_) (fun c49 => ?_)
        · skip
          refine g_lload dX9_nextOf_58 rfl (g_lst4 dX9_nextOf_60 (by decide) rfl (g_inc6 dX9_nextOf_62 (by decide) rfl (g_goto 8 dX9_nextOf_65 rfl (g_dr7 ?_))))
          first | exact ih _ (by omega) (i + 1) _ rfl (by omega) (nx_t (by omega) (by omega) (by omega) hN hq33 (by omega)) | exact ih _ (by omega) (i + 1) _ rfl (by omega) (nx_f (by omega) (by omega) hN hq33 (by omega))
        · skip
          refine g_lload dX9_nextOf_53 rfl (g_goto 60 dX9_nextOf_55 rfl (g_lst4 dX9_nextOf_60 (by decide) rfl (g_inc6 dX9_nextOf_62 (by decide) rfl (g_goto 8 dX9_nextOf_65 rfl (g_dr7 ?_)))))
          first | exact ih _ (by omega) (i + 1) _ rfl (by omega) (nx_t (by omega) (by omega) (by omega) hN hq33 (by omega)) | exact ih _ (by omega) (i + 1) _ rfl (by omega) (nx_f (by omega) (by omega) hN hq33 (by omega))
  refine c2_X9_177 (M := mX9_nextOf) rfl dX9_nextOf_0 (g_lst4 dX9_nextOf_3 (by decide) rfl (g_iconst dX9_nextOf_5 (g_ist6 dX9_nextOf_6 (by decide) rfl ?_)))
  exact L8 _ 0 (-1) rfl (by omega) (Or.inl ⟨rfl, rfl⟩)
set_option maxRecDepth 100000 in
set_option maxHeartbeats 1000000 in
theorem e_X9_toEnd {G : GX} {y : LY} {h : HM} {d : Nat} {t : Int} (ht : R64 t) : EvL G mX9_toEnd (d) [.long (lZ t)] y h ((if 1000000000000 < t ∨ t < 0 then -4 else t)) := by
  refine Ev.of rfl [some (.long (lZ t)), none] rfl (Nat.le_of_ble_eq_true rfl) ?_
  refine g_lload_n dX9_toEnd_0 rfl rfl (c2_X9_163 (M := mX9_toEnd) rfl dX9_toEnd_1 ?_)
  refine g_lcmp_gt 14 dX9_toEnd_4 dX9_toEnd_5 rfl (by omega) (by omega) (fun c4 => ?_) (fun c4 => ?_)
  · skip
    refine c2_X9_183 (M := mX9_toEnd) rfl dX9_toEnd_14 (g_goto 21 dX9_toEnd_17 rfl ?_)
    exact g_lret dX9_toEnd_21 rfl rfl ⟨Nat.le_refl _, Nat.le_refl _⟩ (by first | exact ⟨someL (by rw [if_pos (by omega)]), rfl⟩ | exact ⟨someL (by rw [if_neg (by omega)]), rfl⟩)
  · skip
    refine g_lload_n dX9_toEnd_8 rfl rfl (g_lconst (v := 0) dX9_toEnd_9 rfl ?_)
    refine g_lcmp_ge 20 dX9_toEnd_10 dX9_toEnd_11 rfl (by omega) (by omega) (fun c10 => ?_) (fun c10 => ?_)
    · skip
      refine g_lload_n dX9_toEnd_20 rfl rfl ?_
      exact g_lret dX9_toEnd_21 rfl rfl ⟨Nat.le_refl _, Nat.le_refl _⟩ (by first | exact ⟨someL (by rw [if_pos (by omega)]), rfl⟩ | exact ⟨someL (by rw [if_neg (by omega)]), rfl⟩)
    · skip
      refine c2_X9_183 (M := mX9_toEnd) rfl dX9_toEnd_14 (g_goto 21 dX9_toEnd_17 rfl ?_)
      exact g_lret dX9_toEnd_21 rfl rfl ⟨Nat.le_refl _, Nat.le_refl _⟩ (by first | exact ⟨someL (by rw [if_pos (by omega)]), rfl⟩ | exact ⟨someL (by rw [if_neg (by omega)]), rfl⟩)
set_option maxRecDepth 100000 in
set_option maxHeartbeats 1000000 in
theorem e_X9_next {G : GX} {y : LY} {h : HM} {d : Nat} (hY : Lay y) {F : Nat → Fg} (hR : RF h F) {f t : Int} (hf : R32 f) (ht : R64 t) : EvQL G mX9_next (d + 4) [.ref 150, .int (iZ f), .long (lZ t)] y h (fun v : Int => (¬ ((0 ≤ f ∧ f < h.I 151 0) ∧ (0 ≤ t ∧ t ≤ 1000000000000)) ∧ v = -1) ∨ (((0 ≤ f ∧ f < h.I 151 0) ∧ (0 ≤ t ∧ t ≤ 1000000000000)) ∧ EarlP (OutF (F f.toNat)) t v)) := by
  have hnf := hR.1
  have hpf := pI_01 (0 ≤ f ∧ f < h.I 151 0)
  have hpe := pI_eq1 (P := 0 ≤ f ∧ f < h.I 151 0)
  have hpt := pI_01 (0 ≤ t ∧ t ≤ 1000000000000)
  have hpu := pI_eq1 (P := 0 ≤ t ∧ t ≤ 1000000000000)
  refine Ev.of rfl [some (.ref 150), some (.int (iZ f)), some (.long (lZ t)), none] rfl (Nat.le_of_ble_eq_true rfl) ?_
  refine g_aload_n dX9_next_0 rfl rfl (g_iload_n dX9_next_1 rfl rfl (cv_X9_146 (M := mX9_next) rfl dX9_next_2 (yo150 hY) (RO.same _ _ _) (Nat.le_of_ble_eq_true rfl) (e_X9_isFigure hY (by omega) (by omega)) <| kI ?_))
  refine g_if_eq 27 dX9_next_5 rfl (by omega) (fun c5 => ?_) (fun c5 => ?_)
  · skip
    refine c2_X9_177 (M := mX9_next) rfl dX9_next_27 ?_
    exact g_lret dX9_next_30 rfl rfl ⟨Nat.le_refl _, Nat.le_refl _⟩ (by first | exact ⟨-1, rfl, rfl, Or.inl ⟨by omega, rfl⟩⟩ | exact ⟨_, rfl, rfl, Or.inr ⟨by omega, EarlP_congr (fun d => (out_ExR hFf.2.1 d).symm) (nx_e (by omega) hq18)⟩⟩)
  · skip
    refine g_lload_n dX9_next_8 rfl rfl (cv_X9_165 (M := mX9_next) rfl dX9_next_9 (RO.same _ _ _) (Nat.le_of_ble_eq_true rfl) (e_X9_isDay (by omega)) <| kI ?_)
    refine g_if_eq 27 dX9_next_12 rfl (by omega) (fun c12 => ?_) (fun c12 => ?_)
    · skip
      refine c2_X9_177 (M := mX9_next) rfl dX9_next_27 ?_
      exact g_lret dX9_next_30 rfl rfl ⟨Nat.le_refl _, Nat.le_refl _⟩ (by first | exact ⟨-1, rfl, rfl, Or.inl ⟨by omega, rfl⟩⟩ | exact ⟨_, rfl, rfl, Or.inr ⟨by omega, EarlP_congr (fun d => (out_ExR hFf.2.1 d).symm) (nx_e (by omega) hq18)⟩⟩)
    · skip
      have hFf := hR.2 f (by omega) (by omega)
      have hfb : 0 ≤ f ∧ f ≤ 5 := by omega
      have hrn := rn_bd hFf.2.1
      refine g_aload_n dX9_next_15 rfl rfl (g_iload_n dX9_next_16 rfl rfl (g_lload_n dX9_next_17 rfl rfl ?_))
      refine cv_X9_185 (M := mX9_next) rfl dX9_next_18 (yo150 hY) (RO.same _ _ _) (Nat.le_of_ble_eq_true rfl) (e_X9_nextOf hY hfb hFf.1 hFf.2 (by omega)) (kQL fun v18 hq18 => ?_)
      have hlb : -1 ≤ v18 ∧ v18 < t + rn (F f.toNat) := by rcases hq18 with z | z <;> omega
      refine cv_X9_189 (M := mX9_next) rfl dX9_next_21 (RO.same _ _ _) (Nat.le_of_ble_eq_true rfl) (e_X9_toEnd (by omega)) <| kL (g_goto 30 dX9_next_24 rfl ?_)
      exact g_lret dX9_next_30 rfl rfl ⟨Nat.le_refl _, Nat.le_refl _⟩ (by first | exact ⟨-1, rfl, rfl, Or.inl ⟨by omega, rfl⟩⟩ | exact ⟨_, rfl, rfl, Or.inr ⟨by omega, EarlP_congr (fun d => (out_ExR hFf.2.1 d).symm) (nx_e (by omega) hq18)⟩⟩)
set_option maxRecDepth 100000 in
set_option maxHeartbeats 1000000 in
theorem e_X9_last {G : GX} {y : LY} {h : HM} {d : Nat} (hY : Lay y) {F : Nat → Fg} (hR : RF h F) {f t : Int} (hf : R32 f) (ht : R64 t) : EvQL G mX9_last (d + 4) [.ref 150, .int (iZ f), .long (lZ t)] y h (fun v : Int => (¬ ((0 ≤ f ∧ f < h.I 151 0) ∧ (0 ≤ t ∧ t ≤ 1000000000000)) ∧ v = -1) ∨ (((0 ≤ f ∧ f < h.I 151 0) ∧ (0 ≤ t ∧ t ≤ 1000000000000)) ∧ LastP (OutF (F f.toNat)) t v)) := by
  have hnf := hR.1
  have hpf := pI_01 (0 ≤ f ∧ f < h.I 151 0)
  have hpe := pI_eq1 (P := 0 ≤ f ∧ f < h.I 151 0)
  have hpt := pI_01 (0 ≤ t ∧ t ≤ 1000000000000)
  have hpu := pI_eq1 (P := 0 ≤ t ∧ t ≤ 1000000000000)
  refine Ev.of rfl [some (.ref 150), some (.int (iZ f)), some (.long (lZ t)), none, none, none, none, none, none] rfl (Nat.le_of_ble_eq_true rfl) ?_
  have L27 : ∀ (m : Nat) (i l : Int), m = (tms (F f.toNat).la (F f.toNat).ga - i).toNat → 0 ≤ i ∧ i ≤ tms (F f.toNat).la (F f.toNat).ga → (0 ≤ f ∧ f < h.I 151 0) ∧ (0 ≤ t ∧ t ≤ 1000000000000) → LsI (rsR (F f.toNat)) (rn (F f.toNat)) t i l → Go G mX9_last (rmo (d + 4) 0 0) (ZM G y 0 0 (fun r h1 => ∃ v_ : Int, r = some (.long (lZ v_)) ∧ h1 = h ∧ (fun v : Int => (¬ ((0 ≤ f ∧ f < h.I 151 0) ∧ (0 ≤ t ∧ t ≤ 1000000000000)) ∧ v = -1) ∨ (((0 ≤ f ∧ f < h.I 151 0) ∧ (0 ≤ t ∧ t ≤ 1000000000000)) ∧ LastP (OutF (F f.toNat)) t v)) v_)) y 27 [some (.ref 150), some (.int (iZ f)), some (.long (lZ t)), none, some (.long (lZ l)), none, some (.int (iZ i)), none, none] [] h (0, 0) := by
    intro m
    induction m using Nat.strongRecOn with | _ m ih =>
    intro i l hm hi hok hN
    have hFf := hR.2 f (by omega) (by omega)
    have hfb : 0 ≤ f ∧ f ≤ 5 := by omega
    have hrn := rn_bd hFf.2.1
    have hB := hFf.2
    have hF := hFf.1
    have htb := tms_bd (la := (F f.toNat).la) (ga := (F f.toNat).ga) (by omega)
    have hrb := rsR_bd hFf.2.1 i
    have hlb := hN.1
    refine g_iload dX9_last_27 rfl (g_aload_n dX9_last_29 rfl rfl (g_iload_n dX9_last_30 rfl rfl (cv_X9_157 (M := mX9_last) rfl dX9_last_31 (yo150 hY) (RO.same _ _ _) (Nat.le_of_ble_eq_true rfl) (e_X9_timesOf hY hfb hF hB) <| kI ?_)))
    refine g_icmp_ge 89 dX9_last_34 rfl (by omega) (by omega) (fun c34 => ?_) (fun c34 => ?_)
    · skip
      refine g_lload dX9_last_89 rfl (cv_X9_189 (M := mX9_last) rfl dX9_last_91 (RO.same _ _ _) (Nat.le_of_ble_eq_true rfl) (e_X9_toEnd (by omega)) <| kL ?_)
      exact g_lret dX9_last_94 rfl rfl ⟨Nat.le_refl _, Nat.le_refl _⟩ (by obtain rfl : i = tms (F f.toNat).la (F f.toNat).ga := (by omega); exact ⟨_, rfl, rfl, Or.inr ⟨hok, LastP_congr (fun d => (out_ExR hFf.2.1 d).symm) ((ls_e hN).resolve_right (by omega))⟩⟩)
    · skip
      refine g_lload_n dX9_last_37 rfl rfl (g_lconst (v := 1) dX9_last_38 rfl (g_ladd dX9_last_39 (g_aload_n dX9_last_40 rfl rfl (g_iload_n dX9_last_41 rfl rfl (g_iload dX9_last_42 rfl (cv_X9_160 (M := mX9_last) rfl dX9_last_44 (yo150 hY) (RO.same _ _ _) (Nat.le_of_ble_eq_true rfl) (e_X9_restOf hY hfb hF hB (by omega)) <| kI (g_i2l dX9_last_47 (by omega) (g_aload_n dX9_last_48 rfl rfl (g_iload_n dX9_last_49 rfl rfl (cv_X9_152 (M := mX9_last) rfl dX9_last_50 (yo150 hY) (RO.same _ _ _) (Nat.le_of_ble_eq_true rfl) (e_X9_roundOf hY hfb hF hB) <| kI (g_i2l dX9_last_53 (by omega) ?_)))))))))))
      refine cv_X9_179 (M := mX9_last) rfl dX9_last_54 (RO.same _ _ _) (Nat.le_of_ble_eq_true rfl) (e_X9_firstBy (t := t + 1) (r := rsR (F f.toNat) i) (b := rn (F f.toNat)) (by omega) (by omega) (by omega)) (kQL fun v54 hq54 => ?_)
      have hv54 := hq54.1
      have hw54 := hq54.2.1
      refine g_aload_n dX9_last_57 rfl rfl (g_iload_n dX9_last_58 rfl rfl (cv_X9_152 (M := mX9_last) rfl dX9_last_59 (yo150 hY) (RO.same _ _ _) (Nat.le_of_ble_eq_true rfl) (e_X9_roundOf hY hfb hF hB) <| kI (g_i2l dX9_last_62 (by omega) (g_lsub dX9_last_63 (g_lst7 dX9_last_64 (by decide) rfl (g_lload dX9_last_66 rfl (g_lload dX9_last_68 rfl ?_)))))))
      refine g_lcmp_le 79 dX9_last_70 dX9_last_71 rfl (by omega) (by omega) (fun c70 => ?_) (fun c70 => ?_)
      · skip
        refine g_lload dX9_last_79 rfl (g_lst4 dX9_last_81 (by decide) rfl (g_inc6 dX9_last_83 (by decide) rfl (g_goto 27 dX9_last_86 rfl (g_dr7 ?_))))
        first | exact ih _ (by omega) (i + 1) _ rfl (by omega) hok (ls_t (by omega) (by omega) hN hq54 (by omega)) | exact ih _ (by omega) (i + 1) _ rfl (by omega) hok (ls_f (by omega) (by omega) hN hq54 (by omega))
      · skip
        refine g_lload dX9_last_74 rfl (g_goto 81 dX9_last_76 rfl (g_lst4 dX9_last_81 (by decide) rfl (g_inc6 dX9_last_83 (by decide) rfl (g_goto 27 dX9_last_86 rfl (g_dr7 ?_)))))
        first | exact ih _ (by omega) (i + 1) _ rfl (by omega) hok (ls_t (by omega) (by omega) hN hq54 (by omega)) | exact ih _ (by omega) (i + 1) _ rfl (by omega) hok (ls_f (by omega) (by omega) hN hq54 (by omega))
  refine g_aload_n dX9_last_0 rfl rfl (g_iload_n dX9_last_1 rfl rfl (cv_X9_146 (M := mX9_last) rfl dX9_last_2 (yo150 hY) (RO.same _ _ _) (Nat.le_of_ble_eq_true rfl) (e_X9_isFigure hY (by omega) (by omega)) <| kI ?_))
  refine g_if_eq 15 dX9_last_5 rfl (by omega) (fun c5 => ?_) (fun c5 => ?_)
  · skip
    refine c2_X9_177 (M := mX9_last) rfl dX9_last_15 ?_
    exact g_lret dX9_last_18 rfl rfl ⟨Nat.le_refl _, Nat.le_refl _⟩ (by exact ⟨-1, rfl, rfl, Or.inl ⟨by omega, rfl⟩⟩)
  · skip
    refine g_lload_n dX9_last_8 rfl rfl (cv_X9_165 (M := mX9_last) rfl dX9_last_9 (RO.same _ _ _) (Nat.le_of_ble_eq_true rfl) (e_X9_isDay (by omega)) <| kI ?_)
    refine g_if_ne 19 dX9_last_12 rfl (by omega) (fun c12 => ?_) (fun c12 => ?_)
    · skip
      have hFf := hR.2 f (by omega) (by omega)
      have hfb : 0 ≤ f ∧ f ≤ 5 := by omega
      have htb := tms_bd (la := (F f.toNat).la) (ga := (F f.toNat).ga) (by have := hFf.2.1; omega)
      refine c2_X9_183 (M := mX9_last) rfl dX9_last_19 (g_lst4 dX9_last_22 (by decide) rfl (g_iconst dX9_last_24 (g_ist6 dX9_last_25 (by decide) rfl ?_)))
      exact L27 _ 0 (-4) rfl (by omega) (by omega) ⟨by omega, Or.inl rfl, fun d _ _ j j0 j1 => by omega⟩
    · skip
      refine c2_X9_177 (M := mX9_last) rfl dX9_last_15 ?_
      exact g_lret dX9_last_18 rfl rfl ⟨Nat.le_refl _, Nat.le_refl _⟩ (by exact ⟨-1, rfl, rfl, Or.inl ⟨by omega, rfl⟩⟩)
set_option maxRecDepth 100000 in
set_option maxHeartbeats 1000000 in
theorem e_X9_upTo {G : GX} {y : LY} {h : HM} {d : Nat} {t r b : Int} (ht : -1 ≤ t ∧ t ≤ 1000000000000) (hr : 0 ≤ r ∧ r < b) (hb : b ≤ 40000000000000) : EvL G mX9_upTo (d) [.long (lZ t), .long (lZ r), .long (lZ b)] y h ((if t < r then 0 else (t - r) / b + 1)) := by
  refine Ev.of rfl [some (.long (lZ t)), none, some (.long (lZ r)), none, some (.long (lZ b)), none] rfl (Nat.le_of_ble_eq_true rfl) ?_
  refine g_lload_n dX9_upTo_0 rfl rfl (g_lload_n dX9_upTo_1 rfl rfl ?_)
  refine g_lcmp_ge 10 dX9_upTo_2 dX9_upTo_3 rfl (by omega) (by omega) (fun c2 => ?_) (fun c2 => ?_)
  · skip
    refine g_lload_n dX9_upTo_10 rfl rfl (g_lload_n dX9_upTo_11 rfl rfl (g_lsub dX9_upTo_12 (g_lload dX9_upTo_13 rfl (g_ldivP dX9_upTo_15 (by omega) (by omega) (g_lconst (v := 1) dX9_upTo_16 rfl (g_ladd dX9_upTo_17 ?_))))))
    exact g_lret dX9_upTo_18 rfl rfl ⟨Nat.le_refl _, Nat.le_refl _⟩ (by first | exact ⟨someL (by rw [if_pos (by omega)]), rfl⟩ | exact ⟨someL (by rw [if_neg (by omega)]), rfl⟩)
  · skip
    refine g_lconst (v := 0) dX9_upTo_6 rfl (g_goto 18 dX9_upTo_7 rfl ?_)
    exact g_lret dX9_upTo_18 rfl rfl ⟨Nat.le_refl _, Nat.le_refl _⟩ (by first | exact ⟨someL (by rw [if_pos (by omega)]), rfl⟩ | exact ⟨someL (by rw [if_neg (by omega)]), rfl⟩)
set_option maxRecDepth 100000 in
set_option maxHeartbeats 1000000 in
theorem e_X9_manyBy {G : GX} {y : LY} {h : HM} {d : Nat} {t u r b : Int} (ht : 0 ≤ t ∧ t ≤ u) (hu : u ≤ 1000000000000) (hr : 0 ≤ r ∧ r < b) (hb : b ≤ 40000000000000) : EvL G mX9_manyBy (d + 1) [.long (lZ t), .long (lZ u), .long (lZ r), .long (lZ b)] y h (cntN (fun d => (d - r) % b = 0) t (u - t + 1).toNat) := by
  refine Ev.of rfl [some (.long (lZ t)), none, some (.long (lZ u)), none, some (.long (lZ r)), none, some (.long (lZ b)), none] rfl (Nat.le_of_ble_eq_true rfl) ?_
  refine g_lload_n dX9_manyBy_0 rfl rfl (g_lload dX9_manyBy_1 rfl (g_lload dX9_manyBy_3 rfl (cv_X9_193 (M := mX9_manyBy) rfl dX9_manyBy_5 (RO.same _ _ _) (Nat.le_of_ble_eq_true rfl) (e_X9_upTo (by omega) hr hb) <| kL (g_lload_n dX9_manyBy_8 rfl rfl (g_lconst (v := 1) dX9_manyBy_9 rfl (g_lsub dX9_manyBy_10 (g_lload dX9_manyBy_11 rfl (g_lload dX9_manyBy_13 rfl (cv_X9_193 (M := mX9_manyBy) rfl dX9_manyBy_15 (RO.same _ _ _) (Nat.le_of_ble_eq_true rfl) (e_X9_upTo (by omega) hr hb) <| kL (g_lsub dX9_manyBy_18 ?_))))))))))
  exact g_lret dX9_manyBy_19 rfl rfl ⟨Nat.le_refl _, Nat.le_refl _⟩ (by exact ⟨someL (cnt_mb hr ht).symm, rfl⟩)
set_option maxRecDepth 100000 in
set_option maxHeartbeats 1000000 in
theorem e_X9_areDays {G : GX} {y : LY} {h : HM} {d : Nat} {s t : Int} (hs : R64 s) (ht : R64 t) : EvI G mX9_areDays (d + 2) [.long (lZ s), .long (lZ t)] y h (pI (0 ≤ s ∧ s ≤ t ∧ t ≤ 1000000000000)) := by
  have hzs := pI_01 (0 ≤ s ∧ s ≤ 1000000000000)
  have hys := pI_eq1 (P := 0 ≤ s ∧ s ≤ 1000000000000)
  have hzt := pI_01 (s ≤ t ∧ t ≤ 1000000000000)
  have hyt := pI_eq1 (P := s ≤ t ∧ t ≤ 1000000000000)
  refine Ev.of rfl [some (.long (lZ s)), none, some (.long (lZ t)), none] rfl (Nat.le_of_ble_eq_true rfl) ?_
  refine g_lload_n dX9_areDays_0 rfl rfl (cv_X9_165 (M := mX9_areDays) rfl dX9_areDays_1 (RO.same _ _ _) (Nat.le_of_ble_eq_true rfl) (e_X9_isDay (by omega)) <| kI ?_)
  refine g_if_eq 22 dX9_areDays_4 rfl (by omega) (fun c4 => ?_) (fun c4 => ?_)
  · skip
    refine g_iconst dX9_areDays_22 ?_
    exact g_zret dX9_areDays_23 rfl rfl ⟨Nat.le_refl _, Nat.le_refl _⟩ (by omega) (by first | exact ⟨someI (pI_t (by omega)).symm, rfl⟩ | exact ⟨someI (pI_f (by omega)).symm, rfl⟩)
  · skip
    refine g_lload_n dX9_areDays_7 rfl rfl (g_lload_n dX9_areDays_8 rfl rfl (c2_X9_163 (M := mX9_areDays) rfl dX9_areDays_9 (cv_X9_71 (M := mX9_areDays) rfl dX9_areDays_12 (RO.same _ _ _) (Nat.le_of_ble_eq_true rfl) (e_X9_in (by omega) (by omega) (by omega)) <| kI ?_)))
    refine g_if_eq 22 dX9_areDays_15 rfl (by omega) (fun c15 => ?_) (fun c15 => ?_)
    · skip
      refine g_iconst dX9_areDays_22 ?_
      exact g_zret dX9_areDays_23 rfl rfl ⟨Nat.le_refl _, Nat.le_refl _⟩ (by omega) (by first | exact ⟨someI (pI_t (by omega)).symm, rfl⟩ | exact ⟨someI (pI_f (by omega)).symm, rfl⟩)
    · skip
      refine g_iconst dX9_areDays_18 (g_goto 23 dX9_areDays_19 rfl ?_)
      exact g_zret dX9_areDays_23 rfl rfl ⟨Nat.le_refl _, Nat.le_refl _⟩ (by omega) (by first | exact ⟨someI (pI_t (by omega)).symm, rfl⟩ | exact ⟨someI (pI_f (by omega)).symm, rfl⟩)
set_option maxRecDepth 100000 in
set_option maxHeartbeats 1000000 in
theorem e_X9_often {G : GX} {y : LY} {h : HM} {d : Nat} (hY : Lay y) {F : Nat → Fg} (hR : RF h F) {f t u : Int} (hf : R32 f) (ht : R64 t) (hu : R64 u) : EvQL G mX9_often (d + 4) [.ref 150, .int (iZ f), .long (lZ t), .long (lZ u)] y h (fun v : Int => (¬ ((0 ≤ f ∧ f < h.I 151 0) ∧ (0 ≤ t ∧ t ≤ u ∧ u ≤ 1000000000000)) ∧ v = -1) ∨ (((0 ≤ f ∧ f < h.I 151 0) ∧ (0 ≤ t ∧ t ≤ u ∧ u ≤ 1000000000000)) ∧ v = cntN (OutF (F f.toNat)) t (u - t + 1).toNat)) := by
  have hnf := hR.1
  have hpf := pI_01 (0 ≤ f ∧ f < h.I 151 0)
  have hpe := pI_eq1 (P := 0 ≤ f ∧ f < h.I 151 0)
  have hzs := pI_01 (0 ≤ t ∧ t ≤ u ∧ u ≤ 1000000000000)
  have hys := pI_eq1 (P := 0 ≤ t ∧ t ≤ u ∧ u ≤ 1000000000000)
  refine Ev.of rfl [some (.ref 150), some (.int (iZ f)), some (.long (lZ t)), none, some (.long (lZ u)), none, none, none, none] rfl (Nat.le_of_ble_eq_true rfl) ?_
  have L27 : ∀ (m : Nat) (i : Int), m = (tms (F f.toNat).la (F f.toNat).ga - i).toNat → 0 ≤ i ∧ i ≤ tms (F f.toNat).la (F f.toNat).ga → (0 ≤ f ∧ f < h.I 151 0) ∧ (0 ≤ t ∧ t ≤ u ∧ u ≤ 1000000000000) → Go G mX9_often (rmo (d + 4) 0 0) (ZM G y 0 0 (fun r h1 => ∃ v_ : Int, r = some (.long (lZ v_)) ∧ h1 = h ∧ (fun v : Int => (¬ ((0 ≤ f ∧ f < h.I 151 0) ∧ (0 ≤ t ∧ t ≤ u ∧ u ≤ 1000000000000)) ∧ v = -1) ∨ (((0 ≤ f ∧ f < h.I 151 0) ∧ (0 ≤ t ∧ t ≤ u ∧ u ≤ 1000000000000)) ∧ v = cntN (OutF (F f.toNat)) t (u - t + 1).toNat)) v_)) y 27 [some (.ref 150), some (.int (iZ f)), some (.long (lZ t)), none, some (.long (lZ u)), none, some (.long (lZ (cntN (ExR (rsR (F f.toNat)) (rn (F f.toNat)) i) t (u - t + 1).toNat))), none, some (.int (iZ i))] [] h (0, 0) := by
    intro m
    induction m using Nat.strongRecOn with | _ m ih =>
    intro i hm hi hok
    have hFf := hR.2 f (by omega) (by omega)
    have hfb : 0 ≤ f ∧ f ≤ 5 := by omega
    have hrn := rn_bd hFf.2.1
    have hB := hFf.2
    have hF := hFf.1
    have htb := tms_bd (la := (F f.toNat).la) (ga := (F f.toNat).ga) (by omega)
    have hrb := rsR_bd hFf.2.1 i
    refine g_iload dX9_often_27 rfl (g_aload_n dX9_often_29 rfl rfl (g_iload_n dX9_often_30 rfl rfl (cv_X9_157 (M := mX9_often) rfl dX9_often_31 (yo150 hY) (RO.same _ _ _) (Nat.le_of_ble_eq_true rfl) (e_X9_timesOf hY hfb hF hB) <| kI ?_)))
    refine g_icmp_ge 68 dX9_often_34 rfl (by omega) (by omega) (fun c34 => ?_) (fun c34 => ?_)
    · skip
      refine g_lload dX9_often_68 rfl ?_
      exact g_lret dX9_often_70 rfl rfl ⟨Nat.le_refl _, Nat.le_refl _⟩ (by obtain rfl : i = tms (F f.toNat).la (F f.toNat).ga := (by omega); exact ⟨_, rfl, rfl, Or.inr ⟨hok, cntN_congr (fun k _ => (out_ExR hFf.2.1 _).symm)⟩⟩)
    · skip
      refine g_lload dX9_often_37 rfl (g_lload_n dX9_often_39 rfl rfl (g_lload dX9_often_40 rfl (g_aload_n dX9_often_42 rfl rfl (g_iload_n dX9_often_43 rfl rfl (g_iload dX9_often_44 rfl (cv_X9_160 (M := mX9_often) rfl dX9_often_46 (yo150 hY) (RO.same _ _ _) (Nat.le_of_ble_eq_true rfl) (e_X9_restOf hY hfb hF hB (by omega)) <| kI (g_i2l dX9_often_49 (by omega) (g_aload_n dX9_often_50 rfl rfl (g_iload_n dX9_often_51 rfl rfl (cv_X9_152 (M := mX9_often) rfl dX9_often_52 (yo150 hY) (RO.same _ _ _) (Nat.le_of_ble_eq_true rfl) (e_X9_roundOf hY hfb hF hB) <| kI (g_i2l dX9_often_55 (by omega) ?_)))))))))))
      refine cv_X9_200 (M := mX9_often) rfl dX9_often_56 (RO.same _ _ _) (Nat.le_of_ble_eq_true rfl) (e_X9_manyBy (by omega) (by omega) (by omega) (by omega)) <| kL (g_ladd dX9_often_59 (g_lst6 dX9_often_60 (by decide) rfl (g_inc8 dX9_often_62 (by decide) rfl (g_goto 27 dX9_often_65 rfl ?_))))
      have hx := ih _ (by omega) (i + 1) rfl (by omega) hok
      rw [cnt_st (by omega) (fun d j j0 j1 z1 z2 => by have := rsR_inj hFf.2.1 (by omega) (by omega) z1 z2; omega)] at hx
      exact hx
  refine g_aload_n dX9_often_0 rfl rfl (g_iload_n dX9_often_1 rfl rfl (cv_X9_146 (M := mX9_often) rfl dX9_often_2 (yo150 hY) (RO.same _ _ _) (Nat.le_of_ble_eq_true rfl) (e_X9_isFigure hY (by omega) (by omega)) <| kI ?_))
  refine g_if_eq 17 dX9_often_5 rfl (by omega) (fun c5 => ?_) (fun c5 => ?_)
  · skip
    refine c2_X9_177 (M := mX9_often) rfl dX9_often_17 ?_
    exact g_lret dX9_often_20 rfl rfl ⟨Nat.le_refl _, Nat.le_refl _⟩ (by exact ⟨-1, rfl, rfl, Or.inl ⟨by omega, rfl⟩⟩)
  · skip
    refine g_lload_n dX9_often_8 rfl rfl (g_lload dX9_often_9 rfl (cv_X9_196 (M := mX9_often) rfl dX9_often_11 (RO.same _ _ _) (Nat.le_of_ble_eq_true rfl) (e_X9_areDays (by omega) (by omega)) <| kI ?_))
    refine g_if_ne 21 dX9_often_14 rfl (by omega) (fun c14 => ?_) (fun c14 => ?_)
    · skip
      have hFf := hR.2 f (by omega) (by omega)
      have hfb : 0 ≤ f ∧ f ≤ 5 := by omega
      have htb := tms_bd (la := (F f.toNat).la) (ga := (F f.toNat).ga) (by have := hFf.2.1; omega)
      refine g_lconst (v := 0) dX9_often_21 rfl (g_lst6 dX9_often_22 (by decide) rfl (g_iconst dX9_often_24 (g_ist8 dX9_often_25 (by decide) rfl ?_)))
      have hx := L27 _ 0 rfl (by omega) (by omega)
      rw [cnt_0] at hx
      exact hx
    · skip
      refine c2_X9_177 (M := mX9_often) rfl dX9_often_17 ?_
      exact g_lret dX9_often_20 rfl rfl ⟨Nat.le_refl _, Nat.le_refl _⟩ (by exact ⟨-1, rfl, rfl, Or.inl ⟨by omega, rfl⟩⟩)
