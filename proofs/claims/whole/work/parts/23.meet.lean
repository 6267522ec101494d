theorem inv_dvd {a m v : Int} (hm : 1 ≤ m) (h : InvP a m v) : m ∣ a * v - 1 := by
  rcases h.2.2 with e | e
  · rw [e]; exact Int.one_dvd _
  · have := Int.emod_add_mul_ediv (a * v) m
    exact ⟨a * v / m, by omega⟩
theorem em0 {a b : Int} : a % b = 0 ↔ b ∣ a := ⟨Int.dvd_of_emod_eq_zero, Int.emod_eq_zero_of_dvd⟩
/-- the days that two rests share -/
theorem meet_no {s r x fr tm q : Int} (h : ¬ (tm - fr - x) % r % (Int.gcd s r : Int) = 0) : ¬ (fr + (x + q * s) - tm) % r = 0 := by
  intro e
  apply h
  rw [em0] at e
  have hg1 : (Int.gcd s r : Int) ∣ s := Int.gcd_dvd_left _ _
  have hg2 : (Int.gcd s r : Int) ∣ r := Int.gcd_dvd_right _ _
  rw [Int.emod_emod_of_dvd _ hg2, em0]
  have h1 := Int.dvd_trans hg2 e
  have h2 : (Int.gcd s r : Int) ∣ q * s := Int.dvd_trans hg1 (Int.dvd_mul_left _ _)
  have := Int.dvd_sub h2 h1
  rwa [show q * s - (fr + (x + q * s) - tm) = tm - fr - x by omega] at this
theorem meet_yes {s r x fr tm inv : Int} (hs : 1 ≤ s) (hr : 1 ≤ r) (h : (tm - fr - x) % r % (Int.gcd s r : Int) = 0) (hi : InvP (s / (Int.gcd s r : Int)) (r / (Int.gcd s r : Int)) inv) :
    (fr + (x + (tm - fr - x) % r / (Int.gcd s r : Int) * inv % (r / (Int.gcd s r : Int)) * s) - tm) % r = 0 ∧ ∀ q : Int, (fr + (x + q * s) - tm) % r = 0 → (r / (Int.gcd s r : Int)) ∣ q - (tm - fr - x) % r / (Int.gcd s r : Int) * inv % (r / (Int.gcd s r : Int)) := by
  have hg := gcd_bd (a := s) (b := r) (by omega) (by omega)
  obtain ⟨s1, hs1⟩ : (Int.gcd s r : Int) ∣ s := Int.gcd_dvd_left _ _
  obtain ⟨m, hm⟩ : (Int.gcd s r : Int) ∣ r := Int.gcd_dvd_right _ _
  rw [em0] at h
  obtain ⟨M1, hM1⟩ := h
  generalize (Int.gcd s r : Int) = g at *
  have e1 : s / g = s1 := by rw [hs1]; exact Int.mul_ediv_cancel_left _ (by omega)
  have e2 : r / g = m := by rw [hm]; exact Int.mul_ediv_cancel_left _ (by omega)
  have e3 : (tm - fr - x) % r / g = M1 := by rw [hM1]; exact Int.mul_ediv_cancel_left _ (by omega)
  rw [e1, e2] at hi
  rw [e2, e3]
  have hm1 : 1 ≤ m := by
    rcases (by omega : m ≤ 0 ∨ 1 ≤ m) with z | z
    · have := Int.mul_le_mul_of_nonneg_left z (show 0 ≤ g by omega)
      rw [← hm] at this; omega
    · exact z
  have hd := inv_dvd hm1 hi
  obtain ⟨K, hK⟩ : r ∣ (tm - fr - x) - (tm - fr - x) % r := ⟨(tm - fr - x) / r, by have := Int.emod_add_mul_ediv (tm - fr - x) r; omega⟩
  have key : ∀ q : Int, (fr + (x + q * s) - tm) % r = 0 ↔ m ∣ q * s1 - M1 := by
    intro q
    rw [em0]
    have e4 : fr + (x + q * s) - tm = g * (q * s1 - M1) - r * K := by
      rw [Int.mul_sub, ← hM1, ← Int.mul_assoc, Int.mul_comm g q, Int.mul_assoc, ← hs1]; omega
    rw [e4]
    constructor
    · intro z
      have z2 : r ∣ g * (q * s1 - M1) := by
        have := Int.dvd_add z (Int.dvd_mul_right r K)
        rwa [Int.sub_add_cancel] at this
      rw [hm] at z2
      exact Int.dvd_of_mul_dvd_mul_left (by omega) z2
    · intro z
      refine Int.dvd_sub ?_ (Int.dvd_mul_right r K)
      rw [hm]
      exact Int.mul_dvd_mul_left g z
  obtain ⟨P, hP⟩ : m ∣ M1 * inv - M1 * inv % m := ⟨M1 * inv / m, by have := Int.emod_add_mul_ediv (M1 * inv) m; omega⟩
  constructor
  · rw [key]
    obtain ⟨D, hD⟩ := hd
    refine ⟨M1 * D - P * s1, ?_⟩
    have : M1 * inv % m = M1 * inv - m * P := by omega
    rw [this, Int.sub_mul, Int.mul_sub]
    have e5 : M1 * (s1 * inv - 1) = M1 * (m * D) := by rw [hD]
    rw [Int.mul_sub, Int.mul_one] at e5
    rw [show M1 * inv * s1 = M1 * (s1 * inv) by rw [Int.mul_assoc, Int.mul_comm inv], show m * (M1 * D) = M1 * (m * D) by rw [← Int.mul_assoc, Int.mul_comm m, Int.mul_assoc], show m * P * s1 = m * (P * s1) by rw [Int.mul_assoc]]
    omega
  · intro q hq
    rw [key] at hq
    obtain ⟨D, hD⟩ := hd
    obtain ⟨Q, hQ⟩ := hq
    refine ⟨Q * inv - q * D + P, ?_⟩
    have e6 : (q * s1 - M1) * inv = m * Q * inv := by rw [hQ]
    have e7 : q * (s1 * inv - 1) = q * (m * D) := by rw [hD]
    rw [Int.sub_mul] at e6
    rw [Int.mul_sub, Int.mul_one] at e7
    rw [Int.mul_add, Int.mul_sub]
    rw [show q * s1 * inv = q * (s1 * inv) by rw [Int.mul_assoc]] at e6
    rw [show m * (Q * inv) = m * Q * inv by rw [Int.mul_assoc], show m * (q * D) = q * (m * D) by rw [← Int.mul_assoc, Int.mul_comm m, Int.mul_assoc]]
    omega
/-- the first day behind x of the days x, x + step .. on which he comes out by his k-th time -/
def MeetS (fr s s2 r tm x v : Int) : Prop := (v = -4 ∧ ∀ x2 : Int, x ≤ x2 → (x2 - x) % s = 0 → ¬ (fr + x2 - tm) % r = 0) ∨ ((x ≤ v ∧ v ≤ x + 181 * s) ∧ (v - x) % s = 0 ∧ (fr + v - tm) % r = 0 ∧ ∀ x2 : Int, x ≤ x2 → (x2 - x) % s = 0 → (fr + x2 - tm) % r = 0 → v ≤ x2 ∧ (x2 - v) % s2 = 0)
theorem meet_S {fr s r x tm inv : Int} (hs : 1 ≤ s) (hr : 1 ≤ r ∧ r ≤ 181) (hi : InvP (s / (Int.gcd s r : Int)) (r / (Int.gcd s r : Int)) inv) (h : (tm - fr - x) % r % (Int.gcd s r : Int) = 0) : MeetS fr s (lcI s r) r tm x (x + (tm - fr - x) % r / (Int.gcd s r : Int) * inv % (r / (Int.gcd s r : Int)) * s) := by
  have hg := gcd_bd (a := s) (b := r) (by omega) (by omega)
  have hm1 : 1 ≤ r / (Int.gcd s r : Int) := Int.le_ediv_of_mul_le (by omega) (by omega)
  have hm2 : r / (Int.gcd s r : Int) ≤ 181 := Int.le_trans (Int.ediv_le_self _ (by omega)) (by omega)
  obtain ⟨hy, hu⟩ := meet_yes hs hr.1 h hi
  unfold lcI
  generalize (r / (Int.gcd s r : Int)) = m at *
  generalize hT : (tm - fr - x) % r / (Int.gcd s r : Int) * inv % m = T at *
  have hTb : 0 ≤ T ∧ T < m := by rw [← hT]; exact em_bd _ (by omega)
  have hmb := mul_bd (a := T) (b := s) (A := 181) (B := s) hTb.1 (by omega) (by omega) (by omega)
  refine Or.inr ⟨by omega, by rw [show x + T * s - x = T * s by omega, em0]; exact Int.dvd_mul_left _ _, hy, fun x2 h1 h2 h3 => ?_⟩
  rw [em0] at h2
  obtain ⟨q, hq⟩ := h2
  have hx2 : x2 = x + q * s := by rw [Int.mul_comm q s]; omega
  rw [hx2] at h3
  obtain ⟨w, hw⟩ := hu q h3
  have hq0 : 0 ≤ q := by
    rcases (by omega : q < 0 ∨ 0 ≤ q) with z | z
    · have := Int.mul_le_mul_of_nonneg_left (show q ≤ -1 by omega) (show 0 ≤ s by omega)
      rw [← hq, Int.mul_neg, Int.mul_one] at this; omega
    · exact z
  have hw0 : 0 ≤ w := by
    rcases (by omega : w < 0 ∨ 0 ≤ w) with z | z
    · have := Int.mul_le_mul_of_nonneg_left (show w ≤ -1 by omega) (show 0 ≤ m by omega)
      rw [← hw, Int.mul_neg, Int.mul_one] at this; omega
    · exact z
  have hqT : T ≤ q := by have := Int.mul_nonneg (show 0 ≤ m by omega) hw0; omega
  have := Int.mul_le_mul_of_nonneg_right hqT (show 0 ≤ s by omega)
  refine ⟨by rw [hx2]; omega, ?_⟩
  rw [hx2, show x + q * s - (x + T * s) = (q - T) * s by rw [Int.sub_mul]; omega, hw, em0]
  exact ⟨w, by rw [Int.mul_comm s m, Int.mul_assoc, Int.mul_assoc m s w, Int.mul_comm s w]⟩
theorem meet_N {fr s r x tm : Int} (s2 : Int) (h : ¬ (tm - fr - x) % r % (Int.gcd s r : Int) = 0) : MeetS fr s s2 r tm x (-4) := by
  refine Or.inl ⟨rfl, fun x2 _ h2 => ?_⟩
  rw [em0] at h2
  obtain ⟨q, hq⟩ := h2
  have := meet_no (q := q) h
  rwa [show x + q * s = x2 by rw [Int.mul_comm q s]; omega] at this
set_option maxRecDepth 100000 in
set_option maxHeartbeats 4000000 in
theorem e_X2_meet {G : GX} {y : LY} {h : HM} {d : Nat} (hY : Lay y) {l x k : Int} {n : Nat} (hS : FSt h n) (hl : 0 ≤ l ∧ l < n) (hx : 0 ≤ x ∧ x ≤ 2000000000000) (hfr : 0 ≤ h.L 71 5 ∧ h.L 71 5 ≤ 1000000000000) (hk : 0 ≤ k ∧ k ≤ 5) : EvQL G mX2_meet (d + 2) [.ref 71, .int (iZ l), .long (lZ x), .int (iZ k)] y h (MeetS (h.L 71 5) (h.L 73 l.toNat) (h.L 73 (l.toNat + 1)) (rnd (h.I (76 + l.toNat) 3) (h.I (76 + l.toNat) 0)) (tmo (h.I (76 + l.toNat) 0) (h.I (76 + l.toNat) 1) (h.I (76 + l.toNat) 3) (h.I (76 + l.toNat) 4) k) x) := by
  have hn6 := hS.2.1
  obtain ⟨hF, hst, hco, hs2, hin⟩ := hS.2.2.2.2 l.toNat (by omega)
  have hp := p181 (n := l.toNat) (by omega)
  have hr := rnd_bd (la := h.I (76 + l.toNat) 3) (te := h.I (76 + l.toNat) 0) (by omega)
  have hco2 : h.L 74 l.toNat = (Int.gcd (h.L 73 l.toNat) (rnd (h.I (76 + l.toNat) 3) (h.I (76 + l.toNat) 0)) : Int) := hco
  have hg := gcd_bd (a := h.L 73 l.toNat) (b := rnd (h.I (76 + l.toNat) 3) (h.I (76 + l.toNat) 0)) (by omega) (by omega)
  have htb := tmo_bd (te := h.I (76 + l.toNat) 0) (st := h.I (76 + l.toNat) 1) (la := h.I (76 + l.toNat) 3) (ga := h.I (76 + l.toNat) 4) (k := k) (by omega)
  have hmb := em_bd (tmo (h.I (76 + l.toNat) 0) (h.I (76 + l.toNat) 1) (h.I (76 + l.toNat) 3) (h.I (76 + l.toNat) 4) k - h.L 71 5 - x) (d := rnd (h.I (76 + l.toNat) 3) (h.I (76 + l.toNat) 0)) (by omega)
  have hd1 : 1 ≤ rnd (h.I (76 + l.toNat) 3) (h.I (76 + l.toNat) 0) / h.L 74 l.toNat ∧ rnd (h.I (76 + l.toNat) 3) (h.I (76 + l.toNat) 0) / h.L 74 l.toNat ≤ 181 := ⟨Int.le_ediv_of_mul_le (by omega) (by omega), Int.le_trans (Int.ediv_le_self _ (by omega)) (by omega)⟩
  have hd2 : 0 ≤ (tmo (h.I (76 + l.toNat) 0) (h.I (76 + l.toNat) 1) (h.I (76 + l.toNat) 3) (h.I (76 + l.toNat) 4) k - h.L 71 5 - x) % rnd (h.I (76 + l.toNat) 3) (h.I (76 + l.toNat) 0) / h.L 74 l.toNat ∧ (tmo (h.I (76 + l.toNat) 0) (h.I (76 + l.toNat) 1) (h.I (76 + l.toNat) 3) (h.I (76 + l.toNat) 4) k - h.L 71 5 - x) % rnd (h.I (76 + l.toNat) 3) (h.I (76 + l.toNat) 0) / h.L 74 l.toNat ≤ 181 := ⟨Int.ediv_nonneg (by omega) (by omega), Int.le_trans (Int.ediv_le_self _ (by omega)) (by omega)⟩
  have hi3 := mul_bd (a := (tmo (h.I (76 + l.toNat) 0) (h.I (76 + l.toNat) 1) (h.I (76 + l.toNat) 3) (h.I (76 + l.toNat) 4) k - h.L 71 5 - x) % rnd (h.I (76 + l.toNat) 3) (h.I (76 + l.toNat) 0) / h.L 74 l.toNat) (b := h.L 75 l.toNat) (A := 181) (B := 181) hd2.1 hd2.2 hin.1 (by have := hin.2.1; omega)
  have hmm := em_bd ((tmo (h.I (76 + l.toNat) 0) (h.I (76 + l.toNat) 1) (h.I (76 + l.toNat) 3) (h.I (76 + l.toNat) 4) k - h.L 71 5 - x) % rnd (h.I (76 + l.toNat) 3) (h.I (76 + l.toNat) 0)) (d := h.L 74 l.toNat) (by omega)
  refine Ev.of rfl [some (.ref 71), some (.int (iZ l)), some (.long (lZ x)), none, some (.int (iZ k)), none, none, none, none, none, none, none] rfl (Nat.le_of_ble_eq_true rfl) ?_
  refine g_aload_n dX2_meet_0 rfl rfl (gf_X2_11 (M := mX2_meet) rfl dX2_meet_1 (yo71 hY) (yr71_0 hY) (g_iload_n dX2_meet_4 rfl rfl (g_aald dX2_meet_5 (ya72 hY) (by decide) (D0 := "ClockTeeth$Figure") rfl ⟨by omega, by omega, by omega⟩ (fd_r hY (by omega)) (g_ast5 dX2_meet_6 (by decide) rfl (g_aload dX2_meet_8 rfl (g_iload dX2_meet_10 rfl (cv_X2_76 (M := mX2_meet) rfl dX2_meet_12 (fd_o hY (by omega)) (RO.same _ _ _) (Nat.le_of_ble_eq_true rfl) (e_X1_timeOf (fd_o hY (by omega)) (by omega) (by omega) (by omega)) <| kI (g_i2l dX2_meet_15 (by omega) (g_aload_n dX2_meet_16 rfl rfl (gf_X2_31 (M := mX2_meet) rfl dX2_meet_17 (yo71 hY) (g_lsub dX2_meet_20 ?_)))))))))))
  refine g_lload_n dX2_meet_21 rfl rfl (g_lsub dX2_meet_22 (g_aload dX2_meet_23 rfl (cv_X2_59 (M := mX2_meet) rfl dX2_meet_25 (fd_o hY (by omega)) (RO.same _ _ _) (Nat.le_of_ble_eq_true rfl) (e_X1_round (fd_o hY (by omega)) (by omega)) <| kI (g_i2l dX2_meet_28 (by omega) (cv_X2_73 (M := mX2_meet) rfl dX2_meet_29 (RO.same _ _ _) (Nat.le_of_ble_eq_true rfl) (e_X8_rest (by omega) (by omega)) <| kL (g_lst6 dX2_meet_32 (by decide) rfl (g_aload_n dX2_meet_34 rfl rfl (gf_X2_21 (M := mX2_meet) rfl dX2_meet_35 (yo71 hY) (yr71_2 hY) (g_iload_n dX2_meet_38 rfl rfl (g_lald dX2_meet_39 (ya74 hY) ⟨by omega, by omega, by omega⟩ (g_lst8 dX2_meet_40 (by decide) rfl ?_)))))))))))
  refine g_lload dX2_meet_42 rfl (g_lconst (v := 1) dX2_meet_44 rfl ?_)
  refine g_lcmp_lt 59 dX2_meet_45 dX2_meet_46 rfl (by omega) (by omega) (fun c45 => ?_) (fun c45 => ?_)
  · skip
    refine c2_X2_49 (M := mX2_meet) rfl dX2_meet_59 ?_
    exact g_lret dX2_meet_62 rfl rfl ⟨Nat.le_refl _, Nat.le_refl _⟩ (by first | (exfalso; omega) | (refine ⟨-4, rfl, rfl, ?_⟩; exact meet_N _ (by rw [hco2] at c55; exact c55)))
  · skip
    refine g_lload dX2_meet_49 rfl (g_lload dX2_meet_51 rfl (g_lremP dX2_meet_53 (by omega) (by omega) (g_lconst (v := 0) dX2_meet_54 rfl ?_)))
    refine g_lcmp_eq 63 dX2_meet_55 dX2_meet_56 rfl (by omega) (by omega) (fun c55 => ?_) (fun c55 => ?_)
    · skip
      refine g_lload dX2_meet_63 rfl (g_lload dX2_meet_65 rfl (g_ldivP dX2_meet_67 (by omega) (by omega) (g_aload_n dX2_meet_68 rfl rfl (gf_X2_24 (M := mX2_meet) rfl dX2_meet_69 (yo71 hY) (yr71_3 hY) (g_iload_n dX2_meet_72 rfl rfl (g_lald dX2_meet_73 (ya75 hY) ⟨by omega, by omega, by omega⟩ (g_lmul dX2_meet_74 (g_aload dX2_meet_75 rfl (cv_X2_59 (M := mX2_meet) rfl dX2_meet_77 (fd_o hY (by omega)) (RO.same _ _ _) (Nat.le_of_ble_eq_true rfl) (e_X1_round (fd_o hY (by omega)) (by omega)) <| kI (g_i2l dX2_meet_80 (by omega) (g_lload dX2_meet_81 rfl ?_)))))))))))
      refine g_ldivP dX2_meet_83 (by omega) (by omega) (cv_X2_73 (M := mX2_meet) rfl dX2_meet_84 (RO.same _ _ _) (Nat.le_of_ble_eq_true rfl) (e_X8_rest (by omega) (by omega)) <| kL (g_lst10 dX2_meet_87 (by decide) rfl (g_lload_n dX2_meet_89 rfl rfl (g_lload dX2_meet_90 rfl (g_aload_n dX2_meet_92 rfl rfl (gf_X2_17 (M := mX2_meet) rfl dX2_meet_93 (yo71 hY) (yr71_1 hY) (g_iload_n dX2_meet_96 rfl rfl (g_lald dX2_meet_97 (ya73 hY) ⟨by omega, by omega, by omega⟩ (g_lmul dX2_meet_98 (g_ladd dX2_meet_99 ?_))))))))))
      exact g_lret dX2_meet_100 rfl rfl ⟨Nat.le_refl _, Nat.le_refl _⟩ (by refine ⟨_, rfl, rfl, ?_⟩; rw [hs2, hco2]; exact meet_S (s := h.L 73 l.toNat) (r := rnd (h.I (76 + l.toNat) 3) (h.I (76 + l.toNat) 0)) (by omega) (by omega) (by rw [hco2] at hin; exact hin) (by rw [hco2] at c55; exact c55))
    · skip
      refine c2_X2_49 (M := mX2_meet) rfl dX2_meet_59 ?_
      exact g_lret dX2_meet_62 rfl rfl ⟨Nat.le_refl _, Nat.le_refl _⟩ (by first | (exfalso; omega) | (refine ⟨-4, rfl, rfl, ?_⟩; exact meet_N _ (by rw [hco2] at c55; exact c55)))
