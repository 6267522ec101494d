/-- on how many of n days from lo on -/
noncomputable def cntN (P : Int → Prop) (lo : Int) : Nat → Int
  | 0 => 0
  | n + 1 => cntN P lo n + pI (P (lo + n))
theorem cntN_congr {P Q : Int → Prop} {lo : Int} : ∀ {n : Nat}, (∀ i : Nat, i < n → (P (lo + i) ↔ Q (lo + i))) → cntN P lo n = cntN Q lo n
  | 0, _ => rfl
  | n + 1, h => by rw [cntN, cntN, cntN_congr (fun i hi => h i (by omega)), pI_congr (h n (by omega))]
theorem cntN_no {P : Int → Prop} {lo : Int} : ∀ {n : Nat}, (∀ i : Nat, i < n → ¬ P (lo + i)) → cntN P lo n = 0
  | 0, _ => rfl
  | n + 1, h => by rw [cntN, cntN_no (fun i hi => h i (by omega)), pI_f (h n (by omega))]; rfl
theorem cntN_or {P Q : Int → Prop} {lo : Int} : ∀ {n : Nat}, (∀ i : Nat, i < n → ¬ (P (lo + i) ∧ Q (lo + i))) → cntN (fun x => P x ∨ Q x) lo n = cntN P lo n + cntN Q lo n
  | 0, _ => rfl
  | n + 1, h => by
    rw [cntN, cntN, cntN, cntN_or (fun i hi => h i (by omega))]
    have := h n (by omega)
    by_cases p : P (lo + n) <;> by_cases q : Q (lo + n)
    · exact absurd ⟨p, q⟩ this
    · rw [pI_t p, pI_f q, pI_t (Or.inl p)]; omega
    · rw [pI_f p, pI_t q, pI_t (Or.inr q)]; omega
    · rw [pI_f p, pI_f q, pI_f (fun z => z.elim p q)]; omega
theorem cntN_off {P : Int → Prop} {lo : Int} {k : Nat} (h : ∀ i : Nat, i < k → ¬ P (lo + i)) : ∀ n : Nat, cntN P lo (k + n) = cntN P (lo + k) n
  | 0 => cntN_no h
  | n + 1 => by rw [← Nat.add_assoc, cntN, cntN, cntN_off h n]; congr 3; push_cast; omega
theorem cntN_add {P : Int → Prop} (a lo : Int) : ∀ n : Nat, cntN (fun x => P (a + x)) lo n = cntN P (a + lo) n
  | 0 => rfl
  | n + 1 => by rw [cntN, cntN, cntN_add a lo n]; congr 3; omega
theorem div_step {a s : Int} (ha : 0 ≤ a) (hs : 0 < s) : (a + 1) / s = a / s + (if (a + 1) % s = 0 then 1 else 0) := by
  have h1 := Int.emod_add_mul_ediv (a + 1) s
  have h2 := Int.emod_add_mul_ediv a s
  have h3 := em_bd (a + 1) hs
  have h4 := em_bd a hs
  have key : (a + 1) / s = a / s ∨ (a + 1) / s = a / s + 1 := by
    rcases Int.lt_trichotomy ((a + 1) / s) (a / s) with z | z | z
    · have := Int.mul_le_mul_of_nonneg_left (show (a + 1) / s + 1 ≤ a / s by omega) (Int.le_of_lt hs)
      rw [Int.mul_add, Int.mul_one] at this; omega
    · exact Or.inl z
    · rcases (by omega : (a + 1) / s = a / s + 1 ∨ a / s + 2 ≤ (a + 1) / s) with w | w
      · exact Or.inr w
      · have := Int.mul_le_mul_of_nonneg_left w (Int.le_of_lt hs)
        rw [Int.mul_add] at this; omega
  rcases key with k | k
  · rw [k] at h1
    split
    · omega
    · omega
  · rw [k, Int.mul_add, Int.mul_one] at h1
    split
    · omega
    · omega
theorem cntN_ap (x : Int) {s : Int} (hs : 0 < s) : ∀ n : Nat, cntN (fun z => x ≤ z ∧ (z - x) % s = 0) x (n + 1) = n / s + 1
  | 0 => by
    rw [cntN, cntN, pI_t ⟨by omega, by simp⟩]
    simp
  | n + 1 => by
    rw [cntN, cntN_ap x hs n]
    have e := div_step (a := n) (s := s) (by omega) hs
    rw [show (((n + 1 : Nat)) : Int) = (n : Int) + 1 by push_cast; rfl, e]
    by_cases q : ((n : Int) + 1) % s = 0
    · rw [if_pos q, pI_t ⟨by omega, by rw [show x + ((n : Int) + 1) - x = (n : Int) + 1 by omega]; exact q⟩]; all_goals omega
    · rw [if_neg q, pI_f (fun z => q (by have := z.2; rw [show x + ((n : Int) + 1) - x = (n : Int) + 1 by omega] at this; exact this))]; all_goals omega
theorem ofs_inj {te ga k i : Int} (h : 2 ≤ te) (hg : 0 ≤ ga ∧ ga < te) (hk : 0 ≤ k) (hi : 0 ≤ i) (e : ofs te ga k = ofs te ga i) : k = i := by
  unfold ofs at e
  split at e
  · have hk2 := half hk
    have hi2 := half hi
    have key : ∀ p q r s : Int, 0 ≤ r → r < 2 → 0 ≤ s → s < 2 → p * te + r * ga = q * te + s * ga → p = q := by
      intro p q r s r0 r1 s0 s1 e2
      have f1 : 0 ≤ r * ga ∧ r * ga < te := by rcases (by omega : r = 0 ∨ r = 1) with rfl | rfl <;> omega
      have f2 : 0 ≤ s * ga ∧ s * ga < te := by rcases (by omega : s = 0 ∨ s = 1) with rfl | rfl <;> omega
      rcases Int.lt_trichotomy p q with z | z | z
      · have := Int.mul_le_mul_of_nonneg_right (show p + 1 ≤ q by omega) (show 0 ≤ te by omega)
        rw [Int.add_mul, Int.one_mul] at this; omega
      · exact z
      · have := Int.mul_le_mul_of_nonneg_right (show q + 1 ≤ p by omega) (show 0 ≤ te by omega)
        rw [Int.add_mul, Int.one_mul] at this; omega
    have e3 := key _ _ _ _ hk2.2.2.1 hk2.2.2.2 hi2.2.2.1 hi2.2.2.2 e
    rw [e3] at e
    have : k % 2 = i % 2 := by
      rcases (by omega : k % 2 = 0 ∨ k % 2 = 1) with a | a <;> rcases (by omega : i % 2 = 0 ∨ i % 2 = 1) with b | b <;> rw [a, b] at e <;> omega
    omega
  · rcases Int.lt_trichotomy k i with z | z | z
    · have := Int.mul_le_mul_of_nonneg_right (show k + 1 ≤ i by omega) (show 0 ≤ te by omega)
      rw [Int.add_mul, Int.one_mul] at this; omega
    · exact z
    · have := Int.mul_le_mul_of_nonneg_right (show i + 1 ≤ k by omega) (show 0 ≤ te by omega)
      rw [Int.add_mul, Int.one_mul] at this; omega
theorem tmo_inj {F : Fg} (hF : FgW F) {t k i : Int} (hk : 0 ≤ k ∧ k < tms F.la F.ga) (hi : 0 ≤ i ∧ i < tms F.la F.ga) (h1 : (t - tmo F.te F.st F.la F.ga k) % rn F = 0) (h2 : (t - tmo F.te F.st F.la F.ga i) % rn F = 0) : k = i := by
  have hr := rn_bd hF
  have b1 := off_bd hF (off_of k hk)
  have b2 := off_bd hF (off_of i hi)
  have key : ∀ z : Int, (t - (F.st + z) % rn F) % rn F = (t - F.st - z) % rn F := by
    intro z
    rw [Int.sub_emod, Int.emod_emod_of_dvd _ (Int.dvd_refl _), ← Int.sub_emod]
    congr 1; omega
  have e1 : (t - F.st - ofs F.te F.ga k) % rn F = 0 := by rw [← key]; exact h1
  have e2 : (t - F.st - ofs F.te F.ga i) % rn F = 0 := by rw [← key]; exact h2
  apply ofs_inj (te := F.te) (ga := F.ga) (by omega) (by omega) hk.1 hi.1
  rcases Int.le_total (ofs F.te F.ga k) (ofs F.te F.ga i) with z | z
  · have := dvd_gap (p := t - F.st - ofs F.te F.ga i) (q := t - F.st - ofs F.te F.ga k) (g := rn F) (by omega) e2 e1 (by omega) (by omega)
    omega
  · have := dvd_gap (p := t - F.st - ofs F.te F.ga k) (q := t - F.st - ofs F.te F.ga i) (g := rn F) (by omega) e1 e2 (by omega) (by omega)
    omega
theorem AA_up {h : HM} {n l : Nat} {x met x2 : Int} (hA : AA h n l x x2) (h1 : met ≤ x2 ∧ (x2 - met) % h.L 73 (l + 1) = 0) : AA h n (l + 1) met x2 := ⟨h1.1, h1.2, fun j j0 j1 => hA.2.2 j (by omega) j1⟩
set_option maxRecDepth 100000 in
set_option maxHeartbeats 1000000 in
theorem s_X2_countOf {G : GX} {y : LY} {h : HM} {d : Nat} (hY : Lay y) {l x sp : Int} {n : Nat} (hS : FSt h n) (hl : 0 ≤ l ∧ l ≤ n) (hfr : 0 ≤ h.L 71 5 ∧ h.L 71 5 ≤ 1000000000000) (hx : 0 ≤ x ∧ x ≤ sp) (hsp : sp ≤ 1000000000000) (IH : ∀ (x2 : Int), (0 ≤ x2 ∧ x2 ≤ sp) → l < n → EvL G mX2_countOf (d + 2) [.ref 71, .int (iZ (l + 1)), .long (lZ x2), .long (lZ sp)] y h (cntN (AA h n (l.toNat + 1) x2) x2 (sp - x2 + 1).toNat)) : EvL G mX2_countOf (d + 3) [.ref 71, .int (iZ l), .long (lZ x), .long (lZ sp)] y h (cntN (AA h n l.toNat x) x (sp - x + 1).toNat) := by
  have hn6 := hS.2.1
  have hn4 := hS.1
  refine Ev.of rfl [some (.ref 71), some (.int (iZ l)), some (.long (lZ x)), none, some (.long (lZ sp)), none, none, none, none, none, none] rfl (Nat.le_of_ble_eq_true rfl) ?_
  have L32 : l < n → ∀ (m : Nat) (k : Int), m = (tms (h.I (76 + l.toNat) 3) (h.I (76 + l.toNat) 4) - k).toNat → 0 ≤ k ∧ k ≤ tms (h.I (76 + l.toNat) 3) (h.I (76 + l.toNat) 4) → Go G mX2_countOf (rmo (d + 3) 0 0) (ZM G y 0 0 (fun r h1 => r = some (.long (lZ (cntN (AA h n l.toNat x) x (sp - x + 1).toNat))) ∧ h1 = h)) y 32 [some (.ref 71), some (.int (iZ l)), some (.long (lZ x)), none, some (.long (lZ sp)), none, some (.long (lZ (cntN (fun x2 => AA h n l.toNat x x2 ∧ ∃ k2 : Int, (0 ≤ k2 ∧ k2 < k) ∧ (h.L 71 5 + x2 - tmo (h.I (76 + l.toNat) 0) (h.I (76 + l.toNat) 1) (h.I (76 + l.toNat) 3) (h.I (76 + l.toNat) 4) k2) % rnd (h.I (76 + l.toNat) 3) (h.I (76 + l.toNat) 0) = 0) x (sp - x + 1).toNat))), none, some (.int (iZ k)), none, none] [] h (0, 0) := by
    intro hln m
    induction m using Nat.strongRecOn with | _ m ih =>
    intro k hm hk
    have hLv := hS.2.2.2.2 l.toNat (by omega)
    obtain ⟨hF, hst, hco, hs2, hin⟩ := id hLv
    have htm := tms_bd (la := h.I (76 + l.toNat) 3) (ga := h.I (76 + l.toNat) 4) (by omega)
    have hp := p181 (n := l.toNat) (by omega)
    have hsame : (∀ x2 : Int, x ≤ x2 → x2 ≤ sp → AA h n l.toNat x x2 → ¬ (h.L 71 5 + x2 - tmo (h.I (76 + l.toNat) 0) (h.I (76 + l.toNat) 1) (h.I (76 + l.toNat) 3) (h.I (76 + l.toNat) 4) k) % rnd (h.I (76 + l.toNat) 3) (h.I (76 + l.toNat) 0) = 0) → cntN (fun x2 => AA h n l.toNat x x2 ∧ ∃ k2 : Int, (0 ≤ k2 ∧ k2 < (k + 1)) ∧ (h.L 71 5 + x2 - tmo (h.I (76 + l.toNat) 0) (h.I (76 + l.toNat) 1) (h.I (76 + l.toNat) 3) (h.I (76 + l.toNat) 4) k2) % rnd (h.I (76 + l.toNat) 3) (h.I (76 + l.toNat) 0) = 0) x (sp - x + 1).toNat = cntN (fun x2 => AA h n l.toNat x x2 ∧ ∃ k2 : Int, (0 ≤ k2 ∧ k2 < k) ∧ (h.L 71 5 + x2 - tmo (h.I (76 + l.toNat) 0) (h.I (76 + l.toNat) 1) (h.I (76 + l.toNat) 3) (h.I (76 + l.toNat) 4) k2) % rnd (h.I (76 + l.toNat) 3) (h.I (76 + l.toNat) 0) = 0) x (sp - x + 1).toNat := by
      intro hno
      refine cntN_congr (fun i hi => ⟨fun q => ?_, fun q => ?_⟩)
      · obtain ⟨q1, k2, q2, q3⟩ := q
        rcases (by omega : k2 < k ∨ k2 = k) with z | rfl
        · exact ⟨q1, k2, by omega, q3⟩
        · exact absurd q3 (hno _ (by omega) (by omega) q1)
      · obtain ⟨q1, k2, q2, q3⟩ := q
        exact ⟨q1, k2, by omega, q3⟩
    refine g_iload dX2_countOf_32 rfl (g_aload_n dX2_countOf_34 rfl rfl (gf_X2_11 (M := mX2_countOf) rfl dX2_countOf_35 (yo71 hY) (yr71_0 hY) (g_iload_n dX2_countOf_38 rfl rfl (g_aald dX2_countOf_39 (ya72 hY) (by decide) (D0 := "ClockTeeth$Figure") rfl ⟨by omega, by omega, by omega⟩ (fd_r hY (by omega)) (cv_X2_80 (M := mX2_countOf) rfl dX2_countOf_40 (fd_o hY (by omega)) (RO.same _ _ _) (Nat.le_of_ble_eq_true rfl) (e_X1_times (fd_o hY (by omega)) (by omega) (by omega)) <| kI ?_)))))
    refine g_icmp_ge 93 dX2_countOf_43 rfl (by omega) (by omega) (fun c43 => ?_) (fun c43 => ?_)
    · skip
      refine g_lload dX2_countOf_93 rfl ?_
      exact g_lret dX2_countOf_95 rfl rfl ⟨Nat.le_refl _, Nat.le_refl _⟩ (by exact ⟨someL (cntN_congr (fun i hi => ⟨fun q => q.1, fun q => ⟨q, (by have hO := q.2.2 l.toNat (by omega) (by omega); rw [out_tmo (F := c5 h (76 + l.toNat)) hF.1] at hO; obtain ⟨k2, q0, q1⟩ := hO; exact ⟨k2, ⟨q0.1, by have : k2 < tms (h.I (76 + l.toNat) 3) (h.I (76 + l.toNat) 4) := q0.2; omega⟩, q1⟩)⟩⟩)), rfl⟩)
    · skip
      refine g_aload_n dX2_countOf_46 rfl rfl (g_iload_n dX2_countOf_47 rfl rfl (g_lload_n dX2_countOf_48 rfl rfl (g_iload dX2_countOf_49 rfl ?_)))
      refine cv_X2_83 (M := mX2_countOf) rfl dX2_countOf_51 (yo71 hY) (RO.same _ _ _) (Nat.le_of_ble_eq_true rfl) (e_X2_meet hY hS (by omega) (by omega) hfr (by omega)) (kQL fun v51 hq51 => ?_)
      have hvb : v51 = -4 ∨ (x ≤ v51 ∧ v51 ≤ x + 181 * h.L 73 l.toNat) := hq51.elim (fun q => Or.inl q.1) (fun q => Or.inr q.1)
      refine g_lst9 dX2_countOf_54 (by decide) rfl (g_lload dX2_countOf_56 rfl (g_lconst (v := 0) dX2_countOf_58 rfl ?_))
      refine g_lcmp_lt 87 dX2_countOf_59 dX2_countOf_60 rfl (by omega) (by omega) (fun c59 => ?_) (fun c59 => ?_)
      · skip
        refine g_inc8 dX2_countOf_87 (by decide) rfl (g_goto 32 dX2_countOf_90 rfl (g_dr9 ?_))
        have hgo := ih _ (by omega) (k + 1) rfl (by omega)
        first
        | (rw [hsame (fun x2 x0 x1 hA q => by rcases hq51 with z | z; exact z.2 x2 hA.1 hA.2.1 q; (have := (z.2.2.2 x2 hA.1 hA.2.1 q).1; omega))] at hgo; exact hgo)
        | (rcases hq51 with z | z; omega; (have e1 : cntN (fun x2 => AA h n l.toNat x x2 ∧ ∃ k2 : Int, (0 ≤ k2 ∧ k2 < (k + 1)) ∧ (h.L 71 5 + x2 - tmo (h.I (76 + l.toNat) 0) (h.I (76 + l.toNat) 1) (h.I (76 + l.toNat) 3) (h.I (76 + l.toNat) 4) k2) % rnd (h.I (76 + l.toNat) 3) (h.I (76 + l.toNat) 0) = 0) x (sp - x + 1).toNat = cntN (fun x2 => AA h n l.toNat x x2 ∧ ∃ k2 : Int, (0 ≤ k2 ∧ k2 < k) ∧ (h.L 71 5 + x2 - tmo (h.I (76 + l.toNat) 0) (h.I (76 + l.toNat) 1) (h.I (76 + l.toNat) 3) (h.I (76 + l.toNat) 4) k2) % rnd (h.I (76 + l.toNat) 3) (h.I (76 + l.toNat) 0) = 0) x (sp - x + 1).toNat + cntN (AA h n (l.toNat + 1) v51) v51 (sp - v51 + 1).toNat := (by have e2 := cntN_or (P := (fun x2 => AA h n l.toNat x x2 ∧ ∃ k2 : Int, (0 ≤ k2 ∧ k2 < k) ∧ (h.L 71 5 + x2 - tmo (h.I (76 + l.toNat) 0) (h.I (76 + l.toNat) 1) (h.I (76 + l.toNat) 3) (h.I (76 + l.toNat) 4) k2) % rnd (h.I (76 + l.toNat) 3) (h.I (76 + l.toNat) 0) = 0)) (Q := AA h n (l.toNat + 1) v51) (lo := x) (n := (sp - x + 1).toNat) (fun i hi q => (by obtain ⟨⟨q1, k2, q2, q3⟩, q4⟩ := q; have q5 := AA_dn hLv (k := k) ⟨hk.1, by show k < tms (h.I (76 + l.toNat) 3) (h.I (76 + l.toNat) 4); omega⟩ z.1.1 z.2.1 z.2.2.1 q4; have q6 : (h.L 71 5 + (x + i) - tmo (h.I (76 + l.toNat) 0) (h.I (76 + l.toNat) 1) (h.I (76 + l.toNat) 3) (h.I (76 + l.toNat) 4) k) % rnd (h.I (76 + l.toNat) 3) (h.I (76 + l.toNat) 0) = 0 := (by have q7 := q4.2.1; rw [hs2, em0] at q7; have q8 := Int.dvd_add (Int.dvd_trans lcI_dvd.2 q7) (em0.mp z.2.2.1); rw [em0]; rw [show x + i - v51 + (h.L 71 5 + v51 - tmo (h.I (76 + l.toNat) 0) (h.I (76 + l.toNat) 1) (h.I (76 + l.toNat) 3) (h.I (76 + l.toNat) 4) k) = h.L 71 5 + (x + i) - tmo (h.I (76 + l.toNat) 0) (h.I (76 + l.toNat) 1) (h.I (76 + l.toNat) 3) (h.I (76 + l.toNat) 4) k by omega] at q8; exact q8); have := tmo_inj (F := c5 h (76 + l.toNat)) hF.1 (t := h.L 71 5 + (x + i)) (k := k2) (i := k) ⟨q2.1, by show k2 < tms (h.I (76 + l.toNat) 3) (h.I (76 + l.toNat) 4); omega⟩ ⟨hk.1, by show k < tms (h.I (76 + l.toNat) 3) (h.I (76 + l.toNat) 4); omega⟩ q3 q6; omega)); have e3 := cntN_off (P := AA h n (l.toNat + 1) v51) (lo := x) (k := (v51 - x).toNat) (fun i hi q => (by have := q.1; omega)) (sp - v51 + 1).toNat; rw [show (v51 - x).toNat + (sp - v51 + 1).toNat = (sp - x + 1).toNat by omega, show x + ((v51 - x).toNat : Nat) = v51 by omega] at e3; rw [← e3, ← e2]; refine cntN_congr (fun i hi => ⟨fun q => ?_, fun q => ?_⟩); (obtain ⟨q1, k2, q2, q3⟩ := q; rcases (by omega : k2 < k ∨ k2 = k) with w | rfl; exact Or.inl ⟨q1, k2, by omega, q3⟩; exact Or.inr (AA_up q1 (z.2.2.2 _ q1.1 q1.2.1 q3))); (rcases q with ⟨q1, k2, q2, q3⟩ | q; exact ⟨q1, k2, by omega, q3⟩; (refine ⟨AA_dn hLv (k := k) ⟨hk.1, by show k < tms (h.I (76 + l.toNat) 3) (h.I (76 + l.toNat) 4); omega⟩ z.1.1 z.2.1 z.2.2.1 q, k, by omega, ?_⟩; have q7 := q.2.1; rw [hs2, em0] at q7; have q8 := Int.dvd_add (Int.dvd_trans lcI_dvd.2 q7) (em0.mp z.2.2.1); rw [em0]; rw [show x + i - v51 + (h.L 71 5 + v51 - tmo (h.I (76 + l.toNat) 0) (h.I (76 + l.toNat) 1) (h.I (76 + l.toNat) 3) (h.I (76 + l.toNat) 4) k) = h.L 71 5 + (x + i) - tmo (h.I (76 + l.toNat) 0) (h.I (76 + l.toNat) 1) (h.I (76 + l.toNat) 3) (h.I (76 + l.toNat) 4) k by omega] at q8; exact q8))); rw [e1] at hgo; exact hgo))
      · skip
        refine g_lload dX2_countOf_63 rfl (g_lload dX2_countOf_65 rfl ?_)
        refine g_lcmp_gt 87 dX2_countOf_67 dX2_countOf_68 rfl (by omega) (by omega) (fun c67 => ?_) (fun c67 => ?_)
        · skip
          refine g_inc8 dX2_countOf_87 (by decide) rfl (g_goto 32 dX2_countOf_90 rfl (g_dr9 ?_))
          have hgo := ih _ (by omega) (k + 1) rfl (by omega)
          first
          | (rw [hsame (fun x2 x0 x1 hA q => by rcases hq51 with z | z; exact z.2 x2 hA.1 hA.2.1 q; (have := (z.2.2.2 x2 hA.1 hA.2.1 q).1; omega))] at hgo; exact hgo)
          | (rcases hq51 with z | z; omega; (have e1 : cntN (fun x2 => AA h n l.toNat x x2 ∧ ∃ k2 : Int, (0 ≤ k2 ∧ k2 < (k + 1)) ∧ (h.L 71 5 + x2 - tmo (h.I (76 + l.toNat) 0) (h.I (76 + l.toNat) 1) (h.I (76 + l.toNat) 3) (h.I (76 + l.toNat) 4) k2) % rnd (h.I (76 + l.toNat) 3) (h.I (76 + l.toNat) 0) = 0) x (sp - x + 1).toNat = cntN (fun x2 => AA h n l.toNat x x2 ∧ ∃ k2 : Int, (0 ≤ k2 ∧ k2 < k) ∧ (h.L 71 5 + x2 - tmo (h.I (76 + l.toNat) 0) (h.I (76 + l.toNat) 1) (h.I (76 + l.toNat) 3) (h.I (76 + l.toNat) 4) k2) % rnd (h.I (76 + l.toNat) 3) (h.I (76 + l.toNat) 0) = 0) x (sp - x + 1).toNat + cntN (AA h n (l.toNat + 1) v51) v51 (sp - v51 + 1).toNat := (by have e2 := cntN_or (P := (fun x2 => AA h n l.toNat x x2 ∧ ∃ k2 : Int, (0 ≤ k2 ∧ k2 < k) ∧ (h.L 71 5 + x2 - tmo (h.I (76 + l.toNat) 0) (h.I (76 + l.toNat) 1) (h.I (76 + l.toNat) 3) (h.I (76 + l.toNat) 4) k2) % rnd (h.I (76 + l.toNat) 3) (h.I (76 + l.toNat) 0) = 0)) (Q := AA h n (l.toNat + 1) v51) (lo := x) (n := (sp - x + 1).toNat) (fun i hi q => (by obtain ⟨⟨q1, k2, q2, q3⟩, q4⟩ := q; have q5 := AA_dn hLv (k := k) ⟨hk.1, by show k < tms (h.I (76 + l.toNat) 3) (h.I (76 + l.toNat) 4); omega⟩ z.1.1 z.2.1 z.2.2.1 q4; have q6 : (h.L 71 5 + (x + i) - tmo (h.I (76 + l.toNat) 0) (h.I (76 + l.toNat) 1) (h.I (76 + l.toNat) 3) (h.I (76 + l.toNat) 4) k) % rnd (h.I (76 + l.toNat) 3) (h.I (76 + l.toNat) 0) = 0 := (by have q7 := q4.2.1; rw [hs2, em0] at q7; have q8 := Int.dvd_add (Int.dvd_trans lcI_dvd.2 q7) (em0.mp z.2.2.1); rw [em0]; rw [show x + i - v51 + (h.L 71 5 + v51 - tmo (h.I (76 + l.toNat) 0) (h.I (76 + l.toNat) 1) (h.I (76 + l.toNat) 3) (h.I (76 + l.toNat) 4) k) = h.L 71 5 + (x + i) - tmo (h.I (76 + l.toNat) 0) (h.I (76 + l.toNat) 1) (h.I (76 + l.toNat) 3) (h.I (76 + l.toNat) 4) k by omega] at q8; exact q8); have := tmo_inj (F := c5 h (76 + l.toNat)) hF.1 (t := h.L 71 5 + (x + i)) (k := k2) (i := k) ⟨q2.1, by show k2 < tms (h.I (76 + l.toNat) 3) (h.I (76 + l.toNat) 4); omega⟩ ⟨hk.1, by show k < tms (h.I (76 + l.toNat) 3) (h.I (76 + l.toNat) 4); omega⟩ q3 q6; omega)); have e3 := cntN_off (P := AA h n (l.toNat + 1) v51) (lo := x) (k := (v51 - x).toNat) (fun i hi q => (by have := q.1; omega)) (sp - v51 + 1).toNat; rw [show (v51 - x).toNat + (sp - v51 + 1).toNat = (sp - x + 1).toNat by omega, show x + ((v51 - x).toNat : Nat) = v51 by omega] at e3; rw [← e3, ← e2]; refine cntN_congr (fun i hi => ⟨fun q => ?_, fun q => ?_⟩); (obtain ⟨q1, k2, q2, q3⟩ := q; rcases (by omega : k2 < k ∨ k2 = k) with w | rfl; exact Or.inl ⟨q1, k2, by omega, q3⟩; exact Or.inr (AA_up q1 (z.2.2.2 _ q1.1 q1.2.1 q3))); (rcases q with ⟨q1, k2, q2, q3⟩ | q; exact ⟨q1, k2, by omega, q3⟩; (refine ⟨AA_dn hLv (k := k) ⟨hk.1, by show k < tms (h.I (76 + l.toNat) 3) (h.I (76 + l.toNat) 4); omega⟩ z.1.1 z.2.1 z.2.2.1 q, k, by omega, ?_⟩; have q7 := q.2.1; rw [hs2, em0] at q7; have q8 := Int.dvd_add (Int.dvd_trans lcI_dvd.2 q7) (em0.mp z.2.2.1); rw [em0]; rw [show x + i - v51 + (h.L 71 5 + v51 - tmo (h.I (76 + l.toNat) 0) (h.I (76 + l.toNat) 1) (h.I (76 + l.toNat) 3) (h.I (76 + l.toNat) 4) k) = h.L 71 5 + (x + i) - tmo (h.I (76 + l.toNat) 0) (h.I (76 + l.toNat) 1) (h.I (76 + l.toNat) 3) (h.I (76 + l.toNat) 4) k by omega] at q8; exact q8))); rw [e1] at hgo; exact hgo))
        · skip
          refine g_lload dX2_countOf_71 rfl (g_aload_n dX2_countOf_73 rfl rfl (g_iload_n dX2_countOf_74 rfl rfl (g_iconst dX2_countOf_75 (g_iadd dX2_countOf_76 (g_lload dX2_countOf_77 rfl (g_lload dX2_countOf_79 rfl (cv_X2_51 (M := mX2_countOf) rfl dX2_countOf_81 (RO.same _ _ _) (Nat.le_of_ble_eq_true rfl) (IH v51 (by omega) hln) <| kL (g_ladd dX2_countOf_84 (g_lst6 dX2_countOf_85 (by decide) rfl (g_inc8 dX2_countOf_87 (by decide) rfl (g_goto 32 dX2_countOf_90 rfl ?_)))))))))))
          refine g_dr9 ?_
          have hgo := ih _ (by omega) (k + 1) rfl (by omega)
          first
          | (rw [hsame (fun x2 x0 x1 hA q => by rcases hq51 with z | z; exact z.2 x2 hA.1 hA.2.1 q; (have := (z.2.2.2 x2 hA.1 hA.2.1 q).1; omega))] at hgo; exact hgo)
          | (rcases hq51 with z | z; omega; (have e1 : cntN (fun x2 => AA h n l.toNat x x2 ∧ ∃ k2 : Int, (0 ≤ k2 ∧ k2 < (k + 1)) ∧ (h.L 71 5 + x2 - tmo (h.I (76 + l.toNat) 0) (h.I (76 + l.toNat) 1) (h.I (76 + l.toNat) 3) (h.I (76 + l.toNat) 4) k2) % rnd (h.I (76 + l.toNat) 3) (h.I (76 + l.toNat) 0) = 0) x (sp - x + 1).toNat = cntN (fun x2 => AA h n l.toNat x x2 ∧ ∃ k2 : Int, (0 ≤ k2 ∧ k2 < k) ∧ (h.L 71 5 + x2 - tmo (h.I (76 + l.toNat) 0) (h.I (76 + l.toNat) 1) (h.I (76 + l.toNat) 3) (h.I (76 + l.toNat) 4) k2) % rnd (h.I (76 + l.toNat) 3) (h.I (76 + l.toNat) 0) = 0) x (sp - x + 1).toNat + cntN (AA h n (l.toNat + 1) v51) v51 (sp - v51 + 1).toNat := (by have e2 := cntN_or (P := (fun x2 => AA h n l.toNat x x2 ∧ ∃ k2 : Int, (0 ≤ k2 ∧ k2 < k) ∧ (h.L 71 5 + x2 - tmo (h.I (76 + l.toNat) 0) (h.I (76 + l.toNat) 1) (h.I (76 + l.toNat) 3) (h.I (76 + l.toNat) 4) k2) % rnd (h.I (76 + l.toNat) 3) (h.I (76 + l.toNat) 0) = 0)) (Q := AA h n (l.toNat + 1) v51) (lo := x) (n := (sp - x + 1).toNat) (fun i hi q => (by obtain ⟨⟨q1, k2, q2, q3⟩, q4⟩ := q; have q5 := AA_dn hLv (k := k) ⟨hk.1, by show k < tms (h.I (76 + l.toNat) 3) (h.I (76 + l.toNat) 4); omega⟩ z.1.1 z.2.1 z.2.2.1 q4; have q6 : (h.L 71 5 + (x + i) - tmo (h.I (76 + l.toNat) 0) (h.I (76 + l.toNat) 1) (h.I (76 + l.toNat) 3) (h.I (76 + l.toNat) 4) k) % rnd (h.I (76 + l.toNat) 3) (h.I (76 + l.toNat) 0) = 0 := (by have q7 := q4.2.1; rw [hs2, em0] at q7; have q8 := Int.dvd_add (Int.dvd_trans lcI_dvd.2 q7) (em0.mp z.2.2.1); rw [em0]; rw [show x + i - v51 + (h.L 71 5 + v51 - tmo (h.I (76 + l.toNat) 0) (h.I (76 + l.toNat) 1) (h.I (76 + l.toNat) 3) (h.I (76 + l.toNat) 4) k) = h.L 71 5 + (x + i) - tmo (h.I (76 + l.toNat) 0) (h.I (76 + l.toNat) 1) (h.I (76 + l.toNat) 3) (h.I (76 + l.toNat) 4) k by omega] at q8; exact q8); have := tmo_inj (F := c5 h (76 + l.toNat)) hF.1 (t := h.L 71 5 + (x + i)) (k := k2) (i := k) ⟨q2.1, by show k2 < tms (h.I (76 + l.toNat) 3) (h.I (76 + l.toNat) 4); omega⟩ ⟨hk.1, by show k < tms (h.I (76 + l.toNat) 3) (h.I (76 + l.toNat) 4); omega⟩ q3 q6; omega)); have e3 := cntN_off (P := AA h n (l.toNat + 1) v51) (lo := x) (k := (v51 - x).toNat) (fun i hi q => (by have := q.1; omega)) (sp - v51 + 1).toNat; rw [show (v51 - x).toNat + (sp - v51 + 1).toNat = (sp - x + 1).toNat by omega, show x + ((v51 - x).toNat : Nat) = v51 by omega] at e3; rw [← e3, ← e2]; refine cntN_congr (fun i hi => ⟨fun q => ?_, fun q => ?_⟩); (obtain ⟨q1, k2, q2, q3⟩ := q; rcases (by omega : k2 < k ∨ k2 = k) with w | rfl; exact Or.inl ⟨q1, k2, by omega, q3⟩; exact Or.inr (AA_up q1 (z.2.2.2 _ q1.1 q1.2.1 q3))); (rcases q with ⟨q1, k2, q2, q3⟩ | q; exact ⟨q1, k2, by omega, q3⟩; (refine ⟨AA_dn hLv (k := k) ⟨hk.1, by show k < tms (h.I (76 + l.toNat) 3) (h.I (76 + l.toNat) 4); omega⟩ z.1.1 z.2.1 z.2.2.1 q, k, by omega, ?_⟩; have q7 := q.2.1; rw [hs2, em0] at q7; have q8 := Int.dvd_add (Int.dvd_trans lcI_dvd.2 q7) (em0.mp z.2.2.1); rw [em0]; rw [show x + i - v51 + (h.L 71 5 + v51 - tmo (h.I (76 + l.toNat) 0) (h.I (76 + l.toNat) 1) (h.I (76 + l.toNat) 3) (h.I (76 + l.toNat) 4) k) = h.L 71 5 + (x + i) - tmo (h.I (76 + l.toNat) 0) (h.I (76 + l.toNat) 1) (h.I (76 + l.toNat) 3) (h.I (76 + l.toNat) 4) k by omega] at q8; exact q8))); rw [e1] at hgo; exact hgo))
  refine g_iload_n dX2_countOf_0 rfl rfl (g_aload_n dX2_countOf_1 rfl rfl (gf_X2_27 (M := mX2_countOf) rfl dX2_countOf_2 (yo71 hY) ?_))
  refine g_icmp_lt 26 dX2_countOf_5 rfl (by omega) (by omega) (fun c5 => ?_) (fun c5 => ?_)
  · skip
    refine g_lconst (v := 0) dX2_countOf_26 rfl (g_lst6 dX2_countOf_27 (by decide) rfl (g_iconst dX2_countOf_29 (g_ist8 dX2_countOf_30 (by decide) rfl ?_)))
    have hgo := L32 (by omega) _ 0 rfl (by obtain ⟨hF, -⟩ := hS.2.2.2.2 l.toNat (by omega); have htm := tms_bd (la := h.I (76 + l.toNat) 3) (ga := h.I (76 + l.toNat) 4) (by omega); omega)
    have e0 : cntN (fun x2 => AA h n l.toNat x x2 ∧ ∃ k2 : Int, (0 ≤ k2 ∧ k2 < 0) ∧ (h.L 71 5 + x2 - tmo (h.I (76 + l.toNat) 0) (h.I (76 + l.toNat) 1) (h.I (76 + l.toNat) 3) (h.I (76 + l.toNat) 4) k2) % rnd (h.I (76 + l.toNat) 3) (h.I (76 + l.toNat) 0) = 0) x (sp - x + 1).toNat = 0 := cntN_no (fun i hi q => by obtain ⟨q1, k2, q2, q3⟩ := q; omega)
    rw [e0] at hgo
    exact hgo
  · skip
    have hst := hS.2.2.2.1
    have eln : l.toNat = n := by omega
    rw [← eln] at hst
    have hp := p181 (n := l.toNat) (by omega)
    refine g_lload dX2_countOf_8 rfl (g_lload_n dX2_countOf_10 rfl rfl (g_lsub dX2_countOf_11 (g_aload_n dX2_countOf_12 rfl rfl (gf_X2_17 (M := mX2_countOf) rfl dX2_countOf_13 (yo71 hY) (yr71_1 hY) (g_iload_n dX2_countOf_16 rfl rfl (g_lald dX2_countOf_17 (ya73 hY) ⟨by omega, by omega, by omega⟩ (g_lconst (v := 1) dX2_countOf_18 rfl (gm_X2_87 (M := mX2_countOf) rfl dX2_countOf_19 (RM.same _ _ _) (Nat.le_of_ble_eq_true rfl) (by omega) (by omega) (g_ldivP dX2_countOf_22 (by omega) (by omega) (g_lconst (v := 1) dX2_countOf_23 rfl (g_ladd dX2_countOf_24 ?_)))))))))))
    exact g_lret dX2_countOf_25 rfl rfl ⟨Nat.le_refl _, Nat.le_refl _⟩ (by refine ⟨someL ?_, rfl⟩; rw [show max (h.L 73 l.toNat) 1 = h.L 73 l.toNat by omega, show (sp - x + 1).toNat = (sp - x).toNat + 1 by omega]; have e := cntN_ap x (s := h.L 73 l.toNat) (by omega) (sp - x).toNat; rw [show (((sp - x).toNat : Nat) : Int) = sp - x by omega] at e; rw [← e]; exact cntN_congr (fun i hi => ⟨fun q => ⟨q.1, q.2, fun j j0 j1 => absurd j1 (by omega)⟩, fun q => ⟨q.1, q.2.1⟩⟩))
theorem e_X2_countOf {G : GX} {y : LY} {n : Nat} {h : HM} (hY : Lay y) (hS : FSt h n) (hfr : 0 ≤ h.L 71 5 ∧ h.L 71 5 ≤ 1000000000000) {sp : Int} (hsp : sp ≤ 1000000000000) : ∀ (j d : Nat) (l x : Int), (0 ≤ l ∧ l + j = n) → (0 ≤ x ∧ x ≤ sp) → EvL G mX2_countOf (d + 3 + j) [.ref 71, .int (iZ l), .long (lZ x), .long (lZ sp)] y h (cntN (AA h n l.toNat x) x (sp - x + 1).toNat) := by
  intro j
  induction j with
  | zero =>
    intro d l x hl hx
    exact s_X2_countOf (d := d) hY hS (by omega) hfr hx hsp (fun x2 _ q => absurd q (by omega))
  | succ j ih =>
    intro d l x hl hx
    have e : d + 3 + (j + 1) = (d + j + 1) + 3 := by omega
    rw [e]
    refine s_X2_countOf (d := d + j + 1) hY hS (by omega) hfr hx hsp (fun x2 q1 _ => ?_)
    have := ih d (l + 1) x2 (by omega) q1
    rw [show (l + 1).toNat = l.toNat + 1 by omega, show d + 3 + j = d + j + 1 + 2 by omega] at this
    exact this
set_option maxRecDepth 100000 in
set_option maxHeartbeats 1000000 in
theorem e_X2_howOften {G : GX} {y : LY} {h : HM} {d : Nat} (hY : Lay y) {s t u : Int} (hC : CF h 12) (hs : 0 ≤ s ∧ s < 2 ^ (h.I 12 3).toNat) (ht : 0 ≤ t ∧ t ≤ u) (hu : u ≤ 1000000000000) : EvQW G mX2_howOften (d + 10) [.ref 71, .ref 13, .int (iZ s), .long (lZ t), .long (lZ u)] y h (fun v h1 => FrF h h1 ∧ v = cntN (AllOut (cFs h 12) s) t (u - t + 1).toNat) := by
  refine Ev.of rfl [some (.ref 71), some (.ref 13), some (.int (iZ s)), some (.long (lZ t)), none, some (.long (lZ u)), none] rfl (Nat.le_of_ble_eq_true rfl) ?_
  refine g_aload_n dX2_howOften_0 rfl rfl (g_aload_n dX2_howOften_1 rfl rfl (g_iload_n dX2_howOften_2 rfl rfl ?_))
  refine cv_X2_39 (M := mX2_howOften) rfl dX2_howOften_3 (yo71 hY) (RO.same _ _ _) (Nat.le_of_ble_eq_true rfl) (e_X2_choose hY hC hs) (kQV fun h3 hq3 => ?_)
  obtain ⟨n, hFr, hSt, hn6, hlc, hout⟩ := hq3
  have hse := e_X2_countOf (G := G) (h := h3.sL 71 5 t) hY (FSt_71 5 _ hSt) (by simp [sL_L]; omega) (sp := u - t) (by omega) n (d + (6 - n)) 0 0 (by omega) (by omega)
  rw [show d + (6 - n) + 3 + n = d + 9 by omega] at hse
  refine g_aload_n dX2_howOften_6 rfl rfl (g_lload_n dX2_howOften_7 rfl rfl (pf_X2_31 (M := mX2_howOften) rfl dX2_howOften_8 (yo71 hY) (g_aload_n dX2_howOften_11 rfl rfl (g_iconst dX2_howOften_12 (g_lconst (v := 0) dX2_howOften_13 rfl (g_lload dX2_howOften_14 rfl (g_lload_n dX2_howOften_16 rfl rfl (g_lsub dX2_howOften_17 (cv_X2_51 (M := mX2_howOften) rfl dX2_howOften_18 (RO.same _ _ _) (Nat.le_of_ble_eq_true rfl) (hse) <| kL ?_)))))))))
  exact g_lret dX2_howOften_21 rfl rfl ⟨Nat.le_refl _, Nat.le_refl _⟩ (by refine ⟨_, rfl, FrF_71 5 t hFr, ?_⟩; have e5 : (h3.sL 71 5 t).L 71 5 = t := (by simp [sL_L]); have e73 : (h3.sL 71 5 t).L 73 0 = 1 := (by simp [sL_L]; exact hSt.2.2.1); rw [show u - t - 0 + 1 = u - t + 1 by omega]; have e := cntN_add (P := AllOut (cFs h 12) s) t 0 (u - t + 1).toNat; rw [Int.add_zero] at e; rw [← e]; refine cntN_congr (fun i hi => ?_); unfold AA; rw [e5, show (0 : Int).toNat = 0 from rfl, e73, Int.emod_one]; constructor; (rintro ⟨a1, -, a3⟩; exact (hout _).mp (fun l hl => a3 l (by omega) hl)); (intro a2; exact ⟨by omega, rfl, fun l _ hl => (hout _).mpr a2 l hl⟩))
