theorem out_tmo {F : Fg} (hF : FgW F) (t : Int) : OutF F t ↔ ∃ k : Int, (0 ≤ k ∧ k < tms F.la F.ga) ∧ (t - tmo F.te F.st F.la F.ga k) % rn F = 0 := by
  have hr := rn_bd hF
  have key : ∀ x : Int, (t - (F.st + x) % rn F) % rn F = (t - F.st - x) % rn F := by
    intro x
    rw [Int.sub_emod, Int.emod_emod_of_dvd _ (Int.dvd_refl _), ← Int.sub_emod]
    congr 1; omega
  have hb := em_bd (t - F.st) (d := rn F) (by omega)
  have hd := Int.emod_add_mul_ediv ((t - F.st) % rn F) F.te
  have hb2 := em_bd ((t - F.st) % rn F) (d := F.te) (by omega)
  constructor
  · rintro ⟨h1, h2⟩
    have h1' : (t - F.st) % rn F < max F.la 1 * F.te := h1
    have h2' : (t - F.st) % rn F % F.te = 0 ∨ (0 < F.ga ∧ (t - F.st) % rn F % F.te = F.ga) := h2
    have hi0 : 0 ≤ (t - F.st) % rn F / F.te := Int.ediv_nonneg hb.1 (by omega)
    have hi1 : (t - F.st) % rn F / F.te < max F.la 1 := Int.ediv_lt_of_lt_mul (by omega) h1'
    have ho : Off F ((t - F.st) % rn F) := by
      refine ⟨_, hi0, hi1, ?_⟩
      rw [Int.mul_comm]
      rcases h2' with z | z
      · exact Or.inl (by omega)
      · exact Or.inr ⟨z.1, by omega⟩
    obtain ⟨k, k0, k1, e⟩ := of_off ho
    refine ⟨k, ⟨k0, k1⟩, ?_⟩
    show (t - (F.st + ofs F.te F.ga k) % rn F) % rn F = 0
    rw [key, ← e, Int.sub_emod, Int.emod_emod_of_dvd _ (Int.dvd_refl _), Int.sub_self]
    rfl
  · rintro ⟨k, hk, e⟩
    have e' : (t - (F.st + ofs F.te F.ga k) % rn F) % rn F = 0 := e
    have ho := off_of k hk
    have hob := off_bd hF ho
    obtain ⟨i, i0, i1, i2⟩ := ho
    generalize ofs F.te F.ga k = x at *
    rw [key] at e'
    have e2 : (t - F.st) % rn F = x := by
      have z := Int.emod_emod_of_dvd (t - F.st) (Int.dvd_refl (rn F))
      rw [em0] at e'
      obtain ⟨w, hw⟩ := e'
      rw [show t - F.st = x + rn F * w by omega, Int.add_mul_emod_self_left]
      exact Int.emod_eq_of_lt hob.1 (by omega)
    have e3 : x % F.te = 0 ∨ (0 < F.ga ∧ x % F.te = F.ga) := by
      rcases i2 with z | ⟨z0, z⟩
      · left; rw [z, em0]; exact Int.dvd_mul_left _ _
      · right; refine ⟨z0, ?_⟩
        rw [z, Int.add_comm, Int.mul_comm, Int.add_mul_emod_self_left]
        exact Int.emod_eq_of_lt (by omega) (by omega)
    have g1 : (t - F.st) % rnd F.la F.te = x := e2
    refine ⟨by rw [g1]; exact hob.2, ?_⟩
    rw [g1]; exact e3
theorem lcI_dvd {s r : Int} : s ∣ lcI s r ∧ r ∣ lcI s r := by
  unfold lcI
  refine ⟨Int.dvd_mul_right _ _, ?_⟩
  obtain ⟨s1, hs1⟩ : (Int.gcd s r : Int) ∣ s := Int.gcd_dvd_left _ _
  obtain ⟨m, hm⟩ : (Int.gcd s r : Int) ∣ r := Int.gcd_dvd_right _ _
  by_cases hg : (Int.gcd s r : Int) = 0
  · rw [hg] at hs1; rw [hs1]; simp
  · have e : r / (Int.gcd s r : Int) = m := Int.ediv_eq_of_eq_mul_right hg hm
    rw [e]
    generalize (Int.gcd s r : Int) = g at *
    refine ⟨s1, ?_⟩
    rw [hs1, hm, Int.mul_assoc, Int.mul_comm s1 m, Int.mul_assoc]
/-- the days from x on, by steps, on which the levels from l on come out -/
def AA (h : HM) (n : Nat) (l : Nat) (x x2 : Int) : Prop := x ≤ x2 ∧ (x2 - x) % h.L 73 l = 0 ∧ ∀ j : Nat, l ≤ j → j < n → OutF (c5 h (76 + j)) (h.L 71 5 + x2)
def SrP (h : HM) (n l : Nat) (x b : Int) : Prop := b ≤ h.L 71 6 ∧ (b = h.L 71 6 ∨ AA h n l x b) ∧ ∀ x2, AA h n l x x2 → b ≤ x2
theorem sL_sL (h : HM) (a k : Nat) (v w : Int) : (h.sL a k v).sL a k w = h.sL a k w := by
  unfold HM.sL up2
  ext1
  · rfl
  · funext x j; by_cases e : x = a ∧ j = k <;> simp [e]
theorem sL_self (h : HM) (a k : Nat) : h.sL a k (h.L a k) = h := by
  unfold HM.sL up2 HM.L
  ext1
  · rfl
  · funext x j; by_cases e : x = a ∧ j = k
    · simp [e]
    · simp [e]
theorem L73b (h : HM) (b : Int) (a j : Nat) (hq : ¬ (a = 71 ∧ j = 6)) : (h.sL 71 6 b).L a j = h.L a j := by rw [sL_L, if_neg hq]
theorem FSt_b {h : HM} {n : Nat} (b : Int) (hS : FSt h n) : FSt (h.sL 71 6 b) n := by
  obtain ⟨q1, q2, q3, q4, q5⟩ := hS
  have e : ∀ j, (h.sL 71 6 b).L 73 j = h.L 73 j := fun j => L73b h b 73 j (by omega)
  exact ⟨q1, q2, by rw [e]; exact q3, by rw [e]; exact q4, fun l hl => Lvl_eq (fun _ => rfl) (e l) (e (l + 1)) (L73b h b 74 l (by omega)) (L73b h b 75 l (by omega)) (q5 l hl)⟩
theorem AA_b {h : HM} {n l : Nat} {b x x2 : Int} : AA (h.sL 71 6 b) n l x x2 ↔ AA h n l x x2 := by
  unfold AA
  rw [L73b h b 73 l (by omega), L73b h b 71 5 (by omega)]
  rfl
theorem AA_dn {h : HM} {n l : Nat} {x met x2 k : Int} (hL : Lvl h l) (hk : 0 ≤ k ∧ k < tms (c5 h (76 + l)).la (c5 h (76 + l)).ga) (h1 : x ≤ met) (h2 : (met - x) % h.L 73 l = 0) (h3 : (h.L 71 5 + met - tmo (c5 h (76 + l)).te (c5 h (76 + l)).st (c5 h (76 + l)).la (c5 h (76 + l)).ga k) % rn (c5 h (76 + l)) = 0) (hA : AA h n (l + 1) met x2) : AA h n l x x2 := by
  obtain ⟨a1, a2, a3⟩ := hA
  have hd := lcI_dvd (s := h.L 73 l) (r := rn (c5 h (76 + l)))
  rw [hL.2.2.2.1, em0] at a2
  refine ⟨by omega, ?_, fun j j0 j1 => ?_⟩
  · rw [em0] at h2 ⊢
    have := Int.dvd_add (Int.dvd_trans hd.1 a2) h2
    rwa [show x2 - met + (met - x) = x2 - x by omega] at this
  · rcases (by omega : l + 1 ≤ j ∨ j = l) with z | rfl
    · exact a3 j z j1
    · rw [out_tmo (F := c5 h (76 + j)) hL.1.1]
      refine ⟨k, hk, ?_⟩
      rw [em0] at h3 ⊢
      have := Int.dvd_add (Int.dvd_trans hd.2 a2) h3
      rw [show x2 - met + (h.L 71 5 + met - tmo (c5 h (76 + j)).te (c5 h (76 + j)).st (c5 h (76 + j)).la (c5 h (76 + j)).ga k) = h.L 71 5 + x2 - tmo (c5 h (76 + j)).te (c5 h (76 + j)).st (c5 h (76 + j)).la (c5 h (76 + j)).ga k by omega] at this
      exact this
set_option maxRecDepth 100000 in
set_option maxHeartbeats 4000000 in
theorem s_X2_search {G : GX} {y : LY} {h : HM} {d : Nat} (hY : Lay y) {l x : Int} {n : Nat} (hS : FSt h n) (hl : 0 ≤ l ∧ l ≤ n) (hfr : 0 ≤ h.L 71 5 ∧ h.L 71 5 ≤ 1000000000000) (hx : 0 ≤ x ∧ x < h.L 71 6) (hbe : h.L 71 6 ≤ 1000000000001) (IH : ∀ (h2 : HM) (x2 : Int), FSt h2 n → (0 ≤ h2.L 71 5 ∧ h2.L 71 5 ≤ 1000000000000) → (0 ≤ x2 ∧ x2 < h2.L 71 6) → h2.L 71 6 ≤ 1000000000001 → l < n → EvQV G mX2_search (d + 2) [.ref 71, .int (iZ (l + 1)), .long (lZ x2)] y h2 (fun h1 => ∃ b : Int, h1 = h2.sL 71 6 b ∧ SrP h2 n (l.toNat + 1) x2 b)) : EvQV G mX2_search (d + 3) [.ref 71, .int (iZ l), .long (lZ x)] y h (fun h1 => ∃ b : Int, h1 = h.sL 71 6 b ∧ SrP h n l.toNat x b) := by
  have hn6 := hS.2.1
  have hn4 := hS.1
  refine Ev.of rfl [some (.ref 71), some (.int (iZ l)), some (.long (lZ x)), none, none, none, none] rfl (Nat.le_of_ble_eq_true rfl) ?_
  have L17 : l < n → ∀ (m : Nat) (k b : Int), m = (tms (h.I (76 + l.toNat) 3) (h.I (76 + l.toNat) 4) - k).toNat → 0 ≤ k ∧ k ≤ tms (h.I (76 + l.toNat) 3) (h.I (76 + l.toNat) 4) → (b ≤ h.L 71 6 ∧ (b = h.L 71 6 ∨ AA h n l.toNat x b) ∧ ∀ x2, AA h n l.toNat x x2 → (∃ k2 : Int, (0 ≤ k2 ∧ k2 < k) ∧ (h.L 71 5 + x2 - tmo (h.I (76 + l.toNat) 0) (h.I (76 + l.toNat) 1) (h.I (76 + l.toNat) 3) (h.I (76 + l.toNat) 4) k2) % rnd (h.I (76 + l.toNat) 3) (h.I (76 + l.toNat) 0) = 0) → b ≤ x2) → Go G mX2_search (rmo (d + 3) 0 0) (ZM G y 0 0 (fun r h1 => r = none ∧ (fun h1 => ∃ b : Int, h1 = h.sL 71 6 b ∧ SrP h n l.toNat x b) h1)) y 17 [some (.ref 71), some (.int (iZ l)), some (.long (lZ x)), none, some (.int (iZ k)), none, none] [] (h.sL 71 6 b) (0, 0) := by
    intro hln m
    induction m using Nat.strongRecOn with | _ m ih =>
    intro k b hm hk hI
    obtain ⟨hF, hst, hco, hs2, hin⟩ := id (hS.2.2.2.2 l.toNat (by omega))
    have htm := tms_bd (la := h.I (76 + l.toNat) 3) (ga := h.I (76 + l.toNat) 4) (by omega)
    have hp := p181 (n := l.toNat) (by omega)
    have hSb := FSt_b b hS
    have hb0 : 0 ≤ b := hI.2.1.elim (fun e => by omega) (fun q => by have := q.1; omega)
    have e5 : (h.sL 71 6 b).L 71 5 = h.L 71 5 := L73b h b 71 5 (by omega)
    have e6 : (h.sL 71 6 b).L 71 6 = b := by simp [sL_L]
    have e73 : ∀ j, (h.sL 71 6 b).L 73 j = h.L 73 j := fun j => L73b h b 73 j (by omega)
    refine g_iload dX2_search_17 rfl (g_aload_n dX2_search_19 rfl rfl (gf_X2_11 (M := mX2_search) rfl dX2_search_20 (yo71 hY) (yr71_0 hY) (g_iload_n dX2_search_23 rfl rfl (g_aald dX2_search_24 (ya72 hY) (by decide) (D0 := "ClockTeeth$Figure") rfl ⟨by omega, by omega, by omega⟩ (fd_r hY (by omega)) (cv_X2_80 (M := mX2_search) rfl dX2_search_25 (fd_o hY (by omega)) (RO.same _ _ _) (Nat.le_of_ble_eq_true rfl) (e_X1_times (fd_o hY (by omega)) (by show R32 (h.I (76 + l.toNat) 3); omega) (by show R32 (h.I (76 + l.toNat) 4); omega)) <| kI ?_)))))
    simp only [sL_I]
    refine g_icmp_ge 73 dX2_search_28 rfl (by omega) (by omega) (fun c28 => ?_) (fun c28 => ?_)
    · skip
      exact g_vret dX2_search_73 rfl rfl ⟨Nat.le_refl _, Nat.le_refl _⟩ (by refine ⟨rfl, b, rfl, hI.1, hI.2.1, fun x2 hA => hI.2.2 x2 hA ?_⟩; have hO := hA.2.2 l.toNat (by omega) (by omega); rw [out_tmo (F := c5 h (76 + l.toNat)) hF.1] at hO; obtain ⟨k2, q0, q1⟩ := hO; exact ⟨k2, ⟨q0.1, by have : k2 < tms (h.I (76 + l.toNat) 3) (h.I (76 + l.toNat) 4) := q0.2; simp only [sL_I] at *; omega⟩, q1⟩)
    · skip
      refine g_aload_n dX2_search_31 rfl rfl (g_iload_n dX2_search_32 rfl rfl (g_lload_n dX2_search_33 rfl rfl (g_iload dX2_search_34 rfl ?_)))
      refine cv_X2_83 (M := mX2_search) rfl dX2_search_36 (yo71 hY) (RO.same _ _ _) (Nat.le_of_ble_eq_true rfl) (e_X2_meet hY hSb (by omega) (by omega) (by rw [e5]; exact hfr) (by simp only [sL_I] at *; omega)) (kQL fun v36 hq36 => ?_)
      rw [e5, e73, e73] at hq36
      simp only [sL_I] at hq36
      have hvb : v36 = -4 ∨ (x ≤ v36 ∧ v36 ≤ x + 181 * h.L 73 l.toNat) := hq36.elim (fun q => Or.inl q.1) (fun q => Or.inr q.1)
      refine g_lst5 dX2_search_39 (by decide) rfl (g_lload dX2_search_41 rfl (g_lconst (v := 0) dX2_search_43 rfl ?_))
      refine g_lcmp_lt 67 dX2_search_44 dX2_search_45 rfl (by omega) (by omega) (fun c44 => ?_) (fun c44 => ?_)
      · skip
        refine g_inc4 dX2_search_67 (by decide) rfl (g_goto 17 dX2_search_70 rfl (g_dr5 ?_))
        simp only [sL_I] at *
        first
        | (refine ih _ (by omega) (k + 1) b rfl (by omega) ⟨hI.1, hI.2.1, fun x2 hA hk2 => ?_⟩; obtain ⟨k2, k20, k21⟩ := hk2; rcases (by omega : k2 < k ∨ k2 = k) with z | rfl; exact hI.2.2 x2 hA ⟨k2, by omega, k21⟩; rcases hq36 with q | q; exact absurd k21 (q.2 x2 hA.1 hA.2.1); have := (q.2.2.2 x2 hA.1 hA.2.1 k21).1; omega)
        | (rcases hq36 with q | q; omega; (unfold SrP at hb2; rw [e6] at hb2; refine ih _ (by omega) (k + 1) b2 rfl (by omega) ⟨by omega, ?_, fun x2 hA hk2 => ?_⟩; (rcases hb2.2.1 with z | z; (rw [z]; exact hI.2.1); exact Or.inr (AA_dn (hS.2.2.2.2 l.toNat (by omega)) (k := k) ⟨hk.1, by show k < tms (h.I (76 + l.toNat) 3) (h.I (76 + l.toNat) 4); omega⟩ q.1.1 q.2.1 q.2.2.1 (AA_b.mp z))); (obtain ⟨k2, k20, k21⟩ := hk2; rcases (by omega : k2 < k ∨ k2 = k) with z | rfl; (have := hI.2.2 x2 hA ⟨k2, by omega, k21⟩; omega); (have q2 := q.2.2.2 x2 hA.1 hA.2.1 k21; exact hb2.2.2 x2 (AA_b.mpr ⟨q2.1, q2.2, fun j j0 j1 => hA.2.2 j (by omega) j1⟩)))))
      · skip
        refine g_lload dX2_search_48 rfl (g_aload_n dX2_search_50 rfl rfl (gf_X2_35 (M := mX2_search) rfl dX2_search_51 (yo71 hY) ?_))
        refine g_lcmp_ge 67 dX2_search_54 dX2_search_55 rfl (by omega) (by omega) (fun c54 => ?_) (fun c54 => ?_)
        · skip
          refine g_inc4 dX2_search_67 (by decide) rfl (g_goto 17 dX2_search_70 rfl (g_dr5 ?_))
          simp only [sL_I] at *
          first
          | (refine ih _ (by omega) (k + 1) b rfl (by omega) ⟨hI.1, hI.2.1, fun x2 hA hk2 => ?_⟩; obtain ⟨k2, k20, k21⟩ := hk2; rcases (by omega : k2 < k ∨ k2 = k) with z | rfl; exact hI.2.2 x2 hA ⟨k2, by omega, k21⟩; rcases hq36 with q | q; exact absurd k21 (q.2 x2 hA.1 hA.2.1); have := (q.2.2.2 x2 hA.1 hA.2.1 k21).1; omega)
          | (rcases hq36 with q | q; omega; (unfold SrP at hb2; rw [e6] at hb2; refine ih _ (by omega) (k + 1) b2 rfl (by omega) ⟨by omega, ?_, fun x2 hA hk2 => ?_⟩; (rcases hb2.2.1 with z | z; (rw [z]; exact hI.2.1); exact Or.inr (AA_dn (hS.2.2.2.2 l.toNat (by omega)) (k := k) ⟨hk.1, by show k < tms (h.I (76 + l.toNat) 3) (h.I (76 + l.toNat) 4); omega⟩ q.1.1 q.2.1 q.2.2.1 (AA_b.mp z))); (obtain ⟨k2, k20, k21⟩ := hk2; rcases (by omega : k2 < k ∨ k2 = k) with z | rfl; (have := hI.2.2 x2 hA ⟨k2, by omega, k21⟩; omega); (have q2 := q.2.2.2 x2 hA.1 hA.2.1 k21; exact hb2.2.2 x2 (AA_b.mpr ⟨q2.1, q2.2, fun j j0 j1 => hA.2.2 j (by omega) j1⟩)))))
        · skip
          refine g_aload_n dX2_search_58 rfl rfl (g_iload_n dX2_search_59 rfl rfl (g_iconst dX2_search_60 (g_iadd dX2_search_61 (g_lload dX2_search_62 rfl ?_))))
          refine cv_X2_45 (M := mX2_search) rfl dX2_search_64 (RO.same _ _ _) (Nat.le_of_ble_eq_true rfl) (IH (h.sL 71 6 b) v36 hSb (by rw [e5]; exact hfr) (by rw [e6] at *; omega) (by rw [e6]; omega) hln) (kQV fun h64 hq64 => ?_)
          obtain ⟨b2, rfl, hb2⟩ := hq64
          refine g_h (sL_sL h 71 6 b b2) ?_
          refine g_inc4 dX2_search_67 (by decide) rfl (g_goto 17 dX2_search_70 rfl (g_dr5 ?_))
          simp only [sL_I] at *
          first
          | (refine ih _ (by omega) (k + 1) b rfl (by omega) ⟨hI.1, hI.2.1, fun x2 hA hk2 => ?_⟩; obtain ⟨k2, k20, k21⟩ := hk2; rcases (by omega : k2 < k ∨ k2 = k) with z | rfl; exact hI.2.2 x2 hA ⟨k2, by omega, k21⟩; rcases hq36 with q | q; exact absurd k21 (q.2 x2 hA.1 hA.2.1); have := (q.2.2.2 x2 hA.1 hA.2.1 k21).1; omega)
          | (rcases hq36 with q | q; omega; (unfold SrP at hb2; rw [e6] at hb2; refine ih _ (by omega) (k + 1) b2 rfl (by omega) ⟨by omega, ?_, fun x2 hA hk2 => ?_⟩; (rcases hb2.2.1 with z | z; (rw [z]; exact hI.2.1); exact Or.inr (AA_dn (hS.2.2.2.2 l.toNat (by omega)) (k := k) ⟨hk.1, by show k < tms (h.I (76 + l.toNat) 3) (h.I (76 + l.toNat) 4); omega⟩ q.1.1 q.2.1 q.2.2.1 (AA_b.mp z))); (obtain ⟨k2, k20, k21⟩ := hk2; rcases (by omega : k2 < k ∨ k2 = k) with z | rfl; (have := hI.2.2 x2 hA ⟨k2, by omega, k21⟩; omega); (have q2 := q.2.2.2 x2 hA.1 hA.2.1 k21; exact hb2.2.2 x2 (AA_b.mpr ⟨q2.1, q2.2, fun j j0 j1 => hA.2.2 j (by omega) j1⟩)))))
  refine g_iload_n dX2_search_0 rfl rfl (g_aload_n dX2_search_1 rfl rfl (gf_X2_27 (M := mX2_search) rfl dX2_search_2 (yo71 hY) ?_))
  refine g_icmp_lt 14 dX2_search_5 rfl (by omega) (by omega) (fun c5 => ?_) (fun c5 => ?_)
  · skip
    refine g_iconst dX2_search_14 (g_ist4 dX2_search_15 (by decide) rfl ?_)
    refine g_h (sL_self h 71 6).symm (L17 (by omega) _ 0 _ rfl ?_ ⟨Int.le_refl _, Or.inl rfl, fun x2 _ q => ?_⟩)
    · obtain ⟨hF, -⟩ := hS.2.2.2.2 l.toNat (by omega)
      have htm := tms_bd (la := h.I (76 + l.toNat) 3) (ga := h.I (76 + l.toNat) 4) (by omega)
      omega
    · obtain ⟨k2, k20, -⟩ := q
      omega
  · skip
    refine g_aload_n dX2_search_8 rfl rfl (g_lload_n dX2_search_9 rfl rfl (pf_X2_35 (M := mX2_search) rfl dX2_search_10 (yo71 hY) ?_))
    exact g_vret dX2_search_13 rfl rfl ⟨Nat.le_refl _, Nat.le_refl _⟩ (by refine ⟨rfl, x, rfl, by omega, Or.inr ⟨Int.le_refl _, by simp, fun j j0 j1 => absurd j1 (by omega)⟩, fun x2 hA => hA.1⟩)
