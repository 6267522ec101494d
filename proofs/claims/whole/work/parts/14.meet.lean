/-- a figure's round, and the days of a round, counted from FIRST, on which he comes out -/
def rn (F : Fg) : Int := rnd F.la F.te
def Off (F : Fg) (x : Int) : Prop := ∃ i : Int, 0 ≤ i ∧ i < max F.la 1 ∧ (x = i * F.te ∨ (0 < F.ga ∧ x = i * F.te + F.ga))
abbrev FgW (F : Fg) : Prop := 2 ≤ F.te ∧ F.te ≤ 60 ∧ 0 ≤ F.la ∧ F.la ≤ 3 ∧ 0 ≤ F.ga ∧ F.ga < F.te
abbrev FgB (F : Fg) : Prop := FgW F ∧ 0 ≤ F.st ∧ F.st < F.te ∧ 0 ≤ F.dr ∧ F.dr ≤ 8
def gcdF (F H : Fg) : Int := (Int.gcd (rn F) (rn H) : Int)
/-- two come out on one day -/
def MeetP (F H : Fg) : Prop := ∃ x z : Int, Off F x ∧ Off H z ∧ (F.st + x - (H.st + z)) % gcdF F H = 0
theorem off_of {F : Fg} (k : Int) (hk : 0 ≤ k ∧ k < tms F.la F.ga) : Off F (ofs F.te F.ga k) := by
  unfold tms at hk
  unfold ofs
  by_cases hg : 0 < F.ga
  · rw [if_pos hg] at hk ⊢
    refine ⟨k / 2, by omega, by omega, ?_⟩
    rcases (by omega : k % 2 = 0 ∨ k % 2 = 1) with e | e
    · exact Or.inl (by rw [e]; omega)
    · exact Or.inr ⟨hg, by rw [e]; omega⟩
  · rw [if_neg hg] at hk ⊢
    exact ⟨k, hk.1, by omega, Or.inl rfl⟩
theorem of_off {F : Fg} {x : Int} (h : Off F x) : ∃ k : Int, 0 ≤ k ∧ k < tms F.la F.ga ∧ x = ofs F.te F.ga k := by
  obtain ⟨i, h0, h1, h2⟩ := h
  unfold tms ofs
  by_cases hg : 0 < F.ga
  · simp only [if_pos hg]
    rcases h2 with h2 | ⟨-, h2⟩
    · exact ⟨2 * i, by omega, by omega, by rw [show 2 * i / 2 = i by omega, show 2 * i % 2 = 0 by omega]; omega⟩
    · exact ⟨2 * i + 1, by omega, by omega, by rw [show (2 * i + 1) / 2 = i by omega, show (2 * i + 1) % 2 = 1 by omega]; omega⟩
  · simp only [if_neg hg]
    rcases h2 with h2 | ⟨h3, -⟩
    · exact ⟨i, h0, by omega, h2⟩
    · exact absurd h3 hg
theorem off_bd {F : Fg} (hF : FgW F) {x : Int} (h : Off F x) : 0 ≤ x ∧ x < max F.la 1 * F.te := by
  obtain ⟨i, h0, h1, h2⟩ := h
  have e1 : 0 ≤ i * F.te := Int.mul_nonneg h0 (by omega)
  have e2 : (i + 1) * F.te ≤ max F.la 1 * F.te := Int.mul_le_mul_of_nonneg_right (by omega) (by omega)
  rw [Int.add_mul, Int.one_mul] at e2
  rcases h2 with h2 | ⟨-, h2⟩ <;> omega
theorem rn_bd {F : Fg} (hF : FgW F) : F.te ≤ rn F ∧ rn F ≤ 181 ∧ 2 ≤ rn F ∧ max F.la 1 * F.te ≤ rn F := by
  have := rnd_bd (la := F.la) (te := F.te) (by omega)
  have := mx_bd (la := F.la) (te := F.te) (by omega)
  unfold rn; omega
theorem gcdF_bd {F H : Fg} (hF : FgW F) (hH : FgW H) : 0 < gcdF F H ∧ gcdF F H ≤ 181 := by
  have h1 := rn_bd hF
  have h2 := rn_bd hH
  have := gcd_bd (a := rn F) (b := rn H) (by omega) (by omega)
  unfold gcdF; omega
theorem gcdF_l (F H : Fg) : gcdF F H ∣ rn F := Int.gcd_dvd_left _ _
theorem gcdF_r (F H : Fg) : gcdF F H ∣ rn H := Int.gcd_dvd_right _ _
theorem sub_em {p q n m g : Int} (hn : g ∣ n) (hm : g ∣ m) : (p % n - q % m) % g = (p - q) % g := by
  rw [Int.sub_emod, Int.emod_emod_of_dvd _ hn, Int.emod_emod_of_dvd _ hm, ← Int.sub_emod]
theorem meet_tmo {F H : Fg} (k i : Int) : (tmo F.te F.st F.la F.ga k - tmo H.te H.st H.la H.ga i) % gcdF F H = (F.st + ofs F.te F.ga k - (H.st + ofs H.te H.ga i)) % gcdF F H := sub_em (gcdF_l F H) (gcdF_r F H)
theorem meet_of {F H : Fg} {k i : Int} (hk : 0 ≤ k ∧ k < tms F.la F.ga) (hi : 0 ≤ i ∧ i < tms H.la H.ga) (h : (tmo F.te F.st F.la F.ga k - tmo H.te H.st H.la H.ga i) % gcdF F H = 0) : MeetP F H := ⟨_, _, off_of k hk, off_of i hi, by rw [← meet_tmo]; exact h⟩
theorem meet_not {F H : Fg} (h : ∀ k i : Int, 0 ≤ k → k < tms F.la F.ga → 0 ≤ i → i < tms H.la H.ga → ¬ (tmo F.te F.st F.la F.ga k - tmo H.te H.st H.la H.ga i) % gcdF F H = 0) : ¬ MeetP F H := by
  rintro ⟨x, z, hx, hz, e⟩
  obtain ⟨k, k0, k1, rfl⟩ := of_off hx
  obtain ⟨i, i0, i1, rfl⟩ := of_off hz
  exact h k i k0 k1 i0 i1 (by rw [meet_tmo]; exact e)
set_option maxRecDepth 100000 in
set_option maxHeartbeats 4000000 in
theorem e_X1_meets {G : GX} {y : LY} {h : HM} {d : Nat} {a b : Nat} (ho : IsO y a 1) (hq : IsO y b 1) (hwa : FB h a) (hwb : FB h b) : EvI G mX1_meets (d + 2) [.ref a, .ref b] y h (pI (MeetP (c5 h a) (c5 h b))) := by
  have hr1 := rnd_bd (la := h.I a 3) (te := h.I a 0) (by omega)
  have hr2 := rnd_bd (la := h.I b 3) (te := h.I b 0) (by omega)
  have ht1 := tms_bd (la := h.I a 3) (ga := h.I a 4) (by omega)
  have ht2 := tms_bd (la := h.I b 3) (ga := h.I b 4) (by omega)
  have hg : 0 < gcdF (c5 h a) (c5 h b) ∧ gcdF (c5 h a) (c5 h b) ≤ 181 := gcdF_bd (F := (c5 h a)) (H := (c5 h b)) hwa.1 hwb.1
  refine Ev.of rfl [some (.ref a), some (.ref b), none, none, none, none] rfl (Nat.le_of_ble_eq_true rfl) ?_
  have L17 : ∀ (m : Nat) (k : Int), m = (tms (h.I a 3) (h.I a 4) - k).toNat → 0 ≤ k ∧ k ≤ tms (h.I a 3) (h.I a 4) → (∀ k2 i2 : Int, 0 ≤ k2 → k2 < k → 0 ≤ i2 → i2 < tms (h.I b 3) (h.I b 4) → ¬ (tmo (h.I a 0) (h.I a 1) (h.I a 3) (h.I a 4) k2 - tmo (h.I b 0) (h.I b 1) (h.I b 3) (h.I b 4) i2) % gcdF (c5 h a) (c5 h b) = 0) → Go G mX1_meets (rmo (d + 2) 0 0) (ZM G y 0 0 (fun r h1 => r = some (.int (iZ (pI (MeetP (c5 h a) (c5 h b))))) ∧ h1 = h)) y 17 [some (.ref a), some (.ref b), some (.long (lZ (gcdF (c5 h a) (c5 h b)))), none, some (.int (iZ k)), none] [] h (0, 0) := by
    intro m
    induction m using Nat.strongRecOn with | _ m ih =>
    intro k hm hk hno
    have L29 : ∀ (m2 : Nat) (i : Int), m2 = (tms (h.I b 3) (h.I b 4) - i).toNat → 0 ≤ i ∧ i ≤ tms (h.I b 3) (h.I b 4) → k < tms (h.I a 3) (h.I a 4) → (∀ i2 : Int, 0 ≤ i2 → i2 < i → ¬ (tmo (h.I a 0) (h.I a 1) (h.I a 3) (h.I a 4) k - tmo (h.I b 0) (h.I b 1) (h.I b 3) (h.I b 4) i2) % gcdF (c5 h a) (c5 h b) = 0) → Go G mX1_meets (rmo (d + 2) 0 0) (ZM G y 0 0 (fun r h1 => r = some (.int (iZ (pI (MeetP (c5 h a) (c5 h b))))) ∧ h1 = h)) y 29 [some (.ref a), some (.ref b), some (.long (lZ (gcdF (c5 h a) (c5 h b)))), none, some (.int (iZ k)), some (.int (iZ i))] [] h (0, 0) := by
      intro m2
      induction m2 using Nat.strongRecOn with | _ m2 ih2 =>
      intro i hm2 hi hkT hno2
      have hb1 := tmo_bd (te := h.I a 0) (st := h.I a 1) (la := h.I a 3) (ga := h.I a 4) (k := k) (by omega)
      have hb2 := tmo_bd (te := h.I b 0) (st := h.I b 1) (la := h.I b 3) (ga := h.I b 4) (k := i) (by omega)
      refine g_iload dX1_meets_29 rfl (g_aload_n dX1_meets_31 rfl rfl (cv_X1_48 (M := mX1_meets) rfl dX1_meets_32 hq (RO.same _ _ _) (Nat.le_of_ble_eq_true rfl) (e_X1_times hq (by omega) (by omega)) <| kI ?_))
      refine g_icmp_ge 69 dX1_meets_35 rfl (by omega) (by omega) (fun c35 => ?_) (fun c35 => ?_)
      · skip
        refine g_inc4 dX1_meets_69 (by decide) rfl (g_goto 17 dX1_meets_72 rfl (g_dr5 ?_))
        refine ih _ (by omega) (k + 1) rfl (by omega) (fun k2 i2 z1 z2 z3 z4 => ?_)
        rcases (by omega : k2 < k ∨ k2 = k) with z | rfl
        · exact hno k2 i2 z1 z z3 z4
        · exact hno2 i2 z3 (by omega)
      · skip
        refine g_aload_n dX1_meets_38 rfl rfl (g_iload dX1_meets_39 rfl (cv_X1_51 (M := mX1_meets) rfl dX1_meets_41 ho (RO.same _ _ _) (Nat.le_of_ble_eq_true rfl) (e_X1_timeOf ho (by omega) (by omega) (by omega)) <| kI (g_aload_n dX1_meets_44 rfl rfl (g_iload dX1_meets_45 rfl (cv_X1_51 (M := mX1_meets) rfl dX1_meets_47 hq (RO.same _ _ _) (Nat.le_of_ble_eq_true rfl) (e_X1_timeOf hq (by omega) (by omega) (by omega)) <| kI (g_isub dX1_meets_50 (g_i2l dX1_meets_51 (by omega) (g_lload_n dX1_meets_52 rfl rfl (cv_X1_41 (M := mX1_meets) rfl dX1_meets_53 (RO.same _ _ _) (Nat.le_of_ble_eq_true rfl) (e_X8_rest (by omega) (by omega)) <| kL ?_)))))))))
        have hem := em_bd (tmo (h.I a 0) (h.I a 1) (h.I a 3) (h.I a 4) k - tmo (h.I b 0) (h.I b 1) (h.I b 3) (h.I b 4) i) (d := gcdF (c5 h a) (c5 h b)) (by omega)
        refine g_lconst (v := 0) dX1_meets_56 rfl ?_
        refine g_lcmp_ne 63 dX1_meets_57 dX1_meets_58 rfl (by omega) (by omega) (fun c57 => ?_) (fun c57 => ?_)
        · skip
          refine g_inc5 dX1_meets_63 (by decide) rfl (g_goto 29 dX1_meets_66 rfl ?_)
          refine ih2 _ (by omega) (i + 1) rfl (by omega) hkT (fun i2 z1 z2 => ?_)
          rcases (by omega : i2 < i ∨ i2 = i) with z | rfl
          · exact hno2 i2 z1 z
          · exact c57
        · skip
          refine g_iconst dX1_meets_61 ?_
          exact g_zret dX1_meets_62 rfl rfl ⟨Nat.le_refl _, Nat.le_refl _⟩ (by omega) (by exact ⟨someI (pI_t (meet_of (F := c5 h a) (H := c5 h b) (k := k) (i := i) ⟨hk.1, hkT⟩ ⟨hi.1, by show i < tms (h.I b 3) (h.I b 4); omega⟩ c57)).symm, rfl⟩)
    refine g_iload dX1_meets_17 rfl (g_aload_n dX1_meets_19 rfl rfl (cv_X1_48 (M := mX1_meets) rfl dX1_meets_20 ho (RO.same _ _ _) (Nat.le_of_ble_eq_true rfl) (e_X1_times ho (by omega) (by omega)) <| kI ?_))
    refine g_icmp_ge 75 dX1_meets_23 rfl (by omega) (by omega) (fun c23 => ?_) (fun c23 => ?_)
    · skip
      refine g_iconst dX1_meets_75 ?_
      exact g_zret dX1_meets_76 rfl rfl ⟨Nat.le_refl _, Nat.le_refl _⟩ (by omega) (by exact ⟨someI (pI_f (meet_not (F := c5 h a) (H := c5 h b) (fun k2 i2 z1 z2 z3 z4 => hno k2 i2 z1 (by show k2 < k; have : k2 < tms (h.I a 3) (h.I a 4) := z2; omega) z3 z4))).symm, rfl⟩)
    · skip
      refine g_iconst dX1_meets_26 (g_ist5 dX1_meets_27 (by decide) rfl ?_)
      exact L29 _ 0 rfl (by omega) (by omega) (fun i2 z1 z2 => absurd z2 (by omega))
  refine g_aload_n dX1_meets_0 rfl rfl (cv_X1_37 (M := mX1_meets) rfl dX1_meets_1 ho (RO.same _ _ _) (Nat.le_of_ble_eq_true rfl) (e_X1_round ho (by omega)) <| kI (g_i2l dX1_meets_4 (by omega) (g_aload_n dX1_meets_5 rfl rfl (cv_X1_37 (M := mX1_meets) rfl dX1_meets_6 hq (RO.same _ _ _) (Nat.le_of_ble_eq_true rfl) (e_X1_round hq (by omega)) <| kI (g_i2l dX1_meets_9 (by omega) (cv_X1_45 (M := mX1_meets) rfl dX1_meets_10 (RO.same _ _ _) (Nat.le_of_ble_eq_true rfl) (e_X8_commonDivisor (by omega) (by omega)) <| kL (g_lst2 dX1_meets_13 (by decide) rfl (g_iconst dX1_meets_14 (g_ist4 dX1_meets_15 (by decide) rfl ?_)))))))))
  exact L17 _ 0 rfl (by omega) (fun k2 i2 z1 z2 => absurd z2 (by omega))
