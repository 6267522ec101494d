theorem e_X2_search {G : GX} {y : LY} {n : Nat} (hY : Lay y) : ∀ (j d : Nat) (l x : Int) (h : HM), FSt h n → (0 ≤ l ∧ l + j = n) → (0 ≤ h.L 71 5 ∧ h.L 71 5 ≤ 1000000000000) → (0 ≤ x ∧ x < h.L 71 6) → h.L 71 6 ≤ 1000000000001 → EvQV G mX2_search (d + 3 + j) [.ref 71, .int (iZ l), .long (lZ x)] y h (fun h1 => ∃ b : Int, h1 = h.sL 71 6 b ∧ SrP h n l.toNat x b) := by
  intro j
  induction j with
  | zero =>
    intro d l x h hS hl hfr hx hb
    exact s_X2_search (d := d) hY hS (by omega) hfr hx hb (fun h2 x2 _ _ _ _ q => absurd q (by omega))
  | succ j ih =>
    intro d l x h hS hl hfr hx hb
    have e : d + 3 + (j + 1) = (d + j + 1) + 3 := by omega
    rw [e]
    refine s_X2_search (d := d + j + 1) hY hS (by omega) hfr hx hb (fun h2 x2 q1 q2 q3 q4 _ => ?_)
    have := ih d (l + 1) x2 h2 q1 (by omega) q2 q3 q4
    rw [show (l + 1).toNat = l.toNat + 1 by omega, show d + 3 + j = d + j + 1 + 2 by omega] at this
    exact this
/-- the first day from t on that has it, up to the end; NONE -/
def EarlP (P : Int → Prop) (t r : Int) : Prop := (r = -4 ∧ ∀ d : Int, t ≤ d → d ≤ 1000000000000 → ¬ P d) ∨ ((t ≤ r ∧ r ≤ 1000000000000) ∧ P r ∧ ∀ d : Int, t ≤ d → d < r → ¬ P d)
theorem EarlP.uniq {P : Int → Prop} {t r s : Int} (ht : 0 ≤ t) (h1 : EarlP P t r) (h2 : EarlP P t s) : r = s := by
  rcases h1 with ⟨a, b⟩ | ⟨a, b, c⟩ <;> rcases h2 with ⟨a2, b2⟩ | ⟨a2, b2, c2⟩
  · omega
  · exact absurd b2 (b s a2.1 a2.2)
  · exact absurd b (b2 r a.1 a.2)
  · rcases Int.lt_trichotomy r s with z | z | z
    · exact absurd b (c2 r a.1 z)
    · exact z
    · exact absurd b2 (c s a2.1 z)
/-- all of some come out on a day -/
def AllOut (F : Nat → Fg) (some : Int) (t : Int) : Prop := ∀ g, g < 6 → some.toNat.testBit g = true → OutF (F g) t
theorem FSt_71 {h : HM} {n : Nat} (k : Nat) (v : Int) (hS : FSt h n) : FSt (h.sL 71 k v) n := by
  obtain ⟨q1, q2, q3, q4, q5⟩ := hS
  have e : ∀ a j, a ≠ 71 → (h.sL 71 k v).L a j = h.L a j := fun a j ha => by rw [sL_L, if_neg (by omega)]
  exact ⟨q1, q2, by rw [e _ _ (by decide)]; exact q3, by rw [e _ _ (by decide)]; exact q4, fun l hl => Lvl_eq (fun _ => rfl) (e 73 l (by decide)) (e 73 (l + 1) (by decide)) (e 74 l (by decide)) (e 75 l (by decide)) (q5 l hl)⟩
theorem FrF_71 {h h1 : HM} (k : Nat) (v : Int) (hF : FrF h h1) : FrF h (h1.sL 71 k v) := fun a ha => ⟨(hF a ha).1, by funext j; rw [sL_L, if_neg (by omega)]; rw [(hF a ha).2]⟩
set_option maxRecDepth 100000 in
set_option maxHeartbeats 1000000 in
theorem e_X2_earliest {G : GX} {y : LY} {h : HM} {d : Nat} (hY : Lay y) {s t : Int} (hC : CF h 12) (hs : 0 ≤ s ∧ s < 2 ^ (h.I 12 3).toNat) (ht : 0 ≤ t ∧ t ≤ 1000000000000) : EvQW G mX2_earliest (d + 10) [.ref 71, .ref 13, .int (iZ s), .long (lZ t)] y h (fun v h1 => FrF h h1 ∧ EarlP (AllOut (cFs h 12) s) t v) := by
  refine Ev.of rfl [some (.ref 71), some (.ref 13), some (.int (iZ s)), some (.long (lZ t)), none] rfl (Nat.le_of_ble_eq_true rfl) ?_
  refine g_aload_n dX2_earliest_0 rfl rfl (g_aload_n dX2_earliest_1 rfl rfl (g_iload_n dX2_earliest_2 rfl rfl ?_))
  refine cv_X2_39 (M := mX2_earliest) rfl dX2_earliest_3 (yo71 hY) (RO.same _ _ _) (Nat.le_of_ble_eq_true rfl) (e_X2_choose hY hC hs) (kQV fun h3 hq3 => ?_)
  obtain ⟨n, hFr, hSt, hn6, hlc, hout⟩ := hq3
  have hse := e_X2_search (G := G) hY n (d + (6 - n)) 0 0 ((h3.sL 71 5 t).sL 71 6 (1000000000000 - t + 1)) (FSt_71 6 _ (FSt_71 5 _ hSt)) (by omega) (by simp [sL_L]; omega) (by simp [sL_L]; omega) (by simp [sL_L]; omega)
  rw [show d + (6 - n) + 3 + n = d + 9 by omega] at hse
  refine g_aload_n dX2_earliest_6 rfl rfl (g_lload_n dX2_earliest_7 rfl rfl (pf_X2_31 (M := mX2_earliest) rfl dX2_earliest_8 (yo71 hY) (g_aload_n dX2_earliest_11 rfl rfl (c2_X2_43 (M := mX2_earliest) rfl dX2_earliest_12 (g_lload_n dX2_earliest_15 rfl rfl (g_lsub dX2_earliest_16 (g_lconst (v := 1) dX2_earliest_17 rfl (g_ladd dX2_earliest_18 (pf_X2_35 (M := mX2_earliest) rfl dX2_earliest_19 (yo71 hY) (g_aload_n dX2_earliest_22 rfl rfl (g_iconst dX2_earliest_23 ?_)))))))))))
  refine g_lconst (v := 0) dX2_earliest_24 rfl ?_
  refine cv_X2_45 (M := mX2_earliest) rfl dX2_earliest_25 (RO.same _ _ _) (Nat.le_of_ble_eq_true rfl) (hse) (kQV fun h25 hq25 => ?_)
  obtain ⟨b, rfl, hb⟩ := hq25
  have hFr2 := FrF_71 6 b (FrF_71 6 (1000000000000 - t + 1) (FrF_71 5 t hFr))
  have e73 : ∀ l, ((h3.sL 71 5 t).sL 71 6 (1000000000000 - t + 1)).L 73 l = h3.L 73 l := fun l => by simp [sL_L]
  have e5 : ((h3.sL 71 5 t).sL 71 6 (1000000000000 - t + 1)).L 71 5 = t := by simp [sL_L]
  have e6 : ((h3.sL 71 5 t).sL 71 6 (1000000000000 - t + 1)).L 71 6 = 1000000000000 - t + 1 := by simp [sL_L]
  have hAA : ∀ x2 : Int, AA ((h3.sL 71 5 t).sL 71 6 (1000000000000 - t + 1)) n 0 0 x2 ↔ 0 ≤ x2 ∧ AllOut (cFs h 12) s (t + x2) := by
    intro x2
    unfold AA
    rw [e73, e5, hSt.2.2.1, Int.emod_one]
    constructor
    · rintro ⟨a1, -, a3⟩; exact ⟨a1, (hout (t + x2)).mp (fun l hl => a3 l (by omega) hl)⟩
    · rintro ⟨a1, a2⟩; exact ⟨a1, rfl, fun l _ hl => (hout (t + x2)).mpr a2 l hl⟩
  obtain ⟨hb1, hb2, hb3⟩ := id hb
  rw [e6] at hb1 hb2
  have hb0 : 0 ≤ b := hb2.elim (fun e => by omega) (fun q => q.1)
  have ebL : (((h3.sL 71 5 t).sL 71 6 (1000000000000 - t + 1)).sL 71 6 b).L 71 6 = b := by simp [sL_L]
  refine g_aload_n dX2_earliest_28 rfl rfl (gf_X2_35 (M := mX2_earliest) rfl dX2_earliest_29 (yo71 hY) (c2_X2_43 (M := mX2_earliest) rfl dX2_earliest_32 (g_lload_n dX2_earliest_35 rfl rfl (g_lsub dX2_earliest_36 ?_))))
  refine g_lcmp_gt 50 dX2_earliest_37 dX2_earliest_38 rfl (by omega) (by omega) (fun c37 => ?_) (fun c37 => ?_)
  · skip
    refine c2_X2_49 (M := mX2_earliest) rfl dX2_earliest_50 ?_
    exact g_lret dX2_earliest_53 rfl rfl ⟨Nat.le_refl _, Nat.le_refl _⟩ (by first | (refine ⟨-4, rfl, hFr2, Or.inl ⟨rfl, fun q q0 q1 z => ?_⟩⟩; have := hb3 (q - t) ((hAA _).mpr ⟨by omega, by rw [show t + (q - t) = q by omega]; exact z⟩); omega) | (rw [ebL]; refine ⟨t + b, rfl, hFr2, Or.inr ⟨by omega, ?_, fun q q0 q1 z => ?_⟩⟩; (rcases hb2 with e | e; omega; exact ((hAA b).mp e).2); (have := hb3 (q - t) ((hAA _).mpr ⟨by omega, by rw [show t + (q - t) = q by omega]; exact z⟩); omega)))
  · skip
    refine g_lload_n dX2_earliest_41 rfl rfl (g_aload_n dX2_earliest_42 rfl rfl (gf_X2_35 (M := mX2_earliest) rfl dX2_earliest_43 (yo71 hY) (g_ladd dX2_earliest_46 (g_goto 53 dX2_earliest_47 rfl ?_))))
    exact g_lret dX2_earliest_53 rfl rfl ⟨Nat.le_refl _, Nat.le_refl _⟩ (by first | (refine ⟨-4, rfl, hFr2, Or.inl ⟨rfl, fun q q0 q1 z => ?_⟩⟩; have := hb3 (q - t) ((hAA _).mpr ⟨by omega, by rw [show t + (q - t) = q by omega]; exact z⟩); omega) | (rw [ebL]; refine ⟨t + b, rfl, hFr2, Or.inr ⟨by omega, ?_, fun q q0 q1 z => ?_⟩⟩; (rcases hb2 with e | e; omega; exact ((hAA b).mp e).2); (have := hb3 (q - t) ((hAA _).mpr ⟨by omega, by rw [show t + (q - t) = q by omega]; exact z⟩); omega)))
set_option maxRecDepth 100000 in
set_option maxHeartbeats 1000000 in
theorem e_X2_commonRound {G : GX} {y : LY} {h : HM} {d : Nat} (hY : Lay y) {s : Int} (hC : CF h 12) (hs : 0 ≤ s ∧ s < 2 ^ (h.I 12 3).toNat) : EvQW G mX2_commonRound (d + 4) [.ref 71, .ref 13, .int (iZ s)] y h (fun v h1 => FrF h h1 ∧ v = lcF (cFs h 12) s 6) := by
  refine Ev.of rfl [some (.ref 71), some (.ref 13), some (.int (iZ s))] rfl (Nat.le_of_ble_eq_true rfl) ?_
  refine g_aload_n dX2_commonRound_0 rfl rfl (g_aload_n dX2_commonRound_1 rfl rfl (g_iload_n dX2_commonRound_2 rfl rfl ?_))
  refine cv_X2_39 (M := mX2_commonRound) rfl dX2_commonRound_3 (yo71 hY) (RO.same _ _ _) (Nat.le_of_ble_eq_true rfl) (e_X2_choose hY hC hs) (kQV fun h3 hq3 => ?_)
  obtain ⟨n, hFr, hSt, hn6, hlc, hout⟩ := hq3
  have hn4 := hSt.1
  refine g_aload_n dX2_commonRound_6 rfl rfl (gf_X2_17 (M := mX2_commonRound) rfl dX2_commonRound_7 (yo71 hY) (yr71_1 hY) (g_aload_n dX2_commonRound_10 rfl rfl (gf_X2_27 (M := mX2_commonRound) rfl dX2_commonRound_11 (yo71 hY) (g_lald dX2_commonRound_14 (ya73 hY) ⟨by omega, by omega, by omega⟩ ?_))))
  exact g_lret dX2_commonRound_15 rfl rfl ⟨Nat.le_refl _, Nat.le_refl _⟩ (by exact ⟨_, rfl, hFr, by rw [hn4, Int.toNat_natCast]; exact hlc⟩)
