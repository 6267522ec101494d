theorem lcF_bd {F : Nat → Fg} {s : Int} : ∀ f : Nat, (∀ i, i < f → FgB (F i)) → 1 ≤ lcF F s f ∧ lcF F s f ≤ 181 ^ f
  | 0, _ => ⟨Int.le_refl _, Int.le_refl _⟩
  | f + 1, h => by
    have h1 := lcF_bd (F := F) (s := s) f (fun i hi => h i (by omega))
    unfold lcF
    have hr := rn_bd (h f (by omega)).1
    by_cases q : s.toNat.testBit f = true
    · rw [if_pos q]; exact lcI_bd h1 (by omega)
    · rw [if_neg q, Int.pow_succ]; omega
def AllU (F : Nat → Fg) (s : Int) (f : Nat) (d : Int) : Prop := ∀ g, g < f → s.toNat.testBit g = true → OutF (F g) d
theorem AllU_t {F : Nat → Fg} {s : Int} {f : Nat} (h : s.toNat.testBit f = true) (d : Int) : (AllU F s f d ∧ OutF (F f) d) ↔ AllU F s (f + 1) d := by
  constructor
  · rintro ⟨a, b⟩ g g1 g2
    rcases (by omega : g < f ∨ g = f) with q | rfl
    · exact a g q g2
    · exact b
  · intro a
    exact ⟨fun g g1 g2 => a g (by omega) g2, a f (by omega) h⟩
theorem AllU_f {F : Nat → Fg} {s : Int} {f : Nat} (h : ¬ s.toNat.testBit f = true) (d : Int) : AllU F s f d ↔ AllU F s (f + 1) d := by
  constructor
  · intro a g g1 g2
    rcases (by omega : g < f ∨ g = f) with q | rfl
    · exact a g q g2
    · exact absurd g2 h
  · intro a g g1 g2
    exact a g (by omega) g2
theorem bit_hi {s : Int} {n g : Nat} (hs : 0 ≤ s ∧ s < 2 ^ n) (hg : n ≤ g) : ¬ s.toNat.testBit g = true := by
  have h1 : s.toNat < 2 ^ n := by
    have : ((s.toNat : Nat) : Int) < ((2 ^ n : Nat) : Int) := by push_cast; omega
    omega
  rw [Nat.testBit_lt_two_pow (Nat.lt_of_lt_of_le h1 (Nat.pow_le_pow_right (by decide) hg))]
  decide
theorem AllU_6 {F : Nat → Fg} {s : Int} {n : Nat} (hn : n ≤ 6) (hs : 0 ≤ s ∧ s < 2 ^ n) (d : Int) : AllU F s n d ↔ AllOut F s d := by
  constructor
  · intro a g g1 g2
    by_cases q : g < n
    · exact a g q g2
    · exact absurd g2 (bit_hi hs (by omega))
  · intro a g g1 g2
    exact a g (by omega) g2
theorem lcF_6 {F : Nat → Fg} {s : Int} {n : Nat} (hs : 0 ≤ s ∧ s < 2 ^ n) : ∀ k : Nat, lcF F s (n + k) = lcF F s n
  | 0 => rfl
  | k + 1 => by
    rw [← Nat.add_assoc, lcF, if_neg (bit_hi hs (by omega)), lcF_6 hs k]
theorem RsI.w {h : HM} {P Q : Int → Prop} {b n : Int} (e : ∀ d, P d ↔ Q d) (hI : RsI h P b n) : RsI h Q b n := ⟨hI.1, hI.2.1, hI.2.2.1, hI.2.2.2.1, hI.2.2.2.2.1, fun d => (e d).symm.trans (hI.2.2.2.2.2 d)⟩
theorem rs_0 (h : HM) {P : Int → Prop} (hP : ∀ d, P d) : RsI (((h.sL 155 0 0).sI 150 18 1).sL 150 19 1) P 1 1 := by
  have e : ∀ k : Int, 0 ≤ k → k < 1 → rsL (((h.sL 155 0 0).sI 150 18 1).sL 150 19 1) k = 0 := fun k k0 k1 => by
    obtain rfl : k = 0 := by omega
    unfold rsL
    rw [sL_L, if_neg (by decide), sI_L, sL_L, if_pos ⟨rfl, rfl⟩]
  refine ⟨by rw [sL_I, sI_I, if_pos ⟨rfl, rfl⟩], by rw [sL_L, if_pos ⟨rfl, rfl⟩], by decide, fun k k0 k1 => by rw [e k k0 k1]; decide, fun k l k0 k1 l0 l1 _ => by omega, fun d => ⟨fun _ => ⟨0, by decide, Int.emod_one _⟩, fun _ => hP d⟩⟩
theorem FrJ.s0 (h : HM) : FrJ h (((h.sL 155 0 0).sI 150 18 1).sL 150 19 1) := ⟨fun a j q => by rw [sL_I, sI_I, if_neg q]; rfl, fun a j q1 q2 q3 => by rw [sL_L, if_neg q3, sI_L, sL_L, if_neg (by omega)]⟩
/-- the first day from t on, however far; -1: none -/
def NxQ (P : Int → Prop) (t v : Int) : Prop := (v = -1 ∧ ∀ d : Int, t ≤ d → ¬ P d) ∨ (t ≤ v ∧ P v ∧ ∀ d : Int, t ≤ d → d < v → ¬ P d)
theorem NxQ.w {P Q : Int → Prop} {t v : Int} (e : ∀ d, P d ↔ Q d) (h : NxQ P t v) : NxQ Q t v := by
  rcases h with ⟨a, b⟩ | ⟨a, b, c⟩
  · exact Or.inl ⟨a, fun d d0 z => b d d0 ((e d).mpr z)⟩
  · exact Or.inr ⟨a, (e v).mp b, fun d d0 d1 z => c d d0 d1 ((e d).mpr z)⟩
theorem nx_q {R : Int → Int} {b t n l : Int} (h : NxI R b t n l) : NxQ (ExR R b n) t l := by
  rcases h with ⟨z1, z2⟩ | ⟨z0, z1, z2, z3⟩
  · exact Or.inl ⟨z2, fun d _ ⟨j, j1, _⟩ => by omega⟩
  · exact Or.inr ⟨z1.1, z2, fun d d0 d1 ⟨j, j1, j2⟩ => z3 d d0 d1 j j1.1 j1.2 j2⟩
theorem NxQ.e {P : Int → Prop} {t v : Int} (ht : 0 ≤ t) (h : NxQ P t v) : EarlP P t (if 1000000000000 < v ∨ v < 0 then -4 else v) := by
  rcases h with ⟨a, b⟩ | ⟨a, b, c⟩
  · rw [if_pos (by omega)]; exact Or.inl ⟨rfl, fun d d0 _ => b d d0⟩
  · by_cases q : 1000000000000 < v ∨ v < 0
    · rw [if_pos q]; exact Or.inl ⟨rfl, fun d d0 d1 => c d d0 (by omega)⟩
    · rw [if_neg q]; exact Or.inr ⟨by omega, b, c⟩
theorem p2_1 (k : Nat) : (1 : Int) ≤ 2 ^ k := by
  have h1 := two_le k
  have e : ((2 ^ k : Nat) : Int) = (2 : Int) ^ k := by push_cast; rfl
  omega
theorem pw6 {n : Nat} (h : n ≤ 5) : (6 : Int) ^ n ≤ 7776 ∧ (181 : Int) ^ n ≤ 194264244901 := by
  rcases (by omega : n = 0 ∨ n = 1 ∨ n = 2 ∨ n = 3 ∨ n = 4 ∨ n = 5) with rfl | rfl | rfl | rfl | rfl | rfl <;> decide
theorem pw6' {n : Nat} (h : n ≤ 6) : (6 : Int) ^ n ≤ 46656 ∧ (181 : Int) ^ n ≤ 35161828327081 := by
  rcases (by omega : n = 0 ∨ n = 1 ∨ n = 2 ∨ n = 3 ∨ n = 4 ∨ n = 5 ∨ n = 6) with rfl | rfl | rfl | rfl | rfl | rfl | rfl <;> decide
set_option maxRecDepth 100000 in
set_option maxHeartbeats 1000000 in
theorem e_X9_findRests {G : GX} {y : LY} {h : HM} {d : Nat} (hY : Lay y) {F : Nat → Fg} (hR : RF h F) {s : Int} (hs : 0 ≤ s ∧ s < 2 ^ (h.I 151 0).toNat) : EvQV G mX9_findRests (d + 4) [.ref 150, .int (iZ s)] y h (fun h1 => FrJ h h1 ∧ ∃ n : Int, n ≤ 46656 ∧ RsI h1 (AllOut F s) (lcF F s (h.I 151 0).toNat) n) := by
  have hnf := hR.1
  have h2p : (2 : Int) ^ (h.I 151 0).toNat ≤ 64 := p2_6 (by omega)
  refine Ev.of rfl [some (.ref 150), some (.int (iZ s)), none] rfl (Nat.le_of_ble_eq_true rfl) ?_
  have L6 : ∀ (m : Nat) (h1 : HM) (n : Int) (f : Nat), (m : Int) = (h.I 151 0) - f → (f : Int) ≤ (h.I 151 0) → FrJ h h1 → n ≤ 6 ^ f → RsI h1 (AllU F s f) (lcF F s f) n → Go G mX9_findRests (rmo (d + 4) 0 0) (ZM G y 0 0 (fun r h1 => r = none ∧ (fun h1 => FrJ h h1 ∧ ∃ n : Int, n ≤ 46656 ∧ RsI h1 (AllOut F s) (lcF F s (h.I 151 0).toNat) n) h1)) y 6 [some (.ref 150), some (.int (iZ s)), some (.int (iZ f))] [] h1 (0, 0) := by
    intro m
    induction m using Nat.strongRecOn with | _ m ih =>
    intro h1 n f hm hf hfr hn hI
    have hR1 := hfr.rF hR
    have e0 := hfr.1 151 0 (by omega)
    have hsel := selB (s := s) (f := (f : Int)) (by omega)
    have hia := iAnd_r (iShr s f) 1
    have hlb := lcF_bd (F := F) (s := s) f (fun i hi => (hR.2 i (by omega) (by omega)).2)
    refine g_iload_n dX9_findRests_6 rfl rfl (g_aload_n dX9_findRests_7 rfl rfl (gf_X9_7 (M := mX9_findRests) rfl dX9_findRests_8 (yo150 hY) (yr150_0 hY) (g_iconst dX9_findRests_11 (g_iaN 0 dX9_findRests_12 (ya151 hY) ⟨by decide, by decide, by decide⟩ rfl ?_))))
    refine g_icmp_ge 36 dX9_findRests_13 rfl (by omega) (by omega) (fun c13 => ?_) (fun c13 => ?_)
    · skip
      exact g_vret dX9_findRests_36 rfl rfl ⟨Nat.le_refl _, Nat.le_refl _⟩ (by obtain rfl : f = (h.I 151 0).toNat := (by omega); have hp := pw6' (n := (h.I 151 0).toNat) (by omega); exact ⟨rfl, hfr, n, by omega, hI.w (AllU_6 (by omega) hs)⟩)
    · skip
      refine g_iload_n dX9_findRests_16 rfl rfl (g_iload_n dX9_findRests_17 rfl rfl (g_ishr dX9_findRests_18 (g_iconst dX9_findRests_19 (g_iand dX9_findRests_20 (g_iconst dX9_findRests_21 ?_)))))
      refine g_icmp_ne 30 dX9_findRests_22 rfl (by omega) (by omega) (fun c22 => ?_) (fun c22 => ?_)
      · skip
        refine g_inc2 dX9_findRests_30 (by decide) rfl (g_goto 6 dX9_findRests_33 rfl ?_)
        have hsel := hsel (by omega)
        rw [Int.toNat_natCast] at hsel
        first
        | (have hb : ¬ s.toNat.testBit f = true := (fun z => by rw [if_pos z] at hsel; omega); refine ih (m - 1) (by omega) h1 n (f + 1) (by omega) (by omega) hfr (by rw [Int.pow_succ]; have := hI.2.2.1; omega) ?_; rw [lcF, if_neg hb]; exact hI.w (AllU_f hb))
        | (have hb : s.toNat.testBit f = true := Decidable.byContradiction (fun z => by rw [if_neg z] at hsel; omega); refine ih (m - 1) (by omega) h27 n2 (f + 1) (by omega) (by omega) (hfr.tr fj) (by rw [Int.pow_succ]; omega) ?_; rw [lcF, if_pos hb]; exact hI2.w (AllU_t hb))
      · skip
        have hp := pw6 (n := f) (by omega)
        have hFf := hR1.2 (f : Int) (by omega) (by omega)
        rw [Int.toNat_natCast] at hFf
        refine g_aload_n dX9_findRests_25 rfl rfl (g_iload_n dX9_findRests_26 rfl rfl ?_)
        refine cv_X9_221 (M := mX9_findRests) rfl dX9_findRests_27 (yo150 hY) (RO.same _ _ _) (Nat.le_of_ble_eq_true rfl) (e_X9_joinsRests hY (by omega) hFf.1 hFf.2 hI (by omega) (by omega)) (kQV fun h27 hq27 => ?_)
        obtain ⟨fj, n2, hn2, hI2⟩ := hq27
        refine g_inc2 dX9_findRests_30 (by decide) rfl (g_goto 6 dX9_findRests_33 rfl ?_)
        have hsel := hsel (by omega)
        rw [Int.toNat_natCast] at hsel
        first
        | (have hb : ¬ s.toNat.testBit f = true := (fun z => by rw [if_pos z] at hsel; omega); refine ih (m - 1) (by omega) h1 n (f + 1) (by omega) (by omega) hfr (by rw [Int.pow_succ]; have := hI.2.2.1; omega) ?_; rw [lcF, if_neg hb]; exact hI.w (AllU_f hb))
        | (have hb : s.toNat.testBit f = true := Decidable.byContradiction (fun z => by rw [if_neg z] at hsel; omega); refine ih (m - 1) (by omega) h27 n2 (f + 1) (by omega) (by omega) (hfr.tr fj) (by rw [Int.pow_succ]; omega) ?_; rw [lcF, if_pos hb]; exact hI2.w (AllU_t hb))
  refine g_aload_n dX9_findRests_0 rfl rfl (cv_X9_218 (M := mX9_findRests) rfl dX9_findRests_1 (yo150 hY) (RO.same _ _ _) (Nat.le_of_ble_eq_true rfl) (e_X9_startsRests hY) <| kV (g_iconst dX9_findRests_4 (g_ist2 dX9_findRests_5 (by decide) rfl ?_)))
  exact L6 (h.I 151 0).toNat _ 1 0 (by omega) (by omega) (FrJ.s0 h) (by decide) (rs_0 h (fun d g g0 => by omega))
set_option maxRecDepth 100000 in
set_option maxHeartbeats 1000000 in
theorem e_X9_firstOfRests {G : GX} {y : LY} {h : HM} {d : Nat} (hY : Lay y) {P : Int → Prop} {b n t : Int} (hI : RsI h P b n) (hb : 1 ≤ b ∧ b ≤ 35161828327081) (hn : n ≤ 46656) (ht : 0 ≤ t ∧ t ≤ 1000000000000) : EvQL G mX9_firstOfRests (d + 1) [.ref 150, .long (lZ t)] y h (fun v : Int => NxQ P t v ∧ (-1 ≤ v ∧ v < 40000000000000)) := by
  have hi18 := hI.1
  have hi19 := hI.2.1
  refine Ev.of rfl [some (.ref 150), some (.long (lZ t)), none, none, none, none, none, none] rfl (Nat.le_of_ble_eq_true rfl) ?_
  have L7 : ∀ (m : Nat) (k l : Int), (m : Int) = n - k → 0 ≤ k ∧ k ≤ n → NxI (rsL h) b t k l → Go G mX9_firstOfRests (rmo (d + 1) 0 0) (ZM G y 0 0 (fun r h1 => ∃ v_ : Int, r = some (.long (lZ v_)) ∧ h1 = h ∧ (fun v : Int => NxQ P t v ∧ (-1 ≤ v ∧ v < 40000000000000)) v_)) y 7 [some (.ref 150), some (.long (lZ t)), none, some (.long (lZ l)), none, some (.int (iZ k)), none, none] [] h (0, 0) := by
    intro m
    induction m using Nat.strongRecOn with | _ m ih =>
    intro k l hm hk hN
    have hlb : -1 ≤ l ∧ l < t + b := by rcases hN with z | z <;> omega
    refine g_iload dX9_firstOfRests_7 rfl (g_aload_n dX9_firstOfRests_9 rfl rfl (gf_X9_208 (M := mX9_firstOfRests) rfl dX9_firstOfRests_10 (yo150 hY) ?_))
    refine g_icmp_ge 59 dX9_firstOfRests_13 rfl (by omega) (by omega) (fun c13 => ?_) (fun c13 => ?_)
    · skip
      refine g_lload_n dX9_firstOfRests_59 rfl rfl ?_
      exact g_lret dX9_firstOfRests_60 rfl rfl ⟨Nat.le_refl _, Nat.le_refl _⟩ (by obtain rfl : k = n := (by omega); exact ⟨_, rfl, rfl, (nx_q hN).w (fun d => (hI.2.2.2.2.2 d).symm), by omega⟩)
    · skip
      have hrb := hI.2.2.2.1 k (by omega) (by omega)
      have hrd : rsL h k = h.L 155 k.toNat := rfl
      refine g_lload_n dX9_firstOfRests_16 rfl rfl (g_aload_n dX9_firstOfRests_17 rfl rfl (gf_X9_24 (M := mX9_firstOfRests) rfl dX9_firstOfRests_18 (yo150 hY) (yr150_16 hY) (g_iload dX9_firstOfRests_21 rfl (g_lald dX9_firstOfRests_23 (ya155 hY) ⟨by omega, by omega, by omega⟩ (g_aload_n dX9_firstOfRests_24 rfl rfl (gf_X9_211 (M := mX9_firstOfRests) rfl dX9_firstOfRests_25 (yo150 hY) ?_))))))
      refine cv_X9_179 (M := mX9_firstOfRests) rfl dX9_firstOfRests_28 (RO.same _ _ _) (Nat.le_of_ble_eq_true rfl) (e_X9_firstBy (t := t) (r := rsL h k) (b := h.L 150 19) (by omega) (by omega) (by omega)) (kQL fun v28 hq28 => ?_)
      rw [hi19] at hq28
      have hv28 := hq28.1
      have hw28 := hq28.2.1
      refine g_lst6 dX9_firstOfRests_31 (by decide) rfl (g_lload_n dX9_firstOfRests_33 rfl rfl (g_lconst (v := 0) dX9_firstOfRests_34 rfl ?_))
      refine g_lcmp_lt 46 dX9_firstOfRests_35 dX9_firstOfRests_36 rfl (by omega) (by omega) (fun c35 => ?_) (fun c35 => ?_)
      · skip
        refine g_lload dX9_firstOfRests_46 rfl (g_goto 52 dX9_firstOfRests_48 rfl (g_lst3 dX9_firstOfRests_52 (by decide) rfl (g_inc5 dX9_firstOfRests_53 (by decide) rfl (g_goto 7 dX9_firstOfRests_56 rfl (g_dr6 ?_)))))
        first | exact ih (m - 1) (by omega) (k + 1) _ (by omega) (by omega) (nx_t (by omega) (by omega) (by omega) hN hq28 (by omega)) | exact ih (m - 1) (by omega) (k + 1) _ (by omega) (by omega) (nx_f (by omega) (by omega) hN hq28 (by omega))
      · skip
        refine g_lload dX9_firstOfRests_39 rfl (g_lload_n dX9_firstOfRests_41 rfl rfl ?_)
        refine g_lcmp_ge 51 dX9_firstOfRests_42 dX9_firstOfRests_43 rfl (by omega) (by omega) (fun c42 => ?_) (fun c42 => ?_)
        · skip
          refine g_lload_n dX9_firstOfRests_51 rfl rfl (g_lst3 dX9_firstOfRests_52 (by decide) rfl (g_inc5 dX9_firstOfRests_53 (by decide) rfl (g_goto 7 dX9_firstOfRests_56 rfl (g_dr6 ?_))))
          first | exact ih (m - 1) (by omega) (k + 1) _ (by omega) (by omega) (nx_t (by omega) (by omega) (by omega) hN hq28 (by omega)) | exact ih (m - 1) (by omega) (k + 1) _ (by omega) (by omega) (nx_f (by omega) (by omega) hN hq28 (by omega))
        · skip
          refine g_lload dX9_firstOfRests_46 rfl (g_goto 52 dX9_firstOfRests_48 rfl (g_lst3 dX9_firstOfRests_52 (by decide) rfl (g_inc5 dX9_firstOfRests_53 (by decide) rfl (g_goto 7 dX9_firstOfRests_56 rfl (g_dr6 ?_)))))
          first | exact ih (m - 1) (by omega) (k + 1) _ (by omega) (by omega) (nx_t (by omega) (by omega) (by omega) hN hq28 (by omega)) | exact ih (m - 1) (by omega) (k + 1) _ (by omega) (by omega) (nx_f (by omega) (by omega) hN hq28 (by omega))
  refine c2_X9_177 (M := mX9_firstOfRests) rfl dX9_firstOfRests_0 (g_lst3 dX9_firstOfRests_3 (by decide) rfl (g_iconst dX9_firstOfRests_4 (g_ist5 dX9_firstOfRests_5 (by decide) rfl ?_)))
  exact L7 n.toNat 0 (-1) (by have := hI.2.2.1; omega) (by have := hI.2.2.1; omega) (Or.inl ⟨rfl, rfl⟩)
set_option maxRecDepth 100000 in
set_option maxHeartbeats 1000000 in
theorem e_X9_areTwo {G : GX} {y : LY} {h : HM} {d : Nat} (hY : Lay y) {F : Nat → Fg} (hR : RF h F) {f g : Int} (hf : R32 f) (hg : R32 g) : EvI G mX9_areTwo (d + 2) [.ref 150, .int (iZ f), .int (iZ g)] y h (pI ((0 ≤ f ∧ f < h.I 151 0) ∧ (0 ≤ g ∧ g < h.I 151 0) ∧ f ≠ g)) := by
  have hnf := hR.1
  have hzf := pI_01 (0 ≤ f ∧ f < h.I 151 0)
  have hyf := pI_eq1 (P := 0 ≤ f ∧ f < h.I 151 0)
  have hzg := pI_01 (0 ≤ g ∧ g < h.I 151 0)
  have hyg := pI_eq1 (P := 0 ≤ g ∧ g < h.I 151 0)
  refine Ev.of rfl [some (.ref 150), some (.int (iZ f)), some (.int (iZ g))] rfl (Nat.le_of_ble_eq_true rfl) ?_
  refine g_aload_n dX9_areTwo_0 rfl rfl (g_iload_n dX9_areTwo_1 rfl rfl (cv_X9_146 (M := mX9_areTwo) rfl dX9_areTwo_2 (yo150 hY) (RO.same _ _ _) (Nat.le_of_ble_eq_true rfl) (e_X9_isFigure hY (by omega) (by omega)) <| kI ?_))
  refine g_if_eq 25 dX9_areTwo_5 rfl (by omega) (fun c5 => ?_) (fun c5 => ?_)
  · skip
    refine g_iconst dX9_areTwo_25 ?_
    exact g_zret dX9_areTwo_26 rfl rfl ⟨Nat.le_refl _, Nat.le_refl _⟩ (by omega) (by first | exact ⟨someI (pI_t (by omega)).symm, rfl⟩ | exact ⟨someI (pI_f (by omega)).symm, rfl⟩)
  · skip
    refine g_aload_n dX9_areTwo_8 rfl rfl (g_iload_n dX9_areTwo_9 rfl rfl (cv_X9_146 (M := mX9_areTwo) rfl dX9_areTwo_10 (yo150 hY) (RO.same _ _ _) (Nat.le_of_ble_eq_true rfl) (e_X9_isFigure hY (by omega) (by omega)) <| kI ?_))
    refine g_if_eq 25 dX9_areTwo_13 rfl (by omega) (fun c13 => ?_) (fun c13 => ?_)
    · skip
      refine g_iconst dX9_areTwo_25 ?_
      exact g_zret dX9_areTwo_26 rfl rfl ⟨Nat.le_refl _, Nat.le_refl _⟩ (by omega) (by first | exact ⟨someI (pI_t (by omega)).symm, rfl⟩ | exact ⟨someI (pI_f (by omega)).symm, rfl⟩)
    · skip
      refine g_iload_n dX9_areTwo_16 rfl rfl (g_iload_n dX9_areTwo_17 rfl rfl ?_)
      refine g_icmp_eq 25 dX9_areTwo_18 rfl (by omega) (by omega) (fun c18 => ?_) (fun c18 => ?_)
      · skip
        refine g_iconst dX9_areTwo_25 ?_
        exact g_zret dX9_areTwo_26 rfl rfl ⟨Nat.le_refl _, Nat.le_refl _⟩ (by omega) (by first | exact ⟨someI (pI_t (by omega)).symm, rfl⟩ | exact ⟨someI (pI_f (by omega)).symm, rfl⟩)
      · skip
        refine g_iconst dX9_areTwo_21 (g_goto 26 dX9_areTwo_22 rfl ?_)
        exact g_zret dX9_areTwo_26 rfl rfl ⟨Nat.le_refl _, Nat.le_refl _⟩ (by omega) (by first | exact ⟨someI (pI_t (by omega)).symm, rfl⟩ | exact ⟨someI (pI_f (by omega)).symm, rfl⟩)
set_option maxRecDepth 100000 in
set_option maxHeartbeats 1000000 in
theorem e_X9_togetherOf {G : GX} {y : LY} {h : HM} {d : Nat} (hY : Lay y) {F : Nat → Fg} (hR : RF h F) {f g t : Int} (hok : ((0 ≤ f ∧ f < h.I 151 0) ∧ (0 ≤ g ∧ g < h.I 151 0) ∧ f ≠ g)) (ht : 0 ≤ t ∧ t ≤ 1000000000000) : EvQW G mX9_togetherOf (d + 5) [.ref 150, .int (iZ f), .int (iZ g), .long (lZ t)] y h (fun v h1 => FrJ h h1 ∧ NxQ (fun d => OutF (F f.toNat) d ∧ OutF (F g.toNat) d) t v ∧ (-1 ≤ v ∧ v < 40000000000000)) := by
  have hnf := hR.1
  have hp2 := p2or (f := f) (g := g) (n := h.I 151 0) (by omega) (by omega) (by omega)
  refine Ev.of rfl [some (.ref 150), some (.int (iZ f)), some (.int (iZ g)), some (.long (lZ t)), none] rfl (Nat.le_of_ble_eq_true rfl) ?_
  refine g_aload_n dX9_togetherOf_0 rfl rfl (g_iconst dX9_togetherOf_1 (g_iload_n dX9_togetherOf_2 rfl rfl (g_ishl dX9_togetherOf_3 (g_iconst dX9_togetherOf_4 (g_iload_n dX9_togetherOf_5 rfl rfl (g_ishl dX9_togetherOf_6 (g_ior dX9_togetherOf_7 ?_)))))))
  rw [hp2.1]
  refine cv_X9_225 (M := mX9_togetherOf) rfl dX9_togetherOf_8 (yo150 hY) (RO.same _ _ _) (Nat.le_of_ble_eq_true rfl) (e_X9_findRests hY hR (s := ((2 ^ f.toNat ||| 2 ^ g.toNat : Nat) : Int)) hp2.2) (kQV fun h8 hq8 => ?_)
  obtain ⟨fj, n, hn, hI⟩ := hq8
  have hlb := lcF_bd (F := F) (s := ((2 ^ f.toNat ||| 2 ^ g.toNat : Nat) : Int)) (h.I 151 0).toNat (fun i hi => (hR.2 i (by omega) (by omega)).2)
  have hp6 := pw6' (n := (h.I 151 0).toNat) (by omega)
  refine g_aload_n dX9_togetherOf_11 rfl rfl (g_lload_n dX9_togetherOf_12 rfl rfl ?_)
  refine cv_X9_228 (M := mX9_togetherOf) rfl dX9_togetherOf_13 (yo150 hY) (RO.same _ _ _) (Nat.le_of_ble_eq_true rfl) (e_X9_firstOfRests hY hI (by omega) hn ht) (kQL fun v13 hq13 => ?_)
  exact g_lret dX9_togetherOf_16 rfl rfl ⟨Nat.le_refl _, Nat.le_refl _⟩ (by exact ⟨_, rfl, fj, hq13.1.w (fun d => all2 (by omega) (by omega) d), hq13.2⟩)
set_option maxRecDepth 100000 in
set_option maxHeartbeats 1000000 in
theorem e_X9_together {G : GX} {y : LY} {h : HM} {d : Nat} (hY : Lay y) {F : Nat → Fg} (hR : RF h F) {f g t : Int} (hf : R32 f) (hg : R32 g) (ht : R64 t) : EvQW G mX9_together (d + 6) [.ref 150, .int (iZ f), .int (iZ g), .long (lZ t)] y h (fun v h1 => FrJ h h1 ∧ ((¬ (((0 ≤ f ∧ f < h.I 151 0) ∧ (0 ≤ g ∧ g < h.I 151 0) ∧ f ≠ g) ∧ (0 ≤ t ∧ t ≤ 1000000000000)) ∧ v = -1) ∨ ((((0 ≤ f ∧ f < h.I 151 0) ∧ (0 ≤ g ∧ g < h.I 151 0) ∧ f ≠ g) ∧ (0 ≤ t ∧ t ≤ 1000000000000)) ∧ EarlP (fun d => OutF (F f.toNat) d ∧ OutF (F g.toNat) d) t v))) := by
  have hnf := hR.1
  have hzp := pI_01 (((0 ≤ f ∧ f < h.I 151 0) ∧ (0 ≤ g ∧ g < h.I 151 0) ∧ f ≠ g))
  have hyp := pI_eq1 (P := ((0 ≤ f ∧ f < h.I 151 0) ∧ (0 ≤ g ∧ g < h.I 151 0) ∧ f ≠ g))
  have hpt := pI_01 (0 ≤ t ∧ t ≤ 1000000000000)
  have hpu := pI_eq1 (P := 0 ≤ t ∧ t ≤ 1000000000000)
  refine Ev.of rfl [some (.ref 150), some (.int (iZ f)), some (.int (iZ g)), some (.long (lZ t)), none] rfl (Nat.le_of_ble_eq_true rfl) ?_
  refine g_aload_n dX9_together_0 rfl rfl (g_iload_n dX9_together_1 rfl rfl (g_iload_n dX9_together_2 rfl rfl (cv_X9_231 (M := mX9_together) rfl dX9_together_3 (yo150 hY) (RO.same _ _ _) (Nat.le_of_ble_eq_true rfl) (e_X9_areTwo hY hR (by omega) (by omega)) <| kI ?_)))
  refine g_if_eq 29 dX9_together_6 rfl (by omega) (fun c6 => ?_) (fun c6 => ?_)
  · skip
    refine c2_X9_177 (M := mX9_together) rfl dX9_together_29 ?_
    exact g_lret dX9_together_32 rfl rfl ⟨Nat.le_refl _, Nat.le_refl _⟩ (by first | exact ⟨-1, rfl, FrJ.rf h, Or.inl ⟨by omega, rfl⟩⟩ | exact ⟨_, rfl, hq20.1, Or.inr ⟨by omega, hq20.2.1.e (by omega)⟩⟩)
  · skip
    refine g_lload_n dX9_together_9 rfl rfl (cv_X9_165 (M := mX9_together) rfl dX9_together_10 (RO.same _ _ _) (Nat.le_of_ble_eq_true rfl) (e_X9_isDay (by omega)) <| kI ?_)
    refine g_if_eq 29 dX9_together_13 rfl (by omega) (fun c13 => ?_) (fun c13 => ?_)
    · skip
      refine c2_X9_177 (M := mX9_together) rfl dX9_together_29 ?_
      exact g_lret dX9_together_32 rfl rfl ⟨Nat.le_refl _, Nat.le_refl _⟩ (by first | exact ⟨-1, rfl, FrJ.rf h, Or.inl ⟨by omega, rfl⟩⟩ | exact ⟨_, rfl, hq20.1, Or.inr ⟨by omega, hq20.2.1.e (by omega)⟩⟩)
    · skip
      refine g_aload_n dX9_together_16 rfl rfl (g_iload_n dX9_together_17 rfl rfl (g_iload_n dX9_together_18 rfl rfl (g_lload_n dX9_together_19 rfl rfl ?_)))
      refine cv_X9_235 (M := mX9_together) rfl dX9_together_20 (yo150 hY) (RO.same _ _ _) (Nat.le_of_ble_eq_true rfl) (e_X9_togetherOf hY hR (by omega) (by omega)) (kQW fun v20 h20 hq20 => ?_)
      have hvb := hq20.2.2
      refine cv_X9_189 (M := mX9_together) rfl dX9_together_23 (RO.same _ _ _) (Nat.le_of_ble_eq_true rfl) (e_X9_toEnd (by omega)) <| kL (g_goto 32 dX9_together_26 rfl ?_)
      exact g_lret dX9_together_32 rfl rfl ⟨Nat.le_refl _, Nat.le_refl _⟩ (by first | exact ⟨-1, rfl, FrJ.rf h, Or.inl ⟨by omega, rfl⟩⟩ | exact ⟨_, rfl, hq20.1, Or.inr ⟨by omega, hq20.2.1.e (by omega)⟩⟩)
set_option maxRecDepth 100000 in
set_option maxHeartbeats 1000000 in
theorem e_X9_meetings {G : GX} {y : LY} {h : HM} {d : Nat} (hY : Lay y) {F : Nat → Fg} (hR : RF h F) {f g t u : Int} (hf : R32 f) (hg : R32 g) (ht : R64 t) (hu : R64 u) : EvQW G mX9_meetings (d + 5) [.ref 150, .int (iZ f), .int (iZ g), .long (lZ t), .long (lZ u)] y h (fun v h1 => FrJ h h1 ∧ ((¬ (((0 ≤ f ∧ f < h.I 151 0) ∧ (0 ≤ g ∧ g < h.I 151 0) ∧ f ≠ g) ∧ (0 ≤ t ∧ t ≤ u ∧ u ≤ 1000000000000)) ∧ v = -1) ∨ ((((0 ≤ f ∧ f < h.I 151 0) ∧ (0 ≤ g ∧ g < h.I 151 0) ∧ f ≠ g) ∧ (0 ≤ t ∧ t ≤ u ∧ u ≤ 1000000000000)) ∧ v = cntN (fun d => OutF (F f.toNat) d ∧ OutF (F g.toNat) d) t (u - t + 1).toNat))) := by
  have hnf := hR.1
  have hzp := pI_01 (((0 ≤ f ∧ f < h.I 151 0) ∧ (0 ≤ g ∧ g < h.I 151 0) ∧ f ≠ g))
  have hyp := pI_eq1 (P := ((0 ≤ f ∧ f < h.I 151 0) ∧ (0 ≤ g ∧ g < h.I 151 0) ∧ f ≠ g))
  have hzs := pI_01 (0 ≤ t ∧ t ≤ u ∧ u ≤ 1000000000000)
  have hys := pI_eq1 (P := 0 ≤ t ∧ t ≤ u ∧ u ≤ 1000000000000)
  refine Ev.of rfl [some (.ref 150), some (.int (iZ f)), some (.int (iZ g)), some (.long (lZ t)), none, some (.long (lZ u)), none, none, none, none] rfl (Nat.le_of_ble_eq_true rfl) ?_
  have L39 : ∀ (m : Nat) (h30 : HM) (n k : Int), (m : Int) = n - k → 0 ≤ k ∧ k ≤ n → n ≤ 46656 → ((0 ≤ f ∧ f < h.I 151 0) ∧ (0 ≤ g ∧ g < h.I 151 0) ∧ f ≠ g) ∧ (0 ≤ t ∧ t ≤ u ∧ u ≤ 1000000000000) → FrJ h h30 → RsI h30 (AllOut F ((2 ^ f.toNat ||| 2 ^ g.toNat : Nat) : Int)) (lcF F ((2 ^ f.toNat ||| 2 ^ g.toNat : Nat) : Int) (h.I 151 0).toNat) n → Go G mX9_meetings (rmo (d + 5) 0 0) (ZM G y 0 0 (fun r h1 => ∃ v_ : Int, r = some (.long (lZ v_)) ∧ (fun v h1 => FrJ h h1 ∧ ((¬ (((0 ≤ f ∧ f < h.I 151 0) ∧ (0 ≤ g ∧ g < h.I 151 0) ∧ f ≠ g) ∧ (0 ≤ t ∧ t ≤ u ∧ u ≤ 1000000000000)) ∧ v = -1) ∨ ((((0 ≤ f ∧ f < h.I 151 0) ∧ (0 ≤ g ∧ g < h.I 151 0) ∧ f ≠ g) ∧ (0 ≤ t ∧ t ≤ u ∧ u ≤ 1000000000000)) ∧ v = cntN (fun d => OutF (F f.toNat) d ∧ OutF (F g.toNat) d) t (u - t + 1).toNat))) v_ h1)) y 39 [some (.ref 150), some (.int (iZ f)), some (.int (iZ g)), some (.long (lZ t)), none, some (.long (lZ u)), none, some (.long (lZ (cntN (ExR (rsL h30) (lcF F ((2 ^ f.toNat ||| 2 ^ g.toNat : Nat) : Int) (h.I 151 0).toNat) k) t (u - t + 1).toNat))), none, some (.int (iZ k))] [] h30 (0, 0) := by
    intro m
    induction m using Nat.strongRecOn with | _ m ih =>
    intro h30 n k hm hk hn hok fj hI
    have hi18 := hI.1
    have hi19 := hI.2.1
    have hlb := lcF_bd (F := F) (s := ((2 ^ f.toNat ||| 2 ^ g.toNat : Nat) : Int)) (h.I 151 0).toNat (fun i hi => (hR.2 i (by omega) (by omega)).2)
    have hp6 := pw6' (n := (h.I 151 0).toNat) (by omega)
    have hsep := rs_sep (by omega) hI
    refine g_iload dX9_meetings_39 rfl (g_aload_n dX9_meetings_41 rfl rfl (gf_X9_208 (M := mX9_meetings) rfl dX9_meetings_42 (yo150 hY) ?_))
    refine g_icmp_ge 76 dX9_meetings_45 rfl (by omega) (by omega) (fun c45 => ?_) (fun c45 => ?_)
    · skip
      refine g_lload dX9_meetings_76 rfl ?_
      exact g_lret dX9_meetings_78 rfl rfl ⟨Nat.le_refl _, Nat.le_refl _⟩ (by obtain rfl : k = n := (by omega); refine ⟨_, rfl, fj, Or.inr ⟨hok, cntN_congr (fun i _ => ?_)⟩⟩; rw [← hI.2.2.2.2.2]; exact all2 (by omega) (by omega) _)
    · skip
      have hrb := hI.2.2.2.1 k (by omega) (by omega)
      have hrd : rsL h30 k = h30.L 155 k.toNat := rfl
      refine g_lload dX9_meetings_48 rfl (g_lload_n dX9_meetings_50 rfl rfl (g_lload dX9_meetings_51 rfl (g_aload_n dX9_meetings_53 rfl rfl (gf_X9_24 (M := mX9_meetings) rfl dX9_meetings_54 (yo150 hY) (yr150_16 hY) (g_iload dX9_meetings_57 rfl (g_lald dX9_meetings_59 (ya155 hY) ⟨by omega, by omega, by omega⟩ (g_aload_n dX9_meetings_60 rfl rfl (gf_X9_211 (M := mX9_meetings) rfl dX9_meetings_61 (yo150 hY) (cv_X9_200 (M := mX9_meetings) rfl dX9_meetings_64 (RO.same _ _ _) (Nat.le_of_ble_eq_true rfl) (e_X9_manyBy (by omega) (by omega) (by omega) (by omega)) <| kL (g_ladd dX9_meetings_67 (g_lst7 dX9_meetings_68 (by decide) rfl ?_)))))))))))
      refine g_inc9 dX9_meetings_70 (by decide) rfl (g_goto 39 dX9_meetings_73 rfl ?_)
      have hx := ih (m - 1) (by omega) h30 n (k + 1) (by omega) (by omega) hn hok fj hI
      rw [cnt_st (by omega) (fun d j j0 j1 z1 z2 => by have := hsep j k d j0 (by omega) (by omega) (by omega) z1 z2; omega)] at hx
      rw [hi19]
      exact hx
  refine g_aload_n dX9_meetings_0 rfl rfl (g_iload_n dX9_meetings_1 rfl rfl (g_iload_n dX9_meetings_2 rfl rfl (cv_X9_231 (M := mX9_meetings) rfl dX9_meetings_3 (yo150 hY) (RO.same _ _ _) (Nat.le_of_ble_eq_true rfl) (e_X9_areTwo hY hR (by omega) (by omega)) <| kI ?_)))
  refine g_if_eq 18 dX9_meetings_6 rfl (by omega) (fun c6 => ?_) (fun c6 => ?_)
  · skip
    refine c2_X9_177 (M := mX9_meetings) rfl dX9_meetings_18 ?_
    exact g_lret dX9_meetings_21 rfl rfl ⟨Nat.le_refl _, Nat.le_refl _⟩ (by exact ⟨-1, rfl, FrJ.rf h, Or.inl ⟨by omega, rfl⟩⟩)
  · skip
    refine g_lload_n dX9_meetings_9 rfl rfl (g_lload dX9_meetings_10 rfl (cv_X9_196 (M := mX9_meetings) rfl dX9_meetings_12 (RO.same _ _ _) (Nat.le_of_ble_eq_true rfl) (e_X9_areDays (by omega) (by omega)) <| kI ?_))
    refine g_if_ne 22 dX9_meetings_15 rfl (by omega) (fun c15 => ?_) (fun c15 => ?_)
    · skip
      have hp2 := p2or (f := f) (g := g) (n := h.I 151 0) (by omega) (by omega) (by omega)
      refine g_aload_n dX9_meetings_22 rfl rfl (g_iconst dX9_meetings_23 (g_iload_n dX9_meetings_24 rfl rfl (g_ishl dX9_meetings_25 (g_iconst dX9_meetings_26 (g_iload_n dX9_meetings_27 rfl rfl (g_ishl dX9_meetings_28 (g_ior dX9_meetings_29 ?_)))))))
      rw [hp2.1]
      refine cv_X9_225 (M := mX9_meetings) rfl dX9_meetings_30 (yo150 hY) (RO.same _ _ _) (Nat.le_of_ble_eq_true rfl) (e_X9_findRests hY hR (s := ((2 ^ f.toNat ||| 2 ^ g.toNat : Nat) : Int)) hp2.2) (kQV fun h30 hq30 => ?_)
      obtain ⟨fj, n, hn, hI⟩ := hq30
      refine g_lconst (v := 0) dX9_meetings_33 rfl (g_lst7 dX9_meetings_34 (by decide) rfl (g_iconst dX9_meetings_36 (g_ist9 dX9_meetings_37 (by decide) rfl ?_)))
      have hx := L39 n.toNat h30 n 0 (by have := hI.2.2.1; omega) (by have := hI.2.2.1; omega) hn (by omega) fj hI
      rw [cnt_0] at hx
      exact hx
    · skip
      refine c2_X9_177 (M := mX9_meetings) rfl dX9_meetings_18 ?_
      exact g_lret dX9_meetings_21 rfl rfl ⟨Nat.le_refl _, Nat.le_refl _⟩ (by exact ⟨-1, rfl, FrJ.rf h, Or.inl ⟨by omega, rfl⟩⟩)
set_option maxRecDepth 100000 in
set_option maxHeartbeats 1000000 in
theorem e_X9_areSome {G : GX} {y : LY} {h : HM} {d : Nat} (hY : Lay y) {F : Nat → Fg} (hR : RF h F) {s : Int} (hs : R32 s) : EvI G mX9_areSome (d + 1) [.ref 150, .int (iZ s)] y h (pI (0 < s ∧ s < 2 ^ (h.I 151 0).toNat)) := by
  have hnf := hR.1
  have h2p : (2 : Int) ^ (h.I 151 0).toNat ≤ 64 := p2_6 (by omega)
  have h2s := iShl1' (k := h.I 151 0) (by omega)
  have h2q := p2_1 (h.I 151 0).toNat
  refine Ev.of rfl [some (.ref 150), some (.int (iZ s))] rfl (Nat.le_of_ble_eq_true rfl) ?_
  refine g_iload_n dX9_areSome_0 rfl rfl (g_i2l dX9_areSome_1 (by omega) (g_lconst (v := 1) dX9_areSome_2 rfl (g_iconst dX9_areSome_3 (g_aload_n dX9_areSome_4 rfl rfl (gf_X9_7 (M := mX9_areSome) rfl dX9_areSome_5 (yo150 hY) (yr150_0 hY) (g_iconst dX9_areSome_8 (g_iaN 0 dX9_areSome_9 (ya151 hY) ⟨by decide, by decide, by decide⟩ rfl (g_ishl dX9_areSome_10 ?_))))))))
  rw [h2s]
  refine g_iconst dX9_areSome_11 (g_isub dX9_areSome_12 (g_i2l dX9_areSome_13 (by omega) (cv_X9_71 (M := mX9_areSome) rfl dX9_areSome_14 (RO.same _ _ _) (Nat.le_of_ble_eq_true rfl) (e_X9_in (by omega) (by omega) (by omega)) <| kI ?_)))
  exact g_zret dX9_areSome_17 rfl rfl ⟨Nat.le_refl _, Nat.le_refl _⟩ (pI_01 _) (by exact ⟨someI (pI_congr (by omega)), rfl⟩)
set_option maxRecDepth 100000 in
set_option maxHeartbeats 1000000 in
theorem e_X9_all {G : GX} {y : LY} {h : HM} {d : Nat} (hY : Lay y) {F : Nat → Fg} (hR : RF h F) {s t : Int} (hs : R32 s) (ht : R64 t) : EvQW G mX9_all (d + 5) [.ref 150, .int (iZ s), .long (lZ t)] y h (fun v h1 => FrJ h h1 ∧ ((¬ ((0 < s ∧ s < 2 ^ (h.I 151 0).toNat) ∧ (0 ≤ t ∧ t ≤ 1000000000000)) ∧ v = -1) ∨ (((0 < s ∧ s < 2 ^ (h.I 151 0).toNat) ∧ (0 ≤ t ∧ t ≤ 1000000000000)) ∧ EarlP (AllOut F s) t v))) := by
  have hnf := hR.1
  have h2p : (2 : Int) ^ (h.I 151 0).toNat ≤ 64 := p2_6 (by omega)
  have h2s := iShl1' (k := h.I 151 0) (by omega)
  have h2q := p2_1 (h.I 151 0).toNat
  have hzs := pI_01 ((0 < s ∧ s < 2 ^ (h.I 151 0).toNat))
  have hys := pI_eq1 (P := (0 < s ∧ s < 2 ^ (h.I 151 0).toNat))
  have hpt := pI_01 (0 ≤ t ∧ t ≤ 1000000000000)
  have hpu := pI_eq1 (P := 0 ≤ t ∧ t ≤ 1000000000000)
  refine Ev.of rfl [some (.ref 150), some (.int (iZ s)), some (.long (lZ t)), none] rfl (Nat.le_of_ble_eq_true rfl) ?_
  refine g_aload_n dX9_all_0 rfl rfl (g_iload_n dX9_all_1 rfl rfl (cv_X9_239 (M := mX9_all) rfl dX9_all_2 (yo150 hY) (RO.same _ _ _) (Nat.le_of_ble_eq_true rfl) (e_X9_areSome hY hR (by omega)) <| kI ?_))
  refine g_if_eq 15 dX9_all_5 rfl (by omega) (fun c5 => ?_) (fun c5 => ?_)
  · skip
    refine c2_X9_177 (M := mX9_all) rfl dX9_all_15 ?_
    exact g_lret dX9_all_18 rfl rfl ⟨Nat.le_refl _, Nat.le_refl _⟩ (by first | exact ⟨-1, rfl, FrJ.rf h, Or.inl ⟨by omega, rfl⟩⟩ | exact ⟨_, rfl, fj, Or.inr ⟨by omega, hq26.1.e (by omega)⟩⟩)
  · skip
    refine g_lload_n dX9_all_8 rfl rfl (cv_X9_165 (M := mX9_all) rfl dX9_all_9 (RO.same _ _ _) (Nat.le_of_ble_eq_true rfl) (e_X9_isDay (by omega)) <| kI ?_)
    refine g_if_ne 19 dX9_all_12 rfl (by omega) (fun c12 => ?_) (fun c12 => ?_)
    · skip
      refine g_aload_n dX9_all_19 rfl rfl (g_iload_n dX9_all_20 rfl rfl ?_)
      refine cv_X9_225 (M := mX9_all) rfl dX9_all_21 (yo150 hY) (RO.same _ _ _) (Nat.le_of_ble_eq_true rfl) (e_X9_findRests hY hR (s := s) (by omega)) (kQV fun h21 hq21 => ?_)
      obtain ⟨fj, n, hn, hI⟩ := hq21
      have hlb := lcF_bd (F := F) (s := s) (h.I 151 0).toNat (fun i hi => (hR.2 i (by omega) (by omega)).2)
      have hp6 := pw6' (n := (h.I 151 0).toNat) (by omega)
      refine g_aload_n dX9_all_24 rfl rfl (g_lload_n dX9_all_25 rfl rfl ?_)
      refine cv_X9_228 (M := mX9_all) rfl dX9_all_26 (yo150 hY) (RO.same _ _ _) (Nat.le_of_ble_eq_true rfl) (e_X9_firstOfRests hY hI (by omega) hn (by omega)) (kQL fun v26 hq26 => ?_)
      have hvb := hq26.2
      refine cv_X9_189 (M := mX9_all) rfl dX9_all_29 (RO.same _ _ _) (Nat.le_of_ble_eq_true rfl) (e_X9_toEnd (by omega)) <| kL ?_
      exact g_lret dX9_all_32 rfl rfl ⟨Nat.le_refl _, Nat.le_refl _⟩ (by first | exact ⟨-1, rfl, FrJ.rf h, Or.inl ⟨by omega, rfl⟩⟩ | exact ⟨_, rfl, fj, Or.inr ⟨by omega, hq26.1.e (by omega)⟩⟩)
    · skip
      refine c2_X9_177 (M := mX9_all) rfl dX9_all_15 ?_
      exact g_lret dX9_all_18 rfl rfl ⟨Nat.le_refl _, Nat.le_refl _⟩ (by first | exact ⟨-1, rfl, FrJ.rf h, Or.inl ⟨by omega, rfl⟩⟩ | exact ⟨_, rfl, fj, Or.inr ⟨by omega, hq26.1.e (by omega)⟩⟩)
set_option maxRecDepth 100000 in
set_option maxHeartbeats 1000000 in
theorem e_X9_cycle {G : GX} {y : LY} {h : HM} {d : Nat} (hY : Lay y) {F : Nat → Fg} (hR : RF h F) {s : Int} (hs : R32 s) : EvQL G mX9_cycle (d + 3) [.ref 150, .int (iZ s)] y h (fun v : Int => (¬ (0 < s ∧ s < 2 ^ (h.I 151 0).toNat) ∧ v = -1) ∨ ((0 < s ∧ s < 2 ^ (h.I 151 0).toNat) ∧ v = lcF F s 6)) := by
  have hnf := hR.1
  have h2p : (2 : Int) ^ (h.I 151 0).toNat ≤ 64 := p2_6 (by omega)
  have h2s := iShl1' (k := h.I 151 0) (by omega)
  have h2q := p2_1 (h.I 151 0).toNat
  have hzs := pI_01 ((0 < s ∧ s < 2 ^ (h.I 151 0).toNat))
  have hys := pI_eq1 (P := (0 < s ∧ s < 2 ^ (h.I 151 0).toNat))
  refine Ev.of rfl [some (.ref 150), some (.int (iZ s)), none, none, none] rfl (Nat.le_of_ble_eq_true rfl) ?_
  have L17 : ∀ (m : Nat) (f : Nat), (m : Int) = (h.I 151 0) - f → (f : Int) ≤ (h.I 151 0) → (0 < s ∧ s < 2 ^ (h.I 151 0).toNat) → Go G mX9_cycle (rmo (d + 3) 0 0) (ZM G y 0 0 (fun r h1 => ∃ v_ : Int, r = some (.long (lZ v_)) ∧ h1 = h ∧ (fun v : Int => (¬ (0 < s ∧ s < 2 ^ (h.I 151 0).toNat) ∧ v = -1) ∨ ((0 < s ∧ s < 2 ^ (h.I 151 0).toNat) ∧ v = lcF F s 6)) v_)) y 17 [some (.ref 150), some (.int (iZ s)), some (.long (lZ (lcF F s f))), none, some (.int (iZ f))] [] h (0, 0) := by
    intro m
    induction m using Nat.strongRecOn with | _ m ih =>
    intro f hm hf hok
    have hsel := selB (s := s) (f := (f : Int)) (by omega)
    have hia := iAnd_r (iShr s f) 1
    have hlb := lcF_bd (F := F) (s := s) f (fun i hi => (hR.2 i (by omega) (by omega)).2)
    have hp6 := pw6' (n := f) (by omega)
    refine g_iload dX9_cycle_17 rfl (g_aload_n dX9_cycle_19 rfl rfl (gf_X9_7 (M := mX9_cycle) rfl dX9_cycle_20 (yo150 hY) (yr150_0 hY) (g_iconst dX9_cycle_23 (g_iaN 0 dX9_cycle_24 (ya151 hY) ⟨by decide, by decide, by decide⟩ rfl ?_))))
    refine g_icmp_ge 60 dX9_cycle_25 rfl (by omega) (by omega) (fun c25 => ?_) (fun c25 => ?_)
    · skip
      refine g_lload_n dX9_cycle_60 rfl rfl ?_
      exact g_lret dX9_cycle_61 rfl rfl ⟨Nat.le_refl _, Nat.le_refl _⟩ (by obtain rfl : f = (h.I 151 0).toNat := (by omega); refine ⟨_, rfl, rfl, Or.inr ⟨hok, ?_⟩⟩; have q := lcF_6 (F := F) (s := s) (n := (h.I 151 0).toNat) (by omega) (6 - (h.I 151 0).toNat); rw [show (h.I 151 0).toNat + (6 - (h.I 151 0).toNat) = 6 by omega] at q; exact q.symm)
    · skip
      refine g_iload_n dX9_cycle_28 rfl rfl (g_iload dX9_cycle_29 rfl (g_ishr dX9_cycle_31 (g_iconst dX9_cycle_32 (g_iand dX9_cycle_33 (g_iconst dX9_cycle_34 ?_)))))
      refine g_icmp_ne 52 dX9_cycle_35 rfl (by omega) (by omega) (fun c35 => ?_) (fun c35 => ?_)
      · skip
        refine g_lload_n dX9_cycle_52 rfl rfl (g_lst2 dX9_cycle_53 (by decide) rfl (g_inc4 dX9_cycle_54 (by decide) rfl (g_goto 17 dX9_cycle_57 rfl ?_)))
        have hsel := hsel (by omega)
        rw [Int.toNat_natCast] at hsel
        have hx := ih (m - 1) (by omega) (f + 1) (by omega) (by omega) hok
        first
        | (have hb : ¬ s.toNat.testBit f = true := (fun z => by rw [if_pos z] at hsel; omega); rw [show lcF F s (f + 1) = lcF F s f from if_neg hb] at hx; exact hx)
        | (have hb : s.toNat.testBit f = true := Decidable.byContradiction (fun z => by rw [if_neg z] at hsel; omega); rw [show lcF F s (f + 1) = lcI (lcF F s f) (rn (F f)) from if_pos hb] at hx; exact hx)
      · skip
        have hFf := hR.2 (f : Int) (by omega) (by omega)
        rw [Int.toNat_natCast] at hFf
        have hrn := rn_bd hFf.2.1
        refine g_lload_n dX9_cycle_38 rfl rfl (g_aload_n dX9_cycle_39 rfl rfl (g_iload dX9_cycle_40 rfl (cv_X9_152 (M := mX9_cycle) rfl dX9_cycle_42 (yo150 hY) (RO.same _ _ _) (Nat.le_of_ble_eq_true rfl) (e_X9_roundOf hY (by omega) hFf.1 hFf.2) <| kI (g_i2l dX9_cycle_45 (by omega) (cv_X9_215 (M := mX9_cycle) rfl dX9_cycle_46 (RO.same _ _ _) (Nat.le_of_ble_eq_true rfl) (e_X9_multiple (by omega) (by omega)) <| kL (g_goto 53 dX9_cycle_49 rfl (g_lst2 dX9_cycle_53 (by decide) rfl (g_inc4 dX9_cycle_54 (by decide) rfl (g_goto 17 dX9_cycle_57 rfl ?_)))))))))
        have hsel := hsel (by omega)
        rw [Int.toNat_natCast] at hsel
        have hx := ih (m - 1) (by omega) (f + 1) (by omega) (by omega) hok
        first
        | (have hb : ¬ s.toNat.testBit f = true := (fun z => by rw [if_pos z] at hsel; omega); rw [show lcF F s (f + 1) = lcF F s f from if_neg hb] at hx; exact hx)
        | (have hb : s.toNat.testBit f = true := Decidable.byContradiction (fun z => by rw [if_neg z] at hsel; omega); rw [show lcF F s (f + 1) = lcI (lcF F s f) (rn (F f)) from if_pos hb] at hx; exact hx)
  refine g_aload_n dX9_cycle_0 rfl rfl (g_iload_n dX9_cycle_1 rfl rfl (cv_X9_239 (M := mX9_cycle) rfl dX9_cycle_2 (yo150 hY) (RO.same _ _ _) (Nat.le_of_ble_eq_true rfl) (e_X9_areSome hY hR (by omega)) <| kI ?_))
  refine g_if_ne 12 dX9_cycle_5 rfl (by omega) (fun c5 => ?_) (fun c5 => ?_)
  · skip
    refine g_lconst (v := 1) dX9_cycle_12 rfl (g_lst2 dX9_cycle_13 (by decide) rfl (g_iconst dX9_cycle_14 (g_ist4 dX9_cycle_15 (by decide) rfl ?_)))
    exact L17 (h.I 151 0).toNat 0 (by omega) (by omega) (by omega)
  · skip
    refine c2_X9_177 (M := mX9_cycle) rfl dX9_cycle_8 ?_
    exact g_lret dX9_cycle_11 rfl rfl ⟨Nat.le_refl _, Nat.le_refl _⟩ (by exact ⟨-1, rfl, rfl, Or.inl ⟨by omega, rfl⟩⟩)
