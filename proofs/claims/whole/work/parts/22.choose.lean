abbrev OutF (F : Fg) (t : Int) : Prop := Out F.te F.st F.la F.ga t
theorem alH_I (h : HM) (b : Nat) (v : Int) (a j : Nat) : (alH h b v).I a j = if a = 71 ∧ j = 4 then h.I 71 4 + 1 else (wr5 h (76 + (h.I 71 4).toNat) (c5 h b)).I a j := rfl
theorem alH_L (h : HM) (b : Nat) (v : Int) (a j : Nat) : (alH h b v).L a j = if a = 73 ∧ j = (h.I 71 4 + 1).toNat then lcI (h.L 73 (h.I 71 4).toNat) (rn (c5 h b)) else if a = 75 ∧ j = (h.I 71 4).toNat then v else if a = 74 ∧ j = (h.I 71 4).toNat then (Int.gcd (h.L 73 (h.I 71 4).toNat) (rn (c5 h b)) : Int) else h.L a j := rfl
theorem Lvl_eq {h h1 : HM} {l : Nat} (e1 : ∀ j, h1.I (76 + l) j = h.I (76 + l) j) (e2 : h1.L 73 l = h.L 73 l) (e3 : h1.L 73 (l + 1) = h.L 73 (l + 1)) (e4 : h1.L 74 l = h.L 74 l) (e5 : h1.L 75 l = h.L 75 l) (hl : Lvl h l) : Lvl h1 l := by
  have e6 : c5 h1 (76 + l) = c5 h (76 + l) := by simp only [c5, e1]
  obtain ⟨q1, q2, q3, q4, q5⟩ := hl
  refine ⟨FB_eq e1 q1, by rw [e2]; exact q2, ?_, ?_, ?_⟩
  · rw [e4, e2, e6]; exact q3
  · rw [e3, e2, e6]; exact q4
  · rw [e2, e4, e5, e6]; exact q5
theorem lcI_bd {a b : Int} {n : Nat} (ha : 1 ≤ a ∧ a ≤ 181 ^ n) (hb : 1 ≤ b ∧ b ≤ 181) : 1 ≤ lcI a b ∧ lcI a b ≤ 181 ^ (n + 1) := by
  have hg := gcd_bd (a := a) (b := b) (by omega) (by omega)
  have h1 : 1 ≤ b / (Int.gcd a b : Int) := Int.le_ediv_of_mul_le (by omega) (by omega)
  have h2 : b / (Int.gcd a b : Int) ≤ 181 := Int.le_trans (Int.ediv_le_self _ (by omega)) (by omega)
  unfold lcI
  have := Int.mul_le_mul ha.2 h2 (by omega) (by omega)
  have h3 := Int.mul_le_mul ha.1 h1 (by omega) (by omega)
  rw [Int.pow_succ]
  omega
theorem FSt_add {h : HM} {n b : Nat} {v : Int} (hS : FSt h n) (hn : n ≤ 5) (hF : FB h b) (hv : InvP (h.L 73 n / (Int.gcd (h.L 73 n) (rn (c5 h b)) : Int)) (rn (c5 h b) / (Int.gcd (h.L 73 n) (rn (c5 h b)) : Int)) v) : FSt (alH h b v) (n + 1) ∧ (alH h b v).L 73 (n + 1) = lcI (h.L 73 n) (rn (c5 h b)) ∧ c5 (alH h b v) (76 + n) = c5 h b ∧ ∀ l, l < n → c5 (alH h b v) (76 + l) = c5 h (76 + l) := by
  obtain ⟨e0, e1, e2, e3, e4⟩ := hS
  have en : (h.I 71 4).toNat = n := by omega
  have en1 : (h.I 71 4 + 1).toNat = n + 1 := by omega
  have hr := rnd_bd (la := h.I b 3) (te := h.I b 0) (by omega)
  have hr2 : 1 ≤ rn (c5 h b) ∧ rn (c5 h b) ≤ 181 := by show 1 ≤ rnd (h.I b 3) (h.I b 0) ∧ rnd (h.I b 3) (h.I b 0) ≤ 181; omega
  have i1 : ∀ l, l < n → ∀ j, (alH h b v).I (76 + l) j = h.I (76 + l) j := fun l hl j => by rw [alH_I, if_neg (by omega), wr5_I _ _ _ _ _ (Or.inl (by omega))]
  have i2 : c5 (alH h b v) (76 + n) = c5 h b := by
    have : c5 (alH h b v) (76 + n) = c5 (wr5 h (76 + n) (c5 h b)) (76 + n) := by
      simp only [c5, alH_I, en]
      simp
      omega
    rw [this, c5_wr5]
  have l3 : ∀ l, l ≤ n → (alH h b v).L 73 l = h.L 73 l := fun l hl => by rw [alH_L, en1]; simp; omega
  have l3' : (alH h b v).L 73 (n + 1) = lcI (h.L 73 n) (rn (c5 h b)) := by rw [alH_L, en1, en]; simp
  have l4 : ∀ l, l < n → (alH h b v).L 74 l = h.L 74 l := fun l hl => by rw [alH_L, en]; simp; omega
  have l4' : (alH h b v).L 74 n = (Int.gcd (h.L 73 n) (rn (c5 h b)) : Int) := by rw [alH_L, en]; simp
  have l5 : ∀ l, l < n → (alH h b v).L 75 l = h.L 75 l := fun l hl => by rw [alH_L, en]; simp; omega
  have l5' : (alH h b v).L 75 n = v := by rw [alH_L, en]; simp
  have hbd := lcI_bd e3 hr2
  refine ⟨⟨by rw [alH_I]; simp; omega, by omega, (l3 0 (by omega)).trans e2, by rw [l3']; exact hbd, fun l hl => ?_⟩, l3', i2, fun l hl => by simp only [c5, i1 l hl]⟩
  rcases (by omega : l < n ∨ l = n) with z | rfl
  · exact Lvl_eq (i1 l z) (l3 l (by omega)) (l3 (l + 1) (by omega)) (l4 l z) (l5 l z) (e4 l z)
  · refine ⟨?_, by rw [l3 l (by omega)]; exact e3, by rw [l4', l3 l (by omega), i2], by rw [l3', l3 l (by omega), i2], by rw [l3 l (by omega), l4', l5', i2]; exact hv⟩
    have : ∀ F : Fg, c5 (alH h b v) (76 + l) = F → FgB F → FB (alH h b v) (76 + l) := by
      intro F e q; subst e; exact q
    exact this _ i2 hF
noncomputable def lcF (F : Nat → Fg) (some : Int) : Nat → Int
  | 0 => 1
  | f + 1 => if some.toNat.testBit f = true then lcI (lcF F some f) (rn (F f)) else lcF F some f
theorem selB {s f : Int} (hs : 0 ≤ s ∧ s < 2147483648) (hf : 0 ≤ f ∧ f ≤ 5) : iAnd (iShr s f) 1 = if s.toNat.testBit f.toNat = true then 1 else 0 := by
  obtain ⟨n, rfl⟩ := Int.eq_ofNat_of_zero_le hs.1
  have e1 := iShrN (a := n) (k := f.toNat) (by omega) (by omega)
  rw [show ((f.toNat : Nat) : Int) = f by omega] at e1
  rw [e1]
  have e2 := iAndN (a := n / 2 ^ f.toNat) (b := 1) (Nat.lt_of_le_of_lt (Nat.div_le_self _ _) (by omega))
  rw [show ((1 : Nat) : Int) = 1 from rfl] at e2
  rw [e2, Nat.and_one_is_mod, Int.toNat_natCast, Nat.testBit_eq_decide_div_mod_eq]
  rcases Nat.mod_two_eq_zero_or_one (n / 2 ^ f.toNat) with h2 | h2 <;> simp [h2]
/-- what choosing leaves alone -/
def FrF (h h1 : HM) : Prop := ∀ a, (a < 71 ∨ 81 < a) → h1.I a = h.I a ∧ h1.L a = h.L a
def ChP (h : HM) (F : Nat → Fg) (some : Int) (h1 : HM) (f n : Nat) : Prop := FrF h h1 ∧ FSt h1 n ∧ n ≤ f ∧ h1.L 73 n = lcF F some f ∧ ∀ t : Int, (∀ l, l < n → OutF (c5 h1 (76 + l)) t) ↔ ∀ g, g < f → some.toNat.testBit g = true → OutF (F g) t
theorem alH_fr {h : HM} {b : Nat} {v : Int} (hn : 0 ≤ h.I 71 4 ∧ h.I 71 4 ≤ 5) : FrF h (alH h b v) := by
  intro a ha
  constructor
  · funext j; rw [alH_I, if_neg (by omega), wr5_I _ _ _ _ _ (Or.inl (by omega))]
  · funext j; rw [alH_L, if_neg (by omega), if_neg (by omega), if_neg (by omega)]
theorem FrF.tr {h h1 h2 : HM} (a : FrF h h1) (b : FrF h1 h2) : FrF h h2 := fun q hq => ⟨(b q hq).1.trans (a q hq).1, (b q hq).2.trans (a q hq).2⟩
theorem FrF_c5 {h h1 : HM} (a : FrF h h1) {q : Nat} (hq : q < 71 ∨ 81 < q) : c5 h1 q = c5 h q := by simp only [c5, (a q hq).1]
theorem FrF_FB {h h1 : HM} (a : FrF h h1) {q : Nat} (hq : q < 71 ∨ 81 < q) (hF : FB h q) : FB h1 q := FB_eq (fun j => by rw [(a q hq).1]) hF
set_option maxRecDepth 100000 in
set_option maxHeartbeats 4000000 in
theorem e_X2_choose {G : GX} {y : LY} {h : HM} {d : Nat} (hY : Lay y) {s : Int} (hC : CF h 12) (hs : 0 ≤ s ∧ s < 2 ^ (h.I 12 3).toNat) : EvQV G mX2_choose (d + 3) [.ref 71, .ref 13, .int (iZ s)] y h (fun h1 => ∃ n : Nat, ChP h (cFs h 12) s h1 6 n) := by
  have hnf := hC.1
  have hp6 := p2_6 (n := (h.I 12 3).toNat) (by omega)
  have hbf : ∀ f : Nat, s.toNat.testBit f = true → (f : Int) < h.I 12 3 := by
    intro f q
    have e : ((2 ^ (h.I 12 3).toNat : Nat) : Int) = 2 ^ (h.I 12 3).toNat := by push_cast; rfl
    have h1 : s.toNat < 2 ^ (h.I 12 3).toNat := by have := hs.2; omega
    have := lt_of_bit h1 q; omega
  refine Ev.of rfl [some (.ref 71), some (.ref 13), some (.int (iZ s)), none] rfl (Nat.le_of_ble_eq_true rfl) ?_
  have L14 : ∀ (m : Nat) (f : Int) (h1 : HM) (n : Nat), m = (6 - f).toNat → 0 ≤ f ∧ f ≤ 6 → ChP h (cFs h 12) s h1 f.toNat n → Go G mX2_choose (rmo (d + 3) 0 0) (ZM G y 0 0 (fun r h1 => r = none ∧ (fun h1 => ∃ n : Nat, ChP h (cFs h 12) s h1 6 n) h1)) y 14 [some (.ref 71), some (.ref 13), some (.int (iZ s)), some (.int (iZ f))] [] h1 (0, 0) := by
    intro m
    induction m using Nat.strongRecOn with | _ m ih =>
    intro f h1 n hm hf hP
    obtain ⟨hFr, hSt, hnf2, hlc, hout⟩ := id hP
    have hn4 := hSt.1
    have hsb : 0 ≤ f ∧ f ≤ 5 → iAnd (iShr s f) 1 = if s.toNat.testBit f.toNat = true then 1 else 0 := fun q => selB (by omega) q
    have e1 : (f + 1).toNat = f.toNat + 1 := by omega
    refine g_iload_n dX2_choose_14 rfl rfl (g_bipush dX2_choose_15 kb6 ?_)
    refine g_icmp_ge 41 dX2_choose_17 rfl (by omega) (by omega) (fun c17 => ?_) (fun c17 => ?_)
    · skip
      exact g_vret dX2_choose_41 rfl rfl ⟨Nat.le_refl _, Nat.le_refl _⟩ (by exact ⟨rfl, n, by rw [show f = 6 by omega] at hP; exact hP⟩)
    · skip
      have hsb2 := hsb (by omega)
      have hr32 : R32 (iAnd (iShr s f) 1) := by rw [hsb2]; split <;> omega
      refine g_iload_n dX2_choose_20 rfl rfl (g_iload_n dX2_choose_21 rfl rfl (g_ishr dX2_choose_22 (g_iconst dX2_choose_23 (g_iand dX2_choose_24 ?_))))
      refine g_if_eq 35 dX2_choose_25 rfl (hr32) (fun c25 => ?_) (fun c25 => ?_)
      · skip
        refine g_inc3 dX2_choose_35 (by decide) rfl (g_goto 14 dX2_choose_38 rfl ?_)
        first
        | (have hnb : ¬ (s.toNat.testBit f.toNat = true) := (by intro q; rw [hsb2, if_pos q] at c25; omega); refine ih _ (by omega) (f + 1) h1 n rfl (by omega) ⟨hFr, hSt, by omega, ?_, fun t => (hout t).trans ?_⟩; (rw [hlc, e1, lcF, if_neg hnb]); (rw [e1]; constructor; (intro q g g0 g1; rcases (by omega : g < f.toNat ∨ g = f.toNat) with z | rfl; exact q g z g1; exact absurd g1 hnb); (intro q g g0 g1; exact q g (by omega) g1)))
        | (have en : (h1.I 71 4).toNat = n := (by omega); rw [en] at hv; have hA := FSt_add hSt (by omega) (FrF_FB hFr (by omega) hFf) hv; have hcf : c5 h1 (12 + 4 + f.toNat) = cFs h 12 f.toNat := FrF_c5 hFr (by omega); refine ih _ (by omega) (f + 1) _ (n + 1) rfl (by omega) ⟨hFr.tr (alH_fr (by omega)), hA.1, by omega, ?_, fun t => ?_⟩; (rw [hA.2.1, hlc, e1, lcF, if_pos hbit, hcf]); (rw [e1]; constructor; (intro q g g0 g1; rcases (by omega : g < f.toNat ∨ g = f.toNat) with z | rfl; (exact (hout t).mp (fun l hl => by have := q l (by omega); rw [hA.2.2.2 l hl] at this; exact this) g z g1); (have := q n (by omega); rw [hA.2.2.1, hcf] at this; exact this)); (intro q l hl; rcases (by omega : l < n ∨ l = n) with z | rfl; (rw [hA.2.2.2 l z]; exact (hout t).mpr (fun g g0 g1 => q g (by omega) g1) l z); (rw [hA.2.2.1, hcf]; exact q f.toNat (by omega) hbit))))
      · skip
        have hbit : s.toNat.testBit f.toNat = true := by rw [hsb2] at c25; cases hb : s.toNat.testBit f.toNat with
          | true => rfl
          | false => rw [hb] at c25; simp at c25
        have hfl := hbf _ hbit
        have hFf := hC.2 f hf.1 (by omega)
        have hst := hSt.2.2.2.1
        have hp := p181 (n := n) (by omega)
        refine g_aload_n dX2_choose_28 rfl rfl (g_aload_n dX2_choose_29 rfl rfl (g_iload_n dX2_choose_30 rfl rfl (g_aald dX2_choose_31 (ck_a0 hY clk12) (by decide) (D0 := "ClockTeeth$Figure") rfl ⟨by omega, by omega, by omega⟩ (ck_fr hY clk12 (by omega)) ?_)))
        refine cv_X2_55 (M := mX2_choose) rfl dX2_choose_32 (yo71 hY) (RO.same _ _ _) (Nat.le_of_ble_eq_true rfl) (e_X2_addLevel hY (ck_fo hY clk12 (by omega)) (FrF_FB hFr (by omega) hFf) (by omega) (by omega) (by rw [hn4, Int.toNat_natCast]; omega)) (kQV fun h32 hq32 => ?_)
        obtain ⟨v, rfl, hv⟩ := hq32
        refine g_inc3 dX2_choose_35 (by decide) rfl (g_goto 14 dX2_choose_38 rfl ?_)
        first
        | (have hnb : ¬ (s.toNat.testBit f.toNat = true) := (by intro q; rw [hsb2, if_pos q] at c25; omega); refine ih _ (by omega) (f + 1) h1 n rfl (by omega) ⟨hFr, hSt, by omega, ?_, fun t => (hout t).trans ?_⟩; (rw [hlc, e1, lcF, if_neg hnb]); (rw [e1]; constructor; (intro q g g0 g1; rcases (by omega : g < f.toNat ∨ g = f.toNat) with z | rfl; exact q g z g1; exact absurd g1 hnb); (intro q g g0 g1; exact q g (by omega) g1)))
        | (have en : (h1.I 71 4).toNat = n := (by omega); rw [en] at hv; have hA := FSt_add hSt (by omega) (FrF_FB hFr (by omega) hFf) hv; have hcf : c5 h1 (12 + 4 + f.toNat) = cFs h 12 f.toNat := FrF_c5 hFr (by omega); refine ih _ (by omega) (f + 1) _ (n + 1) rfl (by omega) ⟨hFr.tr (alH_fr (by omega)), hA.1, by omega, ?_, fun t => ?_⟩; (rw [hA.2.1, hlc, e1, lcF, if_pos hbit, hcf]); (rw [e1]; constructor; (intro q g g0 g1; rcases (by omega : g < f.toNat ∨ g = f.toNat) with z | rfl; (exact (hout t).mp (fun l hl => by have := q l (by omega); rw [hA.2.2.2 l hl] at this; exact this) g z g1); (have := q n (by omega); rw [hA.2.2.1, hcf] at this; exact this)); (intro q l hl; rcases (by omega : l < n ∨ l = n) with z | rfl; (rw [hA.2.2.2 l z]; exact (hout t).mpr (fun g g0 g1 => q g (by omega) g1) l z); (rw [hA.2.2.1, hcf]; exact q f.toNat (by omega) hbit))))
  refine g_aload_n dX2_choose_0 rfl rfl (g_iconst dX2_choose_1 (pf_X2_27 (M := mX2_choose) rfl dX2_choose_2 (yo71 hY) (g_aload_n dX2_choose_5 rfl rfl (gf_X2_17 (M := mX2_choose) rfl dX2_choose_6 (yo71 hY) (yr71_1 hY) (g_iconst dX2_choose_9 (g_lconst (v := 1) dX2_choose_10 rfl (g_last dX2_choose_11 (ya73 hY) ⟨by omega, by omega, by omega⟩ (g_iconst dX2_choose_12 (g_ist3 dX2_choose_13 (by decide) rfl ?_)))))))))
  refine L14 _ 0 _ 0 rfl (by omega) ⟨fun a ha => ⟨?_, ?_⟩, ⟨by simp [sI_I, sL_I], by omega, by simp [sL_L], by simp [sL_L], fun l hl => absurd hl (by omega)⟩, by omega, by simp [sL_L, lcF], fun t => ⟨fun _ g g0 => absurd g0 (by omega), fun _ l hl => absurd hl (by omega)⟩⟩
  · funext j; simp only [sL_I, sI_I]; rw [if_neg (by omega)]
  · funext j; simp only [sL_L, sI_L]; rw [if_neg (by omega)]
