def stF (F : Fg) (s : Int) : Fg := (F.te, s, F.dr, F.la, F.ga)
def Cl (X Y : Nat) (P : Nat → Prop) : Prop := Y ≤ X ∧ ∀ s : Nat, Y.testBit s = true ↔ X.testBit s = true ∧ ¬ P s
theorem Cl.w {X Y : Nat} {P P' : Nat → Prop} (h : Cl X Y P) (h1 : ∀ s, P s → P' s) (h2 : Y = 0 ∨ ∀ s, X.testBit s = true → P' s → P s) : Cl X Y P' := by
  refine ⟨h.1, fun s => ⟨fun q => ?_, fun q => (h.2 s).mpr ⟨q.1, fun z => q.2 (h1 s z)⟩⟩⟩
  rcases h2 with rfl | h2
  · simp at q
  · have := (h.2 s).mp q
    exact ⟨this.1, fun z => this.2 (h2 s this.1 z)⟩
theorem Cl.clr {X Y : Nat} {P : Nat → Prop} {k : Nat} (hk : k < 63) (hX : X < 2 ^ 63) (h : Cl X Y P) : Cl X (clr Y k) (fun s => P s ∨ s = k) := by
  refine ⟨Nat.le_trans (clr_le Y k) h.1, fun s => ?_⟩
  rw [clr_bit hk (Nat.lt_of_le_of_lt h.1 hX)]
  simp only [Bool.and_eq_true, decide_eq_true_eq, h.2 s]
  constructor
  · rintro ⟨⟨a, b⟩, c⟩; exact ⟨a, fun z => z.elim b c⟩
  · rintro ⟨a, b⟩; exact ⟨⟨a, fun z => b (Or.inl z)⟩, fun z => b (Or.inr z)⟩
def HitP (F H : Fg) (k i s : Int) : Prop := (s + ofs F.te F.ga k - tmo H.te H.st H.la H.ga i) % gcdF F H = 0
theorem gcdF_st (F H : Fg) (s : Int) : gcdF (stF F s) H = gcdF F H := rfl
theorem hit_meet {F H : Fg} {s : Int} : MeetP (stF F s) H ↔ ∃ k i : Int, (0 ≤ k ∧ k < tms F.la F.ga) ∧ (0 ≤ i ∧ i < tms H.la H.ga) ∧ HitP F H k i s := by
  have key : ∀ k i : Int, HitP F H k i s ↔ (s + ofs F.te F.ga k - (H.st + ofs H.te H.ga i)) % gcdF F H = 0 := by
    intro k i
    unfold HitP tmo
    rw [show (s + ofs F.te F.ga k - (H.st + ofs H.te H.ga i) % rnd H.la H.te) % gcdF F H = (s + ofs F.te F.ga k - (H.st + ofs H.te H.ga i)) % gcdF F H by
      rw [Int.sub_emod, Int.emod_emod_of_dvd _ (show gcdF F H ∣ rnd H.la H.te from gcdF_r F H), ← Int.sub_emod]]
  constructor
  · rintro ⟨x, z, hx, hz, e⟩
    obtain ⟨k, k0, k1, rfl⟩ := of_off hx
    obtain ⟨i, i0, i1, rfl⟩ := of_off hz
    exact ⟨k, i, ⟨k0, k1⟩, ⟨i0, i1⟩, (key k i).mpr e⟩
  · rintro ⟨k, i, hk, hi, e⟩
    exact ⟨_, _, off_of (F := stF F s) k hk, off_of i hi, (key k i).mp e⟩
theorem mod0_add {a g : Int} (h : a % g = 0) : (a + g) % g = 0 := by rw [Int.add_emod_right]; exact h
theorem lt_of_bit {X te s : Nat} (hX : X < 2 ^ te) (h : X.testBit s = true) : s < te := by
  rcases Nat.lt_or_ge s te with q | q
  · exact q
  · rw [Nat.testBit_lt_two_pow (Nat.lt_of_lt_of_le hX (Nat.pow_le_pow_right (by decide) q))] at h; cases h
theorem clrI {n : Nat} {k : Int} (hk : 0 ≤ k ∧ k < 62) (hn : n < 2 ^ 63) : lAnd n (lXor (lShl 1 k) (-1)) = (clr n k.toNat : Int) := by
  have e := lShlN (a := 1) (k := k.toNat) (by omega) (by rw [Nat.one_mul]; exact Nat.pow_lt_pow_right (by decide) (by omega))
  rw [show ((1 : Nat) : Int) = 1 from rfl, show ((k.toNat : Nat) : Int) = k by omega, Nat.one_mul] at e
  rw [e, clrN (by omega) hn]
theorem dvd_gap {p q g : Int} (hg : 0 < g) (hp : p % g = 0) (hq : q % g = 0) (h1 : p ≤ q) (h2 : q < p + g) : q = p := by
  have e1 := Int.emod_add_mul_ediv p g
  have e2 := Int.emod_add_mul_ediv q g
  rw [hp] at e1; rw [hq] at e2
  have : q / g = p / g := by
    rcases Int.lt_trichotomy (q / g) (p / g) with z | z | z
    · have := Int.mul_le_mul_of_nonneg_left (show q / g + 1 ≤ p / g by omega) (Int.le_of_lt hg)
      rw [Int.mul_add, Int.mul_one] at this; omega
    · exact z
    · have := Int.mul_le_mul_of_nonneg_left (show p / g + 1 ≤ q / g by omega) (Int.le_of_lt hg)
      rw [Int.mul_add, Int.mul_one] at this; omega
  rw [this] at e2; omega
set_option maxRecDepth 100000 in
set_option maxHeartbeats 4000000 in
theorem e_X0_freeOf {G : GX} {y : LY} {h : HM} {d : Nat} {a b X : Nat} (ho : IsO y a 1) (hq : IsO y b 1) (hwa : FW h a) (hwb : FB h b) (hX : X < 2 ^ (h.I a 0).toNat) : EvQL G mX0_freeOf (d + 2) [.ref b, .ref a, .long (lZ X)] y h (fun v : Int => ∃ Y : Nat, v = (Y : Int) ∧ Cl X Y (fun s => MeetP (stF (c5 h a) s) (c5 h b))) := by
  have hr1 := rnd_bd (la := h.I a 3) (te := h.I a 0) (by omega)
  have hr2 := rnd_bd (la := h.I b 3) (te := h.I b 0) (by omega)
  have ht1 := tms_bd (la := h.I a 3) (ga := h.I a 4) (by omega)
  have ht2 := tms_bd (la := h.I b 3) (ga := h.I b 4) (by omega)
  have hg : 0 < gcdF (c5 h a) (c5 h b) ∧ gcdF (c5 h a) (c5 h b) ≤ 181 := gcdF_bd (F := (c5 h a)) (H := (c5 h b)) hwa hwb.1
  have hte : (h.I a 0).toNat ≤ 60 := by omega
  have hX60 : X < 2 ^ 60 := Nat.lt_of_lt_of_le hX (Nat.pow_le_pow_right (by decide) hte)
  refine Ev.of rfl [some (.ref b), some (.ref a), some (.long (lZ X)), none, none, none, none, none, none, none, none] rfl (Nat.le_of_ble_eq_true rfl) ?_
  have L22 : ∀ (m : Nat) (k : Int) (Y : Nat), m = (tms (h.I a 3) (h.I a 4) - k).toNat → 0 ≤ k ∧ k ≤ tms (h.I a 3) (h.I a 4) → Cl X Y (fun s => ∃ k2 i2 : Int, (0 ≤ k2 ∧ k2 < k) ∧ (0 ≤ i2 ∧ i2 < tms (h.I b 3) (h.I b 4)) ∧ HitP (c5 h a) (c5 h b) k2 i2 s) → Go G mX0_freeOf (rmo (d + 2) 0 0) (ZM G y 0 0 (fun r h1 => ∃ v : Int, r = some (.long (lZ v)) ∧ h1 = h ∧ (fun v : Int => ∃ Y : Nat, v = (Y : Int) ∧ Cl X Y (fun s => MeetP (stF (c5 h a) s) (c5 h b))) v)) y 22 [some (.ref b), some (.ref a), some (.long (lZ X)), none, some (.int (iZ (gcdF (c5 h a) (c5 h b)))), some (.long (lZ Y)), none, some (.int (iZ k)), none, none, none] [] h (0, 0) := by
    intro m
    induction m using Nat.strongRecOn with | _ m ih =>
    intro k Y hm hk hY1
    have hYX := hY1.1
    have L41 : ∀ (m2 : Nat) (i : Int) (Y : Nat), m2 = (tms (h.I b 3) (h.I b 4) - i).toNat → 0 ≤ i ∧ i ≤ tms (h.I b 3) (h.I b 4) → k < tms (h.I a 3) (h.I a 4) → Cl X Y (fun s => (∃ k2 i2 : Int, (0 ≤ k2 ∧ k2 < k) ∧ (0 ≤ i2 ∧ i2 < tms (h.I b 3) (h.I b 4)) ∧ HitP (c5 h a) (c5 h b) k2 i2 s) ∨ ∃ i2 : Int, (0 ≤ i2 ∧ i2 < i) ∧ HitP (c5 h a) (c5 h b) k i2 s) → Go G mX0_freeOf (rmo (d + 2) 0 0) (ZM G y 0 0 (fun r h1 => ∃ v : Int, r = some (.long (lZ v)) ∧ h1 = h ∧ (fun v : Int => ∃ Y : Nat, v = (Y : Int) ∧ Cl X Y (fun s => MeetP (stF (c5 h a) s) (c5 h b))) v)) y 41 [some (.ref b), some (.ref a), some (.long (lZ X)), none, some (.int (iZ (gcdF (c5 h a) (c5 h b)))), some (.long (lZ Y)), none, some (.int (iZ k)), some (.int (iZ i)), none, none] [] h (0, 0) := by
      intro m2
      induction m2 using Nat.strongRecOn with | _ m2 ih2 =>
      intro i Y hm2 hi hkT hY2
      have hYX := hY2.1
      have hb2 := tmo_bd (te := h.I b 0) (st := h.I b 1) (la := h.I b 3) (ga := h.I b 4) (k := i) (by omega)
      have hf2 := ofs_bd (te := h.I a 0) (ga := h.I a 4) (k := k) (by omega) (by omega)
      have hme := em_bd (tmo (h.I b 0) (h.I b 1) (h.I b 3) (h.I b 4) i - ofs (h.I a 0) (h.I a 4) k) (d := gcdF (c5 h a) (c5 h b)) (by omega)
      have L84 : ∀ (m3 : Nat) (t : Int) (Y : Nat), m3 = (h.I a 0 - t).toNat → 0 ≤ t ∧ t ≤ 300 → HitP (c5 h a) (c5 h b) k i t → i < tms (h.I b 3) (h.I b 4) → Cl X Y (fun s => ((∃ k2 i2 : Int, (0 ≤ k2 ∧ k2 < k) ∧ (0 ≤ i2 ∧ i2 < tms (h.I b 3) (h.I b 4)) ∧ HitP (c5 h a) (c5 h b) k2 i2 s) ∨ ∃ i2 : Int, (0 ≤ i2 ∧ i2 < i) ∧ HitP (c5 h a) (c5 h b) k i2 s) ∨ ((s : Int) < t ∧ HitP (c5 h a) (c5 h b) k i s)) → Go G mX0_freeOf (rmo (d + 2) 0 0) (ZM G y 0 0 (fun r h1 => ∃ v : Int, r = some (.long (lZ v)) ∧ h1 = h ∧ (fun v : Int => ∃ Y : Nat, v = (Y : Int) ∧ Cl X Y (fun s => MeetP (stF (c5 h a) s) (c5 h b))) v)) y 84 [some (.ref b), some (.ref a), some (.long (lZ X)), none, some (.int (iZ (gcdF (c5 h a) (c5 h b)))), some (.long (lZ Y)), none, some (.int (iZ k)), some (.int (iZ i)), some (.int (iZ ((tmo (h.I b 0) (h.I b 1) (h.I b 3) (h.I b 4) i - ofs (h.I a 0) (h.I a 4) k) % gcdF (c5 h a) (c5 h b)))), some (.int (iZ t))] [] h (0, 0) := by
        intro m3
        induction m3 using Nat.strongRecOn with | _ m3 ih3 =>
        intro t Y hm3 ht hht hiT hY3
        have hYX := hY3.1
        have hcl := fun q => clrI (n := Y) (k := t) q (by omega)
        refine g_iload dX0_freeOf_84 rfl (g_aload_n dX0_freeOf_86 rfl rfl (gf_X0_97 (M := mX0_freeOf) rfl dX0_freeOf_87 ho ?_))
        refine g_icmp_ge 116 dX0_freeOf_90 rfl (by omega) (by omega) (fun c90 => ?_) (fun c90 => ?_)
        · skip
          refine g_inc8 dX0_freeOf_116 (by decide) rfl (g_goto 41 dX0_freeOf_119 rfl (g_dr9 (g_dr10 ?_)))
          refine ih2 _ (by omega) (i + 1) _ rfl (by omega) hkT (hY3.w (fun s z => ?_) (Or.inr fun s hs z => ?_))
          · rcases z with (z | ⟨i2, z1, z2⟩) | z
            · exact Or.inl z
            · exact Or.inr ⟨i2, by omega, z2⟩
            · exact Or.inr ⟨i, by omega, z.2⟩
          · rcases z with z | ⟨i2, z1, z2⟩
            · exact Or.inl (Or.inl z)
            · rcases (by omega : i2 < i ∨ i2 = i) with z3 | rfl
              · exact Or.inl (Or.inr ⟨i2, by omega, z2⟩)
              · exact Or.inr ⟨by have := lt_of_bit hX hs; omega, z2⟩
        · skip
          have hcl2 := hcl (by omega)
          refine g_lload dX0_freeOf_93 rfl (g_lconst (v := 1) dX0_freeOf_95 rfl (g_iload dX0_freeOf_96 rfl (g_lshl dX0_freeOf_98 (c2_X0_161 (M := mX0_freeOf) rfl dX0_freeOf_99 (g_lxor dX0_freeOf_102 (g_land dX0_freeOf_103 (g_lst5 dX0_freeOf_104 (by decide) rfl (g_iload dX0_freeOf_106 rfl (g_iload dX0_freeOf_108 rfl (g_iadd dX0_freeOf_110 (g_ist10 dX0_freeOf_111 (by decide) rfl ?_)))))))))))
          refine g_goto 84 dX0_freeOf_113 rfl ?_
          rw [hcl2]
          refine ih3 _ (by omega) (t + gcdF (c5 h a) (c5 h b)) _ rfl (by omega) (by show (t + gcdF (c5 h a) (c5 h b) + ofs (h.I a 0) (h.I a 4) k - tmo (h.I b 0) (h.I b 1) (h.I b 3) (h.I b 4) i) % gcdF (c5 h a) (c5 h b) = 0; rw [show t + gcdF (c5 h a) (c5 h b) + ofs (h.I a 0) (h.I a 4) k - tmo (h.I b 0) (h.I b 1) (h.I b 3) (h.I b 4) i = (t + ofs (h.I a 0) (h.I a 4) k - tmo (h.I b 0) (h.I b 1) (h.I b 3) (h.I b 4) i) + gcdF (c5 h a) (c5 h b) by omega]; exact mod0_add hht) hiT ((hY3.clr (by omega) (by omega)).w (fun s z => ?_) (Or.inr fun s _ z => ?_))
          · rcases z with (z | z) | rfl
            · exact Or.inl z
            · exact Or.inr ⟨by omega, z.2⟩
            · exact Or.inr ⟨by omega, by rw [show ((t.toNat : Nat) : Int) = t by omega]; exact hht⟩
          · rcases z with z | z
            · exact Or.inl (Or.inl z)
            · rcases (by omega : (s : Int) < t ∨ t ≤ (s : Int)) with z2 | z2
              · exact Or.inl (Or.inr ⟨z2, z.2⟩)
              · have e := dvd_gap (p := t + ofs (h.I a 0) (h.I a 4) k - tmo (h.I b 0) (h.I b 1) (h.I b 3) (h.I b 4) i) (q := s + ofs (h.I a 0) (h.I a 4) k - tmo (h.I b 0) (h.I b 1) (h.I b 3) (h.I b 4) i) (g := gcdF (c5 h a) (c5 h b)) hg.1 hht z.2 (by omega) (by omega)
                exact Or.inr (by omega)
      refine g_iload dX0_freeOf_41 rfl (g_aload_n dX0_freeOf_43 rfl rfl (cv_X0_149 (M := mX0_freeOf) rfl dX0_freeOf_44 hq (RO.same _ _ _) (Nat.le_of_ble_eq_true rfl) (e_X1_times hq (by omega) (by omega)) <| kI ?_))
      refine g_icmp_ge 122 dX0_freeOf_47 rfl (by omega) (by omega) (fun c47 => ?_) (fun c47 => ?_)
      · skip
        refine g_inc7 dX0_freeOf_122 (by decide) rfl (g_goto 22 dX0_freeOf_125 rfl (g_dr8 ?_))
        refine ih _ (by omega) (k + 1) _ rfl (by omega) (hY2.w (fun s z => ?_) ?_)
        · rcases z with ⟨k2, i2, z1, z2, z3⟩ | ⟨i2, z1, z2⟩
          · exact ⟨k2, i2, by omega, z2, z3⟩
          · exact ⟨k, i2, by omega, by omega, z2⟩
        · rcases (by omega : Y = 0 ∨ (0 : Int) < Y) with z0 | z0
          · exact Or.inl z0
          · refine Or.inr fun s hs z => ?_
            obtain ⟨k2, i2, z1, z2, z3⟩ := z
            rcases (by omega : k2 < k ∨ k2 = k) with z4 | rfl
            · exact Or.inl ⟨k2, i2, by omega, z2, z3⟩
            · exact Or.inr ⟨i2, by omega, z3⟩
      · skip
        refine g_lload dX0_freeOf_50 rfl (g_lconst (v := 0) dX0_freeOf_52 rfl ?_)
        refine g_lcmp_eq 122 dX0_freeOf_53 dX0_freeOf_54 rfl (by omega) (by omega) (fun c53 => ?_) (fun c53 => ?_)
        · skip
          refine g_inc7 dX0_freeOf_122 (by decide) rfl (g_goto 22 dX0_freeOf_125 rfl (g_dr8 ?_))
          refine ih _ (by omega) (k + 1) _ rfl (by omega) (hY2.w (fun s z => ?_) ?_)
          · rcases z with ⟨k2, i2, z1, z2, z3⟩ | ⟨i2, z1, z2⟩
            · exact ⟨k2, i2, by omega, z2, z3⟩
            · exact ⟨k, i2, by omega, by omega, z2⟩
          · rcases (by omega : Y = 0 ∨ (0 : Int) < Y) with z0 | z0
            · exact Or.inl z0
            · refine Or.inr fun s hs z => ?_
              obtain ⟨k2, i2, z1, z2, z3⟩ := z
              rcases (by omega : k2 < k ∨ k2 = k) with z4 | rfl
              · exact Or.inl ⟨k2, i2, by omega, z2, z3⟩
              · exact Or.inr ⟨i2, by omega, z3⟩
        · skip
          refine g_aload_n dX0_freeOf_57 rfl rfl (g_iload dX0_freeOf_58 rfl (cv_X0_152 (M := mX0_freeOf) rfl dX0_freeOf_60 hq (RO.same _ _ _) (Nat.le_of_ble_eq_true rfl) (e_X1_timeOf hq (by omega) (by omega) (by omega)) <| kI (g_aload_n dX0_freeOf_63 rfl rfl (g_iload dX0_freeOf_64 rfl (cv_X0_155 (M := mX0_freeOf) rfl dX0_freeOf_66 ho (RO.same _ _ _) (Nat.le_of_ble_eq_true rfl) (e_X1_offset ho (by omega) (by omega)) <| kI (g_isub dX0_freeOf_69 (g_i2l dX0_freeOf_70 (by omega) (g_iload dX0_freeOf_71 rfl (g_i2l dX0_freeOf_73 (by omega) (cv_X0_158 (M := mX0_freeOf) rfl dX0_freeOf_74 (RO.same _ _ _) (Nat.le_of_ble_eq_true rfl) (e_X8_rest (by omega) (by omega)) <| kL (g_l2i dX0_freeOf_77 ?_)))))))))))
          refine g_ist9 dX0_freeOf_78 (by decide) rfl (g_iload dX0_freeOf_80 rfl (g_ist10 dX0_freeOf_82 (by decide) rfl ?_))
          refine L84 _ ((tmo (h.I b 0) (h.I b 1) (h.I b 3) (h.I b 4) i - ofs (h.I a 0) (h.I a 4) k) % gcdF (c5 h a) (c5 h b)) _ rfl (by omega) (by show ((tmo (h.I b 0) (h.I b 1) (h.I b 3) (h.I b 4) i - ofs (h.I a 0) (h.I a 4) k) % gcdF (c5 h a) (c5 h b) + ofs (h.I a 0) (h.I a 4) k - tmo (h.I b 0) (h.I b 1) (h.I b 3) (h.I b 4) i) % gcdF (c5 h a) (c5 h b) = 0; rw [show (tmo (h.I b 0) (h.I b 1) (h.I b 3) (h.I b 4) i - ofs (h.I a 0) (h.I a 4) k) % gcdF (c5 h a) (c5 h b) + ofs (h.I a 0) (h.I a 4) k - tmo (h.I b 0) (h.I b 1) (h.I b 3) (h.I b 4) i = (tmo (h.I b 0) (h.I b 1) (h.I b 3) (h.I b 4) i - ofs (h.I a 0) (h.I a 4) k) % gcdF (c5 h a) (c5 h b) - (tmo (h.I b 0) (h.I b 1) (h.I b 3) (h.I b 4) i - ofs (h.I a 0) (h.I a 4) k) by omega, Int.sub_emod, Int.emod_emod_of_dvd _ (Int.dvd_refl _), Int.sub_self]; rfl) (by omega) (hY2.w (fun s z => Or.inl z) (Or.inr fun s hs z => ?_))
          rcases z with z | z
          · exact z
          · exfalso
            have e1 : (s : Int) + ofs (h.I a 0) (h.I a 4) k - tmo (h.I b 0) (h.I b 1) (h.I b 3) (h.I b 4) i = s - (tmo (h.I b 0) (h.I b 1) (h.I b 3) (h.I b 4) i - ofs (h.I a 0) (h.I a 4) k) := by omega
            have e2 : ((s : Int) - (tmo (h.I b 0) (h.I b 1) (h.I b 3) (h.I b 4) i - ofs (h.I a 0) (h.I a 4) k)) % gcdF (c5 h a) (c5 h b) = 0 := by rw [← e1]; exact z.2
            have e3 : ((s : Int) - (tmo (h.I b 0) (h.I b 1) (h.I b 3) (h.I b 4) i - ofs (h.I a 0) (h.I a 4) k) % gcdF (c5 h a) (c5 h b)) % gcdF (c5 h a) (c5 h b) = 0 := by rw [Int.sub_emod, Int.emod_emod_of_dvd _ (Int.dvd_refl _), ← Int.sub_emod]; exact e2
            have e4 := dvd_gap (p := (s : Int) - (tmo (h.I b 0) (h.I b 1) (h.I b 3) (h.I b 4) i - ofs (h.I a 0) (h.I a 4) k) % gcdF (c5 h a) (c5 h b)) (q := 0) (g := gcdF (c5 h a) (c5 h b)) hg.1 e3 (by simp) (by omega) (by omega)
            omega
    refine g_iload dX0_freeOf_22 rfl (g_aload_n dX0_freeOf_24 rfl rfl (cv_X0_149 (M := mX0_freeOf) rfl dX0_freeOf_25 ho (RO.same _ _ _) (Nat.le_of_ble_eq_true rfl) (e_X1_times ho (by omega) (by omega)) <| kI ?_))
    refine g_icmp_ge 128 dX0_freeOf_28 rfl (by omega) (by omega) (fun c28 => ?_) (fun c28 => ?_)
    · skip
      refine g_lload dX0_freeOf_128 rfl ?_
      exact g_lret dX0_freeOf_130 rfl rfl ⟨Nat.le_refl _, Nat.le_refl _⟩ (by refine ⟨Y, rfl, rfl, Y, rfl, hY1.w (fun s z => ?_) ?_⟩; (obtain ⟨k2, i2, z1, z2, z3⟩ := z; exact hit_meet.mpr ⟨k2, i2, ⟨z1.1, by show k2 < tms (h.I a 3) (h.I a 4); omega⟩, z2, z3⟩); (rcases (by omega : Y = 0 ∨ (0 : Int) < Y) with z0 | z0; exact Or.inl z0; exact Or.inr fun s _ z => by (obtain ⟨k2, i2, z1, z2, z3⟩ := hit_meet.mp z; exact ⟨k2, i2, ⟨z1.1, by have : k2 < tms (h.I a 3) (h.I a 4) := z1.2; omega⟩, z2, z3⟩)))
    · skip
      refine g_lload dX0_freeOf_31 rfl (g_lconst (v := 0) dX0_freeOf_33 rfl ?_)
      refine g_lcmp_eq 128 dX0_freeOf_34 dX0_freeOf_35 rfl (by omega) (by omega) (fun c34 => ?_) (fun c34 => ?_)
      · skip
        refine g_lload dX0_freeOf_128 rfl ?_
        exact g_lret dX0_freeOf_130 rfl rfl ⟨Nat.le_refl _, Nat.le_refl _⟩ (by refine ⟨Y, rfl, rfl, Y, rfl, hY1.w (fun s z => ?_) ?_⟩; (obtain ⟨k2, i2, z1, z2, z3⟩ := z; exact hit_meet.mpr ⟨k2, i2, ⟨z1.1, by show k2 < tms (h.I a 3) (h.I a 4); omega⟩, z2, z3⟩); (rcases (by omega : Y = 0 ∨ (0 : Int) < Y) with z0 | z0; exact Or.inl z0; exact Or.inr fun s _ z => by (obtain ⟨k2, i2, z1, z2, z3⟩ := hit_meet.mp z; exact ⟨k2, i2, ⟨z1.1, by have : k2 < tms (h.I a 3) (h.I a 4) := z1.2; omega⟩, z2, z3⟩)))
      · skip
        refine g_iconst dX0_freeOf_38 (g_ist8 dX0_freeOf_39 (by decide) rfl ?_)
        refine L41 _ 0 _ rfl (by omega) (by omega) (hY1.w (fun s z => Or.inl z) (Or.inr fun s _ z => ?_))
        rcases z with z | ⟨i2, z1, z2⟩
        · exact z
        · omega
  refine g_aload_n dX0_freeOf_0 rfl rfl (cv_X0_141 (M := mX0_freeOf) rfl dX0_freeOf_1 ho (RO.same _ _ _) (Nat.le_of_ble_eq_true rfl) (e_X1_round ho (by omega)) <| kI (g_i2l dX0_freeOf_4 (by omega) (g_aload_n dX0_freeOf_5 rfl rfl (cv_X0_141 (M := mX0_freeOf) rfl dX0_freeOf_6 hq (RO.same _ _ _) (Nat.le_of_ble_eq_true rfl) (e_X1_round hq (by omega)) <| kI (g_i2l dX0_freeOf_9 (by omega) (cv_X0_145 (M := mX0_freeOf) rfl dX0_freeOf_10 (RO.same _ _ _) (Nat.le_of_ble_eq_true rfl) (e_X8_commonDivisor (by omega) (by omega)) <| kL (g_l2i dX0_freeOf_13 (g_ist4 dX0_freeOf_14 (by decide) rfl (g_lload_n dX0_freeOf_16 rfl rfl (g_lst5 dX0_freeOf_17 (by decide) rfl (g_iconst dX0_freeOf_19 ?_)))))))))))
  refine g_ist7 dX0_freeOf_20 (by decide) rfl ?_
  refine L22 _ 0 X rfl (by omega) ⟨Nat.le_refl _, fun s => ⟨fun q => ⟨q, ?_⟩, fun q => q.1⟩⟩
  rintro ⟨k2, i2, z1, z2, z3⟩
  omega
