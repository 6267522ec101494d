/-- the figures of a clock, its bounds -/
def cFs (h : HM) (c : Nat) : Nat → Fg := fun i => c5 h (c + 4 + i)
abbrev CF (h : HM) (c : Nat) : Prop := (0 ≤ h.I c 3 ∧ h.I c 3 ≤ 6) ∧ ∀ i : Int, 0 ≤ i → i < h.I c 3 → FB h (c + 4 + i.toNat)
/-- who crashes with f: bits -/
def CrP (F : Nat → Fg) (f g : Nat) : Prop := g ≠ f ∧ (F g).dr = (F f).dr ∧ MeetP (F f) (F g)
noncomputable def crS (F : Nat → Fg) (f : Nat) : Nat → Int
  | 0 => 0
  | g + 1 => crS F f g + pI (CrP F f g) * 2 ^ g
noncomputable def hmS (F : Nat → Fg) (n : Nat) : Nat → Int
  | 0 => 0
  | f + 1 => hmS F n f + pI (crS F f n ≠ 0)
theorem crS_bd (F : Nat → Fg) (f : Nat) : ∀ n, 0 ≤ crS F f n ∧ crS F f n < 2 ^ n
  | 0 => by simp [crS]
  | n + 1 => by
    have := crS_bd F f n
    have e : (2 : Int) ^ (n + 1) = 2 * 2 ^ n := by rw [Int.pow_succ, Int.mul_comm]
    rcases pI_01 (CrP F f n) with h | h <;> simp only [crS, h, e] <;> omega
theorem hmS_bd (F : Nat → Fg) (m : Nat) : ∀ n, 0 ≤ hmS F m n ∧ hmS F m n ≤ n
  | 0 => by simp [hmS]
  | n + 1 => by
    have := hmS_bd F m n
    rcases pI_01 (crS F n m ≠ 0) with h | h <;> simp only [hmS, h] <;> omega
theorem p2_6 {n : Nat} (h : n ≤ 6) : (2 : Int) ^ n ≤ 64 := by
  rcases (by omega : n = 0 ∨ n = 1 ∨ n = 2 ∨ n = 3 ∨ n = 4 ∨ n = 5 ∨ n = 6) with e | e | e | e | e | e | e <;> rw [e] <;> decide
theorem orBit {x : Int} {g : Nat} (hg : g < 30) (hx : 0 ≤ x ∧ x < 2 ^ g) : iOr x (iShl 1 g) = x + 2 ^ g := by
  obtain ⟨n, rfl⟩ := Int.eq_ofNat_of_zero_le hx.1
  have h1 : n < 2 ^ g := by have := hx.2; exact_mod_cast this
  have h2 : (2 : Nat) ^ g < 2 ^ 31 := Nat.pow_lt_pow_right (by decide) (by omega)
  have e1 := iShlN (a := 1) (k := g) (by omega) (by omega)
  rw [show ((1 : Nat) : Int) = 1 from rfl, Nat.one_mul] at e1
  rw [e1, iOrN (by omega) h2]
  have e2 : n ||| 2 ^ g = 2 ^ g + n := by
    have := Nat.two_pow_add_eq_or_of_lt (i := g) (b := n) h1 1
    rw [Nat.mul_one] at this
    rw [this, Nat.or_comm]
  rw [e2]
  push_cast
  omega
def wJ (h : HM) (c : Nat) (a b d : Int) : HM := ((h.sI c 6 a).sI c 7 b).sI c 8 d
def lvy (h : HM) (c : Nat) : Int := if 0 < h.I c 4 then h.I (c + 10 + (h.I c 4 - 1).toNat) 0 else 0
def dorS (dr sd sf st yd : Int) : Int := if dr ≠ sd ∨ yd < sf ∨ st < yd then dr else if dr < 8 then dr + 1 else 0
theorem again_cr {F : Nat → Fg} {f : Nat} {g : Int} {G : GX} {M : MI} {R : Room} {Z : ZT} {y : LY} {pc : Nat} {x0 x1 x3 : Option Value} {h : HM} {cs : Nat × Nat} (hn : ¬ CrP F f g.toNat) (hg : 0 ≤ g) (k : Go G M R Z y pc [x0, x1, some (.int (iZ (crS F f (g + 1).toNat))), x3] [] h cs) : Go G M R Z y pc [x0, x1, some (.int (iZ (crS F f g.toNat))), x3] [] h cs := by
  have e1 : crS F f (g + 1).toNat = crS F f g.toNat := by rw [show (g + 1).toNat = g.toNat + 1 by omega]; simp only [crS, pI_f hn]; omega
  rw [e1] at k
  exact k
theorem again_cy {F : Nat → Fg} {f : Nat} {g : Int} {G : GX} {M : MI} {R : Room} {Z : ZT} {y : LY} {pc : Nat} {x0 x1 x3 : Option Value} {h : HM} {cs : Nat × Nat} (hn : CrP F f g.toNat) (hg : 0 ≤ g) (hg2 : g < 30) (k : Go G M R Z y pc [x0, x1, some (.int (iZ (crS F f (g + 1).toNat))), x3] [] h cs) : Go G M R Z y pc [x0, x1, some (.int (iZ (iOr (crS F f g.toNat) (iShl 1 g)))), x3] [] h cs := by
  have e0 := orBit (x := crS F f g.toNat) (g := g.toNat) (by omega) (crS_bd F f g.toNat)
  rw [show ((g.toNat : Nat) : Int) = g by omega] at e0
  have e1 : crS F f (g + 1).toNat = crS F f g.toNat + 2 ^ g.toNat := by rw [show (g + 1).toNat = g.toNat + 1 by omega]; simp only [crS, pI_t hn]; omega
  rw [e1] at k
  rw [e0]
  exact k
set_option maxRecDepth 100000 in
set_option maxHeartbeats 4000000 in
theorem e_X0_jam {G : GX} {y : LY} {h : HM} {d : Nat} (hY : Lay y) {c : Nat} (hc : Clk c) {p q r : Int} : EvV G mX0_jam (d) [.ref c, .int (iZ p), .int (iZ q), .int (iZ r)] y h (wJ h c p q r) := by
  refine Ev.of rfl [some (.ref c), some (.int (iZ p)), some (.int (iZ q)), some (.int (iZ r))] rfl (Nat.le_of_ble_eq_true rfl) ?_
  refine g_aload_n dX0_jam_0 rfl rfl (g_iload_n dX0_jam_1 rfl rfl (pf_X0_39 (M := mX0_jam) rfl dX0_jam_2 (ck_o hY hc) (g_aload_n dX0_jam_5 rfl rfl (g_iload_n dX0_jam_6 rfl rfl (pf_X0_42 (M := mX0_jam) rfl dX0_jam_7 (ck_o hY hc) (g_aload_n dX0_jam_10 rfl rfl (g_iload_n dX0_jam_11 rfl rfl (pf_X0_45 (M := mX0_jam) rfl dX0_jam_12 (ck_o hY hc) ?_))))))))
  exact g_vret dX0_jam_15 rfl rfl ⟨Nat.le_refl _, Nat.le_refl _⟩ (by exact ⟨rfl, rfl⟩)
set_option maxRecDepth 100000 in
set_option maxHeartbeats 4000000 in
theorem e_X0_free {G : GX} {y : LY} {h : HM} {d : Nat} (hY : Lay y) {c : Nat} (hc : Clk c) : EvV G mX0_free (d + 1) [.ref c] y h (wJ h c (-4) (-4) (-4)) := by
  refine Ev.of rfl [some (.ref c)] rfl (Nat.le_of_ble_eq_true rfl) ?_
  refine g_aload_n dX0_free_0 rfl rfl (g_bipush dX0_free_1 kbm4 (g_bipush dX0_free_3 kbm4 (g_bipush dX0_free_5 kbm4 (cv_X0_57 (M := mX0_free) rfl dX0_free_7 (ck_o hY hc) (RO.same _ _ _) (Nat.le_of_ble_eq_true rfl) (e_X0_jam hY hc) <| kV ?_))))
  exact g_vret dX0_free_10 rfl rfl ⟨Nat.le_refl _, Nat.le_refl _⟩ (by exact ⟨rfl, rfl⟩)
set_option maxRecDepth 100000 in
set_option maxHeartbeats 4000000 in
theorem e_X0_empty {G : GX} {y : LY} {h : HM} {d : Nat} (hY : Lay y) {c : Nat} (hc : Clk c) : EvV G mX0_empty (d + 2) [.ref c] y h (wJ ((((h.sI c 3 0).sI c 4 0).sI c 5 0).sI c 9 1) c (-4) (-4) (-4)) := by
  refine Ev.of rfl [some (.ref c)] rfl (Nat.le_of_ble_eq_true rfl) ?_
  refine g_aload_n dX0_empty_0 rfl rfl (g_iconst dX0_empty_1 (pf_X0_29 (M := mX0_empty) rfl dX0_empty_2 (ck_o hY hc) (g_aload_n dX0_empty_5 rfl rfl (g_iconst dX0_empty_6 (pf_X0_33 (M := mX0_empty) rfl dX0_empty_7 (ck_o hY hc) (g_aload_n dX0_empty_10 rfl rfl (g_iconst dX0_empty_11 (pf_X0_36 (M := mX0_empty) rfl dX0_empty_12 (ck_o hY hc) (g_aload_n dX0_empty_15 rfl rfl (g_iconst dX0_empty_16 (pf_X0_48 (M := mX0_empty) rfl dX0_empty_17 (ck_o hY hc) ?_)))))))))))
  refine g_aload_n dX0_empty_20 rfl rfl (cv_X0_54 (M := mX0_empty) rfl dX0_empty_21 (ck_o hY hc) (RO.same _ _ _) (Nat.le_of_ble_eq_true rfl) (e_X0_free hY hc) <| kV ?_)
  exact g_vret dX0_empty_24 rfl rfl ⟨Nat.le_refl _, Nat.le_refl _⟩ (by exact ⟨rfl, rfl⟩)
set_option maxRecDepth 100000 in
set_option maxHeartbeats 4000000 in
theorem e_X0_leastVoteYear {G : GX} {y : LY} {h : HM} {d : Nat} (hY : Lay y) {c : Nat} (hc : Clk c) (hv : 0 ≤ h.I c 4 ∧ h.I c 4 ≤ 6) : EvI G mX0_leastVoteYear (d) [.ref c] y h (lvy h c) := by
  refine Ev.of rfl [some (.ref c)] rfl (Nat.le_of_ble_eq_true rfl) ?_
  refine g_aload_n dX0_leastVoteYear_0 rfl rfl (gf_X0_33 (M := mX0_leastVoteYear) rfl dX0_leastVoteYear_1 (ck_o hY hc) ?_)
  refine g_if_le 24 dX0_leastVoteYear_4 rfl (by omega) (fun c4 => ?_) (fun c4 => ?_)
  · skip
    refine g_iconst dX0_leastVoteYear_24 ?_
    exact g_iret dX0_leastVoteYear_25 rfl rfl ⟨Nat.le_refl _, Nat.le_refl _⟩ (by exact ⟨someI (by unfold lvy; repeat (split) <;> first | rfl | (exfalso; omega) | omega), rfl⟩)
  · skip
    refine g_aload_n dX0_leastVoteYear_7 rfl rfl (gf_X0_19 (M := mX0_leastVoteYear) rfl dX0_leastVoteYear_8 (ck_o hY hc) (ck_r1 hY hc) (g_aload_n dX0_leastVoteYear_11 rfl rfl (gf_X0_33 (M := mX0_leastVoteYear) rfl dX0_leastVoteYear_12 (ck_o hY hc) (g_iconst dX0_leastVoteYear_15 (g_isub dX0_leastVoteYear_16 (g_aald dX0_leastVoteYear_17 (ck_a1 hY hc) (by decide) (D0 := "ClockTeeth$Vote") rfl ⟨by omega, by omega, by omega⟩ (ck_vr hY hc (by omega)) (gf_X0_82 (M := mX0_leastVoteYear) rfl dX0_leastVoteYear_18 (ck_vo hY hc (by omega)) (g_goto 25 dX0_leastVoteYear_21 rfl ?_))))))))
    exact g_iret dX0_leastVoteYear_25 rfl rfl ⟨Nat.le_refl _, Nat.le_refl _⟩ (by exact ⟨someI (by unfold lvy; repeat (split) <;> first | rfl | (exfalso; omega) | omega), rfl⟩)
set_option maxRecDepth 100000 in
set_option maxHeartbeats 4000000 in
theorem e_X0_addVote {G : GX} {y : LY} {h : HM} {d : Nat} (hY : Lay y) {c : Nat} (hc : Clk c) (hv : 0 ≤ h.I c 4 ∧ h.I c 4 ≤ 5) {p q r s t : Int} : EvV G mX0_addVote (d) [.ref c, .int (iZ p), .int (iZ q), .int (iZ r), .int (iZ s), .int (iZ t)] y h ((wr5 h (c + 10 + (h.I c 4).toNat) (p, q, r, s, t)).sI c 4 (h.I c 4 + 1)) := by
  refine Ev.of rfl [some (.ref c), some (.int (iZ p)), some (.int (iZ q)), some (.int (iZ r)), some (.int (iZ s)), some (.int (iZ t)), none] rfl (Nat.le_of_ble_eq_true rfl) ?_
  refine g_aload_n dX0_addVote_0 rfl rfl (gf_X0_19 (M := mX0_addVote) rfl dX0_addVote_1 (ck_o hY hc) (ck_r1 hY hc) (g_aload_n dX0_addVote_4 rfl rfl (gf_X0_33 (M := mX0_addVote) rfl dX0_addVote_5 (ck_o hY hc) (g_aald dX0_addVote_8 (ck_a1 hY hc) (by decide) (D0 := "ClockTeeth$Vote") rfl ⟨by omega, by omega, by omega⟩ (ck_vr hY hc (by omega)) (g_ast6 dX0_addVote_9 (by decide) rfl (g_aload dX0_addVote_11 rfl (g_iload_n dX0_addVote_13 rfl rfl (pf_X0_82 (M := mX0_addVote) rfl dX0_addVote_14 (ck_vo hY hc (by omega)) (g_aload dX0_addVote_17 rfl (g_iload_n dX0_addVote_19 rfl rfl (pf_X0_85 (M := mX0_addVote) rfl dX0_addVote_20 (ck_vo hY hc (by omega)) ?_)))))))))))
  refine g_aload dX0_addVote_23 rfl (g_iload_n dX0_addVote_25 rfl rfl (pf_X0_88 (M := mX0_addVote) rfl dX0_addVote_26 (ck_vo hY hc (by omega)) (g_aload dX0_addVote_29 rfl (g_iload dX0_addVote_31 rfl (pf_X0_91 (M := mX0_addVote) rfl dX0_addVote_33 (ck_vo hY hc (by omega)) (g_aload dX0_addVote_36 rfl (g_iload dX0_addVote_38 rfl (pf_X0_94 (M := mX0_addVote) rfl dX0_addVote_40 (ck_vo hY hc (by omega)) (g_aload_n dX0_addVote_43 rfl rfl (g_dup dX0_addVote_44 rfl (gf_X0_33 (M := mX0_addVote) rfl dX0_addVote_45 (ck_o hY hc) ?_)))))))))))
  refine g_iconst dX0_addVote_48 (g_iadd dX0_addVote_49 (pf_X0_33 (M := mX0_addVote) rfl dX0_addVote_50 (ck_o hY hc) ?_))
  exact g_vret dX0_addVote_53 rfl rfl ⟨Nat.le_refl _, Nat.le_refl _⟩ (by exact ⟨rfl, by show (wr5 h (c + 10 + (h.I c 4).toNat) (p, q, r, s, t)).sI c 4 ((wr5 h (c + 10 + (h.I c 4).toNat) (p, q, r, s, t)).I c 4 + 1) = _; rw [wr5_I h (c + 10 + (h.I c 4).toNat) (p, q, r, s, t) c 4 (Or.inl (by omega))]⟩)
set_option maxRecDepth 100000 in
set_option maxHeartbeats 4000000 in
theorem e_X0_doorOf {G : GX} {y : LY} {h : HM} {d : Nat} (hY : Lay y) {c : Nat} (hc : Clk c) {a : Nat} {yd : Int} (ho : IsO y a 1) (h1 : R32 (h.I a 2)) (h2 : R32 (h.I c 6)) (h3 : R32 (h.I c 7)) (h4 : R32 (h.I c 8)) (h5 : R32 yd) : EvI G mX0_doorOf (d) [.ref c, .ref a, .int (iZ yd)] y h (dorS (h.I a 2) (h.I c 6) (h.I c 7) (h.I c 8) yd) := by
  refine Ev.of rfl [some (.ref c), some (.ref a), some (.int (iZ yd))] rfl (Nat.le_of_ble_eq_true rfl) ?_
  refine g_aload_n dX0_doorOf_0 rfl rfl (gf_X0_99 (M := mX0_doorOf) rfl dX0_doorOf_1 ho (g_aload_n dX0_doorOf_4 rfl rfl (gf_X0_39 (M := mX0_doorOf) rfl dX0_doorOf_5 (ck_o hY hc) ?_)))
  refine g_icmp_ne 27 dX0_doorOf_8 rfl (by omega) (by omega) (fun c8 => ?_) (fun c8 => ?_)
  · skip
    refine g_aload_n dX0_doorOf_27 rfl rfl (gf_X0_99 (M := mX0_doorOf) rfl dX0_doorOf_28 ho ?_)
    exact g_iret dX0_doorOf_31 rfl rfl ⟨Nat.le_refl _, Nat.le_refl _⟩ (by exact ⟨someI (by unfold dorS; repeat (split) <;> first | rfl | (exfalso; omega) | omega), rfl⟩)
  · skip
    refine g_iload_n dX0_doorOf_11 rfl rfl (g_aload_n dX0_doorOf_12 rfl rfl (gf_X0_42 (M := mX0_doorOf) rfl dX0_doorOf_13 (ck_o hY hc) ?_))
    refine g_icmp_lt 27 dX0_doorOf_16 rfl (by omega) (by omega) (fun c16 => ?_) (fun c16 => ?_)
    · skip
      refine g_aload_n dX0_doorOf_27 rfl rfl (gf_X0_99 (M := mX0_doorOf) rfl dX0_doorOf_28 ho ?_)
      exact g_iret dX0_doorOf_31 rfl rfl ⟨Nat.le_refl _, Nat.le_refl _⟩ (by exact ⟨someI (by unfold dorS; repeat (split) <;> first | rfl | (exfalso; omega) | omega), rfl⟩)
    · skip
      refine g_iload_n dX0_doorOf_19 rfl rfl (g_aload_n dX0_doorOf_20 rfl rfl (gf_X0_45 (M := mX0_doorOf) rfl dX0_doorOf_21 (ck_o hY hc) ?_))
      refine g_icmp_le 32 dX0_doorOf_24 rfl (by omega) (by omega) (fun c24 => ?_) (fun c24 => ?_)
      · skip
        refine g_aload_n dX0_doorOf_32 rfl rfl (gf_X0_99 (M := mX0_doorOf) rfl dX0_doorOf_33 ho (g_bipush dX0_doorOf_36 kb8 ?_))
        refine g_icmp_ge 50 dX0_doorOf_38 rfl (by omega) (by omega) (fun c38 => ?_) (fun c38 => ?_)
        · skip
          refine g_iconst dX0_doorOf_50 ?_
          exact g_iret dX0_doorOf_51 rfl rfl ⟨Nat.le_refl _, Nat.le_refl _⟩ (by exact ⟨someI (by unfold dorS; repeat (split) <;> first | rfl | (exfalso; omega) | omega), rfl⟩)
        · skip
          refine g_aload_n dX0_doorOf_41 rfl rfl (gf_X0_99 (M := mX0_doorOf) rfl dX0_doorOf_42 ho (g_iconst dX0_doorOf_45 (g_iadd dX0_doorOf_46 (g_goto 51 dX0_doorOf_47 rfl ?_))))
          exact g_iret dX0_doorOf_51 rfl rfl ⟨Nat.le_refl _, Nat.le_refl _⟩ (by exact ⟨someI (by unfold dorS; repeat (split) <;> first | rfl | (exfalso; omega) | omega), rfl⟩)
      · skip
        refine g_aload_n dX0_doorOf_27 rfl rfl (gf_X0_99 (M := mX0_doorOf) rfl dX0_doorOf_28 ho ?_)
        exact g_iret dX0_doorOf_31 rfl rfl ⟨Nat.le_refl _, Nat.le_refl _⟩ (by exact ⟨someI (by unfold dorS; repeat (split) <;> first | rfl | (exfalso; omega) | omega), rfl⟩)
set_option maxRecDepth 100000 in
set_option maxHeartbeats 4000000 in
theorem e_X0_crashesOf {G : GX} {y : LY} {h : HM} {d : Nat} (hY : Lay y) {c : Nat} (hc : Clk c) {f : Int} (hC : CF h c) (hf : 0 ≤ f ∧ f < h.I c 3) : EvI G mX0_crashesOf (d + 3) [.ref c, .int (iZ f)] y h (crS (cFs h c) f.toNat (h.I c 3).toNat) := by
  have hnf := hC.1
  have hFf := hC.2 f hf.1 hf.2
  refine Ev.of rfl [some (.ref c), some (.int (iZ f)), none, none] rfl (Nat.le_of_ble_eq_true rfl) ?_
  have L4 : ∀ (m : Nat) (g : Int), m = (h.I c 3 - g).toNat → 0 ≤ g ∧ g ≤ h.I c 3 → Go G mX0_crashesOf (rmo (d + 3) 0 0) (ZM G y 0 0 (fun r h1 => r = some (.int (iZ (crS (cFs h c) f.toNat (h.I c 3).toNat))) ∧ h1 = h)) y 4 [some (.ref c), some (.int (iZ f)), some (.int (iZ (crS (cFs h c) f.toNat g.toNat))), some (.int (iZ g))] [] h (0, 0) := by
    intro m
    induction m using Nat.strongRecOn with | _ m ih =>
    intro g hm hg
    have hbd := crS_bd (cFs h c) f.toNat g.toNat
    have hp := p2_6 (n := g.toNat) (by omega)
    refine g_iload_n dX0_crashesOf_4 rfl rfl (g_aload_n dX0_crashesOf_5 rfl rfl (gf_X0_29 (M := mX0_crashesOf) rfl dX0_crashesOf_6 (ck_o hY hc) ?_))
    refine g_icmp_ge 68 dX0_crashesOf_9 rfl (by omega) (by omega) (fun c9 => ?_) (fun c9 => ?_)
    · skip
      refine g_iload_n dX0_crashesOf_68 rfl rfl ?_
      exact g_iret dX0_crashesOf_69 rfl rfl ⟨Nat.le_refl _, Nat.le_refl _⟩ (by exact ⟨someI (by rw [show g = h.I c 3 by omega]), rfl⟩)
    · skip
      have hFg := hC.2 g hg.1 (by omega)
      refine g_iload_n dX0_crashesOf_12 rfl rfl (g_iload_n dX0_crashesOf_13 rfl rfl ?_)
      refine g_icmp_eq 62 dX0_crashesOf_14 rfl (by omega) (by omega) (fun c14 => ?_) (fun c14 => ?_)
      · skip
        refine g_inc3 dX0_crashesOf_62 (by decide) rfl (g_goto 4 dX0_crashesOf_65 rfl ?_)
        first
        | (have hn : ¬ CrP (cFs h c) f.toNat g.toNat := (fun q => q.1 (by omega)); exact (again_cr hn (by omega) (ih _ (by omega) (g + 1) rfl (by omega))))
        | (have hn : ¬ CrP (cFs h c) f.toNat g.toNat := (fun q => c35 q.2.1); exact (again_cr hn (by omega) (ih _ (by omega) (g + 1) rfl (by omega))))
        | (have hn : ¬ CrP (cFs h c) f.toNat g.toNat := (fun q => by rw [pI_t (P := MeetP (c5 h (c + 4 + f.toNat)) (c5 h (c + 4 + g.toNat))) q.2.2] at c53; omega); exact (again_cr hn (by omega) (ih _ (by omega) (g + 1) rfl (by omega))))
        | (have hy : CrP (cFs h c) f.toNat g.toNat := ⟨by omega, show h.I (c + 4 + g.toNat) 2 = h.I (c + 4 + f.toNat) 2 by omega, pI_eq1.mp (show pI (MeetP (c5 h (c + 4 + f.toNat)) (c5 h (c + 4 + g.toNat))) = 1 by omega)⟩; exact (again_cy hy (by omega) (by omega) (ih _ (by omega) (g + 1) rfl (by omega))))
      · skip
        refine g_aload_n dX0_crashesOf_17 rfl rfl (gf_X0_11 (M := mX0_crashesOf) rfl dX0_crashesOf_18 (ck_o hY hc) (ck_r0 hY hc) (g_iload_n dX0_crashesOf_21 rfl rfl (g_aald dX0_crashesOf_22 (ck_a0 hY hc) (by decide) (D0 := "ClockTeeth$Figure") rfl ⟨by omega, by omega, by omega⟩ (ck_fr hY hc (by omega)) (gf_X0_99 (M := mX0_crashesOf) rfl dX0_crashesOf_23 (ck_fo hY hc (by omega)) (g_aload_n dX0_crashesOf_26 rfl rfl (gf_X0_11 (M := mX0_crashesOf) rfl dX0_crashesOf_27 (ck_o hY hc) (ck_r0 hY hc) (g_iload_n dX0_crashesOf_30 rfl rfl (g_aald dX0_crashesOf_31 (ck_a0 hY hc) (by decide) (D0 := "ClockTeeth$Figure") rfl ⟨by omega, by omega, by omega⟩ (ck_fr hY hc (by omega)) (gf_X0_99 (M := mX0_crashesOf) rfl dX0_crashesOf_32 (ck_fo hY hc (by omega)) ?_)))))))))
        refine g_icmp_ne 62 dX0_crashesOf_35 rfl (by omega) (by omega) (fun c35 => ?_) (fun c35 => ?_)
        · skip
          refine g_inc3 dX0_crashesOf_62 (by decide) rfl (g_goto 4 dX0_crashesOf_65 rfl ?_)
          first
          | (have hn : ¬ CrP (cFs h c) f.toNat g.toNat := (fun q => q.1 (by omega)); exact (again_cr hn (by omega) (ih _ (by omega) (g + 1) rfl (by omega))))
          | (have hn : ¬ CrP (cFs h c) f.toNat g.toNat := (fun q => c35 q.2.1); exact (again_cr hn (by omega) (ih _ (by omega) (g + 1) rfl (by omega))))
          | (have hn : ¬ CrP (cFs h c) f.toNat g.toNat := (fun q => by rw [pI_t (P := MeetP (c5 h (c + 4 + f.toNat)) (c5 h (c + 4 + g.toNat))) q.2.2] at c53; omega); exact (again_cr hn (by omega) (ih _ (by omega) (g + 1) rfl (by omega))))
          | (have hy : CrP (cFs h c) f.toNat g.toNat := ⟨by omega, show h.I (c + 4 + g.toNat) 2 = h.I (c + 4 + f.toNat) 2 by omega, pI_eq1.mp (show pI (MeetP (c5 h (c + 4 + f.toNat)) (c5 h (c + 4 + g.toNat))) = 1 by omega)⟩; exact (again_cy hy (by omega) (by omega) (ih _ (by omega) (g + 1) rfl (by omega))))
        · skip
          refine g_aload_n dX0_crashesOf_38 rfl rfl (gf_X0_11 (M := mX0_crashesOf) rfl dX0_crashesOf_39 (ck_o hY hc) (ck_r0 hY hc) (g_iload_n dX0_crashesOf_42 rfl rfl (g_aald dX0_crashesOf_43 (ck_a0 hY hc) (by decide) (D0 := "ClockTeeth$Figure") rfl ⟨by omega, by omega, by omega⟩ (ck_fr hY hc (by omega)) (g_aload_n dX0_crashesOf_44 rfl rfl (gf_X0_11 (M := mX0_crashesOf) rfl dX0_crashesOf_45 (ck_o hY hc) (ck_r0 hY hc) (g_iload_n dX0_crashesOf_48 rfl rfl (g_aald dX0_crashesOf_49 (ck_a0 hY hc) (by decide) (D0 := "ClockTeeth$Figure") rfl ⟨by omega, by omega, by omega⟩ (ck_fr hY hc (by omega)) (cv_X0_118 (M := mX0_crashesOf) rfl dX0_crashesOf_50 (ck_fo hY hc (by omega)) (RO.same _ _ _) (Nat.le_of_ble_eq_true rfl) (e_X1_meets (ck_fo hY hc (by omega)) (ck_fo hY hc (by omega)) (by omega) (by omega)) <| kI ?_))))))))
          have hpm := pI_01 (MeetP (c5 h (c + 4 + f.toNat)) (c5 h (c + 4 + g.toNat)))
          refine g_if_eq 62 dX0_crashesOf_53 rfl (by omega) (fun c53 => ?_) (fun c53 => ?_)
          · skip
            refine g_inc3 dX0_crashesOf_62 (by decide) rfl (g_goto 4 dX0_crashesOf_65 rfl ?_)
            first
            | (have hn : ¬ CrP (cFs h c) f.toNat g.toNat := (fun q => q.1 (by omega)); exact (again_cr hn (by omega) (ih _ (by omega) (g + 1) rfl (by omega))))
            | (have hn : ¬ CrP (cFs h c) f.toNat g.toNat := (fun q => c35 q.2.1); exact (again_cr hn (by omega) (ih _ (by omega) (g + 1) rfl (by omega))))
            | (have hn : ¬ CrP (cFs h c) f.toNat g.toNat := (fun q => by rw [pI_t (P := MeetP (c5 h (c + 4 + f.toNat)) (c5 h (c + 4 + g.toNat))) q.2.2] at c53; omega); exact (again_cr hn (by omega) (ih _ (by omega) (g + 1) rfl (by omega))))
            | (have hy : CrP (cFs h c) f.toNat g.toNat := ⟨by omega, show h.I (c + 4 + g.toNat) 2 = h.I (c + 4 + f.toNat) 2 by omega, pI_eq1.mp (show pI (MeetP (c5 h (c + 4 + f.toNat)) (c5 h (c + 4 + g.toNat))) = 1 by omega)⟩; exact (again_cy hy (by omega) (by omega) (ih _ (by omega) (g + 1) rfl (by omega))))
          · skip
            refine g_iload_n dX0_crashesOf_56 rfl rfl (g_iconst dX0_crashesOf_57 (g_iload_n dX0_crashesOf_58 rfl rfl (g_ishl dX0_crashesOf_59 (g_ior dX0_crashesOf_60 (g_ist2 dX0_crashesOf_61 (by decide) rfl (g_inc3 dX0_crashesOf_62 (by decide) rfl (g_goto 4 dX0_crashesOf_65 rfl ?_)))))))
            first
            | (have hn : ¬ CrP (cFs h c) f.toNat g.toNat := (fun q => q.1 (by omega)); exact (again_cr hn (by omega) (ih _ (by omega) (g + 1) rfl (by omega))))
            | (have hn : ¬ CrP (cFs h c) f.toNat g.toNat := (fun q => c35 q.2.1); exact (again_cr hn (by omega) (ih _ (by omega) (g + 1) rfl (by omega))))
            | (have hn : ¬ CrP (cFs h c) f.toNat g.toNat := (fun q => by rw [pI_t (P := MeetP (c5 h (c + 4 + f.toNat)) (c5 h (c + 4 + g.toNat))) q.2.2] at c53; omega); exact (again_cr hn (by omega) (ih _ (by omega) (g + 1) rfl (by omega))))
            | (have hy : CrP (cFs h c) f.toNat g.toNat := ⟨by omega, show h.I (c + 4 + g.toNat) 2 = h.I (c + 4 + f.toNat) 2 by omega, pI_eq1.mp (show pI (MeetP (c5 h (c + 4 + f.toNat)) (c5 h (c + 4 + g.toNat))) = 1 by omega)⟩; exact (again_cy hy (by omega) (by omega) (ih _ (by omega) (g + 1) rfl (by omega))))
  refine g_iconst dX0_crashesOf_0 (g_ist2 dX0_crashesOf_1 (by decide) rfl (g_iconst dX0_crashesOf_2 (g_ist3 dX0_crashesOf_3 (by decide) rfl ?_)))
  exact L4 _ 0 rfl (by omega)
set_option maxRecDepth 100000 in
set_option maxHeartbeats 4000000 in
theorem e_X0_howManyCrash {G : GX} {y : LY} {h : HM} {d : Nat} (hY : Lay y) {c : Nat} (hc : Clk c) (hC : CF h c) : EvI G mX0_howManyCrash (d + 4) [.ref c] y h (hmS (cFs h c) (h.I c 3).toNat (h.I c 3).toNat) := by
  have hnf := hC.1
  refine Ev.of rfl [some (.ref c), none, none] rfl (Nat.le_of_ble_eq_true rfl) ?_
  have L4 : ∀ (m : Nat) (f : Int), m = (h.I c 3 - f).toNat → 0 ≤ f ∧ f ≤ h.I c 3 → Go G mX0_howManyCrash (rmo (d + 4) 0 0) (ZM G y 0 0 (fun r h1 => r = some (.int (iZ (hmS (cFs h c) (h.I c 3).toNat (h.I c 3).toNat))) ∧ h1 = h)) y 4 [some (.ref c), some (.int (iZ (hmS (cFs h c) (h.I c 3).toNat f.toNat))), some (.int (iZ f))] [] h (0, 0) := by
    intro m
    induction m using Nat.strongRecOn with | _ m ih =>
    intro f hm hf
    have hbd := hmS_bd (cFs h c) (h.I c 3).toNat f.toNat
    have hbc := crS_bd (cFs h c) f.toNat (h.I c 3).toNat
    have hp := p2_6 (n := (h.I c 3).toNat) (by omega)
    have e1 : hmS (cFs h c) (h.I c 3).toNat (f + 1).toNat = hmS (cFs h c) (h.I c 3).toNat f.toNat + pI (crS (cFs h c) f.toNat (h.I c 3).toNat ≠ 0) := by rw [show (f + 1).toNat = f.toNat + 1 by omega]; rfl
    refine g_iload_n dX0_howManyCrash_4 rfl rfl (g_aload_n dX0_howManyCrash_5 rfl rfl (gf_X0_29 (M := mX0_howManyCrash) rfl dX0_howManyCrash_6 (ck_o hY hc) ?_))
    refine g_icmp_ge 29 dX0_howManyCrash_9 rfl (by omega) (by omega) (fun c9 => ?_) (fun c9 => ?_)
    · skip
      refine g_iload_n dX0_howManyCrash_29 rfl rfl ?_
      exact g_iret dX0_howManyCrash_30 rfl rfl ⟨Nat.le_refl _, Nat.le_refl _⟩ (by exact ⟨someI (by rw [show f = h.I c 3 by omega]), rfl⟩)
    · skip
      refine g_aload_n dX0_howManyCrash_12 rfl rfl (g_iload_n dX0_howManyCrash_13 rfl rfl (cv_X0_122 (M := mX0_howManyCrash) rfl dX0_howManyCrash_14 (ck_o hY hc) (RO.same _ _ _) (Nat.le_of_ble_eq_true rfl) (e_X0_crashesOf hY hc hC (by omega)) <| kI ?_))
      refine g_if_eq 23 dX0_howManyCrash_17 rfl (by omega) (fun c17 => ?_) (fun c17 => ?_)
      · skip
        refine g_inc2 dX0_howManyCrash_23 (by decide) rfl (g_goto 4 dX0_howManyCrash_26 rfl ?_)
        have hgo := ih _ (by omega) (f + 1) rfl (by omega)
        rw [e1] at hgo
        first
        | (rw [pI_f (fun q => q c17), Int.add_zero] at hgo; exact hgo)
        | (rw [pI_t c17] at hgo; exact hgo)
      · skip
        refine g_inc1 dX0_howManyCrash_20 (by decide) rfl (g_inc2 dX0_howManyCrash_23 (by decide) rfl (g_goto 4 dX0_howManyCrash_26 rfl ?_))
        have hgo := ih _ (by omega) (f + 1) rfl (by omega)
        rw [e1] at hgo
        first
        | (rw [pI_f (fun q => q c17), Int.add_zero] at hgo; exact hgo)
        | (rw [pI_t c17] at hgo; exact hgo)
  refine g_iconst dX0_howManyCrash_0 (g_ist1 dX0_howManyCrash_1 (by decide) rfl (g_iconst dX0_howManyCrash_2 (g_ist2 dX0_howManyCrash_3 (by decide) rfl ?_)))
  exact L4 _ 0 rfl (by omega)
abbrev CS_ (h : HM) (c : Nat) : Prop := (0 ≤ h.I c 5 ∧ h.I c 5 ≤ 12) ∧ ∀ i : Int, 0 ≤ i → i < h.I c 5 → (0 ≤ h.I (c + 16 + i.toNat) 0 ∧ h.I (c + 16 + i.toNat) 0 ≤ 6) ∧ (0 ≤ h.I (c + 16 + i.toNat) 1 ∧ h.I (c + 16 + i.toNat) 1 ≤ 30000) ∧ (h.I (c + 16 + i.toNat) 2 = 0 ∨ h.I (c + 16 + i.toNat) 2 = 1)
def FitP (h : HM) (c a : Nat) (f : Int) : Prop := ∀ s : Int, 0 ≤ s → s < h.I c 5 → h.I (c + 16 + s.toNat) 0 = f → pI (Out (h.I a 0) (h.I a 1) (h.I a 3) (h.I a 4) (h.I (c + 16 + s.toNat) 1)) = h.I (c + 16 + s.toNat) 2
set_option maxRecDepth 100000 in
set_option maxHeartbeats 4000000 in
theorem e_X0_fits {G : GX} {y : LY} {h : HM} {d : Nat} (hY : Lay y) {c : Nat} (hc : Clk c) {a : Nat} {f : Int} (ho : IsO y a 1) (hS : CS_ h c) (hw : FW h a) (hs : 0 ≤ h.I a 1 ∧ h.I a 1 ≤ 60) (hf : R32 f) : EvI G mX0_fits (d + 2) [.ref c, .int (iZ f), .ref a] y h (pI (FitP h c a f)) := by
  have hns := hS.1
  refine Ev.of rfl [some (.ref c), some (.int (iZ f)), some (.ref a), none, none] rfl (Nat.le_of_ble_eq_true rfl) ?_
  have L2 : ∀ (m : Nat) (s : Int), m = (h.I c 5 - s).toNat → 0 ≤ s ∧ s ≤ h.I c 5 → (∀ t : Int, 0 ≤ t → t < s → h.I (c + 16 + t.toNat) 0 = f → pI (Out (h.I a 0) (h.I a 1) (h.I a 3) (h.I a 4) (h.I (c + 16 + t.toNat) 1)) = h.I (c + 16 + t.toNat) 2) → Go G mX0_fits (rmo (d + 2) 0 0) (ZM G y 0 0 (fun r h1 => r = some (.int (iZ (pI (FitP h c a f)))) ∧ h1 = h)) y 2 [some (.ref c), some (.int (iZ f)), some (.ref a), some (.int (iZ s)), none] [] h (0, 0) := by
    intro m
    induction m using Nat.strongRecOn with | _ m ih =>
    intro s hm hs0 hall
    refine g_iload_n dX0_fits_2 rfl rfl (g_aload_n dX0_fits_3 rfl rfl (gf_X0_36 (M := mX0_fits) rfl dX0_fits_4 (ck_o hY hc) ?_))
    refine g_icmp_ge 53 dX0_fits_7 rfl (by omega) (by omega) (fun c7 => ?_) (fun c7 => ?_)
    · skip
      refine g_iconst dX0_fits_53 ?_
      exact g_zret dX0_fits_54 rfl rfl ⟨Nat.le_refl _, Nat.le_refl _⟩ (by omega) (by exact ⟨someI (pI_t (fun t t0 t1 te => hall t t0 (by omega) te)).symm, rfl⟩)
    · skip
      have hSs := hS.2 s hs0.1 (by omega)
      refine g_aload_n dX0_fits_10 rfl rfl (gf_X0_25 (M := mX0_fits) rfl dX0_fits_11 (ck_o hY hc) (ck_r2 hY hc) (g_iload_n dX0_fits_14 rfl rfl (g_aald dX0_fits_15 (ck_a2 hY hc) (by decide) (D0 := "ClockTeeth$Sight") rfl ⟨by omega, by omega, by omega⟩ (ck_sr hY hc (by omega)) (g_ast4 dX0_fits_16 (by decide) rfl (g_aload dX0_fits_18 rfl (gf_X0_68 (M := mX0_fits) rfl dX0_fits_20 (ck_so hY hc (by omega)) (g_iload_n dX0_fits_23 rfl rfl ?_)))))))
      refine g_icmp_ne 47 dX0_fits_24 rfl (by omega) (by omega) (fun c24 => ?_) (fun c24 => ?_)
      · skip
        refine g_inc3 dX0_fits_47 (by decide) rfl (g_goto 2 dX0_fits_50 rfl (g_dr4 ?_))
        refine ih _ (by omega) (s + 1) rfl (by omega) (fun t t0 t1 te => ?_)
        rcases (by omega : t < s ∨ t = s) with z | rfl
        · exact hall t t0 z te
        · omega
      · skip
        refine g_aload_n dX0_fits_27 rfl rfl (g_aload dX0_fits_28 rfl (gf_X0_71 (M := mX0_fits) rfl dX0_fits_30 (ck_so hY hc (by omega)) (g_i2l dX0_fits_33 (by omega) (cv_X0_110 (M := mX0_fits) rfl dX0_fits_34 ho (RO.same _ _ _) (Nat.le_of_ble_eq_true rfl) (e_X1_comesOut ho (by omega) (by omega) (by omega)) <| kI ?_))))
        have hpo := pI_01 (Out (h.I a 0) (h.I a 1) (h.I a 3) (h.I a 4) (h.I (c + 16 + s.toNat) 1))
        refine g_aload dX0_fits_37 rfl (gf_X0_74 (M := mX0_fits) rfl dX0_fits_39 (ck_so hY hc (by omega)) ?_)
        refine g_icmp_eq 47 dX0_fits_42 rfl (by omega) (by omega) (fun c42 => ?_) (fun c42 => ?_)
        · skip
          refine g_inc3 dX0_fits_47 (by decide) rfl (g_goto 2 dX0_fits_50 rfl (g_dr4 ?_))
          refine ih _ (by omega) (s + 1) rfl (by omega) (fun t t0 t1 te => ?_)
          rcases (by omega : t < s ∨ t = s) with z | rfl
          · exact hall t t0 z te
          · omega
        · skip
          refine g_iconst dX0_fits_45 ?_
          exact g_zret dX0_fits_46 rfl rfl ⟨Nat.le_refl _, Nat.le_refl _⟩ (by omega) (by exact ⟨someI (pI_f (fun q => by have := q s hs0.1 (by omega) (by omega); omega)).symm, rfl⟩)
  refine g_iconst dX0_fits_0 (g_ist3 dX0_fits_1 (by decide) rfl ?_)
  exact L2 _ 0 rfl (by omega) (fun t t0 t1 => absurd t1 (by omega))
