/-- n objects made one behind the other, and laid into the array arr -/
def ldS (y : LY) (arr : Nat) (kd : Kd) : Nat → LY
  | 0 => y
  | i + 1 => ((ldS y arr kd i).new kd).sR arr i (some (ldS y arr kd i).n)
theorem ldS_n (y : LY) (arr : Nat) (kd : Kd) : ∀ i : Nat, (ldS y arr kd i).n = y.n + i
  | 0 => rfl
  | i + 1 => by
    show (ldS y arr kd i).n + 1 = y.n + (i + 1)
    rw [ldS_n y arr kd i]; omega
def yA (y : LY) (c : Nat) : LY := (((((y.new (.inr (3, 6))).sR c 0 (some (c + 1))).new (.inr (4, 6))).sR c 1 (some (c + 2))).new (.inr (5, 12))).sR c 2 (some (c + 3))
def yC (y : LY) (c : Nat) : LY := ldS (ldS (ldS (yA y c) (c + 1) (.inl 1) 6) (c + 2) (.inl 7) 6) (c + 3) (.inl 5) 12
def BC (y : LY) (c : Nat) : Prop := (IsO y c 0 ∧ IsA y (c + 1) 3 6 ∧ IsA y (c + 2) 4 6 ∧ IsA y (c + 3) 5 12) ∧ y.R c 0 = some (c + 1) ∧ y.R c 1 = some (c + 2) ∧ y.R c 2 = some (c + 3)
theorem BC.new {y : LY} {c : Nat} {kd : Kd} (h : BC y c) : BC (y.new kd) c := ⟨⟨h.1.1.new, h.1.2.1.new, h.1.2.2.1.new, h.1.2.2.2.new⟩, (R_new h.1.1.2.1).trans h.2.1, (R_new h.1.1.2.1).trans h.2.2.1, (R_new h.1.1.2.1).trans h.2.2.2⟩
theorem BC.sR {y : LY} {c a k : Nat} {v : Option Nat} (h : BC y c) (q : c ≠ a) : BC (y.sR a k v) c := ⟨h.1, (R_sR (fun z => q z.1)).trans h.2.1, (R_sR (fun z => q z.1)).trans h.2.2.1, (R_sR (fun z => q z.1)).trans h.2.2.2⟩
theorem BC.ld {y : LY} {c a : Nat} {kd : Kd} (h : BC y c) (q : c ≠ a) : ∀ i : Nat, BC (ldS y a kd i) c
  | 0 => h
  | i + 1 => (BC.ld h q i).new.sR q
theorem yA_B {y : LY} {c : Nat} (ho : IsO y c 0) (hn : y.n = c + 1) : BC (yA y c) c := by
  have h9 := ho.1
  refine ⟨⟨ho.new.sR.new.sR.new.sR, ?_, ?_, ?_⟩, ?_, ?_, ?_⟩
  · exact ((IsA.nw hn (by omega)).sR.new.sR.new.sR)
  · exact ((IsA.nw (y := (y.new (.inr (3, 6))).sR c 0 (some (c + 1))) (show y.n + 1 = c + 2 by omega) (by omega)).sR.new.sR)
  · exact ((IsA.nw (y := (((y.new (.inr (3, 6))).sR c 0 (some (c + 1))).new (.inr (4, 6))).sR c 1 (some (c + 2))) (show y.n + 1 + 1 = c + 3 by omega) (by omega)).sR)
  · unfold yA
    rw [R_sR (by omega), R_new (show c < y.n + 1 + 1 by omega), R_sR (by omega), R_new (show c < y.n + 1 by omega), R_at]
  · unfold yA
    rw [R_sR (by omega), R_new (show c < y.n + 1 + 1 by omega), R_at]
  · unfold yA
    rw [R_at]
def CI (h : HM) (c : Nat) : Prop := (h.I c 3 = 0 ∧ h.I c 4 = 0 ∧ h.I c 5 = 0) ∧ (h.I c 6 = -4 ∧ h.I c 7 = -4 ∧ h.I c 8 = -4) ∧ h.I c 9 = 1
theorem CI.up {h h1 : HM} {c : Nat} (a : CI h c) (e : h1.I c = h.I c) : CI h1 c := by unfold CI; rw [e]; exact a
theorem ci_0 (h : HM) (c : Nat) : CI (((((((h.sI c 3 0).sI c 4 0).sI c 5 0).sI c 6 (-4)).sI c 7 (-4)).sI c 8 (-4)).sI c 9 1) c := by
  unfold CI
  simp [sI_I]
set_option maxRecDepth 100000 in
set_option maxHeartbeats 2000000 in
theorem e_X0_init {G : GX} {y : LY} {h : HM} {d c : Nat} (ho : IsO y c 0) (hn : y.n = c + 1) : Ev G mX0_init (d + 2) 27 120 [.ref c] y h (yC y c) (fun r h1 => r = none ∧ Blw c h h1 ∧ CI h1 c) := by
  have h9 := ho.1
  have hB := yA_B ho hn
  have hn3 : (yA y c).n = c + 4 := (show y.n + 1 + 1 + 1 = c + 4 by omega)
  have hn101 : (ldS (yA y c) (c + 1) (.inl 1) 6).n = c + 10 := by rw [ldS_n, hn3]
  have hn131 : (ldS (ldS (yA y c) (c + 1) (.inl 1) 6) (c + 2) (.inl 7) 6).n = c + 16 := by rw [ldS_n, hn101]
  have hB1 : BC (ldS (yA y c) (c + 1) (.inl 1) 6) c := hB.ld (by omega) 6
  have hB2 : BC (ldS (ldS (yA y c) (c + 1) (.inl 1) 6) (c + 2) (.inl 7) 6) c := hB1.ld (by omega) 6
  have L131 : ∀ (m i : Nat) (h1 : HM) (cs : Nat × Nat), m + i = 12 → cs.1 + m + 0 ≤ 27 → cs.2 + 3 * m + 0 ≤ 120 → Blw c h h1 → CI h1 c → Go G mX0_init (rmo (d + 2) 27 120) (ZM G (yC y c) 27 120 (fun r h1 => r = none ∧ Blw c h h1 ∧ CI h1 c)) (ldS (ldS (ldS (yA y c) (c + 1) (.inl 1) 6) (c + 2) (.inl 7) 6) (c + 3) (.inl 5) i) 131 [some (.ref c), some (.int (iZ i))] [] h1 cs := by
    intro m
    induction m with
    | zero =>
      intro i h1 cs hm hc1 hc2 hb hci
      have hL : BC (ldS (ldS (ldS (yA y c) (c + 1) (.inl 1) 6) (c + 2) (.inl 7) 6) (c + 3) (.inl 5) i) c := hB2.ld (by omega) i
      have hLn : (ldS (ldS (ldS (yA y c) (c + 1) (.inl 1) 6) (c + 2) (.inl 7) 6) (c + 3) (.inl 5) i).n = c + 16 + i := by rw [ldS_n, hn131]
      refine g_iload_n dX0_init_131 rfl rfl (g_aload_n dX0_init_132 rfl rfl (gf_X0_25 (M := mX0_init) rfl dX0_init_133 hL.1.1 hL.2.2.2 (g_alen (v := 12) dX0_init_136 hL.1.2.2.2 (by decide) rfl ?_)))
      refine g_icmp_ge 159 dX0_init_137 rfl (by omega) (by omega) (fun cc => ?_) (fun cc => ?_)
      · obtain rfl : i = 12 := (by omega)
        exact g_vret dX0_init_159 rfl rfl ⟨by omega, by omega⟩ ⟨rfl, hb, hci⟩
      · exfalso; omega
    | succ m ih =>
      intro i h1 cs hm hc1 hc2 hb hci
      have hL : BC (ldS (ldS (ldS (yA y c) (c + 1) (.inl 1) 6) (c + 2) (.inl 7) 6) (c + 3) (.inl 5) i) c := hB2.ld (by omega) i
      have hLn : (ldS (ldS (ldS (yA y c) (c + 1) (.inl 1) 6) (c + 2) (.inl 7) 6) (c + 3) (.inl 5) i).n = c + 16 + i := by rw [ldS_n, hn131]
      refine g_iload_n dX0_init_131 rfl rfl (g_aload_n dX0_init_132 rfl rfl (gf_X0_25 (M := mX0_init) rfl dX0_init_133 hL.1.1 hL.2.2.2 (g_alen (v := 12) dX0_init_136 hL.1.2.2.2 (by decide) rfl ?_)))
      refine g_icmp_ge 159 dX0_init_137 rfl (by omega) (by omega) (fun cc => ?_) (fun cc => ?_)
      · exfalso; omega
      · skip
        refine g_aload_n dX0_init_140 rfl rfl (gf_X0_25 (M := mX0_init) rfl dX0_init_141 hL.1.1 hL.2.2.2 (g_iload_n dX0_init_144 rfl rfl (nw_X0_23 (M := mX0_init) rfl dX0_init_145 ⟨by show cs.1 + 1 ≤ 27; omega, by show cs.2 + 3 ≤ 120; omega⟩ (g_dup dX0_init_148 rfl ?_))))
        refine cv_X0_53 (M := mX0_init) rfl dX0_init_149 (d := d + 1) (mc := 0) (ms := 0) ⟨Nat.le_refl _, Nat.le_refl _, by show cs.1 + 1 + 0 ≤ 27; omega, by show cs.2 + 3 + 0 ≤ 120; omega⟩ (Nat.le_of_ble_eq_true rfl) (e_X5_init (IsO.nw rfl (by omega))) ?_
        rintro r h2 ⟨rfl, hb2⟩
        refine g_aast (t := 5) (ci := 5) dX0_init_152 hL.1.2.2.2.new (by decide) rfl ⟨by omega, by omega, by omega⟩ (IsO.nw rfl (by omega)) rfl (fun j => ⟨rfl, rfl⟩) ?_
        refine g_inc1 dX0_init_153 (by decide) rfl (g_goto 131 dX0_init_156 rfl ?_)
        have hb3 : Blw (c + 1) h1 h2 := ((Blw.rf (c + 1) h1).nw (by omega)).tr (hb2.lo (by omega))
        exact ih (i + 1) h2 _ (by omega) (by show cs.1 + 1 + 0 + m + 0 ≤ 27; omega) (by show cs.2 + 3 + 0 + 3 * m + 0 ≤ 120; omega) (hb.tr (hb3.lo (by omega))) (hci.up (hb3 c (by omega)))
  have L101 : ∀ (m i : Nat) (h1 : HM) (cs : Nat × Nat), m + i = 6 → cs.1 + m + 12 ≤ 27 → cs.2 + 5 * m + 36 ≤ 120 → Blw c h h1 → CI h1 c → Go G mX0_init (rmo (d + 2) 27 120) (ZM G (yC y c) 27 120 (fun r h1 => r = none ∧ Blw c h h1 ∧ CI h1 c)) (ldS (ldS (yA y c) (c + 1) (.inl 1) 6) (c + 2) (.inl 7) i) 101 [some (.ref c), some (.int (iZ i))] [] h1 cs := by
    intro m
    induction m with
    | zero =>
      intro i h1 cs hm hc1 hc2 hb hci
      have hL : BC (ldS (ldS (yA y c) (c + 1) (.inl 1) 6) (c + 2) (.inl 7) i) c := hB1.ld (by omega) i
      have hLn : (ldS (ldS (yA y c) (c + 1) (.inl 1) 6) (c + 2) (.inl 7) i).n = c + 10 + i := by rw [ldS_n, hn101]
      refine g_iload_n dX0_init_101 rfl rfl (g_aload_n dX0_init_102 rfl rfl (gf_X0_19 (M := mX0_init) rfl dX0_init_103 hL.1.1 hL.2.2.1 (g_alen (v := 6) dX0_init_106 hL.1.2.2.1 (by decide) rfl ?_)))
      refine g_icmp_ge 129 dX0_init_107 rfl (by omega) (by omega) (fun cc => ?_) (fun cc => ?_)
      · obtain rfl : i = 6 := (by omega)
        refine g_iconst dX0_init_129 (g_ist1 dX0_init_130 (by decide) rfl ?_)
        exact L131 12 0 h1 cs (by omega) (by omega) (by omega) hb hci
      · exfalso; omega
    | succ m ih =>
      intro i h1 cs hm hc1 hc2 hb hci
      have hL : BC (ldS (ldS (yA y c) (c + 1) (.inl 1) 6) (c + 2) (.inl 7) i) c := hB1.ld (by omega) i
      have hLn : (ldS (ldS (yA y c) (c + 1) (.inl 1) 6) (c + 2) (.inl 7) i).n = c + 10 + i := by rw [ldS_n, hn101]
      refine g_iload_n dX0_init_101 rfl rfl (g_aload_n dX0_init_102 rfl rfl (gf_X0_19 (M := mX0_init) rfl dX0_init_103 hL.1.1 hL.2.2.1 (g_alen (v := 6) dX0_init_106 hL.1.2.2.1 (by decide) rfl ?_)))
      refine g_icmp_ge 129 dX0_init_107 rfl (by omega) (by omega) (fun cc => ?_) (fun cc => ?_)
      · exfalso; omega
      · skip
        refine g_aload_n dX0_init_110 rfl rfl (gf_X0_19 (M := mX0_init) rfl dX0_init_111 hL.1.1 hL.2.2.1 (g_iload_n dX0_init_114 rfl rfl (nw_X0_17 (M := mX0_init) rfl dX0_init_115 ⟨by show cs.1 + 1 ≤ 27; omega, by show cs.2 + 5 ≤ 120; omega⟩ (g_dup dX0_init_118 rfl ?_))))
        refine cv_X0_52 (M := mX0_init) rfl dX0_init_119 (d := d + 1) (mc := 0) (ms := 0) ⟨Nat.le_refl _, Nat.le_refl _, by show cs.1 + 1 + 0 ≤ 27; omega, by show cs.2 + 5 + 0 ≤ 120; omega⟩ (Nat.le_of_ble_eq_true rfl) (e_X7_init (IsO.nw rfl (by omega))) ?_
        rintro r h2 ⟨rfl, hb2⟩
        refine g_aast (t := 4) (ci := 7) dX0_init_122 hL.1.2.2.1.new (by decide) rfl ⟨by omega, by omega, by omega⟩ (IsO.nw rfl (by omega)) rfl (fun j => ⟨rfl, rfl⟩) ?_
        refine g_inc1 dX0_init_123 (by decide) rfl (g_goto 101 dX0_init_126 rfl ?_)
        have hb3 : Blw (c + 1) h1 h2 := ((Blw.rf (c + 1) h1).nw (by omega)).tr (hb2.lo (by omega))
        exact ih (i + 1) h2 _ (by omega) (by show cs.1 + 1 + 0 + m + 12 ≤ 27; omega) (by show cs.2 + 5 + 0 + 5 * m + 36 ≤ 120; omega) (hb.tr (hb3.lo (by omega))) (hci.up (hb3 c (by omega)))
  have L71 : ∀ (m i : Nat) (h1 : HM) (cs : Nat × Nat), m + i = 6 → cs.1 + m + 18 ≤ 27 → cs.2 + 5 * m + 66 ≤ 120 → Blw c h h1 → CI h1 c → Go G mX0_init (rmo (d + 2) 27 120) (ZM G (yC y c) 27 120 (fun r h1 => r = none ∧ Blw c h h1 ∧ CI h1 c)) (ldS (yA y c) (c + 1) (.inl 1) i) 71 [some (.ref c), some (.int (iZ i))] [] h1 cs := by
    intro m
    induction m with
    | zero =>
      intro i h1 cs hm hc1 hc2 hb hci
      have hL : BC (ldS (yA y c) (c + 1) (.inl 1) i) c := hB.ld (by omega) i
      have hLn : (ldS (yA y c) (c + 1) (.inl 1) i).n = c + 4 + i := by rw [ldS_n, hn3]
      refine g_iload_n dX0_init_71 rfl rfl (g_aload_n dX0_init_72 rfl rfl (gf_X0_11 (M := mX0_init) rfl dX0_init_73 hL.1.1 hL.2.1 (g_alen (v := 6) dX0_init_76 hL.1.2.1 (by decide) rfl ?_)))
      refine g_icmp_ge 99 dX0_init_77 rfl (by omega) (by omega) (fun cc => ?_) (fun cc => ?_)
      · obtain rfl : i = 6 := (by omega)
        refine g_iconst dX0_init_99 (g_ist1 dX0_init_100 (by decide) rfl ?_)
        exact L101 6 0 h1 cs (by omega) (by omega) (by omega) hb hci
      · exfalso; omega
    | succ m ih =>
      intro i h1 cs hm hc1 hc2 hb hci
      have hL : BC (ldS (yA y c) (c + 1) (.inl 1) i) c := hB.ld (by omega) i
      have hLn : (ldS (yA y c) (c + 1) (.inl 1) i).n = c + 4 + i := by rw [ldS_n, hn3]
      refine g_iload_n dX0_init_71 rfl rfl (g_aload_n dX0_init_72 rfl rfl (gf_X0_11 (M := mX0_init) rfl dX0_init_73 hL.1.1 hL.2.1 (g_alen (v := 6) dX0_init_76 hL.1.2.1 (by decide) rfl ?_)))
      refine g_icmp_ge 99 dX0_init_77 rfl (by omega) (by omega) (fun cc => ?_) (fun cc => ?_)
      · exfalso; omega
      · skip
        refine g_aload_n dX0_init_80 rfl rfl (gf_X0_11 (M := mX0_init) rfl dX0_init_81 hL.1.1 hL.2.1 (g_iload_n dX0_init_84 rfl rfl (nw_X0_9 (M := mX0_init) rfl dX0_init_85 ⟨by show cs.1 + 1 ≤ 27; omega, by show cs.2 + 5 ≤ 120; omega⟩ (g_dup dX0_init_88 rfl ?_))))
        refine cv_X0_51 (M := mX0_init) rfl dX0_init_89 (d := d + 1) (mc := 0) (ms := 0) ⟨Nat.le_refl _, Nat.le_refl _, by show cs.1 + 1 + 0 ≤ 27; omega, by show cs.2 + 5 + 0 ≤ 120; omega⟩ (Nat.le_of_ble_eq_true rfl) (e_X1_init (IsO.nw rfl (by omega))) ?_
        rintro r h2 ⟨rfl, hb2⟩
        refine g_aast (t := 3) (ci := 1) dX0_init_92 hL.1.2.1.new (by decide) rfl ⟨by omega, by omega, by omega⟩ (IsO.nw rfl (by omega)) rfl (fun j => ⟨rfl, rfl⟩) ?_
        refine g_inc1 dX0_init_93 (by decide) rfl (g_goto 71 dX0_init_96 rfl ?_)
        have hb3 : Blw (c + 1) h1 h2 := ((Blw.rf (c + 1) h1).nw (by omega)).tr (hb2.lo (by omega))
        exact ih (i + 1) h2 _ (by omega) (by show cs.1 + 1 + 0 + m + 18 ≤ 27; omega) (by show cs.2 + 5 + 0 + 5 * m + 66 ≤ 120; omega) (hb.tr (hb3.lo (by omega))) (hci.up (hb3 c (by omega)))
  refine Ev.of rfl [some (.ref c), none] rfl (Nat.le_of_ble_eq_true rfl) ?_
  refine g_aload_n dX0_init_0 rfl rfl (cv_X0_3 (M := mX0_init) rfl dX0_init_1 ⟨by simp [rmo], by simp only [rmo]; omega⟩ (Nat.le_of_ble_eq_true rfl) (g_aload_n dX0_init_4 rfl rfl (g_bipush dX0_init_5 kb6 (ban_X0_9 (M := mX0_init) rfl dX0_init_7 (by decide) rfl (by decide) ⟨Nat.le_of_ble_eq_true rfl, Nat.le_of_ble_eq_true rfl⟩ hn (pf_X0_11 (M := mX0_init) rfl rfl dX0_init_10 ho.new (g_aload_n dX0_init_13 rfl rfl (g_bipush dX0_init_14 kb6 (ban_X0_17 (M := mX0_init) rfl dX0_init_16 (by decide) rfl (by decide) ⟨Nat.le_of_ble_eq_true rfl, Nat.le_of_ble_eq_true rfl⟩ (show y.n + 1 = c + 2 by omega) (pf_X0_19 (M := mX0_init) rfl rfl dX0_init_19 ho.new.sR.new ?_)))))))))
  refine g_aload_n dX0_init_22 rfl rfl (g_bipush dX0_init_23 kb12 (ban_X0_23 (M := mX0_init) rfl dX0_init_25 (by decide) rfl (by decide) ⟨Nat.le_of_ble_eq_true rfl, Nat.le_of_ble_eq_true rfl⟩ (show y.n + 1 + 1 = c + 3 by omega) (pf_X0_25 (M := mX0_init) rfl rfl dX0_init_28 ho.new.sR.new.sR.new (g_aload_n dX0_init_31 rfl rfl (g_iconst dX0_init_32 (pf_X0_29 (M := mX0_init) rfl dX0_init_33 ho.new.sR.new.sR.new.sR (g_aload_n dX0_init_36 rfl rfl (g_iconst dX0_init_37 (pf_X0_33 (M := mX0_init) rfl dX0_init_38 ho.new.sR.new.sR.new.sR ?_)))))))))
  refine g_aload_n dX0_init_41 rfl rfl (g_iconst dX0_init_42 (pf_X0_36 (M := mX0_init) rfl dX0_init_43 ho.new.sR.new.sR.new.sR (g_aload_n dX0_init_46 rfl rfl (g_bipush dX0_init_47 kbm4 (pf_X0_39 (M := mX0_init) rfl dX0_init_49 ho.new.sR.new.sR.new.sR (g_aload_n dX0_init_52 rfl rfl (g_bipush dX0_init_53 kbm4 (pf_X0_42 (M := mX0_init) rfl dX0_init_55 ho.new.sR.new.sR.new.sR (g_aload_n dX0_init_58 rfl rfl ?_)))))))))
  refine g_bipush dX0_init_59 kbm4 (pf_X0_45 (M := mX0_init) rfl dX0_init_61 ho.new.sR.new.sR.new.sR (g_aload_n dX0_init_64 rfl rfl (g_iconst dX0_init_65 (pf_X0_48 (M := mX0_init) rfl dX0_init_66 ho.new.sR.new.sR.new.sR (g_iconst dX0_init_69 (g_ist1 dX0_init_70 (by decide) rfl ?_))))))
  refine L71 6 0 _ _ (by omega) (Nat.le_of_ble_eq_true rfl) (Nat.le_of_ble_eq_true rfl) ?_ (ci_0 _ c)
  exact ((((((((((Blw.rf c h).nw (by omega)).nw (by omega)).nw (by omega)).s (Nat.le_refl c)).s (Nat.le_refl c)).s (Nat.le_refl c)).s (Nat.le_refl c)).s (Nat.le_refl c)).s (Nat.le_refl c)).s (Nat.le_refl c)
def yFa (y : LY) (c : Nat) : LY := (((((((y.new (.inr (3, 6))).sR c 0 (some (c + 1))).new (.inr (1, 7))).sR c 1 (some (c + 2))).new (.inr (1, 6))).sR c 2 (some (c + 3))).new (.inr (1, 6))).sR c 3 (some (c + 4))
def yF (y : LY) (c : Nat) : LY := ldS (yFa y c) (c + 1) (.inl 1) 6
def BF (y : LY) (c : Nat) : Prop := (IsO y c 2 ∧ IsA y (c + 1) 3 6) ∧ y.R c 0 = some (c + 1)
theorem BF.ld {y : LY} {c a : Nat} {kd : Kd} (h : BF y c) (q : c ≠ a) : ∀ i : Nat, BF (ldS y a kd i) c
  | 0 => h
  | i + 1 => ⟨⟨(BF.ld h q i).1.1.new.sR, (BF.ld h q i).1.2.new.sR⟩, (R_sR (fun z => q z.1)).trans ((R_new (BF.ld h q i).1.1.2.1).trans (BF.ld h q i).2)⟩
theorem yFa_B {y : LY} {c : Nat} (ho : IsO y c 2) (hn : y.n = c + 1) : BF (yFa y c) c := by
  have h9 := ho.1
  refine ⟨⟨ho.new.sR.new.sR.new.sR.new.sR, ?_⟩, ?_⟩
  · exact ((IsA.nw hn (by omega)).sR.new.sR.new.sR.new.sR)
  · unfold yFa
    rw [R_sR (by omega), R_new (show c < y.n + 1 + 1 + 1 by omega), R_sR (by omega), R_new (show c < y.n + 1 + 1 by omega), R_sR (by omega), R_new (show c < y.n + 1 by omega), R_at]
set_option maxRecDepth 100000 in
set_option maxHeartbeats 2000000 in
theorem e_X2_init {G : GX} {y : LY} {h : HM} {d c : Nat} (ho : IsO y c 2) (hn : y.n = c + 1) : Ev G mX2_init (d + 2) 10 55 [.ref c] y h (yF y c) (fun r h1 => r = none ∧ Blw c h h1) := by
  have h9 := ho.1
  have hB := yFa_B ho hn
  have hn3 : (yFa y c).n = c + 5 := (show y.n + 1 + 1 + 1 + 1 = c + 5 by omega)
  have L54 : ∀ (m i : Nat) (h1 : HM) (cs : Nat × Nat), m + i = 6 → cs.1 + m ≤ 10 → cs.2 + 5 * m ≤ 55 → Blw c h h1 → Go G mX2_init (rmo (d + 2) 10 55) (ZM G (yF y c) 10 55 (fun r h1 => r = none ∧ Blw c h h1)) (ldS (yFa y c) (c + 1) (.inl 1) i) 54 [some (.ref c), some (.int (iZ i))] [] h1 cs := by
    intro m
    induction m with
    | zero =>
      intro i h1 cs hm hc1 hc2 hb
      have hL : BF (ldS (yFa y c) (c + 1) (.inl 1) i) c := hB.ld (by omega) i
      have hLn : (ldS (yFa y c) (c + 1) (.inl 1) i).n = c + 5 + i := by rw [ldS_n, hn3]
      refine g_iload_n dX2_init_54 rfl rfl (g_aload_n dX2_init_55 rfl rfl (gf_X2_11 (M := mX2_init) rfl dX2_init_56 hL.1.1 hL.2 (g_alen (v := 6) dX2_init_59 hL.1.2 (by decide) rfl ?_)))
      refine g_icmp_ge 82 dX2_init_60 rfl (by omega) (by omega) (fun cc => ?_) (fun cc => ?_)
      · obtain rfl : i = 6 := (by omega)
        exact g_vret dX2_init_82 rfl rfl ⟨by omega, by omega⟩ ⟨rfl, hb⟩
      · exfalso; omega
    | succ m ih =>
      intro i h1 cs hm hc1 hc2 hb
      have hL : BF (ldS (yFa y c) (c + 1) (.inl 1) i) c := hB.ld (by omega) i
      have hLn : (ldS (yFa y c) (c + 1) (.inl 1) i).n = c + 5 + i := by rw [ldS_n, hn3]
      refine g_iload_n dX2_init_54 rfl rfl (g_aload_n dX2_init_55 rfl rfl (gf_X2_11 (M := mX2_init) rfl dX2_init_56 hL.1.1 hL.2 (g_alen (v := 6) dX2_init_59 hL.1.2 (by decide) rfl ?_)))
      refine g_icmp_ge 82 dX2_init_60 rfl (by omega) (by omega) (fun cc => ?_) (fun cc => ?_)
      · exfalso; omega
      · skip
        refine g_aload_n dX2_init_63 rfl rfl (gf_X2_11 (M := mX2_init) rfl dX2_init_64 hL.1.1 hL.2 (g_iload_n dX2_init_67 rfl rfl (nw_X2_9 (M := mX2_init) rfl dX2_init_68 ⟨by show cs.1 + 1 ≤ 10; omega, by show cs.2 + 5 ≤ 55; omega⟩ (g_dup dX2_init_71 rfl ?_))))
        refine cv_X2_38 (M := mX2_init) rfl dX2_init_72 (d := d + 1) (mc := 0) (ms := 0) ⟨Nat.le_refl _, Nat.le_refl _, by show cs.1 + 1 + 0 ≤ 10; omega, by show cs.2 + 5 + 0 ≤ 55; omega⟩ (Nat.le_of_ble_eq_true rfl) (e_X1_init (IsO.nw rfl (by omega))) ?_
        rintro r h2 ⟨rfl, hb2⟩
        refine g_aast (t := 3) (ci := 1) dX2_init_75 hL.1.2.new (by decide) rfl ⟨by omega, by omega, by omega⟩ (IsO.nw rfl (by omega)) rfl (fun j => ⟨rfl, rfl⟩) ?_
        refine g_inc1 dX2_init_76 (by decide) rfl (g_goto 54 dX2_init_79 rfl ?_)
        have hb3 : Blw (c + 1) h1 h2 := ((Blw.rf (c + 1) h1).nw (by omega)).tr (hb2.lo (by omega))
        exact ih (i + 1) h2 _ (by omega) (by show cs.1 + 1 + 0 + m ≤ 10; omega) (by show cs.2 + 5 + 0 + 5 * m ≤ 55; omega) (hb.tr (hb3.lo (by omega)))
  refine Ev.of rfl [some (.ref c), none] rfl (Nat.le_of_ble_eq_true rfl) ?_
  refine g_aload_n dX2_init_0 rfl rfl (cv_X2_3 (M := mX2_init) rfl dX2_init_1 ⟨by simp [rmo], by simp only [rmo]; omega⟩ (Nat.le_of_ble_eq_true rfl) (g_aload_n dX2_init_4 rfl rfl (g_bipush dX2_init_5 kb6 (ban_X2_9 (M := mX2_init) rfl dX2_init_7 (by decide) rfl (by decide) ⟨Nat.le_of_ble_eq_true rfl, Nat.le_of_ble_eq_true rfl⟩ hn (pf_X2_11 (M := mX2_init) rfl rfl dX2_init_10 ho.new (g_aload_n dX2_init_13 rfl rfl (g_bipush dX2_init_14 kb7 (na_long dX2_init_16 (show y.n + 1 = c + 2 by omega) (by decide) rfl (by decide) ⟨Nat.le_of_ble_eq_true rfl, Nat.le_of_ble_eq_true rfl⟩ (pf_X2_17 (M := mX2_init) rfl rfl dX2_init_18 ho.new.sR.new ?_)))))))))
  refine g_aload_n dX2_init_21 rfl rfl (g_bipush dX2_init_22 kb6 (na_long dX2_init_24 (show y.n + 1 + 1 = c + 3 by omega) (by decide) rfl (by decide) ⟨Nat.le_of_ble_eq_true rfl, Nat.le_of_ble_eq_true rfl⟩ (pf_X2_21 (M := mX2_init) rfl rfl dX2_init_26 ho.new.sR.new.sR.new (g_aload_n dX2_init_29 rfl rfl (g_bipush dX2_init_30 kb6 (na_long dX2_init_32 (show y.n + 1 + 1 + 1 = c + 4 by omega) (by decide) rfl (by decide) ⟨Nat.le_of_ble_eq_true rfl, Nat.le_of_ble_eq_true rfl⟩ (pf_X2_24 (M := mX2_init) rfl rfl dX2_init_34 ho.new.sR.new.sR.new.sR.new (g_aload_n dX2_init_37 rfl rfl (g_iconst dX2_init_38 ?_)))))))))
  refine pf_X2_27 (M := mX2_init) rfl dX2_init_39 ho.new.sR.new.sR.new.sR.new.sR (g_aload_n dX2_init_42 rfl rfl (g_lconst (v := 0) dX2_init_43 rfl (pf_X2_31 (M := mX2_init) rfl dX2_init_44 ho.new.sR.new.sR.new.sR.new.sR (g_aload_n dX2_init_47 rfl rfl (g_lconst (v := 0) dX2_init_48 rfl (pf_X2_35 (M := mX2_init) rfl dX2_init_49 ho.new.sR.new.sR.new.sR.new.sR (g_iconst dX2_init_52 (g_ist1 dX2_init_53 (by decide) rfl ?_))))))))
  exact L54 6 0 _ _ (by omega) (Nat.le_of_ble_eq_true rfl) (Nat.le_of_ble_eq_true rfl) (((((((Blw.rf c h).nw (by omega)).nw (by omega)).nw (by omega)).nw (by omega)).s (Nat.le_refl c)).sl.sl)
