/-- a block of objects is copied: cnt of them, w fields each -/
def cpB (h : HM) (D S cnt w : Nat) : HM := (fun a j => if D ≤ a ∧ a < D + cnt ∧ j < w then h.1 (a - D + S) j else h.1 a j, h.2)
theorem cpB_I (h : HM) (D S cnt w a j : Nat) : (cpB h D S cnt w).I a j = if D ≤ a ∧ a < D + cnt ∧ j < w then h.I (a - D + S) j else h.I a j := rfl
theorem cpB_L (h : HM) (D S cnt w : Nat) : (cpB h D S cnt w).L = h.L := rfl
theorem cpB_0 (h : HM) (D S w : Nat) : cpB h D S 0 w = h := by
  unfold cpB
  ext1
  · funext a j; simp only []; rw [if_neg (by omega)]
  · rfl
theorem cpB_5 (h : HM) {D S n : Nat} (hd : ¬ (D ≤ S + n ∧ S + n < D + n)) : wr5 (cpB h D S n 5) (D + n) (c5 (cpB h D S n 5) (S + n)) = cpB h D S (n + 1) 5 := by
  have e : ∀ j, (cpB h D S n 5).I (S + n) j = h.I (S + n) j := fun j => by rw [cpB_I, if_neg (by omega)]
  unfold c5
  simp only [e]
  unfold wr5 HM.sI up2 cpB HM.I
  ext1
  · funext a j
    simp only []
    by_cases ha : a = D + n
    · subst ha
      rw [show D + n - D + S = S + n by omega]
      by_cases j0 : j = 0
      · subst j0; simp
      · by_cases j1 : j = 1
        · subst j1; simp
        · by_cases j2 : j = 2
          · subst j2; simp
          · by_cases j3 : j = 3
            · subst j3; simp
            · by_cases j4 : j = 4
              · subst j4; simp
              · simp [j0, j1, j2, j3, j4]
                intro q; omega
    · simp only [ha, false_and, if_false]
      by_cases hr : D ≤ a ∧ a < D + n ∧ j < 5
      · rw [if_pos hr, if_pos (by omega)]
      · rw [if_neg hr, if_neg (by omega)]
  · rfl
theorem cpB_3 (h : HM) {D S n : Nat} (hd : ¬ (D ≤ S + n ∧ S + n < D + n)) : wr3 (cpB h D S n 3) (D + n) ((cpB h D S n 3).I (S + n) 0) ((cpB h D S n 3).I (S + n) 1) ((cpB h D S n 3).I (S + n) 2) = cpB h D S (n + 1) 3 := by
  have e : ∀ j, (cpB h D S n 3).I (S + n) j = h.I (S + n) j := fun j => by rw [cpB_I, if_neg (by omega)]
  simp only [e]
  unfold wr3 HM.sI up2 cpB HM.I
  ext1
  · funext a j
    simp only []
    by_cases ha : a = D + n
    · subst ha
      rw [show D + n - D + S = S + n by omega]
      by_cases j0 : j = 0
      · subst j0; simp
      · by_cases j1 : j = 1
        · subst j1; simp
        · by_cases j2 : j = 2
          · subst j2; simp
          · simp [j0, j1, j2]
            intro q; omega
    · simp only [ha, false_and, if_false]
      by_cases hr : D ≤ a ∧ a < D + n ∧ j < 3
      · rw [if_pos hr, if_pos (by omega)]
      · rw [if_neg hr, if_neg (by omega)]
  · rfl
/-- one clock becomes another -/
def bcF (h : HM) (c s : Nat) : HM := cpB h (c + 4) (s + 4) (h.I s 3).toNat 5
def bcV (h : HM) (c s : Nat) : HM := cpB (bcF h c s) (c + 10) (s + 10) (h.I s 4).toNat 5
def bcS (h : HM) (c s : Nat) : HM := cpB (bcV h c s) (c + 16) (s + 16) (h.I s 5).toNat 3
def bcH (h : HM) (c s : Nat) : HM := wJ (((((bcS h c s).sI c 3 (h.I s 3)).sI c 4 (h.I s 4)).sI c 5 (h.I s 5)).sI c 9 (h.I s 9)) c (h.I s 6) (h.I s 7) (h.I s 8)
theorem cpB_at (h : HM) {D S n w a j : Nat} (hd : ¬ (D ≤ a ∧ a < D + n)) : (cpB h D S n w).I a j = h.I a j := by rw [cpB_I, if_neg (fun q => hd ⟨q.1, q.2.1⟩)]
set_option maxRecDepth 100000 in
set_option maxHeartbeats 4000000 in
theorem e_X0_become {G : GX} {y : LY} {h : HM} {d : Nat} (hY : Lay y) {c s : Nat} (hc : Clk c) (hs : Clk s) (hne : c ≠ s) (hnf : 0 ≤ h.I s 3 ∧ h.I s 3 ≤ 6) (hnv : 0 ≤ h.I s 4 ∧ h.I s 4 ≤ 6) (hns : 0 ≤ h.I s 5 ∧ h.I s 5 ≤ 12) (hw : ∀ i : Int, 0 ≤ i → i < h.I s 5 → h.I (s + 16 + i.toNat) 2 = 0 ∨ h.I (s + 16 + i.toNat) 2 = 1) : EvV G mX0_become (d + 1) [.ref c, .ref s] y h (bcH h c s) := by
  have hco : c + 28 ≤ s ∨ s + 28 ≤ c := by rcases hc with rfl | rfl | rfl | rfl <;> rcases hs with rfl | rfl | rfl | rfl <;> omega
  have pF : ∀ a j : Nat, a < c ∨ c + 28 ≤ a ∨ a = c → (bcF h c s).I a j = h.I a j := fun a j q => cpB_at h (by omega)
  have pV : ∀ a j : Nat, a < c ∨ c + 28 ≤ a ∨ a = c → (bcV h c s).I a j = h.I a j := fun a j q => (cpB_at _ (by omega)).trans (pF a j q)
  have pS : ∀ a j : Nat, a < c ∨ c + 28 ≤ a ∨ a = c → (bcS h c s).I a j = h.I a j := fun a j q => (cpB_at _ (by omega)).trans (pV a j q)
  refine Ev.of rfl [some (.ref c), some (.ref s), none, none] rfl (Nat.le_of_ble_eq_true rfl) ?_
  have L64 : ∀ (m : Nat) (i : Int), m = (h.I s 5 - i).toNat → 0 ≤ i ∧ i ≤ h.I s 5 → Go G mX0_become (rmo (d + 1) 0 0) (ZM G y 0 0 (fun r h1 => r = none ∧ h1 = bcH h c s)) y 64 [some (.ref c), some (.ref s), some (.int (iZ i)), none] [] (cpB (bcV h c s) (c + 16) (s + 16) i.toNat 3) (0, 0) := by
    intro m
    induction m using Nat.strongRecOn with | _ m ih =>
    intro i hm hi
    have q3 : (cpB (bcV h c s) (c + 16) (s + 16) i.toNat 3).I s 5 = h.I s 5 := (cpB_at _ (by omega)).trans (pV s 5 (by omega))
    refine g_iload_n dX0_become_64 rfl rfl (g_aload_n dX0_become_65 rfl rfl (gf_X0_36 (M := mX0_become) rfl dX0_become_66 (ck_o hY hs) ?_))
    refine g_icmp_ge 106 dX0_become_69 rfl (by omega) (by omega) (fun c69 => ?_) (fun c69 => ?_)
    · skip
      refine g_aload_n dX0_become_106 rfl rfl (g_aload_n dX0_become_107 rfl rfl (gf_X0_29 (M := mX0_become) rfl dX0_become_108 (ck_o hY hs) (pf_X0_29 (M := mX0_become) rfl dX0_become_111 (ck_o hY hc) (g_aload_n dX0_become_114 rfl rfl (g_aload_n dX0_become_115 rfl rfl (gf_X0_33 (M := mX0_become) rfl dX0_become_116 (ck_o hY hs) (pf_X0_33 (M := mX0_become) rfl dX0_become_119 (ck_o hY hc) (g_aload_n dX0_become_122 rfl rfl (g_aload_n dX0_become_123 rfl rfl (gf_X0_36 (M := mX0_become) rfl dX0_become_124 (ck_o hY hs) (pf_X0_36 (M := mX0_become) rfl dX0_become_127 (ck_o hY hc) ?_)))))))))))
      refine g_aload_n dX0_become_130 rfl rfl (g_aload_n dX0_become_131 rfl rfl (gf_X0_48 (M := mX0_become) rfl dX0_become_132 (ck_o hY hs) (pf_X0_48 (M := mX0_become) rfl dX0_become_135 (ck_o hY hc) (g_aload_n dX0_become_138 rfl rfl (g_aload_n dX0_become_139 rfl rfl (gf_X0_39 (M := mX0_become) rfl dX0_become_140 (ck_o hY hs) (g_aload_n dX0_become_143 rfl rfl (gf_X0_42 (M := mX0_become) rfl dX0_become_144 (ck_o hY hs) (g_aload_n dX0_become_147 rfl rfl (gf_X0_45 (M := mX0_become) rfl dX0_become_148 (ck_o hY hs) (cv_X0_57 (M := mX0_become) rfl dX0_become_151 (ck_o hY hc) (RO.same _ _ _) (Nat.le_of_ble_eq_true rfl) (e_X0_jam hY hc) <| kV ?_)))))))))))
      exact g_vret dX0_become_154 rfl rfl ⟨Nat.le_refl _, Nat.le_refl _⟩ (by refine ⟨rfl, ?_⟩; rw [show i = h.I s 5 by omega]; show wJ _ c _ _ _ = _; have r : ∀ j, (cpB (bcV h c s) (c + 16) (s + 16) (h.I s 5).toNat 3).I s j = h.I s j := (fun j => pS s j (by omega)); have hcs : ¬ s = c := (fun e => hne e.symm); simp only [sI_I, r, hcs, false_and, if_false]; rfl)
    · skip
      have hwi := hw i hi.1 (by omega)
      have q4 : (cpB (bcV h c s) (c + 16) (s + 16) i.toNat 3).I (s + 16 + i.toNat) 2 = h.I (s + 16 + i.toNat) 2 := (cpB_at _ (by omega)).trans (pV _ 2 (by omega))
      refine g_aload_n dX0_become_72 rfl rfl (gf_X0_25 (M := mX0_become) rfl dX0_become_73 (ck_o hY hs) (ck_r2 hY hs) (g_iload_n dX0_become_76 rfl rfl (g_aald dX0_become_77 (ck_a2 hY hs) (by decide) (D0 := "ClockTeeth$Sight") rfl ⟨by omega, by omega, by omega⟩ (ck_sr hY hs (by omega)) (g_ast3 dX0_become_78 (by decide) rfl (g_aload_n dX0_become_79 rfl rfl (gf_X0_25 (M := mX0_become) rfl dX0_become_80 (ck_o hY hc) (ck_r2 hY hc) (g_iload_n dX0_become_83 rfl rfl (g_aald dX0_become_84 (ck_a2 hY hc) (by decide) (D0 := "ClockTeeth$Sight") rfl ⟨by omega, by omega, by omega⟩ (ck_sr hY hc (by omega)) (g_aload_n dX0_become_85 rfl rfl (gf_X0_68 (M := mX0_become) rfl dX0_become_86 (ck_so hY hs (by omega)) (g_aload_n dX0_become_89 rfl rfl ?_)))))))))))
      refine gf_X0_71 (M := mX0_become) rfl dX0_become_90 (ck_so hY hs (by omega)) (g_aload_n dX0_become_93 rfl rfl (gf_X0_74 (M := mX0_become) rfl dX0_become_94 (ck_so hY hs (by omega)) (cv_X0_78 (M := mX0_become) rfl dX0_become_97 (ck_so hY hc (by omega)) (RO.same _ _ _) (Nat.le_of_ble_eq_true rfl) (e_X5_tell (ck_so hY hc (by omega)) (by omega)) <| kV (g_inc2 dX0_become_100 (by decide) rfl (g_goto 64 dX0_become_103 rfl (g_dr3 ?_))))))
      have e1 := cpB_3 (bcV h c s) (D := c + 16) (S := s + 16) (n := i.toNat) (by omega)
      rw [show i.toNat + 1 = (i + 1).toNat by omega] at e1
      exact g_h e1 (ih _ (by omega) (i + 1) rfl (by omega))
  have L33 : ∀ (m : Nat) (i : Int), m = (h.I s 4 - i).toNat → 0 ≤ i ∧ i ≤ h.I s 4 → Go G mX0_become (rmo (d + 1) 0 0) (ZM G y 0 0 (fun r h1 => r = none ∧ h1 = bcH h c s)) y 33 [some (.ref c), some (.ref s), some (.int (iZ i)), none] [] (cpB (bcF h c s) (c + 10) (s + 10) i.toNat 5) (0, 0) := by
    intro m
    induction m using Nat.strongRecOn with | _ m ih =>
    intro i hm hi
    have q3 : (cpB (bcF h c s) (c + 10) (s + 10) i.toNat 5).I s 4 = h.I s 4 := (cpB_at _ (by omega)).trans (pF s 4 (by omega))
    refine g_iload_n dX0_become_33 rfl rfl (g_aload_n dX0_become_34 rfl rfl (gf_X0_33 (M := mX0_become) rfl dX0_become_35 (ck_o hY hs) ?_))
    refine g_icmp_ge 62 dX0_become_38 rfl (by omega) (by omega) (fun c38 => ?_) (fun c38 => ?_)
    · skip
      refine g_iconst dX0_become_62 (g_ist2 dX0_become_63 (by decide) rfl ?_)
      rw [show i = h.I s 4 by omega]
      exact g_h (cpB_0 (bcV h c s) (c + 16) (s + 16) 3).symm (L64 _ 0 rfl (by omega))
    · skip
      refine g_aload_n dX0_become_41 rfl rfl (gf_X0_19 (M := mX0_become) rfl dX0_become_42 (ck_o hY hc) (ck_r1 hY hc) (g_iload_n dX0_become_45 rfl rfl (g_aald dX0_become_46 (ck_a1 hY hc) (by decide) (D0 := "ClockTeeth$Vote") rfl ⟨by omega, by omega, by omega⟩ (ck_vr hY hc (by omega)) (g_aload_n dX0_become_47 rfl rfl (gf_X0_19 (M := mX0_become) rfl dX0_become_48 (ck_o hY hs) (ck_r1 hY hs) (g_iload_n dX0_become_51 rfl rfl (g_aald dX0_become_52 (ck_a1 hY hs) (by decide) (D0 := "ClockTeeth$Vote") rfl ⟨by omega, by omega, by omega⟩ (ck_vr hY hs (by omega)) (cv_X0_65 (M := mX0_become) rfl dX0_become_53 (ck_vo hY hc (by omega)) (RO.same _ _ _) (Nat.le_of_ble_eq_true rfl) (e_X7_become (ck_vo hY hc (by omega)) (ck_vo hY hs (by omega))) <| kV (g_inc2 dX0_become_56 (by decide) rfl (g_goto 33 dX0_become_59 rfl ?_))))))))))
      have e1 := cpB_5 (bcF h c s) (D := c + 10) (S := s + 10) (n := i.toNat) (by omega)
      rw [show i.toNat + 1 = (i + 1).toNat by omega] at e1
      exact g_h e1 (ih _ (by omega) (i + 1) rfl (by omega))
  have L2 : ∀ (m : Nat) (i : Int), m = (h.I s 3 - i).toNat → 0 ≤ i ∧ i ≤ h.I s 3 → Go G mX0_become (rmo (d + 1) 0 0) (ZM G y 0 0 (fun r h1 => r = none ∧ h1 = bcH h c s)) y 2 [some (.ref c), some (.ref s), some (.int (iZ i)), none] [] (cpB h (c + 4) (s + 4) i.toNat 5) (0, 0) := by
    intro m
    induction m using Nat.strongRecOn with | _ m ih =>
    intro i hm hi
    have q3 : (cpB h (c + 4) (s + 4) i.toNat 5).I s 3 = h.I s 3 := cpB_at _ (by omega)
    refine g_iload_n dX0_become_2 rfl rfl (g_aload_n dX0_become_3 rfl rfl (gf_X0_29 (M := mX0_become) rfl dX0_become_4 (ck_o hY hs) ?_))
    refine g_icmp_ge 31 dX0_become_7 rfl (by omega) (by omega) (fun c7 => ?_) (fun c7 => ?_)
    · skip
      refine g_iconst dX0_become_31 (g_ist2 dX0_become_32 (by decide) rfl ?_)
      rw [show i = h.I s 3 by omega]
      exact g_h (cpB_0 (bcF h c s) (c + 10) (s + 10) 5).symm (L33 _ 0 rfl (by omega))
    · skip
      refine g_aload_n dX0_become_10 rfl rfl (gf_X0_11 (M := mX0_become) rfl dX0_become_11 (ck_o hY hc) (ck_r0 hY hc) (g_iload_n dX0_become_14 rfl rfl (g_aald dX0_become_15 (ck_a0 hY hc) (by decide) (D0 := "ClockTeeth$Figure") rfl ⟨by omega, by omega, by omega⟩ (ck_fr hY hc (by omega)) (g_aload_n dX0_become_16 rfl rfl (gf_X0_11 (M := mX0_become) rfl dX0_become_17 (ck_o hY hs) (ck_r0 hY hs) (g_iload_n dX0_become_20 rfl rfl (g_aald dX0_become_21 (ck_a0 hY hs) (by decide) (D0 := "ClockTeeth$Figure") rfl ⟨by omega, by omega, by omega⟩ (ck_fr hY hs (by omega)) (cv_X0_61 (M := mX0_become) rfl dX0_become_22 (ck_fo hY hc (by omega)) (RO.same _ _ _) (Nat.le_of_ble_eq_true rfl) (e_X1_become (ck_fo hY hc (by omega)) (ck_fo hY hs (by omega))) <| kV (g_inc2 dX0_become_25 (by decide) rfl (g_goto 2 dX0_become_28 rfl ?_))))))))))
      have e1 := cpB_5 h (D := c + 4) (S := s + 4) (n := i.toNat) (by omega)
      rw [show i.toNat + 1 = (i + 1).toNat by omega] at e1
      exact g_h e1 (ih _ (by omega) (i + 1) rfl (by omega))
  refine g_iconst dX0_become_0 (g_ist2 dX0_become_1 (by decide) rfl ?_)
  exact g_h (cpB_0 h (c + 4) (s + 4) 5).symm (L2 _ 0 rfl (by omega))
def hvF (h : HM) (c : Nat) : Nat → HM
  | 0 => h
  | v + 1 => wr5 (hvF h c v) (c + 4 + (h.I (c + 10 + v) 1).toNat) (h.I (c + 10 + v) 2, h.I (c + 10 + v) 3, h.I (c + 10 + v) 4, 0, 0)
def hdH (h : HM) (c : Nat) (n : Int) : HM := (cpB (hvF h c n.toNat) (c + 10) (c + 10 + n.toNat) (h.I c 4 - n).toNat 5).sI c 4 (h.I c 4 - n)
abbrev CV (h : HM) (c : Nat) : Prop := (0 ≤ h.I c 4 ∧ h.I c 4 ≤ 6) ∧ ∀ i : Int, 0 ≤ i → i < h.I c 4 → 0 ≤ h.I (c + 10 + i.toNat) 1 ∧ h.I (c + 10 + i.toNat) 1 < 6
theorem hvF_I (h : HM) (c : Nat) : ∀ (v : Nat), (∀ k, k < v → 0 ≤ h.I (c + 10 + k) 1 ∧ h.I (c + 10 + k) 1 < 6) → ∀ a j, a < c + 4 ∨ c + 10 ≤ a → (hvF h c v).I a j = h.I a j
  | 0, _, _, _, _ => rfl
  | v + 1, hg, a, j, q => by
    have := hg v (by omega)
    rw [hvF, wr5_I _ _ _ _ _ (Or.inl (by omega))]
    exact hvF_I h c v (fun k hk => hg k (by omega)) a j q
set_option maxRecDepth 100000 in
set_option maxHeartbeats 4000000 in
theorem e_X0_holdVotes {G : GX} {y : LY} {h : HM} {d : Nat} (hY : Lay y) {n : Int} (hV : CV h 12) (hn : 0 ≤ n ∧ n ≤ h.I 12 4) : EvV G mX0_holdVotes (d + 1) [.ref 12, .int (iZ n)] y h (hdH h 12 n) := by
  have hnv := hV.1
  have hI : ∀ (v : Int), 0 ≤ v → v ≤ n → ∀ a j : Nat, a < 12 + 4 ∨ 12 + 10 ≤ a → (hvF h 12 v.toNat).I a j = h.I a j := fun v v0 v1 => hvF_I h 12 v.toNat (fun k hk => by have := hV.2 (k : Int) (by omega) (by omega); rwa [show ((k : Int)).toNat = k by omega] at this)
  refine Ev.of rfl [some (.ref 12), some (.int (iZ n)), none, none, none] rfl (Nat.le_of_ble_eq_true rfl) ?_
  have L72 : ∀ (m : Nat) (v : Int), m = (h.I 12 4 - v).toNat → n ≤ v ∧ v ≤ h.I 12 4 → Go G mX0_holdVotes (rmo (d + 1) 0 0) (ZM G y 0 0 (fun r h1 => r = none ∧ h1 = hdH h 12 n)) y 72 [some (.ref 12), some (.int (iZ n)), some (.int (iZ v)), none, none] [] (cpB (hvF h 12 n.toNat) (12 + 10) (12 + 10 + n.toNat) (v - n).toNat 5) (0, 0) := by
    intro m
    induction m using Nat.strongRecOn with | _ m ih =>
    intro v hm hv
    have q4 : (cpB (hvF h 12 n.toNat) (12 + 10) (12 + 10 + n.toNat) (v - n).toNat 5).I 12 4 = h.I 12 4 := (cpB_at _ (by omega)).trans (hI n hn.1 (by omega) 12 4 (by omega))
    refine g_iload_n dX0_holdVotes_72 rfl rfl (g_aload_n dX0_holdVotes_73 rfl rfl (gf_X0_33 (M := mX0_holdVotes) rfl dX0_holdVotes_74 (ck_o hY clk12) ?_))
    refine g_icmp_ge 103 dX0_holdVotes_77 rfl (by omega) (by omega) (fun c77 => ?_) (fun c77 => ?_)
    · skip
      refine g_aload_n dX0_holdVotes_103 rfl rfl (g_dup dX0_holdVotes_104 rfl (gf_X0_33 (M := mX0_holdVotes) rfl dX0_holdVotes_105 (ck_o hY clk12) (g_iload_n dX0_holdVotes_108 rfl rfl (g_isub dX0_holdVotes_109 (pf_X0_33 (M := mX0_holdVotes) rfl dX0_holdVotes_110 (ck_o hY clk12) ?_)))))
      exact g_vret dX0_holdVotes_113 rfl rfl ⟨Nat.le_refl _, Nat.le_refl _⟩ (by refine ⟨rfl, ?_⟩; rw [q4, show v = h.I 12 4 by omega]; rfl)
    · skip
      refine g_aload_n dX0_holdVotes_80 rfl rfl (gf_X0_19 (M := mX0_holdVotes) rfl dX0_holdVotes_81 (ck_o hY clk12) (ck_r1 hY clk12) (g_iload_n dX0_holdVotes_84 rfl rfl (g_iload_n dX0_holdVotes_85 rfl rfl (g_isub dX0_holdVotes_86 (g_aald dX0_holdVotes_87 (ck_a1 hY clk12) (by decide) (D0 := "ClockTeeth$Vote") rfl ⟨by omega, by omega, by omega⟩ (ck_vr hY clk12 (by omega)) (g_aload_n dX0_holdVotes_88 rfl rfl (gf_X0_19 (M := mX0_holdVotes) rfl dX0_holdVotes_89 (ck_o hY clk12) (ck_r1 hY clk12) (g_iload_n dX0_holdVotes_92 rfl rfl (g_aald dX0_holdVotes_93 (ck_a1 hY clk12) (by decide) (D0 := "ClockTeeth$Vote") rfl ⟨by omega, by omega, by omega⟩ (ck_vr hY clk12 (by omega)) (cv_X0_65 (M := mX0_holdVotes) rfl dX0_holdVotes_94 (ck_vo hY clk12 (by omega)) (RO.same _ _ _) (Nat.le_of_ble_eq_true rfl) (e_X7_become (ck_vo hY clk12 (by omega)) (ck_vo hY clk12 (by omega))) <| kV (g_inc2 dX0_holdVotes_97 (by decide) rfl ?_)))))))))))
      refine g_goto 72 dX0_holdVotes_100 rfl ?_
      have e1 := cpB_5 (hvF h 12 n.toNat) (D := 12 + 10) (S := 12 + 10 + n.toNat) (n := (v - n).toNat) (by omega)
      rw [show (v - n).toNat + 1 = (v + 1 - n).toNat by omega, show 12 + 10 + n.toNat + (v - n).toNat = 12 + 10 + v.toNat by omega] at e1
      exact g_h e1 (ih _ (by omega) (v + 1) rfl (by omega))
  have L2 : ∀ (m : Nat) (v : Int), m = (n - v).toNat → 0 ≤ v ∧ v ≤ n → Go G mX0_holdVotes (rmo (d + 1) 0 0) (ZM G y 0 0 (fun r h1 => r = none ∧ h1 = hdH h 12 n)) y 2 [some (.ref 12), some (.int (iZ n)), some (.int (iZ v)), none, none] [] (hvF h 12 v.toNat) (0, 0) := by
    intro m
    induction m using Nat.strongRecOn with | _ m ih =>
    intro v hm hv
    have r : ∀ j, (hvF h 12 v.toNat).I (12 + 10 + v.toNat) j = h.I (12 + 10 + v.toNat) j := fun j => hI v hv.1 hv.2 _ j (by omega)
    refine g_iload_n dX0_holdVotes_2 rfl rfl (g_iload_n dX0_holdVotes_3 rfl rfl ?_)
    refine g_icmp_ge 70 dX0_holdVotes_4 rfl (by omega) (by omega) (fun c4 => ?_) (fun c4 => ?_)
    · skip
      refine g_iload_n dX0_holdVotes_70 rfl rfl (g_ist2 dX0_holdVotes_71 (by decide) rfl ?_)
      rw [show v = n by omega]
      have e0 := cpB_0 (hvF h 12 n.toNat) (12 + 10) (12 + 10 + n.toNat) 5
      rw [show 0 = (n - n).toNat by omega] at e0
      exact g_h e0.symm (L72 _ n rfl (by omega))
    · skip
      have hVv := hV.2 v hv.1 (by omega)
      have r1 := r 1
      refine g_aload_n dX0_holdVotes_7 rfl rfl (gf_X0_19 (M := mX0_holdVotes) rfl dX0_holdVotes_8 (ck_o hY clk12) (ck_r1 hY clk12) (g_iload_n dX0_holdVotes_11 rfl rfl (g_aald dX0_holdVotes_12 (ck_a1 hY clk12) (by decide) (D0 := "ClockTeeth$Vote") rfl ⟨by omega, by omega, by omega⟩ (ck_vr hY clk12 (by omega)) (g_ast3 dX0_holdVotes_13 (by decide) rfl (g_aload_n dX0_holdVotes_14 rfl rfl (gf_X0_11 (M := mX0_holdVotes) rfl dX0_holdVotes_15 (ck_o hY clk12) (ck_r0 hY clk12) (g_aload_n dX0_holdVotes_18 rfl rfl (gf_X0_85 (M := mX0_holdVotes) rfl dX0_holdVotes_19 (ck_vo hY clk12 (by omega)) (g_aald dX0_holdVotes_22 (ck_a0 hY clk12) (by decide) (D0 := "ClockTeeth$Figure") rfl ⟨by omega, by omega, by omega⟩ (ck_fr hY clk12 (by omega)) (g_ast4 dX0_holdVotes_23 (by decide) rfl (g_aload dX0_holdVotes_25 rfl ?_)))))))))))
      refine g_aload_n dX0_holdVotes_27 rfl rfl (gf_X0_88 (M := mX0_holdVotes) rfl dX0_holdVotes_28 (ck_vo hY clk12 (by omega)) (pf_X0_97 (M := mX0_holdVotes) rfl dX0_holdVotes_31 (ck_fo hY clk12 (by omega)) (g_aload dX0_holdVotes_34 rfl (g_aload_n dX0_holdVotes_36 rfl rfl (gf_X0_91 (M := mX0_holdVotes) rfl dX0_holdVotes_37 (ck_vo hY clk12 (by omega)) (pf_X0_98 (M := mX0_holdVotes) rfl dX0_holdVotes_40 (ck_fo hY clk12 (by omega)) (g_aload dX0_holdVotes_43 rfl (g_aload_n dX0_holdVotes_45 rfl rfl (gf_X0_94 (M := mX0_holdVotes) rfl dX0_holdVotes_46 (ck_vo hY clk12 (by omega)) (pf_X0_99 (M := mX0_holdVotes) rfl dX0_holdVotes_49 (ck_fo hY clk12 (by omega)) (g_aload dX0_holdVotes_52 rfl ?_)))))))))))
      refine g_iconst dX0_holdVotes_54 (pf_X0_100 (M := mX0_holdVotes) rfl dX0_holdVotes_55 (ck_fo hY clk12 (by omega)) (g_aload dX0_holdVotes_58 rfl (g_iconst dX0_holdVotes_60 (pf_X0_103 (M := mX0_holdVotes) rfl dX0_holdVotes_61 (ck_fo hY clk12 (by omega)) (g_inc2 dX0_holdVotes_64 (by decide) rfl (g_goto 2 dX0_holdVotes_67 rfl (g_dr3 (g_dr4 ?_))))))))
      refine g_h ?_ (ih _ (by omega) (v + 1) rfl (by omega))
      rw [show (v + 1).toNat = v.toNat + 1 by omega]
      show _ = wr5 (hvF h 12 v.toNat) (12 + 4 + (h.I (12 + 10 + v.toNat) 1).toNat) (h.I (12 + 10 + v.toNat) 2, h.I (12 + 10 + v.toNat) 3, h.I (12 + 10 + v.toNat) 4, 0, 0)
      rw [r1]
      have hne : ¬ 12 + 10 + v.toNat = 12 + 4 + (h.I (12 + 10 + v.toNat) 1).toNat := by omega
      unfold wr5
      simp only [sI_I, hne, false_and, if_false, r]
  refine g_iconst dX0_holdVotes_0 (g_ist2 dX0_holdVotes_1 (by decide) rfl ?_)
  exact L2 _ 0 rfl (by omega)
def byt (v i : Int) : Int := lAnd (lUshr v (56 - 8 * i)) 255
def tkH (h : HM) (v : Int) : HM := (h.sA 11 (fun j => if h.I 10 1 ≤ j ∧ (j : Int) < h.I 10 1 + 8 then byt v (j - h.I 10 1) else h.I 11 j)).sI 10 1 (h.I 10 1 + 8)
set_option maxRecDepth 100000 in
set_option maxHeartbeats 4000000 in
theorem e_X6_take {G : GX} {y : LY} {h : HM} {d : Nat} (hY : Lay y) {v : Int} (hl : 0 ≤ h.I 10 1 ∧ h.I 10 1 ≤ 400) : EvQX G mX6_take (d) [.ref 10, .long (lZ v)] y h (fun r h1 => (392 < h.I 10 1 ∧ r = 0 ∧ h1 = h) ∨ (h.I 10 1 ≤ 392 ∧ r = 1 ∧ h1 = tkH h v)) := by
  refine Ev.of rfl [some (.ref 10), some (.long (lZ v)), none, none] rfl (Nat.le_of_ble_eq_true rfl) ?_
  have L17 : ∀ (m : Nat) (i : Int), m = (8 - i).toNat → 0 ≤ i ∧ i ≤ 8 → h.I 10 1 ≤ 392 → Go G mX6_take (rmo (d) 0 0) (ZM G y 0 0 (fun r h1 => ∃ v_ : Int, r = some (.int (iZ v_)) ∧ (fun r h1 => (392 < h.I 10 1 ∧ r = 0 ∧ h1 = h) ∨ (h.I 10 1 ≤ 392 ∧ r = 1 ∧ h1 = tkH h v)) v_ h1)) y 17 [some (.ref 10), some (.long (lZ v)), none, some (.int (iZ i))] [] (h.sA 11 (fun j => if h.I 10 1 ≤ j ∧ (j : Int) < h.I 10 1 + i then byt v (j - h.I 10 1) else h.I 11 j)) (0, 0) := by
    intro m
    induction m using Nat.strongRecOn with | _ m ih =>
    intro i hm hi h392
    have q1 : (h.sA 11 (fun j => if h.I 10 1 ≤ j ∧ (j : Int) < h.I 10 1 + i then byt v (j - h.I 10 1) else h.I 11 j)).I 10 1 = h.I 10 1 := by simp [sA_I]
    refine g_iload_n dX6_take_17 rfl rfl (g_bipush dX6_take_18 kb8 ?_)
    refine g_icmp_ge 54 dX6_take_20 rfl (by omega) (by omega) (fun c20 => ?_) (fun c20 => ?_)
    · skip
      refine g_aload_n dX6_take_54 rfl rfl (g_dup dX6_take_55 rfl (gf_X6_15 (M := mX6_take) rfl dX6_take_56 (yo10 hY) (g_bipush dX6_take_59 kb8 (g_iadd dX6_take_61 (pf_X6_15 (M := mX6_take) rfl dX6_take_62 (yo10 hY) (g_iconst dX6_take_65 ?_))))))
      exact g_zret dX6_take_66 rfl rfl ⟨Nat.le_refl _, Nat.le_refl _⟩ (by omega) (by refine ⟨1, rfl, Or.inr ⟨h392, rfl, ?_⟩⟩; rw [q1, show i = 8 by omega]; rfl)
    · skip
      refine g_aload_n dX6_take_23 rfl rfl (gf_X6_9 (M := mX6_take) rfl dX6_take_24 (yo10 hY) (yr10_0 hY) (g_aload_n dX6_take_27 rfl rfl (gf_X6_15 (M := mX6_take) rfl dX6_take_28 (yo10 hY) (g_iload_n dX6_take_31 rfl rfl (g_iadd dX6_take_32 (g_lload_n dX6_take_33 rfl rfl (g_bipush dX6_take_34 kb56 (g_bipush dX6_take_36 kb8 (g_iload_n dX6_take_38 rfl rfl (g_imul dX6_take_39 (g_isub dX6_take_40 ?_)))))))))))
      refine g_lushr dX6_take_41 (c2_X6_19 (M := mX6_take) rfl dX6_take_42 (g_land dX6_take_45 (g_l2i dX6_take_46 (g_iast dX6_take_47 (ya11 hY) ⟨by omega, by omega, by omega⟩ (g_inc3 dX6_take_48 (by decide) rfl (g_goto 17 dX6_take_51 rfl ?_))))))
      refine g_h ?_ (ih _ (by omega) (i + 1) rfl (by omega) h392)
      rw [sA_sI]
      refine sA_congr _ _ fun j => ?_
      rw [q1]
      by_cases e1 : j = (h.I 10 1 + i).toNat
      · rw [if_pos e1, if_pos (by omega)]; unfold byt; rw [show (j : Int) - h.I 10 1 = i by omega]
      · rw [if_neg e1]
        by_cases e2 : h.I 10 1 ≤ j ∧ (j : Int) < h.I 10 1 + i
        · rw [if_pos e2, if_pos (by omega)]
        · rw [if_neg e2, if_neg (by omega)]
  refine g_aload_n dX6_take_0 rfl rfl (gf_X6_15 (M := mX6_take) rfl dX6_take_1 (yo10 hY) (g_bipush dX6_take_4 kb8 (g_iadd dX6_take_6 (g_sipush dX6_take_7 ks400 ?_))))
  refine g_icmp_le 15 dX6_take_10 rfl (by omega) (by omega) (fun c10 => ?_) (fun c10 => ?_)
  · skip
    refine g_iconst dX6_take_15 (g_ist3 dX6_take_16 (by decide) rfl ?_)
    refine g_h ?_ (L17 _ 0 rfl (by omega) (by omega))
    conv => lhs; rw [← sA_self h 11]
    refine sA_congr _ _ fun j => ?_
    rw [if_neg (by omega)]
  · skip
    refine g_iconst dX6_take_13 ?_
    exact g_zret dX6_take_14 rfl rfl ⟨Nat.le_refl _, Nat.le_refl _⟩ (by omega) (by exact ⟨0, rfl, Or.inl ⟨by omega, rfl, rfl⟩⟩)
set_option maxRecDepth 100000 in
set_option maxHeartbeats 4000000 in
theorem e_X6_isLetter {G : GX} {y : LY} {h : HM} {d : Nat} (hY : Lay y) {p : Int} (hp : 0 ≤ p ∧ p ≤ 400) (hl : 0 ≤ h.I 10 1 ∧ h.I 10 1 ≤ 400) (hby : ∀ j : Nat, (j : Int) < h.I 10 1 → 0 ≤ h.I 11 j ∧ h.I 11 j ≤ 255) : EvI G mX6_isLetter (d) [.ref 10, .int (iZ p)] y h (pI (p < h.I 10 1 ∧ 97 ≤ h.I 11 p.toNat ∧ h.I 11 p.toNat ≤ 122)) := by
  have hb := hby p.toNat
  refine Ev.of rfl [some (.ref 10), some (.int (iZ p))] rfl (Nat.le_of_ble_eq_true rfl) ?_
  refine g_iload_n dX6_isLetter_0 rfl rfl (g_aload_n dX6_isLetter_1 rfl rfl (gf_X6_15 (M := mX6_isLetter) rfl dX6_isLetter_2 (yo10 hY) ?_))
  refine g_icmp_ge 34 dX6_isLetter_5 rfl (by omega) (by omega) (fun c5 => ?_) (fun c5 => ?_)
  · skip
    refine g_iconst dX6_isLetter_34 ?_
    exact g_zret dX6_isLetter_35 rfl rfl ⟨Nat.le_refl _, Nat.le_refl _⟩ (by omega) (by first | exact ⟨someI (pI_t (by omega)).symm, rfl⟩ | exact ⟨someI (pI_f (by omega)).symm, rfl⟩)
  · skip
    refine g_aload_n dX6_isLetter_8 rfl rfl (gf_X6_9 (M := mX6_isLetter) rfl dX6_isLetter_9 (yo10 hY) (yr10_0 hY) (g_iload_n dX6_isLetter_12 rfl rfl (g_iald dX6_isLetter_13 (ya11 hY) ⟨by omega, by omega, by omega⟩ (g_bipush dX6_isLetter_14 kb97 ?_))))
    refine g_icmp_lt 34 dX6_isLetter_16 rfl (by omega) (by omega) (fun c16 => ?_) (fun c16 => ?_)
    · skip
      refine g_iconst dX6_isLetter_34 ?_
      exact g_zret dX6_isLetter_35 rfl rfl ⟨Nat.le_refl _, Nat.le_refl _⟩ (by omega) (by first | exact ⟨someI (pI_t (by omega)).symm, rfl⟩ | exact ⟨someI (pI_f (by omega)).symm, rfl⟩)
    · skip
      refine g_aload_n dX6_isLetter_19 rfl rfl (gf_X6_9 (M := mX6_isLetter) rfl dX6_isLetter_20 (yo10 hY) (yr10_0 hY) (g_iload_n dX6_isLetter_23 rfl rfl (g_iald dX6_isLetter_24 (ya11 hY) ⟨by omega, by omega, by omega⟩ (g_bipush dX6_isLetter_25 kb122 ?_))))
      refine g_icmp_gt 34 dX6_isLetter_27 rfl (by omega) (by omega) (fun c27 => ?_) (fun c27 => ?_)
      · skip
        refine g_iconst dX6_isLetter_34 ?_
        exact g_zret dX6_isLetter_35 rfl rfl ⟨Nat.le_refl _, Nat.le_refl _⟩ (by omega) (by first | exact ⟨someI (pI_t (by omega)).symm, rfl⟩ | exact ⟨someI (pI_f (by omega)).symm, rfl⟩)
      · skip
        refine g_iconst dX6_isLetter_30 (g_goto 35 dX6_isLetter_31 rfl ?_)
        exact g_zret dX6_isLetter_35 rfl rfl ⟨Nat.le_refl _, Nat.le_refl _⟩ (by omega) (by first | exact ⟨someI (pI_t (by omega)).symm, rfl⟩ | exact ⟨someI (pI_f (by omega)).symm, rfl⟩)
set_option maxRecDepth 100000 in
set_option maxHeartbeats 4000000 in
theorem e_X6_isDigit {G : GX} {y : LY} {h : HM} {d : Nat} (hY : Lay y) {p : Int} (hp : 0 ≤ p ∧ p ≤ 400) (hl : 0 ≤ h.I 10 1 ∧ h.I 10 1 ≤ 400) (hby : ∀ j : Nat, (j : Int) < h.I 10 1 → 0 ≤ h.I 11 j ∧ h.I 11 j ≤ 255) : EvI G mX6_isDigit (d) [.ref 10, .int (iZ p)] y h (pI (p < h.I 10 1 ∧ 48 ≤ h.I 11 p.toNat ∧ h.I 11 p.toNat ≤ 57)) := by
  have hb := hby p.toNat
  refine Ev.of rfl [some (.ref 10), some (.int (iZ p))] rfl (Nat.le_of_ble_eq_true rfl) ?_
  refine g_iload_n dX6_isDigit_0 rfl rfl (g_aload_n dX6_isDigit_1 rfl rfl (gf_X6_15 (M := mX6_isDigit) rfl dX6_isDigit_2 (yo10 hY) ?_))
  refine g_icmp_ge 34 dX6_isDigit_5 rfl (by omega) (by omega) (fun c5 => ?_) (fun c5 => ?_)
  · skip
    refine g_iconst dX6_isDigit_34 ?_
    exact g_zret dX6_isDigit_35 rfl rfl ⟨Nat.le_refl _, Nat.le_refl _⟩ (by omega) (by first | exact ⟨someI (pI_t (by omega)).symm, rfl⟩ | exact ⟨someI (pI_f (by omega)).symm, rfl⟩)
  · skip
    refine g_aload_n dX6_isDigit_8 rfl rfl (gf_X6_9 (M := mX6_isDigit) rfl dX6_isDigit_9 (yo10 hY) (yr10_0 hY) (g_iload_n dX6_isDigit_12 rfl rfl (g_iald dX6_isDigit_13 (ya11 hY) ⟨by omega, by omega, by omega⟩ (g_bipush dX6_isDigit_14 kb48 ?_))))
    refine g_icmp_lt 34 dX6_isDigit_16 rfl (by omega) (by omega) (fun c16 => ?_) (fun c16 => ?_)
    · skip
      refine g_iconst dX6_isDigit_34 ?_
      exact g_zret dX6_isDigit_35 rfl rfl ⟨Nat.le_refl _, Nat.le_refl _⟩ (by omega) (by first | exact ⟨someI (pI_t (by omega)).symm, rfl⟩ | exact ⟨someI (pI_f (by omega)).symm, rfl⟩)
    · skip
      refine g_aload_n dX6_isDigit_19 rfl rfl (gf_X6_9 (M := mX6_isDigit) rfl dX6_isDigit_20 (yo10 hY) (yr10_0 hY) (g_iload_n dX6_isDigit_23 rfl rfl (g_iald dX6_isDigit_24 (ya11 hY) ⟨by omega, by omega, by omega⟩ (g_bipush dX6_isDigit_25 kb57 ?_))))
      refine g_icmp_gt 34 dX6_isDigit_27 rfl (by omega) (by omega) (fun c27 => ?_) (fun c27 => ?_)
      · skip
        refine g_iconst dX6_isDigit_34 ?_
        exact g_zret dX6_isDigit_35 rfl rfl ⟨Nat.le_refl _, Nat.le_refl _⟩ (by omega) (by first | exact ⟨someI (pI_t (by omega)).symm, rfl⟩ | exact ⟨someI (pI_f (by omega)).symm, rfl⟩)
      · skip
        refine g_iconst dX6_isDigit_30 (g_goto 35 dX6_isDigit_31 rfl ?_)
        exact g_zret dX6_isDigit_35 rfl rfl ⟨Nat.le_refl _, Nat.le_refl _⟩ (by omega) (by first | exact ⟨someI (pI_t (by omega)).symm, rfl⟩ | exact ⟨someI (pI_f (by omega)).symm, rfl⟩)
set_option maxRecDepth 100000 in
set_option maxHeartbeats 4000000 in
theorem e_X6_isSign {G : GX} {y : LY} {h : HM} {d : Nat} (hY : Lay y) {p q : Int} (hp : 0 ≤ p ∧ p ≤ 400) (hq : 0 ≤ q ∧ q ≤ 255) (hl : 0 ≤ h.I 10 1 ∧ h.I 10 1 ≤ 400) (hby : ∀ j : Nat, (j : Int) < h.I 10 1 → 0 ≤ h.I 11 j ∧ h.I 11 j ≤ 255) : EvI G mX6_isSign (d) [.ref 10, .int (iZ p), .int (iZ q)] y h (pI (p < h.I 10 1 ∧ h.I 11 p.toNat = q)) := by
  have hb := hby p.toNat
  refine Ev.of rfl [some (.ref 10), some (.int (iZ p)), some (.int (iZ q))] rfl (Nat.le_of_ble_eq_true rfl) ?_
  refine g_iload_n dX6_isSign_0 rfl rfl (g_aload_n dX6_isSign_1 rfl rfl (gf_X6_15 (M := mX6_isSign) rfl dX6_isSign_2 (yo10 hY) ?_))
  refine g_icmp_ge 22 dX6_isSign_5 rfl (by omega) (by omega) (fun c5 => ?_) (fun c5 => ?_)
  · skip
    refine g_iconst dX6_isSign_22 ?_
    exact g_zret dX6_isSign_23 rfl rfl ⟨Nat.le_refl _, Nat.le_refl _⟩ (by omega) (by first | exact ⟨someI (pI_t (by omega)).symm, rfl⟩ | exact ⟨someI (pI_f (by omega)).symm, rfl⟩)
  · skip
    refine g_aload_n dX6_isSign_8 rfl rfl (gf_X6_9 (M := mX6_isSign) rfl dX6_isSign_9 (yo10 hY) (yr10_0 hY) (g_iload_n dX6_isSign_12 rfl rfl (g_iald dX6_isSign_13 (ya11 hY) ⟨by omega, by omega, by omega⟩ (g_iload_n dX6_isSign_14 rfl rfl ?_))))
    refine g_icmp_ne 22 dX6_isSign_15 rfl (by omega) (by omega) (fun c15 => ?_) (fun c15 => ?_)
    · skip
      refine g_iconst dX6_isSign_22 ?_
      exact g_zret dX6_isSign_23 rfl rfl ⟨Nat.le_refl _, Nat.le_refl _⟩ (by omega) (by first | exact ⟨someI (pI_t (by omega)).symm, rfl⟩ | exact ⟨someI (pI_f (by omega)).symm, rfl⟩)
    · skip
      refine g_iconst dX6_isSign_18 (g_goto 23 dX6_isSign_19 rfl ?_)
      exact g_zret dX6_isSign_23 rfl rfl ⟨Nat.le_refl _, Nat.le_refl _⟩ (by omega) (by first | exact ⟨someI (pI_t (by omega)).symm, rfl⟩ | exact ⟨someI (pI_f (by omega)).symm, rfl⟩)
