/-! a vote's line, in the reference -/
noncomputable def vA (T : Nat → Int) (D : DT) (P : PS) : PS × Int := ckS T D.lv 99 P
noncomputable def vB (T : Nat → Int) (len : Int) (D : DT) (P : PS) : PS × Int := numS T len 0 5 (vA T D P).1
noncomputable def vC (T : Nat → Int) (len : Int) (D : DT) (P : PS) : PS × Int := numS T len 2 60 (vB T len D P).1
noncomputable def vD (T : Nat → Int) (len : Int) (D : DT) (P : PS) : PS × Int := numS T len 0 ((vC T len D P).2 - 1) (vC T len D P).1
noncomputable def vE (T : Nat → Int) (len : Int) (D : DT) (P : PS) : PS × Int := numS T len 0 8 (vD T len D P).1
noncomputable def vX (T : Nat → Int) (len : Int) (D : DT) (P : PS) : Fg := ((vA T D P).2, (vB T len D P).2, (vC T len D P).2, (vD T len D P).2, (vE T len D P).2)
theorem v_vo {T : Nat → Int} {len : Int} {P : PS} {D : DT} : voS T len P D = (endS T len (vE T len D (advS T len (demS (D.nv < 6) 5 P))).1, cnd ((endS T len (vE T len D (advS T len (demS (D.nv < 6) 5 P))).1).fnd = 0) (D.wV (vX T len D (advS T len (demS (D.nv < 6) 5 P)))) D) := rfl
theorem vA_of {h h1 : HM} {T : Nat → Int} {len lo v : Int} {P : PS} {D : DT} (hlo : lo = D.lv) (hq : FrQ h h1 ∧ TQ h1 T len (advS T len (ckS T lo 99 P).1) ∧ ((ckS T lo 99 P).1.fnd = 0 → v = (ckS T lo 99 P).2) ∧ (0 ≤ v ∧ v ≤ 999)) : FrQ h h1 ∧ TQ h1 T len (advS T len (vA T D P).1) ∧ ((vA T D P).1.fnd = 0 → v = (vA T D P).2) ∧ (0 ≤ v ∧ v ≤ 999) := by subst hlo; exact hq
theorem vD_of {h h1 : HM} {T : Nat → Int} {len hi v : Int} {P : PS} {D : DT} (hhi : (vC T len D P).1.fnd = 0 → hi = (vC T len D P).2 - 1) (hq : FrQ h h1 ∧ TQ h1 T len (advS T len (ckS T 0 hi (advS T len (vC T len D P).1)).1) ∧ ((ckS T 0 hi (advS T len (vC T len D P).1)).1.fnd = 0 → v = (ckS T 0 hi (advS T len (vC T len D P).1)).2) ∧ (0 ≤ v ∧ v ≤ 999)) : FrQ h h1 ∧ TQ h1 T len (advS T len (vD T len D P).1) ∧ ((vD T len D P).1.fnd = 0 → v = (vD T len D P).2) ∧ (0 ≤ v ∧ v ≤ 999) := by
  rw [ck_any (lo2 := 0) (hi2 := (vC T len D P).2 - 1) (fun z => ⟨rfl, hhi (advS_0 z)⟩)] at hq
  exact hq
theorem dr_V {h a1 a2 a3 a4 a5 : HM} {D : DT} (hD : DRR h D) {n : Int} (hN : D.nv = n) (hn : 0 ≤ n ∧ n ≤ 5) (hnf : D.nf ≤ 6) {x1 x2 x3 x4 x5 m : Int} (f1 : FrQ h a1) (f2 : FrQ (a1.sI 153 (38 + 5 * n).toNat x1) a2) (f3 : FrQ ((a2.sI 153 (38 + 5 * n + 1).toNat x2).sI 150 7 m) a3) (f4 : FrQ (a3.sI 153 (38 + 5 * n + 2).toNat x3) a4) (f5 : FrQ (a4.sI 153 (38 + 5 * n + 3).toNat x4) a5) (hx : 0 ≤ x2 ∧ x2 ≤ 5) (hm : (x2 ≤ h.I 150 7 ∧ m = h.I 150 7) ∨ (h.I 150 7 < x2 ∧ m = x2)) : DRR ((a5.sI 153 (38 + 5 * n + 4).toNat x5).sI 153 37 (n + 1)) (D.wV (x1, x2, x3, x4, x5)) := by
  have r : ∀ j : Nat, ((a5.sI 153 (38 + 5 * n + 4).toNat x5).sI 153 37 (n + 1)).I 153 j = if j = 37 then n + 1 else if j = (38 + 5 * n + 4).toNat then x5 else if j = (38 + 5 * n + 3).toNat then x4 else if j = (38 + 5 * n + 2).toNat then x3 else if j = (38 + 5 * n + 1).toNat then x2 else if j = (38 + 5 * n).toNat then x1 else h.I 153 j := fun j => by
    have b1 := f1.2 153 j (by omega)
    have b2 := f2.2 153 j (by omega)
    have b3 := f3.2 153 j (by omega)
    have b4 := f4.2 153 j (by omega)
    have b5 := f5.2 153 j (by omega)
    rw [sI_I] at b2 b4 b5
    rw [sI_I, if_neg (by omega), sI_I] at b3
    rw [sI_I, sI_I, b5, b4, b3, b2, b1]
    simp only [true_and]
  have r0 : ∀ j : Nat, j < 10 → ((a5.sI 153 (38 + 5 * n + 4).toNat x5).sI 153 37 (n + 1)).I 150 j = if j = 7 then m else h.I 150 j := fun j hj => by
    have b1 := f1.2 150 j (by omega)
    have b2 := f2.2 150 j (by omega)
    have b3 := f3.2 150 j (by omega)
    have b4 := f4.2 150 j (by omega)
    have b5 := f5.2 150 j (by omega)
    rw [sI_I, if_neg (by omega)] at b2 b4 b5
    rw [sI_I, sI_I (_) 153, if_neg (show ¬ (150 = 153 ∧ _) by omega)] at b3
    rw [sI_I, if_neg (by omega), sI_I, if_neg (by omega), b5, b4, b3, b2, b1]
    simp only [true_and]
  have ro : ∀ j : Nat, j ≠ 37 → ((j : Int) < 38 + 5 * n ∨ 38 + 5 * n + 5 ≤ j) → ((a5.sI 153 (38 + 5 * n + 4).toNat x5).sI 153 37 (n + 1)).I 153 j = h.I 153 j := fun j h1 h2 => by
    rw [r, if_neg h1, if_neg (by omega), if_neg (by omega), if_neg (by omega), if_neg (by omega), if_neg (by omega)]
  have hV : (D.wV (x1, x2, x3, x4, x5)).V = upF D.V n.toNat (x1, x2, x3, x4, x5) := by rw [← hN]; rfl
  have hnv : (D.wV (x1, x2, x3, x4, x5)).nv = n + 1 := by rw [← hN]; rfl
  refine ⟨⟨?_, fun i i0 i1 => ?_⟩, ⟨?_, fun i i0 i1 => ?_⟩, ?_, ?_, ?_⟩
  · rw [ro 0 (by omega) (by omega)]; exact hD.1.1
  · have i1 : i < D.nf := i1
    have hi := hD.1.2 i i0 i1
    unfold RDg
    rw [ro _ (by omega) (by omega), ro _ (by omega) (by omega), ro _ (by omega) (by omega), ro _ (by omega) (by omega), ro _ (by omega) (by omega), ro _ (by omega) (by omega)]
    exact hi
  · rw [r, if_pos rfl, hnv]
  · rw [hnv] at i1
    rw [hV]
    unfold upF
    by_cases q : i = n
    · subst q
      rw [if_pos rfl]
      refine ⟨?_, ?_, ?_, ?_, ?_⟩
      · rw [r, if_neg (by omega), if_neg (by omega), if_neg (by omega), if_neg (by omega), if_neg (by omega), if_pos rfl]
      · rw [r, if_neg (by omega), if_neg (by omega), if_neg (by omega), if_neg (by omega), if_pos rfl]
      · rw [r, if_neg (by omega), if_neg (by omega), if_neg (by omega), if_pos rfl]
      · rw [r, if_neg (by omega), if_neg (by omega), if_pos rfl]
      · rw [r, if_neg (by omega), if_pos rfl]
    · rw [if_neg (by omega)]
      have hi := hD.2.1.2 i i0 (by omega)
      unfold RDv
      rw [ro _ (by omega) (by omega), ro _ (by omega) (by omega), ro _ (by omega) (by omega), ro _ (by omega) (by omega), ro _ (by omega) (by omega)]
      exact hi
  · rw [ro 68 (by omega) (by omega), ro 69 (by omega) (by omega), ro 70 (by omega) (by omega), ro 71 (by omega) (by omega)]; exact hD.2.2.1
  · rw [r0 4 (by omega), r0 6 (by omega), r0 5 (by omega), if_neg (by omega), if_neg (by omega), if_neg (by omega)]; exact hD.2.2.2.1
  · rw [r0 7 (by omega), if_pos rfl]
    obtain ⟨g1, g2, g3⟩ := hD.2.2.2.2
    unfold HgQ
    rw [hnv, hV]
    refine ⟨by clear g3; omega, fun v hv => ?_, ?_⟩
    · clear g3
      unfold upF
      by_cases q : v = n.toNat
      · rw [if_pos q]; show x2 ≤ m; omega
      · rw [if_neg q]; have := g2 v (by omega); omega
    · rcases hm with ⟨h1, h2⟩ | ⟨h1, h2⟩
      · rcases g3 with z | ⟨v, z1, z2⟩
        · exact Or.inl (by omega)
        · refine Or.inr ⟨v, by omega, ?_⟩
          unfold upF
          rw [if_neg (by omega)]; omega
      · refine Or.inr ⟨n.toNat, by omega, ?_⟩
        unfold upF
        rw [if_pos rfl]; exact h2.symm
set_option maxRecDepth 100000 in
set_option maxHeartbeats 1000000 in
theorem e_X9_readVote {G : GX} {y : LY} {h : HM} {d : Nat} (hY : Lay y) {T : Nat → Int} {len : Int} {P : PS} (hS : TQ h T len P) {D : DT} (h0 : P.fnd = 0) (hD : DRR h D) (hV : DV D) (h5 : D.nv ≤ 5) : EvQV G mX9_readVote (d + 3) [.ref 150] y h (fun h1 => FrD h h1 ∧ TQ h1 T len (advS T len (vE T len D P).1) ∧ ((vE T len D P).1.fnd = 0 → DRR h1 (D.wV (vX T len D P)))) := by
  have hf := hS.f
  have hbd := hS.b
  have hPB := hS.2.2.1
  have hnf := hV.1.1
  have hnv := hV.2.1.1
  have en0 := hD.2.1.1
  have hg0 := hD.2.2.2.2.1
  have hlv : (D.nv = 0 ∧ D.lv = 0) ∨ (0 < D.nv ∧ D.lv = h.I 153 (38 + 5 * D.nv - 5).toNat ∧ 0 ≤ D.lv ∧ D.lv ≤ 99) := by
    by_cases q : 0 < D.nv
    · have hi := (hD.2.1.2 (D.nv - 1) (by omega) (by omega)).1
      have hb := hV.2.1.2 (D.nv - 1).toNat (by omega)
      refine Or.inr ⟨q, ?_⟩
      unfold DT.lv
      rw [if_pos q, show 38 + 5 * D.nv - 5 = 38 + 5 * (D.nv - 1) by omega]
      exact ⟨hi.symm, hb.1.1, hb.1.2⟩
    · exact Or.inl ⟨by omega, by unfold DT.lv; rw [if_neg q]⟩
  refine Ev.of rfl [some (.ref 150), none, none] rfl (Nat.le_of_ble_eq_true rfl) ?_
  have L91 : ∀ (a1 a2 : HM) (x1 x2 m : Int), FrQ h a1 → FrQ (a1.sI 153 (38 + 5 * D.nv).toNat x1) a2 → TQ ((a2.sI 153 ((38 + 5 * D.nv) + 1).toNat x2).sI 150 7 m) T len (advS T len (vB T len D P).1) → ((vA T D P).1.fnd = 0 → x1 = (vA T D P).2) → ((vB T len D P).1.fnd = 0 → x2 = (vB T len D P).2) → ((x2 ≤ h.I 150 7 ∧ m = h.I 150 7) ∨ (h.I 150 7 < x2 ∧ m = x2)) → Go G mX9_readVote (rmo (d + 3) 0 0) (ZM G y 0 0 (fun r h1 => r = none ∧ (fun h1 => FrD h h1 ∧ TQ h1 T len (advS T len (vE T len D P).1) ∧ ((vE T len D P).1.fnd = 0 → DRR h1 (D.wV (vX T len D P)))) h1)) y 91 [some (.ref 150), some (.int (iZ D.nv)), some (.int (iZ (38 + 5 * D.nv)))] [] ((a2.sI 153 ((38 + 5 * D.nv) + 1).toNat x2).sI 150 7 m) (0, 0) := by
    intro a1 a2 x1 x2 m f1 f2 hT2 e1 e2 hm
    refine g_aload_n dX9_readVote_91 rfl rfl (gf_X9_17 (M := mX9_readVote) rfl dX9_readVote_92 (yo150 hY) (yr150_3 hY) (g_iload_n dX9_readVote_95 rfl rfl (g_iconst dX9_readVote_96 (g_iadd dX9_readVote_97 (g_aload_n dX9_readVote_98 rfl rfl (g_iconst dX9_readVote_99 (g_bipush dX9_readVote_100 kb60 ?_)))))))
    refine cv_X9_128 (M := mX9_readVote) rfl dX9_readVote_102 (yo150 hY) (RO.same _ _ _) (Nat.le_of_ble_eq_true rfl) (e_X9_readNumber hY hT2 (by omega) (by omega)) (kQX fun v102 h102 hq102 => ?_)
    have e3 : (vC T len D P).1.fnd = 0 → v102 = (vC T len D P).2 := hq102.2.2.1
    have s3 : TQ (h102.sI 153 ((38 + 5 * D.nv) + 2).toNat v102) T len (advS T len (vC T len D P).1) := TQ.s hq102.2.1 (Or.inl rfl) _
    refine g_iast dX9_readVote_105 (ya153 hY) ⟨by omega, by omega, by omega⟩ (g_aload_n dX9_readVote_106 rfl rfl (gf_X9_17 (M := mX9_readVote) rfl dX9_readVote_107 (yo150 hY) (yr150_3 hY) (g_iload_n dX9_readVote_110 rfl rfl (g_iconst dX9_readVote_111 (g_iadd dX9_readVote_112 (g_aload_n dX9_readVote_113 rfl rfl (g_iconst dX9_readVote_114 (g_aload_n dX9_readVote_115 rfl rfl (gf_X9_17 (M := mX9_readVote) rfl dX9_readVote_116 (yo150 hY) (yr150_3 hY) (g_iload_n dX9_readVote_119 rfl rfl (g_iconst dX9_readVote_120 ?_)))))))))))
    refine g_iadd dX9_readVote_121 (g_iald dX9_readVote_122 (ya153 hY) ⟨by omega, by omega, by omega⟩ ?_)
    rw [sI_I, if_pos ⟨rfl, rfl⟩]
    refine g_iconst dX9_readVote_123 (g_isub dX9_readVote_124 ?_)
    refine cv_X9_128 (M := mX9_readVote) rfl dX9_readVote_125 (yo150 hY) (RO.same _ _ _) (Nat.le_of_ble_eq_true rfl) (e_X9_readNumber hY s3 (by omega) (by omega)) (kQX fun v125 h125 hq125 => ?_)
    have q4 := vD_of (D := D) (P := P) (len := len) (T := T) (fun z => by rw [e3 z]) hq125
    have s4 : TQ (h125.sI 153 ((38 + 5 * D.nv) + 3).toNat v125) T len (advS T len (vD T len D P).1) := TQ.s q4.2.1 (Or.inl rfl) _
    refine g_iast dX9_readVote_128 (ya153 hY) ⟨by omega, by omega, by omega⟩ (g_aload_n dX9_readVote_129 rfl rfl (gf_X9_17 (M := mX9_readVote) rfl dX9_readVote_130 (yo150 hY) (yr150_3 hY) (g_iload_n dX9_readVote_133 rfl rfl (g_iconst dX9_readVote_134 (g_iadd dX9_readVote_135 (g_aload_n dX9_readVote_136 rfl rfl (g_iconst dX9_readVote_137 (g_bipush dX9_readVote_138 kb8 ?_))))))))
    refine cv_X9_128 (M := mX9_readVote) rfl dX9_readVote_140 (yo150 hY) (RO.same _ _ _) (Nat.le_of_ble_eq_true rfl) (e_X9_readNumber hY s4 (by omega) (by omega)) (kQX fun v140 h140 hq140 => ?_)
    have e5 : (vE T len D P).1.fnd = 0 → v140 = (vE T len D P).2 := hq140.2.2.1
    refine g_iast dX9_readVote_143 (ya153 hY) ⟨by omega, by omega, by omega⟩ (g_aload_n dX9_readVote_144 rfl rfl (gf_X9_17 (M := mX9_readVote) rfl dX9_readVote_145 (yo150 hY) (yr150_3 hY) (g_bipush dX9_readVote_148 kb37 (g_iload_n dX9_readVote_150 rfl rfl (g_iconst dX9_readVote_151 (g_iadd dX9_readVote_152 (g_isN 37 dX9_readVote_153 (ya153 hY) ⟨by decide, by decide, by decide⟩ rfl ?_)))))))
    exact g_vret dX9_readVote_154 rfl rfl ⟨Nat.le_refl _, Nat.le_refl _⟩ (by refine ⟨rfl, ?_, TQ.s (TQ.s hq140.2.1 (Or.inl rfl) _) (Or.inl rfl) _, fun z => ?_⟩; exact ((((((((((FrD.rf h).tr f1.d).s _ _).tr f2.d).s _ _).s0 (by omega) _).tr hq102.1.d).s _ _).tr q4.1.d).s _ _).tr hq140.1.d |>.s _ _ |>.s _ _; (have z4 : (vD T len D P).1.fnd = 0 := advS_0 (ck_0 z); have z3 : (vC T len D P).1.fnd = 0 := advS_0 (ck_0 z4); have z2 : (vB T len D P).1.fnd = 0 := advS_0 (ck_0 z3); have z1 : (vA T D P).1.fnd = 0 := advS_0 (ck_0 z2); have w2 := e2 z2; have hPA : PB T len (advS T len (vA T D P).1) := ((ckS_v (T := T) (lo := D.lv) (hi := 99) hPB).1).adv; have hb2 := (ckS_v (T := T) (lo := 0) (hi := 5) hPA).2.2 z2; have hb3 : 0 ≤ (vB T len D P).2 := hb2.2.2.1; have hb4 : (vB T len D P).2 ≤ 5 := hb2.2.2.2.1; have hx := dr_V hD rfl (by omega) hnf.2 f1 f2 hq102.1 q4.1 hq140.1 (x5 := v140) (by omega) hm; have e : vX T len D P = (x1, x2, v102, v125, v140) := (by unfold vX; rw [e1 z1, w2, e3 z3, q4.2.2.1 z4, e5 z]); rw [e]; exact hx))
  refine g_aload_n dX9_readVote_0 rfl rfl (gf_X9_17 (M := mX9_readVote) rfl dX9_readVote_1 (yo150 hY) (yr150_3 hY) (g_bipush dX9_readVote_4 kb37 (g_iaN 37 dX9_readVote_6 (ya153 hY) ⟨by decide, by decide, by decide⟩ rfl ?_)))
  rw [en0]
  refine g_ist1 dX9_readVote_7 (by decide) rfl (g_bipush dX9_readVote_8 kb38 (g_iconst dX9_readVote_10 (g_iload_n dX9_readVote_11 rfl rfl (g_imul dX9_readVote_12 (g_iadd dX9_readVote_13 (g_ist2 dX9_readVote_14 (by decide) rfl (g_aload_n dX9_readVote_15 rfl rfl (gf_X9_17 (M := mX9_readVote) rfl dX9_readVote_16 (yo150 hY) (yr150_3 hY) (g_iload_n dX9_readVote_19 rfl rfl (g_aload_n dX9_readVote_20 rfl rfl (g_iload_n dX9_readVote_21 rfl rfl ?_)))))))))))
  refine g_if_ne 29 dX9_readVote_22 rfl (by omega) (fun c22 => ?_) (fun c22 => ?_)
  · skip
    refine g_aload_n dX9_readVote_29 rfl rfl (gf_X9_17 (M := mX9_readVote) rfl dX9_readVote_30 (yo150 hY) (yr150_3 hY) (g_iload_n dX9_readVote_33 rfl rfl (g_iconst dX9_readVote_34 (g_isub dX9_readVote_35 (g_iald dX9_readVote_36 (ya153 hY) ⟨by omega, by omega, by omega⟩ (g_bipush dX9_readVote_37 kb99 ?_))))))
    refine cv_X9_128 (M := mX9_readVote) rfl dX9_readVote_39 (yo150 hY) (RO.same _ _ _) (Nat.le_of_ble_eq_true rfl) (e_X9_readNumber hY hS (by omega) (by omega)) (kQX fun v39 h39 hq39 => ?_)
    have q1 := vA_of (D := D) (by omega) hq39
    have s1 : TQ (h39.sI 153 (38 + 5 * D.nv).toNat v39) T len (advS T len (vA T D P).1) := TQ.s q1.2.1 (Or.inl rfl) _
    refine g_iast dX9_readVote_42 (ya153 hY) ⟨by omega, by omega, by omega⟩ (g_aload_n dX9_readVote_43 rfl rfl (gf_X9_17 (M := mX9_readVote) rfl dX9_readVote_44 (yo150 hY) (yr150_3 hY) (g_iload_n dX9_readVote_47 rfl rfl (g_iconst dX9_readVote_48 (g_iadd dX9_readVote_49 (g_aload_n dX9_readVote_50 rfl rfl (g_iconst dX9_readVote_51 (g_iconst dX9_readVote_52 ?_))))))))
    refine cv_X9_128 (M := mX9_readVote) rfl dX9_readVote_53 (yo150 hY) (RO.same _ _ _) (Nat.le_of_ble_eq_true rfl) (e_X9_readNumber hY s1 (by omega) (by omega)) (kQX fun v53 h53 hq53 => ?_)
    have s2 : TQ (h53.sI 153 ((38 + 5 * D.nv) + 1).toNat v53) T len (advS T len (vB T len D P).1) := TQ.s hq53.2.1 (Or.inl rfl) _
    have e7 : (h53.sI 153 ((38 + 5 * D.nv) + 1).toNat v53).I 150 7 = h.I 150 7 := by rw [sI_I, if_neg (by omega), hq53.1.2 150 7 (by omega), sI_I, if_neg (by omega)]; exact q1.1.2 150 7 (by omega)
    have b53 := hq53.2.2.2
    refine g_iast dX9_readVote_56 (ya153 hY) ⟨by omega, by omega, by omega⟩ (g_aload_n dX9_readVote_57 rfl rfl (g_aload_n dX9_readVote_58 rfl rfl (gf_X9_17 (M := mX9_readVote) rfl dX9_readVote_59 (yo150 hY) (yr150_3 hY) (g_iload_n dX9_readVote_62 rfl rfl (g_iconst dX9_readVote_63 (g_iadd dX9_readVote_64 (g_iald dX9_readVote_65 (ya153 hY) ⟨by omega, by omega, by omega⟩ ?_)))))))
    rw [sI_I, if_pos ⟨rfl, rfl⟩]
    refine g_aload_n dX9_readVote_66 rfl rfl (gf_X9_60 (M := mX9_readVote) rfl dX9_readVote_67 (yo150 hY) ?_)
    refine g_icmp_le 84 dX9_readVote_70 rfl (by omega) (by omega) (fun c70 => ?_) (fun c70 => ?_)
    · skip
      refine g_aload_n dX9_readVote_84 rfl rfl (gf_X9_60 (M := mX9_readVote) rfl dX9_readVote_85 (yo150 hY) (pf_X9_60 (M := mX9_readVote) rfl dX9_readVote_88 (yo150 hY) ?_))
      exact L91 h39 h53 v39 v53 _ q1.1 hq53.1 (TQ.s s2 (Or.inr ⟨rfl, by omega, by omega⟩) _) q1.2.2.1 hq53.2.2.1 (by omega)
    · skip
      refine g_aload_n dX9_readVote_73 rfl rfl (gf_X9_17 (M := mX9_readVote) rfl dX9_readVote_74 (yo150 hY) (yr150_3 hY) (g_iload_n dX9_readVote_77 rfl rfl (g_iconst dX9_readVote_78 (g_iadd dX9_readVote_79 (g_iald dX9_readVote_80 (ya153 hY) ⟨by omega, by omega, by omega⟩ ?_)))))
      rw [sI_I, if_pos ⟨rfl, rfl⟩]
      refine g_goto 88 dX9_readVote_81 rfl (pf_X9_60 (M := mX9_readVote) rfl dX9_readVote_88 (yo150 hY) ?_)
      exact L91 h39 h53 v39 v53 _ q1.1 hq53.1 (TQ.s s2 (Or.inr ⟨rfl, by omega, by omega⟩) _) q1.2.2.1 hq53.2.2.1 (by omega)
  · skip
    refine g_iconst dX9_readVote_25 (g_goto 37 dX9_readVote_26 rfl (g_bipush dX9_readVote_37 kb99 ?_))
    refine cv_X9_128 (M := mX9_readVote) rfl dX9_readVote_39 (yo150 hY) (RO.same _ _ _) (Nat.le_of_ble_eq_true rfl) (e_X9_readNumber hY hS (by omega) (by omega)) (kQX fun v39 h39 hq39 => ?_)
    have q1 := vA_of (D := D) (by omega) hq39
    have s1 : TQ (h39.sI 153 (38 + 5 * D.nv).toNat v39) T len (advS T len (vA T D P).1) := TQ.s q1.2.1 (Or.inl rfl) _
    refine g_iast dX9_readVote_42 (ya153 hY) ⟨by omega, by omega, by omega⟩ (g_aload_n dX9_readVote_43 rfl rfl (gf_X9_17 (M := mX9_readVote) rfl dX9_readVote_44 (yo150 hY) (yr150_3 hY) (g_iload_n dX9_readVote_47 rfl rfl (g_iconst dX9_readVote_48 (g_iadd dX9_readVote_49 (g_aload_n dX9_readVote_50 rfl rfl (g_iconst dX9_readVote_51 (g_iconst dX9_readVote_52 ?_))))))))
    refine cv_X9_128 (M := mX9_readVote) rfl dX9_readVote_53 (yo150 hY) (RO.same _ _ _) (Nat.le_of_ble_eq_true rfl) (e_X9_readNumber hY s1 (by omega) (by omega)) (kQX fun v53 h53 hq53 => ?_)
    have s2 : TQ (h53.sI 153 ((38 + 5 * D.nv) + 1).toNat v53) T len (advS T len (vB T len D P).1) := TQ.s hq53.2.1 (Or.inl rfl) _
    have e7 : (h53.sI 153 ((38 + 5 * D.nv) + 1).toNat v53).I 150 7 = h.I 150 7 := by rw [sI_I, if_neg (by omega), hq53.1.2 150 7 (by omega), sI_I, if_neg (by omega)]; exact q1.1.2 150 7 (by omega)
    have b53 := hq53.2.2.2
    refine g_iast dX9_readVote_56 (ya153 hY) ⟨by omega, by omega, by omega⟩ (g_aload_n dX9_readVote_57 rfl rfl (g_aload_n dX9_readVote_58 rfl rfl (gf_X9_17 (M := mX9_readVote) rfl dX9_readVote_59 (yo150 hY) (yr150_3 hY) (g_iload_n dX9_readVote_62 rfl rfl (g_iconst dX9_readVote_63 (g_iadd dX9_readVote_64 (g_iald dX9_readVote_65 (ya153 hY) ⟨by omega, by omega, by omega⟩ ?_)))))))
    rw [sI_I, if_pos ⟨rfl, rfl⟩]
    refine g_aload_n dX9_readVote_66 rfl rfl (gf_X9_60 (M := mX9_readVote) rfl dX9_readVote_67 (yo150 hY) ?_)
    refine g_icmp_le 84 dX9_readVote_70 rfl (by omega) (by omega) (fun c70 => ?_) (fun c70 => ?_)
    · skip
      refine g_aload_n dX9_readVote_84 rfl rfl (gf_X9_60 (M := mX9_readVote) rfl dX9_readVote_85 (yo150 hY) (pf_X9_60 (M := mX9_readVote) rfl dX9_readVote_88 (yo150 hY) ?_))
      exact L91 h39 h53 v39 v53 _ q1.1 hq53.1 (TQ.s s2 (Or.inr ⟨rfl, by omega, by omega⟩) _) q1.2.2.1 hq53.2.2.1 (by omega)
    · skip
      refine g_aload_n dX9_readVote_73 rfl rfl (gf_X9_17 (M := mX9_readVote) rfl dX9_readVote_74 (yo150 hY) (yr150_3 hY) (g_iload_n dX9_readVote_77 rfl rfl (g_iconst dX9_readVote_78 (g_iadd dX9_readVote_79 (g_iald dX9_readVote_80 (ya153 hY) ⟨by omega, by omega, by omega⟩ ?_)))))
      rw [sI_I, if_pos ⟨rfl, rfl⟩]
      refine g_goto 88 dX9_readVote_81 rfl (pf_X9_60 (M := mX9_readVote) rfl dX9_readVote_88 (yo150 hY) ?_)
      exact L91 h39 h53 v39 v53 _ q1.1 hq53.1 (TQ.s s2 (Or.inr ⟨rfl, by omega, by omega⟩) _) q1.2.2.1 hq53.2.2.1 (by omega)
