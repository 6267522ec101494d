/-! a line, in the reference -/
theorem li_0 {T : Nat → Int} {len : Int} {P : PS} {D : DT} (a : IsNm T P 0) : liS T len P D = fgS T len P D := cnd_t a
theorem li_1 {T : Nat → Int} {len : Int} {P : PS} {D : DT} (a : ¬ IsNm T P 0) (b : IsNm T P 1) : liS T len P D = stS T len P D := (cnd_f a).trans (cnd_t b)
theorem li_2 {T : Nat → Int} {len : Int} {P : PS} {D : DT} (a : ¬ IsNm T P 0) (b : ¬ IsNm T P 1) (c : IsNm T P 2) : liS T len P D = reS T len P D := (cnd_f a).trans ((cnd_f b).trans (cnd_t c))
theorem li_3 {T : Nat → Int} {len : Int} {P : PS} {D : DT} (a : ¬ IsNm T P 0) (b : ¬ IsNm T P 1) (c : ¬ IsNm T P 2) (e : IsNm T P 3) : liS T len P D = voS T len P D := (cnd_f a).trans ((cnd_f b).trans ((cnd_f c).trans (cnd_t e)))
theorem li_n {T : Nat → Int} {len : Int} {P : PS} {D : DT} (a : ¬ IsNm T P 0) (b : ¬ IsNm T P 1) (c : ¬ IsNm T P 2) (e : ¬ IsNm T P 3) : liS T len P D = (demS False 2 P, D) := (cnd_f a).trans ((cnd_f b).trans ((cnd_f c).trans (cnd_f e)))
theorem fg6_q {T : Nat → Int} {len la ga te st : Int} {P : PS} {D : DT} (h : P.fnd ≠ 0) : (fg6 T len la ga te st P D).1 = P := by
  show endS T len (numS T len 0 8 P).1 = P
  rw [num_n h]; exact end_n h
theorem fg5_q {T : Nat → Int} {len la ga te : Int} {P : PS} {D : DT} (h : P.fnd ≠ 0) : (fg5 T len la ga te P D).1 = P := by
  unfold fg5; rw [num_n h, demS_n h]; exact fg6_q h
theorem fg4_q {T : Nat → Int} {len la ga : Int} {P : PS} {D : DT} (h : P.fnd ≠ 0) : (fg4 T len la ga P D).1 = P := by
  unfold fg4; rw [num_n h, demS_n h]; exact fg5_q h
theorem fg3_q {T : Nat → Int} {len la : Int} {tw : Prop} {P : PS} {D : DT} (h : P.fnd ≠ 0) : (fg3 T len la tw P D).1 = P := by
  unfold fg3; rw [num_n h]
  by_cases w : tw
  · rw [cnd_t w]; exact fg4_q h
  · rw [cnd_f w]; exact fg4_q h
theorem fg2_q {T : Nat → Int} {len : Int} {wo tw : Prop} {P : PS} {D : DT} (h : P.fnd ≠ 0) : (fg2 T len wo tw P D).1 = P := by
  unfold fg2; rw [num_n h]
  by_cases w : wo
  · rw [cnd_t w]; exact fg3_q h
  · rw [cnd_f w]; exact fg3_q h
theorem fg1_q {T : Nat → Int} {len : Int} {P : PS} {D : DT} (h : P.fnd ≠ 0) : (fg1 T len P D).1 = P := by
  unfold fg1; rw [demS_n h]; exact fg2_q h
theorem end_0 {T : Nat → Int} {len : Int} {P : PS} (h : (endS T len P).fnd = 0) : P.fnd = 0 := advS_0 (demS_0 (by decide) h).1
theorem dr_0 {h g a1 a2 a3 : HM} {D : DT} {x1 x2 x3 : Int} (hn : D.nf ≤ 6) (hm : D.nv ≤ 6) (hD : DRR h D) (f0 : FrQ h g) (f1 : FrQ (g.sI 150 6 1) a1) (f2 : FrQ (a1.sI 153 68 x1) a2) (f3 : FrQ (a2.sI 153 69 x2) a3) : DRR (a3.sI 153 70 x3) (D.wS x1 x2 x3) := by
  have r : ∀ j : Nat, (a3.sI 153 70 x3).I 153 j = if j = 70 then x3 else if j = 69 then x2 else if j = 68 then x1 else h.I 153 j := fun j => by
    have b0 := f0.2 153 j (by omega)
    have b1 := f1.2 153 j (by omega)
    have b2 := f2.2 153 j (by omega)
    have b3 := f3.2 153 j (by omega)
    rw [sI_I] at b2 b3
    rw [sI_I, if_neg (by omega)] at b1
    rw [sI_I, b3, b2, b1, b0]
    simp only [true_and]
  have r0 : ∀ j : Nat, j < 10 → (a3.sI 153 70 x3).I 150 j = if j = 6 then 1 else h.I 150 j := fun j hj => by
    have b0 := f0.2 150 j (by omega)
    have b1 := f1.2 150 j (by omega)
    have b2 := f2.2 150 j (by omega)
    have b3 := f3.2 150 j (by omega)
    rw [sI_I, if_neg (by omega)] at b2 b3
    rw [sI_I] at b1
    rw [sI_I, if_neg (by omega), b3, b2, b1, b0]
    simp only [true_and]
  have ro : ∀ j : Nat, (j < 68 ∨ 71 ≤ j) → (a3.sI 153 70 x3).I 153 j = h.I 153 j := fun j q => by rw [r, if_neg (by omega), if_neg (by omega), if_neg (by omega)]
  refine ⟨⟨?_, fun i i0 i1 => ?_⟩, ⟨?_, fun i i0 i1 => ?_⟩, ⟨?_, ?_, ?_, ?_⟩, ⟨?_, ?_, ?_⟩, ?_⟩
  · rw [ro 0 (by omega)]; exact hD.1.1
  · have i1 : i < D.nf := i1
    have hi := hD.1.2 i i0 i1
    unfold RDg
    rw [ro _ (by omega), ro _ (by omega), ro _ (by omega), ro _ (by omega), ro _ (by omega), ro _ (by omega)]
    exact hi
  · rw [ro 37 (by omega)]; exact hD.2.1.1
  · have i1 : i < D.nv := i1
    have hi := hD.2.1.2 i i0 i1
    unfold RDv
    rw [ro _ (by omega), ro _ (by omega), ro _ (by omega), ro _ (by omega), ro _ (by omega)]
    exact hi
  · rw [r, if_neg (by omega), if_neg (by omega), if_pos rfl]; rfl
  · rw [r, if_neg (by omega), if_pos rfl]; rfl
  · rw [r, if_pos rfl]; rfl
  · rw [ro 71 (by omega)]; exact hD.2.2.1.2.2.2
  · rw [r0 4 (by omega), if_neg (by omega)]; exact hD.2.2.2.1.1
  · rw [r0 6 (by omega), if_pos rfl]; rfl
  · rw [r0 5 (by omega), if_neg (by omega)]; exact hD.2.2.2.1.2.2
  · rw [r0 7 (by omega), if_neg (by omega)]; exact hD.2.2.2.2
theorem dr_R {h g a1 : HM} {D : DT} {x : Int} (hD : DRR h D) (f0 : FrQ h g) (f1 : FrQ (g.sI 150 5 1) a1) : DRR (a1.sI 150 4 x) (D.wR x) := by
  have r : ∀ j : Nat, (a1.sI 150 4 x).I 153 j = h.I 153 j := fun j => by
    have b0 := f0.2 153 j (by omega)
    have b1 := f1.2 153 j (by omega)
    rw [sI_I, if_neg (by omega)] at b1
    rw [sI_I, if_neg (by omega), b1, b0]
  have r0 : ∀ j : Nat, j < 10 → (a1.sI 150 4 x).I 150 j = if j = 4 then x else if j = 5 then 1 else h.I 150 j := fun j hj => by
    have b0 := f0.2 150 j (by omega)
    have b1 := f1.2 150 j (by omega)
    rw [sI_I] at b1
    rw [sI_I, b1, b0]
    simp only [true_and]
  unfold DRR RDg RDv
  simp only [r]
  refine ⟨hD.1, hD.2.1, hD.2.2.1, ⟨?_, ?_, ?_⟩, ?_⟩
  · rw [r0 4 (by omega), if_pos rfl]; rfl
  · rw [r0 6 (by omega), if_neg (by omega), if_neg (by omega)]; exact hD.2.2.2.1.2.1
  · rw [r0 5 (by omega), if_neg (by omega), if_pos rfl]; rfl
  · rw [r0 7 (by omega), if_neg (by omega), if_neg (by omega)]; exact hD.2.2.2.2
theorem stC_of {h h1 : HM} {T : Nat → Int} {len lo v : Int} {P : PS} {D : DT} (hlo : (stB T len P D).1.fnd = 0 → lo = (stB T len P D).2) (hq : FrQ h h1 ∧ TQ h1 T len (advS T len (ckS T lo 365 (advS T len (stB T len P D).1)).1) ∧ ((ckS T lo 365 (advS T len (stB T len P D).1)).1.fnd = 0 → v = (ckS T lo 365 (advS T len (stB T len P D).1)).2) ∧ (0 ≤ v ∧ v ≤ 999)) : FrQ h h1 ∧ TQ h1 T len (advS T len (stC' T len P D).1) ∧ ((stC' T len P D).1.fnd = 0 → v = (stC' T len P D).2) ∧ (0 ≤ v ∧ v ≤ 999) := by
  rw [ck_any (lo2 := (stB T len P D).2) (hi2 := 365) (fun z => ⟨hlo (advS_0 z), rfl⟩)] at hq
  exact hq
set_option maxRecDepth 100000 in
set_option maxHeartbeats 1000000 in
theorem e_X9_readLine {G : GX} {y : LY} {h : HM} {d : Nat} (hY : Lay y) {T : Nat → Int} {len : Int} {P : PS} (hS : TQ h T len P) {D : DT} (h0 : P.fnd = 0) (hD : DRR h D) (hV : DV D) : EvQV G mX9_readLine (d + 4) [.ref 150] y h (fun h1 => FrD h h1 ∧ TQ h1 T len (advS T len (liS T len P D).1) ∧ ((liS T len P D).1.fnd = 0 → DRR h1 (liS T len P D).2)) := by
  have hf := hS.f
  have hbd := hS.b
  have hPB := hS.2.2.1
  have hnf := hV.1.1
  have hnv := hV.2.1.1
  have en0 := hD.1.1
  have en1 := hD.2.1.1
  have ehs := hD.2.2.2.1.2.1
  have ehr := hD.2.2.2.1.2.2
  have hhs := hV.2.2.1
  have hhr := hV.2.2.2
  refine Ev.of rfl [some (.ref 150), none] rfl (Nat.le_of_ble_eq_true rfl) ?_
  have L248 : ∀ (H : HM) (Y : PS), FrD h H → TQ H T len Y → Y = (liS T len P D).1 → ((liS T len P D).1.fnd = 0 → DRR H (liS T len P D).2) → Go G mX9_readLine (rmo (d + 4) 0 0) (ZM G y 0 0 (fun r h1 => r = none ∧ (fun h1 => FrD h h1 ∧ TQ h1 T len (advS T len (liS T len P D).1) ∧ ((liS T len P D).1.fnd = 0 → DRR h1 (liS T len P D).2)) h1)) y 248 [some (.ref 150), none] [] H (0, 0) := by
    intro H Y hfr hT hY2 hDr
    subst hY2
    refine g_aload_n dX9_readLine_248 rfl rfl ?_
    refine cv_X9_121 (M := mX9_readLine) rfl dX9_readLine_249 (yo150 hY) (RO.same _ _ _) (Nat.le_of_ble_eq_true rfl) (e_X9_next1 hY hT) (kQV fun h249 hq249 => ?_)
    exact g_vret dX9_readLine_252 rfl rfl ⟨Nat.le_refl _, Nat.le_refl _⟩ (by exact ⟨rfl, hfr.tr hq249.1.d, hq249.2, fun z => (hDr z).fr hq249.1⟩)
  have L223 : ∀ (H : HM) (X : PS), FrD h H → TQ H T len (advS T len X) → endS T len X = (liS T len P D).1 → ((liS T len P D).1.fnd = 0 → DRR H (liS T len P D).2) → Go G mX9_readLine (rmo (d + 4) 0 0) (ZM G y 0 0 (fun r h1 => r = none ∧ (fun h1 => FrD h h1 ∧ TQ h1 T len (advS T len (liS T len P D).1) ∧ ((liS T len P D).1.fnd = 0 → DRR h1 (liS T len P D).2)) h1)) y 223 [some (.ref 150), none] [] H (0, 0) := by
    intro H X hfr hT hX hDr
    have fH := hT.f
    have bH := hT.b
    refine g_aload_n dX9_readLine_223 rfl rfl (gf_X9_75 (M := mX9_readLine) rfl dX9_readLine_224 (yo150 hY) ?_)
    refine g_if_ne 248 dX9_readLine_227 rfl (by omega) (fun c227 => ?_) (fun c227 => ?_)
    · skip
      first | exact L248 _ _ (hfr.tr hq245.1.d) t245 hX (fun z => (hDr z).fr hq245.1) | exact L248 H _ hfr hT ((demS_n (B := (advS T len X).tok = 3) (c := 2) (show (advS T len X).fnd ≠ 0 by omega)).symm.trans hX) hDr
    · skip
      refine g_aload_n dX9_readLine_230 rfl rfl (g_aload_n dX9_readLine_231 rfl rfl (gf_X9_99 (M := mX9_readLine) rfl dX9_readLine_232 (yo150 hY) (g_iconst dX9_readLine_235 ?_)))
      refine g_icmp_ne 243 dX9_readLine_236 rfl (by omega) (by omega) (fun c236 => ?_) (fun c236 => ?_)
      · skip
        refine g_iconst dX9_readLine_243 (g_iconst dX9_readLine_244 ?_)
        refine cv_X9_113 (M := mX9_readLine) rfl dX9_readLine_245 (yo150 hY) (RO.same _ _ _) (Nat.le_of_ble_eq_true rfl) (e_X9_needs hY (by omega) (by omega) (by omega)) (kQV fun h245 hq245 => ?_)
        have t245 := hT.dem hq245 (by omega) (B' := (advS T len X).tok = 3) (by omega)
        first | exact L248 _ _ (hfr.tr hq245.1.d) t245 hX (fun z => (hDr z).fr hq245.1) | exact L248 H _ hfr hT ((demS_n (B := (advS T len X).tok = 3) (c := 2) (show (advS T len X).fnd ≠ 0 by omega)).symm.trans hX) hDr
      · skip
        refine g_iconst dX9_readLine_239 (g_goto 244 dX9_readLine_240 rfl (g_iconst dX9_readLine_244 ?_))
        refine cv_X9_113 (M := mX9_readLine) rfl dX9_readLine_245 (yo150 hY) (RO.same _ _ _) (Nat.le_of_ble_eq_true rfl) (e_X9_needs hY (by omega) (by omega) (by omega)) (kQV fun h245 hq245 => ?_)
        have t245 := hT.dem hq245 (by omega) (B' := (advS T len X).tok = 3) (by omega)
        first | exact L248 _ _ (hfr.tr hq245.1.d) t245 hX (fun z => (hDr z).fr hq245.1) | exact L248 H _ hfr hT ((demS_n (B := (advS T len X).tok = 3) (c := 2) (show (advS T len X).fnd ≠ 0 by omega)).symm.trans hX) hDr
  have L18 : ∀ (k : Int), ((k = 0 ∧ IsNm T P 0) ∨ (k = 1 ∧ ¬ IsNm T P 0 ∧ IsNm T P 1) ∨ (k = 2 ∧ ¬ IsNm T P 0 ∧ ¬ IsNm T P 1 ∧ IsNm T P 2) ∨ (k = 3 ∧ ¬ IsNm T P 0 ∧ ¬ IsNm T P 1 ∧ ¬ IsNm T P 2 ∧ IsNm T P 3) ∨ (k = -4 ∧ ¬ IsNm T P 0 ∧ ¬ IsNm T P 1 ∧ ¬ IsNm T P 2 ∧ ¬ IsNm T P 3)) → Go G mX9_readLine (rmo (d + 4) 0 0) (ZM G y 0 0 (fun r h1 => r = none ∧ (fun h1 => FrD h h1 ∧ TQ h1 T len (advS T len (liS T len P D).1) ∧ ((liS T len P D).1.fnd = 0 → DRR h1 (liS T len P D).2)) h1)) y 18 [some (.ref 150), some (.int (iZ k))] [] h (0, 0) := by
    intro k hk
    rcases hk with ⟨rfl, n0⟩ | ⟨rfl, n0, n1⟩ | ⟨rfl, n0, n1, n2⟩ | ⟨rfl, n0, n1, n2, n3⟩ | ⟨rfl, n0, n1, n2, n3⟩
    · have hli := li_0 (len := len) (D := D) n0
      refine g_aload_n dX9_readLine_18 rfl rfl (g_iload_n dX9_readLine_19 rfl rfl (g_bipush dX9_readLine_20 kbm4 ?_))
      refine g_icmp_eq 29 dX9_readLine_22 rfl (by omega) (by omega) (fun c22 => absurd c22 (by omega)) (fun c22 => ?_)
      refine g_iconst dX9_readLine_25 (g_goto 30 dX9_readLine_26 rfl (g_iconst dX9_readLine_30 ?_))
      refine cv_X9_113 (M := mX9_readLine) rfl dX9_readLine_31 (yo150 hY) (RO.same _ _ _) (Nat.le_of_ble_eq_true rfl) (e_X9_needs hY (by omega) (by omega) (by omega)) (kQV fun h31 hq31 => ?_)
      have t31 := hS.dem hq31 (by omega) (B' := True) ⟨fun _ => trivial, fun _ => by omega⟩
      rw [demS_t trivial] at t31
      have f31 := t31.f
      have b31 := t31.b
      refine g_aload_n dX9_readLine_34 rfl rfl (g_iload_n dX9_readLine_35 rfl rfl ?_)
      refine g_if_ne 50 dX9_readLine_36 rfl (by omega) (fun c36 => absurd c36 (by omega)) (fun c36 => ?_)
      refine g_aload_n dX9_readLine_39 rfl rfl (gf_X9_17 (M := mX9_readLine) rfl dX9_readLine_40 (yo150 hY) (yr150_3 hY) (g_iconst dX9_readLine_43 (g_iaN 0 dX9_readLine_44 (ya153 hY) ⟨by decide, by decide, by decide⟩ rfl ?_)))
      rw [hq31.1.2 153 0 (by omega), en0]
      refine g_bipush dX9_readLine_45 kb6 ?_
      refine g_icmp_ge 71 dX9_readLine_47 rfl (by omega) (by omega) (fun c47 => ?_) (fun c47 => ?_)
      · skip
        refine g_iconst dX9_readLine_71 (g_iconst dX9_readLine_72 ?_)
        refine cv_X9_113 (M := mX9_readLine) rfl dX9_readLine_73 (yo150 hY) (RO.same _ _ _) (Nat.le_of_ble_eq_true rfl) (e_X9_needs hY (by omega) (by omega) (by omega)) (kQV fun h73 hq73 => ?_)
        have t73 := t31.dem hq73 (by omega) (B' := D.nf < 6) (by omega)
        have f73 := t73.f
        have b73 := t73.b
        refine g_aload_n dX9_readLine_76 rfl rfl (g_iload_n dX9_readLine_77 rfl rfl (g_iconst dX9_readLine_78 ?_))
        refine g_icmp_ne 89 dX9_readLine_79 rfl (by omega) (by omega) (fun c79 => ?_) (fun c79 => absurd c79 (by omega))
        refine g_iload_n dX9_readLine_89 rfl rfl (g_iconst dX9_readLine_90 ?_)
        refine g_icmp_ne 101 dX9_readLine_91 rfl (by omega) (by omega) (fun c91 => ?_) (fun c91 => absurd c91 (by omega))
        refine g_iconst dX9_readLine_101 (g_goto 106 dX9_readLine_102 rfl (g_iconst dX9_readLine_106 ?_))
        refine cv_X9_113 (M := mX9_readLine) rfl dX9_readLine_107 (yo150 hY) (RO.same _ _ _) (Nat.le_of_ble_eq_true rfl) (e_X9_needs hY (by omega) (by omega) (by omega)) (kQV fun h107 hq107 => ?_)
        have t107 := t73.dem hq107 (by omega) (B' := True) ⟨fun _ => trivial, fun _ => by omega⟩
        rw [demS_t trivial] at t107
        have f107 := t107.f
        have b107 := t107.b
        refine g_aload_n dX9_readLine_110 rfl rfl ?_
        refine cv_X9_121 (M := mX9_readLine) rfl dX9_readLine_111 (yo150 hY) (RO.same _ _ _) (Nat.le_of_ble_eq_true rfl) (e_X9_next1 hY t107) (kQV fun h111 hq111 => ?_)
        have f111 := hq111.2.f
        have b111 := hq111.2.b
        have fq := ((hq31.1.tr hq73.1).tr hq107.1).tr hq111.1
        refine g_aload_n dX9_readLine_114 rfl rfl (gf_X9_75 (M := mX9_readLine) rfl dX9_readLine_115 (yo150 hY) ?_)
        refine g_if_le 122 dX9_readLine_118 rfl (by omega) (fun c118 => ?_) (fun c118 => ?_)
        · skip
          refine g_iload_n dX9_readLine_122 rfl rfl ?_
          refine g_if_ne 133 dX9_readLine_123 rfl (by omega) (fun c123 => absurd c123 (by omega)) (fun c123 => ?_)
          refine g_aload_n dX9_readLine_126 rfl rfl ?_
          refine cv_X9_134 (M := mX9_readLine) rfl dX9_readLine_127 (yo150 hY) (RO.same _ _ _) (Nat.le_of_ble_eq_true rfl) (e_X9_readFigure hY hq111.2 (by omega) (hD.fr fq) hV (by have := (demS_0 (by omega) (advS_0 (show (advS T len (demS (D.nf < 6) 5 P)).fnd = 0 by omega))).2; omega)) (kQV fun h127 hq127 => ?_)
          obtain ⟨X, Y, x1, x2, x3, x4⟩ := hq127
          refine g_goto 223 dX9_readLine_130 rfl (g_dr1 ?_)
          have e : (liS T len P D) = _ := hli.trans x3
          exact L223 _ X (fq.d.tr x1) x2 (by rw [e]) (fun z => by rw [e] at z ⊢; show DRR h127 (cnd _ _ _); rw [cnd_t (show (endS T len X).fnd = 0 from z)]; exact x4 (end_0 z))
        · skip
          exact g_vret dX9_readLine_121 rfl rfl ⟨Nat.le_refl _, Nat.le_refl _⟩ (by have z0 : (advS T len (demS (D.nf < 6) 5 P)).fnd ≠ 0 := (by omega); have e1 : (liS T len P D).1 = advS T len (demS (D.nf < 6) 5 P) := (by rw [hli]; exact fg1_q z0); exact ⟨rfl, fq.d, by rw [e1, advS_n z0]; exact hq111.2, fun z => absurd z (by rw [e1]; exact z0)⟩)
      · skip
        refine g_iload_n dX9_readLine_50 rfl rfl (g_iconst dX9_readLine_51 ?_)
        refine g_icmp_ne 67 dX9_readLine_52 rfl (by omega) (by omega) (fun c52 => ?_) (fun c52 => absurd c52 (by omega))
        refine g_iconst dX9_readLine_67 (g_goto 72 dX9_readLine_68 rfl (g_iconst dX9_readLine_72 ?_))
        refine cv_X9_113 (M := mX9_readLine) rfl dX9_readLine_73 (yo150 hY) (RO.same _ _ _) (Nat.le_of_ble_eq_true rfl) (e_X9_needs hY (by omega) (by omega) (by omega)) (kQV fun h73 hq73 => ?_)
        have t73 := t31.dem hq73 (by omega) (B' := D.nf < 6) (by omega)
        have f73 := t73.f
        have b73 := t73.b
        refine g_aload_n dX9_readLine_76 rfl rfl (g_iload_n dX9_readLine_77 rfl rfl (g_iconst dX9_readLine_78 ?_))
        refine g_icmp_ne 89 dX9_readLine_79 rfl (by omega) (by omega) (fun c79 => ?_) (fun c79 => absurd c79 (by omega))
        refine g_iload_n dX9_readLine_89 rfl rfl (g_iconst dX9_readLine_90 ?_)
        refine g_icmp_ne 101 dX9_readLine_91 rfl (by omega) (by omega) (fun c91 => ?_) (fun c91 => absurd c91 (by omega))
        refine g_iconst dX9_readLine_101 (g_goto 106 dX9_readLine_102 rfl (g_iconst dX9_readLine_106 ?_))
        refine cv_X9_113 (M := mX9_readLine) rfl dX9_readLine_107 (yo150 hY) (RO.same _ _ _) (Nat.le_of_ble_eq_true rfl) (e_X9_needs hY (by omega) (by omega) (by omega)) (kQV fun h107 hq107 => ?_)
        have t107 := t73.dem hq107 (by omega) (B' := True) ⟨fun _ => trivial, fun _ => by omega⟩
        rw [demS_t trivial] at t107
        have f107 := t107.f
        have b107 := t107.b
        refine g_aload_n dX9_readLine_110 rfl rfl ?_
        refine cv_X9_121 (M := mX9_readLine) rfl dX9_readLine_111 (yo150 hY) (RO.same _ _ _) (Nat.le_of_ble_eq_true rfl) (e_X9_next1 hY t107) (kQV fun h111 hq111 => ?_)
        have f111 := hq111.2.f
        have b111 := hq111.2.b
        have fq := ((hq31.1.tr hq73.1).tr hq107.1).tr hq111.1
        refine g_aload_n dX9_readLine_114 rfl rfl (gf_X9_75 (M := mX9_readLine) rfl dX9_readLine_115 (yo150 hY) ?_)
        refine g_if_le 122 dX9_readLine_118 rfl (by omega) (fun c118 => ?_) (fun c118 => ?_)
        · skip
          refine g_iload_n dX9_readLine_122 rfl rfl ?_
          refine g_if_ne 133 dX9_readLine_123 rfl (by omega) (fun c123 => absurd c123 (by omega)) (fun c123 => ?_)
          refine g_aload_n dX9_readLine_126 rfl rfl ?_
          refine cv_X9_134 (M := mX9_readLine) rfl dX9_readLine_127 (yo150 hY) (RO.same _ _ _) (Nat.le_of_ble_eq_true rfl) (e_X9_readFigure hY hq111.2 (by omega) (hD.fr fq) hV (by have := (demS_0 (by omega) (advS_0 (show (advS T len (demS (D.nf < 6) 5 P)).fnd = 0 by omega))).2; omega)) (kQV fun h127 hq127 => ?_)
          obtain ⟨X, Y, x1, x2, x3, x4⟩ := hq127
          refine g_goto 223 dX9_readLine_130 rfl (g_dr1 ?_)
          have e : (liS T len P D) = _ := hli.trans x3
          exact L223 _ X (fq.d.tr x1) x2 (by rw [e]) (fun z => by rw [e] at z ⊢; show DRR h127 (cnd _ _ _); rw [cnd_t (show (endS T len X).fnd = 0 from z)]; exact x4 (end_0 z))
        · skip
          exact g_vret dX9_readLine_121 rfl rfl ⟨Nat.le_refl _, Nat.le_refl _⟩ (by have z0 : (advS T len (demS (D.nf < 6) 5 P)).fnd ≠ 0 := (by omega); have e1 : (liS T len P D).1 = advS T len (demS (D.nf < 6) 5 P) := (by rw [hli]; exact fg1_q z0); exact ⟨rfl, fq.d, by rw [e1, advS_n z0]; exact hq111.2, fun z => absurd z (by rw [e1]; exact z0)⟩)
    · have hli := li_1 (len := len) (D := D) n0 n1
      refine g_aload_n dX9_readLine_18 rfl rfl (g_iload_n dX9_readLine_19 rfl rfl (g_bipush dX9_readLine_20 kbm4 ?_))
      refine g_icmp_eq 29 dX9_readLine_22 rfl (by omega) (by omega) (fun c22 => absurd c22 (by omega)) (fun c22 => ?_)
      refine g_iconst dX9_readLine_25 (g_goto 30 dX9_readLine_26 rfl (g_iconst dX9_readLine_30 ?_))
      refine cv_X9_113 (M := mX9_readLine) rfl dX9_readLine_31 (yo150 hY) (RO.same _ _ _) (Nat.le_of_ble_eq_true rfl) (e_X9_needs hY (by omega) (by omega) (by omega)) (kQV fun h31 hq31 => ?_)
      have t31 := hS.dem hq31 (by omega) (B' := True) ⟨fun _ => trivial, fun _ => by omega⟩
      rw [demS_t trivial] at t31
      have f31 := t31.f
      have b31 := t31.b
      refine g_aload_n dX9_readLine_34 rfl rfl (g_iload_n dX9_readLine_35 rfl rfl ?_)
      refine g_if_ne 50 dX9_readLine_36 rfl (by omega) (fun c36 => ?_) (fun c36 => absurd c36 (by omega))
      refine g_iload_n dX9_readLine_50 rfl rfl (g_iconst dX9_readLine_51 ?_)
      refine g_icmp_ne 67 dX9_readLine_52 rfl (by omega) (by omega) (fun c52 => ?_) (fun c52 => absurd c52 (by omega))
      refine g_iconst dX9_readLine_67 (g_goto 72 dX9_readLine_68 rfl (g_iconst dX9_readLine_72 ?_))
      refine cv_X9_113 (M := mX9_readLine) rfl dX9_readLine_73 (yo150 hY) (RO.same _ _ _) (Nat.le_of_ble_eq_true rfl) (e_X9_needs hY (by omega) (by omega) (by omega)) (kQV fun h73 hq73 => ?_)
      have t73 := t31.dem hq73 (by omega) (B' := True) ⟨fun _ => trivial, fun _ => by omega⟩
      rw [demS_t trivial] at t73
      have f73 := t73.f
      have b73 := t73.b
      refine g_aload_n dX9_readLine_76 rfl rfl (g_iload_n dX9_readLine_77 rfl rfl (g_iconst dX9_readLine_78 ?_))
      refine g_icmp_ne 89 dX9_readLine_79 rfl (by omega) (by omega) (fun c79 => absurd c79 (by omega)) (fun c79 => ?_)
      refine g_aload_n dX9_readLine_82 rfl rfl (gf_X9_57 (M := mX9_readLine) rfl dX9_readLine_83 (yo150 hY) ?_)
      rw [(hq31.1.tr hq73.1).2 150 6 (by omega), ehs]
      refine g_if_ne 105 dX9_readLine_86 rfl (by omega) (fun c86 => ?_) (fun c86 => ?_)
      · skip
        refine g_iconst dX9_readLine_105 (g_iconst dX9_readLine_106 ?_)
        refine cv_X9_113 (M := mX9_readLine) rfl dX9_readLine_107 (yo150 hY) (RO.same _ _ _) (Nat.le_of_ble_eq_true rfl) (e_X9_needs hY (by omega) (by omega) (by omega)) (kQV fun h107 hq107 => ?_)
        have t107 := t73.dem hq107 (by omega) (B' := D.hs = 0) (by omega)
        have f107 := t107.f
        have b107 := t107.b
        refine g_aload_n dX9_readLine_110 rfl rfl ?_
        refine cv_X9_121 (M := mX9_readLine) rfl dX9_readLine_111 (yo150 hY) (RO.same _ _ _) (Nat.le_of_ble_eq_true rfl) (e_X9_next1 hY t107) (kQV fun h111 hq111 => ?_)
        have f111 := hq111.2.f
        have b111 := hq111.2.b
        have fq := ((hq31.1.tr hq73.1).tr hq107.1).tr hq111.1
        refine g_aload_n dX9_readLine_114 rfl rfl (gf_X9_75 (M := mX9_readLine) rfl dX9_readLine_115 (yo150 hY) ?_)
        refine g_if_le 122 dX9_readLine_118 rfl (by omega) (fun c118 => ?_) (fun c118 => ?_)
        · skip
          refine g_iload_n dX9_readLine_122 rfl rfl ?_
          refine g_if_ne 133 dX9_readLine_123 rfl (by omega) (fun c123 => ?_) (fun c123 => absurd c123 (by omega))
          refine g_iload_n dX9_readLine_133 rfl rfl (g_iconst dX9_readLine_134 ?_)
          refine g_icmp_ne 145 dX9_readLine_135 rfl (by omega) (by omega) (fun c135 => ?_) (fun c135 => absurd c135 (by omega))
          refine g_iload_n dX9_readLine_145 rfl rfl (g_iconst dX9_readLine_146 ?_)
          refine g_icmp_ne 168 dX9_readLine_147 rfl (by omega) (by omega) (fun c147 => ?_) (fun c147 => absurd c147 (by omega))
          refine g_aload_n dX9_readLine_168 rfl rfl (g_iconst dX9_readLine_169 (pf_X9_57 (M := mX9_readLine) rfl dX9_readLine_170 (by omega) (yo150 hY) (g_aload_n dX9_readLine_173 rfl rfl (gf_X9_17 (M := mX9_readLine) rfl dX9_readLine_174 (yo150 hY) (yr150_3 hY) (g_bipush dX9_readLine_177 kb68 (g_aload_n dX9_readLine_179 rfl rfl (g_iconst dX9_readLine_180 (g_bipush dX9_readLine_181 kb8 ?_))))))))
          refine cv_X9_128 (M := mX9_readLine) rfl dX9_readLine_183 (yo150 hY) (RO.same _ _ _) (Nat.le_of_ble_eq_true rfl) (e_X9_readNumber hY (hq111.2.s (a := 150) (j := 6) (by omega) 1) (by omega) (by omega)) (kQX fun v183 h183 hq183 => ?_)
          have e1 : (stA T len P D).1.fnd = 0 → v183 = (stA T len P D).2 := hq183.2.2.1
          have s1 : TQ (h183.sI 153 68 v183) T len (advS T len (stA T len P D).1) := TQ.s hq183.2.1 (Or.inl rfl) _
          refine g_isN 68 dX9_readLine_186 (ya153 hY) ⟨by decide, by decide, by decide⟩ rfl (g_aload_n dX9_readLine_187 rfl rfl (gf_X9_17 (M := mX9_readLine) rfl dX9_readLine_188 (yo150 hY) (yr150_3 hY) (g_bipush dX9_readLine_191 kb69 (g_aload_n dX9_readLine_193 rfl rfl (g_iconst dX9_readLine_194 (g_sipush dX9_readLine_195 ks365 ?_))))))
          refine cv_X9_128 (M := mX9_readLine) rfl dX9_readLine_198 (yo150 hY) (RO.same _ _ _) (Nat.le_of_ble_eq_true rfl) (e_X9_readNumber hY s1 (by omega) (by omega)) (kQX fun v198 h198 hq198 => ?_)
          have e2 : (stB T len P D).1.fnd = 0 → v198 = (stB T len P D).2 := hq198.2.2.1
          have s2 : TQ (h198.sI 153 69 v198) T len (advS T len (stB T len P D).1) := TQ.s hq198.2.1 (Or.inl rfl) _
          have b198v := hq198.2.2.2
          refine g_isN 69 dX9_readLine_201 (ya153 hY) ⟨by decide, by decide, by decide⟩ rfl (g_aload_n dX9_readLine_202 rfl rfl (gf_X9_17 (M := mX9_readLine) rfl dX9_readLine_203 (yo150 hY) (yr150_3 hY) (g_bipush dX9_readLine_206 kb70 (g_aload_n dX9_readLine_208 rfl rfl (g_aload_n dX9_readLine_209 rfl rfl (gf_X9_17 (M := mX9_readLine) rfl dX9_readLine_210 (yo150 hY) (yr150_3 hY) (g_bipush dX9_readLine_213 kb69 (g_iaN 69 dX9_readLine_215 (ya153 hY) ⟨by decide, by decide, by decide⟩ rfl ?_))))))))
          rw [sI_I, if_pos ⟨rfl, rfl⟩]
          refine g_sipush dX9_readLine_216 ks365 ?_
          refine cv_X9_128 (M := mX9_readLine) rfl dX9_readLine_219 (yo150 hY) (RO.same _ _ _) (Nat.le_of_ble_eq_true rfl) (e_X9_readNumber hY s2 (by omega) (by omega)) (kQX fun v219 h219 hq219 => ?_)
          have q3 := stC_of (P := P) (D := D) (len := len) (T := T) e2 hq219
          refine g_isN 70 dX9_readLine_222 (ya153 hY) ⟨by decide, by decide, by decide⟩ rfl (g_dr1 ?_)
          have e : (liS T len P D) = _ := hli
          refine L223 _ (stC' T len P D).1 ((((((fq.d.s0 (by omega) 1).tr hq183.1.d).s _ _).tr hq198.1.d).s _ _).tr q3.1.d |>.s _ _) (TQ.s q3.2.1 (Or.inl rfl) _) (by rw [e]; rfl) (fun z => ?_)
          rw [e] at z ⊢
          have z3 : (stC' T len P D).1.fnd = 0 := end_0 z
          have z2 : (stB T len P D).1.fnd = 0 := advS_0 (ck_0 z3)
          have z1 : (stA T len P D).1.fnd = 0 := advS_0 (ck_0 z2)
          show DRR _ (D.wS (stA T len P D).2 (stB T len P D).2 (stC' T len P D).2)
          rw [← e1 z1, ← e2 z2, ← q3.2.2.1 z3]
          exact dr_0 hnf.2 hnv.2 hD fq hq183.1 hq198.1 q3.1
        · skip
          exact g_vret dX9_readLine_121 rfl rfl ⟨Nat.le_refl _, Nat.le_refl _⟩ (by have z0 : (advS T len (demS (D.hs = 0) 4 P)).fnd ≠ 0 := (by omega); have ea : (stA T len P D) = (advS T len (demS (D.hs = 0) 4 P), 0) := num_adv z0; have e1 : (liS T len P D).1 = advS T len (demS (D.hs = 0) 4 P) := (by rw [hli]; show endS T len (stC' T len P D).1 = _; unfold stC' stB; rw [ea, num_n z0, num_n z0]; exact end_n z0); exact ⟨rfl, fq.d, by rw [e1, advS_n z0]; exact hq111.2, fun z => absurd z (by rw [e1]; exact z0)⟩)
      · skip
        refine g_iload_n dX9_readLine_89 rfl rfl (g_iconst dX9_readLine_90 ?_)
        refine g_icmp_ne 101 dX9_readLine_91 rfl (by omega) (by omega) (fun c91 => ?_) (fun c91 => absurd c91 (by omega))
        refine g_iconst dX9_readLine_101 (g_goto 106 dX9_readLine_102 rfl (g_iconst dX9_readLine_106 ?_))
        refine cv_X9_113 (M := mX9_readLine) rfl dX9_readLine_107 (yo150 hY) (RO.same _ _ _) (Nat.le_of_ble_eq_true rfl) (e_X9_needs hY (by omega) (by omega) (by omega)) (kQV fun h107 hq107 => ?_)
        have t107 := t73.dem hq107 (by omega) (B' := D.hs = 0) (by omega)
        have f107 := t107.f
        have b107 := t107.b
        refine g_aload_n dX9_readLine_110 rfl rfl ?_
        refine cv_X9_121 (M := mX9_readLine) rfl dX9_readLine_111 (yo150 hY) (RO.same _ _ _) (Nat.le_of_ble_eq_true rfl) (e_X9_next1 hY t107) (kQV fun h111 hq111 => ?_)
        have f111 := hq111.2.f
        have b111 := hq111.2.b
        have fq := ((hq31.1.tr hq73.1).tr hq107.1).tr hq111.1
        refine g_aload_n dX9_readLine_114 rfl rfl (gf_X9_75 (M := mX9_readLine) rfl dX9_readLine_115 (yo150 hY) ?_)
        refine g_if_le 122 dX9_readLine_118 rfl (by omega) (fun c118 => ?_) (fun c118 => ?_)
        · skip
          refine g_iload_n dX9_readLine_122 rfl rfl ?_
          refine g_if_ne 133 dX9_readLine_123 rfl (by omega) (fun c123 => ?_) (fun c123 => absurd c123 (by omega))
          refine g_iload_n dX9_readLine_133 rfl rfl (g_iconst dX9_readLine_134 ?_)
          refine g_icmp_ne 145 dX9_readLine_135 rfl (by omega) (by omega) (fun c135 => ?_) (fun c135 => absurd c135 (by omega))
          refine g_iload_n dX9_readLine_145 rfl rfl (g_iconst dX9_readLine_146 ?_)
          refine g_icmp_ne 168 dX9_readLine_147 rfl (by omega) (by omega) (fun c147 => ?_) (fun c147 => absurd c147 (by omega))
          refine g_aload_n dX9_readLine_168 rfl rfl (g_iconst dX9_readLine_169 (pf_X9_57 (M := mX9_readLine) rfl dX9_readLine_170 (by omega) (yo150 hY) (g_aload_n dX9_readLine_173 rfl rfl (gf_X9_17 (M := mX9_readLine) rfl dX9_readLine_174 (yo150 hY) (yr150_3 hY) (g_bipush dX9_readLine_177 kb68 (g_aload_n dX9_readLine_179 rfl rfl (g_iconst dX9_readLine_180 (g_bipush dX9_readLine_181 kb8 ?_))))))))
          refine cv_X9_128 (M := mX9_readLine) rfl dX9_readLine_183 (yo150 hY) (RO.same _ _ _) (Nat.le_of_ble_eq_true rfl) (e_X9_readNumber hY (hq111.2.s (a := 150) (j := 6) (by omega) 1) (by omega) (by omega)) (kQX fun v183 h183 hq183 => ?_)
          have e1 : (stA T len P D).1.fnd = 0 → v183 = (stA T len P D).2 := hq183.2.2.1
          have s1 : TQ (h183.sI 153 68 v183) T len (advS T len (stA T len P D).1) := TQ.s hq183.2.1 (Or.inl rfl) _
          refine g_isN 68 dX9_readLine_186 (ya153 hY) ⟨by decide, by decide, by decide⟩ rfl (g_aload_n dX9_readLine_187 rfl rfl (gf_X9_17 (M := mX9_readLine) rfl dX9_readLine_188 (yo150 hY) (yr150_3 hY) (g_bipush dX9_readLine_191 kb69 (g_aload_n dX9_readLine_193 rfl rfl (g_iconst dX9_readLine_194 (g_sipush dX9_readLine_195 ks365 ?_))))))
          refine cv_X9_128 (M := mX9_readLine) rfl dX9_readLine_198 (yo150 hY) (RO.same _ _ _) (Nat.le_of_ble_eq_true rfl) (e_X9_readNumber hY s1 (by omega) (by omega)) (kQX fun v198 h198 hq198 => ?_)
          have e2 : (stB T len P D).1.fnd = 0 → v198 = (stB T len P D).2 := hq198.2.2.1
          have s2 : TQ (h198.sI 153 69 v198) T len (advS T len (stB T len P D).1) := TQ.s hq198.2.1 (Or.inl rfl) _
          have b198v := hq198.2.2.2
          refine g_isN 69 dX9_readLine_201 (ya153 hY) ⟨by decide, by decide, by decide⟩ rfl (g_aload_n dX9_readLine_202 rfl rfl (gf_X9_17 (M := mX9_readLine) rfl dX9_readLine_203 (yo150 hY) (yr150_3 hY) (g_bipush dX9_readLine_206 kb70 (g_aload_n dX9_readLine_208 rfl rfl (g_aload_n dX9_readLine_209 rfl rfl (gf_X9_17 (M := mX9_readLine) rfl dX9_readLine_210 (yo150 hY) (yr150_3 hY) (g_bipush dX9_readLine_213 kb69 (g_iaN 69 dX9_readLine_215 (ya153 hY) ⟨by decide, by decide, by decide⟩ rfl ?_))))))))
          rw [sI_I, if_pos ⟨rfl, rfl⟩]
          refine g_sipush dX9_readLine_216 ks365 ?_
          refine cv_X9_128 (M := mX9_readLine) rfl dX9_readLine_219 (yo150 hY) (RO.same _ _ _) (Nat.le_of_ble_eq_true rfl) (e_X9_readNumber hY s2 (by omega) (by omega)) (kQX fun v219 h219 hq219 => ?_)
          have q3 := stC_of (P := P) (D := D) (len := len) (T := T) e2 hq219
          refine g_isN 70 dX9_readLine_222 (ya153 hY) ⟨by decide, by decide, by decide⟩ rfl (g_dr1 ?_)
          have e : (liS T len P D) = _ := hli
          refine L223 _ (stC' T len P D).1 ((((((fq.d.s0 (by omega) 1).tr hq183.1.d).s _ _).tr hq198.1.d).s _ _).tr q3.1.d |>.s _ _) (TQ.s q3.2.1 (Or.inl rfl) _) (by rw [e]; rfl) (fun z => ?_)
          rw [e] at z ⊢
          have z3 : (stC' T len P D).1.fnd = 0 := end_0 z
          have z2 : (stB T len P D).1.fnd = 0 := advS_0 (ck_0 z3)
          have z1 : (stA T len P D).1.fnd = 0 := advS_0 (ck_0 z2)
          show DRR _ (D.wS (stA T len P D).2 (stB T len P D).2 (stC' T len P D).2)
          rw [← e1 z1, ← e2 z2, ← q3.2.2.1 z3]
          exact dr_0 hnf.2 hnv.2 hD fq hq183.1 hq198.1 q3.1
        · skip
          exact g_vret dX9_readLine_121 rfl rfl ⟨Nat.le_refl _, Nat.le_refl _⟩ (by have z0 : (advS T len (demS (D.hs = 0) 4 P)).fnd ≠ 0 := (by omega); have ea : (stA T len P D) = (advS T len (demS (D.hs = 0) 4 P), 0) := num_adv z0; have e1 : (liS T len P D).1 = advS T len (demS (D.hs = 0) 4 P) := (by rw [hli]; show endS T len (stC' T len P D).1 = _; unfold stC' stB; rw [ea, num_n z0, num_n z0]; exact end_n z0); exact ⟨rfl, fq.d, by rw [e1, advS_n z0]; exact hq111.2, fun z => absurd z (by rw [e1]; exact z0)⟩)
    · have hli := li_2 (len := len) (D := D) n0 n1 n2
      refine g_aload_n dX9_readLine_18 rfl rfl (g_iload_n dX9_readLine_19 rfl rfl (g_bipush dX9_readLine_20 kbm4 ?_))
      refine g_icmp_eq 29 dX9_readLine_22 rfl (by omega) (by omega) (fun c22 => absurd c22 (by omega)) (fun c22 => ?_)
      refine g_iconst dX9_readLine_25 (g_goto 30 dX9_readLine_26 rfl (g_iconst dX9_readLine_30 ?_))
      refine cv_X9_113 (M := mX9_readLine) rfl dX9_readLine_31 (yo150 hY) (RO.same _ _ _) (Nat.le_of_ble_eq_true rfl) (e_X9_needs hY (by omega) (by omega) (by omega)) (kQV fun h31 hq31 => ?_)
      have t31 := hS.dem hq31 (by omega) (B' := True) ⟨fun _ => trivial, fun _ => by omega⟩
      rw [demS_t trivial] at t31
      have f31 := t31.f
      have b31 := t31.b
      refine g_aload_n dX9_readLine_34 rfl rfl (g_iload_n dX9_readLine_35 rfl rfl ?_)
      refine g_if_ne 50 dX9_readLine_36 rfl (by omega) (fun c36 => ?_) (fun c36 => absurd c36 (by omega))
      refine g_iload_n dX9_readLine_50 rfl rfl (g_iconst dX9_readLine_51 ?_)
      refine g_icmp_ne 67 dX9_readLine_52 rfl (by omega) (by omega) (fun c52 => ?_) (fun c52 => absurd c52 (by omega))
      refine g_iconst dX9_readLine_67 (g_goto 72 dX9_readLine_68 rfl (g_iconst dX9_readLine_72 ?_))
      refine cv_X9_113 (M := mX9_readLine) rfl dX9_readLine_73 (yo150 hY) (RO.same _ _ _) (Nat.le_of_ble_eq_true rfl) (e_X9_needs hY (by omega) (by omega) (by omega)) (kQV fun h73 hq73 => ?_)
      have t73 := t31.dem hq73 (by omega) (B' := True) ⟨fun _ => trivial, fun _ => by omega⟩
      rw [demS_t trivial] at t73
      have f73 := t73.f
      have b73 := t73.b
      refine g_aload_n dX9_readLine_76 rfl rfl (g_iload_n dX9_readLine_77 rfl rfl (g_iconst dX9_readLine_78 ?_))
      refine g_icmp_ne 89 dX9_readLine_79 rfl (by omega) (by omega) (fun c79 => ?_) (fun c79 => absurd c79 (by omega))
      refine g_iload_n dX9_readLine_89 rfl rfl (g_iconst dX9_readLine_90 ?_)
      refine g_icmp_ne 101 dX9_readLine_91 rfl (by omega) (by omega) (fun c91 => absurd c91 (by omega)) (fun c91 => ?_)
      refine g_aload_n dX9_readLine_94 rfl rfl (gf_X9_53 (M := mX9_readLine) rfl dX9_readLine_95 (yo150 hY) ?_)
      rw [(hq31.1.tr hq73.1).2 150 5 (by omega), ehr]
      refine g_if_ne 105 dX9_readLine_98 rfl (by omega) (fun c98 => ?_) (fun c98 => ?_)
      · skip
        refine g_iconst dX9_readLine_105 (g_iconst dX9_readLine_106 ?_)
        refine cv_X9_113 (M := mX9_readLine) rfl dX9_readLine_107 (yo150 hY) (RO.same _ _ _) (Nat.le_of_ble_eq_true rfl) (e_X9_needs hY (by omega) (by omega) (by omega)) (kQV fun h107 hq107 => ?_)
        have t107 := t73.dem hq107 (by omega) (B' := D.hr = 0) (by omega)
        have f107 := t107.f
        have b107 := t107.b
        refine g_aload_n dX9_readLine_110 rfl rfl ?_
        refine cv_X9_121 (M := mX9_readLine) rfl dX9_readLine_111 (yo150 hY) (RO.same _ _ _) (Nat.le_of_ble_eq_true rfl) (e_X9_next1 hY t107) (kQV fun h111 hq111 => ?_)
        have f111 := hq111.2.f
        have b111 := hq111.2.b
        have fq := ((hq31.1.tr hq73.1).tr hq107.1).tr hq111.1
        refine g_aload_n dX9_readLine_114 rfl rfl (gf_X9_75 (M := mX9_readLine) rfl dX9_readLine_115 (yo150 hY) ?_)
        refine g_if_le 122 dX9_readLine_118 rfl (by omega) (fun c118 => ?_) (fun c118 => ?_)
        · skip
          refine g_iload_n dX9_readLine_122 rfl rfl ?_
          refine g_if_ne 133 dX9_readLine_123 rfl (by omega) (fun c123 => ?_) (fun c123 => absurd c123 (by omega))
          refine g_iload_n dX9_readLine_133 rfl rfl (g_iconst dX9_readLine_134 ?_)
          refine g_icmp_ne 145 dX9_readLine_135 rfl (by omega) (by omega) (fun c135 => ?_) (fun c135 => absurd c135 (by omega))
          refine g_iload_n dX9_readLine_145 rfl rfl (g_iconst dX9_readLine_146 ?_)
          refine g_icmp_ne 168 dX9_readLine_147 rfl (by omega) (by omega) (fun c147 => absurd c147 (by omega)) (fun c147 => ?_)
          refine g_aload_n dX9_readLine_150 rfl rfl (g_iconst dX9_readLine_151 (pf_X9_53 (M := mX9_readLine) rfl dX9_readLine_152 (by omega) (yo150 hY) (g_aload_n dX9_readLine_155 rfl rfl (g_aload_n dX9_readLine_156 rfl rfl (g_iconst dX9_readLine_157 (g_iconst dX9_readLine_158 ?_))))))
          refine cv_X9_128 (M := mX9_readLine) rfl dX9_readLine_159 (yo150 hY) (RO.same _ _ _) (Nat.le_of_ble_eq_true rfl) (e_X9_readNumber hY (hq111.2.s (a := 150) (j := 5) (by omega) 1) (by omega) (by omega)) (kQX fun v159 h159 hq159 => ?_)
          have e1 : (reA T len P D).1.fnd = 0 → v159 = (reA T len P D).2 := hq159.2.2.1
          refine pf_X9_49 (M := mX9_readLine) rfl dX9_readLine_162 (yo150 hY) (g_goto 223 dX9_readLine_165 rfl (g_dr1 ?_))
          have e : (liS T len P D) = _ := hli
          refine L223 _ (reA T len P D).1 (((fq.d.s0 (by omega) 1).tr hq159.1.d).s0 (by omega) _) (TQ.s hq159.2.1 (by omega) _) (by rw [e]; rfl) (fun z => ?_)
          rw [e] at z ⊢
          have z1 : (reA T len P D).1.fnd = 0 := end_0 z
          show DRR _ (D.wR (reA T len P D).2)
          rw [← e1 z1]
          exact dr_R hD fq hq159.1
        · skip
          exact g_vret dX9_readLine_121 rfl rfl ⟨Nat.le_refl _, Nat.le_refl _⟩ (by have z0 : (advS T len (demS (D.hr = 0) 4 P)).fnd ≠ 0 := (by omega); have ea : (reA T len P D) = (advS T len (demS (D.hr = 0) 4 P), 0) := num_adv z0; have e1 : (liS T len P D).1 = advS T len (demS (D.hr = 0) 4 P) := (by rw [hli]; show endS T len (reA T len P D).1 = _; rw [ea]; exact end_n z0); exact ⟨rfl, fq.d, by rw [e1, advS_n z0]; exact hq111.2, fun z => absurd z (by rw [e1]; exact z0)⟩)
      · skip
        refine g_iconst dX9_readLine_101 (g_goto 106 dX9_readLine_102 rfl (g_iconst dX9_readLine_106 ?_))
        refine cv_X9_113 (M := mX9_readLine) rfl dX9_readLine_107 (yo150 hY) (RO.same _ _ _) (Nat.le_of_ble_eq_true rfl) (e_X9_needs hY (by omega) (by omega) (by omega)) (kQV fun h107 hq107 => ?_)
        have t107 := t73.dem hq107 (by omega) (B' := D.hr = 0) (by omega)
        have f107 := t107.f
        have b107 := t107.b
        refine g_aload_n dX9_readLine_110 rfl rfl ?_
        refine cv_X9_121 (M := mX9_readLine) rfl dX9_readLine_111 (yo150 hY) (RO.same _ _ _) (Nat.le_of_ble_eq_true rfl) (e_X9_next1 hY t107) (kQV fun h111 hq111 => ?_)
        have f111 := hq111.2.f
        have b111 := hq111.2.b
        have fq := ((hq31.1.tr hq73.1).tr hq107.1).tr hq111.1
        refine g_aload_n dX9_readLine_114 rfl rfl (gf_X9_75 (M := mX9_readLine) rfl dX9_readLine_115 (yo150 hY) ?_)
        refine g_if_le 122 dX9_readLine_118 rfl (by omega) (fun c118 => ?_) (fun c118 => ?_)
        · skip
          refine g_iload_n dX9_readLine_122 rfl rfl ?_
          refine g_if_ne 133 dX9_readLine_123 rfl (by omega) (fun c123 => ?_) (fun c123 => absurd c123 (by omega))
          refine g_iload_n dX9_readLine_133 rfl rfl (g_iconst dX9_readLine_134 ?_)
          refine g_icmp_ne 145 dX9_readLine_135 rfl (by omega) (by omega) (fun c135 => ?_) (fun c135 => absurd c135 (by omega))
          refine g_iload_n dX9_readLine_145 rfl rfl (g_iconst dX9_readLine_146 ?_)
          refine g_icmp_ne 168 dX9_readLine_147 rfl (by omega) (by omega) (fun c147 => absurd c147 (by omega)) (fun c147 => ?_)
          refine g_aload_n dX9_readLine_150 rfl rfl (g_iconst dX9_readLine_151 (pf_X9_53 (M := mX9_readLine) rfl dX9_readLine_152 (by omega) (yo150 hY) (g_aload_n dX9_readLine_155 rfl rfl (g_aload_n dX9_readLine_156 rfl rfl (g_iconst dX9_readLine_157 (g_iconst dX9_readLine_158 ?_))))))
          refine cv_X9_128 (M := mX9_readLine) rfl dX9_readLine_159 (yo150 hY) (RO.same _ _ _) (Nat.le_of_ble_eq_true rfl) (e_X9_readNumber hY (hq111.2.s (a := 150) (j := 5) (by omega) 1) (by omega) (by omega)) (kQX fun v159 h159 hq159 => ?_)
          have e1 : (reA T len P D).1.fnd = 0 → v159 = (reA T len P D).2 := hq159.2.2.1
          refine pf_X9_49 (M := mX9_readLine) rfl dX9_readLine_162 (yo150 hY) (g_goto 223 dX9_readLine_165 rfl (g_dr1 ?_))
          have e : (liS T len P D) = _ := hli
          refine L223 _ (reA T len P D).1 (((fq.d.s0 (by omega) 1).tr hq159.1.d).s0 (by omega) _) (TQ.s hq159.2.1 (by omega) _) (by rw [e]; rfl) (fun z => ?_)
          rw [e] at z ⊢
          have z1 : (reA T len P D).1.fnd = 0 := end_0 z
          show DRR _ (D.wR (reA T len P D).2)
          rw [← e1 z1]
          exact dr_R hD fq hq159.1
        · skip
          exact g_vret dX9_readLine_121 rfl rfl ⟨Nat.le_refl _, Nat.le_refl _⟩ (by have z0 : (advS T len (demS (D.hr = 0) 4 P)).fnd ≠ 0 := (by omega); have ea : (reA T len P D) = (advS T len (demS (D.hr = 0) 4 P), 0) := num_adv z0; have e1 : (liS T len P D).1 = advS T len (demS (D.hr = 0) 4 P) := (by rw [hli]; show endS T len (reA T len P D).1 = _; rw [ea]; exact end_n z0); exact ⟨rfl, fq.d, by rw [e1, advS_n z0]; exact hq111.2, fun z => absurd z (by rw [e1]; exact z0)⟩)
    · have hli := li_3 (len := len) (D := D) n0 n1 n2 n3
      refine g_aload_n dX9_readLine_18 rfl rfl (g_iload_n dX9_readLine_19 rfl rfl (g_bipush dX9_readLine_20 kbm4 ?_))
      refine g_icmp_eq 29 dX9_readLine_22 rfl (by omega) (by omega) (fun c22 => absurd c22 (by omega)) (fun c22 => ?_)
      refine g_iconst dX9_readLine_25 (g_goto 30 dX9_readLine_26 rfl (g_iconst dX9_readLine_30 ?_))
      refine cv_X9_113 (M := mX9_readLine) rfl dX9_readLine_31 (yo150 hY) (RO.same _ _ _) (Nat.le_of_ble_eq_true rfl) (e_X9_needs hY (by omega) (by omega) (by omega)) (kQV fun h31 hq31 => ?_)
      have t31 := hS.dem hq31 (by omega) (B' := True) ⟨fun _ => trivial, fun _ => by omega⟩
      rw [demS_t trivial] at t31
      have f31 := t31.f
      have b31 := t31.b
      refine g_aload_n dX9_readLine_34 rfl rfl (g_iload_n dX9_readLine_35 rfl rfl ?_)
      refine g_if_ne 50 dX9_readLine_36 rfl (by omega) (fun c36 => ?_) (fun c36 => absurd c36 (by omega))
      refine g_iload_n dX9_readLine_50 rfl rfl (g_iconst dX9_readLine_51 ?_)
      refine g_icmp_ne 67 dX9_readLine_52 rfl (by omega) (by omega) (fun c52 => absurd c52 (by omega)) (fun c52 => ?_)
      refine g_aload_n dX9_readLine_55 rfl rfl (gf_X9_17 (M := mX9_readLine) rfl dX9_readLine_56 (yo150 hY) (yr150_3 hY) (g_bipush dX9_readLine_59 kb37 (g_iaN 37 dX9_readLine_61 (ya153 hY) ⟨by decide, by decide, by decide⟩ rfl ?_)))
      rw [hq31.1.2 153 37 (by omega), en1]
      refine g_bipush dX9_readLine_62 kb6 ?_
      refine g_icmp_ge 71 dX9_readLine_64 rfl (by omega) (by omega) (fun c64 => ?_) (fun c64 => ?_)
      · skip
        refine g_iconst dX9_readLine_71 (g_iconst dX9_readLine_72 ?_)
        refine cv_X9_113 (M := mX9_readLine) rfl dX9_readLine_73 (yo150 hY) (RO.same _ _ _) (Nat.le_of_ble_eq_true rfl) (e_X9_needs hY (by omega) (by omega) (by omega)) (kQV fun h73 hq73 => ?_)
        have t73 := t31.dem hq73 (by omega) (B' := D.nv < 6) (by omega)
        have f73 := t73.f
        have b73 := t73.b
        refine g_aload_n dX9_readLine_76 rfl rfl (g_iload_n dX9_readLine_77 rfl rfl (g_iconst dX9_readLine_78 ?_))
        refine g_icmp_ne 89 dX9_readLine_79 rfl (by omega) (by omega) (fun c79 => ?_) (fun c79 => absurd c79 (by omega))
        refine g_iload_n dX9_readLine_89 rfl rfl (g_iconst dX9_readLine_90 ?_)
        refine g_icmp_ne 101 dX9_readLine_91 rfl (by omega) (by omega) (fun c91 => ?_) (fun c91 => absurd c91 (by omega))
        refine g_iconst dX9_readLine_101 (g_goto 106 dX9_readLine_102 rfl (g_iconst dX9_readLine_106 ?_))
        refine cv_X9_113 (M := mX9_readLine) rfl dX9_readLine_107 (yo150 hY) (RO.same _ _ _) (Nat.le_of_ble_eq_true rfl) (e_X9_needs hY (by omega) (by omega) (by omega)) (kQV fun h107 hq107 => ?_)
        have t107 := t73.dem hq107 (by omega) (B' := True) ⟨fun _ => trivial, fun _ => by omega⟩
        rw [demS_t trivial] at t107
        have f107 := t107.f
        have b107 := t107.b
        refine g_aload_n dX9_readLine_110 rfl rfl ?_
        refine cv_X9_121 (M := mX9_readLine) rfl dX9_readLine_111 (yo150 hY) (RO.same _ _ _) (Nat.le_of_ble_eq_true rfl) (e_X9_next1 hY t107) (kQV fun h111 hq111 => ?_)
        have f111 := hq111.2.f
        have b111 := hq111.2.b
        have fq := ((hq31.1.tr hq73.1).tr hq107.1).tr hq111.1
        refine g_aload_n dX9_readLine_114 rfl rfl (gf_X9_75 (M := mX9_readLine) rfl dX9_readLine_115 (yo150 hY) ?_)
        refine g_if_le 122 dX9_readLine_118 rfl (by omega) (fun c118 => ?_) (fun c118 => ?_)
        · skip
          refine g_iload_n dX9_readLine_122 rfl rfl ?_
          refine g_if_ne 133 dX9_readLine_123 rfl (by omega) (fun c123 => ?_) (fun c123 => absurd c123 (by omega))
          refine g_iload_n dX9_readLine_133 rfl rfl (g_iconst dX9_readLine_134 ?_)
          refine g_icmp_ne 145 dX9_readLine_135 rfl (by omega) (by omega) (fun c135 => absurd c135 (by omega)) (fun c135 => ?_)
          refine g_aload_n dX9_readLine_138 rfl rfl ?_
          refine cv_X9_137 (M := mX9_readLine) rfl dX9_readLine_139 (yo150 hY) (RO.same _ _ _) (Nat.le_of_ble_eq_true rfl) (e_X9_readVote hY hq111.2 (by omega) (hD.fr fq) hV (by have := (demS_0 (by omega) (advS_0 (show (advS T len (demS (D.nv < 6) 5 P)).fnd = 0 by omega))).2; omega)) (kQV fun h139 hq139 => ?_)
          refine g_goto 223 dX9_readLine_142 rfl (g_dr1 ?_)
          have e : (liS T len P D) = _ := hli.trans v_vo
          exact L223 _ _ (fq.d.tr hq139.1) hq139.2.1 (by rw [e]) (fun z => by rw [e] at z ⊢; show DRR h139 (cnd _ _ _); rw [cnd_t (show (endS T len (vE T len D (advS T len (demS (D.nv < 6) 5 P))).1).fnd = 0 from z)]; exact hq139.2.2 (end_0 z))
        · skip
          exact g_vret dX9_readLine_121 rfl rfl ⟨Nat.le_refl _, Nat.le_refl _⟩ (by have z0 : (advS T len (demS (D.nv < 6) 5 P)).fnd ≠ 0 := (by omega); have e1 : (liS T len P D).1 = advS T len (demS (D.nv < 6) 5 P) := (by rw [hli, v_vo]; show endS T len (vE T len D _).1 = _; unfold vE vD vC vB vA; rw [ckS_n z0, num_n z0, num_n z0, num_n z0, num_n z0]; exact end_n z0); exact ⟨rfl, fq.d, by rw [e1, advS_n z0]; exact hq111.2, fun z => absurd z (by rw [e1]; exact z0)⟩)
      · skip
        refine g_iconst dX9_readLine_67 (g_goto 72 dX9_readLine_68 rfl (g_iconst dX9_readLine_72 ?_))
        refine cv_X9_113 (M := mX9_readLine) rfl dX9_readLine_73 (yo150 hY) (RO.same _ _ _) (Nat.le_of_ble_eq_true rfl) (e_X9_needs hY (by omega) (by omega) (by omega)) (kQV fun h73 hq73 => ?_)
        have t73 := t31.dem hq73 (by omega) (B' := D.nv < 6) (by omega)
        have f73 := t73.f
        have b73 := t73.b
        refine g_aload_n dX9_readLine_76 rfl rfl (g_iload_n dX9_readLine_77 rfl rfl (g_iconst dX9_readLine_78 ?_))
        refine g_icmp_ne 89 dX9_readLine_79 rfl (by omega) (by omega) (fun c79 => ?_) (fun c79 => absurd c79 (by omega))
        refine g_iload_n dX9_readLine_89 rfl rfl (g_iconst dX9_readLine_90 ?_)
        refine g_icmp_ne 101 dX9_readLine_91 rfl (by omega) (by omega) (fun c91 => ?_) (fun c91 => absurd c91 (by omega))
        refine g_iconst dX9_readLine_101 (g_goto 106 dX9_readLine_102 rfl (g_iconst dX9_readLine_106 ?_))
        refine cv_X9_113 (M := mX9_readLine) rfl dX9_readLine_107 (yo150 hY) (RO.same _ _ _) (Nat.le_of_ble_eq_true rfl) (e_X9_needs hY (by omega) (by omega) (by omega)) (kQV fun h107 hq107 => ?_)
        have t107 := t73.dem hq107 (by omega) (B' := True) ⟨fun _ => trivial, fun _ => by omega⟩
        rw [demS_t trivial] at t107
        have f107 := t107.f
        have b107 := t107.b
        refine g_aload_n dX9_readLine_110 rfl rfl ?_
        refine cv_X9_121 (M := mX9_readLine) rfl dX9_readLine_111 (yo150 hY) (RO.same _ _ _) (Nat.le_of_ble_eq_true rfl) (e_X9_next1 hY t107) (kQV fun h111 hq111 => ?_)
        have f111 := hq111.2.f
        have b111 := hq111.2.b
        have fq := ((hq31.1.tr hq73.1).tr hq107.1).tr hq111.1
        refine g_aload_n dX9_readLine_114 rfl rfl (gf_X9_75 (M := mX9_readLine) rfl dX9_readLine_115 (yo150 hY) ?_)
        refine g_if_le 122 dX9_readLine_118 rfl (by omega) (fun c118 => ?_) (fun c118 => ?_)
        · skip
          refine g_iload_n dX9_readLine_122 rfl rfl ?_
          refine g_if_ne 133 dX9_readLine_123 rfl (by omega) (fun c123 => ?_) (fun c123 => absurd c123 (by omega))
          refine g_iload_n dX9_readLine_133 rfl rfl (g_iconst dX9_readLine_134 ?_)
          refine g_icmp_ne 145 dX9_readLine_135 rfl (by omega) (by omega) (fun c135 => absurd c135 (by omega)) (fun c135 => ?_)
          refine g_aload_n dX9_readLine_138 rfl rfl ?_
          refine cv_X9_137 (M := mX9_readLine) rfl dX9_readLine_139 (yo150 hY) (RO.same _ _ _) (Nat.le_of_ble_eq_true rfl) (e_X9_readVote hY hq111.2 (by omega) (hD.fr fq) hV (by have := (demS_0 (by omega) (advS_0 (show (advS T len (demS (D.nv < 6) 5 P)).fnd = 0 by omega))).2; omega)) (kQV fun h139 hq139 => ?_)
          refine g_goto 223 dX9_readLine_142 rfl (g_dr1 ?_)
          have e : (liS T len P D) = _ := hli.trans v_vo
          exact L223 _ _ (fq.d.tr hq139.1) hq139.2.1 (by rw [e]) (fun z => by rw [e] at z ⊢; show DRR h139 (cnd _ _ _); rw [cnd_t (show (endS T len (vE T len D (advS T len (demS (D.nv < 6) 5 P))).1).fnd = 0 from z)]; exact hq139.2.2 (end_0 z))
        · skip
          exact g_vret dX9_readLine_121 rfl rfl ⟨Nat.le_refl _, Nat.le_refl _⟩ (by have z0 : (advS T len (demS (D.nv < 6) 5 P)).fnd ≠ 0 := (by omega); have e1 : (liS T len P D).1 = advS T len (demS (D.nv < 6) 5 P) := (by rw [hli, v_vo]; show endS T len (vE T len D _).1 = _; unfold vE vD vC vB vA; rw [ckS_n z0, num_n z0, num_n z0, num_n z0, num_n z0]; exact end_n z0); exact ⟨rfl, fq.d, by rw [e1, advS_n z0]; exact hq111.2, fun z => absurd z (by rw [e1]; exact z0)⟩)
    · have hli := li_n (len := len) (D := D) n0 n1 n2 n3
      refine g_aload_n dX9_readLine_18 rfl rfl (g_iload_n dX9_readLine_19 rfl rfl (g_bipush dX9_readLine_20 kbm4 ?_))
      refine g_icmp_eq 29 dX9_readLine_22 rfl (by omega) (by omega) (fun c22 => ?_) (fun c22 => absurd c22 (by omega))
      refine g_iconst dX9_readLine_29 (g_iconst dX9_readLine_30 ?_)
      refine cv_X9_113 (M := mX9_readLine) rfl dX9_readLine_31 (yo150 hY) (RO.same _ _ _) (Nat.le_of_ble_eq_true rfl) (e_X9_needs hY (by omega) (by omega) (by omega)) (kQV fun h31 hq31 => ?_)
      have t31 := hS.dem hq31 (by omega) (B' := False) ⟨fun z => absurd rfl z, fun z => z.elim⟩
      have f31 := t31.f
      have b31 := t31.b
      have d31 : (demS False 2 P).fnd = 2 := by rw [demS_f (fun z => z) h0]; rfl
      refine g_aload_n dX9_readLine_34 rfl rfl (g_iload_n dX9_readLine_35 rfl rfl ?_)
      refine g_if_ne 50 dX9_readLine_36 rfl (by omega) (fun c36 => ?_) (fun c36 => absurd c36 (by omega))
      refine g_iload_n dX9_readLine_50 rfl rfl (g_iconst dX9_readLine_51 ?_)
      refine g_icmp_ne 67 dX9_readLine_52 rfl (by omega) (by omega) (fun c52 => ?_) (fun c52 => absurd c52 (by omega))
      refine g_iconst dX9_readLine_67 (g_goto 72 dX9_readLine_68 rfl (g_iconst dX9_readLine_72 ?_))
      refine cv_X9_113 (M := mX9_readLine) rfl dX9_readLine_73 (yo150 hY) (RO.same _ _ _) (Nat.le_of_ble_eq_true rfl) (e_X9_needs hY (by omega) (by omega) (by omega)) (kQV fun h73 hq73 => ?_)
      have t73 := t31.dem hq73 (by omega) (B' := True) ⟨fun _ => trivial, fun _ => by omega⟩
      rw [demS_t trivial] at t73
      have f73 := t73.f
      have b73 := t73.b
      refine g_aload_n dX9_readLine_76 rfl rfl (g_iload_n dX9_readLine_77 rfl rfl (g_iconst dX9_readLine_78 ?_))
      refine g_icmp_ne 89 dX9_readLine_79 rfl (by omega) (by omega) (fun c79 => ?_) (fun c79 => absurd c79 (by omega))
      refine g_iload_n dX9_readLine_89 rfl rfl (g_iconst dX9_readLine_90 ?_)
      refine g_icmp_ne 101 dX9_readLine_91 rfl (by omega) (by omega) (fun c91 => ?_) (fun c91 => absurd c91 (by omega))
      refine g_iconst dX9_readLine_101 (g_goto 106 dX9_readLine_102 rfl (g_iconst dX9_readLine_106 ?_))
      refine cv_X9_113 (M := mX9_readLine) rfl dX9_readLine_107 (yo150 hY) (RO.same _ _ _) (Nat.le_of_ble_eq_true rfl) (e_X9_needs hY (by omega) (by omega) (by omega)) (kQV fun h107 hq107 => ?_)
      have t107 := t73.dem hq107 (by omega) (B' := True) ⟨fun _ => trivial, fun _ => by omega⟩
      rw [demS_t trivial] at t107
      have f107 := t107.f
      have b107 := t107.b
      refine g_aload_n dX9_readLine_110 rfl rfl ?_
      refine cv_X9_121 (M := mX9_readLine) rfl dX9_readLine_111 (yo150 hY) (RO.same _ _ _) (Nat.le_of_ble_eq_true rfl) (e_X9_next1 hY t107) (kQV fun h111 hq111 => ?_)
      have f111 := hq111.2.f
      have fq := ((hq31.1.tr hq73.1).tr hq107.1).tr hq111.1
      have d111 : (advS T len (demS False 2 P)).fnd = 2 := by rw [advS_n (by omega)]; exact d31
      refine g_aload_n dX9_readLine_114 rfl rfl (gf_X9_75 (M := mX9_readLine) rfl dX9_readLine_115 (yo150 hY) ?_)
      refine g_if_le 122 dX9_readLine_118 rfl (by omega) (fun c118 => absurd c118 (by omega)) (fun c118 => ?_)
      exact g_vret dX9_readLine_121 rfl rfl ⟨Nat.le_refl _, Nat.le_refl _⟩ (by exact ⟨rfl, fq.d, by rw [hli]; exact hq111.2, fun z => absurd z (by rw [hli]; show (demS False 2 P).fnd ≠ 0; omega)⟩)
  refine g_aload_n dX9_readLine_0 rfl rfl (gf_X9_99 (M := mX9_readLine) rfl dX9_readLine_1 (yo150 hY) (g_iconst dX9_readLine_4 ?_))
  refine g_icmp_ne 15 dX9_readLine_5 rfl (by omega) (by omega) (fun c5 => ?_) (fun c5 => ?_)
  · skip
    refine g_bipush dX9_readLine_15 kbm4 (g_ist1 dX9_readLine_17 (by decide) rfl ?_)
    first | exact L18 _ hq9 | exact L18 (-4) (Or.inr (Or.inr (Or.inr (Or.inr ⟨rfl, fun z => absurd z.1 (by omega), fun z => absurd z.1 (by omega), fun z => absurd z.1 (by omega), fun z => absurd z.1 (by omega)⟩))))
  · skip
    refine g_aload_n dX9_readLine_8 rfl rfl ?_
    refine cv_X9_131 (M := mX9_readLine) rfl dX9_readLine_9 (yo150 hY) (RO.same _ _ _) (Nat.le_of_ble_eq_true rfl) (e_X9_lineNow hY hS (by omega)) (kQI fun v9 hq9 => ?_)
    refine g_goto 17 dX9_readLine_12 rfl (g_ist1 dX9_readLine_17 (by decide) rfl ?_)
    first | exact L18 _ hq9 | exact L18 (-4) (Or.inr (Or.inr (Or.inr (Or.inr ⟨rfl, fun z => absurd z.1 (by omega), fun z => absurd z.1 (by omega), fun z => absurd z.1 (by omega), fun z => absurd z.1 (by omega)⟩))))
