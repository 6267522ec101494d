/-! the reading of a text, in the reference -/
def rdQ (h : HM) : PS := (h.I 150 12, h.I 150 11, h.I 150 10, h.I 150 14, if h.I 150 14 = 0 then 0 else h.I 150 15)
def FrQ (h h1 : HM) : Prop := h1.L = h.L ∧ ∀ a j : Nat, (a ≠ 150 ∨ j < 10 ∨ 16 ≤ j) → h1.I a j = h.I a j
theorem FrQ.rf (h : HM) : FrQ h h := ⟨rfl, fun _ _ _ => rfl⟩
theorem FrQ.tr {h h1 h2 : HM} (a : FrQ h h1) (b : FrQ h1 h2) : FrQ h h2 := ⟨b.1.trans a.1, fun x j q => (b.2 x j q).trans (a.2 x j q)⟩
theorem FrQ.s {h h1 : HM} (a : FrQ h h1) {j : Nat} (hj : 10 ≤ j ∧ j < 16) (v : Int) : FrQ h (h1.sI 150 j v) := ⟨a.1, fun x k q => by rw [sI_I, if_neg (by omega)]; exact a.2 x k q⟩
/-- the tape of the reference -/
def TT (h : HM) (T : Nat → Int) (len : Int) : Prop := h.I 150 9 = len ∧ (0 ≤ len ∧ len ≤ 400) ∧ ∀ j : Nat, (j : Int) < len → h.I 154 j = T j ∧ 0 ≤ T j ∧ T j ≤ 255
theorem TT.fr {h h1 : HM} {T : Nat → Int} {len : Int} (hT : TT h T len) (f : FrQ h h1) : TT h1 T len := by
  unfold TT
  rw [f.2 150 9 (by omega)]
  exact ⟨hT.1, hT.2.1, fun j hj => by rw [f.2 154 j (by omega)]; exact hT.2.2 j hj⟩
def TQ (h : HM) (T : Nat → Int) (len : Int) (P : PS) : Prop := TT h T len ∧ rdQ h = P ∧ PB T len P ∧ (P.tok = 2 → P.fnd = 0 → h.I 150 13 = nuV T (P.ten - P.tat).toNat P.tat)
theorem TQ.f {h : HM} {T : Nat → Int} {len : Int} {P : PS} (hS : TQ h T len P) : h.I 150 12 = P.tok ∧ h.I 150 11 = P.tat ∧ h.I 150 10 = P.ten ∧ h.I 150 14 = P.fnd ∧ (P.fnd ≠ 0 → h.I 150 15 = P.fat) := by
  obtain ⟨_, rfl, _⟩ := hS
  exact ⟨rfl, rfl, rfl, rfl, fun z => by show _ = (if h.I 150 14 = 0 then 0 else h.I 150 15); rw [if_neg (show ¬ h.I 150 14 = 0 from z)]⟩
theorem TQ.b {h : HM} {T : Nat → Int} {len : Int} {P : PS} (hS : TQ h T len P) : (0 ≤ P.tok ∧ P.tok ≤ 3) ∧ (0 ≤ P.tat ∧ P.tat ≤ P.ten ∧ P.ten ≤ len) ∧ (0 ≤ P.fnd ∧ P.fnd ≤ 6) ∧ len ≤ 400 := ⟨hS.2.2.1.1, ⟨hS.2.2.1.2.1, hS.2.2.1.2.2.1, hS.2.2.1.2.2.2.1⟩, hS.2.2.1.2.2.2.2.1, hS.1.2.1.2⟩
theorem TQ.dem {h h1 : HM} {T : Nat → Int} {len : Int} {P : PS} {B B' : Prop} {c : Int} (hS : TQ h T len P) (hq : FrQ h h1 ∧ h1.I 150 13 = h.I 150 13 ∧ rdQ h1 = demS B c (rdQ h)) (hc : 0 < c ∧ c ≤ 6) (hB : B ↔ B') : TQ h1 T len (demS B' c P) := by
  refine ⟨hS.1.fr hq.1, ?_, hS.2.2.1.dem _ hc, fun z1 z2 => ?_⟩
  · rw [hq.2.2, hS.2.1, demS_cg hB]
  · have e : demS B' c P = P := cnd_t (by
      by_cases q : B' ∨ P.fnd ≠ 0
      · exact q
      · have := demS_0 (by omega) z2
        exact Or.inl this.2)
    rw [e] at z1 z2 ⊢
    rw [hq.2.1]; exact hS.2.2.2 z1 z2
theorem rdQ_12 {H : HM} {q s : Int} (h14 : H.I 150 14 = 0) : rdQ ((H.sI 150 11 q).sI 150 12 s) = (s, q, H.I 150 10, 0, 0) := by
  have f : ∀ j, j ≠ 11 → j ≠ 12 → ((H.sI 150 11 q).sI 150 12 s).I 150 j = H.I 150 j := fun j a b => by rw [sI_I, if_neg (by omega), sI_I, if_neg (by omega)]
  have f1 : ((H.sI 150 11 q).sI 150 12 s).I 150 11 = q := by rw [sI_I, if_neg (by omega), sI_I, if_pos ⟨rfl, rfl⟩]
  have f2 : ((H.sI 150 11 q).sI 150 12 s).I 150 12 = s := by rw [sI_I, if_pos ⟨rfl, rfl⟩]
  unfold rdQ
  rw [f1, f2, f 10 (by omega) (by omega), f 14 (by omega) (by omega), h14, if_pos rfl]
theorem dem_c {B : Prop} {c : Int} {P : PS} (h0 : P.fnd = 0) : (B ∧ demS B c P = P) ∨ (¬ B ∧ demS B c P = (P.tok, P.tat, P.ten, c, P.tat) ∧ (demS B c P).fnd = c) := by
  by_cases q : B
  · exact Or.inl ⟨q, demS_t q⟩
  · exact Or.inr ⟨q, demS_f q h0, by rw [demS_f q h0]; rfl⟩
def lkV (T : Nat → Int) (len i : Int) : Int := if i < len then T i.toNat else -1
theorem lk_c {h : HM} {T : Nat → Int} {len i : Int} (hT : TT h T len) (hi : 0 ≤ i) : (i < len ∧ lkV T len i = T i.toNat ∧ 0 ≤ T i.toNat ∧ T i.toNat ≤ 255) ∨ (¬ i < len ∧ lkV T len i = -1) := by
  by_cases q : i < len
  · have := hT.2.2 i.toNat (by omega)
    exact Or.inl ⟨q, if_pos q, this.2⟩
  · exact Or.inr ⟨q, if_neg q⟩
theorem nx_d {H h1 : HM} {a q x : Int} {B B2 : Prop} (hr : rdQ H = (a, q, x, 0, 0)) (hq : rdQ h1 = demS B 1 (rdQ H)) (hB : B ↔ B2) : h1.I 150 10 = x ∧ rdQ (h1.sI 150 10 (h1.I 150 10 + 1)) = demS B2 1 (a, q, x + 1, 0, 0) := by
  rw [hr, demS_cg hB] at hq
  have g : ∀ z w : Int, rdQ h1 = (a, q, x, z, w) → h1.I 150 10 = x ∧ rdQ (h1.sI 150 10 (h1.I 150 10 + 1)) = (a, q, x + 1, z, w) := fun z w e => by
    have e1 : h1.I 150 12 = a := congrArg PS.tok e
    have e2 : h1.I 150 11 = q := congrArg PS.tat e
    have e3 : h1.I 150 10 = x := congrArg PS.ten e
    have e4 : h1.I 150 14 = z := congrArg PS.fnd e
    have e5 : (if h1.I 150 14 = 0 then 0 else h1.I 150 15) = w := congrArg PS.fat e
    refine ⟨e3, ?_⟩
    unfold rdQ
    have f : ∀ j v, j ≠ 10 → (h1.sI 150 10 v).I 150 j = h1.I 150 j := fun j v hj => by rw [sI_I, if_neg (by omega)]
    rw [f 12 _ (by omega), f 11 _ (by omega), f 14 _ (by omega), f 15 _ (by omega), sI_I, if_pos ⟨rfl, rfl⟩, e5, e1, e2, e3, e4]
  rcases dem_c (B := B2) (c := 1) (P := (a, q, x, 0, 0)) rfl with w | w
  · rw [w.2] at hq
    rw [demS_t w.1]; exact g _ _ hq
  · rw [w.2.1] at hq
    rw [demS_f w.1 rfl]; exact g _ _ hq
set_option maxRecDepth 100000 in
set_option maxHeartbeats 1000000 in
theorem e_X9_needs {G : GX} {y : LY} {h : HM} {d : Nat} (hY : Lay y) {b c : Int} (hb : b = 0 ∨ b = 1) (hc : c ≠ 0) (h14 : R32 (h.I 150 14)) : EvQV G mX9_needs (d) [.ref 150, .int (iZ b), .int (iZ c)] y h (fun h1 => FrQ h h1 ∧ h1.I 150 13 = h.I 150 13 ∧ rdQ h1 = demS (b ≠ 0) c (rdQ h)) := by
  refine Ev.of rfl [some (.ref 150), some (.int (iZ b)), some (.int (iZ c))] rfl (Nat.le_of_ble_eq_true rfl) ?_
  refine g_iload_n dX9_needs_0 rfl rfl ?_
  refine g_if_ne 24 dX9_needs_1 rfl (by omega) (fun c1 => ?_) (fun c1 => ?_)
  · skip
    exact g_vret dX9_needs_24 rfl rfl ⟨Nat.le_refl _, Nat.le_refl _⟩ (by first | exact ⟨rfl, FrQ.rf h, rfl, by rw [demS_t (by omega)]⟩ | exact ⟨rfl, FrQ.rf h, rfl, by rw [demS_n (P := rdQ h) (show h.I 150 14 ≠ 0 from c8)]⟩ | (refine ⟨rfl, ((FrQ.rf h).s (by omega) _).s (by omega) _, by rw [sI_I, if_neg (by omega), sI_I, if_neg (by omega)], ?_⟩; rw [demS_f (P := rdQ h) (by omega) (show h.I 150 14 = 0 by omega)]; simp [rdQ, HM.sI, HM.I, up2, PS.tok, PS.tat, PS.ten, hc]))
  · skip
    refine g_aload_n dX9_needs_4 rfl rfl (gf_X9_75 (M := mX9_needs) rfl dX9_needs_5 (yo150 hY) ?_)
    refine g_if_ne 24 dX9_needs_8 rfl (by omega) (fun c8 => ?_) (fun c8 => ?_)
    · skip
      exact g_vret dX9_needs_24 rfl rfl ⟨Nat.le_refl _, Nat.le_refl _⟩ (by first | exact ⟨rfl, FrQ.rf h, rfl, by rw [demS_t (by omega)]⟩ | exact ⟨rfl, FrQ.rf h, rfl, by rw [demS_n (P := rdQ h) (show h.I 150 14 ≠ 0 from c8)]⟩ | (refine ⟨rfl, ((FrQ.rf h).s (by omega) _).s (by omega) _, by rw [sI_I, if_neg (by omega), sI_I, if_neg (by omega)], ?_⟩; rw [demS_f (P := rdQ h) (by omega) (show h.I 150 14 = 0 by omega)]; simp [rdQ, HM.sI, HM.I, up2, PS.tok, PS.tat, PS.ten, hc]))
    · skip
      refine g_aload_n dX9_needs_11 rfl rfl (g_iload_n dX9_needs_12 rfl rfl (pf_X9_75 (M := mX9_needs) rfl dX9_needs_13 (yo150 hY) (g_aload_n dX9_needs_16 rfl rfl (g_aload_n dX9_needs_17 rfl rfl (gf_X9_78 (M := mX9_needs) rfl dX9_needs_18 (yo150 hY) (pf_X9_81 (M := mX9_needs) rfl dX9_needs_21 (yo150 hY) ?_))))))
      exact g_vret dX9_needs_24 rfl rfl ⟨Nat.le_refl _, Nat.le_refl _⟩ (by first | exact ⟨rfl, FrQ.rf h, rfl, by rw [demS_t (by omega)]⟩ | exact ⟨rfl, FrQ.rf h, rfl, by rw [demS_n (P := rdQ h) (show h.I 150 14 ≠ 0 from c8)]⟩ | (refine ⟨rfl, ((FrQ.rf h).s (by omega) _).s (by omega) _, by rw [sI_I, if_neg (by omega), sI_I, if_neg (by omega)], ?_⟩; rw [demS_f (P := rdQ h) (by omega) (show h.I 150 14 = 0 by omega)]; simp [rdQ, HM.sI, HM.I, up2, PS.tok, PS.tat, PS.ten, hc]))
set_option maxRecDepth 100000 in
set_option maxHeartbeats 1000000 in
theorem e_X9_look {G : GX} {y : LY} {h : HM} {d : Nat} (hY : Lay y) {T : Nat → Int} {len i : Int} (hT : TT h T len) (hi : 0 ≤ i ∧ i ≤ 1000) : EvI G mX9_look (d) [.ref 150, .int (iZ i)] y h (lkV T len i) := by
  have hl := hT.1
  have hb := hT.2.1
  refine Ev.of rfl [some (.ref 150), some (.int (iZ i))] rfl (Nat.le_of_ble_eq_true rfl) ?_
  refine g_iload_n dX9_look_0 rfl rfl (g_aload_n dX9_look_1 rfl rfl (gf_X9_66 (M := mX9_look) rfl dX9_look_2 (yo150 hY) ?_))
  refine g_icmp_ge 17 dX9_look_5 rfl (by omega) (by omega) (fun c5 => ?_) (fun c5 => ?_)
  · skip
    refine g_iconst dX9_look_17 ?_
    exact g_iret dX9_look_18 rfl rfl ⟨Nat.le_refl _, Nat.le_refl _⟩ (by refine ⟨someI ?_, rfl⟩; unfold lkV; first | (rw [if_pos (by omega)]; exact (hT.2.2 i.toNat (by omega)).1) | rw [if_neg (by omega)])
  · skip
    refine g_aload_n dX9_look_8 rfl rfl (gf_X9_20 (M := mX9_look) rfl dX9_look_9 (yo150 hY) (yr150_8 hY) (g_iload_n dX9_look_12 rfl rfl (g_iald dX9_look_13 (ya154 hY) ⟨by omega, by omega, by omega⟩ (g_goto 18 dX9_look_14 rfl ?_))))
    exact g_iret dX9_look_18 rfl rfl ⟨Nat.le_refl _, Nat.le_refl _⟩ (by refine ⟨someI ?_, rfl⟩; unfold lkV; first | (rw [if_pos (by omega)]; exact (hT.2.2 i.toNat (by omega)).1) | rw [if_neg (by omega)])
set_option maxRecDepth 100000 in
set_option maxHeartbeats 1000000 in
theorem e_next {G : GX} {y : LY} {h : HM} {d : Nat} (hY : Lay y) {T : Nat → Int} {len : Int} {P : PS} (hT0 : TT h T len) (hf : h.I 150 10 = P.ten ∧ h.I 150 14 = P.fnd) (hbd : (0 ≤ P.ten ∧ P.ten ≤ len) ∧ (0 ≤ P.fnd ∧ P.fnd ≤ 6) ∧ len ≤ 400) (hA : PB T len (advS T len P)) (hS : P.fnd ≠ 0 → TQ h T len P) : EvQV G mX9_next1 (d + 1) [.ref 150] y h (fun h1 => FrQ h h1 ∧ TQ h1 T len (advS T len P)) := by
  refine Ev.of rfl [some (.ref 150), none] rfl (Nat.le_of_ble_eq_true rfl) ?_
  have L82 : ∀ (m : Nat) (H : HM) (q : Int), (m : Int) = len - H.I 150 10 → TT H T len → FrQ h H → H.I 150 14 = 0 → H.I 150 12 = 1 → H.I 150 11 = q → (0 ≤ q ∧ q ≤ H.I 150 10 ∧ H.I 150 10 ≤ len) → advS T len P = (1, q, sk (LtC T len) len q, 0, 0) → sk (LtC T len) len q = sk (LtC T len) len (H.I 150 10) → Go G mX9_next1 (rmo (d + 1) 0 0) (ZM G y 0 0 (fun r h1 => r = none ∧ (fun h1 => FrQ h h1 ∧ TQ h1 T len (advS T len P)) h1)) y 82 [some (.ref 150), none] [] H (0, 0) := by
    intro m
    induction m using Nat.strongRecOn with | _ m ih =>
    intro H q hm hTH hfr h14 h12 h11 hp hadv hsk
    have hlk := lk_c hTH (i := H.I 150 10) (by omega)
    have hpp := pI_01 (97 ≤ lkV T len (H.I 150 10) ∧ lkV T len (H.I 150 10) ≤ 122)
    have hpe := pI_eq1 (P := 97 ≤ lkV T len (H.I 150 10) ∧ lkV T len (H.I 150 10) ≤ 122)
    refine g_aload_n dX9_next1_82 rfl rfl (g_aload_n dX9_next1_83 rfl rfl (gf_X9_84 (M := mX9_next1) rfl dX9_next1_84 (yo150 hY) (cv_X9_87 (M := mX9_next1) rfl dX9_next1_87 (yo150 hY) (RO.same _ _ _) (Nat.le_of_ble_eq_true rfl) (e_X9_look hY hTH (by omega)) <| kI (g_i2l dX9_next1_90 (by omega) (c2_X9_102 (M := mX9_next1) rfl dX9_next1_91 (c2_X9_104 (M := mX9_next1) rfl dX9_next1_94 (cv_X9_71 (M := mX9_next1) rfl dX9_next1_97 (RO.same _ _ _) (Nat.le_of_ble_eq_true rfl) (e_X9_in (by omega) (by omega) (by omega)) <| kI ?_)))))))
    refine g_if_eq 274 dX9_next1_100 rfl (by omega) (fun c100 => ?_) (fun c100 => ?_)
    · skip
      exact g_vret dX9_next1_274 rfl rfl ⟨Nat.le_refl _, Nat.le_refl _⟩ (by refine ⟨rfl, hfr, hTH, ?_, hA, fun z => ?_⟩; (rw [hadv, hsk, sk_f (fun z => by have z1 := z.1; have z2 := z.2; omega)]; unfold rdQ; rw [h12, h11, h14, if_pos rfl]); (rw [hadv] at z; exact absurd z (by show ¬ (1 : Int) = 2; decide)))
    · skip
      refine g_aload_n dX9_next1_103 rfl rfl (g_dup dX9_next1_104 rfl (gf_X9_84 (M := mX9_next1) rfl dX9_next1_105 (yo150 hY) (g_iconst dX9_next1_108 (g_iadd dX9_next1_109 (pf_X9_84 (M := mX9_next1) rfl dX9_next1_110 (yo150 hY) (g_goto 82 dX9_next1_113 rfl ?_))))))
      have e10 : (H.sI 150 10 (H.I 150 10 + 1)).I 150 10 = H.I 150 10 + 1 := by rw [sI_I, if_pos ⟨rfl, rfl⟩]
      have hfr2 := hfr.s (j := 10) (by omega) (H.I 150 10 + 1)
      refine ih (m - 1) (by omega) _ q (by rw [e10]; omega) (hTH.fr ((FrQ.rf H).s (by omega) _)) hfr2 (by rw [sI_I, if_neg (by omega)]; exact h14) (by rw [sI_I, if_neg (by omega)]; exact h12) (by rw [sI_I, if_neg (by omega)]; exact h11) (by rw [e10]; omega) hadv ?_
      rw [e10, hsk]
      exact sk_t ⟨by omega, by omega, by omega⟩ (by omega)
  have L140 : ∀ (m : Nat) (H : HM) (q : Int), (m : Int) = len - H.I 150 10 → TT H T len → FrQ h H → H.I 150 14 = 0 → H.I 150 12 = 2 → H.I 150 11 = q → (0 ≤ q ∧ q ≤ H.I 150 10 ∧ H.I 150 10 ≤ len) → advS T len P = demS (sk (DgC T len) len q - q ≤ 3) 1 (2, q, sk (DgC T len) len q, 0, 0) → sk (DgC T len) len q = sk (DgC T len) len (H.I 150 10) → (H.I 150 10 - q ≤ 3 → H.I 150 13 = nuV T (H.I 150 10 - q).toNat q) → Go G mX9_next1 (rmo (d + 1) 0 0) (ZM G y 0 0 (fun r h1 => r = none ∧ (fun h1 => FrQ h h1 ∧ TQ h1 T len (advS T len P)) h1)) y 140 [some (.ref 150), none] [] H (0, 0) := by
    intro m
    induction m using Nat.strongRecOn with | _ m ih =>
    intro H q hm hTH hfr h14 h12 h11 hp hadv hsk hval
    have hlk := lk_c hTH (i := H.I 150 10) (by omega)
    have hpp := pI_01 (48 ≤ lkV T len (H.I 150 10) ∧ lkV T len (H.I 150 10) ≤ 57)
    have hpe := pI_eq1 (P := 48 ≤ lkV T len (H.I 150 10) ∧ lkV T len (H.I 150 10) ≤ 57)
    refine g_aload_n dX9_next1_140 rfl rfl (g_aload_n dX9_next1_141 rfl rfl (gf_X9_84 (M := mX9_next1) rfl dX9_next1_142 (yo150 hY) (cv_X9_87 (M := mX9_next1) rfl dX9_next1_145 (yo150 hY) (RO.same _ _ _) (Nat.le_of_ble_eq_true rfl) (e_X9_look hY hTH (by omega)) <| kI (g_i2l dX9_next1_148 (by omega) (c2_X9_106 (M := mX9_next1) rfl dX9_next1_149 (c2_X9_108 (M := mX9_next1) rfl dX9_next1_152 (cv_X9_71 (M := mX9_next1) rfl dX9_next1_155 (RO.same _ _ _) (Nat.le_of_ble_eq_true rfl) (e_X9_in (by omega) (by omega) (by omega)) <| kI ?_)))))))
    refine g_if_eq 217 dX9_next1_158 rfl (by omega) (fun c158 => ?_) (fun c158 => ?_)
    · skip
      refine g_aload_n dX9_next1_217 rfl rfl (g_aload_n dX9_next1_218 rfl rfl (gf_X9_84 (M := mX9_next1) rfl dX9_next1_219 (yo150 hY) (g_aload_n dX9_next1_222 rfl rfl (gf_X9_78 (M := mX9_next1) rfl dX9_next1_223 (yo150 hY) (g_isub dX9_next1_226 (g_iconst dX9_next1_227 ?_))))))
      refine g_icmp_gt 235 dX9_next1_228 rfl (by omega) (by omega) (fun c228 => ?_) (fun c228 => ?_)
      · skip
        refine g_iconst dX9_next1_235 (g_iconst dX9_next1_236 ?_)
        refine cv_X9_113 (M := mX9_next1) rfl dX9_next1_237 (yo150 hY) (RO.same _ _ _) (Nat.le_of_ble_eq_true rfl) (e_X9_needs hY (by omega) (by omega) (by omega)) (kQV fun h237 hq237 => ?_)
        refine g_goto 274 dX9_next1_240 rfl ?_
        exact g_vret dX9_next1_274 rfl rfl ⟨Nat.le_refl _, Nat.le_refl _⟩ (by have hske : sk (DgC T len) len q = H.I 150 10 := (by rw [hsk, sk_f (fun z => by have z1 := z.1; have z2 := z.2; omega)]); have hrd : rdQ H = (2, q, H.I 150 10, 0, 0) := (by unfold rdQ; rw [h12, h11, h14, if_pos rfl]); refine ⟨rfl, hfr.tr hq237.1, hTH.fr hq237.1, ?_, hA, fun z1 z2 => ?_⟩; (rw [hadv, hske, hq237.2.2, hrd]; exact demS_cg (by omega)); (rw [hadv, hske] at z1 z2 ⊢; have z3 := demS_0 (by omega) z2; rw [demS_t z3.2]; rw [hq237.2.1]; exact hval z3.2))
      · skip
        refine g_iconst dX9_next1_231 (g_goto 236 dX9_next1_232 rfl (g_iconst dX9_next1_236 ?_))
        refine cv_X9_113 (M := mX9_next1) rfl dX9_next1_237 (yo150 hY) (RO.same _ _ _) (Nat.le_of_ble_eq_true rfl) (e_X9_needs hY (by omega) (by omega) (by omega)) (kQV fun h237 hq237 => ?_)
        refine g_goto 274 dX9_next1_240 rfl ?_
        exact g_vret dX9_next1_274 rfl rfl ⟨Nat.le_refl _, Nat.le_refl _⟩ (by have hske : sk (DgC T len) len q = H.I 150 10 := (by rw [hsk, sk_f (fun z => by have z1 := z.1; have z2 := z.2; omega)]); have hrd : rdQ H = (2, q, H.I 150 10, 0, 0) := (by unfold rdQ; rw [h12, h11, h14, if_pos rfl]); refine ⟨rfl, hfr.tr hq237.1, hTH.fr hq237.1, ?_, hA, fun z1 z2 => ?_⟩; (rw [hadv, hske, hq237.2.2, hrd]; exact demS_cg (by omega)); (rw [hadv, hske] at z1 z2 ⊢; have z3 := demS_0 (by omega) z2; rw [demS_t z3.2]; rw [hq237.2.1]; exact hval z3.2))
    · skip
      refine g_aload_n dX9_next1_161 rfl rfl (g_aload_n dX9_next1_162 rfl rfl (gf_X9_84 (M := mX9_next1) rfl dX9_next1_163 (yo150 hY) (g_aload_n dX9_next1_166 rfl rfl (gf_X9_78 (M := mX9_next1) rfl dX9_next1_167 (yo150 hY) (g_isub dX9_next1_170 (g_iconst dX9_next1_171 ?_))))))
      refine g_icmp_ge 197 dX9_next1_172 rfl (by omega) (by omega) (fun c172 => ?_) (fun c172 => ?_)
      · skip
        refine g_aload_n dX9_next1_197 rfl rfl (gf_X9_110 (M := mX9_next1) rfl dX9_next1_198 (yo150 hY) (pf_X9_110 (M := mX9_next1) rfl dX9_next1_201 (yo150 hY) (g_aload_n dX9_next1_204 rfl rfl (g_dup dX9_next1_205 rfl (gf_X9_84 (M := mX9_next1) rfl dX9_next1_206 (yo150 hY) (g_iconst dX9_next1_209 (g_iadd dX9_next1_210 (pf_X9_84 (M := mX9_next1) rfl dX9_next1_211 (yo150 hY) (g_goto 140 dX9_next1_214 rfl ?_)))))))))
        have hdg : DgC T len (H.I 150 10) := ⟨by omega, by omega, by omega⟩
        refine ih (m - 1) (by omega) _ q (by rw [sI_I, if_pos ⟨rfl, rfl⟩, sI_I, if_neg (by omega)]; omega) (hTH.fr (((FrQ.rf H).s (by omega) _).s (by omega) _)) ((hfr.s (by omega) _).s (by omega) _) (by rw [sI_I, if_neg (by omega), sI_I, if_neg (by omega)]; exact h14) (by rw [sI_I, if_neg (by omega), sI_I, if_neg (by omega)]; exact h12) (by rw [sI_I, if_neg (by omega), sI_I, if_neg (by omega)]; exact h11) (by rw [sI_I, if_pos ⟨rfl, rfl⟩, sI_I, if_neg (by omega)]; omega) hadv ?_ ?_
        · rw [sI_I, if_pos ⟨rfl, rfl⟩, sI_I, if_neg (by omega), hsk]; exact sk_t hdg (by omega)
        · rw [sI_I, if_pos ⟨rfl, rfl⟩, sI_I, if_neg (by omega), sI_I, if_neg (by omega), sI_I, if_pos ⟨rfl, rfl⟩]; intro z
          first | (exfalso; omega) | (rw [hval (by omega), show (H.I 150 10 + 1 - q).toNat = (H.I 150 10 - q).toNat + 1 by omega, nuV, show q + ((H.I 150 10 - q).toNat : Int) = H.I 150 10 by omega]; omega)
      · skip
        refine g_bipush dX9_next1_175 kb10 (g_aload_n dX9_next1_177 rfl rfl (gf_X9_110 (M := mX9_next1) rfl dX9_next1_178 (yo150 hY) (g_imul dX9_next1_181 (g_aload_n dX9_next1_182 rfl rfl (g_aload_n dX9_next1_183 rfl rfl (gf_X9_84 (M := mX9_next1) rfl dX9_next1_184 (yo150 hY) (cv_X9_87 (M := mX9_next1) rfl dX9_next1_187 (yo150 hY) (RO.same _ _ _) (Nat.le_of_ble_eq_true rfl) (e_X9_look hY hTH (by omega)) <| kI (g_iadd dX9_next1_190 (g_bipush dX9_next1_191 kb48 (g_isub dX9_next1_193 (g_goto 201 dX9_next1_194 rfl ?_)))))))))))
        refine pf_X9_110 (M := mX9_next1) rfl dX9_next1_201 (yo150 hY) (g_aload_n dX9_next1_204 rfl rfl (g_dup dX9_next1_205 rfl (gf_X9_84 (M := mX9_next1) rfl dX9_next1_206 (yo150 hY) (g_iconst dX9_next1_209 (g_iadd dX9_next1_210 (pf_X9_84 (M := mX9_next1) rfl dX9_next1_211 (yo150 hY) (g_goto 140 dX9_next1_214 rfl ?_)))))))
        have hdg : DgC T len (H.I 150 10) := ⟨by omega, by omega, by omega⟩
        refine ih (m - 1) (by omega) _ q (by rw [sI_I, if_pos ⟨rfl, rfl⟩, sI_I, if_neg (by omega)]; omega) (hTH.fr (((FrQ.rf H).s (by omega) _).s (by omega) _)) ((hfr.s (by omega) _).s (by omega) _) (by rw [sI_I, if_neg (by omega), sI_I, if_neg (by omega)]; exact h14) (by rw [sI_I, if_neg (by omega), sI_I, if_neg (by omega)]; exact h12) (by rw [sI_I, if_neg (by omega), sI_I, if_neg (by omega)]; exact h11) (by rw [sI_I, if_pos ⟨rfl, rfl⟩, sI_I, if_neg (by omega)]; omega) hadv ?_ ?_
        · rw [sI_I, if_pos ⟨rfl, rfl⟩, sI_I, if_neg (by omega), hsk]; exact sk_t hdg (by omega)
        · rw [sI_I, if_pos ⟨rfl, rfl⟩, sI_I, if_neg (by omega), sI_I, if_neg (by omega), sI_I, if_pos ⟨rfl, rfl⟩]; intro z
          first | (exfalso; omega) | (rw [hval (by omega), show (H.I 150 10 + 1 - q).toNat = (H.I 150 10 - q).toNat + 1 by omega, nuV, show q + ((H.I 150 10 - q).toNat : Int) = H.I 150 10 by omega]; omega)
  have A34 : ∀ (H : HM), TT H T len → FrQ h H → H.I 150 14 = 0 → (0 ≤ H.I 150 10 ∧ H.I 150 10 ≤ len) → advS T len P = advA T len (H.I 150 10) → Go G mX9_next1 (rmo (d + 1) 0 0) (ZM G y 0 0 (fun r h1 => r = none ∧ (fun h1 => FrQ h h1 ∧ TQ h1 T len (advS T len P)) h1)) y 34 [some (.ref 150), none] [] H (0, 0) := by
    intro H hTH0 hfr h14 hp hadv
    have hFs := hfr.s (j := 11) (by omega) (H.I 150 10)
    have hTH := hTH0.fr ((FrQ.rf H).s (j := 11) (by omega) (H.I 150 10))
    have hlk := lk_c hTH (i := H.I 150 10) (by omega)
    have e10 : (H.sI 150 11 (H.I 150 10)).I 150 10 = H.I 150 10 := by rw [sI_I, if_neg (by omega)]
    have e14 : ∀ s, ((H.sI 150 11 (H.I 150 10)).sI 150 12 s).I 150 14 = 0 := fun s => by rw [sI_I, if_neg (by omega), sI_I, if_neg (by omega)]; exact h14
    have e143 := e14 3
    have hpL := pI_01 (97 ≤ lkV T len (H.I 150 10) ∧ lkV T len (H.I 150 10) ≤ 122)
    have heL := pI_eq1 (P := 97 ≤ lkV T len (H.I 150 10) ∧ lkV T len (H.I 150 10) ≤ 122)
    have hpD := pI_01 (48 ≤ lkV T len (H.I 150 10) ∧ lkV T len (H.I 150 10) ≤ 57)
    have heD := pI_eq1 (P := 48 ≤ lkV T len (H.I 150 10) ∧ lkV T len (H.I 150 10) ≤ 57)
    refine g_aload_n dX9_next1_34 rfl rfl (g_aload_n dX9_next1_35 rfl rfl (gf_X9_84 (M := mX9_next1) rfl dX9_next1_36 (yo150 hY) (pf_X9_78 (M := mX9_next1) rfl dX9_next1_39 (yo150 hY) (g_aload_n dX9_next1_42 rfl rfl (g_aload_n dX9_next1_43 rfl rfl (gf_X9_84 (M := mX9_next1) rfl dX9_next1_44 (yo150 hY) ?_))))))
    rw [e10]
    refine cv_X9_87 (M := mX9_next1) rfl dX9_next1_47 (yo150 hY) (RO.same _ _ _) (Nat.le_of_ble_eq_true rfl) (e_X9_look hY hTH (by omega)) <| kI (g_ist1 dX9_next1_50 (by decide) rfl (g_iload_n dX9_next1_51 rfl rfl ?_))
    refine g_if_ge 63 dX9_next1_52 rfl (by omega) (fun c52 => ?_) (fun c52 => ?_)
    · skip
      refine g_iload_n dX9_next1_63 rfl rfl (g_i2l dX9_next1_64 (by omega) (c2_X9_102 (M := mX9_next1) rfl dX9_next1_65 (c2_X9_104 (M := mX9_next1) rfl dX9_next1_68 (cv_X9_71 (M := mX9_next1) rfl dX9_next1_71 (RO.same _ _ _) (Nat.le_of_ble_eq_true rfl) (e_X9_in (by omega) (by omega) (by omega)) <| kI ?_))))
      refine g_if_eq 116 dX9_next1_74 rfl (by omega) (fun c74 => ?_) (fun c74 => ?_)
      · skip
        refine g_iload_n dX9_next1_116 rfl rfl (g_i2l dX9_next1_117 (by omega) (c2_X9_106 (M := mX9_next1) rfl dX9_next1_118 (c2_X9_108 (M := mX9_next1) rfl dX9_next1_121 (cv_X9_71 (M := mX9_next1) rfl dX9_next1_124 (RO.same _ _ _) (Nat.le_of_ble_eq_true rfl) (e_X9_in (by omega) (by omega) (by omega)) <| kI ?_))))
        refine g_if_eq 243 dX9_next1_127 rfl (by omega) (fun c127 => ?_) (fun c127 => ?_)
        · skip
          refine g_aload_n dX9_next1_243 rfl rfl (g_iconst dX9_next1_244 (pf_X9_99 (M := mX9_next1) rfl dX9_next1_245 (yo150 hY) (g_aload_n dX9_next1_248 rfl rfl (g_iload_n dX9_next1_249 rfl rfl (g_bipush dX9_next1_250 kb59 ?_)))))
          refine g_icmp_ne 259 dX9_next1_252 rfl (by omega) (by omega) (fun c252 => ?_) (fun c252 => ?_)
          · skip
            refine g_iconst dX9_next1_259 (g_iconst dX9_next1_260 ?_)
            refine cv_X9_113 (M := mX9_next1) rfl dX9_next1_261 (yo150 hY) (RO.same _ _ _) (Nat.le_of_ble_eq_true rfl) (e_X9_needs hY (by omega) (by omega) (by omega)) (kQV fun h261 hq261 => ?_)
            refine g_aload_n dX9_next1_264 rfl rfl (g_dup dX9_next1_265 rfl (gf_X9_84 (M := mX9_next1) rfl dX9_next1_266 (yo150 hY) (g_iconst dX9_next1_269 (g_iadd dX9_next1_270 (pf_X9_84 (M := mX9_next1) rfl dX9_next1_271 (yo150 hY) ?_)))))
            exact g_vret dX9_next1_274 rfl rfl ⟨Nat.le_refl _, Nat.le_refl _⟩ (by first | (exfalso; omega) | (have hz : advS T len P = (0, H.I 150 10, H.I 150 10, 0, 0) := (by rw [hadv, advA_0 (by omega)]); refine ⟨rfl, hFs.s (by omega) _, hTH.fr ((FrQ.rf _).s (by omega) _), ?_, hA, fun z => ?_⟩; (rw [hz]; exact rdQ_12 h14); (rw [hz] at z; exact absurd z (by show ¬ (0 : Int) = 2; decide))) | (have hL : ¬ LtC T len (H.I 150 10) := (fun z => by have z1 := z.1; have z2 := z.2; omega); have hD : ¬ DgC T len (H.I 150 10) := (fun z => by have z1 := z.1; have z2 := z.2; omega); have hz := hadv.trans (advA_3 (by omega) hL hD); have hrd : rdQ ((H.sI 150 11 (H.I 150 10)).sI 150 12 3) = (3, H.I 150 10, H.I 150 10, 0, 0) := rdQ_12 h14; have hxd := nx_d hrd hq261.2.2 (B2 := T (H.I 150 10).toNat = 59) (by omega); have e261 : h261.I 150 10 = H.I 150 10 := hxd.1; refine ⟨rfl, ((hFs.s (by omega) _).tr hq261.1).s (by omega) _, (hTH.fr ((FrQ.rf _).s (by omega) _)).fr (hq261.1.tr ((FrQ.rf _).s (by omega) _)), ?_, hA, fun z => ?_⟩; (rw [hz]; exact hxd.2); (rw [hz] at z; rcases dem_c (B := T (H.I 150 10).toNat = 59) (c := 1) (P := (3, H.I 150 10, H.I 150 10 + 1, 0, 0)) rfl with w | w; (rw [w.2] at z; exact absurd z (by show ¬ (3 : Int) = 2; decide)); (rw [w.2.1] at z; exact absurd z (by show ¬ (3 : Int) = 2; decide)))))
          · skip
            refine g_iconst dX9_next1_255 (g_goto 260 dX9_next1_256 rfl (g_iconst dX9_next1_260 ?_))
            refine cv_X9_113 (M := mX9_next1) rfl dX9_next1_261 (yo150 hY) (RO.same _ _ _) (Nat.le_of_ble_eq_true rfl) (e_X9_needs hY (by omega) (by omega) (by omega)) (kQV fun h261 hq261 => ?_)
            refine g_aload_n dX9_next1_264 rfl rfl (g_dup dX9_next1_265 rfl (gf_X9_84 (M := mX9_next1) rfl dX9_next1_266 (yo150 hY) (g_iconst dX9_next1_269 (g_iadd dX9_next1_270 (pf_X9_84 (M := mX9_next1) rfl dX9_next1_271 (yo150 hY) ?_)))))
            exact g_vret dX9_next1_274 rfl rfl ⟨Nat.le_refl _, Nat.le_refl _⟩ (by first | (exfalso; omega) | (have hz : advS T len P = (0, H.I 150 10, H.I 150 10, 0, 0) := (by rw [hadv, advA_0 (by omega)]); refine ⟨rfl, hFs.s (by omega) _, hTH.fr ((FrQ.rf _).s (by omega) _), ?_, hA, fun z => ?_⟩; (rw [hz]; exact rdQ_12 h14); (rw [hz] at z; exact absurd z (by show ¬ (0 : Int) = 2; decide))) | (have hL : ¬ LtC T len (H.I 150 10) := (fun z => by have z1 := z.1; have z2 := z.2; omega); have hD : ¬ DgC T len (H.I 150 10) := (fun z => by have z1 := z.1; have z2 := z.2; omega); have hz := hadv.trans (advA_3 (by omega) hL hD); have hrd : rdQ ((H.sI 150 11 (H.I 150 10)).sI 150 12 3) = (3, H.I 150 10, H.I 150 10, 0, 0) := rdQ_12 h14; have hxd := nx_d hrd hq261.2.2 (B2 := T (H.I 150 10).toNat = 59) (by omega); have e261 : h261.I 150 10 = H.I 150 10 := hxd.1; refine ⟨rfl, ((hFs.s (by omega) _).tr hq261.1).s (by omega) _, (hTH.fr ((FrQ.rf _).s (by omega) _)).fr (hq261.1.tr ((FrQ.rf _).s (by omega) _)), ?_, hA, fun z => ?_⟩; (rw [hz]; exact hxd.2); (rw [hz] at z; rcases dem_c (B := T (H.I 150 10).toNat = 59) (c := 1) (P := (3, H.I 150 10, H.I 150 10 + 1, 0, 0)) rfl with w | w; (rw [w.2] at z; exact absurd z (by show ¬ (3 : Int) = 2; decide)); (rw [w.2.1] at z; exact absurd z (by show ¬ (3 : Int) = 2; decide)))))
        · skip
          refine g_aload_n dX9_next1_130 rfl rfl (g_iconst dX9_next1_131 (pf_X9_99 (M := mX9_next1) rfl dX9_next1_132 (yo150 hY) (g_aload_n dX9_next1_135 rfl rfl (g_iconst dX9_next1_136 (pf_X9_110 (M := mX9_next1) rfl dX9_next1_137 (yo150 hY) (g_dr1 ?_))))))
          have hL : ¬ LtC T len (H.I 150 10) := fun z => by have z1 := z.1; have z2 := z.2; omega
          have hD : DgC T len (H.I 150 10) := ⟨by omega, by omega, by omega⟩
          have ee : (((H.sI 150 11 (H.I 150 10)).sI 150 12 2).sI 150 13 0).I 150 10 = H.I 150 10 := by rw [sI_I, if_neg (by omega), sI_I, if_neg (by omega), sI_I, if_neg (by omega)]
          refine L140 (len - H.I 150 10).toNat _ (H.I 150 10) (by rw [ee]; omega) (hTH.fr (((FrQ.rf _).s (by omega) _).s (by omega) _)) ((hFs.s (by omega) _).s (by omega) _) (by rw [sI_I, if_neg (by omega), sI_I, if_neg (by omega), sI_I, if_neg (by omega)]; exact h14) (by rw [sI_I, if_neg (by omega), sI_I, if_pos ⟨rfl, rfl⟩]) (by rw [sI_I, if_neg (by omega), sI_I, if_neg (by omega), sI_I, if_pos ⟨rfl, rfl⟩]) (by rw [ee]; omega) (by rw [hadv, advA_2 hL hD]) (by rw [ee]) (fun _ => ?_)
          rw [sI_I, if_pos ⟨rfl, rfl⟩, ee, show (H.I 150 10 - H.I 150 10).toNat = 0 by omega]; rfl
      · skip
        refine g_aload_n dX9_next1_77 rfl rfl (g_iconst dX9_next1_78 (pf_X9_99 (M := mX9_next1) rfl dX9_next1_79 (yo150 hY) (g_dr1 ?_)))
        have hL : LtC T len (H.I 150 10) := ⟨by omega, by omega, by omega⟩
        have ee : ((H.sI 150 11 (H.I 150 10)).sI 150 12 1).I 150 10 = H.I 150 10 := by rw [sI_I, if_neg (by omega), sI_I, if_neg (by omega)]
        refine L82 (len - H.I 150 10).toNat _ (H.I 150 10) (by rw [ee]; omega) (hTH.fr ((FrQ.rf _).s (by omega) _)) (hFs.s (by omega) _) (by rw [sI_I, if_neg (by omega), sI_I, if_neg (by omega)]; exact h14) (by rw [sI_I, if_pos ⟨rfl, rfl⟩]) (by rw [sI_I, if_neg (by omega), sI_I, if_pos ⟨rfl, rfl⟩]) (by rw [ee]; omega) (by rw [hadv, advA_1 hL]) (by rw [ee])
    · skip
      refine g_aload_n dX9_next1_55 rfl rfl (g_iconst dX9_next1_56 (pf_X9_99 (M := mX9_next1) rfl dX9_next1_57 (yo150 hY) (g_goto 274 dX9_next1_60 rfl ?_)))
      exact g_vret dX9_next1_274 rfl rfl ⟨Nat.le_refl _, Nat.le_refl _⟩ (by first | (exfalso; omega) | (have hz : advS T len P = (0, H.I 150 10, H.I 150 10, 0, 0) := (by rw [hadv, advA_0 (by omega)]); refine ⟨rfl, hFs.s (by omega) _, hTH.fr ((FrQ.rf _).s (by omega) _), ?_, hA, fun z => ?_⟩; (rw [hz]; exact rdQ_12 h14); (rw [hz] at z; exact absurd z (by show ¬ (0 : Int) = 2; decide))) | (have hL : ¬ LtC T len (H.I 150 10) := (fun z => by have z1 := z.1; have z2 := z.2; omega); have hD : ¬ DgC T len (H.I 150 10) := (fun z => by have z1 := z.1; have z2 := z.2; omega); have hz := hadv.trans (advA_3 (by omega) hL hD); have hrd : rdQ ((H.sI 150 11 (H.I 150 10)).sI 150 12 3) = (3, H.I 150 10, H.I 150 10, 0, 0) := rdQ_12 h14; have hxd := nx_d hrd hq261.2.2 (B2 := T (H.I 150 10).toNat = 59) (by omega); have e261 : h261.I 150 10 = H.I 150 10 := hxd.1; refine ⟨rfl, ((hFs.s (by omega) _).tr hq261.1).s (by omega) _, (hTH.fr ((FrQ.rf _).s (by omega) _)).fr (hq261.1.tr ((FrQ.rf _).s (by omega) _)), ?_, hA, fun z => ?_⟩; (rw [hz]; exact hxd.2); (rw [hz] at z; rcases dem_c (B := T (H.I 150 10).toNat = 59) (c := 1) (P := (3, H.I 150 10, H.I 150 10 + 1, 0, 0)) rfl with w | w; (rw [w.2] at z; exact absurd z (by show ¬ (3 : Int) = 2; decide)); (rw [w.2.1] at z; exact absurd z (by show ¬ (3 : Int) = 2; decide)))))
  have L8 : ∀ (m : Nat) (H : HM), (m : Int) = len - H.I 150 10 → TT H T len → FrQ h H → H.I 150 14 = 0 → (0 ≤ H.I 150 10 ∧ H.I 150 10 ≤ len) → P.fnd = 0 → sk (BlC T len) len P.ten = sk (BlC T len) len (H.I 150 10) → Go G mX9_next1 (rmo (d + 1) 0 0) (ZM G y 0 0 (fun r h1 => r = none ∧ (fun h1 => FrQ h h1 ∧ TQ h1 T len (advS T len P)) h1)) y 8 [some (.ref 150), none] [] H (0, 0) := by
    intro m
    induction m using Nat.strongRecOn with | _ m ih =>
    intro H hm hTH hfr h14 hp h0 hsk
    have hlk := lk_c hTH (i := H.I 150 10) (by omega)
    refine g_aload_n dX9_next1_8 rfl rfl (g_aload_n dX9_next1_9 rfl rfl (gf_X9_84 (M := mX9_next1) rfl dX9_next1_10 (yo150 hY) (cv_X9_87 (M := mX9_next1) rfl dX9_next1_13 (yo150 hY) (RO.same _ _ _) (Nat.le_of_ble_eq_true rfl) (e_X9_look hY hTH (by omega)) <| kI (g_bipush dX9_next1_16 kb32 ?_))))
    refine g_icmp_ne 34 dX9_next1_18 rfl (by omega) (by omega) (fun c18 => ?_) (fun c18 => ?_)
    · skip
      refine A34 H hTH hfr h14 hp ?_
      rw [adv_e h0, hsk, sk_f (fun z => by have z1 := z.1; have z2 := z.2; omega)]
    · skip
      refine g_aload_n dX9_next1_21 rfl rfl (g_dup dX9_next1_22 rfl (gf_X9_84 (M := mX9_next1) rfl dX9_next1_23 (yo150 hY) (g_iconst dX9_next1_26 (g_iadd dX9_next1_27 (pf_X9_84 (M := mX9_next1) rfl dX9_next1_28 (yo150 hY) (g_goto 8 dX9_next1_31 rfl ?_))))))
      have e10 : (H.sI 150 10 (H.I 150 10 + 1)).I 150 10 = H.I 150 10 + 1 := by rw [sI_I, if_pos ⟨rfl, rfl⟩]
      refine ih (m - 1) (by omega) _ (by rw [e10]; omega) (hTH.fr ((FrQ.rf H).s (by omega) _)) (hfr.s (by omega) _) (by rw [sI_I, if_neg (by omega)]; exact h14) (by rw [e10]; omega) h0 ?_
      rw [e10, hsk]
      exact sk_t ⟨by omega, by omega⟩ (by omega)
  refine g_aload_n dX9_next1_0 rfl rfl (gf_X9_75 (M := mX9_next1) rfl dX9_next1_1 (yo150 hY) ?_)
  refine g_if_le 8 dX9_next1_4 rfl (by omega) (fun c4 => ?_) (fun c4 => ?_)
  · skip
    exact L8 (len - h.I 150 10).toNat h (by omega) hT0 (FrQ.rf h) (by omega) (by omega) (by omega) (by rw [hf.1])
  · skip
    exact g_vret dX9_next1_7 rfl rfl ⟨Nat.le_refl _, Nat.le_refl _⟩ (by exact ⟨rfl, FrQ.rf h, by rw [advS_n (by omega)]; exact hS (by omega)⟩)
theorem e_X9_next1 {G : GX} {y : LY} {h : HM} {d : Nat} (hY : Lay y) {T : Nat → Int} {len : Int} {P : PS} (hS : TQ h T len P) : EvQV G mX9_next1 (d + 1) [.ref 150] y h (fun h1 => FrQ h h1 ∧ TQ h1 T len (advS T len P)) := by
  have hf := hS.f
  have hb := hS.b
  exact e_next hY hS.1 ⟨hf.2.2.1, hf.2.2.2.1⟩ ⟨by omega, hb.2.2.1, hb.2.2.2⟩ hS.2.2.1.adv (fun _ => hS)
