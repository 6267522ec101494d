/-! a text, in the reference -/
def Fr7 (h h1 : HM) : Prop := h1.L = h.L ∧ ∀ a j : Nat, a ≠ 153 → (a ≠ 150 ∨ j < 4 ∨ 8 ≤ j) → h1.I a j = h.I a j
theorem Fr7.d {h h1 : HM} (f : Fr7 h h1) : FrD h h1 := ⟨f.1, fun a j q z => f.2 a j q (by omega)⟩
def kdH (h : HM) : HM := (((h.sA 151 (fun j => if j < 108 then h.I 153 j else h.I 151 j)).sI 150 2 (h.I 150 4)).sI 152 0 0).sI 152 1 0
def KpD (h : HM) (D : DT) : Prop := (h.I 151 0 = D.nf ∧ ∀ i : Int, 0 ≤ i → i < D.nf → RFg h i (D.F i.toNat)) ∧ (h.I 151 37 = D.nv ∧ ∀ i : Int, 0 ≤ i → i < D.nv → RVg h i (D.V i.toNat)) ∧ (h.I 151 68 = D.sd ∧ h.I 151 69 = D.sf ∧ h.I 151 70 = D.s2 ∧ h.I 151 71 = 0) ∧ h.I 150 2 = D.rc
theorem kd_151 (h : HM) (j : Nat) : (kdH h).I 151 j = if j < 108 then h.I 153 j else h.I 151 j := by
  unfold kdH
  rw [sI_I, if_neg (by omega), sI_I, if_neg (by omega), sI_I, if_neg (by omega), sA_I, if_pos rfl]
theorem kd_o (h : HM) {a j : Nat} (q : a ≠ 151 ∧ a ≠ 152 ∧ (a ≠ 150 ∨ j ≠ 2)) : (kdH h).I a j = h.I a j := by
  unfold kdH
  rw [sI_I, if_neg (by omega), sI_I, if_neg (by omega), sI_I, if_neg (by omega), sA_I, if_neg (by omega)]
theorem kd_D {h : HM} {D : DT} (hD : DRR h D) (hV : DV D) : KpD (kdH h) D := by
  have hn := hV.1.1; have hm := hV.2.1.1
  have e : ∀ j : Nat, j < 108 → (kdH h).I 151 j = h.I 153 j := fun j hj => by rw [kd_151, if_pos hj]
  refine ⟨⟨by rw [e 0 (by omega)]; exact hD.1.1, fun i i0 i1 => ?_⟩, ⟨by rw [e 37 (by omega)]; exact hD.2.1.1, fun i i0 i1 => ?_⟩, ?_, ?_⟩
  · unfold RFg
    rw [e _ (by omega), e _ (by omega), e _ (by omega), e _ (by omega), e _ (by omega), e _ (by omega)]
    exact hD.1.2 i i0 i1
  · unfold RVg
    rw [e _ (by omega), e _ (by omega), e _ (by omega), e _ (by omega), e _ (by omega)]
    exact hD.2.1.2 i i0 i1
  · rw [e 68 (by omega), e 69 (by omega), e 70 (by omega), e 71 (by omega)]; exact hD.2.2.1
  · unfold kdH; rw [sI_I, if_neg (by omega), sI_I, if_neg (by omega), sI_I, if_pos ⟨rfl, rfl⟩]; exact hD.2.2.2.1.1
theorem fd_D {h : HM} {h1 : HM} (e : ∀ j : Nat, j < 108 → h1.I 153 j = if j = 68 ∨ j = 69 ∨ j = 70 then -4 else 0) (e4 : h1.I 150 4 = 1) (e5 : h1.I 150 5 = 0) (e6 : h1.I 150 6 = 0) (e7 : h1.I 150 7 = -4) : DRR h1 D0 := by
  refine ⟨⟨?_, fun i i0 i1 => ?_⟩, ⟨?_, fun i i0 i1 => ?_⟩, ⟨?_, ?_, ?_, ?_⟩, ⟨e4, e6, e5⟩, Or.inl e7, fun v hv => ?_, Or.inl e7⟩
  · rw [e 0 (by omega), if_neg (by omega)]; rfl
  · have i1 : i < 0 := i1
    omega
  · rw [e 37 (by omega), if_neg (by omega)]; rfl
  · have i1 : i < 0 := i1
    omega
  · rw [e 68 (by omega), if_pos (by omega)]; rfl
  · rw [e 69 (by omega), if_pos (by omega)]; rfl
  · rw [e 70 (by omega), if_pos (by omega)]; rfl
  · rw [e 71 (by omega), if_neg (by omega)]
  · have hv : (v : Int) < 0 := hv
    omega
theorem fi_dem {T : Nat → Int} {len hg : Int} {P : PS} {D : DT} (h0 : P.fnd = 0) (ht : P.tat = len) (hH : HgQ hg D) (hn : 0 ≤ D.nf) : demS (hg < D.nf) 6 P = fiS len D.nv.toNat P D := by
  obtain ⟨g1, g2, g3⟩ := hH
  by_cases q : hg < D.nf
  · rw [demS_t q]
    exact (cnd_f (fun ⟨_, v, z1, z2⟩ => by have := g2 v (by omega); omega)).symm
  · rw [demS_f q h0]
    have hx : ∃ v : Nat, v < D.nv.toNat ∧ D.nf ≤ (D.V v).2.1 := by
      rcases g3 with z | ⟨v, z1, z2⟩
      · omega
      · exact ⟨v, by omega, by omega⟩
    rw [show fiS len D.nv.toNat P D = (P.tok, P.tat, P.ten, 6, len) from cnd_t ⟨h0, hx⟩, ht]
def TxR (h : HM) (T : Nat → Int) (len v : Int) (h1 : HM) : Prop := h1.L = h.L ∧ (∀ a j : Nat, a ≠ 151 → a ≠ 152 → a ≠ 153 → (a ≠ 150 ∨ j < 2 ∨ j = 3 ∨ j = 8 ∨ 16 ≤ j) → h1.I a j = h.I a j) ∧ h1.I 150 9 = 0 ∧ h1.I 150 14 = (paP T len).fnd ∧
  (((paP T len).fnd ≠ 0 ∧ v = -10 - (paP T len).fat ∧ (∀ j, h1.I 151 j = h.I 151 j) ∧ (∀ j, h1.I 152 j = h.I 152 j) ∧ h1.I 150 2 = h.I 150 2) ∨
   ((paP T len).fnd = 0 ∧ v = ((pa0 T len).2 : Int) ∧ KpD h1 (pa0 T len).1.2 ∧ (∀ j, 108 ≤ j → h1.I 151 j = h.I 151 j) ∧ h1.I 152 0 = 0 ∧ h1.I 152 1 = 0))
theorem dr_9 {H : HM} {D : DT} (hD : DRR H D) : DRR (H.sI 150 9 0) D := by
  have e : ∀ j, (H.sI 150 9 0).I 153 j = H.I 153 j := fun j => by rw [sI_I, if_neg (by omega)]
  have e0 : ∀ j, j < 9 → (H.sI 150 9 0).I 150 j = H.I 150 j := fun j hj => by rw [sI_I, if_neg (by omega)]
  unfold DRR RDg RDv
  simp only [e, e0 4 (by omega), e0 5 (by omega), e0 6 (by omega), e0 7 (by omega)]
  exact hD
theorem tx_0 {h h1 : HM} {T : Nat → Int} {len : Int} (hT : TT h T len) (f : Fr7 ((h.sI 150 14 0).sI 150 10 0) h1) : TT h1 T len ∧ h1.I 150 10 = P0.ten ∧ h1.I 150 14 = P0.fnd := by
  have e : ∀ j, 8 ≤ j → h1.I 150 j = ((h.sI 150 14 0).sI 150 10 0).I 150 j := fun j hj => f.2 150 j (by omega) (by omega)
  refine ⟨⟨?_, hT.2.1, fun j hj => ?_⟩, ?_, ?_⟩
  · rw [e 9 (by omega), sI_I, if_neg (by omega), sI_I, if_neg (by omega)]; exact hT.1
  · rw [f.2 154 j (by omega) (by omega), sI_I, if_neg (by omega), sI_I, if_neg (by omega)]; exact hT.2.2 j hj
  · rw [e 10 (by omega), sI_I, if_pos ⟨rfl, rfl⟩]; rfl
  · rw [e 14 (by omega), sI_I, if_neg (by omega), sI_I, if_pos ⟨rfl, rfl⟩]; rfl
theorem tx_1 {h h1 h2 : HM} (f : Fr7 ((h.sI 150 14 0).sI 150 10 0) h1) (g : FrQ h1 h2) : FrD h h2 := by
  refine ⟨g.1.trans f.1, fun a j q z => ?_⟩
  rw [g.2 a j (by omega), f.2 a j q (by omega), sI_I, if_neg (by omega), sI_I, if_neg (by omega)]
set_option maxRecDepth 100000 in
set_option maxHeartbeats 1000000 in
theorem e_X9_firstDraft {G : GX} {y : LY} {h : HM} {d : Nat} (hY : Lay y) : EvQV G mX9_firstDraft (d) [.ref 150] y h (fun h1 => Fr7 h h1 ∧ DRR h1 D0) := by
  refine Ev.of rfl [some (.ref 150), none] rfl (Nat.le_of_ble_eq_true rfl) ?_
  have L2 : ∀ (m : Nat) (H : HM) (i : Int), (m : Int) = 108 - i → 0 ≤ i ∧ i ≤ 108 → H.L = h.L → (∀ a j : Nat, a ≠ 153 → H.I a j = h.I a j) → (∀ j : Nat, (j : Int) < i → H.I 153 j = 0) → Go G mX9_firstDraft (rmo (d) 0 0) (ZM G y 0 0 (fun r h1 => r = none ∧ (fun h1 => Fr7 h h1 ∧ DRR h1 D0) h1)) y 2 [some (.ref 150), some (.int (iZ i))] [] H (0, 0) := by
    intro m
    induction m using Nat.strongRecOn with | _ m ih =>
    intro H i hm hi hL hI hz
    refine g_iload_n dX9_firstDraft_2 rfl rfl (g_bipush dX9_firstDraft_3 kb108 ?_)
    refine g_icmp_ge 21 dX9_firstDraft_5 rfl (by omega) (by omega) (fun c5 => ?_) (fun c5 => ?_)
    · skip
      refine g_aload_n dX9_firstDraft_21 rfl rfl (gf_X9_17 (M := mX9_firstDraft) rfl dX9_firstDraft_22 (yo150 hY) (yr150_3 hY) (g_bipush dX9_firstDraft_25 kb68 (g_bipush dX9_firstDraft_27 kbm4 (g_isN 68 dX9_firstDraft_29 (ya153 hY) ⟨by decide, by decide, by decide⟩ rfl (g_aload_n dX9_firstDraft_30 rfl rfl (gf_X9_17 (M := mX9_firstDraft) rfl dX9_firstDraft_31 (yo150 hY) (yr150_3 hY) (g_bipush dX9_firstDraft_34 kb69 (g_bipush dX9_firstDraft_36 kbm4 (g_isN 69 dX9_firstDraft_38 (ya153 hY) ⟨by decide, by decide, by decide⟩ rfl (g_aload_n dX9_firstDraft_39 rfl rfl (gf_X9_17 (M := mX9_firstDraft) rfl dX9_firstDraft_40 (yo150 hY) (yr150_3 hY) ?_)))))))))))
      refine g_bipush dX9_firstDraft_43 kb70 (g_bipush dX9_firstDraft_45 kbm4 (g_isN 70 dX9_firstDraft_47 (ya153 hY) ⟨by decide, by decide, by decide⟩ rfl (g_aload_n dX9_firstDraft_48 rfl rfl (g_iconst dX9_firstDraft_49 (pf_X9_49 (M := mX9_firstDraft) rfl dX9_firstDraft_50 (yo150 hY) (g_aload_n dX9_firstDraft_53 rfl rfl (g_iconst dX9_firstDraft_54 (pf_X9_53 (M := mX9_firstDraft) rfl dX9_firstDraft_55 (by omega) (yo150 hY) (g_aload_n dX9_firstDraft_58 rfl rfl (g_iconst dX9_firstDraft_59 (pf_X9_57 (M := mX9_firstDraft) rfl dX9_firstDraft_60 (by omega) (yo150 hY) ?_)))))))))))
      refine g_aload_n dX9_firstDraft_63 rfl rfl (g_bipush dX9_firstDraft_64 kbm4 (pf_X9_60 (M := mX9_firstDraft) rfl dX9_firstDraft_66 (yo150 hY) ?_))
      exact g_vret dX9_firstDraft_69 rfl rfl ⟨Nat.le_refl _, Nat.le_refl _⟩ (by refine ⟨rfl, ⟨hL, fun a j q1 q2 => ?_⟩, fd_D (h := h) (fun j hj => ?_) ?_ ?_ ?_ ?_⟩; (rw [sI_I, if_neg (by omega), sI_I, if_neg (by omega), sI_I, if_neg (by omega), sI_I, if_neg (by omega), sI_I, if_neg (by omega), sI_I, if_neg (by omega), sI_I, if_neg (by omega)]; exact hI a j q1); (have hzj := hz j (by omega); rw [sI_I, if_neg (by omega), sI_I, if_neg (by omega), sI_I, if_neg (by omega), sI_I, if_neg (by omega), sI_I, sI_I, sI_I, hzj]; simp only [true_and]; (repeat split) <;> first | rfl | omega); (rw [sI_I, if_neg (by omega), sI_I, if_neg (by omega), sI_I, if_neg (by omega), sI_I, if_pos ⟨rfl, rfl⟩]); (rw [sI_I, if_neg (by omega), sI_I, if_neg (by omega), sI_I, if_pos ⟨rfl, rfl⟩]); (rw [sI_I, if_neg (by omega), sI_I, if_pos ⟨rfl, rfl⟩]); (rw [sI_I, if_pos ⟨rfl, rfl⟩]))
    · skip
      refine g_aload_n dX9_firstDraft_8 rfl rfl (gf_X9_17 (M := mX9_firstDraft) rfl dX9_firstDraft_9 (yo150 hY) (yr150_3 hY) (g_iload_n dX9_firstDraft_12 rfl rfl (g_iconst dX9_firstDraft_13 (g_iast dX9_firstDraft_14 (ya153 hY) ⟨by omega, by omega, by omega⟩ (g_inc1 dX9_firstDraft_15 (by decide) rfl (g_goto 2 dX9_firstDraft_18 rfl ?_))))))
      exact ih (m - 1) (by omega) _ (i + 1) (by omega) (by omega) hL (fun a j q => by rw [sI_I, if_neg (by omega)]; exact hI a j q) (fun j hj => by (rw [sI_I]; by_cases q : j = i.toNat; (rw [if_pos ⟨rfl, q⟩]); (rw [if_neg (fun z => q z.2)]; exact hz j (by omega))))
  refine g_iconst dX9_firstDraft_0 (g_ist1 dX9_firstDraft_1 (by decide) rfl ?_)
  exact L2 108 h 0 (by omega) (by omega) rfl (fun _ _ _ => rfl) (fun j hj => by omega)
set_option maxRecDepth 100000 in
set_option maxHeartbeats 1000000 in
theorem e_X9_keepDraft {G : GX} {y : LY} {h : HM} {d : Nat} (hY : Lay y) : EvV G mX9_keepDraft (d) [.ref 150] y h (kdH h) := by
  refine Ev.of rfl [some (.ref 150), none] rfl (Nat.le_of_ble_eq_true rfl) ?_
  have L2 : ∀ (m : Nat) (i : Int), (m : Int) = 108 - i → 0 ≤ i ∧ i ≤ 108 → Go G mX9_keepDraft (rmo (d) 0 0) (ZM G y 0 0 (fun r h1 => r = none ∧ h1 = kdH h)) y 2 [some (.ref 150), some (.int (iZ i))] [] (h.sA 151 (fun j => if j < i.toNat then h.I 153 j else h.I 151 j)) (0, 0) := by
    intro m
    induction m using Nat.strongRecOn with | _ m ih =>
    intro i hm hi
    refine g_iload_n dX9_keepDraft_2 rfl rfl (g_bipush dX9_keepDraft_3 kb108 ?_)
    refine g_icmp_ge 26 dX9_keepDraft_5 rfl (by omega) (by omega) (fun c5 => ?_) (fun c5 => ?_)
    · skip
      refine g_aload_n dX9_keepDraft_26 rfl rfl (g_aload_n dX9_keepDraft_27 rfl rfl (gf_X9_49 (M := mX9_keepDraft) rfl dX9_keepDraft_28 (yo150 hY) ?_))
      rw [sA_I, if_neg (by omega)]
      refine pf_X9_63 (M := mX9_keepDraft) rfl dX9_keepDraft_31 (yo150 hY) (g_aload_n dX9_keepDraft_34 rfl rfl (gf_X9_13 (M := mX9_keepDraft) rfl dX9_keepDraft_35 (yo150 hY) (yr150_1 hY) (g_iconst dX9_keepDraft_38 (g_iconst dX9_keepDraft_39 (g_zsN 0 dX9_keepDraft_40 (ya152 hY) ⟨by decide, by decide, by decide⟩ rfl (by omega) (g_aload_n dX9_keepDraft_41 rfl rfl (gf_X9_13 (M := mX9_keepDraft) rfl dX9_keepDraft_42 (yo150 hY) (yr150_1 hY) (g_iconst dX9_keepDraft_45 (g_iconst dX9_keepDraft_46 (g_zsN 1 dX9_keepDraft_47 (ya152 hY) ⟨by decide, by decide, by decide⟩ rfl (by omega) ?_))))))))))
      exact g_vret dX9_keepDraft_48 rfl rfl ⟨Nat.le_refl _, Nat.le_refl _⟩ (by obtain rfl : i = 108 := (by omega); exact ⟨rfl, rfl⟩)
    · skip
      refine g_aload_n dX9_keepDraft_8 rfl rfl (gf_X9_7 (M := mX9_keepDraft) rfl dX9_keepDraft_9 (yo150 hY) (yr150_0 hY) (g_iload_n dX9_keepDraft_12 rfl rfl (g_aload_n dX9_keepDraft_13 rfl rfl (gf_X9_17 (M := mX9_keepDraft) rfl dX9_keepDraft_14 (yo150 hY) (yr150_3 hY) (g_iload_n dX9_keepDraft_17 rfl rfl (g_iald dX9_keepDraft_18 (ya153 hY) ⟨by omega, by omega, by omega⟩ (g_iast dX9_keepDraft_19 (ya151 hY) ⟨by omega, by omega, by omega⟩ ?_)))))))
      rw [sA_I, if_neg (by omega), sA_sI]
      refine g_inc1 dX9_keepDraft_20 (by decide) rfl (g_goto 2 dX9_keepDraft_23 rfl ?_)
      have hx := ih (m - 1) (by omega) (i + 1) (by omega) (by omega)
      refine go_h (sA_congr h 151 (fun j => ?_)) hx
      by_cases q : j = i.toNat
      · rw [if_pos q, if_pos (by omega), q]
      · rw [if_neg q]; by_cases z : j < i.toNat; (rw [if_pos z, if_pos (by omega)]); (rw [if_neg z, if_neg (by omega)])
  refine g_iconst dX9_keepDraft_0 (g_ist1 dX9_keepDraft_1 (by decide) rfl ?_)
  have hx := L2 108 0 (by omega) (by omega)
  refine go_h ((sA_congr h 151 (g := h.I 151) (fun j => ?_)).trans (sA_self h 151)) hx
  rw [if_neg (by omega)]
set_option maxRecDepth 100000 in
set_option maxHeartbeats 1000000 in
theorem e_X9_text {G : GX} {y : LY} {h : HM} {d : Nat} (hY : Lay y) {T : Nat → Int} {len : Int} (hT : TT h T len) : EvQX G mX9_text (d + 5) [.ref 150] y h (fun v h1 => TxR h T len v h1) := by
  have hln := hT.2.1
  refine Ev.of rfl [some (.ref 150), none] rfl (Nat.le_of_ble_eq_true rfl) ?_
  have L75 : ∀ (H : HM) (n : Nat), FrD h H → TQ H T len (paP T len) → ((paP T len).fnd = 0 → DRR H (pa0 T len).1.2) → DV (pa0 T len).1.2 → (n : Int) = ((pa0 T len).2 : Int) → Go G mX9_text (rmo (d + 5) 0 0) (ZM G y 0 0 (fun r h1 => ∃ v_ : Int, r = some (.int (iZ v_)) ∧ (fun v h1 => TxR h T len v h1) v_ h1)) y 75 [some (.ref 150), some (.int (iZ n))] [] H (0, 0) := by
    intro H n hfr hTQ hDr hV hn
    have fH := hTQ.f
    have bH := hTQ.b
    have e14 : (H.sI 150 9 0).I 150 14 = H.I 150 14 := by rw [sI_I, if_neg (by omega)]
    have e15 : (H.sI 150 9 0).I 150 15 = H.I 150 15 := by rw [sI_I, if_neg (by omega)]
    refine g_aload_n dX9_text_75 rfl rfl (g_iconst dX9_text_76 (pf_X9_66 (M := mX9_text) rfl dX9_text_77 (yo150 hY) (g_aload_n dX9_text_80 rfl rfl (gf_X9_75 (M := mX9_text) rfl dX9_text_81 (yo150 hY) ?_))))
    refine g_if_le 95 dX9_text_84 rfl (by omega) (fun c84 => ?_) (fun c84 => ?_)
    · skip
      refine g_aload_n dX9_text_95 rfl rfl (cv_X9_46 (M := mX9_text) rfl dX9_text_96 (yo150 hY) (RO.same _ _ _) (Nat.le_of_ble_eq_true rfl) (e_X9_keepDraft hY) <| kV (g_iload_n dX9_text_99 rfl rfl ?_))
      exact g_iret dX9_text_100 rfl rfl ⟨Nat.le_refl _, Nat.le_refl _⟩ (by refine ⟨(n : Int), rfl, hfr.1, fun a j a1 a2 a3 a4 => by rw [kd_o _ (by omega), sI_I, if_neg (by omega)]; exact hfr.2 a j a3 (by omega), by rw [kd_o _ (by omega), sI_I, if_pos ⟨rfl, rfl⟩], by rw [kd_o _ (by omega), e14]; exact fH.2.2.2.1, Or.inr ⟨by omega, hn, kd_D (dr_9 (hDr (by omega))) hV, fun j hj => by rw [kd_151, if_neg (by omega), sI_I, if_neg (by omega)]; exact hfr.2 151 j (by omega) (by omega), ?_, ?_⟩⟩; (unfold kdH; rw [sI_I, if_neg (by omega), sI_I, if_pos ⟨rfl, rfl⟩]); (unfold kdH; rw [sI_I, if_pos ⟨rfl, rfl⟩]))
    · skip
      refine g_bipush dX9_text_87 kbm10 (g_aload_n dX9_text_89 rfl rfl (gf_X9_81 (M := mX9_text) rfl dX9_text_90 (yo150 hY) (g_isub dX9_text_93 ?_)))
      exact g_iret dX9_text_94 rfl rfl ⟨Nat.le_refl _, Nat.le_refl _⟩ (by refine ⟨_, rfl, hfr.1, fun a j a1 a2 a3 a4 => by rw [sI_I, if_neg (by omega)]; exact hfr.2 a j a3 (by omega), by rw [sI_I, if_pos ⟨rfl, rfl⟩], by rw [e14]; exact fH.2.2.2.1, Or.inl ⟨by omega, ?_, fun j => by rw [sI_I, if_neg (by omega)]; exact hfr.2 151 j (by omega) (by omega), fun j => by rw [sI_I, if_neg (by omega)]; exact hfr.2 152 j (by omega) (by omega), by rw [sI_I, if_neg (by omega)]; exact hfr.2 150 2 (by omega) (by omega)⟩⟩; rw [e15, fH.2.2.2.2 (by omega)])
  have L20 : ∀ (m : Nat) (H : HM) (P1 : PS) (D1 : DT) (n : Nat), m = 401 - n → n ≤ 400 → TQ H T len P1 → FrD h H → (P1.fnd = 0 → DRR H D1) → DV D1 → (P1.fnd = 0 → P1.tok ≠ 0 → (n : Int) + 1 ≤ P1.ten) → (P1.fnd = 0 → P1.tok = 0 → P1.tat = len) → pa0 T len = ((runS T len (401 - n) P1 D1).1, n + (runS T len (401 - n) P1 D1).2) → Go G mX9_text (rmo (d + 5) 0 0) (ZM G y 0 0 (fun r h1 => ∃ v_ : Int, r = some (.int (iZ v_)) ∧ (fun v h1 => TxR h T len v h1) v_ h1)) y 20 [some (.ref 150), some (.int (iZ n))] [] H (0, 0) := by
    intro m
    induction m using Nat.strongRecOn with | _ m ih =>
    intro H P1 D1 n hm hn hTQ hfr hDr hV1 hpr hend heq
    have fH := hTQ.f
    have bH := hTQ.b
    have hnf := hV1.1.1
    have hnv := hV1.2.1.1
    refine g_aload_n dX9_text_20 rfl rfl (gf_X9_75 (M := mX9_text) rfl dX9_text_21 (yo150 hY) ?_)
    refine g_if_ne 44 dX9_text_24 rfl (by omega) (fun c24 => ?_) (fun c24 => ?_)
    · skip
      refine g_aload_n dX9_text_44 rfl rfl (gf_X9_75 (M := mX9_text) rfl dX9_text_45 (yo150 hY) ?_)
      refine g_if_ne 75 dX9_text_48 rfl (by omega) (fun c48 => ?_) (fun c48 => ?_)
      · skip
        first
        | (have hpp : paP T len = fiS len D1.nv.toNat P1 D1 := (by unfold paP; rw [heq2]); exact L75 h72 n (hfr.tr hq72.1.d) (by rw [hpp]; exact t72) (fun _ => by rw [heq2]; exact hDD.fr hq72.1) (by rw [heq2]; exact hV1) (by rw [heq2]; rfl))
        | (have hnot : ¬ (P1.fnd = 0 ∧ P1.tok ≠ 0) := (fun z => by have := z.1; omega); have heq2 := heq; rw [run_n hnot] at heq2; have hpp : paP T len = P1 := (by unfold paP; rw [heq2]; exact cnd_f (fun z => absurd z.1 (by show ¬ P1.fnd = 0; omega))); exact L75 H n hfr (by rw [hpp]; exact hTQ) (fun z => absurd z (by rw [hpp]; omega)) (by rw [heq2]; exact hV1) (by rw [heq2]; rfl))
      · skip
        have hnot : ¬ (P1.fnd = 0 ∧ P1.tok ≠ 0) := fun z => by have := z.2; omega
        have heq2 := heq
        rw [run_n hnot] at heq2
        have hDD := hDr (by omega)
        have en := hDD.1.1
        have hgb := hDD.2.2.2.2.1
        refine g_aload_n dX9_text_51 rfl rfl (g_aload_n dX9_text_52 rfl rfl (gf_X9_60 (M := mX9_text) rfl dX9_text_53 (yo150 hY) (g_aload_n dX9_text_56 rfl rfl (gf_X9_17 (M := mX9_text) rfl dX9_text_57 (yo150 hY) (yr150_3 hY) (g_iconst dX9_text_60 (g_iaN 0 dX9_text_61 (ya153 hY) ⟨by decide, by decide, by decide⟩ rfl ?_))))))
        refine g_icmp_ge 69 dX9_text_62 rfl (by omega) (by omega) (fun c62 => ?_) (fun c62 => ?_)
        · skip
          refine g_iconst dX9_text_69 (g_bipush dX9_text_70 kb6 ?_)
          refine cv_X9_113 (M := mX9_text) rfl dX9_text_72 (yo150 hY) (RO.same _ _ _) (Nat.le_of_ble_eq_true rfl) (e_X9_needs hY (by omega) (by omega) (by omega)) (kQV fun h72 hq72 => ?_)
          have t72 := hTQ.dem hq72 (by omega) (B' := H.I 150 7 < D1.nf) (by omega)
          rw [fi_dem (T := T) (by omega) (hend (by omega) (by omega)) hDD.2.2.2.2 hnf.1] at t72
          first
          | (have hpp : paP T len = fiS len D1.nv.toNat P1 D1 := (by unfold paP; rw [heq2]); exact L75 h72 n (hfr.tr hq72.1.d) (by rw [hpp]; exact t72) (fun _ => by rw [heq2]; exact hDD.fr hq72.1) (by rw [heq2]; exact hV1) (by rw [heq2]; rfl))
          | (have hnot : ¬ (P1.fnd = 0 ∧ P1.tok ≠ 0) := (fun z => by have := z.1; omega); have heq2 := heq; rw [run_n hnot] at heq2; have hpp : paP T len = P1 := (by unfold paP; rw [heq2]; exact cnd_f (fun z => absurd z.1 (by show ¬ P1.fnd = 0; omega))); exact L75 H n hfr (by rw [hpp]; exact hTQ) (fun z => absurd z (by rw [hpp]; omega)) (by rw [heq2]; exact hV1) (by rw [heq2]; rfl))
        · skip
          refine g_iconst dX9_text_65 (g_goto 70 dX9_text_66 rfl (g_bipush dX9_text_70 kb6 ?_))
          refine cv_X9_113 (M := mX9_text) rfl dX9_text_72 (yo150 hY) (RO.same _ _ _) (Nat.le_of_ble_eq_true rfl) (e_X9_needs hY (by omega) (by omega) (by omega)) (kQV fun h72 hq72 => ?_)
          have t72 := hTQ.dem hq72 (by omega) (B' := H.I 150 7 < D1.nf) (by omega)
          rw [fi_dem (T := T) (by omega) (hend (by omega) (by omega)) hDD.2.2.2.2 hnf.1] at t72
          first
          | (have hpp : paP T len = fiS len D1.nv.toNat P1 D1 := (by unfold paP; rw [heq2]); exact L75 h72 n (hfr.tr hq72.1.d) (by rw [hpp]; exact t72) (fun _ => by rw [heq2]; exact hDD.fr hq72.1) (by rw [heq2]; exact hV1) (by rw [heq2]; rfl))
          | (have hnot : ¬ (P1.fnd = 0 ∧ P1.tok ≠ 0) := (fun z => by have := z.1; omega); have heq2 := heq; rw [run_n hnot] at heq2; have hpp : paP T len = P1 := (by unfold paP; rw [heq2]; exact cnd_f (fun z => absurd z.1 (by show ¬ P1.fnd = 0; omega))); exact L75 H n hfr (by rw [hpp]; exact hTQ) (fun z => absurd z (by rw [hpp]; omega)) (by rw [heq2]; exact hV1) (by rw [heq2]; rfl))
    · skip
      refine g_aload_n dX9_text_27 rfl rfl (gf_X9_99 (M := mX9_text) rfl dX9_text_28 (yo150 hY) ?_)
      refine g_if_eq 44 dX9_text_31 rfl (by omega) (fun c31 => ?_) (fun c31 => ?_)
      · skip
        refine g_aload_n dX9_text_44 rfl rfl (gf_X9_75 (M := mX9_text) rfl dX9_text_45 (yo150 hY) ?_)
        refine g_if_ne 75 dX9_text_48 rfl (by omega) (fun c48 => ?_) (fun c48 => ?_)
        · skip
          first
          | (have hpp : paP T len = fiS len D1.nv.toNat P1 D1 := (by unfold paP; rw [heq2]); exact L75 h72 n (hfr.tr hq72.1.d) (by rw [hpp]; exact t72) (fun _ => by rw [heq2]; exact hDD.fr hq72.1) (by rw [heq2]; exact hV1) (by rw [heq2]; rfl))
          | (have hnot : ¬ (P1.fnd = 0 ∧ P1.tok ≠ 0) := (fun z => by have := z.1; omega); have heq2 := heq; rw [run_n hnot] at heq2; have hpp : paP T len = P1 := (by unfold paP; rw [heq2]; exact cnd_f (fun z => absurd z.1 (by show ¬ P1.fnd = 0; omega))); exact L75 H n hfr (by rw [hpp]; exact hTQ) (fun z => absurd z (by rw [hpp]; omega)) (by rw [heq2]; exact hV1) (by rw [heq2]; rfl))
        · skip
          have hnot : ¬ (P1.fnd = 0 ∧ P1.tok ≠ 0) := fun z => by have := z.2; omega
          have heq2 := heq
          rw [run_n hnot] at heq2
          have hDD := hDr (by omega)
          have en := hDD.1.1
          have hgb := hDD.2.2.2.2.1
          refine g_aload_n dX9_text_51 rfl rfl (g_aload_n dX9_text_52 rfl rfl (gf_X9_60 (M := mX9_text) rfl dX9_text_53 (yo150 hY) (g_aload_n dX9_text_56 rfl rfl (gf_X9_17 (M := mX9_text) rfl dX9_text_57 (yo150 hY) (yr150_3 hY) (g_iconst dX9_text_60 (g_iaN 0 dX9_text_61 (ya153 hY) ⟨by decide, by decide, by decide⟩ rfl ?_))))))
          refine g_icmp_ge 69 dX9_text_62 rfl (by omega) (by omega) (fun c62 => ?_) (fun c62 => ?_)
          · skip
            refine g_iconst dX9_text_69 (g_bipush dX9_text_70 kb6 ?_)
            refine cv_X9_113 (M := mX9_text) rfl dX9_text_72 (yo150 hY) (RO.same _ _ _) (Nat.le_of_ble_eq_true rfl) (e_X9_needs hY (by omega) (by omega) (by omega)) (kQV fun h72 hq72 => ?_)
            have t72 := hTQ.dem hq72 (by omega) (B' := H.I 150 7 < D1.nf) (by omega)
            rw [fi_dem (T := T) (by omega) (hend (by omega) (by omega)) hDD.2.2.2.2 hnf.1] at t72
            first
            | (have hpp : paP T len = fiS len D1.nv.toNat P1 D1 := (by unfold paP; rw [heq2]); exact L75 h72 n (hfr.tr hq72.1.d) (by rw [hpp]; exact t72) (fun _ => by rw [heq2]; exact hDD.fr hq72.1) (by rw [heq2]; exact hV1) (by rw [heq2]; rfl))
            | (have hnot : ¬ (P1.fnd = 0 ∧ P1.tok ≠ 0) := (fun z => by have := z.1; omega); have heq2 := heq; rw [run_n hnot] at heq2; have hpp : paP T len = P1 := (by unfold paP; rw [heq2]; exact cnd_f (fun z => absurd z.1 (by show ¬ P1.fnd = 0; omega))); exact L75 H n hfr (by rw [hpp]; exact hTQ) (fun z => absurd z (by rw [hpp]; omega)) (by rw [heq2]; exact hV1) (by rw [heq2]; rfl))
          · skip
            refine g_iconst dX9_text_65 (g_goto 70 dX9_text_66 rfl (g_bipush dX9_text_70 kb6 ?_))
            refine cv_X9_113 (M := mX9_text) rfl dX9_text_72 (yo150 hY) (RO.same _ _ _) (Nat.le_of_ble_eq_true rfl) (e_X9_needs hY (by omega) (by omega) (by omega)) (kQV fun h72 hq72 => ?_)
            have t72 := hTQ.dem hq72 (by omega) (B' := H.I 150 7 < D1.nf) (by omega)
            rw [fi_dem (T := T) (by omega) (hend (by omega) (by omega)) hDD.2.2.2.2 hnf.1] at t72
            first
            | (have hpp : paP T len = fiS len D1.nv.toNat P1 D1 := (by unfold paP; rw [heq2]); exact L75 h72 n (hfr.tr hq72.1.d) (by rw [hpp]; exact t72) (fun _ => by rw [heq2]; exact hDD.fr hq72.1) (by rw [heq2]; exact hV1) (by rw [heq2]; rfl))
            | (have hnot : ¬ (P1.fnd = 0 ∧ P1.tok ≠ 0) := (fun z => by have := z.1; omega); have heq2 := heq; rw [run_n hnot] at heq2; have hpp : paP T len = P1 := (by unfold paP; rw [heq2]; exact cnd_f (fun z => absurd z.1 (by show ¬ P1.fnd = 0; omega))); exact L75 H n hfr (by rw [hpp]; exact hTQ) (fun z => absurd z (by rw [hpp]; omega)) (by rw [heq2]; exact hV1) (by rw [heq2]; rfl))
      · skip
        have hnn := hpr (by omega) (by omega)
        have hmo := liS_M (D := D1) hTQ.2.2.1
        refine g_aload_n dX9_text_34 rfl rfl ?_
        refine cv_X9_140 (M := mX9_text) rfl dX9_text_35 (yo150 hY) (RO.same _ _ _) (Nat.le_of_ble_eq_true rfl) (e_X9_readLine hY hTQ (by omega) (hDr (by omega)) hV1) (kQV fun h35 hq35 => ?_)
        refine g_inc1 dX9_text_38 (by decide) rfl (g_goto 20 dX9_text_41 rfl ?_)
        have hv2 := liS_V hTQ.2.2.1 hV1
        exact ih (m - 1) (by omega) h35 _ (liS T len P1 D1).2 (n + 1) (by omega) (by omega) hq35.2.1 (hfr.tr hq35.1) (fun z => hq35.2.2 (advS_0 z)) hv2 (fun z1 z2 => by have w := adv_go hmo.1 (advS_0 z1); have := w.2.2.1 z2; have := hmo.2.1; push_cast; omega) (fun z1 z2 => (adv_go hmo.1 (advS_0 z1)).2.2.2 z2 |>.1) (by rw [heq, show 401 - n = (401 - (n + 1)) + 1 by omega, run_s ⟨by omega, by omega⟩]; congr 1; omega)
  refine g_iconst dX9_text_0 (g_ist1 dX9_text_1 (by decide) rfl (g_aload_n dX9_text_2 rfl rfl (g_iconst dX9_text_3 (pf_X9_75 (M := mX9_text) rfl dX9_text_4 (yo150 hY) (g_aload_n dX9_text_7 rfl rfl (g_iconst dX9_text_8 (pf_X9_84 (M := mX9_text) rfl dX9_text_9 (yo150 hY) (g_aload_n dX9_text_12 rfl rfl ?_))))))))
  refine cv_X9_43 (M := mX9_text) rfl dX9_text_13 (yo150 hY) (RO.same _ _ _) (Nat.le_of_ble_eq_true rfl) (e_X9_firstDraft hY) (kQV fun h13 hq13 => ?_)
  have hT0 := tx_0 (h := h) (T := T) (len := len) hT hq13.1
  refine g_aload_n dX9_text_16 rfl rfl ?_
  refine cv_X9_121 (M := mX9_text) rfl dX9_text_17 (yo150 hY) (RO.same _ _ _) (Nat.le_of_ble_eq_true rfl) (e_next hY (P := P0) hT0.1 hT0.2 ⟨⟨Int.le_refl _, hln.1⟩, ⟨Int.le_refl _, by show (0 : Int) ≤ 6; decide⟩, hln.2⟩ (P0_B hln.1).adv (fun z => absurd rfl z)) (kQV fun h17 hq17 => ?_)
  have w := adv_go (P0_B (T := T) hln.1) rfl
  refine L20 401 h17 _ D0 0 (by omega) (by omega) hq17.2 (tx_1 hq13.1 hq17.1) (fun _ => hq13.2.fr hq17.1) D0_V (fun z1 z2 => by have := w.2.2.1 z2; have e : P0.ten = 0 := rfl; omega) (fun z1 z2 => (w.2.2.2 z2).1) ?_
  unfold pa0
  simp
