section
variable {G : GX} {M : MI} {R : Room} {Z : ZT} {y : LY} {pc : Nat} {ls : List (Option Value)} {st : List Value} {h : HM} {cs : Nat × Nat}
theorem cc_X3_167 (hM : M.1.cls = RX3) (hd : decode M.2.1 pc = .ok (.invokevirtual 167, 3)) {a : Nat} (ho : IsO y a 6) {x0 : Int} {x1 : Int} {d mc ms : Nat} {y1 : LY} {Q : Option Value → HM → Prop} (hR : RO R d mc ms cs) (hst : (st.map fun v => v.category).sum ≤ 8) (hE : Ev G mX6_isSign d mc ms [.ref a, .int (iZ x0), .int (iZ x1)] y h y1 Q) (kk : ∀ (r : Option Value) (h1 : HM), Q r h1 → Go G M R Z y1 (pc + 3) ls (r.toList ++ st) h1 (cs.1 + mc, cs.2 + ms)) : Go G M R Z y pc ls (.int (iZ x1) :: .int (iZ x0) :: .ref a :: st) h cs := g_callV (M1 := mX6_isSign) (As := [.int (iZ x0), .int (iZ x1)]) hM rfl (by decide) rfl cw_X6_isSign (w354) (w355) (w356) (w2) (w357) hd ho hR hst hE kk
end
section
variable {G : GX} {y : LY} {h : HM} {d : Nat} {T : Nat → Int} {len p : Int}
theorem e_ltT (hY : Lay y) (hT : TP h T len) (hp : 0 ≤ p ∧ p ≤ 400) : EvI G mX6_isLetter d [.ref 10, .int (iZ p)] y h (pI (LtC T len p)) := by
  have q := e_X6_isLetter (G := G) (d := d) hY hp (by rw [hT.2.1]; exact hT.2.2.1) (fun j hj => by rw [hT.2.1] at hj; rw [hT.1]; exact hT.2.2.2 j hj)
  rw [hT.1, hT.2.1] at q; exact q
theorem e_dgT (hY : Lay y) (hT : TP h T len) (hp : 0 ≤ p ∧ p ≤ 400) : EvI G mX6_isDigit d [.ref 10, .int (iZ p)] y h (pI (DgC T len p)) := by
  have q := e_X6_isDigit (G := G) (d := d) hY hp (by rw [hT.2.1]; exact hT.2.2.1) (fun j hj => by rw [hT.2.1] at hj; rw [hT.1]; exact hT.2.2.2 j hj)
  rw [hT.1, hT.2.1] at q; exact q
theorem e_sgT (hY : Lay y) (hT : TP h T len) {c : Int} (hp : 0 ≤ p ∧ p ≤ 400) (hc : 0 ≤ c ∧ c ≤ 255) : EvI G mX6_isSign d [.ref 10, .int (iZ p), .int (iZ c)] y h (pI (p < len ∧ T p.toNat = c)) := by
  have q := e_X6_isSign (G := G) (d := d) hY hp hc (by rw [hT.2.1]; exact hT.2.2.1) (fun j hj => by rw [hT.2.1] at hj; rw [hT.1]; exact hT.2.2.2 j hj)
  rw [hT.1, hT.2.1] at q; exact q
end
theorem ref_dem {B : Prop} {c : Int} {P : PS} (h : ¬ B) : refS c P.tat P = demS B c P := cnd_congr ⟨fun z => Or.inr z, fun z => z.resolve_left h⟩
theorem adv_w {h : HM} {u : Nat} {q tk e : Int} (h7 : h.I u 7 = 0) : rdP (((h.sI u 3 q).sI u 2 tk).sI u 4 e) u = (tk, q, e, 0, 0) := by
  simp [HM.I] at h7
  simp [rdP, HM.sI, HM.I, up2, h7]
theorem adv_x {h : HM} {u : Nat} {q tk : Int} (h7 : h.I u 7 = 0) : rdP ((h.sI u 3 q).sI u 2 tk) u = (tk, q, h.I u 4, 0, 0) := by
  simp [HM.I] at h7
  simp [rdP, HM.sI, HM.I, up2, h7]
theorem rdP_4 (h : HM) (u : Nat) (e : Int) : rdP (h.sI u 4 e) u = ((rdP h u).tok, (rdP h u).tat, e, (rdP h u).fnd, (rdP h u).fat) := by
  simp [rdP, HM.sI, HM.I, up2, PS.tok, PS.tat, PS.fnd, PS.fat]
  rfl
theorem adv_d {H h1 : HM} {u : Nat} {tk q x e : Int} {B B' : Prop} (hH : rdP H u = (tk, q, x, 0, 0)) (hq : rdP h1 u = demS B 1 (rdP H u)) (hB : B ↔ B') : rdP (h1.sI u 4 e) u = demS B' 1 (tk, q, e, 0, 0) := by
  rw [rdP_4, hq, hH, demS_cg hB]
  by_cases z : B'
  · rw [demS_t z, demS_t z]; rfl
  · rw [demS_f z rfl, demS_f z rfl]; rfl
theorem advA_0 {T : Nat → Int} {len a : Int} (h : ¬ a < len) : advA T len a = (0, a, a, 0, 0) := cnd_t h
theorem advA_1 {T : Nat → Int} {len a : Int} (h : LtC T len a) : advA T len a = (1, a, sk (LtC T len) len a, 0, 0) := by
  unfold advA; rw [cnd_f (fun z => z h.1), cnd_t h]
theorem advA_2 {T : Nat → Int} {len a : Int} (h1 : ¬ LtC T len a) (h : DgC T len a) : advA T len a = demS (sk (DgC T len) len a - a ≤ 3) 1 (2, a, sk (DgC T len) len a, 0, 0) := by
  unfold advA; rw [cnd_f (fun z => z h.1), cnd_f h1, cnd_t h]
theorem advA_3 {T : Nat → Int} {len a : Int} (h0 : a < len) (h1 : ¬ LtC T len a) (h : ¬ DgC T len a) : advA T len a = demS (T a.toNat = 59) 1 (3, a, a + 1, 0, 0) := by
  unfold advA; rw [cnd_f (fun z => z h0), cnd_f h1, cnd_f h]
theorem adv_e {T : Nat → Int} {len : Int} {P : PS} (h : P.fnd = 0) : advS T len P = advA T len (sk (BlC T len) len P.ten) := cnd_f (fun z => z h)
theorem ckS_0 {T : Nat → Int} {lo hi : Int} {P : PS} (h : (demS (P.tok = 2) 2 P).fnd ≠ 0) : ckS T lo hi P = (demS (P.tok = 2) 2 P, 0) := cnd_t h
theorem ckS_1 {T : Nat → Int} {lo hi : Int} {P : PS} (h : (demS (P.tok = 2) 2 P).fnd = 0) : P.fnd = 0 ∧ P.tok = 2 ∧ demS (P.tok = 2) 2 P = P ∧ ckS T lo hi P = (demS (lo ≤ nuV T (P.ten - P.tat).toNat P.tat ∧ nuV T (P.ten - P.tat).toNat P.tat ≤ hi) 3 P, nuV T (P.ten - P.tat).toNat P.tat) := by
  have c0 : P.fnd = 0 := Decidable.byContradiction fun z => by rw [demS_n z] at h; exact z h
  have c1 : P.tok = 2 := Decidable.byContradiction fun z => by rw [demS_f z c0] at h; exact absurd h (by show ¬ (2 : Int) = 0; decide)
  refine ⟨c0, c1, demS_t c1, ?_⟩
  unfold ckS
  rw [cnd_f (fun z => z h), demS_t c1]
set_option maxRecDepth 100000 in
set_option maxHeartbeats 1000000 in
theorem e_X3_refuse {G : GX} {y : LY} {h : HM} {d : Nat} (hY : Lay y) {u : Nat} (ho : IsO y u 3) (hRt : y.R u 0 = some 10) (hRd : y.R u 1 = some 40) (hr : 161 ≤ u) {c t : Int} (hc : 0 < c ∧ c ≤ 6) (hf : 0 ≤ h.I u 7 ∧ h.I u 7 ≤ 6) : EvQV G mX3_refuse (d) [.ref u, .int (iZ c), .int (iZ t)] y h (fun h1 => FrP u h h1 ∧ rdP h1 u = refS c t (rdP h u)) := by
  refine Ev.of rfl [some (.ref u), some (.int (iZ c)), some (.int (iZ t))] rfl (Nat.le_of_ble_eq_true rfl) ?_
  refine g_aload_n dX3_refuse_0 rfl rfl (gf_X3_28 (M := mX3_refuse) rfl dX3_refuse_1 ho ?_)
  refine g_if_ne 17 dX3_refuse_4 rfl (by omega) (fun c4 => ?_) (fun c4 => ?_)
  · skip
    exact g_vret dX3_refuse_17 rfl rfl ⟨Nat.le_refl _, Nat.le_refl _⟩ (by first | exact ⟨rfl, FrP.rf _ _, (cnd_t c4).symm⟩ | exact ⟨rfl, ((FrP.rf u h).s (by omega) _).s (by omega) _, ref_ok c4 (by omega)⟩)
  · skip
    refine g_aload_n dX3_refuse_7 rfl rfl (g_iload_n dX3_refuse_8 rfl rfl (pf_X3_28 (M := mX3_refuse) rfl dX3_refuse_9 ho (g_aload_n dX3_refuse_12 rfl rfl (g_iload_n dX3_refuse_13 rfl rfl (pf_X3_31 (M := mX3_refuse) rfl dX3_refuse_14 ho ?_)))))
    exact g_vret dX3_refuse_17 rfl rfl ⟨Nat.le_refl _, Nat.le_refl _⟩ (by first | exact ⟨rfl, FrP.rf _ _, (cnd_t c4).symm⟩ | exact ⟨rfl, ((FrP.rf u h).s (by omega) _).s (by omega) _, ref_ok c4 (by omega)⟩)
set_option maxRecDepth 100000 in
set_option maxHeartbeats 1000000 in
theorem e_X3_demand {G : GX} {y : LY} {h : HM} {d : Nat} (hY : Lay y) {u : Nat} (ho : IsO y u 3) (hRt : y.R u 0 = some 10) (hRd : y.R u 1 = some 40) (hr : 161 ≤ u) {b c : Int} (hb : b = 0 ∨ b = 1) (hc : 0 < c ∧ c ≤ 6) (hf : 0 ≤ h.I u 7 ∧ h.I u 7 ≤ 6) : EvQV G mX3_demand (d + 1) [.ref u, .int (iZ b), .int (iZ c)] y h (fun h1 => FrP u h h1 ∧ rdP h1 u = demS (b = 1) c (rdP h u)) := by
  refine Ev.of rfl [some (.ref u), some (.int (iZ b)), some (.int (iZ c))] rfl (Nat.le_of_ble_eq_true rfl) ?_
  refine g_iload_n dX3_demand_0 rfl rfl ?_
  refine g_if_ne 13 dX3_demand_1 rfl (by omega) (fun c1 => ?_) (fun c1 => ?_)
  · skip
    exact g_vret dX3_demand_13 rfl rfl ⟨Nat.le_refl _, Nat.le_refl _⟩ (by first | exact ⟨rfl, FrP.rf _ _, (demS_t (by omega)).symm⟩ | exact ⟨rfl, hq10.1, by rw [hq10.2]; exact ref_dem (P := rdP h u) (by omega)⟩)
  · skip
    refine g_aload_n dX3_demand_4 rfl rfl (g_iload_n dX3_demand_5 rfl rfl (g_aload_n dX3_demand_6 rfl rfl (gf_X3_15 (M := mX3_demand) rfl dX3_demand_7 ho ?_)))
    refine cv_X3_73 (M := mX3_demand) rfl dX3_demand_10 ho (RO.same _ _ _) (Nat.le_of_ble_eq_true rfl) (e_X3_refuse hY ho hRt hRd hr hc hf) (kQV fun h10 hq10 => ?_)
    exact g_vret dX3_demand_13 rfl rfl ⟨Nat.le_refl _, Nat.le_refl _⟩ (by first | exact ⟨rfl, FrP.rf _ _, (demS_t (by omega)).symm⟩ | exact ⟨rfl, hq10.1, by rw [hq10.2]; exact ref_dem (P := rdP h u) (by omega)⟩)
set_option maxRecDepth 100000 in
set_option maxHeartbeats 1000000 in
theorem e_X3_advance {G : GX} {y : LY} {h : HM} {d : Nat} (hY : Lay y) {u : Nat} (ho : IsO y u 3) (hRt : y.R u 0 = some 10) (hRd : y.R u 1 = some 40) (hr : 161 ≤ u) {T : Nat → Int} {len : Int} {P : PS} (hS : TS h u T len P) : EvQV G mX3_advance (d + 2) [.ref u] y h (fun h1 => FrP u h h1 ∧ TS h1 u T len (advS T len P)) := by
  have hf := hS.f
  have hTP := hS.1
  have hPB := hS.2.2
  have hln := hTP.2.2.1
  have hl10 := hTP.2.1
  obtain ⟨pb1, pb2, pb3, pb4, pb5, pb6⟩ := id hPB
  refine Ev.of rfl [some (.ref u), none] rfl (Nat.le_of_ble_eq_true rfl) ?_
  have F201 : ∀ (H : HM) (e : Int), TP H T len → FrP u h H → rdP (H.sI u 4 e) u = advS T len P → Go G mX3_advance (rmo (d + 2) 0 0) (ZM G y 0 0 (fun r h1 => r = none ∧ (fun h1 => FrP u h h1 ∧ TS h1 u T len (advS T len P)) h1)) y 201 [some (.ref u), some (.int (iZ e))] [] H (0, 0) := by
    intro H e hTH hFr heq
    refine g_aload_n dX3_advance_201 rfl rfl (g_iload_n dX3_advance_202 rfl rfl (pf_X3_18 (M := mX3_advance) rfl dX3_advance_203 ho ?_))
    exact g_vret dX3_advance_206 rfl rfl ⟨Nat.le_refl _, Nat.le_refl _⟩ (by exact ⟨rfl, hFr.s (by omega) _, hTH.s hr 4 e, heq, hPB.adv⟩)
  have A43 : ∀ (q : Int), q = sk (BlC T len) len P.ten → 0 ≤ q ∧ q ≤ len → P.fnd = 0 → Go G mX3_advance (rmo (d + 2) 0 0) (ZM G y 0 0 (fun r h1 => r = none ∧ (fun h1 => FrP u h h1 ∧ TS h1 u T len (advS T len P)) h1)) y 43 [some (.ref u), some (.int (iZ q))] [] h (0, 0) := by
    intro q hq hqb h0
    have h70 : h.I u 7 = 0 := by omega
    have hae : advS T len P = advA T len q := by rw [hq]; exact adv_e h0
    have hT3 := hTP.s hr 3 q
    have hl3 := hT3.2.1
    have hF3 := (FrP.rf u h).s (j := 3) (by omega) q
    have hT0 := hT3.s hr 2 0
    have hT1 := hT3.s hr 2 1
    have hT2 := hT3.s hr 2 2
    have hTt := hT3.s hr 2 3
    have hl0 := hT0.2.1
    have hl1 := hT1.2.1
    have hl2 := hT2.2.1
    have hlt := hTt.2.1
    have h72 : ((h.sI u 3 q).sI u 2 2).I u 7 = 0 := by rw [sI_I, if_neg (by omega), sI_I, if_neg (by omega)]; exact h70
    have h7t : ((h.sI u 3 q).sI u 2 3).I u 7 = 0 := by rw [sI_I, if_neg (by omega), sI_I, if_neg (by omega)]; exact h70
    have h32 : ((h.sI u 3 q).sI u 2 2).I u 3 = q := by rw [sI_I, if_neg (by omega), sI_I, if_pos (by omega)]
    have hpL := pI_01 (LtC T len q)
    have heL := pI_eq1 (P := LtC T len q)
    have hpD := pI_01 (DgC T len q)
    have heD := pI_eq1 (P := DgC T len q)
    have hpS := pI_01 (q < len ∧ T q.toNat = 59)
    have heS := pI_eq1 (P := q < len ∧ T q.toNat = 59)
    have L83 : ∀ (m : Nat) (p : Int), m = (len - p).toNat → q ≤ p ∧ p ≤ len → LtC T len q → sk (LtC T len) len q = sk (LtC T len) len p → Go G mX3_advance (rmo (d + 2) 0 0) (ZM G y 0 0 (fun r h1 => r = none ∧ (fun h1 => FrP u h h1 ∧ TS h1 u T len (advS T len P)) h1)) y 83 [some (.ref u), some (.int (iZ p))] [] ((h.sI u 3 q).sI u 2 1) (0, 0) := by
      intro m
      induction m using Nat.strongRecOn with | _ m ih =>
      intro p hm hp hL hsk
      have hpp := pI_01 (LtC T len p)
      have hpe := pI_eq1 (P := LtC T len p)
      refine g_iload_n dX3_advance_83 rfl rfl (g_aload_n dX3_advance_84 rfl rfl (gf_X3_34 (M := mX3_advance) rfl dX3_advance_85 ho hRt (gf_X3_68 (M := mX3_advance) rfl dX3_advance_88 (yo10 hY) ?_)))
      refine g_icmp_ge 201 dX3_advance_91 rfl (by omega) (by omega) (fun c91 => ?_) (fun c91 => ?_)
      · skip
        refine F201 _ p hT1 (hF3.s (by omega) 1) ((adv_w h70).trans ?_)
        rw [hae, advA_1 hL, hsk, sk_f (fun z => by have z1 := z.1; have z2 := hpe.mpr z; omega)]
      · skip
        refine g_aload_n dX3_advance_94 rfl rfl (gf_X3_34 (M := mX3_advance) rfl dX3_advance_95 ho hRt (g_iload_n dX3_advance_98 rfl rfl (cv_X3_171 (M := mX3_advance) rfl dX3_advance_99 (yo10 hY) (RO.same _ _ _) (Nat.le_of_ble_eq_true rfl) (e_ltT hY hT1 (by omega)) <| kI ?_)))
        refine g_if_eq 201 dX3_advance_102 rfl (by omega) (fun c102 => ?_) (fun c102 => ?_)
        · skip
          refine F201 _ p hT1 (hF3.s (by omega) 1) ((adv_w h70).trans ?_)
          rw [hae, advA_1 hL, hsk, sk_f (fun z => by have z1 := z.1; have z2 := hpe.mpr z; omega)]
        · skip
          refine g_inc1 dX3_advance_105 (by decide) rfl (g_goto 83 dX3_advance_108 rfl ?_)
          exact ih _ (by omega) (p + 1) rfl (by omega) hL (hsk.trans (sk_t (hpe.mp (by omega)) (by omega)))
    have L127 : ∀ (m : Nat) (p : Int), m = (len - p).toNat → q ≤ p ∧ p ≤ len → ¬ LtC T len q → DgC T len q → sk (DgC T len) len q = sk (DgC T len) len p → Go G mX3_advance (rmo (d + 2) 0 0) (ZM G y 0 0 (fun r h1 => r = none ∧ (fun h1 => FrP u h h1 ∧ TS h1 u T len (advS T len P)) h1)) y 127 [some (.ref u), some (.int (iZ p))] [] ((h.sI u 3 q).sI u 2 2) (0, 0) := by
      intro m
      induction m using Nat.strongRecOn with | _ m ih =>
      intro p hm hp hL hD hsk
      have hpp := pI_01 (DgC T len p)
      have hpe := pI_eq1 (P := DgC T len p)
      refine g_iload_n dX3_advance_127 rfl rfl (g_aload_n dX3_advance_128 rfl rfl (gf_X3_34 (M := mX3_advance) rfl dX3_advance_129 ho hRt (gf_X3_68 (M := mX3_advance) rfl dX3_advance_132 (yo10 hY) ?_)))
      refine g_icmp_ge 155 dX3_advance_135 rfl (by omega) (by omega) (fun c135 => ?_) (fun c135 => ?_)
      · skip
        refine g_aload_n dX3_advance_155 rfl rfl (g_iload_n dX3_advance_156 rfl rfl (g_aload_n dX3_advance_157 rfl rfl (gf_X3_15 (M := mX3_advance) rfl dX3_advance_158 ho (g_isub dX3_advance_161 (g_iconst dX3_advance_162 ?_)))))
        refine g_icmp_gt 170 dX3_advance_163 rfl (by omega) (by omega) (fun c163 => ?_) (fun c163 => ?_)
        · skip
          refine g_iconst dX3_advance_170 (g_iconst dX3_advance_171 ?_)
          refine cv_X3_101 (M := mX3_advance) rfl dX3_advance_172 ho (RO.same _ _ _) (Nat.le_of_ble_eq_true rfl) (e_X3_demand hY ho hRt hRd hr (by omega) (by omega) (by omega)) (kQV fun h172 hq172 => ?_)
          refine g_goto 201 dX3_advance_175 rfl ?_
          refine F201 _ p (hT2.fr hr hq172.1) ((hF3.s (by omega) 2).tr hq172.1) ?_
          rw [hae, advA_2 hL hD, hsk, sk_f (fun z => by have z1 := z.1; have z2 := hpe.mpr z; omega)]
          exact adv_d (adv_x h70) hq172.2 (by omega)
        · skip
          refine g_iconst dX3_advance_166 (g_goto 171 dX3_advance_167 rfl (g_iconst dX3_advance_171 ?_))
          refine cv_X3_101 (M := mX3_advance) rfl dX3_advance_172 ho (RO.same _ _ _) (Nat.le_of_ble_eq_true rfl) (e_X3_demand hY ho hRt hRd hr (by omega) (by omega) (by omega)) (kQV fun h172 hq172 => ?_)
          refine g_goto 201 dX3_advance_175 rfl ?_
          refine F201 _ p (hT2.fr hr hq172.1) ((hF3.s (by omega) 2).tr hq172.1) ?_
          rw [hae, advA_2 hL hD, hsk, sk_f (fun z => by have z1 := z.1; have z2 := hpe.mpr z; omega)]
          exact adv_d (adv_x h70) hq172.2 (by omega)
      · skip
        refine g_aload_n dX3_advance_138 rfl rfl (gf_X3_34 (M := mX3_advance) rfl dX3_advance_139 ho hRt (g_iload_n dX3_advance_142 rfl rfl (cv_X3_175 (M := mX3_advance) rfl dX3_advance_143 (yo10 hY) (RO.same _ _ _) (Nat.le_of_ble_eq_true rfl) (e_dgT hY hT2 (by omega)) <| kI ?_)))
        refine g_if_eq 155 dX3_advance_146 rfl (by omega) (fun c146 => ?_) (fun c146 => ?_)
        · skip
          refine g_aload_n dX3_advance_155 rfl rfl (g_iload_n dX3_advance_156 rfl rfl (g_aload_n dX3_advance_157 rfl rfl (gf_X3_15 (M := mX3_advance) rfl dX3_advance_158 ho (g_isub dX3_advance_161 (g_iconst dX3_advance_162 ?_)))))
          refine g_icmp_gt 170 dX3_advance_163 rfl (by omega) (by omega) (fun c163 => ?_) (fun c163 => ?_)
          · skip
            refine g_iconst dX3_advance_170 (g_iconst dX3_advance_171 ?_)
            refine cv_X3_101 (M := mX3_advance) rfl dX3_advance_172 ho (RO.same _ _ _) (Nat.le_of_ble_eq_true rfl) (e_X3_demand hY ho hRt hRd hr (by omega) (by omega) (by omega)) (kQV fun h172 hq172 => ?_)
            refine g_goto 201 dX3_advance_175 rfl ?_
            refine F201 _ p (hT2.fr hr hq172.1) ((hF3.s (by omega) 2).tr hq172.1) ?_
            rw [hae, advA_2 hL hD, hsk, sk_f (fun z => by have z1 := z.1; have z2 := hpe.mpr z; omega)]
            exact adv_d (adv_x h70) hq172.2 (by omega)
          · skip
            refine g_iconst dX3_advance_166 (g_goto 171 dX3_advance_167 rfl (g_iconst dX3_advance_171 ?_))
            refine cv_X3_101 (M := mX3_advance) rfl dX3_advance_172 ho (RO.same _ _ _) (Nat.le_of_ble_eq_true rfl) (e_X3_demand hY ho hRt hRd hr (by omega) (by omega) (by omega)) (kQV fun h172 hq172 => ?_)
            refine g_goto 201 dX3_advance_175 rfl ?_
            refine F201 _ p (hT2.fr hr hq172.1) ((hF3.s (by omega) 2).tr hq172.1) ?_
            rw [hae, advA_2 hL hD, hsk, sk_f (fun z => by have z1 := z.1; have z2 := hpe.mpr z; omega)]
            exact adv_d (adv_x h70) hq172.2 (by omega)
        · skip
          refine g_inc1 dX3_advance_149 (by decide) rfl (g_goto 127 dX3_advance_152 rfl ?_)
          exact ih _ (by omega) (p + 1) rfl (by omega) hL hD (hsk.trans (sk_t (hpe.mp (by omega)) (by omega)))
    refine g_aload_n dX3_advance_43 rfl rfl (g_iload_n dX3_advance_44 rfl rfl (pf_X3_15 (M := mX3_advance) rfl dX3_advance_45 ho (g_iload_n dX3_advance_48 rfl rfl (g_aload_n dX3_advance_49 rfl rfl (gf_X3_34 (M := mX3_advance) rfl dX3_advance_50 ho hRt (gf_X3_68 (M := mX3_advance) rfl dX3_advance_53 (yo10 hY) ?_))))))
    refine g_icmp_lt 67 dX3_advance_56 rfl (by omega) (by omega) (fun c56 => ?_) (fun c56 => ?_)
    · skip
      refine g_aload_n dX3_advance_67 rfl rfl (gf_X3_34 (M := mX3_advance) rfl dX3_advance_68 ho hRt (g_iload_n dX3_advance_71 rfl rfl (cv_X3_171 (M := mX3_advance) rfl dX3_advance_72 (yo10 hY) (RO.same _ _ _) (Nat.le_of_ble_eq_true rfl) (e_ltT hY hT3 (by omega)) <| kI ?_)))
      refine g_if_eq 111 dX3_advance_75 rfl (by omega) (fun c75 => ?_) (fun c75 => ?_)
      · skip
        refine g_aload_n dX3_advance_111 rfl rfl (gf_X3_34 (M := mX3_advance) rfl dX3_advance_112 ho hRt (g_iload_n dX3_advance_115 rfl rfl (cv_X3_175 (M := mX3_advance) rfl dX3_advance_116 (yo10 hY) (RO.same _ _ _) (Nat.le_of_ble_eq_true rfl) (e_dgT hY hT3 (by omega)) <| kI ?_)))
        refine g_if_eq 178 dX3_advance_119 rfl (by omega) (fun c119 => ?_) (fun c119 => ?_)
        · skip
          refine g_aload_n dX3_advance_178 rfl rfl (g_iconst dX3_advance_179 (pf_X3_11 (M := mX3_advance) rfl dX3_advance_180 ho (g_aload_n dX3_advance_183 rfl rfl (g_aload_n dX3_advance_184 rfl rfl (gf_X3_34 (M := mX3_advance) rfl dX3_advance_185 ho hRt (g_iload_n dX3_advance_188 rfl rfl (g_bipush dX3_advance_189 kb59 (cc_X3_167 (M := mX3_advance) rfl dX3_advance_191 (yo10 hY) (RO.same _ _ _) (Nat.le_of_ble_eq_true rfl) (e_sgT hY hTt (by omega) (by omega)) <| kI (g_iconst dX3_advance_194 ?_)))))))))
          refine cv_X3_101 (M := mX3_advance) rfl dX3_advance_195 ho (RO.same _ _ _) (Nat.le_of_ble_eq_true rfl) (e_X3_demand hY ho hRt hRd hr (by omega) (by omega) (by omega)) (kQV fun h195 hq195 => ?_)
          refine g_inc1 dX3_advance_198 (by decide) rfl ?_
          first
          | (refine F201 _ q hT0 (hF3.s (by omega) 0) ((adv_w h70).trans ?_); rw [hae, advA_0 (by omega)]; done)
          | (refine F201 _ (q + 1) (hTt.fr hr hq195.1) ((hF3.s (by omega) 3).tr hq195.1) ?_; rw [hae, advA_3 (by omega) (fun z => by have := heL.mpr z; omega) (fun z => by have := heD.mpr z; omega)]; exact adv_d (adv_x h70) hq195.2 (heS.trans ⟨fun z => z.2, fun z => ⟨by omega, z⟩⟩))
        · skip
          refine g_aload_n dX3_advance_122 rfl rfl (g_iconst dX3_advance_123 (pf_X3_11 (M := mX3_advance) rfl dX3_advance_124 ho ?_))
          exact L127 _ q rfl (by omega) (fun z => by have := heL.mpr z; omega) (heD.mp (by omega)) rfl
      · skip
        refine g_aload_n dX3_advance_78 rfl rfl (g_iconst dX3_advance_79 (pf_X3_11 (M := mX3_advance) rfl dX3_advance_80 ho ?_))
        exact L83 _ q rfl (by omega) (heL.mp (by omega)) rfl
    · skip
      refine g_aload_n dX3_advance_59 rfl rfl (g_iconst dX3_advance_60 (pf_X3_11 (M := mX3_advance) rfl dX3_advance_61 ho (g_goto 201 dX3_advance_64 rfl ?_)))
      first
      | (refine F201 _ q hT0 (hF3.s (by omega) 0) ((adv_w h70).trans ?_); rw [hae, advA_0 (by omega)]; done)
      | (refine F201 _ (q + 1) (hTt.fr hr hq195.1) ((hF3.s (by omega) 3).tr hq195.1) ?_; rw [hae, advA_3 (by omega) (fun z => by have := heL.mpr z; omega) (fun z => by have := heD.mpr z; omega)]; exact adv_d (adv_x h70) hq195.2 (heS.trans ⟨fun z => z.2, fun z => ⟨by omega, z⟩⟩))
  have L13 : ∀ (m : Nat) (p : Int), m = (len - p).toNat → 0 ≤ p ∧ p ≤ len → P.fnd = 0 → sk (BlC T len) len P.ten = sk (BlC T len) len p → Go G mX3_advance (rmo (d + 2) 0 0) (ZM G y 0 0 (fun r h1 => r = none ∧ (fun h1 => FrP u h h1 ∧ TS h1 u T len (advS T len P)) h1)) y 13 [some (.ref u), some (.int (iZ p))] [] h (0, 0) := by
    intro m
    induction m using Nat.strongRecOn with | _ m ih =>
    intro p hm hp h0 hsk
    have hpp := pI_01 (p < len ∧ T p.toNat = 32)
    have hpe := pI_eq1 (P := p < len ∧ T p.toNat = 32)
    refine g_iload_n dX3_advance_13 rfl rfl (g_aload_n dX3_advance_14 rfl rfl (gf_X3_34 (M := mX3_advance) rfl dX3_advance_15 ho hRt (gf_X3_68 (M := mX3_advance) rfl dX3_advance_18 (yo10 hY) ?_)))
    refine g_icmp_ge 43 dX3_advance_21 rfl (by omega) (by omega) (fun c21 => ?_) (fun c21 => ?_)
    · skip
      exact A43 p (by rw [hsk, sk_f (fun z => by have z1 := z.1; have z2 := hpe.mpr z; omega)]) (by omega) h0
    · skip
      refine g_aload_n dX3_advance_24 rfl rfl (gf_X3_34 (M := mX3_advance) rfl dX3_advance_25 ho hRt (g_iload_n dX3_advance_28 rfl rfl (g_bipush dX3_advance_29 kb32 (cc_X3_167 (M := mX3_advance) rfl dX3_advance_31 (yo10 hY) (RO.same _ _ _) (Nat.le_of_ble_eq_true rfl) (e_sgT hY hTP (by omega) (by omega)) <| kI ?_))))
      refine g_if_eq 43 dX3_advance_34 rfl (by omega) (fun c34 => ?_) (fun c34 => ?_)
      · skip
        exact A43 p (by rw [hsk, sk_f (fun z => by have z1 := z.1; have z2 := hpe.mpr z; omega)]) (by omega) h0
      · skip
        refine g_inc1 dX3_advance_37 (by decide) rfl (g_goto 13 dX3_advance_40 rfl ?_)
        exact ih _ (by omega) (p + 1) rfl (by omega) h0 (hsk.trans (sk_t (hpe.mp (by omega)) (by omega)))
  refine g_aload_n dX3_advance_0 rfl rfl (gf_X3_28 (M := mX3_advance) rfl dX3_advance_1 ho ?_)
  refine g_if_eq 8 dX3_advance_4 rfl (by omega) (fun c4 => ?_) (fun c4 => ?_)
  · skip
    refine g_aload_n dX3_advance_8 rfl rfl (gf_X3_18 (M := mX3_advance) rfl dX3_advance_9 ho (g_ist1 dX3_advance_12 (by decide) rfl ?_))
    rw [hf.2.2.1]
    exact L13 _ P.ten rfl (by omega) (by omega) rfl
  · skip
    exact g_vret dX3_advance_7 rfl rfl ⟨Nat.le_refl _, Nat.le_refl _⟩ (by exact ⟨rfl, FrP.rf _ _, by rw [advS_n (by omega)]; exact hS⟩)
set_option maxRecDepth 100000 in
set_option maxHeartbeats 1000000 in
theorem e_X3_number {G : GX} {y : LY} {h : HM} {d : Nat} (hY : Lay y) {u : Nat} (ho : IsO y u 3) (hRt : y.R u 0 = some 10) (hRd : y.R u 1 = some 40) (hr : 161 ≤ u) {T : Nat → Int} {len : Int} {P : PS} (hS : TS h u T len P) {lo hi : Int} (hlo : R32 lo) (hhi : R32 hi) : EvQX G mX3_number (d + 3) [.ref u, .int (iZ lo), .int (iZ hi)] y h (fun (v : Int) h1 => FrP u h h1 ∧ TS h1 u T len (numS T len lo hi P).1 ∧ v = (numS T len lo hi P).2 ∧ (0 ≤ v ∧ v ≤ 999)) := by
  have hf := hS.f
  have hTP := hS.1
  have hPB := hS.2.2
  have hln := hTP.2.2.1
  have hl10 := hTP.2.1
  obtain ⟨pb1, pb2, pb3, pb4, pb5, pb6⟩ := id hPB
  refine Ev.of rfl [some (.ref u), some (.int (iZ lo)), some (.int (iZ hi)), none, none] rfl (Nat.le_of_ble_eq_true rfl) ?_
  have N39 : ∀ (m : Nat) (h1 : HM) (P1 : PS) (p : Int), TS h1 u T len P1 → FrP u h h1 → P1.tok = 2 → P1.fnd = 0 → numS T len lo hi P = (demS (lo ≤ nuV T (P1.ten - P1.tat).toNat P1.tat ∧ nuV T (P1.ten - P1.tat).toNat P1.tat ≤ hi) 3 P1, nuV T (P1.ten - P1.tat).toNat P1.tat) → m = (P1.ten - p).toNat → P1.tat ≤ p ∧ p ≤ P1.ten → Go G mX3_number (rmo (d + 3) 0 0) (ZM G y 0 0 (fun r h1 => ∃ v_ : Int, r = some (.int (iZ v_)) ∧ (fun (v : Int) h1 => FrP u h h1 ∧ TS h1 u T len (numS T len lo hi P).1 ∧ v = (numS T len lo hi P).2 ∧ (0 ≤ v ∧ v ≤ 999)) v_ h1)) y 39 [some (.ref u), some (.int (iZ lo)), some (.int (iZ hi)), some (.int (iZ (nuV T (p - P1.tat).toNat P1.tat))), some (.int (iZ p))] [] h1 (0, 0) := by
    intro m
    induction m using Nat.strongRecOn with | _ m ih =>
    intro h1 P1 p hS1 hF1 h2 h0 heq hm hp
    have hf1 := hS1.f
    obtain ⟨qb1, qb2, qb3, qb4, qb5, qb6⟩ := id hS1.2.2
    have hq6 := qb6 h2 h0
    have hn := nuV_bd (T := T) (p - P1.tat).toNat P1.tat (by omega) (fun i i0 i1 => hq6.2 i i0 (by omega))
    have hp3 : (10 : Int) ^ (p - P1.tat).toNat ≤ 1000 := by
      rcases (by omega : (p - P1.tat).toNat = 0 ∨ (p - P1.tat).toNat = 1 ∨ (p - P1.tat).toNat = 2 ∨ (p - P1.tat).toNat = 3) with e | e | e | e <;> rw [e] <;> decide
    refine g_iload dX3_number_39 rfl (g_aload_n dX3_number_41 rfl rfl (gf_X3_18 (M := mX3_number) rfl dX3_number_42 ho ?_))
    refine g_icmp_ge 73 dX3_number_45 rfl (by omega) (by omega) (fun c45 => ?_) (fun c45 => ?_)
    · skip
      refine g_aload_n dX3_number_73 rfl rfl (g_iload_n dX3_number_74 rfl rfl (g_iload_n dX3_number_75 rfl rfl ?_))
      refine g_icmp_lt 88 dX3_number_76 rfl (by omega) (by omega) (fun c76 => ?_) (fun c76 => ?_)
      · skip
        refine g_iconst dX3_number_88 (g_iconst dX3_number_89 ?_)
        refine cv_X3_101 (M := mX3_number) rfl dX3_number_90 ho (RO.same _ _ _) (Nat.le_of_ble_eq_true rfl) (e_X3_demand hY ho hRt hRd hr (by omega) (by omega) (by omega)) (kQV fun h90 hq90 => ?_)
        refine g_iload_n dX3_number_93 rfl rfl ?_
        exact g_iret dX3_number_94 rfl rfl ⟨Nat.le_refl _, Nat.le_refl _⟩ (by obtain rfl : p = P1.ten := (by omega); exact ⟨_, rfl, hF1.tr hq90.1, by rw [heq]; exact hS1.dem hr hq90 (by omega) (by omega), by rw [heq], by omega⟩)
      · skip
        refine g_iload_n dX3_number_79 rfl rfl (g_iload_n dX3_number_80 rfl rfl ?_)
        refine g_icmp_gt 88 dX3_number_81 rfl (by omega) (by omega) (fun c81 => ?_) (fun c81 => ?_)
        · skip
          refine g_iconst dX3_number_88 (g_iconst dX3_number_89 ?_)
          refine cv_X3_101 (M := mX3_number) rfl dX3_number_90 ho (RO.same _ _ _) (Nat.le_of_ble_eq_true rfl) (e_X3_demand hY ho hRt hRd hr (by omega) (by omega) (by omega)) (kQV fun h90 hq90 => ?_)
          refine g_iload_n dX3_number_93 rfl rfl ?_
          exact g_iret dX3_number_94 rfl rfl ⟨Nat.le_refl _, Nat.le_refl _⟩ (by obtain rfl : p = P1.ten := (by omega); exact ⟨_, rfl, hF1.tr hq90.1, by rw [heq]; exact hS1.dem hr hq90 (by omega) (by omega), by rw [heq], by omega⟩)
        · skip
          refine g_iconst dX3_number_84 (g_goto 89 dX3_number_85 rfl (g_iconst dX3_number_89 ?_))
          refine cv_X3_101 (M := mX3_number) rfl dX3_number_90 ho (RO.same _ _ _) (Nat.le_of_ble_eq_true rfl) (e_X3_demand hY ho hRt hRd hr (by omega) (by omega) (by omega)) (kQV fun h90 hq90 => ?_)
          refine g_iload_n dX3_number_93 rfl rfl ?_
          exact g_iret dX3_number_94 rfl rfl ⟨Nat.le_refl _, Nat.le_refl _⟩ (by obtain rfl : p = P1.ten := (by omega); exact ⟨_, rfl, hF1.tr hq90.1, by rw [heq]; exact hS1.dem hr hq90 (by omega) (by omega), by rw [heq], by omega⟩)
    · skip
      refine g_bipush dX3_number_48 kb10 (g_iload_n dX3_number_50 rfl rfl (g_imul dX3_number_51 (g_aload_n dX3_number_52 rfl rfl (gf_X3_34 (M := mX3_number) rfl dX3_number_53 ho hRt (gf_X3_155 (M := mX3_number) rfl dX3_number_56 (yo10 hY) (yr10_0 hY) (g_iload dX3_number_59 rfl (g_iald dX3_number_61 (ya11 hY) ⟨by omega, by omega, by omega⟩ (g_iadd dX3_number_62 (g_bipush dX3_number_63 kb48 (g_isub dX3_number_65 (g_ist3 dX3_number_66 (by decide) rfl ?_)))))))))))
      refine g_inc4 dX3_number_67 (by decide) rfl (g_goto 39 dX3_number_70 rfl ?_)
      have hx := ih _ (by omega) h1 P1 (p + 1) hS1 hF1 h2 h0 heq rfl (by omega)
      rw [show (p + 1 - P1.tat).toNat = (p - P1.tat).toNat + 1 by omega, nuV, show P1.tat + (((p - P1.tat).toNat : Nat) : Int) = p by omega] at hx
      rw [hS1.1.1]
      exact hx
  refine g_aload_n dX3_number_0 rfl rfl ?_
  refine cv_X3_47 (M := mX3_number) rfl dX3_number_1 ho (RO.same _ _ _) (Nat.le_of_ble_eq_true rfl) (e_X3_advance hY ho hRt hRd hr hS) (kQV fun h1 hq1 => ?_)
  have ff1 := hq1.2.f
  have pp1 := hq1.2.2.2
  obtain ⟨qb1, qb2, qb3, qb4, qb5, qb6⟩ := id pp1
  refine g_aload_n dX3_number_4 rfl rfl (g_aload_n dX3_number_5 rfl rfl (gf_X3_11 (M := mX3_number) rfl dX3_number_6 ho (g_iconst dX3_number_9 ?_)))
  refine g_icmp_ne 17 dX3_number_10 rfl (by omega) (by omega) (fun c10 => ?_) (fun c10 => ?_)
  · skip
    refine g_iconst dX3_number_17 (g_iconst dX3_number_18 ?_)
    refine cv_X3_101 (M := mX3_number) rfl dX3_number_19 ho (RO.same _ _ _) (Nat.le_of_ble_eq_true rfl) (e_X3_demand hY ho hRt hRd hr (by omega) (by omega) (by omega)) (kQV fun h19 hq19 => ?_)
    have t19 : TS h19 u T len (demS ((advS T len P).tok = 2) 2 (advS T len P)) := hq1.2.dem hr hq19 (by omega) (by omega)
    have ff19 := t19.f
    have pp19 := t19.2.2.2.2.2.2.1
    refine g_aload_n dX3_number_22 rfl rfl (gf_X3_28 (M := mX3_number) rfl dX3_number_23 ho ?_)
    refine g_if_eq 31 dX3_number_26 rfl (by omega) (fun c26 => ?_) (fun c26 => ?_)
    · skip
      refine g_iconst dX3_number_31 (g_ist3 dX3_number_32 (by decide) rfl (g_aload_n dX3_number_33 rfl rfl (gf_X3_15 (M := mX3_number) rfl dX3_number_34 ho (g_ist4 dX3_number_37 (by decide) rfl ?_))))
      have hc := ckS_1 (T := T) (lo := lo) (hi := hi) (P := advS T len P) (by omega)
      rw [hc.2.2.1] at t19 ff19
      rw [ff19.2.1]
      have hx := N39 _ h19 (advS T len P) (advS T len P).tat t19 (hq1.1.tr hq19.1) hc.2.1 hc.1 hc.2.2.2 rfl (by omega)
      rw [show ((advS T len P).tat - (advS T len P).tat).toNat = 0 by omega] at hx
      exact hx
    · skip
      refine g_iconst dX3_number_29 ?_
      exact g_iret dX3_number_30 rfl rfl ⟨Nat.le_refl _, Nat.le_refl _⟩ (by exact ⟨0, rfl, hq1.1.tr hq19.1, by rw [numS, ckS_0 (by omega)]; exact t19, by rw [numS, ckS_0 (by omega)], by omega⟩)
  · skip
    refine g_iconst dX3_number_13 (g_goto 18 dX3_number_14 rfl (g_iconst dX3_number_18 ?_))
    refine cv_X3_101 (M := mX3_number) rfl dX3_number_19 ho (RO.same _ _ _) (Nat.le_of_ble_eq_true rfl) (e_X3_demand hY ho hRt hRd hr (by omega) (by omega) (by omega)) (kQV fun h19 hq19 => ?_)
    have t19 : TS h19 u T len (demS ((advS T len P).tok = 2) 2 (advS T len P)) := hq1.2.dem hr hq19 (by omega) (by omega)
    have ff19 := t19.f
    have pp19 := t19.2.2.2.2.2.2.1
    refine g_aload_n dX3_number_22 rfl rfl (gf_X3_28 (M := mX3_number) rfl dX3_number_23 ho ?_)
    refine g_if_eq 31 dX3_number_26 rfl (by omega) (fun c26 => ?_) (fun c26 => ?_)
    · skip
      refine g_iconst dX3_number_31 (g_ist3 dX3_number_32 (by decide) rfl (g_aload_n dX3_number_33 rfl rfl (gf_X3_15 (M := mX3_number) rfl dX3_number_34 ho (g_ist4 dX3_number_37 (by decide) rfl ?_))))
      have hc := ckS_1 (T := T) (lo := lo) (hi := hi) (P := advS T len P) (by omega)
      rw [hc.2.2.1] at t19 ff19
      rw [ff19.2.1]
      have hx := N39 _ h19 (advS T len P) (advS T len P).tat t19 (hq1.1.tr hq19.1) hc.2.1 hc.1 hc.2.2.2 rfl (by omega)
      rw [show ((advS T len P).tat - (advS T len P).tat).toNat = 0 by omega] at hx
      exact hx
    · skip
      refine g_iconst dX3_number_29 ?_
      exact g_iret dX3_number_30 rfl rfl ⟨Nat.le_refl _, Nat.le_refl _⟩ (by exact ⟨0, rfl, hq1.1.tr hq19.1, by rw [numS, ckS_0 (by omega)]; exact t19, by rw [numS, ckS_0 (by omega)], by omega⟩)
set_option maxRecDepth 100000 in
set_option maxHeartbeats 1000000 in
theorem e_X3_endLine {G : GX} {y : LY} {h : HM} {d : Nat} (hY : Lay y) {u : Nat} (ho : IsO y u 3) (hRt : y.R u 0 = some 10) (hRd : y.R u 1 = some 40) (hr : 161 ≤ u) {T : Nat → Int} {len : Int} {P : PS} (hS : TS h u T len P) : EvQV G mX3_endLine (d + 3) [.ref u] y h (fun h1 => FrP u h h1 ∧ TS h1 u T len (endS T len P)) := by
  have hf := hS.f
  have hTP := hS.1
  have hPB := hS.2.2
  have hln := hTP.2.2.1
  have hl10 := hTP.2.1
  obtain ⟨pb1, pb2, pb3, pb4, pb5, pb6⟩ := id hPB
  refine Ev.of rfl [some (.ref u)] rfl (Nat.le_of_ble_eq_true rfl) ?_
  refine g_aload_n dX3_endLine_0 rfl rfl ?_
  refine cv_X3_47 (M := mX3_endLine) rfl dX3_endLine_1 ho (RO.same _ _ _) (Nat.le_of_ble_eq_true rfl) (e_X3_advance hY ho hRt hRd hr hS) (kQV fun h1 hq1 => ?_)
  have ff1 := hq1.2.f
  have pp1 := hq1.2.2.2
  obtain ⟨qb1, qb2, qb3, qb4, qb5, qb6⟩ := id pp1
  refine g_aload_n dX3_endLine_4 rfl rfl (g_aload_n dX3_endLine_5 rfl rfl (gf_X3_11 (M := mX3_endLine) rfl dX3_endLine_6 ho (g_iconst dX3_endLine_9 ?_)))
  refine g_icmp_ne 17 dX3_endLine_10 rfl (by omega) (by omega) (fun c10 => ?_) (fun c10 => ?_)
  · skip
    refine g_iconst dX3_endLine_17 (g_iconst dX3_endLine_18 ?_)
    refine cv_X3_101 (M := mX3_endLine) rfl dX3_endLine_19 ho (RO.same _ _ _) (Nat.le_of_ble_eq_true rfl) (e_X3_demand hY ho hRt hRd hr (by omega) (by omega) (by omega)) (kQV fun h19 hq19 => ?_)
    have t19 : TS h19 u T len (demS ((advS T len P).tok = 3) 2 (advS T len P)) := hq1.2.dem hr hq19 (by omega) (by omega)
    exact g_vret dX3_endLine_22 rfl rfl ⟨Nat.le_refl _, Nat.le_refl _⟩ (by exact ⟨rfl, hq1.1.tr hq19.1, t19⟩)
  · skip
    refine g_iconst dX3_endLine_13 (g_goto 18 dX3_endLine_14 rfl (g_iconst dX3_endLine_18 ?_))
    refine cv_X3_101 (M := mX3_endLine) rfl dX3_endLine_19 ho (RO.same _ _ _) (Nat.le_of_ble_eq_true rfl) (e_X3_demand hY ho hRt hRd hr (by omega) (by omega) (by omega)) (kQV fun h19 hq19 => ?_)
    have t19 : TS h19 u T len (demS ((advS T len P).tok = 3) 2 (advS T len P)) := hq1.2.dem hr hq19 (by omega) (by omega)
    exact g_vret dX3_endLine_22 rfl rfl ⟨Nat.le_refl _, Nat.le_refl _⟩ (by exact ⟨rfl, hq1.1.tr hq19.1, t19⟩)
set_option maxRecDepth 100000 in
set_option maxHeartbeats 1000000 in
theorem e_X3_isName {G : GX} {y : LY} {h : HM} {d : Nat} (hY : Lay y) {u : Nat} (ho : IsO y u 3) (hRt : y.R u 0 = some 10) (hRd : y.R u 1 = some 40) (hr : 161 ≤ u) {T : Nat → Int} {len : Int} {P : PS} (hS : TS h u T len P) {k : Nat} (hk : k < 8) : EvI G mX3_isName (d + 4) [.ref u, .ref k] y h (pI (IsNm T P k)) := by
  have hf := hS.f
  have hTP := hS.1
  have hPB := hS.2.2
  have hln := hTP.2.2.1
  have hl10 := hTP.2.1
  obtain ⟨pb1, pb2, pb3, pb4, pb5, pb6⟩ := id hPB
  have hst := str_dec k hk
  have hlk : (lnS.getD k 0 : Int) = lnI k := rfl
  refine Ev.of rfl [some (.ref u), some (.ref k), none] rfl (Nat.le_of_ble_eq_true rfl) ?_
  have L28 : ∀ (m : Nat) (i : Nat), (m : Int) = lnI k - i → (i : Int) ≤ lnI k → P.tok = 1 → P.ten - P.tat = lnI k → (∀ j : Nat, j < i → T (P.tat + j).toNat = chI k j) → Go G mX3_isName (rmo (d + 4) 0 0) (ZM G y 0 0 (fun r h1 => r = some (.int (iZ (pI (IsNm T P k)))) ∧ h1 = h)) y 28 [some (.ref u), some (.ref k), some (.int (iZ i))] [] h (0, 0) := by
    intro m
    induction m using Nat.strongRecOn with | _ m ih =>
    intro i hm hi h1 h2 hall
    refine g_iload_n dX3_isName_28 rfl rfl (g_aload_n dX3_isName_29 rfl rfl (g_slen (d := d + 2) (M := mX3_isName) hk rfl dX3_isName_30 (RO.same _ _ _) (Nat.le_of_ble_eq_true rfl) ?_))
    refine g_icmp_ge 66 dX3_isName_33 rfl (by omega) (by omega) (fun c33 => ?_) (fun c33 => ?_)
    · skip
      refine g_iconst dX3_isName_66 ?_
      exact g_zret dX3_isName_67 rfl rfl ⟨Nat.le_refl _, Nat.le_refl _⟩ (by omega) (by exact ⟨congrArg (fun z => some (Value.int (iZ z))) (pI_t (show IsNm T P k from ⟨h1, h2, fun j hj => hall j (by omega)⟩)).symm, rfl⟩)
    · skip
      refine g_aload_n dX3_isName_36 rfl rfl (gf_X3_34 (M := mX3_isName) rfl dX3_isName_37 ho hRt (gf_X3_155 (M := mX3_isName) rfl dX3_isName_40 (yo10 hY) (yr10_0 hY) (g_aload_n dX3_isName_43 rfl rfl (gf_X3_15 (M := mX3_isName) rfl dX3_isName_44 ho (g_iload_n dX3_isName_47 rfl rfl (g_iadd dX3_isName_48 ?_))))))
      rw [hf.2.1]
      refine g_iald dX3_isName_49 (ya11 hY) ⟨by omega, by omega, by omega⟩ ?_
      rw [hTP.1]
      have hci := hst.2 i (by omega)
      have hti := hTP.2.2.2 (P.tat + i).toNat (by omega)
      refine g_aload_n dX3_isName_50 rfl rfl (g_iload_n dX3_isName_51 rfl rfl (g_schar (d := d) (M := mX3_isName) hk (by omega) rfl dX3_isName_52 (RO.same _ _ _) (Nat.le_of_ble_eq_true rfl) ?_))
      simp only [Int.toNat_natCast]
      refine g_icmp_eq 60 dX3_isName_55 rfl (by omega) (by omega) (fun c55 => ?_) (fun c55 => ?_)
      · skip
        refine g_inc2 dX3_isName_60 (by decide) rfl (g_goto 28 dX3_isName_63 rfl ?_)
        exact ih (m - 1) (by omega) (i + 1) (by omega) (by omega) h1 h2 (fun j hj => by by_cases e : j = i; (subst e; exact c55); exact hall j (by omega))
      · skip
        refine g_iconst dX3_isName_58 ?_
        exact g_zret dX3_isName_59 rfl rfl ⟨Nat.le_refl _, Nat.le_refl _⟩ (by omega) (by exact ⟨congrArg (fun z => some (Value.int (iZ z))) (pI_f (show ¬ IsNm T P k from fun z => c55 (z.2.2 i (by omega)))).symm, rfl⟩)
  refine g_aload_n dX3_isName_0 rfl rfl (gf_X3_11 (M := mX3_isName) rfl dX3_isName_1 ho (g_iconst dX3_isName_4 ?_))
  refine g_icmp_ne 24 dX3_isName_5 rfl (by omega) (by omega) (fun c5 => ?_) (fun c5 => ?_)
  · skip
    refine g_iconst dX3_isName_24 ?_
    exact g_zret dX3_isName_25 rfl rfl ⟨Nat.le_refl _, Nat.le_refl _⟩ (by omega) (by exact ⟨congrArg (fun z => some (Value.int (iZ z))) (pI_f (show ¬ IsNm T P k from fun z => by have z1 := z.1; have z2 := z.2.1; omega)).symm, rfl⟩)
  · skip
    refine g_aload_n dX3_isName_8 rfl rfl (gf_X3_18 (M := mX3_isName) rfl dX3_isName_9 ho (g_aload_n dX3_isName_12 rfl rfl (gf_X3_15 (M := mX3_isName) rfl dX3_isName_13 ho (g_isub dX3_isName_16 (g_aload_n dX3_isName_17 rfl rfl (g_slen (d := d + 2) (M := mX3_isName) hk rfl dX3_isName_18 (RO.same _ _ _) (Nat.le_of_ble_eq_true rfl) ?_))))))
    refine g_icmp_eq 26 dX3_isName_21 rfl (by omega) (by omega) (fun c21 => ?_) (fun c21 => ?_)
    · skip
      refine g_iconst dX3_isName_26 (g_ist2 dX3_isName_27 (by decide) rfl ?_)
      exact L28 (lnI k).toNat 0 (by omega) (by omega) (by omega) (by omega) (fun j hj => by omega)
    · skip
      refine g_iconst dX3_isName_24 ?_
      exact g_zret dX3_isName_25 rfl rfl ⟨Nat.le_refl _, Nat.le_refl _⟩ (by omega) (by exact ⟨congrArg (fun z => some (Value.int (iZ z))) (pI_f (show ¬ IsNm T P k from fun z => by have z1 := z.1; have z2 := z.2.1; omega)).symm, rfl⟩)
