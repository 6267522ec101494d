theorem fig_w (h : HM) (a : Nat) (la ga te st dr : Int) : ((((h.sI a 3 la).sI a 4 ga).sI a 0 te).sI a 1 st).sI a 2 dr = wr5 h a (te, st, dr, la, ga) := by
  refine Prod.ext (funext fun x => funext fun j => ?_) rfl
  unfold wr5
  by_cases q : x = a
  · subst q
    rcases (by omega : j = 0 ∨ j = 1 ∨ j = 2 ∨ j = 3 ∨ j = 4 ∨ 5 ≤ j) with rfl | rfl | rfl | rfl | rfl | hj
    · simp [HM.sI, up2]
    · simp [HM.sI, up2]
    · simp [HM.sI, up2]
    · simp [HM.sI, up2]
    · simp [HM.sI, up2]
    · have h0 : ¬ j = 0 := by omega
      have h1 : ¬ j = 1 := by omega
      have h2 : ¬ j = 2 := by omega
      have h3 : ¬ j = 3 := by omega
      have h4 : ¬ j = 4 := by omega
      simp [HM.sI, up2, h0, h1, h2, h3, h4]
  · simp [HM.sI, up2, q]
theorem fg6_0 {T : Nat → Int} {len la ga te st : Int} {P : PS} {D : DT} (hP : PB T len P) (h : (fg6 T len la ga te st P D).1.fnd = 0) : P.fnd = 0 ∧ (0 ≤ (numS T len 0 8 P).2 ∧ (numS T len 0 8 P).2 ≤ 8) ∧ (fg6 T len la ga te st P D).2 = D.wF (te, st, (numS T len 0 8 P).2, la, ga) := by
  have h5 := numS_0 hP (endS_0 h)
  exact ⟨h5.1, h5.2, cnd_t h⟩
theorem fg6_n {T : Nat → Int} {len la ga te st : Int} {P : PS} {D : DT} (h : ¬ (fg6 T len la ga te st P D).1.fnd = 0) : (fg6 T len la ga te st P D).2 = D := cnd_f h
theorem sI_I_40 {h : HM} {a : Nat} {X : Fg} (ha : a ≠ 40) : (wr5 h a X).sI 40 3 ((wr5 h a X).I 40 3 + 1) = (wr5 h a X).sI 40 3 (h.I 40 3 + 1) := by
  rw [wr5_e (fun z => ha z.symm)]
set_option maxRecDepth 100000 in
set_option maxHeartbeats 1000000 in
theorem e_X3_readFigure {G : GX} {y : LY} {h : HM} {d : Nat} (hY : Lay y) {u : Nat} (ho : IsO y u 3) (hRt : y.R u 0 = some 10) (hRd : y.R u 1 = some 40) (hr : 161 ≤ u) {T : Nat → Int} {len : Int} {P : PS} (hS : TS h u T len P) {D : DT} (hD : DrC h u D) (hV : DV D) : EvQV G mX3_readFigure (d + 5) [.ref u] y h (fun h1 => FrL u h h1 ∧ TS h1 u T len (fgS T len P D).1 ∧ DrC h1 u (fgS T len P D).2) := by
  have hf := hS.f
  have hTP := hS.1
  have hPB := hS.2.2
  have hln := hTP.2.2.1
  have hl10 := hTP.2.1
  obtain ⟨pb1, pb2, pb3, pb4, pb5, pb6⟩ := id hPB
  have hDb := hD.b hV
  have hDf := hD
  refine Ev.of rfl [some (.ref u), none, none, none, none, none, none, none, none, none] rfl (Nat.le_of_ble_eq_true rfl) ?_
  have L183 : ∀ (h1 : HM) (P1 : PS) (la ga te st : Int), TS h1 u T len P1 → FrP u h h1 → fgS T len P D = fg6 T len la ga te st P1 D → (P1.fnd = 0 → D.nf < 6) → Go G mX3_readFigure (rmo (d + 5) 0 0) (ZM G y 0 0 (fun r h1 => r = none ∧ (fun h1 => FrL u h h1 ∧ TS h1 u T len (fgS T len P D).1 ∧ DrC h1 u (fgS T len P D).2) h1)) y 183 [some (.ref u), none, none, none, some (.int (iZ la)), some (.int (iZ ga)), some (.int (iZ te)), some (.int (iZ st)), none, none] [] h1 (0, 0) := by
    intro h1 P1 la ga te st hS1 hF1 heq hn6
    have hf1 := hS1.f
    obtain ⟨qb1, qb2, qb3, qb4, qb5, qb6⟩ := id hS1.2.2
    refine g_aload_n dX3_readFigure_183 rfl rfl (g_iconst dX3_readFigure_184 (g_bipush dX3_readFigure_185 kb8 ?_))
    refine cv_X3_113 (M := mX3_readFigure) rfl dX3_readFigure_187 ho (RO.same _ _ _) (Nat.le_of_ble_eq_true rfl) (e_X3_number hY ho hRt hRd hr hS1 (by omega) (by omega)) (kQX fun v187 h187 hq187 => ?_)
    obtain ⟨f187, t187, e187, b187⟩ := hq187
    replace e187 : v187 = (numS T len 0 8 P1).2 := e187
    have ff187 := t187.f
    obtain ⟨rb1, rb2, rb3, rb4, rb5, rb6⟩ := id t187.2.2
    subst e187
    refine g_ist8 dX3_readFigure_190 (by decide) rfl (g_aload_n dX3_readFigure_192 rfl rfl ?_)
    refine cv_X3_117 (M := mX3_readFigure) rfl dX3_readFigure_193 ho (RO.same _ _ _) (Nat.le_of_ble_eq_true rfl) (e_X3_endLine hY ho hRt hRd hr t187) (kQV fun h193 hq193 => ?_)
    obtain ⟨f193, t193⟩ := hq193
    have d193 := (hD.fr hV hr (hF1.tr f187)).fr hV hr f193
    have ff193 := t193.f
    have fr193 := (hF1.tr f187).tr f193
    replace t193 : TS h193 u T len (fg6 T len la ga te st P1 D).1 := t193
    replace ff193 : h193.I u 7 = (fg6 T len la ga te st P1 D).1.fnd := ff193.2.2.2.1
    have xb : 0 ≤ (fg6 T len la ga te st P1 D).1.fnd ∧ (fg6 T len la ga te st P1 D).1.fnd ≤ 6 := t193.2.2.2.2.2.2.1
    have d3 := d193.1.1
    have dvb := hV.1.1
    refine g_aload_n dX3_readFigure_196 rfl rfl (gf_X3_28 (M := mX3_readFigure) rfl dX3_readFigure_197 ho ?_)
    refine g_if_ne 268 dX3_readFigure_200 rfl (by omega) (fun c200 => ?_) (fun c200 => ?_)
    · skip
      exact g_vret dX3_readFigure_268 rfl rfl ⟨Nat.le_refl _, Nat.le_refl _⟩ (by first | (refine ⟨rfl, fr193.l, by rw [heq]; exact t193, ?_⟩; rw [heq, fg6_n (by omega)]; exact d193) | (rw [fig_w, sI_I_40 (by omega)]; refine ⟨rfl, (fr193.l.w5 (by omega) _).s (a := 40) (by omega) _ _, by rw [heq]; exact (t193.w5 hr (by omega) _).s hr (a := 40) (by omega) _, ?_⟩; rw [heq, hz.2.2, d3]; exact d193.wF hV hr (by omega) _))
    · skip
      have hz := fg6_0 (la := la) (ga := ga) (te := te) (st := st) (D := D) hS1.2.2 (by omega)
      have hn5 := hn6 hz.1
      refine g_aload_n dX3_readFigure_203 rfl rfl (gf_X3_38 (M := mX3_readFigure) rfl dX3_readFigure_204 ho hRd (gf_X3_120 (M := mX3_readFigure) rfl dX3_readFigure_207 (ck_o hY clk40) (ck_r0 hY clk40) (g_aload_n dX3_readFigure_210 rfl rfl (gf_X3_38 (M := mX3_readFigure) rfl dX3_readFigure_211 ho hRd (gf_X3_65 (M := mX3_readFigure) rfl dX3_readFigure_214 (ck_o hY clk40) (g_aald dX3_readFigure_217 (ck_a0 hY clk40) (by decide) (D0 := "ClockTeeth$Figure") rfl ⟨by omega, by omega, by omega⟩ (ck_fr hY clk40 (by omega)) (g_ast9 dX3_readFigure_218 (by decide) rfl (g_aload dX3_readFigure_220 rfl (g_iload dX3_readFigure_222 rfl (pf_X3_124 (M := mX3_readFigure) rfl dX3_readFigure_224 (ck_fo hY clk40 (by omega)) (g_aload dX3_readFigure_227 rfl ?_)))))))))))
      refine g_iload dX3_readFigure_229 rfl (pf_X3_129 (M := mX3_readFigure) rfl dX3_readFigure_231 (ck_fo hY clk40 (by omega)) (g_aload dX3_readFigure_234 rfl (g_iload dX3_readFigure_236 rfl (pf_X3_132 (M := mX3_readFigure) rfl dX3_readFigure_238 (ck_fo hY clk40 (by omega)) (g_aload dX3_readFigure_241 rfl (g_iload dX3_readFigure_243 rfl (pf_X3_135 (M := mX3_readFigure) rfl dX3_readFigure_245 (ck_fo hY clk40 (by omega)) (g_aload dX3_readFigure_248 rfl (g_iload dX3_readFigure_250 rfl (pf_X3_138 (M := mX3_readFigure) rfl dX3_readFigure_252 (ck_fo hY clk40 (by omega)) (g_aload_n dX3_readFigure_255 rfl rfl ?_)))))))))))
      refine gf_X3_38 (M := mX3_readFigure) rfl dX3_readFigure_256 ho hRd (g_dup dX3_readFigure_259 rfl (gf_X3_65 (M := mX3_readFigure) rfl dX3_readFigure_260 (ck_o hY clk40) (g_iconst dX3_readFigure_263 (g_iadd dX3_readFigure_264 (pf_X3_65 (M := mX3_readFigure) rfl dX3_readFigure_265 (ck_o hY clk40) ?_)))))
      exact g_vret dX3_readFigure_268 rfl rfl ⟨Nat.le_refl _, Nat.le_refl _⟩ (by first | (refine ⟨rfl, fr193.l, by rw [heq]; exact t193, ?_⟩; rw [heq, fg6_n (by omega)]; exact d193) | (rw [fig_w, sI_I_40 (by omega)]; refine ⟨rfl, (fr193.l.w5 (by omega) _).s (a := 40) (by omega) _ _, by rw [heq]; exact (t193.w5 hr (by omega) _).s hr (a := 40) (by omega) _, ?_⟩; rw [heq, hz.2.2, d3]; exact d193.wF hV hr (by omega) _))
  have L157 : ∀ (h1 : HM) (P1 : PS) (la ga te : Int), TS h1 u T len P1 → FrP u h h1 → fgS T len P D = fg5 T len la ga te P1 D → (P1.fnd = 0 → D.nf < 6) → R32 te → Go G mX3_readFigure (rmo (d + 5) 0 0) (ZM G y 0 0 (fun r h1 => r = none ∧ (fun h1 => FrL u h h1 ∧ TS h1 u T len (fgS T len P D).1 ∧ DrC h1 u (fgS T len P D).2) h1)) y 157 [some (.ref u), none, none, none, some (.int (iZ la)), some (.int (iZ ga)), some (.int (iZ te)), none, none, none] [] h1 (0, 0) := by
    intro h1 P1 la ga te hS1 hF1 heq hn6 hte
    have hf1 := hS1.f
    obtain ⟨qb1, qb2, qb3, qb4, qb5, qb6⟩ := id hS1.2.2
    refine g_aload_n dX3_readFigure_157 rfl rfl (g_iconst dX3_readFigure_158 (g_bipush dX3_readFigure_159 kb59 ?_))
    refine cv_X3_113 (M := mX3_readFigure) rfl dX3_readFigure_161 ho (RO.same _ _ _) (Nat.le_of_ble_eq_true rfl) (e_X3_number hY ho hRt hRd hr hS1 (by omega) (by omega)) (kQX fun v161 h161 hq161 => ?_)
    obtain ⟨f161, t161, e161, b161⟩ := hq161
    replace e161 : v161 = (numS T len 0 59 P1).2 := e161
    have ff161 := t161.f
    obtain ⟨rb1, rb2, rb3, rb4, rb5, rb6⟩ := id t161.2.2
    subst e161
    refine g_ist7 dX3_readFigure_164 (by decide) rfl (g_aload_n dX3_readFigure_166 rfl rfl (g_iload dX3_readFigure_167 rfl (g_iload dX3_readFigure_169 rfl ?_)))
    refine g_icmp_ge 178 dX3_readFigure_171 rfl (by omega) (by omega) (fun c171 => ?_) (fun c171 => ?_)
    · skip
      refine g_iconst dX3_readFigure_178 (g_iconst dX3_readFigure_179 ?_)
      refine cv_X3_101 (M := mX3_readFigure) rfl dX3_readFigure_180 ho (RO.same _ _ _) (Nat.le_of_ble_eq_true rfl) (e_X3_demand hY ho hRt hRd hr (by omega) (by omega) (by omega)) (kQV fun h180 hq180 => ?_)
      have t180 : TS h180 u T len (demS ((numS T len 0 59 P1).2 < te) 4 (numS T len 0 59 P1).1) := t161.dem hr hq180 (by omega) (by omega)
      exact L183 _ _ la ga te _ t180 ((hF1.tr f161).tr hq180.1) heq (fun z => hn6 (numS_0 hS1.2.2 (demS_0 (by decide) z).1).1)
    · skip
      refine g_iconst dX3_readFigure_174 (g_goto 179 dX3_readFigure_175 rfl (g_iconst dX3_readFigure_179 ?_))
      refine cv_X3_101 (M := mX3_readFigure) rfl dX3_readFigure_180 ho (RO.same _ _ _) (Nat.le_of_ble_eq_true rfl) (e_X3_demand hY ho hRt hRd hr (by omega) (by omega) (by omega)) (kQV fun h180 hq180 => ?_)
      have t180 : TS h180 u T len (demS ((numS T len 0 59 P1).2 < te) 4 (numS T len 0 59 P1).1) := t161.dem hr hq180 (by omega) (by omega)
      exact L183 _ _ la ga te _ t180 ((hF1.tr f161).tr hq180.1) heq (fun z => hn6 (numS_0 hS1.2.2 (demS_0 (by decide) z).1).1)
  have L131 : ∀ (h1 : HM) (P1 : PS) (la ga : Int), TS h1 u T len P1 → FrP u h h1 → fgS T len P D = fg4 T len la ga P1 D → (P1.fnd = 0 → D.nf < 6) → R32 ga → Go G mX3_readFigure (rmo (d + 5) 0 0) (ZM G y 0 0 (fun r h1 => r = none ∧ (fun h1 => FrL u h h1 ∧ TS h1 u T len (fgS T len P D).1 ∧ DrC h1 u (fgS T len P D).2) h1)) y 131 [some (.ref u), none, none, none, some (.int (iZ la)), some (.int (iZ ga)), none, none, none, none] [] h1 (0, 0) := by
    intro h1 P1 la ga hS1 hF1 heq hn6 hga
    have hf1 := hS1.f
    obtain ⟨qb1, qb2, qb3, qb4, qb5, qb6⟩ := id hS1.2.2
    refine g_aload_n dX3_readFigure_131 rfl rfl (g_iconst dX3_readFigure_132 (g_bipush dX3_readFigure_133 kb60 ?_))
    refine cv_X3_113 (M := mX3_readFigure) rfl dX3_readFigure_135 ho (RO.same _ _ _) (Nat.le_of_ble_eq_true rfl) (e_X3_number hY ho hRt hRd hr hS1 (by omega) (by omega)) (kQX fun v135 h135 hq135 => ?_)
    obtain ⟨f135, t135, e135, b135⟩ := hq135
    replace e135 : v135 = (numS T len 2 60 P1).2 := e135
    have ff135 := t135.f
    obtain ⟨rb1, rb2, rb3, rb4, rb5, rb6⟩ := id t135.2.2
    subst e135
    refine g_ist6 dX3_readFigure_138 (by decide) rfl (g_aload_n dX3_readFigure_140 rfl rfl (g_iload dX3_readFigure_141 rfl (g_iload dX3_readFigure_143 rfl ?_)))
    refine g_icmp_le 152 dX3_readFigure_145 rfl (by omega) (by omega) (fun c145 => ?_) (fun c145 => ?_)
    · skip
      refine g_iconst dX3_readFigure_152 (g_iconst dX3_readFigure_153 ?_)
      refine cv_X3_101 (M := mX3_readFigure) rfl dX3_readFigure_154 ho (RO.same _ _ _) (Nat.le_of_ble_eq_true rfl) (e_X3_demand hY ho hRt hRd hr (by omega) (by omega) (by omega)) (kQV fun h154 hq154 => ?_)
      have t154 : TS h154 u T len (demS (ga < (numS T len 2 60 P1).2) 4 (numS T len 2 60 P1).1) := t135.dem hr hq154 (by omega) (by omega)
      exact L157 _ _ la ga _ t154 ((hF1.tr f135).tr hq154.1) heq (fun z => hn6 (numS_0 hS1.2.2 (demS_0 (by decide) z).1).1) (by omega)
    · skip
      refine g_iconst dX3_readFigure_148 (g_goto 153 dX3_readFigure_149 rfl (g_iconst dX3_readFigure_153 ?_))
      refine cv_X3_101 (M := mX3_readFigure) rfl dX3_readFigure_154 ho (RO.same _ _ _) (Nat.le_of_ble_eq_true rfl) (e_X3_demand hY ho hRt hRd hr (by omega) (by omega) (by omega)) (kQV fun h154 hq154 => ?_)
      have t154 : TS h154 u T len (demS (ga < (numS T len 2 60 P1).2) 4 (numS T len 2 60 P1).1) := t135.dem hr hq154 (by omega) (by omega)
      exact L157 _ _ la ga _ t154 ((hF1.tr f135).tr hq154.1) heq (fun z => hn6 (numS_0 hS1.2.2 (demS_0 (by decide) z).1).1) (by omega)
  have L114 : ∀ (h1 : HM) (P1 : PS) (la w3 : Int) (tw : Prop), TS h1 u T len P1 → FrP u h h1 → fgS T len P D = fg3 T len la tw P1 D → (P1.fnd = 0 → D.nf < 6) → (w3 = 0 ∨ w3 = 1) → (w3 = 1 ↔ tw) → Go G mX3_readFigure (rmo (d + 5) 0 0) (ZM G y 0 0 (fun r h1 => r = none ∧ (fun h1 => FrL u h h1 ∧ TS h1 u T len (fgS T len P D).1 ∧ DrC h1 u (fgS T len P D).2) h1)) y 114 [some (.ref u), none, none, some (.int (iZ w3)), some (.int (iZ la)), none, none, none, none, none] [] h1 (0, 0) := by
    intro h1 P1 la w3 tw hS1 hF1 heq hn6 hw hi
    have hf1 := hS1.f
    obtain ⟨qb1, qb2, qb3, qb4, qb5, qb6⟩ := id hS1.2.2
    refine g_iload_n dX3_readFigure_114 rfl rfl ?_
    refine g_if_eq 128 dX3_readFigure_115 rfl (by omega) (fun c115 => ?_) (fun c115 => ?_)
    · skip
      refine g_iconst dX3_readFigure_128 (g_ist5 dX3_readFigure_129 (by decide) rfl (g_dr3 ?_))
      first
      | exact L131 _ _ la _ t122 (hF1.tr f122) (heq.trans (cnd_t (hi.mp (by omega)))) (fun z => hn6 (numS_0 hS1.2.2 z).1) (by omega)
      | exact L131 _ _ la 0 hS1 hF1 (heq.trans (cnd_f (fun z => by have := hi.mpr z; omega))) hn6 (by omega)
    · skip
      refine g_aload_n dX3_readFigure_118 rfl rfl (g_iconst dX3_readFigure_119 (g_bipush dX3_readFigure_120 kb59 ?_))
      refine cv_X3_113 (M := mX3_readFigure) rfl dX3_readFigure_122 ho (RO.same _ _ _) (Nat.le_of_ble_eq_true rfl) (e_X3_number hY ho hRt hRd hr hS1 (by omega) (by omega)) (kQX fun v122 h122 hq122 => ?_)
      obtain ⟨f122, t122, e122, b122⟩ := hq122
      replace e122 : v122 = (numS T len 1 59 P1).2 := e122
      have ff122 := t122.f
      obtain ⟨rb1, rb2, rb3, rb4, rb5, rb6⟩ := id t122.2.2
      subst e122
      refine g_goto 129 dX3_readFigure_125 rfl (g_ist5 dX3_readFigure_129 (by decide) rfl (g_dr3 ?_))
      first
      | exact L131 _ _ la _ t122 (hF1.tr f122) (heq.trans (cnd_t (hi.mp (by omega)))) (fun z => hn6 (numS_0 hS1.2.2 z).1) (by omega)
      | exact L131 _ _ la 0 hS1 hF1 (heq.trans (cnd_f (fun z => by have := hi.mpr z; omega))) hn6 (by omega)
  have L98 : ∀ (h1 : HM) (P1 : PS) (w2 w3 : Int) (wo tw : Prop), TS h1 u T len P1 → FrP u h h1 → fgS T len P D = fg2 T len wo tw P1 D → (P1.fnd = 0 → D.nf < 6) → (w2 = 0 ∨ w2 = 1) → (w2 = 1 ↔ wo) → (w3 = 0 ∨ w3 = 1) → (w3 = 1 ↔ tw) → Go G mX3_readFigure (rmo (d + 5) 0 0) (ZM G y 0 0 (fun r h1 => r = none ∧ (fun h1 => FrL u h h1 ∧ TS h1 u T len (fgS T len P D).1 ∧ DrC h1 u (fgS T len P D).2) h1)) y 98 [some (.ref u), none, some (.int (iZ w2)), some (.int (iZ w3)), none, none, none, none, none, none] [] h1 (0, 0) := by
    intro h1 P1 w2 w3 wo tw hS1 hF1 heq hn6 hw2 hi2 hw3 hi3
    have hf1 := hS1.f
    obtain ⟨qb1, qb2, qb3, qb4, qb5, qb6⟩ := id hS1.2.2
    refine g_iload_n dX3_readFigure_98 rfl rfl ?_
    refine g_if_eq 111 dX3_readFigure_99 rfl (by omega) (fun c99 => ?_) (fun c99 => ?_)
    · skip
      refine g_iconst dX3_readFigure_111 (g_ist4 dX3_readFigure_112 (by decide) rfl (g_dr2 ?_))
      first
      | exact L114 _ _ _ w3 tw t105 (hF1.tr f105) (heq.trans (cnd_t (hi2.mp (by omega)))) (fun z => hn6 (numS_0 hS1.2.2 z).1) hw3 hi3
      | exact L114 _ _ 0 w3 tw hS1 hF1 (heq.trans (cnd_f (fun z => by have := hi2.mpr z; omega))) hn6 hw3 hi3
    · skip
      refine g_aload_n dX3_readFigure_102 rfl rfl (g_iconst dX3_readFigure_103 (g_iconst dX3_readFigure_104 ?_))
      refine cv_X3_113 (M := mX3_readFigure) rfl dX3_readFigure_105 ho (RO.same _ _ _) (Nat.le_of_ble_eq_true rfl) (e_X3_number hY ho hRt hRd hr hS1 (by omega) (by omega)) (kQX fun v105 h105 hq105 => ?_)
      obtain ⟨f105, t105, e105, b105⟩ := hq105
      replace e105 : v105 = (numS T len 1 3 P1).2 := e105
      have ff105 := t105.f
      obtain ⟨rb1, rb2, rb3, rb4, rb5, rb6⟩ := id t105.2.2
      subst e105
      refine g_goto 112 dX3_readFigure_108 rfl (g_ist4 dX3_readFigure_112 (by decide) rfl (g_dr2 ?_))
      first
      | exact L114 _ _ _ w3 tw t105 (hF1.tr f105) (heq.trans (cnd_t (hi2.mp (by omega)))) (fun z => hn6 (numS_0 hS1.2.2 z).1) hw3 hi3
      | exact L114 _ _ 0 w3 tw hS1 hF1 (heq.trans (cnd_f (fun z => by have := hi2.mpr z; omega))) hn6 hw3 hi3
  have L94 : ∀ (h1 : HM) (P1 : PS) (w2 w3 b : Int), TS h1 u T len P1 → FrP u h h1 → fgS T len P D = fg1 T len P1 D → (P1.fnd = 0 → D.nf < 6) → (w2 = 0 ∨ w2 = 1) → (w2 = 1 ↔ (IsNm T P1 4 ∨ IsNm T P1 5)) → (w3 = 0 ∨ w3 = 1) → (w3 = 1 ↔ (IsNm T P1 4 ∨ IsNm T P1 6)) → (b = 0 ∨ b = 1) → (b = 1 ↔ ((IsNm T P1 4 ∨ IsNm T P1 5) ∨ (IsNm T P1 4 ∨ IsNm T P1 6) ∨ IsNm T P1 7)) → Go G mX3_readFigure (rmo (d + 5) 0 0) (ZM G y 0 0 (fun r h1 => r = none ∧ (fun h1 => FrL u h h1 ∧ TS h1 u T len (fgS T len P D).1 ∧ DrC h1 u (fgS T len P D).2) h1)) y 94 [some (.ref u), none, some (.int (iZ w2)), some (.int (iZ w3)), none, none, none, none, none, none] [.int (iZ b), .ref u] h1 (0, 0) := by
    intro h1 P1 w2 w3 b hS1 hF1 heq hn6 hw2 hi2 hw3 hi3 hb hib
    have hf1 := hS1.f
    obtain ⟨qb1, qb2, qb3, qb4, qb5, qb6⟩ := id hS1.2.2
    refine g_iconst dX3_readFigure_94 ?_
    refine cv_X3_101 (M := mX3_readFigure) rfl dX3_readFigure_95 ho (RO.same _ _ _) (Nat.le_of_ble_eq_true rfl) (e_X3_demand hY ho hRt hRd hr (by omega) (by omega) (by omega)) (kQV fun h95 hq95 => ?_)
    have t95 : TS h95 u T len (demS ((IsNm T P1 4 ∨ IsNm T P1 5) ∨ (IsNm T P1 4 ∨ IsNm T P1 6) ∨ IsNm T P1 7) 2 P1) := hS1.dem hr hq95 (by omega) hib
    exact L98 _ _ w2 w3 (IsNm T P1 4 ∨ IsNm T P1 5) (IsNm T P1 4 ∨ IsNm T P1 6) t95 (hF1.tr hq95.1) heq (fun z => hn6 (demS_0 (by decide) z).1) hw2 hi2 hw3 hi3
  have L71 : ∀ (h1 : HM) (P1 : PS) (w2 w3 : Int), TS h1 u T len P1 → FrP u h h1 → fgS T len P D = fg1 T len P1 D → (P1.fnd = 0 → D.nf < 6) → (w2 = 0 ∨ w2 = 1) → (w2 = 1 ↔ (IsNm T P1 4 ∨ IsNm T P1 5)) → (w3 = 0 ∨ w3 = 1) → (w3 = 1 ↔ (IsNm T P1 4 ∨ IsNm T P1 6)) → Go G mX3_readFigure (rmo (d + 5) 0 0) (ZM G y 0 0 (fun r h1 => r = none ∧ (fun h1 => FrL u h h1 ∧ TS h1 u T len (fgS T len P D).1 ∧ DrC h1 u (fgS T len P D).2) h1)) y 71 [some (.ref u), none, some (.int (iZ w2)), some (.int (iZ w3)), none, none, none, none, none, none] [] h1 (0, 0) := by
    intro h1 P1 w2 w3 hS1 hF1 heq hn6 hw2 hi2 hw3 hi3
    have hf1 := hS1.f
    obtain ⟨qb1, qb2, qb3, qb4, qb5, qb6⟩ := id hS1.2.2
    have hb7 := pI_01 (IsNm T P1 7)
    have he7 := pI_eq1 (P := IsNm T P1 7)
    refine g_aload_n dX3_readFigure_71 rfl rfl (g_iload_n dX3_readFigure_72 rfl rfl ?_)
    refine g_if_ne 89 dX3_readFigure_73 rfl (by omega) (fun c73 => ?_) (fun c73 => ?_)
    · skip
      refine g_iconst dX3_readFigure_89 (g_goto 94 dX3_readFigure_90 rfl ?_)
      first
      | exact L94 h1 P1 w2 w3 1 hS1 hF1 heq hn6 hw2 hi2 hw3 hi3 (by omega) ⟨fun _ => by first | exact Or.inl (hi2.mp (by omega)) | exact Or.inr (Or.inl (hi3.mp (by omega))) | exact Or.inr (Or.inr (he7.mp (by omega))), fun _ => rfl⟩
      | exact L94 h1 P1 w2 w3 0 hS1 hF1 heq hn6 hw2 hi2 hw3 hi3 (by omega) ⟨fun z => by omega, fun z => by rcases z with z | z | z; (have := hi2.mpr z; omega); (have := hi3.mpr z; omega); (have := he7.mpr z; omega)⟩
    · skip
      refine g_iload_n dX3_readFigure_76 rfl rfl ?_
      refine g_if_ne 89 dX3_readFigure_77 rfl (by omega) (fun c77 => ?_) (fun c77 => ?_)
      · skip
        refine g_iconst dX3_readFigure_89 (g_goto 94 dX3_readFigure_90 rfl ?_)
        first
        | exact L94 h1 P1 w2 w3 1 hS1 hF1 heq hn6 hw2 hi2 hw3 hi3 (by omega) ⟨fun _ => by first | exact Or.inl (hi2.mp (by omega)) | exact Or.inr (Or.inl (hi3.mp (by omega))) | exact Or.inr (Or.inr (he7.mp (by omega))), fun _ => rfl⟩
        | exact L94 h1 P1 w2 w3 0 hS1 hF1 heq hn6 hw2 hi2 hw3 hi3 (by omega) ⟨fun z => by omega, fun z => by rcases z with z | z | z; (have := hi2.mpr z; omega); (have := hi3.mpr z; omega); (have := he7.mpr z; omega)⟩
      · skip
        refine g_aload_n dX3_readFigure_80 rfl rfl (g_ldcS 7 (by decide) (M := mX3_readFigure) rfl dX3_readFigure_81 (cv_X3_79 (M := mX3_readFigure) rfl dX3_readFigure_83 ho (RO.same _ _ _) (Nat.le_of_ble_eq_true rfl) (e_X3_isName hY ho hRt hRd hr hS1 (k := 7) (by decide)) <| kI ?_))
        refine g_if_eq 93 dX3_readFigure_86 rfl (by omega) (fun c86 => ?_) (fun c86 => ?_)
        · skip
          refine g_iconst dX3_readFigure_93 ?_
          first
          | exact L94 h1 P1 w2 w3 1 hS1 hF1 heq hn6 hw2 hi2 hw3 hi3 (by omega) ⟨fun _ => by first | exact Or.inl (hi2.mp (by omega)) | exact Or.inr (Or.inl (hi3.mp (by omega))) | exact Or.inr (Or.inr (he7.mp (by omega))), fun _ => rfl⟩
          | exact L94 h1 P1 w2 w3 0 hS1 hF1 heq hn6 hw2 hi2 hw3 hi3 (by omega) ⟨fun z => by omega, fun z => by rcases z with z | z | z; (have := hi2.mpr z; omega); (have := hi3.mpr z; omega); (have := he7.mpr z; omega)⟩
        · skip
          refine g_iconst dX3_readFigure_89 (g_goto 94 dX3_readFigure_90 rfl ?_)
          first
          | exact L94 h1 P1 w2 w3 1 hS1 hF1 heq hn6 hw2 hi2 hw3 hi3 (by omega) ⟨fun _ => by first | exact Or.inl (hi2.mp (by omega)) | exact Or.inr (Or.inl (hi3.mp (by omega))) | exact Or.inr (Or.inr (he7.mp (by omega))), fun _ => rfl⟩
          | exact L94 h1 P1 w2 w3 0 hS1 hF1 heq hn6 hw2 hi2 hw3 hi3 (by omega) ⟨fun z => by omega, fun z => by rcases z with z | z | z; (have := hi2.mpr z; omega); (have := hi3.mpr z; omega); (have := he7.mpr z; omega)⟩
  have L52 : ∀ (h1 : HM) (P1 : PS) (w2 : Int), TS h1 u T len P1 → FrP u h h1 → fgS T len P D = fg1 T len P1 D → (P1.fnd = 0 → D.nf < 6) → (w2 = 0 ∨ w2 = 1) → (w2 = 1 ↔ (IsNm T P1 4 ∨ IsNm T P1 5)) → Go G mX3_readFigure (rmo (d + 5) 0 0) (ZM G y 0 0 (fun r h1 => r = none ∧ (fun h1 => FrL u h h1 ∧ TS h1 u T len (fgS T len P D).1 ∧ DrC h1 u (fgS T len P D).2) h1)) y 52 [some (.ref u), some (.int (iZ (pI (IsNm T P1 4)))), some (.int (iZ w2)), none, none, none, none, none, none, none] [] h1 (0, 0) := by
    intro h1 P1 w2 hS1 hF1 heq hn6 hw2 hi2
    have hf1 := hS1.f
    obtain ⟨qb1, qb2, qb3, qb4, qb5, qb6⟩ := id hS1.2.2
    have hb4 := pI_01 (IsNm T P1 4)
    have he4 := pI_eq1 (P := IsNm T P1 4)
    have hb6 := pI_01 (IsNm T P1 6)
    have he6 := pI_eq1 (P := IsNm T P1 6)
    refine g_iload_n dX3_readFigure_52 rfl rfl ?_
    refine g_if_ne 65 dX3_readFigure_53 rfl (by omega) (fun c53 => ?_) (fun c53 => ?_)
    · skip
      refine g_iconst dX3_readFigure_65 (g_goto 70 dX3_readFigure_66 rfl (g_ist3 dX3_readFigure_70 (by decide) rfl (g_dr1 ?_)))
      first
      | exact L71 h1 P1 w2 1 hS1 hF1 heq hn6 hw2 hi2 (by omega) ⟨fun _ => by first | exact Or.inl (he4.mp (by omega)) | exact Or.inr (he6.mp (by omega)), fun _ => rfl⟩
      | exact L71 h1 P1 w2 0 hS1 hF1 heq hn6 hw2 hi2 (by omega) ⟨fun z => by omega, fun z => by rcases z with z | z; (have := he4.mpr z; omega); (have := he6.mpr z; omega)⟩
    · skip
      refine g_aload_n dX3_readFigure_56 rfl rfl (g_ldcS 6 (by decide) (M := mX3_readFigure) rfl dX3_readFigure_57 (cv_X3_79 (M := mX3_readFigure) rfl dX3_readFigure_59 ho (RO.same _ _ _) (Nat.le_of_ble_eq_true rfl) (e_X3_isName hY ho hRt hRd hr hS1 (k := 6) (by decide)) <| kI ?_))
      refine g_if_eq 69 dX3_readFigure_62 rfl (by omega) (fun c62 => ?_) (fun c62 => ?_)
      · skip
        refine g_iconst dX3_readFigure_69 (g_ist3 dX3_readFigure_70 (by decide) rfl (g_dr1 ?_))
        first
        | exact L71 h1 P1 w2 1 hS1 hF1 heq hn6 hw2 hi2 (by omega) ⟨fun _ => by first | exact Or.inl (he4.mp (by omega)) | exact Or.inr (he6.mp (by omega)), fun _ => rfl⟩
        | exact L71 h1 P1 w2 0 hS1 hF1 heq hn6 hw2 hi2 (by omega) ⟨fun z => by omega, fun z => by rcases z with z | z; (have := he4.mpr z; omega); (have := he6.mpr z; omega)⟩
      · skip
        refine g_iconst dX3_readFigure_65 (g_goto 70 dX3_readFigure_66 rfl (g_ist3 dX3_readFigure_70 (by decide) rfl (g_dr1 ?_)))
        first
        | exact L71 h1 P1 w2 1 hS1 hF1 heq hn6 hw2 hi2 (by omega) ⟨fun _ => by first | exact Or.inl (he4.mp (by omega)) | exact Or.inr (he6.mp (by omega)), fun _ => rfl⟩
        | exact L71 h1 P1 w2 0 hS1 hF1 heq hn6 hw2 hi2 (by omega) ⟨fun z => by omega, fun z => by rcases z with z | z; (have := he4.mpr z; omega); (have := he6.mpr z; omega)⟩
  have L26 : ∀ (h1 : HM) (P1 : PS), TS h1 u T len P1 → FrP u h h1 → fgS T len P D = fg1 T len P1 D → (P1.fnd = 0 → D.nf < 6) → Go G mX3_readFigure (rmo (d + 5) 0 0) (ZM G y 0 0 (fun r h1 => r = none ∧ (fun h1 => FrL u h h1 ∧ TS h1 u T len (fgS T len P D).1 ∧ DrC h1 u (fgS T len P D).2) h1)) y 26 [some (.ref u), none, none, none, none, none, none, none, none, none] [] h1 (0, 0) := by
    intro h1 P1 hS1 hF1 heq hn6
    have hf1 := hS1.f
    obtain ⟨qb1, qb2, qb3, qb4, qb5, qb6⟩ := id hS1.2.2
    have hb4 := pI_01 (IsNm T P1 4)
    have he4 := pI_eq1 (P := IsNm T P1 4)
    have hb5 := pI_01 (IsNm T P1 5)
    have he5 := pI_eq1 (P := IsNm T P1 5)
    refine g_aload_n dX3_readFigure_26 rfl rfl (g_ldcS 4 (by decide) (M := mX3_readFigure) rfl dX3_readFigure_27 (cv_X3_79 (M := mX3_readFigure) rfl dX3_readFigure_29 ho (RO.same _ _ _) (Nat.le_of_ble_eq_true rfl) (e_X3_isName hY ho hRt hRd hr hS1 (k := 4) (by decide)) <| kI (g_ist1 dX3_readFigure_32 (by decide) rfl (g_iload_n dX3_readFigure_33 rfl rfl ?_))))
    refine g_if_ne 46 dX3_readFigure_34 rfl (by omega) (fun c34 => ?_) (fun c34 => ?_)
    · skip
      refine g_iconst dX3_readFigure_46 (g_goto 51 dX3_readFigure_47 rfl (g_ist2 dX3_readFigure_51 (by decide) rfl ?_))
      first
      | exact L52 h1 P1 1 hS1 hF1 heq hn6 (by omega) ⟨fun _ => by first | exact Or.inl (he4.mp (by omega)) | exact Or.inr (he5.mp (by omega)), fun _ => rfl⟩
      | exact L52 h1 P1 0 hS1 hF1 heq hn6 (by omega) ⟨fun z => by omega, fun z => by rcases z with z | z; (have := he4.mpr z; omega); (have := he5.mpr z; omega)⟩
    · skip
      refine g_aload_n dX3_readFigure_37 rfl rfl (g_ldcS 5 (by decide) (M := mX3_readFigure) rfl dX3_readFigure_38 (cv_X3_79 (M := mX3_readFigure) rfl dX3_readFigure_40 ho (RO.same _ _ _) (Nat.le_of_ble_eq_true rfl) (e_X3_isName hY ho hRt hRd hr hS1 (k := 5) (by decide)) <| kI ?_))
      refine g_if_eq 50 dX3_readFigure_43 rfl (by omega) (fun c43 => ?_) (fun c43 => ?_)
      · skip
        refine g_iconst dX3_readFigure_50 (g_ist2 dX3_readFigure_51 (by decide) rfl ?_)
        first
        | exact L52 h1 P1 1 hS1 hF1 heq hn6 (by omega) ⟨fun _ => by first | exact Or.inl (he4.mp (by omega)) | exact Or.inr (he5.mp (by omega)), fun _ => rfl⟩
        | exact L52 h1 P1 0 hS1 hF1 heq hn6 (by omega) ⟨fun z => by omega, fun z => by rcases z with z | z; (have := he4.mpr z; omega); (have := he5.mpr z; omega)⟩
      · skip
        refine g_iconst dX3_readFigure_46 (g_goto 51 dX3_readFigure_47 rfl (g_ist2 dX3_readFigure_51 (by decide) rfl ?_))
        first
        | exact L52 h1 P1 1 hS1 hF1 heq hn6 (by omega) ⟨fun _ => by first | exact Or.inl (he4.mp (by omega)) | exact Or.inr (he5.mp (by omega)), fun _ => rfl⟩
        | exact L52 h1 P1 0 hS1 hF1 heq hn6 (by omega) ⟨fun z => by omega, fun z => by rcases z with z | z; (have := he4.mpr z; omega); (have := he5.mpr z; omega)⟩
  refine g_aload_n dX3_readFigure_0 rfl rfl (g_aload_n dX3_readFigure_1 rfl rfl (gf_X3_38 (M := mX3_readFigure) rfl dX3_readFigure_2 ho hRd (gf_X3_65 (M := mX3_readFigure) rfl dX3_readFigure_5 (ck_o hY clk40) (g_bipush dX3_readFigure_8 kb6 ?_))))
  refine g_icmp_ge 17 dX3_readFigure_10 rfl (by omega) (by omega) (fun c10 => ?_) (fun c10 => ?_)
  · skip
    refine g_iconst dX3_readFigure_17 (g_iconst dX3_readFigure_18 ?_)
    refine cv_X3_101 (M := mX3_readFigure) rfl dX3_readFigure_19 ho (RO.same _ _ _) (Nat.le_of_ble_eq_true rfl) (e_X3_demand hY ho hRt hRd hr (by omega) (by omega) (by omega)) (kQV fun h19 hq19 => ?_)
    have t19 : TS h19 u T len (demS (D.nf < 6) 5 P) := hS.dem hr hq19 (by omega) (by have := hD.1.1; omega)
    refine g_aload_n dX3_readFigure_22 rfl rfl ?_
    refine cv_X3_47 (M := mX3_readFigure) rfl dX3_readFigure_23 ho (RO.same _ _ _) (Nat.le_of_ble_eq_true rfl) (e_X3_advance hY ho hRt hRd hr t19) (kQV fun h23 hq23 => ?_)
    exact L26 _ _ hq23.2 (hq19.1.tr hq23.1) rfl (fun z => (demS_0 (by decide) (advS_0 z)).2)
  · skip
    refine g_iconst dX3_readFigure_13 (g_goto 18 dX3_readFigure_14 rfl (g_iconst dX3_readFigure_18 ?_))
    refine cv_X3_101 (M := mX3_readFigure) rfl dX3_readFigure_19 ho (RO.same _ _ _) (Nat.le_of_ble_eq_true rfl) (e_X3_demand hY ho hRt hRd hr (by omega) (by omega) (by omega)) (kQV fun h19 hq19 => ?_)
    have t19 : TS h19 u T len (demS (D.nf < 6) 5 P) := hS.dem hr hq19 (by omega) (by have := hD.1.1; omega)
    refine g_aload_n dX3_readFigure_22 rfl rfl ?_
    refine cv_X3_47 (M := mX3_readFigure) rfl dX3_readFigure_23 ho (RO.same _ _ _) (Nat.le_of_ble_eq_true rfl) (e_X3_advance hY ho hRt hRd hr t19) (kQV fun h23 hq23 => ?_)
    exact L26 _ _ hq23.2 (hq19.1.tr hq23.1) rfl (fun z => (demS_0 (by decide) (advS_0 z)).2)
set_option maxRecDepth 100000 in
set_option maxHeartbeats 1000000 in
theorem e_X3_readLine {G : GX} {y : LY} {h : HM} {d : Nat} (hY : Lay y) {u : Nat} (ho : IsO y u 3) (hRt : y.R u 0 = some 10) (hRd : y.R u 1 = some 40) (hr : 161 ≤ u) {T : Nat → Int} {len : Int} {P : PS} (hS : TS h u T len P) {D : DT} (hD : DrC h u D) (hV : DV D) : EvQV G mX3_readLine (d + 6) [.ref u] y h (fun h1 => FrL u h h1 ∧ TS h1 u T len (liS T len P D).1 ∧ DrC h1 u (liS T len P D).2) := by
  have hf := hS.f
  have hTP := hS.1
  have hPB := hS.2.2
  have hln := hTP.2.2.1
  have hl10 := hTP.2.1
  obtain ⟨pb1, pb2, pb3, pb4, pb5, pb6⟩ := id hPB
  have hDb := hD.b hV
  have hDf := hD
  have hb0 := pI_01 (IsNm T P 0)
  have he0 := pI_eq1 (P := IsNm T P 0)
  have hb1 := pI_01 (IsNm T P 1)
  have he1 := pI_eq1 (P := IsNm T P 1)
  have hb2 := pI_01 (IsNm T P 2)
  have he2 := pI_eq1 (P := IsNm T P 2)
  have hb3 := pI_01 (IsNm T P 3)
  have he3 := pI_eq1 (P := IsNm T P 3)
  refine Ev.of rfl [some (.ref u)] rfl (Nat.le_of_ble_eq_true rfl) ?_
  refine g_aload_n dX3_readLine_0 rfl rfl (g_ldcS 0 (by decide) (M := mX3_readLine) rfl dX3_readLine_1 (cv_X3_79 (M := mX3_readLine) rfl dX3_readLine_3 ho (RO.same _ _ _) (Nat.le_of_ble_eq_true rfl) (e_X3_isName hY ho hRt hRd hr hS (k := 0) (by decide)) <| kI ?_))
  refine g_if_eq 16 dX3_readLine_6 rfl (by omega) (fun c6 => ?_) (fun c6 => ?_)
  · skip
    refine g_aload_n dX3_readLine_16 rfl rfl (g_ldcS 1 (by decide) (M := mX3_readLine) rfl dX3_readLine_17 (cv_X3_79 (M := mX3_readLine) rfl dX3_readLine_19 ho (RO.same _ _ _) (Nat.le_of_ble_eq_true rfl) (e_X3_isName hY ho hRt hRd hr hS (k := 1) (by decide)) <| kI ?_))
    refine g_if_eq 32 dX3_readLine_22 rfl (by omega) (fun c22 => ?_) (fun c22 => ?_)
    · skip
      refine g_aload_n dX3_readLine_32 rfl rfl (g_ldcS 2 (by decide) (M := mX3_readLine) rfl dX3_readLine_33 (cv_X3_79 (M := mX3_readLine) rfl dX3_readLine_35 ho (RO.same _ _ _) (Nat.le_of_ble_eq_true rfl) (e_X3_isName hY ho hRt hRd hr hS (k := 2) (by decide)) <| kI ?_))
      refine g_if_eq 48 dX3_readLine_38 rfl (by omega) (fun c38 => ?_) (fun c38 => ?_)
      · skip
        refine g_aload_n dX3_readLine_48 rfl rfl (g_ldcS 3 (by decide) (M := mX3_readLine) rfl dX3_readLine_49 (cv_X3_79 (M := mX3_readLine) rfl dX3_readLine_51 ho (RO.same _ _ _) (Nat.le_of_ble_eq_true rfl) (e_X3_isName hY ho hRt hRd hr hS (k := 3) (by decide)) <| kI ?_))
        refine g_if_eq 64 dX3_readLine_54 rfl (by omega) (fun c54 => ?_) (fun c54 => ?_)
        · skip
          refine g_aload_n dX3_readLine_64 rfl rfl (g_iconst dX3_readLine_65 (g_aload_n dX3_readLine_66 rfl rfl (gf_X3_15 (M := mX3_readLine) rfl dX3_readLine_67 ho ?_)))
          refine cv_X3_73 (M := mX3_readLine) rfl dX3_readLine_70 ho (RO.same _ _ _) (Nat.le_of_ble_eq_true rfl) (e_X3_refuse hY ho hRt hRd hr (by omega) (by omega)) (kQV fun h70 hq70 => ?_)
          exact g_vret dX3_readLine_73 rfl rfl ⟨Nat.le_refl _, Nat.le_refl _⟩ (by first | (rw [show liS T len P D = fgS T len P D from cnd_t (he0.mp (by omega))]; exact ⟨rfl, hq10⟩) | (rw [show liS T len P D = stS T len P D from (cnd_f (fun z => by have := he0.mpr z; omega)).trans (cnd_t (he1.mp (by omega)))]; exact ⟨rfl, hq26⟩) | (rw [show liS T len P D = reS T len P D from (cnd_f (fun z => by have := he0.mpr z; omega)).trans ((cnd_f (fun z => by have := he1.mpr z; omega)).trans (cnd_t (he2.mp (by omega))))]; exact ⟨rfl, hq42⟩) | (rw [show liS T len P D = voS T len P D from (cnd_f (fun z => by have := he0.mpr z; omega)).trans ((cnd_f (fun z => by have := he1.mpr z; omega)).trans ((cnd_f (fun z => by have := he2.mpr z; omega)).trans (cnd_t (he3.mp (by omega)))))]; exact ⟨rfl, hq58⟩) | (rw [show liS T len P D = (demS False 2 P, D) from (cnd_f (fun z => by have := he0.mpr z; omega)).trans ((cnd_f (fun z => by have := he1.mpr z; omega)).trans ((cnd_f (fun z => by have := he2.mpr z; omega)).trans (cnd_f (fun z => by have := he3.mpr z; omega))))]; exact ⟨rfl, hq70.1.l, hS.dem hr (B := False) ⟨hq70.1, by rw [hq70.2]; exact ref_dem (P := rdP h u) id⟩ (by omega) Iff.rfl, hD.fr hV hr hq70.1⟩))
        · skip
          refine g_aload_n dX3_readLine_57 rfl rfl ?_
          refine cv_X3_98 (M := mX3_readLine) rfl dX3_readLine_58 ho (RO.same _ _ _) (Nat.le_of_ble_eq_true rfl) (e_X3_readVote hY ho hRt hRd hr hS hD hV) (kQV fun h58 hq58 => ?_)
          refine g_goto 73 dX3_readLine_61 rfl ?_
          exact g_vret dX3_readLine_73 rfl rfl ⟨Nat.le_refl _, Nat.le_refl _⟩ (by first | (rw [show liS T len P D = fgS T len P D from cnd_t (he0.mp (by omega))]; exact ⟨rfl, hq10⟩) | (rw [show liS T len P D = stS T len P D from (cnd_f (fun z => by have := he0.mpr z; omega)).trans (cnd_t (he1.mp (by omega)))]; exact ⟨rfl, hq26⟩) | (rw [show liS T len P D = reS T len P D from (cnd_f (fun z => by have := he0.mpr z; omega)).trans ((cnd_f (fun z => by have := he1.mpr z; omega)).trans (cnd_t (he2.mp (by omega))))]; exact ⟨rfl, hq42⟩) | (rw [show liS T len P D = voS T len P D from (cnd_f (fun z => by have := he0.mpr z; omega)).trans ((cnd_f (fun z => by have := he1.mpr z; omega)).trans ((cnd_f (fun z => by have := he2.mpr z; omega)).trans (cnd_t (he3.mp (by omega)))))]; exact ⟨rfl, hq58⟩) | (rw [show liS T len P D = (demS False 2 P, D) from (cnd_f (fun z => by have := he0.mpr z; omega)).trans ((cnd_f (fun z => by have := he1.mpr z; omega)).trans ((cnd_f (fun z => by have := he2.mpr z; omega)).trans (cnd_f (fun z => by have := he3.mpr z; omega))))]; exact ⟨rfl, hq70.1.l, hS.dem hr (B := False) ⟨hq70.1, by rw [hq70.2]; exact ref_dem (P := rdP h u) id⟩ (by omega) Iff.rfl, hD.fr hV hr hq70.1⟩))
      · skip
        refine g_aload_n dX3_readLine_41 rfl rfl ?_
        refine cv_X3_93 (M := mX3_readLine) rfl dX3_readLine_42 ho (RO.same _ _ _) (Nat.le_of_ble_eq_true rfl) (e_X3_readReach hY ho hRt hRd hr hS hD hV) (kQV fun h42 hq42 => ?_)
        refine g_goto 73 dX3_readLine_45 rfl ?_
        exact g_vret dX3_readLine_73 rfl rfl ⟨Nat.le_refl _, Nat.le_refl _⟩ (by first | (rw [show liS T len P D = fgS T len P D from cnd_t (he0.mp (by omega))]; exact ⟨rfl, hq10⟩) | (rw [show liS T len P D = stS T len P D from (cnd_f (fun z => by have := he0.mpr z; omega)).trans (cnd_t (he1.mp (by omega)))]; exact ⟨rfl, hq26⟩) | (rw [show liS T len P D = reS T len P D from (cnd_f (fun z => by have := he0.mpr z; omega)).trans ((cnd_f (fun z => by have := he1.mpr z; omega)).trans (cnd_t (he2.mp (by omega))))]; exact ⟨rfl, hq42⟩) | (rw [show liS T len P D = voS T len P D from (cnd_f (fun z => by have := he0.mpr z; omega)).trans ((cnd_f (fun z => by have := he1.mpr z; omega)).trans ((cnd_f (fun z => by have := he2.mpr z; omega)).trans (cnd_t (he3.mp (by omega)))))]; exact ⟨rfl, hq58⟩) | (rw [show liS T len P D = (demS False 2 P, D) from (cnd_f (fun z => by have := he0.mpr z; omega)).trans ((cnd_f (fun z => by have := he1.mpr z; omega)).trans ((cnd_f (fun z => by have := he2.mpr z; omega)).trans (cnd_f (fun z => by have := he3.mpr z; omega))))]; exact ⟨rfl, hq70.1.l, hS.dem hr (B := False) ⟨hq70.1, by rw [hq70.2]; exact ref_dem (P := rdP h u) id⟩ (by omega) Iff.rfl, hD.fr hV hr hq70.1⟩))
    · skip
      refine g_aload_n dX3_readLine_25 rfl rfl ?_
      refine cv_X3_88 (M := mX3_readLine) rfl dX3_readLine_26 ho (RO.same _ _ _) (Nat.le_of_ble_eq_true rfl) (e_X3_readStick hY ho hRt hRd hr hS hD hV) (kQV fun h26 hq26 => ?_)
      refine g_goto 73 dX3_readLine_29 rfl ?_
      exact g_vret dX3_readLine_73 rfl rfl ⟨Nat.le_refl _, Nat.le_refl _⟩ (by first | (rw [show liS T len P D = fgS T len P D from cnd_t (he0.mp (by omega))]; exact ⟨rfl, hq10⟩) | (rw [show liS T len P D = stS T len P D from (cnd_f (fun z => by have := he0.mpr z; omega)).trans (cnd_t (he1.mp (by omega)))]; exact ⟨rfl, hq26⟩) | (rw [show liS T len P D = reS T len P D from (cnd_f (fun z => by have := he0.mpr z; omega)).trans ((cnd_f (fun z => by have := he1.mpr z; omega)).trans (cnd_t (he2.mp (by omega))))]; exact ⟨rfl, hq42⟩) | (rw [show liS T len P D = voS T len P D from (cnd_f (fun z => by have := he0.mpr z; omega)).trans ((cnd_f (fun z => by have := he1.mpr z; omega)).trans ((cnd_f (fun z => by have := he2.mpr z; omega)).trans (cnd_t (he3.mp (by omega)))))]; exact ⟨rfl, hq58⟩) | (rw [show liS T len P D = (demS False 2 P, D) from (cnd_f (fun z => by have := he0.mpr z; omega)).trans ((cnd_f (fun z => by have := he1.mpr z; omega)).trans ((cnd_f (fun z => by have := he2.mpr z; omega)).trans (cnd_f (fun z => by have := he3.mpr z; omega))))]; exact ⟨rfl, hq70.1.l, hS.dem hr (B := False) ⟨hq70.1, by rw [hq70.2]; exact ref_dem (P := rdP h u) id⟩ (by omega) Iff.rfl, hD.fr hV hr hq70.1⟩))
  · skip
    refine g_aload_n dX3_readLine_9 rfl rfl ?_
    refine cv_X3_83 (M := mX3_readLine) rfl dX3_readLine_10 ho (RO.same _ _ _) (Nat.le_of_ble_eq_true rfl) (e_X3_readFigure hY ho hRt hRd hr hS hD hV) (kQV fun h10 hq10 => ?_)
    refine g_goto 73 dX3_readLine_13 rfl ?_
    exact g_vret dX3_readLine_73 rfl rfl ⟨Nat.le_refl _, Nat.le_refl _⟩ (by first | (rw [show liS T len P D = fgS T len P D from cnd_t (he0.mp (by omega))]; exact ⟨rfl, hq10⟩) | (rw [show liS T len P D = stS T len P D from (cnd_f (fun z => by have := he0.mpr z; omega)).trans (cnd_t (he1.mp (by omega)))]; exact ⟨rfl, hq26⟩) | (rw [show liS T len P D = reS T len P D from (cnd_f (fun z => by have := he0.mpr z; omega)).trans ((cnd_f (fun z => by have := he1.mpr z; omega)).trans (cnd_t (he2.mp (by omega))))]; exact ⟨rfl, hq42⟩) | (rw [show liS T len P D = voS T len P D from (cnd_f (fun z => by have := he0.mpr z; omega)).trans ((cnd_f (fun z => by have := he1.mpr z; omega)).trans ((cnd_f (fun z => by have := he2.mpr z; omega)).trans (cnd_t (he3.mp (by omega)))))]; exact ⟨rfl, hq58⟩) | (rw [show liS T len P D = (demS False 2 P, D) from (cnd_f (fun z => by have := he0.mpr z; omega)).trans ((cnd_f (fun z => by have := he1.mpr z; omega)).trans ((cnd_f (fun z => by have := he2.mpr z; omega)).trans (cnd_f (fun z => by have := he3.mpr z; omega))))]; exact ⟨rfl, hq70.1.l, hS.dem hr (B := False) ⟨hq70.1, by rw [hq70.2]; exact ref_dem (P := rdP h u) id⟩ (by omega) Iff.rfl, hD.fr hV hr hq70.1⟩))
