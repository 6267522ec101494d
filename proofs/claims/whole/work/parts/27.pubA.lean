def sp_rule (nf sd sf s2 rc nv w : Int) : Int := if w = 0 then nf else if w = 1 then sd else if w = 2 then sf else if w = 3 then s2 else if w = 4 then rc else if w = 5 then nv else -1
def sp_fig (nf : Int) (F : Fg) (f w : Int) : Int := if ¬ (0 ≤ f ∧ f < nf) then -1 else if w = 0 then kndF F.la F.ga else if w = 1 then F.te else if w = 2 then F.st else if w = 3 then F.dr else if w = 4 then (if 0 < F.la then F.la else -4) else if w = 5 then (if 0 < F.ga then F.ga else -4) else if w = 6 then rn F else -1
def sp_vote (nv : Int) (V : Fg) (v w : Int) : Int := if ¬ (0 ≤ v ∧ v < nv) then -1 else if w = 0 then V.1 else if w = 1 then V.2.1 else if w = 2 then V.2.2.1 else if w = 3 then V.2.2.2.1 else if w = 4 then V.2.2.2.2 else -1
noncomputable def sp_out (nf : Int) (F : Fg) (f t : Int) : Int := if ¬ (0 ≤ f ∧ f < nf) ∨ ¬ (0 ≤ t ∧ t ≤ 1000000000000) then -1 else pI (OutF F t)
def sp_date (t w : Int) : Int := if ¬ (0 ≤ t ∧ t ≤ 1000000000000) ∨ ¬ (w = 0 ∨ w = 1) then -1 else if w = 0 then yro t else dyo t
def sp_day (a d : Int) : Int := if a < 0 ∨ 9999 < a ∨ d < 0 ∨ (if a % 4 = 0 then 366 else 365) ≤ d then -1 else a * 365 + (a + 3) / 4 + d
noncomputable def sp_by (nf : Int) (F : Fg) (sd sf s2 f t : Int) : Int := if ¬ (0 ≤ f ∧ f < nf) ∨ ¬ (0 ≤ t ∧ t ≤ 1000000000000) then -1 else if pI (OutF F t) = 1 then dorS F.dr sd sf s2 (dyo t) else -4
set_option maxRecDepth 100000 in
set_option maxHeartbeats 1000000 in
theorem e_X8_fault {G : GX} {y : LY} {h : HM} {d : Nat} (hY : Lay y) : EvI G mX8_fault (d) [.ref 9] y h (h.I 9 11) := by
  refine Ev.of rfl [some (.ref 9)] rfl (Nat.le_of_ble_eq_true rfl) ?_
  refine g_aload_n dX8_fault_0 rfl rfl (gf_X8_64 (M := mX8_fault) rfl dX8_fault_1 (yo9 hY) ?_)
  exact g_iret dX8_fault_4 rfl rfl ⟨Nat.le_refl _, Nat.le_refl _⟩ (by exact ⟨rfl, rfl⟩)
set_option maxRecDepth 100000 in
set_option maxHeartbeats 1000000 in
theorem e_X8_torn {G : GX} {y : LY} {h : HM} {d : Nat} (hY : Lay y) : EvI G mX8_torn (d) [.ref 9] y h (h.I 9 12) := by
  refine Ev.of rfl [some (.ref 9)] rfl (Nat.le_of_ble_eq_true rfl) ?_
  refine g_aload_n dX8_torn_0 rfl rfl (gf_X8_68 (M := mX8_torn) rfl dX8_torn_1 (yo9 hY) ?_)
  exact g_iret dX8_torn_4 rfl rfl ⟨Nat.le_refl _, Nat.le_refl _⟩ (by exact ⟨rfl, rfl⟩)
set_option maxRecDepth 100000 in
set_option maxHeartbeats 1000000 in
theorem e_X8_feed {G : GX} {y : LY} {h : HM} {d : Nat} (hY : Lay y) {v : Int} (hl : 0 ≤ h.I 10 1 ∧ h.I 10 1 ≤ 400) : EvQX G mX8_feed (d + 1) [.ref 9, .long (lZ v)] y h (fun r h1 => (392 < h.I 10 1 ∧ r = -3 ∧ h1 = h) ∨ (h.I 10 1 ≤ 392 ∧ r = h.I 10 1 + 8 ∧ h1 = tkH h v)) := by
  refine Ev.of rfl [some (.ref 9), some (.long (lZ v)), none] rfl (Nat.le_of_ble_eq_true rfl) ?_
  refine g_aload_n dX8_feed_0 rfl rfl (gf_X8_12 (M := mX8_feed) rfl dX8_feed_1 (yo9 hY) (yr9_0 hY) (g_lload_n dX8_feed_4 rfl rfl ?_))
  refine cv_X8_72 (M := mX8_feed) rfl dX8_feed_5 (yo10 hY) (RO.same _ _ _) (Nat.le_of_ble_eq_true rfl) (e_X6_take hY hl) (kQX fun v5 h5 hq5 => ?_)
  have hv01 : v5 = 0 ∨ v5 = 1 := by rcases hq5 with q | q <;> omega
  refine g_if_eq 21 dX8_feed_8 rfl (by omega) (fun c8 => ?_) (fun c8 => ?_)
  · skip
    refine g_bipush dX8_feed_21 kbm3 ?_
    exact g_iret dX8_feed_23 rfl rfl ⟨Nat.le_refl _, Nat.le_refl _⟩ (by first | (rcases hq5 with q | q; exact ⟨-3, rfl, Or.inl ⟨q.1, rfl, q.2.2⟩⟩; omega) | (rcases hq5 with q | q; omega; exact ⟨_, rfl, Or.inr ⟨q.1, by rw [q.2.2]; simp [tkH, sI_I], q.2.2⟩⟩))
  · skip
    refine g_aload_n dX8_feed_11 rfl rfl (gf_X8_12 (M := mX8_feed) rfl dX8_feed_12 (yo9 hY) (yr9_0 hY) (gf_X8_76 (M := mX8_feed) rfl dX8_feed_15 (yo10 hY) (g_goto 23 dX8_feed_18 rfl ?_)))
    exact g_iret dX8_feed_23 rfl rfl ⟨Nat.le_refl _, Nat.le_refl _⟩ (by first | (rcases hq5 with q | q; exact ⟨-3, rfl, Or.inl ⟨q.1, rfl, q.2.2⟩⟩; omega) | (rcases hq5 with q | q; omega; exact ⟨_, rfl, Or.inr ⟨q.1, by rw [q.2.2]; simp [tkH, sI_I], q.2.2⟩⟩))
set_option maxRecDepth 100000 in
set_option maxHeartbeats 1000000 in
theorem e_X8_end {G : GX} {y : LY} {h : HM} {d : Nat} (hY : Lay y) {n : Int} (hn : R32 n) (hl : 0 ≤ h.I 10 1 ∧ h.I 10 1 ≤ 400) : EvQX G mX8_end (d) [.ref 9, .int (iZ n)] y h (fun r h1 => (¬ (0 ≤ n ∧ n ≤ h.I 10 1) ∧ r = -1 ∧ h1 = h) ∨ ((0 ≤ n ∧ n ≤ h.I 10 1) ∧ r = h.I 10 1 ∧ h1 = h.sI 10 1 n)) := by
  refine Ev.of rfl [some (.ref 9), some (.int (iZ n)), none] rfl (Nat.le_of_ble_eq_true rfl) ?_
  refine g_iload_n dX8_end_0 rfl rfl ?_
  refine g_if_lt 15 dX8_end_1 rfl (by omega) (fun c1 => ?_) (fun c1 => ?_)
  · skip
    refine g_iconst dX8_end_15 ?_
    exact g_iret dX8_end_16 rfl rfl ⟨Nat.le_refl _, Nat.le_refl _⟩ (by first | exact ⟨-1, rfl, Or.inl ⟨by omega, rfl, rfl⟩⟩ | exact ⟨_, rfl, Or.inr ⟨by omega, rfl, rfl⟩⟩)
  · skip
    refine g_iload_n dX8_end_4 rfl rfl (g_aload_n dX8_end_5 rfl rfl (gf_X8_12 (M := mX8_end) rfl dX8_end_6 (yo9 hY) (yr9_0 hY) (gf_X8_76 (M := mX8_end) rfl dX8_end_9 (yo10 hY) ?_)))
    refine g_icmp_le 17 dX8_end_12 rfl (by omega) (by omega) (fun c12 => ?_) (fun c12 => ?_)
    · skip
      refine g_aload_n dX8_end_17 rfl rfl (gf_X8_12 (M := mX8_end) rfl dX8_end_18 (yo9 hY) (yr9_0 hY) (gf_X8_76 (M := mX8_end) rfl dX8_end_21 (yo10 hY) (g_ist2 dX8_end_24 (by decide) rfl (g_aload_n dX8_end_25 rfl rfl (gf_X8_12 (M := mX8_end) rfl dX8_end_26 (yo9 hY) (yr9_0 hY) (g_iload_n dX8_end_29 rfl rfl (pf_X8_76 (M := mX8_end) rfl dX8_end_30 (yo10 hY) (g_iload_n dX8_end_33 rfl rfl ?_))))))))
      exact g_iret dX8_end_34 rfl rfl ⟨Nat.le_refl _, Nat.le_refl _⟩ (by first | exact ⟨-1, rfl, Or.inl ⟨by omega, rfl, rfl⟩⟩ | exact ⟨_, rfl, Or.inr ⟨by omega, rfl, rfl⟩⟩)
    · skip
      refine g_iconst dX8_end_15 ?_
      exact g_iret dX8_end_16 rfl rfl ⟨Nat.le_refl _, Nat.le_refl _⟩ (by first | exact ⟨-1, rfl, Or.inl ⟨by omega, rfl, rfl⟩⟩ | exact ⟨_, rfl, Or.inr ⟨by omega, rfl, rfl⟩⟩)
set_option maxRecDepth 100000 in
set_option maxHeartbeats 1000000 in
theorem e_X8_rule {G : GX} {y : LY} {h : HM} {d : Nat} (hY : Lay y) {w : Int} (hw : R32 w) : EvI G mX8_rule (d) [.ref 9, .int (iZ w)] y h (sp_rule (h.I 12 3) (h.I 12 6) (h.I 12 7) (h.I 12 8) (h.I 12 9) (h.I 12 4) w) := by
  refine Ev.of rfl [some (.ref 9), some (.int (iZ w))] rfl (Nat.le_of_ble_eq_true rfl) ?_
  refine g_iload_n dX8_rule_0 rfl rfl ?_
  by_cases sw1 : w < 0 ∨ 5 < w
  · refine g_tsOut 88 dX8_rule_1 (by omega) sw1 rfl ?_
    refine g_iconst dX8_rule_88 ?_
    exact g_iret dX8_rule_89 rfl rfl ⟨Nat.le_refl _, Nat.le_refl _⟩ (by exact ⟨someI (by unfold sp_rule; repeat (split) <;> first | rfl | (exfalso; omega) | omega), rfl⟩)
  · rcases (by omega : w = 0 ∨ w = 1 ∨ w = 2 ∨ w = 3 ∨ w = 4 ∨ w = 5) with rfl | rfl | rfl | rfl | rfl | rfl
    · refine g_tsIn 40 dX8_rule_1 (by decide) (by decide) (by decide) rfl rfl ?_
      refine g_aload_n dX8_rule_40 rfl rfl (gf_X8_19 (M := mX8_rule) rfl dX8_rule_41 (yo9 hY) (yr9_1 hY) (gf_X8_98 (M := mX8_rule) rfl dX8_rule_44 (ck_o hY clk12) ?_))
      exact g_iret dX8_rule_47 rfl rfl ⟨Nat.le_refl _, Nat.le_refl _⟩ (by exact ⟨someI (by unfold sp_rule; repeat (split) <;> first | rfl | (exfalso; omega) | omega), rfl⟩)
    · refine g_tsIn 48 dX8_rule_1 (by decide) (by decide) (by decide) rfl rfl ?_
      refine g_aload_n dX8_rule_48 rfl rfl (gf_X8_19 (M := mX8_rule) rfl dX8_rule_49 (yo9 hY) (yr9_1 hY) (gf_X8_101 (M := mX8_rule) rfl dX8_rule_52 (ck_o hY clk12) ?_))
      exact g_iret dX8_rule_55 rfl rfl ⟨Nat.le_refl _, Nat.le_refl _⟩ (by exact ⟨someI (by unfold sp_rule; repeat (split) <;> first | rfl | (exfalso; omega) | omega), rfl⟩)
    · refine g_tsIn 56 dX8_rule_1 (by decide) (by decide) (by decide) rfl rfl ?_
      refine g_aload_n dX8_rule_56 rfl rfl (gf_X8_19 (M := mX8_rule) rfl dX8_rule_57 (yo9 hY) (yr9_1 hY) (gf_X8_104 (M := mX8_rule) rfl dX8_rule_60 (ck_o hY clk12) ?_))
      exact g_iret dX8_rule_63 rfl rfl ⟨Nat.le_refl _, Nat.le_refl _⟩ (by exact ⟨someI (by unfold sp_rule; repeat (split) <;> first | rfl | (exfalso; omega) | omega), rfl⟩)
    · refine g_tsIn 64 dX8_rule_1 (by decide) (by decide) (by decide) rfl rfl ?_
      refine g_aload_n dX8_rule_64 rfl rfl (gf_X8_19 (M := mX8_rule) rfl dX8_rule_65 (yo9 hY) (yr9_1 hY) (gf_X8_107 (M := mX8_rule) rfl dX8_rule_68 (ck_o hY clk12) ?_))
      exact g_iret dX8_rule_71 rfl rfl ⟨Nat.le_refl _, Nat.le_refl _⟩ (by exact ⟨someI (by unfold sp_rule; repeat (split) <;> first | rfl | (exfalso; omega) | omega), rfl⟩)
    · refine g_tsIn 72 dX8_rule_1 (by decide) (by decide) (by decide) rfl rfl ?_
      refine g_aload_n dX8_rule_72 rfl rfl (gf_X8_19 (M := mX8_rule) rfl dX8_rule_73 (yo9 hY) (yr9_1 hY) (gf_X8_110 (M := mX8_rule) rfl dX8_rule_76 (ck_o hY clk12) ?_))
      exact g_iret dX8_rule_79 rfl rfl ⟨Nat.le_refl _, Nat.le_refl _⟩ (by exact ⟨someI (by unfold sp_rule; repeat (split) <;> first | rfl | (exfalso; omega) | omega), rfl⟩)
    · refine g_tsIn 80 dX8_rule_1 (by decide) (by decide) (by decide) rfl rfl ?_
      refine g_aload_n dX8_rule_80 rfl rfl (gf_X8_19 (M := mX8_rule) rfl dX8_rule_81 (yo9 hY) (yr9_1 hY) (gf_X8_113 (M := mX8_rule) rfl dX8_rule_84 (ck_o hY clk12) ?_))
      exact g_iret dX8_rule_87 rfl rfl ⟨Nat.le_refl _, Nat.le_refl _⟩ (by exact ⟨someI (by unfold sp_rule; repeat (split) <;> first | rfl | (exfalso; omega) | omega), rfl⟩)
set_option maxRecDepth 100000 in
set_option maxHeartbeats 1000000 in
theorem e_X8_figure {G : GX} {y : LY} {h : HM} {d : Nat} (hY : Lay y) {f w : Int} (hf : R32 f) (hw : R32 w) (hC : CF h 12) : EvI G mX8_figure (d + 1) [.ref 9, .int (iZ f), .int (iZ w)] y h (sp_fig (h.I 12 3) (cFs h 12 f.toNat) f w) := by
  have hnf := hC.1
  have hpf := pI_01 (0 ≤ f ∧ f < h.I 12 3)
  have hpf2 := pI_eq1 (P := 0 ≤ f ∧ f < h.I 12 3)
  have tF : (cFs h 12 f.toNat).te = h.I (12 + 4 + f.toNat) 0 ∧ (cFs h 12 f.toNat).st = h.I (12 + 4 + f.toNat) 1 ∧ (cFs h 12 f.toNat).dr = h.I (12 + 4 + f.toNat) 2 ∧ (cFs h 12 f.toNat).la = h.I (12 + 4 + f.toNat) 3 ∧ (cFs h 12 f.toNat).ga = h.I (12 + 4 + f.toNat) 4 := ⟨rfl, rfl, rfl, rfl, rfl⟩
  refine Ev.of rfl [some (.ref 9), some (.int (iZ f)), some (.int (iZ w)), none] rfl (Nat.le_of_ble_eq_true rfl) ?_
  refine g_aload_n dX8_figure_0 rfl rfl (g_iload_n dX8_figure_1 rfl rfl (cv_X8_116 (M := mX8_figure) rfl dX8_figure_2 (yo9 hY) (RO.same _ _ _) (Nat.le_of_ble_eq_true rfl) (e_X8_isFigure hY (by omega) (by omega)) <| kI ?_))
  refine g_if_ne 10 dX8_figure_5 rfl (by omega) (fun c5 => ?_) (fun c5 => ?_)
  · skip
    have hFf := hC.2 f (by omega) (by omega)
    refine g_aload_n dX8_figure_10 rfl rfl (gf_X8_19 (M := mX8_figure) rfl dX8_figure_11 (yo9 hY) (yr9_1 hY) (gf_X8_120 (M := mX8_figure) rfl dX8_figure_14 (ck_o hY clk12) (ck_r0 hY clk12) (g_iload_n dX8_figure_17 rfl rfl (g_aald dX8_figure_18 (ck_a0 hY clk12) (by decide) (D0 := "ClockTeeth$Figure") rfl ⟨by omega, by omega, by omega⟩ (ck_fr hY clk12 (by omega)) (g_ast3 dX8_figure_19 (by decide) rfl (g_iload_n dX8_figure_20 rfl rfl ?_))))))
    by_cases sw21 : w < 0 ∨ 6 < w
    · refine g_tsOut 123 dX8_figure_21 (by omega) sw21 rfl ?_
      refine g_iconst dX8_figure_123 ?_
      exact g_iret dX8_figure_124 rfl rfl ⟨Nat.le_refl _, Nat.le_refl _⟩ (by exact ⟨someI (by unfold sp_fig; repeat (split) <;> first | rfl | (exfalso; omega) | omega), rfl⟩)
    · rcases (by omega : w = 0 ∨ w = 1 ∨ w = 2 ∨ w = 3 ∨ w = 4 ∨ w = 5 ∨ w = 6) with rfl | rfl | rfl | rfl | rfl | rfl | rfl
      · refine g_tsIn 64 dX8_figure_21 (by decide) (by decide) (by decide) rfl rfl ?_
        refine g_aload_n dX8_figure_64 rfl rfl (cv_X8_124 (M := mX8_figure) rfl dX8_figure_65 (ck_fo hY clk12 (by omega)) (RO.same _ _ _) (Nat.le_of_ble_eq_true rfl) (e_X1_kind (ck_fo hY clk12 (by omega)) (by omega) (by omega)) <| kI ?_)
        exact g_iret dX8_figure_68 rfl rfl ⟨Nat.le_refl _, Nat.le_refl _⟩ (by exact ⟨someI (by unfold sp_fig; repeat (split) <;> first | rfl | (exfalso; omega) | omega), rfl⟩)
      · refine g_tsIn 69 dX8_figure_21 (by decide) (by decide) (by decide) rfl rfl ?_
        refine g_aload_n dX8_figure_69 rfl rfl (gf_X8_127 (M := mX8_figure) rfl dX8_figure_70 (ck_fo hY clk12 (by omega)) ?_)
        exact g_iret dX8_figure_73 rfl rfl ⟨Nat.le_refl _, Nat.le_refl _⟩ (by exact ⟨someI (by unfold sp_fig; repeat (split) <;> first | rfl | (exfalso; omega) | omega), rfl⟩)
      · refine g_tsIn 74 dX8_figure_21 (by decide) (by decide) (by decide) rfl rfl ?_
        refine g_aload_n dX8_figure_74 rfl rfl (gf_X8_130 (M := mX8_figure) rfl dX8_figure_75 (ck_fo hY clk12 (by omega)) ?_)
        exact g_iret dX8_figure_78 rfl rfl ⟨Nat.le_refl _, Nat.le_refl _⟩ (by exact ⟨someI (by unfold sp_fig; repeat (split) <;> first | rfl | (exfalso; omega) | omega), rfl⟩)
      · refine g_tsIn 79 dX8_figure_21 (by decide) (by decide) (by decide) rfl rfl ?_
        refine g_aload_n dX8_figure_79 rfl rfl (gf_X8_133 (M := mX8_figure) rfl dX8_figure_80 (ck_fo hY clk12 (by omega)) ?_)
        exact g_iret dX8_figure_83 rfl rfl ⟨Nat.le_refl _, Nat.le_refl _⟩ (by exact ⟨someI (by unfold sp_fig; repeat (split) <;> first | rfl | (exfalso; omega) | omega), rfl⟩)
      · refine g_tsIn 84 dX8_figure_21 (by decide) (by decide) (by decide) rfl rfl ?_
        refine g_aload_n dX8_figure_84 rfl rfl (gf_X8_136 (M := mX8_figure) rfl dX8_figure_85 (ck_fo hY clk12 (by omega)) ?_)
        refine g_if_le 98 dX8_figure_88 rfl (by omega) (fun c88 => ?_) (fun c88 => ?_)
        · skip
          refine g_bipush dX8_figure_98 kbm4 ?_
          exact g_iret dX8_figure_100 rfl rfl ⟨Nat.le_refl _, Nat.le_refl _⟩ (by exact ⟨someI (by unfold sp_fig; repeat (split) <;> first | rfl | (exfalso; omega) | omega), rfl⟩)
        · skip
          refine g_aload_n dX8_figure_91 rfl rfl (gf_X8_136 (M := mX8_figure) rfl dX8_figure_92 (ck_fo hY clk12 (by omega)) (g_goto 100 dX8_figure_95 rfl ?_))
          exact g_iret dX8_figure_100 rfl rfl ⟨Nat.le_refl _, Nat.le_refl _⟩ (by exact ⟨someI (by unfold sp_fig; repeat (split) <;> first | rfl | (exfalso; omega) | omega), rfl⟩)
      · refine g_tsIn 101 dX8_figure_21 (by decide) (by decide) (by decide) rfl rfl ?_
        refine g_aload_n dX8_figure_101 rfl rfl (gf_X8_139 (M := mX8_figure) rfl dX8_figure_102 (ck_fo hY clk12 (by omega)) ?_)
        refine g_if_le 115 dX8_figure_105 rfl (by omega) (fun c105 => ?_) (fun c105 => ?_)
        · skip
          refine g_bipush dX8_figure_115 kbm4 ?_
          exact g_iret dX8_figure_117 rfl rfl ⟨Nat.le_refl _, Nat.le_refl _⟩ (by exact ⟨someI (by unfold sp_fig; repeat (split) <;> first | rfl | (exfalso; omega) | omega), rfl⟩)
        · skip
          refine g_aload_n dX8_figure_108 rfl rfl (gf_X8_139 (M := mX8_figure) rfl dX8_figure_109 (ck_fo hY clk12 (by omega)) (g_goto 117 dX8_figure_112 rfl ?_))
          exact g_iret dX8_figure_117 rfl rfl ⟨Nat.le_refl _, Nat.le_refl _⟩ (by exact ⟨someI (by unfold sp_fig; repeat (split) <;> first | rfl | (exfalso; omega) | omega), rfl⟩)
      · refine g_tsIn 118 dX8_figure_21 (by decide) (by decide) (by decide) rfl rfl ?_
        refine g_aload_n dX8_figure_118 rfl rfl (cv_X8_142 (M := mX8_figure) rfl dX8_figure_119 (ck_fo hY clk12 (by omega)) (RO.same _ _ _) (Nat.le_of_ble_eq_true rfl) (e_X1_round (ck_fo hY clk12 (by omega)) (by omega)) <| kI ?_)
        exact g_iret dX8_figure_122 rfl rfl ⟨Nat.le_refl _, Nat.le_refl _⟩ (by exact ⟨someI (by unfold sp_fig; repeat (split) <;> first | rfl | (exfalso; omega) | omega), rfl⟩)
  · skip
    refine g_iconst dX8_figure_8 ?_
    exact g_iret dX8_figure_9 rfl rfl ⟨Nat.le_refl _, Nat.le_refl _⟩ (by exact ⟨someI (by unfold sp_fig; repeat (split) <;> first | rfl | (exfalso; omega) | omega), rfl⟩)
set_option maxRecDepth 100000 in
set_option maxHeartbeats 1000000 in
theorem e_X8_vote {G : GX} {y : LY} {h : HM} {d : Nat} (hY : Lay y) {v w : Int} (hv : R32 v) (hw : R32 w) (hnv : 0 ≤ h.I 12 4 ∧ h.I 12 4 ≤ 6) : EvI G mX8_vote (d) [.ref 9, .int (iZ v), .int (iZ w)] y h (sp_vote (h.I 12 4) (c5 h (12 + 10 + v.toNat)) v w) := by
  refine Ev.of rfl [some (.ref 9), some (.int (iZ v)), some (.int (iZ w)), none] rfl (Nat.le_of_ble_eq_true rfl) ?_
  refine g_iload_n dX8_vote_0 rfl rfl ?_
  refine g_if_lt 15 dX8_vote_1 rfl (by omega) (fun c1 => ?_) (fun c1 => ?_)
  · skip
    refine g_iconst dX8_vote_15 ?_
    exact g_iret dX8_vote_16 rfl rfl ⟨Nat.le_refl _, Nat.le_refl _⟩ (by exact ⟨someI (by unfold sp_vote; repeat (split) <;> first | rfl | (exfalso; omega) | omega), rfl⟩)
  · skip
    refine g_iload_n dX8_vote_4 rfl rfl (g_aload_n dX8_vote_5 rfl rfl (gf_X8_19 (M := mX8_vote) rfl dX8_vote_6 (yo9 hY) (yr9_1 hY) (gf_X8_113 (M := mX8_vote) rfl dX8_vote_9 (ck_o hY clk12) ?_)))
    refine g_icmp_lt 17 dX8_vote_12 rfl (by omega) (by omega) (fun c12 => ?_) (fun c12 => ?_)
    · skip
      refine g_aload_n dX8_vote_17 rfl rfl (gf_X8_19 (M := mX8_vote) rfl dX8_vote_18 (yo9 hY) (yr9_1 hY) (gf_X8_145 (M := mX8_vote) rfl dX8_vote_21 (ck_o hY clk12) (ck_r1 hY clk12) (g_iload_n dX8_vote_24 rfl rfl (g_aald dX8_vote_25 (ck_a1 hY clk12) (by decide) (D0 := "ClockTeeth$Vote") rfl ⟨by omega, by omega, by omega⟩ (ck_vr hY clk12 (by omega)) (g_ast3 dX8_vote_26 (by decide) rfl (g_iload_n dX8_vote_27 rfl rfl ?_))))))
      by_cases sw28 : w < 0 ∨ 4 < w
      · refine g_tsOut 89 dX8_vote_28 (by omega) sw28 rfl ?_
        refine g_iconst dX8_vote_89 ?_
        exact g_iret dX8_vote_90 rfl rfl ⟨Nat.le_refl _, Nat.le_refl _⟩ (by exact ⟨someI (by unfold sp_vote; repeat (split) <;> first | rfl | (exfalso; omega) | omega), rfl⟩)
      · rcases (by omega : w = 0 ∨ w = 1 ∨ w = 2 ∨ w = 3 ∨ w = 4) with rfl | rfl | rfl | rfl | rfl
        · refine g_tsIn 64 dX8_vote_28 (by decide) (by decide) (by decide) rfl rfl ?_
          refine g_aload_n dX8_vote_64 rfl rfl (gf_X8_149 (M := mX8_vote) rfl dX8_vote_65 (ck_vo hY clk12 (by omega)) ?_)
          exact g_iret dX8_vote_68 rfl rfl ⟨Nat.le_refl _, Nat.le_refl _⟩ (by exact ⟨someI (by unfold sp_vote; repeat (split) <;> first | rfl | (exfalso; omega) | omega), rfl⟩)
        · refine g_tsIn 69 dX8_vote_28 (by decide) (by decide) (by decide) rfl rfl ?_
          refine g_aload_n dX8_vote_69 rfl rfl (gf_X8_154 (M := mX8_vote) rfl dX8_vote_70 (ck_vo hY clk12 (by omega)) ?_)
          exact g_iret dX8_vote_73 rfl rfl ⟨Nat.le_refl _, Nat.le_refl _⟩ (by exact ⟨someI (by unfold sp_vote; repeat (split) <;> first | rfl | (exfalso; omega) | omega), rfl⟩)
        · refine g_tsIn 74 dX8_vote_28 (by decide) (by decide) (by decide) rfl rfl ?_
          refine g_aload_n dX8_vote_74 rfl rfl (gf_X8_157 (M := mX8_vote) rfl dX8_vote_75 (ck_vo hY clk12 (by omega)) ?_)
          exact g_iret dX8_vote_78 rfl rfl ⟨Nat.le_refl _, Nat.le_refl _⟩ (by exact ⟨someI (by unfold sp_vote; repeat (split) <;> first | rfl | (exfalso; omega) | omega), rfl⟩)
        · refine g_tsIn 79 dX8_vote_28 (by decide) (by decide) (by decide) rfl rfl ?_
          refine g_aload_n dX8_vote_79 rfl rfl (gf_X8_158 (M := mX8_vote) rfl dX8_vote_80 (ck_vo hY clk12 (by omega)) ?_)
          exact g_iret dX8_vote_83 rfl rfl ⟨Nat.le_refl _, Nat.le_refl _⟩ (by exact ⟨someI (by unfold sp_vote; repeat (split) <;> first | rfl | (exfalso; omega) | omega), rfl⟩)
        · refine g_tsIn 84 dX8_vote_28 (by decide) (by decide) (by decide) rfl rfl ?_
          refine g_aload_n dX8_vote_84 rfl rfl (gf_X8_159 (M := mX8_vote) rfl dX8_vote_85 (ck_vo hY clk12 (by omega)) ?_)
          exact g_iret dX8_vote_88 rfl rfl ⟨Nat.le_refl _, Nat.le_refl _⟩ (by exact ⟨someI (by unfold sp_vote; repeat (split) <;> first | rfl | (exfalso; omega) | omega), rfl⟩)
    · skip
      refine g_iconst dX8_vote_15 ?_
      exact g_iret dX8_vote_16 rfl rfl ⟨Nat.le_refl _, Nat.le_refl _⟩ (by exact ⟨someI (by unfold sp_vote; repeat (split) <;> first | rfl | (exfalso; omega) | omega), rfl⟩)
set_option maxRecDepth 100000 in
set_option maxHeartbeats 1000000 in
theorem e_X8_out {G : GX} {y : LY} {h : HM} {d : Nat} (hY : Lay y) {f t : Int} (hf : R32 f) (ht : R64 t) (hC : CF h 12) : EvI G mX8_out (d + 2) [.ref 9, .int (iZ f), .long (lZ t)] y h (sp_out (h.I 12 3) (cFs h 12 f.toNat) f t) := by
  have hnf := hC.1
  have hpf := pI_01 (0 ≤ f ∧ f < h.I 12 3)
  have hpf2 := pI_eq1 (P := 0 ≤ f ∧ f < h.I 12 3)
  have hpd := pI_01 (0 ≤ t ∧ t ≤ 1000000000000)
  have hpd2 := pI_eq1 (P := 0 ≤ t ∧ t ≤ 1000000000000)
  have hpo := pI_01 (OutF (cFs h 12 f.toNat) t)
  have hpo2 : pI (OutF (cFs h 12 f.toNat) t) = pI (Out (h.I (12 + 4 + f.toNat) 0) (h.I (12 + 4 + f.toNat) 1) (h.I (12 + 4 + f.toNat) 3) (h.I (12 + 4 + f.toNat) 4) t) := rfl
  refine Ev.of rfl [some (.ref 9), some (.int (iZ f)), some (.long (lZ t)), none] rfl (Nat.le_of_ble_eq_true rfl) ?_
  refine g_aload_n dX8_out_0 rfl rfl (g_iload_n dX8_out_1 rfl rfl (cv_X8_116 (M := mX8_out) rfl dX8_out_2 (yo9 hY) (RO.same _ _ _) (Nat.le_of_ble_eq_true rfl) (e_X8_isFigure hY (by omega) (by omega)) <| kI ?_))
  refine g_if_eq 15 dX8_out_5 rfl (by omega) (fun c5 => ?_) (fun c5 => ?_)
  · skip
    refine g_iconst dX8_out_15 ?_
    exact g_iret dX8_out_16 rfl rfl ⟨Nat.le_refl _, Nat.le_refl _⟩ (by exact ⟨someI (by unfold sp_out; repeat (split) <;> first | rfl | (exfalso; omega) | omega), rfl⟩)
  · skip
    refine g_lload_n dX8_out_8 rfl rfl (cv_X8_160 (M := mX8_out) rfl dX8_out_9 (RO.same _ _ _) (Nat.le_of_ble_eq_true rfl) (e_X8_isDay (by omega)) <| kI ?_)
    refine g_if_ne 17 dX8_out_12 rfl (by omega) (fun c12 => ?_) (fun c12 => ?_)
    · skip
      have hFf := hC.2 f (by omega) (by omega)
      refine g_aload_n dX8_out_17 rfl rfl (gf_X8_19 (M := mX8_out) rfl dX8_out_18 (yo9 hY) (yr9_1 hY) (gf_X8_120 (M := mX8_out) rfl dX8_out_21 (ck_o hY clk12) (ck_r0 hY clk12) (g_iload_n dX8_out_24 rfl rfl (g_aald dX8_out_25 (ck_a0 hY clk12) (by decide) (D0 := "ClockTeeth$Figure") rfl ⟨by omega, by omega, by omega⟩ (ck_fr hY clk12 (by omega)) (g_lload_n dX8_out_26 rfl rfl (cv_X8_163 (M := mX8_out) rfl dX8_out_27 (ck_fo hY clk12 (by omega)) (RO.same _ _ _) (Nat.le_of_ble_eq_true rfl) (e_X1_comesOut (ck_fo hY clk12 (by omega)) (by omega) (by omega) (by omega)) <| kI ?_))))))
      refine g_if_eq 37 dX8_out_30 rfl (by omega) (fun c30 => ?_) (fun c30 => ?_)
      · skip
        refine g_iconst dX8_out_37 ?_
        exact g_iret dX8_out_38 rfl rfl ⟨Nat.le_refl _, Nat.le_refl _⟩ (by exact ⟨someI (by unfold sp_out; repeat (split) <;> first | rfl | (exfalso; omega) | omega), rfl⟩)
      · skip
        refine g_iconst dX8_out_33 (g_goto 38 dX8_out_34 rfl ?_)
        exact g_iret dX8_out_38 rfl rfl ⟨Nat.le_refl _, Nat.le_refl _⟩ (by exact ⟨someI (by unfold sp_out; repeat (split) <;> first | rfl | (exfalso; omega) | omega), rfl⟩)
    · skip
      refine g_iconst dX8_out_15 ?_
      exact g_iret dX8_out_16 rfl rfl ⟨Nat.le_refl _, Nat.le_refl _⟩ (by exact ⟨someI (by unfold sp_out; repeat (split) <;> first | rfl | (exfalso; omega) | omega), rfl⟩)
set_option maxRecDepth 100000 in
set_option maxHeartbeats 1000000 in
theorem e_X8_date {G : GX} {y : LY} {h : HM} {d : Nat} (hY : Lay y) {t w : Int} (ht : R64 t) (hw : R32 w) : EvL G mX8_date (d + 2) [.ref 9, .long (lZ t), .int (iZ w)] y h (sp_date t w) := by
  have hpd := pI_01 (0 ≤ t ∧ t ≤ 1000000000000)
  have hpd2 := pI_eq1 (P := 0 ≤ t ∧ t ≤ 1000000000000)
  have hpw := pI_01 (w = 0 ∨ w = 1)
  have hpw2 := pI_eq1 (P := w = 0 ∨ w = 1)
  have hdb := dyo_bd (t := t)
  refine Ev.of rfl [some (.ref 9), some (.long (lZ t)), none, some (.int (iZ w))] rfl (Nat.le_of_ble_eq_true rfl) ?_
  refine g_lload_n dX8_date_0 rfl rfl (cv_X8_160 (M := mX8_date) rfl dX8_date_1 (RO.same _ _ _) (Nat.le_of_ble_eq_true rfl) (e_X8_isDay (by omega)) <| kI ?_)
  refine g_if_eq 14 dX8_date_4 rfl (by omega) (fun c4 => ?_) (fun c4 => ?_)
  · skip
    refine c2_X8_166 (M := mX8_date) rfl dX8_date_14 ?_
    exact g_lret dX8_date_17 rfl rfl ⟨Nat.le_refl _, Nat.le_refl _⟩ (by exact ⟨someL (by unfold sp_date; repeat (split) <;> first | rfl | (exfalso; omega) | omega), rfl⟩)
  · skip
    refine g_iload_n dX8_date_7 rfl rfl (cv_X8_207 (M := mX8_date) rfl dX8_date_8 (RO.same _ _ _) (Nat.le_of_ble_eq_true rfl) (e_X8_isYesOrNo (by omega)) <| kI ?_)
    refine g_if_ne 18 dX8_date_11 rfl (by omega) (fun c11 => ?_) (fun c11 => ?_)
    · skip
      refine g_iload_n dX8_date_18 rfl rfl ?_
      refine g_if_ne 29 dX8_date_19 rfl (by omega) (fun c19 => ?_) (fun c19 => ?_)
      · skip
        refine g_lload_n dX8_date_29 rfl rfl (cv_X8_216 (M := mX8_date) rfl dX8_date_30 (RO.same _ _ _) (Nat.le_of_ble_eq_true rfl) (e_X8_dayOfYear (by omega)) <| kI (g_i2l dX8_date_33 (by omega) ?_))
        exact g_lret dX8_date_34 rfl rfl ⟨Nat.le_refl _, Nat.le_refl _⟩ (by exact ⟨someL (by unfold sp_date; repeat (split) <;> first | rfl | (exfalso; omega) | omega), rfl⟩)
      · skip
        refine g_lload_n dX8_date_22 rfl rfl (cv_X8_212 (M := mX8_date) rfl dX8_date_23 (RO.same _ _ _) (Nat.le_of_ble_eq_true rfl) (e_X8_yearOf (by omega)) <| kL (g_goto 34 dX8_date_26 rfl ?_))
        exact g_lret dX8_date_34 rfl rfl ⟨Nat.le_refl _, Nat.le_refl _⟩ (by exact ⟨someL (by unfold sp_date; repeat (split) <;> first | rfl | (exfalso; omega) | omega), rfl⟩)
    · skip
      refine c2_X8_166 (M := mX8_date) rfl dX8_date_14 ?_
      exact g_lret dX8_date_17 rfl rfl ⟨Nat.le_refl _, Nat.le_refl _⟩ (by exact ⟨someL (by unfold sp_date; repeat (split) <;> first | rfl | (exfalso; omega) | omega), rfl⟩)
set_option maxRecDepth 100000 in
set_option maxHeartbeats 1000000 in
theorem e_X8_day {G : GX} {y : LY} {h : HM} {d : Nat} (hY : Lay y) {a d_ : Int} (ha : R32 a) (hd : R32 d_) : EvL G mX8_day (d) [.ref 9, .int (iZ a), .int (iZ d_)] y h (sp_day a d_) := by
  refine Ev.of rfl [some (.ref 9), some (.int (iZ a)), some (.int (iZ d_)), none] rfl (Nat.le_of_ble_eq_true rfl) ?_
  refine g_iload_n dX8_day_0 rfl rfl ?_
  refine g_if_lt 34 dX8_day_1 rfl (by omega) (fun c1 => ?_) (fun c1 => ?_)
  · skip
    refine c2_X8_166 (M := mX8_day) rfl dX8_day_34 ?_
    exact g_lret dX8_day_37 rfl rfl ⟨Nat.le_refl _, Nat.le_refl _⟩ (by exact ⟨someL (by unfold sp_day; repeat (split) <;> first | rfl | (exfalso; omega) | omega), rfl⟩)
  · skip
    refine g_iload_n dX8_day_4 rfl rfl (g_sipush dX8_day_5 ks9999 ?_)
    refine g_icmp_gt 34 dX8_day_8 rfl (by omega) (by omega) (fun c8 => ?_) (fun c8 => ?_)
    · skip
      refine c2_X8_166 (M := mX8_day) rfl dX8_day_34 ?_
      exact g_lret dX8_day_37 rfl rfl ⟨Nat.le_refl _, Nat.le_refl _⟩ (by exact ⟨someL (by unfold sp_day; repeat (split) <;> first | rfl | (exfalso; omega) | omega), rfl⟩)
    · skip
      refine g_iload_n dX8_day_11 rfl rfl ?_
      refine g_if_lt 34 dX8_day_12 rfl (by omega) (fun c12 => ?_) (fun c12 => ?_)
      · skip
        refine c2_X8_166 (M := mX8_day) rfl dX8_day_34 ?_
        exact g_lret dX8_day_37 rfl rfl ⟨Nat.le_refl _, Nat.le_refl _⟩ (by exact ⟨someL (by unfold sp_day; repeat (split) <;> first | rfl | (exfalso; omega) | omega), rfl⟩)
      · skip
        refine g_iload_n dX8_day_15 rfl rfl (g_iload_n dX8_day_16 rfl rfl (g_iconst dX8_day_17 (g_iremP dX8_day_18 (by omega) (by omega) ?_)))
        refine g_if_ne 28 dX8_day_19 rfl (by omega) (fun c19 => ?_) (fun c19 => ?_)
        · skip
          refine g_sipush dX8_day_28 ks365 ?_
          refine g_icmp_lt 38 dX8_day_31 rfl (by omega) (by omega) (fun c31 => ?_) (fun c31 => ?_)
          · skip
            refine g_iload_n dX8_day_38 rfl rfl (g_iconst dX8_day_39 (g_iadd dX8_day_40 (g_iconst dX8_day_41 (g_idivP dX8_day_42 (by omega) (by omega) (g_ist3 dX8_day_43 (by decide) rfl (g_iload_n dX8_day_44 rfl rfl (g_i2l dX8_day_45 (by omega) (c2_X8_220 (M := mX8_day) rfl dX8_day_46 (g_lmul dX8_day_49 (g_iload_n dX8_day_50 rfl rfl (g_i2l dX8_day_51 (by omega) ?_)))))))))))
            refine g_ladd dX8_day_52 (g_iload_n dX8_day_53 rfl rfl (g_i2l dX8_day_54 (by omega) (g_ladd dX8_day_55 ?_)))
            exact g_lret dX8_day_56 rfl rfl ⟨Nat.le_refl _, Nat.le_refl _⟩ (by exact ⟨someL (by unfold sp_day; repeat (split) <;> first | rfl | (exfalso; omega) | omega), rfl⟩)
          · skip
            refine c2_X8_166 (M := mX8_day) rfl dX8_day_34 ?_
            exact g_lret dX8_day_37 rfl rfl ⟨Nat.le_refl _, Nat.le_refl _⟩ (by exact ⟨someL (by unfold sp_day; repeat (split) <;> first | rfl | (exfalso; omega) | omega), rfl⟩)
        · skip
          refine g_sipush dX8_day_22 ks366 (g_goto 31 dX8_day_25 rfl ?_)
          refine g_icmp_lt 38 dX8_day_31 rfl (by omega) (by omega) (fun c31 => ?_) (fun c31 => ?_)
          · skip
            refine g_iload_n dX8_day_38 rfl rfl (g_iconst dX8_day_39 (g_iadd dX8_day_40 (g_iconst dX8_day_41 (g_idivP dX8_day_42 (by omega) (by omega) (g_ist3 dX8_day_43 (by decide) rfl (g_iload_n dX8_day_44 rfl rfl (g_i2l dX8_day_45 (by omega) (c2_X8_220 (M := mX8_day) rfl dX8_day_46 (g_lmul dX8_day_49 (g_iload_n dX8_day_50 rfl rfl (g_i2l dX8_day_51 (by omega) ?_)))))))))))
            refine g_ladd dX8_day_52 (g_iload_n dX8_day_53 rfl rfl (g_i2l dX8_day_54 (by omega) (g_ladd dX8_day_55 ?_)))
            exact g_lret dX8_day_56 rfl rfl ⟨Nat.le_refl _, Nat.le_refl _⟩ (by exact ⟨someL (by unfold sp_day; repeat (split) <;> first | rfl | (exfalso; omega) | omega), rfl⟩)
          · skip
            refine c2_X8_166 (M := mX8_day) rfl dX8_day_34 ?_
            exact g_lret dX8_day_37 rfl rfl ⟨Nat.le_refl _, Nat.le_refl _⟩ (by exact ⟨someL (by unfold sp_day; repeat (split) <;> first | rfl | (exfalso; omega) | omega), rfl⟩)
set_option maxRecDepth 100000 in
set_option maxHeartbeats 1000000 in
theorem e_X8_by {G : GX} {y : LY} {h : HM} {d : Nat} (hY : Lay y) {f t : Int} (hf : R32 f) (ht : R64 t) (hC : CF h 12) (h6 : R32 (h.I 12 6)) (h7 : R32 (h.I 12 7)) (h8 : R32 (h.I 12 8)) : EvI G mX8_by (d + 2) [.ref 9, .int (iZ f), .long (lZ t)] y h (sp_by (h.I 12 3) (cFs h 12 f.toNat) (h.I 12 6) (h.I 12 7) (h.I 12 8) f t) := by
  have hnf := hC.1
  have hpf := pI_01 (0 ≤ f ∧ f < h.I 12 3)
  have hpf2 := pI_eq1 (P := 0 ≤ f ∧ f < h.I 12 3)
  have hpd := pI_01 (0 ≤ t ∧ t ≤ 1000000000000)
  have hpd2 := pI_eq1 (P := 0 ≤ t ∧ t ≤ 1000000000000)
  have hpo := pI_01 (OutF (cFs h 12 f.toNat) t)
  have hpo2 : pI (OutF (cFs h 12 f.toNat) t) = pI (Out (h.I (12 + 4 + f.toNat) 0) (h.I (12 + 4 + f.toNat) 1) (h.I (12 + 4 + f.toNat) 3) (h.I (12 + 4 + f.toNat) 4) t) := rfl
  have hdb := dyo_bd (t := t)
  have edr : (cFs h 12 f.toNat).dr = h.I (12 + 4 + f.toNat) 2 := rfl
  refine Ev.of rfl [some (.ref 9), some (.int (iZ f)), some (.long (lZ t)), none, none] rfl (Nat.le_of_ble_eq_true rfl) ?_
  refine g_aload_n dX8_by_0 rfl rfl (g_iload_n dX8_by_1 rfl rfl (cv_X8_116 (M := mX8_by) rfl dX8_by_2 (yo9 hY) (RO.same _ _ _) (Nat.le_of_ble_eq_true rfl) (e_X8_isFigure hY (by omega) (by omega)) <| kI ?_))
  refine g_if_eq 15 dX8_by_5 rfl (by omega) (fun c5 => ?_) (fun c5 => ?_)
  · skip
    refine g_iconst dX8_by_15 ?_
    exact g_iret dX8_by_16 rfl rfl ⟨Nat.le_refl _, Nat.le_refl _⟩ (by first | exact ⟨someI (by unfold sp_by; rw [if_neg (by omega), if_pos (by omega)]; rfl), rfl⟩ | exact ⟨someI (by unfold sp_by; rw [if_pos (by omega)]), rfl⟩ | exact ⟨someI (by unfold sp_by; rw [if_neg (by omega), if_neg (by omega)]), rfl⟩)
  · skip
    refine g_lload_n dX8_by_8 rfl rfl (cv_X8_160 (M := mX8_by) rfl dX8_by_9 (RO.same _ _ _) (Nat.le_of_ble_eq_true rfl) (e_X8_isDay (by omega)) <| kI ?_)
    refine g_if_ne 17 dX8_by_12 rfl (by omega) (fun c12 => ?_) (fun c12 => ?_)
    · skip
      have hFf := hC.2 f (by omega) (by omega)
      refine g_aload_n dX8_by_17 rfl rfl (gf_X8_19 (M := mX8_by) rfl dX8_by_18 (yo9 hY) (yr9_1 hY) (gf_X8_120 (M := mX8_by) rfl dX8_by_21 (ck_o hY clk12) (ck_r0 hY clk12) (g_iload_n dX8_by_24 rfl rfl (g_aald dX8_by_25 (ck_a0 hY clk12) (by decide) (D0 := "ClockTeeth$Figure") rfl ⟨by omega, by omega, by omega⟩ (ck_fr hY clk12 (by omega)) (g_ast4 dX8_by_26 (by decide) rfl (g_aload dX8_by_28 rfl (g_lload_n dX8_by_30 rfl rfl (cv_X8_163 (M := mX8_by) rfl dX8_by_31 (ck_fo hY clk12 (by omega)) (RO.same _ _ _) (Nat.le_of_ble_eq_true rfl) (e_X1_comesOut (ck_fo hY clk12 (by omega)) (by omega) (by omega) (by omega)) <| kI ?_))))))))
      refine g_if_eq 53 dX8_by_34 rfl (by omega) (fun c34 => ?_) (fun c34 => ?_)
      · skip
        refine g_bipush dX8_by_53 kbm4 ?_
        exact g_iret dX8_by_55 rfl rfl ⟨Nat.le_refl _, Nat.le_refl _⟩ (by first | exact ⟨someI (by unfold sp_by; rw [if_neg (by omega), if_pos (by omega)]; rfl), rfl⟩ | exact ⟨someI (by unfold sp_by; rw [if_pos (by omega)]), rfl⟩ | exact ⟨someI (by unfold sp_by; rw [if_neg (by omega), if_neg (by omega)]), rfl⟩)
      · skip
        refine g_aload_n dX8_by_37 rfl rfl (gf_X8_19 (M := mX8_by) rfl dX8_by_38 (yo9 hY) (yr9_1 hY) (g_aload dX8_by_41 rfl (g_lload_n dX8_by_43 rfl rfl (cv_X8_216 (M := mX8_by) rfl dX8_by_44 (RO.same _ _ _) (Nat.le_of_ble_eq_true rfl) (e_X8_dayOfYear (by omega)) <| kI (cv_X8_222 (M := mX8_by) rfl dX8_by_47 (ck_o hY clk12) (RO.same _ _ _) (Nat.le_of_ble_eq_true rfl) (e_X0_doorOf hY clk12 (ck_fo hY clk12 (by omega)) (by omega) (by omega) (by omega) (by omega) (by omega)) <| kI (g_goto 55 dX8_by_50 rfl ?_))))))
        exact g_iret dX8_by_55 rfl rfl ⟨Nat.le_refl _, Nat.le_refl _⟩ (by first | exact ⟨someI (by unfold sp_by; rw [if_neg (by omega), if_pos (by omega)]; rfl), rfl⟩ | exact ⟨someI (by unfold sp_by; rw [if_pos (by omega)]), rfl⟩ | exact ⟨someI (by unfold sp_by; rw [if_neg (by omega), if_neg (by omega)]), rfl⟩)
    · skip
      refine g_iconst dX8_by_15 ?_
      exact g_iret dX8_by_16 rfl rfl ⟨Nat.le_refl _, Nat.le_refl _⟩ (by first | exact ⟨someI (by unfold sp_by; rw [if_neg (by omega), if_pos (by omega)]; rfl), rfl⟩ | exact ⟨someI (by unfold sp_by; rw [if_pos (by omega)]), rfl⟩ | exact ⟨someI (by unfold sp_by; rw [if_neg (by omega), if_neg (by omega)]), rfl⟩)
set_option maxRecDepth 100000 in
set_option maxHeartbeats 1000000 in
theorem e_X8_crash {G : GX} {y : LY} {h : HM} {d : Nat} (hY : Lay y) {f : Int} (hf : R32 f) (hC : CF h 12) : EvI G mX8_crash (d + 4) [.ref 9, .int (iZ f)] y h ((if ¬ (0 ≤ f ∧ f < h.I 12 3) then -1 else crS (cFs h 12) f.toNat (h.I 12 3).toNat)) := by
  have hnf := hC.1
  have hpf := pI_01 (0 ≤ f ∧ f < h.I 12 3)
  have hpf2 := pI_eq1 (P := 0 ≤ f ∧ f < h.I 12 3)
  refine Ev.of rfl [some (.ref 9), some (.int (iZ f))] rfl (Nat.le_of_ble_eq_true rfl) ?_
  refine g_aload_n dX8_crash_0 rfl rfl (g_iload_n dX8_crash_1 rfl rfl (cv_X8_116 (M := mX8_crash) rfl dX8_crash_2 (yo9 hY) (RO.same _ _ _) (Nat.le_of_ble_eq_true rfl) (e_X8_isFigure hY (by omega) (by omega)) <| kI ?_))
  refine g_if_ne 10 dX8_crash_5 rfl (by omega) (fun c5 => ?_) (fun c5 => ?_)
  · skip
    refine g_aload_n dX8_crash_10 rfl rfl (gf_X8_19 (M := mX8_crash) rfl dX8_crash_11 (yo9 hY) (yr9_1 hY) (g_iload_n dX8_crash_14 rfl rfl (cv_X8_204 (M := mX8_crash) rfl dX8_crash_15 (ck_o hY clk12) (RO.same _ _ _) (Nat.le_of_ble_eq_true rfl) (e_X0_crashesOf hY clk12 hC (by omega)) <| kI ?_)))
    exact g_iret dX8_crash_18 rfl rfl ⟨Nat.le_refl _, Nat.le_refl _⟩ (by exact ⟨someI (by repeat (split) <;> first | rfl | (exfalso; omega) | omega), rfl⟩)
  · skip
    refine g_iconst dX8_crash_8 ?_
    exact g_iret dX8_crash_9 rfl rfl ⟨Nat.le_refl _, Nat.le_refl _⟩ (by exact ⟨someI (by repeat (split) <;> first | rfl | (exfalso; omega) | omega), rfl⟩)
