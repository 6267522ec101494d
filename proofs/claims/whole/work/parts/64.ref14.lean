/-! the tape and the rules, in the reference -/
theorem bv_low (b : BitVec 64) {n : Nat} (hn : n ≤ 56) : b.sshiftRight n &&& 255#64 = b >>> n &&& 255#64 := by
  apply BitVec.eq_of_getLsbD_eq
  intro i hi
  rw [BitVec.getLsbD_and, BitVec.getLsbD_and]
  by_cases q : i < 8
  · rw [BitVec.getLsbD_sshiftRight, BitVec.getLsbD_ushiftRight]
    simp [show n + i < 64 by omega, show ¬ 64 ≤ i by omega]
  · have : (255#64).getLsbD i = false := by
      have h : (255#64) = BitVec.ofNat 64 (2 ^ 8 - 1) := by decide
      rw [h, BitVec.getLsbD_ofNat, Nat.testBit_two_pow_sub_one]
      simp [q]
    rw [this, Bool.and_false, Bool.and_false]
theorem shr_low (x : Int64) {s : Int} (hs : s = 56 ∨ s = 48 ∨ s = 40 ∨ s = 32 ∨ s = 24 ∨ s = 16 ∨ s = 8 ∨ s = 0) : (x >>> ((iZ s).toInt64 &&& 63)) &&& 255 = ((x.toUInt64 >>> ((iZ s).toInt64.toUInt64 &&& Int64.toUInt64 63)).toInt64) &&& 255 := by
  apply Int64.toBitVec_inj.mp
  rcases hs with rfl | rfl | rfl | rfl | rfl | rfl | rfl | rfl
  · exact bv_low x.toBitVec (n := 56) (by omega)
  · exact bv_low x.toBitVec (n := 48) (by omega)
  · exact bv_low x.toBitVec (n := 40) (by omega)
  · exact bv_low x.toBitVec (n := 32) (by omega)
  · exact bv_low x.toBitVec (n := 24) (by omega)
  · exact bv_low x.toBitVec (n := 16) (by omega)
  · exact bv_low x.toBitVec (n := 8) (by omega)
  · exact bv_low x.toBitVec (n := 0) (by omega)
theorem byt_r (v : Int) {i s : Int} (hs : s = 56 - 8 * i) (hi : 0 ≤ i ∧ i ≤ 7) : lAnd (lShr v s) 255 = byt v i := by
  have h := shr_low (lZ v) (s := s) (by omega)
  unfold byt lAnd lShr lUshr
  rw [← hs, lZ_of, lZ_of]
  exact congrArg Int64.toInt h
def tkR (h : HM) (v : Int) : HM := (h.sA 154 (fun j => if h.I 150 9 ≤ j ∧ (j : Int) < h.I 150 9 + 8 then byt v (j - h.I 150 9) else h.I 154 j)).sI 150 9 (h.I 150 9 + 8)
def tkI (h : HM) (v i : Int) : HM := (h.sA 154 (fun j => if h.I 150 9 ≤ j ∧ (j : Int) < h.I 150 9 + i then byt v (j - h.I 150 9) else h.I 154 j)).sI 150 9 (h.I 150 9 + i)
theorem tkI_9 (h : HM) (v i : Int) : (tkI h v i).I 150 9 = h.I 150 9 + i := by unfold tkI; rw [sI_I, if_pos ⟨rfl, rfl⟩]
theorem tkI_0 (h : HM) (v : Int) : tkI h v 0 = h := by
  refine Prod.ext ?_ rfl
  funext b j
  show (tkI h v 0).I b j = h.I b j
  unfold tkI
  rw [sI_I]
  by_cases q : b = 150 ∧ j = 9
  · rw [if_pos q, q.1, q.2]; omega
  · rw [if_neg q, sA_I]
    by_cases z : b = 154
    · rw [if_pos z, if_neg (by omega), z]
    · rw [if_neg z]
theorem tkI_s (h : HM) (v : Int) {i : Int} (hi : 0 ≤ i) (ht : 0 ≤ h.I 150 9) : ((tkI h v i).sI 154 (h.I 150 9 + i).toNat (byt v i)).sI 150 9 (h.I 150 9 + i + 1) = tkI h v (i + 1) := by
  refine Prod.ext ?_ rfl
  funext b j
  show (((tkI h v i).sI 154 (h.I 150 9 + i).toNat (byt v i)).sI 150 9 (h.I 150 9 + i + 1)).I b j = (tkI h v (i + 1)).I b j
  unfold tkI
  rw [sI_I, sI_I (_) 150 9 (h.I 150 9 + (i + 1))]
  by_cases q : b = 150 ∧ j = 9
  · rw [if_pos q, if_pos q]; omega
  · rw [if_neg q, if_neg q, sI_I, sI_I, if_neg q, sA_I, sA_I]
    by_cases z : b = 154
    · subst z
      rw [if_pos rfl, if_pos rfl]
      by_cases w : j = (h.I 150 9 + i).toNat
      · rw [if_pos ⟨rfl, w⟩, if_pos (by omega)]
        congr 1; omega
      · rw [if_neg (fun u => w u.2)]
        by_cases u : h.I 150 9 ≤ j ∧ (j : Int) < h.I 150 9 + i
        · rw [if_pos u, if_pos (by omega)]
        · rw [if_neg u, if_neg (by omega)]
    · rw [if_neg (fun u => z u.1), if_neg z, if_neg z]
set_option maxRecDepth 100000 in
set_option maxHeartbeats 1000000 in
theorem e_X9_feed {G : GX} {y : LY} {h : HM} {d : Nat} (hY : Lay y) {v : Int} (hl : 0 ≤ h.I 150 9 ∧ h.I 150 9 ≤ 400) : EvQX G mX9_feed (d) [.ref 150, .long (lZ v)] y h (fun z h1 => (392 < h.I 150 9 ∧ z = -3 ∧ h1 = h) ∨ (h.I 150 9 ≤ 392 ∧ z = h.I 150 9 + 8 ∧ h1 = tkR h v)) := by
  refine Ev.of rfl [some (.ref 150), some (.long (lZ v)), none, none] rfl (Nat.le_of_ble_eq_true rfl) ?_
  have L19 : ∀ (m : Nat) (i s : Int), (m : Int) = 8 - i → s = 56 - 8 * i → 0 ≤ i ∧ i ≤ 8 → h.I 150 9 ≤ 392 → Go G mX9_feed (rmo (d) 0 0) (ZM G y 0 0 (fun r h1 => ∃ v_ : Int, r = some (.int (iZ v_)) ∧ (fun z h1 => (392 < h.I 150 9 ∧ z = -3 ∧ h1 = h) ∨ (h.I 150 9 ≤ 392 ∧ z = h.I 150 9 + 8 ∧ h1 = tkR h v)) v_ h1)) y 19 [some (.ref 150), some (.long (lZ v)), none, some (.int (iZ s))] [] (tkI h v i) (0, 0) := by
    intro m
    induction m using Nat.strongRecOn with | _ m ih =>
    intro i s hm hs hi h92
    have e9 := tkI_9 h v i
    refine g_iload_n dX9_feed_19 rfl rfl ?_
    refine g_if_lt 56 dX9_feed_20 rfl (by omega) (fun c20 => ?_) (fun c20 => ?_)
    · skip
      refine g_aload_n dX9_feed_56 rfl rfl (gf_X9_66 (M := mX9_feed) rfl dX9_feed_57 (yo150 hY) ?_)
      rw [e9]
      exact g_iret dX9_feed_60 rfl rfl ⟨Nat.le_refl _, Nat.le_refl _⟩ (by obtain rfl : i = 8 := (by omega); exact ⟨_, rfl, Or.inr ⟨h92, rfl, rfl⟩⟩)
    · skip
      refine g_aload_n dX9_feed_23 rfl rfl (gf_X9_20 (M := mX9_feed) rfl dX9_feed_24 (yo150 hY) (yr150_8 hY) (g_aload_n dX9_feed_27 rfl rfl (gf_X9_66 (M := mX9_feed) rfl dX9_feed_28 (yo150 hY) (g_lload_n dX9_feed_31 rfl rfl (g_iload_n dX9_feed_32 rfl rfl (g_lshr dX9_feed_33 (c2_X9_69 (M := mX9_feed) rfl dX9_feed_34 (g_land dX9_feed_37 (g_l2i dX9_feed_38 ?_)))))))))
      rw [byt_r v hs (by omega), e9]
      refine g_iast dX9_feed_39 (ya154 hY) ⟨by omega, by omega, by omega⟩ (g_aload_n dX9_feed_40 rfl rfl (g_dup dX9_feed_41 rfl (gf_X9_66 (M := mX9_feed) rfl dX9_feed_42 (yo150 hY) (g_iconst dX9_feed_45 (g_iadd dX9_feed_46 ?_)))))
      rw [sI_I, if_neg (by omega), e9]
      refine pf_X9_66 (M := mX9_feed) rfl dX9_feed_47 (yo150 hY) ?_
      rw [tkI_s h v hi.1 hl.1]
      refine g_inc3 dX9_feed_50 (by decide) rfl (g_goto 19 dX9_feed_53 rfl ?_)
      exact ih (m - 1) (by omega) (i + 1) _ (by omega) (by omega) (by omega) h92
  refine g_aload_n dX9_feed_0 rfl rfl (gf_X9_66 (M := mX9_feed) rfl dX9_feed_1 (yo150 hY) (g_bipush dX9_feed_4 kb8 (g_iadd dX9_feed_6 (g_sipush dX9_feed_7 ks400 ?_))))
  refine g_icmp_le 16 dX9_feed_10 rfl (by omega) (by omega) (fun c10 => ?_) (fun c10 => ?_)
  · skip
    refine g_bipush dX9_feed_16 kb56 (g_ist3 dX9_feed_18 (by decide) rfl ?_)
    have hx := L19 8 0 56 (by omega) (by omega) (by omega) (by omega)
    rw [tkI_0] at hx
    exact hx
  · skip
    refine g_bipush dX9_feed_13 kbm3 ?_
    exact g_iret dX9_feed_15 rfl rfl ⟨Nat.le_refl _, Nat.le_refl _⟩ (by exact ⟨-3, rfl, Or.inl ⟨by omega, rfl, rfl⟩⟩)
set_option maxRecDepth 100000 in
set_option maxHeartbeats 1000000 in
theorem e_X9_end {G : GX} {y : LY} {h : HM} {d : Nat} (hY : Lay y) {n : Int} (hn : R32 n) (hl : 0 ≤ h.I 150 9 ∧ h.I 150 9 ≤ 400) : EvQX G mX9_end (d + 1) [.ref 150, .int (iZ n)] y h (fun z h1 => (¬ (0 ≤ n ∧ n ≤ h.I 150 9) ∧ z = -1 ∧ h1 = h) ∨ ((0 ≤ n ∧ n ≤ h.I 150 9) ∧ z = h.I 150 9 ∧ h1 = h.sI 150 9 n)) := by
  have hzn := pI_01 (0 ≤ n ∧ n ≤ h.I 150 9)
  have hyn := pI_eq1 (P := 0 ≤ n ∧ n ≤ h.I 150 9)
  refine Ev.of rfl [some (.ref 150), some (.int (iZ n)), none] rfl (Nat.le_of_ble_eq_true rfl) ?_
  refine g_iload_n dX9_end_0 rfl rfl (g_i2l dX9_end_1 (by omega) (g_lconst (v := 0) dX9_end_2 rfl (g_aload_n dX9_end_3 rfl rfl (gf_X9_66 (M := mX9_end) rfl dX9_end_4 (yo150 hY) (g_i2l dX9_end_7 (by omega) (cv_X9_71 (M := mX9_end) rfl dX9_end_8 (RO.same _ _ _) (Nat.le_of_ble_eq_true rfl) (e_X9_in (by omega) (by omega) (by omega)) <| kI ?_))))))
  refine g_if_ne 16 dX9_end_11 rfl (by omega) (fun c11 => ?_) (fun c11 => ?_)
  · skip
    refine g_aload_n dX9_end_16 rfl rfl (gf_X9_66 (M := mX9_end) rfl dX9_end_17 (yo150 hY) (g_ist2 dX9_end_20 (by decide) rfl (g_aload_n dX9_end_21 rfl rfl (g_iload_n dX9_end_22 rfl rfl (pf_X9_66 (M := mX9_end) rfl dX9_end_23 (yo150 hY) (g_iload_n dX9_end_26 rfl rfl ?_))))))
    exact g_iret dX9_end_27 rfl rfl ⟨Nat.le_refl _, Nat.le_refl _⟩ (by first | exact ⟨-1, rfl, Or.inl ⟨by omega, rfl, rfl⟩⟩ | exact ⟨_, rfl, Or.inr ⟨by omega, rfl, rfl⟩⟩)
  · skip
    refine g_iconst dX9_end_14 ?_
    exact g_iret dX9_end_15 rfl rfl ⟨Nat.le_refl _, Nat.le_refl _⟩ (by first | exact ⟨-1, rfl, Or.inl ⟨by omega, rfl, rfl⟩⟩ | exact ⟨_, rfl, Or.inr ⟨by omega, rfl, rfl⟩⟩)
set_option maxRecDepth 100000 in
set_option maxHeartbeats 1000000 in
theorem e_X9_fault {G : GX} {y : LY} {h : HM} {d : Nat} (hY : Lay y) : EvI G mX9_fault (d) [.ref 150] y h (h.I 150 14) := by
  refine Ev.of rfl [some (.ref 150)] rfl (Nat.le_of_ble_eq_true rfl) ?_
  refine g_aload_n dX9_fault_0 rfl rfl (gf_X9_75 (M := mX9_fault) rfl dX9_fault_1 (yo150 hY) ?_)
  exact g_iret dX9_fault_4 rfl rfl ⟨Nat.le_refl _, Nat.le_refl _⟩ (by exact ⟨rfl, rfl⟩)
set_option maxRecDepth 100000 in
set_option maxHeartbeats 1000000 in
theorem e_X9_rule {G : GX} {y : LY} {h : HM} {d : Nat} (hY : Lay y) {w : Int} (hw : R32 w) : EvI G mX9_rule (d) [.ref 150, .int (iZ w)] y h (sp_rule (h.I 151 0) (h.I 151 68) (h.I 151 69) (h.I 151 70) (h.I 150 2) (h.I 151 37) w) := by
  refine Ev.of rfl [some (.ref 150), some (.int (iZ w))] rfl (Nat.le_of_ble_eq_true rfl) ?_
  refine g_iload_n dX9_rule_0 rfl rfl ?_
  by_cases sw1 : w < 0 ∨ 5 < w
  · refine g_tsOut 72 dX9_rule_1 (by omega) sw1 rfl ?_
    refine g_iconst dX9_rule_72 ?_
    exact g_iret dX9_rule_73 rfl rfl ⟨Nat.le_refl _, Nat.le_refl _⟩ (by exact ⟨someI (by unfold sp_rule; repeat (split) <;> first | rfl | (exfalso; omega) | omega), rfl⟩)
  · rcases (by omega : w = 0 ∨ w = 1 ∨ w = 2 ∨ w = 3 ∨ w = 4 ∨ w = 5) with rfl | rfl | rfl | rfl | rfl | rfl
    · refine g_tsIn 40 dX9_rule_1 (by decide) (by decide) (by decide) rfl rfl ?_
      refine g_aload_n dX9_rule_40 rfl rfl (gf_X9_7 (M := mX9_rule) rfl dX9_rule_41 (yo150 hY) (yr150_0 hY) (g_iconst dX9_rule_44 (g_iaN 0 dX9_rule_45 (ya151 hY) ⟨by decide, by decide, by decide⟩ rfl ?_)))
      exact g_iret dX9_rule_46 rfl rfl ⟨Nat.le_refl _, Nat.le_refl _⟩ (by exact ⟨someI (by unfold sp_rule; repeat (split) <;> first | rfl | (exfalso; omega) | omega), rfl⟩)
    · refine g_tsIn 47 dX9_rule_1 (by decide) (by decide) (by decide) rfl rfl ?_
      refine g_aload_n dX9_rule_47 rfl rfl (gf_X9_7 (M := mX9_rule) rfl dX9_rule_48 (yo150 hY) (yr150_0 hY) (g_bipush dX9_rule_51 kb68 (g_iload_n dX9_rule_53 rfl rfl (g_iadd dX9_rule_54 (g_iconst dX9_rule_55 (g_isub dX9_rule_56 (g_iald dX9_rule_57 (ya151 hY) ⟨by omega, by omega, by omega⟩ ?_)))))))
      exact g_iret dX9_rule_58 rfl rfl ⟨Nat.le_refl _, Nat.le_refl _⟩ (by exact ⟨someI (by unfold sp_rule; repeat (split) <;> first | rfl | (exfalso; omega) | omega), rfl⟩)
    · refine g_tsIn 47 dX9_rule_1 (by decide) (by decide) (by decide) rfl rfl ?_
      refine g_aload_n dX9_rule_47 rfl rfl (gf_X9_7 (M := mX9_rule) rfl dX9_rule_48 (yo150 hY) (yr150_0 hY) (g_bipush dX9_rule_51 kb68 (g_iload_n dX9_rule_53 rfl rfl (g_iadd dX9_rule_54 (g_iconst dX9_rule_55 (g_isub dX9_rule_56 (g_iald dX9_rule_57 (ya151 hY) ⟨by omega, by omega, by omega⟩ ?_)))))))
      exact g_iret dX9_rule_58 rfl rfl ⟨Nat.le_refl _, Nat.le_refl _⟩ (by exact ⟨someI (by unfold sp_rule; repeat (split) <;> first | rfl | (exfalso; omega) | omega), rfl⟩)
    · refine g_tsIn 47 dX9_rule_1 (by decide) (by decide) (by decide) rfl rfl ?_
      refine g_aload_n dX9_rule_47 rfl rfl (gf_X9_7 (M := mX9_rule) rfl dX9_rule_48 (yo150 hY) (yr150_0 hY) (g_bipush dX9_rule_51 kb68 (g_iload_n dX9_rule_53 rfl rfl (g_iadd dX9_rule_54 (g_iconst dX9_rule_55 (g_isub dX9_rule_56 (g_iald dX9_rule_57 (ya151 hY) ⟨by omega, by omega, by omega⟩ ?_)))))))
      exact g_iret dX9_rule_58 rfl rfl ⟨Nat.le_refl _, Nat.le_refl _⟩ (by exact ⟨someI (by unfold sp_rule; repeat (split) <;> first | rfl | (exfalso; omega) | omega), rfl⟩)
    · refine g_tsIn 59 dX9_rule_1 (by decide) (by decide) (by decide) rfl rfl ?_
      refine g_aload_n dX9_rule_59 rfl rfl (gf_X9_63 (M := mX9_rule) rfl dX9_rule_60 (yo150 hY) ?_)
      exact g_iret dX9_rule_63 rfl rfl ⟨Nat.le_refl _, Nat.le_refl _⟩ (by exact ⟨someI (by unfold sp_rule; repeat (split) <;> first | rfl | (exfalso; omega) | omega), rfl⟩)
    · refine g_tsIn 64 dX9_rule_1 (by decide) (by decide) (by decide) rfl rfl ?_
      refine g_aload_n dX9_rule_64 rfl rfl (gf_X9_7 (M := mX9_rule) rfl dX9_rule_65 (yo150 hY) (yr150_0 hY) (g_bipush dX9_rule_68 kb37 (g_iaN 37 dX9_rule_70 (ya151 hY) ⟨by decide, by decide, by decide⟩ rfl ?_)))
      exact g_iret dX9_rule_71 rfl rfl ⟨Nat.le_refl _, Nat.le_refl _⟩ (by exact ⟨someI (by unfold sp_rule; repeat (split) <;> first | rfl | (exfalso; omega) | omega), rfl⟩)
set_option maxRecDepth 100000 in
set_option maxHeartbeats 1000000 in
theorem e_X9_figure {G : GX} {y : LY} {h : HM} {d : Nat} (hY : Lay y) {F : Nat → Fg} (hR : RF h F) {f w : Int} (hf : R32 f) (hw : R32 w) : EvI G mX9_figure (d + 2) [.ref 150, .int (iZ f), .int (iZ w)] y h (sp_fig (h.I 151 0) (F f.toNat) f w) := by
  have hnf := hR.1
  have hpf := pI_01 (0 ≤ f ∧ f < h.I 151 0)
  have hpe := pI_eq1 (P := 0 ≤ f ∧ f < h.I 151 0)
  have hzw := pI_01 (0 ≤ w ∧ w ≤ 5)
  have hyw := pI_eq1 (P := 0 ≤ w ∧ w ≤ 5)
  refine Ev.of rfl [some (.ref 150), some (.int (iZ f)), some (.int (iZ w))] rfl (Nat.le_of_ble_eq_true rfl) ?_
  refine g_aload_n dX9_figure_0 rfl rfl (g_iload_n dX9_figure_1 rfl rfl (cv_X9_146 (M := mX9_figure) rfl dX9_figure_2 (yo150 hY) (RO.same _ _ _) (Nat.le_of_ble_eq_true rfl) (e_X9_isFigure hY (by omega) (by omega)) <| kI ?_))
  refine g_if_ne 12 dX9_figure_5 rfl (by omega) (fun c5 => ?_) (fun c5 => ?_)
  · skip
    have hFf := hR.2 f (by omega) (by omega)
    have hfb : 0 ≤ f ∧ f ≤ 5 := by omega
    have hFw := hFf.1
    unfold RFg at hFw
    refine g_iload_n dX9_figure_12 rfl rfl (g_i2l dX9_figure_13 (by omega) (g_lconst (v := 0) dX9_figure_14 rfl (c2_X9_150 (M := mX9_figure) rfl dX9_figure_15 (cv_X9_71 (M := mX9_figure) rfl dX9_figure_18 (RO.same _ _ _) (Nat.le_of_ble_eq_true rfl) (e_X9_in (by omega) (by omega) (by omega)) <| kI ?_))))
    refine g_if_eq 33 dX9_figure_21 rfl (by omega) (fun c21 => ?_) (fun c21 => ?_)
    · skip
      refine g_iload_n dX9_figure_33 rfl rfl (g_bipush dX9_figure_34 kb6 ?_)
      refine g_icmp_ne 47 dX9_figure_36 rfl (by omega) (by omega) (fun c36 => ?_) (fun c36 => ?_)
      · skip
        refine g_iconst dX9_figure_47 ?_
        exact g_iret dX9_figure_48 rfl rfl ⟨Nat.le_refl _, Nat.le_refl _⟩ (by refine ⟨someI ?_, rfl⟩; unfold sp_fig; first | (rw [if_pos (by omega)]; done) | (rw [if_neg (by omega), if_neg (by omega), if_neg (by omega), if_neg (by omega), if_neg (by omega), if_neg (by omega), if_neg (by omega), if_pos (by omega)]; done) | (rw [if_neg (by omega), if_neg (by omega), if_neg (by omega), if_neg (by omega), if_neg (by omega), if_neg (by omega), if_neg (by omega), if_neg (by omega)]; done) | (rw [if_neg (by omega)]; rcases (by omega : w = 0 ∨ w = 1 ∨ w = 2 ∨ w = 3 ∨ w = 4 ∨ w = 5) with rfl | rfl | rfl | rfl | rfl | rfl; exact hFw.1; exact hFw.2.1; exact hFw.2.2.1; exact hFw.2.2.2.1; exact hFw.2.2.2.2.1; exact hFw.2.2.2.2.2))
      · skip
        refine g_aload_n dX9_figure_39 rfl rfl (g_iload_n dX9_figure_40 rfl rfl (cv_X9_152 (M := mX9_figure) rfl dX9_figure_41 (yo150 hY) (RO.same _ _ _) (Nat.le_of_ble_eq_true rfl) (e_X9_roundOf hY hfb hFf.1 hFf.2) <| kI (g_goto 48 dX9_figure_44 rfl ?_)))
        exact g_iret dX9_figure_48 rfl rfl ⟨Nat.le_refl _, Nat.le_refl _⟩ (by refine ⟨someI ?_, rfl⟩; unfold sp_fig; first | (rw [if_pos (by omega)]; done) | (rw [if_neg (by omega), if_neg (by omega), if_neg (by omega), if_neg (by omega), if_neg (by omega), if_neg (by omega), if_neg (by omega), if_pos (by omega)]; done) | (rw [if_neg (by omega), if_neg (by omega), if_neg (by omega), if_neg (by omega), if_neg (by omega), if_neg (by omega), if_neg (by omega), if_neg (by omega)]; done) | (rw [if_neg (by omega)]; rcases (by omega : w = 0 ∨ w = 1 ∨ w = 2 ∨ w = 3 ∨ w = 4 ∨ w = 5) with rfl | rfl | rfl | rfl | rfl | rfl; exact hFw.1; exact hFw.2.1; exact hFw.2.2.1; exact hFw.2.2.2.1; exact hFw.2.2.2.2.1; exact hFw.2.2.2.2.2))
    · skip
      refine g_aload_n dX9_figure_24 rfl rfl (g_iload_n dX9_figure_25 rfl rfl (g_iload_n dX9_figure_26 rfl rfl (cv_X9_143 (M := mX9_figure) rfl dX9_figure_27 (yo150 hY) (RO.same _ _ _) (Nat.le_of_ble_eq_true rfl) (e_X9_of hY hfb (by omega)) <| kI (g_goto 48 dX9_figure_30 rfl ?_))))
      exact g_iret dX9_figure_48 rfl rfl ⟨Nat.le_refl _, Nat.le_refl _⟩ (by refine ⟨someI ?_, rfl⟩; unfold sp_fig; first | (rw [if_pos (by omega)]; done) | (rw [if_neg (by omega), if_neg (by omega), if_neg (by omega), if_neg (by omega), if_neg (by omega), if_neg (by omega), if_neg (by omega), if_pos (by omega)]; done) | (rw [if_neg (by omega), if_neg (by omega), if_neg (by omega), if_neg (by omega), if_neg (by omega), if_neg (by omega), if_neg (by omega), if_neg (by omega)]; done) | (rw [if_neg (by omega)]; rcases (by omega : w = 0 ∨ w = 1 ∨ w = 2 ∨ w = 3 ∨ w = 4 ∨ w = 5) with rfl | rfl | rfl | rfl | rfl | rfl; exact hFw.1; exact hFw.2.1; exact hFw.2.2.1; exact hFw.2.2.2.1; exact hFw.2.2.2.2.1; exact hFw.2.2.2.2.2))
  · skip
    refine g_iconst dX9_figure_8 (g_goto 48 dX9_figure_9 rfl ?_)
    exact g_iret dX9_figure_48 rfl rfl ⟨Nat.le_refl _, Nat.le_refl _⟩ (by refine ⟨someI ?_, rfl⟩; unfold sp_fig; first | (rw [if_pos (by omega)]; done) | (rw [if_neg (by omega), if_neg (by omega), if_neg (by omega), if_neg (by omega), if_neg (by omega), if_neg (by omega), if_neg (by omega), if_pos (by omega)]; done) | (rw [if_neg (by omega), if_neg (by omega), if_neg (by omega), if_neg (by omega), if_neg (by omega), if_neg (by omega), if_neg (by omega), if_neg (by omega)]; done) | (rw [if_neg (by omega)]; rcases (by omega : w = 0 ∨ w = 1 ∨ w = 2 ∨ w = 3 ∨ w = 4 ∨ w = 5) with rfl | rfl | rfl | rfl | rfl | rfl; exact hFw.1; exact hFw.2.1; exact hFw.2.2.1; exact hFw.2.2.2.1; exact hFw.2.2.2.2.1; exact hFw.2.2.2.2.2))
set_option maxRecDepth 100000 in
set_option maxHeartbeats 1000000 in
theorem e_X9_vote {G : GX} {y : LY} {h : HM} {d : Nat} (hY : Lay y) {V : Nat → Fg} (hV : RV h V) {v w : Int} (hv : R32 v) (hw : R32 w) : EvI G mX9_vote (d + 1) [.ref 150, .int (iZ v), .int (iZ w)] y h (sp_vote (h.I 151 37) (V v.toNat) v w) := by
  have hnv := hV.1
  have hzv := pI_01 (0 ≤ v ∧ v ≤ (h.I 151 37) - 1)
  have hyv := pI_eq1 (P := 0 ≤ v ∧ v ≤ (h.I 151 37) - 1)
  have hzw := pI_01 (0 ≤ w ∧ w ≤ 4)
  have hyw := pI_eq1 (P := 0 ≤ w ∧ w ≤ 4)
  refine Ev.of rfl [some (.ref 150), some (.int (iZ v)), some (.int (iZ w))] rfl (Nat.le_of_ble_eq_true rfl) ?_
  refine g_iload_n dX9_vote_0 rfl rfl (g_i2l dX9_vote_1 (by omega) (g_lconst (v := 0) dX9_vote_2 rfl (g_aload_n dX9_vote_3 rfl rfl (gf_X9_7 (M := mX9_vote) rfl dX9_vote_4 (yo150 hY) (yr150_0 hY) (g_bipush dX9_vote_7 kb37 (g_iaN 37 dX9_vote_9 (ya151 hY) ⟨by decide, by decide, by decide⟩ rfl (g_iconst dX9_vote_10 (g_isub dX9_vote_11 (g_i2l dX9_vote_12 (by omega) (cv_X9_71 (M := mX9_vote) rfl dX9_vote_13 (RO.same _ _ _) (Nat.le_of_ble_eq_true rfl) (e_X9_in (by omega) (by omega) (by omega)) <| kI ?_))))))))))
  refine g_if_eq 47 dX9_vote_16 rfl (by omega) (fun c16 => ?_) (fun c16 => ?_)
  · skip
    refine g_iconst dX9_vote_47 ?_
    exact g_iret dX9_vote_48 rfl rfl ⟨Nat.le_refl _, Nat.le_refl _⟩ (by refine ⟨someI ?_, rfl⟩; unfold sp_vote; first | (rw [if_pos (by omega)]; done) | (rw [if_neg (by omega), if_neg (by omega), if_neg (by omega), if_neg (by omega), if_neg (by omega), if_neg (by omega)]; done) | (rw [if_neg (by omega)]; rcases (by omega : w = 0 ∨ w = 1 ∨ w = 2 ∨ w = 3 ∨ w = 4) with rfl | rfl | rfl | rfl | rfl; (rw [Int.add_zero]; exact hVv.1); exact hVv.2.1; exact hVv.2.2.1; exact hVv.2.2.2.1; exact hVv.2.2.2.2))
  · skip
    refine g_iload_n dX9_vote_19 rfl rfl (g_i2l dX9_vote_20 (by omega) (g_lconst (v := 0) dX9_vote_21 rfl (c2_X9_155 (M := mX9_vote) rfl dX9_vote_22 (cv_X9_71 (M := mX9_vote) rfl dX9_vote_25 (RO.same _ _ _) (Nat.le_of_ble_eq_true rfl) (e_X9_in (by omega) (by omega) (by omega)) <| kI ?_))))
    refine g_if_eq 47 dX9_vote_28 rfl (by omega) (fun c28 => ?_) (fun c28 => ?_)
    · skip
      refine g_iconst dX9_vote_47 ?_
      exact g_iret dX9_vote_48 rfl rfl ⟨Nat.le_refl _, Nat.le_refl _⟩ (by refine ⟨someI ?_, rfl⟩; unfold sp_vote; first | (rw [if_pos (by omega)]; done) | (rw [if_neg (by omega), if_neg (by omega), if_neg (by omega), if_neg (by omega), if_neg (by omega), if_neg (by omega)]; done) | (rw [if_neg (by omega)]; rcases (by omega : w = 0 ∨ w = 1 ∨ w = 2 ∨ w = 3 ∨ w = 4) with rfl | rfl | rfl | rfl | rfl; (rw [Int.add_zero]; exact hVv.1); exact hVv.2.1; exact hVv.2.2.1; exact hVv.2.2.2.1; exact hVv.2.2.2.2))
    · skip
      have hVv := (hV.2 v (by omega) (by omega)).1
      unfold RVg at hVv
      refine g_aload_n dX9_vote_31 rfl rfl (gf_X9_7 (M := mX9_vote) rfl dX9_vote_32 (yo150 hY) (yr150_0 hY) (g_bipush dX9_vote_35 kb38 (g_iconst dX9_vote_37 (g_iload_n dX9_vote_38 rfl rfl (g_imul dX9_vote_39 (g_iadd dX9_vote_40 (g_iload_n dX9_vote_41 rfl rfl (g_iadd dX9_vote_42 (g_iald dX9_vote_43 (ya151 hY) ⟨by omega, by omega, by omega⟩ (g_goto 48 dX9_vote_44 rfl ?_))))))))))
      exact g_iret dX9_vote_48 rfl rfl ⟨Nat.le_refl _, Nat.le_refl _⟩ (by refine ⟨someI ?_, rfl⟩; unfold sp_vote; first | (rw [if_pos (by omega)]; done) | (rw [if_neg (by omega), if_neg (by omega), if_neg (by omega), if_neg (by omega), if_neg (by omega), if_neg (by omega)]; done) | (rw [if_neg (by omega)]; rcases (by omega : w = 0 ∨ w = 1 ∨ w = 2 ∨ w = 3 ∨ w = 4) with rfl | rfl | rfl | rfl | rfl; (rw [Int.add_zero]; exact hVv.1); exact hVv.2.1; exact hVv.2.2.1; exact hVv.2.2.2.1; exact hVv.2.2.2.2))
