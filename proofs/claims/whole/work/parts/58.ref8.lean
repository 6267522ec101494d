def TnI (F : Nat → Fg) (nf f d fd : Int) : Prop := (fd = -4 ∧ ∀ j : Int, 0 ≤ j → j < d → ¬ FrA F nf f (F f.toNat) (((F f.toNat).st + j) % (F f.toNat).te)) ∨
  ∃ i : Int, (0 ≤ i ∧ i < d) ∧ fd = ((F f.toNat).st + i) % (F f.toNat).te ∧ FrA F nf f (F f.toNat) fd ∧ ∀ j : Int, 0 ≤ j → j < i → ¬ FrA F nf f (F f.toNat) (((F f.toNat).st + j) % (F f.toNat).te)
theorem TnI.bd {F : Nat → Fg} {nf f d fd : Int} (ht : 0 < (F f.toNat).te) (h : TnI F nf f d fd) : fd = -4 ∨ (0 ≤ fd ∧ fd < (F f.toNat).te) := by
  rcases h with ⟨z, _⟩ | ⟨i, _, z, _⟩
  · exact Or.inl z
  · exact Or.inr (by rw [z]; exact em_bd _ ht)
theorem TnI.y {F : Nat → Fg} {nf f d v fd : Int} (hd : 0 ≤ d) (h : TnI F nf f d fd) (h4 : fd = -4) (ht : 0 < (F f.toNat).te) (hv : v = ((F f.toNat).st + d) % (F f.toNat).te) (hA : FrA F nf f (F f.toNat) v) : TnI F nf f (d + 1) v := by
  rcases h with ⟨_, z⟩ | ⟨i, _, z, _⟩
  · exact Or.inr ⟨d, by omega, hv, hA, z⟩
  · have := em_bd ((F f.toNat).st + i) ht; omega
theorem TnI.n {F : Nat → Fg} {nf f d v fd : Int} (hd : 0 ≤ d) (h : TnI F nf f d fd) (h4 : fd = -4) (ht : 0 < (F f.toNat).te) (hv : v = ((F f.toNat).st + d) % (F f.toNat).te) (hA : ¬ FrA F nf f (F f.toNat) v) : TnI F nf f (d + 1) fd := by
  rcases h with ⟨z0, z⟩ | ⟨i, _, z, _⟩
  · refine Or.inl ⟨z0, fun j j0 j1 => ?_⟩
    rcases (by omega : j < d ∨ j = d) with q | rfl
    · exact z j j0 q
    · rw [← hv]; exact hA
  · have := em_bd ((F f.toNat).st + i) ht; omega
theorem TnI.e {F : Nat → Fg} {nf f d fd : Int} (ht : 0 < (F f.toNat).te) (hd : 0 ≤ d ∧ d ≤ (F f.toNat).te) (h : TnI F nf f d fd) (hc : d = (F f.toNat).te ∨ fd ≠ -4) : TurnP F nf f fd := by
  rcases h with ⟨z0, z⟩ | ⟨i, i1, z, p, q⟩
  · exact Or.inl ⟨z0, fun j j0 j1 => z j j0 (by omega)⟩
  · exact Or.inr ⟨i, by omega, z, p, q⟩
theorem tn_end {h0 h1 : HM} {F : Nat → Fg} {f s : Int} (hR : RF h0 F) (hf : 0 ≤ f ∧ f < h0.I 151 0) (hC : ChG h0 h1 f (F f.toNat).te s) : FrC h0 (h1.sI 151 (1 + 6 * f + 2).toNat (F f.toNat).st) := by
  have hC2 := hC.st hf.1 (F f.toNat).st
  have hF := (hR.2 f hf.1 hf.2).1
  refine ⟨hC2.1.1, fun x j q => ?_⟩
  by_cases z : x = 151 ∧ (j = (1 + 6 * f + 1).toNat ∨ j = (1 + 6 * f + 2).toNat)
  · obtain ⟨rfl, z2⟩ := z
    rcases z2 with rfl | rfl
    · rw [hC2.2.1]; exact hF.2.1.symm
    · rw [hC2.2.2]; exact hF.2.2.1.symm
  · exact hC2.1.2 x j q (by omega)
set_option maxRecDepth 100000 in
set_option maxHeartbeats 1000000 in
theorem e_X9_turn {G : GX} {y : LY} {h : HM} {d : Nat} (hY : Lay y) {F : Nat → Fg} (hR : RF h F) {f : Int} (hf : R32 f) : EvQX G mX9_turn (d + 5) [.ref 150, .int (iZ f)] y h (fun v h1 => FrC h h1 ∧ ((¬ (0 ≤ f ∧ f < (h.I 151 0)) ∧ v = -1) ∨ ((0 ≤ f ∧ f < (h.I 151 0)) ∧ TurnP F (h.I 151 0) f v))) := by
  have hnf := hR.1
  have hpf := pI_01 (0 ≤ f ∧ f < h.I 151 0)
  have hpe := pI_eq1 (P := 0 ≤ f ∧ f < h.I 151 0)
  refine Ev.of rfl [some (.ref 150), some (.int (iZ f)), none, none, none, none] rfl (Nat.le_of_ble_eq_true rfl) ?_
  have L23 : ∀ (m : Nat) (h1 : HM) (c fd s : Int), (m : Int) = (F f.toNat).te - c → 0 ≤ c ∧ c ≤ (F f.toNat).te → (0 ≤ f ∧ f < (h.I 151 0)) → ChG h h1 f (F f.toNat).te s → TnI F (h.I 151 0) f c fd → Go G mX9_turn (rmo (d + 5) 0 0) (ZM G y 0 0 (fun r h1 => ∃ v_ : Int, r = some (.int (iZ v_)) ∧ (fun v h1 => FrC h h1 ∧ ((¬ (0 ≤ f ∧ f < (h.I 151 0)) ∧ v = -1) ∨ ((0 ≤ f ∧ f < (h.I 151 0)) ∧ TurnP F (h.I 151 0) f v))) v_ h1)) y 23 [some (.ref 150), some (.int (iZ f)), some (.int (iZ (F f.toNat).st)), some (.int (iZ fd)), some (.int (iZ c)), none] [] h1 (0, 0) := by
    intro m
    induction m using Nat.strongRecOn with | _ m ih =>
    intro h1 c fd s hm hc hok hC hI
    have hFf := hR.2 f hok.1 hok.2
    have hW := hFf.2.1
    have hbd := hI.bd (by omega)
    have e1 := hC.2.1
    have hB1 := hFf.2
    have hem := em_bd ((F f.toNat).st + c) (d := (F f.toNat).te) (by omega)
    refine g_iload dX9_turn_23 rfl (g_aload_n dX9_turn_25 rfl rfl (g_iload_n dX9_turn_26 rfl rfl (g_iconst dX9_turn_27 (cv_X9_143 (M := mX9_turn) rfl dX9_turn_28 (yo150 hY) (RO.same _ _ _) (Nat.le_of_ble_eq_true rfl) (e_X9_of hY (by omega) (by omega)) <| kI ?_))))
    rw [e1]
    refine g_icmp_ge 89 dX9_turn_31 rfl (by omega) (by omega) (fun c31 => ?_) (fun c31 => ?_)
    · skip
      refine g_aload_n dX9_turn_89 rfl rfl (gf_X9_7 (M := mX9_turn) rfl dX9_turn_90 (yo150 hY) (yr150_0 hY) (g_iconst dX9_turn_93 (g_bipush dX9_turn_94 kb6 (g_iload_n dX9_turn_96 rfl rfl (g_imul dX9_turn_97 (g_iadd dX9_turn_98 (g_iconst dX9_turn_99 (g_iadd dX9_turn_100 (g_iload_n dX9_turn_101 rfl rfl (g_iast dX9_turn_102 (ya151 hY) ⟨by omega, by omega, by omega⟩ (g_iload_n dX9_turn_103 rfl rfl ?_)))))))))))
      exact g_iret dX9_turn_104 rfl rfl ⟨Nat.le_refl _, Nat.le_refl _⟩ (by refine ⟨fd, rfl, ?_, Or.inr ⟨hok, hI.e (by omega) (by omega) (by omega)⟩⟩; have hfe := tn_end hR hok hC; exact hfe)
    · skip
      refine g_iload_n dX9_turn_34 rfl rfl (g_bipush dX9_turn_35 kbm4 ?_)
      refine g_icmp_ne 89 dX9_turn_37 rfl (by omega) (by omega) (fun c37 => ?_) (fun c37 => ?_)
      · skip
        refine g_aload_n dX9_turn_89 rfl rfl (gf_X9_7 (M := mX9_turn) rfl dX9_turn_90 (yo150 hY) (yr150_0 hY) (g_iconst dX9_turn_93 (g_bipush dX9_turn_94 kb6 (g_iload_n dX9_turn_96 rfl rfl (g_imul dX9_turn_97 (g_iadd dX9_turn_98 (g_iconst dX9_turn_99 (g_iadd dX9_turn_100 (g_iload_n dX9_turn_101 rfl rfl (g_iast dX9_turn_102 (ya151 hY) ⟨by omega, by omega, by omega⟩ (g_iload_n dX9_turn_103 rfl rfl ?_)))))))))))
        exact g_iret dX9_turn_104 rfl rfl ⟨Nat.le_refl _, Nat.le_refl _⟩ (by refine ⟨fd, rfl, ?_, Or.inr ⟨hok, hI.e (by omega) (by omega) (by omega)⟩⟩; have hfe := tn_end hR hok hC; exact hfe)
      · skip
        refine g_iload_n dX9_turn_40 rfl rfl (g_iload dX9_turn_41 rfl (g_iadd dX9_turn_43 (g_aload_n dX9_turn_44 rfl rfl (g_iload_n dX9_turn_45 rfl rfl (g_iconst dX9_turn_46 (cv_X9_143 (M := mX9_turn) rfl dX9_turn_47 (yo150 hY) (RO.same _ _ _) (Nat.le_of_ble_eq_true rfl) (e_X9_of hY (by omega) (by omega)) <| kI ?_))))))
        rw [e1]
        refine g_iremP dX9_turn_50 (by omega) (by omega) (g_ist5 dX9_turn_51 (by decide) rfl (g_aload_n dX9_turn_53 rfl rfl (gf_X9_7 (M := mX9_turn) rfl dX9_turn_54 (yo150 hY) (yr150_0 hY) (g_iconst dX9_turn_57 (g_bipush dX9_turn_58 kb6 (g_iload_n dX9_turn_60 rfl rfl (g_imul dX9_turn_61 (g_iadd dX9_turn_62 (g_iconst dX9_turn_63 (g_iadd dX9_turn_64 (g_iload dX9_turn_65 rfl ?_)))))))))))
        refine g_iast dX9_turn_67 (ya151 hY) ⟨by omega, by omega, by omega⟩ ?_
        have hC2 := hC.st hok.1 (((F f.toNat).st + c) % (F f.toNat).te)
        have hB2 : FgB (cutF (F f.toNat) (F f.toNat).te (((F f.toNat).st + c) % (F f.toNat).te)) := ⟨hW, hem.1, hem.2, hB1.2.2.2.1, hB1.2.2.2.2⟩
        have hR2 := hC2.rF hR hok hB2
        have e0 : (h1.sI 151 (1 + 6 * f + 2).toNat (((F f.toNat).st + c) % (F f.toNat).te)).I 151 0 = h.I 151 0 := hC2.1.2 151 0 (by omega) (by omega)
        have hcr := fr_cr (F := F) (n := (h.I 151 0)) (f := f) (T := (F f.toNat)) hok (((F f.toNat).st + c) % (F f.toNat).te)
        have hcb := crS_bd (upF F f.toNat (cutF (F f.toNat) (F f.toNat).te (((F f.toNat).st + c) % (F f.toNat).te))) f.toNat (h.I 151 0).toNat
        have hc2 := p2_6 (n := (h.I 151 0).toNat) (by omega)
        refine g_aload_n dX9_turn_68 rfl rfl (g_iload_n dX9_turn_69 rfl rfl (cv_X9_245 (M := mX9_turn) rfl dX9_turn_70 (yo150 hY) (RO.same _ _ _) (Nat.le_of_ble_eq_true rfl) (e_X9_crashOf hY hR2 (by omega)) <| kI ?_))
        rw [e0]
        refine g_if_ne 81 dX9_turn_73 rfl (by omega) (fun c73 => ?_) (fun c73 => ?_)
        · skip
          refine g_iload_n dX9_turn_81 rfl rfl (g_ist3 dX9_turn_82 (by decide) rfl (g_inc4 dX9_turn_83 (by decide) rfl (g_goto 23 dX9_turn_86 rfl (g_dr5 ?_))))
          first
          | exact ih (m - 1) (by omega) _ (c + 1) _ _ (by omega) (by omega) hok hC2 (hI.y hc.1 (by omega) (by omega) rfl (hcr.mp c73))
          | exact ih (m - 1) (by omega) _ (c + 1) fd _ (by omega) (by omega) hok hC2 (hI.n hc.1 (by omega) (by omega) rfl (fun z => c73 (hcr.mpr z)))
        · skip
          refine g_iload dX9_turn_76 rfl (g_goto 82 dX9_turn_78 rfl (g_ist3 dX9_turn_82 (by decide) rfl (g_inc4 dX9_turn_83 (by decide) rfl (g_goto 23 dX9_turn_86 rfl (g_dr5 ?_)))))
          first
          | exact ih (m - 1) (by omega) _ (c + 1) _ _ (by omega) (by omega) hok hC2 (hI.y hc.1 (by omega) (by omega) rfl (hcr.mp c73))
          | exact ih (m - 1) (by omega) _ (c + 1) fd _ (by omega) (by omega) hok hC2 (hI.n hc.1 (by omega) (by omega) rfl (fun z => c73 (hcr.mpr z)))
  refine g_aload_n dX9_turn_0 rfl rfl (g_iload_n dX9_turn_1 rfl rfl (cv_X9_146 (M := mX9_turn) rfl dX9_turn_2 (yo150 hY) (RO.same _ _ _) (Nat.le_of_ble_eq_true rfl) (e_X9_isFigure hY (by omega) (by omega)) <| kI ?_))
  refine g_if_ne 10 dX9_turn_5 rfl (by omega) (fun c5 => ?_) (fun c5 => ?_)
  · skip
    have hFf := hR.2 f (by omega) (by omega)
    have hW := hFf.2.1
    refine g_aload_n dX9_turn_10 rfl rfl (g_iload_n dX9_turn_11 rfl rfl (g_iconst dX9_turn_12 (cv_X9_143 (M := mX9_turn) rfl dX9_turn_13 (yo150 hY) (RO.same _ _ _) (Nat.le_of_ble_eq_true rfl) (e_of2 hY (by omega) hFf.1) <| kI (g_ist2 dX9_turn_16 (by decide) rfl (g_bipush dX9_turn_17 kbm4 (g_ist3 dX9_turn_19 (by decide) rfl (g_iconst dX9_turn_20 (g_ist4 dX9_turn_21 (by decide) rfl ?_))))))))
    exact L23 (F f.toNat).te.toNat h 0 (-4) _ (by omega) (by omega) (by omega) (ChG.rf hFf.1) (Or.inl ⟨rfl, fun j j0 j1 => by omega⟩)
  · skip
    refine g_iconst dX9_turn_8 ?_
    exact g_iret dX9_turn_9 rfl rfl ⟨Nat.le_refl _, Nat.le_refl _⟩ (by exact ⟨-1, rfl, FrC.rf h, Or.inl ⟨by omega, rfl⟩⟩)
set_option maxRecDepth 100000 in
set_option maxHeartbeats 1000000 in
theorem e_X9_recut {G : GX} {y : LY} {h : HM} {d : Nat} (hY : Lay y) {F : Nat → Fg} (hR : RF h F) {f n k : Int} (hf : R32 f) (hn : R32 n) (hk : R32 k) : EvQX G mX9_recut (d + 2) [.ref 150, .int (iZ f), .int (iZ n), .int (iZ k)] y h (fun v h1 => (¬ ((0 ≤ f ∧ f < (h.I 151 0)) ∧ (2 ≤ n ∧ n ≤ 60 ∧ 0 ≤ k ∧ k < n) ∧ (F f.toNat).ga < n) ∧ v = -1 ∧ h1 = h) ∨ (((0 ≤ f ∧ f < (h.I 151 0)) ∧ (2 ≤ n ∧ n ≤ 60 ∧ 0 ≤ k ∧ k < n) ∧ (F f.toNat).ga < n) ∧ v = (F f.toNat).te ∧ h1 = (h.sI 151 (1 + 6 * f + 1).toNat n).sI 151 (1 + 6 * f + 2).toNat k)) := by
  have hnf := hR.1
  have hpf := pI_01 (0 ≤ f ∧ f < h.I 151 0)
  have hpe := pI_eq1 (P := 0 ≤ f ∧ f < h.I 151 0)
  refine Ev.of rfl [some (.ref 150), some (.int (iZ f)), some (.int (iZ n)), some (.int (iZ k)), none] rfl (Nat.le_of_ble_eq_true rfl) ?_
  refine g_aload_n dX9_recut_0 rfl rfl (g_iload_n dX9_recut_1 rfl rfl (cv_X9_146 (M := mX9_recut) rfl dX9_recut_2 (yo150 hY) (RO.same _ _ _) (Nat.le_of_ble_eq_true rfl) (e_X9_isFigure hY (by omega) (by omega)) <| kI ?_))
  refine g_if_eq 30 dX9_recut_5 rfl (by omega) (fun c5 => ?_) (fun c5 => ?_)
  · skip
    first | unfold TeOK at k14 | skip
    refine g_iconst dX9_recut_30 ?_
    exact g_iret dX9_recut_31 rfl rfl ⟨Nat.le_refl _, Nat.le_refl _⟩ (by first | exact ⟨-1, rfl, Or.inl ⟨by omega, rfl, rfl⟩⟩ | exact ⟨_, rfl, Or.inr ⟨by omega, rfl, rfl⟩⟩)
  · skip
    have hFf := hR.2 f (by omega) (by omega)
    refine g_aload_n dX9_recut_8 rfl rfl (g_iload_n dX9_recut_9 rfl rfl (g_iload_n dX9_recut_10 rfl rfl (cv_X9_285 (M := mX9_recut) rfl dX9_recut_11 (yo150 hY) (RO.same _ _ _) (Nat.le_of_ble_eq_true rfl) (e_X9_mayHave hY hR (by omega) (ChG.rf hFf.1) (by omega)) <| kI ?_)))
    refine g_if_eq 30 dX9_recut_14 rfl (pI_r _) (fun c14 => ?_) (fun c14 => ?_)
    · have k14 := pI_eq0.mp c14
      first | unfold TeOK at k14 | skip
      refine g_iconst dX9_recut_30 ?_
      exact g_iret dX9_recut_31 rfl rfl ⟨Nat.le_refl _, Nat.le_refl _⟩ (by first | exact ⟨-1, rfl, Or.inl ⟨by omega, rfl, rfl⟩⟩ | exact ⟨_, rfl, Or.inr ⟨by omega, rfl, rfl⟩⟩)
    · have k14 := pI_ne c14
      unfold TeOK at k14
      refine g_iload_n dX9_recut_17 rfl rfl (g_i2l dX9_recut_18 (by omega) (g_lconst (v := 0) dX9_recut_19 rfl (g_iload_n dX9_recut_20 rfl rfl (g_iconst dX9_recut_21 (g_isub dX9_recut_22 (g_i2l dX9_recut_23 (by omega) (cv_X9_71 (M := mX9_recut) rfl dX9_recut_24 (RO.same _ _ _) (Nat.le_of_ble_eq_true rfl) (e_X9_in (by omega) (by omega) (by omega)) <| kI ?_)))))))
      refine g_if_ne 32 dX9_recut_27 rfl (pI_r _) (fun c27 => ?_) (fun c27 => ?_)
      · have k27 := pI_ne c27
        refine g_aload_n dX9_recut_32 rfl rfl (g_iload_n dX9_recut_33 rfl rfl (g_iconst dX9_recut_34 (cv_X9_143 (M := mX9_recut) rfl dX9_recut_35 (yo150 hY) (RO.same _ _ _) (Nat.le_of_ble_eq_true rfl) (e_of1 hY (by omega) hFf.1) <| kI (g_ist4 dX9_recut_38 (by decide) rfl (g_aload_n dX9_recut_40 rfl rfl (gf_X9_7 (M := mX9_recut) rfl dX9_recut_41 (yo150 hY) (yr150_0 hY) (g_iconst dX9_recut_44 (g_bipush dX9_recut_45 kb6 (g_iload_n dX9_recut_47 rfl rfl (g_imul dX9_recut_48 (g_iadd dX9_recut_49 ?_)))))))))))
        refine g_iconst dX9_recut_50 (g_iadd dX9_recut_51 (g_iload_n dX9_recut_52 rfl rfl (g_iast dX9_recut_53 (ya151 hY) ⟨by omega, by omega, by omega⟩ (g_aload_n dX9_recut_54 rfl rfl (gf_X9_7 (M := mX9_recut) rfl dX9_recut_55 (yo150 hY) (yr150_0 hY) (g_iconst dX9_recut_58 (g_bipush dX9_recut_59 kb6 (g_iload_n dX9_recut_61 rfl rfl (g_imul dX9_recut_62 (g_iadd dX9_recut_63 (g_iconst dX9_recut_64 ?_)))))))))))
        refine g_iadd dX9_recut_65 (g_iload_n dX9_recut_66 rfl rfl (g_iast dX9_recut_67 (ya151 hY) ⟨by omega, by omega, by omega⟩ (g_iload dX9_recut_68 rfl ?_)))
        exact g_iret dX9_recut_70 rfl rfl ⟨Nat.le_refl _, Nat.le_refl _⟩ (by first | exact ⟨-1, rfl, Or.inl ⟨by omega, rfl, rfl⟩⟩ | exact ⟨_, rfl, Or.inr ⟨by omega, rfl, rfl⟩⟩)
      · have k27 := pI_eq0.mp c27
        first | unfold TeOK at k14 | skip
        refine g_iconst dX9_recut_30 ?_
        exact g_iret dX9_recut_31 rfl rfl ⟨Nat.le_refl _, Nat.le_refl _⟩ (by first | exact ⟨-1, rfl, Or.inl ⟨by omega, rfl, rfl⟩⟩ | exact ⟨_, rfl, Or.inr ⟨by omega, rfl, rfl⟩⟩)
def TSx (nf : Int) (j : Nat) : Prop := 1 ≤ j ∧ (j : Int) < 1 + 6 * nf ∧ ((j - 1) % 6 = 1 ∨ (j - 1) % 6 = 2)
def Fr157 (h h1 : HM) : Prop := h1.L = h.L ∧ ∀ a j : Nat, a ≠ 157 → (a ≠ 150 ∨ (j ≠ 20 ∧ j ≠ 21)) → h1.I a j = h.I a j
def FrN (h h1 : HM) (nf : Int) : Prop := h1.L = h.L ∧ ∀ a j : Nat, a ≠ 157 → (a ≠ 150 ∨ (j ≠ 20 ∧ j ≠ 21)) → (a ≠ 151 ∨ ¬ TSx nf j) → h1.I a j = h.I a j
def SvN (h h1 : HM) (n : Int) : Prop := ∀ i : Int, 0 ≤ i → i < n → h1.I 157 (2 * i).toNat = h.I 151 (1 + 6 * i + 1).toNat ∧ h1.I 157 (2 * i + 1).toNat = h.I 151 (1 + 6 * i + 2).toNat
def MnI (h : HM) (F : Nat → Fg) (nf : Int) (f : Nat) (c : Int) (h1 : HM) (F1 : Nat → Fg) : Prop := FrN h h1 nf ∧ SvN h h1 nf ∧ RF h1 F1 ∧ MdR F nf f F1 c ∧ 0 ≤ c ∧ c ≤ f
theorem mn_fc {h h1 h2 : HM} {nf : Int} (a : FrN h h1 nf) (b : FrC h1 h2) : FrN h h2 nf := ⟨b.1.trans a.1, fun x j q1 q2 q3 => (b.2 x j q2).trans (a.2 x j q1 q2 q3)⟩
theorem mn_sv {h h1 h2 : HM} {nf : Int} (a : SvN h h1 nf) (b : FrC h1 h2) : SvN h h2 nf := fun i i0 i1 => by rw [b.2 157 _ (by omega), b.2 157 _ (by omega)]; exact a i i0 i1
theorem mn_no {h h1 : HM} {F F1 : Nat → Fg} {nf : Int} {f : Nat} {c : Int} (hI : MnI h F nf f c h1 F1) (h0 : crS F1 f nf.toNat = 0) : MnI h F nf (f + 1) c h1 F1 :=
  ⟨hI.1, hI.2.1, hI.2.2.1, ⟨_, c, hI.2.2.2.1, Or.inl ⟨fun z => z.1 h0, EqF.rfl' _, rfl⟩⟩, hI.2.2.2.2.1, by have := hI.2.2.2.2.2; push_cast; omega⟩
theorem mn_nc {h h1 h2 : HM} {F F1 : Nat → Fg} {nf : Int} {f : Nat} {c : Int} (hI : MnI h F nf f c h1 F1) (hfc : FrC h1 h2) (h0 : NoCut F1 nf f 118) : MnI h F nf (f + 1) c h2 F1 :=
  ⟨mn_fc hI.1 hfc, mn_sv hI.2.1 hfc, FrC.rF hI.2.2.1 hfc, ⟨_, c, hI.2.2.2.1, Or.inl ⟨fun z => by obtain ⟨_, n, s, z1, z2⟩ := z; exact Cut_no z1 z2 h0, EqF.rfl' _, rfl⟩⟩, hI.2.2.2.2.1, by have := hI.2.2.2.2.2; push_cast; omega⟩
theorem mn_yes {h h1 h2 : HM} {F F1 : Nat → Fg} {nf : Int} {f n : Nat} {c s te : Int} (hf : (f : Int) < nf) (e0 : h1.I 151 0 = nf) (hI : MnI h F nf f c h1 F1) (hfc : FrC h1 h2) (hc : ¬ crS F1 f nf.toNat = 0) (h8 : n < 118) (h0 : CutAt F1 nf f n s) (hte : te = teAt (F1 f).te n) :
    MnI h F nf (f + 1) (c + 1) ((h2.sI 151 (1 + 6 * (f : Int) + 1).toNat te).sI 151 (1 + 6 * (f : Int) + 2).toNat s) (upF F1 f (cutF (F1 f) te s)) := by
  obtain ⟨a1, a2, a3, a4, a5, a6⟩ := hI
  have hR2 := FrC.rF a3 hfc
  have e2 : h2.I 151 0 = nf := (hfc.2 151 0 (by omega)).trans e0
  have hFf := hR2.2 f (by omega) (by omega)
  have hC := ((ChG.rf hFf.1).te (by omega) te).st (by omega) s
  rw [Int.toNat_natCast] at hFf
  have hok := h0.2.1
  have hls := h0.2.2
  rw [Int.toNat_natCast] at hok hls
  rw [← hte] at hok hls
  unfold TeOK at hok
  have hls1 := hls.1
  have hls2 : s < te := hls.2.1
  have hW := hFf.2.1
  have hB : FgB (cutF (F1 f) te s) := ⟨⟨hok.1, hok.2.1, hW.2.2.1, hW.2.2.2.1, hW.2.2.2.2.1, hok.2.2⟩, hls1, hls2, hFf.2.2.2.2.1, hFf.2.2.2.2.2⟩
  have hR3 := hC.rF hR2 (by omega) (by rw [Int.toNat_natCast]; exact hB)
  rw [Int.toNat_natCast] at hR3
  have e3 : ∀ x j : Nat, (x ≠ 151 ∨ (j ≠ (1 + 6 * (f : Int) + 1).toNat ∧ j ≠ (1 + 6 * (f : Int) + 2).toNat)) → ((h2.sI 151 (1 + 6 * (f : Int) + 1).toNat te).sI 151 (1 + 6 * (f : Int) + 2).toNat s).I x j = h2.I x j := fun x j q => by rw [sI_I, if_neg (by omega), sI_I, if_neg (by omega)]
  have b1 := mn_fc a1 hfc
  have b2 := mn_sv a2 hfc
  refine ⟨⟨b1.1, fun x j q1 q2 q3 => ?_⟩, fun i i0 i1 => ?_, hR3, ⟨F1, c, a4, Or.inr ⟨hc, n, s, h8, h0, by rw [← hte]; exact EqF.rfl' _, rfl⟩⟩, by omega, by push_cast; omega⟩
  · rw [e3 x j (by unfold TSx at q3; omega)]; exact b1.2 x j q1 q2 q3
  · rw [e3 157 _ (by omega), e3 157 _ (by omega)]; exact b2 i i0 i1
def RsN (h h1 : HM) (nf : Int) (f : Int) : Prop := FrN h h1 nf ∧ SvN h h1 nf ∧ ∀ i : Int, 0 ≤ i → i < f → h1.I 151 (1 + 6 * i + 1).toNat = h.I 151 (1 + 6 * i + 1).toNat ∧ h1.I 151 (1 + 6 * i + 2).toNat = h.I 151 (1 + 6 * i + 2).toNat
theorem rn_s {h h1 : HM} {nf f v w : Int} (hf : 0 ≤ f ∧ f < nf) (hR : RsN h h1 nf f) (hv : v = h.I 151 (1 + 6 * f + 1).toNat) (hw : w = h.I 151 (1 + 6 * f + 2).toNat) : RsN h ((h1.sI 151 (1 + 6 * f + 1).toNat v).sI 151 (1 + 6 * f + 2).toNat w) nf (f + 1) := by
  obtain ⟨a, b, c⟩ := hR
  have e : ∀ x j : Nat, (x ≠ 151 ∨ (j ≠ (1 + 6 * f + 1).toNat ∧ j ≠ (1 + 6 * f + 2).toNat)) → ((h1.sI 151 (1 + 6 * f + 1).toNat v).sI 151 (1 + 6 * f + 2).toNat w).I x j = h1.I x j := fun x j q => by rw [sI_I, if_neg (by omega), sI_I, if_neg (by omega)]
  refine ⟨⟨a.1, fun x j q1 q2 q3 => ?_⟩, fun i i0 i1 => ?_, fun i i0 i1 => ?_⟩
  · rw [e x j (by unfold TSx at q3; omega)]; exact a.2 x j q1 q2 q3
  · rw [e 157 _ (by omega), e 157 _ (by omega)]; exact b i i0 i1
  · rcases (by omega : i < f ∨ i = f) with q | rfl
    · rw [e 151 _ (by omega), e 151 _ (by omega)]; exact c i i0 q
    · rw [sI_I, if_neg (by omega), sI_I, if_pos ⟨rfl, rfl⟩, sI_I, if_pos ⟨rfl, rfl⟩]; exact ⟨hv, hw⟩
theorem rn_e {h h1 : HM} {nf : Int} (h0 : 0 ≤ nf) (hR : RsN h h1 nf nf) : Fr157 h h1 := by
  refine ⟨hR.1.1, fun a j q1 q2 => ?_⟩
  by_cases z : a = 151 ∧ TSx nf j
  · obtain ⟨rfl, z⟩ := z
    unfold TSx at z
    have q := hR.2.2 ((j - 1 : Nat) / 6 : Nat) (by omega) (by omega)
    rcases z.2.2 with w | w
    · have e : (1 + 6 * (((j - 1 : Nat) / 6 : Nat) : Int) + 1).toNat = j := by omega
      rw [e] at q; exact q.1
    · have e : (1 + 6 * (((j - 1 : Nat) / 6 : Nat) : Int) + 2).toNat = j := by omega
      rw [e] at q; exact q.2
  · exact hR.1.2 a j q1 q2 (by by_cases y : a = 151; exact Or.inr (fun w => z ⟨y, w⟩); exact Or.inl y)
theorem sv_s {h h1 : HM} {nf f v w : Int} (hf : 0 ≤ f) (a : FrN h h1 nf) (b : SvN h h1 f) (hv : v = h.I 151 (1 + 6 * f + 1).toNat) (hw : w = h.I 151 (1 + 6 * f + 2).toNat) : FrN h ((h1.sI 157 (2 * f).toNat v).sI 157 (2 * f + 1).toNat w) nf ∧ SvN h ((h1.sI 157 (2 * f).toNat v).sI 157 (2 * f + 1).toNat w) (f + 1) := by
  refine ⟨⟨a.1, fun x j q1 q2 q3 => by rw [sI_I, if_neg (by omega), sI_I, if_neg (by omega)]; exact a.2 x j q1 q2 q3⟩, fun i i0 i1 => ?_⟩
  rcases (by omega : i < f ∨ i = f) with q | rfl
  · rw [sI_I, if_neg (by omega), sI_I, if_neg (by omega), sI_I, if_neg (by omega), sI_I, if_neg (by omega)]; exact b i i0 q
  · rw [sI_I, if_neg (by omega), sI_I, if_pos ⟨rfl, rfl⟩, sI_I, if_pos ⟨rfl, rfl⟩]; exact ⟨hv, hw⟩
set_option maxRecDepth 100000 in
set_option maxHeartbeats 1000000 in
theorem e_X9_mend {G : GX} {y : LY} {h : HM} {d : Nat} (hY : Lay y) {F : Nat → Fg} (hR : RF h F) {w : Int} (hw : R32 w) : EvQX G mX9_mend (d + 7) [.ref 150, .int (iZ w)] y h (fun v h1 => Fr157 h h1 ∧ ((¬ (w = 0 ∨ w = 1) ∧ v = -1) ∨ ((w = 0 ∨ w = 1) ∧ ∃ (F2 : Nat → Fg) (c : Int), MdR F (h.I 151 0) (h.I 151 0).toNat F2 c ∧ v = if w = 0 then c else hmS F2 (h.I 151 0).toNat (h.I 151 0).toNat))) := by
  have hnf := hR.1
  have hzw := pI_01 (0 ≤ w ∧ w ≤ 1)
  have hyw := pI_eq1 (P := 0 ≤ w ∧ w ≤ 1)
  refine Ev.of rfl [some (.ref 150), some (.int (iZ w)), none, none, none] rfl (Nat.le_of_ble_eq_true rfl) ?_
  have L144 : ∀ (m : Nat) (h1 : HM) (F2 : Nat → Fg) (c f : Int), (m : Int) = (h.I 151 0) - f → 0 ≤ f ∧ f ≤ (h.I 151 0) → (w = 0 ∨ w = 1) → MdR F (h.I 151 0) (h.I 151 0).toNat F2 c → 0 ≤ c ∧ c ≤ 6 → RsN h h1 (h.I 151 0) f → Go G mX9_mend (rmo (d + 7) 0 0) (ZM G y 0 0 (fun r h1 => ∃ v_ : Int, r = some (.int (iZ v_)) ∧ (fun v h1 => Fr157 h h1 ∧ ((¬ (w = 0 ∨ w = 1) ∧ v = -1) ∨ ((w = 0 ∨ w = 1) ∧ ∃ (F2 : Nat → Fg) (c : Int), MdR F (h.I 151 0) (h.I 151 0).toNat F2 c ∧ v = if w = 0 then c else hmS F2 (h.I 151 0).toNat (h.I 151 0).toNat))) v_ h1)) y 144 [some (.ref 150), some (.int (iZ w)), some (.int (iZ c)), some (.int (iZ (hmS F2 (h.I 151 0).toNat (h.I 151 0).toNat))), some (.int (iZ f))] [] h1 (0, 0) := by
    intro m
    induction m using Nat.strongRecOn with | _ m ih =>
    intro h1 F2 c f hm hf hok hMd hcb hRs
    have hhb := hmS_bd F2 (h.I 151 0).toNat (h.I 151 0).toNat
    have e0 : h1.I 151 0 = h.I 151 0 := hRs.1.2 151 0 (by omega) (by omega) (Or.inr (by unfold TSx; omega))
    have hs := hRs.2.1
    refine g_iload dX9_mend_144 rfl (g_aload_n dX9_mend_146 rfl rfl (gf_X9_7 (M := mX9_mend) rfl dX9_mend_147 (yo150 hY) (yr150_0 hY) (g_iconst dX9_mend_150 (g_iaN 0 dX9_mend_151 (ya151 hY) ⟨by decide, by decide, by decide⟩ rfl ?_))))
    refine g_icmp_ge 209 dX9_mend_152 rfl (by omega) (by omega) (fun c152 => ?_) (fun c152 => ?_)
    · skip
      refine g_iload_n dX9_mend_209 rfl rfl ?_
      refine g_if_ne 217 dX9_mend_210 rfl (by omega) (fun c210 => ?_) (fun c210 => ?_)
      · skip
        refine g_iload_n dX9_mend_217 rfl rfl ?_
        exact g_iret dX9_mend_218 rfl rfl ⟨Nat.le_refl _, Nat.le_refl _⟩ (by obtain rfl : f = (h.I 151 0) := (by omega); first | exact ⟨_, rfl, rn_e hnf.1 hRs, Or.inr ⟨hok, F2, c, hMd, by rw [if_pos (by omega)]⟩⟩ | exact ⟨_, rfl, rn_e hnf.1 hRs, Or.inr ⟨hok, F2, c, hMd, by rw [if_neg (by omega)]⟩⟩)
      · skip
        refine g_iload_n dX9_mend_213 rfl rfl (g_goto 218 dX9_mend_214 rfl ?_)
        exact g_iret dX9_mend_218 rfl rfl ⟨Nat.le_refl _, Nat.le_refl _⟩ (by obtain rfl : f = (h.I 151 0) := (by omega); first | exact ⟨_, rfl, rn_e hnf.1 hRs, Or.inr ⟨hok, F2, c, hMd, by rw [if_pos (by omega)]⟩⟩ | exact ⟨_, rfl, rn_e hnf.1 hRs, Or.inr ⟨hok, F2, c, hMd, by rw [if_neg (by omega)]⟩⟩)
    · skip
      refine g_aload_n dX9_mend_155 rfl rfl (gf_X9_7 (M := mX9_mend) rfl dX9_mend_156 (yo150 hY) (yr150_0 hY) (g_iconst dX9_mend_159 (g_bipush dX9_mend_160 kb6 (g_iload dX9_mend_162 rfl (g_imul dX9_mend_164 (g_iadd dX9_mend_165 (g_iconst dX9_mend_166 (g_iadd dX9_mend_167 (g_aload_n dX9_mend_168 rfl rfl (gf_X9_31 (M := mX9_mend) rfl dX9_mend_169 (yo150 hY) (yr150_22 hY) (g_iconst dX9_mend_172 ?_)))))))))))
      refine g_iload dX9_mend_173 rfl (g_imul dX9_mend_175 (g_iald dX9_mend_176 (ya157 hY) ⟨by omega, by omega, by omega⟩ (g_iast dX9_mend_177 (ya151 hY) ⟨by omega, by omega, by omega⟩ (g_aload_n dX9_mend_178 rfl rfl (gf_X9_7 (M := mX9_mend) rfl dX9_mend_179 (yo150 hY) (yr150_0 hY) (g_iconst dX9_mend_182 (g_bipush dX9_mend_183 kb6 (g_iload dX9_mend_185 rfl (g_imul dX9_mend_187 (g_iadd dX9_mend_188 (g_iconst dX9_mend_189 ?_)))))))))))
      refine g_iadd dX9_mend_190 (g_aload_n dX9_mend_191 rfl rfl (gf_X9_31 (M := mX9_mend) rfl dX9_mend_192 (yo150 hY) (yr150_22 hY) (g_iconst dX9_mend_195 (g_iload dX9_mend_196 rfl (g_imul dX9_mend_198 (g_iconst dX9_mend_199 (g_iadd dX9_mend_200 (g_iald dX9_mend_201 (ya157 hY) ⟨by omega, by omega, by omega⟩ (g_iast dX9_mend_202 (ya151 hY) ⟨by omega, by omega, by omega⟩ (g_inc4 dX9_mend_203 (by decide) rfl (g_goto 144 dX9_mend_206 rfl ?_)))))))))))
      have hs := hRs.2.1 f hf.1 (by omega)
      exact ih (m - 1) (by omega) _ F2 c (f + 1) (by omega) (by omega) hok hMd hcb (rn_s (by omega) hRs hs.1 (by rw [sI_I, if_neg (by omega)]; exact hs.2))
  have L64 : ∀ (m : Nat) (h1 : HM) (F1 : Nat → Fg) (c : Int) (f : Nat), (m : Int) = (h.I 151 0) - f → (f : Int) ≤ (h.I 151 0) → (w = 0 ∨ w = 1) → MnI h F (h.I 151 0) f c h1 F1 → Go G mX9_mend (rmo (d + 7) 0 0) (ZM G y 0 0 (fun r h1 => ∃ v_ : Int, r = some (.int (iZ v_)) ∧ (fun v h1 => Fr157 h h1 ∧ ((¬ (w = 0 ∨ w = 1) ∧ v = -1) ∨ ((w = 0 ∨ w = 1) ∧ ∃ (F2 : Nat → Fg) (c : Int), MdR F (h.I 151 0) (h.I 151 0).toNat F2 c ∧ v = if w = 0 then c else hmS F2 (h.I 151 0).toNat (h.I 151 0).toNat))) v_ h1)) y 64 [some (.ref 150), some (.int (iZ w)), some (.int (iZ c)), some (.int (iZ f)), none] [] h1 (0, 0) := by
    intro m
    induction m using Nat.strongRecOn with | _ m ih =>
    intro h1 F1 c f hm hf hok hI
    have e0 : h1.I 151 0 = h.I 151 0 := hI.1.2 151 0 (by omega) (by omega) (Or.inr (by unfold TSx; omega))
    have hR1 := hI.2.2.1
    have hcb := hI.2.2.2.2
    have hb1 := crS_bd F1 f (h.I 151 0).toNat
    have hb2 := p2_6 (n := (h.I 151 0).toNat) (by omega)
    have hab := alN_bd (F := F1) (n := (h.I 151 0).toNat) (h.I 151 0).toNat
    have h64 : 2 ^ (h.I 151 0).toNat ≤ 2 ^ 6 := Nat.pow_le_pow_right (by decide) (by omega)
    have hbh := bits_hm (F := F1) (n := (h.I 151 0).toNat) (by omega)
    refine g_iload_n dX9_mend_64 rfl rfl (g_aload_n dX9_mend_65 rfl rfl (gf_X9_7 (M := mX9_mend) rfl dX9_mend_66 (yo150 hY) (yr150_0 hY) (g_iconst dX9_mend_69 (g_iaN 0 dX9_mend_70 (ya151 hY) ⟨by decide, by decide, by decide⟩ rfl ?_))))
    refine g_icmp_ge 133 dX9_mend_71 rfl (by omega) (by omega) (fun c71 => ?_) (fun c71 => ?_)
    · skip
      refine g_aload_n dX9_mend_133 rfl rfl (cv_X9_297 (M := mX9_mend) rfl dX9_mend_134 (yo150 hY) (RO.same _ _ _) (Nat.le_of_ble_eq_true rfl) (e_X9_allCrash hY hR1) <| kI ?_)
      rw [e0]
      refine cv_X9_300 (M := mX9_mend) rfl dX9_mend_137 (RO.same _ _ _) (Nat.le_of_ble_eq_true rfl) (e_X9_bitsOf (by omega)) <| kI (g_ist3 dX9_mend_140 (by decide) rfl (g_iconst dX9_mend_141 (g_ist4 dX9_mend_142 (by decide) rfl ?_)))
      rw [hbh]
      obtain rfl : f = (h.I 151 0).toNat := (by omega)
      exact L144 (h.I 151 0).toNat h1 F1 c 0 (by omega) (by omega) hok hI.2.2.2.1 (by omega) ⟨hI.1, hI.2.1, fun i i0 i1 => by omega⟩
    · skip
      refine g_aload_n dX9_mend_74 rfl rfl (g_iload_n dX9_mend_75 rfl rfl (cv_X9_245 (M := mX9_mend) rfl dX9_mend_76 (yo150 hY) (RO.same _ _ _) (Nat.le_of_ble_eq_true rfl) (e_X9_crashOf hY hR1 (by omega)) <| kI ?_))
      rw [e0, Int.toNat_natCast]
      refine g_if_eq 127 dX9_mend_79 rfl (by omega) (fun c79 => ?_) (fun c79 => ?_)
      · skip
        refine g_inc3 dX9_mend_127 (by decide) rfl (g_goto 64 dX9_mend_130 rfl ?_)
        by_cases hcz : crS F1 f (h.I 151 0).toNat = 0
        · first | exact ih (m - 1) (by omega) h1 F1 c (f + 1) (by omega) (by omega) hok (mn_no hI hcz) | exact absurd hcz c79
        · first
          | exact absurd c79 hcz
          | (rcases hq84 with ⟨q0, q1⟩ | ⟨q0, n, s, q1, q2, q3, q4⟩ <;> first | (exfalso; omega) | exact ih (m - 1) (by omega) h84 F1 c (f + 1) (by omega) (by omega) hok (mn_nc hI fc84 q1) | (have hx := ih (m - 1) (by omega) _ _ (c + 1) (f + 1) (by omega) (by omega) hok (mn_yes (te := h84.I 150 20) (by omega) e0 hI fc84 hcz q1 q2 (by rw [Int.toNat_natCast] at q3; exact q3)); rw [show (h84.sI 151 (1 + 6 * (f : Int) + 1).toNat (h84.I 150 20)).I 150 21 = s by rw [sI_I, if_neg (by omega)]; exact q4]; exact hx))
      · skip
        refine g_aload_n dX9_mend_82 rfl rfl (g_iload_n dX9_mend_83 rfl rfl ?_)
        refine cv_X9_294 (M := mX9_mend) rfl dX9_mend_84 (yo150 hY) (RO.same _ _ _) (Nat.le_of_ble_eq_true rfl) (e_X9_findCut hY hR1 (by omega)) (kQX fun v84 h84 hq84 => ?_)
        have hv84 : v84 = 0 ∨ v84 = 1 := (by rcases hq84.2 with ⟨q, _⟩ | ⟨q, _⟩ <;> omega)
        obtain ⟨fc84, hq84⟩ := hq84
        rw [e0] at hq84
        replace hq84 : FcR F1 (h.I 151 0) f v84 h84 := hq84
        refine g_if_eq 127 dX9_mend_87 rfl (by omega) (fun c87 => ?_) (fun c87 => ?_)
        · skip
          refine g_inc3 dX9_mend_127 (by decide) rfl (g_goto 64 dX9_mend_130 rfl ?_)
          by_cases hcz : crS F1 f (h.I 151 0).toNat = 0
          · first | exact ih (m - 1) (by omega) h1 F1 c (f + 1) (by omega) (by omega) hok (mn_no hI hcz) | exact absurd hcz c79
          · first
            | exact absurd c79 hcz
            | (rcases hq84 with ⟨q0, q1⟩ | ⟨q0, n, s, q1, q2, q3, q4⟩ <;> first | (exfalso; omega) | exact ih (m - 1) (by omega) h84 F1 c (f + 1) (by omega) (by omega) hok (mn_nc hI fc84 q1) | (have hx := ih (m - 1) (by omega) _ _ (c + 1) (f + 1) (by omega) (by omega) hok (mn_yes (te := h84.I 150 20) (by omega) e0 hI fc84 hcz q1 q2 (by rw [Int.toNat_natCast] at q3; exact q3)); rw [show (h84.sI 151 (1 + 6 * (f : Int) + 1).toNat (h84.I 150 20)).I 150 21 = s by rw [sI_I, if_neg (by omega)]; exact q4]; exact hx))
        · skip
          refine g_aload_n dX9_mend_90 rfl rfl (gf_X9_7 (M := mX9_mend) rfl dX9_mend_91 (yo150 hY) (yr150_0 hY) (g_iconst dX9_mend_94 (g_bipush dX9_mend_95 kb6 (g_iload_n dX9_mend_97 rfl rfl (g_imul dX9_mend_98 (g_iadd dX9_mend_99 (g_iconst dX9_mend_100 (g_iadd dX9_mend_101 (g_aload_n dX9_mend_102 rfl rfl (gf_X9_282 (M := mX9_mend) rfl dX9_mend_103 (yo150 hY) (g_iast dX9_mend_106 (ya151 hY) ⟨by omega, by omega, by omega⟩ ?_)))))))))))
          refine g_aload_n dX9_mend_107 rfl rfl (gf_X9_7 (M := mX9_mend) rfl dX9_mend_108 (yo150 hY) (yr150_0 hY) (g_iconst dX9_mend_111 (g_bipush dX9_mend_112 kb6 (g_iload_n dX9_mend_114 rfl rfl (g_imul dX9_mend_115 (g_iadd dX9_mend_116 (g_iconst dX9_mend_117 (g_iadd dX9_mend_118 (g_aload_n dX9_mend_119 rfl rfl (gf_X9_291 (M := mX9_mend) rfl dX9_mend_120 (yo150 hY) (g_iast dX9_mend_123 (ya151 hY) ⟨by omega, by omega, by omega⟩ ?_)))))))))))
          refine g_inc2 dX9_mend_124 (by decide) rfl (g_inc3 dX9_mend_127 (by decide) rfl (g_goto 64 dX9_mend_130 rfl ?_))
          by_cases hcz : crS F1 f (h.I 151 0).toNat = 0
          · first | exact ih (m - 1) (by omega) h1 F1 c (f + 1) (by omega) (by omega) hok (mn_no hI hcz) | exact absurd hcz c79
          · first
            | exact absurd c79 hcz
            | (rcases hq84 with ⟨q0, q1⟩ | ⟨q0, n, s, q1, q2, q3, q4⟩ <;> first | (exfalso; omega) | exact ih (m - 1) (by omega) h84 F1 c (f + 1) (by omega) (by omega) hok (mn_nc hI fc84 q1) | (have hx := ih (m - 1) (by omega) _ _ (c + 1) (f + 1) (by omega) (by omega) hok (mn_yes (te := h84.I 150 20) (by omega) e0 hI fc84 hcz q1 q2 (by rw [Int.toNat_natCast] at q3; exact q3)); rw [show (h84.sI 151 (1 + 6 * (f : Int) + 1).toNat (h84.I 150 20)).I 150 21 = s by rw [sI_I, if_neg (by omega)]; exact q4]; exact hx))
  have L14 : ∀ (m : Nat) (h1 : HM) (f : Int), (m : Int) = (h.I 151 0) - f → 0 ≤ f ∧ f ≤ (h.I 151 0) → (w = 0 ∨ w = 1) → FrN h h1 (h.I 151 0) → SvN h h1 f → (∀ j, h1.I 151 j = h.I 151 j) → Go G mX9_mend (rmo (d + 7) 0 0) (ZM G y 0 0 (fun r h1 => ∃ v_ : Int, r = some (.int (iZ v_)) ∧ (fun v h1 => Fr157 h h1 ∧ ((¬ (w = 0 ∨ w = 1) ∧ v = -1) ∨ ((w = 0 ∨ w = 1) ∧ ∃ (F2 : Nat → Fg) (c : Int), MdR F (h.I 151 0) (h.I 151 0).toNat F2 c ∧ v = if w = 0 then c else hmS F2 (h.I 151 0).toNat (h.I 151 0).toNat))) v_ h1)) y 14 [some (.ref 150), some (.int (iZ w)), some (.int (iZ f)), none, none] [] h1 (0, 0) := by
    intro m
    induction m using Nat.strongRecOn with | _ m ih =>
    intro h1 f hm hf hok hF hS hK
    have e0 := hK 0
    refine g_iload_n dX9_mend_14 rfl rfl (g_aload_n dX9_mend_15 rfl rfl (gf_X9_7 (M := mX9_mend) rfl dX9_mend_16 (yo150 hY) (yr150_0 hY) (g_iconst dX9_mend_19 (g_iaN 0 dX9_mend_20 (ya151 hY) ⟨by decide, by decide, by decide⟩ rfl ?_))))
    refine g_icmp_ge 60 dX9_mend_21 rfl (by omega) (by omega) (fun c21 => ?_) (fun c21 => ?_)
    · skip
      refine g_iconst dX9_mend_60 (g_ist2 dX9_mend_61 (by decide) rfl (g_iconst dX9_mend_62 (g_ist3 dX9_mend_63 (by decide) rfl ?_)))
      obtain rfl : f = (h.I 151 0) := (by omega)
      refine L64 (h.I 151 0).toNat h1 F 0 0 (by omega) (by omega) hok ⟨hF, hS, ?_, ⟨EqF.rfl' _, rfl⟩, by omega, by omega⟩
      unfold RF RFg
      simp only [hK]
      exact hR
    · skip
      refine g_aload_n dX9_mend_24 rfl rfl (gf_X9_31 (M := mX9_mend) rfl dX9_mend_25 (yo150 hY) (yr150_22 hY) (g_iconst dX9_mend_28 (g_iload_n dX9_mend_29 rfl rfl (g_imul dX9_mend_30 (g_aload_n dX9_mend_31 rfl rfl (g_iload_n dX9_mend_32 rfl rfl (g_iconst dX9_mend_33 (cv_X9_143 (M := mX9_mend) rfl dX9_mend_34 (yo150 hY) (RO.same _ _ _) (Nat.le_of_ble_eq_true rfl) (e_X9_of hY (by omega) (by omega)) <| kI (g_iast dX9_mend_37 (ya157 hY) ⟨by omega, by omega, by omega⟩ (g_aload_n dX9_mend_38 rfl rfl (gf_X9_31 (M := mX9_mend) rfl dX9_mend_39 (yo150 hY) (yr150_22 hY) ?_)))))))))))
      refine g_iconst dX9_mend_42 (g_iload_n dX9_mend_43 rfl rfl (g_imul dX9_mend_44 (g_iconst dX9_mend_45 (g_iadd dX9_mend_46 (g_aload_n dX9_mend_47 rfl rfl (g_iload_n dX9_mend_48 rfl rfl (g_iconst dX9_mend_49 (cv_X9_143 (M := mX9_mend) rfl dX9_mend_50 (yo150 hY) (RO.same _ _ _) (Nat.le_of_ble_eq_true rfl) (e_X9_of hY (by omega) (by omega)) <| kI (g_iast dX9_mend_53 (ya157 hY) ⟨by omega, by omega, by omega⟩ (g_inc2 dX9_mend_54 (by decide) rfl (g_goto 14 dX9_mend_57 rfl ?_)))))))))))
      have hx := sv_s hf.1 hF hS (hK _) (show (h1.sI 157 (2 * f).toNat (h1.I 151 (1 + 6 * f + 1).toNat)).I 151 (1 + 6 * f + 2).toNat = _ by rw [sI_I, if_neg (by omega)]; exact hK _)
      exact ih (m - 1) (by omega) _ (f + 1) (by omega) (by omega) hok hx.1 hx.2 (fun j => by rw [sI_I, if_neg (by omega), sI_I, if_neg (by omega)]; exact hK j)
  refine g_iload_n dX9_mend_0 rfl rfl (g_i2l dX9_mend_1 (by omega) (g_lconst (v := 0) dX9_mend_2 rfl (g_lconst (v := 1) dX9_mend_3 rfl (cv_X9_71 (M := mX9_mend) rfl dX9_mend_4 (RO.same _ _ _) (Nat.le_of_ble_eq_true rfl) (e_X9_in (by omega) (by omega) (by omega)) <| kI ?_))))
  refine g_if_ne 12 dX9_mend_7 rfl (by omega) (fun c7 => ?_) (fun c7 => ?_)
  · skip
    refine g_iconst dX9_mend_12 (g_ist2 dX9_mend_13 (by decide) rfl ?_)
    exact L14 (h.I 151 0).toNat h 0 (by omega) (by omega) (by omega) ⟨rfl, fun _ _ _ _ _ => rfl⟩ (fun i i0 i1 => by omega) (fun _ => rfl)
  · skip
    refine g_iconst dX9_mend_10 ?_
    exact g_iret dX9_mend_11 rfl rfl ⟨Nat.le_refl _, Nat.le_refl _⟩ (by exact ⟨-1, rfl, ⟨rfl, fun _ _ _ _ => rfl⟩, Or.inl ⟨by omega, rfl⟩⟩)
