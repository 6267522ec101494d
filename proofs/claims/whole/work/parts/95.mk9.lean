def hL9 (h : HM) : HM := ((((((((((((((h.new 151).new 152).new 153).new 154).new 155).new 156).new 157).new 158).new 159).new 160).sI 158 0 (-4)).sI 158 1 (-4)).sI 158 2 (-4)).sI 158 3 (-4))
theorem hL9_o (h : HM) {a : Nat} (q : a ≤ 150) : (hL9 h).I a = h.I a := by
  unfold hL9
  rw [sI_a _ (by omega), sI_a _ (by omega), sI_a _ (by omega), sI_a _ (by omega), nw_I _ _ (by omega), nw_I _ _ (by omega), nw_I _ _ (by omega), nw_I _ _ (by omega), nw_I _ _ (by omega), nw_I _ _ (by omega), nw_I _ _ (by omega), nw_I _ _ (by omega), nw_I _ _ (by omega), nw_I _ _ (by omega)]
theorem hL9_z (h : HM) (j : Nat) : (hL9 h).I 154 j = 0 ∧ (hL9 h).I 160 j = 0 := by
  constructor
  · unfold hL9
    rw [sI_a _ (by omega), sI_a _ (by omega), sI_a _ (by omega), sI_a _ (by omega), nw_I _ 160 (by omega), nw_I _ 159 (by omega), nw_I _ 158 (by omega), nw_I _ 157 (by omega), nw_I _ 156 (by omega), nw_I _ 155 (by omega)]
    exact nw_Z _ _ _
  · unfold hL9
    rw [sI_a _ (by omega), sI_a _ (by omega), sI_a _ (by omega), sI_a _ (by omega)]
    exact nw_Z _ _ _
theorem hL9_l (h : HM) {k : Nat} (hk : k < 4) : (hL9 h).I 158 k = -4 := by
  unfold hL9
  rw [sI_I]
  by_cases q3 : k = 3
  · rw [if_pos ⟨rfl, q3⟩]
  · rw [if_neg (by omega), sI_I]
    by_cases q2 : k = 2
    · rw [if_pos ⟨rfl, q2⟩]
    · rw [if_neg (by omega), sI_I]
      by_cases q1 : k = 1
      · rw [if_pos ⟨rfl, q1⟩]
      · rw [if_neg (by omega), sI_I, if_pos (by omega)]
theorem kdH_o (h : HM) {a j : Nat} (q1 : a ≠ 151) (q2 : ¬ (a = 150 ∧ j = 2)) (q3 : ¬ (a = 152 ∧ (j = 0 ∨ j = 1))) : (kdH h).I a j = h.I a j := by
  unfold kdH
  rw [sI_I, if_neg (by omega), sI_I, if_neg (by omega), sI_I, if_neg (by omega), sA_I, if_neg q1]
/-- the start -/
theorem inv_0 {h h1 : HM} (s : S8 150 h) (n9 : N9 h) (z : ∀ j, h.I 150 j = 0) (f : Fr7 (hL9 h) h1) (dd : DRR h1 D0) : Inv (kdH h1) := by
  have kp := kd_D dd D0_V
  have k0 : (kdH h1).I 151 0 = 0 := kp.1.1
  have k37 : (kdH h1).I 151 37 = 0 := kp.2.1.1
  have k68 : (kdH h1).I 151 68 = -4 ∧ (kdH h1).I 151 69 = -4 ∧ (kdH h1).I 151 70 = -4 ∧ (kdH h1).I 151 71 = 0 := kp.2.2.1
  have k2 : (kdH h1).I 150 2 = 1 := kp.2.2.2
  have kk : (kdH h1).I 152 0 = 0 ∧ (kdH h1).I 152 1 = 0 := by
    unfold kdH
    exact ⟨by rw [sI_I, if_neg (by omega), sI_I, if_pos ⟨rfl, rfl⟩], by rw [sI_I, if_pos ⟨rfl, rfl⟩]⟩
  have g : ∀ a j : Nat, a < 150 → (kdH h1).I a j = h.I a j := fun a j q => by
    rw [kdH_o h1 (by omega) (by omega) (by omega), f.2 a j (by omega) (by omega), hL9_o h (by omega)]
  have g150 : ∀ j : Nat, 8 ≤ j → (kdH h1).I 150 j = 0 := fun j q => by
    rw [kdH_o h1 (by omega) (by omega) (by omega), f.2 150 j (by omega) (by omega), hL9_o h (by omega)]; exact z j
  have g1 : ∀ a j : Nat, 154 ≤ a → (kdH h1).I a j = (hL9 h).I a j := fun a j q => by
    rw [kdH_o h1 (by omega) (by omega) (by omega), f.2 a j (by omega) (by omega)]
  have ci := s.2.2.1 (by omega)
  have e3 : (kdH h1).I 12 3 = 0 := (g 12 3 (by omega)).trans ci.1.1
  have e4 : (kdH h1).I 12 4 = 0 := (g 12 4 (by omega)).trans ci.1.2.1
  have e5 : (kdH h1).I 12 5 = 0 := (g 12 5 (by omega)).trans ci.1.2.2
  have e6 : (kdH h1).I 12 6 = -4 := (g 12 6 (by omega)).trans ci.2.1.1
  have e7 : (kdH h1).I 12 7 = -4 := (g 12 7 (by omega)).trans ci.2.1.2.1
  have e8 : (kdH h1).I 12 8 = -4 := (g 12 8 (by omega)).trans ci.2.1.2.2
  have e9 : (kdH h1).I 12 9 = 1 := (g 12 9 (by omega)).trans ci.2.2
  have hF : RF (kdH h1) (fun _ => (0, 0, 0, 0, 0)) := ⟨by rw [k0]; omega, fun i i0 i1 => by rw [k0] at i1; omega⟩
  have hV : RV (kdH h1) (fun _ => (0, 0, 0, 0, 0)) := ⟨by rw [k37]; omega, fun i i0 i1 => by rw [k37] at i1; omega⟩
  have hS : RS (kdH h1) (fun _ => (0, 0, 0)) := ⟨by rw [k68.2.2.2]; omega, fun i i0 i1 => by rw [k68.2.2.2] at i1; omega⟩
  have c : IvC (kdH h1) := IvC.re hF hV hS (by rw [k0, e3]) (by rw [k37, e4]) (by rw [k68.2.2.2, e5]) (by rw [e6, e7, e8]; exact ⟨k68.1, k68.2.1, k68.2.2.1⟩) (by rw [e6, e7, e8]; omega) (by rw [e9]; omega) (by rw [k2, e9]) (fun i i0 i1 => by rw [e3] at i1; omega) (fun i i0 i1 => by rw [e4] at i1; omega) (fun i i0 i1 => by rw [e5] at i1; omega)
  have z69 : ∀ k : Nat, (kdH h1).I 69 k = 0 := fun k => (g 69 k (by omega)).trans (s.2.2.2.1 (by omega) k)
  have z152 : ∀ k : Nat, k < 2 → (kdH h1).I 152 k = 0 := fun k hk => by
    rcases (by omega : k = 0 ∨ k = 1) with q | q
    · rw [q]; exact kk.1
    · rw [q]; exact kk.2
  refine Inv.of c ⟨fun k hk => by rw [z69 k, z152 k hk]; exact ⟨rfl, Or.inl rfl⟩, fun k hk q => by rw [z69 k] at q; omega⟩ ⟨fun k hk => ?_, fun k j hk hj => ?_⟩ ⟨⟨?_, ?_⟩, fun j => ?_⟩ ⟨⟨?_, ?_⟩, ⟨?_, ?_⟩⟩
  · have q := s.2.2.2.2 k hk (by omega)
    rw [g _ 1 (by omega), g _ 2 (by omega), q.1, q.2.1]
    refine ⟨Or.inl ⟨by omega, ?_⟩, by omega, by omega⟩
    rw [show ((k : Int)).toNat = k by omega, g1 158 k (by omega)]; exact hL9_l h hk
  · have q := s.2.2.2.2 k hk (by omega)
    rw [g _ j (by omega), q.2.2 j, g1 160 _ (by omega), (hL9_z h _).2]; exact ⟨rfl, by omega⟩
  · rw [g150 9 (by omega), g 10 1 (by omega), s.1 (by omega)]
  · rw [g 10 1 (by omega), s.1 (by omega)]; omega
  · rw [g1 154 j (by omega), (hL9_z h j).1, g 11 j (by omega), s.2.1 (by omega) j]; exact ⟨rfl, by omega⟩
  · rw [g150 14 (by omega), g 9 11 (by omega), n9.1]
  · rw [g 9 11 (by omega), n9.1]; omega
  · rw [g150 26 (by omega), g 9 12 (by omega), n9.2]
  · rw [g 9 12 (by omega), n9.2]; omega
theorem vr_29 : IsO v29 150 9 := (show 9 ≤ 150 ∧ 150 < LY.n (v29) ∧ LY.k (v29) 150 = .inl 9 by decide +kernel)
theorem vr_30 : IsO v30 150 9 := (show 9 ≤ 150 ∧ 150 < LY.n (v30) ∧ LY.k (v30) 150 = .inl 9 by decide +kernel)
theorem vr_31 : IsO v31 150 9 := (show 9 ≤ 150 ∧ 150 < LY.n (v31) ∧ LY.k (v31) 150 = .inl 9 by decide +kernel)
theorem vr_32 : IsO v32 150 9 := (show 9 ≤ 150 ∧ 150 < LY.n (v32) ∧ LY.k (v32) 150 = .inl 9 by decide +kernel)
theorem vr_33 : IsO v33 150 9 := (show 9 ≤ 150 ∧ 150 < LY.n (v33) ∧ LY.k (v33) 150 = .inl 9 by decide +kernel)
theorem vr_34 : IsO v34 150 9 := (show 9 ≤ 150 ∧ 150 < LY.n (v34) ∧ LY.k (v34) 150 = .inl 9 by decide +kernel)
theorem vr_35 : IsO v35 150 9 := (show 9 ≤ 150 ∧ 150 < LY.n (v35) ∧ LY.k (v35) 150 = .inl 9 by decide +kernel)
theorem vr_36 : IsO v36 150 9 := (show 9 ≤ 150 ∧ 150 < LY.n (v36) ∧ LY.k (v36) 150 = .inl 9 by decide +kernel)
theorem vr_37 : IsO v37 150 9 := (show 9 ≤ 150 ∧ 150 < LY.n (v37) ∧ LY.k (v37) 150 = .inl 9 by decide +kernel)
theorem vr_38 : IsO v38 150 9 := (show 9 ≤ 150 ∧ 150 < LY.n (v38) ∧ LY.k (v38) 150 = .inl 9 by decide +kernel)
theorem vr_39 : IsO v39 150 9 := (show 9 ≤ 150 ∧ 150 < LY.n (v39) ∧ LY.k (v39) 150 = .inl 9 by decide +kernel)
set_option maxRecDepth 100000 in
set_option maxHeartbeats 4000000 in
theorem e_X9_init {G : GX} {h : HM} {d : Nat} (s : S8 150 h) (n9 : N9 h) (z : ∀ j, h.I 150 j = 0) : Ev G mX9_init (d + 2) 10 94326 [.ref 150] v29 h v39 (fun r h1 => r = none ∧ Inv h1) := by
  refine Ev.of rfl [some (.ref 150), none] rfl (Nat.le_of_ble_eq_true rfl) ?_
  refine g_aload_n dX9_init_0 rfl rfl (cv_X9_1 (M := mX9_init) rfl dX9_init_1 ⟨by simp [rmo], by simp only [rmo]; omega⟩ (Nat.le_of_ble_eq_true rfl) (g_aload_n dX9_init_4 rfl rfl (g_sipush dX9_init_5 ks324 (na_int dX9_init_8 vn_29 (by decide) rfl (by decide) ⟨Nat.le_of_ble_eq_true rfl, Nat.le_of_ble_eq_true rfl⟩ (pf_X9_7 (M := mX9_init) rfl rfl dX9_init_10 vr_29.new (Go.y (y' := v30) rfl (g_aload_n dX9_init_13 rfl rfl (g_iconst dX9_init_14 (na_boolean dX9_init_15 vn_30 (by decide) rfl (by decide) ⟨Nat.le_of_ble_eq_true rfl, Nat.le_of_ble_eq_true rfl⟩ ?_)))))))))
  refine pf_X9_13 (M := mX9_init) rfl rfl dX9_init_17 vr_30.new (Go.y (y' := v31) rfl (g_aload_n dX9_init_20 rfl rfl (g_bipush dX9_init_21 kb108 (na_int dX9_init_23 vn_31 (by decide) rfl (by decide) ⟨Nat.le_of_ble_eq_true rfl, Nat.le_of_ble_eq_true rfl⟩ (pf_X9_17 (M := mX9_init) rfl rfl dX9_init_25 vr_31.new (Go.y (y' := v32) rfl (g_aload_n dX9_init_28 rfl rfl (g_sipush dX9_init_29 ks400 (na_int dX9_init_32 vn_32 (by decide) rfl (by decide) ⟨Nat.le_of_ble_eq_true rfl, Nat.le_of_ble_eq_true rfl⟩ ?_)))))))))
  refine pf_X9_20 (M := mX9_init) rfl rfl dX9_init_34 vr_32.new (Go.y (y' := v33) rfl (g_aload_n dX9_init_37 rfl rfl (c1_X9_23 (M := mX9_init) rfl dX9_init_38 (na_long dX9_init_40 vn_33 (by decide) rfl (by decide) ⟨Nat.le_of_ble_eq_true rfl, Nat.le_of_ble_eq_true rfl⟩ (pf_X9_24 (M := mX9_init) rfl rfl dX9_init_42 vr_33.new (Go.y (y' := v34) rfl (g_aload_n dX9_init_45 rfl rfl (c1_X9_23 (M := mX9_init) rfl dX9_init_46 (na_long dX9_init_48 vn_34 (by decide) rfl (by decide) ⟨Nat.le_of_ble_eq_true rfl, Nat.le_of_ble_eq_true rfl⟩ ?_)))))))))
  refine pf_X9_28 (M := mX9_init) rfl rfl dX9_init_50 vr_34.new (Go.y (y' := v35) rfl (g_aload_n dX9_init_53 rfl rfl (g_bipush dX9_init_54 kb12 (na_int dX9_init_56 vn_35 (by decide) rfl (by decide) ⟨Nat.le_of_ble_eq_true rfl, Nat.le_of_ble_eq_true rfl⟩ (pf_X9_31 (M := mX9_init) rfl rfl dX9_init_58 vr_35.new (Go.y (y' := v36) rfl (g_aload_n dX9_init_61 rfl rfl (g_iconst dX9_init_62 (na_int dX9_init_63 vn_36 (by decide) rfl (by decide) ⟨Nat.le_of_ble_eq_true rfl, Nat.le_of_ble_eq_true rfl⟩ ?_)))))))))
  refine pf_X9_34 (M := mX9_init) rfl rfl dX9_init_65 vr_36.new (Go.y (y' := v37) rfl (g_aload_n dX9_init_68 rfl rfl (g_iconst dX9_init_69 (na_int dX9_init_70 vn_37 (by decide) rfl (by decide) ⟨Nat.le_of_ble_eq_true rfl, Nat.le_of_ble_eq_true rfl⟩ (pf_X9_37 (M := mX9_init) rfl rfl dX9_init_72 vr_37.new (Go.y (y' := v38) rfl (g_aload_n dX9_init_75 rfl rfl (g_sipush dX9_init_76 ks160 (na_int dX9_init_79 vn_38 (by decide) rfl (by decide) ⟨Nat.le_of_ble_eq_true rfl, Nat.le_of_ble_eq_true rfl⟩ ?_)))))))))
  refine pf_X9_40 (M := mX9_init) rfl rfl dX9_init_81 vr_38.new (Go.y (y' := v39) rfl (g_iconst dX9_init_84 (g_ist1 dX9_init_85 (by decide) rfl (g_iload_n dX9_init_86 rfl rfl (g_iconst dX9_init_87 (g_icmp_ge 105 dX9_init_88 rfl (by decide) (by decide) (fun c => absurd c (by decide)) <| fun _ => ?_))))))
  refine g_aload_n dX9_init_91 rfl rfl (gf_X9_34 (M := mX9_init) rfl dX9_init_92 vr_39 (show LY.R v39 150 23 = some 158 by decide +kernel) (g_iload_n dX9_init_95 rfl rfl (g_bipush dX9_init_96 kbm4 (g_isN 0 dX9_init_98 (show 9 ≤ 158 ∧ 158 < LY.n (v39) ∧ LY.k (v39) 158 = .inr (0, 4) by decide +kernel) ⟨by decide, by decide, by decide⟩ (by decide) (g_inc1 dX9_init_99 (by decide) rfl (g_goto 86 dX9_init_102 rfl (g_iload_n dX9_init_86 rfl rfl (g_iconst dX9_init_87 (g_icmp_ge 105 dX9_init_88 rfl (by decide) (by decide) (fun c => absurd c (by decide)) <| fun _ => ?_)))))))))
  refine g_aload_n dX9_init_91 rfl rfl (gf_X9_34 (M := mX9_init) rfl dX9_init_92 vr_39 (show LY.R v39 150 23 = some 158 by decide +kernel) (g_iload_n dX9_init_95 rfl rfl (g_bipush dX9_init_96 kbm4 (g_isN 1 dX9_init_98 (show 9 ≤ 158 ∧ 158 < LY.n (v39) ∧ LY.k (v39) 158 = .inr (0, 4) by decide +kernel) ⟨by decide, by decide, by decide⟩ (by decide) (g_inc1 dX9_init_99 (by decide) rfl (g_goto 86 dX9_init_102 rfl (g_iload_n dX9_init_86 rfl rfl (g_iconst dX9_init_87 (g_icmp_ge 105 dX9_init_88 rfl (by decide) (by decide) (fun c => absurd c (by decide)) <| fun _ => ?_)))))))))
  refine g_aload_n dX9_init_91 rfl rfl (gf_X9_34 (M := mX9_init) rfl dX9_init_92 vr_39 (show LY.R v39 150 23 = some 158 by decide +kernel) (g_iload_n dX9_init_95 rfl rfl (g_bipush dX9_init_96 kbm4 (g_isN 2 dX9_init_98 (show 9 ≤ 158 ∧ 158 < LY.n (v39) ∧ LY.k (v39) 158 = .inr (0, 4) by decide +kernel) ⟨by decide, by decide, by decide⟩ (by decide) (g_inc1 dX9_init_99 (by decide) rfl (g_goto 86 dX9_init_102 rfl (g_iload_n dX9_init_86 rfl rfl (g_iconst dX9_init_87 (g_icmp_ge 105 dX9_init_88 rfl (by decide) (by decide) (fun c => absurd c (by decide)) <| fun _ => ?_)))))))))
  refine g_aload_n dX9_init_91 rfl rfl (gf_X9_34 (M := mX9_init) rfl dX9_init_92 vr_39 (show LY.R v39 150 23 = some 158 by decide +kernel) (g_iload_n dX9_init_95 rfl rfl (g_bipush dX9_init_96 kbm4 (g_isN 3 dX9_init_98 (show 9 ≤ 158 ∧ 158 < LY.n (v39) ∧ LY.k (v39) 158 = .inr (0, 4) by decide +kernel) ⟨by decide, by decide, by decide⟩ (by decide) (g_inc1 dX9_init_99 (by decide) rfl (g_goto 86 dX9_init_102 rfl (g_iload_n dX9_init_86 rfl rfl (g_iconst dX9_init_87 ?_))))))))
  refine g_icmp_ge 105 dX9_init_88 rfl (by decide) (by decide) (fun _ => ?_) (fun c => absurd (by decide) c)
  refine g_aload_n dX9_init_105 rfl rfl ?_
  refine cv_X9_43 (M := mX9_init) rfl dX9_init_106 vr_39 (d := d + 1) (mc := 0) (ms := 0) ⟨Nat.le_refl _, Nat.le_refl _, Nat.le_of_ble_eq_true rfl, Nat.le_of_ble_eq_true rfl⟩ (Nat.le_of_ble_eq_true rfl) (e_X9_firstDraft lay_v) ?_
  rintro _ h1 ⟨rfl, f, dd⟩
  refine g_aload_n dX9_init_109 rfl rfl ?_
  refine cv_X9_46 (M := mX9_init) rfl dX9_init_110 vr_39 (d := d + 1) (mc := 0) (ms := 0) ⟨Nat.le_refl _, Nat.le_refl _, Nat.le_of_ble_eq_true rfl, Nat.le_of_ble_eq_true rfl⟩ (Nat.le_of_ble_eq_true rfl) (e_X9_keepDraft lay_v) ?_
  rintro _ _ ⟨rfl, rfl⟩
  exact g_vret dX9_init_113 rfl rfl ⟨Nat.le_of_ble_eq_true rfl, Nat.le_of_ble_eq_true rfl⟩ ⟨rfl, inv_0 s n9 z f dd⟩
