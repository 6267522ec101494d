theorem Go.y {G : GX} {M : MI} {R : Room} {Z : ZT} {y y' : LY} {pc : Nat} {ls : List (Option Value)} {st : List Value} {h : HM} {cs : Nat × Nat} (e : y = y') (k : Go G M R Z y' pc ls st h cs) : Go G M R Z y pc ls st h cs := by rw [e]; exact k
/-- what the class's half holds below u -/
def S8 (u : Nat) (h : HM) : Prop := (10 < u → h.I 10 1 = 0) ∧ (11 < u → ∀ j, h.I 11 j = 0) ∧ (12 < u → CI h 12) ∧ (69 < u → ∀ j, h.I 69 j = 0) ∧ ∀ k : Nat, k < 4 → 143 + 2 * k < u → h.I (142 + 2 * k) 1 = 0 ∧ h.I (142 + 2 * k) 2 = -1 ∧ ∀ j, h.I (143 + 2 * k) j = 0
def B10 (u : Nat) (h h1 : HM) : Prop := ∀ a, 10 ≤ a → a < u → h1.I a = h.I a
theorem Blw.t {u : Nat} {h h1 : HM} (b : Blw u h h1) : B10 u h h1 := fun a _ q => b a q
theorem S8.up {u : Nat} {h h1 : HM} (s : S8 u h) (b : B10 u h h1) : S8 u h1 := by
  refine ⟨fun q => ?_, fun q j => ?_, fun q => ?_, fun q j => ?_, fun k hk q => ?_⟩
  · rw [b 10 (by omega) q]; exact s.1 q
  · rw [b 11 (by omega) q]; exact s.2.1 q j
  · exact (s.2.2.1 q).up (b 12 (by omega) q)
  · rw [b 69 (by omega) q]; exact s.2.2.2.1 q j
  · rw [b (142 + 2 * k) (by omega) (by omega), b (143 + 2 * k) (by omega) (by omega)]; exact s.2.2.2.2 k hk q
theorem S8.wid {u w : Nat} {h : HM} (s : S8 u h) (q : 13 ≤ u) (q2 : w ≤ 69 ∨ 70 ≤ u) (q3 : w ≤ 143) : S8 w h := by
  refine ⟨fun _ => s.1 (by omega), fun _ => s.2.1 (by omega), fun _ => s.2.2.1 (by omega), fun z => s.2.2.2.1 (by omega), fun k hk z => by omega⟩
theorem S8.t0 {h : HM} (p1 : h.I 10 1 = 0) (p2 : ∀ j, h.I 11 j = 0) : S8 12 h := ⟨fun _ => p1, fun _ => p2, fun z => by omega, fun z => by omega, fun k hk z => by omega⟩
theorem S8.c12 {h : HM} (s : S8 12 h) (p : CI h 12) : S8 40 h := ⟨fun _ => s.1 (by omega), fun _ => s.2.1 (by omega), fun _ => p, fun z => by omega, fun k hk z => by omega⟩
theorem S8.k69 {h : HM} (s : S8 68 h) : S8 71 (((h.new 68).new 69).new 70) := by
  have b : S8 68 (((h.new 68).new 69).new 70) := s.up (((Blw.rf 68 h).nw (Nat.le_refl _)).nw (by omega) |>.nw (by omega)).t
  exact ⟨fun _ => b.1 (by omega), fun _ => b.2.1 (by omega), fun _ => b.2.2.1 (by omega), fun _ j => by rw [nw_I _ 70 (by omega)]; exact nw_Z _ _ _, fun k hk z => by omega⟩
theorem S8.sh {u k : Nat} {h : HM} (hk : k < 4) (hu : u = 142 + 2 * k) (s : S8 u h) (p1 : h.I u 1 = 0) (p2 : h.I u 2 = -1) (p3 : ∀ j, h.I (u + 1) j = 0) : S8 (u + 2) h := by
  subst hu
  refine ⟨fun _ => s.1 (by omega), fun _ => s.2.1 (by omega), fun _ => s.2.2.1 (by omega), fun _ => s.2.2.2.1 (by omega), fun k2 hk2 z => ?_⟩
  by_cases q : k2 = k
  · subst q
    rw [show 143 + 2 * k2 = 142 + 2 * k2 + 1 by omega]
    exact ⟨p1, p2, p3⟩
  · exact s.2.2.2.2 k2 hk2 (by omega)
def N9 (h : HM) : Prop := h.I 9 11 = 0 ∧ h.I 9 12 = 0
theorem N9.up {h h1 : HM} (s : N9 h) (e : h1.I 9 = h.I 9) : N9 h1 := by unfold N9; rw [e]; exact s
theorem vq_0 : IsO v0 9 8 := (show 9 ≤ 9 ∧ 9 < LY.n (v0) ∧ LY.k (v0) 9 = .inl 8 by decide +kernel)
theorem vq_1 : IsO v1 9 8 := (show 9 ≤ 9 ∧ 9 < LY.n (v1) ∧ LY.k (v1) 9 = .inl 8 by decide +kernel)
theorem vq_2 : IsO v2 9 8 := (show 9 ≤ 9 ∧ 9 < LY.n (v2) ∧ LY.k (v2) 9 = .inl 8 by decide +kernel)
theorem vq_3 : IsO v3 9 8 := (show 9 ≤ 9 ∧ 9 < LY.n (v3) ∧ LY.k (v3) 9 = .inl 8 by decide +kernel)
theorem vq_4 : IsO v4 9 8 := (show 9 ≤ 9 ∧ 9 < LY.n (v4) ∧ LY.k (v4) 9 = .inl 8 by decide +kernel)
theorem vq_5 : IsO v5 9 8 := (show 9 ≤ 9 ∧ 9 < LY.n (v5) ∧ LY.k (v5) 9 = .inl 8 by decide +kernel)
theorem vq_6 : IsO v6 9 8 := (show 9 ≤ 9 ∧ 9 < LY.n (v6) ∧ LY.k (v6) 9 = .inl 8 by decide +kernel)
theorem vq_7 : IsO v7 9 8 := (show 9 ≤ 9 ∧ 9 < LY.n (v7) ∧ LY.k (v7) 9 = .inl 8 by decide +kernel)
theorem vq_8 : IsO v8 9 8 := (show 9 ≤ 9 ∧ 9 < LY.n (v8) ∧ LY.k (v8) 9 = .inl 8 by decide +kernel)
theorem vq_9 : IsO v9 9 8 := (show 9 ≤ 9 ∧ 9 < LY.n (v9) ∧ LY.k (v9) 9 = .inl 8 by decide +kernel)
theorem vq_10 : IsO v10 9 8 := (show 9 ≤ 9 ∧ 9 < LY.n (v10) ∧ LY.k (v10) 9 = .inl 8 by decide +kernel)
theorem vq_11 : IsO v11 9 8 := (show 9 ≤ 9 ∧ 9 < LY.n (v11) ∧ LY.k (v11) 9 = .inl 8 by decide +kernel)
theorem vq_12 : IsO v12 9 8 := (show 9 ≤ 9 ∧ 9 < LY.n (v12) ∧ LY.k (v12) 9 = .inl 8 by decide +kernel)
theorem vq_13 : IsO v13 9 8 := (show 9 ≤ 9 ∧ 9 < LY.n (v13) ∧ LY.k (v13) 9 = .inl 8 by decide +kernel)
theorem vq_14 : IsO v14 9 8 := (show 9 ≤ 9 ∧ 9 < LY.n (v14) ∧ LY.k (v14) 9 = .inl 8 by decide +kernel)
theorem vq_15 : IsO v15 9 8 := (show 9 ≤ 9 ∧ 9 < LY.n (v15) ∧ LY.k (v15) 9 = .inl 8 by decide +kernel)
theorem vq_16 : IsO v16 9 8 := (show 9 ≤ 9 ∧ 9 < LY.n (v16) ∧ LY.k (v16) 9 = .inl 8 by decide +kernel)
theorem vq_17 : IsO v17 9 8 := (show 9 ≤ 9 ∧ 9 < LY.n (v17) ∧ LY.k (v17) 9 = .inl 8 by decide +kernel)
theorem vq_18 : IsO v18 9 8 := (show 9 ≤ 9 ∧ 9 < LY.n (v18) ∧ LY.k (v18) 9 = .inl 8 by decide +kernel)
theorem vq_19 : IsO v19 9 8 := (show 9 ≤ 9 ∧ 9 < LY.n (v19) ∧ LY.k (v19) 9 = .inl 8 by decide +kernel)
theorem vq_20 : IsO v20 9 8 := (show 9 ≤ 9 ∧ 9 < LY.n (v20) ∧ LY.k (v20) 9 = .inl 8 by decide +kernel)
theorem vq_22 : IsO v22 9 8 := (show 9 ≤ 9 ∧ 9 < LY.n (v22) ∧ LY.k (v22) 9 = .inl 8 by decide +kernel)
theorem vq_24 : IsO v24 9 8 := (show 9 ≤ 9 ∧ 9 < LY.n (v24) ∧ LY.k (v24) 9 = .inl 8 by decide +kernel)
theorem vq_26 : IsO v26 9 8 := (show 9 ≤ 9 ∧ 9 < LY.n (v26) ∧ LY.k (v26) 9 = .inl 8 by decide +kernel)
theorem vq_28 : IsO v28 9 8 := (show 9 ≤ 9 ∧ 9 < LY.n (v28) ∧ LY.k (v28) 9 = .inl 8 by decide +kernel)
set_option maxRecDepth 100000 in
set_option maxHeartbeats 4000000 in
theorem e_X8_init {G : GX} {h : HM} {d : Nat} : Ev G mX8_init (d + 3) 140 1190 [.ref 9] v0 h v28 (fun r h1 => r = none ∧ S8 150 h1 ∧ N9 h1) := by
  refine Ev.of rfl [some (.ref 9), none] rfl (Nat.le_of_ble_eq_true rfl) ?_
  refine g_aload_n dX8_init_0 rfl rfl (cv_X8_3 (M := mX8_init) rfl dX8_init_1 ⟨by simp [rmo], by simp only [rmo]; omega⟩ (Nat.le_of_ble_eq_true rfl) (g_aload_n dX8_init_4 rfl rfl (bnw_X8_9 (M := mX8_init) rfl dX8_init_5 ⟨Nat.le_of_ble_eq_true rfl, Nat.le_of_ble_eq_true rfl⟩ vn_0 (g_dup dX8_init_8 rfl (Go.y (y' := v1) rfl ?_)))))
  refine cv_X8_11 (M := mX8_init) rfl dX8_init_9 (d := d + 2) (mc := 1) (ms := 400) ⟨Nat.le_refl _, Nat.le_refl _, Nat.le_of_ble_eq_true rfl, Nat.le_of_ble_eq_true rfl⟩ (Nat.le_of_ble_eq_true rfl) (e_X6_init (show 9 ≤ 10 ∧ 10 < LY.n (v1) ∧ LY.k (v1) 10 = .inl 6 by decide +kernel) vn_1) ?_
  rintro _ h1 ⟨rfl, b1, p1, p2⟩
  have s1 : S8 12 h1 := S8.t0 p1 p2
  refine pf_X8_12 (M := mX8_init) rfl rfl dX8_init_12 vq_1.new.sR (Go.y (y' := v2) rfl (g_aload_n dX8_init_15 rfl rfl (bnw_X8_16 (M := mX8_init) rfl dX8_init_16 ⟨Nat.le_of_ble_eq_true rfl, Nat.le_of_ble_eq_true rfl⟩ vn_2 (g_dup dX8_init_19 rfl (Go.y (y' := v3) rfl ?_)))))
  refine cv_X8_18 (M := mX8_init) rfl dX8_init_20 (d := d + 2) (mc := 27) (ms := 120) ⟨Nat.le_refl _, Nat.le_refl _, Nat.le_of_ble_eq_true rfl, Nat.le_of_ble_eq_true rfl⟩ (Nat.le_of_ble_eq_true rfl) (e_X0_init (show 9 ≤ 12 ∧ 12 < LY.n (v3) ∧ LY.k (v3) 12 = .inl 0 by decide +kernel) vn_3) ?_
  rintro _ h2 ⟨rfl, b2, p3⟩
  have s2 : S8 40 h2 := (s1.up (((Blw.rf 12 h1).nw (Nat.le_refl _)).tr b2).t).c12 p3
  refine pf_X8_19 (M := mX8_init) rfl rfl dX8_init_23 (show 9 ≤ 9 ∧ 9 < LY.n (yC v3 12) ∧ LY.k (yC v3 12) 9 = .inl 8 by decide +kernel) (Go.y (y' := v4) rfl (g_aload_n dX8_init_26 rfl rfl (bnw_X8_16 (M := mX8_init) rfl dX8_init_27 ⟨Nat.le_of_ble_eq_true rfl, Nat.le_of_ble_eq_true rfl⟩ vn_4 (g_dup dX8_init_30 rfl (Go.y (y' := v5) rfl ?_)))))
  refine cv_X8_18 (M := mX8_init) rfl dX8_init_31 (d := d + 2) (mc := 27) (ms := 120) ⟨Nat.le_refl _, Nat.le_refl _, Nat.le_of_ble_eq_true rfl, Nat.le_of_ble_eq_true rfl⟩ (Nat.le_of_ble_eq_true rfl) (e_X0_init (show 9 ≤ 40 ∧ 40 < LY.n (v5) ∧ LY.k (v5) 40 = .inl 0 by decide +kernel) vn_5) ?_
  rintro _ h3 ⟨rfl, b3, _⟩
  have s3 : S8 68 h3 := (s2.up (((Blw.rf 40 h2).nw (Nat.le_refl _)).tr b3).t).wid (by omega) (by omega) (by omega)
  have s4 := s3.k69
  refine pf_X8_23 (M := mX8_init) rfl rfl dX8_init_34 (show 9 ≤ 9 ∧ 9 < LY.n (yC v5 40) ∧ LY.k (yC v5 40) 9 = .inl 8 by decide +kernel) (Go.y (y' := v6) rfl (g_aload_n dX8_init_37 rfl rfl (g_iconst dX8_init_38 (ban_X8_16 (M := mX8_init) rfl dX8_init_39 (by decide) rfl (by decide) ⟨Nat.le_of_ble_eq_true rfl, Nat.le_of_ble_eq_true rfl⟩ vn_6 (pf_X8_26 (M := mX8_init) rfl rfl dX8_init_42 vq_6.new (Go.y (y' := v7) rfl (g_aload_n dX8_init_45 rfl rfl (g_iconst dX8_init_46 (na_boolean dX8_init_47 vn_7 (by decide) rfl (by decide) ⟨Nat.le_of_ble_eq_true rfl, Nat.le_of_ble_eq_true rfl⟩ ?_)))))))))
  refine pf_X8_30 (M := mX8_init) rfl rfl dX8_init_49 vq_7.new (Go.y (y' := v8) rfl (g_aload_n dX8_init_52 rfl rfl (g_iconst dX8_init_53 (ban_X8_34 (M := mX8_init) rfl dX8_init_54 (by decide) rfl (by decide) ⟨Nat.le_of_ble_eq_true rfl, Nat.le_of_ble_eq_true rfl⟩ vn_8 (pf_X8_36 (M := mX8_init) rfl rfl dX8_init_57 vq_8.new (Go.y (y' := v9) rfl (g_aload_n dX8_init_60 rfl rfl (bnw_X8_40 (M := mX8_init) rfl dX8_init_61 ⟨Nat.le_of_ble_eq_true rfl, Nat.le_of_ble_eq_true rfl⟩ vn_9 (g_dup dX8_init_64 rfl ?_)))))))))
  refine Go.y (y' := v10) rfl ?_
  refine cv_X8_42 (M := mX8_init) rfl dX8_init_65 (d := d + 2) (mc := 10) (ms := 55) ⟨Nat.le_refl _, Nat.le_refl _, Nat.le_of_ble_eq_true rfl, Nat.le_of_ble_eq_true rfl⟩ (Nat.le_of_ble_eq_true rfl) (e_X2_init (show 9 ≤ 71 ∧ 71 < LY.n (v10) ∧ LY.k (v10) 71 = .inl 2 by decide +kernel) vn_10) ?_
  rintro _ h4 ⟨rfl, b4⟩
  have s5 : S8 82 h4 := (s4.up (((Blw.rf 71 _).nw (Nat.le_refl _)).tr b4).t).wid (by omega) (by omega) (by omega)
  refine pf_X8_43 (M := mX8_init) rfl rfl dX8_init_68 (show 9 ≤ 9 ∧ 9 < LY.n (yF v10 71) ∧ LY.k (yF v10 71) 9 = .inl 8 by decide +kernel) (Go.y (y' := v11) rfl (g_aload_n dX8_init_71 rfl rfl (bnw_X8_47 (M := mX8_init) rfl dX8_init_72 ⟨Nat.le_of_ble_eq_true rfl, Nat.le_of_ble_eq_true rfl⟩ vn_11 (g_dup dX8_init_75 rfl (Go.y (y' := v12) rfl ?_)))))
  refine cv_X8_49 (M := mX8_init) rfl dX8_init_76 (d := d + 2) (mc := 0) (ms := 0) ⟨Nat.le_refl _, Nat.le_refl _, Nat.le_of_ble_eq_true rfl, Nat.le_of_ble_eq_true rfl⟩ (Nat.le_of_ble_eq_true rfl) (e_X1_init (show 9 ≤ 82 ∧ 82 < LY.n (v12) ∧ LY.k (v12) 82 = .inl 1 by decide +kernel)) ?_
  rintro _ h5 ⟨rfl, b5⟩
  have s6 : S8 83 h5 := (s5.up (((Blw.rf 82 _).nw (Nat.le_refl _)).tr b5).t).wid (by omega) (by omega) (by omega)
  refine pf_X8_50 (M := mX8_init) rfl rfl dX8_init_79 vq_12 (Go.y (y' := v13) rfl (g_aload_n dX8_init_82 rfl rfl (g_bipush dX8_init_83 kb6 (na_int dX8_init_85 vn_13 (by decide) rfl (by decide) ⟨Nat.le_of_ble_eq_true rfl, Nat.le_of_ble_eq_true rfl⟩ (pf_X8_54 (M := mX8_init) rfl rfl dX8_init_87 vq_13.new (Go.y (y' := v14) rfl (g_aload_n dX8_init_90 rfl rfl (g_bipush dX8_init_91 kb6 (na_int dX8_init_93 vn_14 (by decide) rfl (by decide) ⟨Nat.le_of_ble_eq_true rfl, Nat.le_of_ble_eq_true rfl⟩ ?_)))))))))
  refine pf_X8_58 (M := mX8_init) rfl rfl dX8_init_95 vq_14.new (Go.y (y' := v15) rfl (g_aload_n dX8_init_98 rfl rfl (g_bipush dX8_init_99 kb9 (na_int dX8_init_101 vn_15 (by decide) rfl (by decide) ⟨Nat.le_of_ble_eq_true rfl, Nat.le_of_ble_eq_true rfl⟩ (pf_X8_61 (M := mX8_init) rfl rfl dX8_init_103 vq_15.new (Go.y (y' := v16) rfl (g_aload_n dX8_init_106 rfl rfl (g_iconst dX8_init_107 (pf_X8_64 (M := mX8_init) rfl dX8_init_108 vq_16 ?_)))))))))
  refine g_aload_n dX8_init_111 rfl rfl (g_iconst dX8_init_112 (pf_X8_68 (M := mX8_init) rfl dX8_init_113 vq_16 (g_iconst dX8_init_116 (g_ist1 dX8_init_117 (by decide) rfl ?_))))
  have n6 : N9 (((((h5.new 83).new 84).new 85).sI 9 11 0).sI 9 12 0) := ⟨by rw [sI_I, if_neg (by omega), sI_I, if_pos ⟨rfl, rfl⟩], by rw [sI_I, if_pos ⟨rfl, rfl⟩]⟩
  have s7 : S8 86 (((((h5.new 83).new 84).new 85).sI 9 11 0).sI 9 12 0) := (s6.up (h1 := ((((h5.new 83).new 84).new 85).sI 9 11 0).sI 9 12 0) (fun a q1 q2 => by rw [sI_a _ (by omega), sI_a _ (by omega)]; exact ((((Blw.rf 83 h5).nw (Nat.le_refl _)).nw (by omega)).nw (by omega)) a q2)).wid (by omega) (by omega) (by omega)
  generalize ((((h5.new 83).new 84).new 85).sI 9 11 0).sI 9 12 0 = h6 at *
  refine g_iload_n dX8_init_118 rfl rfl (g_aload_n dX8_init_119 rfl rfl (gf_X8_26 (M := mX8_init) rfl dX8_init_120 vq_16 (show LY.R v16 9 3 = some 68 by decide +kernel) (g_alen (v := 2) dX8_init_123 (show 9 ≤ 68 ∧ 68 < LY.n (v16) ∧ LY.k (v16) 68 = .inr (6, 2) by decide +kernel) (by decide) rfl (g_icmp_ge 146 dX8_init_124 rfl (by decide) (by decide) (fun c => absurd c (by decide)) <| fun _ => ?_))))
  refine g_aload_n dX8_init_127 rfl rfl (gf_X8_26 (M := mX8_init) rfl dX8_init_128 vq_16 (show LY.R v16 9 3 = some 68 by decide +kernel) (g_iload_n dX8_init_131 rfl rfl (bnw_X8_16 (M := mX8_init) rfl dX8_init_132 ⟨Nat.le_of_ble_eq_true rfl, Nat.le_of_ble_eq_true rfl⟩ vn_16 (g_dup dX8_init_135 rfl (Go.y (y' := v17) rfl ?_)))))
  refine cv_X8_18 (M := mX8_init) rfl dX8_init_136 (d := d + 2) (mc := 27) (ms := 120) ⟨Nat.le_refl _, Nat.le_refl _, Nat.le_of_ble_eq_true rfl, Nat.le_of_ble_eq_true rfl⟩ (Nat.le_of_ble_eq_true rfl) (e_X0_init (show 9 ≤ 86 ∧ 86 < LY.n (v17) ∧ LY.k (v17) 86 = .inl 0 by decide +kernel) vn_17) ?_
  rintro _ h7 ⟨rfl, bh7, _⟩
  have sh7 : S8 114 h7 := (s7.up (((Blw.rf 86 _).nw (Nat.le_refl _)).tr bh7).t).wid (by omega) (by omega) (by omega)
  have nh7 : N9 h7 := n6.up ((((Blw.rf 86 _).nw (Nat.le_refl _)).tr bh7) 9 (by omega))
  refine g_aast (t := 6) (ci := 0) dX8_init_139 (show 9 ≤ 68 ∧ 68 < LY.n (yC v17 86) ∧ LY.k (yC v17 86) 68 = .inr (6, 2) by decide +kernel) (by decide) rfl ⟨by decide, by decide, by decide⟩ (show 9 ≤ 86 ∧ 86 < LY.n (yC v17 86) ∧ LY.k (yC v17 86) 86 = .inl 0 by decide +kernel) rfl (fun j => ⟨rfl, rfl⟩) (Go.y (y' := v18) rfl (g_inc1 dX8_init_140 (by decide) rfl (g_goto 118 dX8_init_143 rfl (g_iload_n dX8_init_118 rfl rfl (g_aload_n dX8_init_119 rfl rfl (gf_X8_26 (M := mX8_init) rfl dX8_init_120 vq_18 (show LY.R v18 9 3 = some 68 by decide +kernel) (g_alen (v := 2) dX8_init_123 (show 9 ≤ 68 ∧ 68 < LY.n (v18) ∧ LY.k (v18) 68 = .inr (6, 2) by decide +kernel) (by decide) rfl (g_icmp_ge 146 dX8_init_124 rfl (by decide) (by decide) (fun c => absurd c (by decide)) <| fun _ => ?_))))))))
  refine g_aload_n dX8_init_127 rfl rfl (gf_X8_26 (M := mX8_init) rfl dX8_init_128 vq_18 (show LY.R v18 9 3 = some 68 by decide +kernel) (g_iload_n dX8_init_131 rfl rfl (bnw_X8_16 (M := mX8_init) rfl dX8_init_132 ⟨Nat.le_of_ble_eq_true rfl, Nat.le_of_ble_eq_true rfl⟩ vn_18 (g_dup dX8_init_135 rfl (Go.y (y' := v19) rfl ?_)))))
  refine cv_X8_18 (M := mX8_init) rfl dX8_init_136 (d := d + 2) (mc := 27) (ms := 120) ⟨Nat.le_refl _, Nat.le_refl _, Nat.le_of_ble_eq_true rfl, Nat.le_of_ble_eq_true rfl⟩ (Nat.le_of_ble_eq_true rfl) (e_X0_init (show 9 ≤ 114 ∧ 114 < LY.n (v19) ∧ LY.k (v19) 114 = .inl 0 by decide +kernel) vn_19) ?_
  rintro _ h8 ⟨rfl, bh8, _⟩
  have sh8 : S8 142 h8 := (sh7.up (((Blw.rf 114 _).nw (Nat.le_refl _)).tr bh8).t).wid (by omega) (by omega) (by omega)
  have nh8 : N9 h8 := nh7.up ((((Blw.rf 114 _).nw (Nat.le_refl _)).tr bh8) 9 (by omega))
  refine g_aast (t := 6) (ci := 0) dX8_init_139 (show 9 ≤ 68 ∧ 68 < LY.n (yC v19 114) ∧ LY.k (yC v19 114) 68 = .inr (6, 2) by decide +kernel) (by decide) rfl ⟨by decide, by decide, by decide⟩ (show 9 ≤ 114 ∧ 114 < LY.n (yC v19 114) ∧ LY.k (yC v19 114) 114 = .inl 0 by decide +kernel) rfl (fun j => ⟨rfl, rfl⟩) (Go.y (y' := v20) rfl (g_inc1 dX8_init_140 (by decide) rfl (g_goto 118 dX8_init_143 rfl (g_iload_n dX8_init_118 rfl rfl (g_aload_n dX8_init_119 rfl rfl (gf_X8_26 (M := mX8_init) rfl dX8_init_120 vq_20 (show LY.R v20 9 3 = some 68 by decide +kernel) (g_alen (v := 2) dX8_init_123 (show 9 ≤ 68 ∧ 68 < LY.n (v20) ∧ LY.k (v20) 68 = .inr (6, 2) by decide +kernel) (by decide) rfl ?_)))))))
  refine g_icmp_ge 146 dX8_init_124 rfl (by decide) (by decide) (fun _ => ?_) (fun c => absurd (by decide) c)
  refine g_iconst dX8_init_146 (g_ist1 dX8_init_147 (by decide) rfl (g_iload_n dX8_init_148 rfl rfl (g_aload_n dX8_init_149 rfl rfl (gf_X8_36 (M := mX8_init) rfl dX8_init_150 vq_20 (show LY.R v20 9 5 = some 70 by decide +kernel) (g_alen (v := 4) dX8_init_153 (show 9 ≤ 70 ∧ 70 < LY.n (v20) ∧ LY.k (v20) 70 = .inr (7, 4) by decide +kernel) (by decide) rfl (g_icmp_ge 176 dX8_init_154 rfl (by decide) (by decide) (fun c => absurd c (by decide)) <| fun _ => ?_))))))
  refine g_aload_n dX8_init_157 rfl rfl (gf_X8_36 (M := mX8_init) rfl dX8_init_158 vq_20 (show LY.R v20 9 5 = some 70 by decide +kernel) (g_iload_n dX8_init_161 rfl rfl (bnw_X8_34 (M := mX8_init) rfl dX8_init_162 ⟨Nat.le_of_ble_eq_true rfl, Nat.le_of_ble_eq_true rfl⟩ vn_20 (g_dup dX8_init_165 rfl (Go.y (y' := v21) rfl ?_)))))
  refine cv_X8_71 (M := mX8_init) rfl dX8_init_166 (d := d + 2) (mc := 1) (ms := 40) ⟨Nat.le_refl _, Nat.le_refl _, Nat.le_of_ble_eq_true rfl, Nat.le_of_ble_eq_true rfl⟩ (Nat.le_of_ble_eq_true rfl) (e_X4_init (show 9 ≤ 142 ∧ 142 < LY.n (v21) ∧ LY.k (v21) 142 = .inl 4 by decide +kernel) vn_21) ?_
  rintro _ h9 ⟨rfl, bh9, q1h9, q2h9, q3h9⟩
  have sh9 : S8 (142 + 2) h9 := S8.sh (u := 142) (k := 0) (by omega) rfl (sh8.up (((Blw.rf 142 _).nw (Nat.le_refl _)).tr bh9).t) q1h9 q2h9 q3h9
  have nh9 : N9 h9 := nh8.up ((((Blw.rf 142 _).nw (Nat.le_refl _)).tr bh9) 9 (by omega))
  refine g_aast (t := 7) (ci := 4) dX8_init_169 (show 9 ≤ 70 ∧ 70 < LY.n ((v21.new (.inr (0, 40))).sR 142 0 (some (142 + 1))) ∧ LY.k ((v21.new (.inr (0, 40))).sR 142 0 (some (142 + 1))) 70 = .inr (7, 4) by decide +kernel) (by decide) rfl ⟨by decide, by decide, by decide⟩ (show 9 ≤ 142 ∧ 142 < LY.n ((v21.new (.inr (0, 40))).sR 142 0 (some (142 + 1))) ∧ LY.k ((v21.new (.inr (0, 40))).sR 142 0 (some (142 + 1))) 142 = .inl 4 by decide +kernel) rfl (fun j => ⟨rfl, rfl⟩) (Go.y (y' := v22) rfl (g_inc1 dX8_init_170 (by decide) rfl (g_goto 148 dX8_init_173 rfl (g_iload_n dX8_init_148 rfl rfl (g_aload_n dX8_init_149 rfl rfl (gf_X8_36 (M := mX8_init) rfl dX8_init_150 vq_22 (show LY.R v22 9 5 = some 70 by decide +kernel) (g_alen (v := 4) dX8_init_153 (show 9 ≤ 70 ∧ 70 < LY.n (v22) ∧ LY.k (v22) 70 = .inr (7, 4) by decide +kernel) (by decide) rfl (g_icmp_ge 176 dX8_init_154 rfl (by decide) (by decide) (fun c => absurd c (by decide)) <| fun _ => ?_))))))))
  refine g_aload_n dX8_init_157 rfl rfl (gf_X8_36 (M := mX8_init) rfl dX8_init_158 vq_22 (show LY.R v22 9 5 = some 70 by decide +kernel) (g_iload_n dX8_init_161 rfl rfl (bnw_X8_34 (M := mX8_init) rfl dX8_init_162 ⟨Nat.le_of_ble_eq_true rfl, Nat.le_of_ble_eq_true rfl⟩ vn_22 (g_dup dX8_init_165 rfl (Go.y (y' := v23) rfl ?_)))))
  refine cv_X8_71 (M := mX8_init) rfl dX8_init_166 (d := d + 2) (mc := 1) (ms := 40) ⟨Nat.le_refl _, Nat.le_refl _, Nat.le_of_ble_eq_true rfl, Nat.le_of_ble_eq_true rfl⟩ (Nat.le_of_ble_eq_true rfl) (e_X4_init (show 9 ≤ 144 ∧ 144 < LY.n (v23) ∧ LY.k (v23) 144 = .inl 4 by decide +kernel) vn_23) ?_
  rintro _ h10 ⟨rfl, bh10, q1h10, q2h10, q3h10⟩
  have sh10 : S8 (144 + 2) h10 := S8.sh (u := 144) (k := 1) (by omega) rfl (sh9.up (((Blw.rf 144 _).nw (Nat.le_refl _)).tr bh10).t) q1h10 q2h10 q3h10
  have nh10 : N9 h10 := nh9.up ((((Blw.rf 144 _).nw (Nat.le_refl _)).tr bh10) 9 (by omega))
  refine g_aast (t := 7) (ci := 4) dX8_init_169 (show 9 ≤ 70 ∧ 70 < LY.n ((v23.new (.inr (0, 40))).sR 144 0 (some (144 + 1))) ∧ LY.k ((v23.new (.inr (0, 40))).sR 144 0 (some (144 + 1))) 70 = .inr (7, 4) by decide +kernel) (by decide) rfl ⟨by decide, by decide, by decide⟩ (show 9 ≤ 144 ∧ 144 < LY.n ((v23.new (.inr (0, 40))).sR 144 0 (some (144 + 1))) ∧ LY.k ((v23.new (.inr (0, 40))).sR 144 0 (some (144 + 1))) 144 = .inl 4 by decide +kernel) rfl (fun j => ⟨rfl, rfl⟩) (Go.y (y' := v24) rfl (g_inc1 dX8_init_170 (by decide) rfl (g_goto 148 dX8_init_173 rfl (g_iload_n dX8_init_148 rfl rfl (g_aload_n dX8_init_149 rfl rfl (gf_X8_36 (M := mX8_init) rfl dX8_init_150 vq_24 (show LY.R v24 9 5 = some 70 by decide +kernel) (g_alen (v := 4) dX8_init_153 (show 9 ≤ 70 ∧ 70 < LY.n (v24) ∧ LY.k (v24) 70 = .inr (7, 4) by decide +kernel) (by decide) rfl (g_icmp_ge 176 dX8_init_154 rfl (by decide) (by decide) (fun c => absurd c (by decide)) <| fun _ => ?_))))))))
  refine g_aload_n dX8_init_157 rfl rfl (gf_X8_36 (M := mX8_init) rfl dX8_init_158 vq_24 (show LY.R v24 9 5 = some 70 by decide +kernel) (g_iload_n dX8_init_161 rfl rfl (bnw_X8_34 (M := mX8_init) rfl dX8_init_162 ⟨Nat.le_of_ble_eq_true rfl, Nat.le_of_ble_eq_true rfl⟩ vn_24 (g_dup dX8_init_165 rfl (Go.y (y' := v25) rfl ?_)))))
  refine cv_X8_71 (M := mX8_init) rfl dX8_init_166 (d := d + 2) (mc := 1) (ms := 40) ⟨Nat.le_refl _, Nat.le_refl _, Nat.le_of_ble_eq_true rfl, Nat.le_of_ble_eq_true rfl⟩ (Nat.le_of_ble_eq_true rfl) (e_X4_init (show 9 ≤ 146 ∧ 146 < LY.n (v25) ∧ LY.k (v25) 146 = .inl 4 by decide +kernel) vn_25) ?_
  rintro _ h11 ⟨rfl, bh11, q1h11, q2h11, q3h11⟩
  have sh11 : S8 (146 + 2) h11 := S8.sh (u := 146) (k := 2) (by omega) rfl (sh10.up (((Blw.rf 146 _).nw (Nat.le_refl _)).tr bh11).t) q1h11 q2h11 q3h11
  have nh11 : N9 h11 := nh10.up ((((Blw.rf 146 _).nw (Nat.le_refl _)).tr bh11) 9 (by omega))
  refine g_aast (t := 7) (ci := 4) dX8_init_169 (show 9 ≤ 70 ∧ 70 < LY.n ((v25.new (.inr (0, 40))).sR 146 0 (some (146 + 1))) ∧ LY.k ((v25.new (.inr (0, 40))).sR 146 0 (some (146 + 1))) 70 = .inr (7, 4) by decide +kernel) (by decide) rfl ⟨by decide, by decide, by decide⟩ (show 9 ≤ 146 ∧ 146 < LY.n ((v25.new (.inr (0, 40))).sR 146 0 (some (146 + 1))) ∧ LY.k ((v25.new (.inr (0, 40))).sR 146 0 (some (146 + 1))) 146 = .inl 4 by decide +kernel) rfl (fun j => ⟨rfl, rfl⟩) (Go.y (y' := v26) rfl (g_inc1 dX8_init_170 (by decide) rfl (g_goto 148 dX8_init_173 rfl (g_iload_n dX8_init_148 rfl rfl (g_aload_n dX8_init_149 rfl rfl (gf_X8_36 (M := mX8_init) rfl dX8_init_150 vq_26 (show LY.R v26 9 5 = some 70 by decide +kernel) (g_alen (v := 4) dX8_init_153 (show 9 ≤ 70 ∧ 70 < LY.n (v26) ∧ LY.k (v26) 70 = .inr (7, 4) by decide +kernel) (by decide) rfl (g_icmp_ge 176 dX8_init_154 rfl (by decide) (by decide) (fun c => absurd c (by decide)) <| fun _ => ?_))))))))
  refine g_aload_n dX8_init_157 rfl rfl (gf_X8_36 (M := mX8_init) rfl dX8_init_158 vq_26 (show LY.R v26 9 5 = some 70 by decide +kernel) (g_iload_n dX8_init_161 rfl rfl (bnw_X8_34 (M := mX8_init) rfl dX8_init_162 ⟨Nat.le_of_ble_eq_true rfl, Nat.le_of_ble_eq_true rfl⟩ vn_26 (g_dup dX8_init_165 rfl (Go.y (y' := v27) rfl ?_)))))
  refine cv_X8_71 (M := mX8_init) rfl dX8_init_166 (d := d + 2) (mc := 1) (ms := 40) ⟨Nat.le_refl _, Nat.le_refl _, Nat.le_of_ble_eq_true rfl, Nat.le_of_ble_eq_true rfl⟩ (Nat.le_of_ble_eq_true rfl) (e_X4_init (show 9 ≤ 148 ∧ 148 < LY.n (v27) ∧ LY.k (v27) 148 = .inl 4 by decide +kernel) vn_27) ?_
  rintro _ h12 ⟨rfl, bh12, q1h12, q2h12, q3h12⟩
  have sh12 : S8 (148 + 2) h12 := S8.sh (u := 148) (k := 3) (by omega) rfl (sh11.up (((Blw.rf 148 _).nw (Nat.le_refl _)).tr bh12).t) q1h12 q2h12 q3h12
  have nh12 : N9 h12 := nh11.up ((((Blw.rf 148 _).nw (Nat.le_refl _)).tr bh12) 9 (by omega))
  refine g_aast (t := 7) (ci := 4) dX8_init_169 (show 9 ≤ 70 ∧ 70 < LY.n ((v27.new (.inr (0, 40))).sR 148 0 (some (148 + 1))) ∧ LY.k ((v27.new (.inr (0, 40))).sR 148 0 (some (148 + 1))) 70 = .inr (7, 4) by decide +kernel) (by decide) rfl ⟨by decide, by decide, by decide⟩ (show 9 ≤ 148 ∧ 148 < LY.n ((v27.new (.inr (0, 40))).sR 148 0 (some (148 + 1))) ∧ LY.k ((v27.new (.inr (0, 40))).sR 148 0 (some (148 + 1))) 148 = .inl 4 by decide +kernel) rfl (fun j => ⟨rfl, rfl⟩) (Go.y (y' := v28) rfl (g_inc1 dX8_init_170 (by decide) rfl (g_goto 148 dX8_init_173 rfl (g_iload_n dX8_init_148 rfl rfl (g_aload_n dX8_init_149 rfl rfl (gf_X8_36 (M := mX8_init) rfl dX8_init_150 vq_28 (show LY.R v28 9 5 = some 70 by decide +kernel) (g_alen (v := 4) dX8_init_153 (show 9 ≤ 70 ∧ 70 < LY.n (v28) ∧ LY.k (v28) 70 = .inr (7, 4) by decide +kernel) (by decide) rfl ?_)))))))
  refine g_icmp_ge 176 dX8_init_154 rfl (by decide) (by decide) (fun _ => ?_) (fun c => absurd (by decide) c)
  exact g_vret dX8_init_176 rfl rfl ⟨Nat.le_of_ble_eq_true rfl, Nat.le_of_ble_eq_true rfl⟩ ⟨rfl, sh12, nh12⟩
