theorem someI {a b : Int} (h : a = b) : some (Value.int (iZ a)) = some (.int (iZ b)) := by rw [h]
theorem someL {a b : Int} (h : a = b) : some (Value.long (lZ a)) = some (.long (lZ b)) := by rw [h]
/-- 1 if it holds, else 0 -/
noncomputable def pI (P : Prop) : Int := @ite Int P (Classical.propDecidable P) 1 0
theorem pI_t {P : Prop} (h : P) : pI P = 1 := by unfold pI; rw [if_pos h]
theorem pI_f {P : Prop} (h : ¬ P) : pI P = 0 := by unfold pI; rw [if_neg h]
theorem pI_01 (P : Prop) : pI P = 0 ∨ pI P = 1 := by
  by_cases h : P
  · exact Or.inr (pI_t h)
  · exact Or.inl (pI_f h)
theorem pI_eq1 {P : Prop} : pI P = 1 ↔ P := by
  by_cases h : P
  · exact ⟨fun _ => h, fun _ => pI_t h⟩
  · exact ⟨fun e => by rw [pI_f h] at e; omega, fun e => absurd e h⟩
theorem pI_eq0 {P : Prop} : pI P = 0 ↔ ¬ P := by
  by_cases h : P
  · exact ⟨fun e => by rw [pI_t h] at e; omega, fun e => absurd h e⟩
  · exact ⟨fun _ => h, fun _ => pI_f h⟩
theorem pI_congr {P Q : Prop} (h : P ↔ Q) : pI P = pI Q := by rw [propext h]
def rnd (la te : Int) : Int := if 0 < la then la * te + 1 else te
def kndF (la ga : Int) : Int := (if 0 < la then 1 else 0) + (if 0 < ga then 2 else 0)
def tms (la ga : Int) : Int := max la 1 * (if 0 < ga then 2 else 1)
def ofs (te ga k : Int) : Int := if 0 < ga then k / 2 * te + k % 2 * ga else k * te
abbrev FW (h : HM) (a : Nat) : Prop := 2 ≤ h.I a 0 ∧ h.I a 0 ≤ 60 ∧ 0 ≤ h.I a 3 ∧ h.I a 3 ≤ 3 ∧ 0 ≤ h.I a 4 ∧ h.I a 4 < h.I a 0
abbrev FB (h : HM) (a : Nat) : Prop := FW h a ∧ 0 ≤ h.I a 1 ∧ h.I a 1 < h.I a 0 ∧ 0 ≤ h.I a 2 ∧ h.I a 2 ≤ 8
theorem la_cases {la : Int} (h0 : 0 ≤ la) (h3 : la ≤ 3) : la = 0 ∨ la = 1 ∨ la = 2 ∨ la = 3 := by omega
theorem rnd_bd {la te : Int} (h : 2 ≤ te ∧ te ≤ 60 ∧ 0 ≤ la ∧ la ≤ 3) : te ≤ rnd la te ∧ rnd la te ≤ 181 ∧ 2 ≤ rnd la te := by
  rcases la_cases h.2.2.1 h.2.2.2 with rfl | rfl | rfl | rfl <;> simp [rnd] <;> omega
theorem mx_bd {la te : Int} (h : 2 ≤ te ∧ te ≤ 60 ∧ 0 ≤ la ∧ la ≤ 3) : te ≤ max la 1 * te ∧ max la 1 * te ≤ 180 ∧ max la 1 * te ≤ rnd la te := by
  rcases la_cases h.2.2.1 h.2.2.2 with rfl | rfl | rfl | rfl <;> simp [rnd, show max (0:Int) 1 = 1 by decide, show max (1:Int) 1 = 1 by decide, show max (2:Int) 1 = 2 by decide, show max (3:Int) 1 = 3 by decide] <;> omega
theorem tms_bd {la ga : Int} (h : 0 ≤ la ∧ la ≤ 3) : 1 ≤ tms la ga ∧ tms la ga ≤ 6 := by
  unfold tms; rcases la_cases h.1 h.2 with rfl | rfl | rfl | rfl <;> split <;> simp [-Int.reduceMul, show max (0:Int) 1 = 1 by decide, show max (1:Int) 1 = 1 by decide, show max (2:Int) 1 = 2 by decide, show max (3:Int) 1 = 3 by decide] <;> omega
theorem half {k : Int} (h : 0 ≤ k) : k / 2 * 2 + k % 2 = k ∧ 0 ≤ k / 2 ∧ 0 ≤ k % 2 ∧ k % 2 < 2 := by omega
theorem mul_le {a b c d : Int} (h0 : 0 ≤ a) (h1 : a ≤ c) (h2 : 0 ≤ b) (h3 : b ≤ d) : 0 ≤ a * b ∧ a * b ≤ c * d := ⟨Int.mul_nonneg h0 h2, Int.mul_le_mul h1 h3 h2 (by omega)⟩
theorem ofs_bd {te ga k : Int} (h : 2 ≤ te ∧ te ≤ 60 ∧ 0 ≤ ga ∧ ga < te) (hk : 0 ≤ k ∧ k ≤ 5) : 0 ≤ ofs te ga k ∧ ofs te ga k ≤ 360 := by
  unfold ofs
  split
  · have h1 := mul_le (a := k / 2) (b := te) (c := 2) (d := 60) (by omega) (by omega) (by omega) (by omega)
    have h2 := mul_le (a := k % 2) (b := ga) (c := 1) (d := 60) (by omega) (by omega) (by omega) (by omega)
    omega
  · have h1 := mul_le (a := k) (b := te) (c := 5) (d := 60) (by omega) (by omega) (by omega) (by omega)
    omega
/-- the day of his k-th time, modulo his round -/
def tmo (te st la ga k : Int) : Int := (st + ofs te ga k) % rnd la te
/-- he comes out on day t -/
def Out (te st la ga t : Int) : Prop := (t - st) % rnd la te < max la 1 * te ∧ ((t - st) % rnd la te % te = 0 ∨ (0 < ga ∧ (t - st) % rnd la te % te = ga))
theorem tm_em {n d : Int} (hd : 0 < d) : (n.tmod d < 0 → n % d = n.tmod d + d) ∧ (¬ n.tmod d < 0 → n % d = n.tmod d) := by
  have h1 := Int.mul_tdiv_add_tmod n d
  have h2 := Int.tmod_lt_of_pos n hd
  have h3 := Int.lt_tmod_of_pos n hd
  have key : n % d = n.tmod d % d := by
    rw [← h1, Int.mul_add_emod_self_left, h1]
  constructor
  · intro hneg
    rw [key]
    have : n.tmod d % d = (n.tmod d + d) % d := by rw [Int.add_emod_right]
    rw [this, Int.emod_eq_of_lt (by omega) (by omega)]
  · intro hpos
    rw [key, Int.emod_eq_of_lt (by omega) (by omega)]
theorem tm_bd {n d : Int} (hd : 0 < d) : - d < n.tmod d ∧ n.tmod d < d := ⟨Int.lt_tmod_of_pos n hd, Int.tmod_lt_of_pos n hd⟩
theorem em_bd (n : Int) {d : Int} (hd : 0 < d) : 0 ≤ n % d ∧ n % d < d := ⟨Int.emod_nonneg n (by omega), Int.emod_lt_of_pos n hd⟩
set_option maxRecDepth 100000 in
set_option maxHeartbeats 4000000 in
theorem e_X8_rest {G : GX} {y : LY} {h : HM} {d : Nat} {n k : Int} (hn : R64 n) (hk : 0 < k ∧ R64 k) : EvL G mX8_rest (d) [.long (lZ n), .long (lZ k)] y h (n % k) := by
  have ht := tm_em (n := n) hk.1
  have hb := tm_bd (n := n) hk.1
  refine Ev.of rfl [some (.long (lZ n)), none, some (.long (lZ k)), none, none, none] rfl (Nat.le_of_ble_eq_true rfl) ?_
  refine g_lload_n dX8_rest_0 rfl rfl (g_lconst (v := 1) dX8_rest_1 rfl ?_)
  refine g_lcmp_ge 8 dX8_rest_2 dX8_rest_3 rfl (by omega) (by omega) (fun c2 => ?_) (fun c2 => absurd c2 (by omega))
  refine g_lload_n dX8_rest_8 rfl rfl (g_lload_n dX8_rest_9 rfl rfl (g_lrem dX8_rest_10 (by omega) (by omega) (by omega) (g_lst4 dX8_rest_11 (by decide) rfl (g_lload dX8_rest_13 rfl (g_lconst (v := 0) dX8_rest_15 rfl ?_)))))
  refine g_lcmp_ge 27 dX8_rest_16 dX8_rest_17 rfl (by omega) (by omega) (fun c16 => ?_) (fun c16 => ?_)
  · skip
    refine g_lload dX8_rest_27 rfl ?_
    exact g_lret dX8_rest_29 rfl rfl ⟨Nat.le_refl _, Nat.le_refl _⟩ (by exact ⟨someL (by omega), rfl⟩)
  · skip
    refine g_lload dX8_rest_20 rfl (g_lload_n dX8_rest_22 rfl rfl (g_ladd dX8_rest_23 (g_goto 29 dX8_rest_24 rfl ?_)))
    exact g_lret dX8_rest_29 rfl rfl ⟨Nat.le_refl _, Nat.le_refl _⟩ (by exact ⟨someL (by omega), rfl⟩)
theorem gcd_step {a b : Int} (ha : 0 < a) (hb : 0 < b) : Int.gcd b (a % b) = Int.gcd a b := by
  obtain ⟨n, rfl⟩ := Int.eq_ofNat_of_zero_le (Int.le_of_lt ha)
  obtain ⟨m, rfl⟩ := Int.eq_ofNat_of_zero_le (Int.le_of_lt hb)
  rw [show ((n : Int) % (m : Int)) = ((n % m : Nat) : Int) by simp]
  show Nat.gcd m (n % m) = Nat.gcd n m
  rw [Nat.gcd_comm m (n % m), ← Nat.gcd_rec, Nat.gcd_comm]
set_option maxRecDepth 100000 in
set_option maxHeartbeats 4000000 in
theorem e_X8_commonDivisor {G : GX} {y : LY} {h : HM} {d : Nat} {one other : Int} (h1 : 0 < one ∧ one < 4611686018427387904) (h2 : 0 < other ∧ other ≤ 181) : EvL G mX8_commonDivisor (d + 1) [.long (lZ one), .long (lZ other)] y h ((Int.gcd one other : Int)) := by
  refine Ev.of rfl [some (.long (lZ one)), none, some (.long (lZ other)), none, none, none, none, none, none, none, none] rfl (Nat.le_of_ble_eq_true rfl) ?_
  have L9 : ∀ (m : Nat) (a b i : Int), m = b.toNat → 0 < a → a < 4611686018427387904 → 0 ≤ b → b ≤ 181 → 0 ≤ i → i + b ≤ 181 → Int.gcd a b = Int.gcd one other → Go G mX8_commonDivisor (rmo (d + 1) 0 0) (ZM G y 0 0 (fun r h1 => r = some (.long (lZ ((Int.gcd one other : Int)))) ∧ h1 = h)) y 9 [some (.long (lZ one)), none, some (.long (lZ other)), none, some (.long (lZ a)), none, some (.long (lZ b)), none, some (.int (iZ i)), none, none] [] h (0, 0) := by
    intro m
    induction m using Nat.strongRecOn with | _ m ih =>
    intro a b i hm ha0 ha hb0 hb hi hib hg
    refine g_iload dX8_commonDivisor_9 rfl (g_sipush dX8_commonDivisor_11 ks200 ?_)
    refine g_icmp_ge 45 dX8_commonDivisor_14 rfl (by omega) (by omega) (fun c14 => ?_) (fun c14 => ?_)
    · skip
      refine g_lload dX8_commonDivisor_45 rfl (g_lconst (v := 1) dX8_commonDivisor_47 rfl (gm_X8_359 (M := mX8_commonDivisor) rfl dX8_commonDivisor_48 (RM.same _ _ _) (Nat.le_of_ble_eq_true rfl) (by omega) (by omega) ?_))
      exact g_lret dX8_commonDivisor_51 rfl rfl ⟨Nat.le_refl _, Nat.le_refl _⟩ (by exact ⟨someL (by rw [← hg, show b = 0 from (by omega), Int.gcd_zero_right, Int.natAbs_of_nonneg (by omega)]; omega), rfl⟩)
    · skip
      refine g_lload dX8_commonDivisor_17 rfl (g_lconst (v := 0) dX8_commonDivisor_19 rfl ?_)
      refine g_lcmp_le 45 dX8_commonDivisor_20 dX8_commonDivisor_21 rfl (by omega) (by omega) (fun c20 => ?_) (fun c20 => ?_)
      · skip
        refine g_lload dX8_commonDivisor_45 rfl (g_lconst (v := 1) dX8_commonDivisor_47 rfl (gm_X8_359 (M := mX8_commonDivisor) rfl dX8_commonDivisor_48 (RM.same _ _ _) (Nat.le_of_ble_eq_true rfl) (by omega) (by omega) ?_))
        exact g_lret dX8_commonDivisor_51 rfl rfl ⟨Nat.le_refl _, Nat.le_refl _⟩ (by exact ⟨someL (by rw [← hg, show b = 0 from (by omega), Int.gcd_zero_right, Int.natAbs_of_nonneg (by omega)]; omega), rfl⟩)
      · skip
        refine g_lload dX8_commonDivisor_24 rfl (g_lload dX8_commonDivisor_26 rfl (g_lremP dX8_commonDivisor_28 (by omega) (by omega) (g_lst9 dX8_commonDivisor_29 (by decide) rfl (g_lload dX8_commonDivisor_31 rfl (g_lst4 dX8_commonDivisor_33 (by decide) rfl (g_lload dX8_commonDivisor_35 rfl (g_lst6 dX8_commonDivisor_37 (by decide) rfl (g_inc8 dX8_commonDivisor_39 (by decide) rfl (g_goto 9 dX8_commonDivisor_42 rfl (g_dr9 ?_))))))))))
        have hbb := em_bd a (d := b) (by omega)
        exact ih _ (by omega) _ _ _ rfl (by omega) (by omega) (by omega) (by omega) (by omega) (by omega) ((gcd_step ha0 (by omega)).trans hg)
  refine g_lload_n dX8_commonDivisor_0 rfl rfl (g_lst4 dX8_commonDivisor_1 (by decide) rfl (g_lload_n dX8_commonDivisor_3 rfl rfl (g_lst6 dX8_commonDivisor_4 (by decide) rfl (g_iconst dX8_commonDivisor_6 (g_ist8 dX8_commonDivisor_7 (by decide) rfl ?_)))))
  exact L9 _ _ _ _ rfl (by omega) (by omega) (by omega) (by omega) (by omega) (by omega) rfl
theorem gcd_bd {a b : Int} (ha : 0 < a) (hb : 0 < b) : 0 < (Int.gcd a b : Int) ∧ (Int.gcd a b : Int) ≤ b := by
  have h1 : 0 < Int.gcd a b := Int.gcd_pos_of_ne_zero_left b (by omega)
  have h2 : (Int.gcd a b : Int) ∣ b := Int.gcd_dvd_right a b
  exact ⟨by omega, Int.le_of_dvd hb h2⟩
set_option maxRecDepth 100000 in
set_option maxHeartbeats 4000000 in
theorem e_X1_round {G : GX} {y : LY} {h : HM} {d : Nat} {a : Nat} (ho : IsO y a 1) (hb : R32 (h.I a 3)) : EvI G mX1_round (d) [.ref a] y h (rnd (h.I a 3) (h.I a 0)) := by
  refine Ev.of rfl [some (.ref a)] rfl (Nat.le_of_ble_eq_true rfl) ?_
  refine g_aload_n dX1_round_0 rfl rfl (gf_X1_21 (M := mX1_round) rfl dX1_round_1 ho ?_)
  refine g_if_le 21 dX1_round_4 rfl (by omega) (fun c4 => ?_) (fun c4 => ?_)
  · skip
    refine g_aload_n dX1_round_21 rfl rfl (gf_X1_9 (M := mX1_round) rfl dX1_round_22 ho ?_)
    exact g_iret dX1_round_25 rfl rfl ⟨Nat.le_refl _, Nat.le_refl _⟩ (by exact ⟨someI (by unfold rnd; repeat (split) <;> first | rfl | (exfalso; omega) | omega), rfl⟩)
  · skip
    refine g_aload_n dX1_round_7 rfl rfl (gf_X1_21 (M := mX1_round) rfl dX1_round_8 ho (g_aload_n dX1_round_11 rfl rfl (gf_X1_9 (M := mX1_round) rfl dX1_round_12 ho (g_imul dX1_round_15 (g_iconst dX1_round_16 (g_iadd dX1_round_17 (g_goto 25 dX1_round_18 rfl ?_)))))))
    exact g_iret dX1_round_25 rfl rfl ⟨Nat.le_refl _, Nat.le_refl _⟩ (by exact ⟨someI (by unfold rnd; repeat (split) <;> first | rfl | (exfalso; omega) | omega), rfl⟩)
set_option maxRecDepth 100000 in
set_option maxHeartbeats 4000000 in
theorem e_X1_kind {G : GX} {y : LY} {h : HM} {d : Nat} {a : Nat} (ho : IsO y a 1) (hb : R32 (h.I a 3)) (hg : R32 (h.I a 4)) : EvI G mX1_kind (d) [.ref a] y h (kndF (h.I a 3) (h.I a 4)) := by
  refine Ev.of rfl [some (.ref a)] rfl (Nat.le_of_ble_eq_true rfl) ?_
  refine g_aload_n dX1_kind_0 rfl rfl (gf_X1_21 (M := mX1_kind) rfl dX1_kind_1 ho ?_)
  refine g_if_le 11 dX1_kind_4 rfl (by omega) (fun c4 => ?_) (fun c4 => ?_)
  · skip
    refine g_iconst dX1_kind_11 (g_aload_n dX1_kind_12 rfl rfl (gf_X1_24 (M := mX1_kind) rfl dX1_kind_13 ho ?_))
    refine g_if_le 23 dX1_kind_16 rfl (by omega) (fun c16 => ?_) (fun c16 => ?_)
    · skip
      refine g_iconst dX1_kind_23 (g_iadd dX1_kind_24 ?_)
      exact g_iret dX1_kind_25 rfl rfl ⟨Nat.le_refl _, Nat.le_refl _⟩ (by exact ⟨someI (by unfold kndF; repeat (split) <;> first | rfl | (exfalso; omega) | omega), rfl⟩)
    · skip
      refine g_iconst dX1_kind_19 (g_goto 24 dX1_kind_20 rfl (g_iadd dX1_kind_24 ?_))
      exact g_iret dX1_kind_25 rfl rfl ⟨Nat.le_refl _, Nat.le_refl _⟩ (by exact ⟨someI (by unfold kndF; repeat (split) <;> first | rfl | (exfalso; omega) | omega), rfl⟩)
  · skip
    refine g_iconst dX1_kind_7 (g_goto 12 dX1_kind_8 rfl (g_aload_n dX1_kind_12 rfl rfl (gf_X1_24 (M := mX1_kind) rfl dX1_kind_13 ho ?_)))
    refine g_if_le 23 dX1_kind_16 rfl (by omega) (fun c16 => ?_) (fun c16 => ?_)
    · skip
      refine g_iconst dX1_kind_23 (g_iadd dX1_kind_24 ?_)
      exact g_iret dX1_kind_25 rfl rfl ⟨Nat.le_refl _, Nat.le_refl _⟩ (by exact ⟨someI (by unfold kndF; repeat (split) <;> first | rfl | (exfalso; omega) | omega), rfl⟩)
    · skip
      refine g_iconst dX1_kind_19 (g_goto 24 dX1_kind_20 rfl (g_iadd dX1_kind_24 ?_))
      exact g_iret dX1_kind_25 rfl rfl ⟨Nat.le_refl _, Nat.le_refl _⟩ (by exact ⟨someI (by unfold kndF; repeat (split) <;> first | rfl | (exfalso; omega) | omega), rfl⟩)
set_option maxRecDepth 100000 in
set_option maxHeartbeats 4000000 in
theorem e_X1_times {G : GX} {y : LY} {h : HM} {d : Nat} {a : Nat} (ho : IsO y a 1) (hb : R32 (h.I a 3)) (hg : R32 (h.I a 4)) : EvI G mX1_times (d + 1) [.ref a] y h (tms (h.I a 3) (h.I a 4)) := by
  refine Ev.of rfl [some (.ref a)] rfl (Nat.le_of_ble_eq_true rfl) ?_
  refine g_aload_n dX1_times_0 rfl rfl (gf_X1_21 (M := mX1_times) rfl dX1_times_1 ho (g_iconst dX1_times_4 (gm_X1_27 (M := mX1_times) rfl dX1_times_5 (RM.same _ _ _) (Nat.le_of_ble_eq_true rfl) (by omega) (by omega) (g_aload_n dX1_times_8 rfl rfl (gf_X1_24 (M := mX1_times) rfl dX1_times_9 ho ?_)))))
  refine g_if_le 19 dX1_times_12 rfl (by omega) (fun c12 => ?_) (fun c12 => ?_)
  · skip
    refine g_iconst dX1_times_19 (g_imul dX1_times_20 ?_)
    exact g_iret dX1_times_21 rfl rfl ⟨Nat.le_refl _, Nat.le_refl _⟩ (by exact ⟨someI (by unfold tms; repeat (split) <;> first | rfl | (exfalso; omega) | omega), rfl⟩)
  · skip
    refine g_iconst dX1_times_15 (g_goto 20 dX1_times_16 rfl (g_imul dX1_times_20 ?_))
    exact g_iret dX1_times_21 rfl rfl ⟨Nat.le_refl _, Nat.le_refl _⟩ (by exact ⟨someI (by unfold tms; repeat (split) <;> first | rfl | (exfalso; omega) | omega), rfl⟩)
set_option maxRecDepth 100000 in
set_option maxHeartbeats 4000000 in
theorem e_X1_offset {G : GX} {y : LY} {h : HM} {d : Nat} {a : Nat} {k : Int} (ho : IsO y a 1) (hg : R32 (h.I a 4)) (hk : 0 ≤ k ∧ k ≤ 5) : EvI G mX1_offset (d) [.ref a, .int (iZ k)] y h (ofs (h.I a 0) (h.I a 4) k) := by
  refine Ev.of rfl [some (.ref a), some (.int (iZ k))] rfl (Nat.le_of_ble_eq_true rfl) ?_
  refine g_aload_n dX1_offset_0 rfl rfl (gf_X1_24 (M := mX1_offset) rfl dX1_offset_1 ho ?_)
  refine g_if_le 27 dX1_offset_4 rfl (by omega) (fun c4 => ?_) (fun c4 => ?_)
  · skip
    refine g_iload_n dX1_offset_27 rfl rfl (g_aload_n dX1_offset_28 rfl rfl (gf_X1_9 (M := mX1_offset) rfl dX1_offset_29 ho (g_imul dX1_offset_32 ?_)))
    exact g_iret dX1_offset_33 rfl rfl ⟨Nat.le_refl _, Nat.le_refl _⟩ (by exact ⟨someI (by unfold ofs; repeat (split) <;> first | rfl | (exfalso; omega) | omega), rfl⟩)
  · skip
    refine g_iload_n dX1_offset_7 rfl rfl (g_iconst dX1_offset_8 (g_idivP dX1_offset_9 (by omega) (by omega) (g_aload_n dX1_offset_10 rfl rfl (gf_X1_9 (M := mX1_offset) rfl dX1_offset_11 ho (g_imul dX1_offset_14 (g_iload_n dX1_offset_15 rfl rfl (g_iconst dX1_offset_16 (g_iremP dX1_offset_17 (by omega) (by omega) (g_aload_n dX1_offset_18 rfl rfl (gf_X1_24 (M := mX1_offset) rfl dX1_offset_19 ho (g_imul dX1_offset_22 ?_)))))))))))
    refine g_iadd dX1_offset_23 (g_goto 33 dX1_offset_24 rfl ?_)
    exact g_iret dX1_offset_33 rfl rfl ⟨Nat.le_refl _, Nat.le_refl _⟩ (by exact ⟨someI (by unfold ofs; repeat (split) <;> first | rfl | (exfalso; omega) | omega), rfl⟩)
set_option maxRecDepth 100000 in
set_option maxHeartbeats 4000000 in
theorem e_X1_timeOf {G : GX} {y : LY} {h : HM} {d : Nat} {a : Nat} {k : Int} (ho : IsO y a 1) (hw : FW h a) (hs : 0 ≤ h.I a 1 ∧ h.I a 1 ≤ 60) (hk : 0 ≤ k ∧ k ≤ 5) : EvI G mX1_timeOf (d + 1) [.ref a, .int (iZ k)] y h (tmo (h.I a 0) (h.I a 1) (h.I a 3) (h.I a 4) k) := by
  have hr := rnd_bd (la := h.I a 3) (te := h.I a 0) (by omega)
  have hf := ofs_bd (te := h.I a 0) (ga := h.I a 4) (k := k) (by omega) hk
  refine Ev.of rfl [some (.ref a), some (.int (iZ k))] rfl (Nat.le_of_ble_eq_true rfl) ?_
  refine g_aload_n dX1_timeOf_0 rfl rfl (gf_X1_15 (M := mX1_timeOf) rfl dX1_timeOf_1 ho (g_aload_n dX1_timeOf_4 rfl rfl (g_iload_n dX1_timeOf_5 rfl rfl (cv_X1_33 (M := mX1_timeOf) rfl dX1_timeOf_6 ho (RO.same _ _ _) (Nat.le_of_ble_eq_true rfl) (e_X1_offset ho (by omega) (by omega)) <| kI (g_iadd dX1_timeOf_9 (g_i2l dX1_timeOf_10 (by omega) (g_aload_n dX1_timeOf_11 rfl rfl (cv_X1_37 (M := mX1_timeOf) rfl dX1_timeOf_12 ho (RO.same _ _ _) (Nat.le_of_ble_eq_true rfl) (e_X1_round ho (by omega)) <| kI (g_i2l dX1_timeOf_15 (by omega) (cv_X1_41 (M := mX1_timeOf) rfl dX1_timeOf_16 (RO.same _ _ _) (Nat.le_of_ble_eq_true rfl) (e_X8_rest (by omega) (by omega)) <| kL (g_l2i dX1_timeOf_19 ?_)))))))))))
  exact g_iret dX1_timeOf_20 rfl rfl ⟨Nat.le_refl _, Nat.le_refl _⟩ (by exact ⟨rfl, rfl⟩)
theorem tmo_bd {te st la ga k : Int} (h : 2 ≤ te ∧ te ≤ 60 ∧ 0 ≤ la ∧ la ≤ 3) : 0 ≤ tmo te st la ga k ∧ tmo te st la ga k ≤ 181 := by
  have hr := rnd_bd h
  have := em_bd (st + ofs te ga k) (d := rnd la te) (by omega)
  unfold tmo; omega
set_option maxRecDepth 100000 in
set_option maxHeartbeats 4000000 in
theorem e_X1_comesOut {G : GX} {y : LY} {h : HM} {d : Nat} {a : Nat} {t : Int} (ho : IsO y a 1) (hw : FW h a) (hs : 0 ≤ h.I a 1 ∧ h.I a 1 ≤ 60) (ht : 0 ≤ t ∧ t ≤ 2000000000000) : EvI G mX1_comesOut (d + 1) [.ref a, .long (lZ t)] y h (pI (Out (h.I a 0) (h.I a 1) (h.I a 3) (h.I a 4) t)) := by
  have hr := rnd_bd (la := h.I a 3) (te := h.I a 0) (by omega)
  have hm := mx_bd (la := h.I a 3) (te := h.I a 0) (by omega)
  have he := em_bd (t - h.I a 1) (d := rnd (h.I a 3) (h.I a 0)) (by omega)
  have he2 := em_bd ((t - h.I a 1) % rnd (h.I a 3) (h.I a 0)) (d := h.I a 0) (by omega)
  refine Ev.of rfl [some (.ref a), some (.long (lZ t)), none, none, none, none, none] rfl (Nat.le_of_ble_eq_true rfl) ?_
  refine g_lload_n dX1_comesOut_0 rfl rfl (g_aload_n dX1_comesOut_1 rfl rfl (gf_X1_15 (M := mX1_comesOut) rfl dX1_comesOut_2 ho (g_i2l dX1_comesOut_5 (by omega) (g_lsub dX1_comesOut_6 (g_aload_n dX1_comesOut_7 rfl rfl (cv_X1_37 (M := mX1_comesOut) rfl dX1_comesOut_8 ho (RO.same _ _ _) (Nat.le_of_ble_eq_true rfl) (e_X1_round ho (by omega)) <| kI (g_i2l dX1_comesOut_11 (by omega) (cv_X1_41 (M := mX1_comesOut) rfl dX1_comesOut_12 (RO.same _ _ _) (Nat.le_of_ble_eq_true rfl) (e_X8_rest (by omega) (by omega)) <| kL (g_lst3 dX1_comesOut_15 (by decide) rfl (g_lload_n dX1_comesOut_16 rfl rfl (g_aload_n dX1_comesOut_17 rfl rfl ?_)))))))))))
  refine gf_X1_21 (M := mX1_comesOut) rfl dX1_comesOut_18 ho (g_iconst dX1_comesOut_21 (gm_X1_27 (M := mX1_comesOut) rfl dX1_comesOut_22 (RM.same _ _ _) (Nat.le_of_ble_eq_true rfl) (by omega) (by omega) (g_i2l dX1_comesOut_25 (by omega) (g_aload_n dX1_comesOut_26 rfl rfl (gf_X1_9 (M := mX1_comesOut) rfl dX1_comesOut_27 ho (g_i2l dX1_comesOut_30 (by omega) (g_lmul dX1_comesOut_31 ?_)))))))
  refine g_lcmp_lt 38 dX1_comesOut_32 dX1_comesOut_33 rfl (by omega) (by omega) (fun c32 => ?_) (fun c32 => ?_)
  · skip
    refine g_lload_n dX1_comesOut_38 rfl rfl (g_aload_n dX1_comesOut_39 rfl rfl (gf_X1_9 (M := mX1_comesOut) rfl dX1_comesOut_40 ho (g_i2l dX1_comesOut_43 (by omega) (cv_X1_41 (M := mX1_comesOut) rfl dX1_comesOut_44 (RO.same _ _ _) (Nat.le_of_ble_eq_true rfl) (e_X8_rest (by omega) (by omega)) <| kL (g_lst5 dX1_comesOut_47 (by decide) rfl (g_lload dX1_comesOut_49 rfl (g_lconst (v := 0) dX1_comesOut_51 rfl ?_)))))))
    refine g_lcmp_eq 74 dX1_comesOut_52 dX1_comesOut_53 rfl (by omega) (by omega) (fun c52 => ?_) (fun c52 => ?_)
    · skip
      refine g_iconst dX1_comesOut_74 (g_goto 79 dX1_comesOut_75 rfl ?_)
      exact g_zret dX1_comesOut_79 rfl rfl ⟨Nat.le_refl _, Nat.le_refl _⟩ (by omega) (by first | exact ⟨someI (pI_t (by unfold Out; omega)).symm, rfl⟩ | exact ⟨someI (pI_f (by unfold Out; omega)).symm, rfl⟩)
    · skip
      refine g_aload_n dX1_comesOut_56 rfl rfl (gf_X1_24 (M := mX1_comesOut) rfl dX1_comesOut_57 ho ?_)
      refine g_if_le 78 dX1_comesOut_60 rfl (by omega) (fun c60 => ?_) (fun c60 => ?_)
      · skip
        refine g_iconst dX1_comesOut_78 ?_
        exact g_zret dX1_comesOut_79 rfl rfl ⟨Nat.le_refl _, Nat.le_refl _⟩ (by omega) (by first | exact ⟨someI (pI_t (by unfold Out; omega)).symm, rfl⟩ | exact ⟨someI (pI_f (by unfold Out; omega)).symm, rfl⟩)
      · skip
        refine g_lload dX1_comesOut_63 rfl (g_aload_n dX1_comesOut_65 rfl rfl (gf_X1_24 (M := mX1_comesOut) rfl dX1_comesOut_66 ho (g_i2l dX1_comesOut_69 (by omega) ?_)))
        refine g_lcmp_ne 78 dX1_comesOut_70 dX1_comesOut_71 rfl (by omega) (by omega) (fun c70 => ?_) (fun c70 => ?_)
        · skip
          refine g_iconst dX1_comesOut_78 ?_
          exact g_zret dX1_comesOut_79 rfl rfl ⟨Nat.le_refl _, Nat.le_refl _⟩ (by omega) (by first | exact ⟨someI (pI_t (by unfold Out; omega)).symm, rfl⟩ | exact ⟨someI (pI_f (by unfold Out; omega)).symm, rfl⟩)
        · skip
          refine g_iconst dX1_comesOut_74 (g_goto 79 dX1_comesOut_75 rfl ?_)
          exact g_zret dX1_comesOut_79 rfl rfl ⟨Nat.le_refl _, Nat.le_refl _⟩ (by omega) (by first | exact ⟨someI (pI_t (by unfold Out; omega)).symm, rfl⟩ | exact ⟨someI (pI_f (by unfold Out; omega)).symm, rfl⟩)
  · skip
    refine g_iconst dX1_comesOut_36 ?_
    exact g_zret dX1_comesOut_37 rfl rfl ⟨Nat.le_refl _, Nat.le_refl _⟩ (by omega) (by first | exact ⟨someI (pI_t (by unfold Out; omega)).symm, rfl⟩ | exact ⟨someI (pI_f (by unfold Out; omega)).symm, rfl⟩)
