theorem someI {a b : Int} (h : a = b) : some (Value.int (iZ a)) = some (.int (iZ b)) := by rw [h]
theorem someL {a b : Int} (h : a = b) : some (Value.long (lZ a)) = some (.long (lZ b)) := by rw [h]
def rnd (la te : Int) : Int := if 0 < la then la * te + 1 else te
def kndF (la ga : Int) : Int := (if 0 < la then 1 else 0) + (if 0 < ga then 2 else 0)
def tms (la ga : Int) : Int := (if 0 < la then la else 1) * (if 0 < ga then 2 else 1)
def ofs (te ga k : Int) : Int := if 0 < ga then k / 2 * te + k % 2 * ga else k * te
set_option maxRecDepth 100000 in
set_option maxHeartbeats 4000000 in
theorem e_X1_round {G : GX} {y : LY} {h : HM} {d : Nat} {a : Nat} (ho : IsO y a 1) (hb : R32 (h.I a 3)) : EvI G mX1_round d [.ref a] y h (rnd (h.I a 3) (h.I a 0)) := by
  refine Ev.of rfl [some (.ref a)] rfl (Nat.le_of_ble_eq_true rfl) ?_
  refine g_aload_n dX1_round_0 rfl rfl (gf_X1_21 (M := mX1_round) rfl dX1_round_1 ho ?_)
  refine g_if_le 21 dX1_round_4 rfl (by omega) (fun c4 => ?_) (fun c4 => ?_)
  · skip
    refine g_aload_n dX1_round_21 rfl rfl (gf_X1_9 (M := mX1_round) rfl dX1_round_22 ho ?_)
    exact g_iret dX1_round_25 rfl rfl ⟨Nat.le_refl _, Nat.le_refl _⟩ (by exact ⟨someI (by unfold rnd; repeat (split) <;> first | rfl | (exfalso; omega) | omega), rfl⟩)
  · skip
    refine g_aload_n dX1_round_7 rfl rfl (gf_X1_21 (M := mX1_round) rfl dX1_round_8 ho (g_aload_n dX1_round_11 rfl rfl (gf_X1_9 (M := mX1_round) rfl dX1_round_12 ho (g_imul dX1_round_15 (g_iconst dX1_round_16 (g_iadd dX1_round_17 (g_goto 25 dX1_round_18 rfl ?_)))))))
    exact g_iret dX1_round_25 rfl rfl ⟨Nat.le_refl _, Nat.le_refl _⟩ (by exact ⟨someI (by unfold rnd; repeat (split) <;> first | rfl | (exfalso; omega) | omega), rfl⟩)
set_option maxRecDepth 100000 in
set_option maxHeartbeats 4000000 in
theorem e_X1_kind {G : GX} {y : LY} {h : HM} {d : Nat} {a : Nat} (ho : IsO y a 1) (hb : R32 (h.I a 3)) (hg : R32 (h.I a 4)) : EvI G mX1_kind d [.ref a] y h (kndF (h.I a 3) (h.I a 4)) := by
  refine Ev.of rfl [some (.ref a)] rfl (Nat.le_of_ble_eq_true rfl) ?_
  refine g_aload_n dX1_kind_0 rfl rfl (gf_X1_21 (M := mX1_kind) rfl dX1_kind_1 ho ?_)
  refine g_if_le 11 dX1_kind_4 rfl (by omega) (fun c4 => ?_) (fun c4 => ?_)
  · skip
    refine g_iconst dX1_kind_11 (g_aload_n dX1_kind_12 rfl rfl (gf_X1_24 (M := mX1_kind) rfl dX1_kind_13 ho ?_))
    refine g_if_le 23 dX1_kind_16 rfl (by omega) (fun c16 => ?_) (fun c16 => ?_)
    · skip
      refine g_iconst dX1_kind_23 (g_iadd dX1_kind_24 ?_)
      exact g_iret dX1_kind_25 rfl rfl ⟨Nat.le_refl _, Nat.le_refl _⟩ (by exact ⟨someI (by unfold kndF; repeat (split) <;> first | rfl | (exfalso; omega) | omega), rfl⟩)
    · skip
      refine g_iconst dX1_kind_19 (g_goto 24 dX1_kind_20 rfl (g_iadd dX1_kind_24 ?_))
      exact g_iret dX1_kind_25 rfl rfl ⟨Nat.le_refl _, Nat.le_refl _⟩ (by exact ⟨someI (by unfold kndF; repeat (split) <;> first | rfl | (exfalso; omega) | omega), rfl⟩)
  · skip
    refine g_iconst dX1_kind_7 (g_goto 12 dX1_kind_8 rfl (g_aload_n dX1_kind_12 rfl rfl (gf_X1_24 (M := mX1_kind) rfl dX1_kind_13 ho ?_)))
    refine g_if_le 23 dX1_kind_16 rfl (by omega) (fun c16 => ?_) (fun c16 => ?_)
    · skip
      refine g_iconst dX1_kind_23 (g_iadd dX1_kind_24 ?_)
      exact g_iret dX1_kind_25 rfl rfl ⟨Nat.le_refl _, Nat.le_refl _⟩ (by exact ⟨someI (by unfold kndF; repeat (split) <;> first | rfl | (exfalso; omega) | omega), rfl⟩)
    · skip
      refine g_iconst dX1_kind_19 (g_goto 24 dX1_kind_20 rfl (g_iadd dX1_kind_24 ?_))
      exact g_iret dX1_kind_25 rfl rfl ⟨Nat.le_refl _, Nat.le_refl _⟩ (by exact ⟨someI (by unfold kndF; repeat (split) <;> first | rfl | (exfalso; omega) | omega), rfl⟩)
