set_option maxRecDepth 100000 in
set_option maxHeartbeats 1000000 in
theorem e_X8_addSightOf {G : GX} {y : LY} {h : HM} {d : Nat} (hY : Lay y) {k i : Int} (hk : 0 ≤ k ∧ k < 4) (hi : 0 ≤ i ∧ i + 3 ≤ 40) (hnf : 0 ≤ h.I 12 3 ∧ h.I 12 3 ≤ 6) (hns : 0 ≤ h.I 12 5 ∧ h.I 12 5 ≤ 12) (hw0 : R32 (h.I (143 + 2 * k.toNat) i.toNat)) (hw1 : R32 (h.I (143 + 2 * k.toNat) (i + 1).toNat)) (hw2 : R32 (h.I (143 + 2 * k.toNat) (i + 2).toNat)) : EvQX G mX8_addSightOf (d + 2) [.ref 9, .ref (142 + 2 * k.toNat), .int (iZ i)] y h (fun v h1 => (¬ (h.I (143 + 2 * k.toNat) (i + 2).toNat = 0 ∨ h.I (143 + 2 * k.toNat) (i + 2).toNat = 1) ∧ v = 0 ∧ h1 = h) ∨ ((h.I (143 + 2 * k.toNat) (i + 2).toNat = 0 ∨ h.I (143 + 2 * k.toNat) (i + 2).toNat = 1) ∧ ∃ z : Int, SeeP h (h.I (143 + 2 * k.toNat) i.toNat) (h.I (143 + 2 * k.toNat) (i + 1).toNat) (h.I (143 + 2 * k.toNat) (i + 2).toNat) z h1 ∧ v = if 0 < z then 1 else 0)) := by
  have hzw := pI_01 (h.I (143 + 2 * k.toNat) (i + 2).toNat = 0 ∨ h.I (143 + 2 * k.toNat) (i + 2).toNat = 1)
  have hyw := pI_eq1 (P := h.I (143 + 2 * k.toNat) (i + 2).toNat = 0 ∨ h.I (143 + 2 * k.toNat) (i + 2).toNat = 1)
  refine Ev.of rfl [some (.ref 9), some (.ref (142 + 2 * k.toNat)), some (.int (iZ i)), none] rfl (Nat.le_of_ble_eq_true rfl) ?_
  refine g_aload_n dX8_addSightOf_0 rfl rfl (gf_X8_340 (M := mX8_addSightOf) rfl dX8_addSightOf_1 (sh_o hY hk) (sh_rr hY hk) (g_iload_n dX8_addSightOf_4 rfl rfl (g_iconst dX8_addSightOf_5 (g_iadd dX8_addSightOf_6 (g_iald dX8_addSightOf_7 (sh_a hY hk) ⟨by omega, by omega, by omega⟩ (g_ist3 dX8_addSightOf_8 (by decide) rfl (g_iload_n dX8_addSightOf_9 rfl rfl (cv_X8_207 (M := mX8_addSightOf) rfl dX8_addSightOf_10 (RO.same _ _ _) (Nat.le_of_ble_eq_true rfl) (e_X8_isYesOrNo (by omega)) <| kI ?_))))))))
  refine g_if_eq 51 dX8_addSightOf_13 rfl (by omega) (fun c13 => ?_) (fun c13 => ?_)
  · skip
    refine g_iconst dX8_addSightOf_51 ?_
    exact g_zret dX8_addSightOf_52 rfl rfl ⟨Nat.le_refl _, Nat.le_refl _⟩ (by omega) (by first | exact ⟨0, rfl, Or.inl ⟨by omega, rfl, rfl⟩⟩ | (refine ⟨_, rfl, Or.inr ⟨by omega, v41, ?_, ?_⟩⟩; (first | (rw [show h.I (143 + 2 * k.toNat) (i + 2).toNat = 1 by omega]; exact hq41) | (rw [show h.I (143 + 2 * k.toNat) (i + 2).toNat = 0 by omega]; exact hq41)); first | rw [if_pos (by omega)] | rw [if_neg (by omega)]))
  · skip
    refine g_aload_n dX8_addSightOf_16 rfl rfl (g_aload_n dX8_addSightOf_17 rfl rfl (gf_X8_340 (M := mX8_addSightOf) rfl dX8_addSightOf_18 (sh_o hY hk) (sh_rr hY hk) (g_iload_n dX8_addSightOf_21 rfl rfl (g_iald dX8_addSightOf_22 (sh_a hY hk) ⟨by omega, by omega, by omega⟩ (g_aload_n dX8_addSightOf_23 rfl rfl (gf_X8_340 (M := mX8_addSightOf) rfl dX8_addSightOf_24 (sh_o hY hk) (sh_rr hY hk) (g_iload_n dX8_addSightOf_27 rfl rfl (g_iconst dX8_addSightOf_28 (g_iadd dX8_addSightOf_29 (g_iald dX8_addSightOf_30 (sh_a hY hk) ⟨by omega, by omega, by omega⟩ (g_iload_n dX8_addSightOf_31 rfl rfl ?_)))))))))))
    refine g_iconst dX8_addSightOf_32 ?_
    refine g_icmp_ne 40 dX8_addSightOf_33 rfl (by omega) (by omega) (fun c33 => ?_) (fun c33 => ?_)
    · skip
      refine g_iconst dX8_addSightOf_40 ?_
      refine cv_X8_270 (M := mX8_addSightOf) rfl dX8_addSightOf_41 (yo9 hY) (RO.same _ _ _) (Nat.le_of_ble_eq_true rfl) (e_X8_addSight hY (by omega) (by omega) (by omega) (by omega) (by omega)) (kQX fun v41 h41 hq41 => ?_)
      have hzb : -3 ≤ v41 ∧ v41 ≤ 13 := (by rcases hq41 with ⟨_, z, _⟩ | ⟨_, ⟨_, z, _⟩ | ⟨_, z, _⟩⟩ <;> omega)
      refine g_if_le 51 dX8_addSightOf_44 rfl (by omega) (fun c44 => ?_) (fun c44 => ?_)
      · skip
        refine g_iconst dX8_addSightOf_51 ?_
        exact g_zret dX8_addSightOf_52 rfl rfl ⟨Nat.le_refl _, Nat.le_refl _⟩ (by omega) (by first | exact ⟨0, rfl, Or.inl ⟨by omega, rfl, rfl⟩⟩ | (refine ⟨_, rfl, Or.inr ⟨by omega, v41, ?_, ?_⟩⟩; (first | (rw [show h.I (143 + 2 * k.toNat) (i + 2).toNat = 1 by omega]; exact hq41) | (rw [show h.I (143 + 2 * k.toNat) (i + 2).toNat = 0 by omega]; exact hq41)); first | rw [if_pos (by omega)] | rw [if_neg (by omega)]))
      · skip
        refine g_iconst dX8_addSightOf_47 (g_goto 52 dX8_addSightOf_48 rfl ?_)
        exact g_zret dX8_addSightOf_52 rfl rfl ⟨Nat.le_refl _, Nat.le_refl _⟩ (by omega) (by first | exact ⟨0, rfl, Or.inl ⟨by omega, rfl, rfl⟩⟩ | (refine ⟨_, rfl, Or.inr ⟨by omega, v41, ?_, ?_⟩⟩; (first | (rw [show h.I (143 + 2 * k.toNat) (i + 2).toNat = 1 by omega]; exact hq41) | (rw [show h.I (143 + 2 * k.toNat) (i + 2).toNat = 0 by omega]; exact hq41)); first | rw [if_pos (by omega)] | rw [if_neg (by omega)]))
    · skip
      refine g_iconst dX8_addSightOf_36 (g_goto 41 dX8_addSightOf_37 rfl ?_)
      refine cv_X8_270 (M := mX8_addSightOf) rfl dX8_addSightOf_41 (yo9 hY) (RO.same _ _ _) (Nat.le_of_ble_eq_true rfl) (e_X8_addSight hY (by omega) (by omega) (by omega) (by omega) (by omega)) (kQX fun v41 h41 hq41 => ?_)
      have hzb : -3 ≤ v41 ∧ v41 ≤ 13 := (by rcases hq41 with ⟨_, z, _⟩ | ⟨_, ⟨_, z, _⟩ | ⟨_, z, _⟩⟩ <;> omega)
      refine g_if_le 51 dX8_addSightOf_44 rfl (by omega) (fun c44 => ?_) (fun c44 => ?_)
      · skip
        refine g_iconst dX8_addSightOf_51 ?_
        exact g_zret dX8_addSightOf_52 rfl rfl ⟨Nat.le_refl _, Nat.le_refl _⟩ (by omega) (by first | exact ⟨0, rfl, Or.inl ⟨by omega, rfl, rfl⟩⟩ | (refine ⟨_, rfl, Or.inr ⟨by omega, v41, ?_, ?_⟩⟩; (first | (rw [show h.I (143 + 2 * k.toNat) (i + 2).toNat = 1 by omega]; exact hq41) | (rw [show h.I (143 + 2 * k.toNat) (i + 2).toNat = 0 by omega]; exact hq41)); first | rw [if_pos (by omega)] | rw [if_neg (by omega)]))
      · skip
        refine g_iconst dX8_addSightOf_47 (g_goto 52 dX8_addSightOf_48 rfl ?_)
        exact g_zret dX8_addSightOf_52 rfl rfl ⟨Nat.le_refl _, Nat.le_refl _⟩ (by omega) (by first | exact ⟨0, rfl, Or.inl ⟨by omega, rfl, rfl⟩⟩ | (refine ⟨_, rfl, Or.inr ⟨by omega, v41, ?_, ?_⟩⟩; (first | (rw [show h.I (143 + 2 * k.toNat) (i + 2).toNat = 1 by omega]; exact hq41) | (rw [show h.I (143 + 2 * k.toNat) (i + 2).toNat = 0 by omega]; exact hq41)); first | rw [if_pos (by omega)] | rw [if_neg (by omega)]))
