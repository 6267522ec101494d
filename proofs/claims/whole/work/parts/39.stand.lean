/-- the first door of least fright -/
def StandP (c : Nat → Int) (v : Int) : Prop := (0 ≤ v ∧ v < 9) ∧ (∀ q : Nat, q < 9 → c v.toNat ≤ c q) ∧ ∀ q : Nat, (q : Int) < v → c v.toNat < c q
set_option maxRecDepth 100000 in
set_option maxHeartbeats 1000000 in
theorem e_X8_fright {G : GX} {y : LY} {h : HM} {d : Nat} (hY : Lay y) {p t n : Int} (hp : R32 p) (ht : R64 t) (hn : R32 n) (hC : CF h 12) (h6 : R32 (h.I 12 6)) (h7 : R32 (h.I 12 7)) (h8 : R32 (h.I 12 8)) (h9 : 0 ≤ h.I 12 9 ∧ h.I 12 9 ≤ 3) : EvQX G mX8_fright (d + 4) [.ref 9, .int (iZ p), .long (lZ t), .int (iZ n)] y h (fun v h1 => Fr85 h h1 ∧ ((¬ ((0 ≤ p ∧ p ≤ 8) ∧ (0 ≤ t ∧ t ≤ 1000000000000) ∧ (1 ≤ n ∧ n ≤ 400)) ∧ v = -1) ∨ (((0 ≤ p ∧ p ≤ 8) ∧ (0 ≤ t ∧ t ≤ 1000000000000) ∧ (1 ≤ n ∧ n ≤ 400)) ∧ v = cntN (FrgP h p.toNat) t n.toNat))) := by
  have hzp := pI_01 (0 ≤ p ∧ p ≤ 8)
  have hyp := pI_eq1 (P := 0 ≤ p ∧ p ≤ 8)
  have hzt := pI_01 (0 ≤ t ∧ t ≤ 1000000000000)
  have hyt := pI_eq1 (P := 0 ≤ t ∧ t ≤ 1000000000000)
  have hzn := pI_01 (1 ≤ n ∧ n ≤ 400)
  have hyn := pI_eq1 (P := 1 ≤ n ∧ n ≤ 400)
  refine Ev.of rfl [some (.ref 9), some (.int (iZ p)), some (.long (lZ t)), none, some (.int (iZ n))] rfl (Nat.le_of_ble_eq_true rfl) ?_
  refine g_iload_n dX8_fright_0 rfl rfl (cv_X8_232 (M := mX8_fright) rfl dX8_fright_1 (RO.same _ _ _) (Nat.le_of_ble_eq_true rfl) (e_X8_isDoor (by omega)) <| kI ?_)
  refine g_if_eq 22 dX8_fright_4 rfl (by omega) (fun c4 => ?_) (fun c4 => ?_)
  · skip
    refine g_iconst dX8_fright_22 ?_
    exact g_iret dX8_fright_23 rfl rfl ⟨Nat.le_refl _, Nat.le_refl _⟩ (by first | exact ⟨-1, rfl, fun _ _ => ⟨rfl, rfl⟩, Or.inl ⟨by omega, rfl⟩⟩ | exact ⟨_, rfl, hq28.1, Or.inr ⟨by omega, hq28.2 p.toNat (by omega)⟩⟩)
  · skip
    refine g_lload_n dX8_fright_7 rfl rfl (cv_X8_160 (M := mX8_fright) rfl dX8_fright_8 (RO.same _ _ _) (Nat.le_of_ble_eq_true rfl) (e_X8_isDay (by omega)) <| kI ?_)
    refine g_if_eq 22 dX8_fright_11 rfl (by omega) (fun c11 => ?_) (fun c11 => ?_)
    · skip
      refine g_iconst dX8_fright_22 ?_
      exact g_iret dX8_fright_23 rfl rfl ⟨Nat.le_refl _, Nat.le_refl _⟩ (by first | exact ⟨-1, rfl, fun _ _ => ⟨rfl, rfl⟩, Or.inl ⟨by omega, rfl⟩⟩ | exact ⟨_, rfl, hq28.1, Or.inr ⟨by omega, hq28.2 p.toNat (by omega)⟩⟩)
    · skip
      refine g_iload dX8_fright_14 rfl (cv_X8_226 (M := mX8_fright) rfl dX8_fright_16 (RO.same _ _ _) (Nat.le_of_ble_eq_true rfl) (e_X8_isDayCount (by omega)) <| kI ?_)
      refine g_if_ne 24 dX8_fright_19 rfl (by omega) (fun c19 => ?_) (fun c19 => ?_)
      · skip
        refine g_aload_n dX8_fright_24 rfl rfl (g_lload_n dX8_fright_25 rfl rfl (g_iload dX8_fright_26 rfl ?_))
        refine cv_X8_292 (M := mX8_fright) rfl dX8_fright_28 (yo9 hY) (RO.same _ _ _) (Nat.le_of_ble_eq_true rfl) (e_X8_countFrights hY (by omega) (by omega) hC h6 h7 h8 h9) (kQV fun h28 hq28 => ?_)
        refine g_aload_n dX8_fright_31 rfl rfl (gf_X8_61 (M := mX8_fright) rfl dX8_fright_32 (yo9 hY) (yr9_10 hY) (g_iload_n dX8_fright_35 rfl rfl (g_iald dX8_fright_36 (ya85 hY) ⟨by omega, by omega, by omega⟩ ?_)))
        exact g_iret dX8_fright_37 rfl rfl ⟨Nat.le_refl _, Nat.le_refl _⟩ (by first | exact ⟨-1, rfl, fun _ _ => ⟨rfl, rfl⟩, Or.inl ⟨by omega, rfl⟩⟩ | exact ⟨_, rfl, hq28.1, Or.inr ⟨by omega, hq28.2 p.toNat (by omega)⟩⟩)
      · skip
        refine g_iconst dX8_fright_22 ?_
        exact g_iret dX8_fright_23 rfl rfl ⟨Nat.le_refl _, Nat.le_refl _⟩ (by first | exact ⟨-1, rfl, fun _ _ => ⟨rfl, rfl⟩, Or.inl ⟨by omega, rfl⟩⟩ | exact ⟨_, rfl, hq28.1, Or.inr ⟨by omega, hq28.2 p.toNat (by omega)⟩⟩)
set_option maxRecDepth 100000 in
set_option maxHeartbeats 1000000 in
theorem e_X8_stand {G : GX} {y : LY} {h : HM} {d : Nat} (hY : Lay y) {t n : Int} (ht : R64 t) (hn : R32 n) (hC : CF h 12) (h6 : R32 (h.I 12 6)) (h7 : R32 (h.I 12 7)) (h8 : R32 (h.I 12 8)) (h9 : 0 ≤ h.I 12 9 ∧ h.I 12 9 ≤ 3) : EvQX G mX8_stand (d + 4) [.ref 9, .long (lZ t), .int (iZ n)] y h (fun v h1 => Fr85 h h1 ∧ ((¬ ((0 ≤ t ∧ t ≤ 1000000000000) ∧ (1 ≤ n ∧ n ≤ 400)) ∧ v = -1) ∨ (((0 ≤ t ∧ t ≤ 1000000000000) ∧ (1 ≤ n ∧ n ≤ 400)) ∧ StandP (fun q => cntN (FrgP h q) t n.toNat) v))) := by
  have hzt := pI_01 (0 ≤ t ∧ t ≤ 1000000000000)
  have hyt := pI_eq1 (P := 0 ≤ t ∧ t ≤ 1000000000000)
  have hzn := pI_01 (1 ≤ n ∧ n ≤ 400)
  have hyn := pI_eq1 (P := 1 ≤ n ∧ n ≤ 400)
  refine Ev.of rfl [some (.ref 9), some (.long (lZ t)), none, some (.int (iZ n)), none, none] rfl (Nat.le_of_ble_eq_true rfl) ?_
  have L28 : ∀ (m : Nat) (h1 : HM) (p b : Int), (m : Int) = 9 - p → (0 ≤ t ∧ t ≤ 1000000000000) ∧ (1 ≤ n ∧ n ≤ 400) → 0 ≤ b ∧ b < p ∧ p ≤ 9 → Fr85 h h1 → (∀ q : Nat, q < 9 → h1.I 85 q = cntN (FrgP h q) t n.toNat) → (∀ q : Nat, (q : Int) < p → h1.I 85 b.toNat ≤ h1.I 85 q) → (∀ q : Nat, (q : Int) < b → h1.I 85 b.toNat < h1.I 85 q) → Go G mX8_stand (rmo (d + 4) 0 0) (ZM G y 0 0 (fun r h1 => ∃ v_ : Int, r = some (.int (iZ v_)) ∧ (fun v h1 => Fr85 h h1 ∧ ((¬ ((0 ≤ t ∧ t ≤ 1000000000000) ∧ (1 ≤ n ∧ n ≤ 400)) ∧ v = -1) ∨ (((0 ≤ t ∧ t ≤ 1000000000000) ∧ (1 ≤ n ∧ n ≤ 400)) ∧ StandP (fun q => cntN (FrgP h q) t n.toNat) v))) v_ h1)) y 28 [some (.ref 9), some (.long (lZ t)), none, some (.int (iZ n)), some (.int (iZ b)), some (.int (iZ p))] [] h1 (0, 0) := by
    intro m
    induction m using Nat.strongRecOn with | _ m ih =>
    intro h1 p b hm hok hp hfr hV hA hB
    have hb1 : R32 (h1.I 85 b.toNat) := by have := cntN_bd (P := FrgP h b.toNat) (lo := t) n.toNat; rw [hV b.toNat (by omega)]; omega
    have hb2 : p < 9 → R32 (h1.I 85 p.toNat) := fun z => by have := cntN_bd (P := FrgP h p.toNat) (lo := t) n.toNat; rw [hV p.toNat (by omega)]; omega
    refine g_iload dX8_stand_28 rfl (g_aload_n dX8_stand_30 rfl rfl (gf_X8_61 (M := mX8_stand) rfl dX8_stand_31 (yo9 hY) (yr9_10 hY) (g_alen dX8_stand_34 (ya85 hY) (by decide) rfl ?_)))
    refine g_icmp_ge 65 dX8_stand_35 rfl (by omega) (by omega) (fun c35 => ?_) (fun c35 => ?_)
    · skip
      refine g_iload dX8_stand_65 rfl ?_
      exact g_iret dX8_stand_67 rfl rfl ⟨Nat.le_refl _, Nat.le_refl _⟩ (by refine ⟨b, rfl, hfr, Or.inr ⟨hok, by omega, fun q q9 => ?_, fun q q9 => ?_⟩⟩; (have := hA q (by omega); rw [hV q q9, hV b.toNat (by omega)] at this; exact this); (have := hB q q9; rw [hV q (by omega), hV b.toNat (by omega)] at this; exact this))
    · skip
      have hb3 := hb2 (by omega)
      refine g_aload_n dX8_stand_38 rfl rfl (gf_X8_61 (M := mX8_stand) rfl dX8_stand_39 (yo9 hY) (yr9_10 hY) (g_iload dX8_stand_42 rfl (g_iald dX8_stand_44 (ya85 hY) ⟨by omega, by omega, by omega⟩ (g_aload_n dX8_stand_45 rfl rfl (gf_X8_61 (M := mX8_stand) rfl dX8_stand_46 (yo9 hY) (yr9_10 hY) (g_iload dX8_stand_49 rfl (g_iald dX8_stand_51 (ya85 hY) ⟨by omega, by omega, by omega⟩ ?_)))))))
      refine g_icmp_ge 59 dX8_stand_52 rfl (by omega) (by omega) (fun c52 => ?_) (fun c52 => ?_)
      · skip
        refine g_inc5 dX8_stand_59 (by decide) rfl (g_goto 28 dX8_stand_62 rfl ?_)
        first
        | exact ih (m - 1) (by omega) h1 (p + 1) p (by omega) hok (by omega) hfr hV (fun q q0 => by rcases (by omega : (q : Int) < p ∨ q = p.toNat) with z | rfl; (have := hA q z; omega); exact Int.le_refl _) (fun q q0 => by have := hA q q0; omega)
        | exact ih (m - 1) (by omega) h1 (p + 1) b (by omega) hok (by omega) hfr hV (fun q q0 => by rcases (by omega : (q : Int) < p ∨ q = p.toNat) with z | rfl; exact hA q z; omega) hB
      · skip
        refine g_iload dX8_stand_55 rfl (g_ist4 dX8_stand_57 (by decide) rfl (g_inc5 dX8_stand_59 (by decide) rfl (g_goto 28 dX8_stand_62 rfl ?_)))
        first
        | exact ih (m - 1) (by omega) h1 (p + 1) p (by omega) hok (by omega) hfr hV (fun q q0 => by rcases (by omega : (q : Int) < p ∨ q = p.toNat) with z | rfl; (have := hA q z; omega); exact Int.le_refl _) (fun q q0 => by have := hA q q0; omega)
        | exact ih (m - 1) (by omega) h1 (p + 1) b (by omega) hok (by omega) hfr hV (fun q q0 => by rcases (by omega : (q : Int) < p ∨ q = p.toNat) with z | rfl; exact hA q z; omega) hB
  refine g_lload_n dX8_stand_0 rfl rfl (cv_X8_160 (M := mX8_stand) rfl dX8_stand_1 (RO.same _ _ _) (Nat.le_of_ble_eq_true rfl) (e_X8_isDay (by omega)) <| kI ?_)
  refine g_if_eq 14 dX8_stand_4 rfl (by omega) (fun c4 => ?_) (fun c4 => ?_)
  · skip
    refine g_iconst dX8_stand_14 ?_
    exact g_iret dX8_stand_15 rfl rfl ⟨Nat.le_refl _, Nat.le_refl _⟩ (by exact ⟨-1, rfl, fun _ _ => ⟨rfl, rfl⟩, Or.inl ⟨by omega, rfl⟩⟩)
  · skip
    refine g_iload_n dX8_stand_7 rfl rfl (cv_X8_226 (M := mX8_stand) rfl dX8_stand_8 (RO.same _ _ _) (Nat.le_of_ble_eq_true rfl) (e_X8_isDayCount (by omega)) <| kI ?_)
    refine g_if_ne 16 dX8_stand_11 rfl (by omega) (fun c11 => ?_) (fun c11 => ?_)
    · skip
      refine g_aload_n dX8_stand_16 rfl rfl (g_lload_n dX8_stand_17 rfl rfl (g_iload_n dX8_stand_18 rfl rfl ?_))
      refine cv_X8_292 (M := mX8_stand) rfl dX8_stand_19 (yo9 hY) (RO.same _ _ _) (Nat.le_of_ble_eq_true rfl) (e_X8_countFrights hY (by omega) (by omega) hC h6 h7 h8 h9) (kQV fun h19 hq19 => ?_)
      refine g_iconst dX8_stand_22 (g_ist4 dX8_stand_23 (by decide) rfl (g_iconst dX8_stand_25 (g_ist5 dX8_stand_26 (by decide) rfl ?_)))
      exact L28 8 _ 1 0 (by omega) (by omega) (by omega) hq19.1 hq19.2 (fun q q0 => by obtain rfl : q = 0 := (by omega); exact Int.le_refl _) (fun q q0 => by omega)
    · skip
      refine g_iconst dX8_stand_14 ?_
      exact g_iret dX8_stand_15 rfl rfl ⟨Nat.le_refl _, Nat.le_refl _⟩ (by exact ⟨-1, rfl, fun _ _ => ⟨rfl, rfl⟩, Or.inl ⟨by omega, rfl⟩⟩)
