theorem g_h {G : GX} {M : MI} {R : Room} {Z : ZT} {y : LY} {pc : Nat} {ls : List (Option Value)} {st : List Value} {h h1 : HM} {cs : Nat × Nat} (e : h = h1) (k : Go G M R Z y pc ls st h1 cs) : Go G M R Z y pc ls st h cs := e ▸ k
abbrev Fg : Type := Int × Int × Int × Int × Int
def Fg.te (F : Fg) : Int := F.1
def Fg.st (F : Fg) : Int := F.2.1
def Fg.dr (F : Fg) : Int := F.2.2.1
def Fg.la (F : Fg) : Int := F.2.2.2.1
def Fg.ga (F : Fg) : Int := F.2.2.2.2
/-- five fields read, and written -/
def c5 (h : HM) (a : Nat) : Fg := (h.I a 0, h.I a 1, h.I a 2, h.I a 3, h.I a 4)
def wr5 (h : HM) (a : Nat) (F : Fg) : HM := ((((h.sI a 0 F.1).sI a 1 F.2.1).sI a 2 F.2.2.1).sI a 3 F.2.2.2.1).sI a 4 F.2.2.2.2
theorem wr5_I (h : HM) (a : Nat) (F : Fg) (b j : Nat) (hn : b ≠ a ∨ 5 ≤ j) : (wr5 h a F).I b j = h.I b j := by
  unfold wr5; simp only [sI_I]
  rcases hn with hn | hn
  · simp [hn]
  · simp [show j ≠ 0 by omega, show j ≠ 1 by omega, show j ≠ 2 by omega, show j ≠ 3 by omega, show j ≠ 4 by omega]
theorem wr5_L (h : HM) (a : Nat) (F : Fg) : (wr5 h a F).L = h.L := rfl
theorem c5_wr5 (h : HM) (a : Nat) (F : Fg) : c5 (wr5 h a F) a = F := by
  obtain ⟨p, q, r, s, t⟩ := F
  simp [c5, wr5, sI_I]
theorem c5_wr5n (h : HM) {a b : Nat} (F : Fg) (hn : b ≠ a) : c5 (wr5 h a F) b = c5 h b := by
  simp [c5, wr5_I h a F b _ (Or.inl hn)]
/-- an array's contents, at once -/
def HM.sA (h : HM) (a : Nat) (f : Nat → Int) : HM := (fun x j => if x = a then f j else h.1 x j, h.2)
theorem sA_I (h : HM) (a : Nat) (f : Nat → Int) (b j : Nat) : (h.sA a f).I b j = if b = a then f j else h.I b j := rfl
theorem sA_L (h : HM) (a : Nat) (f : Nat → Int) : (h.sA a f).L = h.L := rfl
theorem sA_self (h : HM) (a : Nat) : h.sA a (h.I a) = h := by
  unfold HM.sA HM.I
  ext1
  · funext x j; by_cases hx : x = a <;> simp [hx]
  · rfl
theorem sA_sI (h : HM) (a k : Nat) (f : Nat → Int) (v : Int) : (h.sA a f).sI a k v = h.sA a (fun j => if j = k then v else f j) := by
  unfold HM.sA HM.sI up2
  ext1
  · funext x j; by_cases hx : x = a <;> by_cases hj : j = k <;> simp [hx, hj]
  · rfl
theorem sA_congr (h : HM) (a : Nat) {f g : Nat → Int} (e : ∀ j, f j = g j) : h.sA a f = h.sA a g := by rw [show f = g from funext e]
theorem iShl1 : ∀ k : Nat, k < 31 → iShl 1 k = 2 ^ k := by decide +kernel
theorem iShl1' {k : Int} (h : 0 ≤ k ∧ k ≤ 30) : iShl 1 k = 2 ^ k.toNat := by
  have := iShl1 k.toNat (by omega)
  rwa [show ((k.toNat : Nat) : Int) = k by omega] at this
set_option maxRecDepth 100000 in
set_option maxHeartbeats 4000000 in
theorem e_X8_isDay {G : GX} {y : LY} {h : HM} {d : Nat} {t : Int} (ht : R64 t) : EvI G mX8_isDay (d) [.long (lZ t)] y h (pI (0 ≤ t ∧ t ≤ 1000000000000)) := by
  refine Ev.of rfl [some (.long (lZ t)), none] rfl (Nat.le_of_ble_eq_true rfl) ?_
  refine g_lload_n dX8_isDay_0 rfl rfl (g_lconst (v := 0) dX8_isDay_1 rfl ?_)
  refine g_lcmp_lt 18 dX8_isDay_2 dX8_isDay_3 rfl (by omega) (by omega) (fun c2 => ?_) (fun c2 => ?_)
  · skip
    refine g_iconst dX8_isDay_18 ?_
    exact g_zret dX8_isDay_19 rfl rfl ⟨Nat.le_refl _, Nat.le_refl _⟩ (by omega) (by first | exact ⟨someI (pI_t (by omega)).symm, rfl⟩ | exact ⟨someI (pI_f (by omega)).symm, rfl⟩)
  · skip
    refine g_lload_n dX8_isDay_6 rfl rfl (c2_X8_328 (M := mX8_isDay) rfl dX8_isDay_7 ?_)
    refine g_lcmp_gt 18 dX8_isDay_10 dX8_isDay_11 rfl (by omega) (by omega) (fun c10 => ?_) (fun c10 => ?_)
    · skip
      refine g_iconst dX8_isDay_18 ?_
      exact g_zret dX8_isDay_19 rfl rfl ⟨Nat.le_refl _, Nat.le_refl _⟩ (by omega) (by first | exact ⟨someI (pI_t (by omega)).symm, rfl⟩ | exact ⟨someI (pI_f (by omega)).symm, rfl⟩)
    · skip
      refine g_iconst dX8_isDay_14 (g_goto 19 dX8_isDay_15 rfl ?_)
      exact g_zret dX8_isDay_19 rfl rfl ⟨Nat.le_refl _, Nat.le_refl _⟩ (by omega) (by first | exact ⟨someI (pI_t (by omega)).symm, rfl⟩ | exact ⟨someI (pI_f (by omega)).symm, rfl⟩)
set_option maxRecDepth 100000 in
set_option maxHeartbeats 4000000 in
theorem e_X8_isSpan {G : GX} {y : LY} {h : HM} {d : Nat} {s t : Int} (hs : R64 s) (ht : R64 t) : EvI G mX8_isSpan (d + 1) [.long (lZ s), .long (lZ t)] y h (pI (0 ≤ s ∧ s ≤ t ∧ t ≤ 1000000000000)) := by
  have q1 := pI_01 (0 ≤ s ∧ s ≤ 1000000000000)
  have q2 := pI_01 (0 ≤ t ∧ t ≤ 1000000000000)
  have q3 := pI_eq1 (P := 0 ≤ s ∧ s ≤ 1000000000000)
  have q4 := pI_eq1 (P := 0 ≤ t ∧ t ≤ 1000000000000)
  refine Ev.of rfl [some (.long (lZ s)), none, some (.long (lZ t)), none] rfl (Nat.le_of_ble_eq_true rfl) ?_
  refine g_lload_n dX8_isSpan_0 rfl rfl (cv_X8_160 (M := mX8_isSpan) rfl dX8_isSpan_1 (RO.same _ _ _) (Nat.le_of_ble_eq_true rfl) (e_X8_isDay (by omega)) <| kI ?_)
  refine g_if_eq 24 dX8_isSpan_4 rfl (by omega) (fun c4 => ?_) (fun c4 => ?_)
  · skip
    refine g_iconst dX8_isSpan_24 ?_
    exact g_zret dX8_isSpan_25 rfl rfl ⟨Nat.le_refl _, Nat.le_refl _⟩ (by omega) (by first | exact ⟨someI (pI_t (by omega)).symm, rfl⟩ | exact ⟨someI (pI_f (by omega)).symm, rfl⟩)
  · skip
    refine g_lload_n dX8_isSpan_7 rfl rfl (cv_X8_160 (M := mX8_isSpan) rfl dX8_isSpan_8 (RO.same _ _ _) (Nat.le_of_ble_eq_true rfl) (e_X8_isDay (by omega)) <| kI ?_)
    refine g_if_eq 24 dX8_isSpan_11 rfl (by omega) (fun c11 => ?_) (fun c11 => ?_)
    · skip
      refine g_iconst dX8_isSpan_24 ?_
      exact g_zret dX8_isSpan_25 rfl rfl ⟨Nat.le_refl _, Nat.le_refl _⟩ (by omega) (by first | exact ⟨someI (pI_t (by omega)).symm, rfl⟩ | exact ⟨someI (pI_f (by omega)).symm, rfl⟩)
    · skip
      refine g_lload_n dX8_isSpan_14 rfl rfl (g_lload_n dX8_isSpan_15 rfl rfl ?_)
      refine g_lcmp_gt 24 dX8_isSpan_16 dX8_isSpan_17 rfl (by omega) (by omega) (fun c16 => ?_) (fun c16 => ?_)
      · skip
        refine g_iconst dX8_isSpan_24 ?_
        exact g_zret dX8_isSpan_25 rfl rfl ⟨Nat.le_refl _, Nat.le_refl _⟩ (by omega) (by first | exact ⟨someI (pI_t (by omega)).symm, rfl⟩ | exact ⟨someI (pI_f (by omega)).symm, rfl⟩)
      · skip
        refine g_iconst dX8_isSpan_20 (g_goto 25 dX8_isSpan_21 rfl ?_)
        exact g_zret dX8_isSpan_25 rfl rfl ⟨Nat.le_refl _, Nat.le_refl _⟩ (by omega) (by first | exact ⟨someI (pI_t (by omega)).symm, rfl⟩ | exact ⟨someI (pI_f (by omega)).symm, rfl⟩)
set_option maxRecDepth 100000 in
set_option maxHeartbeats 4000000 in
theorem e_X8_isDayCount {G : GX} {y : LY} {h : HM} {d : Nat} {n : Int} (hn : R32 n) : EvI G mX8_isDayCount (d) [.int (iZ n)] y h (pI (1 ≤ n ∧ n ≤ 400)) := by
  refine Ev.of rfl [some (.int (iZ n))] rfl (Nat.le_of_ble_eq_true rfl) ?_
  refine g_iload_n dX8_isDayCount_0 rfl rfl (g_iconst dX8_isDayCount_1 ?_)
  refine g_icmp_lt 16 dX8_isDayCount_2 rfl (by omega) (by omega) (fun c2 => ?_) (fun c2 => ?_)
  · skip
    refine g_iconst dX8_isDayCount_16 ?_
    exact g_zret dX8_isDayCount_17 rfl rfl ⟨Nat.le_refl _, Nat.le_refl _⟩ (by omega) (by first | exact ⟨someI (pI_t (by omega)).symm, rfl⟩ | exact ⟨someI (pI_f (by omega)).symm, rfl⟩)
  · skip
    refine g_iload_n dX8_isDayCount_5 rfl rfl (g_sipush dX8_isDayCount_6 ks400 ?_)
    refine g_icmp_gt 16 dX8_isDayCount_9 rfl (by omega) (by omega) (fun c9 => ?_) (fun c9 => ?_)
    · skip
      refine g_iconst dX8_isDayCount_16 ?_
      exact g_zret dX8_isDayCount_17 rfl rfl ⟨Nat.le_refl _, Nat.le_refl _⟩ (by omega) (by first | exact ⟨someI (pI_t (by omega)).symm, rfl⟩ | exact ⟨someI (pI_f (by omega)).symm, rfl⟩)
    · skip
      refine g_iconst dX8_isDayCount_12 (g_goto 17 dX8_isDayCount_13 rfl ?_)
      exact g_zret dX8_isDayCount_17 rfl rfl ⟨Nat.le_refl _, Nat.le_refl _⟩ (by omega) (by first | exact ⟨someI (pI_t (by omega)).symm, rfl⟩ | exact ⟨someI (pI_f (by omega)).symm, rfl⟩)
set_option maxRecDepth 100000 in
set_option maxHeartbeats 4000000 in
theorem e_X8_isDoor {G : GX} {y : LY} {h : HM} {d : Nat} {n : Int} (hn : R32 n) : EvI G mX8_isDoor (d) [.int (iZ n)] y h (pI (0 ≤ n ∧ n ≤ 8)) := by
  refine Ev.of rfl [some (.int (iZ n))] rfl (Nat.le_of_ble_eq_true rfl) ?_
  refine g_iload_n dX8_isDoor_0 rfl rfl ?_
  refine g_if_lt 14 dX8_isDoor_1 rfl (by omega) (fun c1 => ?_) (fun c1 => ?_)
  · skip
    refine g_iconst dX8_isDoor_14 ?_
    exact g_zret dX8_isDoor_15 rfl rfl ⟨Nat.le_refl _, Nat.le_refl _⟩ (by omega) (by first | exact ⟨someI (pI_t (by omega)).symm, rfl⟩ | exact ⟨someI (pI_f (by omega)).symm, rfl⟩)
  · skip
    refine g_iload_n dX8_isDoor_4 rfl rfl (g_bipush dX8_isDoor_5 kb8 ?_)
    refine g_icmp_gt 14 dX8_isDoor_7 rfl (by omega) (by omega) (fun c7 => ?_) (fun c7 => ?_)
    · skip
      refine g_iconst dX8_isDoor_14 ?_
      exact g_zret dX8_isDoor_15 rfl rfl ⟨Nat.le_refl _, Nat.le_refl _⟩ (by omega) (by first | exact ⟨someI (pI_t (by omega)).symm, rfl⟩ | exact ⟨someI (pI_f (by omega)).symm, rfl⟩)
    · skip
      refine g_iconst dX8_isDoor_10 (g_goto 15 dX8_isDoor_11 rfl ?_)
      exact g_zret dX8_isDoor_15 rfl rfl ⟨Nat.le_refl _, Nat.le_refl _⟩ (by omega) (by first | exact ⟨someI (pI_t (by omega)).symm, rfl⟩ | exact ⟨someI (pI_f (by omega)).symm, rfl⟩)
set_option maxRecDepth 100000 in
set_option maxHeartbeats 4000000 in
theorem e_X8_isYesOrNo {G : GX} {y : LY} {h : HM} {d : Nat} {n : Int} (hn : R32 n) : EvI G mX8_isYesOrNo (d) [.int (iZ n)] y h (pI (n = 0 ∨ n = 1)) := by
  refine Ev.of rfl [some (.int (iZ n))] rfl (Nat.le_of_ble_eq_true rfl) ?_
  refine g_iload_n dX8_isYesOrNo_0 rfl rfl ?_
  refine g_if_eq 9 dX8_isYesOrNo_1 rfl (by omega) (fun c1 => ?_) (fun c1 => ?_)
  · skip
    refine g_iconst dX8_isYesOrNo_9 (g_goto 14 dX8_isYesOrNo_10 rfl ?_)
    exact g_zret dX8_isYesOrNo_14 rfl rfl ⟨Nat.le_refl _, Nat.le_refl _⟩ (by omega) (by first | exact ⟨someI (pI_t (by omega)).symm, rfl⟩ | exact ⟨someI (pI_f (by omega)).symm, rfl⟩)
  · skip
    refine g_iload_n dX8_isYesOrNo_4 rfl rfl (g_iconst dX8_isYesOrNo_5 ?_)
    refine g_icmp_ne 13 dX8_isYesOrNo_6 rfl (by omega) (by omega) (fun c6 => ?_) (fun c6 => ?_)
    · skip
      refine g_iconst dX8_isYesOrNo_13 ?_
      exact g_zret dX8_isYesOrNo_14 rfl rfl ⟨Nat.le_refl _, Nat.le_refl _⟩ (by omega) (by first | exact ⟨someI (pI_t (by omega)).symm, rfl⟩ | exact ⟨someI (pI_f (by omega)).symm, rfl⟩)
    · skip
      refine g_iconst dX8_isYesOrNo_9 (g_goto 14 dX8_isYesOrNo_10 rfl ?_)
      exact g_zret dX8_isYesOrNo_14 rfl rfl ⟨Nat.le_refl _, Nat.le_refl _⟩ (by omega) (by first | exact ⟨someI (pI_t (by omega)).symm, rfl⟩ | exact ⟨someI (pI_f (by omega)).symm, rfl⟩)
set_option maxRecDepth 100000 in
set_option maxHeartbeats 4000000 in
theorem e_X8_isImage {G : GX} {y : LY} {h : HM} {d : Nat} {n : Int} (hn : R32 n) : EvI G mX8_isImage (d) [.int (iZ n)] y h (pI (0 ≤ n ∧ n < 2)) := by
  refine Ev.of rfl [some (.int (iZ n))] rfl (Nat.le_of_ble_eq_true rfl) ?_
  refine g_iload_n dX8_isImage_0 rfl rfl ?_
  refine g_if_lt 13 dX8_isImage_1 rfl (by omega) (fun c1 => ?_) (fun c1 => ?_)
  · skip
    refine g_iconst dX8_isImage_13 ?_
    exact g_zret dX8_isImage_14 rfl rfl ⟨Nat.le_refl _, Nat.le_refl _⟩ (by omega) (by first | exact ⟨someI (pI_t (by omega)).symm, rfl⟩ | exact ⟨someI (pI_f (by omega)).symm, rfl⟩)
  · skip
    refine g_iload_n dX8_isImage_4 rfl rfl (g_iconst dX8_isImage_5 ?_)
    refine g_icmp_ge 13 dX8_isImage_6 rfl (by omega) (by omega) (fun c6 => ?_) (fun c6 => ?_)
    · skip
      refine g_iconst dX8_isImage_13 ?_
      exact g_zret dX8_isImage_14 rfl rfl ⟨Nat.le_refl _, Nat.le_refl _⟩ (by omega) (by first | exact ⟨someI (pI_t (by omega)).symm, rfl⟩ | exact ⟨someI (pI_f (by omega)).symm, rfl⟩)
    · skip
      refine g_iconst dX8_isImage_9 (g_goto 14 dX8_isImage_10 rfl ?_)
      exact g_zret dX8_isImage_14 rfl rfl ⟨Nat.le_refl _, Nat.le_refl _⟩ (by omega) (by first | exact ⟨someI (pI_t (by omega)).symm, rfl⟩ | exact ⟨someI (pI_f (by omega)).symm, rfl⟩)
set_option maxRecDepth 100000 in
set_option maxHeartbeats 4000000 in
theorem e_X8_isSheet {G : GX} {y : LY} {h : HM} {d : Nat} {n : Int} (hn : R32 n) : EvI G mX8_isSheet (d) [.int (iZ n)] y h (pI (0 ≤ n ∧ n < 4)) := by
  refine Ev.of rfl [some (.int (iZ n))] rfl (Nat.le_of_ble_eq_true rfl) ?_
  refine g_iload_n dX8_isSheet_0 rfl rfl ?_
  refine g_if_lt 13 dX8_isSheet_1 rfl (by omega) (fun c1 => ?_) (fun c1 => ?_)
  · skip
    refine g_iconst dX8_isSheet_13 ?_
    exact g_zret dX8_isSheet_14 rfl rfl ⟨Nat.le_refl _, Nat.le_refl _⟩ (by omega) (by first | exact ⟨someI (pI_t (by omega)).symm, rfl⟩ | exact ⟨someI (pI_f (by omega)).symm, rfl⟩)
  · skip
    refine g_iload_n dX8_isSheet_4 rfl rfl (g_iconst dX8_isSheet_5 ?_)
    refine g_icmp_ge 13 dX8_isSheet_6 rfl (by omega) (by omega) (fun c6 => ?_) (fun c6 => ?_)
    · skip
      refine g_iconst dX8_isSheet_13 ?_
      exact g_zret dX8_isSheet_14 rfl rfl ⟨Nat.le_refl _, Nat.le_refl _⟩ (by omega) (by first | exact ⟨someI (pI_t (by omega)).symm, rfl⟩ | exact ⟨someI (pI_f (by omega)).symm, rfl⟩)
    · skip
      refine g_iconst dX8_isSheet_9 (g_goto 14 dX8_isSheet_10 rfl ?_)
      exact g_zret dX8_isSheet_14 rfl rfl ⟨Nat.le_refl _, Nat.le_refl _⟩ (by omega) (by first | exact ⟨someI (pI_t (by omega)).symm, rfl⟩ | exact ⟨someI (pI_f (by omega)).symm, rfl⟩)
set_option maxRecDepth 100000 in
set_option maxHeartbeats 4000000 in
theorem e_X8_isLane {G : GX} {y : LY} {h : HM} {d : Nat} {n : Int} (hn : R32 n) : EvI G mX8_isLane (d) [.int (iZ n)] y h (pI (0 ≤ n ∧ n ≤ 2)) := by
  refine Ev.of rfl [some (.int (iZ n))] rfl (Nat.le_of_ble_eq_true rfl) ?_
  refine g_iload_n dX8_isLane_0 rfl rfl ?_
  refine g_if_lt 13 dX8_isLane_1 rfl (by omega) (fun c1 => ?_) (fun c1 => ?_)
  · skip
    refine g_iconst dX8_isLane_13 ?_
    exact g_zret dX8_isLane_14 rfl rfl ⟨Nat.le_refl _, Nat.le_refl _⟩ (by omega) (by first | exact ⟨someI (pI_t (by omega)).symm, rfl⟩ | exact ⟨someI (pI_f (by omega)).symm, rfl⟩)
  · skip
    refine g_iload_n dX8_isLane_4 rfl rfl (g_iconst dX8_isLane_5 ?_)
    refine g_icmp_gt 13 dX8_isLane_6 rfl (by omega) (by omega) (fun c6 => ?_) (fun c6 => ?_)
    · skip
      refine g_iconst dX8_isLane_13 ?_
      exact g_zret dX8_isLane_14 rfl rfl ⟨Nat.le_refl _, Nat.le_refl _⟩ (by omega) (by first | exact ⟨someI (pI_t (by omega)).symm, rfl⟩ | exact ⟨someI (pI_f (by omega)).symm, rfl⟩)
    · skip
      refine g_iconst dX8_isLane_9 (g_goto 14 dX8_isLane_10 rfl ?_)
      exact g_zret dX8_isLane_14 rfl rfl ⟨Nat.le_refl _, Nat.le_refl _⟩ (by omega) (by first | exact ⟨someI (pI_t (by omega)).symm, rfl⟩ | exact ⟨someI (pI_f (by omega)).symm, rfl⟩)
set_option maxRecDepth 100000 in
set_option maxHeartbeats 4000000 in
theorem e_X8_isWheel {G : GX} {y : LY} {h : HM} {d : Nat} {n k : Int} (hn : R32 n) (hk : R32 k) : EvI G mX8_isWheel (d) [.int (iZ n), .int (iZ k)] y h (pI (2 ≤ n ∧ n ≤ 60 ∧ 0 ≤ k ∧ k < n)) := by
  refine Ev.of rfl [some (.int (iZ n)), some (.int (iZ k))] rfl (Nat.le_of_ble_eq_true rfl) ?_
  refine g_iload_n dX8_isWheel_0 rfl rfl (g_iconst dX8_isWheel_1 ?_)
  refine g_icmp_lt 24 dX8_isWheel_2 rfl (by omega) (by omega) (fun c2 => ?_) (fun c2 => ?_)
  · skip
    refine g_iconst dX8_isWheel_24 ?_
    exact g_zret dX8_isWheel_25 rfl rfl ⟨Nat.le_refl _, Nat.le_refl _⟩ (by omega) (by first | exact ⟨someI (pI_t (by omega)).symm, rfl⟩ | exact ⟨someI (pI_f (by omega)).symm, rfl⟩)
  · skip
    refine g_iload_n dX8_isWheel_5 rfl rfl (g_bipush dX8_isWheel_6 kb60 ?_)
    refine g_icmp_gt 24 dX8_isWheel_8 rfl (by omega) (by omega) (fun c8 => ?_) (fun c8 => ?_)
    · skip
      refine g_iconst dX8_isWheel_24 ?_
      exact g_zret dX8_isWheel_25 rfl rfl ⟨Nat.le_refl _, Nat.le_refl _⟩ (by omega) (by first | exact ⟨someI (pI_t (by omega)).symm, rfl⟩ | exact ⟨someI (pI_f (by omega)).symm, rfl⟩)
    · skip
      refine g_iload_n dX8_isWheel_11 rfl rfl ?_
      refine g_if_lt 24 dX8_isWheel_12 rfl (by omega) (fun c12 => ?_) (fun c12 => ?_)
      · skip
        refine g_iconst dX8_isWheel_24 ?_
        exact g_zret dX8_isWheel_25 rfl rfl ⟨Nat.le_refl _, Nat.le_refl _⟩ (by omega) (by first | exact ⟨someI (pI_t (by omega)).symm, rfl⟩ | exact ⟨someI (pI_f (by omega)).symm, rfl⟩)
      · skip
        refine g_iload_n dX8_isWheel_15 rfl rfl (g_iload_n dX8_isWheel_16 rfl rfl ?_)
        refine g_icmp_ge 24 dX8_isWheel_17 rfl (by omega) (by omega) (fun c17 => ?_) (fun c17 => ?_)
        · skip
          refine g_iconst dX8_isWheel_24 ?_
          exact g_zret dX8_isWheel_25 rfl rfl ⟨Nat.le_refl _, Nat.le_refl _⟩ (by omega) (by first | exact ⟨someI (pI_t (by omega)).symm, rfl⟩ | exact ⟨someI (pI_f (by omega)).symm, rfl⟩)
        · skip
          refine g_iconst dX8_isWheel_20 (g_goto 25 dX8_isWheel_21 rfl ?_)
          exact g_zret dX8_isWheel_25 rfl rfl ⟨Nat.le_refl _, Nat.le_refl _⟩ (by omega) (by first | exact ⟨someI (pI_t (by omega)).symm, rfl⟩ | exact ⟨someI (pI_f (by omega)).symm, rfl⟩)
def nearB (p r : Int) : Int := 2 ^ (min 8 (p + r) + 1).toNat - 2 ^ (max 0 (p - r)).toNat
/-- the day of the year, the year -/
def dyo (t : Int) : Int := if t % 1461 < 366 then t % 1461 else (t % 1461 - 366) % 365
def yro (t : Int) : Int := if t % 1461 < 366 then t / 1461 * 4 else t / 1461 * 4 + 1 + (t % 1461 - 366) / 365
set_option maxRecDepth 100000 in
set_option maxHeartbeats 4000000 in
theorem e_X8_near {G : GX} {y : LY} {h : HM} {d : Nat} {p r : Int} (hp : 0 ≤ p ∧ p ≤ 8) (hr : 0 ≤ r ∧ r ≤ 3) : EvI G mX8_near (d + 1) [.int (iZ p), .int (iZ r)] y h (nearB p r) := by
  refine Ev.of rfl [some (.int (iZ p)), some (.int (iZ r)), none, none] rfl (Nat.le_of_ble_eq_true rfl) ?_
  refine g_iconst dX8_near_0 (g_iload_n dX8_near_1 rfl rfl (g_iload_n dX8_near_2 rfl rfl (g_isub dX8_near_3 (gm_X8_347 (M := mX8_near) rfl dX8_near_4 (RM.same _ _ _) (Nat.le_of_ble_eq_true rfl) (by omega) (by omega) (g_ist2 dX8_near_7 (by decide) rfl (g_bipush dX8_near_8 kb8 (g_iload_n dX8_near_10 rfl rfl (g_iload_n dX8_near_11 rfl rfl (g_iadd dX8_near_12 (gm_X8_352 (M := mX8_near) rfl dX8_near_13 (RM.same _ _ _) (Nat.le_of_ble_eq_true rfl) (by omega) (by omega) (g_ist3 dX8_near_16 (by decide) rfl ?_)))))))))))
  refine g_iconst dX8_near_17 (g_iload_n dX8_near_18 rfl rfl (g_iconst dX8_near_19 (g_iadd dX8_near_20 (g_ishl dX8_near_21 (g_iconst dX8_near_22 (g_iload_n dX8_near_23 rfl rfl (g_ishl dX8_near_24 (g_isub dX8_near_25 ?_))))))))
  exact g_iret dX8_near_26 rfl rfl ⟨Nat.le_refl _, Nat.le_refl _⟩ (by exact ⟨someI (by unfold nearB; rw [iShl1' (by omega), iShl1' (by omega)]), rfl⟩)
set_option maxRecDepth 100000 in
set_option maxHeartbeats 4000000 in
theorem e_X8_yearOf {G : GX} {y : LY} {h : HM} {d : Nat} {t : Int} (ht : 0 ≤ t ∧ t ≤ 2000000000000) : EvL G mX8_yearOf (d + 1) [.long (lZ t)] y h (yro t) := by
  have hb := em_bd t (d := 1461) (by omega)
  refine Ev.of rfl [some (.long (lZ t)), none, none, none, none] rfl (Nat.le_of_ble_eq_true rfl) ?_
  refine g_lload_n dX8_yearOf_0 rfl rfl (c2_X8_355 (M := mX8_yearOf) rfl dX8_yearOf_1 (cv_X8_181 (M := mX8_yearOf) rfl dX8_yearOf_4 (RO.same _ _ _) (Nat.le_of_ble_eq_true rfl) (e_X8_rest (by omega) (by omega)) <| kL (g_l2i dX8_yearOf_7 (g_ist2 dX8_yearOf_8 (by decide) rfl (g_lload_n dX8_yearOf_9 rfl rfl (c2_X8_355 (M := mX8_yearOf) rfl dX8_yearOf_10 (g_ldivP dX8_yearOf_13 (by omega) (by omega) (c2_X8_357 (M := mX8_yearOf) rfl dX8_yearOf_14 (g_lmul dX8_yearOf_17 (g_lst3 dX8_yearOf_18 (by decide) rfl (g_iload_n dX8_yearOf_19 rfl rfl ?_)))))))))))
  refine g_sipush dX8_yearOf_20 ks366 ?_
  refine g_icmp_ge 30 dX8_yearOf_23 rfl (by omega) (by omega) (fun c23 => ?_) (fun c23 => ?_)
  · skip
    refine g_lload_n dX8_yearOf_30 rfl rfl (g_lconst (v := 1) dX8_yearOf_31 rfl (g_ladd dX8_yearOf_32 (g_iload_n dX8_yearOf_33 rfl rfl (g_sipush dX8_yearOf_34 ks366 (g_isub dX8_yearOf_37 (g_sipush dX8_yearOf_38 ks365 (g_idivP dX8_yearOf_41 (by omega) (by omega) (g_i2l dX8_yearOf_42 (by omega) (g_ladd dX8_yearOf_43 ?_)))))))))
    exact g_lret dX8_yearOf_44 rfl rfl ⟨Nat.le_refl _, Nat.le_refl _⟩ (by exact ⟨someL (by unfold yro; repeat (split) <;> first | rfl | (exfalso; omega) | omega), rfl⟩)
  · skip
    refine g_lload_n dX8_yearOf_26 rfl rfl (g_goto 44 dX8_yearOf_27 rfl ?_)
    exact g_lret dX8_yearOf_44 rfl rfl ⟨Nat.le_refl _, Nat.le_refl _⟩ (by exact ⟨someL (by unfold yro; repeat (split) <;> first | rfl | (exfalso; omega) | omega), rfl⟩)
set_option maxRecDepth 100000 in
set_option maxHeartbeats 4000000 in
theorem e_X8_dayOfYear {G : GX} {y : LY} {h : HM} {d : Nat} {t : Int} (ht : 0 ≤ t ∧ t ≤ 2000000000000) : EvI G mX8_dayOfYear (d + 1) [.long (lZ t)] y h (dyo t) := by
  have hb := em_bd t (d := 1461) (by omega)
  refine Ev.of rfl [some (.long (lZ t)), none, none] rfl (Nat.le_of_ble_eq_true rfl) ?_
  refine g_lload_n dX8_dayOfYear_0 rfl rfl (c2_X8_355 (M := mX8_dayOfYear) rfl dX8_dayOfYear_1 (cv_X8_181 (M := mX8_dayOfYear) rfl dX8_dayOfYear_4 (RO.same _ _ _) (Nat.le_of_ble_eq_true rfl) (e_X8_rest (by omega) (by omega)) <| kL (g_l2i dX8_dayOfYear_7 (g_ist2 dX8_dayOfYear_8 (by decide) rfl (g_iload_n dX8_dayOfYear_9 rfl rfl (g_sipush dX8_dayOfYear_10 ks366 ?_))))))
  refine g_icmp_ge 20 dX8_dayOfYear_13 rfl (by omega) (by omega) (fun c13 => ?_) (fun c13 => ?_)
  · skip
    refine g_iload_n dX8_dayOfYear_20 rfl rfl (g_sipush dX8_dayOfYear_21 ks366 (g_isub dX8_dayOfYear_24 (g_sipush dX8_dayOfYear_25 ks365 (g_iremP dX8_dayOfYear_28 (by omega) (by omega) ?_))))
    exact g_iret dX8_dayOfYear_29 rfl rfl ⟨Nat.le_refl _, Nat.le_refl _⟩ (by exact ⟨someI (by unfold dyo; repeat (split) <;> first | rfl | (exfalso; omega) | omega), rfl⟩)
  · skip
    refine g_iload_n dX8_dayOfYear_16 rfl rfl (g_goto 29 dX8_dayOfYear_17 rfl ?_)
    exact g_iret dX8_dayOfYear_29 rfl rfl ⟨Nat.le_refl _, Nat.le_refl _⟩ (by exact ⟨someI (by unfold dyo; repeat (split) <;> first | rfl | (exfalso; omega) | omega), rfl⟩)
set_option maxRecDepth 100000 in
set_option maxHeartbeats 4000000 in
theorem e_X8_isFigure {G : GX} {y : LY} {h : HM} {d : Nat} (hY : Lay y) {f : Int} (hf : R32 f) (hnf : 0 ≤ h.I 12 3 ∧ h.I 12 3 ≤ 6) : EvI G mX8_isFigure (d) [.ref 9, .int (iZ f)] y h (pI (0 ≤ f ∧ f < h.I 12 3)) := by
  refine Ev.of rfl [some (.ref 9), some (.int (iZ f))] rfl (Nat.le_of_ble_eq_true rfl) ?_
  refine g_iload_n dX8_isFigure_0 rfl rfl ?_
  refine g_if_lt 19 dX8_isFigure_1 rfl (by omega) (fun c1 => ?_) (fun c1 => ?_)
  · skip
    refine g_iconst dX8_isFigure_19 ?_
    exact g_zret dX8_isFigure_20 rfl rfl ⟨Nat.le_refl _, Nat.le_refl _⟩ (by omega) (by first | exact ⟨someI (pI_t (by omega)).symm, rfl⟩ | exact ⟨someI (pI_f (by omega)).symm, rfl⟩)
  · skip
    refine g_iload_n dX8_isFigure_4 rfl rfl (g_aload_n dX8_isFigure_5 rfl rfl (gf_X8_19 (M := mX8_isFigure) rfl dX8_isFigure_6 (yo9 hY) (yr9_1 hY) (gf_X8_98 (M := mX8_isFigure) rfl dX8_isFigure_9 (ck_o hY clk12) ?_)))
    refine g_icmp_ge 19 dX8_isFigure_12 rfl (by omega) (by omega) (fun c12 => ?_) (fun c12 => ?_)
    · skip
      refine g_iconst dX8_isFigure_19 ?_
      exact g_zret dX8_isFigure_20 rfl rfl ⟨Nat.le_refl _, Nat.le_refl _⟩ (by omega) (by first | exact ⟨someI (pI_t (by omega)).symm, rfl⟩ | exact ⟨someI (pI_f (by omega)).symm, rfl⟩)
    · skip
      refine g_iconst dX8_isFigure_15 (g_goto 20 dX8_isFigure_16 rfl ?_)
      exact g_zret dX8_isFigure_20 rfl rfl ⟨Nat.le_refl _, Nat.le_refl _⟩ (by omega) (by first | exact ⟨someI (pI_t (by omega)).symm, rfl⟩ | exact ⟨someI (pI_f (by omega)).symm, rfl⟩)
set_option maxRecDepth 100000 in
set_option maxHeartbeats 4000000 in
theorem e_X8_isPair {G : GX} {y : LY} {h : HM} {d : Nat} (hY : Lay y) {f g : Int} (hf : R32 f) (hg : R32 g) (hnf : 0 ≤ h.I 12 3 ∧ h.I 12 3 ≤ 6) : EvI G mX8_isPair (d + 1) [.ref 9, .int (iZ f), .int (iZ g)] y h (pI ((0 ≤ f ∧ f < h.I 12 3) ∧ (0 ≤ g ∧ g < h.I 12 3) ∧ f ≠ g)) := by
  have q1 := pI_01 (0 ≤ f ∧ f < h.I 12 3)
  have q2 := pI_01 (0 ≤ g ∧ g < h.I 12 3)
  have q3 := pI_eq1 (P := 0 ≤ f ∧ f < h.I 12 3)
  have q4 := pI_eq1 (P := 0 ≤ g ∧ g < h.I 12 3)
  refine Ev.of rfl [some (.ref 9), some (.int (iZ f)), some (.int (iZ g))] rfl (Nat.le_of_ble_eq_true rfl) ?_
  refine g_aload_n dX8_isPair_0 rfl rfl (g_iload_n dX8_isPair_1 rfl rfl (cv_X8_116 (M := mX8_isPair) rfl dX8_isPair_2 (yo9 hY) (RO.same _ _ _) (Nat.le_of_ble_eq_true rfl) (e_X8_isFigure hY (by omega) hnf) <| kI ?_))
  refine g_if_eq 25 dX8_isPair_5 rfl (by omega) (fun c5 => ?_) (fun c5 => ?_)
  · skip
    refine g_iconst dX8_isPair_25 ?_
    exact g_zret dX8_isPair_26 rfl rfl ⟨Nat.le_refl _, Nat.le_refl _⟩ (by omega) (by first | exact ⟨someI (pI_t (by omega)).symm, rfl⟩ | exact ⟨someI (pI_f (by omega)).symm, rfl⟩)
  · skip
    refine g_aload_n dX8_isPair_8 rfl rfl (g_iload_n dX8_isPair_9 rfl rfl (cv_X8_116 (M := mX8_isPair) rfl dX8_isPair_10 (yo9 hY) (RO.same _ _ _) (Nat.le_of_ble_eq_true rfl) (e_X8_isFigure hY (by omega) hnf) <| kI ?_))
    refine g_if_eq 25 dX8_isPair_13 rfl (by omega) (fun c13 => ?_) (fun c13 => ?_)
    · skip
      refine g_iconst dX8_isPair_25 ?_
      exact g_zret dX8_isPair_26 rfl rfl ⟨Nat.le_refl _, Nat.le_refl _⟩ (by omega) (by first | exact ⟨someI (pI_t (by omega)).symm, rfl⟩ | exact ⟨someI (pI_f (by omega)).symm, rfl⟩)
    · skip
      refine g_iload_n dX8_isPair_16 rfl rfl (g_iload_n dX8_isPair_17 rfl rfl ?_)
      refine g_icmp_eq 25 dX8_isPair_18 rfl (by omega) (by omega) (fun c18 => ?_) (fun c18 => ?_)
      · skip
        refine g_iconst dX8_isPair_25 ?_
        exact g_zret dX8_isPair_26 rfl rfl ⟨Nat.le_refl _, Nat.le_refl _⟩ (by omega) (by first | exact ⟨someI (pI_t (by omega)).symm, rfl⟩ | exact ⟨someI (pI_f (by omega)).symm, rfl⟩)
      · skip
        refine g_iconst dX8_isPair_21 (g_goto 26 dX8_isPair_22 rfl ?_)
        exact g_zret dX8_isPair_26 rfl rfl ⟨Nat.le_refl _, Nat.le_refl _⟩ (by omega) (by first | exact ⟨someI (pI_t (by omega)).symm, rfl⟩ | exact ⟨someI (pI_f (by omega)).symm, rfl⟩)
set_option maxRecDepth 100000 in
set_option maxHeartbeats 4000000 in
theorem e_X8_isSome {G : GX} {y : LY} {h : HM} {d : Nat} (hY : Lay y) {f : Int} (hf : R32 f) (hnf : 0 ≤ h.I 12 3 ∧ h.I 12 3 ≤ 6) : EvI G mX8_isSome (d) [.ref 9, .int (iZ f)] y h (pI (0 < f ∧ f < 2 ^ (h.I 12 3).toNat)) := by
  have e1 := iShl1' (k := h.I 12 3) (by omega)
  have e2 : (2 : Int) ^ (h.I 12 3).toNat ≤ 64 ∧ 0 < (2 : Int) ^ (h.I 12 3).toNat := by
    rcases (by omega : (h.I 12 3).toNat = 0 ∨ (h.I 12 3).toNat = 1 ∨ (h.I 12 3).toNat = 2 ∨ (h.I 12 3).toNat = 3 ∨ (h.I 12 3).toNat = 4 ∨ (h.I 12 3).toNat = 5 ∨ (h.I 12 3).toNat = 6) with e | e | e | e | e | e | e <;> rw [e] <;> decide
  refine Ev.of rfl [some (.ref 9), some (.int (iZ f))] rfl (Nat.le_of_ble_eq_true rfl) ?_
  refine g_iload_n dX8_isSome_0 rfl rfl ?_
  refine g_if_le 21 dX8_isSome_1 rfl (by omega) (fun c1 => ?_) (fun c1 => ?_)
  · skip
    refine g_iconst dX8_isSome_21 ?_
    exact g_zret dX8_isSome_22 rfl rfl ⟨Nat.le_refl _, Nat.le_refl _⟩ (by omega) (by first | exact ⟨someI (pI_t (by omega)).symm, rfl⟩ | exact ⟨someI (pI_f (by omega)).symm, rfl⟩)
  · skip
    refine g_iload_n dX8_isSome_4 rfl rfl (g_iconst dX8_isSome_5 (g_aload_n dX8_isSome_6 rfl rfl (gf_X8_19 (M := mX8_isSome) rfl dX8_isSome_7 (yo9 hY) (yr9_1 hY) (gf_X8_98 (M := mX8_isSome) rfl dX8_isSome_10 (ck_o hY clk12) (g_ishl dX8_isSome_13 ?_)))))
    refine g_icmp_ge 21 dX8_isSome_14 rfl (by omega) (by omega) (fun c14 => ?_) (fun c14 => ?_)
    · skip
      refine g_iconst dX8_isSome_21 ?_
      exact g_zret dX8_isSome_22 rfl rfl ⟨Nat.le_refl _, Nat.le_refl _⟩ (by omega) (by first | exact ⟨someI (pI_t (by omega)).symm, rfl⟩ | exact ⟨someI (pI_f (by omega)).symm, rfl⟩)
    · skip
      refine g_iconst dX8_isSome_17 (g_goto 22 dX8_isSome_18 rfl ?_)
      exact g_zret dX8_isSome_22 rfl rfl ⟨Nat.le_refl _, Nat.le_refl _⟩ (by omega) (by first | exact ⟨someI (pI_t (by omega)).symm, rfl⟩ | exact ⟨someI (pI_f (by omega)).symm, rfl⟩)
set_option maxRecDepth 100000 in
set_option maxHeartbeats 4000000 in
theorem e_X1_become {G : GX} {y : LY} {h : HM} {d : Nat} {a b : Nat} (ho : IsO y a 1) (hq : IsO y b 1) : EvV G mX1_become (d) [.ref a, .ref b] y h (wr5 h a (c5 h b)) := by
  refine Ev.of rfl [some (.ref a), some (.ref b)] rfl (Nat.le_of_ble_eq_true rfl) ?_
  refine g_aload_n dX1_become_0 rfl rfl (g_aload_n dX1_become_1 rfl rfl (gf_X1_9 (M := mX1_become) rfl dX1_become_2 hq (pf_X1_9 (M := mX1_become) rfl dX1_become_5 ho (g_aload_n dX1_become_8 rfl rfl (g_aload_n dX1_become_9 rfl rfl (gf_X1_15 (M := mX1_become) rfl dX1_become_10 hq (pf_X1_15 (M := mX1_become) rfl dX1_become_13 ho (g_aload_n dX1_become_16 rfl rfl (g_aload_n dX1_become_17 rfl rfl (gf_X1_18 (M := mX1_become) rfl dX1_become_18 hq (pf_X1_18 (M := mX1_become) rfl dX1_become_21 ho ?_)))))))))))
  refine g_aload_n dX1_become_24 rfl rfl (g_aload_n dX1_become_25 rfl rfl (gf_X1_21 (M := mX1_become) rfl dX1_become_26 hq (pf_X1_21 (M := mX1_become) rfl dX1_become_29 ho (g_aload_n dX1_become_32 rfl rfl (g_aload_n dX1_become_33 rfl rfl (gf_X1_24 (M := mX1_become) rfl dX1_become_34 hq (pf_X1_24 (M := mX1_become) rfl dX1_become_37 ho ?_)))))))
  exact g_vret dX1_become_40 rfl rfl ⟨Nat.le_refl _, Nat.le_refl _⟩ (by exact ⟨rfl, by simp [wr5, c5, sI_I]⟩)
set_option maxRecDepth 100000 in
set_option maxHeartbeats 4000000 in
theorem e_X7_become {G : GX} {y : LY} {h : HM} {d : Nat} {a b : Nat} (ho : IsO y a 7) (hq : IsO y b 7) : EvV G mX7_become (d) [.ref a, .ref b] y h (wr5 h a (c5 h b)) := by
  refine Ev.of rfl [some (.ref a), some (.ref b)] rfl (Nat.le_of_ble_eq_true rfl) ?_
  refine g_aload_n dX7_become_0 rfl rfl (g_aload_n dX7_become_1 rfl rfl (gf_X7_9 (M := mX7_become) rfl dX7_become_2 hq (pf_X7_9 (M := mX7_become) rfl dX7_become_5 ho (g_aload_n dX7_become_8 rfl rfl (g_aload_n dX7_become_9 rfl rfl (gf_X7_15 (M := mX7_become) rfl dX7_become_10 hq (pf_X7_15 (M := mX7_become) rfl dX7_become_13 ho (g_aload_n dX7_become_16 rfl rfl (g_aload_n dX7_become_17 rfl rfl (gf_X7_18 (M := mX7_become) rfl dX7_become_18 hq (pf_X7_18 (M := mX7_become) rfl dX7_become_21 ho ?_)))))))))))
  refine g_aload_n dX7_become_24 rfl rfl (g_aload_n dX7_become_25 rfl rfl (gf_X7_21 (M := mX7_become) rfl dX7_become_26 hq (pf_X7_21 (M := mX7_become) rfl dX7_become_29 ho (g_aload_n dX7_become_32 rfl rfl (g_aload_n dX7_become_33 rfl rfl (gf_X7_24 (M := mX7_become) rfl dX7_become_34 hq (pf_X7_24 (M := mX7_become) rfl dX7_become_37 ho ?_)))))))
  exact g_vret dX7_become_40 rfl rfl ⟨Nat.le_refl _, Nat.le_refl _⟩ (by exact ⟨rfl, by simp [wr5, c5, sI_I]⟩)
def wr3 (h : HM) (a : Nat) (p q r : Int) : HM := ((h.sI a 0 p).sI a 1 q).sI a 2 r
set_option maxRecDepth 100000 in
set_option maxHeartbeats 4000000 in
theorem e_X5_tell {G : GX} {y : LY} {h : HM} {d : Nat} {a : Nat} {p q r : Int} (ho : IsO y a 5) (hr : r = 0 ∨ r = 1) : EvV G mX5_tell (d) [.ref a, .int (iZ p), .int (iZ q), .int (iZ r)] y h (wr3 h a p q r) := by
  refine Ev.of rfl [some (.ref a), some (.int (iZ p)), some (.int (iZ q)), some (.int (iZ r))] rfl (Nat.le_of_ble_eq_true rfl) ?_
  refine g_aload_n dX5_tell_0 rfl rfl (g_iload_n dX5_tell_1 rfl rfl (pf_X5_7 (M := mX5_tell) rfl dX5_tell_2 ho (g_aload_n dX5_tell_5 rfl rfl (g_iload_n dX5_tell_6 rfl rfl (pf_X5_13 (M := mX5_tell) rfl dX5_tell_7 ho (g_aload_n dX5_tell_10 rfl rfl (g_iload_n dX5_tell_11 rfl rfl (pf_X5_16 (M := mX5_tell) rfl dX5_tell_12 (by omega) ho ?_))))))))
  exact g_vret dX5_tell_15 rfl rfl ⟨Nat.le_refl _, Nat.le_refl _⟩ (by exact ⟨rfl, rfl⟩)
set_option maxRecDepth 100000 in
set_option maxHeartbeats 4000000 in
theorem e_X4_renew {G : GX} {y : LY} {h : HM} {d : Nat} (hY : Lay y) {k : Int} (hk : 0 ≤ k ∧ k < 4) {l n : Int} : EvV G mX4_renew (d) [.ref (142 + 2 * k.toNat), .int (iZ l), .int (iZ n)] y h (((h.sI (142 + 2 * k.toNat) 1 l).sI (142 + 2 * k.toNat) 2 n).sA (143 + 2 * k.toNat) (fun j => if j < 40 then 0 else h.I (143 + 2 * k.toNat) j)) := by
  refine Ev.of rfl [some (.ref (142 + 2 * k.toNat)), some (.int (iZ l)), some (.int (iZ n)), none] rfl (Nat.le_of_ble_eq_true rfl) ?_
  have L12 : ∀ (m : Nat) (i : Int), m = (40 - i).toNat → 0 ≤ i → i ≤ 40 → Go G mX4_renew (rmo (d) 0 0) (ZM G y 0 0 (fun r h1 => r = none ∧ h1 = ((h.sI (142 + 2 * k.toNat) 1 l).sI (142 + 2 * k.toNat) 2 n).sA (143 + 2 * k.toNat) (fun j => if j < 40 then 0 else h.I (143 + 2 * k.toNat) j))) y 12 [some (.ref (142 + 2 * k.toNat)), some (.int (iZ l)), some (.int (iZ n)), some (.int (iZ i))] [] (((h.sI (142 + 2 * k.toNat) 1 l).sI (142 + 2 * k.toNat) 2 n).sA (143 + 2 * k.toNat) (fun j => if j < i.toNat then 0 else h.I (143 + 2 * k.toNat) j)) (0, 0) := by
    intro m
    induction m using Nat.strongRecOn with | _ m ih =>
    intro i hm hi0 hi
    refine g_iload_n dX4_renew_12 rfl rfl (g_aload_n dX4_renew_13 rfl rfl (gf_X4_9 (M := mX4_renew) rfl dX4_renew_14 (sh_o hY hk) (sh_rr hY hk) (g_alen dX4_renew_17 (sh_a hY hk) (by decide) rfl ?_)))
    refine g_icmp_ge 34 dX4_renew_18 rfl (by omega) (by omega) (fun c18 => ?_) (fun c18 => ?_)
    · skip
      exact g_vret dX4_renew_34 rfl rfl ⟨Nat.le_refl _, Nat.le_refl _⟩ (by refine ⟨rfl, ?_⟩; rw [show i = 40 by omega]; rfl)
    · skip
      refine g_aload_n dX4_renew_21 rfl rfl (gf_X4_9 (M := mX4_renew) rfl dX4_renew_22 (sh_o hY hk) (sh_rr hY hk) (g_iload_n dX4_renew_25 rfl rfl (g_iconst dX4_renew_26 (g_iast dX4_renew_27 (sh_a hY hk) ⟨by omega, by omega, by omega⟩ (g_inc3 dX4_renew_28 (by decide) rfl (g_goto 12 dX4_renew_31 rfl ?_))))))
      refine g_h ?_ (ih _ (by omega) (i + 1) rfl (by omega) (by omega))
      rw [sA_sI]
      refine sA_congr _ _ fun j => ?_
      by_cases e1 : j = i.toNat
      · rw [if_pos e1, if_pos (by omega)]
      · by_cases e2 : j < i.toNat
        · rw [if_neg e1, if_pos e2, if_pos (by omega)]
        · rw [if_neg e1, if_neg e2, if_neg (by omega)]
  refine g_aload_n dX4_renew_0 rfl rfl (g_iload_n dX4_renew_1 rfl rfl (pf_X4_15 (M := mX4_renew) rfl dX4_renew_2 (sh_o hY hk) (g_aload_n dX4_renew_5 rfl rfl (g_iload_n dX4_renew_6 rfl rfl (pf_X4_19 (M := mX4_renew) rfl dX4_renew_7 (sh_o hY hk) (g_iconst dX4_renew_10 (g_ist3 dX4_renew_11 (by decide) rfl ?_)))))))
  refine g_h ?_ (L12 _ 0 rfl (by omega) (by omega))
  conv => lhs; rw [← sA_self ((h.sI (142 + 2 * k.toNat) 1 l).sI (142 + 2 * k.toNat) 2 n) (143 + 2 * k.toNat)]
  refine sA_congr _ _ fun j => ?_
  rw [if_neg (by omega)]
  simp [sI_I]
def fltS (lane cells as at_ n : Int) : Int := if cells < 0 then 1 else if as ≠ lane then 3 else if at_ < 0 ∨ cells < at_ + n then 2 else 0
set_option maxRecDepth 100000 in
set_option maxHeartbeats 4000000 in
theorem e_X4_faultOf {G : GX} {y : LY} {h : HM} {d : Nat} (hY : Lay y) {k : Int} (hk : 0 ≤ k ∧ k < 4) {as t n : Int} (h1 : R32 as) (h2 : -9000000000000 ≤ t ∧ t ≤ 9000000000000) (h3 : 0 ≤ n ∧ n ≤ 3) (h4 : R32 (h.I (142 + 2 * k.toNat) 1)) (h5 : R32 (h.I (142 + 2 * k.toNat) 2)) : EvI G mX4_faultOf (d) [.ref (142 + 2 * k.toNat), .int (iZ as), .long (lZ t), .int (iZ n)] y h (fltS (h.I (142 + 2 * k.toNat) 1) (h.I (142 + 2 * k.toNat) 2) as t n) := by
  refine Ev.of rfl [some (.ref (142 + 2 * k.toNat)), some (.int (iZ as)), some (.long (lZ t)), none, some (.int (iZ n))] rfl (Nat.le_of_ble_eq_true rfl) ?_
  refine g_aload_n dX4_faultOf_0 rfl rfl (gf_X4_19 (M := mX4_faultOf) rfl dX4_faultOf_1 (sh_o hY hk) ?_)
  refine g_if_ge 9 dX4_faultOf_4 rfl (by omega) (fun c4 => ?_) (fun c4 => ?_)
  · skip
    refine g_iload_n dX4_faultOf_9 rfl rfl (g_aload_n dX4_faultOf_10 rfl rfl (gf_X4_15 (M := mX4_faultOf) rfl dX4_faultOf_11 (sh_o hY hk) ?_))
    refine g_icmp_eq 19 dX4_faultOf_14 rfl (by omega) (by omega) (fun c14 => ?_) (fun c14 => ?_)
    · skip
      refine g_lload_n dX4_faultOf_19 rfl rfl (g_lconst (v := 0) dX4_faultOf_20 rfl ?_)
      refine g_lcmp_lt 39 dX4_faultOf_21 dX4_faultOf_22 rfl (by omega) (by omega) (fun c21 => ?_) (fun c21 => ?_)
      · skip
        refine g_iconst dX4_faultOf_39 (g_goto 44 dX4_faultOf_40 rfl ?_)
        exact g_iret dX4_faultOf_44 rfl rfl ⟨Nat.le_refl _, Nat.le_refl _⟩ (by exact ⟨someI (by unfold fltS; repeat (split) <;> first | rfl | (exfalso; omega) | omega), rfl⟩)
      · skip
        refine g_lload_n dX4_faultOf_25 rfl rfl (g_iload dX4_faultOf_26 rfl (g_i2l dX4_faultOf_28 (by omega) (g_ladd dX4_faultOf_29 (g_aload_n dX4_faultOf_30 rfl rfl (gf_X4_19 (M := mX4_faultOf) rfl dX4_faultOf_31 (sh_o hY hk) (g_i2l dX4_faultOf_34 (by omega) ?_))))))
        refine g_lcmp_le 43 dX4_faultOf_35 dX4_faultOf_36 rfl (by omega) (by omega) (fun c35 => ?_) (fun c35 => ?_)
        · skip
          refine g_iconst dX4_faultOf_43 ?_
          exact g_iret dX4_faultOf_44 rfl rfl ⟨Nat.le_refl _, Nat.le_refl _⟩ (by exact ⟨someI (by unfold fltS; repeat (split) <;> first | rfl | (exfalso; omega) | omega), rfl⟩)
        · skip
          refine g_iconst dX4_faultOf_39 (g_goto 44 dX4_faultOf_40 rfl ?_)
          exact g_iret dX4_faultOf_44 rfl rfl ⟨Nat.le_refl _, Nat.le_refl _⟩ (by exact ⟨someI (by unfold fltS; repeat (split) <;> first | rfl | (exfalso; omega) | omega), rfl⟩)
    · skip
      refine g_iconst dX4_faultOf_17 ?_
      exact g_iret dX4_faultOf_18 rfl rfl ⟨Nat.le_refl _, Nat.le_refl _⟩ (by exact ⟨someI (by unfold fltS; repeat (split) <;> first | rfl | (exfalso; omega) | omega), rfl⟩)
  · skip
    refine g_iconst dX4_faultOf_7 ?_
    exact g_iret dX4_faultOf_8 rfl rfl ⟨Nat.le_refl _, Nat.le_refl _⟩ (by exact ⟨someI (by unfold fltS; repeat (split) <;> first | rfl | (exfalso; omega) | omega), rfl⟩)
def putS (lane v : Int) : Int := if lane = 0 then i2bZ v else if lane = 1 then i2sZ v else v
set_option maxRecDepth 100000 in
set_option maxHeartbeats 4000000 in
theorem e_X4_put {G : GX} {y : LY} {h : HM} {d : Nat} (hY : Lay y) {k : Int} (hk : 0 ≤ k ∧ k < 4) {i v : Int} (hi : 0 ≤ i ∧ i < 40) (hl : 0 ≤ h.I (142 + 2 * k.toNat) 1 ∧ h.I (142 + 2 * k.toNat) 1 ≤ 2) : EvV G mX4_put (d) [.ref (142 + 2 * k.toNat), .int (iZ i), .int (iZ v)] y h (h.sI (143 + 2 * k.toNat) i.toNat (putS (h.I (142 + 2 * k.toNat) 1) v)) := by
  refine Ev.of rfl [some (.ref (142 + 2 * k.toNat)), some (.int (iZ i)), some (.int (iZ v))] rfl (Nat.le_of_ble_eq_true rfl) ?_
  refine g_aload_n dX4_put_0 rfl rfl (gf_X4_15 (M := mX4_put) rfl dX4_put_1 (sh_o hY hk) ?_)
  rcases (by omega : h.I (142 + 2 * k.toNat) 1 = 0 ∨ h.I (142 + 2 * k.toNat) 1 = 1 ∨ h.I (142 + 2 * k.toNat) 1 = 2) with e | e | e <;> rw [e]
  · refine g_lookup 32 dX4_put_4 (by decide) rfl rfl rfl ?_
    refine g_aload_n dX4_put_32 rfl rfl (gf_X4_9 (M := mX4_put) rfl dX4_put_33 (sh_o hY hk) (sh_rr hY hk) (g_iload_n dX4_put_36 rfl rfl (g_iload_n dX4_put_37 rfl rfl (g_i2b dX4_put_38 (g_iast dX4_put_39 (sh_a hY hk) ⟨by omega, by omega, by omega⟩ (g_goto 61 dX4_put_40 rfl ?_))))))
    exact g_vret dX4_put_61 rfl rfl ⟨Nat.le_refl _, Nat.le_refl _⟩ (by exact ⟨rfl, by rw [putS]; simp⟩)
  · refine g_lookup 43 dX4_put_4 (by decide) rfl rfl rfl ?_
    refine g_aload_n dX4_put_43 rfl rfl (gf_X4_9 (M := mX4_put) rfl dX4_put_44 (sh_o hY hk) (sh_rr hY hk) (g_iload_n dX4_put_47 rfl rfl (g_iload_n dX4_put_48 rfl rfl (g_i2s dX4_put_49 (g_iast dX4_put_50 (sh_a hY hk) ⟨by omega, by omega, by omega⟩ (g_goto 61 dX4_put_51 rfl ?_))))))
    exact g_vret dX4_put_61 rfl rfl ⟨Nat.le_refl _, Nat.le_refl _⟩ (by exact ⟨rfl, by rw [putS]; simp⟩)
  · refine g_lookup 54 dX4_put_4 (by decide) rfl rfl rfl ?_
    refine g_aload_n dX4_put_54 rfl rfl (gf_X4_9 (M := mX4_put) rfl dX4_put_55 (sh_o hY hk) (sh_rr hY hk) (g_iload_n dX4_put_58 rfl rfl (g_iload_n dX4_put_59 rfl rfl (g_iast dX4_put_60 (sh_a hY hk) ⟨by omega, by omega, by omega⟩ ?_))))
    exact g_vret dX4_put_61 rfl rfl ⟨Nat.le_refl _, Nat.le_refl _⟩ (by exact ⟨rfl, by rw [putS]; simp⟩)
