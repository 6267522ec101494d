theorem paP_b {T : Nat → Int} {len : Int} (h : 0 ≤ len) : 0 ≤ (paP T len).fnd ∧ (paP T len).fnd ≤ 6 := by
  have b : PB T len (paP T len) := by unfold paP pa0; exact fiS_B (run_B _ _ _ (P0_B h).adv)
  exact b.2.2.2.2.1
theorem Inv.txt {h h1 h2 : HM} (hi : Inv h) {v v2 : Int} (a : TxtP h v h1) (b : TxR h1 (h.I 11) (h.I 10 1) v2 h2) : v = v2 ∧ Inv h2 := by
  have fb := paP_b (T := h.I 11) hi.tl.2.1
  obtain ⟨⟨_, f9, af⟩, a10, a11, ac⟩ := a
  obtain ⟨_, bo, b9, b14, bc⟩ := b
  have o : ∀ a j : Nat, a < 161 → a ≠ 9 → a ≠ 10 → ¬ (12 ≤ a ∧ a < 68) → a ≠ 69 → ¬ (150 ≤ a ∧ a ≤ 153) → h2.I a j = h.I a j := fun a j q0 q1 q2 q3 q4 q5 => by
    rw [bo a j (by omega) (by omega) (by omega) (by omega)]; exact af a j q0 q1 q2 q3 q4
  have e1 : h2.I 10 1 = 0 := by rw [bo 10 1 (by omega) (by omega) (by omega) (by omega)]; exact a10
  have e11 : h2.I 9 11 = (paP (h.I 11) (h.I 10 1)).fnd := by rw [bo 9 11 (by omega) (by omega) (by omega) (by omega)]; exact a11
  have e12 : h2.I 9 12 = h.I 9 12 := by rw [bo 9 12 (by omega) (by omega) (by omega) (by omega)]; exact f9 12 (by omega)
  have e26 : h2.I 150 26 = h.I 150 26 := by rw [bo 150 26 (by omega) (by omega) (by omega) (by omega)]; exact af 150 26 (by omega) (by omega) (by omega) (by omega) (by omega)
  have vS : IvS h2 := hi.vS.fr (fun a j q => o a j (by omega) (by omega) (by omega) (by omega) (by omega) (by omega))
  have vT : IvT h2 := ⟨⟨by rw [b9, e1], by rw [e1]; omega⟩, fun j => by rw [o 154 j (by omega) (by omega) (by omega) (by omega) (by omega) (by omega), o 11 j (by omega) (by omega) (by omega) (by omega) (by omega) (by omega)]; exact hi.tp j⟩
  have vF : IvF h2 := ⟨⟨by rw [b14, e11], by rw [e11]; exact fb⟩, by rw [e26, e12]; exact hi.to⟩
  have ca : ∀ a j : Nat, (12 ≤ a ∧ a < 40) ∨ a = 69 → h2.I a j = h1.I a j := fun a j q => bo a j (by omega) (by omega) (by omega) (by omega)
  have r1 : ∀ j, h1.I 151 j = h.I 151 j := fun j => af 151 j (by omega) (by omega) (by omega) (by omega) (by omega)
  have r2 : ∀ j, h1.I 152 j = h.I 152 j := fun j => af 152 j (by omega) (by omega) (by omega) (by omega) (by omega)
  have r0 : h1.I 150 2 = h.I 150 2 := af 150 2 (by omega) (by omega) (by omega) (by omega) (by omega)
  rcases ac with ⟨a1, a2, a3, a4⟩ | ⟨a1, a2, aD, aV, aW, aG, a5, a6⟩
  · rcases bc with ⟨b1, b2, b3, b4, b5⟩ | ⟨b1, _⟩
    · refine ⟨a2.trans b2.symm, Inv.of (hi.vC.fr (fun a j q => ?_)) (hi.vK.fr (fun a j q => ?_)) vS vT vF⟩
      · rcases q with q | q | q
        · rw [ca a j (Or.inl q)]; exact a3 a j q.1 q.2
        · rw [q, b3, r1]
        · rw [q.1, q.2, b5, r0]
      · rcases q with q | q | q | q | q
        · rw [q, ca 69 j (Or.inr rfl), a4]
        · rw [q, b4, r2]
        · exact o a j (by omega) (by omega) (by omega) (by omega) (by omega) (by omega)
        · rw [q.1, b3, r1]
        · rw [q.1, q.2, ca 12 9 (by omega)]; exact a3 12 9 (by omega) (by omega)
    · exact absurd b1 a1
  · rcases bc with ⟨b1, _⟩ | ⟨b1, b2, bK, b3, b4, b5⟩
    · exact absurd a1 b1
    · refine ⟨a2.trans b2.symm, ?_⟩
      generalize (pa0 (h.I 11) (h.I 10 1)).1.2 = D at *
      obtain ⟨⟨c3, cF⟩, ⟨c4, cV⟩, c5_, c6, c7, c8, c9⟩ := aD
      obtain ⟨⟨k0, kF⟩, ⟨k37, kV⟩, ⟨k68, k69, k70, k71⟩, k2⟩ := bK
      have g : ∀ j, h2.I 12 j = h1.I 12 j := fun j => ca 12 j (by omega)
      have hF : RF h2 D.F := ⟨by rw [k0]; exact aV.1.1, fun i i0 i1 => by rw [k0] at i1; exact ⟨kF i i0 i1, aV.1.2 _ (by omega)⟩⟩
      have hV : RV h2 D.V := ⟨by rw [k37]; exact aV.2.1.1, fun i i0 i1 => by rw [k37] at i1; rw [k0]; exact ⟨kV i i0 i1, aV.2.1.2 _ (by omega), aG _ (by omega)⟩⟩
      have hS : RS h2 (cSs h2 12) := ⟨by rw [k71]; omega, fun i i0 i1 => by rw [k71] at i1; omega⟩
      have c : IvC h2 := by
        refine IvC.re hF hV hS (by rw [k0, g, c3]) (by rw [k37, g, c4]) (by rw [k71, g, c5_]) (by rw [g, g, g, c6, c7, c8]; exact ⟨k68, k69, k70⟩) (by rw [g, g, g, c6, c7, c8]; exact aW.2) (by rw [g, c9]; exact aW.1) (by rw [g, c9]; exact k2) (fun i i0 i1 => ?_) (fun i i0 i1 => ?_) (fun i i0 i1 => rfl)
        · rw [g, c3] at i1
          rw [show cFs h2 12 i.toNat = c5 h1 (12 + 4 + i.toNat) from c5_eq (fun j => ca _ j (by have := aV.1.1; omega))]
          exact (cF _ (by omega)).symm
        · rw [g, c4] at i1
          rw [show cVs h2 12 i.toNat = c5 h1 (12 + 10 + i.toNat) from c5_eq (fun j => ca _ j (by have := aV.2.1.1; omega))]
          exact (cV _ (by omega)).symm
      have z69 : ∀ k : Nat, k < 2 → h2.I 69 k = 0 := fun k hk => by
        rw [ca 69 k (Or.inr rfl)]
        rcases (by omega : k = 0 ∨ k = 1) with q | q
        · rw [q]; exact a5
        · rw [q]; exact a6
      have z152 : ∀ k : Nat, k < 2 → h2.I 152 k = 0 := fun k hk => by
        rcases (by omega : k = 0 ∨ k = 1) with q | q
        · rw [q]; exact b4
        · rw [q]; exact b5
      exact Inv.of c ⟨fun k hk => by rw [z69 k hk, z152 k hk]; exact ⟨rfl, Or.inl rfl⟩, fun k hk q => by rw [z69 k hk] at q; omega⟩ vS vT vF
set_option maxRecDepth 100000 in
set_option maxHeartbeats 1000000 in
theorem lc_text {G : GX} {R : Room} {Z : ZT} {y : LY} {h : HM} {cs : Nat × Nat} (hY : Lay y) (hi : Inv h) {at_ : Int} (hat : 0 ≤ at_ ∧ at_ + 7 ≤ G.len) (hlen : G.len < 2147483648) (hR : RO R 20 1 9 cs) (kk : ∀ y2 h2, Lay y2 → Inv h2 → Go G mL_law R Z y2 2060 [some (.ref 8), some (.ref 9), some (.ref 150), some (.int (iZ at_))] [] h2 (cs.1 + 1, cs.2 + 9)) : Go G mL_law R Z y 292 [some (.ref 8), some (.ref 9), some (.ref 150), some (.int (iZ at_))] [] h cs := by
  have hT : TP h (h.I 11) (h.I 10 1) := ⟨rfl, rfl, hi.tl.2, fun j _ => (hi.tp j).2⟩
  have hY2 := yT_Lay hY
  have hR2 : RO R 20 0 0 (cs.1 + 1, cs.2 + 9) := ⟨hR.1, hR.2.1, hR.2.2.1, hR.2.2.2⟩
  refine g_aload_n dL_law_292 rfl rfl (cv_L_25 (M := mL_law) rfl dL_law_293 (yo9 hY) hR (Nat.le_of_ble_eq_true rfl) (e_X8_text hY hT) ?_)
  rintro _ h293 ⟨v293, rfl, hq293⟩
  have f := hq293.1.2.2
  have hT2 : TT h293 (h.I 11) (h.I 10 1) := ⟨by rw [f 150 9 (by omega) (by omega) (by omega) (by omega) (by omega)]; exact hi.tl.1, hi.tl.2, fun j _ => by rw [f 154 j (by omega) (by omega) (by omega) (by omega) (by omega)]; exact hi.tp j⟩
  refine g_aload_n dL_law_296 rfl rfl (cv_L_29 (M := mL_law) rfl dL_law_297 (yo150 hY2) hR2 (Nat.le_of_ble_eq_true rfl) (e_X9_text hY2 hT2) <| kQX fun v297 h297 hq297 => ?_)
  have hx := hi.txt hq293 hq297
  refine g_ieqS 2060 dL_law_300 rfl hx.1 ?_
  exact kk _ _ hY2 hx.2
