set_option maxRecDepth 100000 in
set_option maxHeartbeats 1000000 in
theorem lc_fault {G : GX} {R : Room} {Z : ZT} {y : LY} {h : HM} {cs : Nat × Nat} (hY : Lay y) (hi : Inv h) {at_ : Int} (hat : 0 ≤ at_ ∧ at_ + 7 ≤ G.len) (hlen : G.len < 2147483648) (hR : RO R 20 0 0 cs) (kk : ∀ h2, Inv h2 → Go G mL_law R Z y 2060 [some (.ref 8), some (.ref 9), some (.ref 150), some (.int (iZ at_))] [] h2 cs) : Go G mL_law R Z y 305 [some (.ref 8), some (.ref 9), some (.ref 150), some (.int (iZ at_))] [] h cs := by
  have ef := hi.fa
  have r1 := scV_r G (at_ + 1)
  have r2 := scV_r G (at_ + 2)
  have r3 := scV_r G (at_ + 3)
  have r4 := scV_r G (at_ + 4)
  have r5 := scV_r G (at_ + 5)
  have r6 := scV_r G (at_ + 6)
  refine g_aload_n dL_law_305 rfl rfl (cv_L_30 (M := mL_law) rfl dL_law_306 (yo9 hY) hR (Nat.le_of_ble_eq_true rfl) (e_X8_fault hY) <| kI (g_aload_n dL_law_309 rfl rfl (cv_L_33 (M := mL_law) rfl dL_law_310 (yo150 hY) hR (Nat.le_of_ble_eq_true rfl) (e_X9_fault hY) <| kI ?_)))
  refine g_icmp_eq 2060 dL_law_313 rfl (by omega) (by omega) (fun c313 => ?_) (fun c313 => absurd c313 (by omega))
  exact kk h hi
set_option maxRecDepth 100000 in
set_option maxHeartbeats 1000000 in
theorem lc_rule {G : GX} {R : Room} {Z : ZT} {y : LY} {h : HM} {cs : Nat × Nat} (hY : Lay y) (hi : Inv h) {at_ : Int} (hat : 0 ≤ at_ ∧ at_ + 7 ≤ G.len) (hlen : G.len < 2147483648) (hR : RO R 20 0 0 cs) (kk : ∀ h2, Inv h2 → Go G mL_law R Z y 2060 [some (.ref 8), some (.ref 9), some (.ref 150), some (.int (iZ at_))] [] h2 cs) : Go G mL_law R Z y 318 [some (.ref 8), some (.ref 9), some (.ref 150), some (.int (iZ at_))] [] h cs := by
  have es := hi.st
  have er := hi.rc
  have e0 := es.1.1
  have e1 := es.2.1.1
  have e6 := es.2.2.2
  have hw := hi.cw
  have hsb : ∀ w : Int, R32 (sp_rule (h.I 12 3) (h.I 12 6) (h.I 12 7) (h.I 12 8) (h.I 12 9) (h.I 12 4) w) := fun w => by (have a1 := hw.1.1; have a2 := hw.2.1.1; have a3 := hw.2.2.2.1; have a4 := hw.2.2.2.2; unfold sp_rule; repeat (split); all_goals omega)
  have hs1 := hsb (scV G (at_ + 1))
  have r1 := scV_r G (at_ + 1)
  have r2 := scV_r G (at_ + 2)
  have r3 := scV_r G (at_ + 3)
  have r4 := scV_r G (at_ + 4)
  have r5 := scV_r G (at_ + 5)
  have r6 := scV_r G (at_ + 6)
  refine g_aload_n dL_law_318 rfl rfl (g_aload_n dL_law_319 rfl rfl (g_iload_n dL_law_320 rfl rfl (g_iconst dL_law_321 (g_iadd dL_law_322 (g_sld dL_law_323 ⟨by omega, by omega, by omega⟩ (cv_L_34 (M := mL_law) rfl dL_law_324 (yo9 hY) hR (Nat.le_of_ble_eq_true rfl) (e_X8_rule hY r1) <| kI (g_aload_n dL_law_327 rfl rfl (g_aload_n dL_law_328 rfl rfl (g_iload_n dL_law_329 rfl rfl (g_iconst dL_law_330 (g_iadd dL_law_331 ?_)))))))))))
  refine g_sld dL_law_332 ⟨by omega, by omega, by omega⟩ (cv_L_37 (M := mL_law) rfl dL_law_333 (yo150 hY) hR (Nat.le_of_ble_eq_true rfl) (e_X9_rule hY r1) <| kI ?_)
  rw [e0, e1, e6.1, e6.2.1, e6.2.2, er]
  refine g_icmp_eq 2060 dL_law_336 rfl (by omega) (by omega) (fun c336 => ?_) (fun c336 => absurd c336 (by omega))
  exact kk h hi
