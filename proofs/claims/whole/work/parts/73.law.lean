set_option maxRecDepth 100000 in
set_option maxHeartbeats 1000000 in
theorem lc_fault {G : GX} {R : Room} {Z : ZT} {y : LY} {h : HM} {cs : Nat × Nat} (hY : Lay y) (hi : Inv h) {at_ : Int} (hat : 0 ≤ at_ ∧ at_ + 7 ≤ G.len) (hlen : G.len < 2147483648) (hR : RO R 20 0 0 cs) (kk : ∀ h2, Inv h2 → Go G mL_law R Z y 2060 [some (.ref 8), some (.ref 9), some (.ref 150), some (.int (iZ at_))] [] h2 cs) : Go G mL_law R Z y 305 [some (.ref 8), some (.ref 9), some (.ref 150), some (.int (iZ at_))] [] h cs := by
  have ef := hi.fa
  have r1 := scV_r G (at_ + 1)
  have r2 := scV_r G (at_ + 2)
  have r3 := scV_r G (at_ + 3)
  have r4 := scV_r G (at_ + 4)
  have r5 := scV_r G (at_ + 5)
  have r6 := scV_r G (at_ + 6)
  refine g_aload_n dL_law_305 rfl rfl (cv_L_30 (M := mL_law) rfl dL_law_306 (yo9 hY) hR (Nat.le_of_ble_eq_true rfl) (e_X8_fault hY) <| kI (g_aload_n dL_law_309 rfl rfl (cv_L_33 (M := mL_law) rfl dL_law_310 (yo150 hY) hR (Nat.le_of_ble_eq_true rfl) (e_X9_fault hY) <| kI ?_)))
  refine g_icmp_eq 2060 dL_law_313 rfl (by omega) (by omega) (fun c313 => ?_) (fun c313 => absurd c313 (by omega))
  exact kk h hi
set_option maxRecDepth 100000 in
set_option maxHeartbeats 1000000 in
theorem lc_rule {G : GX} {R : Room} {Z : ZT} {y : LY} {h : HM} {cs : Nat × Nat} (hY : Lay y) (hi : Inv h) {at_ : Int} (hat : 0 ≤ at_ ∧ at_ + 7 ≤ G.len) (hlen : G.len < 2147483648) (hR : RO R 20 0 0 cs) (kk : ∀ h2, Inv h2 → Go G mL_law R Z y 2060 [some (.ref 8), some (.ref 9), some (.ref 150), some (.int (iZ at_))] [] h2 cs) : Go G mL_law R Z y 318 [some (.ref 8), some (.ref 9), some (.ref 150), some (.int (iZ at_))] [] h cs := by
  have es := hi.st
  have er := hi.rc
  have e0 := es.1.1
  have e1 := es.2.1.1
  have e6 := es.2.2.2
  have hw := hi.cw
  have hsb : ∀ w : Int, R32 (sp_rule (h.I 12 3) (h.I 12 6) (h.I 12 7) (h.I 12 8) (h.I 12 9) (h.I 12 4) w) := fun w => by (have a1 := hw.1.1; have a2 := hw.2.1.1; have a3 := hw.2.2.2.1; have a4 := hw.2.2.2.2; unfold sp_rule; repeat (split); all_goals omega)
  have hs1 := hsb (scV G (at_ + 1))
  have r1 := scV_r G (at_ + 1)
  have r2 := scV_r G (at_ + 2)
  have r3 := scV_r G (at_ + 3)
  have r4 := scV_r G (at_ + 4)
  have r5 := scV_r G (at_ + 5)
  have r6 := scV_r G (at_ + 6)
  refine g_aload_n dL_law_318 rfl rfl (g_aload_n dL_law_319 rfl rfl (g_iload_n dL_law_320 rfl rfl (g_iconst dL_law_321 (g_iadd dL_law_322 (g_sld dL_law_323 ⟨by omega, by omega, by omega⟩ (cv_L_34 (M := mL_law) rfl dL_law_324 (yo9 hY) hR (Nat.le_of_ble_eq_true rfl) (e_X8_rule hY r1) <| kI (g_aload_n dL_law_327 rfl rfl (g_aload_n dL_law_328 rfl rfl (g_iload_n dL_law_329 rfl rfl (g_iconst dL_law_330 (g_iadd dL_law_331 ?_)))))))))))
  refine g_sld dL_law_332 ⟨by omega, by omega, by omega⟩ (cv_L_37 (M := mL_law) rfl dL_law_333 (yo150 hY) hR (Nat.le_of_ble_eq_true rfl) (e_X9_rule hY r1) <| kI ?_)
  rw [e0, e1, e6.1, e6.2.1, e6.2.2, er]
  refine g_icmp_eq 2060 dL_law_336 rfl (by omega) (by omega) (fun c336 => ?_) (fun c336 => absurd c336 (by omega))
  exact kk h hi
set_option maxRecDepth 100000 in
set_option maxHeartbeats 1000000 in
theorem lc_figure {G : GX} {R : Room} {Z : ZT} {y : LY} {h : HM} {cs : Nat × Nat} (hY : Lay y) (hi : Inv h) {at_ : Int} (hat : 0 ≤ at_ ∧ at_ + 7 ≤ G.len) (hlen : G.len < 2147483648) (hR : RO R 20 0 0 cs) (kk : ∀ h2, Inv h2 → Go G mL_law R Z y 2060 [some (.ref 8), some (.ref 9), some (.ref 150), some (.int (iZ at_))] [] h2 cs) : Go G mL_law R Z y 341 [some (.ref 8), some (.ref 9), some (.ref 150), some (.int (iZ at_))] [] h cs := by
  have es := hi.st
  have hw := hi.cw
  have e0 := es.1.1
  have e1 := es.2.1.1
  have e5 := es.2.2.1.1
  have e6 := es.2.2.2
  have w6 := hw.2.2.2.1
  have r1 := scV_r G (at_ + 1)
  have r2 := scV_r G (at_ + 2)
  have r3 := scV_r G (at_ + 3)
  have r4 := scV_r G (at_ + 4)
  have r5 := scV_r G (at_ + 5)
  have r6 := scV_r G (at_ + 6)
  refine g_aload_n dL_law_341 rfl rfl (g_aload_n dL_law_342 rfl rfl (g_iload_n dL_law_343 rfl rfl (g_iconst dL_law_344 (g_iadd dL_law_345 (g_sld dL_law_346 ⟨by omega, by omega, by omega⟩ (g_aload_n dL_law_347 rfl rfl (g_iload_n dL_law_348 rfl rfl (g_iconst dL_law_349 (g_iadd dL_law_350 (g_sld dL_law_351 ⟨by omega, by omega, by omega⟩ (cv_L_38 (M := mL_law) rfl dL_law_352 (yo9 hY) hR (Nat.le_of_ble_eq_true rfl) (e_X8_figure hY r1 r2 hw.F) <| kI ?_)))))))))))
  refine g_aload_n dL_law_355 rfl rfl (g_aload_n dL_law_356 rfl rfl (g_iload_n dL_law_357 rfl rfl (g_iconst dL_law_358 (g_iadd dL_law_359 (g_sld dL_law_360 ⟨by omega, by omega, by omega⟩ (g_aload_n dL_law_361 rfl rfl (g_iload_n dL_law_362 rfl rfl (g_iconst dL_law_363 (g_iadd dL_law_364 (g_sld dL_law_365 ⟨by omega, by omega, by omega⟩ (cv_L_42 (M := mL_law) rfl dL_law_366 (yo150 hY) hR (Nat.le_of_ble_eq_true rfl) (e_X9_figure hY hi.rf r1 r2) <| kI ?_)))))))))))
  refine g_ieqS 2060 dL_law_369 rfl (by rw [e0]) ?_
  exact kk h hi
set_option maxRecDepth 100000 in
set_option maxHeartbeats 1000000 in
theorem lc_vote {G : GX} {R : Room} {Z : ZT} {y : LY} {h : HM} {cs : Nat × Nat} (hY : Lay y) (hi : Inv h) {at_ : Int} (hat : 0 ≤ at_ ∧ at_ + 7 ≤ G.len) (hlen : G.len < 2147483648) (hR : RO R 20 0 0 cs) (kk : ∀ h2, Inv h2 → Go G mL_law R Z y 2060 [some (.ref 8), some (.ref 9), some (.ref 150), some (.int (iZ at_))] [] h2 cs) : Go G mL_law R Z y 374 [some (.ref 8), some (.ref 9), some (.ref 150), some (.int (iZ at_))] [] h cs := by
  have es := hi.st
  have hw := hi.cw
  have e0 := es.1.1
  have e1 := es.2.1.1
  have e5 := es.2.2.1.1
  have e6 := es.2.2.2
  have w6 := hw.2.2.2.1
  have r1 := scV_r G (at_ + 1)
  have r2 := scV_r G (at_ + 2)
  have r3 := scV_r G (at_ + 3)
  have r4 := scV_r G (at_ + 4)
  have r5 := scV_r G (at_ + 5)
  have r6 := scV_r G (at_ + 6)
  refine g_aload_n dL_law_374 rfl rfl (g_aload_n dL_law_375 rfl rfl (g_iload_n dL_law_376 rfl rfl (g_iconst dL_law_377 (g_iadd dL_law_378 (g_sld dL_law_379 ⟨by omega, by omega, by omega⟩ (g_aload_n dL_law_380 rfl rfl (g_iload_n dL_law_381 rfl rfl (g_iconst dL_law_382 (g_iadd dL_law_383 (g_sld dL_law_384 ⟨by omega, by omega, by omega⟩ (cv_L_43 (M := mL_law) rfl dL_law_385 (yo9 hY) hR (Nat.le_of_ble_eq_true rfl) (e_X8_vote hY r1 r2 hw.2.1.1) <| kI ?_)))))))))))
  refine g_aload_n dL_law_388 rfl rfl (g_aload_n dL_law_389 rfl rfl (g_iload_n dL_law_390 rfl rfl (g_iconst dL_law_391 (g_iadd dL_law_392 (g_sld dL_law_393 ⟨by omega, by omega, by omega⟩ (g_aload_n dL_law_394 rfl rfl (g_iload_n dL_law_395 rfl rfl (g_iconst dL_law_396 (g_iadd dL_law_397 (g_sld dL_law_398 ⟨by omega, by omega, by omega⟩ (cv_L_46 (M := mL_law) rfl dL_law_399 (yo150 hY) hR (Nat.le_of_ble_eq_true rfl) (e_X9_vote hY hi.rv r1 r2) <| kI ?_)))))))))))
  refine g_ieqS 2060 dL_law_402 rfl (by rw [e1]; rfl) ?_
  exact kk h hi
set_option maxRecDepth 100000 in
set_option maxHeartbeats 1000000 in
theorem lc_out {G : GX} {R : Room} {Z : ZT} {y : LY} {h : HM} {cs : Nat × Nat} (hY : Lay y) (hi : Inv h) {at_ : Int} (hat : 0 ≤ at_ ∧ at_ + 7 ≤ G.len) (hlen : G.len < 2147483648) (hR : RO R 20 0 0 cs) (kk : ∀ h2, Inv h2 → Go G mL_law R Z y 2060 [some (.ref 8), some (.ref 9), some (.ref 150), some (.int (iZ at_))] [] h2 cs) : Go G mL_law R Z y 407 [some (.ref 8), some (.ref 9), some (.ref 150), some (.int (iZ at_))] [] h cs := by
  have es := hi.st
  have hw := hi.cw
  have e0 := es.1.1
  have e1 := es.2.1.1
  have e5 := es.2.2.1.1
  have e6 := es.2.2.2
  have w6 := hw.2.2.2.1
  have r1 := scV_r G (at_ + 1)
  have r2 := scV_r G (at_ + 2)
  have r3 := scV_r G (at_ + 3)
  have r4 := scV_r G (at_ + 4)
  have r5 := scV_r G (at_ + 5)
  have r6 := scV_r G (at_ + 6)
  refine g_aload_n dL_law_407 rfl rfl (g_aload_n dL_law_408 rfl rfl (g_iload_n dL_law_409 rfl rfl (g_iconst dL_law_410 (g_iadd dL_law_411 (g_sld dL_law_412 ⟨by omega, by omega, by omega⟩ (g_aload_n dL_law_413 rfl rfl (g_iload_n dL_law_414 rfl rfl (g_iconst dL_law_415 (g_iadd dL_law_416 (g_sld dL_law_417 ⟨by omega, by omega, by omega⟩ (g_i2l dL_law_418 (by omega) ?_)))))))))))
  refine g_bipush dL_law_419 kb32 (g_lshl dL_law_421 (g_aload_n dL_law_422 rfl rfl (g_iload_n dL_law_423 rfl rfl (g_iconst dL_law_424 (g_iadd dL_law_425 (g_sld dL_law_426 ⟨by omega, by omega, by omega⟩ (g_i2l dL_law_427 (by omega) (c2_L_13 (M := mL_law) rfl dL_law_428 (g_land dL_law_431 (g_lor dL_law_432 (cv_L_47 (M := mL_law) rfl dL_law_433 (yo9 hY) hR (Nat.le_of_ble_eq_true rfl) (e_X8_out hY r1 (lOr_r _ _) hw.F) <| kI ?_)))))))))))
  refine g_aload_n dL_law_436 rfl rfl (g_aload_n dL_law_437 rfl rfl (g_iload_n dL_law_438 rfl rfl (g_iconst dL_law_439 (g_iadd dL_law_440 (g_sld dL_law_441 ⟨by omega, by omega, by omega⟩ (g_aload_n dL_law_442 rfl rfl (g_iload_n dL_law_443 rfl rfl (g_iconst dL_law_444 (g_iadd dL_law_445 (g_sld dL_law_446 ⟨by omega, by omega, by omega⟩ (g_i2l dL_law_447 (by omega) ?_)))))))))))
  refine g_bipush dL_law_448 kb32 (g_lshl dL_law_450 (g_aload_n dL_law_451 rfl rfl (g_iload_n dL_law_452 rfl rfl (g_iconst dL_law_453 (g_iadd dL_law_454 (g_sld dL_law_455 ⟨by omega, by omega, by omega⟩ (g_i2l dL_law_456 (by omega) (c2_L_13 (M := mL_law) rfl dL_law_457 (g_land dL_law_460 (g_lor dL_law_461 (cv_L_51 (M := mL_law) rfl dL_law_462 (yo150 hY) hR (Nat.le_of_ble_eq_true rfl) (e_X9_out hY hi.rf r1 (lOr_r _ _)) <| kI ?_)))))))))))
  refine g_ieqS 2060 dL_law_465 rfl (by rw [e0]) ?_
  exact kk h hi
set_option maxRecDepth 100000 in
set_option maxHeartbeats 1000000 in
theorem lc_last {G : GX} {R : Room} {Z : ZT} {y : LY} {h : HM} {cs : Nat × Nat} (hY : Lay y) (hi : Inv h) {at_ : Int} (hat : 0 ≤ at_ ∧ at_ + 7 ≤ G.len) (hlen : G.len < 2147483648) (hR : RO R 20 0 0 cs) (kk : ∀ h2, Inv h2 → Go G mL_law R Z y 2060 [some (.ref 8), some (.ref 9), some (.ref 150), some (.int (iZ at_))] [] h2 cs) : Go G mL_law R Z y 534 [some (.ref 8), some (.ref 9), some (.ref 150), some (.int (iZ at_))] [] h cs := by
  have es := hi.st
  have hw := hi.cw
  have e0 := es.1.1
  have e1 := es.2.1.1
  have e5 := es.2.2.1.1
  have e6 := es.2.2.2
  have w6 := hw.2.2.2.1
  have r1 := scV_r G (at_ + 1)
  have r2 := scV_r G (at_ + 2)
  have r3 := scV_r G (at_ + 3)
  have r4 := scV_r G (at_ + 4)
  have r5 := scV_r G (at_ + 5)
  have r6 := scV_r G (at_ + 6)
  refine g_aload_n dL_law_534 rfl rfl (g_aload_n dL_law_535 rfl rfl (g_iload_n dL_law_536 rfl rfl (g_iconst dL_law_537 (g_iadd dL_law_538 (g_sld dL_law_539 ⟨by omega, by omega, by omega⟩ (g_aload_n dL_law_540 rfl rfl (g_iload_n dL_law_541 rfl rfl (g_iconst dL_law_542 (g_iadd dL_law_543 (g_sld dL_law_544 ⟨by omega, by omega, by omega⟩ (g_i2l dL_law_545 (by omega) ?_)))))))))))
  refine g_bipush dL_law_546 kb32 (g_lshl dL_law_548 (g_aload_n dL_law_549 rfl rfl (g_iload_n dL_law_550 rfl rfl (g_iconst dL_law_551 (g_iadd dL_law_552 (g_sld dL_law_553 ⟨by omega, by omega, by omega⟩ (g_i2l dL_law_554 (by omega) (c2_L_13 (M := mL_law) rfl dL_law_555 (g_land dL_law_558 (g_lor dL_law_559 ?_))))))))))
  refine cv_L_57 (M := mL_law) rfl dL_law_560 (yo9 hY) hR (Nat.le_of_ble_eq_true rfl) (e_X8_last hY r1 (lOr_r _ _) hw.F) (kQL fun v560 hq560 => ?_)
  refine g_aload_n dL_law_563 rfl rfl (g_aload_n dL_law_564 rfl rfl (g_iload_n dL_law_565 rfl rfl (g_iconst dL_law_566 (g_iadd dL_law_567 (g_sld dL_law_568 ⟨by omega, by omega, by omega⟩ (g_aload_n dL_law_569 rfl rfl (g_iload_n dL_law_570 rfl rfl (g_iconst dL_law_571 (g_iadd dL_law_572 (g_sld dL_law_573 ⟨by omega, by omega, by omega⟩ (g_i2l dL_law_574 (by omega) ?_)))))))))))
  refine g_bipush dL_law_575 kb32 (g_lshl dL_law_577 (g_aload_n dL_law_578 rfl rfl (g_iload_n dL_law_579 rfl rfl (g_iconst dL_law_580 (g_iadd dL_law_581 (g_sld dL_law_582 ⟨by omega, by omega, by omega⟩ (g_i2l dL_law_583 (by omega) (c2_L_13 (M := mL_law) rfl dL_law_584 (g_land dL_law_587 (g_lor dL_law_588 ?_))))))))))
  refine cv_L_60 (M := mL_law) rfl dL_law_589 (yo150 hY) hR (Nat.le_of_ble_eq_true rfl) (e_X9_last hY hi.rf r1 (lOr_r _ _)) (kQL fun v589 hq589 => ?_)
  refine g_leqS 2060 dL_law_592 dL_law_593 rfl (by (rw [e0] at hq589; rcases hq560 with ⟨a1, a2⟩ | ⟨a1, a2⟩ <;> rcases hq589 with ⟨b1, b2⟩ | ⟨b1, b2⟩ <;> first | omega | exact absurd b1 a1 | exact absurd a1 b1 | exact a2.uniq b2)) ?_
  exact kk h hi
set_option maxRecDepth 100000 in
set_option maxHeartbeats 1000000 in
theorem lc_crash {G : GX} {R : Room} {Z : ZT} {y : LY} {h : HM} {cs : Nat × Nat} (hY : Lay y) (hi : Inv h) {at_ : Int} (hat : 0 ≤ at_ ∧ at_ + 7 ≤ G.len) (hlen : G.len < 2147483648) (hR : RO R 20 0 0 cs) (kk : ∀ h2, Inv h2 → Go G mL_law R Z y 2060 [some (.ref 8), some (.ref 9), some (.ref 150), some (.int (iZ at_))] [] h2 cs) : Go G mL_law R Z y 980 [some (.ref 8), some (.ref 9), some (.ref 150), some (.int (iZ at_))] [] h cs := by
  have es := hi.st
  have hw := hi.cw
  have e0 := es.1.1
  have e1 := es.2.1.1
  have e5 := es.2.2.1.1
  have e6 := es.2.2.2
  have w6 := hw.2.2.2.1
  have r1 := scV_r G (at_ + 1)
  have r2 := scV_r G (at_ + 2)
  have r3 := scV_r G (at_ + 3)
  have r4 := scV_r G (at_ + 4)
  have r5 := scV_r G (at_ + 5)
  have r6 := scV_r G (at_ + 6)
  refine g_aload_n dL_law_980 rfl rfl (g_aload_n dL_law_981 rfl rfl (g_iload_n dL_law_982 rfl rfl (g_iconst dL_law_983 (g_iadd dL_law_984 (g_sld dL_law_985 ⟨by omega, by omega, by omega⟩ (cv_L_85 (M := mL_law) rfl dL_law_986 (yo9 hY) hR (Nat.le_of_ble_eq_true rfl) (e_X8_crash hY r1 hw.F) <| kI (g_aload_n dL_law_989 rfl rfl (g_aload_n dL_law_990 rfl rfl (g_iload_n dL_law_991 rfl rfl (g_iconst dL_law_992 (g_iadd dL_law_993 ?_)))))))))))
  refine g_sld dL_law_994 ⟨by omega, by omega, by omega⟩ (cv_L_88 (M := mL_law) rfl dL_law_995 (yo150 hY) hR (Nat.le_of_ble_eq_true rfl) (e_X9_crash hY hi.rf r1) <| kI ?_)
  refine g_ieqS 2060 dL_law_998 rfl (by rw [e0]) ?_
  exact kk h hi
set_option maxRecDepth 100000 in
set_option maxHeartbeats 1000000 in
theorem lc_date {G : GX} {R : Room} {Z : ZT} {y : LY} {h : HM} {cs : Nat × Nat} (hY : Lay y) (hi : Inv h) {at_ : Int} (hat : 0 ≤ at_ ∧ at_ + 7 ≤ G.len) (hlen : G.len < 2147483648) (hR : RO R 20 0 0 cs) (kk : ∀ h2, Inv h2 → Go G mL_law R Z y 2060 [some (.ref 8), some (.ref 9), some (.ref 150), some (.int (iZ at_))] [] h2 cs) : Go G mL_law R Z y 1067 [some (.ref 8), some (.ref 9), some (.ref 150), some (.int (iZ at_))] [] h cs := by
  have es := hi.st
  have hw := hi.cw
  have e0 := es.1.1
  have e1 := es.2.1.1
  have e5 := es.2.2.1.1
  have e6 := es.2.2.2
  have w6 := hw.2.2.2.1
  have r1 := scV_r G (at_ + 1)
  have r2 := scV_r G (at_ + 2)
  have r3 := scV_r G (at_ + 3)
  have r4 := scV_r G (at_ + 4)
  have r5 := scV_r G (at_ + 5)
  have r6 := scV_r G (at_ + 6)
  refine g_aload_n dL_law_1067 rfl rfl (g_aload_n dL_law_1068 rfl rfl (g_iload_n dL_law_1069 rfl rfl (g_iconst dL_law_1070 (g_iadd dL_law_1071 (g_sld dL_law_1072 ⟨by omega, by omega, by omega⟩ (g_i2l dL_law_1073 (by omega) (g_bipush dL_law_1074 kb32 (g_lshl dL_law_1076 (g_aload_n dL_law_1077 rfl rfl (g_iload_n dL_law_1078 rfl rfl (g_iconst dL_law_1079 ?_)))))))))))
  refine g_iadd dL_law_1080 (g_sld dL_law_1081 ⟨by omega, by omega, by omega⟩ (g_i2l dL_law_1082 (by omega) (c2_L_13 (M := mL_law) rfl dL_law_1083 (g_land dL_law_1086 (g_lor dL_law_1087 (g_aload_n dL_law_1088 rfl rfl (g_iload_n dL_law_1089 rfl rfl (g_iconst dL_law_1090 (g_iadd dL_law_1091 (g_sld dL_law_1092 ⟨by omega, by omega, by omega⟩ (cv_L_94 (M := mL_law) rfl dL_law_1093 (yo9 hY) hR (Nat.le_of_ble_eq_true rfl) (e_X8_date hY (lOr_r _ _) r3) <| kL ?_)))))))))))
  refine g_aload_n dL_law_1096 rfl rfl (g_aload_n dL_law_1097 rfl rfl (g_iload_n dL_law_1098 rfl rfl (g_iconst dL_law_1099 (g_iadd dL_law_1100 (g_sld dL_law_1101 ⟨by omega, by omega, by omega⟩ (g_i2l dL_law_1102 (by omega) (g_bipush dL_law_1103 kb32 (g_lshl dL_law_1105 (g_aload_n dL_law_1106 rfl rfl (g_iload_n dL_law_1107 rfl rfl (g_iconst dL_law_1108 ?_)))))))))))
  refine g_iadd dL_law_1109 (g_sld dL_law_1110 ⟨by omega, by omega, by omega⟩ (g_i2l dL_law_1111 (by omega) (c2_L_13 (M := mL_law) rfl dL_law_1112 (g_land dL_law_1115 (g_lor dL_law_1116 (g_aload_n dL_law_1117 rfl rfl (g_iload_n dL_law_1118 rfl rfl (g_iconst dL_law_1119 (g_iadd dL_law_1120 (g_sld dL_law_1121 ⟨by omega, by omega, by omega⟩ (cv_L_97 (M := mL_law) rfl dL_law_1122 (yo150 hY) hR (Nat.le_of_ble_eq_true rfl) (e_X9_date hY (lOr_r _ _) r3) <| kL ?_)))))))))))
  refine g_leqS 2060 dL_law_1125 dL_law_1126 rfl (rfl) ?_
  exact kk h hi
set_option maxRecDepth 100000 in
set_option maxHeartbeats 1000000 in
theorem lc_day {G : GX} {R : Room} {Z : ZT} {y : LY} {h : HM} {cs : Nat × Nat} (hY : Lay y) (hi : Inv h) {at_ : Int} (hat : 0 ≤ at_ ∧ at_ + 7 ≤ G.len) (hlen : G.len < 2147483648) (hR : RO R 20 0 0 cs) (kk : ∀ h2, Inv h2 → Go G mL_law R Z y 2060 [some (.ref 8), some (.ref 9), some (.ref 150), some (.int (iZ at_))] [] h2 cs) : Go G mL_law R Z y 1131 [some (.ref 8), some (.ref 9), some (.ref 150), some (.int (iZ at_))] [] h cs := by
  have es := hi.st
  have hw := hi.cw
  have e0 := es.1.1
  have e1 := es.2.1.1
  have e5 := es.2.2.1.1
  have e6 := es.2.2.2
  have w6 := hw.2.2.2.1
  have r1 := scV_r G (at_ + 1)
  have r2 := scV_r G (at_ + 2)
  have r3 := scV_r G (at_ + 3)
  have r4 := scV_r G (at_ + 4)
  have r5 := scV_r G (at_ + 5)
  have r6 := scV_r G (at_ + 6)
  refine g_aload_n dL_law_1131 rfl rfl (g_aload_n dL_law_1132 rfl rfl (g_iload_n dL_law_1133 rfl rfl (g_iconst dL_law_1134 (g_iadd dL_law_1135 (g_sld dL_law_1136 ⟨by omega, by omega, by omega⟩ (g_aload_n dL_law_1137 rfl rfl (g_iload_n dL_law_1138 rfl rfl (g_iconst dL_law_1139 (g_iadd dL_law_1140 (g_sld dL_law_1141 ⟨by omega, by omega, by omega⟩ (cv_L_98 (M := mL_law) rfl dL_law_1142 (yo9 hY) hR (Nat.le_of_ble_eq_true rfl) (e_X8_day hY r1 r2) <| kL ?_)))))))))))
  refine g_aload_n dL_law_1145 rfl rfl (g_aload_n dL_law_1146 rfl rfl (g_iload_n dL_law_1147 rfl rfl (g_iconst dL_law_1148 (g_iadd dL_law_1149 (g_sld dL_law_1150 ⟨by omega, by omega, by omega⟩ (g_aload_n dL_law_1151 rfl rfl (g_iload_n dL_law_1152 rfl rfl (g_iconst dL_law_1153 (g_iadd dL_law_1154 (g_sld dL_law_1155 ⟨by omega, by omega, by omega⟩ (cv_L_102 (M := mL_law) rfl dL_law_1156 (yo150 hY) hR (Nat.le_of_ble_eq_true rfl) (e_X9_day hY r1 r2) <| kL ?_)))))))))))
  refine g_leqS 2060 dL_law_1159 dL_law_1160 rfl (rfl) ?_
  exact kk h hi
set_option maxRecDepth 100000 in
set_option maxHeartbeats 1000000 in
theorem lc_by {G : GX} {R : Room} {Z : ZT} {y : LY} {h : HM} {cs : Nat × Nat} (hY : Lay y) (hi : Inv h) {at_ : Int} (hat : 0 ≤ at_ ∧ at_ + 7 ≤ G.len) (hlen : G.len < 2147483648) (hR : RO R 20 0 0 cs) (kk : ∀ h2, Inv h2 → Go G mL_law R Z y 2060 [some (.ref 8), some (.ref 9), some (.ref 150), some (.int (iZ at_))] [] h2 cs) : Go G mL_law R Z y 1165 [some (.ref 8), some (.ref 9), some (.ref 150), some (.int (iZ at_))] [] h cs := by
  have es := hi.st
  have hw := hi.cw
  have e0 := es.1.1
  have e1 := es.2.1.1
  have e5 := es.2.2.1.1
  have e6 := es.2.2.2
  have w6 := hw.2.2.2.1
  have r1 := scV_r G (at_ + 1)
  have r2 := scV_r G (at_ + 2)
  have r3 := scV_r G (at_ + 3)
  have r4 := scV_r G (at_ + 4)
  have r5 := scV_r G (at_ + 5)
  have r6 := scV_r G (at_ + 6)
  refine g_aload_n dL_law_1165 rfl rfl (g_aload_n dL_law_1166 rfl rfl (g_iload_n dL_law_1167 rfl rfl (g_iconst dL_law_1168 (g_iadd dL_law_1169 (g_sld dL_law_1170 ⟨by omega, by omega, by omega⟩ (g_aload_n dL_law_1171 rfl rfl (g_iload_n dL_law_1172 rfl rfl (g_iconst dL_law_1173 (g_iadd dL_law_1174 (g_sld dL_law_1175 ⟨by omega, by omega, by omega⟩ (g_i2l dL_law_1176 (by omega) ?_)))))))))))
  refine g_bipush dL_law_1177 kb32 (g_lshl dL_law_1179 (g_aload_n dL_law_1180 rfl rfl (g_iload_n dL_law_1181 rfl rfl (g_iconst dL_law_1182 (g_iadd dL_law_1183 (g_sld dL_law_1184 ⟨by omega, by omega, by omega⟩ (g_i2l dL_law_1185 (by omega) (c2_L_13 (M := mL_law) rfl dL_law_1186 (g_land dL_law_1189 (g_lor dL_law_1190 (cv_L_103 (M := mL_law) rfl dL_law_1191 (yo9 hY) hR (Nat.le_of_ble_eq_true rfl) (e_X8_by hY r1 (lOr_r _ _) hw.F (by omega) (by omega) (by omega)) <| kI ?_)))))))))))
  refine g_aload_n dL_law_1194 rfl rfl (g_aload_n dL_law_1195 rfl rfl (g_iload_n dL_law_1196 rfl rfl (g_iconst dL_law_1197 (g_iadd dL_law_1198 (g_sld dL_law_1199 ⟨by omega, by omega, by omega⟩ (g_aload_n dL_law_1200 rfl rfl (g_iload_n dL_law_1201 rfl rfl (g_iconst dL_law_1202 (g_iadd dL_law_1203 (g_sld dL_law_1204 ⟨by omega, by omega, by omega⟩ (g_i2l dL_law_1205 (by omega) ?_)))))))))))
  refine g_bipush dL_law_1206 kb32 (g_lshl dL_law_1208 (g_aload_n dL_law_1209 rfl rfl (g_iload_n dL_law_1210 rfl rfl (g_iconst dL_law_1211 (g_iadd dL_law_1212 (g_sld dL_law_1213 ⟨by omega, by omega, by omega⟩ (g_i2l dL_law_1214 (by omega) (c2_L_13 (M := mL_law) rfl dL_law_1215 (g_land dL_law_1218 (g_lor dL_law_1219 (cv_L_106 (M := mL_law) rfl dL_law_1220 (yo150 hY) hR (Nat.le_of_ble_eq_true rfl) (e_X9_by hY hi.rf (by omega) (by omega) (by omega) r1 (lOr_r _ _)) <| kI ?_)))))))))))
  refine g_ieqS 2060 dL_law_1223 rfl (by rw [e0, e6.1, e6.2.1, e6.2.2]) ?_
  exact kk h hi
set_option maxRecDepth 100000 in
set_option maxHeartbeats 1000000 in
theorem lc_torn {G : GX} {R : Room} {Z : ZT} {y : LY} {h : HM} {cs : Nat × Nat} (hY : Lay y) (hi : Inv h) {at_ : Int} (hat : 0 ≤ at_ ∧ at_ + 7 ≤ G.len) (hlen : G.len < 2147483648) (hR : RO R 20 0 0 cs) (kk : ∀ h2, Inv h2 → Go G mL_law R Z y 2060 [some (.ref 8), some (.ref 9), some (.ref 150), some (.int (iZ at_))] [] h2 cs) : Go G mL_law R Z y 2024 [some (.ref 8), some (.ref 9), some (.ref 150), some (.int (iZ at_))] [] h cs := by
  have es := hi.st
  have hw := hi.cw
  have e0 := es.1.1
  have e1 := es.2.1.1
  have e5 := es.2.2.1.1
  have e6 := es.2.2.2
  have w6 := hw.2.2.2.1
  have r1 := scV_r G (at_ + 1)
  have r2 := scV_r G (at_ + 2)
  have r3 := scV_r G (at_ + 3)
  have r4 := scV_r G (at_ + 4)
  have r5 := scV_r G (at_ + 5)
  have r6 := scV_r G (at_ + 6)
  refine g_aload_n dL_law_2024 rfl rfl (cv_L_193 (M := mL_law) rfl dL_law_2025 (yo9 hY) hR (Nat.le_of_ble_eq_true rfl) (e_X8_torn hY) <| kI (g_aload_n dL_law_2028 rfl rfl (cv_L_196 (M := mL_law) rfl dL_law_2029 (yo150 hY) hR (Nat.le_of_ble_eq_true rfl) (e_X9_torn hY) <| kI ?_)))
  refine g_ieqS 2060 dL_law_2032 rfl (hi.to.1.symm) ?_
  exact kk h hi
set_option maxRecDepth 100000 in
set_option maxHeartbeats 1000000 in
theorem lc_count {G : GX} {R : Room} {Z : ZT} {y : LY} {h : HM} {cs : Nat × Nat} (hY : Lay y) (hi : Inv h) {at_ : Int} (hat : 0 ≤ at_ ∧ at_ + 7 ≤ G.len) (hlen : G.len < 2147483648) (hR : RO R 20 0 0 cs) (kk : ∀ h2, Inv h2 → Go G mL_law R Z y 2060 [some (.ref 8), some (.ref 9), some (.ref 150), some (.int (iZ at_))] [] h2 cs) : Go G mL_law R Z y 2037 [some (.ref 8), some (.ref 9), some (.ref 150), some (.int (iZ at_))] [] h cs := by
  have es := hi.st
  have hw := hi.cw
  have e0 := es.1.1
  have e1 := es.2.1.1
  have e5 := es.2.2.1.1
  have e6 := es.2.2.2
  have w6 := hw.2.2.2.1
  have sh0 := hi.sh 0 (by omega)
  rw [show 142 + 2 * 0 = 142 from rfl] at sh0
  have sc := sh0.1.c
  have r1 := scV_r G (at_ + 1)
  have r2 := scV_r G (at_ + 2)
  have r3 := scV_r G (at_ + 3)
  have r4 := scV_r G (at_ + 4)
  have r5 := scV_r G (at_ + 5)
  have r6 := scV_r G (at_ + 6)
  refine g_aload_n dL_law_2037 rfl rfl (g_aload_n dL_law_2038 rfl rfl (g_iload_n dL_law_2039 rfl rfl (g_iconst dL_law_2040 (g_iadd dL_law_2041 (g_sld dL_law_2042 ⟨by omega, by omega, by omega⟩ (cv_L_197 (M := mL_law) rfl dL_law_2043 (yo9 hY) hR (Nat.le_of_ble_eq_true rfl) (e_X8_count hY r1 (hi.kp 0 (by omega)).2 (hi.kp 1 (by omega)).2 (by omega) hw.F) <| kI (g_aload_n dL_law_2046 rfl rfl (g_aload_n dL_law_2047 rfl rfl (g_iload_n dL_law_2048 rfl rfl (g_iconst dL_law_2049 (g_iadd dL_law_2050 ?_)))))))))))
  refine g_sld dL_law_2051 ⟨by omega, by omega, by omega⟩ (cv_L_200 (M := mL_law) rfl dL_law_2052 (yo150 hY) hR (Nat.le_of_ble_eq_true rfl) (e_X9_count hY hi.rf (ns := 0) r1 (by rw [(hi.kp 0 (by omega)).1]; exact (hi.kp 0 (by omega)).2) (by rw [(hi.kp 1 (by omega)).1]; exact (hi.kp 1 (by omega)).2) sh0.1) <| kI ?_)
  refine g_ieqS 2060 dL_law_2055 rfl (by rw [e0, e5, (hi.kp 0 (by omega)).1, (hi.kp 1 (by omega)).1, hi.tl.1]) ?_
  exact kk h hi
