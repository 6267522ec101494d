/-- the fields that the invariant sees, but one -/
theorem Inv.end {h : HM} (hi : Inv h) {n : Int} (hn : 0 ≤ n ∧ n ≤ 400) : Inv ((h.sI 10 1 n).sI 150 9 n) := by
  have e : ∀ a j : Nat, ¬ (a = 10 ∧ j = 1) → ¬ (a = 150 ∧ j = 9) → ((h.sI 10 1 n).sI 150 9 n).I a j = h.I a j := fun a j q1 q2 => by rw [sI_I, if_neg q2, sI_I, if_neg q1]
  have r : ∀ a : Nat, a ≠ 10 → a ≠ 150 → ∀ j, ((h.sI 10 1 n).sI 150 9 n).I a j = h.I a j := fun a q1 q2 j => e a j (by omega) (by omega)
  have r151 : ((h.sI 10 1 n).sI 150 9 n).I 151 = h.I 151 := funext (r 151 (by omega) (by omega))
  have rw_ : ∀ o, rwI ((h.sI 10 1 n).sI 150 9 n) o = rwI h o := fun o => by unfold rwI; rw [r151]
  have c12 := ck_eq (h1 := (h.sI 10 1 n).sI 150 9 n) (c := 12) (fun a j a0 a1 => r a (by omega) (by omega) j) hi.cw
  refine ⟨c12.1, ?_, ?_, fun k hk => ?_, fun k hk hz => ?_, fun k hk => ?_, fun k j hk hj => ?_, ?_, fun j => ?_, ?_, ?_⟩
  · rw [r151]; exact c12.2 _ hi.st
  · rw [e 150 2 (by omega) (by omega), r 12 (by omega) (by omega)]; exact hi.rc
  · rw [r 152 (by omega) (by omega), r 69 (by omega) (by omega)]; exact hi.kp k hk
  · rw [r 69 (by omega) (by omega)] at hz
    have q := hi.im k hk hz
    have ck := ck_eq (h1 := (h.sI 10 1 n).sI 150 9 n) (c := 86 + 28 * k) (fun a j a0 a1 => r a (by omega) (by omega) j) q.1
    rw [rw_, r _ (by omega) (by omega), r 12 (by omega) (by omega)]
    exact ⟨ck.1, ck.2 _ q.2.1, q.2.2⟩
  · have q := hi.sh k hk
    unfold ShR at q ⊢
    rw [r 158 (by omega) (by omega), r 159 (by omega) (by omega), r _ (by omega) (by omega), r _ (by omega) (by omega)]; exact q
  · rw [r 160 (by omega) (by omega), r _ (by omega) (by omega)]; exact hi.ce k j hk hj
  · rw [sI_I, if_pos ⟨rfl, rfl⟩, sI_I, if_neg (by omega), sI_I, if_pos ⟨rfl, rfl⟩]; exact ⟨rfl, hn⟩
  · rw [r 154 (by omega) (by omega), r 11 (by omega) (by omega)]; exact hi.tp j
  · rw [e 150 14 (by omega) (by omega), e 9 11 (by omega) (by omega)]; exact hi.fa
  · rw [e 150 26 (by omega) (by omega), e 9 12 (by omega) (by omega)]; exact hi.to
set_option maxRecDepth 100000 in
set_option maxHeartbeats 1000000 in
theorem lc_end {G : GX} {R : Room} {Z : ZT} {y : LY} {h : HM} {cs : Nat × Nat} (hY : Lay y) (hi : Inv h) {at_ : Int} (hat : 0 ≤ at_ ∧ at_ + 7 ≤ G.len) (hlen : G.len < 2147483648) (hR : RO R 20 0 0 cs) (kk : ∀ h2, Inv h2 → Go G mL_law R Z y 2060 [some (.ref 8), some (.ref 9), some (.ref 150), some (.int (iZ at_))] [] h2 cs) : Go G mL_law R Z y 269 [some (.ref 8), some (.ref 9), some (.ref 150), some (.int (iZ at_))] [] h cs := by
  have es := hi.st
  have hw := hi.cw
  have e0 := es.1.1
  have e1 := es.2.1.1
  have e5 := es.2.2.1.1
  have e6 := es.2.2.2
  have w6 := hw.2.2.2.1
  have w9 := hw.2.2.2.2
  have er := hi.rc
  have ht := hi.tl
  have r1 := scV_r G (at_ + 1)
  have r2 := scV_r G (at_ + 2)
  have r3 := scV_r G (at_ + 3)
  have r4 := scV_r G (at_ + 4)
  have r5 := scV_r G (at_ + 5)
  have r6 := scV_r G (at_ + 6)
  refine g_aload_n dL_law_269 rfl rfl (g_aload_n dL_law_270 rfl rfl (g_iload_n dL_law_271 rfl rfl (g_iconst dL_law_272 (g_iadd dL_law_273 (g_sld dL_law_274 ⟨by omega, by omega, by omega⟩ ?_)))))
  refine cv_L_20 (M := mL_law) rfl dL_law_275 (yo9 hY) hR (Nat.le_of_ble_eq_true rfl) (e_X8_end hY r1 ht.2) (kQX fun v275 h275 hq275 => ?_)
  have e9 : h275.I 150 9 = h.I 10 1 := (by rcases hq275 with ⟨_, _, z⟩ | ⟨_, _, z⟩; (rw [z]; exact ht.1); (rw [z, sI_I, if_neg (by omega)]; exact ht.1))
  refine g_aload_n dL_law_278 rfl rfl (g_aload_n dL_law_279 rfl rfl (g_iload_n dL_law_280 rfl rfl (g_iconst dL_law_281 (g_iadd dL_law_282 (g_sld dL_law_283 ⟨by omega, by omega, by omega⟩ ?_)))))
  refine cv_L_24 (M := mL_law) rfl dL_law_284 (yo150 hY) hR (Nat.le_of_ble_eq_true rfl) (e_X9_end hY r1 (by rw [e9]; exact ht.2)) (kQX fun v284 h284 hq284 => ?_)
  rw [e9] at hq284
  have hx : v275 = v284 ∧ Inv h284 := (by rcases hq275 with ⟨a1, a2, a3⟩ | ⟨a1, a2, a3⟩ <;> rcases hq284 with ⟨b1, b2, b3⟩ | ⟨b1, b2, b3⟩ <;> first | exact absurd b1 a1 | exact absurd a1 b1 | exact ⟨a2.trans b2.symm, by rw [b3, a3]; exact hi⟩ | exact ⟨a2.trans b2.symm, by rw [b3, a3]; exact hi.end (by omega)⟩)
  refine g_ieqS 2060 dL_law_287 rfl hx.1 ?_
  exact kk _ hx.2
