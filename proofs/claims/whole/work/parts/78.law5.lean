theorem byt_bd (v i : Int) : 0 ≤ byt v i ∧ byt v i ≤ 255 := by
  unfold byt
  generalize lUshr v (56 - 8 * i) = x
  unfold lAnd
  generalize hz : lZ x = z
  have h0 : lZ 255 = 255 := rfl
  rw [h0]
  have e : (z &&& 255).toInt = ((z.toBitVec &&& 255#64).toInt) := rfl
  rw [e]
  have hl : (z.toBitVec &&& 255#64).toNat ≤ 255 := by
    rw [BitVec.toNat_and]
    exact Nat.and_le_right
  have hi : (z.toBitVec &&& 255#64).toInt = ((z.toBitVec &&& 255#64).toNat : Int) := by
    rw [BitVec.toInt_eq_toNat_cond, if_pos (by omega)]
  rw [hi]
  omega
theorem fd_T {h : HM} (v : IvT h) (w : Int) (h92 : h.I 10 1 ≤ 392) : IvT (tkR (tkH h w) w) := by
  have ht := v.1
  have a9 : (tkH h w).I 150 9 = h.I 10 1 := by unfold tkH; rw [sI_I, if_neg (by omega), sA_I, if_neg (by omega)]; exact ht.1
  have a1 : (tkH h w).I 10 1 = h.I 10 1 + 8 := by unfold tkH; rw [sI_I, if_pos ⟨rfl, rfl⟩]
  have b9 : (tkR (tkH h w) w).I 150 9 = h.I 10 1 + 8 := by unfold tkR; rw [sI_I, if_pos ⟨rfl, rfl⟩, a9]
  have b1 : (tkR (tkH h w) w).I 10 1 = h.I 10 1 + 8 := by unfold tkR; rw [sI_I, if_neg (by omega), sA_I, if_neg (by omega)]; exact a1
  have c11 : ∀ j : Nat, (tkR (tkH h w) w).I 11 j = if h.I 10 1 ≤ j ∧ (j : Int) < h.I 10 1 + 8 then byt w (j - h.I 10 1) else h.I 11 j := fun j => by
    unfold tkR; rw [sI_I, if_neg (by omega), sA_I, if_neg (by omega)]
    unfold tkH; rw [sI_I, if_neg (by omega), sA_I, if_pos rfl]
  have c154 : ∀ j : Nat, (tkR (tkH h w) w).I 154 j = if h.I 10 1 ≤ j ∧ (j : Int) < h.I 10 1 + 8 then byt w (j - h.I 10 1) else h.I 154 j := fun j => by
    have q : (tkH h w).I 154 j = h.I 154 j := by unfold tkH; rw [sI_I, if_neg (by omega), sA_I, if_neg (by omega)]
    unfold tkR; rw [sI_I, if_neg (by omega), sA_I, if_pos rfl, a9, q]
  refine ⟨by rw [b9, b1]; exact ⟨rfl, by omega⟩, fun j => ?_⟩
  rw [c11, c154]
  by_cases q : h.I 10 1 ≤ j ∧ (j : Int) < h.I 10 1 + 8
  · rw [if_pos q, if_pos q]; exact ⟨rfl, byt_bd _ _⟩
  · rw [if_neg q, if_neg q]; exact v.2 j
theorem tk_out {h : HM} (w : Int) {a j : Nat} (q : a ≠ 11 ∧ a ≠ 154 ∧ ¬ (a = 10 ∧ j = 1) ∧ ¬ (a = 150 ∧ j = 9)) : (tkR (tkH h w) w).I a j = h.I a j := by
  unfold tkR; rw [sI_I, if_neg (by omega), sA_I, if_neg (by omega)]
  unfold tkH; rw [sI_I, if_neg (by omega), sA_I, if_neg (by omega)]
theorem IvC.fr {h h1 : HM} (v : IvC h) (e : ∀ a j : Nat, (12 ≤ a ∧ a < 40) ∨ a = 151 ∨ (a = 150 ∧ j = 2) → h1.I a j = h.I a j) : IvC h1 := by
  have c12 := ck_eq (h1 := h1) (c := 12) (fun a j a0 a1 => e a j (by omega)) v.1
  refine ⟨c12.1, ?_, by rw [e 150 2 (by omega), e 12 9 (by omega)]; exact v.2.2⟩
  rw [show h1.I 151 = h.I 151 from funext (fun j => e 151 j (by omega))]; exact c12.2 _ v.2.1
theorem Inv.fd {h : HM} (hi : Inv h) (w : Int) (h92 : h.I 10 1 ≤ 392) : Inv (tkR (tkH h w) w) := Inv.of (hi.vC.fr (fun a j q => tk_out w (by omega))) (hi.vK.fr (fun a j q => tk_out w (by omega))) (hi.vS.fr (fun a j q => tk_out w (by omega))) (fd_T hi.vT w h92) (hi.vF.fr (fun a j q => tk_out w (by omega)))
set_option maxRecDepth 100000 in
set_option maxHeartbeats 1000000 in
theorem lc_feed {G : GX} {R : Room} {Z : ZT} {y : LY} {h : HM} {cs : Nat × Nat} (hY : Lay y) (hi : Inv h) {at_ : Int} (hat : 0 ≤ at_ ∧ at_ + 7 ≤ G.len) (hlen : G.len < 2147483648) (hR : RO R 20 0 0 cs) (kk : ∀ h2, Inv h2 → Go G mL_law R Z y 2060 [some (.ref 8), some (.ref 9), some (.ref 150), some (.int (iZ at_))] [] h2 cs) : Go G mL_law R Z y 216 [some (.ref 8), some (.ref 9), some (.ref 150), some (.int (iZ at_))] [] h cs := by
  have es := hi.st
  have hw := hi.cw
  have e0 := es.1.1
  have e1 := es.2.1.1
  have e5 := es.2.2.1.1
  have e6 := es.2.2.2
  have w6 := hw.2.2.2.1
  have w9 := hw.2.2.2.2
  have er := hi.rc
  have ht := hi.tl
  have r1 := scV_r G (at_ + 1)
  have r2 := scV_r G (at_ + 2)
  have r3 := scV_r G (at_ + 3)
  have r4 := scV_r G (at_ + 4)
  have r5 := scV_r G (at_ + 5)
  have r6 := scV_r G (at_ + 6)
  refine g_aload_n dL_law_216 rfl rfl (g_aload_n dL_law_217 rfl rfl (g_iload_n dL_law_218 rfl rfl (g_iconst dL_law_219 (g_iadd dL_law_220 (g_sld dL_law_221 ⟨by omega, by omega, by omega⟩ (g_i2l dL_law_222 (by omega) (g_bipush dL_law_223 kb32 (g_lshl dL_law_225 (g_aload_n dL_law_226 rfl rfl (g_iload_n dL_law_227 rfl rfl (g_iconst dL_law_228 ?_)))))))))))
  refine g_iadd dL_law_229 (g_sld dL_law_230 ⟨by omega, by omega, by omega⟩ (g_i2l dL_law_231 (by omega) (c2_L_13 (M := mL_law) rfl dL_law_232 (g_land dL_law_235 (g_lor dL_law_236 ?_)))))
  refine cv_L_15 (M := mL_law) rfl dL_law_237 (yo9 hY) hR (Nat.le_of_ble_eq_true rfl) (e_X8_feed hY ht.2) (kQX fun v237 h237 hq237 => ?_)
  have e9 : h237.I 150 9 = h.I 10 1 := (by rcases hq237 with ⟨_, _, z⟩ | ⟨_, _, z⟩; (rw [z]; exact ht.1); (rw [z]; unfold tkH; rw [sI_I, if_neg (by omega), sA_I, if_neg (by omega)]; exact ht.1))
  refine g_aload_n dL_law_240 rfl rfl (g_aload_n dL_law_241 rfl rfl (g_iload_n dL_law_242 rfl rfl (g_iconst dL_law_243 (g_iadd dL_law_244 (g_sld dL_law_245 ⟨by omega, by omega, by omega⟩ (g_i2l dL_law_246 (by omega) (g_bipush dL_law_247 kb32 (g_lshl dL_law_249 (g_aload_n dL_law_250 rfl rfl (g_iload_n dL_law_251 rfl rfl (g_iconst dL_law_252 ?_)))))))))))
  refine g_iadd dL_law_253 (g_sld dL_law_254 ⟨by omega, by omega, by omega⟩ (g_i2l dL_law_255 (by omega) (c2_L_13 (M := mL_law) rfl dL_law_256 (g_land dL_law_259 (g_lor dL_law_260 ?_)))))
  refine cv_L_19 (M := mL_law) rfl dL_law_261 (yo150 hY) hR (Nat.le_of_ble_eq_true rfl) (e_X9_feed hY (by rw [e9]; exact ht.2)) (kQX fun v261 h261 hq261 => ?_)
  rw [e9] at hq261
  have hx : v237 = v261 ∧ Inv h261 := (by rcases hq237 with ⟨a1, a2, a3⟩ | ⟨a1, a2, a3⟩ <;> rcases hq261 with ⟨b1, b2, b3⟩ | ⟨b1, b2, b3⟩ <;> first | (exfalso; omega) | exact ⟨a2.trans b2.symm, by rw [b3, a3]; exact hi⟩ | exact ⟨a2.trans b2.symm, by rw [b3, a3]; exact hi.fd _ a1⟩)
  refine g_ieqS 2060 dL_law_264 rfl hx.1 ?_
  exact kk _ hx.2
