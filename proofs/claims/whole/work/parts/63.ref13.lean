theorem rd_en {h h1 : HM} {lo hi : Nat} (hf : FrR h h1 lo hi) (e : Nat) (q : e = 150 ∨ e = 158 ∨ e = 159 ∨ e = 160) (j : Nat) : h1.I e j = h.I e j := hf.2 e j (by omega)
theorem ShR.fr {h h1 : HM} {lo hi : Nat} {k L C : Int} (hf : FrR h h1 lo hi) (hs : ShR h k L C) : ShR h1 k L C := by
  unfold ShR; rw [hf.2 158 _ (by omega), hf.2 159 _ (by omega)]; exact hs
theorem rd_cl {h h1 : HM} {lo hi : Nat} {k L C l a : Int} {R : Nat → Int} (hf : FrR h h1 lo hi) (hk : 0 ≤ k ∧ k < 4) (hC : C ≤ 40) (hcl : ∀ j : Nat, j < 40 → h.I 160 (40 * k.toNat + j) = R j ∧ R32 (R j)) (hz : fltS L C l a 3 = 0) {x : Int} (hx : a ≤ x ∧ x ≤ a + 2) {z : Int} (hzz : z = 40 * k + x) : h1.I 160 z.toNat = R x.toNat ∧ R32 (R x.toNat) := by
  have hb := (fltS_c L C l a 3).2 hz
  have := hcl x.toNat (by omega)
  rw [hf.2 160 _ (by omega), show z.toNat = 40 * k.toNat + x.toNat by omega]
  exact this
theorem ShR.c {h : HM} {k L C : Int} (hs : ShR h k L C) : C ≤ 40 := by rcases hs with z | z <;> omega
theorem sI_26_S {h h1 : HM} {v : Int} {S : Nat → Sg} (hS : RS h1 S) : RS (h1.sI 150 26 v) S := by
  have hn := hS.1
  unfold RS
  rw [sI_I, if_neg (by omega)]
  refine ⟨hn, fun i i0 i1 => ⟨?_, (hS.2 i i0 i1).2⟩⟩
  unfold RSg
  rw [sI_I, if_neg (by omega), sI_I, if_neg (by omega), sI_I, if_neg (by omega)]
  exact (hS.2 i i0 i1).1
theorem rd_fin {h h1 : HM} {S : Nat → Sg} {L C l f n : Int} {R : Nat → Int} {i : Nat} (hfr : FrR h h1 71 108) (hS1 : RS h1 (rdSs S (h.I 151 71) R f i)) (hn1 : h1.I 151 71 = h.I 151 71 + i) {v : Int} (hv : ((i : Int) = n ∧ v = 0) ∨ ((i : Int) ≠ n ∧ fltS L C l (f + 3 * i) 3 ≠ 0 ∧ v = fltS L C l (f + 3 * i) 3)) : RdE h (h1.sI 150 26 v) S L C l f n R i := by
  refine ⟨hfr.1, fun a j q1 q2 => by rw [sI_I, if_neg (by omega)]; exact hfr.2 a j q1, ?_⟩
  have e : (h1.sI 150 26 v).I 151 71 = h.I 151 71 + i := by rw [sI_I, if_neg (by omega)]; exact hn1
  have e2 : (h1.sI 150 26 v).I 150 26 = v := by rw [sI_I, if_pos ⟨rfl, rfl⟩]
  rcases hv with ⟨z1, z2⟩ | ⟨z1, z2, z3⟩
  · exact Or.inl ⟨z1, sI_26_S (h := h) hS1, e, by rw [e2, z2]⟩
  · exact Or.inr (Or.inl ⟨z1, z2, sI_26_S (h := h) hS1, e, by rw [e2, z3]⟩)
theorem rd_bk {h h1 : HM} {S : Nat → Sg} {L C l f n : Int} {R : Nat → Int} {i : Nat} (hS : RS h S) (hfr : FrR h h1 71 108) (hS1 : RS h1 (rdSs S (h.I 151 71) R f i)) (hn1 : h1.I 151 71 = h.I 151 71 + i) (hi : (i : Int) ≠ n) (hz : fltS L C l (f + 3 * i) 3 = 0) : RdE h (h1.sI 151 71 (h.I 151 71)) S L C l f n R i := by
  refine ⟨hfr.1, fun a j q1 q2 => by rw [sI_I, if_neg (by omega)]; exact hfr.2 a j q1, Or.inr (Or.inr ⟨hi, hz, rs_back hS rfl hS1 hn1, by rw [sI_I, if_pos ⟨rfl, rfl⟩], by rw [sI_I, if_neg (by omega)]; exact hfr.2 150 26 (by omega)⟩)⟩
theorem rd_q {nf ns lane cells l f n : Int} {R : Nat → Int} {i : Nat} (hall : ∀ j, j < i → OkR nf ns lane cells l f R j) (hi : (i : Int) ≤ n) (h : (i : Int) = n ∨ ¬ OkR nf ns lane cells l f R i) : RdQ nf ns lane cells l f n R i := ⟨hall, hi, h⟩
theorem rdV_n {lane cells l f n : Int} {i : Nat} (h : (i : Int) = n) : rdV lane cells l f n i = i := by unfold rdV; rw [if_pos h, h]
theorem rdV_f {lane cells l f n : Int} {i : Nat} (h : (i : Int) ≠ n) (hz : fltS lane cells l (f + 3 * i) 3 ≠ 0) : rdV lane cells l f n i = i := by unfold rdV; rw [if_neg h, if_pos hz]
theorem rdV_r {lane cells l f n : Int} {i : Nat} (h : (i : Int) ≠ n) (hz : fltS lane cells l (f + 3 * i) 3 = 0) : rdV lane cells l f n i = -20 - i := by unfold rdV; rw [if_neg h, if_neg (fun z => z hz)]
set_option maxRecDepth 100000 in
set_option maxHeartbeats 1000000 in
theorem e_X9_read {G : GX} {y : LY} {h : HM} {d : Nat} (hY : Lay y) {F : Nat → Fg} (hR : RF h F) {S : Nat → Sg} (hS : RS h S) {k l f n L C : Int} {R : Nat → Int} (hk : R32 k) (hl : R32 l) (hf : R32 f) (hn : R32 n) (hL : 0 ≤ k → k < 4 → ShR h k L C ∧ ∀ j : Nat, j < 40 → h.I 160 (40 * k.toNat + j) = R j ∧ R32 (R j)) : EvQX G mX9_read (d + 3) [.ref 150, .int (iZ k), .int (iZ l), .int (iZ f), .int (iZ n)] y h (fun v h1 => (¬ ((0 ≤ k ∧ k < 4) ∧ (0 ≤ l ∧ l ≤ 2) ∧ (0 ≤ n ∧ n ≤ 12)) ∧ v = -1 ∧ h1 = h) ∨ (((0 ≤ k ∧ k < 4) ∧ (0 ≤ l ∧ l ≤ 2) ∧ (0 ≤ n ∧ n ≤ 12)) ∧ ∃ i : Nat, RdQ (h.I 151 0) (h.I 151 71) L C l f n R i ∧ v = rdV L C l f n i ∧ RdE h h1 S L C l f n R i)) := by
  have hnf := hR.1
  have hns := hS.1
  have hzs := pI_01 ((0 ≤ k ∧ k ≤ 3) ∧ (0 ≤ l ∧ l ≤ 2))
  have hys := pI_eq1 (P := (0 ≤ k ∧ k ≤ 3) ∧ (0 ≤ l ∧ l ≤ 2))
  have hzu := pI_01 (0 ≤ n ∧ n ≤ 12)
  have hyu := pI_eq1 (P := 0 ≤ n ∧ n ≤ 12)
  refine Ev.of rfl [some (.ref 150), some (.int (iZ k)), some (.int (iZ l)), some (.int (iZ f)), some (.int (iZ n)), none, none, none, none, none, none, none] rfl (Nat.le_of_ble_eq_true rfl) ?_
  have L41B : ∀ (h1 : HM) (i : Nat), (i : Int) < n → ((0 ≤ k ∧ k < 4) ∧ (0 ≤ l ∧ l ≤ 2) ∧ (0 ≤ n ∧ n ≤ 12)) → (∀ j, j < i → OkR (h.I 151 0) (h.I 151 71) L C l f R j) → fltS L C l (f + 3 * (i : Int)) 3 ≠ 0 → FrR h h1 71 108 → RS h1 (rdSs S (h.I 151 71) R f i) → h1.I 151 71 = (h.I 151 71) + i → Go G mX9_read (rmo (d + 3) 0 0) (ZM G y 0 0 (fun r h1 => ∃ v_ : Int, r = some (.int (iZ v_)) ∧ (fun v h1 => (¬ ((0 ≤ k ∧ k < 4) ∧ (0 ≤ l ∧ l ≤ 2) ∧ (0 ≤ n ∧ n ≤ 12)) ∧ v = -1 ∧ h1 = h) ∨ (((0 ≤ k ∧ k < 4) ∧ (0 ≤ l ∧ l ≤ 2) ∧ (0 ≤ n ∧ n ≤ 12)) ∧ ∃ i : Nat, RdQ (h.I 151 0) (h.I 151 71) L C l f n R i ∧ v = rdV L C l f n i ∧ RdE h h1 S L C l f n R i)) v_ h1)) y 41 [some (.ref 150), some (.int (iZ k)), some (.int (iZ l)), some (.int (iZ f)), some (.int (iZ n)), some (.int (iZ (h.I 151 71))), some (.int (iZ (fltS L C l (f + 3 * (i : Int)) 3))), some (.int (iZ i)), some (.int (iZ ((i : Int) + 1))), none, none, none] [] h1 (0, 0) := by
    intro h1 i hi hok hall hfl hfr hS1 hn1
    have hfb := (fltS_c L C l (f + 3 * (i : Int)) 3).1
    refine g_iload dX9_read_41 rfl (g_iload dX9_read_43 rfl ?_)
    refine g_icmp_ge 244 dX9_read_45 rfl (by omega) (by omega) (fun c45 => ?_) (fun c45 => ?_)
    · skip
      refine g_aload_n dX9_read_244 rfl rfl (g_iload dX9_read_245 rfl (pf_X9_335 (M := mX9_read) rfl dX9_read_247 (yo150 hY) (g_iload dX9_read_250 rfl ?_)))
      exact g_iret dX9_read_252 rfl rfl ⟨Nat.le_refl _, Nat.le_refl _⟩ (by refine ⟨(i : Int), rfl, Or.inr ⟨hok, i, rd_q hall (by omega) (Or.inr (fun z => hfl z.1)), (rdV_f (by omega) hfl).symm, rd_fin hfr hS1 hn1 (Or.inr ⟨by omega, hfl, rfl⟩)⟩⟩)
    · skip
      refine g_iload dX9_read_48 rfl ?_
      refine g_if_ne 244 dX9_read_50 rfl (by omega) (fun c50 => ?_) (fun c50 => ?_)
      · skip
        refine g_aload_n dX9_read_244 rfl rfl (g_iload dX9_read_245 rfl (pf_X9_335 (M := mX9_read) rfl dX9_read_247 (yo150 hY) (g_iload dX9_read_250 rfl ?_)))
        exact g_iret dX9_read_252 rfl rfl ⟨Nat.le_refl _, Nat.le_refl _⟩ (by refine ⟨(i : Int), rfl, Or.inr ⟨hok, i, rd_q hall (by omega) (Or.inr (fun z => hfl z.1)), (rdV_f (by omega) hfl).symm, rd_fin hfr hS1 hn1 (Or.inr ⟨by omega, hfl, rfl⟩)⟩⟩)
      · skip
        refine g_iconst dX9_read_53 (g_ist9 dX9_read_54 (by decide) rfl ?_)
        exfalso; omega
  have L41 : ∀ (m : Nat) (h1 : HM) (i : Nat), (m : Int) = n - i → (i : Int) ≤ n → ((0 ≤ k ∧ k < 4) ∧ (0 ≤ l ∧ l ≤ 2) ∧ (0 ≤ n ∧ n ≤ 12)) → (∀ j, j < i → OkR (h.I 151 0) (h.I 151 71) L C l f R j) → FrR h h1 71 108 → RS h1 (rdSs S (h.I 151 71) R f i) → h1.I 151 71 = (h.I 151 71) + i → Go G mX9_read (rmo (d + 3) 0 0) (ZM G y 0 0 (fun r h1 => ∃ v_ : Int, r = some (.int (iZ v_)) ∧ (fun v h1 => (¬ ((0 ≤ k ∧ k < 4) ∧ (0 ≤ l ∧ l ≤ 2) ∧ (0 ≤ n ∧ n ≤ 12)) ∧ v = -1 ∧ h1 = h) ∨ (((0 ≤ k ∧ k < 4) ∧ (0 ≤ l ∧ l ≤ 2) ∧ (0 ≤ n ∧ n ≤ 12)) ∧ ∃ i : Nat, RdQ (h.I 151 0) (h.I 151 71) L C l f n R i ∧ v = rdV L C l f n i ∧ RdE h h1 S L C l f n R i)) v_ h1)) y 41 [some (.ref 150), some (.int (iZ k)), some (.int (iZ l)), some (.int (iZ f)), some (.int (iZ n)), some (.int (iZ (h.I 151 71))), some (.int (iZ 0)), some (.int (iZ i)), some (.int (iZ i)), none, none, none] [] h1 (0, 0) := by
    intro m
    induction m using Nat.strongRecOn with | _ m ih =>
    intro h1 i hm hi hok hall hfr hS1 hn1
    obtain ⟨hsh, hcl⟩ := hL hok.1.1 hok.1.2
    have hsh1 := hsh.fr hfr
    have hCb := hsh.c
    have hsu := hsh1
    unfold ShR at hsu
    have hR1 := hfr.rF (by omega) hR
    have e0 := hfr.2 151 0 (by omega)
    have hn12 := rd_12 hns.2 hall
    have L143 : ∀ v c : Int, (i : Int) < n → v = flI L C l (f + 3 * (i : Int)) c → 0 ≤ c ∧ c ≤ 3 → (c = 3 ∨ v ≠ 0) → Go G mX9_read (rmo (d + 3) 0 0) (ZM G y 0 0 (fun r h1 => ∃ v_ : Int, r = some (.int (iZ v_)) ∧ (fun v h1 => (¬ ((0 ≤ k ∧ k < 4) ∧ (0 ≤ l ∧ l ≤ 2) ∧ (0 ≤ n ∧ n ≤ 12)) ∧ v = -1 ∧ h1 = h) ∨ (((0 ≤ k ∧ k < 4) ∧ (0 ≤ l ∧ l ≤ 2) ∧ (0 ≤ n ∧ n ≤ 12)) ∧ ∃ i : Nat, RdQ (h.I 151 0) (h.I 151 71) L C l f n R i ∧ v = rdV L C l f n i ∧ RdE h h1 S L C l f n R i)) v_ h1)) y 143 [some (.ref 150), some (.int (iZ k)), some (.int (iZ l)), some (.int (iZ f)), some (.int (iZ n)), some (.int (iZ (h.I 151 71))), some (.int (iZ v)), some (.int (iZ i)), some (.int (iZ i)), some (.int (iZ c)), none, none] [] h1 (0, 0) := by
      intro v c hin hv hc hcv
      rw [hv] at hcv
      have hfe := flI_e hc hcv
      rw [hfe] at hv
      subst hv
      have hfb := (fltS_c L C l (f + 3 * (i : Int)) 3).1
      refine g_iload dX9_read_143 rfl ?_
      refine g_if_ne 238 dX9_read_145 rfl (by omega) (fun c145 => ?_) (fun c145 => ?_)
      · skip
        refine g_inc8 dX9_read_238 (by decide) rfl (g_goto 41 dX9_read_241 rfl (g_dr9 ?_))
        first
        | exact L41B h1 i hin hok hall (by omega) hfr hS1 hn1
        | (rcases hq214 with z | ⟨z1, z | ⟨z2, z3, z4, z5, z6⟩⟩; (exfalso; omega); (exfalso; omega); (have he : (if R ((f + 3 * (i : Int)) + 2).toNat = 1 then (1 : Int) else 0) = R ((f + 3 * (i : Int)) + 2).toNat := (by split <;> omega); rw [hn1] at z4; have hx := ih (m - 1) (by omega) h214 (i + 1) (by omega) (by omega) hok (fun j hj => by (rcases (by omega : j < i ∨ j = i) with q | rfl; exact hall j q; exact ⟨hz, by omega, by rw [e0] at z1; exact z1.1, z1.2, by omega⟩)) (hfr.tr z6) (by (show RS h214 (upS (rdSs S (h.I 151 71) R f i) ((h.I 151 71) + i).toNat (R (f + 3 * (i : Int)).toNat, R ((f + 3 * (i : Int)) + 1).toNat, R ((f + 3 * (i : Int)) + 2).toNat)); first | (rw [show R ((f + 3 * (i : Int)) + 2).toNat = 1 by omega]; exact z4) | (rw [show R ((f + 3 * (i : Int)) + 2).toNat = 0 by omega]; exact z4))) (by rw [z5, hn1]; push_cast; omega); rw [hz]; exact hx))
      · skip
        have hz : fltS L C l (f + 3 * (i : Int)) 3 = 0 := by omega
        have hzb := (fltS_c L C l (f + 3 * (i : Int)) 3).2 hz
        have w0 := rd_cl hfr hok.1 hCb hcl hz (x := (f + 3 * (i : Int))) (by omega) (z := 40 * k + f + 3 * (i : Int)) (by omega)
        have w1 := rd_cl hfr hok.1 hCb hcl hz (x := (f + 3 * (i : Int)) + 1) (by omega) (z := 40 * k + f + 3 * (i : Int) + 1) (by omega)
        have w2 := rd_cl hfr hok.1 hCb hcl hz (x := (f + 3 * (i : Int)) + 2) (by omega) (z := 40 * k + f + 3 * (i : Int) + 2) (by omega)
        have hpr := pI_01 (0 ≤ R ((f + 3 * (i : Int)) + 2).toNat ∧ R ((f + 3 * (i : Int)) + 2).toNat ≤ 1)
        have hpq := pI_eq1 (P := 0 ≤ R ((f + 3 * (i : Int)) + 2).toNat ∧ R ((f + 3 * (i : Int)) + 2).toNat ≤ 1)
        refine g_bipush dX9_read_148 kb40 (g_iload_n dX9_read_150 rfl rfl (g_imul dX9_read_151 (g_iload_n dX9_read_152 rfl rfl (g_iadd dX9_read_153 (g_iconst dX9_read_154 (g_iload dX9_read_155 rfl (g_imul dX9_read_157 (g_iadd dX9_read_158 (g_ist9 dX9_read_159 (by decide) rfl (g_aload_n dX9_read_161 rfl rfl (gf_X9_40 (M := mX9_read) rfl dX9_read_162 (yo150 hY) (yr150_25 hY) ?_)))))))))))
        refine g_iload dX9_read_165 rfl (g_iconst dX9_read_167 (g_iadd dX9_read_168 (g_iald dX9_read_169 (ya160 hY) ⟨by omega, by omega, by omega⟩ ?_)))
        rw [w2.1]
        refine g_i2l dX9_read_170 (by omega) (g_lconst (v := 0) dX9_read_171 rfl (g_lconst (v := 1) dX9_read_172 rfl (cv_X9_71 (M := mX9_read) rfl dX9_read_173 (RO.same _ _ _) (Nat.le_of_ble_eq_true rfl) (e_X9_in (by omega) (by omega) (by omega)) <| kI ?_)))
        refine g_if_eq 220 dX9_read_176 rfl (by omega) (fun c176 => ?_) (fun c176 => ?_)
        · skip
          refine g_aload_n dX9_read_220 rfl rfl (gf_X9_7 (M := mX9_read) rfl dX9_read_221 (yo150 hY) (yr150_0 hY) (g_bipush dX9_read_224 kb71 (g_iload dX9_read_226 rfl (g_isN 71 dX9_read_228 (ya151 hY) ⟨by decide, by decide, by decide⟩ rfl (g_bipush dX9_read_229 kbm20 (g_iload dX9_read_231 rfl (g_isub dX9_read_233 ?_)))))))
          exact g_iret dX9_read_234 rfl rfl ⟨Nat.le_refl _, Nat.le_refl _⟩ (by first | exact ⟨_, rfl, Or.inr ⟨hok, i, rd_q hall hi (Or.inr (fun z => by have := z.2.1; omega)), (rdV_r (by omega) hz).symm, rd_bk hS hfr hS1 hn1 (by omega) hz⟩⟩ | (rcases hq214 with ⟨z1, z2, z3⟩ | ⟨z1, ⟨z2, z3, z4⟩ | z⟩; (subst z3; exact ⟨_, rfl, Or.inr ⟨hok, i, rd_q hall hi (Or.inr (fun z => z1 (by rw [e0]; exact ⟨z.2.2.1, z.2.2.2.1⟩))), (rdV_r (by omega) hz).symm, rd_bk hS hfr hS1 hn1 (by omega) hz⟩⟩); (subst z4; exact ⟨_, rfl, Or.inr ⟨hok, i, rd_q hall hi (Or.inr (fun z => by have := z.2.2.2.2; omega)), (rdV_r (by omega) hz).symm, rd_bk hS hfr hS1 hn1 (by omega) hz⟩⟩); (exfalso; omega)))
        · skip
          refine g_aload_n dX9_read_179 rfl rfl (g_aload_n dX9_read_180 rfl rfl (gf_X9_40 (M := mX9_read) rfl dX9_read_181 (yo150 hY) (yr150_25 hY) (g_iload dX9_read_184 rfl (g_iald dX9_read_186 (ya160 hY) ⟨by omega, by omega, by omega⟩ ?_))))
          rw [w0.1]
          refine g_aload_n dX9_read_187 rfl rfl (gf_X9_40 (M := mX9_read) rfl dX9_read_188 (yo150 hY) (yr150_25 hY) (g_iload dX9_read_191 rfl (g_iconst dX9_read_193 (g_iadd dX9_read_194 (g_iald dX9_read_195 (ya160 hY) ⟨by omega, by omega, by omega⟩ ?_)))))
          rw [w1.1]
          refine g_aload_n dX9_read_196 rfl rfl (gf_X9_40 (M := mX9_read) rfl dX9_read_197 (yo150 hY) (yr150_25 hY) (g_iload dX9_read_200 rfl (g_iconst dX9_read_202 (g_iadd dX9_read_203 (g_iald dX9_read_204 (ya160 hY) ⟨by omega, by omega, by omega⟩ ?_)))))
          rw [w2.1]
          refine g_iconst dX9_read_205 ?_
          refine g_icmp_ne 213 dX9_read_206 rfl (by omega) (by omega) (fun c206 => ?_) (fun c206 => ?_)
          · skip
            refine g_iconst dX9_read_213 ?_
            refine cv_X9_331 (M := mX9_read) rfl dX9_read_214 (yo150 hY) (RO.same _ _ _) (Nat.le_of_ble_eq_true rfl) (e_X9_see hY hR1 hS1 (by omega) (by omega) (by omega)) (kQX fun v214 h214 hq214 => ?_)
            refine g_if_ge 235 dX9_read_217 rfl (by omega) (fun c217 => ?_) (fun c217 => ?_)
            · skip
              refine g_inc7 dX9_read_235 (by decide) rfl (g_inc8 dX9_read_238 (by decide) rfl (g_goto 41 dX9_read_241 rfl (g_dr9 ?_)))
              first
              | exact L41B h1 i hin hok hall (by omega) hfr hS1 hn1
              | (rcases hq214 with z | ⟨z1, z | ⟨z2, z3, z4, z5, z6⟩⟩; (exfalso; omega); (exfalso; omega); (have he : (if R ((f + 3 * (i : Int)) + 2).toNat = 1 then (1 : Int) else 0) = R ((f + 3 * (i : Int)) + 2).toNat := (by split <;> omega); rw [hn1] at z4; have hx := ih (m - 1) (by omega) h214 (i + 1) (by omega) (by omega) hok (fun j hj => by (rcases (by omega : j < i ∨ j = i) with q | rfl; exact hall j q; exact ⟨hz, by omega, by rw [e0] at z1; exact z1.1, z1.2, by omega⟩)) (hfr.tr z6) (by (show RS h214 (upS (rdSs S (h.I 151 71) R f i) ((h.I 151 71) + i).toNat (R (f + 3 * (i : Int)).toNat, R ((f + 3 * (i : Int)) + 1).toNat, R ((f + 3 * (i : Int)) + 2).toNat)); first | (rw [show R ((f + 3 * (i : Int)) + 2).toNat = 1 by omega]; exact z4) | (rw [show R ((f + 3 * (i : Int)) + 2).toNat = 0 by omega]; exact z4))) (by rw [z5, hn1]; push_cast; omega); rw [hz]; exact hx))
            · skip
              refine g_aload_n dX9_read_220 rfl rfl (gf_X9_7 (M := mX9_read) rfl dX9_read_221 (yo150 hY) (yr150_0 hY) (g_bipush dX9_read_224 kb71 (g_iload dX9_read_226 rfl (g_isN 71 dX9_read_228 (ya151 hY) ⟨by decide, by decide, by decide⟩ rfl (g_bipush dX9_read_229 kbm20 (g_iload dX9_read_231 rfl (g_isub dX9_read_233 ?_)))))))
              exact g_iret dX9_read_234 rfl rfl ⟨Nat.le_refl _, Nat.le_refl _⟩ (by first | exact ⟨_, rfl, Or.inr ⟨hok, i, rd_q hall hi (Or.inr (fun z => by have := z.2.1; omega)), (rdV_r (by omega) hz).symm, rd_bk hS hfr hS1 hn1 (by omega) hz⟩⟩ | (rcases hq214 with ⟨z1, z2, z3⟩ | ⟨z1, ⟨z2, z3, z4⟩ | z⟩; (subst z3; exact ⟨_, rfl, Or.inr ⟨hok, i, rd_q hall hi (Or.inr (fun z => z1 (by rw [e0]; exact ⟨z.2.2.1, z.2.2.2.1⟩))), (rdV_r (by omega) hz).symm, rd_bk hS hfr hS1 hn1 (by omega) hz⟩⟩); (subst z4; exact ⟨_, rfl, Or.inr ⟨hok, i, rd_q hall hi (Or.inr (fun z => by have := z.2.2.2.2; omega)), (rdV_r (by omega) hz).symm, rd_bk hS hfr hS1 hn1 (by omega) hz⟩⟩); (exfalso; omega)))
          · skip
            refine g_iconst dX9_read_209 (g_goto 214 dX9_read_210 rfl ?_)
            refine cv_X9_331 (M := mX9_read) rfl dX9_read_214 (yo150 hY) (RO.same _ _ _) (Nat.le_of_ble_eq_true rfl) (e_X9_see hY hR1 hS1 (by omega) (by omega) (by omega)) (kQX fun v214 h214 hq214 => ?_)
            refine g_if_ge 235 dX9_read_217 rfl (by omega) (fun c217 => ?_) (fun c217 => ?_)
            · skip
              refine g_inc7 dX9_read_235 (by decide) rfl (g_inc8 dX9_read_238 (by decide) rfl (g_goto 41 dX9_read_241 rfl (g_dr9 ?_)))
              first
              | exact L41B h1 i hin hok hall (by omega) hfr hS1 hn1
              | (rcases hq214 with z | ⟨z1, z | ⟨z2, z3, z4, z5, z6⟩⟩; (exfalso; omega); (exfalso; omega); (have he : (if R ((f + 3 * (i : Int)) + 2).toNat = 1 then (1 : Int) else 0) = R ((f + 3 * (i : Int)) + 2).toNat := (by split <;> omega); rw [hn1] at z4; have hx := ih (m - 1) (by omega) h214 (i + 1) (by omega) (by omega) hok (fun j hj => by (rcases (by omega : j < i ∨ j = i) with q | rfl; exact hall j q; exact ⟨hz, by omega, by rw [e0] at z1; exact z1.1, z1.2, by omega⟩)) (hfr.tr z6) (by (show RS h214 (upS (rdSs S (h.I 151 71) R f i) ((h.I 151 71) + i).toNat (R (f + 3 * (i : Int)).toNat, R ((f + 3 * (i : Int)) + 1).toNat, R ((f + 3 * (i : Int)) + 2).toNat)); first | (rw [show R ((f + 3 * (i : Int)) + 2).toNat = 1 by omega]; exact z4) | (rw [show R ((f + 3 * (i : Int)) + 2).toNat = 0 by omega]; exact z4))) (by rw [z5, hn1]; push_cast; omega); rw [hz]; exact hx))
            · skip
              refine g_aload_n dX9_read_220 rfl rfl (gf_X9_7 (M := mX9_read) rfl dX9_read_221 (yo150 hY) (yr150_0 hY) (g_bipush dX9_read_224 kb71 (g_iload dX9_read_226 rfl (g_isN 71 dX9_read_228 (ya151 hY) ⟨by decide, by decide, by decide⟩ rfl (g_bipush dX9_read_229 kbm20 (g_iload dX9_read_231 rfl (g_isub dX9_read_233 ?_)))))))
              exact g_iret dX9_read_234 rfl rfl ⟨Nat.le_refl _, Nat.le_refl _⟩ (by first | exact ⟨_, rfl, Or.inr ⟨hok, i, rd_q hall hi (Or.inr (fun z => by have := z.2.1; omega)), (rdV_r (by omega) hz).symm, rd_bk hS hfr hS1 hn1 (by omega) hz⟩⟩ | (rcases hq214 with ⟨z1, z2, z3⟩ | ⟨z1, ⟨z2, z3, z4⟩ | z⟩; (subst z3; exact ⟨_, rfl, Or.inr ⟨hok, i, rd_q hall hi (Or.inr (fun z => z1 (by rw [e0]; exact ⟨z.2.2.1, z.2.2.2.1⟩))), (rdV_r (by omega) hz).symm, rd_bk hS hfr hS1 hn1 (by omega) hz⟩⟩); (subst z4; exact ⟨_, rfl, Or.inr ⟨hok, i, rd_q hall hi (Or.inr (fun z => by have := z.2.2.2.2; omega)), (rdV_r (by omega) hz).symm, rd_bk hS hfr hS1 hn1 (by omega) hz⟩⟩); (exfalso; omega)))
    have L56 : (i : Int) < n → ∀ (p : Nat) (v c : Int), (p : Int) = 3 - c → v = flI L C l (f + 3 * (i : Int)) c → 0 ≤ c ∧ c ≤ 3 → Go G mX9_read (rmo (d + 3) 0 0) (ZM G y 0 0 (fun r h1 => ∃ v_ : Int, r = some (.int (iZ v_)) ∧ (fun v h1 => (¬ ((0 ≤ k ∧ k < 4) ∧ (0 ≤ l ∧ l ≤ 2) ∧ (0 ≤ n ∧ n ≤ 12)) ∧ v = -1 ∧ h1 = h) ∨ (((0 ≤ k ∧ k < 4) ∧ (0 ≤ l ∧ l ≤ 2) ∧ (0 ≤ n ∧ n ≤ 12)) ∧ ∃ i : Nat, RdQ (h.I 151 0) (h.I 151 71) L C l f n R i ∧ v = rdV L C l f n i ∧ RdE h h1 S L C l f n R i)) v_ h1)) y 56 [some (.ref 150), some (.int (iZ k)), some (.int (iZ l)), some (.int (iZ f)), some (.int (iZ n)), some (.int (iZ (h.I 151 71))), some (.int (iZ v)), some (.int (iZ i)), some (.int (iZ i)), some (.int (iZ c)), none, none] [] h1 (0, 0) := by
      intro hin p
      induction p using Nat.strongRecOn with | _ p jh =>
      intro v c hp hv hc
      have hfb := flI_bd L C l (f + 3 * (i : Int)) c
      refine g_iload dX9_read_56 rfl (g_iconst dX9_read_58 ?_)
      refine g_icmp_ge 143 dX9_read_59 rfl (by omega) (by omega) (fun c59 => ?_) (fun c59 => ?_)
      · skip
        exact L143 v c hin hv hc (by omega)
      · skip
        refine g_iload dX9_read_62 rfl ?_
        refine g_if_ne 143 dX9_read_64 rfl (by omega) (fun c64 => ?_) (fun c64 => ?_)
        · skip
          exact L143 v c hin hv hc (by omega)
        · skip
          refine g_iload_n dX9_read_67 rfl rfl (g_i2l dX9_read_68 (by omega) (g_iconst dX9_read_69 (g_iload dX9_read_70 rfl (g_imul dX9_read_72 (g_i2l dX9_read_73 (by omega) (g_ladd dX9_read_74 (g_iload dX9_read_75 rfl (g_i2l dX9_read_77 (by omega) (g_ladd dX9_read_78 (g_lst10 dX9_read_79 (by decide) rfl (g_aload_n dX9_read_81 rfl rfl ?_)))))))))))
          refine gf_X9_34 (M := mX9_read) rfl dX9_read_82 (yo150 hY) (yr150_23 hY) (g_iload_n dX9_read_85 rfl rfl (g_iald dX9_read_86 (ya158 hY) ⟨by omega, by omega, by omega⟩ (g_bipush dX9_read_87 kbm4 ?_)))
          refine g_icmp_ne 96 dX9_read_89 rfl (by omega) (by omega) (fun c89 => ?_) (fun c89 => ?_)
          · skip
            refine g_aload_n dX9_read_96 rfl rfl (gf_X9_34 (M := mX9_read) rfl dX9_read_97 (yo150 hY) (yr150_23 hY) (g_iload_n dX9_read_100 rfl rfl (g_iald dX9_read_101 (ya158 hY) ⟨by omega, by omega, by omega⟩ (g_iload_n dX9_read_102 rfl rfl ?_))))
            refine g_icmp_eq 110 dX9_read_103 rfl (by omega) (by omega) (fun c103 => ?_) (fun c103 => ?_)
            · skip
              refine g_lload dX9_read_110 rfl (g_lconst (v := 0) dX9_read_112 rfl ?_)
              refine g_lcmp_lt 130 dX9_read_113 dX9_read_114 rfl (by omega) (by omega) (fun c113 => ?_) (fun c113 => ?_)
              · skip
                refine g_iconst dX9_read_130 (g_goto 135 dX9_read_131 rfl (g_ist6 dX9_read_135 (by decide) rfl (g_inc9 dX9_read_137 (by decide) rfl (g_goto 56 dX9_read_140 rfl (g_dr10 ?_)))))
                first | (exfalso; omega) | exact jh (p - 1) (by omega) _ (c + 1) (by omega) (flI_s hc.1 (by omega) (by omega)).symm (by omega)
              · skip
                refine g_lload dX9_read_117 rfl (g_aload_n dX9_read_119 rfl rfl (gf_X9_37 (M := mX9_read) rfl dX9_read_120 (yo150 hY) (yr150_24 hY) (g_iload_n dX9_read_123 rfl rfl (g_iald dX9_read_124 (ya159 hY) ⟨by omega, by omega, by omega⟩ (g_i2l dX9_read_125 (by omega) ?_)))))
                refine g_lcmp_lt 134 dX9_read_126 dX9_read_127 rfl (by omega) (by omega) (fun c126 => ?_) (fun c126 => ?_)
                · skip
                  refine g_iconst dX9_read_134 (g_ist6 dX9_read_135 (by decide) rfl (g_inc9 dX9_read_137 (by decide) rfl (g_goto 56 dX9_read_140 rfl (g_dr10 ?_))))
                  first | (exfalso; omega) | exact jh (p - 1) (by omega) _ (c + 1) (by omega) (flI_s hc.1 (by omega) (by omega)).symm (by omega)
                · skip
                  refine g_iconst dX9_read_130 (g_goto 135 dX9_read_131 rfl (g_ist6 dX9_read_135 (by decide) rfl (g_inc9 dX9_read_137 (by decide) rfl (g_goto 56 dX9_read_140 rfl (g_dr10 ?_)))))
                  first | (exfalso; omega) | exact jh (p - 1) (by omega) _ (c + 1) (by omega) (flI_s hc.1 (by omega) (by omega)).symm (by omega)
            · skip
              refine g_iconst dX9_read_106 (g_goto 135 dX9_read_107 rfl (g_ist6 dX9_read_135 (by decide) rfl (g_inc9 dX9_read_137 (by decide) rfl (g_goto 56 dX9_read_140 rfl (g_dr10 ?_)))))
              first | (exfalso; omega) | exact jh (p - 1) (by omega) _ (c + 1) (by omega) (flI_s hc.1 (by omega) (by omega)).symm (by omega)
          · skip
            refine g_iconst dX9_read_92 (g_goto 135 dX9_read_93 rfl (g_ist6 dX9_read_135 (by decide) rfl (g_inc9 dX9_read_137 (by decide) rfl (g_goto 56 dX9_read_140 rfl (g_dr10 ?_)))))
            first | (exfalso; omega) | exact jh (p - 1) (by omega) _ (c + 1) (by omega) (flI_s hc.1 (by omega) (by omega)).symm (by omega)
    refine g_iload dX9_read_41 rfl (g_iload dX9_read_43 rfl ?_)
    refine g_icmp_ge 244 dX9_read_45 rfl (by omega) (by omega) (fun c45 => ?_) (fun c45 => ?_)
    · skip
      refine g_aload_n dX9_read_244 rfl rfl (g_iload dX9_read_245 rfl (pf_X9_335 (M := mX9_read) rfl dX9_read_247 (yo150 hY) (g_iload dX9_read_250 rfl ?_)))
      exact g_iret dX9_read_252 rfl rfl ⟨Nat.le_refl _, Nat.le_refl _⟩ (by first | (exfalso; omega) | exact ⟨(i : Int), rfl, Or.inr ⟨hok, i, rd_q hall hi (Or.inl (by omega)), (rdV_n (by omega)).symm, rd_fin hfr hS1 hn1 (Or.inl ⟨by omega, rfl⟩)⟩⟩)
    · skip
      refine g_iload dX9_read_48 rfl ?_
      refine g_if_ne 244 dX9_read_50 rfl (by omega) (fun c50 => ?_) (fun c50 => ?_)
      · skip
        refine g_aload_n dX9_read_244 rfl rfl (g_iload dX9_read_245 rfl (pf_X9_335 (M := mX9_read) rfl dX9_read_247 (yo150 hY) (g_iload dX9_read_250 rfl ?_)))
        exact g_iret dX9_read_252 rfl rfl ⟨Nat.le_refl _, Nat.le_refl _⟩ (by first | (exfalso; omega) | exact ⟨(i : Int), rfl, Or.inr ⟨hok, i, rd_q hall hi (Or.inl (by omega)), (rdV_n (by omega)).symm, rd_fin hfr hS1 hn1 (Or.inl ⟨by omega, rfl⟩)⟩⟩)
      · skip
        refine g_iconst dX9_read_53 (g_ist9 dX9_read_54 (by decide) rfl ?_)
        exact L56 (by omega) 3 0 0 (by omega) rfl (by omega)
  refine g_iload_n dX9_read_0 rfl rfl (g_iload_n dX9_read_1 rfl rfl (cv_X9_326 (M := mX9_read) rfl dX9_read_2 (RO.same _ _ _) (Nat.le_of_ble_eq_true rfl) (e_X9_isSheet (by omega) (by omega)) <| kI ?_))
  refine g_if_eq 21 dX9_read_5 rfl (by omega) (fun c5 => ?_) (fun c5 => ?_)
  · skip
    refine g_iconst dX9_read_21 ?_
    exact g_iret dX9_read_22 rfl rfl ⟨Nat.le_refl _, Nat.le_refl _⟩ (by exact ⟨-1, rfl, Or.inl ⟨by omega, rfl, rfl⟩⟩)
  · skip
    refine g_iload dX9_read_8 rfl (g_i2l dX9_read_10 (by omega) (g_lconst (v := 0) dX9_read_11 rfl (c2_X9_329 (M := mX9_read) rfl dX9_read_12 (cv_X9_71 (M := mX9_read) rfl dX9_read_15 (RO.same _ _ _) (Nat.le_of_ble_eq_true rfl) (e_X9_in (by omega) (by omega) (by omega)) <| kI ?_))))
    refine g_if_ne 23 dX9_read_18 rfl (by omega) (fun c18 => ?_) (fun c18 => ?_)
    · skip
      refine g_aload_n dX9_read_23 rfl rfl (gf_X9_7 (M := mX9_read) rfl dX9_read_24 (yo150 hY) (yr150_0 hY) (g_bipush dX9_read_27 kb71 (g_iaN 71 dX9_read_29 (ya151 hY) ⟨by decide, by decide, by decide⟩ rfl (g_ist5 dX9_read_30 (by decide) rfl (g_iconst dX9_read_32 (g_ist6 dX9_read_33 (by decide) rfl (g_iconst dX9_read_35 (g_ist7 dX9_read_36 (by decide) rfl (g_iconst dX9_read_38 (g_ist8 dX9_read_39 (by decide) rfl ?_))))))))))
      exact L41 n.toNat h 0 (by omega) (by omega) (by omega) (fun j hj => by omega) (FrR.rf h 71 108) hS (by omega)
    · skip
      refine g_iconst dX9_read_21 ?_
      exact g_iret dX9_read_22 rfl rfl ⟨Nat.le_refl _, Nat.le_refl _⟩ (by exact ⟨-1, rfl, Or.inl ⟨by omega, rfl, rfl⟩⟩)
set_option maxRecDepth 100000 in
set_option maxHeartbeats 1000000 in
theorem e_X9_count {G : GX} {y : LY} {h : HM} {d : Nat} (hY : Lay y) {F : Nat → Fg} (hR : RF h F) {w ns L C : Int} (hw : R32 w) (hk0 : h.I 152 0 = 0 ∨ h.I 152 0 = 1) (hk1 : h.I 152 1 = 0 ∨ h.I 152 1 = 1) (hsh : ShR h 0 L C) : EvI G mX9_count (d + 6) [.ref 150, .int (iZ w)] y h (sp_count (hmS F (h.I 151 0).toNat (h.I 151 0).toNat) (h.I 151 71) (h.I 152 0) (h.I 152 1) (h.I 150 9) C w) := by
  have hnf := hR.1
  have hab := alN_bd (F := F) (n := (h.I 151 0).toNat) (h.I 151 0).toNat
  have h64 : 2 ^ (h.I 151 0).toNat ≤ 2 ^ 6 := Nat.pow_le_pow_right (by decide) (by omega)
  have hbh := bits_hm (F := F) (n := (h.I 151 0).toNat) (by omega)
  have hsu := hsh
  unfold ShR at hsu
  rw [show (0 : Int).toNat = 0 from rfl] at hsu
  refine Ev.of rfl [some (.ref 150), some (.int (iZ w))] rfl (Nat.le_of_ble_eq_true rfl) ?_
  refine g_iload_n dX9_count_0 rfl rfl ?_
  by_cases sw1 : w < 0 ∨ 4 < w
  · refine g_tsOut 100 dX9_count_1 (by omega) sw1 rfl ?_
    refine g_iconst dX9_count_100 ?_
    exact g_iret dX9_count_101 rfl rfl ⟨Nat.le_refl _, Nat.le_refl _⟩ (by exact ⟨someI (by unfold sp_count; first | rfl | (show _ = h.I 152 0 + h.I 152 1; omega) | (show _ = if C < 0 then -4 else C; split <;> omega) | (rw [if_neg (by omega), if_neg (by omega), if_neg (by omega), if_neg (by omega), if_neg (by omega)])), rfl⟩)
  · rcases (by omega : w = 0 ∨ w = 1 ∨ w = 2 ∨ w = 3 ∨ w = 4) with rfl | rfl | rfl | rfl | rfl
    · refine g_tsIn 36 dX9_count_1 (by decide) (by decide) (by decide) rfl rfl ?_
      refine g_aload_n dX9_count_36 rfl rfl (cv_X9_297 (M := mX9_count) rfl dX9_count_37 (yo150 hY) (RO.same _ _ _) (Nat.le_of_ble_eq_true rfl) (e_X9_allCrash hY hR) <| kI (cv_X9_300 (M := mX9_count) rfl dX9_count_40 (RO.same _ _ _) (Nat.le_of_ble_eq_true rfl) (e_X9_bitsOf (by omega)) <| kI ?_))
      rw [hbh]
      exact g_iret dX9_count_43 rfl rfl ⟨Nat.le_refl _, Nat.le_refl _⟩ (by exact ⟨someI (by unfold sp_count; first | rfl | (show _ = h.I 152 0 + h.I 152 1; omega) | (show _ = if C < 0 then -4 else C; split <;> omega) | (rw [if_neg (by omega), if_neg (by omega), if_neg (by omega), if_neg (by omega), if_neg (by omega)])), rfl⟩)
    · refine g_tsIn 44 dX9_count_1 (by decide) (by decide) (by decide) rfl rfl ?_
      refine g_aload_n dX9_count_44 rfl rfl (gf_X9_7 (M := mX9_count) rfl dX9_count_45 (yo150 hY) (yr150_0 hY) (g_bipush dX9_count_48 kb71 (g_iaN 71 dX9_count_50 (ya151 hY) ⟨by decide, by decide, by decide⟩ rfl ?_)))
      exact g_iret dX9_count_51 rfl rfl ⟨Nat.le_refl _, Nat.le_refl _⟩ (by exact ⟨someI (by unfold sp_count; first | rfl | (show _ = h.I 152 0 + h.I 152 1; omega) | (show _ = if C < 0 then -4 else C; split <;> omega) | (rw [if_neg (by omega), if_neg (by omega), if_neg (by omega), if_neg (by omega), if_neg (by omega)])), rfl⟩)
    · refine g_tsIn 52 dX9_count_1 (by decide) (by decide) (by decide) rfl rfl ?_
      refine g_aload_n dX9_count_52 rfl rfl (gf_X9_13 (M := mX9_count) rfl dX9_count_53 (yo150 hY) (yr150_1 hY) (g_iconst dX9_count_56 (g_zaN 0 dX9_count_57 (ya152 hY) ⟨by decide, by decide, by decide⟩ rfl (cv_X9_173 (M := mX9_count) rfl dX9_count_58 (RO.same _ _ _) (Nat.le_of_ble_eq_true rfl) (e_X9_flag (by omega)) <| kI (g_aload_n dX9_count_61 rfl rfl (gf_X9_13 (M := mX9_count) rfl dX9_count_62 (yo150 hY) (yr150_1 hY) (g_iconst dX9_count_65 (g_zaN 1 dX9_count_66 (ya152 hY) ⟨by decide, by decide, by decide⟩ rfl (cv_X9_173 (M := mX9_count) rfl dX9_count_67 (RO.same _ _ _) (Nat.le_of_ble_eq_true rfl) (e_X9_flag (by omega)) <| kI (g_iadd dX9_count_70 ?_))))))))))
      exact g_iret dX9_count_71 rfl rfl ⟨Nat.le_refl _, Nat.le_refl _⟩ (by exact ⟨someI (by unfold sp_count; first | rfl | (show _ = h.I 152 0 + h.I 152 1; omega) | (show _ = if C < 0 then -4 else C; split <;> omega) | (rw [if_neg (by omega), if_neg (by omega), if_neg (by omega), if_neg (by omega), if_neg (by omega)])), rfl⟩)
    · refine g_tsIn 72 dX9_count_1 (by decide) (by decide) (by decide) rfl rfl ?_
      refine g_aload_n dX9_count_72 rfl rfl (gf_X9_66 (M := mX9_count) rfl dX9_count_73 (yo150 hY) ?_)
      exact g_iret dX9_count_76 rfl rfl ⟨Nat.le_refl _, Nat.le_refl _⟩ (by exact ⟨someI (by unfold sp_count; first | rfl | (show _ = h.I 152 0 + h.I 152 1; omega) | (show _ = if C < 0 then -4 else C; split <;> omega) | (rw [if_neg (by omega), if_neg (by omega), if_neg (by omega), if_neg (by omega), if_neg (by omega)])), rfl⟩)
    · refine g_tsIn 77 dX9_count_1 (by decide) (by decide) (by decide) rfl rfl ?_
      refine g_aload_n dX9_count_77 rfl rfl (gf_X9_34 (M := mX9_count) rfl dX9_count_78 (yo150 hY) (yr150_23 hY) (g_iconst dX9_count_81 (g_iaN 0 dX9_count_82 (ya158 hY) ⟨by decide, by decide, by decide⟩ rfl (g_bipush dX9_count_83 kbm4 ?_))))
      refine g_icmp_ne 93 dX9_count_85 rfl (by omega) (by omega) (fun c85 => ?_) (fun c85 => ?_)
      · skip
        refine g_aload_n dX9_count_93 rfl rfl (gf_X9_37 (M := mX9_count) rfl dX9_count_94 (yo150 hY) (yr150_24 hY) (g_iconst dX9_count_97 (g_iaN 0 dX9_count_98 (ya159 hY) ⟨by decide, by decide, by decide⟩ rfl ?_)))
        exact g_iret dX9_count_99 rfl rfl ⟨Nat.le_refl _, Nat.le_refl _⟩ (by exact ⟨someI (by unfold sp_count; first | rfl | (show _ = h.I 152 0 + h.I 152 1; omega) | (show _ = if C < 0 then -4 else C; split <;> omega) | (rw [if_neg (by omega), if_neg (by omega), if_neg (by omega), if_neg (by omega), if_neg (by omega)])), rfl⟩)
      · skip
        refine g_bipush dX9_count_88 kbm4 (g_goto 99 dX9_count_90 rfl ?_)
        exact g_iret dX9_count_99 rfl rfl ⟨Nat.le_refl _, Nat.le_refl _⟩ (by exact ⟨someI (by unfold sp_count; first | rfl | (show _ = h.I 152 0 + h.I 152 1; omega) | (show _ = if C < 0 then -4 else C; split <;> omega) | (rw [if_neg (by omega), if_neg (by omega), if_neg (by omega), if_neg (by omega), if_neg (by omega)])), rfl⟩)
