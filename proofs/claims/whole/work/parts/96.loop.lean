/-! THE CLAIM OUT OF ONE WALK OF THE LAW'S BODY. Your part is whole_start (and what it stands on); all else here is the same for every law, but numbers. -/
def R_law : String := "ClockTeethLaw"
def lw_P (b : Addr) (xs : List Int32) (args : Array Value) (s : State) : Prop := args = #[.ref b] ∧ s.IntsAt b xs ∧ xs.length ≤ 3584 ∧ (Jvm.Cond.and given_1 narrow_1).before args s = true
def lw_Q (_ : Array Value) (s : State) (o : Outcome) (t : State) : Prop := o = .returned (some (.int 1)) ∧ Framed s o t [] 600000 7302250
def lw_Z (below : List Frame) (a : Array Value) (s : State) : State → Prop := fun t => ∃ o, t.status = .running ∧ Ended t below o ∧ lw_Q a s o t
/-- the law's own end, with 1 on the stack, nothing written that was there before, its room as the claim has it -/
theorem lw_ret {p : Program} {l : Launch} {e : Env} {s : State} {m : MethodId} {below : List Frame} {meth : Method} {c : Code} {b : Nat} (hx : p.tables.exec = Jvm.exec) (hb : c.code = code) (hr : meth.sig.returnType = ret) (hlocks : meth.locks = false) {pc : Nat} {H : Heap} {ls : Array Slot} (hdg : decode code pc = .ok (.ireturn, 1)) : W p l e room_1 s m #[Value.ref b] below meth c H [] 600000 7302250 (lw_Z below #[Value.ref b] s) (F0 m pc ls [.int 1]) := by
  intro T hT X
  obtain ⟨fs, hret, hrun, hended, hW, hframe⟩ := X.leave (v := some (.int 1)) (hlocks := hlocks) (fun h => by rw [hr] at h; cases h)
  have hmeth' : T.vm.method? m = some meth := X.method'
  refine ⟨T.setFrames fs, ?_, .returned (some (.int 1)), hrun, hended, rfl, ⟨_, rfl⟩, hW, hframe⟩
  jvm_step X.here [X.here.top, hx, hb, hdg, hmeth', hr, ret, narrow_b1]
  (try refine ⟨rfl, ?_⟩); (try refine ⟨rfl, ?_⟩)
  first | (intro acts; rw [hret _ acts rfl rfl rfl]) | rw [hret _ _ rfl rfl rfl]
  exact Steps.refl _
/-- what holds at the law's entry: the machine, the code, the tables' words (any of lw_tbl by 'hts w (by decide +kernel)'), the script of L ints xs at the cell b, what the Statement gives of the start (any of its parts by flat_of_before) -/
def lw_At (p : Program) (s : State) (m : MethodId) (meth : Method) (c : Code) (b L : Nat) (xs : Nat → Int32) : Prop :=
  p.tables.exec = Jvm.exec ∧ c.code = code ∧ meth.sig.returnType = ret ∧ c.maxLocals = 4 ∧ s.vm.findClass R_law = some m.cls ∧ (∀ w ∈ lw_tbl, w.before #[Value.ref b] s = true) ∧ va_X b L xs s s.heap ∧ b < s.heap.size ∧ meth.locks = false ∧ (Jvm.Cond.and given_1 narrow_1).before #[Value.ref b] s = true ∧ meth.name = yL_law.name
/-- the law's own end -/
def ZL (G : GX) : ZT := fun s args below t => (G.base = s.heap.size ∧ ∃ b : Nat, args = #[Value.ref b]) → lw_Z below args s t
theorem g_lend {G : GX} {y : LY} {pc : Nat} {ls : List (Option Value)} {h : HM} {cs : Nat × Nat} (hd : decode code pc = .ok (.ireturn, 1)) (hc : cs.1 ≤ 600000 ∧ cs.2 ≤ 7302250) : Go G mL_law room_1 (ZL G) y pc ls [.int (iZ 1)] h cs := by
  intro p e s m args below meth c H locs la C hh hS hl
  by_cases hP : G.base = s.heap.size ∧ ∃ b : Nat, args = #[Value.ref b]
  · obtain ⟨hB, b, rfl⟩ := hP
    have w : W p G.l e room_1 s m #[Value.ref b] below meth c H locs cs.1 cs.2 (lw_Z below #[Value.ref b] s) (F0 m pc la [.int 1]) := W.widen hc.1 hc.2 (va_forget (fun q hq => by have z := hS.2.2 q hq; unfold oldA at z; omega) (lw_ret C.1 C.2.1 C.2.2.1 C.2.2.2.2.2.2.2.1 hd))
    intro T hT Xs
    obtain ⟨t, a, z⟩ := w T hT Xs
    exact ⟨t, a, fun _ => z⟩
  · intro T hT Xs
    exact ⟨_, Steps.refl _, fun z => absurd z hP⟩
set_option maxRecDepth 100000 in
set_option maxHeartbeats 4000000 in
theorem law_loop {G : GX} (hlen : G.len ≤ 3584) : ∀ (m : Nat) (y : LY) (h : HM) (cs : Nat × Nat) (at_ : Int), 0 ≤ at_ → (G.len : Int) - at_ ≤ m → at_ ≤ 4000 → Lay y → Inv h → cs.1 + m ≤ 600000 → cs.2 + 9 * m ≤ 7302250 → Go G mL_law room_1 (ZL G) y 18 [some (.ref 8), some (.ref 9), some (.ref 150), some (.int (iZ at_))] [] h cs := by
  intro m
  induction m with
  | zero =>
    intro y h cs at_ h0 hm h4 hY hi hc1 hc2
    refine g_iload_n dL_law_18 rfl rfl (g_aload_n dL_law_19 rfl rfl (g_slen8 dL_law_20 (g_bipush dL_law_21 kb7 (g_isub dL_law_23 ?_))))
    refine g_icmp_gt 2066 dL_law_24 rfl (by omega) (by omega) (fun cc => ?_) (fun cc => ?_)
    · refine g_iconst dL_law_2066 ?_
      exact g_lend dL_law_2067 ⟨by omega, by omega⟩
    · exfalso; omega
  | succ m ih =>
    intro y h cs at_ h0 hm h4 hY hi hc1 hc2
    refine g_iload_n dL_law_18 rfl rfl (g_aload_n dL_law_19 rfl rfl (g_slen8 dL_law_20 (g_bipush dL_law_21 kb7 (g_isub dL_law_23 ?_))))
    refine g_icmp_gt 2066 dL_law_24 rfl (by omega) (by omega) (fun cc => ?_) (fun cc => ?_)
    · refine g_iconst dL_law_2066 ?_
      exact g_lend dL_law_2067 ⟨by omega, by omega⟩
    · have hat : 0 ≤ at_ ∧ at_ + 7 ≤ G.len := (by omega)
      have hl2 : G.len < 2147483648 := (by omega)
      have K : ∀ (y2 : LY) (h2 : HM) (cs2 : Nat × Nat), Lay y2 → Inv h2 → cs2.1 + m ≤ 600000 → cs2.2 + 9 * m ≤ 7302250 → Go G mL_law room_1 (ZL G) y2 2060 [some (.ref 8), some (.ref 9), some (.ref 150), some (.int (iZ at_))] [] h2 cs2 := by
        intro y2 h2 cs2 g1 g2 g3 g4
        refine g_inc3 dL_law_2060 (by decide) rfl (g_goto 18 dL_law_2063 rfl ?_)
        exact ih y2 h2 cs2 (at_ + 7) (by omega) (by omega) (by omega) g1 g2 g3 g4
      have K0 : ∀ h2, Inv h2 → Go G mL_law room_1 (ZL G) y 2060 [some (.ref 8), some (.ref 9), some (.ref 150), some (.int (iZ at_))] [] h2 cs := fun h2 g2 => K y h2 cs hY g2 (by omega) (by omega)
      have hR : RO room_1 20 0 0 cs := ⟨Nat.le_of_ble_eq_true rfl, Nat.le_of_ble_eq_true rfl, (show cs.1 + 0 ≤ 600000 by omega), (show cs.2 + 0 ≤ 7302250 by omega)⟩
      have hR1 : RO room_1 20 1 9 cs := ⟨Nat.le_of_ble_eq_true rfl, Nat.le_of_ble_eq_true rfl, (show cs.1 + 1 ≤ 600000 by omega), (show cs.2 + 9 ≤ 7302250 by omega)⟩
      refine g_aload_n dL_law_27 rfl rfl (g_iload_n dL_law_28 rfl rfl (g_sld dL_law_29 ⟨by omega, by omega, by omega⟩ (g_bipush dL_law_30 kb63 (g_iand dL_law_32 ?_))))
      generalize hv : iAnd (scV G at_) 63 = v
      have hvr : R32 v := (by rw [← hv]; exact iAnd_r _ _)
      clear hv
      by_cases ho : v < 0 ∨ 41 < v
      · exact g_tsOut 2060 dL_law_33 hvr ho rfl (K0 h hi)
      · have hvc : v = 0 ∨ v = 1 ∨ v = 2 ∨ v = 3 ∨ v = 4 ∨ v = 5 ∨ v = 6 ∨ v = 7 ∨ v = 8 ∨ v = 9 ∨ v = 10 ∨ v = 11 ∨ v = 12 ∨ v = 13 ∨ v = 14 ∨ v = 15 ∨ v = 16 ∨ v = 17 ∨ v = 18 ∨ v = 19 ∨ v = 20 ∨ v = 21 ∨ v = 22 ∨ v = 23 ∨ v = 24 ∨ v = 25 ∨ v = 26 ∨ v = 27 ∨ v = 28 ∨ v = 29 ∨ v = 30 ∨ v = 31 ∨ v = 32 ∨ v = 33 ∨ v = 34 ∨ v = 35 ∨ v = 36 ∨ v = 37 ∨ v = 38 ∨ v = 39 ∨ v = 40 ∨ v = 41 := (by omega)
        clear ho hvr
        rcases hvc with rfl | rfl | rfl | rfl | rfl | rfl | rfl | rfl | rfl | rfl | rfl | rfl | rfl | rfl | rfl | rfl | rfl | rfl | rfl | rfl | rfl | rfl | rfl | rfl | rfl | rfl | rfl | rfl | rfl | rfl | rfl | rfl | rfl | rfl | rfl | rfl | rfl | rfl | rfl | rfl | rfl | rfl
        · exact g_tsIn 216 dL_law_33 (by decide) (by decide) (by decide) rfl rfl (lc_feed hY hi hat hl2 hR K0)
        · exact g_tsIn 269 dL_law_33 (by decide) (by decide) (by decide) rfl rfl (lc_end hY hi hat hl2 hR K0)
        · exact g_tsIn 292 dL_law_33 (by decide) (by decide) (by decide) rfl rfl (lc_text hY hi hat hl2 hR1 (fun y2 h2 g1 g2 => K y2 h2 _ g1 g2 (show cs.1 + 1 + m ≤ 600000 by omega) (show cs.2 + 9 + 9 * m ≤ 7302250 by omega)))
        · exact g_tsIn 305 dL_law_33 (by decide) (by decide) (by decide) rfl rfl (lc_fault hY hi hat hl2 hR K0)
        · exact g_tsIn 318 dL_law_33 (by decide) (by decide) (by decide) rfl rfl (lc_rule hY hi hat hl2 hR K0)
        · exact g_tsIn 341 dL_law_33 (by decide) (by decide) (by decide) rfl rfl (lc_figure hY hi hat hl2 hR K0)
        · exact g_tsIn 374 dL_law_33 (by decide) (by decide) (by decide) rfl rfl (lc_vote hY hi hat hl2 hR K0)
        · exact g_tsIn 407 dL_law_33 (by decide) (by decide) (by decide) rfl rfl (lc_out hY hi hat hl2 hR K0)
        · exact g_tsIn 470 dL_law_33 (by decide) (by decide) (by decide) rfl rfl (lc_next hY hi hat hl2 hR K0)
        · exact g_tsIn 534 dL_law_33 (by decide) (by decide) (by decide) rfl rfl (lc_last hY hi hat hl2 hR K0)
        · exact g_tsIn 598 dL_law_33 (by decide) (by decide) (by decide) rfl rfl (lc_often hY hi hat hl2 hR K0)
        · exact g_tsIn 702 dL_law_33 (by decide) (by decide) (by decide) rfl rfl (lc_together hY hi hat hl2 hR K0)
        · exact g_tsIn 776 dL_law_33 (by decide) (by decide) (by decide) rfl rfl (lc_meetings hY hi hat hl2 hR K0)
        · exact g_tsIn 892 dL_law_33 (by decide) (by decide) (by decide) rfl rfl (lc_all hY hi hat hl2 hR K0)
        · exact g_tsIn 956 dL_law_33 (by decide) (by decide) (by decide) rfl rfl (lc_cycle hY hi hat hl2 hR K0)
        · exact g_tsIn 980 dL_law_33 (by decide) (by decide) (by decide) rfl rfl (lc_crash hY hi hat hl2 hR K0)
        · exact g_tsIn 1003 dL_law_33 (by decide) (by decide) (by decide) rfl rfl (lc_first hY hi hat hl2 hR K0)
        · exact g_tsIn 1067 dL_law_33 (by decide) (by decide) (by decide) rfl rfl (lc_date hY hi hat hl2 hR K0)
        · exact g_tsIn 1131 dL_law_33 (by decide) (by decide) (by decide) rfl rfl (lc_day hY hi hat hl2 hR K0)
        · exact g_tsIn 1165 dL_law_33 (by decide) (by decide) (by decide) rfl rfl (lc_by hY hi hat hl2 hR K0)
        · exact g_tsIn 1228 dL_law_33 (by decide) (by decide) (by decide) rfl rfl (lc_clashes hY hi hat hl2 hR K0)
        · exact g_tsIn 1291 dL_law_33 (by decide) (by decide) (by decide) rfl rfl (lc_stick hY hi hat hl2 hR K0)
        · exact g_tsIn 1334 dL_law_33 (by decide) (by decide) (by decide) rfl rfl (lc_cut hY hi hat hl2 hR K0)
        · exact g_tsIn 1367 dL_law_33 (by decide) (by decide) (by decide) rfl rfl (lc_turn hY hi hat hl2 hR K0)
        · exact g_tsIn 1390 dL_law_33 (by decide) (by decide) (by decide) rfl rfl (lc_recut hY hi hat hl2 hR K0)
        · exact g_tsIn 1433 dL_law_33 (by decide) (by decide) (by decide) rfl rfl (lc_mend hY hi hat hl2 hR K0)
        · exact g_tsIn 1456 dL_law_33 (by decide) (by decide) (by decide) rfl rfl (lc_hold hY hi hat hl2 hR K0)
        · exact g_tsIn 1479 dL_law_33 (by decide) (by decide) (by decide) rfl rfl (lc_ask hY hi hat hl2 hR K0)
        · exact g_tsIn 1542 dL_law_33 (by decide) (by decide) (by decide) rfl rfl (lc_see hY hi hat hl2 hR K0)
        · exact g_tsIn 1601 dL_law_33 (by decide) (by decide) (by decide) rfl rfl (lc_forget hY hi hat hl2 hR K0)
        · exact g_tsIn 1624 dL_law_33 (by decide) (by decide) (by decide) rfl rfl (lc_error hY hi hat hl2 hR K0)
        · exact g_tsIn 1647 dL_law_33 (by decide) (by decide) (by decide) rfl rfl (lc_wheels hY hi hat hl2 hR K0)
        · exact g_tsIn 1680 dL_law_33 (by decide) (by decide) (by decide) rfl rfl (lc_worn hY hi hat hl2 hR K0)
        · exact g_tsIn 1703 dL_law_33 (by decide) (by decide) (by decide) rfl rfl (lc_fright hY hi hat hl2 hR K0)
        · exact g_tsIn 1776 dL_law_33 (by decide) (by decide) (by decide) rfl rfl (lc_stand hY hi hat hl2 hR K0)
        · exact g_tsIn 1839 dL_law_33 (by decide) (by decide) (by decide) rfl rfl (lc_keep hY hi hat hl2 hR K0)
        · exact g_tsIn 1862 dL_law_33 (by decide) (by decide) (by decide) rfl rfl (lc_back hY hi hat hl2 hR K0)
        · exact g_tsIn 1885 dL_law_33 (by decide) (by decide) (by decide) rfl rfl (lc_sheet hY hi hat hl2 hR K0)
        · exact g_tsIn 1928 dL_law_33 (by decide) (by decide) (by decide) rfl rfl (lc_lay hY hi hat hl2 hR K0)
        · exact g_tsIn 1971 dL_law_33 (by decide) (by decide) (by decide) rfl rfl (lc_read hY hi hat hl2 hR K0)
        · exact g_tsIn 2024 dL_law_33 (by decide) (by decide) (by decide) rfl rfl (lc_torn hY hi hat hl2 hR K0)
        · exact g_tsIn 2037 dL_law_33 (by decide) (by decide) (by decide) rfl rfl (lc_count hY hi hat hl2 hR K0)
def h0 : HM := (fun _ _ => 0, fun _ _ => 0)
set_option maxRecDepth 100000 in
set_option maxHeartbeats 4000000 in
theorem law_go {G : GX} (hlen : G.len ≤ 3584) : Go G mL_law room_1 (ZL G) y0 0 [some (.ref 8), none, none, none] [] h0 (0, 0) := by
  refine bnw_L_7 (M := mL_law) rfl dL_law_0 ⟨Nat.le_of_ble_eq_true rfl, Nat.le_of_ble_eq_true rfl⟩ (b := 9) rfl (g_dup dL_law_3 rfl (Go.y (y' := v0) rfl ?_))
  refine cv_L_9 (M := mL_law) rfl dL_law_4 (d := 20) (mc := 140) (ms := 1190) ⟨Nat.le_of_ble_eq_true rfl, Nat.le_of_ble_eq_true rfl, Nat.le_of_ble_eq_true rfl, Nat.le_of_ble_eq_true rfl⟩ (Nat.le_of_ble_eq_true rfl) (e_X8_init (d := 17)) ?_
  rintro _ h1 ⟨rfl, s, n9⟩
  refine g_ast1 dL_law_7 (by decide) rfl (bnw_L_10 (M := mL_law) rfl dL_law_8 ⟨Nat.le_of_ble_eq_true rfl, Nat.le_of_ble_eq_true rfl⟩ vn_28 (g_dup dL_law_11 rfl (Go.y (y' := v29) rfl ?_)))
  have s2 : S8 150 (h1.new 150) := s.up ((Blw.rf 150 h1).nw (Nat.le_refl _)).t
  have n2 : N9 (h1.new 150) := n9.up (nw_I h1 150 (by omega))
  refine cv_L_12 (M := mL_law) rfl dL_law_12 (d := 20) (mc := 10) (ms := 94326) ⟨Nat.le_of_ble_eq_true rfl, Nat.le_of_ble_eq_true rfl, Nat.le_of_ble_eq_true rfl, Nat.le_of_ble_eq_true rfl⟩ (Nat.le_of_ble_eq_true rfl) (e_X9_init (d := 18) s2 n2 (fun j => nw_Z h1 150 j)) ?_
  rintro _ h2 ⟨rfl, hi⟩
  refine g_ast2 dL_law_15 (by decide) rfl (g_iconst dL_law_16 (g_ist3 dL_law_17 (by decide) rfl ?_))
  exact law_loop hlen G.len v39 h2 _ 0 (by omega) (by omega) (by omega) lay_v hi (show 152 + G.len ≤ 600000 by omega) (show 95556 + 9 * G.len ≤ 7302250 by omega)
