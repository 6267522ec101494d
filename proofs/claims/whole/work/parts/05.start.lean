/-! what the start of the law gives -/
def tmS (i : Nat) : Term := .string RX3 (ixS.getD i 0)
def stC : Jvm.Cond := Jvm.Cond.and given_1 narrow_1
theorem st_ex : ∀ i, i < 8 → Cond.exactly (tmS i) "java/lang/String" ∈ flatC stC := by decide +kernel
theorem st_co : ∀ i, i < 8 → Cond.eq (.field (tmS i) "java/lang/String" "coder" "B") (.int 0) ∈ flatC stC := by decide +kernel
theorem st_ar : ∀ i, i < 8 → Cond.arrayOf (.field (tmS i) "java/lang/String" "value" "[B") .byte ∈ flatC stC := by decide +kernel
theorem st_le : ∀ i, i < 8 → Cond.eq (.length (.field (tmS i) "java/lang/String" "value" "[B")) (.int (Int32.ofNat (lnS.getD i 0))) ∈ flatC stC := by decide +kernel
theorem st_el : ∀ i, i < 8 → ∀ j, j < lnS.getD i 0 → Cond.eq (.elem (.field (tmS i) "java/lang/String" "value" "[B") (.int (Int32.ofNat j))) (.int ((byS.getD i []).getD j 0)) ∈ flatC stC := by decide +kernel
theorem st_ne : ∀ i, i < 8 → ∀ j, j < 8 → i ≠ j → Cond.not (Cond.eq (tmS i) (tmS j)) ∈ flatC stC ∨ Cond.not (Cond.eq (tmS j) (tmS i)) ∈ flatC stC := by decide +kernel
theorem st_cs : Cond.eq (Term.static "java/lang/String" "COMPACT_STRINGS" "Z") (Term.int 1) ∈ flatC stC ∧ Cond.isRef (.static "jdk/internal/util/Preconditions" "SIOOBE_FORMATTER" "Ljava/util/function/BiFunction;") ∈ flatC stC := by decide +kernel
set_option maxRecDepth 100000 in
theorem st_sr {P : Cond → Prop} (h : ∀ w ∈ lw_tbl, P w) : ∀ i, i < 8 → P (Cond.stringRef RX3 (ixS.getD i 0) (txS.getD i ""))
  | 0, _ => h _ (List.mem_append_right _ (List.mem_of_getElem? (i := 378) rfl))
  | 1, _ => h _ (List.mem_append_right _ (List.mem_of_getElem? (i := 447) rfl))
  | 2, _ => h _ (List.mem_append_right _ (List.mem_of_getElem? (i := 453) rfl))
  | 3, _ => h _ (List.mem_append_right _ (List.mem_of_getElem? (i := 458) rfl))
  | 4, _ => h _ (List.mem_append_right _ (List.mem_of_getElem? (i := 435) rfl))
  | 5, _ => h _ (List.mem_append_right _ (List.mem_of_getElem? (i := 436) rfl))
  | 6, _ => h _ (List.mem_append_right _ (List.mem_of_getElem? (i := 437) rfl))
  | 7, _ => h _ (List.mem_append_right _ (List.mem_of_getElem? (i := 438) rfl))
  | k + 8, hk => absurd hk (by omega)
set_option maxRecDepth 100000 in
theorem st_nest {U : State} {A : Array Value} (h : ∀ w ∈ lw_tbl, w.before A U = true) : EXT U := by
  refine ⟨?_, ?_⟩
  · unfold nestL
    refine List.forall_mem_cons.mpr ⟨va_Nw.of rfl (h _ (List.mem_append_right _ (List.mem_of_getElem? (i := 27) rfl))), List.forall_mem_cons.mpr ⟨va_Nw.of rfl (h _ (List.mem_append_right _ (List.mem_of_getElem? (i := 55) rfl))), List.forall_mem_cons.mpr ⟨va_Nw.of rfl (h _ (List.mem_append_right _ (List.mem_of_getElem? (i := 91) rfl))), List.forall_mem_cons.mpr ⟨va_Nw.of rfl (h _ (List.mem_append_right _ (List.mem_of_getElem? (i := 123) rfl))), List.forall_mem_cons.mpr ⟨va_Nw.of rfl (h _ (List.mem_append_right _ (List.mem_of_getElem? (i := 196) rfl))), List.forall_mem_cons.mpr ⟨va_Nw.of rfl (h _ (List.mem_append_right _ (List.mem_of_getElem? (i := 222) rfl))), List.forall_mem_cons.mpr ⟨va_Nw.of rfl (h _ (List.mem_append_right _ (List.mem_of_getElem? (i := 224) rfl))), List.forall_mem_cons.mpr ⟨va_Nw.of rfl (h _ (List.mem_append_right _ (List.mem_of_getElem? (i := 529) rfl))), List.forall_mem_cons.mpr ⟨va_Nw.of rfl (h _ (List.mem_append_right _ (List.mem_of_getElem? (i := 553) rfl))), List.forall_mem_cons.mpr ⟨va_Nw.of rfl (h _ (List.mem_append_right _ (List.mem_of_getElem? (i := 563) rfl))), List.forall_mem_cons.mpr ⟨va_Nw.of rfl (h _ (List.mem_append_right _ (List.mem_of_getElem? (i := 648) rfl))), List.forall_mem_cons.mpr ⟨va_Nw.of rfl (h _ (List.mem_append_right _ (List.mem_of_getElem? (i := 695) rfl))), List.forall_mem_cons.mpr ⟨va_Nw.of rfl (h _ (List.mem_append_right _ (List.mem_of_getElem? (i := 727) rfl))), List.forall_mem_cons.mpr ⟨va_Nw.of rfl (h _ (List.mem_append_right _ (List.mem_of_getElem? (i := 731) rfl))), List.forall_mem_cons.mpr ⟨va_Nw.of rfl (h _ (List.mem_append_right _ (List.mem_of_getElem? (i := 733) rfl))), fun _ h => absurd h List.not_mem_nil⟩⟩⟩⟩⟩⟩⟩⟩⟩⟩⟩⟩⟩⟩⟩
  · unfold overL
    refine List.forall_mem_cons.mpr ⟨va_AO.of (h _ (List.mem_append_right _ (List.mem_of_getElem? (i := 49) rfl))), List.forall_mem_cons.mpr ⟨va_AO.of (h _ (List.mem_append_right _ (List.mem_of_getElem? (i := 51) rfl))), List.forall_mem_cons.mpr ⟨va_AO.of (h _ (List.mem_append_right _ (List.mem_of_getElem? (i := 53) rfl))), List.forall_mem_cons.mpr ⟨va_AO.of (h _ (List.mem_append_right _ (List.mem_of_getElem? (i := 186) rfl))), List.forall_mem_cons.mpr ⟨va_AO.of (h _ (List.mem_append_right _ (List.mem_of_getElem? (i := 188) rfl))), fun _ h => absurd h List.not_mem_nil⟩⟩⟩⟩⟩
theorem st_a1 {U : State} {A : Array Value} {ty : FieldType} (hp : ∀ c, U.vm.findClass ("[" ++ ty.toString) = some c → va_RA U c ty) (h : (Cond.arrayClass ty).before A U = true) : ∃ c : ClassId, ArrOfT U c ty ∧ va_RA U c ty := by
  obtain ⟨c, k, comp, h1, h2, h3⟩ := Cond.arrayClass_spec h
  exact ⟨c, fun n z => ⟨fun k => by simp [arrV], k, h2, comp, h3⟩, hp c h1⟩
theorem st_a2 {U : State} {A : Array Value} {C : String} (h : (Cond.arrayOver (.object C)).before A U = true) : ∃ c : ClassId, ArrOfT U c (.object C) ∧ va_RA U c (.object C) := by
  obtain ⟨comp, c, k, h1, h2, h3, h4, h5⟩ := Cond.arrayOver_spec h
  exact ⟨c, fun n z => ⟨fun k => by simp [arrV], k, h3, comp, h4⟩, k, comp, h3, h4, h1, h5⟩
set_option maxRecDepth 100000 in
theorem st_arr {U : State} {A : Array Value} (h : ∀ w ∈ lw_tbl, w.before A U = true) : ∀ t, ∃ c : ClassId, t < 8 → ArrOfT U c (AT t) ∧ va_RA U c (AT t)
  | 0 => (st_a1 (ty := .int) (fun c h => h) (h _ (List.mem_append_right _ (List.mem_of_getElem? (i := 41) rfl)))).imp fun _ q _ => q
  | 1 => (st_a1 (ty := .long) (fun c h => h) (h _ (List.mem_append_right _ (List.mem_of_getElem? (i := 220) rfl)))).imp fun _ q _ => q
  | 2 => (st_a1 (ty := .boolean) (fun c h => h) (h _ (List.mem_append_right _ (List.mem_of_getElem? (i := 219) rfl)))).imp fun _ q _ => q
  | 3 => (st_a2 (C := "ClockTeeth$Figure") (h _ (List.mem_append_right _ (List.mem_of_getElem? (i := 49) rfl)))).imp fun _ q _ => q
  | 4 => (st_a2 (C := "ClockTeeth$Vote") (h _ (List.mem_append_right _ (List.mem_of_getElem? (i := 51) rfl)))).imp fun _ q _ => q
  | 5 => (st_a2 (C := "ClockTeeth$Sight") (h _ (List.mem_append_right _ (List.mem_of_getElem? (i := 53) rfl)))).imp fun _ q _ => q
  | 6 => (st_a2 (C := "ClockTeeth$Clock") (h _ (List.mem_append_right _ (List.mem_of_getElem? (i := 186) rfl)))).imp fun _ q _ => q
  | 7 => (st_a2 (C := "ClockTeeth$Sheet") (h _ (List.mem_append_right _ (List.mem_of_getElem? (i := 188) rfl)))).imp fun _ q _ => q
  | k + 8 => ⟨default, fun hk => absurd hk (by omega)⟩
set_option maxRecDepth 100000 in
theorem st_cl {U : State} {A : Array Value} (h : ∀ w ∈ lw_tbl, w.before A U = true) : ∃ D : va_G, ∀ (c : Nat) (q : vw_C), vwCl[c]? = some q → u_Kn U q.1 q.2.1 q.2.2 (D.1 c) (D.2 c) := by
  have h0 : ∀ w ∈ u_ws RX0 TX0 10, w ∈ lw_tbl := by decide +kernel
  obtain ⟨c0, i0, k0⟩ := u_known (C := RX0) (T := TX0) (N := 10) (n := 10) h h0 (h (.instantiable RX0 10) (List.mem_append_right _ (List.mem_of_getElem? (i := 43) rfl)))
  have h1 : ∀ w ∈ u_ws RX1 TX1 5, w ∈ lw_tbl := by decide +kernel
  obtain ⟨c1, i1, k1⟩ := u_known (C := RX1) (T := TX1) (N := 5) (n := 5) h h1 (h (.instantiable RX1 5) (List.mem_append_right _ (List.mem_of_getElem? (i := 54) rfl)))
  have h2 : ∀ w ∈ u_ws RX2 TX2 7, w ∈ lw_tbl := by decide +kernel
  obtain ⟨c2, i2, k2⟩ := u_known (C := RX2) (T := TX2) (N := 7) (n := 7) h h2 (h (.instantiable RX2 7) (List.mem_append_right _ (List.mem_of_getElem? (i := 190) rfl)))
  have h3 : ∀ w ∈ u_ws RX3 TX3 9, w ∈ lw_tbl := by decide +kernel
  obtain ⟨c3, i3, k3⟩ := u_known (C := RX3) (T := TX3) (N := 9) (n := 9) h h3 (h (.instantiable RX3 9) (List.mem_append_right _ (List.mem_of_getElem? (i := 299) rfl)))
  have h4 : ∀ w ∈ u_ws RX4 TX4 3, w ∈ lw_tbl := by decide +kernel
  obtain ⟨c4, i4, k4⟩ := u_known (C := RX4) (T := TX4) (N := 3) (n := 3) h h4 (h (.instantiable RX4 3) (List.mem_append_right _ (List.mem_of_getElem? (i := 223) rfl)))
  have h5 : ∀ w ∈ u_ws RX5 TX5 3, w ∈ lw_tbl := by decide +kernel
  obtain ⟨c5, i5, k5⟩ := u_known (C := RX5) (T := TX5) (N := 3) (n := 3) h h5 (h (.instantiable RX5 3) (List.mem_append_right _ (List.mem_of_getElem? (i := 122) rfl)))
  have h6 : ∀ w ∈ u_ws RX6 TX6 2, w ∈ lw_tbl := by decide +kernel
  obtain ⟨c6, i6, k6⟩ := u_known (C := RX6) (T := TX6) (N := 2) (n := 2) h h6 (h (.instantiable RX6 2) (List.mem_append_right _ (List.mem_of_getElem? (i := 26) rfl)))
  have h7 : ∀ w ∈ u_ws RX7 TX7 5, w ∈ lw_tbl := by decide +kernel
  obtain ⟨c7, i7, k7⟩ := u_known (C := RX7) (T := TX7) (N := 5) (n := 5) h h7 (h (.instantiable RX7 5) (List.mem_append_right _ (List.mem_of_getElem? (i := 90) rfl)))
  have h8 : ∀ w ∈ u_ws RX8 TX8 13, w ∈ lw_tbl := by decide +kernel
  obtain ⟨c8, i8, k8⟩ := u_known (C := RX8) (T := TX8) (N := 13) (n := 13) h h8 (h (.instantiable RX8 13) (List.mem_append_right _ (List.mem_of_getElem? (i := 18) rfl)))
  have h9 : ∀ w ∈ u_ws RX9 TX9 27, w ∈ lw_tbl := by decide +kernel
  obtain ⟨c9, i9, k9⟩ := u_known (C := RX9) (T := TX9) (N := 27) (n := 27) h h9 (h (.instantiable RX9 27) (List.mem_append_right _ (List.mem_of_getElem? (i := 886) rfl)))
  refine ⟨(fun k => match k with | 0 => c0 | 1 => c1 | 2 => c2 | 3 => c3 | 4 => c4 | 5 => c5 | 6 => c6 | 7 => c7 | 8 => c8 | _ => c9, fun k => match k with | 0 => i0 | 1 => i1 | 2 => i2 | 3 => i3 | 4 => i4 | 5 => i5 | 6 => i6 | 7 => i7 | 8 => i8 | _ => i9), fun c q hq => ?_⟩
  match c, hq with
  | 0, hq => cases hq; exact k0
  | 1, hq => cases hq; exact k1
  | 2, hq => cases hq; exact k2
  | 3, hq => cases hq; exact k3
  | 4, hq => cases hq; exact k4
  | 5, hq => cases hq; exact k5
  | 6, hq => cases hq; exact k6
  | 7, hq => cases hq; exact k7
  | 8, hq => cases hq; exact k8
  | 9, hq => cases hq; exact k9
  | c + 10, hq => simp [vwCl] at hq
set_option maxRecDepth 100000 in
theorem st_EN {s : State} {b L : Nat} {xs : Nat → Int32} (l : Launch) (hts : ∀ w ∈ lw_tbl, w.before #[Value.ref b] s = true) (hX : va_X b L xs s s.heap) (hbl : b < s.heap.size) (hgv : (Jvm.Cond.and given_1 narrow_1).before #[Value.ref b] s = true) : ∃ G : GX, G.l = l ∧ G.base = s.heap.size ∧ G.old 8 = b ∧ G.len = L ∧ G.xs = xs ∧ EN G s := by
  have hf : ∀ c ∈ flatC stC, c.before #[Value.ref b] s = true := flat_of_before _ hgv
  obtain ⟨D, hD⟩ := st_cl hts
  obtain ⟨ca, hca⟩ := Classical.axiomOfChoice (st_arr hts)
  have hA : ∀ a : Nat, a < s.heap.size → ¬ (fun q : Nat => s.heap.size ≤ q) a := fun a ha hq => Nat.not_le.mpr ha hq
  obtain ⟨adK, adV, hS, hE⟩ := vk_Sof (args := #[Value.ref b]) (s := s) (N := 8) (tm := tmS) (len := lnS) (byt := byS) (A := fun q : Nat => s.heap.size ≤ q) (by decide) (fun i hi => hf _ (st_ex i hi)) (fun i hi => hf _ (st_co i hi)) (fun i hi => hf _ (st_ar i hi)) (fun i hi => hf _ (st_le i hi)) (fun i hi j hj => hf _ (st_el i hi j hj)) (fun i j hi hj hij => (st_ne i hi j hj hij).imp (hf _) (hf _)) hA
  refine ⟨(l, D, ca, s.heap.size, fun k => if k < 8 then adK k else b, adV, L, xs), rfl, rfl, rfl, rfl, rfl, ⟨hD, ?_⟩, st_nest hts, hX, hbl, ⟨fun i hi => ?_, fun i j hi hj e => ?_⟩, fun i hi => ?_, ?_, ?_, Nat.le_refl _⟩
  · intro k q hq
    have hq : [(ca 0, AT 0), (ca 1, AT 1), (ca 2, AT 2), (ca 3, AT 3), (ca 4, AT 4), (ca 5, AT 5), (ca 6, AT 6), (ca 7, AT 7)][k]? = some q := hq
    match k, hq with
    | 0, hq => cases hq; exact hca 0 (by decide)
    | 1, hq => cases hq; exact hca 1 (by decide)
    | 2, hq => cases hq; exact hca 2 (by decide)
    | 3, hq => cases hq; exact hca 3 (by decide)
    | 4, hq => cases hq; exact hca 4 (by decide)
    | 5, hq => cases hq; exact hca 5 (by decide)
    | 6, hq => cases hq; exact hca 6 (by decide)
    | 7, hq => cases hq; exact hca 7 (by decide)
    | k + 8, hq => simp at hq
  · have h := hS.1 i hi
    show va_O "java/lang/String" (if i < 8 then adK i else b) _ s s.heap ∧ va_OF "java/lang/String" "coder" "B" (.int 0) (if i < 8 then adK i else b) _ s s.heap ∧ va_OF "java/lang/String" "value" "[B" (.ref (adV i)) (if i < 8 then adK i else b) _ s s.heap ∧ _
    rw [if_pos hi]
    exact h
  · refine hS.2 i j hi hj ?_
    have e : (if i < 8 then adK i else b) = (if j < 8 then adK j else b) := e
    rw [if_pos hi, if_pos hj] at e
    exact e
  · show vk_R RX3 (ixS.getD i 0) (txS.getD i "") (if i < 8 then adK i else b) s
    rw [if_pos hi]
    exact vk_R.of (A := #[Value.ref b]) (st_sr (P := fun w => w.before #[Value.ref b] s = true) hts i hi) (hE i hi)
  · exact va_Zof (hts _ (List.mem_append_right _ (List.mem_of_getElem? (i := 392) rfl))) (hts _ (List.mem_append_right _ (List.mem_of_getElem? (i := 11) rfl))) (va_eqt (hf _ st_cs.1)) hA
  · exact va_Zqof (hts _ (List.mem_append_right _ (List.mem_of_getElem? (i := 408) rfl))) (hts _ (List.mem_append_right _ (List.mem_of_getElem? (i := 13) rfl))) (hf _ st_cs.2) hA
