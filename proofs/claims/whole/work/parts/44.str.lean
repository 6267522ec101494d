set_option maxRecDepth 100000 in
theorem wk11 : (Jvm.Cond.initialized "java/lang/String") ∈ TB := tbm (i := 11) rfl rfl
set_option maxRecDepth 100000 in
theorem wk12 : (Jvm.Cond.initialized "java/lang/StringLatin1") ∈ TB := tbm (i := 12) rfl rfl
set_option maxRecDepth 100000 in
theorem wk13 : (Jvm.Cond.initialized "jdk/internal/util/Preconditions") ∈ TB := tbm (i := 13) rfl rfl
set_option maxRecDepth 100000 in
theorem wk383 : (Jvm.Cond.methodLink "ClockTeeth$Reader" (159 : Nat) ({ cls := "java/lang/String", name := "length", desc := "()I" } : Jvm.MethodName)) ∈ TB := tbm (i := 383) rfl rfl
set_option maxRecDepth 100000 in
theorem wk384 : (Jvm.Cond.instanceMethod ({ cls := "java/lang/String", name := "length", desc := "()I" } : Jvm.MethodName)) ∈ TB := tbm (i := 384) rfl rfl
set_option maxRecDepth 100000 in
theorem wk385 : (Jvm.Cond.selects "java/lang/String" ({ cls := "java/lang/String", name := "length", desc := "()I" } : Jvm.MethodName) ({ cls := "java/lang/String", name := "length", desc := "()I" } : Jvm.MethodName)) ∈ TB := tbm (i := 385) rfl rfl
set_option maxRecDepth 100000 in
theorem wk386 : (Jvm.Cond.code ({ cls := "java/lang/String", name := "length", desc := "()I" } : Jvm.MethodName) prog_14_method_54_code (1 : Nat) (Option.some Jvm.ClassFile.FieldType.int)) ∈ TB := tbm (i := 386) rfl rfl
set_option maxRecDepth 100000 in
theorem wk387 : (Jvm.Cond.methodLink "java/lang/String" (335 : Nat) ({ cls := "java/lang/String", name := "coder", desc := "()B" } : Jvm.MethodName)) ∈ TB := tbm (i := 387) rfl rfl
set_option maxRecDepth 100000 in
theorem wk388 : (Jvm.Cond.instanceMethod ({ cls := "java/lang/String", name := "coder", desc := "()B" } : Jvm.MethodName)) ∈ TB := tbm (i := 388) rfl rfl
set_option maxRecDepth 100000 in
theorem wk389 : (Jvm.Cond.selects "java/lang/String" ({ cls := "java/lang/String", name := "coder", desc := "()B" } : Jvm.MethodName) ({ cls := "java/lang/String", name := "coder", desc := "()B" } : Jvm.MethodName)) ∈ TB := tbm (i := 389) rfl rfl
set_option maxRecDepth 100000 in
theorem wk390 : (Jvm.Cond.code ({ cls := "java/lang/String", name := "coder", desc := "()B" } : Jvm.MethodName) prog_14_method_152_code (1 : Nat) (Option.some Jvm.ClassFile.FieldType.byte)) ∈ TB := tbm (i := 390) rfl rfl
set_option maxRecDepth 100000 in
theorem wk391 : (Jvm.Cond.fieldLink "java/lang/String" (38 : Nat) "java/lang/String" "COMPACT_STRINGS" "Z") ∈ TB := tbm (i := 391) rfl rfl
set_option maxRecDepth 100000 in
theorem wk393 : (Jvm.Cond.methodLink "ClockTeeth$Reader" (163 : Nat) ({ cls := "java/lang/String", name := "charAt", desc := "(I)C" } : Jvm.MethodName)) ∈ TB := tbm (i := 393) rfl rfl
set_option maxRecDepth 100000 in
theorem wk394 : (Jvm.Cond.instanceMethod ({ cls := "java/lang/String", name := "charAt", desc := "(I)C" } : Jvm.MethodName)) ∈ TB := tbm (i := 394) rfl rfl
set_option maxRecDepth 100000 in
theorem wk395 : (Jvm.Cond.selects "java/lang/String" ({ cls := "java/lang/String", name := "charAt", desc := "(I)C" } : Jvm.MethodName) ({ cls := "java/lang/String", name := "charAt", desc := "(I)C" } : Jvm.MethodName)) ∈ TB := tbm (i := 395) rfl rfl
set_option maxRecDepth 100000 in
theorem wk396 : (Jvm.Cond.code ({ cls := "java/lang/String", name := "charAt", desc := "(I)C" } : Jvm.MethodName) prog_14_method_56_code (2 : Nat) (Option.some Jvm.ClassFile.FieldType.char)) ∈ TB := tbm (i := 396) rfl rfl
set_option maxRecDepth 100000 in
theorem wk397 : (Jvm.Cond.methodLink "java/lang/String" (492 : Nat) ({ cls := "java/lang/String", name := "isLatin1", desc := "()Z" } : Jvm.MethodName)) ∈ TB := tbm (i := 397) rfl rfl
set_option maxRecDepth 100000 in
theorem wk398 : (Jvm.Cond.instanceMethod ({ cls := "java/lang/String", name := "isLatin1", desc := "()Z" } : Jvm.MethodName)) ∈ TB := tbm (i := 398) rfl rfl
set_option maxRecDepth 100000 in
theorem wk399 : (Jvm.Cond.selects "java/lang/String" ({ cls := "java/lang/String", name := "isLatin1", desc := "()Z" } : Jvm.MethodName) ({ cls := "java/lang/String", name := "isLatin1", desc := "()Z" } : Jvm.MethodName)) ∈ TB := tbm (i := 399) rfl rfl
set_option maxRecDepth 100000 in
theorem wk400 : (Jvm.Cond.code ({ cls := "java/lang/String", name := "isLatin1", desc := "()Z" } : Jvm.MethodName) prog_14_method_154_code (1 : Nat) (Option.some Jvm.ClassFile.FieldType.boolean)) ∈ TB := tbm (i := 400) rfl rfl
set_option maxRecDepth 100000 in
theorem wk401 : (Jvm.Cond.methodLink "java/lang/String" (495 : Nat) ({ cls := "java/lang/StringLatin1", name := "charAt", desc := "([BI)C" } : Jvm.MethodName)) ∈ TB := tbm (i := 401) rfl rfl
set_option maxRecDepth 100000 in
theorem wk402 : (Jvm.Cond.static ({ cls := "java/lang/StringLatin1", name := "charAt", desc := "([BI)C" } : Jvm.MethodName)) ∈ TB := tbm (i := 402) rfl rfl
set_option maxRecDepth 100000 in
theorem wk403 : (Jvm.Cond.code ({ cls := "java/lang/StringLatin1", name := "charAt", desc := "([BI)C" } : Jvm.MethodName) prog_15_method_2_code (2 : Nat) (Option.some Jvm.ClassFile.FieldType.char)) ∈ TB := tbm (i := 403) rfl rfl
set_option maxRecDepth 100000 in
theorem wk404 : (Jvm.Cond.methodLink "java/lang/StringLatin1" (9 : Nat) ({ cls := "java/lang/String", name := "checkIndex", desc := "(II)V" } : Jvm.MethodName)) ∈ TB := tbm (i := 404) rfl rfl
set_option maxRecDepth 100000 in
theorem wk405 : (Jvm.Cond.static ({ cls := "java/lang/String", name := "checkIndex", desc := "(II)V" } : Jvm.MethodName)) ∈ TB := tbm (i := 405) rfl rfl
set_option maxRecDepth 100000 in
theorem wk406 : (Jvm.Cond.code ({ cls := "java/lang/String", name := "checkIndex", desc := "(II)V" } : Jvm.MethodName) prog_14_method_155_code (2 : Nat) (Option.none : Option Jvm.ClassFile.FieldType)) ∈ TB := tbm (i := 406) rfl rfl
set_option maxRecDepth 100000 in
theorem wk407 : (Jvm.Cond.fieldLink "java/lang/String" (1053 : Nat) "jdk/internal/util/Preconditions" "SIOOBE_FORMATTER" "Ljava/util/function/BiFunction;") ∈ TB := tbm (i := 407) rfl rfl
set_option maxRecDepth 100000 in
theorem wk409 : (Jvm.Cond.methodLink "java/lang/String" (1059 : Nat) ({ cls := "jdk/internal/util/Preconditions", name := "checkIndex", desc := "(IILjava/util/function/BiFunction;)I" } : Jvm.MethodName)) ∈ TB := tbm (i := 409) rfl rfl
set_option maxRecDepth 100000 in
theorem wk410 : (Jvm.Cond.static ({ cls := "jdk/internal/util/Preconditions", name := "checkIndex", desc := "(IILjava/util/function/BiFunction;)I" } : Jvm.MethodName)) ∈ TB := tbm (i := 410) rfl rfl
set_option maxRecDepth 100000 in
theorem wk411 : (Jvm.Cond.code ({ cls := "jdk/internal/util/Preconditions", name := "checkIndex", desc := "(IILjava/util/function/BiFunction;)I" } : Jvm.MethodName) prog_17_method_11_code (3 : Nat) (Option.some Jvm.ClassFile.FieldType.int)) ∈ TB := tbm (i := 411) rfl rfl
set_option maxRecDepth 100000 in
theorem wk1375 : (Jvm.Cond.fieldLink "java/lang/String" (9 : Nat) "java/lang/String" "value" "[B") ∈ TB := tbm (i := 1375) rfl rfl
set_option maxRecDepth 100000 in
theorem wk1376 : (Jvm.Cond.fieldLink "java/lang/String" (15 : Nat) "java/lang/String" "coder" "B") ∈ TB := tbm (i := 1376) rfl rfl
section STR
variable {G : GX} {M M1 : MI} {R : Room} {y : LY} {h : HM} {d : Nat} {Q : Option Value → HM → Prop} {own : String} {index : Nat}
variable {p : Program} {e : Env} {s : State} {m : MethodId} {args : Array Value} {below : List Frame} {meth : Method} {c : Code} {H : Heap} {locs : List Loc} {la : Array Slot} {rest : List Value} {ck sk pc : Nat} {Z : State → Prop}
/-- a contract with arguments as the machine has them -/
def EvA (G : GX) (M : MI) (d : Nat) (as : List Value) (y : LY) (h : HM) (Q : Option Value → HM → Prop) : Prop :=
  Met G.l M.1 (Cond.code M.1 M.2.1 M.2.2.1 M.2.2.2 :: TB) (rmo d 0 0) (fun v U => v = as.toArray ∧ HH G y h U.heap ∧ EN G U) (QQ G y Q) 0 0 (oldA G)
theorem EvA.of {as : List Value} (hp : plainName M.1.cls = true) (hle : (lg_sl as).length ≤ M.2.2.1) {lv : List (Nat × Value)} (hlv : ∀ la, lv_has la M.2.2.1 (lv_args 0 as) → lv_has la M.2.2.1 lv)
    (body : ∀ (p : Program) (e : Env) (s : State) (m : MethodId) (args : Array Value) (below : List Frame) (meth : Method) (c : Code) (la : Array Slot), CX G M p s m args meth c → HH G y h s.heap → lv_has la M.2.2.1 lv → W p G.l e (rmo d 0 0) s m args below meth c s.heap [] 0 0 (MQ below (QQ G y Q) args s 0 0 (oldA G)) (F0 m 0 la [])) : EvA G M d as y h Q := by
  refine Met.ofW (cc := M.2.1) (maxL := M.2.2.1) (ret := M.2.2.2) hp rfl ?_
  intro p e s m args below meth c s₁ B hml hv
  obtain ⟨rfl, hh, hE⟩ := hv
  have hts := atoms_spec (ws := Cond.code M.1 M.2.1 M.2.2.1 M.2.2.2 :: TB) B.pre
  have hl := lv_entry as (n := M.2.2.1) hle
  rw [lg_entry_eq]
  generalize (lg_sl as ++ List.replicate (M.2.2.1 - (lg_sl as).length) Slot.unset).toArray = la at hl ⊢
  have C : CX G M p s m as.toArray meth c := ⟨B.exec, B.bytes, B.returns, hml, findClass_of_methodNamed B.named, (name_of_methodNamed B.named B.method).1, fun w hw => hts w (List.mem_cons_of_mem _ hw), B.notSynchronized, hE⟩
  exact body p e s m _ below meth c la C hh (hlv la hl)
theorem r_back {as : List Value} {stk : List Value} (hr : va_Run p G.l e R s m args below meth c H locs ck sk 0 0 (F0 m pc la stk) rest (QQ G y Q as.toArray) (oldA G)) (hS : va_S (oldA G) s.heap H locs)
    (kk : ∀ (r : Option Value) (h1 : HM) (H1 : Heap) (locs1 : List Loc), Q r h1 → HH G y h1 H1 → va_S (oldA G) s.heap H1 locs1 → W p G.l e R s m args below meth c H1 locs1 ck sk Z (F0 m (pc + 3) la ((r.map (rv G)).toList ++ rest))) : W p G.l e R s m args below meth c H locs ck sk Z (F0 m pc la stk) := by
  intro T hT X
  obtain ⟨v, st₀, t, T', L, h0, X', hL, e1, e2, ⟨⟨r, h1, hv, hq, hh1⟩, hz, hk⟩, go⟩ := hr T hT X
  cases hv
  rw [h0] at hz hk
  have hS' : va_S (oldA G) s.heap T'.heap (locs ++ L) := by
    rw [e1]
    refine ⟨Nat.le_trans hS.1 hz, fun q h1 h2 => ?_, fun q hq => ?_⟩
    · rw [hk q (Nat.lt_of_lt_of_le h1 hS.1) h2]; exact hS.2.1 q h1 h2
    · rcases List.mem_append.mp hq with h | h
      · exact hS.2.2 q h
      · exact hL q h
  obtain ⟨t2, a1, b1⟩ := kk r h1 T'.heap (locs ++ L) hq (by rw [e1]; exact hh1) hS' T' rfl X'
  exact ⟨t2, go t2 a1, b1⟩
theorem rA_pre {as : List Value} (hE : EN G s) (hS : va_S (oldA G) s.heap H locs) (hh : HH G y h H) : PreS s H (fun v U => v = as.toArray ∧ HH G y h U.heap ∧ EN G U) as :=
  ⟨fun a U g mk q => ⟨q.1, q.2.1, q.2.2.blind g mk a⟩, fun U hU hW => ⟨rfl, by rw [hU]; exact hh, hE.go hS hU hW⟩⟩
theorem r_callS {C0 : String} {As : List Value} (C : CX G M p s m args meth c) (hh : HH G y h H) (hS : va_S (oldA G) s.heap H locs) (hml : la.size = M.2.2.1) (hM : M.1.cls = own) (hM1 : M1.1.cls = C0) (hcw : CWD M1 As.length)
    (w1 : Cond.methodLink own index M1.1 ∈ TB) (w2 : Cond.static M1.1 ∈ TB) (w4 : Cond.initialized C0 ∈ TB) (w5 : Cond.code M1.1 M1.2.1 M1.2.2.1 M1.2.2.2 ∈ TB) (h45 : M1.2.2.1 ≤ 45)
    (hd : decode M.2.1 pc = .ok (.invokestatic index, 3)) (hR : RO R d 0 0 (ck, sk)) (hst : (rest.map fun v => v.category).sum ≤ 8) (hE : EvA G M1 d As y h Q)
    (kk : ∀ (r : Option Value) (h1 : HM) (H1 : Heap) (locs1 : List Loc), Q r h1 → HH G y h1 H1 → va_S (oldA G) s.heap H1 locs1 → W p G.l e R s m args below meth c H1 locs1 ck sk Z (F0 m (pc + 3) la ((r.map (rv G)).toList ++ rest))) : W p G.l e R s m args below meth c H locs ck sk Z (F0 m pc la (As.reverse ++ rest)) := by
  have hts := C.2.2.2.2.2.2.1
  have hEn := C.2.2.2.2.2.2.2.2
  have hcb : CallB R s args own index M1.1 M1.2.1 M1.2.2.1 M1.2.2.2 (Cond.code M1.1 M1.2.1 M1.2.2.1 M1.2.2.2 :: TB) (rmo d 0 0) 0 0 As.length :=
    callB_of As.length hts (tb_good w5 fun _ h => h) rfl rfl rfl (hM1 ▸ hts _ w4) (hts _ w1) ⟨hcw.1.1, hcw.1.2, hcw.2⟩ ⟨hR.1, by have := hR.2.1; simp only [rmo]; omega⟩
  have hrun := va_runS (As := As) (rest := rest) (e := e) (below := below) (meth := meth) (locs := locs) (g := F0 m pc la (As.reverse ++ rest)) ⟨C.1, C.2.1, C.2.2.2.1, hM ▸ C.2.2.2.2.1, hts⟩ hE ⟨hcb, hts _ w2⟩
    (rA_pre hEn hS hh) rfl rfl hml rfl (lv_room hst) hd ⟨hR.2.2.1, hR.2.2.2⟩
  exact r_back hrun hS kk
theorem r_callV {As : List Value} {k : Nat} (hk : k < 8) (C : CX G M p s m args meth c) (hh : HH G y h H) (hS : va_S (oldA G) s.heap H locs) (hml : la.size = M.2.2.1) (hM : M.1.cls = own) (hM1 : M1.1.cls = "java/lang/String") (hcw : CWD M1 As.length)
    (w1 : Cond.methodLink own index M1.1 ∈ TB) (w2 : Cond.instanceMethod M1.1 ∈ TB) (w3 : Cond.selects "java/lang/String" M1.1 M1.1 ∈ TB) (w4 : Cond.initialized "java/lang/String" ∈ TB) (w5 : Cond.code M1.1 M1.2.1 M1.2.2.1 M1.2.2.2 ∈ TB) (h45 : M1.2.2.1 ≤ 45)
    (hd : decode M.2.1 pc = .ok (.invokevirtual index, 3)) (hR : RO R d 0 0 (ck, sk)) (hst : (rest.map fun v => v.category).sum ≤ 8) (hE : EvA G M1 d (.ref (G.old k) :: As) y h Q)
    (kk : ∀ (r : Option Value) (h1 : HM) (H1 : Heap) (locs1 : List Loc), Q r h1 → HH G y h1 H1 → va_S (oldA G) s.heap H1 locs1 → W p G.l e R s m args below meth c H1 locs1 ck sk Z (F0 m (pc + 3) la ((r.map (rv G)).toList ++ rest))) : W p G.l e R s m args below meth c H locs ck sk Z (F0 m pc la (As.reverse ++ .ref (G.old k) :: rest)) := by
  have hts := C.2.2.2.2.2.2.1
  have hEn := C.2.2.2.2.2.2.2.2
  have hcb : CallB R s args own index M1.1 M1.2.1 M1.2.2.1 M1.2.2.2 (Cond.code M1.1 M1.2.1 M1.2.2.1 M1.2.2.2 :: TB) (rmo d 0 0) 0 0 As.length :=
    callB_of As.length hts (tb_good w5 fun _ h => h) rfl rfl rfl (hM1 ▸ hts _ w4) (hts _ w1) ⟨hcw.1.1, hcw.1.2, hcw.2⟩ ⟨hR.1, by have := hR.2.1; simp only [rmo]; omega⟩
  obtain ⟨cell, q1, q2, q3⟩ := vk_recv (H := H) (locs := locs) (hEn.2.2.2.2.1) hk hS
  have hpre := rA_pre (as := .ref (G.old k) :: As) hEn hS hh
  have hrun := va_runV (As := As) (rest := rest) (b := G.old k) (C := "java/lang/String") (e := e) (below := below) (meth := meth) (locs := locs) (g := F0 m pc la (As.reverse ++ .ref (G.old k) :: rest)) ⟨C.1, C.2.1, C.2.2.2.1, hM ▸ C.2.2.2.2.1, hts⟩ hE ⟨hcb, hts _ w2, hts _ w3⟩
    ⟨hpre.1, ⟨cell, q1, q2, q3⟩, hpre.2⟩ rfl (by simp) hml (by simp) (lv_room hst) hd ⟨hR.2.2.1, hR.2.2.2⟩
  exact r_back hrun hS kk
/-- the end of a method with an int (or less) -/
theorem r_ret {ty : FieldType} {v : Int} (C : CX G M p s m args meth c) (hh : HH G y h H) (hS : va_S (oldA G) s.heap H locs) (hr : M.2.2.2 = some ty) (hn : narrow ty (.int (iZ v)) = .int (iZ v)) (hd : decode M.2.1 pc = .ok (.ireturn, 1)) (hq : Q (some (.int (iZ v))) h) :
    W p G.l e R s m args below meth c H locs 0 0 (MQ below (QQ G y Q) args s 0 0 (oldA G)) (F0 m pc la [.int (iZ v)]) :=
  W.zret (hlocks := C.2.2.2.2.2.2.2.1) C.1 C.2.1 (C.2.2.1.trans hr) hn (fun t ht _ => ⟨⟨some (.int (iZ v)), h, rfl, hq, by rw [ht]; exact hh⟩, hS.F ht⟩) (fun q hq2 => hS.2.2 q hq2) hd
/-- what a text is -/
def lnI (k : Nat) : Int := (lnS.getD k 0 : Nat)
def chI (k i : Nat) : Int := ((byS.getD k []).getD i 0).toInt
theorem str_dec : ∀ k, k < 8 → (lnS.getD k 0 ≤ 6 ∧ 4 ≤ lnS.getD k 0 ∧ Int32.ofNat (lnS.getD k 0) = iZ (lnI k)) ∧ ∀ i, i < lnS.getD k 0 → 97 ≤ chI k i ∧ chI k i ≤ 122 ∧ (byS.getD k []).getD i 0 = iZ (chI k i) ∧ iZ (chI k i) &&& iZ 255 = iZ (chI k i) ∧ ((iZ (chI k i)).toUInt32 % 65536).toInt32 = iZ (chI k i) ∧ narrow .char (.int (iZ (chI k i))) = .int (iZ (chI k i)) := by decide +kernel

set_option maxRecDepth 100000 in
set_option maxHeartbeats 1000000 in
theorem e_J3 {i k : Int} {v : Value} (hv : v.category = 1) (hi : 0 ≤ i ∧ i < k) (hk : k < 1000) : EvA G mJ3_checkIndex_8e157 d [.int (iZ i), .int (iZ k), v] y h (fun r h1 => r = some (.int (iZ i)) ∧ h1 = h) := by
  refine EvA.of rfl (by cases v <;> first | exact Nat.le_of_ble_eq_true rfl | cases hv) (lv := [(0, .int (iZ i)), (1, .int (iZ k))]) (fun la h => ⟨h.1, h.2.1, fun q hq => h.2.2 q (by rcases List.mem_cons.mp hq with rfl | hq; exact List.mem_cons_self; rcases List.mem_cons.mp hq with rfl | hq; exact List.mem_cons_of_mem _ List.mem_cons_self; cases hq)⟩) ?_
  intro p e s m args below meth c la C hh hl
  have hS : va_S (oldA G) s.heap s.heap [] := va_S.rf
  have hts := C.2.2.2.2.2.2.1
  have hEn := C.2.2.2.2.2.2.2.2
  have hO := hEn.2.2
  refine lv_iload_n C.1 C.2.1 dJ3_checkIndex_8e157_0 rfl (lv_at hl 0 rfl) ?_
  refine lv_if_lt (tgt := 9) C.1 C.2.1 dJ3_checkIndex_8e157_1 rfl (fun q => absurd ((iZ_lt (b := 0) (by omega) (by decide)).mp q) (by omega)) (fun _ => ?_)
  refine lv_iload_n C.1 C.2.1 dJ3_checkIndex_8e157_4 rfl (lv_at hl 0 rfl) ?_
  refine lv_iload_n C.1 C.2.1 dJ3_checkIndex_8e157_5 rfl (lv_at hl 1 rfl) ?_
  refine lv_icmp_lt (tgt := 16) C.1 C.2.1 dJ3_checkIndex_8e157_6 rfl (fun _ => ?_) (fun q => absurd ((iZ_lt (a := i) (b := k) (by omega) (by omega)).mpr (by omega)) q)
  refine lv_iload_n C.1 C.2.1 dJ3_checkIndex_8e157_16 rfl (lv_at hl 0 rfl) ?_
  exact r_ret C hh hS rfl rfl dJ3_checkIndex_8e157_17 ⟨rfl, rfl⟩
set_option maxRecDepth 100000 in
set_option maxHeartbeats 1000000 in
theorem e_J0ck {i k : Int} (hi : 0 ≤ i ∧ i < k) (hk : k < 1000) : EvA G mJ0_checkIndex_df160 (d + 1) [.int (iZ i), .int (iZ k)] y h (fun r h1 => r = none ∧ h1 = h) := by
  refine EvA.of rfl (Nat.le_of_ble_eq_true rfl) (lv := [(0, .int (iZ i)), (1, .int (iZ k))]) (fun _ h => h) ?_
  intro p e s m args below meth c la C hh hl
  have hS : va_S (oldA G) s.heap s.heap [] := va_S.rf
  have hts := C.2.2.2.2.2.2.1
  have hEn := C.2.2.2.2.2.2.2.2
  have hO := hEn.2.2
  refine lv_iload_n C.1 C.2.1 dJ0_checkIndex_df160_0 rfl (lv_at hl 0 rfl) ?_
  refine lv_iload_n C.1 C.2.1 dJ0_checkIndex_df160_1 rfl (lv_at hl 1 rfl) ?_
  rcases hO.2.2.2.2.2.1 with hz | ⟨t, hz⟩
  · refine va_gets C.1 C.2.1 hz hS (C.2.2.2.2.1) (hts _ wk407) (fun _ h => h) dJ0_checkIndex_df160_2 ?_
    refine r_callS (M1 := mJ3_checkIndex_8e157) (d := d) (As := [.int (iZ i), .int (iZ k), .null]) (rest := []) C hh hS hl.1 rfl rfl cw_J3_checkIndex_8e157 wk409 wk410 wk13 wk411 (by decide) dJ0_checkIndex_df160_5 (RO.same _ _ _) (Nat.zero_le _) (e_J3 rfl hi hk) ?_
    rintro r h1 H1 locs1 ⟨rfl, rfl⟩ hh hS
    refine lv_pop C.1 C.2.1 dJ0_checkIndex_df160_8 rfl ?_
    exact W.vret (hlocks := C.2.2.2.2.2.2.2.1) C.1 C.2.1 C.2.2.1 (fun t ht _ => ⟨⟨none, h1, rfl, ⟨rfl, rfl⟩, by rw [ht]; exact hh⟩, hS.F ht⟩) (fun q hq2 => hS.2.2 q hq2) dJ0_checkIndex_df160_9
  · refine va_gets C.1 C.2.1 hz hS (C.2.2.2.2.1) (hts _ wk407) (fun _ h => h) dJ0_checkIndex_df160_2 ?_
    refine r_callS (M1 := mJ3_checkIndex_8e157) (d := d) (As := [.int (iZ i), .int (iZ k), .ref t]) (rest := []) C hh hS hl.1 rfl rfl cw_J3_checkIndex_8e157 wk409 wk410 wk13 wk411 (by decide) dJ0_checkIndex_df160_5 (RO.same _ _ _) (Nat.zero_le _) (e_J3 rfl hi hk) ?_
    rintro r h1 H1 locs1 ⟨rfl, rfl⟩ hh hS
    refine lv_pop C.1 C.2.1 dJ0_checkIndex_df160_8 rfl ?_
    exact W.vret (hlocks := C.2.2.2.2.2.2.2.1) C.1 C.2.1 C.2.2.1 (fun t ht _ => ⟨⟨none, h1, rfl, ⟨rfl, rfl⟩, by rw [ht]; exact hh⟩, hS.F ht⟩) (fun q hq2 => hS.2.2 q hq2) dJ0_checkIndex_df160_9
set_option maxRecDepth 100000 in
set_option maxHeartbeats 1000000 in
theorem e_J1 {i : Int} {k : Nat} (hk : k < 8) (hi : 0 ≤ i ∧ i < lnI k) : EvA G mJ1_charAt_3b067 (d + 2) [.ref (G.oldV k), .int (iZ i)] y h (fun r h1 => r = some (.int (iZ (chI k i.toNat))) ∧ h1 = h) := by
  refine EvA.of rfl (Nat.le_of_ble_eq_true rfl) (lv := [(0, .ref (G.oldV k)), (1, .int (iZ i))]) (fun _ h => h) ?_
  intro p e s m args below meth c la C hh hl
  have hS : va_S (oldA G) s.heap s.heap [] := va_S.rf
  have hts := C.2.2.2.2.2.2.1
  have hEn := C.2.2.2.2.2.2.2.2
  have hO := hEn.2.2
  have hq := str_dec k hk
  have hln : (lnS.getD k 0 : Int) = lnI k := rfl
  have hqi := hq.2 i.toNat (by omega)
  have hT := (hO.2.2.1.1 k hk).2.2.2
  refine lv_iload_n C.1 C.2.1 dJ1_charAt_3b067_0 rfl (lv_at hl 1 rfl) ?_
  refine lv_aload_n C.1 C.2.1 dJ1_charAt_3b067_1 rfl (lv_at hl 0 rfl) ?_
  refine va_tlen C.1 C.2.1 hT hS (v := iZ (lnI k)) hq.1.2.2 dJ1_charAt_3b067_2 ?_
  refine r_callS (M1 := mJ0_checkIndex_df160) (d := d + 1) (As := [.int (iZ i), .int (iZ (lnI k))]) (rest := []) C hh hS hl.1 rfl rfl cw_J0_checkIndex_df160 wk404 wk405 wk11 wk406 (by decide) dJ1_charAt_3b067_3 (RO.same _ _ _) (Nat.zero_le _) (e_J0ck hi (by omega)) ?_
  rintro r h1 H1 locs1 ⟨rfl, rfl⟩ hh hS
  refine lv_aload_n C.1 C.2.1 dJ1_charAt_3b067_6 rfl (lv_at hl 0 rfl) ?_
  refine lv_iload_n C.1 C.2.1 dJ1_charAt_3b067_7 rfl (lv_at hl 1 rfl) ?_
  refine va_tb C.1 C.2.1 hT hS (i := iZ i) (iZ_in hi.1 (by omega) (by omega)) (v := .int (iZ (chI k i.toNat))) (by rw [iZ_nat hi.1 (by omega)]; show Value.int _ = _; rw [hqi.2.2.1]) dJ1_charAt_3b067_8 ?_
  refine lv_sipush C.1 C.2.1 dJ1_charAt_3b067_9 ks255 ?_
  refine lv_iand C.1 C.2.1 dJ1_charAt_3b067_12 ?_
  rw [hqi.2.2.2.1]
  refine lv_i2c C.1 C.2.1 dJ1_charAt_3b067_13 hqi.2.2.2.2.1 ?_
  exact r_ret C hh hS rfl hqi.2.2.2.2.2 dJ1_charAt_3b067_14 ⟨rfl, rfl⟩
set_option maxRecDepth 100000 in
set_option maxHeartbeats 1000000 in
theorem e_J0coder {k : Nat} (hk : k < 8) : EvA G mJ0_coder_7d493 d [.ref (G.old k)] y h (fun r h1 => r = some (.int (iZ 0)) ∧ h1 = h) := by
  refine EvA.of rfl (Nat.le_of_ble_eq_true rfl) (lv := [(0, .ref (G.old k))]) (fun _ h => h) ?_
  intro p e s m args below meth c la C hh hl
  have hS : va_S (oldA G) s.heap s.heap [] := va_S.rf
  have hts := C.2.2.2.2.2.2.1
  have hEn := C.2.2.2.2.2.2.2.2
  have hO := hEn.2.2
  refine va_gets C.1 C.2.1 hO.2.2.2.2.1 hS (C.2.2.2.2.1) (hts _ wk391) (fun _ h => h) dJ0_coder_7d493_0 ?_
  refine lv_if_eq (tgt := 13) C.1 C.2.1 dJ0_coder_7d493_3 rfl (fun q => absurd q (by decide)) (fun _ => ?_)
  refine lv_aload_n C.1 C.2.1 dJ0_coder_7d493_6 rfl (lv_at hl 0 rfl) ?_
  refine vk_getf C.1 C.2.1 (hO.2.2.1.1 k hk).2.1 hS (C.2.2.2.2.1) (hts _ wk1376) (fun _ h => h) dJ0_coder_7d493_7 ?_
  refine lv_goto (tgt := 14) C.1 C.2.1 dJ0_coder_7d493_10 rfl ?_
  exact r_ret (v := 0) C hh hS rfl (by decide) dJ0_coder_7d493_14 ⟨rfl, rfl⟩
set_option maxRecDepth 100000 in
set_option maxHeartbeats 1000000 in
theorem e_J0lat {k : Nat} (hk : k < 8) : EvA G mJ0_isLatin1_aae02 d [.ref (G.old k)] y h (fun r h1 => r = some (.int (iZ 1)) ∧ h1 = h) := by
  refine EvA.of rfl (Nat.le_of_ble_eq_true rfl) (lv := [(0, .ref (G.old k))]) (fun _ h => h) ?_
  intro p e s m args below meth c la C hh hl
  have hS : va_S (oldA G) s.heap s.heap [] := va_S.rf
  have hts := C.2.2.2.2.2.2.1
  have hEn := C.2.2.2.2.2.2.2.2
  have hO := hEn.2.2
  refine va_gets C.1 C.2.1 hO.2.2.2.2.1 hS (C.2.2.2.2.1) (hts _ wk391) (fun _ h => h) dJ0_isLatin1_aae02_0 ?_
  refine lv_if_eq (tgt := 17) C.1 C.2.1 dJ0_isLatin1_aae02_3 rfl (fun q => absurd q (by decide)) (fun _ => ?_)
  refine lv_aload_n C.1 C.2.1 dJ0_isLatin1_aae02_6 rfl (lv_at hl 0 rfl) ?_
  refine vk_getf C.1 C.2.1 (hO.2.2.1.1 k hk).2.1 hS (C.2.2.2.2.1) (hts _ wk1376) (fun _ h => h) dJ0_isLatin1_aae02_7 ?_
  refine lv_if_ne (tgt := 17) C.1 C.2.1 dJ0_isLatin1_aae02_10 rfl (fun q => absurd rfl q) (fun _ => ?_)
  refine lv_iconst (v := iZ 1) C.1 C.2.1 dJ0_isLatin1_aae02_13 rfl ?_
  refine lv_goto (tgt := 18) C.1 C.2.1 dJ0_isLatin1_aae02_14 rfl ?_
  exact r_ret (v := 1) C hh hS rfl (by decide) dJ0_isLatin1_aae02_18 ⟨rfl, rfl⟩
set_option maxRecDepth 100000 in
set_option maxHeartbeats 1000000 in
theorem e_J0len {k : Nat} (hk : k < 8) : EvA G mJ0_length_8abf5 (d + 1) [.ref (G.old k)] y h (fun r h1 => r = some (.int (iZ (lnI k))) ∧ h1 = h) := by
  refine EvA.of rfl (Nat.le_of_ble_eq_true rfl) (lv := [(0, .ref (G.old k))]) (fun _ h => h) ?_
  intro p e s m args below meth c la C hh hl
  have hS : va_S (oldA G) s.heap s.heap [] := va_S.rf
  have hts := C.2.2.2.2.2.2.1
  have hEn := C.2.2.2.2.2.2.2.2
  have hO := hEn.2.2
  have hq := str_dec k hk
  refine lv_aload_n C.1 C.2.1 dJ0_length_8abf5_0 rfl (lv_at hl 0 rfl) ?_
  refine vk_getf C.1 C.2.1 (hO.2.2.1.1 k hk).2.2.1 hS (C.2.2.2.2.1) (hts _ wk1375) (fun _ h => h) dJ0_length_8abf5_1 ?_
  refine va_tlen C.1 C.2.1 (hO.2.2.1.1 k hk).2.2.2 hS (v := iZ (lnI k)) hq.1.2.2 dJ0_length_8abf5_4 ?_
  refine lv_aload_n C.1 C.2.1 dJ0_length_8abf5_5 rfl (lv_at hl 0 rfl) ?_
  refine r_callV (M1 := mJ0_coder_7d493) (d := d) (As := []) (rest := [.int (iZ (lnI k))]) hk C hh hS hl.1 rfl rfl cw_J0_coder_7d493 wk387 wk388 wk389 wk11 wk390 (by decide) dJ0_length_8abf5_6 (RO.same _ _ _) (Nat.le_of_ble_eq_true rfl) (e_J0coder hk) ?_
  rintro r h1 H1 locs1 ⟨rfl, rfl⟩ hh hS
  refine lv_ishr C.1 C.2.1 dJ0_length_8abf5_9 ?_
  have e0 : iZ (lnI k) >>> (iZ 0 &&& 31) = iZ (lnI k) := by have h0 : iZ 0 &&& 31 = 0 := (by decide +kernel); rw [h0]; exact Int32.shiftRight_zero
  rw [e0]
  exact r_ret C hh hS rfl rfl dJ0_length_8abf5_10 ⟨rfl, rfl⟩
set_option maxRecDepth 100000 in
set_option maxHeartbeats 1000000 in
theorem e_J0char {i : Int} {k : Nat} (hk : k < 8) (hi : 0 ≤ i ∧ i < lnI k) : EvA G mJ0_charAt_5068e (d + 3) [.ref (G.old k), .int (iZ i)] y h (fun r h1 => r = some (.int (iZ (chI k i.toNat))) ∧ h1 = h) := by
  refine EvA.of rfl (Nat.le_of_ble_eq_true rfl) (lv := [(0, .ref (G.old k)), (1, .int (iZ i))]) (fun _ h => h) ?_
  intro p e s m args below meth c la C hh hl
  have hS : va_S (oldA G) s.heap s.heap [] := va_S.rf
  have hts := C.2.2.2.2.2.2.1
  have hEn := C.2.2.2.2.2.2.2.2
  have hO := hEn.2.2
  have hq := str_dec k hk
  have hln : (lnS.getD k 0 : Int) = lnI k := rfl
  have hqi := hq.2 i.toNat (by omega)
  refine lv_aload_n C.1 C.2.1 dJ0_charAt_5068e_0 rfl (lv_at hl 0 rfl) ?_
  refine r_callV (M1 := mJ0_isLatin1_aae02) (d := d + 2) (As := []) (rest := []) hk C hh hS hl.1 rfl rfl cw_J0_isLatin1_aae02 wk397 wk398 wk399 wk11 wk400 (by decide) dJ0_charAt_5068e_1 (RO.same _ _ _) (Nat.zero_le _) (e_J0lat hk) ?_
  rintro r h1 H1 locs1 ⟨rfl, rfl⟩ hh hS
  refine lv_if_eq (tgt := 16) C.1 C.2.1 dJ0_charAt_5068e_4 rfl (fun q => absurd q (by decide)) (fun _ => ?_)
  refine lv_aload_n C.1 C.2.1 dJ0_charAt_5068e_7 rfl (lv_at hl 0 rfl) ?_
  refine vk_getf C.1 C.2.1 (hO.2.2.1.1 k hk).2.2.1 hS (C.2.2.2.2.1) (hts _ wk1375) (fun _ h => h) dJ0_charAt_5068e_8 ?_
  refine lv_iload_n C.1 C.2.1 dJ0_charAt_5068e_11 rfl (lv_at hl 1 rfl) ?_
  refine r_callS (M1 := mJ1_charAt_3b067) (d := d + 2) (As := [.ref (G.oldV k), .int (iZ i)]) (rest := []) C hh hS hl.1 rfl rfl cw_J1_charAt_3b067 wk401 wk402 wk12 wk403 (by decide) dJ0_charAt_5068e_12 (RO.same _ _ _) (Nat.zero_le _) (e_J1 hk hi) ?_
  rintro r h1 H1 locs1 ⟨rfl, rfl⟩ hh hS
  exact r_ret C hh hS rfl hqi.2.2.2.2.2 dJ0_charAt_5068e_15 ⟨rfl, rfl⟩
theorem ad_old (G : GX) {k : Nat} (hk : k < 9) : ad G k = G.old k := if_pos hk
variable {cs : Nat × Nat} {ls : List (Option Value)} {st : List Value} {R : Room} {Zt : ZT}
/-- a text's constant -/
theorem g_ldcS (k : Nat) (hk : k < 8) (hM : M.1.cls = RX3) (hd : decode M.2.1 pc = .ok (.ldc (ixS.getD k 0), 2)) (kk : Go G M R Zt y (pc + 2) ls (.ref k :: st) h cs) : Go G M R Zt y pc ls st h cs := by
  intro p e s m args below meth c H locs la C hh hS hl
  have k1 := kk p e s m args below meth c H locs la C hh hS hl
  have hZ := C.2.2.2.2.2.2.2.2.2.2.2.2.2.1 k hk
  refine va_ldcS C.1 C.2.1 (hM ▸ C.2.2.2.2.1) hZ hd ?_
  rw [← ad_old G (by omega : k < 9)]
  exact k1
theorem g_slen {k : Nat} (hk : k < 8) (hM : M.1.cls = RX3) (hd : decode M.2.1 pc = .ok (.invokevirtual 159, 3)) (hR : RO R (d + 1) 0 0 cs) (hst : (st.map fun v => v.category).sum ≤ 8) (kk : Go G M R Zt y (pc + 3) ls (.int (iZ (lnI k)) :: st) h cs) : Go G M R Zt y pc ls (.ref k :: st) h cs := by
  intro p e s m args below meth c H locs la C hh hS hl
  have k1 := r_callV (M1 := mJ0_length_8abf5) (d := d + 1) (As := []) (rest := st.map (rv G)) (index := 159) (pc := pc) (Z := Zt s args below) (ck := cs.1) (sk := cs.2) (e := e) (below := below) hk C hh hS hl.1 hM rfl cw_J0_length_8abf5 wk383 wk384 wk385 wk11 wk386 (by decide) hd hR (cat8 hst) (e_J0len hk) (by
    rintro r h1 H1 locs1 ⟨rfl, rfl⟩ hh hS
    exact kk p e s m args below meth c H1 locs1 la C hh hS hl)
  have e1 : (Value.ref k :: st).map (rv G) = [].reverse ++ .ref (G.old k) :: st.map (rv G) := by
    show Value.ref (ad G k) :: _ = _
    rw [ad_old G (by omega : k < 9)]; rfl
  rw [e1]
  exact k1
theorem g_schar {k : Nat} {i : Int} (hk : k < 8) (hi : 0 ≤ i ∧ i < lnI k) (hM : M.1.cls = RX3) (hd : decode M.2.1 pc = .ok (.invokevirtual 163, 3)) (hR : RO R (d + 3) 0 0 cs) (hst : (st.map fun v => v.category).sum ≤ 8) (kk : Go G M R Zt y (pc + 3) ls (.int (iZ (chI k i.toNat)) :: st) h cs) : Go G M R Zt y pc ls (.int (iZ i) :: .ref k :: st) h cs := by
  intro p e s m args below meth c H locs la C hh hS hl
  have k1 := r_callV (M1 := mJ0_charAt_5068e) (d := d + 3) (As := [.int (iZ i)]) (rest := st.map (rv G)) (index := 163) (pc := pc) (Z := Zt s args below) (ck := cs.1) (sk := cs.2) (e := e) (below := below) hk C hh hS hl.1 hM rfl cw_J0_charAt_5068e wk393 wk394 wk395 wk11 wk396 (by decide) hd hR (cat8 hst) (e_J0char hk hi) (by
    rintro r h1 H1 locs1 ⟨rfl, rfl⟩ hh hS
    exact kk p e s m args below meth c H1 locs1 la C hh hS hl)
  have e1 : (Value.int (iZ i) :: .ref k :: st).map (rv G) = [Value.int (iZ i)].reverse ++ .ref (G.old k) :: st.map (rv G) := by
    show Value.int (iZ i) :: Value.ref (ad G k) :: _ = _
    rw [ad_old G (by omega : k < 9)]; rfl
  rw [e1]
  exact k1
end STR
