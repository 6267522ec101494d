section Rules4
variable {G : GX} {M M1 : MI} {R : Room} {Z : ZT} {y y1 : LY} {pc d mc ms : Nat} {ls : List (Option Value)} {st : List Value} {h : HM} {cs : Nat × Nat} {Q : Option Value → HM → Prop} {own : String} {index : Nat}
def RO (R : Room) (d mc ms : Nat) (cs : Nat × Nat) : Prop := d + 1 ≤ R.frames ∧ 64 * (d + 1) ≤ R.locals ∧ cs.1 + mc ≤ R.cells ∧ cs.2 + ms ≤ R.slots
theorem RO.same (d mc ms : Nat) : RO (rmo (d + 1) mc ms) d 0 0 (0, 0) := ⟨Nat.le_refl _, Nat.le_refl _, Nat.zero_le _, Nat.zero_le _⟩
theorem cat8 {G : GX} {st : List Value} (hst : (st.map fun v => v.category).sum ≤ 8) : ((st.map (rv G)).map fun v => v.category).sum ≤ 8 := by
  rw [List.map_map]
  have : (fun v : Value => v.category) ∘ rv G = fun v => v.category := funext fun v => rv_cat G v
  rw [this]; exact hst
def CWD (M1 : MI) (n : Nat) : Prop := (M1.1.cls ≠ "java/lang/invoke/MethodHandle" ∧ M1.1.cls ≠ "java/lang/invoke/VarHandle") ∧ (parseMethodDescriptor M1.1.desc).map (fun d => d.parameters.length) = some n
theorem ev_pre {as : List Value} {s : State} {H : Heap} {locs : List Loc} (hE : EN G s) (hS : va_S (oldA G) s.heap H locs) (hh : HH G y h H) : PreS s H (fun v U => v = (as.map (rv G)).toArray ∧ HH G y h U.heap ∧ EN G U) (as.map (rv G)) :=
  ⟨fun a U g mk q => ⟨q.1, q.2.1, q.2.2.blind g mk a⟩, fun U hU hW => ⟨rfl, by rw [hU]; exact hh, hE.go hS hU hW⟩⟩
/-- behind a call -/
theorem g_back {as : List Value} {p : Program} {e : Env} {s : State} {m : MethodId} {args : Array Value} {below : List Frame} {meth : Method} {c : Code} {H : Heap} {locs : List Loc} {la : Array Slot} {stk : List Value}
    (hr : va_Run p G.l e R s m args below meth c H locs cs.1 cs.2 mc ms (F0 m pc la stk) (st.map (rv G)) (QQ G y1 Q as.toArray) (oldA G)) (C : CX G M p s m args meth c) (hS : va_S (oldA G) s.heap H locs) (hl : LH G la M.2.2.1 ls)
    (kk : ∀ (r : Option Value) (h1 : HM), Q r h1 → Go G M R Z y1 (pc + 3) ls (r.toList ++ st) h1 (cs.1 + mc, cs.2 + ms)) : W p G.l e R s m args below meth c H locs cs.1 cs.2 (Z s args below) (F0 m pc la stk) := by
  intro T hT X
  obtain ⟨v, st₀, t, T', L, h0, X', hL, e1, e2, ⟨⟨r, h1, hv, hq, hh1⟩, hz, hk⟩, go⟩ := hr T hT X
  cases hv
  rw [h0] at hz hk
  have hS' : va_S (oldA G) s.heap T'.heap (locs ++ L) := by
    rw [e1]
    refine ⟨Nat.le_trans hS.1 hz, fun q h1 h2 => ?_, fun q hq => ?_⟩
    · rw [hk q (Nat.lt_of_lt_of_le h1 hS.1) h2]; exact hS.2.1 q h1 h2
    · rcases List.mem_append.mp hq with h | h
      · exact hS.2.2 q h
      · exact hL q h
  obtain ⟨t2, a1, b1⟩ := kk r h1 hq p e s m args below meth c T'.heap (locs ++ L) la C (by rw [e1]; exact hh1) hS' hl T' rfl X'
  refine ⟨t2, go t2 ?_, b1⟩
  have : (r.map (rv G)).toList ++ st.map (rv G) = (r.toList ++ st).map (rv G) := by cases r <;> simp
  rw [this]
  exact a1
/-- a virtual call of a method of the receiver's own class -/
theorem g_callV {C0 : String} {T : u_T} {N ci a : Nat} {As : List Value} (hM : M.1.cls = own) (hM1 : M1.1.cls = C0) (hml : M1.2.2.1 ≤ 45) (hc : vwCl[ci]? = some (C0, T, N)) (hcw : CWD M1 As.length)
    (w1 : Cond.methodLink own index M1.1 ∈ TB) (w2 : Cond.instanceMethod M1.1 ∈ TB) (w3 : Cond.selects C0 M1.1 M1.1 ∈ TB) (w4 : Cond.initialized C0 ∈ TB) (w5 : Cond.code M1.1 M1.2.1 M1.2.2.1 M1.2.2.2 ∈ TB)
    (hd : decode M.2.1 pc = .ok (.invokevirtual index, 3)) (ho : IsO y a ci) (hR : RO R d mc ms cs) (hst : (st.map fun v => v.category).sum ≤ 8) (hE : Ev G M1 d mc ms (.ref a :: As) y h y1 Q)
    (kk : ∀ (r : Option Value) (h1 : HM), Q r h1 → Go G M R Z y1 (pc + 3) ls (r.toList ++ st) h1 (cs.1 + mc, cs.2 + ms)) : Go G M R Z y pc ls (As.reverse ++ .ref a :: st) h cs := by
  intro p e s m args below meth c H locs la C hh hS hl
  have hts := C.2.2.2.2.2.2.1
  have hEn := C.2.2.2.2.2.2.2.2
  have hcb : CallB R s args own index M1.1 M1.2.1 M1.2.2.1 M1.2.2.2 (Cond.code M1.1 M1.2.1 M1.2.2.1 M1.2.2.2 :: TB) (rmo d mc ms) mc ms As.length :=
    callB_of As.length hts (tb_good w5 fun _ h => h) rfl rfl rfl (hM1 ▸ hts _ w4) (hts _ w1) ⟨hcw.1.1, hcw.1.2, hcw.2⟩ ⟨hR.1, by have := hR.2.1; simp only [rmo]; omega⟩
  obtain ⟨cell, q1, q2, q3, -⟩ := (hh.2.2 a ho.1 ho.2.1).obj ho.2.2
  have hpre := ev_pre (as := .ref a :: As) hEn hS hh
  have hrun := va_runV (As := As.map (rv G)) (rest := st.map (rv G)) (b := ad G a) (C := C0) (e := e) (below := below) (meth := meth) (locs := locs) (g := F0 m pc la ((As.reverse ++ .ref a :: st).map (rv G))) ⟨C.1, C.2.1, C.2.2.2.1, hM ▸ C.2.2.2.2.1, hts⟩ hE ⟨hcb, hts _ w2, hts _ w3⟩
    ⟨hpre.1, ⟨cell, q1, by rw [q3]; rfl, by rw [q2]; exact (hEn.1.1 ci _ hc).2.1⟩, hpre.2⟩ rfl (by simp) hl.1 (by simp [rv]) (lv_room (cat8 hst)) hd ⟨hR.2.2.1, hR.2.2.2⟩
  exact g_back hrun C hS hl kk
/-- a static call -/
theorem g_callS {C0 : String} {As : List Value} (hM : M.1.cls = own) (hM1 : M1.1.cls = C0) (hml : M1.2.2.1 ≤ 45) (hcw : CWD M1 As.length)
    (w1 : Cond.methodLink own index M1.1 ∈ TB) (w2 : Cond.static M1.1 ∈ TB) (w4 : Cond.initialized C0 ∈ TB) (w5 : Cond.code M1.1 M1.2.1 M1.2.2.1 M1.2.2.2 ∈ TB)
    (hd : decode M.2.1 pc = .ok (.invokestatic index, 3)) (hR : RO R d mc ms cs) (hst : (st.map fun v => v.category).sum ≤ 8) (hE : Ev G M1 d mc ms As y h y1 Q)
    (kk : ∀ (r : Option Value) (h1 : HM), Q r h1 → Go G M R Z y1 (pc + 3) ls (r.toList ++ st) h1 (cs.1 + mc, cs.2 + ms)) : Go G M R Z y pc ls (As.reverse ++ st) h cs := by
  intro p e s m args below meth c H locs la C hh hS hl
  have hts := C.2.2.2.2.2.2.1
  have hEn := C.2.2.2.2.2.2.2.2
  have hcb : CallB R s args own index M1.1 M1.2.1 M1.2.2.1 M1.2.2.2 (Cond.code M1.1 M1.2.1 M1.2.2.1 M1.2.2.2 :: TB) (rmo d mc ms) mc ms As.length :=
    callB_of As.length hts (tb_good w5 fun _ h => h) rfl rfl rfl (hM1 ▸ hts _ w4) (hts _ w1) ⟨hcw.1.1, hcw.1.2, hcw.2⟩ ⟨hR.1, by have := hR.2.1; simp only [rmo]; omega⟩
  have hpre := ev_pre (as := As) hEn hS hh
  have hrun := va_runS (As := As.map (rv G)) (rest := st.map (rv G)) (e := e) (below := below) (meth := meth) (locs := locs) (g := F0 m pc la ((As.reverse ++ st).map (rv G))) ⟨C.1, C.2.1, C.2.2.2.1, hM ▸ C.2.2.2.2.1, hts⟩ hE ⟨hcb, hts _ w2⟩
    hpre rfl (by simp) hl.1 (by simp) (lv_room (cat8 hst)) hd ⟨hR.2.2.1, hR.2.2.2⟩
  exact g_back hrun C hS hl kk
/-- a constructor -/
theorem g_callI {C0 : String} {a : Nat} {As : List Value} (hM : M.1.cls = own) (hM1 : M1.1.cls = C0) (hnm : M1.1.name = "<init>") (hret : M1.2.2.2 = none) (hml : M1.2.2.1 ≤ 45) (hcw : CWD M1 As.length)
    (w1 : Cond.methodLink own index M1.1 ∈ TB) (w2 : Cond.instanceMethod M1.1 ∈ TB) (w4 : Cond.initialized C0 ∈ TB) (w5 : Cond.code M1.1 M1.2.1 M1.2.2.1 M1.2.2.2 ∈ TB)
    (hd : decode M.2.1 pc = .ok (.invokespecial index, 3)) (hR : RO R d mc ms cs) (hst : (st.map fun v => v.category).sum ≤ 8) (hE : Ev G M1 d mc ms (.ref a :: As) y h y1 Q)
    (kk : ∀ (r : Option Value) (h1 : HM), Q r h1 → Go G M R Z y1 (pc + 3) ls (r.toList ++ st) h1 (cs.1 + mc, cs.2 + ms)) : Go G M R Z y pc ls (As.reverse ++ .ref a :: st) h cs := by
  intro p e s m args below meth c H locs la C hh hS hl
  have hts := C.2.2.2.2.2.2.1
  have hEn := C.2.2.2.2.2.2.2.2
  unfold Ev at hE
  rw [hret] at hE w5
  have hcb : CallB R s args own index M1.1 M1.2.1 M1.2.2.1 none (Cond.code M1.1 M1.2.1 M1.2.2.1 none :: TB) (rmo d mc ms) mc ms As.length :=
    callB_of As.length hts (tb_good w5 fun _ h => h) rfl rfl rfl (hM1 ▸ hts _ w4) (hts _ w1) ⟨hcw.1.1, hcw.1.2, hcw.2⟩ ⟨hR.1, by have := hR.2.1; simp only [rmo]; omega⟩
  have hpre := ev_pre (as := .ref a :: As) hEn hS hh
  have hrun := va_runI (As := As.map (rv G)) (b := ad G a) (rest := st.map (rv G)) (e := e) (below := below) (meth := meth) (locs := locs) (g := F0 m pc la ((As.reverse ++ .ref a :: st).map (rv G))) ⟨C.1, C.2.1, C.2.2.2.1, hM ▸ C.2.2.2.2.1, hts⟩ hE ⟨hcb, hnm, hts _ w2⟩
    hpre rfl (by simp) hl.1 (by simp [rv]) (lv_room (cat8 hst)) hd ⟨hR.2.2.1, hR.2.2.2⟩
  exact g_back hrun C hS hl kk
/-- a nest mate's constructor -/
theorem g_callIN {C0 host : String} {a : Nat} {As : List Value} (hM : M.1.cls = own) (hM1 : M1.1.cls = C0) (hnm : M1.1.name = "<init>") (hret : M1.2.2.2 = none) (hml : M1.2.2.1 ≤ 45) (hcw : CWD M1 As.length)
    (w1 : (own, index, M1.1, host) ∈ nestL) (w2 : Cond.instanceMethod M1.1 ∈ TB) (w4 : Cond.initialized C0 ∈ TB) (w5 : Cond.code M1.1 M1.2.1 M1.2.2.1 M1.2.2.2 ∈ TB)
    (hd : decode M.2.1 pc = .ok (.invokespecial index, 3)) (hR : RO R d mc ms cs) (hst : (st.map fun v => v.category).sum ≤ 8) (hE : Ev G M1 d mc ms (.ref a :: As) y h y1 Q)
    (kk : ∀ (r : Option Value) (h1 : HM), Q r h1 → Go G M R Z y1 (pc + 3) ls (r.toList ++ st) h1 (cs.1 + mc, cs.2 + ms)) : Go G M R Z y pc ls (As.reverse ++ .ref a :: st) h cs := by
  intro p e s m args below meth c H locs la C hh hS hl
  have hts := C.2.2.2.2.2.2.1
  have hEn := C.2.2.2.2.2.2.2.2
  unfold Ev at hE
  rw [hret] at hE w5
  have hcb : va_CN R s args own index M1.1 host M1.2.1 M1.2.2.1 none (Cond.code M1.1 M1.2.1 M1.2.2.1 none :: TB) (rmo d mc ms) mc ms As.length :=
    va_cnB As.length hts (tb_good w5 fun _ h => h) rfl rfl rfl (hEn.2.1.1 _ w1) (hM1 ▸ hts _ w4) ⟨hcw.1.1, hcw.1.2, hcw.2⟩ ⟨hR.1, by have := hR.2.1; simp only [rmo]; omega⟩
  have hpre := ev_pre (as := .ref a :: As) hEn hS hh
  have hrun := va_runIN (As := As.map (rv G)) (b := ad G a) (rest := st.map (rv G)) (e := e) (below := below) (meth := meth) (locs := locs) (g := F0 m pc la ((As.reverse ++ .ref a :: st).map (rv G))) ⟨C.1, C.2.1, C.2.2.2.1, hM ▸ C.2.2.2.2.1, hts⟩ hE ⟨hcb, hnm, hts _ w2⟩
    hpre rfl (by simp) hl.1 (by simp [rv]) (lv_room (cat8 hst)) hd ⟨hR.2.2.1, hR.2.2.2⟩
  exact g_back hrun C hS hl kk
/-- a nest mate's static method -/
theorem g_callSN {C0 host : String} {As : List Value} (hM : M.1.cls = own) (hM1 : M1.1.cls = C0) (hml : M1.2.2.1 ≤ 45) (hcw : CWD M1 As.length)
    (w1 : (own, index, M1.1, host) ∈ nestL) (w2 : Cond.static M1.1 ∈ TB) (w4 : Cond.initialized C0 ∈ TB) (w5 : Cond.code M1.1 M1.2.1 M1.2.2.1 M1.2.2.2 ∈ TB)
    (hd : decode M.2.1 pc = .ok (.invokestatic index, 3)) (hR : RO R d mc ms cs) (hst : (st.map fun v => v.category).sum ≤ 8) (hE : Ev G M1 d mc ms As y h y1 Q)
    (kk : ∀ (r : Option Value) (h1 : HM), Q r h1 → Go G M R Z y1 (pc + 3) ls (r.toList ++ st) h1 (cs.1 + mc, cs.2 + ms)) : Go G M R Z y pc ls (As.reverse ++ st) h cs := by
  intro p e s m args below meth c H locs la C hh hS hl
  have hts := C.2.2.2.2.2.2.1
  have hEn := C.2.2.2.2.2.2.2.2
  have hcb : va_CN R s args own index M1.1 host M1.2.1 M1.2.2.1 M1.2.2.2 (Cond.code M1.1 M1.2.1 M1.2.2.1 M1.2.2.2 :: TB) (rmo d mc ms) mc ms As.length :=
    va_cnB As.length hts (tb_good w5 fun _ h => h) rfl rfl rfl (hEn.2.1.1 _ w1) (hM1 ▸ hts _ w4) ⟨hcw.1.1, hcw.1.2, hcw.2⟩ ⟨hR.1, by have := hR.2.1; simp only [rmo]; omega⟩
  have hpre := ev_pre (as := As) hEn hS hh
  have hrun := va_runSN (As := As.map (rv G)) (rest := st.map (rv G)) (e := e) (below := below) (meth := meth) (locs := locs) (g := F0 m pc la ((As.reverse ++ st).map (rv G))) ⟨C.1, C.2.1, C.2.2.2.1, hM ▸ C.2.2.2.2.1, hts⟩ hE ⟨hcb, hts _ w2, trivial⟩
    hpre rfl (by simp) hl.1 (by simp) (lv_room (cat8 hst)) hd ⟨hR.2.2.1, hR.2.2.2⟩
  exact g_back hrun C hS hl kk
/-- the continuations of contracts with a told answer -/
theorem kI {v : Int} (k : Go G M R Z y (pc + 3) ls (.int (iZ v) :: st) h cs) : ∀ (r : Option Value) (h1 : HM), (r = some (.int (iZ v)) ∧ h1 = h) → Go G M R Z y (pc + 3) ls (r.toList ++ st) h1 (cs.1 + 0, cs.2 + 0) := by
  rintro r h1 ⟨rfl, rfl⟩; exact k
theorem kL {v : Int} (k : Go G M R Z y (pc + 3) ls (.long (lZ v) :: st) h cs) : ∀ (r : Option Value) (h1 : HM), (r = some (.long (lZ v)) ∧ h1 = h) → Go G M R Z y (pc + 3) ls (r.toList ++ st) h1 (cs.1 + 0, cs.2 + 0) := by
  rintro r h1 ⟨rfl, rfl⟩; exact k
theorem kV {h2 : HM} (k : Go G M R Z y (pc + 3) ls st h2 cs) : ∀ (r : Option Value) (h1 : HM), (r = none ∧ h1 = h2) → Go G M R Z y (pc + 3) ls (r.toList ++ st) h1 (cs.1 + 0, cs.2 + 0) := by
  rintro r h1 ⟨rfl, rfl⟩; exact k
theorem kX {v : Int} {h2 : HM} (k : Go G M R Z y (pc + 3) ls (.int (iZ v) :: st) h2 cs) : ∀ (r : Option Value) (h1 : HM), (r = some (.int (iZ v)) ∧ h1 = h2) → Go G M R Z y (pc + 3) ls (r.toList ++ st) h1 (cs.1 + 0, cs.2 + 0) := by
  rintro r h1 ⟨rfl, rfl⟩; exact k
end Rules4
