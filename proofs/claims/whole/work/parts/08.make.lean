section Rules3
variable {G : GX} {M : MI} {R : Room} {Z : ZT} {y : LY} {pc : Nat} {ls : List (Option Value)} {st : List Value} {h : HM} {cs : Nat × Nat}
theorem g_aast {a n t b ci : Nat} {D0 : String} {T0 : u_T} {N0 : Nat} {i : Int} (hd : decode M.2.1 pc = .ok (.aastore, 1)) (ha : IsA y a t n) (ht : t < 8) (hD : AT t = .object D0) (hi : IX i n) (hb : IsO y b ci) (hc : vwCl[ci]? = some (D0, T0, N0)) (hr : ∀ j, pfv (y.sR a i.toNat (some b)) h a j (AT t) = va_rf ((y.sR a i.toNat (some b)).R a j) ∧ pfv y h a j (AT t) = va_rf (y.R a j)) (kk : Go G M R Z (y.sR a i.toNat (some b)) (pc + 1) ls st h cs) : Go G M R Z y pc ls (.ref b :: .int (iZ i) :: .ref a :: st) h cs := by
  intro p e s m args below meth c H locs la C hh hS hl
  have hE := C.2.2.2.2.2.2.2.2
  have hiv := hi.vp
  have hcl := hi.nat
  have hlt := in_lt hiv
  have h0 : ¬ iZ i < 0 := fun q => hiv (Or.inl q)
  obtain ⟨cellV, g1, g2, g3, -⟩ := (hh.2.2 b hb.1 hb.2.1).obj hb.2.2
  have hcls := (hE.1.1 ci _ hc).2
  have hRA := (hE.1.2 t _ (tyAt G ht)).2
  simp only [hD] at hRA
  obtain ⟨kA, comp, k1, k2, k3, -⟩ := hRA
  have hcomp : comp = G.D.1 ci := Option.some.inj (k3.symm.trans hcls.1)
  subst hcomp
  obtain ⟨kC, hkC, -⟩ := hcls.2
  refine W.aast C.1 C.2.1 ((hh.2.2 a ha.1 ha.2.1).arr ha.2.2) (fun q h => by cases h) (fun h => by cases h) k1 k2 rfl hkC ⟨h0, by rw [arrV_size]; exact hlt⟩ g1 (fun q h => by rw [g3] at h; cases h) (by rw [g2]; exact hkC) (by rw [g2]; exact va_assign hcls) rfl rfl hd fun H1 e1 z oq => ?_
  refine kk p e s m args below meth c H1 _ la C ?_ (hS.put z oq (ad_A G ha.1)) hl
  refine hh.set ha.1 z oq rfl (fun b _ => rfl) (fun b _ j => rfl) (fun b _ j => rfl) (fun b hb j => by simp [LY.sR, LY.R, up2, hb]) (CE.ofArr ha.2.2 ?_)
  rw [e1, arrV_store, hcl]
  congr 2
  funext j
  rw [(hr j).1]
  by_cases hj : j = i.toNat
  · subst hj; simp [updV, LY.sR, LY.R, up2, va_rf, rv]
  · rw [show updV (fun j => rv G (pfv y h a j (AT t))) i.toNat (Value.ref (ad G b)) j = rv G (pfv y h a j (AT t)) by simp [updV, hj], (hr j).2]
    simp [LY.sR, LY.R, up2, hj]
/-- a new object -/
theorem g_new {own C0 : String} {T : u_T} {N ci index : Nat} {ty0 : Nat → FieldType} (hM : M.1.cls = own) (hin : ∀ w ∈ u_ws C0 T N, w ∈ TB) (hc : vwCl[ci]? = some (C0, T, N)) (hN : NF ci = N) (hF : FT ci = ty0) (hty : ∀ k, k < N → parseFieldDescriptor (T k).2.2.1 = some (ty0 k))
    (hw1 : Cond.classLink own index C0 ∈ TB) (hw2 : Cond.instantiable C0 N ∈ TB) (hw3 : Cond.initialized C0 ∈ TB) (hdef : ∀ j, j < N → defaultValue (ty0 j) = pfv (y.new (.inl ci)) (h.new y.n) y.n j (ty0 j)) (hrvd : ∀ j, j < N → rv G (defaultValue (ty0 j)) = defaultValue (ty0 j))
    (hd : decode M.2.1 pc = .ok (.new index, 3)) (hr : cs.1 + 1 ≤ R.cells ∧ cs.2 + N ≤ R.slots) (kk : Go G M R Z (y.new (.inl ci)) (pc + 3) ls (.ref y.n :: st) (h.new y.n) (cs.1 + 1, cs.2 + N)) : Go G M R Z y pc ls st h cs := by
  intro p e s m args below meth c H locs la C hh hS hl
  subst hN hF
  have hts := C.2.2.2.2.2.2.1
  have hE := C.2.2.2.2.2.2.2.2
  have hKn := hE.1.1 ci _ hc
  refine W.newcK C.1 C.2.1 (hM ▸ C.2.2.2.2.1) (hts _ hw1) (hts _ hw2) (hts _ hw3) rfl hd hr.1 hr.2 hKn.2.1 rfl fun H1 kC hkC e1 z1 o1 => ?_
  have k1 := kk p e s m args below meth c H1 locs la C ?_ ⟨Nat.le_trans hS.1 (by omega), fun x h1 h2 => (o1 x (Nat.lt_of_lt_of_le h1 hS.1)).trans (hS.2.1 x h1 h2), hS.2.2⟩ hl
  · have hk2 : ((Value.ref y.n :: st).map (rv G)) = .ref H.size :: st.map (rv G) := by simp [rv, ad_new hh]
    rw [hk2] at k1
    exact k1
  · refine hh.new z1 o1 (CE.ofObj (ci := ci) (by simp [LY.new, LY.k, LY.n]) ?_)
    rw [ad_new hh]
    exact (u_born _ hts hin hKn hkC e1 hty).to (fun j hj => by rw [← hdef j hj, hrvd j hj])
/-- a new array of numbers -/
theorem g_newa {t n0 : Nat} {n : Int} {atype : ArrayType} (ht : t < 8) (hty : newarray.typeOf atype = AT t) (hp : ∀ U cA, va_RA U cA (AT t) → U.vm.findClass ("[" ++ (AT t).toString) = some cA) (hw : Cond.arrayClass (newarray.typeOf atype) ∈ TB) (hn : 0 ≤ n ∧ n < 2147483648) (hn0 : n.toNat = n0) (hby : n0 * componentBytes (newarray.typeOf atype) ≤ 536870912)
    (hdef : ∀ j, defaultValue (AT t) = rv G (pfv (y.new (.inr (t, n0))) (h.new y.n) y.n j (AT t)))
    (hd : decode M.2.1 pc = .ok (.newarray atype, 2)) (hr : cs.1 + 1 ≤ R.cells ∧ cs.2 + n0 ≤ R.slots) (kk : Go G M R Z (y.new (.inr (t, n0))) (pc + 2) ls (.ref y.n :: st) (h.new y.n) (cs.1 + 1, cs.2 + n0)) : Go G M R Z y pc ls (.int (iZ n) :: st) h cs := by
  intro p e s m args below meth c H locs la C hh hS hl
  have hts := C.2.2.2.2.2.2.1
  have hnn : ¬ iZ n < 0 := fun q => by have := (iZ_lt (b := 0) (by omega) (by omega)).mp q; omega
  have hnc : (iZ n).toNatClampNeg = n0 := (iZ_nat hn.1 hn.2).trans hn0
  have hE := C.2.2.2.2.2.2.2.2
  refine va_newaK C.1 C.2.1 (hts _ hw) rfl hd rfl hnn hnc hby hr.1 hr.2 rfl fun H1 cA e1 z1 o1 hAr hNm => ?_
  have hcA : cA = G.ca t := by
    have h2 := hp s _ (hE.1.2 t _ (tyAt G ht)).2
    rw [hty] at hNm
    exact Option.some.inj (hNm.symm.trans h2)
  subst hcA
  have k1 := kk p e s m args below meth c H1 locs la C ?_ ⟨Nat.le_trans hS.1 (by omega), fun x h1 h2 => (o1 x (Nat.lt_of_lt_of_le h1 hS.1)).trans (hS.2.1 x h1 h2), hS.2.2⟩ hl
  · have hk2 : ((Value.ref y.n :: st).map (rv G)) = .ref H.size :: st.map (rv G) := by simp [rv, ad_new hh]
    rw [hk2] at k1
    exact k1
  · refine hh.new z1 o1 (CE.ofArr (t := t) (n := n0) (by simp [LY.new, LY.k, LY.n]) ?_)
    rw [ad_new hh, e1, hty]
    congr 2
    funext j
    exact hdef j
/-- a new array of references -/
theorem g_anew {own D0 : String} {t n0 index : Nat} {n : Int} (hM : M.1.cls = own) (ht : t < 8) (hD : AT t = .object D0) (hw : Cond.classLink own index D0 ∈ TB) (ho : D0 ∈ overL) (hn : 0 ≤ n ∧ n < 2147483648) (hn0 : n.toNat = n0) (hby : n0 * 4 ≤ 536870912)
    (hd : decode M.2.1 pc = .ok (.anewarray index, 3)) (hr : cs.1 + 1 ≤ R.cells ∧ cs.2 + n0 ≤ R.slots) (kk : Go G M R Z (y.new (.inr (t, n0))) (pc + 3) ls (.ref y.n :: st) (h.new y.n) (cs.1 + 1, cs.2 + n0)) : Go G M R Z y pc ls (.int (iZ n) :: st) h cs := by
  intro p e s m args below meth c H locs la C hh hS hl
  have hts := C.2.2.2.2.2.2.1
  have hnn : ¬ iZ n < 0 := fun q => by have := (iZ_lt (b := 0) (by omega) (by omega)).mp q; omega
  have hnc : (iZ n).toNatClampNeg = n0 := (iZ_nat hn.1 hn.2).trans hn0
  have hE := C.2.2.2.2.2.2.2.2
  refine W.anew C.1 C.2.1 (hM ▸ C.2.2.2.2.1) (hts _ hw) (va_AO.use (hE.2.1.2 D0 ho)) rfl hd rfl hnn (by rw [hnc]; exact hby) hr.1 (by rw [hnc]; exact hr.2) fun cA kA comp f1 f2 f3 f4 => ?_
  rw [hnc]
  have hRA := (hE.1.2 t _ (tyAt G ht)).2
  simp only [hD] at hRA
  obtain ⟨kA', comp', k1, k2, k3, k4⟩ := hRA
  have hcA : cA = G.ca t := Option.some.inj (f1.symm.trans k4)
  subst hcA
  generalize hH1 : H.push ({ cls := G.ca t, slots := Array.replicate n0 .null, vm := .none } : Cell) = H1
  have z1 : H1.size = H.size + 1 := by rw [← hH1, Array.size_push]
  have e1 : H1[H.size]? = some (arrV (G.ca t) n0 (fun _ => .null)) := by rw [← hH1, Array.getElem?_push_size, ← arrV_new]
  have o1 : ∀ q : Nat, q < H.size → H1[q]? = H[q]? := fun q hq => by rw [← hH1, Array.getElem?_push, if_neg (Nat.ne_of_lt hq)]
  have kq := kk p e s m args below meth c H1 locs la C ?_ ⟨Nat.le_trans hS.1 (by omega), fun x h1 h2 => (o1 x (Nat.lt_of_lt_of_le h1 hS.1)).trans (hS.2.1 x h1 h2), hS.2.2⟩ hl
  · have hk2 : ((Value.ref y.n :: st).map (rv G)) = .ref H.size :: st.map (rv G) := by simp [rv, ad_new hh]
    rw [hk2] at kq
    exact kq
  · refine hh.new z1 o1 (CE.ofArr (t := t) (n := n0) (by simp [LY.new, LY.k, LY.n]) ?_)
    rw [ad_new hh, e1, hD]
    congr 2
    funext j
    simp [pfv, LY.new, LY.R, LY.n, va_rf, rv]
theorem g_objInit {own : String} {idx : Nat} {a : Nat} (hM : M.1.cls = own) (hw1 : Cond.methodLink own idx objectInit ∈ TB) (hw2 : Cond.instanceMethod objectInit ∈ TB) (hw3 : Cond.code objectInit ⟨#[0xb1]⟩ 1 none ∈ TB) (hd : decode M.2.1 pc = .ok (.invokespecial idx, 3)) (hr : 1 ≤ R.frames ∧ 64 ≤ R.locals) (hst : (st.map fun v => v.category).sum ≤ 8)
    (kk : Go G M R Z y (pc + 3) ls st h cs) : Go G M R Z y pc ls (.ref a :: st) h cs := by
  intro p e s m args below meth c H locs la C hh hS hl
  have hts := C.2.2.2.2.2.2.1
  have hcat : ((st.map (rv G)).map fun v => v.category).sum ≤ 8 := by
    rw [List.map_map]
    have : (fun v : Value => v.category) ∘ rv G = fun v => v.category := funext fun v => rv_cat G v
    rw [this]; exact hst
  refine W.objInit C.1 C.2.1 (hM ▸ C.2.2.2.2.1) (hts _ hw1) (hts _ hw2) (hts _ hw3) (g := F0 m pc la ((Value.ref a :: st).map (rv G))) rfl (hl.1.trans C.2.2.2.1.symm) rfl hd hr.1 ?_ (kk p e s m args below meth c H locs la C hh hS hl)
  have := lv_room (m := m) (pc := pc) (ls := la) (rest := (Value.ref a :: st).map (rv G)) hcat
  omega
/-- the start of a method -/
def entL : List Value → List (Option Value)
  | [] => []
  | v :: vs => if v.category = 2 then some v :: none :: entL vs else some v :: entL vs
theorem entL_args (G : GX) : ∀ (as : List Value) (k i : Nat) (v : Value), (entL as)[i]? = some (some v) → (k + i, rv G v) ∈ lv_args k (as.map (rv G))
  | [], k, i, v, h => by simp [entL] at h
  | a :: as, k, i, v, h => by
    simp only [List.map_cons, lv_args, rv_cat]
    unfold entL at h
    by_cases hc : a.category = 2
    · rw [if_pos hc] at h ⊢
      match i, h with
      | 0, h => simp at h; subst h; exact List.mem_cons_self
      | 1, h => simp at h
      | i + 2, h =>
        have := entL_args G as (k + 2) i v (by simpa using h)
        rw [show k + 2 + i = k + (i + 2) by omega] at this
        exact List.mem_cons_of_mem _ this
    · rw [if_neg hc] at h ⊢
      match i, h with
      | 0, h => simp at h; subst h; exact List.mem_cons_self
      | i + 1, h =>
        have := entL_args G as (k + 1) i v (by simpa using h)
        rw [show k + 1 + i = k + (i + 1) by omega] at this
        exact List.mem_cons_of_mem _ this
theorem sl_len (G : GX) : ∀ (as : List Value), (lg_sl (as.map (rv G))).length = (entL as).length
  | [] => rfl
  | a :: as => by
    have ih := sl_len G as
    unfold entL
    by_cases hc : a.category = 2
    · rw [if_pos hc]; simp [lg_sl, rv_cat, hc] at ih ⊢; omega
    · rw [if_neg hc]; simp [lg_sl, rv_cat, hc] at ih ⊢; omega
theorem Ev.of {d mc ms : Nat} {as : List Value} {y1 : LY} {Q : Option Value → HM → Prop} (hp : plainName M.1.cls = true) (ls0 : List (Option Value)) (hls : entL as ++ List.replicate (M.2.2.1 - (entL as).length) none = ls0) (hle : (entL as).length ≤ M.2.2.1)
    (body : Go G M (rmo d mc ms) (ZM G y1 mc ms Q) y 0 ls0 [] h (0, 0)) : Ev G M d mc ms as y h y1 Q := by
  refine Met.ofW (cc := M.2.1) (maxL := M.2.2.1) (ret := M.2.2.2) hp rfl ?_
  intro p e s m args below meth c s₁ B hml hv
  obtain ⟨rfl, hh, hE⟩ := hv
  have hts := atoms_spec (ws := Cond.code M.1 M.2.1 M.2.2.1 M.2.2.2 :: TB) B.pre
  have hl := lv_entry (as.map (rv G)) (n := M.2.2.1) (by rw [sl_len]; exact hle)
  rw [lg_entry_eq]
  generalize (lg_sl (as.map (rv G)) ++ List.replicate (M.2.2.1 - (lg_sl (as.map (rv G))).length) Slot.unset).toArray = la at hl ⊢
  have hL : LH G la M.2.2.1 ls0 := by
    refine ⟨hl.1, hl.2.1, fun i v hi => ?_⟩
    have h1 : (entL as)[i]? = some (some v) := by
      rw [← hls] at hi
      by_cases hlt : i < (entL as).length
      · rw [List.getElem?_append_left hlt] at hi; exact hi
      · rw [List.getElem?_append_right (by omega)] at hi
        have := List.eq_of_mem_replicate (List.mem_of_getElem? hi)
        cases this
    have h2 := entL_args G as 0 i v h1
    rw [Nat.zero_add] at h2
    exact hl.2.2 _ h2
  have C : CX G M p s m (as.map (rv G)).toArray meth c := ⟨B.exec, B.bytes, B.returns, hml, findClass_of_methodNamed B.named, (name_of_methodNamed B.named B.method).1, fun w hw => hts w (List.mem_cons_of_mem _ hw), B.notSynchronized, hE⟩
  exact body p e s m _ below meth c s.heap [] la C hh va_S.rf hL
end Rules3
