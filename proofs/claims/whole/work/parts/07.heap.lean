section Rules2
variable {G : GX} {M : MI} {R : Room} {Z : ZT} {y : LY} {pc : Nat} {ls : List (Option Value)} {st : List Value} {h : HM} {cs : Nat × Nat}
theorem tyAt (G : GX) {t : Nat} (ht : t < 8) : (tysG G)[t]? = some (G.ca t, AT t) := by
  match t, ht with
  | 0, _ => rfl
  | 1, _ => rfl
  | 2, _ => rfl
  | 3, _ => rfl
  | 4, _ => rfl
  | 5, _ => rfl
  | 6, _ => rfl
  | 7, _ => rfl
/-- a field is read -/
theorem g_get {own ref nm ds : String} {fin : Bool} {C0 : String} {T : u_T} {N ci k a index : Nat} (hM : M.1.cls = own) (hin : ∀ w ∈ u_ws C0 T N, w ∈ TB) (hc : vwCl[ci]? = some (C0, T, N)) (hN : NF ci = N) (hk : k < N) (hT : T k = (ref, nm, ds, fin)) (hw : Cond.fieldLink own index ref nm ds ∈ TB)
    (hd : decode M.2.1 pc = .ok (.getfield index, 3)) (ho : IsO y a ci) (kk : Go G M R Z y (pc + 3) ls (pfv y h a k (FT ci k) :: st) h cs) : Go G M R Z y pc ls (.ref a :: st) h cs := by
  intro p e s m args below meth c H locs la C hh hS hl
  subst hN
  have hts := C.2.2.2.2.2.2.1
  have hE := C.2.2.2.2.2.2.2.2
  obtain ⟨cell, q1, q2, q3, q4⟩ := (hh.2.2 a ho.1 ho.2.1).obj ho.2.2
  obtain ⟨hSl, hfc, kC, hkC, hkind⟩ := hE.1.1 ci _ hc
  obtain ⟨cf, kf, fi, f, hi, hsl⟩ := hSl k hk
  have hst := (u_facts hfc hkC (u_lays hts hin hk) hi).1
  simp only [hT] at hi
  refine W.getf C.1 C.2.1 (hM ▸ C.2.2.2.2.1) (hts _ hw) hi hst q1 (by rw [q3]; exact fun h => by cases h) (v := rv G (pfv y h a k (FT ci k))) ?_ rfl rfl hd (kk p e s m args below meth c H locs la C hh hS hl)
  rw [hsl, q4 k hk]
/-- a field is written: what it becomes, told by the new picture of that object -/
theorem g_putG {own ref nm ds : String} {C0 : String} {T : u_T} {N ci k a index : Nat} {ty0 : Nat → FieldType} (hM : M.1.cls = own) (hin : ∀ w ∈ u_ws C0 T N, w ∈ TB) (hc : vwCl[ci]? = some (C0, T, N)) (hN : NF ci = N) (hF : FT ci = ty0) (hty : ∀ k, k < N → parseFieldDescriptor (T k).2.2.1 = some (ty0 k)) (hnm : ∀ a, a < N → ∀ b, b < N → a ≠ b → (T a).2.1 ≠ (T b).2.1)
    (hk : k < N) (hT : T k = (ref, nm, ds, false)) (hw : Cond.fieldLink own index ref nm ds ∈ TB)
    (hd : decode M.2.1 pc = .ok (.putfield index, 3)) (ho : IsO y a ci) {v : Value} {y1 : LY} {h1 : HM} (hn : narrow (ty0 k) (rv G v) = rv G v) (hfit : fits (ty0 k) (rv G v) = true)
    (hy : y1.n = y.n ∧ y1.k = y.k ∧ ∀ b, b ≠ a → ∀ j, y1.R b j = y.R b j) (hI : ∀ b, b ≠ a → ∀ j, h1.I b j = h.I b j) (hL : ∀ b, b ≠ a → ∀ j, h1.L b j = h.L b j)
    (hv : pfv y1 h1 a k (ty0 k) = v) (hvo : ∀ j, j ≠ k → pfv y1 h1 a j (ty0 j) = pfv y h a j (ty0 j))
    (kk : Go G M R Z y1 (pc + 3) ls st h1 cs) : Go G M R Z y pc ls (v :: .ref a :: st) h cs := by
  intro p e s m args below meth c H locs la C hh hS hl
  subst hN hF
  have hts := C.2.2.2.2.2.2.1
  have hE := C.2.2.2.2.2.2.2.2
  have hap := va_apart (own := own) hts hin _ hty hnm hE.1 hc
  obtain ⟨cell, q1, q2, q3, q4⟩ := (hh.2.2 a ho.1 ho.2.1).obj ho.2.2
  obtain ⟨hSl, hfc, kC, hkC, hkind⟩ := hE.1.1 ci _ hc
  obtain ⟨cf, kf, fi, f, hi, hsl⟩ := hSl k hk
  have hlay := hts _ (hin _ (u_in_lay hk))
  unfold u_lay at hlay
  rw [if_neg (by rw [hT]; simp)] at hlay
  have hst := (u_facts hfc hkC (u_lays hts hin hk) hi).1
  have h6 := u_store hfc hkC hkind hlay hi (hty k hk) hn hfit
  have hi2 := hi
  simp only [hT] at hi2
  refine W.putK C.1 C.2.1 (f := f) ⟨hM ▸ C.2.2.2.2.1, hts _ hw, ⟨_, _, _, hi2⟩, hst⟩ (by rw [q2]; exact h6) q1 q3 (by rw [hsl]; exact k2_hasslot (q4 k hk)) rfl rfl hd fun H' e1 e2 e3 => ?_
  rw [hsl] at e1 ⊢
  refine kk p e s m args below meth c H' _ la C ?_ (hS.put e2 e3 (ad_A G ho.1)) hl
  refine hh.set ho.1 e2 e3 hy.1 (fun b _ => by rw [hy.2.1]) hI hL hy.2.2 (CE.ofObj (by rw [hy.2.1]; exact ho.2.2) ?_)
  refine t_OB.to (V := updV (fun j => rv G (pfv y h a j (FT ci j))) k (rv G v)) ⟨_, e1, q2, q3, t_set q4 hap hk _⟩ (fun j _ => ?_)
  by_cases hj : j = k
  · subst hj; simp [updV, hv]
  · simp [updV, hj, hvo j hj]
theorem g_putFG {own ref nm ds : String} {C0 : String} {T : u_T} {N ci k a index : Nat} {ty0 : Nat → FieldType} (hM : M.1.cls = own) (hMi : M.1.name = "<init>") (hin : ∀ w ∈ u_ws C0 T N, w ∈ TB) (hc : vwCl[ci]? = some (C0, T, N)) (hN : NF ci = N) (hF : FT ci = ty0) (hty : ∀ k, k < N → parseFieldDescriptor (T k).2.2.1 = some (ty0 k)) (hnm : ∀ a, a < N → ∀ b, b < N → a ≠ b → (T a).2.1 ≠ (T b).2.1)
    (hk : k < N) (hT : T k = (ref, nm, ds, true)) (hro : ref = own) (hw : Cond.fieldLink own index ref nm ds ∈ TB)
    (hd : decode M.2.1 pc = .ok (.putfield index, 3)) (ho : IsO y a ci) {v : Value} {y1 : LY} {h1 : HM} (hn : narrow (ty0 k) (rv G v) = rv G v) (hfit : fits (ty0 k) (rv G v) = true)
    (hy : y1.n = y.n ∧ y1.k = y.k ∧ ∀ b, b ≠ a → ∀ j, y1.R b j = y.R b j) (hI : ∀ b, b ≠ a → ∀ j, h1.I b j = h.I b j) (hL : ∀ b, b ≠ a → ∀ j, h1.L b j = h.L b j)
    (hv : pfv y1 h1 a k (ty0 k) = v) (hvo : ∀ j, j ≠ k → pfv y1 h1 a j (ty0 j) = pfv y h a j (ty0 j))
    (kk : Go G M R Z y1 (pc + 3) ls st h1 cs) : Go G M R Z y pc ls (v :: .ref a :: st) h cs := by
  intro p e s m args below meth c H locs la C hh hS hl
  subst hN hF
  have hts := C.2.2.2.2.2.2.1
  have hE := C.2.2.2.2.2.2.2.2
  have hown : s.vm.findClass own = some m.cls := hM ▸ C.2.2.2.2.1
  have hap := va_apart (own := own) hts hin _ hty hnm hE.1 hc
  obtain ⟨cell, q1, q2, q3, q4⟩ := (hh.2.2 a ho.1 ho.2.1).obj ho.2.2
  obtain ⟨hSl, hfc, kC, hkC, hkind⟩ := hE.1.1 ci _ hc
  obtain ⟨cf, kf, fi, f, hi, hsl⟩ := hSl k hk
  have hlay := hts _ (hin _ (u_in_lay hk))
  unfold u_lay at hlay
  rw [if_pos (by rw [hT])] at hlay
  have hst := (u_facts hfc hkC (u_lays hts hin hk) hi).1
  have hcf : m.cls = cf := by
    obtain ⟨_, _, c', _, _, _, -, -, hf', -, -, -, hown2, -⟩ := Cond.laysFinal_spec hlay
    have e1 : c' = cf := by have := hi.symm.trans hf'; simp at this; exact this.1.symm
    rw [show (T k).1 = own by rw [hT]; exact hro] at hown2
    rw [← e1]; exact Option.some.inj (hown.symm.trans hown2)
  have h6 := u_fits hfc hkC hkind (Or.inr hlay) hi (hty k hk) hn hfit
  have hi2 := hi
  simp only [hT] at hi2
  refine W.putFinK C.1 C.2.1 hown (hts _ hw) hi2 hst hcf (C.2.2.2.2.2.1.trans hMi) (by rw [q2]; exact h6) q1 q3 (by rw [hsl]; exact k2_hasslot (q4 k hk)) rfl rfl hd fun H' e1 e2 e3 => ?_
  rw [hsl] at e1 ⊢
  refine kk p e s m args below meth c H' _ la C ?_ (hS.put e2 e3 (ad_A G ho.1)) hl
  refine hh.set ho.1 e2 e3 hy.1 (fun b _ => by rw [hy.2.1]) hI hL hy.2.2 (CE.ofObj (by rw [hy.2.1]; exact ho.2.2) ?_)
  refine t_OB.to (V := updV (fun j => rv G (pfv y h a j (FT ci j))) k (rv G v)) ⟨_, e1, q2, q3, t_set q4 hap hk _⟩ (fun j _ => ?_)
  by_cases hj : j = k
  · subst hj; simp [updV, hv]
  · simp [updV, hj, hvo j hj]
theorem in_lt {i : Int32} {n : Nat} (hin : vp_in i n) : i.toNatClampNeg < n := Nat.not_le.mp fun q => hin (Or.inr q)
/-- an index that is inside -/
def IX (i : Int) (n : Nat) : Prop := 0 ≤ i ∧ i < n ∧ i < 2147483648
theorem IX.vp {i : Int} {n : Nat} (h : IX i n) : vp_in (iZ i) n := iZ_in h.1 h.2.1 h.2.2
theorem IX.nat {i : Int} {n : Nat} (h : IX i n) : (iZ i).toNatClampNeg = i.toNat := iZ_nat h.1 h.2.2
/-- arrays -/
theorem g_iald {a n : Nat} {i : Int} (hd : decode M.2.1 pc = .ok (.iaload, 1)) (ha : IsA y a 0 n) (hi : IX i n) (kk : Go G M R Z y (pc + 1) ls (.int (iZ (h.I a i.toNat)) :: st) h cs) : Go G M R Z y pc ls (.int (iZ i) :: .ref a :: st) h cs := by
  intro p e s m args below meth c H locs la C hh hS hl
  have hiv := hi.vp
  have hcl := hi.nat
  have hE := C.2.2.2.2.2.2.2.2
  exact W.iald (v := .int (iZ (h.I a i.toNat))) C.1 C.2.1 ((hh.2.2 a ha.1 ha.2.1).arr ha.2.2) ((hE.1.2 0 _ (tyAt G (by decide))).1 n _) (fun q => by cases q) (by rw [arrV_size]; exact hiv) (by rw [arrV_read _ _ (in_lt hiv), hcl]; rfl) rfl rfl hd (kk p e s m args below meth c H locs la C hh hS hl)
theorem g_lald {a n : Nat} {i : Int} (hd : decode M.2.1 pc = .ok (.laload, 1)) (ha : IsA y a 1 n) (hi : IX i n) (kk : Go G M R Z y (pc + 1) ls (.long (lZ (h.L a i.toNat)) :: st) h cs) : Go G M R Z y pc ls (.int (iZ i) :: .ref a :: st) h cs := by
  intro p e s m args below meth c H locs la C hh hS hl
  have hiv := hi.vp
  have hcl := hi.nat
  have hE := C.2.2.2.2.2.2.2.2
  exact W.lald (v := .long (lZ (h.L a i.toNat))) C.1 C.2.1 ((hh.2.2 a ha.1 ha.2.1).arr ha.2.2) ((hE.1.2 1 _ (tyAt G (by decide))).1 n _) (fun q => by cases q) (by rw [arrV_size]; exact hiv) (by rw [arrV_read _ _ (in_lt hiv), hcl]; rfl) rfl rfl hd (kk p e s m args below meth c H locs la C hh hS hl)
theorem g_zald {a n : Nat} {i : Int} (hd : decode M.2.1 pc = .ok (.baload, 1)) (ha : IsA y a 2 n) (hi : IX i n) (kk : Go G M R Z y (pc + 1) ls (.int (iZ (h.I a i.toNat)) :: st) h cs) : Go G M R Z y pc ls (.int (iZ i) :: .ref a :: st) h cs := by
  intro p e s m args below meth c H locs la C hh hS hl
  have hiv := hi.vp
  have hcl := hi.nat
  have hE := C.2.2.2.2.2.2.2.2
  exact W.zald (v := .int (iZ (h.I a i.toNat))) C.1 C.2.1 ((hh.2.2 a ha.1 ha.2.1).arr ha.2.2) ((hE.1.2 2 _ (tyAt G (by decide))).1 n _) (fun q => by cases q) (by rw [arrV_size]; exact hiv) (by rw [arrV_read _ _ (in_lt hiv), hcl]; rfl) rfl rfl hd (kk p e s m args below meth c H locs la C hh hS hl)
theorem g_aald {a n t b : Nat} {D0 : String} {i : Int} (hd : decode M.2.1 pc = .ok (.aaload, 1)) (ha : IsA y a t n) (ht : t < 8) (hD : AT t = .object D0) (hi : IX i n) (hR : y.R a i.toNat = some b) (kk : Go G M R Z y (pc + 1) ls (.ref b :: st) h cs) : Go G M R Z y pc ls (.int (iZ i) :: .ref a :: st) h cs := by
  intro p e s m args below meth c H locs la C hh hS hl
  have hiv := hi.vp
  have hcl := hi.nat
  have hE := C.2.2.2.2.2.2.2.2
  exact W.aald (v := .ref (ad G b)) (ty := AT t) C.1 C.2.1 ((hh.2.2 a ha.1 ha.2.1).arr ha.2.2) ((hE.1.2 t _ (tyAt G ht)).1 n _) (by rw [hD]; rfl) (fun q => by cases q) (by rw [arrV_size]; exact hiv) (by rw [arrV_read _ _ (in_lt hiv), hD, hcl]; simp [pfv, hR, va_rf, rv]) rfl rfl hd (kk p e s m args below meth c H locs la C hh hS hl)
theorem g_alen {a n t : Nat} (hd : decode M.2.1 pc = .ok (.arraylength, 1)) (ha : IsA y a t n) (ht : t < 8) {v : Int} (hv : (n : Int) = v) (kk : Go G M R Z y (pc + 1) ls (.int (iZ v) :: st) h cs) : Go G M R Z y pc ls (.ref a :: st) h cs := by
  intro p e s m args below meth c H locs la C hh hS hl
  have hE := C.2.2.2.2.2.2.2.2
  exact W.alen (n := iZ v) C.1 C.2.1 ((hh.2.2 a ha.1 ha.2.1).arr ha.2.2) ((hE.1.2 t _ (tyAt G ht)).1 n _) (by rw [arrV_size, ← hv]; exact (Int32.ofInt_eq_ofNat (n := n)).symm) rfl rfl hd (kk p e s m args below meth c H locs la C hh hS hl)
theorem g_iast {a n : Nat} {i x : Int} (hd : decode M.2.1 pc = .ok (.iastore, 1)) (ha : IsA y a 0 n) (hi : IX i n) (kk : Go G M R Z y (pc + 1) ls st (h.sI a i.toNat x) cs) : Go G M R Z y pc ls (.int (iZ x) :: .int (iZ i) :: .ref a :: st) h cs := by
  intro p e s m args below meth c H locs la C hh hS hl
  have hiv := hi.vp
  have hcl := hi.nat
  have hE := C.2.2.2.2.2.2.2.2
  refine W.iast C.1 C.2.1 ((hh.2.2 a ha.1 ha.2.1).arr ha.2.2) ((hE.1.2 0 _ (tyAt G (by decide))).1 n _) (fun q => by cases q) (by rw [arrV_size]; exact hiv) rfl rfl hd fun H1 e1 z oq => ?_
  refine kk p e s m args below meth c H1 _ la C ?_ (hS.put z oq (ad_A G ha.1)) hl
  refine hh.set ha.1 z oq rfl (fun b _ => rfl) (fun b hb j => by simp [sI_I, hb]) (fun b _ j => rfl) (fun b _ j => rfl) (CE.ofArr ha.2.2 ?_)
  rw [e1, arrV_store, hcl]
  congr 2
  funext j
  by_cases hj : j = i.toNat
  · subst hj; simp [updV, AT, pfv, sI_same, rv]
  · simp [updV, hj, AT, pfv, sI_I]
theorem g_zast {a n : Nat} {i x : Int} (hd : decode M.2.1 pc = .ok (.bastore, 1)) (ha : IsA y a 2 n) (hi : IX i n) (hx : x = 0 ∨ x = 1) (kk : Go G M R Z y (pc + 1) ls st (h.sI a i.toNat x) cs) : Go G M R Z y pc ls (.int (iZ x) :: .int (iZ i) :: .ref a :: st) h cs := by
  intro p e s m args below meth c H locs la C hh hS hl
  have hiv := hi.vp
  have hcl := hi.nat
  have hE := C.2.2.2.2.2.2.2.2
  refine W.zast C.1 C.2.1 ((hh.2.2 a ha.1 ha.2.1).arr ha.2.2) ((hE.1.2 2 _ (tyAt G (by decide))).1 n _) (fun q => by cases q) (by rw [arrV_size]; exact hiv) rfl rfl hd fun H1 e1 z oq => ?_
  refine kk p e s m args below meth c H1 _ la C ?_ (hS.put z oq (ad_A G ha.1)) hl
  refine hh.set ha.1 z oq rfl (fun b _ => rfl) (fun b hb j => by simp [sI_I, hb]) (fun b _ j => rfl) (fun b _ j => rfl) (CE.ofArr ha.2.2 ?_)
  rw [e1, arrV_store, hcl]
  congr 2
  funext j
  by_cases hj : j = i.toNat
  · subst hj
    have hx2 : narrow .boolean (.int (iZ x)) = .int (iZ x) := by rcases hx with rfl | rfl <;> rfl
    simp [updV, AT, pfv, sI_same, rv, hx2]
  · simp [updV, hj, AT, pfv, sI_I]
theorem g_last {a n : Nat} {i : Int} {x : Int} (hd : decode M.2.1 pc = .ok (.lastore, 1)) (ha : IsA y a 1 n) (hi : IX i n) (kk : Go G M R Z y (pc + 1) ls st (h.sL a i.toNat x) cs) : Go G M R Z y pc ls (.long (lZ x) :: .int (iZ i) :: .ref a :: st) h cs := by
  intro p e s m args below meth c H locs la C hh hS hl
  have hiv := hi.vp
  have hcl := hi.nat
  have hE := C.2.2.2.2.2.2.2.2
  refine W.last C.1 C.2.1 ((hh.2.2 a ha.1 ha.2.1).arr ha.2.2) ((hE.1.2 1 _ (tyAt G (by decide))).1 n _) (fun q => by cases q) (by rw [arrV_size]; exact hiv) rfl rfl hd fun H1 e1 z oq => ?_
  refine kk p e s m args below meth c H1 _ la C ?_ (hS.put z oq (ad_A G ha.1)) hl
  refine hh.set ha.1 z oq rfl (fun b _ => rfl) (fun b _ j => rfl) (fun b hb j => by simp [sL_L, hb]) (fun b _ j => rfl) (CE.ofArr ha.2.2 ?_)
  rw [e1, arrV_store, hcl]
  congr 2
  funext j
  by_cases hj : j = i.toNat
  · subst hj; simp [updV, AT, pfv, sL_L, rv]
  · simp [updV, hj, AT, pfv, sL_L]
end Rules2
