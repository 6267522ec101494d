/-! A PURE MACHINE OVER THE KIT'S: a heap of numbered cells (layout, ints, longs), frames as lists; Go: the machine comes from here to the method's end; Ev: a method's contract -/
/-- the words that every method rests on: those of the tables that stay -/
def TB : List Cond := lw_tbl.filter goodWord
theorem tbm {w : Cond} {i : Nat} (h : tables_1[i]? = some w) (hg : goodWord w = true) : w ∈ TB := List.mem_filter.mpr ⟨List.mem_append_right _ (List.mem_of_getElem? h), hg⟩
theorem tbs {w : Cond} {i : Nat} (h : (k2_sels lw_privs)[i]? = some w) (hg : goodWord w = true) : w ∈ TB := List.mem_filter.mpr ⟨List.mem_append_left _ (List.mem_of_getElem? h), hg⟩
theorem tb_good {ws : List Cond} {c : Cond} (hc : c ∈ TB) (h : ∀ w ∈ ws, w ∈ TB) : GoodIn TB (c :: ws) := fun w hw => by
  have hm : w ∈ TB := (List.mem_cons.mp hw).elim (fun e => e ▸ hc) (h w)
  exact ⟨hm, good_of_word (List.mem_filter.mp hm).2⟩
/-- the links among nest mates, the arrays of own classes -/
def nestL : List (String × Nat × MethodName × String) := [("ClockTeeth", 11, ⟨"ClockTeeth$Tape", "<init>", "()V"⟩, "ClockTeeth"), ("ClockTeeth$Clock", 51, ⟨"ClockTeeth$Figure", "<init>", "()V"⟩, "ClockTeeth"), ("ClockTeeth$Clock", 52, ⟨"ClockTeeth$Vote", "<init>", "()V"⟩, "ClockTeeth"), ("ClockTeeth$Clock", 53, ⟨"ClockTeeth$Sight", "<init>", "()V"⟩, "ClockTeeth"), ("ClockTeeth$Finder", 38, ⟨"ClockTeeth$Figure", "<init>", "()V"⟩, "ClockTeeth"), ("ClockTeeth", 49, ⟨"ClockTeeth$Figure", "<init>", "()V"⟩, "ClockTeeth"), ("ClockTeeth", 71, ⟨"ClockTeeth$Sheet", "<init>", "()V"⟩, "ClockTeeth"), ("ClockTeeth$Figure", 41, ⟨"ClockTeeth", "rest", "(JJ)J"⟩, "ClockTeeth"), ("ClockTeeth$Finder", 63, ⟨"ClockTeeth", "commonDivisor", "(JJ)J"⟩, "ClockTeeth"), ("ClockTeeth$Finder", 73, ⟨"ClockTeeth", "rest", "(JJ)J"⟩, "ClockTeeth"), ("ClockTeeth$Figure", 45, ⟨"ClockTeeth", "commonDivisor", "(JJ)J"⟩, "ClockTeeth"), ("ClockTeeth$Clock", 106, ⟨"ClockTeeth", "dayOfYear", "(J)I"⟩, "ClockTeeth"), ("ClockTeeth$Clock", 145, ⟨"ClockTeeth", "commonDivisor", "(JJ)J"⟩, "ClockTeeth"), ("ClockTeeth$Clock", 158, ⟨"ClockTeeth", "rest", "(JJ)J"⟩, "ClockTeeth"), ("ClockTeeth$Clock", 134, ⟨"ClockTeeth", "lowestBit", "(J)I"⟩, "ClockTeeth")]
def overL : List String := ["ClockTeeth$Figure", "ClockTeeth$Vote", "ClockTeeth$Sight", "ClockTeeth$Clock", "ClockTeeth$Sheet"]
def EXT (U : State) : Prop := (∀ q ∈ nestL, va_Nw (.methodLinkNest q.1 q.2.1 q.2.2.1 q.2.2.2) U) ∧ ∀ C ∈ overL, va_AO C U
abbrev Kd : Type := Nat ⊕ (Nat × Nat)
/-- the layout: how many cells, what each is (an object of class ci, or an array of kind t with n places), the references -/
abbrev LY : Type := Nat × (Nat → Kd) × (Nat → Nat → Option Nat)
def LY.n (y : LY) : Nat := y.1
def LY.k (y : LY) : Nat → Kd := y.2.1
def LY.R (y : LY) : Nat → Nat → Option Nat := y.2.2
/-- the numbers -/
abbrev HM : Type := (Nat → Nat → Int) × (Nat → Nat → Int)
def HM.I (h : HM) : Nat → Nat → Int := h.1
def HM.L (h : HM) : Nat → Nat → Int := h.2
def up2 {α : Type} (f : Nat → Nat → α) (a k : Nat) (v : α) : Nat → Nat → α := fun x j => if x = a ∧ j = k then v else f x j
def HM.sI (h : HM) (a k : Nat) (v : Int) : HM := (up2 h.1 a k v, h.2)
def HM.sL (h : HM) (a k : Nat) (v : Int) : HM := (h.1, up2 h.2 a k v)
def HM.new (h : HM) (a : Nat) : HM := (fun x j => if x = a then 0 else h.1 x j, fun x j => if x = a then 0 else h.2 x j)
def LY.sR (y : LY) (a k : Nat) (v : Option Nat) : LY := (y.1, y.2.1, up2 y.2.2 a k v)
def LY.new (y : LY) (kd : Kd) : LY := (y.1 + 1, fun x => if x = y.1 then kd else y.2.1 x, fun x j => if x = y.1 then none else y.2.2 x j)
theorem sI_same (h : HM) (a k : Nat) (v : Int) : (h.sI a k v).I a k = v := by simp [HM.sI, HM.I, up2]
theorem sI_I (h : HM) (a k : Nat) (v : Int) (b j : Nat) : (h.sI a k v).I b j = if b = a ∧ j = k then v else h.I b j := rfl
theorem sI_L (h : HM) (a k : Nat) (v : Int) : (h.sI a k v).L = h.L := rfl
theorem sL_L (h : HM) (a k : Nat) (v : Int) (b j : Nat) : (h.sL a k v).L b j = if b = a ∧ j = k then v else h.L b j := rfl
theorem sL_I (h : HM) (a k : Nat) (v : Int) : (h.sL a k v).I = h.I := rfl
/-- the surroundings: launch, classes' numbers and slots, array classes, the first own address, old addresses (0 to 7 texts, 8 the script), the texts' bytes, the script -/
abbrev GX : Type := Launch × va_G × (Nat → ClassId) × Nat × (Nat → Nat) × (Nat → Nat) × Nat × (Nat → Int32)
def GX.l (G : GX) : Launch := G.1
def GX.D (G : GX) : va_G := G.2.1
def GX.ca (G : GX) : Nat → ClassId := G.2.2.1
def GX.base (G : GX) : Nat := G.2.2.2.1
def GX.old (G : GX) : Nat → Nat := G.2.2.2.2.1
def GX.oldV (G : GX) : Nat → Nat := G.2.2.2.2.2.1
def GX.len (G : GX) : Nat := G.2.2.2.2.2.2.1
def GX.xs (G : GX) : Nat → Int32 := G.2.2.2.2.2.2.2
def oldA (G : GX) : Nat → Prop := fun q => G.base ≤ q
def ad (G : GX) (k : Nat) : Nat := if k < 9 then G.old k else G.base + (k - 9)
def rv (G : GX) : Value → Value
  | .ref k => .ref (ad G k)
  | v => v
def pfv (y : LY) (h : HM) (a j : Nat) : FieldType → Value
  | .long => .long (lZ (h.L a j))
  | .object _ => va_rf (y.R a j)
  | .array _ => va_rf (y.R a j)
  | _ => .int (iZ (h.I a j))
def AT : Nat → FieldType
  | 0 => .int
  | 1 => .long
  | 2 => .boolean
  | 3 => .object "ClockTeeth$Figure"
  | 4 => .object "ClockTeeth$Vote"
  | 5 => .object "ClockTeeth$Sight"
  | 6 => .object "ClockTeeth$Clock"
  | _ => .object "ClockTeeth$Sheet"
def FT : Nat → Nat → FieldType
  | 0 => tyX0
  | 1 => tyX1
  | 2 => tyX2
  | 3 => tyX3
  | 4 => tyX4
  | 5 => tyX5
  | 6 => tyX6
  | 7 => tyX7
  | 8 => tyX8
  | _ => tyX9
def NF : Nat → Nat
  | 0 => 10
  | 1 => 5
  | 2 => 7
  | 3 => 9
  | 4 => 3
  | 5 => 3
  | 6 => 2
  | 7 => 5
  | 8 => 13
  | _ => 27
def tysG (G : GX) : List (ClassId × FieldType) := [(G.ca 0, AT 0), (G.ca 1, AT 1), (G.ca 2, AT 2), (G.ca 3, AT 3), (G.ca 4, AT 4), (G.ca 5, AT 5), (G.ca 6, AT 6), (G.ca 7, AT 7)]
/-- the texts -/
def txS : List String := ["figure", "stick", "reach", "vote", "both", "worn", "twin", "plain"]
def ixS : List Nat := [77, 86, 91, 96, 105, 107, 109, 111]
def lnS : List Nat := [6, 5, 5, 4, 4, 4, 4, 5]
def byS : List (List Int32) := [[102, 105, 103, 117, 114, 101], [115, 116, 105, 99, 107], [114, 101, 97, 99, 104], [118, 111, 116, 101], [98, 111, 116, 104], [119, 111, 114, 110], [116, 119, 105, 110], [112, 108, 97, 105, 110]]
def OLD (G : GX) (U : State) (H : Heap) : Prop :=
  va_X (G.old 8) G.len G.xs U H ∧ G.old 8 < G.base ∧ vk_S 8 lnS byS G.old G.oldV (oldA G) U H ∧ (∀ i, i < 8 → vk_R RX3 (ixS.getD i 0) (txS.getD i "") (G.old i) U) ∧
  va_Z "java/lang/String" "COMPACT_STRINGS" "Z" (.int 1) (oldA G) U H ∧ va_Zq "jdk/internal/util/Preconditions" "SIOOBE_FORMATTER" "Ljava/util/function/BiFunction;" (oldA G) U H ∧ G.base ≤ H.size
def EN (G : GX) (U : State) : Prop := va_K G.D vwCl (tysG G) U ∧ EXT U ∧ OLD G U U.heap
def CE (G : GX) (y : LY) (h : HM) (a : Nat) (H : Heap) : Prop := match y.k a with
  | .inl ci => t_OB (ad G a) (G.D.1 ci) (NF ci) (G.D.2 ci) H (fun j => rv G (pfv y h a j (FT ci j)))
  | .inr tn => H[ad G a]? = some (arrV (G.ca tn.1) tn.2 (fun j => rv G (pfv y h a j (AT tn.1))))
def HH (G : GX) (y : LY) (h : HM) (H : Heap) : Prop := H.size = G.base + (y.n - 9) ∧ 9 ≤ y.n ∧ ∀ a, 9 ≤ a → a < y.n → CE G y h a H
def IsO (y : LY) (a ci : Nat) : Prop := 9 ≤ a ∧ a < y.n ∧ y.k a = .inl ci
def IsA (y : LY) (a t n : Nat) : Prop := 9 ≤ a ∧ a < y.n ∧ y.k a = .inr (t, n)
def LH (G : GX) (la : Array Slot) (nL : Nat) (ls : List (Option Value)) : Prop := la.size = nL ∧ lv_wf la ∧ ∀ (i : Nat) (v : Value), ls[i]? = some (some v) → la[i]? = some (.val (rv G v))
abbrev MI : Type := MethodName × ByteArray × Nat × Option FieldType
def CX (G : GX) (M : MI) (p : Program) (s : State) (m : MethodId) (args : Array Value) (meth : Method) (c : Code) : Prop :=
  p.tables.exec = Jvm.exec ∧ c.code = M.2.1 ∧ meth.sig.returnType = M.2.2.2 ∧ c.maxLocals = M.2.2.1 ∧ s.vm.findClass M.1.cls = some m.cls ∧ meth.name = M.1.name ∧ (∀ w ∈ TB, w.before args s = true) ∧ meth.locks = false ∧ EN G s
abbrev ZT : Type := State → Array Value → List Frame → State → Prop
/-- the machine, here, comes to an end that Z names -/
def Go (G : GX) (M : MI) (R : Room) (Z : ZT) (y : LY) (pc : Nat) (ls : List (Option Value)) (st : List Value) (h : HM) (cs : Nat × Nat) : Prop :=
  ∀ (p : Program) (e : Env) (s : State) (m : MethodId) (args : Array Value) (below : List Frame) (meth : Method) (c : Code) (H : Heap) (locs : List Loc) (la : Array Slot),
    CX G M p s m args meth c → HH G y h H → va_S (oldA G) s.heap H locs → LH G la M.2.2.1 ls →
    W p G.l e R s m args below meth c H locs cs.1 cs.2 (Z s args below) (F0 m pc la (st.map (rv G)))
def rmo (d mc ms : Nat) : Room := { frames := d, cells := mc, slots := ms, locals := 64 * d }
def QQ (G : GX) (y1 : LY) (Q : Option Value → HM → Prop) : Array Value → State → Outcome → State → Prop := fun _ st oc t =>
  (∃ (r : Option Value) (h1 : HM), oc = .returned (r.map (rv G)) ∧ Q r h1 ∧ HH G y1 h1 t.heap) ∧ va_F (oldA G) st t
def ZM (G : GX) (y1 : LY) (mc ms : Nat) (Q : Option Value → HM → Prop) : ZT := fun s args below => MQ below (QQ G y1 Q) args s mc ms (oldA G)
/-- a method's contract: from the layout y and the numbers h, with the arguments as, it returns; Q of its answer and the numbers then; y1 the layout then -/
def Ev (G : GX) (M : MI) (d mc ms : Nat) (as : List Value) (y : LY) (h : HM) (y1 : LY) (Q : Option Value → HM → Prop) : Prop :=
  Met G.l M.1 (Cond.code M.1 M.2.1 M.2.2.1 M.2.2.2 :: TB) (rmo d mc ms) (fun v U => v = (as.map (rv G)).toArray ∧ HH G y h U.heap ∧ EN G U) (QQ G y1 Q) mc ms (oldA G)
/-- contracts with the answer told -/
def EvI (G : GX) (M : MI) (d : Nat) (as : List Value) (y : LY) (h : HM) (v : Int) : Prop := Ev G M d 0 0 as y h y (fun r h1 => r = some (.int (iZ v)) ∧ h1 = h)
def EvL (G : GX) (M : MI) (d : Nat) (as : List Value) (y : LY) (h : HM) (v : Int) : Prop := Ev G M d 0 0 as y h y (fun r h1 => r = some (.long (lZ v)) ∧ h1 = h)
def EvV (G : GX) (M : MI) (d : Nat) (as : List Value) (y : LY) (h h2 : HM) : Prop := Ev G M d 0 0 as y h y (fun r h1 => r = none ∧ h1 = h2)
def EvX (G : GX) (M : MI) (d : Nat) (as : List Value) (y : LY) (h : HM) (v : Int) (h2 : HM) : Prop := Ev G M d 0 0 as y h y (fun r h1 => r = some (.int (iZ v)) ∧ h1 = h2)

theorem rv_int (G : GX) (x : Int32) : rv G (.int x) = .int x := rfl
theorem rv_cat (G : GX) (v : Value) : (rv G v).category = v.category := by cases v <;> rfl
theorem ad_own (G : GX) {a : Nat} (h : 9 ≤ a) : ad G a = G.base + (a - 9) := by unfold ad; rw [if_neg (by omega)]
theorem ad_inj (G : GX) {a b : Nat} (ha : 9 ≤ a) (hb : 9 ≤ b) (h : ad G a = ad G b) : a = b := by rw [ad_own G ha, ad_own G hb] at h; omega
theorem ad_A (G : GX) {a : Nat} (ha : 9 ≤ a) : oldA G (ad G a) := by unfold oldA; rw [ad_own G ha]; omega
theorem CE.obj {G : GX} {y : LY} {h : HM} {a ci : Nat} {H : Heap} (hc : CE G y h a H) (hk : y.k a = .inl ci) : t_OB (ad G a) (G.D.1 ci) (NF ci) (G.D.2 ci) H (fun j => rv G (pfv y h a j (FT ci j))) := by
  unfold CE at hc; rw [hk] at hc; exact hc
theorem CE.arr {G : GX} {y : LY} {h : HM} {a t n : Nat} {H : Heap} (hc : CE G y h a H) (hk : y.k a = .inr (t, n)) : H[ad G a]? = some (arrV (G.ca t) n (fun j => rv G (pfv y h a j (AT t)))) := by
  unfold CE at hc; rw [hk] at hc; exact hc
theorem CE.ofObj {G : GX} {y : LY} {h : HM} {a ci : Nat} {H : Heap} (hk : y.k a = .inl ci) (hc : t_OB (ad G a) (G.D.1 ci) (NF ci) (G.D.2 ci) H (fun j => rv G (pfv y h a j (FT ci j)))) : CE G y h a H := by
  unfold CE; rw [hk]; exact hc
theorem CE.ofArr {G : GX} {y : LY} {h : HM} {a t n : Nat} {H : Heap} (hk : y.k a = .inr (t, n)) (hc : H[ad G a]? = some (arrV (G.ca t) n (fun j => rv G (pfv y h a j (AT t))))) : CE G y h a H := by
  unfold CE; rw [hk]; exact hc
theorem pfv_congr {y y1 : LY} {h h1 : HM} {a j : Nat} (hI : h1.I a j = h.I a j) (hL : h1.L a j = h.L a j) (hR : y1.R a j = y.R a j) (ty : FieldType) : pfv y1 h1 a j ty = pfv y h a j ty := by
  cases ty <;> simp [pfv, hI, hL, hR]
theorem CE.kept {G : GX} {y y1 : LY} {h h1 : HM} {a : Nat} {H H1 : Heap} (hc : CE G y h a H) (hk : y1.k a = y.k a) (hI : ∀ j, h1.I a j = h.I a j) (hL : ∀ j, h1.L a j = h.L a j) (hR : ∀ j, y1.R a j = y.R a j) (hq : H1[ad G a]? = H[ad G a]?) : CE G y1 h1 a H1 := by
  have e : ∀ j ty, pfv y1 h1 a j ty = pfv y h a j ty := fun j ty => pfv_congr (hI j) (hL j) (hR j) ty
  cases hka : y.k a with
  | inl ci =>
    refine CE.ofObj (hk.trans hka) ?_
    have h2 := (hc.obj hka).kept hq
    exact h2.to (fun j _ => by rw [e])
  | inr tn =>
    obtain ⟨t, n⟩ := tn
    refine CE.ofArr (hk.trans hka) ?_
    rw [hq, hc.arr hka]
    simp only [e]
theorem HH.set {G : GX} {y y1 : LY} {h h1 : HM} {a : Nat} {H H1 : Heap} (hh : HH G y h H) (ha : 9 ≤ a) (hz : H1.size = H.size) (hq : ∀ q, q ≠ ad G a → H1[q]? = H[q]?) (hn : y1.n = y.n) (hk : ∀ b, b ≠ a → y1.k b = y.k b)
    (hI : ∀ b, b ≠ a → ∀ j, h1.I b j = h.I b j) (hL : ∀ b, b ≠ a → ∀ j, h1.L b j = h.L b j) (hR : ∀ b, b ≠ a → ∀ j, y1.R b j = y.R b j) (hc : CE G y1 h1 a H1) : HH G y1 h1 H1 := by
  refine ⟨by rw [hz, hn]; exact hh.1, by rw [hn]; exact hh.2.1, fun b hb hb2 => ?_⟩
  by_cases hab : b = a
  · subst hab; exact hc
  · exact (hh.2.2 b hb (by rw [hn] at hb2; exact hb2)).kept (hk b hab) (hI b hab) (hL b hab) (hR b hab) (hq _ (fun e => hab (ad_inj G hb ha e)))
theorem HH.new {G : GX} {y : LY} {h : HM} {H H1 : Heap} {kd : Kd} (hh : HH G y h H) (hz : H1.size = H.size + 1) (hq : ∀ q, q < H.size → H1[q]? = H[q]?) (hc : CE G (y.new kd) (h.new y.n) y.n H1) : HH G (y.new kd) (h.new y.n) H1 := by
  have h9 := hh.2.1
  have hn : (y.new kd).n = y.n + 1 := rfl
  refine ⟨by rw [hz, hh.1, hn]; omega, by rw [hn]; omega, fun b hb hb2 => ?_⟩
  by_cases hab : b = y.n
  · subst hab; exact hc
  · have hlt : b < y.n := by rw [hn] at hb2; omega
    refine (hh.2.2 b hb hlt).kept ?_ ?_ ?_ ?_ (hq _ (by rw [hh.1, ad_own G hb]; omega))
    · show (if b = y.n then kd else y.2.1 b) = _
      rw [if_neg hab]; rfl
    · intro j
      show (if b = y.n then 0 else h.1 b j) = _
      rw [if_neg hab]; rfl
    · intro j
      show (if b = y.n then 0 else h.2 b j) = _
      rw [if_neg hab]; rfl
    · intro j
      show (if b = y.n then none else y.2.2 b j) = _
      rw [if_neg hab]; rfl
theorem ad_new {G : GX} {y : LY} {h : HM} {H : Heap} (hh : HH G y h H) : ad G y.n = H.size := by rw [hh.1, ad_own G hh.2.1]
/-- the locals -/
def toL (G : GX) (ls : List (Option Value)) : List (Nat × Value) := (List.range ls.length).filterMap (fun i => match ls[i]? with | some (some v) => some (i, rv G v) | _ => none)
theorem mem_toL {G : GX} {ls : List (Option Value)} {q : Nat × Value} : q ∈ toL G ls ↔ ∃ v, ls[q.1]? = some (some v) ∧ q.2 = rv G v := by
  unfold toL
  rw [List.mem_filterMap]
  constructor
  · rintro ⟨i, hi, h⟩
    split at h
    next v hv => cases h; exact ⟨v, hv, rfl⟩
    next => cases h
  · rintro ⟨v, hv, h2⟩
    have hl : q.1 < ls.length := (List.getElem?_eq_some_iff.mp hv).1
    refine ⟨q.1, List.mem_range.mpr hl, ?_⟩
    rw [hv]
    obtain ⟨a, b⟩ := q
    simp at h2 ⊢
    exact h2.symm
theorem LH.has {G : GX} {la : Array Slot} {nL : Nat} {ls : List (Option Value)} (h : LH G la nL ls) : lv_has la nL (toL G ls) := by
  refine ⟨h.1, h.2.1, fun q hq => ?_⟩
  obtain ⟨v, h1, h2⟩ := mem_toL.mp hq
  rw [h2]
  exact h.2.2 _ _ h1
def nlg (o : Option Value) : Bool := match o with
  | some v => v.category == 1
  | none => true
def lset : List (Option Value) → Nat → Value → List (Option Value)
  | [], _, _ => []
  | _ :: r, 0, v => some v :: r
  | x :: r, i + 1, v => x :: lset r i v
def lse2 : List (Option Value) → Nat → Value → List (Option Value)
  | [], _, _ => []
  | [_], 0, _ => [none]
  | _ :: _ :: r, 0, v => some v :: none :: r
  | x :: r, i + 1, v => x :: lse2 r i v
theorem lset_get : ∀ (ls : List (Option Value)) (i : Nat) (v : Value) (j : Nat) (w : Value), (lset ls i v)[j]? = some (some w) → (j = i ∧ w = v) ∨ (j ≠ i ∧ ls[j]? = some (some w))
  | [], _, _, _, _, h => by simp [lset] at h
  | _ :: r, 0, v, j, w, h => by
    cases j with
    | zero => simp [lset] at h; exact Or.inl ⟨rfl, h.symm⟩
    | succ j => simp [lset] at h; exact Or.inr ⟨by omega, by simpa using h⟩
  | x :: r, i + 1, v, j, w, h => by
    cases j with
    | zero => simp [lset] at h; exact Or.inr ⟨by omega, by simpa using h⟩
    | succ j =>
      simp [lset] at h
      rcases lset_get r i v j w h with ⟨a, b⟩ | ⟨a, b⟩
      · exact Or.inl ⟨by omega, b⟩
      · exact Or.inr ⟨by omega, by simpa using b⟩
theorem lse2_get : ∀ (ls : List (Option Value)) (i : Nat) (v : Value) (j : Nat) (w : Value), (lse2 ls i v)[j]? = some (some w) → (j = i ∧ w = v) ∨ (j ≠ i ∧ j ≠ i + 1 ∧ ls[j]? = some (some w))
  | [], _, _, _, _, h => by simp [lse2] at h
  | [x], 0, v, j, w, h => by
    cases j with
    | zero => simp [lse2] at h
    | succ j => simp [lse2] at h
  | _ :: _ :: r, 0, v, j, w, h => by
    cases j with
    | zero => simp [lse2] at h; exact Or.inl ⟨rfl, h.symm⟩
    | succ j =>
      cases j with
      | zero => simp [lse2] at h
      | succ j => simp [lse2] at h; exact Or.inr ⟨by omega, by omega, by simpa using h⟩
  | [x], i + 1, v, j, w, h => by
    cases j with
    | zero => simp [lse2] at h; exact Or.inr ⟨by omega, by omega, by simpa using h⟩
    | succ j => simp [lse2] at h
  | x :: z :: r, i + 1, v, j, w, h => by
    cases j with
    | zero => simp [lse2] at h; exact Or.inr ⟨by omega, by omega, by simpa using h⟩
    | succ j =>
      have h' : (lse2 (z :: r) i v)[j]? = some (some w) := by simpa [lse2] using h
      rcases lse2_get (z :: r) i v j w h' with ⟨a, b⟩ | ⟨a, b, d⟩
      · exact Or.inl ⟨by omega, b⟩
      · exact Or.inr ⟨by omega, by omega, by simpa using d⟩
theorem LH.set1 {G : GX} {la : Array Slot} {nL i : Nat} {ls : List (Option Value)} {v : Value} (hp : ∀ w, ls[i - 1]? = some (some w) → 0 < i → w.category = 1) (h : lv_has la nL ((i, rv G v) :: (toL G ls).filter (fun q => !(q.1 == i) && !(q.1 + 1 == i && q.2.category == 2)))) : LH G la nL (lset ls i v) := by
  refine ⟨h.1, h.2.1, fun j w hj => ?_⟩
  rcases lset_get ls i v j w hj with ⟨rfl, rfl⟩ | ⟨hne, hw⟩
  · exact h.2.2 (j, rv G w) List.mem_cons_self
  · refine h.2.2 (j, rv G w) (List.mem_cons_of_mem _ (List.mem_filter.mpr ⟨mem_toL.mpr ⟨w, hw, rfl⟩, ?_⟩))
    have hc : j + 1 = i → w.category = 1 := fun e => hp w (by rw [← e]; exact hw) (by omega)
    simp only [Bool.and_eq_true, Bool.not_eq_true', beq_eq_false_iff_ne, ne_eq, Bool.and_eq_false_iff, rv_cat]
    refine ⟨hne, ?_⟩
    by_cases e : j + 1 = i
    · exact Or.inr (by rw [hc e]; decide)
    · exact Or.inl e
theorem LH.set2 {G : GX} {la : Array Slot} {nL i : Nat} {ls : List (Option Value)} {v : Value} (hp : ∀ w, ls[i - 1]? = some (some w) → 0 < i → w.category = 1) (h : lv_has la nL ((i, rv G v) :: (toL G ls).filter (fun q => !(q.1 == i) && (!(q.1 == i + 1) && !(q.1 + 1 == i && q.2.category == 2))))) : LH G la nL (lse2 ls i v) := by
  refine ⟨h.1, h.2.1, fun j w hj => ?_⟩
  rcases lse2_get ls i v j w hj with ⟨rfl, rfl⟩ | ⟨hne, hne2, hw⟩
  · exact h.2.2 (j, rv G w) List.mem_cons_self
  · refine h.2.2 (j, rv G w) (List.mem_cons_of_mem _ (List.mem_filter.mpr ⟨mem_toL.mpr ⟨w, hw, rfl⟩, ?_⟩))
    have hc : j + 1 = i → w.category = 1 := fun e => hp w (by rw [← e]; exact hw) (by omega)
    simp only [Bool.and_eq_true, Bool.not_eq_true', beq_eq_false_iff_ne, ne_eq, Bool.and_eq_false_iff, rv_cat]
    refine ⟨hne, hne2, ?_⟩
    by_cases e : j + 1 = i
    · exact Or.inr (by rw [hc e]; decide)
    · exact Or.inl e
/-- what was there before stays -/
theorem OLD.go {G : GX} {s U : State} {H : Heap} (h : OLD G s s.heap) (hz : s.heap.size ≤ H.size) (hk : ∀ q : Nat, q < s.heap.size → ¬ oldA G q → H[q]? = s.heap[q]?) (hW : s.WarmedH U.vm) : OLD G U H := by
  obtain ⟨h1, h2, h3, h4, h5, h6, h7⟩ := h
  have hb : H[G.old 8]? = s.heap[G.old 8]? := hk _ (by omega) (by unfold oldA; omega)
  exact ⟨(h1.kept hb).moved hW.alike, h2, (h3.kept hk).moved hW.alike, fun i hi => (h4 i hi).warm hW, (h5.kept hk).moved hW.alike, (h6.kept hk).moved hW.alike, Nat.le_trans h7 hz⟩
theorem EN.go {G : GX} {s U : State} {H : Heap} {locs : List Loc} (h : EN G s) (hS : va_S (oldA G) s.heap H locs) (hU : U.heap = H) (hW : s.WarmedH U.vm) : EN G U := by
  refine ⟨va_K.moved hW.alike h.1, ⟨fun q hq => (h.2.1.1 q hq).warmM hW, fun C hC => (h.2.1.2 C hC).moved hW.alike⟩, ?_⟩
  rw [hU]
  exact OLD.go h.2.2 hS.1 hS.2.1 hW
theorem EN.blind {G : GX} {U : State} (g : JFrame) (mk : MethodId) (a : Array Value) (h : EN G U) : EN G (U.calling g mk a) := by
  obtain ⟨hK, hX, h1, h2, h3, h4, h5, h6, h7⟩ := h
  refine ⟨va_K.moved (u := U) (U := U.calling g mk a) (Vm.Alike.refl U.vm) hK, ⟨fun q hq => (hX.1 q hq).same rfl rfl, fun C hC => (hX.2 C hC).moved (Vm.Alike.refl U.vm)⟩, ?_⟩
  have ha : U.vm.Alike (U.calling g mk a).vm := Vm.Alike.refl U.vm
  exact ⟨h1.moved ha, h2, h3.moved ha, fun i hi => (h4 i hi).same rfl, h5.moved ha, h6.moved ha, h7⟩
