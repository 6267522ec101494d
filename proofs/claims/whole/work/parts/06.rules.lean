section Rules1
variable {G : GX} {M : MI} {R : Room} {Z : ZT} {y : LY} {pc : Nat} {ls : List (Option Value)} {st : List Value} {h : HM} {cs : Nat × Nat}
theorem g_iconst {n : Int} {v : Int32} (hd : decode M.2.1 pc = .ok (.iconst n, 1)) (hv : Int32.ofInt n = v) (k : Go G M R Z y (pc + 1) ls (.int v :: st) h cs) : Go G M R Z y pc ls (st) h cs := by
  intro p e s m args below meth c H locs la C hh hS hl
  exact lv_iconst C.1 C.2.1 hd hv (k p e s m args below meth c H locs la C hh hS hl)
theorem g_bipush {n : Int} {v : Int32} (hd : decode M.2.1 pc = .ok (.bipush n, 2)) (hv : (Int8.ofInt n).toInt32 = v) (k : Go G M R Z y (pc + 2) ls (.int v :: st) h cs) : Go G M R Z y pc ls (st) h cs := by
  intro p e s m args below meth c H locs la C hh hS hl
  exact lv_bipush C.1 C.2.1 hd hv (k p e s m args below meth c H locs la C hh hS hl)
theorem g_sipush {n : Int} {v : Int32} (hd : decode M.2.1 pc = .ok (.sipush n, 3)) (hv : (Int16.ofInt n).toInt32 = v) (k : Go G M R Z y (pc + 3) ls (.int v :: st) h cs) : Go G M R Z y pc ls (st) h cs := by
  intro p e s m args below meth c H locs la C hh hS hl
  exact lv_sipush C.1 C.2.1 hd hv (k p e s m args below meth c H locs la C hh hS hl)
theorem g_lconst {n : Fin 2} {v : Int64} (hd : decode M.2.1 pc = .ok (.lconst n, 1)) (hv : Int64.ofNat (n : Nat) = v) (k : Go G M R Z y (pc + 1) ls (.long v :: st) h cs) : Go G M R Z y pc ls (st) h cs := by
  intro p e s m args below meth c H locs la C hh hS hl
  exact lv_lconst C.1 C.2.1 hd hv (k p e s m args below meth c H locs la C hh hS hl)
theorem g_ldc {own : String} {index : Nat} {v : Int32} (hM : M.1.cls = own) (hw : Jvm.Cond.constant own index v ∈ TB) (hd : decode M.2.1 pc = .ok (.ldc index, 2)) (k : Go G M R Z y (pc + 2) ls (.int v :: st) h cs) : Go G M R Z y pc ls (st) h cs := by
  intro p e s m args below meth c H locs la C hh hS hl
  exact lv_ldc C.1 C.2.1 (hM ▸ C.2.2.2.2.1) (C.2.2.2.2.2.2.1 _ hw) hd (k p e s m args below meth c H locs la C hh hS hl)
theorem g_ldc2 {own : String} {index : Nat} {v : Int64} (hM : M.1.cls = own) (hw : Jvm.Cond.constantLong own index v ∈ TB) (hd : decode M.2.1 pc = .ok (.ldc2_w index, 3)) (k : Go G M R Z y (pc + 3) ls (.long v :: st) h cs) : Go G M R Z y pc ls (st) h cs := by
  intro p e s m args below meth c H locs la C hh hS hl
  exact lv_ldc2 C.1 C.2.1 (hM ▸ C.2.2.2.2.1) (C.2.2.2.2.2.2.1 _ hw) hd (k p e s m args below meth c H locs la C hh hS hl)
theorem g_iadd {x y1 : Int32} (hd : decode M.2.1 pc = .ok (.iadd, 1)) (k : Go G M R Z y (pc + 1) ls (.int (x + y1) :: st) h cs) : Go G M R Z y pc ls (.int y1 :: .int x :: st) h cs := by
  intro p e s m args below meth c H locs la C hh hS hl
  exact lv_iadd C.1 C.2.1 hd (k p e s m args below meth c H locs la C hh hS hl)
theorem g_isub {x y1 : Int32} (hd : decode M.2.1 pc = .ok (.isub, 1)) (k : Go G M R Z y (pc + 1) ls (.int (x - y1) :: st) h cs) : Go G M R Z y pc ls (.int y1 :: .int x :: st) h cs := by
  intro p e s m args below meth c H locs la C hh hS hl
  exact lv_isub C.1 C.2.1 hd (k p e s m args below meth c H locs la C hh hS hl)
theorem g_imul {x y1 : Int32} (hd : decode M.2.1 pc = .ok (.imul, 1)) (k : Go G M R Z y (pc + 1) ls (.int (x * y1) :: st) h cs) : Go G M R Z y pc ls (.int y1 :: .int x :: st) h cs := by
  intro p e s m args below meth c H locs la C hh hS hl
  exact lv_imul C.1 C.2.1 hd (k p e s m args below meth c H locs la C hh hS hl)
theorem g_iand {x y1 : Int32} (hd : decode M.2.1 pc = .ok (.iand, 1)) (k : Go G M R Z y (pc + 1) ls (.int (x &&& y1) :: st) h cs) : Go G M R Z y pc ls (.int y1 :: .int x :: st) h cs := by
  intro p e s m args below meth c H locs la C hh hS hl
  exact lv_iand C.1 C.2.1 hd (k p e s m args below meth c H locs la C hh hS hl)
theorem g_ior {x y1 : Int32} (hd : decode M.2.1 pc = .ok (.ior, 1)) (k : Go G M R Z y (pc + 1) ls (.int (x ||| y1) :: st) h cs) : Go G M R Z y pc ls (.int y1 :: .int x :: st) h cs := by
  intro p e s m args below meth c H locs la C hh hS hl
  exact lv_ior C.1 C.2.1 hd (k p e s m args below meth c H locs la C hh hS hl)
theorem g_ixor {x y1 : Int32} (hd : decode M.2.1 pc = .ok (.ixor, 1)) (k : Go G M R Z y (pc + 1) ls (.int (x ^^^ y1) :: st) h cs) : Go G M R Z y pc ls (.int y1 :: .int x :: st) h cs := by
  intro p e s m args below meth c H locs la C hh hS hl
  exact lv_ixor C.1 C.2.1 hd (k p e s m args below meth c H locs la C hh hS hl)
theorem g_ladd {x y1 : Int64} (hd : decode M.2.1 pc = .ok (.ladd, 1)) (k : Go G M R Z y (pc + 1) ls (.long (x + y1) :: st) h cs) : Go G M R Z y pc ls (.long y1 :: .long x :: st) h cs := by
  intro p e s m args below meth c H locs la C hh hS hl
  exact lv_ladd C.1 C.2.1 hd (k p e s m args below meth c H locs la C hh hS hl)
theorem g_lsub {x y1 : Int64} (hd : decode M.2.1 pc = .ok (.lsub, 1)) (k : Go G M R Z y (pc + 1) ls (.long (x - y1) :: st) h cs) : Go G M R Z y pc ls (.long y1 :: .long x :: st) h cs := by
  intro p e s m args below meth c H locs la C hh hS hl
  exact lv_lsub C.1 C.2.1 hd (k p e s m args below meth c H locs la C hh hS hl)
theorem g_lmul {x y1 : Int64} (hd : decode M.2.1 pc = .ok (.lmul, 1)) (k : Go G M R Z y (pc + 1) ls (.long (x * y1) :: st) h cs) : Go G M R Z y pc ls (.long y1 :: .long x :: st) h cs := by
  intro p e s m args below meth c H locs la C hh hS hl
  exact lv_lmul C.1 C.2.1 hd (k p e s m args below meth c H locs la C hh hS hl)
theorem g_land {x y1 : Int64} (hd : decode M.2.1 pc = .ok (.land, 1)) (k : Go G M R Z y (pc + 1) ls (.long (x &&& y1) :: st) h cs) : Go G M R Z y pc ls (.long y1 :: .long x :: st) h cs := by
  intro p e s m args below meth c H locs la C hh hS hl
  exact lv_land C.1 C.2.1 hd (k p e s m args below meth c H locs la C hh hS hl)
theorem g_lor {x y1 : Int64} (hd : decode M.2.1 pc = .ok (.lor, 1)) (k : Go G M R Z y (pc + 1) ls (.long (x ||| y1) :: st) h cs) : Go G M R Z y pc ls (.long y1 :: .long x :: st) h cs := by
  intro p e s m args below meth c H locs la C hh hS hl
  exact lv_lor C.1 C.2.1 hd (k p e s m args below meth c H locs la C hh hS hl)
theorem g_lxor {x y1 : Int64} (hd : decode M.2.1 pc = .ok (.lxor, 1)) (k : Go G M R Z y (pc + 1) ls (.long (x ^^^ y1) :: st) h cs) : Go G M R Z y pc ls (.long y1 :: .long x :: st) h cs := by
  intro p e s m args below meth c H locs la C hh hS hl
  exact lv_lxor C.1 C.2.1 hd (k p e s m args below meth c H locs la C hh hS hl)
theorem g_idiv {x y1 : Int32} (hd : decode M.2.1 pc = .ok (.idiv, 1)) (hne : ¬ y1 = 0) (k : Go G M R Z y (pc + 1) ls (.int (x / y1) :: st) h cs) : Go G M R Z y pc ls (.int y1 :: .int x :: st) h cs := by
  intro p e s m args below meth c H locs la C hh hS hl
  exact lv_idiv C.1 C.2.1 hd hne (k p e s m args below meth c H locs la C hh hS hl)
theorem g_irem {x y1 : Int32} (hd : decode M.2.1 pc = .ok (.irem, 1)) (hne : ¬ y1 = 0) (k : Go G M R Z y (pc + 1) ls (.int (x - x / y1 * y1) :: st) h cs) : Go G M R Z y pc ls (.int y1 :: .int x :: st) h cs := by
  intro p e s m args below meth c H locs la C hh hS hl
  exact lv_irem C.1 C.2.1 hd hne (k p e s m args below meth c H locs la C hh hS hl)
theorem g_ldiv {x y1 : Int64} (hd : decode M.2.1 pc = .ok (.ldiv, 1)) (hne : ¬ y1 = 0) (k : Go G M R Z y (pc + 1) ls (.long (x / y1) :: st) h cs) : Go G M R Z y pc ls (.long y1 :: .long x :: st) h cs := by
  intro p e s m args below meth c H locs la C hh hS hl
  exact lv_ldiv C.1 C.2.1 hd hne (k p e s m args below meth c H locs la C hh hS hl)
theorem g_lrem {x y1 : Int64} (hd : decode M.2.1 pc = .ok (.lrem, 1)) (hne : ¬ y1 = 0) (k : Go G M R Z y (pc + 1) ls (.long (x - x / y1 * y1) :: st) h cs) : Go G M R Z y pc ls (.long y1 :: .long x :: st) h cs := by
  intro p e s m args below meth c H locs la C hh hS hl
  exact lv_lrem C.1 C.2.1 hd hne (k p e s m args below meth c H locs la C hh hS hl)
theorem g_ishl {x y1 : Int32} (hd : decode M.2.1 pc = .ok (.ishl, 1)) (k : Go G M R Z y (pc + 1) ls (.int (x <<< (y1 &&& 31)) :: st) h cs) : Go G M R Z y pc ls (.int y1 :: .int x :: st) h cs := by
  intro p e s m args below meth c H locs la C hh hS hl
  exact lv_ishl C.1 C.2.1 hd (k p e s m args below meth c H locs la C hh hS hl)
theorem g_ishr {x y1 : Int32} (hd : decode M.2.1 pc = .ok (.ishr, 1)) (k : Go G M R Z y (pc + 1) ls (.int (x >>> (y1 &&& 31)) :: st) h cs) : Go G M R Z y pc ls (.int y1 :: .int x :: st) h cs := by
  intro p e s m args below meth c H locs la C hh hS hl
  exact lv_ishr C.1 C.2.1 hd (k p e s m args below meth c H locs la C hh hS hl)
theorem g_lshl {x : Int64} {y1 : Int32} (hd : decode M.2.1 pc = .ok (.lshl, 1)) (k : Go G M R Z y (pc + 1) ls (.long (x <<< (y1.toInt64 &&& 63)) :: st) h cs) : Go G M R Z y pc ls (.int y1 :: .long x :: st) h cs := by
  intro p e s m args below meth c H locs la C hh hS hl
  exact lv_lshl C.1 C.2.1 hd rfl (k p e s m args below meth c H locs la C hh hS hl)
theorem g_lshr {x : Int64} {y1 : Int32} (hd : decode M.2.1 pc = .ok (.lshr, 1)) (k : Go G M R Z y (pc + 1) ls (.long (x >>> (y1.toInt64 &&& 63)) :: st) h cs) : Go G M R Z y pc ls (.int y1 :: .long x :: st) h cs := by
  intro p e s m args below meth c H locs la C hh hS hl
  exact lv_lshr C.1 C.2.1 hd rfl (k p e s m args below meth c H locs la C hh hS hl)
theorem g_lushr {x : Int64} {y1 : Int32} (hd : decode M.2.1 pc = .ok (.lushr, 1)) (k : Go G M R Z y (pc + 1) ls (.long (x.toUInt64 >>> (y1.toInt64.toUInt64 &&& Int64.toUInt64 63)).toInt64 :: st) h cs) : Go G M R Z y pc ls (.int y1 :: .long x :: st) h cs := by
  intro p e s m args below meth c H locs la C hh hS hl
  exact lv_lushr C.1 C.2.1 hd rfl (k p e s m args below meth c H locs la C hh hS hl)
theorem g_i2l {x : Int32} (hd : decode M.2.1 pc = .ok (.i2l, 1)) (k : Go G M R Z y (pc + 1) ls (.long x.toInt64 :: st) h cs) : Go G M R Z y pc ls (.int x :: st) h cs := by
  intro p e s m args below meth c H locs la C hh hS hl
  exact lv_i2l C.1 C.2.1 hd rfl (k p e s m args below meth c H locs la C hh hS hl)
theorem g_l2i {x : Int64} (hd : decode M.2.1 pc = .ok (.l2i, 1)) (k : Go G M R Z y (pc + 1) ls (.int x.toInt32 :: st) h cs) : Go G M R Z y pc ls (.long x :: st) h cs := by
  intro p e s m args below meth c H locs la C hh hS hl
  exact lv_l2i C.1 C.2.1 hd rfl (k p e s m args below meth c H locs la C hh hS hl)
theorem g_i2b {x : Int32} (hd : decode M.2.1 pc = .ok (.i2b, 1)) (k : Go G M R Z y (pc + 1) ls (.int x.toInt8.toInt32 :: st) h cs) : Go G M R Z y pc ls (.int x :: st) h cs := by
  intro p e s m args below meth c H locs la C hh hS hl
  exact lv_i2b C.1 C.2.1 hd rfl (k p e s m args below meth c H locs la C hh hS hl)
theorem g_i2s {x : Int32} (hd : decode M.2.1 pc = .ok (.i2s, 1)) (k : Go G M R Z y (pc + 1) ls (.int x.toInt16.toInt32 :: st) h cs) : Go G M R Z y pc ls (.int x :: st) h cs := by
  intro p e s m args below meth c H locs la C hh hS hl
  exact lv_i2s C.1 C.2.1 hd rfl (k p e s m args below meth c H locs la C hh hS hl)
theorem g_dup {v : Value} (hd : decode M.2.1 pc = .ok (.dup, 1)) (hv : v.category = 1) (k : Go G M R Z y (pc + 1) ls (v :: v :: st) h cs) : Go G M R Z y pc ls (v :: st) h cs := by
  intro p e s m args below meth c H locs la C hh hS hl
  exact lv_dup C.1 C.2.1 hd ((rv_cat G v).trans hv) (k p e s m args below meth c H locs la C hh hS hl)
theorem g_dup2 {v w : Value} (hd : decode M.2.1 pc = .ok (.dup2, 1)) (hv : v.category = 1) (hw : w.category = 1) (k : Go G M R Z y (pc + 1) ls (v :: w :: v :: w :: st) h cs) : Go G M R Z y pc ls (v :: w :: st) h cs := by
  intro p e s m args below meth c H locs la C hh hS hl
  exact lv_dup2_11 C.1 C.2.1 hd ((rv_cat G v).trans hv) ((rv_cat G w).trans hw) (k p e s m args below meth c H locs la C hh hS hl)
theorem g_pop {v : Value} (hd : decode M.2.1 pc = .ok (.pop, 1)) (hv : v.category = 1) (k : Go G M R Z y (pc + 1) ls (st) h cs) : Go G M R Z y pc ls (v :: st) h cs := by
  intro p e s m args below meth c H locs la C hh hS hl
  exact lv_pop C.1 C.2.1 hd ((rv_cat G v).trans hv) (k p e s m args below meth c H locs la C hh hS hl)
theorem g_goto {off : Int} (tgt : Nat) (hd : decode M.2.1 pc = .ok (.goto off, 3)) (ht : (pc : Int) + off = (tgt : Int)) (k : Go G M R Z y tgt ls st h cs) : Go G M R Z y pc ls st h cs := by
  intro p e s m args below meth c H locs la C hh hS hl
  exact lv_goto C.1 C.2.1 hd ht (k p e s m args below meth c H locs la C hh hS hl)
def lget : List (Option Value) → Nat → Option Value
  | [], _ => none
  | x :: _, 0 => x
  | _ :: r, i + 1 => lget r i
theorem lget_at : ∀ {ls : List (Option Value)} {i : Nat} {v : Value}, lget ls i = some v → ls[i]? = some (some v)
  | [], _, _, h => by simp [lget] at h
  | x :: r, 0, v, h => by simp [lget] at h; simp [h]
  | x :: r, i + 1, v, h => by simp [lget] at h; simpa using lget_at h
theorem LH.get {la : Array Slot} {nL i : Nat} {v : Value} (h : LH G la nL ls) (hv : lget ls i = some v) : la[i]? = some (.val (rv G v)) := h.2.2 i v (lget_at hv)
theorem g_iload_n {k0 : Fin 4} {i : Nat} {x : Int32} (hd : decode M.2.1 pc = .ok (.iload_n k0, 1)) (hi : (k0 : Nat) = i) (hv : lget ls i = some (.int x)) (k : Go G M R Z y (pc + 1) ls (.int x :: st) h cs) : Go G M R Z y pc ls st h cs := by
  intro p e s m args below meth c H locs la C hh hS hl
  exact lv_iload_n C.1 C.2.1 hd hi (hl.get hv) (k p e s m args below meth c H locs la C hh hS hl)
theorem g_iload {i : Nat} {x : Int32} (hd : decode M.2.1 pc = .ok (.iload i, 2)) (hv : lget ls i = some (.int x)) (k : Go G M R Z y (pc + 2) ls (.int x :: st) h cs) : Go G M R Z y pc ls st h cs := by
  intro p e s m args below meth c H locs la C hh hS hl
  exact lv_iload C.1 C.2.1 hd (hl.get hv) (k p e s m args below meth c H locs la C hh hS hl)
theorem g_lload_n {k0 : Fin 4} {i : Nat} {x : Int64} (hd : decode M.2.1 pc = .ok (.lload_n k0, 1)) (hi : (k0 : Nat) = i) (hv : lget ls i = some (.long x)) (k : Go G M R Z y (pc + 1) ls (.long x :: st) h cs) : Go G M R Z y pc ls st h cs := by
  intro p e s m args below meth c H locs la C hh hS hl
  exact lv_lload_n C.1 C.2.1 hd hi (hl.get hv) (k p e s m args below meth c H locs la C hh hS hl)
theorem g_lload {i : Nat} {x : Int64} (hd : decode M.2.1 pc = .ok (.lload i, 2)) (hv : lget ls i = some (.long x)) (k : Go G M R Z y (pc + 2) ls (.long x :: st) h cs) : Go G M R Z y pc ls st h cs := by
  intro p e s m args below meth c H locs la C hh hS hl
  exact lv_lload C.1 C.2.1 hd (hl.get hv) (k p e s m args below meth c H locs la C hh hS hl)
theorem g_aload_n {k0 : Fin 4} {i : Nat} {x : Nat} (hd : decode M.2.1 pc = .ok (.aload_n k0, 1)) (hi : (k0 : Nat) = i) (hv : lget ls i = some (.ref x)) (k : Go G M R Z y (pc + 1) ls (.ref x :: st) h cs) : Go G M R Z y pc ls st h cs := by
  intro p e s m args below meth c H locs la C hh hS hl
  exact lv_aload_n C.1 C.2.1 hd hi (hl.get hv) (k p e s m args below meth c H locs la C hh hS hl)
theorem g_aload {i : Nat} {x : Nat} (hd : decode M.2.1 pc = .ok (.aload i, 2)) (hv : lget ls i = some (.ref x)) (k : Go G M R Z y (pc + 2) ls (.ref x :: st) h cs) : Go G M R Z y pc ls st h cs := by
  intro p e s m args below meth c H locs la C hh hS hl
  exact lv_aload C.1 C.2.1 hd (hl.get hv) (k p e s m args below meth c H locs la C hh hS hl)
theorem prevOk {i : Nat} (hp : nlg (lget ls (i - 1)) = true) : ∀ w, ls[i - 1]? = some (some w) → 0 < i → w.category = 1 := by
  intro w hw _
  have : ∀ (l : List (Option Value)) (j : Nat), l[j]? = some (some w) → lget l j = some w := by
    intro l
    induction l with
    | nil => intro j h; simp at h
    | cons a l ih =>
      intro j h
      cases j with
      | zero => simp at h; simp [lget, h]
      | succ j => simp at h; simpa [lget] using ih j h
  rw [this ls (i - 1) hw] at hp
  simpa [nlg] using hp
theorem gs_istore_n {k0 : Fin 4} {i : Nat} {x : Int32} (hd : decode M.2.1 pc = .ok (.istore_n k0, 1)) (hi : (k0 : Nat) = i) (hb : i < M.2.2.1) (hp : nlg (lget ls (i - 1)) = true) (k : Go G M R Z y (pc + 1) (lset ls i (.int x)) st h cs) : Go G M R Z y pc ls (.int x :: st) h cs := by
  intro p e s m args below meth c H locs la C hh hS hl
  exact lv_istore_n C.1 C.2.1 hd hi hl.has hb rfl (fun la' hl' => k p e s m args below meth c H locs la' C hh hS (LH.set1 (v := .int x) (prevOk hp) hl'))
theorem gs_istore {i : Nat} {x : Int32} (hd : decode M.2.1 pc = .ok (.istore i, 2)) (hb : i < M.2.2.1) (hp : nlg (lget ls (i - 1)) = true) (k : Go G M R Z y (pc + 2) (lset ls i (.int x)) st h cs) : Go G M R Z y pc ls (.int x :: st) h cs := by
  intro p e s m args below meth c H locs la C hh hS hl
  exact lv_istore C.1 C.2.1 hd hl.has hb rfl (fun la' hl' => k p e s m args below meth c H locs la' C hh hS (LH.set1 (v := .int x) (prevOk hp) hl'))
theorem gs_lstore_n {k0 : Fin 4} {i : Nat} {x : Int64} (hd : decode M.2.1 pc = .ok (.lstore_n k0, 1)) (hi : (k0 : Nat) = i) (hb : i + 1 < M.2.2.1) (hp : nlg (lget ls (i - 1)) = true) (k : Go G M R Z y (pc + 1) (lse2 ls i (.long x)) st h cs) : Go G M R Z y pc ls (.long x :: st) h cs := by
  intro p e s m args below meth c H locs la C hh hS hl
  exact lv_lstore_n C.1 C.2.1 hd hi hl.has hb rfl (fun la' hl' => k p e s m args below meth c H locs la' C hh hS (LH.set2 (v := .long x) (prevOk hp) hl'))
theorem gs_lstore {i : Nat} {x : Int64} (hd : decode M.2.1 pc = .ok (.lstore i, 2)) (hb : i + 1 < M.2.2.1) (hp : nlg (lget ls (i - 1)) = true) (k : Go G M R Z y (pc + 2) (lse2 ls i (.long x)) st h cs) : Go G M R Z y pc ls (.long x :: st) h cs := by
  intro p e s m args below meth c H locs la C hh hS hl
  exact lv_lstore C.1 C.2.1 hd hl.has hb rfl (fun la' hl' => k p e s m args below meth c H locs la' C hh hS (LH.set2 (v := .long x) (prevOk hp) hl'))
theorem gs_astore_n {k0 : Fin 4} {i : Nat} {x : Nat} (hd : decode M.2.1 pc = .ok (.astore_n k0, 1)) (hi : (k0 : Nat) = i) (hb : i < M.2.2.1) (hp : nlg (lget ls (i - 1)) = true) (k : Go G M R Z y (pc + 1) (lset ls i (.ref x)) st h cs) : Go G M R Z y pc ls (.ref x :: st) h cs := by
  intro p e s m args below meth c H locs la C hh hS hl
  exact lv_astore_n C.1 C.2.1 hd hi hl.has hb rfl (fun la' hl' => k p e s m args below meth c H locs la' C hh hS (LH.set1 (v := .ref x) (prevOk hp) hl'))
theorem gs_astore {i : Nat} {x : Nat} (hd : decode M.2.1 pc = .ok (.astore i, 2)) (hb : i < M.2.2.1) (hp : nlg (lget ls (i - 1)) = true) (k : Go G M R Z y (pc + 2) (lset ls i (.ref x)) st h cs) : Go G M R Z y pc ls (.ref x :: st) h cs := by
  intro p e s m args below meth c H locs la C hh hS hl
  exact lv_astore C.1 C.2.1 hd hl.has hb rfl (fun la' hl' => k p e s m args below meth c H locs la' C hh hS (LH.set1 (v := .ref x) (prevOk hp) hl'))
theorem gs_iinc {i : Nat} {n : Int} {x v : Int32} (hd : decode M.2.1 pc = .ok (.iinc i n, 3)) (hv0 : lget ls i = some (.int x)) (hv : x + Int32.ofInt n = v) (hb : i < M.2.2.1) (hp : nlg (lget ls (i - 1)) = true) (k : Go G M R Z y (pc + 3) (lset ls i (.int v)) st h cs) : Go G M R Z y pc ls st h cs := by
  intro p e s m args below meth c H locs la C hh hS hl
  obtain ⟨j, hj⟩ := List.getElem?_of_mem (mem_toL (G := G) (q := (i, .int x)) |>.mpr ⟨.int x, lget_at hv0, rfl⟩)
  exact lv_iinc C.1 C.2.1 hd hl.has hj hv hb rfl (fun la' hl' => k p e s m args below meth c H locs la' C hh hS (LH.set1 (v := .int v) (prevOk hp) hl'))
theorem g_if_eq {x : Int32} {off : Int} (tgt : Nat) (hd : decode M.2.1 pc = .ok (.ifCond .eq off, 3)) (ht : (pc : Int) + off = (tgt : Int)) (kt : x = 0 → Go G M R Z y tgt ls st h cs) (kf : ¬ x = 0 → Go G M R Z y (pc + 3) ls st h cs) : Go G M R Z y pc ls (.int x :: st) h cs := by
  intro p e s m args below meth c H locs la C hh hS hl
  exact lv_if_eq C.1 C.2.1 hd ht (fun q => kt q p e s m args below meth c H locs la C hh hS hl) (fun q => kf q p e s m args below meth c H locs la C hh hS hl)
theorem g_icmp_eq {x y1 : Int32} {off : Int} (tgt : Nat) (hd : decode M.2.1 pc = .ok (.if_icmp .eq off, 3)) (ht : (pc : Int) + off = (tgt : Int)) (kt : x = y1 → Go G M R Z y tgt ls st h cs) (kf : ¬ x = y1 → Go G M R Z y (pc + 3) ls st h cs) : Go G M R Z y pc ls (.int y1 :: .int x :: st) h cs := by
  intro p e s m args below meth c H locs la C hh hS hl
  exact lv_icmp_eq C.1 C.2.1 hd ht (fun q => kt q p e s m args below meth c H locs la C hh hS hl) (fun q => kf q p e s m args below meth c H locs la C hh hS hl)
theorem g_lcmp_eq {x y1 : Int64} {off : Int} (tgt : Nat) (hd : decode M.2.1 pc = .ok (.lcmp, 1)) (hd2 : decode M.2.1 (pc + 1) = .ok (.ifCond .eq off, 3)) (ht : ((pc + 1 : Nat) : Int) + off = (tgt : Int)) (kt : x = y1 → Go G M R Z y tgt ls st h cs) (kf : ¬ x = y1 → Go G M R Z y (pc + 4) ls st h cs) : Go G M R Z y pc ls (.long y1 :: .long x :: st) h cs := by
  intro p e s m args below meth c H locs la C hh hS hl
  exact W.lcmp C.1 C.2.1 hd (lv_if_eq C.1 C.2.1 hd2 ht (fun q => kt ((lg_cmp_eq x y1).mp q) p e s m args below meth c H locs la C hh hS hl) (fun q => kf (fun q2 => q ((lg_cmp_eq x y1).mpr q2)) p e s m args below meth c H locs la C hh hS hl))
theorem g_if_ne {x : Int32} {off : Int} (tgt : Nat) (hd : decode M.2.1 pc = .ok (.ifCond .ne off, 3)) (ht : (pc : Int) + off = (tgt : Int)) (kt : ¬ x = 0 → Go G M R Z y tgt ls st h cs) (kf : x = 0 → Go G M R Z y (pc + 3) ls st h cs) : Go G M R Z y pc ls (.int x :: st) h cs := by
  intro p e s m args below meth c H locs la C hh hS hl
  exact lv_if_ne C.1 C.2.1 hd ht (fun q => kt q p e s m args below meth c H locs la C hh hS hl) (fun q => kf q p e s m args below meth c H locs la C hh hS hl)
theorem g_icmp_ne {x y1 : Int32} {off : Int} (tgt : Nat) (hd : decode M.2.1 pc = .ok (.if_icmp .ne off, 3)) (ht : (pc : Int) + off = (tgt : Int)) (kt : ¬ x = y1 → Go G M R Z y tgt ls st h cs) (kf : x = y1 → Go G M R Z y (pc + 3) ls st h cs) : Go G M R Z y pc ls (.int y1 :: .int x :: st) h cs := by
  intro p e s m args below meth c H locs la C hh hS hl
  exact lv_icmp_ne C.1 C.2.1 hd ht (fun q => kt q p e s m args below meth c H locs la C hh hS hl) (fun q => kf q p e s m args below meth c H locs la C hh hS hl)
theorem g_lcmp_ne {x y1 : Int64} {off : Int} (tgt : Nat) (hd : decode M.2.1 pc = .ok (.lcmp, 1)) (hd2 : decode M.2.1 (pc + 1) = .ok (.ifCond .ne off, 3)) (ht : ((pc + 1 : Nat) : Int) + off = (tgt : Int)) (kt : ¬ x = y1 → Go G M R Z y tgt ls st h cs) (kf : x = y1 → Go G M R Z y (pc + 4) ls st h cs) : Go G M R Z y pc ls (.long y1 :: .long x :: st) h cs := by
  intro p e s m args below meth c H locs la C hh hS hl
  exact W.lcmp C.1 C.2.1 hd (lv_if_ne C.1 C.2.1 hd2 ht (fun q => kt ((not_congr (lg_cmp_eq x y1)).mp q) p e s m args below meth c H locs la C hh hS hl) (fun q => kf ((lg_cmp_eq x y1).mp q) p e s m args below meth c H locs la C hh hS hl))
theorem g_if_lt {x : Int32} {off : Int} (tgt : Nat) (hd : decode M.2.1 pc = .ok (.ifCond .lt off, 3)) (ht : (pc : Int) + off = (tgt : Int)) (kt : x < 0 → Go G M R Z y tgt ls st h cs) (kf : ¬ x < 0 → Go G M R Z y (pc + 3) ls st h cs) : Go G M R Z y pc ls (.int x :: st) h cs := by
  intro p e s m args below meth c H locs la C hh hS hl
  exact lv_if_lt C.1 C.2.1 hd ht (fun q => kt q p e s m args below meth c H locs la C hh hS hl) (fun q => kf q p e s m args below meth c H locs la C hh hS hl)
theorem g_icmp_lt {x y1 : Int32} {off : Int} (tgt : Nat) (hd : decode M.2.1 pc = .ok (.if_icmp .lt off, 3)) (ht : (pc : Int) + off = (tgt : Int)) (kt : x < y1 → Go G M R Z y tgt ls st h cs) (kf : ¬ x < y1 → Go G M R Z y (pc + 3) ls st h cs) : Go G M R Z y pc ls (.int y1 :: .int x :: st) h cs := by
  intro p e s m args below meth c H locs la C hh hS hl
  exact lv_icmp_lt C.1 C.2.1 hd ht (fun q => kt q p e s m args below meth c H locs la C hh hS hl) (fun q => kf q p e s m args below meth c H locs la C hh hS hl)
theorem g_lcmp_lt {x y1 : Int64} {off : Int} (tgt : Nat) (hd : decode M.2.1 pc = .ok (.lcmp, 1)) (hd2 : decode M.2.1 (pc + 1) = .ok (.ifCond .lt off, 3)) (ht : ((pc + 1 : Nat) : Int) + off = (tgt : Int)) (kt : x < y1 → Go G M R Z y tgt ls st h cs) (kf : ¬ x < y1 → Go G M R Z y (pc + 4) ls st h cs) : Go G M R Z y pc ls (.long y1 :: .long x :: st) h cs := by
  intro p e s m args below meth c H locs la C hh hS hl
  exact W.lcmp C.1 C.2.1 hd (lv_if_lt C.1 C.2.1 hd2 ht (fun q => kt ((lg_cmp_lt x y1).mp q) p e s m args below meth c H locs la C hh hS hl) (fun q => kf (fun q2 => q ((lg_cmp_lt x y1).mpr q2)) p e s m args below meth c H locs la C hh hS hl))
theorem g_if_ge {x : Int32} {off : Int} (tgt : Nat) (hd : decode M.2.1 pc = .ok (.ifCond .ge off, 3)) (ht : (pc : Int) + off = (tgt : Int)) (kt : 0 ≤ x → Go G M R Z y tgt ls st h cs) (kf : ¬ 0 ≤ x → Go G M R Z y (pc + 3) ls st h cs) : Go G M R Z y pc ls (.int x :: st) h cs := by
  intro p e s m args below meth c H locs la C hh hS hl
  exact lv_if_ge C.1 C.2.1 hd ht (fun q => kt q p e s m args below meth c H locs la C hh hS hl) (fun q => kf q p e s m args below meth c H locs la C hh hS hl)
theorem g_icmp_ge {x y1 : Int32} {off : Int} (tgt : Nat) (hd : decode M.2.1 pc = .ok (.if_icmp .ge off, 3)) (ht : (pc : Int) + off = (tgt : Int)) (kt : y1 ≤ x → Go G M R Z y tgt ls st h cs) (kf : ¬ y1 ≤ x → Go G M R Z y (pc + 3) ls st h cs) : Go G M R Z y pc ls (.int y1 :: .int x :: st) h cs := by
  intro p e s m args below meth c H locs la C hh hS hl
  exact lv_icmp_ge C.1 C.2.1 hd ht (fun q => kt q p e s m args below meth c H locs la C hh hS hl) (fun q => kf q p e s m args below meth c H locs la C hh hS hl)
theorem g_lcmp_ge {x y1 : Int64} {off : Int} (tgt : Nat) (hd : decode M.2.1 pc = .ok (.lcmp, 1)) (hd2 : decode M.2.1 (pc + 1) = .ok (.ifCond .ge off, 3)) (ht : ((pc + 1 : Nat) : Int) + off = (tgt : Int)) (kt : y1 ≤ x → Go G M R Z y tgt ls st h cs) (kf : ¬ y1 ≤ x → Go G M R Z y (pc + 4) ls st h cs) : Go G M R Z y pc ls (.long y1 :: .long x :: st) h cs := by
  intro p e s m args below meth c H locs la C hh hS hl
  exact W.lcmp C.1 C.2.1 hd (lv_if_ge C.1 C.2.1 hd2 ht (fun q => kt ((lg_cmp_ge x y1).mp q) p e s m args below meth c H locs la C hh hS hl) (fun q => kf (fun q2 => q ((lg_cmp_ge x y1).mpr q2)) p e s m args below meth c H locs la C hh hS hl))
theorem g_if_gt {x : Int32} {off : Int} (tgt : Nat) (hd : decode M.2.1 pc = .ok (.ifCond .gt off, 3)) (ht : (pc : Int) + off = (tgt : Int)) (kt : 0 < x → Go G M R Z y tgt ls st h cs) (kf : ¬ 0 < x → Go G M R Z y (pc + 3) ls st h cs) : Go G M R Z y pc ls (.int x :: st) h cs := by
  intro p e s m args below meth c H locs la C hh hS hl
  exact lv_if_gt C.1 C.2.1 hd ht (fun q => kt q p e s m args below meth c H locs la C hh hS hl) (fun q => kf q p e s m args below meth c H locs la C hh hS hl)
theorem g_icmp_gt {x y1 : Int32} {off : Int} (tgt : Nat) (hd : decode M.2.1 pc = .ok (.if_icmp .gt off, 3)) (ht : (pc : Int) + off = (tgt : Int)) (kt : y1 < x → Go G M R Z y tgt ls st h cs) (kf : ¬ y1 < x → Go G M R Z y (pc + 3) ls st h cs) : Go G M R Z y pc ls (.int y1 :: .int x :: st) h cs := by
  intro p e s m args below meth c H locs la C hh hS hl
  exact lv_icmp_gt C.1 C.2.1 hd ht (fun q => kt q p e s m args below meth c H locs la C hh hS hl) (fun q => kf q p e s m args below meth c H locs la C hh hS hl)
theorem g_lcmp_gt {x y1 : Int64} {off : Int} (tgt : Nat) (hd : decode M.2.1 pc = .ok (.lcmp, 1)) (hd2 : decode M.2.1 (pc + 1) = .ok (.ifCond .gt off, 3)) (ht : ((pc + 1 : Nat) : Int) + off = (tgt : Int)) (kt : y1 < x → Go G M R Z y tgt ls st h cs) (kf : ¬ y1 < x → Go G M R Z y (pc + 4) ls st h cs) : Go G M R Z y pc ls (.long y1 :: .long x :: st) h cs := by
  intro p e s m args below meth c H locs la C hh hS hl
  exact W.lcmp C.1 C.2.1 hd (lv_if_gt C.1 C.2.1 hd2 ht (fun q => kt ((lg_cmp_gt x y1).mp q) p e s m args below meth c H locs la C hh hS hl) (fun q => kf (fun q2 => q ((lg_cmp_gt x y1).mpr q2)) p e s m args below meth c H locs la C hh hS hl))
theorem g_if_le {x : Int32} {off : Int} (tgt : Nat) (hd : decode M.2.1 pc = .ok (.ifCond .le off, 3)) (ht : (pc : Int) + off = (tgt : Int)) (kt : x ≤ 0 → Go G M R Z y tgt ls st h cs) (kf : ¬ x ≤ 0 → Go G M R Z y (pc + 3) ls st h cs) : Go G M R Z y pc ls (.int x :: st) h cs := by
  intro p e s m args below meth c H locs la C hh hS hl
  exact lv_if_le C.1 C.2.1 hd ht (fun q => kt q p e s m args below meth c H locs la C hh hS hl) (fun q => kf q p e s m args below meth c H locs la C hh hS hl)
theorem g_icmp_le {x y1 : Int32} {off : Int} (tgt : Nat) (hd : decode M.2.1 pc = .ok (.if_icmp .le off, 3)) (ht : (pc : Int) + off = (tgt : Int)) (kt : x ≤ y1 → Go G M R Z y tgt ls st h cs) (kf : ¬ x ≤ y1 → Go G M R Z y (pc + 3) ls st h cs) : Go G M R Z y pc ls (.int y1 :: .int x :: st) h cs := by
  intro p e s m args below meth c H locs la C hh hS hl
  exact lv_icmp_le C.1 C.2.1 hd ht (fun q => kt q p e s m args below meth c H locs la C hh hS hl) (fun q => kf q p e s m args below meth c H locs la C hh hS hl)
theorem g_lcmp_le {x y1 : Int64} {off : Int} (tgt : Nat) (hd : decode M.2.1 pc = .ok (.lcmp, 1)) (hd2 : decode M.2.1 (pc + 1) = .ok (.ifCond .le off, 3)) (ht : ((pc + 1 : Nat) : Int) + off = (tgt : Int)) (kt : x ≤ y1 → Go G M R Z y tgt ls st h cs) (kf : ¬ x ≤ y1 → Go G M R Z y (pc + 4) ls st h cs) : Go G M R Z y pc ls (.long y1 :: .long x :: st) h cs := by
  intro p e s m args below meth c H locs la C hh hS hl
  exact W.lcmp C.1 C.2.1 hd (lv_if_le C.1 C.2.1 hd2 ht (fun q => kt ((lg_cmp_le x y1).mp q) p e s m args below meth c H locs la C hh hS hl) (fun q => kf (fun q2 => q ((lg_cmp_le x y1).mpr q2)) p e s m args below meth c H locs la C hh hS hl))
theorem g_tsIn {dflt lo hi : Int} {offs : Array Int} {len : Nat} {x : Int32} {off : Int} (tgt : Nat) (hd : decode M.2.1 pc = .ok (.tableswitch dflt lo hi offs, len)) (h1 : ¬ x.toInt < lo) (h2 : ¬ hi < x.toInt) (ho : offs[(x.toInt - lo).toNat]? = some off) (ht : (pc : Int) + off = (tgt : Int)) (k : Go G M R Z y tgt ls st h cs) : Go G M R Z y pc ls (.int x :: st) h cs := by
  intro p e s m args below meth c H locs la C hh hS hl
  exact lv_tableIn C.1 C.2.1 hd h1 h2 ho ht (k p e s m args below meth c H locs la C hh hS hl)
theorem g_tsOut {dflt lo hi : Int} {offs : Array Int} {len : Nat} {x : Int32} (tgt : Nat) (hd : decode M.2.1 pc = .ok (.tableswitch dflt lo hi offs, len)) (h1 : x.toInt < lo ∨ hi < x.toInt) (ht : (pc : Int) + dflt = (tgt : Int)) (k : Go G M R Z y tgt ls st h cs) : Go G M R Z y pc ls (.int x :: st) h cs := by
  intro p e s m args below meth c H locs la C hh hS hl
  exact lv_tableOut C.1 C.2.1 hd h1 ht (k p e s m args below meth c H locs la C hh hS hl)
theorem g_lookup {dflt : Int} {ps : Array (Int × Int)} {len : Nat} {x : Int32} {off : Int} (tgt : Nat) (hd : decode M.2.1 pc = .ok (.lookupswitch dflt ps, len)) (hp : (ps.toList.zip (ps.toList.drop 1)).all (fun (a, next) => a.1 < next.1) = true) (ho : Op.lookupswitch.offset ps.toList dflt x.toInt = off) (ht : (pc : Int) + off = (tgt : Int)) (k : Go G M R Z y tgt ls st h cs) : Go G M R Z y pc ls (.int x :: st) h cs := by
  intro p e s m args below meth c H locs la C hh hS hl
  exact lv_lookup C.1 C.2.1 hd hp ho ht (k p e s m args below meth c H locs la C hh hS hl)
theorem g_iret {y1 : LY} {mc ms : Nat} {Q : Option Value → HM → Prop} {v : Int32} (hd : decode M.2.1 pc = .ok (.ireturn, 1)) {ty : FieldType} (hr : M.2.2.2 = some ty) (hn : narrow ty (.int v) = .int v) (hy : y = y1) (hc : cs.1 ≤ mc ∧ cs.2 ≤ ms) (hq : Q (some (.int v)) h) : Go G M R (ZM G y1 mc ms Q) y pc ls [.int v] h cs := by
  intro p e s m args below meth c H locs la C hh hS hl
  subst hy
  refine W.widen hc.1 hc.2 ?_
  exact W.zret (hlocks := C.2.2.2.2.2.2.2.1) C.1 C.2.1 (C.2.2.1.trans hr) hn (fun t ht _ => ⟨⟨some (.int v), h, rfl, hq, by rw [ht]; exact hh⟩, hS.F ht⟩) (fun q hq2 => hS.2.2 q hq2) hd
theorem g_lret {y1 : LY} {mc ms : Nat} {Q : Option Value → HM → Prop} {v : Int64} (hd : decode M.2.1 pc = .ok (.lreturn, 1)) (hr : M.2.2.2 = some .long) (hy : y = y1) (hc : cs.1 ≤ mc ∧ cs.2 ≤ ms) (hq : Q (some (.long v)) h) : Go G M R (ZM G y1 mc ms Q) y pc ls [.long v] h cs := by
  intro p e s m args below meth c H locs la C hh hS hl
  subst hy
  refine W.widen hc.1 hc.2 ?_
  exact W.lret (hlocks := C.2.2.2.2.2.2.2.1) C.1 C.2.1 (C.2.2.1.trans hr) (fun t ht _ => ⟨⟨some (.long v), h, rfl, hq, by rw [ht]; exact hh⟩, hS.F ht⟩) (fun q hq2 => hS.2.2 q hq2) hd
theorem g_vret {y1 : LY} {mc ms : Nat} {Q : Option Value → HM → Prop} (hd : decode M.2.1 pc = .ok (.return_, 1)) (hr : M.2.2.2 = none) (hy : y = y1) (hc : cs.1 ≤ mc ∧ cs.2 ≤ ms) (hq : Q none h) : Go G M R (ZM G y1 mc ms Q) y pc ls [] h cs := by
  intro p e s m args below meth c H locs la C hh hS hl
  subst hy
  refine W.widen hc.1 hc.2 ?_
  exact W.vret (hlocks := C.2.2.2.2.2.2.2.1) C.1 C.2.1 (C.2.2.1.trans hr) (fun t ht _ => ⟨⟨none, h, rfl, hq, by rw [ht]; exact hh⟩, hS.F ht⟩) (fun q hq2 => hS.2.2 q hq2) hd
end Rules1
