section Rules1
variable {G : GX} {M : MI} {R : Room} {Z : ZT} {y : LY} {pc : Nat} {ls : List (Option Value)} {st : List Value} {h : HM} {cs : Nat × Nat}
theorem g_iconst {n : Int} (hd : decode M.2.1 pc = .ok (.iconst n, 1)) (k : Go G M R Z y (pc + 1) ls (.int (iZ n) :: st) h cs) : Go G M R Z y pc ls (st) h cs := by
  intro p e s m args below meth c H locs la C hh hS hl
  have k1 := k p e s m args below meth c H locs la C hh hS hl
  exact lv_iconst C.1 C.2.1 hd rfl k1
theorem g_bipush {n v : Int} (hd : decode M.2.1 pc = .ok (.bipush n, 2)) (hv : (Int8.ofInt n).toInt32 = iZ v) (k : Go G M R Z y (pc + 2) ls (.int (iZ v) :: st) h cs) : Go G M R Z y pc ls (st) h cs := by
  intro p e s m args below meth c H locs la C hh hS hl
  have k1 := k p e s m args below meth c H locs la C hh hS hl
  exact lv_bipush C.1 C.2.1 hd hv k1
theorem g_sipush {n v : Int} (hd : decode M.2.1 pc = .ok (.sipush n, 3)) (hv : (Int16.ofInt n).toInt32 = iZ v) (k : Go G M R Z y (pc + 3) ls (.int (iZ v) :: st) h cs) : Go G M R Z y pc ls (st) h cs := by
  intro p e s m args below meth c H locs la C hh hS hl
  have k1 := k p e s m args below meth c H locs la C hh hS hl
  exact lv_sipush C.1 C.2.1 hd hv k1
theorem g_lconst {n : Fin 2} {v : Int} (hd : decode M.2.1 pc = .ok (.lconst n, 1)) (hv : Int64.ofNat (n : Nat) = lZ v) (k : Go G M R Z y (pc + 1) ls (.long (lZ v) :: st) h cs) : Go G M R Z y pc ls (st) h cs := by
  intro p e s m args below meth c H locs la C hh hS hl
  have k1 := k p e s m args below meth c H locs la C hh hS hl
  exact lv_lconst C.1 C.2.1 hd hv k1
theorem g_ldc {own : String} {index : Nat} {v : Int} (hM : M.1.cls = own) (hw : Jvm.Cond.constant own index (iZ v) ∈ TB) (hd : decode M.2.1 pc = .ok (.ldc index, 2)) (k : Go G M R Z y (pc + 2) ls (.int (iZ v) :: st) h cs) : Go G M R Z y pc ls (st) h cs := by
  intro p e s m args below meth c H locs la C hh hS hl
  have k1 := k p e s m args below meth c H locs la C hh hS hl
  exact lv_ldc C.1 C.2.1 (hM ▸ C.2.2.2.2.1) (C.2.2.2.2.2.2.1 _ hw) hd k1
theorem g_ldc2 {own : String} {index : Nat} {v : Int} (hM : M.1.cls = own) (hw : Jvm.Cond.constantLong own index (lZ v) ∈ TB) (hd : decode M.2.1 pc = .ok (.ldc2_w index, 3)) (k : Go G M R Z y (pc + 3) ls (.long (lZ v) :: st) h cs) : Go G M R Z y pc ls (st) h cs := by
  intro p e s m args below meth c H locs la C hh hS hl
  have k1 := k p e s m args below meth c H locs la C hh hS hl
  exact lv_ldc2 C.1 C.2.1 (hM ▸ C.2.2.2.2.1) (C.2.2.2.2.2.2.1 _ hw) hd k1
theorem g_iadd {a b : Int} (hd : decode M.2.1 pc = .ok (.iadd, 1)) (k : Go G M R Z y (pc + 1) ls (.int (iZ (a + b)) :: st) h cs) : Go G M R Z y pc ls (.int (iZ b) :: .int (iZ a) :: st) h cs := by
  intro p e s m args below meth c H locs la C hh hS hl
  have k1 := k p e s m args below meth c H locs la C hh hS hl
  rw [← show iZ a + iZ b = iZ (a + b) from iZ_add a b] at k1
  exact lv_iadd C.1 C.2.1 hd k1
theorem g_isub {a b : Int} (hd : decode M.2.1 pc = .ok (.isub, 1)) (k : Go G M R Z y (pc + 1) ls (.int (iZ (a - b)) :: st) h cs) : Go G M R Z y pc ls (.int (iZ b) :: .int (iZ a) :: st) h cs := by
  intro p e s m args below meth c H locs la C hh hS hl
  have k1 := k p e s m args below meth c H locs la C hh hS hl
  rw [← show iZ a - iZ b = iZ (a - b) from iZ_sub a b] at k1
  exact lv_isub C.1 C.2.1 hd k1
theorem g_imul {a b : Int} (hd : decode M.2.1 pc = .ok (.imul, 1)) (k : Go G M R Z y (pc + 1) ls (.int (iZ (a * b)) :: st) h cs) : Go G M R Z y pc ls (.int (iZ b) :: .int (iZ a) :: st) h cs := by
  intro p e s m args below meth c H locs la C hh hS hl
  have k1 := k p e s m args below meth c H locs la C hh hS hl
  rw [← show iZ a * iZ b = iZ (a * b) from iZ_mul a b] at k1
  exact lv_imul C.1 C.2.1 hd k1
theorem g_iand {a b : Int} (hd : decode M.2.1 pc = .ok (.iand, 1)) (k : Go G M R Z y (pc + 1) ls (.int (iZ (iAnd a b)) :: st) h cs) : Go G M R Z y pc ls (.int (iZ b) :: .int (iZ a) :: st) h cs := by
  intro p e s m args below meth c H locs la C hh hS hl
  have k1 := k p e s m args below meth c H locs la C hh hS hl
  rw [← show iZ a &&& iZ b = iZ (iAnd a b) from (iZ_of _).symm] at k1
  exact lv_iand C.1 C.2.1 hd k1
theorem g_ior {a b : Int} (hd : decode M.2.1 pc = .ok (.ior, 1)) (k : Go G M R Z y (pc + 1) ls (.int (iZ (iOr a b)) :: st) h cs) : Go G M R Z y pc ls (.int (iZ b) :: .int (iZ a) :: st) h cs := by
  intro p e s m args below meth c H locs la C hh hS hl
  have k1 := k p e s m args below meth c H locs la C hh hS hl
  rw [← show iZ a ||| iZ b = iZ (iOr a b) from (iZ_of _).symm] at k1
  exact lv_ior C.1 C.2.1 hd k1
theorem g_ixor {a b : Int} (hd : decode M.2.1 pc = .ok (.ixor, 1)) (k : Go G M R Z y (pc + 1) ls (.int (iZ (iXor a b)) :: st) h cs) : Go G M R Z y pc ls (.int (iZ b) :: .int (iZ a) :: st) h cs := by
  intro p e s m args below meth c H locs la C hh hS hl
  have k1 := k p e s m args below meth c H locs la C hh hS hl
  rw [← show iZ a ^^^ iZ b = iZ (iXor a b) from (iZ_of _).symm] at k1
  exact lv_ixor C.1 C.2.1 hd k1
theorem g_ladd {a b : Int} (hd : decode M.2.1 pc = .ok (.ladd, 1)) (k : Go G M R Z y (pc + 1) ls (.long (lZ (a + b)) :: st) h cs) : Go G M R Z y pc ls (.long (lZ b) :: .long (lZ a) :: st) h cs := by
  intro p e s m args below meth c H locs la C hh hS hl
  have k1 := k p e s m args below meth c H locs la C hh hS hl
  rw [← show lZ a + lZ b = lZ (a + b) from lZ_add a b] at k1
  exact lv_ladd C.1 C.2.1 hd k1
theorem g_lsub {a b : Int} (hd : decode M.2.1 pc = .ok (.lsub, 1)) (k : Go G M R Z y (pc + 1) ls (.long (lZ (a - b)) :: st) h cs) : Go G M R Z y pc ls (.long (lZ b) :: .long (lZ a) :: st) h cs := by
  intro p e s m args below meth c H locs la C hh hS hl
  have k1 := k p e s m args below meth c H locs la C hh hS hl
  rw [← show lZ a - lZ b = lZ (a - b) from lZ_sub a b] at k1
  exact lv_lsub C.1 C.2.1 hd k1
theorem g_lmul {a b : Int} (hd : decode M.2.1 pc = .ok (.lmul, 1)) (k : Go G M R Z y (pc + 1) ls (.long (lZ (a * b)) :: st) h cs) : Go G M R Z y pc ls (.long (lZ b) :: .long (lZ a) :: st) h cs := by
  intro p e s m args below meth c H locs la C hh hS hl
  have k1 := k p e s m args below meth c H locs la C hh hS hl
  rw [← show lZ a * lZ b = lZ (a * b) from lZ_mul a b] at k1
  exact lv_lmul C.1 C.2.1 hd k1
theorem g_land {a b : Int} (hd : decode M.2.1 pc = .ok (.land, 1)) (k : Go G M R Z y (pc + 1) ls (.long (lZ (lAnd a b)) :: st) h cs) : Go G M R Z y pc ls (.long (lZ b) :: .long (lZ a) :: st) h cs := by
  intro p e s m args below meth c H locs la C hh hS hl
  have k1 := k p e s m args below meth c H locs la C hh hS hl
  rw [← show lZ a &&& lZ b = lZ (lAnd a b) from (lZ_of _).symm] at k1
  exact lv_land C.1 C.2.1 hd k1
theorem g_lor {a b : Int} (hd : decode M.2.1 pc = .ok (.lor, 1)) (k : Go G M R Z y (pc + 1) ls (.long (lZ (lOr a b)) :: st) h cs) : Go G M R Z y pc ls (.long (lZ b) :: .long (lZ a) :: st) h cs := by
  intro p e s m args below meth c H locs la C hh hS hl
  have k1 := k p e s m args below meth c H locs la C hh hS hl
  rw [← show lZ a ||| lZ b = lZ (lOr a b) from (lZ_of _).symm] at k1
  exact lv_lor C.1 C.2.1 hd k1
theorem g_lxor {a b : Int} (hd : decode M.2.1 pc = .ok (.lxor, 1)) (k : Go G M R Z y (pc + 1) ls (.long (lZ (lXor a b)) :: st) h cs) : Go G M R Z y pc ls (.long (lZ b) :: .long (lZ a) :: st) h cs := by
  intro p e s m args below meth c H locs la C hh hS hl
  have k1 := k p e s m args below meth c H locs la C hh hS hl
  rw [← show lZ a ^^^ lZ b = lZ (lXor a b) from (lZ_of _).symm] at k1
  exact lv_lxor C.1 C.2.1 hd k1
theorem g_idiv {a b : Int} (hd : decode M.2.1 pc = .ok (.idiv, 1)) (ha : R32 a) (hb : R32 b) (hn : ¬ b = 0) (ho : 0 < b) (k : Go G M R Z y (pc + 1) ls (.int (iZ (Int.tdiv a b)) :: st) h cs) : Go G M R Z y pc ls (.int (iZ b) :: .int (iZ a) :: st) h cs := by
  intro p e s m args below meth c H locs la C hh hS hl
  have k1 := k p e s m args below meth c H locs la C hh hS hl
  rw [← show iZ a / iZ b = iZ (Int.tdiv a b) from iZ_div ha hb (by omega)] at k1
  exact lv_idiv C.1 C.2.1 hd (fun q => hn ((iZ_eq (b := 0) hb (by decide)).mp q)) k1
theorem g_idivP {a b : Int} (hd : decode M.2.1 pc = .ok (.idiv, 1)) (ha : 0 ≤ a ∧ R32 a) (hb : 0 < b ∧ R32 b) (k : Go G M R Z y (pc + 1) ls (.int (iZ (a / b)) :: st) h cs) : Go G M R Z y pc ls (.int (iZ b) :: .int (iZ a) :: st) h cs :=
  g_idiv hd ha.2 hb.2 (by omega) hb.1 (by rw [Int.tdiv_eq_ediv_of_nonneg ha.1]; exact k)
theorem g_irem {a b : Int} (hd : decode M.2.1 pc = .ok (.irem, 1)) (ha : R32 a) (hb : R32 b) (hn : ¬ b = 0)  (k : Go G M R Z y (pc + 1) ls (.int (iZ (Int.tmod a b)) :: st) h cs) : Go G M R Z y pc ls (.int (iZ b) :: .int (iZ a) :: st) h cs := by
  intro p e s m args below meth c H locs la C hh hS hl
  have k1 := k p e s m args below meth c H locs la C hh hS hl
  rw [← show iZ a - iZ a / iZ b * iZ b = iZ (Int.tmod a b) from iZ_rem ha hb] at k1
  exact lv_irem C.1 C.2.1 hd (fun q => hn ((iZ_eq (b := 0) hb (by decide)).mp q)) k1
theorem g_iremP {a b : Int} (hd : decode M.2.1 pc = .ok (.irem, 1)) (ha : 0 ≤ a ∧ R32 a) (hb : 0 < b ∧ R32 b) (k : Go G M R Z y (pc + 1) ls (.int (iZ (a % b)) :: st) h cs) : Go G M R Z y pc ls (.int (iZ b) :: .int (iZ a) :: st) h cs :=
  g_irem hd ha.2 hb.2 (by omega) (by rw [Int.tmod_eq_emod_of_nonneg ha.1]; exact k)
theorem g_ldiv {a b : Int} (hd : decode M.2.1 pc = .ok (.ldiv, 1)) (ha : R64 a) (hb : R64 b) (hn : ¬ b = 0) (ho : 0 < b) (k : Go G M R Z y (pc + 1) ls (.long (lZ (Int.tdiv a b)) :: st) h cs) : Go G M R Z y pc ls (.long (lZ b) :: .long (lZ a) :: st) h cs := by
  intro p e s m args below meth c H locs la C hh hS hl
  have k1 := k p e s m args below meth c H locs la C hh hS hl
  rw [← show lZ a / lZ b = lZ (Int.tdiv a b) from lZ_div ha hb (by omega)] at k1
  exact lv_ldiv C.1 C.2.1 hd (fun q => hn ((lZ_eq (b := 0) hb (by decide)).mp q)) k1
theorem g_ldivP {a b : Int} (hd : decode M.2.1 pc = .ok (.ldiv, 1)) (ha : 0 ≤ a ∧ R64 a) (hb : 0 < b ∧ R64 b) (k : Go G M R Z y (pc + 1) ls (.long (lZ (a / b)) :: st) h cs) : Go G M R Z y pc ls (.long (lZ b) :: .long (lZ a) :: st) h cs :=
  g_ldiv hd ha.2 hb.2 (by omega) hb.1 (by rw [Int.tdiv_eq_ediv_of_nonneg ha.1]; exact k)
theorem g_lrem {a b : Int} (hd : decode M.2.1 pc = .ok (.lrem, 1)) (ha : R64 a) (hb : R64 b) (hn : ¬ b = 0)  (k : Go G M R Z y (pc + 1) ls (.long (lZ (Int.tmod a b)) :: st) h cs) : Go G M R Z y pc ls (.long (lZ b) :: .long (lZ a) :: st) h cs := by
  intro p e s m args below meth c H locs la C hh hS hl
  have k1 := k p e s m args below meth c H locs la C hh hS hl
  rw [← show lZ a - lZ a / lZ b * lZ b = lZ (Int.tmod a b) from lZ_rem ha hb] at k1
  exact lv_lrem C.1 C.2.1 hd (fun q => hn ((lZ_eq (b := 0) hb (by decide)).mp q)) k1
theorem g_lremP {a b : Int} (hd : decode M.2.1 pc = .ok (.lrem, 1)) (ha : 0 ≤ a ∧ R64 a) (hb : 0 < b ∧ R64 b) (k : Go G M R Z y (pc + 1) ls (.long (lZ (a % b)) :: st) h cs) : Go G M R Z y pc ls (.long (lZ b) :: .long (lZ a) :: st) h cs :=
  g_lrem hd ha.2 hb.2 (by omega) (by rw [Int.tmod_eq_emod_of_nonneg ha.1]; exact k)
theorem g_ishl {a b : Int} (hd : decode M.2.1 pc = .ok (.ishl, 1)) (k : Go G M R Z y (pc + 1) ls (.int (iZ (iShl a b)) :: st) h cs) : Go G M R Z y pc ls (.int (iZ b) :: .int (iZ a) :: st) h cs := by
  intro p e s m args below meth c H locs la C hh hS hl
  have k1 := k p e s m args below meth c H locs la C hh hS hl
  rw [show iZ (iShl a b) = iZ a <<< (iZ b &&& 31) from iZ_of _] at k1
  exact lv_ishl C.1 C.2.1 hd k1
theorem g_ishr {a b : Int} (hd : decode M.2.1 pc = .ok (.ishr, 1)) (k : Go G M R Z y (pc + 1) ls (.int (iZ (iShr a b)) :: st) h cs) : Go G M R Z y pc ls (.int (iZ b) :: .int (iZ a) :: st) h cs := by
  intro p e s m args below meth c H locs la C hh hS hl
  have k1 := k p e s m args below meth c H locs la C hh hS hl
  rw [show iZ (iShr a b) = iZ a >>> (iZ b &&& 31) from iZ_of _] at k1
  exact lv_ishr C.1 C.2.1 hd k1
theorem g_lshl {a b : Int} (hd : decode M.2.1 pc = .ok (.lshl, 1)) (k : Go G M R Z y (pc + 1) ls (.long (lZ (lShl a b)) :: st) h cs) : Go G M R Z y pc ls (.int (iZ b) :: .long (lZ a) :: st) h cs := by
  intro p e s m args below meth c H locs la C hh hS hl
  have k1 := k p e s m args below meth c H locs la C hh hS hl
  rw [show lZ (lShl a b) = lZ a <<< ((iZ b).toInt64 &&& 63) from lZ_of _] at k1
  exact lv_lshl C.1 C.2.1 hd rfl k1
theorem g_lshr {a b : Int} (hd : decode M.2.1 pc = .ok (.lshr, 1)) (k : Go G M R Z y (pc + 1) ls (.long (lZ (lShr a b)) :: st) h cs) : Go G M R Z y pc ls (.int (iZ b) :: .long (lZ a) :: st) h cs := by
  intro p e s m args below meth c H locs la C hh hS hl
  have k1 := k p e s m args below meth c H locs la C hh hS hl
  rw [show lZ (lShr a b) = lZ a >>> ((iZ b).toInt64 &&& 63) from lZ_of _] at k1
  exact lv_lshr C.1 C.2.1 hd rfl k1
theorem g_lushr {a b : Int} (hd : decode M.2.1 pc = .ok (.lushr, 1)) (k : Go G M R Z y (pc + 1) ls (.long (lZ (lUshr a b)) :: st) h cs) : Go G M R Z y pc ls (.int (iZ b) :: .long (lZ a) :: st) h cs := by
  intro p e s m args below meth c H locs la C hh hS hl
  have k1 := k p e s m args below meth c H locs la C hh hS hl
  rw [show lZ (lUshr a b) = ((lZ a).toUInt64 >>> ((iZ b).toInt64.toUInt64 &&& Int64.toUInt64 63)).toInt64 from lZ_of _] at k1
  exact lv_lushr C.1 C.2.1 hd rfl k1
theorem g_i2l {a : Int} (hd : decode M.2.1 pc = .ok (.i2l, 1)) (ha : R32 a) (k : Go G M R Z y (pc + 1) ls (.long (lZ a) :: st) h cs) : Go G M R Z y pc ls (.int (iZ a) :: st) h cs := by
  intro p e s m args below meth c H locs la C hh hS hl
  have k1 := k p e s m args below meth c H locs la C hh hS hl
  exact lv_i2l C.1 C.2.1 hd (iZ_64 ha) k1
theorem g_l2i {a : Int} (hd : decode M.2.1 pc = .ok (.l2i, 1)) (k : Go G M R Z y (pc + 1) ls (.int (iZ a) :: st) h cs) : Go G M R Z y pc ls (.long (lZ a) :: st) h cs := by
  intro p e s m args below meth c H locs la C hh hS hl
  have k1 := k p e s m args below meth c H locs la C hh hS hl
  exact lv_l2i C.1 C.2.1 hd (lZ_32 a) k1
theorem g_i2b {a : Int} (hd : decode M.2.1 pc = .ok (.i2b, 1)) (k : Go G M R Z y (pc + 1) ls (.int (iZ (i2bZ a)) :: st) h cs) : Go G M R Z y pc ls (.int (iZ a) :: st) h cs := by
  intro p e s m args below meth c H locs la C hh hS hl
  have k1 := k p e s m args below meth c H locs la C hh hS hl
  exact lv_i2b C.1 C.2.1 hd (iZ_of _).symm k1
theorem g_i2s {a : Int} (hd : decode M.2.1 pc = .ok (.i2s, 1)) (k : Go G M R Z y (pc + 1) ls (.int (iZ (i2sZ a)) :: st) h cs) : Go G M R Z y pc ls (.int (iZ a) :: st) h cs := by
  intro p e s m args below meth c H locs la C hh hS hl
  have k1 := k p e s m args below meth c H locs la C hh hS hl
  exact lv_i2s C.1 C.2.1 hd (iZ_of _).symm k1
theorem g_dup {v : Value} (hd : decode M.2.1 pc = .ok (.dup, 1)) (hv : v.category = 1) (k : Go G M R Z y (pc + 1) ls (v :: v :: st) h cs) : Go G M R Z y pc ls (v :: st) h cs := by
  intro p e s m args below meth c H locs la C hh hS hl
  have k1 := k p e s m args below meth c H locs la C hh hS hl
  exact lv_dup C.1 C.2.1 hd ((rv_cat G v).trans hv) k1
theorem g_dup2 {v w : Value} (hd : decode M.2.1 pc = .ok (.dup2, 1)) (hv : v.category = 1) (hw : w.category = 1) (k : Go G M R Z y (pc + 1) ls (v :: w :: v :: w :: st) h cs) : Go G M R Z y pc ls (v :: w :: st) h cs := by
  intro p e s m args below meth c H locs la C hh hS hl
  have k1 := k p e s m args below meth c H locs la C hh hS hl
  exact lv_dup2_11 C.1 C.2.1 hd ((rv_cat G v).trans hv) ((rv_cat G w).trans hw) k1
theorem g_pop {v : Value} (hd : decode M.2.1 pc = .ok (.pop, 1)) (hv : v.category = 1) (k : Go G M R Z y (pc + 1) ls (st) h cs) : Go G M R Z y pc ls (v :: st) h cs := by
  intro p e s m args below meth c H locs la C hh hS hl
  have k1 := k p e s m args below meth c H locs la C hh hS hl
  exact lv_pop C.1 C.2.1 hd ((rv_cat G v).trans hv) k1
theorem g_goto {off : Int} (tgt : Nat) (hd : decode M.2.1 pc = .ok (.goto off, 3)) (ht : (pc : Int) + off = (tgt : Int)) (k : Go G M R Z y tgt ls st h cs) : Go G M R Z y pc ls st h cs := by
  intro p e s m args below meth c H locs la C hh hS hl
  exact lv_goto C.1 C.2.1 hd ht (k p e s m args below meth c H locs la C hh hS hl)
def lget : List (Option Value) → Nat → Option Value
  | [], _ => none
  | x :: _, 0 => x
  | _ :: r, i + 1 => lget r i
theorem lget_at : ∀ {ls : List (Option Value)} {i : Nat} {v : Value}, lget ls i = some v → ls[i]? = some (some v)
  | [], _, _, h => by simp [lget] at h
  | x :: r, 0, v, h => by simp [lget] at h; simp [h]
  | x :: r, i + 1, v, h => by simp [lget] at h; simpa using lget_at h
theorem LH.get {la : Array Slot} {nL i : Nat} {v : Value} (h : LH G la nL ls) (hv : lget ls i = some v) : la[i]? = some (.val (rv G v)) := h.2.2 i v (lget_at hv)
theorem g_iload_n {k0 : Fin 4} {i : Nat} {x : Int32} (hd : decode M.2.1 pc = .ok (.iload_n k0, 1)) (hi : (k0 : Nat) = i) (hv : lget ls i = some (.int x)) (k : Go G M R Z y (pc + 1) ls (.int x :: st) h cs) : Go G M R Z y pc ls st h cs := by
  intro p e s m args below meth c H locs la C hh hS hl
  exact lv_iload_n C.1 C.2.1 hd hi (hl.get hv) (k p e s m args below meth c H locs la C hh hS hl)
theorem g_iload {i : Nat} {x : Int32} (hd : decode M.2.1 pc = .ok (.iload i, 2)) (hv : lget ls i = some (.int x)) (k : Go G M R Z y (pc + 2) ls (.int x :: st) h cs) : Go G M R Z y pc ls st h cs := by
  intro p e s m args below meth c H locs la C hh hS hl
  exact lv_iload C.1 C.2.1 hd (hl.get hv) (k p e s m args below meth c H locs la C hh hS hl)
theorem g_lload_n {k0 : Fin 4} {i : Nat} {x : Int64} (hd : decode M.2.1 pc = .ok (.lload_n k0, 1)) (hi : (k0 : Nat) = i) (hv : lget ls i = some (.long x)) (k : Go G M R Z y (pc + 1) ls (.long x :: st) h cs) : Go G M R Z y pc ls st h cs := by
  intro p e s m args below meth c H locs la C hh hS hl
  exact lv_lload_n C.1 C.2.1 hd hi (hl.get hv) (k p e s m args below meth c H locs la C hh hS hl)
theorem g_lload {i : Nat} {x : Int64} (hd : decode M.2.1 pc = .ok (.lload i, 2)) (hv : lget ls i = some (.long x)) (k : Go G M R Z y (pc + 2) ls (.long x :: st) h cs) : Go G M R Z y pc ls st h cs := by
  intro p e s m args below meth c H locs la C hh hS hl
  exact lv_lload C.1 C.2.1 hd (hl.get hv) (k p e s m args below meth c H locs la C hh hS hl)
theorem g_aload_n {k0 : Fin 4} {i : Nat} {x : Nat} (hd : decode M.2.1 pc = .ok (.aload_n k0, 1)) (hi : (k0 : Nat) = i) (hv : lget ls i = some (.ref x)) (k : Go G M R Z y (pc + 1) ls (.ref x :: st) h cs) : Go G M R Z y pc ls st h cs := by
  intro p e s m args below meth c H locs la C hh hS hl
  exact lv_aload_n C.1 C.2.1 hd hi (hl.get hv) (k p e s m args below meth c H locs la C hh hS hl)
theorem g_aload {i : Nat} {x : Nat} (hd : decode M.2.1 pc = .ok (.aload i, 2)) (hv : lget ls i = some (.ref x)) (k : Go G M R Z y (pc + 2) ls (.ref x :: st) h cs) : Go G M R Z y pc ls st h cs := by
  intro p e s m args below meth c H locs la C hh hS hl
  exact lv_aload C.1 C.2.1 hd (hl.get hv) (k p e s m args below meth c H locs la C hh hS hl)
theorem prevOk {i : Nat} (hp : nlg (lget ls (i - 1)) = true) : ∀ w, ls[i - 1]? = some (some w) → 0 < i → w.category = 1 := by
  intro w hw _
  have : ∀ (l : List (Option Value)) (j : Nat), l[j]? = some (some w) → lget l j = some w := by
    intro l
    induction l with
    | nil => intro j h; simp at h
    | cons a l ih =>
      intro j h
      cases j with
      | zero => simp at h; simp [lget, h]
      | succ j => simp at h; simpa [lget] using ih j h
  rw [this ls (i - 1) hw] at hp
  simpa [nlg] using hp
theorem gs_istore_n {k0 : Fin 4} {i : Nat} {x : Int32} (hd : decode M.2.1 pc = .ok (.istore_n k0, 1)) (hi : (k0 : Nat) = i) (hb : i < M.2.2.1) (hp : nlg (lget ls (i - 1)) = true) (k : Go G M R Z y (pc + 1) (lset ls i (.int x)) st h cs) : Go G M R Z y pc ls (.int x :: st) h cs := by
  intro p e s m args below meth c H locs la C hh hS hl
  exact lv_istore_n C.1 C.2.1 hd hi hl.has hb rfl (fun la' hl' => k p e s m args below meth c H locs la' C hh hS (LH.set1 (v := .int x) (prevOk hp) hl'))
theorem gs_istore {i : Nat} {x : Int32} (hd : decode M.2.1 pc = .ok (.istore i, 2)) (hb : i < M.2.2.1) (hp : nlg (lget ls (i - 1)) = true) (k : Go G M R Z y (pc + 2) (lset ls i (.int x)) st h cs) : Go G M R Z y pc ls (.int x :: st) h cs := by
  intro p e s m args below meth c H locs la C hh hS hl
  exact lv_istore C.1 C.2.1 hd hl.has hb rfl (fun la' hl' => k p e s m args below meth c H locs la' C hh hS (LH.set1 (v := .int x) (prevOk hp) hl'))
theorem gs_lstore_n {k0 : Fin 4} {i : Nat} {x : Int64} (hd : decode M.2.1 pc = .ok (.lstore_n k0, 1)) (hi : (k0 : Nat) = i) (hb : i + 1 < M.2.2.1) (hp : nlg (lget ls (i - 1)) = true) (k : Go G M R Z y (pc + 1) (lse2 ls i (.long x)) st h cs) : Go G M R Z y pc ls (.long x :: st) h cs := by
  intro p e s m args below meth c H locs la C hh hS hl
  exact lv_lstore_n C.1 C.2.1 hd hi hl.has hb rfl (fun la' hl' => k p e s m args below meth c H locs la' C hh hS (LH.set2 (v := .long x) (prevOk hp) hl'))
theorem gs_lstore {i : Nat} {x : Int64} (hd : decode M.2.1 pc = .ok (.lstore i, 2)) (hb : i + 1 < M.2.2.1) (hp : nlg (lget ls (i - 1)) = true) (k : Go G M R Z y (pc + 2) (lse2 ls i (.long x)) st h cs) : Go G M R Z y pc ls (.long x :: st) h cs := by
  intro p e s m args below meth c H locs la C hh hS hl
  exact lv_lstore C.1 C.2.1 hd hl.has hb rfl (fun la' hl' => k p e s m args below meth c H locs la' C hh hS (LH.set2 (v := .long x) (prevOk hp) hl'))
theorem gs_astore_n {k0 : Fin 4} {i : Nat} {x : Nat} (hd : decode M.2.1 pc = .ok (.astore_n k0, 1)) (hi : (k0 : Nat) = i) (hb : i < M.2.2.1) (hp : nlg (lget ls (i - 1)) = true) (k : Go G M R Z y (pc + 1) (lset ls i (.ref x)) st h cs) : Go G M R Z y pc ls (.ref x :: st) h cs := by
  intro p e s m args below meth c H locs la C hh hS hl
  exact lv_astore_n C.1 C.2.1 hd hi hl.has hb rfl (fun la' hl' => k p e s m args below meth c H locs la' C hh hS (LH.set1 (v := .ref x) (prevOk hp) hl'))
theorem gs_astore {i : Nat} {x : Nat} (hd : decode M.2.1 pc = .ok (.astore i, 2)) (hb : i < M.2.2.1) (hp : nlg (lget ls (i - 1)) = true) (k : Go G M R Z y (pc + 2) (lset ls i (.ref x)) st h cs) : Go G M R Z y pc ls (.ref x :: st) h cs := by
  intro p e s m args below meth c H locs la C hh hS hl
  exact lv_astore C.1 C.2.1 hd hl.has hb rfl (fun la' hl' => k p e s m args below meth c H locs la' C hh hS (LH.set1 (v := .ref x) (prevOk hp) hl'))
theorem gs_iinc {i : Nat} {n a : Int} (hd : decode M.2.1 pc = .ok (.iinc i n, 3)) (hv0 : lget ls i = some (.int (iZ a))) (hb : i < M.2.2.1) (hp : nlg (lget ls (i - 1)) = true) (k : Go G M R Z y (pc + 3) (lset ls i (.int (iZ (a + n)))) st h cs) : Go G M R Z y pc ls st h cs := by
  intro p e s m args below meth c H locs la C hh hS hl
  obtain ⟨j, hj⟩ := List.getElem?_of_mem (mem_toL (G := G) (q := (i, .int (iZ a))) |>.mpr ⟨.int (iZ a), lget_at hv0, rfl⟩)
  exact lv_iinc C.1 C.2.1 hd hl.has hj (iZ_add a n) hb rfl (fun la' hl' => k p e s m args below meth c H locs la' C hh hS (LH.set1 (v := .int (iZ (a + n))) (prevOk hp) hl'))
theorem g_ist0 {x0 : Option Value} {r : List (Option Value)} {v : Int32} (hd : decode M.2.1 pc = .ok (.istore_n 0, 1)) (hb : 0 < M.2.2.1) (hp : nlg x0 = true) (k : Go G M R Z y (pc + 1) (some (.int v) :: r) st h cs) : Go G M R Z y pc (x0 :: r) (.int v :: st) h cs := gs_istore_n hd rfl hb hp k
theorem g_ast0 {x0 : Option Value} {r : List (Option Value)} {v : Nat} (hd : decode M.2.1 pc = .ok (.astore_n 0, 1)) (hb : 0 < M.2.2.1) (hp : nlg x0 = true) (k : Go G M R Z y (pc + 1) (some (.ref v) :: r) st h cs) : Go G M R Z y pc (x0 :: r) (.ref v :: st) h cs := gs_astore_n hd rfl hb hp k
theorem g_lst0 {x0 x1 : Option Value} {r : List (Option Value)} {v : Int64} (hd : decode M.2.1 pc = .ok (.lstore_n 0, 1)) (hb : 0 + 1 < M.2.2.1) (hp : nlg x0 = true) (k : Go G M R Z y (pc + 1) (some (.long v) :: none :: r) st h cs) : Go G M R Z y pc (x0 :: x1 :: r) (.long v :: st) h cs := gs_lstore_n hd rfl hb hp k
theorem g_inc0 {r : List (Option Value)} {n a : Int} (hd : decode M.2.1 pc = .ok (.iinc 0 n, 3)) (hb : 0 < M.2.2.1) (k : Go G M R Z y (pc + 3) (some (.int (iZ (a + n))) :: r) st h cs) : Go G M R Z y pc (some (.int (iZ a)) :: r) st h cs := gs_iinc hd rfl hb (by rfl) k
theorem g_ist1 {x0 x1 : Option Value} {r : List (Option Value)} {v : Int32} (hd : decode M.2.1 pc = .ok (.istore_n 1, 1)) (hb : 1 < M.2.2.1) (hp : nlg x0 = true) (k : Go G M R Z y (pc + 1) (x0 :: some (.int v) :: r) st h cs) : Go G M R Z y pc (x0 :: x1 :: r) (.int v :: st) h cs := gs_istore_n hd rfl hb hp k
theorem g_ast1 {x0 x1 : Option Value} {r : List (Option Value)} {v : Nat} (hd : decode M.2.1 pc = .ok (.astore_n 1, 1)) (hb : 1 < M.2.2.1) (hp : nlg x0 = true) (k : Go G M R Z y (pc + 1) (x0 :: some (.ref v) :: r) st h cs) : Go G M R Z y pc (x0 :: x1 :: r) (.ref v :: st) h cs := gs_astore_n hd rfl hb hp k
theorem g_lst1 {x0 x1 x2 : Option Value} {r : List (Option Value)} {v : Int64} (hd : decode M.2.1 pc = .ok (.lstore_n 1, 1)) (hb : 1 + 1 < M.2.2.1) (hp : nlg x0 = true) (k : Go G M R Z y (pc + 1) (x0 :: some (.long v) :: none :: r) st h cs) : Go G M R Z y pc (x0 :: x1 :: x2 :: r) (.long v :: st) h cs := gs_lstore_n hd rfl hb hp k
theorem g_inc1 {x0 : Option Value} {r : List (Option Value)} {n a : Int} (hd : decode M.2.1 pc = .ok (.iinc 1 n, 3)) (hb : 1 < M.2.2.1) (hp : nlg x0 = true) (k : Go G M R Z y (pc + 3) (x0 :: some (.int (iZ (a + n))) :: r) st h cs) : Go G M R Z y pc (x0 :: some (.int (iZ a)) :: r) st h cs := gs_iinc hd rfl hb hp k
theorem g_ist2 {x0 x1 x2 : Option Value} {r : List (Option Value)} {v : Int32} (hd : decode M.2.1 pc = .ok (.istore_n 2, 1)) (hb : 2 < M.2.2.1) (hp : nlg x1 = true) (k : Go G M R Z y (pc + 1) (x0 :: x1 :: some (.int v) :: r) st h cs) : Go G M R Z y pc (x0 :: x1 :: x2 :: r) (.int v :: st) h cs := gs_istore_n hd rfl hb hp k
theorem g_ast2 {x0 x1 x2 : Option Value} {r : List (Option Value)} {v : Nat} (hd : decode M.2.1 pc = .ok (.astore_n 2, 1)) (hb : 2 < M.2.2.1) (hp : nlg x1 = true) (k : Go G M R Z y (pc + 1) (x0 :: x1 :: some (.ref v) :: r) st h cs) : Go G M R Z y pc (x0 :: x1 :: x2 :: r) (.ref v :: st) h cs := gs_astore_n hd rfl hb hp k
theorem g_lst2 {x0 x1 x2 x3 : Option Value} {r : List (Option Value)} {v : Int64} (hd : decode M.2.1 pc = .ok (.lstore_n 2, 1)) (hb : 2 + 1 < M.2.2.1) (hp : nlg x1 = true) (k : Go G M R Z y (pc + 1) (x0 :: x1 :: some (.long v) :: none :: r) st h cs) : Go G M R Z y pc (x0 :: x1 :: x2 :: x3 :: r) (.long v :: st) h cs := gs_lstore_n hd rfl hb hp k
theorem g_inc2 {x0 x1 : Option Value} {r : List (Option Value)} {n a : Int} (hd : decode M.2.1 pc = .ok (.iinc 2 n, 3)) (hb : 2 < M.2.2.1) (hp : nlg x1 = true) (k : Go G M R Z y (pc + 3) (x0 :: x1 :: some (.int (iZ (a + n))) :: r) st h cs) : Go G M R Z y pc (x0 :: x1 :: some (.int (iZ a)) :: r) st h cs := gs_iinc hd rfl hb hp k
theorem g_ist3 {x0 x1 x2 x3 : Option Value} {r : List (Option Value)} {v : Int32} (hd : decode M.2.1 pc = .ok (.istore_n 3, 1)) (hb : 3 < M.2.2.1) (hp : nlg x2 = true) (k : Go G M R Z y (pc + 1) (x0 :: x1 :: x2 :: some (.int v) :: r) st h cs) : Go G M R Z y pc (x0 :: x1 :: x2 :: x3 :: r) (.int v :: st) h cs := gs_istore_n hd rfl hb hp k
theorem g_ast3 {x0 x1 x2 x3 : Option Value} {r : List (Option Value)} {v : Nat} (hd : decode M.2.1 pc = .ok (.astore_n 3, 1)) (hb : 3 < M.2.2.1) (hp : nlg x2 = true) (k : Go G M R Z y (pc + 1) (x0 :: x1 :: x2 :: some (.ref v) :: r) st h cs) : Go G M R Z y pc (x0 :: x1 :: x2 :: x3 :: r) (.ref v :: st) h cs := gs_astore_n hd rfl hb hp k
theorem g_lst3 {x0 x1 x2 x3 x4 : Option Value} {r : List (Option Value)} {v : Int64} (hd : decode M.2.1 pc = .ok (.lstore_n 3, 1)) (hb : 3 + 1 < M.2.2.1) (hp : nlg x2 = true) (k : Go G M R Z y (pc + 1) (x0 :: x1 :: x2 :: some (.long v) :: none :: r) st h cs) : Go G M R Z y pc (x0 :: x1 :: x2 :: x3 :: x4 :: r) (.long v :: st) h cs := gs_lstore_n hd rfl hb hp k
theorem g_inc3 {x0 x1 x2 : Option Value} {r : List (Option Value)} {n a : Int} (hd : decode M.2.1 pc = .ok (.iinc 3 n, 3)) (hb : 3 < M.2.2.1) (hp : nlg x2 = true) (k : Go G M R Z y (pc + 3) (x0 :: x1 :: x2 :: some (.int (iZ (a + n))) :: r) st h cs) : Go G M R Z y pc (x0 :: x1 :: x2 :: some (.int (iZ a)) :: r) st h cs := gs_iinc hd rfl hb hp k
theorem g_ist4 {x0 x1 x2 x3 x4 : Option Value} {r : List (Option Value)} {v : Int32} (hd : decode M.2.1 pc = .ok (.istore 4, 2)) (hb : 4 < M.2.2.1) (hp : nlg x3 = true) (k : Go G M R Z y (pc + 2) (x0 :: x1 :: x2 :: x3 :: some (.int v) :: r) st h cs) : Go G M R Z y pc (x0 :: x1 :: x2 :: x3 :: x4 :: r) (.int v :: st) h cs := gs_istore hd hb hp k
theorem g_ast4 {x0 x1 x2 x3 x4 : Option Value} {r : List (Option Value)} {v : Nat} (hd : decode M.2.1 pc = .ok (.astore 4, 2)) (hb : 4 < M.2.2.1) (hp : nlg x3 = true) (k : Go G M R Z y (pc + 2) (x0 :: x1 :: x2 :: x3 :: some (.ref v) :: r) st h cs) : Go G M R Z y pc (x0 :: x1 :: x2 :: x3 :: x4 :: r) (.ref v :: st) h cs := gs_astore hd hb hp k
theorem g_lst4 {x0 x1 x2 x3 x4 x5 : Option Value} {r : List (Option Value)} {v : Int64} (hd : decode M.2.1 pc = .ok (.lstore 4, 2)) (hb : 4 + 1 < M.2.2.1) (hp : nlg x3 = true) (k : Go G M R Z y (pc + 2) (x0 :: x1 :: x2 :: x3 :: some (.long v) :: none :: r) st h cs) : Go G M R Z y pc (x0 :: x1 :: x2 :: x3 :: x4 :: x5 :: r) (.long v :: st) h cs := gs_lstore hd hb hp k
theorem g_inc4 {x0 x1 x2 x3 : Option Value} {r : List (Option Value)} {n a : Int} (hd : decode M.2.1 pc = .ok (.iinc 4 n, 3)) (hb : 4 < M.2.2.1) (hp : nlg x3 = true) (k : Go G M R Z y (pc + 3) (x0 :: x1 :: x2 :: x3 :: some (.int (iZ (a + n))) :: r) st h cs) : Go G M R Z y pc (x0 :: x1 :: x2 :: x3 :: some (.int (iZ a)) :: r) st h cs := gs_iinc hd rfl hb hp k
theorem g_ist5 {x0 x1 x2 x3 x4 x5 : Option Value} {r : List (Option Value)} {v : Int32} (hd : decode M.2.1 pc = .ok (.istore 5, 2)) (hb : 5 < M.2.2.1) (hp : nlg x4 = true) (k : Go G M R Z y (pc + 2) (x0 :: x1 :: x2 :: x3 :: x4 :: some (.int v) :: r) st h cs) : Go G M R Z y pc (x0 :: x1 :: x2 :: x3 :: x4 :: x5 :: r) (.int v :: st) h cs := gs_istore hd hb hp k
theorem g_ast5 {x0 x1 x2 x3 x4 x5 : Option Value} {r : List (Option Value)} {v : Nat} (hd : decode M.2.1 pc = .ok (.astore 5, 2)) (hb : 5 < M.2.2.1) (hp : nlg x4 = true) (k : Go G M R Z y (pc + 2) (x0 :: x1 :: x2 :: x3 :: x4 :: some (.ref v) :: r) st h cs) : Go G M R Z y pc (x0 :: x1 :: x2 :: x3 :: x4 :: x5 :: r) (.ref v :: st) h cs := gs_astore hd hb hp k
theorem g_lst5 {x0 x1 x2 x3 x4 x5 x6 : Option Value} {r : List (Option Value)} {v : Int64} (hd : decode M.2.1 pc = .ok (.lstore 5, 2)) (hb : 5 + 1 < M.2.2.1) (hp : nlg x4 = true) (k : Go G M R Z y (pc + 2) (x0 :: x1 :: x2 :: x3 :: x4 :: some (.long v) :: none :: r) st h cs) : Go G M R Z y pc (x0 :: x1 :: x2 :: x3 :: x4 :: x5 :: x6 :: r) (.long v :: st) h cs := gs_lstore hd hb hp k
theorem g_inc5 {x0 x1 x2 x3 x4 : Option Value} {r : List (Option Value)} {n a : Int} (hd : decode M.2.1 pc = .ok (.iinc 5 n, 3)) (hb : 5 < M.2.2.1) (hp : nlg x4 = true) (k : Go G M R Z y (pc + 3) (x0 :: x1 :: x2 :: x3 :: x4 :: some (.int (iZ (a + n))) :: r) st h cs) : Go G M R Z y pc (x0 :: x1 :: x2 :: x3 :: x4 :: some (.int (iZ a)) :: r) st h cs := gs_iinc hd rfl hb hp k
theorem g_ist6 {x0 x1 x2 x3 x4 x5 x6 : Option Value} {r : List (Option Value)} {v : Int32} (hd : decode M.2.1 pc = .ok (.istore 6, 2)) (hb : 6 < M.2.2.1) (hp : nlg x5 = true) (k : Go G M R Z y (pc + 2) (x0 :: x1 :: x2 :: x3 :: x4 :: x5 :: some (.int v) :: r) st h cs) : Go G M R Z y pc (x0 :: x1 :: x2 :: x3 :: x4 :: x5 :: x6 :: r) (.int v :: st) h cs := gs_istore hd hb hp k
theorem g_ast6 {x0 x1 x2 x3 x4 x5 x6 : Option Value} {r : List (Option Value)} {v : Nat} (hd : decode M.2.1 pc = .ok (.astore 6, 2)) (hb : 6 < M.2.2.1) (hp : nlg x5 = true) (k : Go G M R Z y (pc + 2) (x0 :: x1 :: x2 :: x3 :: x4 :: x5 :: some (.ref v) :: r) st h cs) : Go G M R Z y pc (x0 :: x1 :: x2 :: x3 :: x4 :: x5 :: x6 :: r) (.ref v :: st) h cs := gs_astore hd hb hp k
theorem g_lst6 {x0 x1 x2 x3 x4 x5 x6 x7 : Option Value} {r : List (Option Value)} {v : Int64} (hd : decode M.2.1 pc = .ok (.lstore 6, 2)) (hb : 6 + 1 < M.2.2.1) (hp : nlg x5 = true) (k : Go G M R Z y (pc + 2) (x0 :: x1 :: x2 :: x3 :: x4 :: x5 :: some (.long v) :: none :: r) st h cs) : Go G M R Z y pc (x0 :: x1 :: x2 :: x3 :: x4 :: x5 :: x6 :: x7 :: r) (.long v :: st) h cs := gs_lstore hd hb hp k
theorem g_inc6 {x0 x1 x2 x3 x4 x5 : Option Value} {r : List (Option Value)} {n a : Int} (hd : decode M.2.1 pc = .ok (.iinc 6 n, 3)) (hb : 6 < M.2.2.1) (hp : nlg x5 = true) (k : Go G M R Z y (pc + 3) (x0 :: x1 :: x2 :: x3 :: x4 :: x5 :: some (.int (iZ (a + n))) :: r) st h cs) : Go G M R Z y pc (x0 :: x1 :: x2 :: x3 :: x4 :: x5 :: some (.int (iZ a)) :: r) st h cs := gs_iinc hd rfl hb hp k
theorem g_ist7 {x0 x1 x2 x3 x4 x5 x6 x7 : Option Value} {r : List (Option Value)} {v : Int32} (hd : decode M.2.1 pc = .ok (.istore 7, 2)) (hb : 7 < M.2.2.1) (hp : nlg x6 = true) (k : Go G M R Z y (pc + 2) (x0 :: x1 :: x2 :: x3 :: x4 :: x5 :: x6 :: some (.int v) :: r) st h cs) : Go G M R Z y pc (x0 :: x1 :: x2 :: x3 :: x4 :: x5 :: x6 :: x7 :: r) (.int v :: st) h cs := gs_istore hd hb hp k
theorem g_ast7 {x0 x1 x2 x3 x4 x5 x6 x7 : Option Value} {r : List (Option Value)} {v : Nat} (hd : decode M.2.1 pc = .ok (.astore 7, 2)) (hb : 7 < M.2.2.1) (hp : nlg x6 = true) (k : Go G M R Z y (pc + 2) (x0 :: x1 :: x2 :: x3 :: x4 :: x5 :: x6 :: some (.ref v) :: r) st h cs) : Go G M R Z y pc (x0 :: x1 :: x2 :: x3 :: x4 :: x5 :: x6 :: x7 :: r) (.ref v :: st) h cs := gs_astore hd hb hp k
theorem g_lst7 {x0 x1 x2 x3 x4 x5 x6 x7 x8 : Option Value} {r : List (Option Value)} {v : Int64} (hd : decode M.2.1 pc = .ok (.lstore 7, 2)) (hb : 7 + 1 < M.2.2.1) (hp : nlg x6 = true) (k : Go G M R Z y (pc + 2) (x0 :: x1 :: x2 :: x3 :: x4 :: x5 :: x6 :: some (.long v) :: none :: r) st h cs) : Go G M R Z y pc (x0 :: x1 :: x2 :: x3 :: x4 :: x5 :: x6 :: x7 :: x8 :: r) (.long v :: st) h cs := gs_lstore hd hb hp k
theorem g_inc7 {x0 x1 x2 x3 x4 x5 x6 : Option Value} {r : List (Option Value)} {n a : Int} (hd : decode M.2.1 pc = .ok (.iinc 7 n, 3)) (hb : 7 < M.2.2.1) (hp : nlg x6 = true) (k : Go G M R Z y (pc + 3) (x0 :: x1 :: x2 :: x3 :: x4 :: x5 :: x6 :: some (.int (iZ (a + n))) :: r) st h cs) : Go G M R Z y pc (x0 :: x1 :: x2 :: x3 :: x4 :: x5 :: x6 :: some (.int (iZ a)) :: r) st h cs := gs_iinc hd rfl hb hp k
theorem g_ist8 {x0 x1 x2 x3 x4 x5 x6 x7 x8 : Option Value} {r : List (Option Value)} {v : Int32} (hd : decode M.2.1 pc = .ok (.istore 8, 2)) (hb : 8 < M.2.2.1) (hp : nlg x7 = true) (k : Go G M R Z y (pc + 2) (x0 :: x1 :: x2 :: x3 :: x4 :: x5 :: x6 :: x7 :: some (.int v) :: r) st h cs) : Go G M R Z y pc (x0 :: x1 :: x2 :: x3 :: x4 :: x5 :: x6 :: x7 :: x8 :: r) (.int v :: st) h cs := gs_istore hd hb hp k
theorem g_ast8 {x0 x1 x2 x3 x4 x5 x6 x7 x8 : Option Value} {r : List (Option Value)} {v : Nat} (hd : decode M.2.1 pc = .ok (.astore 8, 2)) (hb : 8 < M.2.2.1) (hp : nlg x7 = true) (k : Go G M R Z y (pc + 2) (x0 :: x1 :: x2 :: x3 :: x4 :: x5 :: x6 :: x7 :: some (.ref v) :: r) st h cs) : Go G M R Z y pc (x0 :: x1 :: x2 :: x3 :: x4 :: x5 :: x6 :: x7 :: x8 :: r) (.ref v :: st) h cs := gs_astore hd hb hp k
theorem g_lst8 {x0 x1 x2 x3 x4 x5 x6 x7 x8 x9 : Option Value} {r : List (Option Value)} {v : Int64} (hd : decode M.2.1 pc = .ok (.lstore 8, 2)) (hb : 8 + 1 < M.2.2.1) (hp : nlg x7 = true) (k : Go G M R Z y (pc + 2) (x0 :: x1 :: x2 :: x3 :: x4 :: x5 :: x6 :: x7 :: some (.long v) :: none :: r) st h cs) : Go G M R Z y pc (x0 :: x1 :: x2 :: x3 :: x4 :: x5 :: x6 :: x7 :: x8 :: x9 :: r) (.long v :: st) h cs := gs_lstore hd hb hp k
theorem g_inc8 {x0 x1 x2 x3 x4 x5 x6 x7 : Option Value} {r : List (Option Value)} {n a : Int} (hd : decode M.2.1 pc = .ok (.iinc 8 n, 3)) (hb : 8 < M.2.2.1) (hp : nlg x7 = true) (k : Go G M R Z y (pc + 3) (x0 :: x1 :: x2 :: x3 :: x4 :: x5 :: x6 :: x7 :: some (.int (iZ (a + n))) :: r) st h cs) : Go G M R Z y pc (x0 :: x1 :: x2 :: x3 :: x4 :: x5 :: x6 :: x7 :: some (.int (iZ a)) :: r) st h cs := gs_iinc hd rfl hb hp k
theorem g_ist9 {x0 x1 x2 x3 x4 x5 x6 x7 x8 x9 : Option Value} {r : List (Option Value)} {v : Int32} (hd : decode M.2.1 pc = .ok (.istore 9, 2)) (hb : 9 < M.2.2.1) (hp : nlg x8 = true) (k : Go G M R Z y (pc + 2) (x0 :: x1 :: x2 :: x3 :: x4 :: x5 :: x6 :: x7 :: x8 :: some (.int v) :: r) st h cs) : Go G M R Z y pc (x0 :: x1 :: x2 :: x3 :: x4 :: x5 :: x6 :: x7 :: x8 :: x9 :: r) (.int v :: st) h cs := gs_istore hd hb hp k
theorem g_ast9 {x0 x1 x2 x3 x4 x5 x6 x7 x8 x9 : Option Value} {r : List (Option Value)} {v : Nat} (hd : decode M.2.1 pc = .ok (.astore 9, 2)) (hb : 9 < M.2.2.1) (hp : nlg x8 = true) (k : Go G M R Z y (pc + 2) (x0 :: x1 :: x2 :: x3 :: x4 :: x5 :: x6 :: x7 :: x8 :: some (.ref v) :: r) st h cs) : Go G M R Z y pc (x0 :: x1 :: x2 :: x3 :: x4 :: x5 :: x6 :: x7 :: x8 :: x9 :: r) (.ref v :: st) h cs := gs_astore hd hb hp k
theorem g_lst9 {x0 x1 x2 x3 x4 x5 x6 x7 x8 x9 x10 : Option Value} {r : List (Option Value)} {v : Int64} (hd : decode M.2.1 pc = .ok (.lstore 9, 2)) (hb : 9 + 1 < M.2.2.1) (hp : nlg x8 = true) (k : Go G M R Z y (pc + 2) (x0 :: x1 :: x2 :: x3 :: x4 :: x5 :: x6 :: x7 :: x8 :: some (.long v) :: none :: r) st h cs) : Go G M R Z y pc (x0 :: x1 :: x2 :: x3 :: x4 :: x5 :: x6 :: x7 :: x8 :: x9 :: x10 :: r) (.long v :: st) h cs := gs_lstore hd hb hp k
theorem g_inc9 {x0 x1 x2 x3 x4 x5 x6 x7 x8 : Option Value} {r : List (Option Value)} {n a : Int} (hd : decode M.2.1 pc = .ok (.iinc 9 n, 3)) (hb : 9 < M.2.2.1) (hp : nlg x8 = true) (k : Go G M R Z y (pc + 3) (x0 :: x1 :: x2 :: x3 :: x4 :: x5 :: x6 :: x7 :: x8 :: some (.int (iZ (a + n))) :: r) st h cs) : Go G M R Z y pc (x0 :: x1 :: x2 :: x3 :: x4 :: x5 :: x6 :: x7 :: x8 :: some (.int (iZ a)) :: r) st h cs := gs_iinc hd rfl hb hp k
theorem g_ist10 {x0 x1 x2 x3 x4 x5 x6 x7 x8 x9 x10 : Option Value} {r : List (Option Value)} {v : Int32} (hd : decode M.2.1 pc = .ok (.istore 10, 2)) (hb : 10 < M.2.2.1) (hp : nlg x9 = true) (k : Go G M R Z y (pc + 2) (x0 :: x1 :: x2 :: x3 :: x4 :: x5 :: x6 :: x7 :: x8 :: x9 :: some (.int v) :: r) st h cs) : Go G M R Z y pc (x0 :: x1 :: x2 :: x3 :: x4 :: x5 :: x6 :: x7 :: x8 :: x9 :: x10 :: r) (.int v :: st) h cs := gs_istore hd hb hp k
theorem g_ast10 {x0 x1 x2 x3 x4 x5 x6 x7 x8 x9 x10 : Option Value} {r : List (Option Value)} {v : Nat} (hd : decode M.2.1 pc = .ok (.astore 10, 2)) (hb : 10 < M.2.2.1) (hp : nlg x9 = true) (k : Go G M R Z y (pc + 2) (x0 :: x1 :: x2 :: x3 :: x4 :: x5 :: x6 :: x7 :: x8 :: x9 :: some (.ref v) :: r) st h cs) : Go G M R Z y pc (x0 :: x1 :: x2 :: x3 :: x4 :: x5 :: x6 :: x7 :: x8 :: x9 :: x10 :: r) (.ref v :: st) h cs := gs_astore hd hb hp k
theorem g_lst10 {x0 x1 x2 x3 x4 x5 x6 x7 x8 x9 x10 x11 : Option Value} {r : List (Option Value)} {v : Int64} (hd : decode M.2.1 pc = .ok (.lstore 10, 2)) (hb : 10 + 1 < M.2.2.1) (hp : nlg x9 = true) (k : Go G M R Z y (pc + 2) (x0 :: x1 :: x2 :: x3 :: x4 :: x5 :: x6 :: x7 :: x8 :: x9 :: some (.long v) :: none :: r) st h cs) : Go G M R Z y pc (x0 :: x1 :: x2 :: x3 :: x4 :: x5 :: x6 :: x7 :: x8 :: x9 :: x10 :: x11 :: r) (.long v :: st) h cs := gs_lstore hd hb hp k
theorem g_inc10 {x0 x1 x2 x3 x4 x5 x6 x7 x8 x9 : Option Value} {r : List (Option Value)} {n a : Int} (hd : decode M.2.1 pc = .ok (.iinc 10 n, 3)) (hb : 10 < M.2.2.1) (hp : nlg x9 = true) (k : Go G M R Z y (pc + 3) (x0 :: x1 :: x2 :: x3 :: x4 :: x5 :: x6 :: x7 :: x8 :: x9 :: some (.int (iZ (a + n))) :: r) st h cs) : Go G M R Z y pc (x0 :: x1 :: x2 :: x3 :: x4 :: x5 :: x6 :: x7 :: x8 :: x9 :: some (.int (iZ a)) :: r) st h cs := gs_iinc hd rfl hb hp k
theorem g_ist11 {x0 x1 x2 x3 x4 x5 x6 x7 x8 x9 x10 x11 : Option Value} {r : List (Option Value)} {v : Int32} (hd : decode M.2.1 pc = .ok (.istore 11, 2)) (hb : 11 < M.2.2.1) (hp : nlg x10 = true) (k : Go G M R Z y (pc + 2) (x0 :: x1 :: x2 :: x3 :: x4 :: x5 :: x6 :: x7 :: x8 :: x9 :: x10 :: some (.int v) :: r) st h cs) : Go G M R Z y pc (x0 :: x1 :: x2 :: x3 :: x4 :: x5 :: x6 :: x7 :: x8 :: x9 :: x10 :: x11 :: r) (.int v :: st) h cs := gs_istore hd hb hp k
theorem g_ast11 {x0 x1 x2 x3 x4 x5 x6 x7 x8 x9 x10 x11 : Option Value} {r : List (Option Value)} {v : Nat} (hd : decode M.2.1 pc = .ok (.astore 11, 2)) (hb : 11 < M.2.2.1) (hp : nlg x10 = true) (k : Go G M R Z y (pc + 2) (x0 :: x1 :: x2 :: x3 :: x4 :: x5 :: x6 :: x7 :: x8 :: x9 :: x10 :: some (.ref v) :: r) st h cs) : Go G M R Z y pc (x0 :: x1 :: x2 :: x3 :: x4 :: x5 :: x6 :: x7 :: x8 :: x9 :: x10 :: x11 :: r) (.ref v :: st) h cs := gs_astore hd hb hp k
theorem g_lst11 {x0 x1 x2 x3 x4 x5 x6 x7 x8 x9 x10 x11 x12 : Option Value} {r : List (Option Value)} {v : Int64} (hd : decode M.2.1 pc = .ok (.lstore 11, 2)) (hb : 11 + 1 < M.2.2.1) (hp : nlg x10 = true) (k : Go G M R Z y (pc + 2) (x0 :: x1 :: x2 :: x3 :: x4 :: x5 :: x6 :: x7 :: x8 :: x9 :: x10 :: some (.long v) :: none :: r) st h cs) : Go G M R Z y pc (x0 :: x1 :: x2 :: x3 :: x4 :: x5 :: x6 :: x7 :: x8 :: x9 :: x10 :: x11 :: x12 :: r) (.long v :: st) h cs := gs_lstore hd hb hp k
theorem g_inc11 {x0 x1 x2 x3 x4 x5 x6 x7 x8 x9 x10 : Option Value} {r : List (Option Value)} {n a : Int} (hd : decode M.2.1 pc = .ok (.iinc 11 n, 3)) (hb : 11 < M.2.2.1) (hp : nlg x10 = true) (k : Go G M R Z y (pc + 3) (x0 :: x1 :: x2 :: x3 :: x4 :: x5 :: x6 :: x7 :: x8 :: x9 :: x10 :: some (.int (iZ (a + n))) :: r) st h cs) : Go G M R Z y pc (x0 :: x1 :: x2 :: x3 :: x4 :: x5 :: x6 :: x7 :: x8 :: x9 :: x10 :: some (.int (iZ a)) :: r) st h cs := gs_iinc hd rfl hb hp k
theorem g_ist12 {x0 x1 x2 x3 x4 x5 x6 x7 x8 x9 x10 x11 x12 : Option Value} {r : List (Option Value)} {v : Int32} (hd : decode M.2.1 pc = .ok (.istore 12, 2)) (hb : 12 < M.2.2.1) (hp : nlg x11 = true) (k : Go G M R Z y (pc + 2) (x0 :: x1 :: x2 :: x3 :: x4 :: x5 :: x6 :: x7 :: x8 :: x9 :: x10 :: x11 :: some (.int v) :: r) st h cs) : Go G M R Z y pc (x0 :: x1 :: x2 :: x3 :: x4 :: x5 :: x6 :: x7 :: x8 :: x9 :: x10 :: x11 :: x12 :: r) (.int v :: st) h cs := gs_istore hd hb hp k
theorem g_ast12 {x0 x1 x2 x3 x4 x5 x6 x7 x8 x9 x10 x11 x12 : Option Value} {r : List (Option Value)} {v : Nat} (hd : decode M.2.1 pc = .ok (.astore 12, 2)) (hb : 12 < M.2.2.1) (hp : nlg x11 = true) (k : Go G M R Z y (pc + 2) (x0 :: x1 :: x2 :: x3 :: x4 :: x5 :: x6 :: x7 :: x8 :: x9 :: x10 :: x11 :: some (.ref v) :: r) st h cs) : Go G M R Z y pc (x0 :: x1 :: x2 :: x3 :: x4 :: x5 :: x6 :: x7 :: x8 :: x9 :: x10 :: x11 :: x12 :: r) (.ref v :: st) h cs := gs_astore hd hb hp k
theorem g_lst12 {x0 x1 x2 x3 x4 x5 x6 x7 x8 x9 x10 x11 x12 x13 : Option Value} {r : List (Option Value)} {v : Int64} (hd : decode M.2.1 pc = .ok (.lstore 12, 2)) (hb : 12 + 1 < M.2.2.1) (hp : nlg x11 = true) (k : Go G M R Z y (pc + 2) (x0 :: x1 :: x2 :: x3 :: x4 :: x5 :: x6 :: x7 :: x8 :: x9 :: x10 :: x11 :: some (.long v) :: none :: r) st h cs) : Go G M R Z y pc (x0 :: x1 :: x2 :: x3 :: x4 :: x5 :: x6 :: x7 :: x8 :: x9 :: x10 :: x11 :: x12 :: x13 :: r) (.long v :: st) h cs := gs_lstore hd hb hp k
theorem g_inc12 {x0 x1 x2 x3 x4 x5 x6 x7 x8 x9 x10 x11 : Option Value} {r : List (Option Value)} {n a : Int} (hd : decode M.2.1 pc = .ok (.iinc 12 n, 3)) (hb : 12 < M.2.2.1) (hp : nlg x11 = true) (k : Go G M R Z y (pc + 3) (x0 :: x1 :: x2 :: x3 :: x4 :: x5 :: x6 :: x7 :: x8 :: x9 :: x10 :: x11 :: some (.int (iZ (a + n))) :: r) st h cs) : Go G M R Z y pc (x0 :: x1 :: x2 :: x3 :: x4 :: x5 :: x6 :: x7 :: x8 :: x9 :: x10 :: x11 :: some (.int (iZ a)) :: r) st h cs := gs_iinc hd rfl hb hp k
theorem g_ist13 {x0 x1 x2 x3 x4 x5 x6 x7 x8 x9 x10 x11 x12 x13 : Option Value} {r : List (Option Value)} {v : Int32} (hd : decode M.2.1 pc = .ok (.istore 13, 2)) (hb : 13 < M.2.2.1) (hp : nlg x12 = true) (k : Go G M R Z y (pc + 2) (x0 :: x1 :: x2 :: x3 :: x4 :: x5 :: x6 :: x7 :: x8 :: x9 :: x10 :: x11 :: x12 :: some (.int v) :: r) st h cs) : Go G M R Z y pc (x0 :: x1 :: x2 :: x3 :: x4 :: x5 :: x6 :: x7 :: x8 :: x9 :: x10 :: x11 :: x12 :: x13 :: r) (.int v :: st) h cs := gs_istore hd hb hp k
theorem g_ast13 {x0 x1 x2 x3 x4 x5 x6 x7 x8 x9 x10 x11 x12 x13 : Option Value} {r : List (Option Value)} {v : Nat} (hd : decode M.2.1 pc = .ok (.astore 13, 2)) (hb : 13 < M.2.2.1) (hp : nlg x12 = true) (k : Go G M R Z y (pc + 2) (x0 :: x1 :: x2 :: x3 :: x4 :: x5 :: x6 :: x7 :: x8 :: x9 :: x10 :: x11 :: x12 :: some (.ref v) :: r) st h cs) : Go G M R Z y pc (x0 :: x1 :: x2 :: x3 :: x4 :: x5 :: x6 :: x7 :: x8 :: x9 :: x10 :: x11 :: x12 :: x13 :: r) (.ref v :: st) h cs := gs_astore hd hb hp k
theorem g_lst13 {x0 x1 x2 x3 x4 x5 x6 x7 x8 x9 x10 x11 x12 x13 x14 : Option Value} {r : List (Option Value)} {v : Int64} (hd : decode M.2.1 pc = .ok (.lstore 13, 2)) (hb : 13 + 1 < M.2.2.1) (hp : nlg x12 = true) (k : Go G M R Z y (pc + 2) (x0 :: x1 :: x2 :: x3 :: x4 :: x5 :: x6 :: x7 :: x8 :: x9 :: x10 :: x11 :: x12 :: some (.long v) :: none :: r) st h cs) : Go G M R Z y pc (x0 :: x1 :: x2 :: x3 :: x4 :: x5 :: x6 :: x7 :: x8 :: x9 :: x10 :: x11 :: x12 :: x13 :: x14 :: r) (.long v :: st) h cs := gs_lstore hd hb hp k
theorem g_inc13 {x0 x1 x2 x3 x4 x5 x6 x7 x8 x9 x10 x11 x12 : Option Value} {r : List (Option Value)} {n a : Int} (hd : decode M.2.1 pc = .ok (.iinc 13 n, 3)) (hb : 13 < M.2.2.1) (hp : nlg x12 = true) (k : Go G M R Z y (pc + 3) (x0 :: x1 :: x2 :: x3 :: x4 :: x5 :: x6 :: x7 :: x8 :: x9 :: x10 :: x11 :: x12 :: some (.int (iZ (a + n))) :: r) st h cs) : Go G M R Z y pc (x0 :: x1 :: x2 :: x3 :: x4 :: x5 :: x6 :: x7 :: x8 :: x9 :: x10 :: x11 :: x12 :: some (.int (iZ a)) :: r) st h cs := gs_iinc hd rfl hb hp k
theorem g_ist14 {x0 x1 x2 x3 x4 x5 x6 x7 x8 x9 x10 x11 x12 x13 x14 : Option Value} {r : List (Option Value)} {v : Int32} (hd : decode M.2.1 pc = .ok (.istore 14, 2)) (hb : 14 < M.2.2.1) (hp : nlg x13 = true) (k : Go G M R Z y (pc + 2) (x0 :: x1 :: x2 :: x3 :: x4 :: x5 :: x6 :: x7 :: x8 :: x9 :: x10 :: x11 :: x12 :: x13 :: some (.int v) :: r) st h cs) : Go G M R Z y pc (x0 :: x1 :: x2 :: x3 :: x4 :: x5 :: x6 :: x7 :: x8 :: x9 :: x10 :: x11 :: x12 :: x13 :: x14 :: r) (.int v :: st) h cs := gs_istore hd hb hp k
theorem g_ast14 {x0 x1 x2 x3 x4 x5 x6 x7 x8 x9 x10 x11 x12 x13 x14 : Option Value} {r : List (Option Value)} {v : Nat} (hd : decode M.2.1 pc = .ok (.astore 14, 2)) (hb : 14 < M.2.2.1) (hp : nlg x13 = true) (k : Go G M R Z y (pc + 2) (x0 :: x1 :: x2 :: x3 :: x4 :: x5 :: x6 :: x7 :: x8 :: x9 :: x10 :: x11 :: x12 :: x13 :: some (.ref v) :: r) st h cs) : Go G M R Z y pc (x0 :: x1 :: x2 :: x3 :: x4 :: x5 :: x6 :: x7 :: x8 :: x9 :: x10 :: x11 :: x12 :: x13 :: x14 :: r) (.ref v :: st) h cs := gs_astore hd hb hp k
theorem g_lst14 {x0 x1 x2 x3 x4 x5 x6 x7 x8 x9 x10 x11 x12 x13 x14 x15 : Option Value} {r : List (Option Value)} {v : Int64} (hd : decode M.2.1 pc = .ok (.lstore 14, 2)) (hb : 14 + 1 < M.2.2.1) (hp : nlg x13 = true) (k : Go G M R Z y (pc + 2) (x0 :: x1 :: x2 :: x3 :: x4 :: x5 :: x6 :: x7 :: x8 :: x9 :: x10 :: x11 :: x12 :: x13 :: some (.long v) :: none :: r) st h cs) : Go G M R Z y pc (x0 :: x1 :: x2 :: x3 :: x4 :: x5 :: x6 :: x7 :: x8 :: x9 :: x10 :: x11 :: x12 :: x13 :: x14 :: x15 :: r) (.long v :: st) h cs := gs_lstore hd hb hp k
theorem g_inc14 {x0 x1 x2 x3 x4 x5 x6 x7 x8 x9 x10 x11 x12 x13 : Option Value} {r : List (Option Value)} {n a : Int} (hd : decode M.2.1 pc = .ok (.iinc 14 n, 3)) (hb : 14 < M.2.2.1) (hp : nlg x13 = true) (k : Go G M R Z y (pc + 3) (x0 :: x1 :: x2 :: x3 :: x4 :: x5 :: x6 :: x7 :: x8 :: x9 :: x10 :: x11 :: x12 :: x13 :: some (.int (iZ (a + n))) :: r) st h cs) : Go G M R Z y pc (x0 :: x1 :: x2 :: x3 :: x4 :: x5 :: x6 :: x7 :: x8 :: x9 :: x10 :: x11 :: x12 :: x13 :: some (.int (iZ a)) :: r) st h cs := gs_iinc hd rfl hb hp k
theorem g_ist15 {x0 x1 x2 x3 x4 x5 x6 x7 x8 x9 x10 x11 x12 x13 x14 x15 : Option Value} {r : List (Option Value)} {v : Int32} (hd : decode M.2.1 pc = .ok (.istore 15, 2)) (hb : 15 < M.2.2.1) (hp : nlg x14 = true) (k : Go G M R Z y (pc + 2) (x0 :: x1 :: x2 :: x3 :: x4 :: x5 :: x6 :: x7 :: x8 :: x9 :: x10 :: x11 :: x12 :: x13 :: x14 :: some (.int v) :: r) st h cs) : Go G M R Z y pc (x0 :: x1 :: x2 :: x3 :: x4 :: x5 :: x6 :: x7 :: x8 :: x9 :: x10 :: x11 :: x12 :: x13 :: x14 :: x15 :: r) (.int v :: st) h cs := gs_istore hd hb hp k
theorem g_ast15 {x0 x1 x2 x3 x4 x5 x6 x7 x8 x9 x10 x11 x12 x13 x14 x15 : Option Value} {r : List (Option Value)} {v : Nat} (hd : decode M.2.1 pc = .ok (.astore 15, 2)) (hb : 15 < M.2.2.1) (hp : nlg x14 = true) (k : Go G M R Z y (pc + 2) (x0 :: x1 :: x2 :: x3 :: x4 :: x5 :: x6 :: x7 :: x8 :: x9 :: x10 :: x11 :: x12 :: x13 :: x14 :: some (.ref v) :: r) st h cs) : Go G M R Z y pc (x0 :: x1 :: x2 :: x3 :: x4 :: x5 :: x6 :: x7 :: x8 :: x9 :: x10 :: x11 :: x12 :: x13 :: x14 :: x15 :: r) (.ref v :: st) h cs := gs_astore hd hb hp k
theorem g_lst15 {x0 x1 x2 x3 x4 x5 x6 x7 x8 x9 x10 x11 x12 x13 x14 x15 x16 : Option Value} {r : List (Option Value)} {v : Int64} (hd : decode M.2.1 pc = .ok (.lstore 15, 2)) (hb : 15 + 1 < M.2.2.1) (hp : nlg x14 = true) (k : Go G M R Z y (pc + 2) (x0 :: x1 :: x2 :: x3 :: x4 :: x5 :: x6 :: x7 :: x8 :: x9 :: x10 :: x11 :: x12 :: x13 :: x14 :: some (.long v) :: none :: r) st h cs) : Go G M R Z y pc (x0 :: x1 :: x2 :: x3 :: x4 :: x5 :: x6 :: x7 :: x8 :: x9 :: x10 :: x11 :: x12 :: x13 :: x14 :: x15 :: x16 :: r) (.long v :: st) h cs := gs_lstore hd hb hp k
theorem g_inc15 {x0 x1 x2 x3 x4 x5 x6 x7 x8 x9 x10 x11 x12 x13 x14 : Option Value} {r : List (Option Value)} {n a : Int} (hd : decode M.2.1 pc = .ok (.iinc 15 n, 3)) (hb : 15 < M.2.2.1) (hp : nlg x14 = true) (k : Go G M R Z y (pc + 3) (x0 :: x1 :: x2 :: x3 :: x4 :: x5 :: x6 :: x7 :: x8 :: x9 :: x10 :: x11 :: x12 :: x13 :: x14 :: some (.int (iZ (a + n))) :: r) st h cs) : Go G M R Z y pc (x0 :: x1 :: x2 :: x3 :: x4 :: x5 :: x6 :: x7 :: x8 :: x9 :: x10 :: x11 :: x12 :: x13 :: x14 :: some (.int (iZ a)) :: r) st h cs := gs_iinc hd rfl hb hp k
theorem g_ist16 {x0 x1 x2 x3 x4 x5 x6 x7 x8 x9 x10 x11 x12 x13 x14 x15 x16 : Option Value} {r : List (Option Value)} {v : Int32} (hd : decode M.2.1 pc = .ok (.istore 16, 2)) (hb : 16 < M.2.2.1) (hp : nlg x15 = true) (k : Go G M R Z y (pc + 2) (x0 :: x1 :: x2 :: x3 :: x4 :: x5 :: x6 :: x7 :: x8 :: x9 :: x10 :: x11 :: x12 :: x13 :: x14 :: x15 :: some (.int v) :: r) st h cs) : Go G M R Z y pc (x0 :: x1 :: x2 :: x3 :: x4 :: x5 :: x6 :: x7 :: x8 :: x9 :: x10 :: x11 :: x12 :: x13 :: x14 :: x15 :: x16 :: r) (.int v :: st) h cs := gs_istore hd hb hp k
theorem g_ast16 {x0 x1 x2 x3 x4 x5 x6 x7 x8 x9 x10 x11 x12 x13 x14 x15 x16 : Option Value} {r : List (Option Value)} {v : Nat} (hd : decode M.2.1 pc = .ok (.astore 16, 2)) (hb : 16 < M.2.2.1) (hp : nlg x15 = true) (k : Go G M R Z y (pc + 2) (x0 :: x1 :: x2 :: x3 :: x4 :: x5 :: x6 :: x7 :: x8 :: x9 :: x10 :: x11 :: x12 :: x13 :: x14 :: x15 :: some (.ref v) :: r) st h cs) : Go G M R Z y pc (x0 :: x1 :: x2 :: x3 :: x4 :: x5 :: x6 :: x7 :: x8 :: x9 :: x10 :: x11 :: x12 :: x13 :: x14 :: x15 :: x16 :: r) (.ref v :: st) h cs := gs_astore hd hb hp k
theorem g_lst16 {x0 x1 x2 x3 x4 x5 x6 x7 x8 x9 x10 x11 x12 x13 x14 x15 x16 x17 : Option Value} {r : List (Option Value)} {v : Int64} (hd : decode M.2.1 pc = .ok (.lstore 16, 2)) (hb : 16 + 1 < M.2.2.1) (hp : nlg x15 = true) (k : Go G M R Z y (pc + 2) (x0 :: x1 :: x2 :: x3 :: x4 :: x5 :: x6 :: x7 :: x8 :: x9 :: x10 :: x11 :: x12 :: x13 :: x14 :: x15 :: some (.long v) :: none :: r) st h cs) : Go G M R Z y pc (x0 :: x1 :: x2 :: x3 :: x4 :: x5 :: x6 :: x7 :: x8 :: x9 :: x10 :: x11 :: x12 :: x13 :: x14 :: x15 :: x16 :: x17 :: r) (.long v :: st) h cs := gs_lstore hd hb hp k
theorem g_inc16 {x0 x1 x2 x3 x4 x5 x6 x7 x8 x9 x10 x11 x12 x13 x14 x15 : Option Value} {r : List (Option Value)} {n a : Int} (hd : decode M.2.1 pc = .ok (.iinc 16 n, 3)) (hb : 16 < M.2.2.1) (hp : nlg x15 = true) (k : Go G M R Z y (pc + 3) (x0 :: x1 :: x2 :: x3 :: x4 :: x5 :: x6 :: x7 :: x8 :: x9 :: x10 :: x11 :: x12 :: x13 :: x14 :: x15 :: some (.int (iZ (a + n))) :: r) st h cs) : Go G M R Z y pc (x0 :: x1 :: x2 :: x3 :: x4 :: x5 :: x6 :: x7 :: x8 :: x9 :: x10 :: x11 :: x12 :: x13 :: x14 :: x15 :: some (.int (iZ a)) :: r) st h cs := gs_iinc hd rfl hb hp k
theorem g_if_eq {a : Int} {off : Int} (tgt : Nat) (hd : decode M.2.1 pc = .ok (.ifCond .eq off, 3)) (ht : (pc : Int) + off = (tgt : Int)) (ha : R32 a) (kt : a = 0 → Go G M R Z y tgt ls st h cs) (kf : ¬ a = 0 → Go G M R Z y (pc + 3) ls st h cs) : Go G M R Z y pc ls (.int (iZ a) :: st) h cs := by
  intro p e s m args below meth c H locs la C hh hS hl
  exact lv_if_eq C.1 C.2.1 hd ht (fun q => kt ((iZ_eq (b := 0) ha (by decide)).mp q) p e s m args below meth c H locs la C hh hS hl) (fun q => kf (fun q2 => q ((iZ_eq (b := 0) ha (by decide)).mpr q2)) p e s m args below meth c H locs la C hh hS hl)
theorem g_icmp_eq {a b : Int} {off : Int} (tgt : Nat) (hd : decode M.2.1 pc = .ok (.if_icmp .eq off, 3)) (ht : (pc : Int) + off = (tgt : Int)) (ha : R32 a) (hb : R32 b) (kt : a = b → Go G M R Z y tgt ls st h cs) (kf : ¬ a = b → Go G M R Z y (pc + 3) ls st h cs) : Go G M R Z y pc ls (.int (iZ b) :: .int (iZ a) :: st) h cs := by
  intro p e s m args below meth c H locs la C hh hS hl
  exact lv_icmp_eq C.1 C.2.1 hd ht (fun q => kt ((iZ_eq ha hb).mp q) p e s m args below meth c H locs la C hh hS hl) (fun q => kf (fun q2 => q ((iZ_eq ha hb).mpr q2)) p e s m args below meth c H locs la C hh hS hl)
theorem g_lcmp_eq {a b : Int} {off : Int} (tgt : Nat) (hd : decode M.2.1 pc = .ok (.lcmp, 1)) (hd2 : decode M.2.1 (pc + 1) = .ok (.ifCond .eq off, 3)) (ht : ((pc + 1 : Nat) : Int) + off = (tgt : Int)) (ha : R64 a) (hb : R64 b) (kt : a = b → Go G M R Z y tgt ls st h cs) (kf : ¬ a = b → Go G M R Z y (pc + 4) ls st h cs) : Go G M R Z y pc ls (.long (lZ b) :: .long (lZ a) :: st) h cs := by
  intro p e s m args below meth c H locs la C hh hS hl
  exact W.lcmp C.1 C.2.1 hd (lv_if_eq C.1 C.2.1 hd2 ht (fun q => kt ((lZ_eq ha hb).mp ((lg_cmp_eq (lZ a) (lZ b)).mp q)) p e s m args below meth c H locs la C hh hS hl) (fun q => kf (fun q2 => q ((lg_cmp_eq (lZ a) (lZ b)).mpr ((lZ_eq ha hb).mpr q2))) p e s m args below meth c H locs la C hh hS hl))
theorem g_if_ne {a : Int} {off : Int} (tgt : Nat) (hd : decode M.2.1 pc = .ok (.ifCond .ne off, 3)) (ht : (pc : Int) + off = (tgt : Int)) (ha : R32 a) (kt : ¬ a = 0 → Go G M R Z y tgt ls st h cs) (kf : a = 0 → Go G M R Z y (pc + 3) ls st h cs) : Go G M R Z y pc ls (.int (iZ a) :: st) h cs := by
  intro p e s m args below meth c H locs la C hh hS hl
  exact lv_if_ne C.1 C.2.1 hd ht (fun q => kt (fun q2 => q ((iZ_eq (b := 0) ha (by decide)).mpr q2)) p e s m args below meth c H locs la C hh hS hl) (fun q => kf ((iZ_eq (b := 0) ha (by decide)).mp q) p e s m args below meth c H locs la C hh hS hl)
theorem g_icmp_ne {a b : Int} {off : Int} (tgt : Nat) (hd : decode M.2.1 pc = .ok (.if_icmp .ne off, 3)) (ht : (pc : Int) + off = (tgt : Int)) (ha : R32 a) (hb : R32 b) (kt : ¬ a = b → Go G M R Z y tgt ls st h cs) (kf : a = b → Go G M R Z y (pc + 3) ls st h cs) : Go G M R Z y pc ls (.int (iZ b) :: .int (iZ a) :: st) h cs := by
  intro p e s m args below meth c H locs la C hh hS hl
  exact lv_icmp_ne C.1 C.2.1 hd ht (fun q => kt (fun q2 => q ((iZ_eq ha hb).mpr q2)) p e s m args below meth c H locs la C hh hS hl) (fun q => kf ((iZ_eq ha hb).mp q) p e s m args below meth c H locs la C hh hS hl)
theorem g_lcmp_ne {a b : Int} {off : Int} (tgt : Nat) (hd : decode M.2.1 pc = .ok (.lcmp, 1)) (hd2 : decode M.2.1 (pc + 1) = .ok (.ifCond .ne off, 3)) (ht : ((pc + 1 : Nat) : Int) + off = (tgt : Int)) (ha : R64 a) (hb : R64 b) (kt : ¬ a = b → Go G M R Z y tgt ls st h cs) (kf : a = b → Go G M R Z y (pc + 4) ls st h cs) : Go G M R Z y pc ls (.long (lZ b) :: .long (lZ a) :: st) h cs := by
  intro p e s m args below meth c H locs la C hh hS hl
  exact W.lcmp C.1 C.2.1 hd (lv_if_ne C.1 C.2.1 hd2 ht (fun q => kt (fun q2 => q ((lg_cmp_eq (lZ a) (lZ b)).mpr ((lZ_eq ha hb).mpr q2))) p e s m args below meth c H locs la C hh hS hl) (fun q => kf ((lZ_eq ha hb).mp ((lg_cmp_eq (lZ a) (lZ b)).mp q)) p e s m args below meth c H locs la C hh hS hl))
theorem g_if_lt {a : Int} {off : Int} (tgt : Nat) (hd : decode M.2.1 pc = .ok (.ifCond .lt off, 3)) (ht : (pc : Int) + off = (tgt : Int)) (ha : R32 a) (kt : a < 0 → Go G M R Z y tgt ls st h cs) (kf : ¬ a < 0 → Go G M R Z y (pc + 3) ls st h cs) : Go G M R Z y pc ls (.int (iZ a) :: st) h cs := by
  intro p e s m args below meth c H locs la C hh hS hl
  exact lv_if_lt C.1 C.2.1 hd ht (fun q => kt ((iZ_lt (b := 0) ha (by decide)).mp q) p e s m args below meth c H locs la C hh hS hl) (fun q => kf (fun q2 => q ((iZ_lt (b := 0) ha (by decide)).mpr q2)) p e s m args below meth c H locs la C hh hS hl)
theorem g_icmp_lt {a b : Int} {off : Int} (tgt : Nat) (hd : decode M.2.1 pc = .ok (.if_icmp .lt off, 3)) (ht : (pc : Int) + off = (tgt : Int)) (ha : R32 a) (hb : R32 b) (kt : a < b → Go G M R Z y tgt ls st h cs) (kf : ¬ a < b → Go G M R Z y (pc + 3) ls st h cs) : Go G M R Z y pc ls (.int (iZ b) :: .int (iZ a) :: st) h cs := by
  intro p e s m args below meth c H locs la C hh hS hl
  exact lv_icmp_lt C.1 C.2.1 hd ht (fun q => kt ((iZ_lt ha hb).mp q) p e s m args below meth c H locs la C hh hS hl) (fun q => kf (fun q2 => q ((iZ_lt ha hb).mpr q2)) p e s m args below meth c H locs la C hh hS hl)
theorem g_lcmp_lt {a b : Int} {off : Int} (tgt : Nat) (hd : decode M.2.1 pc = .ok (.lcmp, 1)) (hd2 : decode M.2.1 (pc + 1) = .ok (.ifCond .lt off, 3)) (ht : ((pc + 1 : Nat) : Int) + off = (tgt : Int)) (ha : R64 a) (hb : R64 b) (kt : a < b → Go G M R Z y tgt ls st h cs) (kf : ¬ a < b → Go G M R Z y (pc + 4) ls st h cs) : Go G M R Z y pc ls (.long (lZ b) :: .long (lZ a) :: st) h cs := by
  intro p e s m args below meth c H locs la C hh hS hl
  exact W.lcmp C.1 C.2.1 hd (lv_if_lt C.1 C.2.1 hd2 ht (fun q => kt ((lZ_lt ha hb).mp ((lg_cmp_lt (lZ a) (lZ b)).mp q)) p e s m args below meth c H locs la C hh hS hl) (fun q => kf (fun q2 => q ((lg_cmp_lt (lZ a) (lZ b)).mpr ((lZ_lt ha hb).mpr q2))) p e s m args below meth c H locs la C hh hS hl))
theorem g_if_ge {a : Int} {off : Int} (tgt : Nat) (hd : decode M.2.1 pc = .ok (.ifCond .ge off, 3)) (ht : (pc : Int) + off = (tgt : Int)) (ha : R32 a) (kt : 0 ≤ a → Go G M R Z y tgt ls st h cs) (kf : ¬ 0 ≤ a → Go G M R Z y (pc + 3) ls st h cs) : Go G M R Z y pc ls (.int (iZ a) :: st) h cs := by
  intro p e s m args below meth c H locs la C hh hS hl
  exact lv_if_ge C.1 C.2.1 hd ht (fun q => kt ((iZ_le (a := 0) (by decide) ha).mp q) p e s m args below meth c H locs la C hh hS hl) (fun q => kf (fun q2 => q ((iZ_le (a := 0) (by decide) ha).mpr q2)) p e s m args below meth c H locs la C hh hS hl)
theorem g_icmp_ge {a b : Int} {off : Int} (tgt : Nat) (hd : decode M.2.1 pc = .ok (.if_icmp .ge off, 3)) (ht : (pc : Int) + off = (tgt : Int)) (ha : R32 a) (hb : R32 b) (kt : b ≤ a → Go G M R Z y tgt ls st h cs) (kf : ¬ b ≤ a → Go G M R Z y (pc + 3) ls st h cs) : Go G M R Z y pc ls (.int (iZ b) :: .int (iZ a) :: st) h cs := by
  intro p e s m args below meth c H locs la C hh hS hl
  exact lv_icmp_ge C.1 C.2.1 hd ht (fun q => kt ((iZ_le hb ha).mp q) p e s m args below meth c H locs la C hh hS hl) (fun q => kf (fun q2 => q ((iZ_le hb ha).mpr q2)) p e s m args below meth c H locs la C hh hS hl)
theorem g_lcmp_ge {a b : Int} {off : Int} (tgt : Nat) (hd : decode M.2.1 pc = .ok (.lcmp, 1)) (hd2 : decode M.2.1 (pc + 1) = .ok (.ifCond .ge off, 3)) (ht : ((pc + 1 : Nat) : Int) + off = (tgt : Int)) (ha : R64 a) (hb : R64 b) (kt : b ≤ a → Go G M R Z y tgt ls st h cs) (kf : ¬ b ≤ a → Go G M R Z y (pc + 4) ls st h cs) : Go G M R Z y pc ls (.long (lZ b) :: .long (lZ a) :: st) h cs := by
  intro p e s m args below meth c H locs la C hh hS hl
  exact W.lcmp C.1 C.2.1 hd (lv_if_ge C.1 C.2.1 hd2 ht (fun q => kt ((lZ_le hb ha).mp ((lg_cmp_ge (lZ a) (lZ b)).mp q)) p e s m args below meth c H locs la C hh hS hl) (fun q => kf (fun q2 => q ((lg_cmp_ge (lZ a) (lZ b)).mpr ((lZ_le hb ha).mpr q2))) p e s m args below meth c H locs la C hh hS hl))
theorem g_if_gt {a : Int} {off : Int} (tgt : Nat) (hd : decode M.2.1 pc = .ok (.ifCond .gt off, 3)) (ht : (pc : Int) + off = (tgt : Int)) (ha : R32 a) (kt : 0 < a → Go G M R Z y tgt ls st h cs) (kf : ¬ 0 < a → Go G M R Z y (pc + 3) ls st h cs) : Go G M R Z y pc ls (.int (iZ a) :: st) h cs := by
  intro p e s m args below meth c H locs la C hh hS hl
  exact lv_if_gt C.1 C.2.1 hd ht (fun q => kt ((iZ_lt (a := 0) (by decide) ha).mp q) p e s m args below meth c H locs la C hh hS hl) (fun q => kf (fun q2 => q ((iZ_lt (a := 0) (by decide) ha).mpr q2)) p e s m args below meth c H locs la C hh hS hl)
theorem g_icmp_gt {a b : Int} {off : Int} (tgt : Nat) (hd : decode M.2.1 pc = .ok (.if_icmp .gt off, 3)) (ht : (pc : Int) + off = (tgt : Int)) (ha : R32 a) (hb : R32 b) (kt : b < a → Go G M R Z y tgt ls st h cs) (kf : ¬ b < a → Go G M R Z y (pc + 3) ls st h cs) : Go G M R Z y pc ls (.int (iZ b) :: .int (iZ a) :: st) h cs := by
  intro p e s m args below meth c H locs la C hh hS hl
  exact lv_icmp_gt C.1 C.2.1 hd ht (fun q => kt ((iZ_lt hb ha).mp q) p e s m args below meth c H locs la C hh hS hl) (fun q => kf (fun q2 => q ((iZ_lt hb ha).mpr q2)) p e s m args below meth c H locs la C hh hS hl)
theorem g_lcmp_gt {a b : Int} {off : Int} (tgt : Nat) (hd : decode M.2.1 pc = .ok (.lcmp, 1)) (hd2 : decode M.2.1 (pc + 1) = .ok (.ifCond .gt off, 3)) (ht : ((pc + 1 : Nat) : Int) + off = (tgt : Int)) (ha : R64 a) (hb : R64 b) (kt : b < a → Go G M R Z y tgt ls st h cs) (kf : ¬ b < a → Go G M R Z y (pc + 4) ls st h cs) : Go G M R Z y pc ls (.long (lZ b) :: .long (lZ a) :: st) h cs := by
  intro p e s m args below meth c H locs la C hh hS hl
  exact W.lcmp C.1 C.2.1 hd (lv_if_gt C.1 C.2.1 hd2 ht (fun q => kt ((lZ_lt hb ha).mp ((lg_cmp_gt (lZ a) (lZ b)).mp q)) p e s m args below meth c H locs la C hh hS hl) (fun q => kf (fun q2 => q ((lg_cmp_gt (lZ a) (lZ b)).mpr ((lZ_lt hb ha).mpr q2))) p e s m args below meth c H locs la C hh hS hl))
theorem g_if_le {a : Int} {off : Int} (tgt : Nat) (hd : decode M.2.1 pc = .ok (.ifCond .le off, 3)) (ht : (pc : Int) + off = (tgt : Int)) (ha : R32 a) (kt : a ≤ 0 → Go G M R Z y tgt ls st h cs) (kf : ¬ a ≤ 0 → Go G M R Z y (pc + 3) ls st h cs) : Go G M R Z y pc ls (.int (iZ a) :: st) h cs := by
  intro p e s m args below meth c H locs la C hh hS hl
  exact lv_if_le C.1 C.2.1 hd ht (fun q => kt ((iZ_le (b := 0) ha (by decide)).mp q) p e s m args below meth c H locs la C hh hS hl) (fun q => kf (fun q2 => q ((iZ_le (b := 0) ha (by decide)).mpr q2)) p e s m args below meth c H locs la C hh hS hl)
theorem g_icmp_le {a b : Int} {off : Int} (tgt : Nat) (hd : decode M.2.1 pc = .ok (.if_icmp .le off, 3)) (ht : (pc : Int) + off = (tgt : Int)) (ha : R32 a) (hb : R32 b) (kt : a ≤ b → Go G M R Z y tgt ls st h cs) (kf : ¬ a ≤ b → Go G M R Z y (pc + 3) ls st h cs) : Go G M R Z y pc ls (.int (iZ b) :: .int (iZ a) :: st) h cs := by
  intro p e s m args below meth c H locs la C hh hS hl
  exact lv_icmp_le C.1 C.2.1 hd ht (fun q => kt ((iZ_le ha hb).mp q) p e s m args below meth c H locs la C hh hS hl) (fun q => kf (fun q2 => q ((iZ_le ha hb).mpr q2)) p e s m args below meth c H locs la C hh hS hl)
theorem g_lcmp_le {a b : Int} {off : Int} (tgt : Nat) (hd : decode M.2.1 pc = .ok (.lcmp, 1)) (hd2 : decode M.2.1 (pc + 1) = .ok (.ifCond .le off, 3)) (ht : ((pc + 1 : Nat) : Int) + off = (tgt : Int)) (ha : R64 a) (hb : R64 b) (kt : a ≤ b → Go G M R Z y tgt ls st h cs) (kf : ¬ a ≤ b → Go G M R Z y (pc + 4) ls st h cs) : Go G M R Z y pc ls (.long (lZ b) :: .long (lZ a) :: st) h cs := by
  intro p e s m args below meth c H locs la C hh hS hl
  exact W.lcmp C.1 C.2.1 hd (lv_if_le C.1 C.2.1 hd2 ht (fun q => kt ((lZ_le ha hb).mp ((lg_cmp_le (lZ a) (lZ b)).mp q)) p e s m args below meth c H locs la C hh hS hl) (fun q => kf (fun q2 => q ((lg_cmp_le (lZ a) (lZ b)).mpr ((lZ_le ha hb).mpr q2))) p e s m args below meth c H locs la C hh hS hl))
theorem g_tsIn {dflt lo hi : Int} {offs : Array Int} {len : Nat} {a off : Int} (tgt : Nat) (hd : decode M.2.1 pc = .ok (.tableswitch dflt lo hi offs, len)) (ha : R32 a) (h1 : ¬ a < lo) (h2 : ¬ hi < a) (ho : offs[(a - lo).toNat]? = some off) (ht : (pc : Int) + off = (tgt : Int)) (k : Go G M R Z y tgt ls st h cs) : Go G M R Z y pc ls (.int (iZ a) :: st) h cs := by
  intro p e s m args below meth c H locs la C hh hS hl
  exact lv_tableIn C.1 C.2.1 hd (by rw [iZ_toInt ha]; exact h1) (by rw [iZ_toInt ha]; exact h2) (by rw [iZ_toInt ha]; exact ho) ht (k p e s m args below meth c H locs la C hh hS hl)
theorem g_tsOut {dflt lo hi : Int} {offs : Array Int} {len : Nat} {a : Int} (tgt : Nat) (hd : decode M.2.1 pc = .ok (.tableswitch dflt lo hi offs, len)) (ha : R32 a) (h1 : a < lo ∨ hi < a) (ht : (pc : Int) + dflt = (tgt : Int)) (k : Go G M R Z y tgt ls st h cs) : Go G M R Z y pc ls (.int (iZ a) :: st) h cs := by
  intro p e s m args below meth c H locs la C hh hS hl
  exact lv_tableOut C.1 C.2.1 hd (by rw [iZ_toInt ha]; exact h1) ht (k p e s m args below meth c H locs la C hh hS hl)
theorem g_lookup {dflt : Int} {ps : Array (Int × Int)} {len : Nat} {a off : Int} (tgt : Nat) (hd : decode M.2.1 pc = .ok (.lookupswitch dflt ps, len)) (ha : R32 a) (hp : (ps.toList.zip (ps.toList.drop 1)).all (fun (a, next) => a.1 < next.1) = true) (ho : Op.lookupswitch.offset ps.toList dflt a = off) (ht : (pc : Int) + off = (tgt : Int)) (k : Go G M R Z y tgt ls st h cs) : Go G M R Z y pc ls (.int (iZ a) :: st) h cs := by
  intro p e s m args below meth c H locs la C hh hS hl
  exact lv_lookup C.1 C.2.1 hd hp (by rw [iZ_toInt ha]; exact ho) ht (k p e s m args below meth c H locs la C hh hS hl)
theorem g_iret {y1 : LY} {mc ms : Nat} {Q : Option Value → HM → Prop} {a : Int} (hd : decode M.2.1 pc = .ok (.ireturn, 1)) (hr : M.2.2.2 = some .int) (hy : y = y1) (hc : cs.1 ≤ mc ∧ cs.2 ≤ ms) (hq : Q (some (.int (iZ a))) h) : Go G M R (ZM G y1 mc ms Q) y pc ls [.int (iZ a)] h cs := by
  intro p e s m args below meth c H locs la C hh hS hl
  subst hy
  refine W.widen hc.1 hc.2 ?_
  exact W.zret (hlocks := C.2.2.2.2.2.2.2.1) C.1 C.2.1 (C.2.2.1.trans hr) rfl (fun t ht _ => ⟨⟨some (.int (iZ a)), h, rfl, hq, by rw [ht]; exact hh⟩, hS.F ht⟩) (fun q hq2 => hS.2.2 q hq2) hd
theorem g_zret {y1 : LY} {mc ms : Nat} {Q : Option Value → HM → Prop} {a : Int} (hd : decode M.2.1 pc = .ok (.ireturn, 1)) (hr : M.2.2.2 = some .boolean) (hy : y = y1) (hc : cs.1 ≤ mc ∧ cs.2 ≤ ms) (h01 : a = 0 ∨ a = 1) (hq : Q (some (.int (iZ a))) h) : Go G M R (ZM G y1 mc ms Q) y pc ls [.int (iZ a)] h cs := by
  intro p e s m args below meth c H locs la C hh hS hl
  subst hy
  refine W.widen hc.1 hc.2 ?_
  exact W.zret (hlocks := C.2.2.2.2.2.2.2.1) C.1 C.2.1 (C.2.2.1.trans hr) (by rcases h01 with rfl | rfl <;> rfl) (fun t ht _ => ⟨⟨some (.int (iZ a)), h, rfl, hq, by rw [ht]; exact hh⟩, hS.F ht⟩) (fun q hq2 => hS.2.2 q hq2) hd
theorem g_lret {y1 : LY} {mc ms : Nat} {Q : Option Value → HM → Prop} {a : Int} (hd : decode M.2.1 pc = .ok (.lreturn, 1)) (hr : M.2.2.2 = some .long) (hy : y = y1) (hc : cs.1 ≤ mc ∧ cs.2 ≤ ms) (hq : Q (some (.long (lZ a))) h) : Go G M R (ZM G y1 mc ms Q) y pc ls [.long (lZ a)] h cs := by
  intro p e s m args below meth c H locs la C hh hS hl
  subst hy
  refine W.widen hc.1 hc.2 ?_
  exact W.lret (hlocks := C.2.2.2.2.2.2.2.1) C.1 C.2.1 (C.2.2.1.trans hr) (fun t ht _ => ⟨⟨some (.long (lZ a)), h, rfl, hq, by rw [ht]; exact hh⟩, hS.F ht⟩) (fun q hq2 => hS.2.2 q hq2) hd
theorem g_vret {y1 : LY} {mc ms : Nat} {Q : Option Value → HM → Prop} (hd : decode M.2.1 pc = .ok (.return_, 1)) (hr : M.2.2.2 = none) (hy : y = y1) (hc : cs.1 ≤ mc ∧ cs.2 ≤ ms) (hq : Q none h) : Go G M R (ZM G y1 mc ms Q) y pc ls [] h cs := by
  intro p e s m args below meth c H locs la C hh hS hl
  subst hy
  refine W.widen hc.1 hc.2 ?_
  exact W.vret (hlocks := C.2.2.2.2.2.2.2.1) C.1 C.2.1 (C.2.2.1.trans hr) (fun t ht _ => ⟨⟨none, h, rfl, hq, by rw [ht]; exact hh⟩, hS.F ht⟩) (fun q hq2 => hS.2.2 q hq2) hd
end Rules1
theorem kbm128 : (Int8.ofInt (-128)).toInt32 = iZ (-128) := by decide +kernel
theorem kbm127 : (Int8.ofInt (-127)).toInt32 = iZ (-127) := by decide +kernel
theorem kbm126 : (Int8.ofInt (-126)).toInt32 = iZ (-126) := by decide +kernel
theorem kbm125 : (Int8.ofInt (-125)).toInt32 = iZ (-125) := by decide +kernel
theorem kbm124 : (Int8.ofInt (-124)).toInt32 = iZ (-124) := by decide +kernel
theorem kbm123 : (Int8.ofInt (-123)).toInt32 = iZ (-123) := by decide +kernel
theorem kbm122 : (Int8.ofInt (-122)).toInt32 = iZ (-122) := by decide +kernel
theorem kbm121 : (Int8.ofInt (-121)).toInt32 = iZ (-121) := by decide +kernel
theorem kbm120 : (Int8.ofInt (-120)).toInt32 = iZ (-120) := by decide +kernel
theorem kbm119 : (Int8.ofInt (-119)).toInt32 = iZ (-119) := by decide +kernel
theorem kbm118 : (Int8.ofInt (-118)).toInt32 = iZ (-118) := by decide +kernel
theorem kbm117 : (Int8.ofInt (-117)).toInt32 = iZ (-117) := by decide +kernel
theorem kbm116 : (Int8.ofInt (-116)).toInt32 = iZ (-116) := by decide +kernel
theorem kbm115 : (Int8.ofInt (-115)).toInt32 = iZ (-115) := by decide +kernel
theorem kbm114 : (Int8.ofInt (-114)).toInt32 = iZ (-114) := by decide +kernel
theorem kbm113 : (Int8.ofInt (-113)).toInt32 = iZ (-113) := by decide +kernel
theorem kbm112 : (Int8.ofInt (-112)).toInt32 = iZ (-112) := by decide +kernel
theorem kbm111 : (Int8.ofInt (-111)).toInt32 = iZ (-111) := by decide +kernel
theorem kbm110 : (Int8.ofInt (-110)).toInt32 = iZ (-110) := by decide +kernel
theorem kbm109 : (Int8.ofInt (-109)).toInt32 = iZ (-109) := by decide +kernel
theorem kbm108 : (Int8.ofInt (-108)).toInt32 = iZ (-108) := by decide +kernel
theorem kbm107 : (Int8.ofInt (-107)).toInt32 = iZ (-107) := by decide +kernel
theorem kbm106 : (Int8.ofInt (-106)).toInt32 = iZ (-106) := by decide +kernel
theorem kbm105 : (Int8.ofInt (-105)).toInt32 = iZ (-105) := by decide +kernel
theorem kbm104 : (Int8.ofInt (-104)).toInt32 = iZ (-104) := by decide +kernel
theorem kbm103 : (Int8.ofInt (-103)).toInt32 = iZ (-103) := by decide +kernel
theorem kbm102 : (Int8.ofInt (-102)).toInt32 = iZ (-102) := by decide +kernel
theorem kbm101 : (Int8.ofInt (-101)).toInt32 = iZ (-101) := by decide +kernel
theorem kbm100 : (Int8.ofInt (-100)).toInt32 = iZ (-100) := by decide +kernel
theorem kbm99 : (Int8.ofInt (-99)).toInt32 = iZ (-99) := by decide +kernel
theorem kbm98 : (Int8.ofInt (-98)).toInt32 = iZ (-98) := by decide +kernel
theorem kbm97 : (Int8.ofInt (-97)).toInt32 = iZ (-97) := by decide +kernel
theorem kbm96 : (Int8.ofInt (-96)).toInt32 = iZ (-96) := by decide +kernel
theorem kbm95 : (Int8.ofInt (-95)).toInt32 = iZ (-95) := by decide +kernel
theorem kbm94 : (Int8.ofInt (-94)).toInt32 = iZ (-94) := by decide +kernel
theorem kbm93 : (Int8.ofInt (-93)).toInt32 = iZ (-93) := by decide +kernel
theorem kbm92 : (Int8.ofInt (-92)).toInt32 = iZ (-92) := by decide +kernel
theorem kbm91 : (Int8.ofInt (-91)).toInt32 = iZ (-91) := by decide +kernel
theorem kbm90 : (Int8.ofInt (-90)).toInt32 = iZ (-90) := by decide +kernel
theorem kbm89 : (Int8.ofInt (-89)).toInt32 = iZ (-89) := by decide +kernel
theorem kbm88 : (Int8.ofInt (-88)).toInt32 = iZ (-88) := by decide +kernel
theorem kbm87 : (Int8.ofInt (-87)).toInt32 = iZ (-87) := by decide +kernel
theorem kbm86 : (Int8.ofInt (-86)).toInt32 = iZ (-86) := by decide +kernel
theorem kbm85 : (Int8.ofInt (-85)).toInt32 = iZ (-85) := by decide +kernel
theorem kbm84 : (Int8.ofInt (-84)).toInt32 = iZ (-84) := by decide +kernel
theorem kbm83 : (Int8.ofInt (-83)).toInt32 = iZ (-83) := by decide +kernel
theorem kbm82 : (Int8.ofInt (-82)).toInt32 = iZ (-82) := by decide +kernel
theorem kbm81 : (Int8.ofInt (-81)).toInt32 = iZ (-81) := by decide +kernel
theorem kbm80 : (Int8.ofInt (-80)).toInt32 = iZ (-80) := by decide +kernel
theorem kbm79 : (Int8.ofInt (-79)).toInt32 = iZ (-79) := by decide +kernel
theorem kbm78 : (Int8.ofInt (-78)).toInt32 = iZ (-78) := by decide +kernel
theorem kbm77 : (Int8.ofInt (-77)).toInt32 = iZ (-77) := by decide +kernel
theorem kbm76 : (Int8.ofInt (-76)).toInt32 = iZ (-76) := by decide +kernel
theorem kbm75 : (Int8.ofInt (-75)).toInt32 = iZ (-75) := by decide +kernel
theorem kbm74 : (Int8.ofInt (-74)).toInt32 = iZ (-74) := by decide +kernel
theorem kbm73 : (Int8.ofInt (-73)).toInt32 = iZ (-73) := by decide +kernel
theorem kbm72 : (Int8.ofInt (-72)).toInt32 = iZ (-72) := by decide +kernel
theorem kbm71 : (Int8.ofInt (-71)).toInt32 = iZ (-71) := by decide +kernel
theorem kbm70 : (Int8.ofInt (-70)).toInt32 = iZ (-70) := by decide +kernel
theorem kbm69 : (Int8.ofInt (-69)).toInt32 = iZ (-69) := by decide +kernel
theorem kbm68 : (Int8.ofInt (-68)).toInt32 = iZ (-68) := by decide +kernel
theorem kbm67 : (Int8.ofInt (-67)).toInt32 = iZ (-67) := by decide +kernel
theorem kbm66 : (Int8.ofInt (-66)).toInt32 = iZ (-66) := by decide +kernel
theorem kbm65 : (Int8.ofInt (-65)).toInt32 = iZ (-65) := by decide +kernel
theorem kbm64 : (Int8.ofInt (-64)).toInt32 = iZ (-64) := by decide +kernel
theorem kbm63 : (Int8.ofInt (-63)).toInt32 = iZ (-63) := by decide +kernel
theorem kbm62 : (Int8.ofInt (-62)).toInt32 = iZ (-62) := by decide +kernel
theorem kbm61 : (Int8.ofInt (-61)).toInt32 = iZ (-61) := by decide +kernel
theorem kbm60 : (Int8.ofInt (-60)).toInt32 = iZ (-60) := by decide +kernel
theorem kbm59 : (Int8.ofInt (-59)).toInt32 = iZ (-59) := by decide +kernel
theorem kbm58 : (Int8.ofInt (-58)).toInt32 = iZ (-58) := by decide +kernel
theorem kbm57 : (Int8.ofInt (-57)).toInt32 = iZ (-57) := by decide +kernel
theorem kbm56 : (Int8.ofInt (-56)).toInt32 = iZ (-56) := by decide +kernel
theorem kbm55 : (Int8.ofInt (-55)).toInt32 = iZ (-55) := by decide +kernel
theorem kbm54 : (Int8.ofInt (-54)).toInt32 = iZ (-54) := by decide +kernel
theorem kbm53 : (Int8.ofInt (-53)).toInt32 = iZ (-53) := by decide +kernel
theorem kbm52 : (Int8.ofInt (-52)).toInt32 = iZ (-52) := by decide +kernel
theorem kbm51 : (Int8.ofInt (-51)).toInt32 = iZ (-51) := by decide +kernel
theorem kbm50 : (Int8.ofInt (-50)).toInt32 = iZ (-50) := by decide +kernel
theorem kbm49 : (Int8.ofInt (-49)).toInt32 = iZ (-49) := by decide +kernel
theorem kbm48 : (Int8.ofInt (-48)).toInt32 = iZ (-48) := by decide +kernel
theorem kbm47 : (Int8.ofInt (-47)).toInt32 = iZ (-47) := by decide +kernel
theorem kbm46 : (Int8.ofInt (-46)).toInt32 = iZ (-46) := by decide +kernel
theorem kbm45 : (Int8.ofInt (-45)).toInt32 = iZ (-45) := by decide +kernel
theorem kbm44 : (Int8.ofInt (-44)).toInt32 = iZ (-44) := by decide +kernel
theorem kbm43 : (Int8.ofInt (-43)).toInt32 = iZ (-43) := by decide +kernel
theorem kbm42 : (Int8.ofInt (-42)).toInt32 = iZ (-42) := by decide +kernel
theorem kbm41 : (Int8.ofInt (-41)).toInt32 = iZ (-41) := by decide +kernel
theorem kbm40 : (Int8.ofInt (-40)).toInt32 = iZ (-40) := by decide +kernel
theorem kbm39 : (Int8.ofInt (-39)).toInt32 = iZ (-39) := by decide +kernel
theorem kbm38 : (Int8.ofInt (-38)).toInt32 = iZ (-38) := by decide +kernel
theorem kbm37 : (Int8.ofInt (-37)).toInt32 = iZ (-37) := by decide +kernel
theorem kbm36 : (Int8.ofInt (-36)).toInt32 = iZ (-36) := by decide +kernel
theorem kbm35 : (Int8.ofInt (-35)).toInt32 = iZ (-35) := by decide +kernel
theorem kbm34 : (Int8.ofInt (-34)).toInt32 = iZ (-34) := by decide +kernel
theorem kbm33 : (Int8.ofInt (-33)).toInt32 = iZ (-33) := by decide +kernel
theorem kbm32 : (Int8.ofInt (-32)).toInt32 = iZ (-32) := by decide +kernel
theorem kbm31 : (Int8.ofInt (-31)).toInt32 = iZ (-31) := by decide +kernel
theorem kbm30 : (Int8.ofInt (-30)).toInt32 = iZ (-30) := by decide +kernel
theorem kbm29 : (Int8.ofInt (-29)).toInt32 = iZ (-29) := by decide +kernel
theorem kbm28 : (Int8.ofInt (-28)).toInt32 = iZ (-28) := by decide +kernel
theorem kbm27 : (Int8.ofInt (-27)).toInt32 = iZ (-27) := by decide +kernel
theorem kbm26 : (Int8.ofInt (-26)).toInt32 = iZ (-26) := by decide +kernel
theorem kbm25 : (Int8.ofInt (-25)).toInt32 = iZ (-25) := by decide +kernel
theorem kbm24 : (Int8.ofInt (-24)).toInt32 = iZ (-24) := by decide +kernel
theorem kbm23 : (Int8.ofInt (-23)).toInt32 = iZ (-23) := by decide +kernel
theorem kbm22 : (Int8.ofInt (-22)).toInt32 = iZ (-22) := by decide +kernel
theorem kbm21 : (Int8.ofInt (-21)).toInt32 = iZ (-21) := by decide +kernel
theorem kbm20 : (Int8.ofInt (-20)).toInt32 = iZ (-20) := by decide +kernel
theorem kbm19 : (Int8.ofInt (-19)).toInt32 = iZ (-19) := by decide +kernel
theorem kbm18 : (Int8.ofInt (-18)).toInt32 = iZ (-18) := by decide +kernel
theorem kbm17 : (Int8.ofInt (-17)).toInt32 = iZ (-17) := by decide +kernel
theorem kbm16 : (Int8.ofInt (-16)).toInt32 = iZ (-16) := by decide +kernel
theorem kbm15 : (Int8.ofInt (-15)).toInt32 = iZ (-15) := by decide +kernel
theorem kbm14 : (Int8.ofInt (-14)).toInt32 = iZ (-14) := by decide +kernel
theorem kbm13 : (Int8.ofInt (-13)).toInt32 = iZ (-13) := by decide +kernel
theorem kbm12 : (Int8.ofInt (-12)).toInt32 = iZ (-12) := by decide +kernel
theorem kbm11 : (Int8.ofInt (-11)).toInt32 = iZ (-11) := by decide +kernel
theorem kbm10 : (Int8.ofInt (-10)).toInt32 = iZ (-10) := by decide +kernel
theorem kbm9 : (Int8.ofInt (-9)).toInt32 = iZ (-9) := by decide +kernel
theorem kbm8 : (Int8.ofInt (-8)).toInt32 = iZ (-8) := by decide +kernel
theorem kbm7 : (Int8.ofInt (-7)).toInt32 = iZ (-7) := by decide +kernel
theorem kbm6 : (Int8.ofInt (-6)).toInt32 = iZ (-6) := by decide +kernel
theorem kbm5 : (Int8.ofInt (-5)).toInt32 = iZ (-5) := by decide +kernel
theorem kbm4 : (Int8.ofInt (-4)).toInt32 = iZ (-4) := by decide +kernel
theorem kbm3 : (Int8.ofInt (-3)).toInt32 = iZ (-3) := by decide +kernel
theorem kbm2 : (Int8.ofInt (-2)).toInt32 = iZ (-2) := by decide +kernel
theorem kbm1 : (Int8.ofInt (-1)).toInt32 = iZ (-1) := by decide +kernel
theorem kb0 : (Int8.ofInt (0)).toInt32 = iZ (0) := by decide +kernel
theorem kb1 : (Int8.ofInt (1)).toInt32 = iZ (1) := by decide +kernel
theorem kb2 : (Int8.ofInt (2)).toInt32 = iZ (2) := by decide +kernel
theorem kb3 : (Int8.ofInt (3)).toInt32 = iZ (3) := by decide +kernel
theorem kb4 : (Int8.ofInt (4)).toInt32 = iZ (4) := by decide +kernel
theorem kb5 : (Int8.ofInt (5)).toInt32 = iZ (5) := by decide +kernel
theorem kb6 : (Int8.ofInt (6)).toInt32 = iZ (6) := by decide +kernel
theorem kb7 : (Int8.ofInt (7)).toInt32 = iZ (7) := by decide +kernel
theorem kb8 : (Int8.ofInt (8)).toInt32 = iZ (8) := by decide +kernel
theorem kb9 : (Int8.ofInt (9)).toInt32 = iZ (9) := by decide +kernel
theorem kb10 : (Int8.ofInt (10)).toInt32 = iZ (10) := by decide +kernel
theorem kb11 : (Int8.ofInt (11)).toInt32 = iZ (11) := by decide +kernel
theorem kb12 : (Int8.ofInt (12)).toInt32 = iZ (12) := by decide +kernel
theorem kb13 : (Int8.ofInt (13)).toInt32 = iZ (13) := by decide +kernel
theorem kb14 : (Int8.ofInt (14)).toInt32 = iZ (14) := by decide +kernel
theorem kb15 : (Int8.ofInt (15)).toInt32 = iZ (15) := by decide +kernel
theorem kb16 : (Int8.ofInt (16)).toInt32 = iZ (16) := by decide +kernel
theorem kb17 : (Int8.ofInt (17)).toInt32 = iZ (17) := by decide +kernel
theorem kb18 : (Int8.ofInt (18)).toInt32 = iZ (18) := by decide +kernel
theorem kb19 : (Int8.ofInt (19)).toInt32 = iZ (19) := by decide +kernel
theorem kb20 : (Int8.ofInt (20)).toInt32 = iZ (20) := by decide +kernel
theorem kb21 : (Int8.ofInt (21)).toInt32 = iZ (21) := by decide +kernel
theorem kb22 : (Int8.ofInt (22)).toInt32 = iZ (22) := by decide +kernel
theorem kb23 : (Int8.ofInt (23)).toInt32 = iZ (23) := by decide +kernel
theorem kb24 : (Int8.ofInt (24)).toInt32 = iZ (24) := by decide +kernel
theorem kb25 : (Int8.ofInt (25)).toInt32 = iZ (25) := by decide +kernel
theorem kb26 : (Int8.ofInt (26)).toInt32 = iZ (26) := by decide +kernel
theorem kb27 : (Int8.ofInt (27)).toInt32 = iZ (27) := by decide +kernel
theorem kb28 : (Int8.ofInt (28)).toInt32 = iZ (28) := by decide +kernel
theorem kb29 : (Int8.ofInt (29)).toInt32 = iZ (29) := by decide +kernel
theorem kb30 : (Int8.ofInt (30)).toInt32 = iZ (30) := by decide +kernel
theorem kb31 : (Int8.ofInt (31)).toInt32 = iZ (31) := by decide +kernel
theorem kb32 : (Int8.ofInt (32)).toInt32 = iZ (32) := by decide +kernel
theorem kb33 : (Int8.ofInt (33)).toInt32 = iZ (33) := by decide +kernel
theorem kb34 : (Int8.ofInt (34)).toInt32 = iZ (34) := by decide +kernel
theorem kb35 : (Int8.ofInt (35)).toInt32 = iZ (35) := by decide +kernel
theorem kb36 : (Int8.ofInt (36)).toInt32 = iZ (36) := by decide +kernel
theorem kb37 : (Int8.ofInt (37)).toInt32 = iZ (37) := by decide +kernel
theorem kb38 : (Int8.ofInt (38)).toInt32 = iZ (38) := by decide +kernel
theorem kb39 : (Int8.ofInt (39)).toInt32 = iZ (39) := by decide +kernel
theorem kb40 : (Int8.ofInt (40)).toInt32 = iZ (40) := by decide +kernel
theorem kb41 : (Int8.ofInt (41)).toInt32 = iZ (41) := by decide +kernel
theorem kb42 : (Int8.ofInt (42)).toInt32 = iZ (42) := by decide +kernel
theorem kb43 : (Int8.ofInt (43)).toInt32 = iZ (43) := by decide +kernel
theorem kb44 : (Int8.ofInt (44)).toInt32 = iZ (44) := by decide +kernel
theorem kb45 : (Int8.ofInt (45)).toInt32 = iZ (45) := by decide +kernel
theorem kb46 : (Int8.ofInt (46)).toInt32 = iZ (46) := by decide +kernel
theorem kb47 : (Int8.ofInt (47)).toInt32 = iZ (47) := by decide +kernel
theorem kb48 : (Int8.ofInt (48)).toInt32 = iZ (48) := by decide +kernel
theorem kb49 : (Int8.ofInt (49)).toInt32 = iZ (49) := by decide +kernel
theorem kb50 : (Int8.ofInt (50)).toInt32 = iZ (50) := by decide +kernel
theorem kb51 : (Int8.ofInt (51)).toInt32 = iZ (51) := by decide +kernel
theorem kb52 : (Int8.ofInt (52)).toInt32 = iZ (52) := by decide +kernel
theorem kb53 : (Int8.ofInt (53)).toInt32 = iZ (53) := by decide +kernel
theorem kb54 : (Int8.ofInt (54)).toInt32 = iZ (54) := by decide +kernel
theorem kb55 : (Int8.ofInt (55)).toInt32 = iZ (55) := by decide +kernel
theorem kb56 : (Int8.ofInt (56)).toInt32 = iZ (56) := by decide +kernel
theorem kb57 : (Int8.ofInt (57)).toInt32 = iZ (57) := by decide +kernel
theorem kb58 : (Int8.ofInt (58)).toInt32 = iZ (58) := by decide +kernel
theorem kb59 : (Int8.ofInt (59)).toInt32 = iZ (59) := by decide +kernel
theorem kb60 : (Int8.ofInt (60)).toInt32 = iZ (60) := by decide +kernel
theorem kb61 : (Int8.ofInt (61)).toInt32 = iZ (61) := by decide +kernel
theorem kb62 : (Int8.ofInt (62)).toInt32 = iZ (62) := by decide +kernel
theorem kb63 : (Int8.ofInt (63)).toInt32 = iZ (63) := by decide +kernel
theorem kb64 : (Int8.ofInt (64)).toInt32 = iZ (64) := by decide +kernel
theorem kb65 : (Int8.ofInt (65)).toInt32 = iZ (65) := by decide +kernel
theorem kb66 : (Int8.ofInt (66)).toInt32 = iZ (66) := by decide +kernel
theorem kb67 : (Int8.ofInt (67)).toInt32 = iZ (67) := by decide +kernel
theorem kb68 : (Int8.ofInt (68)).toInt32 = iZ (68) := by decide +kernel
theorem kb69 : (Int8.ofInt (69)).toInt32 = iZ (69) := by decide +kernel
theorem kb70 : (Int8.ofInt (70)).toInt32 = iZ (70) := by decide +kernel
theorem kb71 : (Int8.ofInt (71)).toInt32 = iZ (71) := by decide +kernel
theorem kb72 : (Int8.ofInt (72)).toInt32 = iZ (72) := by decide +kernel
theorem kb73 : (Int8.ofInt (73)).toInt32 = iZ (73) := by decide +kernel
theorem kb74 : (Int8.ofInt (74)).toInt32 = iZ (74) := by decide +kernel
theorem kb75 : (Int8.ofInt (75)).toInt32 = iZ (75) := by decide +kernel
theorem kb76 : (Int8.ofInt (76)).toInt32 = iZ (76) := by decide +kernel
theorem kb77 : (Int8.ofInt (77)).toInt32 = iZ (77) := by decide +kernel
theorem kb78 : (Int8.ofInt (78)).toInt32 = iZ (78) := by decide +kernel
theorem kb79 : (Int8.ofInt (79)).toInt32 = iZ (79) := by decide +kernel
theorem kb80 : (Int8.ofInt (80)).toInt32 = iZ (80) := by decide +kernel
theorem kb81 : (Int8.ofInt (81)).toInt32 = iZ (81) := by decide +kernel
theorem kb82 : (Int8.ofInt (82)).toInt32 = iZ (82) := by decide +kernel
theorem kb83 : (Int8.ofInt (83)).toInt32 = iZ (83) := by decide +kernel
theorem kb84 : (Int8.ofInt (84)).toInt32 = iZ (84) := by decide +kernel
theorem kb85 : (Int8.ofInt (85)).toInt32 = iZ (85) := by decide +kernel
theorem kb86 : (Int8.ofInt (86)).toInt32 = iZ (86) := by decide +kernel
theorem kb87 : (Int8.ofInt (87)).toInt32 = iZ (87) := by decide +kernel
theorem kb88 : (Int8.ofInt (88)).toInt32 = iZ (88) := by decide +kernel
theorem kb89 : (Int8.ofInt (89)).toInt32 = iZ (89) := by decide +kernel
theorem kb90 : (Int8.ofInt (90)).toInt32 = iZ (90) := by decide +kernel
theorem kb91 : (Int8.ofInt (91)).toInt32 = iZ (91) := by decide +kernel
theorem kb92 : (Int8.ofInt (92)).toInt32 = iZ (92) := by decide +kernel
theorem kb93 : (Int8.ofInt (93)).toInt32 = iZ (93) := by decide +kernel
theorem kb94 : (Int8.ofInt (94)).toInt32 = iZ (94) := by decide +kernel
theorem kb95 : (Int8.ofInt (95)).toInt32 = iZ (95) := by decide +kernel
theorem kb96 : (Int8.ofInt (96)).toInt32 = iZ (96) := by decide +kernel
theorem kb97 : (Int8.ofInt (97)).toInt32 = iZ (97) := by decide +kernel
theorem kb98 : (Int8.ofInt (98)).toInt32 = iZ (98) := by decide +kernel
theorem kb99 : (Int8.ofInt (99)).toInt32 = iZ (99) := by decide +kernel
theorem kb100 : (Int8.ofInt (100)).toInt32 = iZ (100) := by decide +kernel
theorem kb101 : (Int8.ofInt (101)).toInt32 = iZ (101) := by decide +kernel
theorem kb102 : (Int8.ofInt (102)).toInt32 = iZ (102) := by decide +kernel
theorem kb103 : (Int8.ofInt (103)).toInt32 = iZ (103) := by decide +kernel
theorem kb104 : (Int8.ofInt (104)).toInt32 = iZ (104) := by decide +kernel
theorem kb105 : (Int8.ofInt (105)).toInt32 = iZ (105) := by decide +kernel
theorem kb106 : (Int8.ofInt (106)).toInt32 = iZ (106) := by decide +kernel
theorem kb107 : (Int8.ofInt (107)).toInt32 = iZ (107) := by decide +kernel
theorem kb108 : (Int8.ofInt (108)).toInt32 = iZ (108) := by decide +kernel
theorem kb109 : (Int8.ofInt (109)).toInt32 = iZ (109) := by decide +kernel
theorem kb110 : (Int8.ofInt (110)).toInt32 = iZ (110) := by decide +kernel
theorem kb111 : (Int8.ofInt (111)).toInt32 = iZ (111) := by decide +kernel
theorem kb112 : (Int8.ofInt (112)).toInt32 = iZ (112) := by decide +kernel
theorem kb113 : (Int8.ofInt (113)).toInt32 = iZ (113) := by decide +kernel
theorem kb114 : (Int8.ofInt (114)).toInt32 = iZ (114) := by decide +kernel
theorem kb115 : (Int8.ofInt (115)).toInt32 = iZ (115) := by decide +kernel
theorem kb116 : (Int8.ofInt (116)).toInt32 = iZ (116) := by decide +kernel
theorem kb117 : (Int8.ofInt (117)).toInt32 = iZ (117) := by decide +kernel
theorem kb118 : (Int8.ofInt (118)).toInt32 = iZ (118) := by decide +kernel
theorem kb119 : (Int8.ofInt (119)).toInt32 = iZ (119) := by decide +kernel
theorem kb120 : (Int8.ofInt (120)).toInt32 = iZ (120) := by decide +kernel
theorem kb121 : (Int8.ofInt (121)).toInt32 = iZ (121) := by decide +kernel
theorem kb122 : (Int8.ofInt (122)).toInt32 = iZ (122) := by decide +kernel
theorem kb123 : (Int8.ofInt (123)).toInt32 = iZ (123) := by decide +kernel
theorem kb124 : (Int8.ofInt (124)).toInt32 = iZ (124) := by decide +kernel
theorem kb125 : (Int8.ofInt (125)).toInt32 = iZ (125) := by decide +kernel
theorem kb126 : (Int8.ofInt (126)).toInt32 = iZ (126) := by decide +kernel
theorem kb127 : (Int8.ofInt (127)).toInt32 = iZ (127) := by decide +kernel
theorem ks160 : (Int16.ofInt (160)).toInt32 = iZ (160) := by decide +kernel
theorem ks200 : (Int16.ofInt (200)).toInt32 = iZ (200) := by decide +kernel
theorem ks255 : (Int16.ofInt (255)).toInt32 = iZ (255) := by decide +kernel
theorem ks324 : (Int16.ofInt (324)).toInt32 = iZ (324) := by decide +kernel
theorem ks365 : (Int16.ofInt (365)).toInt32 = iZ (365) := by decide +kernel
theorem ks366 : (Int16.ofInt (366)).toInt32 = iZ (366) := by decide +kernel
theorem ks400 : (Int16.ofInt (400)).toInt32 = iZ (400) := by decide +kernel
theorem ks512 : (Int16.ofInt (512)).toInt32 = iZ (512) := by decide +kernel
theorem ks9999 : (Int16.ofInt (9999)).toInt32 = iZ (9999) := by decide +kernel
theorem ks30000 : (Int16.ofInt (30000)).toInt32 = iZ (30000) := by decide +kernel
