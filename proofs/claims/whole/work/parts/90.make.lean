theorem wa_int : (Jvm.Cond.arrayClass Jvm.ClassFile.FieldType.int) ∈ TB := tbm1 (i := 41) rfl rfl
theorem wa_long : (Jvm.Cond.arrayClass Jvm.ClassFile.FieldType.long) ∈ TB := tbm1 (i := 220) rfl rfl
theorem wa_boolean : (Jvm.Cond.arrayClass Jvm.ClassFile.FieldType.boolean) ∈ TB := tbm1 (i := 219) rfl rfl
section Mk
variable {G : GX} {M : MI} {R : Room} {Z : ZT} {y : LY} {pc : Nat} {ls : List (Option Value)} {st : List Value} {h : HM} {cs : Nat × Nat}
theorem na_int {n : Int} {b n0 : Nat} (hd : decode M.2.1 pc = .ok (.newarray .int, 2)) (hb : y.n = b) (hn : 0 ≤ n ∧ n < 2147483648) (hn0 : n.toNat = n0) (hby : n0 * 8 ≤ 536870912) (hr : cs.1 + 1 ≤ R.cells ∧ cs.2 + n0 ≤ R.slots) (kk : Go G M R Z (y.new (.inr (0, n0))) (pc + 2) ls (.ref b :: st) (h.new b) (cs.1 + 1, cs.2 + n0)) : Go G M R Z y pc ls (.int (iZ n) :: st) h cs := by
  subst hb
  exact g_newa (t := 0) (atype := .int) (by decide) rfl (fun _ _ q => q) wa_int hn hn0 (by have e : componentBytes (newarray.typeOf .int) ≤ 8 := (by decide); have := Nat.mul_le_mul_left n0 e; omega) (fun j => by simp [pfv, AT, HM.new, HM.I, HM.L, defaultValue]; rfl) hd hr kk
theorem na_long {n : Int} {b n0 : Nat} (hd : decode M.2.1 pc = .ok (.newarray .long, 2)) (hb : y.n = b) (hn : 0 ≤ n ∧ n < 2147483648) (hn0 : n.toNat = n0) (hby : n0 * 8 ≤ 536870912) (hr : cs.1 + 1 ≤ R.cells ∧ cs.2 + n0 ≤ R.slots) (kk : Go G M R Z (y.new (.inr (1, n0))) (pc + 2) ls (.ref b :: st) (h.new b) (cs.1 + 1, cs.2 + n0)) : Go G M R Z y pc ls (.int (iZ n) :: st) h cs := by
  subst hb
  exact g_newa (t := 1) (atype := .long) (by decide) rfl (fun _ _ q => q) wa_long hn hn0 (by have e : componentBytes (newarray.typeOf .long) ≤ 8 := (by decide); have := Nat.mul_le_mul_left n0 e; omega) (fun j => by simp [pfv, AT, HM.new, HM.I, HM.L, defaultValue]; rfl) hd hr kk
theorem na_boolean {n : Int} {b n0 : Nat} (hd : decode M.2.1 pc = .ok (.newarray .boolean, 2)) (hb : y.n = b) (hn : 0 ≤ n ∧ n < 2147483648) (hn0 : n.toNat = n0) (hby : n0 * 8 ≤ 536870912) (hr : cs.1 + 1 ≤ R.cells ∧ cs.2 + n0 ≤ R.slots) (kk : Go G M R Z (y.new (.inr (2, n0))) (pc + 2) ls (.ref b :: st) (h.new b) (cs.1 + 1, cs.2 + n0)) : Go G M R Z y pc ls (.int (iZ n) :: st) h cs := by
  subst hb
  exact g_newa (t := 2) (atype := .boolean) (by decide) rfl (fun _ _ q => q) wa_boolean hn hn0 (by have e : componentBytes (newarray.typeOf .boolean) ≤ 8 := (by decide); have := Nat.mul_le_mul_left n0 e; omega) (fun j => by simp [pfv, AT, HM.new, HM.I, HM.L, defaultValue]; rfl) hd hr kk
theorem ban_X8_16 (hM : M.1.cls = RX8) (hd : decode M.2.1 pc = .ok (.anewarray 16, 3)) {n : Int} {n0 : Nat} (hn : 0 ≤ n ∧ n < 2147483648) (hn0 : n.toNat = n0) (hby : n0 * 4 ≤ 536870912) (hr : cs.1 + 1 ≤ R.cells ∧ cs.2 + n0 ≤ R.slots) {b : Nat} (hb : y.n = b) (kk : Go G M R Z (y.new (.inr (6, n0))) (pc + 3) ls (.ref b :: st) (h.new b) (cs.1 + 1, cs.2 + n0)) : Go G M R Z y pc ls (.int (iZ n) :: st) h cs := by
  subst hb
  exact an_X8_16 hM hd hn hn0 hby hr kk
theorem ban_X8_34 (hM : M.1.cls = RX8) (hd : decode M.2.1 pc = .ok (.anewarray 34, 3)) {n : Int} {n0 : Nat} (hn : 0 ≤ n ∧ n < 2147483648) (hn0 : n.toNat = n0) (hby : n0 * 4 ≤ 536870912) (hr : cs.1 + 1 ≤ R.cells ∧ cs.2 + n0 ≤ R.slots) {b : Nat} (hb : y.n = b) (kk : Go G M R Z (y.new (.inr (7, n0))) (pc + 3) ls (.ref b :: st) (h.new b) (cs.1 + 1, cs.2 + n0)) : Go G M R Z y pc ls (.int (iZ n) :: st) h cs := by
  subst hb
  exact an_X8_34 hM hd hn hn0 hby hr kk
theorem ban_X0_9 (hM : M.1.cls = RX0) (hd : decode M.2.1 pc = .ok (.anewarray 9, 3)) {n : Int} {n0 : Nat} (hn : 0 ≤ n ∧ n < 2147483648) (hn0 : n.toNat = n0) (hby : n0 * 4 ≤ 536870912) (hr : cs.1 + 1 ≤ R.cells ∧ cs.2 + n0 ≤ R.slots) {b : Nat} (hb : y.n = b) (kk : Go G M R Z (y.new (.inr (3, n0))) (pc + 3) ls (.ref b :: st) (h.new b) (cs.1 + 1, cs.2 + n0)) : Go G M R Z y pc ls (.int (iZ n) :: st) h cs := by
  subst hb
  exact an_X0_9 hM hd hn hn0 hby hr kk
theorem ban_X0_17 (hM : M.1.cls = RX0) (hd : decode M.2.1 pc = .ok (.anewarray 17, 3)) {n : Int} {n0 : Nat} (hn : 0 ≤ n ∧ n < 2147483648) (hn0 : n.toNat = n0) (hby : n0 * 4 ≤ 536870912) (hr : cs.1 + 1 ≤ R.cells ∧ cs.2 + n0 ≤ R.slots) {b : Nat} (hb : y.n = b) (kk : Go G M R Z (y.new (.inr (4, n0))) (pc + 3) ls (.ref b :: st) (h.new b) (cs.1 + 1, cs.2 + n0)) : Go G M R Z y pc ls (.int (iZ n) :: st) h cs := by
  subst hb
  exact an_X0_17 hM hd hn hn0 hby hr kk
theorem ban_X0_23 (hM : M.1.cls = RX0) (hd : decode M.2.1 pc = .ok (.anewarray 23, 3)) {n : Int} {n0 : Nat} (hn : 0 ≤ n ∧ n < 2147483648) (hn0 : n.toNat = n0) (hby : n0 * 4 ≤ 536870912) (hr : cs.1 + 1 ≤ R.cells ∧ cs.2 + n0 ≤ R.slots) {b : Nat} (hb : y.n = b) (kk : Go G M R Z (y.new (.inr (5, n0))) (pc + 3) ls (.ref b :: st) (h.new b) (cs.1 + 1, cs.2 + n0)) : Go G M R Z y pc ls (.int (iZ n) :: st) h cs := by
  subst hb
  exact an_X0_23 hM hd hn hn0 hby hr kk
theorem ban_X2_9 (hM : M.1.cls = RX2) (hd : decode M.2.1 pc = .ok (.anewarray 9, 3)) {n : Int} {n0 : Nat} (hn : 0 ≤ n ∧ n < 2147483648) (hn0 : n.toNat = n0) (hby : n0 * 4 ≤ 536870912) (hr : cs.1 + 1 ≤ R.cells ∧ cs.2 + n0 ≤ R.slots) {b : Nat} (hb : y.n = b) (kk : Go G M R Z (y.new (.inr (3, n0))) (pc + 3) ls (.ref b :: st) (h.new b) (cs.1 + 1, cs.2 + n0)) : Go G M R Z y pc ls (.int (iZ n) :: st) h cs := by
  subst hb
  exact an_X2_9 hM hd hn hn0 hby hr kk
theorem bnw_X8_9 (hM : M.1.cls = RX8) (hd : decode M.2.1 pc = .ok (.new 9, 3)) (hr : cs.1 + 1 ≤ R.cells ∧ cs.2 + 2 ≤ R.slots) {b : Nat} (hb : y.n = b) (kk : Go G M R Z (y.new (.inl 6)) (pc + 3) ls (.ref b :: st) (h.new b) (cs.1 + 1, cs.2 + 2)) : Go G M R Z y pc ls st h cs := by
  subst hb
  exact nw_X8_9 hM hd hr kk
theorem bnw_X8_16 (hM : M.1.cls = RX8) (hd : decode M.2.1 pc = .ok (.new 16, 3)) (hr : cs.1 + 1 ≤ R.cells ∧ cs.2 + 10 ≤ R.slots) {b : Nat} (hb : y.n = b) (kk : Go G M R Z (y.new (.inl 0)) (pc + 3) ls (.ref b :: st) (h.new b) (cs.1 + 1, cs.2 + 10)) : Go G M R Z y pc ls st h cs := by
  subst hb
  exact nw_X8_16 hM hd hr kk
theorem bnw_X8_34 (hM : M.1.cls = RX8) (hd : decode M.2.1 pc = .ok (.new 34, 3)) (hr : cs.1 + 1 ≤ R.cells ∧ cs.2 + 3 ≤ R.slots) {b : Nat} (hb : y.n = b) (kk : Go G M R Z (y.new (.inl 4)) (pc + 3) ls (.ref b :: st) (h.new b) (cs.1 + 1, cs.2 + 3)) : Go G M R Z y pc ls st h cs := by
  subst hb
  exact nw_X8_34 hM hd hr kk
theorem bnw_X8_40 (hM : M.1.cls = RX8) (hd : decode M.2.1 pc = .ok (.new 40, 3)) (hr : cs.1 + 1 ≤ R.cells ∧ cs.2 + 7 ≤ R.slots) {b : Nat} (hb : y.n = b) (kk : Go G M R Z (y.new (.inl 2)) (pc + 3) ls (.ref b :: st) (h.new b) (cs.1 + 1, cs.2 + 7)) : Go G M R Z y pc ls st h cs := by
  subst hb
  exact nw_X8_40 hM hd hr kk
theorem bnw_X8_47 (hM : M.1.cls = RX8) (hd : decode M.2.1 pc = .ok (.new 47, 3)) (hr : cs.1 + 1 ≤ R.cells ∧ cs.2 + 5 ≤ R.slots) {b : Nat} (hb : y.n = b) (kk : Go G M R Z (y.new (.inl 1)) (pc + 3) ls (.ref b :: st) (h.new b) (cs.1 + 1, cs.2 + 5)) : Go G M R Z y pc ls st h cs := by
  subst hb
  exact nw_X8_47 hM hd hr kk
theorem bnw_X8_79 (hM : M.1.cls = RX8) (hd : decode M.2.1 pc = .ok (.new 79, 3)) (hr : cs.1 + 1 ≤ R.cells ∧ cs.2 + 9 ≤ R.slots) {b : Nat} (hb : y.n = b) (kk : Go G M R Z (y.new (.inl 3)) (pc + 3) ls (.ref b :: st) (h.new b) (cs.1 + 1, cs.2 + 9)) : Go G M R Z y pc ls st h cs := by
  subst hb
  exact nw_X8_79 hM hd hr kk
theorem bnw_X0_9 (hM : M.1.cls = RX0) (hd : decode M.2.1 pc = .ok (.new 9, 3)) (hr : cs.1 + 1 ≤ R.cells ∧ cs.2 + 5 ≤ R.slots) {b : Nat} (hb : y.n = b) (kk : Go G M R Z (y.new (.inl 1)) (pc + 3) ls (.ref b :: st) (h.new b) (cs.1 + 1, cs.2 + 5)) : Go G M R Z y pc ls st h cs := by
  subst hb
  exact nw_X0_9 hM hd hr kk
theorem bnw_X0_17 (hM : M.1.cls = RX0) (hd : decode M.2.1 pc = .ok (.new 17, 3)) (hr : cs.1 + 1 ≤ R.cells ∧ cs.2 + 5 ≤ R.slots) {b : Nat} (hb : y.n = b) (kk : Go G M R Z (y.new (.inl 7)) (pc + 3) ls (.ref b :: st) (h.new b) (cs.1 + 1, cs.2 + 5)) : Go G M R Z y pc ls st h cs := by
  subst hb
  exact nw_X0_17 hM hd hr kk
theorem bnw_X0_23 (hM : M.1.cls = RX0) (hd : decode M.2.1 pc = .ok (.new 23, 3)) (hr : cs.1 + 1 ≤ R.cells ∧ cs.2 + 3 ≤ R.slots) {b : Nat} (hb : y.n = b) (kk : Go G M R Z (y.new (.inl 5)) (pc + 3) ls (.ref b :: st) (h.new b) (cs.1 + 1, cs.2 + 3)) : Go G M R Z y pc ls st h cs := by
  subst hb
  exact nw_X0_23 hM hd hr kk
theorem bnw_X2_9 (hM : M.1.cls = RX2) (hd : decode M.2.1 pc = .ok (.new 9, 3)) (hr : cs.1 + 1 ≤ R.cells ∧ cs.2 + 5 ≤ R.slots) {b : Nat} (hb : y.n = b) (kk : Go G M R Z (y.new (.inl 1)) (pc + 3) ls (.ref b :: st) (h.new b) (cs.1 + 1, cs.2 + 5)) : Go G M R Z y pc ls st h cs := by
  subst hb
  exact nw_X2_9 hM hd hr kk
theorem bnw_L_7 (hM : M.1.cls = RL) (hd : decode M.2.1 pc = .ok (.new 7, 3)) (hr : cs.1 + 1 ≤ R.cells ∧ cs.2 + 13 ≤ R.slots) {b : Nat} (hb : y.n = b) (kk : Go G M R Z (y.new (.inl 8)) (pc + 3) ls (.ref b :: st) (h.new b) (cs.1 + 1, cs.2 + 13)) : Go G M R Z y pc ls st h cs := by
  subst hb
  exact nw_L_7 hM hd hr kk
theorem bnw_L_10 (hM : M.1.cls = RL) (hd : decode M.2.1 pc = .ok (.new 10, 3)) (hr : cs.1 + 1 ≤ R.cells ∧ cs.2 + 27 ≤ R.slots) {b : Nat} (hb : y.n = b) (kk : Go G M R Z (y.new (.inl 9)) (pc + 3) ls (.ref b :: st) (h.new b) (cs.1 + 1, cs.2 + 27)) : Go G M R Z y pc ls st h cs := by
  subst hb
  exact nw_L_10 hM hd hr kk
end Mk
theorem IsO.new {y : LY} {a ci : Nat} {kd : Kd} (h : IsO y a ci) : IsO (y.new kd) a ci := ⟨h.1, Nat.lt_succ_of_lt h.2.1, (if_neg (Nat.ne_of_lt h.2.1)).trans h.2.2⟩
theorem IsA.new {y : LY} {a t n : Nat} {kd : Kd} (h : IsA y a t n) : IsA (y.new kd) a t n := ⟨h.1, Nat.lt_succ_of_lt h.2.1, (if_neg (Nat.ne_of_lt h.2.1)).trans h.2.2⟩
theorem IsO.sR {y : LY} {a ci b k : Nat} {v : Option Nat} (h : IsO y a ci) : IsO (y.sR b k v) a ci := h
theorem IsA.sR {y : LY} {a t n b k : Nat} {v : Option Nat} (h : IsA y a t n) : IsA (y.sR b k v) a t n := h
theorem IsO.nw {y : LY} {b ci : Nat} (hb : y.n = b) (h9 : 9 ≤ b) : IsO (y.new (.inl ci)) b ci := ⟨h9, by show b < y.n + 1; omega, if_pos hb.symm⟩
theorem IsA.nw {y : LY} {b t n : Nat} (hb : y.n = b) (h9 : 9 ≤ b) : IsA (y.new (.inr (t, n))) b t n := ⟨h9, by show b < y.n + 1; omega, if_pos hb.symm⟩
theorem R_new {y : LY} {a j : Nat} {kd : Kd} (h : a < y.n) : (y.new kd).R a j = y.R a j := if_neg (Nat.ne_of_lt h)
theorem R_sR {y : LY} {a j b k : Nat} {v : Option Nat} (h : ¬ (a = b ∧ j = k)) : (y.sR b k v).R a j = y.R a j := if_neg h
theorem R_at {y : LY} {a j : Nat} {v : Option Nat} : (y.sR a j v).R a j = v := if_pos ⟨rfl, rfl⟩
theorem nw_I (h : HM) (b : Nat) {a : Nat} (q : a ≠ b) : (h.new b).I a = h.I a := by funext j; exact if_neg q
theorem nw_Z (h : HM) (b j : Nat) : (h.new b).I b j = 0 := if_pos rfl
theorem sI_a (h : HM) {a b k : Nat} {v : Int} (q : a ≠ b) : (h.sI b k v).I a = h.I a := by funext j; rw [sI_I, if_neg (fun z => q z.1)]
/-- below u nothing changed -/
def Blw (u : Nat) (h h1 : HM) : Prop := ∀ a, a < u → h1.I a = h.I a
theorem Blw.rf (u : Nat) (h : HM) : Blw u h h := fun _ _ => rfl
theorem Blw.tr {u : Nat} {h h1 h2 : HM} (a : Blw u h h1) (b : Blw u h1 h2) : Blw u h h2 := fun x q => (b x q).trans (a x q)
theorem Blw.lo {u w : Nat} {h h1 : HM} (a : Blw u h h1) (q : w ≤ u) : Blw w h h1 := fun x z => a x (by omega)
theorem Blw.nw {u b : Nat} {h h1 : HM} (a : Blw u h h1) (q : u ≤ b) : Blw u h (h1.new b) := fun x z => (nw_I h1 b (by omega)).trans (a x z)
theorem Blw.s {u b k : Nat} {v : Int} {h h1 : HM} (a : Blw u h h1) (q : u ≤ b) : Blw u h (h1.sI b k v) := fun x z => (sI_a h1 (by omega)).trans (a x z)
theorem Blw.sl {u b k : Nat} {v : Int} {h h1 : HM} (a : Blw u h h1) : Blw u h (h1.sL b k v) := fun x z => a x z
set_option maxRecDepth 100000 in
set_option maxHeartbeats 1000000 in
theorem e_X1_init {G : GX} {y : LY} {h : HM} {d a : Nat} (ho : IsO y a 1) : Ev G mX1_init (d + 1) 0 0 [.ref a] y h y (fun r h1 => r = none ∧ Blw a h h1) := by
  refine Ev.of rfl [some (.ref a)] rfl (Nat.le_of_ble_eq_true rfl) ?_
  refine g_aload_n dX1_init_0 rfl rfl (cv_X1_3 (M := mX1_init) rfl dX1_init_1 ⟨by simp [rmo], by simp only [rmo]; omega⟩ (Nat.le_of_ble_eq_true rfl) (g_aload_n dX1_init_4 rfl rfl (g_iconst dX1_init_5 (pf_X1_9 (M := mX1_init) rfl dX1_init_6 ho (g_aload_n dX1_init_9 rfl rfl (g_iconst dX1_init_10 (pf_X1_15 (M := mX1_init) rfl dX1_init_11 ho (g_aload_n dX1_init_14 rfl rfl (g_iconst dX1_init_15 ?_)))))))))
  refine pf_X1_18 (M := mX1_init) rfl dX1_init_16 ho (g_aload_n dX1_init_19 rfl rfl (g_iconst dX1_init_20 (pf_X1_21 (M := mX1_init) rfl dX1_init_21 ho (g_aload_n dX1_init_24 rfl rfl (g_iconst dX1_init_25 (pf_X1_24 (M := mX1_init) rfl dX1_init_26 ho ?_))))))
  exact g_vret dX1_init_29 rfl rfl ⟨Nat.le_refl _, Nat.le_refl _⟩ ⟨rfl, ((((((Blw.rf a h).s (Nat.le_refl a)).s (Nat.le_refl a)).s (Nat.le_refl a)).s (Nat.le_refl a)).s (Nat.le_refl a))⟩
set_option maxRecDepth 100000 in
set_option maxHeartbeats 1000000 in
theorem e_X5_init {G : GX} {y : LY} {h : HM} {d a : Nat} (ho : IsO y a 5) : Ev G mX5_init (d + 1) 0 0 [.ref a] y h y (fun r h1 => r = none ∧ Blw a h h1) := by
  refine Ev.of rfl [some (.ref a)] rfl (Nat.le_of_ble_eq_true rfl) ?_
  refine g_aload_n dX5_init_0 rfl rfl (cv_X5_1 (M := mX5_init) rfl dX5_init_1 ⟨by simp [rmo], by simp only [rmo]; omega⟩ (Nat.le_of_ble_eq_true rfl) (g_aload_n dX5_init_4 rfl rfl (g_iconst dX5_init_5 (pf_X5_7 (M := mX5_init) rfl dX5_init_6 ho (g_aload_n dX5_init_9 rfl rfl (g_iconst dX5_init_10 (pf_X5_13 (M := mX5_init) rfl dX5_init_11 ho (g_aload_n dX5_init_14 rfl rfl (g_iconst dX5_init_15 ?_)))))))))
  refine pf_X5_16 (M := mX5_init) rfl dX5_init_16 (by omega) ho ?_
  exact g_vret dX5_init_19 rfl rfl ⟨Nat.le_refl _, Nat.le_refl _⟩ ⟨rfl, ((((Blw.rf a h).s (Nat.le_refl a)).s (Nat.le_refl a)).s (Nat.le_refl a))⟩
set_option maxRecDepth 100000 in
set_option maxHeartbeats 1000000 in
theorem e_X7_init {G : GX} {y : LY} {h : HM} {d a : Nat} (ho : IsO y a 7) : Ev G mX7_init (d + 1) 0 0 [.ref a] y h y (fun r h1 => r = none ∧ Blw a h h1) := by
  refine Ev.of rfl [some (.ref a)] rfl (Nat.le_of_ble_eq_true rfl) ?_
  refine g_aload_n dX7_init_0 rfl rfl (cv_X7_3 (M := mX7_init) rfl dX7_init_1 ⟨by simp [rmo], by simp only [rmo]; omega⟩ (Nat.le_of_ble_eq_true rfl) (g_aload_n dX7_init_4 rfl rfl (g_iconst dX7_init_5 (pf_X7_9 (M := mX7_init) rfl dX7_init_6 ho (g_aload_n dX7_init_9 rfl rfl (g_iconst dX7_init_10 (pf_X7_15 (M := mX7_init) rfl dX7_init_11 ho (g_aload_n dX7_init_14 rfl rfl (g_iconst dX7_init_15 ?_)))))))))
  refine pf_X7_18 (M := mX7_init) rfl dX7_init_16 ho (g_aload_n dX7_init_19 rfl rfl (g_iconst dX7_init_20 (pf_X7_21 (M := mX7_init) rfl dX7_init_21 ho (g_aload_n dX7_init_24 rfl rfl (g_iconst dX7_init_25 (pf_X7_24 (M := mX7_init) rfl dX7_init_26 ho ?_))))))
  exact g_vret dX7_init_29 rfl rfl ⟨Nat.le_refl _, Nat.le_refl _⟩ ⟨rfl, ((((((Blw.rf a h).s (Nat.le_refl a)).s (Nat.le_refl a)).s (Nat.le_refl a)).s (Nat.le_refl a)).s (Nat.le_refl a))⟩
set_option maxRecDepth 100000 in
set_option maxHeartbeats 1000000 in
theorem e_X4_init {G : GX} {y : LY} {h : HM} {d a : Nat} (ho : IsO y a 4) (hn : y.n = a + 1) : Ev G mX4_init (d + 1) 1 40 [.ref a] y h ((y.new (.inr (0, 40))).sR a 0 (some (a + 1))) (fun r h1 => r = none ∧ Blw a h h1 ∧ h1.I a 1 = 0 ∧ h1.I a 2 = -1 ∧ ∀ j, h1.I (a + 1) j = 0) := by
  have h9 := ho.1
  refine Ev.of rfl [some (.ref a)] rfl (Nat.le_of_ble_eq_true rfl) ?_
  refine g_aload_n dX4_init_0 rfl rfl (cv_X4_3 (M := mX4_init) rfl dX4_init_1 ⟨by simp [rmo], by simp only [rmo]; omega⟩ (Nat.le_of_ble_eq_true rfl) (g_aload_n dX4_init_4 rfl rfl (g_bipush dX4_init_5 kb40 (na_int dX4_init_7 hn (by decide) rfl (by decide) ⟨by simp [rmo], by simp [rmo]⟩ (pf_X4_9 (M := mX4_init) rfl rfl dX4_init_9 ho.new (g_aload_n dX4_init_12 rfl rfl (g_iconst dX4_init_13 (pf_X4_15 (M := mX4_init) rfl dX4_init_14 ho.new.sR (g_aload_n dX4_init_17 rfl rfl ?_)))))))))
  refine g_iconst dX4_init_18 (pf_X4_19 (M := mX4_init) rfl dX4_init_19 ho.new.sR ?_)
  refine g_vret dX4_init_22 rfl rfl ⟨Nat.le_refl _, Nat.le_refl _⟩ ⟨rfl, ?_⟩
  refine ⟨(((Blw.rf a h).nw (by omega)).s (Nat.le_refl a)).s (Nat.le_refl a), ?_, ?_, fun j => ?_⟩
  · rw [sI_I, if_neg (by omega), sI_I, if_pos ⟨rfl, rfl⟩]
  · rw [sI_I, if_pos ⟨rfl, rfl⟩]
  · rw [sI_a _ (by omega), sI_a _ (by omega)]; exact nw_Z _ _ _
set_option maxRecDepth 100000 in
set_option maxHeartbeats 1000000 in
theorem e_X6_init {G : GX} {y : LY} {h : HM} {d a : Nat} (ho : IsO y a 6) (hn : y.n = a + 1) : Ev G mX6_init (d + 1) 1 400 [.ref a] y h ((y.new (.inr (0, 400))).sR a 0 (some (a + 1))) (fun r h1 => r = none ∧ Blw a h h1 ∧ h1.I a 1 = 0 ∧ ∀ j, h1.I (a + 1) j = 0) := by
  have h9 := ho.1
  refine Ev.of rfl [some (.ref a)] rfl (Nat.le_of_ble_eq_true rfl) ?_
  refine g_aload_n dX6_init_0 rfl rfl (cv_X6_3 (M := mX6_init) rfl dX6_init_1 ⟨by simp [rmo], by simp only [rmo]; omega⟩ (Nat.le_of_ble_eq_true rfl) (g_aload_n dX6_init_4 rfl rfl (g_sipush dX6_init_5 ks400 (na_int dX6_init_8 hn (by decide) rfl (by decide) ⟨by simp [rmo], by simp [rmo]⟩ (pf_X6_9 (M := mX6_init) rfl rfl dX6_init_10 ho.new (g_aload_n dX6_init_13 rfl rfl (g_iconst dX6_init_14 (pf_X6_15 (M := mX6_init) rfl dX6_init_15 ho.new.sR ?_))))))))
  refine g_vret dX6_init_18 rfl rfl ⟨Nat.le_refl _, Nat.le_refl _⟩ ⟨rfl, ?_⟩
  refine ⟨((Blw.rf a h).nw (by omega)).s (Nat.le_refl a), ?_, fun j => ?_⟩
  · rw [sI_I, if_pos ⟨rfl, rfl⟩]
  · rw [sI_a _ (by omega)]; exact nw_Z _ _ _
