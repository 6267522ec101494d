theorem meet_rs {X Z : Fg} (hX : FgW X) (hZ : FgW Z) : MeetP X Z ↔ ∃ i j : Int, (0 ≤ i ∧ i < tms X.la X.ga) ∧ (0 ≤ j ∧ j < tms Z.la Z.ga) ∧ (rsR X i - rsR Z j) % gcdF X Z = 0 := by
  have e : ∀ i j, (rsR X i - rsR Z j) % gcdF X Z = (X.st + rsO X i - (Z.st + rsO Z j)) % gcdF X Z := fun i j => by rw [rsR_o, rsR_o]; exact sub_em (gcdF_l X Z) (gcdF_r X Z)
  constructor
  · rintro ⟨x, z, hx, hz, p⟩
    obtain ⟨i, hi, rfl⟩ := off_rsO hx
    obtain ⟨j, hj, rfl⟩ := off_rsO hz
    exact ⟨i, j, hi, hj, by rw [e]; exact p⟩
  · rintro ⟨i, j, hi, hj, p⟩
    exact ⟨_, _, rsO_off hX hi, rsO_off hZ hj, by rw [← e]; exact p⟩
theorem meet_out {X Z : Fg} (hX : FgW X) (hZ : FgW Z) {d : Int} (h1 : OutF X d) (h2 : OutF Z d) : MeetP X Z := by
  obtain ⟨i, hi, p⟩ := (out_rsR hX d).mp h1
  obtain ⟨j, hj, q⟩ := (out_rsR hZ d).mp h2
  refine (meet_rs hX hZ).mpr ⟨i, j, hi, hj, ?_⟩
  have a := Int.emod_eq_zero_of_dvd (Int.dvd_trans (gcdF_l X Z) (Int.dvd_of_emod_eq_zero p))
  have b := Int.emod_eq_zero_of_dvd (Int.dvd_trans (gcdF_r X Z) (Int.dvd_of_emod_eq_zero q))
  exact sub0 (sm a) (sm b)
def ExL (Q : Int → Int → Prop) (k i n t : Int) : Prop := ∃ k2 i2 : Int, Lx k i k2 i2 ∧ k2 < n ∧ i2 < t ∧ Q k2 i2
theorem ExL_1 {Q : Int → Int → Prop} {k i n t : Int} (hk : 0 ≤ k ∧ k < n) (hi : 0 ≤ i ∧ i < t) (h : pI (ExL Q k i n t) ≠ 0 ∨ Q k i) : pI (ExL Q k (i + 1) n t) = 1 := by
  rcases h with h | h
  · obtain ⟨k2, i2, l, a, b, q⟩ := (pI_eq1.mp ((pI_01 _).resolve_left h))
    exact pI_t ⟨k2, i2, ⟨l.1, l.2.1, by have := l.2.2; omega⟩, a, b, q⟩
  · exact pI_t ⟨k, i, ⟨hk.1, hi.1, by omega⟩, hk.2, hi.2, h⟩
theorem ExL_0 {Q : Int → Int → Prop} {k i n t : Int} (h0 : pI (ExL Q k i n t) = 0) (h : ¬ Q k i) : pI (ExL Q k (i + 1) n t) = 0 := by
  refine pI_f ?_
  rintro ⟨k2, i2, l, a, b, q⟩
  rcases (by have := l.2.2; omega : (k2 < k ∨ (k2 = k ∧ i2 < i)) ∨ (k2 = k ∧ i2 = i)) with z | ⟨rfl, rfl⟩
  · exact pI_eq0.mp h0 ⟨k2, i2, ⟨l.1, l.2.1, z⟩, a, b, q⟩
  · exact h q
theorem ExL_r {Q : Int → Int → Prop} {k n t : Int} : pI (ExL Q k t n t) = pI (ExL Q (k + 1) 0 n t) := pI_congr ⟨fun ⟨k2, i2, l, a, b, q⟩ => ⟨k2, i2, ⟨l.1, l.2.1, by have := l.2.2; omega⟩, a, b, q⟩, fun ⟨k2, i2, l, a, b, q⟩ => ⟨k2, i2, ⟨l.1, l.2.1, by have := l.2.2; have := l.2.1; omega⟩, a, b, q⟩⟩
theorem ExL_z {Q : Int → Int → Prop} {n t : Int} : pI (ExL Q 0 0 n t) = 0 := pI_f (by rintro ⟨k2, i2, l, _⟩; have := l.1; have := l.2.1; have := l.2.2; omega)
theorem orPI {x : Int} {g : Nat} {P : Prop} (hg : g < 30) (hx : 0 ≤ x ∧ x < 2 ^ g) : iOr x (iShl (pI P) g) = x + pI P * 2 ^ g := by
  rcases pI_01 P with q | q
  · rw [q]
    have e : iShl 0 (g : Int) = 0 := by
      have := iShlN (a := 0) (k := g) (by omega) (by simp)
      simpa using this
    have h30 : (2 : Int) ^ g ≤ 1073741824 := by
      have h1 : 2 ^ g ≤ 2 ^ 30 := Nat.pow_le_pow_right (by decide) (by omega)
      have e1 : ((2 ^ g : Nat) : Int) = (2 : Int) ^ g := by push_cast; rfl
      omega
    have := iOrN (a := x.toNat) (b := 0) (by omega) (by decide)
    rw [show ((x.toNat : Nat) : Int) = x by omega] at this
    rw [e, show ((0 : Nat) : Int) = 0 from rfl, Nat.or_zero] at *
    omega
  · rw [q, orBit hg hx]; omega
noncomputable def alN (F : Nat → Fg) (n : Nat) : Nat → Nat
  | 0 => 0
  | f + 1 => cnd (crS F f n ≠ 0) (alN F n f ||| 2 ^ f) (alN F n f)
theorem alN_bd {F : Nat → Fg} {n : Nat} : ∀ f : Nat, alN F n f < 2 ^ f
  | 0 => by simp [alN]
  | f + 1 => by
    have h1 := alN_bd (F := F) (n := n) f
    have e : 2 ^ f < 2 ^ (f + 1) := Nat.pow_lt_pow_right (by decide) (by omega)
    unfold alN
    by_cases q : crS F f n ≠ 0
    · rw [cnd_t q]; exact Nat.or_lt_two_pow (by omega) e
    · rw [cnd_f q]; omega
theorem alN_bit {F : Nat → Fg} {n : Nat} (j : Nat) : ∀ f : Nat, (alN F n f).testBit j = true ↔ j < f ∧ crS F j n ≠ 0
  | 0 => by simp [alN]
  | f + 1 => by
    have h1 := alN_bit (F := F) (n := n) j f
    unfold alN
    by_cases q : crS F f n ≠ 0
    · rw [cnd_t q, Nat.testBit_or, Nat.testBit_two_pow]
      simp only [Bool.or_eq_true, decide_eq_true_eq, h1]
      constructor
      · rintro (⟨a, b⟩ | rfl)
        · exact ⟨by omega, b⟩
        · exact ⟨by omega, q⟩
      · rintro ⟨a, b⟩
        rcases (by omega : j < f ∨ f = j) with z | z
        · exact Or.inl ⟨z, b⟩
        · exact Or.inr z
    · rw [cnd_f q, h1]
      constructor
      · rintro ⟨a, b⟩; exact ⟨by omega, b⟩
      · rintro ⟨a, b⟩
        rcases (by omega : j < f ∨ j = f) with z | rfl
        · exact ⟨z, b⟩
        · exact absurd b q
noncomputable def cntB (P : Nat → Prop) : Nat → Int
  | 0 => 0
  | j + 1 => cntB P j + pI (P j)
theorem cntB_congr {P Q : Nat → Prop} : ∀ n : Nat, (∀ j, j < n → (P j ↔ Q j)) → cntB P n = cntB Q n
  | 0, _ => rfl
  | n + 1, h => by rw [cntB, cntB, cntB_congr n (fun j hj => h j (by omega)), pI_congr (h n (by omega))]
theorem cntB_hi {P : Nat → Prop} {n : Nat} : ∀ k : Nat, (∀ j, n ≤ j → j < n + k → ¬ P j) → cntB P (n + k) = cntB P n
  | 0, _ => rfl
  | k + 1, h => by
    rw [← Nat.add_assoc, cntB, cntB_hi k (fun j a b => h j a (by omega)), pI_f (h (n + k) (by omega) (by omega))]; omega
theorem hmS_B (F : Nat → Fg) (n : Nat) : ∀ f : Nat, hmS F n f = cntB (fun j => crS F j n ≠ 0) f
  | 0 => rfl
  | f + 1 => by rw [hmS, cntB, hmS_B F n f]
theorem cntB_bd {P : Nat → Prop} : ∀ n : Nat, 0 ≤ cntB P n ∧ cntB P n ≤ n
  | 0 => ⟨Int.le_refl _, Int.le_refl _⟩
  | n + 1 => by have := cntB_bd (P := P) n; have := pI_01 (P n); rw [cntB]; push_cast; omega
theorem bits_hm {F : Nat → Fg} {n : Nat} (hn : n ≤ 6) : cntB (fun j => (alN F n n).testBit j = true) 6 = hmS F n n := by
  rw [hmS_B]
  have e := cntB_hi (P := fun j => (alN F n n).testBit j = true) (n := n) (6 - n) (fun j a b z => by have := ((alN_bit j n).mp z).1; omega)
  rw [show n + (6 - n) = 6 by omega] at e
  rw [e]
  exact cntB_congr n (fun j hj => ⟨fun z => ((alN_bit j n).mp z).2, fun z => (alN_bit j n).mpr ⟨hj, z⟩⟩)
/-- the best pair so far, however far its day -/
def BsQ (S : Nat → Nat → Prop) (P : Nat → Nat → Int → Prop) (t b nm : Int) : Prop :=
  (b = -1 ∧ nm = -4 ∧ ∀ f g, S f g → ∀ d : Int, t ≤ d → ¬ P f g d) ∨
  (t ≤ b ∧ ∃ f g : Nat, S f g ∧ nm = 10 * f + g ∧ P f g b ∧ (∀ f' g', S f' g' → ∀ d : Int, t ≤ d → d < b → ¬ P f' g' d) ∧ ∀ f' g', S f' g' → (f' < f ∨ (f' = f ∧ g' < g)) → ¬ P f' g' b)
theorem BsQ.w {S S' : Nat → Nat → Prop} {P : Nat → Nat → Int → Prop} {t b nm : Int} (h : ∀ f g, S f g ↔ S' f g) (q : BsQ S P t b nm) : BsQ S' P t b nm := by
  have e : S = S' := funext fun f => funext fun g => propext (h f g)
  rw [← e]; exact q
theorem bs_y {S : Nat → Nat → Prop} {P : Nat → Nat → Int → Prop} {t b nm v : Int} {f g : Nat} (q : BsQ S P t b nm) (hS : ∀ f' g', S f' g' → f' < f ∨ (f' = f ∧ g' < g)) (hv : NxQ (P f g) t v) (ht : 0 ≤ t) (h0 : 0 ≤ v) (hc : b < 0 ∨ v < b) : BsQ (fun x z => S x z ∨ (x = f ∧ z = g)) P t v (10 * f + g) := by
  rcases hv with ⟨a, _⟩ | ⟨a, p, c⟩
  · omega
  · refine Or.inr ⟨a, f, g, Or.inr ⟨rfl, rfl⟩, rfl, p, fun f' g' s d d0 d1 => ?_, fun f' g' s l => ?_⟩
    · rcases s with s | ⟨rfl, rfl⟩
      · rcases q with ⟨_, _, z⟩ | ⟨z0, f1, g1, _, _, _, z, _⟩
        · exact z f' g' s d d0
        · exact z f' g' s d d0 (by omega)
      · exact c d d0 d1
    · rcases s with s | ⟨rfl, rfl⟩
      · rcases q with ⟨_, _, z⟩ | ⟨z0, f1, g1, _, _, _, z, _⟩
        · exact z f' g' s v a
        · exact z f' g' s v a (by omega)
      · omega
theorem bs_n {S : Nat → Nat → Prop} {P : Nat → Nat → Int → Prop} {t b nm v : Int} {f g : Nat} (q : BsQ S P t b nm) (hS : ∀ f' g', S f' g' → f' < f ∨ (f' = f ∧ g' < g)) (hv : NxQ (P f g) t v) (ht : 0 ≤ t) (hc : ¬ (0 ≤ v ∧ (b < 0 ∨ v < b))) : BsQ (fun x z => S x z ∨ (x = f ∧ z = g)) P t b nm := by
  rcases q with ⟨z1, z2, z3⟩ | ⟨z0, f1, g1, s1, n1, p1, z4, z5⟩
  · refine Or.inl ⟨z1, z2, fun f' g' s d d0 => ?_⟩
    rcases s with s | ⟨rfl, rfl⟩
    · exact z3 f' g' s d d0
    · rcases hv with ⟨a, b⟩ | ⟨a, _⟩
      · exact b d d0
      · omega
  · refine Or.inr ⟨z0, f1, g1, Or.inl s1, n1, p1, fun f' g' s d d0 d1 => ?_, fun f' g' s l => ?_⟩
    · rcases s with s | ⟨rfl, rfl⟩
      · exact z4 f' g' s d d0 d1
      · rcases hv with ⟨a, b⟩ | ⟨a, _, c⟩
        · exact b d d0
        · exact c d d0 (by omega)
    · rcases s with s | ⟨rfl, rfl⟩
      · exact z5 f' g' s l
      · have := hS f1 g1 s1
        omega
theorem BsQ.f {S : Nat → Nat → Prop} {P : Nat → Nat → Int → Prop} {t b nm : Int} (h : BsQ S P t b nm) (ht : 0 ≤ t) : (1000000000000 < b ∨ b < 0 → FstQ S P t 1000000000001 (-4)) ∧ (¬ (1000000000000 < b ∨ b < 0) → FstQ S P t b nm ∧ nm ≠ -4) := by
  rcases h with ⟨z1, z2, z3⟩ | ⟨z0, f1, g1, s1, n1, p1, z4, z5⟩
  · exact ⟨fun _ => Or.inl ⟨rfl, by decide, fun f g s d d0 _ => z3 f g s d d0⟩, fun c => by omega⟩
  · exact ⟨fun c => Or.inl ⟨rfl, by decide, fun f g s d d0 d1 => z4 f g s d d0 (by omega)⟩, fun c => ⟨Or.inr ⟨z0, by omega, f1, g1, s1, n1, p1, z4, z5⟩, by omega⟩⟩
theorem BsQ.bd {S : Nat → Nat → Prop} {P : Nat → Nat → Int → Prop} {t b nm : Int} {n : Nat} (h : BsQ S P t b nm) (hS : ∀ f g, S f g → f < n ∧ g < n) (hn : n ≤ 6) (ht : 0 ≤ t) : -4 ≤ nm ∧ nm ≤ 60 ∧ -1 ≤ b := by
  rcases h with ⟨z1, z2, z3⟩ | ⟨z0, f1, g1, s1, n1, _⟩
  · omega
  · have := hS f1 g1 s1; omega
set_option maxRecDepth 100000 in
set_option maxHeartbeats 1000000 in
theorem e_X9_doCrash {G : GX} {y : LY} {h : HM} {d : Nat} (hY : Lay y) {F : Nat → Fg} (hR : RF h F) {f g : Int} (hf : 0 ≤ f ∧ f < h.I 151 0) (hg : 0 ≤ g ∧ g < h.I 151 0) : EvI G mX9_doCrash (d + 3) [.ref 150, .int (iZ f), .int (iZ g)] y h (pI (CrP F f.toNat g.toNat)) := by
  have hnf := hR.1
  have hX := hR.2 f (by omega) (by omega)
  have hZ := hR.2 g (by omega) (by omega)
  have hfb : 0 ≤ f ∧ f ≤ 5 := by omega
  have hgb : 0 ≤ g ∧ g ≤ 5 := by omega
  have hxn := rn_bd hX.2.1
  have hzn := rn_bd hZ.2.1
  have hgc := gcdF_bd hX.2.1 hZ.2.1
  have hge : (Int.gcd (rn (F f.toNat)) (rn (F g.toNat)) : Int) = gcdF (F f.toNat) (F g.toNat) := rfl
  have hxt := tms_bd (la := (F f.toNat).la) (ga := (F f.toNat).ga) (by have := hX.2.1; omega)
  have hzt := tms_bd (la := (F g.toNat).la) (ga := (F g.toNat).ga) (by have := hZ.2.1; omega)
  have hxB := hX.2
  have hzB := hZ.2
  refine Ev.of rfl [some (.ref 150), some (.int (iZ f)), some (.int (iZ g)), none, none, none, none] rfl (Nat.le_of_ble_eq_true rfl) ?_
  have L45 : ∀ (m : Nat) (k : Int), (m : Int) = tms (F f.toNat).la (F f.toNat).ga - k → 0 ≤ k ∧ k ≤ tms (F f.toNat).la (F f.toNat).ga → f ≠ g → (F f.toNat).dr = (F g.toNat).dr → Go G mX9_doCrash (rmo (d + 3) 0 0) (ZM G y 0 0 (fun r h1 => r = some (.int (iZ (pI (CrP F f.toNat g.toNat)))) ∧ h1 = h)) y 45 [some (.ref 150), some (.int (iZ f)), some (.int (iZ g)), some (.int (iZ (gcdF (F f.toNat) (F g.toNat)))), some (.int (iZ (pI (ExL (fun k i => (rsR (F f.toNat) k - rsR (F g.toNat) i) % gcdF (F f.toNat) (F g.toNat) = 0) k 0 (tms (F f.toNat).la (F f.toNat).ga) (tms (F g.toNat).la (F g.toNat).ga))))), some (.int (iZ k)), none] [] h (0, 0) := by
    intro m
    induction m using Nat.strongRecOn with | _ m ih =>
    intro k hm hk hne hdr
    have hrb := rsR_bd hX.2.1 k
    have L58 : ∀ (m2 : Nat) (i : Int), (m2 : Int) = tms (F g.toNat).la (F g.toNat).ga - i → 0 ≤ i ∧ i ≤ tms (F g.toNat).la (F g.toNat).ga → k < tms (F f.toNat).la (F f.toNat).ga → Go G mX9_doCrash (rmo (d + 3) 0 0) (ZM G y 0 0 (fun r h1 => r = some (.int (iZ (pI (CrP F f.toNat g.toNat)))) ∧ h1 = h)) y 58 [some (.ref 150), some (.int (iZ f)), some (.int (iZ g)), some (.int (iZ (gcdF (F f.toNat) (F g.toNat)))), some (.int (iZ (pI (ExL (fun k i => (rsR (F f.toNat) k - rsR (F g.toNat) i) % gcdF (F f.toNat) (F g.toNat) = 0) k i (tms (F f.toNat).la (F f.toNat).ga) (tms (F g.toNat).la (F g.toNat).ga))))), some (.int (iZ k)), some (.int (iZ i))] [] h (0, 0) := by
      intro m2
      induction m2 using Nat.strongRecOn with | _ m2 ih2 =>
      intro i hm2 hi hkt
      have hrb2 := rsR_bd hZ.2.1 i
      have hp := pI_01 (ExL (fun k i => (rsR (F f.toNat) k - rsR (F g.toNat) i) % gcdF (F f.toNat) (F g.toNat) = 0) k i (tms (F f.toNat).la (F f.toNat).ga) (tms (F g.toNat).la (F g.toNat).ga))
      have t1 := tm_em (n := rsR (F f.toNat) k - rsR (F g.toNat) i) (d := gcdF (F f.toNat) (F g.toNat)) hgc.1
      have t2 := tm_bd (n := rsR (F f.toNat) k - rsR (F g.toNat) i) (d := gcdF (F f.toNat) (F g.toNat)) hgc.1
      have t3 := em_bd (rsR (F f.toNat) k - rsR (F g.toNat) i) (d := gcdF (F f.toNat) (F g.toNat)) hgc.1
      refine g_iload dX9_doCrash_58 rfl (g_aload_n dX9_doCrash_60 rfl rfl (g_iload_n dX9_doCrash_61 rfl rfl (cv_X9_157 (M := mX9_doCrash) rfl dX9_doCrash_62 (yo150 hY) (RO.same _ _ _) (Nat.le_of_ble_eq_true rfl) (e_X9_timesOf hY hgb hZ.1 hZ.2) <| kI ?_)))
      refine g_icmp_ge 106 dX9_doCrash_65 rfl (by omega) (by omega) (fun c65 => ?_) (fun c65 => ?_)
      · skip
        refine g_inc5 dX9_doCrash_106 (by decide) rfl (g_goto 45 dX9_doCrash_109 rfl (g_dr6 ?_))
        obtain rfl : i = tms (F g.toNat).la (F g.toNat).ga := (by omega)
        rw [ExL_r (Q := (fun k i => (rsR (F f.toNat) k - rsR (F g.toNat) i) % gcdF (F f.toNat) (F g.toNat) = 0))]
        exact ih (m - 1) (by omega) (k + 1) (by omega) (by omega) hne hdr
      · skip
        refine g_iload dX9_doCrash_68 rfl ?_
        refine g_if_ne 93 dX9_doCrash_70 rfl (by omega) (fun c70 => ?_) (fun c70 => ?_)
        · skip
          refine g_iconst dX9_doCrash_93 (g_goto 98 dX9_doCrash_94 rfl (g_ist4 dX9_doCrash_98 (by decide) rfl (g_inc6 dX9_doCrash_100 (by decide) rfl (g_goto 58 dX9_doCrash_103 rfl ?_))))
          have hx := ih2 (m2 - 1) (by omega) (i + 1) (by omega) (by omega) hkt
          first | (rw [ExL_1 (Q := (fun k i => (rsR (F f.toNat) k - rsR (F g.toNat) i) % gcdF (F f.toNat) (F g.toNat) = 0)) (by omega) (by omega) (Or.inl (by omega))] at hx; exact hx) | (rw [ExL_1 (Q := (fun k i => (rsR (F f.toNat) k - rsR (F g.toNat) i) % gcdF (F f.toNat) (F g.toNat) = 0)) (by omega) (by omega) (Or.inr (by omega))] at hx; exact hx) | (rw [ExL_0 (Q := (fun k i => (rsR (F f.toNat) k - rsR (F g.toNat) i) % gcdF (F f.toNat) (F g.toNat) = 0)) (by omega) (by omega)] at hx; exact hx)
        · skip
          refine g_aload_n dX9_doCrash_73 rfl rfl (g_iload_n dX9_doCrash_74 rfl rfl (g_iload dX9_doCrash_75 rfl (cv_X9_160 (M := mX9_doCrash) rfl dX9_doCrash_77 (yo150 hY) (RO.same _ _ _) (Nat.le_of_ble_eq_true rfl) (e_X9_restOf hY hfb hX.1 hX.2 (by omega)) <| kI (g_aload_n dX9_doCrash_80 rfl rfl (g_iload_n dX9_doCrash_81 rfl rfl (g_iload dX9_doCrash_82 rfl (cv_X9_160 (M := mX9_doCrash) rfl dX9_doCrash_84 (yo150 hY) (RO.same _ _ _) (Nat.le_of_ble_eq_true rfl) (e_X9_restOf hY hgb hZ.1 hZ.2 (by omega)) <| kI (g_isub dX9_doCrash_87 (g_iload_n dX9_doCrash_88 rfl rfl (g_irem dX9_doCrash_89 (by omega) (by omega) (by omega) ?_))))))))))
          refine g_if_ne 97 dX9_doCrash_90 rfl (by omega) (fun c90 => ?_) (fun c90 => ?_)
          · skip
            refine g_iconst dX9_doCrash_97 (g_ist4 dX9_doCrash_98 (by decide) rfl (g_inc6 dX9_doCrash_100 (by decide) rfl (g_goto 58 dX9_doCrash_103 rfl ?_)))
            have hx := ih2 (m2 - 1) (by omega) (i + 1) (by omega) (by omega) hkt
            first | (rw [ExL_1 (Q := (fun k i => (rsR (F f.toNat) k - rsR (F g.toNat) i) % gcdF (F f.toNat) (F g.toNat) = 0)) (by omega) (by omega) (Or.inl (by omega))] at hx; exact hx) | (rw [ExL_1 (Q := (fun k i => (rsR (F f.toNat) k - rsR (F g.toNat) i) % gcdF (F f.toNat) (F g.toNat) = 0)) (by omega) (by omega) (Or.inr (by omega))] at hx; exact hx) | (rw [ExL_0 (Q := (fun k i => (rsR (F f.toNat) k - rsR (F g.toNat) i) % gcdF (F f.toNat) (F g.toNat) = 0)) (by omega) (by omega)] at hx; exact hx)
          · skip
            refine g_iconst dX9_doCrash_93 (g_goto 98 dX9_doCrash_94 rfl (g_ist4 dX9_doCrash_98 (by decide) rfl (g_inc6 dX9_doCrash_100 (by decide) rfl (g_goto 58 dX9_doCrash_103 rfl ?_))))
            have hx := ih2 (m2 - 1) (by omega) (i + 1) (by omega) (by omega) hkt
            first | (rw [ExL_1 (Q := (fun k i => (rsR (F f.toNat) k - rsR (F g.toNat) i) % gcdF (F f.toNat) (F g.toNat) = 0)) (by omega) (by omega) (Or.inl (by omega))] at hx; exact hx) | (rw [ExL_1 (Q := (fun k i => (rsR (F f.toNat) k - rsR (F g.toNat) i) % gcdF (F f.toNat) (F g.toNat) = 0)) (by omega) (by omega) (Or.inr (by omega))] at hx; exact hx) | (rw [ExL_0 (Q := (fun k i => (rsR (F f.toNat) k - rsR (F g.toNat) i) % gcdF (F f.toNat) (F g.toNat) = 0)) (by omega) (by omega)] at hx; exact hx)
    refine g_iload dX9_doCrash_45 rfl (g_aload_n dX9_doCrash_47 rfl rfl (g_iload_n dX9_doCrash_48 rfl rfl (cv_X9_157 (M := mX9_doCrash) rfl dX9_doCrash_49 (yo150 hY) (RO.same _ _ _) (Nat.le_of_ble_eq_true rfl) (e_X9_timesOf hY hfb hX.1 hX.2) <| kI ?_)))
    refine g_icmp_ge 112 dX9_doCrash_52 rfl (by omega) (by omega) (fun c52 => ?_) (fun c52 => ?_)
    · skip
      refine g_iload dX9_doCrash_112 rfl ?_
      exact g_zret dX9_doCrash_114 rfl rfl ⟨Nat.le_refl _, Nat.le_refl _⟩ (pI_01 _) (by obtain rfl : k = tms (F f.toNat).la (F f.toNat).ga := (by omega); refine ⟨someI (pI_congr ?_), rfl⟩; constructor; (rintro ⟨k2, i2, l, a, b, q⟩; exact ⟨by omega, hdr.symm, (meet_rs hX.2.1 hZ.2.1).mpr ⟨k2, i2, ⟨l.1, a⟩, ⟨l.2.1, b⟩, q⟩⟩); (rintro ⟨_, _, mt⟩; obtain ⟨i, j, hi, hj, q⟩ := (meet_rs hX.2.1 hZ.2.1).mp mt; exact ⟨i, j, ⟨hi.1, hj.1, by omega⟩, hi.2, hj.2, q⟩))
    · skip
      refine g_iconst dX9_doCrash_55 (g_ist6 dX9_doCrash_56 (by decide) rfl ?_)
      exact L58 (tms (F g.toNat).la (F g.toNat).ga).toNat 0 (by omega) (by omega) (by omega)
  refine g_iload_n dX9_doCrash_0 rfl rfl (g_iload_n dX9_doCrash_1 rfl rfl ?_)
  refine g_icmp_eq 20 dX9_doCrash_2 rfl (by omega) (by omega) (fun c2 => ?_) (fun c2 => ?_)
  · skip
    refine g_iconst dX9_doCrash_20 ?_
    exact g_zret dX9_doCrash_21 rfl rfl ⟨Nat.le_refl _, Nat.le_refl _⟩ (by omega) (by exact ⟨someI (pI_f (fun z => by have z1 := z.1; have z2 := z.2.1; omega)).symm, rfl⟩)
  · skip
    refine g_aload_n dX9_doCrash_5 rfl rfl (g_iload_n dX9_doCrash_6 rfl rfl (g_iconst dX9_doCrash_7 (cv_X9_143 (M := mX9_doCrash) rfl dX9_doCrash_8 (yo150 hY) (RO.same _ _ _) (Nat.le_of_ble_eq_true rfl) (e_of3 hY hfb hX.1) <| kI (g_aload_n dX9_doCrash_11 rfl rfl (g_iload_n dX9_doCrash_12 rfl rfl (g_iconst dX9_doCrash_13 (cv_X9_143 (M := mX9_doCrash) rfl dX9_doCrash_14 (yo150 hY) (RO.same _ _ _) (Nat.le_of_ble_eq_true rfl) (e_of3 hY hgb hZ.1) <| kI ?_)))))))
    refine g_icmp_eq 22 dX9_doCrash_17 rfl (by omega) (by omega) (fun c17 => ?_) (fun c17 => ?_)
    · skip
      refine g_aload_n dX9_doCrash_22 rfl rfl (g_iload_n dX9_doCrash_23 rfl rfl (cv_X9_152 (M := mX9_doCrash) rfl dX9_doCrash_24 (yo150 hY) (RO.same _ _ _) (Nat.le_of_ble_eq_true rfl) (e_X9_roundOf hY hfb hX.1 hX.2) <| kI (g_i2l dX9_doCrash_27 (by omega) (g_aload_n dX9_doCrash_28 rfl rfl (g_iload_n dX9_doCrash_29 rfl rfl (cv_X9_152 (M := mX9_doCrash) rfl dX9_doCrash_30 (yo150 hY) (RO.same _ _ _) (Nat.le_of_ble_eq_true rfl) (e_X9_roundOf hY hgb hZ.1 hZ.2) <| kI (g_i2l dX9_doCrash_33 (by omega) (cv_X9_204 (M := mX9_doCrash) rfl dX9_doCrash_34 (RO.same _ _ _) (Nat.le_of_ble_eq_true rfl) (e_X9_common (by omega) (by omega)) <| kL ?_))))))))
      rw [hge]
      refine g_l2i dX9_doCrash_37 (g_ist3 dX9_doCrash_38 (by decide) rfl (g_iconst dX9_doCrash_39 (g_ist4 dX9_doCrash_40 (by decide) rfl (g_iconst dX9_doCrash_42 (g_ist5 dX9_doCrash_43 (by decide) rfl ?_)))))
      have hx := L45 (tms (F f.toNat).la (F f.toNat).ga).toNat 0 (by omega) (by omega) (by omega) (by omega)
      rw [ExL_z (Q := (fun k i => (rsR (F f.toNat) k - rsR (F g.toNat) i) % gcdF (F f.toNat) (F g.toNat) = 0))] at hx
      exact hx
    · skip
      refine g_iconst dX9_doCrash_20 ?_
      exact g_zret dX9_doCrash_21 rfl rfl ⟨Nat.le_refl _, Nat.le_refl _⟩ (by omega) (by exact ⟨someI (pI_f (fun z => by have z1 := z.1; have z2 := z.2.1; omega)).symm, rfl⟩)
set_option maxRecDepth 100000 in
set_option maxHeartbeats 1000000 in
theorem e_X9_crashOf {G : GX} {y : LY} {h : HM} {d : Nat} (hY : Lay y) {F : Nat → Fg} (hR : RF h F) {f : Int} (hf : 0 ≤ f ∧ f < (h.I 151 0)) : EvI G mX9_crashOf (d + 4) [.ref 150, .int (iZ f)] y h (crS F f.toNat (h.I 151 0).toNat) := by
  have hnf := hR.1
  refine Ev.of rfl [some (.ref 150), some (.int (iZ f)), none, none] rfl (Nat.le_of_ble_eq_true rfl) ?_
  have L4 : ∀ (m : Nat) (g : Nat), (m : Int) = (h.I 151 0) - g → (g : Int) ≤ (h.I 151 0) → Go G mX9_crashOf (rmo (d + 4) 0 0) (ZM G y 0 0 (fun r h1 => r = some (.int (iZ (crS F f.toNat (h.I 151 0).toNat))) ∧ h1 = h)) y 4 [some (.ref 150), some (.int (iZ f)), some (.int (iZ (crS F f.toNat g))), some (.int (iZ g))] [] h (0, 0) := by
    intro m
    induction m using Nat.strongRecOn with | _ m ih =>
    intro g hm hg
    have hcb := crS_bd F f.toNat g
    have hp := pI_01 (CrP F f.toNat g)
    refine g_iload_n dX9_crashOf_4 rfl rfl (g_aload_n dX9_crashOf_5 rfl rfl (gf_X9_7 (M := mX9_crashOf) rfl dX9_crashOf_6 (yo150 hY) (yr150_0 hY) (g_iconst dX9_crashOf_9 (g_iaN 0 dX9_crashOf_10 (ya151 hY) ⟨by decide, by decide, by decide⟩ rfl ?_))))
    refine g_icmp_ge 34 dX9_crashOf_11 rfl (by omega) (by omega) (fun c11 => ?_) (fun c11 => ?_)
    · skip
      refine g_iload_n dX9_crashOf_34 rfl rfl ?_
      exact g_iret dX9_crashOf_35 rfl rfl ⟨Nat.le_refl _, Nat.le_refl _⟩ (by obtain rfl : g = (h.I 151 0).toNat := (by omega); exact ⟨rfl, rfl⟩)
    · skip
      refine g_iload_n dX9_crashOf_14 rfl rfl (g_aload_n dX9_crashOf_15 rfl rfl (g_iload_n dX9_crashOf_16 rfl rfl (g_iload_n dX9_crashOf_17 rfl rfl (cv_X9_242 (M := mX9_crashOf) rfl dX9_crashOf_18 (yo150 hY) (RO.same _ _ _) (Nat.le_of_ble_eq_true rfl) (e_X9_doCrash hY hR hf (by omega)) <| kI ?_))))
      rw [Int.toNat_natCast]
      refine cv_X9_173 (M := mX9_crashOf) rfl dX9_crashOf_21 (RO.same _ _ _) (Nat.le_of_ble_eq_true rfl) (e_X9_flag (by omega)) <| kI (g_iload_n dX9_crashOf_24 rfl rfl (g_ishl dX9_crashOf_25 (g_ior dX9_crashOf_26 (g_ist2 dX9_crashOf_27 (by decide) rfl (g_inc3 dX9_crashOf_28 (by decide) rfl (g_goto 4 dX9_crashOf_31 rfl ?_))))))
      rw [orPI (by omega) hcb]
      exact ih (m - 1) (by omega) (g + 1) (by omega) (by omega)
  refine g_iconst dX9_crashOf_0 (g_ist2 dX9_crashOf_1 (by decide) rfl (g_iconst dX9_crashOf_2 (g_ist3 dX9_crashOf_3 (by decide) rfl ?_)))
  exact L4 (h.I 151 0).toNat 0 (by omega) (by omega)
set_option maxRecDepth 100000 in
set_option maxHeartbeats 1000000 in
theorem e_X9_crash {G : GX} {y : LY} {h : HM} {d : Nat} (hY : Lay y) {F : Nat → Fg} (hR : RF h F) {f : Int} (hf : R32 f) : EvI G mX9_crash (d + 5) [.ref 150, .int (iZ f)] y h ((if ¬ (0 ≤ f ∧ f < (h.I 151 0)) then -1 else crS F f.toNat (h.I 151 0).toNat)) := by
  have hnf := hR.1
  have hpf := pI_01 (0 ≤ f ∧ f < h.I 151 0)
  have hpe := pI_eq1 (P := 0 ≤ f ∧ f < h.I 151 0)
  refine Ev.of rfl [some (.ref 150), some (.int (iZ f))] rfl (Nat.le_of_ble_eq_true rfl) ?_
  refine g_aload_n dX9_crash_0 rfl rfl (g_iload_n dX9_crash_1 rfl rfl (cv_X9_146 (M := mX9_crash) rfl dX9_crash_2 (yo150 hY) (RO.same _ _ _) (Nat.le_of_ble_eq_true rfl) (e_X9_isFigure hY (by omega) (by omega)) <| kI ?_))
  refine g_if_eq 16 dX9_crash_5 rfl (by omega) (fun c5 => ?_) (fun c5 => ?_)
  · skip
    refine g_iconst dX9_crash_16 ?_
    exact g_iret dX9_crash_17 rfl rfl ⟨Nat.le_refl _, Nat.le_refl _⟩ (by first | exact ⟨someI (by rw [if_pos (by omega)]), rfl⟩ | exact ⟨someI (by rw [if_neg (by omega)]), rfl⟩)
  · skip
    refine g_aload_n dX9_crash_8 rfl rfl (g_iload_n dX9_crash_9 rfl rfl (cv_X9_245 (M := mX9_crash) rfl dX9_crash_10 (yo150 hY) (RO.same _ _ _) (Nat.le_of_ble_eq_true rfl) (e_X9_crashOf hY hR (by omega)) <| kI (g_goto 17 dX9_crash_13 rfl ?_)))
    exact g_iret dX9_crash_17 rfl rfl ⟨Nat.le_refl _, Nat.le_refl _⟩ (by first | exact ⟨someI (by rw [if_pos (by omega)]), rfl⟩ | exact ⟨someI (by rw [if_neg (by omega)]), rfl⟩)
set_option maxRecDepth 100000 in
set_option maxHeartbeats 1000000 in
theorem e_X9_allCrash {G : GX} {y : LY} {h : HM} {d : Nat} (hY : Lay y) {F : Nat → Fg} (hR : RF h F) : EvI G mX9_allCrash (d + 5) [.ref 150] y h ((alN F (h.I 151 0).toNat (h.I 151 0).toNat : Nat)) := by
  have hnf := hR.1
  refine Ev.of rfl [some (.ref 150), none, none] rfl (Nat.le_of_ble_eq_true rfl) ?_
  have L4 : ∀ (m : Nat) (f : Nat), (m : Int) = (h.I 151 0) - f → (f : Int) ≤ (h.I 151 0) → Go G mX9_allCrash (rmo (d + 5) 0 0) (ZM G y 0 0 (fun r h1 => r = some (.int (iZ ((alN F (h.I 151 0).toNat (h.I 151 0).toNat : Nat)))) ∧ h1 = h)) y 4 [some (.ref 150), some (.int (iZ (alN F (h.I 151 0).toNat f : Nat))), some (.int (iZ f))] [] h (0, 0) := by
    intro m
    induction m using Nat.strongRecOn with | _ m ih =>
    intro f hm hf
    have hab := alN_bd (F := F) (n := (h.I 151 0).toNat) f
    have hcb := crS_bd F f (h.I 151 0).toNat
    have hp2 := p2_6 (n := (h.I 151 0).toNat) (by omega)
    have h26 : 2 ^ f ≤ 2 ^ 6 := Nat.pow_le_pow_right (by decide) (by omega)
    have hcz : (0 : Int) ≤ crS F (f : Int).toNat (h.I 151 0).toNat ∧ crS F (f : Int).toNat (h.I 151 0).toNat < 64 := by (rw [Int.toNat_natCast]; omega)
    refine g_iload_n dX9_allCrash_4 rfl rfl (g_aload_n dX9_allCrash_5 rfl rfl (gf_X9_7 (M := mX9_allCrash) rfl dX9_allCrash_6 (yo150 hY) (yr150_0 hY) (g_iconst dX9_allCrash_9 (g_iaN 0 dX9_allCrash_10 (ya151 hY) ⟨by decide, by decide, by decide⟩ rfl ?_))))
    refine g_icmp_ge 41 dX9_allCrash_11 rfl (by omega) (by omega) (fun c11 => ?_) (fun c11 => ?_)
    · skip
      refine g_iload_n dX9_allCrash_41 rfl rfl ?_
      exact g_iret dX9_allCrash_42 rfl rfl ⟨Nat.le_refl _, Nat.le_refl _⟩ (by obtain rfl : f = (h.I 151 0).toNat := (by omega); exact ⟨rfl, rfl⟩)
    · skip
      refine g_iload_n dX9_allCrash_14 rfl rfl (g_aload_n dX9_allCrash_15 rfl rfl (g_iload_n dX9_allCrash_16 rfl rfl (cv_X9_245 (M := mX9_allCrash) rfl dX9_allCrash_17 (yo150 hY) (RO.same _ _ _) (Nat.le_of_ble_eq_true rfl) (e_X9_crashOf hY hR (by omega)) <| kI ?_)))
      refine g_if_eq 27 dX9_allCrash_20 rfl (by omega) (fun c20 => ?_) (fun c20 => ?_)
      · skip
        refine g_iconst dX9_allCrash_27 (cv_X9_173 (M := mX9_allCrash) rfl dX9_allCrash_28 (RO.same _ _ _) (Nat.le_of_ble_eq_true rfl) (e_X9_flag (by omega)) <| kI (g_iload_n dX9_allCrash_31 rfl rfl (g_ishl dX9_allCrash_32 (g_ior dX9_allCrash_33 (g_ist1 dX9_allCrash_34 (by decide) rfl (g_inc2 dX9_allCrash_35 (by decide) rfl (g_goto 4 dX9_allCrash_38 rfl ?_)))))))
        have hx := ih (m - 1) (by omega) (f + 1) (by omega) (by omega)
        rw [Int.toNat_natCast] at c20
        first
        | (rw [show alN F (h.I 151 0).toNat (f + 1) = alN F (h.I 151 0).toNat f ||| 2 ^ f from cnd_t c20] at hx; have e := iOrN (a := alN F (h.I 151 0).toNat f) (b := 2 ^ f) (by omega) (by omega); have e2 := iShl1' (k := (f : Int)) (by omega); rw [Int.toNat_natCast] at e2; rw [e2]; push_cast at e hx ⊢; rw [e]; exact hx)
        | (rw [show alN F (h.I 151 0).toNat (f + 1) = alN F (h.I 151 0).toNat f from cnd_f (fun z => z c20)] at hx; have e := orPI (x := (alN F (h.I 151 0).toNat f : Nat)) (g := f) (P := False) (by omega) (by have := hab; exact ⟨by omega, by exact_mod_cast hab⟩); rw [pI_f id] at e; rw [e, Int.zero_mul, Int.add_zero]; exact hx)
      · skip
        refine g_iconst dX9_allCrash_23 (g_goto 28 dX9_allCrash_24 rfl (cv_X9_173 (M := mX9_allCrash) rfl dX9_allCrash_28 (RO.same _ _ _) (Nat.le_of_ble_eq_true rfl) (e_X9_flag (by omega)) <| kI (g_iload_n dX9_allCrash_31 rfl rfl (g_ishl dX9_allCrash_32 (g_ior dX9_allCrash_33 (g_ist1 dX9_allCrash_34 (by decide) rfl (g_inc2 dX9_allCrash_35 (by decide) rfl (g_goto 4 dX9_allCrash_38 rfl ?_))))))))
        have hx := ih (m - 1) (by omega) (f + 1) (by omega) (by omega)
        rw [Int.toNat_natCast] at c20
        first
        | (rw [show alN F (h.I 151 0).toNat (f + 1) = alN F (h.I 151 0).toNat f ||| 2 ^ f from cnd_t c20] at hx; have e := iOrN (a := alN F (h.I 151 0).toNat f) (b := 2 ^ f) (by omega) (by omega); have e2 := iShl1' (k := (f : Int)) (by omega); rw [Int.toNat_natCast] at e2; rw [e2]; push_cast at e hx ⊢; rw [e]; exact hx)
        | (rw [show alN F (h.I 151 0).toNat (f + 1) = alN F (h.I 151 0).toNat f from cnd_f (fun z => z c20)] at hx; have e := orPI (x := (alN F (h.I 151 0).toNat f : Nat)) (g := f) (P := False) (by omega) (by have := hab; exact ⟨by omega, by exact_mod_cast hab⟩); rw [pI_f id] at e; rw [e, Int.zero_mul, Int.add_zero]; exact hx)
  refine g_iconst dX9_allCrash_0 (g_ist1 dX9_allCrash_1 (by decide) rfl (g_iconst dX9_allCrash_2 (g_ist2 dX9_allCrash_3 (by decide) rfl ?_)))
  exact L4 (h.I 151 0).toNat 0 (by omega) (by omega)
set_option maxRecDepth 100000 in
set_option maxHeartbeats 1000000 in
theorem e_X9_bitsOf {G : GX} {y : LY} {h : HM} {d : Nat} {v : Nat} (hv : v < 64) : EvI G mX9_bitsOf (d) [.int (iZ v)] y h (cntB (fun j => v.testBit j = true) 6) := by
  refine Ev.of rfl [some (.int (iZ v)), none, none] rfl (Nat.le_of_ble_eq_true rfl) ?_
  have L4 : ∀ (m : Nat) (k : Nat), m = 6 - k → k ≤ 6 → Go G mX9_bitsOf (rmo (d) 0 0) (ZM G y 0 0 (fun r h1 => r = some (.int (iZ (cntB (fun j => v.testBit j = true) 6))) ∧ h1 = h)) y 4 [some (.int (iZ v)), some (.int (iZ (cntB (fun j => v.testBit j = true) k))), some (.int (iZ k))] [] h (0, 0) := by
    intro m
    induction m using Nat.strongRecOn with | _ m ih =>
    intro k hm hk
    have hsel := selB (s := (v : Int)) (f := (k : Int)) (by omega)
    refine g_iload_n dX9_bitsOf_4 rfl rfl (g_bipush dX9_bitsOf_5 kb6 ?_)
    refine g_icmp_ge 24 dX9_bitsOf_7 rfl (by omega) (by omega) (fun c7 => ?_) (fun c7 => ?_)
    · skip
      refine g_iload_n dX9_bitsOf_24 rfl rfl ?_
      exact g_iret dX9_bitsOf_25 rfl rfl ⟨Nat.le_refl _, Nat.le_refl _⟩ (by obtain rfl : k = 6 := (by omega); exact ⟨rfl, rfl⟩)
    · skip
      refine g_iload_n dX9_bitsOf_10 rfl rfl (g_iload_n dX9_bitsOf_11 rfl rfl (g_iload_n dX9_bitsOf_12 rfl rfl (g_ishr dX9_bitsOf_13 (g_iconst dX9_bitsOf_14 (g_iand dX9_bitsOf_15 (g_iadd dX9_bitsOf_16 (g_ist1 dX9_bitsOf_17 (by decide) rfl (g_inc2 dX9_bitsOf_18 (by decide) rfl (g_goto 4 dX9_bitsOf_21 rfl ?_)))))))))
      have hx := ih (m - 1) (by omega) (k + 1) (by omega) (by omega)
      have hsel := hsel (by omega)
      rw [Int.toNat_natCast, Int.toNat_natCast] at hsel
      rw [hsel]
      have e : cntB (fun j => v.testBit j = true) k + (if v.testBit k = true then 1 else 0) = cntB (fun j => v.testBit j = true) (k + 1) := by (rw [cntB]; congr 1; by_cases z : v.testBit k = true; (rw [if_pos z, pI_t z]); (rw [if_neg z, pI_f z]))
      rw [e]
      exact hx
  refine g_iconst dX9_bitsOf_0 (g_ist1 dX9_bitsOf_1 (by decide) rfl (g_iconst dX9_bitsOf_2 (g_ist2 dX9_bitsOf_3 (by decide) rfl ?_)))
  exact L4 6 0 (by omega) (by omega)
theorem nx_pr {h : HM} {F : Nat → Fg} (hR : RF h F) {f g : Nat} {t v : Int} (hf : (f : Int) < h.I 151 0) (hg : (g : Int) < h.I 151 0) (hne : f ≠ g) (hc : (CrP F f g ∧ NxQ (fun d => OutF (F f) d ∧ OutF (F g) d) t v) ∨ (¬ CrP F f g ∧ v = -1)) : NxQ (PrP F f g) t v := by
  have hX := (hR.2 f (by omega) hf).2
  have hZ := (hR.2 g (by omega) hg).2
  rw [Int.toNat_natCast] at hX hZ
  rcases hc with ⟨c, q⟩ | ⟨c, e⟩
  · exact q.w (fun d => ⟨fun z => ⟨c.2.1.symm, z⟩, fun z => z.2⟩)
  · refine Or.inl ⟨e, fun d _ z => c ⟨by omega, z.1.symm, meet_out hX.1 hZ.1 z.2.1 z.2.2⟩⟩
set_option maxRecDepth 100000 in
set_option maxHeartbeats 1000000 in
theorem e_X9_first {G : GX} {y : LY} {h : HM} {d : Nat} (hY : Lay y) {F : Nat → Fg} (hR : RF h F) {t w : Int} (ht : R64 t) (hw : R32 w) : EvQW G mX9_first (d + 6) [.ref 150, .long (lZ t), .int (iZ w)] y h (fun v h1 => FrJ h h1 ∧ ((¬ ((0 ≤ t ∧ t ≤ 1000000000000) ∧ (w = 0 ∨ w = 1)) ∧ v = -1) ∨ (((0 ≤ t ∧ t ≤ 1000000000000) ∧ (w = 0 ∨ w = 1)) ∧ FirstP (h.I 151 0).toNat F t w v))) := by
  have hnf := hR.1
  have hpt := pI_01 (0 ≤ t ∧ t ≤ 1000000000000)
  have hpu := pI_eq1 (P := 0 ≤ t ∧ t ≤ 1000000000000)
  have hzw := pI_01 (0 ≤ w ∧ w ≤ 1)
  have hyw := pI_eq1 (P := 0 ≤ w ∧ w ≤ 1)
  refine Ev.of rfl [some (.ref 150), some (.long (lZ t)), none, some (.int (iZ w)), none, none, none, none, none, none, none, none] rfl (Nat.le_of_ble_eq_true rfl) ?_
  have L33 : ∀ (m : Nat) (h1 : HM) (f : Nat) (b nm : Int), (m : Int) = (h.I 151 0) - f → (f : Int) ≤ (h.I 151 0) → ((0 ≤ t ∧ t ≤ 1000000000000) ∧ (w = 0 ∨ w = 1)) → FrJ h h1 → b < 40000000000000 → BsQ (fun x z => x < z ∧ z < (h.I 151 0).toNat ∧ (x < f ∨ (x = f ∧ z < 0))) (PrP F) t b nm → Go G mX9_first (rmo (d + 6) 0 0) (ZM G y 0 0 (fun r h1 => ∃ v_ : Int, r = some (.long (lZ v_)) ∧ (fun v h1 => FrJ h h1 ∧ ((¬ ((0 ≤ t ∧ t ≤ 1000000000000) ∧ (w = 0 ∨ w = 1)) ∧ v = -1) ∨ (((0 ≤ t ∧ t ≤ 1000000000000) ∧ (w = 0 ∨ w = 1)) ∧ FirstP (h.I 151 0).toNat F t w v))) v_ h1)) y 33 [some (.ref 150), some (.long (lZ t)), none, some (.int (iZ w)), some (.long (lZ b)), none, some (.int (iZ nm)), some (.int (iZ f)), none, none, none, none] [] h1 (0, 0) := by
    intro m
    induction m using Nat.strongRecOn with | _ m ih =>
    intro h1 f b nm hm hf hok fj hbb hQ
    have e0 := fj.1 151 0 (by omega)
    have hbd := hQ.bd (n := 6) (fun f g s => ⟨by omega, by omega⟩) (by omega) (by omega)
    have L50 : ∀ (m2 : Nat) (h1 : HM) (g : Nat) (b nm : Int), (m2 : Int) = (h.I 151 0) - g → (g : Int) ≤ (h.I 151 0) → f < g → (f : Int) < (h.I 151 0) → FrJ h h1 → b < 40000000000000 → BsQ (fun x z => x < z ∧ z < (h.I 151 0).toNat ∧ (x < f ∨ (x = f ∧ z < g))) (PrP F) t b nm → Go G mX9_first (rmo (d + 6) 0 0) (ZM G y 0 0 (fun r h1 => ∃ v_ : Int, r = some (.long (lZ v_)) ∧ (fun v h1 => FrJ h h1 ∧ ((¬ ((0 ≤ t ∧ t ≤ 1000000000000) ∧ (w = 0 ∨ w = 1)) ∧ v = -1) ∨ (((0 ≤ t ∧ t ≤ 1000000000000) ∧ (w = 0 ∨ w = 1)) ∧ FirstP (h.I 151 0).toNat F t w v))) v_ h1)) y 50 [some (.ref 150), some (.long (lZ t)), none, some (.int (iZ w)), some (.long (lZ b)), none, some (.int (iZ nm)), some (.int (iZ f)), some (.int (iZ g)), none, none, none] [] h1 (0, 0) := by
      clear hbd hQ hbb e0 fj h1 b nm
      intro m2
      induction m2 using Nat.strongRecOn with | _ m2 ih2 =>
      intro h1 g b nm hm2 hg hfg hfn fj hbb hQ
      have e0 := fj.1 151 0 (by omega)
      have hR1 := fj.rF hR
      have hbd := hQ.bd (n := 6) (fun f g s => ⟨by omega, by omega⟩) (by omega) (by omega)
      have hp := pI_01 (CrP F f g)
      have hpe := pI_eq1 (P := CrP F f g)
      have L89 : ∀ (h2 : HM) (v : Int), FrJ h h2 → (g : Int) < (h.I 151 0) → NxQ (PrP F f g) t v → -1 ≤ v ∧ v < 40000000000000 → Go G mX9_first (rmo (d + 6) 0 0) (ZM G y 0 0 (fun r h1 => ∃ v_ : Int, r = some (.long (lZ v_)) ∧ (fun v h1 => FrJ h h1 ∧ ((¬ ((0 ≤ t ∧ t ≤ 1000000000000) ∧ (w = 0 ∨ w = 1)) ∧ v = -1) ∨ (((0 ≤ t ∧ t ≤ 1000000000000) ∧ (w = 0 ∨ w = 1)) ∧ FirstP (h.I 151 0).toNat F t w v))) v_ h1)) y 89 [some (.ref 150), some (.long (lZ t)), none, some (.int (iZ w)), some (.long (lZ b)), none, some (.int (iZ nm)), some (.int (iZ f)), some (.int (iZ g)), some (.long (lZ v)), none, none] [] h2 (0, 0) := by
        intro h2 v fj2 hgn hv hvb
        have hS : ∀ f' g', (fun x z => x < z ∧ z < (h.I 151 0).toNat ∧ (x < f ∨ (x = f ∧ z < g))) f' g' → f' < f ∨ (f' = f ∧ g' < g) := fun f' g' z => z.2.2
        have hSS : ∀ x z : Nat, ((fun x z => x < z ∧ z < (h.I 151 0).toNat ∧ (x < f ∨ (x = f ∧ z < g))) x z ∨ (x = f ∧ z = g)) ↔ (fun x z => x < z ∧ z < (h.I 151 0).toNat ∧ (x < f ∨ (x = f ∧ z < (g + 1)))) x z := fun x z => (by first | omega | (simp only []; omega))
        refine g_lload dX9_first_89 rfl (g_lconst (v := 0) dX9_first_91 rfl ?_)
        refine g_lcmp_lt 115 dX9_first_92 dX9_first_93 rfl (by omega) (by omega) (fun c92 => ?_) (fun c92 => ?_)
        · skip
          refine g_iconst dX9_first_115 (g_ist11 dX9_first_116 (by decide) rfl (g_iload dX9_first_118 rfl ?_))
          refine g_if_eq 128 dX9_first_120 rfl (by omega) (fun c120 => ?_) (fun c120 => ?_)
          · skip
            refine g_lload dX9_first_128 rfl (g_lst4 dX9_first_130 (by decide) rfl (g_iload dX9_first_132 rfl ?_))
            refine g_if_eq 148 dX9_first_134 rfl (by omega) (fun c134 => ?_) (fun c134 => ?_)
            · skip
              refine g_iload dX9_first_148 rfl (g_ist6 dX9_first_150 (by decide) rfl (g_inc8 dX9_first_152 (by decide) rfl (g_goto 50 dX9_first_155 rfl (g_dr9 (g_dr11 ?_)))))
              first
              | (exfalso; omega)
              | exact ih2 (m2 - 1) (by omega) h2 (g + 1) v (10 * f + g) (by omega) (by omega) (by omega) hfn fj2 (by omega) ((bs_y hQ hS hv (by omega) (by omega) (by omega)).w hSS)
              | exact ih2 (m2 - 1) (by omega) h2 (g + 1) b nm (by omega) (by omega) (by omega) hfn fj2 hbb ((bs_n hQ hS hv (by omega) (by omega)).w hSS)
            · skip
              refine g_bipush dX9_first_137 kb10 (g_iload dX9_first_139 rfl (g_imul dX9_first_141 (g_iload dX9_first_142 rfl (g_iadd dX9_first_144 (g_goto 150 dX9_first_145 rfl (g_ist6 dX9_first_150 (by decide) rfl (g_inc8 dX9_first_152 (by decide) rfl (g_goto 50 dX9_first_155 rfl (g_dr9 (g_dr11 ?_))))))))))
              first
              | (exfalso; omega)
              | exact ih2 (m2 - 1) (by omega) h2 (g + 1) v (10 * f + g) (by omega) (by omega) (by omega) hfn fj2 (by omega) ((bs_y hQ hS hv (by omega) (by omega) (by omega)).w hSS)
              | exact ih2 (m2 - 1) (by omega) h2 (g + 1) b nm (by omega) (by omega) (by omega) hfn fj2 hbb ((bs_n hQ hS hv (by omega) (by omega)).w hSS)
          · skip
            refine g_lload dX9_first_123 rfl (g_goto 130 dX9_first_125 rfl (g_lst4 dX9_first_130 (by decide) rfl (g_iload dX9_first_132 rfl ?_)))
            refine g_if_eq 148 dX9_first_134 rfl (by omega) (fun c134 => ?_) (fun c134 => ?_)
            · skip
              refine g_iload dX9_first_148 rfl (g_ist6 dX9_first_150 (by decide) rfl (g_inc8 dX9_first_152 (by decide) rfl (g_goto 50 dX9_first_155 rfl (g_dr9 (g_dr11 ?_)))))
              first
              | (exfalso; omega)
              | exact ih2 (m2 - 1) (by omega) h2 (g + 1) v (10 * f + g) (by omega) (by omega) (by omega) hfn fj2 (by omega) ((bs_y hQ hS hv (by omega) (by omega) (by omega)).w hSS)
              | exact ih2 (m2 - 1) (by omega) h2 (g + 1) b nm (by omega) (by omega) (by omega) hfn fj2 hbb ((bs_n hQ hS hv (by omega) (by omega)).w hSS)
            · skip
              refine g_bipush dX9_first_137 kb10 (g_iload dX9_first_139 rfl (g_imul dX9_first_141 (g_iload dX9_first_142 rfl (g_iadd dX9_first_144 (g_goto 150 dX9_first_145 rfl (g_ist6 dX9_first_150 (by decide) rfl (g_inc8 dX9_first_152 (by decide) rfl (g_goto 50 dX9_first_155 rfl (g_dr9 (g_dr11 ?_))))))))))
              first
              | (exfalso; omega)
              | exact ih2 (m2 - 1) (by omega) h2 (g + 1) v (10 * f + g) (by omega) (by omega) (by omega) hfn fj2 (by omega) ((bs_y hQ hS hv (by omega) (by omega) (by omega)).w hSS)
              | exact ih2 (m2 - 1) (by omega) h2 (g + 1) b nm (by omega) (by omega) (by omega) hfn fj2 hbb ((bs_n hQ hS hv (by omega) (by omega)).w hSS)
        · skip
          refine g_lload dX9_first_96 rfl (g_lconst (v := 0) dX9_first_98 rfl ?_)
          refine g_lcmp_lt 111 dX9_first_99 dX9_first_100 rfl (by omega) (by omega) (fun c99 => ?_) (fun c99 => ?_)
          · skip
            refine g_iconst dX9_first_111 (g_goto 116 dX9_first_112 rfl (g_ist11 dX9_first_116 (by decide) rfl (g_iload dX9_first_118 rfl ?_)))
            refine g_if_eq 128 dX9_first_120 rfl (by omega) (fun c120 => ?_) (fun c120 => ?_)
            · skip
              refine g_lload dX9_first_128 rfl (g_lst4 dX9_first_130 (by decide) rfl (g_iload dX9_first_132 rfl ?_))
              refine g_if_eq 148 dX9_first_134 rfl (by omega) (fun c134 => ?_) (fun c134 => ?_)
              · skip
                refine g_iload dX9_first_148 rfl (g_ist6 dX9_first_150 (by decide) rfl (g_inc8 dX9_first_152 (by decide) rfl (g_goto 50 dX9_first_155 rfl (g_dr9 (g_dr11 ?_)))))
                first
                | (exfalso; omega)
                | exact ih2 (m2 - 1) (by omega) h2 (g + 1) v (10 * f + g) (by omega) (by omega) (by omega) hfn fj2 (by omega) ((bs_y hQ hS hv (by omega) (by omega) (by omega)).w hSS)
                | exact ih2 (m2 - 1) (by omega) h2 (g + 1) b nm (by omega) (by omega) (by omega) hfn fj2 hbb ((bs_n hQ hS hv (by omega) (by omega)).w hSS)
              · skip
                refine g_bipush dX9_first_137 kb10 (g_iload dX9_first_139 rfl (g_imul dX9_first_141 (g_iload dX9_first_142 rfl (g_iadd dX9_first_144 (g_goto 150 dX9_first_145 rfl (g_ist6 dX9_first_150 (by decide) rfl (g_inc8 dX9_first_152 (by decide) rfl (g_goto 50 dX9_first_155 rfl (g_dr9 (g_dr11 ?_))))))))))
                first
                | (exfalso; omega)
                | exact ih2 (m2 - 1) (by omega) h2 (g + 1) v (10 * f + g) (by omega) (by omega) (by omega) hfn fj2 (by omega) ((bs_y hQ hS hv (by omega) (by omega) (by omega)).w hSS)
                | exact ih2 (m2 - 1) (by omega) h2 (g + 1) b nm (by omega) (by omega) (by omega) hfn fj2 hbb ((bs_n hQ hS hv (by omega) (by omega)).w hSS)
            · skip
              refine g_lload dX9_first_123 rfl (g_goto 130 dX9_first_125 rfl (g_lst4 dX9_first_130 (by decide) rfl (g_iload dX9_first_132 rfl ?_)))
              refine g_if_eq 148 dX9_first_134 rfl (by omega) (fun c134 => ?_) (fun c134 => ?_)
              · skip
                refine g_iload dX9_first_148 rfl (g_ist6 dX9_first_150 (by decide) rfl (g_inc8 dX9_first_152 (by decide) rfl (g_goto 50 dX9_first_155 rfl (g_dr9 (g_dr11 ?_)))))
                first
                | (exfalso; omega)
                | exact ih2 (m2 - 1) (by omega) h2 (g + 1) v (10 * f + g) (by omega) (by omega) (by omega) hfn fj2 (by omega) ((bs_y hQ hS hv (by omega) (by omega) (by omega)).w hSS)
                | exact ih2 (m2 - 1) (by omega) h2 (g + 1) b nm (by omega) (by omega) (by omega) hfn fj2 hbb ((bs_n hQ hS hv (by omega) (by omega)).w hSS)
              · skip
                refine g_bipush dX9_first_137 kb10 (g_iload dX9_first_139 rfl (g_imul dX9_first_141 (g_iload dX9_first_142 rfl (g_iadd dX9_first_144 (g_goto 150 dX9_first_145 rfl (g_ist6 dX9_first_150 (by decide) rfl (g_inc8 dX9_first_152 (by decide) rfl (g_goto 50 dX9_first_155 rfl (g_dr9 (g_dr11 ?_))))))))))
                first
                | (exfalso; omega)
                | exact ih2 (m2 - 1) (by omega) h2 (g + 1) v (10 * f + g) (by omega) (by omega) (by omega) hfn fj2 (by omega) ((bs_y hQ hS hv (by omega) (by omega) (by omega)).w hSS)
                | exact ih2 (m2 - 1) (by omega) h2 (g + 1) b nm (by omega) (by omega) (by omega) hfn fj2 hbb ((bs_n hQ hS hv (by omega) (by omega)).w hSS)
          · skip
            refine g_lload dX9_first_103 rfl (g_lload dX9_first_105 rfl ?_)
            refine g_lcmp_ge 115 dX9_first_107 dX9_first_108 rfl (by omega) (by omega) (fun c107 => ?_) (fun c107 => ?_)
            · skip
              refine g_iconst dX9_first_115 (g_ist11 dX9_first_116 (by decide) rfl (g_iload dX9_first_118 rfl ?_))
              refine g_if_eq 128 dX9_first_120 rfl (by omega) (fun c120 => ?_) (fun c120 => ?_)
              · skip
                refine g_lload dX9_first_128 rfl (g_lst4 dX9_first_130 (by decide) rfl (g_iload dX9_first_132 rfl ?_))
                refine g_if_eq 148 dX9_first_134 rfl (by omega) (fun c134 => ?_) (fun c134 => ?_)
                · skip
                  refine g_iload dX9_first_148 rfl (g_ist6 dX9_first_150 (by decide) rfl (g_inc8 dX9_first_152 (by decide) rfl (g_goto 50 dX9_first_155 rfl (g_dr9 (g_dr11 ?_)))))
                  first
                  | (exfalso; omega)
                  | exact ih2 (m2 - 1) (by omega) h2 (g + 1) v (10 * f + g) (by omega) (by omega) (by omega) hfn fj2 (by omega) ((bs_y hQ hS hv (by omega) (by omega) (by omega)).w hSS)
                  | exact ih2 (m2 - 1) (by omega) h2 (g + 1) b nm (by omega) (by omega) (by omega) hfn fj2 hbb ((bs_n hQ hS hv (by omega) (by omega)).w hSS)
                · skip
                  refine g_bipush dX9_first_137 kb10 (g_iload dX9_first_139 rfl (g_imul dX9_first_141 (g_iload dX9_first_142 rfl (g_iadd dX9_first_144 (g_goto 150 dX9_first_145 rfl (g_ist6 dX9_first_150 (by decide) rfl (g_inc8 dX9_first_152 (by decide) rfl (g_goto 50 dX9_first_155 rfl (g_dr9 (g_dr11 ?_))))))))))
                  first
                  | (exfalso; omega)
                  | exact ih2 (m2 - 1) (by omega) h2 (g + 1) v (10 * f + g) (by omega) (by omega) (by omega) hfn fj2 (by omega) ((bs_y hQ hS hv (by omega) (by omega) (by omega)).w hSS)
                  | exact ih2 (m2 - 1) (by omega) h2 (g + 1) b nm (by omega) (by omega) (by omega) hfn fj2 hbb ((bs_n hQ hS hv (by omega) (by omega)).w hSS)
              · skip
                refine g_lload dX9_first_123 rfl (g_goto 130 dX9_first_125 rfl (g_lst4 dX9_first_130 (by decide) rfl (g_iload dX9_first_132 rfl ?_)))
                refine g_if_eq 148 dX9_first_134 rfl (by omega) (fun c134 => ?_) (fun c134 => ?_)
                · skip
                  refine g_iload dX9_first_148 rfl (g_ist6 dX9_first_150 (by decide) rfl (g_inc8 dX9_first_152 (by decide) rfl (g_goto 50 dX9_first_155 rfl (g_dr9 (g_dr11 ?_)))))
                  first
                  | (exfalso; omega)
                  | exact ih2 (m2 - 1) (by omega) h2 (g + 1) v (10 * f + g) (by omega) (by omega) (by omega) hfn fj2 (by omega) ((bs_y hQ hS hv (by omega) (by omega) (by omega)).w hSS)
                  | exact ih2 (m2 - 1) (by omega) h2 (g + 1) b nm (by omega) (by omega) (by omega) hfn fj2 hbb ((bs_n hQ hS hv (by omega) (by omega)).w hSS)
                · skip
                  refine g_bipush dX9_first_137 kb10 (g_iload dX9_first_139 rfl (g_imul dX9_first_141 (g_iload dX9_first_142 rfl (g_iadd dX9_first_144 (g_goto 150 dX9_first_145 rfl (g_ist6 dX9_first_150 (by decide) rfl (g_inc8 dX9_first_152 (by decide) rfl (g_goto 50 dX9_first_155 rfl (g_dr9 (g_dr11 ?_))))))))))
                  first
                  | (exfalso; omega)
                  | exact ih2 (m2 - 1) (by omega) h2 (g + 1) v (10 * f + g) (by omega) (by omega) (by omega) hfn fj2 (by omega) ((bs_y hQ hS hv (by omega) (by omega) (by omega)).w hSS)
                  | exact ih2 (m2 - 1) (by omega) h2 (g + 1) b nm (by omega) (by omega) (by omega) hfn fj2 hbb ((bs_n hQ hS hv (by omega) (by omega)).w hSS)
            · skip
              refine g_iconst dX9_first_111 (g_goto 116 dX9_first_112 rfl (g_ist11 dX9_first_116 (by decide) rfl (g_iload dX9_first_118 rfl ?_)))
              refine g_if_eq 128 dX9_first_120 rfl (by omega) (fun c120 => ?_) (fun c120 => ?_)
              · skip
                refine g_lload dX9_first_128 rfl (g_lst4 dX9_first_130 (by decide) rfl (g_iload dX9_first_132 rfl ?_))
                refine g_if_eq 148 dX9_first_134 rfl (by omega) (fun c134 => ?_) (fun c134 => ?_)
                · skip
                  refine g_iload dX9_first_148 rfl (g_ist6 dX9_first_150 (by decide) rfl (g_inc8 dX9_first_152 (by decide) rfl (g_goto 50 dX9_first_155 rfl (g_dr9 (g_dr11 ?_)))))
                  first
                  | (exfalso; omega)
                  | exact ih2 (m2 - 1) (by omega) h2 (g + 1) v (10 * f + g) (by omega) (by omega) (by omega) hfn fj2 (by omega) ((bs_y hQ hS hv (by omega) (by omega) (by omega)).w hSS)
                  | exact ih2 (m2 - 1) (by omega) h2 (g + 1) b nm (by omega) (by omega) (by omega) hfn fj2 hbb ((bs_n hQ hS hv (by omega) (by omega)).w hSS)
                · skip
                  refine g_bipush dX9_first_137 kb10 (g_iload dX9_first_139 rfl (g_imul dX9_first_141 (g_iload dX9_first_142 rfl (g_iadd dX9_first_144 (g_goto 150 dX9_first_145 rfl (g_ist6 dX9_first_150 (by decide) rfl (g_inc8 dX9_first_152 (by decide) rfl (g_goto 50 dX9_first_155 rfl (g_dr9 (g_dr11 ?_))))))))))
                  first
                  | (exfalso; omega)
                  | exact ih2 (m2 - 1) (by omega) h2 (g + 1) v (10 * f + g) (by omega) (by omega) (by omega) hfn fj2 (by omega) ((bs_y hQ hS hv (by omega) (by omega) (by omega)).w hSS)
                  | exact ih2 (m2 - 1) (by omega) h2 (g + 1) b nm (by omega) (by omega) (by omega) hfn fj2 hbb ((bs_n hQ hS hv (by omega) (by omega)).w hSS)
              · skip
                refine g_lload dX9_first_123 rfl (g_goto 130 dX9_first_125 rfl (g_lst4 dX9_first_130 (by decide) rfl (g_iload dX9_first_132 rfl ?_)))
                refine g_if_eq 148 dX9_first_134 rfl (by omega) (fun c134 => ?_) (fun c134 => ?_)
                · skip
                  refine g_iload dX9_first_148 rfl (g_ist6 dX9_first_150 (by decide) rfl (g_inc8 dX9_first_152 (by decide) rfl (g_goto 50 dX9_first_155 rfl (g_dr9 (g_dr11 ?_)))))
                  first
                  | (exfalso; omega)
                  | exact ih2 (m2 - 1) (by omega) h2 (g + 1) v (10 * f + g) (by omega) (by omega) (by omega) hfn fj2 (by omega) ((bs_y hQ hS hv (by omega) (by omega) (by omega)).w hSS)
                  | exact ih2 (m2 - 1) (by omega) h2 (g + 1) b nm (by omega) (by omega) (by omega) hfn fj2 hbb ((bs_n hQ hS hv (by omega) (by omega)).w hSS)
                · skip
                  refine g_bipush dX9_first_137 kb10 (g_iload dX9_first_139 rfl (g_imul dX9_first_141 (g_iload dX9_first_142 rfl (g_iadd dX9_first_144 (g_goto 150 dX9_first_145 rfl (g_ist6 dX9_first_150 (by decide) rfl (g_inc8 dX9_first_152 (by decide) rfl (g_goto 50 dX9_first_155 rfl (g_dr9 (g_dr11 ?_))))))))))
                  first
                  | (exfalso; omega)
                  | exact ih2 (m2 - 1) (by omega) h2 (g + 1) v (10 * f + g) (by omega) (by omega) (by omega) hfn fj2 (by omega) ((bs_y hQ hS hv (by omega) (by omega) (by omega)).w hSS)
                  | exact ih2 (m2 - 1) (by omega) h2 (g + 1) b nm (by omega) (by omega) (by omega) hfn fj2 hbb ((bs_n hQ hS hv (by omega) (by omega)).w hSS)
      refine g_iload dX9_first_50 rfl (g_aload_n dX9_first_52 rfl rfl (gf_X9_7 (M := mX9_first) rfl dX9_first_53 (yo150 hY) (yr150_0 hY) (g_iconst dX9_first_56 (g_iaN 0 dX9_first_57 (ya151 hY) ⟨by decide, by decide, by decide⟩ rfl ?_))))
      refine g_icmp_ge 158 dX9_first_58 rfl (by omega) (by omega) (fun c58 => ?_) (fun c58 => ?_)
      · skip
        refine g_inc7 dX9_first_158 (by decide) rfl (g_goto 33 dX9_first_161 rfl (g_dr8 ?_))
        exact ih (m - 1) (by omega) h1 (f + 1) b nm (by omega) (by omega) hok fj hbb (hQ.w (fun x z => (by first | omega | (simp only []; omega))))
      · skip
        refine g_aload_n dX9_first_61 rfl rfl (g_iload dX9_first_62 rfl (g_iload dX9_first_64 rfl (cv_X9_242 (M := mX9_first) rfl dX9_first_66 (yo150 hY) (RO.same _ _ _) (Nat.le_of_ble_eq_true rfl) (e_X9_doCrash hY hR1 (by omega) (by omega)) <| kI ?_)))
        rw [Int.toNat_natCast, Int.toNat_natCast]
        refine g_if_eq 84 dX9_first_69 rfl (by omega) (fun c69 => ?_) (fun c69 => ?_)
        · skip
          refine c2_X9_177 (M := mX9_first) rfl dX9_first_84 (g_lst9 dX9_first_87 (by decide) rfl ?_)
          first
          | exact L89 h78 v78 (fj.tr fq) (by omega) (nx_pr hR (by omega) (by omega) (by omega) (Or.inl ⟨hpe.mp (by omega), nq⟩)) nb
          | exact L89 h1 (-1) fj (by omega) (nx_pr hR (by omega) (by omega) (by omega) (Or.inr ⟨fun z => by have := hpe.mpr z; omega, rfl⟩)) (by omega)
        · skip
          refine g_aload_n dX9_first_72 rfl rfl (g_iload dX9_first_73 rfl (g_iload dX9_first_75 rfl (g_lload_n dX9_first_77 rfl rfl ?_)))
          refine cv_X9_235 (M := mX9_first) rfl dX9_first_78 (yo150 hY) (RO.same _ _ _) (Nat.le_of_ble_eq_true rfl) (e_X9_togetherOf hY hR1 (by omega) (by omega)) (kQW fun v78 h78 hq78 => ?_)
          obtain ⟨fq, nq, nb⟩ := hq78
          rw [Int.toNat_natCast, Int.toNat_natCast] at nq
          refine g_goto 87 dX9_first_81 rfl (g_lst9 dX9_first_87 (by decide) rfl ?_)
          first
          | exact L89 h78 v78 (fj.tr fq) (by omega) (nx_pr hR (by omega) (by omega) (by omega) (Or.inl ⟨hpe.mp (by omega), nq⟩)) nb
          | exact L89 h1 (-1) fj (by omega) (nx_pr hR (by omega) (by omega) (by omega) (Or.inr ⟨fun z => by have := hpe.mpr z; omega, rfl⟩)) (by omega)
    refine g_iload dX9_first_33 rfl (g_aload_n dX9_first_35 rfl rfl (gf_X9_7 (M := mX9_first) rfl dX9_first_36 (yo150 hY) (yr150_0 hY) (g_iconst dX9_first_39 (g_iaN 0 dX9_first_40 (ya151 hY) ⟨by decide, by decide, by decide⟩ rfl ?_))))
    refine g_icmp_ge 164 dX9_first_41 rfl (by omega) (by omega) (fun c41 => ?_) (fun c41 => ?_)
    · skip
      refine g_lload dX9_first_164 rfl (cv_X9_189 (M := mX9_first) rfl dX9_first_166 (RO.same _ _ _) (Nat.le_of_ble_eq_true rfl) (e_X9_toEnd (by omega)) <| kL ?_)
      have hfin := hQ.f (by omega)
      have hSe : ∀ x z : Nat, (fun x z => x < z ∧ z < (h.I 151 0).toNat ∧ (x < f ∨ (x = f ∧ z < 0))) x z ↔ (x < z ∧ z < (h.I 151 0).toNat) := fun x z => (by first | omega | (simp only []; omega))
      by_cases ce : 1000000000000 < b ∨ b < 0
      · rw [if_pos ce]
        have hfa := (hfin.1 ce).w hSe
        refine c2_X9_183 (M := mX9_first) rfl dX9_first_169 ?_
        refine g_lcmp_ne 182 dX9_first_172 dX9_first_173 rfl (by omega) (by omega) (fun c172 => ?_) (fun c172 => ?_)
        · skip
          refine g_iload_n dX9_first_182 rfl rfl ?_
          refine g_if_ne 191 dX9_first_183 rfl (by omega) (fun c183 => ?_) (fun c183 => ?_)
          · skip
            refine g_iload dX9_first_191 rfl (g_i2l dX9_first_193 (by omega) ?_)
            exact g_lret dX9_first_194 rfl rfl ⟨Nat.le_refl _, Nat.le_refl _⟩ (by first | (exfalso; omega) | exact ⟨_, rfl, fj, Or.inr ⟨hok, _, _, hfa, by rw [if_pos rfl]⟩⟩ | exact ⟨_, rfl, fj, Or.inr ⟨hok, _, _, hfa, by rw [if_neg (by omega), if_pos (by omega)]⟩⟩ | exact ⟨_, rfl, fj, Or.inr ⟨hok, _, _, hfa, by rw [if_neg (by omega), if_neg (by omega)]⟩⟩ | (exfalso; omega))
          · skip
            refine g_lload dX9_first_186 rfl (g_goto 194 dX9_first_188 rfl ?_)
            exact g_lret dX9_first_194 rfl rfl ⟨Nat.le_refl _, Nat.le_refl _⟩ (by first | (exfalso; omega) | exact ⟨_, rfl, fj, Or.inr ⟨hok, _, _, hfa, by rw [if_pos rfl]⟩⟩ | exact ⟨_, rfl, fj, Or.inr ⟨hok, _, _, hfa, by rw [if_neg (by omega), if_pos (by omega)]⟩⟩ | exact ⟨_, rfl, fj, Or.inr ⟨hok, _, _, hfa, by rw [if_neg (by omega), if_neg (by omega)]⟩⟩ | (exfalso; omega))
        · skip
          refine c2_X9_183 (M := mX9_first) rfl dX9_first_176 (g_goto 194 dX9_first_179 rfl ?_)
          exact g_lret dX9_first_194 rfl rfl ⟨Nat.le_refl _, Nat.le_refl _⟩ (by first | (exfalso; omega) | exact ⟨_, rfl, fj, Or.inr ⟨hok, _, _, hfa, by rw [if_pos rfl]⟩⟩ | exact ⟨_, rfl, fj, Or.inr ⟨hok, _, _, hfa, by rw [if_neg (by omega), if_pos (by omega)]⟩⟩ | exact ⟨_, rfl, fj, Or.inr ⟨hok, _, _, hfa, by rw [if_neg (by omega), if_neg (by omega)]⟩⟩ | (exfalso; omega))
      · rw [if_neg ce]
        have hfa := ((hfin.2 ce).1.w hSe)
        have hnn := (hfin.2 ce).2
        refine c2_X9_183 (M := mX9_first) rfl dX9_first_169 ?_
        refine g_lcmp_ne 182 dX9_first_172 dX9_first_173 rfl (by omega) (by omega) (fun c172 => ?_) (fun c172 => ?_)
        · skip
          refine g_iload_n dX9_first_182 rfl rfl ?_
          refine g_if_ne 191 dX9_first_183 rfl (by omega) (fun c183 => ?_) (fun c183 => ?_)
          · skip
            refine g_iload dX9_first_191 rfl (g_i2l dX9_first_193 (by omega) ?_)
            exact g_lret dX9_first_194 rfl rfl ⟨Nat.le_refl _, Nat.le_refl _⟩ (by first | (exfalso; omega) | exact ⟨_, rfl, fj, Or.inr ⟨hok, _, _, hfa, by rw [if_pos rfl]⟩⟩ | exact ⟨_, rfl, fj, Or.inr ⟨hok, _, _, hfa, by rw [if_neg (by omega), if_pos (by omega)]⟩⟩ | exact ⟨_, rfl, fj, Or.inr ⟨hok, _, _, hfa, by rw [if_neg (by omega), if_neg (by omega)]⟩⟩ | (exfalso; omega))
          · skip
            refine g_lload dX9_first_186 rfl (g_goto 194 dX9_first_188 rfl ?_)
            exact g_lret dX9_first_194 rfl rfl ⟨Nat.le_refl _, Nat.le_refl _⟩ (by first | (exfalso; omega) | exact ⟨_, rfl, fj, Or.inr ⟨hok, _, _, hfa, by rw [if_pos rfl]⟩⟩ | exact ⟨_, rfl, fj, Or.inr ⟨hok, _, _, hfa, by rw [if_neg (by omega), if_pos (by omega)]⟩⟩ | exact ⟨_, rfl, fj, Or.inr ⟨hok, _, _, hfa, by rw [if_neg (by omega), if_neg (by omega)]⟩⟩ | (exfalso; omega))
        · skip
          refine c2_X9_183 (M := mX9_first) rfl dX9_first_176 (g_goto 194 dX9_first_179 rfl ?_)
          exact g_lret dX9_first_194 rfl rfl ⟨Nat.le_refl _, Nat.le_refl _⟩ (by first | (exfalso; omega) | exact ⟨_, rfl, fj, Or.inr ⟨hok, _, _, hfa, by rw [if_pos rfl]⟩⟩ | exact ⟨_, rfl, fj, Or.inr ⟨hok, _, _, hfa, by rw [if_neg (by omega), if_pos (by omega)]⟩⟩ | exact ⟨_, rfl, fj, Or.inr ⟨hok, _, _, hfa, by rw [if_neg (by omega), if_neg (by omega)]⟩⟩ | (exfalso; omega))
    · skip
      refine g_iload dX9_first_44 rfl (g_iconst dX9_first_46 (g_iadd dX9_first_47 (g_ist8 dX9_first_48 (by decide) rfl ?_)))
      exact L50 (m - 1) h1 (f + 1) b nm (by omega) (by omega) (by omega) (by omega) fj hbb (hQ.w (fun x z => (by first | omega | (simp only []; omega))))
  refine g_lload_n dX9_first_0 rfl rfl (cv_X9_165 (M := mX9_first) rfl dX9_first_1 (RO.same _ _ _) (Nat.le_of_ble_eq_true rfl) (e_X9_isDay (by omega)) <| kI ?_)
  refine g_if_eq 17 dX9_first_4 rfl (by omega) (fun c4 => ?_) (fun c4 => ?_)
  · skip
    refine c2_X9_177 (M := mX9_first) rfl dX9_first_17 ?_
    exact g_lret dX9_first_20 rfl rfl ⟨Nat.le_refl _, Nat.le_refl _⟩ (by exact ⟨-1, rfl, FrJ.rf h, Or.inl ⟨by omega, rfl⟩⟩)
  · skip
    refine g_iload_n dX9_first_7 rfl rfl (g_i2l dX9_first_8 (by omega) (g_lconst (v := 0) dX9_first_9 rfl (g_lconst (v := 1) dX9_first_10 rfl (cv_X9_71 (M := mX9_first) rfl dX9_first_11 (RO.same _ _ _) (Nat.le_of_ble_eq_true rfl) (e_X9_in (by omega) (by omega) (by omega)) <| kI ?_))))
    refine g_if_ne 21 dX9_first_14 rfl (by omega) (fun c14 => ?_) (fun c14 => ?_)
    · skip
      refine c2_X9_177 (M := mX9_first) rfl dX9_first_21 (g_lst4 dX9_first_24 (by decide) rfl (g_bipush dX9_first_26 kbm4 (g_ist6 dX9_first_28 (by decide) rfl (g_iconst dX9_first_30 (g_ist7 dX9_first_31 (by decide) rfl ?_)))))
      exact L33 (h.I 151 0).toNat h 0 (-1) (-4) (by omega) (by omega) (by omega) (FrJ.rf h) (by omega) (Or.inl ⟨rfl, rfl, fun f g s => by omega⟩)
    · skip
      refine c2_X9_177 (M := mX9_first) rfl dX9_first_17 ?_
      exact g_lret dX9_first_20 rfl rfl ⟨Nat.le_refl _, Nat.le_refl _⟩ (by exact ⟨-1, rfl, FrJ.rf h, Or.inl ⟨by omega, rfl⟩⟩)
