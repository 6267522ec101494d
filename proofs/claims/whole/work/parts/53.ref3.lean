theorem lc_eq {a b : Int} (ha : 0 < a) (hb : 0 < b) : lcI a b = (Int.lcm a b : Int) ∧ a / (Int.gcd a b : Int) * b = lcI a b := by
  have hg := gcd_bd ha hb
  obtain ⟨m, hm⟩ : (Int.gcd a b : Int) ∣ b := Int.gcd_dvd_right _ _
  obtain ⟨s, hs⟩ : (Int.gcd a b : Int) ∣ a := Int.gcd_dvd_left _ _
  have e1 : b / (Int.gcd a b : Int) = m := Int.ediv_eq_of_eq_mul_right (by omega) hm
  have e2 : a / (Int.gcd a b : Int) = s := Int.ediv_eq_of_eq_mul_right (by omega) hs
  have hl : (Int.gcd a b : Int) * (Int.lcm a b : Int) = a * b := by
    have q := Int.gcd_mul_lcm (m := a) (n := b)
    have q2 : ((Int.gcd a b * Int.lcm a b : Nat) : Int) = ((a * b).natAbs : Int) := by rw [q, Int.natAbs_mul]
    rw [Int.natCast_mul, Int.natAbs_of_nonneg (Int.le_of_lt (Int.mul_pos ha hb))] at q2
    exact q2
  unfold lcI
  rw [e1, e2]
  constructor
  · refine Int.eq_of_mul_eq_mul_left (a := (Int.gcd a b : Int)) (by omega) ?_
    rw [hl]
    calc (Int.gcd a b : Int) * (a * m) = a * ((Int.gcd a b : Int) * m) := by rw [← Int.mul_assoc, Int.mul_comm _ a, Int.mul_assoc]
      _ = a * b := by rw [← hm]
  · calc s * b = s * ((Int.gcd a b : Int) * m) := by rw [← hm]
      _ = ((Int.gcd a b : Int) * s) * m := by rw [← Int.mul_assoc, Int.mul_comm s]
      _ = a * m := by rw [← hs]
theorem lc_dvd {a b x : Int} (ha : 0 < a) (hb : 0 < b) (h1 : x % a = 0) (h2 : x % b = 0) : x % lcI a b = 0 := by
  rw [(lc_eq ha hb).1]
  exact Int.emod_eq_zero_of_dvd (Int.coe_lcm_dvd (Int.dvd_of_emod_eq_zero h1) (Int.dvd_of_emod_eq_zero h2))
theorem dvd_lc {a b x : Int} (h : x % lcI a b = 0) : x % a = 0 ∧ x % b = 0 := by
  have q := lcI_dvd (s := a) (r := b)
  have h := Int.dvd_of_emod_eq_zero h
  exact ⟨Int.emod_eq_zero_of_dvd (Int.dvd_trans q.1 h), Int.emod_eq_zero_of_dvd (Int.dvd_trans q.2 h)⟩
theorem sub0 {x z w b : Int} (h1 : (x - w) % b = 0) (h2 : (z - w) % b = 0) : (x - z) % b = 0 := by
  have : x - z = (x - w) - (z - w) := by omega
  rw [this, Int.sub_emod, h1, h2]; simp
theorem add0 {x z w b : Int} (h1 : (x - z) % b = 0) (h2 : (z - w) % b = 0) : (x - w) % b = 0 := by
  have : x - w = (x - z) + (z - w) := by omega
  rw [this, Int.add_emod, h1, h2]; simp
theorem sm {x z b : Int} (h1 : (x - z) % b = 0) : (z - x) % b = 0 := by
  have := sub0 (x := z) (z := x) (w := z) (b := b) (by simp) h1
  exact this
theorem small0 {x b : Int} (h : x % b = 0) (h1 : -b < x) (h2 : x < b) : x = 0 := by
  obtain ⟨q, hq⟩ := Int.dvd_of_emod_eq_zero h
  have hb : 0 < b := by omega
  rcases Int.lt_trichotomy q 0 with z | z | z
  · have : b * q ≤ b * (-1) := Int.mul_le_mul_of_nonneg_left (by omega) (by omega)
    omega
  · rw [z] at hq; omega
  · have : b * 1 ≤ b * q := Int.mul_le_mul_of_nonneg_left (by omega) (by omega)
    omega
/-- rests: the days that P names are those that leave one of n rests by b -/
def rsL (h : HM) (k : Int) : Int := h.L 155 k.toNat
def RsI (h : HM) (P : Int → Prop) (b n : Int) : Prop := h.I 150 18 = n ∧ h.L 150 19 = b ∧ 0 ≤ n ∧ (∀ k : Int, 0 ≤ k → k < n → 0 ≤ rsL h k ∧ rsL h k < b) ∧ (∀ k l : Int, 0 ≤ k → k < n → 0 ≤ l → l < n → rsL h k = rsL h l → k = l) ∧ ∀ d, P d ↔ ExR (rsL h) b n d
def FrJ (h h1 : HM) : Prop := (∀ a j : Nat, ¬ (a = 150 ∧ j = 18) → h1.I a j = h.I a j) ∧ ∀ a j : Nat, a ≠ 155 → a ≠ 156 → ¬ (a = 150 ∧ j = 19) → h1.L a j = h.L a j
theorem FrJ.rf (h : HM) : FrJ h h := ⟨fun _ _ _ => rfl, fun _ _ _ _ _ => rfl⟩
theorem FrJ.tr {h h1 h2 : HM} (a : FrJ h h1) (b : FrJ h1 h2) : FrJ h h2 := ⟨fun x j q => (b.1 x j q).trans (a.1 x j q), fun x j q1 q2 q3 => (b.2 x j q1 q2 q3).trans (a.2 x j q1 q2 q3)⟩
theorem FrJ.fg {h h1 : HM} (a : FrJ h h1) {f : Int} {X : Fg} (hF : RFg h f X) : RFg h1 f X := by
  unfold RFg
  rw [a.1 151 _ (by omega), a.1 151 _ (by omega), a.1 151 _ (by omega), a.1 151 _ (by omega), a.1 151 _ (by omega), a.1 151 _ (by omega)]
  exact hF
theorem FrJ.rF {h h1 : HM} (a : FrJ h h1) {F : Nat → Fg} (hR : RF h F) : RF h1 F := by
  unfold RF
  rw [a.1 151 0 (by omega)]
  exact ⟨hR.1, fun i i0 i1 => ⟨a.fg (hR.2 i i0 i1).1, (hR.2 i i0 i1).2⟩⟩
/-- pairs ahead of (k, i) -/
def Lx (k i k2 i2 : Int) : Prop := 0 ≤ k2 ∧ 0 ≤ i2 ∧ (k2 < k ∨ (k2 = k ∧ i2 < i))
def PrQ (R S : Int → Int) (b r k i n t : Int) (d : Int) : Prop := ∃ k2 i2 : Int, Lx k i k2 i2 ∧ (k2 < n ∧ i2 < t) ∧ (d - R k2) % b = 0 ∧ (d - S i2) % r = 0
def MrI (h : HM) (R S : Int → Int) (b r k i n t m : Int) : Prop := 0 ≤ m ∧ (∀ j : Int, 0 ≤ j → j < m → 0 ≤ h.L 156 j.toNat ∧ h.L 156 j.toNat < lcI b r) ∧ (∀ j l : Int, 0 ≤ j → j < m → 0 ≤ l → l < m → h.L 156 j.toNat = h.L 156 l.toNat → j = l) ∧ ∀ d, ExR (fun j => h.L 156 j.toNat) (lcI b r) m d ↔ PrQ R S b r k i n t d
theorem mr_no {h : HM} {R S : Int → Int} {b r k i n t m : Int} (hb : 0 < b) (hr : 0 < r) (hk : 0 ≤ k) (hi : 0 ≤ i) (hI : MrI h R S b r k i n t m) (hno : ∀ e : Int, 0 ≤ e → e < lcI b r → (e - R k) % b = 0 → ¬ (e - S i) % r = 0) : MrI h R S b r k (i + 1) n t m := by
  refine ⟨hI.1, hI.2.1, hI.2.2.1, fun d => (hI.2.2.2 d).trans ⟨?_, ?_⟩⟩
  · rintro ⟨k2, i2, l, bd, p⟩
    exact ⟨k2, i2, ⟨l.1, l.2.1, by have := l.2.2; omega⟩, bd, p⟩
  · rintro ⟨k2, i2, l, bd, p1, p2⟩
    rcases (by have := l.2.2; omega : (k2 < k ∨ (k2 = k ∧ i2 < i)) ∨ (k2 = k ∧ i2 = i)) with q | ⟨rfl, rfl⟩
    · exact ⟨k2, i2, ⟨l.1, l.2.1, q⟩, bd, p1, p2⟩
    · exfalso
      have hl : 0 < lcI b r := by rw [(lc_eq hb hr).1]; exact Int.natCast_pos.mpr (Int.lcm_pos (by omega) (by omega))
      have he := em_bd d hl
      have hd : (d % lcI b r - d) % lcI b r = 0 := sm (by have := sub_mm d d (lcI b r); rw [this]; simp)
      have hq := dvd_lc hd
      exact hno (d % lcI b r) he.1 he.2 (add0 hq.1 p1) (add0 hq.2 p2)
theorem mr_yes {h : HM} {R S : Int → Int} {b r k i n t m e : Int} (hb : 0 < b) (hr : 0 < r) (hk : 0 ≤ k ∧ k < n) (hi : 0 ≤ i ∧ i < t) (hR : ∀ x y d : Int, 0 ≤ x → x < n → 0 ≤ y → y < n → (d - R x) % b = 0 → (d - R y) % b = 0 → x = y) (hS : ∀ x y d : Int, 0 ≤ x → x < t → 0 ≤ y → y < t → (d - S x) % r = 0 → (d - S y) % r = 0 → x = y) (hI : MrI h R S b r k i n t m) (he : 0 ≤ e ∧ e < lcI b r) (h1 : (e - R k) % b = 0) (h2 : (e - S i) % r = 0) : MrI (h.sL 156 m.toNat e) R S b r k (i + 1) n t (m + 1) := by
  have hm := hI.1
  have en : ∀ j : Int, 0 ≤ j → j < m → (h.sL 156 m.toNat e).L 156 j.toNat = h.L 156 j.toNat := fun j j0 j1 => by rw [sL_L, if_neg (by omega)]
  have em : (h.sL 156 m.toNat e).L 156 m.toNat = e := by rw [sL_L, if_pos ⟨rfl, rfl⟩]
  have hnew : ∀ j : Int, 0 ≤ j → j < m → h.L 156 j.toNat ≠ e := fun j j0 j1 z => by
    obtain ⟨k2, i2, l, bd, p1, p2⟩ := (hI.2.2.2 e).mp ⟨j, ⟨j0, j1⟩, by show (e - h.L 156 j.toNat) % _ = 0; rw [z]; simp⟩
    have a1 := hR k2 k e l.1 bd.1 hk.1 hk.2 p1 h1
    have a2 := hS i2 i e l.2.1 bd.2 hi.1 hi.2 p2 h2
    have := l.2.2
    omega
  refine ⟨by omega, fun j j0 j1 => ?_, fun j l j0 j1 l0 l1 z => ?_, fun d => ⟨?_, ?_⟩⟩
  · rcases (by omega : j < m ∨ j = m) with q | rfl
    · rw [en j j0 q]; exact hI.2.1 j j0 q
    · rw [em]; exact he
  · rcases (by omega : j < m ∨ j = m) with q | rfl
    · rcases (by omega : l < m ∨ l = m) with w | rfl
      · rw [en j j0 q, en l l0 w] at z; exact hI.2.2.1 j l j0 q l0 w z
      · rw [en j j0 q, em] at z; exact absurd z (hnew j j0 q)
    · rcases (by omega : l < j ∨ l = j) with w | rfl
      · rw [em, en l l0 w] at z; exact absurd z.symm (hnew l l0 w)
      · rfl
  · rintro ⟨j, j1, j2⟩
    have j2 : (d - (h.sL 156 m.toNat e).L 156 j.toNat) % lcI b r = 0 := j2
    rcases (by omega : j < m ∨ j = m) with q | rfl
    · rw [en j j1.1 q] at j2
      obtain ⟨k2, i2, l, bd, p⟩ := (hI.2.2.2 d).mp ⟨j, ⟨j1.1, q⟩, j2⟩
      exact ⟨k2, i2, ⟨l.1, l.2.1, by have := l.2.2; omega⟩, bd, p⟩
    · rw [em] at j2
      have := dvd_lc j2
      exact ⟨k, i, ⟨hk.1, hi.1, by omega⟩, ⟨hk.2, hi.2⟩, add0 this.1 h1, add0 this.2 h2⟩
  · rintro ⟨k2, i2, l, bd, p1, p2⟩
    rcases (by have := l.2.2; omega : (k2 < k ∨ (k2 = k ∧ i2 < i)) ∨ (k2 = k ∧ i2 = i)) with q | ⟨rfl, rfl⟩
    · obtain ⟨j, j1, j2⟩ := (hI.2.2.2 d).mpr ⟨k2, i2, ⟨l.1, l.2.1, q⟩, bd, p1, p2⟩
      exact ⟨j, by omega, by show (d - (h.sL 156 m.toNat e).L 156 j.toNat) % _ = 0; rw [en j j1.1 j1.2]; exact j2⟩
    · exact ⟨m, by omega, by show (d - (h.sL 156 m.toNat e).L 156 m.toNat) % _ = 0; rw [em]; exact lc_dvd hb hr (sub0 p1 h1 |> fun z => by have := sub0 (x := d) (z := e) (w := R k2) p1 h1; exact this) (sub0 p2 h2)⟩
theorem mr_row {h : HM} {R S : Int → Int} {b r k n t m : Int} (hI : MrI h R S b r k t n t m) : MrI h R S b r (k + 1) 0 n t m := by
  refine ⟨hI.1, hI.2.1, hI.2.2.1, fun d => (hI.2.2.2 d).trans ⟨?_, ?_⟩⟩
  · rintro ⟨k2, i2, l, bd, p⟩
    exact ⟨k2, i2, ⟨l.1, l.2.1, by have := l.2.2; omega⟩, bd, p⟩
  · rintro ⟨k2, i2, l, bd, p⟩
    exact ⟨k2, i2, ⟨l.1, l.2.1, by have := l.2.2; have := l.2.1; omega⟩, bd, p⟩
theorem mr_0 {h : HM} {R S : Int → Int} {b r n t : Int} : MrI h R S b r 0 0 n t 0 := by
  refine ⟨Int.le_refl _, fun j j0 j1 => by omega, fun j l j0 j1 => by omega, fun d => ⟨?_, ?_⟩⟩
  · rintro ⟨j, j1, _⟩; omega
  · rintro ⟨k2, i2, l, _⟩; have := l.2.2; have := l.1; have := l.2.1; omega
theorem MrI.eq {h h1 : HM} {R S : Int → Int} {b r k i n t m : Int} (e : ∀ j, h1.L 156 j = h.L 156 j) (hI : MrI h R S b r k i n t m) : MrI h1 R S b r k i n t m := by
  unfold MrI
  simp only [e]
  exact hI
/-- the innermost search: no day that is looked at before v -/
def NoS (R0 S0 b r v : Int) : Prop := ∀ e : Int, 0 ≤ e → e < v → (e - R0) % b = 0 → ¬ (e - S0) % r = 0
theorem nos_0 {R0 S0 b r : Int} (hR : 0 ≤ R0 ∧ R0 < b) : NoS R0 S0 b r R0 := fun e e0 e1 z => by
  have := small0 z (by omega) (by omega)
  omega
theorem nos_s {R0 S0 b r v : Int} (hb : 0 < b) (hv : (v - R0) % b = 0) (h : NoS R0 S0 b r v) (hn : ¬ (v - S0) % r = 0) : NoS R0 S0 b r (v + b) := fun e e0 e1 z => by
  rcases Int.lt_trichotomy e v with q | q | q
  · exact h e e0 q z
  · rw [q]; exact hn
  · have := dv_gap hb hv z q
    omega
theorem st_b {v R0 b : Int} (hv : (v - R0) % b = 0) : (v + b - R0) % b = 0 := by
  have : v + b - R0 = (v - R0) + b := by omega
  rw [this, Int.add_emod_right]; exact hv
/-- behind the copy -/
theorem rs_new {h h1 h2 : HM} {P Q : Int → Prop} {b r n t m : Int} {S : Int → Int} (hI : RsI h P b n) (hM : MrI h1 (rsL h) S b r n 0 n t m) (hQ : ∀ d, Q d ↔ ExR S r t d) (e : ∀ k : Int, 0 ≤ k → k < m → rsL h2 k = h1.L 156 k.toNat) (e1 : h2.I 150 18 = m) (e2 : h2.L 150 19 = lcI b r) : RsI h2 (fun d => P d ∧ Q d) (lcI b r) m := by
  refine ⟨e1, e2, hM.1, fun k k0 k1 => by rw [e k k0 k1]; exact hM.2.1 k k0 k1, fun k l k0 k1 l0 l1 z => hM.2.2.1 k l k0 k1 l0 l1 (by rw [← e k k0 k1, ← e l l0 l1]; exact z), fun d => ?_⟩
  have q := hM.2.2.2 d
  constructor
  · rintro ⟨p1, p2⟩
    obtain ⟨k, k1, k2⟩ := (hI.2.2.2.2.2 d).mp p1
    obtain ⟨i, i1, i2⟩ := (hQ d).mp p2
    obtain ⟨j, j1, j2⟩ := q.mpr ⟨k, i, ⟨k1.1, i1.1, by omega⟩, ⟨k1.2, i1.2⟩, k2, i2⟩
    exact ⟨j, j1, by rw [e j j1.1 j1.2]; exact j2⟩
  · rintro ⟨j, j1, j2⟩
    obtain ⟨k, i, l, bd, p1, p2⟩ := q.mp ⟨j, j1, by rw [e j j1.1 j1.2] at j2; exact j2⟩
    exact ⟨(hI.2.2.2.2.2 d).mpr ⟨k, ⟨l.1, bd.1⟩, p1⟩, (hQ d).mpr ⟨i, ⟨l.2.1, bd.2⟩, p2⟩⟩
theorem rs_sep {h : HM} {P : Int → Prop} {b n : Int} (hb : 0 < b) (hI : RsI h P b n) : ∀ x y d : Int, 0 ≤ x → x < n → 0 ≤ y → y < n → (d - rsL h x) % b = 0 → (d - rsL h y) % b = 0 → x = y := fun x y d x0 x1 y0 y1 p q => by
  have a := hI.2.2.2.1 x x0 x1
  have c := hI.2.2.2.1 y y0 y1
  have z := sub0 (sm p) (sm q)
  exact hI.2.2.2.2.1 x y x0 x1 y0 y1 (by have := small0 z (by omega) (by omega); omega)
set_option maxRecDepth 100000 in
set_option maxHeartbeats 1000000 in
theorem e_X9_common {G : GX} {y : LY} {h : HM} {d : Nat} {a b : Int} (ha : 0 < a ∧ a ≤ 40000000000000) (hb : 0 < b ∧ b ≤ 40000000000000) : EvL G mX9_common (d) [.long (lZ a), .long (lZ b)] y h ((Int.gcd a b : Int)) := by
  refine Ev.of rfl [some (.long (lZ a)), none, some (.long (lZ b)), none, none, none, none, none, none, none] rfl (Nat.le_of_ble_eq_true rfl) ?_
  have L6 : ∀ (m : Nat) (x z : Int), m = z.toNat → (0 < x ∧ x ≤ 40000000000000) → (0 ≤ z ∧ z ≤ 40000000000000) → Int.gcd x z = Int.gcd a b → Go G mX9_common (rmo (d) 0 0) (ZM G y 0 0 (fun r h1 => r = some (.long (lZ ((Int.gcd a b : Int)))) ∧ h1 = h)) y 6 [some (.long (lZ a)), none, some (.long (lZ b)), none, some (.long (lZ x)), none, some (.long (lZ z)), none, none, none] [] h (0, 0) := by
    intro m
    induction m using Nat.strongRecOn with | _ m ih =>
    intro x z hm hx hz hg
    refine g_lload dX9_common_6 rfl (g_lconst (v := 0) dX9_common_8 rfl ?_)
    refine g_lcmp_eq 31 dX9_common_9 dX9_common_10 rfl (by omega) (by omega) (fun c9 => ?_) (fun c9 => ?_)
    · skip
      refine g_lload dX9_common_31 rfl ?_
      exact g_lret dX9_common_33 rfl rfl ⟨Nat.le_refl _, Nat.le_refl _⟩ (by refine ⟨someL ?_, rfl⟩; rw [← hg, show z = 0 by omega, Int.gcd_zero_right]; omega)
    · skip
      have hzz : 0 < z := (by omega)
      have hem := em_bd x (d := z) hzz
      refine g_lload dX9_common_13 rfl (g_lload dX9_common_15 rfl (g_lremP dX9_common_17 (by omega) (by omega) (g_lst8 dX9_common_18 (by decide) rfl (g_lload dX9_common_20 rfl (g_lst4 dX9_common_22 (by decide) rfl (g_lload dX9_common_24 rfl (g_lst6 dX9_common_26 (by decide) rfl (g_goto 6 dX9_common_28 rfl (g_dr8 ?_)))))))))
      exact ih _ (by omega) z (x % z) rfl (by omega) (by omega) ((gcd_step hx.1 hzz).trans hg)
  refine g_lload_n dX9_common_0 rfl rfl (g_lst4 dX9_common_1 (by decide) rfl (g_lload_n dX9_common_3 rfl rfl (g_lst6 dX9_common_4 (by decide) rfl ?_)))
  exact L6 _ a b rfl (by omega) (by omega) rfl
set_option maxRecDepth 100000 in
set_option maxHeartbeats 1000000 in
theorem e_X9_multiple {G : GX} {y : LY} {h : HM} {d : Nat} {a b : Int} (ha : 0 < a ∧ a ≤ 40000000000000) (hb : 0 < b ∧ b ≤ 181) : EvL G mX9_multiple (d + 1) [.long (lZ a), .long (lZ b)] y h (lcI a b) := by
  have hg := gcd_bd (a := a) (b := b) ha.1 hb.1
  refine Ev.of rfl [some (.long (lZ a)), none, some (.long (lZ b)), none] rfl (Nat.le_of_ble_eq_true rfl) ?_
  refine g_lload_n dX9_multiple_0 rfl rfl (g_lload_n dX9_multiple_1 rfl rfl (g_lload_n dX9_multiple_2 rfl rfl (cv_X9_204 (M := mX9_multiple) rfl dX9_multiple_3 (RO.same _ _ _) (Nat.le_of_ble_eq_true rfl) (e_X9_common ha (by omega)) <| kL (g_ldivP dX9_multiple_6 (by omega) (by omega) (g_lload_n dX9_multiple_7 rfl rfl (g_lmul dX9_multiple_8 ?_))))))
  exact g_lret dX9_multiple_9 rfl rfl ⟨Nat.le_refl _, Nat.le_refl _⟩ (by exact ⟨someL (lc_eq ha.1 hb.1).2, rfl⟩)
set_option maxRecDepth 100000 in
set_option maxHeartbeats 1000000 in
theorem e_X9_startsRests {G : GX} {y : LY} {h : HM} {d : Nat} (hY : Lay y) : EvV G mX9_startsRests (d) [.ref 150] y h (((h.sL 155 0 0).sI 150 18 1).sL 150 19 1) := by
  refine Ev.of rfl [some (.ref 150)] rfl (Nat.le_of_ble_eq_true rfl) ?_
  refine g_aload_n dX9_startsRests_0 rfl rfl (gf_X9_24 (M := mX9_startsRests) rfl dX9_startsRests_1 (yo150 hY) (yr150_16 hY) (g_iconst dX9_startsRests_4 (g_lconst (v := 0) dX9_startsRests_5 rfl (g_lsN 0 dX9_startsRests_6 (ya155 hY) ⟨by decide, by decide, by decide⟩ rfl (g_aload_n dX9_startsRests_7 rfl rfl (g_iconst dX9_startsRests_8 (pf_X9_208 (M := mX9_startsRests) rfl dX9_startsRests_9 (yo150 hY) (g_aload_n dX9_startsRests_12 rfl rfl (g_lconst (v := 1) dX9_startsRests_13 rfl (pf_X9_211 (M := mX9_startsRests) rfl dX9_startsRests_14 (yo150 hY) ?_))))))))))
  exact g_vret dX9_startsRests_17 rfl rfl ⟨Nat.le_refl _, Nat.le_refl _⟩ (by exact ⟨rfl, rfl⟩)
set_option maxRecDepth 100000 in
set_option maxHeartbeats 1000000 in
theorem e_X9_joinsRests {G : GX} {y : LY} {h : HM} {d : Nat} (hY : Lay y) {f : Int} {X : Fg} (hf : 0 ≤ f ∧ f ≤ 5) (hF : RFg h f X) (hB : FgB X) {P : Int → Prop} {b n : Int} (hI : RsI h P b n) (hb : 1 ≤ b ∧ b ≤ 194264244901) (hn : n ≤ 7776) : EvQV G mX9_joinsRests (d + 3) [.ref 150, .int (iZ f)] y h (fun h1 => FrJ h h1 ∧ ∃ m : Int, m ≤ n * 6 ∧ RsI h1 (fun d => P d ∧ OutF X d) (lcI b (rn X)) m) := by
  have hk := kR hB.1
  have hbw := rn_bd hB.1
  have hBB := hB
  have htb := tms_bd (la := X.la) (ga := X.ga) (by omega)
  have hlb := lcI_bd (a := b) (b := rn X) (n := 5) (by omega) (by omega)
  have hlc := lc_eq (a := b) (b := rn X) (by omega) (by omega)
  have hi18 := hI.1
  have hi19 := hI.2.1
  have hsep := rs_sep (by omega) hI
  have hsepS : ∀ x z e : Int, 0 ≤ x → x < tms X.la X.ga → 0 ≤ z → z < tms X.la X.ga → (e - rsR X x) % rn X = 0 → (e - rsR X z) % rn X = 0 → x = z := fun x z e x0 x1 z0 z1 p q => rsR_inj hB.1 ⟨x0, x1⟩ ⟨z0, z1⟩ p q
  refine Ev.of rfl [some (.ref 150), some (.int (iZ f)), none, none, none, none, none, none, none] rfl (Nat.le_of_ble_eq_true rfl) ?_
  have L125 : ∀ (c : Nat) (h1 h2 : HM) (m k : Int), (c : Int) = m - k → 0 ≤ k ∧ k ≤ m → m ≤ n * 6 → ((∀ a j : Nat, h1.I a j = h.I a j) ∧ (∀ a j : Nat, a ≠ 156 → h1.L a j = h.L a j)) → MrI h1 (rsL h) (rsR X) b (rn X) n 0 n (tms X.la X.ga) m → (∀ a j : Nat, h2.I a j = h.I a j) → (∀ a j : Nat, a ≠ 155 → h2.L a j = h1.L a j) → (∀ j : Int, 0 ≤ j → j < k → rsL h2 j = h1.L 156 j.toNat) → Go G mX9_joinsRests (rmo (d + 3) 0 0) (ZM G y 0 0 (fun r h1 => r = none ∧ (fun h1 => FrJ h h1 ∧ ∃ m : Int, m ≤ n * 6 ∧ RsI h1 (fun d => P d ∧ OutF X d) (lcI b (rn X)) m) h1)) y 125 [some (.ref 150), some (.int (iZ f)), some (.long (lZ (lcI b (rn X)))), none, some (.int (iZ m)), some (.int (iZ k)), none, none, none] [] h2 (0, 0) := by
    intro c
    induction c using Nat.strongRecOn with | _ c ih =>
    intro h1 h2 m k hc hk hm hfr hM e1 e2 e3
    have hn0 := hI.2.2.1
    refine g_iload dX9_joinsRests_125 rfl (g_iload dX9_joinsRests_127 rfl ?_)
    refine g_icmp_ge 152 dX9_joinsRests_129 rfl (by omega) (by omega) (fun c129 => ?_) (fun c129 => ?_)
    · skip
      refine g_aload_n dX9_joinsRests_152 rfl rfl (g_iload dX9_joinsRests_153 rfl (pf_X9_208 (M := mX9_joinsRests) rfl dX9_joinsRests_155 (yo150 hY) (g_aload_n dX9_joinsRests_158 rfl rfl (g_lload_n dX9_joinsRests_159 rfl rfl (pf_X9_211 (M := mX9_joinsRests) rfl dX9_joinsRests_160 (yo150 hY) ?_)))))
      exact g_vret dX9_joinsRests_163 rfl rfl ⟨Nat.le_refl _, Nat.le_refl _⟩ (by obtain rfl : k = m := (by omega); refine ⟨rfl, ⟨fun a j q => ?_, fun a j q1 q2 q3 => ?_⟩, k, hm, rs_new hI hM (fun d => out_ExR hB.1 d) (fun j j0 j1 => ?_) ?_ ?_⟩; (rw [sL_I, sI_I, if_neg q]; exact e1 a j); (rw [sL_L, if_neg q3, sI_L, e2 a j q1]; exact hfr.2 a j q2); (exact (show rsL _ j = rsL h2 j from (by unfold rsL; rw [sL_L, if_neg (by omega)]; rfl)).trans (e3 j j0 j1)); (rw [sL_I, sI_I, if_pos ⟨rfl, rfl⟩]); (rw [sL_L, if_pos ⟨rfl, rfl⟩]))
    · skip
      refine g_aload_n dX9_joinsRests_132 rfl rfl (gf_X9_24 (M := mX9_joinsRests) rfl dX9_joinsRests_133 (yo150 hY) (yr150_16 hY) (g_iload dX9_joinsRests_136 rfl (g_aload_n dX9_joinsRests_138 rfl rfl (gf_X9_28 (M := mX9_joinsRests) rfl dX9_joinsRests_139 (yo150 hY) (yr150_17 hY) (g_iload dX9_joinsRests_142 rfl (g_lald dX9_joinsRests_144 (ya156 hY) ⟨by omega, by omega, by omega⟩ (g_last dX9_joinsRests_145 (ya155 hY) ⟨by omega, by omega, by omega⟩ (g_inc5 dX9_joinsRests_146 (by decide) rfl (g_goto 125 dX9_joinsRests_149 rfl ?_)))))))))
      refine ih (c - 1) (by omega) h1 _ m (k + 1) (by omega) (by omega) hm hfr hM e1 (fun a j q => by rw [sL_L, if_neg (by omega)]; exact e2 a j q) (fun j j0 j1 => ?_)
      unfold rsL
      rw [sL_L]
      by_cases q : j = k
      · subst q; rw [if_pos ⟨rfl, rfl⟩]; exact e2 156 _ (by decide)
      · rw [if_neg (by omega)]; exact e3 j j0 (by omega)
  have L20 : ∀ (c : Nat) (h1 : HM) (m k : Int), (c : Int) = n - k → 0 ≤ k ∧ k ≤ n → m ≤ k * 6 → ((∀ a j : Nat, h1.I a j = h.I a j) ∧ (∀ a j : Nat, a ≠ 156 → h1.L a j = h.L a j)) → MrI h1 (rsL h) (rsR X) b (rn X) k 0 n (tms X.la X.ga) m → Go G mX9_joinsRests (rmo (d + 3) 0 0) (ZM G y 0 0 (fun r h1 => r = none ∧ (fun h1 => FrJ h h1 ∧ ∃ m : Int, m ≤ n * 6 ∧ RsI h1 (fun d => P d ∧ OutF X d) (lcI b (rn X)) m) h1)) y 20 [some (.ref 150), some (.int (iZ f)), some (.long (lZ (lcI b (rn X)))), none, some (.int (iZ m)), some (.int (iZ k)), none, none, none] [] h1 (0, 0) := by
    intro c
    induction c using Nat.strongRecOn with | _ c ih =>
    intro h1 m k hc hk hm hfr hM
    have hF1 : RFg h1 f X := by (unfold RFg; simp only [hfr.1]; exact hF)
    have e18 := hfr.1 150 18
    have e19 := hfr.2 150 19 (by decide)
    have hn0 := hI.2.2.1
    have L32 : ∀ (c2 : Nat) (h1 : HM) (m i : Int), (c2 : Int) = tms X.la X.ga - i → 0 ≤ i ∧ i ≤ tms X.la X.ga → k < n → m ≤ k * 6 + i → ((∀ a j : Nat, h1.I a j = h.I a j) ∧ (∀ a j : Nat, a ≠ 156 → h1.L a j = h.L a j)) → MrI h1 (rsL h) (rsR X) b (rn X) k i n (tms X.la X.ga) m → Go G mX9_joinsRests (rmo (d + 3) 0 0) (ZM G y 0 0 (fun r h1 => r = none ∧ (fun h1 => FrJ h h1 ∧ ∃ m : Int, m ≤ n * 6 ∧ RsI h1 (fun d => P d ∧ OutF X d) (lcI b (rn X)) m) h1)) y 32 [some (.ref 150), some (.int (iZ f)), some (.long (lZ (lcI b (rn X)))), none, some (.int (iZ m)), some (.int (iZ k)), some (.int (iZ i)), none, none] [] h1 (0, 0) := by
      clear hM hm hfr hF1 e18 e19 hn0 h1 m
      intro c2
      induction c2 using Nat.strongRecOn with | _ c2 ih2 =>
      intro h1 m i hc2 hi hkn hm hfr hM
      have hF1 : RFg h1 f X := by (unfold RFg; simp only [hfr.1]; exact hF)
      have e18 := hfr.1 150 18
      have e19 := hfr.2 150 19 (by decide)
      have hn0 := hI.2.2.1
      have hrb := rsR_bd hB.1 i
      have hR0 := hI.2.2.2.1 k hk.1 hkn
      have hm0 := hM.1
      have L51 : ∀ (c3 : Nat) (v : Int), c3 = (lcI b (rn X) + b - v).toNat → i < tms X.la X.ga → 0 ≤ v ∧ v < lcI b (rn X) + b → (v - rsL h k) % b = 0 → NoS (rsL h k) (rsR X i) b (rn X) v → Go G mX9_joinsRests (rmo (d + 3) 0 0) (ZM G y 0 0 (fun r h1 => r = none ∧ (fun h1 => FrJ h h1 ∧ ∃ m : Int, m ≤ n * 6 ∧ RsI h1 (fun d => P d ∧ OutF X d) (lcI b (rn X)) m) h1)) y 51 [some (.ref 150), some (.int (iZ f)), some (.long (lZ (lcI b (rn X)))), none, some (.int (iZ m)), some (.int (iZ k)), some (.int (iZ i)), some (.long (lZ v)), none] [] h1 (0, 0) := by
        intro c3
        induction c3 using Nat.strongRecOn with | _ c3 ih3 =>
        intro v hc3 hit hv hvm hno
        have hem := em_bd v (d := rn X) (by omega)
        have hmr := mod_rest (t := v) hrb
        have hmr1 := hmr.mp
        have hmr2 := hmr.mpr
        refine g_lload dX9_joinsRests_51 rfl (g_lload_n dX9_joinsRests_53 rfl rfl ?_)
        refine g_lcmp_ge 91 dX9_joinsRests_54 dX9_joinsRests_55 rfl (by omega) (by omega) (fun c54 => ?_) (fun c54 => ?_)
        · skip
          refine g_lload dX9_joinsRests_91 rfl (g_lload_n dX9_joinsRests_93 rfl rfl ?_)
          refine g_lcmp_ge 110 dX9_joinsRests_94 dX9_joinsRests_95 rfl (by omega) (by omega) (fun c94 => ?_) (fun c94 => ?_)
          · skip
            refine g_inc6 dX9_joinsRests_110 (by decide) rfl (g_goto 32 dX9_joinsRests_113 rfl (g_dr7 ?_))
            first
            | exact ih2 (c2 - 1) (by omega) h1 m (i + 1) (by omega) (by omega) hkn (by omega) hfr (mr_no (by omega) (by omega) (by omega) (by omega) hM (fun e e0 e1 z => hno e e0 (by omega) z))
            | exact ih2 (c2 - 1) (by omega) _ (m + 1) (i + 1) (by omega) (by omega) hkn (by omega) ⟨fun a j => hfr.1 a j, fun a j q => by rw [sL_L, if_neg (by omega)]; exact hfr.2 a j q⟩ (mr_yes (by omega) (by omega) ⟨by omega, hkn⟩ ⟨by omega, hit⟩ hsep hsepS hM (by omega) hvm (hmr2 (by omega)))
          · skip
            refine g_aload_n dX9_joinsRests_98 rfl rfl (gf_X9_28 (M := mX9_joinsRests) rfl dX9_joinsRests_99 (yo150 hY) (yr150_17 hY) (g_iload dX9_joinsRests_102 rfl (g_lload dX9_joinsRests_104 rfl (g_last dX9_joinsRests_106 (ya156 hY) ⟨by omega, by omega, by omega⟩ (g_inc4 dX9_joinsRests_107 (by decide) rfl (g_inc6 dX9_joinsRests_110 (by decide) rfl (g_goto 32 dX9_joinsRests_113 rfl (g_dr7 ?_))))))))
            first
            | exact ih2 (c2 - 1) (by omega) h1 m (i + 1) (by omega) (by omega) hkn (by omega) hfr (mr_no (by omega) (by omega) (by omega) (by omega) hM (fun e e0 e1 z => hno e e0 (by omega) z))
            | exact ih2 (c2 - 1) (by omega) _ (m + 1) (i + 1) (by omega) (by omega) hkn (by omega) ⟨fun a j => hfr.1 a j, fun a j q => by rw [sL_L, if_neg (by omega)]; exact hfr.2 a j q⟩ (mr_yes (by omega) (by omega) ⟨by omega, hkn⟩ ⟨by omega, hit⟩ hsep hsepS hM (by omega) hvm (hmr2 (by omega)))
        · skip
          refine g_lload dX9_joinsRests_58 rfl (g_aload_n dX9_joinsRests_60 rfl rfl (g_iload_n dX9_joinsRests_61 rfl rfl (cv_X9_152 (M := mX9_joinsRests) rfl dX9_joinsRests_62 (yo150 hY) (RO.same _ _ _) (Nat.le_of_ble_eq_true rfl) (e_X9_roundOf hY hf hF1 hB) <| kI (g_i2l dX9_joinsRests_65 (by omega) (g_lremP dX9_joinsRests_66 (by omega) (by omega) (g_aload_n dX9_joinsRests_67 rfl rfl (g_iload_n dX9_joinsRests_68 rfl rfl (g_iload dX9_joinsRests_69 rfl (cv_X9_160 (M := mX9_joinsRests) rfl dX9_joinsRests_71 (yo150 hY) (RO.same _ _ _) (Nat.le_of_ble_eq_true rfl) (e_X9_restOf hY hf hF1 hB (by omega)) <| kI (g_i2l dX9_joinsRests_74 (by omega) ?_))))))))))
          refine g_lcmp_eq 91 dX9_joinsRests_75 dX9_joinsRests_76 rfl (by omega) (by omega) (fun c75 => ?_) (fun c75 => ?_)
          · skip
            refine g_lload dX9_joinsRests_91 rfl (g_lload_n dX9_joinsRests_93 rfl rfl ?_)
            refine g_lcmp_ge 110 dX9_joinsRests_94 dX9_joinsRests_95 rfl (by omega) (by omega) (fun c94 => ?_) (fun c94 => ?_)
            · skip
              refine g_inc6 dX9_joinsRests_110 (by decide) rfl (g_goto 32 dX9_joinsRests_113 rfl (g_dr7 ?_))
              first
              | exact ih2 (c2 - 1) (by omega) h1 m (i + 1) (by omega) (by omega) hkn (by omega) hfr (mr_no (by omega) (by omega) (by omega) (by omega) hM (fun e e0 e1 z => hno e e0 (by omega) z))
              | exact ih2 (c2 - 1) (by omega) _ (m + 1) (i + 1) (by omega) (by omega) hkn (by omega) ⟨fun a j => hfr.1 a j, fun a j q => by rw [sL_L, if_neg (by omega)]; exact hfr.2 a j q⟩ (mr_yes (by omega) (by omega) ⟨by omega, hkn⟩ ⟨by omega, hit⟩ hsep hsepS hM (by omega) hvm (hmr2 (by omega)))
            · skip
              refine g_aload_n dX9_joinsRests_98 rfl rfl (gf_X9_28 (M := mX9_joinsRests) rfl dX9_joinsRests_99 (yo150 hY) (yr150_17 hY) (g_iload dX9_joinsRests_102 rfl (g_lload dX9_joinsRests_104 rfl (g_last dX9_joinsRests_106 (ya156 hY) ⟨by omega, by omega, by omega⟩ (g_inc4 dX9_joinsRests_107 (by decide) rfl (g_inc6 dX9_joinsRests_110 (by decide) rfl (g_goto 32 dX9_joinsRests_113 rfl (g_dr7 ?_))))))))
              first
              | exact ih2 (c2 - 1) (by omega) h1 m (i + 1) (by omega) (by omega) hkn (by omega) hfr (mr_no (by omega) (by omega) (by omega) (by omega) hM (fun e e0 e1 z => hno e e0 (by omega) z))
              | exact ih2 (c2 - 1) (by omega) _ (m + 1) (i + 1) (by omega) (by omega) hkn (by omega) ⟨fun a j => hfr.1 a j, fun a j q => by rw [sL_L, if_neg (by omega)]; exact hfr.2 a j q⟩ (mr_yes (by omega) (by omega) ⟨by omega, hkn⟩ ⟨by omega, hit⟩ hsep hsepS hM (by omega) hvm (hmr2 (by omega)))
          · skip
            refine g_lload dX9_joinsRests_79 rfl (g_aload_n dX9_joinsRests_81 rfl rfl (gf_X9_211 (M := mX9_joinsRests) rfl dX9_joinsRests_82 (yo150 hY) (g_ladd dX9_joinsRests_85 (g_lst7 dX9_joinsRests_86 (by decide) rfl (g_goto 51 dX9_joinsRests_88 rfl ?_)))))
            rw [e19, hi19]
            exact ih3 _ (by omega) (v + b) rfl hit (by omega) (st_b hvm) (nos_s (by omega) hvm hno (fun z => by have := hmr1 z; omega))
      refine g_iload dX9_joinsRests_32 rfl (g_aload_n dX9_joinsRests_34 rfl rfl (g_iload_n dX9_joinsRests_35 rfl rfl (cv_X9_157 (M := mX9_joinsRests) rfl dX9_joinsRests_36 (yo150 hY) (RO.same _ _ _) (Nat.le_of_ble_eq_true rfl) (e_X9_timesOf hY hf hF1 hB) <| kI ?_)))
      refine g_icmp_ge 116 dX9_joinsRests_39 rfl (by omega) (by omega) (fun c39 => ?_) (fun c39 => ?_)
      · skip
        refine g_inc5 dX9_joinsRests_116 (by decide) rfl (g_goto 20 dX9_joinsRests_119 rfl (g_dr6 ?_))
        obtain rfl : i = tms X.la X.ga := (by omega)
        exact ih (c - 1) (by omega) h1 m (k + 1) (by omega) (by omega) (by omega) hfr (mr_row hM)
      · skip
        refine g_aload_n dX9_joinsRests_42 rfl rfl (gf_X9_24 (M := mX9_joinsRests) rfl dX9_joinsRests_43 (yo150 hY) (yr150_16 hY) (g_iload dX9_joinsRests_46 rfl (g_lald dX9_joinsRests_48 (ya155 hY) ⟨by omega, by omega, by omega⟩ (g_lst7 dX9_joinsRests_49 (by decide) rfl ?_))))
        rw [hfr.2 155 _ (by decide)]
        exact L51 _ (rsL h k) rfl (by omega) (by omega) (by simp) (nos_0 hR0)
    refine g_iload dX9_joinsRests_20 rfl (g_aload_n dX9_joinsRests_22 rfl rfl (gf_X9_208 (M := mX9_joinsRests) rfl dX9_joinsRests_23 (yo150 hY) ?_))
    refine g_icmp_ge 122 dX9_joinsRests_26 rfl (by omega) (by omega) (fun c26 => ?_) (fun c26 => ?_)
    · skip
      refine g_iconst dX9_joinsRests_122 (g_ist5 dX9_joinsRests_123 (by decide) rfl ?_)
      obtain rfl : k = n := (by omega)
      exact L125 m.toNat h1 h1 m 0 (by have := hM.1; omega) (by have := hM.1; omega) (by omega) hfr hM hfr.1 (fun _ _ _ => rfl) (fun j j0 j1 => by omega)
    · skip
      refine g_iconst dX9_joinsRests_29 (g_ist6 dX9_joinsRests_30 (by decide) rfl ?_)
      exact L32 (tms X.la X.ga).toNat h1 m 0 (by omega) (by omega) (by omega) (by omega) hfr hM
  refine g_aload_n dX9_joinsRests_0 rfl rfl (gf_X9_211 (M := mX9_joinsRests) rfl dX9_joinsRests_1 (yo150 hY) (g_aload_n dX9_joinsRests_4 rfl rfl (g_iload_n dX9_joinsRests_5 rfl rfl (cv_X9_152 (M := mX9_joinsRests) rfl dX9_joinsRests_6 (yo150 hY) (RO.same _ _ _) (Nat.le_of_ble_eq_true rfl) (e_X9_roundOf hY hf hF hB) <| kI (g_i2l dX9_joinsRests_9 (by omega) (cv_X9_215 (M := mX9_joinsRests) rfl dX9_joinsRests_10 (RO.same _ _ _) (Nat.le_of_ble_eq_true rfl) (e_X9_multiple (by omega) (by omega)) <| kL ?_))))))
  rw [hi19]
  refine g_lst2 dX9_joinsRests_13 (by decide) rfl (g_iconst dX9_joinsRests_14 (g_ist4 dX9_joinsRests_15 (by decide) rfl (g_iconst dX9_joinsRests_17 (g_ist5 dX9_joinsRests_18 (by decide) rfl ?_))))
  exact L20 n.toNat h 0 0 (by have := hI.2.2.1; omega) (by have := hI.2.2.1; omega) (by omega) ⟨fun _ _ => rfl, fun _ _ _ => rfl⟩ mr_0
