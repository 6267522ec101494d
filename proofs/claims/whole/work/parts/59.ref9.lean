/-! votes and what was seen, in the reference -/
abbrev Sg : Type := Int × Int × Int
def RVg (h : HM) (i : Int) (V : Fg) : Prop := h.I 151 (38 + 5 * i).toNat = V.1 ∧ h.I 151 (38 + 5 * i + 1).toNat = V.2.1 ∧ h.I 151 (38 + 5 * i + 2).toNat = V.2.2.1 ∧ h.I 151 (38 + 5 * i + 3).toNat = V.2.2.2.1 ∧ h.I 151 (38 + 5 * i + 4).toNat = V.2.2.2.2
def RV (h : HM) (V : Nat → Fg) : Prop := (0 ≤ h.I 151 37 ∧ h.I 151 37 ≤ 6) ∧ ∀ i : Int, 0 ≤ i → i < h.I 151 37 → RVg h i (V i.toNat) ∧ VoB (V i.toNat) ∧ (V i.toNat).2.1 < h.I 151 0
def RSg (h : HM) (i : Int) (S : Sg) : Prop := h.I 151 (72 + 3 * i).toNat = S.1 ∧ h.I 151 (72 + 3 * i + 1).toNat = S.2.1 ∧ h.I 151 (72 + 3 * i + 2).toNat = S.2.2
abbrev SgB (S : Sg) : Prop := (0 ≤ S.1 ∧ S.1 ≤ 6) ∧ (0 ≤ S.2.1 ∧ S.2.1 ≤ 30000) ∧ (S.2.2 = 0 ∨ S.2.2 = 1)
def RS (h : HM) (S : Nat → Sg) : Prop := (0 ≤ h.I 151 71 ∧ h.I 151 71 ≤ 12) ∧ ∀ i : Int, 0 ≤ i → i < h.I 151 71 → RSg h i (S i.toNat) ∧ SgB (S i.toNat)
def upS (S : Nat → Sg) (k : Nat) (x : Sg) : Nat → Sg := fun i => if i = k then x else S i
def lvR (V : Nat → Fg) (nv : Int) : Int := if 0 < nv then (V (nv - 1).toNat).1 else 0
/-- only the row st has changed, and there neither below lo nor from hi on -/
def FrR (h h1 : HM) (lo hi : Nat) : Prop := h1.L = h.L ∧ ∀ a j : Nat, (a ≠ 151 ∨ j < lo ∨ hi ≤ j) → h1.I a j = h.I a j
theorem FrR.rf (h : HM) (lo hi : Nat) : FrR h h lo hi := ⟨rfl, fun _ _ _ => rfl⟩
theorem FrR.s {h h1 : HM} {lo hi : Nat} (f : FrR h h1 lo hi) {k : Nat} (hk : lo ≤ k ∧ k < hi) (v : Int) : FrR h (h1.sI 151 k v) lo hi := ⟨f.1, fun a j q => by rw [sI_I, if_neg (by omega)]; exact f.2 a j q⟩
theorem FrR.tr {h h1 h2 : HM} {lo hi : Nat} (a : FrR h h1 lo hi) (b : FrR h1 h2 lo hi) : FrR h h2 lo hi := ⟨b.1.trans a.1, fun x j q => (b.2 x j q).trans (a.2 x j q)⟩
theorem FrR.w {h h1 : HM} {lo hi lo2 hi2 : Nat} (f : FrR h h1 lo hi) (q : lo2 ≤ lo ∧ hi ≤ hi2) : FrR h h1 lo2 hi2 := ⟨f.1, fun a j z => f.2 a j (by omega)⟩
theorem FrR.rF {h h1 : HM} {lo hi : Nat} {F : Nat → Fg} (f : FrR h h1 lo hi) (q : 37 ≤ lo) (hR : RF h F) : RF h1 F := by
  have hn := hR.1
  have e0 := f.2 151 0 (by omega)
  unfold RF
  rw [e0]
  refine ⟨hn, fun i i0 i1 => ⟨?_, (hR.2 i i0 i1).2⟩⟩
  unfold RFg
  rw [f.2 151 _ (by omega), f.2 151 _ (by omega), f.2 151 _ (by omega), f.2 151 _ (by omega), f.2 151 _ (by omega), f.2 151 _ (by omega)]
  exact (hR.2 i i0 i1).1
theorem FrR.rV {h h1 : HM} {lo hi : Nat} {V : Nat → Fg} (f : FrR h h1 lo hi) (q : 68 ≤ lo) (hV : RV h V) : RV h1 V := by
  have hn := hV.1
  unfold RV
  rw [f.2 151 37 (by omega), f.2 151 0 (by omega)]
  refine ⟨hn, fun i i0 i1 => ⟨?_, (hV.2 i i0 i1).2⟩⟩
  unfold RVg
  rw [f.2 151 _ (by omega), f.2 151 _ (by omega), f.2 151 _ (by omega), f.2 151 _ (by omega), f.2 151 _ (by omega)]
  exact (hV.2 i i0 i1).1
theorem FrR.rS {h h1 : HM} {lo hi : Nat} {S : Nat → Sg} (f : FrR h h1 lo hi) (q : hi ≤ 71) (hS : RS h S) : RS h1 S := by
  have hn := hS.1
  unfold RS
  rw [f.2 151 71 (by omega)]
  refine ⟨hn, fun i i0 i1 => ⟨?_, (hS.2 i i0 i1).2⟩⟩
  unfold RSg
  rw [f.2 151 _ (by omega), f.2 151 _ (by omega), f.2 151 _ (by omega)]
  exact (hS.2 i i0 i1).1
/-- a vote more -/
theorem rv_add {h : HM} {V : Nat → Fg} (hV : RV h V) (h5 : h.I 151 37 ≤ 5) {a b c d e : Int} (hB : VoB (a, b, c, d, e)) (hb : b < h.I 151 0) : RV ((((((h.sI 151 (38 + 5 * h.I 151 37).toNat a).sI 151 (38 + 5 * h.I 151 37 + 1).toNat b).sI 151 (38 + 5 * h.I 151 37 + 2).toNat c).sI 151 (38 + 5 * h.I 151 37 + 3).toNat d).sI 151 (38 + 5 * h.I 151 37 + 4).toNat e).sI 151 37 (h.I 151 37 + 1)) (upF V (h.I 151 37).toNat (a, b, c, d, e)) ∧ FrR h ((((((h.sI 151 (38 + 5 * h.I 151 37).toNat a).sI 151 (38 + 5 * h.I 151 37 + 1).toNat b).sI 151 (38 + 5 * h.I 151 37 + 2).toNat c).sI 151 (38 + 5 * h.I 151 37 + 3).toNat d).sI 151 (38 + 5 * h.I 151 37 + 4).toNat e).sI 151 37 (h.I 151 37 + 1)) 37 68 := by
  have hn := hV.1
  generalize hN : h.I 151 37 = n at *
  refine ⟨⟨?_, fun i i0 i1 => ?_⟩, ((((((FrR.rf h 37 68).s (by omega) a).s (by omega) b).s (by omega) c).s (by omega) d).s (by omega) e).s (by omega) _⟩
  · rw [sI_I, if_pos ⟨rfl, rfl⟩]; omega
  · rw [sI_I, if_pos ⟨rfl, rfl⟩] at i1
    have e0 : ((((((h.sI 151 (38 + 5 * n).toNat a).sI 151 (38 + 5 * n + 1).toNat b).sI 151 (38 + 5 * n + 2).toNat c).sI 151 (38 + 5 * n + 3).toNat d).sI 151 (38 + 5 * n + 4).toNat e).sI 151 37 (n + 1)).I 151 0 = h.I 151 0 := by
      rw [sI_I, if_neg (by omega), sI_I, if_neg (by omega), sI_I, if_neg (by omega), sI_I, if_neg (by omega), sI_I, if_neg (by omega), sI_I, if_neg (by omega)]
    rw [e0]
    unfold upF
    by_cases q : i = n
    · subst q
      rw [if_pos rfl]
      refine ⟨⟨?_, ?_, ?_, ?_, ?_⟩, hB, hb⟩
      · rw [sI_I, if_neg (by omega), sI_I, if_neg (by omega), sI_I, if_neg (by omega), sI_I, if_neg (by omega), sI_I, if_neg (by omega), sI_I, if_pos ⟨rfl, rfl⟩]
      · rw [sI_I, if_neg (by omega), sI_I, if_neg (by omega), sI_I, if_neg (by omega), sI_I, if_neg (by omega), sI_I, if_pos ⟨rfl, rfl⟩]
      · rw [sI_I, if_neg (by omega), sI_I, if_neg (by omega), sI_I, if_neg (by omega), sI_I, if_pos ⟨rfl, rfl⟩]
      · rw [sI_I, if_neg (by omega), sI_I, if_neg (by omega), sI_I, if_pos ⟨rfl, rfl⟩]
      · rw [sI_I, if_neg (by omega), sI_I, if_pos ⟨rfl, rfl⟩]
    · rw [if_neg (by omega)]
      have hi := hV.2 i i0 (by omega)
      refine ⟨?_, hi.2⟩
      have ee : ∀ k : Int, 0 ≤ k → k ≤ 4 → ((((((h.sI 151 (38 + 5 * n).toNat a).sI 151 (38 + 5 * n + 1).toNat b).sI 151 (38 + 5 * n + 2).toNat c).sI 151 (38 + 5 * n + 3).toNat d).sI 151 (38 + 5 * n + 4).toNat e).sI 151 37 (n + 1)).I 151 (38 + 5 * i + k).toNat = h.I 151 (38 + 5 * i + k).toNat := fun k k0 k1 => by
        rw [sI_I, if_neg (by omega), sI_I, if_neg (by omega), sI_I, if_neg (by omega), sI_I, if_neg (by omega), sI_I, if_neg (by omega), sI_I, if_neg (by omega)]
      have e00 := ee 0 (by omega) (by omega)
      rw [Int.add_zero] at e00
      exact ⟨e00.trans hi.1.1, (ee 1 (by omega) (by omega)).trans hi.1.2.1, (ee 2 (by omega) (by omega)).trans hi.1.2.2.1, (ee 3 (by omega) (by omega)).trans hi.1.2.2.2.1, (ee 4 (by omega) (by omega)).trans hi.1.2.2.2.2⟩
theorem rs_add {h : HM} {S : Nat → Sg} (hS : RS h S) (h5 : h.I 151 71 ≤ 11) {a b c : Int} (hB : SgB (a, b, c)) : RS ((((h.sI 151 (72 + 3 * h.I 151 71).toNat a).sI 151 (72 + 3 * h.I 151 71 + 1).toNat b).sI 151 (72 + 3 * h.I 151 71 + 2).toNat c).sI 151 71 (h.I 151 71 + 1)) (upS S (h.I 151 71).toNat (a, b, c)) ∧ FrR h ((((h.sI 151 (72 + 3 * h.I 151 71).toNat a).sI 151 (72 + 3 * h.I 151 71 + 1).toNat b).sI 151 (72 + 3 * h.I 151 71 + 2).toNat c).sI 151 71 (h.I 151 71 + 1)) 71 108 := by
  have hn := hS.1
  generalize hN : h.I 151 71 = n at *
  refine ⟨⟨?_, fun i i0 i1 => ?_⟩, ((((FrR.rf h 71 108).s (by omega) a).s (by omega) b).s (by omega) c).s (by omega) _⟩
  · rw [sI_I, if_pos ⟨rfl, rfl⟩]; omega
  · rw [sI_I, if_pos ⟨rfl, rfl⟩] at i1
    unfold upS
    by_cases q : i = n
    · subst q
      rw [if_pos rfl]
      refine ⟨⟨?_, ?_, ?_⟩, hB⟩
      · rw [sI_I, if_neg (by omega), sI_I, if_neg (by omega), sI_I, if_neg (by omega), sI_I, if_pos ⟨rfl, rfl⟩]
      · rw [sI_I, if_neg (by omega), sI_I, if_neg (by omega), sI_I, if_pos ⟨rfl, rfl⟩]
      · rw [sI_I, if_neg (by omega), sI_I, if_pos ⟨rfl, rfl⟩]
    · rw [if_neg (by omega)]
      have hi := hS.2 i i0 (by omega)
      refine ⟨?_, hi.2⟩
      have ee : ∀ k : Int, 0 ≤ k → k ≤ 2 → ((((h.sI 151 (72 + 3 * n).toNat a).sI 151 (72 + 3 * n + 1).toNat b).sI 151 (72 + 3 * n + 2).toNat c).sI 151 71 (n + 1)).I 151 (72 + 3 * i + k).toNat = h.I 151 (72 + 3 * i + k).toNat := fun k k0 k1 => by
        rw [sI_I, if_neg (by omega), sI_I, if_neg (by omega), sI_I, if_neg (by omega), sI_I, if_neg (by omega)]
      have e00 := ee 0 (by omega) (by omega)
      rw [Int.add_zero] at e00
      exact ⟨e00.trans hi.1.1, (ee 1 (by omega) (by omega)).trans hi.1.2.1, (ee 2 (by omega) (by omega)).trans hi.1.2.2⟩
/-- votes held, one by one -/
def hdF (F V : Nat → Fg) : Nat → Nat → Fg
  | 0 => F
  | k + 1 => upF (hdF F V k) (V k).2.1.toNat ((V k).2.2.1, (V k).2.2.2.1, (V k).2.2.2.2, 0, 0)
def wr6 (h : HM) (g te st dr : Int) : HM := (((((h.sI 151 (1 + 6 * g + 0).toNat 0).sI 151 (1 + 6 * g + 1).toNat te).sI 151 (1 + 6 * g + 2).toNat st).sI 151 (1 + 6 * g + 3).toNat dr).sI 151 (1 + 6 * g + 4).toNat (-4)).sI 151 (1 + 6 * g + 5).toNat (-4)
theorem wr6_F {h : HM} {F : Nat → Fg} (hR : RF h F) {g te st dr : Int} (hg : 0 ≤ g ∧ g < h.I 151 0) (hB : FgB (te, st, dr, 0, 0)) : RF (wr6 h g te st dr) (upF F g.toNat (te, st, dr, 0, 0)) ∧ FrR h (wr6 h g te st dr) 1 37 := by
  have hn := hR.1
  have hfr : FrR h (wr6 h g te st dr) 1 37 := (((((((FrR.rf h 1 37).s (by omega) 0).s (by omega) te).s (by omega) st).s (by omega) dr).s (by omega) (-4)).s (by omega) (-4))
  have e0 := hfr.2 151 0 (by omega)
  refine ⟨⟨by rw [e0]; exact hn, fun i i0 i1 => ?_⟩, hfr⟩
  rw [e0] at i1
  unfold upF
  by_cases q : i = g
  · subst q
    rw [if_pos rfl]
    refine ⟨⟨?_, ?_, ?_, ?_, ?_, ?_⟩, hB⟩
    · unfold wr6; rw [sI_I, if_neg (by omega), sI_I, if_neg (by omega), sI_I, if_neg (by omega), sI_I, if_neg (by omega), sI_I, if_neg (by omega), sI_I, if_pos ⟨rfl, rfl⟩]; rfl
    · unfold wr6; rw [sI_I, if_neg (by omega), sI_I, if_neg (by omega), sI_I, if_neg (by omega), sI_I, if_neg (by omega), sI_I, if_pos ⟨rfl, rfl⟩]; rfl
    · unfold wr6; rw [sI_I, if_neg (by omega), sI_I, if_neg (by omega), sI_I, if_neg (by omega), sI_I, if_pos ⟨rfl, rfl⟩]; rfl
    · unfold wr6; rw [sI_I, if_neg (by omega), sI_I, if_neg (by omega), sI_I, if_pos ⟨rfl, rfl⟩]; rfl
    · unfold wr6; rw [sI_I, if_neg (by omega), sI_I, if_pos ⟨rfl, rfl⟩]; rfl
    · unfold wr6; rw [sI_I, if_pos ⟨rfl, rfl⟩]; rfl
  · rw [if_neg (by omega)]
    have hi := hR.2 i i0 i1
    refine ⟨?_, hi.2⟩
    have ee : ∀ k : Int, 0 ≤ k → k ≤ 5 → (wr6 h g te st dr).I 151 (1 + 6 * i + k).toNat = h.I 151 (1 + 6 * i + k).toNat := fun k k0 k1 => by
      unfold wr6; rw [sI_I, if_neg (by omega), sI_I, if_neg (by omega), sI_I, if_neg (by omega), sI_I, if_neg (by omega), sI_I, if_neg (by omega), sI_I, if_neg (by omega)]
    unfold RFg
    rw [ee 0 (by omega) (by omega), ee 1 (by omega) (by omega), ee 2 (by omega) (by omega), ee 3 (by omega) (by omega), ee 4 (by omega) (by omega), ee 5 (by omega) (by omega)]
    exact hi.1
theorem rv_sh {h h1 h2 : HM} {V : Nat → Fg} {n : Int} (hV : RV h V) (hn : 0 ≤ n ∧ n ≤ h.I 151 37) (hf : FrR h h1 1 37) (e : ∀ j : Nat, h2.I 151 j = if 38 ≤ j ∧ (j : Int) < 38 + 5 * (h.I 151 37 - n) then (h1.sI 151 37 (h.I 151 37 - n)).I 151 (j + (5 * n).toNat) else (h1.sI 151 37 (h.I 151 37 - n)).I 151 j) : RV h2 (fun i => V (i + n.toNat)) := by
  have hnv := hV.1
  have e0 : h2.I 151 0 = h.I 151 0 := by rw [e 0, if_neg (by omega), sI_I, if_neg (by omega)]; exact hf.2 151 0 (by omega)
  have e37 : h2.I 151 37 = h.I 151 37 - n := by rw [e 37, if_neg (by omega), sI_I, if_pos ⟨rfl, rfl⟩]
  refine ⟨by rw [e37]; omega, fun i i0 i1 => ?_⟩
  rw [e37] at i1
  have hi := hV.2 (i + n) (by omega) (by omega)
  rw [show (i + n).toNat = i.toNat + n.toNat by omega] at hi
  refine ⟨?_, hi.2.1, by rw [e0]; exact hi.2.2⟩
  have ee : ∀ k : Int, 0 ≤ k → k ≤ 4 → h2.I 151 (38 + 5 * i + k).toNat = h.I 151 (38 + 5 * (i + n) + k).toNat := fun k k0 k1 => by
    rw [e, if_pos (by omega), sI_I, if_neg (by omega), hf.2 151 _ (by omega)]
    congr 1; omega
  have e00 := ee 0 (by omega) (by omega)
  rw [Int.add_zero, Int.add_zero] at e00
  exact ⟨e00.trans hi.1.1, (ee 1 (by omega) (by omega)).trans hi.1.2.1, (ee 2 (by omega) (by omega)).trans hi.1.2.2.1, (ee 3 (by omega) (by omega)).trans hi.1.2.2.2.1, (ee 4 (by omega) (by omega)).trans hi.1.2.2.2.2⟩
set_option maxRecDepth 100000 in
set_option maxHeartbeats 1000000 in
theorem e_X9_hold {G : GX} {y : LY} {h : HM} {d : Nat} (hY : Lay y) {F : Nat → Fg} (hR : RF h F) {V : Nat → Fg} (hV : RV h V) {n : Int} (hn : R32 n) : EvQX G mX9_hold (d + 6) [.ref 150, .int (iZ n)] y h (fun v h1 => (¬ (0 ≤ n ∧ n ≤ (h.I 151 37)) ∧ v = -1 ∧ h1 = h) ∨ ((0 ≤ n ∧ n ≤ (h.I 151 37)) ∧ v = hmS (hdF F V n.toNat) (h.I 151 0).toNat (h.I 151 0).toNat ∧ RF h1 (hdF F V n.toNat) ∧ RV h1 (fun i => V (i + n.toNat)) ∧ h1.I 151 37 = (h.I 151 37) - n ∧ FrR h h1 1 68)) := by
  have hnf := hR.1
  have hnv := hV.1
  have hzn := pI_01 (0 ≤ n ∧ n ≤ (h.I 151 37))
  have hyn := pI_eq1 (P := 0 ≤ n ∧ n ≤ (h.I 151 37))
  refine Ev.of rfl [some (.ref 150), some (.int (iZ n)), none, none, none] rfl (Nat.le_of_ble_eq_true rfl) ?_
  have L150 : ∀ (m : Nat) (h1 h2 : HM) (k : Int), (m : Int) = 5 * ((h.I 151 37) - n) - k → 0 ≤ k ∧ k ≤ 5 * ((h.I 151 37) - n) → (0 ≤ n ∧ n ≤ (h.I 151 37)) → FrR h h1 1 37 → RF h1 (hdF F V n.toNat) → (∀ a j : Nat, a ≠ 151 → h2.I a j = h.I a j) → h2.L = h.L → (∀ j : Nat, h2.I 151 j = if 38 ≤ j ∧ (j : Int) < 38 + k then (h1.sI 151 37 ((h.I 151 37) - n)).I 151 (j + (5 * n).toNat) else (h1.sI 151 37 ((h.I 151 37) - n)).I 151 j) → Go G mX9_hold (rmo (d + 6) 0 0) (ZM G y 0 0 (fun r h1 => ∃ v_ : Int, r = some (.int (iZ v_)) ∧ (fun v h1 => (¬ (0 ≤ n ∧ n ≤ (h.I 151 37)) ∧ v = -1 ∧ h1 = h) ∨ ((0 ≤ n ∧ n ≤ (h.I 151 37)) ∧ v = hmS (hdF F V n.toNat) (h.I 151 0).toNat (h.I 151 0).toNat ∧ RF h1 (hdF F V n.toNat) ∧ RV h1 (fun i => V (i + n.toNat)) ∧ h1.I 151 37 = (h.I 151 37) - n ∧ FrR h h1 1 68)) v_ h1)) y 150 [some (.ref 150), some (.int (iZ n)), some (.int (iZ k)), none, none] [] h2 (0, 0) := by
    intro m
    induction m using Nat.strongRecOn with | _ m ih =>
    intro h1 h2 k hm hk hok hfr hR1 ea el e
    have e37 : h2.I 151 37 = (h.I 151 37) - n := by rw [e 37, if_neg (by omega), sI_I, if_pos ⟨rfl, rfl⟩]
    have hfr2 : FrR h h2 1 68 := ⟨el, fun a j q => by (by_cases z : a = 151; (subst z; rw [e j, if_neg (by omega), sI_I, if_neg (by omega)]; exact hfr.2 151 j (by omega)); exact ea a j z)⟩
    have hR2 : RF h2 (hdF F V n.toNat) := by (have q : ∀ j : Nat, j < 37 → h2.I 151 j = h1.I 151 j := (fun j hj => by rw [e j, if_neg (by omega), sI_I, if_neg (by omega)]); have hn1 := hR1.1; have q0 := q 0 (by omega); refine ⟨by rw [q0]; exact hn1, fun i i0 i1 => ⟨?_, (hR1.2 i i0 (by rw [q0] at i1; exact i1)).2⟩⟩; rw [q0] at i1; unfold RFg; rw [q _ (by omega), q _ (by omega), q _ (by omega), q _ (by omega), q _ (by omega), q _ (by omega)]; exact (hR1.2 i i0 i1).1)
    have e20 : h2.I 151 0 = h.I 151 0 := hfr2.2 151 0 (by omega)
    have hab := alN_bd (F := hdF F V n.toNat) (n := (h.I 151 0).toNat) (h.I 151 0).toNat
    have h64 : 2 ^ (h.I 151 0).toNat ≤ 2 ^ 6 := Nat.pow_le_pow_right (by decide) (by omega)
    have hbh := bits_hm (F := hdF F V n.toNat) (n := (h.I 151 0).toNat) (by omega)
    refine g_iload_n dX9_hold_150 rfl rfl (g_iconst dX9_hold_151 (g_aload_n dX9_hold_152 rfl rfl (gf_X9_7 (M := mX9_hold) rfl dX9_hold_153 (yo150 hY) (yr150_0 hY) (g_bipush dX9_hold_156 kb37 (g_iaN 37 dX9_hold_158 (ya151 hY) ⟨by decide, by decide, by decide⟩ rfl (g_imul dX9_hold_159 ?_))))))
    refine g_icmp_ge 191 dX9_hold_160 rfl (by omega) (by omega) (fun c160 => ?_) (fun c160 => ?_)
    · skip
      refine g_aload_n dX9_hold_191 rfl rfl (cv_X9_297 (M := mX9_hold) rfl dX9_hold_192 (yo150 hY) (RO.same _ _ _) (Nat.le_of_ble_eq_true rfl) (e_X9_allCrash hY hR2) <| kI ?_)
      rw [e20]
      refine cv_X9_300 (M := mX9_hold) rfl dX9_hold_195 (RO.same _ _ _) (Nat.le_of_ble_eq_true rfl) (e_X9_bitsOf (by omega)) <| kI ?_
      rw [hbh]
      exact g_iret dX9_hold_198 rfl rfl ⟨Nat.le_refl _, Nat.le_refl _⟩ (by obtain rfl : k = 5 * ((h.I 151 37) - n) := (by omega); exact ⟨_, rfl, Or.inr ⟨hok, rfl, hR2, rv_sh hV hok hfr e, e37, hfr2⟩⟩)
    · skip
      refine g_aload_n dX9_hold_163 rfl rfl (gf_X9_7 (M := mX9_hold) rfl dX9_hold_164 (yo150 hY) (yr150_0 hY) (g_bipush dX9_hold_167 kb38 (g_iload_n dX9_hold_169 rfl rfl (g_iadd dX9_hold_170 (g_aload_n dX9_hold_171 rfl rfl (gf_X9_7 (M := mX9_hold) rfl dX9_hold_172 (yo150 hY) (yr150_0 hY) (g_bipush dX9_hold_175 kb38 (g_iconst dX9_hold_177 (g_iload_n dX9_hold_178 rfl rfl (g_imul dX9_hold_179 (g_iadd dX9_hold_180 ?_)))))))))))
      refine g_iload_n dX9_hold_181 rfl rfl (g_iadd dX9_hold_182 (g_iald dX9_hold_183 (ya151 hY) ⟨by omega, by omega, by omega⟩ (g_iast dX9_hold_184 (ya151 hY) ⟨by omega, by omega, by omega⟩ (g_inc2 dX9_hold_185 (by decide) rfl (g_goto 150 dX9_hold_188 rfl ?_)))))
      refine ih (m - 1) (by omega) h1 _ (k + 1) (by omega) (by omega) hok hfr hR1 (fun a j q => by rw [sI_I, if_neg (by omega)]; exact ea a j q) el (fun j => ?_)
      rw [sI_I]
      by_cases q : j = (38 + k).toNat
      · subst q; rw [if_pos ⟨rfl, rfl⟩, if_pos (by omega), e, if_neg (by omega)]; congr 1; omega
      · rw [if_neg (fun z => q z.2), e j]; by_cases z : 38 ≤ j ∧ (j : Int) < 38 + k; (rw [if_pos z, if_pos (by omega)]); (rw [if_neg z, if_neg (by omega)])
  have L21 : ∀ (m : Nat) (h1 : HM) (k : Nat), (m : Int) = n - k → (k : Int) ≤ n → (0 ≤ n ∧ n ≤ (h.I 151 37)) → FrR h h1 1 37 → RF h1 (hdF F V k) → Go G mX9_hold (rmo (d + 6) 0 0) (ZM G y 0 0 (fun r h1 => ∃ v_ : Int, r = some (.int (iZ v_)) ∧ (fun v h1 => (¬ (0 ≤ n ∧ n ≤ (h.I 151 37)) ∧ v = -1 ∧ h1 = h) ∨ ((0 ≤ n ∧ n ≤ (h.I 151 37)) ∧ v = hmS (hdF F V n.toNat) (h.I 151 0).toNat (h.I 151 0).toNat ∧ RF h1 (hdF F V n.toNat) ∧ RV h1 (fun i => V (i + n.toNat)) ∧ h1.I 151 37 = (h.I 151 37) - n ∧ FrR h h1 1 68)) v_ h1)) y 21 [some (.ref 150), some (.int (iZ n)), some (.int (iZ k)), none, none] [] h1 (0, 0) := by
    intro m
    induction m using Nat.strongRecOn with | _ m ih =>
    intro h1 k hm hk hok hfr hR1
    have e0 := hfr.2 151 0 (by omega)
    have e37 := hfr.2 151 37 (by omega)
    refine g_iload_n dX9_hold_21 rfl rfl (g_iload_n dX9_hold_22 rfl rfl ?_)
    refine g_icmp_ge 137 dX9_hold_23 rfl (by omega) (by omega) (fun c23 => ?_) (fun c23 => ?_)
    · skip
      refine g_aload_n dX9_hold_137 rfl rfl (gf_X9_7 (M := mX9_hold) rfl dX9_hold_138 (yo150 hY) (yr150_0 hY) (g_bipush dX9_hold_141 kb37 (g_dup2 dX9_hold_143 rfl rfl (g_iaN 37 dX9_hold_144 (ya151 hY) ⟨by decide, by decide, by decide⟩ rfl (g_iload_n dX9_hold_145 rfl rfl (g_isub dX9_hold_146 (g_isN 37 dX9_hold_147 (ya151 hY) ⟨by decide, by decide, by decide⟩ rfl (g_iconst dX9_hold_148 (g_ist2 dX9_hold_149 (by decide) rfl ?_)))))))))
      obtain rfl : k = n.toNat := (by omega)
      rw [e37]
      refine L150 (5 * ((h.I 151 37) - n)).toNat h1 _ 0 (by omega) (by omega) hok hfr hR1 (fun a j q => by rw [sI_I, if_neg (by omega)]; exact hfr.2 a j (by omega)) hfr.1 (fun j => ?_)
      rw [if_neg (by omega)]
    · skip
      have hvk := hV.2 (k : Int) (by omega) (by omega)
      rw [Int.toNat_natCast] at hvk
      have hvb := hvk.2.1
      have w1 := (hfr.2 151 (38 + 5 * (k : Int) + 1).toNat (by omega)).trans hvk.1.2.1
      have w2 := (hfr.2 151 (38 + 5 * (k : Int) + 2).toNat (by omega)).trans hvk.1.2.2.1
      have w3 := (hfr.2 151 (38 + 5 * (k : Int) + 3).toNat (by omega)).trans hvk.1.2.2.2.1
      have w4 := (hfr.2 151 (38 + 5 * (k : Int) + 4).toNat (by omega)).trans hvk.1.2.2.2.2
      refine g_bipush dX9_hold_26 kb38 (g_iconst dX9_hold_28 (g_iload_n dX9_hold_29 rfl rfl (g_imul dX9_hold_30 (g_iadd dX9_hold_31 (g_ist3 dX9_hold_32 (by decide) rfl (g_iconst dX9_hold_33 (g_bipush dX9_hold_34 kb6 (g_aload_n dX9_hold_36 rfl rfl (gf_X9_7 (M := mX9_hold) rfl dX9_hold_37 (yo150 hY) (yr150_0 hY) (g_iload_n dX9_hold_40 rfl rfl (g_iconst dX9_hold_41 ?_)))))))))))
      refine g_iadd dX9_hold_42 (g_iald dX9_hold_43 (ya151 hY) ⟨by omega, by omega, by omega⟩ ?_)
      rw [w1]
      refine g_imul dX9_hold_44 (g_iadd dX9_hold_45 (g_ist4 dX9_hold_46 (by decide) rfl (g_aload_n dX9_hold_48 rfl rfl (gf_X9_7 (M := mX9_hold) rfl dX9_hold_49 (yo150 hY) (yr150_0 hY) (g_iload dX9_hold_52 rfl (g_iconst dX9_hold_54 (g_iadd dX9_hold_55 (g_iconst dX9_hold_56 (g_iast dX9_hold_57 (ya151 hY) ⟨by omega, by omega, by omega⟩ (g_aload_n dX9_hold_58 rfl rfl (gf_X9_7 (M := mX9_hold) rfl dX9_hold_59 (yo150 hY) (yr150_0 hY) ?_)))))))))))
      refine g_iload dX9_hold_62 rfl (g_iconst dX9_hold_64 (g_iadd dX9_hold_65 (g_aload_n dX9_hold_66 rfl rfl (gf_X9_7 (M := mX9_hold) rfl dX9_hold_67 (yo150 hY) (yr150_0 hY) (g_iload_n dX9_hold_70 rfl rfl (g_iconst dX9_hold_71 (g_iadd dX9_hold_72 (g_iald dX9_hold_73 (ya151 hY) ⟨by omega, by omega, by omega⟩ ?_))))))))
      rw [sI_I, if_neg (by omega), w2]
      refine g_iast dX9_hold_74 (ya151 hY) ⟨by omega, by omega, by omega⟩ (g_aload_n dX9_hold_75 rfl rfl (gf_X9_7 (M := mX9_hold) rfl dX9_hold_76 (yo150 hY) (yr150_0 hY) (g_iload dX9_hold_79 rfl (g_iconst dX9_hold_81 (g_iadd dX9_hold_82 (g_aload_n dX9_hold_83 rfl rfl (gf_X9_7 (M := mX9_hold) rfl dX9_hold_84 (yo150 hY) (yr150_0 hY) (g_iload_n dX9_hold_87 rfl rfl (g_iconst dX9_hold_88 (g_iadd dX9_hold_89 (g_iald dX9_hold_90 (ya151 hY) ⟨by omega, by omega, by omega⟩ ?_)))))))))))
      rw [sI_I, if_neg (by omega), sI_I, if_neg (by omega), w3]
      refine g_iast dX9_hold_91 (ya151 hY) ⟨by omega, by omega, by omega⟩ (g_aload_n dX9_hold_92 rfl rfl (gf_X9_7 (M := mX9_hold) rfl dX9_hold_93 (yo150 hY) (yr150_0 hY) (g_iload dX9_hold_96 rfl (g_iconst dX9_hold_98 (g_iadd dX9_hold_99 (g_aload_n dX9_hold_100 rfl rfl (gf_X9_7 (M := mX9_hold) rfl dX9_hold_101 (yo150 hY) (yr150_0 hY) (g_iload_n dX9_hold_104 rfl rfl (g_iconst dX9_hold_105 (g_iadd dX9_hold_106 (g_iald dX9_hold_107 (ya151 hY) ⟨by omega, by omega, by omega⟩ ?_)))))))))))
      rw [sI_I, if_neg (by omega), sI_I, if_neg (by omega), sI_I, if_neg (by omega), w4]
      refine g_iast dX9_hold_108 (ya151 hY) ⟨by omega, by omega, by omega⟩ (g_aload_n dX9_hold_109 rfl rfl (gf_X9_7 (M := mX9_hold) rfl dX9_hold_110 (yo150 hY) (yr150_0 hY) (g_iload dX9_hold_113 rfl (g_iconst dX9_hold_115 (g_iadd dX9_hold_116 (g_bipush dX9_hold_117 kbm4 (g_iast dX9_hold_119 (ya151 hY) ⟨by omega, by omega, by omega⟩ (g_aload_n dX9_hold_120 rfl rfl (gf_X9_7 (M := mX9_hold) rfl dX9_hold_121 (yo150 hY) (yr150_0 hY) (g_iload dX9_hold_124 rfl (g_iconst dX9_hold_126 ?_)))))))))))
      refine g_iadd dX9_hold_127 (g_bipush dX9_hold_128 kbm4 (g_iast dX9_hold_130 (ya151 hY) ⟨by omega, by omega, by omega⟩ (g_inc2 dX9_hold_131 (by decide) rfl (g_goto 21 dX9_hold_134 rfl (g_dr3 (g_dr4 ?_))))))
      have hx := wr6_F hR1 (g := (V k).2.1) (te := (V k).2.2.1) (st := (V k).2.2.2.1) (dr := (V k).2.2.2.2) (by omega) ⟨⟨hvb.2.2.1.1, hvb.2.2.1.2, by show (0 : Int) ≤ 0; decide, by show (0 : Int) ≤ 3; decide, by show (0 : Int) ≤ 0; decide, by show (0 : Int) < (V k).2.2.1; omega⟩, hvb.2.2.2.1.1, hvb.2.2.2.1.2, hvb.2.2.2.2.1, hvb.2.2.2.2.2⟩
      exact ih (m - 1) (by omega) _ (k + 1) (by omega) (by omega) hok (hfr.tr hx.2) hx.1
  refine g_iload_n dX9_hold_0 rfl rfl (g_i2l dX9_hold_1 (by omega) (g_lconst (v := 0) dX9_hold_2 rfl (g_aload_n dX9_hold_3 rfl rfl (gf_X9_7 (M := mX9_hold) rfl dX9_hold_4 (yo150 hY) (yr150_0 hY) (g_bipush dX9_hold_7 kb37 (g_iaN 37 dX9_hold_9 (ya151 hY) ⟨by decide, by decide, by decide⟩ rfl (g_i2l dX9_hold_10 (by omega) (cv_X9_71 (M := mX9_hold) rfl dX9_hold_11 (RO.same _ _ _) (Nat.le_of_ble_eq_true rfl) (e_X9_in (by omega) (by omega) (by omega)) <| kI ?_))))))))
  refine g_if_ne 19 dX9_hold_14 rfl (by omega) (fun c14 => ?_) (fun c14 => ?_)
  · skip
    refine g_iconst dX9_hold_19 (g_ist2 dX9_hold_20 (by decide) rfl ?_)
    exact L21 n.toNat h 0 (by omega) (by omega) (by omega) (FrR.rf h 1 37) hR
  · skip
    refine g_iconst dX9_hold_17 ?_
    exact g_iret dX9_hold_18 rfl rfl ⟨Nat.le_refl _, Nat.le_refl _⟩ (by exact ⟨-1, rfl, Or.inl ⟨by omega, rfl, rfl⟩⟩)
set_option maxRecDepth 100000 in
set_option maxHeartbeats 1000000 in
theorem e_X9_ask {G : GX} {y : LY} {h : HM} {d : Nat} (hY : Lay y) {F : Nat → Fg} (hR : RF h F) {V : Nat → Fg} (hV : RV h V) {a f n k e : Int} (ha : R32 a) (hf : R32 f) (hn : R32 n) (hk : R32 k) (he : R32 e) : EvQX G mX9_ask (d + 2) [.ref 150, .int (iZ a), .int (iZ f), .int (iZ n), .int (iZ k), .int (iZ e)] y h (fun v h1 => (¬ ((lvR V (h.I 151 37) ≤ a ∧ a ≤ 99) ∧ (0 ≤ f ∧ f < (h.I 151 0)) ∧ (2 ≤ n ∧ n ≤ 60 ∧ 0 ≤ k ∧ k < n) ∧ (0 ≤ e ∧ e ≤ 8)) ∧ v = -1 ∧ h1 = h) ∨ (((lvR V (h.I 151 37) ≤ a ∧ a ≤ 99) ∧ (0 ≤ f ∧ f < (h.I 151 0)) ∧ (2 ≤ n ∧ n ≤ 60 ∧ 0 ≤ k ∧ k < n) ∧ (0 ≤ e ∧ e ≤ 8)) ∧ ((6 ≤ (h.I 151 37) ∧ v = -3 ∧ h1 = h) ∨ ((h.I 151 37) < 6 ∧ v = (h.I 151 37) + 1 ∧ RV h1 (upF V (h.I 151 37).toNat (a, f, n, k, e)) ∧ h1.I 151 37 = (h.I 151 37) + 1 ∧ FrR h h1 37 68)))) := by
  have hnf := hR.1
  have hnv := hV.1
  have hlv : ((h.I 151 37) = 0 ∧ lvR V (h.I 151 37) = 0) ∨ (0 < (h.I 151 37) ∧ lvR V (h.I 151 37) = h.I 151 (38 + 5 * (h.I 151 37) - 5).toNat ∧ 0 ≤ lvR V (h.I 151 37) ∧ lvR V (h.I 151 37) ≤ 99) := by
    by_cases q : 0 < (h.I 151 37)
    · have hi := hV.2 ((h.I 151 37) - 1) (by omega) (by omega)
      refine Or.inr ⟨q, ?_⟩
      unfold lvR
      rw [if_pos q, show 38 + 5 * (h.I 151 37) - 5 = 38 + 5 * ((h.I 151 37) - 1) by omega]
      exact ⟨hi.1.1.symm, hi.2.1.1.1, hi.2.1.1.2⟩
    · exact Or.inl ⟨by omega, by unfold lvR; rw [if_neg q]⟩
  refine Ev.of rfl [some (.ref 150), some (.int (iZ a)), some (.int (iZ f)), some (.int (iZ n)), some (.int (iZ k)), some (.int (iZ e)), none, none] rfl (Nat.le_of_ble_eq_true rfl) ?_
  refine g_aload_n dX9_ask_0 rfl rfl (gf_X9_7 (M := mX9_ask) rfl dX9_ask_1 (yo150 hY) (yr150_0 hY) (g_bipush dX9_ask_4 kb37 (g_iaN 37 dX9_ask_6 (ya151 hY) ⟨by decide, by decide, by decide⟩ rfl (g_ist6 dX9_ask_7 (by decide) rfl (g_bipush dX9_ask_9 kb38 (g_iconst dX9_ask_11 (g_iload dX9_ask_12 rfl (g_imul dX9_ask_14 (g_iadd dX9_ask_15 (g_ist7 dX9_ask_16 (by decide) rfl (g_iload_n dX9_ask_18 rfl rfl ?_)))))))))))
  refine g_i2l dX9_ask_19 (by omega) (g_iload dX9_ask_20 rfl ?_)
  refine g_if_ne 29 dX9_ask_22 rfl (by omega) (fun c22 => ?_) (fun c22 => ?_)
  · skip
    refine g_aload_n dX9_ask_29 rfl rfl (gf_X9_7 (M := mX9_ask) rfl dX9_ask_30 (yo150 hY) (yr150_0 hY) (g_iload dX9_ask_33 rfl (g_iconst dX9_ask_35 (g_isub dX9_ask_36 (g_iald dX9_ask_37 (ya151 hY) ⟨by omega, by omega, by omega⟩ (g_i2l dX9_ask_38 (by omega) (c2_X9_303 (M := mX9_ask) rfl dX9_ask_39 (cv_X9_71 (M := mX9_ask) rfl dX9_ask_42 (RO.same _ _ _) (Nat.le_of_ble_eq_true rfl) (e_X9_in (by omega) (by omega) (by omega)) <| kI ?_))))))))
    refine g_if_eq 97 dX9_ask_45 rfl (pI_r _) (fun c45 => ?_) (fun c45 => ?_)
    · have k45 := pI_eq0.mp c45
      refine g_iconst dX9_ask_97 ?_
      exact g_iret dX9_ask_98 rfl rfl ⟨Nat.le_refl _, Nat.le_refl _⟩ (by first | exact ⟨-1, rfl, Or.inl ⟨by omega, rfl, rfl⟩⟩ | exact ⟨-3, rfl, Or.inr ⟨by omega, Or.inl ⟨by omega, rfl, rfl⟩⟩⟩ | (have hx := rv_add hV (by omega) (a := a) (b := f) (c := n) (d := k) (e := e) ⟨⟨by show 0 ≤ a; omega, by show a ≤ 99; omega⟩, ⟨by show 0 ≤ f; omega, by show f < 6; omega⟩, ⟨by show 2 ≤ n; omega, by show n ≤ 60; omega⟩, ⟨by show 0 ≤ k; omega, by show k < n; omega⟩, ⟨by show 0 ≤ e; omega, by show e ≤ 8; omega⟩⟩ (by omega); exact ⟨_, rfl, Or.inr ⟨by omega, Or.inr ⟨by omega, rfl, hx.1, by rw [sI_I, if_pos ⟨rfl, rfl⟩], hx.2⟩⟩⟩))
    · have k45 := pI_ne c45
      refine g_aload_n dX9_ask_48 rfl rfl (g_iload_n dX9_ask_49 rfl rfl (cv_X9_146 (M := mX9_ask) rfl dX9_ask_50 (yo150 hY) (RO.same _ _ _) (Nat.le_of_ble_eq_true rfl) (e_X9_isFigure hY (by omega) (by omega)) <| kI ?_))
      refine g_if_eq 97 dX9_ask_53 rfl (pI_r _) (fun c53 => ?_) (fun c53 => ?_)
      · have k53 := pI_eq0.mp c53
        refine g_iconst dX9_ask_97 ?_
        exact g_iret dX9_ask_98 rfl rfl ⟨Nat.le_refl _, Nat.le_refl _⟩ (by first | exact ⟨-1, rfl, Or.inl ⟨by omega, rfl, rfl⟩⟩ | exact ⟨-3, rfl, Or.inr ⟨by omega, Or.inl ⟨by omega, rfl, rfl⟩⟩⟩ | (have hx := rv_add hV (by omega) (a := a) (b := f) (c := n) (d := k) (e := e) ⟨⟨by show 0 ≤ a; omega, by show a ≤ 99; omega⟩, ⟨by show 0 ≤ f; omega, by show f < 6; omega⟩, ⟨by show 2 ≤ n; omega, by show n ≤ 60; omega⟩, ⟨by show 0 ≤ k; omega, by show k < n; omega⟩, ⟨by show 0 ≤ e; omega, by show e ≤ 8; omega⟩⟩ (by omega); exact ⟨_, rfl, Or.inr ⟨by omega, Or.inr ⟨by omega, rfl, hx.1, by rw [sI_I, if_pos ⟨rfl, rfl⟩], hx.2⟩⟩⟩))
      · have k53 := pI_ne c53
        refine g_iload_n dX9_ask_56 rfl rfl (g_i2l dX9_ask_57 (by omega) (c2_X9_278 (M := mX9_ask) rfl dX9_ask_58 (c2_X9_280 (M := mX9_ask) rfl dX9_ask_61 (cv_X9_71 (M := mX9_ask) rfl dX9_ask_64 (RO.same _ _ _) (Nat.le_of_ble_eq_true rfl) (e_X9_in (by omega) (by omega) (by omega)) <| kI ?_))))
        refine g_if_eq 97 dX9_ask_67 rfl (pI_r _) (fun c67 => ?_) (fun c67 => ?_)
        · have k67 := pI_eq0.mp c67
          refine g_iconst dX9_ask_97 ?_
          exact g_iret dX9_ask_98 rfl rfl ⟨Nat.le_refl _, Nat.le_refl _⟩ (by first | exact ⟨-1, rfl, Or.inl ⟨by omega, rfl, rfl⟩⟩ | exact ⟨-3, rfl, Or.inr ⟨by omega, Or.inl ⟨by omega, rfl, rfl⟩⟩⟩ | (have hx := rv_add hV (by omega) (a := a) (b := f) (c := n) (d := k) (e := e) ⟨⟨by show 0 ≤ a; omega, by show a ≤ 99; omega⟩, ⟨by show 0 ≤ f; omega, by show f < 6; omega⟩, ⟨by show 2 ≤ n; omega, by show n ≤ 60; omega⟩, ⟨by show 0 ≤ k; omega, by show k < n; omega⟩, ⟨by show 0 ≤ e; omega, by show e ≤ 8; omega⟩⟩ (by omega); exact ⟨_, rfl, Or.inr ⟨by omega, Or.inr ⟨by omega, rfl, hx.1, by rw [sI_I, if_pos ⟨rfl, rfl⟩], hx.2⟩⟩⟩))
        · have k67 := pI_ne c67
          refine g_iload dX9_ask_70 rfl (g_i2l dX9_ask_72 (by omega) (g_lconst (v := 0) dX9_ask_73 rfl (g_iload_n dX9_ask_74 rfl rfl (g_iconst dX9_ask_75 (g_isub dX9_ask_76 (g_i2l dX9_ask_77 (by omega) (cv_X9_71 (M := mX9_ask) rfl dX9_ask_78 (RO.same _ _ _) (Nat.le_of_ble_eq_true rfl) (e_X9_in (by omega) (by omega) (by omega)) <| kI ?_)))))))
          refine g_if_eq 97 dX9_ask_81 rfl (pI_r _) (fun c81 => ?_) (fun c81 => ?_)
          · have k81 := pI_eq0.mp c81
            refine g_iconst dX9_ask_97 ?_
            exact g_iret dX9_ask_98 rfl rfl ⟨Nat.le_refl _, Nat.le_refl _⟩ (by first | exact ⟨-1, rfl, Or.inl ⟨by omega, rfl, rfl⟩⟩ | exact ⟨-3, rfl, Or.inr ⟨by omega, Or.inl ⟨by omega, rfl, rfl⟩⟩⟩ | (have hx := rv_add hV (by omega) (a := a) (b := f) (c := n) (d := k) (e := e) ⟨⟨by show 0 ≤ a; omega, by show a ≤ 99; omega⟩, ⟨by show 0 ≤ f; omega, by show f < 6; omega⟩, ⟨by show 2 ≤ n; omega, by show n ≤ 60; omega⟩, ⟨by show 0 ≤ k; omega, by show k < n; omega⟩, ⟨by show 0 ≤ e; omega, by show e ≤ 8; omega⟩⟩ (by omega); exact ⟨_, rfl, Or.inr ⟨by omega, Or.inr ⟨by omega, rfl, hx.1, by rw [sI_I, if_pos ⟨rfl, rfl⟩], hx.2⟩⟩⟩))
          · have k81 := pI_ne c81
            refine g_iload dX9_ask_84 rfl (g_i2l dX9_ask_86 (by omega) (g_lconst (v := 0) dX9_ask_87 rfl (c2_X9_276 (M := mX9_ask) rfl dX9_ask_88 (cv_X9_71 (M := mX9_ask) rfl dX9_ask_91 (RO.same _ _ _) (Nat.le_of_ble_eq_true rfl) (e_X9_in (by omega) (by omega) (by omega)) <| kI ?_))))
            refine g_if_ne 99 dX9_ask_94 rfl (pI_r _) (fun c94 => ?_) (fun c94 => ?_)
            · have k94 := pI_ne c94
              refine g_iload dX9_ask_99 rfl (g_bipush dX9_ask_101 kb6 ?_)
              refine g_icmp_ne 109 dX9_ask_103 rfl (by omega) (by omega) (fun c103 => ?_) (fun c103 => ?_)
              · skip
                refine g_aload_n dX9_ask_109 rfl rfl (gf_X9_7 (M := mX9_ask) rfl dX9_ask_110 (yo150 hY) (yr150_0 hY) (g_iload dX9_ask_113 rfl (g_iload_n dX9_ask_115 rfl rfl (g_iast dX9_ask_116 (ya151 hY) ⟨by omega, by omega, by omega⟩ (g_aload_n dX9_ask_117 rfl rfl (gf_X9_7 (M := mX9_ask) rfl dX9_ask_118 (yo150 hY) (yr150_0 hY) (g_iload dX9_ask_121 rfl (g_iconst dX9_ask_123 (g_iadd dX9_ask_124 (g_iload_n dX9_ask_125 rfl rfl (g_iast dX9_ask_126 (ya151 hY) ⟨by omega, by omega, by omega⟩ ?_)))))))))))
                refine g_aload_n dX9_ask_127 rfl rfl (gf_X9_7 (M := mX9_ask) rfl dX9_ask_128 (yo150 hY) (yr150_0 hY) (g_iload dX9_ask_131 rfl (g_iconst dX9_ask_133 (g_iadd dX9_ask_134 (g_iload_n dX9_ask_135 rfl rfl (g_iast dX9_ask_136 (ya151 hY) ⟨by omega, by omega, by omega⟩ (g_aload_n dX9_ask_137 rfl rfl (gf_X9_7 (M := mX9_ask) rfl dX9_ask_138 (yo150 hY) (yr150_0 hY) (g_iload dX9_ask_141 rfl (g_iconst dX9_ask_143 (g_iadd dX9_ask_144 ?_)))))))))))
                refine g_iload dX9_ask_145 rfl (g_iast dX9_ask_147 (ya151 hY) ⟨by omega, by omega, by omega⟩ (g_aload_n dX9_ask_148 rfl rfl (gf_X9_7 (M := mX9_ask) rfl dX9_ask_149 (yo150 hY) (yr150_0 hY) (g_iload dX9_ask_152 rfl (g_iconst dX9_ask_154 (g_iadd dX9_ask_155 (g_iload dX9_ask_156 rfl (g_iast dX9_ask_158 (ya151 hY) ⟨by omega, by omega, by omega⟩ (g_aload_n dX9_ask_159 rfl rfl (gf_X9_7 (M := mX9_ask) rfl dX9_ask_160 (yo150 hY) (yr150_0 hY) (g_bipush dX9_ask_163 kb37 ?_)))))))))))
                refine g_iload dX9_ask_165 rfl (g_iconst dX9_ask_167 (g_iadd dX9_ask_168 (g_isN 37 dX9_ask_169 (ya151 hY) ⟨by decide, by decide, by decide⟩ rfl (g_iload dX9_ask_170 rfl (g_iconst dX9_ask_172 (g_iadd dX9_ask_173 ?_))))))
                exact g_iret dX9_ask_174 rfl rfl ⟨Nat.le_refl _, Nat.le_refl _⟩ (by first | exact ⟨-1, rfl, Or.inl ⟨by omega, rfl, rfl⟩⟩ | exact ⟨-3, rfl, Or.inr ⟨by omega, Or.inl ⟨by omega, rfl, rfl⟩⟩⟩ | (have hx := rv_add hV (by omega) (a := a) (b := f) (c := n) (d := k) (e := e) ⟨⟨by show 0 ≤ a; omega, by show a ≤ 99; omega⟩, ⟨by show 0 ≤ f; omega, by show f < 6; omega⟩, ⟨by show 2 ≤ n; omega, by show n ≤ 60; omega⟩, ⟨by show 0 ≤ k; omega, by show k < n; omega⟩, ⟨by show 0 ≤ e; omega, by show e ≤ 8; omega⟩⟩ (by omega); exact ⟨_, rfl, Or.inr ⟨by omega, Or.inr ⟨by omega, rfl, hx.1, by rw [sI_I, if_pos ⟨rfl, rfl⟩], hx.2⟩⟩⟩))
              · skip
                refine g_bipush dX9_ask_106 kbm3 ?_
                exact g_iret dX9_ask_108 rfl rfl ⟨Nat.le_refl _, Nat.le_refl _⟩ (by first | exact ⟨-1, rfl, Or.inl ⟨by omega, rfl, rfl⟩⟩ | exact ⟨-3, rfl, Or.inr ⟨by omega, Or.inl ⟨by omega, rfl, rfl⟩⟩⟩ | (have hx := rv_add hV (by omega) (a := a) (b := f) (c := n) (d := k) (e := e) ⟨⟨by show 0 ≤ a; omega, by show a ≤ 99; omega⟩, ⟨by show 0 ≤ f; omega, by show f < 6; omega⟩, ⟨by show 2 ≤ n; omega, by show n ≤ 60; omega⟩, ⟨by show 0 ≤ k; omega, by show k < n; omega⟩, ⟨by show 0 ≤ e; omega, by show e ≤ 8; omega⟩⟩ (by omega); exact ⟨_, rfl, Or.inr ⟨by omega, Or.inr ⟨by omega, rfl, hx.1, by rw [sI_I, if_pos ⟨rfl, rfl⟩], hx.2⟩⟩⟩))
            · have k94 := pI_eq0.mp c94
              refine g_iconst dX9_ask_97 ?_
              exact g_iret dX9_ask_98 rfl rfl ⟨Nat.le_refl _, Nat.le_refl _⟩ (by first | exact ⟨-1, rfl, Or.inl ⟨by omega, rfl, rfl⟩⟩ | exact ⟨-3, rfl, Or.inr ⟨by omega, Or.inl ⟨by omega, rfl, rfl⟩⟩⟩ | (have hx := rv_add hV (by omega) (a := a) (b := f) (c := n) (d := k) (e := e) ⟨⟨by show 0 ≤ a; omega, by show a ≤ 99; omega⟩, ⟨by show 0 ≤ f; omega, by show f < 6; omega⟩, ⟨by show 2 ≤ n; omega, by show n ≤ 60; omega⟩, ⟨by show 0 ≤ k; omega, by show k < n; omega⟩, ⟨by show 0 ≤ e; omega, by show e ≤ 8; omega⟩⟩ (by omega); exact ⟨_, rfl, Or.inr ⟨by omega, Or.inr ⟨by omega, rfl, hx.1, by rw [sI_I, if_pos ⟨rfl, rfl⟩], hx.2⟩⟩⟩))
  · skip
    refine g_lconst (v := 0) dX9_ask_25 rfl (g_goto 39 dX9_ask_26 rfl (c2_X9_303 (M := mX9_ask) rfl dX9_ask_39 (cv_X9_71 (M := mX9_ask) rfl dX9_ask_42 (RO.same _ _ _) (Nat.le_of_ble_eq_true rfl) (e_X9_in (by omega) (by omega) (by omega)) <| kI ?_)))
    refine g_if_eq 97 dX9_ask_45 rfl (pI_r _) (fun c45 => ?_) (fun c45 => ?_)
    · have k45 := pI_eq0.mp c45
      refine g_iconst dX9_ask_97 ?_
      exact g_iret dX9_ask_98 rfl rfl ⟨Nat.le_refl _, Nat.le_refl _⟩ (by first | exact ⟨-1, rfl, Or.inl ⟨by omega, rfl, rfl⟩⟩ | exact ⟨-3, rfl, Or.inr ⟨by omega, Or.inl ⟨by omega, rfl, rfl⟩⟩⟩ | (have hx := rv_add hV (by omega) (a := a) (b := f) (c := n) (d := k) (e := e) ⟨⟨by show 0 ≤ a; omega, by show a ≤ 99; omega⟩, ⟨by show 0 ≤ f; omega, by show f < 6; omega⟩, ⟨by show 2 ≤ n; omega, by show n ≤ 60; omega⟩, ⟨by show 0 ≤ k; omega, by show k < n; omega⟩, ⟨by show 0 ≤ e; omega, by show e ≤ 8; omega⟩⟩ (by omega); exact ⟨_, rfl, Or.inr ⟨by omega, Or.inr ⟨by omega, rfl, hx.1, by rw [sI_I, if_pos ⟨rfl, rfl⟩], hx.2⟩⟩⟩))
    · have k45 := pI_ne c45
      refine g_aload_n dX9_ask_48 rfl rfl (g_iload_n dX9_ask_49 rfl rfl (cv_X9_146 (M := mX9_ask) rfl dX9_ask_50 (yo150 hY) (RO.same _ _ _) (Nat.le_of_ble_eq_true rfl) (e_X9_isFigure hY (by omega) (by omega)) <| kI ?_))
      refine g_if_eq 97 dX9_ask_53 rfl (pI_r _) (fun c53 => ?_) (fun c53 => ?_)
      · have k53 := pI_eq0.mp c53
        refine g_iconst dX9_ask_97 ?_
        exact g_iret dX9_ask_98 rfl rfl ⟨Nat.le_refl _, Nat.le_refl _⟩ (by first | exact ⟨-1, rfl, Or.inl ⟨by omega, rfl, rfl⟩⟩ | exact ⟨-3, rfl, Or.inr ⟨by omega, Or.inl ⟨by omega, rfl, rfl⟩⟩⟩ | (have hx := rv_add hV (by omega) (a := a) (b := f) (c := n) (d := k) (e := e) ⟨⟨by show 0 ≤ a; omega, by show a ≤ 99; omega⟩, ⟨by show 0 ≤ f; omega, by show f < 6; omega⟩, ⟨by show 2 ≤ n; omega, by show n ≤ 60; omega⟩, ⟨by show 0 ≤ k; omega, by show k < n; omega⟩, ⟨by show 0 ≤ e; omega, by show e ≤ 8; omega⟩⟩ (by omega); exact ⟨_, rfl, Or.inr ⟨by omega, Or.inr ⟨by omega, rfl, hx.1, by rw [sI_I, if_pos ⟨rfl, rfl⟩], hx.2⟩⟩⟩))
      · have k53 := pI_ne c53
        refine g_iload_n dX9_ask_56 rfl rfl (g_i2l dX9_ask_57 (by omega) (c2_X9_278 (M := mX9_ask) rfl dX9_ask_58 (c2_X9_280 (M := mX9_ask) rfl dX9_ask_61 (cv_X9_71 (M := mX9_ask) rfl dX9_ask_64 (RO.same _ _ _) (Nat.le_of_ble_eq_true rfl) (e_X9_in (by omega) (by omega) (by omega)) <| kI ?_))))
        refine g_if_eq 97 dX9_ask_67 rfl (pI_r _) (fun c67 => ?_) (fun c67 => ?_)
        · have k67 := pI_eq0.mp c67
          refine g_iconst dX9_ask_97 ?_
          exact g_iret dX9_ask_98 rfl rfl ⟨Nat.le_refl _, Nat.le_refl _⟩ (by first | exact ⟨-1, rfl, Or.inl ⟨by omega, rfl, rfl⟩⟩ | exact ⟨-3, rfl, Or.inr ⟨by omega, Or.inl ⟨by omega, rfl, rfl⟩⟩⟩ | (have hx := rv_add hV (by omega) (a := a) (b := f) (c := n) (d := k) (e := e) ⟨⟨by show 0 ≤ a; omega, by show a ≤ 99; omega⟩, ⟨by show 0 ≤ f; omega, by show f < 6; omega⟩, ⟨by show 2 ≤ n; omega, by show n ≤ 60; omega⟩, ⟨by show 0 ≤ k; omega, by show k < n; omega⟩, ⟨by show 0 ≤ e; omega, by show e ≤ 8; omega⟩⟩ (by omega); exact ⟨_, rfl, Or.inr ⟨by omega, Or.inr ⟨by omega, rfl, hx.1, by rw [sI_I, if_pos ⟨rfl, rfl⟩], hx.2⟩⟩⟩))
        · have k67 := pI_ne c67
          refine g_iload dX9_ask_70 rfl (g_i2l dX9_ask_72 (by omega) (g_lconst (v := 0) dX9_ask_73 rfl (g_iload_n dX9_ask_74 rfl rfl (g_iconst dX9_ask_75 (g_isub dX9_ask_76 (g_i2l dX9_ask_77 (by omega) (cv_X9_71 (M := mX9_ask) rfl dX9_ask_78 (RO.same _ _ _) (Nat.le_of_ble_eq_true rfl) (e_X9_in (by omega) (by omega) (by omega)) <| kI ?_)))))))
          refine g_if_eq 97 dX9_ask_81 rfl (pI_r _) (fun c81 => ?_) (fun c81 => ?_)
          · have k81 := pI_eq0.mp c81
            refine g_iconst dX9_ask_97 ?_
            exact g_iret dX9_ask_98 rfl rfl ⟨Nat.le_refl _, Nat.le_refl _⟩ (by first | exact ⟨-1, rfl, Or.inl ⟨by omega, rfl, rfl⟩⟩ | exact ⟨-3, rfl, Or.inr ⟨by omega, Or.inl ⟨by omega, rfl, rfl⟩⟩⟩ | (have hx := rv_add hV (by omega) (a := a) (b := f) (c := n) (d := k) (e := e) ⟨⟨by show 0 ≤ a; omega, by show a ≤ 99; omega⟩, ⟨by show 0 ≤ f; omega, by show f < 6; omega⟩, ⟨by show 2 ≤ n; omega, by show n ≤ 60; omega⟩, ⟨by show 0 ≤ k; omega, by show k < n; omega⟩, ⟨by show 0 ≤ e; omega, by show e ≤ 8; omega⟩⟩ (by omega); exact ⟨_, rfl, Or.inr ⟨by omega, Or.inr ⟨by omega, rfl, hx.1, by rw [sI_I, if_pos ⟨rfl, rfl⟩], hx.2⟩⟩⟩))
          · have k81 := pI_ne c81
            refine g_iload dX9_ask_84 rfl (g_i2l dX9_ask_86 (by omega) (g_lconst (v := 0) dX9_ask_87 rfl (c2_X9_276 (M := mX9_ask) rfl dX9_ask_88 (cv_X9_71 (M := mX9_ask) rfl dX9_ask_91 (RO.same _ _ _) (Nat.le_of_ble_eq_true rfl) (e_X9_in (by omega) (by omega) (by omega)) <| kI ?_))))
            refine g_if_ne 99 dX9_ask_94 rfl (pI_r _) (fun c94 => ?_) (fun c94 => ?_)
            · have k94 := pI_ne c94
              refine g_iload dX9_ask_99 rfl (g_bipush dX9_ask_101 kb6 ?_)
              refine g_icmp_ne 109 dX9_ask_103 rfl (by omega) (by omega) (fun c103 => ?_) (fun c103 => ?_)
              · skip
                refine g_aload_n dX9_ask_109 rfl rfl (gf_X9_7 (M := mX9_ask) rfl dX9_ask_110 (yo150 hY) (yr150_0 hY) (g_iload dX9_ask_113 rfl (g_iload_n dX9_ask_115 rfl rfl (g_iast dX9_ask_116 (ya151 hY) ⟨by omega, by omega, by omega⟩ (g_aload_n dX9_ask_117 rfl rfl (gf_X9_7 (M := mX9_ask) rfl dX9_ask_118 (yo150 hY) (yr150_0 hY) (g_iload dX9_ask_121 rfl (g_iconst dX9_ask_123 (g_iadd dX9_ask_124 (g_iload_n dX9_ask_125 rfl rfl (g_iast dX9_ask_126 (ya151 hY) ⟨by omega, by omega, by omega⟩ ?_)))))))))))
                refine g_aload_n dX9_ask_127 rfl rfl (gf_X9_7 (M := mX9_ask) rfl dX9_ask_128 (yo150 hY) (yr150_0 hY) (g_iload dX9_ask_131 rfl (g_iconst dX9_ask_133 (g_iadd dX9_ask_134 (g_iload_n dX9_ask_135 rfl rfl (g_iast dX9_ask_136 (ya151 hY) ⟨by omega, by omega, by omega⟩ (g_aload_n dX9_ask_137 rfl rfl (gf_X9_7 (M := mX9_ask) rfl dX9_ask_138 (yo150 hY) (yr150_0 hY) (g_iload dX9_ask_141 rfl (g_iconst dX9_ask_143 (g_iadd dX9_ask_144 ?_)))))))))))
                refine g_iload dX9_ask_145 rfl (g_iast dX9_ask_147 (ya151 hY) ⟨by omega, by omega, by omega⟩ (g_aload_n dX9_ask_148 rfl rfl (gf_X9_7 (M := mX9_ask) rfl dX9_ask_149 (yo150 hY) (yr150_0 hY) (g_iload dX9_ask_152 rfl (g_iconst dX9_ask_154 (g_iadd dX9_ask_155 (g_iload dX9_ask_156 rfl (g_iast dX9_ask_158 (ya151 hY) ⟨by omega, by omega, by omega⟩ (g_aload_n dX9_ask_159 rfl rfl (gf_X9_7 (M := mX9_ask) rfl dX9_ask_160 (yo150 hY) (yr150_0 hY) (g_bipush dX9_ask_163 kb37 ?_)))))))))))
                refine g_iload dX9_ask_165 rfl (g_iconst dX9_ask_167 (g_iadd dX9_ask_168 (g_isN 37 dX9_ask_169 (ya151 hY) ⟨by decide, by decide, by decide⟩ rfl (g_iload dX9_ask_170 rfl (g_iconst dX9_ask_172 (g_iadd dX9_ask_173 ?_))))))
                exact g_iret dX9_ask_174 rfl rfl ⟨Nat.le_refl _, Nat.le_refl _⟩ (by first | exact ⟨-1, rfl, Or.inl ⟨by omega, rfl, rfl⟩⟩ | exact ⟨-3, rfl, Or.inr ⟨by omega, Or.inl ⟨by omega, rfl, rfl⟩⟩⟩ | (have hx := rv_add hV (by omega) (a := a) (b := f) (c := n) (d := k) (e := e) ⟨⟨by show 0 ≤ a; omega, by show a ≤ 99; omega⟩, ⟨by show 0 ≤ f; omega, by show f < 6; omega⟩, ⟨by show 2 ≤ n; omega, by show n ≤ 60; omega⟩, ⟨by show 0 ≤ k; omega, by show k < n; omega⟩, ⟨by show 0 ≤ e; omega, by show e ≤ 8; omega⟩⟩ (by omega); exact ⟨_, rfl, Or.inr ⟨by omega, Or.inr ⟨by omega, rfl, hx.1, by rw [sI_I, if_pos ⟨rfl, rfl⟩], hx.2⟩⟩⟩))
              · skip
                refine g_bipush dX9_ask_106 kbm3 ?_
                exact g_iret dX9_ask_108 rfl rfl ⟨Nat.le_refl _, Nat.le_refl _⟩ (by first | exact ⟨-1, rfl, Or.inl ⟨by omega, rfl, rfl⟩⟩ | exact ⟨-3, rfl, Or.inr ⟨by omega, Or.inl ⟨by omega, rfl, rfl⟩⟩⟩ | (have hx := rv_add hV (by omega) (a := a) (b := f) (c := n) (d := k) (e := e) ⟨⟨by show 0 ≤ a; omega, by show a ≤ 99; omega⟩, ⟨by show 0 ≤ f; omega, by show f < 6; omega⟩, ⟨by show 2 ≤ n; omega, by show n ≤ 60; omega⟩, ⟨by show 0 ≤ k; omega, by show k < n; omega⟩, ⟨by show 0 ≤ e; omega, by show e ≤ 8; omega⟩⟩ (by omega); exact ⟨_, rfl, Or.inr ⟨by omega, Or.inr ⟨by omega, rfl, hx.1, by rw [sI_I, if_pos ⟨rfl, rfl⟩], hx.2⟩⟩⟩))
            · have k94 := pI_eq0.mp c94
              refine g_iconst dX9_ask_97 ?_
              exact g_iret dX9_ask_98 rfl rfl ⟨Nat.le_refl _, Nat.le_refl _⟩ (by first | exact ⟨-1, rfl, Or.inl ⟨by omega, rfl, rfl⟩⟩ | exact ⟨-3, rfl, Or.inr ⟨by omega, Or.inl ⟨by omega, rfl, rfl⟩⟩⟩ | (have hx := rv_add hV (by omega) (a := a) (b := f) (c := n) (d := k) (e := e) ⟨⟨by show 0 ≤ a; omega, by show a ≤ 99; omega⟩, ⟨by show 0 ≤ f; omega, by show f < 6; omega⟩, ⟨by show 2 ≤ n; omega, by show n ≤ 60; omega⟩, ⟨by show 0 ≤ k; omega, by show k < n; omega⟩, ⟨by show 0 ≤ e; omega, by show e ≤ 8; omega⟩⟩ (by omega); exact ⟨_, rfl, Or.inr ⟨by omega, Or.inr ⟨by omega, rfl, hx.1, by rw [sI_I, if_pos ⟨rfl, rfl⟩], hx.2⟩⟩⟩))
set_option maxRecDepth 100000 in
set_option maxHeartbeats 1000000 in
theorem e_X9_see {G : GX} {y : LY} {h : HM} {d : Nat} (hY : Lay y) {F : Nat → Fg} (hR : RF h F) {S : Nat → Sg} (hS : RS h S) {p q e : Int} (hp : R32 p) (hq : R32 q) (he : e = 0 ∨ e = 1) : EvQX G mX9_see (d + 2) [.ref 150, .int (iZ p), .int (iZ q), .int (iZ e)] y h (fun v h1 => (¬ ((0 ≤ p ∧ p < (h.I 151 0)) ∧ (0 ≤ q ∧ q ≤ 30000)) ∧ v = -1 ∧ h1 = h) ∨ (((0 ≤ p ∧ p < (h.I 151 0)) ∧ (0 ≤ q ∧ q ≤ 30000)) ∧ ((12 ≤ (h.I 151 71) ∧ v = -3 ∧ h1 = h) ∨ ((h.I 151 71) < 12 ∧ v = (h.I 151 71) + 1 ∧ RS h1 (upS S (h.I 151 71).toNat (p, q, e)) ∧ h1.I 151 71 = (h.I 151 71) + 1 ∧ FrR h h1 71 108)))) := by
  have hnf := hR.1
  have hns := hS.1
  have hzp := pI_01 (0 ≤ p ∧ p < (h.I 151 0))
  have hyp := pI_eq1 (P := 0 ≤ p ∧ p < (h.I 151 0))
  have hzq := pI_01 (0 ≤ q ∧ q ≤ 30000)
  have hyq := pI_eq1 (P := 0 ≤ q ∧ q ≤ 30000)
  refine Ev.of rfl [some (.ref 150), some (.int (iZ p)), some (.int (iZ q)), some (.int (iZ e)), none] rfl (Nat.le_of_ble_eq_true rfl) ?_
  refine g_aload_n dX9_see_0 rfl rfl (g_iload_n dX9_see_1 rfl rfl (cv_X9_146 (M := mX9_see) rfl dX9_see_2 (yo150 hY) (RO.same _ _ _) (Nat.le_of_ble_eq_true rfl) (e_X9_isFigure hY (by omega) (by omega)) <| kI ?_))
  refine g_if_eq 20 dX9_see_5 rfl (by omega) (fun c5 => ?_) (fun c5 => ?_)
  · skip
    refine g_iconst dX9_see_20 ?_
    exact g_iret dX9_see_21 rfl rfl ⟨Nat.le_refl _, Nat.le_refl _⟩ (by first | exact ⟨-1, rfl, Or.inl ⟨by omega, rfl, rfl⟩⟩ | exact ⟨-3, rfl, Or.inr ⟨by omega, Or.inl ⟨by omega, rfl, rfl⟩⟩⟩ | (have hx := rs_add hS (by omega) (a := p) (b := q) (c := e) ⟨⟨by show 0 ≤ p; omega, by show p ≤ 6; omega⟩, ⟨by show 0 ≤ q; omega, by show q ≤ 30000; omega⟩, he⟩; exact ⟨_, rfl, Or.inr ⟨by omega, Or.inr ⟨by omega, rfl, hx.1, by rw [sI_I, if_pos ⟨rfl, rfl⟩], hx.2⟩⟩⟩))
  · skip
    refine g_iload_n dX9_see_8 rfl rfl (g_i2l dX9_see_9 (by omega) (g_lconst (v := 0) dX9_see_10 rfl (c2_X9_305 (M := mX9_see) rfl dX9_see_11 (cv_X9_71 (M := mX9_see) rfl dX9_see_14 (RO.same _ _ _) (Nat.le_of_ble_eq_true rfl) (e_X9_in (by omega) (by omega) (by omega)) <| kI ?_))))
    refine g_if_ne 22 dX9_see_17 rfl (by omega) (fun c17 => ?_) (fun c17 => ?_)
    · skip
      refine g_aload_n dX9_see_22 rfl rfl (gf_X9_7 (M := mX9_see) rfl dX9_see_23 (yo150 hY) (yr150_0 hY) (g_bipush dX9_see_26 kb71 (g_iaN 71 dX9_see_28 (ya151 hY) ⟨by decide, by decide, by decide⟩ rfl (g_bipush dX9_see_29 kb12 ?_))))
      refine g_icmp_ne 37 dX9_see_31 rfl (by omega) (by omega) (fun c31 => ?_) (fun c31 => ?_)
      · skip
        refine g_bipush dX9_see_37 kb72 (g_iconst dX9_see_39 (g_aload_n dX9_see_40 rfl rfl (gf_X9_7 (M := mX9_see) rfl dX9_see_41 (yo150 hY) (yr150_0 hY) (g_bipush dX9_see_44 kb71 (g_iaN 71 dX9_see_46 (ya151 hY) ⟨by decide, by decide, by decide⟩ rfl (g_imul dX9_see_47 (g_iadd dX9_see_48 (g_ist4 dX9_see_49 (by decide) rfl (g_aload_n dX9_see_51 rfl rfl (gf_X9_7 (M := mX9_see) rfl dX9_see_52 (yo150 hY) (yr150_0 hY) (g_iload dX9_see_55 rfl ?_)))))))))))
        refine g_iload_n dX9_see_57 rfl rfl (g_iast dX9_see_58 (ya151 hY) ⟨by omega, by omega, by omega⟩ (g_aload_n dX9_see_59 rfl rfl (gf_X9_7 (M := mX9_see) rfl dX9_see_60 (yo150 hY) (yr150_0 hY) (g_iload dX9_see_63 rfl (g_iconst dX9_see_65 (g_iadd dX9_see_66 (g_iload_n dX9_see_67 rfl rfl (g_iast dX9_see_68 (ya151 hY) ⟨by omega, by omega, by omega⟩ (g_aload_n dX9_see_69 rfl rfl (gf_X9_7 (M := mX9_see) rfl dX9_see_70 (yo150 hY) (yr150_0 hY) (g_iload dX9_see_73 rfl ?_)))))))))))
        refine g_iconst dX9_see_75 (g_iadd dX9_see_76 (g_iload_n dX9_see_77 rfl rfl (cv_X9_173 (M := mX9_see) rfl dX9_see_78 (RO.same _ _ _) (Nat.le_of_ble_eq_true rfl) (e_X9_flag (by omega)) <| kI (g_iast dX9_see_81 (ya151 hY) ⟨by omega, by omega, by omega⟩ (g_aload_n dX9_see_82 rfl rfl (gf_X9_7 (M := mX9_see) rfl dX9_see_83 (yo150 hY) (yr150_0 hY) (g_bipush dX9_see_86 kb71 (g_dup2 dX9_see_88 rfl rfl (g_iaN 71 dX9_see_89 (ya151 hY) ⟨by decide, by decide, by decide⟩ rfl ?_)))))))))
        rw [sI_I, if_neg (by omega), sI_I, if_neg (by omega), sI_I, if_neg (by omega)]
        refine g_iconst dX9_see_90 (g_iadd dX9_see_91 (g_isN 71 dX9_see_92 (ya151 hY) ⟨by decide, by decide, by decide⟩ rfl (g_aload_n dX9_see_93 rfl rfl (gf_X9_7 (M := mX9_see) rfl dX9_see_94 (yo150 hY) (yr150_0 hY) (g_bipush dX9_see_97 kb71 (g_iaN 71 dX9_see_99 (ya151 hY) ⟨by decide, by decide, by decide⟩ rfl ?_))))))
        rw [sI_I, if_pos ⟨rfl, rfl⟩]
        exact g_iret dX9_see_100 rfl rfl ⟨Nat.le_refl _, Nat.le_refl _⟩ (by first | exact ⟨-1, rfl, Or.inl ⟨by omega, rfl, rfl⟩⟩ | exact ⟨-3, rfl, Or.inr ⟨by omega, Or.inl ⟨by omega, rfl, rfl⟩⟩⟩ | (have hx := rs_add hS (by omega) (a := p) (b := q) (c := e) ⟨⟨by show 0 ≤ p; omega, by show p ≤ 6; omega⟩, ⟨by show 0 ≤ q; omega, by show q ≤ 30000; omega⟩, he⟩; exact ⟨_, rfl, Or.inr ⟨by omega, Or.inr ⟨by omega, rfl, hx.1, by rw [sI_I, if_pos ⟨rfl, rfl⟩], hx.2⟩⟩⟩))
      · skip
        refine g_bipush dX9_see_34 kbm3 ?_
        exact g_iret dX9_see_36 rfl rfl ⟨Nat.le_refl _, Nat.le_refl _⟩ (by first | exact ⟨-1, rfl, Or.inl ⟨by omega, rfl, rfl⟩⟩ | exact ⟨-3, rfl, Or.inr ⟨by omega, Or.inl ⟨by omega, rfl, rfl⟩⟩⟩ | (have hx := rs_add hS (by omega) (a := p) (b := q) (c := e) ⟨⟨by show 0 ≤ p; omega, by show p ≤ 6; omega⟩, ⟨by show 0 ≤ q; omega, by show q ≤ 30000; omega⟩, he⟩; exact ⟨_, rfl, Or.inr ⟨by omega, Or.inr ⟨by omega, rfl, hx.1, by rw [sI_I, if_pos ⟨rfl, rfl⟩], hx.2⟩⟩⟩))
    · skip
      refine g_iconst dX9_see_20 ?_
      exact g_iret dX9_see_21 rfl rfl ⟨Nat.le_refl _, Nat.le_refl _⟩ (by first | exact ⟨-1, rfl, Or.inl ⟨by omega, rfl, rfl⟩⟩ | exact ⟨-3, rfl, Or.inr ⟨by omega, Or.inl ⟨by omega, rfl, rfl⟩⟩⟩ | (have hx := rs_add hS (by omega) (a := p) (b := q) (c := e) ⟨⟨by show 0 ≤ p; omega, by show p ≤ 6; omega⟩, ⟨by show 0 ≤ q; omega, by show q ≤ 30000; omega⟩, he⟩; exact ⟨_, rfl, Or.inr ⟨by omega, Or.inr ⟨by omega, rfl, hx.1, by rw [sI_I, if_pos ⟨rfl, rfl⟩], hx.2⟩⟩⟩))
set_option maxRecDepth 100000 in
set_option maxHeartbeats 1000000 in
theorem e_X9_forget {G : GX} {y : LY} {h : HM} {d : Nat} (hY : Lay y) {S : Nat → Sg} (hS : RS h S) {n : Int} (hn : R32 n) : EvQX G mX9_forget (d + 1) [.ref 150, .int (iZ n)] y h (fun v h1 => (¬ (0 ≤ n ∧ n ≤ (h.I 151 71)) ∧ v = -1 ∧ h1 = h) ∨ ((0 ≤ n ∧ n ≤ (h.I 151 71)) ∧ v = (h.I 151 71) ∧ h1 = h.sI 151 71 n)) := by
  have hns := hS.1
  have hzn := pI_01 (0 ≤ n ∧ n ≤ (h.I 151 71))
  have hyn := pI_eq1 (P := 0 ≤ n ∧ n ≤ (h.I 151 71))
  refine Ev.of rfl [some (.ref 150), some (.int (iZ n)), none] rfl (Nat.le_of_ble_eq_true rfl) ?_
  refine g_iload_n dX9_forget_0 rfl rfl (g_i2l dX9_forget_1 (by omega) (g_lconst (v := 0) dX9_forget_2 rfl (g_aload_n dX9_forget_3 rfl rfl (gf_X9_7 (M := mX9_forget) rfl dX9_forget_4 (yo150 hY) (yr150_0 hY) (g_bipush dX9_forget_7 kb71 (g_iaN 71 dX9_forget_9 (ya151 hY) ⟨by decide, by decide, by decide⟩ rfl (g_i2l dX9_forget_10 (by omega) (cv_X9_71 (M := mX9_forget) rfl dX9_forget_11 (RO.same _ _ _) (Nat.le_of_ble_eq_true rfl) (e_X9_in (by omega) (by omega) (by omega)) <| kI ?_))))))))
  refine g_if_ne 19 dX9_forget_14 rfl (by omega) (fun c14 => ?_) (fun c14 => ?_)
  · skip
    refine g_aload_n dX9_forget_19 rfl rfl (gf_X9_7 (M := mX9_forget) rfl dX9_forget_20 (yo150 hY) (yr150_0 hY) (g_bipush dX9_forget_23 kb71 (g_iaN 71 dX9_forget_25 (ya151 hY) ⟨by decide, by decide, by decide⟩ rfl (g_ist2 dX9_forget_26 (by decide) rfl (g_aload_n dX9_forget_27 rfl rfl (gf_X9_7 (M := mX9_forget) rfl dX9_forget_28 (yo150 hY) (yr150_0 hY) (g_bipush dX9_forget_31 kb71 (g_iload_n dX9_forget_33 rfl rfl (g_isN 71 dX9_forget_34 (ya151 hY) ⟨by decide, by decide, by decide⟩ rfl (g_iload_n dX9_forget_35 rfl rfl ?_))))))))))
    exact g_iret dX9_forget_36 rfl rfl ⟨Nat.le_refl _, Nat.le_refl _⟩ (by first | exact ⟨-1, rfl, Or.inl ⟨by omega, rfl, rfl⟩⟩ | exact ⟨_, rfl, Or.inr ⟨by omega, rfl, rfl⟩⟩)
  · skip
    refine g_iconst dX9_forget_17 ?_
    exact g_iret dX9_forget_18 rfl rfl ⟨Nat.le_refl _, Nat.le_refl _⟩ (by first | exact ⟨-1, rfl, Or.inl ⟨by omega, rfl, rfl⟩⟩ | exact ⟨_, rfl, Or.inr ⟨by omega, rfl, rfl⟩⟩)
