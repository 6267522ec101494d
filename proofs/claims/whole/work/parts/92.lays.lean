def y0 : LY := (9, fun _ => .inl 0, fun _ _ => none)
def v0 : LY := y0.new (.inl 8)
def v1 : LY := v0.new (.inl 6)
def v2 : LY := ((v1.new (.inr (0, 400))).sR 10 0 (some (10 + 1))).sR 9 0 (some 10)
def v3 : LY := v2.new (.inl 0)
def v4 : LY := (yC v3 12).sR 9 1 (some 12)
def v5 : LY := v4.new (.inl 0)
def v6 : LY := (yC v5 40).sR 9 2 (some 40)
def v7 : LY := (v6.new (.inr (6, 2))).sR 9 3 (some 68)
def v8 : LY := (v7.new (.inr (2, 2))).sR 9 4 (some 69)
def v9 : LY := (v8.new (.inr (7, 4))).sR 9 5 (some 70)
def v10 : LY := v9.new (.inl 2)
def v11 : LY := (yF v10 71).sR 9 6 (some 71)
def v12 : LY := v11.new (.inl 1)
def v13 : LY := v12.sR 9 7 (some 82)
def v14 : LY := (v13.new (.inr (0, 6))).sR 9 8 (some 83)
def v15 : LY := (v14.new (.inr (0, 6))).sR 9 9 (some 84)
def v16 : LY := (v15.new (.inr (0, 9))).sR 9 10 (some 85)
def v17 : LY := v16.new (.inl 0)
def v18 : LY := (yC v17 86).sR 68 0 (some 86)
def v19 : LY := v18.new (.inl 0)
def v20 : LY := (yC v19 114).sR 68 1 (some 114)
def v21 : LY := v20.new (.inl 4)
def v22 : LY := ((v21.new (.inr (0, 40))).sR 142 0 (some (142 + 1))).sR 70 0 (some 142)
def v23 : LY := v22.new (.inl 4)
def v24 : LY := ((v23.new (.inr (0, 40))).sR 144 0 (some (144 + 1))).sR 70 1 (some 144)
def v25 : LY := v24.new (.inl 4)
def v26 : LY := ((v25.new (.inr (0, 40))).sR 146 0 (some (146 + 1))).sR 70 2 (some 146)
def v27 : LY := v26.new (.inl 4)
def v28 : LY := ((v27.new (.inr (0, 40))).sR 148 0 (some (148 + 1))).sR 70 3 (some 148)
def v29 : LY := v28.new (.inl 9)
def v30 : LY := (v29.new (.inr (0, 324))).sR 150 0 (some 151)
def v31 : LY := (v30.new (.inr (2, 2))).sR 150 1 (some 152)
def v32 : LY := (v31.new (.inr (0, 108))).sR 150 3 (some 153)
def v33 : LY := (v32.new (.inr (0, 400))).sR 150 8 (some 154)
def v34 : LY := (v33.new (.inr (1, 46656))).sR 150 16 (some 155)
def v35 : LY := (v34.new (.inr (1, 46656))).sR 150 17 (some 156)
def v36 : LY := (v35.new (.inr (0, 12))).sR 150 22 (some 157)
def v37 : LY := (v36.new (.inr (0, 4))).sR 150 23 (some 158)
def v38 : LY := (v37.new (.inr (0, 4))).sR 150 24 (some 159)
def v39 : LY := (v38.new (.inr (0, 160))).sR 150 25 (some 160)
/-- no reference beyond the 26th place -/
def NoR (y : LY) : Prop := ∀ a j : Nat, 27 ≤ j → y.R a j = none
theorem NoR.new {y : LY} {kd : Kd} (h : NoR y) : NoR (y.new kd) := fun a j q => by
  show (if a = y.1 then none else y.2.2 a j) = none
  split
  · rfl
  · exact h a j q
theorem NoR.sR {y : LY} {a k : Nat} {v : Option Nat} (h : NoR y) (q : k < 27) : NoR (y.sR a k v) := fun b j z => (R_sR (by omega)).trans (h b j z)
theorem NoR.ld {y : LY} {arr : Nat} {kd : Kd} (h : NoR y) : ∀ i : Nat, i ≤ 27 → NoR (ldS y arr kd i)
  | 0, _ => h
  | i + 1, q => (NoR.ld h i (by omega)).new.sR (by omega)
theorem NoR.C {y : LY} {c : Nat} (h : NoR y) : NoR (yC y c) := (((h.new.sR (by decide)).new.sR (by decide)).new.sR (by decide) |>.ld 6 (by decide) |>.ld 6 (by decide) |>.ld 12 (by decide))
theorem NoR.F {y : LY} {c : Nat} (h : NoR y) : NoR (yF y c) := ((((h.new.sR (by decide)).new.sR (by decide)).new.sR (by decide)).new.sR (by decide) |>.ld 6 (by decide))
theorem nr_y0 : NoR y0 := fun _ _ _ => rfl
theorem nr_v0 : NoR v0 := (nr_y0).new
theorem nr_v1 : NoR v1 := (nr_v0).new
theorem nr_v2 : NoR v2 := (((nr_v1).new).sR (by decide)).sR (by decide)
theorem nr_v3 : NoR v3 := (nr_v2).new
theorem nr_v4 : NoR v4 := (nr_v3.C).sR (by decide)
theorem nr_v5 : NoR v5 := (nr_v4).new
theorem nr_v6 : NoR v6 := (nr_v5.C).sR (by decide)
theorem nr_v7 : NoR v7 := ((nr_v6).new).sR (by decide)
theorem nr_v8 : NoR v8 := ((nr_v7).new).sR (by decide)
theorem nr_v9 : NoR v9 := ((nr_v8).new).sR (by decide)
theorem nr_v10 : NoR v10 := (nr_v9).new
theorem nr_v11 : NoR v11 := (nr_v10.F).sR (by decide)
theorem nr_v12 : NoR v12 := (nr_v11).new
theorem nr_v13 : NoR v13 := (nr_v12).sR (by decide)
theorem nr_v14 : NoR v14 := ((nr_v13).new).sR (by decide)
theorem nr_v15 : NoR v15 := ((nr_v14).new).sR (by decide)
theorem nr_v16 : NoR v16 := ((nr_v15).new).sR (by decide)
theorem nr_v17 : NoR v17 := (nr_v16).new
theorem nr_v18 : NoR v18 := (nr_v17.C).sR (by decide)
theorem nr_v19 : NoR v19 := (nr_v18).new
theorem nr_v20 : NoR v20 := (nr_v19.C).sR (by decide)
theorem nr_v21 : NoR v21 := (nr_v20).new
theorem nr_v22 : NoR v22 := (((nr_v21).new).sR (by decide)).sR (by decide)
theorem nr_v23 : NoR v23 := (nr_v22).new
theorem nr_v24 : NoR v24 := (((nr_v23).new).sR (by decide)).sR (by decide)
theorem nr_v25 : NoR v25 := (nr_v24).new
theorem nr_v26 : NoR v26 := (((nr_v25).new).sR (by decide)).sR (by decide)
theorem nr_v27 : NoR v27 := (nr_v26).new
theorem nr_v28 : NoR v28 := (((nr_v27).new).sR (by decide)).sR (by decide)
theorem nr_v29 : NoR v29 := (nr_v28).new
theorem nr_v30 : NoR v30 := ((nr_v29).new).sR (by decide)
theorem nr_v31 : NoR v31 := ((nr_v30).new).sR (by decide)
theorem nr_v32 : NoR v32 := ((nr_v31).new).sR (by decide)
theorem nr_v33 : NoR v33 := ((nr_v32).new).sR (by decide)
theorem nr_v34 : NoR v34 := ((nr_v33).new).sR (by decide)
theorem nr_v35 : NoR v35 := ((nr_v34).new).sR (by decide)
theorem nr_v36 : NoR v36 := ((nr_v35).new).sR (by decide)
theorem nr_v37 : NoR v37 := ((nr_v36).new).sR (by decide)
theorem nr_v38 : NoR v38 := ((nr_v37).new).sR (by decide)
theorem nr_v39 : NoR v39 := ((nr_v38).new).sR (by decide)
