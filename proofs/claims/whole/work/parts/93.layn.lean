theorem vn_0 : LY.n v0 = 10 := by decide +kernel
theorem vn_1 : LY.n v1 = 11 := by decide +kernel
theorem vn_2 : LY.n v2 = 12 := by decide +kernel
theorem vn_3 : LY.n v3 = 13 := by decide +kernel
theorem vn_4 : LY.n v4 = 40 := by decide +kernel
theorem vn_5 : LY.n v5 = 41 := by decide +kernel
theorem vn_6 : LY.n v6 = 68 := by decide +kernel
theorem vn_7 : LY.n v7 = 69 := by decide +kernel
theorem vn_8 : LY.n v8 = 70 := by decide +kernel
theorem vn_9 : LY.n v9 = 71 := by decide +kernel
theorem vn_10 : LY.n v10 = 72 := by decide +kernel
theorem vn_11 : LY.n v11 = 82 := by decide +kernel
theorem vn_12 : LY.n v12 = 83 := by decide +kernel
theorem vn_13 : LY.n v13 = 83 := by decide +kernel
theorem vn_14 : LY.n v14 = 84 := by decide +kernel
theorem vn_15 : LY.n v15 = 85 := by decide +kernel
theorem vn_16 : LY.n v16 = 86 := by decide +kernel
theorem vn_17 : LY.n v17 = 87 := by decide +kernel
theorem vn_18 : LY.n v18 = 114 := by decide +kernel
theorem vn_19 : LY.n v19 = 115 := by decide +kernel
theorem vn_20 : LY.n v20 = 142 := by decide +kernel
theorem vn_21 : LY.n v21 = 143 := by decide +kernel
theorem vn_22 : LY.n v22 = 144 := by decide +kernel
theorem vn_23 : LY.n v23 = 145 := by decide +kernel
theorem vn_24 : LY.n v24 = 146 := by decide +kernel
theorem vn_25 : LY.n v25 = 147 := by decide +kernel
theorem vn_26 : LY.n v26 = 148 := by decide +kernel
theorem vn_27 : LY.n v27 = 149 := by decide +kernel
theorem vn_28 : LY.n v28 = 150 := by decide +kernel
theorem vn_29 : LY.n v29 = 151 := by decide +kernel
theorem vn_30 : LY.n v30 = 152 := by decide +kernel
theorem vn_31 : LY.n v31 = 153 := by decide +kernel
theorem vn_32 : LY.n v32 = 154 := by decide +kernel
theorem vn_33 : LY.n v33 = 155 := by decide +kernel
theorem vn_34 : LY.n v34 = 156 := by decide +kernel
theorem vn_35 : LY.n v35 = 157 := by decide +kernel
theorem vn_36 : LY.n v36 = 158 := by decide +kernel
theorem vn_37 : LY.n v37 = 159 := by decide +kernel
theorem vn_38 : LY.n v38 = 160 := by decide +kernel
theorem vn_39 : LY.n v39 = 161 := by decide +kernel
theorem lay_k : ∀ a, a < 161 → 9 ≤ a → LY.k v39 a = LK a := by decide +kernel
theorem lay_r : ∀ a, a < 161 → 9 ≤ a → ∀ j, j < 27 → LY.R v39 a j = LR a j := by decide +kernel
theorem lay_z : ∀ a, a < 161 → (LRl.getD a []).length ≤ 27 := by decide +kernel
theorem lay_v : Lay v39 := by
  refine ⟨by rw [vn_39]; omega, fun a a0 a1 => ⟨lay_k a a1 a0, fun j => ?_⟩⟩
  by_cases q : j < 27
  · exact lay_r a a1 a0 j q
  · rw [nr_v39 a j (by omega)]
    unfold LR
    have z := lay_z a a1
    rw [List.getD_eq_getElem?_getD, List.getElem?_eq_none (by omega)]
    rfl
