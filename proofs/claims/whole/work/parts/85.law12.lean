theorem i2b_r (v : Int) : R32 (i2bZ v) := by
  have a := Int32.minValue_le_toInt (iZ v).toInt8.toInt32
  have b := Int32.toInt_le (iZ v).toInt8.toInt32
  unfold i2bZ
  have c : Int32.minValue.toInt = -2147483648 := rfl
  have d : Int32.maxValue.toInt = 2147483647 := rfl
  omega
theorem i2s_r (v : Int) : R32 (i2sZ v) := by
  have a := Int32.minValue_le_toInt (iZ v).toInt16.toInt32
  have b := Int32.toInt_le (iZ v).toInt16.toInt32
  unfold i2sZ
  have c : Int32.minValue.toInt = -2147483648 := rfl
  have d : Int32.maxValue.toInt = 2147483647 := rfl
  omega
theorem put_r {L v : Int} (hv : R32 v) : R32 (putS L v) := by
  unfold putS
  split
  · exact i2b_r v
  · split
    · exact i2s_r v
    · exact hv
theorem Inv.sht {h : HM} (hi : Inv h) {k : Nat} (hk : k < 4) {l n : Int} (hl : 0 ≤ l ∧ l ≤ 2) (hn : 0 ≤ n ∧ n ≤ 40) : Inv (rnR (((h.sI (142 + 2 * k) 1 l).sI (142 + 2 * k) 2 n).sA (143 + 2 * k) (fun j => if j < 40 then 0 else h.I (143 + 2 * k) j)) k l n) := by
  generalize h2d : rnR (((h.sI (142 + 2 * k) 1 l).sI (142 + 2 * k) 2 n).sA (143 + 2 * k) (fun j => if j < 40 then 0 else h.I (143 + 2 * k) j)) k l n = h2
  have o : ∀ a j : Nat, ¬ (a = 142 + 2 * k ∧ (j = 1 ∨ j = 2)) → ¬ (a = 143 + 2 * k) → ¬ (a = 158 ∧ j = k) → ¬ (a = 159 ∧ j = k) → ¬ (a = 160 ∧ 40 * k ≤ j ∧ j < 40 * k + 40) → h2.I a j = h.I a j := fun a j q1 q2 q3 q4 q5 => by
    rw [← h2d]; unfold rnR
    rw [sA_I]
    by_cases z : a = 160
    · rw [if_pos z, if_neg (by omega), z, sA_I, if_neg (by omega), sI_I, if_neg (by omega), sI_I, if_neg (by omega)]
    · rw [if_neg z, sI_I, if_neg (by omega), sI_I, if_neg (by omega), sA_I, if_neg q2, sI_I, if_neg (by omega), sI_I, if_neg (by omega)]
  have e1 : h2.I (142 + 2 * k) 1 = l := by
    rw [← h2d]; unfold rnR
    rw [sA_I, if_neg (by omega), sI_I, if_neg (by omega), sI_I, if_neg (by omega), sA_I, if_neg (by omega), sI_I, if_neg (by omega), sI_I, if_pos ⟨rfl, rfl⟩]
  have e2 : h2.I (142 + 2 * k) 2 = n := by
    rw [← h2d]; unfold rnR
    rw [sA_I, if_neg (by omega), sI_I, if_neg (by omega), sI_I, if_neg (by omega), sA_I, if_neg (by omega), sI_I, if_pos ⟨rfl, rfl⟩]
  have e3 : ∀ j, j < 40 → h2.I (143 + 2 * k) j = 0 := fun j hj => by
    rw [← h2d]; unfold rnR
    rw [sA_I, if_neg (by omega), sI_I, if_neg (by omega), sI_I, if_neg (by omega), sA_I, if_pos rfl, if_pos hj]
  have e4 : ∀ j, j < 40 → h2.I 160 (40 * k + j) = 0 := fun j hj => by
    rw [← h2d]; unfold rnR
    rw [sA_I, if_pos rfl, if_pos (by omega)]
  have e5 : h2.I 158 k = l ∧ h2.I 159 k = n := by
    constructor
    · rw [← h2d]; unfold rnR
      rw [sA_I, if_neg (by omega), sI_I, if_neg (by omega), sI_I, if_pos ⟨rfl, rfl⟩]
    · rw [← h2d]; unfold rnR
      rw [sA_I, if_neg (by omega), sI_I, if_pos ⟨rfl, rfl⟩]
  clear h2d
  refine Inv.of (hi.vC.fr (fun a j q => o a j (by omega) (by omega) (by omega) (by omega) (by omega))) (hi.vK.fr (fun a j q => o a j (by omega) (by omega) (by omega) (by omega) (by omega))) ⟨fun k2 hk2 => ?_, fun k2 j hk2 hj => ?_⟩ (hi.vT.fr (fun a j q => o a j (by omega) (by omega) (by omega) (by omega) (by omega))) (hi.vF.fr (fun a j q => o a j (by omega) (by omega) (by omega) (by omega) (by omega)))
  · by_cases z : k2 = k
    · rw [z, e1, e2]
      refine ⟨Or.inr ⟨hn, hl, ?_, ?_⟩, by omega, hl⟩
      · rw [show ((k : Int)).toNat = k by omega]; exact e5.1
      · rw [show ((k : Int)).toNat = k by omega]; exact e5.2
    · have q := hi.sh k2 hk2
      unfold ShR at q ⊢
      rw [o 158 _ (by omega) (by omega) (by omega) (by omega) (by omega), o 159 _ (by omega) (by omega) (by omega) (by omega) (by omega), o _ 1 (by omega) (by omega) (by omega) (by omega) (by omega), o _ 2 (by omega) (by omega) (by omega) (by omega) (by omega)]; exact q
  · by_cases z : k2 = k
    · rw [z, e3 j hj, e4 j hj]; exact ⟨rfl, by omega⟩
    · rw [o 160 _ (by omega) (by omega) (by omega) (by omega) (by omega), o _ j (by omega) (by omega) (by omega) (by omega) (by omega)]; exact hi.ce k2 j hk2 hj
theorem Inv.lad {h : HM} (hi : Inv h) {k i : Nat} (hk : k < 4) (hi4 : i < 40) {w : Int} (hw : R32 w) : Inv ((h.sI (143 + 2 * k) i w).sI 160 (40 * k + i) w) := by
  have o : ∀ a j : Nat, ¬ (a = 143 + 2 * k ∧ j = i) → ¬ (a = 160 ∧ j = 40 * k + i) → ((h.sI (143 + 2 * k) i w).sI 160 (40 * k + i) w).I a j = h.I a j := fun a j q1 q2 => by rw [sI_I, if_neg q2, sI_I, if_neg q1]
  refine Inv.of (hi.vC.fr (fun a j q => o a j (by omega) (by omega))) (hi.vK.fr (fun a j q => o a j (by omega) (by omega))) ⟨fun k2 hk2 => ?_, fun k2 j hk2 hj => ?_⟩ (hi.vT.fr (fun a j q => o a j (by omega) (by omega))) (hi.vF.fr (fun a j q => o a j (by omega) (by omega)))
  · have q := hi.sh k2 hk2
    unfold ShR at q ⊢
    rw [o 158 _ (by omega) (by omega), o 159 _ (by omega) (by omega), o _ 1 (by omega) (by omega), o _ 2 (by omega) (by omega)]; exact q
  · by_cases z : k2 = k ∧ j = i
    · rw [z.1, z.2, sI_I, if_pos ⟨rfl, rfl⟩, sI_I, if_neg (by omega), sI_I, if_pos ⟨rfl, rfl⟩]; exact ⟨rfl, hw⟩
    · rw [o 160 _ (by omega) (by omega), o _ j (by omega) (by omega)]; exact hi.ce k2 j hk2 hj
set_option maxRecDepth 100000 in
set_option maxHeartbeats 1000000 in
theorem lc_sheet {G : GX} {R : Room} {Z : ZT} {y : LY} {h : HM} {cs : Nat × Nat} (hY : Lay y) (hi : Inv h) {at_ : Int} (hat : 0 ≤ at_ ∧ at_ + 7 ≤ G.len) (hlen : G.len < 2147483648) (hR : RO R 20 0 0 cs) (kk : ∀ h2, Inv h2 → Go G mL_law R Z y 2060 [some (.ref 8), some (.ref 9), some (.ref 150), some (.int (iZ at_))] [] h2 cs) : Go G mL_law R Z y 1885 [some (.ref 8), some (.ref 9), some (.ref 150), some (.int (iZ at_))] [] h cs := by
  have es := hi.st
  have hw := hi.cw
  have e0 := es.1.1
  have e1 := es.2.1.1
  have e5 := es.2.2.1.1
  have e6 := es.2.2.2
  have w6 := hw.2.2.2.1
  have w9 := hw.2.2.2.2
  have er := hi.rc
  have r1 := scV_r G (at_ + 1)
  have r2 := scV_r G (at_ + 2)
  have r3 := scV_r G (at_ + 3)
  have r4 := scV_r G (at_ + 4)
  have r5 := scV_r G (at_ + 5)
  have r6 := scV_r G (at_ + 6)
  refine g_aload_n dL_law_1885 rfl rfl (g_aload_n dL_law_1886 rfl rfl (g_iload_n dL_law_1887 rfl rfl (g_iconst dL_law_1888 (g_iadd dL_law_1889 (g_sld dL_law_1890 ⟨by omega, by omega, by omega⟩ (g_aload_n dL_law_1891 rfl rfl (g_iload_n dL_law_1892 rfl rfl (g_iconst dL_law_1893 (g_iadd dL_law_1894 (g_sld dL_law_1895 ⟨by omega, by omega, by omega⟩ (g_aload_n dL_law_1896 rfl rfl ?_)))))))))))
  refine g_iload_n dL_law_1897 rfl rfl (g_iconst dL_law_1898 (g_iadd dL_law_1899 (g_sld dL_law_1900 ⟨by omega, by omega, by omega⟩ ?_)))
  refine cv_L_180 (M := mL_law) rfl dL_law_1901 (yo9 hY) hR (Nat.le_of_ble_eq_true rfl) (e_X8_sheet hY r1 r2 r3) (kQX fun v1901 h1901 hq1901 => ?_)
  refine g_aload_n dL_law_1904 rfl rfl (g_aload_n dL_law_1905 rfl rfl (g_iload_n dL_law_1906 rfl rfl (g_iconst dL_law_1907 (g_iadd dL_law_1908 (g_sld dL_law_1909 ⟨by omega, by omega, by omega⟩ (g_aload_n dL_law_1910 rfl rfl (g_iload_n dL_law_1911 rfl rfl (g_iconst dL_law_1912 (g_iadd dL_law_1913 (g_sld dL_law_1914 ⟨by omega, by omega, by omega⟩ (g_aload_n dL_law_1915 rfl rfl ?_)))))))))))
  refine g_iload_n dL_law_1916 rfl rfl (g_iconst dL_law_1917 (g_iadd dL_law_1918 (g_sld dL_law_1919 ⟨by omega, by omega, by omega⟩ ?_)))
  refine cv_L_183 (M := mL_law) rfl dL_law_1920 (yo150 hY) hR (Nat.le_of_ble_eq_true rfl) (e_X9_sheet hY r1 r2 r3) (kQX fun v1920 h1920 hq1920 => ?_)
  have hx : v1901 = v1920 ∧ Inv h1920 := (by rcases hq1901 with ⟨a1, a2, a3⟩ | ⟨a1, ⟨a4, a2, a3⟩ | ⟨a4, a2, a3⟩⟩ <;> rcases hq1920 with ⟨b1, b2, b3⟩ | ⟨b1, ⟨b4, b2, b3⟩ | ⟨b4, b2, b3⟩⟩ <;> first | exact absurd b1 a1 | exact absurd a1 b1 | (exfalso; omega) | exact ⟨a2.trans b2.symm, by rw [b3, a3]; exact hi⟩ | (refine ⟨a2.trans b2.symm, ?_⟩; rw [b3, a3]; exact hi.sht (by omega) a1.2.1 (by omega)))
  refine g_ieqS 2060 dL_law_1923 rfl hx.1 ?_
  exact kk _ hx.2
set_option maxRecDepth 100000 in
set_option maxHeartbeats 1000000 in
theorem lc_lay {G : GX} {R : Room} {Z : ZT} {y : LY} {h : HM} {cs : Nat × Nat} (hY : Lay y) (hi : Inv h) {at_ : Int} (hat : 0 ≤ at_ ∧ at_ + 7 ≤ G.len) (hlen : G.len < 2147483648) (hR : RO R 20 0 0 cs) (kk : ∀ h2, Inv h2 → Go G mL_law R Z y 2060 [some (.ref 8), some (.ref 9), some (.ref 150), some (.int (iZ at_))] [] h2 cs) : Go G mL_law R Z y 1928 [some (.ref 8), some (.ref 9), some (.ref 150), some (.int (iZ at_))] [] h cs := by
  have es := hi.st
  have hw := hi.cw
  have e0 := es.1.1
  have e1 := es.2.1.1
  have e5 := es.2.2.1.1
  have e6 := es.2.2.2
  have w6 := hw.2.2.2.1
  have w9 := hw.2.2.2.2
  have er := hi.rc
  have hsh : ∀ k : Int, 0 ≤ k → k < 4 → ShR h k (h.I (142 + 2 * k.toNat) 1) (h.I (142 + 2 * k.toNat) 2) ∧ (-1 ≤ h.I (142 + 2 * k.toNat) 2) ∧ (0 ≤ h.I (142 + 2 * k.toNat) 1 ∧ h.I (142 + 2 * k.toNat) 1 ≤ 2) := fun k k0 k1 => (by have q := hi.sh k.toNat (by omega); rw [show ((k.toNat : Nat) : Int) = k by omega] at q; exact q)
  have fl := fltS_c (h.I (142 + 2 * (scV G (at_ + 1)).toNat) 1) (h.I (142 + 2 * (scV G (at_ + 1)).toNat) 2) (h.I (142 + 2 * (scV G (at_ + 1)).toNat) 1) (scV G (at_ + 2)) 1
  have r1 := scV_r G (at_ + 1)
  have r2 := scV_r G (at_ + 2)
  have r3 := scV_r G (at_ + 3)
  have r4 := scV_r G (at_ + 4)
  have r5 := scV_r G (at_ + 5)
  have r6 := scV_r G (at_ + 6)
  refine g_aload_n dL_law_1928 rfl rfl (g_aload_n dL_law_1929 rfl rfl (g_iload_n dL_law_1930 rfl rfl (g_iconst dL_law_1931 (g_iadd dL_law_1932 (g_sld dL_law_1933 ⟨by omega, by omega, by omega⟩ (g_aload_n dL_law_1934 rfl rfl (g_iload_n dL_law_1935 rfl rfl (g_iconst dL_law_1936 (g_iadd dL_law_1937 (g_sld dL_law_1938 ⟨by omega, by omega, by omega⟩ (g_aload_n dL_law_1939 rfl rfl ?_)))))))))))
  refine g_iload_n dL_law_1940 rfl rfl (g_iconst dL_law_1941 (g_iadd dL_law_1942 (g_sld dL_law_1943 ⟨by omega, by omega, by omega⟩ ?_)))
  refine cv_L_184 (M := mL_law) rfl dL_law_1944 (yo9 hY) hR (Nat.le_of_ble_eq_true rfl) (e_X8_lay hY r1 r2 r3 (fun k0 k1 => by (have q := hsh _ k0 k1; have qc := q.1.c; exact ⟨q.2.2, by omega, qc⟩))) (kQX fun v1944 h1944 hq1944 => ?_)
  have hLr : 0 ≤ (scV G (at_ + 1)) → (scV G (at_ + 1)) < 4 → ShR h1944 (scV G (at_ + 1)) (h.I (142 + 2 * (scV G (at_ + 1)).toNat) 1) (h.I (142 + 2 * (scV G (at_ + 1)).toNat) 2) := (by intro k0 k1; have q := (hsh _ k0 k1).1; rcases hq1944 with ⟨_, _, z⟩ | ⟨_, ⟨_, _, z⟩ | ⟨_, _, z⟩⟩; (rw [z]; exact q); (rw [z]; exact q); (unfold ShR at q ⊢; rw [z, sI_I, if_neg (by omega), sI_I, if_neg (by omega)]; exact q))
  refine g_aload_n dL_law_1947 rfl rfl (g_aload_n dL_law_1948 rfl rfl (g_iload_n dL_law_1949 rfl rfl (g_iconst dL_law_1950 (g_iadd dL_law_1951 (g_sld dL_law_1952 ⟨by omega, by omega, by omega⟩ (g_aload_n dL_law_1953 rfl rfl (g_iload_n dL_law_1954 rfl rfl (g_iconst dL_law_1955 (g_iadd dL_law_1956 (g_sld dL_law_1957 ⟨by omega, by omega, by omega⟩ (g_aload_n dL_law_1958 rfl rfl ?_)))))))))))
  refine g_iload_n dL_law_1959 rfl rfl (g_iconst dL_law_1960 (g_iadd dL_law_1961 (g_sld dL_law_1962 ⟨by omega, by omega, by omega⟩ ?_)))
  refine cv_L_187 (M := mL_law) rfl dL_law_1963 (yo150 hY) hR (Nat.le_of_ble_eq_true rfl) (e_X9_lay hY r1 r2 r3 hLr) (kQX fun v1963 h1963 hq1963 => ?_)
  have hx : v1944 = v1963 ∧ Inv h1963 := (by rcases hq1944 with ⟨a1, a2, a3⟩ | ⟨a1, ⟨a4, a2, a3⟩ | ⟨a4, a2, a3⟩⟩ <;> rcases hq1963 with ⟨b1, b2, b3⟩ | ⟨b1, ⟨b4, b2, b3⟩ | ⟨b4, b2, b3⟩⟩ <;> first | exact absurd b1 a1 | exact absurd a1 b1 | exact absurd b4 a4 | exact absurd a4 b4 | exact ⟨a2.trans b2.symm, by rw [b3, a3]; exact hi⟩ | (refine ⟨a2.trans b2.symm, ?_⟩; have fz := fl.2 a4; have qc := (hsh _ a1.1 a1.2).1.c; rw [b3, a3, show (40 * (scV G (at_ + 1)) + scV G (at_ + 2)).toNat = 40 * (scV G (at_ + 1)).toNat + (scV G (at_ + 2)).toNat by omega]; exact hi.lad (by omega) (by omega) (put_r r3)))
  refine g_ieqS 2060 dL_law_1966 rfl hx.1 ?_
  exact kk _ hx.2
