/-! the script -/
section
variable {G : GX} {M : MI} {R : Room} {Z : ZT} {y : LY} {pc : Nat} {ls : List (Option Value)} {st : List Value} {h : HM} {cs : Nat × Nat}
def scV (G : GX) (i : Int) : Int := (G.xs i.toNat).toInt
theorem scV_r (G : GX) (i : Int) : R32 (scV G i) := ⟨(G.xs i.toNat).le_toInt, (G.xs i.toNat).toInt_lt⟩
theorem g_sld {i : Int} (hd : decode M.2.1 pc = .ok (.iaload, 1)) (hi : IX i G.len) (kk : Go G M R Z y (pc + 1) ls (.int (iZ (scV G i)) :: st) h cs) : Go G M R Z y pc ls (.int (iZ i) :: .ref 8 :: st) h cs := by
  intro p e s m args below meth c H locs la C hh hS hl
  have hO := C.2.2.2.2.2.2.2.2.2.2
  have k1 := kk p e s m args below meth c H locs la C hh hS hl
  have ex : iZ (scV G i) = G.xs (iZ i).toNatClampNeg := by rw [hi.nat]; exact iZ_of _
  have k2 : W p G.l e R s m args below meth c H locs cs.1 cs.2 (Z s args below) (F0 m (pc + 1) la (.int (G.xs (iZ i).toNatClampNeg) :: st.map (rv G))) := by rw [← ex]; exact k1
  exact va_sld C.1 C.2.1 hO.1 (Nat.lt_of_lt_of_le hO.2.1 hO.2.2.2.2.2.2) (fun q => absurd hO.2.1 (Nat.not_lt.mpr q)) hS hi.vp hd k2
theorem g_slen8 (hd : decode M.2.1 pc = .ok (.arraylength, 1)) (kk : Go G M R Z y (pc + 1) ls (.int (iZ (G.len : Int)) :: st) h cs) : Go G M R Z y pc ls (.ref 8 :: st) h cs := by
  intro p e s m args below meth c H locs la C hh hS hl
  have hO := C.2.2.2.2.2.2.2.2.2.2
  have k1 := kk p e s m args below meth c H locs la C hh hS hl
  have ex : iZ (G.len : Int) = Int32.ofNat G.len := Int32.ofInt_eq_ofNat (n := G.len)
  have k2 : W p G.l e R s m args below meth c H locs cs.1 cs.2 (Z s args below) (F0 m (pc + 1) la (.int (Int32.ofNat G.len) :: st.map (rv G))) := by rw [← ex]; exact k1
  exact va_slen C.1 C.2.1 hO.1 (Nat.lt_of_lt_of_le hO.2.1 hO.2.2.2.2.2.2) (fun q => absurd hO.2.1 (Nat.not_lt.mpr q)) hS hd k2
theorem g_ieqS {a b : Int} {off : Int} (tgt : Nat) (hd : decode M.2.1 pc = .ok (.if_icmp .eq off, 3)) (ht : (pc : Int) + off = (tgt : Int)) (e0 : a = b) (kt : Go G M R Z y tgt ls st h cs) : Go G M R Z y pc ls (.int (iZ b) :: .int (iZ a) :: st) h cs := by
  intro p e s m args below meth c H locs la C hh hS hl
  exact lv_icmp_eq C.1 C.2.1 hd ht (fun q => kt p e s m args below meth c H locs la C hh hS hl) (fun q => absurd (congrArg iZ e0) q)
theorem g_leqS {a b : Int} {off : Int} (tgt : Nat) (hd : decode M.2.1 pc = .ok (.lcmp, 1)) (hd2 : decode M.2.1 (pc + 1) = .ok (.ifCond .eq off, 3)) (ht : ((pc + 1 : Nat) : Int) + off = (tgt : Int)) (e0 : a = b) (kt : Go G M R Z y tgt ls st h cs) : Go G M R Z y pc ls (.long (lZ b) :: .long (lZ a) :: st) h cs := by
  intro p e s m args below meth c H locs la C hh hS hl
  exact W.lcmp C.1 C.2.1 hd (lv_if_eq C.1 C.2.1 hd2 ht (fun q => kt p e s m args below meth c H locs la C hh hS hl) (fun q => absurd ((lg_cmp_eq (lZ a) (lZ b)).mpr (congrArg lZ e0)) q))
theorem lOr_r (a b : Int) : R64 (lOr a b) := ⟨(lZ a ||| lZ b).le_toInt, (lZ a ||| lZ b).toInt_lt⟩
end
