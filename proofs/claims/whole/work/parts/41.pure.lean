/-! Pure facts of the bits: BYok. -/
theorem by_key (v : BitVec 64) (s : Nat) (hs : s ≤ 56) : ((v.sshiftRight s) &&& 255#64).signExtend 32 = ((v >>> s).signExtend 32) &&& 255#32 := by
  apply BitVec.eq_of_getLsbD_eq
  intro i hi
  have c1 : ∀ i, i < 8 → (255#64).getLsbD i = true ∧ (255#32).getLsbD i = true := by decide
  have c2 : ∀ i, i < 32 → ¬ i < 8 → (255#64).getLsbD i = false ∧ (255#32).getLsbD i = false := by decide
  simp only [BitVec.getLsbD_signExtend, BitVec.getLsbD_and, BitVec.getLsbD_sshiftRight, BitVec.getLsbD_ushiftRight]
  by_cases h8 : i < 8
  · obtain ⟨p, q⟩ := c1 i h8
    rw [p, q]
    simp [hi, show i < 64 by omega, show s + i < 64 by omega, show ¬ 64 ≤ i by omega]
  · obtain ⟨p, q⟩ := c2 i hi h8
    rw [p, q]
    simp [hi, show i < 64 by omega]
theorem BY_ok : BYok := by
  intro x j hj
  apply Int32.toBitVec_inj.mp
  rcases (show j = 0 ∨ j = 1 ∨ j = 2 ∨ j = 3 ∨ j = 4 ∨ j = 5 ∨ j = 6 ∨ j = 7 by omega) with rfl | rfl | rfl | rfl | rfl | rfl | rfl | rfl
  · exact by_key x.toBitVec 0 (by decide)
  · exact by_key x.toBitVec 8 (by decide)
  · exact by_key x.toBitVec 16 (by decide)
  · exact by_key x.toBitVec 24 (by decide)
  · exact by_key x.toBitVec 32 (by decide)
  · exact by_key x.toBitVec 40 (by decide)
  · exact by_key x.toBitVec 48 (by decide)
  · exact by_key x.toBitVec 56 (by decide)
/-! TDok -/
theorem and_bit (y : Int32) : ∃ b : Nat, b < 2 ∧ y &&& 1 = nI b := by
  obtain ⟨b, hb, e⟩ := pk_andE y (m := 1) 1 (by decide)
  exact ⟨b, by omega, e⟩
theorem bt_key (v M : BitVec 32) (a c : Nat) (h : a + c < 32) (hM : M.getLsbD c = true) : v.sshiftRight (a + c) &&& 1#32 = ((v.sshiftRight a) &&& M).sshiftRight c &&& 1#32 := by
  apply BitVec.eq_of_getLsbD_eq
  intro i hi
  by_cases h0 : i = 0
  · subst h0
    simp only [BitVec.getLsbD_and, BitVec.getLsbD_sshiftRight, Nat.add_zero]
    simp only [hM, if_pos h, if_pos (show c < 32 by omega)]
    simp [show ¬ 32 ≤ c by omega]
  · have e : (1#32).getLsbD i = false := by
      simp [BitVec.getLsbD_one, h0]
    rw [BitVec.getLsbD_and, BitVec.getLsbD_and, e]
    simp
theorem or_and32 (x y m : Int32) : (x ||| y) &&& m = (x &&& m) ||| (y &&& m) := by
  apply Int32.toBitVec_inj.mp
  show (x.toBitVec ||| y.toBitVec) &&& m.toBitVec = (x.toBitVec &&& m.toBitVec) ||| (y.toBitVec &&& m.toBitVec)
  apply BitVec.eq_of_getLsbD_eq
  intro i hi
  simp [BitVec.getLsbD_and, BitVec.getLsbD_or, Bool.and_or_distrib_right]
theorem or_shr6 (x y : Int32) : (x ||| y) >>> ((6 : Int32) &&& 31) = (x >>> ((6 : Int32) &&& 31)) ||| (y >>> ((6 : Int32) &&& 31)) := by
  apply Int32.toBitVec_inj.mp
  exact BitVec.sshiftRight_or_distrib _ _ 6
theorem or_shr11 (x y : Int32) : (x ||| y) >>> ((11 : Int32) &&& 31) = (x >>> ((11 : Int32) &&& 31)) ||| (y >>> ((11 : Int32) &&& 31)) := by
  apply Int32.toBitVec_inj.mp
  exact BitVec.sshiftRight_or_distrib _ _ 11
theorem td06 (q : Int32) : tdS q 0 6 23 = 0 + ((q >>> (nI 2 &&& 31) &&& 1) <<< (nI 0 - nI 0 &&& 31)) + ((q >>> (nI 4 &&& 31) &&& 1) <<< (nI 1 - nI 0 &&& 31)) + ((q >>> (nI 5 &&& 31) &&& 1) <<< (nI 2 - nI 0 &&& 31)) + ((q >>> (nI 6 &&& 31) &&& 1) <<< (nI 3 - nI 0 &&& 31)) + ((q >>> (nI 8 &&& 31) &&& 1) <<< (nI 4 - nI 0 &&& 31)) + ((q >>> (nI 9 &&& 31) &&& 1) <<< (nI 5 - nI 0 &&& 31)) := by
  simp [tdS, cx]
theorem td65 (q : Int32) : tdS q 6 5 23 = 0 + ((q >>> (nI 10 &&& 31) &&& 1) <<< (nI 6 - nI 6 &&& 31)) + ((q >>> (nI 11 &&& 31) &&& 1) <<< (nI 7 - nI 6 &&& 31)) + ((q >>> (nI 12 &&& 31) &&& 1) <<< (nI 8 - nI 6 &&& 31)) + ((q >>> (nI 13 &&& 31) &&& 1) <<< (nI 9 - nI 6 &&& 31)) + ((q >>> (nI 14 &&& 31) &&& 1) <<< (nI 10 - nI 6 &&& 31)) := by
  simp [tdS, cx]
theorem td117 (q : Int32) : tdS q 11 7 23 = 0 + ((q >>> (nI 16 &&& 31) &&& 1) <<< (nI 11 - nI 11 &&& 31)) + ((q >>> (nI 17 &&& 31) &&& 1) <<< (nI 12 - nI 11 &&& 31)) + ((q >>> (nI 18 &&& 31) &&& 1) <<< (nI 13 - nI 11 &&& 31)) + ((q >>> (nI 19 &&& 31) &&& 1) <<< (nI 14 - nI 11 &&& 31)) + ((q >>> (nI 20 &&& 31) &&& 1) <<< (nI 15 - nI 11 &&& 31)) + ((q >>> (nI 21 &&& 31) &&& 1) <<< (nI 16 - nI 11 &&& 31)) + ((q >>> (nI 22 &&& 31) &&& 1) <<< (nI 17 - nI 11 &&& 31)) := by
  simp [tdS, cx]
theorem by0 (q : Int32) : (q >>> (nI 4 &&& 31) &&& 1) = ((q >>> ((4 : Int32) &&& 31) &&& 7) >>> (nI 0 &&& 31)) &&& 1 := Int32.toBitVec_inj.mp (bt_key q.toBitVec 7#32 4 0 (by decide) (by decide))
theorem by1 (q : Int32) : (q >>> (nI 5 &&& 31) &&& 1) = ((q >>> ((4 : Int32) &&& 31) &&& 7) >>> (nI 1 &&& 31)) &&& 1 := Int32.toBitVec_inj.mp (bt_key q.toBitVec 7#32 4 1 (by decide) (by decide))
theorem by2 (q : Int32) : (q >>> (nI 6 &&& 31) &&& 1) = ((q >>> ((4 : Int32) &&& 31) &&& 7) >>> (nI 2 &&& 31)) &&& 1 := Int32.toBitVec_inj.mp (bt_key q.toBitVec 7#32 4 2 (by decide) (by decide))
theorem bz0 (q : Int32) : (q >>> (nI 8 &&& 31) &&& 1) = ((q >>> ((8 : Int32) &&& 31) &&& 127) >>> (nI 0 &&& 31)) &&& 1 := Int32.toBitVec_inj.mp (bt_key q.toBitVec 127#32 8 0 (by decide) (by decide))
theorem bz1 (q : Int32) : (q >>> (nI 9 &&& 31) &&& 1) = ((q >>> ((8 : Int32) &&& 31) &&& 127) >>> (nI 1 &&& 31)) &&& 1 := Int32.toBitVec_inj.mp (bt_key q.toBitVec 127#32 8 1 (by decide) (by decide))
theorem bz2 (q : Int32) : (q >>> (nI 10 &&& 31) &&& 1) = ((q >>> ((8 : Int32) &&& 31) &&& 127) >>> (nI 2 &&& 31)) &&& 1 := Int32.toBitVec_inj.mp (bt_key q.toBitVec 127#32 8 2 (by decide) (by decide))
theorem bz3 (q : Int32) : (q >>> (nI 11 &&& 31) &&& 1) = ((q >>> ((8 : Int32) &&& 31) &&& 127) >>> (nI 3 &&& 31)) &&& 1 := Int32.toBitVec_inj.mp (bt_key q.toBitVec 127#32 8 3 (by decide) (by decide))
theorem bz4 (q : Int32) : (q >>> (nI 12 &&& 31) &&& 1) = ((q >>> ((8 : Int32) &&& 31) &&& 127) >>> (nI 4 &&& 31)) &&& 1 := Int32.toBitVec_inj.mp (bt_key q.toBitVec 127#32 8 4 (by decide) (by decide))
theorem bz5 (q : Int32) : (q >>> (nI 13 &&& 31) &&& 1) = ((q >>> ((8 : Int32) &&& 31) &&& 127) >>> (nI 5 &&& 31)) &&& 1 := Int32.toBitVec_inj.mp (bt_key q.toBitVec 127#32 8 5 (by decide) (by decide))
theorem bz6 (q : Int32) : (q >>> (nI 14 &&& 31) &&& 1) = ((q >>> ((8 : Int32) &&& 31) &&& 127) >>> (nI 6 &&& 31)) &&& 1 := Int32.toBitVec_inj.mp (bt_key q.toBitVec 127#32 8 6 (by decide) (by decide))
theorem bw0 (q : Int32) : (q >>> (nI 16 &&& 31) &&& 1) = ((q >>> ((16 : Int32) &&& 31) &&& 127) >>> (nI 0 &&& 31)) &&& 1 := Int32.toBitVec_inj.mp (bt_key q.toBitVec 127#32 16 0 (by decide) (by decide))
theorem bw1 (q : Int32) : (q >>> (nI 17 &&& 31) &&& 1) = ((q >>> ((16 : Int32) &&& 31) &&& 127) >>> (nI 1 &&& 31)) &&& 1 := Int32.toBitVec_inj.mp (bt_key q.toBitVec 127#32 16 1 (by decide) (by decide))
theorem bw2 (q : Int32) : (q >>> (nI 18 &&& 31) &&& 1) = ((q >>> ((16 : Int32) &&& 31) &&& 127) >>> (nI 2 &&& 31)) &&& 1 := Int32.toBitVec_inj.mp (bt_key q.toBitVec 127#32 16 2 (by decide) (by decide))
theorem bw3 (q : Int32) : (q >>> (nI 19 &&& 31) &&& 1) = ((q >>> ((16 : Int32) &&& 31) &&& 127) >>> (nI 3 &&& 31)) &&& 1 := Int32.toBitVec_inj.mp (bt_key q.toBitVec 127#32 16 3 (by decide) (by decide))
theorem bw4 (q : Int32) : (q >>> (nI 20 &&& 31) &&& 1) = ((q >>> ((16 : Int32) &&& 31) &&& 127) >>> (nI 4 &&& 31)) &&& 1 := Int32.toBitVec_inj.mp (bt_key q.toBitVec 127#32 16 4 (by decide) (by decide))
theorem bw5 (q : Int32) : (q >>> (nI 21 &&& 31) &&& 1) = ((q >>> ((16 : Int32) &&& 31) &&& 127) >>> (nI 5 &&& 31)) &&& 1 := Int32.toBitVec_inj.mp (bt_key q.toBitVec 127#32 16 5 (by decide) (by decide))
theorem bw6 (q : Int32) : (q >>> (nI 22 &&& 31) &&& 1) = ((q >>> ((16 : Int32) &&& 31) &&& 127) >>> (nI 6 &&& 31)) &&& 1 := Int32.toBitVec_inj.mp (bt_key q.toBitVec 127#32 16 6 (by decide) (by decide))
set_option maxRecDepth 100000 in
theorem td_a : ∀ b, b < 2 → ∀ y, y < 8 → ∀ x, x < 128 → (0 + (nI b <<< (nI 0 - nI 0 &&& 31)) + ((nI y >>> (nI 0 &&& 31) &&& 1) <<< (nI 1 - nI 0 &&& 31)) + ((nI y >>> (nI 1 &&& 31) &&& 1) <<< (nI 2 - nI 0 &&& 31)) + ((nI y >>> (nI 2 &&& 31) &&& 1) <<< (nI 3 - nI 0 &&& 31)) + ((nI x >>> (nI 0 &&& 31) &&& 1) <<< (nI 4 - nI 0 &&& 31)) + ((nI x >>> (nI 1 &&& 31) &&& 1) <<< (nI 5 - nI 0 &&& 31)) = (nI b ||| (nI y <<< ((1 : Int32) &&& 31)) ||| (nI x <<< ((4 : Int32) &&& 31))) &&& 63 ∧ ((nI b ||| (nI y <<< ((1 : Int32) &&& 31)) ||| (nI x <<< ((4 : Int32) &&& 31))) >>> ((11 : Int32) &&& 31)) &&& 127 = 0 ∧ 0 + ((nI x >>> (nI 2 &&& 31) &&& 1) <<< (nI 6 - nI 6 &&& 31)) + ((nI x >>> (nI 3 &&& 31) &&& 1) <<< (nI 7 - nI 6 &&& 31)) + ((nI x >>> (nI 4 &&& 31) &&& 1) <<< (nI 8 - nI 6 &&& 31)) + ((nI x >>> (nI 5 &&& 31) &&& 1) <<< (nI 9 - nI 6 &&& 31)) + ((nI x >>> (nI 6 &&& 31) &&& 1) <<< (nI 10 - nI 6 &&& 31)) = ((nI b ||| (nI y <<< ((1 : Int32) &&& 31)) ||| (nI x <<< ((4 : Int32) &&& 31))) >>> ((6 : Int32) &&& 31)) &&& 31) := by decide +kernel
set_option maxRecDepth 100000 in
theorem td_b : ∀ t, t < 128 → ((nI t <<< ((11 : Int32) &&& 31)) &&& 63 = 0 ∧ ((nI t <<< ((11 : Int32) &&& 31)) >>> ((6 : Int32) &&& 31)) &&& 31 = 0 ∧ 0 + ((nI t >>> (nI 0 &&& 31) &&& 1) <<< (nI 11 - nI 11 &&& 31)) + ((nI t >>> (nI 1 &&& 31) &&& 1) <<< (nI 12 - nI 11 &&& 31)) + ((nI t >>> (nI 2 &&& 31) &&& 1) <<< (nI 13 - nI 11 &&& 31)) + ((nI t >>> (nI 3 &&& 31) &&& 1) <<< (nI 14 - nI 11 &&& 31)) + ((nI t >>> (nI 4 &&& 31) &&& 1) <<< (nI 15 - nI 11 &&& 31)) + ((nI t >>> (nI 5 &&& 31) &&& 1) <<< (nI 16 - nI 11 &&& 31)) + ((nI t >>> (nI 6 &&& 31) &&& 1) <<< (nI 17 - nI 11 &&& 31)) = ((nI t <<< ((11 : Int32) &&& 31)) >>> ((11 : Int32) &&& 31)) &&& 127) := by decide +kernel
theorem TD_ok : TDok := by
  intro q
  obtain ⟨b, hb, eb⟩ := and_bit (q >>> ((2 : Int32) &&& 31))
  obtain ⟨y, hy, ey⟩ := pk_andE (q >>> ((4 : Int32) &&& 31)) (m := 7) 3 (by decide)
  obtain ⟨x, hx, ex⟩ := pk_andE (q >>> ((8 : Int32) &&& 31)) (m := 127) 7 (by decide)
  obtain ⟨t, ht, et⟩ := pk_andE (q >>> ((16 : Int32) &&& 31)) (m := 127) 7 (by decide)
  have ef : bitsF q = (nI b ||| (nI y <<< ((1 : Int32) &&& 31)) ||| (nI x <<< ((4 : Int32) &&& 31))) ||| (nI t <<< ((11 : Int32) &&& 31)) := by
    unfold bitsF
    rw [eb, show q >>> ((4 : Int32) &&& 31) &&& 7 = nI y from ey, show q >>> ((8 : Int32) &&& 31) &&& 127 = nI x from ex, show q >>> ((16 : Int32) &&& 31) &&& 127 = nI t from et]
  obtain ⟨a1, a2, a3⟩ := td_a b (by omega) y (by omega) x (by omega)
  obtain ⟨c1, c2, c3⟩ := td_b t (by omega)
  have ey' : q >>> ((4 : Int32) &&& 31) &&& 7 = nI y := ey
  have ex' : q >>> ((8 : Int32) &&& 31) &&& 127 = nI x := ex
  have et' : q >>> ((16 : Int32) &&& 31) &&& 127 = nI t := et
  have eb' : q >>> (nI 2 &&& 31) &&& 1 = nI b := eb
  have z1 : ∀ v : Int32, v ||| 0 = v := fun v => by
    apply Int32.toBitVec_inj.mp
    show v.toBitVec ||| 0#32 = v.toBitVec
    simp
  have z2 : ∀ v : Int32, 0 ||| v = v := fun v => by
    apply Int32.toBitVec_inj.mp
    show 0#32 ||| v.toBitVec = v.toBitVec
    simp
  refine ⟨?_, ?_, ?_⟩
  · rw [td06, ef, or_and32, c1, z1, ← a1, eb', by0, by1, by2, bz0, bz1, ey', ex']
  · rw [td65, ef, mdF, or_shr6, or_and32, c2, z1, ← a3, bz2, bz3, bz4, bz5, bz6, ex']
  · rw [td117, ef, dtF, or_shr11, or_and32, a2, z2, ← c3, bw0, bw1, bw2, bw3, bw4, bw5, bw6, et']
