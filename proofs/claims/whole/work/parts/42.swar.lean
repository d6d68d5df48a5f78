/-! Pure facts of the bits: numbers of three bytes, their bits counted. -/
def OR3 (a b c : Nat) : Int32 := nI a ||| (nI b <<< ((8 : Int32) &&& 31)) ||| (nI c <<< ((16 : Int32) &&& 31))
theorem PP_nI (a b c : Nat) : PP a b c = nI (a + 256 * b + 65536 * c) := by
  rw [PP, show (256 : Int32) * nI b = nI (256 * b) from pk_mul 256 b, show (65536 : Int32) * nI c = nI (65536 * c) from pk_mul 65536 c, nI_add, nI_add]
theorem or3_PP {a b c : Nat} (ha : a < 256) (hb : b < 256) (hc : c < 256) : OR3 a b c = PP a b c := by
  rw [PP_nI]
  apply Int32.toBitVec_inj.mp
  show (BitVec.ofNat 32 a ||| (BitVec.ofNat 32 b <<< 8) ||| (BitVec.ofNat 32 c <<< 16)) = BitVec.ofNat 32 (a + 256 * b + 65536 * c)
  apply BitVec.eq_of_toNat_eq
  have s1 : b <<< 8 = b * 256 := Nat.shiftLeft_eq b 8
  have s2 : c <<< 16 = c * 65536 := Nat.shiftLeft_eq c 16
  rw [BitVec.toNat_or, BitVec.toNat_or, BitVec.toNat_shiftLeft, BitVec.toNat_shiftLeft, BitVec.toNat_ofNat, BitVec.toNat_ofNat, BitVec.toNat_ofNat, BitVec.toNat_ofNat, Nat.mod_eq_of_lt (show a < 2 ^ 32 by omega), Nat.mod_eq_of_lt (show b < 2 ^ 32 by omega), Nat.mod_eq_of_lt (show c < 2 ^ 32 by omega), Nat.mod_eq_of_lt (show b <<< 8 < 2 ^ 32 by omega), Nat.mod_eq_of_lt (show c <<< 16 < 2 ^ 32 by omega), Nat.mod_eq_of_lt (show a + 256 * b + 65536 * c < 2 ^ 32 by omega)]
  have e1 : a ||| b <<< 8 = b <<< 8 + a := by
    rw [Nat.or_comm, ← Nat.shiftLeft_add_eq_or_of_lt (show a < 2 ^ 8 by omega)]
  rw [e1]
  have e2 : (b <<< 8 + a) ||| c <<< 16 = c <<< 16 + (b <<< 8 + a) := by
    rw [Nat.or_comm, ← Nat.shiftLeft_add_eq_or_of_lt (show b <<< 8 + a < 2 ^ 16 by omega)]
  rw [e2]
  omega
theorem us_or1 (x y : Int32) : us (x ||| y) 1 = us x 1 ||| us y 1 := by
  apply Int32.toBitVec_inj.mp
  exact BitVec.ushiftRight_or_distrib _ _ 1
theorem us_or2 (x y : Int32) : us (x ||| y) 2 = us x 2 ||| us y 2 := by
  apply Int32.toBitVec_inj.mp
  exact BitVec.ushiftRight_or_distrib _ _ 2
theorem us_or4 (x y : Int32) : us (x ||| y) 4 = us x 4 ||| us y 4 := by
  apply Int32.toBitVec_inj.mp
  exact BitVec.ushiftRight_or_distrib _ _ 4
theorem us_or8 (x y : Int32) : us (x ||| y) 8 = us x 8 ||| us y 8 := by
  apply Int32.toBitVec_inj.mp
  exact BitVec.ushiftRight_or_distrib _ _ 8
theorem us_or16 (x y : Int32) : us (x ||| y) 16 = us x 16 ||| us y 16 := by
  apply Int32.toBitVec_inj.mp
  exact BitVec.ushiftRight_or_distrib _ _ 16
/-- the stages on one byte -/
def w1 (s : Nat) : Nat := s / 2 &&& 85
def w2 (s : Nat) : Nat := s &&& 51
def w3 (s : Nat) : Nat := s / 4 &&& 51
set_option maxRecDepth 100000 in
theorem sw_1 : ∀ s, s < 256 → (us (nI s) 1 &&& 1431655765 = nI (w1 s) ∧ us (nI s <<< ((8 : Int32) &&& 31)) 1 &&& 1431655765 = nI (w1 s) <<< ((8 : Int32) &&& 31) ∧ us (nI s <<< ((16 : Int32) &&& 31)) 1 &&& 1431655765 = nI (w1 s) <<< ((16 : Int32) &&& 31) ∧ w1 s ≤ s ∧ w1 s < 256) := by decide +kernel
set_option maxRecDepth 100000 in
theorem sw_2 : ∀ s, s < 256 → (nI s &&& 858993459 = nI (w2 s) ∧ (nI s <<< ((8 : Int32) &&& 31)) &&& 858993459 = nI (w2 s) <<< ((8 : Int32) &&& 31) ∧ (nI s <<< ((16 : Int32) &&& 31)) &&& 858993459 = nI (w2 s) <<< ((16 : Int32) &&& 31) ∧ w2 s < 256) := by decide +kernel
set_option maxRecDepth 100000 in
theorem sw_3 : ∀ s, s < 256 → (us (nI s) 2 &&& 858993459 = nI (w3 s) ∧ us (nI s <<< ((8 : Int32) &&& 31)) 2 &&& 858993459 = nI (w3 s) <<< ((8 : Int32) &&& 31) ∧ us (nI s <<< ((16 : Int32) &&& 31)) 2 &&& 858993459 = nI (w3 s) <<< ((16 : Int32) &&& 31) ∧ w3 s < 256) := by decide +kernel
theorem st_1 {a b c : Nat} (ha : a < 256) (hb : b < 256) (hc : c < 256) : bc1 (PP a b c) = PP (a - w1 a) (b - w1 b) (c - w1 c) := by
  obtain ⟨a1, -, -, a4, a5⟩ := sw_1 a ha
  obtain ⟨-, b2, -, b4, b5⟩ := sw_1 b hb
  obtain ⟨-, -, c3, c4, c5⟩ := sw_1 c hc
  have e : us (PP a b c) 1 &&& 1431655765 = PP (w1 a) (w1 b) (w1 c) := by
    rw [← or3_PP ha hb hc, OR3, us_or1, us_or1, or_and32, or_and32, a1, b2, c3, ← or3_PP a5 b5 c5, OR3]
  rw [bc1, e, PP_nI, PP_nI, PP_nI, show nI (a + 256 * b + 65536 * c) - nI (w1 a + 256 * w1 b + 65536 * w1 c) = nI (a + 256 * b + 65536 * c - (w1 a + 256 * w1 b + 65536 * w1 c)) from pk_sub (by omega)]
  congr 1
  omega
theorem st_2 {a b c : Nat} (ha : a < 256) (hb : b < 256) (hc : c < 256) : bc2 (PP a b c) = PP (w2 a + w3 a) (w2 b + w3 b) (w2 c + w3 c) := by
  obtain ⟨a1, -, -, a5⟩ := sw_2 a ha
  obtain ⟨-, b2, -, b5⟩ := sw_2 b hb
  obtain ⟨-, -, c3, c5⟩ := sw_2 c hc
  obtain ⟨d1, -, -, d5⟩ := sw_3 a ha
  obtain ⟨-, f2, -, f5⟩ := sw_3 b hb
  obtain ⟨-, -, g3, g5⟩ := sw_3 c hc
  have e : PP a b c &&& 858993459 = PP (w2 a) (w2 b) (w2 c) := by
    rw [← or3_PP ha hb hc, OR3, or_and32, or_and32, a1, b2, c3, ← or3_PP a5 b5 c5, OR3]
  have e2 : us (PP a b c) 2 &&& 858993459 = PP (w3 a) (w3 b) (w3 c) := by
    rw [← or3_PP ha hb hc, OR3, us_or2, us_or2, or_and32, or_and32, d1, f2, g3, ← or3_PP d5 f5 g5, OR3]
  rw [bc2, e, e2, PP_nI, PP_nI, PP_nI, nI_add]
  congr 1
  omega
