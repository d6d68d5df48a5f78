/-! Pure facts of the bits: the parity of a number of three bytes. -/
def sB (a : Nat) : Nat := w2 (a - w1 a) + w3 (a - w1 a)
def vB (a : Nat) : Nat := sB a % 16 + sB a / 16
set_option maxRecDepth 100000 in
theorem sB_all : ∀ a, a < 256 → (a - w1 a < 256 ∧ sB a % 16 ≤ 4 ∧ sB a / 16 ≤ 4 ∧ vB a ≤ 8 ∧ parS (nI a) 8 = nI (vB a)) := by decide +kernel
theorem or3b {a b c : Nat} (ha : a < 16) (hb : b < 256) (hc : c < 256) : nI a ||| (nI b <<< ((4 : Int32) &&& 31)) ||| (nI c <<< ((12 : Int32) &&& 31)) = nI (a + 16 * b + 4096 * c) := by
  apply Int32.toBitVec_inj.mp
  show (BitVec.ofNat 32 a ||| (BitVec.ofNat 32 b <<< 4) ||| (BitVec.ofNat 32 c <<< 12)) = BitVec.ofNat 32 (a + 16 * b + 4096 * c)
  apply BitVec.eq_of_toNat_eq
  have s1 : b <<< 4 = b * 16 := Nat.shiftLeft_eq b 4
  have s2 : c <<< 12 = c * 4096 := Nat.shiftLeft_eq c 12
  rw [BitVec.toNat_or, BitVec.toNat_or, BitVec.toNat_shiftLeft, BitVec.toNat_shiftLeft, BitVec.toNat_ofNat, BitVec.toNat_ofNat, BitVec.toNat_ofNat, BitVec.toNat_ofNat, Nat.mod_eq_of_lt (show a < 2 ^ 32 by omega), Nat.mod_eq_of_lt (show b < 2 ^ 32 by omega), Nat.mod_eq_of_lt (show c < 2 ^ 32 by omega), Nat.mod_eq_of_lt (show b <<< 4 < 2 ^ 32 by omega), Nat.mod_eq_of_lt (show c <<< 12 < 2 ^ 32 by omega), Nat.mod_eq_of_lt (show a + 16 * b + 4096 * c < 2 ^ 32 by omega)]
  have e1 : a ||| b <<< 4 = b <<< 4 + a := by
    rw [Nat.or_comm, ← Nat.shiftLeft_add_eq_or_of_lt (show a < 2 ^ 4 by omega)]
  rw [e1]
  have e2 : (b <<< 4 + a) ||| c <<< 12 = c <<< 12 + (b <<< 4 + a) := by
    rw [Nat.or_comm, ← Nat.shiftLeft_add_eq_or_of_lt (show b <<< 4 + a < 2 ^ 12 by omega)]
  rw [e2]
  omega
set_option maxRecDepth 100000 in
theorem sw_4 : ∀ s, s < 256 → (us (nI s) 4 = nI (s / 16) ∧ us (nI s <<< ((8 : Int32) &&& 31)) 4 = nI s <<< ((4 : Int32) &&& 31) ∧ us (nI s <<< ((16 : Int32) &&& 31)) 4 = nI s <<< ((12 : Int32) &&& 31)) := by decide +kernel
set_option maxRecDepth 100000 in
theorem sw_5 : ∀ s, s < 256 → (nI s &&& 252645135 = nI (s % 16) ∧ (nI s <<< ((8 : Int32) &&& 31)) &&& 252645135 = nI (s % 16) <<< ((8 : Int32) &&& 31) ∧ (nI s <<< ((16 : Int32) &&& 31)) &&& 252645135 = nI (s % 16) <<< ((16 : Int32) &&& 31)) := by decide +kernel
set_option maxRecDepth 100000 in
theorem sw_6 : ∀ s, s < 256 → (us (nI s) 8 = 0 ∧ us (nI s <<< ((8 : Int32) &&& 31)) 8 = nI s ∧ us (nI s <<< ((16 : Int32) &&& 31)) 8 = nI s <<< ((8 : Int32) &&& 31) ∧ us (nI s) 16 = 0 ∧ us (nI s <<< ((8 : Int32) &&& 31)) 16 = 0 ∧ us (nI s <<< ((16 : Int32) &&& 31)) 16 = nI s ∧ nI s &&& 63 = nI (s % 64) ∧ (nI s <<< ((8 : Int32) &&& 31)) &&& 63 = 0 ∧ (nI s <<< ((16 : Int32) &&& 31)) &&& 63 = 0) := by decide +kernel
theorem or_z (v : Int32) : v ||| 0 = v := by
  apply Int32.toBitVec_inj.mp
  show v.toBitVec ||| 0#32 = v.toBitVec
  simp
theorem z_or (v : Int32) : 0 ||| v = v := by
  apply Int32.toBitVec_inj.mp
  show 0#32 ||| v.toBitVec = v.toBitVec
  simp
theorem st_3 {a b c : Nat} (a1 : a % 16 ≤ 4) (a2 : a / 16 ≤ 4) (b1 : b % 16 ≤ 4) (b2 : b / 16 ≤ 4) (c1 : c % 16 ≤ 4) (c2 : c / 16 ≤ 4) : bc3 (PP a b c) = PP (a % 16 + a / 16) (b % 16 + b / 16) (c % 16 + c / 16) := by
  have ha : a < 256 := by omega
  have hb : b < 256 := by omega
  have hc : c < 256 := by omega
  have e : us (PP a b c) 4 = nI (a / 16 + 16 * b + 4096 * c) := by
    rw [← or3_PP ha hb hc, OR3, us_or4, us_or4, (sw_4 a ha).1, (sw_4 b hb).2.1, (sw_4 c hc).2.2, or3b (by omega) hb hc]
  have e2 : PP a b c + nI (a / 16 + 16 * b + 4096 * c) = PP (a + a / 16 + 16 * (b % 16)) (b + b / 16 + 16 * (c % 16)) (c + c / 16) := by
    rw [PP_nI, PP_nI, nI_add]
    congr 1
    omega
  have u0 : a + a / 16 + 16 * (b % 16) < 256 := by omega
  have u1 : b + b / 16 + 16 * (c % 16) < 256 := by omega
  have u2 : c + c / 16 < 256 := by omega
  rw [bc3, e, e2, ← or3_PP u0 u1 u2, OR3, or_and32, or_and32, (sw_5 _ u0).1, (sw_5 _ u1).2.1, (sw_5 _ u2).2.2, show (a + a / 16 + 16 * (b % 16)) % 16 = a % 16 + a / 16 by omega, show (b + b / 16 + 16 * (c % 16)) % 16 = b % 16 + b / 16 by omega, show (c + c / 16) % 16 = c % 16 + c / 16 by omega, ← or3_PP (by omega) (by omega) (by omega), OR3]
theorem st_4 {a b c : Nat} (ha : a ≤ 8) (hb : b ≤ 8) (hc : c ≤ 8) : bc4 (PP a b c) = PP (a + b) (b + c) c := by
  have e : us (PP a b c) 8 = nI (b + 256 * c) := by
    have q := or3_PP (a := b) (b := c) (c := 0) (by omega) (by omega) (by omega)
    rw [OR3, show nI 0 <<< ((16 : Int32) &&& 31) = 0 from by decide, or_z, PP_nI] at q
    rw [← or3_PP (by omega) (by omega) (by omega), OR3, us_or8, us_or8, (sw_6 a (by omega)).1, (sw_6 b (by omega)).2.1, (sw_6 c (by omega)).2.2.1, z_or, q]
    rfl
  rw [bc4, e, PP_nI, PP_nI, nI_add]
  congr 1
  omega
theorem st_5 {a b c : Nat} (ha : a ≤ 16) (hb : b ≤ 16) (hc : c ≤ 8) : bc5 (PP a b c) &&& 63 = nI (a + c) := by
  have e : us (PP a b c) 16 = nI c := by
    rw [← or3_PP (by omega) (by omega) (by omega), OR3, us_or16, us_or16, (sw_6 a (by omega)).2.2.2.1, (sw_6 b (by omega)).2.2.2.2.1, (sw_6 c (by omega)).2.2.2.2.2.1, z_or, z_or]
  have e2 : PP a b c + nI c = PP (a + c) b c := by
    rw [PP_nI, PP_nI, nI_add]
    congr 1
    omega
  rw [bc5, e, e2, ← or3_PP (by omega) (by omega) (by omega), OR3, or_and32, or_and32, (sw_6 (a + c) (by omega)).2.2.2.2.2.2.1, (sw_6 b (by omega)).2.2.2.2.2.2.2.1, (sw_6 c (by omega)).2.2.2.2.2.2.2.2, or_z, or_z, Nat.mod_eq_of_lt (by omega)]
theorem bcF_PP {a b c : Nat} (ha : a < 256) (hb : b < 256) (hc : c < 256) : bcF (PP a b c) = nI (vB a + vB b + vB c) := by
  obtain ⟨a1, a2, a3, a4, -⟩ := sB_all a ha
  obtain ⟨b1, b2, b3, b4, -⟩ := sB_all b hb
  obtain ⟨c1, c2, c3, c4, -⟩ := sB_all c hc
  have e2 : bc2 (bc1 (PP a b c)) = PP (sB a) (sB b) (sB c) := by rw [st_1 ha hb hc, st_2 a1 b1 c1]; rfl
  have e3 : bc3 (PP (sB a) (sB b) (sB c)) = PP (vB a) (vB b) (vB c) := st_3 a2 a3 b2 b3 c2 c3
  rw [bcF, e2, e3, st_4 a4 b4 c4, st_5 (by omega) (by omega) (by omega)]
