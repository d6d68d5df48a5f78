/-! The reference: parity, code words, nibble, letter. -/
def parS (v : Int32) : Nat → Int32
  | 0 => 0
  | k + 1 => parS v k + (v >>> (nI k &&& 31) &&& 1)
/-- the reference's parity -/
def parV (v : Int32) : Int32 := parS v 24 - parS v 24 / 2 * 2
def mcw0 (d : Int32) : Int32 := let d0 := d &&& 1; let d1 := d >>> ((1 : Int32) &&& 31) &&& 1; let d2 := d >>> ((2 : Int32) &&& 31) &&& 1; let d3 := d >>> ((3 : Int32) &&& 31)
  (1 + d0 + d2 + d3 - (1 + d0 + d2 + d3) / 2 * 2) + 2 * d0 + 4 * (1 + d0 + d1 + d3 - (1 + d0 + d1 + d3) / 2 * 2) + 8 * d1 + 16 * (1 + d0 + d1 + d2 - (1 + d0 + d1 + d2) / 2 * 2) + 32 * d2 + 128 * d3
/-- the reference's code word of d -/
def mcw (d : Int32) : Int32 := if parV (mcw0 d) = 1 then mcw0 d else mcw0 d + 64
def offS (x : Int32) : Nat → Int32
  | 0 => 0
  | k + 1 => offS x k + (x >>> (nI k &&& 31) &&& 1)
def mnS (b : Int32) : Nat → Int32 × Int32
  | 0 => (-1, 0)
  | d + 1 => if 2 ≤ offS (mcw (nI d) ^^^ b) 8 then mnS b d else (nI d, if offS (mcw (nI d) ^^^ b) 8 = 1 then 1 else 0)
/-- how many bits of the byte are mended -/
def mdV (b : Int32) : Int32 := match nibD b with
  | none => 0
  | some d => bcF (pg_cw d ^^^ b)
set_option maxRecDepth 100000 in
theorem mn_all : ∀ b, b < 256 → ((mnS (nI b) 16).1 = nibV (nI b) ∧ (mnS (nI b) 16).2 = mdV (nI b) ∧ (mdV (nI b) = 0 ∨ mdV (nI b) = 1) ∧ (nibV (nI b) < 0 ↔ nibD (nI b) = none)) := by decide +kernel
set_option maxRecDepth 100000 in
theorem par_all : ∀ b, b < 256 → (parV (nI b) = 0 ↔ ¬ (bcF (nI b) - bcF (nI b) / 2 * 2 = 1)) := by decide +kernel
theorem par_od {b : Nat} (h : b < 256) : parV (nI b) = 0 ↔ odF (nI b) = 0 := (par_all b h).trans (odF_0 _).symm
theorem pf_st_id (S : pf_S) (kd ix k : Nat) : pf_st S kd ix k (S kd ix k) = S := by
  funext a b c
  rw [pf_st_at]
  split
  · next q => obtain ⟨rfl, rfl, rfl⟩ := q; rfl
  · rfl
