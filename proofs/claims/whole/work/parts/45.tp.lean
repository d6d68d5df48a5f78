/-! Pure facts of the bits: TPall. -/
set_option maxRecDepth 100000 in
theorem bn_a : ∀ b, b < 2 → ∀ y, y < 8 → ∀ x, x < 128 → (nI b ||| (nI y <<< ((1 : Int32) &&& 31)) ||| (nI x <<< ((4 : Int32) &&& 31))) &&& 1073741824 = 0 := by decide +kernel
set_option maxRecDepth 100000 in
theorem bn_b : ∀ t, t < 128 → (nI t <<< ((11 : Int32) &&& 31)) &&& 1073741824 = 0 := by decide +kernel
theorem bits_ne (q : Int32) : ¬ bitsF q = -1 := by
  intro w
  obtain ⟨b, hb, eb⟩ := and_bit (q >>> ((2 : Int32) &&& 31))
  obtain ⟨y, hy, ey⟩ := pk_andE (q >>> ((4 : Int32) &&& 31)) (m := 7) 3 (by decide)
  obtain ⟨x, hx, ex⟩ := pk_andE (q >>> ((8 : Int32) &&& 31)) (m := 127) 7 (by decide)
  obtain ⟨t, ht, et⟩ := pk_andE (q >>> ((16 : Int32) &&& 31)) (m := 127) 7 (by decide)
  have ef : bitsF q = (nI b ||| (nI y <<< ((1 : Int32) &&& 31)) ||| (nI x <<< ((4 : Int32) &&& 31))) ||| (nI t <<< ((11 : Int32) &&& 31)) := by
    unfold bitsF
    rw [eb, show q >>> ((4 : Int32) &&& 31) &&& 7 = nI y from ey, show q >>> ((8 : Int32) &&& 31) &&& 127 = nI x from ex, show q >>> ((16 : Int32) &&& 31) &&& 127 = nI t from et]
  have e : bitsF q &&& 1073741824 = 0 := by
    rw [ef, or_and32, bn_a b (by omega) y (by omega) x (by omega), bn_b t (by omega)]
    rfl
  rw [w] at e
  exact absurd e (by decide)
theorem xor_and32 (x y m : Int32) : (x ^^^ y) &&& m = (x &&& m) ^^^ (y &&& m) := by
  apply Int32.toBitVec_inj.mp
  show (x.toBitVec ^^^ y.toBitVec) &&& m.toBitVec = (x.toBitVec &&& m.toBitVec) ^^^ (y.toBitVec &&& m.toBitVec)
  apply BitVec.eq_of_getLsbD_eq
  intro i hi
  simp [BitVec.getLsbD_and, BitVec.getLsbD_xor, Bool.and_xor_distrib_right]
set_option maxRecDepth 100000 in
theorem m24_a : ∀ s, s < 256 → (nI s &&& 16777215 = nI s ∧ (nI s <<< ((8 : Int32) &&& 31)) &&& 16777215 = nI s <<< ((8 : Int32) &&& 31) ∧ (nI s <<< ((16 : Int32) &&& 31)) &&& 16777215 = nI s <<< ((16 : Int32) &&& 31)) := by decide +kernel
theorem m24_b : ∀ s, s < 24 → ((1 : Int32) <<< (nI s &&& 31)) &&& 16777215 = (1 : Int32) <<< (nI s &&& 31) := by decide
theorem PP_m {a b c : Nat} (ha : a < 256) (hb : b < 256) (hc : c < 256) : PP a b c &&& 16777215 = PP a b c := by
  rw [← or3_PP ha hb hc, OR3, or_and32, or_and32, (m24_a a ha).1, (m24_a b hb).2.1, (m24_a c hc).2.2]
theorem and_nn {x : Int32} (h : x &&& 16777215 = x) : 0 ≤ x := by
  obtain ⟨j, hj, e⟩ := pk_andE x (m := 16777215) 24 (by decide)
  have e2 : x = nI j := h.symm.trans e
  rw [e2]
  exact Int32.not_lt.mp (nI_pos (by omega))
theorem fail_lt (p : Int32) : ∀ j, j ≤ 5 → ∃ n : Nat, n < 2 ^ j ∧ failTo p j = nI n := by
  intro j
  induction j with
  | zero => intro _; exact ⟨0, by decide, rfl⟩
  | succ j ih =>
    intro h
    obtain ⟨n, hn, e⟩ := ih (by omega)
    have q : ∀ j, j < 5 → (1 : Int32) <<< (nI j &&& 31) = nI (2 ^ j) := by decide
    rw [failTo]
    split
    · exact ⟨n + 2 ^ j, by rw [Nat.pow_succ]; omega, by rw [e, q j (by omega), nI_add]⟩
    · exact ⟨n, by rw [Nat.pow_succ]; omega, e⟩
theorem TP_all : TPall := by
  intro b0 b1 b2 h0 h1 h2
  refine ⟨or3_PP h0 h1 h2, par_PP h0 h1 h2, fail_PP h0 h1 h2 5 (Nat.le_refl _), ?_, ?_⟩
  · obtain ⟨n, hn, e⟩ := fail_lt (PP b0 b1 b2) 5 (Nat.le_refl _)
    unfold tripV mdP
    by_cases ho : odF (PP b0 b1 b2) = 0
    · rw [if_pos ho, if_pos ho]
      by_cases hf : failTo (PP b0 b1 b2) 5 < 24
      · rw [if_pos hf]
        intro q
        exact absurd q (bits_ne _)
      · rw [if_neg hf, if_neg hf]
        exact fun q => q
    · rw [if_neg ho, if_neg ho]
      by_cases hf : failTo (PP b0 b1 b2) 5 = 0
      · rw [if_pos hf]
        intro q
        exact absurd q (bits_ne _)
      · rw [if_neg hf, if_neg hf]
        exact fun q => q
  · obtain ⟨n, hn, e⟩ := fail_lt (PP b0 b1 b2) 5 (Nat.le_refl _)
    unfold tripV mdP
    by_cases ho : odF (PP b0 b1 b2) = 0
    · rw [if_pos ho, if_pos ho]
      by_cases hf : failTo (PP b0 b1 b2) 5 < 24
      · rw [if_pos hf, if_pos hf]
        intro _
        refine ⟨?_, rfl⟩
        rw [e] at hf
        have hn24 : n < 24 := (show nI n < nI 24 ↔ _ from nI_ltI (by omega) (by decide)).mp hf
        obtain ⟨s, hs, es⟩ : ∃ s : Nat, s < 24 ∧ (if failTo (PP b0 b1 b2) 5 = 0 then 24 else failTo (PP b0 b1 b2) 5) - 1 = nI s := by
          have q : ∀ n, n < 24 → ∃ s, s < 24 ∧ (if nI n = 0 then 24 else nI n) - 1 = nI s := by decide
          rw [e]
          exact q n hn24
        rw [es]
        exact and_nn (by rw [xor_and32, PP_m h0 h1 h2, m24_b s hs])
      · rw [if_neg hf, if_neg hf]
        exact fun q => absurd rfl q
    · rw [if_neg ho, if_neg ho]
      by_cases hf : failTo (PP b0 b1 b2) 5 = 0
      · rw [if_pos hf, if_pos hf]
        exact fun _ => ⟨and_nn (PP_m h0 h1 h2), rfl⟩
      · rw [if_neg hf, if_neg hf]
        exact fun q => absurd rfl q
