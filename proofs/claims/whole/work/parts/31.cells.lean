/-! One cell, seen by both: what the reference notes is what the class's Screen holds. -/
/-- large, as the reference has it for row r -/
def lgV (r : Nat) : Int32 := if nI r ≤ 0 then 0 else if 7 ≤ nI r then 0 else 1
theorem dk_hid {rv rv2 lt : Int32} {g u : Nat → Int32} (h1 : nb rv2 = nb rv) (h2 : nb lt = nb (u 3)) : (dkV rv2 lt g = 0 ∧ ¬ ((¬ nb (g 3) = 0 ∧ nb (u 3) = 0) ∨ (¬ nb (g 4) = 0 ∧ nb rv = 0))) ∨ (dkV rv2 lt g = 1 ∧ ((¬ nb (g 3) = 0 ∧ nb (u 3) = 0) ∨ (¬ nb (g 4) = 0 ∧ nb rv = 0))) := by
  by_cases hd : drkP rv2 lt g
  · right
    refine ⟨by simp [dkV, hd], ?_⟩
    rcases hd with q | q
    · exact Or.inr ⟨q.1, by rw [← h1]; exact q.2⟩
    · exact Or.inl ⟨q.1, by rw [← h2]; exact q.2⟩
  · left
    refine ⟨by simp [dkV, hd], fun q => hd ?_⟩
    rcases q with q | q
    · exact Or.inr ⟨q.1, by rw [h2]; exact q.2⟩
    · exact Or.inl ⟨q.1, by rw [h1]; exact q.2⟩
theorem tl_sm (g : Nat → Int32) (r : Nat) (f : Int32) (hf : f = 0 ∨ f = 1 ∨ f = 3) : tlV g (lgV r) f = if nb (g 6) = 0 ∨ nI r ≤ 0 ∨ 7 ≤ nI r then f + smG g else f + smG g + 4 := by
  unfold tlV smG lgV
  by_cases h6 : nb (g 6) = 0 <;> by_cases hr : nI r ≤ 0 <;> by_cases h7 : 7 ≤ nI r <;> by_cases h3 : nb (g 3) = 0 <;> by_cases h4 : nb (g 4) = 0 <;> by_cases h5 : nb (g 5) = 0 <;> rcases hf with rfl | rfl | rfl <;> simp only [h6, hr, h7, h3, h4, h5, if_true, if_false, true_or, or_true, or_self] <;> decide
/-- a plain cell -/
theorem cell_pl {rv rv2 lt : Int32} {g u : Nat → Int32} {r : Nat} (c : Int32) (h1 : nb rv2 = nb rv) (h2 : nb lt = nb (u 3)) : dsU rv g (plU u c) (nI r) 4 = ntV rv2 lt g c ∧ dsU rv g (plU u c) (nI r) 5 = g 0 ∧ dsU rv g (plU u c) (nI r) 6 = g 1 ∧ dsU rv g (plU u c) (nI r) 7 = tlV g (lgV r) (fmV rv2 lt g 0 0) ∧ dsU rv g (plU u c) (nI r) 3 = u 3 := by
  have e0 : fmV rv2 lt g 0 0 = 0 := by simp [fmV, nb_0]
  have e3 : plU u c 3 = u 3 := rfl
  rw [e0, tl_sm g r 0 (Or.inl rfl)]
  rcases dk_hid (rv := rv) (rv2 := rv2) (lt := lt) (g := g) (u := u) h1 h2 with ⟨a, b⟩ | ⟨a, b⟩
  · have eh : dsH rv g (plU u c) = plU u c := by
      unfold dsH
      rw [e3, if_neg b]
    unfold dsU dsT
    rw [eh]
    have ev : ntV rv2 lt g c = c := by rw [ntV, if_pos a]
    rw [ev]
    by_cases hc : nb (g 6) = 0 ∨ nI r ≤ 0 ∨ 7 ≤ nI r
    · simp only [if_pos hc]
      exact ⟨rfl, rfl, rfl, rfl, rfl⟩
    · simp only [if_neg hc]
      exact ⟨rfl, rfl, rfl, rfl, rfl⟩
  · have eh : dsH rv g (plU u c) = plU (plU u c) 32 := by
      unfold dsH
      rw [e3, if_pos b]
    unfold dsU dsT
    rw [eh]
    have ev : ntV rv2 lt g c = 32 := by rw [ntV, if_neg (by rw [a]; decide)]
    rw [ev]
    by_cases hc : nb (g 6) = 0 ∨ nI r ≤ 0 ∨ 7 ≤ nI r
    · simp only [if_pos hc]
      exact ⟨rfl, rfl, rfl, rfl, rfl⟩
    · simp only [if_neg hc]
      exact ⟨rfl, rfl, rfl, rfl, rfl⟩
/-- a block -/
theorem cell_bl {rv rv2 lt : Int32} {g u : Nat → Int32} {r : Nat} (c a : Int32) (h1 : nb rv2 = nb rv) (h2 : nb lt = nb (u 3)) : dsU rv g (blU u c a) (nI r) 4 = ntV rv2 lt g c ∧ dsU rv g (blU u c a) (nI r) 5 = g 0 ∧ dsU rv g (blU u c a) (nI r) 6 = g 1 ∧ dsU rv g (blU u c a) (nI r) 7 = tlV g (lgV r) (fmV rv2 lt g 1 a) ∧ dsU rv g (blU u c a) (nI r) 3 = u 3 := by
  have e3 : blU u c a 3 = u 3 := rfl
  have n1 : ¬ nb (1 : Int32) = 0 := by decide
  rcases dk_hid (rv := rv) (rv2 := rv2) (lt := lt) (g := g) (u := u) h1 h2 with ⟨p, b⟩ | ⟨p, b⟩
  · have eh : dsH rv g (blU u c a) = blU u c a := by
      unfold dsH
      rw [e3, if_neg b]
    have e0 : fmV rv2 lt g 1 a = if nb a = 0 then 1 else 3 := by rw [fmV, if_neg n1, if_pos p]
    have e7 : blU u c a 7 = if nb a = 0 then 1 else 3 := rfl
    rw [e0, tl_sm g r _ (by split <;> simp)]
    unfold dsU dsT
    rw [eh]
    have ev : ntV rv2 lt g c = c := by rw [ntV, if_pos p]
    rw [ev]
    by_cases hc : nb (g 6) = 0 ∨ nI r ≤ 0 ∨ 7 ≤ nI r
    · simp only [if_pos hc]
      exact ⟨rfl, rfl, rfl, rfl, rfl⟩
    · simp only [if_neg hc]
      exact ⟨rfl, rfl, rfl, rfl, rfl⟩
  · have eh : dsH rv g (blU u c a) = plU (blU u c a) 32 := by
      unfold dsH
      rw [e3, if_pos b]
    have pd : ¬ dkV rv2 lt g = 0 := by rw [p]; decide
    have e0 : fmV rv2 lt g 1 a = 0 := by rw [fmV, if_neg n1, if_neg pd]
    rw [e0, tl_sm g r 0 (Or.inl rfl)]
    unfold dsU dsT
    rw [eh]
    have ev : ntV rv2 lt g c = 32 := by rw [ntV, if_neg pd]
    rw [ev]
    by_cases hc : nb (g 6) = 0 ∨ nI r ≤ 0 ∨ 7 ≤ nI r
    · simp only [if_pos hc]
      exact ⟨rfl, rfl, rfl, rfl, rfl⟩
    · simp only [if_neg hc]
      exact ⟨rfl, rfl, rfl, rfl, rfl⟩
theorem nt4_x (F : Nat → Nat → Int32) (g : Nat → Int32) (x : Nat) (sn sm : Int32) : nt4 F g x sn sm 34 x = sn ∧ nt4 F g x sn sm 35 x = g 0 ∧ nt4 F g x sn sm 36 x = g 1 ∧ nt4 F g x sn sm 37 x = sm := by
  simp [nt4, nt3, upd]
theorem nt4_o (F : Nat → Nat → Int32) (g : Nat → Int32) (x : Nat) (sn sm : Int32) {a y : Nat} (h : y ≠ x ∨ a < 34) : nt4 F g x sn sm a y = F a y := by
  rcases h with h | h
  · unfold nt4 nt3
    by_cases h7 : a = 37
    · subst h7; simp [upd, h]
    · by_cases h6 : a = 36
      · subst h6; simp [upd, h]
      · by_cases h5 : a = 35
        · subst h5; simp [upd, h]
        · by_cases h4 : a = 34
          · subst h4; simp [upd, h]
          · simp [h7, h6, h5, h4]
  · simp [nt4, nt3, show ¬ a = 37 by omega, show ¬ a = 36 by omega, show ¬ a = 35 by omega, show ¬ a = 34 by omega]
/-- what a letter's cell is for both -/
theorem cell_let {rv rv2 lt : Int32} {g u : Nat → Int32} {F : Nat → Nat → Int32} {r x : Nat} (c s : Int32) (h1 : nb rv2 = nb rv) (h2 : nb lt = nb (u 3)) :
    (nlF F g (lgV r) rv2 lt x c s 34 x = dsU rv (dlG g c (F 33 x)) (dlU g u c (F 33 x) s) (nI r) 4 ∧ nlF F g (lgV r) rv2 lt x c s 35 x = dsU rv (dlG g c (F 33 x)) (dlU g u c (F 33 x) s) (nI r) 5 ∧ nlF F g (lgV r) rv2 lt x c s 36 x = dsU rv (dlG g c (F 33 x)) (dlU g u c (F 33 x) s) (nI r) 6 ∧ nlF F g (lgV r) rv2 lt x c s 37 x = dsU rv (dlG g c (F 33 x)) (dlU g u c (F 33 x) s) (nI r) 7 ∧ dsU rv (dlG g c (F 33 x)) (dlU g u c (F 33 x) s) (nI r) 3 = u 3) ∧
    ∀ a y, (y ≠ x ∨ a < 34) → nlF F g (lgV r) rv2 lt x c s a y = F a y := by
  unfold nlF dlG dlU
  by_cases h0 : ¬ F 33 x = 0
  · rw [if_pos h0, if_pos h0, if_neg (fun q => h0 q.1)]
    obtain ⟨p1, p2, p3, p4, p5⟩ := cell_pl (r := r) (g := g) (F 33 x) h1 h2
    obtain ⟨q1, q2, q3, q4⟩ := nt4_x F g x (ntV rv2 lt g (F 33 x)) (tlV g (lgV r) (fmV rv2 lt g 0 0))
    exact ⟨⟨q1.trans p1.symm, q2.trans p2.symm, q3.trans p3.symm, q4.trans p4.symm, p5⟩, fun a y h => nt4_o _ _ _ _ _ h⟩
  · have h0' : F 33 x = 0 := Classical.not_not.mp h0
    rw [if_neg h0, if_neg h0]
    by_cases hb : ¬ nb (g 2) = 0 ∧ (c < 64 ∨ ¬ c ≤ 95)
    · rw [if_pos hb, if_pos hb, if_pos ⟨h0', hb⟩]
      obtain ⟨p1, p2, p3, p4, p5⟩ := cell_bl (r := r) (g := hlG g c (g 7)) c (g 7) h1 h2
      obtain ⟨q1, q2, q3, q4⟩ := nt4_x F (hlG g c (g 7)) x (ntV rv2 lt (hlG g c (g 7)) c) (tlV (hlG g c (g 7)) (lgV r) (fmV rv2 lt (hlG g c (g 7)) 1 (g 7)))
      exact ⟨⟨q1.trans p1.symm, q2.trans p2.symm, q3.trans p3.symm, q4.trans p4.symm, p5⟩, fun a y h => nt4_o _ _ _ _ _ h⟩
    · rw [if_neg hb, if_neg hb, if_neg (fun q => hb q.2)]
      obtain ⟨p1, p2, p3, p4, p5⟩ := cell_pl (r := r) (g := g) (losV c s) h1 h2
      obtain ⟨q1, q2, q3, q4⟩ := nt4_x F g x (ntV rv2 lt g (losV c s)) (tlV g (lgV r) (fmV rv2 lt g 0 0))
      exact ⟨⟨q1.trans p1.symm, q2.trans p2.symm, q3.trans p3.symm, q4.trans p4.symm, p5⟩, fun a y h => nt4_o _ _ _ _ _ h⟩
/-- what a mark's cell is for both -/
noncomputable def nmF (F : Nat → Nat → Int32) (g : Nat → Int32) (lg rv lt : Int32) (x : Nat) : Nat → Nat → Int32 := if nb (g 8) = 0 ∨ nb (g 2) = 0 then nt4 F g x (ntV rv lt g 32) (tlV g lg (fmV rv lt g 0 (g 10))) else nt4 F g x (ntV rv lt g (g 9)) (tlV g lg (fmV rv lt g 1 (g 10)))
theorem cell_mark {rv rv2 lt : Int32} {g u : Nat → Int32} {F : Nat → Nat → Int32} {r x : Nat} (h1 : nb rv2 = nb rv) (h2 : nb lt = nb (u 3)) :
    (nmF F g (lgV r) rv2 lt x 34 x = dsU rv g (mkU g u) (nI r) 4 ∧ nmF F g (lgV r) rv2 lt x 35 x = dsU rv g (mkU g u) (nI r) 5 ∧ nmF F g (lgV r) rv2 lt x 36 x = dsU rv g (mkU g u) (nI r) 6 ∧ nmF F g (lgV r) rv2 lt x 37 x = dsU rv g (mkU g u) (nI r) 7 ∧ dsU rv g (mkU g u) (nI r) 3 = u 3) ∧
    ∀ a y, (y ≠ x ∨ a < 34) → nmF F g (lgV r) rv2 lt x a y = F a y := by
  unfold nmF mkU
  by_cases h8 : nb (g 8) = 0 ∨ nb (g 2) = 0
  · have e : (if nb (g 8) = 0 then plU u 32 else if nb (g 2) = 0 then plU u 32 else blU u (g 9) (g 10)) = plU u 32 := by
      rcases h8 with q | q
      · rw [if_pos q]
      · by_cases q8 : nb (g 8) = 0
        · rw [if_pos q8]
        · rw [if_neg q8, if_pos q]
    rw [e, if_pos h8]
    obtain ⟨p1, p2, p3, p4, p5⟩ := cell_pl (r := r) (g := g) 32 h1 h2
    have ef : fmV rv2 lt g 0 (g 10) = fmV rv2 lt g 0 0 := by simp [fmV, nb_0]
    rw [ef]
    obtain ⟨q1, q2, q3, q4⟩ := nt4_x F g x (ntV rv2 lt g 32) (tlV g (lgV r) (fmV rv2 lt g 0 0))
    exact ⟨⟨q1.trans p1.symm, q2.trans p2.symm, q3.trans p3.symm, q4.trans p4.symm, p5⟩, fun a y h => nt4_o _ _ _ _ _ h⟩
  · rw [if_neg (fun q => h8 (Or.inl q)), if_neg (fun q => h8 (Or.inr q)), if_neg h8]
    obtain ⟨p1, p2, p3, p4, p5⟩ := cell_bl (r := r) (g := g) (g 9) (g 10) h1 h2
    obtain ⟨q1, q2, q3, q4⟩ := nt4_x F g x (ntV rv2 lt g (g 9)) (tlV g (lgV r) (fmV rv2 lt g 1 (g 10)))
    exact ⟨⟨q1.trans p1.symm, q2.trans p2.symm, q3.trans p3.symm, q4.trans p4.symm, p5⟩, fun a y h => nt4_o _ _ _ _ _ h⟩
/-- the letters of the pages and of the rolling header are letters -/
def LtI (A : pf_S) (P : Nat) : Prop := (∀ k, pgk P k → ∀ j, j < 160 → ∃ n : Nat, n < 128 ∧ A 15 k j = nI n) ∧ ∀ j, j < 20 → ∃ n : Nat, n < 128 ∧ A 10 0 j = nI n
set_option maxRecDepth 100000 in
theorem hdl_all : ∀ n, n < 2048 → ∀ x, x < 4 → ((if nI x = 0 then (80 : Int32) else if nI x = 1 then dgL (if nI n / 256 - nI n / 256 / 8 * 8 = 0 then 8 else nI n / 256 - nI n / 256 / 8 * 8) else if nI x = 2 then dgL (nI n / 16 - nI n / 16 / 16 * 16) else if nI x = 3 then dgL (nI n - nI n / 16 * 16) else 32).toNatClampNeg < 128 ∧ 0 ≤ (if nI x = 0 then (80 : Int32) else if nI x = 1 then dgL (if nI n / 256 - nI n / 256 / 8 * 8 = 0 then 8 else nI n / 256 - nI n / 256 / 8 * 8) else if nI x = 2 then dgL (nI n / 16 - nI n / 16 / 16 * 16) else if nI x = 3 then dgL (nI n - nI n / 16 * 16) else 32)) := by decide +kernel
theorem ltV_nat {A : pf_S} {P r x : Nat} {o : Option Nat} (hl : LtI A P) (hw : WtI A) (ho : ∀ k, o = some k → pgk P k) (hr : r < 8) (hx : x < 20) : ∃ n : Nat, n < 128 ∧ ltV A o r x = nI n := by
  unfold ltV
  by_cases hc : r = 0 ∧ x < 8
  · rw [if_pos hc]
    by_cases h4 : x < 4
    · obtain ⟨wn, hwn, ew⟩ := hw
      have q := hdl_all wn hwn x h4
      unfold hdV
      rw [ew]
      obtain ⟨j, hj, e⟩ := nI_of (Int32.not_lt.mpr q.2)
      rw [e] at q ⊢
      rw [nI_clamp hj] at q
      exact ⟨j, q.1, rfl⟩
    · refine ⟨32, by decide, ?_⟩
      rcases (show x = 4 ∨ x = 5 ∨ x = 6 ∨ x = 7 by omega) with rfl | rfl | rfl | rfl <;> rfl
  · rw [if_neg hc]
    cases o with
    | none =>
      dsimp only
      split
      · exact hl.2 x hx
      · exact ⟨32, by decide, rfl⟩
    | some k => exact hl.1 k (ho k rfl) _ (by omega)
