/-! The reference: its drawing. MD S g lg F: the flat memory S with the states g (as the row of States in the class), large lg, and the rows F of cells, covers, seen, colours, grounds, sums (32 to 37). -/
def mdG (g : Nat → Int32) (lg : Int32) (j : Nat) : Int32 := match j with
  | 25 => g 0
  | 26 => g 1
  | 27 => g 2
  | 28 => g 3
  | 29 => g 4
  | 30 => g 5
  | 31 => g 6
  | 32 => lg
  | 33 => g 7
  | 34 => g 8
  | 35 => g 9
  | 36 => g 10
  | _ => 0
def MD (S : pf_S) (g : Nat → Int32) (lg : Int32) (F : Nat → Nat → Int32) : pf_S := fun a b => if a = 20 ∧ b = 0 then (fun j => if j < 25 then S 20 0 j else if 37 ≤ j then S 20 0 j else mdG g lg j) else if 32 ≤ a ∧ a ≤ 37 ∧ b = 0 then F a else S a b
theorem mdG_big (g : Nat → Int32) (lg : Int32) {j : Nat} (h : 37 ≤ j) : mdG g lg j = 0 := by
  obtain ⟨i, rfl⟩ : ∃ i, j = i + 37 := ⟨j - 37, by omega⟩
  rfl
section PFMD
variable (S : pf_S) (g : Nat → Int32) (lg : Int32) (F : Nat → Nat → Int32)
theorem MD_ne {a b : Nat} (h : ¬ (a = 20 ∧ b = 0)) (h2 : ¬ (32 ≤ a ∧ a ≤ 37 ∧ b = 0)) : MD S g lg F a b = S a b := by
  unfold MD
  rw [if_neg h, if_neg h2]
theorem MD_st20 {s : Nat} {v : Int32} {g' : Nat → Int32} {lg' : Int32} (hs : 25 ≤ s) (h : ∀ j, 25 ≤ j → j < 37 → mdG g' lg' j = if j = s then v else mdG g lg j) (hs2 : s < 37) : pf_st (MD S g lg F) 20 0 s v = MD S g' lg' F := by
  funext a b j
  rw [pf_st_at]
  by_cases h1 : a = 20 ∧ b = 0
  · obtain ⟨rfl, rfl⟩ := h1
    simp only [true_and]
    by_cases hj : j < 25
    · rw [if_neg (by omega)]
      simp only [MD, and_self, if_true, if_pos hj]
    · simp only [MD, and_self, if_true, if_neg hj]
      by_cases hb : 37 ≤ j
      · rw [if_pos hb, if_pos hb, if_neg (by omega)]
      · rw [if_neg hb, if_neg hb, h j (by omega) (by omega)]
  · rw [if_neg (by intro q; exact h1 ⟨q.1, q.2.1⟩)]
    simp only [MD, if_neg h1]

theorem MD25 (v : Int32) : pf_st (MD S g lg F) 20 0 25 v = MD S (upd g 0 v) lg F := MD_st20 S g lg F (by decide) (fun j h1 h2 => by
  rcases (show j = 25 ∨ j = 26 ∨ j = 27 ∨ j = 28 ∨ j = 29 ∨ j = 30 ∨ j = 31 ∨ j = 32 ∨ j = 33 ∨ j = 34 ∨ j = 35 ∨ j = 36 by omega) with rfl | rfl | rfl | rfl | rfl | rfl | rfl | rfl | rfl | rfl | rfl | rfl <;> rfl) (by decide)
theorem MD26 (v : Int32) : pf_st (MD S g lg F) 20 0 26 v = MD S (upd g 1 v) lg F := MD_st20 S g lg F (by decide) (fun j h1 h2 => by
  rcases (show j = 25 ∨ j = 26 ∨ j = 27 ∨ j = 28 ∨ j = 29 ∨ j = 30 ∨ j = 31 ∨ j = 32 ∨ j = 33 ∨ j = 34 ∨ j = 35 ∨ j = 36 by omega) with rfl | rfl | rfl | rfl | rfl | rfl | rfl | rfl | rfl | rfl | rfl | rfl <;> rfl) (by decide)
theorem MD27 (v : Int32) : pf_st (MD S g lg F) 20 0 27 v = MD S (upd g 2 v) lg F := MD_st20 S g lg F (by decide) (fun j h1 h2 => by
  rcases (show j = 25 ∨ j = 26 ∨ j = 27 ∨ j = 28 ∨ j = 29 ∨ j = 30 ∨ j = 31 ∨ j = 32 ∨ j = 33 ∨ j = 34 ∨ j = 35 ∨ j = 36 by omega) with rfl | rfl | rfl | rfl | rfl | rfl | rfl | rfl | rfl | rfl | rfl | rfl <;> rfl) (by decide)
theorem MD28 (v : Int32) : pf_st (MD S g lg F) 20 0 28 v = MD S (upd g 3 v) lg F := MD_st20 S g lg F (by decide) (fun j h1 h2 => by
  rcases (show j = 25 ∨ j = 26 ∨ j = 27 ∨ j = 28 ∨ j = 29 ∨ j = 30 ∨ j = 31 ∨ j = 32 ∨ j = 33 ∨ j = 34 ∨ j = 35 ∨ j = 36 by omega) with rfl | rfl | rfl | rfl | rfl | rfl | rfl | rfl | rfl | rfl | rfl | rfl <;> rfl) (by decide)
theorem MD29 (v : Int32) : pf_st (MD S g lg F) 20 0 29 v = MD S (upd g 4 v) lg F := MD_st20 S g lg F (by decide) (fun j h1 h2 => by
  rcases (show j = 25 ∨ j = 26 ∨ j = 27 ∨ j = 28 ∨ j = 29 ∨ j = 30 ∨ j = 31 ∨ j = 32 ∨ j = 33 ∨ j = 34 ∨ j = 35 ∨ j = 36 by omega) with rfl | rfl | rfl | rfl | rfl | rfl | rfl | rfl | rfl | rfl | rfl | rfl <;> rfl) (by decide)
theorem MD30 (v : Int32) : pf_st (MD S g lg F) 20 0 30 v = MD S (upd g 5 v) lg F := MD_st20 S g lg F (by decide) (fun j h1 h2 => by
  rcases (show j = 25 ∨ j = 26 ∨ j = 27 ∨ j = 28 ∨ j = 29 ∨ j = 30 ∨ j = 31 ∨ j = 32 ∨ j = 33 ∨ j = 34 ∨ j = 35 ∨ j = 36 by omega) with rfl | rfl | rfl | rfl | rfl | rfl | rfl | rfl | rfl | rfl | rfl | rfl <;> rfl) (by decide)
theorem MD31 (v : Int32) : pf_st (MD S g lg F) 20 0 31 v = MD S (upd g 6 v) lg F := MD_st20 S g lg F (by decide) (fun j h1 h2 => by
  rcases (show j = 25 ∨ j = 26 ∨ j = 27 ∨ j = 28 ∨ j = 29 ∨ j = 30 ∨ j = 31 ∨ j = 32 ∨ j = 33 ∨ j = 34 ∨ j = 35 ∨ j = 36 by omega) with rfl | rfl | rfl | rfl | rfl | rfl | rfl | rfl | rfl | rfl | rfl | rfl <;> rfl) (by decide)
theorem MD32 (v : Int32) : pf_st (MD S g lg F) 20 0 32 v = MD S g v F := MD_st20 S g lg F (by decide) (fun j h1 h2 => by
  rcases (show j = 25 ∨ j = 26 ∨ j = 27 ∨ j = 28 ∨ j = 29 ∨ j = 30 ∨ j = 31 ∨ j = 32 ∨ j = 33 ∨ j = 34 ∨ j = 35 ∨ j = 36 by omega) with rfl | rfl | rfl | rfl | rfl | rfl | rfl | rfl | rfl | rfl | rfl | rfl <;> rfl) (by decide)
theorem MD33 (v : Int32) : pf_st (MD S g lg F) 20 0 33 v = MD S (upd g 7 v) lg F := MD_st20 S g lg F (by decide) (fun j h1 h2 => by
  rcases (show j = 25 ∨ j = 26 ∨ j = 27 ∨ j = 28 ∨ j = 29 ∨ j = 30 ∨ j = 31 ∨ j = 32 ∨ j = 33 ∨ j = 34 ∨ j = 35 ∨ j = 36 by omega) with rfl | rfl | rfl | rfl | rfl | rfl | rfl | rfl | rfl | rfl | rfl | rfl <;> rfl) (by decide)
theorem MD34 (v : Int32) : pf_st (MD S g lg F) 20 0 34 v = MD S (upd g 8 v) lg F := MD_st20 S g lg F (by decide) (fun j h1 h2 => by
  rcases (show j = 25 ∨ j = 26 ∨ j = 27 ∨ j = 28 ∨ j = 29 ∨ j = 30 ∨ j = 31 ∨ j = 32 ∨ j = 33 ∨ j = 34 ∨ j = 35 ∨ j = 36 by omega) with rfl | rfl | rfl | rfl | rfl | rfl | rfl | rfl | rfl | rfl | rfl | rfl <;> rfl) (by decide)
theorem MD35 (v : Int32) : pf_st (MD S g lg F) 20 0 35 v = MD S (upd g 9 v) lg F := MD_st20 S g lg F (by decide) (fun j h1 h2 => by
  rcases (show j = 25 ∨ j = 26 ∨ j = 27 ∨ j = 28 ∨ j = 29 ∨ j = 30 ∨ j = 31 ∨ j = 32 ∨ j = 33 ∨ j = 34 ∨ j = 35 ∨ j = 36 by omega) with rfl | rfl | rfl | rfl | rfl | rfl | rfl | rfl | rfl | rfl | rfl | rfl <;> rfl) (by decide)
theorem MD36 (v : Int32) : pf_st (MD S g lg F) 20 0 36 v = MD S (upd g 10 v) lg F := MD_st20 S g lg F (by decide) (fun j h1 h2 => by
  rcases (show j = 25 ∨ j = 26 ∨ j = 27 ∨ j = 28 ∨ j = 29 ∨ j = 30 ∨ j = 31 ∨ j = 32 ∨ j = 33 ∨ j = 34 ∨ j = 35 ∨ j = 36 by omega) with rfl | rfl | rfl | rfl | rfl | rfl | rfl | rfl | rfl | rfl | rfl | rfl <;> rfl) (by decide)
theorem MDF32 (x : Nat) (v : Int32) : pf_st (MD S g lg F) 32 0 x v = MD S g lg (fun a => if a = 32 then upd (F 32) x v else F a) := by
  funext a b j
  rw [pf_st_at]
  by_cases h1 : a = 20 ∧ b = 0
  · obtain ⟨rfl, rfl⟩ := h1
    rw [if_neg (by omega)]
    simp only [MD, and_self, if_true]
  · by_cases h2 : 32 ≤ a ∧ a ≤ 37 ∧ b = 0
    · simp only [MD, if_neg h1, if_pos h2]
      by_cases h3 : a = 32
      · subst h3
        rw [if_pos rfl, upd]
        by_cases h4 : j = x
        · rw [if_pos ⟨rfl, h2.2.2, h4⟩, if_pos h4]
        · rw [if_neg (fun q => h4 q.2.2), if_neg h4]
      · rw [if_neg (fun q => h3 q.1), if_neg h3]
    · rw [if_neg (by intro q; omega)]
      simp only [MD, if_neg h1, if_neg h2]
theorem MD_32 : MD S g lg F 32 0 = F 32 := rfl
theorem MDF33 (x : Nat) (v : Int32) : pf_st (MD S g lg F) 33 0 x v = MD S g lg (fun a => if a = 33 then upd (F 33) x v else F a) := by
  funext a b j
  rw [pf_st_at]
  by_cases h1 : a = 20 ∧ b = 0
  · obtain ⟨rfl, rfl⟩ := h1
    rw [if_neg (by omega)]
    simp only [MD, and_self, if_true]
  · by_cases h2 : 32 ≤ a ∧ a ≤ 37 ∧ b = 0
    · simp only [MD, if_neg h1, if_pos h2]
      by_cases h3 : a = 33
      · subst h3
        rw [if_pos rfl, upd]
        by_cases h4 : j = x
        · rw [if_pos ⟨rfl, h2.2.2, h4⟩, if_pos h4]
        · rw [if_neg (fun q => h4 q.2.2), if_neg h4]
      · rw [if_neg (fun q => h3 q.1), if_neg h3]
    · rw [if_neg (by intro q; omega)]
      simp only [MD, if_neg h1, if_neg h2]
theorem MD_33 : MD S g lg F 33 0 = F 33 := rfl
theorem MDF34 (x : Nat) (v : Int32) : pf_st (MD S g lg F) 34 0 x v = MD S g lg (fun a => if a = 34 then upd (F 34) x v else F a) := by
  funext a b j
  rw [pf_st_at]
  by_cases h1 : a = 20 ∧ b = 0
  · obtain ⟨rfl, rfl⟩ := h1
    rw [if_neg (by omega)]
    simp only [MD, and_self, if_true]
  · by_cases h2 : 32 ≤ a ∧ a ≤ 37 ∧ b = 0
    · simp only [MD, if_neg h1, if_pos h2]
      by_cases h3 : a = 34
      · subst h3
        rw [if_pos rfl, upd]
        by_cases h4 : j = x
        · rw [if_pos ⟨rfl, h2.2.2, h4⟩, if_pos h4]
        · rw [if_neg (fun q => h4 q.2.2), if_neg h4]
      · rw [if_neg (fun q => h3 q.1), if_neg h3]
    · rw [if_neg (by intro q; omega)]
      simp only [MD, if_neg h1, if_neg h2]
theorem MD_34 : MD S g lg F 34 0 = F 34 := rfl
theorem MDF35 (x : Nat) (v : Int32) : pf_st (MD S g lg F) 35 0 x v = MD S g lg (fun a => if a = 35 then upd (F 35) x v else F a) := by
  funext a b j
  rw [pf_st_at]
  by_cases h1 : a = 20 ∧ b = 0
  · obtain ⟨rfl, rfl⟩ := h1
    rw [if_neg (by omega)]
    simp only [MD, and_self, if_true]
  · by_cases h2 : 32 ≤ a ∧ a ≤ 37 ∧ b = 0
    · simp only [MD, if_neg h1, if_pos h2]
      by_cases h3 : a = 35
      · subst h3
        rw [if_pos rfl, upd]
        by_cases h4 : j = x
        · rw [if_pos ⟨rfl, h2.2.2, h4⟩, if_pos h4]
        · rw [if_neg (fun q => h4 q.2.2), if_neg h4]
      · rw [if_neg (fun q => h3 q.1), if_neg h3]
    · rw [if_neg (by intro q; omega)]
      simp only [MD, if_neg h1, if_neg h2]
theorem MD_35 : MD S g lg F 35 0 = F 35 := rfl
theorem MDF36 (x : Nat) (v : Int32) : pf_st (MD S g lg F) 36 0 x v = MD S g lg (fun a => if a = 36 then upd (F 36) x v else F a) := by
  funext a b j
  rw [pf_st_at]
  by_cases h1 : a = 20 ∧ b = 0
  · obtain ⟨rfl, rfl⟩ := h1
    rw [if_neg (by omega)]
    simp only [MD, and_self, if_true]
  · by_cases h2 : 32 ≤ a ∧ a ≤ 37 ∧ b = 0
    · simp only [MD, if_neg h1, if_pos h2]
      by_cases h3 : a = 36
      · subst h3
        rw [if_pos rfl, upd]
        by_cases h4 : j = x
        · rw [if_pos ⟨rfl, h2.2.2, h4⟩, if_pos h4]
        · rw [if_neg (fun q => h4 q.2.2), if_neg h4]
      · rw [if_neg (fun q => h3 q.1), if_neg h3]
    · rw [if_neg (by intro q; omega)]
      simp only [MD, if_neg h1, if_neg h2]
theorem MD_36 : MD S g lg F 36 0 = F 36 := rfl
theorem MDF37 (x : Nat) (v : Int32) : pf_st (MD S g lg F) 37 0 x v = MD S g lg (fun a => if a = 37 then upd (F 37) x v else F a) := by
  funext a b j
  rw [pf_st_at]
  by_cases h1 : a = 20 ∧ b = 0
  · obtain ⟨rfl, rfl⟩ := h1
    rw [if_neg (by omega)]
    simp only [MD, and_self, if_true]
  · by_cases h2 : 32 ≤ a ∧ a ≤ 37 ∧ b = 0
    · simp only [MD, if_neg h1, if_pos h2]
      by_cases h3 : a = 37
      · subst h3
        rw [if_pos rfl, upd]
        by_cases h4 : j = x
        · rw [if_pos ⟨rfl, h2.2.2, h4⟩, if_pos h4]
        · rw [if_neg (fun q => h4 q.2.2), if_neg h4]
      · rw [if_neg (fun q => h3 q.1), if_neg h3]
    · rw [if_neg (by intro q; omega)]
      simp only [MD, if_neg h1, if_neg h2]
theorem MD_37 : MD S g lg F 37 0 = F 37 := rfl
theorem MDs_25 : MD S g lg F 20 0 25 = g 0 := rfl
theorem MDs_26 : MD S g lg F 20 0 26 = g 1 := rfl
theorem MDs_27 : MD S g lg F 20 0 27 = g 2 := rfl
theorem MDs_28 : MD S g lg F 20 0 28 = g 3 := rfl
theorem MDs_29 : MD S g lg F 20 0 29 = g 4 := rfl
theorem MDs_30 : MD S g lg F 20 0 30 = g 5 := rfl
theorem MDs_31 : MD S g lg F 20 0 31 = g 6 := rfl
theorem MDs_32 : MD S g lg F 20 0 32 = lg := rfl
theorem MDs_33 : MD S g lg F 20 0 33 = g 7 := rfl
theorem MDs_34 : MD S g lg F 20 0 34 = g 8 := rfl
theorem MDs_35 : MD S g lg F 20 0 35 = g 9 := rfl
theorem MDs_36 : MD S g lg F 20 0 36 = g 10 := rfl
theorem MDs_0 : MD S g lg F 20 0 0 = S 20 0 0 := rfl
theorem MDs_11 : MD S g lg F 20 0 11 = S 20 0 11 := rfl
theorem MDs_13 : MD S g lg F 20 0 13 = S 20 0 13 := rfl
theorem MDs_14 : MD S g lg F 20 0 14 = S 20 0 14 := rfl
theorem MDs_15 : MD S g lg F 20 0 15 = S 20 0 15 := rfl
theorem MDs_16 : MD S g lg F 20 0 16 = S 20 0 16 := rfl
theorem MDs_17 : MD S g lg F 20 0 17 = S 20 0 17 := rfl
theorem MDs_18 : MD S g lg F 20 0 18 = S 20 0 18 := rfl
theorem MD_21 : MD S g lg F 21 0 = S 21 0 := rfl
theorem MD_22 : MD S g lg F 22 0 = S 22 0 := rfl
theorem MD_23 : MD S g lg F 23 0 = S 23 0 := rfl
theorem MD_24 : MD S g lg F 24 0 = S 24 0 := rfl
theorem MD_25 : MD S g lg F 25 0 = S 25 0 := rfl
theorem MD_26 : MD S g lg F 26 0 = S 26 0 := rfl
theorem MD_27 : MD S g lg F 27 0 = S 27 0 := rfl
theorem MD_28 : MD S g lg F 28 0 = S 28 0 := rfl
theorem MD_29 : MD S g lg F 29 0 = S 29 0 := rfl
theorem MD_30 : MD S g lg F 30 0 = S 30 0 := rfl
theorem MD_31 : MD S g lg F 31 0 = S 31 0 := rfl
end PFMD
theorem MD_Rm {P : Nat} {z : Int32} {A S : pf_S} {g : Nat → Int32} {lg : Int32} {F : Nat → Nat → Int32} : Rm P z A (MD S g lg F) ↔ Rm P z A S := Iff.rfl
theorem MD_g {S0 S : pf_S} {g : Nat → Int32} {lg : Int32} {F : Nat → Nat → Int32} (h : pm_g S0 S) : pm_g S0 (MD S g lg F) := fun a ha => by
  funext b
  rw [MD_ne S g lg F (by omega) (by omega), h a ha]
/-- the memory as it is, in this form -/
def gOf (S : pf_S) : Nat → Int32 := fun c => S 20 0 (if c < 7 then c + 25 else c + 26)
theorem MD_self (S : pf_S) : MD S (gOf S) (S 20 0 32) (fun a => S a 0) = S := by
  funext a b j
  by_cases h1 : a = 20 ∧ b = 0
  · obtain ⟨rfl, rfl⟩ := h1
    simp only [MD, and_self, if_true]
    by_cases hj : j < 25
    · rw [if_pos hj]
    · rw [if_neg hj]
      by_cases hb : 37 ≤ j
      · rw [if_pos hb]
      · rw [if_neg hb]
        rcases (show j = 25 ∨ j = 26 ∨ j = 27 ∨ j = 28 ∨ j = 29 ∨ j = 30 ∨ j = 31 ∨ j = 32 ∨ j = 33 ∨ j = 34 ∨ j = 35 ∨ j = 36 by omega) with rfl | rfl | rfl | rfl | rfl | rfl | rfl | rfl | rfl | rfl | rfl | rfl <;> rfl
  · by_cases h2 : 32 ≤ a ∧ a ≤ 37 ∧ b = 0
    · simp only [MD, if_neg h1, if_pos h2]
      rw [h2.2.2]
    · simp only [MD, if_neg h1, if_neg h2]
theorem MD_bg (S : pf_S) (g g' : Nat → Int32) (lg : Int32) (F : Nat → Nat → Int32) : MD S (bgG g) lg F = MD S (bgG g') lg F := by
  funext a b j
  by_cases h1 : a = 20 ∧ b = 0
  · obtain ⟨rfl, rfl⟩ := h1
    simp only [MD, and_self, if_true]
    by_cases hj : j < 25
    · rw [if_pos hj, if_pos hj]
    · rw [if_neg hj, if_neg hj]
      by_cases hb : 37 ≤ j
      · rw [if_pos hb, if_pos hb]
      · rw [if_neg hb, if_neg hb]
        rcases (show j = 25 ∨ j = 26 ∨ j = 27 ∨ j = 28 ∨ j = 29 ∨ j = 30 ∨ j = 31 ∨ j = 32 ∨ j = 33 ∨ j = 34 ∨ j = 35 ∨ j = 36 by omega) with rfl | rfl | rfl | rfl | rfl | rfl | rfl | rfl | rfl | rfl | rfl | rfl <;> rfl
  · simp only [MD, if_neg h1]

set_option maxRecDepth 100000 in
set_option maxHeartbeats 4000000 in
theorem c_Mod_forget (w : pf_W) (ok : pf_ok w) (S : pf_S) (g : Nat → Int32) (lg : Int32) (F : Nat → Nat → Int32)  : pf_C w y_Mod_forget b_Mod_forget 1 none 0 0 [.ref (w.2.1 20 0)] (MD S g lg F) (none) (MD S (hlG g 32 0) lg F) := by
  refine pf_enter (by decide) (Nat.le_of_ble_eq_true rfl) (lv0 := [some (.ref (w.2.1 20 0))]) rfl (fun κ h => ?_)
  refine pg_aload_n h d_Mod_forget_0 rfl ?_
  refine pg_bipush (v := 32) h d_Mod_forget_1 (by decide) ?_
  refine pf_puti h ok d_Mod_forget_3 fw_Mod_191 (by first | rfl | exact hk | exact hk2 | exact dm12 _ | assumption) rfl (Nat.le_of_ble_eq_true rfl) rfl ?_
  try simp only [MD25, MD26, MD27, MD28, MD29, MD30, MD31, MD32, MD33, MD34, MD35, MD36, MDF32, MDF33, MDF34, MDF35, MDF36, MDF37, MDs_25, MDs_26, MDs_27, MDs_28, MDs_29, MDs_30, MDs_31, MDs_32, MDs_33, MDs_34, MDs_35, MDs_36, MDs_0, MDs_11, MDs_13, MDs_14, MDs_15, MDs_16, MDs_17, MDs_18, MD_21, MD_22, MD_23, MD_24, MD_25, MD_26, MD_27, MD_28, MD_29, MD_30, MD_31, MD_32, MD_33, MD_34, MD_35, MD_36, MD_37]
  refine pg_aload_n h d_Mod_forget_6 rfl ?_
  refine pg_iconst (v := 0) h d_Mod_forget_7 (by decide) ?_
  refine pf_putz 0 h ok d_Mod_forget_8 fw_Mod_194 (by first | rfl | exact hk | exact hk2 | exact dm12 _ | assumption) rfl (Nat.le_of_ble_eq_true rfl) rfl ?_
  try simp only [MD25, MD26, MD27, MD28, MD29, MD30, MD31, MD32, MD33, MD34, MD35, MD36, MDF32, MDF33, MDF34, MDF35, MDF36, MDF37, MDs_25, MDs_26, MDs_27, MDs_28, MDs_29, MDs_30, MDs_31, MDs_32, MDs_33, MDs_34, MDs_35, MDs_36, MDs_0, MDs_11, MDs_13, MDs_14, MDs_15, MDs_16, MDs_17, MDs_18, MD_21, MD_22, MD_23, MD_24, MD_25, MD_26, MD_27, MD_28, MD_29, MD_30, MD_31, MD_32, MD_33, MD_34, MD_35, MD_36, MD_37]
  exact pf_vret h d_Mod_forget_11 rfl

set_option maxRecDepth 100000 in
set_option maxHeartbeats 4000000 in
theorem c_Mod_begin (w : pf_W) (ok : pf_ok w) (S : pf_S) (g : Nat → Int32) (lg : Int32) (F : Nat → Nat → Int32)  : pf_C w y_Mod_begin b_Mod_begin 1 none 1 20 [.ref (w.2.1 20 0)] (MD S g lg F) (none) (MD S (bgG g) lg F) := by
  refine pf_enter (by decide) (Nat.le_of_ble_eq_true rfl) (lv0 := [some (.ref (w.2.1 20 0))]) rfl (fun κ h => ?_)
  refine pg_aload_n h d_Mod_begin_0 rfl ?_
  refine pg_bipush (v := 7) h d_Mod_begin_1 (by decide) ?_
  refine pf_puti h ok d_Mod_begin_3 fw_Mod_161 (by first | rfl | exact hk | exact hk2 | exact dm12 _ | assumption) rfl (Nat.le_of_ble_eq_true rfl) rfl ?_
  try simp only [MD25, MD26, MD27, MD28, MD29, MD30, MD31, MD32, MD33, MD34, MD35, MD36, MDF32, MDF33, MDF34, MDF35, MDF36, MDF37, MDs_25, MDs_26, MDs_27, MDs_28, MDs_29, MDs_30, MDs_31, MDs_32, MDs_33, MDs_34, MDs_35, MDs_36, MDs_0, MDs_11, MDs_13, MDs_14, MDs_15, MDs_16, MDs_17, MDs_18, MD_21, MD_22, MD_23, MD_24, MD_25, MD_26, MD_27, MD_28, MD_29, MD_30, MD_31, MD_32, MD_33, MD_34, MD_35, MD_36, MD_37]
  refine pg_aload_n h d_Mod_begin_6 rfl ?_
  refine pg_iconst (v := 0) h d_Mod_begin_7 (by decide) ?_
  refine pf_puti h ok d_Mod_begin_8 fw_Mod_164 (by first | rfl | exact hk | exact hk2 | exact dm12 _ | assumption) rfl (Nat.le_of_ble_eq_true rfl) rfl ?_
  try simp only [MD25, MD26, MD27, MD28, MD29, MD30, MD31, MD32, MD33, MD34, MD35, MD36, MDF32, MDF33, MDF34, MDF35, MDF36, MDF37, MDs_25, MDs_26, MDs_27, MDs_28, MDs_29, MDs_30, MDs_31, MDs_32, MDs_33, MDs_34, MDs_35, MDs_36, MDs_0, MDs_11, MDs_13, MDs_14, MDs_15, MDs_16, MDs_17, MDs_18, MD_21, MD_22, MD_23, MD_24, MD_25, MD_26, MD_27, MD_28, MD_29, MD_30, MD_31, MD_32, MD_33, MD_34, MD_35, MD_36, MD_37]
  refine pg_aload_n h d_Mod_begin_11 rfl ?_
  refine pg_iconst (v := 0) h d_Mod_begin_12 (by decide) ?_
  refine pf_putz 0 h ok d_Mod_begin_13 fw_Mod_167 (by first | rfl | exact hk | exact hk2 | exact dm12 _ | assumption) rfl (Nat.le_of_ble_eq_true rfl) rfl ?_
  try simp only [MD25, MD26, MD27, MD28, MD29, MD30, MD31, MD32, MD33, MD34, MD35, MD36, MDF32, MDF33, MDF34, MDF35, MDF36, MDF37, MDs_25, MDs_26, MDs_27, MDs_28, MDs_29, MDs_30, MDs_31, MDs_32, MDs_33, MDs_34, MDs_35, MDs_36, MDs_0, MDs_11, MDs_13, MDs_14, MDs_15, MDs_16, MDs_17, MDs_18, MD_21, MD_22, MD_23, MD_24, MD_25, MD_26, MD_27, MD_28, MD_29, MD_30, MD_31, MD_32, MD_33, MD_34, MD_35, MD_36, MD_37]
  refine pg_aload_n h d_Mod_begin_16 rfl ?_
  refine pg_iconst (v := 0) h d_Mod_begin_17 (by decide) ?_
  refine pf_putz 0 h ok d_Mod_begin_18 fw_Mod_170 (by first | rfl | exact hk | exact hk2 | exact dm12 _ | assumption) rfl (Nat.le_of_ble_eq_true rfl) rfl ?_
  try simp only [MD25, MD26, MD27, MD28, MD29, MD30, MD31, MD32, MD33, MD34, MD35, MD36, MDF32, MDF33, MDF34, MDF35, MDF36, MDF37, MDs_25, MDs_26, MDs_27, MDs_28, MDs_29, MDs_30, MDs_31, MDs_32, MDs_33, MDs_34, MDs_35, MDs_36, MDs_0, MDs_11, MDs_13, MDs_14, MDs_15, MDs_16, MDs_17, MDs_18, MD_21, MD_22, MD_23, MD_24, MD_25, MD_26, MD_27, MD_28, MD_29, MD_30, MD_31, MD_32, MD_33, MD_34, MD_35, MD_36, MD_37]
  refine pg_aload_n h d_Mod_begin_21 rfl ?_
  refine pg_iconst (v := 0) h d_Mod_begin_22 (by decide) ?_
  refine pf_putz 0 h ok d_Mod_begin_23 fw_Mod_173 (by first | rfl | exact hk | exact hk2 | exact dm12 _ | assumption) rfl (Nat.le_of_ble_eq_true rfl) rfl ?_
  try simp only [MD25, MD26, MD27, MD28, MD29, MD30, MD31, MD32, MD33, MD34, MD35, MD36, MDF32, MDF33, MDF34, MDF35, MDF36, MDF37, MDs_25, MDs_26, MDs_27, MDs_28, MDs_29, MDs_30, MDs_31, MDs_32, MDs_33, MDs_34, MDs_35, MDs_36, MDs_0, MDs_11, MDs_13, MDs_14, MDs_15, MDs_16, MDs_17, MDs_18, MD_21, MD_22, MD_23, MD_24, MD_25, MD_26, MD_27, MD_28, MD_29, MD_30, MD_31, MD_32, MD_33, MD_34, MD_35, MD_36, MD_37]
  refine pg_aload_n h d_Mod_begin_26 rfl ?_
  refine pg_iconst (v := 0) h d_Mod_begin_27 (by decide) ?_
  refine pf_putz 0 h ok d_Mod_begin_28 fw_Mod_176 (by first | rfl | exact hk | exact hk2 | exact dm12 _ | assumption) rfl (Nat.le_of_ble_eq_true rfl) rfl ?_
  try simp only [MD25, MD26, MD27, MD28, MD29, MD30, MD31, MD32, MD33, MD34, MD35, MD36, MDF32, MDF33, MDF34, MDF35, MDF36, MDF37, MDs_25, MDs_26, MDs_27, MDs_28, MDs_29, MDs_30, MDs_31, MDs_32, MDs_33, MDs_34, MDs_35, MDs_36, MDs_0, MDs_11, MDs_13, MDs_14, MDs_15, MDs_16, MDs_17, MDs_18, MD_21, MD_22, MD_23, MD_24, MD_25, MD_26, MD_27, MD_28, MD_29, MD_30, MD_31, MD_32, MD_33, MD_34, MD_35, MD_36, MD_37]
  refine pg_aload_n h d_Mod_begin_31 rfl ?_
  refine pg_iconst (v := 0) h d_Mod_begin_32 (by decide) ?_
  refine pf_putz 0 h ok d_Mod_begin_33 fw_Mod_179 (by first | rfl | exact hk | exact hk2 | exact dm12 _ | assumption) rfl (Nat.le_of_ble_eq_true rfl) rfl ?_
  try simp only [MD25, MD26, MD27, MD28, MD29, MD30, MD31, MD32, MD33, MD34, MD35, MD36, MDF32, MDF33, MDF34, MDF35, MDF36, MDF37, MDs_25, MDs_26, MDs_27, MDs_28, MDs_29, MDs_30, MDs_31, MDs_32, MDs_33, MDs_34, MDs_35, MDs_36, MDs_0, MDs_11, MDs_13, MDs_14, MDs_15, MDs_16, MDs_17, MDs_18, MD_21, MD_22, MD_23, MD_24, MD_25, MD_26, MD_27, MD_28, MD_29, MD_30, MD_31, MD_32, MD_33, MD_34, MD_35, MD_36, MD_37]
  refine pg_aload_n h d_Mod_begin_36 rfl ?_
  refine pg_iconst (v := 0) h d_Mod_begin_37 (by decide) ?_
  refine pf_putz 0 h ok d_Mod_begin_38 fw_Mod_182 (by first | rfl | exact hk | exact hk2 | exact dm12 _ | assumption) rfl (Nat.le_of_ble_eq_true rfl) rfl ?_
  try simp only [MD25, MD26, MD27, MD28, MD29, MD30, MD31, MD32, MD33, MD34, MD35, MD36, MDF32, MDF33, MDF34, MDF35, MDF36, MDF37, MDs_25, MDs_26, MDs_27, MDs_28, MDs_29, MDs_30, MDs_31, MDs_32, MDs_33, MDs_34, MDs_35, MDs_36, MDs_0, MDs_11, MDs_13, MDs_14, MDs_15, MDs_16, MDs_17, MDs_18, MD_21, MD_22, MD_23, MD_24, MD_25, MD_26, MD_27, MD_28, MD_29, MD_30, MD_31, MD_32, MD_33, MD_34, MD_35, MD_36, MD_37]
  refine pg_aload_n h d_Mod_begin_41 rfl ?_
  refine pg_iconst (v := 0) h d_Mod_begin_42 (by decide) ?_
  refine pf_putz 0 h ok d_Mod_begin_43 fw_Mod_185 (by first | rfl | exact hk | exact hk2 | exact dm12 _ | assumption) rfl (Nat.le_of_ble_eq_true rfl) rfl ?_
  try simp only [MD25, MD26, MD27, MD28, MD29, MD30, MD31, MD32, MD33, MD34, MD35, MD36, MDF32, MDF33, MDF34, MDF35, MDF36, MDF37, MDs_25, MDs_26, MDs_27, MDs_28, MDs_29, MDs_30, MDs_31, MDs_32, MDs_33, MDs_34, MDs_35, MDs_36, MDs_0, MDs_11, MDs_13, MDs_14, MDs_15, MDs_16, MDs_17, MDs_18, MD_21, MD_22, MD_23, MD_24, MD_25, MD_26, MD_27, MD_28, MD_29, MD_30, MD_31, MD_32, MD_33, MD_34, MD_35, MD_36, MD_37]
  refine pg_aload_n h d_Mod_begin_46 rfl ?_
  refine pf_cV0 h ok d_Mod_begin_47 m_Mod_forget l_Mod_188 (c_Mod_forget w ok S _ lg F) cn_Mod (by first | rfl | exact hk | exact hk2 | exact dm12 _ | assumption) rfl rfl rfl (Nat.le_of_ble_eq_true rfl) ⟨(Nat.le_of_ble_eq_true rfl), (Nat.le_of_ble_eq_true rfl)⟩ ⟨Nat.le_refl _, Nat.le_refl _⟩ ?_
  try simp only [MD25, MD26, MD27, MD28, MD29, MD30, MD31, MD32, MD33, MD34, MD35, MD36, MDF32, MDF33, MDF34, MDF35, MDF36, MDF37, MDs_25, MDs_26, MDs_27, MDs_28, MDs_29, MDs_30, MDs_31, MDs_32, MDs_33, MDs_34, MDs_35, MDs_36, MDs_0, MDs_11, MDs_13, MDs_14, MDs_15, MDs_16, MDs_17, MDs_18, MD_21, MD_22, MD_23, MD_24, MD_25, MD_26, MD_27, MD_28, MD_29, MD_30, MD_31, MD_32, MD_33, MD_34, MD_35, MD_36, MD_37]
  exact pf_vret h d_Mod_begin_50 rfl

set_option maxRecDepth 100000 in
set_option maxHeartbeats 4000000 in
theorem c_Mod_setTwice (w : pf_W) (ok : pf_ok w) (S : pf_S) (g : Nat → Int32) (lg : Int32) (F : Nat → Nat → Int32) (b : Int32) : pf_C w y_Mod_setTwice b_Mod_setTwice 2 none 1 20 [.ref (w.2.1 20 0), .int (nb b)] (MD S g lg F) (none) (MD S (tdG g b) lg F) := by
  refine pf_enter (by decide) (Nat.le_of_ble_eq_true rfl) (lv0 := [some (.ref (w.2.1 20 0)), some (.int (nb b))]) rfl (fun κ h => ?_)
  refine pg_aload_n h d_Mod_setTwice_0 rfl ?_
  refine pf_get h ok d_Mod_setTwice_1 f_Mod_179 (by first | rfl | exact hk | exact hk2 | exact dm12 _ | assumption) rfl rfl ?_
  try simp only [MD25, MD26, MD27, MD28, MD29, MD30, MD31, MD32, MD33, MD34, MD35, MD36, MDF32, MDF33, MDF34, MDF35, MDF36, MDF37, MDs_25, MDs_26, MDs_27, MDs_28, MDs_29, MDs_30, MDs_31, MDs_32, MDs_33, MDs_34, MDs_35, MDs_36, MDs_0, MDs_11, MDs_13, MDs_14, MDs_15, MDs_16, MDs_17, MDs_18, MD_21, MD_22, MD_23, MD_24, MD_25, MD_26, MD_27, MD_28, MD_29, MD_30, MD_31, MD_32, MD_33, MD_34, MD_35, MD_36, MD_37]
  refine pg_iload_n h d_Mod_setTwice_4 rfl ?_
  refine pg_icmp_eq (tgt := 12) h d_Mod_setTwice_5 rfl (fun e5 => ?_) (fun e5 => ?_)
  · skip
    refine pg_aload_n h d_Mod_setTwice_12 rfl ?_
    refine pg_iload_n h d_Mod_setTwice_13 rfl ?_
    refine pf_putz _ h ok d_Mod_setTwice_14 fw_Mod_179 (by first | rfl | exact hk | exact hk2 | exact dm12 _ | assumption) rfl (Nat.le_of_ble_eq_true rfl) rfl ?_
    try simp only [MD25, MD26, MD27, MD28, MD29, MD30, MD31, MD32, MD33, MD34, MD35, MD36, MDF32, MDF33, MDF34, MDF35, MDF36, MDF37, MDs_25, MDs_26, MDs_27, MDs_28, MDs_29, MDs_30, MDs_31, MDs_32, MDs_33, MDs_34, MDs_35, MDs_36, MDs_0, MDs_11, MDs_13, MDs_14, MDs_15, MDs_16, MDs_17, MDs_18, MD_21, MD_22, MD_23, MD_24, MD_25, MD_26, MD_27, MD_28, MD_29, MD_30, MD_31, MD_32, MD_33, MD_34, MD_35, MD_36, MD_37]
    exact pf_vret h d_Mod_setTwice_17 (by simp only [tdG, e5]; simp)
  refine pg_aload_n h d_Mod_setTwice_8 rfl ?_
  refine pf_cV0 h ok d_Mod_setTwice_9 m_Mod_forget l_Mod_188 (c_Mod_forget w ok S g lg F) cn_Mod (by first | rfl | exact hk | exact hk2 | exact dm12 _ | assumption) rfl rfl rfl (Nat.le_of_ble_eq_true rfl) ⟨(Nat.le_of_ble_eq_true rfl), (Nat.le_of_ble_eq_true rfl)⟩ ⟨Nat.le_refl _, Nat.le_refl _⟩ ?_
  try simp only [MD25, MD26, MD27, MD28, MD29, MD30, MD31, MD32, MD33, MD34, MD35, MD36, MDF32, MDF33, MDF34, MDF35, MDF36, MDF37, MDs_25, MDs_26, MDs_27, MDs_28, MDs_29, MDs_30, MDs_31, MDs_32, MDs_33, MDs_34, MDs_35, MDs_36, MDs_0, MDs_11, MDs_13, MDs_14, MDs_15, MDs_16, MDs_17, MDs_18, MD_21, MD_22, MD_23, MD_24, MD_25, MD_26, MD_27, MD_28, MD_29, MD_30, MD_31, MD_32, MD_33, MD_34, MD_35, MD_36, MD_37]
  refine pg_aload_n h d_Mod_setTwice_12 rfl ?_
  refine pg_iload_n h d_Mod_setTwice_13 rfl ?_
  refine pf_putz _ h ok d_Mod_setTwice_14 fw_Mod_179 (by first | rfl | exact hk | exact hk2 | exact dm12 _ | assumption) rfl (Nat.le_of_ble_eq_true rfl) rfl ?_
  try simp only [MD25, MD26, MD27, MD28, MD29, MD30, MD31, MD32, MD33, MD34, MD35, MD36, MDF32, MDF33, MDF34, MDF35, MDF36, MDF37, MDs_25, MDs_26, MDs_27, MDs_28, MDs_29, MDs_30, MDs_31, MDs_32, MDs_33, MDs_34, MDs_35, MDs_36, MDs_0, MDs_11, MDs_13, MDs_14, MDs_15, MDs_16, MDs_17, MDs_18, MD_21, MD_22, MD_23, MD_24, MD_25, MD_26, MD_27, MD_28, MD_29, MD_30, MD_31, MD_32, MD_33, MD_34, MD_35, MD_36, MD_37]
  exact pf_vret h d_Mod_setTwice_17 (by simp only [tdG, e5]; simp)

theorem c_mtdG0 (w : pf_W) (ok : pf_ok w) (S : pf_S) (g : Nat → Int32) (lg : Int32) (F : Nat → Nat → Int32) : pf_C w y_Mod_setTwice b_Mod_setTwice 2 none 1 20 [.ref (w.2.1 20 0), .int 0] (MD S g lg F) none (MD S (tdG g 0) lg F) := c_Mod_setTwice w ok S g lg F 0

theorem c_mtdG1 (w : pf_W) (ok : pf_ok w) (S : pf_S) (g : Nat → Int32) (lg : Int32) (F : Nat → Nat → Int32) : pf_C w y_Mod_setTwice b_Mod_setTwice 2 none 1 20 [.ref (w.2.1 20 0), .int 1] (MD S g lg F) none (MD S (tdG g 1) lg F) := c_Mod_setTwice w ok S g lg F 1

set_option maxRecDepth 100000 in
set_option maxHeartbeats 4000000 in
theorem c_Mod_setMosaic (w : pf_W) (ok : pf_ok w) (S : pf_S) (g : Nat → Int32) (lg : Int32) (F : Nat → Nat → Int32) (b : Int32) : pf_C w y_Mod_setMosaic b_Mod_setMosaic 2 none 1 20 [.ref (w.2.1 20 0), .int (nb b)] (MD S g lg F) (none) (MD S (tmG g b) lg F) := by
  refine pf_enter (by decide) (Nat.le_of_ble_eq_true rfl) (lv0 := [some (.ref (w.2.1 20 0)), some (.int (nb b))]) rfl (fun κ h => ?_)
  refine pg_aload_n h d_Mod_setMosaic_0 rfl ?_
  refine pf_get h ok d_Mod_setMosaic_1 f_Mod_167 (by first | rfl | exact hk | exact hk2 | exact dm12 _ | assumption) rfl rfl ?_
  try simp only [MD25, MD26, MD27, MD28, MD29, MD30, MD31, MD32, MD33, MD34, MD35, MD36, MDF32, MDF33, MDF34, MDF35, MDF36, MDF37, MDs_25, MDs_26, MDs_27, MDs_28, MDs_29, MDs_30, MDs_31, MDs_32, MDs_33, MDs_34, MDs_35, MDs_36, MDs_0, MDs_11, MDs_13, MDs_14, MDs_15, MDs_16, MDs_17, MDs_18, MD_21, MD_22, MD_23, MD_24, MD_25, MD_26, MD_27, MD_28, MD_29, MD_30, MD_31, MD_32, MD_33, MD_34, MD_35, MD_36, MD_37]
  refine pg_iload_n h d_Mod_setMosaic_4 rfl ?_
  refine pg_icmp_eq (tgt := 12) h d_Mod_setMosaic_5 rfl (fun e5 => ?_) (fun e5 => ?_)
  · skip
    refine pg_aload_n h d_Mod_setMosaic_12 rfl ?_
    refine pg_iload_n h d_Mod_setMosaic_13 rfl ?_
    refine pf_putz _ h ok d_Mod_setMosaic_14 fw_Mod_167 (by first | rfl | exact hk | exact hk2 | exact dm12 _ | assumption) rfl (Nat.le_of_ble_eq_true rfl) rfl ?_
    try simp only [MD25, MD26, MD27, MD28, MD29, MD30, MD31, MD32, MD33, MD34, MD35, MD36, MDF32, MDF33, MDF34, MDF35, MDF36, MDF37, MDs_25, MDs_26, MDs_27, MDs_28, MDs_29, MDs_30, MDs_31, MDs_32, MDs_33, MDs_34, MDs_35, MDs_36, MDs_0, MDs_11, MDs_13, MDs_14, MDs_15, MDs_16, MDs_17, MDs_18, MD_21, MD_22, MD_23, MD_24, MD_25, MD_26, MD_27, MD_28, MD_29, MD_30, MD_31, MD_32, MD_33, MD_34, MD_35, MD_36, MD_37]
    exact pf_vret h d_Mod_setMosaic_17 (by simp only [tmG, e5]; simp)
  refine pg_aload_n h d_Mod_setMosaic_8 rfl ?_
  refine pf_cV0 h ok d_Mod_setMosaic_9 m_Mod_forget l_Mod_188 (c_Mod_forget w ok S g lg F) cn_Mod (by first | rfl | exact hk | exact hk2 | exact dm12 _ | assumption) rfl rfl rfl (Nat.le_of_ble_eq_true rfl) ⟨(Nat.le_of_ble_eq_true rfl), (Nat.le_of_ble_eq_true rfl)⟩ ⟨Nat.le_refl _, Nat.le_refl _⟩ ?_
  try simp only [MD25, MD26, MD27, MD28, MD29, MD30, MD31, MD32, MD33, MD34, MD35, MD36, MDF32, MDF33, MDF34, MDF35, MDF36, MDF37, MDs_25, MDs_26, MDs_27, MDs_28, MDs_29, MDs_30, MDs_31, MDs_32, MDs_33, MDs_34, MDs_35, MDs_36, MDs_0, MDs_11, MDs_13, MDs_14, MDs_15, MDs_16, MDs_17, MDs_18, MD_21, MD_22, MD_23, MD_24, MD_25, MD_26, MD_27, MD_28, MD_29, MD_30, MD_31, MD_32, MD_33, MD_34, MD_35, MD_36, MD_37]
  refine pg_aload_n h d_Mod_setMosaic_12 rfl ?_
  refine pg_iload_n h d_Mod_setMosaic_13 rfl ?_
  refine pf_putz _ h ok d_Mod_setMosaic_14 fw_Mod_167 (by first | rfl | exact hk | exact hk2 | exact dm12 _ | assumption) rfl (Nat.le_of_ble_eq_true rfl) rfl ?_
  try simp only [MD25, MD26, MD27, MD28, MD29, MD30, MD31, MD32, MD33, MD34, MD35, MD36, MDF32, MDF33, MDF34, MDF35, MDF36, MDF37, MDs_25, MDs_26, MDs_27, MDs_28, MDs_29, MDs_30, MDs_31, MDs_32, MDs_33, MDs_34, MDs_35, MDs_36, MDs_0, MDs_11, MDs_13, MDs_14, MDs_15, MDs_16, MDs_17, MDs_18, MD_21, MD_22, MD_23, MD_24, MD_25, MD_26, MD_27, MD_28, MD_29, MD_30, MD_31, MD_32, MD_33, MD_34, MD_35, MD_36, MD_37]
  exact pf_vret h d_Mod_setMosaic_17 (by simp only [tmG, e5]; simp)

theorem c_mtmG0 (w : pf_W) (ok : pf_ok w) (S : pf_S) (g : Nat → Int32) (lg : Int32) (F : Nat → Nat → Int32) : pf_C w y_Mod_setMosaic b_Mod_setMosaic 2 none 1 20 [.ref (w.2.1 20 0), .int 0] (MD S g lg F) none (MD S (tmG g 0) lg F) := c_Mod_setMosaic w ok S g lg F 0

theorem c_mtmG1 (w : pf_W) (ok : pf_ok w) (S : pf_S) (g : Nat → Int32) (lg : Int32) (F : Nat → Nat → Int32) : pf_C w y_Mod_setMosaic b_Mod_setMosaic 2 none 1 20 [.ref (w.2.1 20 0), .int 1] (MD S g lg F) none (MD S (tmG g 1) lg F) := c_Mod_setMosaic w ok S g lg F 1

set_option maxRecDepth 100000 in
set_option maxHeartbeats 4000000 in
theorem c_Mod_before (w : pf_W) (ok : pf_ok w) (S : pf_S) (g : Nat → Int32) (lg : Int32) (F : Nat → Nat → Int32) (m : Int32) : pf_C w y_Mod_before b_Mod_before 2 none 2 41 [.ref (w.2.1 20 0), .int m] (MD S g lg F) (none) (MD S (onG g m) lg F) := by
  refine pf_enter (by decide) (Nat.le_of_ble_eq_true rfl) (lv0 := [some (.ref (w.2.1 20 0)), some (.int m)]) rfl (fun κ h => ?_)
  refine pg_iload_n h d_Mod_before_0 rfl ?_
  by_cases c9 : m = 9
  · refine pg_tableIn (off := 103) (tgt := 104) h d_Mod_before_1 (by rw [c9]; decide) (by rw [c9]; decide) (by rw [c9]; rfl) rfl ?_
    refine pg_aload_n h d_Mod_before_104 rfl ?_
    refine pg_iconst (v := 0) h d_Mod_before_105 (by decide) ?_
    refine pf_putz 0 h ok d_Mod_before_106 fw_Mod_170 (by first | rfl | exact hk | exact hk2 | exact dm12 _ | assumption) rfl (Nat.le_of_ble_eq_true rfl) rfl ?_
    try simp only [MD25, MD26, MD27, MD28, MD29, MD30, MD31, MD32, MD33, MD34, MD35, MD36, MDF32, MDF33, MDF34, MDF35, MDF36, MDF37, MDs_25, MDs_26, MDs_27, MDs_28, MDs_29, MDs_30, MDs_31, MDs_32, MDs_33, MDs_34, MDs_35, MDs_36, MDs_0, MDs_11, MDs_13, MDs_14, MDs_15, MDs_16, MDs_17, MDs_18, MD_21, MD_22, MD_23, MD_24, MD_25, MD_26, MD_27, MD_28, MD_29, MD_30, MD_31, MD_32, MD_33, MD_34, MD_35, MD_36, MD_37]
    refine pg_goto (tgt := 171) h d_Mod_before_109 rfl ?_
    exact pf_vret h d_Mod_before_171 (by simp [onG, *])
  by_cases c12 : m = 12
  · refine pg_tableIn (off := 111) (tgt := 112) h d_Mod_before_1 (by rw [c12]; decide) (by rw [c12]; decide) (by rw [c12]; rfl) rfl ?_
    refine pg_aload_n h d_Mod_before_112 rfl ?_
    refine pg_iconst (v := 0) h d_Mod_before_113 (by decide) ?_
    refine pf_cV0 h ok d_Mod_before_114 m_Mod_setTwice l_Mod_197 (c_mtdG0 w ok S g lg F) cn_Mod (by first | rfl | exact hk | exact hk2 | exact dm12 _ | assumption) rfl rfl rfl (Nat.le_of_ble_eq_true rfl) ⟨(Nat.le_of_ble_eq_true rfl), (Nat.le_of_ble_eq_true rfl)⟩ ⟨Nat.le_refl _, Nat.le_refl _⟩ ?_
    try simp only [MD25, MD26, MD27, MD28, MD29, MD30, MD31, MD32, MD33, MD34, MD35, MD36, MDF32, MDF33, MDF34, MDF35, MDF36, MDF37, MDs_25, MDs_26, MDs_27, MDs_28, MDs_29, MDs_30, MDs_31, MDs_32, MDs_33, MDs_34, MDs_35, MDs_36, MDs_0, MDs_11, MDs_13, MDs_14, MDs_15, MDs_16, MDs_17, MDs_18, MD_21, MD_22, MD_23, MD_24, MD_25, MD_26, MD_27, MD_28, MD_29, MD_30, MD_31, MD_32, MD_33, MD_34, MD_35, MD_36, MD_37]
    refine pg_goto (tgt := 171) h d_Mod_before_117 rfl ?_
    exact pf_vret h d_Mod_before_171 (by simp [onG, *])
  by_cases c24 : m = 24
  · refine pg_tableIn (off := 119) (tgt := 120) h d_Mod_before_1 (by rw [c24]; decide) (by rw [c24]; decide) (by rw [c24]; rfl) rfl ?_
    refine pg_aload_n h d_Mod_before_120 rfl ?_
    refine pg_iconst (v := 1) h d_Mod_before_121 (by decide) ?_
    refine pf_putz 1 h ok d_Mod_before_122 fw_Mod_173 (by first | rfl | exact hk | exact hk2 | exact dm12 _ | assumption) rfl (Nat.le_of_ble_eq_true rfl) rfl ?_
    try simp only [MD25, MD26, MD27, MD28, MD29, MD30, MD31, MD32, MD33, MD34, MD35, MD36, MDF32, MDF33, MDF34, MDF35, MDF36, MDF37, MDs_25, MDs_26, MDs_27, MDs_28, MDs_29, MDs_30, MDs_31, MDs_32, MDs_33, MDs_34, MDs_35, MDs_36, MDs_0, MDs_11, MDs_13, MDs_14, MDs_15, MDs_16, MDs_17, MDs_18, MD_21, MD_22, MD_23, MD_24, MD_25, MD_26, MD_27, MD_28, MD_29, MD_30, MD_31, MD_32, MD_33, MD_34, MD_35, MD_36, MD_37]
    refine pg_goto (tgt := 171) h d_Mod_before_125 rfl ?_
    exact pf_vret h d_Mod_before_171 (by simp [onG, *])
  by_cases c25 : m = 25
  · refine pg_tableIn (off := 127) (tgt := 128) h d_Mod_before_1 (by rw [c25]; decide) (by rw [c25]; decide) (by rw [c25]; rfl) rfl ?_
    refine pg_aload_n h d_Mod_before_128 rfl ?_
    refine pg_iconst (v := 0) h d_Mod_before_129 (by decide) ?_
    refine pf_putz 0 h ok d_Mod_before_130 fw_Mod_182 (by first | rfl | exact hk | exact hk2 | exact dm12 _ | assumption) rfl (Nat.le_of_ble_eq_true rfl) rfl ?_
    try simp only [MD25, MD26, MD27, MD28, MD29, MD30, MD31, MD32, MD33, MD34, MD35, MD36, MDF32, MDF33, MDF34, MDF35, MDF36, MDF37, MDs_25, MDs_26, MDs_27, MDs_28, MDs_29, MDs_30, MDs_31, MDs_32, MDs_33, MDs_34, MDs_35, MDs_36, MDs_0, MDs_11, MDs_13, MDs_14, MDs_15, MDs_16, MDs_17, MDs_18, MD_21, MD_22, MD_23, MD_24, MD_25, MD_26, MD_27, MD_28, MD_29, MD_30, MD_31, MD_32, MD_33, MD_34, MD_35, MD_36, MD_37]
    refine pg_goto (tgt := 171) h d_Mod_before_133 rfl ?_
    exact pf_vret h d_Mod_before_171 (by simp [onG, *])
  by_cases c26 : m = 26
  · refine pg_tableIn (off := 135) (tgt := 136) h d_Mod_before_1 (by rw [c26]; decide) (by rw [c26]; decide) (by rw [c26]; rfl) rfl ?_
    refine pg_aload_n h d_Mod_before_136 rfl ?_
    refine pg_iconst (v := 1) h d_Mod_before_137 (by decide) ?_
    refine pf_putz 1 h ok d_Mod_before_138 fw_Mod_182 (by first | rfl | exact hk | exact hk2 | exact dm12 _ | assumption) rfl (Nat.le_of_ble_eq_true rfl) rfl ?_
    try simp only [MD25, MD26, MD27, MD28, MD29, MD30, MD31, MD32, MD33, MD34, MD35, MD36, MDF32, MDF33, MDF34, MDF35, MDF36, MDF37, MDs_25, MDs_26, MDs_27, MDs_28, MDs_29, MDs_30, MDs_31, MDs_32, MDs_33, MDs_34, MDs_35, MDs_36, MDs_0, MDs_11, MDs_13, MDs_14, MDs_15, MDs_16, MDs_17, MDs_18, MD_21, MD_22, MD_23, MD_24, MD_25, MD_26, MD_27, MD_28, MD_29, MD_30, MD_31, MD_32, MD_33, MD_34, MD_35, MD_36, MD_37]
    refine pg_goto (tgt := 171) h d_Mod_before_141 rfl ?_
    exact pf_vret h d_Mod_before_171 (by simp [onG, *])
  by_cases c28 : m = 28
  · refine pg_tableIn (off := 143) (tgt := 144) h d_Mod_before_1 (by rw [c28]; decide) (by rw [c28]; decide) (by rw [c28]; rfl) rfl ?_
    refine pg_aload_n h d_Mod_before_144 rfl ?_
    refine pg_iconst (v := 0) h d_Mod_before_145 (by decide) ?_
    refine pf_puti h ok d_Mod_before_146 fw_Mod_164 (by first | rfl | exact hk | exact hk2 | exact dm12 _ | assumption) rfl (Nat.le_of_ble_eq_true rfl) rfl ?_
    try simp only [MD25, MD26, MD27, MD28, MD29, MD30, MD31, MD32, MD33, MD34, MD35, MD36, MDF32, MDF33, MDF34, MDF35, MDF36, MDF37, MDs_25, MDs_26, MDs_27, MDs_28, MDs_29, MDs_30, MDs_31, MDs_32, MDs_33, MDs_34, MDs_35, MDs_36, MDs_0, MDs_11, MDs_13, MDs_14, MDs_15, MDs_16, MDs_17, MDs_18, MD_21, MD_22, MD_23, MD_24, MD_25, MD_26, MD_27, MD_28, MD_29, MD_30, MD_31, MD_32, MD_33, MD_34, MD_35, MD_36, MD_37]
    refine pg_goto (tgt := 171) h d_Mod_before_149 rfl ?_
    exact pf_vret h d_Mod_before_171 (by simp [onG, *])
  by_cases c29 : m = 29
  · refine pg_tableIn (off := 151) (tgt := 152) h d_Mod_before_1 (by rw [c29]; decide) (by rw [c29]; decide) (by rw [c29]; rfl) rfl ?_
    refine pg_aload_n h d_Mod_before_152 rfl ?_
    refine pg_aload_n h d_Mod_before_153 rfl ?_
    refine pf_get h ok d_Mod_before_154 f_Mod_161 (by first | rfl | exact hk | exact hk2 | exact dm12 _ | assumption) rfl rfl ?_
    try simp only [MD25, MD26, MD27, MD28, MD29, MD30, MD31, MD32, MD33, MD34, MD35, MD36, MDF32, MDF33, MDF34, MDF35, MDF36, MDF37, MDs_25, MDs_26, MDs_27, MDs_28, MDs_29, MDs_30, MDs_31, MDs_32, MDs_33, MDs_34, MDs_35, MDs_36, MDs_0, MDs_11, MDs_13, MDs_14, MDs_15, MDs_16, MDs_17, MDs_18, MD_21, MD_22, MD_23, MD_24, MD_25, MD_26, MD_27, MD_28, MD_29, MD_30, MD_31, MD_32, MD_33, MD_34, MD_35, MD_36, MD_37]
    refine pf_puti h ok d_Mod_before_157 fw_Mod_164 (by first | rfl | exact hk | exact hk2 | exact dm12 _ | assumption) rfl (Nat.le_of_ble_eq_true rfl) rfl ?_
    try simp only [MD25, MD26, MD27, MD28, MD29, MD30, MD31, MD32, MD33, MD34, MD35, MD36, MDF32, MDF33, MDF34, MDF35, MDF36, MDF37, MDs_25, MDs_26, MDs_27, MDs_28, MDs_29, MDs_30, MDs_31, MDs_32, MDs_33, MDs_34, MDs_35, MDs_36, MDs_0, MDs_11, MDs_13, MDs_14, MDs_15, MDs_16, MDs_17, MDs_18, MD_21, MD_22, MD_23, MD_24, MD_25, MD_26, MD_27, MD_28, MD_29, MD_30, MD_31, MD_32, MD_33, MD_34, MD_35, MD_36, MD_37]
    refine pg_goto (tgt := 171) h d_Mod_before_160 rfl ?_
    exact pf_vret h d_Mod_before_171 (by simp [onG, *])
  by_cases c30 : m = 30
  · refine pg_tableIn (off := 162) (tgt := 163) h d_Mod_before_1 (by rw [c30]; decide) (by rw [c30]; decide) (by rw [c30]; rfl) rfl ?_
    refine pg_aload_n h d_Mod_before_163 rfl ?_
    refine pg_iconst (v := 1) h d_Mod_before_164 (by decide) ?_
    refine pf_putz 1 h ok d_Mod_before_165 fw_Mod_185 (by first | rfl | exact hk | exact hk2 | exact dm12 _ | assumption) rfl (Nat.le_of_ble_eq_true rfl) rfl ?_
    try simp only [MD25, MD26, MD27, MD28, MD29, MD30, MD31, MD32, MD33, MD34, MD35, MD36, MDF32, MDF33, MDF34, MDF35, MDF36, MDF37, MDs_25, MDs_26, MDs_27, MDs_28, MDs_29, MDs_30, MDs_31, MDs_32, MDs_33, MDs_34, MDs_35, MDs_36, MDs_0, MDs_11, MDs_13, MDs_14, MDs_15, MDs_16, MDs_17, MDs_18, MD_21, MD_22, MD_23, MD_24, MD_25, MD_26, MD_27, MD_28, MD_29, MD_30, MD_31, MD_32, MD_33, MD_34, MD_35, MD_36, MD_37]
    refine pg_goto (tgt := 171) h d_Mod_before_168 rfl ?_
    exact pf_vret h d_Mod_before_171 (by simp [onG, *])
  have hr : MD S (onG g m) lg F = MD S g lg F := by simp [onG, *]
  by_cases hlo : m.toInt < 9
  · refine pg_tableOut (tgt := 171) h d_Mod_before_1 (Or.inl hlo) rfl ?_
    exact pf_vret h d_Mod_before_171 hr
  by_cases hhi : 30 < m.toInt
  · refine pg_tableOut (tgt := 171) h d_Mod_before_1 (Or.inr hhi) rfl ?_
    exact pf_vret h d_Mod_before_171 hr
  have hj : ∃ j : Nat, m = nI j ∧ 9 ≤ j ∧ j ≤ 30 := by
    obtain ⟨j, hj, rfl⟩ := nI_of (x := m) (fun q => by
      have := Int32.lt_iff_toInt_lt.mp q
      simp at this
      omega)
    rw [nI_toInt hj] at hlo hhi
    exact ⟨j, rfl, by omega, by omega⟩
  obtain ⟨j, rfl, h9, h30⟩ := hj
  rcases (show j = 9 ∨ j = 10 ∨ j = 11 ∨ j = 12 ∨ j = 13 ∨ j = 14 ∨ j = 15 ∨ j = 16 ∨ j = 17 ∨ j = 18 ∨ j = 19 ∨ j = 20 ∨ j = 21 ∨ j = 22 ∨ j = 23 ∨ j = 24 ∨ j = 25 ∨ j = 26 ∨ j = 27 ∨ j = 28 ∨ j = 29 ∨ j = 30 by omega) with rfl | rfl | rfl | rfl | rfl | rfl | rfl | rfl | rfl | rfl | rfl | rfl | rfl | rfl | rfl | rfl | rfl | rfl | rfl | rfl | rfl | rfl
  · exact absurd rfl c9
  · refine pg_tableIn (off := 170) (tgt := 171) h d_Mod_before_1 (by decide) (by decide) rfl rfl ?_
    exact pf_vret h d_Mod_before_171 hr
  · refine pg_tableIn (off := 170) (tgt := 171) h d_Mod_before_1 (by decide) (by decide) rfl rfl ?_
    exact pf_vret h d_Mod_before_171 hr
  · exact absurd rfl c12
  · refine pg_tableIn (off := 170) (tgt := 171) h d_Mod_before_1 (by decide) (by decide) rfl rfl ?_
    exact pf_vret h d_Mod_before_171 hr
  · refine pg_tableIn (off := 170) (tgt := 171) h d_Mod_before_1 (by decide) (by decide) rfl rfl ?_
    exact pf_vret h d_Mod_before_171 hr
  · refine pg_tableIn (off := 170) (tgt := 171) h d_Mod_before_1 (by decide) (by decide) rfl rfl ?_
    exact pf_vret h d_Mod_before_171 hr
  · refine pg_tableIn (off := 170) (tgt := 171) h d_Mod_before_1 (by decide) (by decide) rfl rfl ?_
    exact pf_vret h d_Mod_before_171 hr
  · refine pg_tableIn (off := 170) (tgt := 171) h d_Mod_before_1 (by decide) (by decide) rfl rfl ?_
    exact pf_vret h d_Mod_before_171 hr
  · refine pg_tableIn (off := 170) (tgt := 171) h d_Mod_before_1 (by decide) (by decide) rfl rfl ?_
    exact pf_vret h d_Mod_before_171 hr
  · refine pg_tableIn (off := 170) (tgt := 171) h d_Mod_before_1 (by decide) (by decide) rfl rfl ?_
    exact pf_vret h d_Mod_before_171 hr
  · refine pg_tableIn (off := 170) (tgt := 171) h d_Mod_before_1 (by decide) (by decide) rfl rfl ?_
    exact pf_vret h d_Mod_before_171 hr
  · refine pg_tableIn (off := 170) (tgt := 171) h d_Mod_before_1 (by decide) (by decide) rfl rfl ?_
    exact pf_vret h d_Mod_before_171 hr
  · refine pg_tableIn (off := 170) (tgt := 171) h d_Mod_before_1 (by decide) (by decide) rfl rfl ?_
    exact pf_vret h d_Mod_before_171 hr
  · refine pg_tableIn (off := 170) (tgt := 171) h d_Mod_before_1 (by decide) (by decide) rfl rfl ?_
    exact pf_vret h d_Mod_before_171 hr
  · exact absurd rfl c24
  · exact absurd rfl c25
  · exact absurd rfl c26
  · refine pg_tableIn (off := 170) (tgt := 171) h d_Mod_before_1 (by decide) (by decide) rfl rfl ?_
    exact pf_vret h d_Mod_before_171 hr
  · exact absurd rfl c28
  · exact absurd rfl c29
  · exact absurd rfl c30

set_option maxRecDepth 100000 in
set_option maxHeartbeats 4000000 in
theorem c_Mod_after (w : pf_W) (ok : pf_ok w) (S : pf_S) (g : Nat → Int32) (lg : Int32) (F : Nat → Nat → Int32) (mm : Nat) (hm : mm < 32) : pf_C w y_Mod_after b_Mod_after 2 none 2 41 [.ref (w.2.1 20 0), .int (nI mm)] (MD S g lg F) (none) (MD S (afG g (nI mm)) lg F) := by
  refine pf_enter (by decide) (Nat.le_of_ble_eq_true rfl) (lv0 := [some (.ref (w.2.1 20 0)), some (.int (nI mm))]) rfl (fun κ h => ?_)
  have tail : ∀ g2 : Nat → Int32, ¬ mm = 8 → ¬ mm = 10 → ¬ mm = 11 → ¬ mm = 13 → ¬ mm = 31 → afG g (nI mm) = g2 → pg_G κ w.1 2 0 0 (pg_Q κ w.1 (fun r' H => r' = none ∧ pf_P w (MD S (afG g (nI mm)) lg F) H) 0 0) (pf_P w (MD S g2 lg F)) 46 [some (.ref (w.2.1 20 0)), some (.int (nI mm))] [] := by
    intro g2 n8 n10 n11 n13 n31 he
    have m8 : ¬ nI mm = 8 := fun q => n8 ((nI_eq (by omega) (by decide)).mp (show nI mm = nI 8 from q))
    have m10 : ¬ nI mm = 10 := fun q => n10 ((nI_eq (by omega) (by decide)).mp (show nI mm = nI 10 from q))
    have m11 : ¬ nI mm = 11 := fun q => n11 ((nI_eq (by omega) (by decide)).mp (show nI mm = nI 11 from q))
    have m13 : ¬ nI mm = 13 := fun q => n13 ((nI_eq (by omega) (by decide)).mp (show nI mm = nI 13 from q))
    have m31 : ¬ nI mm = 31 := fun q => n31 ((nI_eq (by omega) (by decide)).mp (show nI mm = nI 31 from q))
    refine pg_iload_n h d_Mod_after_46 rfl ?_
    refine pg_lookup (off := 89) (tgt := 136) h d_Mod_after_47 (by decide) (by rw [show (#[(8, 49), (10, 57), (11, 65), (13, 73), (31, 81)] : Array (Int × Int)).toList = [(8, 49), (10, 57), (11, 65), (13, 73), (31, 81)] from rfl, lv_osw m8 (by decide), lv_osw m10 (by decide), lv_osw m11 (by decide), lv_osw m13 (by decide), lv_osw m31 (by decide)]; rfl) rfl ?_
    exact pf_vret h d_Mod_after_136 (by rw [he])
  have c7 : ((7 : Int32) < nI mm) = (7 < mm) := propext (show nI 7 < nI mm ↔ _ from nI_ltI (by decide) (by omega))
  have c16 : (nI mm < (16 : Int32)) = (mm < 16) := propext (show nI mm < nI 16 ↔ _ from nI_ltI (by omega) (by decide))
  have c23 : ((23 : Int32) < nI mm) = (23 < mm) := propext (show nI 23 < nI mm ↔ _ from nI_ltI (by decide) (by omega))
  by_cases h8 : mm < 8
  · have em : nI mm - nI mm / 8 * 8 = nI mm := by
      rw [show nI mm - nI mm / 8 * 8 = nI (mm % 8) from pk_rem (a := mm) (d := 8) (by omega) (by decide) (by decide), Nat.mod_eq_of_lt h8]
    refine pg_iload_n h d_Mod_after_0 rfl ?_
    refine pg_bipush (v := 8) h d_Mod_after_1 (by decide) ?_
    refine pg_icmp_lt (tgt := 18) h d_Mod_after_3 rfl (fun e3 => ?_) (fun e3 => absurd e3 (fun q => q (nI_lt h8 (by decide))))
    refine pg_aload_n h d_Mod_after_18 rfl ?_
    refine pg_iload_n h d_Mod_after_19 rfl ?_
    refine pg_bipush (v := 8) h d_Mod_after_20 (by decide) ?_
    refine pg_irem h d_Mod_after_22 (by decide) ?_
    rw [em]
    refine pf_puti h ok d_Mod_after_23 fw_Mod_161 (by first | rfl | exact hk | exact hk2 | exact dm12 _ | assumption) rfl (Nat.le_of_ble_eq_true rfl) rfl ?_
    try simp only [MD25, MD26, MD27, MD28, MD29, MD30, MD31, MD32, MD33, MD34, MD35, MD36, MDF32, MDF33, MDF34, MDF35, MDF36, MDF37, MDs_25, MDs_26, MDs_27, MDs_28, MDs_29, MDs_30, MDs_31, MDs_32, MDs_33, MDs_34, MDs_35, MDs_36, MDs_0, MDs_11, MDs_13, MDs_14, MDs_15, MDs_16, MDs_17, MDs_18, MD_21, MD_22, MD_23, MD_24, MD_25, MD_26, MD_27, MD_28, MD_29, MD_30, MD_31, MD_32, MD_33, MD_34, MD_35, MD_36, MD_37]
    refine pg_aload_n h d_Mod_after_26 rfl ?_
    refine pg_iload_n h d_Mod_after_27 rfl ?_
    refine pg_bipush (v := 15) h d_Mod_after_28 (by decide) ?_
    refine pg_icmp_le (tgt := 37) h d_Mod_after_30 rfl (fun e30 => ?_) (fun e30 => absurd e30 (fun q => q (nI_le (show mm ≤ 15 by omega) (by decide))))
    refine pg_iconst (v := 0) h d_Mod_after_37 (by decide) ?_
    refine pf_cV0 h ok d_Mod_after_38 m_Mod_setMosaic l_Mod_201 (c_mtmG0 w ok S _ lg F) cn_Mod (by first | rfl | exact hk | exact hk2 | exact dm12 _ | assumption) rfl rfl rfl (Nat.le_of_ble_eq_true rfl) ⟨(Nat.le_of_ble_eq_true rfl), (Nat.le_of_ble_eq_true rfl)⟩ ⟨Nat.le_refl _, Nat.le_refl _⟩ ?_
    try simp only [MD25, MD26, MD27, MD28, MD29, MD30, MD31, MD32, MD33, MD34, MD35, MD36, MDF32, MDF33, MDF34, MDF35, MDF36, MDF37, MDs_25, MDs_26, MDs_27, MDs_28, MDs_29, MDs_30, MDs_31, MDs_32, MDs_33, MDs_34, MDs_35, MDs_36, MDs_0, MDs_11, MDs_13, MDs_14, MDs_15, MDs_16, MDs_17, MDs_18, MD_21, MD_22, MD_23, MD_24, MD_25, MD_26, MD_27, MD_28, MD_29, MD_30, MD_31, MD_32, MD_33, MD_34, MD_35, MD_36, MD_37]
    refine pg_aload_n h d_Mod_after_41 rfl ?_
    refine pg_iconst (v := 0) h d_Mod_after_42 (by decide) ?_
    refine pf_putz 0 h ok d_Mod_after_43 fw_Mod_173 (by first | rfl | exact hk | exact hk2 | exact dm12 _ | assumption) rfl (Nat.le_of_ble_eq_true rfl) rfl ?_
    try simp only [MD25, MD26, MD27, MD28, MD29, MD30, MD31, MD32, MD33, MD34, MD35, MD36, MDF32, MDF33, MDF34, MDF35, MDF36, MDF37, MDs_25, MDs_26, MDs_27, MDs_28, MDs_29, MDs_30, MDs_31, MDs_32, MDs_33, MDs_34, MDs_35, MDs_36, MDs_0, MDs_11, MDs_13, MDs_14, MDs_15, MDs_16, MDs_17, MDs_18, MD_21, MD_22, MD_23, MD_24, MD_25, MD_26, MD_27, MD_28, MD_29, MD_30, MD_31, MD_32, MD_33, MD_34, MD_35, MD_36, MD_37]
    exact tail _ (by omega) (by omega) (by omega) (by omega) (by omega) (by rw [afG, if_pos (by rw [c7]; omega)]; rfl)
  by_cases h16 : 16 ≤ mm ∧ mm < 24
  · have em : nI mm - nI mm / 8 * 8 = nI mm - 16 := by
      rw [show nI mm - nI mm / 8 * 8 = nI (mm % 8) from pk_rem (a := mm) (d := 8) (by omega) (by decide) (by decide), show nI mm - 16 = nI (mm - 16) from pk_sub (a := mm) (b := 16) h16.1, show mm % 8 = mm - 16 by omega]
    refine pg_iload_n h d_Mod_after_0 rfl ?_
    refine pg_bipush (v := 8) h d_Mod_after_1 (by decide) ?_
    refine pg_icmp_lt (tgt := 18) h d_Mod_after_3 rfl (fun e3 => absurd e3 (nI_nlt (show 8 ≤ mm by omega) (by omega))) (fun e3 => ?_)
    refine pg_iload_n h d_Mod_after_6 rfl ?_
    refine pg_bipush (v := 15) h d_Mod_after_7 (by decide) ?_
    refine pg_icmp_le (tgt := 46) h d_Mod_after_9 rfl (fun e9 => absurd e9 (nI_ge (show 15 < mm by omega) (by omega))) (fun e9 => ?_)
    refine pg_iload_n h d_Mod_after_12 rfl ?_
    refine pg_bipush (v := 24) h d_Mod_after_13 (by decide) ?_
    refine pg_icmp_ge (tgt := 46) h d_Mod_after_15 rfl (fun e15 => absurd e15 (nI_ge h16.2 (by decide))) (fun e15 => ?_)
    refine pg_aload_n h d_Mod_after_18 rfl ?_
    refine pg_iload_n h d_Mod_after_19 rfl ?_
    refine pg_bipush (v := 8) h d_Mod_after_20 (by decide) ?_
    refine pg_irem h d_Mod_after_22 (by decide) ?_
    rw [em]
    refine pf_puti h ok d_Mod_after_23 fw_Mod_161 (by first | rfl | exact hk | exact hk2 | exact dm12 _ | assumption) rfl (Nat.le_of_ble_eq_true rfl) rfl ?_
    try simp only [MD25, MD26, MD27, MD28, MD29, MD30, MD31, MD32, MD33, MD34, MD35, MD36, MDF32, MDF33, MDF34, MDF35, MDF36, MDF37, MDs_25, MDs_26, MDs_27, MDs_28, MDs_29, MDs_30, MDs_31, MDs_32, MDs_33, MDs_34, MDs_35, MDs_36, MDs_0, MDs_11, MDs_13, MDs_14, MDs_15, MDs_16, MDs_17, MDs_18, MD_21, MD_22, MD_23, MD_24, MD_25, MD_26, MD_27, MD_28, MD_29, MD_30, MD_31, MD_32, MD_33, MD_34, MD_35, MD_36, MD_37]
    refine pg_aload_n h d_Mod_after_26 rfl ?_
    refine pg_iload_n h d_Mod_after_27 rfl ?_
    refine pg_bipush (v := 15) h d_Mod_after_28 (by decide) ?_
    refine pg_icmp_le (tgt := 37) h d_Mod_after_30 rfl (fun e30 => absurd e30 (nI_ge (show 15 < mm by omega) (by omega))) (fun e30 => ?_)
    refine pg_iconst (v := 1) h d_Mod_after_33 (by decide) ?_
    refine pg_goto (tgt := 38) h d_Mod_after_34 rfl ?_
    refine pf_cV0 h ok d_Mod_after_38 m_Mod_setMosaic l_Mod_201 (c_mtmG1 w ok S _ lg F) cn_Mod (by first | rfl | exact hk | exact hk2 | exact dm12 _ | assumption) rfl rfl rfl (Nat.le_of_ble_eq_true rfl) ⟨(Nat.le_of_ble_eq_true rfl), (Nat.le_of_ble_eq_true rfl)⟩ ⟨Nat.le_refl _, Nat.le_refl _⟩ ?_
    try simp only [MD25, MD26, MD27, MD28, MD29, MD30, MD31, MD32, MD33, MD34, MD35, MD36, MDF32, MDF33, MDF34, MDF35, MDF36, MDF37, MDs_25, MDs_26, MDs_27, MDs_28, MDs_29, MDs_30, MDs_31, MDs_32, MDs_33, MDs_34, MDs_35, MDs_36, MDs_0, MDs_11, MDs_13, MDs_14, MDs_15, MDs_16, MDs_17, MDs_18, MD_21, MD_22, MD_23, MD_24, MD_25, MD_26, MD_27, MD_28, MD_29, MD_30, MD_31, MD_32, MD_33, MD_34, MD_35, MD_36, MD_37]
    refine pg_aload_n h d_Mod_after_41 rfl ?_
    refine pg_iconst (v := 0) h d_Mod_after_42 (by decide) ?_
    refine pf_putz 0 h ok d_Mod_after_43 fw_Mod_173 (by first | rfl | exact hk | exact hk2 | exact dm12 _ | assumption) rfl (Nat.le_of_ble_eq_true rfl) rfl ?_
    try simp only [MD25, MD26, MD27, MD28, MD29, MD30, MD31, MD32, MD33, MD34, MD35, MD36, MDF32, MDF33, MDF34, MDF35, MDF36, MDF37, MDs_25, MDs_26, MDs_27, MDs_28, MDs_29, MDs_30, MDs_31, MDs_32, MDs_33, MDs_34, MDs_35, MDs_36, MDs_0, MDs_11, MDs_13, MDs_14, MDs_15, MDs_16, MDs_17, MDs_18, MD_21, MD_22, MD_23, MD_24, MD_25, MD_26, MD_27, MD_28, MD_29, MD_30, MD_31, MD_32, MD_33, MD_34, MD_35, MD_36, MD_37]
    exact tail _ (by omega) (by omega) (by omega) (by omega) (by omega) (by rw [afG, if_neg (by rw [c7]; omega), if_pos ⟨by rw [c16]; omega, by rw [c23]; omega⟩]; rfl)
  have ef : afG g (nI mm) = if nI mm = 8 then upd g 3 1 else if nI mm = 10 then upd g 5 0 else if nI mm = 11 then upd g 5 1 else if nI mm = 13 then tdG g 1 else if nI mm = 31 then upd g 8 0 else g := by
    rw [afG, if_neg (by rw [c7]; omega), if_neg (by rw [c16, c23]; omega)]
  have mid : pg_G κ w.1 2 0 0 (pg_Q κ w.1 (fun r' H => r' = none ∧ pf_P w (MD S (afG g (nI mm)) lg F) H) 0 0) (pf_P w (MD S g lg F)) 46 [some (.ref (w.2.1 20 0)), some (.int (nI mm))] [] := by
    refine pg_iload_n h d_Mod_after_46 rfl ?_
    by_cases c47_8 : nI mm = 8
    · refine pg_lookup (off := 49) (tgt := 96) h d_Mod_after_47 (by decide) (by rw [c47_8]; decide) rfl ?_
      refine pg_aload_n h d_Mod_after_96 rfl ?_
      refine pg_iconst (v := 1) h d_Mod_after_97 (by decide) ?_
      refine pf_putz 1 h ok d_Mod_after_98 fw_Mod_170 (by first | rfl | exact hk | exact hk2 | exact dm12 _ | assumption) rfl (Nat.le_of_ble_eq_true rfl) rfl ?_
      try simp only [MD25, MD26, MD27, MD28, MD29, MD30, MD31, MD32, MD33, MD34, MD35, MD36, MDF32, MDF33, MDF34, MDF35, MDF36, MDF37, MDs_25, MDs_26, MDs_27, MDs_28, MDs_29, MDs_30, MDs_31, MDs_32, MDs_33, MDs_34, MDs_35, MDs_36, MDs_0, MDs_11, MDs_13, MDs_14, MDs_15, MDs_16, MDs_17, MDs_18, MD_21, MD_22, MD_23, MD_24, MD_25, MD_26, MD_27, MD_28, MD_29, MD_30, MD_31, MD_32, MD_33, MD_34, MD_35, MD_36, MD_37]
      refine pg_goto (tgt := 136) h d_Mod_after_101 rfl ?_
      exact pf_vret h d_Mod_after_136 (by rw [ef]; simp [*])
    by_cases c47_10 : nI mm = 10
    · refine pg_lookup (off := 57) (tgt := 104) h d_Mod_after_47 (by decide) (by rw [c47_10]; decide) rfl ?_
      refine pg_aload_n h d_Mod_after_104 rfl ?_
      refine pg_iconst (v := 0) h d_Mod_after_105 (by decide) ?_
      refine pf_putz 0 h ok d_Mod_after_106 fw_Mod_176 (by first | rfl | exact hk | exact hk2 | exact dm12 _ | assumption) rfl (Nat.le_of_ble_eq_true rfl) rfl ?_
      try simp only [MD25, MD26, MD27, MD28, MD29, MD30, MD31, MD32, MD33, MD34, MD35, MD36, MDF32, MDF33, MDF34, MDF35, MDF36, MDF37, MDs_25, MDs_26, MDs_27, MDs_28, MDs_29, MDs_30, MDs_31, MDs_32, MDs_33, MDs_34, MDs_35, MDs_36, MDs_0, MDs_11, MDs_13, MDs_14, MDs_15, MDs_16, MDs_17, MDs_18, MD_21, MD_22, MD_23, MD_24, MD_25, MD_26, MD_27, MD_28, MD_29, MD_30, MD_31, MD_32, MD_33, MD_34, MD_35, MD_36, MD_37]
      refine pg_goto (tgt := 136) h d_Mod_after_109 rfl ?_
      exact pf_vret h d_Mod_after_136 (by rw [ef]; simp [*])
    by_cases c47_11 : nI mm = 11
    · refine pg_lookup (off := 65) (tgt := 112) h d_Mod_after_47 (by decide) (by rw [c47_11]; decide) rfl ?_
      refine pg_aload_n h d_Mod_after_112 rfl ?_
      refine pg_iconst (v := 1) h d_Mod_after_113 (by decide) ?_
      refine pf_putz 1 h ok d_Mod_after_114 fw_Mod_176 (by first | rfl | exact hk | exact hk2 | exact dm12 _ | assumption) rfl (Nat.le_of_ble_eq_true rfl) rfl ?_
      try simp only [MD25, MD26, MD27, MD28, MD29, MD30, MD31, MD32, MD33, MD34, MD35, MD36, MDF32, MDF33, MDF34, MDF35, MDF36, MDF37, MDs_25, MDs_26, MDs_27, MDs_28, MDs_29, MDs_30, MDs_31, MDs_32, MDs_33, MDs_34, MDs_35, MDs_36, MDs_0, MDs_11, MDs_13, MDs_14, MDs_15, MDs_16, MDs_17, MDs_18, MD_21, MD_22, MD_23, MD_24, MD_25, MD_26, MD_27, MD_28, MD_29, MD_30, MD_31, MD_32, MD_33, MD_34, MD_35, MD_36, MD_37]
      refine pg_goto (tgt := 136) h d_Mod_after_117 rfl ?_
      exact pf_vret h d_Mod_after_136 (by rw [ef]; simp [*])
    by_cases c47_13 : nI mm = 13
    · refine pg_lookup (off := 73) (tgt := 120) h d_Mod_after_47 (by decide) (by rw [c47_13]; decide) rfl ?_
      refine pg_aload_n h d_Mod_after_120 rfl ?_
      refine pg_iconst (v := 1) h d_Mod_after_121 (by decide) ?_
      refine pf_cV0 h ok d_Mod_after_122 m_Mod_setTwice l_Mod_197 (c_mtdG1 w ok S g lg F) cn_Mod (by first | rfl | exact hk | exact hk2 | exact dm12 _ | assumption) rfl rfl rfl (Nat.le_of_ble_eq_true rfl) ⟨(Nat.le_of_ble_eq_true rfl), (Nat.le_of_ble_eq_true rfl)⟩ ⟨Nat.le_refl _, Nat.le_refl _⟩ ?_
      try simp only [MD25, MD26, MD27, MD28, MD29, MD30, MD31, MD32, MD33, MD34, MD35, MD36, MDF32, MDF33, MDF34, MDF35, MDF36, MDF37, MDs_25, MDs_26, MDs_27, MDs_28, MDs_29, MDs_30, MDs_31, MDs_32, MDs_33, MDs_34, MDs_35, MDs_36, MDs_0, MDs_11, MDs_13, MDs_14, MDs_15, MDs_16, MDs_17, MDs_18, MD_21, MD_22, MD_23, MD_24, MD_25, MD_26, MD_27, MD_28, MD_29, MD_30, MD_31, MD_32, MD_33, MD_34, MD_35, MD_36, MD_37]
      refine pg_goto (tgt := 136) h d_Mod_after_125 rfl ?_
      exact pf_vret h d_Mod_after_136 (by rw [ef]; simp [*])
    by_cases c47_31 : nI mm = 31
    · refine pg_lookup (off := 81) (tgt := 128) h d_Mod_after_47 (by decide) (by rw [c47_31]; decide) rfl ?_
      refine pg_aload_n h d_Mod_after_128 rfl ?_
      refine pg_iconst (v := 0) h d_Mod_after_129 (by decide) ?_
      refine pf_putz 0 h ok d_Mod_after_130 fw_Mod_185 (by first | rfl | exact hk | exact hk2 | exact dm12 _ | assumption) rfl (Nat.le_of_ble_eq_true rfl) rfl ?_
      try simp only [MD25, MD26, MD27, MD28, MD29, MD30, MD31, MD32, MD33, MD34, MD35, MD36, MDF32, MDF33, MDF34, MDF35, MDF36, MDF37, MDs_25, MDs_26, MDs_27, MDs_28, MDs_29, MDs_30, MDs_31, MDs_32, MDs_33, MDs_34, MDs_35, MDs_36, MDs_0, MDs_11, MDs_13, MDs_14, MDs_15, MDs_16, MDs_17, MDs_18, MD_21, MD_22, MD_23, MD_24, MD_25, MD_26, MD_27, MD_28, MD_29, MD_30, MD_31, MD_32, MD_33, MD_34, MD_35, MD_36, MD_37]
      refine pg_goto (tgt := 136) h d_Mod_after_133 rfl ?_
      exact pf_vret h d_Mod_after_136 (by rw [ef]; simp [*])
    refine pg_lookup (off := 89) (tgt := 136) h d_Mod_after_47 (by decide) (by rw [show (#[(8, 49), (10, 57), (11, 65), (13, 73), (31, 81)] : Array (Int × Int)).toList = [(8, 49), (10, 57), (11, 65), (13, 73), (31, 81)] from rfl, lv_osw c47_8 (by decide), lv_osw c47_10 (by decide), lv_osw c47_11 (by decide), lv_osw c47_13 (by decide), lv_osw c47_31 (by decide)]; rfl) rfl ?_
    exact pf_vret h d_Mod_after_136 (by rw [ef]; simp [*])
  refine pg_iload_n h d_Mod_after_0 rfl ?_
  refine pg_bipush (v := 8) h d_Mod_after_1 (by decide) ?_
  refine pg_icmp_lt (tgt := 18) h d_Mod_after_3 rfl (fun e3 => absurd e3 (nI_nlt (show 8 ≤ mm by omega) (by omega))) (fun e3 => ?_)
  refine pg_iload_n h d_Mod_after_6 rfl ?_
  refine pg_bipush (v := 15) h d_Mod_after_7 (by decide) ?_
  refine pg_icmp_le (tgt := 46) h d_Mod_after_9 rfl (fun e9 => ?_) (fun e9 => ?_)
  · skip
    exact mid
  refine pg_iload_n h d_Mod_after_12 rfl ?_
  refine pg_bipush (v := 24) h d_Mod_after_13 (by decide) ?_
  refine pg_icmp_ge (tgt := 46) h d_Mod_after_15 rfl (fun e15 => ?_) (fun e15 => absurd e15 (fun q => by rcases (show mm < 16 ∨ 24 ≤ mm by omega) with c | c; exact e9 (nI_le (show mm ≤ 15 by omega) (by decide)); exact q (nI_le c (by omega))))
  exact mid
