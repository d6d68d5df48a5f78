/-! Shelf and Remote. -/
theorem dm12 (P : Nat) : pf_dm P 14 12 = true := by simp [pf_dm]
theorem dmS {P j : Nat} (h : j < P) : pf_dm P 14 (8 + j) = true := by
  simp only [pf_dm, Bool.or_eq_true, decide_eq_true_eq]
  omega
theorem dmC {P k : Nat} (h : k < 8) : pf_dm P 14 k = true := by
  simp only [pf_dm, Bool.or_eq_true, decide_eq_true_eq]
  omega
theorem dmK {P k : Nat} (h : k < 8 + P) : pf_dm P 14 k = true := by
  simp only [pf_dm, Bool.or_eq_true, decide_eq_true_eq]
  omega
/-- a page or null -/
def pgV (w : pf_W) (o : Option Nat) : Value := match o with
  | none => .null
  | some k => .ref (w.2.1 14 k)
def fndFrom (S : pf_S) (num : Int32) : Nat → Nat → Option Nat
  | 0, _ => none
  | n + 1, j => if nb (S 14 (8 + j) 0) = 0 then fndFrom S num n (j + 1) else if ¬ S 14 (8 + j) 1 = num then fndFrom S num n (j + 1) else some (8 + j)
/-- Shelf.find -/
def fndF (S : pf_S) (P : Nat) (num : Int32) : Option Nat := fndFrom S num P 0
theorem fndFrom_some {S : pf_S} {num : Int32} : ∀ {n j k : Nat}, fndFrom S num n j = some k → 8 + j ≤ k ∧ k < 8 + j + n ∧ ¬ nb (S 14 k 0) = 0 ∧ S 14 k 1 = num := by
  intro n
  induction n with
  | zero => intro j k h; simp [fndFrom] at h
  | succ n ih =>
    intro j k h
    rw [fndFrom] at h
    by_cases h1 : nb (S 14 (8 + j) 0) = 0
    · rw [if_pos h1] at h
      obtain ⟨a, b, c⟩ := ih h
      exact ⟨by omega, by omega, c⟩
    · rw [if_neg h1] at h
      by_cases h2 : ¬ S 14 (8 + j) 1 = num
      · rw [if_pos h2] at h
        obtain ⟨a, b, c⟩ := ih h
        exact ⟨by omega, by omega, c⟩
      · rw [if_neg h2] at h
        cases h
        exact ⟨by omega, by omega, h1, Classical.not_not.mp h2⟩
theorem fndF_some {S : pf_S} {P k : Nat} {num : Int32} (h : fndF S P num = some k) : 8 ≤ k ∧ k < 8 + P ∧ ¬ nb (S 14 k 0) = 0 ∧ S 14 k 1 = num := by
  obtain ⟨a, b, c⟩ := fndFrom_some h
  exact ⟨by omega, by omega, c⟩

set_option maxRecDepth 100000 in
set_option maxHeartbeats 4000000 in
theorem c_Shelf_find (w : pf_W) (ok : pf_ok w) (S : pf_S) (hw : 1 ≤ w.2.2.1 ∧ w.2.2.1 ≤ 4) (num : Int32) : pf_C w y_Shelf_find b_Shelf_find 3 (some (.object "PageReceiver$Page")) 0 0 [.ref (w.2.1 4 0), .int num] S (some (pgV w (fndF S w.2.2.1 num))) (S) := by
  refine pf_enter (by decide) (Nat.le_of_ble_eq_true rfl) (lv0 := [some (.ref (w.2.1 4 0)), some (.int num), none]) rfl (fun κ h => ?_)
  have loop : ∀ (n j : Nat), j + n = w.2.2.1 → fndFrom S num n j = fndF S w.2.2.1 num → pg_G κ w.1 3 0 0 (pg_Q κ w.1 (fun r' H => r' = (some (pgV w (fndF S w.2.2.1 num))) ∧ pf_P w (S) H) 0 0) (pf_P w (S)) 2 [some (.ref (w.2.1 4 0)), some (.int num), some (.int (nI j))] [] := by
    intro n
    induction n with
    | zero =>
      intro j hj hI
      have hj : j = w.2.2.1 := by omega
      subst hj
      refine pg_iload_n h d_Shelf_find_2 rfl ?_
      refine pg_aload_n h d_Shelf_find_3 rfl ?_
      refine pf_get h ok d_Shelf_find_4 f_Shelf_17 (by first | rfl | exact hk | exact hk2 | exact dm12 _ | assumption) rfl rfl ?_
      refine pf_len (t0 := 2) (v := nI w.2.2.1) h ok d_Shelf_find_7 (by first | rfl | exact hk | exact hk2 | exact dm12 _ | assumption) rfl rfl rfl ?_
      refine pg_icmp_ge (tgt := 49) h d_Shelf_find_8 rfl (fun e8 => ?_) (fun e8 => absurd e8 (fun e => e (Int32.le_refl _)))
      refine pg_null h d_Shelf_find_49 ?_
      exact pf_aret h d_Shelf_find_50 (by first | exact Or.inl rfl | exact Or.inr ⟨_, rfl⟩) (by rw [← hI]; rfl) rfl
    | succ n ih =>
      intro j hj hI
      have hj2 : j < w.2.2.1 := by omega
      have hk := dmS hj2
      rw [fndFrom] at hI
      refine pg_iload_n h d_Shelf_find_2 rfl ?_
      refine pg_aload_n h d_Shelf_find_3 rfl ?_
      refine pf_get h ok d_Shelf_find_4 f_Shelf_17 (by first | rfl | exact hk | exact hk2 | exact dm12 _ | assumption) rfl rfl ?_
      refine pf_len (t0 := 2) (v := nI w.2.2.1) h ok d_Shelf_find_7 (by first | rfl | exact hk | exact hk2 | exact dm12 _ | assumption) rfl rfl rfl ?_
      refine pg_icmp_ge (tgt := 49) h d_Shelf_find_8 rfl (fun e8 => absurd e8 (nI_ge hj2 (by omega))) (fun e8 => ?_)
      refine pg_aload_n h d_Shelf_find_11 rfl ?_
      refine pf_get h ok d_Shelf_find_12 f_Shelf_17 (by first | rfl | exact hk | exact hk2 | exact dm12 _ | assumption) rfl rfl ?_
      refine pg_iload_n h d_Shelf_find_15 rfl ?_
      refine pf_ald h ok d_Shelf_find_16 (by first | rfl | exact hk | exact hk2 | exact dm12 _ | assumption) rfl (pg_ixN rfl hj2 (by omega)) rfl ?_
      refine pf_get h ok d_Shelf_find_17 f_Shelf_22 (by first | rfl | exact hk | exact hk2 | exact dm12 _ | assumption) rfl rfl ?_
      refine pg_if_eq (tgt := 43) h d_Shelf_find_20 rfl (fun e20 => ?_) (fun e20 => ?_)
      · skip
        refine pg_iinc (w := 1) h d_Shelf_find_43 rfl (by decide) (Nat.le_of_ble_eq_true rfl) rfl rfl ?_
        refine pg_goto (tgt := 2) h d_Shelf_find_46 rfl ?_
        rw [← nI_succ j]
        first | exact ih (j + 1) (by omega) (by rw [if_pos e20] at hI; exact hI) | exact ih (j + 1) (by omega) (by rw [if_neg e20, if_pos e33] at hI; exact hI)
      refine pg_aload_n h d_Shelf_find_23 rfl ?_
      refine pf_get h ok d_Shelf_find_24 f_Shelf_17 (by first | rfl | exact hk | exact hk2 | exact dm12 _ | assumption) rfl rfl ?_
      refine pg_iload_n h d_Shelf_find_27 rfl ?_
      refine pf_ald h ok d_Shelf_find_28 (by first | rfl | exact hk | exact hk2 | exact dm12 _ | assumption) rfl (pg_ixN rfl hj2 (by omega)) rfl ?_
      refine pf_get h ok d_Shelf_find_29 f_Shelf_26 (by first | rfl | exact hk | exact hk2 | exact dm12 _ | assumption) rfl rfl ?_
      refine pg_iload_n h d_Shelf_find_32 rfl ?_
      refine pg_icmp_ne (tgt := 43) h d_Shelf_find_33 rfl (fun e33 => ?_) (fun e33 => ?_)
      · skip
        refine pg_iinc (w := 1) h d_Shelf_find_43 rfl (by decide) (Nat.le_of_ble_eq_true rfl) rfl rfl ?_
        refine pg_goto (tgt := 2) h d_Shelf_find_46 rfl ?_
        rw [← nI_succ j]
        first | exact ih (j + 1) (by omega) (by rw [if_pos e20] at hI; exact hI) | exact ih (j + 1) (by omega) (by rw [if_neg e20, if_pos e33] at hI; exact hI)
      refine pg_aload_n h d_Shelf_find_36 rfl ?_
      refine pf_get h ok d_Shelf_find_37 f_Shelf_17 (by first | rfl | exact hk | exact hk2 | exact dm12 _ | assumption) rfl rfl ?_
      refine pg_iload_n h d_Shelf_find_40 rfl ?_
      refine pf_ald h ok d_Shelf_find_41 (by first | rfl | exact hk | exact hk2 | exact dm12 _ | assumption) rfl (pg_ixN rfl hj2 (by omega)) rfl ?_
      exact pf_aret h d_Shelf_find_42 (by first | exact Or.inl rfl | exact Or.inr ⟨_, rfl⟩) (by rw [if_neg e20, if_neg (fun q => q e33)] at hI; rw [← hI]; rfl) rfl
  refine pg_iconst (v := 0) h d_Shelf_find_0 (by decide) ?_
  refine pg_istore_n h d_Shelf_find_1 (Nat.le_of_ble_eq_true rfl) rfl rfl ?_
  exact loop w.2.2.1 0 (by omega) rfl

theorem c_find_some (w : pf_W) (ok : pf_ok w) (S : pf_S) (hw : 1 ≤ w.2.2.1 ∧ w.2.2.1 ≤ 4) (num : Int32) {k : Nat} (hf : fndF S w.2.2.1 num = some k) : pf_C w y_Shelf_find b_Shelf_find 3 (some (.object "PageReceiver$Page")) 0 0 [.ref (w.2.1 4 0), .int num] S (some (.ref (w.2.1 14 k))) S := by
  have q := c_Shelf_find w ok S hw num
  rw [hf] at q
  exact q
theorem c_find_none (w : pf_W) (ok : pf_ok w) (S : pf_S) (hw : 1 ≤ w.2.2.1 ∧ w.2.2.1 ≤ 4) (num : Int32) (hf : fndF S w.2.2.1 num = none) : pf_C w y_Shelf_find b_Shelf_find 3 (some (.object "PageReceiver$Page")) 0 0 [.ref (w.2.1 4 0), .int num] S (some .null) S := by
  have q := c_Shelf_find w ok S hw num
  rw [hf] at q
  exact q
theorem ixP {x : Int32} {P : Nat} (h0 : ¬ x < 0) (h1 : ¬ nI P ≤ x) (hP : P < 2 ^ 31) : pg_ix x P x.toNatClampNeg ∧ x.toNatClampNeg < P := by
  obtain ⟨j, hj, rfl⟩ := nI_of h0
  have hj2 : j < P := Nat.not_le.mp (fun q => h1 (nI_le q hj))
  rw [nI_clamp hj]
  exact ⟨pg_ixN rfl hj2 hP, hj2⟩
/-- Shelf.pageIn -/
def pinF (S : pf_S) (P : Nat) (x : Int32) : Option Nat := if x < 0 then none else if nI P ≤ x then none else if nb (S 14 (8 + x.toNatClampNeg) 0) = 0 then none else some (8 + x.toNatClampNeg)
theorem pinF_some {S : pf_S} {P k : Nat} {x : Int32} (hP : P < 2 ^ 31) (h : pinF S P x = some k) : k < 8 + P := by
  unfold pinF at h
  by_cases h1 : x < 0
  · rw [if_pos h1] at h; cases h
  · rw [if_neg h1] at h
    by_cases h2 : nI P ≤ x
    · rw [if_pos h2] at h; cases h
    · rw [if_neg h2] at h
      have := (ixP h1 h2 hP).2
      split at h
      · cases h
      · cases h
        omega

set_option maxRecDepth 100000 in
set_option maxHeartbeats 4000000 in
theorem c_Shelf_pageIn (w : pf_W) (ok : pf_ok w) (S : pf_S) (hw : 1 ≤ w.2.2.1 ∧ w.2.2.1 ≤ 4) (x : Int32) : pf_C w y_Shelf_pageIn b_Shelf_pageIn 2 (some (.object "PageReceiver$Page")) 0 0 [.ref (w.2.1 4 0), .int x] S (some (pgV w (pinF S w.2.2.1 x))) (S) := by
  refine pf_enter (by decide) (Nat.le_of_ble_eq_true rfl) (lv0 := [some (.ref (w.2.1 4 0)), some (.int x)]) rfl (fun κ h => ?_)
  refine pg_iload_n h d_Shelf_pageIn_0 rfl ?_
  refine pg_if_lt (tgt := 25) h d_Shelf_pageIn_1 rfl (fun e1 => ?_) (fun e1 => ?_)
  · skip
    refine pg_null h d_Shelf_pageIn_25 ?_
    refine pg_goto (tgt := 35) h d_Shelf_pageIn_26 rfl ?_
    exact pf_aret h d_Shelf_pageIn_35 (by first | exact Or.inl rfl | exact Or.inr ⟨_, rfl⟩) (by simp [pinF, pgV, *]) rfl
  refine pg_iload_n h d_Shelf_pageIn_4 rfl ?_
  refine pg_aload_n h d_Shelf_pageIn_5 rfl ?_
  refine pf_get h ok d_Shelf_pageIn_6 f_Shelf_17 (by first | rfl | exact hk | exact hk2 | exact dm12 _ | assumption) rfl rfl ?_
  refine pf_len (t0 := 2) (v := nI w.2.2.1) h ok d_Shelf_pageIn_9 (by first | rfl | exact hk | exact hk2 | exact dm12 _ | assumption) rfl rfl rfl ?_
  refine pg_icmp_ge (tgt := 25) h d_Shelf_pageIn_10 rfl (fun e10 => ?_) (fun e10 => ?_)
  · skip
    refine pg_null h d_Shelf_pageIn_25 ?_
    refine pg_goto (tgt := 35) h d_Shelf_pageIn_26 rfl ?_
    exact pf_aret h d_Shelf_pageIn_35 (by first | exact Or.inl rfl | exact Or.inr ⟨_, rfl⟩) (by simp [pinF, pgV, *]) rfl
  have hix := ixP e1 e10 (by omega)
  have hk := dmS hix.2
  refine pg_aload_n h d_Shelf_pageIn_13 rfl ?_
  refine pf_get h ok d_Shelf_pageIn_14 f_Shelf_17 (by first | rfl | exact hk | exact hk2 | exact dm12 _ | assumption) rfl rfl ?_
  refine pg_iload_n h d_Shelf_pageIn_17 rfl ?_
  refine pf_ald h ok d_Shelf_pageIn_18 (by first | rfl | exact hk | exact hk2 | exact dm12 _ | assumption) rfl hix.1 rfl ?_
  refine pf_get h ok d_Shelf_pageIn_19 f_Shelf_22 (by first | rfl | exact hk | exact hk2 | exact dm12 _ | assumption) rfl rfl ?_
  refine pg_if_ne (tgt := 29) h d_Shelf_pageIn_22 rfl (fun e22 => ?_) (fun e22 => ?_)
  · skip
    refine pg_aload_n h d_Shelf_pageIn_29 rfl ?_
    refine pf_get h ok d_Shelf_pageIn_30 f_Shelf_17 (by first | rfl | exact hk | exact hk2 | exact dm12 _ | assumption) rfl rfl ?_
    refine pg_iload_n h d_Shelf_pageIn_33 rfl ?_
    refine pf_ald h ok d_Shelf_pageIn_34 (by first | rfl | exact hk | exact hk2 | exact dm12 _ | assumption) rfl hix.1 rfl ?_
    exact pf_aret h d_Shelf_pageIn_35 (by first | exact Or.inl rfl | exact Or.inr ⟨_, rfl⟩) (by simp [pinF, pgV, *]) rfl
  refine pg_null h d_Shelf_pageIn_25 ?_
  refine pg_goto (tgt := 35) h d_Shelf_pageIn_26 rfl ?_
  exact pf_aret h d_Shelf_pageIn_35 (by first | exact Or.inl rfl | exact Or.inr ⟨_, rfl⟩) (by simp [pinF, pgV, *]) rfl

def oldFrom (S : pf_S) (wt : Int32) : Nat → Nat → Nat → Nat
  | 0, _, b => b
  | n + 1, j, b => oldFrom S wt n (j + 1) (if ¬ S 14 (8 + j) 1 = wt ∧ (S 14 (8 + j) 4 < S 14 b 4 ∨ S 14 b 1 = wt) then 8 + j else b)
/-- Shelf.oldest -/
def oldF (S : pf_S) (P : Nat) (wt : Int32) : Nat := oldFrom S wt (P - 1) 1 8
theorem oldFrom_lt {S : pf_S} {wt : Int32} {P : Nat} : ∀ {n j b : Nat}, j + n ≤ P → 8 ≤ b → b < 8 + P → 8 ≤ oldFrom S wt n j b ∧ oldFrom S wt n j b < 8 + P := by
  intro n
  induction n with
  | zero => intro j b _ h1 h2; exact ⟨h1, h2⟩
  | succ n ih =>
    intro j b h h1 h2
    rw [oldFrom]
    split
    · exact ih (by omega) (by omega) (by omega)
    · exact ih (by omega) h1 h2

set_option maxRecDepth 100000 in
set_option maxHeartbeats 4000000 in
theorem c_Shelf_oldest (w : pf_W) (ok : pf_ok w) (S : pf_S) (hw : 1 ≤ w.2.2.1 ∧ w.2.2.1 ≤ 4) (wt : Int32) : pf_C w y_Shelf_oldest b_Shelf_oldest 6 (some (.object "PageReceiver$Page")) 0 0 [.ref (w.2.1 4 0), .int wt] S (some (.ref (w.2.1 14 (oldF S w.2.2.1 wt)))) (S) := by
  refine pf_enter (by decide) (Nat.le_of_ble_eq_true rfl) (lv0 := [some (.ref (w.2.1 4 0)), some (.int wt), none, none, none, none]) rfl (fun κ h => ?_)
  have loop : ∀ (n j b : Nat) (X Y : Option Value), j + n = w.2.2.1 → pf_dm w.2.2.1 14 b = true → oldFrom S wt n j b = oldF S w.2.2.1 wt → pg_G κ w.1 6 0 0 (pg_Q κ w.1 (fun r' H => r' = (some (.ref (w.2.1 14 (oldF S w.2.2.1 wt)))) ∧ pf_P w (S) H) 0 0) (pf_P w (S)) 9 [some (.ref (w.2.1 4 0)), some (.int wt), some (.ref (w.2.1 14 b)), some (.int (nI j)), X, Y] [] := by
    intro n
    induction n with
    | zero =>
      intro j b X Y hj hk2 hI
      have hj : j = w.2.2.1 := by omega
      subst hj
      refine pg_iload_n h d_Shelf_oldest_9 rfl ?_
      refine pg_aload_n h d_Shelf_oldest_10 rfl ?_
      refine pf_get h ok d_Shelf_oldest_11 f_Shelf_17 (by first | rfl | exact hk | exact hk2 | exact dm12 _ | assumption) rfl rfl ?_
      refine pf_len (t0 := 2) (v := nI w.2.2.1) h ok d_Shelf_oldest_14 (by first | rfl | exact hk | exact hk2 | exact dm12 _ | assumption) rfl rfl rfl ?_
      refine pg_icmp_ge (tgt := 76) h d_Shelf_oldest_15 rfl (fun e15 => ?_) (fun e15 => absurd e15 (fun e => e (Int32.le_refl _)))
      refine pg_aload_n h d_Shelf_oldest_76 rfl ?_
      exact pf_aret h d_Shelf_oldest_77 (by first | exact Or.inl rfl | exact Or.inr ⟨_, rfl⟩) (by rw [← hI]; rfl) rfl
    | succ n ih =>
      intro j b X Y hj hk2 hI
      have hj2 : j < w.2.2.1 := by omega
      have hk := dmS hj2
      refine pg_iload_n h d_Shelf_oldest_9 rfl ?_
      refine pg_aload_n h d_Shelf_oldest_10 rfl ?_
      refine pf_get h ok d_Shelf_oldest_11 f_Shelf_17 (by first | rfl | exact hk | exact hk2 | exact dm12 _ | assumption) rfl rfl ?_
      refine pf_len (t0 := 2) (v := nI w.2.2.1) h ok d_Shelf_oldest_14 (by first | rfl | exact hk | exact hk2 | exact dm12 _ | assumption) rfl rfl rfl ?_
      refine pg_icmp_ge (tgt := 76) h d_Shelf_oldest_15 rfl (fun e15 => absurd e15 (nI_ge hj2 (by omega))) (fun e15 => ?_)
      refine pg_aload_n h d_Shelf_oldest_18 rfl ?_
      refine pf_get h ok d_Shelf_oldest_19 f_Shelf_17 (by first | rfl | exact hk | exact hk2 | exact dm12 _ | assumption) rfl rfl ?_
      refine pg_iload_n h d_Shelf_oldest_22 rfl ?_
      refine pf_ald h ok d_Shelf_oldest_23 (by first | rfl | exact hk | exact hk2 | exact dm12 _ | assumption) rfl (pg_ixN rfl hj2 (by omega)) rfl ?_
      refine pg_astore h d_Shelf_oldest_24 (Nat.le_of_ble_eq_true rfl) rfl rfl ?_
      refine pg_aload h d_Shelf_oldest_26 rfl ?_
      refine pf_get h ok d_Shelf_oldest_28 f_Shelf_38 (by first | rfl | exact hk | exact hk2 | exact dm12 _ | assumption) rfl rfl ?_
      refine pg_aload_n h d_Shelf_oldest_31 rfl ?_
      refine pf_get h ok d_Shelf_oldest_32 f_Shelf_38 (by first | rfl | exact hk | exact hk2 | exact dm12 _ | assumption) rfl rfl ?_
      refine pg_icmp_ge (tgt := 42) h d_Shelf_oldest_35 rfl (fun e35 => ?_) (fun e35 => ?_)
      · skip
        refine pg_iconst (v := 0) h d_Shelf_oldest_42 (by decide) ?_
        refine pg_istore h d_Shelf_oldest_43 (Nat.le_of_ble_eq_true rfl) rfl rfl ?_
        refine pg_aload h d_Shelf_oldest_45 rfl ?_
        refine pf_get h ok d_Shelf_oldest_47 f_Shelf_26 (by first | rfl | exact hk | exact hk2 | exact dm12 _ | assumption) rfl rfl ?_
        refine pg_iload_n h d_Shelf_oldest_50 rfl ?_
        refine pg_icmp_eq (tgt := 70) h d_Shelf_oldest_51 rfl (fun e51 => ?_) (fun e51 => ?_)
        · skip
          refine pg_iinc (w := 1) h d_Shelf_oldest_70 rfl (by decide) (Nat.le_of_ble_eq_true rfl) rfl rfl ?_
          refine pg_goto (tgt := 9) h d_Shelf_oldest_73 rfl ?_
          first
            | exact absurd e56 (by decide)
            | exact absurd rfl e56
            | (rw [← nI_succ j]; exact ih (j + 1) (8 + j) _ _ (by omega) hk (by rw [oldFrom, if_pos (by simp_all)] at hI; exact hI))
            | (rw [← nI_succ j]; exact ih (j + 1) b _ _ (by omega) hk2 (by rw [oldFrom, if_neg (by simp_all)] at hI; exact hI))
        refine pg_iload h d_Shelf_oldest_54 rfl ?_
        refine pg_if_ne (tgt := 67) h d_Shelf_oldest_56 rfl (fun e56 => ?_) (fun e56 => ?_)
        · skip
          refine pg_aload h d_Shelf_oldest_67 rfl ?_
          refine pg_astore_n h d_Shelf_oldest_69 (Nat.le_of_ble_eq_true rfl) rfl rfl ?_
          refine pg_iinc (w := 1) h d_Shelf_oldest_70 rfl (by decide) (Nat.le_of_ble_eq_true rfl) rfl rfl ?_
          refine pg_goto (tgt := 9) h d_Shelf_oldest_73 rfl ?_
          first
            | exact absurd e56 (by decide)
            | exact absurd rfl e56
            | (rw [← nI_succ j]; exact ih (j + 1) (8 + j) _ _ (by omega) hk (by rw [oldFrom, if_pos (by simp_all)] at hI; exact hI))
            | (rw [← nI_succ j]; exact ih (j + 1) b _ _ (by omega) hk2 (by rw [oldFrom, if_neg (by simp_all)] at hI; exact hI))
        refine pg_aload_n h d_Shelf_oldest_59 rfl ?_
        refine pf_get h ok d_Shelf_oldest_60 f_Shelf_26 (by first | rfl | exact hk | exact hk2 | exact dm12 _ | assumption) rfl rfl ?_
        refine pg_iload_n h d_Shelf_oldest_63 rfl ?_
        refine pg_icmp_ne (tgt := 70) h d_Shelf_oldest_64 rfl (fun e64 => ?_) (fun e64 => ?_)
        · skip
          refine pg_iinc (w := 1) h d_Shelf_oldest_70 rfl (by decide) (Nat.le_of_ble_eq_true rfl) rfl rfl ?_
          refine pg_goto (tgt := 9) h d_Shelf_oldest_73 rfl ?_
          first
            | exact absurd e56 (by decide)
            | exact absurd rfl e56
            | (rw [← nI_succ j]; exact ih (j + 1) (8 + j) _ _ (by omega) hk (by rw [oldFrom, if_pos (by simp_all)] at hI; exact hI))
            | (rw [← nI_succ j]; exact ih (j + 1) b _ _ (by omega) hk2 (by rw [oldFrom, if_neg (by simp_all)] at hI; exact hI))
        refine pg_aload h d_Shelf_oldest_67 rfl ?_
        refine pg_astore_n h d_Shelf_oldest_69 (Nat.le_of_ble_eq_true rfl) rfl rfl ?_
        refine pg_iinc (w := 1) h d_Shelf_oldest_70 rfl (by decide) (Nat.le_of_ble_eq_true rfl) rfl rfl ?_
        refine pg_goto (tgt := 9) h d_Shelf_oldest_73 rfl ?_
        first
          | exact absurd e56 (by decide)
          | exact absurd rfl e56
          | (rw [← nI_succ j]; exact ih (j + 1) (8 + j) _ _ (by omega) hk (by rw [oldFrom, if_pos (by simp_all)] at hI; exact hI))
          | (rw [← nI_succ j]; exact ih (j + 1) b _ _ (by omega) hk2 (by rw [oldFrom, if_neg (by simp_all)] at hI; exact hI))
      refine pg_iconst (v := 1) h d_Shelf_oldest_38 (by decide) ?_
      refine pg_goto (tgt := 43) h d_Shelf_oldest_39 rfl ?_
      refine pg_istore h d_Shelf_oldest_43 (Nat.le_of_ble_eq_true rfl) rfl rfl ?_
      refine pg_aload h d_Shelf_oldest_45 rfl ?_
      refine pf_get h ok d_Shelf_oldest_47 f_Shelf_26 (by first | rfl | exact hk | exact hk2 | exact dm12 _ | assumption) rfl rfl ?_
      refine pg_iload_n h d_Shelf_oldest_50 rfl ?_
      refine pg_icmp_eq (tgt := 70) h d_Shelf_oldest_51 rfl (fun e51 => ?_) (fun e51 => ?_)
      · skip
        refine pg_iinc (w := 1) h d_Shelf_oldest_70 rfl (by decide) (Nat.le_of_ble_eq_true rfl) rfl rfl ?_
        refine pg_goto (tgt := 9) h d_Shelf_oldest_73 rfl ?_
        first
          | exact absurd e56 (by decide)
          | exact absurd rfl e56
          | (rw [← nI_succ j]; exact ih (j + 1) (8 + j) _ _ (by omega) hk (by rw [oldFrom, if_pos (by simp_all)] at hI; exact hI))
          | (rw [← nI_succ j]; exact ih (j + 1) b _ _ (by omega) hk2 (by rw [oldFrom, if_neg (by simp_all)] at hI; exact hI))
      refine pg_iload h d_Shelf_oldest_54 rfl ?_
      refine pg_if_ne (tgt := 67) h d_Shelf_oldest_56 rfl (fun e56 => ?_) (fun e56 => ?_)
      · skip
        refine pg_aload h d_Shelf_oldest_67 rfl ?_
        refine pg_astore_n h d_Shelf_oldest_69 (Nat.le_of_ble_eq_true rfl) rfl rfl ?_
        refine pg_iinc (w := 1) h d_Shelf_oldest_70 rfl (by decide) (Nat.le_of_ble_eq_true rfl) rfl rfl ?_
        refine pg_goto (tgt := 9) h d_Shelf_oldest_73 rfl ?_
        first
          | exact absurd e56 (by decide)
          | exact absurd rfl e56
          | (rw [← nI_succ j]; exact ih (j + 1) (8 + j) _ _ (by omega) hk (by rw [oldFrom, if_pos (by simp_all)] at hI; exact hI))
          | (rw [← nI_succ j]; exact ih (j + 1) b _ _ (by omega) hk2 (by rw [oldFrom, if_neg (by simp_all)] at hI; exact hI))
      refine pg_aload_n h d_Shelf_oldest_59 rfl ?_
      refine pf_get h ok d_Shelf_oldest_60 f_Shelf_26 (by first | rfl | exact hk | exact hk2 | exact dm12 _ | assumption) rfl rfl ?_
      refine pg_iload_n h d_Shelf_oldest_63 rfl ?_
      refine pg_icmp_ne (tgt := 70) h d_Shelf_oldest_64 rfl (fun e64 => ?_) (fun e64 => ?_)
      · skip
        refine pg_iinc (w := 1) h d_Shelf_oldest_70 rfl (by decide) (Nat.le_of_ble_eq_true rfl) rfl rfl ?_
        refine pg_goto (tgt := 9) h d_Shelf_oldest_73 rfl ?_
        first
          | exact absurd e56 (by decide)
          | exact absurd rfl e56
          | (rw [← nI_succ j]; exact ih (j + 1) (8 + j) _ _ (by omega) hk (by rw [oldFrom, if_pos (by simp_all)] at hI; exact hI))
          | (rw [← nI_succ j]; exact ih (j + 1) b _ _ (by omega) hk2 (by rw [oldFrom, if_neg (by simp_all)] at hI; exact hI))
      refine pg_aload h d_Shelf_oldest_67 rfl ?_
      refine pg_astore_n h d_Shelf_oldest_69 (Nat.le_of_ble_eq_true rfl) rfl rfl ?_
      refine pg_iinc (w := 1) h d_Shelf_oldest_70 rfl (by decide) (Nat.le_of_ble_eq_true rfl) rfl rfl ?_
      refine pg_goto (tgt := 9) h d_Shelf_oldest_73 rfl ?_
      first
        | exact absurd e56 (by decide)
        | exact absurd rfl e56
        | (rw [← nI_succ j]; exact ih (j + 1) (8 + j) _ _ (by omega) hk (by rw [oldFrom, if_pos (by simp_all)] at hI; exact hI))
        | (rw [← nI_succ j]; exact ih (j + 1) b _ _ (by omega) hk2 (by rw [oldFrom, if_neg (by simp_all)] at hI; exact hI))
  refine pg_aload_n h d_Shelf_oldest_0 rfl ?_
  refine pf_get h ok d_Shelf_oldest_1 f_Shelf_17 (by first | rfl | exact hk | exact hk2 | exact dm12 _ | assumption) rfl rfl ?_
  refine pg_iconst (v := 0) h d_Shelf_oldest_4 (by decide) ?_
  refine pf_ald h ok d_Shelf_oldest_5 (by first | rfl | exact hk | exact hk2 | exact dm12 _ | assumption) rfl (pg_ixN (j := 0) rfl (by omega) (by omega)) rfl ?_
  refine pg_astore_n h d_Shelf_oldest_6 (Nat.le_of_ble_eq_true rfl) rfl rfl ?_
  refine pg_iconst (v := 1) h d_Shelf_oldest_7 (by decide) ?_
  refine pg_istore_n h d_Shelf_oldest_8 (Nat.le_of_ble_eq_true rfl) rfl rfl ?_
  exact loop (w.2.2.1 - 1) 1 8 none none (by omega) (dmS (j := 0) (by omega)) rfl

def freFrom (S : pf_S) : Nat → Nat → Option Nat
  | 0, _ => none
  | n + 1, j => if nb (S 14 (8 + j) 0) = 0 then some (8 + j) else freFrom S n (j + 1)
/-- Shelf.placeFor -/
def plcF (S : pf_S) (P : Nat) (num wt : Int32) : Nat := match fndF S P num with
  | some k => k
  | none => match freFrom S P 0 with
    | some k => k
    | none => oldF S P wt
theorem freFrom_some {S : pf_S} : ∀ {n j k : Nat}, freFrom S n j = some k → 8 + j ≤ k ∧ k < 8 + j + n ∧ nb (S 14 k 0) = 0 := by
  intro n
  induction n with
  | zero => intro j k h; simp [freFrom] at h
  | succ n ih =>
    intro j k h
    rw [freFrom] at h
    by_cases h1 : nb (S 14 (8 + j) 0) = 0
    · rw [if_pos h1] at h
      cases h
      exact ⟨by omega, by omega, h1⟩
    · rw [if_neg h1] at h
      obtain ⟨a, b, c⟩ := ih h
      exact ⟨by omega, by omega, c⟩
theorem plcF_in {S : pf_S} {P : Nat} {num wt : Int32} (hP : 1 ≤ P) : 8 ≤ plcF S P num wt ∧ plcF S P num wt < 8 + P := by
  unfold plcF
  cases h : fndF S P num with
  | some k =>
    obtain ⟨a, b, -⟩ := fndF_some h
    exact ⟨a, b⟩
  | none =>
    cases h2 : freFrom S P 0 with
    | some k =>
      obtain ⟨a, b, -⟩ := freFrom_some h2
      exact ⟨by simp; omega, by simp; omega⟩
    | none => exact oldFrom_lt (by omega) (by omega) (by omega)

set_option maxRecDepth 100000 in
set_option maxHeartbeats 4000000 in
theorem c_Shelf_placeFor (w : pf_W) (ok : pf_ok w) (S : pf_S) (hw : 1 ≤ w.2.2.1 ∧ w.2.2.1 ≤ 4) (num wt : Int32) : pf_C w y_Shelf_placeFor b_Shelf_placeFor 5 (some (.object "PageReceiver$Page")) 1 25 [.ref (w.2.1 4 0), .int num, .int wt] S (some (.ref (w.2.1 14 (plcF S w.2.2.1 num wt)))) (S) := by
  refine pf_enter (by decide) (Nat.le_of_ble_eq_true rfl) (lv0 := [some (.ref (w.2.1 4 0)), some (.int num), some (.int wt), none, none]) rfl (fun κ h => ?_)
  cases hf : fndF S w.2.2.1 num with
  | some k =>
    have hk : pf_dm w.2.2.1 14 k = true := dmK (fndF_some hf).2.1
    refine pg_aload_n h d_Shelf_placeFor_0 rfl ?_
    refine pg_iload_n h d_Shelf_placeFor_1 rfl ?_
    refine pf_cV h ok d_Shelf_placeFor_2 m_Shelf_find l_Shelf_41 (c_find_some w ok S hw num hf) cn_Shelf (by first | rfl | exact hk | exact hk2 | exact dm12 _ | assumption) rfl rfl rfl (Nat.le_of_ble_eq_true rfl) ⟨(Nat.le_of_ble_eq_true rfl), (Nat.le_of_ble_eq_true rfl)⟩ ⟨Nat.le_refl _, Nat.le_refl _⟩ ?_
    refine pg_astore_n h d_Shelf_placeFor_5 (Nat.le_of_ble_eq_true rfl) rfl rfl ?_
    refine pg_aload_n h d_Shelf_placeFor_6 rfl ?_
    refine pg_ifnull h d_Shelf_placeFor_7 ?_
    refine pg_aload_n h d_Shelf_placeFor_10 rfl ?_
    exact pf_aret h d_Shelf_placeFor_11 (by first | exact Or.inl rfl | exact Or.inr ⟨_, rfl⟩) (by simp only [plcF, hf]) rfl
  | none =>
    have loop : ∀ (n j : Nat), j + n = w.2.2.1 → freFrom S n j = freFrom S w.2.2.1 0 → pg_G κ w.1 5 0 0 (pg_Q κ w.1 (fun r' H => r' = (some (.ref (w.2.1 14 (plcF S w.2.2.1 num wt)))) ∧ pf_P w (S) H) 0 0) (pf_P w (S)) 15 [some (.ref (w.2.1 4 0)), some (.int num), some (.int wt), some .null, some (.int (nI j))] [] := by
      intro n
      induction n with
      | zero =>
        intro j hj hI
        have hj : j = w.2.2.1 := by omega
        subst hj
        refine pg_iload h d_Shelf_placeFor_15 rfl ?_
        refine pg_aload_n h d_Shelf_placeFor_17 rfl ?_
        refine pf_get h ok d_Shelf_placeFor_18 f_Shelf_17 (by first | rfl | exact hk | exact hk2 | exact dm12 _ | assumption) rfl rfl ?_
        refine pf_len (t0 := 2) (v := nI w.2.2.1) h ok d_Shelf_placeFor_21 (by first | rfl | exact hk | exact hk2 | exact dm12 _ | assumption) rfl rfl rfl ?_
        refine pg_icmp_ge (tgt := 52) h d_Shelf_placeFor_22 rfl (fun e22 => ?_) (fun e22 => absurd e22 (fun e => e (Int32.le_refl _)))
        refine pg_aload_n h d_Shelf_placeFor_52 rfl ?_
        refine pg_iload_n h d_Shelf_placeFor_53 rfl ?_
        refine pf_cV h ok d_Shelf_placeFor_54 m_Shelf_oldest l_Shelf_45 (c_Shelf_oldest w ok S hw wt) cn_Shelf (by first | rfl | exact hk | exact hk2 | exact dm12 _ | assumption) rfl rfl rfl (Nat.le_of_ble_eq_true rfl) ⟨(Nat.le_of_ble_eq_true rfl), (Nat.le_of_ble_eq_true rfl)⟩ ⟨Nat.le_refl _, Nat.le_refl _⟩ ?_
        exact pf_aret h d_Shelf_placeFor_57 (by first | exact Or.inl rfl | exact Or.inr ⟨_, rfl⟩) (by simp only [plcF, hf, ← hI, freFrom]) rfl
      | succ n ih =>
        intro j hj hI
        have hj2 : j < w.2.2.1 := by omega
        have hk := dmS hj2
        rw [freFrom] at hI
        refine pg_iload h d_Shelf_placeFor_15 rfl ?_
        refine pg_aload_n h d_Shelf_placeFor_17 rfl ?_
        refine pf_get h ok d_Shelf_placeFor_18 f_Shelf_17 (by first | rfl | exact hk | exact hk2 | exact dm12 _ | assumption) rfl rfl ?_
        refine pf_len (t0 := 2) (v := nI w.2.2.1) h ok d_Shelf_placeFor_21 (by first | rfl | exact hk | exact hk2 | exact dm12 _ | assumption) rfl rfl rfl ?_
        refine pg_icmp_ge (tgt := 52) h d_Shelf_placeFor_22 rfl (fun e22 => absurd e22 (nI_ge hj2 (by omega))) (fun e22 => ?_)
        refine pg_aload_n h d_Shelf_placeFor_25 rfl ?_
        refine pf_get h ok d_Shelf_placeFor_26 f_Shelf_17 (by first | rfl | exact hk | exact hk2 | exact dm12 _ | assumption) rfl rfl ?_
        refine pg_iload h d_Shelf_placeFor_29 rfl ?_
        refine pf_ald h ok d_Shelf_placeFor_31 (by first | rfl | exact hk | exact hk2 | exact dm12 _ | assumption) rfl (pg_ixN rfl hj2 (by omega)) rfl ?_
        refine pf_get h ok d_Shelf_placeFor_32 f_Shelf_22 (by first | rfl | exact hk | exact hk2 | exact dm12 _ | assumption) rfl rfl ?_
        refine pg_if_ne (tgt := 46) h d_Shelf_placeFor_35 rfl (fun e35 => ?_) (fun e35 => ?_)
        · skip
          refine pg_iinc (w := 1) h d_Shelf_placeFor_46 rfl (by decide) (Nat.le_of_ble_eq_true rfl) rfl rfl ?_
          refine pg_goto (tgt := 15) h d_Shelf_placeFor_49 rfl ?_
          rw [← nI_succ j]
          exact ih (j + 1) (by omega) (by rw [if_neg e35] at hI; exact hI)
        refine pg_aload_n h d_Shelf_placeFor_38 rfl ?_
        refine pf_get h ok d_Shelf_placeFor_39 f_Shelf_17 (by first | rfl | exact hk | exact hk2 | exact dm12 _ | assumption) rfl rfl ?_
        refine pg_iload h d_Shelf_placeFor_42 rfl ?_
        refine pf_ald h ok d_Shelf_placeFor_44 (by first | rfl | exact hk | exact hk2 | exact dm12 _ | assumption) rfl (pg_ixN rfl hj2 (by omega)) rfl ?_
        exact pf_aret h d_Shelf_placeFor_45 (by first | exact Or.inl rfl | exact Or.inr ⟨_, rfl⟩) (by rw [if_pos e35] at hI; simp only [plcF, hf, ← hI]) rfl
    refine pg_aload_n h d_Shelf_placeFor_0 rfl ?_
    refine pg_iload_n h d_Shelf_placeFor_1 rfl ?_
    refine pf_cV h ok d_Shelf_placeFor_2 m_Shelf_find l_Shelf_41 (c_find_none w ok S hw num hf) cn_Shelf (by first | rfl | exact hk | exact hk2 | exact dm12 _ | assumption) rfl rfl rfl (Nat.le_of_ble_eq_true rfl) ⟨(Nat.le_of_ble_eq_true rfl), (Nat.le_of_ble_eq_true rfl)⟩ ⟨Nat.le_refl _, Nat.le_refl _⟩ ?_
    refine pg_astore_nN h d_Shelf_placeFor_5 (Nat.le_of_ble_eq_true rfl) rfl rfl ?_
    refine pg_aload_nN h d_Shelf_placeFor_6 rfl ?_
    refine pg_ifnullN (tgt := 12) h d_Shelf_placeFor_7 rfl ?_
    refine pg_iconst (v := 0) h d_Shelf_placeFor_12 (by decide) ?_
    refine pg_istore h d_Shelf_placeFor_13 (Nat.le_of_ble_eq_true rfl) rfl rfl ?_
    exact loop w.2.2.1 0 (by omega) rfl

/-- Shelf.complete of page m -/
def cmpF (S : pf_S) (P m : Nat) (wt : Int32) : pf_S := pf_st (pf_st (pf_st (cpP S m (plcF S P (S 14 m 1) wt)) 14 (plcF S P (S 14 m 1) wt) 4 (S 1 0 5)) 1 0 5 (S 1 0 5 + 1)) 14 m 0 0

set_option maxRecDepth 100000 in
set_option maxHeartbeats 4000000 in
theorem c_Shelf_complete (w : pf_W) (ok : pf_ok w) (S : pf_S) (hw : 1 ≤ w.2.2.1 ∧ w.2.2.1 ≤ 4) (m : Nat) (hm : m < 8) (wt : Int32) : pf_C w y_Shelf_complete b_Shelf_complete 4 none 2 61 [.ref (w.2.1 4 0), .ref (w.2.1 14 m), .int wt] S (none) (cmpF S w.2.2.1 m wt) := by
  refine pf_enter (by decide) (Nat.le_of_ble_eq_true rfl) (lv0 := [some (.ref (w.2.1 4 0)), some (.ref (w.2.1 14 m)), some (.int wt), none]) rfl (fun κ h => ?_)
  have hk : pf_dm w.2.2.1 14 m = true := dmC hm
  have hp := plcF_in (S := S) (num := S 14 m 1) (wt := wt) hw.1
  have hk2 : pf_dm w.2.2.1 14 (plcF S w.2.2.1 (S 14 m 1) wt) = true := dmK hp.2
  refine pg_aload_n h d_Shelf_complete_0 rfl ?_
  refine pg_aload_n h d_Shelf_complete_1 rfl ?_
  refine pf_get h ok d_Shelf_complete_2 f_Shelf_26 (by first | rfl | exact hk | exact hk2 | exact dm12 _ | assumption) rfl rfl ?_
  refine pg_iload_n h d_Shelf_complete_5 rfl ?_
  refine pf_cV h ok d_Shelf_complete_6 m_Shelf_placeFor l_Shelf_30 (c_Shelf_placeFor w ok S hw (S 14 m 1) wt) cn_Shelf (by first | rfl | exact hk | exact hk2 | exact dm12 _ | assumption) rfl rfl rfl (Nat.le_of_ble_eq_true rfl) ⟨(Nat.le_of_ble_eq_true rfl), (Nat.le_of_ble_eq_true rfl)⟩ ⟨Nat.le_refl _, Nat.le_refl _⟩ ?_
  refine pg_astore_n h d_Shelf_complete_9 (Nat.le_of_ble_eq_true rfl) rfl rfl ?_
  refine pg_aload_n h d_Shelf_complete_10 rfl ?_
  refine pg_aload_n h d_Shelf_complete_11 rfl ?_
  refine pf_cV0 h ok d_Shelf_complete_12 m_Page_copyFrom l_Shelf_34 (c_Page_copyFrom w ok S _ hk2 m hk (by omega)) cn_Page (by first | rfl | exact hk | exact hk2 | exact dm12 _ | assumption) rfl rfl rfl (Nat.le_of_ble_eq_true rfl) ⟨(Nat.le_of_ble_eq_true rfl), (Nat.le_of_ble_eq_true rfl)⟩ ⟨Nat.le_refl _, Nat.le_refl _⟩ ?_
  refine pg_aload_n h d_Shelf_complete_15 rfl ?_
  refine pg_aload_n h d_Shelf_complete_16 rfl ?_
  refine pf_get h ok d_Shelf_complete_17 f_Shelf_9 (by first | rfl | exact hk | exact hk2 | exact dm12 _ | assumption) rfl rfl ?_
  refine pg_iconst (v := 5) h d_Shelf_complete_20 (by decide) ?_
  refine pf_ild h ok d_Shelf_complete_21 (by first | rfl | exact hk | exact hk2 | exact dm12 _ | assumption) rfl (pg_ixN (j := 5) rfl (by decide) (by decide)) ?_
  refine pf_puti h ok d_Shelf_complete_22 fw_Shelf_38 (by first | rfl | exact hk | exact hk2 | exact dm12 _ | assumption) rfl (Nat.le_of_ble_eq_true rfl) rfl ?_
  refine pg_aload_n h d_Shelf_complete_25 rfl ?_
  refine pf_get h ok d_Shelf_complete_26 f_Shelf_9 (by first | rfl | exact hk | exact hk2 | exact dm12 _ | assumption) rfl rfl ?_
  refine pg_iconst (v := 5) h d_Shelf_complete_29 (by decide) ?_
  refine pg_dup2 h d_Shelf_complete_30 rfl rfl ?_
  refine pf_ild h ok d_Shelf_complete_31 (by first | rfl | exact hk | exact hk2 | exact dm12 _ | assumption) rfl (pg_ixN (j := 5) rfl (by decide) (by decide)) ?_
  refine pg_iconst (v := 1) h d_Shelf_complete_32 (by decide) ?_
  refine pg_iadd h d_Shelf_complete_33 ?_
  refine pf_ist h ok d_Shelf_complete_34 (by first | rfl | exact hk | exact hk2 | exact dm12 _ | assumption) (fun _ => rfl) (pg_ixN (j := 5) rfl (by decide) (by decide)) ?_
  refine pg_aload_n h d_Shelf_complete_35 rfl ?_
  refine pg_iconst (v := 0) h d_Shelf_complete_36 (by decide) ?_
  refine pf_putz 0 h ok d_Shelf_complete_37 fw_Shelf_22 (by first | rfl | exact hk | exact hk2 | exact dm12 _ | assumption) rfl (Nat.le_of_ble_eq_true rfl) rfl ?_
  exact pf_vret h d_Shelf_complete_40 (by simp only [cmpF, pf_st_at, cpP]; simp)
