/-! The reference: fetch. -/
set_option maxRecDepth 100000 in
set_option maxHeartbeats 4000000 in
theorem c_keptE (w : pf_W) (ok : pf_ok w) (A S : pf_S) (z : Int32) (hw : 1 ≤ w.2.2.1 ∧ w.2.2.1 ≤ 4) (hR : Rm w.2.2.1 z A S) (num : Int32) : pf_C w y_Mod_keptAt b_Mod_keptAt 3 (some .int) 0 0 [.ref (w.2.1 20 0), .int num] S (some (.int (kpV (fndF A w.2.2.1 num)))) S := by
  refine pf_enter (by decide) (Nat.le_of_ble_eq_true rfl) (lv0 := [some (.ref (w.2.1 20 0)), some (.int num), none]) rfl (fun κ h => ?_)
  have loop : ∀ (n j : Nat), j + n = w.2.2.1 → fndFrom A num n j = fndF A w.2.2.1 num → pg_G κ w.1 3 0 0 (pg_Q κ w.1 (fun r' H => r' = (some (.int (kpV (fndF A w.2.2.1 num)))) ∧ pf_P w (S) H) 0 0) (pf_P w (S)) 3 [some (.ref (w.2.1 20 0)), some (.int num), some (.int (nI (8 + j)))] [] := by
    intro n
    induction n with
    | zero =>
      intro j hj hI
      have hj : j = w.2.2.1 := by omega
      subst hj
      refine pg_iload_n h d_Mod_keptAt_3 rfl ?_
      refine pg_bipush (v := 8) h d_Mod_keptAt_4 (by decide) ?_
      refine pg_aload_n h d_Mod_keptAt_6 rfl ?_
      refine pf_get h ok d_Mod_keptAt_7 f_Mod_70 (by first | rfl | exact hk | exact hk2 | exact dm12 _ | assumption) rfl rfl ?_
      rw [hR.1.1]
      refine pg_iadd h d_Mod_keptAt_10 ?_
      rw [show (8 : Int32) + nI w.2.2.1 = nI (8 + w.2.2.1) from nI_add 8 w.2.2.1]
      refine pg_icmp_ge (tgt := 41) h d_Mod_keptAt_11 rfl (fun e11 => ?_) (fun e11 => absurd e11 (fun e => e (Int32.le_refl _)))
      refine pg_iconst (v := (-1)) h d_Mod_keptAt_41 (by decide) ?_
      exact pf_iret h d_Mod_keptAt_42 rfl (by rw [← hI]; rfl) rfl
    | succ n ih =>
      intro j hj hI
      have hj2 : j < w.2.2.1 := by omega
      have hp := hR.2.2.2.2.2 (8 + j) (Or.inl (by omega))
      rw [fndFrom] at hI
      refine pg_iload_n h d_Mod_keptAt_3 rfl ?_
      refine pg_bipush (v := 8) h d_Mod_keptAt_4 (by decide) ?_
      refine pg_aload_n h d_Mod_keptAt_6 rfl ?_
      refine pf_get h ok d_Mod_keptAt_7 f_Mod_70 (by first | rfl | exact hk | exact hk2 | exact dm12 _ | assumption) rfl rfl ?_
      rw [hR.1.1]
      refine pg_iadd h d_Mod_keptAt_10 ?_
      rw [show (8 : Int32) + nI w.2.2.1 = nI (8 + w.2.2.1) from nI_add 8 w.2.2.1]
      refine pg_icmp_ge (tgt := 41) h d_Mod_keptAt_11 rfl (fun e11 => absurd e11 (nI_ge (show 8 + j < 8 + w.2.2.1 by omega) (by omega))) (fun e11 => ?_)
      refine pg_aload_n h d_Mod_keptAt_14 rfl ?_
      refine pf_get h ok d_Mod_keptAt_15 f_Mod_7 (by first | rfl | exact hk | exact hk2 | exact dm12 _ | assumption) rfl rfl ?_
      refine pg_iload_n h d_Mod_keptAt_18 rfl ?_
      refine pf_zld h ok d_Mod_keptAt_19 (by first | rfl | exact hk | exact hk2 | exact dm12 _ | assumption) rfl (pg_ixN rfl (show 8 + j < 13 by omega) (by decide)) ?_
      rw [hp.1]
      refine pg_if_eq (tgt := 35) h d_Mod_keptAt_20 rfl (fun e20 => ?_) (fun e20 => ?_)
      · skip
        refine pg_iinc (w := 1) h d_Mod_keptAt_35 rfl (by decide) (Nat.le_of_ble_eq_true rfl) rfl rfl ?_
        refine pg_goto (tgt := 3) h d_Mod_keptAt_38 rfl ?_
        rw [← nI_succ (8 + j)]
        first | exact ih (j + 1) (by omega) (by rw [if_pos e20] at hI; exact hI) | exact ih (j + 1) (by omega) (by rw [if_neg e20, if_pos e30] at hI; exact hI)
      refine pg_aload_n h d_Mod_keptAt_23 rfl ?_
      refine pf_get h ok d_Mod_keptAt_24 f_Mod_13 (by first | rfl | exact hk | exact hk2 | exact dm12 _ | assumption) rfl rfl ?_
      refine pg_iload_n h d_Mod_keptAt_27 rfl ?_
      refine pf_ild h ok d_Mod_keptAt_28 (by first | rfl | exact hk | exact hk2 | exact dm12 _ | assumption) rfl (pg_ixN rfl (show 8 + j < 13 by omega) (by decide)) ?_
      rw [hp.2.1]
      refine pg_iload_n h d_Mod_keptAt_29 rfl ?_
      refine pg_icmp_ne (tgt := 35) h d_Mod_keptAt_30 rfl (fun e30 => ?_) (fun e30 => ?_)
      · skip
        refine pg_iinc (w := 1) h d_Mod_keptAt_35 rfl (by decide) (Nat.le_of_ble_eq_true rfl) rfl rfl ?_
        refine pg_goto (tgt := 3) h d_Mod_keptAt_38 rfl ?_
        rw [← nI_succ (8 + j)]
        first | exact ih (j + 1) (by omega) (by rw [if_pos e20] at hI; exact hI) | exact ih (j + 1) (by omega) (by rw [if_neg e20, if_pos e30] at hI; exact hI)
      refine pg_iload_n h d_Mod_keptAt_33 rfl ?_
      exact pf_iret h d_Mod_keptAt_34 rfl (by rw [if_neg e20, if_neg (fun q => q e30)] at hI; rw [← hI]; rfl) rfl
  refine pg_bipush (v := 8) h d_Mod_keptAt_0 (by decide) ?_
  refine pg_istore_n h d_Mod_keptAt_2 (Nat.le_of_ble_eq_true rfl) rfl rfl ?_
  exact loop w.2.2.1 0 (by omega) rfl

set_option maxRecDepth 100000 in
set_option maxHeartbeats 4000000 in
theorem c_shownE (w : pf_W) (ok : pf_ok w) (A S : pf_S) (z : Int32) (hw : 1 ≤ w.2.2.1 ∧ w.2.2.1 ≤ 4) (hR : Rm w.2.2.1 z A S)  : pf_C w y_Mod_shownAt b_Mod_shownAt 1 (some .int) 1 22 [.ref (w.2.1 20 0)] S (some (.int (kpV (shnF A w.2.2.1)))) S := by
  refine pf_enter (by decide) (Nat.le_of_ble_eq_true rfl) (lv0 := [some (.ref (w.2.1 20 0))]) rfl (fun κ h => ?_)
  refine pg_aload_n h d_Mod_shownAt_0 rfl ?_
  refine pf_get h ok d_Mod_shownAt_1 f_Mod_7 (by first | rfl | exact hk | exact hk2 | exact dm12 _ | assumption) rfl rfl ?_
  refine pg_bipush (v := 12) h d_Mod_shownAt_4 (by decide) ?_
  refine pf_zld h ok d_Mod_shownAt_6 (by first | rfl | exact hk | exact hk2 | exact dm12 _ | assumption) rfl (pg_ixN (j := 12) rfl (by decide) (by decide)) ?_
  rw [(hR.2.2.2.2.2 12 (Or.inr rfl)).1]
  refine pg_if_eq (tgt := 15) h d_Mod_shownAt_7 rfl (fun e7 => ?_) (fun e7 => ?_)
  · skip
    refine pg_aload_n h d_Mod_shownAt_15 rfl ?_
    refine pg_aload_n h d_Mod_shownAt_16 rfl ?_
    refine pf_get h ok d_Mod_shownAt_17 f_Mod_44 (by first | rfl | exact hk | exact hk2 | exact dm12 _ | assumption) rfl rfl ?_
    rw [hR.2.2.2.1.1]
    refine pf_cV h ok d_Mod_shownAt_20 m_Mod_keptAt l_Mod_80 (c_keptE w ok A S z hw hR (A 6 0 2)) cn_Mod (by first | rfl | exact hk | exact hk2 | exact dm12 _ | assumption) rfl rfl rfl (Nat.le_of_ble_eq_true rfl) ⟨(Nat.le_of_ble_eq_true rfl), (Nat.le_of_ble_eq_true rfl)⟩ ⟨Nat.le_refl _, Nat.le_refl _⟩ ?_
    exact pf_iret h d_Mod_shownAt_23 rfl (by first | (rw [shnF, if_neg e7]; rfl) | rw [shnF, if_pos e7]) rfl
  refine pg_bipush (v := 12) h d_Mod_shownAt_10 (by decide) ?_
  refine pg_goto (tgt := 23) h d_Mod_shownAt_12 rfl ?_
  exact pf_iret h d_Mod_shownAt_23 rfl (by first | (rw [shnF, if_neg e7]; rfl) | rw [shnF, if_pos e7]) rfl

/-- the wanted page's number -/
def WtI (A : pf_S) : Prop := ∃ n : Nat, n < 2048 ∧ A 6 0 2 = nI n
/-- the head letters of both sides -/
def mh1 (x : Int32) : Int32 := if 256 ≤ x then 48 + x / 256 else 56
set_option maxRecDepth 100000 in
theorem hd_all : ∀ n, n < 2048 → (mh1 (nI n) = dgL (if nI n / 256 - nI n / 256 / 8 * 8 = 0 then 8 else nI n / 256 - nI n / 256 / 8 * 8) ∧ sgV (nI n / 16 - nI n / 16 / 16 * 16) = dgL (nI n / 16 - nI n / 16 / 16 * 16) ∧ sgV (nI n - nI n / 16 * 16) = dgL (nI n - nI n / 16 * 16)) := by decide +kernel
/-- what fetch holds of the letters of row r -/
def ft1 (A : pf_S) (o : Option Nat) (r x : Nat) : Int32 := match o with
  | none => if r = 0 then A 10 0 x else 32
  | some k => A 15 k (r * 20 + x)
def ft2 (A : pf_S) (o : Option Nat) (r x : Nat) : Int32 := match o with
  | none => 0
  | some k => A 16 k (r * 20 + x)
/-- the first j cells and covers are fetched -/
def ftF (A : pf_S) (o : Option Nat) (r : Nat) (F : Nat → Nat → Int32) (j : Nat) : Nat → Nat → Int32 := fun a x => if a = 32 ∧ x < j then ft1 A o r x else if a = 33 ∧ x < j then ft2 A o r x else F a x
theorem ftF_0 (A : pf_S) (o : Option Nat) (r : Nat) (F : Nat → Nat → Int32) : ftF A o r F 0 = F := by
  funext a x
  simp [ftF]
theorem ftF_s (A : pf_S) (o : Option Nat) (r : Nat) (F : Nat → Nat → Int32) (j : Nat) : (fun a => if a = 33 then upd ((fun a => if a = 32 then upd (ftF A o r F j 32) j (ft1 A o r j) else ftF A o r F j a) 33) j (ft2 A o r j) else (fun a => if a = 32 then upd (ftF A o r F j 32) j (ft1 A o r j) else ftF A o r F j a) a) = ftF A o r F (j + 1) := by
  funext a x
  by_cases h3 : a = 33
  · subst h3
    by_cases hx : x = j
    · subst hx
      simp [upd, ftF]
    · have e : x < j + 1 ↔ x < j := by omega
      simp [upd, ftF, hx, e]
  · by_cases h2 : a = 32
    · subst h2
      by_cases hx : x = j
      · subst hx
        simp [upd, ftF]
      · have e : x < j + 1 ↔ x < j := by omega
        simp [upd, ftF, hx, e]
    · simp [h3, h2, ftF]
/-- .. and of row 0 the head is written over them -/
def fhF (F : Nat → Nat → Int32) (A : pf_S) (j : Nat) : Nat → Nat → Int32 := fun a x => if a = 32 ∧ x < 4 then hdV A (nI x) else if a = 32 ∧ x < j then 32 else if a = 33 ∧ x < j then 0 else F a x
def ftA (A : pf_S) (o : Option Nat) (r : Nat) (F : Nat → Nat → Int32) : Nat → Nat → Int32 := if r = 0 then fhF (ftF A o r F 20) A 8 else ftF A o r F 20
theorem ftA_32 (A : pf_S) (o : Option Nat) (r : Nat) (F : Nat → Nat → Int32) {x : Nat} (hx : x < 20) : ftA A o r F 32 x = ltV A o r x := by
  unfold ftA ltV
  by_cases hr : r = 0
  · rw [if_pos hr]
    by_cases h8 : x < 8
    · rw [if_pos ⟨hr, h8⟩]
      by_cases h4 : x < 4
      · simp [fhF, h4]
      · have e : hdV A (nI x) = 32 := by
          rcases (show x = 4 ∨ x = 5 ∨ x = 6 ∨ x = 7 by omega) with rfl | rfl | rfl | rfl <;> rfl
        rw [e]
        simp [fhF, h4, h8]
    · rw [if_neg (fun q => h8 q.2)]
      have h4 : ¬ x < 4 := by omega
      simp only [fhF, h4, h8, and_false, if_false]
      simp only [ftF, hx, and_self, if_true, ft1]
      rfl
  · rw [if_neg hr, if_neg (fun q => hr q.1)]
    simp only [ftF, hx, and_self, if_true, ft1]
    rfl
theorem ftA_33 (A : pf_S) (o : Option Nat) (r : Nat) (F : Nat → Nat → Int32) {x : Nat} (hx : x < 20) : ftA A o r F 33 x = ovV A o r x := by
  unfold ftA ovV
  by_cases hr : r = 0
  · rw [if_pos hr]
    by_cases h8 : x < 8
    · rw [if_pos ⟨hr, h8⟩]
      simp [fhF, h8]
    · rw [if_neg (fun q => h8 q.2)]
      simp [fhF, h8, ftF, hx, ft2]
      cases o <;> rfl
  · rw [if_neg hr, if_neg (fun q => hr q.1)]
    simp [ftF, hx, ft2]
    cases o <;> rfl
theorem ftA_hi (A : pf_S) (o : Option Nat) (r : Nat) (F : Nat → Nat → Int32) {a : Nat} (h : 34 ≤ a) : ftA A o r F a = F a := by
  funext x
  unfold ftA
  split
  · simp [fhF, ftF, show ¬ a = 32 by omega, show ¬ a = 33 by omega]
  · simp [ftF, show ¬ a = 32 by omega, show ¬ a = 33 by omega]
theorem fhF_s (F : Nat → Nat → Int32) (A : pf_S) (j : Nat) (hj : j < 8) : (fun a => if a = 33 then upd ((fun a => if a = 32 then upd (fhF F A j 32) j (if j < 4 then hdV A (nI j) else 32) else fhF F A j a) 33) j 0 else (fun a => if a = 32 then upd (fhF F A j 32) j (if j < 4 then hdV A (nI j) else 32) else fhF F A j a) a) = fhF F A (j + 1) := by
  funext a x
  by_cases h3 : a = 33
  · subst h3
    by_cases hx : x = j
    · subst hx
      simp [upd, fhF]
    · have e : x < j + 1 ↔ x < j := by omega
      simp [upd, fhF, hx, e]
  · by_cases h2 : a = 32
    · subst h2
      by_cases hx : x = j
      · subst hx
        by_cases h4 : x < 4
        · simp [upd, fhF, h4]
        · simp [upd, fhF, h4]
      · have e : x < j + 1 ↔ x < j := by omega
        simp [upd, fhF, hx, e]
    · simp [h3, h2, fhF]

theorem ik3 (k r j : Nat) : (160 : Int32) * nI k + 20 * nI r + nI j = nI (160 * k + (r * 20 + j)) := by
  rw [show (160 : Int32) * nI k = nI (160 * k) from pk_mul 160 k, show (20 : Int32) * nI r = nI (20 * r) from pk_mul 20 r, nI_add, nI_add, show 160 * k + 20 * r + j = 160 * k + (r * 20 + j) by omega]

theorem c_shownX (w : pf_W) (ok : pf_ok w) (A S : pf_S) (z : Int32) (g : Nat → Int32) (lg : Int32) (F : Nat → Nat → Int32) (hw : 1 ≤ w.2.2.1 ∧ w.2.2.1 ≤ 4) (hR : Rm w.2.2.1 z A S) : pf_C w y_Mod_shownAt b_Mod_shownAt 1 (some .int) 1 22 [.ref (w.2.1 20 0)] (MD S g lg F) (some (.int (kpV (shnF A w.2.2.1)))) (MD S g lg F) := c_shownE w ok A (MD S g lg F) z hw hR

set_option maxRecDepth 100000 in
set_option maxHeartbeats 4000000 in
theorem c_Mod_fetch (w : pf_W) (ok : pf_ok w) (A S : pf_S) (z : Int32) (g : Nat → Int32) (lg : Int32) (F : Nat → Nat → Int32) (hw : 1 ≤ w.2.2.1 ∧ w.2.2.1 ≤ 4) (hR : Rm w.2.2.1 z A S) (hwt : WtI A) (r : Nat) (hr : r < 8) : pf_C w y_Mod_fetch b_Mod_fetch 4 none 2 42 [.ref (w.2.1 20 0), .int (nI r)] (MD S g lg F) none (MD S g lg (ftA A (shnF A w.2.2.1) r F)) := by
  refine pf_enter (by decide) (Nat.le_of_ble_eq_true rfl) (lv0 := [some (.ref (w.2.1 20 0)), some (.int (nI r)), none, none]) rfl (fun κ h => ?_)
  obtain ⟨wn, hwn, ewn⟩ := hwt
  obtain ⟨hd1, hd2, hd3⟩ := hd_all wn hwn
  have ew : S 20 0 13 = nI wn := hR.2.2.2.1.1.trans ewn
  have er0 : (nI r = 0) = (r = 0) := propext (show nI r = nI 0 ↔ _ from nI_eq (by omega) (by decide))
  have loop2 : r = 0 → ∀ (n j : Nat) (X : Option Value), (∀ v, X = some v → v.category = 1) → j + n = 8 → pg_G κ w.1 4 0 0 (pg_Q κ w.1 (fun r' H => r' = none ∧ pf_P w (MD S g lg (ftA A (shnF A w.2.2.1) r F)) H) 0 0) (pf_P w (MD S g lg (fhF (ftF A (shnF A w.2.2.1) r F 20) A j))) 176 [some (.ref (w.2.1 20 0)), some (.int (nI r)), X, some (.int (nI j))] [] := by
    intro hr0 n
    induction n with
    | zero =>
      intro j X hX hj
      have hj : j = 8 := by omega
      subst hj
      refine pg_iload_n h d_Mod_fetch_176 rfl ?_
      refine pg_bipush (v := 8) h d_Mod_fetch_177 (by decide) ?_
      refine pg_icmp_ge (tgt := 217) h d_Mod_fetch_179 rfl (fun e179 => ?_) (fun e179 => absurd e179 (fun e => e (by decide)))
      exact pf_vret h d_Mod_fetch_217 (by rw [ftA, if_pos hr0])
    | succ n ih =>
      intro j X hX hj
      have hj2 : j < 8 := by omega
      have hj20 : j < 20 := by omega
      have q4 : ((4 : Int32) ≤ nI j) = (4 ≤ j) := propext (show nI 4 ≤ nI j ↔ _ from nI_leI (by decide) (by omega))
      refine pg_iload_n h d_Mod_fetch_176 rfl ?_
      refine pg_bipush (v := 8) h d_Mod_fetch_177 (by decide) ?_
      refine pg_icmp_ge (tgt := 217) h d_Mod_fetch_179 rfl (fun e179 => absurd e179 (nI_ge hj2 (by decide))) (fun e179 => ?_)
      refine pg_aload_n h d_Mod_fetch_182 rfl ?_
      refine pf_get h ok d_Mod_fetch_183 f_Mod_52 (by first | rfl | exact hk | exact hk2 | exact dm12 _ | assumption) rfl rfl ?_
      try simp only [MD25, MD26, MD27, MD28, MD29, MD30, MD31, MD32, MD33, MD34, MD35, MD36, MDF32, MDF33, MDF34, MDF35, MDF36, MDF37, MDs_25, MDs_26, MDs_27, MDs_28, MDs_29, MDs_30, MDs_31, MDs_32, MDs_33, MDs_34, MDs_35, MDs_36, MDs_0, MDs_11, MDs_13, MDs_14, MDs_15, MDs_16, MDs_17, MDs_18, MD_21, MD_22, MD_23, MD_24, MD_25, MD_26, MD_27, MD_28, MD_29, MD_30, MD_31, MD_32, MD_33, MD_34, MD_35, MD_36, MD_37]
      refine pg_iload_n h d_Mod_fetch_186 rfl ?_
      refine pg_iload_n h d_Mod_fetch_187 rfl ?_
      refine pg_iconst (v := 4) h d_Mod_fetch_188 (by decide) ?_
      refine pg_icmp_ge (tgt := 201) h d_Mod_fetch_189 rfl (fun e189 => ?_) (fun e189 => ?_)
      · skip
        refine pg_bipush (v := 32) h d_Mod_fetch_201 (by decide) ?_
        refine pf_ist h ok d_Mod_fetch_203 (by first | rfl | exact hk | exact hk2 | exact dm12 _ | assumption) (fun _ => rfl) (pg_ixN rfl hj20 (by decide)) ?_
        try simp only [MD25, MD26, MD27, MD28, MD29, MD30, MD31, MD32, MD33, MD34, MD35, MD36, MDF32, MDF33, MDF34, MDF35, MDF36, MDF37, MDs_25, MDs_26, MDs_27, MDs_28, MDs_29, MDs_30, MDs_31, MDs_32, MDs_33, MDs_34, MDs_35, MDs_36, MDs_0, MDs_11, MDs_13, MDs_14, MDs_15, MDs_16, MDs_17, MDs_18, MD_21, MD_22, MD_23, MD_24, MD_25, MD_26, MD_27, MD_28, MD_29, MD_30, MD_31, MD_32, MD_33, MD_34, MD_35, MD_36, MD_37]
        refine pg_aload_n h d_Mod_fetch_204 rfl ?_
        refine pf_get h ok d_Mod_fetch_205 f_Mod_55 (by first | rfl | exact hk | exact hk2 | exact dm12 _ | assumption) rfl rfl ?_
        try simp only [MD25, MD26, MD27, MD28, MD29, MD30, MD31, MD32, MD33, MD34, MD35, MD36, MDF32, MDF33, MDF34, MDF35, MDF36, MDF37, MDs_25, MDs_26, MDs_27, MDs_28, MDs_29, MDs_30, MDs_31, MDs_32, MDs_33, MDs_34, MDs_35, MDs_36, MDs_0, MDs_11, MDs_13, MDs_14, MDs_15, MDs_16, MDs_17, MDs_18, MD_21, MD_22, MD_23, MD_24, MD_25, MD_26, MD_27, MD_28, MD_29, MD_30, MD_31, MD_32, MD_33, MD_34, MD_35, MD_36, MD_37]
        refine pg_iload_n h d_Mod_fetch_208 rfl ?_
        refine pg_iconst (v := 0) h d_Mod_fetch_209 (by decide) ?_
        refine pf_ist h ok d_Mod_fetch_210 (by first | rfl | exact hk | exact hk2 | exact dm12 _ | assumption) (fun _ => rfl) (pg_ixN rfl hj20 (by decide)) ?_
        try simp only [MD25, MD26, MD27, MD28, MD29, MD30, MD31, MD32, MD33, MD34, MD35, MD36, MDF32, MDF33, MDF34, MDF35, MDF36, MDF37, MDs_25, MDs_26, MDs_27, MDs_28, MDs_29, MDs_30, MDs_31, MDs_32, MDs_33, MDs_34, MDs_35, MDs_36, MDs_0, MDs_11, MDs_13, MDs_14, MDs_15, MDs_16, MDs_17, MDs_18, MD_21, MD_22, MD_23, MD_24, MD_25, MD_26, MD_27, MD_28, MD_29, MD_30, MD_31, MD_32, MD_33, MD_34, MD_35, MD_36, MD_37]
        refine pg_iinc (w := 1) h d_Mod_fetch_211 rfl (by decide) (Nat.le_of_ble_eq_true rfl) (by cases X with | none => rfl | some v => simp [pg_no2, hX v rfl]) rfl ?_
        refine pg_goto (tgt := 176) h d_Mod_fetch_214 rfl ?_
        rw [← nI_succ j]
        have q := ih (j + 1) X hX (by omega)
        rw [← fhF_s _ _ _ hj2] at q
        first
          | (rw [q4] at e189; rw [if_neg (show ¬ j < 4 by omega)] at q; exact q)
          | (rw [q4] at e189; rw [if_pos (show j < 4 by omega)] at q; rw [show fhF (ftF A (shnF A w.2.2.1) r F 20) A j 32 j = hdV A (nI j) from by simp [fhF, show j < 4 by omega]]; exact q)
      refine pg_aload_n h d_Mod_fetch_192 rfl ?_
      refine pf_get h ok d_Mod_fetch_193 f_Mod_52 (by first | rfl | exact hk | exact hk2 | exact dm12 _ | assumption) rfl rfl ?_
      try simp only [MD25, MD26, MD27, MD28, MD29, MD30, MD31, MD32, MD33, MD34, MD35, MD36, MDF32, MDF33, MDF34, MDF35, MDF36, MDF37, MDs_25, MDs_26, MDs_27, MDs_28, MDs_29, MDs_30, MDs_31, MDs_32, MDs_33, MDs_34, MDs_35, MDs_36, MDs_0, MDs_11, MDs_13, MDs_14, MDs_15, MDs_16, MDs_17, MDs_18, MD_21, MD_22, MD_23, MD_24, MD_25, MD_26, MD_27, MD_28, MD_29, MD_30, MD_31, MD_32, MD_33, MD_34, MD_35, MD_36, MD_37]
      refine pg_iload_n h d_Mod_fetch_196 rfl ?_
      refine pf_ild h ok d_Mod_fetch_197 (by first | rfl | exact hk | exact hk2 | exact dm12 _ | assumption) rfl (pg_ixN rfl hj20 (by decide)) ?_
      try simp only [MD25, MD26, MD27, MD28, MD29, MD30, MD31, MD32, MD33, MD34, MD35, MD36, MDF32, MDF33, MDF34, MDF35, MDF36, MDF37, MDs_25, MDs_26, MDs_27, MDs_28, MDs_29, MDs_30, MDs_31, MDs_32, MDs_33, MDs_34, MDs_35, MDs_36, MDs_0, MDs_11, MDs_13, MDs_14, MDs_15, MDs_16, MDs_17, MDs_18, MD_21, MD_22, MD_23, MD_24, MD_25, MD_26, MD_27, MD_28, MD_29, MD_30, MD_31, MD_32, MD_33, MD_34, MD_35, MD_36, MD_37]
      refine pg_goto (tgt := 203) h d_Mod_fetch_198 rfl ?_
      refine pf_ist h ok d_Mod_fetch_203 (by first | rfl | exact hk | exact hk2 | exact dm12 _ | assumption) (fun _ => rfl) (pg_ixN rfl hj20 (by decide)) ?_
      try simp only [MD25, MD26, MD27, MD28, MD29, MD30, MD31, MD32, MD33, MD34, MD35, MD36, MDF32, MDF33, MDF34, MDF35, MDF36, MDF37, MDs_25, MDs_26, MDs_27, MDs_28, MDs_29, MDs_30, MDs_31, MDs_32, MDs_33, MDs_34, MDs_35, MDs_36, MDs_0, MDs_11, MDs_13, MDs_14, MDs_15, MDs_16, MDs_17, MDs_18, MD_21, MD_22, MD_23, MD_24, MD_25, MD_26, MD_27, MD_28, MD_29, MD_30, MD_31, MD_32, MD_33, MD_34, MD_35, MD_36, MD_37]
      refine pg_aload_n h d_Mod_fetch_204 rfl ?_
      refine pf_get h ok d_Mod_fetch_205 f_Mod_55 (by first | rfl | exact hk | exact hk2 | exact dm12 _ | assumption) rfl rfl ?_
      try simp only [MD25, MD26, MD27, MD28, MD29, MD30, MD31, MD32, MD33, MD34, MD35, MD36, MDF32, MDF33, MDF34, MDF35, MDF36, MDF37, MDs_25, MDs_26, MDs_27, MDs_28, MDs_29, MDs_30, MDs_31, MDs_32, MDs_33, MDs_34, MDs_35, MDs_36, MDs_0, MDs_11, MDs_13, MDs_14, MDs_15, MDs_16, MDs_17, MDs_18, MD_21, MD_22, MD_23, MD_24, MD_25, MD_26, MD_27, MD_28, MD_29, MD_30, MD_31, MD_32, MD_33, MD_34, MD_35, MD_36, MD_37]
      refine pg_iload_n h d_Mod_fetch_208 rfl ?_
      refine pg_iconst (v := 0) h d_Mod_fetch_209 (by decide) ?_
      refine pf_ist h ok d_Mod_fetch_210 (by first | rfl | exact hk | exact hk2 | exact dm12 _ | assumption) (fun _ => rfl) (pg_ixN rfl hj20 (by decide)) ?_
      try simp only [MD25, MD26, MD27, MD28, MD29, MD30, MD31, MD32, MD33, MD34, MD35, MD36, MDF32, MDF33, MDF34, MDF35, MDF36, MDF37, MDs_25, MDs_26, MDs_27, MDs_28, MDs_29, MDs_30, MDs_31, MDs_32, MDs_33, MDs_34, MDs_35, MDs_36, MDs_0, MDs_11, MDs_13, MDs_14, MDs_15, MDs_16, MDs_17, MDs_18, MD_21, MD_22, MD_23, MD_24, MD_25, MD_26, MD_27, MD_28, MD_29, MD_30, MD_31, MD_32, MD_33, MD_34, MD_35, MD_36, MD_37]
      refine pg_iinc (w := 1) h d_Mod_fetch_211 rfl (by decide) (Nat.le_of_ble_eq_true rfl) (by cases X with | none => rfl | some v => simp [pg_no2, hX v rfl]) rfl ?_
      refine pg_goto (tgt := 176) h d_Mod_fetch_214 rfl ?_
      rw [← nI_succ j]
      have q := ih (j + 1) X hX (by omega)
      rw [← fhF_s _ _ _ hj2] at q
      first
        | (rw [q4] at e189; rw [if_neg (show ¬ j < 4 by omega)] at q; exact q)
        | (rw [q4] at e189; rw [if_pos (show j < 4 by omega)] at q; rw [show fhF (ftF A (shnF A w.2.2.1) r F 20) A j 32 j = hdV A (nI j) from by simp [fhF, show j < 4 by omega]]; exact q)
  have head : ∀ X : Option Value, (∀ v, X = some v → v.category = 1) → pg_G κ w.1 4 0 0 (pg_Q κ w.1 (fun r' H => r' = none ∧ pf_P w (MD S g lg (ftA A (shnF A w.2.2.1) r F)) H) 0 0) (pf_P w (MD S g lg (ftF A (shnF A w.2.2.1) r F 20))) 95 [some (.ref (w.2.1 20 0)), some (.int (nI r)), X, some (.int (nI 20))] [] := by
    intro X hX
    by_cases hr0 : r = 0
    · skip
      refine pg_iload_n h d_Mod_fetch_95 rfl ?_
      refine pg_if_ne (tgt := 217) h d_Mod_fetch_96 rfl (fun e96 => absurd e96 (fun q => q (by rw [er0]; exact hr0))) (fun e96 => ?_)
      refine pg_aload_n h d_Mod_fetch_99 rfl ?_
      refine pf_get h ok d_Mod_fetch_100 f_Mod_52 (by first | rfl | exact hk | exact hk2 | exact dm12 _ | assumption) rfl rfl ?_
      try simp only [MD25, MD26, MD27, MD28, MD29, MD30, MD31, MD32, MD33, MD34, MD35, MD36, MDF32, MDF33, MDF34, MDF35, MDF36, MDF37, MDs_25, MDs_26, MDs_27, MDs_28, MDs_29, MDs_30, MDs_31, MDs_32, MDs_33, MDs_34, MDs_35, MDs_36, MDs_0, MDs_11, MDs_13, MDs_14, MDs_15, MDs_16, MDs_17, MDs_18, MD_21, MD_22, MD_23, MD_24, MD_25, MD_26, MD_27, MD_28, MD_29, MD_30, MD_31, MD_32, MD_33, MD_34, MD_35, MD_36, MD_37]
      refine pg_iconst (v := 0) h d_Mod_fetch_103 (by decide) ?_
      refine pg_bipush (v := 80) h d_Mod_fetch_104 (by decide) ?_
      refine pf_ist h ok d_Mod_fetch_106 (by first | rfl | exact hk | exact hk2 | exact dm12 _ | assumption) (fun _ => rfl) (pg_ixN (j := 0) rfl (by decide) (by decide)) ?_
      try simp only [MD25, MD26, MD27, MD28, MD29, MD30, MD31, MD32, MD33, MD34, MD35, MD36, MDF32, MDF33, MDF34, MDF35, MDF36, MDF37, MDs_25, MDs_26, MDs_27, MDs_28, MDs_29, MDs_30, MDs_31, MDs_32, MDs_33, MDs_34, MDs_35, MDs_36, MDs_0, MDs_11, MDs_13, MDs_14, MDs_15, MDs_16, MDs_17, MDs_18, MD_21, MD_22, MD_23, MD_24, MD_25, MD_26, MD_27, MD_28, MD_29, MD_30, MD_31, MD_32, MD_33, MD_34, MD_35, MD_36, MD_37]
      refine pg_aload_n h d_Mod_fetch_107 rfl ?_
      refine pf_get h ok d_Mod_fetch_108 f_Mod_52 (by first | rfl | exact hk | exact hk2 | exact dm12 _ | assumption) rfl rfl ?_
      try simp only [MD25, MD26, MD27, MD28, MD29, MD30, MD31, MD32, MD33, MD34, MD35, MD36, MDF32, MDF33, MDF34, MDF35, MDF36, MDF37, MDs_25, MDs_26, MDs_27, MDs_28, MDs_29, MDs_30, MDs_31, MDs_32, MDs_33, MDs_34, MDs_35, MDs_36, MDs_0, MDs_11, MDs_13, MDs_14, MDs_15, MDs_16, MDs_17, MDs_18, MD_21, MD_22, MD_23, MD_24, MD_25, MD_26, MD_27, MD_28, MD_29, MD_30, MD_31, MD_32, MD_33, MD_34, MD_35, MD_36, MD_37]
      refine pg_iconst (v := 1) h d_Mod_fetch_111 (by decide) ?_
      refine pg_aload_n h d_Mod_fetch_112 rfl ?_
      refine pf_get h ok d_Mod_fetch_113 f_Mod_44 (by first | rfl | exact hk | exact hk2 | exact dm12 _ | assumption) rfl rfl ?_
      try simp only [MD25, MD26, MD27, MD28, MD29, MD30, MD31, MD32, MD33, MD34, MD35, MD36, MDF32, MDF33, MDF34, MDF35, MDF36, MDF37, MDs_25, MDs_26, MDs_27, MDs_28, MDs_29, MDs_30, MDs_31, MDs_32, MDs_33, MDs_34, MDs_35, MDs_36, MDs_0, MDs_11, MDs_13, MDs_14, MDs_15, MDs_16, MDs_17, MDs_18, MD_21, MD_22, MD_23, MD_24, MD_25, MD_26, MD_27, MD_28, MD_29, MD_30, MD_31, MD_32, MD_33, MD_34, MD_35, MD_36, MD_37]
      refine pg_sipush (v := 256) h d_Mod_fetch_116 (by decide) ?_
      rw [ew]
      refine pg_icmp_ge (tgt := 127) h d_Mod_fetch_119 rfl (fun e119 => ?_) (fun e119 => ?_)
      · skip
        refine pg_bipush (v := 48) h d_Mod_fetch_127 (by decide) ?_
        refine pg_aload_n h d_Mod_fetch_129 rfl ?_
        refine pf_get h ok d_Mod_fetch_130 f_Mod_44 (by first | rfl | exact hk | exact hk2 | exact dm12 _ | assumption) rfl rfl ?_
        try simp only [MD25, MD26, MD27, MD28, MD29, MD30, MD31, MD32, MD33, MD34, MD35, MD36, MDF32, MDF33, MDF34, MDF35, MDF36, MDF37, MDs_25, MDs_26, MDs_27, MDs_28, MDs_29, MDs_30, MDs_31, MDs_32, MDs_33, MDs_34, MDs_35, MDs_36, MDs_0, MDs_11, MDs_13, MDs_14, MDs_15, MDs_16, MDs_17, MDs_18, MD_21, MD_22, MD_23, MD_24, MD_25, MD_26, MD_27, MD_28, MD_29, MD_30, MD_31, MD_32, MD_33, MD_34, MD_35, MD_36, MD_37]
        refine pg_sipush (v := 256) h d_Mod_fetch_133 (by decide) ?_
        refine pg_idiv h d_Mod_fetch_136 (by decide) ?_
        skip
        refine pg_iadd h d_Mod_fetch_137 ?_
        refine pf_ist h ok d_Mod_fetch_138 (by first | rfl | exact hk | exact hk2 | exact dm12 _ | assumption) (fun _ => rfl) (pg_ixN (j := 1) rfl (by decide) (by decide)) ?_
        try simp only [MD25, MD26, MD27, MD28, MD29, MD30, MD31, MD32, MD33, MD34, MD35, MD36, MDF32, MDF33, MDF34, MDF35, MDF36, MDF37, MDs_25, MDs_26, MDs_27, MDs_28, MDs_29, MDs_30, MDs_31, MDs_32, MDs_33, MDs_34, MDs_35, MDs_36, MDs_0, MDs_11, MDs_13, MDs_14, MDs_15, MDs_16, MDs_17, MDs_18, MD_21, MD_22, MD_23, MD_24, MD_25, MD_26, MD_27, MD_28, MD_29, MD_30, MD_31, MD_32, MD_33, MD_34, MD_35, MD_36, MD_37]
        refine pg_aload_n h d_Mod_fetch_139 rfl ?_
        refine pf_get h ok d_Mod_fetch_140 f_Mod_52 (by first | rfl | exact hk | exact hk2 | exact dm12 _ | assumption) rfl rfl ?_
        try simp only [MD25, MD26, MD27, MD28, MD29, MD30, MD31, MD32, MD33, MD34, MD35, MD36, MDF32, MDF33, MDF34, MDF35, MDF36, MDF37, MDs_25, MDs_26, MDs_27, MDs_28, MDs_29, MDs_30, MDs_31, MDs_32, MDs_33, MDs_34, MDs_35, MDs_36, MDs_0, MDs_11, MDs_13, MDs_14, MDs_15, MDs_16, MDs_17, MDs_18, MD_21, MD_22, MD_23, MD_24, MD_25, MD_26, MD_27, MD_28, MD_29, MD_30, MD_31, MD_32, MD_33, MD_34, MD_35, MD_36, MD_37]
        refine pg_iconst (v := 2) h d_Mod_fetch_143 (by decide) ?_
        refine pg_aload_n h d_Mod_fetch_144 rfl ?_
        refine pf_get h ok d_Mod_fetch_145 f_Mod_44 (by first | rfl | exact hk | exact hk2 | exact dm12 _ | assumption) rfl rfl ?_
        try simp only [MD25, MD26, MD27, MD28, MD29, MD30, MD31, MD32, MD33, MD34, MD35, MD36, MDF32, MDF33, MDF34, MDF35, MDF36, MDF37, MDs_25, MDs_26, MDs_27, MDs_28, MDs_29, MDs_30, MDs_31, MDs_32, MDs_33, MDs_34, MDs_35, MDs_36, MDs_0, MDs_11, MDs_13, MDs_14, MDs_15, MDs_16, MDs_17, MDs_18, MD_21, MD_22, MD_23, MD_24, MD_25, MD_26, MD_27, MD_28, MD_29, MD_30, MD_31, MD_32, MD_33, MD_34, MD_35, MD_36, MD_37]
        refine pg_bipush (v := 16) h d_Mod_fetch_148 (by decide) ?_
        refine pg_idiv h d_Mod_fetch_150 (by decide) ?_
        refine pg_bipush (v := 16) h d_Mod_fetch_151 (by decide) ?_
        refine pg_irem h d_Mod_fetch_153 (by decide) ?_
        skip
        refine pg_cS h d_Mod_fetch_154 m_Mod_sign l_Mod_158 (c_Mod_sign w ok _ _) rfl rfl (Nat.le_of_ble_eq_true rfl) ⟨(Nat.le_of_ble_eq_true rfl), (Nat.le_of_ble_eq_true rfl)⟩ ⟨Nat.le_refl _, Nat.le_refl _⟩ ?_
        try simp only [MD25, MD26, MD27, MD28, MD29, MD30, MD31, MD32, MD33, MD34, MD35, MD36, MDF32, MDF33, MDF34, MDF35, MDF36, MDF37, MDs_25, MDs_26, MDs_27, MDs_28, MDs_29, MDs_30, MDs_31, MDs_32, MDs_33, MDs_34, MDs_35, MDs_36, MDs_0, MDs_11, MDs_13, MDs_14, MDs_15, MDs_16, MDs_17, MDs_18, MD_21, MD_22, MD_23, MD_24, MD_25, MD_26, MD_27, MD_28, MD_29, MD_30, MD_31, MD_32, MD_33, MD_34, MD_35, MD_36, MD_37]
        refine pf_ist h ok d_Mod_fetch_157 (by first | rfl | exact hk | exact hk2 | exact dm12 _ | assumption) (fun _ => rfl) (pg_ixN (j := 2) rfl (by decide) (by decide)) ?_
        try simp only [MD25, MD26, MD27, MD28, MD29, MD30, MD31, MD32, MD33, MD34, MD35, MD36, MDF32, MDF33, MDF34, MDF35, MDF36, MDF37, MDs_25, MDs_26, MDs_27, MDs_28, MDs_29, MDs_30, MDs_31, MDs_32, MDs_33, MDs_34, MDs_35, MDs_36, MDs_0, MDs_11, MDs_13, MDs_14, MDs_15, MDs_16, MDs_17, MDs_18, MD_21, MD_22, MD_23, MD_24, MD_25, MD_26, MD_27, MD_28, MD_29, MD_30, MD_31, MD_32, MD_33, MD_34, MD_35, MD_36, MD_37]
        refine pg_aload_n h d_Mod_fetch_158 rfl ?_
        refine pf_get h ok d_Mod_fetch_159 f_Mod_52 (by first | rfl | exact hk | exact hk2 | exact dm12 _ | assumption) rfl rfl ?_
        try simp only [MD25, MD26, MD27, MD28, MD29, MD30, MD31, MD32, MD33, MD34, MD35, MD36, MDF32, MDF33, MDF34, MDF35, MDF36, MDF37, MDs_25, MDs_26, MDs_27, MDs_28, MDs_29, MDs_30, MDs_31, MDs_32, MDs_33, MDs_34, MDs_35, MDs_36, MDs_0, MDs_11, MDs_13, MDs_14, MDs_15, MDs_16, MDs_17, MDs_18, MD_21, MD_22, MD_23, MD_24, MD_25, MD_26, MD_27, MD_28, MD_29, MD_30, MD_31, MD_32, MD_33, MD_34, MD_35, MD_36, MD_37]
        refine pg_iconst (v := 3) h d_Mod_fetch_162 (by decide) ?_
        refine pg_aload_n h d_Mod_fetch_163 rfl ?_
        refine pf_get h ok d_Mod_fetch_164 f_Mod_44 (by first | rfl | exact hk | exact hk2 | exact dm12 _ | assumption) rfl rfl ?_
        try simp only [MD25, MD26, MD27, MD28, MD29, MD30, MD31, MD32, MD33, MD34, MD35, MD36, MDF32, MDF33, MDF34, MDF35, MDF36, MDF37, MDs_25, MDs_26, MDs_27, MDs_28, MDs_29, MDs_30, MDs_31, MDs_32, MDs_33, MDs_34, MDs_35, MDs_36, MDs_0, MDs_11, MDs_13, MDs_14, MDs_15, MDs_16, MDs_17, MDs_18, MD_21, MD_22, MD_23, MD_24, MD_25, MD_26, MD_27, MD_28, MD_29, MD_30, MD_31, MD_32, MD_33, MD_34, MD_35, MD_36, MD_37]
        refine pg_bipush (v := 16) h d_Mod_fetch_167 (by decide) ?_
        refine pg_irem h d_Mod_fetch_169 (by decide) ?_
        refine pg_cS h d_Mod_fetch_170 m_Mod_sign l_Mod_158 (c_Mod_sign w ok _ _) rfl rfl (Nat.le_of_ble_eq_true rfl) ⟨(Nat.le_of_ble_eq_true rfl), (Nat.le_of_ble_eq_true rfl)⟩ ⟨Nat.le_refl _, Nat.le_refl _⟩ ?_
        try simp only [MD25, MD26, MD27, MD28, MD29, MD30, MD31, MD32, MD33, MD34, MD35, MD36, MDF32, MDF33, MDF34, MDF35, MDF36, MDF37, MDs_25, MDs_26, MDs_27, MDs_28, MDs_29, MDs_30, MDs_31, MDs_32, MDs_33, MDs_34, MDs_35, MDs_36, MDs_0, MDs_11, MDs_13, MDs_14, MDs_15, MDs_16, MDs_17, MDs_18, MD_21, MD_22, MD_23, MD_24, MD_25, MD_26, MD_27, MD_28, MD_29, MD_30, MD_31, MD_32, MD_33, MD_34, MD_35, MD_36, MD_37]
        refine pf_ist h ok d_Mod_fetch_173 (by first | rfl | exact hk | exact hk2 | exact dm12 _ | assumption) (fun _ => rfl) (pg_ixN (j := 3) rfl (by decide) (by decide)) ?_
        try simp only [MD25, MD26, MD27, MD28, MD29, MD30, MD31, MD32, MD33, MD34, MD35, MD36, MDF32, MDF33, MDF34, MDF35, MDF36, MDF37, MDs_25, MDs_26, MDs_27, MDs_28, MDs_29, MDs_30, MDs_31, MDs_32, MDs_33, MDs_34, MDs_35, MDs_36, MDs_0, MDs_11, MDs_13, MDs_14, MDs_15, MDs_16, MDs_17, MDs_18, MD_21, MD_22, MD_23, MD_24, MD_25, MD_26, MD_27, MD_28, MD_29, MD_30, MD_31, MD_32, MD_33, MD_34, MD_35, MD_36, MD_37]
        refine pg_iconst (v := 0) h d_Mod_fetch_174 (by decide) ?_
        refine pg_istore_n h d_Mod_fetch_175 (Nat.le_of_ble_eq_true rfl) (by cases X with | none => rfl | some v => simp [pg_no2, hX v rfl]) rfl ?_
        have q := loop2 hr0 8 0 X hX rfl
        refine pg_mem ?_ q
        have e2 : sgV (S 20 0 13 / 16 - S 20 0 13 / 16 / 16 * 16) = hdV A 2 := by rw [ew, hd2]; show _ = dgL (A 6 0 2 / 16 - A 6 0 2 / 16 / 16 * 16); rw [ewn]
        have e3 : sgV (S 20 0 13 - S 20 0 13 / 16 * 16) = hdV A 3 := by rw [ew, hd3]; show _ = dgL (A 6 0 2 - A 6 0 2 / 16 * 16); rw [ewn]
        have e1 : mh1 (nI wn) = hdV A 1 := by rw [hd1]; show _ = dgL (if A 6 0 2 / 256 - A 6 0 2 / 256 / 8 * 8 = 0 then 8 else A 6 0 2 / 256 - A 6 0 2 / 256 / 8 * 8); rw [ewn]
        simp only [mh1, e119, if_true, if_false] at e1
        refine congrArg (MD S g lg) ?_
        funext a x
        by_cases h2 : a = 32
        · subst h2
          by_cases hx : x < 4
          · rcases (show x = 0 ∨ x = 1 ∨ x = 2 ∨ x = 3 by omega) with rfl | rfl | rfl | rfl
            · simp [fhF, upd]; rfl
            · simp [fhF, upd]; first | exact e1.symm | (rw [ew]; exact e1.symm)
            · simp [fhF, upd]; exact e2.symm
            · simp [fhF, upd]; exact e3.symm
          · simp [fhF, upd, hx, show ¬ x = 0 by omega, show ¬ x = 1 by omega, show ¬ x = 2 by omega, show ¬ x = 3 by omega]
        · simp [fhF, h2]
      refine pg_bipush (v := 56) h d_Mod_fetch_122 (by decide) ?_
      refine pg_goto (tgt := 138) h d_Mod_fetch_124 rfl ?_
      refine pf_ist h ok d_Mod_fetch_138 (by first | rfl | exact hk | exact hk2 | exact dm12 _ | assumption) (fun _ => rfl) (pg_ixN (j := 1) rfl (by decide) (by decide)) ?_
      try simp only [MD25, MD26, MD27, MD28, MD29, MD30, MD31, MD32, MD33, MD34, MD35, MD36, MDF32, MDF33, MDF34, MDF35, MDF36, MDF37, MDs_25, MDs_26, MDs_27, MDs_28, MDs_29, MDs_30, MDs_31, MDs_32, MDs_33, MDs_34, MDs_35, MDs_36, MDs_0, MDs_11, MDs_13, MDs_14, MDs_15, MDs_16, MDs_17, MDs_18, MD_21, MD_22, MD_23, MD_24, MD_25, MD_26, MD_27, MD_28, MD_29, MD_30, MD_31, MD_32, MD_33, MD_34, MD_35, MD_36, MD_37]
      refine pg_aload_n h d_Mod_fetch_139 rfl ?_
      refine pf_get h ok d_Mod_fetch_140 f_Mod_52 (by first | rfl | exact hk | exact hk2 | exact dm12 _ | assumption) rfl rfl ?_
      try simp only [MD25, MD26, MD27, MD28, MD29, MD30, MD31, MD32, MD33, MD34, MD35, MD36, MDF32, MDF33, MDF34, MDF35, MDF36, MDF37, MDs_25, MDs_26, MDs_27, MDs_28, MDs_29, MDs_30, MDs_31, MDs_32, MDs_33, MDs_34, MDs_35, MDs_36, MDs_0, MDs_11, MDs_13, MDs_14, MDs_15, MDs_16, MDs_17, MDs_18, MD_21, MD_22, MD_23, MD_24, MD_25, MD_26, MD_27, MD_28, MD_29, MD_30, MD_31, MD_32, MD_33, MD_34, MD_35, MD_36, MD_37]
      refine pg_iconst (v := 2) h d_Mod_fetch_143 (by decide) ?_
      refine pg_aload_n h d_Mod_fetch_144 rfl ?_
      refine pf_get h ok d_Mod_fetch_145 f_Mod_44 (by first | rfl | exact hk | exact hk2 | exact dm12 _ | assumption) rfl rfl ?_
      try simp only [MD25, MD26, MD27, MD28, MD29, MD30, MD31, MD32, MD33, MD34, MD35, MD36, MDF32, MDF33, MDF34, MDF35, MDF36, MDF37, MDs_25, MDs_26, MDs_27, MDs_28, MDs_29, MDs_30, MDs_31, MDs_32, MDs_33, MDs_34, MDs_35, MDs_36, MDs_0, MDs_11, MDs_13, MDs_14, MDs_15, MDs_16, MDs_17, MDs_18, MD_21, MD_22, MD_23, MD_24, MD_25, MD_26, MD_27, MD_28, MD_29, MD_30, MD_31, MD_32, MD_33, MD_34, MD_35, MD_36, MD_37]
      refine pg_bipush (v := 16) h d_Mod_fetch_148 (by decide) ?_
      refine pg_idiv h d_Mod_fetch_150 (by decide) ?_
      refine pg_bipush (v := 16) h d_Mod_fetch_151 (by decide) ?_
      refine pg_irem h d_Mod_fetch_153 (by decide) ?_
      skip
      refine pg_cS h d_Mod_fetch_154 m_Mod_sign l_Mod_158 (c_Mod_sign w ok _ _) rfl rfl (Nat.le_of_ble_eq_true rfl) ⟨(Nat.le_of_ble_eq_true rfl), (Nat.le_of_ble_eq_true rfl)⟩ ⟨Nat.le_refl _, Nat.le_refl _⟩ ?_
      try simp only [MD25, MD26, MD27, MD28, MD29, MD30, MD31, MD32, MD33, MD34, MD35, MD36, MDF32, MDF33, MDF34, MDF35, MDF36, MDF37, MDs_25, MDs_26, MDs_27, MDs_28, MDs_29, MDs_30, MDs_31, MDs_32, MDs_33, MDs_34, MDs_35, MDs_36, MDs_0, MDs_11, MDs_13, MDs_14, MDs_15, MDs_16, MDs_17, MDs_18, MD_21, MD_22, MD_23, MD_24, MD_25, MD_26, MD_27, MD_28, MD_29, MD_30, MD_31, MD_32, MD_33, MD_34, MD_35, MD_36, MD_37]
      refine pf_ist h ok d_Mod_fetch_157 (by first | rfl | exact hk | exact hk2 | exact dm12 _ | assumption) (fun _ => rfl) (pg_ixN (j := 2) rfl (by decide) (by decide)) ?_
      try simp only [MD25, MD26, MD27, MD28, MD29, MD30, MD31, MD32, MD33, MD34, MD35, MD36, MDF32, MDF33, MDF34, MDF35, MDF36, MDF37, MDs_25, MDs_26, MDs_27, MDs_28, MDs_29, MDs_30, MDs_31, MDs_32, MDs_33, MDs_34, MDs_35, MDs_36, MDs_0, MDs_11, MDs_13, MDs_14, MDs_15, MDs_16, MDs_17, MDs_18, MD_21, MD_22, MD_23, MD_24, MD_25, MD_26, MD_27, MD_28, MD_29, MD_30, MD_31, MD_32, MD_33, MD_34, MD_35, MD_36, MD_37]
      refine pg_aload_n h d_Mod_fetch_158 rfl ?_
      refine pf_get h ok d_Mod_fetch_159 f_Mod_52 (by first | rfl | exact hk | exact hk2 | exact dm12 _ | assumption) rfl rfl ?_
      try simp only [MD25, MD26, MD27, MD28, MD29, MD30, MD31, MD32, MD33, MD34, MD35, MD36, MDF32, MDF33, MDF34, MDF35, MDF36, MDF37, MDs_25, MDs_26, MDs_27, MDs_28, MDs_29, MDs_30, MDs_31, MDs_32, MDs_33, MDs_34, MDs_35, MDs_36, MDs_0, MDs_11, MDs_13, MDs_14, MDs_15, MDs_16, MDs_17, MDs_18, MD_21, MD_22, MD_23, MD_24, MD_25, MD_26, MD_27, MD_28, MD_29, MD_30, MD_31, MD_32, MD_33, MD_34, MD_35, MD_36, MD_37]
      refine pg_iconst (v := 3) h d_Mod_fetch_162 (by decide) ?_
      refine pg_aload_n h d_Mod_fetch_163 rfl ?_
      refine pf_get h ok d_Mod_fetch_164 f_Mod_44 (by first | rfl | exact hk | exact hk2 | exact dm12 _ | assumption) rfl rfl ?_
      try simp only [MD25, MD26, MD27, MD28, MD29, MD30, MD31, MD32, MD33, MD34, MD35, MD36, MDF32, MDF33, MDF34, MDF35, MDF36, MDF37, MDs_25, MDs_26, MDs_27, MDs_28, MDs_29, MDs_30, MDs_31, MDs_32, MDs_33, MDs_34, MDs_35, MDs_36, MDs_0, MDs_11, MDs_13, MDs_14, MDs_15, MDs_16, MDs_17, MDs_18, MD_21, MD_22, MD_23, MD_24, MD_25, MD_26, MD_27, MD_28, MD_29, MD_30, MD_31, MD_32, MD_33, MD_34, MD_35, MD_36, MD_37]
      refine pg_bipush (v := 16) h d_Mod_fetch_167 (by decide) ?_
      refine pg_irem h d_Mod_fetch_169 (by decide) ?_
      refine pg_cS h d_Mod_fetch_170 m_Mod_sign l_Mod_158 (c_Mod_sign w ok _ _) rfl rfl (Nat.le_of_ble_eq_true rfl) ⟨(Nat.le_of_ble_eq_true rfl), (Nat.le_of_ble_eq_true rfl)⟩ ⟨Nat.le_refl _, Nat.le_refl _⟩ ?_
      try simp only [MD25, MD26, MD27, MD28, MD29, MD30, MD31, MD32, MD33, MD34, MD35, MD36, MDF32, MDF33, MDF34, MDF35, MDF36, MDF37, MDs_25, MDs_26, MDs_27, MDs_28, MDs_29, MDs_30, MDs_31, MDs_32, MDs_33, MDs_34, MDs_35, MDs_36, MDs_0, MDs_11, MDs_13, MDs_14, MDs_15, MDs_16, MDs_17, MDs_18, MD_21, MD_22, MD_23, MD_24, MD_25, MD_26, MD_27, MD_28, MD_29, MD_30, MD_31, MD_32, MD_33, MD_34, MD_35, MD_36, MD_37]
      refine pf_ist h ok d_Mod_fetch_173 (by first | rfl | exact hk | exact hk2 | exact dm12 _ | assumption) (fun _ => rfl) (pg_ixN (j := 3) rfl (by decide) (by decide)) ?_
      try simp only [MD25, MD26, MD27, MD28, MD29, MD30, MD31, MD32, MD33, MD34, MD35, MD36, MDF32, MDF33, MDF34, MDF35, MDF36, MDF37, MDs_25, MDs_26, MDs_27, MDs_28, MDs_29, MDs_30, MDs_31, MDs_32, MDs_33, MDs_34, MDs_35, MDs_36, MDs_0, MDs_11, MDs_13, MDs_14, MDs_15, MDs_16, MDs_17, MDs_18, MD_21, MD_22, MD_23, MD_24, MD_25, MD_26, MD_27, MD_28, MD_29, MD_30, MD_31, MD_32, MD_33, MD_34, MD_35, MD_36, MD_37]
      refine pg_iconst (v := 0) h d_Mod_fetch_174 (by decide) ?_
      refine pg_istore_n h d_Mod_fetch_175 (Nat.le_of_ble_eq_true rfl) (by cases X with | none => rfl | some v => simp [pg_no2, hX v rfl]) rfl ?_
      have q := loop2 hr0 8 0 X hX rfl
      refine pg_mem ?_ q
      have e2 : sgV (S 20 0 13 / 16 - S 20 0 13 / 16 / 16 * 16) = hdV A 2 := by rw [ew, hd2]; show _ = dgL (A 6 0 2 / 16 - A 6 0 2 / 16 / 16 * 16); rw [ewn]
      have e3 : sgV (S 20 0 13 - S 20 0 13 / 16 * 16) = hdV A 3 := by rw [ew, hd3]; show _ = dgL (A 6 0 2 - A 6 0 2 / 16 * 16); rw [ewn]
      have e1 : mh1 (nI wn) = hdV A 1 := by rw [hd1]; show _ = dgL (if A 6 0 2 / 256 - A 6 0 2 / 256 / 8 * 8 = 0 then 8 else A 6 0 2 / 256 - A 6 0 2 / 256 / 8 * 8); rw [ewn]
      simp only [mh1, e119, if_true, if_false] at e1
      refine congrArg (MD S g lg) ?_
      funext a x
      by_cases h2 : a = 32
      · subst h2
        by_cases hx : x < 4
        · rcases (show x = 0 ∨ x = 1 ∨ x = 2 ∨ x = 3 by omega) with rfl | rfl | rfl | rfl
          · simp [fhF, upd]; rfl
          · simp [fhF, upd]; first | exact e1.symm | (rw [ew]; exact e1.symm)
          · simp [fhF, upd]; exact e2.symm
          · simp [fhF, upd]; exact e3.symm
        · simp [fhF, upd, hx, show ¬ x = 0 by omega, show ¬ x = 1 by omega, show ¬ x = 2 by omega, show ¬ x = 3 by omega]
      · simp [fhF, h2]
    · skip
      refine pg_iload_n h d_Mod_fetch_95 rfl ?_
      refine pg_if_ne (tgt := 217) h d_Mod_fetch_96 rfl (fun e96 => ?_) (fun e96 => absurd e96 (fun q => hr0 (by rw [er0] at q; exact q)))
      exact pf_vret h d_Mod_fetch_217 (by rw [ftA, if_neg hr0])
  cases hf : shnF A w.2.2.1 with
  | none =>
    have ek : kpV (shnF A w.2.2.1) = -1 := by rw [hf]; rfl
    rw [hf] at head
    have loop : ∀ (n j : Nat), j + n = 20 → pg_G κ w.1 4 0 0 (pg_Q κ w.1 (fun r' H => r' = none ∧ pf_P w (MD S g lg (ftA A none r F)) H) 0 0) (pf_P w (MD S g lg (ftF A none r F j))) 7 [some (.ref (w.2.1 20 0)), some (.int (nI r)), some (.int (-1)), some (.int (nI j))] [] := by
      intro n
      induction n with
      | zero =>
        intro j hj
        have hj : j = 20 := by omega
        subst hj
        refine pg_iload_n h d_Mod_fetch_7 rfl ?_
        refine pg_bipush (v := 20) h d_Mod_fetch_8 (by decide) ?_
        refine pg_icmp_ge (tgt := 95) h d_Mod_fetch_10 rfl (fun e10 => ?_) (fun e10 => absurd e10 (fun e => e (by decide)))
        exact head _ (fun v hv => by cases hv; rfl)
      | succ n ih =>
        intro j hj
        have hj2 : j < 20 := by omega
        refine pg_iload_n h d_Mod_fetch_7 rfl ?_
        refine pg_bipush (v := 20) h d_Mod_fetch_8 (by decide) ?_
        refine pg_icmp_ge (tgt := 95) h d_Mod_fetch_10 rfl (fun e10 => absurd e10 (nI_ge hj2 (by decide))) (fun e10 => ?_)
        refine pg_aload_n h d_Mod_fetch_13 rfl ?_
        refine pf_get h ok d_Mod_fetch_14 f_Mod_52 (by first | rfl | exact hk | exact hk2 | exact dm12 _ | assumption) rfl rfl ?_
        try simp only [MD25, MD26, MD27, MD28, MD29, MD30, MD31, MD32, MD33, MD34, MD35, MD36, MDF32, MDF33, MDF34, MDF35, MDF36, MDF37, MDs_25, MDs_26, MDs_27, MDs_28, MDs_29, MDs_30, MDs_31, MDs_32, MDs_33, MDs_34, MDs_35, MDs_36, MDs_0, MDs_11, MDs_13, MDs_14, MDs_15, MDs_16, MDs_17, MDs_18, MD_21, MD_22, MD_23, MD_24, MD_25, MD_26, MD_27, MD_28, MD_29, MD_30, MD_31, MD_32, MD_33, MD_34, MD_35, MD_36, MD_37]
        refine pg_iload_n h d_Mod_fetch_17 rfl ?_
        refine pg_iload_n h d_Mod_fetch_18 rfl ?_
        refine pg_if_lt (tgt := 42) h d_Mod_fetch_19 rfl (fun e19 => ?_) (fun e19 => absurd e19 (by decide))
        refine pg_iload_n h d_Mod_fetch_42 rfl ?_
        refine pg_if_ne (tgt := 55) h d_Mod_fetch_43 rfl (fun e43 => ?_) (fun e43 => ?_)
        · skip
          refine pg_bipush (v := 32) h d_Mod_fetch_55 (by decide) ?_
          refine pf_ist h ok d_Mod_fetch_57 (by first | rfl | exact hk | exact hk2 | exact dm12 _ | assumption) (fun _ => rfl) (pg_ixN rfl hj2 (by decide)) ?_
          try simp only [MD25, MD26, MD27, MD28, MD29, MD30, MD31, MD32, MD33, MD34, MD35, MD36, MDF32, MDF33, MDF34, MDF35, MDF36, MDF37, MDs_25, MDs_26, MDs_27, MDs_28, MDs_29, MDs_30, MDs_31, MDs_32, MDs_33, MDs_34, MDs_35, MDs_36, MDs_0, MDs_11, MDs_13, MDs_14, MDs_15, MDs_16, MDs_17, MDs_18, MD_21, MD_22, MD_23, MD_24, MD_25, MD_26, MD_27, MD_28, MD_29, MD_30, MD_31, MD_32, MD_33, MD_34, MD_35, MD_36, MD_37]
          refine pg_aload_n h d_Mod_fetch_58 rfl ?_
          refine pf_get h ok d_Mod_fetch_59 f_Mod_55 (by first | rfl | exact hk | exact hk2 | exact dm12 _ | assumption) rfl rfl ?_
          try simp only [MD25, MD26, MD27, MD28, MD29, MD30, MD31, MD32, MD33, MD34, MD35, MD36, MDF32, MDF33, MDF34, MDF35, MDF36, MDF37, MDs_25, MDs_26, MDs_27, MDs_28, MDs_29, MDs_30, MDs_31, MDs_32, MDs_33, MDs_34, MDs_35, MDs_36, MDs_0, MDs_11, MDs_13, MDs_14, MDs_15, MDs_16, MDs_17, MDs_18, MD_21, MD_22, MD_23, MD_24, MD_25, MD_26, MD_27, MD_28, MD_29, MD_30, MD_31, MD_32, MD_33, MD_34, MD_35, MD_36, MD_37]
          refine pg_iload_n h d_Mod_fetch_62 rfl ?_
          refine pg_iload_n h d_Mod_fetch_63 rfl ?_
          refine pg_if_lt (tgt := 87) h d_Mod_fetch_64 rfl (fun e64 => ?_) (fun e64 => absurd e64 (by decide))
          refine pg_iconst (v := 0) h d_Mod_fetch_87 (by decide) ?_
          refine pf_ist h ok d_Mod_fetch_88 (by first | rfl | exact hk | exact hk2 | exact dm12 _ | assumption) (fun _ => rfl) (pg_ixN rfl hj2 (by decide)) ?_
          try simp only [MD25, MD26, MD27, MD28, MD29, MD30, MD31, MD32, MD33, MD34, MD35, MD36, MDF32, MDF33, MDF34, MDF35, MDF36, MDF37, MDs_25, MDs_26, MDs_27, MDs_28, MDs_29, MDs_30, MDs_31, MDs_32, MDs_33, MDs_34, MDs_35, MDs_36, MDs_0, MDs_11, MDs_13, MDs_14, MDs_15, MDs_16, MDs_17, MDs_18, MD_21, MD_22, MD_23, MD_24, MD_25, MD_26, MD_27, MD_28, MD_29, MD_30, MD_31, MD_32, MD_33, MD_34, MD_35, MD_36, MD_37]
          refine pg_iinc (w := 1) h d_Mod_fetch_89 rfl (by decide) (Nat.le_of_ble_eq_true rfl) rfl rfl ?_
          refine pg_goto (tgt := 7) h d_Mod_fetch_92 rfl ?_
          rw [← nI_succ j]
          have q := ih (j + 1) (by omega)
          rw [← ftF_s] at q
          first
            | (rw [show ft1 A none r j = S 29 0 j from by rw [er0] at e43; rw [ft1, if_pos e43, hR.2.2.2.2.1 j hj2]] at q; exact q)
            | (rw [show ft1 A none r j = 32 from by rw [er0] at e43; rw [ft1, if_neg e43]] at q; exact q)
        refine pg_aload_n h d_Mod_fetch_46 rfl ?_
        refine pf_get h ok d_Mod_fetch_47 f_Mod_35 (by first | rfl | exact hk | exact hk2 | exact dm12 _ | assumption) rfl rfl ?_
        try simp only [MD25, MD26, MD27, MD28, MD29, MD30, MD31, MD32, MD33, MD34, MD35, MD36, MDF32, MDF33, MDF34, MDF35, MDF36, MDF37, MDs_25, MDs_26, MDs_27, MDs_28, MDs_29, MDs_30, MDs_31, MDs_32, MDs_33, MDs_34, MDs_35, MDs_36, MDs_0, MDs_11, MDs_13, MDs_14, MDs_15, MDs_16, MDs_17, MDs_18, MD_21, MD_22, MD_23, MD_24, MD_25, MD_26, MD_27, MD_28, MD_29, MD_30, MD_31, MD_32, MD_33, MD_34, MD_35, MD_36, MD_37]
        refine pg_iload_n h d_Mod_fetch_50 rfl ?_
        refine pf_ild h ok d_Mod_fetch_51 (by first | rfl | exact hk | exact hk2 | exact dm12 _ | assumption) rfl (pg_ixN rfl hj2 (by decide)) ?_
        try simp only [MD25, MD26, MD27, MD28, MD29, MD30, MD31, MD32, MD33, MD34, MD35, MD36, MDF32, MDF33, MDF34, MDF35, MDF36, MDF37, MDs_25, MDs_26, MDs_27, MDs_28, MDs_29, MDs_30, MDs_31, MDs_32, MDs_33, MDs_34, MDs_35, MDs_36, MDs_0, MDs_11, MDs_13, MDs_14, MDs_15, MDs_16, MDs_17, MDs_18, MD_21, MD_22, MD_23, MD_24, MD_25, MD_26, MD_27, MD_28, MD_29, MD_30, MD_31, MD_32, MD_33, MD_34, MD_35, MD_36, MD_37]
        refine pg_goto (tgt := 57) h d_Mod_fetch_52 rfl ?_
        refine pf_ist h ok d_Mod_fetch_57 (by first | rfl | exact hk | exact hk2 | exact dm12 _ | assumption) (fun _ => rfl) (pg_ixN rfl hj2 (by decide)) ?_
        try simp only [MD25, MD26, MD27, MD28, MD29, MD30, MD31, MD32, MD33, MD34, MD35, MD36, MDF32, MDF33, MDF34, MDF35, MDF36, MDF37, MDs_25, MDs_26, MDs_27, MDs_28, MDs_29, MDs_30, MDs_31, MDs_32, MDs_33, MDs_34, MDs_35, MDs_36, MDs_0, MDs_11, MDs_13, MDs_14, MDs_15, MDs_16, MDs_17, MDs_18, MD_21, MD_22, MD_23, MD_24, MD_25, MD_26, MD_27, MD_28, MD_29, MD_30, MD_31, MD_32, MD_33, MD_34, MD_35, MD_36, MD_37]
        refine pg_aload_n h d_Mod_fetch_58 rfl ?_
        refine pf_get h ok d_Mod_fetch_59 f_Mod_55 (by first | rfl | exact hk | exact hk2 | exact dm12 _ | assumption) rfl rfl ?_
        try simp only [MD25, MD26, MD27, MD28, MD29, MD30, MD31, MD32, MD33, MD34, MD35, MD36, MDF32, MDF33, MDF34, MDF35, MDF36, MDF37, MDs_25, MDs_26, MDs_27, MDs_28, MDs_29, MDs_30, MDs_31, MDs_32, MDs_33, MDs_34, MDs_35, MDs_36, MDs_0, MDs_11, MDs_13, MDs_14, MDs_15, MDs_16, MDs_17, MDs_18, MD_21, MD_22, MD_23, MD_24, MD_25, MD_26, MD_27, MD_28, MD_29, MD_30, MD_31, MD_32, MD_33, MD_34, MD_35, MD_36, MD_37]
        refine pg_iload_n h d_Mod_fetch_62 rfl ?_
        refine pg_iload_n h d_Mod_fetch_63 rfl ?_
        refine pg_if_lt (tgt := 87) h d_Mod_fetch_64 rfl (fun e64 => ?_) (fun e64 => absurd e64 (by decide))
        refine pg_iconst (v := 0) h d_Mod_fetch_87 (by decide) ?_
        refine pf_ist h ok d_Mod_fetch_88 (by first | rfl | exact hk | exact hk2 | exact dm12 _ | assumption) (fun _ => rfl) (pg_ixN rfl hj2 (by decide)) ?_
        try simp only [MD25, MD26, MD27, MD28, MD29, MD30, MD31, MD32, MD33, MD34, MD35, MD36, MDF32, MDF33, MDF34, MDF35, MDF36, MDF37, MDs_25, MDs_26, MDs_27, MDs_28, MDs_29, MDs_30, MDs_31, MDs_32, MDs_33, MDs_34, MDs_35, MDs_36, MDs_0, MDs_11, MDs_13, MDs_14, MDs_15, MDs_16, MDs_17, MDs_18, MD_21, MD_22, MD_23, MD_24, MD_25, MD_26, MD_27, MD_28, MD_29, MD_30, MD_31, MD_32, MD_33, MD_34, MD_35, MD_36, MD_37]
        refine pg_iinc (w := 1) h d_Mod_fetch_89 rfl (by decide) (Nat.le_of_ble_eq_true rfl) rfl rfl ?_
        refine pg_goto (tgt := 7) h d_Mod_fetch_92 rfl ?_
        rw [← nI_succ j]
        have q := ih (j + 1) (by omega)
        rw [← ftF_s] at q
        first
          | (rw [show ft1 A none r j = S 29 0 j from by rw [er0] at e43; rw [ft1, if_pos e43, hR.2.2.2.2.1 j hj2]] at q; exact q)
          | (rw [show ft1 A none r j = 32 from by rw [er0] at e43; rw [ft1, if_neg e43]] at q; exact q)
    refine pg_aload_n h d_Mod_fetch_0 rfl ?_
    refine pf_cV h ok d_Mod_fetch_1 m_Mod_shownAt l_Mod_154 (c_shownX w ok A S z g lg F hw hR) cn_Mod (by first | rfl | exact hk | exact hk2 | exact dm12 _ | assumption) rfl rfl rfl (Nat.le_of_ble_eq_true rfl) ⟨(Nat.le_of_ble_eq_true rfl), (Nat.le_of_ble_eq_true rfl)⟩ ⟨Nat.le_refl _, Nat.le_refl _⟩ ?_
    rw [ek]
    refine pg_istore_n h d_Mod_fetch_4 (Nat.le_of_ble_eq_true rfl) rfl rfl ?_
    refine pg_iconst (v := 0) h d_Mod_fetch_5 (by decide) ?_
    refine pg_istore_n h d_Mod_fetch_6 (Nat.le_of_ble_eq_true rfl) rfl rfl ?_
    have q := loop 20 0 rfl
    rw [ftF_0] at q
    exact q
  | some k =>
    have ek : kpV (shnF A w.2.2.1) = nI k := by rw [hf]; rfl
    have hk := shn_pgk hf
    have hk13 := pgk13 hw.2 hk
    have hpk := hR.2.2.2.2.2 k hk
    rw [hf] at head
    have loop : ∀ (n j : Nat), j + n = 20 → pg_G κ w.1 4 0 0 (pg_Q κ w.1 (fun r' H => r' = none ∧ pf_P w (MD S g lg (ftA A (some k) r F)) H) 0 0) (pf_P w (MD S g lg (ftF A (some k) r F j))) 7 [some (.ref (w.2.1 20 0)), some (.int (nI r)), some (.int (nI k)), some (.int (nI j))] [] := by
      intro n
      induction n with
      | zero =>
        intro j hj
        have hj : j = 20 := by omega
        subst hj
        refine pg_iload_n h d_Mod_fetch_7 rfl ?_
        refine pg_bipush (v := 20) h d_Mod_fetch_8 (by decide) ?_
        refine pg_icmp_ge (tgt := 95) h d_Mod_fetch_10 rfl (fun e10 => ?_) (fun e10 => absurd e10 (fun e => e (by decide)))
        exact head _ (fun v hv => by cases hv; rfl)
      | succ n ih =>
        intro j hj
        have hj2 : j < 20 := by omega
        refine pg_iload_n h d_Mod_fetch_7 rfl ?_
        refine pg_bipush (v := 20) h d_Mod_fetch_8 (by decide) ?_
        refine pg_icmp_ge (tgt := 95) h d_Mod_fetch_10 rfl (fun e10 => absurd e10 (nI_ge hj2 (by decide))) (fun e10 => ?_)
        refine pg_aload_n h d_Mod_fetch_13 rfl ?_
        refine pf_get h ok d_Mod_fetch_14 f_Mod_52 (by first | rfl | exact hk | exact hk2 | exact dm12 _ | assumption) rfl rfl ?_
        try simp only [MD25, MD26, MD27, MD28, MD29, MD30, MD31, MD32, MD33, MD34, MD35, MD36, MDF32, MDF33, MDF34, MDF35, MDF36, MDF37, MDs_25, MDs_26, MDs_27, MDs_28, MDs_29, MDs_30, MDs_31, MDs_32, MDs_33, MDs_34, MDs_35, MDs_36, MDs_0, MDs_11, MDs_13, MDs_14, MDs_15, MDs_16, MDs_17, MDs_18, MD_21, MD_22, MD_23, MD_24, MD_25, MD_26, MD_27, MD_28, MD_29, MD_30, MD_31, MD_32, MD_33, MD_34, MD_35, MD_36, MD_37]
        refine pg_iload_n h d_Mod_fetch_17 rfl ?_
        refine pg_iload_n h d_Mod_fetch_18 rfl ?_
        refine pg_if_lt (tgt := 42) h d_Mod_fetch_19 rfl (fun e19 => absurd e19 (nI_pos (by omega))) (fun e19 => ?_)
        refine pg_aload_n h d_Mod_fetch_22 rfl ?_
        refine pf_get h ok d_Mod_fetch_23 f_Mod_29 (by first | rfl | exact hk | exact hk2 | exact dm12 _ | assumption) rfl rfl ?_
        try simp only [MD25, MD26, MD27, MD28, MD29, MD30, MD31, MD32, MD33, MD34, MD35, MD36, MDF32, MDF33, MDF34, MDF35, MDF36, MDF37, MDs_25, MDs_26, MDs_27, MDs_28, MDs_29, MDs_30, MDs_31, MDs_32, MDs_33, MDs_34, MDs_35, MDs_36, MDs_0, MDs_11, MDs_13, MDs_14, MDs_15, MDs_16, MDs_17, MDs_18, MD_21, MD_22, MD_23, MD_24, MD_25, MD_26, MD_27, MD_28, MD_29, MD_30, MD_31, MD_32, MD_33, MD_34, MD_35, MD_36, MD_37]
        refine pg_sipush (v := 160) h d_Mod_fetch_26 (by decide) ?_
        refine pg_iload_n h d_Mod_fetch_29 rfl ?_
        refine pg_imul h d_Mod_fetch_30 ?_
        refine pg_bipush (v := 20) h d_Mod_fetch_31 (by decide) ?_
        refine pg_iload_n h d_Mod_fetch_33 rfl ?_
        refine pg_imul h d_Mod_fetch_34 ?_
        refine pg_iadd h d_Mod_fetch_35 ?_
        refine pg_iload_n h d_Mod_fetch_36 rfl ?_
        refine pg_iadd h d_Mod_fetch_37 ?_
        refine pf_ild h ok d_Mod_fetch_38 (by first | rfl | exact hk | exact hk2 | exact dm12 _ | assumption) rfl (pg_ixN (ik3 k r j) (show 160 * k + (r * 20 + j) < 2080 by omega) (by decide)) ?_
        try simp only [MD25, MD26, MD27, MD28, MD29, MD30, MD31, MD32, MD33, MD34, MD35, MD36, MDF32, MDF33, MDF34, MDF35, MDF36, MDF37, MDs_25, MDs_26, MDs_27, MDs_28, MDs_29, MDs_30, MDs_31, MDs_32, MDs_33, MDs_34, MDs_35, MDs_36, MDs_0, MDs_11, MDs_13, MDs_14, MDs_15, MDs_16, MDs_17, MDs_18, MD_21, MD_22, MD_23, MD_24, MD_25, MD_26, MD_27, MD_28, MD_29, MD_30, MD_31, MD_32, MD_33, MD_34, MD_35, MD_36, MD_37]
        refine pg_goto (tgt := 57) h d_Mod_fetch_39 rfl ?_
        refine pf_ist h ok d_Mod_fetch_57 (by first | rfl | exact hk | exact hk2 | exact dm12 _ | assumption) (fun _ => rfl) (pg_ixN rfl hj2 (by decide)) ?_
        try simp only [MD25, MD26, MD27, MD28, MD29, MD30, MD31, MD32, MD33, MD34, MD35, MD36, MDF32, MDF33, MDF34, MDF35, MDF36, MDF37, MDs_25, MDs_26, MDs_27, MDs_28, MDs_29, MDs_30, MDs_31, MDs_32, MDs_33, MDs_34, MDs_35, MDs_36, MDs_0, MDs_11, MDs_13, MDs_14, MDs_15, MDs_16, MDs_17, MDs_18, MD_21, MD_22, MD_23, MD_24, MD_25, MD_26, MD_27, MD_28, MD_29, MD_30, MD_31, MD_32, MD_33, MD_34, MD_35, MD_36, MD_37]
        refine pg_aload_n h d_Mod_fetch_58 rfl ?_
        refine pf_get h ok d_Mod_fetch_59 f_Mod_55 (by first | rfl | exact hk | exact hk2 | exact dm12 _ | assumption) rfl rfl ?_
        try simp only [MD25, MD26, MD27, MD28, MD29, MD30, MD31, MD32, MD33, MD34, MD35, MD36, MDF32, MDF33, MDF34, MDF35, MDF36, MDF37, MDs_25, MDs_26, MDs_27, MDs_28, MDs_29, MDs_30, MDs_31, MDs_32, MDs_33, MDs_34, MDs_35, MDs_36, MDs_0, MDs_11, MDs_13, MDs_14, MDs_15, MDs_16, MDs_17, MDs_18, MD_21, MD_22, MD_23, MD_24, MD_25, MD_26, MD_27, MD_28, MD_29, MD_30, MD_31, MD_32, MD_33, MD_34, MD_35, MD_36, MD_37]
        refine pg_iload_n h d_Mod_fetch_62 rfl ?_
        refine pg_iload_n h d_Mod_fetch_63 rfl ?_
        refine pg_if_lt (tgt := 87) h d_Mod_fetch_64 rfl (fun e64 => absurd e64 (nI_pos (by omega))) (fun e64 => ?_)
        refine pg_aload_n h d_Mod_fetch_67 rfl ?_
        refine pf_get h ok d_Mod_fetch_68 f_Mod_32 (by first | rfl | exact hk | exact hk2 | exact dm12 _ | assumption) rfl rfl ?_
        try simp only [MD25, MD26, MD27, MD28, MD29, MD30, MD31, MD32, MD33, MD34, MD35, MD36, MDF32, MDF33, MDF34, MDF35, MDF36, MDF37, MDs_25, MDs_26, MDs_27, MDs_28, MDs_29, MDs_30, MDs_31, MDs_32, MDs_33, MDs_34, MDs_35, MDs_36, MDs_0, MDs_11, MDs_13, MDs_14, MDs_15, MDs_16, MDs_17, MDs_18, MD_21, MD_22, MD_23, MD_24, MD_25, MD_26, MD_27, MD_28, MD_29, MD_30, MD_31, MD_32, MD_33, MD_34, MD_35, MD_36, MD_37]
        refine pg_sipush (v := 160) h d_Mod_fetch_71 (by decide) ?_
        refine pg_iload_n h d_Mod_fetch_74 rfl ?_
        refine pg_imul h d_Mod_fetch_75 ?_
        refine pg_bipush (v := 20) h d_Mod_fetch_76 (by decide) ?_
        refine pg_iload_n h d_Mod_fetch_78 rfl ?_
        refine pg_imul h d_Mod_fetch_79 ?_
        refine pg_iadd h d_Mod_fetch_80 ?_
        refine pg_iload_n h d_Mod_fetch_81 rfl ?_
        refine pg_iadd h d_Mod_fetch_82 ?_
        refine pf_ild h ok d_Mod_fetch_83 (by first | rfl | exact hk | exact hk2 | exact dm12 _ | assumption) rfl (pg_ixN (ik3 k r j) (show 160 * k + (r * 20 + j) < 2080 by omega) (by decide)) ?_
        try simp only [MD25, MD26, MD27, MD28, MD29, MD30, MD31, MD32, MD33, MD34, MD35, MD36, MDF32, MDF33, MDF34, MDF35, MDF36, MDF37, MDs_25, MDs_26, MDs_27, MDs_28, MDs_29, MDs_30, MDs_31, MDs_32, MDs_33, MDs_34, MDs_35, MDs_36, MDs_0, MDs_11, MDs_13, MDs_14, MDs_15, MDs_16, MDs_17, MDs_18, MD_21, MD_22, MD_23, MD_24, MD_25, MD_26, MD_27, MD_28, MD_29, MD_30, MD_31, MD_32, MD_33, MD_34, MD_35, MD_36, MD_37]
        refine pg_goto (tgt := 88) h d_Mod_fetch_84 rfl ?_
        refine pf_ist h ok d_Mod_fetch_88 (by first | rfl | exact hk | exact hk2 | exact dm12 _ | assumption) (fun _ => rfl) (pg_ixN rfl hj2 (by decide)) ?_
        try simp only [MD25, MD26, MD27, MD28, MD29, MD30, MD31, MD32, MD33, MD34, MD35, MD36, MDF32, MDF33, MDF34, MDF35, MDF36, MDF37, MDs_25, MDs_26, MDs_27, MDs_28, MDs_29, MDs_30, MDs_31, MDs_32, MDs_33, MDs_34, MDs_35, MDs_36, MDs_0, MDs_11, MDs_13, MDs_14, MDs_15, MDs_16, MDs_17, MDs_18, MD_21, MD_22, MD_23, MD_24, MD_25, MD_26, MD_27, MD_28, MD_29, MD_30, MD_31, MD_32, MD_33, MD_34, MD_35, MD_36, MD_37]
        refine pg_iinc (w := 1) h d_Mod_fetch_89 rfl (by decide) (Nat.le_of_ble_eq_true rfl) rfl rfl ?_
        refine pg_goto (tgt := 7) h d_Mod_fetch_92 rfl ?_
        rw [← nI_succ j]
        have q := ih (j + 1) (by omega)
        rw [← ftF_s, show ft1 A (some k) r j = S 27 0 (160 * k + (r * 20 + j)) from (hpk.2.2.2.2.2.1 _ (by omega)).symm, show ft2 A (some k) r j = S 28 0 (160 * k + (r * 20 + j)) from (hpk.2.2.2.2.2.2.1 _ (by omega)).symm] at q
        exact q
    refine pg_aload_n h d_Mod_fetch_0 rfl ?_
    refine pf_cV h ok d_Mod_fetch_1 m_Mod_shownAt l_Mod_154 (c_shownX w ok A S z g lg F hw hR) cn_Mod (by first | rfl | exact hk | exact hk2 | exact dm12 _ | assumption) rfl rfl rfl (Nat.le_of_ble_eq_true rfl) ⟨(Nat.le_of_ble_eq_true rfl), (Nat.le_of_ble_eq_true rfl)⟩ ⟨Nat.le_refl _, Nat.le_refl _⟩ ?_
    rw [ek]
    refine pg_istore_n h d_Mod_fetch_4 (Nat.le_of_ble_eq_true rfl) rfl rfl ?_
    refine pg_iconst (v := 0) h d_Mod_fetch_5 (by decide) ?_
    refine pg_istore_n h d_Mod_fetch_6 (Nat.le_of_ble_eq_true rfl) rfl rfl ?_
    have q := loop 20 0 rfl
    rw [ftF_0] at q
    exact q
