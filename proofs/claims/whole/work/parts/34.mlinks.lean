/-! The reference: links, and a page that comes. -/
/-- the bytes of the packet are bytes -/
def ByI (A : pf_S) : Prop := ∀ i, i < 22 → ∃ b : Nat, b < 256 ∧ A 3 0 i = nI b
theorem nibV_cases (b : Int32) : nibV b = -1 ∨ ∃ d : Nat, d < 16 ∧ nibV b = nI d := by
  unfold nibV
  cases h : nibD b with
  | none => exact Or.inl rfl
  | some d => exact Or.inr ⟨d, by have := nibFrom_lt h; omega, rfl⟩
theorem nibV_neg (b : Int32) : nibV b < 0 ↔ nibV b = -1 := by
  rcases nibV_cases b with h | ⟨d, hd, h⟩
  · rw [h]; decide
  · rw [h]
    constructor
    · intro q; exact absurd q (nI_pos (by omega))
    · intro q
      exact absurd (show nI d < 0 by rw [q]; decide) (nI_pos (by omega))
theorem tkS_3 (k : Nat) (m : Int32) (j : Nat) (S : pf_S) : tkS k m j S 3 = S 3 := by
  unfold tkS
  split
  · rw [nibT_3, nibT_3, nibT_3]
  · funext b c
    rw [pf_st_at, if_neg (by intro q; omega), nibT_3, nibT_3, nibT_3]
theorem tkF_3 (k : Nat) (m : Int32) (S : pf_S) : ∀ j, tkF k m S j 3 = S 3 := by
  intro j
  induction j with
  | zero => rfl
  | succ j ih => rw [tkF, tkS_3, ih]

set_option maxRecDepth 100000 in
set_option maxHeartbeats 4000000 in
theorem c_Mod_takeLinks (w : pf_W) (ok : pf_ok w) (A S0 : pf_S) (z : Int32) (hb : ByI A) (m : Nat) (hm : m < 8) : pm_C w y_Mod_takeLinks b_Mod_takeLinks 6 none 3 74 [.ref (w.2.1 20 0), .int (nI m)] z (A) S0 (none) z (tkF m (nI m) A 4) := by
  refine pm_enter (by decide) (Nat.le_of_ble_eq_true rfl) (lv0 := [some (.ref (w.2.1 20 0)), some (.int (nI m)), none, none, none, none]) rfl (fun κ S h hR hg => ?_)
  have loop : ∀ (n j : Nat) (X Y Z : Option Value) (S : pf_S), j + n = 4 → Rm w.2.2.1 z (tkF m (nI m) A j) S → pm_g S0 S → pg_G κ w.1 6 0 0 (pm_Q κ w none z (tkF m (nI m) A 4) S0) (pf_P w (S)) 2 [some (.ref (w.2.1 20 0)), some (.int (nI m)), some (.int (nI j)), X, Y, Z] [] := by
    intro n
    induction n with
    | zero =>
      intro j X Y Z S hj hR hg
      have hj : j = 4 := by omega
      subst hj
      refine pg_iload_n h d_Mod_takeLinks_2 rfl ?_
      refine pg_iconst (v := 4) h d_Mod_takeLinks_3 (by decide) ?_
      refine pg_icmp_ge (tgt := 103) h d_Mod_takeLinks_4 rfl (fun e4 => ?_) (fun e4 => absurd e4 (fun e => e (by decide)))
      exact pm_vret h d_Mod_takeLinks_103 (hR) (hg)
    | succ n ih =>
      intro j X Y Z S hj hR hg
      have hj2 : j < 4 := by omega
      obtain ⟨b0, hb0, e0⟩ := hb (2 + 3 * j) (by omega)
      obtain ⟨b1, hb1, e1⟩ := hb (3 + 3 * j) (by omega)
      obtain ⟨b2, hb2, e2⟩ := hb (4 + 3 * j) (by omega)
      have h3 := tkF_3 m (nI m) A j
      have q0 : S 30 0 (2 + 3 * j) = nI b0 := by rw [hR.2.2.1 _ (by omega), h3, e0]
      refine pg_iload_n h d_Mod_takeLinks_2 rfl ?_
      refine pg_iconst (v := 4) h d_Mod_takeLinks_3 (by decide) ?_
      refine pg_icmp_ge (tgt := 103) h d_Mod_takeLinks_4 rfl (fun e4 => absurd e4 (nI_ge hj2 (by decide))) (fun e4 => ?_)
      refine pg_aload_n h d_Mod_takeLinks_7 rfl ?_
      refine pg_aload_n h d_Mod_takeLinks_8 rfl ?_
      refine pf_get h ok d_Mod_takeLinks_9 f_Mod_38 (by first | rfl | exact hk | exact hk2 | exact dm12 _ | assumption) rfl rfl ?_
      refine pg_iconst (v := 2) h d_Mod_takeLinks_12 (by decide) ?_
      refine pg_iconst (v := 3) h d_Mod_takeLinks_13 (by decide) ?_
      refine pg_iload_n h d_Mod_takeLinks_14 rfl ?_
      refine pg_imul h d_Mod_takeLinks_15 ?_
      refine pg_iadd h d_Mod_takeLinks_16 ?_
      refine pf_ild h ok d_Mod_takeLinks_17 (by first | rfl | exact hk | exact hk2 | exact dm12 _ | assumption) rfl (pg_ixN (ml3 2 j) (show 2 + 3 * j < 22 by omega) (by decide)) ?_
      rw [q0]
      refine pm_cV h ok (hR) (hg) d_Mod_takeLinks_18 m_Mod_nibble l_Mod_90 (c_Mod_nibble w ok _ S0 z b0 hb0) rfl rfl rfl (Nat.le_of_ble_eq_true rfl) ⟨(Nat.le_of_ble_eq_true rfl), (Nat.le_of_ble_eq_true rfl)⟩ ⟨Nat.le_refl _, Nat.le_refl _⟩ (fun S18 hR18 hg18 => ?_)
      refine pg_istore_n h d_Mod_takeLinks_21 (Nat.le_of_ble_eq_true rfl) (by first | rfl | (cases X <;> rfl)) rfl ?_
      refine pg_aload_n h d_Mod_takeLinks_22 rfl ?_
      refine pg_aload_n h d_Mod_takeLinks_23 rfl ?_
      refine pf_get h ok d_Mod_takeLinks_24 f_Mod_38 (by first | rfl | exact hk | exact hk2 | exact dm12 _ | assumption) rfl rfl ?_
      refine pg_iconst (v := 3) h d_Mod_takeLinks_27 (by decide) ?_
      refine pg_iconst (v := 3) h d_Mod_takeLinks_28 (by decide) ?_
      refine pg_iload_n h d_Mod_takeLinks_29 rfl ?_
      refine pg_imul h d_Mod_takeLinks_30 ?_
      refine pg_iadd h d_Mod_takeLinks_31 ?_
      refine pf_ild h ok d_Mod_takeLinks_32 (by first | rfl | exact hk | exact hk2 | exact dm12 _ | assumption) rfl (pg_ixN (ml3 3 j) (show 3 + 3 * j < 22 by omega) (by decide)) ?_
      rw [show S18 30 0 (3 + 3 * j) = nI b1 from by rw [hR18.2.2.1 _ (by omega), nibT_3, h3, e1]]
      refine pm_cV h ok (hR18) (hg18) d_Mod_takeLinks_33 m_Mod_nibble l_Mod_90 (c_Mod_nibble w ok _ S0 z b1 hb1) rfl rfl rfl (Nat.le_of_ble_eq_true rfl) ⟨(Nat.le_of_ble_eq_true rfl), (Nat.le_of_ble_eq_true rfl)⟩ ⟨Nat.le_refl _, Nat.le_refl _⟩ (fun S33 hR33 hg33 => ?_)
      refine pg_istore h d_Mod_takeLinks_36 (Nat.le_of_ble_eq_true rfl) (by first | rfl | (cases X <;> rfl)) rfl ?_
      refine pg_aload_n h d_Mod_takeLinks_38 rfl ?_
      refine pg_aload_n h d_Mod_takeLinks_39 rfl ?_
      refine pf_get h ok d_Mod_takeLinks_40 f_Mod_38 (by first | rfl | exact hk | exact hk2 | exact dm12 _ | assumption) rfl rfl ?_
      refine pg_iconst (v := 4) h d_Mod_takeLinks_43 (by decide) ?_
      refine pg_iconst (v := 3) h d_Mod_takeLinks_44 (by decide) ?_
      refine pg_iload_n h d_Mod_takeLinks_45 rfl ?_
      refine pg_imul h d_Mod_takeLinks_46 ?_
      refine pg_iadd h d_Mod_takeLinks_47 ?_
      refine pf_ild h ok d_Mod_takeLinks_48 (by first | rfl | exact hk | exact hk2 | exact dm12 _ | assumption) rfl (pg_ixN (ml3 4 j) (show 4 + 3 * j < 22 by omega) (by decide)) ?_
      rw [show S33 30 0 (4 + 3 * j) = nI b2 from by rw [hR33.2.2.1 _ (by omega), nibT_3, nibT_3, h3, e2]]
      refine pm_cV h ok (hR33) (hg33) d_Mod_takeLinks_49 m_Mod_nibble l_Mod_90 (c_Mod_nibble w ok _ S0 z b2 hb2) rfl rfl rfl (Nat.le_of_ble_eq_true rfl) ⟨(Nat.le_of_ble_eq_true rfl), (Nat.le_of_ble_eq_true rfl)⟩ ⟨Nat.le_refl _, Nat.le_refl _⟩ (fun S49 hR49 hg49 => ?_)
      refine pg_istore h d_Mod_takeLinks_52 (Nat.le_of_ble_eq_true rfl) (by first | rfl | (cases X <;> rfl)) rfl ?_
      refine pg_iload_n h d_Mod_takeLinks_54 rfl ?_
      refine pg_if_lt (tgt := 97) h d_Mod_takeLinks_55 rfl (fun e55 => ?_) (fun e55 => ?_)
      · skip
        refine pg_iinc (w := 1) h d_Mod_takeLinks_97 rfl (by decide) (Nat.le_of_ble_eq_true rfl) (by first | rfl | (cases X <;> rfl)) rfl ?_
        refine pg_goto (tgt := 2) h d_Mod_takeLinks_100 rfl ?_
        have eS : tkF m (nI m) A (j + 1) = if nibV (nI b0) = -1 ∨ nibV (nI b1) = -1 ∨ nibV (nI b2) = -1 then (nibT (nibT (nibT (tkF m (nI m) A j) (nI b0)) (nI b1)) (nI b2)) else pf_st (nibT (nibT (nibT (tkF m (nI m) A j) (nI b0)) (nI b1)) (nI b2)) 17 m j (256 * ((nI m ^^^ nibV (nI b2)) - (nI m ^^^ nibV (nI b2)) / 8 * 8) + 16 * nibV (nI b1) + nibV (nI b0)) := by
          rw [tkF, tkS, h3, e0, e1, e2]
        rw [← nI_succ j]
        first
          | exact ih (j + 1) _ _ _ _ (by omega) (by rw [eS, if_pos (Or.inl ((nibV_neg _).mp e55))]; exact hR49) hg49
          | exact ih (j + 1) _ _ _ _ (by omega) (by rw [eS, if_pos (Or.inr (Or.inl ((nibV_neg _).mp e60)))]; exact hR49) hg49
          | exact ih (j + 1) _ _ _ _ (by omega) (by rw [eS, if_pos (Or.inr (Or.inr ((nibV_neg _).mp e65)))]; exact hR49) hg49
          | exact ih (j + 1) _ _ _ _ (by omega) (by rw [eS, if_neg (fun q => q.elim (fun q => e55 ((nibV_neg _).mpr q)) (fun q => q.elim (fun q => e60 ((nibV_neg _).mpr q)) (fun q => e65 ((nibV_neg _).mpr q))))]; exact hR49.lnk hj2) (hg49.st (by decide))
      refine pg_iload h d_Mod_takeLinks_58 rfl ?_
      refine pg_if_lt (tgt := 97) h d_Mod_takeLinks_60 rfl (fun e60 => ?_) (fun e60 => ?_)
      · skip
        refine pg_iinc (w := 1) h d_Mod_takeLinks_97 rfl (by decide) (Nat.le_of_ble_eq_true rfl) (by first | rfl | (cases X <;> rfl)) rfl ?_
        refine pg_goto (tgt := 2) h d_Mod_takeLinks_100 rfl ?_
        have eS : tkF m (nI m) A (j + 1) = if nibV (nI b0) = -1 ∨ nibV (nI b1) = -1 ∨ nibV (nI b2) = -1 then (nibT (nibT (nibT (tkF m (nI m) A j) (nI b0)) (nI b1)) (nI b2)) else pf_st (nibT (nibT (nibT (tkF m (nI m) A j) (nI b0)) (nI b1)) (nI b2)) 17 m j (256 * ((nI m ^^^ nibV (nI b2)) - (nI m ^^^ nibV (nI b2)) / 8 * 8) + 16 * nibV (nI b1) + nibV (nI b0)) := by
          rw [tkF, tkS, h3, e0, e1, e2]
        rw [← nI_succ j]
        first
          | exact ih (j + 1) _ _ _ _ (by omega) (by rw [eS, if_pos (Or.inl ((nibV_neg _).mp e55))]; exact hR49) hg49
          | exact ih (j + 1) _ _ _ _ (by omega) (by rw [eS, if_pos (Or.inr (Or.inl ((nibV_neg _).mp e60)))]; exact hR49) hg49
          | exact ih (j + 1) _ _ _ _ (by omega) (by rw [eS, if_pos (Or.inr (Or.inr ((nibV_neg _).mp e65)))]; exact hR49) hg49
          | exact ih (j + 1) _ _ _ _ (by omega) (by rw [eS, if_neg (fun q => q.elim (fun q => e55 ((nibV_neg _).mpr q)) (fun q => q.elim (fun q => e60 ((nibV_neg _).mpr q)) (fun q => e65 ((nibV_neg _).mpr q))))]; exact hR49.lnk hj2) (hg49.st (by decide))
      refine pg_iload h d_Mod_takeLinks_63 rfl ?_
      refine pg_if_lt (tgt := 97) h d_Mod_takeLinks_65 rfl (fun e65 => ?_) (fun e65 => ?_)
      · skip
        refine pg_iinc (w := 1) h d_Mod_takeLinks_97 rfl (by decide) (Nat.le_of_ble_eq_true rfl) (by first | rfl | (cases X <;> rfl)) rfl ?_
        refine pg_goto (tgt := 2) h d_Mod_takeLinks_100 rfl ?_
        have eS : tkF m (nI m) A (j + 1) = if nibV (nI b0) = -1 ∨ nibV (nI b1) = -1 ∨ nibV (nI b2) = -1 then (nibT (nibT (nibT (tkF m (nI m) A j) (nI b0)) (nI b1)) (nI b2)) else pf_st (nibT (nibT (nibT (tkF m (nI m) A j) (nI b0)) (nI b1)) (nI b2)) 17 m j (256 * ((nI m ^^^ nibV (nI b2)) - (nI m ^^^ nibV (nI b2)) / 8 * 8) + 16 * nibV (nI b1) + nibV (nI b0)) := by
          rw [tkF, tkS, h3, e0, e1, e2]
        rw [← nI_succ j]
        first
          | exact ih (j + 1) _ _ _ _ (by omega) (by rw [eS, if_pos (Or.inl ((nibV_neg _).mp e55))]; exact hR49) hg49
          | exact ih (j + 1) _ _ _ _ (by omega) (by rw [eS, if_pos (Or.inr (Or.inl ((nibV_neg _).mp e60)))]; exact hR49) hg49
          | exact ih (j + 1) _ _ _ _ (by omega) (by rw [eS, if_pos (Or.inr (Or.inr ((nibV_neg _).mp e65)))]; exact hR49) hg49
          | exact ih (j + 1) _ _ _ _ (by omega) (by rw [eS, if_neg (fun q => q.elim (fun q => e55 ((nibV_neg _).mpr q)) (fun q => q.elim (fun q => e60 ((nibV_neg _).mpr q)) (fun q => e65 ((nibV_neg _).mpr q))))]; exact hR49.lnk hj2) (hg49.st (by decide))
      refine pg_aload_n h d_Mod_takeLinks_68 rfl ?_
      refine pf_get h ok d_Mod_takeLinks_69 f_Mod_26 (by first | rfl | exact hk | exact hk2 | exact dm12 _ | assumption) rfl rfl ?_
      refine pg_iconst (v := 4) h d_Mod_takeLinks_72 (by decide) ?_
      refine pg_iload_n h d_Mod_takeLinks_73 rfl ?_
      refine pg_imul h d_Mod_takeLinks_74 ?_
      refine pg_iload_n h d_Mod_takeLinks_75 rfl ?_
      refine pg_iadd h d_Mod_takeLinks_76 ?_
      refine pg_sipush (v := 256) h d_Mod_takeLinks_77 (by decide) ?_
      refine pg_iload_n h d_Mod_takeLinks_80 rfl ?_
      refine pg_iload h d_Mod_takeLinks_81 rfl ?_
      refine pg_ixor h d_Mod_takeLinks_83 ?_
      refine pg_bipush (v := 8) h d_Mod_takeLinks_84 (by decide) ?_
      refine pg_irem h d_Mod_takeLinks_86 (by decide) ?_
      refine pg_imul h d_Mod_takeLinks_87 ?_
      refine pg_bipush (v := 16) h d_Mod_takeLinks_88 (by decide) ?_
      refine pg_iload h d_Mod_takeLinks_90 rfl ?_
      refine pg_imul h d_Mod_takeLinks_92 ?_
      refine pg_iadd h d_Mod_takeLinks_93 ?_
      refine pg_iload_n h d_Mod_takeLinks_94 rfl ?_
      refine pg_iadd h d_Mod_takeLinks_95 ?_
      refine pf_ist h ok d_Mod_takeLinks_96 (by first | rfl | exact hk | exact hk2 | exact dm12 _ | assumption) (fun _ => rfl) (pg_ixN (ml 4 m j) (show 4 * m + j < 52 by omega) (by decide)) ?_
      refine pg_iinc (w := 1) h d_Mod_takeLinks_97 rfl (by decide) (Nat.le_of_ble_eq_true rfl) (by first | rfl | (cases X <;> rfl)) rfl ?_
      refine pg_goto (tgt := 2) h d_Mod_takeLinks_100 rfl ?_
      have eS : tkF m (nI m) A (j + 1) = if nibV (nI b0) = -1 ∨ nibV (nI b1) = -1 ∨ nibV (nI b2) = -1 then (nibT (nibT (nibT (tkF m (nI m) A j) (nI b0)) (nI b1)) (nI b2)) else pf_st (nibT (nibT (nibT (tkF m (nI m) A j) (nI b0)) (nI b1)) (nI b2)) 17 m j (256 * ((nI m ^^^ nibV (nI b2)) - (nI m ^^^ nibV (nI b2)) / 8 * 8) + 16 * nibV (nI b1) + nibV (nI b0)) := by
        rw [tkF, tkS, h3, e0, e1, e2]
      rw [← nI_succ j]
      first
        | exact ih (j + 1) _ _ _ _ (by omega) (by rw [eS, if_pos (Or.inl ((nibV_neg _).mp e55))]; exact hR49) hg49
        | exact ih (j + 1) _ _ _ _ (by omega) (by rw [eS, if_pos (Or.inr (Or.inl ((nibV_neg _).mp e60)))]; exact hR49) hg49
        | exact ih (j + 1) _ _ _ _ (by omega) (by rw [eS, if_pos (Or.inr (Or.inr ((nibV_neg _).mp e65)))]; exact hR49) hg49
        | exact ih (j + 1) _ _ _ _ (by omega) (by rw [eS, if_neg (fun q => q.elim (fun q => e55 ((nibV_neg _).mpr q)) (fun q => q.elim (fun q => e60 ((nibV_neg _).mpr q)) (fun q => e65 ((nibV_neg _).mpr q))))]; exact hR49.lnk hj2) (hg49.st (by decide))
  refine pg_iconst (v := 0) h d_Mod_takeLinks_0 (by decide) ?_
  refine pg_istore_n h d_Mod_takeLinks_1 (Nat.le_of_ble_eq_true rfl) rfl rfl ?_
  exact loop 4 0 none none none S rfl hR hg

/-- a page comes at place m -/
def cmA (A : pf_S) (P m : Nat) (num c : Int32) : pf_S := if c < 8 then (match fndF A P num with
  | none => begP A m num
  | some k => cpP A k m) else begP A m num
def cmsF (A : pf_S) (P m : Nat) (num sub c set : Int32) : pf_S := pf_st (pf_st (cmA A P m num c) 14 m 2 sub) 14 m 3 set
theorem bpF_cms (S : pf_S) (P m : Nat) : bpF S P m = cmsF S P m (numF S m) (S 11 0 2) (S 11 0 3) (S 11 0 5 - S 11 0 5 / 8 * 8) := rfl
theorem cms_beg (A : pf_S) (m : Nat) (num sub set : Int32) : Aeq (pf_st (pf_st (pf_st (pf_st (blP A m) 14 m 0 1) 14 m 1 num) 14 m 2 sub) 14 m 3 set) (pf_st (pf_st (begP A m num) 14 m 2 sub) 14 m 3 set) := by
  have e : pf_st (pf_st (blP A m) 14 m 0 1) 14 m 1 num = begP A m num := by
    funext a b c
    unfold begP blP
    by_cases p : a = 14
    · subst p
      simp [pf_rw, pf_st_at]
    · have e2 : pf_st (pf_st A 14 m 0 1) 14 m 1 num a b = A a b := by
        funext j
        simp [pf_st_at, p]
      rw [pf_st_at, if_neg (fun q => p q.1), pf_st_at, if_neg (fun q => p q.1)]
      simp only [pf_rw]
      rw [e2]
  rw [e]
  exact ⟨fun _ _ _ _ => rfl, fun _ => rfl⟩
theorem cms_cp {A : pf_S} {P m k : Nat} {num : Int32} (hf : fndF A P num = some k) (hm : m < 8) (sub set : Int32) : Aeq (pf_st (pf_st (pf_st (pf_st (cpQ A k m) 14 m 0 1) 14 m 1 num) 14 m 2 sub) 14 m 3 set) (pf_st (pf_st (cpP A k m) 14 m 2 sub) 14 m 3 set) := by
  obtain ⟨h1, h2, h3, h4⟩ := fndF_some hf
  have h5 := nb_ne h3
  refine ⟨fun a b c hac => ?_, fun b => ?_⟩
  · simp only [cpQ, pf_st_at]
    by_cases q : a = 14 ∧ b = m ∧ c = 1
    · obtain ⟨rfl, rfl, rfl⟩ := q
      simp [cpP, h4]
    · grind
  · by_cases hb : b = m
    · subst hb
      simp [pf_st_at, cpP, h5, nb_1]
    · simp [cpQ, pf_st_at, hb]

set_option maxRecDepth 100000 in
set_option maxHeartbeats 4000000 in
theorem c_Mod_comes (w : pf_W) (ok : pf_ok w) (A S0 : pf_S) (z : Int32) (hw : 1 ≤ w.2.2.1 ∧ w.2.2.1 ≤ 4) (m : Nat) (hm : m < 8) (num sub c set : Int32) : pm_C w y_Mod_comes b_Mod_comes 7 none 1 23 [.ref (w.2.1 20 0), .int (nI m), .int num, .int sub, .int c, .int set] z (A) S0 (none) z (cmsF A w.2.2.1 m num sub c set) := by
  refine pm_enter (by decide) (Nat.le_of_ble_eq_true rfl) (lv0 := [some (.ref (w.2.1 20 0)), some (.int (nI m)), some (.int num), some (.int sub), some (.int c), some (.int set), none]) rfl (fun κ S h hR hg => ?_)
  cases hf : fndF A w.2.2.1 num with
  | none =>
    have ek : kpV (fndF A w.2.2.1 num) = -1 := by rw [hf]; rfl
    have ea : cmsF A w.2.2.1 m num sub c set = pf_st (pf_st (begP A m num) 14 m 2 sub) 14 m 3 set := by rw [cmsF, cmA, hf]; simp
    rw [ea]
    refine pg_aload_n h d_Mod_comes_0 rfl ?_
    refine pg_iload_n h d_Mod_comes_1 rfl ?_
    refine pm_cV h ok (hR) (hg) d_Mod_comes_2 m_Mod_keptAt l_Mod_80 (c_Mod_keptAt w ok A S0 z hw num) rfl rfl rfl (Nat.le_of_ble_eq_true rfl) ⟨(Nat.le_of_ble_eq_true rfl), (Nat.le_of_ble_eq_true rfl)⟩ ⟨Nat.le_refl _, Nat.le_refl _⟩ (fun S2 hR2 hg2 => ?_)
    rw [ek]
    refine pg_istore h d_Mod_comes_5 (Nat.le_of_ble_eq_true rfl) rfl rfl ?_
    refine pg_iload h d_Mod_comes_7 rfl ?_
    refine pg_if_lt (tgt := 29) h d_Mod_comes_9 rfl (fun e9 => ?_) (fun e9 => absurd e9 (fun e => e (by decide)))
    refine pg_aload_n h d_Mod_comes_29 rfl ?_
    refine pg_iload_n h d_Mod_comes_30 rfl ?_
    refine pm_cV0 h ok (hR2) (hg2) d_Mod_comes_31 m_Mod_blank l_Mod_116 (c_blankR w ok A S0 z m (by omega)) rfl rfl rfl (Nat.le_of_ble_eq_true rfl) ⟨(Nat.le_of_ble_eq_true rfl), (Nat.le_of_ble_eq_true rfl)⟩ ⟨Nat.le_refl _, Nat.le_refl _⟩ (fun S31 hR31 hg31 => ?_)
    refine pg_aload_n h d_Mod_comes_34 rfl ?_
    refine pf_get h ok d_Mod_comes_35 f_Mod_7 (by first | rfl | exact hk | exact hk2 | exact dm12 _ | assumption) rfl rfl ?_
    refine pg_iload_n h d_Mod_comes_38 rfl ?_
    refine pg_iconst (v := 1) h d_Mod_comes_39 (by decide) ?_
    refine pf_zst 1 h ok d_Mod_comes_40 (by first | rfl | exact hk | exact hk2 | exact dm12 _ | assumption) (fun _ => rfl) (pg_ixN rfl (show m < 13 by omega) (by decide)) ?_
    refine pg_aload_n h d_Mod_comes_41 rfl ?_
    refine pf_get h ok d_Mod_comes_42 f_Mod_13 (by first | rfl | exact hk | exact hk2 | exact dm12 _ | assumption) rfl rfl ?_
    refine pg_iload_n h d_Mod_comes_45 rfl ?_
    refine pg_iload_n h d_Mod_comes_46 rfl ?_
    refine pf_ist h ok d_Mod_comes_47 (by first | rfl | exact hk | exact hk2 | exact dm12 _ | assumption) (fun _ => rfl) (pg_ixN rfl (show m < 13 by omega) (by decide)) ?_
    refine pg_aload_n h d_Mod_comes_48 rfl ?_
    refine pf_get h ok d_Mod_comes_49 f_Mod_17 (by first | rfl | exact hk | exact hk2 | exact dm12 _ | assumption) rfl rfl ?_
    refine pg_iload_n h d_Mod_comes_52 rfl ?_
    refine pg_iload_n h d_Mod_comes_53 rfl ?_
    refine pf_ist h ok d_Mod_comes_54 (by first | rfl | exact hk | exact hk2 | exact dm12 _ | assumption) (fun _ => rfl) (pg_ixN rfl (show m < 13 by omega) (by decide)) ?_
    refine pg_aload_n h d_Mod_comes_55 rfl ?_
    refine pf_get h ok d_Mod_comes_56 f_Mod_20 (by first | rfl | exact hk | exact hk2 | exact dm12 _ | assumption) rfl rfl ?_
    refine pg_iload_n h d_Mod_comes_59 rfl ?_
    refine pg_iload h d_Mod_comes_60 rfl ?_
    refine pf_ist h ok d_Mod_comes_62 (by first | rfl | exact hk | exact hk2 | exact dm12 _ | assumption) (fun _ => rfl) (pg_ixN rfl (show m < 13 by omega) (by decide)) ?_
    exact pm_vret h d_Mod_comes_63 (((((hR31.thr (k := m) (v := 1) rfl).num (k := m)).sub (k := m)).set (k := m)).cong (cms_beg A m num sub set)) ((((hg31.st (by decide)).st (by decide)).st (by decide)).st (by decide))
  | some k =>
    have ek : kpV (fndF A w.2.2.1 num) = nI k := by rw [hf]; rfl
    obtain ⟨k1, k2, k3, k4⟩ := fndF_some hf
    by_cases hc : c < 8
    · have ea : cmsF A w.2.2.1 m num sub c set = pf_st (pf_st (cpP A k m) 14 m 2 sub) 14 m 3 set := by rw [cmsF, cmA, hf, if_pos hc]
      rw [ea]
      refine pg_aload_n h d_Mod_comes_0 rfl ?_
      refine pg_iload_n h d_Mod_comes_1 rfl ?_
      refine pm_cV h ok (hR) (hg) d_Mod_comes_2 m_Mod_keptAt l_Mod_80 (c_Mod_keptAt w ok A S0 z hw num) rfl rfl rfl (Nat.le_of_ble_eq_true rfl) ⟨(Nat.le_of_ble_eq_true rfl), (Nat.le_of_ble_eq_true rfl)⟩ ⟨Nat.le_refl _, Nat.le_refl _⟩ (fun S2 hR2 hg2 => ?_)
      rw [ek]
      refine pg_istore h d_Mod_comes_5 (Nat.le_of_ble_eq_true rfl) rfl rfl ?_
      refine pg_iload h d_Mod_comes_7 rfl ?_
      refine pg_if_lt (tgt := 29) h d_Mod_comes_9 rfl (fun e9 => absurd e9 (nI_pos (by omega))) (fun e9 => ?_)
      refine pg_iload h d_Mod_comes_12 rfl ?_
      refine pg_bipush (v := 8) h d_Mod_comes_14 (by decide) ?_
      refine pg_icmp_ge (tgt := 29) h d_Mod_comes_16 rfl (fun e16 => absurd e16 (Int32.not_le.mpr hc)) (fun e16 => ?_)
      refine pg_aload_n h d_Mod_comes_19 rfl ?_
      refine pg_iload h d_Mod_comes_20 rfl ?_
      refine pg_iload_n h d_Mod_comes_22 rfl ?_
      refine pm_cV0 h ok (hR2) (hg2) d_Mod_comes_23 m_Mod_copy l_Mod_86 (c_copyR w ok A S0 z hw k m (Or.inl k2) (Or.inl (by omega)) (by omega)) rfl rfl rfl (Nat.le_of_ble_eq_true rfl) ⟨(Nat.le_of_ble_eq_true rfl), (Nat.le_of_ble_eq_true rfl)⟩ ⟨Nat.le_refl _, Nat.le_refl _⟩ (fun S23 hR23 hg23 => ?_)
      refine pg_goto (tgt := 34) h d_Mod_comes_26 rfl ?_
      refine pg_aload_n h d_Mod_comes_34 rfl ?_
      refine pf_get h ok d_Mod_comes_35 f_Mod_7 (by first | rfl | exact hk | exact hk2 | exact dm12 _ | assumption) rfl rfl ?_
      refine pg_iload_n h d_Mod_comes_38 rfl ?_
      refine pg_iconst (v := 1) h d_Mod_comes_39 (by decide) ?_
      refine pf_zst 1 h ok d_Mod_comes_40 (by first | rfl | exact hk | exact hk2 | exact dm12 _ | assumption) (fun _ => rfl) (pg_ixN rfl (show m < 13 by omega) (by decide)) ?_
      refine pg_aload_n h d_Mod_comes_41 rfl ?_
      refine pf_get h ok d_Mod_comes_42 f_Mod_13 (by first | rfl | exact hk | exact hk2 | exact dm12 _ | assumption) rfl rfl ?_
      refine pg_iload_n h d_Mod_comes_45 rfl ?_
      refine pg_iload_n h d_Mod_comes_46 rfl ?_
      refine pf_ist h ok d_Mod_comes_47 (by first | rfl | exact hk | exact hk2 | exact dm12 _ | assumption) (fun _ => rfl) (pg_ixN rfl (show m < 13 by omega) (by decide)) ?_
      refine pg_aload_n h d_Mod_comes_48 rfl ?_
      refine pf_get h ok d_Mod_comes_49 f_Mod_17 (by first | rfl | exact hk | exact hk2 | exact dm12 _ | assumption) rfl rfl ?_
      refine pg_iload_n h d_Mod_comes_52 rfl ?_
      refine pg_iload_n h d_Mod_comes_53 rfl ?_
      refine pf_ist h ok d_Mod_comes_54 (by first | rfl | exact hk | exact hk2 | exact dm12 _ | assumption) (fun _ => rfl) (pg_ixN rfl (show m < 13 by omega) (by decide)) ?_
      refine pg_aload_n h d_Mod_comes_55 rfl ?_
      refine pf_get h ok d_Mod_comes_56 f_Mod_20 (by first | rfl | exact hk | exact hk2 | exact dm12 _ | assumption) rfl rfl ?_
      refine pg_iload_n h d_Mod_comes_59 rfl ?_
      refine pg_iload h d_Mod_comes_60 rfl ?_
      refine pf_ist h ok d_Mod_comes_62 (by first | rfl | exact hk | exact hk2 | exact dm12 _ | assumption) (fun _ => rfl) (pg_ixN rfl (show m < 13 by omega) (by decide)) ?_
      exact pm_vret h d_Mod_comes_63 (((((hR23.thr (k := m) (v := 1) rfl).num (k := m)).sub (k := m)).set (k := m)).cong (cms_cp hf hm sub set)) ((((hg23.st (by decide)).st (by decide)).st (by decide)).st (by decide))
    · have ea : cmsF A w.2.2.1 m num sub c set = pf_st (pf_st (begP A m num) 14 m 2 sub) 14 m 3 set := by rw [cmsF, cmA, if_neg hc]
      rw [ea]
      refine pg_aload_n h d_Mod_comes_0 rfl ?_
      refine pg_iload_n h d_Mod_comes_1 rfl ?_
      refine pm_cV h ok (hR) (hg) d_Mod_comes_2 m_Mod_keptAt l_Mod_80 (c_Mod_keptAt w ok A S0 z hw num) rfl rfl rfl (Nat.le_of_ble_eq_true rfl) ⟨(Nat.le_of_ble_eq_true rfl), (Nat.le_of_ble_eq_true rfl)⟩ ⟨Nat.le_refl _, Nat.le_refl _⟩ (fun S2 hR2 hg2 => ?_)
      rw [ek]
      refine pg_istore h d_Mod_comes_5 (Nat.le_of_ble_eq_true rfl) rfl rfl ?_
      refine pg_iload h d_Mod_comes_7 rfl ?_
      refine pg_if_lt (tgt := 29) h d_Mod_comes_9 rfl (fun e9 => absurd e9 (nI_pos (by omega))) (fun e9 => ?_)
      refine pg_iload h d_Mod_comes_12 rfl ?_
      refine pg_bipush (v := 8) h d_Mod_comes_14 (by decide) ?_
      refine pg_icmp_ge (tgt := 29) h d_Mod_comes_16 rfl (fun e16 => ?_) (fun e16 => absurd e16 (fun q => q (Int32.not_lt.mp hc)))
      refine pg_aload_n h d_Mod_comes_29 rfl ?_
      refine pg_iload_n h d_Mod_comes_30 rfl ?_
      refine pm_cV0 h ok (hR2) (hg2) d_Mod_comes_31 m_Mod_blank l_Mod_116 (c_blankR w ok A S0 z m (by omega)) rfl rfl rfl (Nat.le_of_ble_eq_true rfl) ⟨(Nat.le_of_ble_eq_true rfl), (Nat.le_of_ble_eq_true rfl)⟩ ⟨Nat.le_refl _, Nat.le_refl _⟩ (fun S31 hR31 hg31 => ?_)
      refine pg_aload_n h d_Mod_comes_34 rfl ?_
      refine pf_get h ok d_Mod_comes_35 f_Mod_7 (by first | rfl | exact hk | exact hk2 | exact dm12 _ | assumption) rfl rfl ?_
      refine pg_iload_n h d_Mod_comes_38 rfl ?_
      refine pg_iconst (v := 1) h d_Mod_comes_39 (by decide) ?_
      refine pf_zst 1 h ok d_Mod_comes_40 (by first | rfl | exact hk | exact hk2 | exact dm12 _ | assumption) (fun _ => rfl) (pg_ixN rfl (show m < 13 by omega) (by decide)) ?_
      refine pg_aload_n h d_Mod_comes_41 rfl ?_
      refine pf_get h ok d_Mod_comes_42 f_Mod_13 (by first | rfl | exact hk | exact hk2 | exact dm12 _ | assumption) rfl rfl ?_
      refine pg_iload_n h d_Mod_comes_45 rfl ?_
      refine pg_iload_n h d_Mod_comes_46 rfl ?_
      refine pf_ist h ok d_Mod_comes_47 (by first | rfl | exact hk | exact hk2 | exact dm12 _ | assumption) (fun _ => rfl) (pg_ixN rfl (show m < 13 by omega) (by decide)) ?_
      refine pg_aload_n h d_Mod_comes_48 rfl ?_
      refine pf_get h ok d_Mod_comes_49 f_Mod_17 (by first | rfl | exact hk | exact hk2 | exact dm12 _ | assumption) rfl rfl ?_
      refine pg_iload_n h d_Mod_comes_52 rfl ?_
      refine pg_iload_n h d_Mod_comes_53 rfl ?_
      refine pf_ist h ok d_Mod_comes_54 (by first | rfl | exact hk | exact hk2 | exact dm12 _ | assumption) (fun _ => rfl) (pg_ixN rfl (show m < 13 by omega) (by decide)) ?_
      refine pg_aload_n h d_Mod_comes_55 rfl ?_
      refine pf_get h ok d_Mod_comes_56 f_Mod_20 (by first | rfl | exact hk | exact hk2 | exact dm12 _ | assumption) rfl rfl ?_
      refine pg_iload_n h d_Mod_comes_59 rfl ?_
      refine pg_iload h d_Mod_comes_60 rfl ?_
      refine pf_ist h ok d_Mod_comes_62 (by first | rfl | exact hk | exact hk2 | exact dm12 _ | assumption) (fun _ => rfl) (pg_ixN rfl (show m < 13 by omega) (by decide)) ?_
      exact pm_vret h d_Mod_comes_63 (((((hR31.thr (k := m) (v := 1) rfl).num (k := m)).sub (k := m)).set (k := m)).cong (cms_beg A m num sub set)) ((((hg31.st (by decide)).st (by decide)).st (by decide)).st (by decide))
