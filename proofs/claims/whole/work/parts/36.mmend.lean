/-! The reference: told, mended. -/
def cx : Nat → Nat
  | 0 => 0
  | i + 1 => if (i + 1) &&& i = 0 then cx i else cx i + 1
def tdS (p : Int32) (fn cn : Nat) : Nat → Int32
  | 0 => 0
  | i + 1 => if (i + 1) &&& i = 0 then tdS p fn cn i else if fn ≤ cx i ∧ cx i < fn + cn then tdS p fn cn i + ((p >>> (nI i &&& 31) &&& 1) <<< (nI (cx i) - nI fn &&& 31)) else tdS p fn cn i
theorem pw_all : ∀ i, i < 23 → ((nI (i + 1) &&& (nI (i + 1) - 1) = 0) ↔ ((i + 1) &&& i = 0)) := by decide
theorem cx_le : ∀ i, cx i ≤ i := by
  intro i
  induction i with
  | zero => exact Nat.le_refl _
  | succ i ih =>
    rw [cx]
    split <;> omega

set_option maxRecDepth 100000 in
set_option maxHeartbeats 4000000 in
theorem c_Mod_told (w : pf_W) (ok : pf_ok w) (S : pf_S) (p : Int32) (fn cn : Nat) (hf : fn < 32) (hc : cn < 32) : pf_C w y_Mod_told b_Mod_told 7 (some .int) 0 0 [.int p, .int (nI fn), .int (nI cn)] S (some (.int (tdS p fn cn 23))) S := by
  refine pf_enter (by decide) (Nat.le_of_ble_eq_true rfl) (lv0 := [some (.int p), some (.int (nI fn)), some (.int (nI cn)), none, none, none, none]) rfl (fun κ h => ?_)
  have loop : ∀ (n i : Nat) (X : Option Value), i + n = 23 → pg_G κ w.1 7 0 0 (pg_Q κ w.1 (fun r' H => r' = (some (.int (tdS p fn cn 23))) ∧ pf_P w (S) H) 0 0) (pf_P w (S)) 8 [some (.int p), some (.int (nI fn)), some (.int (nI cn)), some (.int (tdS p fn cn i)), some (.int (nI (cx i))), some (.int (nI (i + 1))), X] [] := by
    intro n
    induction n with
    | zero =>
      intro i X hi
      have hi : i = 23 := by omega
      subst hi
      refine pg_iload h d_Mod_told_8 rfl ?_
      refine pg_bipush (v := 24) h d_Mod_told_10 (by decide) ?_
      refine pg_icmp_ge (tgt := 89) h d_Mod_told_12 rfl (fun e12 => ?_) (fun e12 => absurd e12 (fun e => e (by decide)))
      refine pg_iload_n h d_Mod_told_89 rfl ?_
      exact pf_iret h d_Mod_told_90 rfl (by first | rfl | simp [*]) rfl
    | succ n ih =>
      intro i X hi
      have hi2 : i < 23 := by omega
      have hx := cx_le i
      have pw := pw_all i hi2
      have em : nI (i + 1) - 1 = nI i := by rw [show nI (i + 1) - 1 = nI (i + 1 - 1) from pk_sub (a := i + 1) (b := 1) (by omega), Nat.add_sub_cancel]
      have ef : nI fn + nI cn = nI (fn + cn) := nI_add fn cn
      have l1 : (nI (cx i) < nI fn) ↔ cx i < fn := nI_ltI (by omega) (by omega)
      have l2 : (nI (fn + cn) ≤ nI (cx i)) ↔ fn + cn ≤ cx i := nI_leI (by omega) (by omega)
      by_cases hp : (i + 1) &&& i = 0
      · have hp' := pw.mpr hp
        have e1 : tdS p fn cn (i + 1) = tdS p fn cn i := by rw [tdS, if_pos hp]
        have e2 : cx (i + 1) = cx i := by rw [cx, if_pos hp]
        refine pg_iload h d_Mod_told_8 rfl ?_
        refine pg_bipush (v := 24) h d_Mod_told_10 (by decide) ?_
        refine pg_icmp_ge (tgt := 89) h d_Mod_told_12 rfl (fun e12 => absurd e12 (nI_ge (show i + 1 < 24 by omega) (by decide))) (fun e12 => ?_)
        refine pg_iload h d_Mod_told_15 rfl ?_
        refine pg_iload h d_Mod_told_17 rfl ?_
        refine pg_iconst (v := 1) h d_Mod_told_19 (by decide) ?_
        refine pg_isub h d_Mod_told_20 ?_
        refine pg_iand h d_Mod_told_21 ?_
        refine pg_if_eq (tgt := 29) h d_Mod_told_22 rfl (fun e22 => ?_) (fun e22 => absurd e22 (fun q => q hp'))
        refine pg_iconst (v := 0) h d_Mod_told_29 (by decide) ?_
        refine pg_istore h d_Mod_told_30 (Nat.le_of_ble_eq_true rfl) rfl rfl ?_
        refine pg_iload h d_Mod_told_32 rfl ?_
        refine pg_if_eq (tgt := 67) h d_Mod_told_34 rfl (fun e34 => ?_) (fun e34 => absurd e34 (fun e => e (by decide)))
        refine pg_iload h d_Mod_told_67 rfl ?_
        refine pg_if_eq (tgt := 79) h d_Mod_told_69 rfl (fun e69 => ?_) (fun e69 => absurd e69 (fun e => e (by decide)))
        refine pg_iload h d_Mod_told_79 rfl ?_
        refine pg_istore h d_Mod_told_81 (Nat.le_of_ble_eq_true rfl) rfl rfl ?_
        refine pg_iinc (w := 1) h d_Mod_told_83 rfl (by decide) (Nat.le_of_ble_eq_true rfl) rfl rfl ?_
        refine pg_goto (tgt := 8) h d_Mod_told_86 rfl ?_
        rw [← nI_succ (i + 1)]
        have q := ih (i + 1) (some (.int 0)) (by omega)
        rw [e1, e2] at q
        exact q
      have hp' : ¬ (nI (i + 1) &&& (nI (i + 1) - 1) = 0) := fun q => hp (pw.mp q)
      have e2 : cx (i + 1) = cx i + 1 := by rw [cx, if_neg hp]
      by_cases h1 : fn ≤ cx i
      · by_cases h2 : cx i < fn + cn
        · have e1 : tdS p fn cn (i + 1) = tdS p fn cn i + ((p >>> (nI i &&& 31) &&& 1) <<< (nI (cx i) - nI fn &&& 31)) := by rw [tdS, if_neg hp, if_pos ⟨h1, h2⟩]
          refine pg_iload h d_Mod_told_8 rfl ?_
          refine pg_bipush (v := 24) h d_Mod_told_10 (by decide) ?_
          refine pg_icmp_ge (tgt := 89) h d_Mod_told_12 rfl (fun e12 => absurd e12 (nI_ge (show i + 1 < 24 by omega) (by decide))) (fun e12 => ?_)
          refine pg_iload h d_Mod_told_15 rfl ?_
          refine pg_iload h d_Mod_told_17 rfl ?_
          refine pg_iconst (v := 1) h d_Mod_told_19 (by decide) ?_
          refine pg_isub h d_Mod_told_20 ?_
          refine pg_iand h d_Mod_told_21 ?_
          refine pg_if_eq (tgt := 29) h d_Mod_told_22 rfl (fun e22 => absurd e22 hp') (fun e22 => ?_)
          refine pg_iconst (v := 1) h d_Mod_told_25 (by decide) ?_
          refine pg_goto (tgt := 30) h d_Mod_told_26 rfl ?_
          refine pg_istore h d_Mod_told_30 (Nat.le_of_ble_eq_true rfl) rfl rfl ?_
          refine pg_iload h d_Mod_told_32 rfl ?_
          refine pg_if_eq (tgt := 67) h d_Mod_told_34 rfl (fun e34 => absurd e34 (by decide)) (fun e34 => ?_)
          refine pg_iload h d_Mod_told_37 rfl ?_
          refine pg_iload_n h d_Mod_told_39 rfl ?_
          refine pg_icmp_lt (tgt := 67) h d_Mod_told_40 rfl (fun e40 => absurd e40 (fun q => absurd (l1.mp q) (by omega))) (fun e40 => ?_)
          refine pg_iload h d_Mod_told_43 rfl ?_
          refine pg_iload_n h d_Mod_told_45 rfl ?_
          refine pg_iload_n h d_Mod_told_46 rfl ?_
          refine pg_iadd h d_Mod_told_47 ?_
          refine pg_icmp_ge (tgt := 67) h d_Mod_told_48 rfl (fun e48 => absurd e48 (fun q => absurd (l2.mp (by rw [← ef]; exact q)) (by omega))) (fun e48 => ?_)
          refine pg_iload_n h d_Mod_told_51 rfl ?_
          refine pg_iload_n h d_Mod_told_52 rfl ?_
          refine pg_iload h d_Mod_told_53 rfl ?_
          refine pg_iconst (v := 1) h d_Mod_told_55 (by decide) ?_
          refine pg_isub h d_Mod_told_56 ?_
          refine pg_ishr h d_Mod_told_57 ?_
          refine pg_iconst (v := 1) h d_Mod_told_58 (by decide) ?_
          refine pg_iand h d_Mod_told_59 ?_
          refine pg_iload h d_Mod_told_60 rfl ?_
          refine pg_iload_n h d_Mod_told_62 rfl ?_
          refine pg_isub h d_Mod_told_63 ?_
          refine pg_ishl h d_Mod_told_64 ?_
          refine pg_iadd h d_Mod_told_65 ?_
          refine pg_istore_n h d_Mod_told_66 (Nat.le_of_ble_eq_true rfl) rfl rfl ?_
          refine pg_iload h d_Mod_told_67 rfl ?_
          refine pg_if_eq (tgt := 79) h d_Mod_told_69 rfl (fun e69 => absurd e69 (by decide)) (fun e69 => ?_)
          refine pg_iload h d_Mod_told_72 rfl ?_
          refine pg_iconst (v := 1) h d_Mod_told_74 (by decide) ?_
          refine pg_iadd h d_Mod_told_75 ?_
          refine pg_goto (tgt := 81) h d_Mod_told_76 rfl ?_
          refine pg_istore h d_Mod_told_81 (Nat.le_of_ble_eq_true rfl) rfl rfl ?_
          refine pg_iinc (w := 1) h d_Mod_told_83 rfl (by decide) (Nat.le_of_ble_eq_true rfl) rfl rfl ?_
          refine pg_goto (tgt := 8) h d_Mod_told_86 rfl ?_
          rw [← nI_succ (i + 1)]
          have q := ih (i + 1) (some (.int 1)) (by omega)
          rw [e1, e2, nI_succ (cx i)] at q
          rw [← em] at q
          exact q
        · have e1 : tdS p fn cn (i + 1) = tdS p fn cn i := by rw [tdS, if_neg hp, if_neg (fun q => h2 q.2)]
          refine pg_iload h d_Mod_told_8 rfl ?_
          refine pg_bipush (v := 24) h d_Mod_told_10 (by decide) ?_
          refine pg_icmp_ge (tgt := 89) h d_Mod_told_12 rfl (fun e12 => absurd e12 (nI_ge (show i + 1 < 24 by omega) (by decide))) (fun e12 => ?_)
          refine pg_iload h d_Mod_told_15 rfl ?_
          refine pg_iload h d_Mod_told_17 rfl ?_
          refine pg_iconst (v := 1) h d_Mod_told_19 (by decide) ?_
          refine pg_isub h d_Mod_told_20 ?_
          refine pg_iand h d_Mod_told_21 ?_
          refine pg_if_eq (tgt := 29) h d_Mod_told_22 rfl (fun e22 => absurd e22 hp') (fun e22 => ?_)
          refine pg_iconst (v := 1) h d_Mod_told_25 (by decide) ?_
          refine pg_goto (tgt := 30) h d_Mod_told_26 rfl ?_
          refine pg_istore h d_Mod_told_30 (Nat.le_of_ble_eq_true rfl) rfl rfl ?_
          refine pg_iload h d_Mod_told_32 rfl ?_
          refine pg_if_eq (tgt := 67) h d_Mod_told_34 rfl (fun e34 => absurd e34 (by decide)) (fun e34 => ?_)
          refine pg_iload h d_Mod_told_37 rfl ?_
          refine pg_iload_n h d_Mod_told_39 rfl ?_
          refine pg_icmp_lt (tgt := 67) h d_Mod_told_40 rfl (fun e40 => absurd e40 (fun q => absurd (l1.mp q) (by omega))) (fun e40 => ?_)
          refine pg_iload h d_Mod_told_43 rfl ?_
          refine pg_iload_n h d_Mod_told_45 rfl ?_
          refine pg_iload_n h d_Mod_told_46 rfl ?_
          refine pg_iadd h d_Mod_told_47 ?_
          refine pg_icmp_ge (tgt := 67) h d_Mod_told_48 rfl (fun e48 => ?_) (fun e48 => absurd e48 (fun q => q (by rw [ef]; exact l2.mpr (by omega))))
          refine pg_iload h d_Mod_told_67 rfl ?_
          refine pg_if_eq (tgt := 79) h d_Mod_told_69 rfl (fun e69 => absurd e69 (by decide)) (fun e69 => ?_)
          refine pg_iload h d_Mod_told_72 rfl ?_
          refine pg_iconst (v := 1) h d_Mod_told_74 (by decide) ?_
          refine pg_iadd h d_Mod_told_75 ?_
          refine pg_goto (tgt := 81) h d_Mod_told_76 rfl ?_
          refine pg_istore h d_Mod_told_81 (Nat.le_of_ble_eq_true rfl) rfl rfl ?_
          refine pg_iinc (w := 1) h d_Mod_told_83 rfl (by decide) (Nat.le_of_ble_eq_true rfl) rfl rfl ?_
          refine pg_goto (tgt := 8) h d_Mod_told_86 rfl ?_
          rw [← nI_succ (i + 1)]
          have q := ih (i + 1) (some (.int 1)) (by omega)
          rw [e1, e2, nI_succ (cx i)] at q
          exact q
      · have e1 : tdS p fn cn (i + 1) = tdS p fn cn i := by rw [tdS, if_neg hp, if_neg (fun q => h1 q.1)]
        refine pg_iload h d_Mod_told_8 rfl ?_
        refine pg_bipush (v := 24) h d_Mod_told_10 (by decide) ?_
        refine pg_icmp_ge (tgt := 89) h d_Mod_told_12 rfl (fun e12 => absurd e12 (nI_ge (show i + 1 < 24 by omega) (by decide))) (fun e12 => ?_)
        refine pg_iload h d_Mod_told_15 rfl ?_
        refine pg_iload h d_Mod_told_17 rfl ?_
        refine pg_iconst (v := 1) h d_Mod_told_19 (by decide) ?_
        refine pg_isub h d_Mod_told_20 ?_
        refine pg_iand h d_Mod_told_21 ?_
        refine pg_if_eq (tgt := 29) h d_Mod_told_22 rfl (fun e22 => absurd e22 hp') (fun e22 => ?_)
        refine pg_iconst (v := 1) h d_Mod_told_25 (by decide) ?_
        refine pg_goto (tgt := 30) h d_Mod_told_26 rfl ?_
        refine pg_istore h d_Mod_told_30 (Nat.le_of_ble_eq_true rfl) rfl rfl ?_
        refine pg_iload h d_Mod_told_32 rfl ?_
        refine pg_if_eq (tgt := 67) h d_Mod_told_34 rfl (fun e34 => absurd e34 (by decide)) (fun e34 => ?_)
        refine pg_iload h d_Mod_told_37 rfl ?_
        refine pg_iload_n h d_Mod_told_39 rfl ?_
        refine pg_icmp_lt (tgt := 67) h d_Mod_told_40 rfl (fun e40 => ?_) (fun e40 => absurd e40 (fun q => q (l1.mpr (by omega))))
        refine pg_iload h d_Mod_told_67 rfl ?_
        refine pg_if_eq (tgt := 79) h d_Mod_told_69 rfl (fun e69 => absurd e69 (by decide)) (fun e69 => ?_)
        refine pg_iload h d_Mod_told_72 rfl ?_
        refine pg_iconst (v := 1) h d_Mod_told_74 (by decide) ?_
        refine pg_iadd h d_Mod_told_75 ?_
        refine pg_goto (tgt := 81) h d_Mod_told_76 rfl ?_
        refine pg_istore h d_Mod_told_81 (Nat.le_of_ble_eq_true rfl) rfl rfl ?_
        refine pg_iinc (w := 1) h d_Mod_told_83 rfl (by decide) (Nat.le_of_ble_eq_true rfl) rfl rfl ?_
        refine pg_goto (tgt := 8) h d_Mod_told_86 rfl ?_
        rw [← nI_succ (i + 1)]
        have q := ih (i + 1) (some (.int 1)) (by omega)
        rw [e1, e2, nI_succ (cx i)] at q
        exact q
  refine pg_iconst (v := 0) h d_Mod_told_0 (by decide) ?_
  refine pg_istore_n h d_Mod_told_1 (Nat.le_of_ble_eq_true rfl) rfl rfl ?_
  refine pg_iconst (v := 0) h d_Mod_told_2 (by decide) ?_
  refine pg_istore h d_Mod_told_3 (Nat.le_of_ble_eq_true rfl) rfl rfl ?_
  refine pg_iconst (v := 1) h d_Mod_told_5 (by decide) ?_
  refine pg_istore h d_Mod_told_6 (Nat.le_of_ble_eq_true rfl) rfl rfl ?_
  exact loop 23 0 none rfl

def msC (p : Int32) (k : Nat) : Nat → Int32
  | 0 => 0
  | i + 1 => if ((i + 1) >>> k) % 2 = 1 then msC p k i + (p >>> (nI i &&& 31) &&& 1) else msC p k i
def mfS (p : Int32) : Nat → Int32
  | 0 => 0
  | k + 1 => if msC p k 23 - msC p k 23 / 2 * 2 = 0 then mfS p k + (1 <<< (nI k &&& 31)) else mfS p k
theorem ms_all : ∀ k, k < 5 → ∀ i, i < 23 → ((nI (i + 1) >>> (nI k &&& 31) &&& 1 = 1) ↔ ((i + 1) >>> k) % 2 = 1) := by decide
noncomputable def mdP (p f : Int32) : Int32 := if odF p = 0 then (if f < 24 then p ^^^ ((1 : Int32) <<< ((if f = 0 then 24 else f) - 1 &&& 31)) else -1) else (if f = 0 then p else -1)

set_option maxRecDepth 100000 in
set_option maxHeartbeats 4000000 in
theorem c_Mod_mended (w : pf_W) (ok : pf_ok w) (A S0 : pf_S) (z : Int32) (p : Int32) (h1 : parV p = 1 ↔ ¬ odF p = 0) (h2 : mfS p 5 = failTo p 5) : pm_C w y_Mod_mended b_Mod_mended 6 (some .int) 1 22 [.ref (w.2.1 20 0), .int p] z (A) S0 (some (.int (mdP p (failTo p 5)))) z (tripT A p (failTo p 5)) := by
  refine pm_enter (by decide) (Nat.le_of_ble_eq_true rfl) (lv0 := [some (.ref (w.2.1 20 0)), some (.int p), none, none, none, none]) rfl (fun κ S h hR hg => ?_)
  have tail : ∀ X Y : Option Value, pg_G κ w.1 6 0 0 (pm_Q κ w (some (.int (mdP p (failTo p 5)))) z (tripT A p (failTo p 5)) S0) (pf_P w (S)) 79 [some (.ref (w.2.1 20 0)), some (.int p), some (.int (failTo p 5)), some (.int (nI 5)), X, Y] [] := by
    intro X Y
    generalize failTo p 5 = f
    by_cases hp : parV p = 1
    · have ho := h1.mp hp
      by_cases hf : f = 0
      · have e1 : mdP p f = p := by rw [mdP, if_neg ho, if_pos hf]
        have e2 : tripT A p f = A := by rw [tripT, if_neg ho, if_pos hf]
        rw [e1, e2]
        refine pg_iload_n h d_Mod_mended_79 rfl ?_
        refine pg_cS h d_Mod_mended_80 m_Mod_parity l_Mod_73 (c_Mod_parity w ok S p) rfl rfl (Nat.le_of_ble_eq_true rfl) ⟨(Nat.le_of_ble_eq_true rfl), (Nat.le_of_ble_eq_true rfl)⟩ ⟨Nat.le_refl _, Nat.le_refl _⟩ ?_
        refine pg_iconst (v := 1) h d_Mod_mended_83 (by decide) ?_
        refine pg_icmp_ne (tgt := 91) h d_Mod_mended_84 rfl (fun e84 => absurd e84 (fun q => q hp)) (fun e84 => ?_)
        refine pg_iconst (v := 1) h d_Mod_mended_87 (by decide) ?_
        refine pg_goto (tgt := 92) h d_Mod_mended_88 rfl ?_
        refine pg_istore_n h d_Mod_mended_92 (Nat.le_of_ble_eq_true rfl) rfl rfl ?_
        refine pg_iload_n h d_Mod_mended_93 rfl ?_
        refine pg_if_eq (tgt := 103) h d_Mod_mended_94 rfl (fun e94 => absurd e94 (by decide)) (fun e94 => ?_)
        refine pg_iload_n h d_Mod_mended_97 rfl ?_
        refine pg_if_ne (tgt := 103) h d_Mod_mended_98 rfl (fun e98 => absurd e98 (fun q => q hf)) (fun e98 => ?_)
        refine pg_iload_n h d_Mod_mended_101 rfl ?_
        exact pm_iret h d_Mod_mended_102 rfl (by first | rfl | simp [*]) (hR) (hg)
      · have e1 : mdP p f = -1 := by rw [mdP, if_neg ho, if_neg hf]
        have e2 : tripT A p f = pf_st A 1 0 3 (A 1 0 3 + 1) := by rw [tripT, if_neg ho, if_neg hf]
        rw [e1, e2]
        refine pg_iload_n h d_Mod_mended_79 rfl ?_
        refine pg_cS h d_Mod_mended_80 m_Mod_parity l_Mod_73 (c_Mod_parity w ok S p) rfl rfl (Nat.le_of_ble_eq_true rfl) ⟨(Nat.le_of_ble_eq_true rfl), (Nat.le_of_ble_eq_true rfl)⟩ ⟨Nat.le_refl _, Nat.le_refl _⟩ ?_
        refine pg_iconst (v := 1) h d_Mod_mended_83 (by decide) ?_
        refine pg_icmp_ne (tgt := 91) h d_Mod_mended_84 rfl (fun e84 => absurd e84 (fun q => q hp)) (fun e84 => ?_)
        refine pg_iconst (v := 1) h d_Mod_mended_87 (by decide) ?_
        refine pg_goto (tgt := 92) h d_Mod_mended_88 rfl ?_
        refine pg_istore_n h d_Mod_mended_92 (Nat.le_of_ble_eq_true rfl) rfl rfl ?_
        refine pg_iload_n h d_Mod_mended_93 rfl ?_
        refine pg_if_eq (tgt := 103) h d_Mod_mended_94 rfl (fun e94 => absurd e94 (by decide)) (fun e94 => ?_)
        refine pg_iload_n h d_Mod_mended_97 rfl ?_
        refine pg_if_ne (tgt := 103) h d_Mod_mended_98 rfl (fun e98 => ?_) (fun e98 => absurd e98 hf)
        refine pg_iload_n h d_Mod_mended_103 rfl ?_
        refine pg_if_ne (tgt := 113) h d_Mod_mended_104 rfl (fun e104 => ?_) (fun e104 => absurd e104 (by decide))
        refine pg_aload_n h d_Mod_mended_113 rfl ?_
        refine pf_get h ok d_Mod_mended_114 f_Mod_41 (by first | rfl | exact hk | exact hk2 | exact dm12 _ | assumption) rfl rfl ?_
        refine pg_iconst (v := 3) h d_Mod_mended_117 (by decide) ?_
        refine pg_dup2 h d_Mod_mended_118 rfl rfl ?_
        refine pf_ild h ok d_Mod_mended_119 (by first | rfl | exact hk | exact hk2 | exact dm12 _ | assumption) rfl (pg_ixN (j := 3) rfl (by decide) (by decide)) ?_
        refine pg_iconst (v := 1) h d_Mod_mended_120 (by decide) ?_
        refine pg_iadd h d_Mod_mended_121 ?_
        refine pf_ist h ok d_Mod_mended_122 (by first | rfl | exact hk | exact hk2 | exact dm12 _ | assumption) (fun _ => rfl) (pg_ixN (j := 3) rfl (by decide) (by decide)) ?_
        refine pg_iconst (v := (-1)) h d_Mod_mended_123 (by decide) ?_
        exact pm_iret h d_Mod_mended_124 rfl (by first | rfl | simp [*]) (by rw [← hR.2.1 3 (by decide)]; exact hR.cnt) (hg.st (by decide))
    · have ho : odF p = 0 := Classical.byContradiction (fun q => hp (h1.mpr q))
      by_cases hl : f < 24
      · have e1 : mdP p f = p ^^^ ((1 : Int32) <<< ((if f = 0 then 24 else f) - 1 &&& 31)) := by rw [mdP, if_pos ho, if_pos hl]
        have e2 : tripT A p f = pf_st A 1 0 2 (A 1 0 2 + 1) := by rw [tripT, if_pos ho, if_pos hl]
        rw [e1, e2]
        refine pg_iload_n h d_Mod_mended_79 rfl ?_
        refine pg_cS h d_Mod_mended_80 m_Mod_parity l_Mod_73 (c_Mod_parity w ok S p) rfl rfl (Nat.le_of_ble_eq_true rfl) ⟨(Nat.le_of_ble_eq_true rfl), (Nat.le_of_ble_eq_true rfl)⟩ ⟨Nat.le_refl _, Nat.le_refl _⟩ ?_
        refine pg_iconst (v := 1) h d_Mod_mended_83 (by decide) ?_
        refine pg_icmp_ne (tgt := 91) h d_Mod_mended_84 rfl (fun e84 => ?_) (fun e84 => absurd e84 hp)
        refine pg_iconst (v := 0) h d_Mod_mended_91 (by decide) ?_
        refine pg_istore_n h d_Mod_mended_92 (Nat.le_of_ble_eq_true rfl) rfl rfl ?_
        refine pg_iload_n h d_Mod_mended_93 rfl ?_
        refine pg_if_eq (tgt := 103) h d_Mod_mended_94 rfl (fun e94 => ?_) (fun e94 => absurd e94 (fun q => q (by decide)))
        refine pg_iload_n h d_Mod_mended_103 rfl ?_
        refine pg_if_ne (tgt := 113) h d_Mod_mended_104 rfl (fun e104 => absurd e104 (by decide)) (fun e104 => ?_)
        refine pg_iload_n h d_Mod_mended_107 rfl ?_
        refine pg_bipush (v := 24) h d_Mod_mended_108 (by decide) ?_
        refine pg_icmp_lt (tgt := 125) h d_Mod_mended_110 rfl (fun e110 => ?_) (fun e110 => absurd e110 (fun q => q hl))
        refine pg_aload_n h d_Mod_mended_125 rfl ?_
        refine pf_get h ok d_Mod_mended_126 f_Mod_41 (by first | rfl | exact hk | exact hk2 | exact dm12 _ | assumption) rfl rfl ?_
        refine pg_iconst (v := 2) h d_Mod_mended_129 (by decide) ?_
        refine pg_dup2 h d_Mod_mended_130 rfl rfl ?_
        refine pf_ild h ok d_Mod_mended_131 (by first | rfl | exact hk | exact hk2 | exact dm12 _ | assumption) rfl (pg_ixN (j := 2) rfl (by decide) (by decide)) ?_
        refine pg_iconst (v := 1) h d_Mod_mended_132 (by decide) ?_
        refine pg_iadd h d_Mod_mended_133 ?_
        refine pf_ist h ok d_Mod_mended_134 (by first | rfl | exact hk | exact hk2 | exact dm12 _ | assumption) (fun _ => rfl) (pg_ixN (j := 2) rfl (by decide) (by decide)) ?_
        refine pg_iload_n h d_Mod_mended_135 rfl ?_
        refine pg_iconst (v := 1) h d_Mod_mended_136 (by decide) ?_
        refine pg_iload_n h d_Mod_mended_137 rfl ?_
        refine pg_if_ne (tgt := 146) h d_Mod_mended_138 rfl (fun e138 => ?_) (fun e138 => ?_)
        · skip
          refine pg_iload_n h d_Mod_mended_146 rfl ?_
          refine pg_iconst (v := 1) h d_Mod_mended_147 (by decide) ?_
          refine pg_isub h d_Mod_mended_148 ?_
          refine pg_ishl h d_Mod_mended_149 ?_
          refine pg_ixor h d_Mod_mended_150 ?_
          exact pm_iret h d_Mod_mended_151 rfl (by first | rw [if_pos e138] | rw [if_neg e138]) (by rw [← hR.2.1 2 (by decide)]; exact hR.cnt) (hg.st (by decide))
        refine pg_bipush (v := 24) h d_Mod_mended_141 (by decide) ?_
        refine pg_goto (tgt := 147) h d_Mod_mended_143 rfl ?_
        refine pg_iconst (v := 1) h d_Mod_mended_147 (by decide) ?_
        refine pg_isub h d_Mod_mended_148 ?_
        refine pg_ishl h d_Mod_mended_149 ?_
        refine pg_ixor h d_Mod_mended_150 ?_
        exact pm_iret h d_Mod_mended_151 rfl (by first | rw [if_pos e138] | rw [if_neg e138]) (by rw [← hR.2.1 2 (by decide)]; exact hR.cnt) (hg.st (by decide))
      · have e1 : mdP p f = -1 := by rw [mdP, if_pos ho, if_neg hl]
        have e2 : tripT A p f = pf_st A 1 0 3 (A 1 0 3 + 1) := by rw [tripT, if_pos ho, if_neg hl]
        rw [e1, e2]
        refine pg_iload_n h d_Mod_mended_79 rfl ?_
        refine pg_cS h d_Mod_mended_80 m_Mod_parity l_Mod_73 (c_Mod_parity w ok S p) rfl rfl (Nat.le_of_ble_eq_true rfl) ⟨(Nat.le_of_ble_eq_true rfl), (Nat.le_of_ble_eq_true rfl)⟩ ⟨Nat.le_refl _, Nat.le_refl _⟩ ?_
        refine pg_iconst (v := 1) h d_Mod_mended_83 (by decide) ?_
        refine pg_icmp_ne (tgt := 91) h d_Mod_mended_84 rfl (fun e84 => ?_) (fun e84 => absurd e84 hp)
        refine pg_iconst (v := 0) h d_Mod_mended_91 (by decide) ?_
        refine pg_istore_n h d_Mod_mended_92 (Nat.le_of_ble_eq_true rfl) rfl rfl ?_
        refine pg_iload_n h d_Mod_mended_93 rfl ?_
        refine pg_if_eq (tgt := 103) h d_Mod_mended_94 rfl (fun e94 => ?_) (fun e94 => absurd e94 (fun q => q (by decide)))
        refine pg_iload_n h d_Mod_mended_103 rfl ?_
        refine pg_if_ne (tgt := 113) h d_Mod_mended_104 rfl (fun e104 => absurd e104 (by decide)) (fun e104 => ?_)
        refine pg_iload_n h d_Mod_mended_107 rfl ?_
        refine pg_bipush (v := 24) h d_Mod_mended_108 (by decide) ?_
        refine pg_icmp_lt (tgt := 125) h d_Mod_mended_110 rfl (fun e110 => absurd e110 hl) (fun e110 => ?_)
        refine pg_aload_n h d_Mod_mended_113 rfl ?_
        refine pf_get h ok d_Mod_mended_114 f_Mod_41 (by first | rfl | exact hk | exact hk2 | exact dm12 _ | assumption) rfl rfl ?_
        refine pg_iconst (v := 3) h d_Mod_mended_117 (by decide) ?_
        refine pg_dup2 h d_Mod_mended_118 rfl rfl ?_
        refine pf_ild h ok d_Mod_mended_119 (by first | rfl | exact hk | exact hk2 | exact dm12 _ | assumption) rfl (pg_ixN (j := 3) rfl (by decide) (by decide)) ?_
        refine pg_iconst (v := 1) h d_Mod_mended_120 (by decide) ?_
        refine pg_iadd h d_Mod_mended_121 ?_
        refine pf_ist h ok d_Mod_mended_122 (by first | rfl | exact hk | exact hk2 | exact dm12 _ | assumption) (fun _ => rfl) (pg_ixN (j := 3) rfl (by decide) (by decide)) ?_
        refine pg_iconst (v := (-1)) h d_Mod_mended_123 (by decide) ?_
        exact pm_iret h d_Mod_mended_124 rfl (by first | rfl | simp [*]) (by rw [← hR.2.1 3 (by decide)]; exact hR.cnt) (hg.st (by decide))
  have outer : ∀ (n k : Nat) (X Y : Option Value), k + n = 5 → pg_G κ w.1 6 0 0 (pm_Q κ w (some (.int (mdP p (failTo p 5)))) z (tripT A p (failTo p 5)) S0) (pf_P w (S)) 4 [some (.ref (w.2.1 20 0)), some (.int p), some (.int (mfS p k)), some (.int (nI k)), X, Y] [] := by
    intro n
    induction n with
    | zero =>
      intro k X Y hk
      have hk : k = 5 := by omega
      subst hk
      rw [h2]
      refine pg_iload_n h d_Mod_mended_4 rfl ?_
      refine pg_iconst (v := 5) h d_Mod_mended_5 (by decide) ?_
      refine pg_icmp_ge (tgt := 79) h d_Mod_mended_6 rfl (fun e6 => ?_) (fun e6 => absurd e6 (fun e => e (by decide)))
      exact tail X Y
    | succ n ih =>
      intro k X Y hk
      have hk2 : k < 5 := by omega
      have inner : ∀ (n i : Nat), i + n = 23 → pg_G κ w.1 6 0 0 (pm_Q κ w (some (.int (mdP p (failTo p 5)))) z (tripT A p (failTo p 5)) S0) (pf_P w (S)) 15 [some (.ref (w.2.1 20 0)), some (.int p), some (.int (mfS p k)), some (.int (nI k)), some (.int (msC p k i)), some (.int (nI (i + 1)))] [] := by
        intro n
        induction n with
        | zero =>
          intro i hi
          have hi : i = 23 := by omega
          subst hi
          refine pg_iload h d_Mod_mended_15 rfl ?_
          refine pg_bipush (v := 24) h d_Mod_mended_17 (by decide) ?_
          refine pg_icmp_ge (tgt := 56) h d_Mod_mended_19 rfl (fun e19 => ?_) (fun e19 => absurd e19 (fun e => e (by decide)))
          refine pg_iload h d_Mod_mended_56 rfl ?_
          refine pg_iconst (v := 2) h d_Mod_mended_58 (by decide) ?_
          refine pg_irem h d_Mod_mended_59 (by decide) ?_
          refine pg_if_ne (tgt := 71) h d_Mod_mended_60 rfl (fun e60 => ?_) (fun e60 => ?_)
          · skip
            refine pg_iload_n h d_Mod_mended_71 rfl ?_
            refine pg_istore_n h d_Mod_mended_72 (Nat.le_of_ble_eq_true rfl) rfl rfl ?_
            refine pg_iinc (w := 1) h d_Mod_mended_73 rfl (by decide) (Nat.le_of_ble_eq_true rfl) rfl rfl ?_
            refine pg_goto (tgt := 4) h d_Mod_mended_76 rfl ?_
            rw [← nI_succ k]
            have q := ih (k + 1) (some (.int (msC p k 23))) (some (.int (nI (23 + 1)))) (by omega)
            rw [mfS] at q
            first
              | (rw [if_pos e60] at q; exact q)
              | (rw [if_neg e60] at q; exact q)
          refine pg_iload_n h d_Mod_mended_63 rfl ?_
          refine pg_iconst (v := 1) h d_Mod_mended_64 (by decide) ?_
          refine pg_iload_n h d_Mod_mended_65 rfl ?_
          refine pg_ishl h d_Mod_mended_66 ?_
          refine pg_iadd h d_Mod_mended_67 ?_
          refine pg_goto (tgt := 72) h d_Mod_mended_68 rfl ?_
          refine pg_istore_n h d_Mod_mended_72 (Nat.le_of_ble_eq_true rfl) rfl rfl ?_
          refine pg_iinc (w := 1) h d_Mod_mended_73 rfl (by decide) (Nat.le_of_ble_eq_true rfl) rfl rfl ?_
          refine pg_goto (tgt := 4) h d_Mod_mended_76 rfl ?_
          rw [← nI_succ k]
          have q := ih (k + 1) (some (.int (msC p k 23))) (some (.int (nI (23 + 1)))) (by omega)
          rw [mfS] at q
          first
            | (rw [if_pos e60] at q; exact q)
            | (rw [if_neg e60] at q; exact q)
        | succ n ih2 =>
          intro i hi
          have hi2 : i < 23 := by omega
          have ms := ms_all k hk2 i hi2
          have em : nI (i + 1) - 1 = nI i := by rw [show nI (i + 1) - 1 = nI (i + 1 - 1) from pk_sub (a := i + 1) (b := 1) (by omega), Nat.add_sub_cancel]
          refine pg_iload h d_Mod_mended_15 rfl ?_
          refine pg_bipush (v := 24) h d_Mod_mended_17 (by decide) ?_
          refine pg_icmp_ge (tgt := 56) h d_Mod_mended_19 rfl (fun e19 => absurd e19 (nI_ge (show i + 1 < 24 by omega) (by decide))) (fun e19 => ?_)
          refine pg_iload h d_Mod_mended_22 rfl ?_
          refine pg_iload_n h d_Mod_mended_24 rfl ?_
          refine pg_ishr h d_Mod_mended_25 ?_
          refine pg_iconst (v := 1) h d_Mod_mended_26 (by decide) ?_
          refine pg_iand h d_Mod_mended_27 ?_
          refine pg_iconst (v := 1) h d_Mod_mended_28 (by decide) ?_
          refine pg_icmp_ne (tgt := 46) h d_Mod_mended_29 rfl (fun e29 => ?_) (fun e29 => ?_)
          · skip
            refine pg_iload h d_Mod_mended_46 rfl ?_
            refine pg_istore h d_Mod_mended_48 (Nat.le_of_ble_eq_true rfl) rfl rfl ?_
            refine pg_iinc (w := 1) h d_Mod_mended_50 rfl (by decide) (Nat.le_of_ble_eq_true rfl) rfl rfl ?_
            refine pg_goto (tgt := 15) h d_Mod_mended_53 rfl ?_
            rw [← nI_succ (i + 1)]
            have q := ih2 (i + 1) (by omega)
            rw [msC] at q
            first
              | (rw [if_pos (ms.mp e29)] at q; exact q)
              | (rw [if_neg (fun w => e29 (ms.mpr w))] at q; exact q)
          refine pg_iload h d_Mod_mended_32 rfl ?_
          refine pg_iload_n h d_Mod_mended_34 rfl ?_
          refine pg_iload h d_Mod_mended_35 rfl ?_
          refine pg_iconst (v := 1) h d_Mod_mended_37 (by decide) ?_
          refine pg_isub h d_Mod_mended_38 ?_
          rw [em]
          refine pg_ishr h d_Mod_mended_39 ?_
          refine pg_iconst (v := 1) h d_Mod_mended_40 (by decide) ?_
          refine pg_iand h d_Mod_mended_41 ?_
          refine pg_iadd h d_Mod_mended_42 ?_
          refine pg_goto (tgt := 48) h d_Mod_mended_43 rfl ?_
          refine pg_istore h d_Mod_mended_48 (Nat.le_of_ble_eq_true rfl) rfl rfl ?_
          refine pg_iinc (w := 1) h d_Mod_mended_50 rfl (by decide) (Nat.le_of_ble_eq_true rfl) rfl rfl ?_
          refine pg_goto (tgt := 15) h d_Mod_mended_53 rfl ?_
          rw [← nI_succ (i + 1)]
          have q := ih2 (i + 1) (by omega)
          rw [msC] at q
          first
            | (rw [if_pos (ms.mp e29)] at q; exact q)
            | (rw [if_neg (fun w => e29 (ms.mpr w))] at q; exact q)
      refine pg_iload_n h d_Mod_mended_4 rfl ?_
      refine pg_iconst (v := 5) h d_Mod_mended_5 (by decide) ?_
      refine pg_icmp_ge (tgt := 79) h d_Mod_mended_6 rfl (fun e6 => absurd e6 (nI_ge hk2 (by decide))) (fun e6 => ?_)
      refine pg_iconst (v := 0) h d_Mod_mended_9 (by decide) ?_
      refine pg_istore h d_Mod_mended_10 (Nat.le_of_ble_eq_true rfl) (by first | rfl | (cases X <;> rfl)) rfl ?_
      refine pg_iconst (v := 1) h d_Mod_mended_12 (by decide) ?_
      refine pg_istore h d_Mod_mended_13 (Nat.le_of_ble_eq_true rfl) (by first | rfl | (cases X <;> rfl)) rfl ?_
      exact inner 23 0 rfl
  refine pg_iconst (v := 0) h d_Mod_mended_0 (by decide) ?_
  refine pg_istore_n h d_Mod_mended_1 (Nat.le_of_ble_eq_true rfl) rfl rfl ?_
  refine pg_iconst (v := 0) h d_Mod_mended_2 (by decide) ?_
  refine pg_istore_n h d_Mod_mended_3 (Nat.le_of_ble_eq_true rfl) rfl rfl ?_
  exact outer 5 0 none none rfl
