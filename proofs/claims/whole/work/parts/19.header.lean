/-! Tuner.beginPage, takeHeader, takePacket; feed. -/
/-- a page's number, out of the header -/
def numF (S : pf_S) (m : Nat) : Int32 := 256 * nI m + 16 * S 11 0 1 + S 11 0 0
/-- Tuner.beginPage -/
def bpA (S : pf_S) (P m : Nat) : pf_S := if S 11 0 3 < 8 then (match fndF S P (numF S m) with
  | none => begP S m (numF S m)
  | some k => cpP S k m) else begP S m (numF S m)
def bpF (S : pf_S) (P m : Nat) : pf_S := pf_st (pf_st (bpA S P m) 14 m 2 (S 11 0 2)) 14 m 3 (S 11 0 5 - S 11 0 5 / 8 * 8)
theorem begP_11 (S : pf_S) (k : Nat) (n : Int32) : begP S k n 11 = S 11 := rfl
theorem cpP_11 (S : pf_S) (k2 k : Nat) : cpP S k2 k 11 = S 11 := by
  funext b j
  simp [cpP]

set_option maxRecDepth 100000 in
set_option maxHeartbeats 4000000 in
theorem c_Tuner_beginPage (w : pf_W) (ok : pf_ok w) (S : pf_S) (hw : 1 ≤ w.2.2.1 ∧ w.2.2.1 ≤ 4) (m : Nat) (hm : m < 8) : pf_C w y_Tuner_beginPage b_Tuner_beginPage 5 none 2 61 [.ref (w.2.1 8 0), .int (nI m)] S (none) (bpF S w.2.2.1 m) := by
  refine pf_enter (by decide) (Nat.le_of_ble_eq_true rfl) (lv0 := [some (.ref (w.2.1 8 0)), some (.int (nI m)), none, none, none]) rfl (fun κ h => ?_)
  have hk : pf_dm w.2.2.1 14 m = true := dmC hm
  by_cases h8 : S 11 0 3 < 8
  · cases hf : fndF S w.2.2.1 (numF S m) with
    | none =>
      refine pg_sipush (v := 256) h d_Tuner_beginPage_0 (by decide) ?_
      refine pg_iload_n h d_Tuner_beginPage_3 rfl ?_
      refine pg_imul h d_Tuner_beginPage_4 ?_
      refine pg_bipush (v := 16) h d_Tuner_beginPage_5 (by decide) ?_
      refine pg_aload_n h d_Tuner_beginPage_7 rfl ?_
      refine pf_get h ok d_Tuner_beginPage_8 f_Tuner_21 (by first | rfl | exact hk | exact hk2 | exact dm12 _ | assumption) rfl rfl ?_
      try simp only [begP_11, cpP_11, show ∀ (S : pf_S) (k j : Nat) (v : Int32), pf_st S 14 k j v 11 = S 11 from fun _ _ _ _ => rfl]
      refine pg_iconst (v := 1) h d_Tuner_beginPage_11 (by decide) ?_
      refine pf_ild h ok d_Tuner_beginPage_12 (by first | rfl | exact hk | exact hk2 | exact dm12 _ | assumption) rfl (pg_ixN (j := 1) rfl (by decide) (by decide)) ?_
      try simp only [begP_11, cpP_11, show ∀ (S : pf_S) (k j : Nat) (v : Int32), pf_st S 14 k j v 11 = S 11 from fun _ _ _ _ => rfl]
      refine pg_imul h d_Tuner_beginPage_13 ?_
      refine pg_iadd h d_Tuner_beginPage_14 ?_
      refine pg_aload_n h d_Tuner_beginPage_15 rfl ?_
      refine pf_get h ok d_Tuner_beginPage_16 f_Tuner_21 (by first | rfl | exact hk | exact hk2 | exact dm12 _ | assumption) rfl rfl ?_
      try simp only [begP_11, cpP_11, show ∀ (S : pf_S) (k j : Nat) (v : Int32), pf_st S 14 k j v 11 = S 11 from fun _ _ _ _ => rfl]
      refine pg_iconst (v := 0) h d_Tuner_beginPage_19 (by decide) ?_
      refine pf_ild h ok d_Tuner_beginPage_20 (by first | rfl | exact hk | exact hk2 | exact dm12 _ | assumption) rfl (pg_ixN (j := 0) rfl (by decide) (by decide)) ?_
      try simp only [begP_11, cpP_11, show ∀ (S : pf_S) (k j : Nat) (v : Int32), pf_st S 14 k j v 11 = S 11 from fun _ _ _ _ => rfl]
      refine pg_iadd h d_Tuner_beginPage_21 ?_
      refine pg_istore_n h d_Tuner_beginPage_22 (Nat.le_of_ble_eq_true rfl) rfl rfl ?_
      refine pg_aload_n h d_Tuner_beginPage_23 rfl ?_
      refine pf_get h ok d_Tuner_beginPage_24 f_Tuner_11 (by first | rfl | exact hk | exact hk2 | exact dm12 _ | assumption) rfl rfl ?_
      try simp only [begP_11, cpP_11, show ∀ (S : pf_S) (k j : Nat) (v : Int32), pf_st S 14 k j v 11 = S 11 from fun _ _ _ _ => rfl]
      refine pg_iload_n h d_Tuner_beginPage_27 rfl ?_
      refine pf_ald h ok d_Tuner_beginPage_28 (by first | rfl | exact hk | exact hk2 | exact dm12 _ | assumption) rfl (pg_ixN rfl hm (by decide)) rfl ?_
      refine pg_astore_n h d_Tuner_beginPage_29 (Nat.le_of_ble_eq_true rfl) rfl rfl ?_
      refine pg_aload_n h d_Tuner_beginPage_30 rfl ?_
      refine pf_get h ok d_Tuner_beginPage_31 f_Tuner_21 (by first | rfl | exact hk | exact hk2 | exact dm12 _ | assumption) rfl rfl ?_
      try simp only [begP_11, cpP_11, show ∀ (S : pf_S) (k j : Nat) (v : Int32), pf_st S 14 k j v 11 = S 11 from fun _ _ _ _ => rfl]
      refine pg_iconst (v := 3) h d_Tuner_beginPage_34 (by decide) ?_
      refine pf_ild h ok d_Tuner_beginPage_35 (by first | rfl | exact hk | exact hk2 | exact dm12 _ | assumption) rfl (pg_ixN (j := 3) rfl (by decide) (by decide)) ?_
      try simp only [begP_11, cpP_11, show ∀ (S : pf_S) (k j : Nat) (v : Int32), pf_st S 14 k j v 11 = S 11 from fun _ _ _ _ => rfl]
      refine pg_bipush (v := 8) h d_Tuner_beginPage_36 (by decide) ?_
      refine pg_icmp_ge (tgt := 52) h d_Tuner_beginPage_38 rfl (fun e38 => absurd e38 (Int32.not_le.mpr h8)) (fun e38 => ?_)
      refine pg_aload_n h d_Tuner_beginPage_41 rfl ?_
      refine pf_get h ok d_Tuner_beginPage_42 f_Tuner_28 (by first | rfl | exact hk | exact hk2 | exact dm12 _ | assumption) rfl rfl ?_
      try simp only [begP_11, cpP_11, show ∀ (S : pf_S) (k j : Nat) (v : Int32), pf_st S 14 k j v 11 = S 11 from fun _ _ _ _ => rfl]
      refine pg_iload_n h d_Tuner_beginPage_45 rfl ?_
      refine pf_cV h ok d_Tuner_beginPage_46 m_Shelf_find l_Tuner_101 (c_find_none w ok S hw _ hf) cn_Shelf (by first | rfl | exact hk | exact hk2 | exact dm12 _ | assumption) rfl rfl rfl (Nat.le_of_ble_eq_true rfl) ⟨(Nat.le_of_ble_eq_true rfl), (Nat.le_of_ble_eq_true rfl)⟩ ⟨Nat.le_refl _, Nat.le_refl _⟩ ?_
      try simp only [begP_11, cpP_11, show ∀ (S : pf_S) (k j : Nat) (v : Int32), pf_st S 14 k j v 11 = S 11 from fun _ _ _ _ => rfl]
      refine pg_goto (tgt := 53) h d_Tuner_beginPage_49 rfl ?_
      refine pg_astoreN h d_Tuner_beginPage_53 (Nat.le_of_ble_eq_true rfl) rfl rfl ?_
      refine pg_aloadN h d_Tuner_beginPage_55 rfl ?_
      refine pg_ifnonnullN h d_Tuner_beginPage_57 ?_
      refine pg_aload_n h d_Tuner_beginPage_60 rfl ?_
      refine pg_iload_n h d_Tuner_beginPage_61 rfl ?_
      refine pf_cV0 h ok d_Tuner_beginPage_62 m_Page_begin l_Tuner_105 (c_Page_begin w ok S m hk _) cn_Page (by first | rfl | exact hk | exact hk2 | exact dm12 _ | assumption) rfl rfl rfl (Nat.le_of_ble_eq_true rfl) ⟨(Nat.le_of_ble_eq_true rfl), (Nat.le_of_ble_eq_true rfl)⟩ ⟨Nat.le_refl _, Nat.le_refl _⟩ ?_
      try simp only [begP_11, cpP_11, show ∀ (S : pf_S) (k j : Nat) (v : Int32), pf_st S 14 k j v 11 = S 11 from fun _ _ _ _ => rfl]
      refine pg_goto (tgt := 74) h d_Tuner_beginPage_65 rfl ?_
      refine pg_aload_n h d_Tuner_beginPage_74 rfl ?_
      refine pg_aload_n h d_Tuner_beginPage_75 rfl ?_
      refine pf_get h ok d_Tuner_beginPage_76 f_Tuner_21 (by first | rfl | exact hk | exact hk2 | exact dm12 _ | assumption) rfl rfl ?_
      try simp only [begP_11, cpP_11, show ∀ (S : pf_S) (k j : Nat) (v : Int32), pf_st S 14 k j v 11 = S 11 from fun _ _ _ _ => rfl]
      refine pg_iconst (v := 2) h d_Tuner_beginPage_79 (by decide) ?_
      refine pf_ild h ok d_Tuner_beginPage_80 (by first | rfl | exact hk | exact hk2 | exact dm12 _ | assumption) rfl (pg_ixN (j := 2) rfl (by decide) (by decide)) ?_
      try simp only [begP_11, cpP_11, show ∀ (S : pf_S) (k j : Nat) (v : Int32), pf_st S 14 k j v 11 = S 11 from fun _ _ _ _ => rfl]
      refine pf_puti h ok d_Tuner_beginPage_81 fw_Tuner_111 (by first | rfl | exact hk | exact hk2 | exact dm12 _ | assumption) rfl (Nat.le_of_ble_eq_true rfl) rfl ?_
      try simp only [begP_11, cpP_11, show ∀ (S : pf_S) (k j : Nat) (v : Int32), pf_st S 14 k j v 11 = S 11 from fun _ _ _ _ => rfl]
      refine pg_aload_n h d_Tuner_beginPage_84 rfl ?_
      refine pg_aload_n h d_Tuner_beginPage_85 rfl ?_
      refine pf_get h ok d_Tuner_beginPage_86 f_Tuner_21 (by first | rfl | exact hk | exact hk2 | exact dm12 _ | assumption) rfl rfl ?_
      try simp only [begP_11, cpP_11, show ∀ (S : pf_S) (k j : Nat) (v : Int32), pf_st S 14 k j v 11 = S 11 from fun _ _ _ _ => rfl]
      refine pg_iconst (v := 5) h d_Tuner_beginPage_89 (by decide) ?_
      refine pf_ild h ok d_Tuner_beginPage_90 (by first | rfl | exact hk | exact hk2 | exact dm12 _ | assumption) rfl (pg_ixN (j := 5) rfl (by decide) (by decide)) ?_
      try simp only [begP_11, cpP_11, show ∀ (S : pf_S) (k j : Nat) (v : Int32), pf_st S 14 k j v 11 = S 11 from fun _ _ _ _ => rfl]
      refine pg_bipush (v := 8) h d_Tuner_beginPage_91 (by decide) ?_
      refine pg_irem h d_Tuner_beginPage_93 (by decide) ?_
      refine pf_puti h ok d_Tuner_beginPage_94 fw_Tuner_114 (by first | rfl | exact hk | exact hk2 | exact dm12 _ | assumption) rfl (Nat.le_of_ble_eq_true rfl) rfl ?_
      try simp only [begP_11, cpP_11, show ∀ (S : pf_S) (k j : Nat) (v : Int32), pf_st S 14 k j v 11 = S 11 from fun _ _ _ _ => rfl]
      exact pf_vret h d_Tuner_beginPage_97 (by simp only [bpF, bpA, if_pos h8, hf]; rfl)
    | some k =>
      have hk2 : pf_dm w.2.2.1 14 k = true := dmK (fndF_some hf).2.1
      have hne : k ≠ m := by have := (fndF_some hf).1; omega
      refine pg_sipush (v := 256) h d_Tuner_beginPage_0 (by decide) ?_
      refine pg_iload_n h d_Tuner_beginPage_3 rfl ?_
      refine pg_imul h d_Tuner_beginPage_4 ?_
      refine pg_bipush (v := 16) h d_Tuner_beginPage_5 (by decide) ?_
      refine pg_aload_n h d_Tuner_beginPage_7 rfl ?_
      refine pf_get h ok d_Tuner_beginPage_8 f_Tuner_21 (by first | rfl | exact hk | exact hk2 | exact dm12 _ | assumption) rfl rfl ?_
      try simp only [begP_11, cpP_11, show ∀ (S : pf_S) (k j : Nat) (v : Int32), pf_st S 14 k j v 11 = S 11 from fun _ _ _ _ => rfl]
      refine pg_iconst (v := 1) h d_Tuner_beginPage_11 (by decide) ?_
      refine pf_ild h ok d_Tuner_beginPage_12 (by first | rfl | exact hk | exact hk2 | exact dm12 _ | assumption) rfl (pg_ixN (j := 1) rfl (by decide) (by decide)) ?_
      try simp only [begP_11, cpP_11, show ∀ (S : pf_S) (k j : Nat) (v : Int32), pf_st S 14 k j v 11 = S 11 from fun _ _ _ _ => rfl]
      refine pg_imul h d_Tuner_beginPage_13 ?_
      refine pg_iadd h d_Tuner_beginPage_14 ?_
      refine pg_aload_n h d_Tuner_beginPage_15 rfl ?_
      refine pf_get h ok d_Tuner_beginPage_16 f_Tuner_21 (by first | rfl | exact hk | exact hk2 | exact dm12 _ | assumption) rfl rfl ?_
      try simp only [begP_11, cpP_11, show ∀ (S : pf_S) (k j : Nat) (v : Int32), pf_st S 14 k j v 11 = S 11 from fun _ _ _ _ => rfl]
      refine pg_iconst (v := 0) h d_Tuner_beginPage_19 (by decide) ?_
      refine pf_ild h ok d_Tuner_beginPage_20 (by first | rfl | exact hk | exact hk2 | exact dm12 _ | assumption) rfl (pg_ixN (j := 0) rfl (by decide) (by decide)) ?_
      try simp only [begP_11, cpP_11, show ∀ (S : pf_S) (k j : Nat) (v : Int32), pf_st S 14 k j v 11 = S 11 from fun _ _ _ _ => rfl]
      refine pg_iadd h d_Tuner_beginPage_21 ?_
      refine pg_istore_n h d_Tuner_beginPage_22 (Nat.le_of_ble_eq_true rfl) rfl rfl ?_
      refine pg_aload_n h d_Tuner_beginPage_23 rfl ?_
      refine pf_get h ok d_Tuner_beginPage_24 f_Tuner_11 (by first | rfl | exact hk | exact hk2 | exact dm12 _ | assumption) rfl rfl ?_
      try simp only [begP_11, cpP_11, show ∀ (S : pf_S) (k j : Nat) (v : Int32), pf_st S 14 k j v 11 = S 11 from fun _ _ _ _ => rfl]
      refine pg_iload_n h d_Tuner_beginPage_27 rfl ?_
      refine pf_ald h ok d_Tuner_beginPage_28 (by first | rfl | exact hk | exact hk2 | exact dm12 _ | assumption) rfl (pg_ixN rfl hm (by decide)) rfl ?_
      refine pg_astore_n h d_Tuner_beginPage_29 (Nat.le_of_ble_eq_true rfl) rfl rfl ?_
      refine pg_aload_n h d_Tuner_beginPage_30 rfl ?_
      refine pf_get h ok d_Tuner_beginPage_31 f_Tuner_21 (by first | rfl | exact hk | exact hk2 | exact dm12 _ | assumption) rfl rfl ?_
      try simp only [begP_11, cpP_11, show ∀ (S : pf_S) (k j : Nat) (v : Int32), pf_st S 14 k j v 11 = S 11 from fun _ _ _ _ => rfl]
      refine pg_iconst (v := 3) h d_Tuner_beginPage_34 (by decide) ?_
      refine pf_ild h ok d_Tuner_beginPage_35 (by first | rfl | exact hk | exact hk2 | exact dm12 _ | assumption) rfl (pg_ixN (j := 3) rfl (by decide) (by decide)) ?_
      try simp only [begP_11, cpP_11, show ∀ (S : pf_S) (k j : Nat) (v : Int32), pf_st S 14 k j v 11 = S 11 from fun _ _ _ _ => rfl]
      refine pg_bipush (v := 8) h d_Tuner_beginPage_36 (by decide) ?_
      refine pg_icmp_ge (tgt := 52) h d_Tuner_beginPage_38 rfl (fun e38 => absurd e38 (Int32.not_le.mpr h8)) (fun e38 => ?_)
      refine pg_aload_n h d_Tuner_beginPage_41 rfl ?_
      refine pf_get h ok d_Tuner_beginPage_42 f_Tuner_28 (by first | rfl | exact hk | exact hk2 | exact dm12 _ | assumption) rfl rfl ?_
      try simp only [begP_11, cpP_11, show ∀ (S : pf_S) (k j : Nat) (v : Int32), pf_st S 14 k j v 11 = S 11 from fun _ _ _ _ => rfl]
      refine pg_iload_n h d_Tuner_beginPage_45 rfl ?_
      refine pf_cV h ok d_Tuner_beginPage_46 m_Shelf_find l_Tuner_101 (c_find_some w ok S hw _ hf) cn_Shelf (by first | rfl | exact hk | exact hk2 | exact dm12 _ | assumption) rfl rfl rfl (Nat.le_of_ble_eq_true rfl) ⟨(Nat.le_of_ble_eq_true rfl), (Nat.le_of_ble_eq_true rfl)⟩ ⟨Nat.le_refl _, Nat.le_refl _⟩ ?_
      try simp only [begP_11, cpP_11, show ∀ (S : pf_S) (k j : Nat) (v : Int32), pf_st S 14 k j v 11 = S 11 from fun _ _ _ _ => rfl]
      refine pg_goto (tgt := 53) h d_Tuner_beginPage_49 rfl ?_
      refine pg_astore h d_Tuner_beginPage_53 (Nat.le_of_ble_eq_true rfl) rfl rfl ?_
      refine pg_aload h d_Tuner_beginPage_55 rfl ?_
      refine pg_ifnonnull (tgt := 68) h d_Tuner_beginPage_57 rfl ?_
      refine pg_aload_n h d_Tuner_beginPage_68 rfl ?_
      refine pg_aload h d_Tuner_beginPage_69 rfl ?_
      refine pf_cV0 h ok d_Tuner_beginPage_71 m_Page_copyFrom l_Tuner_108 (c_Page_copyFrom w ok S m hk k hk2 hne) cn_Page (by first | rfl | exact hk | exact hk2 | exact dm12 _ | assumption) rfl rfl rfl (Nat.le_of_ble_eq_true rfl) ⟨(Nat.le_of_ble_eq_true rfl), (Nat.le_of_ble_eq_true rfl)⟩ ⟨Nat.le_refl _, Nat.le_refl _⟩ ?_
      try simp only [begP_11, cpP_11, show ∀ (S : pf_S) (k j : Nat) (v : Int32), pf_st S 14 k j v 11 = S 11 from fun _ _ _ _ => rfl]
      refine pg_aload_n h d_Tuner_beginPage_74 rfl ?_
      refine pg_aload_n h d_Tuner_beginPage_75 rfl ?_
      refine pf_get h ok d_Tuner_beginPage_76 f_Tuner_21 (by first | rfl | exact hk | exact hk2 | exact dm12 _ | assumption) rfl rfl ?_
      try simp only [begP_11, cpP_11, show ∀ (S : pf_S) (k j : Nat) (v : Int32), pf_st S 14 k j v 11 = S 11 from fun _ _ _ _ => rfl]
      refine pg_iconst (v := 2) h d_Tuner_beginPage_79 (by decide) ?_
      refine pf_ild h ok d_Tuner_beginPage_80 (by first | rfl | exact hk | exact hk2 | exact dm12 _ | assumption) rfl (pg_ixN (j := 2) rfl (by decide) (by decide)) ?_
      try simp only [begP_11, cpP_11, show ∀ (S : pf_S) (k j : Nat) (v : Int32), pf_st S 14 k j v 11 = S 11 from fun _ _ _ _ => rfl]
      refine pf_puti h ok d_Tuner_beginPage_81 fw_Tuner_111 (by first | rfl | exact hk | exact hk2 | exact dm12 _ | assumption) rfl (Nat.le_of_ble_eq_true rfl) rfl ?_
      try simp only [begP_11, cpP_11, show ∀ (S : pf_S) (k j : Nat) (v : Int32), pf_st S 14 k j v 11 = S 11 from fun _ _ _ _ => rfl]
      refine pg_aload_n h d_Tuner_beginPage_84 rfl ?_
      refine pg_aload_n h d_Tuner_beginPage_85 rfl ?_
      refine pf_get h ok d_Tuner_beginPage_86 f_Tuner_21 (by first | rfl | exact hk | exact hk2 | exact dm12 _ | assumption) rfl rfl ?_
      try simp only [begP_11, cpP_11, show ∀ (S : pf_S) (k j : Nat) (v : Int32), pf_st S 14 k j v 11 = S 11 from fun _ _ _ _ => rfl]
      refine pg_iconst (v := 5) h d_Tuner_beginPage_89 (by decide) ?_
      refine pf_ild h ok d_Tuner_beginPage_90 (by first | rfl | exact hk | exact hk2 | exact dm12 _ | assumption) rfl (pg_ixN (j := 5) rfl (by decide) (by decide)) ?_
      try simp only [begP_11, cpP_11, show ∀ (S : pf_S) (k j : Nat) (v : Int32), pf_st S 14 k j v 11 = S 11 from fun _ _ _ _ => rfl]
      refine pg_bipush (v := 8) h d_Tuner_beginPage_91 (by decide) ?_
      refine pg_irem h d_Tuner_beginPage_93 (by decide) ?_
      refine pf_puti h ok d_Tuner_beginPage_94 fw_Tuner_114 (by first | rfl | exact hk | exact hk2 | exact dm12 _ | assumption) rfl (Nat.le_of_ble_eq_true rfl) rfl ?_
      try simp only [begP_11, cpP_11, show ∀ (S : pf_S) (k j : Nat) (v : Int32), pf_st S 14 k j v 11 = S 11 from fun _ _ _ _ => rfl]
      exact pf_vret h d_Tuner_beginPage_97 (by simp only [bpF, bpA, if_pos h8, hf])
  · skip
    refine pg_sipush (v := 256) h d_Tuner_beginPage_0 (by decide) ?_
    refine pg_iload_n h d_Tuner_beginPage_3 rfl ?_
    refine pg_imul h d_Tuner_beginPage_4 ?_
    refine pg_bipush (v := 16) h d_Tuner_beginPage_5 (by decide) ?_
    refine pg_aload_n h d_Tuner_beginPage_7 rfl ?_
    refine pf_get h ok d_Tuner_beginPage_8 f_Tuner_21 (by first | rfl | exact hk | exact hk2 | exact dm12 _ | assumption) rfl rfl ?_
    try simp only [begP_11, cpP_11, show ∀ (S : pf_S) (k j : Nat) (v : Int32), pf_st S 14 k j v 11 = S 11 from fun _ _ _ _ => rfl]
    refine pg_iconst (v := 1) h d_Tuner_beginPage_11 (by decide) ?_
    refine pf_ild h ok d_Tuner_beginPage_12 (by first | rfl | exact hk | exact hk2 | exact dm12 _ | assumption) rfl (pg_ixN (j := 1) rfl (by decide) (by decide)) ?_
    try simp only [begP_11, cpP_11, show ∀ (S : pf_S) (k j : Nat) (v : Int32), pf_st S 14 k j v 11 = S 11 from fun _ _ _ _ => rfl]
    refine pg_imul h d_Tuner_beginPage_13 ?_
    refine pg_iadd h d_Tuner_beginPage_14 ?_
    refine pg_aload_n h d_Tuner_beginPage_15 rfl ?_
    refine pf_get h ok d_Tuner_beginPage_16 f_Tuner_21 (by first | rfl | exact hk | exact hk2 | exact dm12 _ | assumption) rfl rfl ?_
    try simp only [begP_11, cpP_11, show ∀ (S : pf_S) (k j : Nat) (v : Int32), pf_st S 14 k j v 11 = S 11 from fun _ _ _ _ => rfl]
    refine pg_iconst (v := 0) h d_Tuner_beginPage_19 (by decide) ?_
    refine pf_ild h ok d_Tuner_beginPage_20 (by first | rfl | exact hk | exact hk2 | exact dm12 _ | assumption) rfl (pg_ixN (j := 0) rfl (by decide) (by decide)) ?_
    try simp only [begP_11, cpP_11, show ∀ (S : pf_S) (k j : Nat) (v : Int32), pf_st S 14 k j v 11 = S 11 from fun _ _ _ _ => rfl]
    refine pg_iadd h d_Tuner_beginPage_21 ?_
    refine pg_istore_n h d_Tuner_beginPage_22 (Nat.le_of_ble_eq_true rfl) rfl rfl ?_
    refine pg_aload_n h d_Tuner_beginPage_23 rfl ?_
    refine pf_get h ok d_Tuner_beginPage_24 f_Tuner_11 (by first | rfl | exact hk | exact hk2 | exact dm12 _ | assumption) rfl rfl ?_
    try simp only [begP_11, cpP_11, show ∀ (S : pf_S) (k j : Nat) (v : Int32), pf_st S 14 k j v 11 = S 11 from fun _ _ _ _ => rfl]
    refine pg_iload_n h d_Tuner_beginPage_27 rfl ?_
    refine pf_ald h ok d_Tuner_beginPage_28 (by first | rfl | exact hk | exact hk2 | exact dm12 _ | assumption) rfl (pg_ixN rfl hm (by decide)) rfl ?_
    refine pg_astore_n h d_Tuner_beginPage_29 (Nat.le_of_ble_eq_true rfl) rfl rfl ?_
    refine pg_aload_n h d_Tuner_beginPage_30 rfl ?_
    refine pf_get h ok d_Tuner_beginPage_31 f_Tuner_21 (by first | rfl | exact hk | exact hk2 | exact dm12 _ | assumption) rfl rfl ?_
    try simp only [begP_11, cpP_11, show ∀ (S : pf_S) (k j : Nat) (v : Int32), pf_st S 14 k j v 11 = S 11 from fun _ _ _ _ => rfl]
    refine pg_iconst (v := 3) h d_Tuner_beginPage_34 (by decide) ?_
    refine pf_ild h ok d_Tuner_beginPage_35 (by first | rfl | exact hk | exact hk2 | exact dm12 _ | assumption) rfl (pg_ixN (j := 3) rfl (by decide) (by decide)) ?_
    try simp only [begP_11, cpP_11, show ∀ (S : pf_S) (k j : Nat) (v : Int32), pf_st S 14 k j v 11 = S 11 from fun _ _ _ _ => rfl]
    refine pg_bipush (v := 8) h d_Tuner_beginPage_36 (by decide) ?_
    refine pg_icmp_ge (tgt := 52) h d_Tuner_beginPage_38 rfl (fun e38 => ?_) (fun e38 => absurd e38 (fun q => h8 (Int32.not_le.mp q)))
    refine pg_null h d_Tuner_beginPage_52 ?_
    refine pg_astoreN h d_Tuner_beginPage_53 (Nat.le_of_ble_eq_true rfl) rfl rfl ?_
    refine pg_aloadN h d_Tuner_beginPage_55 rfl ?_
    refine pg_ifnonnullN h d_Tuner_beginPage_57 ?_
    refine pg_aload_n h d_Tuner_beginPage_60 rfl ?_
    refine pg_iload_n h d_Tuner_beginPage_61 rfl ?_
    refine pf_cV0 h ok d_Tuner_beginPage_62 m_Page_begin l_Tuner_105 (c_Page_begin w ok S m hk _) cn_Page (by first | rfl | exact hk | exact hk2 | exact dm12 _ | assumption) rfl rfl rfl (Nat.le_of_ble_eq_true rfl) ⟨(Nat.le_of_ble_eq_true rfl), (Nat.le_of_ble_eq_true rfl)⟩ ⟨Nat.le_refl _, Nat.le_refl _⟩ ?_
    try simp only [begP_11, cpP_11, show ∀ (S : pf_S) (k j : Nat) (v : Int32), pf_st S 14 k j v 11 = S 11 from fun _ _ _ _ => rfl]
    refine pg_goto (tgt := 74) h d_Tuner_beginPage_65 rfl ?_
    refine pg_aload_n h d_Tuner_beginPage_74 rfl ?_
    refine pg_aload_n h d_Tuner_beginPage_75 rfl ?_
    refine pf_get h ok d_Tuner_beginPage_76 f_Tuner_21 (by first | rfl | exact hk | exact hk2 | exact dm12 _ | assumption) rfl rfl ?_
    try simp only [begP_11, cpP_11, show ∀ (S : pf_S) (k j : Nat) (v : Int32), pf_st S 14 k j v 11 = S 11 from fun _ _ _ _ => rfl]
    refine pg_iconst (v := 2) h d_Tuner_beginPage_79 (by decide) ?_
    refine pf_ild h ok d_Tuner_beginPage_80 (by first | rfl | exact hk | exact hk2 | exact dm12 _ | assumption) rfl (pg_ixN (j := 2) rfl (by decide) (by decide)) ?_
    try simp only [begP_11, cpP_11, show ∀ (S : pf_S) (k j : Nat) (v : Int32), pf_st S 14 k j v 11 = S 11 from fun _ _ _ _ => rfl]
    refine pf_puti h ok d_Tuner_beginPage_81 fw_Tuner_111 (by first | rfl | exact hk | exact hk2 | exact dm12 _ | assumption) rfl (Nat.le_of_ble_eq_true rfl) rfl ?_
    try simp only [begP_11, cpP_11, show ∀ (S : pf_S) (k j : Nat) (v : Int32), pf_st S 14 k j v 11 = S 11 from fun _ _ _ _ => rfl]
    refine pg_aload_n h d_Tuner_beginPage_84 rfl ?_
    refine pg_aload_n h d_Tuner_beginPage_85 rfl ?_
    refine pf_get h ok d_Tuner_beginPage_86 f_Tuner_21 (by first | rfl | exact hk | exact hk2 | exact dm12 _ | assumption) rfl rfl ?_
    try simp only [begP_11, cpP_11, show ∀ (S : pf_S) (k j : Nat) (v : Int32), pf_st S 14 k j v 11 = S 11 from fun _ _ _ _ => rfl]
    refine pg_iconst (v := 5) h d_Tuner_beginPage_89 (by decide) ?_
    refine pf_ild h ok d_Tuner_beginPage_90 (by first | rfl | exact hk | exact hk2 | exact dm12 _ | assumption) rfl (pg_ixN (j := 5) rfl (by decide) (by decide)) ?_
    try simp only [begP_11, cpP_11, show ∀ (S : pf_S) (k j : Nat) (v : Int32), pf_st S 14 k j v 11 = S 11 from fun _ _ _ _ => rfl]
    refine pg_bipush (v := 8) h d_Tuner_beginPage_91 (by decide) ?_
    refine pg_irem h d_Tuner_beginPage_93 (by decide) ?_
    refine pf_puti h ok d_Tuner_beginPage_94 fw_Tuner_114 (by first | rfl | exact hk | exact hk2 | exact dm12 _ | assumption) rfl (Nat.le_of_ble_eq_true rfl) rfl ?_
    try simp only [begP_11, cpP_11, show ∀ (S : pf_S) (k j : Nat) (v : Int32), pf_st S 14 k j v 11 = S 11 from fun _ _ _ _ => rfl]
    exact pf_vret h d_Tuner_beginPage_97 (by simp only [bpF, bpA, if_neg h8]; rfl)

/-- Tuner.takeHeader, once the header is read -/
noncomputable def hd1 (S : pf_S) (P m : Nat) : pf_S := ccF P m (if S 11 0 4 - S 11 0 4 / 2 * 2 = 1 then 1 else 0) S 8
noncomputable def hd2 (S : pf_S) (P m : Nat) (t : Int32) : pf_S := thF m (if t / 2 - t / 2 / 2 * 2 = 0 then 1 else 0) S 12
noncomputable def thdF (S : pf_S) (P m : Nat) : pf_S := if (rhF S).1 = 0 then pf_st (rhF S).2 1 0 1 ((rhF S).2 1 0 1 + 1) else hd2 (if hd1 (rhF S).2 P m 11 0 0 = 15 ∧ hd1 (rhF S).2 P m 11 0 1 = 15 then hd1 (rhF S).2 P m else bpF (hd1 (rhF S).2 P m) P m) P m ((rhF S).2 11 0 4)
theorem rhFrom_01 : ∀ {n i : Nat} {S : pf_S}, (rhFrom n i S).1 = 0 ∨ (rhFrom n i S).1 = 1 := by
  intro n
  induction n with
  | zero => intro i S; exact Or.inr rfl
  | succ n ih =>
    intro i S
    rw [rhFrom]
    split
    · exact Or.inl rfl
    · exact ih
theorem c_cc1 (w : pf_W) (ok : pf_ok w) (S : pf_S) (hw : 1 ≤ w.2.2.1 ∧ w.2.2.1 ≤ 4) (m : Nat) (hm : m < 8) : pf_C w y_Tuner_completeComing b_Tuner_completeComing 4 none 3 84 [.ref (w.2.1 8 0), .int (nI m), .int 1] S none (ccF w.2.2.1 m 1 S 8) := c_Tuner_completeComing w ok S hw m hm 1
theorem c_cc0 (w : pf_W) (ok : pf_ok w) (S : pf_S) (hw : 1 ≤ w.2.2.1 ∧ w.2.2.1 ≤ 4) (m : Nat) (hm : m < 8) : pf_C w y_Tuner_completeComing b_Tuner_completeComing 4 none 3 84 [.ref (w.2.1 8 0), .int (nI m), .int 0] S none (ccF w.2.2.1 m 0 S 8) := c_Tuner_completeComing w ok S hw m hm 0
theorem c_th1 (w : pf_W) (ok : pf_ok w) (S : pf_S) (k : Nat) (hk : pf_dm w.2.2.1 14 k = true) : pf_C w y_Tuner_takeHeaderLetters b_Tuner_takeHeaderLetters 5 none 3 62 [.ref (w.2.1 8 0), .ref (w.2.1 14 k), .int 1] S none (thF k 1 S 12) := c_Tuner_takeHeaderLetters w ok S k hk 1
theorem c_th0 (w : pf_W) (ok : pf_ok w) (S : pf_S) (k : Nat) (hk : pf_dm w.2.2.1 14 k = true) : pf_C w y_Tuner_takeHeaderLetters b_Tuner_takeHeaderLetters 5 none 3 62 [.ref (w.2.1 8 0), .ref (w.2.1 14 k), .int 0] S none (thF k 0 S 12) := c_Tuner_takeHeaderLetters w ok S k hk 0

set_option maxRecDepth 100000 in
set_option maxHeartbeats 4000000 in
theorem c_Tuner_takeHeader (w : pf_W) (ok : pf_ok w) (S : pf_S) (hw : 1 ≤ w.2.2.1 ∧ w.2.2.1 ≤ 4) (m : Nat) (hm : m < 8) : pf_C w y_Tuner_takeHeader b_Tuner_takeHeader 3 none 4 107 [.ref (w.2.1 8 0), .int (nI m)] S (none) (thdF S w.2.2.1 m) := by
  refine pf_enter (by decide) (Nat.le_of_ble_eq_true rfl) (lv0 := [some (.ref (w.2.1 8 0)), some (.int (nI m)), none]) rfl (fun κ h => ?_)
  have hk : pf_dm w.2.2.1 14 m = true := dmC hm
  by_cases h0 : (rhF S).1 = 0
  · skip
    refine pg_aload_n h d_Tuner_takeHeader_0 rfl ?_
    refine pf_cV h ok d_Tuner_takeHeader_1 m_Tuner_readHeader l_Tuner_75 (c_Tuner_readHeader w ok S) cn_Tuner (by first | rfl | exact hk | exact hk2 | exact dm12 _ | assumption) rfl rfl rfl (Nat.le_of_ble_eq_true rfl) ⟨(Nat.le_of_ble_eq_true rfl), (Nat.le_of_ble_eq_true rfl)⟩ ⟨Nat.le_refl _, Nat.le_refl _⟩ ?_
    refine pg_if_ne (tgt := 18) h d_Tuner_takeHeader_4 rfl (fun e4 => absurd e4 (fun q => q h0)) (fun e4 => ?_)
    refine pg_aload_n h d_Tuner_takeHeader_7 rfl ?_
    refine pf_get h ok d_Tuner_takeHeader_8 f_Tuner_36 (by first | rfl | exact hk | exact hk2 | exact dm12 _ | assumption) rfl rfl ?_
    refine pg_iconst (v := 1) h d_Tuner_takeHeader_11 (by decide) ?_
    refine pg_dup2 h d_Tuner_takeHeader_12 rfl rfl ?_
    refine pf_ild h ok d_Tuner_takeHeader_13 (by first | rfl | exact hk | exact hk2 | exact dm12 _ | assumption) rfl (pg_ixN (j := 1) rfl (by decide) (by decide)) ?_
    refine pg_iconst (v := 1) h d_Tuner_takeHeader_14 (by decide) ?_
    refine pg_iadd h d_Tuner_takeHeader_15 ?_
    refine pf_ist h ok d_Tuner_takeHeader_16 (by first | rfl | exact hk | exact hk2 | exact dm12 _ | assumption) (fun _ => rfl) (pg_ixN (j := 1) rfl (by decide) (by decide)) ?_
    exact pf_vret h d_Tuner_takeHeader_17 (by rw [thdF, if_pos h0])
  have tail : ∀ S1 : pf_S, thdF S w.2.2.1 m = hd2 S1 w.2.2.1 m ((rhF S).2 11 0 4) → pg_G κ w.1 3 0 0 (pg_Q κ w.1 (fun r' H => r' = none ∧ pf_P w (thdF S w.2.2.1 m) H) 0 0) (pf_P w (S1)) 69 [some (.ref (w.2.1 8 0)), some (.int (nI m)), some (.int ((rhF S).2 11 0 4))] [] := by
    intro S1 hS1
    refine pg_aload_n h d_Tuner_takeHeader_69 rfl ?_
    refine pg_aload_n h d_Tuner_takeHeader_70 rfl ?_
    refine pf_get h ok d_Tuner_takeHeader_71 f_Tuner_11 (by first | rfl | exact hk | exact hk2 | exact dm12 _ | assumption) rfl rfl ?_
    refine pg_iload_n h d_Tuner_takeHeader_74 rfl ?_
    refine pf_ald h ok d_Tuner_takeHeader_75 (by first | rfl | exact hk | exact hk2 | exact dm12 _ | assumption) rfl (pg_ixN rfl hm (by decide)) rfl ?_
    refine pg_iload_n h d_Tuner_takeHeader_76 rfl ?_
    refine pg_iconst (v := 2) h d_Tuner_takeHeader_77 (by decide) ?_
    refine pg_idiv h d_Tuner_takeHeader_78 (by decide) ?_
    refine pg_iconst (v := 2) h d_Tuner_takeHeader_79 (by decide) ?_
    refine pg_irem h d_Tuner_takeHeader_80 (by decide) ?_
    refine pg_if_ne (tgt := 88) h d_Tuner_takeHeader_81 rfl (fun e81 => ?_) (fun e81 => ?_)
    · skip
      refine pg_iconst (v := 0) h d_Tuner_takeHeader_88 (by decide) ?_
      first
        | (refine pf_cV0 h ok d_Tuner_takeHeader_89 m_Tuner_takeHeaderLetters l_Tuner_86 (c_th1 w ok S1 m hk) cn_Tuner rfl rfl rfl rfl (Nat.le_of_ble_eq_true rfl) ⟨Nat.le_of_ble_eq_true rfl, Nat.le_of_ble_eq_true rfl⟩ ⟨Nat.le_refl _, Nat.le_refl _⟩ ?_; exact pf_vret h d_Tuner_takeHeader_92 (by rw [hS1, hd2, if_pos e81]))
        | (refine pf_cV0 h ok d_Tuner_takeHeader_89 m_Tuner_takeHeaderLetters l_Tuner_86 (c_th0 w ok S1 m hk) cn_Tuner rfl rfl rfl rfl (Nat.le_of_ble_eq_true rfl) ⟨Nat.le_of_ble_eq_true rfl, Nat.le_of_ble_eq_true rfl⟩ ⟨Nat.le_refl _, Nat.le_refl _⟩ ?_; exact pf_vret h d_Tuner_takeHeader_92 (by rw [hS1, hd2, if_neg e81]))--end
    refine pg_iconst (v := 1) h d_Tuner_takeHeader_84 (by decide) ?_
    refine pg_goto (tgt := 89) h d_Tuner_takeHeader_85 rfl ?_
    first
      | (refine pf_cV0 h ok d_Tuner_takeHeader_89 m_Tuner_takeHeaderLetters l_Tuner_86 (c_th1 w ok S1 m hk) cn_Tuner rfl rfl rfl rfl (Nat.le_of_ble_eq_true rfl) ⟨Nat.le_of_ble_eq_true rfl, Nat.le_of_ble_eq_true rfl⟩ ⟨Nat.le_refl _, Nat.le_refl _⟩ ?_; exact pf_vret h d_Tuner_takeHeader_92 (by rw [hS1, hd2, if_pos e81]))
      | (refine pf_cV0 h ok d_Tuner_takeHeader_89 m_Tuner_takeHeaderLetters l_Tuner_86 (c_th0 w ok S1 m hk) cn_Tuner rfl rfl rfl rfl (Nat.le_of_ble_eq_true rfl) ⟨Nat.le_of_ble_eq_true rfl, Nat.le_of_ble_eq_true rfl⟩ ⟨Nat.le_refl _, Nat.le_refl _⟩ ?_; exact pf_vret h d_Tuner_takeHeader_92 (by rw [hS1, hd2, if_neg e81]))--end
  have mid : pg_G κ w.1 3 0 0 (pg_Q κ w.1 (fun r' H => r' = none ∧ pf_P w (thdF S w.2.2.1 m) H) 0 0) (pf_P w (hd1 (rhF S).2 w.2.2.1 m)) 42 [some (.ref (w.2.1 8 0)), some (.int (nI m)), some (.int ((rhF S).2 11 0 4))] [] := by
    refine pg_aload_n h d_Tuner_takeHeader_42 rfl ?_
    refine pf_get h ok d_Tuner_takeHeader_43 f_Tuner_21 (by first | rfl | exact hk | exact hk2 | exact dm12 _ | assumption) rfl rfl ?_
    refine pg_iconst (v := 0) h d_Tuner_takeHeader_46 (by decide) ?_
    refine pf_ild h ok d_Tuner_takeHeader_47 (by first | rfl | exact hk | exact hk2 | exact dm12 _ | assumption) rfl (pg_ixN (j := 0) rfl (by decide) (by decide)) ?_
    refine pg_bipush (v := 15) h d_Tuner_takeHeader_48 (by decide) ?_
    refine pg_icmp_ne (tgt := 64) h d_Tuner_takeHeader_50 rfl (fun e50 => ?_) (fun e50 => ?_)
    · skip
      refine pg_aload_n h d_Tuner_takeHeader_64 rfl ?_
      refine pg_iload_n h d_Tuner_takeHeader_65 rfl ?_
      refine pf_cV0 h ok d_Tuner_takeHeader_66 m_Tuner_beginPage l_Tuner_83 (c_Tuner_beginPage w ok _ hw m hm) cn_Tuner (by first | rfl | exact hk | exact hk2 | exact dm12 _ | assumption) rfl rfl rfl (Nat.le_of_ble_eq_true rfl) ⟨(Nat.le_of_ble_eq_true rfl), (Nat.le_of_ble_eq_true rfl)⟩ ⟨Nat.le_refl _, Nat.le_refl _⟩ ?_
      exact tail _ (by clear tail; rw [thdF, if_neg h0]; simp [*])
    refine pg_aload_n h d_Tuner_takeHeader_53 rfl ?_
    refine pf_get h ok d_Tuner_takeHeader_54 f_Tuner_21 (by first | rfl | exact hk | exact hk2 | exact dm12 _ | assumption) rfl rfl ?_
    refine pg_iconst (v := 1) h d_Tuner_takeHeader_57 (by decide) ?_
    refine pf_ild h ok d_Tuner_takeHeader_58 (by first | rfl | exact hk | exact hk2 | exact dm12 _ | assumption) rfl (pg_ixN (j := 1) rfl (by decide) (by decide)) ?_
    refine pg_bipush (v := 15) h d_Tuner_takeHeader_59 (by decide) ?_
    refine pg_icmp_eq (tgt := 69) h d_Tuner_takeHeader_61 rfl (fun e61 => ?_) (fun e61 => ?_)
    · skip
      exact tail _ (by clear tail; rw [thdF, if_neg h0]; simp [*])
    refine pg_aload_n h d_Tuner_takeHeader_64 rfl ?_
    refine pg_iload_n h d_Tuner_takeHeader_65 rfl ?_
    refine pf_cV0 h ok d_Tuner_takeHeader_66 m_Tuner_beginPage l_Tuner_83 (c_Tuner_beginPage w ok _ hw m hm) cn_Tuner (by first | rfl | exact hk | exact hk2 | exact dm12 _ | assumption) rfl rfl rfl (Nat.le_of_ble_eq_true rfl) ⟨(Nat.le_of_ble_eq_true rfl), (Nat.le_of_ble_eq_true rfl)⟩ ⟨Nat.le_refl _, Nat.le_refl _⟩ ?_
    exact tail _ (by clear tail; rw [thdF, if_neg h0]; simp [*])
  refine pg_aload_n h d_Tuner_takeHeader_0 rfl ?_
  refine pf_cV h ok d_Tuner_takeHeader_1 m_Tuner_readHeader l_Tuner_75 (c_Tuner_readHeader w ok S) cn_Tuner (by first | rfl | exact hk | exact hk2 | exact dm12 _ | assumption) rfl rfl rfl (Nat.le_of_ble_eq_true rfl) ⟨(Nat.le_of_ble_eq_true rfl), (Nat.le_of_ble_eq_true rfl)⟩ ⟨Nat.le_refl _, Nat.le_refl _⟩ ?_
  refine pg_if_ne (tgt := 18) h d_Tuner_takeHeader_4 rfl (fun e4 => ?_) (fun e4 => absurd e4 h0)
  refine pg_aload_n h d_Tuner_takeHeader_18 rfl ?_
  refine pf_get h ok d_Tuner_takeHeader_19 f_Tuner_21 (by first | rfl | exact hk | exact hk2 | exact dm12 _ | assumption) rfl rfl ?_
  refine pg_iconst (v := 4) h d_Tuner_takeHeader_22 (by decide) ?_
  refine pf_ild h ok d_Tuner_takeHeader_23 (by first | rfl | exact hk | exact hk2 | exact dm12 _ | assumption) rfl (pg_ixN (j := 4) rfl (by decide) (by decide)) ?_
  refine pg_istore_n h d_Tuner_takeHeader_24 (Nat.le_of_ble_eq_true rfl) rfl rfl ?_
  refine pg_aload_n h d_Tuner_takeHeader_25 rfl ?_
  refine pg_iload_n h d_Tuner_takeHeader_26 rfl ?_
  refine pg_iload_n h d_Tuner_takeHeader_27 rfl ?_
  refine pg_iconst (v := 2) h d_Tuner_takeHeader_28 (by decide) ?_
  refine pg_irem h d_Tuner_takeHeader_29 (by decide) ?_
  refine pg_iconst (v := 1) h d_Tuner_takeHeader_30 (by decide) ?_
  refine pg_icmp_ne (tgt := 38) h d_Tuner_takeHeader_31 rfl (fun e31 => ?_) (fun e31 => ?_)
  · skip
    refine pg_iconst (v := 0) h d_Tuner_takeHeader_38 (by decide) ?_
    first
      | (refine pf_cV0 h ok d_Tuner_takeHeader_39 m_Tuner_completeComing l_Tuner_79 (c_cc1 w ok _ hw m hm) cn_Tuner rfl rfl rfl rfl (Nat.le_of_ble_eq_true rfl) ⟨Nat.le_of_ble_eq_true rfl, Nat.le_of_ble_eq_true rfl⟩ ⟨Nat.le_refl _, Nat.le_refl _⟩ ?_; have q := mid; rw [hd1, if_pos e31] at q; exact q)
      | (refine pf_cV0 h ok d_Tuner_takeHeader_39 m_Tuner_completeComing l_Tuner_79 (c_cc0 w ok _ hw m hm) cn_Tuner rfl rfl rfl rfl (Nat.le_of_ble_eq_true rfl) ⟨Nat.le_of_ble_eq_true rfl, Nat.le_of_ble_eq_true rfl⟩ ⟨Nat.le_refl _, Nat.le_refl _⟩ ?_; have q := mid; rw [hd1, if_neg e31] at q; exact q)--end
  refine pg_iconst (v := 1) h d_Tuner_takeHeader_34 (by decide) ?_
  refine pg_goto (tgt := 39) h d_Tuner_takeHeader_35 rfl ?_
  first
    | (refine pf_cV0 h ok d_Tuner_takeHeader_39 m_Tuner_completeComing l_Tuner_79 (c_cc1 w ok _ hw m hm) cn_Tuner rfl rfl rfl rfl (Nat.le_of_ble_eq_true rfl) ⟨Nat.le_of_ble_eq_true rfl, Nat.le_of_ble_eq_true rfl⟩ ⟨Nat.le_refl _, Nat.le_refl _⟩ ?_; have q := mid; rw [hd1, if_pos e31] at q; exact q)
    | (refine pf_cV0 h ok d_Tuner_takeHeader_39 m_Tuner_completeComing l_Tuner_79 (c_cc0 w ok _ hw m hm) cn_Tuner rfl rfl rfl rfl (Nat.le_of_ble_eq_true rfl) ⟨Nat.le_of_ble_eq_true rfl, Nat.le_of_ble_eq_true rfl⟩ ⟨Nat.le_refl _, Nat.le_refl _⟩ ?_; have q := mid; rw [hd1, if_neg e31] at q; exact q)--end
