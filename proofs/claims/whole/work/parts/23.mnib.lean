/-! The reference: nibble, letter. -/
set_option maxRecDepth 100000 in
set_option maxHeartbeats 4000000 in
theorem c_Mod_parity (w : pf_W) (ok : pf_ok w) (S : pf_S) (v : Int32) : pf_C w y_Mod_parity b_Mod_parity 3 (some .int) 0 0 [.int v] S (some (.int (parV v))) (S) := by
  refine pf_enter (by decide) (Nat.le_of_ble_eq_true rfl) (lv0 := [some (.int v), none, none]) rfl (fun κ h => ?_)
  have loop : ∀ n j : Nat, j + n = 24 → pg_G κ w.1 3 0 0 (pg_Q κ w.1 (fun r' H => r' = (some (.int (parV v))) ∧ pf_P w (S) H) 0 0) (pf_P w (S)) 4 [some (.int v), some (.int (parS v j)), some (.int (nI j))] [] := by
    intro n
    induction n with
    | zero =>
      intro j hj
      have hj : j = 24 := by omega
      subst hj
      refine pg_iload_n h d_Mod_parity_4 rfl ?_
      refine pg_bipush (v := 24) h d_Mod_parity_5 (by decide) ?_
      refine pg_icmp_ge (tgt := 24) h d_Mod_parity_7 rfl (fun e7 => ?_) (fun e7 => absurd e7 (fun e => e (by decide)))
      refine pg_iload_n h d_Mod_parity_24 rfl ?_
      refine pg_iconst (v := 2) h d_Mod_parity_25 (by decide) ?_
      refine pg_irem h d_Mod_parity_26 (by decide) ?_
      exact pf_iret h d_Mod_parity_27 rfl (by first | rfl | simp [*]) rfl
    | succ n ih =>
      intro j hj
      refine pg_iload_n h d_Mod_parity_4 rfl ?_
      refine pg_bipush (v := 24) h d_Mod_parity_5 (by decide) ?_
      refine pg_icmp_ge (tgt := 24) h d_Mod_parity_7 rfl (fun e7 => absurd e7 (nI_ge (show j < 24 by omega) (by decide))) (fun e7 => ?_)
      refine pg_iload_n h d_Mod_parity_10 rfl ?_
      refine pg_iload_n h d_Mod_parity_11 rfl ?_
      refine pg_iload_n h d_Mod_parity_12 rfl ?_
      refine pg_ishr h d_Mod_parity_13 ?_
      refine pg_iconst (v := 1) h d_Mod_parity_14 (by decide) ?_
      refine pg_iand h d_Mod_parity_15 ?_
      refine pg_iadd h d_Mod_parity_16 ?_
      refine pg_istore_n h d_Mod_parity_17 (Nat.le_of_ble_eq_true rfl) rfl rfl ?_
      refine pg_iinc (w := 1) h d_Mod_parity_18 rfl (by decide) (Nat.le_of_ble_eq_true rfl) rfl rfl ?_
      refine pg_goto (tgt := 4) h d_Mod_parity_21 rfl ?_
      rw [← nI_succ j]
      exact ih (j + 1) (by omega)
  refine pg_iconst (v := 0) h d_Mod_parity_0 (by decide) ?_
  refine pg_istore_n h d_Mod_parity_1 (Nat.le_of_ble_eq_true rfl) rfl rfl ?_
  refine pg_iconst (v := 0) h d_Mod_parity_2 (by decide) ?_
  refine pg_istore_n h d_Mod_parity_3 (Nat.le_of_ble_eq_true rfl) rfl rfl ?_
  exact loop 24 0 rfl

set_option maxRecDepth 100000 in
set_option maxHeartbeats 4000000 in
theorem c_Mod_codeOf (w : pf_W) (ok : pf_ok w) (S : pf_S) (d : Int32) : pf_C w y_Mod_codeOf b_Mod_codeOf 6 (some .int) 1 22 [.int d] S (some (.int (mcw d))) (S) := by
  refine pf_enter (by decide) (Nat.le_of_ble_eq_true rfl) (lv0 := [some (.int d), none, none, none, none, none]) rfl (fun κ h => ?_)
  refine pg_iload_n h d_Mod_codeOf_0 rfl ?_
  refine pg_iconst (v := 1) h d_Mod_codeOf_1 (by decide) ?_
  refine pg_iand h d_Mod_codeOf_2 ?_
  refine pg_istore_n h d_Mod_codeOf_3 (Nat.le_of_ble_eq_true rfl) rfl rfl ?_
  refine pg_iload_n h d_Mod_codeOf_4 rfl ?_
  refine pg_iconst (v := 1) h d_Mod_codeOf_5 (by decide) ?_
  refine pg_ishr h d_Mod_codeOf_6 ?_
  refine pg_iconst (v := 1) h d_Mod_codeOf_7 (by decide) ?_
  refine pg_iand h d_Mod_codeOf_8 ?_
  refine pg_istore_n h d_Mod_codeOf_9 (Nat.le_of_ble_eq_true rfl) rfl rfl ?_
  refine pg_iload_n h d_Mod_codeOf_10 rfl ?_
  refine pg_iconst (v := 2) h d_Mod_codeOf_11 (by decide) ?_
  refine pg_ishr h d_Mod_codeOf_12 ?_
  refine pg_iconst (v := 1) h d_Mod_codeOf_13 (by decide) ?_
  refine pg_iand h d_Mod_codeOf_14 ?_
  refine pg_istore_n h d_Mod_codeOf_15 (Nat.le_of_ble_eq_true rfl) rfl rfl ?_
  refine pg_iload_n h d_Mod_codeOf_16 rfl ?_
  refine pg_iconst (v := 3) h d_Mod_codeOf_17 (by decide) ?_
  refine pg_ishr h d_Mod_codeOf_18 ?_
  refine pg_istore h d_Mod_codeOf_19 (Nat.le_of_ble_eq_true rfl) rfl rfl ?_
  refine pg_iconst (v := 1) h d_Mod_codeOf_21 (by decide) ?_
  refine pg_iload_n h d_Mod_codeOf_22 rfl ?_
  refine pg_iadd h d_Mod_codeOf_23 ?_
  refine pg_iload_n h d_Mod_codeOf_24 rfl ?_
  refine pg_iadd h d_Mod_codeOf_25 ?_
  refine pg_iload h d_Mod_codeOf_26 rfl ?_
  refine pg_iadd h d_Mod_codeOf_28 ?_
  refine pg_iconst (v := 2) h d_Mod_codeOf_29 (by decide) ?_
  refine pg_irem h d_Mod_codeOf_30 (by decide) ?_
  refine pg_iconst (v := 2) h d_Mod_codeOf_31 (by decide) ?_
  refine pg_iload_n h d_Mod_codeOf_32 rfl ?_
  refine pg_imul h d_Mod_codeOf_33 ?_
  refine pg_iadd h d_Mod_codeOf_34 ?_
  refine pg_iconst (v := 4) h d_Mod_codeOf_35 (by decide) ?_
  refine pg_iconst (v := 1) h d_Mod_codeOf_36 (by decide) ?_
  refine pg_iload_n h d_Mod_codeOf_37 rfl ?_
  refine pg_iadd h d_Mod_codeOf_38 ?_
  refine pg_iload_n h d_Mod_codeOf_39 rfl ?_
  refine pg_iadd h d_Mod_codeOf_40 ?_
  refine pg_iload h d_Mod_codeOf_41 rfl ?_
  refine pg_iadd h d_Mod_codeOf_43 ?_
  refine pg_iconst (v := 2) h d_Mod_codeOf_44 (by decide) ?_
  refine pg_irem h d_Mod_codeOf_45 (by decide) ?_
  refine pg_imul h d_Mod_codeOf_46 ?_
  refine pg_iadd h d_Mod_codeOf_47 ?_
  refine pg_bipush (v := 8) h d_Mod_codeOf_48 (by decide) ?_
  refine pg_iload_n h d_Mod_codeOf_50 rfl ?_
  refine pg_imul h d_Mod_codeOf_51 ?_
  refine pg_iadd h d_Mod_codeOf_52 ?_
  refine pg_bipush (v := 16) h d_Mod_codeOf_53 (by decide) ?_
  refine pg_iconst (v := 1) h d_Mod_codeOf_55 (by decide) ?_
  refine pg_iload_n h d_Mod_codeOf_56 rfl ?_
  refine pg_iadd h d_Mod_codeOf_57 ?_
  refine pg_iload_n h d_Mod_codeOf_58 rfl ?_
  refine pg_iadd h d_Mod_codeOf_59 ?_
  refine pg_iload_n h d_Mod_codeOf_60 rfl ?_
  refine pg_iadd h d_Mod_codeOf_61 ?_
  refine pg_iconst (v := 2) h d_Mod_codeOf_62 (by decide) ?_
  refine pg_irem h d_Mod_codeOf_63 (by decide) ?_
  refine pg_imul h d_Mod_codeOf_64 ?_
  refine pg_iadd h d_Mod_codeOf_65 ?_
  refine pg_bipush (v := 32) h d_Mod_codeOf_66 (by decide) ?_
  refine pg_iload_n h d_Mod_codeOf_68 rfl ?_
  refine pg_imul h d_Mod_codeOf_69 ?_
  refine pg_iadd h d_Mod_codeOf_70 ?_
  refine pg_sipush (v := 128) h d_Mod_codeOf_71 (by decide) ?_
  refine pg_iload h d_Mod_codeOf_74 rfl ?_
  refine pg_imul h d_Mod_codeOf_76 ?_
  refine pg_iadd h d_Mod_codeOf_77 ?_
  refine pg_istore h d_Mod_codeOf_78 (Nat.le_of_ble_eq_true rfl) rfl rfl ?_
  refine pg_iload h d_Mod_codeOf_80 rfl ?_
  refine pg_cS h d_Mod_codeOf_82 m_Mod_parity l_Mod_73 (c_Mod_parity w ok S _) rfl rfl (Nat.le_of_ble_eq_true rfl) ⟨(Nat.le_of_ble_eq_true rfl), (Nat.le_of_ble_eq_true rfl)⟩ ⟨Nat.le_refl _, Nat.le_refl _⟩ ?_
  refine pg_iconst (v := 1) h d_Mod_codeOf_85 (by decide) ?_
  refine pg_icmp_ne (tgt := 94) h d_Mod_codeOf_86 rfl (fun e86 => ?_) (fun e86 => ?_)
  · skip
    refine pg_iload h d_Mod_codeOf_94 rfl ?_
    refine pg_bipush (v := 64) h d_Mod_codeOf_96 (by decide) ?_
    refine pg_iadd h d_Mod_codeOf_98 ?_
    exact pf_iret h d_Mod_codeOf_99 rfl (by rw [mcw]; first | exact congrArg (fun q => some (Value.int q)) (if_pos e86) | exact congrArg (fun q => some (Value.int q)) (if_neg e86)) rfl
  refine pg_iload h d_Mod_codeOf_89 rfl ?_
  refine pg_goto (tgt := 99) h d_Mod_codeOf_91 rfl ?_
  exact pf_iret h d_Mod_codeOf_99 rfl (by rw [mcw]; first | exact congrArg (fun q => some (Value.int q)) (if_pos e86) | exact congrArg (fun q => some (Value.int q)) (if_neg e86)) rfl

set_option maxRecDepth 100000 in
set_option maxHeartbeats 4000000 in
theorem c_Mod_nibble (w : pf_W) (ok : pf_ok w) (A S0 : pf_S) (z : Int32) (b : Nat) (hb : b < 256) : pm_C w y_Mod_nibble b_Mod_nibble 8 (some .int) 2 47 [.ref (w.2.1 20 0), .int (nI b)] z (A) S0 (some (.int (nibV (nI b)))) z (nibT A (nI b)) := by
  refine pm_enter (by decide) (Nat.le_of_ble_eq_true rfl) (lv0 := [some (.ref (w.2.1 20 0)), some (.int (nI b)), none, none, none, none, none, none]) rfl (fun κ S h hR hg => ?_)
  obtain ⟨k1, k2, k3, k4⟩ := mn_all b hb
  have hfin : Rm w.2.2.1 z (nibT A (nI b)) (pf_st (pf_st S 31 0 2 (if (mnS (nI b) 16).2 = 0 then S 31 0 2 else S 31 0 2 + 1)) 31 0 3 (if 0 ≤ (mnS (nI b) 16).1 then S 31 0 3 else S 31 0 3 + 1)) := by
    have c2 := hR.2.1 2 (by decide)
    have c3 := hR.2.1 3 (by decide)
    rw [k1, k2]
    unfold nibT
    cases hd : nibD (nI b) with
    | none =>
      have e0 : mdV (nI b) = 0 := by simp [mdV, hd]
      rw [if_neg (Int32.not_le.mpr (k4.mpr hd)), if_pos e0, pf_st_id, c3]
      exact hR.cnt
    | some d =>
      have e1 : mdV (nI b) = bcF (pg_cw d ^^^ nI b) := by simp [mdV, hd]
      have e4 : ¬ nibV (nI b) < 0 := fun q => by rw [k4.mp q] at hd; cases hd
      rw [if_pos (Int32.not_lt.mp e4)]
      dsimp only
      rw [← e1]
      have e5 : ∀ v : Int32, pf_st (pf_st S 31 0 2 v) 31 0 3 (S 31 0 3) = pf_st S 31 0 2 v := fun v => by
        have := pf_st_id (pf_st S 31 0 2 v) 31 0 3
        rw [pf_st_at] at this
        simpa using this
      rw [e5]
      rcases k3 with q | q
      · rw [q, if_pos rfl, c2]
        have := hR.cnt (j := 2) (v := A 1 0 2 + 0)
        simpa using this
      · rw [q, if_neg (by decide), c2]
        exact hR.cnt
  have fin : ∀ (X Y Z W' : Option Value), pg_G κ w.1 8 0 0 (pm_Q κ w (some (.int (nibV (nI b)))) z (nibT A (nI b)) S0) (pf_P w (S)) 81 [some (.ref (w.2.1 20 0)), some (.int (nI b)), some (.int (mnS (nI b) 16).1), some (.int (mnS (nI b) 16).2), X, Y, Z, W'] [] := by
    intro X Y Z W'
    refine pg_aload_n h d_Mod_nibble_81 rfl ?_
    refine pf_get h ok d_Mod_nibble_82 f_Mod_41 (by first | rfl | exact hk | exact hk2 | exact dm12 _ | assumption) rfl rfl ?_
    try simp only [pf_st_at, and_self, if_true, show ¬ (31 = 31 ∧ 0 = 0 ∧ 3 = 2) by decide, if_false]
    refine pg_iconst (v := 2) h d_Mod_nibble_85 (by decide) ?_
    refine pg_iload_n h d_Mod_nibble_86 rfl ?_
    refine pg_if_eq (tgt := 101) h d_Mod_nibble_87 rfl (fun e87 => ?_) (fun e87 => ?_)
    · skip
      refine pg_aload_n h d_Mod_nibble_101 rfl ?_
      refine pf_get h ok d_Mod_nibble_102 f_Mod_41 (by first | rfl | exact hk | exact hk2 | exact dm12 _ | assumption) rfl rfl ?_
      try simp only [pf_st_at, and_self, if_true, show ¬ (31 = 31 ∧ 0 = 0 ∧ 3 = 2) by decide, if_false]
      refine pg_iconst (v := 2) h d_Mod_nibble_105 (by decide) ?_
      refine pf_ild h ok d_Mod_nibble_106 (by first | rfl | exact hk | exact hk2 | exact dm12 _ | assumption) rfl (pg_ixN (j := 2) rfl (by decide) (by decide)) ?_
      try simp only [pf_st_at, and_self, if_true, show ¬ (31 = 31 ∧ 0 = 0 ∧ 3 = 2) by decide, if_false]
      refine pf_ist h ok d_Mod_nibble_107 (by first | rfl | exact hk | exact hk2 | exact dm12 _ | assumption) (fun _ => rfl) (pg_ixN (j := 2) rfl (by decide) (by decide)) ?_
      try simp only [pf_st_at, and_self, if_true, show ¬ (31 = 31 ∧ 0 = 0 ∧ 3 = 2) by decide, if_false]
      refine pg_aload_n h d_Mod_nibble_108 rfl ?_
      refine pf_get h ok d_Mod_nibble_109 f_Mod_41 (by first | rfl | exact hk | exact hk2 | exact dm12 _ | assumption) rfl rfl ?_
      try simp only [pf_st_at, and_self, if_true, show ¬ (31 = 31 ∧ 0 = 0 ∧ 3 = 2) by decide, if_false]
      refine pg_iconst (v := 3) h d_Mod_nibble_112 (by decide) ?_
      refine pg_iload_n h d_Mod_nibble_113 rfl ?_
      refine pg_if_ge (tgt := 128) h d_Mod_nibble_114 rfl (fun e114 => ?_) (fun e114 => ?_)
      · skip
        refine pg_aload_n h d_Mod_nibble_128 rfl ?_
        refine pf_get h ok d_Mod_nibble_129 f_Mod_41 (by first | rfl | exact hk | exact hk2 | exact dm12 _ | assumption) rfl rfl ?_
        try simp only [pf_st_at, and_self, if_true, show ¬ (31 = 31 ∧ 0 = 0 ∧ 3 = 2) by decide, if_false]
        refine pg_iconst (v := 3) h d_Mod_nibble_132 (by decide) ?_
        refine pf_ild h ok d_Mod_nibble_133 (by first | rfl | exact hk | exact hk2 | exact dm12 _ | assumption) rfl (pg_ixN (j := 3) rfl (by decide) (by decide)) ?_
        try simp only [pf_st_at, and_self, if_true, show ¬ (31 = 31 ∧ 0 = 0 ∧ 3 = 2) by decide, if_false]
        refine pf_ist h ok d_Mod_nibble_134 (by first | rfl | exact hk | exact hk2 | exact dm12 _ | assumption) (fun _ => rfl) (pg_ixN (j := 3) rfl (by decide) (by decide)) ?_
        try simp only [pf_st_at, and_self, if_true, show ¬ (31 = 31 ∧ 0 = 0 ∧ 3 = 2) by decide, if_false]
        refine pg_iload_n h d_Mod_nibble_135 rfl ?_
        exact pm_iret h d_Mod_nibble_136 rfl (by rw [k1]) (by first | (simp only [if_pos e87, if_pos e114] at hfin; exact hfin) | (simp only [if_pos e87, if_neg e114] at hfin; exact hfin) | (simp only [if_neg e87, if_pos e114] at hfin; exact hfin) | (simp only [if_neg e87, if_neg e114] at hfin; exact hfin)) ((hg.st (by decide)).st (by decide))
      refine pg_aload_n h d_Mod_nibble_117 rfl ?_
      refine pf_get h ok d_Mod_nibble_118 f_Mod_41 (by first | rfl | exact hk | exact hk2 | exact dm12 _ | assumption) rfl rfl ?_
      try simp only [pf_st_at, and_self, if_true, show ¬ (31 = 31 ∧ 0 = 0 ∧ 3 = 2) by decide, if_false]
      refine pg_iconst (v := 3) h d_Mod_nibble_121 (by decide) ?_
      refine pf_ild h ok d_Mod_nibble_122 (by first | rfl | exact hk | exact hk2 | exact dm12 _ | assumption) rfl (pg_ixN (j := 3) rfl (by decide) (by decide)) ?_
      try simp only [pf_st_at, and_self, if_true, show ¬ (31 = 31 ∧ 0 = 0 ∧ 3 = 2) by decide, if_false]
      refine pg_iconst (v := 1) h d_Mod_nibble_123 (by decide) ?_
      refine pg_iadd h d_Mod_nibble_124 ?_
      refine pg_goto (tgt := 134) h d_Mod_nibble_125 rfl ?_
      refine pf_ist h ok d_Mod_nibble_134 (by first | rfl | exact hk | exact hk2 | exact dm12 _ | assumption) (fun _ => rfl) (pg_ixN (j := 3) rfl (by decide) (by decide)) ?_
      try simp only [pf_st_at, and_self, if_true, show ¬ (31 = 31 ∧ 0 = 0 ∧ 3 = 2) by decide, if_false]
      refine pg_iload_n h d_Mod_nibble_135 rfl ?_
      exact pm_iret h d_Mod_nibble_136 rfl (by rw [k1]) (by first | (simp only [if_pos e87, if_pos e114] at hfin; exact hfin) | (simp only [if_pos e87, if_neg e114] at hfin; exact hfin) | (simp only [if_neg e87, if_pos e114] at hfin; exact hfin) | (simp only [if_neg e87, if_neg e114] at hfin; exact hfin)) ((hg.st (by decide)).st (by decide))
    refine pg_aload_n h d_Mod_nibble_90 rfl ?_
    refine pf_get h ok d_Mod_nibble_91 f_Mod_41 (by first | rfl | exact hk | exact hk2 | exact dm12 _ | assumption) rfl rfl ?_
    try simp only [pf_st_at, and_self, if_true, show ¬ (31 = 31 ∧ 0 = 0 ∧ 3 = 2) by decide, if_false]
    refine pg_iconst (v := 2) h d_Mod_nibble_94 (by decide) ?_
    refine pf_ild h ok d_Mod_nibble_95 (by first | rfl | exact hk | exact hk2 | exact dm12 _ | assumption) rfl (pg_ixN (j := 2) rfl (by decide) (by decide)) ?_
    try simp only [pf_st_at, and_self, if_true, show ¬ (31 = 31 ∧ 0 = 0 ∧ 3 = 2) by decide, if_false]
    refine pg_iconst (v := 1) h d_Mod_nibble_96 (by decide) ?_
    refine pg_iadd h d_Mod_nibble_97 ?_
    refine pg_goto (tgt := 107) h d_Mod_nibble_98 rfl ?_
    refine pf_ist h ok d_Mod_nibble_107 (by first | rfl | exact hk | exact hk2 | exact dm12 _ | assumption) (fun _ => rfl) (pg_ixN (j := 2) rfl (by decide) (by decide)) ?_
    try simp only [pf_st_at, and_self, if_true, show ¬ (31 = 31 ∧ 0 = 0 ∧ 3 = 2) by decide, if_false]
    refine pg_aload_n h d_Mod_nibble_108 rfl ?_
    refine pf_get h ok d_Mod_nibble_109 f_Mod_41 (by first | rfl | exact hk | exact hk2 | exact dm12 _ | assumption) rfl rfl ?_
    try simp only [pf_st_at, and_self, if_true, show ¬ (31 = 31 ∧ 0 = 0 ∧ 3 = 2) by decide, if_false]
    refine pg_iconst (v := 3) h d_Mod_nibble_112 (by decide) ?_
    refine pg_iload_n h d_Mod_nibble_113 rfl ?_
    refine pg_if_ge (tgt := 128) h d_Mod_nibble_114 rfl (fun e114 => ?_) (fun e114 => ?_)
    · skip
      refine pg_aload_n h d_Mod_nibble_128 rfl ?_
      refine pf_get h ok d_Mod_nibble_129 f_Mod_41 (by first | rfl | exact hk | exact hk2 | exact dm12 _ | assumption) rfl rfl ?_
      try simp only [pf_st_at, and_self, if_true, show ¬ (31 = 31 ∧ 0 = 0 ∧ 3 = 2) by decide, if_false]
      refine pg_iconst (v := 3) h d_Mod_nibble_132 (by decide) ?_
      refine pf_ild h ok d_Mod_nibble_133 (by first | rfl | exact hk | exact hk2 | exact dm12 _ | assumption) rfl (pg_ixN (j := 3) rfl (by decide) (by decide)) ?_
      try simp only [pf_st_at, and_self, if_true, show ¬ (31 = 31 ∧ 0 = 0 ∧ 3 = 2) by decide, if_false]
      refine pf_ist h ok d_Mod_nibble_134 (by first | rfl | exact hk | exact hk2 | exact dm12 _ | assumption) (fun _ => rfl) (pg_ixN (j := 3) rfl (by decide) (by decide)) ?_
      try simp only [pf_st_at, and_self, if_true, show ¬ (31 = 31 ∧ 0 = 0 ∧ 3 = 2) by decide, if_false]
      refine pg_iload_n h d_Mod_nibble_135 rfl ?_
      exact pm_iret h d_Mod_nibble_136 rfl (by rw [k1]) (by first | (simp only [if_pos e87, if_pos e114] at hfin; exact hfin) | (simp only [if_pos e87, if_neg e114] at hfin; exact hfin) | (simp only [if_neg e87, if_pos e114] at hfin; exact hfin) | (simp only [if_neg e87, if_neg e114] at hfin; exact hfin)) ((hg.st (by decide)).st (by decide))
    refine pg_aload_n h d_Mod_nibble_117 rfl ?_
    refine pf_get h ok d_Mod_nibble_118 f_Mod_41 (by first | rfl | exact hk | exact hk2 | exact dm12 _ | assumption) rfl rfl ?_
    try simp only [pf_st_at, and_self, if_true, show ¬ (31 = 31 ∧ 0 = 0 ∧ 3 = 2) by decide, if_false]
    refine pg_iconst (v := 3) h d_Mod_nibble_121 (by decide) ?_
    refine pf_ild h ok d_Mod_nibble_122 (by first | rfl | exact hk | exact hk2 | exact dm12 _ | assumption) rfl (pg_ixN (j := 3) rfl (by decide) (by decide)) ?_
    try simp only [pf_st_at, and_self, if_true, show ¬ (31 = 31 ∧ 0 = 0 ∧ 3 = 2) by decide, if_false]
    refine pg_iconst (v := 1) h d_Mod_nibble_123 (by decide) ?_
    refine pg_iadd h d_Mod_nibble_124 ?_
    refine pg_goto (tgt := 134) h d_Mod_nibble_125 rfl ?_
    refine pf_ist h ok d_Mod_nibble_134 (by first | rfl | exact hk | exact hk2 | exact dm12 _ | assumption) (fun _ => rfl) (pg_ixN (j := 3) rfl (by decide) (by decide)) ?_
    try simp only [pf_st_at, and_self, if_true, show ¬ (31 = 31 ∧ 0 = 0 ∧ 3 = 2) by decide, if_false]
    refine pg_iload_n h d_Mod_nibble_135 rfl ?_
    exact pm_iret h d_Mod_nibble_136 rfl (by rw [k1]) (by first | (simp only [if_pos e87, if_pos e114] at hfin; exact hfin) | (simp only [if_pos e87, if_neg e114] at hfin; exact hfin) | (simp only [if_neg e87, if_pos e114] at hfin; exact hfin) | (simp only [if_neg e87, if_neg e114] at hfin; exact hfin)) ((hg.st (by decide)).st (by decide))
  have inner : ∀ (d : Nat), pg_G κ w.1 8 0 0 (pm_Q κ w (some (.int (nibV (nI b)))) z (nibT A (nI b)) S0) (pf_P w (S)) 54 [some (.ref (w.2.1 20 0)), some (.int (nI b)), some (.int (mnS (nI b) d).1), some (.int (mnS (nI b) d).2), some (.int (nI d)), some (.int (mcw (nI d))), some (.int (offS (mcw (nI d) ^^^ nI b) 8)), some (.int (nI 8))] [] → ∀ n j : Nat, j + n = 8 → pg_G κ w.1 8 0 0 (pm_Q κ w (some (.int (nibV (nI b)))) z (nibT A (nI b)) S0) (pf_P w (S)) 27 [some (.ref (w.2.1 20 0)), some (.int (nI b)), some (.int (mnS (nI b) d).1), some (.int (mnS (nI b) d).2), some (.int (nI d)), some (.int (mcw (nI d))), some (.int (offS (mcw (nI d) ^^^ nI b) j)), some (.int (nI j))] [] := by
    intro d hout n
    induction n with
    | zero =>
      intro j hj
      have hj : j = 8 := by omega
      subst hj
      refine pg_iload h d_Mod_nibble_27 rfl ?_
      refine pg_bipush (v := 8) h d_Mod_nibble_29 (by decide) ?_
      refine pg_icmp_ge (tgt := 54) h d_Mod_nibble_31 rfl (fun e31 => ?_) (fun e31 => absurd e31 (fun e => e (by decide)))
      exact hout
    | succ n ih =>
      intro j hj
      refine pg_iload h d_Mod_nibble_27 rfl ?_
      refine pg_bipush (v := 8) h d_Mod_nibble_29 (by decide) ?_
      refine pg_icmp_ge (tgt := 54) h d_Mod_nibble_31 rfl (fun e31 => absurd e31 (nI_ge (show j < 8 by omega) (by decide))) (fun e31 => ?_)
      refine pg_iload h d_Mod_nibble_34 rfl ?_
      refine pg_iload h d_Mod_nibble_36 rfl ?_
      refine pg_iload_n h d_Mod_nibble_38 rfl ?_
      refine pg_ixor h d_Mod_nibble_39 ?_
      refine pg_iload h d_Mod_nibble_40 rfl ?_
      refine pg_ishr h d_Mod_nibble_42 ?_
      refine pg_iconst (v := 1) h d_Mod_nibble_43 (by decide) ?_
      refine pg_iand h d_Mod_nibble_44 ?_
      refine pg_iadd h d_Mod_nibble_45 ?_
      refine pg_istore h d_Mod_nibble_46 (Nat.le_of_ble_eq_true rfl) rfl rfl ?_
      refine pg_iinc (w := 1) h d_Mod_nibble_48 rfl (by decide) (Nat.le_of_ble_eq_true rfl) rfl rfl ?_
      refine pg_goto (tgt := 27) h d_Mod_nibble_51 rfl ?_
      rw [← nI_succ j]
      exact ih (j + 1) (by omega)
  have loop : ∀ (n d : Nat) (X Y Z : Option Value), d + n = 16 → pg_G κ w.1 8 0 0 (pm_Q κ w (some (.int (nibV (nI b)))) z (nibT A (nI b)) S0) (pf_P w (S)) 7 [some (.ref (w.2.1 20 0)), some (.int (nI b)), some (.int (mnS (nI b) d).1), some (.int (mnS (nI b) d).2), some (.int (nI d)), X, Y, Z] [] := by
    intro n
    induction n with
    | zero =>
      intro d X Y Z hd
      have hd : d = 16 := by omega
      subst hd
      refine pg_iload h d_Mod_nibble_7 rfl ?_
      refine pg_bipush (v := 16) h d_Mod_nibble_9 (by decide) ?_
      refine pg_icmp_ge (tgt := 81) h d_Mod_nibble_11 rfl (fun e11 => ?_) (fun e11 => absurd e11 (fun e => e (by decide)))
      exact fin _ _ _ _
    | succ n ih =>
      intro d X Y Z hd
      have hout : pg_G κ w.1 8 0 0 (pm_Q κ w (some (.int (nibV (nI b)))) z (nibT A (nI b)) S0) (pf_P w (S)) 54 [some (.ref (w.2.1 20 0)), some (.int (nI b)), some (.int (mnS (nI b) d).1), some (.int (mnS (nI b) d).2), some (.int (nI d)), some (.int (mcw (nI d))), some (.int (offS (mcw (nI d) ^^^ nI b) 8)), some (.int (nI 8))] [] := by
        refine pg_iload h d_Mod_nibble_54 rfl ?_
        refine pg_iconst (v := 2) h d_Mod_nibble_56 (by decide) ?_
        refine pg_icmp_ge (tgt := 75) h d_Mod_nibble_57 rfl (fun e57 => ?_) (fun e57 => ?_)
        · skip
          refine pg_iinc (w := 1) h d_Mod_nibble_75 rfl (by decide) (Nat.le_of_ble_eq_true rfl) rfl rfl ?_
          refine pg_goto (tgt := 7) h d_Mod_nibble_78 rfl ?_
          rw [← nI_succ d]
          first
            | (have q := ih (d + 1) (some (.int (mcw (nI d)))) (some (.int (offS (mcw (nI d) ^^^ nI b) 8))) (some (.int (nI 8))) (by omega); rw [show mnS (nI b) (d + 1) = mnS (nI b) d from if_pos e57] at q; exact q)
            | (have q := ih (d + 1) (some (.int (mcw (nI d)))) (some (.int (offS (mcw (nI d) ^^^ nI b) 8))) (some (.int (nI 8))) (by omega); rw [show mnS (nI b) (d + 1) = (nI d, if offS (mcw (nI d) ^^^ nI b) 8 = 1 then 1 else 0) from if_neg e57] at q; first | (rw [if_pos e66] at q; exact q) | (rw [if_neg e66] at q; exact q))
        refine pg_iload h d_Mod_nibble_60 rfl ?_
        refine pg_istore_n h d_Mod_nibble_62 (Nat.le_of_ble_eq_true rfl) rfl rfl ?_
        refine pg_iload h d_Mod_nibble_63 rfl ?_
        refine pg_iconst (v := 1) h d_Mod_nibble_65 (by decide) ?_
        refine pg_icmp_ne (tgt := 73) h d_Mod_nibble_66 rfl (fun e66 => ?_) (fun e66 => ?_)
        · skip
          refine pg_iconst (v := 0) h d_Mod_nibble_73 (by decide) ?_
          refine pg_istore_n h d_Mod_nibble_74 (Nat.le_of_ble_eq_true rfl) rfl rfl ?_
          refine pg_iinc (w := 1) h d_Mod_nibble_75 rfl (by decide) (Nat.le_of_ble_eq_true rfl) rfl rfl ?_
          refine pg_goto (tgt := 7) h d_Mod_nibble_78 rfl ?_
          rw [← nI_succ d]
          first
            | (have q := ih (d + 1) (some (.int (mcw (nI d)))) (some (.int (offS (mcw (nI d) ^^^ nI b) 8))) (some (.int (nI 8))) (by omega); rw [show mnS (nI b) (d + 1) = mnS (nI b) d from if_pos e57] at q; exact q)
            | (have q := ih (d + 1) (some (.int (mcw (nI d)))) (some (.int (offS (mcw (nI d) ^^^ nI b) 8))) (some (.int (nI 8))) (by omega); rw [show mnS (nI b) (d + 1) = (nI d, if offS (mcw (nI d) ^^^ nI b) 8 = 1 then 1 else 0) from if_neg e57] at q; first | (rw [if_pos e66] at q; exact q) | (rw [if_neg e66] at q; exact q))
        refine pg_iconst (v := 1) h d_Mod_nibble_69 (by decide) ?_
        refine pg_goto (tgt := 74) h d_Mod_nibble_70 rfl ?_
        refine pg_istore_n h d_Mod_nibble_74 (Nat.le_of_ble_eq_true rfl) rfl rfl ?_
        refine pg_iinc (w := 1) h d_Mod_nibble_75 rfl (by decide) (Nat.le_of_ble_eq_true rfl) rfl rfl ?_
        refine pg_goto (tgt := 7) h d_Mod_nibble_78 rfl ?_
        rw [← nI_succ d]
        first
          | (have q := ih (d + 1) (some (.int (mcw (nI d)))) (some (.int (offS (mcw (nI d) ^^^ nI b) 8))) (some (.int (nI 8))) (by omega); rw [show mnS (nI b) (d + 1) = mnS (nI b) d from if_pos e57] at q; exact q)
          | (have q := ih (d + 1) (some (.int (mcw (nI d)))) (some (.int (offS (mcw (nI d) ^^^ nI b) 8))) (some (.int (nI 8))) (by omega); rw [show mnS (nI b) (d + 1) = (nI d, if offS (mcw (nI d) ^^^ nI b) 8 = 1 then 1 else 0) from if_neg e57] at q; first | (rw [if_pos e66] at q; exact q) | (rw [if_neg e66] at q; exact q))
      refine pg_iload h d_Mod_nibble_7 rfl ?_
      refine pg_bipush (v := 16) h d_Mod_nibble_9 (by decide) ?_
      refine pg_icmp_ge (tgt := 81) h d_Mod_nibble_11 rfl (fun e11 => absurd e11 (nI_ge (show d < 16 by omega) (by decide))) (fun e11 => ?_)
      refine pg_iload h d_Mod_nibble_14 rfl ?_
      refine pg_cS h d_Mod_nibble_16 m_Mod_codeOf l_Mod_77 (c_Mod_codeOf w ok S (nI d)) rfl rfl (Nat.le_of_ble_eq_true rfl) ⟨(Nat.le_of_ble_eq_true rfl), (Nat.le_of_ble_eq_true rfl)⟩ ⟨Nat.le_refl _, Nat.le_refl _⟩ ?_
      refine pg_istore h d_Mod_nibble_19 (Nat.le_of_ble_eq_true rfl) rfl rfl ?_
      refine pg_iconst (v := 0) h d_Mod_nibble_21 (by decide) ?_
      refine pg_istore h d_Mod_nibble_22 (Nat.le_of_ble_eq_true rfl) rfl rfl ?_
      refine pg_iconst (v := 0) h d_Mod_nibble_24 (by decide) ?_
      refine pg_istore h d_Mod_nibble_25 (Nat.le_of_ble_eq_true rfl) rfl rfl ?_
      exact inner d hout 8 0 rfl
  refine pg_iconst (v := (-1)) h d_Mod_nibble_0 (by decide) ?_
  refine pg_istore_n h d_Mod_nibble_1 (Nat.le_of_ble_eq_true rfl) rfl rfl ?_
  refine pg_iconst (v := 0) h d_Mod_nibble_2 (by decide) ?_
  refine pg_istore_n h d_Mod_nibble_3 (Nat.le_of_ble_eq_true rfl) rfl rfl ?_
  refine pg_iconst (v := 0) h d_Mod_nibble_4 (by decide) ?_
  refine pg_istore h d_Mod_nibble_5 (Nat.le_of_ble_eq_true rfl) rfl rfl ?_
  exact loop 16 0 none none none rfl

set_option maxRecDepth 100000 in
set_option maxHeartbeats 4000000 in
theorem c_Mod_letter (w : pf_W) (ok : pf_ok w) (A S0 : pf_S) (z : Int32) (b : Nat) (hb : b < 256) : pm_C w y_Mod_letter b_Mod_letter 2 (some .int) 1 22 [.ref (w.2.1 20 0), .int (nI b)] z (A) S0 (some (.int (letV (nI b)))) z (letT A (nI b)) := by
  refine pm_enter (by decide) (Nat.le_of_ble_eq_true rfl) (lv0 := [some (.ref (w.2.1 20 0)), some (.int (nI b))]) rfl (fun κ S h hR hg => ?_)
  refine pg_iload_n h d_Mod_letter_0 rfl ?_
  refine pg_cS h d_Mod_letter_1 m_Mod_parity l_Mod_73 (c_Mod_parity w ok S _) rfl rfl (Nat.le_of_ble_eq_true rfl) ⟨(Nat.le_of_ble_eq_true rfl), (Nat.le_of_ble_eq_true rfl)⟩ ⟨Nat.le_refl _, Nat.le_refl _⟩ ?_
  refine pg_if_ne (tgt := 19) h d_Mod_letter_4 rfl (fun e4 => ?_) (fun e4 => ?_)
  · skip
    refine pg_iload_n h d_Mod_letter_19 rfl ?_
    refine pg_bipush (v := 127) h d_Mod_letter_20 (by decide) ?_
    refine pg_iand h d_Mod_letter_22 ?_
    exact pm_iret h d_Mod_letter_23 rfl (by rw [letV]; first | rw [if_pos ((par_od hb).mp e4)] | rw [if_neg (fun q => e4 ((par_od hb).mpr q))]) (by rw [letT, if_neg (fun q => e4 ((par_od hb).mpr q))]; exact hR) (hg)
  refine pg_aload_n h d_Mod_letter_7 rfl ?_
  refine pf_get h ok d_Mod_letter_8 f_Mod_41 (by first | rfl | exact hk | exact hk2 | exact dm12 _ | assumption) rfl rfl ?_
  refine pg_iconst (v := 4) h d_Mod_letter_11 (by decide) ?_
  refine pg_dup2 h d_Mod_letter_12 rfl rfl ?_
  refine pf_ild h ok d_Mod_letter_13 (by first | rfl | exact hk | exact hk2 | exact dm12 _ | assumption) rfl (pg_ixN (j := 4) rfl (by decide) (by decide)) ?_
  refine pg_iconst (v := 1) h d_Mod_letter_14 (by decide) ?_
  refine pg_iadd h d_Mod_letter_15 ?_
  refine pf_ist h ok d_Mod_letter_16 (by first | rfl | exact hk | exact hk2 | exact dm12 _ | assumption) (fun _ => rfl) (pg_ixN (j := 4) rfl (by decide) (by decide)) ?_
  refine pg_iconst (v := (-1)) h d_Mod_letter_17 (by decide) ?_
  exact pm_iret h d_Mod_letter_18 rfl (by rw [letV]; first | rw [if_pos ((par_od hb).mp e4)] | rw [if_neg (fun q => e4 ((par_od hb).mpr q))]) (by rw [letT, if_pos ((par_od hb).mp e4), hR.2.1 4 (by decide)]; exact hR.cnt) (hg.st (by decide))
