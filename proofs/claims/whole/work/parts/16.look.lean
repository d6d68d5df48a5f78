/-! Screen.colourAt; look and point. -/
/-- Screen.blockFills, letterFills, colourAt, by Screen's row u -/
def bfV (u : Nat → Int32) (a b : Int32) : Int32 := if ¬ u 7 &&& 2 = 0 ∧ (a - a / 2 * 2 = 1 ∨ b - b / 2 * 2 = 1) then 0 else if u 4 >>> ((if 2 * (b / 2) + a / 2 = 5 then 6 else 2 * (b / 2) + a / 2) &&& 31) &&& 1 = 1 then 1 else 0
def lfV (u : Nat → Int32) (a b : Int32) : Int32 := if u 4 = 32 then 0 else if (u 4 * 40503 ^^^ u 4 <<< ((7 : Int32) &&& 31)) >>> (b * 4 + a &&& 31) &&& 1 = 1 then 1 else 0
def wV (u : Nat → Int32) (b : Int32) : Int32 := if u 7 &&& 4 = 0 then (if u 7 &&& 8 = 0 then b else 3 + b / 2) else b / 2
def caV (u : Nat → Int32) (a b : Int32) : Int32 := if (if u 7 &&& 1 = 0 then lfV u a (wV u b) else bfV u a (wV u b)) = 0 then u 6 else u 5

set_option maxRecDepth 100000 in
set_option maxHeartbeats 4000000 in
theorem c_Screen_blockFills (w : pf_W) (ok : pf_ok w) (S : pf_S) (g u : Nat → Int32) (a b : Int32) : pf_C w y_Screen_blockFills b_Screen_blockFills 4 (some .boolean) 0 0 [.ref (w.2.1 12 0), .int a, .int b] (SC S g u) (some (.int (bfV u a b))) (SC S g u) := by
  refine pf_enter (by decide) (Nat.le_of_ble_eq_true rfl) (lv0 := [some (.ref (w.2.1 12 0)), some (.int a), some (.int b), none]) rfl (fun κ h => ?_)
  refine pg_aload_n h d_Screen_blockFills_0 rfl ?_
  refine pf_get h ok d_Screen_blockFills_1 f_Screen_129 (by first | rfl | exact hk | exact hk2 | exact dm12 _ | assumption) rfl rfl ?_
  try simp only [SC13, SC12, SC_12, SC_13, SC_6, SC_10, SC_14, SC_15, SC_16, SC_17]
  refine pg_iconst (v := 2) h d_Screen_blockFills_4 (by decide) ?_
  refine pg_iand h d_Screen_blockFills_5 ?_
  refine pg_if_eq (tgt := 25) h d_Screen_blockFills_6 rfl (fun e6 => ?_) (fun e6 => ?_)
  · skip
    refine pg_iconst (v := 2) h d_Screen_blockFills_25 (by decide) ?_
    refine pg_iload_n h d_Screen_blockFills_26 rfl ?_
    refine pg_iconst (v := 2) h d_Screen_blockFills_27 (by decide) ?_
    refine pg_idiv h d_Screen_blockFills_28 (by decide) ?_
    refine pg_imul h d_Screen_blockFills_29 ?_
    refine pg_iload_n h d_Screen_blockFills_30 rfl ?_
    refine pg_iconst (v := 2) h d_Screen_blockFills_31 (by decide) ?_
    refine pg_idiv h d_Screen_blockFills_32 (by decide) ?_
    refine pg_iadd h d_Screen_blockFills_33 ?_
    refine pg_istore_n h d_Screen_blockFills_34 (Nat.le_of_ble_eq_true rfl) rfl rfl ?_
    refine pg_aload_n h d_Screen_blockFills_35 rfl ?_
    refine pf_get h ok d_Screen_blockFills_36 f_Screen_126 (by first | rfl | exact hk | exact hk2 | exact dm12 _ | assumption) rfl rfl ?_
    try simp only [SC13, SC12, SC_12, SC_13, SC_6, SC_10, SC_14, SC_15, SC_16, SC_17]
    refine pg_iload_n h d_Screen_blockFills_39 rfl ?_
    refine pg_iconst (v := 5) h d_Screen_blockFills_40 (by decide) ?_
    refine pg_icmp_ne (tgt := 49) h d_Screen_blockFills_41 rfl (fun e41 => ?_) (fun e41 => ?_)
    · skip
      refine pg_iload_n h d_Screen_blockFills_49 rfl ?_
      refine pg_ishr h d_Screen_blockFills_50 ?_
      refine pg_iconst (v := 1) h d_Screen_blockFills_51 (by decide) ?_
      refine pg_iand h d_Screen_blockFills_52 ?_
      refine pg_iconst (v := 1) h d_Screen_blockFills_53 (by decide) ?_
      refine pg_icmp_ne (tgt := 61) h d_Screen_blockFills_54 rfl (fun e54 => ?_) (fun e54 => ?_)
      · skip
        refine pg_iconst (v := 0) h d_Screen_blockFills_61 (by decide) ?_
        exact pf_iret h d_Screen_blockFills_62 rfl (by simp [bfV, *]) rfl
      refine pg_iconst (v := 1) h d_Screen_blockFills_57 (by decide) ?_
      refine pg_goto (tgt := 62) h d_Screen_blockFills_58 rfl ?_
      exact pf_iret h d_Screen_blockFills_62 rfl (by simp [bfV, *]) rfl
    refine pg_bipush (v := 6) h d_Screen_blockFills_44 (by decide) ?_
    refine pg_goto (tgt := 50) h d_Screen_blockFills_46 rfl ?_
    refine pg_ishr h d_Screen_blockFills_50 ?_
    refine pg_iconst (v := 1) h d_Screen_blockFills_51 (by decide) ?_
    refine pg_iand h d_Screen_blockFills_52 ?_
    refine pg_iconst (v := 1) h d_Screen_blockFills_53 (by decide) ?_
    refine pg_icmp_ne (tgt := 61) h d_Screen_blockFills_54 rfl (fun e54 => ?_) (fun e54 => ?_)
    · skip
      refine pg_iconst (v := 0) h d_Screen_blockFills_61 (by decide) ?_
      exact pf_iret h d_Screen_blockFills_62 rfl (by simp [bfV, *]) rfl
    refine pg_iconst (v := 1) h d_Screen_blockFills_57 (by decide) ?_
    refine pg_goto (tgt := 62) h d_Screen_blockFills_58 rfl ?_
    exact pf_iret h d_Screen_blockFills_62 rfl (by simp [bfV, *]) rfl
  refine pg_iload_n h d_Screen_blockFills_9 rfl ?_
  refine pg_iconst (v := 2) h d_Screen_blockFills_10 (by decide) ?_
  refine pg_irem h d_Screen_blockFills_11 (by decide) ?_
  refine pg_iconst (v := 1) h d_Screen_blockFills_12 (by decide) ?_
  refine pg_icmp_eq (tgt := 23) h d_Screen_blockFills_13 rfl (fun e13 => ?_) (fun e13 => ?_)
  · skip
    refine pg_iconst (v := 0) h d_Screen_blockFills_23 (by decide) ?_
    exact pf_iret h d_Screen_blockFills_24 rfl (by simp [bfV, *]) rfl
  refine pg_iload_n h d_Screen_blockFills_16 rfl ?_
  refine pg_iconst (v := 2) h d_Screen_blockFills_17 (by decide) ?_
  refine pg_irem h d_Screen_blockFills_18 (by decide) ?_
  refine pg_iconst (v := 1) h d_Screen_blockFills_19 (by decide) ?_
  refine pg_icmp_ne (tgt := 25) h d_Screen_blockFills_20 rfl (fun e20 => ?_) (fun e20 => ?_)
  · skip
    refine pg_iconst (v := 2) h d_Screen_blockFills_25 (by decide) ?_
    refine pg_iload_n h d_Screen_blockFills_26 rfl ?_
    refine pg_iconst (v := 2) h d_Screen_blockFills_27 (by decide) ?_
    refine pg_idiv h d_Screen_blockFills_28 (by decide) ?_
    refine pg_imul h d_Screen_blockFills_29 ?_
    refine pg_iload_n h d_Screen_blockFills_30 rfl ?_
    refine pg_iconst (v := 2) h d_Screen_blockFills_31 (by decide) ?_
    refine pg_idiv h d_Screen_blockFills_32 (by decide) ?_
    refine pg_iadd h d_Screen_blockFills_33 ?_
    refine pg_istore_n h d_Screen_blockFills_34 (Nat.le_of_ble_eq_true rfl) rfl rfl ?_
    refine pg_aload_n h d_Screen_blockFills_35 rfl ?_
    refine pf_get h ok d_Screen_blockFills_36 f_Screen_126 (by first | rfl | exact hk | exact hk2 | exact dm12 _ | assumption) rfl rfl ?_
    try simp only [SC13, SC12, SC_12, SC_13, SC_6, SC_10, SC_14, SC_15, SC_16, SC_17]
    refine pg_iload_n h d_Screen_blockFills_39 rfl ?_
    refine pg_iconst (v := 5) h d_Screen_blockFills_40 (by decide) ?_
    refine pg_icmp_ne (tgt := 49) h d_Screen_blockFills_41 rfl (fun e41 => ?_) (fun e41 => ?_)
    · skip
      refine pg_iload_n h d_Screen_blockFills_49 rfl ?_
      refine pg_ishr h d_Screen_blockFills_50 ?_
      refine pg_iconst (v := 1) h d_Screen_blockFills_51 (by decide) ?_
      refine pg_iand h d_Screen_blockFills_52 ?_
      refine pg_iconst (v := 1) h d_Screen_blockFills_53 (by decide) ?_
      refine pg_icmp_ne (tgt := 61) h d_Screen_blockFills_54 rfl (fun e54 => ?_) (fun e54 => ?_)
      · skip
        refine pg_iconst (v := 0) h d_Screen_blockFills_61 (by decide) ?_
        exact pf_iret h d_Screen_blockFills_62 rfl (by simp [bfV, *]) rfl
      refine pg_iconst (v := 1) h d_Screen_blockFills_57 (by decide) ?_
      refine pg_goto (tgt := 62) h d_Screen_blockFills_58 rfl ?_
      exact pf_iret h d_Screen_blockFills_62 rfl (by simp [bfV, *]) rfl
    refine pg_bipush (v := 6) h d_Screen_blockFills_44 (by decide) ?_
    refine pg_goto (tgt := 50) h d_Screen_blockFills_46 rfl ?_
    refine pg_ishr h d_Screen_blockFills_50 ?_
    refine pg_iconst (v := 1) h d_Screen_blockFills_51 (by decide) ?_
    refine pg_iand h d_Screen_blockFills_52 ?_
    refine pg_iconst (v := 1) h d_Screen_blockFills_53 (by decide) ?_
    refine pg_icmp_ne (tgt := 61) h d_Screen_blockFills_54 rfl (fun e54 => ?_) (fun e54 => ?_)
    · skip
      refine pg_iconst (v := 0) h d_Screen_blockFills_61 (by decide) ?_
      exact pf_iret h d_Screen_blockFills_62 rfl (by simp [bfV, *]) rfl
    refine pg_iconst (v := 1) h d_Screen_blockFills_57 (by decide) ?_
    refine pg_goto (tgt := 62) h d_Screen_blockFills_58 rfl ?_
    exact pf_iret h d_Screen_blockFills_62 rfl (by simp [bfV, *]) rfl
  refine pg_iconst (v := 0) h d_Screen_blockFills_23 (by decide) ?_
  exact pf_iret h d_Screen_blockFills_24 rfl (by simp [bfV, *]) rfl

set_option maxRecDepth 100000 in
set_option maxHeartbeats 4000000 in
theorem c_Screen_letterFills (w : pf_W) (ok : pf_ok w) (S : pf_S) (g u : Nat → Int32) (a b : Int32) : pf_C w y_Screen_letterFills b_Screen_letterFills 4 (some .boolean) 0 0 [.ref (w.2.1 12 0), .int a, .int b] (SC S g u) (some (.int (lfV u a b))) (SC S g u) := by
  refine pf_enter (by decide) (Nat.le_of_ble_eq_true rfl) (lv0 := [some (.ref (w.2.1 12 0)), some (.int a), some (.int b), none]) rfl (fun κ h => ?_)
  refine pg_aload_n h d_Screen_letterFills_0 rfl ?_
  refine pf_get h ok d_Screen_letterFills_1 f_Screen_126 (by first | rfl | exact hk | exact hk2 | exact dm12 _ | assumption) rfl rfl ?_
  try simp only [SC13, SC12, SC_12, SC_13, SC_6, SC_10, SC_14, SC_15, SC_16, SC_17]
  refine pg_ldc (v := 40503) h d_Screen_letterFills_4 (pg_tb 604 rfl rfl) ?_
  refine pg_imul h d_Screen_letterFills_6 ?_
  refine pg_aload_n h d_Screen_letterFills_7 rfl ?_
  refine pf_get h ok d_Screen_letterFills_8 f_Screen_126 (by first | rfl | exact hk | exact hk2 | exact dm12 _ | assumption) rfl rfl ?_
  try simp only [SC13, SC12, SC_12, SC_13, SC_6, SC_10, SC_14, SC_15, SC_16, SC_17]
  refine pg_bipush (v := 7) h d_Screen_letterFills_11 (by decide) ?_
  refine pg_ishl h d_Screen_letterFills_13 ?_
  refine pg_ixor h d_Screen_letterFills_14 ?_
  refine pg_istore_n h d_Screen_letterFills_15 (Nat.le_of_ble_eq_true rfl) rfl rfl ?_
  refine pg_aload_n h d_Screen_letterFills_16 rfl ?_
  refine pf_get h ok d_Screen_letterFills_17 f_Screen_126 (by first | rfl | exact hk | exact hk2 | exact dm12 _ | assumption) rfl rfl ?_
  try simp only [SC13, SC12, SC_12, SC_13, SC_6, SC_10, SC_14, SC_15, SC_16, SC_17]
  refine pg_bipush (v := 32) h d_Screen_letterFills_20 (by decide) ?_
  refine pg_icmp_eq (tgt := 42) h d_Screen_letterFills_22 rfl (fun e22 => ?_) (fun e22 => ?_)
  · skip
    refine pg_iconst (v := 0) h d_Screen_letterFills_42 (by decide) ?_
    exact pf_iret h d_Screen_letterFills_43 rfl (by simp [lfV, *]) rfl
  refine pg_iload_n h d_Screen_letterFills_25 rfl ?_
  refine pg_iload_n h d_Screen_letterFills_26 rfl ?_
  refine pg_iconst (v := 4) h d_Screen_letterFills_27 (by decide) ?_
  refine pg_imul h d_Screen_letterFills_28 ?_
  refine pg_iload_n h d_Screen_letterFills_29 rfl ?_
  refine pg_iadd h d_Screen_letterFills_30 ?_
  refine pg_ishr h d_Screen_letterFills_31 ?_
  refine pg_iconst (v := 1) h d_Screen_letterFills_32 (by decide) ?_
  refine pg_iand h d_Screen_letterFills_33 ?_
  refine pg_iconst (v := 1) h d_Screen_letterFills_34 (by decide) ?_
  refine pg_icmp_ne (tgt := 42) h d_Screen_letterFills_35 rfl (fun e35 => ?_) (fun e35 => ?_)
  · skip
    refine pg_iconst (v := 0) h d_Screen_letterFills_42 (by decide) ?_
    exact pf_iret h d_Screen_letterFills_43 rfl (by simp [lfV, *]) rfl
  refine pg_iconst (v := 1) h d_Screen_letterFills_38 (by decide) ?_
  refine pg_goto (tgt := 43) h d_Screen_letterFills_39 rfl ?_
  exact pf_iret h d_Screen_letterFills_43 rfl (by simp [lfV, *]) rfl

set_option maxRecDepth 100000 in
set_option maxHeartbeats 4000000 in
theorem c_Screen_colourAt (w : pf_W) (ok : pf_ok w) (S : pf_S) (g u : Nat → Int32) (a b : Int32) : pf_C w y_Screen_colourAt b_Screen_colourAt 5 (some .int) 1 23 [.ref (w.2.1 12 0), .int a, .int b] (SC S g u) (some (.int (caV u a b))) (SC S g u) := by
  refine pf_enter (by decide) (Nat.le_of_ble_eq_true rfl) (lv0 := [some (.ref (w.2.1 12 0)), some (.int a), some (.int b), none, none]) rfl (fun κ h => ?_)
  refine pg_iload_n h d_Screen_colourAt_0 rfl ?_
  refine pg_istore_n h d_Screen_colourAt_1 (Nat.le_of_ble_eq_true rfl) rfl rfl ?_
  refine pg_aload_n h d_Screen_colourAt_2 rfl ?_
  refine pf_get h ok d_Screen_colourAt_3 f_Screen_129 (by first | rfl | exact hk | exact hk2 | exact dm12 _ | assumption) rfl rfl ?_
  try simp only [SC13, SC12, SC_12, SC_13, SC_6, SC_10, SC_14, SC_15, SC_16, SC_17]
  refine pg_iconst (v := 4) h d_Screen_colourAt_6 (by decide) ?_
  refine pg_iand h d_Screen_colourAt_7 ?_
  refine pg_if_eq (tgt := 18) h d_Screen_colourAt_8 rfl (fun e8 => ?_) (fun e8 => ?_)
  · skip
    refine pg_aload_n h d_Screen_colourAt_18 rfl ?_
    refine pf_get h ok d_Screen_colourAt_19 f_Screen_129 (by first | rfl | exact hk | exact hk2 | exact dm12 _ | assumption) rfl rfl ?_
    try simp only [SC13, SC12, SC_12, SC_13, SC_6, SC_10, SC_14, SC_15, SC_16, SC_17]
    refine pg_bipush (v := 8) h d_Screen_colourAt_22 (by decide) ?_
    refine pg_iand h d_Screen_colourAt_24 ?_
    refine pg_if_eq (tgt := 34) h d_Screen_colourAt_25 rfl (fun e25 => ?_) (fun e25 => ?_)
    · skip
      refine pg_aload_n h d_Screen_colourAt_34 rfl ?_
      refine pf_get h ok d_Screen_colourAt_35 f_Screen_129 (by first | rfl | exact hk | exact hk2 | exact dm12 _ | assumption) rfl rfl ?_
      try simp only [SC13, SC12, SC_12, SC_13, SC_6, SC_10, SC_14, SC_15, SC_16, SC_17]
      refine pg_iconst (v := 1) h d_Screen_colourAt_38 (by decide) ?_
      refine pg_iand h d_Screen_colourAt_39 ?_
      refine pg_if_eq (tgt := 52) h d_Screen_colourAt_40 rfl (fun e40 => ?_) (fun e40 => ?_)
      · skip
        refine pg_aload_n h d_Screen_colourAt_52 rfl ?_
        refine pg_iload_n h d_Screen_colourAt_53 rfl ?_
        refine pg_iload_n h d_Screen_colourAt_54 rfl ?_
        refine pf_cV h ok d_Screen_colourAt_55 m_Screen_letterFills l_Screen_162 (c_Screen_letterFills w ok S g u a _) cn_Screen (by first | rfl | exact hk | exact hk2 | exact dm12 _ | assumption) rfl rfl rfl (Nat.le_of_ble_eq_true rfl) ⟨(Nat.le_of_ble_eq_true rfl), (Nat.le_of_ble_eq_true rfl)⟩ ⟨Nat.le_refl _, Nat.le_refl _⟩ ?_
        try simp only [SC13, SC12, SC_12, SC_13, SC_6, SC_10, SC_14, SC_15, SC_16, SC_17]
        refine pg_istore h d_Screen_colourAt_58 (Nat.le_of_ble_eq_true rfl) rfl rfl ?_
        refine pg_iload h d_Screen_colourAt_60 rfl ?_
        refine pg_if_eq (tgt := 72) h d_Screen_colourAt_62 rfl (fun e62 => ?_) (fun e62 => ?_)
        · skip
          refine pg_aload_n h d_Screen_colourAt_72 rfl ?_
          refine pf_get h ok d_Screen_colourAt_73 f_Screen_148 (by first | rfl | exact hk | exact hk2 | exact dm12 _ | assumption) rfl rfl ?_
          try simp only [SC13, SC12, SC_12, SC_13, SC_6, SC_10, SC_14, SC_15, SC_16, SC_17]
          exact pf_iret h d_Screen_colourAt_76 rfl (by simp [caV, wV, *]) rfl
        refine pg_aload_n h d_Screen_colourAt_65 rfl ?_
        refine pf_get h ok d_Screen_colourAt_66 f_Screen_144 (by first | rfl | exact hk | exact hk2 | exact dm12 _ | assumption) rfl rfl ?_
        try simp only [SC13, SC12, SC_12, SC_13, SC_6, SC_10, SC_14, SC_15, SC_16, SC_17]
        refine pg_goto (tgt := 76) h d_Screen_colourAt_69 rfl ?_
        exact pf_iret h d_Screen_colourAt_76 rfl (by simp [caV, wV, *]) rfl
      refine pg_aload_n h d_Screen_colourAt_43 rfl ?_
      refine pg_iload_n h d_Screen_colourAt_44 rfl ?_
      refine pg_iload_n h d_Screen_colourAt_45 rfl ?_
      refine pf_cV h ok d_Screen_colourAt_46 m_Screen_blockFills l_Screen_158 (c_Screen_blockFills w ok S g u a _) cn_Screen (by first | rfl | exact hk | exact hk2 | exact dm12 _ | assumption) rfl rfl rfl (Nat.le_of_ble_eq_true rfl) ⟨(Nat.le_of_ble_eq_true rfl), (Nat.le_of_ble_eq_true rfl)⟩ ⟨Nat.le_refl _, Nat.le_refl _⟩ ?_
      try simp only [SC13, SC12, SC_12, SC_13, SC_6, SC_10, SC_14, SC_15, SC_16, SC_17]
      refine pg_goto (tgt := 58) h d_Screen_colourAt_49 rfl ?_
      refine pg_istore h d_Screen_colourAt_58 (Nat.le_of_ble_eq_true rfl) rfl rfl ?_
      refine pg_iload h d_Screen_colourAt_60 rfl ?_
      refine pg_if_eq (tgt := 72) h d_Screen_colourAt_62 rfl (fun e62 => ?_) (fun e62 => ?_)
      · skip
        refine pg_aload_n h d_Screen_colourAt_72 rfl ?_
        refine pf_get h ok d_Screen_colourAt_73 f_Screen_148 (by first | rfl | exact hk | exact hk2 | exact dm12 _ | assumption) rfl rfl ?_
        try simp only [SC13, SC12, SC_12, SC_13, SC_6, SC_10, SC_14, SC_15, SC_16, SC_17]
        exact pf_iret h d_Screen_colourAt_76 rfl (by simp [caV, wV, *]) rfl
      refine pg_aload_n h d_Screen_colourAt_65 rfl ?_
      refine pf_get h ok d_Screen_colourAt_66 f_Screen_144 (by first | rfl | exact hk | exact hk2 | exact dm12 _ | assumption) rfl rfl ?_
      try simp only [SC13, SC12, SC_12, SC_13, SC_6, SC_10, SC_14, SC_15, SC_16, SC_17]
      refine pg_goto (tgt := 76) h d_Screen_colourAt_69 rfl ?_
      exact pf_iret h d_Screen_colourAt_76 rfl (by simp [caV, wV, *]) rfl
    refine pg_iconst (v := 3) h d_Screen_colourAt_28 (by decide) ?_
    refine pg_iload_n h d_Screen_colourAt_29 rfl ?_
    refine pg_iconst (v := 2) h d_Screen_colourAt_30 (by decide) ?_
    refine pg_idiv h d_Screen_colourAt_31 (by decide) ?_
    refine pg_iadd h d_Screen_colourAt_32 ?_
    refine pg_istore_n h d_Screen_colourAt_33 (Nat.le_of_ble_eq_true rfl) rfl rfl ?_
    refine pg_aload_n h d_Screen_colourAt_34 rfl ?_
    refine pf_get h ok d_Screen_colourAt_35 f_Screen_129 (by first | rfl | exact hk | exact hk2 | exact dm12 _ | assumption) rfl rfl ?_
    try simp only [SC13, SC12, SC_12, SC_13, SC_6, SC_10, SC_14, SC_15, SC_16, SC_17]
    refine pg_iconst (v := 1) h d_Screen_colourAt_38 (by decide) ?_
    refine pg_iand h d_Screen_colourAt_39 ?_
    refine pg_if_eq (tgt := 52) h d_Screen_colourAt_40 rfl (fun e40 => ?_) (fun e40 => ?_)
    · skip
      refine pg_aload_n h d_Screen_colourAt_52 rfl ?_
      refine pg_iload_n h d_Screen_colourAt_53 rfl ?_
      refine pg_iload_n h d_Screen_colourAt_54 rfl ?_
      refine pf_cV h ok d_Screen_colourAt_55 m_Screen_letterFills l_Screen_162 (c_Screen_letterFills w ok S g u a _) cn_Screen (by first | rfl | exact hk | exact hk2 | exact dm12 _ | assumption) rfl rfl rfl (Nat.le_of_ble_eq_true rfl) ⟨(Nat.le_of_ble_eq_true rfl), (Nat.le_of_ble_eq_true rfl)⟩ ⟨Nat.le_refl _, Nat.le_refl _⟩ ?_
      try simp only [SC13, SC12, SC_12, SC_13, SC_6, SC_10, SC_14, SC_15, SC_16, SC_17]
      refine pg_istore h d_Screen_colourAt_58 (Nat.le_of_ble_eq_true rfl) rfl rfl ?_
      refine pg_iload h d_Screen_colourAt_60 rfl ?_
      refine pg_if_eq (tgt := 72) h d_Screen_colourAt_62 rfl (fun e62 => ?_) (fun e62 => ?_)
      · skip
        refine pg_aload_n h d_Screen_colourAt_72 rfl ?_
        refine pf_get h ok d_Screen_colourAt_73 f_Screen_148 (by first | rfl | exact hk | exact hk2 | exact dm12 _ | assumption) rfl rfl ?_
        try simp only [SC13, SC12, SC_12, SC_13, SC_6, SC_10, SC_14, SC_15, SC_16, SC_17]
        exact pf_iret h d_Screen_colourAt_76 rfl (by simp [caV, wV, *]) rfl
      refine pg_aload_n h d_Screen_colourAt_65 rfl ?_
      refine pf_get h ok d_Screen_colourAt_66 f_Screen_144 (by first | rfl | exact hk | exact hk2 | exact dm12 _ | assumption) rfl rfl ?_
      try simp only [SC13, SC12, SC_12, SC_13, SC_6, SC_10, SC_14, SC_15, SC_16, SC_17]
      refine pg_goto (tgt := 76) h d_Screen_colourAt_69 rfl ?_
      exact pf_iret h d_Screen_colourAt_76 rfl (by simp [caV, wV, *]) rfl
    refine pg_aload_n h d_Screen_colourAt_43 rfl ?_
    refine pg_iload_n h d_Screen_colourAt_44 rfl ?_
    refine pg_iload_n h d_Screen_colourAt_45 rfl ?_
    refine pf_cV h ok d_Screen_colourAt_46 m_Screen_blockFills l_Screen_158 (c_Screen_blockFills w ok S g u a _) cn_Screen (by first | rfl | exact hk | exact hk2 | exact dm12 _ | assumption) rfl rfl rfl (Nat.le_of_ble_eq_true rfl) ⟨(Nat.le_of_ble_eq_true rfl), (Nat.le_of_ble_eq_true rfl)⟩ ⟨Nat.le_refl _, Nat.le_refl _⟩ ?_
    try simp only [SC13, SC12, SC_12, SC_13, SC_6, SC_10, SC_14, SC_15, SC_16, SC_17]
    refine pg_goto (tgt := 58) h d_Screen_colourAt_49 rfl ?_
    refine pg_istore h d_Screen_colourAt_58 (Nat.le_of_ble_eq_true rfl) rfl rfl ?_
    refine pg_iload h d_Screen_colourAt_60 rfl ?_
    refine pg_if_eq (tgt := 72) h d_Screen_colourAt_62 rfl (fun e62 => ?_) (fun e62 => ?_)
    · skip
      refine pg_aload_n h d_Screen_colourAt_72 rfl ?_
      refine pf_get h ok d_Screen_colourAt_73 f_Screen_148 (by first | rfl | exact hk | exact hk2 | exact dm12 _ | assumption) rfl rfl ?_
      try simp only [SC13, SC12, SC_12, SC_13, SC_6, SC_10, SC_14, SC_15, SC_16, SC_17]
      exact pf_iret h d_Screen_colourAt_76 rfl (by simp [caV, wV, *]) rfl
    refine pg_aload_n h d_Screen_colourAt_65 rfl ?_
    refine pf_get h ok d_Screen_colourAt_66 f_Screen_144 (by first | rfl | exact hk | exact hk2 | exact dm12 _ | assumption) rfl rfl ?_
    try simp only [SC13, SC12, SC_12, SC_13, SC_6, SC_10, SC_14, SC_15, SC_16, SC_17]
    refine pg_goto (tgt := 76) h d_Screen_colourAt_69 rfl ?_
    exact pf_iret h d_Screen_colourAt_76 rfl (by simp [caV, wV, *]) rfl
  refine pg_iload_n h d_Screen_colourAt_11 rfl ?_
  refine pg_iconst (v := 2) h d_Screen_colourAt_12 (by decide) ?_
  refine pg_idiv h d_Screen_colourAt_13 (by decide) ?_
  refine pg_istore_n h d_Screen_colourAt_14 (Nat.le_of_ble_eq_true rfl) rfl rfl ?_
  refine pg_goto (tgt := 34) h d_Screen_colourAt_15 rfl ?_
  refine pg_aload_n h d_Screen_colourAt_34 rfl ?_
  refine pf_get h ok d_Screen_colourAt_35 f_Screen_129 (by first | rfl | exact hk | exact hk2 | exact dm12 _ | assumption) rfl rfl ?_
  try simp only [SC13, SC12, SC_12, SC_13, SC_6, SC_10, SC_14, SC_15, SC_16, SC_17]
  refine pg_iconst (v := 1) h d_Screen_colourAt_38 (by decide) ?_
  refine pg_iand h d_Screen_colourAt_39 ?_
  refine pg_if_eq (tgt := 52) h d_Screen_colourAt_40 rfl (fun e40 => ?_) (fun e40 => ?_)
  · skip
    refine pg_aload_n h d_Screen_colourAt_52 rfl ?_
    refine pg_iload_n h d_Screen_colourAt_53 rfl ?_
    refine pg_iload_n h d_Screen_colourAt_54 rfl ?_
    refine pf_cV h ok d_Screen_colourAt_55 m_Screen_letterFills l_Screen_162 (c_Screen_letterFills w ok S g u a _) cn_Screen (by first | rfl | exact hk | exact hk2 | exact dm12 _ | assumption) rfl rfl rfl (Nat.le_of_ble_eq_true rfl) ⟨(Nat.le_of_ble_eq_true rfl), (Nat.le_of_ble_eq_true rfl)⟩ ⟨Nat.le_refl _, Nat.le_refl _⟩ ?_
    try simp only [SC13, SC12, SC_12, SC_13, SC_6, SC_10, SC_14, SC_15, SC_16, SC_17]
    refine pg_istore h d_Screen_colourAt_58 (Nat.le_of_ble_eq_true rfl) rfl rfl ?_
    refine pg_iload h d_Screen_colourAt_60 rfl ?_
    refine pg_if_eq (tgt := 72) h d_Screen_colourAt_62 rfl (fun e62 => ?_) (fun e62 => ?_)
    · skip
      refine pg_aload_n h d_Screen_colourAt_72 rfl ?_
      refine pf_get h ok d_Screen_colourAt_73 f_Screen_148 (by first | rfl | exact hk | exact hk2 | exact dm12 _ | assumption) rfl rfl ?_
      try simp only [SC13, SC12, SC_12, SC_13, SC_6, SC_10, SC_14, SC_15, SC_16, SC_17]
      exact pf_iret h d_Screen_colourAt_76 rfl (by simp [caV, wV, *]) rfl
    refine pg_aload_n h d_Screen_colourAt_65 rfl ?_
    refine pf_get h ok d_Screen_colourAt_66 f_Screen_144 (by first | rfl | exact hk | exact hk2 | exact dm12 _ | assumption) rfl rfl ?_
    try simp only [SC13, SC12, SC_12, SC_13, SC_6, SC_10, SC_14, SC_15, SC_16, SC_17]
    refine pg_goto (tgt := 76) h d_Screen_colourAt_69 rfl ?_
    exact pf_iret h d_Screen_colourAt_76 rfl (by simp [caV, wV, *]) rfl
  refine pg_aload_n h d_Screen_colourAt_43 rfl ?_
  refine pg_iload_n h d_Screen_colourAt_44 rfl ?_
  refine pg_iload_n h d_Screen_colourAt_45 rfl ?_
  refine pf_cV h ok d_Screen_colourAt_46 m_Screen_blockFills l_Screen_158 (c_Screen_blockFills w ok S g u a _) cn_Screen (by first | rfl | exact hk | exact hk2 | exact dm12 _ | assumption) rfl rfl rfl (Nat.le_of_ble_eq_true rfl) ⟨(Nat.le_of_ble_eq_true rfl), (Nat.le_of_ble_eq_true rfl)⟩ ⟨Nat.le_refl _, Nat.le_refl _⟩ ?_
  try simp only [SC13, SC12, SC_12, SC_13, SC_6, SC_10, SC_14, SC_15, SC_16, SC_17]
  refine pg_goto (tgt := 58) h d_Screen_colourAt_49 rfl ?_
  refine pg_istore h d_Screen_colourAt_58 (Nat.le_of_ble_eq_true rfl) rfl rfl ?_
  refine pg_iload h d_Screen_colourAt_60 rfl ?_
  refine pg_if_eq (tgt := 72) h d_Screen_colourAt_62 rfl (fun e62 => ?_) (fun e62 => ?_)
  · skip
    refine pg_aload_n h d_Screen_colourAt_72 rfl ?_
    refine pf_get h ok d_Screen_colourAt_73 f_Screen_148 (by first | rfl | exact hk | exact hk2 | exact dm12 _ | assumption) rfl rfl ?_
    try simp only [SC13, SC12, SC_12, SC_13, SC_6, SC_10, SC_14, SC_15, SC_16, SC_17]
    exact pf_iret h d_Screen_colourAt_76 rfl (by simp [caV, wV, *]) rfl
  refine pg_aload_n h d_Screen_colourAt_65 rfl ?_
  refine pf_get h ok d_Screen_colourAt_66 f_Screen_144 (by first | rfl | exact hk | exact hk2 | exact dm12 _ | assumption) rfl rfl ?_
  try simp only [SC13, SC12, SC_12, SC_13, SC_6, SC_10, SC_14, SC_15, SC_16, SC_17]
  refine pg_goto (tgt := 76) h d_Screen_colourAt_69 rfl ?_
  exact pf_iret h d_Screen_colourAt_76 rfl (by simp [caV, wV, *]) rfl

theorem c_see0 (w : pf_W) (ok : pf_ok w) (S : pf_S) (hw : 1 ≤ w.2.2.1 ∧ w.2.2.1 ≤ 4) (r c : Nat) (hr : r < 8) (hc : c < 20) : pf_C w y_Screen_see b_Screen_see 7 none 5 115 [.ref (w.2.1 12 0), .int (nI r), .int (nI c)] S none (SC S (seF S (shnF S w.2.2.1) r c (S 13 0) (S 12 0)).1 (seF S (shnF S w.2.2.1) r c (S 13 0) (S 12 0)).2) := by
  have q := c_Screen_see w ok S (S 13 0) (S 12 0) hw r c hr hc
  rw [SC_self] at q
  exact q
/-- the rows of States and Screen behind see -/
def seS (S : pf_S) (P r c : Nat) : (Nat → Int32) × (Nat → Int32) := seF S (shnF S P) r c (S 13 0) (S 12 0)
def isC (r c : Int32) : Prop := ¬ r < 0 ∧ ¬ 8 ≤ r ∧ ¬ c < 0 ∧ ¬ 20 ≤ c
theorem isC_nat {r c : Int32} (h : isC r c) : ∃ a b : Nat, a < 8 ∧ b < 20 ∧ r = nI a ∧ c = nI b := by
  obtain ⟨h1, h2, h3, h4⟩ := h
  have p := (ixP (P := 8) h1 h2 (by decide))
  have q := (ixP (P := 20) h3 h4 (by decide))
  obtain ⟨a, ha, rfl⟩ := nI_of h1
  obtain ⟨b, hb, rfl⟩ := nI_of h3
  rw [nI_clamp ha] at p
  rw [nI_clamp hb] at q
  exact ⟨a, b, p.2, q.2, rfl, rfl⟩
theorem c_isCell0 (w : pf_W) (ok : pf_ok w) (S : pf_S) (r c : Int32) (hn : ¬ isC r c) : pf_C w y_Recv_isCell b_Recv_isCell 2 (some .boolean) 0 0 [.int r, .int c] S (some (.int 0)) S := by
  have q := c_Recv_isCell w ok S r c
  unfold isC at hn
  rw [if_neg hn] at q
  exact q
def lkV (u : Nat → Int32) (x : Int32) : Int32 := if x = 0 then u 4 else if x = 1 then u 5 else if x = 2 then u 6 else if x = 3 then u 7 else -1

set_option maxRecDepth 100000 in
set_option maxHeartbeats 4000000 in
theorem c_look_out (w : pf_W) (ok : pf_ok w) (S : pf_S) (r c x : Int32) (hn : ¬ isC r c) : pf_C w y_Recv_look b_Recv_look 4 (some .int) 6 141 [.ref (w.2.1 0 0), .int r, .int c, .int x] S (some (.int (-1))) (S) := by
  refine pf_enter (by decide) (Nat.le_of_ble_eq_true rfl) (lv0 := [some (.ref (w.2.1 0 0)), some (.int r), some (.int c), some (.int x)]) rfl (fun κ h => ?_)
  refine pg_iload_n h d_Recv_look_0 rfl ?_
  refine pg_iload_n h d_Recv_look_1 rfl ?_
  refine pg_cS h d_Recv_look_2 m_Recv_isCell l_Recv_133 (c_isCell0 w ok S r c hn) rfl rfl (Nat.le_of_ble_eq_true rfl) ⟨(Nat.le_of_ble_eq_true rfl), (Nat.le_of_ble_eq_true rfl)⟩ ⟨Nat.le_refl _, Nat.le_refl _⟩ ?_
  refine pg_if_ne (tgt := 10) h d_Recv_look_5 rfl (fun e5 => absurd e5 (fun q => q rfl)) (fun e5 => ?_)
  refine pg_iconst (v := (-1)) h d_Recv_look_8 (by decide) ?_
  exact pf_iret h d_Recv_look_9 rfl (by first | rfl | simp [*]) rfl

set_option maxRecDepth 100000 in
set_option maxHeartbeats 4000000 in
theorem c_look_in (w : pf_W) (ok : pf_ok w) (S : pf_S) (hw : 1 ≤ w.2.2.1 ∧ w.2.2.1 ≤ 4) (r c : Nat) (hr : r < 8) (hc : c < 20) (x : Int32) : pf_C w y_Recv_look b_Recv_look 4 (some .int) 6 141 [.ref (w.2.1 0 0), .int (nI r), .int (nI c), .int x] S (some (.int (lkV (seS S w.2.2.1 r c).2 x))) (SC S (seS S w.2.2.1 r c).1 (seS S w.2.2.1 r c).2) := by
  refine pf_enter (by decide) (Nat.le_of_ble_eq_true rfl) (lv0 := [some (.ref (w.2.1 0 0)), some (.int (nI r)), some (.int (nI c)), some (.int x)]) rfl (fun κ h => ?_)
  refine pg_iload_n h d_Recv_look_0 rfl ?_
  refine pg_iload_n h d_Recv_look_1 rfl ?_
  refine pg_cS h d_Recv_look_2 m_Recv_isCell l_Recv_133 (c_isCell1 w ok S r c hr hc) rfl rfl (Nat.le_of_ble_eq_true rfl) ⟨(Nat.le_of_ble_eq_true rfl), (Nat.le_of_ble_eq_true rfl)⟩ ⟨Nat.le_refl _, Nat.le_refl _⟩ ?_
  try simp only [SC_12]
  refine pg_if_ne (tgt := 10) h d_Recv_look_5 rfl (fun e5 => ?_) (fun e5 => absurd e5 (by decide))
  refine pg_aload_n h d_Recv_look_10 rfl ?_
  refine pf_get h ok d_Recv_look_11 f_Recv_66 (by first | rfl | exact hk | exact hk2 | exact dm12 _ | assumption) rfl rfl ?_
  try simp only [SC_12]
  refine pg_iload_n h d_Recv_look_14 rfl ?_
  refine pg_iload_n h d_Recv_look_15 rfl ?_
  refine pf_cV0 h ok d_Recv_look_16 m_Screen_see l_Recv_137 (c_see0 w ok S hw r c hr hc) cn_Screen (by first | rfl | exact hk | exact hk2 | exact dm12 _ | assumption) rfl rfl rfl (Nat.le_of_ble_eq_true rfl) ⟨(Nat.le_of_ble_eq_true rfl), (Nat.le_of_ble_eq_true rfl)⟩ ⟨Nat.le_refl _, Nat.le_refl _⟩ ?_
  try simp only [SC_12]
  refine pg_iload_n h d_Recv_look_19 rfl ?_
  by_cases c20_0 : x = 0
  · refine pg_tableIn (off := 32) (tgt := 52) h d_Recv_look_20 (by rw [c20_0]; decide) (by rw [c20_0]; decide) (by rw [c20_0]; rfl) rfl ?_
    refine pg_aload_n h d_Recv_look_52 rfl ?_
    refine pf_get h ok d_Recv_look_53 f_Recv_66 (by first | rfl | exact hk | exact hk2 | exact dm12 _ | assumption) rfl rfl ?_
    try simp only [SC_12]
    refine pf_get h ok d_Recv_look_56 f_Recv_141 (by first | rfl | exact hk | exact hk2 | exact dm12 _ | assumption) rfl rfl ?_
    try simp only [SC_12]
    exact pf_iret h d_Recv_look_59 rfl (by simp [lkV, seS, *]) rfl
  by_cases c20_1 : x = 1
  · refine pg_tableIn (off := 40) (tgt := 60) h d_Recv_look_20 (by rw [c20_1]; decide) (by rw [c20_1]; decide) (by rw [c20_1]; rfl) rfl ?_
    refine pg_aload_n h d_Recv_look_60 rfl ?_
    refine pf_get h ok d_Recv_look_61 f_Recv_66 (by first | rfl | exact hk | exact hk2 | exact dm12 _ | assumption) rfl rfl ?_
    try simp only [SC_12]
    refine pf_get h ok d_Recv_look_64 f_Recv_144 (by first | rfl | exact hk | exact hk2 | exact dm12 _ | assumption) rfl rfl ?_
    try simp only [SC_12]
    exact pf_iret h d_Recv_look_67 rfl (by simp [lkV, seS, *]) rfl
  by_cases c20_2 : x = 2
  · refine pg_tableIn (off := 48) (tgt := 68) h d_Recv_look_20 (by rw [c20_2]; decide) (by rw [c20_2]; decide) (by rw [c20_2]; rfl) rfl ?_
    refine pg_aload_n h d_Recv_look_68 rfl ?_
    refine pf_get h ok d_Recv_look_69 f_Recv_66 (by first | rfl | exact hk | exact hk2 | exact dm12 _ | assumption) rfl rfl ?_
    try simp only [SC_12]
    refine pf_get h ok d_Recv_look_72 f_Recv_147 (by first | rfl | exact hk | exact hk2 | exact dm12 _ | assumption) rfl rfl ?_
    try simp only [SC_12]
    exact pf_iret h d_Recv_look_75 rfl (by simp [lkV, seS, *]) rfl
  by_cases c20_3 : x = 3
  · refine pg_tableIn (off := 56) (tgt := 76) h d_Recv_look_20 (by rw [c20_3]; decide) (by rw [c20_3]; decide) (by rw [c20_3]; rfl) rfl ?_
    refine pg_aload_n h d_Recv_look_76 rfl ?_
    refine pf_get h ok d_Recv_look_77 f_Recv_66 (by first | rfl | exact hk | exact hk2 | exact dm12 _ | assumption) rfl rfl ?_
    try simp only [SC_12]
    refine pf_get h ok d_Recv_look_80 f_Recv_150 (by first | rfl | exact hk | exact hk2 | exact dm12 _ | assumption) rfl rfl ?_
    try simp only [SC_12]
    exact pf_iret h d_Recv_look_83 rfl (by simp [lkV, seS, *]) rfl
  have o20 : ∀ j : Nat, j ≤ 3 → ¬ x = nI j := by
    intro j hj
    rcases (show j = 0 ∨ j = 1 ∨ j = 2 ∨ j = 3 by omega) with rfl | rfl | rfl | rfl
    · exact c20_0
    · exact c20_1
    · exact c20_2
    · exact c20_3
  refine pg_tableOut (tgt := 84) h d_Recv_look_20 (sw_out 3 (by decide) o20) rfl ?_
  refine pg_iconst (v := (-1)) h d_Recv_look_84 (by decide) ?_
  exact pf_iret h d_Recv_look_85 rfl (by simp [lkV, seS, *]) rfl

def isP (a b : Int32) : Prop := ¬ a < 0 ∧ ¬ 3 < a ∧ ¬ b < 0 ∧ b ≤ 5

set_option maxRecDepth 100000 in
set_option maxHeartbeats 4000000 in
theorem c_point_out (w : pf_W) (ok : pf_ok w) (S : pf_S) (r c a b : Int32) (hn : ¬ isC r c) : pf_C w y_Recv_point b_Recv_point 5 (some .int) 6 141 [.ref (w.2.1 0 0), .int r, .int c, .int a, .int b] S (some (.int (-1))) (S) := by
  refine pf_enter (by decide) (Nat.le_of_ble_eq_true rfl) (lv0 := [some (.ref (w.2.1 0 0)), some (.int r), some (.int c), some (.int a), some (.int b)]) rfl (fun κ h => ?_)
  refine pg_iload_n h d_Recv_point_0 rfl ?_
  refine pg_iload_n h d_Recv_point_1 rfl ?_
  refine pg_cS h d_Recv_point_2 m_Recv_isCell l_Recv_133 (c_isCell0 w ok S r c hn) rfl rfl (Nat.le_of_ble_eq_true rfl) ⟨(Nat.le_of_ble_eq_true rfl), (Nat.le_of_ble_eq_true rfl)⟩ ⟨Nat.le_refl _, Nat.le_refl _⟩ ?_
  refine pg_if_eq (tgt := 28) h d_Recv_point_5 rfl (fun e5 => ?_) (fun e5 => absurd e5 (fun q => q rfl))
  refine pg_iconst (v := (-1)) h d_Recv_point_28 (by decide) ?_
  exact pf_iret h d_Recv_point_29 rfl (by first | rfl | simp [*]) rfl

set_option maxRecDepth 100000 in
set_option maxHeartbeats 4000000 in
theorem c_point_out2 (w : pf_W) (ok : pf_ok w) (S : pf_S) (hw : 1 ≤ w.2.2.1 ∧ w.2.2.1 ≤ 4) (r c : Nat) (hr : r < 8) (hc : c < 20) (a b : Int32) (hn : ¬ isP a b) : pf_C w y_Recv_point b_Recv_point 5 (some .int) 6 141 [.ref (w.2.1 0 0), .int (nI r), .int (nI c), .int a, .int b] S (some (.int (-1))) (S) := by
  refine pf_enter (by decide) (Nat.le_of_ble_eq_true rfl) (lv0 := [some (.ref (w.2.1 0 0)), some (.int (nI r)), some (.int (nI c)), some (.int a), some (.int b)]) rfl (fun κ h => ?_)
  refine pg_iload_n h d_Recv_point_0 rfl ?_
  refine pg_iload_n h d_Recv_point_1 rfl ?_
  refine pg_cS h d_Recv_point_2 m_Recv_isCell l_Recv_133 (c_isCell1 w ok S r c hr hc) rfl rfl (Nat.le_of_ble_eq_true rfl) ⟨(Nat.le_of_ble_eq_true rfl), (Nat.le_of_ble_eq_true rfl)⟩ ⟨Nat.le_refl _, Nat.le_refl _⟩ ?_
  refine pg_if_eq (tgt := 28) h d_Recv_point_5 rfl (fun e5 => absurd e5 (by decide)) (fun e5 => ?_)
  refine pg_iload_n h d_Recv_point_8 rfl ?_
  refine pg_if_lt (tgt := 28) h d_Recv_point_9 rfl (fun e9 => ?_) (fun e9 => ?_)
  · skip
    refine pg_iconst (v := (-1)) h d_Recv_point_28 (by decide) ?_
    exact pf_iret h d_Recv_point_29 rfl (by first | rfl | simp [*]) rfl
  refine pg_iload_n h d_Recv_point_12 rfl ?_
  refine pg_iconst (v := 3) h d_Recv_point_13 (by decide) ?_
  refine pg_icmp_gt (tgt := 28) h d_Recv_point_14 rfl (fun e14 => ?_) (fun e14 => ?_)
  · skip
    refine pg_iconst (v := (-1)) h d_Recv_point_28 (by decide) ?_
    exact pf_iret h d_Recv_point_29 rfl (by first | rfl | simp [*]) rfl
  refine pg_iload h d_Recv_point_17 rfl ?_
  refine pg_if_lt (tgt := 28) h d_Recv_point_19 rfl (fun e19 => ?_) (fun e19 => ?_)
  · skip
    refine pg_iconst (v := (-1)) h d_Recv_point_28 (by decide) ?_
    exact pf_iret h d_Recv_point_29 rfl (by first | rfl | simp [*]) rfl
  refine pg_iload h d_Recv_point_22 rfl ?_
  refine pg_iconst (v := 5) h d_Recv_point_24 (by decide) ?_
  refine pg_icmp_le (tgt := 30) h d_Recv_point_25 rfl (fun e25 => absurd e25 (fun q => hn ⟨e9, e14, e19, q⟩)) (fun e25 => ?_)
  refine pg_iconst (v := (-1)) h d_Recv_point_28 (by decide) ?_
  exact pf_iret h d_Recv_point_29 rfl (by first | rfl | simp [*]) rfl

set_option maxRecDepth 100000 in
set_option maxHeartbeats 4000000 in
theorem c_point_in (w : pf_W) (ok : pf_ok w) (S : pf_S) (hw : 1 ≤ w.2.2.1 ∧ w.2.2.1 ≤ 4) (r c : Nat) (hr : r < 8) (hc : c < 20) (a b : Int32) (hp : isP a b) : pf_C w y_Recv_point b_Recv_point 5 (some .int) 6 141 [.ref (w.2.1 0 0), .int (nI r), .int (nI c), .int a, .int b] S (some (.int (caV (seS S w.2.2.1 r c).2 a b))) (SC S (seS S w.2.2.1 r c).1 (seS S w.2.2.1 r c).2) := by
  refine pf_enter (by decide) (Nat.le_of_ble_eq_true rfl) (lv0 := [some (.ref (w.2.1 0 0)), some (.int (nI r)), some (.int (nI c)), some (.int a), some (.int b)]) rfl (fun κ h => ?_)
  refine pg_iload_n h d_Recv_point_0 rfl ?_
  refine pg_iload_n h d_Recv_point_1 rfl ?_
  refine pg_cS h d_Recv_point_2 m_Recv_isCell l_Recv_133 (c_isCell1 w ok S r c hr hc) rfl rfl (Nat.le_of_ble_eq_true rfl) ⟨(Nat.le_of_ble_eq_true rfl), (Nat.le_of_ble_eq_true rfl)⟩ ⟨Nat.le_refl _, Nat.le_refl _⟩ ?_
  try simp only [SC_12]
  refine pg_if_eq (tgt := 28) h d_Recv_point_5 rfl (fun e5 => absurd e5 (by decide)) (fun e5 => ?_)
  refine pg_iload_n h d_Recv_point_8 rfl ?_
  refine pg_if_lt (tgt := 28) h d_Recv_point_9 rfl (fun e9 => absurd e9 hp.1) (fun e9 => ?_)
  refine pg_iload_n h d_Recv_point_12 rfl ?_
  refine pg_iconst (v := 3) h d_Recv_point_13 (by decide) ?_
  refine pg_icmp_gt (tgt := 28) h d_Recv_point_14 rfl (fun e14 => absurd e14 hp.2.1) (fun e14 => ?_)
  refine pg_iload h d_Recv_point_17 rfl ?_
  refine pg_if_lt (tgt := 28) h d_Recv_point_19 rfl (fun e19 => absurd e19 hp.2.2.1) (fun e19 => ?_)
  refine pg_iload h d_Recv_point_22 rfl ?_
  refine pg_iconst (v := 5) h d_Recv_point_24 (by decide) ?_
  refine pg_icmp_le (tgt := 30) h d_Recv_point_25 rfl (fun e25 => ?_) (fun e25 => absurd e25 (fun q => q hp.2.2.2))
  refine pg_aload_n h d_Recv_point_30 rfl ?_
  refine pf_get h ok d_Recv_point_31 f_Recv_66 (by first | rfl | exact hk | exact hk2 | exact dm12 _ | assumption) rfl rfl ?_
  try simp only [SC_12]
  refine pg_iload_n h d_Recv_point_34 rfl ?_
  refine pg_iload_n h d_Recv_point_35 rfl ?_
  refine pf_cV0 h ok d_Recv_point_36 m_Screen_see l_Recv_137 (c_see0 w ok S hw r c hr hc) cn_Screen (by first | rfl | exact hk | exact hk2 | exact dm12 _ | assumption) rfl rfl rfl (Nat.le_of_ble_eq_true rfl) ⟨(Nat.le_of_ble_eq_true rfl), (Nat.le_of_ble_eq_true rfl)⟩ ⟨Nat.le_refl _, Nat.le_refl _⟩ ?_
  try simp only [SC_12]
  refine pg_aload_n h d_Recv_point_39 rfl ?_
  refine pf_get h ok d_Recv_point_40 f_Recv_66 (by first | rfl | exact hk | exact hk2 | exact dm12 _ | assumption) rfl rfl ?_
  try simp only [SC_12]
  refine pg_iload_n h d_Recv_point_43 rfl ?_
  refine pg_iload h d_Recv_point_44 rfl ?_
  refine pf_cV h ok d_Recv_point_46 m_Screen_colourAt l_Recv_153 (c_Screen_colourAt w ok S _ _ a b) cn_Screen (by first | rfl | exact hk | exact hk2 | exact dm12 _ | assumption) rfl rfl rfl (Nat.le_of_ble_eq_true rfl) ⟨(Nat.le_of_ble_eq_true rfl), (Nat.le_of_ble_eq_true rfl)⟩ ⟨Nat.le_refl _, Nat.le_refl _⟩ ?_
  try simp only [SC_12]
  exact pf_iret h d_Recv_point_49 rfl rfl rfl
