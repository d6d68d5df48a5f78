/-! The reference: goTo, look, point. -/
def hvF (F : Nat → Nat → Int32) (j : Nat) : Nat → Nat → Int32 := fun a x => if x < j ∧ a = 34 then (if F 37 x &&& 4 = 0 then 32 else F 34 x) else if x < j ∧ a = 37 then (if F 37 x &&& 4 = 0 then F 37 x &&& 64 else F 37 x + 4) else F a x
theorem hvF_0 (F : Nat → Nat → Int32) : hvF F 0 = F := by
  funext a x
  simp [hvF]
theorem hvF_at (F : Nat → Nat → Int32) (j : Nat) (a : Nat) : hvF F j a j = F a j := by
  simp [hvF]
theorem hvF_s1 (F : Nat → Nat → Int32) (j : Nat) (h : ¬ F 37 j &&& 4 = 0) : (fun a => if a = 37 then upd (hvF F j 37) j (F 37 j + 4) else (fun a => if a = 34 then upd (hvF F j 34) j (F 34 j) else hvF F j a) a) = hvF F (j + 1) := by
  funext a x
  by_cases h7 : a = 37
  · subst h7
    by_cases hx : x = j
    · subst hx; simp [upd, hvF, h]
    · have e : x < j + 1 ↔ x < j := by omega
      simp [upd, hvF, hx, e]
  · by_cases h4 : a = 34
    · subst h4
      by_cases hx : x = j
      · subst hx; simp [upd, hvF, h]
      · have e : x < j + 1 ↔ x < j := by omega
        simp [upd, hvF, hx, e]
    · simp [h7, h4, hvF]
theorem hvF_s0 (F : Nat → Nat → Int32) (j : Nat) (h : F 37 j &&& 4 = 0) : (fun a => if a = 37 then upd (hvF F j 37) j (F 37 j &&& 64) else (fun a => if a = 34 then upd (hvF F j 34) j 32 else hvF F j a) a) = hvF F (j + 1) := by
  funext a x
  by_cases h7 : a = 37
  · subst h7
    by_cases hx : x = j
    · subst hx; simp [upd, hvF, h]
    · have e : x < j + 1 ↔ x < j := by omega
      simp [upd, hvF, hx, e]
  · by_cases h4 : a = 34
    · subst h4
      by_cases hx : x = j
      · subst hx; simp [upd, hvF, h]
      · have e : x < j + 1 ↔ x < j := by omega
        simp [upd, hvF, hx, e]
    · simp [h7, h4, hvF]
def gtF (A : pf_S) (o : Option Nat) (r : Nat) (F : Nat → Nat → Int32) : Nat → Nat → Int32 := if ownF A o r = 0 then hvF (fnF A o (r - 1) F) 20 else fnF A o r F
theorem fnF_v (A : pf_S) (o : Option Nat) (r : Nat) (F : Nat → Nat → Int32) {x : Nat} (hx : x < 20) : fnF A o r F 34 x = uD A o r (x + 1) 4 ∧ fnF A o r F 35 x = uD A o r (x + 1) 5 ∧ fnF A o r F 36 x = uD A o r (x + 1) 6 ∧ fnF A o r F 37 x = uD A o r (x + 1) 7 := by
  simp [fnF, hx]
theorem gtF_val (A : pf_S) (o : Option Nat) (r : Nat) (F : Nat → Nat → Int32) {x : Nat} (hx : x < 20) : gtF A o r F 34 x = (seF A o r x (A 13 0) (A 12 0)).2 4 ∧ gtF A o r F 35 x = (seF A o r x (A 13 0) (A 12 0)).2 5 ∧ gtF A o r F 36 x = (seF A o r x (A 13 0) (A 12 0)).2 6 ∧ gtF A o r F 37 x = (seF A o r x (A 13 0) (A 12 0)).2 7 := by
  unfold gtF seF drR
  by_cases h : ownF A o r = 0
  · simp only [if_pos h]
    obtain ⟨p1, p2, p3, p4⟩ := fnF_v A o (r - 1) F hx
    have eu : (drF A o (r - 1) (bgG (A 13 0)) (A 12 0) (x + 1)).2 = uD A o (r - 1) (x + 1) := rfl
    rw [eu]
    unfold hvF lhU
    rw [p1, p2, p3, p4]
    by_cases h4 : uD A o (r - 1) (x + 1) 7 &&& 4 = 0
    · simp [hx, h4, upd]
    · simp [hx, h4, upd]
  · simp only [if_neg h]
    exact fnF_v A o r F hx
theorem own_01 (A : pf_S) (o : Option Nat) (r : Nat) : ownF A o r = 0 ∨ ownF A o r = 1 := ownFrom_01 (Or.inr rfl)

set_option maxRecDepth 100000 in
set_option maxHeartbeats 4000000 in
theorem c_Mod_goTo (w : pf_W) (ok : pf_ok w) (A S : pf_S) (z : Int32) (g : Nat → Int32) (lg : Int32) (F : Nat → Nat → Int32) (hw : 1 ≤ w.2.2.1 ∧ w.2.2.1 ≤ 4) (hR : Rm w.2.2.1 z A S) (hwt : WtI A) (hlt : LtI A w.2.2.1) (r : Nat) (hr : r < 8) : pf_C w y_Mod_goTo b_Mod_goTo 6 none 4 92 [.ref (w.2.1 20 0), .int (nI r)] (MD S g lg F) none (MD S (gD A (shnF A w.2.2.1) (drR A (shnF A w.2.2.1) r) 20) (lgV (drR A (shnF A w.2.2.1) r)) (gtF A (shnF A w.2.2.1) r F)) := by
  refine pf_enter (by decide) (Nat.le_of_ble_eq_true rfl) (lv0 := [some (.ref (w.2.1 20 0)), some (.int (nI r)), none, none, none, none]) rfl (fun κ h => ?_)
  have halves : ownF A (shnF A w.2.2.1) r = 0 → ∀ (n j : Nat) (v : Int32) (Y : Option Value), j + n = 20 → pg_G κ w.1 6 0 0 (pg_Q κ w.1 (fun r' H => r' = none ∧ pf_P w (MD S (gD A (shnF A w.2.2.1) (drR A (shnF A w.2.2.1) r) 20) (lgV (drR A (shnF A w.2.2.1) r)) (gtF A (shnF A w.2.2.1) r F)) H) 0 0) (pf_P w (MD S (gD A (shnF A w.2.2.1) (drR A (shnF A w.2.2.1) r) 20) (lgV (drR A (shnF A w.2.2.1) r)) (hvF (fnF A (shnF A w.2.2.1) (r - 1) F) j))) 55 [some (.ref (w.2.1 20 0)), some (.int (nI r)), some (.int 1), some (.int v), some (.int (nI j)), Y] [] := by
    intro h0 n
    induction n with
    | zero =>
      intro j v Y hj
      have hj : j = 20 := by omega
      subst hj
      refine pg_iload h d_Mod_goTo_55 rfl ?_
      refine pg_bipush (v := 20) h d_Mod_goTo_57 (by decide) ?_
      refine pg_icmp_ge (tgt := 145) h d_Mod_goTo_59 rfl (fun e59 => ?_) (fun e59 => absurd e59 (fun e => e (by decide)))
      exact pf_vret h d_Mod_goTo_145 (by rw [gtF, if_pos h0])
    | succ n ih =>
      intro j v Y hj
      have hj2 : j < 20 := by omega
      have lar : ¬ (fnF A (shnF A w.2.2.1) (r - 1) F) 37 j &&& 4 = 0 → pg_G κ w.1 6 0 0 (pg_Q κ w.1 (fun r' H => r' = none ∧ pf_P w (MD S (gD A (shnF A w.2.2.1) (drR A (shnF A w.2.2.1) r) 20) (lgV (drR A (shnF A w.2.2.1) r)) (gtF A (shnF A w.2.2.1) r F)) H) 0 0) (pf_P w (MD S (gD A (shnF A w.2.2.1) (drR A (shnF A w.2.2.1) r) 20) (lgV (drR A (shnF A w.2.2.1) r)) (hvF (fnF A (shnF A w.2.2.1) (r - 1) F) j))) 74 [some (.ref (w.2.1 20 0)), some (.int (nI r)), some (.int 1), some (.int v), some (.int (nI j)), Y] [] := by
        intro hc
        refine pg_iconst (v := 1) h d_Mod_goTo_74 (by decide) ?_
        refine pg_goto (tgt := 79) h d_Mod_goTo_75 rfl ?_
        refine pg_istore h d_Mod_goTo_79 (Nat.le_of_ble_eq_true rfl) rfl rfl ?_
        refine pg_aload_n h d_Mod_goTo_81 rfl ?_
        refine pf_get h ok d_Mod_goTo_82 f_Mod_58 (by first | rfl | exact hk | exact hk2 | exact dm12 _ | assumption) rfl rfl ?_
        try simp only [MD25, MD26, MD27, MD28, MD29, MD30, MD31, MD32, MD33, MD34, MD35, MD36, MDF32, MDF33, MDF34, MDF35, MDF36, MDF37, MDs_25, MDs_26, MDs_27, MDs_28, MDs_29, MDs_30, MDs_31, MDs_32, MDs_33, MDs_34, MDs_35, MDs_36, MDs_0, MDs_11, MDs_13, MDs_14, MDs_15, MDs_16, MDs_17, MDs_18, MD_21, MD_22, MD_23, MD_24, MD_25, MD_26, MD_27, MD_28, MD_29, MD_30, MD_31, MD_32, MD_33, MD_34, MD_35, MD_36, MD_37]
        refine pg_iload h d_Mod_goTo_85 rfl ?_
        refine pg_iload h d_Mod_goTo_87 rfl ?_
        refine pg_if_eq (tgt := 102) h d_Mod_goTo_89 rfl (fun e89 => absurd e89 (by decide)) (fun e89 => ?_)
        refine pg_aload_n h d_Mod_goTo_92 rfl ?_
        refine pf_get h ok d_Mod_goTo_93 f_Mod_58 (by first | rfl | exact hk | exact hk2 | exact dm12 _ | assumption) rfl rfl ?_
        try simp only [MD25, MD26, MD27, MD28, MD29, MD30, MD31, MD32, MD33, MD34, MD35, MD36, MDF32, MDF33, MDF34, MDF35, MDF36, MDF37, MDs_25, MDs_26, MDs_27, MDs_28, MDs_29, MDs_30, MDs_31, MDs_32, MDs_33, MDs_34, MDs_35, MDs_36, MDs_0, MDs_11, MDs_13, MDs_14, MDs_15, MDs_16, MDs_17, MDs_18, MD_21, MD_22, MD_23, MD_24, MD_25, MD_26, MD_27, MD_28, MD_29, MD_30, MD_31, MD_32, MD_33, MD_34, MD_35, MD_36, MD_37]
        refine pg_iload h d_Mod_goTo_96 rfl ?_
        refine pf_ild h ok d_Mod_goTo_98 (by first | rfl | exact hk | exact hk2 | exact dm12 _ | assumption) rfl (pg_ixN rfl hj2 (by decide)) ?_
        try simp only [MD25, MD26, MD27, MD28, MD29, MD30, MD31, MD32, MD33, MD34, MD35, MD36, MDF32, MDF33, MDF34, MDF35, MDF36, MDF37, MDs_25, MDs_26, MDs_27, MDs_28, MDs_29, MDs_30, MDs_31, MDs_32, MDs_33, MDs_34, MDs_35, MDs_36, MDs_0, MDs_11, MDs_13, MDs_14, MDs_15, MDs_16, MDs_17, MDs_18, MD_21, MD_22, MD_23, MD_24, MD_25, MD_26, MD_27, MD_28, MD_29, MD_30, MD_31, MD_32, MD_33, MD_34, MD_35, MD_36, MD_37]
        refine pg_goto (tgt := 104) h d_Mod_goTo_99 rfl ?_
        refine pf_ist h ok d_Mod_goTo_104 (by first | rfl | exact hk | exact hk2 | exact dm12 _ | assumption) (fun _ => rfl) (pg_ixN rfl hj2 (by decide)) ?_
        try simp only [MD25, MD26, MD27, MD28, MD29, MD30, MD31, MD32, MD33, MD34, MD35, MD36, MDF32, MDF33, MDF34, MDF35, MDF36, MDF37, MDs_25, MDs_26, MDs_27, MDs_28, MDs_29, MDs_30, MDs_31, MDs_32, MDs_33, MDs_34, MDs_35, MDs_36, MDs_0, MDs_11, MDs_13, MDs_14, MDs_15, MDs_16, MDs_17, MDs_18, MD_21, MD_22, MD_23, MD_24, MD_25, MD_26, MD_27, MD_28, MD_29, MD_30, MD_31, MD_32, MD_33, MD_34, MD_35, MD_36, MD_37]
        refine pg_aload_n h d_Mod_goTo_105 rfl ?_
        refine pf_get h ok d_Mod_goTo_106 f_Mod_67 (by first | rfl | exact hk | exact hk2 | exact dm12 _ | assumption) rfl rfl ?_
        try simp only [MD25, MD26, MD27, MD28, MD29, MD30, MD31, MD32, MD33, MD34, MD35, MD36, MDF32, MDF33, MDF34, MDF35, MDF36, MDF37, MDs_25, MDs_26, MDs_27, MDs_28, MDs_29, MDs_30, MDs_31, MDs_32, MDs_33, MDs_34, MDs_35, MDs_36, MDs_0, MDs_11, MDs_13, MDs_14, MDs_15, MDs_16, MDs_17, MDs_18, MD_21, MD_22, MD_23, MD_24, MD_25, MD_26, MD_27, MD_28, MD_29, MD_30, MD_31, MD_32, MD_33, MD_34, MD_35, MD_36, MD_37]
        refine pg_iload h d_Mod_goTo_109 rfl ?_
        refine pg_iload h d_Mod_goTo_111 rfl ?_
        refine pg_if_eq (tgt := 128) h d_Mod_goTo_113 rfl (fun e113 => absurd e113 (by decide)) (fun e113 => ?_)
        refine pg_aload_n h d_Mod_goTo_116 rfl ?_
        refine pf_get h ok d_Mod_goTo_117 f_Mod_67 (by first | rfl | exact hk | exact hk2 | exact dm12 _ | assumption) rfl rfl ?_
        try simp only [MD25, MD26, MD27, MD28, MD29, MD30, MD31, MD32, MD33, MD34, MD35, MD36, MDF32, MDF33, MDF34, MDF35, MDF36, MDF37, MDs_25, MDs_26, MDs_27, MDs_28, MDs_29, MDs_30, MDs_31, MDs_32, MDs_33, MDs_34, MDs_35, MDs_36, MDs_0, MDs_11, MDs_13, MDs_14, MDs_15, MDs_16, MDs_17, MDs_18, MD_21, MD_22, MD_23, MD_24, MD_25, MD_26, MD_27, MD_28, MD_29, MD_30, MD_31, MD_32, MD_33, MD_34, MD_35, MD_36, MD_37]
        refine pg_iload h d_Mod_goTo_120 rfl ?_
        refine pf_ild h ok d_Mod_goTo_122 (by first | rfl | exact hk | exact hk2 | exact dm12 _ | assumption) rfl (pg_ixN rfl hj2 (by decide)) ?_
        try simp only [MD25, MD26, MD27, MD28, MD29, MD30, MD31, MD32, MD33, MD34, MD35, MD36, MDF32, MDF33, MDF34, MDF35, MDF36, MDF37, MDs_25, MDs_26, MDs_27, MDs_28, MDs_29, MDs_30, MDs_31, MDs_32, MDs_33, MDs_34, MDs_35, MDs_36, MDs_0, MDs_11, MDs_13, MDs_14, MDs_15, MDs_16, MDs_17, MDs_18, MD_21, MD_22, MD_23, MD_24, MD_25, MD_26, MD_27, MD_28, MD_29, MD_30, MD_31, MD_32, MD_33, MD_34, MD_35, MD_36, MD_37]
        refine pg_iconst (v := 4) h d_Mod_goTo_123 (by decide) ?_
        refine pg_iadd h d_Mod_goTo_124 ?_
        refine pg_goto (tgt := 138) h d_Mod_goTo_125 rfl ?_
        refine pf_ist h ok d_Mod_goTo_138 (by first | rfl | exact hk | exact hk2 | exact dm12 _ | assumption) (fun _ => rfl) (pg_ixN rfl hj2 (by decide)) ?_
        try simp only [MD25, MD26, MD27, MD28, MD29, MD30, MD31, MD32, MD33, MD34, MD35, MD36, MDF32, MDF33, MDF34, MDF35, MDF36, MDF37, MDs_25, MDs_26, MDs_27, MDs_28, MDs_29, MDs_30, MDs_31, MDs_32, MDs_33, MDs_34, MDs_35, MDs_36, MDs_0, MDs_11, MDs_13, MDs_14, MDs_15, MDs_16, MDs_17, MDs_18, MD_21, MD_22, MD_23, MD_24, MD_25, MD_26, MD_27, MD_28, MD_29, MD_30, MD_31, MD_32, MD_33, MD_34, MD_35, MD_36, MD_37]
        refine pg_iinc (w := 1) h d_Mod_goTo_139 rfl (by decide) (Nat.le_of_ble_eq_true rfl) rfl rfl ?_
        refine pg_goto (tgt := 55) h d_Mod_goTo_142 rfl ?_
        rw [← nI_succ j]
        have q := ih (j + 1) v (some (.int 1)) (by omega)
        rw [← hvF_s1 _ j hc] at q
        rw [← hvF_at (fnF A (shnF A w.2.2.1) (r - 1) F) j 37, ← hvF_at (fnF A (shnF A w.2.2.1) (r - 1) F) j 34] at q
        exact q
      have sma : (fnF A (shnF A w.2.2.1) (r - 1) F) 37 j &&& 4 = 0 → pg_G κ w.1 6 0 0 (pg_Q κ w.1 (fun r' H => r' = none ∧ pf_P w (MD S (gD A (shnF A w.2.2.1) (drR A (shnF A w.2.2.1) r) 20) (lgV (drR A (shnF A w.2.2.1) r)) (gtF A (shnF A w.2.2.1) r F)) H) 0 0) (pf_P w (MD S (gD A (shnF A w.2.2.1) (drR A (shnF A w.2.2.1) r) 20) (lgV (drR A (shnF A w.2.2.1) r)) (hvF (fnF A (shnF A w.2.2.1) (r - 1) F) j))) 78 [some (.ref (w.2.1 20 0)), some (.int (nI r)), some (.int 1), some (.int v), some (.int (nI j)), Y] [] := by
        intro hc
        refine pg_iconst (v := 0) h d_Mod_goTo_78 (by decide) ?_
        refine pg_istore h d_Mod_goTo_79 (Nat.le_of_ble_eq_true rfl) rfl rfl ?_
        refine pg_aload_n h d_Mod_goTo_81 rfl ?_
        refine pf_get h ok d_Mod_goTo_82 f_Mod_58 (by first | rfl | exact hk | exact hk2 | exact dm12 _ | assumption) rfl rfl ?_
        try simp only [MD25, MD26, MD27, MD28, MD29, MD30, MD31, MD32, MD33, MD34, MD35, MD36, MDF32, MDF33, MDF34, MDF35, MDF36, MDF37, MDs_25, MDs_26, MDs_27, MDs_28, MDs_29, MDs_30, MDs_31, MDs_32, MDs_33, MDs_34, MDs_35, MDs_36, MDs_0, MDs_11, MDs_13, MDs_14, MDs_15, MDs_16, MDs_17, MDs_18, MD_21, MD_22, MD_23, MD_24, MD_25, MD_26, MD_27, MD_28, MD_29, MD_30, MD_31, MD_32, MD_33, MD_34, MD_35, MD_36, MD_37]
        refine pg_iload h d_Mod_goTo_85 rfl ?_
        refine pg_iload h d_Mod_goTo_87 rfl ?_
        refine pg_if_eq (tgt := 102) h d_Mod_goTo_89 rfl (fun e89 => ?_) (fun e89 => absurd e89 (fun e => e (by decide)))
        refine pg_bipush (v := 32) h d_Mod_goTo_102 (by decide) ?_
        refine pf_ist h ok d_Mod_goTo_104 (by first | rfl | exact hk | exact hk2 | exact dm12 _ | assumption) (fun _ => rfl) (pg_ixN rfl hj2 (by decide)) ?_
        try simp only [MD25, MD26, MD27, MD28, MD29, MD30, MD31, MD32, MD33, MD34, MD35, MD36, MDF32, MDF33, MDF34, MDF35, MDF36, MDF37, MDs_25, MDs_26, MDs_27, MDs_28, MDs_29, MDs_30, MDs_31, MDs_32, MDs_33, MDs_34, MDs_35, MDs_36, MDs_0, MDs_11, MDs_13, MDs_14, MDs_15, MDs_16, MDs_17, MDs_18, MD_21, MD_22, MD_23, MD_24, MD_25, MD_26, MD_27, MD_28, MD_29, MD_30, MD_31, MD_32, MD_33, MD_34, MD_35, MD_36, MD_37]
        refine pg_aload_n h d_Mod_goTo_105 rfl ?_
        refine pf_get h ok d_Mod_goTo_106 f_Mod_67 (by first | rfl | exact hk | exact hk2 | exact dm12 _ | assumption) rfl rfl ?_
        try simp only [MD25, MD26, MD27, MD28, MD29, MD30, MD31, MD32, MD33, MD34, MD35, MD36, MDF32, MDF33, MDF34, MDF35, MDF36, MDF37, MDs_25, MDs_26, MDs_27, MDs_28, MDs_29, MDs_30, MDs_31, MDs_32, MDs_33, MDs_34, MDs_35, MDs_36, MDs_0, MDs_11, MDs_13, MDs_14, MDs_15, MDs_16, MDs_17, MDs_18, MD_21, MD_22, MD_23, MD_24, MD_25, MD_26, MD_27, MD_28, MD_29, MD_30, MD_31, MD_32, MD_33, MD_34, MD_35, MD_36, MD_37]
        refine pg_iload h d_Mod_goTo_109 rfl ?_
        refine pg_iload h d_Mod_goTo_111 rfl ?_
        refine pg_if_eq (tgt := 128) h d_Mod_goTo_113 rfl (fun e113 => ?_) (fun e113 => absurd e113 (fun e => e (by decide)))
        refine pg_aload_n h d_Mod_goTo_128 rfl ?_
        refine pf_get h ok d_Mod_goTo_129 f_Mod_67 (by first | rfl | exact hk | exact hk2 | exact dm12 _ | assumption) rfl rfl ?_
        try simp only [MD25, MD26, MD27, MD28, MD29, MD30, MD31, MD32, MD33, MD34, MD35, MD36, MDF32, MDF33, MDF34, MDF35, MDF36, MDF37, MDs_25, MDs_26, MDs_27, MDs_28, MDs_29, MDs_30, MDs_31, MDs_32, MDs_33, MDs_34, MDs_35, MDs_36, MDs_0, MDs_11, MDs_13, MDs_14, MDs_15, MDs_16, MDs_17, MDs_18, MD_21, MD_22, MD_23, MD_24, MD_25, MD_26, MD_27, MD_28, MD_29, MD_30, MD_31, MD_32, MD_33, MD_34, MD_35, MD_36, MD_37]
        refine pg_iload h d_Mod_goTo_132 rfl ?_
        refine pf_ild h ok d_Mod_goTo_134 (by first | rfl | exact hk | exact hk2 | exact dm12 _ | assumption) rfl (pg_ixN rfl hj2 (by decide)) ?_
        try simp only [MD25, MD26, MD27, MD28, MD29, MD30, MD31, MD32, MD33, MD34, MD35, MD36, MDF32, MDF33, MDF34, MDF35, MDF36, MDF37, MDs_25, MDs_26, MDs_27, MDs_28, MDs_29, MDs_30, MDs_31, MDs_32, MDs_33, MDs_34, MDs_35, MDs_36, MDs_0, MDs_11, MDs_13, MDs_14, MDs_15, MDs_16, MDs_17, MDs_18, MD_21, MD_22, MD_23, MD_24, MD_25, MD_26, MD_27, MD_28, MD_29, MD_30, MD_31, MD_32, MD_33, MD_34, MD_35, MD_36, MD_37]
        refine pg_bipush (v := 64) h d_Mod_goTo_135 (by decide) ?_
        refine pg_iand h d_Mod_goTo_137 ?_
        refine pf_ist h ok d_Mod_goTo_138 (by first | rfl | exact hk | exact hk2 | exact dm12 _ | assumption) (fun _ => rfl) (pg_ixN rfl hj2 (by decide)) ?_
        try simp only [MD25, MD26, MD27, MD28, MD29, MD30, MD31, MD32, MD33, MD34, MD35, MD36, MDF32, MDF33, MDF34, MDF35, MDF36, MDF37, MDs_25, MDs_26, MDs_27, MDs_28, MDs_29, MDs_30, MDs_31, MDs_32, MDs_33, MDs_34, MDs_35, MDs_36, MDs_0, MDs_11, MDs_13, MDs_14, MDs_15, MDs_16, MDs_17, MDs_18, MD_21, MD_22, MD_23, MD_24, MD_25, MD_26, MD_27, MD_28, MD_29, MD_30, MD_31, MD_32, MD_33, MD_34, MD_35, MD_36, MD_37]
        refine pg_iinc (w := 1) h d_Mod_goTo_139 rfl (by decide) (Nat.le_of_ble_eq_true rfl) rfl rfl ?_
        refine pg_goto (tgt := 55) h d_Mod_goTo_142 rfl ?_
        rw [← nI_succ j]
        have q := ih (j + 1) v (some (.int 0)) (by omega)
        rw [← hvF_s0 _ j hc] at q
        rw [← hvF_at (fnF A (shnF A w.2.2.1) (r - 1) F) j 37] at q
        exact q
      refine pg_iload h d_Mod_goTo_55 rfl ?_
      refine pg_bipush (v := 20) h d_Mod_goTo_57 (by decide) ?_
      refine pg_icmp_ge (tgt := 145) h d_Mod_goTo_59 rfl (fun e59 => absurd e59 (nI_ge hj2 (by decide))) (fun e59 => ?_)
      refine pg_aload_n h d_Mod_goTo_62 rfl ?_
      refine pf_get h ok d_Mod_goTo_63 f_Mod_67 (by first | rfl | exact hk | exact hk2 | exact dm12 _ | assumption) rfl rfl ?_
      try simp only [MD25, MD26, MD27, MD28, MD29, MD30, MD31, MD32, MD33, MD34, MD35, MD36, MDF32, MDF33, MDF34, MDF35, MDF36, MDF37, MDs_25, MDs_26, MDs_27, MDs_28, MDs_29, MDs_30, MDs_31, MDs_32, MDs_33, MDs_34, MDs_35, MDs_36, MDs_0, MDs_11, MDs_13, MDs_14, MDs_15, MDs_16, MDs_17, MDs_18, MD_21, MD_22, MD_23, MD_24, MD_25, MD_26, MD_27, MD_28, MD_29, MD_30, MD_31, MD_32, MD_33, MD_34, MD_35, MD_36, MD_37]
      refine pg_iload h d_Mod_goTo_66 rfl ?_
      refine pf_ild h ok d_Mod_goTo_68 (by first | rfl | exact hk | exact hk2 | exact dm12 _ | assumption) rfl (pg_ixN rfl hj2 (by decide)) ?_
      try simp only [MD25, MD26, MD27, MD28, MD29, MD30, MD31, MD32, MD33, MD34, MD35, MD36, MDF32, MDF33, MDF34, MDF35, MDF36, MDF37, MDs_25, MDs_26, MDs_27, MDs_28, MDs_29, MDs_30, MDs_31, MDs_32, MDs_33, MDs_34, MDs_35, MDs_36, MDs_0, MDs_11, MDs_13, MDs_14, MDs_15, MDs_16, MDs_17, MDs_18, MD_21, MD_22, MD_23, MD_24, MD_25, MD_26, MD_27, MD_28, MD_29, MD_30, MD_31, MD_32, MD_33, MD_34, MD_35, MD_36, MD_37]
      rw [hvF_at]
      refine pg_iconst (v := 4) h d_Mod_goTo_69 (by decide) ?_
      refine pg_iand h d_Mod_goTo_70 ?_
      refine pg_if_eq (tgt := 78) h d_Mod_goTo_71 rfl (fun e71 => ?_) (fun e71 => ?_)
      · skip
        exact sma e71
      exact lar e71
  have fin : ∀ (q : Nat) (own lw : Int32) (g2 : Nat → Int32) (lg2 : Int32) (F2 : Nat → Nat → Int32), (own = 0 ∧ lw = 1 ∨ own = 1 ∧ lw = 0) → own = ownF A (shnF A w.2.2.1) r → (∀ a x, (20 ≤ x ∨ a < 32 ∨ 37 < a) → F2 a x = F a x) → pg_G κ w.1 6 0 0 (pg_Q κ w.1 (fun r' H => r' = none ∧ pf_P w (MD S (gD A (shnF A w.2.2.1) (drR A (shnF A w.2.2.1) r) 20) (lgV (drR A (shnF A w.2.2.1) r)) (gtF A (shnF A w.2.2.1) r F)) H) 0 0) (pf_P w (MD S g2 lg2 F2)) 33 [some (.ref (w.2.1 20 0)), some (.int (nI r)), some (.int lw), some (.int (nI q)), none, none] [] := by
    intro q own lw g2 lg2 F2 hol how hag
    rcases hol with ⟨rfl, rfl⟩ | ⟨rfl, rfl⟩
    · have h2 := ownF_2 how.symm
      have er : nI r - 1 = nI (r - 1) := pk_sub (a := r) (b := 1) (by omega)
      have ed : drR A (shnF A w.2.2.1) r = r - 1 := by rw [drR, if_pos how.symm]
      refine pg_iload_n h d_Mod_goTo_33 rfl ?_
      refine pg_if_ne (tgt := 44) h d_Mod_goTo_34 rfl (fun e34 => ?_) (fun e34 => absurd e34 (by decide))
      refine pg_aload_n h d_Mod_goTo_44 rfl ?_
      refine pg_iload_n h d_Mod_goTo_45 rfl ?_
      refine pg_iconst (v := 1) h d_Mod_goTo_46 (by decide) ?_
      refine pg_isub h d_Mod_goTo_47 ?_
      rw [er]
      refine pf_cV h ok d_Mod_goTo_48 m_Mod_go l_Mod_230 (c_Mod_go w ok A S z _ _ _ hw hR hwt hlt (r - 1) (by omega)) cn_Mod (by first | rfl | exact hk | exact hk2 | exact dm12 _ | assumption) rfl rfl rfl (Nat.le_of_ble_eq_true rfl) ⟨(Nat.le_of_ble_eq_true rfl), (Nat.le_of_ble_eq_true rfl)⟩ ⟨Nat.le_refl _, Nat.le_refl _⟩ ?_
      refine pg_istore_n h d_Mod_goTo_51 (Nat.le_of_ble_eq_true rfl) rfl rfl ?_
      refine pg_iconst (v := 0) h d_Mod_goTo_52 (by decide) ?_
      refine pg_istore h d_Mod_goTo_53 (Nat.le_of_ble_eq_true rfl) rfl rfl ?_
      have q := halves how.symm 20 0 (hdb A (shnF A w.2.2.1) (r - 1)) none rfl
      rw [hvF_0] at q
      rw [fnF_fn A _ (r - 1) hag]
      exact pg_mem (by rw [ed]) q
    · have ed : drR A (shnF A w.2.2.1) r = r := by rw [drR, if_neg (by rw [← how]; decide)]
      refine pg_iload_n h d_Mod_goTo_33 rfl ?_
      refine pg_if_ne (tgt := 44) h d_Mod_goTo_34 rfl (fun e34 => absurd e34 (by decide)) (fun e34 => ?_)
      refine pg_aload_n h d_Mod_goTo_37 rfl ?_
      refine pg_iload_n h d_Mod_goTo_38 rfl ?_
      refine pf_cV h ok d_Mod_goTo_39 m_Mod_go l_Mod_230 (c_Mod_go w ok A S z _ _ _ hw hR hwt hlt r hr) cn_Mod (by first | rfl | exact hk | exact hk2 | exact dm12 _ | assumption) rfl rfl rfl (Nat.le_of_ble_eq_true rfl) ⟨(Nat.le_of_ble_eq_true rfl), (Nat.le_of_ble_eq_true rfl)⟩ ⟨Nat.le_refl _, Nat.le_refl _⟩ ?_
      refine pg_istore_n h d_Mod_goTo_42 (Nat.le_of_ble_eq_true rfl) rfl rfl ?_
      exact pf_vret h d_Mod_goTo_43 (by rw [ed, gtF, if_neg (by rw [← how]; decide), fnF_fn A _ r hag])
  have loop : ∀ (n q : Nat) (own lw : Int32) (g2 : Nat → Int32) (lg2 : Int32) (F2 : Nat → Nat → Int32), (own = 0 ∧ lw = 1 ∨ own = 1 ∧ lw = 0) → 1 ≤ q → q + n = r → ownFrom (fun q => hdb A (shnF A w.2.2.1) q) n (q + 1) own = ownF A (shnF A w.2.2.1) r → (∀ a x, (20 ≤ x ∨ a < 32 ∨ 37 < a) → F2 a x = F a x) → pg_G κ w.1 6 0 0 (pg_Q κ w.1 (fun r' H => r' = none ∧ pf_P w (MD S (gD A (shnF A w.2.2.1) (drR A (shnF A w.2.2.1) r) 20) (lgV (drR A (shnF A w.2.2.1) r)) (gtF A (shnF A w.2.2.1) r F)) H) 0 0) (pf_P w (MD S g2 lg2 F2)) 4 [some (.ref (w.2.1 20 0)), some (.int (nI r)), some (.int lw), some (.int (nI q)), none, none] [] := by
    intro n
    induction n with
    | zero =>
      intro q own lw g2 lg2 F2 hol hq hj how hag
      have hj : q = r := by omega
      subst hj
      refine pg_iload_n h d_Mod_goTo_4 rfl ?_
      refine pg_iload_n h d_Mod_goTo_5 rfl ?_
      refine pg_icmp_ge (tgt := 33) h d_Mod_goTo_6 rfl (fun e6 => ?_) (fun e6 => absurd e6 (fun e => e (Int32.le_refl _)))
      exact fin _ own lw g2 lg2 F2 hol how hag
    | succ n ih =>
      intro q own lw g2 lg2 F2 hol hq hj how hag
      have hq2 : q < r := by omega
      rw [ownFrom, show q + 1 - 1 = q by omega] at how
      rcases hol with ⟨rfl, rfl⟩ | ⟨rfl, rfl⟩
      · rw [if_pos rfl] at how
        refine pg_iload_n h d_Mod_goTo_4 rfl ?_
        refine pg_iload_n h d_Mod_goTo_5 rfl ?_
        refine pg_icmp_ge (tgt := 33) h d_Mod_goTo_6 rfl (fun e6 => absurd e6 (nI_ge hq2 (by omega))) (fun e6 => ?_)
        refine pg_iload_n h d_Mod_goTo_9 rfl ?_
        refine pg_if_ne (tgt := 25) h d_Mod_goTo_10 rfl (fun e10 => ?_) (fun e10 => absurd e10 (by decide))
        refine pg_iconst (v := 0) h d_Mod_goTo_25 (by decide) ?_
        refine pg_istore_n h d_Mod_goTo_26 (Nat.le_of_ble_eq_true rfl) rfl rfl ?_
        refine pg_iinc (w := 1) h d_Mod_goTo_27 rfl (by decide) (Nat.le_of_ble_eq_true rfl) rfl rfl ?_
        refine pg_goto (tgt := 4) h d_Mod_goTo_30 rfl ?_
        rw [← nI_succ q]
        exact ih (q + 1) 1 0 g2 lg2 F2 (Or.inr ⟨rfl, rfl⟩) (by omega) (by omega) how hag
      · rw [if_neg (by decide)] at how
        refine pg_iload_n h d_Mod_goTo_4 rfl ?_
        refine pg_iload_n h d_Mod_goTo_5 rfl ?_
        refine pg_icmp_ge (tgt := 33) h d_Mod_goTo_6 rfl (fun e6 => absurd e6 (nI_ge hq2 (by omega))) (fun e6 => ?_)
        refine pg_iload_n h d_Mod_goTo_9 rfl ?_
        refine pg_if_ne (tgt := 25) h d_Mod_goTo_10 rfl (fun e10 => absurd e10 (by decide)) (fun e10 => ?_)
        refine pg_aload_n h d_Mod_goTo_13 rfl ?_
        refine pg_iload_n h d_Mod_goTo_14 rfl ?_
        refine pf_cV h ok d_Mod_goTo_15 m_Mod_go l_Mod_230 (c_Mod_go w ok A S z _ _ _ hw hR hwt hlt q (by omega)) cn_Mod (by first | rfl | exact hk | exact hk2 | exact dm12 _ | assumption) rfl rfl rfl (Nat.le_of_ble_eq_true rfl) ⟨(Nat.le_of_ble_eq_true rfl), (Nat.le_of_ble_eq_true rfl)⟩ ⟨Nat.le_refl _, Nat.le_refl _⟩ ?_
        refine pg_if_eq (tgt := 25) h d_Mod_goTo_18 rfl (fun e18 => ?_) (fun e18 => ?_)
        · skip
          refine pg_iconst (v := 0) h d_Mod_goTo_25 (by decide) ?_
          refine pg_istore_n h d_Mod_goTo_26 (Nat.le_of_ble_eq_true rfl) rfl rfl ?_
          refine pg_iinc (w := 1) h d_Mod_goTo_27 rfl (by decide) (Nat.le_of_ble_eq_true rfl) rfl rfl ?_
          refine pg_goto (tgt := 4) h d_Mod_goTo_30 rfl ?_
          rw [← nI_succ q]
          first
            | exact ih (q + 1) 1 0 _ _ _ (Or.inr ⟨rfl, rfl⟩) (by omega) (by omega) (by rw [if_pos e18] at how; exact how) (fun a x hx => (fnF_out A _ q F2 hx).trans (hag a x hx))
            | exact ih (q + 1) 0 1 _ _ _ (Or.inl ⟨rfl, rfl⟩) (by omega) (by omega) (by rw [if_neg e18] at how; exact how) (fun a x hx => (fnF_out A _ q F2 hx).trans (hag a x hx))
        refine pg_iconst (v := 1) h d_Mod_goTo_21 (by decide) ?_
        refine pg_goto (tgt := 26) h d_Mod_goTo_22 rfl ?_
        refine pg_istore_n h d_Mod_goTo_26 (Nat.le_of_ble_eq_true rfl) rfl rfl ?_
        refine pg_iinc (w := 1) h d_Mod_goTo_27 rfl (by decide) (Nat.le_of_ble_eq_true rfl) rfl rfl ?_
        refine pg_goto (tgt := 4) h d_Mod_goTo_30 rfl ?_
        rw [← nI_succ q]
        first
          | exact ih (q + 1) 1 0 _ _ _ (Or.inr ⟨rfl, rfl⟩) (by omega) (by omega) (by rw [if_pos e18] at how; exact how) (fun a x hx => (fnF_out A _ q F2 hx).trans (hag a x hx))
          | exact ih (q + 1) 0 1 _ _ _ (Or.inl ⟨rfl, rfl⟩) (by omega) (by omega) (by rw [if_neg e18] at how; exact how) (fun a x hx => (fnF_out A _ q F2 hx).trans (hag a x hx))
  by_cases h0 : r = 0
  · subst h0
    refine pg_iconst (v := 0) h d_Mod_goTo_0 (by decide) ?_
    refine pg_istore_n h d_Mod_goTo_1 (Nat.le_of_ble_eq_true rfl) rfl rfl ?_
    refine pg_iconst (v := 1) h d_Mod_goTo_2 (by decide) ?_
    refine pg_istore_n h d_Mod_goTo_3 (Nat.le_of_ble_eq_true rfl) rfl rfl ?_
    refine pg_iload_n h d_Mod_goTo_4 rfl ?_
    refine pg_iload_n h d_Mod_goTo_5 rfl ?_
    refine pg_icmp_ge (tgt := 33) h d_Mod_goTo_6 rfl (fun e6 => ?_) (fun e6 => absurd e6 (fun e => e (by decide)))
    exact fin 1 1 0 g lg F (Or.inr ⟨rfl, rfl⟩) rfl (fun _ _ _ => rfl)
  · skip
    refine pg_iconst (v := 0) h d_Mod_goTo_0 (by decide) ?_
    refine pg_istore_n h d_Mod_goTo_1 (Nat.le_of_ble_eq_true rfl) rfl rfl ?_
    refine pg_iconst (v := 1) h d_Mod_goTo_2 (by decide) ?_
    refine pg_istore_n h d_Mod_goTo_3 (Nat.le_of_ble_eq_true rfl) rfl rfl ?_
    exact loop (r - 1) 1 1 0 g lg F (Or.inr ⟨rfl, rfl⟩) (by decide) (by omega) (by rw [ownF, show r + 1 - 2 = r - 1 by omega]) (fun _ _ _ => rfl)

set_option maxRecDepth 100000 in
set_option maxHeartbeats 4000000 in
theorem c_mlook_out (w : pf_W) (ok : pf_ok w) (S : pf_S) (r c x : Int32) (hn : ¬ isC r c ∨ x < 0 ∨ 3 < x) : pf_C w y_Mod_look b_Mod_look 4 (some .int) 5 117 [.ref (w.2.1 20 0), .int r, .int c, .int x] S (some (.int (-1))) S := by
  refine pf_enter (by decide) (Nat.le_of_ble_eq_true rfl) (lv0 := [some (.ref (w.2.1 20 0)), some (.int r), some (.int c), some (.int x)]) rfl (fun κ h => ?_)
  refine pg_iload_n h d_Mod_look_0 rfl ?_
  refine pg_iload_n h d_Mod_look_1 rfl ?_
  refine pg_cS h d_Mod_look_2 m_Mod_isCell l_Mod_233 (c_Mod_isCell w ok S r c) rfl rfl (Nat.le_of_ble_eq_true rfl) ⟨(Nat.le_of_ble_eq_true rfl), (Nat.le_of_ble_eq_true rfl)⟩ ⟨Nat.le_refl _, Nat.le_refl _⟩ ?_
  refine pg_if_eq (tgt := 17) h d_Mod_look_5 rfl (fun e5 => ?_) (fun e5 => ?_)
  · skip
    refine pg_iconst (v := (-1)) h d_Mod_look_17 (by decide) ?_
    exact pf_iret h d_Mod_look_18 rfl (by first | rfl | simp [*]) rfl
  refine pg_iload_n h d_Mod_look_8 rfl ?_
  refine pg_if_lt (tgt := 17) h d_Mod_look_9 rfl (fun e9 => ?_) (fun e9 => ?_)
  · skip
    refine pg_iconst (v := (-1)) h d_Mod_look_17 (by decide) ?_
    exact pf_iret h d_Mod_look_18 rfl (by first | rfl | simp [*]) rfl
  refine pg_iload_n h d_Mod_look_12 rfl ?_
  refine pg_iconst (v := 3) h d_Mod_look_13 (by decide) ?_
  refine pg_icmp_le (tgt := 19) h d_Mod_look_14 rfl (fun e14 => ?_) (fun e14 => ?_)
  · skip
    refine absurd hn ?_
    have hc : isC r c := by
      apply Classical.byContradiction
      intro q
      rw [if_neg (show ¬ (¬ r < 0 ∧ ¬ 8 ≤ r ∧ ¬ c < 0 ∧ ¬ 20 ≤ c) from q)] at e5
      exact e5 rfl
    exact fun q => q.elim (fun q => q hc) (fun q => q.elim e9 (fun q => absurd e14 (Int32.not_le.mpr q)))
  refine pg_iconst (v := (-1)) h d_Mod_look_17 (by decide) ?_
  exact pf_iret h d_Mod_look_18 rfl (by first | rfl | simp [*]) rfl

set_option maxRecDepth 100000 in
set_option maxHeartbeats 4000000 in
theorem c_mlook_in (w : pf_W) (ok : pf_ok w) (A S : pf_S) (z : Int32) (hw : 1 ≤ w.2.2.1 ∧ w.2.2.1 ≤ 4) (hR : Rm w.2.2.1 z A S) (hwt : WtI A) (hlt : LtI A w.2.2.1) (r c : Nat) (hr : r < 8) (hc : c < 20) (x : Int32) (hx : ¬ x < 0 ∧ x ≤ 3) : pf_C w y_Mod_look b_Mod_look 4 (some .int) 5 117 [.ref (w.2.1 20 0), .int (nI r), .int (nI c), .int x] S (some (.int (lkV (seF A (shnF A w.2.2.1) r c (A 13 0) (A 12 0)).2 x))) (MD S (gD A (shnF A w.2.2.1) (drR A (shnF A w.2.2.1) r) 20) (lgV (drR A (shnF A w.2.2.1) r)) (gtF A (shnF A w.2.2.1) r (fun a => S a 0))) := by
  refine pf_enter (by decide) (Nat.le_of_ble_eq_true rfl) (lv0 := [some (.ref (w.2.1 20 0)), some (.int (nI r)), some (.int (nI c)), some (.int x)]) rfl (fun κ h => ?_)
  have hce : ¬ nI r < 0 ∧ ¬ 8 ≤ nI r ∧ ¬ nI c < 0 ∧ ¬ 20 ≤ nI c := ⟨nI_pos (by omega), nI_ge hr (by decide), nI_pos (by omega), nI_ge hc (by decide)⟩
  obtain ⟨p4, p5, p6, p7⟩ := gtF_val A (shnF A w.2.2.1) r (fun a => S a 0) hc
  refine pg_mem (MD_self S) ?_
  have hx3 : ¬ x = 0 → ¬ x = 1 → ¬ x = 2 → x = 3 := by
    intro h0 h1 h2
    obtain ⟨j, hj, rfl⟩ := nI_of (x := x) hx.1
    have := (show nI j ≤ nI 3 ↔ _ from nI_leI hj (by decide)).mp hx.2
    rcases (show j = 0 ∨ j = 1 ∨ j = 2 ∨ j = 3 by omega) with rfl | rfl | rfl | rfl
    · exact absurd rfl h0
    · exact absurd rfl h1
    · exact absurd rfl h2
    · rfl
  refine pg_iload_n h d_Mod_look_0 rfl ?_
  refine pg_iload_n h d_Mod_look_1 rfl ?_
  refine pg_cS h d_Mod_look_2 m_Mod_isCell l_Mod_233 (c_Mod_isCell w ok _ _ _) rfl rfl (Nat.le_of_ble_eq_true rfl) ⟨(Nat.le_of_ble_eq_true rfl), (Nat.le_of_ble_eq_true rfl)⟩ ⟨Nat.le_refl _, Nat.le_refl _⟩ ?_
  try simp only [MD25, MD26, MD27, MD28, MD29, MD30, MD31, MD32, MD33, MD34, MD35, MD36, MDF32, MDF33, MDF34, MDF35, MDF36, MDF37, MDs_25, MDs_26, MDs_27, MDs_28, MDs_29, MDs_30, MDs_31, MDs_32, MDs_33, MDs_34, MDs_35, MDs_36, MDs_0, MDs_11, MDs_13, MDs_14, MDs_15, MDs_16, MDs_17, MDs_18, MD_21, MD_22, MD_23, MD_24, MD_25, MD_26, MD_27, MD_28, MD_29, MD_30, MD_31, MD_32, MD_33, MD_34, MD_35, MD_36, MD_37]
  rw [if_pos hce]
  refine pg_if_eq (tgt := 17) h d_Mod_look_5 rfl (fun e5 => absurd e5 (by decide)) (fun e5 => ?_)
  refine pg_iload_n h d_Mod_look_8 rfl ?_
  refine pg_if_lt (tgt := 17) h d_Mod_look_9 rfl (fun e9 => absurd e9 hx.1) (fun e9 => ?_)
  refine pg_iload_n h d_Mod_look_12 rfl ?_
  refine pg_iconst (v := 3) h d_Mod_look_13 (by decide) ?_
  refine pg_icmp_le (tgt := 19) h d_Mod_look_14 rfl (fun e14 => ?_) (fun e14 => absurd e14 (fun q => q hx.2))
  refine pg_aload_n h d_Mod_look_19 rfl ?_
  refine pg_iload_n h d_Mod_look_20 rfl ?_
  refine pf_cV0 h ok d_Mod_look_21 m_Mod_goTo l_Mod_237 (c_Mod_goTo w ok A S z _ _ _ hw hR hwt hlt r hr) cn_Mod (by first | rfl | exact hk | exact hk2 | exact dm12 _ | assumption) rfl rfl rfl (Nat.le_of_ble_eq_true rfl) ⟨(Nat.le_of_ble_eq_true rfl), (Nat.le_of_ble_eq_true rfl)⟩ ⟨Nat.le_refl _, Nat.le_refl _⟩ ?_
  try simp only [MD25, MD26, MD27, MD28, MD29, MD30, MD31, MD32, MD33, MD34, MD35, MD36, MDF32, MDF33, MDF34, MDF35, MDF36, MDF37, MDs_25, MDs_26, MDs_27, MDs_28, MDs_29, MDs_30, MDs_31, MDs_32, MDs_33, MDs_34, MDs_35, MDs_36, MDs_0, MDs_11, MDs_13, MDs_14, MDs_15, MDs_16, MDs_17, MDs_18, MD_21, MD_22, MD_23, MD_24, MD_25, MD_26, MD_27, MD_28, MD_29, MD_30, MD_31, MD_32, MD_33, MD_34, MD_35, MD_36, MD_37]
  refine pg_iload_n h d_Mod_look_24 rfl ?_
  refine pg_if_ne (tgt := 37) h d_Mod_look_25 rfl (fun e25 => ?_) (fun e25 => ?_)
  · skip
    refine pg_iload_n h d_Mod_look_37 rfl ?_
    refine pg_iconst (v := 1) h d_Mod_look_38 (by decide) ?_
    refine pg_icmp_ne (tgt := 51) h d_Mod_look_39 rfl (fun e39 => ?_) (fun e39 => ?_)
    · skip
      refine pg_iload_n h d_Mod_look_51 rfl ?_
      refine pg_iconst (v := 2) h d_Mod_look_52 (by decide) ?_
      refine pg_icmp_ne (tgt := 65) h d_Mod_look_53 rfl (fun e53 => ?_) (fun e53 => ?_)
      · skip
        refine pg_aload_n h d_Mod_look_65 rfl ?_
        refine pf_get h ok d_Mod_look_66 f_Mod_67 (by first | rfl | exact hk | exact hk2 | exact dm12 _ | assumption) rfl rfl ?_
        try simp only [MD25, MD26, MD27, MD28, MD29, MD30, MD31, MD32, MD33, MD34, MD35, MD36, MDF32, MDF33, MDF34, MDF35, MDF36, MDF37, MDs_25, MDs_26, MDs_27, MDs_28, MDs_29, MDs_30, MDs_31, MDs_32, MDs_33, MDs_34, MDs_35, MDs_36, MDs_0, MDs_11, MDs_13, MDs_14, MDs_15, MDs_16, MDs_17, MDs_18, MD_21, MD_22, MD_23, MD_24, MD_25, MD_26, MD_27, MD_28, MD_29, MD_30, MD_31, MD_32, MD_33, MD_34, MD_35, MD_36, MD_37]
        refine pg_iload_n h d_Mod_look_69 rfl ?_
        refine pf_ild h ok d_Mod_look_70 (by first | rfl | exact hk | exact hk2 | exact dm12 _ | assumption) rfl (pg_ixN rfl hc (by decide)) ?_
        try simp only [MD25, MD26, MD27, MD28, MD29, MD30, MD31, MD32, MD33, MD34, MD35, MD36, MDF32, MDF33, MDF34, MDF35, MDF36, MDF37, MDs_25, MDs_26, MDs_27, MDs_28, MDs_29, MDs_30, MDs_31, MDs_32, MDs_33, MDs_34, MDs_35, MDs_36, MDs_0, MDs_11, MDs_13, MDs_14, MDs_15, MDs_16, MDs_17, MDs_18, MD_21, MD_22, MD_23, MD_24, MD_25, MD_26, MD_27, MD_28, MD_29, MD_30, MD_31, MD_32, MD_33, MD_34, MD_35, MD_36, MD_37]
        exact pf_iret h d_Mod_look_71 rfl (by first | (rw [lkV, if_pos e25, ← p4]) | (rw [lkV, if_neg e25, if_pos e39, ← p5]) | (rw [lkV, if_neg e25, if_neg e39, if_pos e53, ← p6]) | (rw [lkV, if_neg e25, if_neg e39, if_neg e53, if_pos (hx3 e25 e39 e53), ← p7])) rfl
      refine pg_aload_n h d_Mod_look_56 rfl ?_
      refine pf_get h ok d_Mod_look_57 f_Mod_64 (by first | rfl | exact hk | exact hk2 | exact dm12 _ | assumption) rfl rfl ?_
      try simp only [MD25, MD26, MD27, MD28, MD29, MD30, MD31, MD32, MD33, MD34, MD35, MD36, MDF32, MDF33, MDF34, MDF35, MDF36, MDF37, MDs_25, MDs_26, MDs_27, MDs_28, MDs_29, MDs_30, MDs_31, MDs_32, MDs_33, MDs_34, MDs_35, MDs_36, MDs_0, MDs_11, MDs_13, MDs_14, MDs_15, MDs_16, MDs_17, MDs_18, MD_21, MD_22, MD_23, MD_24, MD_25, MD_26, MD_27, MD_28, MD_29, MD_30, MD_31, MD_32, MD_33, MD_34, MD_35, MD_36, MD_37]
      refine pg_iload_n h d_Mod_look_60 rfl ?_
      refine pf_ild h ok d_Mod_look_61 (by first | rfl | exact hk | exact hk2 | exact dm12 _ | assumption) rfl (pg_ixN rfl hc (by decide)) ?_
      try simp only [MD25, MD26, MD27, MD28, MD29, MD30, MD31, MD32, MD33, MD34, MD35, MD36, MDF32, MDF33, MDF34, MDF35, MDF36, MDF37, MDs_25, MDs_26, MDs_27, MDs_28, MDs_29, MDs_30, MDs_31, MDs_32, MDs_33, MDs_34, MDs_35, MDs_36, MDs_0, MDs_11, MDs_13, MDs_14, MDs_15, MDs_16, MDs_17, MDs_18, MD_21, MD_22, MD_23, MD_24, MD_25, MD_26, MD_27, MD_28, MD_29, MD_30, MD_31, MD_32, MD_33, MD_34, MD_35, MD_36, MD_37]
      refine pg_goto (tgt := 71) h d_Mod_look_62 rfl ?_
      exact pf_iret h d_Mod_look_71 rfl (by first | (rw [lkV, if_pos e25, ← p4]) | (rw [lkV, if_neg e25, if_pos e39, ← p5]) | (rw [lkV, if_neg e25, if_neg e39, if_pos e53, ← p6]) | (rw [lkV, if_neg e25, if_neg e39, if_neg e53, if_pos (hx3 e25 e39 e53), ← p7])) rfl
    refine pg_aload_n h d_Mod_look_42 rfl ?_
    refine pf_get h ok d_Mod_look_43 f_Mod_61 (by first | rfl | exact hk | exact hk2 | exact dm12 _ | assumption) rfl rfl ?_
    try simp only [MD25, MD26, MD27, MD28, MD29, MD30, MD31, MD32, MD33, MD34, MD35, MD36, MDF32, MDF33, MDF34, MDF35, MDF36, MDF37, MDs_25, MDs_26, MDs_27, MDs_28, MDs_29, MDs_30, MDs_31, MDs_32, MDs_33, MDs_34, MDs_35, MDs_36, MDs_0, MDs_11, MDs_13, MDs_14, MDs_15, MDs_16, MDs_17, MDs_18, MD_21, MD_22, MD_23, MD_24, MD_25, MD_26, MD_27, MD_28, MD_29, MD_30, MD_31, MD_32, MD_33, MD_34, MD_35, MD_36, MD_37]
    refine pg_iload_n h d_Mod_look_46 rfl ?_
    refine pf_ild h ok d_Mod_look_47 (by first | rfl | exact hk | exact hk2 | exact dm12 _ | assumption) rfl (pg_ixN rfl hc (by decide)) ?_
    try simp only [MD25, MD26, MD27, MD28, MD29, MD30, MD31, MD32, MD33, MD34, MD35, MD36, MDF32, MDF33, MDF34, MDF35, MDF36, MDF37, MDs_25, MDs_26, MDs_27, MDs_28, MDs_29, MDs_30, MDs_31, MDs_32, MDs_33, MDs_34, MDs_35, MDs_36, MDs_0, MDs_11, MDs_13, MDs_14, MDs_15, MDs_16, MDs_17, MDs_18, MD_21, MD_22, MD_23, MD_24, MD_25, MD_26, MD_27, MD_28, MD_29, MD_30, MD_31, MD_32, MD_33, MD_34, MD_35, MD_36, MD_37]
    refine pg_goto (tgt := 71) h d_Mod_look_48 rfl ?_
    exact pf_iret h d_Mod_look_71 rfl (by first | (rw [lkV, if_pos e25, ← p4]) | (rw [lkV, if_neg e25, if_pos e39, ← p5]) | (rw [lkV, if_neg e25, if_neg e39, if_pos e53, ← p6]) | (rw [lkV, if_neg e25, if_neg e39, if_neg e53, if_pos (hx3 e25 e39 e53), ← p7])) rfl
  refine pg_aload_n h d_Mod_look_28 rfl ?_
  refine pf_get h ok d_Mod_look_29 f_Mod_58 (by first | rfl | exact hk | exact hk2 | exact dm12 _ | assumption) rfl rfl ?_
  try simp only [MD25, MD26, MD27, MD28, MD29, MD30, MD31, MD32, MD33, MD34, MD35, MD36, MDF32, MDF33, MDF34, MDF35, MDF36, MDF37, MDs_25, MDs_26, MDs_27, MDs_28, MDs_29, MDs_30, MDs_31, MDs_32, MDs_33, MDs_34, MDs_35, MDs_36, MDs_0, MDs_11, MDs_13, MDs_14, MDs_15, MDs_16, MDs_17, MDs_18, MD_21, MD_22, MD_23, MD_24, MD_25, MD_26, MD_27, MD_28, MD_29, MD_30, MD_31, MD_32, MD_33, MD_34, MD_35, MD_36, MD_37]
  refine pg_iload_n h d_Mod_look_32 rfl ?_
  refine pf_ild h ok d_Mod_look_33 (by first | rfl | exact hk | exact hk2 | exact dm12 _ | assumption) rfl (pg_ixN rfl hc (by decide)) ?_
  try simp only [MD25, MD26, MD27, MD28, MD29, MD30, MD31, MD32, MD33, MD34, MD35, MD36, MDF32, MDF33, MDF34, MDF35, MDF36, MDF37, MDs_25, MDs_26, MDs_27, MDs_28, MDs_29, MDs_30, MDs_31, MDs_32, MDs_33, MDs_34, MDs_35, MDs_36, MDs_0, MDs_11, MDs_13, MDs_14, MDs_15, MDs_16, MDs_17, MDs_18, MD_21, MD_22, MD_23, MD_24, MD_25, MD_26, MD_27, MD_28, MD_29, MD_30, MD_31, MD_32, MD_33, MD_34, MD_35, MD_36, MD_37]
  refine pg_goto (tgt := 71) h d_Mod_look_34 rfl ?_
  exact pf_iret h d_Mod_look_71 rfl (by first | (rw [lkV, if_pos e25, ← p4]) | (rw [lkV, if_neg e25, if_pos e39, ← p5]) | (rw [lkV, if_neg e25, if_neg e39, if_pos e53, ← p6]) | (rw [lkV, if_neg e25, if_neg e39, if_neg e53, if_pos (hx3 e25 e39 e53), ← p7])) rfl

set_option maxRecDepth 100000 in
set_option maxHeartbeats 4000000 in
theorem c_mpoint_out (w : pf_W) (ok : pf_ok w) (S : pf_S) (r c a b : Int32) (hn : ¬ isC r c ∨ ¬ isP a b) : pf_C w y_Mod_point b_Mod_point 10 (some .int) 5 117 [.ref (w.2.1 20 0), .int r, .int c, .int a, .int b] S (some (.int (-1))) S := by
  refine pf_enter (by decide) (Nat.le_of_ble_eq_true rfl) (lv0 := [some (.ref (w.2.1 20 0)), some (.int r), some (.int c), some (.int a), some (.int b), none, none, none, none, none]) rfl (fun κ h => ?_)
  refine pg_iload_n h d_Mod_point_0 rfl ?_
  refine pg_iload_n h d_Mod_point_1 rfl ?_
  refine pg_cS h d_Mod_point_2 m_Mod_isCell l_Mod_233 (c_Mod_isCell w ok S r c) rfl rfl (Nat.le_of_ble_eq_true rfl) ⟨(Nat.le_of_ble_eq_true rfl), (Nat.le_of_ble_eq_true rfl)⟩ ⟨Nat.le_refl _, Nat.le_refl _⟩ ?_
  refine pg_if_eq (tgt := 28) h d_Mod_point_5 rfl (fun e5 => ?_) (fun e5 => ?_)
  · skip
    refine pg_iconst (v := (-1)) h d_Mod_point_28 (by decide) ?_
    exact pf_iret h d_Mod_point_29 rfl (by first | rfl | simp [*]) rfl
  refine pg_iload_n h d_Mod_point_8 rfl ?_
  refine pg_if_lt (tgt := 28) h d_Mod_point_9 rfl (fun e9 => ?_) (fun e9 => ?_)
  · skip
    refine pg_iconst (v := (-1)) h d_Mod_point_28 (by decide) ?_
    exact pf_iret h d_Mod_point_29 rfl (by first | rfl | simp [*]) rfl
  refine pg_iload_n h d_Mod_point_12 rfl ?_
  refine pg_iconst (v := 3) h d_Mod_point_13 (by decide) ?_
  refine pg_icmp_gt (tgt := 28) h d_Mod_point_14 rfl (fun e14 => ?_) (fun e14 => ?_)
  · skip
    refine pg_iconst (v := (-1)) h d_Mod_point_28 (by decide) ?_
    exact pf_iret h d_Mod_point_29 rfl (by first | rfl | simp [*]) rfl
  refine pg_iload h d_Mod_point_17 rfl ?_
  refine pg_if_lt (tgt := 28) h d_Mod_point_19 rfl (fun e19 => ?_) (fun e19 => ?_)
  · skip
    refine pg_iconst (v := (-1)) h d_Mod_point_28 (by decide) ?_
    exact pf_iret h d_Mod_point_29 rfl (by first | rfl | simp [*]) rfl
  refine pg_iload h d_Mod_point_22 rfl ?_
  refine pg_iconst (v := 5) h d_Mod_point_24 (by decide) ?_
  refine pg_icmp_le (tgt := 30) h d_Mod_point_25 rfl (fun e25 => ?_) (fun e25 => ?_)
  · skip
    refine absurd hn ?_
    have hc : isC r c := by
      apply Classical.byContradiction
      intro q
      rw [if_neg (show ¬ (¬ r < 0 ∧ ¬ 8 ≤ r ∧ ¬ c < 0 ∧ ¬ 20 ≤ c) from q)] at e5
      exact e5 rfl
    exact fun q => q.elim (fun q => q hc) (fun q => q ⟨e9, e14, e19, e25⟩)
  refine pg_iconst (v := (-1)) h d_Mod_point_28 (by decide) ?_
  exact pf_iret h d_Mod_point_29 rfl (by first | rfl | simp [*]) rfl

theorem par_a : ∀ n, n < 6 → (nI n - nI n / 2 * 2 = 1 ↔ ¬ nI n - nI n / 2 * 2 = 0) ∧ (nI n / 2 - nI n / 2 / 2 * 2 = 1 ↔ ¬ nI n / 2 - nI n / 2 / 2 * 2 = 0) ∧ (3 + nI n / 2 - (3 + nI n / 2) / 2 * 2 = 1 ↔ ¬ 3 + nI n / 2 - (3 + nI n / 2) / 2 * 2 = 0) := by decide
def flV (u : Nat → Int32) (a v : Int32) : Int32 := if u 7 &&& 1 = 0 then lfV u a v else bfV u a v

set_option maxRecDepth 100000 in
set_option maxHeartbeats 4000000 in
theorem c_mpoint_in (w : pf_W) (ok : pf_ok w) (A S : pf_S) (z : Int32) (hw : 1 ≤ w.2.2.1 ∧ w.2.2.1 ≤ 4) (hR : Rm w.2.2.1 z A S) (hwt : WtI A) (hlt : LtI A w.2.2.1) (r c : Nat) (hr : r < 8) (hc : c < 20) (a b : Int32) (hp : isP a b) : pf_C w y_Mod_point b_Mod_point 10 (some .int) 5 117 [.ref (w.2.1 20 0), .int (nI r), .int (nI c), .int a, .int b] S (some (.int (caV (seF A (shnF A w.2.2.1) r c (A 13 0) (A 12 0)).2 a b))) (MD S (gD A (shnF A w.2.2.1) (drR A (shnF A w.2.2.1) r) 20) (lgV (drR A (shnF A w.2.2.1) r)) (gtF A (shnF A w.2.2.1) r (fun a => S a 0))) := by
  refine pf_enter (by decide) (Nat.le_of_ble_eq_true rfl) (lv0 := [some (.ref (w.2.1 20 0)), some (.int (nI r)), some (.int (nI c)), some (.int a), some (.int b), none, none, none, none, none]) rfl (fun κ h => ?_)
  have hce : ¬ nI r < 0 ∧ ¬ 8 ≤ nI r ∧ ¬ nI c < 0 ∧ ¬ 20 ≤ nI c := ⟨nI_pos (by omega), nI_ge hr (by decide), nI_pos (by omega), nI_ge hc (by decide)⟩
  obtain ⟨p4, p5, p6, p7⟩ := gtF_val A (shnF A w.2.2.1) r (fun a => S a 0) hc
  refine pg_mem (MD_self S) ?_
  obtain ⟨an, han, ea⟩ : ∃ n : Nat, n < 6 ∧ a = nI n := by
    obtain ⟨j, hj, e⟩ := nI_of (x := a) hp.1
    refine ⟨j, ?_, e⟩
    have q := hp.2.1
    rw [e] at q
    have := (show nI j ≤ nI 3 ↔ _ from nI_leI hj (by decide)).mp (Int32.not_lt.mp q)
    omega
  obtain ⟨bn, hbn, eb⟩ : ∃ n : Nat, n < 6 ∧ b = nI n := by
    obtain ⟨j, hj, e⟩ := nI_of (x := b) hp.2.2.1
    refine ⟨j, ?_, e⟩
    have q := hp.2.2.2
    rw [e] at q
    have := (show nI j ≤ nI 5 ↔ _ from nI_leI hj (by decide)).mp q
    omega
  have qa := (par_a an han).1
  rw [← ea] at qa
  obtain ⟨qb1, qb2, qb3⟩ := par_a bn hbn
  rw [← eb] at qb1 qb2 qb3
  clear ea eb han hbn
  generalize hu : (seF A (shnF A w.2.2.1) r c (A 13 0) (A 12 0)).2 = u at p4 p5 p6 p7 ⊢
  have hv : (wV u b - wV u b / 2 * 2 = 1 ↔ ¬ wV u b - wV u b / 2 * 2 = 0) := by
    unfold wV
    split
    · split
      · exact qb1
      · exact qb3
    · exact qb2
  clear qb1 qb2 qb3
  have fin : ∀ (f : Int32) (X : Option Value), f = flV u a (wV u b) → pg_G κ w.1 10 0 0 (pg_Q κ w.1 (fun r' H => r' = (some (.int (caV u a b))) ∧ pf_P w (MD S (gD A (shnF A w.2.2.1) (drR A (shnF A w.2.2.1) r) 20) (lgV (drR A (shnF A w.2.2.1) r)) (gtF A (shnF A w.2.2.1) r (fun a => S a 0))) H) 0 0) (pf_P w (MD S (gD A (shnF A w.2.2.1) (drR A (shnF A w.2.2.1) r) 20) (lgV (drR A (shnF A w.2.2.1) r)) (gtF A (shnF A w.2.2.1) r (fun a => S a 0)))) 195 [some (.ref (w.2.1 20 0)), some (.int (nI r)), some (.int (nI c)), some (.int a), some (.int b), some (.int (u 7)), some (.int (wV u b)), some (.int (u 4)), some (.int f), X] [] := by
    intro f X hf
    refine pg_iload h d_Mod_point_195 rfl ?_
    refine pg_if_eq (tgt := 209) h d_Mod_point_197 rfl (fun e197 => ?_) (fun e197 => ?_)
    · skip
      refine pg_aload_n h d_Mod_point_209 rfl ?_
      refine pf_get h ok d_Mod_point_210 f_Mod_64 (by first | rfl | exact hk | exact hk2 | exact dm12 _ | assumption) rfl rfl ?_
      try simp only [MD25, MD26, MD27, MD28, MD29, MD30, MD31, MD32, MD33, MD34, MD35, MD36, MDF32, MDF33, MDF34, MDF35, MDF36, MDF37, MDs_25, MDs_26, MDs_27, MDs_28, MDs_29, MDs_30, MDs_31, MDs_32, MDs_33, MDs_34, MDs_35, MDs_36, MDs_0, MDs_11, MDs_13, MDs_14, MDs_15, MDs_16, MDs_17, MDs_18, MD_21, MD_22, MD_23, MD_24, MD_25, MD_26, MD_27, MD_28, MD_29, MD_30, MD_31, MD_32, MD_33, MD_34, MD_35, MD_36, MD_37]
      refine pg_iload_n h d_Mod_point_213 rfl ?_
      refine pf_ild h ok d_Mod_point_214 (by first | rfl | exact hk | exact hk2 | exact dm12 _ | assumption) rfl (pg_ixN rfl hc (by decide)) ?_
      try simp only [MD25, MD26, MD27, MD28, MD29, MD30, MD31, MD32, MD33, MD34, MD35, MD36, MDF32, MDF33, MDF34, MDF35, MDF36, MDF37, MDs_25, MDs_26, MDs_27, MDs_28, MDs_29, MDs_30, MDs_31, MDs_32, MDs_33, MDs_34, MDs_35, MDs_36, MDs_0, MDs_11, MDs_13, MDs_14, MDs_15, MDs_16, MDs_17, MDs_18, MD_21, MD_22, MD_23, MD_24, MD_25, MD_26, MD_27, MD_28, MD_29, MD_30, MD_31, MD_32, MD_33, MD_34, MD_35, MD_36, MD_37]
      exact pf_iret h d_Mod_point_215 rfl (by rw [show caV u a b = if flV u a (wV u b) = 0 then u 6 else u 5 from rfl, ← hf]; first | (rw [if_pos e197, ← p6]) | (rw [if_neg e197, ← p5])) rfl
    refine pg_aload_n h d_Mod_point_200 rfl ?_
    refine pf_get h ok d_Mod_point_201 f_Mod_61 (by first | rfl | exact hk | exact hk2 | exact dm12 _ | assumption) rfl rfl ?_
    try simp only [MD25, MD26, MD27, MD28, MD29, MD30, MD31, MD32, MD33, MD34, MD35, MD36, MDF32, MDF33, MDF34, MDF35, MDF36, MDF37, MDs_25, MDs_26, MDs_27, MDs_28, MDs_29, MDs_30, MDs_31, MDs_32, MDs_33, MDs_34, MDs_35, MDs_36, MDs_0, MDs_11, MDs_13, MDs_14, MDs_15, MDs_16, MDs_17, MDs_18, MD_21, MD_22, MD_23, MD_24, MD_25, MD_26, MD_27, MD_28, MD_29, MD_30, MD_31, MD_32, MD_33, MD_34, MD_35, MD_36, MD_37]
    refine pg_iload_n h d_Mod_point_204 rfl ?_
    refine pf_ild h ok d_Mod_point_205 (by first | rfl | exact hk | exact hk2 | exact dm12 _ | assumption) rfl (pg_ixN rfl hc (by decide)) ?_
    try simp only [MD25, MD26, MD27, MD28, MD29, MD30, MD31, MD32, MD33, MD34, MD35, MD36, MDF32, MDF33, MDF34, MDF35, MDF36, MDF37, MDs_25, MDs_26, MDs_27, MDs_28, MDs_29, MDs_30, MDs_31, MDs_32, MDs_33, MDs_34, MDs_35, MDs_36, MDs_0, MDs_11, MDs_13, MDs_14, MDs_15, MDs_16, MDs_17, MDs_18, MD_21, MD_22, MD_23, MD_24, MD_25, MD_26, MD_27, MD_28, MD_29, MD_30, MD_31, MD_32, MD_33, MD_34, MD_35, MD_36, MD_37]
    refine pg_goto (tgt := 215) h d_Mod_point_206 rfl ?_
    exact pf_iret h d_Mod_point_215 rfl (by rw [show caV u a b = if flV u a (wV u b) = 0 then u 6 else u 5 from rfl, ← hf]; first | (rw [if_pos e197, ← p6]) | (rw [if_neg e197, ← p5])) rfl
  have mid : pg_G κ w.1 10 0 0 (pg_Q κ w.1 (fun r' H => r' = (some (.int (caV u a b))) ∧ pf_P w (MD S (gD A (shnF A w.2.2.1) (drR A (shnF A w.2.2.1) r) 20) (lgV (drR A (shnF A w.2.2.1) r)) (gtF A (shnF A w.2.2.1) r (fun a => S a 0))) H) 0 0) (pf_P w (MD S (gD A (shnF A w.2.2.1) (drR A (shnF A w.2.2.1) r) 20) (lgV (drR A (shnF A w.2.2.1) r)) (gtF A (shnF A w.2.2.1) r (fun a => S a 0)))) 86 [some (.ref (w.2.1 20 0)), some (.int (nI r)), some (.int (nI c)), some (.int a), some (.int b), some (.int (u 7)), some (.int (wV u b)), some (.int (u 4)), none, none] [] := by
    refine pg_iload h d_Mod_point_86 rfl ?_
    refine pg_iconst (v := 1) h d_Mod_point_88 (by decide) ?_
    refine pg_iand h d_Mod_point_89 ?_
    refine pg_if_eq (tgt := 157) h d_Mod_point_90 rfl (fun e90 => ?_) (fun e90 => ?_)
    · skip
      refine pg_iload h d_Mod_point_157 rfl ?_
      refine pg_bipush (v := 32) h d_Mod_point_159 (by decide) ?_
      refine pg_icmp_eq (tgt := 192) h d_Mod_point_161 rfl (fun e161 => ?_) (fun e161 => ?_)
      · skip
        refine pg_iconst (v := 0) h d_Mod_point_192 (by decide) ?_
        refine pg_istore h d_Mod_point_193 (Nat.le_of_ble_eq_true rfl) rfl rfl ?_
        exact fin _ _ (by simp [flV, bfV, lfV, *])
      refine pg_iload h d_Mod_point_164 rfl ?_
      refine pg_ldc (v := 40503) h d_Mod_point_166 (pg_tb 899 rfl rfl) ?_
      refine pg_imul h d_Mod_point_168 ?_
      refine pg_iload h d_Mod_point_169 rfl ?_
      refine pg_bipush (v := 7) h d_Mod_point_171 (by decide) ?_
      refine pg_ishl h d_Mod_point_173 ?_
      refine pg_ixor h d_Mod_point_174 ?_
      refine pg_iload h d_Mod_point_175 rfl ?_
      refine pg_iconst (v := 4) h d_Mod_point_177 (by decide) ?_
      refine pg_imul h d_Mod_point_178 ?_
      refine pg_iload_n h d_Mod_point_179 rfl ?_
      refine pg_iadd h d_Mod_point_180 ?_
      refine pg_ishr h d_Mod_point_181 ?_
      refine pg_iconst (v := 1) h d_Mod_point_182 (by decide) ?_
      refine pg_iand h d_Mod_point_183 ?_
      refine pg_iconst (v := 1) h d_Mod_point_184 (by decide) ?_
      refine pg_icmp_ne (tgt := 192) h d_Mod_point_185 rfl (fun e185 => ?_) (fun e185 => ?_)
      · skip
        refine pg_iconst (v := 0) h d_Mod_point_192 (by decide) ?_
        refine pg_istore h d_Mod_point_193 (Nat.le_of_ble_eq_true rfl) rfl rfl ?_
        exact fin _ _ (by simp [flV, bfV, lfV, *])
      refine pg_iconst (v := 1) h d_Mod_point_188 (by decide) ?_
      refine pg_goto (tgt := 193) h d_Mod_point_189 rfl ?_
      refine pg_istore h d_Mod_point_193 (Nat.le_of_ble_eq_true rfl) rfl rfl ?_
      exact fin _ _ (by simp [flV, bfV, lfV, *])
    refine pg_iconst (v := 2) h d_Mod_point_93 (by decide) ?_
    refine pg_iload h d_Mod_point_94 rfl ?_
    refine pg_iconst (v := 2) h d_Mod_point_96 (by decide) ?_
    refine pg_idiv h d_Mod_point_97 (by decide) ?_
    refine pg_imul h d_Mod_point_98 ?_
    refine pg_iload_n h d_Mod_point_99 rfl ?_
    refine pg_iconst (v := 2) h d_Mod_point_100 (by decide) ?_
    refine pg_idiv h d_Mod_point_101 (by decide) ?_
    refine pg_iadd h d_Mod_point_102 ?_
    refine pg_istore h d_Mod_point_103 (Nat.le_of_ble_eq_true rfl) rfl rfl ?_
    refine pg_iload h d_Mod_point_105 rfl ?_
    refine pg_iload h d_Mod_point_107 rfl ?_
    refine pg_iconst (v := 5) h d_Mod_point_109 (by decide) ?_
    refine pg_icmp_ne (tgt := 118) h d_Mod_point_110 rfl (fun e110 => ?_) (fun e110 => ?_)
    · skip
      refine pg_iload h d_Mod_point_118 rfl ?_
      refine pg_ishr h d_Mod_point_120 ?_
      refine pg_iconst (v := 1) h d_Mod_point_121 (by decide) ?_
      refine pg_iand h d_Mod_point_122 ?_
      refine pg_iconst (v := 1) h d_Mod_point_123 (by decide) ?_
      refine pg_icmp_ne (tgt := 151) h d_Mod_point_124 rfl (fun e124 => ?_) (fun e124 => ?_)
      · skip
        refine pg_iconst (v := 0) h d_Mod_point_151 (by decide) ?_
        refine pg_istore h d_Mod_point_152 (Nat.le_of_ble_eq_true rfl) rfl rfl ?_
        refine pg_goto (tgt := 195) h d_Mod_point_154 rfl ?_
        exact fin _ _ (by simp [flV, bfV, lfV, *])
      refine pg_iload h d_Mod_point_127 rfl ?_
      refine pg_iconst (v := 2) h d_Mod_point_129 (by decide) ?_
      refine pg_iand h d_Mod_point_130 ?_
      refine pg_if_eq (tgt := 147) h d_Mod_point_131 rfl (fun e131 => ?_) (fun e131 => ?_)
      · skip
        refine pg_iconst (v := 1) h d_Mod_point_147 (by decide) ?_
        refine pg_goto (tgt := 152) h d_Mod_point_148 rfl ?_
        refine pg_istore h d_Mod_point_152 (Nat.le_of_ble_eq_true rfl) rfl rfl ?_
        refine pg_goto (tgt := 195) h d_Mod_point_154 rfl ?_
        exact fin _ _ (by simp [flV, bfV, lfV, *])
      refine pg_iload_n h d_Mod_point_134 rfl ?_
      refine pg_iconst (v := 2) h d_Mod_point_135 (by decide) ?_
      refine pg_irem h d_Mod_point_136 (by decide) ?_
      refine pg_if_ne (tgt := 151) h d_Mod_point_137 rfl (fun e137 => ?_) (fun e137 => ?_)
      · skip
        refine pg_iconst (v := 0) h d_Mod_point_151 (by decide) ?_
        refine pg_istore h d_Mod_point_152 (Nat.le_of_ble_eq_true rfl) rfl rfl ?_
        refine pg_goto (tgt := 195) h d_Mod_point_154 rfl ?_
        exact fin _ _ (by simp [flV, bfV, lfV, *])
      refine pg_iload h d_Mod_point_140 rfl ?_
      refine pg_iconst (v := 2) h d_Mod_point_142 (by decide) ?_
      refine pg_irem h d_Mod_point_143 (by decide) ?_
      refine pg_if_ne (tgt := 151) h d_Mod_point_144 rfl (fun e144 => ?_) (fun e144 => ?_)
      · skip
        refine pg_iconst (v := 0) h d_Mod_point_151 (by decide) ?_
        refine pg_istore h d_Mod_point_152 (Nat.le_of_ble_eq_true rfl) rfl rfl ?_
        refine pg_goto (tgt := 195) h d_Mod_point_154 rfl ?_
        exact fin _ _ (by simp [flV, bfV, lfV, *])
      refine pg_iconst (v := 1) h d_Mod_point_147 (by decide) ?_
      refine pg_goto (tgt := 152) h d_Mod_point_148 rfl ?_
      refine pg_istore h d_Mod_point_152 (Nat.le_of_ble_eq_true rfl) rfl rfl ?_
      refine pg_goto (tgt := 195) h d_Mod_point_154 rfl ?_
      exact fin _ _ (by simp [flV, bfV, lfV, *])
    refine pg_bipush (v := 6) h d_Mod_point_113 (by decide) ?_
    refine pg_goto (tgt := 120) h d_Mod_point_115 rfl ?_
    refine pg_ishr h d_Mod_point_120 ?_
    refine pg_iconst (v := 1) h d_Mod_point_121 (by decide) ?_
    refine pg_iand h d_Mod_point_122 ?_
    refine pg_iconst (v := 1) h d_Mod_point_123 (by decide) ?_
    refine pg_icmp_ne (tgt := 151) h d_Mod_point_124 rfl (fun e124 => ?_) (fun e124 => ?_)
    · skip
      refine pg_iconst (v := 0) h d_Mod_point_151 (by decide) ?_
      refine pg_istore h d_Mod_point_152 (Nat.le_of_ble_eq_true rfl) rfl rfl ?_
      refine pg_goto (tgt := 195) h d_Mod_point_154 rfl ?_
      exact fin _ _ (by simp [flV, bfV, lfV, *])
    refine pg_iload h d_Mod_point_127 rfl ?_
    refine pg_iconst (v := 2) h d_Mod_point_129 (by decide) ?_
    refine pg_iand h d_Mod_point_130 ?_
    refine pg_if_eq (tgt := 147) h d_Mod_point_131 rfl (fun e131 => ?_) (fun e131 => ?_)
    · skip
      refine pg_iconst (v := 1) h d_Mod_point_147 (by decide) ?_
      refine pg_goto (tgt := 152) h d_Mod_point_148 rfl ?_
      refine pg_istore h d_Mod_point_152 (Nat.le_of_ble_eq_true rfl) rfl rfl ?_
      refine pg_goto (tgt := 195) h d_Mod_point_154 rfl ?_
      exact fin _ _ (by simp [flV, bfV, lfV, *])
    refine pg_iload_n h d_Mod_point_134 rfl ?_
    refine pg_iconst (v := 2) h d_Mod_point_135 (by decide) ?_
    refine pg_irem h d_Mod_point_136 (by decide) ?_
    refine pg_if_ne (tgt := 151) h d_Mod_point_137 rfl (fun e137 => ?_) (fun e137 => ?_)
    · skip
      refine pg_iconst (v := 0) h d_Mod_point_151 (by decide) ?_
      refine pg_istore h d_Mod_point_152 (Nat.le_of_ble_eq_true rfl) rfl rfl ?_
      refine pg_goto (tgt := 195) h d_Mod_point_154 rfl ?_
      exact fin _ _ (by simp [flV, bfV, lfV, *])
    refine pg_iload h d_Mod_point_140 rfl ?_
    refine pg_iconst (v := 2) h d_Mod_point_142 (by decide) ?_
    refine pg_irem h d_Mod_point_143 (by decide) ?_
    refine pg_if_ne (tgt := 151) h d_Mod_point_144 rfl (fun e144 => ?_) (fun e144 => ?_)
    · skip
      refine pg_iconst (v := 0) h d_Mod_point_151 (by decide) ?_
      refine pg_istore h d_Mod_point_152 (Nat.le_of_ble_eq_true rfl) rfl rfl ?_
      refine pg_goto (tgt := 195) h d_Mod_point_154 rfl ?_
      exact fin _ _ (by simp [flV, bfV, lfV, *])
    refine pg_iconst (v := 1) h d_Mod_point_147 (by decide) ?_
    refine pg_goto (tgt := 152) h d_Mod_point_148 rfl ?_
    refine pg_istore h d_Mod_point_152 (Nat.le_of_ble_eq_true rfl) rfl rfl ?_
    refine pg_goto (tgt := 195) h d_Mod_point_154 rfl ?_
    exact fin _ _ (by simp [flV, bfV, lfV, *])
  have mid2 : pg_G κ w.1 10 0 0 (pg_Q κ w.1 (fun r' H => r' = (some (.int (caV u a b))) ∧ pf_P w (MD S (gD A (shnF A w.2.2.1) (drR A (shnF A w.2.2.1) r) 20) (lgV (drR A (shnF A w.2.2.1) r)) (gtF A (shnF A w.2.2.1) r (fun a => S a 0))) H) 0 0) (pf_P w (MD S (gD A (shnF A w.2.2.1) (drR A (shnF A w.2.2.1) r) 20) (lgV (drR A (shnF A w.2.2.1) r)) (gtF A (shnF A w.2.2.1) r (fun a => S a 0)))) 76 [some (.ref (w.2.1 20 0)), some (.int (nI r)), some (.int (nI c)), some (.int a), some (.int b), some (.int (u 7)), none, none, none, none] [.int (wV u b)] := by
    refine pg_istore h d_Mod_point_76 (Nat.le_of_ble_eq_true rfl) rfl rfl ?_
    refine pg_aload_n h d_Mod_point_78 rfl ?_
    refine pf_get h ok d_Mod_point_79 f_Mod_58 (by first | rfl | exact hk | exact hk2 | exact dm12 _ | assumption) rfl rfl ?_
    try simp only [MD25, MD26, MD27, MD28, MD29, MD30, MD31, MD32, MD33, MD34, MD35, MD36, MDF32, MDF33, MDF34, MDF35, MDF36, MDF37, MDs_25, MDs_26, MDs_27, MDs_28, MDs_29, MDs_30, MDs_31, MDs_32, MDs_33, MDs_34, MDs_35, MDs_36, MDs_0, MDs_11, MDs_13, MDs_14, MDs_15, MDs_16, MDs_17, MDs_18, MD_21, MD_22, MD_23, MD_24, MD_25, MD_26, MD_27, MD_28, MD_29, MD_30, MD_31, MD_32, MD_33, MD_34, MD_35, MD_36, MD_37]
    refine pg_iload_n h d_Mod_point_82 rfl ?_
    refine pf_ild h ok d_Mod_point_83 (by first | rfl | exact hk | exact hk2 | exact dm12 _ | assumption) rfl (pg_ixN rfl hc (by decide)) ?_
    try simp only [MD25, MD26, MD27, MD28, MD29, MD30, MD31, MD32, MD33, MD34, MD35, MD36, MDF32, MDF33, MDF34, MDF35, MDF36, MDF37, MDs_25, MDs_26, MDs_27, MDs_28, MDs_29, MDs_30, MDs_31, MDs_32, MDs_33, MDs_34, MDs_35, MDs_36, MDs_0, MDs_11, MDs_13, MDs_14, MDs_15, MDs_16, MDs_17, MDs_18, MD_21, MD_22, MD_23, MD_24, MD_25, MD_26, MD_27, MD_28, MD_29, MD_30, MD_31, MD_32, MD_33, MD_34, MD_35, MD_36, MD_37]
    rw [p4]
    refine pg_istore h d_Mod_point_84 (Nat.le_of_ble_eq_true rfl) rfl rfl ?_
    exact mid
  refine pg_iload_n h d_Mod_point_0 rfl ?_
  refine pg_iload_n h d_Mod_point_1 rfl ?_
  refine pg_cS h d_Mod_point_2 m_Mod_isCell l_Mod_233 (c_Mod_isCell w ok _ _ _) rfl rfl (Nat.le_of_ble_eq_true rfl) ⟨(Nat.le_of_ble_eq_true rfl), (Nat.le_of_ble_eq_true rfl)⟩ ⟨Nat.le_refl _, Nat.le_refl _⟩ ?_
  try simp only [MD25, MD26, MD27, MD28, MD29, MD30, MD31, MD32, MD33, MD34, MD35, MD36, MDF32, MDF33, MDF34, MDF35, MDF36, MDF37, MDs_25, MDs_26, MDs_27, MDs_28, MDs_29, MDs_30, MDs_31, MDs_32, MDs_33, MDs_34, MDs_35, MDs_36, MDs_0, MDs_11, MDs_13, MDs_14, MDs_15, MDs_16, MDs_17, MDs_18, MD_21, MD_22, MD_23, MD_24, MD_25, MD_26, MD_27, MD_28, MD_29, MD_30, MD_31, MD_32, MD_33, MD_34, MD_35, MD_36, MD_37]
  rw [if_pos hce]
  refine pg_if_eq (tgt := 28) h d_Mod_point_5 rfl (fun e5 => absurd e5 (by decide)) (fun e5 => ?_)
  refine pg_iload_n h d_Mod_point_8 rfl ?_
  refine pg_if_lt (tgt := 28) h d_Mod_point_9 rfl (fun e9 => absurd e9 hp.1) (fun e9 => ?_)
  refine pg_iload_n h d_Mod_point_12 rfl ?_
  refine pg_iconst (v := 3) h d_Mod_point_13 (by decide) ?_
  refine pg_icmp_gt (tgt := 28) h d_Mod_point_14 rfl (fun e14 => absurd e14 hp.2.1) (fun e14 => ?_)
  refine pg_iload h d_Mod_point_17 rfl ?_
  refine pg_if_lt (tgt := 28) h d_Mod_point_19 rfl (fun e19 => absurd e19 hp.2.2.1) (fun e19 => ?_)
  refine pg_iload h d_Mod_point_22 rfl ?_
  refine pg_iconst (v := 5) h d_Mod_point_24 (by decide) ?_
  refine pg_icmp_le (tgt := 30) h d_Mod_point_25 rfl (fun e25 => ?_) (fun e25 => absurd e25 (fun q => q hp.2.2.2))
  refine pg_aload_n h d_Mod_point_30 rfl ?_
  refine pg_iload_n h d_Mod_point_31 rfl ?_
  refine pf_cV0 h ok d_Mod_point_32 m_Mod_goTo l_Mod_237 (c_Mod_goTo w ok A S z _ _ _ hw hR hwt hlt r hr) cn_Mod (by first | rfl | exact hk | exact hk2 | exact dm12 _ | assumption) rfl rfl rfl (Nat.le_of_ble_eq_true rfl) ⟨(Nat.le_of_ble_eq_true rfl), (Nat.le_of_ble_eq_true rfl)⟩ ⟨Nat.le_refl _, Nat.le_refl _⟩ ?_
  try simp only [MD25, MD26, MD27, MD28, MD29, MD30, MD31, MD32, MD33, MD34, MD35, MD36, MDF32, MDF33, MDF34, MDF35, MDF36, MDF37, MDs_25, MDs_26, MDs_27, MDs_28, MDs_29, MDs_30, MDs_31, MDs_32, MDs_33, MDs_34, MDs_35, MDs_36, MDs_0, MDs_11, MDs_13, MDs_14, MDs_15, MDs_16, MDs_17, MDs_18, MD_21, MD_22, MD_23, MD_24, MD_25, MD_26, MD_27, MD_28, MD_29, MD_30, MD_31, MD_32, MD_33, MD_34, MD_35, MD_36, MD_37]
  refine pg_aload_n h d_Mod_point_35 rfl ?_
  refine pf_get h ok d_Mod_point_36 f_Mod_67 (by first | rfl | exact hk | exact hk2 | exact dm12 _ | assumption) rfl rfl ?_
  try simp only [MD25, MD26, MD27, MD28, MD29, MD30, MD31, MD32, MD33, MD34, MD35, MD36, MDF32, MDF33, MDF34, MDF35, MDF36, MDF37, MDs_25, MDs_26, MDs_27, MDs_28, MDs_29, MDs_30, MDs_31, MDs_32, MDs_33, MDs_34, MDs_35, MDs_36, MDs_0, MDs_11, MDs_13, MDs_14, MDs_15, MDs_16, MDs_17, MDs_18, MD_21, MD_22, MD_23, MD_24, MD_25, MD_26, MD_27, MD_28, MD_29, MD_30, MD_31, MD_32, MD_33, MD_34, MD_35, MD_36, MD_37]
  refine pg_iload_n h d_Mod_point_39 rfl ?_
  refine pf_ild h ok d_Mod_point_40 (by first | rfl | exact hk | exact hk2 | exact dm12 _ | assumption) rfl (pg_ixN rfl hc (by decide)) ?_
  try simp only [MD25, MD26, MD27, MD28, MD29, MD30, MD31, MD32, MD33, MD34, MD35, MD36, MDF32, MDF33, MDF34, MDF35, MDF36, MDF37, MDs_25, MDs_26, MDs_27, MDs_28, MDs_29, MDs_30, MDs_31, MDs_32, MDs_33, MDs_34, MDs_35, MDs_36, MDs_0, MDs_11, MDs_13, MDs_14, MDs_15, MDs_16, MDs_17, MDs_18, MD_21, MD_22, MD_23, MD_24, MD_25, MD_26, MD_27, MD_28, MD_29, MD_30, MD_31, MD_32, MD_33, MD_34, MD_35, MD_36, MD_37]
  rw [p7]
  refine pg_istore h d_Mod_point_41 (Nat.le_of_ble_eq_true rfl) rfl rfl ?_
  refine pg_iload h d_Mod_point_43 rfl ?_
  refine pg_iconst (v := 4) h d_Mod_point_45 (by decide) ?_
  refine pg_iand h d_Mod_point_46 ?_
  refine pg_if_eq (tgt := 57) h d_Mod_point_47 rfl (fun e47 => ?_) (fun e47 => ?_)
  · skip
    refine pg_iload h d_Mod_point_57 rfl ?_
    refine pg_bipush (v := 8) h d_Mod_point_59 (by decide) ?_
    refine pg_iand h d_Mod_point_61 ?_
    refine pg_if_eq (tgt := 74) h d_Mod_point_62 rfl (fun e62 => ?_) (fun e62 => ?_)
    · skip
      refine pg_iload h d_Mod_point_74 rfl ?_
      first
        | (have q := mid2; rw [wV, if_neg e47] at q; exact q)
        | (have q := mid2; rw [wV, if_pos e47, if_neg e62] at q; exact q)
        | (have q := mid2; rw [wV, if_pos e47, if_pos e62] at q; exact q)
    refine pg_iconst (v := 3) h d_Mod_point_65 (by decide) ?_
    refine pg_iload h d_Mod_point_66 rfl ?_
    refine pg_iconst (v := 2) h d_Mod_point_68 (by decide) ?_
    refine pg_idiv h d_Mod_point_69 (by decide) ?_
    refine pg_iadd h d_Mod_point_70 ?_
    refine pg_goto (tgt := 76) h d_Mod_point_71 rfl ?_
    first
      | (have q := mid2; rw [wV, if_neg e47] at q; exact q)
      | (have q := mid2; rw [wV, if_pos e47, if_neg e62] at q; exact q)
      | (have q := mid2; rw [wV, if_pos e47, if_pos e62] at q; exact q)
  refine pg_iload h d_Mod_point_50 rfl ?_
  refine pg_iconst (v := 2) h d_Mod_point_52 (by decide) ?_
  refine pg_idiv h d_Mod_point_53 (by decide) ?_
  refine pg_goto (tgt := 76) h d_Mod_point_54 rfl ?_
  first
    | (have q := mid2; rw [wV, if_neg e47] at q; exact q)
    | (have q := mid2; rw [wV, if_pos e47, if_neg e62] at q; exact q)
    | (have q := mid2; rw [wV, if_pos e47, if_pos e62] at q; exact q)
