/-! The reference: pages. -/
theorem ml (c a j : Nat) : nI c * nI a + nI j = nI (c * a + j) := by rw [pk_mul, nI_add]
def pc4 (S : pf_S) (f t j : Nat) : pf_S := fun a b i => if a = 26 ∧ b = 0 ∧ 4 * t ≤ i ∧ i < 4 * t + j then S 26 0 (4 * f + (i - 4 * t)) else S a b i
def pc2 (S : pf_S) (f t j : Nat) : pf_S := fun a b i => if (a = 27 ∨ a = 28) ∧ b = 0 ∧ 160 * t ≤ i ∧ i < 160 * t + j then S a 0 (160 * f + (i - 160 * t)) else S a b i
theorem pc4_s {S : pf_S} {f t j : Nat} (hne : f ≠ t) (hj : j < 4) : pf_st (pc4 S f t j) 26 0 (4 * t + j) (pc4 S f t j 26 0 (4 * f + j)) = pc4 S f t (j + 1) := by
  have e : pc4 S f t j 26 0 (4 * f + j) = S 26 0 (4 * f + j) := by
    unfold pc4
    rw [if_neg (by omega)]
  rw [e]
  funext a b i
  rw [pf_st_at]
  by_cases c : a = 26 ∧ b = 0 ∧ i = 4 * t + j
  · obtain ⟨rfl, rfl, rfl⟩ := c
    rw [if_pos ⟨rfl, rfl, rfl⟩, pc4, if_pos (by omega)]
    congr 1
    omega
  · rw [if_neg c]
    unfold pc4
    by_cases d : a = 26 ∧ b = 0 ∧ 4 * t ≤ i ∧ i < 4 * t + j
    · rw [if_pos d, if_pos (by omega)]
    · rw [if_neg d, if_neg (by intro q; apply c; omega)]
theorem pc4_0 (S : pf_S) (f t : Nat) : pc4 S f t 0 = S := by
  funext a b i
  unfold pc4
  rw [if_neg (by omega)]
theorem pc2_0 (S : pf_S) (f t : Nat) : pc2 S f t 0 = S := by
  funext a b i
  unfold pc2
  rw [if_neg (by omega)]
theorem pc2_s {S : pf_S} {f t j : Nat} (hne : f ≠ t) (hj : j < 160) : pf_st (pf_st (pc2 S f t j) 27 0 (160 * t + j) (pc2 S f t j 27 0 (160 * f + j))) 28 0 (160 * t + j) (pf_st (pc2 S f t j) 27 0 (160 * t + j) (pc2 S f t j 27 0 (160 * f + j)) 28 0 (160 * f + j)) = pc2 S f t (j + 1) := by
  have e : pc2 S f t j 27 0 (160 * f + j) = S 27 0 (160 * f + j) := by
    unfold pc2
    rw [if_neg (by omega)]
  have e2 : pf_st (pc2 S f t j) 27 0 (160 * t + j) (S 27 0 (160 * f + j)) 28 0 (160 * f + j) = S 28 0 (160 * f + j) := by
    rw [pf_st_at, if_neg (by omega), pc2, if_neg (by omega)]
  rw [e, e2]
  funext a b i
  rw [pf_st_at, pf_st_at]
  by_cases c : a = 28 ∧ b = 0 ∧ i = 160 * t + j
  · obtain ⟨rfl, rfl, rfl⟩ := c
    rw [if_pos ⟨rfl, rfl, rfl⟩, pc2, if_pos (by omega)]
    congr 1
    omega
  · rw [if_neg c]
    by_cases c2 : a = 27 ∧ b = 0 ∧ i = 160 * t + j
    · obtain ⟨rfl, rfl, rfl⟩ := c2
      rw [if_pos ⟨rfl, rfl, rfl⟩, pc2, if_pos (by omega)]
      congr 1
      omega
    · rw [if_neg c2]
      unfold pc2
      by_cases d : (a = 27 ∨ a = 28) ∧ b = 0 ∧ 160 * t ≤ i ∧ i < 160 * t + j
      · rw [if_pos d, if_pos (by omega)]
      · rw [if_neg d, if_neg (by intro q; omega)]
/-- the reference's copy, exactly -/
def mcA (S : pf_S) (f t : Nat) : pf_S := pf_st (pf_st (pf_st (pf_st (pf_st S 21 0 t 1) 22 0 t (S 22 0 f)) 23 0 t (S 23 0 f)) 24 0 t (S 24 0 f)) 25 0 t (S 25 0 f)
def mcp (S : pf_S) (f t : Nat) : pf_S := pc2 (pc4 (mcA S f t) f t 4) f t 160

set_option maxRecDepth 100000 in
set_option maxHeartbeats 4000000 in
theorem c_Mod_copy (w : pf_W) (ok : pf_ok w) (S : pf_S) (f t : Nat) (hf : f < 13) (ht : t < 13) (hne : f ≠ t) : pf_C w y_Mod_copy b_Mod_copy 4 none 0 0 [.ref (w.2.1 20 0), .int (nI f), .int (nI t)] S (none) (mcp S f t) := by
  refine pf_enter (by decide) (Nat.le_of_ble_eq_true rfl) (lv0 := [some (.ref (w.2.1 20 0)), some (.int (nI f)), some (.int (nI t)), none]) rfl (fun κ h => ?_)
  have loop2 : ∀ (n j : Nat), j + n = 160 → pg_G κ w.1 4 0 0 (pg_Q κ w.1 (fun r' H => r' = none ∧ pf_P w (mcp S f t) H) 0 0) (pf_P w (pc2 (pc4 (mcA S f t) f t 4) f t j)) 90 [some (.ref (w.2.1 20 0)), some (.int (nI f)), some (.int (nI t)), some (.int (nI j))] [] := by
    intro n
    induction n with
    | zero =>
      intro j hj
      have hj : j = 160 := by omega
      subst hj
      refine pg_iload_n h d_Mod_copy_90 rfl ?_
      refine pg_sipush (v := 160) h d_Mod_copy_91 (by decide) ?_
      refine pg_icmp_ge (tgt := 151) h d_Mod_copy_94 rfl (fun e94 => ?_) (fun e94 => absurd e94 (fun e => e (by decide)))
      exact pf_vret h d_Mod_copy_151 rfl
    | succ n ih =>
      intro j hj
      have hj2 : j < 160 := by omega
      refine pg_iload_n h d_Mod_copy_90 rfl ?_
      refine pg_sipush (v := 160) h d_Mod_copy_91 (by decide) ?_
      refine pg_icmp_ge (tgt := 151) h d_Mod_copy_94 rfl (fun e94 => absurd e94 (nI_ge hj2 (by decide))) (fun e94 => ?_)
      refine pg_aload_n h d_Mod_copy_97 rfl ?_
      refine pf_get h ok d_Mod_copy_98 f_Mod_29 (by first | rfl | exact hk | exact hk2 | exact dm12 _ | assumption) rfl rfl ?_
      refine pg_sipush (v := 160) h d_Mod_copy_101 (by decide) ?_
      refine pg_iload_n h d_Mod_copy_104 rfl ?_
      refine pg_imul h d_Mod_copy_105 ?_
      refine pg_iload_n h d_Mod_copy_106 rfl ?_
      refine pg_iadd h d_Mod_copy_107 ?_
      refine pg_aload_n h d_Mod_copy_108 rfl ?_
      refine pf_get h ok d_Mod_copy_109 f_Mod_29 (by first | rfl | exact hk | exact hk2 | exact dm12 _ | assumption) rfl rfl ?_
      refine pg_sipush (v := 160) h d_Mod_copy_112 (by decide) ?_
      refine pg_iload_n h d_Mod_copy_115 rfl ?_
      refine pg_imul h d_Mod_copy_116 ?_
      refine pg_iload_n h d_Mod_copy_117 rfl ?_
      refine pg_iadd h d_Mod_copy_118 ?_
      refine pf_ild h ok d_Mod_copy_119 (by first | rfl | exact hk | exact hk2 | exact dm12 _ | assumption) rfl (pg_ixN (show (160 : Int32) * nI f + nI j = nI (160 * f + j) from ml 160 f j) (by omega) (by decide)) ?_
      refine pf_ist h ok d_Mod_copy_120 (by first | rfl | exact hk | exact hk2 | exact dm12 _ | assumption) (fun _ => rfl) (pg_ixN (show (160 : Int32) * nI t + nI j = nI (160 * t + j) from ml 160 t j) (by omega) (by decide)) ?_
      refine pg_aload_n h d_Mod_copy_121 rfl ?_
      refine pf_get h ok d_Mod_copy_122 f_Mod_32 (by first | rfl | exact hk | exact hk2 | exact dm12 _ | assumption) rfl rfl ?_
      refine pg_sipush (v := 160) h d_Mod_copy_125 (by decide) ?_
      refine pg_iload_n h d_Mod_copy_128 rfl ?_
      refine pg_imul h d_Mod_copy_129 ?_
      refine pg_iload_n h d_Mod_copy_130 rfl ?_
      refine pg_iadd h d_Mod_copy_131 ?_
      refine pg_aload_n h d_Mod_copy_132 rfl ?_
      refine pf_get h ok d_Mod_copy_133 f_Mod_32 (by first | rfl | exact hk | exact hk2 | exact dm12 _ | assumption) rfl rfl ?_
      refine pg_sipush (v := 160) h d_Mod_copy_136 (by decide) ?_
      refine pg_iload_n h d_Mod_copy_139 rfl ?_
      refine pg_imul h d_Mod_copy_140 ?_
      refine pg_iload_n h d_Mod_copy_141 rfl ?_
      refine pg_iadd h d_Mod_copy_142 ?_
      refine pf_ild h ok d_Mod_copy_143 (by first | rfl | exact hk | exact hk2 | exact dm12 _ | assumption) rfl (pg_ixN (show (160 : Int32) * nI f + nI j = nI (160 * f + j) from ml 160 f j) (by omega) (by decide)) ?_
      refine pf_ist h ok d_Mod_copy_144 (by first | rfl | exact hk | exact hk2 | exact dm12 _ | assumption) (fun _ => rfl) (pg_ixN (show (160 : Int32) * nI t + nI j = nI (160 * t + j) from ml 160 t j) (by omega) (by decide)) ?_
      refine pg_iinc (w := 1) h d_Mod_copy_145 rfl (by decide) (Nat.le_of_ble_eq_true rfl) rfl rfl ?_
      refine pg_goto (tgt := 90) h d_Mod_copy_148 rfl ?_
      rw [← nI_succ j, pc2_s hne hj2]
      exact ih (j + 1) (by omega)
  have loop1 : ∀ (n j : Nat), j + n = 4 → pg_G κ w.1 4 0 0 (pg_Q κ w.1 (fun r' H => r' = none ∧ pf_P w (mcp S f t) H) 0 0) (pf_P w (pc4 (mcA S f t) f t j)) 57 [some (.ref (w.2.1 20 0)), some (.int (nI f)), some (.int (nI t)), some (.int (nI j))] [] := by
    intro n
    induction n with
    | zero =>
      intro j hj
      have hj : j = 4 := by omega
      subst hj
      refine pg_iload_n h d_Mod_copy_57 rfl ?_
      refine pg_iconst (v := 4) h d_Mod_copy_58 (by decide) ?_
      refine pg_icmp_ge (tgt := 88) h d_Mod_copy_59 rfl (fun e59 => ?_) (fun e59 => absurd e59 (fun e => e (by decide)))
      refine pg_iconst (v := 0) h d_Mod_copy_88 (by decide) ?_
      refine pg_istore_n h d_Mod_copy_89 (Nat.le_of_ble_eq_true rfl) rfl rfl ?_
      have q := loop2 160 0 (by omega)
      rw [pc2_0] at q
      exact q
    | succ n ih =>
      intro j hj
      have hj2 : j < 4 := by omega
      refine pg_iload_n h d_Mod_copy_57 rfl ?_
      refine pg_iconst (v := 4) h d_Mod_copy_58 (by decide) ?_
      refine pg_icmp_ge (tgt := 88) h d_Mod_copy_59 rfl (fun e59 => absurd e59 (nI_ge hj2 (by decide))) (fun e59 => ?_)
      refine pg_aload_n h d_Mod_copy_62 rfl ?_
      refine pf_get h ok d_Mod_copy_63 f_Mod_26 (by first | rfl | exact hk | exact hk2 | exact dm12 _ | assumption) rfl rfl ?_
      refine pg_iconst (v := 4) h d_Mod_copy_66 (by decide) ?_
      refine pg_iload_n h d_Mod_copy_67 rfl ?_
      refine pg_imul h d_Mod_copy_68 ?_
      refine pg_iload_n h d_Mod_copy_69 rfl ?_
      refine pg_iadd h d_Mod_copy_70 ?_
      refine pg_aload_n h d_Mod_copy_71 rfl ?_
      refine pf_get h ok d_Mod_copy_72 f_Mod_26 (by first | rfl | exact hk | exact hk2 | exact dm12 _ | assumption) rfl rfl ?_
      refine pg_iconst (v := 4) h d_Mod_copy_75 (by decide) ?_
      refine pg_iload_n h d_Mod_copy_76 rfl ?_
      refine pg_imul h d_Mod_copy_77 ?_
      refine pg_iload_n h d_Mod_copy_78 rfl ?_
      refine pg_iadd h d_Mod_copy_79 ?_
      refine pf_ild h ok d_Mod_copy_80 (by first | rfl | exact hk | exact hk2 | exact dm12 _ | assumption) rfl (pg_ixN (show (4 : Int32) * nI f + nI j = nI (4 * f + j) from ml 4 f j) (by omega) (by decide)) ?_
      refine pf_ist h ok d_Mod_copy_81 (by first | rfl | exact hk | exact hk2 | exact dm12 _ | assumption) (fun _ => rfl) (pg_ixN (show (4 : Int32) * nI t + nI j = nI (4 * t + j) from ml 4 t j) (by omega) (by decide)) ?_
      refine pg_iinc (w := 1) h d_Mod_copy_82 rfl (by decide) (Nat.le_of_ble_eq_true rfl) rfl rfl ?_
      refine pg_goto (tgt := 57) h d_Mod_copy_85 rfl ?_
      rw [← nI_succ j, pc4_s hne hj2]
      exact ih (j + 1) (by omega)
  refine pg_aload_n h d_Mod_copy_0 rfl ?_
  refine pf_get h ok d_Mod_copy_1 f_Mod_7 (by first | rfl | exact hk | exact hk2 | exact dm12 _ | assumption) rfl rfl ?_
  refine pg_iload_n h d_Mod_copy_4 rfl ?_
  refine pg_iconst (v := 1) h d_Mod_copy_5 (by decide) ?_
  refine pf_zst 1 h ok d_Mod_copy_6 (by first | rfl | exact hk | exact hk2 | exact dm12 _ | assumption) (fun _ => rfl) (pg_ixN rfl ht (by decide)) ?_
  refine pg_aload_n h d_Mod_copy_7 rfl ?_
  refine pf_get h ok d_Mod_copy_8 f_Mod_13 (by first | rfl | exact hk | exact hk2 | exact dm12 _ | assumption) rfl rfl ?_
  refine pg_iload_n h d_Mod_copy_11 rfl ?_
  refine pg_aload_n h d_Mod_copy_12 rfl ?_
  refine pf_get h ok d_Mod_copy_13 f_Mod_13 (by first | rfl | exact hk | exact hk2 | exact dm12 _ | assumption) rfl rfl ?_
  refine pg_iload_n h d_Mod_copy_16 rfl ?_
  refine pf_ild h ok d_Mod_copy_17 (by first | rfl | exact hk | exact hk2 | exact dm12 _ | assumption) rfl (pg_ixN rfl hf (by decide)) ?_
  refine pf_ist h ok d_Mod_copy_18 (by first | rfl | exact hk | exact hk2 | exact dm12 _ | assumption) (fun _ => rfl) (pg_ixN rfl ht (by decide)) ?_
  refine pg_aload_n h d_Mod_copy_19 rfl ?_
  refine pf_get h ok d_Mod_copy_20 f_Mod_17 (by first | rfl | exact hk | exact hk2 | exact dm12 _ | assumption) rfl rfl ?_
  refine pg_iload_n h d_Mod_copy_23 rfl ?_
  refine pg_aload_n h d_Mod_copy_24 rfl ?_
  refine pf_get h ok d_Mod_copy_25 f_Mod_17 (by first | rfl | exact hk | exact hk2 | exact dm12 _ | assumption) rfl rfl ?_
  refine pg_iload_n h d_Mod_copy_28 rfl ?_
  refine pf_ild h ok d_Mod_copy_29 (by first | rfl | exact hk | exact hk2 | exact dm12 _ | assumption) rfl (pg_ixN rfl hf (by decide)) ?_
  refine pf_ist h ok d_Mod_copy_30 (by first | rfl | exact hk | exact hk2 | exact dm12 _ | assumption) (fun _ => rfl) (pg_ixN rfl ht (by decide)) ?_
  refine pg_aload_n h d_Mod_copy_31 rfl ?_
  refine pf_get h ok d_Mod_copy_32 f_Mod_20 (by first | rfl | exact hk | exact hk2 | exact dm12 _ | assumption) rfl rfl ?_
  refine pg_iload_n h d_Mod_copy_35 rfl ?_
  refine pg_aload_n h d_Mod_copy_36 rfl ?_
  refine pf_get h ok d_Mod_copy_37 f_Mod_20 (by first | rfl | exact hk | exact hk2 | exact dm12 _ | assumption) rfl rfl ?_
  refine pg_iload_n h d_Mod_copy_40 rfl ?_
  refine pf_ild h ok d_Mod_copy_41 (by first | rfl | exact hk | exact hk2 | exact dm12 _ | assumption) rfl (pg_ixN rfl hf (by decide)) ?_
  refine pf_ist h ok d_Mod_copy_42 (by first | rfl | exact hk | exact hk2 | exact dm12 _ | assumption) (fun _ => rfl) (pg_ixN rfl ht (by decide)) ?_
  refine pg_aload_n h d_Mod_copy_43 rfl ?_
  refine pf_get h ok d_Mod_copy_44 f_Mod_23 (by first | rfl | exact hk | exact hk2 | exact dm12 _ | assumption) rfl rfl ?_
  refine pg_iload_n h d_Mod_copy_47 rfl ?_
  refine pg_aload_n h d_Mod_copy_48 rfl ?_
  refine pf_get h ok d_Mod_copy_49 f_Mod_23 (by first | rfl | exact hk | exact hk2 | exact dm12 _ | assumption) rfl rfl ?_
  refine pg_iload_n h d_Mod_copy_52 rfl ?_
  refine pf_ild h ok d_Mod_copy_53 (by first | rfl | exact hk | exact hk2 | exact dm12 _ | assumption) rfl (pg_ixN rfl hf (by decide)) ?_
  refine pf_ist h ok d_Mod_copy_54 (by first | rfl | exact hk | exact hk2 | exact dm12 _ | assumption) (fun _ => rfl) (pg_ixN rfl ht (by decide)) ?_
  refine pg_iconst (v := 0) h d_Mod_copy_55 (by decide) ?_
  refine pg_istore_n h d_Mod_copy_56 (Nat.le_of_ble_eq_true rfl) rfl rfl ?_
  have q := loop1 4 0 (by omega)
  rw [pc4_0] at q
  exact q

def bl4 (S : pf_S) (t j : Nat) : pf_S := fun a b i => if a = 26 ∧ b = 0 ∧ 4 * t ≤ i ∧ i < 4 * t + j then -1 else S a b i
def bl2 (S : pf_S) (t j : Nat) : pf_S := fun a b i => if (a = 27 ∨ a = 28) ∧ b = 0 ∧ 160 * t ≤ i ∧ i < 160 * t + j then (if a = 27 then 32 else 0) else S a b i
theorem bl4_s {S : pf_S} {t j : Nat} : pf_st (bl4 S t j) 26 0 (4 * t + j) (-1) = bl4 S t (j + 1) := by
  funext a b i
  rw [pf_st_at]
  by_cases c : a = 26 ∧ b = 0 ∧ i = 4 * t + j
  · obtain ⟨rfl, rfl, rfl⟩ := c
    rw [if_pos ⟨rfl, rfl, rfl⟩, bl4, if_pos (by omega)]
  · rw [if_neg c]
    unfold bl4
    by_cases d : a = 26 ∧ b = 0 ∧ 4 * t ≤ i ∧ i < 4 * t + j
    · rw [if_pos d, if_pos (by omega)]
    · rw [if_neg d, if_neg (by intro q; apply c; omega)]
theorem bl4_0 (S : pf_S) (t : Nat) : bl4 S t 0 = S := by
  funext a b i
  unfold bl4
  rw [if_neg (by omega)]
theorem bl2_0 (S : pf_S) (t : Nat) : bl2 S t 0 = S := by
  funext a b i
  unfold bl2
  rw [if_neg (by omega)]
theorem bl2_s {S : pf_S} {t j : Nat} : pf_st (pf_st (bl2 S t j) 27 0 (160 * t + j) 32) 28 0 (160 * t + j) 0 = bl2 S t (j + 1) := by
  funext a b i
  rw [pf_st_at, pf_st_at]
  by_cases c : a = 28 ∧ b = 0 ∧ i = 160 * t + j
  · obtain ⟨rfl, rfl, rfl⟩ := c
    rw [if_pos ⟨rfl, rfl, rfl⟩, bl2, if_pos (by omega), if_neg (by decide)]
  · rw [if_neg c]
    by_cases c2 : a = 27 ∧ b = 0 ∧ i = 160 * t + j
    · obtain ⟨rfl, rfl, rfl⟩ := c2
      rw [if_pos ⟨rfl, rfl, rfl⟩, bl2, if_pos (by omega), if_pos rfl]
    · rw [if_neg c2]
      unfold bl2
      by_cases d : (a = 27 ∨ a = 28) ∧ b = 0 ∧ 160 * t ≤ i ∧ i < 160 * t + j
      · rw [if_pos d, if_pos (show (a = 27 ∨ a = 28) ∧ b = 0 ∧ 160 * t ≤ i ∧ i < 160 * t + (j + 1) by omega)]
      · rw [if_neg d, if_neg (by intro q; omega)]

set_option maxRecDepth 100000 in
set_option maxHeartbeats 4000000 in
theorem c_Mod_blank (w : pf_W) (ok : pf_ok w) (S : pf_S) (t : Nat) (ht : t < 13) : pf_C w y_Mod_blank b_Mod_blank 3 none 0 0 [.ref (w.2.1 20 0), .int (nI t)] S (none) (bl2 (bl4 S t 4) t 160) := by
  refine pf_enter (by decide) (Nat.le_of_ble_eq_true rfl) (lv0 := [some (.ref (w.2.1 20 0)), some (.int (nI t)), none]) rfl (fun κ h => ?_)
  have loop2 : ∀ (n j : Nat), j + n = 160 → pg_G κ w.1 3 0 0 (pg_Q κ w.1 (fun r' H => r' = none ∧ pf_P w (bl2 (bl4 S t 4) t 160) H) 0 0) (pf_P w (bl2 (bl4 S t 4) t j)) 26 [some (.ref (w.2.1 20 0)), some (.int (nI t)), some (.int (nI j))] [] := by
    intro n
    induction n with
    | zero =>
      intro j hj
      have hj : j = 160 := by omega
      subst hj
      refine pg_iload_n h d_Mod_blank_26 rfl ?_
      refine pg_sipush (v := 160) h d_Mod_blank_27 (by decide) ?_
      refine pg_icmp_ge (tgt := 66) h d_Mod_blank_30 rfl (fun e30 => ?_) (fun e30 => absurd e30 (fun e => e (by decide)))
      exact pf_vret h d_Mod_blank_66 rfl
    | succ n ih =>
      intro j hj
      have hj2 : j < 160 := by omega
      refine pg_iload_n h d_Mod_blank_26 rfl ?_
      refine pg_sipush (v := 160) h d_Mod_blank_27 (by decide) ?_
      refine pg_icmp_ge (tgt := 66) h d_Mod_blank_30 rfl (fun e30 => absurd e30 (nI_ge hj2 (by decide))) (fun e30 => ?_)
      refine pg_aload_n h d_Mod_blank_33 rfl ?_
      refine pf_get h ok d_Mod_blank_34 f_Mod_29 (by first | rfl | exact hk | exact hk2 | exact dm12 _ | assumption) rfl rfl ?_
      refine pg_sipush (v := 160) h d_Mod_blank_37 (by decide) ?_
      refine pg_iload_n h d_Mod_blank_40 rfl ?_
      refine pg_imul h d_Mod_blank_41 ?_
      refine pg_iload_n h d_Mod_blank_42 rfl ?_
      refine pg_iadd h d_Mod_blank_43 ?_
      refine pg_bipush (v := 32) h d_Mod_blank_44 (by decide) ?_
      refine pf_ist h ok d_Mod_blank_46 (by first | rfl | exact hk | exact hk2 | exact dm12 _ | assumption) (fun _ => rfl) (pg_ixN (show (160 : Int32) * nI t + nI j = nI (160 * t + j) from ml 160 t j) (by omega) (by decide)) ?_
      refine pg_aload_n h d_Mod_blank_47 rfl ?_
      refine pf_get h ok d_Mod_blank_48 f_Mod_32 (by first | rfl | exact hk | exact hk2 | exact dm12 _ | assumption) rfl rfl ?_
      refine pg_sipush (v := 160) h d_Mod_blank_51 (by decide) ?_
      refine pg_iload_n h d_Mod_blank_54 rfl ?_
      refine pg_imul h d_Mod_blank_55 ?_
      refine pg_iload_n h d_Mod_blank_56 rfl ?_
      refine pg_iadd h d_Mod_blank_57 ?_
      refine pg_iconst (v := 0) h d_Mod_blank_58 (by decide) ?_
      refine pf_ist h ok d_Mod_blank_59 (by first | rfl | exact hk | exact hk2 | exact dm12 _ | assumption) (fun _ => rfl) (pg_ixN (show (160 : Int32) * nI t + nI j = nI (160 * t + j) from ml 160 t j) (by omega) (by decide)) ?_
      refine pg_iinc (w := 1) h d_Mod_blank_60 rfl (by decide) (Nat.le_of_ble_eq_true rfl) rfl rfl ?_
      refine pg_goto (tgt := 26) h d_Mod_blank_63 rfl ?_
      rw [← nI_succ j, bl2_s]
      exact ih (j + 1) (by omega)
  have loop1 : ∀ (n j : Nat), j + n = 4 → pg_G κ w.1 3 0 0 (pg_Q κ w.1 (fun r' H => r' = none ∧ pf_P w (bl2 (bl4 S t 4) t 160) H) 0 0) (pf_P w (bl4 S t j)) 2 [some (.ref (w.2.1 20 0)), some (.int (nI t)), some (.int (nI j))] [] := by
    intro n
    induction n with
    | zero =>
      intro j hj
      have hj : j = 4 := by omega
      subst hj
      refine pg_iload_n h d_Mod_blank_2 rfl ?_
      refine pg_iconst (v := 4) h d_Mod_blank_3 (by decide) ?_
      refine pg_icmp_ge (tgt := 24) h d_Mod_blank_4 rfl (fun e4 => ?_) (fun e4 => absurd e4 (fun e => e (by decide)))
      refine pg_iconst (v := 0) h d_Mod_blank_24 (by decide) ?_
      refine pg_istore_n h d_Mod_blank_25 (Nat.le_of_ble_eq_true rfl) rfl rfl ?_
      have q := loop2 160 0 (by omega)
      rw [bl2_0] at q
      exact q
    | succ n ih =>
      intro j hj
      have hj2 : j < 4 := by omega
      refine pg_iload_n h d_Mod_blank_2 rfl ?_
      refine pg_iconst (v := 4) h d_Mod_blank_3 (by decide) ?_
      refine pg_icmp_ge (tgt := 24) h d_Mod_blank_4 rfl (fun e4 => absurd e4 (nI_ge hj2 (by decide))) (fun e4 => ?_)
      refine pg_aload_n h d_Mod_blank_7 rfl ?_
      refine pf_get h ok d_Mod_blank_8 f_Mod_26 (by first | rfl | exact hk | exact hk2 | exact dm12 _ | assumption) rfl rfl ?_
      refine pg_iconst (v := 4) h d_Mod_blank_11 (by decide) ?_
      refine pg_iload_n h d_Mod_blank_12 rfl ?_
      refine pg_imul h d_Mod_blank_13 ?_
      refine pg_iload_n h d_Mod_blank_14 rfl ?_
      refine pg_iadd h d_Mod_blank_15 ?_
      refine pg_iconst (v := (-1)) h d_Mod_blank_16 (by decide) ?_
      refine pf_ist h ok d_Mod_blank_17 (by first | rfl | exact hk | exact hk2 | exact dm12 _ | assumption) (fun _ => rfl) (pg_ixN (show (4 : Int32) * nI t + nI j = nI (4 * t + j) from ml 4 t j) (by omega) (by decide)) ?_
      refine pg_iinc (w := 1) h d_Mod_blank_18 rfl (by decide) (Nat.le_of_ble_eq_true rfl) rfl rfl ?_
      refine pg_goto (tgt := 2) h d_Mod_blank_21 rfl ?_
      rw [← nI_succ j, bl4_s]
      exact ih (j + 1) (by omega)
  refine pg_iconst (v := 0) h d_Mod_blank_0 (by decide) ?_
  refine pg_istore_n h d_Mod_blank_1 (Nat.le_of_ble_eq_true rfl) rfl rfl ?_
  have q := loop1 4 0 (by omega)
  rw [bl4_0] at q
  exact q

def kpV (o : Option Nat) : Int32 := match o with
  | none => -1
  | some k => nI k

set_option maxRecDepth 100000 in
set_option maxHeartbeats 4000000 in
theorem c_Mod_keptAt (w : pf_W) (ok : pf_ok w) (A S0 : pf_S) (z : Int32) (hw : 1 ≤ w.2.2.1 ∧ w.2.2.1 ≤ 4) (num : Int32) : pm_C w y_Mod_keptAt b_Mod_keptAt 3 (some .int) 0 0 [.ref (w.2.1 20 0), .int num] z (A) S0 (some (.int (kpV (fndF A w.2.2.1 num)))) z (A) := by
  refine pm_enter (by decide) (Nat.le_of_ble_eq_true rfl) (lv0 := [some (.ref (w.2.1 20 0)), some (.int num), none]) rfl (fun κ S h hR hg => ?_)
  have loop : ∀ (n j : Nat), j + n = w.2.2.1 → fndFrom A num n j = fndF A w.2.2.1 num → pg_G κ w.1 3 0 0 (pm_Q κ w (some (.int (kpV (fndF A w.2.2.1 num)))) z (A) S0) (pf_P w (S)) 3 [some (.ref (w.2.1 20 0)), some (.int num), some (.int (nI (8 + j)))] [] := by
    intro n
    induction n with
    | zero =>
      intro j hj hI
      have hj : j = w.2.2.1 := by omega
      subst hj
      refine pg_iload_n h d_Mod_keptAt_3 rfl ?_
      refine pg_bipush (v := 8) h d_Mod_keptAt_4 (by decide) ?_
      refine pg_aload_n h d_Mod_keptAt_6 rfl ?_
      refine pf_get h ok d_Mod_keptAt_7 f_Mod_70 (by first | rfl | exact hk | exact hk2 | exact dm12 _ | assumption) rfl rfl ?_
      rw [hR.1.1]
      refine pg_iadd h d_Mod_keptAt_10 ?_
      rw [show (8 : Int32) + nI w.2.2.1 = nI (8 + w.2.2.1) from nI_add 8 w.2.2.1]
      refine pg_icmp_ge (tgt := 41) h d_Mod_keptAt_11 rfl (fun e11 => ?_) (fun e11 => absurd e11 (fun e => e (Int32.le_refl _)))
      refine pg_iconst (v := (-1)) h d_Mod_keptAt_41 (by decide) ?_
      exact pm_iret h d_Mod_keptAt_42 rfl (by rw [← hI]; rfl) (hR) (hg)
    | succ n ih =>
      intro j hj hI
      have hj2 : j < w.2.2.1 := by omega
      have hp := hR.2.2.2.2.2 (8 + j) (Or.inl (by omega))
      rw [fndFrom] at hI
      refine pg_iload_n h d_Mod_keptAt_3 rfl ?_
      refine pg_bipush (v := 8) h d_Mod_keptAt_4 (by decide) ?_
      refine pg_aload_n h d_Mod_keptAt_6 rfl ?_
      refine pf_get h ok d_Mod_keptAt_7 f_Mod_70 (by first | rfl | exact hk | exact hk2 | exact dm12 _ | assumption) rfl rfl ?_
      rw [hR.1.1]
      refine pg_iadd h d_Mod_keptAt_10 ?_
      rw [show (8 : Int32) + nI w.2.2.1 = nI (8 + w.2.2.1) from nI_add 8 w.2.2.1]
      refine pg_icmp_ge (tgt := 41) h d_Mod_keptAt_11 rfl (fun e11 => absurd e11 (nI_ge (show 8 + j < 8 + w.2.2.1 by omega) (by omega))) (fun e11 => ?_)
      refine pg_aload_n h d_Mod_keptAt_14 rfl ?_
      refine pf_get h ok d_Mod_keptAt_15 f_Mod_7 (by first | rfl | exact hk | exact hk2 | exact dm12 _ | assumption) rfl rfl ?_
      refine pg_iload_n h d_Mod_keptAt_18 rfl ?_
      refine pf_zld h ok d_Mod_keptAt_19 (by first | rfl | exact hk | exact hk2 | exact dm12 _ | assumption) rfl (pg_ixN rfl (show 8 + j < 13 by omega) (by decide)) ?_
      rw [hp.1]
      refine pg_if_eq (tgt := 35) h d_Mod_keptAt_20 rfl (fun e20 => ?_) (fun e20 => ?_)
      · skip
        refine pg_iinc (w := 1) h d_Mod_keptAt_35 rfl (by decide) (Nat.le_of_ble_eq_true rfl) rfl rfl ?_
        refine pg_goto (tgt := 3) h d_Mod_keptAt_38 rfl ?_
        rw [← nI_succ (8 + j)]
        first | exact ih (j + 1) (by omega) (by rw [if_pos e20] at hI; exact hI) | exact ih (j + 1) (by omega) (by rw [if_neg e20, if_pos e30] at hI; exact hI)
      refine pg_aload_n h d_Mod_keptAt_23 rfl ?_
      refine pf_get h ok d_Mod_keptAt_24 f_Mod_13 (by first | rfl | exact hk | exact hk2 | exact dm12 _ | assumption) rfl rfl ?_
      refine pg_iload_n h d_Mod_keptAt_27 rfl ?_
      refine pf_ild h ok d_Mod_keptAt_28 (by first | rfl | exact hk | exact hk2 | exact dm12 _ | assumption) rfl (pg_ixN rfl (show 8 + j < 13 by omega) (by decide)) ?_
      rw [hp.2.1]
      refine pg_iload_n h d_Mod_keptAt_29 rfl ?_
      refine pg_icmp_ne (tgt := 35) h d_Mod_keptAt_30 rfl (fun e30 => ?_) (fun e30 => ?_)
      · skip
        refine pg_iinc (w := 1) h d_Mod_keptAt_35 rfl (by decide) (Nat.le_of_ble_eq_true rfl) rfl rfl ?_
        refine pg_goto (tgt := 3) h d_Mod_keptAt_38 rfl ?_
        rw [← nI_succ (8 + j)]
        first | exact ih (j + 1) (by omega) (by rw [if_pos e20] at hI; exact hI) | exact ih (j + 1) (by omega) (by rw [if_neg e20, if_pos e30] at hI; exact hI)
      refine pg_iload_n h d_Mod_keptAt_33 rfl ?_
      exact pm_iret h d_Mod_keptAt_34 rfl (by rw [if_neg e20, if_neg (fun q => q e30)] at hI; rw [← hI]; rfl) (hR) (hg)
  refine pg_bipush (v := 8) h d_Mod_keptAt_0 (by decide) ?_
  refine pg_istore_n h d_Mod_keptAt_2 (Nat.le_of_ble_eq_true rfl) rfl rfl ?_
  exact loop w.2.2.1 0 (by omega) rfl
