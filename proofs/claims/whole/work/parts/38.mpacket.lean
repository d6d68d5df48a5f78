/-! The reference: takePacket. -/
theorem dm_all : ∀ d, d < 16 → nI d - nI d / 8 * 8 = nI (d % 8) ∧ nI d / 8 = nI (d / 8) := by decide
theorem nibT_keep (S : pf_S) (b : Int32) {a : Nat} (ha : ¬ a = 1) : nibT S b a = S a := by
  unfold nibT
  cases nibD b with
  | none => funext x y; first | rfl | (show pf_st S 1 0 _ _ a x y = _; rw [pf_st_at, if_neg (by omega)])
  | some d => funext x y; first | rfl | (show pf_st S 1 0 _ _ a x y = _; rw [pf_st_at, if_neg (by omega)]) | (simp only []; split <;> first | rfl | (rw [pf_st_at, if_neg (by omega)]))
theorem tp0_keep (S : pf_S) {a : Nat} (ha : ¬ a = 1) : tp0 S a = S a := by
  funext x y
  rw [tp0, pf_st_at, if_neg (by omega)]
theorem tp2_keep (S : pf_S) {a : Nat} (ha : ¬ a = 1) : tp2 S a = S a := by
  rw [tp2, nibT_keep _ _ ha, tp1, nibT_keep _ _ ha, tp0_keep _ ha]
theorem st_self (S : pf_S) (a b c : Nat) : pf_st S a b c (S a b c) = S := by
  funext x y v
  rw [pf_st_at]
  split
  · rename_i q
    rw [q.1, q.2.1, q.2.2]
  · rfl
theorem tlS_3 (k r c : Nat) (S : pf_S) : tlS k r c S 3 = S 3 := by
  unfold tlS
  split
  · exact letT_3 _ _
  · funext x y; rw [pf_st_at, if_neg (by omega), letT_3]
theorem tlF_3 (k r : Nat) (S : pf_S) : ∀ c, tlF k r S c 3 = S 3 := by
  intro c
  induction c with
  | zero => rfl
  | succ c ih => rw [tlF, tlS_3, ih]

set_option maxRecDepth 100000 in
set_option maxHeartbeats 4000000 in
theorem mtp_rest (w : pf_W) (ok : pf_ok w) (T S0 : pf_S) (z : Int32) (κ : pg_K) (h : pg_X κ w.1 y_Mod_takePacket b_Mod_takePacket 7 none ⟨4, 0, 0, 103⟩) (hw : 1 ≤ w.2.2.1 ∧ w.2.2.1 ≤ 4) (HP : TPall) (HT : TDok) (hu : Uq T w.2.2.1) (hb : ByI T) (m r : Nat) (hm : m < 8) (hr : r < 32) (a1 a2 : Int32) (S : pf_S) (hR : Rm w.2.2.1 z T S) (hg : pm_g S0 S) : pg_G κ w.1 7 0 0 (pm_Q κ w none z ((if r = 0 then thdF T w.2.2.1 m else if nb (T 14 m 0) = 0 then T else twF m (nI m) T r)) S0) (pf_P w (S)) 64 [some (.ref (w.2.1 20 0)), some (.int a1), some (.int a2), some (.int (nI m)), some (.int (nI r)), none, none] [] := by
  have er0 : (nI r = 0) = (r = 0) := propext (show nI r = nI 0 ↔ _ from nI_eq (by omega) (by decide))
  have l8 : ((8 : Int32) ≤ nI r) = (8 ≤ r) := q_ge (by omega) (n := 8) (by decide) rfl
  have e26 : (nI r = 26) = (r = 26) := propext (show nI r = nI 26 ↔ _ from nI_eq (by omega) (by decide))
  have e27 : (nI r = 27) = (r = 27) := propext (show nI r = nI 27 ↔ _ from nI_eq (by omega) (by decide))
  have hth : nb (S 21 0 m) = nb (T 14 m 0) := (hR.2.2.2.2.2 m (Or.inl (by omega))).1
  by_cases h0 : r = 0
  · rw [if_pos h0]
    refine pg_iload h d_Mod_takePacket_64 rfl ?_
    refine pg_if_ne (tgt := 77) h d_Mod_takePacket_66 rfl (fun e66 => absurd e66 (fun q => q (by rw [er0]; exact h0))) (fun e66 => ?_)
    refine pg_aload_n h d_Mod_takePacket_69 rfl ?_
    refine pg_iload_n h d_Mod_takePacket_70 rfl ?_
    refine pm_cV0 h ok (hR) (hg) d_Mod_takePacket_71 m_Mod_takeHeader l_Mod_96 (c_Mod_takeHeader w ok T S0 z hw hu hb m hm) rfl rfl rfl (Nat.le_of_ble_eq_true rfl) ⟨(Nat.le_of_ble_eq_true rfl), (Nat.le_of_ble_eq_true rfl)⟩ ⟨Nat.le_refl _, Nat.le_refl _⟩ (fun S71 hR71 hg71 => ?_)
    refine pg_goto (tgt := 220) h d_Mod_takePacket_74 rfl ?_
    exact pm_vret h d_Mod_takePacket_220 (hR71) (hg71)
  rw [if_neg h0]
  by_cases ht : nb (T 14 m 0) = 0
  · rw [if_pos ht]
    refine pg_iload h d_Mod_takePacket_64 rfl ?_
    refine pg_if_ne (tgt := 77) h d_Mod_takePacket_66 rfl (fun e66 => ?_) (fun e66 => absurd e66 (by rw [er0]; exact h0))
    refine pg_aload_n h d_Mod_takePacket_77 rfl ?_
    refine pf_get h ok d_Mod_takePacket_78 f_Mod_7 (by first | rfl | exact hk | exact hk2 | exact dm12 _ | assumption) rfl rfl ?_
    refine pg_iload_n h d_Mod_takePacket_81 rfl ?_
    refine pf_zld h ok d_Mod_takePacket_82 (by first | rfl | exact hk | exact hk2 | exact dm12 _ | assumption) rfl (pg_ixN rfl (show m < 13 by omega) (by decide)) ?_
    rw [hth]
    refine pg_if_eq (tgt := 175) h d_Mod_takePacket_83 rfl (fun e83 => ?_) (fun e83 => absurd e83 (fun q => q ht))
    refine pg_aload_n h d_Mod_takePacket_175 rfl ?_
    refine pf_get h ok d_Mod_takePacket_176 f_Mod_7 (by first | rfl | exact hk | exact hk2 | exact dm12 _ | assumption) rfl rfl ?_
    refine pg_iload_n h d_Mod_takePacket_179 rfl ?_
    refine pf_zld h ok d_Mod_takePacket_180 (by first | rfl | exact hk | exact hk2 | exact dm12 _ | assumption) rfl (pg_ixN rfl (show m < 13 by omega) (by decide)) ?_
    rw [hth]
    refine pg_if_eq (tgt := 199) h d_Mod_takePacket_181 rfl (fun e181 => ?_) (fun e181 => absurd e181 (fun q => q ht))
    refine pg_aload_n h d_Mod_takePacket_199 rfl ?_
    refine pf_get h ok d_Mod_takePacket_200 f_Mod_7 (by first | rfl | exact hk | exact hk2 | exact dm12 _ | assumption) rfl rfl ?_
    refine pg_iload_n h d_Mod_takePacket_203 rfl ?_
    refine pf_zld h ok d_Mod_takePacket_204 (by first | rfl | exact hk | exact hk2 | exact dm12 _ | assumption) rfl (pg_ixN rfl (show m < 13 by omega) (by decide)) ?_
    rw [hth]
    refine pg_if_eq (tgt := 220) h d_Mod_takePacket_205 rfl (fun e205 => ?_) (fun e205 => absurd e205 (fun q => q ht))
    exact pm_vret h d_Mod_takePacket_220 (hR) (hg)
  rw [if_neg ht]
  by_cases h8 : r < 8
  · have e8 : twF m (nI m) T r = tlF m r T 20 := by rw [twF, if_pos h8]
    rw [e8]
    have loop : ∀ (n c : Nat) (X : Option Value) (S : pf_S), c + n = 20 → Rm w.2.2.1 z (tlF m r T c) S → pm_g S0 S → pg_G κ w.1 7 0 0 (pm_Q κ w none z (tlF m r T 20) S0) (pf_P w (S)) 96 [some (.ref (w.2.1 20 0)), some (.int a1), some (.int a2), some (.int (nI m)), some (.int (nI r)), some (.int (nI c)), X] [] := by
      clear hth hR hg S
      intro n
      induction n with
      | zero =>
        intro c X S hc hR hg
        have hc : c = 20 := by omega
        subst hc
        refine pg_iload h d_Mod_takePacket_96 rfl ?_
        refine pg_bipush (v := 20) h d_Mod_takePacket_98 (by decide) ?_
        refine pg_icmp_ge (tgt := 172) h d_Mod_takePacket_100 rfl (fun e100 => ?_) (fun e100 => absurd e100 (fun e => e (by decide)))
        refine pg_goto (tgt := 220) h d_Mod_takePacket_172 rfl ?_
        exact pm_vret h d_Mod_takePacket_220 (hR) (hg)
      | succ n ih =>
        intro c X S hc hR hg
        have hc2 : c < 20 := by omega
        obtain ⟨b, hb2, eb⟩ := hb (2 + c) (by omega)
        have hx : tlF m r T c 3 0 (2 + c) = nI b := by rw [tlF_3, eb]
        have q0 : S 30 0 (2 + c) = nI b := by rw [hR.2.2.1 _ (by omega), hx]
        have eT : tlF m r T (c + 1) = tlS m r c (tlF m r T c) := rfl
        rw [tlS, hx] at eT
        generalize hAc : tlF m r T c = Ac at *
        by_cases hl : letV (nI b) = -1
        · have hl0 : ¬ 0 ≤ letV (nI b) := Int32.not_le.mpr ((letV_neg hb2).mpr hl)
          rw [if_pos hl] at eT
          refine pg_iload h d_Mod_takePacket_96 rfl ?_
          refine pg_bipush (v := 20) h d_Mod_takePacket_98 (by decide) ?_
          refine pg_icmp_ge (tgt := 172) h d_Mod_takePacket_100 rfl (fun e100 => absurd e100 (nI_ge hc2 (by decide))) (fun e100 => ?_)
          refine pg_aload_n h d_Mod_takePacket_103 rfl ?_
          refine pg_aload_n h d_Mod_takePacket_104 rfl ?_
          refine pf_get h ok d_Mod_takePacket_105 f_Mod_38 (by first | rfl | exact hk | exact hk2 | exact dm12 _ | assumption) rfl rfl ?_
          refine pg_iconst (v := 2) h d_Mod_takePacket_108 (by decide) ?_
          refine pg_iload h d_Mod_takePacket_109 rfl ?_
          refine pg_iadd h d_Mod_takePacket_111 ?_
          refine pf_ild h ok d_Mod_takePacket_112 (by first | rfl | exact hk | exact hk2 | exact dm12 _ | assumption) rfl (pg_ixN (nI_add 2 c) (show 2 + c < 22 by omega) (by decide)) ?_
          rw [q0]
          refine pm_cV h ok (hR) (hg) d_Mod_takePacket_113 m_Mod_letter l_Mod_100 (c_Mod_letter w ok Ac S0 z b hb2) rfl rfl rfl (Nat.le_of_ble_eq_true rfl) ⟨(Nat.le_of_ble_eq_true rfl), (Nat.le_of_ble_eq_true rfl)⟩ ⟨Nat.le_refl _, Nat.le_refl _⟩ (fun S113 hR113 hg113 => ?_)
          refine pg_istore h d_Mod_takePacket_116 (Nat.le_of_ble_eq_true rfl) rfl rfl ?_
          refine pg_aload_n h d_Mod_takePacket_118 rfl ?_
          refine pf_get h ok d_Mod_takePacket_119 f_Mod_29 (by first | rfl | exact hk | exact hk2 | exact dm12 _ | assumption) rfl rfl ?_
          refine pg_sipush (v := 160) h d_Mod_takePacket_122 (by decide) ?_
          refine pg_iload_n h d_Mod_takePacket_125 rfl ?_
          refine pg_imul h d_Mod_takePacket_126 ?_
          refine pg_bipush (v := 20) h d_Mod_takePacket_127 (by decide) ?_
          refine pg_iload h d_Mod_takePacket_129 rfl ?_
          refine pg_imul h d_Mod_takePacket_131 ?_
          refine pg_iadd h d_Mod_takePacket_132 ?_
          refine pg_iload h d_Mod_takePacket_133 rfl ?_
          refine pg_iadd h d_Mod_takePacket_135 ?_
          refine pg_iload h d_Mod_takePacket_136 rfl ?_
          refine pg_if_ge (tgt := 163) h d_Mod_takePacket_138 rfl (fun e138 => absurd e138 hl0) (fun e138 => ?_)
          refine pg_aload_n h d_Mod_takePacket_141 rfl ?_
          refine pf_get h ok d_Mod_takePacket_142 f_Mod_29 (by first | rfl | exact hk | exact hk2 | exact dm12 _ | assumption) rfl rfl ?_
          refine pg_sipush (v := 160) h d_Mod_takePacket_145 (by decide) ?_
          refine pg_iload_n h d_Mod_takePacket_148 rfl ?_
          refine pg_imul h d_Mod_takePacket_149 ?_
          refine pg_bipush (v := 20) h d_Mod_takePacket_150 (by decide) ?_
          refine pg_iload h d_Mod_takePacket_152 rfl ?_
          refine pg_imul h d_Mod_takePacket_154 ?_
          refine pg_iadd h d_Mod_takePacket_155 ?_
          refine pg_iload h d_Mod_takePacket_156 rfl ?_
          refine pg_iadd h d_Mod_takePacket_158 ?_
          refine pf_ild h ok d_Mod_takePacket_159 (by first | rfl | exact hk | exact hk2 | exact dm12 _ | assumption) rfl (pg_ixN (ik3 m r c) (show 160 * m + (r * 20 + c) < 2080 by omega) (by decide)) ?_
          refine pg_goto (tgt := 165) h d_Mod_takePacket_160 rfl ?_
          refine pf_ist h ok d_Mod_takePacket_165 (by first | rfl | exact hk | exact hk2 | exact dm12 _ | assumption) (fun _ => rfl) (pg_ixN (ik3 m r c) (show 160 * m + (r * 20 + c) < 2080 by omega) (by decide)) ?_
          refine pg_iinc (w := 1) h d_Mod_takePacket_166 rfl (by decide) (Nat.le_of_ble_eq_true rfl) rfl rfl ?_
          refine pg_goto (tgt := 96) h d_Mod_takePacket_169 rfl ?_
          rw [← nI_succ c]
          exact ih (c + 1) _ _ (by omega) (by rw [eT, st_self]; exact hR113) (hg113.st (by decide))
        · have hl0 : 0 ≤ letV (nI b) := Int32.not_lt.mp (fun q => hl ((letV_neg hb2).mp q))
          rw [if_neg hl] at eT
          refine pg_iload h d_Mod_takePacket_96 rfl ?_
          refine pg_bipush (v := 20) h d_Mod_takePacket_98 (by decide) ?_
          refine pg_icmp_ge (tgt := 172) h d_Mod_takePacket_100 rfl (fun e100 => absurd e100 (nI_ge hc2 (by decide))) (fun e100 => ?_)
          refine pg_aload_n h d_Mod_takePacket_103 rfl ?_
          refine pg_aload_n h d_Mod_takePacket_104 rfl ?_
          refine pf_get h ok d_Mod_takePacket_105 f_Mod_38 (by first | rfl | exact hk | exact hk2 | exact dm12 _ | assumption) rfl rfl ?_
          refine pg_iconst (v := 2) h d_Mod_takePacket_108 (by decide) ?_
          refine pg_iload h d_Mod_takePacket_109 rfl ?_
          refine pg_iadd h d_Mod_takePacket_111 ?_
          refine pf_ild h ok d_Mod_takePacket_112 (by first | rfl | exact hk | exact hk2 | exact dm12 _ | assumption) rfl (pg_ixN (nI_add 2 c) (show 2 + c < 22 by omega) (by decide)) ?_
          rw [q0]
          refine pm_cV h ok (hR) (hg) d_Mod_takePacket_113 m_Mod_letter l_Mod_100 (c_Mod_letter w ok Ac S0 z b hb2) rfl rfl rfl (Nat.le_of_ble_eq_true rfl) ⟨(Nat.le_of_ble_eq_true rfl), (Nat.le_of_ble_eq_true rfl)⟩ ⟨Nat.le_refl _, Nat.le_refl _⟩ (fun S113 hR113 hg113 => ?_)
          refine pg_istore h d_Mod_takePacket_116 (Nat.le_of_ble_eq_true rfl) rfl rfl ?_
          refine pg_aload_n h d_Mod_takePacket_118 rfl ?_
          refine pf_get h ok d_Mod_takePacket_119 f_Mod_29 (by first | rfl | exact hk | exact hk2 | exact dm12 _ | assumption) rfl rfl ?_
          refine pg_sipush (v := 160) h d_Mod_takePacket_122 (by decide) ?_
          refine pg_iload_n h d_Mod_takePacket_125 rfl ?_
          refine pg_imul h d_Mod_takePacket_126 ?_
          refine pg_bipush (v := 20) h d_Mod_takePacket_127 (by decide) ?_
          refine pg_iload h d_Mod_takePacket_129 rfl ?_
          refine pg_imul h d_Mod_takePacket_131 ?_
          refine pg_iadd h d_Mod_takePacket_132 ?_
          refine pg_iload h d_Mod_takePacket_133 rfl ?_
          refine pg_iadd h d_Mod_takePacket_135 ?_
          refine pg_iload h d_Mod_takePacket_136 rfl ?_
          refine pg_if_ge (tgt := 163) h d_Mod_takePacket_138 rfl (fun e138 => ?_) (fun e138 => absurd e138 (fun q => q hl0))
          refine pg_iload h d_Mod_takePacket_163 rfl ?_
          refine pf_ist h ok d_Mod_takePacket_165 (by first | rfl | exact hk | exact hk2 | exact dm12 _ | assumption) (fun _ => rfl) (pg_ixN (ik3 m r c) (show 160 * m + (r * 20 + c) < 2080 by omega) (by decide)) ?_
          refine pg_iinc (w := 1) h d_Mod_takePacket_166 rfl (by decide) (Nat.le_of_ble_eq_true rfl) rfl rfl ?_
          refine pg_goto (tgt := 96) h d_Mod_takePacket_169 rfl ?_
          rw [← nI_succ c]
          exact ih (c + 1) _ _ (by omega) (by rw [eT]; exact hR113.let (by omega)) (hg113.st (by decide))
    refine pg_iload h d_Mod_takePacket_64 rfl ?_
    refine pg_if_ne (tgt := 77) h d_Mod_takePacket_66 rfl (fun e66 => ?_) (fun e66 => absurd e66 (by rw [er0]; exact h0))
    refine pg_aload_n h d_Mod_takePacket_77 rfl ?_
    refine pf_get h ok d_Mod_takePacket_78 f_Mod_7 (by first | rfl | exact hk | exact hk2 | exact dm12 _ | assumption) rfl rfl ?_
    refine pg_iload_n h d_Mod_takePacket_81 rfl ?_
    refine pf_zld h ok d_Mod_takePacket_82 (by first | rfl | exact hk | exact hk2 | exact dm12 _ | assumption) rfl (pg_ixN rfl (show m < 13 by omega) (by decide)) ?_
    rw [hth]
    refine pg_if_eq (tgt := 175) h d_Mod_takePacket_83 rfl (fun e83 => absurd e83 ht) (fun e83 => ?_)
    refine pg_iload h d_Mod_takePacket_86 rfl ?_
    refine pg_bipush (v := 8) h d_Mod_takePacket_88 (by decide) ?_
    refine pg_icmp_ge (tgt := 175) h d_Mod_takePacket_90 rfl (fun e90 => absurd e90 (by rw [l8]; omega)) (fun e90 => ?_)
    refine pg_iconst (v := 0) h d_Mod_takePacket_93 (by decide) ?_
    refine pg_istore h d_Mod_takePacket_94 (Nat.le_of_ble_eq_true rfl) rfl rfl ?_
    exact loop 20 0 none S rfl hR hg
  by_cases h26 : r = 26
  · have e8 : twF m (nI m) T r = (toF m T 6).1 := by rw [twF, if_neg h8, if_pos h26]
    rw [e8]
    refine pg_iload h d_Mod_takePacket_64 rfl ?_
    refine pg_if_ne (tgt := 77) h d_Mod_takePacket_66 rfl (fun e66 => ?_) (fun e66 => absurd e66 (by rw [er0]; exact h0))
    refine pg_aload_n h d_Mod_takePacket_77 rfl ?_
    refine pf_get h ok d_Mod_takePacket_78 f_Mod_7 (by first | rfl | exact hk | exact hk2 | exact dm12 _ | assumption) rfl rfl ?_
    refine pg_iload_n h d_Mod_takePacket_81 rfl ?_
    refine pf_zld h ok d_Mod_takePacket_82 (by first | rfl | exact hk | exact hk2 | exact dm12 _ | assumption) rfl (pg_ixN rfl (show m < 13 by omega) (by decide)) ?_
    rw [hth]
    refine pg_if_eq (tgt := 175) h d_Mod_takePacket_83 rfl (fun e83 => absurd e83 ht) (fun e83 => ?_)
    refine pg_iload h d_Mod_takePacket_86 rfl ?_
    refine pg_bipush (v := 8) h d_Mod_takePacket_88 (by decide) ?_
    refine pg_icmp_ge (tgt := 175) h d_Mod_takePacket_90 rfl (fun e90 => ?_) (fun e90 => absurd e90 (fun q => q (by rw [l8]; omega)))
    refine pg_aload_n h d_Mod_takePacket_175 rfl ?_
    refine pf_get h ok d_Mod_takePacket_176 f_Mod_7 (by first | rfl | exact hk | exact hk2 | exact dm12 _ | assumption) rfl rfl ?_
    refine pg_iload_n h d_Mod_takePacket_179 rfl ?_
    refine pf_zld h ok d_Mod_takePacket_180 (by first | rfl | exact hk | exact hk2 | exact dm12 _ | assumption) rfl (pg_ixN rfl (show m < 13 by omega) (by decide)) ?_
    rw [hth]
    refine pg_if_eq (tgt := 199) h d_Mod_takePacket_181 rfl (fun e181 => absurd e181 ht) (fun e181 => ?_)
    refine pg_iload h d_Mod_takePacket_184 rfl ?_
    refine pg_bipush (v := 26) h d_Mod_takePacket_186 (by decide) ?_
    refine pg_icmp_ne (tgt := 199) h d_Mod_takePacket_188 rfl (fun e188 => absurd e188 (fun q => q (by rw [e26]; exact h26))) (fun e188 => ?_)
    refine pg_aload_n h d_Mod_takePacket_191 rfl ?_
    refine pg_iload_n h d_Mod_takePacket_192 rfl ?_
    refine pm_cV0 h ok (hR) (hg) d_Mod_takePacket_193 m_Mod_takeOverlays l_Mod_103 (c_Mod_takeOverlays w ok T S0 z HP HT hb m hm) rfl rfl rfl (Nat.le_of_ble_eq_true rfl) ⟨(Nat.le_of_ble_eq_true rfl), (Nat.le_of_ble_eq_true rfl)⟩ ⟨Nat.le_refl _, Nat.le_refl _⟩ (fun S193 hR193 hg193 => ?_)
    refine pg_goto (tgt := 220) h d_Mod_takePacket_196 rfl ?_
    exact pm_vret h d_Mod_takePacket_220 (hR193) (hg193)
  by_cases h27 : r = 27
  · have e8 : twF m (nI m) T r = tkF m (nI m) T 4 := by rw [twF, if_neg h8, if_neg h26, if_pos h27]
    rw [e8]
    refine pg_iload h d_Mod_takePacket_64 rfl ?_
    refine pg_if_ne (tgt := 77) h d_Mod_takePacket_66 rfl (fun e66 => ?_) (fun e66 => absurd e66 (by rw [er0]; exact h0))
    refine pg_aload_n h d_Mod_takePacket_77 rfl ?_
    refine pf_get h ok d_Mod_takePacket_78 f_Mod_7 (by first | rfl | exact hk | exact hk2 | exact dm12 _ | assumption) rfl rfl ?_
    refine pg_iload_n h d_Mod_takePacket_81 rfl ?_
    refine pf_zld h ok d_Mod_takePacket_82 (by first | rfl | exact hk | exact hk2 | exact dm12 _ | assumption) rfl (pg_ixN rfl (show m < 13 by omega) (by decide)) ?_
    rw [hth]
    refine pg_if_eq (tgt := 175) h d_Mod_takePacket_83 rfl (fun e83 => absurd e83 ht) (fun e83 => ?_)
    refine pg_iload h d_Mod_takePacket_86 rfl ?_
    refine pg_bipush (v := 8) h d_Mod_takePacket_88 (by decide) ?_
    refine pg_icmp_ge (tgt := 175) h d_Mod_takePacket_90 rfl (fun e90 => ?_) (fun e90 => absurd e90 (fun q => q (by rw [l8]; omega)))
    refine pg_aload_n h d_Mod_takePacket_175 rfl ?_
    refine pf_get h ok d_Mod_takePacket_176 f_Mod_7 (by first | rfl | exact hk | exact hk2 | exact dm12 _ | assumption) rfl rfl ?_
    refine pg_iload_n h d_Mod_takePacket_179 rfl ?_
    refine pf_zld h ok d_Mod_takePacket_180 (by first | rfl | exact hk | exact hk2 | exact dm12 _ | assumption) rfl (pg_ixN rfl (show m < 13 by omega) (by decide)) ?_
    rw [hth]
    refine pg_if_eq (tgt := 199) h d_Mod_takePacket_181 rfl (fun e181 => absurd e181 ht) (fun e181 => ?_)
    refine pg_iload h d_Mod_takePacket_184 rfl ?_
    refine pg_bipush (v := 26) h d_Mod_takePacket_186 (by decide) ?_
    refine pg_icmp_ne (tgt := 199) h d_Mod_takePacket_188 rfl (fun e188 => ?_) (fun e188 => absurd e188 (by rw [e26]; exact h26))
    refine pg_aload_n h d_Mod_takePacket_199 rfl ?_
    refine pf_get h ok d_Mod_takePacket_200 f_Mod_7 (by first | rfl | exact hk | exact hk2 | exact dm12 _ | assumption) rfl rfl ?_
    refine pg_iload_n h d_Mod_takePacket_203 rfl ?_
    refine pf_zld h ok d_Mod_takePacket_204 (by first | rfl | exact hk | exact hk2 | exact dm12 _ | assumption) rfl (pg_ixN rfl (show m < 13 by omega) (by decide)) ?_
    rw [hth]
    refine pg_if_eq (tgt := 220) h d_Mod_takePacket_205 rfl (fun e205 => absurd e205 ht) (fun e205 => ?_)
    refine pg_iload h d_Mod_takePacket_208 rfl ?_
    refine pg_bipush (v := 27) h d_Mod_takePacket_210 (by decide) ?_
    refine pg_icmp_ne (tgt := 220) h d_Mod_takePacket_212 rfl (fun e212 => absurd e212 (fun q => q (by rw [e27]; exact h27))) (fun e212 => ?_)
    refine pg_aload_n h d_Mod_takePacket_215 rfl ?_
    refine pg_iload_n h d_Mod_takePacket_216 rfl ?_
    refine pm_cV0 h ok (hR) (hg) d_Mod_takePacket_217 m_Mod_takeLinks l_Mod_106 (c_Mod_takeLinks w ok T S0 z hb m hm) rfl rfl rfl (Nat.le_of_ble_eq_true rfl) ⟨(Nat.le_of_ble_eq_true rfl), (Nat.le_of_ble_eq_true rfl)⟩ ⟨Nat.le_refl _, Nat.le_refl _⟩ (fun S217 hR217 hg217 => ?_)
    exact pm_vret h d_Mod_takePacket_220 (hR217) (hg217)
  · have e8 : twF m (nI m) T r = T := by rw [twF, if_neg h8, if_neg h26, if_neg h27]
    rw [e8]
    refine pg_iload h d_Mod_takePacket_64 rfl ?_
    refine pg_if_ne (tgt := 77) h d_Mod_takePacket_66 rfl (fun e66 => ?_) (fun e66 => absurd e66 (by rw [er0]; exact h0))
    refine pg_aload_n h d_Mod_takePacket_77 rfl ?_
    refine pf_get h ok d_Mod_takePacket_78 f_Mod_7 (by first | rfl | exact hk | exact hk2 | exact dm12 _ | assumption) rfl rfl ?_
    refine pg_iload_n h d_Mod_takePacket_81 rfl ?_
    refine pf_zld h ok d_Mod_takePacket_82 (by first | rfl | exact hk | exact hk2 | exact dm12 _ | assumption) rfl (pg_ixN rfl (show m < 13 by omega) (by decide)) ?_
    rw [hth]
    refine pg_if_eq (tgt := 175) h d_Mod_takePacket_83 rfl (fun e83 => absurd e83 ht) (fun e83 => ?_)
    refine pg_iload h d_Mod_takePacket_86 rfl ?_
    refine pg_bipush (v := 8) h d_Mod_takePacket_88 (by decide) ?_
    refine pg_icmp_ge (tgt := 175) h d_Mod_takePacket_90 rfl (fun e90 => ?_) (fun e90 => absurd e90 (fun q => q (by rw [l8]; omega)))
    refine pg_aload_n h d_Mod_takePacket_175 rfl ?_
    refine pf_get h ok d_Mod_takePacket_176 f_Mod_7 (by first | rfl | exact hk | exact hk2 | exact dm12 _ | assumption) rfl rfl ?_
    refine pg_iload_n h d_Mod_takePacket_179 rfl ?_
    refine pf_zld h ok d_Mod_takePacket_180 (by first | rfl | exact hk | exact hk2 | exact dm12 _ | assumption) rfl (pg_ixN rfl (show m < 13 by omega) (by decide)) ?_
    rw [hth]
    refine pg_if_eq (tgt := 199) h d_Mod_takePacket_181 rfl (fun e181 => absurd e181 ht) (fun e181 => ?_)
    refine pg_iload h d_Mod_takePacket_184 rfl ?_
    refine pg_bipush (v := 26) h d_Mod_takePacket_186 (by decide) ?_
    refine pg_icmp_ne (tgt := 199) h d_Mod_takePacket_188 rfl (fun e188 => ?_) (fun e188 => absurd e188 (by rw [e26]; exact h26))
    refine pg_aload_n h d_Mod_takePacket_199 rfl ?_
    refine pf_get h ok d_Mod_takePacket_200 f_Mod_7 (by first | rfl | exact hk | exact hk2 | exact dm12 _ | assumption) rfl rfl ?_
    refine pg_iload_n h d_Mod_takePacket_203 rfl ?_
    refine pf_zld h ok d_Mod_takePacket_204 (by first | rfl | exact hk | exact hk2 | exact dm12 _ | assumption) rfl (pg_ixN rfl (show m < 13 by omega) (by decide)) ?_
    rw [hth]
    refine pg_if_eq (tgt := 220) h d_Mod_takePacket_205 rfl (fun e205 => absurd e205 ht) (fun e205 => ?_)
    refine pg_iload h d_Mod_takePacket_208 rfl ?_
    refine pg_bipush (v := 27) h d_Mod_takePacket_210 (by decide) ?_
    refine pg_icmp_ne (tgt := 220) h d_Mod_takePacket_212 rfl (fun e212 => ?_) (fun e212 => absurd e212 (by rw [e27]; exact h27))
    exact pm_vret h d_Mod_takePacket_220 (hR) (hg)

set_option maxRecDepth 100000 in
set_option maxHeartbeats 4000000 in
theorem c_Mod_takePacket (w : pf_W) (ok : pf_ok w) (A S0 : pf_S) (z : Int32) (hw : 1 ≤ w.2.2.1 ∧ w.2.2.1 ≤ 4) (HP : TPall) (HT : TDok) (hu : Uq A w.2.2.1) (hb : ByI A) : pm_C w y_Mod_takePacket b_Mod_takePacket 7 none 4 103 [.ref (w.2.1 20 0)] z (A) S0 (none) z (tpF A w.2.2.1) := by
  refine pm_enter (by decide) (Nat.le_of_ble_eq_true rfl) (lv0 := [some (.ref (w.2.1 20 0)), none, none, none, none, none, none]) rfl (fun κ S h hR hg => ?_)
  obtain ⟨b0, hb0, e0⟩ := hb 0 (by decide)
  obtain ⟨b1, hb1, e1⟩ := hb 1 (by decide)
  have hR0 : Rm w.2.2.1 z (tp0 A) (pf_st S 31 0 0 (S 31 0 0 + 1)) := by rw [tp0, ← hR.2.1 0 (by decide)]; exact hR.cnt
  have hg0 : pm_g S0 (pf_st S 31 0 0 (S 31 0 0 + 1)) := hg.st (by decide)
  have et1 : tp1 A = nibT (tp0 A) (nI b0) := by rw [tp1, e0]
  have et2 : tp2 A = nibT (nibT (tp0 A) (nI b0)) (nI b1) := by rw [tp2, e1, et1]
  have start : ∀ S : pf_S, Rm w.2.2.1 z (tp0 A) S → pm_g S0 S → pg_G κ w.1 7 0 0 (pm_Q κ w none z (tpF A w.2.2.1) S0) (pf_P w (S)) 10 [some (.ref (w.2.1 20 0)), none, none, none, none, none, none] [] := by
    clear hR0 hg0 hR hg S
    intro S hR hg
    have q0 : S 30 0 0 = nI b0 := by rw [hR.2.2.1 0 (by decide), tp0_keep _ (by decide), e0]
    cases h0 : nibD (nI b0) with
    | none =>
      have v0 : nibV (nI b0) = -1 := by rw [nibV, h0]
      have eT : tpF A w.2.2.1 = drp (nibT (tp0 A) (nI b0)) := by
        rw [← et1]
        unfold tpF
        rw [e0, h0]
      rw [eT]
      refine pg_aload_n h d_Mod_takePacket_10 rfl ?_
      refine pg_aload_n h d_Mod_takePacket_11 rfl ?_
      refine pf_get h ok d_Mod_takePacket_12 f_Mod_38 (by first | rfl | exact hk | exact hk2 | exact dm12 _ | assumption) rfl rfl ?_
      refine pg_iconst (v := 0) h d_Mod_takePacket_15 (by decide) ?_
      refine pf_ild h ok d_Mod_takePacket_16 (by first | rfl | exact hk | exact hk2 | exact dm12 _ | assumption) rfl (pg_ixN (j := 0) rfl (by decide) (by decide)) ?_
      rw [q0]
      refine pm_cV h ok (hR) (hg) d_Mod_takePacket_17 m_Mod_nibble l_Mod_90 (c_Mod_nibble w ok (tp0 A) S0 z b0 hb0) rfl rfl rfl (Nat.le_of_ble_eq_true rfl) ⟨(Nat.le_of_ble_eq_true rfl), (Nat.le_of_ble_eq_true rfl)⟩ ⟨Nat.le_refl _, Nat.le_refl _⟩ (fun S17 hR17 hg17 => ?_)
      rw [v0]
      refine pg_istore_n h d_Mod_takePacket_20 (Nat.le_of_ble_eq_true rfl) rfl rfl ?_
      refine pg_iload_n h d_Mod_takePacket_21 rfl ?_
      refine pg_if_ge (tgt := 29) h d_Mod_takePacket_22 rfl (fun e22 => absurd e22 (by decide)) (fun e22 => ?_)
      refine pg_iconst (v := (-1)) h d_Mod_takePacket_25 (by decide) ?_
      refine pg_goto (tgt := 39) h d_Mod_takePacket_26 rfl ?_
      refine pg_istore_n h d_Mod_takePacket_39 (Nat.le_of_ble_eq_true rfl) rfl rfl ?_
      refine pg_iload_n h d_Mod_takePacket_40 rfl ?_
      refine pg_if_ge (tgt := 49) h d_Mod_takePacket_41 rfl (fun e41 => absurd e41 (by decide)) (fun e41 => ?_)
      refine pg_aload_n h d_Mod_takePacket_44 rfl ?_
      refine pm_cV0 h ok (hR17) (hg17) d_Mod_takePacket_45 m_Mod_drop l_Mod_93 (c_Mod_drop w ok _ S0 z) rfl rfl rfl (Nat.le_of_ble_eq_true rfl) ⟨(Nat.le_of_ble_eq_true rfl), (Nat.le_of_ble_eq_true rfl)⟩ ⟨Nat.le_refl _, Nat.le_refl _⟩ (fun S45 hR45 hg45 => ?_)
      exact pm_vret h d_Mod_takePacket_48 (hR45) (hg45)
    | some d0 =>
      have v0 : nibV (nI b0) = nI d0 := by rw [nibV, h0]
      have hd0 := nibD_lt h0
      cases h1 : nibD (nI b1) with
      | none =>
        have v1 : nibV (nI b1) = -1 := by rw [nibV, h1]
        have eT : tpF A w.2.2.1 = drp (nibT (nibT (tp0 A) (nI b0)) (nI b1)) := by
          rw [← et2]
          unfold tpF
          rw [e0, h0, e1]
          simp only [h1]
        rw [eT]
        refine pg_aload_n h d_Mod_takePacket_10 rfl ?_
        refine pg_aload_n h d_Mod_takePacket_11 rfl ?_
        refine pf_get h ok d_Mod_takePacket_12 f_Mod_38 (by first | rfl | exact hk | exact hk2 | exact dm12 _ | assumption) rfl rfl ?_
        refine pg_iconst (v := 0) h d_Mod_takePacket_15 (by decide) ?_
        refine pf_ild h ok d_Mod_takePacket_16 (by first | rfl | exact hk | exact hk2 | exact dm12 _ | assumption) rfl (pg_ixN (j := 0) rfl (by decide) (by decide)) ?_
        rw [q0]
        refine pm_cV h ok (hR) (hg) d_Mod_takePacket_17 m_Mod_nibble l_Mod_90 (c_Mod_nibble w ok (tp0 A) S0 z b0 hb0) rfl rfl rfl (Nat.le_of_ble_eq_true rfl) ⟨(Nat.le_of_ble_eq_true rfl), (Nat.le_of_ble_eq_true rfl)⟩ ⟨Nat.le_refl _, Nat.le_refl _⟩ (fun S17 hR17 hg17 => ?_)
        rw [v0]
        refine pg_istore_n h d_Mod_takePacket_20 (Nat.le_of_ble_eq_true rfl) rfl rfl ?_
        refine pg_iload_n h d_Mod_takePacket_21 rfl ?_
        refine pg_if_ge (tgt := 29) h d_Mod_takePacket_22 rfl (fun e22 => ?_) (fun e22 => absurd e22 (fun q => q (nI_pos' (by omega))))
        refine pg_aload_n h d_Mod_takePacket_29 rfl ?_
        refine pg_aload_n h d_Mod_takePacket_30 rfl ?_
        refine pf_get h ok d_Mod_takePacket_31 f_Mod_38 (by first | rfl | exact hk | exact hk2 | exact dm12 _ | assumption) rfl rfl ?_
        refine pg_iconst (v := 1) h d_Mod_takePacket_34 (by decide) ?_
        refine pf_ild h ok d_Mod_takePacket_35 (by first | rfl | exact hk | exact hk2 | exact dm12 _ | assumption) rfl (pg_ixN (j := 1) rfl (by decide) (by decide)) ?_
        rw [show S17 30 0 1 = nI b1 from by rw [hR17.2.2.1 1 (by decide), nibT_3, tp0_keep _ (by decide), e1]]
        refine pm_cV h ok (hR17) (hg17) d_Mod_takePacket_36 m_Mod_nibble l_Mod_90 (c_Mod_nibble w ok (nibT (tp0 A) (nI b0)) S0 z b1 hb1) rfl rfl rfl (Nat.le_of_ble_eq_true rfl) ⟨(Nat.le_of_ble_eq_true rfl), (Nat.le_of_ble_eq_true rfl)⟩ ⟨Nat.le_refl _, Nat.le_refl _⟩ (fun S36 hR36 hg36 => ?_)
        rw [v1]
        refine pg_istore_n h d_Mod_takePacket_39 (Nat.le_of_ble_eq_true rfl) rfl rfl ?_
        refine pg_iload_n h d_Mod_takePacket_40 rfl ?_
        refine pg_if_ge (tgt := 49) h d_Mod_takePacket_41 rfl (fun e41 => absurd e41 (by decide)) (fun e41 => ?_)
        refine pg_aload_n h d_Mod_takePacket_44 rfl ?_
        refine pm_cV0 h ok (hR36) (hg36) d_Mod_takePacket_45 m_Mod_drop l_Mod_93 (c_Mod_drop w ok _ S0 z) rfl rfl rfl (Nat.le_of_ble_eq_true rfl) ⟨(Nat.le_of_ble_eq_true rfl), (Nat.le_of_ble_eq_true rfl)⟩ ⟨Nat.le_refl _, Nat.le_refl _⟩ (fun S45 hR45 hg45 => ?_)
        exact pm_vret h d_Mod_takePacket_48 (hR45) (hg45)
      | some d1 =>
        have v1 : nibV (nI b1) = nI d1 := by rw [nibV, h1]
        have hd1 := nibD_lt h1
        have eT : tpF A w.2.2.1 = if d0 / 8 + 2 * d1 = 0 then thdF (tp2 A) w.2.2.1 (d0 % 8) else if nb (tp2 A 14 (d0 % 8) 0) = 0 then tp2 A else twF (d0 % 8) (nI (d0 % 8)) (tp2 A) (d0 / 8 + 2 * d1) := by
          unfold tpF
          rw [e0, h0, e1]
          simp only [h1]
        have er : nI d0 / 8 + 2 * nI d1 = nI (d0 / 8 + 2 * d1) := by rw [(dm_all d0 hd0).2, show (2 : Int32) * nI d1 = nI (2 * d1) from pk_mul 2 d1, nI_add]
        have em := (dm_all d0 hd0).1
        have hm : d0 % 8 < 8 := by omega
        have hr : d0 / 8 + 2 * d1 < 32 := by omega
        have hu2 : Uq (tp2 A) w.2.2.1 := Uq_cong (fun k _ => by rw [tp2_keep _ (by decide)]) hu
        have hb2 : ByI (tp2 A) := fun i hi => by rw [tp2_keep _ (by decide)]; exact hb i hi
        rw [eT]
        refine pg_aload_n h d_Mod_takePacket_10 rfl ?_
        refine pg_aload_n h d_Mod_takePacket_11 rfl ?_
        refine pf_get h ok d_Mod_takePacket_12 f_Mod_38 (by first | rfl | exact hk | exact hk2 | exact dm12 _ | assumption) rfl rfl ?_
        refine pg_iconst (v := 0) h d_Mod_takePacket_15 (by decide) ?_
        refine pf_ild h ok d_Mod_takePacket_16 (by first | rfl | exact hk | exact hk2 | exact dm12 _ | assumption) rfl (pg_ixN (j := 0) rfl (by decide) (by decide)) ?_
        rw [q0]
        refine pm_cV h ok (hR) (hg) d_Mod_takePacket_17 m_Mod_nibble l_Mod_90 (c_Mod_nibble w ok (tp0 A) S0 z b0 hb0) rfl rfl rfl (Nat.le_of_ble_eq_true rfl) ⟨(Nat.le_of_ble_eq_true rfl), (Nat.le_of_ble_eq_true rfl)⟩ ⟨Nat.le_refl _, Nat.le_refl _⟩ (fun S17 hR17 hg17 => ?_)
        rw [v0]
        refine pg_istore_n h d_Mod_takePacket_20 (Nat.le_of_ble_eq_true rfl) rfl rfl ?_
        refine pg_iload_n h d_Mod_takePacket_21 rfl ?_
        refine pg_if_ge (tgt := 29) h d_Mod_takePacket_22 rfl (fun e22 => ?_) (fun e22 => absurd e22 (fun q => q (nI_pos' (by omega))))
        refine pg_aload_n h d_Mod_takePacket_29 rfl ?_
        refine pg_aload_n h d_Mod_takePacket_30 rfl ?_
        refine pf_get h ok d_Mod_takePacket_31 f_Mod_38 (by first | rfl | exact hk | exact hk2 | exact dm12 _ | assumption) rfl rfl ?_
        refine pg_iconst (v := 1) h d_Mod_takePacket_34 (by decide) ?_
        refine pf_ild h ok d_Mod_takePacket_35 (by first | rfl | exact hk | exact hk2 | exact dm12 _ | assumption) rfl (pg_ixN (j := 1) rfl (by decide) (by decide)) ?_
        rw [show S17 30 0 1 = nI b1 from by rw [hR17.2.2.1 1 (by decide), nibT_3, tp0_keep _ (by decide), e1]]
        refine pm_cV h ok (hR17) (hg17) d_Mod_takePacket_36 m_Mod_nibble l_Mod_90 (c_Mod_nibble w ok (nibT (tp0 A) (nI b0)) S0 z b1 hb1) rfl rfl rfl (Nat.le_of_ble_eq_true rfl) ⟨(Nat.le_of_ble_eq_true rfl), (Nat.le_of_ble_eq_true rfl)⟩ ⟨Nat.le_refl _, Nat.le_refl _⟩ (fun S36 hR36 hg36 => ?_)
        rw [v1]
        refine pg_istore_n h d_Mod_takePacket_39 (Nat.le_of_ble_eq_true rfl) rfl rfl ?_
        refine pg_iload_n h d_Mod_takePacket_40 rfl ?_
        refine pg_if_ge (tgt := 49) h d_Mod_takePacket_41 rfl (fun e41 => ?_) (fun e41 => absurd e41 (fun q => q (nI_pos' (by omega))))
        refine pg_iload_n h d_Mod_takePacket_49 rfl ?_
        refine pg_bipush (v := 8) h d_Mod_takePacket_50 (by decide) ?_
        refine pg_irem h d_Mod_takePacket_52 (by decide) ?_
        rw [em]
        refine pg_istore_n h d_Mod_takePacket_53 (Nat.le_of_ble_eq_true rfl) rfl rfl ?_
        refine pg_iload_n h d_Mod_takePacket_54 rfl ?_
        refine pg_bipush (v := 8) h d_Mod_takePacket_55 (by decide) ?_
        refine pg_idiv h d_Mod_takePacket_57 (by decide) ?_
        refine pg_iconst (v := 2) h d_Mod_takePacket_58 (by decide) ?_
        refine pg_iload_n h d_Mod_takePacket_59 rfl ?_
        refine pg_imul h d_Mod_takePacket_60 ?_
        refine pg_iadd h d_Mod_takePacket_61 ?_
        rw [er]
        refine pg_istore h d_Mod_takePacket_62 (Nat.le_of_ble_eq_true rfl) rfl rfl ?_
        exact mtp_rest w ok (tp2 A) S0 z κ h hw HP HT hu2 hb2 (d0 % 8) (d0 / 8 + 2 * d1) hm hr _ _ _ (by rw [et2]; exact hR36) hg36
  refine pg_aload_n h d_Mod_takePacket_0 rfl ?_
  refine pf_get h ok d_Mod_takePacket_1 f_Mod_41 (by first | rfl | exact hk | exact hk2 | exact dm12 _ | assumption) rfl rfl ?_
  refine pg_iconst (v := 0) h d_Mod_takePacket_4 (by decide) ?_
  refine pg_dup2 h d_Mod_takePacket_5 rfl rfl ?_
  refine pf_ild h ok d_Mod_takePacket_6 (by first | rfl | exact hk | exact hk2 | exact dm12 _ | assumption) rfl (pg_ixN (j := 0) rfl (by decide) (by decide)) ?_
  refine pg_iconst (v := 1) h d_Mod_takePacket_7 (by decide) ?_
  refine pg_iadd h d_Mod_takePacket_8 ?_
  refine pf_ist h ok d_Mod_takePacket_9 (by first | rfl | exact hk | exact hk2 | exact dm12 _ | assumption) (fun _ => rfl) (pg_ixN (j := 0) rfl (by decide) (by decide)) ?_
  exact start _ hR0 hg0
