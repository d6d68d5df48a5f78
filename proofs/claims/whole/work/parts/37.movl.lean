/-! The reference: takeOverlays, under the facts of the code words of three bytes (TPok, TDok). -/
def PP (b0 b1 b2 : Nat) : Int32 := nI b0 + 256 * nI b1 + 65536 * nI b2
def TPok (b0 b1 b2 : Nat) : Prop := (nI b0 ||| (nI b1 <<< ((8 : Int32) &&& 31)) ||| (nI b2 <<< ((16 : Int32) &&& 31))) = PP b0 b1 b2 ∧ (parV (PP b0 b1 b2) = 1 ↔ ¬ odF (PP b0 b1 b2) = 0) ∧ mfS (PP b0 b1 b2) 5 = failTo (PP b0 b1 b2) 5 ∧ (tripV (PP b0 b1 b2) (failTo (PP b0 b1 b2) 5) = -1 → mdP (PP b0 b1 b2) (failTo (PP b0 b1 b2) 5) = -1) ∧ (¬ tripV (PP b0 b1 b2) (failTo (PP b0 b1 b2) 5) = -1 → 0 ≤ mdP (PP b0 b1 b2) (failTo (PP b0 b1 b2) 5) ∧ tripV (PP b0 b1 b2) (failTo (PP b0 b1 b2) 5) = bitsF (mdP (PP b0 b1 b2) (failTo (PP b0 b1 b2) 5)))
def TPall : Prop := ∀ b0 b1 b2, b0 < 256 → b1 < 256 → b2 < 256 → TPok b0 b1 b2
def TDok : Prop := ∀ q : Int32, tdS q 0 6 23 = bitsF q &&& 63 ∧ tdS q 6 5 23 = mdF (bitsF q) ∧ tdS q 11 7 23 = dtF (bitsF q)
theorem tripT_3 (S : pf_S) (p f : Int32) : tripT S p f 3 = S 3 := by
  unfold tripT
  split
  · split
    · funext x y; rw [pf_st_at, if_neg (by omega)]
    · funext x y; rw [pf_st_at, if_neg (by omega)]
  · split
    · rfl
    · funext x y; rw [pf_st_at, if_neg (by omega)]
theorem trT_3 (S : pf_S) (k a : Nat) (t : Int32) : trT S k a t 3 = S 3 := by
  unfold trT
  split
  · rfl
  · split
    · funext x y; rw [pf_st_at, if_neg (by omega)]
    · split
      · funext x y; rw [pf_st_at, if_neg (by omega)]
      · rfl
theorem toF_3 (k : Nat) (S : pf_S) : ∀ i, (toF k S i).1 3 = S 3 := by
  intro i
  induction i with
  | zero => rfl
  | succ i ih =>
    rw [toF, toS]
    split
    · exact (tripT_3 _ _ _).trans ih
    · exact (trT_3 _ _ _ _).trans ((tripT_3 _ _ _).trans ih)

set_option maxRecDepth 100000 in
set_option maxHeartbeats 4000000 in
theorem c_Mod_takeOverlays (w : pf_W) (ok : pf_ok w) (A S0 : pf_S) (z : Int32) (HP : TPall) (HT : TDok) (hb : ByI A) (m : Nat) (hm : m < 8) : pm_C w y_Mod_takeOverlays b_Mod_takeOverlays 9 none 2 47 [.ref (w.2.1 20 0), .int (nI m)] z (A) S0 (none) z ((toF m A 6).1) := by
  refine pm_enter (by decide) (Nat.le_of_ble_eq_true rfl) (lv0 := [some (.ref (w.2.1 20 0)), some (.int (nI m)), none, none, none, none, none, none, none]) rfl (fun κ S h hR hg => ?_)
  have loop : ∀ (n i : Nat) (X Y Z U V : Option Value) (S : pf_S), i + n = 6 → Rm w.2.2.1 z (toF m A i).1 S → pm_g S0 S → pg_G κ w.1 9 0 0 (pm_Q κ w none z ((toF m A 6).1) S0) (pf_P w (S)) 4 [some (.ref (w.2.1 20 0)), some (.int (nI m)), some (.int (nI (toF m A i).2)), some (.int (nI i)), X, Y, Z, U, V] [] := by
    intro n
    induction n with
    | zero =>
      intro i X Y Z U V S hi hR hg
      have hi : i = 6 := by omega
      subst hi
      refine pg_iload_n h d_Mod_takeOverlays_4 rfl ?_
      refine pg_bipush (v := 6) h d_Mod_takeOverlays_5 (by decide) ?_
      refine pg_icmp_ge (tgt := 208) h d_Mod_takeOverlays_7 rfl (fun e7 => ?_) (fun e7 => absurd e7 (fun e => e (by decide)))
      exact pm_vret h d_Mod_takeOverlays_208 (hR) (hg)
    | succ n ih =>
      intro i X Y Z U V S hi hR hg
      have hi2 : i < 6 := by omega
      obtain ⟨b0, hb0, e0⟩ := hb (2 + 3 * i) (by omega)
      obtain ⟨b1, hb1, e1⟩ := hb (2 + 3 * i + 1) (by omega)
      obtain ⟨b2, hb2, e2⟩ := hb (2 + 3 * i + 2) (by omega)
      have h3 := toF_3 m A i
      have ha8 := toF_lt m A i
      have q0 : S 30 0 (2 + 3 * i) = nI b0 := by rw [hR.2.2.1 _ (by omega), h3, e0]
      have q1 : S 30 0 (2 + 3 * i + 1) = nI b1 := by rw [hR.2.2.1 _ (by omega), h3, e1]
      have q2 : S 30 0 (2 + 3 * i + 2) = nI b2 := by rw [hR.2.2.1 _ (by omega), h3, e2]
      obtain ⟨p1, p2, p3, p4, p5⟩ := HP b0 b1 b2 hb0 hb1 hb2
      have epl : plF (toF m A i).1 (2 + 3 * i) = PP b0 b1 b2 := by rw [plF, h3, e0, e1, e2, p1]
      have eS : toF m A (i + 1) = toS m i (toF m A i) := rfl
      rw [toS, epl] at eS
      have em : nI b0 + 256 * nI b1 + 65536 * nI b2 = PP b0 b1 b2 := rfl
      generalize hp : PP b0 b1 b2 = p at *
      generalize hf : failTo p 5 = f at *
      generalize hta : toF m A i = ta at *
      have hmend := c_Mod_mended w ok ta.1 S0 z p p2 (p3.trans hf.symm)
      rw [hf] at hmend
      by_cases hbad : tripV p f = -1
      · have hm1 := p4 hbad
        rw [if_pos hbad] at eS
        refine pg_iload_n h d_Mod_takeOverlays_4 rfl ?_
        refine pg_bipush (v := 6) h d_Mod_takeOverlays_5 (by decide) ?_
        refine pg_icmp_ge (tgt := 208) h d_Mod_takeOverlays_7 rfl (fun e7 => absurd e7 (nI_ge hi2 (by decide))) (fun e7 => ?_)
        refine pg_iconst (v := 2) h d_Mod_takeOverlays_10 (by decide) ?_
        refine pg_iconst (v := 3) h d_Mod_takeOverlays_11 (by decide) ?_
        refine pg_iload_n h d_Mod_takeOverlays_12 rfl ?_
        refine pg_imul h d_Mod_takeOverlays_13 ?_
        refine pg_iadd h d_Mod_takeOverlays_14 ?_
        rw [show (2 : Int32) + 3 * nI i = nI (2 + 3 * i) from ml3 2 i]
        refine pg_istore h d_Mod_takeOverlays_15 (Nat.le_of_ble_eq_true rfl) (by first | rfl | (cases X <;> rfl)) rfl ?_
        refine pg_aload_n h d_Mod_takeOverlays_17 rfl ?_
        refine pg_aload_n h d_Mod_takeOverlays_18 rfl ?_
        refine pf_get h ok d_Mod_takeOverlays_19 f_Mod_38 (by first | rfl | exact hk | exact hk2 | exact dm12 _ | assumption) rfl rfl ?_
        refine pg_iload h d_Mod_takeOverlays_22 rfl ?_
        refine pf_ild h ok d_Mod_takeOverlays_24 (by first | rfl | exact hk | exact hk2 | exact dm12 _ | assumption) rfl (pg_ixN rfl (show 2 + 3 * i < 22 by omega) (by decide)) ?_
        refine pg_sipush (v := 256) h d_Mod_takeOverlays_25 (by decide) ?_
        refine pg_aload_n h d_Mod_takeOverlays_28 rfl ?_
        refine pf_get h ok d_Mod_takeOverlays_29 f_Mod_38 (by first | rfl | exact hk | exact hk2 | exact dm12 _ | assumption) rfl rfl ?_
        refine pg_iload h d_Mod_takeOverlays_32 rfl ?_
        refine pg_iconst (v := 1) h d_Mod_takeOverlays_34 (by decide) ?_
        refine pg_iadd h d_Mod_takeOverlays_35 ?_
        refine pf_ild h ok d_Mod_takeOverlays_36 (by first | rfl | exact hk | exact hk2 | exact dm12 _ | assumption) rfl (pg_ixN (nI_add (2 + 3 * i) 1) (show 2 + 3 * i + 1 < 22 by omega) (by decide)) ?_
        refine pg_imul h d_Mod_takeOverlays_37 ?_
        refine pg_iadd h d_Mod_takeOverlays_38 ?_
        refine pg_ldc (v := 65536) h d_Mod_takeOverlays_39 (pg_tb 786 rfl rfl) ?_
        refine pg_aload_n h d_Mod_takeOverlays_41 rfl ?_
        refine pf_get h ok d_Mod_takeOverlays_42 f_Mod_38 (by first | rfl | exact hk | exact hk2 | exact dm12 _ | assumption) rfl rfl ?_
        refine pg_iload h d_Mod_takeOverlays_45 rfl ?_
        refine pg_iconst (v := 2) h d_Mod_takeOverlays_47 (by decide) ?_
        refine pg_iadd h d_Mod_takeOverlays_48 ?_
        refine pf_ild h ok d_Mod_takeOverlays_49 (by first | rfl | exact hk | exact hk2 | exact dm12 _ | assumption) rfl (pg_ixN (nI_add (2 + 3 * i) 2) (show 2 + 3 * i + 2 < 22 by omega) (by decide)) ?_
        refine pg_imul h d_Mod_takeOverlays_50 ?_
        refine pg_iadd h d_Mod_takeOverlays_51 ?_
        rw [q0, q1, q2, em]
        refine pm_cV h ok (hR) (hg) d_Mod_takeOverlays_52 m_Mod_mended l_Mod_120 (hmend) rfl rfl rfl (Nat.le_of_ble_eq_true rfl) ⟨(Nat.le_of_ble_eq_true rfl), (Nat.le_of_ble_eq_true rfl)⟩ ⟨Nat.le_refl _, Nat.le_refl _⟩ (fun S52 hR52 hg52 => ?_)
        rw [hm1]
        refine pg_istore h d_Mod_takeOverlays_55 (Nat.le_of_ble_eq_true rfl) (by first | rfl | (cases X <;> rfl)) rfl ?_
        refine pg_iload h d_Mod_takeOverlays_57 rfl ?_
        refine pg_if_ge (tgt := 67) h d_Mod_takeOverlays_59 rfl (fun e59 => absurd e59 (by decide)) (fun e59 => ?_)
        refine pg_bipush (v := 63) h d_Mod_takeOverlays_62 (by decide) ?_
        refine pg_goto (tgt := 75) h d_Mod_takeOverlays_64 rfl ?_
        refine pg_istore h d_Mod_takeOverlays_75 (Nat.le_of_ble_eq_true rfl) (by first | rfl | (cases X <;> rfl)) rfl ?_
        refine pg_iload h d_Mod_takeOverlays_77 rfl ?_
        refine pg_if_ge (tgt := 86) h d_Mod_takeOverlays_79 rfl (fun e79 => absurd e79 (by decide)) (fun e79 => ?_)
        refine pg_iconst (v := 0) h d_Mod_takeOverlays_82 (by decide) ?_
        refine pg_goto (tgt := 94) h d_Mod_takeOverlays_83 rfl ?_
        refine pg_istore h d_Mod_takeOverlays_94 (Nat.le_of_ble_eq_true rfl) (by first | rfl | (cases X <;> rfl)) rfl ?_
        refine pg_iload h d_Mod_takeOverlays_96 rfl ?_
        refine pg_if_ge (tgt := 105) h d_Mod_takeOverlays_98 rfl (fun e98 => absurd e98 (by decide)) (fun e98 => ?_)
        refine pg_iconst (v := 0) h d_Mod_takeOverlays_101 (by decide) ?_
        refine pg_goto (tgt := 114) h d_Mod_takeOverlays_102 rfl ?_
        refine pg_istore h d_Mod_takeOverlays_114 (Nat.le_of_ble_eq_true rfl) (by first | rfl | (cases X <;> rfl)) rfl ?_
        refine pg_iload h d_Mod_takeOverlays_116 rfl ?_
        refine pg_bipush (v := 40) h d_Mod_takeOverlays_118 (by decide) ?_
        refine pg_icmp_lt (tgt := 142) h d_Mod_takeOverlays_120 rfl (fun e120 => absurd e120 (by decide)) (fun e120 => ?_)
        refine pg_iload h d_Mod_takeOverlays_123 rfl ?_
        refine pg_bipush (v := 48) h d_Mod_takeOverlays_125 (by decide) ?_
        refine pg_icmp_ge (tgt := 142) h d_Mod_takeOverlays_127 rfl (fun e127 => ?_) (fun e127 => absurd e127 (fun q => q (by decide)))
        refine pg_iload h d_Mod_takeOverlays_142 rfl ?_
        refine pg_bipush (v := 20) h d_Mod_takeOverlays_144 (by decide) ?_
        refine pg_icmp_ge (tgt := 202) h d_Mod_takeOverlays_146 rfl (fun e146 => ?_) (fun e146 => absurd e146 (fun q => q (by decide)))
        refine pg_iinc (w := 1) h d_Mod_takeOverlays_202 rfl (by decide) (Nat.le_of_ble_eq_true rfl) (by first | rfl | (cases X <;> rfl)) rfl ?_
        refine pg_goto (tgt := 4) h d_Mod_takeOverlays_205 rfl ?_
        rw [← nI_succ i]
        have q := fun X Y Z U V S => ih (i + 1) X Y Z U V S (by omega)
        simp only [eS] at q
        exact q _ _ _ _ _ _ hR52 hg52
      obtain ⟨hge, ebt⟩ := p5 hbad
      rw [if_neg hbad, ebt] at eS
      obtain ⟨t1, t2, t3⟩ := HT (mdP p f)
      generalize ht : bitsF (mdP p f) = t at *
      obtain ⟨ea, had⟩ := adF_eq t
      rw [ea] at t1
      obtain ⟨mn, hmn, emn⟩ := pk_andE (t >>> ((6 : Int32) &&& 31)) (m := 31) 5 (by decide)
      have emd : mdF t = nI mn := emn
      have l40 : (nI (adF t) < (40 : Int32)) = (adF t < 40) := q_lt had (n := 40) (by decide) rfl
      have l48 : ((48 : Int32) ≤ nI (adF t)) = (48 ≤ adF t) := q_ge had (n := 48) (by decide) rfl
      have l20 : ((20 : Int32) ≤ nI (adF t)) = (20 ≤ adF t) := q_ge had (n := 20) (by decide) rfl
      have hn16 : ¬ mdF t < 15 → ¬ mdF t = 15 → ¬ mdF t < 16 := by
        rw [emd]
        intro q1 q2 q3
        have r1 := mt (show nI mn < nI 15 ↔ _ from nI_ltI (by omega) (by decide)).mpr q1
        have r2 := mt (show nI mn = nI 15 ↔ _ from nI_eq (by omega) (by decide)).mpr q2
        have r3 := (show nI mn < nI 16 ↔ _ from nI_ltI (by omega) (by decide)).mp q3
        omega
      by_cases c40 : 40 ≤ adF t ∧ adF t ≤ 47 ∧ mdF t = 4
      · have ead : nI (adF t) - 40 = nI (adF t - 40) := pk_sub (a := adF t) (b := 40) (by omega)
        refine pg_iload_n h d_Mod_takeOverlays_4 rfl ?_
        refine pg_bipush (v := 6) h d_Mod_takeOverlays_5 (by decide) ?_
        refine pg_icmp_ge (tgt := 208) h d_Mod_takeOverlays_7 rfl (fun e7 => absurd e7 (nI_ge hi2 (by decide))) (fun e7 => ?_)
        refine pg_iconst (v := 2) h d_Mod_takeOverlays_10 (by decide) ?_
        refine pg_iconst (v := 3) h d_Mod_takeOverlays_11 (by decide) ?_
        refine pg_iload_n h d_Mod_takeOverlays_12 rfl ?_
        refine pg_imul h d_Mod_takeOverlays_13 ?_
        refine pg_iadd h d_Mod_takeOverlays_14 ?_
        rw [show (2 : Int32) + 3 * nI i = nI (2 + 3 * i) from ml3 2 i]
        refine pg_istore h d_Mod_takeOverlays_15 (Nat.le_of_ble_eq_true rfl) (by first | rfl | (cases X <;> rfl)) rfl ?_
        refine pg_aload_n h d_Mod_takeOverlays_17 rfl ?_
        refine pg_aload_n h d_Mod_takeOverlays_18 rfl ?_
        refine pf_get h ok d_Mod_takeOverlays_19 f_Mod_38 (by first | rfl | exact hk | exact hk2 | exact dm12 _ | assumption) rfl rfl ?_
        refine pg_iload h d_Mod_takeOverlays_22 rfl ?_
        refine pf_ild h ok d_Mod_takeOverlays_24 (by first | rfl | exact hk | exact hk2 | exact dm12 _ | assumption) rfl (pg_ixN rfl (show 2 + 3 * i < 22 by omega) (by decide)) ?_
        refine pg_sipush (v := 256) h d_Mod_takeOverlays_25 (by decide) ?_
        refine pg_aload_n h d_Mod_takeOverlays_28 rfl ?_
        refine pf_get h ok d_Mod_takeOverlays_29 f_Mod_38 (by first | rfl | exact hk | exact hk2 | exact dm12 _ | assumption) rfl rfl ?_
        refine pg_iload h d_Mod_takeOverlays_32 rfl ?_
        refine pg_iconst (v := 1) h d_Mod_takeOverlays_34 (by decide) ?_
        refine pg_iadd h d_Mod_takeOverlays_35 ?_
        refine pf_ild h ok d_Mod_takeOverlays_36 (by first | rfl | exact hk | exact hk2 | exact dm12 _ | assumption) rfl (pg_ixN (nI_add (2 + 3 * i) 1) (show 2 + 3 * i + 1 < 22 by omega) (by decide)) ?_
        refine pg_imul h d_Mod_takeOverlays_37 ?_
        refine pg_iadd h d_Mod_takeOverlays_38 ?_
        refine pg_ldc (v := 65536) h d_Mod_takeOverlays_39 (pg_tb 786 rfl rfl) ?_
        refine pg_aload_n h d_Mod_takeOverlays_41 rfl ?_
        refine pf_get h ok d_Mod_takeOverlays_42 f_Mod_38 (by first | rfl | exact hk | exact hk2 | exact dm12 _ | assumption) rfl rfl ?_
        refine pg_iload h d_Mod_takeOverlays_45 rfl ?_
        refine pg_iconst (v := 2) h d_Mod_takeOverlays_47 (by decide) ?_
        refine pg_iadd h d_Mod_takeOverlays_48 ?_
        refine pf_ild h ok d_Mod_takeOverlays_49 (by first | rfl | exact hk | exact hk2 | exact dm12 _ | assumption) rfl (pg_ixN (nI_add (2 + 3 * i) 2) (show 2 + 3 * i + 2 < 22 by omega) (by decide)) ?_
        refine pg_imul h d_Mod_takeOverlays_50 ?_
        refine pg_iadd h d_Mod_takeOverlays_51 ?_
        rw [q0, q1, q2, em]
        refine pm_cV h ok (hR) (hg) d_Mod_takeOverlays_52 m_Mod_mended l_Mod_120 (hmend) rfl rfl rfl (Nat.le_of_ble_eq_true rfl) ⟨(Nat.le_of_ble_eq_true rfl), (Nat.le_of_ble_eq_true rfl)⟩ ⟨Nat.le_refl _, Nat.le_refl _⟩ (fun S52 hR52 hg52 => ?_)
        refine pg_istore h d_Mod_takeOverlays_55 (Nat.le_of_ble_eq_true rfl) (by first | rfl | (cases X <;> rfl)) rfl ?_
        refine pg_iload h d_Mod_takeOverlays_57 rfl ?_
        refine pg_if_ge (tgt := 67) h d_Mod_takeOverlays_59 rfl (fun e59 => ?_) (fun e59 => absurd e59 (fun q => q hge))
        refine pg_iload h d_Mod_takeOverlays_67 rfl ?_
        refine pg_iconst (v := 0) h d_Mod_takeOverlays_69 (by decide) ?_
        refine pg_bipush (v := 6) h d_Mod_takeOverlays_70 (by decide) ?_
        refine pg_cS h d_Mod_takeOverlays_72 m_Mod_told l_Mod_123 (c_Mod_told w ok S52 (mdP p f) 0 6 (by decide) (by decide)) rfl rfl (Nat.le_of_ble_eq_true rfl) ⟨(Nat.le_of_ble_eq_true rfl), (Nat.le_of_ble_eq_true rfl)⟩ ⟨Nat.le_refl _, Nat.le_refl _⟩ ?_
        rw [t1]
        refine pg_istore h d_Mod_takeOverlays_75 (Nat.le_of_ble_eq_true rfl) (by first | rfl | (cases X <;> rfl)) rfl ?_
        refine pg_iload h d_Mod_takeOverlays_77 rfl ?_
        refine pg_if_ge (tgt := 86) h d_Mod_takeOverlays_79 rfl (fun e79 => ?_) (fun e79 => absurd e79 (fun q => q hge))
        refine pg_iload h d_Mod_takeOverlays_86 rfl ?_
        refine pg_bipush (v := 6) h d_Mod_takeOverlays_88 (by decide) ?_
        refine pg_iconst (v := 5) h d_Mod_takeOverlays_90 (by decide) ?_
        refine pg_cS h d_Mod_takeOverlays_91 m_Mod_told l_Mod_123 (c_Mod_told w ok S52 (mdP p f) 6 5 (by decide) (by decide)) rfl rfl (Nat.le_of_ble_eq_true rfl) ⟨(Nat.le_of_ble_eq_true rfl), (Nat.le_of_ble_eq_true rfl)⟩ ⟨Nat.le_refl _, Nat.le_refl _⟩ ?_
        rw [t2]
        refine pg_istore h d_Mod_takeOverlays_94 (Nat.le_of_ble_eq_true rfl) (by first | rfl | (cases X <;> rfl)) rfl ?_
        refine pg_iload h d_Mod_takeOverlays_96 rfl ?_
        refine pg_if_ge (tgt := 105) h d_Mod_takeOverlays_98 rfl (fun e98 => ?_) (fun e98 => absurd e98 (fun q => q hge))
        refine pg_iload h d_Mod_takeOverlays_105 rfl ?_
        refine pg_bipush (v := 11) h d_Mod_takeOverlays_107 (by decide) ?_
        refine pg_bipush (v := 7) h d_Mod_takeOverlays_109 (by decide) ?_
        refine pg_cS h d_Mod_takeOverlays_111 m_Mod_told l_Mod_123 (c_Mod_told w ok S52 (mdP p f) 11 7 (by decide) (by decide)) rfl rfl (Nat.le_of_ble_eq_true rfl) ⟨(Nat.le_of_ble_eq_true rfl), (Nat.le_of_ble_eq_true rfl)⟩ ⟨Nat.le_refl _, Nat.le_refl _⟩ ?_
        rw [t3]
        refine pg_istore h d_Mod_takeOverlays_114 (Nat.le_of_ble_eq_true rfl) (by first | rfl | (cases X <;> rfl)) rfl ?_
        refine pg_iload h d_Mod_takeOverlays_116 rfl ?_
        refine pg_bipush (v := 40) h d_Mod_takeOverlays_118 (by decide) ?_
        refine pg_icmp_lt (tgt := 142) h d_Mod_takeOverlays_120 rfl (fun e120 => absurd e120 (by rw [l40]; omega)) (fun e120 => ?_)
        refine pg_iload h d_Mod_takeOverlays_123 rfl ?_
        refine pg_bipush (v := 48) h d_Mod_takeOverlays_125 (by decide) ?_
        refine pg_icmp_ge (tgt := 142) h d_Mod_takeOverlays_127 rfl (fun e127 => absurd e127 (by rw [l48]; omega)) (fun e127 => ?_)
        refine pg_iload h d_Mod_takeOverlays_130 rfl ?_
        refine pg_iconst (v := 4) h d_Mod_takeOverlays_132 (by decide) ?_
        refine pg_icmp_ne (tgt := 142) h d_Mod_takeOverlays_133 rfl (fun e133 => absurd e133 (fun q => q c40.2.2)) (fun e133 => ?_)
        refine pg_iload h d_Mod_takeOverlays_136 rfl ?_
        refine pg_bipush (v := 40) h d_Mod_takeOverlays_138 (by decide) ?_
        refine pg_isub h d_Mod_takeOverlays_140 ?_
        rw [ead]
        refine pg_istore_n h d_Mod_takeOverlays_141 (Nat.le_of_ble_eq_true rfl) (by first | rfl | (cases X <;> rfl)) rfl ?_
        refine pg_iload h d_Mod_takeOverlays_142 rfl ?_
        refine pg_bipush (v := 20) h d_Mod_takeOverlays_144 (by decide) ?_
        refine pg_icmp_ge (tgt := 202) h d_Mod_takeOverlays_146 rfl (fun e146 => ?_) (fun e146 => absurd e146 (fun q => q (by rw [l20]; omega)))
        refine pg_iinc (w := 1) h d_Mod_takeOverlays_202 rfl (by decide) (Nat.le_of_ble_eq_true rfl) (by first | rfl | (cases X <;> rfl)) rfl ?_
        refine pg_goto (tgt := 4) h d_Mod_takeOverlays_205 rfl ?_
        rw [← nI_succ i]
        rw [trT, if_pos c40, trN, if_pos c40] at eS
        have q := fun X Y Z U V S => ih (i + 1) X Y Z U V S (by omega)
        simp only [eS] at q
        exact q _ _ _ _ _ _ (hR52) (hg52)
      have en : trN ta.2 t = ta.2 := by rw [trN, if_neg c40]
      by_cases a20 : adF t < 20
      · skip
        by_cases m15 : mdF t < 15
        · have et : ∀ B : pf_S, trT B m ta.2 t = B := fun B => by
            rw [trT, if_neg c40, if_neg (fun q => by rw [q.2] at m15; exact absurd m15 (by decide)), if_neg (fun q => q.2 (Int32.lt_trans m15 (by decide)))]
          refine pg_iload_n h d_Mod_takeOverlays_4 rfl ?_
          refine pg_bipush (v := 6) h d_Mod_takeOverlays_5 (by decide) ?_
          refine pg_icmp_ge (tgt := 208) h d_Mod_takeOverlays_7 rfl (fun e7 => absurd e7 (nI_ge hi2 (by decide))) (fun e7 => ?_)
          refine pg_iconst (v := 2) h d_Mod_takeOverlays_10 (by decide) ?_
          refine pg_iconst (v := 3) h d_Mod_takeOverlays_11 (by decide) ?_
          refine pg_iload_n h d_Mod_takeOverlays_12 rfl ?_
          refine pg_imul h d_Mod_takeOverlays_13 ?_
          refine pg_iadd h d_Mod_takeOverlays_14 ?_
          rw [show (2 : Int32) + 3 * nI i = nI (2 + 3 * i) from ml3 2 i]
          refine pg_istore h d_Mod_takeOverlays_15 (Nat.le_of_ble_eq_true rfl) (by first | rfl | (cases X <;> rfl)) rfl ?_
          refine pg_aload_n h d_Mod_takeOverlays_17 rfl ?_
          refine pg_aload_n h d_Mod_takeOverlays_18 rfl ?_
          refine pf_get h ok d_Mod_takeOverlays_19 f_Mod_38 (by first | rfl | exact hk | exact hk2 | exact dm12 _ | assumption) rfl rfl ?_
          refine pg_iload h d_Mod_takeOverlays_22 rfl ?_
          refine pf_ild h ok d_Mod_takeOverlays_24 (by first | rfl | exact hk | exact hk2 | exact dm12 _ | assumption) rfl (pg_ixN rfl (show 2 + 3 * i < 22 by omega) (by decide)) ?_
          refine pg_sipush (v := 256) h d_Mod_takeOverlays_25 (by decide) ?_
          refine pg_aload_n h d_Mod_takeOverlays_28 rfl ?_
          refine pf_get h ok d_Mod_takeOverlays_29 f_Mod_38 (by first | rfl | exact hk | exact hk2 | exact dm12 _ | assumption) rfl rfl ?_
          refine pg_iload h d_Mod_takeOverlays_32 rfl ?_
          refine pg_iconst (v := 1) h d_Mod_takeOverlays_34 (by decide) ?_
          refine pg_iadd h d_Mod_takeOverlays_35 ?_
          refine pf_ild h ok d_Mod_takeOverlays_36 (by first | rfl | exact hk | exact hk2 | exact dm12 _ | assumption) rfl (pg_ixN (nI_add (2 + 3 * i) 1) (show 2 + 3 * i + 1 < 22 by omega) (by decide)) ?_
          refine pg_imul h d_Mod_takeOverlays_37 ?_
          refine pg_iadd h d_Mod_takeOverlays_38 ?_
          refine pg_ldc (v := 65536) h d_Mod_takeOverlays_39 (pg_tb 786 rfl rfl) ?_
          refine pg_aload_n h d_Mod_takeOverlays_41 rfl ?_
          refine pf_get h ok d_Mod_takeOverlays_42 f_Mod_38 (by first | rfl | exact hk | exact hk2 | exact dm12 _ | assumption) rfl rfl ?_
          refine pg_iload h d_Mod_takeOverlays_45 rfl ?_
          refine pg_iconst (v := 2) h d_Mod_takeOverlays_47 (by decide) ?_
          refine pg_iadd h d_Mod_takeOverlays_48 ?_
          refine pf_ild h ok d_Mod_takeOverlays_49 (by first | rfl | exact hk | exact hk2 | exact dm12 _ | assumption) rfl (pg_ixN (nI_add (2 + 3 * i) 2) (show 2 + 3 * i + 2 < 22 by omega) (by decide)) ?_
          refine pg_imul h d_Mod_takeOverlays_50 ?_
          refine pg_iadd h d_Mod_takeOverlays_51 ?_
          rw [q0, q1, q2, em]
          refine pm_cV h ok (hR) (hg) d_Mod_takeOverlays_52 m_Mod_mended l_Mod_120 (hmend) rfl rfl rfl (Nat.le_of_ble_eq_true rfl) ⟨(Nat.le_of_ble_eq_true rfl), (Nat.le_of_ble_eq_true rfl)⟩ ⟨Nat.le_refl _, Nat.le_refl _⟩ (fun S52 hR52 hg52 => ?_)
          refine pg_istore h d_Mod_takeOverlays_55 (Nat.le_of_ble_eq_true rfl) (by first | rfl | (cases X <;> rfl)) rfl ?_
          refine pg_iload h d_Mod_takeOverlays_57 rfl ?_
          refine pg_if_ge (tgt := 67) h d_Mod_takeOverlays_59 rfl (fun e59 => ?_) (fun e59 => absurd e59 (fun q => q hge))
          refine pg_iload h d_Mod_takeOverlays_67 rfl ?_
          refine pg_iconst (v := 0) h d_Mod_takeOverlays_69 (by decide) ?_
          refine pg_bipush (v := 6) h d_Mod_takeOverlays_70 (by decide) ?_
          refine pg_cS h d_Mod_takeOverlays_72 m_Mod_told l_Mod_123 (c_Mod_told w ok S52 (mdP p f) 0 6 (by decide) (by decide)) rfl rfl (Nat.le_of_ble_eq_true rfl) ⟨(Nat.le_of_ble_eq_true rfl), (Nat.le_of_ble_eq_true rfl)⟩ ⟨Nat.le_refl _, Nat.le_refl _⟩ ?_
          rw [t1]
          refine pg_istore h d_Mod_takeOverlays_75 (Nat.le_of_ble_eq_true rfl) (by first | rfl | (cases X <;> rfl)) rfl ?_
          refine pg_iload h d_Mod_takeOverlays_77 rfl ?_
          refine pg_if_ge (tgt := 86) h d_Mod_takeOverlays_79 rfl (fun e79 => ?_) (fun e79 => absurd e79 (fun q => q hge))
          refine pg_iload h d_Mod_takeOverlays_86 rfl ?_
          refine pg_bipush (v := 6) h d_Mod_takeOverlays_88 (by decide) ?_
          refine pg_iconst (v := 5) h d_Mod_takeOverlays_90 (by decide) ?_
          refine pg_cS h d_Mod_takeOverlays_91 m_Mod_told l_Mod_123 (c_Mod_told w ok S52 (mdP p f) 6 5 (by decide) (by decide)) rfl rfl (Nat.le_of_ble_eq_true rfl) ⟨(Nat.le_of_ble_eq_true rfl), (Nat.le_of_ble_eq_true rfl)⟩ ⟨Nat.le_refl _, Nat.le_refl _⟩ ?_
          rw [t2]
          refine pg_istore h d_Mod_takeOverlays_94 (Nat.le_of_ble_eq_true rfl) (by first | rfl | (cases X <;> rfl)) rfl ?_
          refine pg_iload h d_Mod_takeOverlays_96 rfl ?_
          refine pg_if_ge (tgt := 105) h d_Mod_takeOverlays_98 rfl (fun e98 => ?_) (fun e98 => absurd e98 (fun q => q hge))
          refine pg_iload h d_Mod_takeOverlays_105 rfl ?_
          refine pg_bipush (v := 11) h d_Mod_takeOverlays_107 (by decide) ?_
          refine pg_bipush (v := 7) h d_Mod_takeOverlays_109 (by decide) ?_
          refine pg_cS h d_Mod_takeOverlays_111 m_Mod_told l_Mod_123 (c_Mod_told w ok S52 (mdP p f) 11 7 (by decide) (by decide)) rfl rfl (Nat.le_of_ble_eq_true rfl) ⟨(Nat.le_of_ble_eq_true rfl), (Nat.le_of_ble_eq_true rfl)⟩ ⟨Nat.le_refl _, Nat.le_refl _⟩ ?_
          rw [t3]
          refine pg_istore h d_Mod_takeOverlays_114 (Nat.le_of_ble_eq_true rfl) (by first | rfl | (cases X <;> rfl)) rfl ?_
          refine pg_iload h d_Mod_takeOverlays_116 rfl ?_
          refine pg_bipush (v := 40) h d_Mod_takeOverlays_118 (by decide) ?_
          refine pg_icmp_lt (tgt := 142) h d_Mod_takeOverlays_120 rfl (fun e120 => ?_) (fun e120 => absurd e120 (fun q => q (by rw [l40]; omega)))
          refine pg_iload h d_Mod_takeOverlays_142 rfl ?_
          refine pg_bipush (v := 20) h d_Mod_takeOverlays_144 (by decide) ?_
          refine pg_icmp_ge (tgt := 202) h d_Mod_takeOverlays_146 rfl (fun e146 => absurd e146 (by rw [l20]; omega)) (fun e146 => ?_)
          refine pg_iload h d_Mod_takeOverlays_149 rfl ?_
          refine pg_bipush (v := 15) h d_Mod_takeOverlays_151 (by decide) ?_
          refine pg_icmp_lt (tgt := 202) h d_Mod_takeOverlays_153 rfl (fun e153 => ?_) (fun e153 => absurd e153 (fun q => q m15))
          refine pg_iinc (w := 1) h d_Mod_takeOverlays_202 rfl (by decide) (Nat.le_of_ble_eq_true rfl) (by first | rfl | (cases X <;> rfl)) rfl ?_
          refine pg_goto (tgt := 4) h d_Mod_takeOverlays_205 rfl ?_
          rw [← nI_succ i]
          rw [et, en] at eS
          have q := fun X Y Z U V S => ih (i + 1) X Y Z U V S (by omega)
          simp only [eS] at q
          exact q _ _ _ _ _ _ (hR52) (hg52)
        by_cases m15e : mdF t = 15
        · have et : ∀ B : pf_S, trT B m ta.2 t = pf_st B 16 m (ta.2 * 20 + adF t) (dtF t + 128) := fun B => by
            rw [trT, if_neg c40, if_pos ⟨a20, m15e⟩]
          refine pg_iload_n h d_Mod_takeOverlays_4 rfl ?_
          refine pg_bipush (v := 6) h d_Mod_takeOverlays_5 (by decide) ?_
          refine pg_icmp_ge (tgt := 208) h d_Mod_takeOverlays_7 rfl (fun e7 => absurd e7 (nI_ge hi2 (by decide))) (fun e7 => ?_)
          refine pg_iconst (v := 2) h d_Mod_takeOverlays_10 (by decide) ?_
          refine pg_iconst (v := 3) h d_Mod_takeOverlays_11 (by decide) ?_
          refine pg_iload_n h d_Mod_takeOverlays_12 rfl ?_
          refine pg_imul h d_Mod_takeOverlays_13 ?_
          refine pg_iadd h d_Mod_takeOverlays_14 ?_
          rw [show (2 : Int32) + 3 * nI i = nI (2 + 3 * i) from ml3 2 i]
          refine pg_istore h d_Mod_takeOverlays_15 (Nat.le_of_ble_eq_true rfl) (by first | rfl | (cases X <;> rfl)) rfl ?_
          refine pg_aload_n h d_Mod_takeOverlays_17 rfl ?_
          refine pg_aload_n h d_Mod_takeOverlays_18 rfl ?_
          refine pf_get h ok d_Mod_takeOverlays_19 f_Mod_38 (by first | rfl | exact hk | exact hk2 | exact dm12 _ | assumption) rfl rfl ?_
          refine pg_iload h d_Mod_takeOverlays_22 rfl ?_
          refine pf_ild h ok d_Mod_takeOverlays_24 (by first | rfl | exact hk | exact hk2 | exact dm12 _ | assumption) rfl (pg_ixN rfl (show 2 + 3 * i < 22 by omega) (by decide)) ?_
          refine pg_sipush (v := 256) h d_Mod_takeOverlays_25 (by decide) ?_
          refine pg_aload_n h d_Mod_takeOverlays_28 rfl ?_
          refine pf_get h ok d_Mod_takeOverlays_29 f_Mod_38 (by first | rfl | exact hk | exact hk2 | exact dm12 _ | assumption) rfl rfl ?_
          refine pg_iload h d_Mod_takeOverlays_32 rfl ?_
          refine pg_iconst (v := 1) h d_Mod_takeOverlays_34 (by decide) ?_
          refine pg_iadd h d_Mod_takeOverlays_35 ?_
          refine pf_ild h ok d_Mod_takeOverlays_36 (by first | rfl | exact hk | exact hk2 | exact dm12 _ | assumption) rfl (pg_ixN (nI_add (2 + 3 * i) 1) (show 2 + 3 * i + 1 < 22 by omega) (by decide)) ?_
          refine pg_imul h d_Mod_takeOverlays_37 ?_
          refine pg_iadd h d_Mod_takeOverlays_38 ?_
          refine pg_ldc (v := 65536) h d_Mod_takeOverlays_39 (pg_tb 786 rfl rfl) ?_
          refine pg_aload_n h d_Mod_takeOverlays_41 rfl ?_
          refine pf_get h ok d_Mod_takeOverlays_42 f_Mod_38 (by first | rfl | exact hk | exact hk2 | exact dm12 _ | assumption) rfl rfl ?_
          refine pg_iload h d_Mod_takeOverlays_45 rfl ?_
          refine pg_iconst (v := 2) h d_Mod_takeOverlays_47 (by decide) ?_
          refine pg_iadd h d_Mod_takeOverlays_48 ?_
          refine pf_ild h ok d_Mod_takeOverlays_49 (by first | rfl | exact hk | exact hk2 | exact dm12 _ | assumption) rfl (pg_ixN (nI_add (2 + 3 * i) 2) (show 2 + 3 * i + 2 < 22 by omega) (by decide)) ?_
          refine pg_imul h d_Mod_takeOverlays_50 ?_
          refine pg_iadd h d_Mod_takeOverlays_51 ?_
          rw [q0, q1, q2, em]
          refine pm_cV h ok (hR) (hg) d_Mod_takeOverlays_52 m_Mod_mended l_Mod_120 (hmend) rfl rfl rfl (Nat.le_of_ble_eq_true rfl) ⟨(Nat.le_of_ble_eq_true rfl), (Nat.le_of_ble_eq_true rfl)⟩ ⟨Nat.le_refl _, Nat.le_refl _⟩ (fun S52 hR52 hg52 => ?_)
          refine pg_istore h d_Mod_takeOverlays_55 (Nat.le_of_ble_eq_true rfl) (by first | rfl | (cases X <;> rfl)) rfl ?_
          refine pg_iload h d_Mod_takeOverlays_57 rfl ?_
          refine pg_if_ge (tgt := 67) h d_Mod_takeOverlays_59 rfl (fun e59 => ?_) (fun e59 => absurd e59 (fun q => q hge))
          refine pg_iload h d_Mod_takeOverlays_67 rfl ?_
          refine pg_iconst (v := 0) h d_Mod_takeOverlays_69 (by decide) ?_
          refine pg_bipush (v := 6) h d_Mod_takeOverlays_70 (by decide) ?_
          refine pg_cS h d_Mod_takeOverlays_72 m_Mod_told l_Mod_123 (c_Mod_told w ok S52 (mdP p f) 0 6 (by decide) (by decide)) rfl rfl (Nat.le_of_ble_eq_true rfl) ⟨(Nat.le_of_ble_eq_true rfl), (Nat.le_of_ble_eq_true rfl)⟩ ⟨Nat.le_refl _, Nat.le_refl _⟩ ?_
          rw [t1]
          refine pg_istore h d_Mod_takeOverlays_75 (Nat.le_of_ble_eq_true rfl) (by first | rfl | (cases X <;> rfl)) rfl ?_
          refine pg_iload h d_Mod_takeOverlays_77 rfl ?_
          refine pg_if_ge (tgt := 86) h d_Mod_takeOverlays_79 rfl (fun e79 => ?_) (fun e79 => absurd e79 (fun q => q hge))
          refine pg_iload h d_Mod_takeOverlays_86 rfl ?_
          refine pg_bipush (v := 6) h d_Mod_takeOverlays_88 (by decide) ?_
          refine pg_iconst (v := 5) h d_Mod_takeOverlays_90 (by decide) ?_
          refine pg_cS h d_Mod_takeOverlays_91 m_Mod_told l_Mod_123 (c_Mod_told w ok S52 (mdP p f) 6 5 (by decide) (by decide)) rfl rfl (Nat.le_of_ble_eq_true rfl) ⟨(Nat.le_of_ble_eq_true rfl), (Nat.le_of_ble_eq_true rfl)⟩ ⟨Nat.le_refl _, Nat.le_refl _⟩ ?_
          rw [t2]
          refine pg_istore h d_Mod_takeOverlays_94 (Nat.le_of_ble_eq_true rfl) (by first | rfl | (cases X <;> rfl)) rfl ?_
          refine pg_iload h d_Mod_takeOverlays_96 rfl ?_
          refine pg_if_ge (tgt := 105) h d_Mod_takeOverlays_98 rfl (fun e98 => ?_) (fun e98 => absurd e98 (fun q => q hge))
          refine pg_iload h d_Mod_takeOverlays_105 rfl ?_
          refine pg_bipush (v := 11) h d_Mod_takeOverlays_107 (by decide) ?_
          refine pg_bipush (v := 7) h d_Mod_takeOverlays_109 (by decide) ?_
          refine pg_cS h d_Mod_takeOverlays_111 m_Mod_told l_Mod_123 (c_Mod_told w ok S52 (mdP p f) 11 7 (by decide) (by decide)) rfl rfl (Nat.le_of_ble_eq_true rfl) ⟨(Nat.le_of_ble_eq_true rfl), (Nat.le_of_ble_eq_true rfl)⟩ ⟨Nat.le_refl _, Nat.le_refl _⟩ ?_
          rw [t3]
          refine pg_istore h d_Mod_takeOverlays_114 (Nat.le_of_ble_eq_true rfl) (by first | rfl | (cases X <;> rfl)) rfl ?_
          refine pg_iload h d_Mod_takeOverlays_116 rfl ?_
          refine pg_bipush (v := 40) h d_Mod_takeOverlays_118 (by decide) ?_
          refine pg_icmp_lt (tgt := 142) h d_Mod_takeOverlays_120 rfl (fun e120 => ?_) (fun e120 => absurd e120 (fun q => q (by rw [l40]; omega)))
          refine pg_iload h d_Mod_takeOverlays_142 rfl ?_
          refine pg_bipush (v := 20) h d_Mod_takeOverlays_144 (by decide) ?_
          refine pg_icmp_ge (tgt := 202) h d_Mod_takeOverlays_146 rfl (fun e146 => absurd e146 (by rw [l20]; omega)) (fun e146 => ?_)
          refine pg_iload h d_Mod_takeOverlays_149 rfl ?_
          refine pg_bipush (v := 15) h d_Mod_takeOverlays_151 (by decide) ?_
          refine pg_icmp_lt (tgt := 202) h d_Mod_takeOverlays_153 rfl (fun e153 => absurd e153 m15) (fun e153 => ?_)
          refine pg_aload_n h d_Mod_takeOverlays_156 rfl ?_
          refine pf_get h ok d_Mod_takeOverlays_157 f_Mod_32 (by first | rfl | exact hk | exact hk2 | exact dm12 _ | assumption) rfl rfl ?_
          refine pg_sipush (v := 160) h d_Mod_takeOverlays_160 (by decide) ?_
          refine pg_iload_n h d_Mod_takeOverlays_163 rfl ?_
          refine pg_imul h d_Mod_takeOverlays_164 ?_
          refine pg_bipush (v := 20) h d_Mod_takeOverlays_165 (by decide) ?_
          refine pg_iload_n h d_Mod_takeOverlays_167 rfl ?_
          refine pg_imul h d_Mod_takeOverlays_168 ?_
          refine pg_iadd h d_Mod_takeOverlays_169 ?_
          refine pg_iload h d_Mod_takeOverlays_170 rfl ?_
          refine pg_iadd h d_Mod_takeOverlays_172 ?_
          refine pg_iload h d_Mod_takeOverlays_173 rfl ?_
          refine pg_bipush (v := 15) h d_Mod_takeOverlays_175 (by decide) ?_
          refine pg_icmp_ne (tgt := 189) h d_Mod_takeOverlays_177 rfl (fun e177 => absurd e177 (fun q => q m15e)) (fun e177 => ?_)
          refine pg_iload h d_Mod_takeOverlays_180 rfl ?_
          refine pg_sipush (v := 128) h d_Mod_takeOverlays_182 (by decide) ?_
          refine pg_iadd h d_Mod_takeOverlays_185 ?_
          refine pg_goto (tgt := 201) h d_Mod_takeOverlays_186 rfl ?_
          refine pf_ist h ok d_Mod_takeOverlays_201 (by first | rfl | exact hk | exact hk2 | exact dm12 _ | assumption) (fun _ => rfl) (pg_ixN (ik3 m ta.2 (adF t)) (show 160 * m + (ta.2 * 20 + adF t) < 2080 by omega) (by decide)) ?_
          refine pg_iinc (w := 1) h d_Mod_takeOverlays_202 rfl (by decide) (Nat.le_of_ble_eq_true rfl) (by first | rfl | (cases X <;> rfl)) rfl ?_
          refine pg_goto (tgt := 4) h d_Mod_takeOverlays_205 rfl ?_
          rw [← nI_succ i]
          rw [et, en] at eS
          have q := fun X Y Z U V S => ih (i + 1) X Y Z U V S (by omega)
          simp only [eS] at q
          exact q _ _ _ _ _ _ (hR52.ovl (by omega)) (hg52.st (by decide))
        · have et : ∀ B : pf_S, trT B m ta.2 t = pf_st B 16 m (ta.2 * 20 + adF t) (dtF t + 256 * (mdF t - 15)) := fun B => by
            rw [trT, if_neg c40, if_neg (fun q => m15e q.2), if_pos ⟨a20, hn16 m15 m15e⟩]
          refine pg_iload_n h d_Mod_takeOverlays_4 rfl ?_
          refine pg_bipush (v := 6) h d_Mod_takeOverlays_5 (by decide) ?_
          refine pg_icmp_ge (tgt := 208) h d_Mod_takeOverlays_7 rfl (fun e7 => absurd e7 (nI_ge hi2 (by decide))) (fun e7 => ?_)
          refine pg_iconst (v := 2) h d_Mod_takeOverlays_10 (by decide) ?_
          refine pg_iconst (v := 3) h d_Mod_takeOverlays_11 (by decide) ?_
          refine pg_iload_n h d_Mod_takeOverlays_12 rfl ?_
          refine pg_imul h d_Mod_takeOverlays_13 ?_
          refine pg_iadd h d_Mod_takeOverlays_14 ?_
          rw [show (2 : Int32) + 3 * nI i = nI (2 + 3 * i) from ml3 2 i]
          refine pg_istore h d_Mod_takeOverlays_15 (Nat.le_of_ble_eq_true rfl) (by first | rfl | (cases X <;> rfl)) rfl ?_
          refine pg_aload_n h d_Mod_takeOverlays_17 rfl ?_
          refine pg_aload_n h d_Mod_takeOverlays_18 rfl ?_
          refine pf_get h ok d_Mod_takeOverlays_19 f_Mod_38 (by first | rfl | exact hk | exact hk2 | exact dm12 _ | assumption) rfl rfl ?_
          refine pg_iload h d_Mod_takeOverlays_22 rfl ?_
          refine pf_ild h ok d_Mod_takeOverlays_24 (by first | rfl | exact hk | exact hk2 | exact dm12 _ | assumption) rfl (pg_ixN rfl (show 2 + 3 * i < 22 by omega) (by decide)) ?_
          refine pg_sipush (v := 256) h d_Mod_takeOverlays_25 (by decide) ?_
          refine pg_aload_n h d_Mod_takeOverlays_28 rfl ?_
          refine pf_get h ok d_Mod_takeOverlays_29 f_Mod_38 (by first | rfl | exact hk | exact hk2 | exact dm12 _ | assumption) rfl rfl ?_
          refine pg_iload h d_Mod_takeOverlays_32 rfl ?_
          refine pg_iconst (v := 1) h d_Mod_takeOverlays_34 (by decide) ?_
          refine pg_iadd h d_Mod_takeOverlays_35 ?_
          refine pf_ild h ok d_Mod_takeOverlays_36 (by first | rfl | exact hk | exact hk2 | exact dm12 _ | assumption) rfl (pg_ixN (nI_add (2 + 3 * i) 1) (show 2 + 3 * i + 1 < 22 by omega) (by decide)) ?_
          refine pg_imul h d_Mod_takeOverlays_37 ?_
          refine pg_iadd h d_Mod_takeOverlays_38 ?_
          refine pg_ldc (v := 65536) h d_Mod_takeOverlays_39 (pg_tb 786 rfl rfl) ?_
          refine pg_aload_n h d_Mod_takeOverlays_41 rfl ?_
          refine pf_get h ok d_Mod_takeOverlays_42 f_Mod_38 (by first | rfl | exact hk | exact hk2 | exact dm12 _ | assumption) rfl rfl ?_
          refine pg_iload h d_Mod_takeOverlays_45 rfl ?_
          refine pg_iconst (v := 2) h d_Mod_takeOverlays_47 (by decide) ?_
          refine pg_iadd h d_Mod_takeOverlays_48 ?_
          refine pf_ild h ok d_Mod_takeOverlays_49 (by first | rfl | exact hk | exact hk2 | exact dm12 _ | assumption) rfl (pg_ixN (nI_add (2 + 3 * i) 2) (show 2 + 3 * i + 2 < 22 by omega) (by decide)) ?_
          refine pg_imul h d_Mod_takeOverlays_50 ?_
          refine pg_iadd h d_Mod_takeOverlays_51 ?_
          rw [q0, q1, q2, em]
          refine pm_cV h ok (hR) (hg) d_Mod_takeOverlays_52 m_Mod_mended l_Mod_120 (hmend) rfl rfl rfl (Nat.le_of_ble_eq_true rfl) ⟨(Nat.le_of_ble_eq_true rfl), (Nat.le_of_ble_eq_true rfl)⟩ ⟨Nat.le_refl _, Nat.le_refl _⟩ (fun S52 hR52 hg52 => ?_)
          refine pg_istore h d_Mod_takeOverlays_55 (Nat.le_of_ble_eq_true rfl) (by first | rfl | (cases X <;> rfl)) rfl ?_
          refine pg_iload h d_Mod_takeOverlays_57 rfl ?_
          refine pg_if_ge (tgt := 67) h d_Mod_takeOverlays_59 rfl (fun e59 => ?_) (fun e59 => absurd e59 (fun q => q hge))
          refine pg_iload h d_Mod_takeOverlays_67 rfl ?_
          refine pg_iconst (v := 0) h d_Mod_takeOverlays_69 (by decide) ?_
          refine pg_bipush (v := 6) h d_Mod_takeOverlays_70 (by decide) ?_
          refine pg_cS h d_Mod_takeOverlays_72 m_Mod_told l_Mod_123 (c_Mod_told w ok S52 (mdP p f) 0 6 (by decide) (by decide)) rfl rfl (Nat.le_of_ble_eq_true rfl) ⟨(Nat.le_of_ble_eq_true rfl), (Nat.le_of_ble_eq_true rfl)⟩ ⟨Nat.le_refl _, Nat.le_refl _⟩ ?_
          rw [t1]
          refine pg_istore h d_Mod_takeOverlays_75 (Nat.le_of_ble_eq_true rfl) (by first | rfl | (cases X <;> rfl)) rfl ?_
          refine pg_iload h d_Mod_takeOverlays_77 rfl ?_
          refine pg_if_ge (tgt := 86) h d_Mod_takeOverlays_79 rfl (fun e79 => ?_) (fun e79 => absurd e79 (fun q => q hge))
          refine pg_iload h d_Mod_takeOverlays_86 rfl ?_
          refine pg_bipush (v := 6) h d_Mod_takeOverlays_88 (by decide) ?_
          refine pg_iconst (v := 5) h d_Mod_takeOverlays_90 (by decide) ?_
          refine pg_cS h d_Mod_takeOverlays_91 m_Mod_told l_Mod_123 (c_Mod_told w ok S52 (mdP p f) 6 5 (by decide) (by decide)) rfl rfl (Nat.le_of_ble_eq_true rfl) ⟨(Nat.le_of_ble_eq_true rfl), (Nat.le_of_ble_eq_true rfl)⟩ ⟨Nat.le_refl _, Nat.le_refl _⟩ ?_
          rw [t2]
          refine pg_istore h d_Mod_takeOverlays_94 (Nat.le_of_ble_eq_true rfl) (by first | rfl | (cases X <;> rfl)) rfl ?_
          refine pg_iload h d_Mod_takeOverlays_96 rfl ?_
          refine pg_if_ge (tgt := 105) h d_Mod_takeOverlays_98 rfl (fun e98 => ?_) (fun e98 => absurd e98 (fun q => q hge))
          refine pg_iload h d_Mod_takeOverlays_105 rfl ?_
          refine pg_bipush (v := 11) h d_Mod_takeOverlays_107 (by decide) ?_
          refine pg_bipush (v := 7) h d_Mod_takeOverlays_109 (by decide) ?_
          refine pg_cS h d_Mod_takeOverlays_111 m_Mod_told l_Mod_123 (c_Mod_told w ok S52 (mdP p f) 11 7 (by decide) (by decide)) rfl rfl (Nat.le_of_ble_eq_true rfl) ⟨(Nat.le_of_ble_eq_true rfl), (Nat.le_of_ble_eq_true rfl)⟩ ⟨Nat.le_refl _, Nat.le_refl _⟩ ?_
          rw [t3]
          refine pg_istore h d_Mod_takeOverlays_114 (Nat.le_of_ble_eq_true rfl) (by first | rfl | (cases X <;> rfl)) rfl ?_
          refine pg_iload h d_Mod_takeOverlays_116 rfl ?_
          refine pg_bipush (v := 40) h d_Mod_takeOverlays_118 (by decide) ?_
          refine pg_icmp_lt (tgt := 142) h d_Mod_takeOverlays_120 rfl (fun e120 => ?_) (fun e120 => absurd e120 (fun q => q (by rw [l40]; omega)))
          refine pg_iload h d_Mod_takeOverlays_142 rfl ?_
          refine pg_bipush (v := 20) h d_Mod_takeOverlays_144 (by decide) ?_
          refine pg_icmp_ge (tgt := 202) h d_Mod_takeOverlays_146 rfl (fun e146 => absurd e146 (by rw [l20]; omega)) (fun e146 => ?_)
          refine pg_iload h d_Mod_takeOverlays_149 rfl ?_
          refine pg_bipush (v := 15) h d_Mod_takeOverlays_151 (by decide) ?_
          refine pg_icmp_lt (tgt := 202) h d_Mod_takeOverlays_153 rfl (fun e153 => absurd e153 m15) (fun e153 => ?_)
          refine pg_aload_n h d_Mod_takeOverlays_156 rfl ?_
          refine pf_get h ok d_Mod_takeOverlays_157 f_Mod_32 (by first | rfl | exact hk | exact hk2 | exact dm12 _ | assumption) rfl rfl ?_
          refine pg_sipush (v := 160) h d_Mod_takeOverlays_160 (by decide) ?_
          refine pg_iload_n h d_Mod_takeOverlays_163 rfl ?_
          refine pg_imul h d_Mod_takeOverlays_164 ?_
          refine pg_bipush (v := 20) h d_Mod_takeOverlays_165 (by decide) ?_
          refine pg_iload_n h d_Mod_takeOverlays_167 rfl ?_
          refine pg_imul h d_Mod_takeOverlays_168 ?_
          refine pg_iadd h d_Mod_takeOverlays_169 ?_
          refine pg_iload h d_Mod_takeOverlays_170 rfl ?_
          refine pg_iadd h d_Mod_takeOverlays_172 ?_
          refine pg_iload h d_Mod_takeOverlays_173 rfl ?_
          refine pg_bipush (v := 15) h d_Mod_takeOverlays_175 (by decide) ?_
          refine pg_icmp_ne (tgt := 189) h d_Mod_takeOverlays_177 rfl (fun e177 => ?_) (fun e177 => absurd e177 m15e)
          refine pg_iload h d_Mod_takeOverlays_189 rfl ?_
          refine pg_sipush (v := 256) h d_Mod_takeOverlays_191 (by decide) ?_
          refine pg_iload h d_Mod_takeOverlays_194 rfl ?_
          refine pg_bipush (v := 15) h d_Mod_takeOverlays_196 (by decide) ?_
          refine pg_isub h d_Mod_takeOverlays_198 ?_
          refine pg_imul h d_Mod_takeOverlays_199 ?_
          refine pg_iadd h d_Mod_takeOverlays_200 ?_
          refine pf_ist h ok d_Mod_takeOverlays_201 (by first | rfl | exact hk | exact hk2 | exact dm12 _ | assumption) (fun _ => rfl) (pg_ixN (ik3 m ta.2 (adF t)) (show 160 * m + (ta.2 * 20 + adF t) < 2080 by omega) (by decide)) ?_
          refine pg_iinc (w := 1) h d_Mod_takeOverlays_202 rfl (by decide) (Nat.le_of_ble_eq_true rfl) (by first | rfl | (cases X <;> rfl)) rfl ?_
          refine pg_goto (tgt := 4) h d_Mod_takeOverlays_205 rfl ?_
          rw [← nI_succ i]
          rw [et, en] at eS
          have q := fun X Y Z U V S => ih (i + 1) X Y Z U V S (by omega)
          simp only [eS] at q
          exact q _ _ _ _ _ _ (hR52.ovl (by omega)) (hg52.st (by decide))
      have et : ∀ B : pf_S, trT B m ta.2 t = B := fun B => by
        rw [trT, if_neg c40, if_neg (fun q => a20 q.1), if_neg (fun q => a20 q.1)]
      refine pg_iload_n h d_Mod_takeOverlays_4 rfl ?_
      refine pg_bipush (v := 6) h d_Mod_takeOverlays_5 (by decide) ?_
      refine pg_icmp_ge (tgt := 208) h d_Mod_takeOverlays_7 rfl (fun e7 => absurd e7 (nI_ge hi2 (by decide))) (fun e7 => ?_)
      refine pg_iconst (v := 2) h d_Mod_takeOverlays_10 (by decide) ?_
      refine pg_iconst (v := 3) h d_Mod_takeOverlays_11 (by decide) ?_
      refine pg_iload_n h d_Mod_takeOverlays_12 rfl ?_
      refine pg_imul h d_Mod_takeOverlays_13 ?_
      refine pg_iadd h d_Mod_takeOverlays_14 ?_
      rw [show (2 : Int32) + 3 * nI i = nI (2 + 3 * i) from ml3 2 i]
      refine pg_istore h d_Mod_takeOverlays_15 (Nat.le_of_ble_eq_true rfl) (by first | rfl | (cases X <;> rfl)) rfl ?_
      refine pg_aload_n h d_Mod_takeOverlays_17 rfl ?_
      refine pg_aload_n h d_Mod_takeOverlays_18 rfl ?_
      refine pf_get h ok d_Mod_takeOverlays_19 f_Mod_38 (by first | rfl | exact hk | exact hk2 | exact dm12 _ | assumption) rfl rfl ?_
      refine pg_iload h d_Mod_takeOverlays_22 rfl ?_
      refine pf_ild h ok d_Mod_takeOverlays_24 (by first | rfl | exact hk | exact hk2 | exact dm12 _ | assumption) rfl (pg_ixN rfl (show 2 + 3 * i < 22 by omega) (by decide)) ?_
      refine pg_sipush (v := 256) h d_Mod_takeOverlays_25 (by decide) ?_
      refine pg_aload_n h d_Mod_takeOverlays_28 rfl ?_
      refine pf_get h ok d_Mod_takeOverlays_29 f_Mod_38 (by first | rfl | exact hk | exact hk2 | exact dm12 _ | assumption) rfl rfl ?_
      refine pg_iload h d_Mod_takeOverlays_32 rfl ?_
      refine pg_iconst (v := 1) h d_Mod_takeOverlays_34 (by decide) ?_
      refine pg_iadd h d_Mod_takeOverlays_35 ?_
      refine pf_ild h ok d_Mod_takeOverlays_36 (by first | rfl | exact hk | exact hk2 | exact dm12 _ | assumption) rfl (pg_ixN (nI_add (2 + 3 * i) 1) (show 2 + 3 * i + 1 < 22 by omega) (by decide)) ?_
      refine pg_imul h d_Mod_takeOverlays_37 ?_
      refine pg_iadd h d_Mod_takeOverlays_38 ?_
      refine pg_ldc (v := 65536) h d_Mod_takeOverlays_39 (pg_tb 786 rfl rfl) ?_
      refine pg_aload_n h d_Mod_takeOverlays_41 rfl ?_
      refine pf_get h ok d_Mod_takeOverlays_42 f_Mod_38 (by first | rfl | exact hk | exact hk2 | exact dm12 _ | assumption) rfl rfl ?_
      refine pg_iload h d_Mod_takeOverlays_45 rfl ?_
      refine pg_iconst (v := 2) h d_Mod_takeOverlays_47 (by decide) ?_
      refine pg_iadd h d_Mod_takeOverlays_48 ?_
      refine pf_ild h ok d_Mod_takeOverlays_49 (by first | rfl | exact hk | exact hk2 | exact dm12 _ | assumption) rfl (pg_ixN (nI_add (2 + 3 * i) 2) (show 2 + 3 * i + 2 < 22 by omega) (by decide)) ?_
      refine pg_imul h d_Mod_takeOverlays_50 ?_
      refine pg_iadd h d_Mod_takeOverlays_51 ?_
      rw [q0, q1, q2, em]
      refine pm_cV h ok (hR) (hg) d_Mod_takeOverlays_52 m_Mod_mended l_Mod_120 (hmend) rfl rfl rfl (Nat.le_of_ble_eq_true rfl) ⟨(Nat.le_of_ble_eq_true rfl), (Nat.le_of_ble_eq_true rfl)⟩ ⟨Nat.le_refl _, Nat.le_refl _⟩ (fun S52 hR52 hg52 => ?_)
      refine pg_istore h d_Mod_takeOverlays_55 (Nat.le_of_ble_eq_true rfl) (by first | rfl | (cases X <;> rfl)) rfl ?_
      refine pg_iload h d_Mod_takeOverlays_57 rfl ?_
      refine pg_if_ge (tgt := 67) h d_Mod_takeOverlays_59 rfl (fun e59 => ?_) (fun e59 => absurd e59 (fun q => q hge))
      refine pg_iload h d_Mod_takeOverlays_67 rfl ?_
      refine pg_iconst (v := 0) h d_Mod_takeOverlays_69 (by decide) ?_
      refine pg_bipush (v := 6) h d_Mod_takeOverlays_70 (by decide) ?_
      refine pg_cS h d_Mod_takeOverlays_72 m_Mod_told l_Mod_123 (c_Mod_told w ok S52 (mdP p f) 0 6 (by decide) (by decide)) rfl rfl (Nat.le_of_ble_eq_true rfl) ⟨(Nat.le_of_ble_eq_true rfl), (Nat.le_of_ble_eq_true rfl)⟩ ⟨Nat.le_refl _, Nat.le_refl _⟩ ?_
      rw [t1]
      refine pg_istore h d_Mod_takeOverlays_75 (Nat.le_of_ble_eq_true rfl) (by first | rfl | (cases X <;> rfl)) rfl ?_
      refine pg_iload h d_Mod_takeOverlays_77 rfl ?_
      refine pg_if_ge (tgt := 86) h d_Mod_takeOverlays_79 rfl (fun e79 => ?_) (fun e79 => absurd e79 (fun q => q hge))
      refine pg_iload h d_Mod_takeOverlays_86 rfl ?_
      refine pg_bipush (v := 6) h d_Mod_takeOverlays_88 (by decide) ?_
      refine pg_iconst (v := 5) h d_Mod_takeOverlays_90 (by decide) ?_
      refine pg_cS h d_Mod_takeOverlays_91 m_Mod_told l_Mod_123 (c_Mod_told w ok S52 (mdP p f) 6 5 (by decide) (by decide)) rfl rfl (Nat.le_of_ble_eq_true rfl) ⟨(Nat.le_of_ble_eq_true rfl), (Nat.le_of_ble_eq_true rfl)⟩ ⟨Nat.le_refl _, Nat.le_refl _⟩ ?_
      rw [t2]
      refine pg_istore h d_Mod_takeOverlays_94 (Nat.le_of_ble_eq_true rfl) (by first | rfl | (cases X <;> rfl)) rfl ?_
      refine pg_iload h d_Mod_takeOverlays_96 rfl ?_
      refine pg_if_ge (tgt := 105) h d_Mod_takeOverlays_98 rfl (fun e98 => ?_) (fun e98 => absurd e98 (fun q => q hge))
      refine pg_iload h d_Mod_takeOverlays_105 rfl ?_
      refine pg_bipush (v := 11) h d_Mod_takeOverlays_107 (by decide) ?_
      refine pg_bipush (v := 7) h d_Mod_takeOverlays_109 (by decide) ?_
      refine pg_cS h d_Mod_takeOverlays_111 m_Mod_told l_Mod_123 (c_Mod_told w ok S52 (mdP p f) 11 7 (by decide) (by decide)) rfl rfl (Nat.le_of_ble_eq_true rfl) ⟨(Nat.le_of_ble_eq_true rfl), (Nat.le_of_ble_eq_true rfl)⟩ ⟨Nat.le_refl _, Nat.le_refl _⟩ ?_
      rw [t3]
      refine pg_istore h d_Mod_takeOverlays_114 (Nat.le_of_ble_eq_true rfl) (by first | rfl | (cases X <;> rfl)) rfl ?_
      refine pg_iload h d_Mod_takeOverlays_116 rfl ?_
      refine pg_bipush (v := 40) h d_Mod_takeOverlays_118 (by decide) ?_
      refine pg_icmp_lt (tgt := 142) h d_Mod_takeOverlays_120 rfl (fun e120 => ?_) (fun e120 => ?_)
      · skip
        refine pg_iload h d_Mod_takeOverlays_142 rfl ?_
        refine pg_bipush (v := 20) h d_Mod_takeOverlays_144 (by decide) ?_
        refine pg_icmp_ge (tgt := 202) h d_Mod_takeOverlays_146 rfl (fun e146 => ?_) (fun e146 => absurd e146 (fun q => q (by rw [l20]; omega)))
        refine pg_iinc (w := 1) h d_Mod_takeOverlays_202 rfl (by decide) (Nat.le_of_ble_eq_true rfl) (by first | rfl | (cases X <;> rfl)) rfl ?_
        refine pg_goto (tgt := 4) h d_Mod_takeOverlays_205 rfl ?_
        rw [← nI_succ i]
        rw [et, en] at eS
        have q := fun X Y Z U V S => ih (i + 1) X Y Z U V S (by omega)
        simp only [eS] at q
        exact q _ _ _ _ _ _ (hR52) (hg52)
      refine pg_iload h d_Mod_takeOverlays_123 rfl ?_
      refine pg_bipush (v := 48) h d_Mod_takeOverlays_125 (by decide) ?_
      refine pg_icmp_ge (tgt := 142) h d_Mod_takeOverlays_127 rfl (fun e127 => ?_) (fun e127 => ?_)
      · skip
        refine pg_iload h d_Mod_takeOverlays_142 rfl ?_
        refine pg_bipush (v := 20) h d_Mod_takeOverlays_144 (by decide) ?_
        refine pg_icmp_ge (tgt := 202) h d_Mod_takeOverlays_146 rfl (fun e146 => ?_) (fun e146 => absurd e146 (fun q => q (by rw [l20]; omega)))
        refine pg_iinc (w := 1) h d_Mod_takeOverlays_202 rfl (by decide) (Nat.le_of_ble_eq_true rfl) (by first | rfl | (cases X <;> rfl)) rfl ?_
        refine pg_goto (tgt := 4) h d_Mod_takeOverlays_205 rfl ?_
        rw [← nI_succ i]
        rw [et, en] at eS
        have q := fun X Y Z U V S => ih (i + 1) X Y Z U V S (by omega)
        simp only [eS] at q
        exact q _ _ _ _ _ _ (hR52) (hg52)
      refine pg_iload h d_Mod_takeOverlays_130 rfl ?_
      refine pg_iconst (v := 4) h d_Mod_takeOverlays_132 (by decide) ?_
      refine pg_icmp_ne (tgt := 142) h d_Mod_takeOverlays_133 rfl (fun e133 => ?_) (fun e133 => ?_)
      · skip
        refine pg_iload h d_Mod_takeOverlays_142 rfl ?_
        refine pg_bipush (v := 20) h d_Mod_takeOverlays_144 (by decide) ?_
        refine pg_icmp_ge (tgt := 202) h d_Mod_takeOverlays_146 rfl (fun e146 => ?_) (fun e146 => absurd e146 (fun q => q (by rw [l20]; omega)))
        refine pg_iinc (w := 1) h d_Mod_takeOverlays_202 rfl (by decide) (Nat.le_of_ble_eq_true rfl) (by first | rfl | (cases X <;> rfl)) rfl ?_
        refine pg_goto (tgt := 4) h d_Mod_takeOverlays_205 rfl ?_
        rw [← nI_succ i]
        rw [et, en] at eS
        have q := fun X Y Z U V S => ih (i + 1) X Y Z U V S (by omega)
        simp only [eS] at q
        exact q _ _ _ _ _ _ (hR52) (hg52)
      exact absurd ⟨by rw [l40] at e120; omega, by rw [l48] at e127; omega, by first | exact e133 | exact Classical.not_not.mp e133⟩ c40
  refine pg_iconst (v := 0) h d_Mod_takeOverlays_0 (by decide) ?_
  refine pg_istore_n h d_Mod_takeOverlays_1 (Nat.le_of_ble_eq_true rfl) rfl rfl ?_
  refine pg_iconst (v := 0) h d_Mod_takeOverlays_2 (by decide) ?_
  refine pg_istore_n h d_Mod_takeOverlays_3 (Nat.le_of_ble_eq_true rfl) rfl rfl ?_
  exact loop 6 0 none none none none none S rfl hR hg
