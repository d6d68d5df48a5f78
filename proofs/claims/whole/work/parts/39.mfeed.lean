/-! The reference: feed, under TPall, TDok, BYok and FIok. -/
def BYok : Prop := ∀ (x : Int64) (j : Nat), j < 8 → ((x >>> ((8 * nI j : Int32).toInt64 &&& 63)) &&& 255).toInt32 = byF x j
def FI (P : Nat) (A : pf_S) : Prop := szOk A ∧ Uq A P ∧ ByI A
def FIok (P : Nat) : Prop := ∀ (A : pf_S) (b : Nat), b < 256 → FI P A → FI P (fdS P (nI b) A)
theorem ByI_pt {A : pf_S} {b : Nat} (hb : b < 256) (h : ByI A) : ByI (ptF A (nI b)) := by
  intro i hi
  obtain ⟨c, hc, e⟩ := h i hi
  rw [ptF, pf_st_at, if_neg (by omega), pf_st_at]
  split
  · exact ⟨b, hb, rfl⟩
  · exact ⟨c, hc, e⟩
theorem Uq_pt {A : pf_S} {P : Nat} {v : Int32} (h : Uq A P) : Uq (ptF A v) P := Uq_cong (fun k _ => by
  funext j
  rw [ptF, pf_st_at, if_neg (by omega), pf_st_at, if_neg (by omega)]) h
theorem byF_byte (x : Int64) (j : Nat) : ∃ b : Nat, b < 256 ∧ byF x j = nI b := by
  obtain ⟨b, hb, e⟩ := pk_andE ((x.toUInt64 >>> ((8 * nI j : Int32).toInt64.toUInt64 &&& Int64.toUInt64 63)).toInt64.toInt32) (m := 255) 8 (by decide)
  exact ⟨b, by omega, e⟩

set_option maxRecDepth 100000 in
set_option maxHeartbeats 4000000 in
theorem c_mfeed_out (w : pf_W) (ok : pf_ok w) (S : pf_S) (x : Int64) (n : Int32) (hn : n < 1 ∨ ¬ n ≤ 8) : pf_C w y_Mod_feed b_Mod_feed 5 (some .int) 5 129 [.ref (w.2.1 20 0), .long x, .int n] S (some (.int (-1))) S := by
  refine pf_enter (by decide) (Nat.le_of_ble_eq_true rfl) (lv0 := [some (.ref (w.2.1 20 0)), some (.long x), none, some (.int n), none]) rfl (fun κ h => ?_)
  refine pg_iload_n h d_Mod_feed_0 rfl ?_
  refine pg_iconst (v := 1) h d_Mod_feed_1 (by decide) ?_
  refine pg_icmp_lt (tgt := 11) h d_Mod_feed_2 rfl (fun e2 => ?_) (fun e2 => ?_)
  · skip
    refine pg_iconst (v := (-1)) h d_Mod_feed_11 (by decide) ?_
    exact pf_iret h d_Mod_feed_12 rfl (by first | rfl | simp [*]) rfl
  refine pg_iload_n h d_Mod_feed_5 rfl ?_
  refine pg_bipush (v := 8) h d_Mod_feed_6 (by decide) ?_
  refine pg_icmp_le (tgt := 13) h d_Mod_feed_8 rfl (fun e8 => absurd e8 (fun q => by rcases hn with c | c; exact e2 c; exact c q)) (fun e8 => ?_)
  refine pg_iconst (v := (-1)) h d_Mod_feed_11 (by decide) ?_
  exact pf_iret h d_Mod_feed_12 rfl (by first | rfl | simp [*]) rfl

set_option maxRecDepth 100000 in
set_option maxHeartbeats 4000000 in
theorem c_mfeed_in (w : pf_W) (ok : pf_ok w) (A S0 : pf_S) (hw : 1 ≤ w.2.2.1 ∧ w.2.2.1 ≤ 4) (HP : TPall) (HT : TDok) (HB : BYok) (HI : FIok w.2.2.1) (x : Int64) (nn : Nat) (h1 : 1 ≤ nn) (h8 : nn ≤ 8) (hi : FI w.2.2.1 A) : pm_C w y_Mod_feed b_Mod_feed 5 (some .int) 5 129 [.ref (w.2.1 20 0), .long x, .int (nI nn)] (A 2 0 2) A S0 (some (.int ((fdF w.2.2.1 x nn A) 2 0 2))) ((fdF w.2.2.1 x nn A) 2 0 2) (fdF w.2.2.1 x nn A) := by
  refine pm_enter (by decide) (Nat.le_of_ble_eq_true rfl) (lv0 := [some (.ref (w.2.1 20 0)), some (.long x), none, some (.int (nI nn)), none]) rfl (fun κ S h hR hg => ?_)
  have loop : ∀ (j : Nat) (A1 S : pf_S), j ≤ 8 → FI w.2.2.1 A1 → fdF w.2.2.1 x j A1 = (fdF w.2.2.1 x nn A) → Rm w.2.2.1 (A1 2 0 2) A1 S → pm_g S0 S → pg_G κ w.1 5 0 0 (pm_Q κ w (some (.int ((fdF w.2.2.1 x nn A) 2 0 2))) ((fdF w.2.2.1 x nn A) 2 0 2) ((fdF w.2.2.1 x nn A)) S0) (pf_P w (S)) 18 [some (.ref (w.2.1 20 0)), some (.long x), none, some (.int (nI nn)), some (.int (nI j - 1))] [] := by
    clear hR hg S
    intro j
    induction j with
    | zero =>
      intro A1 S hj hf hI hR hg
      have hI : A1 = (fdF w.2.2.1 x nn A) := hI
      rw [hI] at hR
      refine pg_iload h d_Mod_feed_18 rfl ?_
      refine pg_if_lt (tgt := 78) h d_Mod_feed_20 rfl (fun e20 => ?_) (fun e20 => absurd e20 (fun q => q (by decide)))
      refine pg_aload_n h d_Mod_feed_78 rfl ?_
      refine pf_get h ok d_Mod_feed_79 f_Mod_127 (by first | rfl | exact hk | exact hk2 | exact dm12 _ | assumption) rfl rfl ?_
      rw [hR.1.2]
      exact pm_iret h d_Mod_feed_82 rfl (by first | rfl | simp [*]) (hR) (hg)
    | succ j ih =>
      intro A1 S hj hf hI hR hg
      rw [nI_pred]
      obtain ⟨b, hb, eb⟩ := byF_byte x j
      have hstep : fdF w.2.2.1 x j (fdS w.2.2.1 (byF x j) A1) = (fdF w.2.2.1 x nn A) := hI
      rw [eb] at hstep
      have hby := (HB x j (by omega)).trans eb
      have hf2 := HI A1 b hb hf
      obtain ⟨⟨zn, hzn, ez⟩, hu, hbb⟩ := hf
      rw [ez] at hR
      have ept : ptF A1 (nI b) = pf_st (pf_st A1 3 0 zn (nI b)) 2 0 2 (nI (zn + 1)) := by rw [ptF, ez, nI_clamp (by omega), nI_1]
      have e22 : (nI (zn + 1) = 22) = (zn + 1 = 22) := propext (show nI (zn + 1) = nI 22 ↔ _ from nI_eq (by omega) (by decide))
      have next : ∀ S : pf_S, Rm w.2.2.1 (fdS w.2.2.1 (nI b) A1 2 0 2) (fdS w.2.2.1 (nI b) A1) S → pm_g S0 S → pg_G κ w.1 5 0 0 (pm_Q κ w (some (.int ((fdF w.2.2.1 x nn A) 2 0 2))) ((fdF w.2.2.1 x nn A) 2 0 2) ((fdF w.2.2.1 x nn A)) S0) (pf_P w (S)) 72 [some (.ref (w.2.1 20 0)), some (.long x), none, some (.int (nI nn)), some (.int (nI j))] [] := by
        intro S hR hg
        refine pg_iinc (w := (-1)) h d_Mod_feed_72 rfl (by decide) (Nat.le_of_ble_eq_true rfl) rfl rfl ?_
        refine pg_goto (tgt := 18) h d_Mod_feed_75 rfl ?_
        rw [show nI j + (-1) = nI j - 1 from (Int32.sub_eq_add_neg _ _).symm]
        exact ih _ _ (by omega) hf2 hstep hR hg
      have p54 : ∀ S : pf_S, Rm w.2.2.1 (nI (zn + 1)) (ptF A1 (nI b)) S → pm_g S0 S → pg_G κ w.1 5 0 0 (pm_Q κ w (some (.int ((fdF w.2.2.1 x nn A) 2 0 2))) ((fdF w.2.2.1 x nn A) 2 0 2) ((fdF w.2.2.1 x nn A)) S0) (pf_P w (S)) 54 [some (.ref (w.2.1 20 0)), some (.long x), none, some (.int (nI nn)), some (.int (nI j))] [] := by
        intro S hR hg
        have hz := hR.1.2
        by_cases h22 : zn + 1 = 22
        · have ef : fdS w.2.2.1 (nI b) A1 = pf_st (tpF (ptF A1 (nI b)) w.2.2.1) 2 0 2 0 := by rw [fdS, ptF_2, ez, nI_1, if_pos (by rw [e22]; exact h22)]
          rw [ef] at next
          refine pg_aload_n h d_Mod_feed_54 rfl ?_
          refine pf_get h ok d_Mod_feed_55 f_Mod_127 (by first | rfl | exact hk | exact hk2 | exact dm12 _ | assumption) rfl rfl ?_
          rw [hz]
          refine pg_bipush (v := 22) h d_Mod_feed_58 (by decide) ?_
          refine pg_icmp_ne (tgt := 72) h d_Mod_feed_60 rfl (fun e60 => absurd e60 (fun q => q (by rw [e22]; exact h22))) (fun e60 => ?_)
          refine pg_aload_n h d_Mod_feed_63 rfl ?_
          refine pg_iconst (v := 0) h d_Mod_feed_64 (by decide) ?_
          refine pf_puti h ok d_Mod_feed_65 fw_Mod_127 (by first | rfl | exact hk | exact hk2 | exact dm12 _ | assumption) rfl (Nat.le_of_ble_eq_true rfl) rfl ?_
          refine pg_aload_n h d_Mod_feed_68 rfl ?_
          refine pm_cV0 h ok (hR.siz 0) (hg.st (by decide)) d_Mod_feed_69 m_Mod_takePacket l_Mod_132 (c_Mod_takePacket w ok (ptF A1 (nI b)) S0 0 hw HP HT (Uq_pt hu) (ByI_pt hb hbb)) rfl rfl rfl (Nat.le_of_ble_eq_true rfl) ⟨(Nat.le_of_ble_eq_true rfl), (Nat.le_of_ble_eq_true rfl)⟩ ⟨Nat.le_refl _, Nat.le_refl _⟩ (fun S69 hR69 hg69 => ?_)
          exact next _ (by rw [show pf_st (tpF (ptF A1 (nI b)) w.2.2.1) 2 0 2 0 2 0 2 = 0 from by rw [pf_st_at, if_pos ⟨rfl, rfl, rfl⟩]]; exact hR69.o2) hg69
        · have ef : fdS w.2.2.1 (nI b) A1 = ptF A1 (nI b) := by rw [fdS, ptF_2, ez, nI_1, if_neg (by rw [e22]; exact h22)]
          rw [ef] at next
          refine pg_aload_n h d_Mod_feed_54 rfl ?_
          refine pf_get h ok d_Mod_feed_55 f_Mod_127 (by first | rfl | exact hk | exact hk2 | exact dm12 _ | assumption) rfl rfl ?_
          rw [hz]
          refine pg_bipush (v := 22) h d_Mod_feed_58 (by decide) ?_
          refine pg_icmp_ne (tgt := 72) h d_Mod_feed_60 rfl (fun e60 => ?_) (fun e60 => absurd e60 (by rw [e22]; exact h22))
          exact next _ (by rw [ptF_2, ez, nI_1]; exact hR) hg
      have p44 : ∀ S : pf_S, Rm w.2.2.1 (nI zn) (pf_st A1 3 0 zn (nI b)) S → pm_g S0 S → pg_G κ w.1 5 0 0 (pm_Q κ w (some (.int ((fdF w.2.2.1 x nn A) 2 0 2))) ((fdF w.2.2.1 x nn A) 2 0 2) ((fdF w.2.2.1 x nn A)) S0) (pf_P w (S)) 44 [some (.ref (w.2.1 20 0)), some (.long x), none, some (.int (nI nn)), some (.int (nI j))] [] := by
        intro S hR hg
        have hz := hR.1.2
        refine pg_aload_n h d_Mod_feed_44 rfl ?_
        refine pg_dup h d_Mod_feed_45 rfl ?_
        refine pf_get h ok d_Mod_feed_46 f_Mod_127 (by first | rfl | exact hk | exact hk2 | exact dm12 _ | assumption) rfl rfl ?_
        rw [hz]
        refine pg_iconst (v := 1) h d_Mod_feed_49 (by decide) ?_
        refine pg_iadd h d_Mod_feed_50 ?_
        rw [nI_1]
        refine pf_puti h ok d_Mod_feed_51 fw_Mod_127 (by first | rfl | exact hk | exact hk2 | exact dm12 _ | assumption) rfl (Nat.le_of_ble_eq_true rfl) rfl ?_
        exact p54 _ (by rw [ept]; exact (hR.siz _).o2) (hg.st (by decide))
      have hz := hR.1.2
      refine pg_iload h d_Mod_feed_18 rfl ?_
      refine pg_if_lt (tgt := 78) h d_Mod_feed_20 rfl (fun e20 => absurd e20 (nI_pos (by omega))) (fun e20 => ?_)
      refine pg_aload_n h d_Mod_feed_23 rfl ?_
      refine pf_get h ok d_Mod_feed_24 f_Mod_38 (by first | rfl | exact hk | exact hk2 | exact dm12 _ | assumption) rfl rfl ?_
      refine pg_aload_n h d_Mod_feed_27 rfl ?_
      refine pf_get h ok d_Mod_feed_28 f_Mod_127 (by first | rfl | exact hk | exact hk2 | exact dm12 _ | assumption) rfl rfl ?_
      rw [hz]
      refine pg_lload_n h d_Mod_feed_31 rfl ?_
      refine pg_bipush (v := 8) h d_Mod_feed_32 (by decide) ?_
      refine pg_iload h d_Mod_feed_34 rfl ?_
      refine pg_imul h d_Mod_feed_36 ?_
      refine pg_lshr h d_Mod_feed_37 ?_
      refine pg_ldc2 (v := 255) h d_Mod_feed_38 (pg_tb 731 rfl rfl) ?_
      refine pg_land h d_Mod_feed_41 ?_
      refine pg_l2i h d_Mod_feed_42 ?_
      rw [hby]
      refine pf_ist h ok d_Mod_feed_43 (by first | rfl | exact hk | exact hk2 | exact dm12 _ | assumption) (fun _ => rfl) (pg_ixN rfl hzn (by decide)) ?_
      exact p44 _ hR.byt (hg.st (by decide))
  refine pg_iload_n h d_Mod_feed_0 rfl ?_
  refine pg_iconst (v := 1) h d_Mod_feed_1 (by decide) ?_
  refine pg_icmp_lt (tgt := 11) h d_Mod_feed_2 rfl (fun e2 => absurd e2 (by rw [Int32.not_lt]; exact nI_le h1 (by omega))) (fun e2 => ?_)
  refine pg_iload_n h d_Mod_feed_5 rfl ?_
  refine pg_bipush (v := 8) h d_Mod_feed_6 (by decide) ?_
  refine pg_icmp_le (tgt := 13) h d_Mod_feed_8 rfl (fun e8 => ?_) (fun e8 => absurd e8 (fun q => q (nI_le h8 (by decide))))
  refine pg_iload_n h d_Mod_feed_13 rfl ?_
  refine pg_iconst (v := 1) h d_Mod_feed_14 (by decide) ?_
  refine pg_isub h d_Mod_feed_15 ?_
  refine pg_istore h d_Mod_feed_16 (Nat.le_of_ble_eq_true rfl) rfl rfl ?_
  exact loop nn A S h8 hi rfl hR hg
