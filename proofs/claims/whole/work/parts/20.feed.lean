/-! Tuner.takePacket, feed. -/
theorem nibFrom_lt {b : Int32} : ∀ {n d k : Nat}, nibFrom b n d = some k → k < d + n := by
  intro n
  induction n with
  | zero => intro d k h; simp [nibFrom] at h
  | succ n ih =>
    intro d k h
    rw [nibFrom] at h
    split at h
    · have := ih h
      omega
    · cases h
      omega
theorem nibD_lt {b : Int32} {d : Nat} (h : nibD b = some d) : d < 16 := by
  have := nibFrom_lt h
  omega
theorem c_nib_some (w : pf_W) (ok : pf_ok w) (S : pf_S) (i : Nat) (hi : i < 22) {d : Nat} (hf : nibD (S 3 0 i) = some d) : pf_C w y_Packet_nibble b_Packet_nibble 4 (some .int) 1 21 [.ref (w.2.1 2 0), .int (nI i)] S (some (.int (nI d))) (nibT S (S 3 0 i)) := by
  have q := c_Packet_nibble w ok S i hi
  rw [nibV, hf] at q
  exact q
theorem c_nib_none (w : pf_W) (ok : pf_ok w) (S : pf_S) (i : Nat) (hi : i < 22) (hf : nibD (S 3 0 i) = none) : pf_C w y_Packet_nibble b_Packet_nibble 4 (some .int) 1 21 [.ref (w.2.1 2 0), .int (nI i)] S (some (.int (-1))) (nibT S (S 3 0 i)) := by
  have q := c_Packet_nibble w ok S i hi
  rw [nibV, hf] at q
  exact q
def tp0 (S : pf_S) : pf_S := pf_st S 1 0 0 (S 1 0 0 + 1)
def tp1 (S : pf_S) : pf_S := nibT (tp0 S) (S 3 0 0)
def tp2 (S : pf_S) : pf_S := nibT (tp1 S) (S 3 0 1)
def drp (S : pf_S) : pf_S := pf_st S 1 0 1 (S 1 0 1 + 1)
/-- Tuner.takePacket -/
noncomputable def tpF (S : pf_S) (P : Nat) : pf_S := match nibD (S 3 0 0) with
  | none => drp (tp1 S)
  | some d0 => match nibD (S 3 0 1) with
    | none => drp (tp2 S)
    | some d1 => if d0 / 8 + 2 * d1 = 0 then thdF (tp2 S) P (d0 % 8) else if nb (tp2 S 14 (d0 % 8) 0) = 0 then tp2 S else twF (d0 % 8) (nI (d0 % 8)) (tp2 S) (d0 / 8 + 2 * d1)

set_option maxRecDepth 100000 in
set_option maxHeartbeats 4000000 in
theorem c_Tuner_takePacket (w : pf_W) (ok : pf_ok w) (S : pf_S) (hw : 1 ≤ w.2.2.1 ∧ w.2.2.1 ≤ 4) : pf_C w y_Tuner_takePacket b_Tuner_takePacket 5 none 6 133 [.ref (w.2.1 8 0)] S (none) (tpF S w.2.2.1) := by
  refine pf_enter (by decide) (Nat.le_of_ble_eq_true rfl) (lv0 := [some (.ref (w.2.1 8 0)), none, none, none, none]) rfl (fun κ h => ?_)
  cases h0 : nibD (S 3 0 0) with
  | none =>
    refine pg_aload_n h d_Tuner_takePacket_0 rfl ?_
    refine pf_get h ok d_Tuner_takePacket_1 f_Tuner_36 (by first | rfl | exact hk | exact hk2 | exact dm12 _ | assumption) rfl rfl ?_
    refine pg_iconst (v := 0) h d_Tuner_takePacket_4 (by decide) ?_
    refine pg_dup2 h d_Tuner_takePacket_5 rfl rfl ?_
    refine pf_ild h ok d_Tuner_takePacket_6 (by first | rfl | exact hk | exact hk2 | exact dm12 _ | assumption) rfl (pg_ixN (j := 0) rfl (by decide) (by decide)) ?_
    refine pg_iconst (v := 1) h d_Tuner_takePacket_7 (by decide) ?_
    refine pg_iadd h d_Tuner_takePacket_8 ?_
    refine pf_ist h ok d_Tuner_takePacket_9 (by first | rfl | exact hk | exact hk2 | exact dm12 _ | assumption) (fun _ => rfl) (pg_ixN (j := 0) rfl (by decide) (by decide)) ?_
    refine pg_aload_n h d_Tuner_takePacket_10 rfl ?_
    refine pf_get h ok d_Tuner_takePacket_11 f_Tuner_24 (by first | rfl | exact hk | exact hk2 | exact dm12 _ | assumption) rfl rfl ?_
    refine pg_iconst (v := 0) h d_Tuner_takePacket_14 (by decide) ?_
    refine pf_cV h ok d_Tuner_takePacket_15 m_Packet_nibble l_Tuner_46 (c_nib_none w ok (tp0 S) 0 (by decide) h0) cn_Packet (by first | rfl | exact hk | exact hk2 | exact dm12 _ | assumption) rfl rfl rfl (Nat.le_of_ble_eq_true rfl) ⟨(Nat.le_of_ble_eq_true rfl), (Nat.le_of_ble_eq_true rfl)⟩ ⟨Nat.le_refl _, Nat.le_refl _⟩ ?_
    refine pg_istore_n h d_Tuner_takePacket_18 (Nat.le_of_ble_eq_true rfl) rfl rfl ?_
    refine pg_iload_n h d_Tuner_takePacket_19 rfl ?_
    refine pg_iconst (v := (-1)) h d_Tuner_takePacket_20 (by decide) ?_
    refine pg_icmp_ne (tgt := 28) h d_Tuner_takePacket_21 rfl (fun e21 => absurd e21 (fun q => q rfl)) (fun e21 => ?_)
    refine pg_iconst (v := (-1)) h d_Tuner_takePacket_24 (by decide) ?_
    refine pg_goto (tgt := 36) h d_Tuner_takePacket_25 rfl ?_
    refine pg_istore_n h d_Tuner_takePacket_36 (Nat.le_of_ble_eq_true rfl) rfl rfl ?_
    refine pg_iload_n h d_Tuner_takePacket_37 rfl ?_
    refine pg_iconst (v := (-1)) h d_Tuner_takePacket_38 (by decide) ?_
    refine pg_icmp_ne (tgt := 53) h d_Tuner_takePacket_39 rfl (fun e39 => absurd e39 (fun q => q rfl)) (fun e39 => ?_)
    refine pg_aload_n h d_Tuner_takePacket_42 rfl ?_
    refine pf_get h ok d_Tuner_takePacket_43 f_Tuner_36 (by first | rfl | exact hk | exact hk2 | exact dm12 _ | assumption) rfl rfl ?_
    refine pg_iconst (v := 1) h d_Tuner_takePacket_46 (by decide) ?_
    refine pg_dup2 h d_Tuner_takePacket_47 rfl rfl ?_
    refine pf_ild h ok d_Tuner_takePacket_48 (by first | rfl | exact hk | exact hk2 | exact dm12 _ | assumption) rfl (pg_ixN (j := 1) rfl (by decide) (by decide)) ?_
    refine pg_iconst (v := 1) h d_Tuner_takePacket_49 (by decide) ?_
    refine pg_iadd h d_Tuner_takePacket_50 ?_
    refine pf_ist h ok d_Tuner_takePacket_51 (by first | rfl | exact hk | exact hk2 | exact dm12 _ | assumption) (fun _ => rfl) (pg_ixN (j := 1) rfl (by decide) (by decide)) ?_
    exact pf_vret h d_Tuner_takePacket_52 (by simp only [tpF, h0]; rfl)
  | some d0 =>
    have hd0 := nibD_lt h0
    have n0 : ¬ nI d0 = -1 := fun q => nI_pos (show d0 < 2 ^ 31 by omega) (by rw [q]; decide)
    cases h1 : nibD (S 3 0 1) with
    | none =>
      refine pg_aload_n h d_Tuner_takePacket_0 rfl ?_
      refine pf_get h ok d_Tuner_takePacket_1 f_Tuner_36 (by first | rfl | exact hk | exact hk2 | exact dm12 _ | assumption) rfl rfl ?_
      refine pg_iconst (v := 0) h d_Tuner_takePacket_4 (by decide) ?_
      refine pg_dup2 h d_Tuner_takePacket_5 rfl rfl ?_
      refine pf_ild h ok d_Tuner_takePacket_6 (by first | rfl | exact hk | exact hk2 | exact dm12 _ | assumption) rfl (pg_ixN (j := 0) rfl (by decide) (by decide)) ?_
      refine pg_iconst (v := 1) h d_Tuner_takePacket_7 (by decide) ?_
      refine pg_iadd h d_Tuner_takePacket_8 ?_
      refine pf_ist h ok d_Tuner_takePacket_9 (by first | rfl | exact hk | exact hk2 | exact dm12 _ | assumption) (fun _ => rfl) (pg_ixN (j := 0) rfl (by decide) (by decide)) ?_
      refine pg_aload_n h d_Tuner_takePacket_10 rfl ?_
      refine pf_get h ok d_Tuner_takePacket_11 f_Tuner_24 (by first | rfl | exact hk | exact hk2 | exact dm12 _ | assumption) rfl rfl ?_
      refine pg_iconst (v := 0) h d_Tuner_takePacket_14 (by decide) ?_
      refine pf_cV h ok d_Tuner_takePacket_15 m_Packet_nibble l_Tuner_46 (c_nib_some w ok (tp0 S) 0 (by decide) h0) cn_Packet (by first | rfl | exact hk | exact hk2 | exact dm12 _ | assumption) rfl rfl rfl (Nat.le_of_ble_eq_true rfl) ⟨(Nat.le_of_ble_eq_true rfl), (Nat.le_of_ble_eq_true rfl)⟩ ⟨Nat.le_refl _, Nat.le_refl _⟩ ?_
      refine pg_istore_n h d_Tuner_takePacket_18 (Nat.le_of_ble_eq_true rfl) rfl rfl ?_
      refine pg_iload_n h d_Tuner_takePacket_19 rfl ?_
      refine pg_iconst (v := (-1)) h d_Tuner_takePacket_20 (by decide) ?_
      refine pg_icmp_ne (tgt := 28) h d_Tuner_takePacket_21 rfl (fun e21 => ?_) (fun e21 => absurd e21 n0)
      refine pg_aload_n h d_Tuner_takePacket_28 rfl ?_
      refine pf_get h ok d_Tuner_takePacket_29 f_Tuner_24 (by first | rfl | exact hk | exact hk2 | exact dm12 _ | assumption) rfl rfl ?_
      refine pg_iconst (v := 1) h d_Tuner_takePacket_32 (by decide) ?_
      refine pf_cV h ok d_Tuner_takePacket_33 m_Packet_nibble l_Tuner_46 (c_nib_none w ok (tp1 S) 1 (by decide) (by rw [tp1, nibT_3]; exact h1)) cn_Packet (by first | rfl | exact hk | exact hk2 | exact dm12 _ | assumption) rfl rfl rfl (Nat.le_of_ble_eq_true rfl) ⟨(Nat.le_of_ble_eq_true rfl), (Nat.le_of_ble_eq_true rfl)⟩ ⟨Nat.le_refl _, Nat.le_refl _⟩ ?_
      refine pg_istore_n h d_Tuner_takePacket_36 (Nat.le_of_ble_eq_true rfl) rfl rfl ?_
      refine pg_iload_n h d_Tuner_takePacket_37 rfl ?_
      refine pg_iconst (v := (-1)) h d_Tuner_takePacket_38 (by decide) ?_
      refine pg_icmp_ne (tgt := 53) h d_Tuner_takePacket_39 rfl (fun e39 => absurd e39 (fun q => q rfl)) (fun e39 => ?_)
      refine pg_aload_n h d_Tuner_takePacket_42 rfl ?_
      refine pf_get h ok d_Tuner_takePacket_43 f_Tuner_36 (by first | rfl | exact hk | exact hk2 | exact dm12 _ | assumption) rfl rfl ?_
      refine pg_iconst (v := 1) h d_Tuner_takePacket_46 (by decide) ?_
      refine pg_dup2 h d_Tuner_takePacket_47 rfl rfl ?_
      refine pf_ild h ok d_Tuner_takePacket_48 (by first | rfl | exact hk | exact hk2 | exact dm12 _ | assumption) rfl (pg_ixN (j := 1) rfl (by decide) (by decide)) ?_
      refine pg_iconst (v := 1) h d_Tuner_takePacket_49 (by decide) ?_
      refine pg_iadd h d_Tuner_takePacket_50 ?_
      refine pf_ist h ok d_Tuner_takePacket_51 (by first | rfl | exact hk | exact hk2 | exact dm12 _ | assumption) (fun _ => rfl) (pg_ixN (j := 1) rfl (by decide) (by decide)) ?_
      exact pf_vret h d_Tuner_takePacket_52 (by simp only [tpF, h0, h1, tp2, tp1, nibT_3]; rfl)
    | some d1 =>
      have hd1 := nibD_lt h1
      have n1 : ¬ nI d1 = -1 := fun q => nI_pos (show d1 < 2 ^ 31 by omega) (by rw [q]; decide)
      have hm : d0 % 8 < 8 := Nat.mod_lt _ (by decide)
      have hk : pf_dm w.2.2.1 14 (d0 % 8) = true := dmC hm
      have em : nI d0 - nI d0 / 8 * 8 = nI (d0 % 8) := pk_rem (a := d0) (d := 8) (by omega) (by decide) (by decide)
      have er : nI d0 / 8 + 2 * nI d1 = nI (d0 / 8 + 2 * d1) := by
        rw [show nI d0 / 8 = nI (d0 / 8) from pk_div (a := d0) (d := 8) (by omega) (by decide) (by decide), show (2 : Int32) * nI d1 = nI (2 * d1) from pk_mul 2 d1, nI_add]
      have e0 : (nI (d0 / 8 + 2 * d1) = 0) = (d0 / 8 + 2 * d1 = 0) := propext (show nI (d0 / 8 + 2 * d1) = nI 0 ↔ _ from nI_eq (by omega) (by decide))
      have e2 : nibT (tp1 S) (tp1 S 3 0 1) = tp2 S := by rw [tp2, tp1, nibT_3]; rfl
      have ef : tpF S w.2.2.1 = if d0 / 8 + 2 * d1 = 0 then thdF (tp2 S) w.2.2.1 (d0 % 8) else if nb (tp2 S 14 (d0 % 8) 0) = 0 then tp2 S else twF (d0 % 8) (nI (d0 % 8)) (tp2 S) (d0 / 8 + 2 * d1) := by simp only [tpF, h0, h1]
      refine pg_aload_n h d_Tuner_takePacket_0 rfl ?_
      refine pf_get h ok d_Tuner_takePacket_1 f_Tuner_36 (by first | rfl | exact hk | exact hk2 | exact dm12 _ | assumption) rfl rfl ?_
      refine pg_iconst (v := 0) h d_Tuner_takePacket_4 (by decide) ?_
      refine pg_dup2 h d_Tuner_takePacket_5 rfl rfl ?_
      refine pf_ild h ok d_Tuner_takePacket_6 (by first | rfl | exact hk | exact hk2 | exact dm12 _ | assumption) rfl (pg_ixN (j := 0) rfl (by decide) (by decide)) ?_
      refine pg_iconst (v := 1) h d_Tuner_takePacket_7 (by decide) ?_
      refine pg_iadd h d_Tuner_takePacket_8 ?_
      refine pf_ist h ok d_Tuner_takePacket_9 (by first | rfl | exact hk | exact hk2 | exact dm12 _ | assumption) (fun _ => rfl) (pg_ixN (j := 0) rfl (by decide) (by decide)) ?_
      refine pg_aload_n h d_Tuner_takePacket_10 rfl ?_
      refine pf_get h ok d_Tuner_takePacket_11 f_Tuner_24 (by first | rfl | exact hk | exact hk2 | exact dm12 _ | assumption) rfl rfl ?_
      refine pg_iconst (v := 0) h d_Tuner_takePacket_14 (by decide) ?_
      refine pf_cV h ok d_Tuner_takePacket_15 m_Packet_nibble l_Tuner_46 (c_nib_some w ok (tp0 S) 0 (by decide) h0) cn_Packet (by first | rfl | exact hk | exact hk2 | exact dm12 _ | assumption) rfl rfl rfl (Nat.le_of_ble_eq_true rfl) ⟨(Nat.le_of_ble_eq_true rfl), (Nat.le_of_ble_eq_true rfl)⟩ ⟨Nat.le_refl _, Nat.le_refl _⟩ ?_
      refine pg_istore_n h d_Tuner_takePacket_18 (Nat.le_of_ble_eq_true rfl) rfl rfl ?_
      refine pg_iload_n h d_Tuner_takePacket_19 rfl ?_
      refine pg_iconst (v := (-1)) h d_Tuner_takePacket_20 (by decide) ?_
      refine pg_icmp_ne (tgt := 28) h d_Tuner_takePacket_21 rfl (fun e21 => ?_) (fun e21 => absurd e21 n0)
      refine pg_aload_n h d_Tuner_takePacket_28 rfl ?_
      refine pf_get h ok d_Tuner_takePacket_29 f_Tuner_24 (by first | rfl | exact hk | exact hk2 | exact dm12 _ | assumption) rfl rfl ?_
      refine pg_iconst (v := 1) h d_Tuner_takePacket_32 (by decide) ?_
      refine pf_cV h ok d_Tuner_takePacket_33 m_Packet_nibble l_Tuner_46 (c_nib_some w ok (tp1 S) 1 (by decide) (by rw [tp1, nibT_3]; exact h1)) cn_Packet (by first | rfl | exact hk | exact hk2 | exact dm12 _ | assumption) rfl rfl rfl (Nat.le_of_ble_eq_true rfl) ⟨(Nat.le_of_ble_eq_true rfl), (Nat.le_of_ble_eq_true rfl)⟩ ⟨Nat.le_refl _, Nat.le_refl _⟩ ?_
      rw [e2]
      refine pg_istore_n h d_Tuner_takePacket_36 (Nat.le_of_ble_eq_true rfl) rfl rfl ?_
      refine pg_iload_n h d_Tuner_takePacket_37 rfl ?_
      refine pg_iconst (v := (-1)) h d_Tuner_takePacket_38 (by decide) ?_
      refine pg_icmp_ne (tgt := 53) h d_Tuner_takePacket_39 rfl (fun e39 => ?_) (fun e39 => absurd e39 n1)
      refine pg_iload_n h d_Tuner_takePacket_53 rfl ?_
      refine pg_bipush (v := 8) h d_Tuner_takePacket_54 (by decide) ?_
      refine pg_irem h d_Tuner_takePacket_56 (by decide) ?_
      rw [em]
      refine pg_istore_n h d_Tuner_takePacket_57 (Nat.le_of_ble_eq_true rfl) rfl rfl ?_
      refine pg_iload_n h d_Tuner_takePacket_58 rfl ?_
      refine pg_bipush (v := 8) h d_Tuner_takePacket_59 (by decide) ?_
      refine pg_idiv h d_Tuner_takePacket_61 (by decide) ?_
      refine pg_iconst (v := 2) h d_Tuner_takePacket_62 (by decide) ?_
      refine pg_iload_n h d_Tuner_takePacket_63 rfl ?_
      refine pg_imul h d_Tuner_takePacket_64 ?_
      refine pg_iadd h d_Tuner_takePacket_65 ?_
      rw [er]
      refine pg_istore h d_Tuner_takePacket_66 (Nat.le_of_ble_eq_true rfl) rfl rfl ?_
      refine pg_iload h d_Tuner_takePacket_68 rfl ?_
      refine pg_if_ne (tgt := 81) h d_Tuner_takePacket_70 rfl (fun e70 => ?_) (fun e70 => ?_)
      · skip
        refine pg_aload_n h d_Tuner_takePacket_81 rfl ?_
        refine pf_get h ok d_Tuner_takePacket_82 f_Tuner_11 (by first | rfl | exact hk | exact hk2 | exact dm12 _ | assumption) rfl rfl ?_
        refine pg_iload_n h d_Tuner_takePacket_85 rfl ?_
        refine pf_ald h ok d_Tuner_takePacket_86 (by first | rfl | exact hk | exact hk2 | exact dm12 _ | assumption) rfl (pg_ixN rfl hm (by decide)) rfl ?_
        refine pf_get h ok d_Tuner_takePacket_87 f_Tuner_56 (by first | rfl | exact hk | exact hk2 | exact dm12 _ | assumption) rfl rfl ?_
        refine pg_if_eq (tgt := 106) h d_Tuner_takePacket_90 rfl (fun e90 => ?_) (fun e90 => ?_)
        · skip
          exact pf_vret h d_Tuner_takePacket_106 (by rw [e0] at e70; rw [ef]; first | rw [if_pos e70] | rw [if_neg e70, if_pos e90] | rw [if_neg e70, if_neg e90])
        refine pg_aload_n h d_Tuner_takePacket_93 rfl ?_
        refine pg_aload_n h d_Tuner_takePacket_94 rfl ?_
        refine pf_get h ok d_Tuner_takePacket_95 f_Tuner_11 (by first | rfl | exact hk | exact hk2 | exact dm12 _ | assumption) rfl rfl ?_
        refine pg_iload_n h d_Tuner_takePacket_98 rfl ?_
        refine pf_ald h ok d_Tuner_takePacket_99 (by first | rfl | exact hk | exact hk2 | exact dm12 _ | assumption) rfl (pg_ixN rfl hm (by decide)) rfl ?_
        refine pg_iload_n h d_Tuner_takePacket_100 rfl ?_
        refine pg_iload h d_Tuner_takePacket_101 rfl ?_
        refine pf_cV0 h ok d_Tuner_takePacket_103 m_Tuner_takeRow l_Tuner_60 (c_Tuner_takeRow w ok _ (d0 % 8) hk _ (d0 / 8 + 2 * d1) (by omega)) cn_Tuner (by first | rfl | exact hk | exact hk2 | exact dm12 _ | assumption) rfl rfl rfl (Nat.le_of_ble_eq_true rfl) ⟨(Nat.le_of_ble_eq_true rfl), (Nat.le_of_ble_eq_true rfl)⟩ ⟨Nat.le_refl _, Nat.le_refl _⟩ ?_
        exact pf_vret h d_Tuner_takePacket_106 (by rw [e0] at e70; rw [ef]; first | rw [if_pos e70] | rw [if_neg e70, if_pos e90] | rw [if_neg e70, if_neg e90])
      refine pg_aload_n h d_Tuner_takePacket_73 rfl ?_
      refine pg_iload_n h d_Tuner_takePacket_74 rfl ?_
      refine pf_cV0 h ok d_Tuner_takePacket_75 m_Tuner_takeHeader l_Tuner_52 (c_Tuner_takeHeader w ok _ hw (d0 % 8) hm) cn_Tuner (by first | rfl | exact hk | exact hk2 | exact dm12 _ | assumption) rfl rfl rfl (Nat.le_of_ble_eq_true rfl) ⟨(Nat.le_of_ble_eq_true rfl), (Nat.le_of_ble_eq_true rfl)⟩ ⟨Nat.le_refl _, Nat.le_refl _⟩ ?_
      refine pg_goto (tgt := 106) h d_Tuner_takePacket_78 rfl ?_
      exact pf_vret h d_Tuner_takePacket_106 (by rw [e0] at e70; rw [ef]; first | rw [if_pos e70] | rw [if_neg e70, if_pos e90] | rw [if_neg e70, if_neg e90])

/-- the byte j of a long, from its low end -/
def byF (x : Int64) (j : Nat) : Int32 := (x.toUInt64 >>> ((8 * nI j : Int32).toInt64.toUInt64 &&& Int64.toUInt64 63)).toInt64.toInt32 &&& 255
/-- a byte is put to the packet -/
def ptF (S : pf_S) (b : Int32) : pf_S := pf_st (pf_st S 3 0 (S 2 0 2).toNatClampNeg b) 2 0 2 (S 2 0 2 + 1)
noncomputable def fdS (P : Nat) (b : Int32) (S : pf_S) : pf_S := if ptF S b 2 0 2 = 22 then pf_st (tpF (ptF S b) P) 2 0 2 0 else ptF S b
noncomputable def fdF (P : Nat) (x : Int64) : Nat → pf_S → pf_S
  | 0, S => S
  | j + 1, S => fdF P x j (fdS P (byF x j) S)
/-- the packet has room -/
def szOk (S : pf_S) : Prop := ∃ z : Nat, z < 22 ∧ S 2 0 2 = nI z
theorem ptF_2 (S : pf_S) (b : Int32) : ptF S b 2 0 2 = S 2 0 2 + 1 := by simp [ptF, pf_st_at]
theorem fdS_ok {P : Nat} {b : Int32} {S : pf_S} (h : szOk S) : szOk (fdS P b S) := by
  obtain ⟨z, hz, e⟩ := h
  unfold fdS
  rw [ptF_2, e, nI_1]
  by_cases h22 : nI (z + 1) = 22
  · rw [if_pos h22]
    exact ⟨0, by decide, by simp [pf_st_at]; rfl⟩
  · rw [if_neg h22]
    refine ⟨z + 1, ?_, by rw [ptF_2, e, nI_1]⟩
    have : z + 1 ≠ 22 := fun q => h22 (by rw [q]; rfl)
    omega
theorem fdF_ok {P : Nat} {x : Int64} : ∀ {j : Nat} {S : pf_S}, szOk S → szOk (fdF P x j S) := by
  intro j
  induction j with
  | zero => intro S h; exact h
  | succ j ih => intro S h; exact ih (fdS_ok h)
theorem c_put (w : pf_W) (ok : pf_ok w) (S : pf_S) (v : Int32) (hs : szOk S) : pf_C w y_Packet_put b_Packet_put 2 none 0 0 [.ref (w.2.1 2 0), .int v] S none (ptF S v) := by
  obtain ⟨z, hz, e⟩ := hs
  have q := c_Packet_put w ok S v z e hz
  rw [ptF, show (S 2 0 2).toNatClampNeg = z by rw [e]; exact nI_clamp (by omega)]
  exact q

set_option maxRecDepth 100000 in
set_option maxHeartbeats 4000000 in
theorem c_feed_out (w : pf_W) (ok : pf_ok w) (S : pf_S) (x : Int64) (n : Int32) (hn : n < 1 ∨ ¬ n ≤ 8) : pf_C w y_Recv_feed b_Recv_feed 5 (some .int) 7 157 [.ref (w.2.1 0 0), .long x, .int n] S (some (.int (-1))) (S) := by
  refine pf_enter (by decide) (Nat.le_of_ble_eq_true rfl) (lv0 := [some (.ref (w.2.1 0 0)), some (.long x), none, some (.int n), none]) rfl (fun κ h => ?_)
  refine pg_iload_n h d_Recv_feed_0 rfl ?_
  refine pg_iconst (v := 1) h d_Recv_feed_1 (by decide) ?_
  refine pg_icmp_lt (tgt := 11) h d_Recv_feed_2 rfl (fun e2 => ?_) (fun e2 => ?_)
  · skip
    refine pg_iconst (v := (-1)) h d_Recv_feed_11 (by decide) ?_
    exact pf_iret h d_Recv_feed_12 rfl (by first | rfl | simp [*]) rfl
  refine pg_iload_n h d_Recv_feed_5 rfl ?_
  refine pg_bipush (v := 8) h d_Recv_feed_6 (by decide) ?_
  refine pg_icmp_le (tgt := 13) h d_Recv_feed_8 rfl (fun e8 => absurd e8 (fun q => by rcases hn with c | c; exact e2 c; exact c q)) (fun e8 => ?_)
  refine pg_iconst (v := (-1)) h d_Recv_feed_11 (by decide) ?_
  exact pf_iret h d_Recv_feed_12 rfl (by first | rfl | simp [*]) rfl

set_option maxRecDepth 100000 in
set_option maxHeartbeats 4000000 in
theorem c_feed_in (w : pf_W) (ok : pf_ok w) (S : pf_S) (hw : 1 ≤ w.2.2.1 ∧ w.2.2.1 ≤ 4) (x : Int64) (nn : Nat) (h1 : 1 ≤ nn) (h8 : nn ≤ 8) (hs : szOk S) : pf_C w y_Recv_feed b_Recv_feed 5 (some .int) 7 157 [.ref (w.2.1 0 0), .long x, .int (nI nn)] S (some (.int (fdF w.2.2.1 x nn S 2 0 2))) (fdF w.2.2.1 x nn S) := by
  refine pf_enter (by decide) (Nat.le_of_ble_eq_true rfl) (lv0 := [some (.ref (w.2.1 0 0)), some (.long x), none, some (.int (nI nn)), none]) rfl (fun κ h => ?_)
  have loop : ∀ (j : Nat) (S1 : pf_S), j ≤ 8 → szOk S1 → fdF w.2.2.1 x j S1 = fdF w.2.2.1 x nn S → pg_G κ w.1 5 0 0 (pg_Q κ w.1 (fun r' H => r' = (some (.int (fdF w.2.2.1 x nn S 2 0 2))) ∧ pf_P w (fdF w.2.2.1 x nn S) H) 0 0) (pf_P w (S1)) 18 [some (.ref (w.2.1 0 0)), some (.long x), none, some (.int (nI nn)), some (.int (nI j - 1))] [] := by
    intro j
    induction j with
    | zero =>
      intro S1 hj hs1 hI
      have hI : S1 = fdF w.2.2.1 x nn S := hI
      refine pg_iload h d_Recv_feed_18 rfl ?_
      refine pg_if_lt (tgt := 73) h d_Recv_feed_20 rfl (fun e20 => ?_) (fun e20 => absurd e20 (by decide))
      refine pg_aload_n h d_Recv_feed_73 rfl ?_
      refine pf_get h ok d_Recv_feed_74 f_Recv_18 (by first | rfl | exact hk | exact hk2 | exact dm12 _ | assumption) rfl rfl ?_
      refine pf_get h ok d_Recv_feed_77 f_Recv_85 (by first | rfl | exact hk | exact hk2 | exact dm12 _ | assumption) rfl rfl ?_
      exact pf_iret h d_Recv_feed_80 rfl (by rw [← hI]) hI.symm
    | succ j ih =>
      intro S1 hj hs1 hI
      rw [nI_pred]
      have hp : ptF S1 (byF x j) 2 0 2 = S1 2 0 2 + 1 := ptF_2 _ _
      have hstep : fdF w.2.2.1 x j (fdS w.2.2.1 (byF x j) S1) = fdF w.2.2.1 x nn S := hI
      refine pg_iload h d_Recv_feed_18 rfl ?_
      refine pg_if_lt (tgt := 73) h d_Recv_feed_20 rfl (fun e20 => absurd e20 (nI_pos (by omega))) (fun e20 => ?_)
      refine pg_aload_n h d_Recv_feed_23 rfl ?_
      refine pf_get h ok d_Recv_feed_24 f_Recv_18 (by first | rfl | exact hk | exact hk2 | exact dm12 _ | assumption) rfl rfl ?_
      refine pg_lload_n h d_Recv_feed_27 rfl ?_
      refine pg_bipush (v := 8) h d_Recv_feed_28 (by decide) ?_
      refine pg_iload h d_Recv_feed_30 rfl ?_
      refine pg_imul h d_Recv_feed_32 ?_
      refine pg_lushr h d_Recv_feed_33 ?_
      refine pg_l2i h d_Recv_feed_34 ?_
      refine pg_sipush (v := 255) h d_Recv_feed_35 (by decide) ?_
      refine pg_iand h d_Recv_feed_38 ?_
      refine pf_cV0 h ok d_Recv_feed_39 m_Packet_put l_Recv_70 (c_put w ok S1 (byF x j) hs1) cn_Packet (by first | rfl | exact hk | exact hk2 | exact dm12 _ | assumption) rfl rfl rfl (Nat.le_of_ble_eq_true rfl) ⟨(Nat.le_of_ble_eq_true rfl), (Nat.le_of_ble_eq_true rfl)⟩ ⟨Nat.le_refl _, Nat.le_refl _⟩ ?_
      refine pg_aload_n h d_Recv_feed_42 rfl ?_
      refine pf_get h ok d_Recv_feed_43 f_Recv_18 (by first | rfl | exact hk | exact hk2 | exact dm12 _ | assumption) rfl rfl ?_
      refine pf_cV h ok d_Recv_feed_46 m_Packet_isWhole l_Recv_74 (c_Packet_isWhole w ok _) cn_Packet (by first | rfl | exact hk | exact hk2 | exact dm12 _ | assumption) rfl rfl rfl (Nat.le_of_ble_eq_true rfl) ⟨(Nat.le_of_ble_eq_true rfl), (Nat.le_of_ble_eq_true rfl)⟩ ⟨Nat.le_refl _, Nat.le_refl _⟩ ?_
      refine pg_if_eq (tgt := 67) h d_Recv_feed_49 rfl (fun e49 => ?_) (fun e49 => ?_)
      · skip
        refine pg_iinc (w := (-1)) h d_Recv_feed_67 rfl (by decide) (Nat.le_of_ble_eq_true rfl) rfl rfl ?_
        refine pg_goto (tgt := 18) h d_Recv_feed_70 rfl ?_
        rw [show nI j + (-1) = nI j - 1 from (Int32.sub_eq_add_neg _ _).symm]
        refine pg_mem (S' := fdS w.2.2.1 (byF x j) S1) (by clear ih hI hstep hp; unfold fdS; by_cases hc : ptF S1 (byF x j) 2 0 2 = 22 <;> simp_all) ?_
        exact ih _ (by omega) (fdS_ok hs1) hstep
      refine pg_aload_n h d_Recv_feed_52 rfl ?_
      refine pf_get h ok d_Recv_feed_53 f_Recv_54 (by first | rfl | exact hk | exact hk2 | exact dm12 _ | assumption) rfl rfl ?_
      refine pf_cV0 h ok d_Recv_feed_56 m_Tuner_takePacket l_Recv_78 (c_Tuner_takePacket w ok _ hw) cn_Tuner (by first | rfl | exact hk | exact hk2 | exact dm12 _ | assumption) rfl rfl rfl (Nat.le_of_ble_eq_true rfl) ⟨(Nat.le_of_ble_eq_true rfl), (Nat.le_of_ble_eq_true rfl)⟩ ⟨Nat.le_refl _, Nat.le_refl _⟩ ?_
      refine pg_aload_n h d_Recv_feed_59 rfl ?_
      refine pf_get h ok d_Recv_feed_60 f_Recv_18 (by first | rfl | exact hk | exact hk2 | exact dm12 _ | assumption) rfl rfl ?_
      refine pf_cV h ok d_Recv_feed_63 m_Packet_empty l_Recv_81 (c_Packet_empty w ok _) cn_Packet (by first | rfl | exact hk | exact hk2 | exact dm12 _ | assumption) rfl rfl rfl (Nat.le_of_ble_eq_true rfl) ⟨(Nat.le_of_ble_eq_true rfl), (Nat.le_of_ble_eq_true rfl)⟩ ⟨Nat.le_refl _, Nat.le_refl _⟩ ?_
      refine pg_pop h d_Recv_feed_66 rfl ?_
      refine pg_iinc (w := (-1)) h d_Recv_feed_67 rfl (by decide) (Nat.le_of_ble_eq_true rfl) rfl rfl ?_
      refine pg_goto (tgt := 18) h d_Recv_feed_70 rfl ?_
      rw [show nI j + (-1) = nI j - 1 from (Int32.sub_eq_add_neg _ _).symm]
      refine pg_mem (S' := fdS w.2.2.1 (byF x j) S1) (by clear ih hI hstep hp; unfold fdS; by_cases hc : ptF S1 (byF x j) 2 0 2 = 22 <;> simp_all) ?_
      exact ih _ (by omega) (fdS_ok hs1) hstep
  refine pg_iload_n h d_Recv_feed_0 rfl ?_
  refine pg_iconst (v := 1) h d_Recv_feed_1 (by decide) ?_
  refine pg_icmp_lt (tgt := 11) h d_Recv_feed_2 rfl (fun e2 => absurd e2 (nI_nlt h1 (by omega))) (fun e2 => ?_)
  refine pg_iload_n h d_Recv_feed_5 rfl ?_
  refine pg_bipush (v := 8) h d_Recv_feed_6 (by decide) ?_
  refine pg_icmp_le (tgt := 13) h d_Recv_feed_8 rfl (fun e8 => ?_) (fun e8 => absurd e8 (fun q => q (nI_le h8 (by decide))))
  refine pg_iload_n h d_Recv_feed_13 rfl ?_
  refine pg_iconst (v := 1) h d_Recv_feed_14 (by decide) ?_
  refine pg_isub h d_Recv_feed_15 ?_
  refine pg_istore h d_Recv_feed_16 (Nat.le_of_ble_eq_true rfl) rfl rfl ?_
  exact loop nn S h8 hs rfl
