/-! Packet.nibble, Packet.triplet; Arrays.fill; System.arraycopy over the flat memory. -/
def nibFrom (b : Int32) : Nat → Nat → Option Nat
  | 0, _ => none
  | n + 1, d => if 1 < bcF (pg_cw d ^^^ b) then nibFrom b n (d + 1) else some d
/-- the nibble of a byte -/
def nibD (b : Int32) : Option Nat := nibFrom b 16 0
def nibV (b : Int32) : Int32 := match nibD b with
  | none => -1
  | some d => nI d
def nibT (S : pf_S) (b : Int32) : pf_S := match nibD b with
  | none => pf_st S 1 0 3 (S 1 0 3 + 1)
  | some d => pf_st S 1 0 2 (S 1 0 2 + bcF (pg_cw d ^^^ b))

set_option maxRecDepth 100000 in
set_option maxHeartbeats 4000000 in
theorem c_Packet_nibble (w : pf_W) (ok : pf_ok w) (S : pf_S) (i : Nat) (hi : i < 22) : pf_C w y_Packet_nibble b_Packet_nibble 4 (some .int) 1 21 [.ref (w.2.1 2 0), .int (nI i)] S (some (.int (nibV (S 3 0 i)))) (nibT S (S 3 0 i)) := by
  refine pf_enter (by decide) (Nat.le_of_ble_eq_true rfl) (lv0 := [some (.ref (w.2.1 2 0)), some (.int (nI i)), none, none]) rfl (fun κ h => ?_)
  have loop : ∀ (n d : Nat) (X : Option Value), d + n = 16 → nibFrom (S 3 0 i) n d = nibD (S 3 0 i) → pg_G κ w.1 4 0 0 (pg_Q κ w.1 (fun r' H => r' = (some (.int (nibV (S 3 0 i)))) ∧ pf_P w (nibT S (S 3 0 i)) H) 0 0) (pf_P w (S)) 2 [some (.ref (w.2.1 2 0)), some (.int (nI i)), some (.int (nI d)), X] [] := by
    intro n
    induction n with
    | zero =>
      intro d X hd hI
      have hd : d = 16 := by omega
      subst hd
      refine pg_iload_n h d_Packet_nibble_2 rfl ?_
      refine pg_gsCW (host := "PageReceiver") h d_Packet_nibble_3 (List.mem_of_getElem? (i := 35) rfl) ?_
      refine pg_lenCW h d_Packet_nibble_6 ?_
      refine pg_icmp_ge (tgt := 48) h d_Packet_nibble_7 rfl (fun e7 => ?_) (fun e7 => absurd e7 (fun e => e (by decide)))
      refine pg_aload_n h d_Packet_nibble_48 rfl ?_
      refine pf_get h ok d_Packet_nibble_49 f_Packet_15 (by first | rfl | assumption) rfl rfl ?_
      refine pg_iconst (v := 3) h d_Packet_nibble_52 (by decide) ?_
      refine pg_dup2 h d_Packet_nibble_53 rfl rfl ?_
      refine pf_ild h ok d_Packet_nibble_54 (by first | rfl | assumption) rfl (pg_ixN (j := 3) rfl (by decide) (by decide)) ?_
      refine pg_iconst (v := 1) h d_Packet_nibble_55 (by decide) ?_
      refine pg_iadd h d_Packet_nibble_56 ?_
      refine pf_ist h ok d_Packet_nibble_57 (by first | rfl | assumption) (fun _ => rfl) (pg_ixN (j := 3) rfl (by decide) (by decide)) ?_
      refine pg_iconst (v := (-1)) h d_Packet_nibble_58 (by decide) ?_
      exact pf_iret h d_Packet_nibble_59 rfl (by rw [nibV, ← hI]; rfl) (by rw [nibT, ← hI]; rfl)
    | succ n ih =>
      intro d X hd hI
      refine pg_iload_n h d_Packet_nibble_2 rfl ?_
      refine pg_gsCW (host := "PageReceiver") h d_Packet_nibble_3 (List.mem_of_getElem? (i := 35) rfl) ?_
      refine pg_lenCW h d_Packet_nibble_6 ?_
      refine pg_icmp_ge (tgt := 48) h d_Packet_nibble_7 rfl (fun e7 => absurd e7 (nI_ge (show d < 16 by omega) (by decide))) (fun e7 => ?_)
      refine pg_gsCW (host := "PageReceiver") h d_Packet_nibble_10 (List.mem_of_getElem? (i := 35) rfl) ?_
      refine pg_iload_n h d_Packet_nibble_13 rfl ?_
      refine pg_ldCW h d_Packet_nibble_14 (pg_ixN rfl (show d < 16 by omega) (by decide)) ?_
      refine pg_aload_n h d_Packet_nibble_15 rfl ?_
      refine pg_iload_n h d_Packet_nibble_16 rfl ?_
      refine pf_cV h ok d_Packet_nibble_17 m_Packet_byteAt l_Packet_25 (c_Packet_byteAt w ok S i hi) cn_Packet (by first | rfl | assumption) rfl rfl rfl (Nat.le_of_ble_eq_true rfl) ⟨(Nat.le_of_ble_eq_true rfl), (Nat.le_of_ble_eq_true rfl)⟩ ⟨Nat.le_refl _, Nat.le_refl _⟩ ?_
      refine pg_ixor h d_Packet_nibble_20 ?_
      refine pg_cS h d_Packet_nibble_21 m_JInt_bitCount l_Packet_29 (c_JInt_bitCount w ok S _) rfl rfl (Nat.le_of_ble_eq_true rfl) ⟨(Nat.le_of_ble_eq_true rfl), (Nat.le_of_ble_eq_true rfl)⟩ ⟨Nat.le_refl _, Nat.le_refl _⟩ ?_
      refine pg_istore_n h d_Packet_nibble_24 (Nat.le_of_ble_eq_true rfl) rfl rfl ?_
      refine pg_iload_n h d_Packet_nibble_25 rfl ?_
      refine pg_iconst (v := 1) h d_Packet_nibble_26 (by decide) ?_
      refine pg_icmp_gt (tgt := 42) h d_Packet_nibble_27 rfl (fun e27 => ?_) (fun e27 => ?_)
      · skip
        refine pg_iinc (w := 1) h d_Packet_nibble_42 rfl (by decide) (Nat.le_of_ble_eq_true rfl) rfl rfl ?_
        refine pg_goto (tgt := 2) h d_Packet_nibble_45 rfl ?_
        rw [← nI_succ d]
        exact ih (d + 1) _ (by omega) (by rw [nibFrom, if_pos e27] at hI; exact hI)
      refine pg_aload_n h d_Packet_nibble_30 rfl ?_
      refine pf_get h ok d_Packet_nibble_31 f_Packet_15 (by first | rfl | assumption) rfl rfl ?_
      refine pg_iconst (v := 2) h d_Packet_nibble_34 (by decide) ?_
      refine pg_dup2 h d_Packet_nibble_35 rfl rfl ?_
      refine pf_ild h ok d_Packet_nibble_36 (by first | rfl | assumption) rfl (pg_ixN (j := 2) rfl (by decide) (by decide)) ?_
      refine pg_iload_n h d_Packet_nibble_37 rfl ?_
      refine pg_iadd h d_Packet_nibble_38 ?_
      refine pf_ist h ok d_Packet_nibble_39 (by first | rfl | assumption) (fun _ => rfl) (pg_ixN (j := 2) rfl (by decide) (by decide)) ?_
      refine pg_iload_n h d_Packet_nibble_40 rfl ?_
      exact pf_iret h d_Packet_nibble_41 rfl (by rw [nibV, ← hI, nibFrom, if_neg e27]) (by rw [nibT, ← hI, nibFrom, if_neg e27])
  refine pg_iconst (v := 0) h d_Packet_nibble_0 (by decide) ?_
  refine pg_istore_n h d_Packet_nibble_1 (Nat.le_of_ble_eq_true rfl) rfl rfl ?_
  exact loop 16 0 none rfl rfl

/-- the 24 bits of a triplet, as its three bytes stand -/
def plF (S : pf_S) (i : Nat) : Int32 := S 3 0 i ||| (S 3 0 (i + 1) <<< ((8 : Int32) &&& 31)) ||| (S 3 0 (i + 2) <<< ((16 : Int32) &&& 31))
noncomputable def tripV (p f : Int32) : Int32 := if odF p = 0 then (if f < 24 then bitsF (p ^^^ ((1 : Int32) <<< ((if f = 0 then 24 else f) - 1 &&& 31))) else -1) else (if f = 0 then bitsF p else -1)
noncomputable def tripT (S : pf_S) (p f : Int32) : pf_S := if odF p = 0 then (if f < 24 then pf_st S 1 0 2 (S 1 0 2 + 1) else pf_st S 1 0 3 (S 1 0 3 + 1)) else (if f = 0 then S else pf_st S 1 0 3 (S 1 0 3 + 1))


set_option maxRecDepth 100000 in
set_option maxHeartbeats 4000000 in
theorem c_Packet_triplet (w : pf_W) (ok : pf_ok w) (S : pf_S) (i : Nat) (hi : i + 2 < 22) : pf_C w y_Packet_triplet b_Packet_triplet 5 (some .int) 3 62 [.ref (w.2.1 2 0), .int (nI i)] S (some (.int (tripV (plF S i) (failTo (plF S i) 5)))) (tripT S (plF S i) (failTo (plF S i) 5)) := by
  refine pf_enter (by decide) (Nat.le_of_ble_eq_true rfl) (lv0 := [some (.ref (w.2.1 2 0)), some (.int (nI i)), none, none, none]) rfl (fun κ h => ?_)
  refine pg_aload_n h d_Packet_triplet_0 rfl ?_
  refine pg_iload_n h d_Packet_triplet_1 rfl ?_
  refine pf_cV h ok d_Packet_triplet_2 m_Packet_byteAt l_Packet_25 (c_Packet_byteAt w ok S i (by omega)) cn_Packet (by first | rfl | assumption) rfl rfl rfl (Nat.le_of_ble_eq_true rfl) ⟨(Nat.le_of_ble_eq_true rfl), (Nat.le_of_ble_eq_true rfl)⟩ ⟨Nat.le_refl _, Nat.le_refl _⟩ ?_
  refine pg_aload_n h d_Packet_triplet_5 rfl ?_
  refine pg_iload_n h d_Packet_triplet_6 rfl ?_
  refine pg_iconst (v := 1) h d_Packet_triplet_7 (by decide) ?_
  refine pg_iadd h d_Packet_triplet_8 ?_
  rw [nI_1 i]
  refine pf_cV h ok d_Packet_triplet_9 m_Packet_byteAt l_Packet_25 (c_Packet_byteAt w ok S (i + 1) (by omega)) cn_Packet (by first | rfl | assumption) rfl rfl rfl (Nat.le_of_ble_eq_true rfl) ⟨(Nat.le_of_ble_eq_true rfl), (Nat.le_of_ble_eq_true rfl)⟩ ⟨Nat.le_refl _, Nat.le_refl _⟩ ?_
  refine pg_bipush (v := 8) h d_Packet_triplet_12 (by decide) ?_
  refine pg_ishl h d_Packet_triplet_14 ?_
  refine pg_ior h d_Packet_triplet_15 ?_
  refine pg_aload_n h d_Packet_triplet_16 rfl ?_
  refine pg_iload_n h d_Packet_triplet_17 rfl ?_
  refine pg_iconst (v := 2) h d_Packet_triplet_18 (by decide) ?_
  refine pg_iadd h d_Packet_triplet_19 ?_
  rw [show nI i + 2 = nI (i + 2) from nI_add i 2]
  refine pf_cV h ok d_Packet_triplet_20 m_Packet_byteAt l_Packet_25 (c_Packet_byteAt w ok S (i + 2) hi) cn_Packet (by first | rfl | assumption) rfl rfl rfl (Nat.le_of_ble_eq_true rfl) ⟨(Nat.le_of_ble_eq_true rfl), (Nat.le_of_ble_eq_true rfl)⟩ ⟨Nat.le_refl _, Nat.le_refl _⟩ ?_
  refine pg_bipush (v := 16) h d_Packet_triplet_23 (by decide) ?_
  refine pg_ishl h d_Packet_triplet_25 ?_
  refine pg_ior h d_Packet_triplet_26 ?_
  refine pg_istore_n h d_Packet_triplet_27 (Nat.le_of_ble_eq_true rfl) rfl rfl ?_
  refine pg_iload_n h d_Packet_triplet_28 rfl ?_
  refine pg_cS h d_Packet_triplet_29 m_Packet_failingSum l_Packet_38 (c_Packet_failingSum w ok S _) rfl rfl (Nat.le_of_ble_eq_true rfl) ⟨(Nat.le_of_ble_eq_true rfl), (Nat.le_of_ble_eq_true rfl)⟩ ⟨Nat.le_refl _, Nat.le_refl _⟩ ?_
  refine pg_istore_n h d_Packet_triplet_32 (Nat.le_of_ble_eq_true rfl) rfl rfl ?_
  refine pg_iload_n h d_Packet_triplet_33 rfl ?_
  refine pg_cS h d_Packet_triplet_34 m_Packet_isOdd l_Packet_34 (c_Packet_isOdd w ok S _) rfl rfl (Nat.le_of_ble_eq_true rfl) ⟨(Nat.le_of_ble_eq_true rfl), (Nat.le_of_ble_eq_true rfl)⟩ ⟨Nat.le_refl _, Nat.le_refl _⟩ ?_
  refine pg_if_eq (tgt := 49) h d_Packet_triplet_37 rfl (fun e37 => ?_) (fun e37 => ?_)
  · skip
    refine pg_iload_n h d_Packet_triplet_49 rfl ?_
    refine pg_cS h d_Packet_triplet_50 m_Packet_isOdd l_Packet_34 (c_Packet_isOdd w ok S _) rfl rfl (Nat.le_of_ble_eq_true rfl) ⟨(Nat.le_of_ble_eq_true rfl), (Nat.le_of_ble_eq_true rfl)⟩ ⟨Nat.le_refl _, Nat.le_refl _⟩ ?_
    refine pg_if_ne (tgt := 62) h d_Packet_triplet_53 rfl (fun e53 => ?_) (fun e53 => ?_)
    · skip
      refine pg_aload_n h d_Packet_triplet_62 rfl ?_
      refine pf_get h ok d_Packet_triplet_63 f_Packet_15 (by first | rfl | assumption) rfl rfl ?_
      refine pg_iconst (v := 3) h d_Packet_triplet_66 (by decide) ?_
      refine pg_dup2 h d_Packet_triplet_67 rfl rfl ?_
      refine pf_ild h ok d_Packet_triplet_68 (by first | rfl | assumption) rfl (pg_ixN (j := 3) rfl (by decide) (by decide)) ?_
      refine pg_iconst (v := 1) h d_Packet_triplet_69 (by decide) ?_
      refine pg_iadd h d_Packet_triplet_70 ?_
      refine pf_ist h ok d_Packet_triplet_71 (by first | rfl | assumption) (fun _ => rfl) (pg_ixN (j := 3) rfl (by decide) (by decide)) ?_
      refine pg_iconst (v := (-1)) h d_Packet_triplet_72 (by decide) ?_
      exact pf_iret h d_Packet_triplet_73 rfl (by first | contradiction | (simp only [plF, tripV]; simp [*])) (by first | contradiction | (simp only [plF, tripT]; simp [*]))
    refine pg_iload_n h d_Packet_triplet_56 rfl ?_
    refine pg_bipush (v := 24) h d_Packet_triplet_57 (by decide) ?_
    refine pg_icmp_lt (tgt := 74) h d_Packet_triplet_59 rfl (fun e59 => ?_) (fun e59 => ?_)
    · skip
      refine pg_aload_n h d_Packet_triplet_74 rfl ?_
      refine pf_get h ok d_Packet_triplet_75 f_Packet_15 (by first | rfl | assumption) rfl rfl ?_
      refine pg_iconst (v := 2) h d_Packet_triplet_78 (by decide) ?_
      refine pg_dup2 h d_Packet_triplet_79 rfl rfl ?_
      refine pf_ild h ok d_Packet_triplet_80 (by first | rfl | assumption) rfl (pg_ixN (j := 2) rfl (by decide) (by decide)) ?_
      refine pg_iconst (v := 1) h d_Packet_triplet_81 (by decide) ?_
      refine pg_iadd h d_Packet_triplet_82 ?_
      refine pf_ist h ok d_Packet_triplet_83 (by first | rfl | assumption) (fun _ => rfl) (pg_ixN (j := 2) rfl (by decide) (by decide)) ?_
      refine pg_iload_n h d_Packet_triplet_84 rfl ?_
      refine pg_if_ne (tgt := 93) h d_Packet_triplet_85 rfl (fun e85 => ?_) (fun e85 => ?_)
      · skip
        refine pg_iload_n h d_Packet_triplet_93 rfl ?_
        refine pg_istore h d_Packet_triplet_94 (Nat.le_of_ble_eq_true rfl) rfl rfl ?_
        refine pg_iload_n h d_Packet_triplet_96 rfl ?_
        refine pg_iconst (v := 1) h d_Packet_triplet_97 (by decide) ?_
        refine pg_iload h d_Packet_triplet_98 rfl ?_
        refine pg_iconst (v := 1) h d_Packet_triplet_100 (by decide) ?_
        refine pg_isub h d_Packet_triplet_101 ?_
        refine pg_ishl h d_Packet_triplet_102 ?_
        refine pg_ixor h d_Packet_triplet_103 ?_
        refine pg_cS h d_Packet_triplet_104 m_Packet_bitsOf l_Packet_41 (c_Packet_bitsOf w ok _ _) rfl rfl (Nat.le_of_ble_eq_true rfl) ⟨(Nat.le_of_ble_eq_true rfl), (Nat.le_of_ble_eq_true rfl)⟩ ⟨Nat.le_refl _, Nat.le_refl _⟩ ?_
        exact pf_iret h d_Packet_triplet_107 rfl (by first | contradiction | (simp only [plF, tripV]; simp [*])) (by first | contradiction | (simp only [plF, tripT]; simp [*]))
      refine pg_bipush (v := 24) h d_Packet_triplet_88 (by decide) ?_
      refine pg_goto (tgt := 94) h d_Packet_triplet_90 rfl ?_
      refine pg_istore h d_Packet_triplet_94 (Nat.le_of_ble_eq_true rfl) rfl rfl ?_
      refine pg_iload_n h d_Packet_triplet_96 rfl ?_
      refine pg_iconst (v := 1) h d_Packet_triplet_97 (by decide) ?_
      refine pg_iload h d_Packet_triplet_98 rfl ?_
      refine pg_iconst (v := 1) h d_Packet_triplet_100 (by decide) ?_
      refine pg_isub h d_Packet_triplet_101 ?_
      refine pg_ishl h d_Packet_triplet_102 ?_
      refine pg_ixor h d_Packet_triplet_103 ?_
      refine pg_cS h d_Packet_triplet_104 m_Packet_bitsOf l_Packet_41 (c_Packet_bitsOf w ok _ _) rfl rfl (Nat.le_of_ble_eq_true rfl) ⟨(Nat.le_of_ble_eq_true rfl), (Nat.le_of_ble_eq_true rfl)⟩ ⟨Nat.le_refl _, Nat.le_refl _⟩ ?_
      exact pf_iret h d_Packet_triplet_107 rfl (by first | contradiction | (simp only [plF, tripV]; simp [*])) (by first | contradiction | (simp only [plF, tripT]; simp [*]))
    refine pg_aload_n h d_Packet_triplet_62 rfl ?_
    refine pf_get h ok d_Packet_triplet_63 f_Packet_15 (by first | rfl | assumption) rfl rfl ?_
    refine pg_iconst (v := 3) h d_Packet_triplet_66 (by decide) ?_
    refine pg_dup2 h d_Packet_triplet_67 rfl rfl ?_
    refine pf_ild h ok d_Packet_triplet_68 (by first | rfl | assumption) rfl (pg_ixN (j := 3) rfl (by decide) (by decide)) ?_
    refine pg_iconst (v := 1) h d_Packet_triplet_69 (by decide) ?_
    refine pg_iadd h d_Packet_triplet_70 ?_
    refine pf_ist h ok d_Packet_triplet_71 (by first | rfl | assumption) (fun _ => rfl) (pg_ixN (j := 3) rfl (by decide) (by decide)) ?_
    refine pg_iconst (v := (-1)) h d_Packet_triplet_72 (by decide) ?_
    exact pf_iret h d_Packet_triplet_73 rfl (by first | contradiction | (simp only [plF, tripV]; simp [*])) (by first | contradiction | (simp only [plF, tripT]; simp [*]))
  refine pg_iload_n h d_Packet_triplet_40 rfl ?_
  refine pg_if_ne (tgt := 49) h d_Packet_triplet_41 rfl (fun e41 => ?_) (fun e41 => ?_)
  · skip
    refine pg_iload_n h d_Packet_triplet_49 rfl ?_
    refine pg_cS h d_Packet_triplet_50 m_Packet_isOdd l_Packet_34 (c_Packet_isOdd w ok S _) rfl rfl (Nat.le_of_ble_eq_true rfl) ⟨(Nat.le_of_ble_eq_true rfl), (Nat.le_of_ble_eq_true rfl)⟩ ⟨Nat.le_refl _, Nat.le_refl _⟩ ?_
    refine pg_if_ne (tgt := 62) h d_Packet_triplet_53 rfl (fun e53 => ?_) (fun e53 => ?_)
    · skip
      refine pg_aload_n h d_Packet_triplet_62 rfl ?_
      refine pf_get h ok d_Packet_triplet_63 f_Packet_15 (by first | rfl | assumption) rfl rfl ?_
      refine pg_iconst (v := 3) h d_Packet_triplet_66 (by decide) ?_
      refine pg_dup2 h d_Packet_triplet_67 rfl rfl ?_
      refine pf_ild h ok d_Packet_triplet_68 (by first | rfl | assumption) rfl (pg_ixN (j := 3) rfl (by decide) (by decide)) ?_
      refine pg_iconst (v := 1) h d_Packet_triplet_69 (by decide) ?_
      refine pg_iadd h d_Packet_triplet_70 ?_
      refine pf_ist h ok d_Packet_triplet_71 (by first | rfl | assumption) (fun _ => rfl) (pg_ixN (j := 3) rfl (by decide) (by decide)) ?_
      refine pg_iconst (v := (-1)) h d_Packet_triplet_72 (by decide) ?_
      exact pf_iret h d_Packet_triplet_73 rfl (by first | contradiction | (simp only [plF, tripV]; simp [*])) (by first | contradiction | (simp only [plF, tripT]; simp [*]))
    refine pg_iload_n h d_Packet_triplet_56 rfl ?_
    refine pg_bipush (v := 24) h d_Packet_triplet_57 (by decide) ?_
    refine pg_icmp_lt (tgt := 74) h d_Packet_triplet_59 rfl (fun e59 => ?_) (fun e59 => ?_)
    · skip
      refine pg_aload_n h d_Packet_triplet_74 rfl ?_
      refine pf_get h ok d_Packet_triplet_75 f_Packet_15 (by first | rfl | assumption) rfl rfl ?_
      refine pg_iconst (v := 2) h d_Packet_triplet_78 (by decide) ?_
      refine pg_dup2 h d_Packet_triplet_79 rfl rfl ?_
      refine pf_ild h ok d_Packet_triplet_80 (by first | rfl | assumption) rfl (pg_ixN (j := 2) rfl (by decide) (by decide)) ?_
      refine pg_iconst (v := 1) h d_Packet_triplet_81 (by decide) ?_
      refine pg_iadd h d_Packet_triplet_82 ?_
      refine pf_ist h ok d_Packet_triplet_83 (by first | rfl | assumption) (fun _ => rfl) (pg_ixN (j := 2) rfl (by decide) (by decide)) ?_
      refine pg_iload_n h d_Packet_triplet_84 rfl ?_
      refine pg_if_ne (tgt := 93) h d_Packet_triplet_85 rfl (fun e85 => ?_) (fun e85 => ?_)
      · skip
        refine pg_iload_n h d_Packet_triplet_93 rfl ?_
        refine pg_istore h d_Packet_triplet_94 (Nat.le_of_ble_eq_true rfl) rfl rfl ?_
        refine pg_iload_n h d_Packet_triplet_96 rfl ?_
        refine pg_iconst (v := 1) h d_Packet_triplet_97 (by decide) ?_
        refine pg_iload h d_Packet_triplet_98 rfl ?_
        refine pg_iconst (v := 1) h d_Packet_triplet_100 (by decide) ?_
        refine pg_isub h d_Packet_triplet_101 ?_
        refine pg_ishl h d_Packet_triplet_102 ?_
        refine pg_ixor h d_Packet_triplet_103 ?_
        refine pg_cS h d_Packet_triplet_104 m_Packet_bitsOf l_Packet_41 (c_Packet_bitsOf w ok _ _) rfl rfl (Nat.le_of_ble_eq_true rfl) ⟨(Nat.le_of_ble_eq_true rfl), (Nat.le_of_ble_eq_true rfl)⟩ ⟨Nat.le_refl _, Nat.le_refl _⟩ ?_
        exact pf_iret h d_Packet_triplet_107 rfl (by first | contradiction | (simp only [plF, tripV]; simp [*])) (by first | contradiction | (simp only [plF, tripT]; simp [*]))
      refine pg_bipush (v := 24) h d_Packet_triplet_88 (by decide) ?_
      refine pg_goto (tgt := 94) h d_Packet_triplet_90 rfl ?_
      refine pg_istore h d_Packet_triplet_94 (Nat.le_of_ble_eq_true rfl) rfl rfl ?_
      refine pg_iload_n h d_Packet_triplet_96 rfl ?_
      refine pg_iconst (v := 1) h d_Packet_triplet_97 (by decide) ?_
      refine pg_iload h d_Packet_triplet_98 rfl ?_
      refine pg_iconst (v := 1) h d_Packet_triplet_100 (by decide) ?_
      refine pg_isub h d_Packet_triplet_101 ?_
      refine pg_ishl h d_Packet_triplet_102 ?_
      refine pg_ixor h d_Packet_triplet_103 ?_
      refine pg_cS h d_Packet_triplet_104 m_Packet_bitsOf l_Packet_41 (c_Packet_bitsOf w ok _ _) rfl rfl (Nat.le_of_ble_eq_true rfl) ⟨(Nat.le_of_ble_eq_true rfl), (Nat.le_of_ble_eq_true rfl)⟩ ⟨Nat.le_refl _, Nat.le_refl _⟩ ?_
      exact pf_iret h d_Packet_triplet_107 rfl (by first | contradiction | (simp only [plF, tripV]; simp [*])) (by first | contradiction | (simp only [plF, tripT]; simp [*]))
    refine pg_aload_n h d_Packet_triplet_62 rfl ?_
    refine pf_get h ok d_Packet_triplet_63 f_Packet_15 (by first | rfl | assumption) rfl rfl ?_
    refine pg_iconst (v := 3) h d_Packet_triplet_66 (by decide) ?_
    refine pg_dup2 h d_Packet_triplet_67 rfl rfl ?_
    refine pf_ild h ok d_Packet_triplet_68 (by first | rfl | assumption) rfl (pg_ixN (j := 3) rfl (by decide) (by decide)) ?_
    refine pg_iconst (v := 1) h d_Packet_triplet_69 (by decide) ?_
    refine pg_iadd h d_Packet_triplet_70 ?_
    refine pf_ist h ok d_Packet_triplet_71 (by first | rfl | assumption) (fun _ => rfl) (pg_ixN (j := 3) rfl (by decide) (by decide)) ?_
    refine pg_iconst (v := (-1)) h d_Packet_triplet_72 (by decide) ?_
    exact pf_iret h d_Packet_triplet_73 rfl (by first | contradiction | (simp only [plF, tripV]; simp [*])) (by first | contradiction | (simp only [plF, tripT]; simp [*]))
  refine pg_iload_n h d_Packet_triplet_44 rfl ?_
  refine pg_cS h d_Packet_triplet_45 m_Packet_bitsOf l_Packet_41 (c_Packet_bitsOf w ok _ _) rfl rfl (Nat.le_of_ble_eq_true rfl) ⟨(Nat.le_of_ble_eq_true rfl), (Nat.le_of_ble_eq_true rfl)⟩ ⟨Nat.le_refl _, Nat.le_refl _⟩ ?_
  exact pf_iret h d_Packet_triplet_48 rfl (by first | contradiction | (simp only [plF, tripV]; simp [*])) (by first | contradiction | (simp only [plF, tripT]; simp [*]))

theorem pf_rw_rw (S : pf_S) (kd ix : Nat) (f g : Nat → Int32) : pf_rw (pf_rw S kd ix f) kd ix g = pf_rw S kd ix g := by
  funext a b
  by_cases h : a = kd ∧ b = ix
  · obtain ⟨rfl, rfl⟩ := h
    rw [pf_rw_at, pf_rw_at]
  · rw [pf_rw_ne _ _ h, pf_rw_ne _ _ h, pf_rw_ne _ _ h]
theorem pf_rw_self (S : pf_S) (kd ix : Nat) : pf_rw S kd ix (S kd ix) = S := by
  funext a b
  by_cases h : a = kd ∧ b = ix
  · obtain ⟨rfl, rfl⟩ := h
    rw [pf_rw_at]
  · rw [pf_rw_ne _ _ h]
/-- the first j places hold v -/
def filTo (f : Nat → Int32) (v : Int32) (j : Nat) : Nat → Int32 := fun q => if q < j then v else f q
theorem filTo_0 (f : Nat → Int32) (v : Int32) : filTo f v 0 = f := by
  funext q
  simp [filTo]
theorem filTo_s (f : Nat → Int32) (v : Int32) (j : Nat) : upd (filTo f v j) j v = filTo f v (j + 1) := by
  funext q
  by_cases h : q = j
  · subst h
    simp [upd, filTo]
  · by_cases h2 : q < j
    · have h3 : q < j + 1 := by omega
      simp [upd, filTo, h, h2, h3]
    · have h3 : ¬ q < j + 1 := by omega
      simp [upd, filTo, h, h2, h3]

set_option maxRecDepth 100000 in
set_option maxHeartbeats 4000000 in
theorem c_JArr_fill (w : pf_W) (ok : pf_ok w) (S : pf_S) (kd ix n : Nat) (v : Int32) (hd : pf_dm w.2.2.1 kd ix = true) (he : ∀ g : Nat → Int32, pf_E w g kd ix = .inl (w.1.2.2 0, n, .inl g)) (hn : n < 2 ^ 31) : pf_C w y_JArr_fill b_JArr_fill 4 none 0 0 [.ref (w.2.1 kd ix), .int v] S (none) (pf_rw S kd ix (filTo (S kd ix) v n)) := by
  refine pf_enter (by decide) (Nat.le_of_ble_eq_true rfl) (lv0 := [some (.ref (w.2.1 kd ix)), some (.int v), none, none]) rfl (fun κ h => ?_)
  have loop : ∀ (q j : Nat), j + q = n → pg_G κ w.1 4 0 0 (pg_Q κ w.1 (fun r' H => r' = none ∧ pf_P w (pf_rw S kd ix (filTo (S kd ix) v n)) H) 0 0) (pf_P w (pf_rw S kd ix (filTo (S kd ix) v j))) 5 [some (.ref (w.2.1 kd ix)), some (.int v), some (.int (nI j)), some (.int (nI n))] [] := by
    intro q
    induction q with
    | zero =>
      intro j hj
      have hj : j = n := by omega
      subst hj
      refine pg_iload_n h d_JArr_fill_5 rfl ?_
      refine pg_iload_n h d_JArr_fill_6 rfl ?_
      refine pg_icmp_ge (tgt := 20) h d_JArr_fill_7 rfl (fun e7 => ?_) (fun e7 => absurd e7 (fun e => e (Int32.le_refl _)))
      exact pf_vret h d_JArr_fill_20 rfl
    | succ q ih =>
      intro j hj
      refine pg_iload_n h d_JArr_fill_5 rfl ?_
      refine pg_iload_n h d_JArr_fill_6 rfl ?_
      refine pg_icmp_ge (tgt := 20) h d_JArr_fill_7 rfl (fun e7 => absurd e7 (nI_ge (show j < n by omega) hn)) (fun e7 => ?_)
      refine pg_aload_n h d_JArr_fill_10 rfl ?_
      refine pg_iload_n h d_JArr_fill_11 rfl ?_
      refine pg_iload_n h d_JArr_fill_12 rfl ?_
      refine pf_ist h ok d_JArr_fill_13 hd he (pg_ixN rfl (show j < n by omega) hn) ?_
      refine pg_iinc (w := 1) h d_JArr_fill_14 rfl (by decide) (Nat.le_of_ble_eq_true rfl) rfl rfl ?_
      refine pg_goto (tgt := 5) h d_JArr_fill_17 rfl ?_
      rw [← nI_succ j, pf_st_rw, pf_rw_at, pf_rw_rw, filTo_s]
      exact ih (j + 1) (by omega)
  refine pg_iconst (v := 0) h d_JArr_fill_0 (by decide) ?_
  refine pg_istore_n h d_JArr_fill_1 (Nat.le_of_ble_eq_true rfl) rfl rfl ?_
  refine pg_aload_n h d_JArr_fill_2 rfl ?_
  refine pf_len (t0 := 0) (v := nI n) h ok d_JArr_fill_3 hd (he _) rfl rfl ?_
  refine pg_istore_n h d_JArr_fill_4 (Nat.le_of_ble_eq_true rfl) rfl rfl ?_
  have q := loop n 0 (by omega)
  rw [filTo_0, pf_rw_self] at q
  exact q
