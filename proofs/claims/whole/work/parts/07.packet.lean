/-! Packet: leaf methods; isCell; Integer.bitCount is in part 08. -/
set_option maxRecDepth 100000 in
set_option maxHeartbeats 4000000 in
theorem c_Packet_put (w : pf_W) (ok : pf_ok w) (S : pf_S) (v : Int32) (z : Nat) (hz : S 2 0 2 = nI z) (hz2 : z < 22) : pf_C w y_Packet_put b_Packet_put 2 none 0 0 [.ref (w.2.1 2 0), .int v] S (none) (pf_st (pf_st S 3 0 z v) 2 0 2 (S 2 0 2 + 1)) := by
  refine pf_enter (by decide) (Nat.le_of_ble_eq_true rfl) (lv0 := [some (.ref (w.2.1 2 0)), some (.int v)]) rfl (fun κ h => ?_)
  refine pg_aload_n h d_Packet_put_0 rfl ?_
  refine pf_get h ok d_Packet_put_1 f_Packet_18 (by first | rfl | assumption) rfl rfl ?_
  refine pg_bipush (v := 22) h d_Packet_put_4 (by decide) ?_
  refine pg_icmp_ge (tgt := 29) h d_Packet_put_6 rfl (fun e6 => absurd e6 (by rw [hz]; exact nI_ge hz2 (by decide))) (fun e6 => ?_)
  refine pg_aload_n h d_Packet_put_9 rfl ?_
  refine pf_get h ok d_Packet_put_10 f_Packet_9 (by first | rfl | assumption) rfl rfl ?_
  refine pg_aload_n h d_Packet_put_13 rfl ?_
  refine pf_get h ok d_Packet_put_14 f_Packet_18 (by first | rfl | assumption) rfl rfl ?_
  refine pg_iload_n h d_Packet_put_17 rfl ?_
  refine pf_ist h ok d_Packet_put_18 (by first | rfl | assumption) (fun _ => rfl) (pg_ixN hz hz2 (by decide)) ?_
  refine pg_aload_n h d_Packet_put_19 rfl ?_
  refine pg_dup h d_Packet_put_20 rfl ?_
  refine pf_get h ok d_Packet_put_21 f_Packet_18 (by first | rfl | assumption) rfl rfl ?_
  refine pg_iconst (v := 1) h d_Packet_put_24 (by decide) ?_
  refine pg_iadd h d_Packet_put_25 ?_
  refine pf_puti h ok d_Packet_put_26 fw_Packet_18 (by first | rfl | assumption) rfl (Nat.le_of_ble_eq_true rfl) rfl ?_
  exact pf_vret h d_Packet_put_29 rfl

set_option maxRecDepth 100000 in
set_option maxHeartbeats 4000000 in
theorem c_Packet_isWhole (w : pf_W) (ok : pf_ok w) (S : pf_S)  : pf_C w y_Packet_isWhole b_Packet_isWhole 1 (some .boolean) 0 0 [.ref (w.2.1 2 0)] S (some (.int (if S 2 0 2 = 22 then 1 else 0))) (S) := by
  refine pf_enter (by decide) (Nat.le_of_ble_eq_true rfl) (lv0 := [some (.ref (w.2.1 2 0))]) rfl (fun κ h => ?_)
  refine pg_aload_n h d_Packet_isWhole_0 rfl ?_
  refine pf_get h ok d_Packet_isWhole_1 f_Packet_18 (by first | rfl | assumption) rfl rfl ?_
  refine pg_bipush (v := 22) h d_Packet_isWhole_4 (by decide) ?_
  refine pg_icmp_ne (tgt := 13) h d_Packet_isWhole_6 rfl (fun e6 => ?_) (fun e6 => ?_)
  · skip
    refine pg_iconst (v := 0) h d_Packet_isWhole_13 (by decide) ?_
    exact pf_iret h d_Packet_isWhole_14 rfl (by first | rfl | simp [*]) rfl
  refine pg_iconst (v := 1) h d_Packet_isWhole_9 (by decide) ?_
  refine pg_goto (tgt := 14) h d_Packet_isWhole_10 rfl ?_
  exact pf_iret h d_Packet_isWhole_14 rfl (by first | rfl | simp [*]) rfl

set_option maxRecDepth 100000 in
set_option maxHeartbeats 4000000 in
theorem c_Packet_empty (w : pf_W) (ok : pf_ok w) (S : pf_S)  : pf_C w y_Packet_empty b_Packet_empty 2 (some .int) 0 0 [.ref (w.2.1 2 0)] S (some (.int (S 2 0 2))) (pf_st S 2 0 2 0) := by
  refine pf_enter (by decide) (Nat.le_of_ble_eq_true rfl) (lv0 := [some (.ref (w.2.1 2 0)), none]) rfl (fun κ h => ?_)
  refine pg_aload_n h d_Packet_empty_0 rfl ?_
  refine pf_get h ok d_Packet_empty_1 f_Packet_18 (by first | rfl | assumption) rfl rfl ?_
  refine pg_istore_n h d_Packet_empty_4 (Nat.le_of_ble_eq_true rfl) rfl rfl ?_
  refine pg_aload_n h d_Packet_empty_5 rfl ?_
  refine pg_iconst (v := 0) h d_Packet_empty_6 (by decide) ?_
  refine pf_puti h ok d_Packet_empty_7 fw_Packet_18 (by first | rfl | assumption) rfl (Nat.le_of_ble_eq_true rfl) rfl ?_
  refine pg_iload_n h d_Packet_empty_10 rfl ?_
  exact pf_iret h d_Packet_empty_11 rfl (by first | rfl | simp [*]) rfl

set_option maxRecDepth 100000 in
set_option maxHeartbeats 4000000 in
theorem c_Packet_byteAt (w : pf_W) (ok : pf_ok w) (S : pf_S) (i : Nat) (hi : i < 22) : pf_C w y_Packet_byteAt b_Packet_byteAt 2 (some .int) 0 0 [.ref (w.2.1 2 0), .int (nI i)] S (some (.int (S 3 0 i))) (S) := by
  refine pf_enter (by decide) (Nat.le_of_ble_eq_true rfl) (lv0 := [some (.ref (w.2.1 2 0)), some (.int (nI i))]) rfl (fun κ h => ?_)
  refine pg_iload_n h d_Packet_byteAt_0 rfl ?_
  refine pg_if_lt (tgt := 10) h d_Packet_byteAt_1 rfl (fun e1 => absurd e1 (nI_pos (by omega))) (fun e1 => ?_)
  refine pg_iload_n h d_Packet_byteAt_4 rfl ?_
  refine pg_bipush (v := 22) h d_Packet_byteAt_5 (by decide) ?_
  refine pg_icmp_lt (tgt := 14) h d_Packet_byteAt_7 rfl (fun e7 => ?_) (fun e7 => absurd e7 (fun e => e (nI_lt hi (by decide))))
  refine pg_aload_n h d_Packet_byteAt_14 rfl ?_
  refine pf_get h ok d_Packet_byteAt_15 f_Packet_9 (by first | rfl | assumption) rfl rfl ?_
  refine pg_iload_n h d_Packet_byteAt_18 rfl ?_
  refine pf_ild h ok d_Packet_byteAt_19 (by first | rfl | assumption) rfl (pg_ixN rfl hi (by decide)) ?_
  exact pf_iret h d_Packet_byteAt_20 rfl (by first | rfl | simp [*]) rfl

set_option maxRecDepth 100000 in
set_option maxHeartbeats 4000000 in
theorem c_Recv_isCell (w : pf_W) (ok : pf_ok w) (S : pf_S) (r c : Int32) : pf_C w y_Recv_isCell b_Recv_isCell 2 (some .boolean) 0 0 [.int r, .int c] S (some (.int (if ¬ r < 0 ∧ ¬ 8 ≤ r ∧ ¬ c < 0 ∧ ¬ 20 ≤ c then 1 else 0))) (S) := by
  refine pf_enter (by decide) (Nat.le_of_ble_eq_true rfl) (lv0 := [some (.int r), some (.int c)]) rfl (fun κ h => ?_)
  refine pg_iload_n h d_Recv_isCell_0 rfl ?_
  refine pg_if_lt (tgt := 24) h d_Recv_isCell_1 rfl (fun e1 => ?_) (fun e1 => ?_)
  · skip
    refine pg_iconst (v := 0) h d_Recv_isCell_24 (by decide) ?_
    exact pf_iret h d_Recv_isCell_25 rfl (by first | rfl | simp [*]) rfl
  refine pg_iload_n h d_Recv_isCell_4 rfl ?_
  refine pg_bipush (v := 8) h d_Recv_isCell_5 (by decide) ?_
  refine pg_icmp_ge (tgt := 24) h d_Recv_isCell_7 rfl (fun e7 => ?_) (fun e7 => ?_)
  · skip
    refine pg_iconst (v := 0) h d_Recv_isCell_24 (by decide) ?_
    exact pf_iret h d_Recv_isCell_25 rfl (by first | rfl | simp [*]) rfl
  refine pg_iload_n h d_Recv_isCell_10 rfl ?_
  refine pg_if_lt (tgt := 24) h d_Recv_isCell_11 rfl (fun e11 => ?_) (fun e11 => ?_)
  · skip
    refine pg_iconst (v := 0) h d_Recv_isCell_24 (by decide) ?_
    exact pf_iret h d_Recv_isCell_25 rfl (by first | rfl | simp [*]) rfl
  refine pg_iload_n h d_Recv_isCell_14 rfl ?_
  refine pg_bipush (v := 20) h d_Recv_isCell_15 (by decide) ?_
  refine pg_icmp_ge (tgt := 24) h d_Recv_isCell_17 rfl (fun e17 => ?_) (fun e17 => ?_)
  · skip
    refine pg_iconst (v := 0) h d_Recv_isCell_24 (by decide) ?_
    exact pf_iret h d_Recv_isCell_25 rfl (by first | rfl | simp [*]) rfl
  refine pg_iconst (v := 1) h d_Recv_isCell_20 (by decide) ?_
  refine pg_goto (tgt := 25) h d_Recv_isCell_21 rfl ?_
  exact pf_iret h d_Recv_isCell_25 rfl (by first | rfl | simp [*]) rfl
