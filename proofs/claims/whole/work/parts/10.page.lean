/-! System.arraycopy over the flat memory; the methods of Page; Shelf.pageIn and Shelf.find. -/
section PGCOPY
variable {κ : pg_K} {z : pg_Z} {y : MethodName} {cc : ByteArray} {nL : Nat} {ret : Option FieldType} {rm : Room} {ce sl : Nat} {Q : State → Prop} {pc : Nat} {lv : List (Option Value)} {st : List Value} {L : List Nat} {M : Nat → va_E}
set_option maxRecDepth 100000 in
theorem pg_copy1 {a b n idx : Nat} {f g : Nat → Int32} (h : pg_X κ z y cc nL ret rm) (d : decode cc pc = .ok (.invokestatic idx, 3)) (hlk : Cond.methodLink y.cls idx arraycopyName ∈ pg_ws) (ha : a ∈ L) (hMa : M a = .inl (z.2.2 0, n, .inl f)) (hb : b ∈ L) (hMb : M b = .inl (z.2.2 0, n, .inl g)) (hn : n < 2 ^ 31)
    (hroom : 1 ≤ rm.frames ∧ (st.map fun v => v.category).sum + (nativeFrameWords "java/lang/System" "arraycopy" 5 + 11) ≤ rm.locals)
    (kk : pg_G κ z nL ce sl Q (pg_P z L (va_up M b (.inl (z.2.2 0, n, .inl (va_cpy f g 0 0 n))))) (pc + 3) lv st) : pg_G κ z nL ce sl Q (pg_P z L M) pc lv (.int (nI n) :: .int 0 :: .ref b :: .int 0 :: .ref a :: st) := fun H locs ls hP hS hl => by
  obtain ⟨q0, hq0⟩ := va_pl_get (X := []) (f := M) ha
  rw [hMa] at hq0
  obtain ⟨q1, hq1⟩ := va_pl_get (X := []) (f := M) hb
  have hq := hq1
  rw [hMb] at hq
  have hts := h.2.2.2.2.1
  have hset := va_pl_set (X := []) (e := .inl (z.2.2 0, n, .inl (va_cpy f g 0 0 n))) hP.2 hb hq1
  have hcl : (nI n).toNatClampNeg = n := nI_clamp hn
  refine va_copyi (ws := [] ++ va_pl L M) h.1 h.2.1 (h.2.2.1.trans hl.1.symm) h.2.2.2.1 (hts _ hlk) (hts _ (pg_tb 344 rfl rfl)) (hts _ (pg_tb 343 rfl rfl)) (hts _ (pg_tb 13 rfl rfl)) h.2.2.2.2.2.1.1 hP.1 hP.2 hS q0 q1 0 0 hq0 hq rfl rfl rfl (by decide) (by decide) (nI_pos hn) (by rw [hcl, sb_cl0]; omega) (by rw [hcl, sb_cl0]; omega) (fun _ _ => rfl) (by rw [h.2.2.2.2.2.2.1]; exact hroom.1) (by rw [h.2.2.2.2.2.2.1]; exact hroom.2) d (fun H1 locs1 hP1 hD1 hS1 => ?_)
  rw [hcl, sb_cl0, hset] at hP1 hD1
  exact kk H1 locs1 ls ⟨hP1, hD1⟩ hS1 hl
end PGCOPY
section PFCOPY
variable {κ : pg_K} {w : pf_W} {y : MethodName} {cc : ByteArray} {nL : Nat} {ret : Option FieldType} {rm : Room} {ce sl : Nat} {Q : State → Prop} {pc : Nat} {lv : List (Option Value)} {st : List Value} {S : pf_S}
theorem pf_cpy {kd ix kd2 ix2 n idx : Nat} (h : pg_X κ w.1 y cc nL ret rm) (ok : pf_ok w) (d : decode cc pc = .ok (.invokestatic idx, 3)) (hlk : Cond.methodLink y.cls idx arraycopyName ∈ pg_ws) (hd : pf_dm w.2.2.1 kd ix = true) (he : pf_E w (S kd ix) kd ix = .inl (w.1.2.2 0, n, .inl (S kd ix))) (hd2 : pf_dm w.2.2.1 kd2 ix2 = true) (he2 : ∀ g : Nat → Int32, pf_E w g kd2 ix2 = .inl (w.1.2.2 0, n, .inl g)) (hn : n < 2 ^ 31)
    (hroom : 1 ≤ rm.frames ∧ (st.map fun v => v.category).sum + (nativeFrameWords "java/lang/System" "arraycopy" 5 + 11) ≤ rm.locals)
    (kk : pg_G κ w.1 nL ce sl Q (pf_P w (pf_rw S kd2 ix2 (va_cpy (S kd ix) (S kd2 ix2) 0 0 n))) (pc + 3) lv st) : pg_G κ w.1 nL ce sl Q (pf_P w S) pc lv (.int (nI n) :: .int 0 :: .ref (w.2.1 kd2 ix2) :: .int 0 :: .ref (w.2.1 kd ix) :: st) :=
  pf_in (fun M hM => pg_copy1 h d hlk (ok kd ix hd).1 ((hM kd ix hd).trans he) (ok kd2 ix2 hd2).1 ((hM kd2 ix2 hd2).trans (he2 _)) hn hroom (pf_out (hM.up ok hd2 (he2 _)) kk))
end PFCOPY
theorem sw_out {x : Int32} (n : Nat) (hn : n < 2 ^ 31) (h : ∀ j : Nat, j ≤ n → ¬ x = nI j) : x.toInt < 0 ∨ (n : Int) < x.toInt := by
  by_cases h0 : x < 0
  · left
    have := Int32.lt_iff_toInt_lt.mp h0
    simpa using this
  · right
    obtain ⟨j, hj, rfl⟩ := nI_of h0
    rw [nI_toInt hj]
    rcases Nat.lt_or_ge n j with q | q
    · omega
    · exact absurd rfl (h j q)

theorem c_isCell1 (w : pf_W) (ok : pf_ok w) (S : pf_S) (r c : Nat) (hr : r < 8) (hc : c < 20) : pf_C w y_Recv_isCell b_Recv_isCell 2 (some .boolean) 0 0 [.int (nI r), .int (nI c)] S (some (.int 1)) S := by
  have q := c_Recv_isCell w ok S (nI r) (nI c)
  rw [if_pos ⟨nI_pos (by omega), nI_ge hr (by decide), nI_pos (by omega), nI_ge hc (by decide)⟩] at q
  exact q
theorem ix20 {r c : Nat} (hr : r < 8) (hc : c < 20) : pg_ix (nI r * 20 + nI c) 160 (r * 20 + c) := pg_ixN (by rw [show nI r * 20 = nI (r * 20) from pk_mul r 20, nI_add]) (by omega) (by decide)

set_option maxRecDepth 100000 in
set_option maxHeartbeats 4000000 in
theorem c_Page_letterAt (w : pf_W) (ok : pf_ok w) (S : pf_S) (k : Nat) (hk : pf_dm w.2.2.1 14 k = true) (r c : Nat) (hr : r < 8) (hc : c < 20) : pf_C w y_Page_letterAt b_Page_letterAt 3 (some .int) 1 21 [.ref (w.2.1 14 k), .int (nI r), .int (nI c)] S (some (.int (S 15 k (r * 20 + c)))) (S) := by
  refine pf_enter (by decide) (Nat.le_of_ble_eq_true rfl) (lv0 := [some (.ref (w.2.1 14 k)), some (.int (nI r)), some (.int (nI c))]) rfl (fun κ h => ?_)
  refine pg_iload_n h d_Page_letterAt_0 rfl ?_
  refine pg_iload_n h d_Page_letterAt_1 rfl ?_
  refine pg_cS h d_Page_letterAt_2 m_Recv_isCell l_Page_50 (c_isCell1 w ok S r c hr hc) rfl rfl (Nat.le_of_ble_eq_true rfl) ⟨(Nat.le_of_ble_eq_true rfl), (Nat.le_of_ble_eq_true rfl)⟩ ⟨Nat.le_refl _, Nat.le_refl _⟩ ?_
  refine pg_if_eq (tgt := 22) h d_Page_letterAt_5 rfl (fun e5 => absurd e5 (by decide)) (fun e5 => ?_)
  refine pg_aload_n h d_Page_letterAt_8 rfl ?_
  refine pf_get h ok d_Page_letterAt_9 f_Page_9 (by first | rfl | exact hk | exact hk2 | assumption) rfl rfl ?_
  refine pg_iload_n h d_Page_letterAt_12 rfl ?_
  refine pg_bipush (v := 20) h d_Page_letterAt_13 (by decide) ?_
  refine pg_imul h d_Page_letterAt_15 ?_
  refine pg_iload_n h d_Page_letterAt_16 rfl ?_
  refine pg_iadd h d_Page_letterAt_17 ?_
  refine pf_ild h ok d_Page_letterAt_18 (by first | rfl | exact hk | exact hk2 | assumption) rfl (ix20 hr hc) ?_
  refine pg_goto (tgt := 24) h d_Page_letterAt_19 rfl ?_
  exact pf_iret h d_Page_letterAt_24 rfl (by first | rfl | simp [*]) rfl

set_option maxRecDepth 100000 in
set_option maxHeartbeats 4000000 in
theorem c_Page_overlayAt (w : pf_W) (ok : pf_ok w) (S : pf_S) (k : Nat) (hk : pf_dm w.2.2.1 14 k = true) (r c : Nat) (hr : r < 8) (hc : c < 20) : pf_C w y_Page_overlayAt b_Page_overlayAt 3 (some .int) 1 21 [.ref (w.2.1 14 k), .int (nI r), .int (nI c)] S (some (.int (S 16 k (r * 20 + c)))) (S) := by
  refine pf_enter (by decide) (Nat.le_of_ble_eq_true rfl) (lv0 := [some (.ref (w.2.1 14 k)), some (.int (nI r)), some (.int (nI c))]) rfl (fun κ h => ?_)
  refine pg_iload_n h d_Page_overlayAt_0 rfl ?_
  refine pg_iload_n h d_Page_overlayAt_1 rfl ?_
  refine pg_cS h d_Page_overlayAt_2 m_Recv_isCell l_Page_50 (c_isCell1 w ok S r c hr hc) rfl rfl (Nat.le_of_ble_eq_true rfl) ⟨(Nat.le_of_ble_eq_true rfl), (Nat.le_of_ble_eq_true rfl)⟩ ⟨Nat.le_refl _, Nat.le_refl _⟩ ?_
  refine pg_if_eq (tgt := 22) h d_Page_overlayAt_5 rfl (fun e5 => absurd e5 (by decide)) (fun e5 => ?_)
  refine pg_aload_n h d_Page_overlayAt_8 rfl ?_
  refine pf_get h ok d_Page_overlayAt_9 f_Page_15 (by first | rfl | exact hk | exact hk2 | assumption) rfl rfl ?_
  refine pg_iload_n h d_Page_overlayAt_12 rfl ?_
  refine pg_bipush (v := 20) h d_Page_overlayAt_13 (by decide) ?_
  refine pg_imul h d_Page_overlayAt_15 ?_
  refine pg_iload_n h d_Page_overlayAt_16 rfl ?_
  refine pg_iadd h d_Page_overlayAt_17 ?_
  refine pf_ild h ok d_Page_overlayAt_18 (by first | rfl | exact hk | exact hk2 | assumption) rfl (ix20 hr hc) ?_
  refine pg_goto (tgt := 23) h d_Page_overlayAt_19 rfl ?_
  exact pf_iret h d_Page_overlayAt_23 rfl (by first | rfl | simp [*]) rfl

set_option maxRecDepth 100000 in
set_option maxHeartbeats 4000000 in
theorem c_Page_setLetter (w : pf_W) (ok : pf_ok w) (S : pf_S) (k : Nat) (hk : pf_dm w.2.2.1 14 k = true) (r c : Nat) (hr : r < 8) (hc : c < 20) (v : Int32) : pf_C w y_Page_setLetter b_Page_setLetter 4 none 1 21 [.ref (w.2.1 14 k), .int (nI r), .int (nI c), .int v] S (none) (pf_st S 15 k (r * 20 + c) v) := by
  refine pf_enter (by decide) (Nat.le_of_ble_eq_true rfl) (lv0 := [some (.ref (w.2.1 14 k)), some (.int (nI r)), some (.int (nI c)), some (.int v)]) rfl (fun κ h => ?_)
  refine pg_iload_n h d_Page_setLetter_0 rfl ?_
  refine pg_iload_n h d_Page_setLetter_1 rfl ?_
  refine pg_cS h d_Page_setLetter_2 m_Recv_isCell l_Page_50 (c_isCell1 w ok S r c hr hc) rfl rfl (Nat.le_of_ble_eq_true rfl) ⟨(Nat.le_of_ble_eq_true rfl), (Nat.le_of_ble_eq_true rfl)⟩ ⟨Nat.le_refl _, Nat.le_refl _⟩ ?_
  refine pg_if_eq (tgt := 20) h d_Page_setLetter_5 rfl (fun e5 => absurd e5 (by decide)) (fun e5 => ?_)
  refine pg_aload_n h d_Page_setLetter_8 rfl ?_
  refine pf_get h ok d_Page_setLetter_9 f_Page_9 (by first | rfl | exact hk | exact hk2 | assumption) rfl rfl ?_
  refine pg_iload_n h d_Page_setLetter_12 rfl ?_
  refine pg_bipush (v := 20) h d_Page_setLetter_13 (by decide) ?_
  refine pg_imul h d_Page_setLetter_15 ?_
  refine pg_iload_n h d_Page_setLetter_16 rfl ?_
  refine pg_iadd h d_Page_setLetter_17 ?_
  refine pg_iload_n h d_Page_setLetter_18 rfl ?_
  refine pf_ist h ok d_Page_setLetter_19 (by first | rfl | exact hk | exact hk2 | assumption) (fun _ => rfl) (ix20 hr hc) ?_
  exact pf_vret h d_Page_setLetter_20 rfl

set_option maxRecDepth 100000 in
set_option maxHeartbeats 4000000 in
theorem c_Page_setOverlay (w : pf_W) (ok : pf_ok w) (S : pf_S) (k : Nat) (hk : pf_dm w.2.2.1 14 k = true) (r c : Nat) (hr : r < 8) (hc : c < 20) (v : Int32) : pf_C w y_Page_setOverlay b_Page_setOverlay 4 none 1 21 [.ref (w.2.1 14 k), .int (nI r), .int (nI c), .int v] S (none) (pf_st S 16 k (r * 20 + c) v) := by
  refine pf_enter (by decide) (Nat.le_of_ble_eq_true rfl) (lv0 := [some (.ref (w.2.1 14 k)), some (.int (nI r)), some (.int (nI c)), some (.int v)]) rfl (fun κ h => ?_)
  refine pg_iload_n h d_Page_setOverlay_0 rfl ?_
  refine pg_iload_n h d_Page_setOverlay_1 rfl ?_
  refine pg_cS h d_Page_setOverlay_2 m_Recv_isCell l_Page_50 (c_isCell1 w ok S r c hr hc) rfl rfl (Nat.le_of_ble_eq_true rfl) ⟨(Nat.le_of_ble_eq_true rfl), (Nat.le_of_ble_eq_true rfl)⟩ ⟨Nat.le_refl _, Nat.le_refl _⟩ ?_
  refine pg_if_eq (tgt := 20) h d_Page_setOverlay_5 rfl (fun e5 => absurd e5 (by decide)) (fun e5 => ?_)
  refine pg_aload_n h d_Page_setOverlay_8 rfl ?_
  refine pf_get h ok d_Page_setOverlay_9 f_Page_15 (by first | rfl | exact hk | exact hk2 | assumption) rfl rfl ?_
  refine pg_iload_n h d_Page_setOverlay_12 rfl ?_
  refine pg_bipush (v := 20) h d_Page_setOverlay_13 (by decide) ?_
  refine pg_imul h d_Page_setOverlay_15 ?_
  refine pg_iload_n h d_Page_setOverlay_16 rfl ?_
  refine pg_iadd h d_Page_setOverlay_17 ?_
  refine pg_iload_n h d_Page_setOverlay_18 rfl ?_
  refine pf_ist h ok d_Page_setOverlay_19 (by first | rfl | exact hk | exact hk2 | assumption) (fun _ => rfl) (ix20 hr hc) ?_
  exact pf_vret h d_Page_setOverlay_20 rfl

set_option maxRecDepth 100000 in
set_option maxHeartbeats 4000000 in
theorem c_Page_link (w : pf_W) (ok : pf_ok w) (S : pf_S) (k : Nat) (hk : pf_dm w.2.2.1 14 k = true) (j : Nat) (hj : j < 4) : pf_C w y_Page_link b_Page_link 2 (some .int) 0 0 [.ref (w.2.1 14 k), .int (nI j)] S (some (.int (S 17 k j))) (S) := by
  refine pf_enter (by decide) (Nat.le_of_ble_eq_true rfl) (lv0 := [some (.ref (w.2.1 14 k)), some (.int (nI j))]) rfl (fun κ h => ?_)
  refine pg_iload_n h d_Page_link_0 rfl ?_
  refine pg_if_lt (tgt := 9) h d_Page_link_1 rfl (fun e1 => absurd e1 (nI_pos (by omega))) (fun e1 => ?_)
  refine pg_iload_n h d_Page_link_4 rfl ?_
  refine pg_iconst (v := 4) h d_Page_link_5 (by decide) ?_
  refine pg_icmp_lt (tgt := 13) h d_Page_link_6 rfl (fun e6 => ?_) (fun e6 => absurd e6 (fun e => e (nI_lt hj (by decide))))
  refine pg_aload_n h d_Page_link_13 rfl ?_
  refine pf_get h ok d_Page_link_14 f_Page_18 (by first | rfl | exact hk | exact hk2 | assumption) rfl rfl ?_
  refine pg_iload_n h d_Page_link_17 rfl ?_
  refine pf_ild h ok d_Page_link_18 (by first | rfl | exact hk | exact hk2 | assumption) rfl (pg_ixN rfl hj (by decide)) ?_
  exact pf_iret h d_Page_link_19 rfl (by first | rfl | simp [*]) rfl

def tellV (S : pf_S) (k : Nat) (x : Int32) : Int32 := if x = 0 then S 14 k 1 else if x = 1 then S 14 k 2 else if x = 2 then S 14 k 3 else if x = 3 then S 14 k 4 else if x = 4 then S 17 k 0 else if x = 5 then S 17 k 1 else if x = 6 then S 17 k 2 else if x = 7 then S 17 k 3 else -1

set_option maxRecDepth 100000 in
set_option maxHeartbeats 4000000 in
theorem c_Page_tell (w : pf_W) (ok : pf_ok w) (S : pf_S) (k : Nat) (hk : pf_dm w.2.2.1 14 k = true) (x : Int32) : pf_C w y_Page_tell b_Page_tell 2 (some .int) 1 21 [.ref (w.2.1 14 k), .int x] S (some (.int (tellV S k x))) (S) := by
  refine pf_enter (by decide) (Nat.le_of_ble_eq_true rfl) (lv0 := [some (.ref (w.2.1 14 k)), some (.int x)]) rfl (fun κ h => ?_)
  refine pg_iload_n h d_Page_tell_0 rfl ?_
  by_cases c1_0 : x = 0
  · refine pg_tableIn (off := 47) (tgt := 48) h d_Page_tell_1 (by rw [c1_0]; decide) (by rw [c1_0]; decide) (by rw [c1_0]; rfl) rfl ?_
    refine pg_aload_n h d_Page_tell_48 rfl ?_
    refine pf_get h ok d_Page_tell_49 f_Page_25 (by first | rfl | exact hk | exact hk2 | assumption) rfl rfl ?_
    exact pf_iret h d_Page_tell_52 rfl (by simp [tellV, *]) rfl
  by_cases c1_1 : x = 1
  · refine pg_tableIn (off := 52) (tgt := 53) h d_Page_tell_1 (by rw [c1_1]; decide) (by rw [c1_1]; decide) (by rw [c1_1]; rfl) rfl ?_
    refine pg_aload_n h d_Page_tell_53 rfl ?_
    refine pf_get h ok d_Page_tell_54 f_Page_35 (by first | rfl | exact hk | exact hk2 | assumption) rfl rfl ?_
    exact pf_iret h d_Page_tell_57 rfl (by simp [tellV, *]) rfl
  by_cases c1_2 : x = 2
  · refine pg_tableIn (off := 57) (tgt := 58) h d_Page_tell_1 (by rw [c1_2]; decide) (by rw [c1_2]; decide) (by rw [c1_2]; rfl) rfl ?_
    refine pg_aload_n h d_Page_tell_58 rfl ?_
    refine pf_get h ok d_Page_tell_59 f_Page_38 (by first | rfl | exact hk | exact hk2 | assumption) rfl rfl ?_
    exact pf_iret h d_Page_tell_62 rfl (by simp [tellV, *]) rfl
  by_cases c1_3 : x = 3
  · refine pg_tableIn (off := 62) (tgt := 63) h d_Page_tell_1 (by rw [c1_3]; decide) (by rw [c1_3]; decide) (by rw [c1_3]; rfl) rfl ?_
    refine pg_aload_n h d_Page_tell_63 rfl ?_
    refine pf_get h ok d_Page_tell_64 f_Page_41 (by first | rfl | exact hk | exact hk2 | assumption) rfl rfl ?_
    exact pf_iret h d_Page_tell_67 rfl (by simp [tellV, *]) rfl
  by_cases c1_4 : x = 4
  · refine pg_tableIn (off := 67) (tgt := 68) h d_Page_tell_1 (by rw [c1_4]; decide) (by rw [c1_4]; decide) (by rw [c1_4]; rfl) rfl ?_
    refine pg_aload_n h d_Page_tell_68 rfl ?_
    refine pg_iload_n h d_Page_tell_69 rfl ?_
    refine pg_iconst (v := 4) h d_Page_tell_70 (by decide) ?_
    refine pg_isub h d_Page_tell_71 ?_
    rw [show x - 4 = nI 0 from by rw [c1_4]; decide]
    refine pf_cV h ok d_Page_tell_72 m_Page_link l_Page_54 (c_Page_link w ok S k hk 0 (by decide)) cn_Page (by first | rfl | exact hk | exact hk2 | assumption) rfl rfl rfl (Nat.le_of_ble_eq_true rfl) ⟨(Nat.le_of_ble_eq_true rfl), (Nat.le_of_ble_eq_true rfl)⟩ ⟨Nat.le_refl _, Nat.le_refl _⟩ ?_
    exact pf_iret h d_Page_tell_75 rfl (by simp [tellV, *]) rfl
  by_cases c1_5 : x = 5
  · refine pg_tableIn (off := 67) (tgt := 68) h d_Page_tell_1 (by rw [c1_5]; decide) (by rw [c1_5]; decide) (by rw [c1_5]; rfl) rfl ?_
    refine pg_aload_n h d_Page_tell_68 rfl ?_
    refine pg_iload_n h d_Page_tell_69 rfl ?_
    refine pg_iconst (v := 4) h d_Page_tell_70 (by decide) ?_
    refine pg_isub h d_Page_tell_71 ?_
    rw [show x - 4 = nI 1 from by rw [c1_5]; decide]
    refine pf_cV h ok d_Page_tell_72 m_Page_link l_Page_54 (c_Page_link w ok S k hk 1 (by decide)) cn_Page (by first | rfl | exact hk | exact hk2 | assumption) rfl rfl rfl (Nat.le_of_ble_eq_true rfl) ⟨(Nat.le_of_ble_eq_true rfl), (Nat.le_of_ble_eq_true rfl)⟩ ⟨Nat.le_refl _, Nat.le_refl _⟩ ?_
    exact pf_iret h d_Page_tell_75 rfl (by simp [tellV, *]) rfl
  by_cases c1_6 : x = 6
  · refine pg_tableIn (off := 67) (tgt := 68) h d_Page_tell_1 (by rw [c1_6]; decide) (by rw [c1_6]; decide) (by rw [c1_6]; rfl) rfl ?_
    refine pg_aload_n h d_Page_tell_68 rfl ?_
    refine pg_iload_n h d_Page_tell_69 rfl ?_
    refine pg_iconst (v := 4) h d_Page_tell_70 (by decide) ?_
    refine pg_isub h d_Page_tell_71 ?_
    rw [show x - 4 = nI 2 from by rw [c1_6]; decide]
    refine pf_cV h ok d_Page_tell_72 m_Page_link l_Page_54 (c_Page_link w ok S k hk 2 (by decide)) cn_Page (by first | rfl | exact hk | exact hk2 | assumption) rfl rfl rfl (Nat.le_of_ble_eq_true rfl) ⟨(Nat.le_of_ble_eq_true rfl), (Nat.le_of_ble_eq_true rfl)⟩ ⟨Nat.le_refl _, Nat.le_refl _⟩ ?_
    exact pf_iret h d_Page_tell_75 rfl (by simp [tellV, *]) rfl
  by_cases c1_7 : x = 7
  · refine pg_tableIn (off := 67) (tgt := 68) h d_Page_tell_1 (by rw [c1_7]; decide) (by rw [c1_7]; decide) (by rw [c1_7]; rfl) rfl ?_
    refine pg_aload_n h d_Page_tell_68 rfl ?_
    refine pg_iload_n h d_Page_tell_69 rfl ?_
    refine pg_iconst (v := 4) h d_Page_tell_70 (by decide) ?_
    refine pg_isub h d_Page_tell_71 ?_
    rw [show x - 4 = nI 3 from by rw [c1_7]; decide]
    refine pf_cV h ok d_Page_tell_72 m_Page_link l_Page_54 (c_Page_link w ok S k hk 3 (by decide)) cn_Page (by first | rfl | exact hk | exact hk2 | assumption) rfl rfl rfl (Nat.le_of_ble_eq_true rfl) ⟨(Nat.le_of_ble_eq_true rfl), (Nat.le_of_ble_eq_true rfl)⟩ ⟨Nat.le_refl _, Nat.le_refl _⟩ ?_
    exact pf_iret h d_Page_tell_75 rfl (by simp [tellV, *]) rfl
  have o1 : ∀ j : Nat, j ≤ 7 → ¬ x = nI j := by
    intro j hj
    rcases (show j = 0 ∨ j = 1 ∨ j = 2 ∨ j = 3 ∨ j = 4 ∨ j = 5 ∨ j = 6 ∨ j = 7 by omega) with rfl | rfl | rfl | rfl | rfl | rfl | rfl | rfl
    · exact c1_0
    · exact c1_1
    · exact c1_2
    · exact c1_3
    · exact c1_4
    · exact c1_5
    · exact c1_6
    · exact c1_7
  refine pg_tableOut (tgt := 76) h d_Page_tell_1 (sw_out 7 (by decide) o1) rfl ?_
  refine pg_iconst (v := (-1)) h d_Page_tell_76 (by decide) ?_
  exact pf_iret h d_Page_tell_77 rfl (by simp [tellV, *]) rfl

/-- Page.begin -/
def begP (S : pf_S) (k : Nat) (num : Int32) : pf_S := pf_rw (pf_rw (pf_rw (pf_st (pf_st S 14 k 0 1) 14 k 1 num) 15 k (filTo (S 15 k) 32 160)) 16 k (filTo (S 16 k) 0 160)) 17 k (filTo (S 17 k) (-1) 4)

set_option maxRecDepth 100000 in
set_option maxHeartbeats 4000000 in
theorem c_Page_begin (w : pf_W) (ok : pf_ok w) (S : pf_S) (k : Nat) (hk : pf_dm w.2.2.1 14 k = true) (num : Int32) : pf_C w y_Page_begin b_Page_begin 2 none 1 23 [.ref (w.2.1 14 k), .int num] S (none) (begP S k num) := by
  refine pf_enter (by decide) (Nat.le_of_ble_eq_true rfl) (lv0 := [some (.ref (w.2.1 14 k)), some (.int num)]) rfl (fun κ h => ?_)
  refine pg_aload_n h d_Page_begin_0 rfl ?_
  refine pg_iconst (v := 1) h d_Page_begin_1 (by decide) ?_
  refine pf_putz 1 h ok d_Page_begin_2 fw_Page_21 (by first | rfl | exact hk | exact hk2 | assumption) rfl (Nat.le_of_ble_eq_true rfl) rfl ?_
  refine pg_aload_n h d_Page_begin_5 rfl ?_
  refine pg_iload_n h d_Page_begin_6 rfl ?_
  refine pf_puti h ok d_Page_begin_7 fw_Page_25 (by first | rfl | exact hk | exact hk2 | assumption) rfl (Nat.le_of_ble_eq_true rfl) rfl ?_
  refine pg_aload_n h d_Page_begin_10 rfl ?_
  refine pf_get h ok d_Page_begin_11 f_Page_9 (by first | rfl | exact hk | exact hk2 | assumption) rfl rfl ?_
  refine pg_bipush (v := 32) h d_Page_begin_14 (by decide) ?_
  refine pg_cS0 h d_Page_begin_16 m_JArr_fill l_Page_29 (c_JArr_fill w ok _ 15 k 160 32 hk (fun _ => rfl) (by decide)) rfl rfl (Nat.le_of_ble_eq_true rfl) ⟨(Nat.le_of_ble_eq_true rfl), (Nat.le_of_ble_eq_true rfl)⟩ ⟨Nat.le_refl _, Nat.le_refl _⟩ ?_
  refine pg_aload_n h d_Page_begin_19 rfl ?_
  refine pf_get h ok d_Page_begin_20 f_Page_15 (by first | rfl | exact hk | exact hk2 | assumption) rfl rfl ?_
  refine pg_iconst (v := 0) h d_Page_begin_23 (by decide) ?_
  refine pg_cS0 h d_Page_begin_24 m_JArr_fill l_Page_29 (c_JArr_fill w ok _ 16 k 160 0 hk (fun _ => rfl) (by decide)) rfl rfl (Nat.le_of_ble_eq_true rfl) ⟨(Nat.le_of_ble_eq_true rfl), (Nat.le_of_ble_eq_true rfl)⟩ ⟨Nat.le_refl _, Nat.le_refl _⟩ ?_
  refine pg_aload_n h d_Page_begin_27 rfl ?_
  refine pf_get h ok d_Page_begin_28 f_Page_18 (by first | rfl | exact hk | exact hk2 | assumption) rfl rfl ?_
  refine pg_iconst (v := (-1)) h d_Page_begin_31 (by decide) ?_
  refine pg_cS0 h d_Page_begin_32 m_JArr_fill l_Page_29 (c_JArr_fill w ok _ 17 k 4 (-1) hk (fun _ => rfl) (by decide)) rfl rfl (Nat.le_of_ble_eq_true rfl) ⟨(Nat.le_of_ble_eq_true rfl), (Nat.le_of_ble_eq_true rfl)⟩ ⟨Nat.le_refl _, Nat.le_refl _⟩ ?_
  exact pf_vret h d_Page_begin_35 (by rfl)

/-- Page.copyFrom: page k2 into page k -/
def cpP (S : pf_S) (k2 k : Nat) : pf_S := fun a b j => if b = k then (if a = 14 then (if j < 5 then S 14 k2 j else S 14 k j) else if a = 15 then (if j < 160 then S 15 k2 j else S 15 k j) else if a = 16 then (if j < 160 then S 16 k2 j else S 16 k j) else if a = 17 then (if j < 4 then S 17 k2 j else S 17 k j) else S a b j) else S a b j
theorem cpy0 (f g : Nat → Int32) (n : Nat) : va_cpy f g 0 0 n = fun j => if j < n then f j else g j := by
  funext j
  simp [va_cpy]
theorem pf_st_at (S : pf_S) (kd ix k : Nat) (v : Int32) (a b c : Nat) : pf_st S kd ix k v a b c = if a = kd ∧ b = ix ∧ c = k then v else S a b c := by
  by_cases h : a = kd ∧ b = ix
  · obtain ⟨rfl, rfl⟩ := h
    simp [pf_st, upd]
  · by_cases h2 : a = kd ∧ b = ix ∧ c = k
    · exact absurd ⟨h2.1, h2.2.1⟩ h
    · rw [if_neg h2]
      simp only [pf_st, if_neg h]
theorem pf_rw_app (S : pf_S) (kd ix : Nat) (g : Nat → Int32) (a b c : Nat) : pf_rw S kd ix g a b c = if a = kd ∧ b = ix then g c else S a b c := by
  by_cases h : a = kd ∧ b = ix
  · simp only [pf_rw, if_pos h]
  · simp only [pf_rw, if_neg h]

set_option maxRecDepth 100000 in
set_option maxHeartbeats 4000000 in
theorem c_Page_copyFrom (w : pf_W) (ok : pf_ok w) (S : pf_S) (k : Nat) (hk : pf_dm w.2.2.1 14 k = true) (k2 : Nat) (hk2 : pf_dm w.2.2.1 14 k2 = true) (hne : k2 ≠ k) : pf_C w y_Page_copyFrom b_Page_copyFrom 2 none 1 40 [.ref (w.2.1 14 k), .ref (w.2.1 14 k2)] S (none) (cpP S k2 k) := by
  refine pf_enter (by decide) (Nat.le_of_ble_eq_true rfl) (lv0 := [some (.ref (w.2.1 14 k)), some (.ref (w.2.1 14 k2))]) rfl (fun κ h => ?_)
  refine pg_aload_n h d_Page_copyFrom_0 rfl ?_
  refine pg_aload_n h d_Page_copyFrom_1 rfl ?_
  refine pf_get h ok d_Page_copyFrom_2 f_Page_21 (by first | rfl | exact hk | exact hk2 | assumption) rfl rfl ?_
  refine pf_putz _ h ok d_Page_copyFrom_5 fw_Page_21 (by first | rfl | exact hk | exact hk2 | assumption) rfl (Nat.le_of_ble_eq_true rfl) rfl ?_
  refine pg_aload_n h d_Page_copyFrom_8 rfl ?_
  refine pg_aload_n h d_Page_copyFrom_9 rfl ?_
  refine pf_get h ok d_Page_copyFrom_10 f_Page_25 (by first | rfl | exact hk | exact hk2 | assumption) rfl rfl ?_
  refine pf_puti h ok d_Page_copyFrom_13 fw_Page_25 (by first | rfl | exact hk | exact hk2 | assumption) rfl (Nat.le_of_ble_eq_true rfl) rfl ?_
  refine pg_aload_n h d_Page_copyFrom_16 rfl ?_
  refine pg_aload_n h d_Page_copyFrom_17 rfl ?_
  refine pf_get h ok d_Page_copyFrom_18 f_Page_35 (by first | rfl | exact hk | exact hk2 | assumption) rfl rfl ?_
  refine pf_puti h ok d_Page_copyFrom_21 fw_Page_35 (by first | rfl | exact hk | exact hk2 | assumption) rfl (Nat.le_of_ble_eq_true rfl) rfl ?_
  refine pg_aload_n h d_Page_copyFrom_24 rfl ?_
  refine pg_aload_n h d_Page_copyFrom_25 rfl ?_
  refine pf_get h ok d_Page_copyFrom_26 f_Page_38 (by first | rfl | exact hk | exact hk2 | assumption) rfl rfl ?_
  refine pf_puti h ok d_Page_copyFrom_29 fw_Page_38 (by first | rfl | exact hk | exact hk2 | assumption) rfl (Nat.le_of_ble_eq_true rfl) rfl ?_
  refine pg_aload_n h d_Page_copyFrom_32 rfl ?_
  refine pg_aload_n h d_Page_copyFrom_33 rfl ?_
  refine pf_get h ok d_Page_copyFrom_34 f_Page_41 (by first | rfl | exact hk | exact hk2 | assumption) rfl rfl ?_
  refine pf_puti h ok d_Page_copyFrom_37 fw_Page_41 (by first | rfl | exact hk | exact hk2 | assumption) rfl (Nat.le_of_ble_eq_true rfl) rfl ?_
  refine pg_aload_n h d_Page_copyFrom_40 rfl ?_
  refine pf_get h ok d_Page_copyFrom_41 f_Page_9 (by first | rfl | exact hk | exact hk2 | assumption) rfl rfl ?_
  refine pg_iconst (v := 0) h d_Page_copyFrom_44 (by decide) ?_
  refine pg_aload_n h d_Page_copyFrom_45 rfl ?_
  refine pf_get h ok d_Page_copyFrom_46 f_Page_9 (by first | rfl | exact hk | exact hk2 | assumption) rfl rfl ?_
  refine pg_iconst (v := 0) h d_Page_copyFrom_49 (by decide) ?_
  refine pg_aload_n h d_Page_copyFrom_50 rfl ?_
  refine pf_get h ok d_Page_copyFrom_51 f_Page_9 (by first | rfl | exact hk | exact hk2 | assumption) rfl rfl ?_
  refine pf_len (t0 := 0) (v := nI 160) h ok d_Page_copyFrom_54 (by first | rfl | exact hk | exact hk2 | assumption) rfl rfl rfl ?_
  refine pf_cpy (kd := 15) (ix := k2) (kd2 := 15) (ix2 := k) (n := 160) h ok d_Page_copyFrom_55 (pg_tb 342 rfl rfl) hk2 rfl hk (fun _ => rfl) (by decide) ⟨by decide, by decide⟩ ?_
  refine pg_aload_n h d_Page_copyFrom_58 rfl ?_
  refine pf_get h ok d_Page_copyFrom_59 f_Page_15 (by first | rfl | exact hk | exact hk2 | assumption) rfl rfl ?_
  refine pg_iconst (v := 0) h d_Page_copyFrom_62 (by decide) ?_
  refine pg_aload_n h d_Page_copyFrom_63 rfl ?_
  refine pf_get h ok d_Page_copyFrom_64 f_Page_15 (by first | rfl | exact hk | exact hk2 | assumption) rfl rfl ?_
  refine pg_iconst (v := 0) h d_Page_copyFrom_67 (by decide) ?_
  refine pg_aload_n h d_Page_copyFrom_68 rfl ?_
  refine pf_get h ok d_Page_copyFrom_69 f_Page_15 (by first | rfl | exact hk | exact hk2 | assumption) rfl rfl ?_
  refine pf_len (t0 := 0) (v := nI 160) h ok d_Page_copyFrom_72 (by first | rfl | exact hk | exact hk2 | assumption) rfl rfl rfl ?_
  refine pf_cpy (kd := 16) (ix := k2) (kd2 := 16) (ix2 := k) (n := 160) h ok d_Page_copyFrom_73 (pg_tb 342 rfl rfl) hk2 rfl hk (fun _ => rfl) (by decide) ⟨by decide, by decide⟩ ?_
  refine pg_aload_n h d_Page_copyFrom_76 rfl ?_
  refine pf_get h ok d_Page_copyFrom_77 f_Page_18 (by first | rfl | exact hk | exact hk2 | assumption) rfl rfl ?_
  refine pg_iconst (v := 0) h d_Page_copyFrom_80 (by decide) ?_
  refine pg_aload_n h d_Page_copyFrom_81 rfl ?_
  refine pf_get h ok d_Page_copyFrom_82 f_Page_18 (by first | rfl | exact hk | exact hk2 | assumption) rfl rfl ?_
  refine pg_iconst (v := 0) h d_Page_copyFrom_85 (by decide) ?_
  refine pg_aload_n h d_Page_copyFrom_86 rfl ?_
  refine pf_get h ok d_Page_copyFrom_87 f_Page_18 (by first | rfl | exact hk | exact hk2 | assumption) rfl rfl ?_
  refine pf_len (t0 := 0) (v := nI 4) h ok d_Page_copyFrom_90 (by first | rfl | exact hk | exact hk2 | assumption) rfl rfl rfl ?_
  refine pf_cpy (kd := 17) (ix := k2) (kd2 := 17) (ix2 := k) (n := 4) h ok d_Page_copyFrom_91 (pg_tb 342 rfl rfl) hk2 rfl hk (fun _ => rfl) (by decide) ⟨by decide, by decide⟩ ?_
  exact pf_vret h d_Page_copyFrom_94 (by clear h ok hk hk2; funext a b j; simp only [cpP, pf_rw_app, pf_st_at, cpy0]; grind (splits := 40))
