/-! Remote; the short methods of PageReceiver. -/
/-- Remote.pageShown -/
def shnF (S : pf_S) (P : Nat) : Option Nat := if nb (S 14 12 0) = 0 then fndF S P (S 6 0 2) else some 12
theorem shnF_dm {S : pf_S} {P k : Nat} (h : shnF S P = some k) : pf_dm P 14 k = true := by
  unfold shnF at h
  split at h
  · exact dmK (fndF_some h).2.1
  · cases h
    exact dm12 P

set_option maxRecDepth 100000 in
set_option maxHeartbeats 4000000 in
theorem c_Remote_pageShown (w : pf_W) (ok : pf_ok w) (S : pf_S) (hw : 1 ≤ w.2.2.1 ∧ w.2.2.1 ≤ 4) : pf_C w y_Remote_pageShown b_Remote_pageShown 1 (some (.object "PageReceiver$Page")) 1 22 [.ref (w.2.1 6 0)] S (some (pgV w (shnF S w.2.2.1))) (S) := by
  refine pf_enter (by decide) (Nat.le_of_ble_eq_true rfl) (lv0 := [some (.ref (w.2.1 6 0))]) rfl (fun κ h => ?_)
  refine pg_aload_n h d_Remote_pageShown_0 rfl ?_
  refine pf_get h ok d_Remote_pageShown_1 f_Remote_12 (by first | rfl | exact hk | exact hk2 | exact dm12 _ | assumption) rfl rfl ?_
  refine pf_get h ok d_Remote_pageShown_4 f_Remote_26 (by first | rfl | exact hk | exact hk2 | exact dm12 _ | assumption) rfl rfl ?_
  refine pg_if_eq (tgt := 17) h d_Remote_pageShown_7 rfl (fun e7 => ?_) (fun e7 => ?_)
  · skip
    refine pg_aload_n h d_Remote_pageShown_17 rfl ?_
    refine pf_get h ok d_Remote_pageShown_18 f_Remote_22 (by first | rfl | exact hk | exact hk2 | exact dm12 _ | assumption) rfl rfl ?_
    refine pg_aload_n h d_Remote_pageShown_21 rfl ?_
    refine pf_get h ok d_Remote_pageShown_22 f_Remote_18 (by first | rfl | exact hk | exact hk2 | exact dm12 _ | assumption) rfl rfl ?_
    refine pf_cV h ok d_Remote_pageShown_25 m_Shelf_find l_Remote_30 (c_Shelf_find w ok S hw _) cn_Shelf (by first | rfl | exact hk | exact hk2 | exact dm12 _ | assumption) rfl rfl rfl (Nat.le_of_ble_eq_true rfl) ⟨(Nat.le_of_ble_eq_true rfl), (Nat.le_of_ble_eq_true rfl)⟩ ⟨Nat.le_refl _, Nat.le_refl _⟩ ?_
    first
      | exact pf_aret h d_Remote_pageShown_28 (Or.inr ⟨_, rfl⟩) (by simp [shnF, pgV, e7]) rfl
      | (refine pf_aret h d_Remote_pageShown_28 ?_ (by simp [shnF, e7]) rfl; cases fndF S w.2.2.1 (S 6 0 2) <;> simp [pgV])--end
  refine pg_aload_n h d_Remote_pageShown_10 rfl ?_
  refine pf_get h ok d_Remote_pageShown_11 f_Remote_12 (by first | rfl | exact hk | exact hk2 | exact dm12 _ | assumption) rfl rfl ?_
  refine pg_goto (tgt := 28) h d_Remote_pageShown_14 rfl ?_
  first
    | exact pf_aret h d_Remote_pageShown_28 (Or.inr ⟨_, rfl⟩) (by simp [shnF, pgV, e7]) rfl
    | (refine pf_aret h d_Remote_pageShown_28 ?_ (by simp [shnF, e7]) rfl; cases fndF S w.2.2.1 (S 6 0 2) <;> simp [pgV])--end

theorem c_shown_some (w : pf_W) (ok : pf_ok w) (S : pf_S) (hw : 1 ≤ w.2.2.1 ∧ w.2.2.1 ≤ 4) {k : Nat} (hf : shnF S w.2.2.1 = some k) : pf_C w y_Remote_pageShown b_Remote_pageShown 1 (some (.object "PageReceiver$Page")) 1 22 [.ref (w.2.1 6 0)] S (some (.ref (w.2.1 14 k))) S := by
  have q := c_Remote_pageShown w ok S hw
  rw [hf] at q
  exact q
theorem c_shown_none (w : pf_W) (ok : pf_ok w) (S : pf_S) (hw : 1 ≤ w.2.2.1 ∧ w.2.2.1 ≤ 4) (hf : shnF S w.2.2.1 = none) : pf_C w y_Remote_pageShown b_Remote_pageShown 1 (some (.object "PageReceiver$Page")) 1 22 [.ref (w.2.1 6 0)] S (some .null) S := by
  have q := c_Remote_pageShown w ok S hw
  rw [hf] at q
  exact q
/-- Remote.want -/
def wntF (S : pf_S) (num : Int32) : pf_S := pf_st (pf_st (pf_st S 6 0 2 num) 14 12 0 0) 6 0 6 0

set_option maxRecDepth 100000 in
set_option maxHeartbeats 4000000 in
theorem c_Remote_want (w : pf_W) (ok : pf_ok w) (S : pf_S) (num : Int32) : pf_C w y_Remote_want b_Remote_want 2 none 0 0 [.ref (w.2.1 6 0), .int num] S (none) (wntF S num) := by
  refine pf_enter (by decide) (Nat.le_of_ble_eq_true rfl) (lv0 := [some (.ref (w.2.1 6 0)), some (.int num)]) rfl (fun κ h => ?_)
  refine pg_aload_n h d_Remote_want_0 rfl ?_
  refine pg_iload_n h d_Remote_want_1 rfl ?_
  refine pf_puti h ok d_Remote_want_2 fw_Remote_18 (by first | rfl | exact hk | exact hk2 | exact dm12 _ | assumption) rfl (Nat.le_of_ble_eq_true rfl) rfl ?_
  refine pg_aload_n h d_Remote_want_5 rfl ?_
  refine pf_get h ok d_Remote_want_6 f_Remote_12 (by first | rfl | exact hk | exact hk2 | exact dm12 _ | assumption) rfl rfl ?_
  refine pg_iconst (v := 0) h d_Remote_want_9 (by decide) ?_
  refine pf_putz 0 h ok d_Remote_want_10 fw_Remote_26 (by first | rfl | exact hk | exact hk2 | exact dm12 _ | assumption) rfl (Nat.le_of_ble_eq_true rfl) rfl ?_
  refine pg_aload_n h d_Remote_want_13 rfl ?_
  refine pg_iconst (v := 0) h d_Remote_want_14 (by decide) ?_
  refine pf_putz 0 h ok d_Remote_want_15 fw_Remote_53 (by first | rfl | exact hk | exact hk2 | exact dm12 _ | assumption) rfl (Nat.le_of_ble_eq_true rfl) rfl ?_
  exact pf_vret h d_Remote_want_18 rfl

/-- Remote.pressDigit -/
def dgV (S : pf_S) (d : Int32) : Int32 := if S 6 0 3 = 0 then (if d < 1 then 0 else if d ≤ 8 then 1 else 0) else 1
def dgT (S : pf_S) (d : Int32) : pf_S := if S 6 0 3 = 0 then (if d < 1 then S else if d ≤ 8 then pf_st (pf_st S 6 0 4 d) 6 0 3 1 else S) else if S 6 0 3 = 1 then pf_st (pf_st S 6 0 5 d) 6 0 3 2 else wntF (pf_st S 6 0 3 0) (256 * (S 6 0 4 - S 6 0 4 / 8 * 8) + 16 * S 6 0 5 + d)

set_option maxRecDepth 100000 in
set_option maxHeartbeats 4000000 in
theorem c_Remote_pressDigit (w : pf_W) (ok : pf_ok w) (S : pf_S) (d : Int32) : pf_C w y_Remote_pressDigit b_Remote_pressDigit 2 (some .boolean) 1 21 [.ref (w.2.1 6 0), .int d] S (some (.int (dgV S d))) (dgT S d) := by
  refine pf_enter (by decide) (Nat.le_of_ble_eq_true rfl) (lv0 := [some (.ref (w.2.1 6 0)), some (.int d)]) rfl (fun κ h => ?_)
  refine pg_aload_n h d_Remote_pressDigit_0 rfl ?_
  refine pf_get h ok d_Remote_pressDigit_1 f_Remote_36 (by first | rfl | exact hk | exact hk2 | exact dm12 _ | assumption) rfl rfl ?_
  by_cases c4_0 : S 6 0 3 = 0
  · refine pg_lookup (off := 28) (tgt := 32) h d_Remote_pressDigit_4 (by decide) (by rw [c4_0]; decide) rfl ?_
    refine pg_iload_n h d_Remote_pressDigit_32 rfl ?_
    refine pg_iconst (v := 1) h d_Remote_pressDigit_33 (by decide) ?_
    refine pg_icmp_lt (tgt := 43) h d_Remote_pressDigit_34 rfl (fun e34 => ?_) (fun e34 => ?_)
    · skip
      refine pg_iconst (v := 0) h d_Remote_pressDigit_43 (by decide) ?_
      exact pf_iret h d_Remote_pressDigit_44 rfl (by simp [dgV, *]) (by simp [dgT, *])
    refine pg_iload_n h d_Remote_pressDigit_37 rfl ?_
    refine pg_bipush (v := 8) h d_Remote_pressDigit_38 (by decide) ?_
    refine pg_icmp_le (tgt := 45) h d_Remote_pressDigit_40 rfl (fun e40 => ?_) (fun e40 => ?_)
    · skip
      refine pg_aload_n h d_Remote_pressDigit_45 rfl ?_
      refine pg_iload_n h d_Remote_pressDigit_46 rfl ?_
      refine pf_puti h ok d_Remote_pressDigit_47 fw_Remote_39 (by first | rfl | exact hk | exact hk2 | exact dm12 _ | assumption) rfl (Nat.le_of_ble_eq_true rfl) rfl ?_
      refine pg_aload_n h d_Remote_pressDigit_50 rfl ?_
      refine pg_iconst (v := 1) h d_Remote_pressDigit_51 (by decide) ?_
      refine pf_puti h ok d_Remote_pressDigit_52 fw_Remote_36 (by first | rfl | exact hk | exact hk2 | exact dm12 _ | assumption) rfl (Nat.le_of_ble_eq_true rfl) rfl ?_
      refine pg_iconst (v := 1) h d_Remote_pressDigit_55 (by decide) ?_
      exact pf_iret h d_Remote_pressDigit_56 rfl (by simp [dgV, *]) (by simp [dgT, *])
    refine pg_iconst (v := 0) h d_Remote_pressDigit_43 (by decide) ?_
    exact pf_iret h d_Remote_pressDigit_44 rfl (by simp [dgV, *]) (by simp [dgT, *])
  by_cases c4_1 : S 6 0 3 = 1
  · refine pg_lookup (off := 53) (tgt := 57) h d_Remote_pressDigit_4 (by decide) (by rw [c4_1]; decide) rfl ?_
    refine pg_aload_n h d_Remote_pressDigit_57 rfl ?_
    refine pg_iload_n h d_Remote_pressDigit_58 rfl ?_
    refine pf_puti h ok d_Remote_pressDigit_59 fw_Remote_42 (by first | rfl | exact hk | exact hk2 | exact dm12 _ | assumption) rfl (Nat.le_of_ble_eq_true rfl) rfl ?_
    refine pg_aload_n h d_Remote_pressDigit_62 rfl ?_
    refine pg_iconst (v := 2) h d_Remote_pressDigit_63 (by decide) ?_
    refine pf_puti h ok d_Remote_pressDigit_64 fw_Remote_36 (by first | rfl | exact hk | exact hk2 | exact dm12 _ | assumption) rfl (Nat.le_of_ble_eq_true rfl) rfl ?_
    refine pg_iconst (v := 1) h d_Remote_pressDigit_67 (by decide) ?_
    exact pf_iret h d_Remote_pressDigit_68 rfl (by simp [dgV, *]) (by simp [dgT, *])
  refine pg_lookup (off := 65) (tgt := 69) h d_Remote_pressDigit_4 (by decide) (by rw [show (#[(0, 28), (1, 53)] : Array (Int × Int)).toList = [(0, 28), (1, 53)] from rfl, lv_osw c4_0 (by decide), lv_osw c4_1 (by decide)]; rfl) rfl ?_
  refine pg_aload_n h d_Remote_pressDigit_69 rfl ?_
  refine pg_iconst (v := 0) h d_Remote_pressDigit_70 (by decide) ?_
  refine pf_puti h ok d_Remote_pressDigit_71 fw_Remote_36 (by first | rfl | exact hk | exact hk2 | exact dm12 _ | assumption) rfl (Nat.le_of_ble_eq_true rfl) rfl ?_
  refine pg_aload_n h d_Remote_pressDigit_74 rfl ?_
  refine pg_sipush (v := 256) h d_Remote_pressDigit_75 (by decide) ?_
  refine pg_aload_n h d_Remote_pressDigit_78 rfl ?_
  refine pf_get h ok d_Remote_pressDigit_79 f_Remote_39 (by first | rfl | exact hk | exact hk2 | exact dm12 _ | assumption) rfl rfl ?_
  refine pg_bipush (v := 8) h d_Remote_pressDigit_82 (by decide) ?_
  refine pg_irem h d_Remote_pressDigit_84 (by decide) ?_
  refine pg_imul h d_Remote_pressDigit_85 ?_
  refine pg_bipush (v := 16) h d_Remote_pressDigit_86 (by decide) ?_
  refine pg_aload_n h d_Remote_pressDigit_88 rfl ?_
  refine pf_get h ok d_Remote_pressDigit_89 f_Remote_42 (by first | rfl | exact hk | exact hk2 | exact dm12 _ | assumption) rfl rfl ?_
  refine pg_imul h d_Remote_pressDigit_92 ?_
  refine pg_iadd h d_Remote_pressDigit_93 ?_
  refine pg_iload_n h d_Remote_pressDigit_94 rfl ?_
  refine pg_iadd h d_Remote_pressDigit_95 ?_
  refine pf_cV0 h ok d_Remote_pressDigit_96 m_Remote_want l_Remote_45 (c_Remote_want w ok _ _) cn_Remote (by first | rfl | exact hk | exact hk2 | exact dm12 _ | assumption) rfl rfl rfl (Nat.le_of_ble_eq_true rfl) ⟨(Nat.le_of_ble_eq_true rfl), (Nat.le_of_ble_eq_true rfl)⟩ ⟨Nat.le_refl _, Nat.le_refl _⟩ ?_
  refine pg_iconst (v := 1) h d_Remote_pressDigit_99 (by decide) ?_
  exact pf_iret h d_Remote_pressDigit_100 rfl (by simp [dgV, *]) (by simp only [dgT, c4_0, c4_1, if_false]; rfl)

/-- Remote.turnHeld -/
def hldV (S : pf_S) (P : Nat) : Int32 := if nb (S 14 12 0) = 0 then (match fndF S P (S 6 0 2) with
  | none => 0
  | some _ => 1) else 1
def hldT (S : pf_S) (P : Nat) : pf_S := if nb (S 14 12 0) = 0 then (match fndF S P (S 6 0 2) with
  | none => S
  | some k => cpP S k 12) else pf_st S 14 12 0 0
theorem shnF_0 {S : pf_S} {P : Nat} (h : nb (S 14 12 0) = 0) : shnF S P = fndF S P (S 6 0 2) := if_pos h

set_option maxRecDepth 100000 in
set_option maxHeartbeats 4000000 in
theorem c_Remote_turnHeld (w : pf_W) (ok : pf_ok w) (S : pf_S) (hw : 1 ≤ w.2.2.1 ∧ w.2.2.1 ≤ 4) : pf_C w y_Remote_turnHeld b_Remote_turnHeld 2 (some .boolean) 2 61 [.ref (w.2.1 6 0)] S (some (.int (hldV S w.2.2.1))) (hldT S w.2.2.1) := by
  refine pf_enter (by decide) (Nat.le_of_ble_eq_true rfl) (lv0 := [some (.ref (w.2.1 6 0)), none]) rfl (fun κ h => ?_)
  cases hf : fndF S w.2.2.1 (S 6 0 2) with
  | none =>
    refine pg_aload_n h d_Remote_turnHeld_0 rfl ?_
    refine pf_get h ok d_Remote_turnHeld_1 f_Remote_12 (by first | rfl | exact hk | exact hk2 | exact dm12 _ | assumption) rfl rfl ?_
    refine pf_get h ok d_Remote_turnHeld_4 f_Remote_26 (by first | rfl | exact hk | exact hk2 | exact dm12 _ | assumption) rfl rfl ?_
    refine pg_if_eq (tgt := 20) h d_Remote_turnHeld_7 rfl (fun e7 => ?_) (fun e7 => ?_)
    · skip
      refine pg_aload_n h d_Remote_turnHeld_20 rfl ?_
      refine pf_cV h ok d_Remote_turnHeld_21 m_Remote_pageShown l_Remote_60 (c_shown_none w ok S hw ((shnF_0 e7).trans hf)) cn_Remote (by first | rfl | exact hk | exact hk2 | exact dm12 _ | assumption) rfl rfl rfl (Nat.le_of_ble_eq_true rfl) ⟨(Nat.le_of_ble_eq_true rfl), (Nat.le_of_ble_eq_true rfl)⟩ ⟨Nat.le_refl _, Nat.le_refl _⟩ ?_
      refine pg_astore_nN h d_Remote_turnHeld_24 (Nat.le_of_ble_eq_true rfl) rfl rfl ?_
      refine pg_aload_nN h d_Remote_turnHeld_25 rfl ?_
      refine pg_ifnonnullN h d_Remote_turnHeld_26 ?_
      refine pg_iconst (v := 0) h d_Remote_turnHeld_29 (by decide) ?_
      exact pf_iret h d_Remote_turnHeld_30 rfl (by simp [hldV, *]) (by simp [hldT, *])
    refine pg_aload_n h d_Remote_turnHeld_10 rfl ?_
    refine pf_get h ok d_Remote_turnHeld_11 f_Remote_12 (by first | rfl | exact hk | exact hk2 | exact dm12 _ | assumption) rfl rfl ?_
    refine pg_iconst (v := 0) h d_Remote_turnHeld_14 (by decide) ?_
    refine pf_putz 0 h ok d_Remote_turnHeld_15 fw_Remote_26 (by first | rfl | exact hk | exact hk2 | exact dm12 _ | assumption) rfl (Nat.le_of_ble_eq_true rfl) rfl ?_
    refine pg_iconst (v := 1) h d_Remote_turnHeld_18 (by decide) ?_
    exact pf_iret h d_Remote_turnHeld_19 rfl (by simp [hldV, *]) (by simp [hldT, *])
  | some k =>
    have hk : pf_dm w.2.2.1 14 k = true := dmK (fndF_some hf).2.1
    have hne : k ≠ 12 := by have := (fndF_some hf).2.1; omega
    refine pg_aload_n h d_Remote_turnHeld_0 rfl ?_
    refine pf_get h ok d_Remote_turnHeld_1 f_Remote_12 (by first | rfl | exact hk | exact hk2 | exact dm12 _ | assumption) rfl rfl ?_
    refine pf_get h ok d_Remote_turnHeld_4 f_Remote_26 (by first | rfl | exact hk | exact hk2 | exact dm12 _ | assumption) rfl rfl ?_
    refine pg_if_eq (tgt := 20) h d_Remote_turnHeld_7 rfl (fun e7 => ?_) (fun e7 => ?_)
    · skip
      refine pg_aload_n h d_Remote_turnHeld_20 rfl ?_
      refine pf_cV h ok d_Remote_turnHeld_21 m_Remote_pageShown l_Remote_60 (c_shown_some w ok S hw ((shnF_0 e7).trans hf)) cn_Remote (by first | rfl | exact hk | exact hk2 | exact dm12 _ | assumption) rfl rfl rfl (Nat.le_of_ble_eq_true rfl) ⟨(Nat.le_of_ble_eq_true rfl), (Nat.le_of_ble_eq_true rfl)⟩ ⟨Nat.le_refl _, Nat.le_refl _⟩ ?_
      refine pg_astore_n h d_Remote_turnHeld_24 (Nat.le_of_ble_eq_true rfl) rfl rfl ?_
      refine pg_aload_n h d_Remote_turnHeld_25 rfl ?_
      refine pg_ifnonnull (tgt := 31) h d_Remote_turnHeld_26 rfl ?_
      refine pg_aload_n h d_Remote_turnHeld_31 rfl ?_
      refine pf_get h ok d_Remote_turnHeld_32 f_Remote_12 (by first | rfl | exact hk | exact hk2 | exact dm12 _ | assumption) rfl rfl ?_
      refine pg_aload_n h d_Remote_turnHeld_35 rfl ?_
      refine pf_cV0 h ok d_Remote_turnHeld_36 m_Page_copyFrom l_Remote_68 (c_Page_copyFrom w ok S 12 (dm12 _) k hk hne) cn_Page (by first | rfl | exact hk | exact hk2 | exact dm12 _ | assumption) rfl rfl rfl (Nat.le_of_ble_eq_true rfl) ⟨(Nat.le_of_ble_eq_true rfl), (Nat.le_of_ble_eq_true rfl)⟩ ⟨Nat.le_refl _, Nat.le_refl _⟩ ?_
      refine pg_iconst (v := 1) h d_Remote_turnHeld_39 (by decide) ?_
      exact pf_iret h d_Remote_turnHeld_40 rfl (by simp [hldV, *]) (by simp [hldT, *])
    refine pg_aload_n h d_Remote_turnHeld_10 rfl ?_
    refine pf_get h ok d_Remote_turnHeld_11 f_Remote_12 (by first | rfl | exact hk | exact hk2 | exact dm12 _ | assumption) rfl rfl ?_
    refine pg_iconst (v := 0) h d_Remote_turnHeld_14 (by decide) ?_
    refine pf_putz 0 h ok d_Remote_turnHeld_15 fw_Remote_26 (by first | rfl | exact hk | exact hk2 | exact dm12 _ | assumption) rfl (Nat.le_of_ble_eq_true rfl) rfl ?_
    refine pg_iconst (v := 1) h d_Remote_turnHeld_18 (by decide) ?_
    exact pf_iret h d_Remote_turnHeld_19 rfl (by simp [hldV, *]) (by simp [hldT, *])

/-- Remote.followLink -/
def flwV (S : pf_S) (P j : Nat) : Int32 := match shnF S P with
  | none => 0
  | some k => if S 17 k j = -1 then 0 else 1
def flwT (S : pf_S) (P j : Nat) : pf_S := match shnF S P with
  | none => S
  | some k => if S 17 k j = -1 then S else wntF S (S 17 k j)

set_option maxRecDepth 100000 in
set_option maxHeartbeats 4000000 in
theorem c_Remote_followLink (w : pf_W) (ok : pf_ok w) (S : pf_S) (hw : 1 ≤ w.2.2.1 ∧ w.2.2.1 ≤ 4) (j : Nat) (hj : j < 4) : pf_C w y_Remote_followLink b_Remote_followLink 3 (some .boolean) 2 42 [.ref (w.2.1 6 0), .int (nI j)] S (some (.int (flwV S w.2.2.1 j))) (flwT S w.2.2.1 j) := by
  refine pf_enter (by decide) (Nat.le_of_ble_eq_true rfl) (lv0 := [some (.ref (w.2.1 6 0)), some (.int (nI j)), none]) rfl (fun κ h => ?_)
  cases hf : shnF S w.2.2.1 with
  | none =>
    refine pg_aload_n h d_Remote_followLink_0 rfl ?_
    refine pf_cV h ok d_Remote_followLink_1 m_Remote_pageShown l_Remote_60 (c_shown_none w ok S hw hf) cn_Remote (by first | rfl | exact hk | exact hk2 | exact dm12 _ | assumption) rfl rfl rfl (Nat.le_of_ble_eq_true rfl) ⟨(Nat.le_of_ble_eq_true rfl), (Nat.le_of_ble_eq_true rfl)⟩ ⟨Nat.le_refl _, Nat.le_refl _⟩ ?_
    refine pg_astore_nN h d_Remote_followLink_4 (Nat.le_of_ble_eq_true rfl) rfl rfl ?_
    refine pg_aload_nN h d_Remote_followLink_5 rfl ?_
    refine pg_ifnullN (tgt := 18) h d_Remote_followLink_6 rfl ?_
    refine pg_iconst (v := 0) h d_Remote_followLink_18 (by decide) ?_
    exact pf_iret h d_Remote_followLink_19 rfl (by simp [flwV, *]) (by simp [flwT, *])
  | some k =>
    have hk : pf_dm w.2.2.1 14 k = true := shnF_dm hf
    refine pg_aload_n h d_Remote_followLink_0 rfl ?_
    refine pf_cV h ok d_Remote_followLink_1 m_Remote_pageShown l_Remote_60 (c_shown_some w ok S hw hf) cn_Remote (by first | rfl | exact hk | exact hk2 | exact dm12 _ | assumption) rfl rfl rfl (Nat.le_of_ble_eq_true rfl) ⟨(Nat.le_of_ble_eq_true rfl), (Nat.le_of_ble_eq_true rfl)⟩ ⟨Nat.le_refl _, Nat.le_refl _⟩ ?_
    refine pg_astore_n h d_Remote_followLink_4 (Nat.le_of_ble_eq_true rfl) rfl rfl ?_
    refine pg_aload_n h d_Remote_followLink_5 rfl ?_
    refine pg_ifnull h d_Remote_followLink_6 ?_
    refine pg_aload_n h d_Remote_followLink_9 rfl ?_
    refine pg_iload_n h d_Remote_followLink_10 rfl ?_
    refine pf_cV h ok d_Remote_followLink_11 m_Page_link l_Remote_64 (c_Page_link w ok S k hk j hj) cn_Page (by first | rfl | exact hk | exact hk2 | exact dm12 _ | assumption) rfl rfl rfl (Nat.le_of_ble_eq_true rfl) ⟨(Nat.le_of_ble_eq_true rfl), (Nat.le_of_ble_eq_true rfl)⟩ ⟨Nat.le_refl _, Nat.le_refl _⟩ ?_
    refine pg_iconst (v := (-1)) h d_Remote_followLink_14 (by decide) ?_
    refine pg_icmp_ne (tgt := 20) h d_Remote_followLink_15 rfl (fun e15 => ?_) (fun e15 => ?_)
    · skip
      refine pg_aload_n h d_Remote_followLink_20 rfl ?_
      refine pg_aload_n h d_Remote_followLink_21 rfl ?_
      refine pg_iload_n h d_Remote_followLink_22 rfl ?_
      refine pf_cV h ok d_Remote_followLink_23 m_Page_link l_Remote_64 (c_Page_link w ok S k hk j hj) cn_Page (by first | rfl | exact hk | exact hk2 | exact dm12 _ | assumption) rfl rfl rfl (Nat.le_of_ble_eq_true rfl) ⟨(Nat.le_of_ble_eq_true rfl), (Nat.le_of_ble_eq_true rfl)⟩ ⟨Nat.le_refl _, Nat.le_refl _⟩ ?_
      refine pf_cV0 h ok d_Remote_followLink_26 m_Remote_want l_Remote_45 (c_Remote_want w ok S _) cn_Remote (by first | rfl | exact hk | exact hk2 | exact dm12 _ | assumption) rfl rfl rfl (Nat.le_of_ble_eq_true rfl) ⟨(Nat.le_of_ble_eq_true rfl), (Nat.le_of_ble_eq_true rfl)⟩ ⟨Nat.le_refl _, Nat.le_refl _⟩ ?_
      refine pg_iconst (v := 1) h d_Remote_followLink_29 (by decide) ?_
      exact pf_iret h d_Remote_followLink_30 rfl (by simp [flwV, *]) (by simp [flwT, *])
    refine pg_iconst (v := 0) h d_Remote_followLink_18 (by decide) ?_
    exact pf_iret h d_Remote_followLink_19 rfl (by simp [flwV, *]) (by simp [flwT, *])

theorem pf_st_same (S : pf_S) (kd ix k : Nat) (v v2 : Int32) : pf_st (pf_st S kd ix k v) kd ix k v2 = pf_st S kd ix k v2 := by
  funext a b c
  simp only [pf_st_at]
  split <;> rfl
/-- Remote.pressCommand -/
def cmdV (S : pf_S) (P kk : Nat) : Int32 := if kk = 14 then hldV S P else if kk = 15 then 1 else flwV S P (kk - 10)
def cmdT (S : pf_S) (P kk : Nat) : pf_S := if kk = 14 then hldT (pf_st S 6 0 3 0) P else if kk = 15 then pf_st (pf_st S 6 0 3 0) 6 0 6 (if nb (S 6 0 6) = 0 then 1 else 0) else flwT (pf_st S 6 0 3 0) P (kk - 10)

set_option maxRecDepth 100000 in
set_option maxHeartbeats 4000000 in
theorem c_Remote_pressCommand (w : pf_W) (ok : pf_ok w) (S : pf_S) (hw : 1 ≤ w.2.2.1 ∧ w.2.2.1 ≤ 4) (kk : Nat) (h10 : 10 ≤ kk) (h15 : kk ≤ 15) : pf_C w y_Remote_pressCommand b_Remote_pressCommand 2 (some .boolean) 3 82 [.ref (w.2.1 6 0), .int (nI kk)] S (some (.int (cmdV (pf_st S 6 0 3 0) w.2.2.1 kk))) (cmdT S w.2.2.1 kk) := by
  refine pf_enter (by decide) (Nat.le_of_ble_eq_true rfl) (lv0 := [some (.ref (w.2.1 6 0)), some (.int (nI kk))]) rfl (fun κ h => ?_)
  by_cases h14 : kk = 14
  · subst h14
    refine pg_aload_n h d_Remote_pressCommand_0 rfl ?_
    refine pg_iconst (v := 0) h d_Remote_pressCommand_1 (by decide) ?_
    refine pf_puti h ok d_Remote_pressCommand_2 fw_Remote_36 (by first | rfl | exact hk | exact hk2 | exact dm12 _ | assumption) rfl (Nat.le_of_ble_eq_true rfl) rfl ?_
    refine pg_iload_n h d_Remote_pressCommand_5 rfl ?_
    refine pg_bipush (v := 14) h d_Remote_pressCommand_6 (by decide) ?_
    refine pg_icmp_ne (tgt := 16) h d_Remote_pressCommand_8 rfl (fun e8 => absurd e8 (fun q => q (by decide))) (fun e8 => ?_)
    refine pg_aload_n h d_Remote_pressCommand_11 rfl ?_
    refine pf_cV h ok d_Remote_pressCommand_12 m_Remote_turnHeld l_Remote_49 (c_Remote_turnHeld w ok _ hw) cn_Remote (by first | rfl | exact hk | exact hk2 | exact dm12 _ | assumption) rfl rfl rfl (Nat.le_of_ble_eq_true rfl) ⟨(Nat.le_of_ble_eq_true rfl), (Nat.le_of_ble_eq_true rfl)⟩ ⟨Nat.le_refl _, Nat.le_refl _⟩ ?_
    exact pf_iret h d_Remote_pressCommand_15 (by unfold hldV; split <;> (first | rfl | (split <;> rfl))) rfl rfl--end
  by_cases h15' : kk = 15
  · subst h15'
    refine pg_aload_n h d_Remote_pressCommand_0 rfl ?_
    refine pg_iconst (v := 0) h d_Remote_pressCommand_1 (by decide) ?_
    refine pf_puti h ok d_Remote_pressCommand_2 fw_Remote_36 (by first | rfl | exact hk | exact hk2 | exact dm12 _ | assumption) rfl (Nat.le_of_ble_eq_true rfl) rfl ?_
    refine pg_iload_n h d_Remote_pressCommand_5 rfl ?_
    refine pg_bipush (v := 14) h d_Remote_pressCommand_6 (by decide) ?_
    refine pg_icmp_ne (tgt := 16) h d_Remote_pressCommand_8 rfl (fun e8 => ?_) (fun e8 => absurd e8 (by decide))
    refine pg_iload_n h d_Remote_pressCommand_16 rfl ?_
    refine pg_bipush (v := 15) h d_Remote_pressCommand_17 (by decide) ?_
    refine pg_icmp_ne (tgt := 40) h d_Remote_pressCommand_19 rfl (fun e19 => absurd e19 (fun q => q (by decide))) (fun e19 => ?_)
    refine pg_aload_n h d_Remote_pressCommand_22 rfl ?_
    refine pg_aload_n h d_Remote_pressCommand_23 rfl ?_
    refine pf_get h ok d_Remote_pressCommand_24 f_Remote_53 (by first | rfl | exact hk | exact hk2 | exact dm12 _ | assumption) rfl rfl ?_
    refine pg_if_ne (tgt := 34) h d_Remote_pressCommand_27 rfl (fun e27 => ?_) (fun e27 => ?_)
    · skip
      refine pg_iconst (v := 0) h d_Remote_pressCommand_34 (by decide) ?_
      refine pf_putz 0 h ok d_Remote_pressCommand_35 fw_Remote_53 (by first | rfl | exact hk | exact hk2 | exact dm12 _ | assumption) rfl (Nat.le_of_ble_eq_true rfl) rfl ?_
      refine pg_iconst (v := 1) h d_Remote_pressCommand_38 (by decide) ?_
      exact pf_iret h d_Remote_pressCommand_39 rfl rfl (by simp [cmdT, pf_st_at] at *; simp [*])
    refine pg_iconst (v := 1) h d_Remote_pressCommand_30 (by decide) ?_
    refine pg_goto (tgt := 35) h d_Remote_pressCommand_31 rfl ?_
    refine pf_putz 1 h ok d_Remote_pressCommand_35 fw_Remote_53 (by first | rfl | exact hk | exact hk2 | exact dm12 _ | assumption) rfl (Nat.le_of_ble_eq_true rfl) rfl ?_
    refine pg_iconst (v := 1) h d_Remote_pressCommand_38 (by decide) ?_
    exact pf_iret h d_Remote_pressCommand_39 rfl rfl (by simp [cmdT, pf_st_at] at *; simp [*])
  have hj : kk - 10 < 4 := by omega
  refine pg_aload_n h d_Remote_pressCommand_0 rfl ?_
  refine pg_iconst (v := 0) h d_Remote_pressCommand_1 (by decide) ?_
  refine pf_puti h ok d_Remote_pressCommand_2 fw_Remote_36 (by first | rfl | exact hk | exact hk2 | exact dm12 _ | assumption) rfl (Nat.le_of_ble_eq_true rfl) rfl ?_
  refine pg_iload_n h d_Remote_pressCommand_5 rfl ?_
  refine pg_bipush (v := 14) h d_Remote_pressCommand_6 (by decide) ?_
  refine pg_icmp_ne (tgt := 16) h d_Remote_pressCommand_8 rfl (fun e8 => ?_) (fun e8 => absurd e8 (fun q => h14 ((nI_eq (by omega) (by decide)).mp q)))
  refine pg_iload_n h d_Remote_pressCommand_16 rfl ?_
  refine pg_bipush (v := 15) h d_Remote_pressCommand_17 (by decide) ?_
  refine pg_icmp_ne (tgt := 40) h d_Remote_pressCommand_19 rfl (fun e19 => ?_) (fun e19 => absurd e19 (fun q => h15' ((nI_eq (by omega) (by decide)).mp q)))
  refine pg_aload_n h d_Remote_pressCommand_40 rfl ?_
  refine pg_iload_n h d_Remote_pressCommand_41 rfl ?_
  refine pg_bipush (v := 10) h d_Remote_pressCommand_42 (by decide) ?_
  refine pg_isub h d_Remote_pressCommand_44 ?_
  rw [show nI kk - 10 = nI (kk - 10) from pk_sub h10]
  refine pf_cV h ok d_Remote_pressCommand_45 m_Remote_followLink l_Remote_56 (c_Remote_followLink w ok _ hw (kk - 10) hj) cn_Remote (by first | rfl | exact hk | exact hk2 | exact dm12 _ | assumption) rfl rfl rfl (Nat.le_of_ble_eq_true rfl) ⟨(Nat.le_of_ble_eq_true rfl), (Nat.le_of_ble_eq_true rfl)⟩ ⟨Nat.le_refl _, Nat.le_refl _⟩ ?_
  exact pf_iret h d_Remote_pressCommand_48 (by unfold flwV; split <;> (first | rfl | (split <;> rfl))) (by simp [cmdV, h14, h15']) (by simp [cmdT, h14, h15'])--end

set_option maxRecDepth 100000 in
set_option maxHeartbeats 4000000 in
theorem c_Recv_reset (w : pf_W) (ok : pf_ok w) (S : pf_S)  : pf_C w y_Recv_reset b_Recv_reset 1 (some .int) 1 21 [.ref (w.2.1 0 0)] S (some (.int (S 2 0 2))) (pf_st S 2 0 2 0) := by
  refine pf_enter (by decide) (Nat.le_of_ble_eq_true rfl) (lv0 := [some (.ref (w.2.1 0 0))]) rfl (fun κ h => ?_)
  refine pg_aload_n h d_Recv_reset_0 rfl ?_
  refine pf_get h ok d_Recv_reset_1 f_Recv_18 (by first | rfl | exact hk | exact hk2 | exact dm12 _ | assumption) rfl rfl ?_
  refine pf_cV h ok d_Recv_reset_4 m_Packet_empty l_Recv_81 (c_Packet_empty w ok S) cn_Packet (by first | rfl | exact hk | exact hk2 | exact dm12 _ | assumption) rfl rfl rfl (Nat.le_of_ble_eq_true rfl) ⟨(Nat.le_of_ble_eq_true rfl), (Nat.le_of_ble_eq_true rfl)⟩ ⟨Nat.le_refl _, Nat.le_refl _⟩ ?_
  exact pf_iret h d_Recv_reset_7 rfl (by first | rfl | simp [*]) rfl

theorem nb_i (c : Prop) [Decidable c] : nb (if c then 1 else 0) = if c then 1 else 0 := by split <;> rfl
/-- tick -/
def tikV (S : pf_S) : Int32 := if nb (S 12 0 3) = 0 then 1 else 0

set_option maxRecDepth 100000 in
set_option maxHeartbeats 4000000 in
theorem c_Recv_tick (w : pf_W) (ok : pf_ok w) (S : pf_S)  : pf_C w y_Recv_tick b_Recv_tick 1 (some .boolean) 0 0 [.ref (w.2.1 0 0)] S (some (.int (tikV S))) (pf_st S 12 0 3 (tikV S)) := by
  refine pf_enter (by decide) (Nat.le_of_ble_eq_true rfl) (lv0 := [some (.ref (w.2.1 0 0))]) rfl (fun κ h => ?_)
  refine pg_aload_n h d_Recv_tick_0 rfl ?_
  refine pf_get h ok d_Recv_tick_1 f_Recv_66 (by first | rfl | exact hk | exact hk2 | exact dm12 _ | assumption) rfl rfl ?_
  refine pg_aload_n h d_Recv_tick_4 rfl ?_
  refine pf_get h ok d_Recv_tick_5 f_Recv_66 (by first | rfl | exact hk | exact hk2 | exact dm12 _ | assumption) rfl rfl ?_
  refine pf_get h ok d_Recv_tick_8 f_Recv_96 (by first | rfl | exact hk | exact hk2 | exact dm12 _ | assumption) rfl rfl ?_
  refine pg_if_ne (tgt := 18) h d_Recv_tick_11 rfl (fun e11 => ?_) (fun e11 => ?_)
  · skip
    refine pg_iconst (v := 0) h d_Recv_tick_18 (by decide) ?_
    refine pf_putz 0 h ok d_Recv_tick_19 fw_Recv_96 (by first | rfl | exact hk | exact hk2 | exact dm12 _ | assumption) rfl (Nat.le_of_ble_eq_true rfl) rfl ?_
    refine pg_aload_n h d_Recv_tick_22 rfl ?_
    refine pf_get h ok d_Recv_tick_23 f_Recv_66 (by first | rfl | exact hk | exact hk2 | exact dm12 _ | assumption) rfl rfl ?_
    refine pf_get h ok d_Recv_tick_26 f_Recv_96 (by first | rfl | exact hk | exact hk2 | exact dm12 _ | assumption) rfl rfl ?_
    exact pf_iret h d_Recv_tick_29 (nb_narrow _) (by simp [tikV, pf_st_at, e11, nb_0, nb_1]) (by simp [tikV, e11])--end
  refine pg_iconst (v := 1) h d_Recv_tick_14 (by decide) ?_
  refine pg_goto (tgt := 19) h d_Recv_tick_15 rfl ?_
  refine pf_putz 1 h ok d_Recv_tick_19 fw_Recv_96 (by first | rfl | exact hk | exact hk2 | exact dm12 _ | assumption) rfl (Nat.le_of_ble_eq_true rfl) rfl ?_
  refine pg_aload_n h d_Recv_tick_22 rfl ?_
  refine pf_get h ok d_Recv_tick_23 f_Recv_66 (by first | rfl | exact hk | exact hk2 | exact dm12 _ | assumption) rfl rfl ?_
  refine pf_get h ok d_Recv_tick_26 f_Recv_96 (by first | rfl | exact hk | exact hk2 | exact dm12 _ | assumption) rfl rfl ?_
  exact pf_iret h d_Recv_tick_29 (nb_narrow _) (by simp [tikV, pf_st_at, e11, nb_0, nb_1]) (by simp [tikV, e11])--end

def shwV (S : pf_S) (P : Nat) : Int32 := match shnF S P with
  | none => -1
  | some k => S 14 k 1

set_option maxRecDepth 100000 in
set_option maxHeartbeats 4000000 in
theorem c_Recv_shown (w : pf_W) (ok : pf_ok w) (S : pf_S) (hw : 1 ≤ w.2.2.1 ∧ w.2.2.1 ≤ 4) : pf_C w y_Recv_shown b_Recv_shown 2 (some .int) 2 42 [.ref (w.2.1 0 0)] S (some (.int (shwV S w.2.2.1))) (S) := by
  refine pf_enter (by decide) (Nat.le_of_ble_eq_true rfl) (lv0 := [some (.ref (w.2.1 0 0)), none]) rfl (fun κ h => ?_)
  cases hf : shnF S w.2.2.1 with
  | none =>
    refine pg_aload_n h d_Recv_shown_0 rfl ?_
    refine pf_get h ok d_Recv_shown_1 f_Recv_45 (by first | rfl | exact hk | exact hk2 | exact dm12 _ | assumption) rfl rfl ?_
    refine pf_cV h ok d_Recv_shown_4 m_Remote_pageShown l_Recv_100 (c_shown_none w ok S hw hf) cn_Remote (by first | rfl | exact hk | exact hk2 | exact dm12 _ | assumption) rfl rfl rfl (Nat.le_of_ble_eq_true rfl) ⟨(Nat.le_of_ble_eq_true rfl), (Nat.le_of_ble_eq_true rfl)⟩ ⟨Nat.le_refl _, Nat.le_refl _⟩ ?_
    refine pg_astore_nN h d_Recv_shown_7 (Nat.le_of_ble_eq_true rfl) rfl rfl ?_
    refine pg_aload_nN h d_Recv_shown_8 rfl ?_
    refine pg_ifnonnullN h d_Recv_shown_9 ?_
    refine pg_iconst (v := (-1)) h d_Recv_shown_12 (by decide) ?_
    refine pg_goto (tgt := 20) h d_Recv_shown_13 rfl ?_
    exact pf_iret h d_Recv_shown_20 rfl (by simp [shwV, *]) rfl
  | some k =>
    have hk : pf_dm w.2.2.1 14 k = true := shnF_dm hf
    refine pg_aload_n h d_Recv_shown_0 rfl ?_
    refine pf_get h ok d_Recv_shown_1 f_Recv_45 (by first | rfl | exact hk | exact hk2 | exact dm12 _ | assumption) rfl rfl ?_
    refine pf_cV h ok d_Recv_shown_4 m_Remote_pageShown l_Recv_100 (c_shown_some w ok S hw hf) cn_Remote (by first | rfl | exact hk | exact hk2 | exact dm12 _ | assumption) rfl rfl rfl (Nat.le_of_ble_eq_true rfl) ⟨(Nat.le_of_ble_eq_true rfl), (Nat.le_of_ble_eq_true rfl)⟩ ⟨Nat.le_refl _, Nat.le_refl _⟩ ?_
    refine pg_astore_n h d_Recv_shown_7 (Nat.le_of_ble_eq_true rfl) rfl rfl ?_
    refine pg_aload_n h d_Recv_shown_8 rfl ?_
    refine pg_ifnonnull (tgt := 16) h d_Recv_shown_9 rfl ?_
    refine pg_aload_n h d_Recv_shown_16 rfl ?_
    refine pf_get h ok d_Recv_shown_17 f_Recv_104 (by first | rfl | exact hk | exact hk2 | exact dm12 _ | assumption) rfl rfl ?_
    exact pf_iret h d_Recv_shown_20 rfl (by simp [shwV, *]) rfl

def vwrV (S : pf_S) (x : Int32) : Int32 := if x = 0 then S 6 0 2 else if x = 1 then S 6 0 3 else if x = 2 then nb (S 14 12 0) else if x = 3 then nb (S 6 0 6) else -1
theorem nb_ne {x : Int32} (h : ¬ nb x = 0) : nb x = 1 := by
  unfold nb at *
  split <;> simp_all

set_option maxRecDepth 100000 in
set_option maxHeartbeats 4000000 in
theorem c_Recv_viewer (w : pf_W) (ok : pf_ok w) (S : pf_S) (x : Int32) : pf_C w y_Recv_viewer b_Recv_viewer 2 (some .int) 0 0 [.ref (w.2.1 0 0), .int x] S (some (.int (vwrV S x))) (S) := by
  refine pf_enter (by decide) (Nat.le_of_ble_eq_true rfl) (lv0 := [some (.ref (w.2.1 0 0)), some (.int x)]) rfl (fun κ h => ?_)
  refine pg_iload_n h d_Recv_viewer_0 rfl ?_
  by_cases c1_0 : x = 0
  · refine pg_tableIn (off := 31) (tgt := 32) h d_Recv_viewer_1 (by rw [c1_0]; decide) (by rw [c1_0]; decide) (by rw [c1_0]; rfl) rfl ?_
    refine pg_aload_n h d_Recv_viewer_32 rfl ?_
    refine pf_get h ok d_Recv_viewer_33 f_Recv_45 (by first | rfl | exact hk | exact hk2 | exact dm12 _ | assumption) rfl rfl ?_
    refine pf_get h ok d_Recv_viewer_36 f_Recv_109 (by first | rfl | exact hk | exact hk2 | exact dm12 _ | assumption) rfl rfl ?_
    exact pf_iret h d_Recv_viewer_39 rfl (by simp [vwrV, *]) rfl
  by_cases c1_1 : x = 1
  · refine pg_tableIn (off := 39) (tgt := 40) h d_Recv_viewer_1 (by rw [c1_1]; decide) (by rw [c1_1]; decide) (by rw [c1_1]; rfl) rfl ?_
    refine pg_aload_n h d_Recv_viewer_40 rfl ?_
    refine pf_get h ok d_Recv_viewer_41 f_Recv_45 (by first | rfl | exact hk | exact hk2 | exact dm12 _ | assumption) rfl rfl ?_
    refine pf_get h ok d_Recv_viewer_44 f_Recv_112 (by first | rfl | exact hk | exact hk2 | exact dm12 _ | assumption) rfl rfl ?_
    exact pf_iret h d_Recv_viewer_47 rfl (by simp [vwrV, *]) rfl
  by_cases c1_2 : x = 2
  · refine pg_tableIn (off := 47) (tgt := 48) h d_Recv_viewer_1 (by rw [c1_2]; decide) (by rw [c1_2]; decide) (by rw [c1_2]; rfl) rfl ?_
    refine pg_aload_n h d_Recv_viewer_48 rfl ?_
    refine pf_get h ok d_Recv_viewer_49 f_Recv_45 (by first | rfl | exact hk | exact hk2 | exact dm12 _ | assumption) rfl rfl ?_
    refine pf_get h ok d_Recv_viewer_52 f_Recv_115 (by first | rfl | exact hk | exact hk2 | exact dm12 _ | assumption) rfl rfl ?_
    refine pf_get h ok d_Recv_viewer_55 f_Recv_119 (by first | rfl | exact hk | exact hk2 | exact dm12 _ | assumption) rfl rfl ?_
    refine pg_if_eq (tgt := 65) h d_Recv_viewer_58 rfl (fun e58 => ?_) (fun e58 => ?_)
    · skip
      refine pg_iconst (v := 0) h d_Recv_viewer_65 (by decide) ?_
      exact pf_iret h d_Recv_viewer_66 rfl (by first | simp [vwrV, c1_2, nb_ne e58] | simp [vwrV, c1_2, e58]) rfl
    refine pg_iconst (v := 1) h d_Recv_viewer_61 (by decide) ?_
    refine pg_goto (tgt := 66) h d_Recv_viewer_62 rfl ?_
    exact pf_iret h d_Recv_viewer_66 rfl (by first | simp [vwrV, c1_2, nb_ne e58] | simp [vwrV, c1_2, e58]) rfl
  by_cases c1_3 : x = 3
  · refine pg_tableIn (off := 66) (tgt := 67) h d_Recv_viewer_1 (by rw [c1_3]; decide) (by rw [c1_3]; decide) (by rw [c1_3]; rfl) rfl ?_
    refine pg_aload_n h d_Recv_viewer_67 rfl ?_
    refine pf_get h ok d_Recv_viewer_68 f_Recv_45 (by first | rfl | exact hk | exact hk2 | exact dm12 _ | assumption) rfl rfl ?_
    refine pf_get h ok d_Recv_viewer_71 f_Recv_122 (by first | rfl | exact hk | exact hk2 | exact dm12 _ | assumption) rfl rfl ?_
    refine pg_if_eq (tgt := 81) h d_Recv_viewer_74 rfl (fun e74 => ?_) (fun e74 => ?_)
    · skip
      refine pg_iconst (v := 0) h d_Recv_viewer_81 (by decide) ?_
      exact pf_iret h d_Recv_viewer_82 rfl (by first | simp [vwrV, c1_3, nb_ne e74] | simp [vwrV, c1_3, e74]) rfl
    refine pg_iconst (v := 1) h d_Recv_viewer_77 (by decide) ?_
    refine pg_goto (tgt := 82) h d_Recv_viewer_78 rfl ?_
    exact pf_iret h d_Recv_viewer_82 rfl (by first | simp [vwrV, c1_3, nb_ne e74] | simp [vwrV, c1_3, e74]) rfl
  have o1 : ∀ j : Nat, j ≤ 3 → ¬ x = nI j := by
    intro j hj
    rcases (show j = 0 ∨ j = 1 ∨ j = 2 ∨ j = 3 by omega) with rfl | rfl | rfl | rfl
    · exact c1_0
    · exact c1_1
    · exact c1_2
    · exact c1_3
  refine pg_tableOut (tgt := 83) h d_Recv_viewer_1 (sw_out 3 (by decide) o1) rfl ?_
  refine pg_iconst (v := (-1)) h d_Recv_viewer_83 (by decide) ?_
  exact pf_iret h d_Recv_viewer_84 rfl (by simp [vwrV, *]) rfl

def kptV (S : pf_S) (P : Nat) (x t : Int32) : Int32 := match pinF S P x with
  | none => -1
  | some k => tellV S k t
theorem c_pin_some (w : pf_W) (ok : pf_ok w) (S : pf_S) (hw : 1 ≤ w.2.2.1 ∧ w.2.2.1 ≤ 4) (x : Int32) {k : Nat} (hf : pinF S w.2.2.1 x = some k) : pf_C w y_Shelf_pageIn b_Shelf_pageIn 2 (some (.object "PageReceiver$Page")) 0 0 [.ref (w.2.1 4 0), .int x] S (some (.ref (w.2.1 14 k))) S := by
  have q := c_Shelf_pageIn w ok S hw x
  rw [hf] at q
  exact q
theorem c_pin_none (w : pf_W) (ok : pf_ok w) (S : pf_S) (hw : 1 ≤ w.2.2.1 ∧ w.2.2.1 ≤ 4) (x : Int32) (hf : pinF S w.2.2.1 x = none) : pf_C w y_Shelf_pageIn b_Shelf_pageIn 2 (some (.object "PageReceiver$Page")) 0 0 [.ref (w.2.1 4 0), .int x] S (some .null) S := by
  have q := c_Shelf_pageIn w ok S hw x
  rw [hf] at q
  exact q

set_option maxRecDepth 100000 in
set_option maxHeartbeats 4000000 in
theorem c_Recv_kept (w : pf_W) (ok : pf_ok w) (S : pf_S) (hw : 1 ≤ w.2.2.1 ∧ w.2.2.1 ≤ 4) (x t : Int32) : pf_C w y_Recv_kept b_Recv_kept 4 (some .int) 2 42 [.ref (w.2.1 0 0), .int x, .int t] S (some (.int (kptV S w.2.2.1 x t))) (S) := by
  refine pf_enter (by decide) (Nat.le_of_ble_eq_true rfl) (lv0 := [some (.ref (w.2.1 0 0)), some (.int x), some (.int t), none]) rfl (fun κ h => ?_)
  cases hf : pinF S w.2.2.1 x with
  | none =>
    refine pg_aload_n h d_Recv_kept_0 rfl ?_
    refine pf_get h ok d_Recv_kept_1 f_Recv_36 (by first | rfl | exact hk | exact hk2 | exact dm12 _ | assumption) rfl rfl ?_
    refine pg_iload_n h d_Recv_kept_4 rfl ?_
    refine pf_cV h ok d_Recv_kept_5 m_Shelf_pageIn l_Recv_125 (c_pin_none w ok S hw x hf) cn_Shelf (by first | rfl | exact hk | exact hk2 | exact dm12 _ | assumption) rfl rfl rfl (Nat.le_of_ble_eq_true rfl) ⟨(Nat.le_of_ble_eq_true rfl), (Nat.le_of_ble_eq_true rfl)⟩ ⟨Nat.le_refl _, Nat.le_refl _⟩ ?_
    refine pg_astore_nN h d_Recv_kept_8 (Nat.le_of_ble_eq_true rfl) rfl rfl ?_
    refine pg_aload_nN h d_Recv_kept_9 rfl ?_
    refine pg_ifnonnullN h d_Recv_kept_10 ?_
    refine pg_iconst (v := (-1)) h d_Recv_kept_13 (by decide) ?_
    refine pg_goto (tgt := 22) h d_Recv_kept_14 rfl ?_
    exact pf_iret h d_Recv_kept_22 rfl (by simp [kptV, *]) rfl
  | some k =>
    have hk : pf_dm w.2.2.1 14 k = true := dmK (pinF_some (by omega) hf)
    refine pg_aload_n h d_Recv_kept_0 rfl ?_
    refine pf_get h ok d_Recv_kept_1 f_Recv_36 (by first | rfl | exact hk | exact hk2 | exact dm12 _ | assumption) rfl rfl ?_
    refine pg_iload_n h d_Recv_kept_4 rfl ?_
    refine pf_cV h ok d_Recv_kept_5 m_Shelf_pageIn l_Recv_125 (c_pin_some w ok S hw x hf) cn_Shelf (by first | rfl | exact hk | exact hk2 | exact dm12 _ | assumption) rfl rfl rfl (Nat.le_of_ble_eq_true rfl) ⟨(Nat.le_of_ble_eq_true rfl), (Nat.le_of_ble_eq_true rfl)⟩ ⟨Nat.le_refl _, Nat.le_refl _⟩ ?_
    refine pg_astore_n h d_Recv_kept_8 (Nat.le_of_ble_eq_true rfl) rfl rfl ?_
    refine pg_aload_n h d_Recv_kept_9 rfl ?_
    refine pg_ifnonnull (tgt := 17) h d_Recv_kept_10 rfl ?_
    refine pg_aload_n h d_Recv_kept_17 rfl ?_
    refine pg_iload_n h d_Recv_kept_18 rfl ?_
    refine pf_cV h ok d_Recv_kept_19 m_Page_tell l_Recv_129 (c_Page_tell w ok S k hk t) cn_Page (by first | rfl | exact hk | exact hk2 | exact dm12 _ | assumption) rfl rfl rfl (Nat.le_of_ble_eq_true rfl) ⟨(Nat.le_of_ble_eq_true rfl), (Nat.le_of_ble_eq_true rfl)⟩ ⟨Nat.le_refl _, Nat.le_refl _⟩ ?_
    exact pf_iret h d_Recv_kept_22 rfl (by simp [kptV, *]) rfl

def cntV (S : pf_S) (x : Int32) : Int32 := if x < 0 then -1 else if x < 6 then S 1 0 x.toNatClampNeg else -1

set_option maxRecDepth 100000 in
set_option maxHeartbeats 4000000 in
theorem c_Recv_count (w : pf_W) (ok : pf_ok w) (S : pf_S) (x : Int32) : pf_C w y_Recv_count b_Recv_count 2 (some .int) 0 0 [.ref (w.2.1 0 0), .int x] S (some (.int (cntV S x))) (S) := by
  refine pf_enter (by decide) (Nat.le_of_ble_eq_true rfl) (lv0 := [some (.ref (w.2.1 0 0)), some (.int x)]) rfl (fun κ h => ?_)
  refine pg_iload_n h d_Recv_count_0 rfl ?_
  refine pg_if_lt (tgt := 10) h d_Recv_count_1 rfl (fun e1 => ?_) (fun e1 => ?_)
  · skip
    refine pg_iconst (v := (-1)) h d_Recv_count_10 (by decide) ?_
    refine pg_goto (tgt := 20) h d_Recv_count_11 rfl ?_
    exact pf_iret h d_Recv_count_20 rfl (by simp [cntV, *]) rfl
  refine pg_iload_n h d_Recv_count_4 rfl ?_
  refine pg_bipush (v := 6) h d_Recv_count_5 (by decide) ?_
  refine pg_icmp_lt (tgt := 14) h d_Recv_count_7 rfl (fun e7 => ?_) (fun e7 => ?_)
  · skip
    refine pg_aload_n h d_Recv_count_14 rfl ?_
    refine pf_get h ok d_Recv_count_15 f_Recv_9 (by first | rfl | exact hk | exact hk2 | exact dm12 _ | assumption) rfl rfl ?_
    refine pg_iload_n h d_Recv_count_18 rfl ?_
    refine pf_ild h ok d_Recv_count_19 (by first | rfl | exact hk | exact hk2 | exact dm12 _ | assumption) rfl (ixP e1 (fun q => absurd e7 (Int32.not_lt.mpr q)) (by decide) : pg_ix x 6 x.toNatClampNeg ∧ _).1 ?_
    exact pf_iret h d_Recv_count_20 rfl (by simp [cntV, *]) rfl
  refine pg_iconst (v := (-1)) h d_Recv_count_10 (by decide) ?_
  refine pg_goto (tgt := 20) h d_Recv_count_11 rfl ?_
  exact pf_iret h d_Recv_count_20 rfl (by simp [cntV, *]) rfl
