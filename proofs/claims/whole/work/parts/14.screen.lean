/-! Screen: what is told of a cell. -/
section PGANY
variable {κ : pg_K} {z : pg_Z} {y : MethodName} {cc : ByteArray} {nL : Nat} {ret : Option FieldType} {rm : Room} {ce sl : Nat} {Q : State → Prop} {Pic : Heap → Prop} {pc : Nat} {lv : List (Option Value)} {st : List Value}
/-- a reference or null is loaded -/
theorem pg_aloadP {j : Fin 4} {w : pf_W} {o : Option Nat} (h : pg_X κ z y cc nL ret rm) (d : decode cc pc = .ok (.aload_n j, 1)) (hi : lv[(j : Nat)]? = some (some (pgV w o))) (k : pg_G κ z nL ce sl Q Pic (pc + 1) lv (pgV w o :: st)) : pg_G κ z nL ce sl Q Pic pc lv st := by
  cases o with
  | none => exact pg_aload_nN h d hi k
  | some q => exact pg_aload_n h d hi k
end PGANY
theorem q_r0 {r : Nat} (h : r < 8) : (nI r = 0) = (r = 0) := propext (show nI r = nI 0 ↔ r = 0 from nI_eq (by omega) (by decide))
theorem q_c8 {c : Nat} (h : c < 20) : ((8 : Int32) ≤ nI c) = ¬ c < 8 := propext (show nI 8 ≤ nI c ↔ ¬ c < 8 from (nI_leI (by decide) (by omega)).trans Nat.not_lt.symm)
def dgL (d : Int32) : Int32 := if 10 ≤ d then 65 + d - 10 else 48 + d
/-- Screen.headLetter -/
def hdV (S : pf_S) (x : Int32) : Int32 := if x = 0 then 80 else if x = 1 then dgL (if S 6 0 2 / 256 - S 6 0 2 / 256 / 8 * 8 = 0 then 8 else S 6 0 2 / 256 - S 6 0 2 / 256 / 8 * 8) else if x = 2 then dgL (S 6 0 2 / 16 - S 6 0 2 / 16 / 16 * 16) else if x = 3 then dgL (S 6 0 2 - S 6 0 2 / 16 * 16) else 32
/-- Screen.letterAt -/
def ltV (S : pf_S) (o : Option Nat) (r c : Nat) : Int32 := if r = 0 ∧ c < 8 then hdV S (nI c) else match o with
  | none => if r = 0 then S 10 0 c else 32
  | some k => S 15 k (r * 20 + c)
/-- Screen.overlayAt -/
def ovV (S : pf_S) (o : Option Nat) (r c : Nat) : Int32 := if r = 0 ∧ c < 8 then 0 else match o with
  | none => 0
  | some k => S 16 k (r * 20 + c)

set_option maxRecDepth 100000 in
set_option maxHeartbeats 4000000 in
theorem c_Screen_digitLetter (w : pf_W) (ok : pf_ok w) (S : pf_S) (d : Int32) : pf_C w y_Screen_digitLetter b_Screen_digitLetter 1 (some .int) 0 0 [.int d] S (some (.int (dgL d))) (S) := by
  refine pf_enter (by decide) (Nat.le_of_ble_eq_true rfl) (lv0 := [some (.int d)]) rfl (fun κ h => ?_)
  refine pg_iload_n h d_Screen_digitLetter_0 rfl ?_
  refine pg_bipush (v := 10) h d_Screen_digitLetter_1 (by decide) ?_
  refine pg_icmp_ge (tgt := 13) h d_Screen_digitLetter_3 rfl (fun e3 => ?_) (fun e3 => ?_)
  · skip
    refine pg_bipush (v := 65) h d_Screen_digitLetter_13 (by decide) ?_
    refine pg_iload_n h d_Screen_digitLetter_15 rfl ?_
    refine pg_iadd h d_Screen_digitLetter_16 ?_
    refine pg_bipush (v := 10) h d_Screen_digitLetter_17 (by decide) ?_
    refine pg_isub h d_Screen_digitLetter_19 ?_
    exact pf_iret h d_Screen_digitLetter_20 rfl (by simp [dgL, *]) rfl
  refine pg_bipush (v := 48) h d_Screen_digitLetter_6 (by decide) ?_
  refine pg_iload_n h d_Screen_digitLetter_8 rfl ?_
  refine pg_iadd h d_Screen_digitLetter_9 ?_
  refine pg_goto (tgt := 20) h d_Screen_digitLetter_10 rfl ?_
  exact pf_iret h d_Screen_digitLetter_20 rfl (by simp [dgL, *]) rfl

set_option maxRecDepth 100000 in
set_option maxHeartbeats 4000000 in
theorem c_Screen_headLetter (w : pf_W) (ok : pf_ok w) (S : pf_S) (g u : Nat → Int32) (x : Int32) : pf_C w y_Screen_headLetter b_Screen_headLetter 3 (some .int) 1 20 [.ref (w.2.1 12 0), .int x] (SC S g u) (some (.int (hdV S x))) (SC S g u) := by
  refine pf_enter (by decide) (Nat.le_of_ble_eq_true rfl) (lv0 := [some (.ref (w.2.1 12 0)), some (.int x), none]) rfl (fun κ h => ?_)
  refine pg_aload_n h d_Screen_headLetter_0 rfl ?_
  refine pf_get h ok d_Screen_headLetter_1 f_Screen_22 (by first | rfl | exact hk | exact hk2 | exact dm12 _ | assumption) rfl rfl ?_
  try simp only [SC13, SC12, SC_12, SC_13, SC_6, SC_10, SC_14, SC_15, SC_16, SC_17]
  refine pf_get h ok d_Screen_headLetter_4 f_Screen_66 (by first | rfl | exact hk | exact hk2 | exact dm12 _ | assumption) rfl rfl ?_
  try simp only [SC13, SC12, SC_12, SC_13, SC_6, SC_10, SC_14, SC_15, SC_16, SC_17]
  refine pg_sipush (v := 256) h d_Screen_headLetter_7 (by decide) ?_
  refine pg_idiv h d_Screen_headLetter_10 (by decide) ?_
  refine pg_bipush (v := 8) h d_Screen_headLetter_11 (by decide) ?_
  refine pg_irem h d_Screen_headLetter_13 (by decide) ?_
  refine pg_istore_n h d_Screen_headLetter_14 (Nat.le_of_ble_eq_true rfl) rfl rfl ?_
  refine pg_iload_n h d_Screen_headLetter_15 rfl ?_
  by_cases c16_0 : x = 0
  · refine pg_tableIn (off := 32) (tgt := 48) h d_Screen_headLetter_16 (by rw [c16_0]; decide) (by rw [c16_0]; decide) (by rw [c16_0]; rfl) rfl ?_
    refine pg_bipush (v := 80) h d_Screen_headLetter_48 (by decide) ?_
    exact pf_iret h d_Screen_headLetter_50 rfl (by simp [hdV, *]) rfl
  by_cases c16_1 : x = 1
  · refine pg_tableIn (off := 35) (tgt := 51) h d_Screen_headLetter_16 (by rw [c16_1]; decide) (by rw [c16_1]; decide) (by rw [c16_1]; rfl) rfl ?_
    refine pg_iload_n h d_Screen_headLetter_51 rfl ?_
    refine pg_if_ne (tgt := 60) h d_Screen_headLetter_52 rfl (fun e52 => ?_) (fun e52 => ?_)
    · skip
      refine pg_iload_n h d_Screen_headLetter_60 rfl ?_
      refine pg_cS h d_Screen_headLetter_61 m_Screen_digitLetter l_Screen_70 (c_Screen_digitLetter w ok _ _) rfl rfl (Nat.le_of_ble_eq_true rfl) ⟨(Nat.le_of_ble_eq_true rfl), (Nat.le_of_ble_eq_true rfl)⟩ ⟨Nat.le_refl _, Nat.le_refl _⟩ ?_
      try simp only [SC13, SC12, SC_12, SC_13, SC_6, SC_10, SC_14, SC_15, SC_16, SC_17]
      exact pf_iret h d_Screen_headLetter_64 rfl (by simp [hdV, *]) rfl
    refine pg_bipush (v := 8) h d_Screen_headLetter_55 (by decide) ?_
    refine pg_goto (tgt := 61) h d_Screen_headLetter_57 rfl ?_
    refine pg_cS h d_Screen_headLetter_61 m_Screen_digitLetter l_Screen_70 (c_Screen_digitLetter w ok _ _) rfl rfl (Nat.le_of_ble_eq_true rfl) ⟨(Nat.le_of_ble_eq_true rfl), (Nat.le_of_ble_eq_true rfl)⟩ ⟨Nat.le_refl _, Nat.le_refl _⟩ ?_
    try simp only [SC13, SC12, SC_12, SC_13, SC_6, SC_10, SC_14, SC_15, SC_16, SC_17]
    exact pf_iret h d_Screen_headLetter_64 rfl (by simp [hdV, *]) rfl
  by_cases c16_2 : x = 2
  · refine pg_tableIn (off := 49) (tgt := 65) h d_Screen_headLetter_16 (by rw [c16_2]; decide) (by rw [c16_2]; decide) (by rw [c16_2]; rfl) rfl ?_
    refine pg_aload_n h d_Screen_headLetter_65 rfl ?_
    refine pf_get h ok d_Screen_headLetter_66 f_Screen_22 (by first | rfl | exact hk | exact hk2 | exact dm12 _ | assumption) rfl rfl ?_
    try simp only [SC13, SC12, SC_12, SC_13, SC_6, SC_10, SC_14, SC_15, SC_16, SC_17]
    refine pf_get h ok d_Screen_headLetter_69 f_Screen_66 (by first | rfl | exact hk | exact hk2 | exact dm12 _ | assumption) rfl rfl ?_
    try simp only [SC13, SC12, SC_12, SC_13, SC_6, SC_10, SC_14, SC_15, SC_16, SC_17]
    refine pg_bipush (v := 16) h d_Screen_headLetter_72 (by decide) ?_
    refine pg_idiv h d_Screen_headLetter_74 (by decide) ?_
    refine pg_bipush (v := 16) h d_Screen_headLetter_75 (by decide) ?_
    refine pg_irem h d_Screen_headLetter_77 (by decide) ?_
    refine pg_cS h d_Screen_headLetter_78 m_Screen_digitLetter l_Screen_70 (c_Screen_digitLetter w ok _ _) rfl rfl (Nat.le_of_ble_eq_true rfl) ⟨(Nat.le_of_ble_eq_true rfl), (Nat.le_of_ble_eq_true rfl)⟩ ⟨Nat.le_refl _, Nat.le_refl _⟩ ?_
    try simp only [SC13, SC12, SC_12, SC_13, SC_6, SC_10, SC_14, SC_15, SC_16, SC_17]
    exact pf_iret h d_Screen_headLetter_81 rfl (by simp [hdV, *]) rfl
  by_cases c16_3 : x = 3
  · refine pg_tableIn (off := 66) (tgt := 82) h d_Screen_headLetter_16 (by rw [c16_3]; decide) (by rw [c16_3]; decide) (by rw [c16_3]; rfl) rfl ?_
    refine pg_aload_n h d_Screen_headLetter_82 rfl ?_
    refine pf_get h ok d_Screen_headLetter_83 f_Screen_22 (by first | rfl | exact hk | exact hk2 | exact dm12 _ | assumption) rfl rfl ?_
    try simp only [SC13, SC12, SC_12, SC_13, SC_6, SC_10, SC_14, SC_15, SC_16, SC_17]
    refine pf_get h ok d_Screen_headLetter_86 f_Screen_66 (by first | rfl | exact hk | exact hk2 | exact dm12 _ | assumption) rfl rfl ?_
    try simp only [SC13, SC12, SC_12, SC_13, SC_6, SC_10, SC_14, SC_15, SC_16, SC_17]
    refine pg_bipush (v := 16) h d_Screen_headLetter_89 (by decide) ?_
    refine pg_irem h d_Screen_headLetter_91 (by decide) ?_
    refine pg_cS h d_Screen_headLetter_92 m_Screen_digitLetter l_Screen_70 (c_Screen_digitLetter w ok _ _) rfl rfl (Nat.le_of_ble_eq_true rfl) ⟨(Nat.le_of_ble_eq_true rfl), (Nat.le_of_ble_eq_true rfl)⟩ ⟨Nat.le_refl _, Nat.le_refl _⟩ ?_
    try simp only [SC13, SC12, SC_12, SC_13, SC_6, SC_10, SC_14, SC_15, SC_16, SC_17]
    exact pf_iret h d_Screen_headLetter_95 rfl (by simp [hdV, *]) rfl
  have o16 : ∀ j : Nat, j ≤ 3 → ¬ x = nI j := by
    intro j hj
    rcases (show j = 0 ∨ j = 1 ∨ j = 2 ∨ j = 3 by omega) with rfl | rfl | rfl | rfl
    · exact c16_0
    · exact c16_1
    · exact c16_2
    · exact c16_3
  refine pg_tableOut (tgt := 96) h d_Screen_headLetter_16 (sw_out 3 (by decide) o16) rfl ?_
  refine pg_bipush (v := 32) h d_Screen_headLetter_96 (by decide) ?_
  exact pf_iret h d_Screen_headLetter_98 rfl (by simp [hdV, *]) rfl

set_option maxRecDepth 100000 in
set_option maxHeartbeats 4000000 in
theorem c_Screen_letterAt (w : pf_W) (ok : pf_ok w) (S : pf_S) (g u : Nat → Int32) (o : Option Nat) (ho : ∀ k, o = some k → pf_dm w.2.2.1 14 k = true) (r c : Nat) (hr : r < 8) (hc : c < 20) : pf_C w y_Screen_letterAt b_Screen_letterAt 4 (some .int) 2 43 [.ref (w.2.1 12 0), pgV w o, .int (nI r), .int (nI c)] (SC S g u) (some (.int (ltV S o r c))) (SC S g u) := by
  refine pf_enter (by decide) (by cases o <;> exact Nat.le_of_ble_eq_true rfl) (lv0 := [some (.ref (w.2.1 12 0)), some (pgV w o), some (.int (nI r)), some (.int (nI c))]) (by cases o <;> rfl) (fun κ h => ?_)
  cases o with
  | none =>
    refine pg_iload_n h d_Screen_letterAt_0 rfl ?_
    refine pg_if_ne (tgt := 16) h d_Screen_letterAt_1 rfl (fun e1 => ?_) (fun e1 => ?_)
    · skip
      refine pg_aload_nN h d_Screen_letterAt_16 rfl ?_
      refine pg_ifnullN (tgt := 27) h d_Screen_letterAt_17 rfl ?_
      refine pg_iload_n h d_Screen_letterAt_27 rfl ?_
      refine pg_if_ne (tgt := 46) h d_Screen_letterAt_28 rfl (fun e28 => ?_) (fun e28 => ?_)
      · skip
        refine pg_bipush (v := 32) h d_Screen_letterAt_46 (by decide) ?_
        exact pf_iret h d_Screen_letterAt_48 rfl (by have q1 := q_r0 hr; have q2 := q_c8 hc; simp only [q1, q2] at *; first | contradiction | simp [ltV, *]) rfl
      refine pg_iload_n h d_Screen_letterAt_31 rfl ?_
      refine pg_bipush (v := 20) h d_Screen_letterAt_32 (by decide) ?_
      refine pg_icmp_ge (tgt := 46) h d_Screen_letterAt_34 rfl (fun e34 => absurd e34 (nI_ge hc (by decide))) (fun e34 => ?_)
      refine pg_aload_n h d_Screen_letterAt_37 rfl ?_
      refine pf_get h ok d_Screen_letterAt_38 f_Screen_26 (by first | rfl | exact hk | exact hk2 | exact dm12 _ | assumption) rfl rfl ?_
      try simp only [SC13, SC12, SC_12, SC_13, SC_6, SC_10, SC_14, SC_15, SC_16, SC_17]
      refine pg_iload_n h d_Screen_letterAt_41 rfl ?_
      refine pf_ild h ok d_Screen_letterAt_42 (by first | rfl | exact hk | exact hk2 | exact dm12 _ | assumption) rfl (pg_ixN rfl hc (by decide)) ?_
      try simp only [SC13, SC12, SC_12, SC_13, SC_6, SC_10, SC_14, SC_15, SC_16, SC_17]
      refine pg_goto (tgt := 48) h d_Screen_letterAt_43 rfl ?_
      exact pf_iret h d_Screen_letterAt_48 rfl (by have q1 := q_r0 hr; have q2 := q_c8 hc; simp only [q1, q2] at *; first | contradiction | simp [ltV, *]) rfl
    refine pg_iload_n h d_Screen_letterAt_4 rfl ?_
    refine pg_bipush (v := 8) h d_Screen_letterAt_5 (by decide) ?_
    refine pg_icmp_ge (tgt := 16) h d_Screen_letterAt_7 rfl (fun e7 => ?_) (fun e7 => ?_)
    · skip
      refine pg_aload_nN h d_Screen_letterAt_16 rfl ?_
      refine pg_ifnullN (tgt := 27) h d_Screen_letterAt_17 rfl ?_
      refine pg_iload_n h d_Screen_letterAt_27 rfl ?_
      refine pg_if_ne (tgt := 46) h d_Screen_letterAt_28 rfl (fun e28 => ?_) (fun e28 => ?_)
      · skip
        refine pg_bipush (v := 32) h d_Screen_letterAt_46 (by decide) ?_
        exact pf_iret h d_Screen_letterAt_48 rfl (by have q1 := q_r0 hr; have q2 := q_c8 hc; simp only [q1, q2] at *; first | contradiction | simp [ltV, *]) rfl
      refine pg_iload_n h d_Screen_letterAt_31 rfl ?_
      refine pg_bipush (v := 20) h d_Screen_letterAt_32 (by decide) ?_
      refine pg_icmp_ge (tgt := 46) h d_Screen_letterAt_34 rfl (fun e34 => absurd e34 (nI_ge hc (by decide))) (fun e34 => ?_)
      refine pg_aload_n h d_Screen_letterAt_37 rfl ?_
      refine pf_get h ok d_Screen_letterAt_38 f_Screen_26 (by first | rfl | exact hk | exact hk2 | exact dm12 _ | assumption) rfl rfl ?_
      try simp only [SC13, SC12, SC_12, SC_13, SC_6, SC_10, SC_14, SC_15, SC_16, SC_17]
      refine pg_iload_n h d_Screen_letterAt_41 rfl ?_
      refine pf_ild h ok d_Screen_letterAt_42 (by first | rfl | exact hk | exact hk2 | exact dm12 _ | assumption) rfl (pg_ixN rfl hc (by decide)) ?_
      try simp only [SC13, SC12, SC_12, SC_13, SC_6, SC_10, SC_14, SC_15, SC_16, SC_17]
      refine pg_goto (tgt := 48) h d_Screen_letterAt_43 rfl ?_
      exact pf_iret h d_Screen_letterAt_48 rfl (by have q1 := q_r0 hr; have q2 := q_c8 hc; simp only [q1, q2] at *; first | contradiction | simp [ltV, *]) rfl
    refine pg_aload_n h d_Screen_letterAt_10 rfl ?_
    refine pg_iload_n h d_Screen_letterAt_11 rfl ?_
    refine pf_cV h ok d_Screen_letterAt_12 m_Screen_headLetter l_Screen_57 (c_Screen_headLetter w ok S g u _) cn_Screen (by first | rfl | exact hk | exact hk2 | exact dm12 _ | assumption) rfl rfl rfl (Nat.le_of_ble_eq_true rfl) ⟨(Nat.le_of_ble_eq_true rfl), (Nat.le_of_ble_eq_true rfl)⟩ ⟨Nat.le_refl _, Nat.le_refl _⟩ ?_
    try simp only [SC13, SC12, SC_12, SC_13, SC_6, SC_10, SC_14, SC_15, SC_16, SC_17]
    exact pf_iret h d_Screen_letterAt_15 rfl (by have q1 := q_r0 hr; have q2 := q_c8 hc; simp only [q1, q2] at *; first | contradiction | simp [ltV, *]) rfl
  | some k =>
    have hk : pf_dm w.2.2.1 14 k = true := ho k rfl
    refine pg_iload_n h d_Screen_letterAt_0 rfl ?_
    refine pg_if_ne (tgt := 16) h d_Screen_letterAt_1 rfl (fun e1 => ?_) (fun e1 => ?_)
    · skip
      refine pg_aload_n h d_Screen_letterAt_16 rfl ?_
      refine pg_ifnull h d_Screen_letterAt_17 ?_
      refine pg_aload_n h d_Screen_letterAt_20 rfl ?_
      refine pg_iload_n h d_Screen_letterAt_21 rfl ?_
      refine pg_iload_n h d_Screen_letterAt_22 rfl ?_
      refine pf_cV h ok d_Screen_letterAt_23 m_Page_letterAt l_Screen_61 (c_Page_letterAt w ok _ k hk r c hr hc) cn_Page (by first | rfl | exact hk | exact hk2 | exact dm12 _ | assumption) rfl rfl rfl (Nat.le_of_ble_eq_true rfl) ⟨(Nat.le_of_ble_eq_true rfl), (Nat.le_of_ble_eq_true rfl)⟩ ⟨Nat.le_refl _, Nat.le_refl _⟩ ?_
      try simp only [SC13, SC12, SC_12, SC_13, SC_6, SC_10, SC_14, SC_15, SC_16, SC_17]
      exact pf_iret h d_Screen_letterAt_26 rfl (by have q1 := q_r0 hr; have q2 := q_c8 hc; simp only [q1, q2] at *; first | contradiction | simp [ltV, *]) rfl
    refine pg_iload_n h d_Screen_letterAt_4 rfl ?_
    refine pg_bipush (v := 8) h d_Screen_letterAt_5 (by decide) ?_
    refine pg_icmp_ge (tgt := 16) h d_Screen_letterAt_7 rfl (fun e7 => ?_) (fun e7 => ?_)
    · skip
      refine pg_aload_n h d_Screen_letterAt_16 rfl ?_
      refine pg_ifnull h d_Screen_letterAt_17 ?_
      refine pg_aload_n h d_Screen_letterAt_20 rfl ?_
      refine pg_iload_n h d_Screen_letterAt_21 rfl ?_
      refine pg_iload_n h d_Screen_letterAt_22 rfl ?_
      refine pf_cV h ok d_Screen_letterAt_23 m_Page_letterAt l_Screen_61 (c_Page_letterAt w ok _ k hk r c hr hc) cn_Page (by first | rfl | exact hk | exact hk2 | exact dm12 _ | assumption) rfl rfl rfl (Nat.le_of_ble_eq_true rfl) ⟨(Nat.le_of_ble_eq_true rfl), (Nat.le_of_ble_eq_true rfl)⟩ ⟨Nat.le_refl _, Nat.le_refl _⟩ ?_
      try simp only [SC13, SC12, SC_12, SC_13, SC_6, SC_10, SC_14, SC_15, SC_16, SC_17]
      exact pf_iret h d_Screen_letterAt_26 rfl (by have q1 := q_r0 hr; have q2 := q_c8 hc; simp only [q1, q2] at *; first | contradiction | simp [ltV, *]) rfl
    refine pg_aload_n h d_Screen_letterAt_10 rfl ?_
    refine pg_iload_n h d_Screen_letterAt_11 rfl ?_
    refine pf_cV h ok d_Screen_letterAt_12 m_Screen_headLetter l_Screen_57 (c_Screen_headLetter w ok S g u _) cn_Screen (by first | rfl | exact hk | exact hk2 | exact dm12 _ | assumption) rfl rfl rfl (Nat.le_of_ble_eq_true rfl) ⟨(Nat.le_of_ble_eq_true rfl), (Nat.le_of_ble_eq_true rfl)⟩ ⟨Nat.le_refl _, Nat.le_refl _⟩ ?_
    try simp only [SC13, SC12, SC_12, SC_13, SC_6, SC_10, SC_14, SC_15, SC_16, SC_17]
    exact pf_iret h d_Screen_letterAt_15 rfl (by have q1 := q_r0 hr; have q2 := q_c8 hc; simp only [q1, q2] at *; first | contradiction | simp [ltV, *]) rfl

set_option maxRecDepth 100000 in
set_option maxHeartbeats 4000000 in
theorem c_Screen_overlayAt (w : pf_W) (ok : pf_ok w) (S : pf_S) (g u : Nat → Int32) (o : Option Nat) (ho : ∀ k, o = some k → pf_dm w.2.2.1 14 k = true) (r c : Nat) (hr : r < 8) (hc : c < 20) : pf_C w y_Screen_overlayAt b_Screen_overlayAt 4 (some .int) 2 43 [pgV w o, .int (nI r), .int (nI c)] (SC S g u) (some (.int (ovV S o r c))) (SC S g u) := by
  refine pf_enter (by decide) (by cases o <;> exact Nat.le_of_ble_eq_true rfl) (lv0 := [some (pgV w o), some (.int (nI r)), some (.int (nI c)), none]) (by cases o <;> rfl) (fun κ h => ?_)
  cases o with
  | none =>
    refine pg_iload_n h d_Screen_overlayAt_0 rfl ?_
    refine pg_if_ne (tgt := 14) h d_Screen_overlayAt_1 rfl (fun e1 => ?_) (fun e1 => ?_)
    · skip
      refine pg_iconst (v := 0) h d_Screen_overlayAt_14 (by decide) ?_
      refine pg_istore_n h d_Screen_overlayAt_15 (Nat.le_of_ble_eq_true rfl) rfl rfl ?_
      refine pg_aload_nN h d_Screen_overlayAt_16 rfl ?_
      refine pg_ifnullN (tgt := 24) h d_Screen_overlayAt_17 rfl ?_
      refine pg_iconst (v := 0) h d_Screen_overlayAt_24 (by decide) ?_
      refine pg_goto (tgt := 34) h d_Screen_overlayAt_25 rfl ?_
      exact pf_iret h d_Screen_overlayAt_34 rfl (by first | exact absurd rfl e21 | exact absurd e21 (by decide) | (have q1 := q_r0 hr; have q2 := q_c8 hc; simp only [q1, q2] at *; simp [ovV, *])) rfl
    refine pg_iload_n h d_Screen_overlayAt_4 rfl ?_
    refine pg_bipush (v := 8) h d_Screen_overlayAt_5 (by decide) ?_
    refine pg_icmp_ge (tgt := 14) h d_Screen_overlayAt_7 rfl (fun e7 => ?_) (fun e7 => ?_)
    · skip
      refine pg_iconst (v := 0) h d_Screen_overlayAt_14 (by decide) ?_
      refine pg_istore_n h d_Screen_overlayAt_15 (Nat.le_of_ble_eq_true rfl) rfl rfl ?_
      refine pg_aload_nN h d_Screen_overlayAt_16 rfl ?_
      refine pg_ifnullN (tgt := 24) h d_Screen_overlayAt_17 rfl ?_
      refine pg_iconst (v := 0) h d_Screen_overlayAt_24 (by decide) ?_
      refine pg_goto (tgt := 34) h d_Screen_overlayAt_25 rfl ?_
      exact pf_iret h d_Screen_overlayAt_34 rfl (by first | exact absurd rfl e21 | exact absurd e21 (by decide) | (have q1 := q_r0 hr; have q2 := q_c8 hc; simp only [q1, q2] at *; simp [ovV, *])) rfl
    refine pg_iconst (v := 1) h d_Screen_overlayAt_10 (by decide) ?_
    refine pg_goto (tgt := 15) h d_Screen_overlayAt_11 rfl ?_
    refine pg_istore_n h d_Screen_overlayAt_15 (Nat.le_of_ble_eq_true rfl) rfl rfl ?_
    refine pg_aload_nN h d_Screen_overlayAt_16 rfl ?_
    refine pg_ifnullN (tgt := 24) h d_Screen_overlayAt_17 rfl ?_
    refine pg_iconst (v := 0) h d_Screen_overlayAt_24 (by decide) ?_
    refine pg_goto (tgt := 34) h d_Screen_overlayAt_25 rfl ?_
    exact pf_iret h d_Screen_overlayAt_34 rfl (by first | exact absurd rfl e21 | exact absurd e21 (by decide) | (have q1 := q_r0 hr; have q2 := q_c8 hc; simp only [q1, q2] at *; simp [ovV, *])) rfl
  | some k =>
    have hk : pf_dm w.2.2.1 14 k = true := ho k rfl
    refine pg_iload_n h d_Screen_overlayAt_0 rfl ?_
    refine pg_if_ne (tgt := 14) h d_Screen_overlayAt_1 rfl (fun e1 => ?_) (fun e1 => ?_)
    · skip
      refine pg_iconst (v := 0) h d_Screen_overlayAt_14 (by decide) ?_
      refine pg_istore_n h d_Screen_overlayAt_15 (Nat.le_of_ble_eq_true rfl) rfl rfl ?_
      refine pg_aload_n h d_Screen_overlayAt_16 rfl ?_
      refine pg_ifnull h d_Screen_overlayAt_17 ?_
      refine pg_iload_n h d_Screen_overlayAt_20 rfl ?_
      refine pg_if_eq (tgt := 28) h d_Screen_overlayAt_21 rfl (fun e21 => ?_) (fun e21 => ?_)
      · skip
        refine pg_aload_n h d_Screen_overlayAt_28 rfl ?_
        refine pg_iload_n h d_Screen_overlayAt_29 rfl ?_
        refine pg_iload_n h d_Screen_overlayAt_30 rfl ?_
        refine pf_cV h ok d_Screen_overlayAt_31 m_Page_overlayAt l_Screen_73 (c_Page_overlayAt w ok _ k hk r c hr hc) cn_Page (by first | rfl | exact hk | exact hk2 | exact dm12 _ | assumption) rfl rfl rfl (Nat.le_of_ble_eq_true rfl) ⟨(Nat.le_of_ble_eq_true rfl), (Nat.le_of_ble_eq_true rfl)⟩ ⟨Nat.le_refl _, Nat.le_refl _⟩ ?_
        try simp only [SC13, SC12, SC_12, SC_13, SC_6, SC_10, SC_14, SC_15, SC_16, SC_17]
        exact pf_iret h d_Screen_overlayAt_34 rfl (by first | exact absurd rfl e21 | exact absurd e21 (by decide) | (have q1 := q_r0 hr; have q2 := q_c8 hc; simp only [q1, q2] at *; simp [ovV, *])) rfl
      refine pg_iconst (v := 0) h d_Screen_overlayAt_24 (by decide) ?_
      refine pg_goto (tgt := 34) h d_Screen_overlayAt_25 rfl ?_
      exact pf_iret h d_Screen_overlayAt_34 rfl (by first | exact absurd rfl e21 | exact absurd e21 (by decide) | (have q1 := q_r0 hr; have q2 := q_c8 hc; simp only [q1, q2] at *; simp [ovV, *])) rfl
    refine pg_iload_n h d_Screen_overlayAt_4 rfl ?_
    refine pg_bipush (v := 8) h d_Screen_overlayAt_5 (by decide) ?_
    refine pg_icmp_ge (tgt := 14) h d_Screen_overlayAt_7 rfl (fun e7 => ?_) (fun e7 => ?_)
    · skip
      refine pg_iconst (v := 0) h d_Screen_overlayAt_14 (by decide) ?_
      refine pg_istore_n h d_Screen_overlayAt_15 (Nat.le_of_ble_eq_true rfl) rfl rfl ?_
      refine pg_aload_n h d_Screen_overlayAt_16 rfl ?_
      refine pg_ifnull h d_Screen_overlayAt_17 ?_
      refine pg_iload_n h d_Screen_overlayAt_20 rfl ?_
      refine pg_if_eq (tgt := 28) h d_Screen_overlayAt_21 rfl (fun e21 => ?_) (fun e21 => ?_)
      · skip
        refine pg_aload_n h d_Screen_overlayAt_28 rfl ?_
        refine pg_iload_n h d_Screen_overlayAt_29 rfl ?_
        refine pg_iload_n h d_Screen_overlayAt_30 rfl ?_
        refine pf_cV h ok d_Screen_overlayAt_31 m_Page_overlayAt l_Screen_73 (c_Page_overlayAt w ok _ k hk r c hr hc) cn_Page (by first | rfl | exact hk | exact hk2 | exact dm12 _ | assumption) rfl rfl rfl (Nat.le_of_ble_eq_true rfl) ⟨(Nat.le_of_ble_eq_true rfl), (Nat.le_of_ble_eq_true rfl)⟩ ⟨Nat.le_refl _, Nat.le_refl _⟩ ?_
        try simp only [SC13, SC12, SC_12, SC_13, SC_6, SC_10, SC_14, SC_15, SC_16, SC_17]
        exact pf_iret h d_Screen_overlayAt_34 rfl (by first | exact absurd rfl e21 | exact absurd e21 (by decide) | (have q1 := q_r0 hr; have q2 := q_c8 hc; simp only [q1, q2] at *; simp [ovV, *])) rfl
      refine pg_iconst (v := 0) h d_Screen_overlayAt_24 (by decide) ?_
      refine pg_goto (tgt := 34) h d_Screen_overlayAt_25 rfl ?_
      exact pf_iret h d_Screen_overlayAt_34 rfl (by first | exact absurd rfl e21 | exact absurd e21 (by decide) | (have q1 := q_r0 hr; have q2 := q_c8 hc; simp only [q1, q2] at *; simp [ovV, *])) rfl
    refine pg_iconst (v := 1) h d_Screen_overlayAt_10 (by decide) ?_
    refine pg_goto (tgt := 15) h d_Screen_overlayAt_11 rfl ?_
    refine pg_istore_n h d_Screen_overlayAt_15 (Nat.le_of_ble_eq_true rfl) rfl rfl ?_
    refine pg_aload_n h d_Screen_overlayAt_16 rfl ?_
    refine pg_ifnull h d_Screen_overlayAt_17 ?_
    refine pg_iload_n h d_Screen_overlayAt_20 rfl ?_
    refine pg_if_eq (tgt := 28) h d_Screen_overlayAt_21 rfl (fun e21 => ?_) (fun e21 => ?_)
    · skip
      refine pg_aload_n h d_Screen_overlayAt_28 rfl ?_
      refine pg_iload_n h d_Screen_overlayAt_29 rfl ?_
      refine pg_iload_n h d_Screen_overlayAt_30 rfl ?_
      refine pf_cV h ok d_Screen_overlayAt_31 m_Page_overlayAt l_Screen_73 (c_Page_overlayAt w ok _ k hk r c hr hc) cn_Page (by first | rfl | exact hk | exact hk2 | exact dm12 _ | assumption) rfl rfl rfl (Nat.le_of_ble_eq_true rfl) ⟨(Nat.le_of_ble_eq_true rfl), (Nat.le_of_ble_eq_true rfl)⟩ ⟨Nat.le_refl _, Nat.le_refl _⟩ ?_
      try simp only [SC13, SC12, SC_12, SC_13, SC_6, SC_10, SC_14, SC_15, SC_16, SC_17]
      exact pf_iret h d_Screen_overlayAt_34 rfl (by first | exact absurd rfl e21 | exact absurd e21 (by decide) | (have q1 := q_r0 hr; have q2 := q_c8 hc; simp only [q1, q2] at *; simp [ovV, *])) rfl
    refine pg_iconst (v := 0) h d_Screen_overlayAt_24 (by decide) ?_
    refine pg_goto (tgt := 34) h d_Screen_overlayAt_25 rfl ?_
    exact pf_iret h d_Screen_overlayAt_34 rfl (by first | exact absurd rfl e21 | exact absurd e21 (by decide) | (have q1 := q_r0 hr; have q2 := q_c8 hc; simp only [q1, q2] at *; simp [ovV, *])) rfl

def hdbFrom (L : Nat → Int32) : Nat → Nat → Int32 → Int32
  | 0, _, _ => 0
  | n + 1, c, on => if on = 0 ∨ L c = 12 then hdbFrom L n (c + 1) (if L c = 13 then 1 else 0) else 1
/-- Screen.hasDouble -/
def hdb (S : pf_S) (o : Option Nat) (r : Nat) : Int32 := hdbFrom (fun c => ltV S o r c) 20 0 0
theorem hdbFrom_01 {L : Nat → Int32} : ∀ {n c : Nat} {on : Int32}, hdbFrom L n c on = 0 ∨ hdbFrom L n c on = 1 := by
  intro n
  induction n with
  | zero => intro c on; exact Or.inl rfl
  | succ n ih =>
    intro c on
    rw [hdbFrom]
    split
    · exact ih
    · exact Or.inr rfl

set_option maxRecDepth 100000 in
set_option maxHeartbeats 4000000 in
theorem c_Screen_hasDouble (w : pf_W) (ok : pf_ok w) (S : pf_S) (g u : Nat → Int32) (o : Option Nat) (ho : ∀ k, o = some k → pf_dm w.2.2.1 14 k = true) (r : Nat) (hr : r < 8) : pf_C w y_Screen_hasDouble b_Screen_hasDouble 6 (some .boolean) 3 66 [.ref (w.2.1 12 0), pgV w o, .int (nI r)] (SC S g u) (some (.int (hdb S o r))) (SC S g u) := by
  refine pf_enter (by decide) (by cases o <;> exact Nat.le_of_ble_eq_true rfl) (lv0 := [some (.ref (w.2.1 12 0)), some (pgV w o), some (.int (nI r)), none, none, none]) (by cases o <;> rfl) (fun κ h => ?_)
  have loop : ∀ (n c : Nat) (on : Int32) (X : Option Value), c + n = 20 → hdbFrom (fun c => ltV S o r c) n c on = hdb S o r → pg_G κ w.1 6 0 0 (pg_Q κ w.1 (fun r' H => r' = (some (.int (hdb S o r))) ∧ pf_P w (SC S g u) H) 0 0) (pf_P w (SC S g u)) 5 [some (.ref (w.2.1 12 0)), some (pgV w o), some (.int (nI r)), some (.int on), some (.int (nI c)), X] [] := by
    intro n
    induction n with
    | zero =>
      intro c on X hc hI
      have hc : c = 20 := by omega
      subst hc
      refine pg_iload h d_Screen_hasDouble_5 rfl ?_
      refine pg_bipush (v := 20) h d_Screen_hasDouble_7 (by decide) ?_
      refine pg_icmp_ge (tgt := 64) h d_Screen_hasDouble_9 rfl (fun e9 => ?_) (fun e9 => absurd e9 (fun e => e (by decide)))
      refine pg_iconst (v := 0) h d_Screen_hasDouble_64 (by decide) ?_
      exact pf_iret h d_Screen_hasDouble_65 rfl (by rw [← hI]; rfl) rfl
    | succ n ih =>
      intro c on X hc hI
      have hc2 : c < 20 := by omega
      refine pg_iload h d_Screen_hasDouble_5 rfl ?_
      refine pg_bipush (v := 20) h d_Screen_hasDouble_7 (by decide) ?_
      refine pg_icmp_ge (tgt := 64) h d_Screen_hasDouble_9 rfl (fun e9 => absurd e9 (nI_ge hc2 (by decide))) (fun e9 => ?_)
      refine pg_aload_n h d_Screen_hasDouble_12 rfl ?_
      refine pg_aloadP h d_Screen_hasDouble_13 rfl ?_
      refine pg_iload_n h d_Screen_hasDouble_14 rfl ?_
      refine pg_iload h d_Screen_hasDouble_15 rfl ?_
      refine pf_cV h ok d_Screen_hasDouble_17 m_Screen_letterAt l_Screen_53 (c_Screen_letterAt w ok S g u o ho r c hr hc2) cn_Screen (by first | rfl | exact hk | exact hk2 | exact dm12 _ | assumption) rfl rfl rfl (Nat.le_of_ble_eq_true rfl) ⟨(Nat.le_of_ble_eq_true rfl), (Nat.le_of_ble_eq_true rfl)⟩ ⟨Nat.le_refl _, Nat.le_refl _⟩ ?_
      refine pg_istore h d_Screen_hasDouble_20 (Nat.le_of_ble_eq_true rfl) rfl rfl ?_
      refine pg_iload_n h d_Screen_hasDouble_22 rfl ?_
      refine pg_if_eq (tgt := 37) h d_Screen_hasDouble_23 rfl (fun e23 => ?_) (fun e23 => ?_)
      · skip
        refine pg_iconst (v := 0) h d_Screen_hasDouble_37 (by decide) ?_
        refine pg_istore_n h d_Screen_hasDouble_38 (Nat.le_of_ble_eq_true rfl) rfl rfl ?_
        refine pg_iload_n h d_Screen_hasDouble_39 rfl ?_
        refine pg_if_eq (tgt := 45) h d_Screen_hasDouble_40 rfl (fun e40 => ?_) (fun e40 => ?_)
        · skip
          refine pg_iload h d_Screen_hasDouble_45 rfl ?_
          refine pg_bipush (v := 13) h d_Screen_hasDouble_47 (by decide) ?_
          refine pg_icmp_ne (tgt := 56) h d_Screen_hasDouble_49 rfl (fun e49 => ?_) (fun e49 => ?_)
          · skip
            refine pg_iconst (v := 0) h d_Screen_hasDouble_56 (by decide) ?_
            refine pg_istore_n h d_Screen_hasDouble_57 (Nat.le_of_ble_eq_true rfl) rfl rfl ?_
            refine pg_iinc (w := 1) h d_Screen_hasDouble_58 rfl (by decide) (Nat.le_of_ble_eq_true rfl) rfl rfl ?_
            refine pg_goto (tgt := 5) h d_Screen_hasDouble_61 rfl ?_
            first
              | exact absurd rfl e40
              | exact absurd e40 (by decide)
              | exact absurd (e30.symm.trans e49) (by decide)
              | (rw [← nI_succ c]; exact ih (c + 1) _ _ (by omega) (by rw [hdbFrom] at hI; simp only [*] at hI; simpa using hI))
          refine pg_iconst (v := 1) h d_Screen_hasDouble_52 (by decide) ?_
          refine pg_goto (tgt := 57) h d_Screen_hasDouble_53 rfl ?_
          refine pg_istore_n h d_Screen_hasDouble_57 (Nat.le_of_ble_eq_true rfl) rfl rfl ?_
          refine pg_iinc (w := 1) h d_Screen_hasDouble_58 rfl (by decide) (Nat.le_of_ble_eq_true rfl) rfl rfl ?_
          refine pg_goto (tgt := 5) h d_Screen_hasDouble_61 rfl ?_
          first
            | exact absurd rfl e40
            | exact absurd e40 (by decide)
            | exact absurd (e30.symm.trans e49) (by decide)
            | (rw [← nI_succ c]; exact ih (c + 1) _ _ (by omega) (by rw [hdbFrom] at hI; simp only [*] at hI; simpa using hI))
        refine pg_iconst (v := 1) h d_Screen_hasDouble_43 (by decide) ?_
        exact pf_iret h d_Screen_hasDouble_44 rfl (by first | exact absurd rfl e40 | exact absurd e40 (by decide) | (rw [hdbFrom] at hI; rw [← hI]; simp [*])) rfl
      refine pg_iload h d_Screen_hasDouble_26 rfl ?_
      refine pg_bipush (v := 12) h d_Screen_hasDouble_28 (by decide) ?_
      refine pg_icmp_eq (tgt := 37) h d_Screen_hasDouble_30 rfl (fun e30 => ?_) (fun e30 => ?_)
      · skip
        refine pg_iconst (v := 0) h d_Screen_hasDouble_37 (by decide) ?_
        refine pg_istore_n h d_Screen_hasDouble_38 (Nat.le_of_ble_eq_true rfl) rfl rfl ?_
        refine pg_iload_n h d_Screen_hasDouble_39 rfl ?_
        refine pg_if_eq (tgt := 45) h d_Screen_hasDouble_40 rfl (fun e40 => ?_) (fun e40 => ?_)
        · skip
          refine pg_iload h d_Screen_hasDouble_45 rfl ?_
          refine pg_bipush (v := 13) h d_Screen_hasDouble_47 (by decide) ?_
          refine pg_icmp_ne (tgt := 56) h d_Screen_hasDouble_49 rfl (fun e49 => ?_) (fun e49 => ?_)
          · skip
            refine pg_iconst (v := 0) h d_Screen_hasDouble_56 (by decide) ?_
            refine pg_istore_n h d_Screen_hasDouble_57 (Nat.le_of_ble_eq_true rfl) rfl rfl ?_
            refine pg_iinc (w := 1) h d_Screen_hasDouble_58 rfl (by decide) (Nat.le_of_ble_eq_true rfl) rfl rfl ?_
            refine pg_goto (tgt := 5) h d_Screen_hasDouble_61 rfl ?_
            first
              | exact absurd rfl e40
              | exact absurd e40 (by decide)
              | exact absurd (e30.symm.trans e49) (by decide)
              | (rw [← nI_succ c]; exact ih (c + 1) _ _ (by omega) (by rw [hdbFrom] at hI; simp only [*] at hI; simpa using hI))
          refine pg_iconst (v := 1) h d_Screen_hasDouble_52 (by decide) ?_
          refine pg_goto (tgt := 57) h d_Screen_hasDouble_53 rfl ?_
          refine pg_istore_n h d_Screen_hasDouble_57 (Nat.le_of_ble_eq_true rfl) rfl rfl ?_
          refine pg_iinc (w := 1) h d_Screen_hasDouble_58 rfl (by decide) (Nat.le_of_ble_eq_true rfl) rfl rfl ?_
          refine pg_goto (tgt := 5) h d_Screen_hasDouble_61 rfl ?_
          first
            | exact absurd rfl e40
            | exact absurd e40 (by decide)
            | exact absurd (e30.symm.trans e49) (by decide)
            | (rw [← nI_succ c]; exact ih (c + 1) _ _ (by omega) (by rw [hdbFrom] at hI; simp only [*] at hI; simpa using hI))
        refine pg_iconst (v := 1) h d_Screen_hasDouble_43 (by decide) ?_
        exact pf_iret h d_Screen_hasDouble_44 rfl (by first | exact absurd rfl e40 | exact absurd e40 (by decide) | (rw [hdbFrom] at hI; rw [← hI]; simp [*])) rfl
      refine pg_iconst (v := 1) h d_Screen_hasDouble_33 (by decide) ?_
      refine pg_goto (tgt := 38) h d_Screen_hasDouble_34 rfl ?_
      refine pg_istore_n h d_Screen_hasDouble_38 (Nat.le_of_ble_eq_true rfl) rfl rfl ?_
      refine pg_iload_n h d_Screen_hasDouble_39 rfl ?_
      refine pg_if_eq (tgt := 45) h d_Screen_hasDouble_40 rfl (fun e40 => ?_) (fun e40 => ?_)
      · skip
        refine pg_iload h d_Screen_hasDouble_45 rfl ?_
        refine pg_bipush (v := 13) h d_Screen_hasDouble_47 (by decide) ?_
        refine pg_icmp_ne (tgt := 56) h d_Screen_hasDouble_49 rfl (fun e49 => ?_) (fun e49 => ?_)
        · skip
          refine pg_iconst (v := 0) h d_Screen_hasDouble_56 (by decide) ?_
          refine pg_istore_n h d_Screen_hasDouble_57 (Nat.le_of_ble_eq_true rfl) rfl rfl ?_
          refine pg_iinc (w := 1) h d_Screen_hasDouble_58 rfl (by decide) (Nat.le_of_ble_eq_true rfl) rfl rfl ?_
          refine pg_goto (tgt := 5) h d_Screen_hasDouble_61 rfl ?_
          first
            | exact absurd rfl e40
            | exact absurd e40 (by decide)
            | exact absurd (e30.symm.trans e49) (by decide)
            | (rw [← nI_succ c]; exact ih (c + 1) _ _ (by omega) (by rw [hdbFrom] at hI; simp only [*] at hI; simpa using hI))
        refine pg_iconst (v := 1) h d_Screen_hasDouble_52 (by decide) ?_
        refine pg_goto (tgt := 57) h d_Screen_hasDouble_53 rfl ?_
        refine pg_istore_n h d_Screen_hasDouble_57 (Nat.le_of_ble_eq_true rfl) rfl rfl ?_
        refine pg_iinc (w := 1) h d_Screen_hasDouble_58 rfl (by decide) (Nat.le_of_ble_eq_true rfl) rfl rfl ?_
        refine pg_goto (tgt := 5) h d_Screen_hasDouble_61 rfl ?_
        first
          | exact absurd rfl e40
          | exact absurd e40 (by decide)
          | exact absurd (e30.symm.trans e49) (by decide)
          | (rw [← nI_succ c]; exact ih (c + 1) _ _ (by omega) (by rw [hdbFrom] at hI; simp only [*] at hI; simpa using hI))
      refine pg_iconst (v := 1) h d_Screen_hasDouble_43 (by decide) ?_
      exact pf_iret h d_Screen_hasDouble_44 rfl (by first | exact absurd rfl e40 | exact absurd e40 (by decide) | (rw [hdbFrom] at hI; rw [← hI]; simp [*])) rfl
  refine pg_iconst (v := 0) h d_Screen_hasDouble_0 (by decide) ?_
  refine pg_istore_n h d_Screen_hasDouble_1 (Nat.le_of_ble_eq_true rfl) rfl rfl ?_
  refine pg_iconst (v := 0) h d_Screen_hasDouble_2 (by decide) ?_
  refine pg_istore h d_Screen_hasDouble_3 (Nat.le_of_ble_eq_true rfl) rfl rfl ?_
  exact loop 20 0 0 none rfl rfl
