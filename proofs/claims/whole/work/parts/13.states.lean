/-! States: g is its row of the flat memory, u that of Screen. -/
def SC (S : pf_S) (g u : Nat → Int32) : pf_S := pf_rw (pf_rw S 13 0 g) 12 0 u
section PFSC
variable (S : pf_S) (g u : Nat → Int32)
theorem SC_12 : SC S g u 12 0 = u := rfl
theorem SC_13 : SC S g u 13 0 = g := rfl
theorem SC_1 : SC S g u 1 = S 1 := rfl
theorem SC_2 : SC S g u 2 = S 2 := rfl
theorem SC_6 : SC S g u 6 = S 6 := rfl
theorem SC_10 : SC S g u 10 = S 10 := rfl
theorem SC_14 : SC S g u 14 = S 14 := rfl
theorem SC_15 : SC S g u 15 = S 15 := rfl
theorem SC_16 : SC S g u 16 = S 16 := rfl
theorem SC_17 : SC S g u 17 = S 17 := rfl
theorem SC13 (k : Nat) (v : Int32) : pf_st (SC S g u) 13 0 k v = SC S (upd g k v) u := by
  funext a b
  by_cases h1 : a = 13 ∧ b = 0
  · obtain ⟨rfl, rfl⟩ := h1
    rfl
  · by_cases h2 : a = 12 ∧ b = 0
    · obtain ⟨rfl, rfl⟩ := h2
      rfl
    · simp only [pf_st, SC, pf_rw, if_neg h1, if_neg h2]
theorem SC12 (k : Nat) (v : Int32) : pf_st (SC S g u) 12 0 k v = SC S g (upd u k v) := by
  funext a b
  by_cases h1 : a = 13 ∧ b = 0
  · obtain ⟨rfl, rfl⟩ := h1
    rfl
  · by_cases h2 : a = 12 ∧ b = 0
    · obtain ⟨rfl, rfl⟩ := h2
      rfl
    · simp only [pf_st, SC, pf_rw, if_neg h1, if_neg h2]
theorem SC_self : SC S (S 13 0) (S 12 0) = S := by
  unfold SC
  rw [pf_rw_self, pf_rw_self]
end PFSC
def hlG (g : Nat → Int32) (l s : Int32) : Nat → Int32 := upd (upd g 9 l) 10 s
def bgG (g : Nat → Int32) : Nat → Int32 := hlG (upd (upd (upd (upd (upd (upd (upd (upd (upd g 0 7) 1 0) 2 0) 3 0) 4 0) 5 0) 6 0) 7 0) 8 0) 32 0
def tmG (g : Nat → Int32) (b : Int32) : Nat → Int32 := upd (if nb (g 2) = nb b then g else hlG g 32 0) 2 b
def tdG (g : Nat → Int32) (b : Int32) : Nat → Int32 := upd (if nb (g 6) = nb b then g else hlG g 32 0) 6 b
def tcG (g : Nat → Int32) (c b : Int32) : Nat → Int32 := upd (tmG (upd g 0 c) b) 4 0
/-- States.doAtOnce -/
def onG (g : Nat → Int32) (m : Int32) : Nat → Int32 := if m = 9 then upd g 3 0 else if m = 12 then tdG g 0 else if m = 24 then upd g 4 1 else if m = 25 then upd g 7 0 else if m = 26 then upd g 7 1 else if m = 28 then upd g 1 0 else if m = 29 then upd g 1 (g 0) else if m = 30 then upd g 8 1 else g
/-- States.doAfter -/
def afG (g : Nat → Int32) (m : Int32) : Nat → Int32 := if ¬ 7 < m then tcG g m 0 else if ¬ m < 16 ∧ ¬ 23 < m then tcG g (m - 16) 1 else if m = 8 then upd g 3 1 else if m = 10 then upd g 5 0 else if m = 11 then upd g 5 1 else if m = 13 then tdG g 1 else if m = 31 then upd g 8 0 else g
/-- States.sum -/
def smG (g : Nat → Int32) : Int32 := (if nb (g 3) = 0 then 0 else 16) + (if nb (g 4) = 0 then 0 else 32) + (if nb (g 5) = 0 then 0 else 64)

set_option maxRecDepth 100000 in
set_option maxHeartbeats 4000000 in
theorem c_States_holdLetter (w : pf_W) (ok : pf_ok w) (S : pf_S) (g u : Nat → Int32) (l b : Int32) : pf_C w y_States_holdLetter b_States_holdLetter 3 none 0 0 [.ref (w.2.1 13 0), .int l, .int (nb b)] (SC S g u) (none) (SC S (hlG g l b) u) := by
  refine pf_enter (by decide) (Nat.le_of_ble_eq_true rfl) (lv0 := [some (.ref (w.2.1 13 0)), some (.int l), some (.int (nb b))]) rfl (fun κ h => ?_)
  refine pg_aload_n h d_States_holdLetter_0 rfl ?_
  refine pg_iload_n h d_States_holdLetter_1 rfl ?_
  refine pf_puti h ok d_States_holdLetter_2 fw_States_44 (by first | rfl | exact hk | exact hk2 | exact dm12 _ | assumption) rfl (Nat.le_of_ble_eq_true rfl) rfl ?_
  try simp only [SC13, SC12, SC_12, SC_13, SC_6, SC_10, SC_14, SC_15, SC_16, SC_17]
  refine pg_aload_n h d_States_holdLetter_5 rfl ?_
  refine pg_iload_n h d_States_holdLetter_6 rfl ?_
  refine pf_putz _ h ok d_States_holdLetter_7 fw_States_47 (by first | rfl | exact hk | exact hk2 | exact dm12 _ | assumption) rfl (Nat.le_of_ble_eq_true rfl) rfl ?_
  try simp only [SC13, SC12, SC_12, SC_13, SC_6, SC_10, SC_14, SC_15, SC_16, SC_17]
  exact pf_vret h d_States_holdLetter_10 rfl

theorem c_hl0 (w : pf_W) (ok : pf_ok w) (S : pf_S) (g u : Nat → Int32) : pf_C w y_States_holdLetter b_States_holdLetter 3 none 0 0 [.ref (w.2.1 13 0), .int 32, .int 0] (SC S g u) none (SC S (hlG g 32 0) u) := c_States_holdLetter w ok S g u 32 0

set_option maxRecDepth 100000 in
set_option maxHeartbeats 4000000 in
theorem c_States_begin (w : pf_W) (ok : pf_ok w) (S : pf_S) (g u : Nat → Int32)  : pf_C w y_States_begin b_States_begin 1 none 1 22 [.ref (w.2.1 13 0)] (SC S g u) (none) (SC S (bgG g) u) := by
  refine pf_enter (by decide) (Nat.le_of_ble_eq_true rfl) (lv0 := [some (.ref (w.2.1 13 0))]) rfl (fun κ h => ?_)
  refine pg_aload_n h d_States_begin_0 rfl ?_
  refine pg_bipush (v := 7) h d_States_begin_1 (by decide) ?_
  refine pf_puti h ok d_States_begin_3 fw_States_9 (by first | rfl | exact hk | exact hk2 | exact dm12 _ | assumption) rfl (Nat.le_of_ble_eq_true rfl) rfl ?_
  try simp only [SC13, SC12, SC_12, SC_13, SC_6, SC_10, SC_14, SC_15, SC_16, SC_17]
  refine pg_aload_n h d_States_begin_6 rfl ?_
  refine pg_iconst (v := 0) h d_States_begin_7 (by decide) ?_
  refine pf_puti h ok d_States_begin_8 fw_States_15 (by first | rfl | exact hk | exact hk2 | exact dm12 _ | assumption) rfl (Nat.le_of_ble_eq_true rfl) rfl ?_
  try simp only [SC13, SC12, SC_12, SC_13, SC_6, SC_10, SC_14, SC_15, SC_16, SC_17]
  refine pg_aload_n h d_States_begin_11 rfl ?_
  refine pg_iconst (v := 0) h d_States_begin_12 (by decide) ?_
  refine pf_putz 0 h ok d_States_begin_13 fw_States_18 (by first | rfl | exact hk | exact hk2 | exact dm12 _ | assumption) rfl (Nat.le_of_ble_eq_true rfl) rfl ?_
  try simp only [SC13, SC12, SC_12, SC_13, SC_6, SC_10, SC_14, SC_15, SC_16, SC_17]
  refine pg_aload_n h d_States_begin_16 rfl ?_
  refine pg_iconst (v := 0) h d_States_begin_17 (by decide) ?_
  refine pf_putz 0 h ok d_States_begin_18 fw_States_22 (by first | rfl | exact hk | exact hk2 | exact dm12 _ | assumption) rfl (Nat.le_of_ble_eq_true rfl) rfl ?_
  try simp only [SC13, SC12, SC_12, SC_13, SC_6, SC_10, SC_14, SC_15, SC_16, SC_17]
  refine pg_aload_n h d_States_begin_21 rfl ?_
  refine pg_iconst (v := 0) h d_States_begin_22 (by decide) ?_
  refine pf_putz 0 h ok d_States_begin_23 fw_States_25 (by first | rfl | exact hk | exact hk2 | exact dm12 _ | assumption) rfl (Nat.le_of_ble_eq_true rfl) rfl ?_
  try simp only [SC13, SC12, SC_12, SC_13, SC_6, SC_10, SC_14, SC_15, SC_16, SC_17]
  refine pg_aload_n h d_States_begin_26 rfl ?_
  refine pg_iconst (v := 0) h d_States_begin_27 (by decide) ?_
  refine pf_putz 0 h ok d_States_begin_28 fw_States_28 (by first | rfl | exact hk | exact hk2 | exact dm12 _ | assumption) rfl (Nat.le_of_ble_eq_true rfl) rfl ?_
  try simp only [SC13, SC12, SC_12, SC_13, SC_6, SC_10, SC_14, SC_15, SC_16, SC_17]
  refine pg_aload_n h d_States_begin_31 rfl ?_
  refine pg_iconst (v := 0) h d_States_begin_32 (by decide) ?_
  refine pf_putz 0 h ok d_States_begin_33 fw_States_31 (by first | rfl | exact hk | exact hk2 | exact dm12 _ | assumption) rfl (Nat.le_of_ble_eq_true rfl) rfl ?_
  try simp only [SC13, SC12, SC_12, SC_13, SC_6, SC_10, SC_14, SC_15, SC_16, SC_17]
  refine pg_aload_n h d_States_begin_36 rfl ?_
  refine pg_iconst (v := 0) h d_States_begin_37 (by decide) ?_
  refine pf_putz 0 h ok d_States_begin_38 fw_States_34 (by first | rfl | exact hk | exact hk2 | exact dm12 _ | assumption) rfl (Nat.le_of_ble_eq_true rfl) rfl ?_
  try simp only [SC13, SC12, SC_12, SC_13, SC_6, SC_10, SC_14, SC_15, SC_16, SC_17]
  refine pg_aload_n h d_States_begin_41 rfl ?_
  refine pg_iconst (v := 0) h d_States_begin_42 (by decide) ?_
  refine pf_putz 0 h ok d_States_begin_43 fw_States_37 (by first | rfl | exact hk | exact hk2 | exact dm12 _ | assumption) rfl (Nat.le_of_ble_eq_true rfl) rfl ?_
  try simp only [SC13, SC12, SC_12, SC_13, SC_6, SC_10, SC_14, SC_15, SC_16, SC_17]
  refine pg_aload_n h d_States_begin_46 rfl ?_
  refine pg_bipush (v := 32) h d_States_begin_47 (by decide) ?_
  refine pg_iconst (v := 0) h d_States_begin_49 (by decide) ?_
  refine pf_cV0 h ok d_States_begin_50 m_States_holdLetter l_States_40 (c_hl0 w ok S _ u) cn_States (by first | rfl | exact hk | exact hk2 | exact dm12 _ | assumption) rfl rfl rfl (Nat.le_of_ble_eq_true rfl) ⟨(Nat.le_of_ble_eq_true rfl), (Nat.le_of_ble_eq_true rfl)⟩ ⟨Nat.le_refl _, Nat.le_refl _⟩ ?_
  try simp only [SC13, SC12, SC_12, SC_13, SC_6, SC_10, SC_14, SC_15, SC_16, SC_17]
  exact pf_vret h d_States_begin_53 rfl

set_option maxRecDepth 100000 in
set_option maxHeartbeats 4000000 in
theorem c_States_turnMosaic (w : pf_W) (ok : pf_ok w) (S : pf_S) (g u : Nat → Int32) (b : Int32) : pf_C w y_States_turnMosaic b_States_turnMosaic 2 none 1 22 [.ref (w.2.1 13 0), .int (nb b)] (SC S g u) (none) (SC S (tmG g b) u) := by
  refine pf_enter (by decide) (Nat.le_of_ble_eq_true rfl) (lv0 := [some (.ref (w.2.1 13 0)), some (.int (nb b))]) rfl (fun κ h => ?_)
  refine pg_aload_n h d_States_turnMosaic_0 rfl ?_
  refine pf_get h ok d_States_turnMosaic_1 f_States_18 (by first | rfl | exact hk | exact hk2 | exact dm12 _ | assumption) rfl rfl ?_
  try simp only [SC13, SC12, SC_12, SC_13, SC_6, SC_10, SC_14, SC_15, SC_16, SC_17]
  refine pg_iload_n h d_States_turnMosaic_4 rfl ?_
  refine pg_icmp_eq (tgt := 15) h d_States_turnMosaic_5 rfl (fun e5 => ?_) (fun e5 => ?_)
  · skip
    refine pg_aload_n h d_States_turnMosaic_15 rfl ?_
    refine pg_iload_n h d_States_turnMosaic_16 rfl ?_
    refine pf_putz _ h ok d_States_turnMosaic_17 fw_States_18 (by first | rfl | exact hk | exact hk2 | exact dm12 _ | assumption) rfl (Nat.le_of_ble_eq_true rfl) rfl ?_
    try simp only [SC13, SC12, SC_12, SC_13, SC_6, SC_10, SC_14, SC_15, SC_16, SC_17]
    exact pf_vret h d_States_turnMosaic_20 (by simp only [tmG, e5]; simp)
  refine pg_aload_n h d_States_turnMosaic_8 rfl ?_
  refine pg_bipush (v := 32) h d_States_turnMosaic_9 (by decide) ?_
  refine pg_iconst (v := 0) h d_States_turnMosaic_11 (by decide) ?_
  refine pf_cV0 h ok d_States_turnMosaic_12 m_States_holdLetter l_States_40 (c_hl0 w ok S g u) cn_States (by first | rfl | exact hk | exact hk2 | exact dm12 _ | assumption) rfl rfl rfl (Nat.le_of_ble_eq_true rfl) ⟨(Nat.le_of_ble_eq_true rfl), (Nat.le_of_ble_eq_true rfl)⟩ ⟨Nat.le_refl _, Nat.le_refl _⟩ ?_
  try simp only [SC13, SC12, SC_12, SC_13, SC_6, SC_10, SC_14, SC_15, SC_16, SC_17]
  refine pg_aload_n h d_States_turnMosaic_15 rfl ?_
  refine pg_iload_n h d_States_turnMosaic_16 rfl ?_
  refine pf_putz _ h ok d_States_turnMosaic_17 fw_States_18 (by first | rfl | exact hk | exact hk2 | exact dm12 _ | assumption) rfl (Nat.le_of_ble_eq_true rfl) rfl ?_
  try simp only [SC13, SC12, SC_12, SC_13, SC_6, SC_10, SC_14, SC_15, SC_16, SC_17]
  exact pf_vret h d_States_turnMosaic_20 (by simp only [tmG, e5]; simp)

theorem c_tmG0 (w : pf_W) (ok : pf_ok w) (S : pf_S) (g u : Nat → Int32) : pf_C w y_States_turnMosaic b_States_turnMosaic 2 none 1 22 [.ref (w.2.1 13 0), .int 0] (SC S g u) none (SC S (tmG g 0) u) := c_States_turnMosaic w ok S g u 0
theorem c_tmG1 (w : pf_W) (ok : pf_ok w) (S : pf_S) (g u : Nat → Int32) : pf_C w y_States_turnMosaic b_States_turnMosaic 2 none 1 22 [.ref (w.2.1 13 0), .int 1] (SC S g u) none (SC S (tmG g 1) u) := c_States_turnMosaic w ok S g u 1

set_option maxRecDepth 100000 in
set_option maxHeartbeats 4000000 in
theorem c_States_turnDouble (w : pf_W) (ok : pf_ok w) (S : pf_S) (g u : Nat → Int32) (b : Int32) : pf_C w y_States_turnDouble b_States_turnDouble 2 none 1 22 [.ref (w.2.1 13 0), .int (nb b)] (SC S g u) (none) (SC S (tdG g b) u) := by
  refine pf_enter (by decide) (Nat.le_of_ble_eq_true rfl) (lv0 := [some (.ref (w.2.1 13 0)), some (.int (nb b))]) rfl (fun κ h => ?_)
  refine pg_aload_n h d_States_turnDouble_0 rfl ?_
  refine pf_get h ok d_States_turnDouble_1 f_States_31 (by first | rfl | exact hk | exact hk2 | exact dm12 _ | assumption) rfl rfl ?_
  try simp only [SC13, SC12, SC_12, SC_13, SC_6, SC_10, SC_14, SC_15, SC_16, SC_17]
  refine pg_iload_n h d_States_turnDouble_4 rfl ?_
  refine pg_icmp_eq (tgt := 15) h d_States_turnDouble_5 rfl (fun e5 => ?_) (fun e5 => ?_)
  · skip
    refine pg_aload_n h d_States_turnDouble_15 rfl ?_
    refine pg_iload_n h d_States_turnDouble_16 rfl ?_
    refine pf_putz _ h ok d_States_turnDouble_17 fw_States_31 (by first | rfl | exact hk | exact hk2 | exact dm12 _ | assumption) rfl (Nat.le_of_ble_eq_true rfl) rfl ?_
    try simp only [SC13, SC12, SC_12, SC_13, SC_6, SC_10, SC_14, SC_15, SC_16, SC_17]
    exact pf_vret h d_States_turnDouble_20 (by simp only [tdG, e5]; simp)
  refine pg_aload_n h d_States_turnDouble_8 rfl ?_
  refine pg_bipush (v := 32) h d_States_turnDouble_9 (by decide) ?_
  refine pg_iconst (v := 0) h d_States_turnDouble_11 (by decide) ?_
  refine pf_cV0 h ok d_States_turnDouble_12 m_States_holdLetter l_States_40 (c_hl0 w ok S g u) cn_States (by first | rfl | exact hk | exact hk2 | exact dm12 _ | assumption) rfl rfl rfl (Nat.le_of_ble_eq_true rfl) ⟨(Nat.le_of_ble_eq_true rfl), (Nat.le_of_ble_eq_true rfl)⟩ ⟨Nat.le_refl _, Nat.le_refl _⟩ ?_
  try simp only [SC13, SC12, SC_12, SC_13, SC_6, SC_10, SC_14, SC_15, SC_16, SC_17]
  refine pg_aload_n h d_States_turnDouble_15 rfl ?_
  refine pg_iload_n h d_States_turnDouble_16 rfl ?_
  refine pf_putz _ h ok d_States_turnDouble_17 fw_States_31 (by first | rfl | exact hk | exact hk2 | exact dm12 _ | assumption) rfl (Nat.le_of_ble_eq_true rfl) rfl ?_
  try simp only [SC13, SC12, SC_12, SC_13, SC_6, SC_10, SC_14, SC_15, SC_16, SC_17]
  exact pf_vret h d_States_turnDouble_20 (by simp only [tdG, e5]; simp)

theorem c_tdG0 (w : pf_W) (ok : pf_ok w) (S : pf_S) (g u : Nat → Int32) : pf_C w y_States_turnDouble b_States_turnDouble 2 none 1 22 [.ref (w.2.1 13 0), .int 0] (SC S g u) none (SC S (tdG g 0) u) := c_States_turnDouble w ok S g u 0
theorem c_tdG1 (w : pf_W) (ok : pf_ok w) (S : pf_S) (g u : Nat → Int32) : pf_C w y_States_turnDouble b_States_turnDouble 2 none 1 22 [.ref (w.2.1 13 0), .int 1] (SC S g u) none (SC S (tdG g 1) u) := c_States_turnDouble w ok S g u 1

set_option maxRecDepth 100000 in
set_option maxHeartbeats 4000000 in
theorem c_States_takeColour (w : pf_W) (ok : pf_ok w) (S : pf_S) (g u : Nat → Int32) (c b : Int32) : pf_C w y_States_takeColour b_States_takeColour 3 none 2 43 [.ref (w.2.1 13 0), .int c, .int (nb b)] (SC S g u) (none) (SC S (tcG g c b) u) := by
  refine pf_enter (by decide) (Nat.le_of_ble_eq_true rfl) (lv0 := [some (.ref (w.2.1 13 0)), some (.int c), some (.int (nb b))]) rfl (fun κ h => ?_)
  refine pg_aload_n h d_States_takeColour_0 rfl ?_
  refine pg_iload_n h d_States_takeColour_1 rfl ?_
  refine pf_puti h ok d_States_takeColour_2 fw_States_9 (by first | rfl | exact hk | exact hk2 | exact dm12 _ | assumption) rfl (Nat.le_of_ble_eq_true rfl) rfl ?_
  try simp only [SC13, SC12, SC_12, SC_13, SC_6, SC_10, SC_14, SC_15, SC_16, SC_17]
  refine pg_aload_n h d_States_takeColour_5 rfl ?_
  refine pg_iload_n h d_States_takeColour_6 rfl ?_
  refine pf_cV0 h ok d_States_takeColour_7 m_States_turnMosaic l_States_57 (c_States_turnMosaic w ok S _ u b) cn_States (by first | rfl | exact hk | exact hk2 | exact dm12 _ | assumption) rfl rfl rfl (Nat.le_of_ble_eq_true rfl) ⟨(Nat.le_of_ble_eq_true rfl), (Nat.le_of_ble_eq_true rfl)⟩ ⟨Nat.le_refl _, Nat.le_refl _⟩ ?_
  try simp only [SC13, SC12, SC_12, SC_13, SC_6, SC_10, SC_14, SC_15, SC_16, SC_17]
  refine pg_aload_n h d_States_takeColour_10 rfl ?_
  refine pg_iconst (v := 0) h d_States_takeColour_11 (by decide) ?_
  refine pf_putz 0 h ok d_States_takeColour_12 fw_States_25 (by first | rfl | exact hk | exact hk2 | exact dm12 _ | assumption) rfl (Nat.le_of_ble_eq_true rfl) rfl ?_
  try simp only [SC13, SC12, SC_12, SC_13, SC_6, SC_10, SC_14, SC_15, SC_16, SC_17]
  exact pf_vret h d_States_takeColour_15 rfl

theorem c_tcG0 (w : pf_W) (ok : pf_ok w) (S : pf_S) (g u : Nat → Int32) (c : Int32) : pf_C w y_States_takeColour b_States_takeColour 3 none 2 43 [.ref (w.2.1 13 0), .int c, .int 0] (SC S g u) none (SC S (tcG g c 0) u) := c_States_takeColour w ok S g u c 0
theorem c_tcG1 (w : pf_W) (ok : pf_ok w) (S : pf_S) (g u : Nat → Int32) (c : Int32) : pf_C w y_States_takeColour b_States_takeColour 3 none 2 43 [.ref (w.2.1 13 0), .int c, .int 1] (SC S g u) none (SC S (tcG g c 1) u) := c_States_takeColour w ok S g u c 1

set_option maxRecDepth 100000 in
set_option maxHeartbeats 4000000 in
theorem c_States_doAtOnce (w : pf_W) (ok : pf_ok w) (S : pf_S) (g u : Nat → Int32) (m : Int32) : pf_C w y_States_doAtOnce b_States_doAtOnce 2 none 2 43 [.ref (w.2.1 13 0), .int m] (SC S g u) (none) (SC S (onG g m) u) := by
  refine pf_enter (by decide) (Nat.le_of_ble_eq_true rfl) (lv0 := [some (.ref (w.2.1 13 0)), some (.int m)]) rfl (fun κ h => ?_)
  refine pg_iload_n h d_States_doAtOnce_0 rfl ?_
  by_cases c9 : m = 9
  · refine pg_tableIn (off := 103) (tgt := 104) h d_States_doAtOnce_1 (by rw [c9]; decide) (by rw [c9]; decide) (by rw [c9]; rfl) rfl ?_
    refine pg_aload_n h d_States_doAtOnce_104 rfl ?_
    refine pg_iconst (v := 0) h d_States_doAtOnce_105 (by decide) ?_
    refine pf_putz 0 h ok d_States_doAtOnce_106 fw_States_22 (by first | rfl | exact hk | exact hk2 | exact dm12 _ | assumption) rfl (Nat.le_of_ble_eq_true rfl) rfl ?_
    try simp only [SC13, SC12, SC_12, SC_13, SC_6, SC_10, SC_14, SC_15, SC_16, SC_17]
    refine pg_goto (tgt := 171) h d_States_doAtOnce_109 rfl ?_
    exact pf_vret h d_States_doAtOnce_171 (by simp [onG, *])
  by_cases c12 : m = 12
  · refine pg_tableIn (off := 111) (tgt := 112) h d_States_doAtOnce_1 (by rw [c12]; decide) (by rw [c12]; decide) (by rw [c12]; rfl) rfl ?_
    refine pg_aload_n h d_States_doAtOnce_112 rfl ?_
    refine pg_iconst (v := 0) h d_States_doAtOnce_113 (by decide) ?_
    refine pf_cV0 h ok d_States_doAtOnce_114 m_States_turnDouble l_States_50 (c_tdG0 w ok S g u) cn_States (by first | rfl | exact hk | exact hk2 | exact dm12 _ | assumption) rfl rfl rfl (Nat.le_of_ble_eq_true rfl) ⟨(Nat.le_of_ble_eq_true rfl), (Nat.le_of_ble_eq_true rfl)⟩ ⟨Nat.le_refl _, Nat.le_refl _⟩ ?_
    try simp only [SC13, SC12, SC_12, SC_13, SC_6, SC_10, SC_14, SC_15, SC_16, SC_17]
    refine pg_goto (tgt := 171) h d_States_doAtOnce_117 rfl ?_
    exact pf_vret h d_States_doAtOnce_171 (by simp [onG, *])
  by_cases c24 : m = 24
  · refine pg_tableIn (off := 119) (tgt := 120) h d_States_doAtOnce_1 (by rw [c24]; decide) (by rw [c24]; decide) (by rw [c24]; rfl) rfl ?_
    refine pg_aload_n h d_States_doAtOnce_120 rfl ?_
    refine pg_iconst (v := 1) h d_States_doAtOnce_121 (by decide) ?_
    refine pf_putz 1 h ok d_States_doAtOnce_122 fw_States_25 (by first | rfl | exact hk | exact hk2 | exact dm12 _ | assumption) rfl (Nat.le_of_ble_eq_true rfl) rfl ?_
    try simp only [SC13, SC12, SC_12, SC_13, SC_6, SC_10, SC_14, SC_15, SC_16, SC_17]
    refine pg_goto (tgt := 171) h d_States_doAtOnce_125 rfl ?_
    exact pf_vret h d_States_doAtOnce_171 (by simp [onG, *])
  by_cases c25 : m = 25
  · refine pg_tableIn (off := 127) (tgt := 128) h d_States_doAtOnce_1 (by rw [c25]; decide) (by rw [c25]; decide) (by rw [c25]; rfl) rfl ?_
    refine pg_aload_n h d_States_doAtOnce_128 rfl ?_
    refine pg_iconst (v := 0) h d_States_doAtOnce_129 (by decide) ?_
    refine pf_putz 0 h ok d_States_doAtOnce_130 fw_States_34 (by first | rfl | exact hk | exact hk2 | exact dm12 _ | assumption) rfl (Nat.le_of_ble_eq_true rfl) rfl ?_
    try simp only [SC13, SC12, SC_12, SC_13, SC_6, SC_10, SC_14, SC_15, SC_16, SC_17]
    refine pg_goto (tgt := 171) h d_States_doAtOnce_133 rfl ?_
    exact pf_vret h d_States_doAtOnce_171 (by simp [onG, *])
  by_cases c26 : m = 26
  · refine pg_tableIn (off := 135) (tgt := 136) h d_States_doAtOnce_1 (by rw [c26]; decide) (by rw [c26]; decide) (by rw [c26]; rfl) rfl ?_
    refine pg_aload_n h d_States_doAtOnce_136 rfl ?_
    refine pg_iconst (v := 1) h d_States_doAtOnce_137 (by decide) ?_
    refine pf_putz 1 h ok d_States_doAtOnce_138 fw_States_34 (by first | rfl | exact hk | exact hk2 | exact dm12 _ | assumption) rfl (Nat.le_of_ble_eq_true rfl) rfl ?_
    try simp only [SC13, SC12, SC_12, SC_13, SC_6, SC_10, SC_14, SC_15, SC_16, SC_17]
    refine pg_goto (tgt := 171) h d_States_doAtOnce_141 rfl ?_
    exact pf_vret h d_States_doAtOnce_171 (by simp [onG, *])
  by_cases c28 : m = 28
  · refine pg_tableIn (off := 143) (tgt := 144) h d_States_doAtOnce_1 (by rw [c28]; decide) (by rw [c28]; decide) (by rw [c28]; rfl) rfl ?_
    refine pg_aload_n h d_States_doAtOnce_144 rfl ?_
    refine pg_iconst (v := 0) h d_States_doAtOnce_145 (by decide) ?_
    refine pf_puti h ok d_States_doAtOnce_146 fw_States_15 (by first | rfl | exact hk | exact hk2 | exact dm12 _ | assumption) rfl (Nat.le_of_ble_eq_true rfl) rfl ?_
    try simp only [SC13, SC12, SC_12, SC_13, SC_6, SC_10, SC_14, SC_15, SC_16, SC_17]
    refine pg_goto (tgt := 171) h d_States_doAtOnce_149 rfl ?_
    exact pf_vret h d_States_doAtOnce_171 (by simp [onG, *])
  by_cases c29 : m = 29
  · refine pg_tableIn (off := 151) (tgt := 152) h d_States_doAtOnce_1 (by rw [c29]; decide) (by rw [c29]; decide) (by rw [c29]; rfl) rfl ?_
    refine pg_aload_n h d_States_doAtOnce_152 rfl ?_
    refine pg_aload_n h d_States_doAtOnce_153 rfl ?_
    refine pf_get h ok d_States_doAtOnce_154 f_States_9 (by first | rfl | exact hk | exact hk2 | exact dm12 _ | assumption) rfl rfl ?_
    try simp only [SC13, SC12, SC_12, SC_13, SC_6, SC_10, SC_14, SC_15, SC_16, SC_17]
    refine pf_puti h ok d_States_doAtOnce_157 fw_States_15 (by first | rfl | exact hk | exact hk2 | exact dm12 _ | assumption) rfl (Nat.le_of_ble_eq_true rfl) rfl ?_
    try simp only [SC13, SC12, SC_12, SC_13, SC_6, SC_10, SC_14, SC_15, SC_16, SC_17]
    refine pg_goto (tgt := 171) h d_States_doAtOnce_160 rfl ?_
    exact pf_vret h d_States_doAtOnce_171 (by simp [onG, *])
  by_cases c30 : m = 30
  · refine pg_tableIn (off := 162) (tgt := 163) h d_States_doAtOnce_1 (by rw [c30]; decide) (by rw [c30]; decide) (by rw [c30]; rfl) rfl ?_
    refine pg_aload_n h d_States_doAtOnce_163 rfl ?_
    refine pg_iconst (v := 1) h d_States_doAtOnce_164 (by decide) ?_
    refine pf_putz 1 h ok d_States_doAtOnce_165 fw_States_37 (by first | rfl | exact hk | exact hk2 | exact dm12 _ | assumption) rfl (Nat.le_of_ble_eq_true rfl) rfl ?_
    try simp only [SC13, SC12, SC_12, SC_13, SC_6, SC_10, SC_14, SC_15, SC_16, SC_17]
    refine pg_goto (tgt := 171) h d_States_doAtOnce_168 rfl ?_
    exact pf_vret h d_States_doAtOnce_171 (by simp [onG, *])
  have hr : SC S (onG g m) u = SC S g u := by simp [onG, *]
  by_cases hlo : m.toInt < 9
  · refine pg_tableOut (tgt := 171) h d_States_doAtOnce_1 (Or.inl hlo) rfl ?_
    exact pf_vret h d_States_doAtOnce_171 hr
  by_cases hhi : 30 < m.toInt
  · refine pg_tableOut (tgt := 171) h d_States_doAtOnce_1 (Or.inr hhi) rfl ?_
    exact pf_vret h d_States_doAtOnce_171 hr
  have hj : ∃ j : Nat, m = nI j ∧ 9 ≤ j ∧ j ≤ 30 := by
    obtain ⟨j, hj, rfl⟩ := nI_of (x := m) (fun q => by
      have := Int32.lt_iff_toInt_lt.mp q
      simp at this
      omega)
    rw [nI_toInt hj] at hlo hhi
    exact ⟨j, rfl, by omega, by omega⟩
  obtain ⟨j, rfl, h9, h30⟩ := hj
  rcases (show j = 9 ∨ j = 10 ∨ j = 11 ∨ j = 12 ∨ j = 13 ∨ j = 14 ∨ j = 15 ∨ j = 16 ∨ j = 17 ∨ j = 18 ∨ j = 19 ∨ j = 20 ∨ j = 21 ∨ j = 22 ∨ j = 23 ∨ j = 24 ∨ j = 25 ∨ j = 26 ∨ j = 27 ∨ j = 28 ∨ j = 29 ∨ j = 30 by omega) with rfl | rfl | rfl | rfl | rfl | rfl | rfl | rfl | rfl | rfl | rfl | rfl | rfl | rfl | rfl | rfl | rfl | rfl | rfl | rfl | rfl | rfl
  · exact absurd rfl c9
  · refine pg_tableIn (off := 170) (tgt := 171) h d_States_doAtOnce_1 (by decide) (by decide) rfl rfl ?_
    exact pf_vret h d_States_doAtOnce_171 hr
  · refine pg_tableIn (off := 170) (tgt := 171) h d_States_doAtOnce_1 (by decide) (by decide) rfl rfl ?_
    exact pf_vret h d_States_doAtOnce_171 hr
  · exact absurd rfl c12
  · refine pg_tableIn (off := 170) (tgt := 171) h d_States_doAtOnce_1 (by decide) (by decide) rfl rfl ?_
    exact pf_vret h d_States_doAtOnce_171 hr
  · refine pg_tableIn (off := 170) (tgt := 171) h d_States_doAtOnce_1 (by decide) (by decide) rfl rfl ?_
    exact pf_vret h d_States_doAtOnce_171 hr
  · refine pg_tableIn (off := 170) (tgt := 171) h d_States_doAtOnce_1 (by decide) (by decide) rfl rfl ?_
    exact pf_vret h d_States_doAtOnce_171 hr
  · refine pg_tableIn (off := 170) (tgt := 171) h d_States_doAtOnce_1 (by decide) (by decide) rfl rfl ?_
    exact pf_vret h d_States_doAtOnce_171 hr
  · refine pg_tableIn (off := 170) (tgt := 171) h d_States_doAtOnce_1 (by decide) (by decide) rfl rfl ?_
    exact pf_vret h d_States_doAtOnce_171 hr
  · refine pg_tableIn (off := 170) (tgt := 171) h d_States_doAtOnce_1 (by decide) (by decide) rfl rfl ?_
    exact pf_vret h d_States_doAtOnce_171 hr
  · refine pg_tableIn (off := 170) (tgt := 171) h d_States_doAtOnce_1 (by decide) (by decide) rfl rfl ?_
    exact pf_vret h d_States_doAtOnce_171 hr
  · refine pg_tableIn (off := 170) (tgt := 171) h d_States_doAtOnce_1 (by decide) (by decide) rfl rfl ?_
    exact pf_vret h d_States_doAtOnce_171 hr
  · refine pg_tableIn (off := 170) (tgt := 171) h d_States_doAtOnce_1 (by decide) (by decide) rfl rfl ?_
    exact pf_vret h d_States_doAtOnce_171 hr
  · refine pg_tableIn (off := 170) (tgt := 171) h d_States_doAtOnce_1 (by decide) (by decide) rfl rfl ?_
    exact pf_vret h d_States_doAtOnce_171 hr
  · refine pg_tableIn (off := 170) (tgt := 171) h d_States_doAtOnce_1 (by decide) (by decide) rfl rfl ?_
    exact pf_vret h d_States_doAtOnce_171 hr
  · exact absurd rfl c24
  · exact absurd rfl c25
  · exact absurd rfl c26
  · refine pg_tableIn (off := 170) (tgt := 171) h d_States_doAtOnce_1 (by decide) (by decide) rfl rfl ?_
    exact pf_vret h d_States_doAtOnce_171 hr
  · exact absurd rfl c28
  · exact absurd rfl c29
  · exact absurd rfl c30

set_option maxRecDepth 100000 in
set_option maxHeartbeats 4000000 in
theorem c_States_doAfter (w : pf_W) (ok : pf_ok w) (S : pf_S) (g u : Nat → Int32) (m : Int32) : pf_C w y_States_doAfter b_States_doAfter 2 none 3 65 [.ref (w.2.1 13 0), .int m] (SC S g u) (none) (SC S (afG g m) u) := by
  refine pf_enter (by decide) (Nat.le_of_ble_eq_true rfl) (lv0 := [some (.ref (w.2.1 13 0)), some (.int m)]) rfl (fun κ h => ?_)
  refine pg_iload_n h d_States_doAfter_0 rfl ?_
  refine pg_bipush (v := 7) h d_States_doAfter_1 (by decide) ?_
  refine pg_icmp_gt (tgt := 15) h d_States_doAfter_3 rfl (fun e3 => ?_) (fun e3 => ?_)
  · skip
    refine pg_iload_n h d_States_doAfter_15 rfl ?_
    refine pg_bipush (v := 16) h d_States_doAfter_16 (by decide) ?_
    refine pg_icmp_lt (tgt := 39) h d_States_doAfter_18 rfl (fun e18 => ?_) (fun e18 => ?_)
    · skip
      refine pg_iload_n h d_States_doAfter_39 rfl ?_
      refine pg_bipush (v := 8) h d_States_doAfter_40 (by decide) ?_
      refine pg_icmp_ne (tgt := 53) h d_States_doAfter_42 rfl (fun e42 => ?_) (fun e42 => ?_)
      · skip
        refine pg_iload_n h d_States_doAfter_53 rfl ?_
        refine pg_bipush (v := 10) h d_States_doAfter_54 (by decide) ?_
        refine pg_icmp_ne (tgt := 67) h d_States_doAfter_56 rfl (fun e56 => ?_) (fun e56 => ?_)
        · skip
          refine pg_iload_n h d_States_doAfter_67 rfl ?_
          refine pg_bipush (v := 11) h d_States_doAfter_68 (by decide) ?_
          refine pg_icmp_ne (tgt := 81) h d_States_doAfter_70 rfl (fun e70 => ?_) (fun e70 => ?_)
          · skip
            refine pg_iload_n h d_States_doAfter_81 rfl ?_
            refine pg_bipush (v := 13) h d_States_doAfter_82 (by decide) ?_
            refine pg_icmp_ne (tgt := 95) h d_States_doAfter_84 rfl (fun e84 => ?_) (fun e84 => ?_)
            · skip
              refine pg_iload_n h d_States_doAfter_95 rfl ?_
              refine pg_bipush (v := 31) h d_States_doAfter_96 (by decide) ?_
              refine pg_icmp_ne (tgt := 106) h d_States_doAfter_98 rfl (fun e98 => ?_) (fun e98 => ?_)
              · skip
                exact pf_vret h d_States_doAfter_106 (by simp [afG, *])
              refine pg_aload_n h d_States_doAfter_101 rfl ?_
              refine pg_iconst (v := 0) h d_States_doAfter_102 (by decide) ?_
              refine pf_putz 0 h ok d_States_doAfter_103 fw_States_37 (by first | rfl | exact hk | exact hk2 | exact dm12 _ | assumption) rfl (Nat.le_of_ble_eq_true rfl) rfl ?_
              try simp only [SC13, SC12, SC_12, SC_13, SC_6, SC_10, SC_14, SC_15, SC_16, SC_17]
              exact pf_vret h d_States_doAfter_106 (by simp [afG, *])
            refine pg_aload_n h d_States_doAfter_87 rfl ?_
            refine pg_iconst (v := 1) h d_States_doAfter_88 (by decide) ?_
            refine pf_cV0 h ok d_States_doAfter_89 m_States_turnDouble l_States_50 (c_tdG1 w ok S g u) cn_States (by first | rfl | exact hk | exact hk2 | exact dm12 _ | assumption) rfl rfl rfl (Nat.le_of_ble_eq_true rfl) ⟨(Nat.le_of_ble_eq_true rfl), (Nat.le_of_ble_eq_true rfl)⟩ ⟨Nat.le_refl _, Nat.le_refl _⟩ ?_
            try simp only [SC13, SC12, SC_12, SC_13, SC_6, SC_10, SC_14, SC_15, SC_16, SC_17]
            refine pg_goto (tgt := 106) h d_States_doAfter_92 rfl ?_
            exact pf_vret h d_States_doAfter_106 (by simp [afG, *])
          refine pg_aload_n h d_States_doAfter_73 rfl ?_
          refine pg_iconst (v := 1) h d_States_doAfter_74 (by decide) ?_
          refine pf_putz 1 h ok d_States_doAfter_75 fw_States_28 (by first | rfl | exact hk | exact hk2 | exact dm12 _ | assumption) rfl (Nat.le_of_ble_eq_true rfl) rfl ?_
          try simp only [SC13, SC12, SC_12, SC_13, SC_6, SC_10, SC_14, SC_15, SC_16, SC_17]
          refine pg_goto (tgt := 106) h d_States_doAfter_78 rfl ?_
          exact pf_vret h d_States_doAfter_106 (by simp [afG, *])
        refine pg_aload_n h d_States_doAfter_59 rfl ?_
        refine pg_iconst (v := 0) h d_States_doAfter_60 (by decide) ?_
        refine pf_putz 0 h ok d_States_doAfter_61 fw_States_28 (by first | rfl | exact hk | exact hk2 | exact dm12 _ | assumption) rfl (Nat.le_of_ble_eq_true rfl) rfl ?_
        try simp only [SC13, SC12, SC_12, SC_13, SC_6, SC_10, SC_14, SC_15, SC_16, SC_17]
        refine pg_goto (tgt := 106) h d_States_doAfter_64 rfl ?_
        exact pf_vret h d_States_doAfter_106 (by simp [afG, *])
      refine pg_aload_n h d_States_doAfter_45 rfl ?_
      refine pg_iconst (v := 1) h d_States_doAfter_46 (by decide) ?_
      refine pf_putz 1 h ok d_States_doAfter_47 fw_States_22 (by first | rfl | exact hk | exact hk2 | exact dm12 _ | assumption) rfl (Nat.le_of_ble_eq_true rfl) rfl ?_
      try simp only [SC13, SC12, SC_12, SC_13, SC_6, SC_10, SC_14, SC_15, SC_16, SC_17]
      refine pg_goto (tgt := 106) h d_States_doAfter_50 rfl ?_
      exact pf_vret h d_States_doAfter_106 (by simp [afG, *])
    refine pg_iload_n h d_States_doAfter_21 rfl ?_
    refine pg_bipush (v := 23) h d_States_doAfter_22 (by decide) ?_
    refine pg_icmp_gt (tgt := 39) h d_States_doAfter_24 rfl (fun e24 => ?_) (fun e24 => ?_)
    · skip
      refine pg_iload_n h d_States_doAfter_39 rfl ?_
      refine pg_bipush (v := 8) h d_States_doAfter_40 (by decide) ?_
      refine pg_icmp_ne (tgt := 53) h d_States_doAfter_42 rfl (fun e42 => ?_) (fun e42 => ?_)
      · skip
        refine pg_iload_n h d_States_doAfter_53 rfl ?_
        refine pg_bipush (v := 10) h d_States_doAfter_54 (by decide) ?_
        refine pg_icmp_ne (tgt := 67) h d_States_doAfter_56 rfl (fun e56 => ?_) (fun e56 => ?_)
        · skip
          refine pg_iload_n h d_States_doAfter_67 rfl ?_
          refine pg_bipush (v := 11) h d_States_doAfter_68 (by decide) ?_
          refine pg_icmp_ne (tgt := 81) h d_States_doAfter_70 rfl (fun e70 => ?_) (fun e70 => ?_)
          · skip
            refine pg_iload_n h d_States_doAfter_81 rfl ?_
            refine pg_bipush (v := 13) h d_States_doAfter_82 (by decide) ?_
            refine pg_icmp_ne (tgt := 95) h d_States_doAfter_84 rfl (fun e84 => ?_) (fun e84 => ?_)
            · skip
              refine pg_iload_n h d_States_doAfter_95 rfl ?_
              refine pg_bipush (v := 31) h d_States_doAfter_96 (by decide) ?_
              refine pg_icmp_ne (tgt := 106) h d_States_doAfter_98 rfl (fun e98 => ?_) (fun e98 => ?_)
              · skip
                exact pf_vret h d_States_doAfter_106 (by simp [afG, *])
              refine pg_aload_n h d_States_doAfter_101 rfl ?_
              refine pg_iconst (v := 0) h d_States_doAfter_102 (by decide) ?_
              refine pf_putz 0 h ok d_States_doAfter_103 fw_States_37 (by first | rfl | exact hk | exact hk2 | exact dm12 _ | assumption) rfl (Nat.le_of_ble_eq_true rfl) rfl ?_
              try simp only [SC13, SC12, SC_12, SC_13, SC_6, SC_10, SC_14, SC_15, SC_16, SC_17]
              exact pf_vret h d_States_doAfter_106 (by simp [afG, *])
            refine pg_aload_n h d_States_doAfter_87 rfl ?_
            refine pg_iconst (v := 1) h d_States_doAfter_88 (by decide) ?_
            refine pf_cV0 h ok d_States_doAfter_89 m_States_turnDouble l_States_50 (c_tdG1 w ok S g u) cn_States (by first | rfl | exact hk | exact hk2 | exact dm12 _ | assumption) rfl rfl rfl (Nat.le_of_ble_eq_true rfl) ⟨(Nat.le_of_ble_eq_true rfl), (Nat.le_of_ble_eq_true rfl)⟩ ⟨Nat.le_refl _, Nat.le_refl _⟩ ?_
            try simp only [SC13, SC12, SC_12, SC_13, SC_6, SC_10, SC_14, SC_15, SC_16, SC_17]
            refine pg_goto (tgt := 106) h d_States_doAfter_92 rfl ?_
            exact pf_vret h d_States_doAfter_106 (by simp [afG, *])
          refine pg_aload_n h d_States_doAfter_73 rfl ?_
          refine pg_iconst (v := 1) h d_States_doAfter_74 (by decide) ?_
          refine pf_putz 1 h ok d_States_doAfter_75 fw_States_28 (by first | rfl | exact hk | exact hk2 | exact dm12 _ | assumption) rfl (Nat.le_of_ble_eq_true rfl) rfl ?_
          try simp only [SC13, SC12, SC_12, SC_13, SC_6, SC_10, SC_14, SC_15, SC_16, SC_17]
          refine pg_goto (tgt := 106) h d_States_doAfter_78 rfl ?_
          exact pf_vret h d_States_doAfter_106 (by simp [afG, *])
        refine pg_aload_n h d_States_doAfter_59 rfl ?_
        refine pg_iconst (v := 0) h d_States_doAfter_60 (by decide) ?_
        refine pf_putz 0 h ok d_States_doAfter_61 fw_States_28 (by first | rfl | exact hk | exact hk2 | exact dm12 _ | assumption) rfl (Nat.le_of_ble_eq_true rfl) rfl ?_
        try simp only [SC13, SC12, SC_12, SC_13, SC_6, SC_10, SC_14, SC_15, SC_16, SC_17]
        refine pg_goto (tgt := 106) h d_States_doAfter_64 rfl ?_
        exact pf_vret h d_States_doAfter_106 (by simp [afG, *])
      refine pg_aload_n h d_States_doAfter_45 rfl ?_
      refine pg_iconst (v := 1) h d_States_doAfter_46 (by decide) ?_
      refine pf_putz 1 h ok d_States_doAfter_47 fw_States_22 (by first | rfl | exact hk | exact hk2 | exact dm12 _ | assumption) rfl (Nat.le_of_ble_eq_true rfl) rfl ?_
      try simp only [SC13, SC12, SC_12, SC_13, SC_6, SC_10, SC_14, SC_15, SC_16, SC_17]
      refine pg_goto (tgt := 106) h d_States_doAfter_50 rfl ?_
      exact pf_vret h d_States_doAfter_106 (by simp [afG, *])
    refine pg_aload_n h d_States_doAfter_27 rfl ?_
    refine pg_iload_n h d_States_doAfter_28 rfl ?_
    refine pg_bipush (v := 16) h d_States_doAfter_29 (by decide) ?_
    refine pg_isub h d_States_doAfter_31 ?_
    refine pg_iconst (v := 1) h d_States_doAfter_32 (by decide) ?_
    refine pf_cV0 h ok d_States_doAfter_33 m_States_takeColour l_States_54 (c_tcG1 w ok S g u _) cn_States (by first | rfl | exact hk | exact hk2 | exact dm12 _ | assumption) rfl rfl rfl (Nat.le_of_ble_eq_true rfl) ⟨(Nat.le_of_ble_eq_true rfl), (Nat.le_of_ble_eq_true rfl)⟩ ⟨Nat.le_refl _, Nat.le_refl _⟩ ?_
    try simp only [SC13, SC12, SC_12, SC_13, SC_6, SC_10, SC_14, SC_15, SC_16, SC_17]
    refine pg_goto (tgt := 106) h d_States_doAfter_36 rfl ?_
    exact pf_vret h d_States_doAfter_106 (by simp [afG, *])
  refine pg_aload_n h d_States_doAfter_6 rfl ?_
  refine pg_iload_n h d_States_doAfter_7 rfl ?_
  refine pg_iconst (v := 0) h d_States_doAfter_8 (by decide) ?_
  refine pf_cV0 h ok d_States_doAfter_9 m_States_takeColour l_States_54 (c_tcG0 w ok S g u m) cn_States (by first | rfl | exact hk | exact hk2 | exact dm12 _ | assumption) rfl rfl rfl (Nat.le_of_ble_eq_true rfl) ⟨(Nat.le_of_ble_eq_true rfl), (Nat.le_of_ble_eq_true rfl)⟩ ⟨Nat.le_refl _, Nat.le_refl _⟩ ?_
  try simp only [SC13, SC12, SC_12, SC_13, SC_6, SC_10, SC_14, SC_15, SC_16, SC_17]
  refine pg_goto (tgt := 106) h d_States_doAfter_12 rfl ?_
  exact pf_vret h d_States_doAfter_106 (by simp [afG, *])

set_option maxRecDepth 100000 in
set_option maxHeartbeats 4000000 in
theorem c_States_sum (w : pf_W) (ok : pf_ok w) (S : pf_S) (g u : Nat → Int32)  : pf_C w y_States_sum b_States_sum 1 (some .int) 0 0 [.ref (w.2.1 13 0)] (SC S g u) (some (.int (smG g))) (SC S g u) := by
  refine pf_enter (by decide) (Nat.le_of_ble_eq_true rfl) (lv0 := [some (.ref (w.2.1 13 0))]) rfl (fun κ h => ?_)
  refine pg_aload_n h d_States_sum_0 rfl ?_
  refine pf_get h ok d_States_sum_1 f_States_22 (by first | rfl | exact hk | exact hk2 | exact dm12 _ | assumption) rfl rfl ?_
  try simp only [SC13, SC12, SC_12, SC_13, SC_6, SC_10, SC_14, SC_15, SC_16, SC_17]
  refine pg_if_eq (tgt := 12) h d_States_sum_4 rfl (fun e4 => ?_) (fun e4 => ?_)
  · skip
    refine pg_iconst (v := 0) h d_States_sum_12 (by decide) ?_
    refine pg_aload_n h d_States_sum_13 rfl ?_
    refine pf_get h ok d_States_sum_14 f_States_25 (by first | rfl | exact hk | exact hk2 | exact dm12 _ | assumption) rfl rfl ?_
    try simp only [SC13, SC12, SC_12, SC_13, SC_6, SC_10, SC_14, SC_15, SC_16, SC_17]
    refine pg_if_eq (tgt := 25) h d_States_sum_17 rfl (fun e17 => ?_) (fun e17 => ?_)
    · skip
      refine pg_iconst (v := 0) h d_States_sum_25 (by decide) ?_
      refine pg_iadd h d_States_sum_26 ?_
      refine pg_aload_n h d_States_sum_27 rfl ?_
      refine pf_get h ok d_States_sum_28 f_States_28 (by first | rfl | exact hk | exact hk2 | exact dm12 _ | assumption) rfl rfl ?_
      try simp only [SC13, SC12, SC_12, SC_13, SC_6, SC_10, SC_14, SC_15, SC_16, SC_17]
      refine pg_if_eq (tgt := 39) h d_States_sum_31 rfl (fun e31 => ?_) (fun e31 => ?_)
      · skip
        refine pg_iconst (v := 0) h d_States_sum_39 (by decide) ?_
        refine pg_iadd h d_States_sum_40 ?_
        exact pf_iret h d_States_sum_41 rfl (by simp [smG, *]) rfl
      refine pg_bipush (v := 64) h d_States_sum_34 (by decide) ?_
      refine pg_goto (tgt := 40) h d_States_sum_36 rfl ?_
      refine pg_iadd h d_States_sum_40 ?_
      exact pf_iret h d_States_sum_41 rfl (by simp [smG, *]) rfl
    refine pg_bipush (v := 32) h d_States_sum_20 (by decide) ?_
    refine pg_goto (tgt := 26) h d_States_sum_22 rfl ?_
    refine pg_iadd h d_States_sum_26 ?_
    refine pg_aload_n h d_States_sum_27 rfl ?_
    refine pf_get h ok d_States_sum_28 f_States_28 (by first | rfl | exact hk | exact hk2 | exact dm12 _ | assumption) rfl rfl ?_
    try simp only [SC13, SC12, SC_12, SC_13, SC_6, SC_10, SC_14, SC_15, SC_16, SC_17]
    refine pg_if_eq (tgt := 39) h d_States_sum_31 rfl (fun e31 => ?_) (fun e31 => ?_)
    · skip
      refine pg_iconst (v := 0) h d_States_sum_39 (by decide) ?_
      refine pg_iadd h d_States_sum_40 ?_
      exact pf_iret h d_States_sum_41 rfl (by simp [smG, *]) rfl
    refine pg_bipush (v := 64) h d_States_sum_34 (by decide) ?_
    refine pg_goto (tgt := 40) h d_States_sum_36 rfl ?_
    refine pg_iadd h d_States_sum_40 ?_
    exact pf_iret h d_States_sum_41 rfl (by simp [smG, *]) rfl
  refine pg_bipush (v := 16) h d_States_sum_7 (by decide) ?_
  refine pg_goto (tgt := 13) h d_States_sum_9 rfl ?_
  refine pg_aload_n h d_States_sum_13 rfl ?_
  refine pf_get h ok d_States_sum_14 f_States_25 (by first | rfl | exact hk | exact hk2 | exact dm12 _ | assumption) rfl rfl ?_
  try simp only [SC13, SC12, SC_12, SC_13, SC_6, SC_10, SC_14, SC_15, SC_16, SC_17]
  refine pg_if_eq (tgt := 25) h d_States_sum_17 rfl (fun e17 => ?_) (fun e17 => ?_)
  · skip
    refine pg_iconst (v := 0) h d_States_sum_25 (by decide) ?_
    refine pg_iadd h d_States_sum_26 ?_
    refine pg_aload_n h d_States_sum_27 rfl ?_
    refine pf_get h ok d_States_sum_28 f_States_28 (by first | rfl | exact hk | exact hk2 | exact dm12 _ | assumption) rfl rfl ?_
    try simp only [SC13, SC12, SC_12, SC_13, SC_6, SC_10, SC_14, SC_15, SC_16, SC_17]
    refine pg_if_eq (tgt := 39) h d_States_sum_31 rfl (fun e31 => ?_) (fun e31 => ?_)
    · skip
      refine pg_iconst (v := 0) h d_States_sum_39 (by decide) ?_
      refine pg_iadd h d_States_sum_40 ?_
      exact pf_iret h d_States_sum_41 rfl (by simp [smG, *]) rfl
    refine pg_bipush (v := 64) h d_States_sum_34 (by decide) ?_
    refine pg_goto (tgt := 40) h d_States_sum_36 rfl ?_
    refine pg_iadd h d_States_sum_40 ?_
    exact pf_iret h d_States_sum_41 rfl (by simp [smG, *]) rfl
  refine pg_bipush (v := 32) h d_States_sum_20 (by decide) ?_
  refine pg_goto (tgt := 26) h d_States_sum_22 rfl ?_
  refine pg_iadd h d_States_sum_26 ?_
  refine pg_aload_n h d_States_sum_27 rfl ?_
  refine pf_get h ok d_States_sum_28 f_States_28 (by first | rfl | exact hk | exact hk2 | exact dm12 _ | assumption) rfl rfl ?_
  try simp only [SC13, SC12, SC_12, SC_13, SC_6, SC_10, SC_14, SC_15, SC_16, SC_17]
  refine pg_if_eq (tgt := 39) h d_States_sum_31 rfl (fun e31 => ?_) (fun e31 => ?_)
  · skip
    refine pg_iconst (v := 0) h d_States_sum_39 (by decide) ?_
    refine pg_iadd h d_States_sum_40 ?_
    exact pf_iret h d_States_sum_41 rfl (by simp [smG, *]) rfl
  refine pg_bipush (v := 64) h d_States_sum_34 (by decide) ?_
  refine pg_goto (tgt := 40) h d_States_sum_36 rfl ?_
  refine pg_iadd h d_States_sum_40 ?_
  exact pf_iret h d_States_sum_41 rfl (by simp [smG, *]) rfl
