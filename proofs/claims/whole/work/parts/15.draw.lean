/-! Screen: drawing; look and point. -/
def ownFrom (HD : Nat → Int32) : Nat → Nat → Int32 → Int32
  | 0, _, own => own
  | n + 1, b, own => ownFrom HD n (b + 1) (if own = 0 then 1 else if HD (b - 1) = 0 then 1 else 0)
/-- Screen.isOwn -/
def ownF (S : pf_S) (o : Option Nat) (r : Nat) : Int32 := ownFrom (fun q => hdb S o q) (r + 1 - 2) 2 1
theorem hdb_nar (S : pf_S) (o : Option Nat) (r : Nat) : hdb S o r = 0 ∨ hdb S o r = 1 := hdbFrom_01

set_option maxRecDepth 100000 in
set_option maxHeartbeats 4000000 in
theorem c_Screen_isOwn (w : pf_W) (ok : pf_ok w) (S : pf_S) (g u : Nat → Int32) (o : Option Nat) (ho : ∀ k, o = some k → pf_dm w.2.2.1 14 k = true) (r : Nat) (hr : r < 8) : pf_C w y_Screen_isOwn b_Screen_isOwn 5 (some .boolean) 4 91 [.ref (w.2.1 12 0), pgV w o, .int (nI r)] (SC S g u) (some (.int (ownF S o r))) (SC S g u) := by
  refine pf_enter (by decide) (by cases o <;> exact Nat.le_of_ble_eq_true rfl) (lv0 := [some (.ref (w.2.1 12 0)), some (pgV w o), some (.int (nI r)), none, none]) (by cases o <;> rfl) (fun κ h => ?_)
  have loop : ∀ (n b : Nat) (own : Int32), n = r + 1 - b → 2 ≤ b → b ≤ 9 → (own = 0 ∨ own = 1) → ownFrom (fun q => hdb S o q) n b own = ownF S o r → pg_G κ w.1 5 0 0 (pg_Q κ w.1 (fun r' H => r' = (some (.int (ownF S o r))) ∧ pf_P w (SC S g u) H) 0 0) (pf_P w (SC S g u)) 5 [some (.ref (w.2.1 12 0)), some (pgV w o), some (.int (nI r)), some (.int own), some (.int (nI b))] [] := by
    intro n
    induction n with
    | zero =>
      intro b own hn hb hb9 h01 hI
      refine pg_iload h d_Screen_isOwn_5 rfl ?_
      refine pg_iload_n h d_Screen_isOwn_7 rfl ?_
      refine pg_icmp_gt (tgt := 39) h d_Screen_isOwn_8 rfl (fun e8 => ?_) (fun e8 => absurd e8 (fun e => e (nI_lt (by omega) (by omega))))
      refine pg_iload_n h d_Screen_isOwn_39 rfl ?_
      exact pf_iret h d_Screen_isOwn_40 (by rcases h01 with q | q <;> rw [q] <;> rfl) (by rw [← hI]; rfl) rfl--end
    | succ n ih =>
      intro b own hn hb hb9 h01 hI
      refine pg_iload h d_Screen_isOwn_5 rfl ?_
      refine pg_iload_n h d_Screen_isOwn_7 rfl ?_
      refine pg_icmp_gt (tgt := 39) h d_Screen_isOwn_8 rfl (fun e8 => absurd e8 (nI_nlt (by omega) (by omega))) (fun e8 => ?_)
      refine pg_iload_n h d_Screen_isOwn_11 rfl ?_
      refine pg_if_eq (tgt := 27) h d_Screen_isOwn_12 rfl (fun e12 => ?_) (fun e12 => ?_)
      · skip
        refine pg_iconst (v := 1) h d_Screen_isOwn_27 (by decide) ?_
        refine pg_goto (tgt := 32) h d_Screen_isOwn_28 rfl ?_
        refine pg_istore_n h d_Screen_isOwn_32 (Nat.le_of_ble_eq_true rfl) rfl rfl ?_
        refine pg_iinc (w := 1) h d_Screen_isOwn_33 rfl (by decide) (Nat.le_of_ble_eq_true rfl) rfl rfl ?_
        refine pg_goto (tgt := 5) h d_Screen_isOwn_36 rfl ?_
        rw [← nI_succ b]
        exact ih (b + 1) _ (by omega) (by omega) (by omega) (by first | exact Or.inl rfl | exact Or.inr rfl) (by rw [ownFrom] at hI; simp only [*] at hI; simpa using hI)
      refine pg_aload_n h d_Screen_isOwn_15 rfl ?_
      refine pg_aloadP h d_Screen_isOwn_16 rfl ?_
      refine pg_iload h d_Screen_isOwn_17 rfl ?_
      refine pg_iconst (v := 1) h d_Screen_isOwn_19 (by decide) ?_
      refine pg_isub h d_Screen_isOwn_20 ?_
      rw [show nI b - 1 = nI (b - 1) from pk_sub (a := b) (b := 1) (by omega)]
      refine pf_cV h ok d_Screen_isOwn_21 m_Screen_hasDouble l_Screen_50 (c_Screen_hasDouble w ok S g u o ho (b - 1) (by omega)) cn_Screen (by first | rfl | exact hk | exact hk2 | exact dm12 _ | assumption) rfl rfl rfl (Nat.le_of_ble_eq_true rfl) ⟨(Nat.le_of_ble_eq_true rfl), (Nat.le_of_ble_eq_true rfl)⟩ ⟨Nat.le_refl _, Nat.le_refl _⟩ ?_
      refine pg_if_ne (tgt := 31) h d_Screen_isOwn_24 rfl (fun e24 => ?_) (fun e24 => ?_)
      · skip
        refine pg_iconst (v := 0) h d_Screen_isOwn_31 (by decide) ?_
        refine pg_istore_n h d_Screen_isOwn_32 (Nat.le_of_ble_eq_true rfl) rfl rfl ?_
        refine pg_iinc (w := 1) h d_Screen_isOwn_33 rfl (by decide) (Nat.le_of_ble_eq_true rfl) rfl rfl ?_
        refine pg_goto (tgt := 5) h d_Screen_isOwn_36 rfl ?_
        rw [← nI_succ b]
        exact ih (b + 1) _ (by omega) (by omega) (by omega) (by first | exact Or.inl rfl | exact Or.inr rfl) (by rw [ownFrom] at hI; simp only [*] at hI; simpa using hI)
      refine pg_iconst (v := 1) h d_Screen_isOwn_27 (by decide) ?_
      refine pg_goto (tgt := 32) h d_Screen_isOwn_28 rfl ?_
      refine pg_istore_n h d_Screen_isOwn_32 (Nat.le_of_ble_eq_true rfl) rfl rfl ?_
      refine pg_iinc (w := 1) h d_Screen_isOwn_33 rfl (by decide) (Nat.le_of_ble_eq_true rfl) rfl rfl ?_
      refine pg_goto (tgt := 5) h d_Screen_isOwn_36 rfl ?_
      rw [← nI_succ b]
      exact ih (b + 1) _ (by omega) (by omega) (by omega) (by first | exact Or.inl rfl | exact Or.inr rfl) (by rw [ownFrom] at hI; simp only [*] at hI; simpa using hI)
  refine pg_iconst (v := 1) h d_Screen_isOwn_0 (by decide) ?_
  refine pg_istore_n h d_Screen_isOwn_1 (Nat.le_of_ble_eq_true rfl) (by first | rfl | (cases o <;> rfl)) rfl ?_
  refine pg_iconst (v := 2) h d_Screen_isOwn_2 (by decide) ?_
  refine pg_istore h d_Screen_isOwn_3 (Nat.le_of_ble_eq_true rfl) (by first | rfl | (cases o <;> rfl)) rfl ?_
  exact loop (r + 1 - 2) 2 1 rfl (by omega) (by omega) (Or.inr rfl) rfl

def plU (u : Nat → Int32) (l : Int32) : Nat → Int32 := upd (upd u 4 l) 7 0
def blU (u : Nat → Int32) (l b : Int32) : Nat → Int32 := upd (upd u 4 l) 7 (if nb b = 0 then 1 else 3)
def mkU (g u : Nat → Int32) : Nat → Int32 := if nb (g 8) = 0 then plU u 32 else if nb (g 2) = 0 then plU u 32 else blU u (g 9) (g 10)
def isV (t : Int32) : Int32 := if t = 35 then t - 35 else if t = 36 then t - 35 else if t = 64 then 2 else if ¬ t < 91 ∧ ¬ 96 < t then t - 88 else if ¬ t < 123 ∧ ¬ 126 < t then t - 114 else -1
def losV (t s : Int32) : Int32 := if s = 0 then t else if isV t = -1 then t else 512 + 16 * s + isV t
/-- the letter is drawn as a block -/
def isB (g : Nat → Int32) (t ov : Int32) : Prop := ov = 0 ∧ ¬ nb (g 2) = 0 ∧ (t < 64 ∨ ¬ t ≤ 95)
def dlG (g : Nat → Int32) (t ov : Int32) : Nat → Int32 := if ov = 0 ∧ ¬ nb (g 2) = 0 ∧ (t < 64 ∨ ¬ t ≤ 95) then hlG g t (g 7) else g
def dlU (g u : Nat → Int32) (t ov s : Int32) : Nat → Int32 := if ¬ ov = 0 then plU u ov else if ¬ nb (g 2) = 0 ∧ (t < 64 ∨ ¬ t ≤ 95) then blU u t (g 7) else plU u (losV t s)

set_option maxRecDepth 100000 in
set_option maxHeartbeats 4000000 in
theorem c_Screen_drawPlain (w : pf_W) (ok : pf_ok w) (S : pf_S) (g u : Nat → Int32) (l : Int32) : pf_C w y_Screen_drawPlain b_Screen_drawPlain 2 none 0 0 [.ref (w.2.1 12 0), .int l] (SC S g u) (none) (SC S g (plU u l)) := by
  refine pf_enter (by decide) (Nat.le_of_ble_eq_true rfl) (lv0 := [some (.ref (w.2.1 12 0)), some (.int l)]) rfl (fun κ h => ?_)
  refine pg_aload_n h d_Screen_drawPlain_0 rfl ?_
  refine pg_iload_n h d_Screen_drawPlain_1 rfl ?_
  refine pf_puti h ok d_Screen_drawPlain_2 fw_Screen_126 (by first | rfl | exact hk | exact hk2 | exact dm12 _ | assumption) rfl (Nat.le_of_ble_eq_true rfl) rfl ?_
  try simp only [SC13, SC12, SC_12, SC_13, SC_6, SC_10, SC_14, SC_15, SC_16, SC_17]
  refine pg_aload_n h d_Screen_drawPlain_5 rfl ?_
  refine pg_iconst (v := 0) h d_Screen_drawPlain_6 (by decide) ?_
  refine pf_puti h ok d_Screen_drawPlain_7 fw_Screen_129 (by first | rfl | exact hk | exact hk2 | exact dm12 _ | assumption) rfl (Nat.le_of_ble_eq_true rfl) rfl ?_
  try simp only [SC13, SC12, SC_12, SC_13, SC_6, SC_10, SC_14, SC_15, SC_16, SC_17]
  exact pf_vret h d_Screen_drawPlain_10 rfl

set_option maxRecDepth 100000 in
set_option maxHeartbeats 4000000 in
theorem c_Screen_drawBlock (w : pf_W) (ok : pf_ok w) (S : pf_S) (g u : Nat → Int32) (l b : Int32) : pf_C w y_Screen_drawBlock b_Screen_drawBlock 3 none 0 0 [.ref (w.2.1 12 0), .int l, .int (nb b)] (SC S g u) (none) (SC S g (blU u l b)) := by
  refine pf_enter (by decide) (Nat.le_of_ble_eq_true rfl) (lv0 := [some (.ref (w.2.1 12 0)), some (.int l), some (.int (nb b))]) rfl (fun κ h => ?_)
  refine pg_aload_n h d_Screen_drawBlock_0 rfl ?_
  refine pg_iload_n h d_Screen_drawBlock_1 rfl ?_
  refine pf_puti h ok d_Screen_drawBlock_2 fw_Screen_126 (by first | rfl | exact hk | exact hk2 | exact dm12 _ | assumption) rfl (Nat.le_of_ble_eq_true rfl) rfl ?_
  try simp only [SC13, SC12, SC_12, SC_13, SC_6, SC_10, SC_14, SC_15, SC_16, SC_17]
  refine pg_aload_n h d_Screen_drawBlock_5 rfl ?_
  refine pg_iload_n h d_Screen_drawBlock_6 rfl ?_
  refine pg_if_eq (tgt := 14) h d_Screen_drawBlock_7 rfl (fun e7 => ?_) (fun e7 => ?_)
  · skip
    refine pg_iconst (v := 1) h d_Screen_drawBlock_14 (by decide) ?_
    refine pf_puti h ok d_Screen_drawBlock_15 fw_Screen_129 (by first | rfl | exact hk | exact hk2 | exact dm12 _ | assumption) rfl (Nat.le_of_ble_eq_true rfl) rfl ?_
    try simp only [SC13, SC12, SC_12, SC_13, SC_6, SC_10, SC_14, SC_15, SC_16, SC_17]
    exact pf_vret h d_Screen_drawBlock_18 (by simp [blU, *])
  refine pg_iconst (v := 3) h d_Screen_drawBlock_10 (by decide) ?_
  refine pg_goto (tgt := 15) h d_Screen_drawBlock_11 rfl ?_
  refine pf_puti h ok d_Screen_drawBlock_15 fw_Screen_129 (by first | rfl | exact hk | exact hk2 | exact dm12 _ | assumption) rfl (Nat.le_of_ble_eq_true rfl) rfl ?_
  try simp only [SC13, SC12, SC_12, SC_13, SC_6, SC_10, SC_14, SC_15, SC_16, SC_17]
  exact pf_vret h d_Screen_drawBlock_18 (by simp [blU, *])

set_option maxRecDepth 100000 in
set_option maxHeartbeats 4000000 in
theorem c_Screen_drawMark (w : pf_W) (ok : pf_ok w) (S : pf_S) (g u : Nat → Int32)  : pf_C w y_Screen_drawMark b_Screen_drawMark 1 none 1 22 [.ref (w.2.1 12 0)] (SC S g u) (none) (SC S g (mkU g u)) := by
  refine pf_enter (by decide) (Nat.le_of_ble_eq_true rfl) (lv0 := [some (.ref (w.2.1 12 0))]) rfl (fun κ h => ?_)
  refine pg_aload_n h d_Screen_drawMark_0 rfl ?_
  refine pf_get h ok d_Screen_drawMark_1 f_Screen_12 (by first | rfl | exact hk | exact hk2 | exact dm12 _ | assumption) rfl rfl ?_
  try simp only [SC13, SC12, SC_12, SC_13, SC_6, SC_10, SC_14, SC_15, SC_16, SC_17]
  refine pf_get h ok d_Screen_drawMark_4 f_Screen_98 (by first | rfl | exact hk | exact hk2 | exact dm12 _ | assumption) rfl rfl ?_
  try simp only [SC13, SC12, SC_12, SC_13, SC_6, SC_10, SC_14, SC_15, SC_16, SC_17]
  refine pg_if_eq (tgt := 41) h d_Screen_drawMark_7 rfl (fun e7 => ?_) (fun e7 => ?_)
  · skip
    refine pg_aload_n h d_Screen_drawMark_41 rfl ?_
    refine pg_bipush (v := 32) h d_Screen_drawMark_42 (by decide) ?_
    refine pf_cV0 h ok d_Screen_drawMark_44 m_Screen_drawPlain l_Screen_114 (c_Screen_drawPlain w ok S g u 32) cn_Screen (by first | rfl | exact hk | exact hk2 | exact dm12 _ | assumption) rfl rfl rfl (Nat.le_of_ble_eq_true rfl) ⟨(Nat.le_of_ble_eq_true rfl), (Nat.le_of_ble_eq_true rfl)⟩ ⟨Nat.le_refl _, Nat.le_refl _⟩ ?_
    try simp only [SC13, SC12, SC_12, SC_13, SC_6, SC_10, SC_14, SC_15, SC_16, SC_17]
    exact pf_vret h d_Screen_drawMark_47 (by simp [mkU, *])
  refine pg_aload_n h d_Screen_drawMark_10 rfl ?_
  refine pf_get h ok d_Screen_drawMark_11 f_Screen_12 (by first | rfl | exact hk | exact hk2 | exact dm12 _ | assumption) rfl rfl ?_
  try simp only [SC13, SC12, SC_12, SC_13, SC_6, SC_10, SC_14, SC_15, SC_16, SC_17]
  refine pf_get h ok d_Screen_drawMark_14 f_Screen_101 (by first | rfl | exact hk | exact hk2 | exact dm12 _ | assumption) rfl rfl ?_
  try simp only [SC13, SC12, SC_12, SC_13, SC_6, SC_10, SC_14, SC_15, SC_16, SC_17]
  refine pg_if_eq (tgt := 41) h d_Screen_drawMark_17 rfl (fun e17 => ?_) (fun e17 => ?_)
  · skip
    refine pg_aload_n h d_Screen_drawMark_41 rfl ?_
    refine pg_bipush (v := 32) h d_Screen_drawMark_42 (by decide) ?_
    refine pf_cV0 h ok d_Screen_drawMark_44 m_Screen_drawPlain l_Screen_114 (c_Screen_drawPlain w ok S g u 32) cn_Screen (by first | rfl | exact hk | exact hk2 | exact dm12 _ | assumption) rfl rfl rfl (Nat.le_of_ble_eq_true rfl) ⟨(Nat.le_of_ble_eq_true rfl), (Nat.le_of_ble_eq_true rfl)⟩ ⟨Nat.le_refl _, Nat.le_refl _⟩ ?_
    try simp only [SC13, SC12, SC_12, SC_13, SC_6, SC_10, SC_14, SC_15, SC_16, SC_17]
    exact pf_vret h d_Screen_drawMark_47 (by simp [mkU, *])
  refine pg_aload_n h d_Screen_drawMark_20 rfl ?_
  refine pg_aload_n h d_Screen_drawMark_21 rfl ?_
  refine pf_get h ok d_Screen_drawMark_22 f_Screen_12 (by first | rfl | exact hk | exact hk2 | exact dm12 _ | assumption) rfl rfl ?_
  try simp only [SC13, SC12, SC_12, SC_13, SC_6, SC_10, SC_14, SC_15, SC_16, SC_17]
  refine pf_get h ok d_Screen_drawMark_25 f_Screen_104 (by first | rfl | exact hk | exact hk2 | exact dm12 _ | assumption) rfl rfl ?_
  try simp only [SC13, SC12, SC_12, SC_13, SC_6, SC_10, SC_14, SC_15, SC_16, SC_17]
  refine pg_aload_n h d_Screen_drawMark_28 rfl ?_
  refine pf_get h ok d_Screen_drawMark_29 f_Screen_12 (by first | rfl | exact hk | exact hk2 | exact dm12 _ | assumption) rfl rfl ?_
  try simp only [SC13, SC12, SC_12, SC_13, SC_6, SC_10, SC_14, SC_15, SC_16, SC_17]
  refine pf_get h ok d_Screen_drawMark_32 f_Screen_107 (by first | rfl | exact hk | exact hk2 | exact dm12 _ | assumption) rfl rfl ?_
  try simp only [SC13, SC12, SC_12, SC_13, SC_6, SC_10, SC_14, SC_15, SC_16, SC_17]
  refine pf_cV0 h ok d_Screen_drawMark_35 m_Screen_drawBlock l_Screen_110 (c_Screen_drawBlock w ok S g u (g 9) (g 10)) cn_Screen (by first | rfl | exact hk | exact hk2 | exact dm12 _ | assumption) rfl rfl rfl (Nat.le_of_ble_eq_true rfl) ⟨(Nat.le_of_ble_eq_true rfl), (Nat.le_of_ble_eq_true rfl)⟩ ⟨Nat.le_refl _, Nat.le_refl _⟩ ?_
  try simp only [SC13, SC12, SC_12, SC_13, SC_6, SC_10, SC_14, SC_15, SC_16, SC_17]
  refine pg_goto (tgt := 47) h d_Screen_drawMark_38 rfl ?_
  exact pf_vret h d_Screen_drawMark_47 (by simp [mkU, *])

set_option maxRecDepth 100000 in
set_option maxHeartbeats 4000000 in
theorem c_Screen_indexInSet (w : pf_W) (ok : pf_ok w) (S : pf_S) (t : Int32) : pf_C w y_Screen_indexInSet b_Screen_indexInSet 1 (some .int) 0 0 [.int t] S (some (.int (isV t))) (S) := by
  refine pf_enter (by decide) (Nat.le_of_ble_eq_true rfl) (lv0 := [some (.int t)]) rfl (fun κ h => ?_)
  refine pg_iload_n h d_Screen_indexInSet_0 rfl ?_
  refine pg_bipush (v := 35) h d_Screen_indexInSet_1 (by decide) ?_
  refine pg_icmp_eq (tgt := 12) h d_Screen_indexInSet_3 rfl (fun e3 => ?_) (fun e3 => ?_)
  · skip
    refine pg_iload_n h d_Screen_indexInSet_12 rfl ?_
    refine pg_bipush (v := 35) h d_Screen_indexInSet_13 (by decide) ?_
    refine pg_isub h d_Screen_indexInSet_15 ?_
    exact pf_iret h d_Screen_indexInSet_16 rfl (by simp [isV, *]) rfl
  refine pg_iload_n h d_Screen_indexInSet_6 rfl ?_
  refine pg_bipush (v := 36) h d_Screen_indexInSet_7 (by decide) ?_
  refine pg_icmp_ne (tgt := 17) h d_Screen_indexInSet_9 rfl (fun e9 => ?_) (fun e9 => ?_)
  · skip
    refine pg_iload_n h d_Screen_indexInSet_17 rfl ?_
    refine pg_bipush (v := 64) h d_Screen_indexInSet_18 (by decide) ?_
    refine pg_icmp_ne (tgt := 25) h d_Screen_indexInSet_20 rfl (fun e20 => ?_) (fun e20 => ?_)
    · skip
      refine pg_iload_n h d_Screen_indexInSet_25 rfl ?_
      refine pg_bipush (v := 91) h d_Screen_indexInSet_26 (by decide) ?_
      refine pg_icmp_lt (tgt := 42) h d_Screen_indexInSet_28 rfl (fun e28 => ?_) (fun e28 => ?_)
      · skip
        refine pg_iload_n h d_Screen_indexInSet_42 rfl ?_
        refine pg_bipush (v := 123) h d_Screen_indexInSet_43 (by decide) ?_
        refine pg_icmp_lt (tgt := 61) h d_Screen_indexInSet_45 rfl (fun e45 => ?_) (fun e45 => ?_)
        · skip
          refine pg_iconst (v := (-1)) h d_Screen_indexInSet_61 (by decide) ?_
          exact pf_iret h d_Screen_indexInSet_62 rfl (by simp [isV, *]) rfl
        refine pg_iload_n h d_Screen_indexInSet_48 rfl ?_
        refine pg_bipush (v := 126) h d_Screen_indexInSet_49 (by decide) ?_
        refine pg_icmp_gt (tgt := 61) h d_Screen_indexInSet_51 rfl (fun e51 => ?_) (fun e51 => ?_)
        · skip
          refine pg_iconst (v := (-1)) h d_Screen_indexInSet_61 (by decide) ?_
          exact pf_iret h d_Screen_indexInSet_62 rfl (by simp [isV, *]) rfl
        refine pg_iload_n h d_Screen_indexInSet_54 rfl ?_
        refine pg_bipush (v := 114) h d_Screen_indexInSet_55 (by decide) ?_
        refine pg_isub h d_Screen_indexInSet_57 ?_
        refine pg_goto (tgt := 62) h d_Screen_indexInSet_58 rfl ?_
        exact pf_iret h d_Screen_indexInSet_62 rfl (by simp [isV, *]) rfl
      refine pg_iload_n h d_Screen_indexInSet_31 rfl ?_
      refine pg_bipush (v := 96) h d_Screen_indexInSet_32 (by decide) ?_
      refine pg_icmp_gt (tgt := 42) h d_Screen_indexInSet_34 rfl (fun e34 => ?_) (fun e34 => ?_)
      · skip
        refine pg_iload_n h d_Screen_indexInSet_42 rfl ?_
        refine pg_bipush (v := 123) h d_Screen_indexInSet_43 (by decide) ?_
        refine pg_icmp_lt (tgt := 61) h d_Screen_indexInSet_45 rfl (fun e45 => ?_) (fun e45 => ?_)
        · skip
          refine pg_iconst (v := (-1)) h d_Screen_indexInSet_61 (by decide) ?_
          exact pf_iret h d_Screen_indexInSet_62 rfl (by simp [isV, *]) rfl
        refine pg_iload_n h d_Screen_indexInSet_48 rfl ?_
        refine pg_bipush (v := 126) h d_Screen_indexInSet_49 (by decide) ?_
        refine pg_icmp_gt (tgt := 61) h d_Screen_indexInSet_51 rfl (fun e51 => ?_) (fun e51 => ?_)
        · skip
          refine pg_iconst (v := (-1)) h d_Screen_indexInSet_61 (by decide) ?_
          exact pf_iret h d_Screen_indexInSet_62 rfl (by simp [isV, *]) rfl
        refine pg_iload_n h d_Screen_indexInSet_54 rfl ?_
        refine pg_bipush (v := 114) h d_Screen_indexInSet_55 (by decide) ?_
        refine pg_isub h d_Screen_indexInSet_57 ?_
        refine pg_goto (tgt := 62) h d_Screen_indexInSet_58 rfl ?_
        exact pf_iret h d_Screen_indexInSet_62 rfl (by simp [isV, *]) rfl
      refine pg_iload_n h d_Screen_indexInSet_37 rfl ?_
      refine pg_bipush (v := 88) h d_Screen_indexInSet_38 (by decide) ?_
      refine pg_isub h d_Screen_indexInSet_40 ?_
      exact pf_iret h d_Screen_indexInSet_41 rfl (by simp [isV, *]) rfl
    refine pg_iconst (v := 2) h d_Screen_indexInSet_23 (by decide) ?_
    exact pf_iret h d_Screen_indexInSet_24 rfl (by simp [isV, *]) rfl
  refine pg_iload_n h d_Screen_indexInSet_12 rfl ?_
  refine pg_bipush (v := 35) h d_Screen_indexInSet_13 (by decide) ?_
  refine pg_isub h d_Screen_indexInSet_15 ?_
  exact pf_iret h d_Screen_indexInSet_16 rfl (by simp [isV, *]) rfl

set_option maxRecDepth 100000 in
set_option maxHeartbeats 4000000 in
theorem c_Screen_letterOfSet (w : pf_W) (ok : pf_ok w) (S : pf_S) (t s : Int32) : pf_C w y_Screen_letterOfSet b_Screen_letterOfSet 3 (some .int) 1 20 [.int t, .int s] S (some (.int (losV t s))) (S) := by
  refine pf_enter (by decide) (Nat.le_of_ble_eq_true rfl) (lv0 := [some (.int t), some (.int s), none]) rfl (fun κ h => ?_)
  refine pg_iload_n h d_Screen_letterOfSet_0 rfl ?_
  refine pg_cS h d_Screen_letterOfSet_1 m_Screen_indexInSet l_Screen_155 (c_Screen_indexInSet w ok S t) rfl rfl (Nat.le_of_ble_eq_true rfl) ⟨(Nat.le_of_ble_eq_true rfl), (Nat.le_of_ble_eq_true rfl)⟩ ⟨Nat.le_refl _, Nat.le_refl _⟩ ?_
  refine pg_istore_n h d_Screen_letterOfSet_4 (Nat.le_of_ble_eq_true rfl) rfl rfl ?_
  refine pg_iload_n h d_Screen_letterOfSet_5 rfl ?_
  refine pg_if_eq (tgt := 14) h d_Screen_letterOfSet_6 rfl (fun e6 => ?_) (fun e6 => ?_)
  · skip
    refine pg_iload_n h d_Screen_letterOfSet_14 rfl ?_
    refine pg_goto (tgt := 28) h d_Screen_letterOfSet_15 rfl ?_
    exact pf_iret h d_Screen_letterOfSet_28 rfl (by simp [losV, *]) rfl
  refine pg_iload_n h d_Screen_letterOfSet_9 rfl ?_
  refine pg_iconst (v := (-1)) h d_Screen_letterOfSet_10 (by decide) ?_
  refine pg_icmp_ne (tgt := 18) h d_Screen_letterOfSet_11 rfl (fun e11 => ?_) (fun e11 => ?_)
  · skip
    refine pg_sipush (v := 512) h d_Screen_letterOfSet_18 (by decide) ?_
    refine pg_bipush (v := 16) h d_Screen_letterOfSet_21 (by decide) ?_
    refine pg_iload_n h d_Screen_letterOfSet_23 rfl ?_
    refine pg_imul h d_Screen_letterOfSet_24 ?_
    refine pg_iadd h d_Screen_letterOfSet_25 ?_
    refine pg_iload_n h d_Screen_letterOfSet_26 rfl ?_
    refine pg_iadd h d_Screen_letterOfSet_27 ?_
    exact pf_iret h d_Screen_letterOfSet_28 rfl (by simp [losV, *]) rfl
  refine pg_iload_n h d_Screen_letterOfSet_14 rfl ?_
  refine pg_goto (tgt := 28) h d_Screen_letterOfSet_15 rfl ?_
  exact pf_iret h d_Screen_letterOfSet_28 rfl (by simp [losV, *]) rfl

set_option maxRecDepth 100000 in
set_option maxHeartbeats 4000000 in
theorem c_Screen_drawLetter (w : pf_W) (ok : pf_ok w) (S : pf_S) (g u : Nat → Int32) (t ov s : Int32) : pf_C w y_Screen_drawLetter b_Screen_drawLetter 4 none 2 42 [.ref (w.2.1 12 0), .int t, .int ov, .int s] (SC S g u) (none) (SC S (dlG g t ov) (dlU g u t ov s)) := by
  refine pf_enter (by decide) (Nat.le_of_ble_eq_true rfl) (lv0 := [some (.ref (w.2.1 12 0)), some (.int t), some (.int ov), some (.int s)]) rfl (fun κ h => ?_)
  refine pg_iload_n h d_Screen_drawLetter_0 rfl ?_
  refine pg_if_eq (tgt := 12) h d_Screen_drawLetter_1 rfl (fun e1 => ?_) (fun e1 => ?_)
  · skip
    refine pg_aload_n h d_Screen_drawLetter_12 rfl ?_
    refine pf_get h ok d_Screen_drawLetter_13 f_Screen_12 (by first | rfl | exact hk | exact hk2 | exact dm12 _ | assumption) rfl rfl ?_
    try simp only [SC13, SC12, SC_12, SC_13, SC_6, SC_10, SC_14, SC_15, SC_16, SC_17]
    refine pf_get h ok d_Screen_drawLetter_16 f_Screen_101 (by first | rfl | exact hk | exact hk2 | exact dm12 _ | assumption) rfl rfl ?_
    try simp only [SC13, SC12, SC_12, SC_13, SC_6, SC_10, SC_14, SC_15, SC_16, SC_17]
    refine pg_if_eq (tgt := 64) h d_Screen_drawLetter_19 rfl (fun e19 => ?_) (fun e19 => ?_)
    · skip
      refine pg_aload_n h d_Screen_drawLetter_64 rfl ?_
      refine pg_iload_n h d_Screen_drawLetter_65 rfl ?_
      refine pg_iload_n h d_Screen_drawLetter_66 rfl ?_
      refine pg_cS h d_Screen_drawLetter_67 m_Screen_letterOfSet l_Screen_123 (c_Screen_letterOfSet w ok _ t s) rfl rfl (Nat.le_of_ble_eq_true rfl) ⟨(Nat.le_of_ble_eq_true rfl), (Nat.le_of_ble_eq_true rfl)⟩ ⟨Nat.le_refl _, Nat.le_refl _⟩ ?_
      try simp only [SC13, SC12, SC_12, SC_13, SC_6, SC_10, SC_14, SC_15, SC_16, SC_17]
      refine pf_cV0 h ok d_Screen_drawLetter_70 m_Screen_drawPlain l_Screen_114 (c_Screen_drawPlain w ok S g u _) cn_Screen (by first | rfl | exact hk | exact hk2 | exact dm12 _ | assumption) rfl rfl rfl (Nat.le_of_ble_eq_true rfl) ⟨(Nat.le_of_ble_eq_true rfl), (Nat.le_of_ble_eq_true rfl)⟩ ⟨Nat.le_refl _, Nat.le_refl _⟩ ?_
      try simp only [SC13, SC12, SC_12, SC_13, SC_6, SC_10, SC_14, SC_15, SC_16, SC_17]
      exact pf_vret h d_Screen_drawLetter_73 (by simp [dlG, dlU, *])
    refine pg_iload_n h d_Screen_drawLetter_22 rfl ?_
    refine pg_bipush (v := 64) h d_Screen_drawLetter_23 (by decide) ?_
    refine pg_icmp_lt (tgt := 34) h d_Screen_drawLetter_25 rfl (fun e25 => ?_) (fun e25 => ?_)
    · skip
      refine pg_aload_n h d_Screen_drawLetter_34 rfl ?_
      refine pf_get h ok d_Screen_drawLetter_35 f_Screen_12 (by first | rfl | exact hk | exact hk2 | exact dm12 _ | assumption) rfl rfl ?_
      try simp only [SC13, SC12, SC_12, SC_13, SC_6, SC_10, SC_14, SC_15, SC_16, SC_17]
      refine pg_iload_n h d_Screen_drawLetter_38 rfl ?_
      refine pg_aload_n h d_Screen_drawLetter_39 rfl ?_
      refine pf_get h ok d_Screen_drawLetter_40 f_Screen_12 (by first | rfl | exact hk | exact hk2 | exact dm12 _ | assumption) rfl rfl ?_
      try simp only [SC13, SC12, SC_12, SC_13, SC_6, SC_10, SC_14, SC_15, SC_16, SC_17]
      refine pf_get h ok d_Screen_drawLetter_43 f_Screen_117 (by first | rfl | exact hk | exact hk2 | exact dm12 _ | assumption) rfl rfl ?_
      try simp only [SC13, SC12, SC_12, SC_13, SC_6, SC_10, SC_14, SC_15, SC_16, SC_17]
      refine pf_cV0 h ok d_Screen_drawLetter_46 m_States_holdLetter l_Screen_120 (c_States_holdLetter w ok S g u t (g 7)) cn_States (by first | rfl | exact hk | exact hk2 | exact dm12 _ | assumption) rfl rfl rfl (Nat.le_of_ble_eq_true rfl) ⟨(Nat.le_of_ble_eq_true rfl), (Nat.le_of_ble_eq_true rfl)⟩ ⟨Nat.le_refl _, Nat.le_refl _⟩ ?_
      try simp only [SC13, SC12, SC_12, SC_13, SC_6, SC_10, SC_14, SC_15, SC_16, SC_17]
      refine pg_aload_n h d_Screen_drawLetter_49 rfl ?_
      refine pg_iload_n h d_Screen_drawLetter_50 rfl ?_
      refine pg_aload_n h d_Screen_drawLetter_51 rfl ?_
      refine pf_get h ok d_Screen_drawLetter_52 f_Screen_12 (by first | rfl | exact hk | exact hk2 | exact dm12 _ | assumption) rfl rfl ?_
      try simp only [SC13, SC12, SC_12, SC_13, SC_6, SC_10, SC_14, SC_15, SC_16, SC_17]
      refine pf_get h ok d_Screen_drawLetter_55 f_Screen_117 (by first | rfl | exact hk | exact hk2 | exact dm12 _ | assumption) rfl rfl ?_
      try simp only [SC13, SC12, SC_12, SC_13, SC_6, SC_10, SC_14, SC_15, SC_16, SC_17]
      rw [show hlG g t (g 7) 7 = g 7 from rfl]
      refine pf_cV0 h ok d_Screen_drawLetter_58 m_Screen_drawBlock l_Screen_110 (c_Screen_drawBlock w ok S (hlG g t (g 7)) u t (g 7)) cn_Screen (by first | rfl | exact hk | exact hk2 | exact dm12 _ | assumption) rfl rfl rfl (Nat.le_of_ble_eq_true rfl) ⟨(Nat.le_of_ble_eq_true rfl), (Nat.le_of_ble_eq_true rfl)⟩ ⟨Nat.le_refl _, Nat.le_refl _⟩ ?_
      try simp only [SC13, SC12, SC_12, SC_13, SC_6, SC_10, SC_14, SC_15, SC_16, SC_17]
      refine pg_goto (tgt := 73) h d_Screen_drawLetter_61 rfl ?_
      exact pf_vret h d_Screen_drawLetter_73 (by simp [dlG, dlU, *])
    refine pg_iload_n h d_Screen_drawLetter_28 rfl ?_
    refine pg_bipush (v := 95) h d_Screen_drawLetter_29 (by decide) ?_
    refine pg_icmp_le (tgt := 64) h d_Screen_drawLetter_31 rfl (fun e31 => ?_) (fun e31 => ?_)
    · skip
      refine pg_aload_n h d_Screen_drawLetter_64 rfl ?_
      refine pg_iload_n h d_Screen_drawLetter_65 rfl ?_
      refine pg_iload_n h d_Screen_drawLetter_66 rfl ?_
      refine pg_cS h d_Screen_drawLetter_67 m_Screen_letterOfSet l_Screen_123 (c_Screen_letterOfSet w ok _ t s) rfl rfl (Nat.le_of_ble_eq_true rfl) ⟨(Nat.le_of_ble_eq_true rfl), (Nat.le_of_ble_eq_true rfl)⟩ ⟨Nat.le_refl _, Nat.le_refl _⟩ ?_
      try simp only [SC13, SC12, SC_12, SC_13, SC_6, SC_10, SC_14, SC_15, SC_16, SC_17]
      refine pf_cV0 h ok d_Screen_drawLetter_70 m_Screen_drawPlain l_Screen_114 (c_Screen_drawPlain w ok S g u _) cn_Screen (by first | rfl | exact hk | exact hk2 | exact dm12 _ | assumption) rfl rfl rfl (Nat.le_of_ble_eq_true rfl) ⟨(Nat.le_of_ble_eq_true rfl), (Nat.le_of_ble_eq_true rfl)⟩ ⟨Nat.le_refl _, Nat.le_refl _⟩ ?_
      try simp only [SC13, SC12, SC_12, SC_13, SC_6, SC_10, SC_14, SC_15, SC_16, SC_17]
      exact pf_vret h d_Screen_drawLetter_73 (by simp [dlG, dlU, *])
    refine pg_aload_n h d_Screen_drawLetter_34 rfl ?_
    refine pf_get h ok d_Screen_drawLetter_35 f_Screen_12 (by first | rfl | exact hk | exact hk2 | exact dm12 _ | assumption) rfl rfl ?_
    try simp only [SC13, SC12, SC_12, SC_13, SC_6, SC_10, SC_14, SC_15, SC_16, SC_17]
    refine pg_iload_n h d_Screen_drawLetter_38 rfl ?_
    refine pg_aload_n h d_Screen_drawLetter_39 rfl ?_
    refine pf_get h ok d_Screen_drawLetter_40 f_Screen_12 (by first | rfl | exact hk | exact hk2 | exact dm12 _ | assumption) rfl rfl ?_
    try simp only [SC13, SC12, SC_12, SC_13, SC_6, SC_10, SC_14, SC_15, SC_16, SC_17]
    refine pf_get h ok d_Screen_drawLetter_43 f_Screen_117 (by first | rfl | exact hk | exact hk2 | exact dm12 _ | assumption) rfl rfl ?_
    try simp only [SC13, SC12, SC_12, SC_13, SC_6, SC_10, SC_14, SC_15, SC_16, SC_17]
    refine pf_cV0 h ok d_Screen_drawLetter_46 m_States_holdLetter l_Screen_120 (c_States_holdLetter w ok S g u t (g 7)) cn_States (by first | rfl | exact hk | exact hk2 | exact dm12 _ | assumption) rfl rfl rfl (Nat.le_of_ble_eq_true rfl) ⟨(Nat.le_of_ble_eq_true rfl), (Nat.le_of_ble_eq_true rfl)⟩ ⟨Nat.le_refl _, Nat.le_refl _⟩ ?_
    try simp only [SC13, SC12, SC_12, SC_13, SC_6, SC_10, SC_14, SC_15, SC_16, SC_17]
    refine pg_aload_n h d_Screen_drawLetter_49 rfl ?_
    refine pg_iload_n h d_Screen_drawLetter_50 rfl ?_
    refine pg_aload_n h d_Screen_drawLetter_51 rfl ?_
    refine pf_get h ok d_Screen_drawLetter_52 f_Screen_12 (by first | rfl | exact hk | exact hk2 | exact dm12 _ | assumption) rfl rfl ?_
    try simp only [SC13, SC12, SC_12, SC_13, SC_6, SC_10, SC_14, SC_15, SC_16, SC_17]
    refine pf_get h ok d_Screen_drawLetter_55 f_Screen_117 (by first | rfl | exact hk | exact hk2 | exact dm12 _ | assumption) rfl rfl ?_
    try simp only [SC13, SC12, SC_12, SC_13, SC_6, SC_10, SC_14, SC_15, SC_16, SC_17]
    rw [show hlG g t (g 7) 7 = g 7 from rfl]
    refine pf_cV0 h ok d_Screen_drawLetter_58 m_Screen_drawBlock l_Screen_110 (c_Screen_drawBlock w ok S (hlG g t (g 7)) u t (g 7)) cn_Screen (by first | rfl | exact hk | exact hk2 | exact dm12 _ | assumption) rfl rfl rfl (Nat.le_of_ble_eq_true rfl) ⟨(Nat.le_of_ble_eq_true rfl), (Nat.le_of_ble_eq_true rfl)⟩ ⟨Nat.le_refl _, Nat.le_refl _⟩ ?_
    try simp only [SC13, SC12, SC_12, SC_13, SC_6, SC_10, SC_14, SC_15, SC_16, SC_17]
    refine pg_goto (tgt := 73) h d_Screen_drawLetter_61 rfl ?_
    exact pf_vret h d_Screen_drawLetter_73 (by simp [dlG, dlU, *])
  refine pg_aload_n h d_Screen_drawLetter_4 rfl ?_
  refine pg_iload_n h d_Screen_drawLetter_5 rfl ?_
  refine pf_cV0 h ok d_Screen_drawLetter_6 m_Screen_drawPlain l_Screen_114 (c_Screen_drawPlain w ok S g u ov) cn_Screen (by first | rfl | exact hk | exact hk2 | exact dm12 _ | assumption) rfl rfl rfl (Nat.le_of_ble_eq_true rfl) ⟨(Nat.le_of_ble_eq_true rfl), (Nat.le_of_ble_eq_true rfl)⟩ ⟨Nat.le_refl _, Nat.le_refl _⟩ ?_
  try simp only [SC13, SC12, SC_12, SC_13, SC_6, SC_10, SC_14, SC_15, SC_16, SC_17]
  refine pg_goto (tgt := 73) h d_Screen_drawLetter_9 rfl ?_
  exact pf_vret h d_Screen_drawLetter_73 (by simp [dlG, dlU, *])

def dsH (rv : Int32) (g u : Nat → Int32) : Nat → Int32 := if (¬ nb (g 3) = 0 ∧ nb (u 3) = 0) ∨ (¬ nb (g 4) = 0 ∧ nb rv = 0) then plU u 32 else u
def dsT (g u : Nat → Int32) (x : Int32) : Nat → Int32 := if nb (g 6) = 0 ∨ x ≤ 0 ∨ 7 ≤ x then upd (upd (upd u 5 (g 0)) 6 (g 1)) 7 (u 7 + smG g) else upd (upd (upd u 5 (g 0)) 6 (g 1)) 7 (u 7 + smG g + 4)
def dsU (rv : Int32) (g u : Nat → Int32) (x : Int32) : Nat → Int32 := dsT g (dsH rv g u) x
theorem upd_same (f : Nat → Int32) (k : Nat) (a b : Int32) : upd (upd f k a) k b = upd f k b := by
  funext j
  simp only [upd]
  split <;> rfl
theorem upd_at (f : Nat → Int32) (k : Nat) (a : Int32) : upd f k a k = a := by simp [upd]

set_option maxRecDepth 100000 in
set_option maxHeartbeats 4000000 in
theorem c_Screen_drawStates (w : pf_W) (ok : pf_ok w) (S : pf_S) (g u : Nat → Int32) (x : Int32) : pf_C w y_Screen_drawStates b_Screen_drawStates 3 none 1 21 [.ref (w.2.1 12 0), .int x] (SC S g u) (none) (SC S g (dsU (S 6 0 6) g u x)) := by
  refine pf_enter (by decide) (Nat.le_of_ble_eq_true rfl) (lv0 := [some (.ref (w.2.1 12 0)), some (.int x), none]) rfl (fun κ h => ?_)
  have tail : ∀ (v : Nat → Int32) (X : Option Value), v = dsH (S 6 0 6) g u → pg_G κ w.1 3 0 0 (pg_Q κ w.1 (fun r' H => r' = none ∧ pf_P w (SC S g (dsU (S 6 0 6) g u x)) H) 0 0) (pf_P w (SC S g v)) 53 [some (.ref (w.2.1 12 0)), some (.int x), X] [] := by
    intro v X hv
    refine pg_aload_n h d_Screen_drawStates_53 rfl ?_
    refine pg_aload_n h d_Screen_drawStates_54 rfl ?_
    refine pf_get h ok d_Screen_drawStates_55 f_Screen_12 (by first | rfl | exact hk | exact hk2 | exact dm12 _ | assumption) rfl rfl ?_
    try simp only [SC13, SC12, SC_12, SC_13, SC_6, SC_10, SC_14, SC_15, SC_16, SC_17]
    refine pf_get h ok d_Screen_drawStates_58 f_Screen_141 (by first | rfl | exact hk | exact hk2 | exact dm12 _ | assumption) rfl rfl ?_
    try simp only [SC13, SC12, SC_12, SC_13, SC_6, SC_10, SC_14, SC_15, SC_16, SC_17]
    refine pf_puti h ok d_Screen_drawStates_61 fw_Screen_144 (by first | rfl | exact hk | exact hk2 | exact dm12 _ | assumption) rfl (Nat.le_of_ble_eq_true rfl) rfl ?_
    try simp only [SC13, SC12, SC_12, SC_13, SC_6, SC_10, SC_14, SC_15, SC_16, SC_17]
    refine pg_aload_n h d_Screen_drawStates_64 rfl ?_
    refine pg_aload_n h d_Screen_drawStates_65 rfl ?_
    refine pf_get h ok d_Screen_drawStates_66 f_Screen_12 (by first | rfl | exact hk | exact hk2 | exact dm12 _ | assumption) rfl rfl ?_
    try simp only [SC13, SC12, SC_12, SC_13, SC_6, SC_10, SC_14, SC_15, SC_16, SC_17]
    refine pf_get h ok d_Screen_drawStates_69 f_Screen_145 (by first | rfl | exact hk | exact hk2 | exact dm12 _ | assumption) rfl rfl ?_
    try simp only [SC13, SC12, SC_12, SC_13, SC_6, SC_10, SC_14, SC_15, SC_16, SC_17]
    refine pf_puti h ok d_Screen_drawStates_72 fw_Screen_148 (by first | rfl | exact hk | exact hk2 | exact dm12 _ | assumption) rfl (Nat.le_of_ble_eq_true rfl) rfl ?_
    try simp only [SC13, SC12, SC_12, SC_13, SC_6, SC_10, SC_14, SC_15, SC_16, SC_17]
    refine pg_aload_n h d_Screen_drawStates_75 rfl ?_
    refine pg_dup h d_Screen_drawStates_76 rfl ?_
    refine pf_get h ok d_Screen_drawStates_77 f_Screen_129 (by first | rfl | exact hk | exact hk2 | exact dm12 _ | assumption) rfl rfl ?_
    try simp only [SC13, SC12, SC_12, SC_13, SC_6, SC_10, SC_14, SC_15, SC_16, SC_17]
    refine pg_aload_n h d_Screen_drawStates_80 rfl ?_
    refine pf_get h ok d_Screen_drawStates_81 f_Screen_12 (by first | rfl | exact hk | exact hk2 | exact dm12 _ | assumption) rfl rfl ?_
    try simp only [SC13, SC12, SC_12, SC_13, SC_6, SC_10, SC_14, SC_15, SC_16, SC_17]
    refine pf_cV h ok d_Screen_drawStates_84 m_States_sum l_Screen_149 (c_States_sum w ok S g _) cn_States (by first | rfl | exact hk | exact hk2 | exact dm12 _ | assumption) rfl rfl rfl (Nat.le_of_ble_eq_true rfl) ⟨(Nat.le_of_ble_eq_true rfl), (Nat.le_of_ble_eq_true rfl)⟩ ⟨Nat.le_refl _, Nat.le_refl _⟩ ?_
    try simp only [SC13, SC12, SC_12, SC_13, SC_6, SC_10, SC_14, SC_15, SC_16, SC_17]
    refine pg_iadd h d_Screen_drawStates_87 ?_
    refine pf_puti h ok d_Screen_drawStates_88 fw_Screen_129 (by first | rfl | exact hk | exact hk2 | exact dm12 _ | assumption) rfl (Nat.le_of_ble_eq_true rfl) rfl ?_
    try simp only [SC13, SC12, SC_12, SC_13, SC_6, SC_10, SC_14, SC_15, SC_16, SC_17]
    refine pg_aload_n h d_Screen_drawStates_91 rfl ?_
    refine pf_get h ok d_Screen_drawStates_92 f_Screen_12 (by first | rfl | exact hk | exact hk2 | exact dm12 _ | assumption) rfl rfl ?_
    try simp only [SC13, SC12, SC_12, SC_13, SC_6, SC_10, SC_14, SC_15, SC_16, SC_17]
    refine pf_get h ok d_Screen_drawStates_95 f_Screen_152 (by first | rfl | exact hk | exact hk2 | exact dm12 _ | assumption) rfl rfl ?_
    try simp only [SC13, SC12, SC_12, SC_13, SC_6, SC_10, SC_14, SC_15, SC_16, SC_17]
    refine pg_if_eq (tgt := 121) h d_Screen_drawStates_98 rfl (fun e98 => ?_) (fun e98 => ?_)
    · skip
      exact pf_vret h d_Screen_drawStates_121 (by rw [dsU, ← hv]; simp [dsT, *, upd_same, upd_at]; try simp [upd])
    refine pg_iload_n h d_Screen_drawStates_101 rfl ?_
    refine pg_if_le (tgt := 121) h d_Screen_drawStates_102 rfl (fun e102 => ?_) (fun e102 => ?_)
    · skip
      exact pf_vret h d_Screen_drawStates_121 (by rw [dsU, ← hv]; simp [dsT, *, upd_same, upd_at]; try simp [upd])
    refine pg_iload_n h d_Screen_drawStates_105 rfl ?_
    refine pg_bipush (v := 7) h d_Screen_drawStates_106 (by decide) ?_
    refine pg_icmp_ge (tgt := 121) h d_Screen_drawStates_108 rfl (fun e108 => ?_) (fun e108 => ?_)
    · skip
      exact pf_vret h d_Screen_drawStates_121 (by rw [dsU, ← hv]; simp [dsT, *, upd_same, upd_at]; try simp [upd])
    refine pg_aload_n h d_Screen_drawStates_111 rfl ?_
    refine pg_dup h d_Screen_drawStates_112 rfl ?_
    refine pf_get h ok d_Screen_drawStates_113 f_Screen_129 (by first | rfl | exact hk | exact hk2 | exact dm12 _ | assumption) rfl rfl ?_
    try simp only [SC13, SC12, SC_12, SC_13, SC_6, SC_10, SC_14, SC_15, SC_16, SC_17]
    refine pg_iconst (v := 4) h d_Screen_drawStates_116 (by decide) ?_
    refine pg_iadd h d_Screen_drawStates_117 ?_
    refine pf_puti h ok d_Screen_drawStates_118 fw_Screen_129 (by first | rfl | exact hk | exact hk2 | exact dm12 _ | assumption) rfl (Nat.le_of_ble_eq_true rfl) rfl ?_
    try simp only [SC13, SC12, SC_12, SC_13, SC_6, SC_10, SC_14, SC_15, SC_16, SC_17]
    exact pf_vret h d_Screen_drawStates_121 (by rw [dsU, ← hv]; simp [dsT, *, upd_same, upd_at]; try simp [upd])
  refine pg_aload_n h d_Screen_drawStates_0 rfl ?_
  refine pf_get h ok d_Screen_drawStates_1 f_Screen_12 (by first | rfl | exact hk | exact hk2 | exact dm12 _ | assumption) rfl rfl ?_
  try simp only [SC13, SC12, SC_12, SC_13, SC_6, SC_10, SC_14, SC_15, SC_16, SC_17]
  refine pf_get h ok d_Screen_drawStates_4 f_Screen_132 (by first | rfl | exact hk | exact hk2 | exact dm12 _ | assumption) rfl rfl ?_
  try simp only [SC13, SC12, SC_12, SC_13, SC_6, SC_10, SC_14, SC_15, SC_16, SC_17]
  refine pg_if_eq (tgt := 21) h d_Screen_drawStates_7 rfl (fun e7 => ?_) (fun e7 => ?_)
  · skip
    refine pg_iconst (v := 0) h d_Screen_drawStates_21 (by decide) ?_
    refine pg_istore_n h d_Screen_drawStates_22 (Nat.le_of_ble_eq_true rfl) rfl rfl ?_
    refine pg_iload_n h d_Screen_drawStates_23 rfl ?_
    refine pg_if_ne (tgt := 47) h d_Screen_drawStates_24 rfl (fun e24 => ?_) (fun e24 => ?_)
    · skip
      refine pg_aload_n h d_Screen_drawStates_47 rfl ?_
      refine pg_bipush (v := 32) h d_Screen_drawStates_48 (by decide) ?_
      refine pf_cV0 h ok d_Screen_drawStates_50 m_Screen_drawPlain l_Screen_114 (c_Screen_drawPlain w ok S g u 32) cn_Screen (by first | rfl | exact hk | exact hk2 | exact dm12 _ | assumption) rfl rfl rfl (Nat.le_of_ble_eq_true rfl) ⟨(Nat.le_of_ble_eq_true rfl), (Nat.le_of_ble_eq_true rfl)⟩ ⟨Nat.le_refl _, Nat.le_refl _⟩ ?_
      try simp only [SC13, SC12, SC_12, SC_13, SC_6, SC_10, SC_14, SC_15, SC_16, SC_17]
      first
        | exact absurd rfl e24
        | exact absurd e24 (by decide)
        | exact tail _ _ (by simp [dsH, *])
    refine pg_aload_n h d_Screen_drawStates_27 rfl ?_
    refine pf_get h ok d_Screen_drawStates_28 f_Screen_12 (by first | rfl | exact hk | exact hk2 | exact dm12 _ | assumption) rfl rfl ?_
    try simp only [SC13, SC12, SC_12, SC_13, SC_6, SC_10, SC_14, SC_15, SC_16, SC_17]
    refine pf_get h ok d_Screen_drawStates_31 f_Screen_135 (by first | rfl | exact hk | exact hk2 | exact dm12 _ | assumption) rfl rfl ?_
    try simp only [SC13, SC12, SC_12, SC_13, SC_6, SC_10, SC_14, SC_15, SC_16, SC_17]
    refine pg_if_eq (tgt := 53) h d_Screen_drawStates_34 rfl (fun e34 => ?_) (fun e34 => ?_)
    · skip
      first
        | exact absurd rfl e24
        | exact absurd e24 (by decide)
        | exact tail _ _ (by simp [dsH, *])
    refine pg_aload_n h d_Screen_drawStates_37 rfl ?_
    refine pf_get h ok d_Screen_drawStates_38 f_Screen_22 (by first | rfl | exact hk | exact hk2 | exact dm12 _ | assumption) rfl rfl ?_
    try simp only [SC13, SC12, SC_12, SC_13, SC_6, SC_10, SC_14, SC_15, SC_16, SC_17]
    refine pf_get h ok d_Screen_drawStates_41 f_Screen_138 (by first | rfl | exact hk | exact hk2 | exact dm12 _ | assumption) rfl rfl ?_
    try simp only [SC13, SC12, SC_12, SC_13, SC_6, SC_10, SC_14, SC_15, SC_16, SC_17]
    refine pg_if_ne (tgt := 53) h d_Screen_drawStates_44 rfl (fun e44 => ?_) (fun e44 => ?_)
    · skip
      first
        | exact absurd rfl e24
        | exact absurd e24 (by decide)
        | exact tail _ _ (by simp [dsH, *])
    refine pg_aload_n h d_Screen_drawStates_47 rfl ?_
    refine pg_bipush (v := 32) h d_Screen_drawStates_48 (by decide) ?_
    refine pf_cV0 h ok d_Screen_drawStates_50 m_Screen_drawPlain l_Screen_114 (c_Screen_drawPlain w ok S g u 32) cn_Screen (by first | rfl | exact hk | exact hk2 | exact dm12 _ | assumption) rfl rfl rfl (Nat.le_of_ble_eq_true rfl) ⟨(Nat.le_of_ble_eq_true rfl), (Nat.le_of_ble_eq_true rfl)⟩ ⟨Nat.le_refl _, Nat.le_refl _⟩ ?_
    try simp only [SC13, SC12, SC_12, SC_13, SC_6, SC_10, SC_14, SC_15, SC_16, SC_17]
    first
      | exact absurd rfl e24
      | exact absurd e24 (by decide)
      | exact tail _ _ (by simp [dsH, *])
  refine pg_aload_n h d_Screen_drawStates_10 rfl ?_
  refine pf_get h ok d_Screen_drawStates_11 f_Screen_18 (by first | rfl | exact hk | exact hk2 | exact dm12 _ | assumption) rfl rfl ?_
  try simp only [SC13, SC12, SC_12, SC_13, SC_6, SC_10, SC_14, SC_15, SC_16, SC_17]
  refine pg_if_ne (tgt := 21) h d_Screen_drawStates_14 rfl (fun e14 => ?_) (fun e14 => ?_)
  · skip
    refine pg_iconst (v := 0) h d_Screen_drawStates_21 (by decide) ?_
    refine pg_istore_n h d_Screen_drawStates_22 (Nat.le_of_ble_eq_true rfl) rfl rfl ?_
    refine pg_iload_n h d_Screen_drawStates_23 rfl ?_
    refine pg_if_ne (tgt := 47) h d_Screen_drawStates_24 rfl (fun e24 => ?_) (fun e24 => ?_)
    · skip
      refine pg_aload_n h d_Screen_drawStates_47 rfl ?_
      refine pg_bipush (v := 32) h d_Screen_drawStates_48 (by decide) ?_
      refine pf_cV0 h ok d_Screen_drawStates_50 m_Screen_drawPlain l_Screen_114 (c_Screen_drawPlain w ok S g u 32) cn_Screen (by first | rfl | exact hk | exact hk2 | exact dm12 _ | assumption) rfl rfl rfl (Nat.le_of_ble_eq_true rfl) ⟨(Nat.le_of_ble_eq_true rfl), (Nat.le_of_ble_eq_true rfl)⟩ ⟨Nat.le_refl _, Nat.le_refl _⟩ ?_
      try simp only [SC13, SC12, SC_12, SC_13, SC_6, SC_10, SC_14, SC_15, SC_16, SC_17]
      first
        | exact absurd rfl e24
        | exact absurd e24 (by decide)
        | exact tail _ _ (by simp [dsH, *])
    refine pg_aload_n h d_Screen_drawStates_27 rfl ?_
    refine pf_get h ok d_Screen_drawStates_28 f_Screen_12 (by first | rfl | exact hk | exact hk2 | exact dm12 _ | assumption) rfl rfl ?_
    try simp only [SC13, SC12, SC_12, SC_13, SC_6, SC_10, SC_14, SC_15, SC_16, SC_17]
    refine pf_get h ok d_Screen_drawStates_31 f_Screen_135 (by first | rfl | exact hk | exact hk2 | exact dm12 _ | assumption) rfl rfl ?_
    try simp only [SC13, SC12, SC_12, SC_13, SC_6, SC_10, SC_14, SC_15, SC_16, SC_17]
    refine pg_if_eq (tgt := 53) h d_Screen_drawStates_34 rfl (fun e34 => ?_) (fun e34 => ?_)
    · skip
      first
        | exact absurd rfl e24
        | exact absurd e24 (by decide)
        | exact tail _ _ (by simp [dsH, *])
    refine pg_aload_n h d_Screen_drawStates_37 rfl ?_
    refine pf_get h ok d_Screen_drawStates_38 f_Screen_22 (by first | rfl | exact hk | exact hk2 | exact dm12 _ | assumption) rfl rfl ?_
    try simp only [SC13, SC12, SC_12, SC_13, SC_6, SC_10, SC_14, SC_15, SC_16, SC_17]
    refine pf_get h ok d_Screen_drawStates_41 f_Screen_138 (by first | rfl | exact hk | exact hk2 | exact dm12 _ | assumption) rfl rfl ?_
    try simp only [SC13, SC12, SC_12, SC_13, SC_6, SC_10, SC_14, SC_15, SC_16, SC_17]
    refine pg_if_ne (tgt := 53) h d_Screen_drawStates_44 rfl (fun e44 => ?_) (fun e44 => ?_)
    · skip
      first
        | exact absurd rfl e24
        | exact absurd e24 (by decide)
        | exact tail _ _ (by simp [dsH, *])
    refine pg_aload_n h d_Screen_drawStates_47 rfl ?_
    refine pg_bipush (v := 32) h d_Screen_drawStates_48 (by decide) ?_
    refine pf_cV0 h ok d_Screen_drawStates_50 m_Screen_drawPlain l_Screen_114 (c_Screen_drawPlain w ok S g u 32) cn_Screen (by first | rfl | exact hk | exact hk2 | exact dm12 _ | assumption) rfl rfl rfl (Nat.le_of_ble_eq_true rfl) ⟨(Nat.le_of_ble_eq_true rfl), (Nat.le_of_ble_eq_true rfl)⟩ ⟨Nat.le_refl _, Nat.le_refl _⟩ ?_
    try simp only [SC13, SC12, SC_12, SC_13, SC_6, SC_10, SC_14, SC_15, SC_16, SC_17]
    first
      | exact absurd rfl e24
      | exact absurd e24 (by decide)
      | exact tail _ _ (by simp [dsH, *])
  refine pg_iconst (v := 1) h d_Screen_drawStates_17 (by decide) ?_
  refine pg_goto (tgt := 22) h d_Screen_drawStates_18 rfl ?_
  refine pg_istore_n h d_Screen_drawStates_22 (Nat.le_of_ble_eq_true rfl) rfl rfl ?_
  refine pg_iload_n h d_Screen_drawStates_23 rfl ?_
  refine pg_if_ne (tgt := 47) h d_Screen_drawStates_24 rfl (fun e24 => ?_) (fun e24 => ?_)
  · skip
    refine pg_aload_n h d_Screen_drawStates_47 rfl ?_
    refine pg_bipush (v := 32) h d_Screen_drawStates_48 (by decide) ?_
    refine pf_cV0 h ok d_Screen_drawStates_50 m_Screen_drawPlain l_Screen_114 (c_Screen_drawPlain w ok S g u 32) cn_Screen (by first | rfl | exact hk | exact hk2 | exact dm12 _ | assumption) rfl rfl rfl (Nat.le_of_ble_eq_true rfl) ⟨(Nat.le_of_ble_eq_true rfl), (Nat.le_of_ble_eq_true rfl)⟩ ⟨Nat.le_refl _, Nat.le_refl _⟩ ?_
    try simp only [SC13, SC12, SC_12, SC_13, SC_6, SC_10, SC_14, SC_15, SC_16, SC_17]
    first
      | exact absurd rfl e24
      | exact absurd e24 (by decide)
      | exact tail _ _ (by simp [dsH, *])
  refine pg_aload_n h d_Screen_drawStates_27 rfl ?_
  refine pf_get h ok d_Screen_drawStates_28 f_Screen_12 (by first | rfl | exact hk | exact hk2 | exact dm12 _ | assumption) rfl rfl ?_
  try simp only [SC13, SC12, SC_12, SC_13, SC_6, SC_10, SC_14, SC_15, SC_16, SC_17]
  refine pf_get h ok d_Screen_drawStates_31 f_Screen_135 (by first | rfl | exact hk | exact hk2 | exact dm12 _ | assumption) rfl rfl ?_
  try simp only [SC13, SC12, SC_12, SC_13, SC_6, SC_10, SC_14, SC_15, SC_16, SC_17]
  refine pg_if_eq (tgt := 53) h d_Screen_drawStates_34 rfl (fun e34 => ?_) (fun e34 => ?_)
  · skip
    first
      | exact absurd rfl e24
      | exact absurd e24 (by decide)
      | exact tail _ _ (by simp [dsH, *])
  refine pg_aload_n h d_Screen_drawStates_37 rfl ?_
  refine pf_get h ok d_Screen_drawStates_38 f_Screen_22 (by first | rfl | exact hk | exact hk2 | exact dm12 _ | assumption) rfl rfl ?_
  try simp only [SC13, SC12, SC_12, SC_13, SC_6, SC_10, SC_14, SC_15, SC_16, SC_17]
  refine pf_get h ok d_Screen_drawStates_41 f_Screen_138 (by first | rfl | exact hk | exact hk2 | exact dm12 _ | assumption) rfl rfl ?_
  try simp only [SC13, SC12, SC_12, SC_13, SC_6, SC_10, SC_14, SC_15, SC_16, SC_17]
  refine pg_if_ne (tgt := 53) h d_Screen_drawStates_44 rfl (fun e44 => ?_) (fun e44 => ?_)
  · skip
    first
      | exact absurd rfl e24
      | exact absurd e24 (by decide)
      | exact tail _ _ (by simp [dsH, *])
  refine pg_aload_n h d_Screen_drawStates_47 rfl ?_
  refine pg_bipush (v := 32) h d_Screen_drawStates_48 (by decide) ?_
  refine pf_cV0 h ok d_Screen_drawStates_50 m_Screen_drawPlain l_Screen_114 (c_Screen_drawPlain w ok S g u 32) cn_Screen (by first | rfl | exact hk | exact hk2 | exact dm12 _ | assumption) rfl rfl rfl (Nat.le_of_ble_eq_true rfl) ⟨(Nat.le_of_ble_eq_true rfl), (Nat.le_of_ble_eq_true rfl)⟩ ⟨Nat.le_refl _, Nat.le_refl _⟩ ?_
  try simp only [SC13, SC12, SC_12, SC_13, SC_6, SC_10, SC_14, SC_15, SC_16, SC_17]
  first
    | exact absurd rfl e24
    | exact absurd e24 (by decide)
    | exact tail _ _ (by simp [dsH, *])

def stV (S : pf_S) (o : Option Nat) : Int32 := match o with
  | none => 0
  | some k => S 14 k 3
/-- Screen.drawCell, as it changes the rows of States and of Screen -/
def dcG (S : pf_S) (o : Option Nat) (r c : Nat) (g : Nat → Int32) : Nat → Int32 := if 32 ≤ ltV S o r c then dlG g (ltV S o r c) (ovV S o r c) else afG (onG g (ltV S o r c)) (ltV S o r c)
def dcU (S : pf_S) (o : Option Nat) (r c : Nat) (g u : Nat → Int32) : Nat → Int32 := if 32 ≤ ltV S o r c then dsU (S 6 0 6) (dlG g (ltV S o r c) (ovV S o r c)) (dlU g u (ltV S o r c) (ovV S o r c) (stV S o)) (nI r) else dsU (S 6 0 6) (onG g (ltV S o r c)) (mkU (onG g (ltV S o r c)) u) (nI r)

set_option maxRecDepth 100000 in
set_option maxHeartbeats 4000000 in
theorem c_Screen_drawCell (w : pf_W) (ok : pf_ok w) (S : pf_S) (g u : Nat → Int32) (o : Option Nat) (ho : ∀ k, o = some k → pf_dm w.2.2.1 14 k = true) (r c : Nat) (hr : r < 8) (hc : c < 20) : pf_C w y_Screen_drawCell b_Screen_drawCell 5 none 4 86 [.ref (w.2.1 12 0), pgV w o, .int (nI r), .int (nI c)] (SC S g u) (none) (SC S (dcG S o r c g) (dcU S o r c g u)) := by
  refine pf_enter (by decide) (by cases o <;> exact Nat.le_of_ble_eq_true rfl) (lv0 := [some (.ref (w.2.1 12 0)), some (pgV w o), some (.int (nI r)), some (.int (nI c)), none]) (by cases o <;> rfl) (fun κ h => ?_)
  cases o with
  | none =>
    refine pg_aload_n h d_Screen_drawCell_0 rfl ?_
    refine pg_aload_nN h d_Screen_drawCell_1 rfl ?_
    refine pg_iload_n h d_Screen_drawCell_2 rfl ?_
    refine pg_iload_n h d_Screen_drawCell_3 rfl ?_
    refine pf_cV h ok d_Screen_drawCell_4 m_Screen_letterAt l_Screen_53 (c_Screen_letterAt w ok S g u none ho r c hr hc) cn_Screen (by first | rfl | exact hk | exact hk2 | exact dm12 _ | assumption) rfl rfl rfl (Nat.le_of_ble_eq_true rfl) ⟨(Nat.le_of_ble_eq_true rfl), (Nat.le_of_ble_eq_true rfl)⟩ ⟨Nat.le_refl _, Nat.le_refl _⟩ ?_
    try simp only [SC13, SC12, SC_12, SC_13, SC_6, SC_10, SC_14, SC_15, SC_16, SC_17]
    refine pg_istore h d_Screen_drawCell_7 (Nat.le_of_ble_eq_true rfl) rfl rfl ?_
    refine pg_iload h d_Screen_drawCell_9 rfl ?_
    refine pg_bipush (v := 32) h d_Screen_drawCell_11 (by decide) ?_
    refine pg_icmp_ge (tgt := 32) h d_Screen_drawCell_13 rfl (fun e13 => ?_) (fun e13 => ?_)
    · skip
      refine pg_aload_n h d_Screen_drawCell_32 rfl ?_
      refine pg_iload h d_Screen_drawCell_33 rfl ?_
      refine pg_aload_nN h d_Screen_drawCell_35 rfl ?_
      refine pg_iload_n h d_Screen_drawCell_36 rfl ?_
      refine pg_iload_n h d_Screen_drawCell_37 rfl ?_
      refine pg_cS h d_Screen_drawCell_38 m_Screen_overlayAt l_Screen_83 (c_Screen_overlayAt w ok S g u none ho r c hr hc) rfl rfl (Nat.le_of_ble_eq_true rfl) ⟨(Nat.le_of_ble_eq_true rfl), (Nat.le_of_ble_eq_true rfl)⟩ ⟨Nat.le_refl _, Nat.le_refl _⟩ ?_
      try simp only [SC13, SC12, SC_12, SC_13, SC_6, SC_10, SC_14, SC_15, SC_16, SC_17]
      refine pg_aload_nN h d_Screen_drawCell_41 rfl ?_
      refine pg_ifnonnullN h d_Screen_drawCell_42 ?_
      refine pg_iconst (v := 0) h d_Screen_drawCell_45 (by decide) ?_
      refine pg_goto (tgt := 53) h d_Screen_drawCell_46 rfl ?_
      refine pf_cV0 h ok d_Screen_drawCell_53 m_Screen_drawLetter l_Screen_88 (c_Screen_drawLetter w ok S g u _ _ _) cn_Screen (by first | rfl | exact hk | exact hk2 | exact dm12 _ | assumption) rfl rfl rfl (Nat.le_of_ble_eq_true rfl) ⟨(Nat.le_of_ble_eq_true rfl), (Nat.le_of_ble_eq_true rfl)⟩ ⟨Nat.le_refl _, Nat.le_refl _⟩ ?_
      try simp only [SC13, SC12, SC_12, SC_13, SC_6, SC_10, SC_14, SC_15, SC_16, SC_17]
      refine pg_aload_n h d_Screen_drawCell_56 rfl ?_
      refine pg_iload_n h d_Screen_drawCell_57 rfl ?_
      refine pf_cV0 h ok d_Screen_drawCell_58 m_Screen_drawStates l_Screen_92 (c_Screen_drawStates w ok S _ _ (nI r)) cn_Screen (by first | rfl | exact hk | exact hk2 | exact dm12 _ | assumption) rfl rfl rfl (Nat.le_of_ble_eq_true rfl) ⟨(Nat.le_of_ble_eq_true rfl), (Nat.le_of_ble_eq_true rfl)⟩ ⟨Nat.le_refl _, Nat.le_refl _⟩ ?_
      try simp only [SC13, SC12, SC_12, SC_13, SC_6, SC_10, SC_14, SC_15, SC_16, SC_17]
      refine pg_iload h d_Screen_drawCell_61 rfl ?_
      refine pg_bipush (v := 32) h d_Screen_drawCell_63 (by decide) ?_
      refine pg_icmp_ge (tgt := 77) h d_Screen_drawCell_65 rfl (fun e65 => ?_) (fun e65 => ?_)
      · skip
        exact pf_vret h d_Screen_drawCell_77 (by first | contradiction | simp [dcG, dcU, stV, *])
      refine pg_aload_n h d_Screen_drawCell_68 rfl ?_
      refine pf_get h ok d_Screen_drawCell_69 f_Screen_12 (by first | rfl | exact hk | exact hk2 | exact dm12 _ | assumption) rfl rfl ?_
      try simp only [SC13, SC12, SC_12, SC_13, SC_6, SC_10, SC_14, SC_15, SC_16, SC_17]
      refine pg_iload h d_Screen_drawCell_72 rfl ?_
      refine pf_cV0 h ok d_Screen_drawCell_74 m_States_doAfter l_Screen_95 (c_States_doAfter w ok S _ _ _) cn_States (by first | rfl | exact hk | exact hk2 | exact dm12 _ | assumption) rfl rfl rfl (Nat.le_of_ble_eq_true rfl) ⟨(Nat.le_of_ble_eq_true rfl), (Nat.le_of_ble_eq_true rfl)⟩ ⟨Nat.le_refl _, Nat.le_refl _⟩ ?_
      try simp only [SC13, SC12, SC_12, SC_13, SC_6, SC_10, SC_14, SC_15, SC_16, SC_17]
      exact pf_vret h d_Screen_drawCell_77 (by first | contradiction | simp [dcG, dcU, stV, *])
    refine pg_aload_n h d_Screen_drawCell_16 rfl ?_
    refine pf_get h ok d_Screen_drawCell_17 f_Screen_12 (by first | rfl | exact hk | exact hk2 | exact dm12 _ | assumption) rfl rfl ?_
    try simp only [SC13, SC12, SC_12, SC_13, SC_6, SC_10, SC_14, SC_15, SC_16, SC_17]
    refine pg_iload h d_Screen_drawCell_20 rfl ?_
    refine pf_cV0 h ok d_Screen_drawCell_22 m_States_doAtOnce l_Screen_76 (c_States_doAtOnce w ok S g u _) cn_States (by first | rfl | exact hk | exact hk2 | exact dm12 _ | assumption) rfl rfl rfl (Nat.le_of_ble_eq_true rfl) ⟨(Nat.le_of_ble_eq_true rfl), (Nat.le_of_ble_eq_true rfl)⟩ ⟨Nat.le_refl _, Nat.le_refl _⟩ ?_
    try simp only [SC13, SC12, SC_12, SC_13, SC_6, SC_10, SC_14, SC_15, SC_16, SC_17]
    refine pg_aload_n h d_Screen_drawCell_25 rfl ?_
    refine pf_cV0 h ok d_Screen_drawCell_26 m_Screen_drawMark l_Screen_80 (c_Screen_drawMark w ok S _ u) cn_Screen (by first | rfl | exact hk | exact hk2 | exact dm12 _ | assumption) rfl rfl rfl (Nat.le_of_ble_eq_true rfl) ⟨(Nat.le_of_ble_eq_true rfl), (Nat.le_of_ble_eq_true rfl)⟩ ⟨Nat.le_refl _, Nat.le_refl _⟩ ?_
    try simp only [SC13, SC12, SC_12, SC_13, SC_6, SC_10, SC_14, SC_15, SC_16, SC_17]
    refine pg_goto (tgt := 56) h d_Screen_drawCell_29 rfl ?_
    refine pg_aload_n h d_Screen_drawCell_56 rfl ?_
    refine pg_iload_n h d_Screen_drawCell_57 rfl ?_
    refine pf_cV0 h ok d_Screen_drawCell_58 m_Screen_drawStates l_Screen_92 (c_Screen_drawStates w ok S _ _ (nI r)) cn_Screen (by first | rfl | exact hk | exact hk2 | exact dm12 _ | assumption) rfl rfl rfl (Nat.le_of_ble_eq_true rfl) ⟨(Nat.le_of_ble_eq_true rfl), (Nat.le_of_ble_eq_true rfl)⟩ ⟨Nat.le_refl _, Nat.le_refl _⟩ ?_
    try simp only [SC13, SC12, SC_12, SC_13, SC_6, SC_10, SC_14, SC_15, SC_16, SC_17]
    refine pg_iload h d_Screen_drawCell_61 rfl ?_
    refine pg_bipush (v := 32) h d_Screen_drawCell_63 (by decide) ?_
    refine pg_icmp_ge (tgt := 77) h d_Screen_drawCell_65 rfl (fun e65 => ?_) (fun e65 => ?_)
    · skip
      exact pf_vret h d_Screen_drawCell_77 (by first | contradiction | simp [dcG, dcU, stV, *])
    refine pg_aload_n h d_Screen_drawCell_68 rfl ?_
    refine pf_get h ok d_Screen_drawCell_69 f_Screen_12 (by first | rfl | exact hk | exact hk2 | exact dm12 _ | assumption) rfl rfl ?_
    try simp only [SC13, SC12, SC_12, SC_13, SC_6, SC_10, SC_14, SC_15, SC_16, SC_17]
    refine pg_iload h d_Screen_drawCell_72 rfl ?_
    refine pf_cV0 h ok d_Screen_drawCell_74 m_States_doAfter l_Screen_95 (c_States_doAfter w ok S _ _ _) cn_States (by first | rfl | exact hk | exact hk2 | exact dm12 _ | assumption) rfl rfl rfl (Nat.le_of_ble_eq_true rfl) ⟨(Nat.le_of_ble_eq_true rfl), (Nat.le_of_ble_eq_true rfl)⟩ ⟨Nat.le_refl _, Nat.le_refl _⟩ ?_
    try simp only [SC13, SC12, SC_12, SC_13, SC_6, SC_10, SC_14, SC_15, SC_16, SC_17]
    exact pf_vret h d_Screen_drawCell_77 (by first | contradiction | simp [dcG, dcU, stV, *])
  | some k =>
    have hk : pf_dm w.2.2.1 14 k = true := ho k rfl
    refine pg_aload_n h d_Screen_drawCell_0 rfl ?_
    refine pg_aload_n h d_Screen_drawCell_1 rfl ?_
    refine pg_iload_n h d_Screen_drawCell_2 rfl ?_
    refine pg_iload_n h d_Screen_drawCell_3 rfl ?_
    refine pf_cV h ok d_Screen_drawCell_4 m_Screen_letterAt l_Screen_53 (c_Screen_letterAt w ok S g u (some k) ho r c hr hc) cn_Screen (by first | rfl | exact hk | exact hk2 | exact dm12 _ | assumption) rfl rfl rfl (Nat.le_of_ble_eq_true rfl) ⟨(Nat.le_of_ble_eq_true rfl), (Nat.le_of_ble_eq_true rfl)⟩ ⟨Nat.le_refl _, Nat.le_refl _⟩ ?_
    try simp only [SC13, SC12, SC_12, SC_13, SC_6, SC_10, SC_14, SC_15, SC_16, SC_17]
    refine pg_istore h d_Screen_drawCell_7 (Nat.le_of_ble_eq_true rfl) rfl rfl ?_
    refine pg_iload h d_Screen_drawCell_9 rfl ?_
    refine pg_bipush (v := 32) h d_Screen_drawCell_11 (by decide) ?_
    refine pg_icmp_ge (tgt := 32) h d_Screen_drawCell_13 rfl (fun e13 => ?_) (fun e13 => ?_)
    · skip
      refine pg_aload_n h d_Screen_drawCell_32 rfl ?_
      refine pg_iload h d_Screen_drawCell_33 rfl ?_
      refine pg_aload_n h d_Screen_drawCell_35 rfl ?_
      refine pg_iload_n h d_Screen_drawCell_36 rfl ?_
      refine pg_iload_n h d_Screen_drawCell_37 rfl ?_
      refine pg_cS h d_Screen_drawCell_38 m_Screen_overlayAt l_Screen_83 (c_Screen_overlayAt w ok S g u (some k) ho r c hr hc) rfl rfl (Nat.le_of_ble_eq_true rfl) ⟨(Nat.le_of_ble_eq_true rfl), (Nat.le_of_ble_eq_true rfl)⟩ ⟨Nat.le_refl _, Nat.le_refl _⟩ ?_
      try simp only [SC13, SC12, SC_12, SC_13, SC_6, SC_10, SC_14, SC_15, SC_16, SC_17]
      refine pg_aload_n h d_Screen_drawCell_41 rfl ?_
      refine pg_ifnonnull (tgt := 49) h d_Screen_drawCell_42 rfl ?_
      refine pg_aload_n h d_Screen_drawCell_49 rfl ?_
      refine pf_get h ok d_Screen_drawCell_50 f_Screen_85 (by first | rfl | exact hk | exact hk2 | exact dm12 _ | assumption) rfl rfl ?_
      try simp only [SC13, SC12, SC_12, SC_13, SC_6, SC_10, SC_14, SC_15, SC_16, SC_17]
      refine pf_cV0 h ok d_Screen_drawCell_53 m_Screen_drawLetter l_Screen_88 (c_Screen_drawLetter w ok S g u _ _ _) cn_Screen (by first | rfl | exact hk | exact hk2 | exact dm12 _ | assumption) rfl rfl rfl (Nat.le_of_ble_eq_true rfl) ⟨(Nat.le_of_ble_eq_true rfl), (Nat.le_of_ble_eq_true rfl)⟩ ⟨Nat.le_refl _, Nat.le_refl _⟩ ?_
      try simp only [SC13, SC12, SC_12, SC_13, SC_6, SC_10, SC_14, SC_15, SC_16, SC_17]
      refine pg_aload_n h d_Screen_drawCell_56 rfl ?_
      refine pg_iload_n h d_Screen_drawCell_57 rfl ?_
      refine pf_cV0 h ok d_Screen_drawCell_58 m_Screen_drawStates l_Screen_92 (c_Screen_drawStates w ok S _ _ (nI r)) cn_Screen (by first | rfl | exact hk | exact hk2 | exact dm12 _ | assumption) rfl rfl rfl (Nat.le_of_ble_eq_true rfl) ⟨(Nat.le_of_ble_eq_true rfl), (Nat.le_of_ble_eq_true rfl)⟩ ⟨Nat.le_refl _, Nat.le_refl _⟩ ?_
      try simp only [SC13, SC12, SC_12, SC_13, SC_6, SC_10, SC_14, SC_15, SC_16, SC_17]
      refine pg_iload h d_Screen_drawCell_61 rfl ?_
      refine pg_bipush (v := 32) h d_Screen_drawCell_63 (by decide) ?_
      refine pg_icmp_ge (tgt := 77) h d_Screen_drawCell_65 rfl (fun e65 => ?_) (fun e65 => ?_)
      · skip
        exact pf_vret h d_Screen_drawCell_77 (by first | contradiction | simp [dcG, dcU, stV, *])
      refine pg_aload_n h d_Screen_drawCell_68 rfl ?_
      refine pf_get h ok d_Screen_drawCell_69 f_Screen_12 (by first | rfl | exact hk | exact hk2 | exact dm12 _ | assumption) rfl rfl ?_
      try simp only [SC13, SC12, SC_12, SC_13, SC_6, SC_10, SC_14, SC_15, SC_16, SC_17]
      refine pg_iload h d_Screen_drawCell_72 rfl ?_
      refine pf_cV0 h ok d_Screen_drawCell_74 m_States_doAfter l_Screen_95 (c_States_doAfter w ok S _ _ _) cn_States (by first | rfl | exact hk | exact hk2 | exact dm12 _ | assumption) rfl rfl rfl (Nat.le_of_ble_eq_true rfl) ⟨(Nat.le_of_ble_eq_true rfl), (Nat.le_of_ble_eq_true rfl)⟩ ⟨Nat.le_refl _, Nat.le_refl _⟩ ?_
      try simp only [SC13, SC12, SC_12, SC_13, SC_6, SC_10, SC_14, SC_15, SC_16, SC_17]
      exact pf_vret h d_Screen_drawCell_77 (by first | contradiction | simp [dcG, dcU, stV, *])
    refine pg_aload_n h d_Screen_drawCell_16 rfl ?_
    refine pf_get h ok d_Screen_drawCell_17 f_Screen_12 (by first | rfl | exact hk | exact hk2 | exact dm12 _ | assumption) rfl rfl ?_
    try simp only [SC13, SC12, SC_12, SC_13, SC_6, SC_10, SC_14, SC_15, SC_16, SC_17]
    refine pg_iload h d_Screen_drawCell_20 rfl ?_
    refine pf_cV0 h ok d_Screen_drawCell_22 m_States_doAtOnce l_Screen_76 (c_States_doAtOnce w ok S g u _) cn_States (by first | rfl | exact hk | exact hk2 | exact dm12 _ | assumption) rfl rfl rfl (Nat.le_of_ble_eq_true rfl) ⟨(Nat.le_of_ble_eq_true rfl), (Nat.le_of_ble_eq_true rfl)⟩ ⟨Nat.le_refl _, Nat.le_refl _⟩ ?_
    try simp only [SC13, SC12, SC_12, SC_13, SC_6, SC_10, SC_14, SC_15, SC_16, SC_17]
    refine pg_aload_n h d_Screen_drawCell_25 rfl ?_
    refine pf_cV0 h ok d_Screen_drawCell_26 m_Screen_drawMark l_Screen_80 (c_Screen_drawMark w ok S _ u) cn_Screen (by first | rfl | exact hk | exact hk2 | exact dm12 _ | assumption) rfl rfl rfl (Nat.le_of_ble_eq_true rfl) ⟨(Nat.le_of_ble_eq_true rfl), (Nat.le_of_ble_eq_true rfl)⟩ ⟨Nat.le_refl _, Nat.le_refl _⟩ ?_
    try simp only [SC13, SC12, SC_12, SC_13, SC_6, SC_10, SC_14, SC_15, SC_16, SC_17]
    refine pg_goto (tgt := 56) h d_Screen_drawCell_29 rfl ?_
    refine pg_aload_n h d_Screen_drawCell_56 rfl ?_
    refine pg_iload_n h d_Screen_drawCell_57 rfl ?_
    refine pf_cV0 h ok d_Screen_drawCell_58 m_Screen_drawStates l_Screen_92 (c_Screen_drawStates w ok S _ _ (nI r)) cn_Screen (by first | rfl | exact hk | exact hk2 | exact dm12 _ | assumption) rfl rfl rfl (Nat.le_of_ble_eq_true rfl) ⟨(Nat.le_of_ble_eq_true rfl), (Nat.le_of_ble_eq_true rfl)⟩ ⟨Nat.le_refl _, Nat.le_refl _⟩ ?_
    try simp only [SC13, SC12, SC_12, SC_13, SC_6, SC_10, SC_14, SC_15, SC_16, SC_17]
    refine pg_iload h d_Screen_drawCell_61 rfl ?_
    refine pg_bipush (v := 32) h d_Screen_drawCell_63 (by decide) ?_
    refine pg_icmp_ge (tgt := 77) h d_Screen_drawCell_65 rfl (fun e65 => ?_) (fun e65 => ?_)
    · skip
      exact pf_vret h d_Screen_drawCell_77 (by first | contradiction | simp [dcG, dcU, stV, *])
    refine pg_aload_n h d_Screen_drawCell_68 rfl ?_
    refine pf_get h ok d_Screen_drawCell_69 f_Screen_12 (by first | rfl | exact hk | exact hk2 | exact dm12 _ | assumption) rfl rfl ?_
    try simp only [SC13, SC12, SC_12, SC_13, SC_6, SC_10, SC_14, SC_15, SC_16, SC_17]
    refine pg_iload h d_Screen_drawCell_72 rfl ?_
    refine pf_cV0 h ok d_Screen_drawCell_74 m_States_doAfter l_Screen_95 (c_States_doAfter w ok S _ _ _) cn_States (by first | rfl | exact hk | exact hk2 | exact dm12 _ | assumption) rfl rfl rfl (Nat.le_of_ble_eq_true rfl) ⟨(Nat.le_of_ble_eq_true rfl), (Nat.le_of_ble_eq_true rfl)⟩ ⟨Nat.le_refl _, Nat.le_refl _⟩ ?_
    try simp only [SC13, SC12, SC_12, SC_13, SC_6, SC_10, SC_14, SC_15, SC_16, SC_17]
    exact pf_vret h d_Screen_drawCell_77 (by first | contradiction | simp [dcG, dcU, stV, *])

/-- the cells up to c drawn -/
def drF (S : pf_S) (o : Option Nat) (r : Nat) (g u : Nat → Int32) : Nat → (Nat → Int32) × (Nat → Int32)
  | 0 => (g, u)
  | c + 1 => (dcG S o r c (drF S o r g u c).1, dcU S o r c (drF S o r g u c).1 (drF S o r g u c).2)
def lhU (u : Nat → Int32) : Nat → Int32 := if u 7 &&& 4 = 0 then upd (upd u 4 32) 7 (u 7 &&& 64) else upd u 7 (u 7 + 4)

set_option maxRecDepth 100000 in
set_option maxHeartbeats 4000000 in
theorem c_Screen_turnToLowerHalf (w : pf_W) (ok : pf_ok w) (S : pf_S) (g u : Nat → Int32)  : pf_C w y_Screen_turnToLowerHalf b_Screen_turnToLowerHalf 1 none 0 0 [.ref (w.2.1 12 0)] (SC S g u) (none) (SC S g (lhU u)) := by
  refine pf_enter (by decide) (Nat.le_of_ble_eq_true rfl) (lv0 := [some (.ref (w.2.1 12 0))]) rfl (fun κ h => ?_)
  refine pg_aload_n h d_Screen_turnToLowerHalf_0 rfl ?_
  refine pf_get h ok d_Screen_turnToLowerHalf_1 f_Screen_129 (by first | rfl | exact hk | exact hk2 | exact dm12 _ | assumption) rfl rfl ?_
  try simp only [SC13, SC12, SC_12, SC_13, SC_6, SC_10, SC_14, SC_15, SC_16, SC_17]
  refine pg_iconst (v := 4) h d_Screen_turnToLowerHalf_4 (by decide) ?_
  refine pg_iand h d_Screen_turnToLowerHalf_5 ?_
  refine pg_if_eq (tgt := 22) h d_Screen_turnToLowerHalf_6 rfl (fun e6 => ?_) (fun e6 => ?_)
  · skip
    refine pg_aload_n h d_Screen_turnToLowerHalf_22 rfl ?_
    refine pg_bipush (v := 32) h d_Screen_turnToLowerHalf_23 (by decide) ?_
    refine pf_puti h ok d_Screen_turnToLowerHalf_25 fw_Screen_126 (by first | rfl | exact hk | exact hk2 | exact dm12 _ | assumption) rfl (Nat.le_of_ble_eq_true rfl) rfl ?_
    try simp only [SC13, SC12, SC_12, SC_13, SC_6, SC_10, SC_14, SC_15, SC_16, SC_17]
    refine pg_aload_n h d_Screen_turnToLowerHalf_28 rfl ?_
    refine pg_dup h d_Screen_turnToLowerHalf_29 rfl ?_
    refine pf_get h ok d_Screen_turnToLowerHalf_30 f_Screen_129 (by first | rfl | exact hk | exact hk2 | exact dm12 _ | assumption) rfl rfl ?_
    try simp only [SC13, SC12, SC_12, SC_13, SC_6, SC_10, SC_14, SC_15, SC_16, SC_17]
    refine pg_bipush (v := 64) h d_Screen_turnToLowerHalf_33 (by decide) ?_
    refine pg_iand h d_Screen_turnToLowerHalf_35 ?_
    refine pf_puti h ok d_Screen_turnToLowerHalf_36 fw_Screen_129 (by first | rfl | exact hk | exact hk2 | exact dm12 _ | assumption) rfl (Nat.le_of_ble_eq_true rfl) rfl ?_
    try simp only [SC13, SC12, SC_12, SC_13, SC_6, SC_10, SC_14, SC_15, SC_16, SC_17]
    exact pf_vret h d_Screen_turnToLowerHalf_39 (by simp [lhU, *]; try simp [upd])
  refine pg_aload_n h d_Screen_turnToLowerHalf_9 rfl ?_
  refine pg_dup h d_Screen_turnToLowerHalf_10 rfl ?_
  refine pf_get h ok d_Screen_turnToLowerHalf_11 f_Screen_129 (by first | rfl | exact hk | exact hk2 | exact dm12 _ | assumption) rfl rfl ?_
  try simp only [SC13, SC12, SC_12, SC_13, SC_6, SC_10, SC_14, SC_15, SC_16, SC_17]
  refine pg_iconst (v := 4) h d_Screen_turnToLowerHalf_14 (by decide) ?_
  refine pg_iadd h d_Screen_turnToLowerHalf_15 ?_
  refine pf_puti h ok d_Screen_turnToLowerHalf_16 fw_Screen_129 (by first | rfl | exact hk | exact hk2 | exact dm12 _ | assumption) rfl (Nat.le_of_ble_eq_true rfl) rfl ?_
  try simp only [SC13, SC12, SC_12, SC_13, SC_6, SC_10, SC_14, SC_15, SC_16, SC_17]
  refine pg_goto (tgt := 39) h d_Screen_turnToLowerHalf_19 rfl ?_
  exact pf_vret h d_Screen_turnToLowerHalf_39 (by simp [lhU, *]; try simp [upd])

theorem fndFrom_SC (S : pf_S) (g u : Nat → Int32) (num : Int32) : ∀ n j : Nat, fndFrom (SC S g u) num n j = fndFrom S num n j := by
  intro n
  induction n with
  | zero => intro j; rfl
  | succ n ih =>
    intro j
    rw [fndFrom, fndFrom, ih, SC_14]
theorem shnF_SC (S : pf_S) (g u : Nat → Int32) (P : Nat) : shnF (SC S g u) P = shnF S P := by
  unfold shnF fndF
  rw [fndFrom_SC, SC_14, SC_6]
theorem ownFrom_01 {HD : Nat → Int32} : ∀ {n b : Nat} {own : Int32}, (own = 0 ∨ own = 1) → ownFrom HD n b own = 0 ∨ ownFrom HD n b own = 1 := by
  intro n
  induction n with
  | zero => intro b own h; exact h
  | succ n ih =>
    intro b own h
    rw [ownFrom]
    refine ih ?_
    split
    · exact Or.inr rfl
    · split
      · exact Or.inr rfl
      · exact Or.inl rfl
/-- the row that is drawn -/
def drR (S : pf_S) (o : Option Nat) (r : Nat) : Nat := if ownF S o r = 0 then r - 1 else r
/-- Screen.see -/
def seF (S : pf_S) (o : Option Nat) (r c : Nat) (g u : Nat → Int32) : (Nat → Int32) × (Nat → Int32) := if ownF S o r = 0 then ((drF S o (drR S o r) (bgG g) u (c + 1)).1, lhU (drF S o (drR S o r) (bgG g) u (c + 1)).2) else drF S o (drR S o r) (bgG g) u (c + 1)
theorem ownF_2 {S : pf_S} {o : Option Nat} {r : Nat} (h : ownF S o r = 0) : 2 ≤ r := by
  rcases Nat.lt_or_ge r 2 with q | q
  · have e : ownF S o r = 1 := by
      unfold ownF
      rw [show r + 1 - 2 = 0 by omega]
      rfl
    rw [e] at h
    exact absurd h (by decide)
  · exact q

theorem c_shown_SC (w : pf_W) (ok : pf_ok w) (S : pf_S) (g u : Nat → Int32) (hw : 1 ≤ w.2.2.1 ∧ w.2.2.1 ≤ 4) : pf_C w y_Remote_pageShown b_Remote_pageShown 1 (some (.object "PageReceiver$Page")) 1 22 [.ref (w.2.1 6 0)] (SC S g u) (some (pgV w (shnF S w.2.2.1))) (SC S g u) := by
  have q := c_Remote_pageShown w ok (SC S g u) hw
  rw [shnF_SC] at q
  exact q
section PGANY2
variable {κ : pg_K} {z : pg_Z} {y : MethodName} {cc : ByteArray} {nL : Nat} {ret : Option FieldType} {rm : Room} {ce sl : Nat} {Q : State → Prop} {Pic : Heap → Prop} {pc : Nat} {lv : List (Option Value)} {st : List Value}
theorem pg_astoreP {j : Fin 4} {w : pf_W} {o : Option Nat} {lv2 : List (Option Value)} (h : pg_X κ z y cc nL ret rm) (d : decode cc pc = .ok (.astore_n j, 1)) (hn : (j : Nat) < nL) (h2 : pg_no2 lv j = true) (hl : lv.set j (some (pgV w o)) = lv2) (k : pg_G κ z nL ce sl Q Pic (pc + 1) lv2 st) : pg_G κ z nL ce sl Q Pic pc lv (pgV w o :: st) := by
  cases o with
  | none => exact pg_astore_nN h d hn h2 hl k
  | some q => exact pg_astore_n h d hn h2 hl k
end PGANY2

set_option maxRecDepth 100000 in
set_option maxHeartbeats 4000000 in
theorem c_Screen_see (w : pf_W) (ok : pf_ok w) (S : pf_S) (g u : Nat → Int32) (hw : 1 ≤ w.2.2.1 ∧ w.2.2.1 ≤ 4) (r c : Nat) (hr : r < 8) (hc : c < 20) : pf_C w y_Screen_see b_Screen_see 7 none 5 115 [.ref (w.2.1 12 0), .int (nI r), .int (nI c)] (SC S g u) (none) (SC S (seF S (shnF S w.2.2.1) r c g u).1 (seF S (shnF S w.2.2.1) r c g u).2) := by
  refine pf_enter (by decide) (Nat.le_of_ble_eq_true rfl) (lv0 := [some (.ref (w.2.1 12 0)), some (.int (nI r)), some (.int (nI c)), none, none, none, none]) rfl (fun κ h => ?_)
  have hrr : drR S (shnF S w.2.2.1) r < 8 := by unfold drR; split <;> omega
  have loop : ∀ (n q : Nat), q + n = c + 1 → pg_G κ w.1 7 0 0 (pg_Q κ w.1 (fun r' H => r' = none ∧ pf_P w (SC S (seF S (shnF S w.2.2.1) r c g u).1 (seF S (shnF S w.2.2.1) r c g u).2) H) 0 0) (pf_P w (SC S (drF S (shnF S w.2.2.1) (drR S (shnF S w.2.2.1) r) (bgG g) u q).1 (drF S (shnF S w.2.2.1) (drR S (shnF S w.2.2.1) r) (bgG g) u q).2)) 40 [some (.ref (w.2.1 12 0)), some (.int (nI r)), some (.int (nI c)), some (pgV w (shnF S w.2.2.1)), some (.int (ownF S (shnF S w.2.2.1) r)), some (.int (nI (drR S (shnF S w.2.2.1) r))), some (.int (nI q))] [] := by
    intro n
    induction n with
    | zero =>
      intro q hq
      have hq : q = c + 1 := by omega
      subst hq
      refine pg_iload h d_Screen_see_40 rfl ?_
      refine pg_iload_n h d_Screen_see_42 rfl ?_
      refine pg_icmp_gt (tgt := 61) h d_Screen_see_43 rfl (fun e43 => ?_) (fun e43 => absurd e43 (fun e => e (nI_lt (by omega) (by omega))))
      refine pg_iload h d_Screen_see_61 rfl ?_
      refine pg_if_ne (tgt := 70) h d_Screen_see_63 rfl (fun e63 => ?_) (fun e63 => ?_)
      · skip
        exact pf_vret h d_Screen_see_70 (by simp [seF, *])
      refine pg_aload_n h d_Screen_see_66 rfl ?_
      refine pf_cV0 h ok d_Screen_see_67 m_Screen_turnToLowerHalf l_Screen_47 (c_Screen_turnToLowerHalf w ok S _ _) cn_Screen (by first | rfl | exact hk | exact hk2 | exact dm12 _ | assumption) rfl rfl rfl (Nat.le_of_ble_eq_true rfl) ⟨(Nat.le_of_ble_eq_true rfl), (Nat.le_of_ble_eq_true rfl)⟩ ⟨Nat.le_refl _, Nat.le_refl _⟩ ?_
      exact pf_vret h d_Screen_see_70 (by simp [seF, *])
    | succ n ih =>
      intro q hq
      refine pg_iload h d_Screen_see_40 rfl ?_
      refine pg_iload_n h d_Screen_see_42 rfl ?_
      refine pg_icmp_gt (tgt := 61) h d_Screen_see_43 rfl (fun e43 => absurd e43 (nI_nlt (by omega) (by omega))) (fun e43 => ?_)
      refine pg_aload_n h d_Screen_see_46 rfl ?_
      refine pg_aloadP h d_Screen_see_47 rfl ?_
      refine pg_iload h d_Screen_see_48 rfl ?_
      refine pg_iload h d_Screen_see_50 rfl ?_
      refine pf_cV0 h ok d_Screen_see_52 m_Screen_drawCell l_Screen_43 (c_Screen_drawCell w ok S _ _ (shnF S w.2.2.1) (fun k hq => shnF_dm hq) (drR S (shnF S w.2.2.1) r) q hrr (by omega)) cn_Screen (by first | rfl | exact hk | exact hk2 | exact dm12 _ | assumption) rfl rfl rfl (Nat.le_of_ble_eq_true rfl) ⟨(Nat.le_of_ble_eq_true rfl), (Nat.le_of_ble_eq_true rfl)⟩ ⟨Nat.le_refl _, Nat.le_refl _⟩ ?_
      refine pg_iinc (w := 1) h d_Screen_see_55 rfl (by decide) (Nat.le_of_ble_eq_true rfl) rfl rfl ?_
      refine pg_goto (tgt := 40) h d_Screen_see_58 rfl ?_
      rw [← nI_succ q]
      exact ih (q + 1) (by omega)
  have mid : pg_G κ w.1 7 0 0 (pg_Q κ w.1 (fun r' H => r' = none ∧ pf_P w (SC S (seF S (shnF S w.2.2.1) r c g u).1 (seF S (shnF S w.2.2.1) r c g u).2) H) 0 0) (pf_P w (SC S g u)) 28 [some (.ref (w.2.1 12 0)), some (.int (nI r)), some (.int (nI c)), some (pgV w (shnF S w.2.2.1)), some (.int (ownF S (shnF S w.2.2.1) r)), none, none] [.int (nI (drR S (shnF S w.2.2.1) r))] := by
    refine pg_istore h d_Screen_see_28 (Nat.le_of_ble_eq_true rfl) (by first | rfl | (generalize shnF S w.2.2.1 = o; cases o <;> rfl)) rfl ?_
    refine pg_aload_n h d_Screen_see_30 rfl ?_
    refine pf_get h ok d_Screen_see_31 f_Screen_12 (by first | rfl | exact hk | exact hk2 | exact dm12 _ | assumption) rfl rfl ?_
    try simp only [SC13, SC12, SC_12, SC_13, SC_6, SC_10, SC_14, SC_15, SC_16, SC_17]
    refine pf_cV0 h ok d_Screen_see_34 m_States_begin l_Screen_40 (c_States_begin w ok S g u) cn_States (by first | rfl | exact hk | exact hk2 | exact dm12 _ | assumption) rfl rfl rfl (Nat.le_of_ble_eq_true rfl) ⟨(Nat.le_of_ble_eq_true rfl), (Nat.le_of_ble_eq_true rfl)⟩ ⟨Nat.le_refl _, Nat.le_refl _⟩ ?_
    try simp only [SC13, SC12, SC_12, SC_13, SC_6, SC_10, SC_14, SC_15, SC_16, SC_17]
    refine pg_iconst (v := 0) h d_Screen_see_37 (by decide) ?_
    refine pg_istore h d_Screen_see_38 (Nat.le_of_ble_eq_true rfl) (by first | rfl | (generalize shnF S w.2.2.1 = o; cases o <;> rfl)) rfl ?_
    exact loop (c + 1) 0 (by omega)
  refine pg_aload_n h d_Screen_see_0 rfl ?_
  refine pf_get h ok d_Screen_see_1 f_Screen_22 (by first | rfl | exact hk | exact hk2 | exact dm12 _ | assumption) rfl rfl ?_
  try simp only [SC13, SC12, SC_12, SC_13, SC_6, SC_10, SC_14, SC_15, SC_16, SC_17]
  refine pf_cV h ok d_Screen_see_4 m_Remote_pageShown l_Screen_30 (c_shown_SC w ok S g u hw) cn_Remote (by first | rfl | exact hk | exact hk2 | exact dm12 _ | assumption) rfl rfl rfl (Nat.le_of_ble_eq_true rfl) ⟨(Nat.le_of_ble_eq_true rfl), (Nat.le_of_ble_eq_true rfl)⟩ ⟨Nat.le_refl _, Nat.le_refl _⟩ ?_
  try simp only [SC13, SC12, SC_12, SC_13, SC_6, SC_10, SC_14, SC_15, SC_16, SC_17]
  refine pg_astoreP h d_Screen_see_7 (Nat.le_of_ble_eq_true rfl) rfl rfl ?_
  refine pg_aload_n h d_Screen_see_8 rfl ?_
  refine pg_aloadP h d_Screen_see_9 rfl ?_
  refine pg_iload_n h d_Screen_see_10 rfl ?_
  refine pf_cV h ok d_Screen_see_11 m_Screen_isOwn l_Screen_36 (c_Screen_isOwn w ok S g u (shnF S w.2.2.1) (fun k hq => shnF_dm hq) r hr) cn_Screen (by first | rfl | exact hk | exact hk2 | exact dm12 _ | assumption) rfl rfl rfl (Nat.le_of_ble_eq_true rfl) ⟨(Nat.le_of_ble_eq_true rfl), (Nat.le_of_ble_eq_true rfl)⟩ ⟨Nat.le_refl _, Nat.le_refl _⟩ ?_
  try simp only [SC13, SC12, SC_12, SC_13, SC_6, SC_10, SC_14, SC_15, SC_16, SC_17]
  refine pg_istore h d_Screen_see_14 (Nat.le_of_ble_eq_true rfl) (by first | rfl | (generalize shnF S w.2.2.1 = o; cases o <;> rfl)) rfl ?_
  refine pg_iload h d_Screen_see_16 rfl ?_
  refine pg_if_eq (tgt := 25) h d_Screen_see_18 rfl (fun e18 => ?_) (fun e18 => ?_)
  · skip
    refine pg_iload_n h d_Screen_see_25 rfl ?_
    refine pg_iconst (v := 1) h d_Screen_see_26 (by decide) ?_
    refine pg_isub h d_Screen_see_27 ?_
    first
      | (rw [show nI r - 1 = nI (drR S (shnF S w.2.2.1) r) from (pk_sub (a := r) (b := 1) (by have := ownF_2 e18; omega)).trans (by rw [drR, if_pos e18])]; exact mid)
      | (have m := mid; rw [show drR S (shnF S w.2.2.1) r = r from if_neg e18] at m; exact m)
  refine pg_iload_n h d_Screen_see_21 rfl ?_
  refine pg_goto (tgt := 28) h d_Screen_see_22 rfl ?_
  first
    | (rw [show nI r - 1 = nI (drR S (shnF S w.2.2.1) r) from (pk_sub (a := r) (b := 1) (by have := ownF_2 e18; omega)).trans (by rw [drR, if_pos e18])]; exact mid)
    | (have m := mid; rw [show drR S (shnF S w.2.2.1) r = r from if_neg e18] at m; exact m)
