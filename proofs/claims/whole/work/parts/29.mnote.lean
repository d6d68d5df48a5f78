/-! The reference: note, noteLetter, fetch. -/
set_option maxRecDepth 100000 in
set_option maxHeartbeats 4000000 in
theorem c_Mod_isCell (w : pf_W) (ok : pf_ok w) (S : pf_S) (r c : Int32) : pf_C w y_Mod_isCell b_Mod_isCell 2 (some .boolean) 0 0 [.int r, .int c] S (some (.int (if ¬ r < 0 ∧ ¬ 8 ≤ r ∧ ¬ c < 0 ∧ ¬ 20 ≤ c then 1 else 0))) (S) := by
  refine pf_enter (by decide) (Nat.le_of_ble_eq_true rfl) (lv0 := [some (.int r), some (.int c)]) rfl (fun κ h => ?_)
  refine pg_iload_n h d_Mod_isCell_0 rfl ?_
  refine pg_if_lt (tgt := 24) h d_Mod_isCell_1 rfl (fun e1 => ?_) (fun e1 => ?_)
  · skip
    refine pg_iconst (v := 0) h d_Mod_isCell_24 (by decide) ?_
    exact pf_iret h d_Mod_isCell_25 rfl (by first | rfl | simp [*]) rfl
  refine pg_iload_n h d_Mod_isCell_4 rfl ?_
  refine pg_bipush (v := 8) h d_Mod_isCell_5 (by decide) ?_
  refine pg_icmp_ge (tgt := 24) h d_Mod_isCell_7 rfl (fun e7 => ?_) (fun e7 => ?_)
  · skip
    refine pg_iconst (v := 0) h d_Mod_isCell_24 (by decide) ?_
    exact pf_iret h d_Mod_isCell_25 rfl (by first | rfl | simp [*]) rfl
  refine pg_iload_n h d_Mod_isCell_10 rfl ?_
  refine pg_if_lt (tgt := 24) h d_Mod_isCell_11 rfl (fun e11 => ?_) (fun e11 => ?_)
  · skip
    refine pg_iconst (v := 0) h d_Mod_isCell_24 (by decide) ?_
    exact pf_iret h d_Mod_isCell_25 rfl (by first | rfl | simp [*]) rfl
  refine pg_iload_n h d_Mod_isCell_14 rfl ?_
  refine pg_bipush (v := 20) h d_Mod_isCell_15 (by decide) ?_
  refine pg_icmp_ge (tgt := 24) h d_Mod_isCell_17 rfl (fun e17 => ?_) (fun e17 => ?_)
  · skip
    refine pg_iconst (v := 0) h d_Mod_isCell_24 (by decide) ?_
    exact pf_iret h d_Mod_isCell_25 rfl (by first | rfl | simp [*]) rfl
  refine pg_iconst (v := 1) h d_Mod_isCell_20 (by decide) ?_
  refine pg_goto (tgt := 25) h d_Mod_isCell_21 rfl ?_
  exact pf_iret h d_Mod_isCell_25 rfl (by first | rfl | simp [*]) rfl

def sgV (d : Int32) : Int32 := if 10 ≤ d then 55 + d else 48 + d
def chV (c : Int32) : Int32 := if c = 35 then c - 35 else if c = 36 then c - 35 else if c = 64 then 2 else if ¬ c ≤ 90 ∧ ¬ 97 ≤ c then c - 88 else if ¬ c ≤ 122 ∧ ¬ 127 ≤ c then c - 114 else -1
set_option maxRecDepth 100000 in
theorem ch_all : ∀ n, n < 128 → (chV (nI n) = isV (nI n) ∧ (chV (nI n) < 0 ↔ isV (nI n) = -1)) := by decide +kernel

set_option maxRecDepth 100000 in
set_option maxHeartbeats 4000000 in
theorem c_Mod_sign (w : pf_W) (ok : pf_ok w) (S : pf_S) (d : Int32) : pf_C w y_Mod_sign b_Mod_sign 1 (some .int) 0 0 [.int d] S (some (.int (sgV d))) (S) := by
  refine pf_enter (by decide) (Nat.le_of_ble_eq_true rfl) (lv0 := [some (.int d)]) rfl (fun κ h => ?_)
  refine pg_iload_n h d_Mod_sign_0 rfl ?_
  refine pg_bipush (v := 10) h d_Mod_sign_1 (by decide) ?_
  refine pg_icmp_ge (tgt := 13) h d_Mod_sign_3 rfl (fun e3 => ?_) (fun e3 => ?_)
  · skip
    refine pg_bipush (v := 55) h d_Mod_sign_13 (by decide) ?_
    refine pg_iload_n h d_Mod_sign_15 rfl ?_
    refine pg_iadd h d_Mod_sign_16 ?_
    exact pf_iret h d_Mod_sign_17 rfl (by simp [sgV, *]) rfl
  refine pg_bipush (v := 48) h d_Mod_sign_6 (by decide) ?_
  refine pg_iload_n h d_Mod_sign_8 rfl ?_
  refine pg_iadd h d_Mod_sign_9 ?_
  refine pg_goto (tgt := 17) h d_Mod_sign_10 rfl ?_
  exact pf_iret h d_Mod_sign_17 rfl (by simp [sgV, *]) rfl

set_option maxRecDepth 100000 in
set_option maxHeartbeats 4000000 in
theorem c_Mod_changed (w : pf_W) (ok : pf_ok w) (S : pf_S) (c : Int32) : pf_C w y_Mod_changed b_Mod_changed 1 (some .int) 0 0 [.int c] S (some (.int (chV c))) (S) := by
  refine pf_enter (by decide) (Nat.le_of_ble_eq_true rfl) (lv0 := [some (.int c)]) rfl (fun κ h => ?_)
  refine pg_iload_n h d_Mod_changed_0 rfl ?_
  refine pg_bipush (v := 35) h d_Mod_changed_1 (by decide) ?_
  refine pg_icmp_eq (tgt := 12) h d_Mod_changed_3 rfl (fun e3 => ?_) (fun e3 => ?_)
  · skip
    refine pg_iload_n h d_Mod_changed_12 rfl ?_
    refine pg_bipush (v := 35) h d_Mod_changed_13 (by decide) ?_
    refine pg_isub h d_Mod_changed_15 ?_
    refine pg_goto (tgt := 68) h d_Mod_changed_16 rfl ?_
    exact pf_iret h d_Mod_changed_68 rfl (by simp [chV, *]) rfl
  refine pg_iload_n h d_Mod_changed_6 rfl ?_
  refine pg_bipush (v := 36) h d_Mod_changed_7 (by decide) ?_
  refine pg_icmp_ne (tgt := 19) h d_Mod_changed_9 rfl (fun e9 => ?_) (fun e9 => ?_)
  · skip
    refine pg_iload_n h d_Mod_changed_19 rfl ?_
    refine pg_bipush (v := 64) h d_Mod_changed_20 (by decide) ?_
    refine pg_icmp_ne (tgt := 29) h d_Mod_changed_22 rfl (fun e22 => ?_) (fun e22 => ?_)
    · skip
      refine pg_iload_n h d_Mod_changed_29 rfl ?_
      refine pg_bipush (v := 90) h d_Mod_changed_30 (by decide) ?_
      refine pg_icmp_le (tgt := 48) h d_Mod_changed_32 rfl (fun e32 => ?_) (fun e32 => ?_)
      · skip
        refine pg_iload_n h d_Mod_changed_48 rfl ?_
        refine pg_bipush (v := 122) h d_Mod_changed_49 (by decide) ?_
        refine pg_icmp_le (tgt := 67) h d_Mod_changed_51 rfl (fun e51 => ?_) (fun e51 => ?_)
        · skip
          refine pg_iconst (v := (-1)) h d_Mod_changed_67 (by decide) ?_
          exact pf_iret h d_Mod_changed_68 rfl (by simp [chV, *]) rfl
        refine pg_iload_n h d_Mod_changed_54 rfl ?_
        refine pg_bipush (v := 127) h d_Mod_changed_55 (by decide) ?_
        refine pg_icmp_ge (tgt := 67) h d_Mod_changed_57 rfl (fun e57 => ?_) (fun e57 => ?_)
        · skip
          refine pg_iconst (v := (-1)) h d_Mod_changed_67 (by decide) ?_
          exact pf_iret h d_Mod_changed_68 rfl (by simp [chV, *]) rfl
        refine pg_iload_n h d_Mod_changed_60 rfl ?_
        refine pg_bipush (v := 114) h d_Mod_changed_61 (by decide) ?_
        refine pg_isub h d_Mod_changed_63 ?_
        refine pg_goto (tgt := 68) h d_Mod_changed_64 rfl ?_
        exact pf_iret h d_Mod_changed_68 rfl (by simp [chV, *]) rfl
      refine pg_iload_n h d_Mod_changed_35 rfl ?_
      refine pg_bipush (v := 97) h d_Mod_changed_36 (by decide) ?_
      refine pg_icmp_ge (tgt := 48) h d_Mod_changed_38 rfl (fun e38 => ?_) (fun e38 => ?_)
      · skip
        refine pg_iload_n h d_Mod_changed_48 rfl ?_
        refine pg_bipush (v := 122) h d_Mod_changed_49 (by decide) ?_
        refine pg_icmp_le (tgt := 67) h d_Mod_changed_51 rfl (fun e51 => ?_) (fun e51 => ?_)
        · skip
          refine pg_iconst (v := (-1)) h d_Mod_changed_67 (by decide) ?_
          exact pf_iret h d_Mod_changed_68 rfl (by simp [chV, *]) rfl
        refine pg_iload_n h d_Mod_changed_54 rfl ?_
        refine pg_bipush (v := 127) h d_Mod_changed_55 (by decide) ?_
        refine pg_icmp_ge (tgt := 67) h d_Mod_changed_57 rfl (fun e57 => ?_) (fun e57 => ?_)
        · skip
          refine pg_iconst (v := (-1)) h d_Mod_changed_67 (by decide) ?_
          exact pf_iret h d_Mod_changed_68 rfl (by simp [chV, *]) rfl
        refine pg_iload_n h d_Mod_changed_60 rfl ?_
        refine pg_bipush (v := 114) h d_Mod_changed_61 (by decide) ?_
        refine pg_isub h d_Mod_changed_63 ?_
        refine pg_goto (tgt := 68) h d_Mod_changed_64 rfl ?_
        exact pf_iret h d_Mod_changed_68 rfl (by simp [chV, *]) rfl
      refine pg_iload_n h d_Mod_changed_41 rfl ?_
      refine pg_bipush (v := 88) h d_Mod_changed_42 (by decide) ?_
      refine pg_isub h d_Mod_changed_44 ?_
      refine pg_goto (tgt := 68) h d_Mod_changed_45 rfl ?_
      exact pf_iret h d_Mod_changed_68 rfl (by simp [chV, *]) rfl
    refine pg_iconst (v := 2) h d_Mod_changed_25 (by decide) ?_
    refine pg_goto (tgt := 68) h d_Mod_changed_26 rfl ?_
    exact pf_iret h d_Mod_changed_68 rfl (by simp [chV, *]) rfl
  refine pg_iload_n h d_Mod_changed_12 rfl ?_
  refine pg_bipush (v := 35) h d_Mod_changed_13 (by decide) ?_
  refine pg_isub h d_Mod_changed_15 ?_
  refine pg_goto (tgt := 68) h d_Mod_changed_16 rfl ?_
  exact pf_iret h d_Mod_changed_68 rfl (by simp [chV, *]) rfl

def drkP (rv lt : Int32) (g : Nat → Int32) : Prop := (¬ nb (g 4) = 0 ∧ nb rv = 0) ∨ (¬ nb (g 3) = 0 ∧ nb lt = 0)
noncomputable def dkV (rv lt : Int32) (g : Nat → Int32) : Int32 := @ite _ (drkP rv lt g) (Classical.propDecidable _) 1 0
noncomputable def ntV (rv lt : Int32) (g : Nat → Int32) (c : Int32) : Int32 := if dkV rv lt g = 0 then c else 32
noncomputable def fmV (rv lt : Int32) (g : Nat → Int32) (b a : Int32) : Int32 := if nb b = 0 then 0 else if dkV rv lt g = 0 then (if nb a = 0 then 1 else 3) else 0
def tlV (g : Nat → Int32) (lg f : Int32) : Int32 := f + (if nb (g 6) = 0 then 0 else if nb lg = 0 then 0 else 4) + (if nb (g 3) = 0 then 0 else 16) + (if nb (g 4) = 0 then 0 else 32) + (if nb (g 5) = 0 then 0 else 64)
def nt3 (F : Nat → Nat → Int32) (g : Nat → Int32) (x : Nat) (sn : Int32) : Nat → Nat → Int32 := fun a => if a = 36 then upd (F 36) x (g 1) else if a = 35 then upd (F 35) x (g 0) else if a = 34 then upd (F 34) x sn else F a
def nt4 (F : Nat → Nat → Int32) (g : Nat → Int32) (x : Nat) (sn sm : Int32) : Nat → Nat → Int32 := fun a => if a = 37 then upd (F 37) x sm else nt3 F g x sn a

set_option maxRecDepth 100000 in
set_option maxHeartbeats 4000000 in
theorem c_Mod_note (w : pf_W) (ok : pf_ok w) (S : pf_S) (g : Nat → Int32) (lg : Int32) (F : Nat → Nat → Int32) (x : Nat) (hx : x < 20) (c b a : Int32) : pf_C w y_Mod_note b_Mod_note 7 none 0 0 [.ref (w.2.1 20 0), .int (nI x), .int c, .int (nb b), .int (nb a)] (MD S g lg F) (none) (MD S g lg (nt4 F g x (ntV (S 20 0 17) (S 20 0 18) g c) (tlV g lg (fmV (S 20 0 17) (S 20 0 18) g b a)))) := by
  refine pf_enter (by decide) (Nat.le_of_ble_eq_true rfl) (lv0 := [some (.ref (w.2.1 20 0)), some (.int (nI x)), some (.int c), some (.int (nb b)), some (.int (nb a)), none, none]) rfl (fun κ h => ?_)
  have k166 : ∀ (sn f s : Int32) (X : Option Value), sn = ntV (S 20 0 17) (S 20 0 18) g c → f = fmV (S 20 0 17) (S 20 0 18) g b a → s = tlV g lg (fmV (S 20 0 17) (S 20 0 18) g b a) → pg_G κ w.1 7 0 0 (pg_Q κ w.1 (fun r' H => r' = none ∧ pf_P w (MD S g lg (nt4 F g x (ntV (S 20 0 17) (S 20 0 18) g c) (tlV g lg (fmV (S 20 0 17) (S 20 0 18) g b a)))) H) 0 0) (pf_P w (MD S g lg (nt3 F g x sn))) 166 [some (.ref (w.2.1 20 0)), some (.int (nI x)), some (.int c), some (.int (nb b)), some (.int (nb a)), X, some (.int f)] [.int s, .int (nI x), .ref (w.2.1 37 0)] := by
    intro sn f s X hsn hf ht
    refine pf_ist h ok d_Mod_note_166 (by first | rfl | exact hk | exact hk2 | exact dm12 _ | assumption) (fun _ => rfl) (pg_ixN rfl hx (by decide)) ?_
    try simp only [MD25, MD26, MD27, MD28, MD29, MD30, MD31, MD32, MD33, MD34, MD35, MD36, MDF32, MDF33, MDF34, MDF35, MDF36, MDF37, MDs_25, MDs_26, MDs_27, MDs_28, MDs_29, MDs_30, MDs_31, MDs_32, MDs_33, MDs_34, MDs_35, MDs_36, MDs_0, MDs_11, MDs_13, MDs_14, MDs_15, MDs_16, MDs_17, MDs_18, MD_21, MD_22, MD_23, MD_24, MD_25, MD_26, MD_27, MD_28, MD_29, MD_30, MD_31, MD_32, MD_33, MD_34, MD_35, MD_36, MD_37]
    exact pf_vret h d_Mod_note_167 (by rw [← ht, ← hsn]; rfl)
  have k152 : ∀ (sn f s : Int32) (X : Option Value), sn = ntV (S 20 0 17) (S 20 0 18) g c → f = fmV (S 20 0 17) (S 20 0 18) g b a → s + (if nb (g 5) = 0 then 0 else 64) = tlV g lg (fmV (S 20 0 17) (S 20 0 18) g b a) → pg_G κ w.1 7 0 0 (pg_Q κ w.1 (fun r' H => r' = none ∧ pf_P w (MD S g lg (nt4 F g x (ntV (S 20 0 17) (S 20 0 18) g c) (tlV g lg (fmV (S 20 0 17) (S 20 0 18) g b a)))) H) 0 0) (pf_P w (MD S g lg (nt3 F g x sn))) 152 [some (.ref (w.2.1 20 0)), some (.int (nI x)), some (.int c), some (.int (nb b)), some (.int (nb a)), X, some (.int f)] [.int s, .int (nI x), .ref (w.2.1 37 0)] := by
    intro sn f s X hsn hf ht
    refine pg_aload_n h d_Mod_note_152 rfl ?_
    refine pf_get h ok d_Mod_note_153 f_Mod_176 (by first | rfl | exact hk | exact hk2 | exact dm12 _ | assumption) rfl rfl ?_
    try simp only [MD25, MD26, MD27, MD28, MD29, MD30, MD31, MD32, MD33, MD34, MD35, MD36, MDF32, MDF33, MDF34, MDF35, MDF36, MDF37, MDs_25, MDs_26, MDs_27, MDs_28, MDs_29, MDs_30, MDs_31, MDs_32, MDs_33, MDs_34, MDs_35, MDs_36, MDs_0, MDs_11, MDs_13, MDs_14, MDs_15, MDs_16, MDs_17, MDs_18, MD_21, MD_22, MD_23, MD_24, MD_25, MD_26, MD_27, MD_28, MD_29, MD_30, MD_31, MD_32, MD_33, MD_34, MD_35, MD_36, MD_37]
    refine pg_if_eq (tgt := 164) h d_Mod_note_156 rfl (fun e156 => ?_) (fun e156 => ?_)
    · skip
      refine pg_iconst (v := 0) h d_Mod_note_164 (by decide) ?_
      refine pg_iadd h d_Mod_note_165 ?_
      exact k166 sn f _ X hsn hf (by simp only [e156, if_true, if_false] at ht; exact ht)
    refine pg_bipush (v := 64) h d_Mod_note_159 (by decide) ?_
    refine pg_goto (tgt := 165) h d_Mod_note_161 rfl ?_
    refine pg_iadd h d_Mod_note_165 ?_
    exact k166 sn f _ X hsn hf (by simp only [e156, if_true, if_false] at ht; exact ht)
  have k138 : ∀ (sn f s : Int32) (X : Option Value), sn = ntV (S 20 0 17) (S 20 0 18) g c → f = fmV (S 20 0 17) (S 20 0 18) g b a → s + (if nb (g 4) = 0 then 0 else 32) + (if nb (g 5) = 0 then 0 else 64) = tlV g lg (fmV (S 20 0 17) (S 20 0 18) g b a) → pg_G κ w.1 7 0 0 (pg_Q κ w.1 (fun r' H => r' = none ∧ pf_P w (MD S g lg (nt4 F g x (ntV (S 20 0 17) (S 20 0 18) g c) (tlV g lg (fmV (S 20 0 17) (S 20 0 18) g b a)))) H) 0 0) (pf_P w (MD S g lg (nt3 F g x sn))) 138 [some (.ref (w.2.1 20 0)), some (.int (nI x)), some (.int c), some (.int (nb b)), some (.int (nb a)), X, some (.int f)] [.int s, .int (nI x), .ref (w.2.1 37 0)] := by
    intro sn f s X hsn hf ht
    refine pg_aload_n h d_Mod_note_138 rfl ?_
    refine pf_get h ok d_Mod_note_139 f_Mod_173 (by first | rfl | exact hk | exact hk2 | exact dm12 _ | assumption) rfl rfl ?_
    try simp only [MD25, MD26, MD27, MD28, MD29, MD30, MD31, MD32, MD33, MD34, MD35, MD36, MDF32, MDF33, MDF34, MDF35, MDF36, MDF37, MDs_25, MDs_26, MDs_27, MDs_28, MDs_29, MDs_30, MDs_31, MDs_32, MDs_33, MDs_34, MDs_35, MDs_36, MDs_0, MDs_11, MDs_13, MDs_14, MDs_15, MDs_16, MDs_17, MDs_18, MD_21, MD_22, MD_23, MD_24, MD_25, MD_26, MD_27, MD_28, MD_29, MD_30, MD_31, MD_32, MD_33, MD_34, MD_35, MD_36, MD_37]
    refine pg_if_eq (tgt := 150) h d_Mod_note_142 rfl (fun e142 => ?_) (fun e142 => ?_)
    · skip
      refine pg_iconst (v := 0) h d_Mod_note_150 (by decide) ?_
      refine pg_iadd h d_Mod_note_151 ?_
      exact k152 sn f _ X hsn hf (by simp only [e142, if_true, if_false] at ht; exact ht)
    refine pg_bipush (v := 32) h d_Mod_note_145 (by decide) ?_
    refine pg_goto (tgt := 151) h d_Mod_note_147 rfl ?_
    refine pg_iadd h d_Mod_note_151 ?_
    exact k152 sn f _ X hsn hf (by simp only [e142, if_true, if_false] at ht; exact ht)
  have k124 : ∀ (sn f s : Int32) (X : Option Value), sn = ntV (S 20 0 17) (S 20 0 18) g c → f = fmV (S 20 0 17) (S 20 0 18) g b a → s + (if nb (g 3) = 0 then 0 else 16) + (if nb (g 4) = 0 then 0 else 32) + (if nb (g 5) = 0 then 0 else 64) = tlV g lg (fmV (S 20 0 17) (S 20 0 18) g b a) → pg_G κ w.1 7 0 0 (pg_Q κ w.1 (fun r' H => r' = none ∧ pf_P w (MD S g lg (nt4 F g x (ntV (S 20 0 17) (S 20 0 18) g c) (tlV g lg (fmV (S 20 0 17) (S 20 0 18) g b a)))) H) 0 0) (pf_P w (MD S g lg (nt3 F g x sn))) 124 [some (.ref (w.2.1 20 0)), some (.int (nI x)), some (.int c), some (.int (nb b)), some (.int (nb a)), X, some (.int f)] [.int s, .int (nI x), .ref (w.2.1 37 0)] := by
    intro sn f s X hsn hf ht
    refine pg_aload_n h d_Mod_note_124 rfl ?_
    refine pf_get h ok d_Mod_note_125 f_Mod_170 (by first | rfl | exact hk | exact hk2 | exact dm12 _ | assumption) rfl rfl ?_
    try simp only [MD25, MD26, MD27, MD28, MD29, MD30, MD31, MD32, MD33, MD34, MD35, MD36, MDF32, MDF33, MDF34, MDF35, MDF36, MDF37, MDs_25, MDs_26, MDs_27, MDs_28, MDs_29, MDs_30, MDs_31, MDs_32, MDs_33, MDs_34, MDs_35, MDs_36, MDs_0, MDs_11, MDs_13, MDs_14, MDs_15, MDs_16, MDs_17, MDs_18, MD_21, MD_22, MD_23, MD_24, MD_25, MD_26, MD_27, MD_28, MD_29, MD_30, MD_31, MD_32, MD_33, MD_34, MD_35, MD_36, MD_37]
    refine pg_if_eq (tgt := 136) h d_Mod_note_128 rfl (fun e128 => ?_) (fun e128 => ?_)
    · skip
      refine pg_iconst (v := 0) h d_Mod_note_136 (by decide) ?_
      refine pg_iadd h d_Mod_note_137 ?_
      exact k138 sn f _ X hsn hf (by simp only [e128, if_true, if_false] at ht; exact ht)
    refine pg_bipush (v := 16) h d_Mod_note_131 (by decide) ?_
    refine pg_goto (tgt := 137) h d_Mod_note_133 rfl ?_
    refine pg_iadd h d_Mod_note_137 ?_
    exact k138 sn f _ X hsn hf (by simp only [e128, if_true, if_false] at ht; exact ht)
  have k104 : ∀ (sn f s : Int32) (X : Option Value), sn = ntV (S 20 0 17) (S 20 0 18) g c → f = fmV (S 20 0 17) (S 20 0 18) g b a → s + (if nb (g 6) = 0 then 0 else if nb lg = 0 then 0 else 4) + (if nb (g 3) = 0 then 0 else 16) + (if nb (g 4) = 0 then 0 else 32) + (if nb (g 5) = 0 then 0 else 64) = tlV g lg (fmV (S 20 0 17) (S 20 0 18) g b a) → pg_G κ w.1 7 0 0 (pg_Q κ w.1 (fun r' H => r' = none ∧ pf_P w (MD S g lg (nt4 F g x (ntV (S 20 0 17) (S 20 0 18) g c) (tlV g lg (fmV (S 20 0 17) (S 20 0 18) g b a)))) H) 0 0) (pf_P w (MD S g lg (nt3 F g x sn))) 104 [some (.ref (w.2.1 20 0)), some (.int (nI x)), some (.int c), some (.int (nb b)), some (.int (nb a)), X, some (.int f)] [.int s, .int (nI x), .ref (w.2.1 37 0)] := by
    intro sn f s X hsn hf ht
    refine pg_aload_n h d_Mod_note_104 rfl ?_
    refine pf_get h ok d_Mod_note_105 f_Mod_179 (by first | rfl | exact hk | exact hk2 | exact dm12 _ | assumption) rfl rfl ?_
    try simp only [MD25, MD26, MD27, MD28, MD29, MD30, MD31, MD32, MD33, MD34, MD35, MD36, MDF32, MDF33, MDF34, MDF35, MDF36, MDF37, MDs_25, MDs_26, MDs_27, MDs_28, MDs_29, MDs_30, MDs_31, MDs_32, MDs_33, MDs_34, MDs_35, MDs_36, MDs_0, MDs_11, MDs_13, MDs_14, MDs_15, MDs_16, MDs_17, MDs_18, MD_21, MD_22, MD_23, MD_24, MD_25, MD_26, MD_27, MD_28, MD_29, MD_30, MD_31, MD_32, MD_33, MD_34, MD_35, MD_36, MD_37]
    refine pg_if_eq (tgt := 122) h d_Mod_note_108 rfl (fun e108 => ?_) (fun e108 => ?_)
    · skip
      refine pg_iconst (v := 0) h d_Mod_note_122 (by decide) ?_
      refine pg_iadd h d_Mod_note_123 ?_
      exact k124 sn f _ X hsn hf (by first | (simp only [e108, e115, if_true, if_false] at ht; exact ht) | (simp only [e108, if_true, if_false] at ht; exact ht))
    refine pg_aload_n h d_Mod_note_111 rfl ?_
    refine pf_get h ok d_Mod_note_112 f_Mod_204 (by first | rfl | exact hk | exact hk2 | exact dm12 _ | assumption) rfl rfl ?_
    try simp only [MD25, MD26, MD27, MD28, MD29, MD30, MD31, MD32, MD33, MD34, MD35, MD36, MDF32, MDF33, MDF34, MDF35, MDF36, MDF37, MDs_25, MDs_26, MDs_27, MDs_28, MDs_29, MDs_30, MDs_31, MDs_32, MDs_33, MDs_34, MDs_35, MDs_36, MDs_0, MDs_11, MDs_13, MDs_14, MDs_15, MDs_16, MDs_17, MDs_18, MD_21, MD_22, MD_23, MD_24, MD_25, MD_26, MD_27, MD_28, MD_29, MD_30, MD_31, MD_32, MD_33, MD_34, MD_35, MD_36, MD_37]
    refine pg_if_eq (tgt := 122) h d_Mod_note_115 rfl (fun e115 => ?_) (fun e115 => ?_)
    · skip
      refine pg_iconst (v := 0) h d_Mod_note_122 (by decide) ?_
      refine pg_iadd h d_Mod_note_123 ?_
      exact k124 sn f _ X hsn hf (by first | (simp only [e108, e115, if_true, if_false] at ht; exact ht) | (simp only [e108, if_true, if_false] at ht; exact ht))
    refine pg_iconst (v := 4) h d_Mod_note_118 (by decide) ?_
    refine pg_goto (tgt := 123) h d_Mod_note_119 rfl ?_
    refine pg_iadd h d_Mod_note_123 ?_
    exact k124 sn f _ X hsn hf (by first | (simp only [e108, e115, if_true, if_false] at ht; exact ht) | (simp only [e108, if_true, if_false] at ht; exact ht))
  have k95 : ∀ (sn f : Int32) (X Y : Option Value), (∀ v, X = some v → v.category = 1) → sn = ntV (S 20 0 17) (S 20 0 18) g c → f = fmV (S 20 0 17) (S 20 0 18) g b a → pg_G κ w.1 7 0 0 (pg_Q κ w.1 (fun r' H => r' = none ∧ pf_P w (MD S g lg (nt4 F g x (ntV (S 20 0 17) (S 20 0 18) g c) (tlV g lg (fmV (S 20 0 17) (S 20 0 18) g b a)))) H) 0 0) (pf_P w (MD S g lg (nt3 F g x sn))) 95 [some (.ref (w.2.1 20 0)), some (.int (nI x)), some (.int c), some (.int (nb b)), some (.int (nb a)), X, Y] [.int f] := by
    intro sn f X Y hX hsn hf
    refine pg_istore h d_Mod_note_95 (Nat.le_of_ble_eq_true rfl) (by cases X with | none => rfl | some v => simp [pg_no2, hX v rfl]) rfl ?_
    refine pg_aload_n h d_Mod_note_97 rfl ?_
    refine pf_get h ok d_Mod_note_98 f_Mod_67 (by first | rfl | exact hk | exact hk2 | exact dm12 _ | assumption) rfl rfl ?_
    try simp only [MD25, MD26, MD27, MD28, MD29, MD30, MD31, MD32, MD33, MD34, MD35, MD36, MDF32, MDF33, MDF34, MDF35, MDF36, MDF37, MDs_25, MDs_26, MDs_27, MDs_28, MDs_29, MDs_30, MDs_31, MDs_32, MDs_33, MDs_34, MDs_35, MDs_36, MDs_0, MDs_11, MDs_13, MDs_14, MDs_15, MDs_16, MDs_17, MDs_18, MD_21, MD_22, MD_23, MD_24, MD_25, MD_26, MD_27, MD_28, MD_29, MD_30, MD_31, MD_32, MD_33, MD_34, MD_35, MD_36, MD_37]
    refine pg_iload_n h d_Mod_note_101 rfl ?_
    refine pg_iload h d_Mod_note_102 rfl ?_
    exact k104 sn f f X hsn hf (by rw [hf]; rfl)
  have k33 : ∀ (d : Int32) (X Y : Option Value), d = dkV (S 20 0 17) (S 20 0 18) g → pg_G κ w.1 7 0 0 (pg_Q κ w.1 (fun r' H => r' = none ∧ pf_P w (MD S g lg (nt4 F g x (ntV (S 20 0 17) (S 20 0 18) g c) (tlV g lg (fmV (S 20 0 17) (S 20 0 18) g b a)))) H) 0 0) (pf_P w (MD S g lg F)) 33 [some (.ref (w.2.1 20 0)), some (.int (nI x)), some (.int c), some (.int (nb b)), some (.int (nb a)), X, Y] [.int d] := by
    intro d X Y hd
    refine pg_istore h d_Mod_note_33 (Nat.le_of_ble_eq_true rfl) rfl rfl ?_
    refine pg_aload_n h d_Mod_note_35 rfl ?_
    refine pf_get h ok d_Mod_note_36 f_Mod_58 (by first | rfl | exact hk | exact hk2 | exact dm12 _ | assumption) rfl rfl ?_
    try simp only [MD25, MD26, MD27, MD28, MD29, MD30, MD31, MD32, MD33, MD34, MD35, MD36, MDF32, MDF33, MDF34, MDF35, MDF36, MDF37, MDs_25, MDs_26, MDs_27, MDs_28, MDs_29, MDs_30, MDs_31, MDs_32, MDs_33, MDs_34, MDs_35, MDs_36, MDs_0, MDs_11, MDs_13, MDs_14, MDs_15, MDs_16, MDs_17, MDs_18, MD_21, MD_22, MD_23, MD_24, MD_25, MD_26, MD_27, MD_28, MD_29, MD_30, MD_31, MD_32, MD_33, MD_34, MD_35, MD_36, MD_37]
    refine pg_iload_n h d_Mod_note_39 rfl ?_
    refine pg_iload h d_Mod_note_40 rfl ?_
    refine pg_if_eq (tgt := 50) h d_Mod_note_42 rfl (fun e42 => ?_) (fun e42 => ?_)
    · skip
      refine pg_iload_n h d_Mod_note_50 rfl ?_
      refine pf_ist h ok d_Mod_note_51 (by first | rfl | exact hk | exact hk2 | exact dm12 _ | assumption) (fun _ => rfl) (pg_ixN rfl hx (by decide)) ?_
      try simp only [MD25, MD26, MD27, MD28, MD29, MD30, MD31, MD32, MD33, MD34, MD35, MD36, MDF32, MDF33, MDF34, MDF35, MDF36, MDF37, MDs_25, MDs_26, MDs_27, MDs_28, MDs_29, MDs_30, MDs_31, MDs_32, MDs_33, MDs_34, MDs_35, MDs_36, MDs_0, MDs_11, MDs_13, MDs_14, MDs_15, MDs_16, MDs_17, MDs_18, MD_21, MD_22, MD_23, MD_24, MD_25, MD_26, MD_27, MD_28, MD_29, MD_30, MD_31, MD_32, MD_33, MD_34, MD_35, MD_36, MD_37]
      refine pg_aload_n h d_Mod_note_52 rfl ?_
      refine pf_get h ok d_Mod_note_53 f_Mod_61 (by first | rfl | exact hk | exact hk2 | exact dm12 _ | assumption) rfl rfl ?_
      try simp only [MD25, MD26, MD27, MD28, MD29, MD30, MD31, MD32, MD33, MD34, MD35, MD36, MDF32, MDF33, MDF34, MDF35, MDF36, MDF37, MDs_25, MDs_26, MDs_27, MDs_28, MDs_29, MDs_30, MDs_31, MDs_32, MDs_33, MDs_34, MDs_35, MDs_36, MDs_0, MDs_11, MDs_13, MDs_14, MDs_15, MDs_16, MDs_17, MDs_18, MD_21, MD_22, MD_23, MD_24, MD_25, MD_26, MD_27, MD_28, MD_29, MD_30, MD_31, MD_32, MD_33, MD_34, MD_35, MD_36, MD_37]
      refine pg_iload_n h d_Mod_note_56 rfl ?_
      refine pg_aload_n h d_Mod_note_57 rfl ?_
      refine pf_get h ok d_Mod_note_58 f_Mod_161 (by first | rfl | exact hk | exact hk2 | exact dm12 _ | assumption) rfl rfl ?_
      try simp only [MD25, MD26, MD27, MD28, MD29, MD30, MD31, MD32, MD33, MD34, MD35, MD36, MDF32, MDF33, MDF34, MDF35, MDF36, MDF37, MDs_25, MDs_26, MDs_27, MDs_28, MDs_29, MDs_30, MDs_31, MDs_32, MDs_33, MDs_34, MDs_35, MDs_36, MDs_0, MDs_11, MDs_13, MDs_14, MDs_15, MDs_16, MDs_17, MDs_18, MD_21, MD_22, MD_23, MD_24, MD_25, MD_26, MD_27, MD_28, MD_29, MD_30, MD_31, MD_32, MD_33, MD_34, MD_35, MD_36, MD_37]
      refine pf_ist h ok d_Mod_note_61 (by first | rfl | exact hk | exact hk2 | exact dm12 _ | assumption) (fun _ => rfl) (pg_ixN rfl hx (by decide)) ?_
      try simp only [MD25, MD26, MD27, MD28, MD29, MD30, MD31, MD32, MD33, MD34, MD35, MD36, MDF32, MDF33, MDF34, MDF35, MDF36, MDF37, MDs_25, MDs_26, MDs_27, MDs_28, MDs_29, MDs_30, MDs_31, MDs_32, MDs_33, MDs_34, MDs_35, MDs_36, MDs_0, MDs_11, MDs_13, MDs_14, MDs_15, MDs_16, MDs_17, MDs_18, MD_21, MD_22, MD_23, MD_24, MD_25, MD_26, MD_27, MD_28, MD_29, MD_30, MD_31, MD_32, MD_33, MD_34, MD_35, MD_36, MD_37]
      refine pg_aload_n h d_Mod_note_62 rfl ?_
      refine pf_get h ok d_Mod_note_63 f_Mod_64 (by first | rfl | exact hk | exact hk2 | exact dm12 _ | assumption) rfl rfl ?_
      try simp only [MD25, MD26, MD27, MD28, MD29, MD30, MD31, MD32, MD33, MD34, MD35, MD36, MDF32, MDF33, MDF34, MDF35, MDF36, MDF37, MDs_25, MDs_26, MDs_27, MDs_28, MDs_29, MDs_30, MDs_31, MDs_32, MDs_33, MDs_34, MDs_35, MDs_36, MDs_0, MDs_11, MDs_13, MDs_14, MDs_15, MDs_16, MDs_17, MDs_18, MD_21, MD_22, MD_23, MD_24, MD_25, MD_26, MD_27, MD_28, MD_29, MD_30, MD_31, MD_32, MD_33, MD_34, MD_35, MD_36, MD_37]
      refine pg_iload_n h d_Mod_note_66 rfl ?_
      refine pg_aload_n h d_Mod_note_67 rfl ?_
      refine pf_get h ok d_Mod_note_68 f_Mod_164 (by first | rfl | exact hk | exact hk2 | exact dm12 _ | assumption) rfl rfl ?_
      try simp only [MD25, MD26, MD27, MD28, MD29, MD30, MD31, MD32, MD33, MD34, MD35, MD36, MDF32, MDF33, MDF34, MDF35, MDF36, MDF37, MDs_25, MDs_26, MDs_27, MDs_28, MDs_29, MDs_30, MDs_31, MDs_32, MDs_33, MDs_34, MDs_35, MDs_36, MDs_0, MDs_11, MDs_13, MDs_14, MDs_15, MDs_16, MDs_17, MDs_18, MD_21, MD_22, MD_23, MD_24, MD_25, MD_26, MD_27, MD_28, MD_29, MD_30, MD_31, MD_32, MD_33, MD_34, MD_35, MD_36, MD_37]
      refine pf_ist h ok d_Mod_note_71 (by first | rfl | exact hk | exact hk2 | exact dm12 _ | assumption) (fun _ => rfl) (pg_ixN rfl hx (by decide)) ?_
      try simp only [MD25, MD26, MD27, MD28, MD29, MD30, MD31, MD32, MD33, MD34, MD35, MD36, MDF32, MDF33, MDF34, MDF35, MDF36, MDF37, MDs_25, MDs_26, MDs_27, MDs_28, MDs_29, MDs_30, MDs_31, MDs_32, MDs_33, MDs_34, MDs_35, MDs_36, MDs_0, MDs_11, MDs_13, MDs_14, MDs_15, MDs_16, MDs_17, MDs_18, MD_21, MD_22, MD_23, MD_24, MD_25, MD_26, MD_27, MD_28, MD_29, MD_30, MD_31, MD_32, MD_33, MD_34, MD_35, MD_36, MD_37]
      refine pg_iload_n h d_Mod_note_72 rfl ?_
      refine pg_if_eq (tgt := 94) h d_Mod_note_73 rfl (fun e73 => ?_) (fun e73 => ?_)
      · skip
        refine pg_iconst (v := 0) h d_Mod_note_94 (by decide) ?_
        first
          | exact absurd e42 e78
          | exact absurd e78 e42
          | exact k95 _ _ _ _ (fun v hv => by cases hv; rfl) (by rw [ntV, ← hd]; clear hd k95 k104 k124 k138 k152 k166; simp [*]) (by rw [fmV, ← hd]; clear hd k95 k104 k124 k138 k152 k166; simp [*])
      refine pg_iload h d_Mod_note_76 rfl ?_
      refine pg_if_ne (tgt := 94) h d_Mod_note_78 rfl (fun e78 => ?_) (fun e78 => ?_)
      · skip
        refine pg_iconst (v := 0) h d_Mod_note_94 (by decide) ?_
        first
          | exact absurd e42 e78
          | exact absurd e78 e42
          | exact k95 _ _ _ _ (fun v hv => by cases hv; rfl) (by rw [ntV, ← hd]; clear hd k95 k104 k124 k138 k152 k166; simp [*]) (by rw [fmV, ← hd]; clear hd k95 k104 k124 k138 k152 k166; simp [*])
      refine pg_iload h d_Mod_note_81 rfl ?_
      refine pg_if_eq (tgt := 90) h d_Mod_note_83 rfl (fun e83 => ?_) (fun e83 => ?_)
      · skip
        refine pg_iconst (v := 1) h d_Mod_note_90 (by decide) ?_
        refine pg_goto (tgt := 95) h d_Mod_note_91 rfl ?_
        first
          | exact absurd e42 e78
          | exact absurd e78 e42
          | exact k95 _ _ _ _ (fun v hv => by cases hv; rfl) (by rw [ntV, ← hd]; clear hd k95 k104 k124 k138 k152 k166; simp [*]) (by rw [fmV, ← hd]; clear hd k95 k104 k124 k138 k152 k166; simp [*])
      refine pg_iconst (v := 3) h d_Mod_note_86 (by decide) ?_
      refine pg_goto (tgt := 95) h d_Mod_note_87 rfl ?_
      first
        | exact absurd e42 e78
        | exact absurd e78 e42
        | exact k95 _ _ _ _ (fun v hv => by cases hv; rfl) (by rw [ntV, ← hd]; clear hd k95 k104 k124 k138 k152 k166; simp [*]) (by rw [fmV, ← hd]; clear hd k95 k104 k124 k138 k152 k166; simp [*])
    refine pg_bipush (v := 32) h d_Mod_note_45 (by decide) ?_
    refine pg_goto (tgt := 51) h d_Mod_note_47 rfl ?_
    refine pf_ist h ok d_Mod_note_51 (by first | rfl | exact hk | exact hk2 | exact dm12 _ | assumption) (fun _ => rfl) (pg_ixN rfl hx (by decide)) ?_
    try simp only [MD25, MD26, MD27, MD28, MD29, MD30, MD31, MD32, MD33, MD34, MD35, MD36, MDF32, MDF33, MDF34, MDF35, MDF36, MDF37, MDs_25, MDs_26, MDs_27, MDs_28, MDs_29, MDs_30, MDs_31, MDs_32, MDs_33, MDs_34, MDs_35, MDs_36, MDs_0, MDs_11, MDs_13, MDs_14, MDs_15, MDs_16, MDs_17, MDs_18, MD_21, MD_22, MD_23, MD_24, MD_25, MD_26, MD_27, MD_28, MD_29, MD_30, MD_31, MD_32, MD_33, MD_34, MD_35, MD_36, MD_37]
    refine pg_aload_n h d_Mod_note_52 rfl ?_
    refine pf_get h ok d_Mod_note_53 f_Mod_61 (by first | rfl | exact hk | exact hk2 | exact dm12 _ | assumption) rfl rfl ?_
    try simp only [MD25, MD26, MD27, MD28, MD29, MD30, MD31, MD32, MD33, MD34, MD35, MD36, MDF32, MDF33, MDF34, MDF35, MDF36, MDF37, MDs_25, MDs_26, MDs_27, MDs_28, MDs_29, MDs_30, MDs_31, MDs_32, MDs_33, MDs_34, MDs_35, MDs_36, MDs_0, MDs_11, MDs_13, MDs_14, MDs_15, MDs_16, MDs_17, MDs_18, MD_21, MD_22, MD_23, MD_24, MD_25, MD_26, MD_27, MD_28, MD_29, MD_30, MD_31, MD_32, MD_33, MD_34, MD_35, MD_36, MD_37]
    refine pg_iload_n h d_Mod_note_56 rfl ?_
    refine pg_aload_n h d_Mod_note_57 rfl ?_
    refine pf_get h ok d_Mod_note_58 f_Mod_161 (by first | rfl | exact hk | exact hk2 | exact dm12 _ | assumption) rfl rfl ?_
    try simp only [MD25, MD26, MD27, MD28, MD29, MD30, MD31, MD32, MD33, MD34, MD35, MD36, MDF32, MDF33, MDF34, MDF35, MDF36, MDF37, MDs_25, MDs_26, MDs_27, MDs_28, MDs_29, MDs_30, MDs_31, MDs_32, MDs_33, MDs_34, MDs_35, MDs_36, MDs_0, MDs_11, MDs_13, MDs_14, MDs_15, MDs_16, MDs_17, MDs_18, MD_21, MD_22, MD_23, MD_24, MD_25, MD_26, MD_27, MD_28, MD_29, MD_30, MD_31, MD_32, MD_33, MD_34, MD_35, MD_36, MD_37]
    refine pf_ist h ok d_Mod_note_61 (by first | rfl | exact hk | exact hk2 | exact dm12 _ | assumption) (fun _ => rfl) (pg_ixN rfl hx (by decide)) ?_
    try simp only [MD25, MD26, MD27, MD28, MD29, MD30, MD31, MD32, MD33, MD34, MD35, MD36, MDF32, MDF33, MDF34, MDF35, MDF36, MDF37, MDs_25, MDs_26, MDs_27, MDs_28, MDs_29, MDs_30, MDs_31, MDs_32, MDs_33, MDs_34, MDs_35, MDs_36, MDs_0, MDs_11, MDs_13, MDs_14, MDs_15, MDs_16, MDs_17, MDs_18, MD_21, MD_22, MD_23, MD_24, MD_25, MD_26, MD_27, MD_28, MD_29, MD_30, MD_31, MD_32, MD_33, MD_34, MD_35, MD_36, MD_37]
    refine pg_aload_n h d_Mod_note_62 rfl ?_
    refine pf_get h ok d_Mod_note_63 f_Mod_64 (by first | rfl | exact hk | exact hk2 | exact dm12 _ | assumption) rfl rfl ?_
    try simp only [MD25, MD26, MD27, MD28, MD29, MD30, MD31, MD32, MD33, MD34, MD35, MD36, MDF32, MDF33, MDF34, MDF35, MDF36, MDF37, MDs_25, MDs_26, MDs_27, MDs_28, MDs_29, MDs_30, MDs_31, MDs_32, MDs_33, MDs_34, MDs_35, MDs_36, MDs_0, MDs_11, MDs_13, MDs_14, MDs_15, MDs_16, MDs_17, MDs_18, MD_21, MD_22, MD_23, MD_24, MD_25, MD_26, MD_27, MD_28, MD_29, MD_30, MD_31, MD_32, MD_33, MD_34, MD_35, MD_36, MD_37]
    refine pg_iload_n h d_Mod_note_66 rfl ?_
    refine pg_aload_n h d_Mod_note_67 rfl ?_
    refine pf_get h ok d_Mod_note_68 f_Mod_164 (by first | rfl | exact hk | exact hk2 | exact dm12 _ | assumption) rfl rfl ?_
    try simp only [MD25, MD26, MD27, MD28, MD29, MD30, MD31, MD32, MD33, MD34, MD35, MD36, MDF32, MDF33, MDF34, MDF35, MDF36, MDF37, MDs_25, MDs_26, MDs_27, MDs_28, MDs_29, MDs_30, MDs_31, MDs_32, MDs_33, MDs_34, MDs_35, MDs_36, MDs_0, MDs_11, MDs_13, MDs_14, MDs_15, MDs_16, MDs_17, MDs_18, MD_21, MD_22, MD_23, MD_24, MD_25, MD_26, MD_27, MD_28, MD_29, MD_30, MD_31, MD_32, MD_33, MD_34, MD_35, MD_36, MD_37]
    refine pf_ist h ok d_Mod_note_71 (by first | rfl | exact hk | exact hk2 | exact dm12 _ | assumption) (fun _ => rfl) (pg_ixN rfl hx (by decide)) ?_
    try simp only [MD25, MD26, MD27, MD28, MD29, MD30, MD31, MD32, MD33, MD34, MD35, MD36, MDF32, MDF33, MDF34, MDF35, MDF36, MDF37, MDs_25, MDs_26, MDs_27, MDs_28, MDs_29, MDs_30, MDs_31, MDs_32, MDs_33, MDs_34, MDs_35, MDs_36, MDs_0, MDs_11, MDs_13, MDs_14, MDs_15, MDs_16, MDs_17, MDs_18, MD_21, MD_22, MD_23, MD_24, MD_25, MD_26, MD_27, MD_28, MD_29, MD_30, MD_31, MD_32, MD_33, MD_34, MD_35, MD_36, MD_37]
    refine pg_iload_n h d_Mod_note_72 rfl ?_
    refine pg_if_eq (tgt := 94) h d_Mod_note_73 rfl (fun e73 => ?_) (fun e73 => ?_)
    · skip
      refine pg_iconst (v := 0) h d_Mod_note_94 (by decide) ?_
      first
        | exact absurd e42 e78
        | exact absurd e78 e42
        | exact k95 _ _ _ _ (fun v hv => by cases hv; rfl) (by rw [ntV, ← hd]; clear hd k95 k104 k124 k138 k152 k166; simp [*]) (by rw [fmV, ← hd]; clear hd k95 k104 k124 k138 k152 k166; simp [*])
    refine pg_iload h d_Mod_note_76 rfl ?_
    refine pg_if_ne (tgt := 94) h d_Mod_note_78 rfl (fun e78 => ?_) (fun e78 => ?_)
    · skip
      refine pg_iconst (v := 0) h d_Mod_note_94 (by decide) ?_
      first
        | exact absurd e42 e78
        | exact absurd e78 e42
        | exact k95 _ _ _ _ (fun v hv => by cases hv; rfl) (by rw [ntV, ← hd]; clear hd k95 k104 k124 k138 k152 k166; simp [*]) (by rw [fmV, ← hd]; clear hd k95 k104 k124 k138 k152 k166; simp [*])
    refine pg_iload h d_Mod_note_81 rfl ?_
    refine pg_if_eq (tgt := 90) h d_Mod_note_83 rfl (fun e83 => ?_) (fun e83 => ?_)
    · skip
      refine pg_iconst (v := 1) h d_Mod_note_90 (by decide) ?_
      refine pg_goto (tgt := 95) h d_Mod_note_91 rfl ?_
      first
        | exact absurd e42 e78
        | exact absurd e78 e42
        | exact k95 _ _ _ _ (fun v hv => by cases hv; rfl) (by rw [ntV, ← hd]; clear hd k95 k104 k124 k138 k152 k166; simp [*]) (by rw [fmV, ← hd]; clear hd k95 k104 k124 k138 k152 k166; simp [*])
    refine pg_iconst (v := 3) h d_Mod_note_86 (by decide) ?_
    refine pg_goto (tgt := 95) h d_Mod_note_87 rfl ?_
    first
      | exact absurd e42 e78
      | exact absurd e78 e42
      | exact k95 _ _ _ _ (fun v hv => by cases hv; rfl) (by rw [ntV, ← hd]; clear hd k95 k104 k124 k138 k152 k166; simp [*]) (by rw [fmV, ← hd]; clear hd k95 k104 k124 k138 k152 k166; simp [*])
  refine pg_aload_n h d_Mod_note_0 rfl ?_
  refine pf_get h ok d_Mod_note_1 f_Mod_173 (by first | rfl | exact hk | exact hk2 | exact dm12 _ | assumption) rfl rfl ?_
  try simp only [MD25, MD26, MD27, MD28, MD29, MD30, MD31, MD32, MD33, MD34, MD35, MD36, MDF32, MDF33, MDF34, MDF35, MDF36, MDF37, MDs_25, MDs_26, MDs_27, MDs_28, MDs_29, MDs_30, MDs_31, MDs_32, MDs_33, MDs_34, MDs_35, MDs_36, MDs_0, MDs_11, MDs_13, MDs_14, MDs_15, MDs_16, MDs_17, MDs_18, MD_21, MD_22, MD_23, MD_24, MD_25, MD_26, MD_27, MD_28, MD_29, MD_30, MD_31, MD_32, MD_33, MD_34, MD_35, MD_36, MD_37]
  refine pg_if_eq (tgt := 14) h d_Mod_note_4 rfl (fun e4 => ?_) (fun e4 => ?_)
  · skip
    refine pg_aload_n h d_Mod_note_14 rfl ?_
    refine pf_get h ok d_Mod_note_15 f_Mod_170 (by first | rfl | exact hk | exact hk2 | exact dm12 _ | assumption) rfl rfl ?_
    try simp only [MD25, MD26, MD27, MD28, MD29, MD30, MD31, MD32, MD33, MD34, MD35, MD36, MDF32, MDF33, MDF34, MDF35, MDF36, MDF37, MDs_25, MDs_26, MDs_27, MDs_28, MDs_29, MDs_30, MDs_31, MDs_32, MDs_33, MDs_34, MDs_35, MDs_36, MDs_0, MDs_11, MDs_13, MDs_14, MDs_15, MDs_16, MDs_17, MDs_18, MD_21, MD_22, MD_23, MD_24, MD_25, MD_26, MD_27, MD_28, MD_29, MD_30, MD_31, MD_32, MD_33, MD_34, MD_35, MD_36, MD_37]
    refine pg_if_eq (tgt := 32) h d_Mod_note_18 rfl (fun e18 => ?_) (fun e18 => ?_)
    · skip
      refine pg_iconst (v := 0) h d_Mod_note_32 (by decide) ?_
      exact k33 _ _ _ (by unfold dkV; simp [drkP, *])
    refine pg_aload_n h d_Mod_note_21 rfl ?_
    refine pf_get h ok d_Mod_note_22 f_Mod_48 (by first | rfl | exact hk | exact hk2 | exact dm12 _ | assumption) rfl rfl ?_
    try simp only [MD25, MD26, MD27, MD28, MD29, MD30, MD31, MD32, MD33, MD34, MD35, MD36, MDF32, MDF33, MDF34, MDF35, MDF36, MDF37, MDs_25, MDs_26, MDs_27, MDs_28, MDs_29, MDs_30, MDs_31, MDs_32, MDs_33, MDs_34, MDs_35, MDs_36, MDs_0, MDs_11, MDs_13, MDs_14, MDs_15, MDs_16, MDs_17, MDs_18, MD_21, MD_22, MD_23, MD_24, MD_25, MD_26, MD_27, MD_28, MD_29, MD_30, MD_31, MD_32, MD_33, MD_34, MD_35, MD_36, MD_37]
    refine pg_if_ne (tgt := 32) h d_Mod_note_25 rfl (fun e25 => ?_) (fun e25 => ?_)
    · skip
      refine pg_iconst (v := 0) h d_Mod_note_32 (by decide) ?_
      exact k33 _ _ _ (by unfold dkV; simp [drkP, *])
    refine pg_iconst (v := 1) h d_Mod_note_28 (by decide) ?_
    refine pg_goto (tgt := 33) h d_Mod_note_29 rfl ?_
    exact k33 _ _ _ (by unfold dkV; simp [drkP, *])
  refine pg_aload_n h d_Mod_note_7 rfl ?_
  refine pf_get h ok d_Mod_note_8 f_Mod_135 (by first | rfl | exact hk | exact hk2 | exact dm12 _ | assumption) rfl rfl ?_
  try simp only [MD25, MD26, MD27, MD28, MD29, MD30, MD31, MD32, MD33, MD34, MD35, MD36, MDF32, MDF33, MDF34, MDF35, MDF36, MDF37, MDs_25, MDs_26, MDs_27, MDs_28, MDs_29, MDs_30, MDs_31, MDs_32, MDs_33, MDs_34, MDs_35, MDs_36, MDs_0, MDs_11, MDs_13, MDs_14, MDs_15, MDs_16, MDs_17, MDs_18, MD_21, MD_22, MD_23, MD_24, MD_25, MD_26, MD_27, MD_28, MD_29, MD_30, MD_31, MD_32, MD_33, MD_34, MD_35, MD_36, MD_37]
  refine pg_if_eq (tgt := 28) h d_Mod_note_11 rfl (fun e11 => ?_) (fun e11 => ?_)
  · skip
    refine pg_iconst (v := 1) h d_Mod_note_28 (by decide) ?_
    refine pg_goto (tgt := 33) h d_Mod_note_29 rfl ?_
    exact k33 _ _ _ (by unfold dkV; simp [drkP, *])
  refine pg_aload_n h d_Mod_note_14 rfl ?_
  refine pf_get h ok d_Mod_note_15 f_Mod_170 (by first | rfl | exact hk | exact hk2 | exact dm12 _ | assumption) rfl rfl ?_
  try simp only [MD25, MD26, MD27, MD28, MD29, MD30, MD31, MD32, MD33, MD34, MD35, MD36, MDF32, MDF33, MDF34, MDF35, MDF36, MDF37, MDs_25, MDs_26, MDs_27, MDs_28, MDs_29, MDs_30, MDs_31, MDs_32, MDs_33, MDs_34, MDs_35, MDs_36, MDs_0, MDs_11, MDs_13, MDs_14, MDs_15, MDs_16, MDs_17, MDs_18, MD_21, MD_22, MD_23, MD_24, MD_25, MD_26, MD_27, MD_28, MD_29, MD_30, MD_31, MD_32, MD_33, MD_34, MD_35, MD_36, MD_37]
  refine pg_if_eq (tgt := 32) h d_Mod_note_18 rfl (fun e18 => ?_) (fun e18 => ?_)
  · skip
    refine pg_iconst (v := 0) h d_Mod_note_32 (by decide) ?_
    exact k33 _ _ _ (by unfold dkV; simp [drkP, *])
  refine pg_aload_n h d_Mod_note_21 rfl ?_
  refine pf_get h ok d_Mod_note_22 f_Mod_48 (by first | rfl | exact hk | exact hk2 | exact dm12 _ | assumption) rfl rfl ?_
  try simp only [MD25, MD26, MD27, MD28, MD29, MD30, MD31, MD32, MD33, MD34, MD35, MD36, MDF32, MDF33, MDF34, MDF35, MDF36, MDF37, MDs_25, MDs_26, MDs_27, MDs_28, MDs_29, MDs_30, MDs_31, MDs_32, MDs_33, MDs_34, MDs_35, MDs_36, MDs_0, MDs_11, MDs_13, MDs_14, MDs_15, MDs_16, MDs_17, MDs_18, MD_21, MD_22, MD_23, MD_24, MD_25, MD_26, MD_27, MD_28, MD_29, MD_30, MD_31, MD_32, MD_33, MD_34, MD_35, MD_36, MD_37]
  refine pg_if_ne (tgt := 32) h d_Mod_note_25 rfl (fun e25 => ?_) (fun e25 => ?_)
  · skip
    refine pg_iconst (v := 0) h d_Mod_note_32 (by decide) ?_
    exact k33 _ _ _ (by unfold dkV; simp [drkP, *])
  refine pg_iconst (v := 1) h d_Mod_note_28 (by decide) ?_
  refine pg_goto (tgt := 33) h d_Mod_note_29 rfl ?_
  exact k33 _ _ _ (by unfold dkV; simp [drkP, *])

/-- what noteLetter does to the states, and what it notes -/
noncomputable def nlF (F : Nat → Nat → Int32) (g : Nat → Int32) (lg rv lt : Int32) (x : Nat) (c s : Int32) : Nat → Nat → Int32 := if ¬ F 33 x = 0 then nt4 F g x (ntV rv lt g (F 33 x)) (tlV g lg (fmV rv lt g 0 0)) else if ¬ nb (g 2) = 0 ∧ (c < 64 ∨ ¬ c ≤ 95) then nt4 F (hlG g c (g 7)) x (ntV rv lt (hlG g c (g 7)) c) (tlV (hlG g c (g 7)) lg (fmV rv lt (hlG g c (g 7)) 1 (g 7))) else nt4 F g x (ntV rv lt g (losV c s)) (tlV g lg (fmV rv lt g 0 0))

theorem c_note00 (w : pf_W) (ok : pf_ok w) (S : pf_S) (g : Nat → Int32) (lg : Int32) (F : Nat → Nat → Int32) (x : Nat) (hx : x < 20) (c : Int32) : pf_C w y_Mod_note b_Mod_note 7 none 0 0 [.ref (w.2.1 20 0), .int (nI x), .int c, .int 0, .int 0] (MD S g lg F) none (MD S g lg (nt4 F g x (ntV (S 20 0 17) (S 20 0 18) g c) (tlV g lg (fmV (S 20 0 17) (S 20 0 18) g 0 0)))) := c_Mod_note w ok S g lg F x hx c 0 0
theorem c_note1 (w : pf_W) (ok : pf_ok w) (S : pf_S) (g : Nat → Int32) (lg : Int32) (F : Nat → Nat → Int32) (x : Nat) (hx : x < 20) (c a : Int32) : pf_C w y_Mod_note b_Mod_note 7 none 0 0 [.ref (w.2.1 20 0), .int (nI x), .int c, .int 1, .int (nb a)] (MD S g lg F) none (MD S g lg (nt4 F g x (ntV (S 20 0 17) (S 20 0 18) g c) (tlV g lg (fmV (S 20 0 17) (S 20 0 18) g 1 a)))) := c_Mod_note w ok S g lg F x hx c 1 a

set_option maxRecDepth 100000 in
set_option maxHeartbeats 4000000 in
theorem c_Mod_noteLetter (w : pf_W) (ok : pf_ok w) (S : pf_S) (g : Nat → Int32) (lg : Int32) (F : Nat → Nat → Int32) (x : Nat) (hx : x < 20) (n : Nat) (hn : n < 128) (s : Int32) : pf_C w y_Mod_noteLetter b_Mod_noteLetter 6 none 1 26 [.ref (w.2.1 20 0), .int (nI x), .int (nI n), .int s] (MD S g lg F) (none) (MD S (dlG g (nI n) (F 33 x)) lg (nlF F g lg (S 20 0 17) (S 20 0 18) x (nI n) s)) := by
  refine pf_enter (by decide) (Nat.le_of_ble_eq_true rfl) (lv0 := [some (.ref (w.2.1 20 0)), some (.int (nI x)), some (.int (nI n)), some (.int s), none, none]) rfl (fun κ h => ?_)
  obtain ⟨k1, k2⟩ := ch_all n hn
  refine pg_aload_n h d_Mod_noteLetter_0 rfl ?_
  refine pf_get h ok d_Mod_noteLetter_1 f_Mod_167 (by first | rfl | exact hk | exact hk2 | exact dm12 _ | assumption) rfl rfl ?_
  try simp only [MD25, MD26, MD27, MD28, MD29, MD30, MD31, MD32, MD33, MD34, MD35, MD36, MDF32, MDF33, MDF34, MDF35, MDF36, MDF37, MDs_25, MDs_26, MDs_27, MDs_28, MDs_29, MDs_30, MDs_31, MDs_32, MDs_33, MDs_34, MDs_35, MDs_36, MDs_0, MDs_11, MDs_13, MDs_14, MDs_15, MDs_16, MDs_17, MDs_18, MD_21, MD_22, MD_23, MD_24, MD_25, MD_26, MD_27, MD_28, MD_29, MD_30, MD_31, MD_32, MD_33, MD_34, MD_35, MD_36, MD_37]
  refine pg_if_eq (tgt := 23) h d_Mod_noteLetter_4 rfl (fun e4 => ?_) (fun e4 => ?_)
  · skip
    refine pg_iconst (v := 0) h d_Mod_noteLetter_23 (by decide) ?_
    refine pg_istore h d_Mod_noteLetter_24 (Nat.le_of_ble_eq_true rfl) rfl rfl ?_
    refine pg_aload_n h d_Mod_noteLetter_26 rfl ?_
    refine pf_get h ok d_Mod_noteLetter_27 f_Mod_55 (by first | rfl | exact hk | exact hk2 | exact dm12 _ | assumption) rfl rfl ?_
    try simp only [MD25, MD26, MD27, MD28, MD29, MD30, MD31, MD32, MD33, MD34, MD35, MD36, MDF32, MDF33, MDF34, MDF35, MDF36, MDF37, MDs_25, MDs_26, MDs_27, MDs_28, MDs_29, MDs_30, MDs_31, MDs_32, MDs_33, MDs_34, MDs_35, MDs_36, MDs_0, MDs_11, MDs_13, MDs_14, MDs_15, MDs_16, MDs_17, MDs_18, MD_21, MD_22, MD_23, MD_24, MD_25, MD_26, MD_27, MD_28, MD_29, MD_30, MD_31, MD_32, MD_33, MD_34, MD_35, MD_36, MD_37]
    refine pg_iload_n h d_Mod_noteLetter_30 rfl ?_
    refine pf_ild h ok d_Mod_noteLetter_31 (by first | rfl | exact hk | exact hk2 | exact dm12 _ | assumption) rfl (pg_ixN rfl hx (by decide)) ?_
    try simp only [MD25, MD26, MD27, MD28, MD29, MD30, MD31, MD32, MD33, MD34, MD35, MD36, MDF32, MDF33, MDF34, MDF35, MDF36, MDF37, MDs_25, MDs_26, MDs_27, MDs_28, MDs_29, MDs_30, MDs_31, MDs_32, MDs_33, MDs_34, MDs_35, MDs_36, MDs_0, MDs_11, MDs_13, MDs_14, MDs_15, MDs_16, MDs_17, MDs_18, MD_21, MD_22, MD_23, MD_24, MD_25, MD_26, MD_27, MD_28, MD_29, MD_30, MD_31, MD_32, MD_33, MD_34, MD_35, MD_36, MD_37]
    refine pg_if_eq (tgt := 49) h d_Mod_noteLetter_32 rfl (fun e32 => ?_) (fun e32 => ?_)
    · skip
      refine pg_iload h d_Mod_noteLetter_49 rfl ?_
      refine pg_if_eq (tgt := 79) h d_Mod_noteLetter_51 rfl (fun e51 => ?_) (fun e51 => ?_)
      · skip
        refine pg_iload_n h d_Mod_noteLetter_79 rfl ?_
        refine pg_if_ne (tgt := 87) h d_Mod_noteLetter_80 rfl (fun e80 => ?_) (fun e80 => ?_)
        · skip
          refine pg_iload_n h d_Mod_noteLetter_87 rfl ?_
          refine pg_cS h d_Mod_noteLetter_88 m_Mod_changed l_Mod_211 (c_Mod_changed w ok _ (nI n)) rfl rfl (Nat.le_of_ble_eq_true rfl) ⟨(Nat.le_of_ble_eq_true rfl), (Nat.le_of_ble_eq_true rfl)⟩ ⟨Nat.le_refl _, Nat.le_refl _⟩ ?_
          try simp only [MD25, MD26, MD27, MD28, MD29, MD30, MD31, MD32, MD33, MD34, MD35, MD36, MDF32, MDF33, MDF34, MDF35, MDF36, MDF37, MDs_25, MDs_26, MDs_27, MDs_28, MDs_29, MDs_30, MDs_31, MDs_32, MDs_33, MDs_34, MDs_35, MDs_36, MDs_0, MDs_11, MDs_13, MDs_14, MDs_15, MDs_16, MDs_17, MDs_18, MD_21, MD_22, MD_23, MD_24, MD_25, MD_26, MD_27, MD_28, MD_29, MD_30, MD_31, MD_32, MD_33, MD_34, MD_35, MD_36, MD_37]
          refine pg_istore h d_Mod_noteLetter_91 (Nat.le_of_ble_eq_true rfl) rfl rfl ?_
          refine pg_aload_n h d_Mod_noteLetter_93 rfl ?_
          refine pg_iload_n h d_Mod_noteLetter_94 rfl ?_
          refine pg_iload h d_Mod_noteLetter_95 rfl ?_
          refine pg_if_ge (tgt := 104) h d_Mod_noteLetter_97 rfl (fun e97 => ?_) (fun e97 => ?_)
          · skip
            refine pg_sipush (v := 512) h d_Mod_noteLetter_104 (by decide) ?_
            refine pg_bipush (v := 16) h d_Mod_noteLetter_107 (by decide) ?_
            refine pg_iload_n h d_Mod_noteLetter_109 rfl ?_
            refine pg_imul h d_Mod_noteLetter_110 ?_
            refine pg_iadd h d_Mod_noteLetter_111 ?_
            refine pg_iload h d_Mod_noteLetter_112 rfl ?_
            refine pg_iadd h d_Mod_noteLetter_114 ?_
            refine pg_iconst (v := 0) h d_Mod_noteLetter_115 (by decide) ?_
            refine pg_iconst (v := 0) h d_Mod_noteLetter_116 (by decide) ?_
            refine pf_cV0 h ok d_Mod_noteLetter_117 m_Mod_note l_Mod_207 (c_note00 w ok S g lg F x hx _) cn_Mod (by first | rfl | exact hk | exact hk2 | exact dm12 _ | assumption) rfl rfl rfl (Nat.le_of_ble_eq_true rfl) ⟨(Nat.le_of_ble_eq_true rfl), (Nat.le_of_ble_eq_true rfl)⟩ ⟨Nat.le_refl _, Nat.le_refl _⟩ ?_
            try simp only [MD25, MD26, MD27, MD28, MD29, MD30, MD31, MD32, MD33, MD34, MD35, MD36, MDF32, MDF33, MDF34, MDF35, MDF36, MDF37, MDs_25, MDs_26, MDs_27, MDs_28, MDs_29, MDs_30, MDs_31, MDs_32, MDs_33, MDs_34, MDs_35, MDs_36, MDs_0, MDs_11, MDs_13, MDs_14, MDs_15, MDs_16, MDs_17, MDs_18, MD_21, MD_22, MD_23, MD_24, MD_25, MD_26, MD_27, MD_28, MD_29, MD_30, MD_31, MD_32, MD_33, MD_34, MD_35, MD_36, MD_37]
            exact pf_vret h d_Mod_noteLetter_120 (by first | exact absurd rfl e51 | exact absurd e51 (by decide) | exact absurd e97 (by decide) | (rw [k1] at *; simp [dlG, nlF, losV, *]; done) | (simp [dlG, nlF, losV, hlG, *]; done) | (have k3 := k2.mp (Int32.not_le.mp e97); rw [k1] at *; simp [dlG, nlF, losV, *]; done) | (have k3 : ¬ isV (nI n) = -1 := fun q => absurd (k2.mpr q) (Int32.not_lt.mpr e97); simp [dlG, nlF, losV, k1, *]; done) | (simp [dlG, nlF, losV, *]; rfl))
          refine pg_iload_n h d_Mod_noteLetter_100 rfl ?_
          refine pg_goto (tgt := 115) h d_Mod_noteLetter_101 rfl ?_
          refine pg_iconst (v := 0) h d_Mod_noteLetter_115 (by decide) ?_
          refine pg_iconst (v := 0) h d_Mod_noteLetter_116 (by decide) ?_
          refine pf_cV0 h ok d_Mod_noteLetter_117 m_Mod_note l_Mod_207 (c_note00 w ok S g lg F x hx _) cn_Mod (by first | rfl | exact hk | exact hk2 | exact dm12 _ | assumption) rfl rfl rfl (Nat.le_of_ble_eq_true rfl) ⟨(Nat.le_of_ble_eq_true rfl), (Nat.le_of_ble_eq_true rfl)⟩ ⟨Nat.le_refl _, Nat.le_refl _⟩ ?_
          try simp only [MD25, MD26, MD27, MD28, MD29, MD30, MD31, MD32, MD33, MD34, MD35, MD36, MDF32, MDF33, MDF34, MDF35, MDF36, MDF37, MDs_25, MDs_26, MDs_27, MDs_28, MDs_29, MDs_30, MDs_31, MDs_32, MDs_33, MDs_34, MDs_35, MDs_36, MDs_0, MDs_11, MDs_13, MDs_14, MDs_15, MDs_16, MDs_17, MDs_18, MD_21, MD_22, MD_23, MD_24, MD_25, MD_26, MD_27, MD_28, MD_29, MD_30, MD_31, MD_32, MD_33, MD_34, MD_35, MD_36, MD_37]
          exact pf_vret h d_Mod_noteLetter_120 (by first | exact absurd rfl e51 | exact absurd e51 (by decide) | exact absurd e97 (by decide) | (rw [k1] at *; simp [dlG, nlF, losV, *]; done) | (simp [dlG, nlF, losV, hlG, *]; done) | (have k3 := k2.mp (Int32.not_le.mp e97); rw [k1] at *; simp [dlG, nlF, losV, *]; done) | (have k3 : ¬ isV (nI n) = -1 := fun q => absurd (k2.mpr q) (Int32.not_lt.mpr e97); simp [dlG, nlF, losV, k1, *]; done) | (simp [dlG, nlF, losV, *]; rfl))
        refine pg_iconst (v := (-1)) h d_Mod_noteLetter_83 (by decide) ?_
        refine pg_goto (tgt := 91) h d_Mod_noteLetter_84 rfl ?_
        refine pg_istore h d_Mod_noteLetter_91 (Nat.le_of_ble_eq_true rfl) rfl rfl ?_
        refine pg_aload_n h d_Mod_noteLetter_93 rfl ?_
        refine pg_iload_n h d_Mod_noteLetter_94 rfl ?_
        refine pg_iload h d_Mod_noteLetter_95 rfl ?_
        refine pg_if_ge (tgt := 104) h d_Mod_noteLetter_97 rfl (fun e97 => ?_) (fun e97 => ?_)
        · skip
          refine pg_sipush (v := 512) h d_Mod_noteLetter_104 (by decide) ?_
          refine pg_bipush (v := 16) h d_Mod_noteLetter_107 (by decide) ?_
          refine pg_iload_n h d_Mod_noteLetter_109 rfl ?_
          refine pg_imul h d_Mod_noteLetter_110 ?_
          refine pg_iadd h d_Mod_noteLetter_111 ?_
          refine pg_iload h d_Mod_noteLetter_112 rfl ?_
          refine pg_iadd h d_Mod_noteLetter_114 ?_
          refine pg_iconst (v := 0) h d_Mod_noteLetter_115 (by decide) ?_
          refine pg_iconst (v := 0) h d_Mod_noteLetter_116 (by decide) ?_
          refine pf_cV0 h ok d_Mod_noteLetter_117 m_Mod_note l_Mod_207 (c_note00 w ok S g lg F x hx _) cn_Mod (by first | rfl | exact hk | exact hk2 | exact dm12 _ | assumption) rfl rfl rfl (Nat.le_of_ble_eq_true rfl) ⟨(Nat.le_of_ble_eq_true rfl), (Nat.le_of_ble_eq_true rfl)⟩ ⟨Nat.le_refl _, Nat.le_refl _⟩ ?_
          try simp only [MD25, MD26, MD27, MD28, MD29, MD30, MD31, MD32, MD33, MD34, MD35, MD36, MDF32, MDF33, MDF34, MDF35, MDF36, MDF37, MDs_25, MDs_26, MDs_27, MDs_28, MDs_29, MDs_30, MDs_31, MDs_32, MDs_33, MDs_34, MDs_35, MDs_36, MDs_0, MDs_11, MDs_13, MDs_14, MDs_15, MDs_16, MDs_17, MDs_18, MD_21, MD_22, MD_23, MD_24, MD_25, MD_26, MD_27, MD_28, MD_29, MD_30, MD_31, MD_32, MD_33, MD_34, MD_35, MD_36, MD_37]
          exact pf_vret h d_Mod_noteLetter_120 (by first | exact absurd rfl e51 | exact absurd e51 (by decide) | exact absurd e97 (by decide) | (rw [k1] at *; simp [dlG, nlF, losV, *]; done) | (simp [dlG, nlF, losV, hlG, *]; done) | (have k3 := k2.mp (Int32.not_le.mp e97); rw [k1] at *; simp [dlG, nlF, losV, *]; done) | (have k3 : ¬ isV (nI n) = -1 := fun q => absurd (k2.mpr q) (Int32.not_lt.mpr e97); simp [dlG, nlF, losV, k1, *]; done) | (simp [dlG, nlF, losV, *]; rfl))
        refine pg_iload_n h d_Mod_noteLetter_100 rfl ?_
        refine pg_goto (tgt := 115) h d_Mod_noteLetter_101 rfl ?_
        refine pg_iconst (v := 0) h d_Mod_noteLetter_115 (by decide) ?_
        refine pg_iconst (v := 0) h d_Mod_noteLetter_116 (by decide) ?_
        refine pf_cV0 h ok d_Mod_noteLetter_117 m_Mod_note l_Mod_207 (c_note00 w ok S g lg F x hx _) cn_Mod (by first | rfl | exact hk | exact hk2 | exact dm12 _ | assumption) rfl rfl rfl (Nat.le_of_ble_eq_true rfl) ⟨(Nat.le_of_ble_eq_true rfl), (Nat.le_of_ble_eq_true rfl)⟩ ⟨Nat.le_refl _, Nat.le_refl _⟩ ?_
        try simp only [MD25, MD26, MD27, MD28, MD29, MD30, MD31, MD32, MD33, MD34, MD35, MD36, MDF32, MDF33, MDF34, MDF35, MDF36, MDF37, MDs_25, MDs_26, MDs_27, MDs_28, MDs_29, MDs_30, MDs_31, MDs_32, MDs_33, MDs_34, MDs_35, MDs_36, MDs_0, MDs_11, MDs_13, MDs_14, MDs_15, MDs_16, MDs_17, MDs_18, MD_21, MD_22, MD_23, MD_24, MD_25, MD_26, MD_27, MD_28, MD_29, MD_30, MD_31, MD_32, MD_33, MD_34, MD_35, MD_36, MD_37]
        exact pf_vret h d_Mod_noteLetter_120 (by first | exact absurd rfl e51 | exact absurd e51 (by decide) | exact absurd e97 (by decide) | (rw [k1] at *; simp [dlG, nlF, losV, *]; done) | (simp [dlG, nlF, losV, hlG, *]; done) | (have k3 := k2.mp (Int32.not_le.mp e97); rw [k1] at *; simp [dlG, nlF, losV, *]; done) | (have k3 : ¬ isV (nI n) = -1 := fun q => absurd (k2.mpr q) (Int32.not_lt.mpr e97); simp [dlG, nlF, losV, k1, *]; done) | (simp [dlG, nlF, losV, *]; rfl))
      refine pg_aload_n h d_Mod_noteLetter_54 rfl ?_
      refine pg_iload_n h d_Mod_noteLetter_55 rfl ?_
      refine pf_puti h ok d_Mod_noteLetter_56 fw_Mod_191 (by first | rfl | exact hk | exact hk2 | exact dm12 _ | assumption) rfl (Nat.le_of_ble_eq_true rfl) rfl ?_
      try simp only [MD25, MD26, MD27, MD28, MD29, MD30, MD31, MD32, MD33, MD34, MD35, MD36, MDF32, MDF33, MDF34, MDF35, MDF36, MDF37, MDs_25, MDs_26, MDs_27, MDs_28, MDs_29, MDs_30, MDs_31, MDs_32, MDs_33, MDs_34, MDs_35, MDs_36, MDs_0, MDs_11, MDs_13, MDs_14, MDs_15, MDs_16, MDs_17, MDs_18, MD_21, MD_22, MD_23, MD_24, MD_25, MD_26, MD_27, MD_28, MD_29, MD_30, MD_31, MD_32, MD_33, MD_34, MD_35, MD_36, MD_37]
      refine pg_aload_n h d_Mod_noteLetter_59 rfl ?_
      refine pg_aload_n h d_Mod_noteLetter_60 rfl ?_
      refine pf_get h ok d_Mod_noteLetter_61 f_Mod_182 (by first | rfl | exact hk | exact hk2 | exact dm12 _ | assumption) rfl rfl ?_
      try simp only [MD25, MD26, MD27, MD28, MD29, MD30, MD31, MD32, MD33, MD34, MD35, MD36, MDF32, MDF33, MDF34, MDF35, MDF36, MDF37, MDs_25, MDs_26, MDs_27, MDs_28, MDs_29, MDs_30, MDs_31, MDs_32, MDs_33, MDs_34, MDs_35, MDs_36, MDs_0, MDs_11, MDs_13, MDs_14, MDs_15, MDs_16, MDs_17, MDs_18, MD_21, MD_22, MD_23, MD_24, MD_25, MD_26, MD_27, MD_28, MD_29, MD_30, MD_31, MD_32, MD_33, MD_34, MD_35, MD_36, MD_37]
      refine pf_putz _ h ok d_Mod_noteLetter_64 fw_Mod_194 (by first | rfl | exact hk | exact hk2 | exact dm12 _ | assumption) rfl (Nat.le_of_ble_eq_true rfl) rfl ?_
      try simp only [MD25, MD26, MD27, MD28, MD29, MD30, MD31, MD32, MD33, MD34, MD35, MD36, MDF32, MDF33, MDF34, MDF35, MDF36, MDF37, MDs_25, MDs_26, MDs_27, MDs_28, MDs_29, MDs_30, MDs_31, MDs_32, MDs_33, MDs_34, MDs_35, MDs_36, MDs_0, MDs_11, MDs_13, MDs_14, MDs_15, MDs_16, MDs_17, MDs_18, MD_21, MD_22, MD_23, MD_24, MD_25, MD_26, MD_27, MD_28, MD_29, MD_30, MD_31, MD_32, MD_33, MD_34, MD_35, MD_36, MD_37]
      refine pg_aload_n h d_Mod_noteLetter_67 rfl ?_
      refine pg_iload_n h d_Mod_noteLetter_68 rfl ?_
      refine pg_iload_n h d_Mod_noteLetter_69 rfl ?_
      refine pg_iconst (v := 1) h d_Mod_noteLetter_70 (by decide) ?_
      refine pg_aload_n h d_Mod_noteLetter_71 rfl ?_
      refine pf_get h ok d_Mod_noteLetter_72 f_Mod_182 (by first | rfl | exact hk | exact hk2 | exact dm12 _ | assumption) rfl rfl ?_
      try simp only [MD25, MD26, MD27, MD28, MD29, MD30, MD31, MD32, MD33, MD34, MD35, MD36, MDF32, MDF33, MDF34, MDF35, MDF36, MDF37, MDs_25, MDs_26, MDs_27, MDs_28, MDs_29, MDs_30, MDs_31, MDs_32, MDs_33, MDs_34, MDs_35, MDs_36, MDs_0, MDs_11, MDs_13, MDs_14, MDs_15, MDs_16, MDs_17, MDs_18, MD_21, MD_22, MD_23, MD_24, MD_25, MD_26, MD_27, MD_28, MD_29, MD_30, MD_31, MD_32, MD_33, MD_34, MD_35, MD_36, MD_37]
      refine pf_cV0 h ok d_Mod_noteLetter_75 m_Mod_note l_Mod_207 (c_note1 w ok S _ lg F x hx (nI n) (g 7)) cn_Mod (by first | rfl | exact hk | exact hk2 | exact dm12 _ | assumption) rfl rfl rfl (Nat.le_of_ble_eq_true rfl) ⟨(Nat.le_of_ble_eq_true rfl), (Nat.le_of_ble_eq_true rfl)⟩ ⟨Nat.le_refl _, Nat.le_refl _⟩ ?_
      try simp only [MD25, MD26, MD27, MD28, MD29, MD30, MD31, MD32, MD33, MD34, MD35, MD36, MDF32, MDF33, MDF34, MDF35, MDF36, MDF37, MDs_25, MDs_26, MDs_27, MDs_28, MDs_29, MDs_30, MDs_31, MDs_32, MDs_33, MDs_34, MDs_35, MDs_36, MDs_0, MDs_11, MDs_13, MDs_14, MDs_15, MDs_16, MDs_17, MDs_18, MD_21, MD_22, MD_23, MD_24, MD_25, MD_26, MD_27, MD_28, MD_29, MD_30, MD_31, MD_32, MD_33, MD_34, MD_35, MD_36, MD_37]
      exact pf_vret h d_Mod_noteLetter_78 (by first | exact absurd rfl e51 | exact absurd e51 (by decide) | exact absurd e97 (by decide) | (rw [k1] at *; simp [dlG, nlF, losV, *]; done) | (simp [dlG, nlF, losV, hlG, *]; done) | (have k3 := k2.mp (Int32.not_le.mp e97); rw [k1] at *; simp [dlG, nlF, losV, *]; done) | (have k3 : ¬ isV (nI n) = -1 := fun q => absurd (k2.mpr q) (Int32.not_lt.mpr e97); simp [dlG, nlF, losV, k1, *]; done) | (simp [dlG, nlF, losV, *]; rfl))
    refine pg_aload_n h d_Mod_noteLetter_35 rfl ?_
    refine pg_iload_n h d_Mod_noteLetter_36 rfl ?_
    refine pg_aload_n h d_Mod_noteLetter_37 rfl ?_
    refine pf_get h ok d_Mod_noteLetter_38 f_Mod_55 (by first | rfl | exact hk | exact hk2 | exact dm12 _ | assumption) rfl rfl ?_
    try simp only [MD25, MD26, MD27, MD28, MD29, MD30, MD31, MD32, MD33, MD34, MD35, MD36, MDF32, MDF33, MDF34, MDF35, MDF36, MDF37, MDs_25, MDs_26, MDs_27, MDs_28, MDs_29, MDs_30, MDs_31, MDs_32, MDs_33, MDs_34, MDs_35, MDs_36, MDs_0, MDs_11, MDs_13, MDs_14, MDs_15, MDs_16, MDs_17, MDs_18, MD_21, MD_22, MD_23, MD_24, MD_25, MD_26, MD_27, MD_28, MD_29, MD_30, MD_31, MD_32, MD_33, MD_34, MD_35, MD_36, MD_37]
    refine pg_iload_n h d_Mod_noteLetter_41 rfl ?_
    refine pf_ild h ok d_Mod_noteLetter_42 (by first | rfl | exact hk | exact hk2 | exact dm12 _ | assumption) rfl (pg_ixN rfl hx (by decide)) ?_
    try simp only [MD25, MD26, MD27, MD28, MD29, MD30, MD31, MD32, MD33, MD34, MD35, MD36, MDF32, MDF33, MDF34, MDF35, MDF36, MDF37, MDs_25, MDs_26, MDs_27, MDs_28, MDs_29, MDs_30, MDs_31, MDs_32, MDs_33, MDs_34, MDs_35, MDs_36, MDs_0, MDs_11, MDs_13, MDs_14, MDs_15, MDs_16, MDs_17, MDs_18, MD_21, MD_22, MD_23, MD_24, MD_25, MD_26, MD_27, MD_28, MD_29, MD_30, MD_31, MD_32, MD_33, MD_34, MD_35, MD_36, MD_37]
    refine pg_iconst (v := 0) h d_Mod_noteLetter_43 (by decide) ?_
    refine pg_iconst (v := 0) h d_Mod_noteLetter_44 (by decide) ?_
    refine pf_cV0 h ok d_Mod_noteLetter_45 m_Mod_note l_Mod_207 (c_note00 w ok S g lg F x hx (F 33 x)) cn_Mod (by first | rfl | exact hk | exact hk2 | exact dm12 _ | assumption) rfl rfl rfl (Nat.le_of_ble_eq_true rfl) ⟨(Nat.le_of_ble_eq_true rfl), (Nat.le_of_ble_eq_true rfl)⟩ ⟨Nat.le_refl _, Nat.le_refl _⟩ ?_
    try simp only [MD25, MD26, MD27, MD28, MD29, MD30, MD31, MD32, MD33, MD34, MD35, MD36, MDF32, MDF33, MDF34, MDF35, MDF36, MDF37, MDs_25, MDs_26, MDs_27, MDs_28, MDs_29, MDs_30, MDs_31, MDs_32, MDs_33, MDs_34, MDs_35, MDs_36, MDs_0, MDs_11, MDs_13, MDs_14, MDs_15, MDs_16, MDs_17, MDs_18, MD_21, MD_22, MD_23, MD_24, MD_25, MD_26, MD_27, MD_28, MD_29, MD_30, MD_31, MD_32, MD_33, MD_34, MD_35, MD_36, MD_37]
    exact pf_vret h d_Mod_noteLetter_48 (by first | exact absurd rfl e51 | exact absurd e51 (by decide) | exact absurd e97 (by decide) | (rw [k1] at *; simp [dlG, nlF, losV, *]; done) | (simp [dlG, nlF, losV, hlG, *]; done) | (have k3 := k2.mp (Int32.not_le.mp e97); rw [k1] at *; simp [dlG, nlF, losV, *]; done) | (have k3 : ¬ isV (nI n) = -1 := fun q => absurd (k2.mpr q) (Int32.not_lt.mpr e97); simp [dlG, nlF, losV, k1, *]; done) | (simp [dlG, nlF, losV, *]; rfl))
  refine pg_iload_n h d_Mod_noteLetter_7 rfl ?_
  refine pg_bipush (v := 64) h d_Mod_noteLetter_8 (by decide) ?_
  refine pg_icmp_lt (tgt := 19) h d_Mod_noteLetter_10 rfl (fun e10 => ?_) (fun e10 => ?_)
  · skip
    refine pg_iconst (v := 1) h d_Mod_noteLetter_19 (by decide) ?_
    refine pg_goto (tgt := 24) h d_Mod_noteLetter_20 rfl ?_
    refine pg_istore h d_Mod_noteLetter_24 (Nat.le_of_ble_eq_true rfl) rfl rfl ?_
    refine pg_aload_n h d_Mod_noteLetter_26 rfl ?_
    refine pf_get h ok d_Mod_noteLetter_27 f_Mod_55 (by first | rfl | exact hk | exact hk2 | exact dm12 _ | assumption) rfl rfl ?_
    try simp only [MD25, MD26, MD27, MD28, MD29, MD30, MD31, MD32, MD33, MD34, MD35, MD36, MDF32, MDF33, MDF34, MDF35, MDF36, MDF37, MDs_25, MDs_26, MDs_27, MDs_28, MDs_29, MDs_30, MDs_31, MDs_32, MDs_33, MDs_34, MDs_35, MDs_36, MDs_0, MDs_11, MDs_13, MDs_14, MDs_15, MDs_16, MDs_17, MDs_18, MD_21, MD_22, MD_23, MD_24, MD_25, MD_26, MD_27, MD_28, MD_29, MD_30, MD_31, MD_32, MD_33, MD_34, MD_35, MD_36, MD_37]
    refine pg_iload_n h d_Mod_noteLetter_30 rfl ?_
    refine pf_ild h ok d_Mod_noteLetter_31 (by first | rfl | exact hk | exact hk2 | exact dm12 _ | assumption) rfl (pg_ixN rfl hx (by decide)) ?_
    try simp only [MD25, MD26, MD27, MD28, MD29, MD30, MD31, MD32, MD33, MD34, MD35, MD36, MDF32, MDF33, MDF34, MDF35, MDF36, MDF37, MDs_25, MDs_26, MDs_27, MDs_28, MDs_29, MDs_30, MDs_31, MDs_32, MDs_33, MDs_34, MDs_35, MDs_36, MDs_0, MDs_11, MDs_13, MDs_14, MDs_15, MDs_16, MDs_17, MDs_18, MD_21, MD_22, MD_23, MD_24, MD_25, MD_26, MD_27, MD_28, MD_29, MD_30, MD_31, MD_32, MD_33, MD_34, MD_35, MD_36, MD_37]
    refine pg_if_eq (tgt := 49) h d_Mod_noteLetter_32 rfl (fun e32 => ?_) (fun e32 => ?_)
    · skip
      refine pg_iload h d_Mod_noteLetter_49 rfl ?_
      refine pg_if_eq (tgt := 79) h d_Mod_noteLetter_51 rfl (fun e51 => ?_) (fun e51 => ?_)
      · skip
        refine pg_iload_n h d_Mod_noteLetter_79 rfl ?_
        refine pg_if_ne (tgt := 87) h d_Mod_noteLetter_80 rfl (fun e80 => ?_) (fun e80 => ?_)
        · skip
          refine pg_iload_n h d_Mod_noteLetter_87 rfl ?_
          refine pg_cS h d_Mod_noteLetter_88 m_Mod_changed l_Mod_211 (c_Mod_changed w ok _ (nI n)) rfl rfl (Nat.le_of_ble_eq_true rfl) ⟨(Nat.le_of_ble_eq_true rfl), (Nat.le_of_ble_eq_true rfl)⟩ ⟨Nat.le_refl _, Nat.le_refl _⟩ ?_
          try simp only [MD25, MD26, MD27, MD28, MD29, MD30, MD31, MD32, MD33, MD34, MD35, MD36, MDF32, MDF33, MDF34, MDF35, MDF36, MDF37, MDs_25, MDs_26, MDs_27, MDs_28, MDs_29, MDs_30, MDs_31, MDs_32, MDs_33, MDs_34, MDs_35, MDs_36, MDs_0, MDs_11, MDs_13, MDs_14, MDs_15, MDs_16, MDs_17, MDs_18, MD_21, MD_22, MD_23, MD_24, MD_25, MD_26, MD_27, MD_28, MD_29, MD_30, MD_31, MD_32, MD_33, MD_34, MD_35, MD_36, MD_37]
          refine pg_istore h d_Mod_noteLetter_91 (Nat.le_of_ble_eq_true rfl) rfl rfl ?_
          refine pg_aload_n h d_Mod_noteLetter_93 rfl ?_
          refine pg_iload_n h d_Mod_noteLetter_94 rfl ?_
          refine pg_iload h d_Mod_noteLetter_95 rfl ?_
          refine pg_if_ge (tgt := 104) h d_Mod_noteLetter_97 rfl (fun e97 => ?_) (fun e97 => ?_)
          · skip
            refine pg_sipush (v := 512) h d_Mod_noteLetter_104 (by decide) ?_
            refine pg_bipush (v := 16) h d_Mod_noteLetter_107 (by decide) ?_
            refine pg_iload_n h d_Mod_noteLetter_109 rfl ?_
            refine pg_imul h d_Mod_noteLetter_110 ?_
            refine pg_iadd h d_Mod_noteLetter_111 ?_
            refine pg_iload h d_Mod_noteLetter_112 rfl ?_
            refine pg_iadd h d_Mod_noteLetter_114 ?_
            refine pg_iconst (v := 0) h d_Mod_noteLetter_115 (by decide) ?_
            refine pg_iconst (v := 0) h d_Mod_noteLetter_116 (by decide) ?_
            refine pf_cV0 h ok d_Mod_noteLetter_117 m_Mod_note l_Mod_207 (c_note00 w ok S g lg F x hx _) cn_Mod (by first | rfl | exact hk | exact hk2 | exact dm12 _ | assumption) rfl rfl rfl (Nat.le_of_ble_eq_true rfl) ⟨(Nat.le_of_ble_eq_true rfl), (Nat.le_of_ble_eq_true rfl)⟩ ⟨Nat.le_refl _, Nat.le_refl _⟩ ?_
            try simp only [MD25, MD26, MD27, MD28, MD29, MD30, MD31, MD32, MD33, MD34, MD35, MD36, MDF32, MDF33, MDF34, MDF35, MDF36, MDF37, MDs_25, MDs_26, MDs_27, MDs_28, MDs_29, MDs_30, MDs_31, MDs_32, MDs_33, MDs_34, MDs_35, MDs_36, MDs_0, MDs_11, MDs_13, MDs_14, MDs_15, MDs_16, MDs_17, MDs_18, MD_21, MD_22, MD_23, MD_24, MD_25, MD_26, MD_27, MD_28, MD_29, MD_30, MD_31, MD_32, MD_33, MD_34, MD_35, MD_36, MD_37]
            exact pf_vret h d_Mod_noteLetter_120 (by first | exact absurd rfl e51 | exact absurd e51 (by decide) | exact absurd e97 (by decide) | (rw [k1] at *; simp [dlG, nlF, losV, *]; done) | (simp [dlG, nlF, losV, hlG, *]; done) | (have k3 := k2.mp (Int32.not_le.mp e97); rw [k1] at *; simp [dlG, nlF, losV, *]; done) | (have k3 : ¬ isV (nI n) = -1 := fun q => absurd (k2.mpr q) (Int32.not_lt.mpr e97); simp [dlG, nlF, losV, k1, *]; done) | (simp [dlG, nlF, losV, *]; rfl))
          refine pg_iload_n h d_Mod_noteLetter_100 rfl ?_
          refine pg_goto (tgt := 115) h d_Mod_noteLetter_101 rfl ?_
          refine pg_iconst (v := 0) h d_Mod_noteLetter_115 (by decide) ?_
          refine pg_iconst (v := 0) h d_Mod_noteLetter_116 (by decide) ?_
          refine pf_cV0 h ok d_Mod_noteLetter_117 m_Mod_note l_Mod_207 (c_note00 w ok S g lg F x hx _) cn_Mod (by first | rfl | exact hk | exact hk2 | exact dm12 _ | assumption) rfl rfl rfl (Nat.le_of_ble_eq_true rfl) ⟨(Nat.le_of_ble_eq_true rfl), (Nat.le_of_ble_eq_true rfl)⟩ ⟨Nat.le_refl _, Nat.le_refl _⟩ ?_
          try simp only [MD25, MD26, MD27, MD28, MD29, MD30, MD31, MD32, MD33, MD34, MD35, MD36, MDF32, MDF33, MDF34, MDF35, MDF36, MDF37, MDs_25, MDs_26, MDs_27, MDs_28, MDs_29, MDs_30, MDs_31, MDs_32, MDs_33, MDs_34, MDs_35, MDs_36, MDs_0, MDs_11, MDs_13, MDs_14, MDs_15, MDs_16, MDs_17, MDs_18, MD_21, MD_22, MD_23, MD_24, MD_25, MD_26, MD_27, MD_28, MD_29, MD_30, MD_31, MD_32, MD_33, MD_34, MD_35, MD_36, MD_37]
          exact pf_vret h d_Mod_noteLetter_120 (by first | exact absurd rfl e51 | exact absurd e51 (by decide) | exact absurd e97 (by decide) | (rw [k1] at *; simp [dlG, nlF, losV, *]; done) | (simp [dlG, nlF, losV, hlG, *]; done) | (have k3 := k2.mp (Int32.not_le.mp e97); rw [k1] at *; simp [dlG, nlF, losV, *]; done) | (have k3 : ¬ isV (nI n) = -1 := fun q => absurd (k2.mpr q) (Int32.not_lt.mpr e97); simp [dlG, nlF, losV, k1, *]; done) | (simp [dlG, nlF, losV, *]; rfl))
        refine pg_iconst (v := (-1)) h d_Mod_noteLetter_83 (by decide) ?_
        refine pg_goto (tgt := 91) h d_Mod_noteLetter_84 rfl ?_
        refine pg_istore h d_Mod_noteLetter_91 (Nat.le_of_ble_eq_true rfl) rfl rfl ?_
        refine pg_aload_n h d_Mod_noteLetter_93 rfl ?_
        refine pg_iload_n h d_Mod_noteLetter_94 rfl ?_
        refine pg_iload h d_Mod_noteLetter_95 rfl ?_
        refine pg_if_ge (tgt := 104) h d_Mod_noteLetter_97 rfl (fun e97 => ?_) (fun e97 => ?_)
        · skip
          refine pg_sipush (v := 512) h d_Mod_noteLetter_104 (by decide) ?_
          refine pg_bipush (v := 16) h d_Mod_noteLetter_107 (by decide) ?_
          refine pg_iload_n h d_Mod_noteLetter_109 rfl ?_
          refine pg_imul h d_Mod_noteLetter_110 ?_
          refine pg_iadd h d_Mod_noteLetter_111 ?_
          refine pg_iload h d_Mod_noteLetter_112 rfl ?_
          refine pg_iadd h d_Mod_noteLetter_114 ?_
          refine pg_iconst (v := 0) h d_Mod_noteLetter_115 (by decide) ?_
          refine pg_iconst (v := 0) h d_Mod_noteLetter_116 (by decide) ?_
          refine pf_cV0 h ok d_Mod_noteLetter_117 m_Mod_note l_Mod_207 (c_note00 w ok S g lg F x hx _) cn_Mod (by first | rfl | exact hk | exact hk2 | exact dm12 _ | assumption) rfl rfl rfl (Nat.le_of_ble_eq_true rfl) ⟨(Nat.le_of_ble_eq_true rfl), (Nat.le_of_ble_eq_true rfl)⟩ ⟨Nat.le_refl _, Nat.le_refl _⟩ ?_
          try simp only [MD25, MD26, MD27, MD28, MD29, MD30, MD31, MD32, MD33, MD34, MD35, MD36, MDF32, MDF33, MDF34, MDF35, MDF36, MDF37, MDs_25, MDs_26, MDs_27, MDs_28, MDs_29, MDs_30, MDs_31, MDs_32, MDs_33, MDs_34, MDs_35, MDs_36, MDs_0, MDs_11, MDs_13, MDs_14, MDs_15, MDs_16, MDs_17, MDs_18, MD_21, MD_22, MD_23, MD_24, MD_25, MD_26, MD_27, MD_28, MD_29, MD_30, MD_31, MD_32, MD_33, MD_34, MD_35, MD_36, MD_37]
          exact pf_vret h d_Mod_noteLetter_120 (by first | exact absurd rfl e51 | exact absurd e51 (by decide) | exact absurd e97 (by decide) | (rw [k1] at *; simp [dlG, nlF, losV, *]; done) | (simp [dlG, nlF, losV, hlG, *]; done) | (have k3 := k2.mp (Int32.not_le.mp e97); rw [k1] at *; simp [dlG, nlF, losV, *]; done) | (have k3 : ¬ isV (nI n) = -1 := fun q => absurd (k2.mpr q) (Int32.not_lt.mpr e97); simp [dlG, nlF, losV, k1, *]; done) | (simp [dlG, nlF, losV, *]; rfl))
        refine pg_iload_n h d_Mod_noteLetter_100 rfl ?_
        refine pg_goto (tgt := 115) h d_Mod_noteLetter_101 rfl ?_
        refine pg_iconst (v := 0) h d_Mod_noteLetter_115 (by decide) ?_
        refine pg_iconst (v := 0) h d_Mod_noteLetter_116 (by decide) ?_
        refine pf_cV0 h ok d_Mod_noteLetter_117 m_Mod_note l_Mod_207 (c_note00 w ok S g lg F x hx _) cn_Mod (by first | rfl | exact hk | exact hk2 | exact dm12 _ | assumption) rfl rfl rfl (Nat.le_of_ble_eq_true rfl) ⟨(Nat.le_of_ble_eq_true rfl), (Nat.le_of_ble_eq_true rfl)⟩ ⟨Nat.le_refl _, Nat.le_refl _⟩ ?_
        try simp only [MD25, MD26, MD27, MD28, MD29, MD30, MD31, MD32, MD33, MD34, MD35, MD36, MDF32, MDF33, MDF34, MDF35, MDF36, MDF37, MDs_25, MDs_26, MDs_27, MDs_28, MDs_29, MDs_30, MDs_31, MDs_32, MDs_33, MDs_34, MDs_35, MDs_36, MDs_0, MDs_11, MDs_13, MDs_14, MDs_15, MDs_16, MDs_17, MDs_18, MD_21, MD_22, MD_23, MD_24, MD_25, MD_26, MD_27, MD_28, MD_29, MD_30, MD_31, MD_32, MD_33, MD_34, MD_35, MD_36, MD_37]
        exact pf_vret h d_Mod_noteLetter_120 (by first | exact absurd rfl e51 | exact absurd e51 (by decide) | exact absurd e97 (by decide) | (rw [k1] at *; simp [dlG, nlF, losV, *]; done) | (simp [dlG, nlF, losV, hlG, *]; done) | (have k3 := k2.mp (Int32.not_le.mp e97); rw [k1] at *; simp [dlG, nlF, losV, *]; done) | (have k3 : ¬ isV (nI n) = -1 := fun q => absurd (k2.mpr q) (Int32.not_lt.mpr e97); simp [dlG, nlF, losV, k1, *]; done) | (simp [dlG, nlF, losV, *]; rfl))
      refine pg_aload_n h d_Mod_noteLetter_54 rfl ?_
      refine pg_iload_n h d_Mod_noteLetter_55 rfl ?_
      refine pf_puti h ok d_Mod_noteLetter_56 fw_Mod_191 (by first | rfl | exact hk | exact hk2 | exact dm12 _ | assumption) rfl (Nat.le_of_ble_eq_true rfl) rfl ?_
      try simp only [MD25, MD26, MD27, MD28, MD29, MD30, MD31, MD32, MD33, MD34, MD35, MD36, MDF32, MDF33, MDF34, MDF35, MDF36, MDF37, MDs_25, MDs_26, MDs_27, MDs_28, MDs_29, MDs_30, MDs_31, MDs_32, MDs_33, MDs_34, MDs_35, MDs_36, MDs_0, MDs_11, MDs_13, MDs_14, MDs_15, MDs_16, MDs_17, MDs_18, MD_21, MD_22, MD_23, MD_24, MD_25, MD_26, MD_27, MD_28, MD_29, MD_30, MD_31, MD_32, MD_33, MD_34, MD_35, MD_36, MD_37]
      refine pg_aload_n h d_Mod_noteLetter_59 rfl ?_
      refine pg_aload_n h d_Mod_noteLetter_60 rfl ?_
      refine pf_get h ok d_Mod_noteLetter_61 f_Mod_182 (by first | rfl | exact hk | exact hk2 | exact dm12 _ | assumption) rfl rfl ?_
      try simp only [MD25, MD26, MD27, MD28, MD29, MD30, MD31, MD32, MD33, MD34, MD35, MD36, MDF32, MDF33, MDF34, MDF35, MDF36, MDF37, MDs_25, MDs_26, MDs_27, MDs_28, MDs_29, MDs_30, MDs_31, MDs_32, MDs_33, MDs_34, MDs_35, MDs_36, MDs_0, MDs_11, MDs_13, MDs_14, MDs_15, MDs_16, MDs_17, MDs_18, MD_21, MD_22, MD_23, MD_24, MD_25, MD_26, MD_27, MD_28, MD_29, MD_30, MD_31, MD_32, MD_33, MD_34, MD_35, MD_36, MD_37]
      refine pf_putz _ h ok d_Mod_noteLetter_64 fw_Mod_194 (by first | rfl | exact hk | exact hk2 | exact dm12 _ | assumption) rfl (Nat.le_of_ble_eq_true rfl) rfl ?_
      try simp only [MD25, MD26, MD27, MD28, MD29, MD30, MD31, MD32, MD33, MD34, MD35, MD36, MDF32, MDF33, MDF34, MDF35, MDF36, MDF37, MDs_25, MDs_26, MDs_27, MDs_28, MDs_29, MDs_30, MDs_31, MDs_32, MDs_33, MDs_34, MDs_35, MDs_36, MDs_0, MDs_11, MDs_13, MDs_14, MDs_15, MDs_16, MDs_17, MDs_18, MD_21, MD_22, MD_23, MD_24, MD_25, MD_26, MD_27, MD_28, MD_29, MD_30, MD_31, MD_32, MD_33, MD_34, MD_35, MD_36, MD_37]
      refine pg_aload_n h d_Mod_noteLetter_67 rfl ?_
      refine pg_iload_n h d_Mod_noteLetter_68 rfl ?_
      refine pg_iload_n h d_Mod_noteLetter_69 rfl ?_
      refine pg_iconst (v := 1) h d_Mod_noteLetter_70 (by decide) ?_
      refine pg_aload_n h d_Mod_noteLetter_71 rfl ?_
      refine pf_get h ok d_Mod_noteLetter_72 f_Mod_182 (by first | rfl | exact hk | exact hk2 | exact dm12 _ | assumption) rfl rfl ?_
      try simp only [MD25, MD26, MD27, MD28, MD29, MD30, MD31, MD32, MD33, MD34, MD35, MD36, MDF32, MDF33, MDF34, MDF35, MDF36, MDF37, MDs_25, MDs_26, MDs_27, MDs_28, MDs_29, MDs_30, MDs_31, MDs_32, MDs_33, MDs_34, MDs_35, MDs_36, MDs_0, MDs_11, MDs_13, MDs_14, MDs_15, MDs_16, MDs_17, MDs_18, MD_21, MD_22, MD_23, MD_24, MD_25, MD_26, MD_27, MD_28, MD_29, MD_30, MD_31, MD_32, MD_33, MD_34, MD_35, MD_36, MD_37]
      refine pf_cV0 h ok d_Mod_noteLetter_75 m_Mod_note l_Mod_207 (c_note1 w ok S _ lg F x hx (nI n) (g 7)) cn_Mod (by first | rfl | exact hk | exact hk2 | exact dm12 _ | assumption) rfl rfl rfl (Nat.le_of_ble_eq_true rfl) ⟨(Nat.le_of_ble_eq_true rfl), (Nat.le_of_ble_eq_true rfl)⟩ ⟨Nat.le_refl _, Nat.le_refl _⟩ ?_
      try simp only [MD25, MD26, MD27, MD28, MD29, MD30, MD31, MD32, MD33, MD34, MD35, MD36, MDF32, MDF33, MDF34, MDF35, MDF36, MDF37, MDs_25, MDs_26, MDs_27, MDs_28, MDs_29, MDs_30, MDs_31, MDs_32, MDs_33, MDs_34, MDs_35, MDs_36, MDs_0, MDs_11, MDs_13, MDs_14, MDs_15, MDs_16, MDs_17, MDs_18, MD_21, MD_22, MD_23, MD_24, MD_25, MD_26, MD_27, MD_28, MD_29, MD_30, MD_31, MD_32, MD_33, MD_34, MD_35, MD_36, MD_37]
      exact pf_vret h d_Mod_noteLetter_78 (by first | exact absurd rfl e51 | exact absurd e51 (by decide) | exact absurd e97 (by decide) | (rw [k1] at *; simp [dlG, nlF, losV, *]; done) | (simp [dlG, nlF, losV, hlG, *]; done) | (have k3 := k2.mp (Int32.not_le.mp e97); rw [k1] at *; simp [dlG, nlF, losV, *]; done) | (have k3 : ¬ isV (nI n) = -1 := fun q => absurd (k2.mpr q) (Int32.not_lt.mpr e97); simp [dlG, nlF, losV, k1, *]; done) | (simp [dlG, nlF, losV, *]; rfl))
    refine pg_aload_n h d_Mod_noteLetter_35 rfl ?_
    refine pg_iload_n h d_Mod_noteLetter_36 rfl ?_
    refine pg_aload_n h d_Mod_noteLetter_37 rfl ?_
    refine pf_get h ok d_Mod_noteLetter_38 f_Mod_55 (by first | rfl | exact hk | exact hk2 | exact dm12 _ | assumption) rfl rfl ?_
    try simp only [MD25, MD26, MD27, MD28, MD29, MD30, MD31, MD32, MD33, MD34, MD35, MD36, MDF32, MDF33, MDF34, MDF35, MDF36, MDF37, MDs_25, MDs_26, MDs_27, MDs_28, MDs_29, MDs_30, MDs_31, MDs_32, MDs_33, MDs_34, MDs_35, MDs_36, MDs_0, MDs_11, MDs_13, MDs_14, MDs_15, MDs_16, MDs_17, MDs_18, MD_21, MD_22, MD_23, MD_24, MD_25, MD_26, MD_27, MD_28, MD_29, MD_30, MD_31, MD_32, MD_33, MD_34, MD_35, MD_36, MD_37]
    refine pg_iload_n h d_Mod_noteLetter_41 rfl ?_
    refine pf_ild h ok d_Mod_noteLetter_42 (by first | rfl | exact hk | exact hk2 | exact dm12 _ | assumption) rfl (pg_ixN rfl hx (by decide)) ?_
    try simp only [MD25, MD26, MD27, MD28, MD29, MD30, MD31, MD32, MD33, MD34, MD35, MD36, MDF32, MDF33, MDF34, MDF35, MDF36, MDF37, MDs_25, MDs_26, MDs_27, MDs_28, MDs_29, MDs_30, MDs_31, MDs_32, MDs_33, MDs_34, MDs_35, MDs_36, MDs_0, MDs_11, MDs_13, MDs_14, MDs_15, MDs_16, MDs_17, MDs_18, MD_21, MD_22, MD_23, MD_24, MD_25, MD_26, MD_27, MD_28, MD_29, MD_30, MD_31, MD_32, MD_33, MD_34, MD_35, MD_36, MD_37]
    refine pg_iconst (v := 0) h d_Mod_noteLetter_43 (by decide) ?_
    refine pg_iconst (v := 0) h d_Mod_noteLetter_44 (by decide) ?_
    refine pf_cV0 h ok d_Mod_noteLetter_45 m_Mod_note l_Mod_207 (c_note00 w ok S g lg F x hx (F 33 x)) cn_Mod (by first | rfl | exact hk | exact hk2 | exact dm12 _ | assumption) rfl rfl rfl (Nat.le_of_ble_eq_true rfl) ⟨(Nat.le_of_ble_eq_true rfl), (Nat.le_of_ble_eq_true rfl)⟩ ⟨Nat.le_refl _, Nat.le_refl _⟩ ?_
    try simp only [MD25, MD26, MD27, MD28, MD29, MD30, MD31, MD32, MD33, MD34, MD35, MD36, MDF32, MDF33, MDF34, MDF35, MDF36, MDF37, MDs_25, MDs_26, MDs_27, MDs_28, MDs_29, MDs_30, MDs_31, MDs_32, MDs_33, MDs_34, MDs_35, MDs_36, MDs_0, MDs_11, MDs_13, MDs_14, MDs_15, MDs_16, MDs_17, MDs_18, MD_21, MD_22, MD_23, MD_24, MD_25, MD_26, MD_27, MD_28, MD_29, MD_30, MD_31, MD_32, MD_33, MD_34, MD_35, MD_36, MD_37]
    exact pf_vret h d_Mod_noteLetter_48 (by first | exact absurd rfl e51 | exact absurd e51 (by decide) | exact absurd e97 (by decide) | (rw [k1] at *; simp [dlG, nlF, losV, *]; done) | (simp [dlG, nlF, losV, hlG, *]; done) | (have k3 := k2.mp (Int32.not_le.mp e97); rw [k1] at *; simp [dlG, nlF, losV, *]; done) | (have k3 : ¬ isV (nI n) = -1 := fun q => absurd (k2.mpr q) (Int32.not_lt.mpr e97); simp [dlG, nlF, losV, k1, *]; done) | (simp [dlG, nlF, losV, *]; rfl))
  refine pg_iload_n h d_Mod_noteLetter_13 rfl ?_
  refine pg_bipush (v := 95) h d_Mod_noteLetter_14 (by decide) ?_
  refine pg_icmp_le (tgt := 23) h d_Mod_noteLetter_16 rfl (fun e16 => ?_) (fun e16 => ?_)
  · skip
    refine pg_iconst (v := 0) h d_Mod_noteLetter_23 (by decide) ?_
    refine pg_istore h d_Mod_noteLetter_24 (Nat.le_of_ble_eq_true rfl) rfl rfl ?_
    refine pg_aload_n h d_Mod_noteLetter_26 rfl ?_
    refine pf_get h ok d_Mod_noteLetter_27 f_Mod_55 (by first | rfl | exact hk | exact hk2 | exact dm12 _ | assumption) rfl rfl ?_
    try simp only [MD25, MD26, MD27, MD28, MD29, MD30, MD31, MD32, MD33, MD34, MD35, MD36, MDF32, MDF33, MDF34, MDF35, MDF36, MDF37, MDs_25, MDs_26, MDs_27, MDs_28, MDs_29, MDs_30, MDs_31, MDs_32, MDs_33, MDs_34, MDs_35, MDs_36, MDs_0, MDs_11, MDs_13, MDs_14, MDs_15, MDs_16, MDs_17, MDs_18, MD_21, MD_22, MD_23, MD_24, MD_25, MD_26, MD_27, MD_28, MD_29, MD_30, MD_31, MD_32, MD_33, MD_34, MD_35, MD_36, MD_37]
    refine pg_iload_n h d_Mod_noteLetter_30 rfl ?_
    refine pf_ild h ok d_Mod_noteLetter_31 (by first | rfl | exact hk | exact hk2 | exact dm12 _ | assumption) rfl (pg_ixN rfl hx (by decide)) ?_
    try simp only [MD25, MD26, MD27, MD28, MD29, MD30, MD31, MD32, MD33, MD34, MD35, MD36, MDF32, MDF33, MDF34, MDF35, MDF36, MDF37, MDs_25, MDs_26, MDs_27, MDs_28, MDs_29, MDs_30, MDs_31, MDs_32, MDs_33, MDs_34, MDs_35, MDs_36, MDs_0, MDs_11, MDs_13, MDs_14, MDs_15, MDs_16, MDs_17, MDs_18, MD_21, MD_22, MD_23, MD_24, MD_25, MD_26, MD_27, MD_28, MD_29, MD_30, MD_31, MD_32, MD_33, MD_34, MD_35, MD_36, MD_37]
    refine pg_if_eq (tgt := 49) h d_Mod_noteLetter_32 rfl (fun e32 => ?_) (fun e32 => ?_)
    · skip
      refine pg_iload h d_Mod_noteLetter_49 rfl ?_
      refine pg_if_eq (tgt := 79) h d_Mod_noteLetter_51 rfl (fun e51 => ?_) (fun e51 => ?_)
      · skip
        refine pg_iload_n h d_Mod_noteLetter_79 rfl ?_
        refine pg_if_ne (tgt := 87) h d_Mod_noteLetter_80 rfl (fun e80 => ?_) (fun e80 => ?_)
        · skip
          refine pg_iload_n h d_Mod_noteLetter_87 rfl ?_
          refine pg_cS h d_Mod_noteLetter_88 m_Mod_changed l_Mod_211 (c_Mod_changed w ok _ (nI n)) rfl rfl (Nat.le_of_ble_eq_true rfl) ⟨(Nat.le_of_ble_eq_true rfl), (Nat.le_of_ble_eq_true rfl)⟩ ⟨Nat.le_refl _, Nat.le_refl _⟩ ?_
          try simp only [MD25, MD26, MD27, MD28, MD29, MD30, MD31, MD32, MD33, MD34, MD35, MD36, MDF32, MDF33, MDF34, MDF35, MDF36, MDF37, MDs_25, MDs_26, MDs_27, MDs_28, MDs_29, MDs_30, MDs_31, MDs_32, MDs_33, MDs_34, MDs_35, MDs_36, MDs_0, MDs_11, MDs_13, MDs_14, MDs_15, MDs_16, MDs_17, MDs_18, MD_21, MD_22, MD_23, MD_24, MD_25, MD_26, MD_27, MD_28, MD_29, MD_30, MD_31, MD_32, MD_33, MD_34, MD_35, MD_36, MD_37]
          refine pg_istore h d_Mod_noteLetter_91 (Nat.le_of_ble_eq_true rfl) rfl rfl ?_
          refine pg_aload_n h d_Mod_noteLetter_93 rfl ?_
          refine pg_iload_n h d_Mod_noteLetter_94 rfl ?_
          refine pg_iload h d_Mod_noteLetter_95 rfl ?_
          refine pg_if_ge (tgt := 104) h d_Mod_noteLetter_97 rfl (fun e97 => ?_) (fun e97 => ?_)
          · skip
            refine pg_sipush (v := 512) h d_Mod_noteLetter_104 (by decide) ?_
            refine pg_bipush (v := 16) h d_Mod_noteLetter_107 (by decide) ?_
            refine pg_iload_n h d_Mod_noteLetter_109 rfl ?_
            refine pg_imul h d_Mod_noteLetter_110 ?_
            refine pg_iadd h d_Mod_noteLetter_111 ?_
            refine pg_iload h d_Mod_noteLetter_112 rfl ?_
            refine pg_iadd h d_Mod_noteLetter_114 ?_
            refine pg_iconst (v := 0) h d_Mod_noteLetter_115 (by decide) ?_
            refine pg_iconst (v := 0) h d_Mod_noteLetter_116 (by decide) ?_
            refine pf_cV0 h ok d_Mod_noteLetter_117 m_Mod_note l_Mod_207 (c_note00 w ok S g lg F x hx _) cn_Mod (by first | rfl | exact hk | exact hk2 | exact dm12 _ | assumption) rfl rfl rfl (Nat.le_of_ble_eq_true rfl) ⟨(Nat.le_of_ble_eq_true rfl), (Nat.le_of_ble_eq_true rfl)⟩ ⟨Nat.le_refl _, Nat.le_refl _⟩ ?_
            try simp only [MD25, MD26, MD27, MD28, MD29, MD30, MD31, MD32, MD33, MD34, MD35, MD36, MDF32, MDF33, MDF34, MDF35, MDF36, MDF37, MDs_25, MDs_26, MDs_27, MDs_28, MDs_29, MDs_30, MDs_31, MDs_32, MDs_33, MDs_34, MDs_35, MDs_36, MDs_0, MDs_11, MDs_13, MDs_14, MDs_15, MDs_16, MDs_17, MDs_18, MD_21, MD_22, MD_23, MD_24, MD_25, MD_26, MD_27, MD_28, MD_29, MD_30, MD_31, MD_32, MD_33, MD_34, MD_35, MD_36, MD_37]
            exact pf_vret h d_Mod_noteLetter_120 (by first | exact absurd rfl e51 | exact absurd e51 (by decide) | exact absurd e97 (by decide) | (rw [k1] at *; simp [dlG, nlF, losV, *]; done) | (simp [dlG, nlF, losV, hlG, *]; done) | (have k3 := k2.mp (Int32.not_le.mp e97); rw [k1] at *; simp [dlG, nlF, losV, *]; done) | (have k3 : ¬ isV (nI n) = -1 := fun q => absurd (k2.mpr q) (Int32.not_lt.mpr e97); simp [dlG, nlF, losV, k1, *]; done) | (simp [dlG, nlF, losV, *]; rfl))
          refine pg_iload_n h d_Mod_noteLetter_100 rfl ?_
          refine pg_goto (tgt := 115) h d_Mod_noteLetter_101 rfl ?_
          refine pg_iconst (v := 0) h d_Mod_noteLetter_115 (by decide) ?_
          refine pg_iconst (v := 0) h d_Mod_noteLetter_116 (by decide) ?_
          refine pf_cV0 h ok d_Mod_noteLetter_117 m_Mod_note l_Mod_207 (c_note00 w ok S g lg F x hx _) cn_Mod (by first | rfl | exact hk | exact hk2 | exact dm12 _ | assumption) rfl rfl rfl (Nat.le_of_ble_eq_true rfl) ⟨(Nat.le_of_ble_eq_true rfl), (Nat.le_of_ble_eq_true rfl)⟩ ⟨Nat.le_refl _, Nat.le_refl _⟩ ?_
          try simp only [MD25, MD26, MD27, MD28, MD29, MD30, MD31, MD32, MD33, MD34, MD35, MD36, MDF32, MDF33, MDF34, MDF35, MDF36, MDF37, MDs_25, MDs_26, MDs_27, MDs_28, MDs_29, MDs_30, MDs_31, MDs_32, MDs_33, MDs_34, MDs_35, MDs_36, MDs_0, MDs_11, MDs_13, MDs_14, MDs_15, MDs_16, MDs_17, MDs_18, MD_21, MD_22, MD_23, MD_24, MD_25, MD_26, MD_27, MD_28, MD_29, MD_30, MD_31, MD_32, MD_33, MD_34, MD_35, MD_36, MD_37]
          exact pf_vret h d_Mod_noteLetter_120 (by first | exact absurd rfl e51 | exact absurd e51 (by decide) | exact absurd e97 (by decide) | (rw [k1] at *; simp [dlG, nlF, losV, *]; done) | (simp [dlG, nlF, losV, hlG, *]; done) | (have k3 := k2.mp (Int32.not_le.mp e97); rw [k1] at *; simp [dlG, nlF, losV, *]; done) | (have k3 : ¬ isV (nI n) = -1 := fun q => absurd (k2.mpr q) (Int32.not_lt.mpr e97); simp [dlG, nlF, losV, k1, *]; done) | (simp [dlG, nlF, losV, *]; rfl))
        refine pg_iconst (v := (-1)) h d_Mod_noteLetter_83 (by decide) ?_
        refine pg_goto (tgt := 91) h d_Mod_noteLetter_84 rfl ?_
        refine pg_istore h d_Mod_noteLetter_91 (Nat.le_of_ble_eq_true rfl) rfl rfl ?_
        refine pg_aload_n h d_Mod_noteLetter_93 rfl ?_
        refine pg_iload_n h d_Mod_noteLetter_94 rfl ?_
        refine pg_iload h d_Mod_noteLetter_95 rfl ?_
        refine pg_if_ge (tgt := 104) h d_Mod_noteLetter_97 rfl (fun e97 => ?_) (fun e97 => ?_)
        · skip
          refine pg_sipush (v := 512) h d_Mod_noteLetter_104 (by decide) ?_
          refine pg_bipush (v := 16) h d_Mod_noteLetter_107 (by decide) ?_
          refine pg_iload_n h d_Mod_noteLetter_109 rfl ?_
          refine pg_imul h d_Mod_noteLetter_110 ?_
          refine pg_iadd h d_Mod_noteLetter_111 ?_
          refine pg_iload h d_Mod_noteLetter_112 rfl ?_
          refine pg_iadd h d_Mod_noteLetter_114 ?_
          refine pg_iconst (v := 0) h d_Mod_noteLetter_115 (by decide) ?_
          refine pg_iconst (v := 0) h d_Mod_noteLetter_116 (by decide) ?_
          refine pf_cV0 h ok d_Mod_noteLetter_117 m_Mod_note l_Mod_207 (c_note00 w ok S g lg F x hx _) cn_Mod (by first | rfl | exact hk | exact hk2 | exact dm12 _ | assumption) rfl rfl rfl (Nat.le_of_ble_eq_true rfl) ⟨(Nat.le_of_ble_eq_true rfl), (Nat.le_of_ble_eq_true rfl)⟩ ⟨Nat.le_refl _, Nat.le_refl _⟩ ?_
          try simp only [MD25, MD26, MD27, MD28, MD29, MD30, MD31, MD32, MD33, MD34, MD35, MD36, MDF32, MDF33, MDF34, MDF35, MDF36, MDF37, MDs_25, MDs_26, MDs_27, MDs_28, MDs_29, MDs_30, MDs_31, MDs_32, MDs_33, MDs_34, MDs_35, MDs_36, MDs_0, MDs_11, MDs_13, MDs_14, MDs_15, MDs_16, MDs_17, MDs_18, MD_21, MD_22, MD_23, MD_24, MD_25, MD_26, MD_27, MD_28, MD_29, MD_30, MD_31, MD_32, MD_33, MD_34, MD_35, MD_36, MD_37]
          exact pf_vret h d_Mod_noteLetter_120 (by first | exact absurd rfl e51 | exact absurd e51 (by decide) | exact absurd e97 (by decide) | (rw [k1] at *; simp [dlG, nlF, losV, *]; done) | (simp [dlG, nlF, losV, hlG, *]; done) | (have k3 := k2.mp (Int32.not_le.mp e97); rw [k1] at *; simp [dlG, nlF, losV, *]; done) | (have k3 : ¬ isV (nI n) = -1 := fun q => absurd (k2.mpr q) (Int32.not_lt.mpr e97); simp [dlG, nlF, losV, k1, *]; done) | (simp [dlG, nlF, losV, *]; rfl))
        refine pg_iload_n h d_Mod_noteLetter_100 rfl ?_
        refine pg_goto (tgt := 115) h d_Mod_noteLetter_101 rfl ?_
        refine pg_iconst (v := 0) h d_Mod_noteLetter_115 (by decide) ?_
        refine pg_iconst (v := 0) h d_Mod_noteLetter_116 (by decide) ?_
        refine pf_cV0 h ok d_Mod_noteLetter_117 m_Mod_note l_Mod_207 (c_note00 w ok S g lg F x hx _) cn_Mod (by first | rfl | exact hk | exact hk2 | exact dm12 _ | assumption) rfl rfl rfl (Nat.le_of_ble_eq_true rfl) ⟨(Nat.le_of_ble_eq_true rfl), (Nat.le_of_ble_eq_true rfl)⟩ ⟨Nat.le_refl _, Nat.le_refl _⟩ ?_
        try simp only [MD25, MD26, MD27, MD28, MD29, MD30, MD31, MD32, MD33, MD34, MD35, MD36, MDF32, MDF33, MDF34, MDF35, MDF36, MDF37, MDs_25, MDs_26, MDs_27, MDs_28, MDs_29, MDs_30, MDs_31, MDs_32, MDs_33, MDs_34, MDs_35, MDs_36, MDs_0, MDs_11, MDs_13, MDs_14, MDs_15, MDs_16, MDs_17, MDs_18, MD_21, MD_22, MD_23, MD_24, MD_25, MD_26, MD_27, MD_28, MD_29, MD_30, MD_31, MD_32, MD_33, MD_34, MD_35, MD_36, MD_37]
        exact pf_vret h d_Mod_noteLetter_120 (by first | exact absurd rfl e51 | exact absurd e51 (by decide) | exact absurd e97 (by decide) | (rw [k1] at *; simp [dlG, nlF, losV, *]; done) | (simp [dlG, nlF, losV, hlG, *]; done) | (have k3 := k2.mp (Int32.not_le.mp e97); rw [k1] at *; simp [dlG, nlF, losV, *]; done) | (have k3 : ¬ isV (nI n) = -1 := fun q => absurd (k2.mpr q) (Int32.not_lt.mpr e97); simp [dlG, nlF, losV, k1, *]; done) | (simp [dlG, nlF, losV, *]; rfl))
      refine pg_aload_n h d_Mod_noteLetter_54 rfl ?_
      refine pg_iload_n h d_Mod_noteLetter_55 rfl ?_
      refine pf_puti h ok d_Mod_noteLetter_56 fw_Mod_191 (by first | rfl | exact hk | exact hk2 | exact dm12 _ | assumption) rfl (Nat.le_of_ble_eq_true rfl) rfl ?_
      try simp only [MD25, MD26, MD27, MD28, MD29, MD30, MD31, MD32, MD33, MD34, MD35, MD36, MDF32, MDF33, MDF34, MDF35, MDF36, MDF37, MDs_25, MDs_26, MDs_27, MDs_28, MDs_29, MDs_30, MDs_31, MDs_32, MDs_33, MDs_34, MDs_35, MDs_36, MDs_0, MDs_11, MDs_13, MDs_14, MDs_15, MDs_16, MDs_17, MDs_18, MD_21, MD_22, MD_23, MD_24, MD_25, MD_26, MD_27, MD_28, MD_29, MD_30, MD_31, MD_32, MD_33, MD_34, MD_35, MD_36, MD_37]
      refine pg_aload_n h d_Mod_noteLetter_59 rfl ?_
      refine pg_aload_n h d_Mod_noteLetter_60 rfl ?_
      refine pf_get h ok d_Mod_noteLetter_61 f_Mod_182 (by first | rfl | exact hk | exact hk2 | exact dm12 _ | assumption) rfl rfl ?_
      try simp only [MD25, MD26, MD27, MD28, MD29, MD30, MD31, MD32, MD33, MD34, MD35, MD36, MDF32, MDF33, MDF34, MDF35, MDF36, MDF37, MDs_25, MDs_26, MDs_27, MDs_28, MDs_29, MDs_30, MDs_31, MDs_32, MDs_33, MDs_34, MDs_35, MDs_36, MDs_0, MDs_11, MDs_13, MDs_14, MDs_15, MDs_16, MDs_17, MDs_18, MD_21, MD_22, MD_23, MD_24, MD_25, MD_26, MD_27, MD_28, MD_29, MD_30, MD_31, MD_32, MD_33, MD_34, MD_35, MD_36, MD_37]
      refine pf_putz _ h ok d_Mod_noteLetter_64 fw_Mod_194 (by first | rfl | exact hk | exact hk2 | exact dm12 _ | assumption) rfl (Nat.le_of_ble_eq_true rfl) rfl ?_
      try simp only [MD25, MD26, MD27, MD28, MD29, MD30, MD31, MD32, MD33, MD34, MD35, MD36, MDF32, MDF33, MDF34, MDF35, MDF36, MDF37, MDs_25, MDs_26, MDs_27, MDs_28, MDs_29, MDs_30, MDs_31, MDs_32, MDs_33, MDs_34, MDs_35, MDs_36, MDs_0, MDs_11, MDs_13, MDs_14, MDs_15, MDs_16, MDs_17, MDs_18, MD_21, MD_22, MD_23, MD_24, MD_25, MD_26, MD_27, MD_28, MD_29, MD_30, MD_31, MD_32, MD_33, MD_34, MD_35, MD_36, MD_37]
      refine pg_aload_n h d_Mod_noteLetter_67 rfl ?_
      refine pg_iload_n h d_Mod_noteLetter_68 rfl ?_
      refine pg_iload_n h d_Mod_noteLetter_69 rfl ?_
      refine pg_iconst (v := 1) h d_Mod_noteLetter_70 (by decide) ?_
      refine pg_aload_n h d_Mod_noteLetter_71 rfl ?_
      refine pf_get h ok d_Mod_noteLetter_72 f_Mod_182 (by first | rfl | exact hk | exact hk2 | exact dm12 _ | assumption) rfl rfl ?_
      try simp only [MD25, MD26, MD27, MD28, MD29, MD30, MD31, MD32, MD33, MD34, MD35, MD36, MDF32, MDF33, MDF34, MDF35, MDF36, MDF37, MDs_25, MDs_26, MDs_27, MDs_28, MDs_29, MDs_30, MDs_31, MDs_32, MDs_33, MDs_34, MDs_35, MDs_36, MDs_0, MDs_11, MDs_13, MDs_14, MDs_15, MDs_16, MDs_17, MDs_18, MD_21, MD_22, MD_23, MD_24, MD_25, MD_26, MD_27, MD_28, MD_29, MD_30, MD_31, MD_32, MD_33, MD_34, MD_35, MD_36, MD_37]
      refine pf_cV0 h ok d_Mod_noteLetter_75 m_Mod_note l_Mod_207 (c_note1 w ok S _ lg F x hx (nI n) (g 7)) cn_Mod (by first | rfl | exact hk | exact hk2 | exact dm12 _ | assumption) rfl rfl rfl (Nat.le_of_ble_eq_true rfl) ⟨(Nat.le_of_ble_eq_true rfl), (Nat.le_of_ble_eq_true rfl)⟩ ⟨Nat.le_refl _, Nat.le_refl _⟩ ?_
      try simp only [MD25, MD26, MD27, MD28, MD29, MD30, MD31, MD32, MD33, MD34, MD35, MD36, MDF32, MDF33, MDF34, MDF35, MDF36, MDF37, MDs_25, MDs_26, MDs_27, MDs_28, MDs_29, MDs_30, MDs_31, MDs_32, MDs_33, MDs_34, MDs_35, MDs_36, MDs_0, MDs_11, MDs_13, MDs_14, MDs_15, MDs_16, MDs_17, MDs_18, MD_21, MD_22, MD_23, MD_24, MD_25, MD_26, MD_27, MD_28, MD_29, MD_30, MD_31, MD_32, MD_33, MD_34, MD_35, MD_36, MD_37]
      exact pf_vret h d_Mod_noteLetter_78 (by first | exact absurd rfl e51 | exact absurd e51 (by decide) | exact absurd e97 (by decide) | (rw [k1] at *; simp [dlG, nlF, losV, *]; done) | (simp [dlG, nlF, losV, hlG, *]; done) | (have k3 := k2.mp (Int32.not_le.mp e97); rw [k1] at *; simp [dlG, nlF, losV, *]; done) | (have k3 : ¬ isV (nI n) = -1 := fun q => absurd (k2.mpr q) (Int32.not_lt.mpr e97); simp [dlG, nlF, losV, k1, *]; done) | (simp [dlG, nlF, losV, *]; rfl))
    refine pg_aload_n h d_Mod_noteLetter_35 rfl ?_
    refine pg_iload_n h d_Mod_noteLetter_36 rfl ?_
    refine pg_aload_n h d_Mod_noteLetter_37 rfl ?_
    refine pf_get h ok d_Mod_noteLetter_38 f_Mod_55 (by first | rfl | exact hk | exact hk2 | exact dm12 _ | assumption) rfl rfl ?_
    try simp only [MD25, MD26, MD27, MD28, MD29, MD30, MD31, MD32, MD33, MD34, MD35, MD36, MDF32, MDF33, MDF34, MDF35, MDF36, MDF37, MDs_25, MDs_26, MDs_27, MDs_28, MDs_29, MDs_30, MDs_31, MDs_32, MDs_33, MDs_34, MDs_35, MDs_36, MDs_0, MDs_11, MDs_13, MDs_14, MDs_15, MDs_16, MDs_17, MDs_18, MD_21, MD_22, MD_23, MD_24, MD_25, MD_26, MD_27, MD_28, MD_29, MD_30, MD_31, MD_32, MD_33, MD_34, MD_35, MD_36, MD_37]
    refine pg_iload_n h d_Mod_noteLetter_41 rfl ?_
    refine pf_ild h ok d_Mod_noteLetter_42 (by first | rfl | exact hk | exact hk2 | exact dm12 _ | assumption) rfl (pg_ixN rfl hx (by decide)) ?_
    try simp only [MD25, MD26, MD27, MD28, MD29, MD30, MD31, MD32, MD33, MD34, MD35, MD36, MDF32, MDF33, MDF34, MDF35, MDF36, MDF37, MDs_25, MDs_26, MDs_27, MDs_28, MDs_29, MDs_30, MDs_31, MDs_32, MDs_33, MDs_34, MDs_35, MDs_36, MDs_0, MDs_11, MDs_13, MDs_14, MDs_15, MDs_16, MDs_17, MDs_18, MD_21, MD_22, MD_23, MD_24, MD_25, MD_26, MD_27, MD_28, MD_29, MD_30, MD_31, MD_32, MD_33, MD_34, MD_35, MD_36, MD_37]
    refine pg_iconst (v := 0) h d_Mod_noteLetter_43 (by decide) ?_
    refine pg_iconst (v := 0) h d_Mod_noteLetter_44 (by decide) ?_
    refine pf_cV0 h ok d_Mod_noteLetter_45 m_Mod_note l_Mod_207 (c_note00 w ok S g lg F x hx (F 33 x)) cn_Mod (by first | rfl | exact hk | exact hk2 | exact dm12 _ | assumption) rfl rfl rfl (Nat.le_of_ble_eq_true rfl) ⟨(Nat.le_of_ble_eq_true rfl), (Nat.le_of_ble_eq_true rfl)⟩ ⟨Nat.le_refl _, Nat.le_refl _⟩ ?_
    try simp only [MD25, MD26, MD27, MD28, MD29, MD30, MD31, MD32, MD33, MD34, MD35, MD36, MDF32, MDF33, MDF34, MDF35, MDF36, MDF37, MDs_25, MDs_26, MDs_27, MDs_28, MDs_29, MDs_30, MDs_31, MDs_32, MDs_33, MDs_34, MDs_35, MDs_36, MDs_0, MDs_11, MDs_13, MDs_14, MDs_15, MDs_16, MDs_17, MDs_18, MD_21, MD_22, MD_23, MD_24, MD_25, MD_26, MD_27, MD_28, MD_29, MD_30, MD_31, MD_32, MD_33, MD_34, MD_35, MD_36, MD_37]
    exact pf_vret h d_Mod_noteLetter_48 (by first | exact absurd rfl e51 | exact absurd e51 (by decide) | exact absurd e97 (by decide) | (rw [k1] at *; simp [dlG, nlF, losV, *]; done) | (simp [dlG, nlF, losV, hlG, *]; done) | (have k3 := k2.mp (Int32.not_le.mp e97); rw [k1] at *; simp [dlG, nlF, losV, *]; done) | (have k3 : ¬ isV (nI n) = -1 := fun q => absurd (k2.mpr q) (Int32.not_lt.mpr e97); simp [dlG, nlF, losV, k1, *]; done) | (simp [dlG, nlF, losV, *]; rfl))
  refine pg_iconst (v := 1) h d_Mod_noteLetter_19 (by decide) ?_
  refine pg_goto (tgt := 24) h d_Mod_noteLetter_20 rfl ?_
  refine pg_istore h d_Mod_noteLetter_24 (Nat.le_of_ble_eq_true rfl) rfl rfl ?_
  refine pg_aload_n h d_Mod_noteLetter_26 rfl ?_
  refine pf_get h ok d_Mod_noteLetter_27 f_Mod_55 (by first | rfl | exact hk | exact hk2 | exact dm12 _ | assumption) rfl rfl ?_
  try simp only [MD25, MD26, MD27, MD28, MD29, MD30, MD31, MD32, MD33, MD34, MD35, MD36, MDF32, MDF33, MDF34, MDF35, MDF36, MDF37, MDs_25, MDs_26, MDs_27, MDs_28, MDs_29, MDs_30, MDs_31, MDs_32, MDs_33, MDs_34, MDs_35, MDs_36, MDs_0, MDs_11, MDs_13, MDs_14, MDs_15, MDs_16, MDs_17, MDs_18, MD_21, MD_22, MD_23, MD_24, MD_25, MD_26, MD_27, MD_28, MD_29, MD_30, MD_31, MD_32, MD_33, MD_34, MD_35, MD_36, MD_37]
  refine pg_iload_n h d_Mod_noteLetter_30 rfl ?_
  refine pf_ild h ok d_Mod_noteLetter_31 (by first | rfl | exact hk | exact hk2 | exact dm12 _ | assumption) rfl (pg_ixN rfl hx (by decide)) ?_
  try simp only [MD25, MD26, MD27, MD28, MD29, MD30, MD31, MD32, MD33, MD34, MD35, MD36, MDF32, MDF33, MDF34, MDF35, MDF36, MDF37, MDs_25, MDs_26, MDs_27, MDs_28, MDs_29, MDs_30, MDs_31, MDs_32, MDs_33, MDs_34, MDs_35, MDs_36, MDs_0, MDs_11, MDs_13, MDs_14, MDs_15, MDs_16, MDs_17, MDs_18, MD_21, MD_22, MD_23, MD_24, MD_25, MD_26, MD_27, MD_28, MD_29, MD_30, MD_31, MD_32, MD_33, MD_34, MD_35, MD_36, MD_37]
  refine pg_if_eq (tgt := 49) h d_Mod_noteLetter_32 rfl (fun e32 => ?_) (fun e32 => ?_)
  · skip
    refine pg_iload h d_Mod_noteLetter_49 rfl ?_
    refine pg_if_eq (tgt := 79) h d_Mod_noteLetter_51 rfl (fun e51 => ?_) (fun e51 => ?_)
    · skip
      refine pg_iload_n h d_Mod_noteLetter_79 rfl ?_
      refine pg_if_ne (tgt := 87) h d_Mod_noteLetter_80 rfl (fun e80 => ?_) (fun e80 => ?_)
      · skip
        refine pg_iload_n h d_Mod_noteLetter_87 rfl ?_
        refine pg_cS h d_Mod_noteLetter_88 m_Mod_changed l_Mod_211 (c_Mod_changed w ok _ (nI n)) rfl rfl (Nat.le_of_ble_eq_true rfl) ⟨(Nat.le_of_ble_eq_true rfl), (Nat.le_of_ble_eq_true rfl)⟩ ⟨Nat.le_refl _, Nat.le_refl _⟩ ?_
        try simp only [MD25, MD26, MD27, MD28, MD29, MD30, MD31, MD32, MD33, MD34, MD35, MD36, MDF32, MDF33, MDF34, MDF35, MDF36, MDF37, MDs_25, MDs_26, MDs_27, MDs_28, MDs_29, MDs_30, MDs_31, MDs_32, MDs_33, MDs_34, MDs_35, MDs_36, MDs_0, MDs_11, MDs_13, MDs_14, MDs_15, MDs_16, MDs_17, MDs_18, MD_21, MD_22, MD_23, MD_24, MD_25, MD_26, MD_27, MD_28, MD_29, MD_30, MD_31, MD_32, MD_33, MD_34, MD_35, MD_36, MD_37]
        refine pg_istore h d_Mod_noteLetter_91 (Nat.le_of_ble_eq_true rfl) rfl rfl ?_
        refine pg_aload_n h d_Mod_noteLetter_93 rfl ?_
        refine pg_iload_n h d_Mod_noteLetter_94 rfl ?_
        refine pg_iload h d_Mod_noteLetter_95 rfl ?_
        refine pg_if_ge (tgt := 104) h d_Mod_noteLetter_97 rfl (fun e97 => ?_) (fun e97 => ?_)
        · skip
          refine pg_sipush (v := 512) h d_Mod_noteLetter_104 (by decide) ?_
          refine pg_bipush (v := 16) h d_Mod_noteLetter_107 (by decide) ?_
          refine pg_iload_n h d_Mod_noteLetter_109 rfl ?_
          refine pg_imul h d_Mod_noteLetter_110 ?_
          refine pg_iadd h d_Mod_noteLetter_111 ?_
          refine pg_iload h d_Mod_noteLetter_112 rfl ?_
          refine pg_iadd h d_Mod_noteLetter_114 ?_
          refine pg_iconst (v := 0) h d_Mod_noteLetter_115 (by decide) ?_
          refine pg_iconst (v := 0) h d_Mod_noteLetter_116 (by decide) ?_
          refine pf_cV0 h ok d_Mod_noteLetter_117 m_Mod_note l_Mod_207 (c_note00 w ok S g lg F x hx _) cn_Mod (by first | rfl | exact hk | exact hk2 | exact dm12 _ | assumption) rfl rfl rfl (Nat.le_of_ble_eq_true rfl) ⟨(Nat.le_of_ble_eq_true rfl), (Nat.le_of_ble_eq_true rfl)⟩ ⟨Nat.le_refl _, Nat.le_refl _⟩ ?_
          try simp only [MD25, MD26, MD27, MD28, MD29, MD30, MD31, MD32, MD33, MD34, MD35, MD36, MDF32, MDF33, MDF34, MDF35, MDF36, MDF37, MDs_25, MDs_26, MDs_27, MDs_28, MDs_29, MDs_30, MDs_31, MDs_32, MDs_33, MDs_34, MDs_35, MDs_36, MDs_0, MDs_11, MDs_13, MDs_14, MDs_15, MDs_16, MDs_17, MDs_18, MD_21, MD_22, MD_23, MD_24, MD_25, MD_26, MD_27, MD_28, MD_29, MD_30, MD_31, MD_32, MD_33, MD_34, MD_35, MD_36, MD_37]
          exact pf_vret h d_Mod_noteLetter_120 (by first | exact absurd rfl e51 | exact absurd e51 (by decide) | exact absurd e97 (by decide) | (rw [k1] at *; simp [dlG, nlF, losV, *]; done) | (simp [dlG, nlF, losV, hlG, *]; done) | (have k3 := k2.mp (Int32.not_le.mp e97); rw [k1] at *; simp [dlG, nlF, losV, *]; done) | (have k3 : ¬ isV (nI n) = -1 := fun q => absurd (k2.mpr q) (Int32.not_lt.mpr e97); simp [dlG, nlF, losV, k1, *]; done) | (simp [dlG, nlF, losV, *]; rfl))
        refine pg_iload_n h d_Mod_noteLetter_100 rfl ?_
        refine pg_goto (tgt := 115) h d_Mod_noteLetter_101 rfl ?_
        refine pg_iconst (v := 0) h d_Mod_noteLetter_115 (by decide) ?_
        refine pg_iconst (v := 0) h d_Mod_noteLetter_116 (by decide) ?_
        refine pf_cV0 h ok d_Mod_noteLetter_117 m_Mod_note l_Mod_207 (c_note00 w ok S g lg F x hx _) cn_Mod (by first | rfl | exact hk | exact hk2 | exact dm12 _ | assumption) rfl rfl rfl (Nat.le_of_ble_eq_true rfl) ⟨(Nat.le_of_ble_eq_true rfl), (Nat.le_of_ble_eq_true rfl)⟩ ⟨Nat.le_refl _, Nat.le_refl _⟩ ?_
        try simp only [MD25, MD26, MD27, MD28, MD29, MD30, MD31, MD32, MD33, MD34, MD35, MD36, MDF32, MDF33, MDF34, MDF35, MDF36, MDF37, MDs_25, MDs_26, MDs_27, MDs_28, MDs_29, MDs_30, MDs_31, MDs_32, MDs_33, MDs_34, MDs_35, MDs_36, MDs_0, MDs_11, MDs_13, MDs_14, MDs_15, MDs_16, MDs_17, MDs_18, MD_21, MD_22, MD_23, MD_24, MD_25, MD_26, MD_27, MD_28, MD_29, MD_30, MD_31, MD_32, MD_33, MD_34, MD_35, MD_36, MD_37]
        exact pf_vret h d_Mod_noteLetter_120 (by first | exact absurd rfl e51 | exact absurd e51 (by decide) | exact absurd e97 (by decide) | (rw [k1] at *; simp [dlG, nlF, losV, *]; done) | (simp [dlG, nlF, losV, hlG, *]; done) | (have k3 := k2.mp (Int32.not_le.mp e97); rw [k1] at *; simp [dlG, nlF, losV, *]; done) | (have k3 : ¬ isV (nI n) = -1 := fun q => absurd (k2.mpr q) (Int32.not_lt.mpr e97); simp [dlG, nlF, losV, k1, *]; done) | (simp [dlG, nlF, losV, *]; rfl))
      refine pg_iconst (v := (-1)) h d_Mod_noteLetter_83 (by decide) ?_
      refine pg_goto (tgt := 91) h d_Mod_noteLetter_84 rfl ?_
      refine pg_istore h d_Mod_noteLetter_91 (Nat.le_of_ble_eq_true rfl) rfl rfl ?_
      refine pg_aload_n h d_Mod_noteLetter_93 rfl ?_
      refine pg_iload_n h d_Mod_noteLetter_94 rfl ?_
      refine pg_iload h d_Mod_noteLetter_95 rfl ?_
      refine pg_if_ge (tgt := 104) h d_Mod_noteLetter_97 rfl (fun e97 => ?_) (fun e97 => ?_)
      · skip
        refine pg_sipush (v := 512) h d_Mod_noteLetter_104 (by decide) ?_
        refine pg_bipush (v := 16) h d_Mod_noteLetter_107 (by decide) ?_
        refine pg_iload_n h d_Mod_noteLetter_109 rfl ?_
        refine pg_imul h d_Mod_noteLetter_110 ?_
        refine pg_iadd h d_Mod_noteLetter_111 ?_
        refine pg_iload h d_Mod_noteLetter_112 rfl ?_
        refine pg_iadd h d_Mod_noteLetter_114 ?_
        refine pg_iconst (v := 0) h d_Mod_noteLetter_115 (by decide) ?_
        refine pg_iconst (v := 0) h d_Mod_noteLetter_116 (by decide) ?_
        refine pf_cV0 h ok d_Mod_noteLetter_117 m_Mod_note l_Mod_207 (c_note00 w ok S g lg F x hx _) cn_Mod (by first | rfl | exact hk | exact hk2 | exact dm12 _ | assumption) rfl rfl rfl (Nat.le_of_ble_eq_true rfl) ⟨(Nat.le_of_ble_eq_true rfl), (Nat.le_of_ble_eq_true rfl)⟩ ⟨Nat.le_refl _, Nat.le_refl _⟩ ?_
        try simp only [MD25, MD26, MD27, MD28, MD29, MD30, MD31, MD32, MD33, MD34, MD35, MD36, MDF32, MDF33, MDF34, MDF35, MDF36, MDF37, MDs_25, MDs_26, MDs_27, MDs_28, MDs_29, MDs_30, MDs_31, MDs_32, MDs_33, MDs_34, MDs_35, MDs_36, MDs_0, MDs_11, MDs_13, MDs_14, MDs_15, MDs_16, MDs_17, MDs_18, MD_21, MD_22, MD_23, MD_24, MD_25, MD_26, MD_27, MD_28, MD_29, MD_30, MD_31, MD_32, MD_33, MD_34, MD_35, MD_36, MD_37]
        exact pf_vret h d_Mod_noteLetter_120 (by first | exact absurd rfl e51 | exact absurd e51 (by decide) | exact absurd e97 (by decide) | (rw [k1] at *; simp [dlG, nlF, losV, *]; done) | (simp [dlG, nlF, losV, hlG, *]; done) | (have k3 := k2.mp (Int32.not_le.mp e97); rw [k1] at *; simp [dlG, nlF, losV, *]; done) | (have k3 : ¬ isV (nI n) = -1 := fun q => absurd (k2.mpr q) (Int32.not_lt.mpr e97); simp [dlG, nlF, losV, k1, *]; done) | (simp [dlG, nlF, losV, *]; rfl))
      refine pg_iload_n h d_Mod_noteLetter_100 rfl ?_
      refine pg_goto (tgt := 115) h d_Mod_noteLetter_101 rfl ?_
      refine pg_iconst (v := 0) h d_Mod_noteLetter_115 (by decide) ?_
      refine pg_iconst (v := 0) h d_Mod_noteLetter_116 (by decide) ?_
      refine pf_cV0 h ok d_Mod_noteLetter_117 m_Mod_note l_Mod_207 (c_note00 w ok S g lg F x hx _) cn_Mod (by first | rfl | exact hk | exact hk2 | exact dm12 _ | assumption) rfl rfl rfl (Nat.le_of_ble_eq_true rfl) ⟨(Nat.le_of_ble_eq_true rfl), (Nat.le_of_ble_eq_true rfl)⟩ ⟨Nat.le_refl _, Nat.le_refl _⟩ ?_
      try simp only [MD25, MD26, MD27, MD28, MD29, MD30, MD31, MD32, MD33, MD34, MD35, MD36, MDF32, MDF33, MDF34, MDF35, MDF36, MDF37, MDs_25, MDs_26, MDs_27, MDs_28, MDs_29, MDs_30, MDs_31, MDs_32, MDs_33, MDs_34, MDs_35, MDs_36, MDs_0, MDs_11, MDs_13, MDs_14, MDs_15, MDs_16, MDs_17, MDs_18, MD_21, MD_22, MD_23, MD_24, MD_25, MD_26, MD_27, MD_28, MD_29, MD_30, MD_31, MD_32, MD_33, MD_34, MD_35, MD_36, MD_37]
      exact pf_vret h d_Mod_noteLetter_120 (by first | exact absurd rfl e51 | exact absurd e51 (by decide) | exact absurd e97 (by decide) | (rw [k1] at *; simp [dlG, nlF, losV, *]; done) | (simp [dlG, nlF, losV, hlG, *]; done) | (have k3 := k2.mp (Int32.not_le.mp e97); rw [k1] at *; simp [dlG, nlF, losV, *]; done) | (have k3 : ¬ isV (nI n) = -1 := fun q => absurd (k2.mpr q) (Int32.not_lt.mpr e97); simp [dlG, nlF, losV, k1, *]; done) | (simp [dlG, nlF, losV, *]; rfl))
    refine pg_aload_n h d_Mod_noteLetter_54 rfl ?_
    refine pg_iload_n h d_Mod_noteLetter_55 rfl ?_
    refine pf_puti h ok d_Mod_noteLetter_56 fw_Mod_191 (by first | rfl | exact hk | exact hk2 | exact dm12 _ | assumption) rfl (Nat.le_of_ble_eq_true rfl) rfl ?_
    try simp only [MD25, MD26, MD27, MD28, MD29, MD30, MD31, MD32, MD33, MD34, MD35, MD36, MDF32, MDF33, MDF34, MDF35, MDF36, MDF37, MDs_25, MDs_26, MDs_27, MDs_28, MDs_29, MDs_30, MDs_31, MDs_32, MDs_33, MDs_34, MDs_35, MDs_36, MDs_0, MDs_11, MDs_13, MDs_14, MDs_15, MDs_16, MDs_17, MDs_18, MD_21, MD_22, MD_23, MD_24, MD_25, MD_26, MD_27, MD_28, MD_29, MD_30, MD_31, MD_32, MD_33, MD_34, MD_35, MD_36, MD_37]
    refine pg_aload_n h d_Mod_noteLetter_59 rfl ?_
    refine pg_aload_n h d_Mod_noteLetter_60 rfl ?_
    refine pf_get h ok d_Mod_noteLetter_61 f_Mod_182 (by first | rfl | exact hk | exact hk2 | exact dm12 _ | assumption) rfl rfl ?_
    try simp only [MD25, MD26, MD27, MD28, MD29, MD30, MD31, MD32, MD33, MD34, MD35, MD36, MDF32, MDF33, MDF34, MDF35, MDF36, MDF37, MDs_25, MDs_26, MDs_27, MDs_28, MDs_29, MDs_30, MDs_31, MDs_32, MDs_33, MDs_34, MDs_35, MDs_36, MDs_0, MDs_11, MDs_13, MDs_14, MDs_15, MDs_16, MDs_17, MDs_18, MD_21, MD_22, MD_23, MD_24, MD_25, MD_26, MD_27, MD_28, MD_29, MD_30, MD_31, MD_32, MD_33, MD_34, MD_35, MD_36, MD_37]
    refine pf_putz _ h ok d_Mod_noteLetter_64 fw_Mod_194 (by first | rfl | exact hk | exact hk2 | exact dm12 _ | assumption) rfl (Nat.le_of_ble_eq_true rfl) rfl ?_
    try simp only [MD25, MD26, MD27, MD28, MD29, MD30, MD31, MD32, MD33, MD34, MD35, MD36, MDF32, MDF33, MDF34, MDF35, MDF36, MDF37, MDs_25, MDs_26, MDs_27, MDs_28, MDs_29, MDs_30, MDs_31, MDs_32, MDs_33, MDs_34, MDs_35, MDs_36, MDs_0, MDs_11, MDs_13, MDs_14, MDs_15, MDs_16, MDs_17, MDs_18, MD_21, MD_22, MD_23, MD_24, MD_25, MD_26, MD_27, MD_28, MD_29, MD_30, MD_31, MD_32, MD_33, MD_34, MD_35, MD_36, MD_37]
    refine pg_aload_n h d_Mod_noteLetter_67 rfl ?_
    refine pg_iload_n h d_Mod_noteLetter_68 rfl ?_
    refine pg_iload_n h d_Mod_noteLetter_69 rfl ?_
    refine pg_iconst (v := 1) h d_Mod_noteLetter_70 (by decide) ?_
    refine pg_aload_n h d_Mod_noteLetter_71 rfl ?_
    refine pf_get h ok d_Mod_noteLetter_72 f_Mod_182 (by first | rfl | exact hk | exact hk2 | exact dm12 _ | assumption) rfl rfl ?_
    try simp only [MD25, MD26, MD27, MD28, MD29, MD30, MD31, MD32, MD33, MD34, MD35, MD36, MDF32, MDF33, MDF34, MDF35, MDF36, MDF37, MDs_25, MDs_26, MDs_27, MDs_28, MDs_29, MDs_30, MDs_31, MDs_32, MDs_33, MDs_34, MDs_35, MDs_36, MDs_0, MDs_11, MDs_13, MDs_14, MDs_15, MDs_16, MDs_17, MDs_18, MD_21, MD_22, MD_23, MD_24, MD_25, MD_26, MD_27, MD_28, MD_29, MD_30, MD_31, MD_32, MD_33, MD_34, MD_35, MD_36, MD_37]
    refine pf_cV0 h ok d_Mod_noteLetter_75 m_Mod_note l_Mod_207 (c_note1 w ok S _ lg F x hx (nI n) (g 7)) cn_Mod (by first | rfl | exact hk | exact hk2 | exact dm12 _ | assumption) rfl rfl rfl (Nat.le_of_ble_eq_true rfl) ⟨(Nat.le_of_ble_eq_true rfl), (Nat.le_of_ble_eq_true rfl)⟩ ⟨Nat.le_refl _, Nat.le_refl _⟩ ?_
    try simp only [MD25, MD26, MD27, MD28, MD29, MD30, MD31, MD32, MD33, MD34, MD35, MD36, MDF32, MDF33, MDF34, MDF35, MDF36, MDF37, MDs_25, MDs_26, MDs_27, MDs_28, MDs_29, MDs_30, MDs_31, MDs_32, MDs_33, MDs_34, MDs_35, MDs_36, MDs_0, MDs_11, MDs_13, MDs_14, MDs_15, MDs_16, MDs_17, MDs_18, MD_21, MD_22, MD_23, MD_24, MD_25, MD_26, MD_27, MD_28, MD_29, MD_30, MD_31, MD_32, MD_33, MD_34, MD_35, MD_36, MD_37]
    exact pf_vret h d_Mod_noteLetter_78 (by first | exact absurd rfl e51 | exact absurd e51 (by decide) | exact absurd e97 (by decide) | (rw [k1] at *; simp [dlG, nlF, losV, *]; done) | (simp [dlG, nlF, losV, hlG, *]; done) | (have k3 := k2.mp (Int32.not_le.mp e97); rw [k1] at *; simp [dlG, nlF, losV, *]; done) | (have k3 : ¬ isV (nI n) = -1 := fun q => absurd (k2.mpr q) (Int32.not_lt.mpr e97); simp [dlG, nlF, losV, k1, *]; done) | (simp [dlG, nlF, losV, *]; rfl))
  refine pg_aload_n h d_Mod_noteLetter_35 rfl ?_
  refine pg_iload_n h d_Mod_noteLetter_36 rfl ?_
  refine pg_aload_n h d_Mod_noteLetter_37 rfl ?_
  refine pf_get h ok d_Mod_noteLetter_38 f_Mod_55 (by first | rfl | exact hk | exact hk2 | exact dm12 _ | assumption) rfl rfl ?_
  try simp only [MD25, MD26, MD27, MD28, MD29, MD30, MD31, MD32, MD33, MD34, MD35, MD36, MDF32, MDF33, MDF34, MDF35, MDF36, MDF37, MDs_25, MDs_26, MDs_27, MDs_28, MDs_29, MDs_30, MDs_31, MDs_32, MDs_33, MDs_34, MDs_35, MDs_36, MDs_0, MDs_11, MDs_13, MDs_14, MDs_15, MDs_16, MDs_17, MDs_18, MD_21, MD_22, MD_23, MD_24, MD_25, MD_26, MD_27, MD_28, MD_29, MD_30, MD_31, MD_32, MD_33, MD_34, MD_35, MD_36, MD_37]
  refine pg_iload_n h d_Mod_noteLetter_41 rfl ?_
  refine pf_ild h ok d_Mod_noteLetter_42 (by first | rfl | exact hk | exact hk2 | exact dm12 _ | assumption) rfl (pg_ixN rfl hx (by decide)) ?_
  try simp only [MD25, MD26, MD27, MD28, MD29, MD30, MD31, MD32, MD33, MD34, MD35, MD36, MDF32, MDF33, MDF34, MDF35, MDF36, MDF37, MDs_25, MDs_26, MDs_27, MDs_28, MDs_29, MDs_30, MDs_31, MDs_32, MDs_33, MDs_34, MDs_35, MDs_36, MDs_0, MDs_11, MDs_13, MDs_14, MDs_15, MDs_16, MDs_17, MDs_18, MD_21, MD_22, MD_23, MD_24, MD_25, MD_26, MD_27, MD_28, MD_29, MD_30, MD_31, MD_32, MD_33, MD_34, MD_35, MD_36, MD_37]
  refine pg_iconst (v := 0) h d_Mod_noteLetter_43 (by decide) ?_
  refine pg_iconst (v := 0) h d_Mod_noteLetter_44 (by decide) ?_
  refine pf_cV0 h ok d_Mod_noteLetter_45 m_Mod_note l_Mod_207 (c_note00 w ok S g lg F x hx (F 33 x)) cn_Mod (by first | rfl | exact hk | exact hk2 | exact dm12 _ | assumption) rfl rfl rfl (Nat.le_of_ble_eq_true rfl) ⟨(Nat.le_of_ble_eq_true rfl), (Nat.le_of_ble_eq_true rfl)⟩ ⟨Nat.le_refl _, Nat.le_refl _⟩ ?_
  try simp only [MD25, MD26, MD27, MD28, MD29, MD30, MD31, MD32, MD33, MD34, MD35, MD36, MDF32, MDF33, MDF34, MDF35, MDF36, MDF37, MDs_25, MDs_26, MDs_27, MDs_28, MDs_29, MDs_30, MDs_31, MDs_32, MDs_33, MDs_34, MDs_35, MDs_36, MDs_0, MDs_11, MDs_13, MDs_14, MDs_15, MDs_16, MDs_17, MDs_18, MD_21, MD_22, MD_23, MD_24, MD_25, MD_26, MD_27, MD_28, MD_29, MD_30, MD_31, MD_32, MD_33, MD_34, MD_35, MD_36, MD_37]
  exact pf_vret h d_Mod_noteLetter_48 (by first | exact absurd rfl e51 | exact absurd e51 (by decide) | exact absurd e97 (by decide) | (rw [k1] at *; simp [dlG, nlF, losV, *]; done) | (simp [dlG, nlF, losV, hlG, *]; done) | (have k3 := k2.mp (Int32.not_le.mp e97); rw [k1] at *; simp [dlG, nlF, losV, *]; done) | (have k3 : ¬ isV (nI n) = -1 := fun q => absurd (k2.mpr q) (Int32.not_lt.mpr e97); simp [dlG, nlF, losV, k1, *]; done) | (simp [dlG, nlF, losV, *]; rfl))
