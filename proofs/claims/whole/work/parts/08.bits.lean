/-! Integer.bitCount, and what Packet reads out of its bytes. -/
section PGLDCW
variable {κ : pg_K} {z : pg_Z} {y : MethodName} {cc : ByteArray} {nL : Nat} {ret : Option FieldType} {rm : Room} {ce sl : Nat} {Q : State → Prop} {Pic : Heap → Prop} {pc : Nat} {lv : List (Option Value)} {st : List Value}
theorem pg_ldcw {idx : Nat} {v : Int32} (h : pg_X κ z y cc nL ret rm) (d : decode cc pc = .ok (.ldc_w idx, 3)) (hc : Cond.constant y.cls idx v ∈ pg_ws) (k : pg_G κ z nL ce sl Q Pic (pc + 3) lv (.int v :: st)) : pg_G κ z nL ce sl Q Pic pc lv st := fun H locs ls hP hS hl => lv_ldcw h.1 h.2.1 h.2.2.2.1 (h.2.2.2.2.1 _ hc) d (k H locs ls hP hS hl)
end PGLDCW

/-- an unsigned shift to the right -/
def us (x n : Int32) : Int32 := (x.toUInt32 >>> (n.toUInt32 &&& Int32.toUInt32 31)).toInt32
def bc1 (x : Int32) : Int32 := x - (us x 1 &&& 1431655765)
def bc2 (x : Int32) : Int32 := (x &&& 858993459) + (us x 2 &&& 858993459)
def bc3 (x : Int32) : Int32 := (x + us x 4) &&& 252645135
def bc4 (x : Int32) : Int32 := x + us x 8
def bc5 (x : Int32) : Int32 := x + us x 16
/-- Integer.bitCount -/
def bcF (x : Int32) : Int32 := bc5 (bc4 (bc3 (bc2 (bc1 x)))) &&& 63
/-- bitCount is odd -/
def oddP (x : Int32) : Prop := bcF x - bcF x / 2 * 2 = 1
noncomputable def odF (x : Int32) : Int32 := @ite _ (oddP x) (Classical.propDecidable _) 1 0

set_option maxRecDepth 100000 in
set_option maxHeartbeats 4000000 in
theorem c_JInt_bitCount (w : pf_W) (ok : pf_ok w) (S : pf_S) (x : Int32) : pf_C w y_JInt_bitCount b_JInt_bitCount 1 (some .int) 0 0 [.int x] S (some (.int (bcF x))) (S) := by
  refine pf_enter (by decide) (Nat.le_of_ble_eq_true rfl) (lv0 := [some (.int x)]) rfl (fun κ h => ?_)
  refine pg_iload_n h d_JInt_bitCount_0 rfl ?_
  refine pg_iload_n h d_JInt_bitCount_1 rfl ?_
  refine pg_iconst (v := 1) h d_JInt_bitCount_2 (by decide) ?_
  refine pg_iushr h d_JInt_bitCount_3 ?_
  refine pg_ldcw (v := 1431655765) h d_JInt_bitCount_4 (pg_tb 307 rfl rfl) ?_
  refine pg_iand h d_JInt_bitCount_7 ?_
  refine pg_isub h d_JInt_bitCount_8 ?_
  refine pg_istore_n h d_JInt_bitCount_9 (Nat.le_of_ble_eq_true rfl) rfl rfl ?_
  refine pg_iload_n h d_JInt_bitCount_10 rfl ?_
  refine pg_ldcw (v := 858993459) h d_JInt_bitCount_11 (pg_tb 308 rfl rfl) ?_
  refine pg_iand h d_JInt_bitCount_14 ?_
  refine pg_iload_n h d_JInt_bitCount_15 rfl ?_
  refine pg_iconst (v := 2) h d_JInt_bitCount_16 (by decide) ?_
  refine pg_iushr h d_JInt_bitCount_17 ?_
  refine pg_ldcw (v := 858993459) h d_JInt_bitCount_18 (pg_tb 308 rfl rfl) ?_
  refine pg_iand h d_JInt_bitCount_21 ?_
  refine pg_iadd h d_JInt_bitCount_22 ?_
  refine pg_istore_n h d_JInt_bitCount_23 (Nat.le_of_ble_eq_true rfl) rfl rfl ?_
  refine pg_iload_n h d_JInt_bitCount_24 rfl ?_
  refine pg_iload_n h d_JInt_bitCount_25 rfl ?_
  refine pg_iconst (v := 4) h d_JInt_bitCount_26 (by decide) ?_
  refine pg_iushr h d_JInt_bitCount_27 ?_
  refine pg_iadd h d_JInt_bitCount_28 ?_
  refine pg_ldcw (v := 252645135) h d_JInt_bitCount_29 (pg_tb 309 rfl rfl) ?_
  refine pg_iand h d_JInt_bitCount_32 ?_
  refine pg_istore_n h d_JInt_bitCount_33 (Nat.le_of_ble_eq_true rfl) rfl rfl ?_
  refine pg_iload_n h d_JInt_bitCount_34 rfl ?_
  refine pg_iload_n h d_JInt_bitCount_35 rfl ?_
  refine pg_bipush (v := 8) h d_JInt_bitCount_36 (by decide) ?_
  refine pg_iushr h d_JInt_bitCount_38 ?_
  refine pg_iadd h d_JInt_bitCount_39 ?_
  refine pg_istore_n h d_JInt_bitCount_40 (Nat.le_of_ble_eq_true rfl) rfl rfl ?_
  refine pg_iload_n h d_JInt_bitCount_41 rfl ?_
  refine pg_iload_n h d_JInt_bitCount_42 rfl ?_
  refine pg_bipush (v := 16) h d_JInt_bitCount_43 (by decide) ?_
  refine pg_iushr h d_JInt_bitCount_45 ?_
  refine pg_iadd h d_JInt_bitCount_46 ?_
  refine pg_istore_n h d_JInt_bitCount_47 (Nat.le_of_ble_eq_true rfl) rfl rfl ?_
  refine pg_iload_n h d_JInt_bitCount_48 rfl ?_
  refine pg_bipush (v := 63) h d_JInt_bitCount_49 (by decide) ?_
  refine pg_iand h d_JInt_bitCount_51 ?_
  exact pf_iret h d_JInt_bitCount_52 rfl (by first | rfl | simp [*]) rfl

theorem odF_0 (x : Int32) : odF x = 0 ↔ ¬ oddP x := by
  unfold odF
  by_cases h : oddP x
  · simp [h]
  · simp [h]
theorem odF_t {x : Int32} (h : oddP x) : odF x = 1 := by simp [odF, h]
theorem odF_f {x : Int32} (h : ¬ oddP x) : odF x = 0 := by simp [odF, h]

set_option maxRecDepth 100000 in
set_option maxHeartbeats 4000000 in
theorem c_Packet_isOdd (w : pf_W) (ok : pf_ok w) (S : pf_S) (x : Int32) : pf_C w y_Packet_isOdd b_Packet_isOdd 1 (some .boolean) 1 20 [.int x] S (some (.int (odF x))) (S) := by
  refine pf_enter (by decide) (Nat.le_of_ble_eq_true rfl) (lv0 := [some (.int x)]) rfl (fun κ h => ?_)
  refine pg_iload_n h d_Packet_isOdd_0 rfl ?_
  refine pg_cS h d_Packet_isOdd_1 m_JInt_bitCount l_Packet_29 (c_JInt_bitCount w ok S x) rfl rfl (Nat.le_of_ble_eq_true rfl) ⟨(Nat.le_of_ble_eq_true rfl), (Nat.le_of_ble_eq_true rfl)⟩ ⟨Nat.le_refl _, Nat.le_refl _⟩ ?_
  refine pg_iconst (v := 2) h d_Packet_isOdd_4 (by decide) ?_
  refine pg_irem h d_Packet_isOdd_5 (by decide) ?_
  refine pg_iconst (v := 1) h d_Packet_isOdd_6 (by decide) ?_
  refine pg_icmp_ne (tgt := 14) h d_Packet_isOdd_7 rfl (fun e7 => ?_) (fun e7 => ?_)
  · skip
    refine pg_iconst (v := 0) h d_Packet_isOdd_14 (by decide) ?_
    exact pf_iret h d_Packet_isOdd_15 rfl (by first | exact congrArg (fun q => some (Value.int q)) (odF_f e7) | exact congrArg (fun q => some (Value.int q)) (odF_t e7)) rfl
  refine pg_iconst (v := 1) h d_Packet_isOdd_10 (by decide) ?_
  refine pg_goto (tgt := 15) h d_Packet_isOdd_11 rfl ?_
  exact pf_iret h d_Packet_isOdd_15 rfl (by first | exact congrArg (fun q => some (Value.int q)) (odF_f e7) | exact congrArg (fun q => some (Value.int q)) (odF_t e7)) rfl

noncomputable def letV (b : Int32) : Int32 := if odF b = 0 then -1 else b &&& 127
noncomputable def letT (S : pf_S) (b : Int32) : pf_S := if odF b = 0 then pf_st S 1 0 4 (S 1 0 4 + 1) else S

set_option maxRecDepth 100000 in
set_option maxHeartbeats 4000000 in
theorem c_Packet_letter (w : pf_W) (ok : pf_ok w) (S : pf_S) (i : Nat) (hi : i < 22) : pf_C w y_Packet_letter b_Packet_letter 3 (some .int) 2 40 [.ref (w.2.1 2 0), .int (nI i)] S (some (.int (letV (S 3 0 i)))) (letT S (S 3 0 i)) := by
  refine pf_enter (by decide) (Nat.le_of_ble_eq_true rfl) (lv0 := [some (.ref (w.2.1 2 0)), some (.int (nI i)), none]) rfl (fun κ h => ?_)
  refine pg_aload_n h d_Packet_letter_0 rfl ?_
  refine pg_iload_n h d_Packet_letter_1 rfl ?_
  refine pf_cV h ok d_Packet_letter_2 m_Packet_byteAt l_Packet_25 (c_Packet_byteAt w ok S i hi) cn_Packet (by first | rfl | assumption) rfl rfl rfl (Nat.le_of_ble_eq_true rfl) ⟨(Nat.le_of_ble_eq_true rfl), (Nat.le_of_ble_eq_true rfl)⟩ ⟨Nat.le_refl _, Nat.le_refl _⟩ ?_
  refine pg_istore_n h d_Packet_letter_5 (Nat.le_of_ble_eq_true rfl) rfl rfl ?_
  refine pg_iload_n h d_Packet_letter_6 rfl ?_
  refine pg_cS h d_Packet_letter_7 m_Packet_isOdd l_Packet_34 (c_Packet_isOdd w ok S _) rfl rfl (Nat.le_of_ble_eq_true rfl) ⟨(Nat.le_of_ble_eq_true rfl), (Nat.le_of_ble_eq_true rfl)⟩ ⟨Nat.le_refl _, Nat.le_refl _⟩ ?_
  refine pg_if_ne (tgt := 25) h d_Packet_letter_10 rfl (fun e10 => ?_) (fun e10 => ?_)
  · skip
    refine pg_iload_n h d_Packet_letter_25 rfl ?_
    refine pg_bipush (v := 127) h d_Packet_letter_26 (by decide) ?_
    refine pg_iand h d_Packet_letter_28 ?_
    exact pf_iret h d_Packet_letter_29 rfl (by simp [letV, e10]) (by simp [letT, e10])
  refine pg_aload_n h d_Packet_letter_13 rfl ?_
  refine pf_get h ok d_Packet_letter_14 f_Packet_15 (by first | rfl | assumption) rfl rfl ?_
  refine pg_iconst (v := 4) h d_Packet_letter_17 (by decide) ?_
  refine pg_dup2 h d_Packet_letter_18 rfl rfl ?_
  refine pf_ild h ok d_Packet_letter_19 (by first | rfl | assumption) rfl (pg_ixN (j := 4) rfl (by decide) (by decide)) ?_
  refine pg_iconst (v := 1) h d_Packet_letter_20 (by decide) ?_
  refine pg_iadd h d_Packet_letter_21 ?_
  refine pf_ist h ok d_Packet_letter_22 (by first | rfl | assumption) (fun _ => rfl) (pg_ixN (j := 4) rfl (by decide) (by decide)) ?_
  refine pg_iconst (v := (-1)) h d_Packet_letter_23 (by decide) ?_
  exact pf_iret h d_Packet_letter_24 rfl (by simp [letV, e10]) (by simp [letT, e10])

def bitsF (p : Int32) : Int32 := ((p >>> ((2 : Int32) &&& 31)) &&& 1) ||| (((p >>> ((4 : Int32) &&& 31)) &&& 7) <<< ((1 : Int32) &&& 31)) ||| (((p >>> ((8 : Int32) &&& 31)) &&& 127) <<< ((4 : Int32) &&& 31)) ||| (((p >>> ((16 : Int32) &&& 31)) &&& 127) <<< ((11 : Int32) &&& 31))

set_option maxRecDepth 100000 in
set_option maxHeartbeats 4000000 in
theorem c_Packet_bitsOf (w : pf_W) (ok : pf_ok w) (S : pf_S) (p : Int32) : pf_C w y_Packet_bitsOf b_Packet_bitsOf 1 (some .int) 0 0 [.int p] S (some (.int (bitsF p))) (S) := by
  refine pf_enter (by decide) (Nat.le_of_ble_eq_true rfl) (lv0 := [some (.int p)]) rfl (fun κ h => ?_)
  refine pg_iload_n h d_Packet_bitsOf_0 rfl ?_
  refine pg_iconst (v := 2) h d_Packet_bitsOf_1 (by decide) ?_
  refine pg_ishr h d_Packet_bitsOf_2 ?_
  refine pg_iconst (v := 1) h d_Packet_bitsOf_3 (by decide) ?_
  refine pg_iand h d_Packet_bitsOf_4 ?_
  refine pg_iload_n h d_Packet_bitsOf_5 rfl ?_
  refine pg_iconst (v := 4) h d_Packet_bitsOf_6 (by decide) ?_
  refine pg_ishr h d_Packet_bitsOf_7 ?_
  refine pg_bipush (v := 7) h d_Packet_bitsOf_8 (by decide) ?_
  refine pg_iand h d_Packet_bitsOf_10 ?_
  refine pg_iconst (v := 1) h d_Packet_bitsOf_11 (by decide) ?_
  refine pg_ishl h d_Packet_bitsOf_12 ?_
  refine pg_ior h d_Packet_bitsOf_13 ?_
  refine pg_iload_n h d_Packet_bitsOf_14 rfl ?_
  refine pg_bipush (v := 8) h d_Packet_bitsOf_15 (by decide) ?_
  refine pg_ishr h d_Packet_bitsOf_17 ?_
  refine pg_bipush (v := 127) h d_Packet_bitsOf_18 (by decide) ?_
  refine pg_iand h d_Packet_bitsOf_20 ?_
  refine pg_iconst (v := 4) h d_Packet_bitsOf_21 (by decide) ?_
  refine pg_ishl h d_Packet_bitsOf_22 ?_
  refine pg_ior h d_Packet_bitsOf_23 ?_
  refine pg_iload_n h d_Packet_bitsOf_24 rfl ?_
  refine pg_bipush (v := 16) h d_Packet_bitsOf_25 (by decide) ?_
  refine pg_ishr h d_Packet_bitsOf_27 ?_
  refine pg_bipush (v := 127) h d_Packet_bitsOf_28 (by decide) ?_
  refine pg_iand h d_Packet_bitsOf_30 ?_
  refine pg_bipush (v := 11) h d_Packet_bitsOf_31 (by decide) ?_
  refine pg_ishl h d_Packet_bitsOf_33 ?_
  refine pg_ior h d_Packet_bitsOf_34 ?_
  exact pf_iret h d_Packet_bitsOf_35 rfl (by first | rfl | simp [*]) rfl

noncomputable def failTo (p : Int32) : Nat → Int32
  | 0 => 0
  | j + 1 => if odF (p &&& pg_cp j) = 0 then failTo p j + 1 <<< (nI j &&& 31) else failTo p j

set_option maxRecDepth 100000 in
set_option maxHeartbeats 4000000 in
theorem c_Packet_failingSum (w : pf_W) (ok : pf_ok w) (S : pf_S) (p : Int32) : pf_C w y_Packet_failingSum b_Packet_failingSum 3 (some .int) 2 40 [.int p] S (some (.int (failTo p 5))) (S) := by
  refine pf_enter (by decide) (Nat.le_of_ble_eq_true rfl) (lv0 := [some (.int p), none, none]) rfl (fun κ h => ?_)
  have loop : ∀ n j : Nat, j + n = 5 → pg_G κ w.1 3 0 0 (pg_Q κ w.1 (fun r' H => r' = (some (.int (failTo p 5))) ∧ pf_P w (S) H) 0 0) (pf_P w (S)) 4 [some (.int p), some (.int (failTo p j)), some (.int (nI j))] [] := by
    intro n
    induction n with
    | zero =>
      intro j hj
      have hj : j = 5 := by omega
      subst hj
      refine pg_iload_n h d_Packet_failingSum_4 rfl ?_
      refine pg_gsCP (host := "PageReceiver") h d_Packet_failingSum_5 (List.mem_of_getElem? (i := 36) rfl) ?_
      refine pg_lenCP h d_Packet_failingSum_8 ?_
      refine pg_icmp_ge (tgt := 37) h d_Packet_failingSum_9 rfl (fun e9 => ?_) (fun e9 => absurd e9 (fun e => e (by decide)))
      refine pg_iload_n h d_Packet_failingSum_37 rfl ?_
      exact pf_iret h d_Packet_failingSum_38 rfl (by first | rfl | simp [*]) rfl
    | succ n ih =>
      intro j hj
      refine pg_iload_n h d_Packet_failingSum_4 rfl ?_
      refine pg_gsCP (host := "PageReceiver") h d_Packet_failingSum_5 (List.mem_of_getElem? (i := 36) rfl) ?_
      refine pg_lenCP h d_Packet_failingSum_8 ?_
      refine pg_icmp_ge (tgt := 37) h d_Packet_failingSum_9 rfl (fun e9 => absurd e9 (nI_ge (show j < 5 by omega) (by decide))) (fun e9 => ?_)
      refine pg_iload_n h d_Packet_failingSum_12 rfl ?_
      refine pg_gsCP (host := "PageReceiver") h d_Packet_failingSum_13 (List.mem_of_getElem? (i := 36) rfl) ?_
      refine pg_iload_n h d_Packet_failingSum_16 rfl ?_
      refine pg_ldCP h d_Packet_failingSum_17 (pg_ixN rfl (show j < 5 by omega) (by decide)) ?_
      refine pg_iand h d_Packet_failingSum_18 ?_
      refine pg_cS h d_Packet_failingSum_19 m_Packet_isOdd l_Packet_34 (c_Packet_isOdd w ok S _) rfl rfl (Nat.le_of_ble_eq_true rfl) ⟨(Nat.le_of_ble_eq_true rfl), (Nat.le_of_ble_eq_true rfl)⟩ ⟨Nat.le_refl _, Nat.le_refl _⟩ ?_
      refine pg_if_ne (tgt := 31) h d_Packet_failingSum_22 rfl (fun e22 => ?_) (fun e22 => ?_)
      · skip
        refine pg_iinc (w := 1) h d_Packet_failingSum_31 rfl (by decide) (Nat.le_of_ble_eq_true rfl) rfl rfl ?_
        refine pg_goto (tgt := 4) h d_Packet_failingSum_34 rfl ?_
        have q := ih (j + 1) (by omega)
        first | (rw [nI_succ, show failTo p (j + 1) = failTo p j from if_neg e22] at q; exact q) | (rw [nI_succ, show failTo p (j + 1) = failTo p j + 1 <<< (nI j &&& 31) from if_pos e22] at q; exact q)
      refine pg_iload_n h d_Packet_failingSum_25 rfl ?_
      refine pg_iconst (v := 1) h d_Packet_failingSum_26 (by decide) ?_
      refine pg_iload_n h d_Packet_failingSum_27 rfl ?_
      refine pg_ishl h d_Packet_failingSum_28 ?_
      refine pg_iadd h d_Packet_failingSum_29 ?_
      refine pg_istore_n h d_Packet_failingSum_30 (Nat.le_of_ble_eq_true rfl) rfl rfl ?_
      refine pg_iinc (w := 1) h d_Packet_failingSum_31 rfl (by decide) (Nat.le_of_ble_eq_true rfl) rfl rfl ?_
      refine pg_goto (tgt := 4) h d_Packet_failingSum_34 rfl ?_
      have q := ih (j + 1) (by omega)
      first | (rw [nI_succ, show failTo p (j + 1) = failTo p j from if_neg e22] at q; exact q) | (rw [nI_succ, show failTo p (j + 1) = failTo p j + 1 <<< (nI j &&& 31) from if_pos e22] at q; exact q)
  refine pg_iconst (v := 0) h d_Packet_failingSum_0 (by decide) ?_
  refine pg_istore_n h d_Packet_failingSum_1 (Nat.le_of_ble_eq_true rfl) rfl rfl ?_
  refine pg_iconst (v := 0) h d_Packet_failingSum_2 (by decide) ?_
  refine pg_istore_n h d_Packet_failingSum_3 (Nat.le_of_ble_eq_true rfl) rfl rfl ?_
  exact loop 5 0 rfl
