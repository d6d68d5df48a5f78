/-! Tuner. -/
section PFMEM
variable {κ : pg_K} {w : pf_W} {nL ce sl : Nat} {Q : State → Prop} {pc : Nat} {lv : List (Option Value)} {st : List Value} {S S' : pf_S}
theorem pg_mem (hS : S' = S) (k : pg_G κ w.1 nL ce sl Q (pf_P w S') pc lv st) : pg_G κ w.1 nL ce sl Q (pf_P w S) pc lv st := hS ▸ k
end PFMEM

noncomputable def tlS (k r c : Nat) (S : pf_S) : pf_S := if letV (S 3 0 (2 + c)) = -1 then letT S (S 3 0 (2 + c)) else pf_st (letT S (S 3 0 (2 + c))) 15 k (r * 20 + c) (letV (S 3 0 (2 + c)))
noncomputable def tlF (k r : Nat) (S : pf_S) : Nat → pf_S
  | 0 => S
  | c + 1 => tlS k r c (tlF k r S c)

set_option maxRecDepth 100000 in
set_option maxHeartbeats 4000000 in
theorem c_Tuner_takeLetters (w : pf_W) (ok : pf_ok w) (S : pf_S) (k : Nat) (hk : pf_dm w.2.2.1 14 k = true) (r : Nat) (hr : r < 8) : pf_C w y_Tuner_takeLetters b_Tuner_takeLetters 5 none 3 62 [.ref (w.2.1 8 0), .ref (w.2.1 14 k), .int (nI r)] S (none) (tlF k r S 20) := by
  refine pf_enter (by decide) (Nat.le_of_ble_eq_true rfl) (lv0 := [some (.ref (w.2.1 8 0)), some (.ref (w.2.1 14 k)), some (.int (nI r)), none, none]) rfl (fun κ h => ?_)
  have loop : ∀ (n c : Nat) (X : Option Value), c + n = 20 → pg_G κ w.1 5 0 0 (pg_Q κ w.1 (fun r' H => r' = none ∧ pf_P w (tlF k r S 20) H) 0 0) (pf_P w (tlF k r S c)) 2 [some (.ref (w.2.1 8 0)), some (.ref (w.2.1 14 k)), some (.int (nI r)), some (.int (nI c)), X] [] := by
    intro n
    induction n with
    | zero =>
      intro c X hc
      have hc : c = 20 := by omega
      subst hc
      refine pg_iload_n h d_Tuner_takeLetters_2 rfl ?_
      refine pg_bipush (v := 20) h d_Tuner_takeLetters_3 (by decide) ?_
      refine pg_icmp_ge (tgt := 40) h d_Tuner_takeLetters_5 rfl (fun e5 => ?_) (fun e5 => absurd e5 (fun e => e (by decide)))
      exact pf_vret h d_Tuner_takeLetters_40 rfl
    | succ n ih =>
      intro c X hc
      have hc2 : c < 20 := by omega
      refine pg_iload_n h d_Tuner_takeLetters_2 rfl ?_
      refine pg_bipush (v := 20) h d_Tuner_takeLetters_3 (by decide) ?_
      refine pg_icmp_ge (tgt := 40) h d_Tuner_takeLetters_5 rfl (fun e5 => absurd e5 (nI_ge hc2 (by decide))) (fun e5 => ?_)
      refine pg_aload_n h d_Tuner_takeLetters_8 rfl ?_
      refine pf_get h ok d_Tuner_takeLetters_9 f_Tuner_24 (by first | rfl | exact hk | exact hk2 | exact dm12 _ | assumption) rfl rfl ?_
      refine pg_iconst (v := 2) h d_Tuner_takeLetters_12 (by decide) ?_
      refine pg_iload_n h d_Tuner_takeLetters_13 rfl ?_
      refine pg_iadd h d_Tuner_takeLetters_14 ?_
      rw [show 2 + nI c = nI (2 + c) from nI_add 2 c]
      refine pf_cV h ok d_Tuner_takeLetters_15 m_Packet_letter l_Tuner_117 (c_Packet_letter w ok _ (2 + c) (by omega)) cn_Packet (by first | rfl | exact hk | exact hk2 | exact dm12 _ | assumption) rfl rfl rfl (Nat.le_of_ble_eq_true rfl) ⟨(Nat.le_of_ble_eq_true rfl), (Nat.le_of_ble_eq_true rfl)⟩ ⟨Nat.le_refl _, Nat.le_refl _⟩ ?_
      refine pg_istore h d_Tuner_takeLetters_18 (Nat.le_of_ble_eq_true rfl) rfl rfl ?_
      refine pg_iload h d_Tuner_takeLetters_20 rfl ?_
      refine pg_iconst (v := (-1)) h d_Tuner_takeLetters_22 (by decide) ?_
      refine pg_icmp_eq (tgt := 34) h d_Tuner_takeLetters_23 rfl (fun e23 => ?_) (fun e23 => ?_)
      · skip
        refine pg_iinc (w := 1) h d_Tuner_takeLetters_34 rfl (by decide) (Nat.le_of_ble_eq_true rfl) rfl rfl ?_
        refine pg_goto (tgt := 2) h d_Tuner_takeLetters_37 rfl ?_
        rw [← nI_succ c]
        refine pg_mem (S' := tlF k r S (c + 1)) (by first | rw [tlF, tlS, if_pos e23] | rw [tlF, tlS, if_neg e23]) ?_
        exact ih (c + 1) _ (by omega)
      refine pg_aload_n h d_Tuner_takeLetters_26 rfl ?_
      refine pg_iload_n h d_Tuner_takeLetters_27 rfl ?_
      refine pg_iload_n h d_Tuner_takeLetters_28 rfl ?_
      refine pg_iload h d_Tuner_takeLetters_29 rfl ?_
      refine pf_cV0 h ok d_Tuner_takeLetters_31 m_Page_setLetter l_Tuner_120 (c_Page_setLetter w ok _ k hk r c hr hc2 _) cn_Page (by first | rfl | exact hk | exact hk2 | exact dm12 _ | assumption) rfl rfl rfl (Nat.le_of_ble_eq_true rfl) ⟨(Nat.le_of_ble_eq_true rfl), (Nat.le_of_ble_eq_true rfl)⟩ ⟨Nat.le_refl _, Nat.le_refl _⟩ ?_
      refine pg_iinc (w := 1) h d_Tuner_takeLetters_34 rfl (by decide) (Nat.le_of_ble_eq_true rfl) rfl rfl ?_
      refine pg_goto (tgt := 2) h d_Tuner_takeLetters_37 rfl ?_
      rw [← nI_succ c]
      refine pg_mem (S' := tlF k r S (c + 1)) (by first | rw [tlF, tlS, if_pos e23] | rw [tlF, tlS, if_neg e23]) ?_
      exact ih (c + 1) _ (by omega)
  refine pg_iconst (v := 0) h d_Tuner_takeLetters_0 (by decide) ?_
  refine pg_istore_n h d_Tuner_takeLetters_1 (Nat.le_of_ble_eq_true rfl) rfl rfl ?_
  exact loop 20 0 none rfl

noncomputable def thA (k c : Nat) (S : pf_S) : pf_S := if letV (S 3 0 (2 + c)) = -1 then letT S (S 3 0 (2 + c)) else if nb (letT S (S 3 0 (2 + c)) 14 k 0) = 0 then letT S (S 3 0 (2 + c)) else pf_st (letT S (S 3 0 (2 + c))) 15 k (0 * 20 + c) (letV (S 3 0 (2 + c)))
noncomputable def thS (k : Nat) (b : Int32) (c : Nat) (S : pf_S) : pf_S := if letV (S 3 0 (2 + c)) = -1 then thA k c S else if nb b = 0 then thA k c S else pf_st (thA k c S) 10 0 c (letV (S 3 0 (2 + c)))
noncomputable def thF (k : Nat) (b : Int32) (S : pf_S) : Nat → pf_S
  | 0 => S
  | c + 1 => thS k b (8 + c) (thF k b S c)

set_option maxRecDepth 100000 in
set_option maxHeartbeats 4000000 in
theorem c_Tuner_takeHeaderLetters (w : pf_W) (ok : pf_ok w) (S : pf_S) (k : Nat) (hk : pf_dm w.2.2.1 14 k = true) (b : Int32) : pf_C w y_Tuner_takeHeaderLetters b_Tuner_takeHeaderLetters 5 none 3 62 [.ref (w.2.1 8 0), .ref (w.2.1 14 k), .int (nb b)] S (none) (thF k b S 12) := by
  refine pf_enter (by decide) (Nat.le_of_ble_eq_true rfl) (lv0 := [some (.ref (w.2.1 8 0)), some (.ref (w.2.1 14 k)), some (.int (nb b)), none, none]) rfl (fun κ h => ?_)
  have loop : ∀ (n c : Nat) (X : Option Value), c + n = 12 → pg_G κ w.1 5 0 0 (pg_Q κ w.1 (fun r' H => r' = none ∧ pf_P w (thF k b S 12) H) 0 0) (pf_P w (thF k b S c)) 3 [some (.ref (w.2.1 8 0)), some (.ref (w.2.1 14 k)), some (.int (nb b)), some (.int (nI (8 + c))), X] [] := by
    intro n
    induction n with
    | zero =>
      intro c X hc
      have hc : c = 12 := by omega
      subst hc
      refine pg_iload_n h d_Tuner_takeHeaderLetters_3 rfl ?_
      refine pg_bipush (v := 20) h d_Tuner_takeHeaderLetters_4 (by decide) ?_
      refine pg_icmp_ge (tgt := 66) h d_Tuner_takeHeaderLetters_6 rfl (fun e6 => ?_) (fun e6 => absurd e6 (fun e => e (by decide)))
      exact pf_vret h d_Tuner_takeHeaderLetters_66 rfl
    | succ n ih =>
      intro c X hc
      have hc2 : 8 + c < 20 := by omega
      refine pg_iload_n h d_Tuner_takeHeaderLetters_3 rfl ?_
      refine pg_bipush (v := 20) h d_Tuner_takeHeaderLetters_4 (by decide) ?_
      refine pg_icmp_ge (tgt := 66) h d_Tuner_takeHeaderLetters_6 rfl (fun e6 => absurd e6 (nI_ge hc2 (by decide))) (fun e6 => ?_)
      refine pg_aload_n h d_Tuner_takeHeaderLetters_9 rfl ?_
      refine pf_get h ok d_Tuner_takeHeaderLetters_10 f_Tuner_24 (by first | rfl | exact hk | exact hk2 | exact dm12 _ | assumption) rfl rfl ?_
      refine pg_iconst (v := 2) h d_Tuner_takeHeaderLetters_13 (by decide) ?_
      refine pg_iload_n h d_Tuner_takeHeaderLetters_14 rfl ?_
      refine pg_iadd h d_Tuner_takeHeaderLetters_15 ?_
      rw [show 2 + nI (8 + c) = nI (2 + (8 + c)) from nI_add 2 (8 + c)]
      refine pf_cV h ok d_Tuner_takeHeaderLetters_16 m_Packet_letter l_Tuner_117 (c_Packet_letter w ok _ (2 + (8 + c)) (by omega)) cn_Packet (by first | rfl | exact hk | exact hk2 | exact dm12 _ | assumption) rfl rfl rfl (Nat.le_of_ble_eq_true rfl) ⟨(Nat.le_of_ble_eq_true rfl), (Nat.le_of_ble_eq_true rfl)⟩ ⟨Nat.le_refl _, Nat.le_refl _⟩ ?_
      refine pg_istore h d_Tuner_takeHeaderLetters_19 (Nat.le_of_ble_eq_true rfl) rfl rfl ?_
      refine pg_iload h d_Tuner_takeHeaderLetters_21 rfl ?_
      refine pg_iconst (v := (-1)) h d_Tuner_takeHeaderLetters_23 (by decide) ?_
      refine pg_icmp_eq (tgt := 42) h d_Tuner_takeHeaderLetters_24 rfl (fun e24 => ?_) (fun e24 => ?_)
      · skip
        refine pg_iload h d_Tuner_takeHeaderLetters_42 rfl ?_
        refine pg_iconst (v := (-1)) h d_Tuner_takeHeaderLetters_44 (by decide) ?_
        refine pg_icmp_eq (tgt := 60) h d_Tuner_takeHeaderLetters_45 rfl (fun e45 => ?_) (fun e45 => ?_)
        · skip
          refine pg_iinc (w := 1) h d_Tuner_takeHeaderLetters_60 rfl (by decide) (Nat.le_of_ble_eq_true rfl) rfl rfl ?_
          refine pg_goto (tgt := 3) h d_Tuner_takeHeaderLetters_63 rfl ?_
          first
            | exact absurd e24 e45
            | exact absurd e45 e24
            | (rw [← nI_succ (8 + c)]
               refine pg_mem (S' := thF k b S (c + 1)) (by rw [thF, thS, thA]; simp [*]) ?_
               exact ih (c + 1) _ (by omega))
        refine pg_iload_n h d_Tuner_takeHeaderLetters_48 rfl ?_
        refine pg_if_eq (tgt := 60) h d_Tuner_takeHeaderLetters_49 rfl (fun e49 => ?_) (fun e49 => ?_)
        · skip
          refine pg_iinc (w := 1) h d_Tuner_takeHeaderLetters_60 rfl (by decide) (Nat.le_of_ble_eq_true rfl) rfl rfl ?_
          refine pg_goto (tgt := 3) h d_Tuner_takeHeaderLetters_63 rfl ?_
          first
            | exact absurd e24 e45
            | exact absurd e45 e24
            | (rw [← nI_succ (8 + c)]
               refine pg_mem (S' := thF k b S (c + 1)) (by rw [thF, thS, thA]; simp [*]) ?_
               exact ih (c + 1) _ (by omega))
        refine pg_aload_n h d_Tuner_takeHeaderLetters_52 rfl ?_
        refine pf_get h ok d_Tuner_takeHeaderLetters_53 f_Tuner_17 (by first | rfl | exact hk | exact hk2 | exact dm12 _ | assumption) rfl rfl ?_
        refine pg_iload_n h d_Tuner_takeHeaderLetters_56 rfl ?_
        refine pg_iload h d_Tuner_takeHeaderLetters_57 rfl ?_
        refine pf_ist h ok d_Tuner_takeHeaderLetters_59 (by first | rfl | exact hk | exact hk2 | exact dm12 _ | assumption) (fun _ => rfl) (pg_ixN rfl hc2 (by decide)) ?_
        refine pg_iinc (w := 1) h d_Tuner_takeHeaderLetters_60 rfl (by decide) (Nat.le_of_ble_eq_true rfl) rfl rfl ?_
        refine pg_goto (tgt := 3) h d_Tuner_takeHeaderLetters_63 rfl ?_
        first
          | exact absurd e24 e45
          | exact absurd e45 e24
          | (rw [← nI_succ (8 + c)]
             refine pg_mem (S' := thF k b S (c + 1)) (by rw [thF, thS, thA]; simp [*]) ?_
             exact ih (c + 1) _ (by omega))
      refine pg_aload_n h d_Tuner_takeHeaderLetters_27 rfl ?_
      refine pf_get h ok d_Tuner_takeHeaderLetters_28 f_Tuner_56 (by first | rfl | exact hk | exact hk2 | exact dm12 _ | assumption) rfl rfl ?_
      refine pg_if_eq (tgt := 42) h d_Tuner_takeHeaderLetters_31 rfl (fun e31 => ?_) (fun e31 => ?_)
      · skip
        refine pg_iload h d_Tuner_takeHeaderLetters_42 rfl ?_
        refine pg_iconst (v := (-1)) h d_Tuner_takeHeaderLetters_44 (by decide) ?_
        refine pg_icmp_eq (tgt := 60) h d_Tuner_takeHeaderLetters_45 rfl (fun e45 => ?_) (fun e45 => ?_)
        · skip
          refine pg_iinc (w := 1) h d_Tuner_takeHeaderLetters_60 rfl (by decide) (Nat.le_of_ble_eq_true rfl) rfl rfl ?_
          refine pg_goto (tgt := 3) h d_Tuner_takeHeaderLetters_63 rfl ?_
          first
            | exact absurd e24 e45
            | exact absurd e45 e24
            | (rw [← nI_succ (8 + c)]
               refine pg_mem (S' := thF k b S (c + 1)) (by rw [thF, thS, thA]; simp [*]) ?_
               exact ih (c + 1) _ (by omega))
        refine pg_iload_n h d_Tuner_takeHeaderLetters_48 rfl ?_
        refine pg_if_eq (tgt := 60) h d_Tuner_takeHeaderLetters_49 rfl (fun e49 => ?_) (fun e49 => ?_)
        · skip
          refine pg_iinc (w := 1) h d_Tuner_takeHeaderLetters_60 rfl (by decide) (Nat.le_of_ble_eq_true rfl) rfl rfl ?_
          refine pg_goto (tgt := 3) h d_Tuner_takeHeaderLetters_63 rfl ?_
          first
            | exact absurd e24 e45
            | exact absurd e45 e24
            | (rw [← nI_succ (8 + c)]
               refine pg_mem (S' := thF k b S (c + 1)) (by rw [thF, thS, thA]; simp [*]) ?_
               exact ih (c + 1) _ (by omega))
        refine pg_aload_n h d_Tuner_takeHeaderLetters_52 rfl ?_
        refine pf_get h ok d_Tuner_takeHeaderLetters_53 f_Tuner_17 (by first | rfl | exact hk | exact hk2 | exact dm12 _ | assumption) rfl rfl ?_
        refine pg_iload_n h d_Tuner_takeHeaderLetters_56 rfl ?_
        refine pg_iload h d_Tuner_takeHeaderLetters_57 rfl ?_
        refine pf_ist h ok d_Tuner_takeHeaderLetters_59 (by first | rfl | exact hk | exact hk2 | exact dm12 _ | assumption) (fun _ => rfl) (pg_ixN rfl hc2 (by decide)) ?_
        refine pg_iinc (w := 1) h d_Tuner_takeHeaderLetters_60 rfl (by decide) (Nat.le_of_ble_eq_true rfl) rfl rfl ?_
        refine pg_goto (tgt := 3) h d_Tuner_takeHeaderLetters_63 rfl ?_
        first
          | exact absurd e24 e45
          | exact absurd e45 e24
          | (rw [← nI_succ (8 + c)]
             refine pg_mem (S' := thF k b S (c + 1)) (by rw [thF, thS, thA]; simp [*]) ?_
             exact ih (c + 1) _ (by omega))
      refine pg_aload_n h d_Tuner_takeHeaderLetters_34 rfl ?_
      refine pg_iconst (v := 0) h d_Tuner_takeHeaderLetters_35 (by decide) ?_
      refine pg_iload_n h d_Tuner_takeHeaderLetters_36 rfl ?_
      refine pg_iload h d_Tuner_takeHeaderLetters_37 rfl ?_
      refine pf_cV0 h ok d_Tuner_takeHeaderLetters_39 m_Page_setLetter l_Tuner_120 (c_Page_setLetter w ok _ k hk 0 (8 + c) (by decide) hc2 _) cn_Page (by first | rfl | exact hk | exact hk2 | exact dm12 _ | assumption) rfl rfl rfl (Nat.le_of_ble_eq_true rfl) ⟨(Nat.le_of_ble_eq_true rfl), (Nat.le_of_ble_eq_true rfl)⟩ ⟨Nat.le_refl _, Nat.le_refl _⟩ ?_
      refine pg_iload h d_Tuner_takeHeaderLetters_42 rfl ?_
      refine pg_iconst (v := (-1)) h d_Tuner_takeHeaderLetters_44 (by decide) ?_
      refine pg_icmp_eq (tgt := 60) h d_Tuner_takeHeaderLetters_45 rfl (fun e45 => ?_) (fun e45 => ?_)
      · skip
        refine pg_iinc (w := 1) h d_Tuner_takeHeaderLetters_60 rfl (by decide) (Nat.le_of_ble_eq_true rfl) rfl rfl ?_
        refine pg_goto (tgt := 3) h d_Tuner_takeHeaderLetters_63 rfl ?_
        first
          | exact absurd e24 e45
          | exact absurd e45 e24
          | (rw [← nI_succ (8 + c)]
             refine pg_mem (S' := thF k b S (c + 1)) (by rw [thF, thS, thA]; simp [*]) ?_
             exact ih (c + 1) _ (by omega))
      refine pg_iload_n h d_Tuner_takeHeaderLetters_48 rfl ?_
      refine pg_if_eq (tgt := 60) h d_Tuner_takeHeaderLetters_49 rfl (fun e49 => ?_) (fun e49 => ?_)
      · skip
        refine pg_iinc (w := 1) h d_Tuner_takeHeaderLetters_60 rfl (by decide) (Nat.le_of_ble_eq_true rfl) rfl rfl ?_
        refine pg_goto (tgt := 3) h d_Tuner_takeHeaderLetters_63 rfl ?_
        first
          | exact absurd e24 e45
          | exact absurd e45 e24
          | (rw [← nI_succ (8 + c)]
             refine pg_mem (S' := thF k b S (c + 1)) (by rw [thF, thS, thA]; simp [*]) ?_
             exact ih (c + 1) _ (by omega))
      refine pg_aload_n h d_Tuner_takeHeaderLetters_52 rfl ?_
      refine pf_get h ok d_Tuner_takeHeaderLetters_53 f_Tuner_17 (by first | rfl | exact hk | exact hk2 | exact dm12 _ | assumption) rfl rfl ?_
      refine pg_iload_n h d_Tuner_takeHeaderLetters_56 rfl ?_
      refine pg_iload h d_Tuner_takeHeaderLetters_57 rfl ?_
      refine pf_ist h ok d_Tuner_takeHeaderLetters_59 (by first | rfl | exact hk | exact hk2 | exact dm12 _ | assumption) (fun _ => rfl) (pg_ixN rfl hc2 (by decide)) ?_
      refine pg_iinc (w := 1) h d_Tuner_takeHeaderLetters_60 rfl (by decide) (Nat.le_of_ble_eq_true rfl) rfl rfl ?_
      refine pg_goto (tgt := 3) h d_Tuner_takeHeaderLetters_63 rfl ?_
      first
        | exact absurd e24 e45
        | exact absurd e45 e24
        | (rw [← nI_succ (8 + c)]
           refine pg_mem (S' := thF k b S (c + 1)) (by rw [thF, thS, thA]; simp [*]) ?_
           exact ih (c + 1) _ (by omega))
  refine pg_bipush (v := 8) h d_Tuner_takeHeaderLetters_0 (by decide) ?_
  refine pg_istore_n h d_Tuner_takeHeaderLetters_2 (Nat.le_of_ble_eq_true rfl) rfl rfl ?_
  exact loop 12 0 none rfl

def tkS (k : Nat) (m : Int32) (j : Nat) (S : pf_S) : pf_S :=
  if nibV (S 3 0 (2 + 3 * j)) = -1 ∨ nibV (S 3 0 (3 + 3 * j)) = -1 ∨ nibV (S 3 0 (4 + 3 * j)) = -1 then nibT (nibT (nibT S (S 3 0 (2 + 3 * j))) (S 3 0 (3 + 3 * j))) (S 3 0 (4 + 3 * j))
  else pf_st (nibT (nibT (nibT S (S 3 0 (2 + 3 * j))) (S 3 0 (3 + 3 * j))) (S 3 0 (4 + 3 * j))) 17 k j (256 * ((m ^^^ nibV (S 3 0 (4 + 3 * j))) - (m ^^^ nibV (S 3 0 (4 + 3 * j))) / 8 * 8) + 16 * nibV (S 3 0 (3 + 3 * j)) + nibV (S 3 0 (2 + 3 * j)))
def tkF (k : Nat) (m : Int32) (S : pf_S) : Nat → pf_S
  | 0 => S
  | j + 1 => tkS k m j (tkF k m S j)
theorem nibT_3 (S : pf_S) (b : Int32) : nibT S b 3 = S 3 := by
  unfold nibT
  cases nibD b <;> rfl
theorem ml3 (a j : Nat) : (nI a + 3 * nI j : Int32) = nI (a + 3 * j) := by rw [show (3 : Int32) * nI j = nI (3 * j) from pk_mul 3 j, nI_add]

set_option maxRecDepth 100000 in
set_option maxHeartbeats 4000000 in
theorem c_Tuner_takeLinks (w : pf_W) (ok : pf_ok w) (S : pf_S) (k : Nat) (hk : pf_dm w.2.2.1 14 k = true) (m : Int32) : pf_C w y_Tuner_takeLinks b_Tuner_takeLinks 7 none 2 44 [.ref (w.2.1 8 0), .ref (w.2.1 14 k), .int m] S (none) (tkF k m S 4) := by
  refine pf_enter (by decide) (Nat.le_of_ble_eq_true rfl) (lv0 := [some (.ref (w.2.1 8 0)), some (.ref (w.2.1 14 k)), some (.int m), none, none, none, none]) rfl (fun κ h => ?_)
  have loop : ∀ (n j : Nat) (X Y Z : Option Value), j + n = 4 → (∀ v, Y = some v → v.category = 1) → (∀ v, X = some v → v.category = 1) → pg_G κ w.1 7 0 0 (pg_Q κ w.1 (fun r' H => r' = none ∧ pf_P w (tkF k m S 4) H) 0 0) (pf_P w (tkF k m S j)) 2 [some (.ref (w.2.1 8 0)), some (.ref (w.2.1 14 k)), some (.int m), some (.int (nI j)), X, Y, Z] [] := by
    intro n
    induction n with
    | zero =>
      intro j X Y Z hj hY hX
      have hj : j = 4 := by omega
      subst hj
      refine pg_iload_n h d_Tuner_takeLinks_2 rfl ?_
      refine pg_iconst (v := 4) h d_Tuner_takeLinks_3 (by decide) ?_
      refine pg_icmp_ge (tgt := 99) h d_Tuner_takeLinks_4 rfl (fun e4 => ?_) (fun e4 => absurd e4 (fun e => e (by decide)))
      exact pf_vret h d_Tuner_takeLinks_99 rfl
    | succ n ih =>
      intro j X Y Z hj hY hX
      have hj2 : j < 4 := by omega
      refine pg_iload_n h d_Tuner_takeLinks_2 rfl ?_
      refine pg_iconst (v := 4) h d_Tuner_takeLinks_3 (by decide) ?_
      refine pg_icmp_ge (tgt := 99) h d_Tuner_takeLinks_4 rfl (fun e4 => absurd e4 (nI_ge hj2 (by decide))) (fun e4 => ?_)
      refine pg_aload_n h d_Tuner_takeLinks_7 rfl ?_
      refine pf_get h ok d_Tuner_takeLinks_8 f_Tuner_24 (by first | rfl | exact hk | exact hk2 | exact dm12 _ | assumption) rfl rfl ?_
      try simp only [nibT_3]
      refine pg_iconst (v := 2) h d_Tuner_takeLinks_11 (by decide) ?_
      refine pg_iconst (v := 3) h d_Tuner_takeLinks_12 (by decide) ?_
      refine pg_iload_n h d_Tuner_takeLinks_13 rfl ?_
      refine pg_imul h d_Tuner_takeLinks_14 ?_
      refine pg_iadd h d_Tuner_takeLinks_15 ?_
      rw [show (2 : Int32) + 3 * nI j = nI (2 + 3 * j) from ml3 2 j]
      refine pf_cV h ok d_Tuner_takeLinks_16 m_Packet_nibble l_Tuner_46 (c_Packet_nibble w ok _ (2 + 3 * j) (by omega)) cn_Packet (by first | rfl | exact hk | exact hk2 | exact dm12 _ | assumption) rfl rfl rfl (Nat.le_of_ble_eq_true rfl) ⟨(Nat.le_of_ble_eq_true rfl), (Nat.le_of_ble_eq_true rfl)⟩ ⟨Nat.le_refl _, Nat.le_refl _⟩ ?_
      try simp only [nibT_3]
      refine pg_istore h d_Tuner_takeLinks_19 (Nat.le_of_ble_eq_true rfl) rfl rfl ?_
      refine pg_aload_n h d_Tuner_takeLinks_21 rfl ?_
      refine pf_get h ok d_Tuner_takeLinks_22 f_Tuner_24 (by first | rfl | exact hk | exact hk2 | exact dm12 _ | assumption) rfl rfl ?_
      try simp only [nibT_3]
      refine pg_iconst (v := 3) h d_Tuner_takeLinks_25 (by decide) ?_
      refine pg_iconst (v := 3) h d_Tuner_takeLinks_26 (by decide) ?_
      refine pg_iload_n h d_Tuner_takeLinks_27 rfl ?_
      refine pg_imul h d_Tuner_takeLinks_28 ?_
      refine pg_iadd h d_Tuner_takeLinks_29 ?_
      rw [show (3 : Int32) + 3 * nI j = nI (3 + 3 * j) from ml3 3 j]
      refine pf_cV h ok d_Tuner_takeLinks_30 m_Packet_nibble l_Tuner_46 (c_Packet_nibble w ok _ (3 + 3 * j) (by omega)) cn_Packet (by first | rfl | exact hk | exact hk2 | exact dm12 _ | assumption) rfl rfl rfl (Nat.le_of_ble_eq_true rfl) ⟨(Nat.le_of_ble_eq_true rfl), (Nat.le_of_ble_eq_true rfl)⟩ ⟨Nat.le_refl _, Nat.le_refl _⟩ ?_
      try simp only [nibT_3]
      refine pg_istore h d_Tuner_takeLinks_33 (Nat.le_of_ble_eq_true rfl) rfl rfl ?_
      refine pg_aload_n h d_Tuner_takeLinks_35 rfl ?_
      refine pf_get h ok d_Tuner_takeLinks_36 f_Tuner_24 (by first | rfl | exact hk | exact hk2 | exact dm12 _ | assumption) rfl rfl ?_
      try simp only [nibT_3]
      refine pg_iconst (v := 4) h d_Tuner_takeLinks_39 (by decide) ?_
      refine pg_iconst (v := 3) h d_Tuner_takeLinks_40 (by decide) ?_
      refine pg_iload_n h d_Tuner_takeLinks_41 rfl ?_
      refine pg_imul h d_Tuner_takeLinks_42 ?_
      refine pg_iadd h d_Tuner_takeLinks_43 ?_
      rw [show (4 : Int32) + 3 * nI j = nI (4 + 3 * j) from ml3 4 j]
      refine pf_cV h ok d_Tuner_takeLinks_44 m_Packet_nibble l_Tuner_46 (c_Packet_nibble w ok _ (4 + 3 * j) (by omega)) cn_Packet (by first | rfl | exact hk | exact hk2 | exact dm12 _ | assumption) rfl rfl rfl (Nat.le_of_ble_eq_true rfl) ⟨(Nat.le_of_ble_eq_true rfl), (Nat.le_of_ble_eq_true rfl)⟩ ⟨Nat.le_refl _, Nat.le_refl _⟩ ?_
      try simp only [nibT_3]
      refine pg_istore h d_Tuner_takeLinks_47 (Nat.le_of_ble_eq_true rfl) rfl rfl ?_
      refine pg_iload h d_Tuner_takeLinks_49 rfl ?_
      refine pg_iconst (v := (-1)) h d_Tuner_takeLinks_51 (by decide) ?_
      refine pg_icmp_eq (tgt := 93) h d_Tuner_takeLinks_52 rfl (fun e52 => ?_) (fun e52 => ?_)
      · skip
        refine pg_iinc (w := 1) h d_Tuner_takeLinks_93 rfl (by decide) (Nat.le_of_ble_eq_true rfl) rfl rfl ?_
        refine pg_goto (tgt := 2) h d_Tuner_takeLinks_96 rfl ?_
        rw [← nI_succ j]
        refine pg_mem (S' := tkF k m S (j + 1)) (by rw [tkF, tkS]; simp [*]) ?_
        exact ih (j + 1) _ _ _ (by omega) (fun v hv => by cases hv; rfl) (fun v hv => by cases hv; rfl)
      refine pg_iload h d_Tuner_takeLinks_55 rfl ?_
      refine pg_iconst (v := (-1)) h d_Tuner_takeLinks_57 (by decide) ?_
      refine pg_icmp_eq (tgt := 93) h d_Tuner_takeLinks_58 rfl (fun e58 => ?_) (fun e58 => ?_)
      · skip
        refine pg_iinc (w := 1) h d_Tuner_takeLinks_93 rfl (by decide) (Nat.le_of_ble_eq_true rfl) rfl rfl ?_
        refine pg_goto (tgt := 2) h d_Tuner_takeLinks_96 rfl ?_
        rw [← nI_succ j]
        refine pg_mem (S' := tkF k m S (j + 1)) (by rw [tkF, tkS]; simp [*]) ?_
        exact ih (j + 1) _ _ _ (by omega) (fun v hv => by cases hv; rfl) (fun v hv => by cases hv; rfl)
      refine pg_iload h d_Tuner_takeLinks_61 rfl ?_
      refine pg_iconst (v := (-1)) h d_Tuner_takeLinks_63 (by decide) ?_
      refine pg_icmp_eq (tgt := 93) h d_Tuner_takeLinks_64 rfl (fun e64 => ?_) (fun e64 => ?_)
      · skip
        refine pg_iinc (w := 1) h d_Tuner_takeLinks_93 rfl (by decide) (Nat.le_of_ble_eq_true rfl) rfl rfl ?_
        refine pg_goto (tgt := 2) h d_Tuner_takeLinks_96 rfl ?_
        rw [← nI_succ j]
        refine pg_mem (S' := tkF k m S (j + 1)) (by rw [tkF, tkS]; simp [*]) ?_
        exact ih (j + 1) _ _ _ (by omega) (fun v hv => by cases hv; rfl) (fun v hv => by cases hv; rfl)
      refine pg_aload_n h d_Tuner_takeLinks_67 rfl ?_
      refine pf_get h ok d_Tuner_takeLinks_68 f_Tuner_134 (by first | rfl | exact hk | exact hk2 | exact dm12 _ | assumption) rfl rfl ?_
      try simp only [nibT_3]
      refine pg_iload_n h d_Tuner_takeLinks_71 rfl ?_
      refine pg_sipush (v := 256) h d_Tuner_takeLinks_72 (by decide) ?_
      refine pg_iload_n h d_Tuner_takeLinks_75 rfl ?_
      refine pg_iload h d_Tuner_takeLinks_76 rfl ?_
      refine pg_ixor h d_Tuner_takeLinks_78 ?_
      refine pg_bipush (v := 8) h d_Tuner_takeLinks_79 (by decide) ?_
      refine pg_irem h d_Tuner_takeLinks_81 (by decide) ?_
      refine pg_imul h d_Tuner_takeLinks_82 ?_
      refine pg_bipush (v := 16) h d_Tuner_takeLinks_83 (by decide) ?_
      refine pg_iload h d_Tuner_takeLinks_85 rfl ?_
      refine pg_imul h d_Tuner_takeLinks_87 ?_
      refine pg_iadd h d_Tuner_takeLinks_88 ?_
      refine pg_iload h d_Tuner_takeLinks_89 rfl ?_
      refine pg_iadd h d_Tuner_takeLinks_91 ?_
      refine pf_ist h ok d_Tuner_takeLinks_92 (by first | rfl | exact hk | exact hk2 | exact dm12 _ | assumption) (fun _ => rfl) (pg_ixN rfl hj2 (by decide)) ?_
      try simp only [nibT_3]
      refine pg_iinc (w := 1) h d_Tuner_takeLinks_93 rfl (by decide) (Nat.le_of_ble_eq_true rfl) rfl rfl ?_
      refine pg_goto (tgt := 2) h d_Tuner_takeLinks_96 rfl ?_
      rw [← nI_succ j]
      refine pg_mem (S' := tkF k m S (j + 1)) (by rw [tkF, tkS]; simp [*]) ?_
      exact ih (j + 1) _ _ _ (by omega) (fun v hv => by cases hv; rfl) (fun v hv => by cases hv; rfl)
  refine pg_iconst (v := 0) h d_Tuner_takeLinks_0 (by decide) ?_
  refine pg_istore_n h d_Tuner_takeLinks_1 (Nat.le_of_ble_eq_true rfl) rfl rfl ?_
  exact loop 4 0 none none none rfl (fun v hv => by cases hv) (fun v hv => by cases hv)
