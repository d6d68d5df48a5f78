/-! key of both; the short methods of the reference. -/
/-- key, of a key from 0 to 15 -/
def kyV (A : pf_S) (P kk : Nat) : Int32 := if kk ≤ 9 then dgV A (nI kk) else cmdV (pf_st A 6 0 3 0) P kk
def kyT (A : pf_S) (P kk : Nat) : pf_S := if kk ≤ 9 then dgT A (nI kk) else cmdT A P kk
theorem bool_nar {v : Int32} (h : v = 0 ∨ v = 1) : narrow .boolean (.int v) = .int v := by rcases h with rfl | rfl <;> rfl
theorem dgV_01 (A : pf_S) (d : Int32) : dgV A d = 0 ∨ dgV A d = 1 := by
  unfold dgV
  split
  · split
    · exact Or.inl rfl
    · split
      · exact Or.inr rfl
      · exact Or.inl rfl
  · exact Or.inr rfl
theorem hldV_01 (A : pf_S) (P : Nat) : hldV A P = 0 ∨ hldV A P = 1 := by
  unfold hldV
  split
  · split
    · exact Or.inl rfl
    · exact Or.inr rfl
  · exact Or.inr rfl
theorem flwV_01 (A : pf_S) (P j : Nat) : flwV A P j = 0 ∨ flwV A P j = 1 := by
  unfold flwV
  split
  · exact Or.inl rfl
  · split
    · exact Or.inl rfl
    · exact Or.inr rfl
theorem cmdV_01 (A : pf_S) (P kk : Nat) : cmdV A P kk = 0 ∨ cmdV A P kk = 1 := by
  unfold cmdV
  split
  · exact hldV_01 A P
  · split
    · exact Or.inr rfl
    · exact flwV_01 A P _
theorem kyV_01 (A : pf_S) (P kk : Nat) : kyV A P kk = 0 ∨ kyV A P kk = 1 := by
  unfold kyV
  split
  · exact dgV_01 A _
  · exact cmdV_01 _ P kk

set_option maxRecDepth 100000 in
set_option maxHeartbeats 4000000 in
theorem c_key_out (w : pf_W) (ok : pf_ok w) (S : pf_S) (x : Int32) (hn : x < 0 ∨ ¬ x ≤ 15) : pf_C w y_Recv_key b_Recv_key 2 (some .boolean) 4 103 [.ref (w.2.1 0 0), .int x] S (some (.int 0)) (S) := by
  refine pf_enter (by decide) (Nat.le_of_ble_eq_true rfl) (lv0 := [some (.ref (w.2.1 0 0)), some (.int x)]) rfl (fun κ h => ?_)
  refine pg_iload_n h d_Recv_key_0 rfl ?_
  refine pg_if_lt (tgt := 10) h d_Recv_key_1 rfl (fun e1 => ?_) (fun e1 => ?_)
  · skip
    refine pg_iconst (v := 0) h d_Recv_key_10 (by decide) ?_
    exact pf_iret h d_Recv_key_11 rfl (by first | rfl | simp [*]) rfl
  refine pg_iload_n h d_Recv_key_4 rfl ?_
  refine pg_bipush (v := 15) h d_Recv_key_5 (by decide) ?_
  refine pg_icmp_le (tgt := 12) h d_Recv_key_7 rfl (fun e7 => absurd e7 (fun q => by rcases hn with c | c; exact e1 c; exact c q)) (fun e7 => ?_)
  refine pg_iconst (v := 0) h d_Recv_key_10 (by decide) ?_
  exact pf_iret h d_Recv_key_11 rfl (by first | rfl | simp [*]) rfl

set_option maxRecDepth 100000 in
set_option maxHeartbeats 4000000 in
theorem c_key_in (w : pf_W) (ok : pf_ok w) (S : pf_S) (hw : 1 ≤ w.2.2.1 ∧ w.2.2.1 ≤ 4) (kk : Nat) (hk15 : kk ≤ 15) : pf_C w y_Recv_key b_Recv_key 2 (some .boolean) 4 103 [.ref (w.2.1 0 0), .int (nI kk)] S (some (.int (kyV S w.2.2.1 kk))) (kyT S w.2.2.1 kk) := by
  refine pf_enter (by decide) (Nat.le_of_ble_eq_true rfl) (lv0 := [some (.ref (w.2.1 0 0)), some (.int (nI kk))]) rfl (fun κ h => ?_)
  refine pg_iload_n h d_Recv_key_0 rfl ?_
  refine pg_if_lt (tgt := 10) h d_Recv_key_1 rfl (fun e1 => absurd e1 (nI_pos (by omega))) (fun e1 => ?_)
  refine pg_iload_n h d_Recv_key_4 rfl ?_
  refine pg_bipush (v := 15) h d_Recv_key_5 (by decide) ?_
  refine pg_icmp_le (tgt := 12) h d_Recv_key_7 rfl (fun e7 => ?_) (fun e7 => absurd e7 (fun q => q (nI_le hk15 (by decide))))
  have qk : ((9 : Int32) < nI kk) = (9 < kk) := propext (show nI 9 < nI kk ↔ 9 < kk from nI_ltI (by decide) (by omega))
  refine pg_iload_n h d_Recv_key_12 rfl ?_
  refine pg_bipush (v := 9) h d_Recv_key_13 (by decide) ?_
  refine pg_icmp_gt (tgt := 29) h d_Recv_key_15 rfl (fun e15 => ?_) (fun e15 => ?_)
  · skip
    refine pg_aload_n h d_Recv_key_29 rfl ?_
    refine pf_get h ok d_Recv_key_30 f_Recv_45 (by first | rfl | exact hk | exact hk2 | exact dm12 _ | assumption) rfl rfl ?_
    refine pg_iload_n h d_Recv_key_33 rfl ?_
    refine pf_cV h ok d_Recv_key_34 m_Remote_pressCommand l_Recv_93 (c_Remote_pressCommand w ok S hw kk (by rw [qk] at e15; omega) hk15) cn_Remote (by first | rfl | exact hk | exact hk2 | exact dm12 _ | assumption) rfl rfl rfl (Nat.le_of_ble_eq_true rfl) ⟨(Nat.le_of_ble_eq_true rfl), (Nat.le_of_ble_eq_true rfl)⟩ ⟨Nat.le_refl _, Nat.le_refl _⟩ ?_
    first
      | exact pf_iret h d_Recv_key_37 (bool_nar (cmdV_01 _ _ _)) (by rw [qk] at e15; rw [kyV, if_neg (by omega)]) (by rw [qk] at e15; rw [kyT, if_neg (by omega)])
      | exact pf_iret h d_Recv_key_37 (bool_nar (dgV_01 _ _)) (by rw [qk] at e15; rw [kyV, if_pos (by omega)]) (by rw [qk] at e15; rw [kyT, if_pos (by omega)])--end
  refine pg_aload_n h d_Recv_key_18 rfl ?_
  refine pf_get h ok d_Recv_key_19 f_Recv_45 (by first | rfl | exact hk | exact hk2 | exact dm12 _ | assumption) rfl rfl ?_
  refine pg_iload_n h d_Recv_key_22 rfl ?_
  refine pf_cV h ok d_Recv_key_23 m_Remote_pressDigit l_Recv_89 (c_Remote_pressDigit w ok S (nI kk)) cn_Remote (by first | rfl | exact hk | exact hk2 | exact dm12 _ | assumption) rfl rfl rfl (Nat.le_of_ble_eq_true rfl) ⟨(Nat.le_of_ble_eq_true rfl), (Nat.le_of_ble_eq_true rfl)⟩ ⟨Nat.le_refl _, Nat.le_refl _⟩ ?_
  refine pg_goto (tgt := 37) h d_Recv_key_26 rfl ?_
  first
    | exact pf_iret h d_Recv_key_37 (bool_nar (cmdV_01 _ _ _)) (by rw [qk] at e15; rw [kyV, if_neg (by omega)]) (by rw [qk] at e15; rw [kyT, if_neg (by omega)])
    | exact pf_iret h d_Recv_key_37 (bool_nar (dgV_01 _ _)) (by rw [qk] at e15; rw [kyV, if_pos (by omega)]) (by rw [qk] at e15; rw [kyT, if_pos (by omega)])--end

theorem wnt_comm (A : pf_S) (n v : Int32) : pf_st (wntF A n) 6 0 3 v = wntF (pf_st A 6 0 3 v) n := by
  funext a b c
  simp only [wntF, pf_st_at]
  grind (splits := 30)
theorem Aeq.of {A B : pf_S} (h : A = B) : Aeq A B := by
  subst h
  exact ⟨fun _ _ _ _ => rfl, fun _ => rfl⟩

set_option maxRecDepth 100000 in
set_option maxHeartbeats 4000000 in
theorem c_Mod_digit (w : pf_W) (ok : pf_ok w) (A S0 : pf_S) (z : Int32) (dd : Nat) (hd : dd ≤ 9) (hwt : A 6 0 3 = 0 ∨ A 6 0 3 = 1 ∨ A 6 0 3 = 2) : pm_C w y_Mod_digit b_Mod_digit 2 (some .boolean) 1 21 [.ref (w.2.1 20 0), .int (nI dd)] z (A) S0 (some (.int (dgV A (nI dd)))) z (dgT A (nI dd)) := by
  refine pm_enter (by decide) (Nat.le_of_ble_eq_true rfl) (lv0 := [some (.ref (w.2.1 20 0)), some (.int (nI dd))]) rfl (fun κ S h hR hg => ?_)
  have ed : S 20 0 14 = A 6 0 3 := hR.2.2.2.1.2.1
  have e1 : S 20 0 15 = A 6 0 4 := hR.2.2.2.1.2.2.1
  have e2 : S 20 0 16 = A 6 0 5 := hR.2.2.2.1.2.2.2.1
  have q0 : (nI dd = 0) = (dd = 0) := propext (show nI dd = nI 0 ↔ _ from nI_eq (by omega) (by decide))
  have q9 : (nI dd = 9) = (dd = 9) := propext (show nI dd = nI 9 ↔ _ from nI_eq (by omega) (by decide))
  have ql : (nI dd < 1) = (dd < 1) := propext (show nI dd < nI 1 ↔ _ from nI_ltI (by omega) (by decide))
  have q8 : (nI dd ≤ 8) = (dd ≤ 8) := propext (show nI dd ≤ nI 8 ↔ _ from nI_leI (by omega) (by decide))
  rcases hwt with hz | hz | hz
  · by_cases hb : dd = 0 ∨ dd = 9
    · have hv : dgV A (nI dd) = 0 := by
        rcases hb with rfl | rfl <;> (rw [dgV, if_pos hz]; rfl)
      have ht : dgT A (nI dd) = A := by
        rcases hb with rfl | rfl <;> (rw [dgT, if_pos hz]; rfl)
      rw [hv, ht]
      rw [hz] at ed
      refine pg_aload_n h d_Mod_digit_0 rfl ?_
      refine pf_get h ok d_Mod_digit_1 f_Mod_138 (by first | rfl | exact hk | exact hk2 | exact dm12 _ | assumption) rfl rfl ?_
      rw [ed]
      refine pg_if_ne (tgt := 19) h d_Mod_digit_4 rfl (fun e4 => absurd e4 (fun q => q rfl)) (fun e4 => ?_)
      refine pg_iload_n h d_Mod_digit_7 rfl ?_
      refine pg_if_eq (tgt := 17) h d_Mod_digit_8 rfl (fun e8 => ?_) (fun e8 => ?_)
      · skip
        refine pg_iconst (v := 0) h d_Mod_digit_17 (by decide) ?_
        exact pm_iret h d_Mod_digit_18 rfl (by first | rfl | simp [*]) (hR) (hg)
      refine pg_iload_n h d_Mod_digit_11 rfl ?_
      refine pg_bipush (v := 9) h d_Mod_digit_12 (by decide) ?_
      refine pg_icmp_ne (tgt := 19) h d_Mod_digit_14 rfl (fun e14 => absurd e14 (fun q => by rw [q9] at q; rw [q0] at e8; omega)) (fun e14 => ?_)
      refine pg_iconst (v := 0) h d_Mod_digit_17 (by decide) ?_
      exact pm_iret h d_Mod_digit_18 rfl (by first | rfl | simp [*]) (hR) (hg)
    · have hv : dgV A (nI dd) = 1 := by
        rw [dgV, if_pos hz, if_neg (by rw [ql]; omega), if_pos (by rw [q8]; omega)]
      have ht : dgT A (nI dd) = pf_st (pf_st A 6 0 4 (nI dd)) 6 0 3 1 := by
        rw [dgT, if_pos hz, if_neg (by rw [ql]; omega), if_pos (by rw [q8]; omega)]
      rw [hv, ht]
      rw [hz] at ed
      refine pg_aload_n h d_Mod_digit_0 rfl ?_
      refine pf_get h ok d_Mod_digit_1 f_Mod_138 (by first | rfl | exact hk | exact hk2 | exact dm12 _ | assumption) rfl rfl ?_
      rw [ed]
      refine pg_if_ne (tgt := 19) h d_Mod_digit_4 rfl (fun e4 => absurd e4 (fun q => q rfl)) (fun e4 => ?_)
      refine pg_iload_n h d_Mod_digit_7 rfl ?_
      refine pg_if_eq (tgt := 17) h d_Mod_digit_8 rfl (fun e8 => absurd e8 (fun q => hb (Or.inl (by rw [q0] at q; exact q)))) (fun e8 => ?_)
      refine pg_iload_n h d_Mod_digit_11 rfl ?_
      refine pg_bipush (v := 9) h d_Mod_digit_12 (by decide) ?_
      refine pg_icmp_ne (tgt := 19) h d_Mod_digit_14 rfl (fun e14 => ?_) (fun e14 => absurd e14 (fun q => hb (Or.inr (by rw [q9] at q; exact q))))
      refine pg_aload_n h d_Mod_digit_19 rfl ?_
      refine pf_get h ok d_Mod_digit_20 f_Mod_138 (by first | rfl | exact hk | exact hk2 | exact dm12 _ | assumption) rfl rfl ?_
      rw [ed]
      refine pg_iconst (v := 2) h d_Mod_digit_23 (by decide) ?_
      refine pg_icmp_ne (tgt := 52) h d_Mod_digit_24 rfl (fun e24 => ?_) (fun e24 => absurd e24 (by decide))
      refine pg_aload_n h d_Mod_digit_52 rfl ?_
      refine pg_aload_n h d_Mod_digit_53 rfl ?_
      refine pf_get h ok d_Mod_digit_54 f_Mod_138 (by first | rfl | exact hk | exact hk2 | exact dm12 _ | assumption) rfl rfl ?_
      rw [ed]
      refine pg_if_ne (tgt := 64) h d_Mod_digit_57 rfl (fun e57 => absurd e57 (fun q => q rfl)) (fun e57 => ?_)
      refine pg_iload_n h d_Mod_digit_60 rfl ?_
      refine pg_goto (tgt := 68) h d_Mod_digit_61 rfl ?_
      refine pf_puti h ok d_Mod_digit_68 fw_Mod_141 (by first | rfl | exact hk | exact hk2 | exact dm12 _ | assumption) rfl (Nat.le_of_ble_eq_true rfl) rfl ?_
      refine pg_aload_n h d_Mod_digit_71 rfl ?_
      refine pg_aload_n h d_Mod_digit_72 rfl ?_
      refine pf_get h ok d_Mod_digit_73 f_Mod_138 (by first | rfl | exact hk | exact hk2 | exact dm12 _ | assumption) rfl rfl ?_
      rw [show pf_st S 20 0 15 (nI dd) 20 0 14 = 0 from ed]
      refine pg_iconst (v := 1) h d_Mod_digit_76 (by decide) ?_
      refine pg_icmp_ne (tgt := 84) h d_Mod_digit_77 rfl (fun e77 => ?_) (fun e77 => absurd e77 (by decide))
      refine pg_aload_n h d_Mod_digit_84 rfl ?_
      refine pf_get h ok d_Mod_digit_85 f_Mod_144 (by first | rfl | exact hk | exact hk2 | exact dm12 _ | assumption) rfl rfl ?_
      refine pf_puti h ok d_Mod_digit_88 fw_Mod_144 (by first | rfl | exact hk | exact hk2 | exact dm12 _ | assumption) rfl (Nat.le_of_ble_eq_true rfl) rfl ?_
      refine pg_aload_n h d_Mod_digit_91 rfl ?_
      refine pg_aload_n h d_Mod_digit_92 rfl ?_
      refine pf_get h ok d_Mod_digit_93 f_Mod_138 (by first | rfl | exact hk | exact hk2 | exact dm12 _ | assumption) rfl rfl ?_
      rw [show pf_st (pf_st S 20 0 15 (nI dd)) 20 0 16 (pf_st S 20 0 15 (nI dd) 20 0 16) 20 0 14 = 0 from ed]
      refine pg_iconst (v := 1) h d_Mod_digit_96 (by decide) ?_
      refine pg_iadd h d_Mod_digit_97 ?_
      refine pg_iconst (v := 3) h d_Mod_digit_98 (by decide) ?_
      refine pg_irem h d_Mod_digit_99 (by decide) ?_
      refine pf_puti h ok d_Mod_digit_100 fw_Mod_138 (by first | rfl | exact hk | exact hk2 | exact dm12 _ | assumption) rfl (Nat.le_of_ble_eq_true rfl) rfl ?_
      refine pg_iconst (v := 1) h d_Mod_digit_103 (by decide) ?_
      exact pm_iret h d_Mod_digit_104 rfl (by first | rfl | simp [*]) (by rw [pf_st_id]; exact (hR.dg1).dgs) (((hg.st (by decide)).st (by decide)).st (by decide))
  · have hv : dgV A (nI dd) = 1 := by rw [dgV, hz]; rfl
    have ht : dgT A (nI dd) = pf_st (pf_st A 6 0 5 (nI dd)) 6 0 3 2 := by rw [dgT, hz]; rfl
    rw [hv, ht]
    rw [hz] at ed
    refine pg_aload_n h d_Mod_digit_0 rfl ?_
    refine pf_get h ok d_Mod_digit_1 f_Mod_138 (by first | rfl | exact hk | exact hk2 | exact dm12 _ | assumption) rfl rfl ?_
    rw [ed]
    refine pg_if_ne (tgt := 19) h d_Mod_digit_4 rfl (fun e4 => ?_) (fun e4 => absurd e4 (by decide))
    refine pg_aload_n h d_Mod_digit_19 rfl ?_
    refine pf_get h ok d_Mod_digit_20 f_Mod_138 (by first | rfl | exact hk | exact hk2 | exact dm12 _ | assumption) rfl rfl ?_
    rw [ed]
    refine pg_iconst (v := 2) h d_Mod_digit_23 (by decide) ?_
    refine pg_icmp_ne (tgt := 52) h d_Mod_digit_24 rfl (fun e24 => ?_) (fun e24 => absurd e24 (by decide))
    refine pg_aload_n h d_Mod_digit_52 rfl ?_
    refine pg_aload_n h d_Mod_digit_53 rfl ?_
    refine pf_get h ok d_Mod_digit_54 f_Mod_138 (by first | rfl | exact hk | exact hk2 | exact dm12 _ | assumption) rfl rfl ?_
    rw [ed]
    refine pg_if_ne (tgt := 64) h d_Mod_digit_57 rfl (fun e57 => ?_) (fun e57 => absurd e57 (by decide))
    refine pg_aload_n h d_Mod_digit_64 rfl ?_
    refine pf_get h ok d_Mod_digit_65 f_Mod_141 (by first | rfl | exact hk | exact hk2 | exact dm12 _ | assumption) rfl rfl ?_
    refine pf_puti h ok d_Mod_digit_68 fw_Mod_141 (by first | rfl | exact hk | exact hk2 | exact dm12 _ | assumption) rfl (Nat.le_of_ble_eq_true rfl) rfl ?_
    refine pg_aload_n h d_Mod_digit_71 rfl ?_
    rw [pf_st_id]
    refine pg_aload_n h d_Mod_digit_72 rfl ?_
    refine pf_get h ok d_Mod_digit_73 f_Mod_138 (by first | rfl | exact hk | exact hk2 | exact dm12 _ | assumption) rfl rfl ?_
    rw [ed]
    refine pg_iconst (v := 1) h d_Mod_digit_76 (by decide) ?_
    refine pg_icmp_ne (tgt := 84) h d_Mod_digit_77 rfl (fun e77 => absurd e77 (fun q => q rfl)) (fun e77 => ?_)
    refine pg_iload_n h d_Mod_digit_80 rfl ?_
    refine pg_goto (tgt := 88) h d_Mod_digit_81 rfl ?_
    refine pf_puti h ok d_Mod_digit_88 fw_Mod_144 (by first | rfl | exact hk | exact hk2 | exact dm12 _ | assumption) rfl (Nat.le_of_ble_eq_true rfl) rfl ?_
    refine pg_aload_n h d_Mod_digit_91 rfl ?_
    refine pg_aload_n h d_Mod_digit_92 rfl ?_
    refine pf_get h ok d_Mod_digit_93 f_Mod_138 (by first | rfl | exact hk | exact hk2 | exact dm12 _ | assumption) rfl rfl ?_
    rw [show pf_st S 20 0 16 (nI dd) 20 0 14 = 1 from ed]
    refine pg_iconst (v := 1) h d_Mod_digit_96 (by decide) ?_
    refine pg_iadd h d_Mod_digit_97 ?_
    refine pg_iconst (v := 3) h d_Mod_digit_98 (by decide) ?_
    refine pg_irem h d_Mod_digit_99 (by decide) ?_
    refine pf_puti h ok d_Mod_digit_100 fw_Mod_138 (by first | rfl | exact hk | exact hk2 | exact dm12 _ | assumption) rfl (Nat.le_of_ble_eq_true rfl) rfl ?_
    refine pg_iconst (v := 1) h d_Mod_digit_103 (by decide) ?_
    exact pm_iret h d_Mod_digit_104 rfl (by first | rfl | simp [*]) ((hR.dg2).dgs) ((hg.st (by decide)).st (by decide))
  · have hv : dgV A (nI dd) = 1 := by rw [dgV, hz]; rfl
    have ht : dgT A (nI dd) = wntF (pf_st A 6 0 3 0) (256 * (A 6 0 4 - A 6 0 4 / 8 * 8) + 16 * A 6 0 5 + nI dd) := by rw [dgT, hz]; rfl
    rw [hv, ht]
    rw [hz] at ed
    refine pg_aload_n h d_Mod_digit_0 rfl ?_
    refine pf_get h ok d_Mod_digit_1 f_Mod_138 (by first | rfl | exact hk | exact hk2 | exact dm12 _ | assumption) rfl rfl ?_
    rw [ed]
    refine pg_if_ne (tgt := 19) h d_Mod_digit_4 rfl (fun e4 => ?_) (fun e4 => absurd e4 (by decide))
    refine pg_aload_n h d_Mod_digit_19 rfl ?_
    refine pf_get h ok d_Mod_digit_20 f_Mod_138 (by first | rfl | exact hk | exact hk2 | exact dm12 _ | assumption) rfl rfl ?_
    rw [ed]
    refine pg_iconst (v := 2) h d_Mod_digit_23 (by decide) ?_
    refine pg_icmp_ne (tgt := 52) h d_Mod_digit_24 rfl (fun e24 => absurd e24 (fun q => q rfl)) (fun e24 => ?_)
    refine pg_aload_n h d_Mod_digit_27 rfl ?_
    refine pg_sipush (v := 256) h d_Mod_digit_28 (by decide) ?_
    refine pg_aload_n h d_Mod_digit_31 rfl ?_
    refine pf_get h ok d_Mod_digit_32 f_Mod_141 (by first | rfl | exact hk | exact hk2 | exact dm12 _ | assumption) rfl rfl ?_
    refine pg_bipush (v := 8) h d_Mod_digit_35 (by decide) ?_
    refine pg_irem h d_Mod_digit_37 (by decide) ?_
    refine pg_imul h d_Mod_digit_38 ?_
    refine pg_bipush (v := 16) h d_Mod_digit_39 (by decide) ?_
    refine pg_aload_n h d_Mod_digit_41 rfl ?_
    refine pf_get h ok d_Mod_digit_42 f_Mod_144 (by first | rfl | exact hk | exact hk2 | exact dm12 _ | assumption) rfl rfl ?_
    refine pg_imul h d_Mod_digit_45 ?_
    refine pg_iadd h d_Mod_digit_46 ?_
    refine pg_iload_n h d_Mod_digit_47 rfl ?_
    refine pg_iadd h d_Mod_digit_48 ?_
    rw [e1, e2]
    refine pm_cV0 h ok (hR) (hg) d_Mod_digit_49 m_Mod_want l_Mod_147 (c_Mod_want w ok A S0 z _) rfl rfl rfl (Nat.le_of_ble_eq_true rfl) ⟨(Nat.le_of_ble_eq_true rfl), (Nat.le_of_ble_eq_true rfl)⟩ ⟨Nat.le_refl _, Nat.le_refl _⟩ (fun S49 hR49 hg49 => ?_)
    refine pg_aload_n h d_Mod_digit_52 rfl ?_
    refine pg_aload_n h d_Mod_digit_53 rfl ?_
    refine pf_get h ok d_Mod_digit_54 f_Mod_138 (by first | rfl | exact hk | exact hk2 | exact dm12 _ | assumption) rfl rfl ?_
    have ed2 : S49 20 0 14 = 2 := hR49.2.2.2.1.2.1.trans hz
    rw [ed2]
    refine pg_if_ne (tgt := 64) h d_Mod_digit_57 rfl (fun e57 => ?_) (fun e57 => absurd e57 (by decide))
    refine pg_aload_n h d_Mod_digit_64 rfl ?_
    refine pf_get h ok d_Mod_digit_65 f_Mod_141 (by first | rfl | exact hk | exact hk2 | exact dm12 _ | assumption) rfl rfl ?_
    refine pf_puti h ok d_Mod_digit_68 fw_Mod_141 (by first | rfl | exact hk | exact hk2 | exact dm12 _ | assumption) rfl (Nat.le_of_ble_eq_true rfl) rfl ?_
    refine pg_aload_n h d_Mod_digit_71 rfl ?_
    rw [pf_st_id]
    refine pg_aload_n h d_Mod_digit_72 rfl ?_
    refine pf_get h ok d_Mod_digit_73 f_Mod_138 (by first | rfl | exact hk | exact hk2 | exact dm12 _ | assumption) rfl rfl ?_
    rw [ed2]
    refine pg_iconst (v := 1) h d_Mod_digit_76 (by decide) ?_
    refine pg_icmp_ne (tgt := 84) h d_Mod_digit_77 rfl (fun e77 => ?_) (fun e77 => absurd e77 (by decide))
    refine pg_aload_n h d_Mod_digit_84 rfl ?_
    refine pf_get h ok d_Mod_digit_85 f_Mod_144 (by first | rfl | exact hk | exact hk2 | exact dm12 _ | assumption) rfl rfl ?_
    refine pf_puti h ok d_Mod_digit_88 fw_Mod_144 (by first | rfl | exact hk | exact hk2 | exact dm12 _ | assumption) rfl (Nat.le_of_ble_eq_true rfl) rfl ?_
    rw [pf_st_id]
    refine pg_aload_n h d_Mod_digit_91 rfl ?_
    refine pg_aload_n h d_Mod_digit_92 rfl ?_
    refine pf_get h ok d_Mod_digit_93 f_Mod_138 (by first | rfl | exact hk | exact hk2 | exact dm12 _ | assumption) rfl rfl ?_
    rw [ed2]
    refine pg_iconst (v := 1) h d_Mod_digit_96 (by decide) ?_
    refine pg_iadd h d_Mod_digit_97 ?_
    refine pg_iconst (v := 3) h d_Mod_digit_98 (by decide) ?_
    refine pg_irem h d_Mod_digit_99 (by decide) ?_
    refine pf_puti h ok d_Mod_digit_100 fw_Mod_138 (by first | rfl | exact hk | exact hk2 | exact dm12 _ | assumption) rfl (Nat.le_of_ble_eq_true rfl) rfl ?_
    refine pg_iconst (v := 1) h d_Mod_digit_103 (by decide) ?_
    exact pm_iret h d_Mod_digit_104 rfl (by first | rfl | simp [*]) ((hR49.dgs (v := 0)).cong (Aeq.of (wnt_comm _ _ _))) (hg49.st (by decide))

set_option maxRecDepth 100000 in
set_option maxHeartbeats 4000000 in
theorem c_Mod_reset (w : pf_W) (ok : pf_ok w) (A S0 : pf_S) (z : Int32)  : pm_C w y_Mod_reset b_Mod_reset 2 (some .int) 0 0 [.ref (w.2.1 20 0)] z (A) S0 (some (.int z)) 0 (A) := by
  refine pm_enter (by decide) (Nat.le_of_ble_eq_true rfl) (lv0 := [some (.ref (w.2.1 20 0)), none]) rfl (fun κ S h hR hg => ?_)
  refine pg_aload_n h d_Mod_reset_0 rfl ?_
  refine pf_get h ok d_Mod_reset_1 f_Mod_127 (by first | rfl | exact hk | exact hk2 | exact dm12 _ | assumption) rfl rfl ?_
  rw [hR.1.2]
  refine pg_istore_n h d_Mod_reset_4 (Nat.le_of_ble_eq_true rfl) rfl rfl ?_
  refine pg_aload_n h d_Mod_reset_5 rfl ?_
  refine pg_iconst (v := 0) h d_Mod_reset_6 (by decide) ?_
  refine pf_puti h ok d_Mod_reset_7 fw_Mod_127 (by first | rfl | exact hk | exact hk2 | exact dm12 _ | assumption) rfl (Nat.le_of_ble_eq_true rfl) rfl ?_
  refine pg_iload_n h d_Mod_reset_10 rfl ?_
  exact pm_iret h d_Mod_reset_11 rfl (by first | rfl | simp [*]) (hR.siz 0) (hg.st (by decide))

set_option maxRecDepth 100000 in
set_option maxHeartbeats 4000000 in
theorem c_Mod_tick (w : pf_W) (ok : pf_ok w) (A S0 : pf_S) (z : Int32)  : pm_C w y_Mod_tick b_Mod_tick 1 (some .boolean) 0 0 [.ref (w.2.1 20 0)] z (A) S0 (some (.int (tikV A))) z (pf_st A 12 0 3 (tikV A)) := by
  refine pm_enter (by decide) (Nat.le_of_ble_eq_true rfl) (lv0 := [some (.ref (w.2.1 20 0))]) rfl (fun κ S h hR hg => ?_)
  refine pg_aload_n h d_Mod_tick_0 rfl ?_
  refine pg_aload_n h d_Mod_tick_1 rfl ?_
  refine pf_get h ok d_Mod_tick_2 f_Mod_48 (by first | rfl | exact hk | exact hk2 | exact dm12 _ | assumption) rfl rfl ?_
  rw [hR.2.2.2.1.2.2.2.2.2]
  refine pg_if_ne (tgt := 12) h d_Mod_tick_5 rfl (fun e5 => ?_) (fun e5 => ?_)
  · skip
    refine pg_iconst (v := 0) h d_Mod_tick_12 (by decide) ?_
    refine pf_putz 0 h ok d_Mod_tick_13 fw_Mod_48 (by first | rfl | exact hk | exact hk2 | exact dm12 _ | assumption) rfl (Nat.le_of_ble_eq_true rfl) rfl ?_
    refine pg_aload_n h d_Mod_tick_16 rfl ?_
    refine pf_get h ok d_Mod_tick_17 f_Mod_48 (by first | rfl | exact hk | exact hk2 | exact dm12 _ | assumption) rfl rfl ?_
    exact pm_iret h d_Mod_tick_20 (nb_narrow _) (by simp [tikV, pf_st_at, e5, nb_0, nb_1]) (hR.lig (by simp [tikV, e5])) (hg.st (by decide))--end
  refine pg_iconst (v := 1) h d_Mod_tick_8 (by decide) ?_
  refine pg_goto (tgt := 13) h d_Mod_tick_9 rfl ?_
  refine pf_putz 1 h ok d_Mod_tick_13 fw_Mod_48 (by first | rfl | exact hk | exact hk2 | exact dm12 _ | assumption) rfl (Nat.le_of_ble_eq_true rfl) rfl ?_
  refine pg_aload_n h d_Mod_tick_16 rfl ?_
  refine pf_get h ok d_Mod_tick_17 f_Mod_48 (by first | rfl | exact hk | exact hk2 | exact dm12 _ | assumption) rfl rfl ?_
  exact pm_iret h d_Mod_tick_20 (nb_narrow _) (by simp [tikV, pf_st_at, e5, nb_0, nb_1]) (hR.lig (by simp [tikV, e5])) (hg.st (by decide))--end

set_option maxRecDepth 100000 in
set_option maxHeartbeats 4000000 in
theorem c_Mod_shown (w : pf_W) (ok : pf_ok w) (A S0 : pf_S) (z : Int32) (hw : 1 ≤ w.2.2.1 ∧ w.2.2.1 ≤ 4) : pm_C w y_Mod_shown b_Mod_shown 2 (some .int) 2 42 [.ref (w.2.1 20 0)] z (A) S0 (some (.int (shwV A w.2.2.1))) z (A) := by
  refine pm_enter (by decide) (Nat.le_of_ble_eq_true rfl) (lv0 := [some (.ref (w.2.1 20 0)), none]) rfl (fun κ S h hR hg => ?_)
  cases hf : shnF A w.2.2.1 with
  | none =>
    have ek : kpV (shnF A w.2.2.1) = -1 := by rw [hf]; rfl
    refine pg_aload_n h d_Mod_shown_0 rfl ?_
    refine pm_cV h ok (hR) (hg) d_Mod_shown_1 m_Mod_shownAt l_Mod_154 (c_Mod_shownAt w ok A S0 z hw) rfl rfl rfl (Nat.le_of_ble_eq_true rfl) ⟨(Nat.le_of_ble_eq_true rfl), (Nat.le_of_ble_eq_true rfl)⟩ ⟨Nat.le_refl _, Nat.le_refl _⟩ (fun S1 hR1 hg1 => ?_)
    rw [ek]
    refine pg_istore_n h d_Mod_shown_4 (Nat.le_of_ble_eq_true rfl) rfl rfl ?_
    refine pg_iload_n h d_Mod_shown_5 rfl ?_
    refine pg_if_ge (tgt := 13) h d_Mod_shown_6 rfl (fun e6 => absurd e6 (by decide)) (fun e6 => ?_)
    refine pg_iconst (v := (-1)) h d_Mod_shown_9 (by decide) ?_
    refine pg_goto (tgt := 19) h d_Mod_shown_10 rfl ?_
    exact pm_iret h d_Mod_shown_19 rfl (by simp only [shwV, hf]) (hR1) (hg1)
  | some k =>
    have ek : kpV (shnF A w.2.2.1) = nI k := by rw [hf]; rfl
    have hk : k < 8 + w.2.2.1 ∨ k = 12 := by
      have := shnF_dm hf
      simp only [pf_dm, Bool.or_eq_true, decide_eq_true_eq] at this
      exact this
    refine pg_aload_n h d_Mod_shown_0 rfl ?_
    refine pm_cV h ok (hR) (hg) d_Mod_shown_1 m_Mod_shownAt l_Mod_154 (c_Mod_shownAt w ok A S0 z hw) rfl rfl rfl (Nat.le_of_ble_eq_true rfl) ⟨(Nat.le_of_ble_eq_true rfl), (Nat.le_of_ble_eq_true rfl)⟩ ⟨Nat.le_refl _, Nat.le_refl _⟩ (fun S1 hR1 hg1 => ?_)
    rw [ek]
    refine pg_istore_n h d_Mod_shown_4 (Nat.le_of_ble_eq_true rfl) rfl rfl ?_
    refine pg_iload_n h d_Mod_shown_5 rfl ?_
    refine pg_if_ge (tgt := 13) h d_Mod_shown_6 rfl (fun e6 => ?_) (fun e6 => absurd e6 (fun q => q (nI_pos' (by omega))))
    refine pg_aload_n h d_Mod_shown_13 rfl ?_
    refine pf_get h ok d_Mod_shown_14 f_Mod_13 (by first | rfl | exact hk | exact hk2 | exact dm12 _ | assumption) rfl rfl ?_
    refine pg_iload_n h d_Mod_shown_17 rfl ?_
    refine pf_ild h ok d_Mod_shown_18 (by first | rfl | exact hk | exact hk2 | exact dm12 _ | assumption) rfl (pg_ixN rfl (show k < 13 by omega) (by decide)) ?_
    rw [(hR1.2.2.2.2.2 k hk).2.1]
    exact pm_iret h d_Mod_shown_19 rfl (by simp only [shwV, hf]) (hR1) (hg1)

set_option maxRecDepth 100000 in
set_option maxHeartbeats 4000000 in
theorem c_Mod_viewer (w : pf_W) (ok : pf_ok w) (A S0 : pf_S) (z : Int32) (x : Int32) : pm_C w y_Mod_viewer b_Mod_viewer 2 (some .int) 0 0 [.ref (w.2.1 20 0), .int x] z (A) S0 (some (.int (vwrV A x))) z (A) := by
  refine pm_enter (by decide) (Nat.le_of_ble_eq_true rfl) (lv0 := [some (.ref (w.2.1 20 0)), some (.int x)]) rfl (fun κ S h hR hg => ?_)
  refine pg_iload_n h d_Mod_viewer_0 rfl ?_
  refine pg_if_ne (tgt := 11) h d_Mod_viewer_1 rfl (fun e1 => ?_) (fun e1 => ?_)
  · skip
    refine pg_iload_n h d_Mod_viewer_11 rfl ?_
    refine pg_iconst (v := 1) h d_Mod_viewer_12 (by decide) ?_
    refine pg_icmp_ne (tgt := 23) h d_Mod_viewer_13 rfl (fun e13 => ?_) (fun e13 => ?_)
    · skip
      refine pg_iload_n h d_Mod_viewer_23 rfl ?_
      refine pg_iconst (v := 2) h d_Mod_viewer_24 (by decide) ?_
      refine pg_icmp_ne (tgt := 46) h d_Mod_viewer_25 rfl (fun e25 => ?_) (fun e25 => ?_)
      · skip
        refine pg_iload_n h d_Mod_viewer_46 rfl ?_
        refine pg_iconst (v := 3) h d_Mod_viewer_47 (by decide) ?_
        refine pg_icmp_ne (tgt := 66) h d_Mod_viewer_48 rfl (fun e48 => ?_) (fun e48 => ?_)
        · skip
          refine pg_iconst (v := (-1)) h d_Mod_viewer_66 (by decide) ?_
          exact pm_iret h d_Mod_viewer_67 rfl (by first | (simp [vwrV, nb_ne e35, *]; done) | (simp [vwrV, nb_ne e55, *]; done) | simp [vwrV, *]) (hR) (hg)
        refine pg_aload_n h d_Mod_viewer_51 rfl ?_
        refine pf_get h ok d_Mod_viewer_52 f_Mod_135 (by first | rfl | exact hk | exact hk2 | exact dm12 _ | assumption) rfl rfl ?_
        rw [hR.2.2.2.1.2.2.2.2.1]
        refine pg_if_eq (tgt := 62) h d_Mod_viewer_55 rfl (fun e55 => ?_) (fun e55 => ?_)
        · skip
          refine pg_iconst (v := 0) h d_Mod_viewer_62 (by decide) ?_
          refine pg_goto (tgt := 67) h d_Mod_viewer_63 rfl ?_
          exact pm_iret h d_Mod_viewer_67 rfl (by first | (simp [vwrV, nb_ne e35, *]; done) | (simp [vwrV, nb_ne e55, *]; done) | simp [vwrV, *]) (hR) (hg)
        refine pg_iconst (v := 1) h d_Mod_viewer_58 (by decide) ?_
        refine pg_goto (tgt := 67) h d_Mod_viewer_59 rfl ?_
        exact pm_iret h d_Mod_viewer_67 rfl (by first | (simp [vwrV, nb_ne e35, *]; done) | (simp [vwrV, nb_ne e55, *]; done) | simp [vwrV, *]) (hR) (hg)
      refine pg_aload_n h d_Mod_viewer_28 rfl ?_
      refine pf_get h ok d_Mod_viewer_29 f_Mod_7 (by first | rfl | exact hk | exact hk2 | exact dm12 _ | assumption) rfl rfl ?_
      refine pg_bipush (v := 12) h d_Mod_viewer_32 (by decide) ?_
      refine pf_zld h ok d_Mod_viewer_34 (by first | rfl | exact hk | exact hk2 | exact dm12 _ | assumption) rfl (pg_ixN (j := 12) rfl (by decide) (by decide)) ?_
      rw [(hR.2.2.2.2.2 12 (Or.inr rfl)).1]
      refine pg_if_eq (tgt := 42) h d_Mod_viewer_35 rfl (fun e35 => ?_) (fun e35 => ?_)
      · skip
        refine pg_iconst (v := 0) h d_Mod_viewer_42 (by decide) ?_
        refine pg_goto (tgt := 67) h d_Mod_viewer_43 rfl ?_
        exact pm_iret h d_Mod_viewer_67 rfl (by first | (simp [vwrV, nb_ne e35, *]; done) | (simp [vwrV, nb_ne e55, *]; done) | simp [vwrV, *]) (hR) (hg)
      refine pg_iconst (v := 1) h d_Mod_viewer_38 (by decide) ?_
      refine pg_goto (tgt := 67) h d_Mod_viewer_39 rfl ?_
      exact pm_iret h d_Mod_viewer_67 rfl (by first | (simp [vwrV, nb_ne e35, *]; done) | (simp [vwrV, nb_ne e55, *]; done) | simp [vwrV, *]) (hR) (hg)
    refine pg_aload_n h d_Mod_viewer_16 rfl ?_
    refine pf_get h ok d_Mod_viewer_17 f_Mod_138 (by first | rfl | exact hk | exact hk2 | exact dm12 _ | assumption) rfl rfl ?_
    rw [hR.2.2.2.1.2.1]
    refine pg_goto (tgt := 67) h d_Mod_viewer_20 rfl ?_
    exact pm_iret h d_Mod_viewer_67 rfl (by first | (simp [vwrV, nb_ne e35, *]; done) | (simp [vwrV, nb_ne e55, *]; done) | simp [vwrV, *]) (hR) (hg)
  refine pg_aload_n h d_Mod_viewer_4 rfl ?_
  refine pf_get h ok d_Mod_viewer_5 f_Mod_44 (by first | rfl | exact hk | exact hk2 | exact dm12 _ | assumption) rfl rfl ?_
  rw [hR.2.2.2.1.1]
  refine pg_goto (tgt := 67) h d_Mod_viewer_8 rfl ?_
  exact pm_iret h d_Mod_viewer_67 rfl (by first | (simp [vwrV, nb_ne e35, *]; done) | (simp [vwrV, nb_ne e55, *]; done) | simp [vwrV, *]) (hR) (hg)

theorem c_lt6 {x : Int32} (h : x < 6) : x ≤ 5 := by
  have h1 := Int32.lt_iff_toInt_lt.mp h
  rw [Int32.le_iff_toInt_le]
  have e6 : (6 : Int32).toInt = 6 := by decide
  have e5 : (5 : Int32).toInt = 5 := by decide
  omega

set_option maxRecDepth 100000 in
set_option maxHeartbeats 4000000 in
theorem c_Mod_count (w : pf_W) (ok : pf_ok w) (A S0 : pf_S) (z : Int32) (x : Int32) : pm_C w y_Mod_count b_Mod_count 2 (some .int) 0 0 [.ref (w.2.1 20 0), .int x] z (A) S0 (some (.int (cntV A x))) z (A) := by
  refine pm_enter (by decide) (Nat.le_of_ble_eq_true rfl) (lv0 := [some (.ref (w.2.1 20 0)), some (.int x)]) rfl (fun κ S h hR hg => ?_)
  refine pg_iload_n h d_Mod_count_0 rfl ?_
  refine pg_if_lt (tgt := 9) h d_Mod_count_1 rfl (fun e1 => ?_) (fun e1 => ?_)
  · skip
    refine pg_iconst (v := (-1)) h d_Mod_count_9 (by decide) ?_
    refine pg_goto (tgt := 19) h d_Mod_count_10 rfl ?_
    first
      | exact pm_iret h d_Mod_count_19 rfl (by rw [cntV, if_neg e1, if_pos h6, hR.2.1 _ hix.2]) hR hg
      | exact pm_iret h d_Mod_count_19 rfl (by rw [cntV, if_pos e1]) hR hg
      | exact pm_iret h d_Mod_count_19 rfl (by rw [cntV, if_neg e1, if_neg (fun q => e6 (c_lt6 q))]) hR hg--end
  refine pg_iload_n h d_Mod_count_4 rfl ?_
  refine pg_iconst (v := 5) h d_Mod_count_5 (by decide) ?_
  refine pg_icmp_le (tgt := 13) h d_Mod_count_6 rfl (fun e6 => ?_) (fun e6 => ?_)
  · skip
    have h6 : x < 6 := Int32.lt_of_le_of_lt e6 (by decide)
    have hix := ixP (P := 6) e1 (fun q => absurd h6 (Int32.not_lt.mpr q)) (by decide)
    refine pg_aload_n h d_Mod_count_13 rfl ?_
    refine pf_get h ok d_Mod_count_14 f_Mod_41 (by first | rfl | exact hk | exact hk2 | exact dm12 _ | assumption) rfl rfl ?_
    refine pg_iload_n h d_Mod_count_17 rfl ?_
    refine pf_ild h ok d_Mod_count_18 (by first | rfl | exact hk | exact hk2 | exact dm12 _ | assumption) rfl hix.1 ?_
    first
      | exact pm_iret h d_Mod_count_19 rfl (by rw [cntV, if_neg e1, if_pos h6, hR.2.1 _ hix.2]) hR hg
      | exact pm_iret h d_Mod_count_19 rfl (by rw [cntV, if_pos e1]) hR hg
      | exact pm_iret h d_Mod_count_19 rfl (by rw [cntV, if_neg e1, if_neg (fun q => e6 (c_lt6 q))]) hR hg--end
  refine pg_iconst (v := (-1)) h d_Mod_count_9 (by decide) ?_
  refine pg_goto (tgt := 19) h d_Mod_count_10 rfl ?_
  first
    | exact pm_iret h d_Mod_count_19 rfl (by rw [cntV, if_neg e1, if_pos h6, hR.2.1 _ hix.2]) hR hg
    | exact pm_iret h d_Mod_count_19 rfl (by rw [cntV, if_pos e1]) hR hg
    | exact pm_iret h d_Mod_count_19 rfl (by rw [cntV, if_neg e1, if_neg (fun q => e6 (c_lt6 q))]) hR hg--end

theorem tell_link {A : pf_S} {k : Nat} {t : Int32} {i : Nat} (h4 : 4 ≤ i) (h7 : i ≤ 7) (e : t = nI i) : tellV A k t = A 17 k (i - 4) := by
  subst e
  rcases (show i = 4 ∨ i = 5 ∨ i = 6 ∨ i = 7 by omega) with rfl | rfl | rfl | rfl <;> rfl
theorem tell_out {A : pf_S} {k : Nat} {t : Int32} (h : t < 0 ∨ ¬ t ≤ 7) : tellV A k t = -1 := by
  have hn : ∀ i : Nat, i ≤ 7 → ¬ t = nI i := by
    intro i hi q
    subst q
    rcases h with h | h
    · exact nI_pos (by omega) h
    · exact h (show nI i ≤ nI 7 from nI_le hi (by decide))
  have h0 : ¬ t = 0 := hn 0 (by decide)
  have h1 : ¬ t = 1 := hn 1 (by decide)
  have h2 : ¬ t = 2 := hn 2 (by decide)
  have h3 : ¬ t = 3 := hn 3 (by decide)
  have h4 : ¬ t = 4 := hn 4 (by decide)
  have h5 : ¬ t = 5 := hn 5 (by decide)
  have h6 : ¬ t = 6 := hn 6 (by decide)
  have h7 : ¬ t = 7 := hn 7 (by decide)
  simp [tellV, h0, h1, h2, h3, h4, h5, h6, h7]

set_option maxRecDepth 100000 in
set_option maxHeartbeats 4000000 in
theorem c_Mod_kept (w : pf_W) (ok : pf_ok w) (A S0 : pf_S) (z : Int32) (hw : 1 ≤ w.2.2.1 ∧ w.2.2.1 ≤ 4) (x t : Int32) : pm_C w y_Mod_kept b_Mod_kept 4 (some .int) 0 0 [.ref (w.2.1 20 0), .int x, .int t] z (A) S0 (some (.int (kptV A w.2.2.1 x t))) z (A) := by
  refine pm_enter (by decide) (Nat.le_of_ble_eq_true rfl) (lv0 := [some (.ref (w.2.1 20 0)), some (.int x), some (.int t), none]) rfl (fun κ S h hR hg => ?_)
  by_cases hx : x < 0
  · have hpin : pinF A w.2.2.1 x = none := if_pos hx
    refine pg_iload_n h d_Mod_kept_0 rfl ?_
    refine pg_if_lt (tgt := 34) h d_Mod_kept_1 rfl (fun e1 => ?_) (fun e1 => absurd e1 (fun q => q hx))
    refine pg_iconst (v := (-1)) h d_Mod_kept_34 (by decide) ?_
    exact pm_iret h d_Mod_kept_35 rfl (by rw [kptV, hpin]) (hR) (hg)
  by_cases hx2 : nI w.2.2.1 ≤ x
  · have hpin : pinF A w.2.2.1 x = none := by rw [pinF, if_neg hx, if_pos hx2]
    refine pg_iload_n h d_Mod_kept_0 rfl ?_
    refine pg_if_lt (tgt := 34) h d_Mod_kept_1 rfl (fun e1 => absurd e1 hx) (fun e1 => ?_)
    refine pg_iload_n h d_Mod_kept_4 rfl ?_
    refine pg_aload_n h d_Mod_kept_5 rfl ?_
    refine pf_get h ok d_Mod_kept_6 f_Mod_70 (by first | rfl | exact hk | exact hk2 | exact dm12 _ | assumption) rfl rfl ?_
    rw [hR.1.1]
    refine pg_icmp_ge (tgt := 34) h d_Mod_kept_9 rfl (fun e9 => ?_) (fun e9 => absurd e9 (fun q => q hx2))
    refine pg_iconst (v := (-1)) h d_Mod_kept_34 (by decide) ?_
    exact pm_iret h d_Mod_kept_35 rfl (by rw [kptV, hpin]) (hR) (hg)
  have hix := ixP hx hx2 (by omega)
  have hxe : x = nI x.toNatClampNeg := by
    obtain ⟨j, hj, rfl⟩ := nI_of hx
    rw [nI_clamp hj]
  have e8 : (8 : Int32) + x = nI (8 + x.toNatClampNeg) := by
    rw [show (8 : Int32) + x = nI 8 + nI x.toNatClampNeg from by rw [← hxe]; rfl, nI_add]
  have hp := hR.2.2.2.2.2 (8 + x.toNatClampNeg) (Or.inl (by omega))
  have i13 : 8 + x.toNatClampNeg < 13 := by omega
  by_cases hth : nb (A 14 (8 + x.toNatClampNeg) 0) = 0
  · have hpin : pinF A w.2.2.1 x = none := by rw [pinF, if_neg hx, if_neg hx2, if_pos hth]
    refine pg_iload_n h d_Mod_kept_0 rfl ?_
    refine pg_if_lt (tgt := 34) h d_Mod_kept_1 rfl (fun e1 => absurd e1 hx) (fun e1 => ?_)
    refine pg_iload_n h d_Mod_kept_4 rfl ?_
    refine pg_aload_n h d_Mod_kept_5 rfl ?_
    refine pf_get h ok d_Mod_kept_6 f_Mod_70 (by first | rfl | exact hk | exact hk2 | exact dm12 _ | assumption) rfl rfl ?_
    rw [hR.1.1]
    refine pg_icmp_ge (tgt := 34) h d_Mod_kept_9 rfl (fun e9 => absurd e9 hx2) (fun e9 => ?_)
    refine pg_aload_n h d_Mod_kept_12 rfl ?_
    refine pf_get h ok d_Mod_kept_13 f_Mod_7 (by first | rfl | exact hk | exact hk2 | exact dm12 _ | assumption) rfl rfl ?_
    refine pg_bipush (v := 8) h d_Mod_kept_16 (by decide) ?_
    refine pg_iload_n h d_Mod_kept_18 rfl ?_
    refine pg_iadd h d_Mod_kept_19 ?_
    rw [e8]
    refine pf_zld h ok d_Mod_kept_20 (by first | rfl | exact hk | exact hk2 | exact dm12 _ | assumption) rfl (pg_ixN rfl i13 (by decide)) ?_
    rw [hp.1]
    refine pg_if_eq (tgt := 34) h d_Mod_kept_21 rfl (fun e21 => ?_) (fun e21 => absurd e21 (fun q => q hth))
    refine pg_iconst (v := (-1)) h d_Mod_kept_34 (by decide) ?_
    exact pm_iret h d_Mod_kept_35 rfl (by rw [kptV, hpin]) (hR) (hg)
  have hpin : pinF A w.2.2.1 x = some (8 + x.toNatClampNeg) := by rw [pinF, if_neg hx, if_neg hx2, if_neg hth]
  by_cases ht : t < 0 ∨ ¬ t ≤ 7
  · have hv : kptV A w.2.2.1 x t = -1 := by
      rw [kptV, hpin]
      exact tell_out ht
    rw [hv]
    refine pg_iload_n h d_Mod_kept_0 rfl ?_
    refine pg_if_lt (tgt := 34) h d_Mod_kept_1 rfl (fun e1 => absurd e1 hx) (fun e1 => ?_)
    refine pg_iload_n h d_Mod_kept_4 rfl ?_
    refine pg_aload_n h d_Mod_kept_5 rfl ?_
    refine pf_get h ok d_Mod_kept_6 f_Mod_70 (by first | rfl | exact hk | exact hk2 | exact dm12 _ | assumption) rfl rfl ?_
    rw [hR.1.1]
    refine pg_icmp_ge (tgt := 34) h d_Mod_kept_9 rfl (fun e9 => absurd e9 hx2) (fun e9 => ?_)
    refine pg_aload_n h d_Mod_kept_12 rfl ?_
    refine pf_get h ok d_Mod_kept_13 f_Mod_7 (by first | rfl | exact hk | exact hk2 | exact dm12 _ | assumption) rfl rfl ?_
    refine pg_bipush (v := 8) h d_Mod_kept_16 (by decide) ?_
    refine pg_iload_n h d_Mod_kept_18 rfl ?_
    refine pg_iadd h d_Mod_kept_19 ?_
    rw [e8]
    refine pf_zld h ok d_Mod_kept_20 (by first | rfl | exact hk | exact hk2 | exact dm12 _ | assumption) rfl (pg_ixN rfl i13 (by decide)) ?_
    rw [hp.1]
    refine pg_if_eq (tgt := 34) h d_Mod_kept_21 rfl (fun e21 => absurd e21 hth) (fun e21 => ?_)
    refine pg_iload_n h d_Mod_kept_24 rfl ?_
    refine pg_if_lt (tgt := 34) h d_Mod_kept_25 rfl (fun e25 => ?_) (fun e25 => ?_)
    · skip
      refine pg_iconst (v := (-1)) h d_Mod_kept_34 (by decide) ?_
      exact pm_iret h d_Mod_kept_35 rfl (by first | rfl | simp [*]) (hR) (hg)
    refine pg_iload_n h d_Mod_kept_28 rfl ?_
    refine pg_bipush (v := 7) h d_Mod_kept_29 (by decide) ?_
    refine pg_icmp_le (tgt := 36) h d_Mod_kept_31 rfl (fun e31 => absurd e31 (fun q => by rcases ht with c | c; exact e25 c; exact c q)) (fun e31 => ?_)
    refine pg_iconst (v := (-1)) h d_Mod_kept_34 (by decide) ?_
    exact pm_iret h d_Mod_kept_35 rfl (by first | rfl | simp [*]) (hR) (hg)
  have ht0 : ¬ t < 0 := fun q => ht (Or.inl q)
  have ht7 : t ≤ 7 := Classical.not_not.mp (fun q => ht (Or.inr q))
  obtain ⟨i, hi, rfl⟩ := nI_of ht0
  have hi7 : i ≤ 7 := (nI_leI hi (by decide)).mp (show nI i ≤ nI 7 from ht7)
  refine pg_iload_n h d_Mod_kept_0 rfl ?_
  refine pg_if_lt (tgt := 34) h d_Mod_kept_1 rfl (fun e1 => absurd e1 hx) (fun e1 => ?_)
  refine pg_iload_n h d_Mod_kept_4 rfl ?_
  refine pg_aload_n h d_Mod_kept_5 rfl ?_
  refine pf_get h ok d_Mod_kept_6 f_Mod_70 (by first | rfl | exact hk | exact hk2 | exact dm12 _ | assumption) rfl rfl ?_
  rw [hR.1.1]
  refine pg_icmp_ge (tgt := 34) h d_Mod_kept_9 rfl (fun e9 => absurd e9 hx2) (fun e9 => ?_)
  refine pg_aload_n h d_Mod_kept_12 rfl ?_
  refine pf_get h ok d_Mod_kept_13 f_Mod_7 (by first | rfl | exact hk | exact hk2 | exact dm12 _ | assumption) rfl rfl ?_
  refine pg_bipush (v := 8) h d_Mod_kept_16 (by decide) ?_
  refine pg_iload_n h d_Mod_kept_18 rfl ?_
  refine pg_iadd h d_Mod_kept_19 ?_
  rw [e8]
  refine pf_zld h ok d_Mod_kept_20 (by first | rfl | exact hk | exact hk2 | exact dm12 _ | assumption) rfl (pg_ixN rfl i13 (by decide)) ?_
  rw [hp.1]
  refine pg_if_eq (tgt := 34) h d_Mod_kept_21 rfl (fun e21 => absurd e21 hth) (fun e21 => ?_)
  refine pg_iload_n h d_Mod_kept_24 rfl ?_
  refine pg_if_lt (tgt := 34) h d_Mod_kept_25 rfl (fun e25 => absurd e25 ht0) (fun e25 => ?_)
  refine pg_iload_n h d_Mod_kept_28 rfl ?_
  refine pg_bipush (v := 7) h d_Mod_kept_29 (by decide) ?_
  refine pg_icmp_le (tgt := 36) h d_Mod_kept_31 rfl (fun e31 => ?_) (fun e31 => absurd e31 (fun q => q ht7))
  refine pg_bipush (v := 8) h d_Mod_kept_36 (by decide) ?_
  refine pg_iload_n h d_Mod_kept_38 rfl ?_
  refine pg_iadd h d_Mod_kept_39 ?_
  rw [e8]
  refine pg_istore_n h d_Mod_kept_40 (Nat.le_of_ble_eq_true rfl) rfl rfl ?_
  refine pg_iload_n h d_Mod_kept_41 rfl ?_
  refine pg_if_ne (tgt := 54) h d_Mod_kept_42 rfl (fun e42 => ?_) (fun e42 => ?_)
  · skip
    refine pg_iload_n h d_Mod_kept_54 rfl ?_
    refine pg_iconst (v := 1) h d_Mod_kept_55 (by decide) ?_
    refine pg_icmp_ne (tgt := 68) h d_Mod_kept_56 rfl (fun e56 => ?_) (fun e56 => ?_)
    · skip
      refine pg_iload_n h d_Mod_kept_68 rfl ?_
      refine pg_iconst (v := 2) h d_Mod_kept_69 (by decide) ?_
      refine pg_icmp_ne (tgt := 82) h d_Mod_kept_70 rfl (fun e70 => ?_) (fun e70 => ?_)
      · skip
        refine pg_iload_n h d_Mod_kept_82 rfl ?_
        refine pg_iconst (v := 3) h d_Mod_kept_83 (by decide) ?_
        refine pg_icmp_ne (tgt := 96) h d_Mod_kept_84 rfl (fun e84 => ?_) (fun e84 => ?_)
        · skip
          have i4 : 4 ≤ i := by
            have a0 : ¬ i = 0 := fun q => e42 (by rw [q]; rfl)
            have a1 : ¬ i = 1 := fun q => e56 (by rw [q]; rfl)
            have a2 : ¬ i = 2 := fun q => e70 (by rw [q]; rfl)
            have a3 : ¬ i = 3 := fun q => e84 (by rw [q]; rfl)
            omega
          have il : (4 : Int32) * nI (8 + x.toNatClampNeg) + nI i - 4 = nI (4 * (8 + x.toNatClampNeg) + (i - 4)) := by
            rw [show (4 : Int32) * nI (8 + x.toNatClampNeg) = nI (4 * (8 + x.toNatClampNeg)) from pk_mul 4 _, nI_add, show nI (4 * (8 + x.toNatClampNeg) + i) - 4 = nI (4 * (8 + x.toNatClampNeg) + i - 4) from pk_sub (a := 4 * (8 + x.toNatClampNeg) + i) (b := 4) (by omega), show 4 * (8 + x.toNatClampNeg) + i - 4 = 4 * (8 + x.toNatClampNeg) + (i - 4) by omega]
          refine pg_aload_n h d_Mod_kept_96 rfl ?_
          refine pf_get h ok d_Mod_kept_97 f_Mod_26 (by first | rfl | exact hk | exact hk2 | exact dm12 _ | assumption) rfl rfl ?_
          refine pg_iconst (v := 4) h d_Mod_kept_100 (by decide) ?_
          refine pg_iload_n h d_Mod_kept_101 rfl ?_
          refine pg_imul h d_Mod_kept_102 ?_
          refine pg_iload_n h d_Mod_kept_103 rfl ?_
          refine pg_iadd h d_Mod_kept_104 ?_
          refine pg_iconst (v := 4) h d_Mod_kept_105 (by decide) ?_
          refine pg_isub h d_Mod_kept_106 ?_
          rw [show (4 : Int32) * nI (8 + x.toNatClampNeg) + nI i - 4 = nI (4 * (8 + x.toNatClampNeg) + (i - 4)) from il]
          refine pf_ild h ok d_Mod_kept_107 (by first | rfl | exact hk | exact hk2 | exact dm12 _ | assumption) rfl (pg_ixN rfl (show 4 * (8 + x.toNatClampNeg) + (i - 4) < 52 by omega) (by decide)) ?_
          first
            | exact pm_iret h d_Mod_kept_108 rfl (by rw [kptV, hpin, e42, hp.2.1]; rfl) hR hg
            | exact pm_iret h d_Mod_kept_108 rfl (by rw [kptV, hpin, e56, hp.2.2.1]; rfl) hR hg
            | exact pm_iret h d_Mod_kept_108 rfl (by rw [kptV, hpin, e70, hp.2.2.2.1]; rfl) hR hg
            | exact pm_iret h d_Mod_kept_108 rfl (by rw [kptV, hpin, e84, hp.2.2.2.2.1]; rfl) hR hg
            | exact pm_iret h d_Mod_kept_108 rfl (by rw [kptV, hpin, hp.2.2.2.2.2.2.2 _ (by omega)]; exact congrArg (fun q => some (Value.int q)) (tell_link i4 hi7 rfl)) hR hg--end
        refine pg_aload_n h d_Mod_kept_87 rfl ?_
        refine pf_get h ok d_Mod_kept_88 f_Mod_23 (by first | rfl | exact hk | exact hk2 | exact dm12 _ | assumption) rfl rfl ?_
        refine pg_iload_n h d_Mod_kept_91 rfl ?_
        refine pf_ild h ok d_Mod_kept_92 (by first | rfl | exact hk | exact hk2 | exact dm12 _ | assumption) rfl (pg_ixN rfl i13 (by decide)) ?_
        refine pg_goto (tgt := 108) h d_Mod_kept_93 rfl ?_
        first
          | exact pm_iret h d_Mod_kept_108 rfl (by rw [kptV, hpin, e42, hp.2.1]; rfl) hR hg
          | exact pm_iret h d_Mod_kept_108 rfl (by rw [kptV, hpin, e56, hp.2.2.1]; rfl) hR hg
          | exact pm_iret h d_Mod_kept_108 rfl (by rw [kptV, hpin, e70, hp.2.2.2.1]; rfl) hR hg
          | exact pm_iret h d_Mod_kept_108 rfl (by rw [kptV, hpin, e84, hp.2.2.2.2.1]; rfl) hR hg
          | exact pm_iret h d_Mod_kept_108 rfl (by rw [kptV, hpin, hp.2.2.2.2.2.2.2 _ (by omega)]; exact congrArg (fun q => some (Value.int q)) (tell_link i4 hi7 rfl)) hR hg--end
      refine pg_aload_n h d_Mod_kept_73 rfl ?_
      refine pf_get h ok d_Mod_kept_74 f_Mod_20 (by first | rfl | exact hk | exact hk2 | exact dm12 _ | assumption) rfl rfl ?_
      refine pg_iload_n h d_Mod_kept_77 rfl ?_
      refine pf_ild h ok d_Mod_kept_78 (by first | rfl | exact hk | exact hk2 | exact dm12 _ | assumption) rfl (pg_ixN rfl i13 (by decide)) ?_
      refine pg_goto (tgt := 108) h d_Mod_kept_79 rfl ?_
      first
        | exact pm_iret h d_Mod_kept_108 rfl (by rw [kptV, hpin, e42, hp.2.1]; rfl) hR hg
        | exact pm_iret h d_Mod_kept_108 rfl (by rw [kptV, hpin, e56, hp.2.2.1]; rfl) hR hg
        | exact pm_iret h d_Mod_kept_108 rfl (by rw [kptV, hpin, e70, hp.2.2.2.1]; rfl) hR hg
        | exact pm_iret h d_Mod_kept_108 rfl (by rw [kptV, hpin, e84, hp.2.2.2.2.1]; rfl) hR hg
        | exact pm_iret h d_Mod_kept_108 rfl (by rw [kptV, hpin, hp.2.2.2.2.2.2.2 _ (by omega)]; exact congrArg (fun q => some (Value.int q)) (tell_link i4 hi7 rfl)) hR hg--end
    refine pg_aload_n h d_Mod_kept_59 rfl ?_
    refine pf_get h ok d_Mod_kept_60 f_Mod_17 (by first | rfl | exact hk | exact hk2 | exact dm12 _ | assumption) rfl rfl ?_
    refine pg_iload_n h d_Mod_kept_63 rfl ?_
    refine pf_ild h ok d_Mod_kept_64 (by first | rfl | exact hk | exact hk2 | exact dm12 _ | assumption) rfl (pg_ixN rfl i13 (by decide)) ?_
    refine pg_goto (tgt := 108) h d_Mod_kept_65 rfl ?_
    first
      | exact pm_iret h d_Mod_kept_108 rfl (by rw [kptV, hpin, e42, hp.2.1]; rfl) hR hg
      | exact pm_iret h d_Mod_kept_108 rfl (by rw [kptV, hpin, e56, hp.2.2.1]; rfl) hR hg
      | exact pm_iret h d_Mod_kept_108 rfl (by rw [kptV, hpin, e70, hp.2.2.2.1]; rfl) hR hg
      | exact pm_iret h d_Mod_kept_108 rfl (by rw [kptV, hpin, e84, hp.2.2.2.2.1]; rfl) hR hg
      | exact pm_iret h d_Mod_kept_108 rfl (by rw [kptV, hpin, hp.2.2.2.2.2.2.2 _ (by omega)]; exact congrArg (fun q => some (Value.int q)) (tell_link i4 hi7 rfl)) hR hg--end
  refine pg_aload_n h d_Mod_kept_45 rfl ?_
  refine pf_get h ok d_Mod_kept_46 f_Mod_13 (by first | rfl | exact hk | exact hk2 | exact dm12 _ | assumption) rfl rfl ?_
  refine pg_iload_n h d_Mod_kept_49 rfl ?_
  refine pf_ild h ok d_Mod_kept_50 (by first | rfl | exact hk | exact hk2 | exact dm12 _ | assumption) rfl (pg_ixN rfl i13 (by decide)) ?_
  refine pg_goto (tgt := 108) h d_Mod_kept_51 rfl ?_
  first
    | exact pm_iret h d_Mod_kept_108 rfl (by rw [kptV, hpin, e42, hp.2.1]; rfl) hR hg
    | exact pm_iret h d_Mod_kept_108 rfl (by rw [kptV, hpin, e56, hp.2.2.1]; rfl) hR hg
    | exact pm_iret h d_Mod_kept_108 rfl (by rw [kptV, hpin, e70, hp.2.2.2.1]; rfl) hR hg
    | exact pm_iret h d_Mod_kept_108 rfl (by rw [kptV, hpin, e84, hp.2.2.2.2.1]; rfl) hR hg
    | exact pm_iret h d_Mod_kept_108 rfl (by rw [kptV, hpin, hp.2.2.2.2.2.2.2 _ (by omega)]; exact congrArg (fun q => some (Value.int q)) (tell_link i4 hi7 rfl)) hR hg--end

/-- links are none or a number -/
def LkI (A : pf_S) (P : Nat) : Prop := ∀ k, pgk P k → ∀ j, j < 4 → A 17 k j = -1 ∨ (0 ≤ A 17 k j ∧ A 17 k j < 2048)
theorem shn_cong {A B : pf_S} (h : A 14 = B 14) (h2 : A 6 0 2 = B 6 0 2) (P : Nat) : shnF A P = shnF B P := by
  unfold shnF fndF
  rw [h, h2, fnd_cong (fun k _ => by rw [h])]
theorem shn_pgk {A : pf_S} {P k : Nat} (h : shnF A P = some k) : pgk P k := by
  have := shnF_dm h
  simp only [pf_dm, Bool.or_eq_true, decide_eq_true_eq] at this
  exact this

set_option maxRecDepth 100000 in
set_option maxHeartbeats 4000000 in
theorem c_mkey_out (w : pf_W) (ok : pf_ok w) (A S0 : pf_S) (z : Int32) (x : Int32) (hn : x < 0 ∨ ¬ x ≤ 15) : pm_C w y_Mod_key b_Mod_key 4 (some .boolean) 2 42 [.ref (w.2.1 20 0), .int x] z (A) S0 (some (.int 0)) z (A) := by
  refine pm_enter (by decide) (Nat.le_of_ble_eq_true rfl) (lv0 := [some (.ref (w.2.1 20 0)), some (.int x), none, none]) rfl (fun κ S h hR hg => ?_)
  refine pg_iload_n h d_Mod_key_0 rfl ?_
  refine pg_if_lt (tgt := 10) h d_Mod_key_1 rfl (fun e1 => ?_) (fun e1 => ?_)
  · skip
    refine pg_iconst (v := 0) h d_Mod_key_10 (by decide) ?_
    exact pm_iret h d_Mod_key_11 rfl (by first | rfl | simp [*]) (hR) (hg)
  refine pg_iload_n h d_Mod_key_4 rfl ?_
  refine pg_bipush (v := 15) h d_Mod_key_5 (by decide) ?_
  refine pg_icmp_le (tgt := 12) h d_Mod_key_7 rfl (fun e7 => absurd e7 (fun q => by rcases hn with c | c; exact e1 c; exact c q)) (fun e7 => ?_)
  refine pg_iconst (v := 0) h d_Mod_key_10 (by decide) ?_
  exact pm_iret h d_Mod_key_11 rfl (by first | rfl | simp [*]) (hR) (hg)

set_option maxRecDepth 100000 in
set_option maxHeartbeats 4000000 in
theorem c_mkey_in (w : pf_W) (ok : pf_ok w) (A S0 : pf_S) (z : Int32) (hw : 1 ≤ w.2.2.1 ∧ w.2.2.1 ≤ 4) (kk : Nat) (hk15 : kk ≤ 15) (hwt : A 6 0 3 = 0 ∨ A 6 0 3 = 1 ∨ A 6 0 3 = 2) (hlk : LkI A w.2.2.1) : pm_C w y_Mod_key b_Mod_key 4 (some .boolean) 2 42 [.ref (w.2.1 20 0), .int (nI kk)] z (A) S0 (some (.int (kyV A w.2.2.1 kk))) z (kyT A w.2.2.1 kk) := by
  refine pm_enter (by decide) (Nat.le_of_ble_eq_true rfl) (lv0 := [some (.ref (w.2.1 20 0)), some (.int (nI kk)), none, none]) rfl (fun κ S h hR hg => ?_)
  by_cases h9 : kk ≤ 9
  · rw [show kyV A w.2.2.1 kk = dgV A (nI kk) from if_pos h9, show kyT A w.2.2.1 kk = dgT A (nI kk) from if_pos h9]
    refine pg_iload_n h d_Mod_key_0 rfl ?_
    refine pg_if_lt (tgt := 10) h d_Mod_key_1 rfl (fun e1 => absurd e1 (nI_pos (by omega))) (fun e1 => ?_)
    refine pg_iload_n h d_Mod_key_4 rfl ?_
    refine pg_bipush (v := 15) h d_Mod_key_5 (by decide) ?_
    refine pg_icmp_le (tgt := 12) h d_Mod_key_7 rfl (fun e7 => ?_) (fun e7 => absurd e7 (fun q => q (nI_le hk15 (by decide))))
    refine pg_iload_n h d_Mod_key_12 rfl ?_
    refine pg_bipush (v := 10) h d_Mod_key_13 (by decide) ?_
    refine pg_icmp_ge (tgt := 24) h d_Mod_key_15 rfl (fun e15 => absurd e15 (nI_ge (show kk < 10 by omega) (by decide))) (fun e15 => ?_)
    refine pg_aload_n h d_Mod_key_18 rfl ?_
    refine pg_iload_n h d_Mod_key_19 rfl ?_
    refine pm_cV h ok (hR) (hg) d_Mod_key_20 m_Mod_digit l_Mod_150 (c_Mod_digit w ok A S0 z kk h9 hwt) rfl rfl rfl (Nat.le_of_ble_eq_true rfl) ⟨(Nat.le_of_ble_eq_true rfl), (Nat.le_of_ble_eq_true rfl)⟩ ⟨Nat.le_refl _, Nat.le_refl _⟩ (fun S20 hR20 hg20 => ?_)
    exact pm_iret h d_Mod_key_23 (bool_nar (dgV_01 _ _)) rfl hR20 hg20--end
  rw [show kyV A w.2.2.1 kk = cmdV (pf_st A 6 0 3 0) w.2.2.1 kk from if_neg h9, show kyT A w.2.2.1 kk = cmdT A w.2.2.1 kk from if_neg h9]
  have es : shnF (pf_st A 6 0 3 0) w.2.2.1 = shnF A w.2.2.1 := shn_cong (A := pf_st A 6 0 3 0) (B := A) rfl rfl _
  have q15 : (nI kk = 15) = (kk = 15) := propext (show nI kk = nI 15 ↔ _ from nI_eq (by omega) (by decide))
  have q14 : (nI kk = 14) = (kk = 14) := propext (show nI kk = nI 14 ↔ _ from nI_eq (by omega) (by decide))
  by_cases h15 : kk = 15
  · rw [show cmdV (pf_st A 6 0 3 0) w.2.2.1 kk = 1 from by rw [cmdV, if_neg (by omega), if_pos h15], show cmdT A w.2.2.1 kk = pf_st (pf_st A 6 0 3 0) 6 0 6 (if nb (A 6 0 6) = 0 then 1 else 0) from by rw [cmdT, if_neg (by omega), if_pos h15]]
    refine pg_iload_n h d_Mod_key_0 rfl ?_
    refine pg_if_lt (tgt := 10) h d_Mod_key_1 rfl (fun e1 => absurd e1 (nI_pos (by omega))) (fun e1 => ?_)
    refine pg_iload_n h d_Mod_key_4 rfl ?_
    refine pg_bipush (v := 15) h d_Mod_key_5 (by decide) ?_
    refine pg_icmp_le (tgt := 12) h d_Mod_key_7 rfl (fun e7 => ?_) (fun e7 => absurd e7 (fun q => q (nI_le hk15 (by decide))))
    refine pg_iload_n h d_Mod_key_12 rfl ?_
    refine pg_bipush (v := 10) h d_Mod_key_13 (by decide) ?_
    refine pg_icmp_ge (tgt := 24) h d_Mod_key_15 rfl (fun e15 => ?_) (fun e15 => absurd e15 (fun q => q (nI_le (show 10 ≤ kk by omega) (by omega))))
    refine pg_aload_n h d_Mod_key_24 rfl ?_
    refine pg_iconst (v := 0) h d_Mod_key_25 (by decide) ?_
    refine pf_puti h ok d_Mod_key_26 fw_Mod_138 (by first | rfl | exact hk | exact hk2 | exact dm12 _ | assumption) rfl (Nat.le_of_ble_eq_true rfl) rfl ?_
    refine pg_aload_n h d_Mod_key_29 rfl ?_
    refine pm_cV h ok (hR.dgs) (hg.st (by decide)) d_Mod_key_30 m_Mod_shownAt l_Mod_154 (c_Mod_shownAt w ok (pf_st A 6 0 3 0) S0 z hw) rfl rfl rfl (Nat.le_of_ble_eq_true rfl) ⟨(Nat.le_of_ble_eq_true rfl), (Nat.le_of_ble_eq_true rfl)⟩ ⟨Nat.le_refl _, Nat.le_refl _⟩ (fun S30 hR30 hg30 => ?_)
    refine pg_istore_n h d_Mod_key_33 (Nat.le_of_ble_eq_true rfl) rfl rfl ?_
    refine pg_iload_n h d_Mod_key_34 rfl ?_
    refine pg_bipush (v := 15) h d_Mod_key_35 (by decide) ?_
    refine pg_icmp_ne (tgt := 58) h d_Mod_key_37 rfl (fun e37 => absurd e37 (fun q => q (by rw [q15]; exact h15))) (fun e37 => ?_)
    refine pg_aload_n h d_Mod_key_40 rfl ?_
    refine pg_aload_n h d_Mod_key_41 rfl ?_
    refine pf_get h ok d_Mod_key_42 f_Mod_135 (by first | rfl | exact hk | exact hk2 | exact dm12 _ | assumption) rfl rfl ?_
    have er : nb (S30 20 0 17) = nb (A 6 0 6) := hR30.2.2.2.1.2.2.2.2.1
    rw [er]
    refine pg_if_ne (tgt := 52) h d_Mod_key_45 rfl (fun e45 => ?_) (fun e45 => ?_)
    · skip
      refine pg_iconst (v := 0) h d_Mod_key_52 (by decide) ?_
      refine pf_putz 0 h ok d_Mod_key_53 fw_Mod_135 (by first | rfl | exact hk | exact hk2 | exact dm12 _ | assumption) rfl (Nat.le_of_ble_eq_true rfl) rfl ?_
      refine pg_iconst (v := 1) h d_Mod_key_56 (by decide) ?_
      exact pm_iret h d_Mod_key_57 rfl (by first | rfl | simp [*]) (hR30.rev (by simp [e45])) (hg30.st (by decide))
    refine pg_iconst (v := 1) h d_Mod_key_48 (by decide) ?_
    refine pg_goto (tgt := 53) h d_Mod_key_49 rfl ?_
    refine pf_putz 1 h ok d_Mod_key_53 fw_Mod_135 (by first | rfl | exact hk | exact hk2 | exact dm12 _ | assumption) rfl (Nat.le_of_ble_eq_true rfl) rfl ?_
    refine pg_iconst (v := 1) h d_Mod_key_56 (by decide) ?_
    exact pm_iret h d_Mod_key_57 rfl (by first | rfl | simp [*]) (hR30.rev (by simp [e45])) (hg30.st (by decide))
  have n15 : ¬ nI kk = 15 := by rw [q15]; exact h15
  have e12 : nb (A 14 12 0) = nb (pf_st A 6 0 3 0 14 12 0) := rfl
  have efd : fndF (pf_st A 6 0 3 0) w.2.2.1 (A 6 0 2) = fndF A w.2.2.1 (A 6 0 2) := fnd_cong (A := pf_st A 6 0 3 0) (B := A) (fun _ _ => rfl) _ _ _
  by_cases h14 : kk = 14
  · have n14 : nI kk = 14 := by rw [q14]; exact h14
    rw [show cmdV (pf_st A 6 0 3 0) w.2.2.1 kk = hldV (pf_st A 6 0 3 0) w.2.2.1 from if_pos h14, show cmdT A w.2.2.1 kk = hldT (pf_st A 6 0 3 0) w.2.2.1 from if_pos h14]
    by_cases hh : nb (A 14 12 0) = 0
    · cases hf : fndF A w.2.2.1 (A 6 0 2) with
      | none =>
        have ek : kpV (shnF (pf_st A 6 0 3 0) w.2.2.1) = -1 := by rw [es, shnF, if_pos hh, hf]; rfl
        have hv : hldV (pf_st A 6 0 3 0) w.2.2.1 = 0 := by
          rw [hldV, if_pos (show nb (pf_st A 6 0 3 0 14 12 0) = 0 from hh)]
          show (match fndF (pf_st A 6 0 3 0) w.2.2.1 (A 6 0 2) with | none => (0 : Int32) | some _ => 1) = 0
          rw [efd, hf]
        have ht : hldT (pf_st A 6 0 3 0) w.2.2.1 = pf_st A 6 0 3 0 := by
          rw [hldT, if_pos (show nb (pf_st A 6 0 3 0 14 12 0) = 0 from hh)]
          show (match fndF (pf_st A 6 0 3 0) w.2.2.1 (A 6 0 2) with | none => _ | some k => _) = _
          rw [efd, hf]
        rw [hv, ht]
        refine pg_iload_n h d_Mod_key_0 rfl ?_
        refine pg_if_lt (tgt := 10) h d_Mod_key_1 rfl (fun e1 => absurd e1 (nI_pos (by omega))) (fun e1 => ?_)
        refine pg_iload_n h d_Mod_key_4 rfl ?_
        refine pg_bipush (v := 15) h d_Mod_key_5 (by decide) ?_
        refine pg_icmp_le (tgt := 12) h d_Mod_key_7 rfl (fun e7 => ?_) (fun e7 => absurd e7 (fun q => q (nI_le hk15 (by decide))))
        refine pg_iload_n h d_Mod_key_12 rfl ?_
        refine pg_bipush (v := 10) h d_Mod_key_13 (by decide) ?_
        refine pg_icmp_ge (tgt := 24) h d_Mod_key_15 rfl (fun e15 => ?_) (fun e15 => absurd e15 (fun q => q (nI_le (show 10 ≤ kk by omega) (by omega))))
        refine pg_aload_n h d_Mod_key_24 rfl ?_
        refine pg_iconst (v := 0) h d_Mod_key_25 (by decide) ?_
        refine pf_puti h ok d_Mod_key_26 fw_Mod_138 (by first | rfl | exact hk | exact hk2 | exact dm12 _ | assumption) rfl (Nat.le_of_ble_eq_true rfl) rfl ?_
        refine pg_aload_n h d_Mod_key_29 rfl ?_
        refine pm_cV h ok (hR.dgs) (hg.st (by decide)) d_Mod_key_30 m_Mod_shownAt l_Mod_154 (c_Mod_shownAt w ok (pf_st A 6 0 3 0) S0 z hw) rfl rfl rfl (Nat.le_of_ble_eq_true rfl) ⟨(Nat.le_of_ble_eq_true rfl), (Nat.le_of_ble_eq_true rfl)⟩ ⟨Nat.le_refl _, Nat.le_refl _⟩ (fun S30 hR30 hg30 => ?_)
        rw [ek]
        refine pg_istore_n h d_Mod_key_33 (Nat.le_of_ble_eq_true rfl) rfl rfl ?_
        refine pg_iload_n h d_Mod_key_34 rfl ?_
        refine pg_bipush (v := 15) h d_Mod_key_35 (by decide) ?_
        refine pg_icmp_ne (tgt := 58) h d_Mod_key_37 rfl (fun e37 => ?_) (fun e37 => absurd e37 n15)
        refine pg_iload_n h d_Mod_key_58 rfl ?_
        refine pg_if_ge (tgt := 64) h d_Mod_key_59 rfl (fun e59 => absurd e59 (by decide)) (fun e59 => ?_)
        refine pg_iconst (v := 0) h d_Mod_key_62 (by decide) ?_
        exact pm_iret h d_Mod_key_63 rfl (by first | rfl | simp [*]) (hR30) (hg30)
      | some k =>
        have ek : kpV (shnF (pf_st A 6 0 3 0) w.2.2.1) = nI k := by rw [es, shnF, if_pos hh, hf]; rfl
        have hk := fndF_some hf
        have hv : hldV (pf_st A 6 0 3 0) w.2.2.1 = 1 := by
          rw [hldV, if_pos (show nb (pf_st A 6 0 3 0 14 12 0) = 0 from hh)]
          show (match fndF (pf_st A 6 0 3 0) w.2.2.1 (A 6 0 2) with | none => (0 : Int32) | some _ => 1) = 1
          rw [efd, hf]
        have ht : hldT (pf_st A 6 0 3 0) w.2.2.1 = cpP (pf_st A 6 0 3 0) k 12 := by
          rw [hldT, if_pos (show nb (pf_st A 6 0 3 0 14 12 0) = 0 from hh)]
          show (match fndF (pf_st A 6 0 3 0) w.2.2.1 (A 6 0 2) with | none => _ | some k => _) = _
          rw [efd, hf]
        rw [hv, ht]
        refine pg_iload_n h d_Mod_key_0 rfl ?_
        refine pg_if_lt (tgt := 10) h d_Mod_key_1 rfl (fun e1 => absurd e1 (nI_pos (by omega))) (fun e1 => ?_)
        refine pg_iload_n h d_Mod_key_4 rfl ?_
        refine pg_bipush (v := 15) h d_Mod_key_5 (by decide) ?_
        refine pg_icmp_le (tgt := 12) h d_Mod_key_7 rfl (fun e7 => ?_) (fun e7 => absurd e7 (fun q => q (nI_le hk15 (by decide))))
        refine pg_iload_n h d_Mod_key_12 rfl ?_
        refine pg_bipush (v := 10) h d_Mod_key_13 (by decide) ?_
        refine pg_icmp_ge (tgt := 24) h d_Mod_key_15 rfl (fun e15 => ?_) (fun e15 => absurd e15 (fun q => q (nI_le (show 10 ≤ kk by omega) (by omega))))
        refine pg_aload_n h d_Mod_key_24 rfl ?_
        refine pg_iconst (v := 0) h d_Mod_key_25 (by decide) ?_
        refine pf_puti h ok d_Mod_key_26 fw_Mod_138 (by first | rfl | exact hk | exact hk2 | exact dm12 _ | assumption) rfl (Nat.le_of_ble_eq_true rfl) rfl ?_
        refine pg_aload_n h d_Mod_key_29 rfl ?_
        refine pm_cV h ok (hR.dgs) (hg.st (by decide)) d_Mod_key_30 m_Mod_shownAt l_Mod_154 (c_Mod_shownAt w ok (pf_st A 6 0 3 0) S0 z hw) rfl rfl rfl (Nat.le_of_ble_eq_true rfl) ⟨(Nat.le_of_ble_eq_true rfl), (Nat.le_of_ble_eq_true rfl)⟩ ⟨Nat.le_refl _, Nat.le_refl _⟩ (fun S30 hR30 hg30 => ?_)
        rw [ek]
        refine pg_istore_n h d_Mod_key_33 (Nat.le_of_ble_eq_true rfl) rfl rfl ?_
        refine pg_iload_n h d_Mod_key_34 rfl ?_
        refine pg_bipush (v := 15) h d_Mod_key_35 (by decide) ?_
        refine pg_icmp_ne (tgt := 58) h d_Mod_key_37 rfl (fun e37 => ?_) (fun e37 => absurd e37 n15)
        refine pg_iload_n h d_Mod_key_58 rfl ?_
        refine pg_if_ge (tgt := 64) h d_Mod_key_59 rfl (fun e59 => ?_) (fun e59 => absurd e59 (fun q => q (nI_pos' (by omega))))
        refine pg_iload_n h d_Mod_key_64 rfl ?_
        refine pg_bipush (v := 14) h d_Mod_key_65 (by decide) ?_
        refine pg_icmp_ne (tgt := 107) h d_Mod_key_67 rfl (fun e67 => absurd e67 (fun q => q n14)) (fun e67 => ?_)
        refine pg_aload_n h d_Mod_key_70 rfl ?_
        refine pf_get h ok d_Mod_key_71 f_Mod_7 (by first | rfl | exact hk | exact hk2 | exact dm12 _ | assumption) rfl rfl ?_
        refine pg_bipush (v := 12) h d_Mod_key_74 (by decide) ?_
        refine pf_zld h ok d_Mod_key_76 (by first | rfl | exact hk | exact hk2 | exact dm12 _ | assumption) rfl (pg_ixN (j := 12) rfl (by decide) (by decide)) ?_
        rw [show nb (S30 21 0 12) = 0 from ((hR30.2.2.2.2.2 12 (Or.inr rfl)).1).trans hh]
        refine pg_istore_n h d_Mod_key_77 (Nat.le_of_ble_eq_true rfl) rfl rfl ?_
        refine pg_iload_n h d_Mod_key_78 rfl ?_
        refine pg_if_ne (tgt := 89) h d_Mod_key_79 rfl (fun e79 => absurd e79 (fun q => q rfl)) (fun e79 => ?_)
        refine pg_aload_n h d_Mod_key_82 rfl ?_
        refine pg_iload_n h d_Mod_key_83 rfl ?_
        refine pg_bipush (v := 12) h d_Mod_key_84 (by decide) ?_
        refine pm_cV0 h ok (hR30) (hg30) d_Mod_key_86 m_Mod_copy l_Mod_86 (c_copyR w ok (pf_st A 6 0 3 0) S0 z hw k 12 (Or.inl hk.2.1) (Or.inr rfl) (by omega)) rfl rfl rfl (Nat.le_of_ble_eq_true rfl) ⟨(Nat.le_of_ble_eq_true rfl), (Nat.le_of_ble_eq_true rfl)⟩ ⟨Nat.le_refl _, Nat.le_refl _⟩ (fun S86 hR86 hg86 => ?_)
        refine pg_aload_n h d_Mod_key_89 rfl ?_
        refine pf_get h ok d_Mod_key_90 f_Mod_7 (by first | rfl | exact hk | exact hk2 | exact dm12 _ | assumption) rfl rfl ?_
        refine pg_bipush (v := 12) h d_Mod_key_93 (by decide) ?_
        refine pg_iload_n h d_Mod_key_95 rfl ?_
        refine pg_if_ne (tgt := 103) h d_Mod_key_96 rfl (fun e96 => absurd e96 (fun q => q rfl)) (fun e96 => ?_)
        refine pg_iconst (v := 1) h d_Mod_key_99 (by decide) ?_
        refine pg_goto (tgt := 104) h d_Mod_key_100 rfl ?_
        refine pf_zst 1 h ok d_Mod_key_104 (by first | rfl | exact hk | exact hk2 | exact dm12 _ | assumption) (fun _ => rfl) (pg_ixN (j := 12) rfl (by decide) (by decide)) ?_
        refine pg_iconst (v := 1) h d_Mod_key_105 (by decide) ?_
        exact pm_iret h d_Mod_key_106 rfl (by first | rfl | simp [*]) ((hR86.thr (k := 12) (v := 1) (v2 := 1) rfl).cong ⟨fun a b c hac => by simp only [cpQ, pf_st_at]; grind, fun b => by by_cases hb : b = 12; (subst hb; have := nb_ne hk.2.2.1; simp [pf_st_at, cpP, this, nb_1]); (simp [cpQ, pf_st_at, hb])⟩) (hg86.st (by decide))
    · have ek : kpV (shnF (pf_st A 6 0 3 0) w.2.2.1) = nI 12 := by rw [es, shnF, if_neg hh]; rfl
      rw [show hldV (pf_st A 6 0 3 0) w.2.2.1 = 1 from if_neg hh, show hldT (pf_st A 6 0 3 0) w.2.2.1 = pf_st (pf_st A 6 0 3 0) 14 12 0 0 from if_neg hh]
      refine pg_iload_n h d_Mod_key_0 rfl ?_
      refine pg_if_lt (tgt := 10) h d_Mod_key_1 rfl (fun e1 => absurd e1 (nI_pos (by omega))) (fun e1 => ?_)
      refine pg_iload_n h d_Mod_key_4 rfl ?_
      refine pg_bipush (v := 15) h d_Mod_key_5 (by decide) ?_
      refine pg_icmp_le (tgt := 12) h d_Mod_key_7 rfl (fun e7 => ?_) (fun e7 => absurd e7 (fun q => q (nI_le hk15 (by decide))))
      refine pg_iload_n h d_Mod_key_12 rfl ?_
      refine pg_bipush (v := 10) h d_Mod_key_13 (by decide) ?_
      refine pg_icmp_ge (tgt := 24) h d_Mod_key_15 rfl (fun e15 => ?_) (fun e15 => absurd e15 (fun q => q (nI_le (show 10 ≤ kk by omega) (by omega))))
      refine pg_aload_n h d_Mod_key_24 rfl ?_
      refine pg_iconst (v := 0) h d_Mod_key_25 (by decide) ?_
      refine pf_puti h ok d_Mod_key_26 fw_Mod_138 (by first | rfl | exact hk | exact hk2 | exact dm12 _ | assumption) rfl (Nat.le_of_ble_eq_true rfl) rfl ?_
      refine pg_aload_n h d_Mod_key_29 rfl ?_
      refine pm_cV h ok (hR.dgs) (hg.st (by decide)) d_Mod_key_30 m_Mod_shownAt l_Mod_154 (c_Mod_shownAt w ok (pf_st A 6 0 3 0) S0 z hw) rfl rfl rfl (Nat.le_of_ble_eq_true rfl) ⟨(Nat.le_of_ble_eq_true rfl), (Nat.le_of_ble_eq_true rfl)⟩ ⟨Nat.le_refl _, Nat.le_refl _⟩ (fun S30 hR30 hg30 => ?_)
      rw [ek]
      refine pg_istore_n h d_Mod_key_33 (Nat.le_of_ble_eq_true rfl) rfl rfl ?_
      refine pg_iload_n h d_Mod_key_34 rfl ?_
      refine pg_bipush (v := 15) h d_Mod_key_35 (by decide) ?_
      refine pg_icmp_ne (tgt := 58) h d_Mod_key_37 rfl (fun e37 => ?_) (fun e37 => absurd e37 n15)
      refine pg_iload_n h d_Mod_key_58 rfl ?_
      refine pg_if_ge (tgt := 64) h d_Mod_key_59 rfl (fun e59 => ?_) (fun e59 => absurd e59 (fun q => q (nI_pos' (by decide))))
      refine pg_iload_n h d_Mod_key_64 rfl ?_
      refine pg_bipush (v := 14) h d_Mod_key_65 (by decide) ?_
      refine pg_icmp_ne (tgt := 107) h d_Mod_key_67 rfl (fun e67 => absurd e67 (fun q => q n14)) (fun e67 => ?_)
      refine pg_aload_n h d_Mod_key_70 rfl ?_
      refine pf_get h ok d_Mod_key_71 f_Mod_7 (by first | rfl | exact hk | exact hk2 | exact dm12 _ | assumption) rfl rfl ?_
      refine pg_bipush (v := 12) h d_Mod_key_74 (by decide) ?_
      refine pf_zld h ok d_Mod_key_76 (by first | rfl | exact hk | exact hk2 | exact dm12 _ | assumption) rfl (pg_ixN (j := 12) rfl (by decide) (by decide)) ?_
      rw [show nb (S30 21 0 12) = 1 from ((hR30.2.2.2.2.2 12 (Or.inr rfl)).1).trans (nb_ne hh)]
      refine pg_istore_n h d_Mod_key_77 (Nat.le_of_ble_eq_true rfl) rfl rfl ?_
      refine pg_iload_n h d_Mod_key_78 rfl ?_
      refine pg_if_ne (tgt := 89) h d_Mod_key_79 rfl (fun e79 => ?_) (fun e79 => absurd e79 (by decide))
      refine pg_aload_n h d_Mod_key_89 rfl ?_
      refine pf_get h ok d_Mod_key_90 f_Mod_7 (by first | rfl | exact hk | exact hk2 | exact dm12 _ | assumption) rfl rfl ?_
      refine pg_bipush (v := 12) h d_Mod_key_93 (by decide) ?_
      refine pg_iload_n h d_Mod_key_95 rfl ?_
      refine pg_if_ne (tgt := 103) h d_Mod_key_96 rfl (fun e96 => ?_) (fun e96 => absurd e96 (by decide))
      refine pg_iconst (v := 0) h d_Mod_key_103 (by decide) ?_
      refine pf_zst 0 h ok d_Mod_key_104 (by first | rfl | exact hk | exact hk2 | exact dm12 _ | assumption) (fun _ => rfl) (pg_ixN (j := 12) rfl (by decide) (by decide)) ?_
      refine pg_iconst (v := 1) h d_Mod_key_105 (by decide) ?_
      exact pm_iret h d_Mod_key_106 rfl (by first | rfl | simp [*]) (hR30.thr rfl) (hg30.st (by decide))
  have n14 : ¬ nI kk = 14 := by rw [q14]; exact h14
  rw [show cmdV (pf_st A 6 0 3 0) w.2.2.1 kk = flwV (pf_st A 6 0 3 0) w.2.2.1 (kk - 10) from by rw [cmdV, if_neg h14, if_neg h15], show cmdT A w.2.2.1 kk = flwT (pf_st A 6 0 3 0) w.2.2.1 (kk - 10) from by rw [cmdT, if_neg h14, if_neg h15]]
  cases hf : shnF A w.2.2.1 with
  | none =>
    have ek : kpV (shnF (pf_st A 6 0 3 0) w.2.2.1) = -1 := by rw [es, hf]; rfl
    rw [show flwV (pf_st A 6 0 3 0) w.2.2.1 (kk - 10) = 0 from by rw [flwV, es, hf], show flwT (pf_st A 6 0 3 0) w.2.2.1 (kk - 10) = pf_st A 6 0 3 0 from by rw [flwT, es, hf]]
    refine pg_iload_n h d_Mod_key_0 rfl ?_
    refine pg_if_lt (tgt := 10) h d_Mod_key_1 rfl (fun e1 => absurd e1 (nI_pos (by omega))) (fun e1 => ?_)
    refine pg_iload_n h d_Mod_key_4 rfl ?_
    refine pg_bipush (v := 15) h d_Mod_key_5 (by decide) ?_
    refine pg_icmp_le (tgt := 12) h d_Mod_key_7 rfl (fun e7 => ?_) (fun e7 => absurd e7 (fun q => q (nI_le hk15 (by decide))))
    refine pg_iload_n h d_Mod_key_12 rfl ?_
    refine pg_bipush (v := 10) h d_Mod_key_13 (by decide) ?_
    refine pg_icmp_ge (tgt := 24) h d_Mod_key_15 rfl (fun e15 => ?_) (fun e15 => absurd e15 (fun q => q (nI_le (show 10 ≤ kk by omega) (by omega))))
    refine pg_aload_n h d_Mod_key_24 rfl ?_
    refine pg_iconst (v := 0) h d_Mod_key_25 (by decide) ?_
    refine pf_puti h ok d_Mod_key_26 fw_Mod_138 (by first | rfl | exact hk | exact hk2 | exact dm12 _ | assumption) rfl (Nat.le_of_ble_eq_true rfl) rfl ?_
    refine pg_aload_n h d_Mod_key_29 rfl ?_
    refine pm_cV h ok (hR.dgs) (hg.st (by decide)) d_Mod_key_30 m_Mod_shownAt l_Mod_154 (c_Mod_shownAt w ok (pf_st A 6 0 3 0) S0 z hw) rfl rfl rfl (Nat.le_of_ble_eq_true rfl) ⟨(Nat.le_of_ble_eq_true rfl), (Nat.le_of_ble_eq_true rfl)⟩ ⟨Nat.le_refl _, Nat.le_refl _⟩ (fun S30 hR30 hg30 => ?_)
    rw [ek]
    refine pg_istore_n h d_Mod_key_33 (Nat.le_of_ble_eq_true rfl) rfl rfl ?_
    refine pg_iload_n h d_Mod_key_34 rfl ?_
    refine pg_bipush (v := 15) h d_Mod_key_35 (by decide) ?_
    refine pg_icmp_ne (tgt := 58) h d_Mod_key_37 rfl (fun e37 => ?_) (fun e37 => absurd e37 n15)
    refine pg_iload_n h d_Mod_key_58 rfl ?_
    refine pg_if_ge (tgt := 64) h d_Mod_key_59 rfl (fun e59 => absurd e59 (by decide)) (fun e59 => ?_)
    refine pg_iconst (v := 0) h d_Mod_key_62 (by decide) ?_
    exact pm_iret h d_Mod_key_63 rfl (by first | rfl | simp [*]) (hR30) (hg30)
  | some k =>
    have ek : kpV (shnF (pf_st A 6 0 3 0) w.2.2.1) = nI k := by rw [es, hf]; rfl
    have hk := shn_pgk hf
    have hk13 := pgk13 hw.2 hk
    have hj : kk - 10 < 4 := by omega
    have il : (4 : Int32) * nI k + nI kk - 10 = nI (4 * k + (kk - 10)) := by
      rw [show (4 : Int32) * nI k = nI (4 * k) from pk_mul 4 k, nI_add, show nI (4 * k + kk) - 10 = nI (4 * k + kk - 10) from pk_sub (a := 4 * k + kk) (b := 10) (by omega), show 4 * k + kk - 10 = 4 * k + (kk - 10) by omega]
    have hl := hlk k hk (kk - 10) hj
    by_cases hn : A 17 k (kk - 10) = -1
    · rw [show flwV (pf_st A 6 0 3 0) w.2.2.1 (kk - 10) = 0 from by rw [flwV, es, hf]; exact if_pos hn, show flwT (pf_st A 6 0 3 0) w.2.2.1 (kk - 10) = pf_st A 6 0 3 0 from by rw [flwT, es, hf]; exact if_pos hn]
      refine pg_iload_n h d_Mod_key_0 rfl ?_
      refine pg_if_lt (tgt := 10) h d_Mod_key_1 rfl (fun e1 => absurd e1 (nI_pos (by omega))) (fun e1 => ?_)
      refine pg_iload_n h d_Mod_key_4 rfl ?_
      refine pg_bipush (v := 15) h d_Mod_key_5 (by decide) ?_
      refine pg_icmp_le (tgt := 12) h d_Mod_key_7 rfl (fun e7 => ?_) (fun e7 => absurd e7 (fun q => q (nI_le hk15 (by decide))))
      refine pg_iload_n h d_Mod_key_12 rfl ?_
      refine pg_bipush (v := 10) h d_Mod_key_13 (by decide) ?_
      refine pg_icmp_ge (tgt := 24) h d_Mod_key_15 rfl (fun e15 => ?_) (fun e15 => absurd e15 (fun q => q (nI_le (show 10 ≤ kk by omega) (by omega))))
      refine pg_aload_n h d_Mod_key_24 rfl ?_
      refine pg_iconst (v := 0) h d_Mod_key_25 (by decide) ?_
      refine pf_puti h ok d_Mod_key_26 fw_Mod_138 (by first | rfl | exact hk | exact hk2 | exact dm12 _ | assumption) rfl (Nat.le_of_ble_eq_true rfl) rfl ?_
      refine pg_aload_n h d_Mod_key_29 rfl ?_
      refine pm_cV h ok (hR.dgs) (hg.st (by decide)) d_Mod_key_30 m_Mod_shownAt l_Mod_154 (c_Mod_shownAt w ok (pf_st A 6 0 3 0) S0 z hw) rfl rfl rfl (Nat.le_of_ble_eq_true rfl) ⟨(Nat.le_of_ble_eq_true rfl), (Nat.le_of_ble_eq_true rfl)⟩ ⟨Nat.le_refl _, Nat.le_refl _⟩ (fun S30 hR30 hg30 => ?_)
      rw [ek]
      refine pg_istore_n h d_Mod_key_33 (Nat.le_of_ble_eq_true rfl) rfl rfl ?_
      refine pg_iload_n h d_Mod_key_34 rfl ?_
      refine pg_bipush (v := 15) h d_Mod_key_35 (by decide) ?_
      refine pg_icmp_ne (tgt := 58) h d_Mod_key_37 rfl (fun e37 => ?_) (fun e37 => absurd e37 n15)
      refine pg_iload_n h d_Mod_key_58 rfl ?_
      refine pg_if_ge (tgt := 64) h d_Mod_key_59 rfl (fun e59 => ?_) (fun e59 => absurd e59 (fun q => q (nI_pos' (by omega))))
      refine pg_iload_n h d_Mod_key_64 rfl ?_
      refine pg_bipush (v := 14) h d_Mod_key_65 (by decide) ?_
      refine pg_icmp_ne (tgt := 107) h d_Mod_key_67 rfl (fun e67 => ?_) (fun e67 => absurd e67 n14)
      refine pg_aload_n h d_Mod_key_107 rfl ?_
      refine pf_get h ok d_Mod_key_108 f_Mod_26 (by first | rfl | exact hk | exact hk2 | exact dm12 _ | assumption) rfl rfl ?_
      refine pg_iconst (v := 4) h d_Mod_key_111 (by decide) ?_
      refine pg_iload_n h d_Mod_key_112 rfl ?_
      refine pg_imul h d_Mod_key_113 ?_
      refine pg_iload_n h d_Mod_key_114 rfl ?_
      refine pg_iadd h d_Mod_key_115 ?_
      refine pg_bipush (v := 10) h d_Mod_key_116 (by decide) ?_
      refine pg_isub h d_Mod_key_118 ?_
      rw [il]
      refine pf_ild h ok d_Mod_key_119 (by first | rfl | exact hk | exact hk2 | exact dm12 _ | assumption) rfl (pg_ixN rfl (show 4 * k + (kk - 10) < 52 by omega) (by decide)) ?_
      rw [show S30 26 0 (4 * k + (kk - 10)) = -1 from ((hR30.2.2.2.2.2 k hk).2.2.2.2.2.2.2 _ hj).trans hn]
      refine pg_istore_n h d_Mod_key_120 (Nat.le_of_ble_eq_true rfl) rfl rfl ?_
      refine pg_iload_n h d_Mod_key_121 rfl ?_
      refine pg_if_lt (tgt := 130) h d_Mod_key_122 rfl (fun e122 => ?_) (fun e122 => absurd e122 (by decide))
      refine pg_iload_n h d_Mod_key_130 rfl ?_
      refine pg_if_lt (tgt := 138) h d_Mod_key_131 rfl (fun e131 => ?_) (fun e131 => absurd e131 (by decide))
      refine pg_iconst (v := 0) h d_Mod_key_138 (by decide) ?_
      exact pm_iret h d_Mod_key_139 rfl (by first | rfl | simp [*]) (hR30) (hg30)
    · have hl0 : ¬ A 17 k (kk - 10) < 0 := Int32.not_lt.mpr (hl.resolve_left hn).1
      rw [show flwV (pf_st A 6 0 3 0) w.2.2.1 (kk - 10) = 1 from by rw [flwV, es, hf]; exact if_neg hn, show flwT (pf_st A 6 0 3 0) w.2.2.1 (kk - 10) = wntF (pf_st A 6 0 3 0) (A 17 k (kk - 10)) from by rw [flwT, es, hf]; exact if_neg hn]
      refine pg_iload_n h d_Mod_key_0 rfl ?_
      refine pg_if_lt (tgt := 10) h d_Mod_key_1 rfl (fun e1 => absurd e1 (nI_pos (by omega))) (fun e1 => ?_)
      refine pg_iload_n h d_Mod_key_4 rfl ?_
      refine pg_bipush (v := 15) h d_Mod_key_5 (by decide) ?_
      refine pg_icmp_le (tgt := 12) h d_Mod_key_7 rfl (fun e7 => ?_) (fun e7 => absurd e7 (fun q => q (nI_le hk15 (by decide))))
      refine pg_iload_n h d_Mod_key_12 rfl ?_
      refine pg_bipush (v := 10) h d_Mod_key_13 (by decide) ?_
      refine pg_icmp_ge (tgt := 24) h d_Mod_key_15 rfl (fun e15 => ?_) (fun e15 => absurd e15 (fun q => q (nI_le (show 10 ≤ kk by omega) (by omega))))
      refine pg_aload_n h d_Mod_key_24 rfl ?_
      refine pg_iconst (v := 0) h d_Mod_key_25 (by decide) ?_
      refine pf_puti h ok d_Mod_key_26 fw_Mod_138 (by first | rfl | exact hk | exact hk2 | exact dm12 _ | assumption) rfl (Nat.le_of_ble_eq_true rfl) rfl ?_
      refine pg_aload_n h d_Mod_key_29 rfl ?_
      refine pm_cV h ok (hR.dgs) (hg.st (by decide)) d_Mod_key_30 m_Mod_shownAt l_Mod_154 (c_Mod_shownAt w ok (pf_st A 6 0 3 0) S0 z hw) rfl rfl rfl (Nat.le_of_ble_eq_true rfl) ⟨(Nat.le_of_ble_eq_true rfl), (Nat.le_of_ble_eq_true rfl)⟩ ⟨Nat.le_refl _, Nat.le_refl _⟩ (fun S30 hR30 hg30 => ?_)
      rw [ek]
      refine pg_istore_n h d_Mod_key_33 (Nat.le_of_ble_eq_true rfl) rfl rfl ?_
      refine pg_iload_n h d_Mod_key_34 rfl ?_
      refine pg_bipush (v := 15) h d_Mod_key_35 (by decide) ?_
      refine pg_icmp_ne (tgt := 58) h d_Mod_key_37 rfl (fun e37 => ?_) (fun e37 => absurd e37 n15)
      refine pg_iload_n h d_Mod_key_58 rfl ?_
      refine pg_if_ge (tgt := 64) h d_Mod_key_59 rfl (fun e59 => ?_) (fun e59 => absurd e59 (fun q => q (nI_pos' (by omega))))
      refine pg_iload_n h d_Mod_key_64 rfl ?_
      refine pg_bipush (v := 14) h d_Mod_key_65 (by decide) ?_
      refine pg_icmp_ne (tgt := 107) h d_Mod_key_67 rfl (fun e67 => ?_) (fun e67 => absurd e67 n14)
      refine pg_aload_n h d_Mod_key_107 rfl ?_
      refine pf_get h ok d_Mod_key_108 f_Mod_26 (by first | rfl | exact hk | exact hk2 | exact dm12 _ | assumption) rfl rfl ?_
      refine pg_iconst (v := 4) h d_Mod_key_111 (by decide) ?_
      refine pg_iload_n h d_Mod_key_112 rfl ?_
      refine pg_imul h d_Mod_key_113 ?_
      refine pg_iload_n h d_Mod_key_114 rfl ?_
      refine pg_iadd h d_Mod_key_115 ?_
      refine pg_bipush (v := 10) h d_Mod_key_116 (by decide) ?_
      refine pg_isub h d_Mod_key_118 ?_
      rw [il]
      refine pf_ild h ok d_Mod_key_119 (by first | rfl | exact hk | exact hk2 | exact dm12 _ | assumption) rfl (pg_ixN rfl (show 4 * k + (kk - 10) < 52 by omega) (by decide)) ?_
      rw [show S30 26 0 (4 * k + (kk - 10)) = A 17 k (kk - 10) from (hR30.2.2.2.2.2 k hk).2.2.2.2.2.2.2 _ hj]
      refine pg_istore_n h d_Mod_key_120 (Nat.le_of_ble_eq_true rfl) rfl rfl ?_
      refine pg_iload_n h d_Mod_key_121 rfl ?_
      refine pg_if_lt (tgt := 130) h d_Mod_key_122 rfl (fun e122 => absurd e122 hl0) (fun e122 => ?_)
      refine pg_aload_n h d_Mod_key_125 rfl ?_
      refine pg_iload_n h d_Mod_key_126 rfl ?_
      refine pm_cV0 h ok (hR30) (hg30) d_Mod_key_127 m_Mod_want l_Mod_147 (c_Mod_want w ok (pf_st A 6 0 3 0) S0 z _) rfl rfl rfl (Nat.le_of_ble_eq_true rfl) ⟨(Nat.le_of_ble_eq_true rfl), (Nat.le_of_ble_eq_true rfl)⟩ ⟨Nat.le_refl _, Nat.le_refl _⟩ (fun S127 hR127 hg127 => ?_)
      refine pg_iload_n h d_Mod_key_130 rfl ?_
      refine pg_if_lt (tgt := 138) h d_Mod_key_131 rfl (fun e131 => absurd e131 hl0) (fun e131 => ?_)
      refine pg_iconst (v := 1) h d_Mod_key_134 (by decide) ?_
      refine pg_goto (tgt := 139) h d_Mod_key_135 rfl ?_
      exact pm_iret h d_Mod_key_139 rfl (by first | rfl | simp [*]) (hR127) (hg127)
