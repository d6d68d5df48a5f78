/-! Tuner: overlays, header, packets; feed. -/
/-- address, mode, data of a triplet -/
def adF (t : Int32) : Nat := (t &&& 63).toNatClampNeg
def mdF (t : Int32) : Int32 := t >>> ((6 : Int32) &&& 31) &&& 31
def dtF (t : Int32) : Int32 := t >>> ((11 : Int32) &&& 31) &&& 127
theorem adF_eq (t : Int32) : t &&& 63 = nI (adF t) ∧ adF t < 64 := by
  obtain ⟨j, hj, e⟩ := pk_andE t (m := 63) 6 (by decide)
  have h : adF t = j := by
    unfold adF
    rw [e]
    exact nI_clamp (by omega)
  rw [h]
  exact ⟨e, by omega⟩
/-- Tuner.takeTriplet: the active row behind it, the memory behind it -/
def trN (a : Nat) (t : Int32) : Nat := if 40 ≤ adF t ∧ adF t ≤ 47 ∧ mdF t = 4 then adF t - 40 else a
def trT (S : pf_S) (k a : Nat) (t : Int32) : pf_S := if 40 ≤ adF t ∧ adF t ≤ 47 ∧ mdF t = 4 then S else if adF t < 20 ∧ mdF t = 15 then pf_st S 16 k (a * 20 + adF t) (dtF t + 128) else if adF t < 20 ∧ ¬ mdF t < 16 then pf_st S 16 k (a * 20 + adF t) (dtF t + 256 * (mdF t - 15)) else S
theorem trN_lt {a : Nat} {t : Int32} (h : a < 8) : trN a t < 8 := by
  unfold trN
  split <;> omega
theorem q_lt {a n : Nat} {c : Int32} (ha : a < 64) (hn : n < 64) (hc : c = nI n) : (nI a < c) = (a < n) := by subst hc; exact propext (nI_ltI (by omega) (by omega))
theorem q_gt {a n : Nat} {c : Int32} (ha : a < 64) (hn : n < 64) (hc : c = nI n) : (c < nI a) = (n < a) := by subst hc; exact propext (nI_ltI (by omega) (by omega))
theorem q_ge {a n : Nat} {c : Int32} (ha : a < 64) (hn : n < 64) (hc : c = nI n) : (c ≤ nI a) = (n ≤ a) := by subst hc; exact propext (nI_leI (by omega) (by omega))

set_option maxRecDepth 100000 in
set_option maxHeartbeats 4000000 in
theorem c_Tuner_takeTriplet (w : pf_W) (ok : pf_ok w) (S : pf_S) (k : Nat) (hk : pf_dm w.2.2.1 14 k = true) (a : Nat) (ha : a < 8) (t : Int32) : pf_C w y_Tuner_takeTriplet b_Tuner_takeTriplet 6 (some .int) 2 44 [.ref (w.2.1 14 k), .int (nI a), .int t] S (some (.int (nI (trN a t)))) (trT S k a t) := by
  refine pf_enter (by decide) (Nat.le_of_ble_eq_true rfl) (lv0 := [some (.ref (w.2.1 14 k)), some (.int (nI a)), some (.int t), none, none, none]) rfl (fun κ h => ?_)
  have had := adF_eq t
  refine pg_iload_n h d_Tuner_takeTriplet_0 rfl ?_
  refine pg_bipush (v := 63) h d_Tuner_takeTriplet_1 (by decide) ?_
  refine pg_iand h d_Tuner_takeTriplet_3 ?_
  rw [had.1]
  refine pg_istore_n h d_Tuner_takeTriplet_4 (Nat.le_of_ble_eq_true rfl) rfl rfl ?_
  refine pg_iload_n h d_Tuner_takeTriplet_5 rfl ?_
  refine pg_bipush (v := 6) h d_Tuner_takeTriplet_6 (by decide) ?_
  refine pg_ishr h d_Tuner_takeTriplet_8 ?_
  refine pg_bipush (v := 31) h d_Tuner_takeTriplet_9 (by decide) ?_
  refine pg_iand h d_Tuner_takeTriplet_11 ?_
  refine pg_istore h d_Tuner_takeTriplet_12 (Nat.le_of_ble_eq_true rfl) rfl rfl ?_
  refine pg_iload_n h d_Tuner_takeTriplet_14 rfl ?_
  refine pg_bipush (v := 11) h d_Tuner_takeTriplet_15 (by decide) ?_
  refine pg_ishr h d_Tuner_takeTriplet_17 ?_
  refine pg_bipush (v := 127) h d_Tuner_takeTriplet_18 (by decide) ?_
  refine pg_iand h d_Tuner_takeTriplet_20 ?_
  refine pg_istore h d_Tuner_takeTriplet_21 (Nat.le_of_ble_eq_true rfl) rfl rfl ?_
  refine pg_iload_n h d_Tuner_takeTriplet_23 rfl ?_
  refine pg_bipush (v := 40) h d_Tuner_takeTriplet_24 (by decide) ?_
  refine pg_icmp_lt (tgt := 46) h d_Tuner_takeTriplet_26 rfl (fun e26 => ?_) (fun e26 => ?_)
  · skip
    refine pg_iload_n h d_Tuner_takeTriplet_46 rfl ?_
    refine pg_bipush (v := 20) h d_Tuner_takeTriplet_47 (by decide) ?_
    refine pg_icmp_ge (tgt := 74) h d_Tuner_takeTriplet_49 rfl (fun e49 => ?_) (fun e49 => ?_)
    · skip
      refine pg_iload_n h d_Tuner_takeTriplet_74 rfl ?_
      refine pg_bipush (v := 20) h d_Tuner_takeTriplet_75 (by decide) ?_
      refine pg_icmp_ge (tgt := 105) h d_Tuner_takeTriplet_77 rfl (fun e77 => ?_) (fun e77 => ?_)
      · skip
        refine pg_iload_n h d_Tuner_takeTriplet_105 rfl ?_
        exact pf_iret h d_Tuner_takeTriplet_106 rfl (by have q1 := q_lt (a := adF t) (n := 40) (c := 40) had.2 (by decide) rfl; have q2 := q_gt (a := adF t) (n := 47) (c := 47) had.2 (by decide) rfl; have q3 := q_ge (a := adF t) (n := 20) (c := 20) had.2 (by decide) rfl; (try simp only [q1] at e26); (try simp only [q2] at e32); first | (exfalso; omega) | (rw [trN, if_neg]; intro hx; first | exact e38 hx.2.2 | omega)) (by have q1 := q_lt (a := adF t) (n := 40) (c := 40) had.2 (by decide) rfl; have q2 := q_gt (a := adF t) (n := 47) (c := 47) had.2 (by decide) rfl; have q3 := q_ge (a := adF t) (n := 20) (c := 20) had.2 (by decide) rfl; (try simp only [q1] at e26); (try simp only [q2] at e32); (try simp only [q3] at e49); (try simp only [q3] at e77); first | (exfalso; omega) | (rw [trT, if_neg (by intro hx; first | exact e38 hx.2.2 | omega)]; first | (rw [if_pos ⟨by omega, e56⟩]; rfl) | (rw [if_neg (by intro hx; first | exact e56 hx.2 | omega)]; first | (rw [if_pos ⟨by omega, e84⟩]; rfl) | rw [if_neg (by intro hx; first | exact hx.2 e84 | omega)])))
      refine pg_iload h d_Tuner_takeTriplet_80 rfl ?_
      refine pg_bipush (v := 16) h d_Tuner_takeTriplet_82 (by decide) ?_
      refine pg_icmp_lt (tgt := 105) h d_Tuner_takeTriplet_84 rfl (fun e84 => ?_) (fun e84 => ?_)
      · skip
        refine pg_iload_n h d_Tuner_takeTriplet_105 rfl ?_
        exact pf_iret h d_Tuner_takeTriplet_106 rfl (by have q1 := q_lt (a := adF t) (n := 40) (c := 40) had.2 (by decide) rfl; have q2 := q_gt (a := adF t) (n := 47) (c := 47) had.2 (by decide) rfl; have q3 := q_ge (a := adF t) (n := 20) (c := 20) had.2 (by decide) rfl; (try simp only [q1] at e26); (try simp only [q2] at e32); first | (exfalso; omega) | (rw [trN, if_neg]; intro hx; first | exact e38 hx.2.2 | omega)) (by have q1 := q_lt (a := adF t) (n := 40) (c := 40) had.2 (by decide) rfl; have q2 := q_gt (a := adF t) (n := 47) (c := 47) had.2 (by decide) rfl; have q3 := q_ge (a := adF t) (n := 20) (c := 20) had.2 (by decide) rfl; (try simp only [q1] at e26); (try simp only [q2] at e32); (try simp only [q3] at e49); (try simp only [q3] at e77); first | (exfalso; omega) | (rw [trT, if_neg (by intro hx; first | exact e38 hx.2.2 | omega)]; first | (rw [if_pos ⟨by omega, e56⟩]; rfl) | (rw [if_neg (by intro hx; first | exact e56 hx.2 | omega)]; first | (rw [if_pos ⟨by omega, e84⟩]; rfl) | rw [if_neg (by intro hx; first | exact hx.2 e84 | omega)])))
      refine pg_aload_n h d_Tuner_takeTriplet_87 rfl ?_
      refine pg_iload_n h d_Tuner_takeTriplet_88 rfl ?_
      refine pg_iload_n h d_Tuner_takeTriplet_89 rfl ?_
      refine pg_iload h d_Tuner_takeTriplet_90 rfl ?_
      refine pg_sipush (v := 256) h d_Tuner_takeTriplet_92 (by decide) ?_
      refine pg_iload h d_Tuner_takeTriplet_95 rfl ?_
      refine pg_bipush (v := 15) h d_Tuner_takeTriplet_97 (by decide) ?_
      refine pg_isub h d_Tuner_takeTriplet_99 ?_
      refine pg_imul h d_Tuner_takeTriplet_100 ?_
      refine pg_iadd h d_Tuner_takeTriplet_101 ?_
      refine pf_cV0 h ok d_Tuner_takeTriplet_102 m_Page_setOverlay l_Tuner_131 (c_Page_setOverlay w ok S k hk a (adF t) ha (by have q3 := q_ge (a := adF t) (n := 20) (c := 20) had.2 (by decide) rfl; simp only [q3] at e77; omega) _) cn_Page (by first | rfl | exact hk | exact hk2 | exact dm12 _ | assumption) rfl rfl rfl (Nat.le_of_ble_eq_true rfl) ⟨(Nat.le_of_ble_eq_true rfl), (Nat.le_of_ble_eq_true rfl)⟩ ⟨Nat.le_refl _, Nat.le_refl _⟩ ?_
      refine pg_iload_n h d_Tuner_takeTriplet_105 rfl ?_
      exact pf_iret h d_Tuner_takeTriplet_106 rfl (by have q1 := q_lt (a := adF t) (n := 40) (c := 40) had.2 (by decide) rfl; have q2 := q_gt (a := adF t) (n := 47) (c := 47) had.2 (by decide) rfl; have q3 := q_ge (a := adF t) (n := 20) (c := 20) had.2 (by decide) rfl; (try simp only [q1] at e26); (try simp only [q2] at e32); first | (exfalso; omega) | (rw [trN, if_neg]; intro hx; first | exact e38 hx.2.2 | omega)) (by have q1 := q_lt (a := adF t) (n := 40) (c := 40) had.2 (by decide) rfl; have q2 := q_gt (a := adF t) (n := 47) (c := 47) had.2 (by decide) rfl; have q3 := q_ge (a := adF t) (n := 20) (c := 20) had.2 (by decide) rfl; (try simp only [q1] at e26); (try simp only [q2] at e32); (try simp only [q3] at e49); (try simp only [q3] at e77); first | (exfalso; omega) | (rw [trT, if_neg (by intro hx; first | exact e38 hx.2.2 | omega)]; first | (rw [if_pos ⟨by omega, e56⟩]; rfl) | (rw [if_neg (by intro hx; first | exact e56 hx.2 | omega)]; first | (rw [if_pos ⟨by omega, e84⟩]; rfl) | rw [if_neg (by intro hx; first | exact hx.2 e84 | omega)])))
    refine pg_iload h d_Tuner_takeTriplet_52 rfl ?_
    refine pg_bipush (v := 15) h d_Tuner_takeTriplet_54 (by decide) ?_
    refine pg_icmp_ne (tgt := 74) h d_Tuner_takeTriplet_56 rfl (fun e56 => ?_) (fun e56 => ?_)
    · skip
      refine pg_iload_n h d_Tuner_takeTriplet_74 rfl ?_
      refine pg_bipush (v := 20) h d_Tuner_takeTriplet_75 (by decide) ?_
      refine pg_icmp_ge (tgt := 105) h d_Tuner_takeTriplet_77 rfl (fun e77 => ?_) (fun e77 => ?_)
      · skip
        refine pg_iload_n h d_Tuner_takeTriplet_105 rfl ?_
        exact pf_iret h d_Tuner_takeTriplet_106 rfl (by have q1 := q_lt (a := adF t) (n := 40) (c := 40) had.2 (by decide) rfl; have q2 := q_gt (a := adF t) (n := 47) (c := 47) had.2 (by decide) rfl; have q3 := q_ge (a := adF t) (n := 20) (c := 20) had.2 (by decide) rfl; (try simp only [q1] at e26); (try simp only [q2] at e32); first | (exfalso; omega) | (rw [trN, if_neg]; intro hx; first | exact e38 hx.2.2 | omega)) (by have q1 := q_lt (a := adF t) (n := 40) (c := 40) had.2 (by decide) rfl; have q2 := q_gt (a := adF t) (n := 47) (c := 47) had.2 (by decide) rfl; have q3 := q_ge (a := adF t) (n := 20) (c := 20) had.2 (by decide) rfl; (try simp only [q1] at e26); (try simp only [q2] at e32); (try simp only [q3] at e49); (try simp only [q3] at e77); first | (exfalso; omega) | (rw [trT, if_neg (by intro hx; first | exact e38 hx.2.2 | omega)]; first | (rw [if_pos ⟨by omega, e56⟩]; rfl) | (rw [if_neg (by intro hx; first | exact e56 hx.2 | omega)]; first | (rw [if_pos ⟨by omega, e84⟩]; rfl) | rw [if_neg (by intro hx; first | exact hx.2 e84 | omega)])))
      refine pg_iload h d_Tuner_takeTriplet_80 rfl ?_
      refine pg_bipush (v := 16) h d_Tuner_takeTriplet_82 (by decide) ?_
      refine pg_icmp_lt (tgt := 105) h d_Tuner_takeTriplet_84 rfl (fun e84 => ?_) (fun e84 => ?_)
      · skip
        refine pg_iload_n h d_Tuner_takeTriplet_105 rfl ?_
        exact pf_iret h d_Tuner_takeTriplet_106 rfl (by have q1 := q_lt (a := adF t) (n := 40) (c := 40) had.2 (by decide) rfl; have q2 := q_gt (a := adF t) (n := 47) (c := 47) had.2 (by decide) rfl; have q3 := q_ge (a := adF t) (n := 20) (c := 20) had.2 (by decide) rfl; (try simp only [q1] at e26); (try simp only [q2] at e32); first | (exfalso; omega) | (rw [trN, if_neg]; intro hx; first | exact e38 hx.2.2 | omega)) (by have q1 := q_lt (a := adF t) (n := 40) (c := 40) had.2 (by decide) rfl; have q2 := q_gt (a := adF t) (n := 47) (c := 47) had.2 (by decide) rfl; have q3 := q_ge (a := adF t) (n := 20) (c := 20) had.2 (by decide) rfl; (try simp only [q1] at e26); (try simp only [q2] at e32); (try simp only [q3] at e49); (try simp only [q3] at e77); first | (exfalso; omega) | (rw [trT, if_neg (by intro hx; first | exact e38 hx.2.2 | omega)]; first | (rw [if_pos ⟨by omega, e56⟩]; rfl) | (rw [if_neg (by intro hx; first | exact e56 hx.2 | omega)]; first | (rw [if_pos ⟨by omega, e84⟩]; rfl) | rw [if_neg (by intro hx; first | exact hx.2 e84 | omega)])))
      refine pg_aload_n h d_Tuner_takeTriplet_87 rfl ?_
      refine pg_iload_n h d_Tuner_takeTriplet_88 rfl ?_
      refine pg_iload_n h d_Tuner_takeTriplet_89 rfl ?_
      refine pg_iload h d_Tuner_takeTriplet_90 rfl ?_
      refine pg_sipush (v := 256) h d_Tuner_takeTriplet_92 (by decide) ?_
      refine pg_iload h d_Tuner_takeTriplet_95 rfl ?_
      refine pg_bipush (v := 15) h d_Tuner_takeTriplet_97 (by decide) ?_
      refine pg_isub h d_Tuner_takeTriplet_99 ?_
      refine pg_imul h d_Tuner_takeTriplet_100 ?_
      refine pg_iadd h d_Tuner_takeTriplet_101 ?_
      refine pf_cV0 h ok d_Tuner_takeTriplet_102 m_Page_setOverlay l_Tuner_131 (c_Page_setOverlay w ok S k hk a (adF t) ha (by have q3 := q_ge (a := adF t) (n := 20) (c := 20) had.2 (by decide) rfl; simp only [q3] at e77; omega) _) cn_Page (by first | rfl | exact hk | exact hk2 | exact dm12 _ | assumption) rfl rfl rfl (Nat.le_of_ble_eq_true rfl) ⟨(Nat.le_of_ble_eq_true rfl), (Nat.le_of_ble_eq_true rfl)⟩ ⟨Nat.le_refl _, Nat.le_refl _⟩ ?_
      refine pg_iload_n h d_Tuner_takeTriplet_105 rfl ?_
      exact pf_iret h d_Tuner_takeTriplet_106 rfl (by have q1 := q_lt (a := adF t) (n := 40) (c := 40) had.2 (by decide) rfl; have q2 := q_gt (a := adF t) (n := 47) (c := 47) had.2 (by decide) rfl; have q3 := q_ge (a := adF t) (n := 20) (c := 20) had.2 (by decide) rfl; (try simp only [q1] at e26); (try simp only [q2] at e32); first | (exfalso; omega) | (rw [trN, if_neg]; intro hx; first | exact e38 hx.2.2 | omega)) (by have q1 := q_lt (a := adF t) (n := 40) (c := 40) had.2 (by decide) rfl; have q2 := q_gt (a := adF t) (n := 47) (c := 47) had.2 (by decide) rfl; have q3 := q_ge (a := adF t) (n := 20) (c := 20) had.2 (by decide) rfl; (try simp only [q1] at e26); (try simp only [q2] at e32); (try simp only [q3] at e49); (try simp only [q3] at e77); first | (exfalso; omega) | (rw [trT, if_neg (by intro hx; first | exact e38 hx.2.2 | omega)]; first | (rw [if_pos ⟨by omega, e56⟩]; rfl) | (rw [if_neg (by intro hx; first | exact e56 hx.2 | omega)]; first | (rw [if_pos ⟨by omega, e84⟩]; rfl) | rw [if_neg (by intro hx; first | exact hx.2 e84 | omega)])))
    refine pg_aload_n h d_Tuner_takeTriplet_59 rfl ?_
    refine pg_iload_n h d_Tuner_takeTriplet_60 rfl ?_
    refine pg_iload_n h d_Tuner_takeTriplet_61 rfl ?_
    refine pg_iload h d_Tuner_takeTriplet_62 rfl ?_
    refine pg_sipush (v := 128) h d_Tuner_takeTriplet_64 (by decide) ?_
    refine pg_iadd h d_Tuner_takeTriplet_67 ?_
    refine pf_cV0 h ok d_Tuner_takeTriplet_68 m_Page_setOverlay l_Tuner_131 (c_Page_setOverlay w ok S k hk a (adF t) ha (by have q3 := q_ge (a := adF t) (n := 20) (c := 20) had.2 (by decide) rfl; simp only [q3] at e49; omega) _) cn_Page (by first | rfl | exact hk | exact hk2 | exact dm12 _ | assumption) rfl rfl rfl (Nat.le_of_ble_eq_true rfl) ⟨(Nat.le_of_ble_eq_true rfl), (Nat.le_of_ble_eq_true rfl)⟩ ⟨Nat.le_refl _, Nat.le_refl _⟩ ?_
    refine pg_goto (tgt := 105) h d_Tuner_takeTriplet_71 rfl ?_
    refine pg_iload_n h d_Tuner_takeTriplet_105 rfl ?_
    exact pf_iret h d_Tuner_takeTriplet_106 rfl (by have q1 := q_lt (a := adF t) (n := 40) (c := 40) had.2 (by decide) rfl; have q2 := q_gt (a := adF t) (n := 47) (c := 47) had.2 (by decide) rfl; have q3 := q_ge (a := adF t) (n := 20) (c := 20) had.2 (by decide) rfl; (try simp only [q1] at e26); (try simp only [q2] at e32); first | (exfalso; omega) | (rw [trN, if_neg]; intro hx; first | exact e38 hx.2.2 | omega)) (by have q1 := q_lt (a := adF t) (n := 40) (c := 40) had.2 (by decide) rfl; have q2 := q_gt (a := adF t) (n := 47) (c := 47) had.2 (by decide) rfl; have q3 := q_ge (a := adF t) (n := 20) (c := 20) had.2 (by decide) rfl; (try simp only [q1] at e26); (try simp only [q2] at e32); (try simp only [q3] at e49); (try simp only [q3] at e77); first | (exfalso; omega) | (rw [trT, if_neg (by intro hx; first | exact e38 hx.2.2 | omega)]; first | (rw [if_pos ⟨by omega, e56⟩]; rfl) | (rw [if_neg (by intro hx; first | exact e56 hx.2 | omega)]; first | (rw [if_pos ⟨by omega, e84⟩]; rfl) | rw [if_neg (by intro hx; first | exact hx.2 e84 | omega)])))
  refine pg_iload_n h d_Tuner_takeTriplet_29 rfl ?_
  refine pg_bipush (v := 47) h d_Tuner_takeTriplet_30 (by decide) ?_
  refine pg_icmp_gt (tgt := 46) h d_Tuner_takeTriplet_32 rfl (fun e32 => ?_) (fun e32 => ?_)
  · skip
    refine pg_iload_n h d_Tuner_takeTriplet_46 rfl ?_
    refine pg_bipush (v := 20) h d_Tuner_takeTriplet_47 (by decide) ?_
    refine pg_icmp_ge (tgt := 74) h d_Tuner_takeTriplet_49 rfl (fun e49 => ?_) (fun e49 => ?_)
    · skip
      refine pg_iload_n h d_Tuner_takeTriplet_74 rfl ?_
      refine pg_bipush (v := 20) h d_Tuner_takeTriplet_75 (by decide) ?_
      refine pg_icmp_ge (tgt := 105) h d_Tuner_takeTriplet_77 rfl (fun e77 => ?_) (fun e77 => ?_)
      · skip
        refine pg_iload_n h d_Tuner_takeTriplet_105 rfl ?_
        exact pf_iret h d_Tuner_takeTriplet_106 rfl (by have q1 := q_lt (a := adF t) (n := 40) (c := 40) had.2 (by decide) rfl; have q2 := q_gt (a := adF t) (n := 47) (c := 47) had.2 (by decide) rfl; have q3 := q_ge (a := adF t) (n := 20) (c := 20) had.2 (by decide) rfl; (try simp only [q1] at e26); (try simp only [q2] at e32); first | (exfalso; omega) | (rw [trN, if_neg]; intro hx; first | exact e38 hx.2.2 | omega)) (by have q1 := q_lt (a := adF t) (n := 40) (c := 40) had.2 (by decide) rfl; have q2 := q_gt (a := adF t) (n := 47) (c := 47) had.2 (by decide) rfl; have q3 := q_ge (a := adF t) (n := 20) (c := 20) had.2 (by decide) rfl; (try simp only [q1] at e26); (try simp only [q2] at e32); (try simp only [q3] at e49); (try simp only [q3] at e77); first | (exfalso; omega) | (rw [trT, if_neg (by intro hx; first | exact e38 hx.2.2 | omega)]; first | (rw [if_pos ⟨by omega, e56⟩]; rfl) | (rw [if_neg (by intro hx; first | exact e56 hx.2 | omega)]; first | (rw [if_pos ⟨by omega, e84⟩]; rfl) | rw [if_neg (by intro hx; first | exact hx.2 e84 | omega)])))
      refine pg_iload h d_Tuner_takeTriplet_80 rfl ?_
      refine pg_bipush (v := 16) h d_Tuner_takeTriplet_82 (by decide) ?_
      refine pg_icmp_lt (tgt := 105) h d_Tuner_takeTriplet_84 rfl (fun e84 => ?_) (fun e84 => ?_)
      · skip
        refine pg_iload_n h d_Tuner_takeTriplet_105 rfl ?_
        exact pf_iret h d_Tuner_takeTriplet_106 rfl (by have q1 := q_lt (a := adF t) (n := 40) (c := 40) had.2 (by decide) rfl; have q2 := q_gt (a := adF t) (n := 47) (c := 47) had.2 (by decide) rfl; have q3 := q_ge (a := adF t) (n := 20) (c := 20) had.2 (by decide) rfl; (try simp only [q1] at e26); (try simp only [q2] at e32); first | (exfalso; omega) | (rw [trN, if_neg]; intro hx; first | exact e38 hx.2.2 | omega)) (by have q1 := q_lt (a := adF t) (n := 40) (c := 40) had.2 (by decide) rfl; have q2 := q_gt (a := adF t) (n := 47) (c := 47) had.2 (by decide) rfl; have q3 := q_ge (a := adF t) (n := 20) (c := 20) had.2 (by decide) rfl; (try simp only [q1] at e26); (try simp only [q2] at e32); (try simp only [q3] at e49); (try simp only [q3] at e77); first | (exfalso; omega) | (rw [trT, if_neg (by intro hx; first | exact e38 hx.2.2 | omega)]; first | (rw [if_pos ⟨by omega, e56⟩]; rfl) | (rw [if_neg (by intro hx; first | exact e56 hx.2 | omega)]; first | (rw [if_pos ⟨by omega, e84⟩]; rfl) | rw [if_neg (by intro hx; first | exact hx.2 e84 | omega)])))
      refine pg_aload_n h d_Tuner_takeTriplet_87 rfl ?_
      refine pg_iload_n h d_Tuner_takeTriplet_88 rfl ?_
      refine pg_iload_n h d_Tuner_takeTriplet_89 rfl ?_
      refine pg_iload h d_Tuner_takeTriplet_90 rfl ?_
      refine pg_sipush (v := 256) h d_Tuner_takeTriplet_92 (by decide) ?_
      refine pg_iload h d_Tuner_takeTriplet_95 rfl ?_
      refine pg_bipush (v := 15) h d_Tuner_takeTriplet_97 (by decide) ?_
      refine pg_isub h d_Tuner_takeTriplet_99 ?_
      refine pg_imul h d_Tuner_takeTriplet_100 ?_
      refine pg_iadd h d_Tuner_takeTriplet_101 ?_
      refine pf_cV0 h ok d_Tuner_takeTriplet_102 m_Page_setOverlay l_Tuner_131 (c_Page_setOverlay w ok S k hk a (adF t) ha (by have q3 := q_ge (a := adF t) (n := 20) (c := 20) had.2 (by decide) rfl; simp only [q3] at e77; omega) _) cn_Page (by first | rfl | exact hk | exact hk2 | exact dm12 _ | assumption) rfl rfl rfl (Nat.le_of_ble_eq_true rfl) ⟨(Nat.le_of_ble_eq_true rfl), (Nat.le_of_ble_eq_true rfl)⟩ ⟨Nat.le_refl _, Nat.le_refl _⟩ ?_
      refine pg_iload_n h d_Tuner_takeTriplet_105 rfl ?_
      exact pf_iret h d_Tuner_takeTriplet_106 rfl (by have q1 := q_lt (a := adF t) (n := 40) (c := 40) had.2 (by decide) rfl; have q2 := q_gt (a := adF t) (n := 47) (c := 47) had.2 (by decide) rfl; have q3 := q_ge (a := adF t) (n := 20) (c := 20) had.2 (by decide) rfl; (try simp only [q1] at e26); (try simp only [q2] at e32); first | (exfalso; omega) | (rw [trN, if_neg]; intro hx; first | exact e38 hx.2.2 | omega)) (by have q1 := q_lt (a := adF t) (n := 40) (c := 40) had.2 (by decide) rfl; have q2 := q_gt (a := adF t) (n := 47) (c := 47) had.2 (by decide) rfl; have q3 := q_ge (a := adF t) (n := 20) (c := 20) had.2 (by decide) rfl; (try simp only [q1] at e26); (try simp only [q2] at e32); (try simp only [q3] at e49); (try simp only [q3] at e77); first | (exfalso; omega) | (rw [trT, if_neg (by intro hx; first | exact e38 hx.2.2 | omega)]; first | (rw [if_pos ⟨by omega, e56⟩]; rfl) | (rw [if_neg (by intro hx; first | exact e56 hx.2 | omega)]; first | (rw [if_pos ⟨by omega, e84⟩]; rfl) | rw [if_neg (by intro hx; first | exact hx.2 e84 | omega)])))
    refine pg_iload h d_Tuner_takeTriplet_52 rfl ?_
    refine pg_bipush (v := 15) h d_Tuner_takeTriplet_54 (by decide) ?_
    refine pg_icmp_ne (tgt := 74) h d_Tuner_takeTriplet_56 rfl (fun e56 => ?_) (fun e56 => ?_)
    · skip
      refine pg_iload_n h d_Tuner_takeTriplet_74 rfl ?_
      refine pg_bipush (v := 20) h d_Tuner_takeTriplet_75 (by decide) ?_
      refine pg_icmp_ge (tgt := 105) h d_Tuner_takeTriplet_77 rfl (fun e77 => ?_) (fun e77 => ?_)
      · skip
        refine pg_iload_n h d_Tuner_takeTriplet_105 rfl ?_
        exact pf_iret h d_Tuner_takeTriplet_106 rfl (by have q1 := q_lt (a := adF t) (n := 40) (c := 40) had.2 (by decide) rfl; have q2 := q_gt (a := adF t) (n := 47) (c := 47) had.2 (by decide) rfl; have q3 := q_ge (a := adF t) (n := 20) (c := 20) had.2 (by decide) rfl; (try simp only [q1] at e26); (try simp only [q2] at e32); first | (exfalso; omega) | (rw [trN, if_neg]; intro hx; first | exact e38 hx.2.2 | omega)) (by have q1 := q_lt (a := adF t) (n := 40) (c := 40) had.2 (by decide) rfl; have q2 := q_gt (a := adF t) (n := 47) (c := 47) had.2 (by decide) rfl; have q3 := q_ge (a := adF t) (n := 20) (c := 20) had.2 (by decide) rfl; (try simp only [q1] at e26); (try simp only [q2] at e32); (try simp only [q3] at e49); (try simp only [q3] at e77); first | (exfalso; omega) | (rw [trT, if_neg (by intro hx; first | exact e38 hx.2.2 | omega)]; first | (rw [if_pos ⟨by omega, e56⟩]; rfl) | (rw [if_neg (by intro hx; first | exact e56 hx.2 | omega)]; first | (rw [if_pos ⟨by omega, e84⟩]; rfl) | rw [if_neg (by intro hx; first | exact hx.2 e84 | omega)])))
      refine pg_iload h d_Tuner_takeTriplet_80 rfl ?_
      refine pg_bipush (v := 16) h d_Tuner_takeTriplet_82 (by decide) ?_
      refine pg_icmp_lt (tgt := 105) h d_Tuner_takeTriplet_84 rfl (fun e84 => ?_) (fun e84 => ?_)
      · skip
        refine pg_iload_n h d_Tuner_takeTriplet_105 rfl ?_
        exact pf_iret h d_Tuner_takeTriplet_106 rfl (by have q1 := q_lt (a := adF t) (n := 40) (c := 40) had.2 (by decide) rfl; have q2 := q_gt (a := adF t) (n := 47) (c := 47) had.2 (by decide) rfl; have q3 := q_ge (a := adF t) (n := 20) (c := 20) had.2 (by decide) rfl; (try simp only [q1] at e26); (try simp only [q2] at e32); first | (exfalso; omega) | (rw [trN, if_neg]; intro hx; first | exact e38 hx.2.2 | omega)) (by have q1 := q_lt (a := adF t) (n := 40) (c := 40) had.2 (by decide) rfl; have q2 := q_gt (a := adF t) (n := 47) (c := 47) had.2 (by decide) rfl; have q3 := q_ge (a := adF t) (n := 20) (c := 20) had.2 (by decide) rfl; (try simp only [q1] at e26); (try simp only [q2] at e32); (try simp only [q3] at e49); (try simp only [q3] at e77); first | (exfalso; omega) | (rw [trT, if_neg (by intro hx; first | exact e38 hx.2.2 | omega)]; first | (rw [if_pos ⟨by omega, e56⟩]; rfl) | (rw [if_neg (by intro hx; first | exact e56 hx.2 | omega)]; first | (rw [if_pos ⟨by omega, e84⟩]; rfl) | rw [if_neg (by intro hx; first | exact hx.2 e84 | omega)])))
      refine pg_aload_n h d_Tuner_takeTriplet_87 rfl ?_
      refine pg_iload_n h d_Tuner_takeTriplet_88 rfl ?_
      refine pg_iload_n h d_Tuner_takeTriplet_89 rfl ?_
      refine pg_iload h d_Tuner_takeTriplet_90 rfl ?_
      refine pg_sipush (v := 256) h d_Tuner_takeTriplet_92 (by decide) ?_
      refine pg_iload h d_Tuner_takeTriplet_95 rfl ?_
      refine pg_bipush (v := 15) h d_Tuner_takeTriplet_97 (by decide) ?_
      refine pg_isub h d_Tuner_takeTriplet_99 ?_
      refine pg_imul h d_Tuner_takeTriplet_100 ?_
      refine pg_iadd h d_Tuner_takeTriplet_101 ?_
      refine pf_cV0 h ok d_Tuner_takeTriplet_102 m_Page_setOverlay l_Tuner_131 (c_Page_setOverlay w ok S k hk a (adF t) ha (by have q3 := q_ge (a := adF t) (n := 20) (c := 20) had.2 (by decide) rfl; simp only [q3] at e77; omega) _) cn_Page (by first | rfl | exact hk | exact hk2 | exact dm12 _ | assumption) rfl rfl rfl (Nat.le_of_ble_eq_true rfl) ⟨(Nat.le_of_ble_eq_true rfl), (Nat.le_of_ble_eq_true rfl)⟩ ⟨Nat.le_refl _, Nat.le_refl _⟩ ?_
      refine pg_iload_n h d_Tuner_takeTriplet_105 rfl ?_
      exact pf_iret h d_Tuner_takeTriplet_106 rfl (by have q1 := q_lt (a := adF t) (n := 40) (c := 40) had.2 (by decide) rfl; have q2 := q_gt (a := adF t) (n := 47) (c := 47) had.2 (by decide) rfl; have q3 := q_ge (a := adF t) (n := 20) (c := 20) had.2 (by decide) rfl; (try simp only [q1] at e26); (try simp only [q2] at e32); first | (exfalso; omega) | (rw [trN, if_neg]; intro hx; first | exact e38 hx.2.2 | omega)) (by have q1 := q_lt (a := adF t) (n := 40) (c := 40) had.2 (by decide) rfl; have q2 := q_gt (a := adF t) (n := 47) (c := 47) had.2 (by decide) rfl; have q3 := q_ge (a := adF t) (n := 20) (c := 20) had.2 (by decide) rfl; (try simp only [q1] at e26); (try simp only [q2] at e32); (try simp only [q3] at e49); (try simp only [q3] at e77); first | (exfalso; omega) | (rw [trT, if_neg (by intro hx; first | exact e38 hx.2.2 | omega)]; first | (rw [if_pos ⟨by omega, e56⟩]; rfl) | (rw [if_neg (by intro hx; first | exact e56 hx.2 | omega)]; first | (rw [if_pos ⟨by omega, e84⟩]; rfl) | rw [if_neg (by intro hx; first | exact hx.2 e84 | omega)])))
    refine pg_aload_n h d_Tuner_takeTriplet_59 rfl ?_
    refine pg_iload_n h d_Tuner_takeTriplet_60 rfl ?_
    refine pg_iload_n h d_Tuner_takeTriplet_61 rfl ?_
    refine pg_iload h d_Tuner_takeTriplet_62 rfl ?_
    refine pg_sipush (v := 128) h d_Tuner_takeTriplet_64 (by decide) ?_
    refine pg_iadd h d_Tuner_takeTriplet_67 ?_
    refine pf_cV0 h ok d_Tuner_takeTriplet_68 m_Page_setOverlay l_Tuner_131 (c_Page_setOverlay w ok S k hk a (adF t) ha (by have q3 := q_ge (a := adF t) (n := 20) (c := 20) had.2 (by decide) rfl; simp only [q3] at e49; omega) _) cn_Page (by first | rfl | exact hk | exact hk2 | exact dm12 _ | assumption) rfl rfl rfl (Nat.le_of_ble_eq_true rfl) ⟨(Nat.le_of_ble_eq_true rfl), (Nat.le_of_ble_eq_true rfl)⟩ ⟨Nat.le_refl _, Nat.le_refl _⟩ ?_
    refine pg_goto (tgt := 105) h d_Tuner_takeTriplet_71 rfl ?_
    refine pg_iload_n h d_Tuner_takeTriplet_105 rfl ?_
    exact pf_iret h d_Tuner_takeTriplet_106 rfl (by have q1 := q_lt (a := adF t) (n := 40) (c := 40) had.2 (by decide) rfl; have q2 := q_gt (a := adF t) (n := 47) (c := 47) had.2 (by decide) rfl; have q3 := q_ge (a := adF t) (n := 20) (c := 20) had.2 (by decide) rfl; (try simp only [q1] at e26); (try simp only [q2] at e32); first | (exfalso; omega) | (rw [trN, if_neg]; intro hx; first | exact e38 hx.2.2 | omega)) (by have q1 := q_lt (a := adF t) (n := 40) (c := 40) had.2 (by decide) rfl; have q2 := q_gt (a := adF t) (n := 47) (c := 47) had.2 (by decide) rfl; have q3 := q_ge (a := adF t) (n := 20) (c := 20) had.2 (by decide) rfl; (try simp only [q1] at e26); (try simp only [q2] at e32); (try simp only [q3] at e49); (try simp only [q3] at e77); first | (exfalso; omega) | (rw [trT, if_neg (by intro hx; first | exact e38 hx.2.2 | omega)]; first | (rw [if_pos ⟨by omega, e56⟩]; rfl) | (rw [if_neg (by intro hx; first | exact e56 hx.2 | omega)]; first | (rw [if_pos ⟨by omega, e84⟩]; rfl) | rw [if_neg (by intro hx; first | exact hx.2 e84 | omega)])))
  refine pg_iload h d_Tuner_takeTriplet_35 rfl ?_
  refine pg_iconst (v := 4) h d_Tuner_takeTriplet_37 (by decide) ?_
  refine pg_icmp_ne (tgt := 46) h d_Tuner_takeTriplet_38 rfl (fun e38 => ?_) (fun e38 => ?_)
  · skip
    refine pg_iload_n h d_Tuner_takeTriplet_46 rfl ?_
    refine pg_bipush (v := 20) h d_Tuner_takeTriplet_47 (by decide) ?_
    refine pg_icmp_ge (tgt := 74) h d_Tuner_takeTriplet_49 rfl (fun e49 => ?_) (fun e49 => ?_)
    · skip
      refine pg_iload_n h d_Tuner_takeTriplet_74 rfl ?_
      refine pg_bipush (v := 20) h d_Tuner_takeTriplet_75 (by decide) ?_
      refine pg_icmp_ge (tgt := 105) h d_Tuner_takeTriplet_77 rfl (fun e77 => ?_) (fun e77 => ?_)
      · skip
        refine pg_iload_n h d_Tuner_takeTriplet_105 rfl ?_
        exact pf_iret h d_Tuner_takeTriplet_106 rfl (by have q1 := q_lt (a := adF t) (n := 40) (c := 40) had.2 (by decide) rfl; have q2 := q_gt (a := adF t) (n := 47) (c := 47) had.2 (by decide) rfl; have q3 := q_ge (a := adF t) (n := 20) (c := 20) had.2 (by decide) rfl; (try simp only [q1] at e26); (try simp only [q2] at e32); first | (exfalso; omega) | (rw [trN, if_neg]; intro hx; first | exact e38 hx.2.2 | omega)) (by have q1 := q_lt (a := adF t) (n := 40) (c := 40) had.2 (by decide) rfl; have q2 := q_gt (a := adF t) (n := 47) (c := 47) had.2 (by decide) rfl; have q3 := q_ge (a := adF t) (n := 20) (c := 20) had.2 (by decide) rfl; (try simp only [q1] at e26); (try simp only [q2] at e32); (try simp only [q3] at e49); (try simp only [q3] at e77); first | (exfalso; omega) | (rw [trT, if_neg (by intro hx; first | exact e38 hx.2.2 | omega)]; first | (rw [if_pos ⟨by omega, e56⟩]; rfl) | (rw [if_neg (by intro hx; first | exact e56 hx.2 | omega)]; first | (rw [if_pos ⟨by omega, e84⟩]; rfl) | rw [if_neg (by intro hx; first | exact hx.2 e84 | omega)])))
      refine pg_iload h d_Tuner_takeTriplet_80 rfl ?_
      refine pg_bipush (v := 16) h d_Tuner_takeTriplet_82 (by decide) ?_
      refine pg_icmp_lt (tgt := 105) h d_Tuner_takeTriplet_84 rfl (fun e84 => ?_) (fun e84 => ?_)
      · skip
        refine pg_iload_n h d_Tuner_takeTriplet_105 rfl ?_
        exact pf_iret h d_Tuner_takeTriplet_106 rfl (by have q1 := q_lt (a := adF t) (n := 40) (c := 40) had.2 (by decide) rfl; have q2 := q_gt (a := adF t) (n := 47) (c := 47) had.2 (by decide) rfl; have q3 := q_ge (a := adF t) (n := 20) (c := 20) had.2 (by decide) rfl; (try simp only [q1] at e26); (try simp only [q2] at e32); first | (exfalso; omega) | (rw [trN, if_neg]; intro hx; first | exact e38 hx.2.2 | omega)) (by have q1 := q_lt (a := adF t) (n := 40) (c := 40) had.2 (by decide) rfl; have q2 := q_gt (a := adF t) (n := 47) (c := 47) had.2 (by decide) rfl; have q3 := q_ge (a := adF t) (n := 20) (c := 20) had.2 (by decide) rfl; (try simp only [q1] at e26); (try simp only [q2] at e32); (try simp only [q3] at e49); (try simp only [q3] at e77); first | (exfalso; omega) | (rw [trT, if_neg (by intro hx; first | exact e38 hx.2.2 | omega)]; first | (rw [if_pos ⟨by omega, e56⟩]; rfl) | (rw [if_neg (by intro hx; first | exact e56 hx.2 | omega)]; first | (rw [if_pos ⟨by omega, e84⟩]; rfl) | rw [if_neg (by intro hx; first | exact hx.2 e84 | omega)])))
      refine pg_aload_n h d_Tuner_takeTriplet_87 rfl ?_
      refine pg_iload_n h d_Tuner_takeTriplet_88 rfl ?_
      refine pg_iload_n h d_Tuner_takeTriplet_89 rfl ?_
      refine pg_iload h d_Tuner_takeTriplet_90 rfl ?_
      refine pg_sipush (v := 256) h d_Tuner_takeTriplet_92 (by decide) ?_
      refine pg_iload h d_Tuner_takeTriplet_95 rfl ?_
      refine pg_bipush (v := 15) h d_Tuner_takeTriplet_97 (by decide) ?_
      refine pg_isub h d_Tuner_takeTriplet_99 ?_
      refine pg_imul h d_Tuner_takeTriplet_100 ?_
      refine pg_iadd h d_Tuner_takeTriplet_101 ?_
      refine pf_cV0 h ok d_Tuner_takeTriplet_102 m_Page_setOverlay l_Tuner_131 (c_Page_setOverlay w ok S k hk a (adF t) ha (by have q3 := q_ge (a := adF t) (n := 20) (c := 20) had.2 (by decide) rfl; simp only [q3] at e77; omega) _) cn_Page (by first | rfl | exact hk | exact hk2 | exact dm12 _ | assumption) rfl rfl rfl (Nat.le_of_ble_eq_true rfl) ⟨(Nat.le_of_ble_eq_true rfl), (Nat.le_of_ble_eq_true rfl)⟩ ⟨Nat.le_refl _, Nat.le_refl _⟩ ?_
      refine pg_iload_n h d_Tuner_takeTriplet_105 rfl ?_
      exact pf_iret h d_Tuner_takeTriplet_106 rfl (by have q1 := q_lt (a := adF t) (n := 40) (c := 40) had.2 (by decide) rfl; have q2 := q_gt (a := adF t) (n := 47) (c := 47) had.2 (by decide) rfl; have q3 := q_ge (a := adF t) (n := 20) (c := 20) had.2 (by decide) rfl; (try simp only [q1] at e26); (try simp only [q2] at e32); first | (exfalso; omega) | (rw [trN, if_neg]; intro hx; first | exact e38 hx.2.2 | omega)) (by have q1 := q_lt (a := adF t) (n := 40) (c := 40) had.2 (by decide) rfl; have q2 := q_gt (a := adF t) (n := 47) (c := 47) had.2 (by decide) rfl; have q3 := q_ge (a := adF t) (n := 20) (c := 20) had.2 (by decide) rfl; (try simp only [q1] at e26); (try simp only [q2] at e32); (try simp only [q3] at e49); (try simp only [q3] at e77); first | (exfalso; omega) | (rw [trT, if_neg (by intro hx; first | exact e38 hx.2.2 | omega)]; first | (rw [if_pos ⟨by omega, e56⟩]; rfl) | (rw [if_neg (by intro hx; first | exact e56 hx.2 | omega)]; first | (rw [if_pos ⟨by omega, e84⟩]; rfl) | rw [if_neg (by intro hx; first | exact hx.2 e84 | omega)])))
    refine pg_iload h d_Tuner_takeTriplet_52 rfl ?_
    refine pg_bipush (v := 15) h d_Tuner_takeTriplet_54 (by decide) ?_
    refine pg_icmp_ne (tgt := 74) h d_Tuner_takeTriplet_56 rfl (fun e56 => ?_) (fun e56 => ?_)
    · skip
      refine pg_iload_n h d_Tuner_takeTriplet_74 rfl ?_
      refine pg_bipush (v := 20) h d_Tuner_takeTriplet_75 (by decide) ?_
      refine pg_icmp_ge (tgt := 105) h d_Tuner_takeTriplet_77 rfl (fun e77 => ?_) (fun e77 => ?_)
      · skip
        refine pg_iload_n h d_Tuner_takeTriplet_105 rfl ?_
        exact pf_iret h d_Tuner_takeTriplet_106 rfl (by have q1 := q_lt (a := adF t) (n := 40) (c := 40) had.2 (by decide) rfl; have q2 := q_gt (a := adF t) (n := 47) (c := 47) had.2 (by decide) rfl; have q3 := q_ge (a := adF t) (n := 20) (c := 20) had.2 (by decide) rfl; (try simp only [q1] at e26); (try simp only [q2] at e32); first | (exfalso; omega) | (rw [trN, if_neg]; intro hx; first | exact e38 hx.2.2 | omega)) (by have q1 := q_lt (a := adF t) (n := 40) (c := 40) had.2 (by decide) rfl; have q2 := q_gt (a := adF t) (n := 47) (c := 47) had.2 (by decide) rfl; have q3 := q_ge (a := adF t) (n := 20) (c := 20) had.2 (by decide) rfl; (try simp only [q1] at e26); (try simp only [q2] at e32); (try simp only [q3] at e49); (try simp only [q3] at e77); first | (exfalso; omega) | (rw [trT, if_neg (by intro hx; first | exact e38 hx.2.2 | omega)]; first | (rw [if_pos ⟨by omega, e56⟩]; rfl) | (rw [if_neg (by intro hx; first | exact e56 hx.2 | omega)]; first | (rw [if_pos ⟨by omega, e84⟩]; rfl) | rw [if_neg (by intro hx; first | exact hx.2 e84 | omega)])))
      refine pg_iload h d_Tuner_takeTriplet_80 rfl ?_
      refine pg_bipush (v := 16) h d_Tuner_takeTriplet_82 (by decide) ?_
      refine pg_icmp_lt (tgt := 105) h d_Tuner_takeTriplet_84 rfl (fun e84 => ?_) (fun e84 => ?_)
      · skip
        refine pg_iload_n h d_Tuner_takeTriplet_105 rfl ?_
        exact pf_iret h d_Tuner_takeTriplet_106 rfl (by have q1 := q_lt (a := adF t) (n := 40) (c := 40) had.2 (by decide) rfl; have q2 := q_gt (a := adF t) (n := 47) (c := 47) had.2 (by decide) rfl; have q3 := q_ge (a := adF t) (n := 20) (c := 20) had.2 (by decide) rfl; (try simp only [q1] at e26); (try simp only [q2] at e32); first | (exfalso; omega) | (rw [trN, if_neg]; intro hx; first | exact e38 hx.2.2 | omega)) (by have q1 := q_lt (a := adF t) (n := 40) (c := 40) had.2 (by decide) rfl; have q2 := q_gt (a := adF t) (n := 47) (c := 47) had.2 (by decide) rfl; have q3 := q_ge (a := adF t) (n := 20) (c := 20) had.2 (by decide) rfl; (try simp only [q1] at e26); (try simp only [q2] at e32); (try simp only [q3] at e49); (try simp only [q3] at e77); first | (exfalso; omega) | (rw [trT, if_neg (by intro hx; first | exact e38 hx.2.2 | omega)]; first | (rw [if_pos ⟨by omega, e56⟩]; rfl) | (rw [if_neg (by intro hx; first | exact e56 hx.2 | omega)]; first | (rw [if_pos ⟨by omega, e84⟩]; rfl) | rw [if_neg (by intro hx; first | exact hx.2 e84 | omega)])))
      refine pg_aload_n h d_Tuner_takeTriplet_87 rfl ?_
      refine pg_iload_n h d_Tuner_takeTriplet_88 rfl ?_
      refine pg_iload_n h d_Tuner_takeTriplet_89 rfl ?_
      refine pg_iload h d_Tuner_takeTriplet_90 rfl ?_
      refine pg_sipush (v := 256) h d_Tuner_takeTriplet_92 (by decide) ?_
      refine pg_iload h d_Tuner_takeTriplet_95 rfl ?_
      refine pg_bipush (v := 15) h d_Tuner_takeTriplet_97 (by decide) ?_
      refine pg_isub h d_Tuner_takeTriplet_99 ?_
      refine pg_imul h d_Tuner_takeTriplet_100 ?_
      refine pg_iadd h d_Tuner_takeTriplet_101 ?_
      refine pf_cV0 h ok d_Tuner_takeTriplet_102 m_Page_setOverlay l_Tuner_131 (c_Page_setOverlay w ok S k hk a (adF t) ha (by have q3 := q_ge (a := adF t) (n := 20) (c := 20) had.2 (by decide) rfl; simp only [q3] at e77; omega) _) cn_Page (by first | rfl | exact hk | exact hk2 | exact dm12 _ | assumption) rfl rfl rfl (Nat.le_of_ble_eq_true rfl) ⟨(Nat.le_of_ble_eq_true rfl), (Nat.le_of_ble_eq_true rfl)⟩ ⟨Nat.le_refl _, Nat.le_refl _⟩ ?_
      refine pg_iload_n h d_Tuner_takeTriplet_105 rfl ?_
      exact pf_iret h d_Tuner_takeTriplet_106 rfl (by have q1 := q_lt (a := adF t) (n := 40) (c := 40) had.2 (by decide) rfl; have q2 := q_gt (a := adF t) (n := 47) (c := 47) had.2 (by decide) rfl; have q3 := q_ge (a := adF t) (n := 20) (c := 20) had.2 (by decide) rfl; (try simp only [q1] at e26); (try simp only [q2] at e32); first | (exfalso; omega) | (rw [trN, if_neg]; intro hx; first | exact e38 hx.2.2 | omega)) (by have q1 := q_lt (a := adF t) (n := 40) (c := 40) had.2 (by decide) rfl; have q2 := q_gt (a := adF t) (n := 47) (c := 47) had.2 (by decide) rfl; have q3 := q_ge (a := adF t) (n := 20) (c := 20) had.2 (by decide) rfl; (try simp only [q1] at e26); (try simp only [q2] at e32); (try simp only [q3] at e49); (try simp only [q3] at e77); first | (exfalso; omega) | (rw [trT, if_neg (by intro hx; first | exact e38 hx.2.2 | omega)]; first | (rw [if_pos ⟨by omega, e56⟩]; rfl) | (rw [if_neg (by intro hx; first | exact e56 hx.2 | omega)]; first | (rw [if_pos ⟨by omega, e84⟩]; rfl) | rw [if_neg (by intro hx; first | exact hx.2 e84 | omega)])))
    refine pg_aload_n h d_Tuner_takeTriplet_59 rfl ?_
    refine pg_iload_n h d_Tuner_takeTriplet_60 rfl ?_
    refine pg_iload_n h d_Tuner_takeTriplet_61 rfl ?_
    refine pg_iload h d_Tuner_takeTriplet_62 rfl ?_
    refine pg_sipush (v := 128) h d_Tuner_takeTriplet_64 (by decide) ?_
    refine pg_iadd h d_Tuner_takeTriplet_67 ?_
    refine pf_cV0 h ok d_Tuner_takeTriplet_68 m_Page_setOverlay l_Tuner_131 (c_Page_setOverlay w ok S k hk a (adF t) ha (by have q3 := q_ge (a := adF t) (n := 20) (c := 20) had.2 (by decide) rfl; simp only [q3] at e49; omega) _) cn_Page (by first | rfl | exact hk | exact hk2 | exact dm12 _ | assumption) rfl rfl rfl (Nat.le_of_ble_eq_true rfl) ⟨(Nat.le_of_ble_eq_true rfl), (Nat.le_of_ble_eq_true rfl)⟩ ⟨Nat.le_refl _, Nat.le_refl _⟩ ?_
    refine pg_goto (tgt := 105) h d_Tuner_takeTriplet_71 rfl ?_
    refine pg_iload_n h d_Tuner_takeTriplet_105 rfl ?_
    exact pf_iret h d_Tuner_takeTriplet_106 rfl (by have q1 := q_lt (a := adF t) (n := 40) (c := 40) had.2 (by decide) rfl; have q2 := q_gt (a := adF t) (n := 47) (c := 47) had.2 (by decide) rfl; have q3 := q_ge (a := adF t) (n := 20) (c := 20) had.2 (by decide) rfl; (try simp only [q1] at e26); (try simp only [q2] at e32); first | (exfalso; omega) | (rw [trN, if_neg]; intro hx; first | exact e38 hx.2.2 | omega)) (by have q1 := q_lt (a := adF t) (n := 40) (c := 40) had.2 (by decide) rfl; have q2 := q_gt (a := adF t) (n := 47) (c := 47) had.2 (by decide) rfl; have q3 := q_ge (a := adF t) (n := 20) (c := 20) had.2 (by decide) rfl; (try simp only [q1] at e26); (try simp only [q2] at e32); (try simp only [q3] at e49); (try simp only [q3] at e77); first | (exfalso; omega) | (rw [trT, if_neg (by intro hx; first | exact e38 hx.2.2 | omega)]; first | (rw [if_pos ⟨by omega, e56⟩]; rfl) | (rw [if_neg (by intro hx; first | exact e56 hx.2 | omega)]; first | (rw [if_pos ⟨by omega, e84⟩]; rfl) | rw [if_neg (by intro hx; first | exact hx.2 e84 | omega)])))
  refine pg_iload_n h d_Tuner_takeTriplet_41 rfl ?_
  refine pg_bipush (v := 40) h d_Tuner_takeTriplet_42 (by decide) ?_
  refine pg_isub h d_Tuner_takeTriplet_44 ?_
  exact pf_iret h d_Tuner_takeTriplet_45 rfl (by rw [show nI (adF t) - 40 = nI (adF t - 40) from pk_sub (a := adF t) (b := 40) (by have q1 := q_lt (a := adF t) (n := 40) (c := 40) had.2 (by decide) rfl; have q2 := q_gt (a := adF t) (n := 47) (c := 47) had.2 (by decide) rfl; have q3 := q_ge (a := adF t) (n := 20) (c := 20) had.2 (by decide) rfl; simp only [q1] at e26; omega)]; have q1 := q_lt (a := adF t) (n := 40) (c := 40) had.2 (by decide) rfl; have q2 := q_gt (a := adF t) (n := 47) (c := 47) had.2 (by decide) rfl; have q3 := q_ge (a := adF t) (n := 20) (c := 20) had.2 (by decide) rfl; simp only [q1, q2, q3] at *; rw [trN, if_pos ⟨by omega, by omega, e38⟩]) (by have q1 := q_lt (a := adF t) (n := 40) (c := 40) had.2 (by decide) rfl; have q2 := q_gt (a := adF t) (n := 47) (c := 47) had.2 (by decide) rfl; have q3 := q_ge (a := adF t) (n := 20) (c := 20) had.2 (by decide) rfl; simp only [q1, q2, q3] at *; rw [trT, if_pos ⟨by omega, by omega, e38⟩])

/-- one triplet of a packet: memory and active row -/
noncomputable def toS (k i : Nat) (q : pf_S × Nat) : pf_S × Nat := if tripV (plF q.1 (2 + 3 * i)) (failTo (plF q.1 (2 + 3 * i)) 5) = -1 then (tripT q.1 (plF q.1 (2 + 3 * i)) (failTo (plF q.1 (2 + 3 * i)) 5), q.2) else (trT (tripT q.1 (plF q.1 (2 + 3 * i)) (failTo (plF q.1 (2 + 3 * i)) 5)) k q.2 (tripV (plF q.1 (2 + 3 * i)) (failTo (plF q.1 (2 + 3 * i)) 5)), trN q.2 (tripV (plF q.1 (2 + 3 * i)) (failTo (plF q.1 (2 + 3 * i)) 5)))
noncomputable def toF (k : Nat) (S : pf_S) : Nat → pf_S × Nat
  | 0 => (S, 0)
  | i + 1 => toS k i (toF k S i)
theorem toF_lt (k : Nat) (S : pf_S) : ∀ i, (toF k S i).2 < 8 := by
  intro i
  induction i with
  | zero => exact (by decide : 0 < 8)
  | succ i ih =>
    rw [toF, toS]
    split
    · exact ih
    · exact trN_lt ih

set_option maxRecDepth 100000 in
set_option maxHeartbeats 4000000 in
theorem c_Tuner_takeOverlays (w : pf_W) (ok : pf_ok w) (S : pf_S) (k : Nat) (hk : pf_dm w.2.2.1 14 k = true) : pf_C w y_Tuner_takeOverlays b_Tuner_takeOverlays 5 none 4 86 [.ref (w.2.1 8 0), .ref (w.2.1 14 k)] S (none) ((toF k S 6).1) := by
  refine pf_enter (by decide) (Nat.le_of_ble_eq_true rfl) (lv0 := [some (.ref (w.2.1 8 0)), some (.ref (w.2.1 14 k)), none, none, none]) rfl (fun κ h => ?_)
  have loop : ∀ (n i : Nat) (X : Option Value), i + n = 6 → pg_G κ w.1 5 0 0 (pg_Q κ w.1 (fun r' H => r' = none ∧ pf_P w ((toF k S 6).1) H) 0 0) (pf_P w ((toF k S i).1)) 4 [some (.ref (w.2.1 8 0)), some (.ref (w.2.1 14 k)), some (.int (nI (toF k S i).2)), some (.int (nI i)), X] [] := by
    intro n
    induction n with
    | zero =>
      intro i X hi
      have hi : i = 6 := by omega
      subst hi
      refine pg_iload_n h d_Tuner_takeOverlays_4 rfl ?_
      refine pg_bipush (v := 6) h d_Tuner_takeOverlays_5 (by decide) ?_
      refine pg_icmp_ge (tgt := 44) h d_Tuner_takeOverlays_7 rfl (fun e7 => ?_) (fun e7 => absurd e7 (fun e => e (by decide)))
      exact pf_vret h d_Tuner_takeOverlays_44 rfl
    | succ n ih =>
      intro i X hi
      have hi2 : i < 6 := by omega
      have hrow := toF_lt k S i
      refine pg_iload_n h d_Tuner_takeOverlays_4 rfl ?_
      refine pg_bipush (v := 6) h d_Tuner_takeOverlays_5 (by decide) ?_
      refine pg_icmp_ge (tgt := 44) h d_Tuner_takeOverlays_7 rfl (fun e7 => absurd e7 (nI_ge hi2 (by decide))) (fun e7 => ?_)
      refine pg_aload_n h d_Tuner_takeOverlays_10 rfl ?_
      refine pf_get h ok d_Tuner_takeOverlays_11 f_Tuner_24 (by first | rfl | exact hk | exact hk2 | exact dm12 _ | assumption) rfl rfl ?_
      refine pg_iconst (v := 2) h d_Tuner_takeOverlays_14 (by decide) ?_
      refine pg_iconst (v := 3) h d_Tuner_takeOverlays_15 (by decide) ?_
      refine pg_iload_n h d_Tuner_takeOverlays_16 rfl ?_
      refine pg_imul h d_Tuner_takeOverlays_17 ?_
      refine pg_iadd h d_Tuner_takeOverlays_18 ?_
      rw [show (2 : Int32) + 3 * nI i = nI (2 + 3 * i) from ml3 2 i]
      refine pf_cV h ok d_Tuner_takeOverlays_19 m_Packet_triplet l_Tuner_124 (c_Packet_triplet w ok _ (2 + 3 * i) (by omega)) cn_Packet (by first | rfl | exact hk | exact hk2 | exact dm12 _ | assumption) rfl rfl rfl (Nat.le_of_ble_eq_true rfl) ⟨(Nat.le_of_ble_eq_true rfl), (Nat.le_of_ble_eq_true rfl)⟩ ⟨Nat.le_refl _, Nat.le_refl _⟩ ?_
      refine pg_istore h d_Tuner_takeOverlays_22 (Nat.le_of_ble_eq_true rfl) rfl rfl ?_
      refine pg_iload h d_Tuner_takeOverlays_24 rfl ?_
      refine pg_iconst (v := (-1)) h d_Tuner_takeOverlays_26 (by decide) ?_
      refine pg_icmp_eq (tgt := 38) h d_Tuner_takeOverlays_27 rfl (fun e27 => ?_) (fun e27 => ?_)
      · skip
        refine pg_iinc (w := 1) h d_Tuner_takeOverlays_38 rfl (by decide) (Nat.le_of_ble_eq_true rfl) rfl rfl ?_
        refine pg_goto (tgt := 4) h d_Tuner_takeOverlays_41 rfl ?_
        rw [← nI_succ i]
        first
          | (have q := ih (i + 1) (some (.int (-1))) (by omega); rw [show toF k S (i + 1) = toS k i (toF k S i) from rfl, toS, if_pos e27] at q; rw [e27]; exact q)
          | (have q := ih (i + 1) (some (.int (tripV (plF (toF k S i).1 (2 + 3 * i)) (failTo (plF (toF k S i).1 (2 + 3 * i)) 5)))) (by omega); rw [show toF k S (i + 1) = toS k i (toF k S i) from rfl, toS, if_neg e27] at q; exact q)
      refine pg_aload_n h d_Tuner_takeOverlays_30 rfl ?_
      refine pg_iload_n h d_Tuner_takeOverlays_31 rfl ?_
      refine pg_iload h d_Tuner_takeOverlays_32 rfl ?_
      refine pg_cS h d_Tuner_takeOverlays_34 m_Tuner_takeTriplet l_Tuner_127 (c_Tuner_takeTriplet w ok _ k hk _ hrow _) rfl rfl (Nat.le_of_ble_eq_true rfl) ⟨(Nat.le_of_ble_eq_true rfl), (Nat.le_of_ble_eq_true rfl)⟩ ⟨Nat.le_refl _, Nat.le_refl _⟩ ?_
      refine pg_istore_n h d_Tuner_takeOverlays_37 (Nat.le_of_ble_eq_true rfl) rfl rfl ?_
      refine pg_iinc (w := 1) h d_Tuner_takeOverlays_38 rfl (by decide) (Nat.le_of_ble_eq_true rfl) rfl rfl ?_
      refine pg_goto (tgt := 4) h d_Tuner_takeOverlays_41 rfl ?_
      rw [← nI_succ i]
      first
        | (have q := ih (i + 1) (some (.int (-1))) (by omega); rw [show toF k S (i + 1) = toS k i (toF k S i) from rfl, toS, if_pos e27] at q; rw [e27]; exact q)
        | (have q := ih (i + 1) (some (.int (tripV (plF (toF k S i).1 (2 + 3 * i)) (failTo (plF (toF k S i).1 (2 + 3 * i)) 5)))) (by omega); rw [show toF k S (i + 1) = toS k i (toF k S i) from rfl, toS, if_neg e27] at q; exact q)
  refine pg_iconst (v := 0) h d_Tuner_takeOverlays_0 (by decide) ?_
  refine pg_istore_n h d_Tuner_takeOverlays_1 (Nat.le_of_ble_eq_true rfl) rfl rfl ?_
  refine pg_iconst (v := 0) h d_Tuner_takeOverlays_2 (by decide) ?_
  refine pg_istore_n h d_Tuner_takeOverlays_3 (Nat.le_of_ble_eq_true rfl) rfl rfl ?_
  exact loop 6 0 none rfl

/-- Tuner.takeRow -/
noncomputable def twF (k : Nat) (m : Int32) (S : pf_S) (r : Nat) : pf_S := if r < 8 then tlF k r S 20 else if r = 26 then (toF k S 6).1 else if r = 27 then tkF k m S 4 else S

set_option maxRecDepth 100000 in
set_option maxHeartbeats 4000000 in
theorem c_Tuner_takeRow (w : pf_W) (ok : pf_ok w) (S : pf_S) (k : Nat) (hk : pf_dm w.2.2.1 14 k = true) (m : Int32) (r : Nat) (hr : r < 64) : pf_C w y_Tuner_takeRow b_Tuner_takeRow 4 none 5 110 [.ref (w.2.1 8 0), .ref (w.2.1 14 k), .int m, .int (nI r)] S (none) (twF k m S r) := by
  refine pf_enter (by decide) (Nat.le_of_ble_eq_true rfl) (lv0 := [some (.ref (w.2.1 8 0)), some (.ref (w.2.1 14 k)), some (.int m), some (.int (nI r))]) rfl (fun κ h => ?_)
  have q1 := q_ge (a := r) (n := 8) (c := 8) hr (by decide) rfl
  have q2 : (nI r = 26) = (r = 26) := propext (show nI r = nI 26 ↔ r = 26 from nI_eq (by omega) (by decide))
  have q3 : (nI r = 27) = (r = 27) := propext (show nI r = nI 27 ↔ r = 27 from nI_eq (by omega) (by decide))
  refine pg_iload_n h d_Tuner_takeRow_0 rfl ?_
  refine pg_bipush (v := 8) h d_Tuner_takeRow_1 (by decide) ?_
  refine pg_icmp_ge (tgt := 15) h d_Tuner_takeRow_3 rfl (fun e3 => ?_) (fun e3 => ?_)
  · skip
    refine pg_iload_n h d_Tuner_takeRow_15 rfl ?_
    refine pg_bipush (v := 26) h d_Tuner_takeRow_16 (by decide) ?_
    refine pg_icmp_ne (tgt := 29) h d_Tuner_takeRow_18 rfl (fun e18 => ?_) (fun e18 => ?_)
    · skip
      refine pg_iload_n h d_Tuner_takeRow_29 rfl ?_
      refine pg_bipush (v := 27) h d_Tuner_takeRow_30 (by decide) ?_
      refine pg_icmp_ne (tgt := 41) h d_Tuner_takeRow_32 rfl (fun e32 => ?_) (fun e32 => ?_)
      · skip
        exact pf_vret h d_Tuner_takeRow_41 (by rw [q1] at e3; (try rw [q2] at e18); (try rw [q3] at e32); unfold twF; first | (rw [if_pos (by omega)]; done) | (rw [if_neg (by omega)]; simp [*]; done))
      refine pg_aload_n h d_Tuner_takeRow_35 rfl ?_
      refine pg_aload_n h d_Tuner_takeRow_36 rfl ?_
      refine pg_iload_n h d_Tuner_takeRow_37 rfl ?_
      refine pf_cV0 h ok d_Tuner_takeRow_38 m_Tuner_takeLinks l_Tuner_72 (c_Tuner_takeLinks w ok S k hk m) cn_Tuner (by first | rfl | exact hk | exact hk2 | exact dm12 _ | assumption) rfl rfl rfl (Nat.le_of_ble_eq_true rfl) ⟨(Nat.le_of_ble_eq_true rfl), (Nat.le_of_ble_eq_true rfl)⟩ ⟨Nat.le_refl _, Nat.le_refl _⟩ ?_
      exact pf_vret h d_Tuner_takeRow_41 (by rw [q1] at e3; (try rw [q2] at e18); (try rw [q3] at e32); unfold twF; first | (rw [if_pos (by omega)]; done) | (rw [if_neg (by omega)]; simp [*]; done))
    refine pg_aload_n h d_Tuner_takeRow_21 rfl ?_
    refine pg_aload_n h d_Tuner_takeRow_22 rfl ?_
    refine pf_cV0 h ok d_Tuner_takeRow_23 m_Tuner_takeOverlays l_Tuner_68 (c_Tuner_takeOverlays w ok S k hk) cn_Tuner (by first | rfl | exact hk | exact hk2 | exact dm12 _ | assumption) rfl rfl rfl (Nat.le_of_ble_eq_true rfl) ⟨(Nat.le_of_ble_eq_true rfl), (Nat.le_of_ble_eq_true rfl)⟩ ⟨Nat.le_refl _, Nat.le_refl _⟩ ?_
    refine pg_goto (tgt := 41) h d_Tuner_takeRow_26 rfl ?_
    exact pf_vret h d_Tuner_takeRow_41 (by rw [q1] at e3; (try rw [q2] at e18); (try rw [q3] at e32); unfold twF; first | (rw [if_pos (by omega)]; done) | (rw [if_neg (by omega)]; simp [*]; done))
  refine pg_aload_n h d_Tuner_takeRow_6 rfl ?_
  refine pg_aload_n h d_Tuner_takeRow_7 rfl ?_
  refine pg_iload_n h d_Tuner_takeRow_8 rfl ?_
  refine pf_cV0 h ok d_Tuner_takeRow_9 m_Tuner_takeLetters l_Tuner_64 (c_Tuner_takeLetters w ok S k hk r (by rw [q1] at e3; omega)) cn_Tuner (by first | rfl | exact hk | exact hk2 | exact dm12 _ | assumption) rfl rfl rfl (Nat.le_of_ble_eq_true rfl) ⟨(Nat.le_of_ble_eq_true rfl), (Nat.le_of_ble_eq_true rfl)⟩ ⟨Nat.le_refl _, Nat.le_refl _⟩ ?_
  refine pg_goto (tgt := 41) h d_Tuner_takeRow_12 rfl ?_
  exact pf_vret h d_Tuner_takeRow_41 (by rw [q1] at e3; (try rw [q2] at e18); (try rw [q3] at e32); unfold twF; first | (rw [if_pos (by omega)]; done) | (rw [if_neg (by omega)]; simp [*]; done))

def rhS (i : Nat) (S : pf_S) : pf_S := pf_st (nibT S (S 3 0 (2 + i))) 11 0 i (nibV (S 3 0 (2 + i)))
def rhFrom : Nat → Nat → pf_S → Int32 × pf_S
  | 0, _, S => (1, S)
  | n + 1, i, S => if nibV (S 3 0 (2 + i)) = -1 then (0, rhS i S) else rhFrom n (i + 1) (rhS i S)
/-- Tuner.readHeader -/
def rhF (S : pf_S) : Int32 × pf_S := rhFrom 6 0 S

set_option maxRecDepth 100000 in
set_option maxHeartbeats 4000000 in
theorem c_Tuner_readHeader (w : pf_W) (ok : pf_ok w) (S : pf_S)  : pf_C w y_Tuner_readHeader b_Tuner_readHeader 2 (some .boolean) 2 44 [.ref (w.2.1 8 0)] S (some (.int (rhF S).1)) ((rhF S).2) := by
  refine pf_enter (by decide) (Nat.le_of_ble_eq_true rfl) (lv0 := [some (.ref (w.2.1 8 0)), none]) rfl (fun κ h => ?_)
  have loop : ∀ (n i : Nat) (S1 : pf_S), i + n = 6 → rhFrom n i S1 = rhF S → pg_G κ w.1 2 0 0 (pg_Q κ w.1 (fun r' H => r' = (some (.int (rhF S).1)) ∧ pf_P w ((rhF S).2) H) 0 0) (pf_P w (S1)) 2 [some (.ref (w.2.1 8 0)), some (.int (nI i))] [] := by
    intro n
    induction n with
    | zero =>
      intro i S1 hi hI
      have hi : i = 6 := by omega
      subst hi
      refine pg_iload_n h d_Tuner_readHeader_2 rfl ?_
      refine pg_aload_n h d_Tuner_readHeader_3 rfl ?_
      refine pf_get h ok d_Tuner_readHeader_4 f_Tuner_21 (by first | rfl | exact hk | exact hk2 | exact dm12 _ | assumption) rfl rfl ?_
      refine pf_len (t0 := 0) (v := 6) h ok d_Tuner_readHeader_7 (by first | rfl | exact hk | exact hk2 | exact dm12 _ | assumption) rfl rfl rfl ?_
      refine pg_icmp_ge (tgt := 45) h d_Tuner_readHeader_8 rfl (fun e8 => ?_) (fun e8 => absurd e8 (fun e => e (by decide)))
      refine pg_iconst (v := 1) h d_Tuner_readHeader_45 (by decide) ?_
      exact pf_iret h d_Tuner_readHeader_46 rfl (by rw [← hI]; rfl) (by rw [← hI]; rfl)
    | succ n ih =>
      intro i S1 hi hI
      have hi2 : i < 6 := by omega
      rw [rhFrom] at hI
      refine pg_iload_n h d_Tuner_readHeader_2 rfl ?_
      refine pg_aload_n h d_Tuner_readHeader_3 rfl ?_
      refine pf_get h ok d_Tuner_readHeader_4 f_Tuner_21 (by first | rfl | exact hk | exact hk2 | exact dm12 _ | assumption) rfl rfl ?_
      try simp only [pf_st_at, and_self, if_true]
      refine pf_len (t0 := 0) (v := 6) h ok d_Tuner_readHeader_7 (by first | rfl | exact hk | exact hk2 | exact dm12 _ | assumption) rfl rfl rfl ?_
      refine pg_icmp_ge (tgt := 45) h d_Tuner_readHeader_8 rfl (fun e8 => absurd e8 (nI_ge hi2 (by decide))) (fun e8 => ?_)
      refine pg_aload_n h d_Tuner_readHeader_11 rfl ?_
      refine pf_get h ok d_Tuner_readHeader_12 f_Tuner_21 (by first | rfl | exact hk | exact hk2 | exact dm12 _ | assumption) rfl rfl ?_
      try simp only [pf_st_at, and_self, if_true]
      refine pg_iload_n h d_Tuner_readHeader_15 rfl ?_
      refine pg_aload_n h d_Tuner_readHeader_16 rfl ?_
      refine pf_get h ok d_Tuner_readHeader_17 f_Tuner_24 (by first | rfl | exact hk | exact hk2 | exact dm12 _ | assumption) rfl rfl ?_
      try simp only [pf_st_at, and_self, if_true]
      refine pg_iconst (v := 2) h d_Tuner_readHeader_20 (by decide) ?_
      refine pg_iload_n h d_Tuner_readHeader_21 rfl ?_
      refine pg_iadd h d_Tuner_readHeader_22 ?_
      rw [show (2 : Int32) + nI i = nI (2 + i) from nI_add 2 i]
      refine pf_cV h ok d_Tuner_readHeader_23 m_Packet_nibble l_Tuner_46 (c_Packet_nibble w ok S1 (2 + i) (by omega)) cn_Packet (by first | rfl | exact hk | exact hk2 | exact dm12 _ | assumption) rfl rfl rfl (Nat.le_of_ble_eq_true rfl) ⟨(Nat.le_of_ble_eq_true rfl), (Nat.le_of_ble_eq_true rfl)⟩ ⟨Nat.le_refl _, Nat.le_refl _⟩ ?_
      try simp only [pf_st_at, and_self, if_true]
      refine pf_ist h ok d_Tuner_readHeader_26 (by first | rfl | exact hk | exact hk2 | exact dm12 _ | assumption) (fun _ => rfl) (pg_ixN rfl hi2 (by decide)) ?_
      try simp only [pf_st_at, and_self, if_true]
      refine pg_aload_n h d_Tuner_readHeader_27 rfl ?_
      refine pf_get h ok d_Tuner_readHeader_28 f_Tuner_21 (by first | rfl | exact hk | exact hk2 | exact dm12 _ | assumption) rfl rfl ?_
      try simp only [pf_st_at, and_self, if_true]
      refine pg_iload_n h d_Tuner_readHeader_31 rfl ?_
      refine pf_ild h ok d_Tuner_readHeader_32 (by first | rfl | exact hk | exact hk2 | exact dm12 _ | assumption) rfl (pg_ixN rfl hi2 (by decide)) ?_
      try simp only [pf_st_at, and_self, if_true]
      refine pg_iconst (v := (-1)) h d_Tuner_readHeader_33 (by decide) ?_
      refine pg_icmp_ne (tgt := 39) h d_Tuner_readHeader_34 rfl (fun e34 => ?_) (fun e34 => ?_)
      · skip
        refine pg_iinc (w := 1) h d_Tuner_readHeader_39 rfl (by decide) (Nat.le_of_ble_eq_true rfl) rfl rfl ?_
        refine pg_goto (tgt := 2) h d_Tuner_readHeader_42 rfl ?_
        rw [← nI_succ i]
        exact ih (i + 1) _ (by omega) (by rw [if_neg e34] at hI; exact hI)
      refine pg_iconst (v := 0) h d_Tuner_readHeader_37 (by decide) ?_
      exact pf_iret h d_Tuner_readHeader_38 rfl (by rw [if_pos e34] at hI; rw [← hI]) (by rw [if_pos e34] at hI; rw [← hI]; rfl)
  refine pg_iconst (v := 0) h d_Tuner_readHeader_0 (by decide) ?_
  refine pg_istore_n h d_Tuner_readHeader_1 (Nat.le_of_ble_eq_true rfl) rfl rfl ?_
  exact loop 6 0 S rfl rfl

/-- Tuner.completeComing -/
def ccS (P : Nat) (m : Nat) (b : Int32) (j : Nat) (S : pf_S) : pf_S := if (nb b = 0 ∧ ¬ j = m) ∨ nb (S 14 j 0) = 0 then S else cmpF S P j (S 6 0 2)
def ccF (P : Nat) (m : Nat) (b : Int32) (S : pf_S) : Nat → pf_S
  | 0 => S
  | j + 1 => ccS P m b j (ccF P m b S j)

set_option maxRecDepth 100000 in
set_option maxHeartbeats 4000000 in
theorem c_Tuner_completeComing (w : pf_W) (ok : pf_ok w) (S : pf_S) (hw : 1 ≤ w.2.2.1 ∧ w.2.2.1 ≤ 4) (m : Nat) (hm : m < 8) (b : Int32) : pf_C w y_Tuner_completeComing b_Tuner_completeComing 4 none 3 84 [.ref (w.2.1 8 0), .int (nI m), .int (nb b)] S (none) (ccF w.2.2.1 m b S 8) := by
  refine pf_enter (by decide) (Nat.le_of_ble_eq_true rfl) (lv0 := [some (.ref (w.2.1 8 0)), some (.int (nI m)), some (.int (nb b)), none]) rfl (fun κ h => ?_)
  have loop : ∀ (n j : Nat), j + n = 8 → pg_G κ w.1 4 0 0 (pg_Q κ w.1 (fun r' H => r' = none ∧ pf_P w (ccF w.2.2.1 m b S 8) H) 0 0) (pf_P w (ccF w.2.2.1 m b S j)) 2 [some (.ref (w.2.1 8 0)), some (.int (nI m)), some (.int (nb b)), some (.int (nI j))] [] := by
    intro n
    induction n with
    | zero =>
      intro j hj
      have hj : j = 8 := by omega
      subst hj
      refine pg_iload_n h d_Tuner_completeComing_2 rfl ?_
      refine pg_bipush (v := 8) h d_Tuner_completeComing_3 (by decide) ?_
      refine pg_icmp_ge (tgt := 55) h d_Tuner_completeComing_5 rfl (fun e5 => ?_) (fun e5 => absurd e5 (fun e => e (by decide)))
      exact pf_vret h d_Tuner_completeComing_55 rfl
    | succ n ih =>
      intro j hj
      have hj2 : j < 8 := by omega
      have hk : pf_dm w.2.2.1 14 j = true := dmC hj2
      have qm : (nI j = nI m) = (j = m) := propext (nI_eq (by omega) (by omega))
      refine pg_iload_n h d_Tuner_completeComing_2 rfl ?_
      refine pg_bipush (v := 8) h d_Tuner_completeComing_3 (by decide) ?_
      refine pg_icmp_ge (tgt := 55) h d_Tuner_completeComing_5 rfl (fun e5 => absurd e5 (nI_ge hj2 (by decide))) (fun e5 => ?_)
      refine pg_iload_n h d_Tuner_completeComing_8 rfl ?_
      refine pg_if_ne (tgt := 17) h d_Tuner_completeComing_9 rfl (fun e9 => ?_) (fun e9 => ?_)
      · skip
        refine pg_aload_n h d_Tuner_completeComing_17 rfl ?_
        refine pf_get h ok d_Tuner_completeComing_18 f_Tuner_11 (by first | rfl | exact hk | exact hk2 | exact dm12 _ | assumption) rfl rfl ?_
        refine pg_iload_n h d_Tuner_completeComing_21 rfl ?_
        refine pf_ald h ok d_Tuner_completeComing_22 (by first | rfl | exact hk | exact hk2 | exact dm12 _ | assumption) rfl (pg_ixN rfl hj2 (by decide)) rfl ?_
        refine pf_get h ok d_Tuner_completeComing_23 f_Tuner_56 (by first | rfl | exact hk | exact hk2 | exact dm12 _ | assumption) rfl rfl ?_
        refine pg_if_eq (tgt := 49) h d_Tuner_completeComing_26 rfl (fun e26 => ?_) (fun e26 => ?_)
        · skip
          refine pg_iinc (w := 1) h d_Tuner_completeComing_49 rfl (by decide) (Nat.le_of_ble_eq_true rfl) rfl rfl ?_
          refine pg_goto (tgt := 2) h d_Tuner_completeComing_52 rfl ?_
          rw [← nI_succ j]
          refine pg_mem (S' := ccF w.2.2.1 m b S (j + 1)) (by (try rw [qm] at e14); clear ih; rw [ccF, ccS]; split <;> simp_all) ?_
          exact ih (j + 1) (by omega)
        refine pg_aload_n h d_Tuner_completeComing_29 rfl ?_
        refine pf_get h ok d_Tuner_completeComing_30 f_Tuner_28 (by first | rfl | exact hk | exact hk2 | exact dm12 _ | assumption) rfl rfl ?_
        refine pg_aload_n h d_Tuner_completeComing_33 rfl ?_
        refine pf_get h ok d_Tuner_completeComing_34 f_Tuner_11 (by first | rfl | exact hk | exact hk2 | exact dm12 _ | assumption) rfl rfl ?_
        refine pg_iload_n h d_Tuner_completeComing_37 rfl ?_
        refine pf_ald h ok d_Tuner_completeComing_38 (by first | rfl | exact hk | exact hk2 | exact dm12 _ | assumption) rfl (pg_ixN rfl hj2 (by decide)) rfl ?_
        refine pg_aload_n h d_Tuner_completeComing_39 rfl ?_
        refine pf_get h ok d_Tuner_completeComing_40 f_Tuner_32 (by first | rfl | exact hk | exact hk2 | exact dm12 _ | assumption) rfl rfl ?_
        refine pf_get h ok d_Tuner_completeComing_43 f_Tuner_90 (by first | rfl | exact hk | exact hk2 | exact dm12 _ | assumption) rfl rfl ?_
        refine pf_cV0 h ok d_Tuner_completeComing_46 m_Shelf_complete l_Tuner_96 (c_Shelf_complete w ok _ hw j hj2 _) cn_Shelf (by first | rfl | exact hk | exact hk2 | exact dm12 _ | assumption) rfl rfl rfl (Nat.le_of_ble_eq_true rfl) ⟨(Nat.le_of_ble_eq_true rfl), (Nat.le_of_ble_eq_true rfl)⟩ ⟨Nat.le_refl _, Nat.le_refl _⟩ ?_
        refine pg_iinc (w := 1) h d_Tuner_completeComing_49 rfl (by decide) (Nat.le_of_ble_eq_true rfl) rfl rfl ?_
        refine pg_goto (tgt := 2) h d_Tuner_completeComing_52 rfl ?_
        rw [← nI_succ j]
        refine pg_mem (S' := ccF w.2.2.1 m b S (j + 1)) (by (try rw [qm] at e14); clear ih; rw [ccF, ccS]; split <;> simp_all) ?_
        exact ih (j + 1) (by omega)
      refine pg_iload_n h d_Tuner_completeComing_12 rfl ?_
      refine pg_iload_n h d_Tuner_completeComing_13 rfl ?_
      refine pg_icmp_ne (tgt := 49) h d_Tuner_completeComing_14 rfl (fun e14 => ?_) (fun e14 => ?_)
      · skip
        refine pg_iinc (w := 1) h d_Tuner_completeComing_49 rfl (by decide) (Nat.le_of_ble_eq_true rfl) rfl rfl ?_
        refine pg_goto (tgt := 2) h d_Tuner_completeComing_52 rfl ?_
        rw [← nI_succ j]
        refine pg_mem (S' := ccF w.2.2.1 m b S (j + 1)) (by (try rw [qm] at e14); clear ih; rw [ccF, ccS]; split <;> simp_all) ?_
        exact ih (j + 1) (by omega)
      refine pg_aload_n h d_Tuner_completeComing_17 rfl ?_
      refine pf_get h ok d_Tuner_completeComing_18 f_Tuner_11 (by first | rfl | exact hk | exact hk2 | exact dm12 _ | assumption) rfl rfl ?_
      refine pg_iload_n h d_Tuner_completeComing_21 rfl ?_
      refine pf_ald h ok d_Tuner_completeComing_22 (by first | rfl | exact hk | exact hk2 | exact dm12 _ | assumption) rfl (pg_ixN rfl hj2 (by decide)) rfl ?_
      refine pf_get h ok d_Tuner_completeComing_23 f_Tuner_56 (by first | rfl | exact hk | exact hk2 | exact dm12 _ | assumption) rfl rfl ?_
      refine pg_if_eq (tgt := 49) h d_Tuner_completeComing_26 rfl (fun e26 => ?_) (fun e26 => ?_)
      · skip
        refine pg_iinc (w := 1) h d_Tuner_completeComing_49 rfl (by decide) (Nat.le_of_ble_eq_true rfl) rfl rfl ?_
        refine pg_goto (tgt := 2) h d_Tuner_completeComing_52 rfl ?_
        rw [← nI_succ j]
        refine pg_mem (S' := ccF w.2.2.1 m b S (j + 1)) (by (try rw [qm] at e14); clear ih; rw [ccF, ccS]; split <;> simp_all) ?_
        exact ih (j + 1) (by omega)
      refine pg_aload_n h d_Tuner_completeComing_29 rfl ?_
      refine pf_get h ok d_Tuner_completeComing_30 f_Tuner_28 (by first | rfl | exact hk | exact hk2 | exact dm12 _ | assumption) rfl rfl ?_
      refine pg_aload_n h d_Tuner_completeComing_33 rfl ?_
      refine pf_get h ok d_Tuner_completeComing_34 f_Tuner_11 (by first | rfl | exact hk | exact hk2 | exact dm12 _ | assumption) rfl rfl ?_
      refine pg_iload_n h d_Tuner_completeComing_37 rfl ?_
      refine pf_ald h ok d_Tuner_completeComing_38 (by first | rfl | exact hk | exact hk2 | exact dm12 _ | assumption) rfl (pg_ixN rfl hj2 (by decide)) rfl ?_
      refine pg_aload_n h d_Tuner_completeComing_39 rfl ?_
      refine pf_get h ok d_Tuner_completeComing_40 f_Tuner_32 (by first | rfl | exact hk | exact hk2 | exact dm12 _ | assumption) rfl rfl ?_
      refine pf_get h ok d_Tuner_completeComing_43 f_Tuner_90 (by first | rfl | exact hk | exact hk2 | exact dm12 _ | assumption) rfl rfl ?_
      refine pf_cV0 h ok d_Tuner_completeComing_46 m_Shelf_complete l_Tuner_96 (c_Shelf_complete w ok _ hw j hj2 _) cn_Shelf (by first | rfl | exact hk | exact hk2 | exact dm12 _ | assumption) rfl rfl rfl (Nat.le_of_ble_eq_true rfl) ⟨(Nat.le_of_ble_eq_true rfl), (Nat.le_of_ble_eq_true rfl)⟩ ⟨Nat.le_refl _, Nat.le_refl _⟩ ?_
      refine pg_iinc (w := 1) h d_Tuner_completeComing_49 rfl (by decide) (Nat.le_of_ble_eq_true rfl) rfl rfl ?_
      refine pg_goto (tgt := 2) h d_Tuner_completeComing_52 rfl ?_
      rw [← nI_succ j]
      refine pg_mem (S' := ccF w.2.2.1 m b S (j + 1)) (by (try rw [qm] at e14); clear ih; rw [ccF, ccS]; split <;> simp_all) ?_
      exact ih (j + 1) (by omega)
  refine pg_iconst (v := 0) h d_Tuner_completeComing_0 (by decide) ?_
  refine pg_istore_n h d_Tuner_completeComing_1 (Nat.le_of_ble_eq_true rfl) rfl rfl ?_
  exact loop 8 0 rfl
