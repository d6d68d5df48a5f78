/-! The reference: copies and completed pages, by relation. -/
/-- page f copied into page t, which is then there -/
def cpQ (A : pf_S) (f t : Nat) : pf_S := pf_st (cpP A f t) 14 t 0 1
theorem mcp_Rm {P : Nat} {z : Int32} {A S : pf_S} {f t : Nat} (h : Rm P z A S) (hf : pgk P f) (hne : f ≠ t) : Rm P z (cpQ A f t) (mcp S f t) := by
  have hF := h.2.2.2.2.2 f hf
  refine h.pgs (fun a ha => ?_) (fun a ha => ?_) (fun q _ hq => ?_)
  · funext b c
    rw [cpQ, pf_st_at, if_neg (by omega), cpP]
    simp only [show ¬ a = 14 by omega, show ¬ a = 15 by omega, show ¬ a = 16 by omega, show ¬ a = 17 by omega, if_false, ite_self]
  · funext b c
    rw [mcp, pc2, if_neg (by omega), pc4, if_neg (by omega)]
    simp only [mcA, pf_st_at, show ¬ a = 21 by omega, show ¬ a = 22 by omega, show ¬ a = 23 by omega, show ¬ a = 24 by omega, show ¬ a = 25 by omega, false_and, if_false]
  · obtain ⟨f1, f2, f3, f4, f5, f6, f7, f8⟩ := hF
    obtain ⟨p1, p2, p3, p4, p5, p6, p7, p8⟩ := hq
    by_cases c : q = t
    · subst c
      refine ⟨?_, ?_, ?_, ?_, ?_, fun j hj => ?_, fun j hj => ?_, fun j hj => ?_⟩
      · simp [mcp, pc2, pc4, mcA, pf_st_at, cpQ]
      · simp [mcp, pc2, pc4, mcA, pf_st_at, cpQ, cpP, f2]
      · simp [mcp, pc2, pc4, mcA, pf_st_at, cpQ, cpP, f3]
      · simp [mcp, pc2, pc4, mcA, pf_st_at, cpQ, cpP, f4]
      · simp [mcp, pc2, pc4, mcA, pf_st_at, cpQ, cpP, f5]
      · rw [mcp, pc2, if_pos (by omega), show 160 * q + j - 160 * q = j by omega]
        simp [pc4, mcA, pf_st_at, cpQ, cpP, hj, f6 j hj]
      · rw [mcp, pc2, if_pos (by omega), show 160 * q + j - 160 * q = j by omega]
        simp [pc4, mcA, pf_st_at, cpQ, cpP, hj, f7 j hj]
      · rw [mcp, pc2, if_neg (by omega), pc4, if_pos (by omega), show 4 * q + j - 4 * q = j by omega]
        simp [mcA, pf_st_at, cpQ, cpP, hj, f8 j hj]
    · refine ⟨?_, ?_, ?_, ?_, ?_, fun j hj => ?_, fun j hj => ?_, fun j hj => ?_⟩
      · simp [mcp, pc2, pc4, mcA, pf_st_at, cpQ, cpP, c, p1]
      · simp [mcp, pc2, pc4, mcA, pf_st_at, cpQ, cpP, c, p2]
      · simp [mcp, pc2, pc4, mcA, pf_st_at, cpQ, cpP, c, p3]
      · simp [mcp, pc2, pc4, mcA, pf_st_at, cpQ, cpP, c, p4]
      · simp [mcp, pc2, pc4, mcA, pf_st_at, cpQ, cpP, c, p5]
      · rw [mcp, pc2, if_neg (by omega)]
        simp [pc4, mcA, pf_st_at, cpQ, cpP, c, p6 j hj]
      · rw [mcp, pc2, if_neg (by omega)]
        simp [pc4, mcA, pf_st_at, cpQ, cpP, c, p7 j hj]
      · rw [mcp, pc2, if_neg (by omega), pc4, if_neg (by omega)]
        simp [mcA, pf_st_at, cpQ, cpP, c, p8 j hj]
theorem mcp_g {S0 S : pf_S} {f t : Nat} (h : pm_g S0 S) : pm_g S0 (mcp S f t) := fun a ha => by
  funext b c
  rw [mcp, pc2, if_neg (by omega), pc4, if_neg (by omega), ← h a ha]
  simp only [mcA, pf_st_at, show ¬ a = 21 by omega, show ¬ a = 22 by omega, show ¬ a = 23 by omega, show ¬ a = 24 by omega, show ¬ a = 25 by omega, false_and, if_false]
theorem bl_Rm {P : Nat} {z : Int32} {A S : pf_S} {t : Nat} (h : Rm P z A S) : Rm P z (pf_rw (pf_rw (pf_rw A 15 t (filTo (A 15 t) 32 160)) 16 t (filTo (A 16 t) 0 160)) 17 t (filTo (A 17 t) (-1) 4)) (bl2 (bl4 S t 4) t 160) := by
  refine h.pgs (fun a ha => ?_) (fun a ha => ?_) (fun q _ hq => ?_)
  · funext b c
    rw [pf_rw_app, if_neg (by omega), pf_rw_app, if_neg (by omega), pf_rw_app, if_neg (by omega)]
  · funext b c
    rw [bl2, if_neg (by omega), bl4, if_neg (by omega)]
  · obtain ⟨p1, p2, p3, p4, p5, p6, p7, p8⟩ := hq
    by_cases c : q = t
    · subst c
      refine ⟨?_, ?_, ?_, ?_, ?_, fun j hj => ?_, fun j hj => ?_, fun j hj => ?_⟩
      · simp [bl2, bl4, pf_rw_app, p1]
      · simp [bl2, bl4, pf_rw_app, p2]
      · simp [bl2, bl4, pf_rw_app, p3]
      · simp [bl2, bl4, pf_rw_app, p4]
      · simp [bl2, bl4, pf_rw_app, p5]
      · rw [bl2, if_pos (by omega)]
        simp [pf_rw_app, filTo, hj]
      · rw [bl2, if_pos (by omega)]
        simp [pf_rw_app, filTo, hj]
      · rw [bl2, if_neg (by omega), bl4, if_pos (by omega)]
        simp [pf_rw_app, filTo, hj]
    · refine ⟨?_, ?_, ?_, ?_, ?_, fun j hj => ?_, fun j hj => ?_, fun j hj => ?_⟩
      · simp [bl2, bl4, pf_rw_app, p1]
      · simp [bl2, bl4, pf_rw_app, p2]
      · simp [bl2, bl4, pf_rw_app, p3]
      · simp [bl2, bl4, pf_rw_app, p4]
      · simp [bl2, bl4, pf_rw_app, p5]
      · rw [bl2, if_neg (by omega)]
        simp [bl4, pf_rw_app, c, p6 j hj]
      · rw [bl2, if_neg (by omega)]
        simp [bl4, pf_rw_app, c, p7 j hj]
      · rw [bl2, if_neg (by omega), bl4, if_neg (by omega)]
        simp [pf_rw_app, c, p8 j hj]
theorem bl_g {S0 S : pf_S} {t : Nat} (h : pm_g S0 S) : pm_g S0 (bl2 (bl4 S t 4) t 160) := fun a ha => by
  funext b c
  rw [bl2, if_neg (by omega), bl4, if_neg (by omega), h a ha]
/-- one state, up to how a boolean is spelled -/
def Aeq (A B : pf_S) : Prop := (∀ a b c, ¬ (a = 14 ∧ c = 0) → A a b c = B a b c) ∧ ∀ b, nb (A 14 b 0) = nb (B 14 b 0)
theorem Rm.cong {P : Nat} {z : Int32} {A B S : pf_S} (h : Rm P z A S) (e : Aeq A B) : Rm P z B S := by
  obtain ⟨h1, h2, h3, ⟨a1, a2, a3, a4, a5, a6⟩, h5, h6⟩ := h
  obtain ⟨e1, e2⟩ := e
  refine ⟨h1, fun j hj => (h2 j hj).trans (e1 _ _ _ (by omega)), fun j hj => (h3 j hj).trans (e1 _ _ _ (by omega)), ⟨a1.trans (e1 _ _ _ (by omega)), a2.trans (e1 _ _ _ (by omega)), a3.trans (e1 _ _ _ (by omega)), a4.trans (e1 _ _ _ (by omega)), a5.trans (by rw [e1 6 0 6 (by omega)]), a6.trans (by rw [e1 12 0 3 (by omega)])⟩, fun j hj => (h5 j hj).trans (e1 _ _ _ (by omega)), fun k hk => ?_⟩
  obtain ⟨p1, p2, p3, p4, p5, p6, p7, p8⟩ := h6 k hk
  exact ⟨p1.trans (e2 k), p2.trans (e1 _ _ _ (by omega)), p3.trans (e1 _ _ _ (by omega)), p4.trans (e1 _ _ _ (by omega)), p5.trans (e1 _ _ _ (by omega)), fun j hj => (p6 j hj).trans (e1 _ _ _ (by omega)), fun j hj => (p7 j hj).trans (e1 _ _ _ (by omega)), fun j hj => (p8 j hj).trans (e1 _ _ _ (by omega))⟩
/-- kept pages that are there have numbers of their own -/
def Uq (A : pf_S) (P : Nat) : Prop := ∀ i j, 8 ≤ i → i < 8 + P → 8 ≤ j → j < 8 + P → ¬ nb (A 14 i 0) = 0 → ¬ nb (A 14 j 0) = 0 → A 14 i 1 = A 14 j 1 → i = j
def mpN (A : pf_S) (P : Nat) (wt : Int32) (j : Nat) : Option Nat → Option Nat
  | none => if P = 1 ∨ ¬ A 14 (8 + j) 1 = wt then some (8 + j) else none
  | some k => if (P = 1 ∨ ¬ A 14 (8 + j) 1 = wt) ∧ A 14 (8 + j) 4 < A 14 k 4 then some (8 + j) else some k
def mpFrom (A : pf_S) (P : Nat) (wt : Int32) : Nat → Nat → Option Nat → Option Nat
  | 0, _, b => b
  | n + 1, j, b => if nb (A 14 (8 + j) 0) = 0 then some (8 + j) else mpFrom A P wt n (j + 1) (mpN A P wt j b)
theorem mp_free {A : pf_S} {P : Nat} {wt : Int32} : ∀ {n j k : Nat} {b : Option Nat}, freFrom A n j = some k → mpFrom A P wt n j b = some k := by
  intro n
  induction n with
  | zero => intro j k b h; simp [freFrom] at h
  | succ n ih =>
    intro j k b h
    rw [freFrom] at h
    rw [mpFrom]
    split at h
    · next q => rw [if_pos q, h]
    · next q => rw [if_neg q]; exact ih h
theorem mp_old {A : pf_S} {P : Nat} {wt : Int32} (hu : Uq A P) (hall : ∀ k, 8 ≤ k → k < 8 + P → ¬ nb (A 14 k 0) = 0) : ∀ {n j c : Nat} {b : Option Nat}, j + n = P → 1 ≤ j → ((b = some c ∧ (P = 1 ∨ ¬ A 14 c 1 = wt)) ∨ (b = none ∧ P ≠ 1 ∧ A 14 c 1 = wt ∧ ∀ i, i < j → A 14 (8 + i) 1 = wt)) → mpFrom A P wt n j b = some (oldFrom A wt n j c) := by
  intro n
  induction n with
  | zero =>
    intro j c b hj h1 hI
    rcases hI with ⟨rfl, -⟩ | ⟨-, q2, q3, q4⟩
    · rfl
    · have := hu 8 9 (by omega) (by omega) (by omega) (by omega) (hall 8 (by omega) (by omega)) (hall 9 (by omega) (by omega)) ((q4 0 (by omega)).trans (q4 1 (by omega)).symm)
      omega
  | succ n ih =>
    intro j c b hj h1 hI
    rw [mpFrom, oldFrom, if_neg (hall (8 + j) (by omega) (by omega))]
    rcases hI with ⟨rfl, q2⟩ | ⟨rfl, q2, q3, q4⟩
    · have q3 : ¬ A 14 c 1 = wt := by
        rcases q2 with q | q
        · omega
        · exact q
      by_cases hc : ¬ A 14 (8 + j) 1 = wt ∧ A 14 (8 + j) 4 < A 14 c 4
      · rw [if_pos ⟨hc.1, Or.inl hc.2⟩]
        have e : mpN A P wt j (some c) = some (8 + j) := if_pos ⟨Or.inr hc.1, hc.2⟩
        rw [e]
        exact ih (by omega) (by omega) (Or.inl ⟨rfl, Or.inr hc.1⟩)
      · rw [if_neg (by intro q; apply hc; refine ⟨q.1, ?_⟩; rcases q.2 with r | r; exact r; exact absurd r q3)]
        have e : mpN A P wt j (some c) = some c := if_neg (fun q => hc ⟨q.1.elim (fun r => by omega) id, q.2⟩)
        rw [e]
        exact ih (by omega) (by omega) (Or.inl ⟨rfl, Or.inr q3⟩)
    · by_cases hc : ¬ A 14 (8 + j) 1 = wt
      · rw [if_pos ⟨hc, Or.inr q3⟩]
        have e : mpN A P wt j none = some (8 + j) := if_pos (Or.inr hc)
        rw [e]
        exact ih (by omega) (by omega) (Or.inl ⟨rfl, Or.inr hc⟩)
      · rw [if_neg (fun q => hc q.1)]
        have e : mpN A P wt j none = none := if_neg (fun q => q.elim q2 hc)
        rw [e]
        refine ih (by omega) (by omega) (Or.inr ⟨rfl, q2, q3, fun i hi => ?_⟩)
        by_cases hij : i = j
        · subst hij
          exact Classical.not_not.mp hc
        · exact q4 i (by omega)
theorem fre_none {A : pf_S} : ∀ {n j : Nat}, freFrom A n j = none → ∀ k, 8 + j ≤ k → k < 8 + j + n → ¬ nb (A 14 k 0) = 0 := by
  intro n
  induction n with
  | zero => intro j _ k h1 h2; omega
  | succ n ih =>
    intro j h k h1 h2
    rw [freFrom] at h
    split at h
    · cases h
    · next q =>
      by_cases hk : k = 8 + j
      · rw [hk]; exact q
      · exact ih h k (by omega) (by omega)
theorem mp_plc {A : pf_S} {P : Nat} {num wt : Int32} (hu : Uq A P) (hP : 1 ≤ P) (hf : fndF A P num = none) : mpFrom A P wt P 0 none = some (plcF A P num wt) := by
  unfold plcF
  rw [hf]
  cases h2 : freFrom A P 0 with
  | some k => exact mp_free h2
  | none =>
    have hall : ∀ k, 8 ≤ k → k < 8 + P → ¬ nb (A 14 k 0) = 0 := fun k h1 h3 => fre_none h2 k (by omega) (by omega)
    obtain ⟨n, rfl⟩ : ∃ n, P = n + 1 := ⟨P - 1, by omega⟩
    rw [mpFrom, if_neg (hall 8 (by omega) (by omega))]
    show mpFrom A (n + 1) wt n 1 _ = some (oldFrom A wt (n + 1 - 1) 1 8)
    rw [show n + 1 - 1 = n by omega]
    refine mp_old hu hall (by omega) (by omega) ?_
    by_cases hc : n + 1 = 1 ∨ ¬ A 14 8 1 = wt
    · left
      exact ⟨if_pos hc, hc⟩
    · right
      refine ⟨if_neg hc, fun q => hc (Or.inl q), Classical.not_not.mp (fun q => hc (Or.inr q)), fun i hi => ?_⟩
      rw [show i = 0 by omega]
      exact Classical.not_not.mp (fun q => hc (Or.inr q))

set_option maxRecDepth 100000 in
set_option maxHeartbeats 4000000 in
theorem c_Mod_placeFor (w : pf_W) (ok : pf_ok w) (A S0 : pf_S) (z : Int32) (hw : 1 ≤ w.2.2.1 ∧ w.2.2.1 ≤ 4) (num : Int32) (hu : Uq A w.2.2.1) : pm_C w y_Mod_placeFor b_Mod_placeFor 6 (some .int) 1 22 [.ref (w.2.1 20 0), .int num] z (A) S0 (some (.int (nI (plcF A w.2.2.1 num (A 6 0 2))))) z (A) := by
  refine pm_enter (by decide) (Nat.le_of_ble_eq_true rfl) (lv0 := [some (.ref (w.2.1 20 0)), some (.int num), none, none, none, none]) rfl (fun κ S h hR hg => ?_)
  cases hf : fndF A w.2.2.1 num with
  | some k =>
    obtain ⟨f1, f2, -⟩ := fndF_some hf
    have ek : kpV (fndF A w.2.2.1 num) = nI k := by rw [hf]; rfl
    refine pg_aload_n h d_Mod_placeFor_0 rfl ?_
    refine pg_iload_n h d_Mod_placeFor_1 rfl ?_
    refine pm_cV h ok (hR) (hg) d_Mod_placeFor_2 m_Mod_keptAt l_Mod_80 (c_Mod_keptAt w ok A S0 z hw num) rfl rfl rfl (Nat.le_of_ble_eq_true rfl) ⟨(Nat.le_of_ble_eq_true rfl), (Nat.le_of_ble_eq_true rfl)⟩ ⟨Nat.le_refl _, Nat.le_refl _⟩ (fun S2 hR2 hg2 => ?_)
    rw [ek]
    refine pg_istore_n h d_Mod_placeFor_5 (Nat.le_of_ble_eq_true rfl) rfl rfl ?_
    refine pg_iload_n h d_Mod_placeFor_6 rfl ?_
    refine pg_if_lt (tgt := 12) h d_Mod_placeFor_7 rfl (fun e7 => absurd e7 (nI_pos (by omega))) (fun e7 => ?_)
    refine pg_iload_n h d_Mod_placeFor_10 rfl ?_
    exact pm_iret h d_Mod_placeFor_11 rfl (by simp only [plcF, hf]) (hR2) (hg2)
  | none =>
    have ek : kpV (fndF A w.2.2.1 num) = -1 := by rw [hf]; rfl
    have hmp := mp_plc (wt := A 6 0 2) hu hw.1 hf
    have loop : ∀ (n j : Nat) (b : Option Nat) (X : Option Value) (Sx : pf_S) (hRx : Rm w.2.2.1 z A Sx) (hgx : pm_g S0 Sx), j + n = w.2.2.1 → (∀ k, b = some k → 8 ≤ k ∧ k < 8 + j) → mpFrom A w.2.2.1 (A 6 0 2) n j b = some (plcF A w.2.2.1 num (A 6 0 2)) → pg_G κ w.1 6 0 0 (pm_Q κ w (some (.int (nI (plcF A w.2.2.1 num (A 6 0 2))))) z (A) S0) (pf_P w (Sx)) 18 [some (.ref (w.2.1 20 0)), some (.int num), some (.int (-1)), some (.int (kpV b)), some (.int (nI (8 + j))), X] [] := by
      intro n
      induction n with
      | zero =>
        intro j b X Sx hRx hgx hj hb hI
        have hj : j = w.2.2.1 := by omega
        subst hj
        have hI : b = some (plcF A w.2.2.1 num (A 6 0 2)) := hI
        subst hI
        refine pg_iload h d_Mod_placeFor_18 rfl ?_
        refine pg_bipush (v := 8) h d_Mod_placeFor_20 (by decide) ?_
        refine pg_aload_n h d_Mod_placeFor_22 rfl ?_
        refine pf_get h ok d_Mod_placeFor_23 f_Mod_70 (by first | rfl | exact hk | exact hk2 | exact dm12 _ | assumption) rfl rfl ?_
        rw [hRx.1.1]
        refine pg_iadd h d_Mod_placeFor_26 ?_
        rw [show (8 : Int32) + nI w.2.2.1 = nI (8 + w.2.2.1) from nI_add 8 w.2.2.1]
        refine pg_icmp_ge (tgt := 106) h d_Mod_placeFor_27 rfl (fun e27 => ?_) (fun e27 => absurd e27 (fun e => e (Int32.le_refl _)))
        refine pg_iload_n h d_Mod_placeFor_106 rfl ?_
        exact pm_iret h d_Mod_placeFor_107 rfl rfl (hRx) (hgx)
      | succ n ih0 =>
        intro j b X Sx hRx hgx hj hb hI
        have ih := fun (j : Nat) (b : Option Nat) (X : Option Value) => ih0 j b X Sx hRx hgx
        have hj2 : j < w.2.2.1 := by omega
        have hp := hRx.2.2.2.2.2 (8 + j) (Or.inl (by omega))
        have eP : (nI w.2.2.1 = 1) = (w.2.2.1 = 1) := propext (show nI w.2.2.1 = nI 1 ↔ _ from nI_eq (by omega) (by decide))
        cases b with
        | none =>
          refine pg_iload h d_Mod_placeFor_18 rfl ?_
          refine pg_bipush (v := 8) h d_Mod_placeFor_20 (by decide) ?_
          refine pg_aload_n h d_Mod_placeFor_22 rfl ?_
          refine pf_get h ok d_Mod_placeFor_23 f_Mod_70 (by first | rfl | exact hk | exact hk2 | exact dm12 _ | assumption) rfl rfl ?_
          rw [hRx.1.1]
          refine pg_iadd h d_Mod_placeFor_26 ?_
          rw [show (8 : Int32) + nI w.2.2.1 = nI (8 + w.2.2.1) from nI_add 8 w.2.2.1]
          refine pg_icmp_ge (tgt := 106) h d_Mod_placeFor_27 rfl (fun e27 => absurd e27 (nI_ge (show 8 + j < 8 + w.2.2.1 by omega) (by omega))) (fun e27 => ?_)
          refine pg_aload_n h d_Mod_placeFor_30 rfl ?_
          refine pf_get h ok d_Mod_placeFor_31 f_Mod_7 (by first | rfl | exact hk | exact hk2 | exact dm12 _ | assumption) rfl rfl ?_
          refine pg_iload h d_Mod_placeFor_34 rfl ?_
          refine pf_zld h ok d_Mod_placeFor_36 (by first | rfl | exact hk | exact hk2 | exact dm12 _ | assumption) rfl (pg_ixN rfl (show 8 + j < 13 by omega) (by decide)) ?_
          rw [hp.1]
          refine pg_if_ne (tgt := 43) h d_Mod_placeFor_37 rfl (fun e37 => ?_) (fun e37 => ?_)
          · skip
            refine pg_aload_n h d_Mod_placeFor_43 rfl ?_
            refine pf_get h ok d_Mod_placeFor_44 f_Mod_70 (by first | rfl | exact hk | exact hk2 | exact dm12 _ | assumption) rfl rfl ?_
            refine pg_iconst (v := 1) h d_Mod_placeFor_47 (by decide) ?_
            rw [hRx.1.1]
            refine pg_icmp_eq (tgt := 65) h d_Mod_placeFor_48 rfl (fun e48 => ?_) (fun e48 => ?_)
            · skip
              refine pg_iconst (v := 1) h d_Mod_placeFor_65 (by decide) ?_
              refine pg_goto (tgt := 70) h d_Mod_placeFor_66 rfl ?_
              refine pg_istore h d_Mod_placeFor_70 (Nat.le_of_ble_eq_true rfl) rfl rfl ?_
              refine pg_iload h d_Mod_placeFor_72 rfl ?_
              refine pg_if_eq (tgt := 100) h d_Mod_placeFor_74 rfl (fun e74 => ?_) (fun e74 => ?_)
              · skip
                refine pg_iinc (w := 1) h d_Mod_placeFor_100 rfl (by decide) (Nat.le_of_ble_eq_true rfl) rfl rfl ?_
                refine pg_goto (tgt := 18) h d_Mod_placeFor_103 rfl ?_
                first
                  | exact absurd rfl e74
                  | exact absurd e74 (by decide)
                  | (rw [← nI_succ (8 + j)]; exact ih (j + 1) (some (8 + j)) _ (by omega) (fun k hk => by cases hk; omega) (by rw [mpFrom, if_neg e37, show mpN A w.2.2.1 (A 6 0 2) j (none) = some (8 + j) from if_pos (by first | exact Or.inl (by rw [eP] at e48; exact e48) | exact Or.inr e62)] at hI; exact hI))
                  | (rw [← nI_succ (8 + j)]; exact ih (j + 1) (none) _ (by omega) (fun k hk => by have := hb k hk; omega) (by rw [mpFrom, if_neg e37, show mpN A w.2.2.1 (A 6 0 2) j (none) = (none) from if_neg (fun q => q.elim (fun r => e48 (by rw [eP]; exact r)) (fun r => r e62))] at hI; exact hI))
              refine pg_iload_n h d_Mod_placeFor_77 rfl ?_
              refine pg_if_lt (tgt := 97) h d_Mod_placeFor_78 rfl (fun e78 => ?_) (fun e78 => absurd e78 (fun q => q (by decide)))
              refine pg_iload h d_Mod_placeFor_97 rfl ?_
              refine pg_istore_n h d_Mod_placeFor_99 (Nat.le_of_ble_eq_true rfl) rfl rfl ?_
              refine pg_iinc (w := 1) h d_Mod_placeFor_100 rfl (by decide) (Nat.le_of_ble_eq_true rfl) rfl rfl ?_
              refine pg_goto (tgt := 18) h d_Mod_placeFor_103 rfl ?_
              first
                | exact absurd rfl e74
                | exact absurd e74 (by decide)
                | (rw [← nI_succ (8 + j)]; exact ih (j + 1) (some (8 + j)) _ (by omega) (fun k hk => by cases hk; omega) (by rw [mpFrom, if_neg e37, show mpN A w.2.2.1 (A 6 0 2) j (none) = some (8 + j) from if_pos (by first | exact Or.inl (by rw [eP] at e48; exact e48) | exact Or.inr e62)] at hI; exact hI))
                | (rw [← nI_succ (8 + j)]; exact ih (j + 1) (none) _ (by omega) (fun k hk => by have := hb k hk; omega) (by rw [mpFrom, if_neg e37, show mpN A w.2.2.1 (A 6 0 2) j (none) = (none) from if_neg (fun q => q.elim (fun r => e48 (by rw [eP]; exact r)) (fun r => r e62))] at hI; exact hI))
            refine pg_aload_n h d_Mod_placeFor_51 rfl ?_
            refine pf_get h ok d_Mod_placeFor_52 f_Mod_13 (by first | rfl | exact hk | exact hk2 | exact dm12 _ | assumption) rfl rfl ?_
            refine pg_iload h d_Mod_placeFor_55 rfl ?_
            refine pf_ild h ok d_Mod_placeFor_57 (by first | rfl | exact hk | exact hk2 | exact dm12 _ | assumption) rfl (pg_ixN rfl (show 8 + j < 13 by omega) (by decide)) ?_
            refine pg_aload_n h d_Mod_placeFor_58 rfl ?_
            refine pf_get h ok d_Mod_placeFor_59 f_Mod_44 (by first | rfl | exact hk | exact hk2 | exact dm12 _ | assumption) rfl rfl ?_
            rw [hp.2.1, hRx.2.2.2.1.1]
            refine pg_icmp_eq (tgt := 69) h d_Mod_placeFor_62 rfl (fun e62 => ?_) (fun e62 => ?_)
            · skip
              refine pg_iconst (v := 0) h d_Mod_placeFor_69 (by decide) ?_
              refine pg_istore h d_Mod_placeFor_70 (Nat.le_of_ble_eq_true rfl) rfl rfl ?_
              refine pg_iload h d_Mod_placeFor_72 rfl ?_
              refine pg_if_eq (tgt := 100) h d_Mod_placeFor_74 rfl (fun e74 => ?_) (fun e74 => ?_)
              · skip
                refine pg_iinc (w := 1) h d_Mod_placeFor_100 rfl (by decide) (Nat.le_of_ble_eq_true rfl) rfl rfl ?_
                refine pg_goto (tgt := 18) h d_Mod_placeFor_103 rfl ?_
                first
                  | exact absurd rfl e74
                  | exact absurd e74 (by decide)
                  | (rw [← nI_succ (8 + j)]; exact ih (j + 1) (some (8 + j)) _ (by omega) (fun k hk => by cases hk; omega) (by rw [mpFrom, if_neg e37, show mpN A w.2.2.1 (A 6 0 2) j (none) = some (8 + j) from if_pos (by first | exact Or.inl (by rw [eP] at e48; exact e48) | exact Or.inr e62)] at hI; exact hI))
                  | (rw [← nI_succ (8 + j)]; exact ih (j + 1) (none) _ (by omega) (fun k hk => by have := hb k hk; omega) (by rw [mpFrom, if_neg e37, show mpN A w.2.2.1 (A 6 0 2) j (none) = (none) from if_neg (fun q => q.elim (fun r => e48 (by rw [eP]; exact r)) (fun r => r e62))] at hI; exact hI))
              refine pg_iload_n h d_Mod_placeFor_77 rfl ?_
              refine pg_if_lt (tgt := 97) h d_Mod_placeFor_78 rfl (fun e78 => ?_) (fun e78 => absurd e78 (fun q => q (by decide)))
              refine pg_iload h d_Mod_placeFor_97 rfl ?_
              refine pg_istore_n h d_Mod_placeFor_99 (Nat.le_of_ble_eq_true rfl) rfl rfl ?_
              refine pg_iinc (w := 1) h d_Mod_placeFor_100 rfl (by decide) (Nat.le_of_ble_eq_true rfl) rfl rfl ?_
              refine pg_goto (tgt := 18) h d_Mod_placeFor_103 rfl ?_
              first
                | exact absurd rfl e74
                | exact absurd e74 (by decide)
                | (rw [← nI_succ (8 + j)]; exact ih (j + 1) (some (8 + j)) _ (by omega) (fun k hk => by cases hk; omega) (by rw [mpFrom, if_neg e37, show mpN A w.2.2.1 (A 6 0 2) j (none) = some (8 + j) from if_pos (by first | exact Or.inl (by rw [eP] at e48; exact e48) | exact Or.inr e62)] at hI; exact hI))
                | (rw [← nI_succ (8 + j)]; exact ih (j + 1) (none) _ (by omega) (fun k hk => by have := hb k hk; omega) (by rw [mpFrom, if_neg e37, show mpN A w.2.2.1 (A 6 0 2) j (none) = (none) from if_neg (fun q => q.elim (fun r => e48 (by rw [eP]; exact r)) (fun r => r e62))] at hI; exact hI))
            refine pg_iconst (v := 1) h d_Mod_placeFor_65 (by decide) ?_
            refine pg_goto (tgt := 70) h d_Mod_placeFor_66 rfl ?_
            refine pg_istore h d_Mod_placeFor_70 (Nat.le_of_ble_eq_true rfl) rfl rfl ?_
            refine pg_iload h d_Mod_placeFor_72 rfl ?_
            refine pg_if_eq (tgt := 100) h d_Mod_placeFor_74 rfl (fun e74 => ?_) (fun e74 => ?_)
            · skip
              refine pg_iinc (w := 1) h d_Mod_placeFor_100 rfl (by decide) (Nat.le_of_ble_eq_true rfl) rfl rfl ?_
              refine pg_goto (tgt := 18) h d_Mod_placeFor_103 rfl ?_
              first
                | exact absurd rfl e74
                | exact absurd e74 (by decide)
                | (rw [← nI_succ (8 + j)]; exact ih (j + 1) (some (8 + j)) _ (by omega) (fun k hk => by cases hk; omega) (by rw [mpFrom, if_neg e37, show mpN A w.2.2.1 (A 6 0 2) j (none) = some (8 + j) from if_pos (by first | exact Or.inl (by rw [eP] at e48; exact e48) | exact Or.inr e62)] at hI; exact hI))
                | (rw [← nI_succ (8 + j)]; exact ih (j + 1) (none) _ (by omega) (fun k hk => by have := hb k hk; omega) (by rw [mpFrom, if_neg e37, show mpN A w.2.2.1 (A 6 0 2) j (none) = (none) from if_neg (fun q => q.elim (fun r => e48 (by rw [eP]; exact r)) (fun r => r e62))] at hI; exact hI))
            refine pg_iload_n h d_Mod_placeFor_77 rfl ?_
            refine pg_if_lt (tgt := 97) h d_Mod_placeFor_78 rfl (fun e78 => ?_) (fun e78 => absurd e78 (fun q => q (by decide)))
            refine pg_iload h d_Mod_placeFor_97 rfl ?_
            refine pg_istore_n h d_Mod_placeFor_99 (Nat.le_of_ble_eq_true rfl) rfl rfl ?_
            refine pg_iinc (w := 1) h d_Mod_placeFor_100 rfl (by decide) (Nat.le_of_ble_eq_true rfl) rfl rfl ?_
            refine pg_goto (tgt := 18) h d_Mod_placeFor_103 rfl ?_
            first
              | exact absurd rfl e74
              | exact absurd e74 (by decide)
              | (rw [← nI_succ (8 + j)]; exact ih (j + 1) (some (8 + j)) _ (by omega) (fun k hk => by cases hk; omega) (by rw [mpFrom, if_neg e37, show mpN A w.2.2.1 (A 6 0 2) j (none) = some (8 + j) from if_pos (by first | exact Or.inl (by rw [eP] at e48; exact e48) | exact Or.inr e62)] at hI; exact hI))
              | (rw [← nI_succ (8 + j)]; exact ih (j + 1) (none) _ (by omega) (fun k hk => by have := hb k hk; omega) (by rw [mpFrom, if_neg e37, show mpN A w.2.2.1 (A 6 0 2) j (none) = (none) from if_neg (fun q => q.elim (fun r => e48 (by rw [eP]; exact r)) (fun r => r e62))] at hI; exact hI))
          refine pg_iload h d_Mod_placeFor_40 rfl ?_
          exact pm_iret h d_Mod_placeFor_42 rfl (by rw [mpFrom, if_pos e37] at hI; rw [← Option.some.inj hI]) (hRx) (hgx)
        | some k =>
          have hb2 := hb k rfl
          have hpk := hRx.2.2.2.2.2 k (Or.inl (by omega))
          refine pg_iload h d_Mod_placeFor_18 rfl ?_
          refine pg_bipush (v := 8) h d_Mod_placeFor_20 (by decide) ?_
          refine pg_aload_n h d_Mod_placeFor_22 rfl ?_
          refine pf_get h ok d_Mod_placeFor_23 f_Mod_70 (by first | rfl | exact hk | exact hk2 | exact dm12 _ | assumption) rfl rfl ?_
          rw [hRx.1.1]
          refine pg_iadd h d_Mod_placeFor_26 ?_
          rw [show (8 : Int32) + nI w.2.2.1 = nI (8 + w.2.2.1) from nI_add 8 w.2.2.1]
          refine pg_icmp_ge (tgt := 106) h d_Mod_placeFor_27 rfl (fun e27 => absurd e27 (nI_ge (show 8 + j < 8 + w.2.2.1 by omega) (by omega))) (fun e27 => ?_)
          refine pg_aload_n h d_Mod_placeFor_30 rfl ?_
          refine pf_get h ok d_Mod_placeFor_31 f_Mod_7 (by first | rfl | exact hk | exact hk2 | exact dm12 _ | assumption) rfl rfl ?_
          refine pg_iload h d_Mod_placeFor_34 rfl ?_
          refine pf_zld h ok d_Mod_placeFor_36 (by first | rfl | exact hk | exact hk2 | exact dm12 _ | assumption) rfl (pg_ixN rfl (show 8 + j < 13 by omega) (by decide)) ?_
          rw [hp.1]
          refine pg_if_ne (tgt := 43) h d_Mod_placeFor_37 rfl (fun e37 => ?_) (fun e37 => ?_)
          · skip
            refine pg_aload_n h d_Mod_placeFor_43 rfl ?_
            refine pf_get h ok d_Mod_placeFor_44 f_Mod_70 (by first | rfl | exact hk | exact hk2 | exact dm12 _ | assumption) rfl rfl ?_
            refine pg_iconst (v := 1) h d_Mod_placeFor_47 (by decide) ?_
            rw [hRx.1.1]
            refine pg_icmp_eq (tgt := 65) h d_Mod_placeFor_48 rfl (fun e48 => ?_) (fun e48 => ?_)
            · skip
              refine pg_iconst (v := 1) h d_Mod_placeFor_65 (by decide) ?_
              refine pg_goto (tgt := 70) h d_Mod_placeFor_66 rfl ?_
              refine pg_istore h d_Mod_placeFor_70 (Nat.le_of_ble_eq_true rfl) rfl rfl ?_
              refine pg_iload h d_Mod_placeFor_72 rfl ?_
              refine pg_if_eq (tgt := 100) h d_Mod_placeFor_74 rfl (fun e74 => ?_) (fun e74 => ?_)
              · skip
                refine pg_iinc (w := 1) h d_Mod_placeFor_100 rfl (by decide) (Nat.le_of_ble_eq_true rfl) rfl rfl ?_
                refine pg_goto (tgt := 18) h d_Mod_placeFor_103 rfl ?_
                first
                  | exact absurd rfl e74
                  | exact absurd e74 (by decide)
                  | (rw [← nI_succ (8 + j)]; exact ih (j + 1) (some (8 + j)) _ (by omega) (fun k hk => by cases hk; omega) (by rw [mpFrom, if_neg e37, show mpN A w.2.2.1 (A 6 0 2) j (some k) = some (8 + j) from if_pos ⟨by first | exact Or.inl (by rw [eP] at e48; exact e48) | exact Or.inr e62, Int32.not_le.mp e94⟩] at hI; exact hI))
                  | (rw [← nI_succ (8 + j)]; exact ih (j + 1) (some k) _ (by omega) (fun k hk => by have := hb k hk; omega) (by rw [mpFrom, if_neg e37, show mpN A w.2.2.1 (A 6 0 2) j (some k) = (some k) from if_neg (fun q => by first | exact absurd q.2 (Int32.not_lt.mpr e94) | exact q.1.elim (fun r => e48 (by rw [eP]; exact r)) (fun r => r e62))] at hI; exact hI))
              refine pg_iload_n h d_Mod_placeFor_77 rfl ?_
              refine pg_if_lt (tgt := 97) h d_Mod_placeFor_78 rfl (fun e78 => absurd e78 (nI_pos (by omega))) (fun e78 => ?_)
              refine pg_aload_n h d_Mod_placeFor_81 rfl ?_
              refine pf_get h ok d_Mod_placeFor_82 f_Mod_23 (by first | rfl | exact hk | exact hk2 | exact dm12 _ | assumption) rfl rfl ?_
              refine pg_iload h d_Mod_placeFor_85 rfl ?_
              refine pf_ild h ok d_Mod_placeFor_87 (by first | rfl | exact hk | exact hk2 | exact dm12 _ | assumption) rfl (pg_ixN rfl (show 8 + j < 13 by omega) (by decide)) ?_
              refine pg_aload_n h d_Mod_placeFor_88 rfl ?_
              refine pf_get h ok d_Mod_placeFor_89 f_Mod_23 (by first | rfl | exact hk | exact hk2 | exact dm12 _ | assumption) rfl rfl ?_
              refine pg_iload_n h d_Mod_placeFor_92 rfl ?_
              refine pf_ild h ok d_Mod_placeFor_93 (by first | rfl | exact hk | exact hk2 | exact dm12 _ | assumption) rfl (pg_ixN rfl (show k < 13 by omega) (by decide)) ?_
              rw [hp.2.2.2.2.1, hpk.2.2.2.2.1]
              refine pg_icmp_ge (tgt := 100) h d_Mod_placeFor_94 rfl (fun e94 => ?_) (fun e94 => ?_)
              · skip
                refine pg_iinc (w := 1) h d_Mod_placeFor_100 rfl (by decide) (Nat.le_of_ble_eq_true rfl) rfl rfl ?_
                refine pg_goto (tgt := 18) h d_Mod_placeFor_103 rfl ?_
                first
                  | exact absurd rfl e74
                  | exact absurd e74 (by decide)
                  | (rw [← nI_succ (8 + j)]; exact ih (j + 1) (some (8 + j)) _ (by omega) (fun k hk => by cases hk; omega) (by rw [mpFrom, if_neg e37, show mpN A w.2.2.1 (A 6 0 2) j (some k) = some (8 + j) from if_pos ⟨by first | exact Or.inl (by rw [eP] at e48; exact e48) | exact Or.inr e62, Int32.not_le.mp e94⟩] at hI; exact hI))
                  | (rw [← nI_succ (8 + j)]; exact ih (j + 1) (some k) _ (by omega) (fun k hk => by have := hb k hk; omega) (by rw [mpFrom, if_neg e37, show mpN A w.2.2.1 (A 6 0 2) j (some k) = (some k) from if_neg (fun q => by first | exact absurd q.2 (Int32.not_lt.mpr e94) | exact q.1.elim (fun r => e48 (by rw [eP]; exact r)) (fun r => r e62))] at hI; exact hI))
              refine pg_iload h d_Mod_placeFor_97 rfl ?_
              refine pg_istore_n h d_Mod_placeFor_99 (Nat.le_of_ble_eq_true rfl) rfl rfl ?_
              refine pg_iinc (w := 1) h d_Mod_placeFor_100 rfl (by decide) (Nat.le_of_ble_eq_true rfl) rfl rfl ?_
              refine pg_goto (tgt := 18) h d_Mod_placeFor_103 rfl ?_
              first
                | exact absurd rfl e74
                | exact absurd e74 (by decide)
                | (rw [← nI_succ (8 + j)]; exact ih (j + 1) (some (8 + j)) _ (by omega) (fun k hk => by cases hk; omega) (by rw [mpFrom, if_neg e37, show mpN A w.2.2.1 (A 6 0 2) j (some k) = some (8 + j) from if_pos ⟨by first | exact Or.inl (by rw [eP] at e48; exact e48) | exact Or.inr e62, Int32.not_le.mp e94⟩] at hI; exact hI))
                | (rw [← nI_succ (8 + j)]; exact ih (j + 1) (some k) _ (by omega) (fun k hk => by have := hb k hk; omega) (by rw [mpFrom, if_neg e37, show mpN A w.2.2.1 (A 6 0 2) j (some k) = (some k) from if_neg (fun q => by first | exact absurd q.2 (Int32.not_lt.mpr e94) | exact q.1.elim (fun r => e48 (by rw [eP]; exact r)) (fun r => r e62))] at hI; exact hI))
            refine pg_aload_n h d_Mod_placeFor_51 rfl ?_
            refine pf_get h ok d_Mod_placeFor_52 f_Mod_13 (by first | rfl | exact hk | exact hk2 | exact dm12 _ | assumption) rfl rfl ?_
            refine pg_iload h d_Mod_placeFor_55 rfl ?_
            refine pf_ild h ok d_Mod_placeFor_57 (by first | rfl | exact hk | exact hk2 | exact dm12 _ | assumption) rfl (pg_ixN rfl (show 8 + j < 13 by omega) (by decide)) ?_
            refine pg_aload_n h d_Mod_placeFor_58 rfl ?_
            refine pf_get h ok d_Mod_placeFor_59 f_Mod_44 (by first | rfl | exact hk | exact hk2 | exact dm12 _ | assumption) rfl rfl ?_
            rw [hp.2.1, hRx.2.2.2.1.1]
            refine pg_icmp_eq (tgt := 69) h d_Mod_placeFor_62 rfl (fun e62 => ?_) (fun e62 => ?_)
            · skip
              refine pg_iconst (v := 0) h d_Mod_placeFor_69 (by decide) ?_
              refine pg_istore h d_Mod_placeFor_70 (Nat.le_of_ble_eq_true rfl) rfl rfl ?_
              refine pg_iload h d_Mod_placeFor_72 rfl ?_
              refine pg_if_eq (tgt := 100) h d_Mod_placeFor_74 rfl (fun e74 => ?_) (fun e74 => ?_)
              · skip
                refine pg_iinc (w := 1) h d_Mod_placeFor_100 rfl (by decide) (Nat.le_of_ble_eq_true rfl) rfl rfl ?_
                refine pg_goto (tgt := 18) h d_Mod_placeFor_103 rfl ?_
                first
                  | exact absurd rfl e74
                  | exact absurd e74 (by decide)
                  | (rw [← nI_succ (8 + j)]; exact ih (j + 1) (some (8 + j)) _ (by omega) (fun k hk => by cases hk; omega) (by rw [mpFrom, if_neg e37, show mpN A w.2.2.1 (A 6 0 2) j (some k) = some (8 + j) from if_pos ⟨by first | exact Or.inl (by rw [eP] at e48; exact e48) | exact Or.inr e62, Int32.not_le.mp e94⟩] at hI; exact hI))
                  | (rw [← nI_succ (8 + j)]; exact ih (j + 1) (some k) _ (by omega) (fun k hk => by have := hb k hk; omega) (by rw [mpFrom, if_neg e37, show mpN A w.2.2.1 (A 6 0 2) j (some k) = (some k) from if_neg (fun q => by first | exact absurd q.2 (Int32.not_lt.mpr e94) | exact q.1.elim (fun r => e48 (by rw [eP]; exact r)) (fun r => r e62))] at hI; exact hI))
              refine pg_iload_n h d_Mod_placeFor_77 rfl ?_
              refine pg_if_lt (tgt := 97) h d_Mod_placeFor_78 rfl (fun e78 => absurd e78 (nI_pos (by omega))) (fun e78 => ?_)
              refine pg_aload_n h d_Mod_placeFor_81 rfl ?_
              refine pf_get h ok d_Mod_placeFor_82 f_Mod_23 (by first | rfl | exact hk | exact hk2 | exact dm12 _ | assumption) rfl rfl ?_
              refine pg_iload h d_Mod_placeFor_85 rfl ?_
              refine pf_ild h ok d_Mod_placeFor_87 (by first | rfl | exact hk | exact hk2 | exact dm12 _ | assumption) rfl (pg_ixN rfl (show 8 + j < 13 by omega) (by decide)) ?_
              refine pg_aload_n h d_Mod_placeFor_88 rfl ?_
              refine pf_get h ok d_Mod_placeFor_89 f_Mod_23 (by first | rfl | exact hk | exact hk2 | exact dm12 _ | assumption) rfl rfl ?_
              refine pg_iload_n h d_Mod_placeFor_92 rfl ?_
              refine pf_ild h ok d_Mod_placeFor_93 (by first | rfl | exact hk | exact hk2 | exact dm12 _ | assumption) rfl (pg_ixN rfl (show k < 13 by omega) (by decide)) ?_
              rw [hp.2.2.2.2.1, hpk.2.2.2.2.1]
              refine pg_icmp_ge (tgt := 100) h d_Mod_placeFor_94 rfl (fun e94 => ?_) (fun e94 => ?_)
              · skip
                refine pg_iinc (w := 1) h d_Mod_placeFor_100 rfl (by decide) (Nat.le_of_ble_eq_true rfl) rfl rfl ?_
                refine pg_goto (tgt := 18) h d_Mod_placeFor_103 rfl ?_
                first
                  | exact absurd rfl e74
                  | exact absurd e74 (by decide)
                  | (rw [← nI_succ (8 + j)]; exact ih (j + 1) (some (8 + j)) _ (by omega) (fun k hk => by cases hk; omega) (by rw [mpFrom, if_neg e37, show mpN A w.2.2.1 (A 6 0 2) j (some k) = some (8 + j) from if_pos ⟨by first | exact Or.inl (by rw [eP] at e48; exact e48) | exact Or.inr e62, Int32.not_le.mp e94⟩] at hI; exact hI))
                  | (rw [← nI_succ (8 + j)]; exact ih (j + 1) (some k) _ (by omega) (fun k hk => by have := hb k hk; omega) (by rw [mpFrom, if_neg e37, show mpN A w.2.2.1 (A 6 0 2) j (some k) = (some k) from if_neg (fun q => by first | exact absurd q.2 (Int32.not_lt.mpr e94) | exact q.1.elim (fun r => e48 (by rw [eP]; exact r)) (fun r => r e62))] at hI; exact hI))
              refine pg_iload h d_Mod_placeFor_97 rfl ?_
              refine pg_istore_n h d_Mod_placeFor_99 (Nat.le_of_ble_eq_true rfl) rfl rfl ?_
              refine pg_iinc (w := 1) h d_Mod_placeFor_100 rfl (by decide) (Nat.le_of_ble_eq_true rfl) rfl rfl ?_
              refine pg_goto (tgt := 18) h d_Mod_placeFor_103 rfl ?_
              first
                | exact absurd rfl e74
                | exact absurd e74 (by decide)
                | (rw [← nI_succ (8 + j)]; exact ih (j + 1) (some (8 + j)) _ (by omega) (fun k hk => by cases hk; omega) (by rw [mpFrom, if_neg e37, show mpN A w.2.2.1 (A 6 0 2) j (some k) = some (8 + j) from if_pos ⟨by first | exact Or.inl (by rw [eP] at e48; exact e48) | exact Or.inr e62, Int32.not_le.mp e94⟩] at hI; exact hI))
                | (rw [← nI_succ (8 + j)]; exact ih (j + 1) (some k) _ (by omega) (fun k hk => by have := hb k hk; omega) (by rw [mpFrom, if_neg e37, show mpN A w.2.2.1 (A 6 0 2) j (some k) = (some k) from if_neg (fun q => by first | exact absurd q.2 (Int32.not_lt.mpr e94) | exact q.1.elim (fun r => e48 (by rw [eP]; exact r)) (fun r => r e62))] at hI; exact hI))
            refine pg_iconst (v := 1) h d_Mod_placeFor_65 (by decide) ?_
            refine pg_goto (tgt := 70) h d_Mod_placeFor_66 rfl ?_
            refine pg_istore h d_Mod_placeFor_70 (Nat.le_of_ble_eq_true rfl) rfl rfl ?_
            refine pg_iload h d_Mod_placeFor_72 rfl ?_
            refine pg_if_eq (tgt := 100) h d_Mod_placeFor_74 rfl (fun e74 => ?_) (fun e74 => ?_)
            · skip
              refine pg_iinc (w := 1) h d_Mod_placeFor_100 rfl (by decide) (Nat.le_of_ble_eq_true rfl) rfl rfl ?_
              refine pg_goto (tgt := 18) h d_Mod_placeFor_103 rfl ?_
              first
                | exact absurd rfl e74
                | exact absurd e74 (by decide)
                | (rw [← nI_succ (8 + j)]; exact ih (j + 1) (some (8 + j)) _ (by omega) (fun k hk => by cases hk; omega) (by rw [mpFrom, if_neg e37, show mpN A w.2.2.1 (A 6 0 2) j (some k) = some (8 + j) from if_pos ⟨by first | exact Or.inl (by rw [eP] at e48; exact e48) | exact Or.inr e62, Int32.not_le.mp e94⟩] at hI; exact hI))
                | (rw [← nI_succ (8 + j)]; exact ih (j + 1) (some k) _ (by omega) (fun k hk => by have := hb k hk; omega) (by rw [mpFrom, if_neg e37, show mpN A w.2.2.1 (A 6 0 2) j (some k) = (some k) from if_neg (fun q => by first | exact absurd q.2 (Int32.not_lt.mpr e94) | exact q.1.elim (fun r => e48 (by rw [eP]; exact r)) (fun r => r e62))] at hI; exact hI))
            refine pg_iload_n h d_Mod_placeFor_77 rfl ?_
            refine pg_if_lt (tgt := 97) h d_Mod_placeFor_78 rfl (fun e78 => absurd e78 (nI_pos (by omega))) (fun e78 => ?_)
            refine pg_aload_n h d_Mod_placeFor_81 rfl ?_
            refine pf_get h ok d_Mod_placeFor_82 f_Mod_23 (by first | rfl | exact hk | exact hk2 | exact dm12 _ | assumption) rfl rfl ?_
            refine pg_iload h d_Mod_placeFor_85 rfl ?_
            refine pf_ild h ok d_Mod_placeFor_87 (by first | rfl | exact hk | exact hk2 | exact dm12 _ | assumption) rfl (pg_ixN rfl (show 8 + j < 13 by omega) (by decide)) ?_
            refine pg_aload_n h d_Mod_placeFor_88 rfl ?_
            refine pf_get h ok d_Mod_placeFor_89 f_Mod_23 (by first | rfl | exact hk | exact hk2 | exact dm12 _ | assumption) rfl rfl ?_
            refine pg_iload_n h d_Mod_placeFor_92 rfl ?_
            refine pf_ild h ok d_Mod_placeFor_93 (by first | rfl | exact hk | exact hk2 | exact dm12 _ | assumption) rfl (pg_ixN rfl (show k < 13 by omega) (by decide)) ?_
            rw [hp.2.2.2.2.1, hpk.2.2.2.2.1]
            refine pg_icmp_ge (tgt := 100) h d_Mod_placeFor_94 rfl (fun e94 => ?_) (fun e94 => ?_)
            · skip
              refine pg_iinc (w := 1) h d_Mod_placeFor_100 rfl (by decide) (Nat.le_of_ble_eq_true rfl) rfl rfl ?_
              refine pg_goto (tgt := 18) h d_Mod_placeFor_103 rfl ?_
              first
                | exact absurd rfl e74
                | exact absurd e74 (by decide)
                | (rw [← nI_succ (8 + j)]; exact ih (j + 1) (some (8 + j)) _ (by omega) (fun k hk => by cases hk; omega) (by rw [mpFrom, if_neg e37, show mpN A w.2.2.1 (A 6 0 2) j (some k) = some (8 + j) from if_pos ⟨by first | exact Or.inl (by rw [eP] at e48; exact e48) | exact Or.inr e62, Int32.not_le.mp e94⟩] at hI; exact hI))
                | (rw [← nI_succ (8 + j)]; exact ih (j + 1) (some k) _ (by omega) (fun k hk => by have := hb k hk; omega) (by rw [mpFrom, if_neg e37, show mpN A w.2.2.1 (A 6 0 2) j (some k) = (some k) from if_neg (fun q => by first | exact absurd q.2 (Int32.not_lt.mpr e94) | exact q.1.elim (fun r => e48 (by rw [eP]; exact r)) (fun r => r e62))] at hI; exact hI))
            refine pg_iload h d_Mod_placeFor_97 rfl ?_
            refine pg_istore_n h d_Mod_placeFor_99 (Nat.le_of_ble_eq_true rfl) rfl rfl ?_
            refine pg_iinc (w := 1) h d_Mod_placeFor_100 rfl (by decide) (Nat.le_of_ble_eq_true rfl) rfl rfl ?_
            refine pg_goto (tgt := 18) h d_Mod_placeFor_103 rfl ?_
            first
              | exact absurd rfl e74
              | exact absurd e74 (by decide)
              | (rw [← nI_succ (8 + j)]; exact ih (j + 1) (some (8 + j)) _ (by omega) (fun k hk => by cases hk; omega) (by rw [mpFrom, if_neg e37, show mpN A w.2.2.1 (A 6 0 2) j (some k) = some (8 + j) from if_pos ⟨by first | exact Or.inl (by rw [eP] at e48; exact e48) | exact Or.inr e62, Int32.not_le.mp e94⟩] at hI; exact hI))
              | (rw [← nI_succ (8 + j)]; exact ih (j + 1) (some k) _ (by omega) (fun k hk => by have := hb k hk; omega) (by rw [mpFrom, if_neg e37, show mpN A w.2.2.1 (A 6 0 2) j (some k) = (some k) from if_neg (fun q => by first | exact absurd q.2 (Int32.not_lt.mpr e94) | exact q.1.elim (fun r => e48 (by rw [eP]; exact r)) (fun r => r e62))] at hI; exact hI))
          refine pg_iload h d_Mod_placeFor_40 rfl ?_
          exact pm_iret h d_Mod_placeFor_42 rfl (by rw [mpFrom, if_pos e37] at hI; rw [← Option.some.inj hI]) (hRx) (hgx)
    refine pg_aload_n h d_Mod_placeFor_0 rfl ?_
    refine pg_iload_n h d_Mod_placeFor_1 rfl ?_
    refine pm_cV h ok (hR) (hg) d_Mod_placeFor_2 m_Mod_keptAt l_Mod_80 (c_Mod_keptAt w ok A S0 z hw num) rfl rfl rfl (Nat.le_of_ble_eq_true rfl) ⟨(Nat.le_of_ble_eq_true rfl), (Nat.le_of_ble_eq_true rfl)⟩ ⟨Nat.le_refl _, Nat.le_refl _⟩ (fun S2 hR2 hg2 => ?_)
    rw [ek]
    refine pg_istore_n h d_Mod_placeFor_5 (Nat.le_of_ble_eq_true rfl) rfl rfl ?_
    refine pg_iload_n h d_Mod_placeFor_6 rfl ?_
    refine pg_if_lt (tgt := 12) h d_Mod_placeFor_7 rfl (fun e7 => ?_) (fun e7 => absurd e7 (fun q => q (by decide)))
    refine pg_iconst (v := (-1)) h d_Mod_placeFor_12 (by decide) ?_
    refine pg_istore_n h d_Mod_placeFor_13 (Nat.le_of_ble_eq_true rfl) rfl rfl ?_
    refine pg_bipush (v := 8) h d_Mod_placeFor_14 (by decide) ?_
    refine pg_istore h d_Mod_placeFor_16 (Nat.le_of_ble_eq_true rfl) rfl rfl ?_
    exact loop w.2.2.1 0 none none S2 hR2 hg2 (by omega) (fun k hk => by cases hk) hmp
