/-! The kinds from 18 on are not touched by the class's own functions. -/
theorem tlF_H (k r : Nat) (S : pf_S) {a : Nat} (h : 18 ≤ a) : ∀ c, tlF k r S c a = S a := by
  intro c
  induction c with
  | zero => rfl
  | succ c ih =>
    rw [tlF, tlS]
    split
    · rw [letT_K _ _ (by omega), ih]
    · rw [st_K (by omega), letT_K _ _ (by omega), ih]
theorem thF_H (k : Nat) (b : Int32) (S : pf_S) {a : Nat} (h : 18 ≤ a) : ∀ c, thF k b S c a = S a := by
  intro c
  induction c with
  | zero => rfl
  | succ c ih =>
    have e : ∀ T : pf_S, thA k (8 + c) T a = T a := fun T => by
      unfold thA
      split
      · exact letT_K _ _ (by omega)
      · split
        · exact letT_K _ _ (by omega)
        · rw [st_K (by omega), letT_K _ _ (by omega)]
    rw [thF, thS]
    split
    · rw [e, ih]
    · split
      · rw [e, ih]
      · rw [st_K (by omega), e, ih]
theorem trT_H (S : pf_S) (k n : Nat) (t : Int32) {a : Nat} (h : 18 ≤ a) : trT S k n t a = S a := by
  have h16 : ¬ a = 16 := by omega
  unfold trT
  split
  · rfl
  · split
    · exact st_K h16
    · split
      · exact st_K h16
      · rfl
theorem toF_H (k : Nat) (S : pf_S) {a : Nat} (h : 18 ≤ a) : ∀ i, (toF k S i).1 a = S a := by
  intro i
  induction i with
  | zero => rfl
  | succ i ih =>
    rw [toF, toS]
    split
    · exact (tripT_K _ _ _ (by omega)).trans ih
    · exact (trT_H _ _ _ _ h).trans ((tripT_K _ _ _ (by omega)).trans ih)
theorem tkF_H (k : Nat) (m : Int32) (S : pf_S) {a : Nat} (h : 18 ≤ a) : ∀ j, tkF k m S j a = S a := by
  intro j
  induction j with
  | zero => rfl
  | succ j ih =>
    have h1 : ¬ a = 1 := by omega
    rw [tkF, tkS]
    split
    · rw [nibT_keep _ _ h1, nibT_keep _ _ h1, nibT_keep _ _ h1, ih]
    · rw [st_K (by omega), nibT_keep _ _ h1, nibT_keep _ _ h1, nibT_keep _ _ h1, ih]
theorem twF_H (k : Nat) (m : Int32) (S : pf_S) (r : Nat) {a : Nat} (h : 18 ≤ a) : twF k m S r a = S a := by
  unfold twF
  split
  · exact tlF_H _ _ _ h _
  · split
    · exact toF_H _ _ h _
    · split
      · exact tkF_H _ _ _ h _
      · rfl
theorem rhF_H {a : Nat} (h : 18 ≤ a) : ∀ (n i : Nat) (S : pf_S), (rhFrom n i S).2 a = S a := by
  have s : ∀ (i : Nat) (S : pf_S), rhS i S a = S a := fun i S => by rw [rhS, st_K (by omega), nibT_keep _ _ (by omega)]
  intro n
  induction n with
  | zero => intro i S; rfl
  | succ n ih =>
    intro i S
    rw [rhFrom]
    split
    · exact s _ _
    · rw [ih, s]
theorem cpP_H (S : pf_S) (k2 k : Nat) {a : Nat} (ha : 18 ≤ a) : cpP S k2 k a = S a := by
  funext b j
  simp [cpP, show ¬ a = 14 by omega, show ¬ a = 15 by omega, show ¬ a = 16 by omega, show ¬ a = 17 by omega]
theorem cmpF_H (S : pf_S) (P m : Nat) (wt : Int32) {a : Nat} (ha : 18 ≤ a) : cmpF S P m wt a = S a := by
  unfold cmpF
  rw [st_K (by omega), st_K (by omega), st_K (by omega), cpP_H _ _ _ ha]
theorem ccF_H (P m : Nat) (b : Int32) (S : pf_S) {a : Nat} (ha : 18 ≤ a) : ∀ j, ccF P m b S j a = S a := by
  intro j
  induction j with
  | zero => rfl
  | succ j ih =>
    rw [ccF, ccS]
    split
    · exact ih
    · rw [cmpF_H _ _ _ _ ha, ih]
theorem bpF_H (S : pf_S) (P m : Nat) {a : Nat} (ha : 18 ≤ a) : bpF S P m a = S a := by
  rw [bpF, st_K (by omega), st_K (by omega), bpA]
  have hb : begP S m (numF S m) a = S a := by
    funext x
    have e : ∀ T : pf_S, ∀ kd ix (f : Nat → Int32), ¬ a = kd → pf_rw T kd ix f a x = T a x := fun T kd ix f hk => by
      unfold pf_rw
      rw [if_neg (fun q => hk q.1)]
    rw [begP, e _ _ _ _ (by omega), e _ _ _ _ (by omega), e _ _ _ _ (by omega), st_K (by omega), st_K (by omega)]
  split
  · cases fndF S P (numF S m) with
    | none => exact hb
    | some k => exact cpP_H _ _ _ ha
  · exact hb
theorem thdF_H (S : pf_S) (P m : Nat) {a : Nat} (h : 18 ≤ a) : thdF S P m a = S a := by
  have e1 : hd1 (rhF S).2 P m a = S a := by rw [hd1, ccF_H _ _ _ _ h]; exact rhF_H h _ _ _
  unfold thdF
  split
  · rw [st_K (by omega)]; exact rhF_H h _ _ _
  · rw [hd2, thF_H _ _ _ h]
    split
    · exact e1
    · rw [bpF_H _ _ _ h, e1]
theorem tpF_H (S : pf_S) (P : Nat) {a : Nat} (h : 18 ≤ a) : tpF S P a = S a := by
  have h1 : ¬ a = 1 := by omega
  unfold tpF
  cases nibD (S 3 0 0) with
  | none =>
    show drp (tp1 S) a = S a
    rw [drp, st_K h1, tp1, nibT_keep _ _ h1, tp0_keep _ h1]
  | some d0 =>
    cases nibD (S 3 0 1) with
    | none =>
      show drp (tp2 S) a = S a
      rw [drp, st_K h1, tp2_keep _ h1]
    | some d1 =>
      show (if d0 / 8 + 2 * d1 = 0 then thdF (tp2 S) P (d0 % 8) else if nb (tp2 S 14 (d0 % 8) 0) = 0 then tp2 S else twF (d0 % 8) (nI (d0 % 8)) (tp2 S) (d0 / 8 + 2 * d1)) a = S a
      split
      · rw [thdF_H _ _ _ h, tp2_keep _ h1]
      · split
        · exact tp2_keep _ h1
        · rw [twF_H _ _ _ _ h, tp2_keep _ h1]
theorem fdS_H (P : Nat) (v : Int32) (A : pf_S) {a : Nat} (h : 18 ≤ a) : fdS P v A a = A a := by
  have p : ptF A v a = A a := by rw [ptF, st_K (by omega), st_K (by omega)]
  unfold fdS
  split
  · rw [st_K (by omega), tpF_H _ _ h, p]
  · exact p
theorem fdF_H (P : Nat) (x : Int64) {a : Nat} (h : 18 ≤ a) : ∀ n A, fdF P x n A a = A a := by
  intro n
  induction n with
  | zero => intro A; rfl
  | succ n ih =>
    intro A
    rw [fdF, ih, fdS_H _ _ _ h]
/-! One invariant for the law. -/
def DgI (A : pf_S) : Prop := (A 6 0 3 = 0 ∨ A 6 0 3 = 1 ∨ A 6 0 3 = 2) ∧ ∃ a b : Nat, a < 10 ∧ b < 10 ∧ A 6 0 4 = nI a ∧ A 6 0 5 = nI b
def Inv (P : Nat) (A : pf_S) : Prop := FI P A ∧ GI A P ∧ WtI A ∧ DgI A
def LawI (P : Nat) (S : pf_S) : Prop := Rm P (S 2 0 2) S S ∧ Inv P S
theorem Inv_mk {P : Nat} {A B : pf_S} (hP : P ≤ 4) (h : ∀ kd, kd < 20 → ¬ kd = 6 → ¬ kd = 12 → ¬ kd = 13 → ¬ kd = 14 → B kd = A kd) (h14 : ∀ k, k < 12 → B 14 k = A 14 k) (hI : Inv P A) (hw : WtI B) (hd : DgI B) : Inv P B := by
  obtain ⟨⟨h1, h2, h3⟩, h4, -, -⟩ := hI
  refine ⟨⟨?_, ?_, ?_⟩, GI_keep (h 15 (by decide) (by decide) (by decide) (by decide) (by decide)) (h 17 (by decide) (by decide) (by decide) (by decide) (by decide)) (h 10 (by decide) (by decide) (by decide) (by decide) (by decide)) h4, hw, hd⟩
  · unfold szOk
    rw [h 2 (by decide) (by decide) (by decide) (by decide) (by decide)]
    exact h1
  · intro i j i1 i2 j1 j2
    rw [h14 i (by omega), h14 j (by omega)]
    exact h2 i j i1 i2 j1 j2
  · unfold ByI
    rw [h 3 (by decide) (by decide) (by decide) (by decide) (by decide)]
    exact h3
theorem Inv_cong {P : Nat} {A B : pf_S} (hP : P ≤ 4) (h : ∀ kd, kd < 20 → ¬ kd = 12 → ¬ kd = 13 → B kd = A kd) (hI : Inv P A) : Inv P B := by
  refine Inv_mk hP (fun kd a _ b c _ => h kd a b c) (fun k _ => by rw [h 14 (by decide) (by decide) (by decide)]) hI ?_ ?_
  · unfold WtI
    rw [h 6 (by decide) (by decide) (by decide)]
    exact hI.2.2.1
  · unfold DgI
    rw [h 6 (by decide) (by decide) (by decide)]
    exact hI.2.2.2
theorem Inv_fdS {P b : Nat} {A : pf_S} (hP : 1 ≤ P) (hb : b < 256) (h : Inv P A) : Inv P (fdS P (nI b) A) := by
  obtain ⟨h1, h2, h3, h4⟩ := h
  refine ⟨FI_ok hP A b hb h1, GI_fd hb h1.2.2 h2, ?_, ?_⟩
  · unfold WtI
    rw [(fdS_6 _ _ _).1]
    exact h3
  · unfold DgI
    rw [(fdS_6 _ _ _).1]
    exact h4
theorem Inv_fdF {P : Nat} (hP : 1 ≤ P) (x : Int64) : ∀ (n : Nat) (A : pf_S), Inv P A → Inv P (fdF P x n A) := by
  intro n
  induction n with
  | zero => intro A h; exact h
  | succ n ih =>
    intro A h
    rw [fdF]
    obtain ⟨b, hb, e⟩ := byF_byte x n
    rw [e]
    exact ih _ (Inv_fdS hP hb h)
theorem Rm_S {P : Nat} {z : Int32} {A S S' : pf_S} (h : ∀ kd, 20 ≤ kd → S' kd = S kd) (hR : Rm P z A S) : Rm P z A S' := by
  unfold Rm Rsc Rpg at hR ⊢
  rw [h 20 (by decide), h 21 (by decide), h 22 (by decide), h 23 (by decide), h 24 (by decide), h 25 (by decide), h 26 (by decide), h 27 (by decide), h 28 (by decide), h 29 (by decide), h 30 (by decide), h 31 (by decide)]
  exact hR
theorem Rm_A {P : Nat} {z : Int32} {A B S : pf_S} (h : ∀ kd, kd < 20 → B kd = A kd) (hR : Rm P z A S) : Rm P z B S := by
  unfold Rm Rsc Rpg at hR ⊢
  rw [h 1 (by decide), h 3 (by decide), h 6 (by decide), h 12 (by decide), h 10 (by decide), h 14 (by decide), h 15 (by decide), h 16 (by decide), h 17 (by decide)]
  exact hR
theorem law_of {P : Nat} {A S2 : pf_S} (hP : P ≤ 4) (hR : Rm P (A 2 0 2) A S2) (hg : pm_g A S2) (hI : Inv P A) : LawI P S2 :=
  ⟨by rw [hg 2 (by decide)]; exact Rm_A (fun kd hk => hg kd hk) hR, Inv_cong hP (fun kd hk _ _ => hg kd hk) hI⟩
theorem nI_2048 {v : Int32} (h : 0 ≤ v ∧ v < 2048) : ∃ n : Nat, n < 2048 ∧ v = nI n := by
  have h0 := Int32.le_iff_toInt_le.mp h.1
  have h1 := Int32.lt_iff_toInt_lt.mp h.2
  have e0 : (0 : Int32).toInt = 0 := rfl
  have e1 : (2048 : Int32).toInt = 2048 := rfl
  rw [e0] at h0
  rw [e1] at h1
  refine ⟨v.toInt.toNat, by omega, ?_⟩
  apply Int32.toInt_inj.mp
  rw [nI_toInt (by omega)]
  omega
theorem dg_all : ∀ a, a < 10 → ∀ b, b < 10 → ∀ d, d < 10 → (0 : Int32) ≤ 256 * (nI a - nI a / 8 * 8) + 16 * nI b + nI d ∧ 256 * (nI a - nI a / 8 * 8) + 16 * nI b + nI d < (2048 : Int32) := by decide +kernel
theorem wntF_H (S : pf_S) (v : Int32) {a : Nat} (h : 18 ≤ a) : wntF S v a = S a := by rw [wntF, st_K (by omega), st_K (by omega), st_K (by omega)]
theorem kyT_H (S : pf_S) (P kk : Nat) {a : Nat} (h : 18 ≤ a) : kyT S P kk a = S a := by
  unfold kyT
  split
  · unfold dgT
    split
    · split
      · rfl
      · split
        · rw [st_K (by omega), st_K (by omega)]
        · rfl
    · split
      · rw [st_K (by omega), st_K (by omega)]
      · rw [wntF_H _ _ h, st_K (by omega)]
  · unfold cmdT
    split
    · unfold hldT
      split
      · cases fndF (pf_st S 6 0 3 0) P (pf_st S 6 0 3 0 6 0 2) with
        | none => exact st_K (by omega)
        | some k => exact (cpP_H _ _ _ h).trans (st_K (by omega))
      · rw [st_K (by omega), st_K (by omega)]
    · split
      · rw [st_K (by omega), st_K (by omega)]
      · unfold flwT
        cases shnF (pf_st S 6 0 3 0) P with
        | none => exact st_K (by omega)
        | some k =>
          show (if pf_st S 6 0 3 0 17 k (kk - 10) = -1 then pf_st S 6 0 3 0 else wntF (pf_st S 6 0 3 0) (pf_st S 6 0 3 0 17 k (kk - 10))) a = S a
          split
          · exact st_K (by omega)
          · rw [wntF_H _ _ h, st_K (by omega)]
theorem Inv_st6 {P : Nat} {A : pf_S} (hP : P ≤ 4) {k : Nat} {v : Int32} (hI : Inv P A) (hw : WtI (pf_st A 6 0 k v)) (hd : DgI (pf_st A 6 0 k v)) : Inv P (pf_st A 6 0 k v) :=
  Inv_mk hP (fun kd _ h6 _ _ _ => st_K h6) (fun k' _ => by rw [st_K (by decide)]) hI hw hd
theorem Inv_wnt {P : Nat} {A : pf_S} (hP : P ≤ 4) {v : Int32} (hI : Inv P A) (hv : 0 ≤ v ∧ v < 2048) : Inv P (wntF A v) := by
  refine Inv_mk hP (fun kd _ h6 _ _ h14 => by rw [wntF, st_K h6, st_K h14, st_K h6]) (fun k hk => ?_) hI ?_ ?_
  · funext j
    rw [wntF, st_K (by decide), pf_st_at, if_neg (by omega), st_K (by decide)]
  · obtain ⟨n, hn, e⟩ := nI_2048 hv
    exact ⟨n, hn, e⟩
  · exact hI.2.2.2
theorem Inv_dgs {P : Nat} {A : pf_S} (hP : P ≤ 4) (hI : Inv P A) : Inv P (pf_st A 6 0 3 0) := Inv_st6 hP hI hI.2.2.1 ⟨Or.inl rfl, hI.2.2.2.2⟩
theorem fndF_pgk {A : pf_S} {P k : Nat} {num : Int32} (h : fndF A P num = some k) : pgk P k := Or.inl (fndF_some h).2.1
theorem Inv_ky {P kk : Nat} {A : pf_S} (hP : P ≤ 4) (hk : kk ≤ 15) (hI : Inv P A) : Inv P (kyT A P kk) := by
  obtain ⟨hd, a, b, ha, hb, ea, eb⟩ := hI.2.2.2
  unfold kyT
  split
  · unfold dgT
    split
    · split
      · exact hI
      · split
        · have h1 : Inv P (pf_st A 6 0 4 (nI kk)) := Inv_st6 hP hI hI.2.2.1 ⟨hd, kk, b, by omega, hb, rfl, eb⟩
          exact Inv_st6 hP h1 h1.2.2.1 ⟨Or.inr (Or.inl rfl), h1.2.2.2.2⟩
        · exact hI
    · split
      · have h1 : Inv P (pf_st A 6 0 5 (nI kk)) := Inv_st6 hP hI hI.2.2.1 ⟨hd, a, kk, ha, by omega, ea, rfl⟩
        exact Inv_st6 hP h1 h1.2.2.1 ⟨Or.inr (Or.inr rfl), h1.2.2.2.2⟩
      · rw [ea, eb]
        exact Inv_wnt hP (Inv_dgs hP hI) (dg_all a ha b hb kk (by omega))
  · have h3 := Inv_dgs hP hI
    unfold cmdT
    split
    · unfold hldT
      split
      · split
        · exact h3
        · rename_i k e
          have hk := fndF_pgk e
          obtain ⟨⟨i1, i2, i3⟩, i4, i5, i6⟩ := h3
          refine ⟨⟨?_, ?_, ?_⟩, GI_cp hk i4, ?_, ?_⟩
          · unfold szOk
            rw [cpP_lo _ _ _ (by decide)]
            exact i1
          · intro i j i1' i2' j1' j2'
            have e : ∀ q, q < 12 → cpP (pf_st A 6 0 3 0) k 12 14 q = pf_st A 6 0 3 0 14 q := fun q hq => by
              funext c
              simp [cpP, show ¬ q = 12 by omega]
            rw [e i (by omega), e j (by omega)]
            exact i2 i j i1' i2' j1' j2'
          · unfold ByI
            rw [cpP_lo _ _ _ (by decide)]
            exact i3
          · unfold WtI
            rw [cpP_lo _ _ _ (by decide)]
            exact i5
          · unfold DgI
            rw [cpP_lo _ _ _ (by decide)]
            exact i6
      · exact Inv_mk hP (fun kd _ _ _ _ h14 => st_K h14) (fun k hk => by funext j; rw [pf_st_at, if_neg (by omega)]) h3 h3.2.2.1 h3.2.2.2
    · split
      · exact Inv_st6 hP h3 h3.2.2.1 h3.2.2.2
      · unfold flwT
        split
        · exact h3
        · rename_i k e
          split
          · exact h3
          · rename_i e2
            refine Inv_wnt hP h3 ?_
            rcases h3.2.1.2 k (shn_pgk e) (kk - 10) (by omega) with q | q
            · exact absurd q e2
            · exact q
