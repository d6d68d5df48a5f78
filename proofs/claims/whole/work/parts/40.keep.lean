/-! What a packet leaves as it is; FIok. -/
def Kp (a : Nat) : Prop := ¬ a = 1 ∧ ¬ a = 10 ∧ ¬ a = 11 ∧ a < 15
theorem st_K {S : pf_S} {kd ix k : Nat} {v : Int32} {a : Nat} (h : ¬ a = kd) : pf_st S kd ix k v a = S a := by
  funext x y
  rw [pf_st_at, if_neg (fun q => h q.1)]
theorem letT_K (S : pf_S) (b : Int32) {a : Nat} (h : ¬ a = 1) : letT S b a = S a := by
  unfold letT
  split
  · exact st_K h
  · rfl
theorem tripT_K (S : pf_S) (p f : Int32) {a : Nat} (h : ¬ a = 1) : tripT S p f a = S a := by
  unfold tripT
  split
  · split
    · exact st_K h
    · exact st_K h
  · split
    · rfl
    · exact st_K h
theorem tlF_K (k r : Nat) (S : pf_S) {a : Nat} (h : Kp a) : ∀ c, tlF k r S c a = S a := by
  intro c
  induction c with
  | zero => rfl
  | succ c ih =>
    rw [tlF, tlS]
    split
    · rw [letT_K _ _ h.1, ih]
    · rw [st_K (by have := h.2.2.2; omega), letT_K _ _ h.1, ih]
theorem thF_K (k : Nat) (b : Int32) (S : pf_S) {a : Nat} (h : Kp a) : ∀ c, thF k b S c a = S a := by
  intro c
  induction c with
  | zero => rfl
  | succ c ih =>
    have e : ∀ T : pf_S, thA k (8 + c) T a = T a := fun T => by
      unfold thA
      split
      · exact letT_K _ _ h.1
      · split
        · exact letT_K _ _ h.1
        · rw [st_K (by have := h.2.2.2; omega), letT_K _ _ h.1]
    rw [thF, thS]
    split
    · rw [e, ih]
    · split
      · rw [e, ih]
      · rw [st_K h.2.1, e, ih]
theorem trT_K (S : pf_S) (k n : Nat) (t : Int32) {a : Nat} (h : Kp a) : trT S k n t a = S a := by
  have h16 : ¬ a = 16 := by have := h.2.2.2; omega
  unfold trT
  split
  · rfl
  · split
    · exact st_K h16
    · split
      · exact st_K h16
      · rfl
theorem toF_K (k : Nat) (S : pf_S) {a : Nat} (h : Kp a) : ∀ i, (toF k S i).1 a = S a := by
  intro i
  induction i with
  | zero => rfl
  | succ i ih =>
    rw [toF, toS]
    split
    · exact (tripT_K _ _ _ h.1).trans ih
    · exact (trT_K _ _ _ _ h).trans ((tripT_K _ _ _ h.1).trans ih)
theorem tkF_K (k : Nat) (m : Int32) (S : pf_S) {a : Nat} (h : Kp a) : ∀ j, tkF k m S j a = S a := by
  intro j
  induction j with
  | zero => rfl
  | succ j ih =>
    rw [tkF, tkS]
    split
    · rw [nibT_keep _ _ h.1, nibT_keep _ _ h.1, nibT_keep _ _ h.1, ih]
    · rw [st_K (by have := h.2.2.2; omega), nibT_keep _ _ h.1, nibT_keep _ _ h.1, nibT_keep _ _ h.1, ih]
theorem twF_K (k : Nat) (m : Int32) (S : pf_S) (r : Nat) {a : Nat} (h : Kp a) : twF k m S r a = S a := by
  unfold twF
  split
  · exact tlF_K _ _ _ h _
  · split
    · exact toF_K _ _ h _
    · split
      · exact tkF_K _ _ _ h _
      · rfl
theorem rhS_K (i : Nat) (S : pf_S) {a : Nat} (h : Kp a) : rhS i S a = S a := by
  rw [rhS, st_K h.2.2.1, nibT_keep _ _ h.1]
theorem rhF_K {a : Nat} (h : Kp a) : ∀ (n i : Nat) (S : pf_S), (rhFrom n i S).2 a = S a := by
  intro n
  induction n with
  | zero => intro i S; rfl
  | succ n ih =>
    intro i S
    rw [rhFrom]
    split
    · exact rhS_K _ _ h
    · rw [ih, rhS_K _ _ h]
theorem bpF_K (S : pf_S) (P m : Nat) {a : Nat} (ha : a < 14) : bpF S P m a = S a := by
  rw [bpF, st_K (by omega), st_K (by omega), bpA]
  have hb : begP S m (numF S m) a = S a := by
    funext x
    have e : ∀ T : pf_S, ∀ kd ix (f : Nat → Int32), ¬ a = kd → pf_rw T kd ix f a x = T a x := fun T kd ix f hk => by
      unfold pf_rw
      rw [if_neg (fun q => hk q.1)]
    rw [begP, e _ _ _ _ (by omega), e _ _ _ _ (by omega), e _ _ _ _ (by omega), st_K (by omega), st_K (by omega)]
  split
  · cases fndF S P (numF S m) with
    | none => exact hb
    | some k => exact cpP_lo _ _ _ ha
  · exact hb
theorem bpF_14 (S : pf_S) (P m : Nat) (hm : m < 8) : ∀ k, 8 ≤ k → bpF S P m 14 k = S 14 k := by
  intro k hk
  have s : ∀ (T : pf_S) (c : Nat) (v : Int32), pf_st T 14 m c v 14 k = T 14 k := fun T c v => by
    funext j
    rw [pf_st_at, if_neg (by omega)]
  rw [bpF, s, s, bpA]
  have hb : begP S m (numF S m) 14 k = S 14 k := by
    show pf_st (pf_st S 14 m 0 1) 14 m 1 (numF S m) 14 k = S 14 k
    rw [s, s]
  split
  · cases fndF S P (numF S m) with
    | none => exact hb
    | some q =>
      show cpP S q m 14 k = S 14 k
      funext j
      simp [cpP, show ¬ k = m by omega]
  · exact hb
theorem thdF_K (S : pf_S) (P m : Nat) {a : Nat} (h : Kp a) (h14 : a < 14) : thdF S P m a = S a := by
  have e1 : hd1 (rhF S).2 P m a = S a := by rw [hd1, ccF_lo _ _ _ _ h14 h.1]; exact rhF_K h _ _ _
  unfold thdF
  split
  · rw [st_K h.1]; exact rhF_K h _ _ _
  · rw [hd2, thF_K _ _ _ h]
    split
    · exact e1
    · rw [bpF_K _ _ _ h14, e1]
theorem Uq_thd {S : pf_S} {P m : Nat} (hP : 1 ≤ P) (hm : m < 8) (hu : Uq S P) : Uq (thdF S P m) P := by
  have k14 : Kp 14 := ⟨by decide, by decide, by decide, by decide⟩
  have hr : Uq (rhF S).2 P := Uq_cong (fun k _ => by rw [rhF, rhF_K k14]) hu
  have h1 : Uq (hd1 (rhF S).2 P m) P := Uq_cc hP hr 8 (Nat.le_refl _)
  unfold thdF
  split
  · exact Uq_cong (fun k _ => by rw [st_K (by decide)]) hr
  · rw [hd2]
    refine Uq_cong (fun k _ => by rw [thF_K _ _ _ k14]) ?_
    split
    · exact h1
    · exact Uq_cong (fun k hk => (bpF_14 _ _ _ hm k hk).symm) h1
theorem tpF_K (S : pf_S) (P : Nat) {a : Nat} (h : Kp a) (h14 : a < 14) : tpF S P a = S a := by
  unfold tpF
  cases nibD (S 3 0 0) with
  | none =>
    show drp (tp1 S) a = S a
    rw [drp, st_K h.1, tp1, nibT_keep _ _ h.1, tp0_keep _ h.1]
  | some d0 =>
    cases nibD (S 3 0 1) with
    | none =>
      show drp (tp2 S) a = S a
      rw [drp, st_K h.1, tp2_keep _ h.1]
    | some d1 =>
      show (if d0 / 8 + 2 * d1 = 0 then thdF (tp2 S) P (d0 % 8) else if nb (tp2 S 14 (d0 % 8) 0) = 0 then tp2 S else twF (d0 % 8) (nI (d0 % 8)) (tp2 S) (d0 / 8 + 2 * d1)) a = S a
      split
      · rw [thdF_K _ _ _ h h14, tp2_keep _ h.1]
      · split
        · exact tp2_keep _ h.1
        · rw [twF_K _ _ _ _ h, tp2_keep _ h.1]
theorem Uq_tp {S : pf_S} {P : Nat} (hP : 1 ≤ P) (hu : Uq S P) : Uq (tpF S P) P := by
  have k14 : Kp 14 := ⟨by decide, by decide, by decide, by decide⟩
  have h2 : Uq (tp2 S) P := Uq_cong (fun k _ => by rw [tp2_keep _ (by decide)]) hu
  unfold tpF
  cases nibD (S 3 0 0) with
  | none =>
    refine Uq_cong (fun k _ => ?_) hu
    show _ = drp (tp1 S) 14 k
    rw [drp, st_K (by decide), tp1, nibT_keep _ _ (by decide), tp0_keep _ (by decide)]
  | some d0 =>
    cases nibD (S 3 0 1) with
    | none =>
      refine Uq_cong (fun k _ => ?_) hu
      show _ = drp (tp2 S) 14 k
      rw [drp, st_K (by decide), tp2_keep _ (by decide)]
    | some d1 =>
      show Uq (if d0 / 8 + 2 * d1 = 0 then thdF (tp2 S) P (d0 % 8) else if nb (tp2 S 14 (d0 % 8) 0) = 0 then tp2 S else twF (d0 % 8) (nI (d0 % 8)) (tp2 S) (d0 / 8 + 2 * d1)) P
      split
      · exact Uq_thd hP (by omega) h2
      · split
        · exact h2
        · exact Uq_cong (fun k _ => by rw [twF_K _ _ _ _ k14]) h2
theorem FI_ok {P : Nat} (hP : 1 ≤ P) : FIok P := by
  intro A b hb ⟨hs, hu, hy⟩
  have k3 : Kp 3 := ⟨by decide, by decide, by decide, by decide⟩
  refine ⟨fdS_ok hs, ?_, ?_⟩
  · unfold fdS
    split
    · exact Uq_cong (fun k _ => by rw [st_K (by decide)]) (Uq_tp hP (Uq_pt hu))
    · exact Uq_pt hu
  · unfold fdS
    split
    · intro i hi
      rw [st_K (by decide), tpF_K _ _ k3 (by decide)]
      exact ByI_pt hb hy i hi
    · exact ByI_pt hb hy
