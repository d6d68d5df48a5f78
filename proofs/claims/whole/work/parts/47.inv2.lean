/-! Invariants of the pages along a packet. -/
theorem GI_nib {A : pf_S} {P : Nat} {b : Int32} (h : GI A P) : GI (nibT A b) P := GI_keep (nibT_keep _ _ (by decide)) (nibT_keep _ _ (by decide)) (nibT_keep _ _ (by decide)) h
theorem GI_lT {A : pf_S} {P : Nat} {b : Int32} (h : GI A P) : GI (letT A b) P := GI_keep (letT_K _ _ (by decide)) (letT_K _ _ (by decide)) (letT_K _ _ (by decide)) h
theorem letV_128 {b : Nat} (h : ¬ letV (nI b) = -1) : ∃ c : Nat, c < 128 ∧ letV (nI b) = nI c := by
  unfold letV at h ⊢
  by_cases ho : odF (nI b) = 0
  · rw [if_pos ho] at h; exact absurd rfl h
  · rw [if_neg ho]
    obtain ⟨c, hc, e⟩ := pk_andE (nI b) (m := 127) 7 (by decide)
    exact ⟨c, by omega, e⟩
theorem GI_tl {S : pf_S} {P k r : Nat} (hb : ByI S) (h : GI S P) : ∀ c, c ≤ 20 → GI (tlF k r S c) P := by
  intro c
  induction c with
  | zero => intro _; exact h
  | succ c ih =>
    intro hc
    obtain ⟨b, hb2, eb⟩ := hb (2 + c) (by omega)
    rw [tlF, tlS, tlF_3, eb]
    split
    · exact GI_lT (ih (by omega))
    · rename_i hl
      obtain ⟨d, hd, e⟩ := letV_128 hl
      rw [e]
      exact GI_let hd (GI_lT (ih (by omega)))
theorem GI_th {S : pf_S} {P k : Nat} {v : Int32} (hb : ByI S) (h : GI S P) : ∀ c, c ≤ 12 → GI (thF k v S c) P := by
  intro c
  induction c with
  | zero => intro _; exact h
  | succ c ih =>
    intro hc
    obtain ⟨b, hb2, eb⟩ := hb (2 + (8 + c)) (by omega)
    have e3 : thF k v S c 3 0 (2 + (8 + c)) = nI b := by rw [thF_3, eb]
    have hA : GI (thA k (8 + c) (thF k v S c)) P := by
      rw [thA, e3]
      split
      · exact GI_lT (ih (by omega))
      · rename_i hl
        split
        · exact GI_lT (ih (by omega))
        · obtain ⟨d, hd, e⟩ := letV_128 hl
          rw [e]
          exact GI_let hd (GI_lT (ih (by omega)))
    rw [thF, thS, e3]
    split
    · exact hA
    · rename_i hl
      split
      · exact hA
      · obtain ⟨d, hd, e⟩ := letV_128 hl
        rw [e]
        exact GI_rol hd hA
theorem GI_to {S : pf_S} {P k : Nat} (h : GI S P) : ∀ i, GI (toF k S i).1 P := by
  have tp : ∀ (T : pf_S) (p f : Int32), GI T P → GI (tripT T p f) P := fun T p f ht => GI_keep (tripT_K _ _ _ (by decide)) (tripT_K _ _ _ (by decide)) (tripT_K _ _ _ (by decide)) ht
  have tr : ∀ (T : pf_S) (n : Nat) (t : Int32), GI T P → GI (trT T k n t) P := fun T n t ht => by
    unfold trT
    split
    · exact ht
    · split
      · exact GI_st ht (by decide) (by decide) (by decide)
      · split
        · exact GI_st ht (by decide) (by decide) (by decide)
        · exact ht
  intro i
  induction i with
  | zero => exact h
  | succ i ih =>
    rw [toF, toS]
    split
    · exact tp _ _ _ ih
    · exact tr _ _ _ (tp _ _ _ ih)
theorem lk_dec : ∀ m, m < 8 → ∀ d, d < 16 → ∃ q, q < 8 ∧ (nI m ^^^ nI d) - (nI m ^^^ nI d) / 8 * 8 = nI q := by decide
theorem GI_tk {S : pf_S} {P k m : Nat} (hm : m < 8) (h : GI S P) : ∀ j, GI (tkF k (nI m) S j) P := by
  intro j
  induction j with
  | zero => exact h
  | succ j ih =>
    rw [tkF, tkS]
    split
    · exact GI_nib (GI_nib (GI_nib ih))
    · rename_i hn
      refine GI_lnk ?_ (GI_nib (GI_nib (GI_nib ih)))
      obtain ⟨d0, h0, e0⟩ := (nibV_cases (tkF k (nI m) S j 3 0 (2 + 3 * j))).resolve_left (fun q => hn (Or.inl q))
      obtain ⟨d1, h1, e1⟩ := (nibV_cases (tkF k (nI m) S j 3 0 (3 + 3 * j))).resolve_left (fun q => hn (Or.inr (Or.inl q)))
      obtain ⟨d2, h2, e2⟩ := (nibV_cases (tkF k (nI m) S j 3 0 (4 + 3 * j))).resolve_left (fun q => hn (Or.inr (Or.inr q)))
      obtain ⟨q, hq, eq⟩ := lk_dec m hm d2 h2
      rw [e0, e1, e2, eq, show (256 : Int32) * nI q = nI (256 * q) from pk_mul 256 q, show (16 : Int32) * nI d1 = nI (16 * d1) from pk_mul 16 d1, nI_add, nI_add]
      exact ⟨Int32.not_lt.mp (nI_pos (by omega)), (show nI (256 * q + 16 * d1 + d0) < nI 2048 from (nI_ltI (by omega) (by decide)).mpr (by omega))⟩
