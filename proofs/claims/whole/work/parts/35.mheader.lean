/-! The reference: takeHeader. -/
theorem fnd_none {A : pf_S} {num : Int32} : ∀ {n j : Nat}, fndFrom A num n j = none → ∀ k, 8 + j ≤ k → k < 8 + j + n → nb (A 14 k 0) = 0 ∨ ¬ A 14 k 1 = num := by
  intro n
  induction n with
  | zero => intro j _ k h1 h2; omega
  | succ n ih =>
    intro j h k h1 h2
    rw [fndFrom] at h
    by_cases hk : k = 8 + j
    · subst hk
      by_cases h0 : nb (A 14 (8 + j) 0) = 0
      · exact Or.inl h0
      · rw [if_neg h0] at h
        by_cases hn : ¬ A 14 (8 + j) 1 = num
        · exact Or.inr hn
        · rw [if_neg hn] at h; cases h
    · by_cases h0 : nb (A 14 (8 + j) 0) = 0
      · rw [if_pos h0] at h; exact ih h k (by omega) (by omega)
      · rw [if_neg h0] at h
        by_cases hn : ¬ A 14 (8 + j) 1 = num
        · rw [if_pos hn] at h; exact ih h k (by omega) (by omega)
        · rw [if_neg hn] at h; cases h
theorem cmpF_14 {A : pf_S} {P m : Nat} {wt : Int32} (hm : m < 8) (hP : 1 ≤ P) (k c : Nat) (hk : 8 ≤ k) (hc : c < 2) : cmpF A P m wt 14 k c = if k = plcF A P (A 14 m 1) wt then A 14 m c else A 14 k c := by
  have hq := plcF_in (S := A) (P := P) (num := A 14 m 1) (wt := wt) hP
  unfold cmpF
  generalize plcF A P (A 14 m 1) wt = q at hq ⊢
  rw [pf_st_at, if_neg (by omega), pf_st_at, if_neg (by omega), pf_st_at, if_neg (by omega)]
  by_cases h : k = q
  · subst h
    simp [cpP, show c < 5 by omega]
  · simp [cpP, h]
theorem Uq_cmp {A : pf_S} {P m : Nat} {wt : Int32} (hm : m < 8) (hP : 1 ≤ P) (hu : Uq A P) : Uq (cmpF A P m wt) P := by
  have key : ∀ j, 8 ≤ j → j < 8 + P → ¬ nb (A 14 j 0) = 0 → A 14 j 1 = A 14 m 1 → j = plcF A P (A 14 m 1) wt := by
    intro j h1 h2 h3 h4
    cases hf : fndF A P (A 14 m 1) with
    | none =>
      rcases fnd_none hf j (by omega) (by omega) with q | q
      · exact absurd q h3
      · exact absurd h4 q
    | some k =>
      obtain ⟨k1, k2, k3, k4⟩ := fndF_some hf
      have : plcF A P (A 14 m 1) wt = k := by rw [plcF, hf]
      rw [this]
      exact hu j k h1 h2 k1 k2 h3 k3 (h4.trans k4.symm)
  intro i j h1 h2 h3 h4 h5 h6 h7
  rw [cmpF_14 hm hP i 0 h1 (by decide)] at h5
  rw [cmpF_14 hm hP j 0 h3 (by decide)] at h6
  rw [cmpF_14 hm hP i 1 h1 (by decide), cmpF_14 hm hP j 1 h3 (by decide)] at h7
  by_cases hi : i = plcF A P (A 14 m 1) wt
  · by_cases hj : j = plcF A P (A 14 m 1) wt
    · omega
    · rw [if_pos hi, if_neg hj] at h7
      rw [if_neg hj] at h6
      rw [hi, ← key j h3 h4 h6 h7.symm]
  · rw [if_neg hi] at h5 h7
    by_cases hj : j = plcF A P (A 14 m 1) wt
    · rw [if_pos hj] at h7
      rw [hj, ← key i h1 h2 h5 h7]
    · rw [if_neg hj] at h6 h7
      exact hu i j h1 h2 h3 h4 h5 h6 h7
theorem cpP_lo (S : pf_S) (k2 k : Nat) {a : Nat} (ha : a < 14) : cpP S k2 k a = S a := by
  funext b j
  simp [cpP, show ¬ a = 14 by omega, show ¬ a = 15 by omega, show ¬ a = 16 by omega, show ¬ a = 17 by omega]
theorem cmpF_lo (S : pf_S) (P m : Nat) (wt : Int32) {a : Nat} (ha : a < 14) (h1 : ¬ a = 1) : cmpF S P m wt a = S a := by
  unfold cmpF
  funext b j
  rw [pf_st_at, if_neg (by omega), pf_st_at, if_neg (by omega), pf_st_at, if_neg (by omega), cpP_lo _ _ _ ha]
theorem ccF_lo (P m : Nat) (b : Int32) (S : pf_S) {a : Nat} (ha : a < 14) (h1 : ¬ a = 1) : ∀ j, ccF P m b S j a = S a := by
  intro j
  induction j with
  | zero => rfl
  | succ j ih =>
    rw [ccF, ccS]
    split
    · exact ih
    · rw [cmpF_lo _ _ _ _ ha h1, ih]
theorem Uq_cc {P m : Nat} {b : Int32} {S : pf_S} (hP : 1 ≤ P) (hu : Uq S P) : ∀ j, j ≤ 8 → Uq (ccF P m b S j) P := by
  intro j
  induction j with
  | zero => intro _; exact hu
  | succ j ih =>
    intro hj
    rw [ccF, ccS]
    split
    · exact ih (by omega)
    · exact Uq_cmp (by omega) hP (ih (by omega))
theorem rhS_Rm {P : Nat} {z : Int32} {A S : pf_S} {i b : Nat} (e : A 3 0 (2 + i) = nI b) (h : Rm P z (nibT A (nI b)) S) : Rm P z (rhS i A) S := by
  rw [rhS, e]
  exact h.o11
theorem rhS_3 (i : Nat) (A : pf_S) : rhS i A 3 = A 3 := by
  funext b j
  rw [rhS, pf_st_at, if_neg (by omega), nibT_3]
theorem nibT_11 (S : pf_S) (b : Int32) : nibT S b 11 = S 11 := by
  unfold nibT
  cases nibD b <;> rfl
theorem nibT_14 (S : pf_S) (b : Int32) : nibT S b 14 = S 14 := by
  unfold nibT
  cases nibD b <;> rfl
theorem rhS_14 (i : Nat) (A : pf_S) : rhS i A 14 = A 14 := by
  funext b j
  rw [rhS, pf_st_at, if_neg (by omega), nibT_14]
theorem rhS_11 (i : Nat) (A : pf_S) (j : Nat) : rhS i A 11 0 j = if j = i then nibV (A 3 0 (2 + i)) else A 11 0 j := by
  rw [rhS, pf_st_at, nibT_11]
  by_cases h : j = i
  · rw [if_pos ⟨rfl, rfl, h⟩, if_pos h]
  · rw [if_neg (fun q => h q.2.2), if_neg h]
set_option maxRecDepth 100000 in
theorem let_all : ∀ n, n < 256 → ¬ (nI n &&& 127 : Int32) < 0 := by decide
theorem letV_neg {b : Nat} (hb : b < 256) : letV (nI b) < 0 ↔ letV (nI b) = -1 := by
  unfold letV
  by_cases h : odF (nI b) = 0
  · rw [if_pos h]; decide
  · rw [if_neg h]
    constructor
    · intro q; exact absurd q (let_all b hb)
    · intro q; rw [q]; decide
theorem letT_3 (S : pf_S) (b : Int32) : letT S b 3 = S 3 := by
  unfold letT
  split
  · funext x y; rw [pf_st_at, if_neg (by omega)]
  · rfl
theorem thS_3 (k : Nat) (b : Int32) (c : Nat) (S : pf_S) : thS k b c S 3 = S 3 := by
  have e : thA k c S 3 = S 3 := by
    unfold thA
    split
    · exact letT_3 _ _
    · split
      · exact letT_3 _ _
      · funext x y; rw [pf_st_at, if_neg (by omega), letT_3]
  unfold thS
  split
  · exact e
  · split
    · exact e
    · funext x y; rw [pf_st_at, if_neg (by omega), e]
theorem thF_3 (k : Nat) (b : Int32) (S : pf_S) : ∀ c, thF k b S c 3 = S 3 := by
  intro c
  induction c with
  | zero => rfl
  | succ c ih => rw [thF, thS_3, ih]
theorem begP_3 (S : pf_S) (k : Nat) (n : Int32) : begP S k n 3 = S 3 := rfl
theorem bpF_3 (S : pf_S) (P m : Nat) : bpF S P m 3 = S 3 := by
  funext x y
  rw [bpF, pf_st_at, if_neg (by omega), pf_st_at, if_neg (by omega), bpA]
  split
  · cases fndF S P (numF S m) with
    | none => rfl
    | some k =>
      show cpP S k m 3 x y = _
      rw [cpP_lo _ _ _ (by decide)]
  · rw [begP_3]
theorem cmsF_3 (A : pf_S) (P m : Nat) (num sub c set : Int32) : cmsF A P m num sub c set 3 = A 3 := by
  funext x y
  rw [cmsF, pf_st_at, if_neg (by omega), pf_st_at, if_neg (by omega), cmA]
  split
  · cases fndF A P num with
    | none => rfl
    | some k =>
      show cpP A k m 3 x y = _
      rw [cpP_lo _ _ _ (by decide)]
  · rw [begP_3]
theorem rh_step {n i : Nat} {S : pf_S} {b : Nat} (f : S 3 0 (2 + i) = nI b) (h : ¬ nibV (nI b) = -1) : rhFrom (n + 1) i S = rhFrom n (i + 1) (rhS i S) := by
  rw [rhFrom, f, if_neg h]
theorem rh_fail {n i : Nat} {S : pf_S} {b : Nat} (f : S 3 0 (2 + i) = nI b) (h : nibV (nI b) = -1) : rhFrom (n + 1) i S = (0, rhS i S) := by
  rw [rhFrom, f, if_pos h]
theorem nibV_ge {b : Int32} (h : ¬ nibV b = -1) : 0 ≤ nibV b := Int32.not_lt.mp (fun q => h ((nibV_neg b).mp q))
theorem cc_call {P m : Nat} {b : Int32} {j : Nat} {S : pf_S} (h : ¬ (nb b = 0 ∧ ¬ j = m)) : ccS P m b j S = cmF S P j := by
  unfold ccS cmF
  by_cases h0 : nb (S 14 j 0) = 0
  · rw [if_pos (Or.inr h0), if_pos h0]
  · rw [if_neg (fun q => q.elim h h0), if_neg h0]
theorem cc_skip {P m : Nat} {b : Int32} {j : Nat} {S : pf_S} (h : nb b = 0 ∧ ¬ j = m) : ccS P m b j S = S := by
  unfold ccS
  rw [if_pos (Or.inl h)]

set_option maxRecDepth 100000 in
set_option maxHeartbeats 4000000 in
theorem mth_let (w : pf_W) (ok : pf_ok w) (B S0 : pf_S) (z : Int32) (κ : pg_K) (h : pg_X κ w.1 y_Mod_takeHeader b_Mod_takeHeader 10 none ⟨3, 0, 0, 74⟩) (hb : ByI B) (m : Nat) (hm : m < 8) (v0 v1 v2 v3 v4 v5 : Int32) : ∀ (n c : Nat) (X : Option Value) (S : pf_S), c + n = 12 → Rm w.2.2.1 z (thF m (if v4 / 2 - v4 / 2 / 2 * 2 = 0 then 1 else 0) B c) S → pm_g S0 S → pg_G κ w.1 10 0 0 (pm_Q κ w none z (thF m (if v4 / 2 - v4 / 2 / 2 * 2 = 0 then 1 else 0) B 12) S0) (pf_P w (S)) 203 [some (.ref (w.2.1 20 0)), some (.int (nI m)), some (.int v0), some (.int v1), some (.int v2), some (.int v3), some (.int v4), some (.int v5), some (.int (nI (8 + c))), X] [] := by
  intro n
  induction n with
  | zero =>
    intro c X S hc hR hg
    have hc : c = 12 := by omega
    subst hc
    refine pg_iload h d_Mod_takeHeader_203 rfl ?_
    refine pg_bipush (v := 20) h d_Mod_takeHeader_205 (by decide) ?_
    refine pg_icmp_ge (tgt := 283) h d_Mod_takeHeader_207 rfl (fun e207 => ?_) (fun e207 => absurd e207 (fun e => e (by decide)))
    exact pm_vret h d_Mod_takeHeader_283 (hR) (hg)
  | succ n ih =>
    intro c X S hc hR hg
    have hc2 : c < 12 := by omega
    obtain ⟨b, hb2, eb⟩ := hb (2 + (8 + c)) (by omega)
    have hx : thF m (if v4 / 2 - v4 / 2 / 2 * 2 = 0 then 1 else 0) B c 3 0 (2 + (8 + c)) = nI b := by rw [thF_3, eb]
    have q0 : S 30 0 (2 + (8 + c)) = nI b := by rw [hR.2.2.1 _ (by omega), hx]
    have eT : thF m (if v4 / 2 - v4 / 2 / 2 * 2 = 0 then 1 else 0) B (c + 1) = thS m (if v4 / 2 - v4 / 2 / 2 * 2 = 0 then 1 else 0) (8 + c) (thF m (if v4 / 2 - v4 / 2 / 2 * 2 = 0 then 1 else 0) B c) := rfl
    generalize hAc : thF m (if v4 / 2 - v4 / 2 / 2 * 2 = 0 then 1 else 0) B c = Ac at hR hx eT
    rw [thS, thA, hx] at eT
    by_cases hl : letV (nI b) = -1
    · have hl0 := (letV_neg hb2).mpr hl
      refine pg_iload h d_Mod_takeHeader_203 rfl ?_
      refine pg_bipush (v := 20) h d_Mod_takeHeader_205 (by decide) ?_
      refine pg_icmp_ge (tgt := 283) h d_Mod_takeHeader_207 rfl (fun e207 => absurd e207 (nI_ge (show 8 + c < 20 by omega) (by decide))) (fun e207 => ?_)
      refine pg_aload_n h d_Mod_takeHeader_210 rfl ?_
      refine pg_aload_n h d_Mod_takeHeader_211 rfl ?_
      refine pf_get h ok d_Mod_takeHeader_212 f_Mod_38 (by first | rfl | exact hk | exact hk2 | exact dm12 _ | assumption) rfl rfl ?_
      refine pg_iconst (v := 2) h d_Mod_takeHeader_215 (by decide) ?_
      refine pg_iload h d_Mod_takeHeader_216 rfl ?_
      refine pg_iadd h d_Mod_takeHeader_218 ?_
      refine pf_ild h ok d_Mod_takeHeader_219 (by first | rfl | exact hk | exact hk2 | exact dm12 _ | assumption) rfl (pg_ixN (nI_add 2 (8 + c)) (show 2 + (8 + c) < 22 by omega) (by decide)) ?_
      rw [q0]
      refine pm_cV h ok (hR) (hg) d_Mod_takeHeader_220 m_Mod_letter l_Mod_100 (c_Mod_letter w ok Ac S0 z b hb2) rfl rfl rfl (Nat.le_of_ble_eq_true rfl) ⟨(Nat.le_of_ble_eq_true rfl), (Nat.le_of_ble_eq_true rfl)⟩ ⟨Nat.le_refl _, Nat.le_refl _⟩ (fun S220 hR220 hg220 => ?_)
      refine pg_istore h d_Mod_takeHeader_223 (Nat.le_of_ble_eq_true rfl) rfl rfl ?_
      refine pg_iload h d_Mod_takeHeader_225 rfl ?_
      refine pg_if_lt (tgt := 254) h d_Mod_takeHeader_227 rfl (fun e227 => ?_) (fun e227 => absurd e227 (fun q => q hl0))
      refine pg_iload h d_Mod_takeHeader_254 rfl ?_
      refine pg_if_lt (tgt := 277) h d_Mod_takeHeader_256 rfl (fun e256 => ?_) (fun e256 => absurd e256 (fun q => q hl0))
      refine pg_iinc (w := 1) h d_Mod_takeHeader_277 rfl (by decide) (Nat.le_of_ble_eq_true rfl) rfl rfl ?_
      refine pg_goto (tgt := 203) h d_Mod_takeHeader_280 rfl ?_
      rw [← nI_succ (8 + c)]
      rw [if_pos hl, if_pos hl] at eT
      exact ih (c + 1) _ _ (by omega) (by first | (rw [eT]; exact hR220) | (rw [if_pos hv, eT]; exact hR220) | (rw [if_neg hv, eT]; exact hR220)) (hg220)
    have hl0 : ¬ letV (nI b) < 0 := fun q => hl ((letV_neg hb2).mp q)
    by_cases ht : nb (letT Ac (nI b) 14 m 0) = 0
    · skip
      by_cases hv : v4 / 2 - v4 / 2 / 2 * 2 = 0
      · rw [if_pos hv] at eT
        refine pg_iload h d_Mod_takeHeader_203 rfl ?_
        refine pg_bipush (v := 20) h d_Mod_takeHeader_205 (by decide) ?_
        refine pg_icmp_ge (tgt := 283) h d_Mod_takeHeader_207 rfl (fun e207 => absurd e207 (nI_ge (show 8 + c < 20 by omega) (by decide))) (fun e207 => ?_)
        refine pg_aload_n h d_Mod_takeHeader_210 rfl ?_
        refine pg_aload_n h d_Mod_takeHeader_211 rfl ?_
        refine pf_get h ok d_Mod_takeHeader_212 f_Mod_38 (by first | rfl | exact hk | exact hk2 | exact dm12 _ | assumption) rfl rfl ?_
        refine pg_iconst (v := 2) h d_Mod_takeHeader_215 (by decide) ?_
        refine pg_iload h d_Mod_takeHeader_216 rfl ?_
        refine pg_iadd h d_Mod_takeHeader_218 ?_
        refine pf_ild h ok d_Mod_takeHeader_219 (by first | rfl | exact hk | exact hk2 | exact dm12 _ | assumption) rfl (pg_ixN (nI_add 2 (8 + c)) (show 2 + (8 + c) < 22 by omega) (by decide)) ?_
        rw [q0]
        refine pm_cV h ok (hR) (hg) d_Mod_takeHeader_220 m_Mod_letter l_Mod_100 (c_Mod_letter w ok Ac S0 z b hb2) rfl rfl rfl (Nat.le_of_ble_eq_true rfl) ⟨(Nat.le_of_ble_eq_true rfl), (Nat.le_of_ble_eq_true rfl)⟩ ⟨Nat.le_refl _, Nat.le_refl _⟩ (fun S220 hR220 hg220 => ?_)
        refine pg_istore h d_Mod_takeHeader_223 (Nat.le_of_ble_eq_true rfl) rfl rfl ?_
        refine pg_iload h d_Mod_takeHeader_225 rfl ?_
        refine pg_if_lt (tgt := 254) h d_Mod_takeHeader_227 rfl (fun e227 => absurd e227 hl0) (fun e227 => ?_)
        refine pg_aload_n h d_Mod_takeHeader_230 rfl ?_
        refine pf_get h ok d_Mod_takeHeader_231 f_Mod_7 (by first | rfl | exact hk | exact hk2 | exact dm12 _ | assumption) rfl rfl ?_
        refine pg_iload_n h d_Mod_takeHeader_234 rfl ?_
        refine pf_zld h ok d_Mod_takeHeader_235 (by first | rfl | exact hk | exact hk2 | exact dm12 _ | assumption) rfl (pg_ixN rfl (show m < 13 by omega) (by decide)) ?_
        rw [show nb (S220 21 0 m) = nb (letT Ac (nI b) 14 m 0) from (hR220.2.2.2.2.2 m (Or.inl (by omega))).1]
        refine pg_if_eq (tgt := 254) h d_Mod_takeHeader_236 rfl (fun e236 => ?_) (fun e236 => absurd e236 (fun q => q ht))
        refine pg_iload h d_Mod_takeHeader_254 rfl ?_
        refine pg_if_lt (tgt := 277) h d_Mod_takeHeader_256 rfl (fun e256 => absurd e256 hl0) (fun e256 => ?_)
        refine pg_iload h d_Mod_takeHeader_259 rfl ?_
        refine pg_iconst (v := 2) h d_Mod_takeHeader_261 (by decide) ?_
        refine pg_idiv h d_Mod_takeHeader_262 (by decide) ?_
        refine pg_iconst (v := 2) h d_Mod_takeHeader_263 (by decide) ?_
        refine pg_irem h d_Mod_takeHeader_264 (by decide) ?_
        refine pg_if_ne (tgt := 277) h d_Mod_takeHeader_265 rfl (fun e265 => absurd e265 (fun q => q hv)) (fun e265 => ?_)
        refine pg_aload_n h d_Mod_takeHeader_268 rfl ?_
        refine pf_get h ok d_Mod_takeHeader_269 f_Mod_35 (by first | rfl | exact hk | exact hk2 | exact dm12 _ | assumption) rfl rfl ?_
        refine pg_iload h d_Mod_takeHeader_272 rfl ?_
        refine pg_iload h d_Mod_takeHeader_274 rfl ?_
        refine pf_ist h ok d_Mod_takeHeader_276 (by first | rfl | exact hk | exact hk2 | exact dm12 _ | assumption) (fun _ => rfl) (pg_ixN rfl (show 8 + c < 20 by omega) (by decide)) ?_
        refine pg_iinc (w := 1) h d_Mod_takeHeader_277 rfl (by decide) (Nat.le_of_ble_eq_true rfl) rfl rfl ?_
        refine pg_goto (tgt := 203) h d_Mod_takeHeader_280 rfl ?_
        rw [← nI_succ (8 + c)]
        rw [if_neg hl, if_neg (show ¬ nb (1 : Int32) = 0 by decide), if_neg hl, if_pos ht] at eT
        exact ih (c + 1) _ _ (by omega) (by first | (rw [eT]; exact (hR220.rol)) | (rw [if_pos hv, eT]; exact (hR220.rol)) | (rw [if_neg hv, eT]; exact (hR220.rol))) ((hg220).st (by decide))
      · rw [if_neg hv] at eT
        refine pg_iload h d_Mod_takeHeader_203 rfl ?_
        refine pg_bipush (v := 20) h d_Mod_takeHeader_205 (by decide) ?_
        refine pg_icmp_ge (tgt := 283) h d_Mod_takeHeader_207 rfl (fun e207 => absurd e207 (nI_ge (show 8 + c < 20 by omega) (by decide))) (fun e207 => ?_)
        refine pg_aload_n h d_Mod_takeHeader_210 rfl ?_
        refine pg_aload_n h d_Mod_takeHeader_211 rfl ?_
        refine pf_get h ok d_Mod_takeHeader_212 f_Mod_38 (by first | rfl | exact hk | exact hk2 | exact dm12 _ | assumption) rfl rfl ?_
        refine pg_iconst (v := 2) h d_Mod_takeHeader_215 (by decide) ?_
        refine pg_iload h d_Mod_takeHeader_216 rfl ?_
        refine pg_iadd h d_Mod_takeHeader_218 ?_
        refine pf_ild h ok d_Mod_takeHeader_219 (by first | rfl | exact hk | exact hk2 | exact dm12 _ | assumption) rfl (pg_ixN (nI_add 2 (8 + c)) (show 2 + (8 + c) < 22 by omega) (by decide)) ?_
        rw [q0]
        refine pm_cV h ok (hR) (hg) d_Mod_takeHeader_220 m_Mod_letter l_Mod_100 (c_Mod_letter w ok Ac S0 z b hb2) rfl rfl rfl (Nat.le_of_ble_eq_true rfl) ⟨(Nat.le_of_ble_eq_true rfl), (Nat.le_of_ble_eq_true rfl)⟩ ⟨Nat.le_refl _, Nat.le_refl _⟩ (fun S220 hR220 hg220 => ?_)
        refine pg_istore h d_Mod_takeHeader_223 (Nat.le_of_ble_eq_true rfl) rfl rfl ?_
        refine pg_iload h d_Mod_takeHeader_225 rfl ?_
        refine pg_if_lt (tgt := 254) h d_Mod_takeHeader_227 rfl (fun e227 => absurd e227 hl0) (fun e227 => ?_)
        refine pg_aload_n h d_Mod_takeHeader_230 rfl ?_
        refine pf_get h ok d_Mod_takeHeader_231 f_Mod_7 (by first | rfl | exact hk | exact hk2 | exact dm12 _ | assumption) rfl rfl ?_
        refine pg_iload_n h d_Mod_takeHeader_234 rfl ?_
        refine pf_zld h ok d_Mod_takeHeader_235 (by first | rfl | exact hk | exact hk2 | exact dm12 _ | assumption) rfl (pg_ixN rfl (show m < 13 by omega) (by decide)) ?_
        rw [show nb (S220 21 0 m) = nb (letT Ac (nI b) 14 m 0) from (hR220.2.2.2.2.2 m (Or.inl (by omega))).1]
        refine pg_if_eq (tgt := 254) h d_Mod_takeHeader_236 rfl (fun e236 => ?_) (fun e236 => absurd e236 (fun q => q ht))
        refine pg_iload h d_Mod_takeHeader_254 rfl ?_
        refine pg_if_lt (tgt := 277) h d_Mod_takeHeader_256 rfl (fun e256 => absurd e256 hl0) (fun e256 => ?_)
        refine pg_iload h d_Mod_takeHeader_259 rfl ?_
        refine pg_iconst (v := 2) h d_Mod_takeHeader_261 (by decide) ?_
        refine pg_idiv h d_Mod_takeHeader_262 (by decide) ?_
        refine pg_iconst (v := 2) h d_Mod_takeHeader_263 (by decide) ?_
        refine pg_irem h d_Mod_takeHeader_264 (by decide) ?_
        refine pg_if_ne (tgt := 277) h d_Mod_takeHeader_265 rfl (fun e265 => ?_) (fun e265 => absurd e265 hv)
        refine pg_iinc (w := 1) h d_Mod_takeHeader_277 rfl (by decide) (Nat.le_of_ble_eq_true rfl) rfl rfl ?_
        refine pg_goto (tgt := 203) h d_Mod_takeHeader_280 rfl ?_
        rw [← nI_succ (8 + c)]
        rw [if_neg hl, if_pos (show nb (0 : Int32) = 0 by decide), if_neg hl, if_pos ht] at eT
        exact ih (c + 1) _ _ (by omega) (by first | (rw [eT]; exact hR220) | (rw [if_pos hv, eT]; exact hR220) | (rw [if_neg hv, eT]; exact hR220)) (hg220)
    · skip
      by_cases hv : v4 / 2 - v4 / 2 / 2 * 2 = 0
      · rw [if_pos hv] at eT
        refine pg_iload h d_Mod_takeHeader_203 rfl ?_
        refine pg_bipush (v := 20) h d_Mod_takeHeader_205 (by decide) ?_
        refine pg_icmp_ge (tgt := 283) h d_Mod_takeHeader_207 rfl (fun e207 => absurd e207 (nI_ge (show 8 + c < 20 by omega) (by decide))) (fun e207 => ?_)
        refine pg_aload_n h d_Mod_takeHeader_210 rfl ?_
        refine pg_aload_n h d_Mod_takeHeader_211 rfl ?_
        refine pf_get h ok d_Mod_takeHeader_212 f_Mod_38 (by first | rfl | exact hk | exact hk2 | exact dm12 _ | assumption) rfl rfl ?_
        refine pg_iconst (v := 2) h d_Mod_takeHeader_215 (by decide) ?_
        refine pg_iload h d_Mod_takeHeader_216 rfl ?_
        refine pg_iadd h d_Mod_takeHeader_218 ?_
        refine pf_ild h ok d_Mod_takeHeader_219 (by first | rfl | exact hk | exact hk2 | exact dm12 _ | assumption) rfl (pg_ixN (nI_add 2 (8 + c)) (show 2 + (8 + c) < 22 by omega) (by decide)) ?_
        rw [q0]
        refine pm_cV h ok (hR) (hg) d_Mod_takeHeader_220 m_Mod_letter l_Mod_100 (c_Mod_letter w ok Ac S0 z b hb2) rfl rfl rfl (Nat.le_of_ble_eq_true rfl) ⟨(Nat.le_of_ble_eq_true rfl), (Nat.le_of_ble_eq_true rfl)⟩ ⟨Nat.le_refl _, Nat.le_refl _⟩ (fun S220 hR220 hg220 => ?_)
        refine pg_istore h d_Mod_takeHeader_223 (Nat.le_of_ble_eq_true rfl) rfl rfl ?_
        refine pg_iload h d_Mod_takeHeader_225 rfl ?_
        refine pg_if_lt (tgt := 254) h d_Mod_takeHeader_227 rfl (fun e227 => absurd e227 hl0) (fun e227 => ?_)
        refine pg_aload_n h d_Mod_takeHeader_230 rfl ?_
        refine pf_get h ok d_Mod_takeHeader_231 f_Mod_7 (by first | rfl | exact hk | exact hk2 | exact dm12 _ | assumption) rfl rfl ?_
        refine pg_iload_n h d_Mod_takeHeader_234 rfl ?_
        refine pf_zld h ok d_Mod_takeHeader_235 (by first | rfl | exact hk | exact hk2 | exact dm12 _ | assumption) rfl (pg_ixN rfl (show m < 13 by omega) (by decide)) ?_
        rw [show nb (S220 21 0 m) = nb (letT Ac (nI b) 14 m 0) from (hR220.2.2.2.2.2 m (Or.inl (by omega))).1]
        refine pg_if_eq (tgt := 254) h d_Mod_takeHeader_236 rfl (fun e236 => absurd e236 ht) (fun e236 => ?_)
        refine pg_aload_n h d_Mod_takeHeader_239 rfl ?_
        refine pf_get h ok d_Mod_takeHeader_240 f_Mod_29 (by first | rfl | exact hk | exact hk2 | exact dm12 _ | assumption) rfl rfl ?_
        refine pg_sipush (v := 160) h d_Mod_takeHeader_243 (by decide) ?_
        refine pg_iload_n h d_Mod_takeHeader_246 rfl ?_
        refine pg_imul h d_Mod_takeHeader_247 ?_
        refine pg_iload h d_Mod_takeHeader_248 rfl ?_
        refine pg_iadd h d_Mod_takeHeader_250 ?_
        refine pg_iload h d_Mod_takeHeader_251 rfl ?_
        refine pf_ist h ok d_Mod_takeHeader_253 (by first | rfl | exact hk | exact hk2 | exact dm12 _ | assumption) (fun _ => rfl) (pg_ixN (ml 160 m (8 + c)) (show 160 * m + (8 + c) < 2080 by omega) (by decide)) ?_
        refine pg_iload h d_Mod_takeHeader_254 rfl ?_
        refine pg_if_lt (tgt := 277) h d_Mod_takeHeader_256 rfl (fun e256 => absurd e256 hl0) (fun e256 => ?_)
        refine pg_iload h d_Mod_takeHeader_259 rfl ?_
        refine pg_iconst (v := 2) h d_Mod_takeHeader_261 (by decide) ?_
        refine pg_idiv h d_Mod_takeHeader_262 (by decide) ?_
        refine pg_iconst (v := 2) h d_Mod_takeHeader_263 (by decide) ?_
        refine pg_irem h d_Mod_takeHeader_264 (by decide) ?_
        refine pg_if_ne (tgt := 277) h d_Mod_takeHeader_265 rfl (fun e265 => absurd e265 (fun q => q hv)) (fun e265 => ?_)
        refine pg_aload_n h d_Mod_takeHeader_268 rfl ?_
        refine pf_get h ok d_Mod_takeHeader_269 f_Mod_35 (by first | rfl | exact hk | exact hk2 | exact dm12 _ | assumption) rfl rfl ?_
        refine pg_iload h d_Mod_takeHeader_272 rfl ?_
        refine pg_iload h d_Mod_takeHeader_274 rfl ?_
        refine pf_ist h ok d_Mod_takeHeader_276 (by first | rfl | exact hk | exact hk2 | exact dm12 _ | assumption) (fun _ => rfl) (pg_ixN rfl (show 8 + c < 20 by omega) (by decide)) ?_
        refine pg_iinc (w := 1) h d_Mod_takeHeader_277 rfl (by decide) (Nat.le_of_ble_eq_true rfl) rfl rfl ?_
        refine pg_goto (tgt := 203) h d_Mod_takeHeader_280 rfl ?_
        rw [← nI_succ (8 + c)]
        rw [if_neg hl, if_neg (show ¬ nb (1 : Int32) = 0 by decide), if_neg hl, if_neg ht, show 0 * 20 + (8 + c) = 8 + c by omega] at eT
        exact ih (c + 1) _ _ (by omega) (by first | (rw [eT]; exact ((hR220.let (k := m) (j := 8 + c) (by omega)).rol)) | (rw [if_pos hv, eT]; exact ((hR220.let (k := m) (j := 8 + c) (by omega)).rol)) | (rw [if_neg hv, eT]; exact ((hR220.let (k := m) (j := 8 + c) (by omega)).rol))) ((hg220.st (by decide)).st (by decide))
      · rw [if_neg hv] at eT
        refine pg_iload h d_Mod_takeHeader_203 rfl ?_
        refine pg_bipush (v := 20) h d_Mod_takeHeader_205 (by decide) ?_
        refine pg_icmp_ge (tgt := 283) h d_Mod_takeHeader_207 rfl (fun e207 => absurd e207 (nI_ge (show 8 + c < 20 by omega) (by decide))) (fun e207 => ?_)
        refine pg_aload_n h d_Mod_takeHeader_210 rfl ?_
        refine pg_aload_n h d_Mod_takeHeader_211 rfl ?_
        refine pf_get h ok d_Mod_takeHeader_212 f_Mod_38 (by first | rfl | exact hk | exact hk2 | exact dm12 _ | assumption) rfl rfl ?_
        refine pg_iconst (v := 2) h d_Mod_takeHeader_215 (by decide) ?_
        refine pg_iload h d_Mod_takeHeader_216 rfl ?_
        refine pg_iadd h d_Mod_takeHeader_218 ?_
        refine pf_ild h ok d_Mod_takeHeader_219 (by first | rfl | exact hk | exact hk2 | exact dm12 _ | assumption) rfl (pg_ixN (nI_add 2 (8 + c)) (show 2 + (8 + c) < 22 by omega) (by decide)) ?_
        rw [q0]
        refine pm_cV h ok (hR) (hg) d_Mod_takeHeader_220 m_Mod_letter l_Mod_100 (c_Mod_letter w ok Ac S0 z b hb2) rfl rfl rfl (Nat.le_of_ble_eq_true rfl) ⟨(Nat.le_of_ble_eq_true rfl), (Nat.le_of_ble_eq_true rfl)⟩ ⟨Nat.le_refl _, Nat.le_refl _⟩ (fun S220 hR220 hg220 => ?_)
        refine pg_istore h d_Mod_takeHeader_223 (Nat.le_of_ble_eq_true rfl) rfl rfl ?_
        refine pg_iload h d_Mod_takeHeader_225 rfl ?_
        refine pg_if_lt (tgt := 254) h d_Mod_takeHeader_227 rfl (fun e227 => absurd e227 hl0) (fun e227 => ?_)
        refine pg_aload_n h d_Mod_takeHeader_230 rfl ?_
        refine pf_get h ok d_Mod_takeHeader_231 f_Mod_7 (by first | rfl | exact hk | exact hk2 | exact dm12 _ | assumption) rfl rfl ?_
        refine pg_iload_n h d_Mod_takeHeader_234 rfl ?_
        refine pf_zld h ok d_Mod_takeHeader_235 (by first | rfl | exact hk | exact hk2 | exact dm12 _ | assumption) rfl (pg_ixN rfl (show m < 13 by omega) (by decide)) ?_
        rw [show nb (S220 21 0 m) = nb (letT Ac (nI b) 14 m 0) from (hR220.2.2.2.2.2 m (Or.inl (by omega))).1]
        refine pg_if_eq (tgt := 254) h d_Mod_takeHeader_236 rfl (fun e236 => absurd e236 ht) (fun e236 => ?_)
        refine pg_aload_n h d_Mod_takeHeader_239 rfl ?_
        refine pf_get h ok d_Mod_takeHeader_240 f_Mod_29 (by first | rfl | exact hk | exact hk2 | exact dm12 _ | assumption) rfl rfl ?_
        refine pg_sipush (v := 160) h d_Mod_takeHeader_243 (by decide) ?_
        refine pg_iload_n h d_Mod_takeHeader_246 rfl ?_
        refine pg_imul h d_Mod_takeHeader_247 ?_
        refine pg_iload h d_Mod_takeHeader_248 rfl ?_
        refine pg_iadd h d_Mod_takeHeader_250 ?_
        refine pg_iload h d_Mod_takeHeader_251 rfl ?_
        refine pf_ist h ok d_Mod_takeHeader_253 (by first | rfl | exact hk | exact hk2 | exact dm12 _ | assumption) (fun _ => rfl) (pg_ixN (ml 160 m (8 + c)) (show 160 * m + (8 + c) < 2080 by omega) (by decide)) ?_
        refine pg_iload h d_Mod_takeHeader_254 rfl ?_
        refine pg_if_lt (tgt := 277) h d_Mod_takeHeader_256 rfl (fun e256 => absurd e256 hl0) (fun e256 => ?_)
        refine pg_iload h d_Mod_takeHeader_259 rfl ?_
        refine pg_iconst (v := 2) h d_Mod_takeHeader_261 (by decide) ?_
        refine pg_idiv h d_Mod_takeHeader_262 (by decide) ?_
        refine pg_iconst (v := 2) h d_Mod_takeHeader_263 (by decide) ?_
        refine pg_irem h d_Mod_takeHeader_264 (by decide) ?_
        refine pg_if_ne (tgt := 277) h d_Mod_takeHeader_265 rfl (fun e265 => ?_) (fun e265 => absurd e265 hv)
        refine pg_iinc (w := 1) h d_Mod_takeHeader_277 rfl (by decide) (Nat.le_of_ble_eq_true rfl) rfl rfl ?_
        refine pg_goto (tgt := 203) h d_Mod_takeHeader_280 rfl ?_
        rw [← nI_succ (8 + c)]
        rw [if_neg hl, if_pos (show nb (0 : Int32) = 0 by decide), if_neg hl, if_neg ht, show 0 * 20 + (8 + c) = 8 + c by omega] at eT
        exact ih (c + 1) _ _ (by omega) (by first | (rw [eT]; exact (hR220.let (k := m) (j := 8 + c) (by omega))) | (rw [if_pos hv, eT]; exact (hR220.let (k := m) (j := 8 + c) (by omega))) | (rw [if_neg hv, eT]; exact (hR220.let (k := m) (j := 8 + c) (by omega)))) (hg220.st (by decide))

set_option maxRecDepth 100000 in
set_option maxHeartbeats 4000000 in
theorem c_Mod_takeHeader (w : pf_W) (ok : pf_ok w) (A S0 : pf_S) (z : Int32) (hw : 1 ≤ w.2.2.1 ∧ w.2.2.1 ≤ 4) (hu : Uq A w.2.2.1) (hb : ByI A) (m : Nat) (hm : m < 8) : pm_C w y_Mod_takeHeader b_Mod_takeHeader 10 none 3 74 [.ref (w.2.1 20 0), .int (nI m)] z (A) S0 (none) z (thdF A w.2.2.1 m) := by
  refine pm_enter (by decide) (Nat.le_of_ble_eq_true rfl) (lv0 := [some (.ref (w.2.1 20 0)), some (.int (nI m)), none, none, none, none, none, none, none, none]) rfl (fun κ S h hR hg => ?_)
  obtain ⟨b0, hb0, e0⟩ := hb 2 (by decide)
  obtain ⟨b1, hb1, e1⟩ := hb 3 (by decide)
  obtain ⟨b2, hb2, e2⟩ := hb 4 (by decide)
  obtain ⟨b3, hb3, e3⟩ := hb 5 (by decide)
  obtain ⟨b4, hb4, e4⟩ := hb 6 (by decide)
  obtain ⟨b5, hb5, e5⟩ := hb 7 (by decide)
  have f0 : A 3 0 (2 + 0) = nI b0 := by
    exact e0
  have f1 : (rhS 0 A) 3 0 (2 + 1) = nI b1 := by
    rw [rhS_3]
    exact e1
  have f2 : (rhS 1 (rhS 0 A)) 3 0 (2 + 2) = nI b2 := by
    rw [rhS_3, rhS_3]
    exact e2
  have f3 : (rhS 2 (rhS 1 (rhS 0 A))) 3 0 (2 + 3) = nI b3 := by
    rw [rhS_3, rhS_3, rhS_3]
    exact e3
  have f4 : (rhS 3 (rhS 2 (rhS 1 (rhS 0 A)))) 3 0 (2 + 4) = nI b4 := by
    rw [rhS_3, rhS_3, rhS_3, rhS_3]
    exact e4
  have f5 : (rhS 4 (rhS 3 (rhS 2 (rhS 1 (rhS 0 A))))) 3 0 (2 + 5) = nI b5 := by
    rw [rhS_3, rhS_3, rhS_3, rhS_3, rhS_3]
    exact e5
  by_cases n0 : nibV (nI b0) = -1
  · have eth : thdF A w.2.2.1 m = drp (rhS 0 A) := by
      have s0 : rhFrom 6 0 A = (0, (rhS 0 A)) := rh_fail f0 n0
      rw [thdF, rhF, s0, if_pos rfl]
      rfl
    rw [eth]
    refine pg_aload_n h d_Mod_takeHeader_0 rfl ?_
    refine pg_aload_n h d_Mod_takeHeader_1 rfl ?_
    refine pf_get h ok d_Mod_takeHeader_2 f_Mod_38 (by first | rfl | exact hk | exact hk2 | exact dm12 _ | assumption) rfl rfl ?_
    refine pg_iconst (v := 2) h d_Mod_takeHeader_5 (by decide) ?_
    refine pf_ild h ok d_Mod_takeHeader_6 (by first | rfl | exact hk | exact hk2 | exact dm12 _ | assumption) rfl (pg_ixN (j := 2) rfl (by decide) (by decide)) ?_
    rw [show S 30 0 2 = nI b0 from (hR.2.2.1 2 (by decide)).trans f0]
    refine pm_cV h ok (hR) (hg) d_Mod_takeHeader_7 m_Mod_nibble l_Mod_90 (c_Mod_nibble w ok A S0 z b0 hb0) rfl rfl rfl (Nat.le_of_ble_eq_true rfl) ⟨(Nat.le_of_ble_eq_true rfl), (Nat.le_of_ble_eq_true rfl)⟩ ⟨Nat.le_refl _, Nat.le_refl _⟩ (fun S7 hR7 hg7 => ?_)
    refine pg_istore_n h d_Mod_takeHeader_10 (Nat.le_of_ble_eq_true rfl) rfl rfl ?_
    refine pg_iload_n h d_Mod_takeHeader_11 rfl ?_
    refine pg_if_ge (tgt := 19) h d_Mod_takeHeader_12 rfl (fun e12 => absurd e12 (by rw [n0]; decide)) (fun e12 => ?_)
    refine pg_iconst (v := (-1)) h d_Mod_takeHeader_15 (by decide) ?_
    refine pg_goto (tgt := 29) h d_Mod_takeHeader_16 rfl ?_
    refine pg_istore_n h d_Mod_takeHeader_29 (Nat.le_of_ble_eq_true rfl) rfl rfl ?_
    refine pg_iload_n h d_Mod_takeHeader_30 rfl ?_
    refine pg_if_ge (tgt := 38) h d_Mod_takeHeader_31 rfl (fun e31 => absurd e31 (by decide)) (fun e31 => ?_)
    refine pg_iconst (v := (-1)) h d_Mod_takeHeader_34 (by decide) ?_
    refine pg_goto (tgt := 48) h d_Mod_takeHeader_35 rfl ?_
    refine pg_istore h d_Mod_takeHeader_48 (Nat.le_of_ble_eq_true rfl) rfl rfl ?_
    refine pg_iload h d_Mod_takeHeader_50 rfl ?_
    refine pg_if_ge (tgt := 59) h d_Mod_takeHeader_52 rfl (fun e52 => absurd e52 (by decide)) (fun e52 => ?_)
    refine pg_iconst (v := (-1)) h d_Mod_takeHeader_55 (by decide) ?_
    refine pg_goto (tgt := 69) h d_Mod_takeHeader_56 rfl ?_
    refine pg_istore h d_Mod_takeHeader_69 (Nat.le_of_ble_eq_true rfl) rfl rfl ?_
    refine pg_iload h d_Mod_takeHeader_71 rfl ?_
    refine pg_if_ge (tgt := 80) h d_Mod_takeHeader_73 rfl (fun e73 => absurd e73 (by decide)) (fun e73 => ?_)
    refine pg_iconst (v := (-1)) h d_Mod_takeHeader_76 (by decide) ?_
    refine pg_goto (tgt := 91) h d_Mod_takeHeader_77 rfl ?_
    refine pg_istore h d_Mod_takeHeader_91 (Nat.le_of_ble_eq_true rfl) rfl rfl ?_
    refine pg_iload h d_Mod_takeHeader_93 rfl ?_
    refine pg_if_ge (tgt := 102) h d_Mod_takeHeader_95 rfl (fun e95 => absurd e95 (by decide)) (fun e95 => ?_)
    refine pg_iconst (v := (-1)) h d_Mod_takeHeader_98 (by decide) ?_
    refine pg_goto (tgt := 113) h d_Mod_takeHeader_99 rfl ?_
    refine pg_istore h d_Mod_takeHeader_113 (Nat.le_of_ble_eq_true rfl) rfl rfl ?_
    refine pg_iload h d_Mod_takeHeader_115 rfl ?_
    refine pg_if_ge (tgt := 125) h d_Mod_takeHeader_117 rfl (fun e117 => absurd e117 (by decide)) (fun e117 => ?_)
    refine pg_aload_n h d_Mod_takeHeader_120 rfl ?_
    refine pm_cV0 h ok (rhS_Rm f0 hR7) (hg7) d_Mod_takeHeader_121 m_Mod_drop l_Mod_93 (c_Mod_drop w ok (rhS 0 A) S0 z) rfl rfl rfl (Nat.le_of_ble_eq_true rfl) ⟨(Nat.le_of_ble_eq_true rfl), (Nat.le_of_ble_eq_true rfl)⟩ ⟨Nat.le_refl _, Nat.le_refl _⟩ (fun S121 hR121 hg121 => ?_)
    exact pm_vret h d_Mod_takeHeader_124 (hR121) (hg121)
  by_cases n1 : nibV (nI b1) = -1
  · have eth : thdF A w.2.2.1 m = drp (rhS 1 (rhS 0 A)) := by
      have s0 : rhFrom 6 0 A = rhFrom 5 1 (rhS 0 A) := rh_step f0 n0
      have s1 : rhFrom 5 1 (rhS 0 A) = (0, (rhS 1 (rhS 0 A))) := rh_fail f1 n1
      rw [thdF, rhF, s0, s1, if_pos rfl]
      rfl
    rw [eth]
    refine pg_aload_n h d_Mod_takeHeader_0 rfl ?_
    refine pg_aload_n h d_Mod_takeHeader_1 rfl ?_
    refine pf_get h ok d_Mod_takeHeader_2 f_Mod_38 (by first | rfl | exact hk | exact hk2 | exact dm12 _ | assumption) rfl rfl ?_
    refine pg_iconst (v := 2) h d_Mod_takeHeader_5 (by decide) ?_
    refine pf_ild h ok d_Mod_takeHeader_6 (by first | rfl | exact hk | exact hk2 | exact dm12 _ | assumption) rfl (pg_ixN (j := 2) rfl (by decide) (by decide)) ?_
    rw [show S 30 0 2 = nI b0 from (hR.2.2.1 2 (by decide)).trans f0]
    refine pm_cV h ok (hR) (hg) d_Mod_takeHeader_7 m_Mod_nibble l_Mod_90 (c_Mod_nibble w ok A S0 z b0 hb0) rfl rfl rfl (Nat.le_of_ble_eq_true rfl) ⟨(Nat.le_of_ble_eq_true rfl), (Nat.le_of_ble_eq_true rfl)⟩ ⟨Nat.le_refl _, Nat.le_refl _⟩ (fun S7 hR7 hg7 => ?_)
    refine pg_istore_n h d_Mod_takeHeader_10 (Nat.le_of_ble_eq_true rfl) rfl rfl ?_
    refine pg_iload_n h d_Mod_takeHeader_11 rfl ?_
    refine pg_if_ge (tgt := 19) h d_Mod_takeHeader_12 rfl (fun e12 => ?_) (fun e12 => absurd e12 (fun q => q (nibV_ge n0)))
    refine pg_aload_n h d_Mod_takeHeader_19 rfl ?_
    refine pg_aload_n h d_Mod_takeHeader_20 rfl ?_
    refine pf_get h ok d_Mod_takeHeader_21 f_Mod_38 (by first | rfl | exact hk | exact hk2 | exact dm12 _ | assumption) rfl rfl ?_
    refine pg_iconst (v := 3) h d_Mod_takeHeader_24 (by decide) ?_
    refine pf_ild h ok d_Mod_takeHeader_25 (by first | rfl | exact hk | exact hk2 | exact dm12 _ | assumption) rfl (pg_ixN (j := 3) rfl (by decide) (by decide)) ?_
    rw [show S7 30 0 3 = nI b1 from ((rhS_Rm f0 hR7).2.2.1 3 (by decide)).trans f1]
    refine pm_cV h ok ((rhS_Rm f0 hR7)) (hg7) d_Mod_takeHeader_26 m_Mod_nibble l_Mod_90 (c_Mod_nibble w ok (rhS 0 A) S0 z b1 hb1) rfl rfl rfl (Nat.le_of_ble_eq_true rfl) ⟨(Nat.le_of_ble_eq_true rfl), (Nat.le_of_ble_eq_true rfl)⟩ ⟨Nat.le_refl _, Nat.le_refl _⟩ (fun S26 hR26 hg26 => ?_)
    refine pg_istore_n h d_Mod_takeHeader_29 (Nat.le_of_ble_eq_true rfl) rfl rfl ?_
    refine pg_iload_n h d_Mod_takeHeader_30 rfl ?_
    refine pg_if_ge (tgt := 38) h d_Mod_takeHeader_31 rfl (fun e31 => absurd e31 (by rw [n1]; decide)) (fun e31 => ?_)
    refine pg_iconst (v := (-1)) h d_Mod_takeHeader_34 (by decide) ?_
    refine pg_goto (tgt := 48) h d_Mod_takeHeader_35 rfl ?_
    refine pg_istore h d_Mod_takeHeader_48 (Nat.le_of_ble_eq_true rfl) rfl rfl ?_
    refine pg_iload h d_Mod_takeHeader_50 rfl ?_
    refine pg_if_ge (tgt := 59) h d_Mod_takeHeader_52 rfl (fun e52 => absurd e52 (by decide)) (fun e52 => ?_)
    refine pg_iconst (v := (-1)) h d_Mod_takeHeader_55 (by decide) ?_
    refine pg_goto (tgt := 69) h d_Mod_takeHeader_56 rfl ?_
    refine pg_istore h d_Mod_takeHeader_69 (Nat.le_of_ble_eq_true rfl) rfl rfl ?_
    refine pg_iload h d_Mod_takeHeader_71 rfl ?_
    refine pg_if_ge (tgt := 80) h d_Mod_takeHeader_73 rfl (fun e73 => absurd e73 (by decide)) (fun e73 => ?_)
    refine pg_iconst (v := (-1)) h d_Mod_takeHeader_76 (by decide) ?_
    refine pg_goto (tgt := 91) h d_Mod_takeHeader_77 rfl ?_
    refine pg_istore h d_Mod_takeHeader_91 (Nat.le_of_ble_eq_true rfl) rfl rfl ?_
    refine pg_iload h d_Mod_takeHeader_93 rfl ?_
    refine pg_if_ge (tgt := 102) h d_Mod_takeHeader_95 rfl (fun e95 => absurd e95 (by decide)) (fun e95 => ?_)
    refine pg_iconst (v := (-1)) h d_Mod_takeHeader_98 (by decide) ?_
    refine pg_goto (tgt := 113) h d_Mod_takeHeader_99 rfl ?_
    refine pg_istore h d_Mod_takeHeader_113 (Nat.le_of_ble_eq_true rfl) rfl rfl ?_
    refine pg_iload h d_Mod_takeHeader_115 rfl ?_
    refine pg_if_ge (tgt := 125) h d_Mod_takeHeader_117 rfl (fun e117 => absurd e117 (by decide)) (fun e117 => ?_)
    refine pg_aload_n h d_Mod_takeHeader_120 rfl ?_
    refine pm_cV0 h ok (rhS_Rm f1 hR26) (hg26) d_Mod_takeHeader_121 m_Mod_drop l_Mod_93 (c_Mod_drop w ok (rhS 1 (rhS 0 A)) S0 z) rfl rfl rfl (Nat.le_of_ble_eq_true rfl) ⟨(Nat.le_of_ble_eq_true rfl), (Nat.le_of_ble_eq_true rfl)⟩ ⟨Nat.le_refl _, Nat.le_refl _⟩ (fun S121 hR121 hg121 => ?_)
    exact pm_vret h d_Mod_takeHeader_124 (hR121) (hg121)
  by_cases n2 : nibV (nI b2) = -1
  · have eth : thdF A w.2.2.1 m = drp (rhS 2 (rhS 1 (rhS 0 A))) := by
      have s0 : rhFrom 6 0 A = rhFrom 5 1 (rhS 0 A) := rh_step f0 n0
      have s1 : rhFrom 5 1 (rhS 0 A) = rhFrom 4 2 (rhS 1 (rhS 0 A)) := rh_step f1 n1
      have s2 : rhFrom 4 2 (rhS 1 (rhS 0 A)) = (0, (rhS 2 (rhS 1 (rhS 0 A)))) := rh_fail f2 n2
      rw [thdF, rhF, s0, s1, s2, if_pos rfl]
      rfl
    rw [eth]
    refine pg_aload_n h d_Mod_takeHeader_0 rfl ?_
    refine pg_aload_n h d_Mod_takeHeader_1 rfl ?_
    refine pf_get h ok d_Mod_takeHeader_2 f_Mod_38 (by first | rfl | exact hk | exact hk2 | exact dm12 _ | assumption) rfl rfl ?_
    refine pg_iconst (v := 2) h d_Mod_takeHeader_5 (by decide) ?_
    refine pf_ild h ok d_Mod_takeHeader_6 (by first | rfl | exact hk | exact hk2 | exact dm12 _ | assumption) rfl (pg_ixN (j := 2) rfl (by decide) (by decide)) ?_
    rw [show S 30 0 2 = nI b0 from (hR.2.2.1 2 (by decide)).trans f0]
    refine pm_cV h ok (hR) (hg) d_Mod_takeHeader_7 m_Mod_nibble l_Mod_90 (c_Mod_nibble w ok A S0 z b0 hb0) rfl rfl rfl (Nat.le_of_ble_eq_true rfl) ⟨(Nat.le_of_ble_eq_true rfl), (Nat.le_of_ble_eq_true rfl)⟩ ⟨Nat.le_refl _, Nat.le_refl _⟩ (fun S7 hR7 hg7 => ?_)
    refine pg_istore_n h d_Mod_takeHeader_10 (Nat.le_of_ble_eq_true rfl) rfl rfl ?_
    refine pg_iload_n h d_Mod_takeHeader_11 rfl ?_
    refine pg_if_ge (tgt := 19) h d_Mod_takeHeader_12 rfl (fun e12 => ?_) (fun e12 => absurd e12 (fun q => q (nibV_ge n0)))
    refine pg_aload_n h d_Mod_takeHeader_19 rfl ?_
    refine pg_aload_n h d_Mod_takeHeader_20 rfl ?_
    refine pf_get h ok d_Mod_takeHeader_21 f_Mod_38 (by first | rfl | exact hk | exact hk2 | exact dm12 _ | assumption) rfl rfl ?_
    refine pg_iconst (v := 3) h d_Mod_takeHeader_24 (by decide) ?_
    refine pf_ild h ok d_Mod_takeHeader_25 (by first | rfl | exact hk | exact hk2 | exact dm12 _ | assumption) rfl (pg_ixN (j := 3) rfl (by decide) (by decide)) ?_
    rw [show S7 30 0 3 = nI b1 from ((rhS_Rm f0 hR7).2.2.1 3 (by decide)).trans f1]
    refine pm_cV h ok ((rhS_Rm f0 hR7)) (hg7) d_Mod_takeHeader_26 m_Mod_nibble l_Mod_90 (c_Mod_nibble w ok (rhS 0 A) S0 z b1 hb1) rfl rfl rfl (Nat.le_of_ble_eq_true rfl) ⟨(Nat.le_of_ble_eq_true rfl), (Nat.le_of_ble_eq_true rfl)⟩ ⟨Nat.le_refl _, Nat.le_refl _⟩ (fun S26 hR26 hg26 => ?_)
    refine pg_istore_n h d_Mod_takeHeader_29 (Nat.le_of_ble_eq_true rfl) rfl rfl ?_
    refine pg_iload_n h d_Mod_takeHeader_30 rfl ?_
    refine pg_if_ge (tgt := 38) h d_Mod_takeHeader_31 rfl (fun e31 => ?_) (fun e31 => absurd e31 (fun q => q (nibV_ge n1)))
    refine pg_aload_n h d_Mod_takeHeader_38 rfl ?_
    refine pg_aload_n h d_Mod_takeHeader_39 rfl ?_
    refine pf_get h ok d_Mod_takeHeader_40 f_Mod_38 (by first | rfl | exact hk | exact hk2 | exact dm12 _ | assumption) rfl rfl ?_
    refine pg_iconst (v := 4) h d_Mod_takeHeader_43 (by decide) ?_
    refine pf_ild h ok d_Mod_takeHeader_44 (by first | rfl | exact hk | exact hk2 | exact dm12 _ | assumption) rfl (pg_ixN (j := 4) rfl (by decide) (by decide)) ?_
    rw [show S26 30 0 4 = nI b2 from ((rhS_Rm f1 hR26).2.2.1 4 (by decide)).trans f2]
    refine pm_cV h ok ((rhS_Rm f1 hR26)) (hg26) d_Mod_takeHeader_45 m_Mod_nibble l_Mod_90 (c_Mod_nibble w ok (rhS 1 (rhS 0 A)) S0 z b2 hb2) rfl rfl rfl (Nat.le_of_ble_eq_true rfl) ⟨(Nat.le_of_ble_eq_true rfl), (Nat.le_of_ble_eq_true rfl)⟩ ⟨Nat.le_refl _, Nat.le_refl _⟩ (fun S45 hR45 hg45 => ?_)
    refine pg_istore h d_Mod_takeHeader_48 (Nat.le_of_ble_eq_true rfl) rfl rfl ?_
    refine pg_iload h d_Mod_takeHeader_50 rfl ?_
    refine pg_if_ge (tgt := 59) h d_Mod_takeHeader_52 rfl (fun e52 => absurd e52 (by rw [n2]; decide)) (fun e52 => ?_)
    refine pg_iconst (v := (-1)) h d_Mod_takeHeader_55 (by decide) ?_
    refine pg_goto (tgt := 69) h d_Mod_takeHeader_56 rfl ?_
    refine pg_istore h d_Mod_takeHeader_69 (Nat.le_of_ble_eq_true rfl) rfl rfl ?_
    refine pg_iload h d_Mod_takeHeader_71 rfl ?_
    refine pg_if_ge (tgt := 80) h d_Mod_takeHeader_73 rfl (fun e73 => absurd e73 (by decide)) (fun e73 => ?_)
    refine pg_iconst (v := (-1)) h d_Mod_takeHeader_76 (by decide) ?_
    refine pg_goto (tgt := 91) h d_Mod_takeHeader_77 rfl ?_
    refine pg_istore h d_Mod_takeHeader_91 (Nat.le_of_ble_eq_true rfl) rfl rfl ?_
    refine pg_iload h d_Mod_takeHeader_93 rfl ?_
    refine pg_if_ge (tgt := 102) h d_Mod_takeHeader_95 rfl (fun e95 => absurd e95 (by decide)) (fun e95 => ?_)
    refine pg_iconst (v := (-1)) h d_Mod_takeHeader_98 (by decide) ?_
    refine pg_goto (tgt := 113) h d_Mod_takeHeader_99 rfl ?_
    refine pg_istore h d_Mod_takeHeader_113 (Nat.le_of_ble_eq_true rfl) rfl rfl ?_
    refine pg_iload h d_Mod_takeHeader_115 rfl ?_
    refine pg_if_ge (tgt := 125) h d_Mod_takeHeader_117 rfl (fun e117 => absurd e117 (by decide)) (fun e117 => ?_)
    refine pg_aload_n h d_Mod_takeHeader_120 rfl ?_
    refine pm_cV0 h ok (rhS_Rm f2 hR45) (hg45) d_Mod_takeHeader_121 m_Mod_drop l_Mod_93 (c_Mod_drop w ok (rhS 2 (rhS 1 (rhS 0 A))) S0 z) rfl rfl rfl (Nat.le_of_ble_eq_true rfl) ⟨(Nat.le_of_ble_eq_true rfl), (Nat.le_of_ble_eq_true rfl)⟩ ⟨Nat.le_refl _, Nat.le_refl _⟩ (fun S121 hR121 hg121 => ?_)
    exact pm_vret h d_Mod_takeHeader_124 (hR121) (hg121)
  by_cases n3 : nibV (nI b3) = -1
  · have eth : thdF A w.2.2.1 m = drp (rhS 3 (rhS 2 (rhS 1 (rhS 0 A)))) := by
      have s0 : rhFrom 6 0 A = rhFrom 5 1 (rhS 0 A) := rh_step f0 n0
      have s1 : rhFrom 5 1 (rhS 0 A) = rhFrom 4 2 (rhS 1 (rhS 0 A)) := rh_step f1 n1
      have s2 : rhFrom 4 2 (rhS 1 (rhS 0 A)) = rhFrom 3 3 (rhS 2 (rhS 1 (rhS 0 A))) := rh_step f2 n2
      have s3 : rhFrom 3 3 (rhS 2 (rhS 1 (rhS 0 A))) = (0, (rhS 3 (rhS 2 (rhS 1 (rhS 0 A))))) := rh_fail f3 n3
      rw [thdF, rhF, s0, s1, s2, s3, if_pos rfl]
      rfl
    rw [eth]
    refine pg_aload_n h d_Mod_takeHeader_0 rfl ?_
    refine pg_aload_n h d_Mod_takeHeader_1 rfl ?_
    refine pf_get h ok d_Mod_takeHeader_2 f_Mod_38 (by first | rfl | exact hk | exact hk2 | exact dm12 _ | assumption) rfl rfl ?_
    refine pg_iconst (v := 2) h d_Mod_takeHeader_5 (by decide) ?_
    refine pf_ild h ok d_Mod_takeHeader_6 (by first | rfl | exact hk | exact hk2 | exact dm12 _ | assumption) rfl (pg_ixN (j := 2) rfl (by decide) (by decide)) ?_
    rw [show S 30 0 2 = nI b0 from (hR.2.2.1 2 (by decide)).trans f0]
    refine pm_cV h ok (hR) (hg) d_Mod_takeHeader_7 m_Mod_nibble l_Mod_90 (c_Mod_nibble w ok A S0 z b0 hb0) rfl rfl rfl (Nat.le_of_ble_eq_true rfl) ⟨(Nat.le_of_ble_eq_true rfl), (Nat.le_of_ble_eq_true rfl)⟩ ⟨Nat.le_refl _, Nat.le_refl _⟩ (fun S7 hR7 hg7 => ?_)
    refine pg_istore_n h d_Mod_takeHeader_10 (Nat.le_of_ble_eq_true rfl) rfl rfl ?_
    refine pg_iload_n h d_Mod_takeHeader_11 rfl ?_
    refine pg_if_ge (tgt := 19) h d_Mod_takeHeader_12 rfl (fun e12 => ?_) (fun e12 => absurd e12 (fun q => q (nibV_ge n0)))
    refine pg_aload_n h d_Mod_takeHeader_19 rfl ?_
    refine pg_aload_n h d_Mod_takeHeader_20 rfl ?_
    refine pf_get h ok d_Mod_takeHeader_21 f_Mod_38 (by first | rfl | exact hk | exact hk2 | exact dm12 _ | assumption) rfl rfl ?_
    refine pg_iconst (v := 3) h d_Mod_takeHeader_24 (by decide) ?_
    refine pf_ild h ok d_Mod_takeHeader_25 (by first | rfl | exact hk | exact hk2 | exact dm12 _ | assumption) rfl (pg_ixN (j := 3) rfl (by decide) (by decide)) ?_
    rw [show S7 30 0 3 = nI b1 from ((rhS_Rm f0 hR7).2.2.1 3 (by decide)).trans f1]
    refine pm_cV h ok ((rhS_Rm f0 hR7)) (hg7) d_Mod_takeHeader_26 m_Mod_nibble l_Mod_90 (c_Mod_nibble w ok (rhS 0 A) S0 z b1 hb1) rfl rfl rfl (Nat.le_of_ble_eq_true rfl) ⟨(Nat.le_of_ble_eq_true rfl), (Nat.le_of_ble_eq_true rfl)⟩ ⟨Nat.le_refl _, Nat.le_refl _⟩ (fun S26 hR26 hg26 => ?_)
    refine pg_istore_n h d_Mod_takeHeader_29 (Nat.le_of_ble_eq_true rfl) rfl rfl ?_
    refine pg_iload_n h d_Mod_takeHeader_30 rfl ?_
    refine pg_if_ge (tgt := 38) h d_Mod_takeHeader_31 rfl (fun e31 => ?_) (fun e31 => absurd e31 (fun q => q (nibV_ge n1)))
    refine pg_aload_n h d_Mod_takeHeader_38 rfl ?_
    refine pg_aload_n h d_Mod_takeHeader_39 rfl ?_
    refine pf_get h ok d_Mod_takeHeader_40 f_Mod_38 (by first | rfl | exact hk | exact hk2 | exact dm12 _ | assumption) rfl rfl ?_
    refine pg_iconst (v := 4) h d_Mod_takeHeader_43 (by decide) ?_
    refine pf_ild h ok d_Mod_takeHeader_44 (by first | rfl | exact hk | exact hk2 | exact dm12 _ | assumption) rfl (pg_ixN (j := 4) rfl (by decide) (by decide)) ?_
    rw [show S26 30 0 4 = nI b2 from ((rhS_Rm f1 hR26).2.2.1 4 (by decide)).trans f2]
    refine pm_cV h ok ((rhS_Rm f1 hR26)) (hg26) d_Mod_takeHeader_45 m_Mod_nibble l_Mod_90 (c_Mod_nibble w ok (rhS 1 (rhS 0 A)) S0 z b2 hb2) rfl rfl rfl (Nat.le_of_ble_eq_true rfl) ⟨(Nat.le_of_ble_eq_true rfl), (Nat.le_of_ble_eq_true rfl)⟩ ⟨Nat.le_refl _, Nat.le_refl _⟩ (fun S45 hR45 hg45 => ?_)
    refine pg_istore h d_Mod_takeHeader_48 (Nat.le_of_ble_eq_true rfl) rfl rfl ?_
    refine pg_iload h d_Mod_takeHeader_50 rfl ?_
    refine pg_if_ge (tgt := 59) h d_Mod_takeHeader_52 rfl (fun e52 => ?_) (fun e52 => absurd e52 (fun q => q (nibV_ge n2)))
    refine pg_aload_n h d_Mod_takeHeader_59 rfl ?_
    refine pg_aload_n h d_Mod_takeHeader_60 rfl ?_
    refine pf_get h ok d_Mod_takeHeader_61 f_Mod_38 (by first | rfl | exact hk | exact hk2 | exact dm12 _ | assumption) rfl rfl ?_
    refine pg_iconst (v := 5) h d_Mod_takeHeader_64 (by decide) ?_
    refine pf_ild h ok d_Mod_takeHeader_65 (by first | rfl | exact hk | exact hk2 | exact dm12 _ | assumption) rfl (pg_ixN (j := 5) rfl (by decide) (by decide)) ?_
    rw [show S45 30 0 5 = nI b3 from ((rhS_Rm f2 hR45).2.2.1 5 (by decide)).trans f3]
    refine pm_cV h ok ((rhS_Rm f2 hR45)) (hg45) d_Mod_takeHeader_66 m_Mod_nibble l_Mod_90 (c_Mod_nibble w ok (rhS 2 (rhS 1 (rhS 0 A))) S0 z b3 hb3) rfl rfl rfl (Nat.le_of_ble_eq_true rfl) ⟨(Nat.le_of_ble_eq_true rfl), (Nat.le_of_ble_eq_true rfl)⟩ ⟨Nat.le_refl _, Nat.le_refl _⟩ (fun S66 hR66 hg66 => ?_)
    refine pg_istore h d_Mod_takeHeader_69 (Nat.le_of_ble_eq_true rfl) rfl rfl ?_
    refine pg_iload h d_Mod_takeHeader_71 rfl ?_
    refine pg_if_ge (tgt := 80) h d_Mod_takeHeader_73 rfl (fun e73 => absurd e73 (by rw [n3]; decide)) (fun e73 => ?_)
    refine pg_iconst (v := (-1)) h d_Mod_takeHeader_76 (by decide) ?_
    refine pg_goto (tgt := 91) h d_Mod_takeHeader_77 rfl ?_
    refine pg_istore h d_Mod_takeHeader_91 (Nat.le_of_ble_eq_true rfl) rfl rfl ?_
    refine pg_iload h d_Mod_takeHeader_93 rfl ?_
    refine pg_if_ge (tgt := 102) h d_Mod_takeHeader_95 rfl (fun e95 => absurd e95 (by decide)) (fun e95 => ?_)
    refine pg_iconst (v := (-1)) h d_Mod_takeHeader_98 (by decide) ?_
    refine pg_goto (tgt := 113) h d_Mod_takeHeader_99 rfl ?_
    refine pg_istore h d_Mod_takeHeader_113 (Nat.le_of_ble_eq_true rfl) rfl rfl ?_
    refine pg_iload h d_Mod_takeHeader_115 rfl ?_
    refine pg_if_ge (tgt := 125) h d_Mod_takeHeader_117 rfl (fun e117 => absurd e117 (by decide)) (fun e117 => ?_)
    refine pg_aload_n h d_Mod_takeHeader_120 rfl ?_
    refine pm_cV0 h ok (rhS_Rm f3 hR66) (hg66) d_Mod_takeHeader_121 m_Mod_drop l_Mod_93 (c_Mod_drop w ok (rhS 3 (rhS 2 (rhS 1 (rhS 0 A)))) S0 z) rfl rfl rfl (Nat.le_of_ble_eq_true rfl) ⟨(Nat.le_of_ble_eq_true rfl), (Nat.le_of_ble_eq_true rfl)⟩ ⟨Nat.le_refl _, Nat.le_refl _⟩ (fun S121 hR121 hg121 => ?_)
    exact pm_vret h d_Mod_takeHeader_124 (hR121) (hg121)
  by_cases n4 : nibV (nI b4) = -1
  · have eth : thdF A w.2.2.1 m = drp (rhS 4 (rhS 3 (rhS 2 (rhS 1 (rhS 0 A))))) := by
      have s0 : rhFrom 6 0 A = rhFrom 5 1 (rhS 0 A) := rh_step f0 n0
      have s1 : rhFrom 5 1 (rhS 0 A) = rhFrom 4 2 (rhS 1 (rhS 0 A)) := rh_step f1 n1
      have s2 : rhFrom 4 2 (rhS 1 (rhS 0 A)) = rhFrom 3 3 (rhS 2 (rhS 1 (rhS 0 A))) := rh_step f2 n2
      have s3 : rhFrom 3 3 (rhS 2 (rhS 1 (rhS 0 A))) = rhFrom 2 4 (rhS 3 (rhS 2 (rhS 1 (rhS 0 A)))) := rh_step f3 n3
      have s4 : rhFrom 2 4 (rhS 3 (rhS 2 (rhS 1 (rhS 0 A)))) = (0, (rhS 4 (rhS 3 (rhS 2 (rhS 1 (rhS 0 A)))))) := rh_fail f4 n4
      rw [thdF, rhF, s0, s1, s2, s3, s4, if_pos rfl]
      rfl
    rw [eth]
    refine pg_aload_n h d_Mod_takeHeader_0 rfl ?_
    refine pg_aload_n h d_Mod_takeHeader_1 rfl ?_
    refine pf_get h ok d_Mod_takeHeader_2 f_Mod_38 (by first | rfl | exact hk | exact hk2 | exact dm12 _ | assumption) rfl rfl ?_
    refine pg_iconst (v := 2) h d_Mod_takeHeader_5 (by decide) ?_
    refine pf_ild h ok d_Mod_takeHeader_6 (by first | rfl | exact hk | exact hk2 | exact dm12 _ | assumption) rfl (pg_ixN (j := 2) rfl (by decide) (by decide)) ?_
    rw [show S 30 0 2 = nI b0 from (hR.2.2.1 2 (by decide)).trans f0]
    refine pm_cV h ok (hR) (hg) d_Mod_takeHeader_7 m_Mod_nibble l_Mod_90 (c_Mod_nibble w ok A S0 z b0 hb0) rfl rfl rfl (Nat.le_of_ble_eq_true rfl) ⟨(Nat.le_of_ble_eq_true rfl), (Nat.le_of_ble_eq_true rfl)⟩ ⟨Nat.le_refl _, Nat.le_refl _⟩ (fun S7 hR7 hg7 => ?_)
    refine pg_istore_n h d_Mod_takeHeader_10 (Nat.le_of_ble_eq_true rfl) rfl rfl ?_
    refine pg_iload_n h d_Mod_takeHeader_11 rfl ?_
    refine pg_if_ge (tgt := 19) h d_Mod_takeHeader_12 rfl (fun e12 => ?_) (fun e12 => absurd e12 (fun q => q (nibV_ge n0)))
    refine pg_aload_n h d_Mod_takeHeader_19 rfl ?_
    refine pg_aload_n h d_Mod_takeHeader_20 rfl ?_
    refine pf_get h ok d_Mod_takeHeader_21 f_Mod_38 (by first | rfl | exact hk | exact hk2 | exact dm12 _ | assumption) rfl rfl ?_
    refine pg_iconst (v := 3) h d_Mod_takeHeader_24 (by decide) ?_
    refine pf_ild h ok d_Mod_takeHeader_25 (by first | rfl | exact hk | exact hk2 | exact dm12 _ | assumption) rfl (pg_ixN (j := 3) rfl (by decide) (by decide)) ?_
    rw [show S7 30 0 3 = nI b1 from ((rhS_Rm f0 hR7).2.2.1 3 (by decide)).trans f1]
    refine pm_cV h ok ((rhS_Rm f0 hR7)) (hg7) d_Mod_takeHeader_26 m_Mod_nibble l_Mod_90 (c_Mod_nibble w ok (rhS 0 A) S0 z b1 hb1) rfl rfl rfl (Nat.le_of_ble_eq_true rfl) ⟨(Nat.le_of_ble_eq_true rfl), (Nat.le_of_ble_eq_true rfl)⟩ ⟨Nat.le_refl _, Nat.le_refl _⟩ (fun S26 hR26 hg26 => ?_)
    refine pg_istore_n h d_Mod_takeHeader_29 (Nat.le_of_ble_eq_true rfl) rfl rfl ?_
    refine pg_iload_n h d_Mod_takeHeader_30 rfl ?_
    refine pg_if_ge (tgt := 38) h d_Mod_takeHeader_31 rfl (fun e31 => ?_) (fun e31 => absurd e31 (fun q => q (nibV_ge n1)))
    refine pg_aload_n h d_Mod_takeHeader_38 rfl ?_
    refine pg_aload_n h d_Mod_takeHeader_39 rfl ?_
    refine pf_get h ok d_Mod_takeHeader_40 f_Mod_38 (by first | rfl | exact hk | exact hk2 | exact dm12 _ | assumption) rfl rfl ?_
    refine pg_iconst (v := 4) h d_Mod_takeHeader_43 (by decide) ?_
    refine pf_ild h ok d_Mod_takeHeader_44 (by first | rfl | exact hk | exact hk2 | exact dm12 _ | assumption) rfl (pg_ixN (j := 4) rfl (by decide) (by decide)) ?_
    rw [show S26 30 0 4 = nI b2 from ((rhS_Rm f1 hR26).2.2.1 4 (by decide)).trans f2]
    refine pm_cV h ok ((rhS_Rm f1 hR26)) (hg26) d_Mod_takeHeader_45 m_Mod_nibble l_Mod_90 (c_Mod_nibble w ok (rhS 1 (rhS 0 A)) S0 z b2 hb2) rfl rfl rfl (Nat.le_of_ble_eq_true rfl) ⟨(Nat.le_of_ble_eq_true rfl), (Nat.le_of_ble_eq_true rfl)⟩ ⟨Nat.le_refl _, Nat.le_refl _⟩ (fun S45 hR45 hg45 => ?_)
    refine pg_istore h d_Mod_takeHeader_48 (Nat.le_of_ble_eq_true rfl) rfl rfl ?_
    refine pg_iload h d_Mod_takeHeader_50 rfl ?_
    refine pg_if_ge (tgt := 59) h d_Mod_takeHeader_52 rfl (fun e52 => ?_) (fun e52 => absurd e52 (fun q => q (nibV_ge n2)))
    refine pg_aload_n h d_Mod_takeHeader_59 rfl ?_
    refine pg_aload_n h d_Mod_takeHeader_60 rfl ?_
    refine pf_get h ok d_Mod_takeHeader_61 f_Mod_38 (by first | rfl | exact hk | exact hk2 | exact dm12 _ | assumption) rfl rfl ?_
    refine pg_iconst (v := 5) h d_Mod_takeHeader_64 (by decide) ?_
    refine pf_ild h ok d_Mod_takeHeader_65 (by first | rfl | exact hk | exact hk2 | exact dm12 _ | assumption) rfl (pg_ixN (j := 5) rfl (by decide) (by decide)) ?_
    rw [show S45 30 0 5 = nI b3 from ((rhS_Rm f2 hR45).2.2.1 5 (by decide)).trans f3]
    refine pm_cV h ok ((rhS_Rm f2 hR45)) (hg45) d_Mod_takeHeader_66 m_Mod_nibble l_Mod_90 (c_Mod_nibble w ok (rhS 2 (rhS 1 (rhS 0 A))) S0 z b3 hb3) rfl rfl rfl (Nat.le_of_ble_eq_true rfl) ⟨(Nat.le_of_ble_eq_true rfl), (Nat.le_of_ble_eq_true rfl)⟩ ⟨Nat.le_refl _, Nat.le_refl _⟩ (fun S66 hR66 hg66 => ?_)
    refine pg_istore h d_Mod_takeHeader_69 (Nat.le_of_ble_eq_true rfl) rfl rfl ?_
    refine pg_iload h d_Mod_takeHeader_71 rfl ?_
    refine pg_if_ge (tgt := 80) h d_Mod_takeHeader_73 rfl (fun e73 => ?_) (fun e73 => absurd e73 (fun q => q (nibV_ge n3)))
    refine pg_aload_n h d_Mod_takeHeader_80 rfl ?_
    refine pg_aload_n h d_Mod_takeHeader_81 rfl ?_
    refine pf_get h ok d_Mod_takeHeader_82 f_Mod_38 (by first | rfl | exact hk | exact hk2 | exact dm12 _ | assumption) rfl rfl ?_
    refine pg_bipush (v := 6) h d_Mod_takeHeader_85 (by decide) ?_
    refine pf_ild h ok d_Mod_takeHeader_87 (by first | rfl | exact hk | exact hk2 | exact dm12 _ | assumption) rfl (pg_ixN (j := 6) rfl (by decide) (by decide)) ?_
    rw [show S66 30 0 6 = nI b4 from ((rhS_Rm f3 hR66).2.2.1 6 (by decide)).trans f4]
    refine pm_cV h ok ((rhS_Rm f3 hR66)) (hg66) d_Mod_takeHeader_88 m_Mod_nibble l_Mod_90 (c_Mod_nibble w ok (rhS 3 (rhS 2 (rhS 1 (rhS 0 A)))) S0 z b4 hb4) rfl rfl rfl (Nat.le_of_ble_eq_true rfl) ⟨(Nat.le_of_ble_eq_true rfl), (Nat.le_of_ble_eq_true rfl)⟩ ⟨Nat.le_refl _, Nat.le_refl _⟩ (fun S88 hR88 hg88 => ?_)
    refine pg_istore h d_Mod_takeHeader_91 (Nat.le_of_ble_eq_true rfl) rfl rfl ?_
    refine pg_iload h d_Mod_takeHeader_93 rfl ?_
    refine pg_if_ge (tgt := 102) h d_Mod_takeHeader_95 rfl (fun e95 => absurd e95 (by rw [n4]; decide)) (fun e95 => ?_)
    refine pg_iconst (v := (-1)) h d_Mod_takeHeader_98 (by decide) ?_
    refine pg_goto (tgt := 113) h d_Mod_takeHeader_99 rfl ?_
    refine pg_istore h d_Mod_takeHeader_113 (Nat.le_of_ble_eq_true rfl) rfl rfl ?_
    refine pg_iload h d_Mod_takeHeader_115 rfl ?_
    refine pg_if_ge (tgt := 125) h d_Mod_takeHeader_117 rfl (fun e117 => absurd e117 (by decide)) (fun e117 => ?_)
    refine pg_aload_n h d_Mod_takeHeader_120 rfl ?_
    refine pm_cV0 h ok (rhS_Rm f4 hR88) (hg88) d_Mod_takeHeader_121 m_Mod_drop l_Mod_93 (c_Mod_drop w ok (rhS 4 (rhS 3 (rhS 2 (rhS 1 (rhS 0 A))))) S0 z) rfl rfl rfl (Nat.le_of_ble_eq_true rfl) ⟨(Nat.le_of_ble_eq_true rfl), (Nat.le_of_ble_eq_true rfl)⟩ ⟨Nat.le_refl _, Nat.le_refl _⟩ (fun S121 hR121 hg121 => ?_)
    exact pm_vret h d_Mod_takeHeader_124 (hR121) (hg121)
  by_cases n5 : nibV (nI b5) = -1
  · have eth : thdF A w.2.2.1 m = drp (rhS 5 (rhS 4 (rhS 3 (rhS 2 (rhS 1 (rhS 0 A)))))) := by
      have s0 : rhFrom 6 0 A = rhFrom 5 1 (rhS 0 A) := rh_step f0 n0
      have s1 : rhFrom 5 1 (rhS 0 A) = rhFrom 4 2 (rhS 1 (rhS 0 A)) := rh_step f1 n1
      have s2 : rhFrom 4 2 (rhS 1 (rhS 0 A)) = rhFrom 3 3 (rhS 2 (rhS 1 (rhS 0 A))) := rh_step f2 n2
      have s3 : rhFrom 3 3 (rhS 2 (rhS 1 (rhS 0 A))) = rhFrom 2 4 (rhS 3 (rhS 2 (rhS 1 (rhS 0 A)))) := rh_step f3 n3
      have s4 : rhFrom 2 4 (rhS 3 (rhS 2 (rhS 1 (rhS 0 A)))) = rhFrom 1 5 (rhS 4 (rhS 3 (rhS 2 (rhS 1 (rhS 0 A))))) := rh_step f4 n4
      have s5 : rhFrom 1 5 (rhS 4 (rhS 3 (rhS 2 (rhS 1 (rhS 0 A))))) = (0, (rhS 5 (rhS 4 (rhS 3 (rhS 2 (rhS 1 (rhS 0 A))))))) := rh_fail f5 n5
      rw [thdF, rhF, s0, s1, s2, s3, s4, s5, if_pos rfl]
      rfl
    rw [eth]
    refine pg_aload_n h d_Mod_takeHeader_0 rfl ?_
    refine pg_aload_n h d_Mod_takeHeader_1 rfl ?_
    refine pf_get h ok d_Mod_takeHeader_2 f_Mod_38 (by first | rfl | exact hk | exact hk2 | exact dm12 _ | assumption) rfl rfl ?_
    refine pg_iconst (v := 2) h d_Mod_takeHeader_5 (by decide) ?_
    refine pf_ild h ok d_Mod_takeHeader_6 (by first | rfl | exact hk | exact hk2 | exact dm12 _ | assumption) rfl (pg_ixN (j := 2) rfl (by decide) (by decide)) ?_
    rw [show S 30 0 2 = nI b0 from (hR.2.2.1 2 (by decide)).trans f0]
    refine pm_cV h ok (hR) (hg) d_Mod_takeHeader_7 m_Mod_nibble l_Mod_90 (c_Mod_nibble w ok A S0 z b0 hb0) rfl rfl rfl (Nat.le_of_ble_eq_true rfl) ⟨(Nat.le_of_ble_eq_true rfl), (Nat.le_of_ble_eq_true rfl)⟩ ⟨Nat.le_refl _, Nat.le_refl _⟩ (fun S7 hR7 hg7 => ?_)
    refine pg_istore_n h d_Mod_takeHeader_10 (Nat.le_of_ble_eq_true rfl) rfl rfl ?_
    refine pg_iload_n h d_Mod_takeHeader_11 rfl ?_
    refine pg_if_ge (tgt := 19) h d_Mod_takeHeader_12 rfl (fun e12 => ?_) (fun e12 => absurd e12 (fun q => q (nibV_ge n0)))
    refine pg_aload_n h d_Mod_takeHeader_19 rfl ?_
    refine pg_aload_n h d_Mod_takeHeader_20 rfl ?_
    refine pf_get h ok d_Mod_takeHeader_21 f_Mod_38 (by first | rfl | exact hk | exact hk2 | exact dm12 _ | assumption) rfl rfl ?_
    refine pg_iconst (v := 3) h d_Mod_takeHeader_24 (by decide) ?_
    refine pf_ild h ok d_Mod_takeHeader_25 (by first | rfl | exact hk | exact hk2 | exact dm12 _ | assumption) rfl (pg_ixN (j := 3) rfl (by decide) (by decide)) ?_
    rw [show S7 30 0 3 = nI b1 from ((rhS_Rm f0 hR7).2.2.1 3 (by decide)).trans f1]
    refine pm_cV h ok ((rhS_Rm f0 hR7)) (hg7) d_Mod_takeHeader_26 m_Mod_nibble l_Mod_90 (c_Mod_nibble w ok (rhS 0 A) S0 z b1 hb1) rfl rfl rfl (Nat.le_of_ble_eq_true rfl) ⟨(Nat.le_of_ble_eq_true rfl), (Nat.le_of_ble_eq_true rfl)⟩ ⟨Nat.le_refl _, Nat.le_refl _⟩ (fun S26 hR26 hg26 => ?_)
    refine pg_istore_n h d_Mod_takeHeader_29 (Nat.le_of_ble_eq_true rfl) rfl rfl ?_
    refine pg_iload_n h d_Mod_takeHeader_30 rfl ?_
    refine pg_if_ge (tgt := 38) h d_Mod_takeHeader_31 rfl (fun e31 => ?_) (fun e31 => absurd e31 (fun q => q (nibV_ge n1)))
    refine pg_aload_n h d_Mod_takeHeader_38 rfl ?_
    refine pg_aload_n h d_Mod_takeHeader_39 rfl ?_
    refine pf_get h ok d_Mod_takeHeader_40 f_Mod_38 (by first | rfl | exact hk | exact hk2 | exact dm12 _ | assumption) rfl rfl ?_
    refine pg_iconst (v := 4) h d_Mod_takeHeader_43 (by decide) ?_
    refine pf_ild h ok d_Mod_takeHeader_44 (by first | rfl | exact hk | exact hk2 | exact dm12 _ | assumption) rfl (pg_ixN (j := 4) rfl (by decide) (by decide)) ?_
    rw [show S26 30 0 4 = nI b2 from ((rhS_Rm f1 hR26).2.2.1 4 (by decide)).trans f2]
    refine pm_cV h ok ((rhS_Rm f1 hR26)) (hg26) d_Mod_takeHeader_45 m_Mod_nibble l_Mod_90 (c_Mod_nibble w ok (rhS 1 (rhS 0 A)) S0 z b2 hb2) rfl rfl rfl (Nat.le_of_ble_eq_true rfl) ⟨(Nat.le_of_ble_eq_true rfl), (Nat.le_of_ble_eq_true rfl)⟩ ⟨Nat.le_refl _, Nat.le_refl _⟩ (fun S45 hR45 hg45 => ?_)
    refine pg_istore h d_Mod_takeHeader_48 (Nat.le_of_ble_eq_true rfl) rfl rfl ?_
    refine pg_iload h d_Mod_takeHeader_50 rfl ?_
    refine pg_if_ge (tgt := 59) h d_Mod_takeHeader_52 rfl (fun e52 => ?_) (fun e52 => absurd e52 (fun q => q (nibV_ge n2)))
    refine pg_aload_n h d_Mod_takeHeader_59 rfl ?_
    refine pg_aload_n h d_Mod_takeHeader_60 rfl ?_
    refine pf_get h ok d_Mod_takeHeader_61 f_Mod_38 (by first | rfl | exact hk | exact hk2 | exact dm12 _ | assumption) rfl rfl ?_
    refine pg_iconst (v := 5) h d_Mod_takeHeader_64 (by decide) ?_
    refine pf_ild h ok d_Mod_takeHeader_65 (by first | rfl | exact hk | exact hk2 | exact dm12 _ | assumption) rfl (pg_ixN (j := 5) rfl (by decide) (by decide)) ?_
    rw [show S45 30 0 5 = nI b3 from ((rhS_Rm f2 hR45).2.2.1 5 (by decide)).trans f3]
    refine pm_cV h ok ((rhS_Rm f2 hR45)) (hg45) d_Mod_takeHeader_66 m_Mod_nibble l_Mod_90 (c_Mod_nibble w ok (rhS 2 (rhS 1 (rhS 0 A))) S0 z b3 hb3) rfl rfl rfl (Nat.le_of_ble_eq_true rfl) ⟨(Nat.le_of_ble_eq_true rfl), (Nat.le_of_ble_eq_true rfl)⟩ ⟨Nat.le_refl _, Nat.le_refl _⟩ (fun S66 hR66 hg66 => ?_)
    refine pg_istore h d_Mod_takeHeader_69 (Nat.le_of_ble_eq_true rfl) rfl rfl ?_
    refine pg_iload h d_Mod_takeHeader_71 rfl ?_
    refine pg_if_ge (tgt := 80) h d_Mod_takeHeader_73 rfl (fun e73 => ?_) (fun e73 => absurd e73 (fun q => q (nibV_ge n3)))
    refine pg_aload_n h d_Mod_takeHeader_80 rfl ?_
    refine pg_aload_n h d_Mod_takeHeader_81 rfl ?_
    refine pf_get h ok d_Mod_takeHeader_82 f_Mod_38 (by first | rfl | exact hk | exact hk2 | exact dm12 _ | assumption) rfl rfl ?_
    refine pg_bipush (v := 6) h d_Mod_takeHeader_85 (by decide) ?_
    refine pf_ild h ok d_Mod_takeHeader_87 (by first | rfl | exact hk | exact hk2 | exact dm12 _ | assumption) rfl (pg_ixN (j := 6) rfl (by decide) (by decide)) ?_
    rw [show S66 30 0 6 = nI b4 from ((rhS_Rm f3 hR66).2.2.1 6 (by decide)).trans f4]
    refine pm_cV h ok ((rhS_Rm f3 hR66)) (hg66) d_Mod_takeHeader_88 m_Mod_nibble l_Mod_90 (c_Mod_nibble w ok (rhS 3 (rhS 2 (rhS 1 (rhS 0 A)))) S0 z b4 hb4) rfl rfl rfl (Nat.le_of_ble_eq_true rfl) ⟨(Nat.le_of_ble_eq_true rfl), (Nat.le_of_ble_eq_true rfl)⟩ ⟨Nat.le_refl _, Nat.le_refl _⟩ (fun S88 hR88 hg88 => ?_)
    refine pg_istore h d_Mod_takeHeader_91 (Nat.le_of_ble_eq_true rfl) rfl rfl ?_
    refine pg_iload h d_Mod_takeHeader_93 rfl ?_
    refine pg_if_ge (tgt := 102) h d_Mod_takeHeader_95 rfl (fun e95 => ?_) (fun e95 => absurd e95 (fun q => q (nibV_ge n4)))
    refine pg_aload_n h d_Mod_takeHeader_102 rfl ?_
    refine pg_aload_n h d_Mod_takeHeader_103 rfl ?_
    refine pf_get h ok d_Mod_takeHeader_104 f_Mod_38 (by first | rfl | exact hk | exact hk2 | exact dm12 _ | assumption) rfl rfl ?_
    refine pg_bipush (v := 7) h d_Mod_takeHeader_107 (by decide) ?_
    refine pf_ild h ok d_Mod_takeHeader_109 (by first | rfl | exact hk | exact hk2 | exact dm12 _ | assumption) rfl (pg_ixN (j := 7) rfl (by decide) (by decide)) ?_
    rw [show S88 30 0 7 = nI b5 from ((rhS_Rm f4 hR88).2.2.1 7 (by decide)).trans f5]
    refine pm_cV h ok ((rhS_Rm f4 hR88)) (hg88) d_Mod_takeHeader_110 m_Mod_nibble l_Mod_90 (c_Mod_nibble w ok (rhS 4 (rhS 3 (rhS 2 (rhS 1 (rhS 0 A))))) S0 z b5 hb5) rfl rfl rfl (Nat.le_of_ble_eq_true rfl) ⟨(Nat.le_of_ble_eq_true rfl), (Nat.le_of_ble_eq_true rfl)⟩ ⟨Nat.le_refl _, Nat.le_refl _⟩ (fun S110 hR110 hg110 => ?_)
    refine pg_istore h d_Mod_takeHeader_113 (Nat.le_of_ble_eq_true rfl) rfl rfl ?_
    refine pg_iload h d_Mod_takeHeader_115 rfl ?_
    refine pg_if_ge (tgt := 125) h d_Mod_takeHeader_117 rfl (fun e117 => absurd e117 (by rw [n5]; decide)) (fun e117 => ?_)
    refine pg_aload_n h d_Mod_takeHeader_120 rfl ?_
    refine pm_cV0 h ok (rhS_Rm f5 hR110) (hg110) d_Mod_takeHeader_121 m_Mod_drop l_Mod_93 (c_Mod_drop w ok (rhS 5 (rhS 4 (rhS 3 (rhS 2 (rhS 1 (rhS 0 A)))))) S0 z) rfl rfl rfl (Nat.le_of_ble_eq_true rfl) ⟨(Nat.le_of_ble_eq_true rfl), (Nat.le_of_ble_eq_true rfl)⟩ ⟨Nat.le_refl _, Nat.le_refl _⟩ (fun S121 hR121 hg121 => ?_)
    exact pm_vret h d_Mod_takeHeader_124 (hR121) (hg121)
  have g0 : (rhS 5 (rhS 4 (rhS 3 (rhS 2 (rhS 1 (rhS 0 A)))))) 11 0 0 = (nibV (nI b0)) := by
    rw [rhS_11, if_neg (by decide), rhS_11, if_neg (by decide), rhS_11, if_neg (by decide), rhS_11, if_neg (by decide), rhS_11, if_neg (by decide), rhS_11, if_pos rfl, f0]
  have g1 : (rhS 5 (rhS 4 (rhS 3 (rhS 2 (rhS 1 (rhS 0 A)))))) 11 0 1 = (nibV (nI b1)) := by
    rw [rhS_11, if_neg (by decide), rhS_11, if_neg (by decide), rhS_11, if_neg (by decide), rhS_11, if_neg (by decide), rhS_11, if_pos rfl, f1]
  have g2 : (rhS 5 (rhS 4 (rhS 3 (rhS 2 (rhS 1 (rhS 0 A)))))) 11 0 2 = (nibV (nI b2)) := by
    rw [rhS_11, if_neg (by decide), rhS_11, if_neg (by decide), rhS_11, if_neg (by decide), rhS_11, if_pos rfl, f2]
  have g3 : (rhS 5 (rhS 4 (rhS 3 (rhS 2 (rhS 1 (rhS 0 A)))))) 11 0 3 = (nibV (nI b3)) := by
    rw [rhS_11, if_neg (by decide), rhS_11, if_neg (by decide), rhS_11, if_pos rfl, f3]
  have g4 : (rhS 5 (rhS 4 (rhS 3 (rhS 2 (rhS 1 (rhS 0 A)))))) 11 0 4 = (nibV (nI b4)) := by
    rw [rhS_11, if_neg (by decide), rhS_11, if_pos rfl, f4]
  have g5 : (rhS 5 (rhS 4 (rhS 3 (rhS 2 (rhS 1 (rhS 0 A)))))) 11 0 5 = (nibV (nI b5)) := by
    rw [rhS_11, if_pos rfl, f5]
  have hu6 : Uq (rhS 5 (rhS 4 (rhS 3 (rhS 2 (rhS 1 (rhS 0 A)))))) w.2.2.1 := Uq_cong (fun k _ => by rw [rhS_14, rhS_14, rhS_14, rhS_14, rhS_14, rhS_14]) hu
  have h36 : (rhS 5 (rhS 4 (rhS 3 (rhS 2 (rhS 1 (rhS 0 A)))))) 3 = A 3 := by rw [rhS_3, rhS_3, rhS_3, rhS_3, rhS_3, rhS_3]
  have s0 : rhFrom 6 0 A = rhFrom 5 1 (rhS 0 A) := rh_step f0 n0
  have s1 : rhFrom 5 1 (rhS 0 A) = rhFrom 4 2 (rhS 1 (rhS 0 A)) := rh_step f1 n1
  have s2 : rhFrom 4 2 (rhS 1 (rhS 0 A)) = rhFrom 3 3 (rhS 2 (rhS 1 (rhS 0 A))) := rh_step f2 n2
  have s3 : rhFrom 3 3 (rhS 2 (rhS 1 (rhS 0 A))) = rhFrom 2 4 (rhS 3 (rhS 2 (rhS 1 (rhS 0 A)))) := rh_step f3 n3
  have s4 : rhFrom 2 4 (rhS 3 (rhS 2 (rhS 1 (rhS 0 A)))) = rhFrom 1 5 (rhS 4 (rhS 3 (rhS 2 (rhS 1 (rhS 0 A))))) := rh_step f4 n4
  have s5 : rhFrom 1 5 (rhS 4 (rhS 3 (rhS 2 (rhS 1 (rhS 0 A))))) = rhFrom 0 6 (rhS 5 (rhS 4 (rhS 3 (rhS 2 (rhS 1 (rhS 0 A)))))) := rh_step f5 n5
  have s6 : rhF A = (1, (rhS 5 (rhS 4 (rhS 3 (rhS 2 (rhS 1 (rhS 0 A))))))) := by rw [rhF, s0, s1, s2, s3, s4, s5]; rfl
  have eth : ∃ B : pf_S, thdF A w.2.2.1 m = thF m (if (nibV (nI b4)) / 2 - (nibV (nI b4)) / 2 / 2 * 2 = 0 then 1 else 0) B 12 ∧ B = (if (nibV (nI b0)) = 15 ∧ (nibV (nI b1)) = 15 then (ccF w.2.2.1 m (if (nibV (nI b4)) - (nibV (nI b4)) / 2 * 2 = 1 then 1 else 0) (rhS 5 (rhS 4 (rhS 3 (rhS 2 (rhS 1 (rhS 0 A)))))) 8) else cmsF (ccF w.2.2.1 m (if (nibV (nI b4)) - (nibV (nI b4)) / 2 * 2 = 1 then 1 else 0) (rhS 5 (rhS 4 (rhS 3 (rhS 2 (rhS 1 (rhS 0 A)))))) 8) w.2.2.1 m (256 * nI m + 16 * (nibV (nI b1)) + (nibV (nI b0))) (nibV (nI b2)) (nibV (nI b3)) ((nibV (nI b5)) - (nibV (nI b5)) / 8 * 8)) := by
    refine ⟨_, ?_, rfl⟩
    rw [thdF, s6, if_neg (show ¬ (1 : Int32) = 0 by decide)]
    have e11 : ∀ j, hd1 (rhS 5 (rhS 4 (rhS 3 (rhS 2 (rhS 1 (rhS 0 A)))))) w.2.2.1 m 11 0 j = (rhS 5 (rhS 4 (rhS 3 (rhS 2 (rhS 1 (rhS 0 A)))))) 11 0 j := fun j => by rw [hd1, ccF_lo _ _ _ _ (by decide) (by decide)]
    have eh : hd1 (rhS 5 (rhS 4 (rhS 3 (rhS 2 (rhS 1 (rhS 0 A)))))) w.2.2.1 m = (ccF w.2.2.1 m (if (nibV (nI b4)) - (nibV (nI b4)) / 2 * 2 = 1 then 1 else 0) (rhS 5 (rhS 4 (rhS 3 (rhS 2 (rhS 1 (rhS 0 A)))))) 8) := by rw [hd1, g4]
    show hd2 (if hd1 (rhS 5 (rhS 4 (rhS 3 (rhS 2 (rhS 1 (rhS 0 A)))))) w.2.2.1 m 11 0 0 = 15 ∧ hd1 (rhS 5 (rhS 4 (rhS 3 (rhS 2 (rhS 1 (rhS 0 A)))))) w.2.2.1 m 11 0 1 = 15 then hd1 (rhS 5 (rhS 4 (rhS 3 (rhS 2 (rhS 1 (rhS 0 A)))))) w.2.2.1 m else bpF (hd1 (rhS 5 (rhS 4 (rhS 3 (rhS 2 (rhS 1 (rhS 0 A)))))) w.2.2.1 m) w.2.2.1 m) w.2.2.1 m ((rhS 5 (rhS 4 (rhS 3 (rhS 2 (rhS 1 (rhS 0 A)))))) 11 0 4) = _
    rw [bpF_cms, numF, e11, e11, e11, e11, e11, g0, g1, g2, g3, g4, g5, eh, hd2]
  obtain ⟨B, eth, eB⟩ := eth
  rw [eth]
  have hB3 : B 3 = A 3 := by
    rw [eB]
    split
    · rw [ccF_lo _ _ _ _ (by decide) (by decide), h36]
    · rw [cmsF_3, ccF_lo _ _ _ _ (by decide) (by decide), h36]
  have hbB : ByI B := fun i hi => by rw [hB3]; exact hb i hi
  have tail : ∀ S : pf_S, Rm w.2.2.1 z (ccF w.2.2.1 m (if (nibV (nI b4)) - (nibV (nI b4)) / 2 * 2 = 1 then 1 else 0) (rhS 5 (rhS 4 (rhS 3 (rhS 2 (rhS 1 (rhS 0 A)))))) 8) S → pm_g S0 S → pg_G κ w.1 10 0 0 (pm_Q κ w none z (thF m (if (nibV (nI b4)) / 2 - (nibV (nI b4)) / 2 / 2 * 2 = 0 then 1 else 0) B 12) S0) (pf_P w (S)) 161 [some (.ref (w.2.1 20 0)), some (.int (nI m)), some (.int (nibV (nI b0))), some (.int (nibV (nI b1))), some (.int (nibV (nI b2))), some (.int (nibV (nI b3))), some (.int (nibV (nI b4))), some (.int (nibV (nI b5))), some (.int (nI 8)), none] [] := by
    intro S hR hg
    by_cases h15 : (nibV (nI b0)) = 15 ∧ (nibV (nI b1)) = 15
    · skip
      refine pg_iload_n h d_Mod_takeHeader_161 rfl ?_
      refine pg_bipush (v := 15) h d_Mod_takeHeader_162 (by decide) ?_
      refine pg_icmp_ne (tgt := 173) h d_Mod_takeHeader_164 rfl (fun e164 => absurd e164 (fun q => q h15.2)) (fun e164 => ?_)
      refine pg_iload_n h d_Mod_takeHeader_167 rfl ?_
      refine pg_bipush (v := 15) h d_Mod_takeHeader_168 (by decide) ?_
      refine pg_icmp_eq (tgt := 199) h d_Mod_takeHeader_170 rfl (fun e170 => ?_) (fun e170 => absurd e170 (fun q => q h15.1))
      refine pg_bipush (v := 8) h d_Mod_takeHeader_199 (by decide) ?_
      refine pg_istore h d_Mod_takeHeader_201 (Nat.le_of_ble_eq_true rfl) rfl rfl ?_
      exact mth_let w ok B S0 z κ h hbB m hm _ _ _ _ _ _ 12 0 none _ rfl (by show Rm _ _ B _; rw [eB, if_pos h15]; exact hR) hg
    by_cases h1 : (nibV (nI b1)) = 15
    · have h0 : ¬ (nibV (nI b0)) = 15 := fun q => h15 ⟨q, h1⟩
      refine pg_iload_n h d_Mod_takeHeader_161 rfl ?_
      refine pg_bipush (v := 15) h d_Mod_takeHeader_162 (by decide) ?_
      refine pg_icmp_ne (tgt := 173) h d_Mod_takeHeader_164 rfl (fun e164 => absurd e164 (fun q => q h1)) (fun e164 => ?_)
      refine pg_iload_n h d_Mod_takeHeader_167 rfl ?_
      refine pg_bipush (v := 15) h d_Mod_takeHeader_168 (by decide) ?_
      refine pg_icmp_eq (tgt := 199) h d_Mod_takeHeader_170 rfl (fun e170 => absurd e170 h0) (fun e170 => ?_)
      refine pg_aload_n h d_Mod_takeHeader_173 rfl ?_
      refine pg_iload_n h d_Mod_takeHeader_174 rfl ?_
      refine pg_sipush (v := 256) h d_Mod_takeHeader_175 (by decide) ?_
      refine pg_iload_n h d_Mod_takeHeader_178 rfl ?_
      refine pg_imul h d_Mod_takeHeader_179 ?_
      refine pg_bipush (v := 16) h d_Mod_takeHeader_180 (by decide) ?_
      refine pg_iload_n h d_Mod_takeHeader_182 rfl ?_
      refine pg_imul h d_Mod_takeHeader_183 ?_
      refine pg_iadd h d_Mod_takeHeader_184 ?_
      refine pg_iload_n h d_Mod_takeHeader_185 rfl ?_
      refine pg_iadd h d_Mod_takeHeader_186 ?_
      refine pg_iload h d_Mod_takeHeader_187 rfl ?_
      refine pg_iload h d_Mod_takeHeader_189 rfl ?_
      refine pg_iload h d_Mod_takeHeader_191 rfl ?_
      refine pg_bipush (v := 8) h d_Mod_takeHeader_193 (by decide) ?_
      refine pg_irem h d_Mod_takeHeader_195 (by decide) ?_
      refine pm_cV0 h ok (hR) (hg) d_Mod_takeHeader_196 m_Mod_comes l_Mod_112 (c_Mod_comes w ok (ccF w.2.2.1 m (if (nibV (nI b4)) - (nibV (nI b4)) / 2 * 2 = 1 then 1 else 0) (rhS 5 (rhS 4 (rhS 3 (rhS 2 (rhS 1 (rhS 0 A)))))) 8) S0 z hw m hm _ _ _ _) rfl rfl rfl (Nat.le_of_ble_eq_true rfl) ⟨(Nat.le_of_ble_eq_true rfl), (Nat.le_of_ble_eq_true rfl)⟩ ⟨Nat.le_refl _, Nat.le_refl _⟩ (fun S196 hR196 hg196 => ?_)
      refine pg_bipush (v := 8) h d_Mod_takeHeader_199 (by decide) ?_
      refine pg_istore h d_Mod_takeHeader_201 (Nat.le_of_ble_eq_true rfl) rfl rfl ?_
      exact mth_let w ok B S0 z κ h hbB m hm _ _ _ _ _ _ 12 0 none _ rfl (by show Rm _ _ B _; rw [eB, if_neg h15]; exact hR196) hg196
    · skip
      refine pg_iload_n h d_Mod_takeHeader_161 rfl ?_
      refine pg_bipush (v := 15) h d_Mod_takeHeader_162 (by decide) ?_
      refine pg_icmp_ne (tgt := 173) h d_Mod_takeHeader_164 rfl (fun e164 => ?_) (fun e164 => absurd e164 h1)
      refine pg_aload_n h d_Mod_takeHeader_173 rfl ?_
      refine pg_iload_n h d_Mod_takeHeader_174 rfl ?_
      refine pg_sipush (v := 256) h d_Mod_takeHeader_175 (by decide) ?_
      refine pg_iload_n h d_Mod_takeHeader_178 rfl ?_
      refine pg_imul h d_Mod_takeHeader_179 ?_
      refine pg_bipush (v := 16) h d_Mod_takeHeader_180 (by decide) ?_
      refine pg_iload_n h d_Mod_takeHeader_182 rfl ?_
      refine pg_imul h d_Mod_takeHeader_183 ?_
      refine pg_iadd h d_Mod_takeHeader_184 ?_
      refine pg_iload_n h d_Mod_takeHeader_185 rfl ?_
      refine pg_iadd h d_Mod_takeHeader_186 ?_
      refine pg_iload h d_Mod_takeHeader_187 rfl ?_
      refine pg_iload h d_Mod_takeHeader_189 rfl ?_
      refine pg_iload h d_Mod_takeHeader_191 rfl ?_
      refine pg_bipush (v := 8) h d_Mod_takeHeader_193 (by decide) ?_
      refine pg_irem h d_Mod_takeHeader_195 (by decide) ?_
      refine pm_cV0 h ok (hR) (hg) d_Mod_takeHeader_196 m_Mod_comes l_Mod_112 (c_Mod_comes w ok (ccF w.2.2.1 m (if (nibV (nI b4)) - (nibV (nI b4)) / 2 * 2 = 1 then 1 else 0) (rhS 5 (rhS 4 (rhS 3 (rhS 2 (rhS 1 (rhS 0 A)))))) 8) S0 z hw m hm _ _ _ _) rfl rfl rfl (Nat.le_of_ble_eq_true rfl) ⟨(Nat.le_of_ble_eq_true rfl), (Nat.le_of_ble_eq_true rfl)⟩ ⟨Nat.le_refl _, Nat.le_refl _⟩ (fun S196 hR196 hg196 => ?_)
      refine pg_bipush (v := 8) h d_Mod_takeHeader_199 (by decide) ?_
      refine pg_istore h d_Mod_takeHeader_201 (Nat.le_of_ble_eq_true rfl) rfl rfl ?_
      exact mth_let w ok B S0 z κ h hbB m hm _ _ _ _ _ _ 12 0 none _ rfl (by show Rm _ _ B _; rw [eB, if_neg h15]; exact hR196) hg196
  have loop : ∀ (n j : Nat) (S : pf_S), j + n = 8 → Rm w.2.2.1 z (ccF w.2.2.1 m (if (nibV (nI b4)) - (nibV (nI b4)) / 2 * 2 = 1 then 1 else 0) (rhS 5 (rhS 4 (rhS 3 (rhS 2 (rhS 1 (rhS 0 A)))))) j) S → pm_g S0 S → pg_G κ w.1 10 0 0 (pm_Q κ w none z (thF m (if (nibV (nI b4)) / 2 - (nibV (nI b4)) / 2 / 2 * 2 = 0 then 1 else 0) B 12) S0) (pf_P w (S)) 128 [some (.ref (w.2.1 20 0)), some (.int (nI m)), some (.int (nibV (nI b0))), some (.int (nibV (nI b1))), some (.int (nibV (nI b2))), some (.int (nibV (nI b3))), some (.int (nibV (nI b4))), some (.int (nibV (nI b5))), some (.int (nI j)), none] [] := by
    intro n
    induction n with
    | zero =>
      intro j S hj hR hg
      have hj : j = 8 := by omega
      subst hj
      refine pg_iload h d_Mod_takeHeader_128 rfl ?_
      refine pg_bipush (v := 8) h d_Mod_takeHeader_130 (by decide) ?_
      refine pg_icmp_ge (tgt := 161) h d_Mod_takeHeader_132 rfl (fun e132 => ?_) (fun e132 => absurd e132 (fun e => e (by decide)))
      exact tail S hR hg
    | succ n ih =>
      intro j S hj hR hg
      have hj2 : j < 8 := by omega
      have ejm : (nI j = nI m) = (j = m) := propext (nI_eq (by omega) (by omega))
      by_cases hjm : j = m
      · skip
        refine pg_iload h d_Mod_takeHeader_128 rfl ?_
        refine pg_bipush (v := 8) h d_Mod_takeHeader_130 (by decide) ?_
        refine pg_icmp_ge (tgt := 161) h d_Mod_takeHeader_132 rfl (fun e132 => absurd e132 (nI_ge hj2 (by decide))) (fun e132 => ?_)
        refine pg_iload h d_Mod_takeHeader_135 rfl ?_
        refine pg_iload_n h d_Mod_takeHeader_137 rfl ?_
        refine pg_icmp_eq (tgt := 149) h d_Mod_takeHeader_138 rfl (fun e138 => ?_) (fun e138 => absurd e138 (fun q => q (by rw [ejm]; exact hjm)))
        refine pg_aload_n h d_Mod_takeHeader_149 rfl ?_
        refine pg_iload h d_Mod_takeHeader_150 rfl ?_
        refine pm_cV0 h ok (hR) (hg) d_Mod_takeHeader_152 m_Mod_complete l_Mod_109 (c_Mod_complete w ok _ S0 z hw j hj2 (Uq_cc hw.1 hu6 j (by omega))) rfl rfl rfl (Nat.le_of_ble_eq_true rfl) ⟨(Nat.le_of_ble_eq_true rfl), (Nat.le_of_ble_eq_true rfl)⟩ ⟨Nat.le_refl _, Nat.le_refl _⟩ (fun S152 hR152 hg152 => ?_)
        refine pg_iinc (w := 1) h d_Mod_takeHeader_155 rfl (by decide) (Nat.le_of_ble_eq_true rfl) rfl rfl ?_
        refine pg_goto (tgt := 128) h d_Mod_takeHeader_158 rfl ?_
        rw [← nI_succ j]
        exact ih (j + 1) _ (by omega) (by rw [ccF, cc_call (fun q => q.2 hjm)]; exact hR152) hg152
      by_cases hv : (nibV (nI b4)) - (nibV (nI b4)) / 2 * 2 = 1
      · skip
        refine pg_iload h d_Mod_takeHeader_128 rfl ?_
        refine pg_bipush (v := 8) h d_Mod_takeHeader_130 (by decide) ?_
        refine pg_icmp_ge (tgt := 161) h d_Mod_takeHeader_132 rfl (fun e132 => absurd e132 (nI_ge hj2 (by decide))) (fun e132 => ?_)
        refine pg_iload h d_Mod_takeHeader_135 rfl ?_
        refine pg_iload_n h d_Mod_takeHeader_137 rfl ?_
        refine pg_icmp_eq (tgt := 149) h d_Mod_takeHeader_138 rfl (fun e138 => absurd e138 (fun q => hjm (by rw [ejm] at q; exact q))) (fun e138 => ?_)
        refine pg_iload h d_Mod_takeHeader_141 rfl ?_
        refine pg_iconst (v := 2) h d_Mod_takeHeader_143 (by decide) ?_
        refine pg_irem h d_Mod_takeHeader_144 (by decide) ?_
        refine pg_iconst (v := 1) h d_Mod_takeHeader_145 (by decide) ?_
        refine pg_icmp_ne (tgt := 155) h d_Mod_takeHeader_146 rfl (fun e146 => absurd e146 (fun q => q hv)) (fun e146 => ?_)
        refine pg_aload_n h d_Mod_takeHeader_149 rfl ?_
        refine pg_iload h d_Mod_takeHeader_150 rfl ?_
        refine pm_cV0 h ok (hR) (hg) d_Mod_takeHeader_152 m_Mod_complete l_Mod_109 (c_Mod_complete w ok _ S0 z hw j hj2 (Uq_cc hw.1 hu6 j (by omega))) rfl rfl rfl (Nat.le_of_ble_eq_true rfl) ⟨(Nat.le_of_ble_eq_true rfl), (Nat.le_of_ble_eq_true rfl)⟩ ⟨Nat.le_refl _, Nat.le_refl _⟩ (fun S152 hR152 hg152 => ?_)
        refine pg_iinc (w := 1) h d_Mod_takeHeader_155 rfl (by decide) (Nat.le_of_ble_eq_true rfl) rfl rfl ?_
        refine pg_goto (tgt := 128) h d_Mod_takeHeader_158 rfl ?_
        rw [← nI_succ j]
        exact ih (j + 1) _ (by omega) (by rw [ccF, cc_call (fun q => by rw [if_pos hv] at q; exact absurd q.1 (by decide))]; exact hR152) hg152
      · skip
        refine pg_iload h d_Mod_takeHeader_128 rfl ?_
        refine pg_bipush (v := 8) h d_Mod_takeHeader_130 (by decide) ?_
        refine pg_icmp_ge (tgt := 161) h d_Mod_takeHeader_132 rfl (fun e132 => absurd e132 (nI_ge hj2 (by decide))) (fun e132 => ?_)
        refine pg_iload h d_Mod_takeHeader_135 rfl ?_
        refine pg_iload_n h d_Mod_takeHeader_137 rfl ?_
        refine pg_icmp_eq (tgt := 149) h d_Mod_takeHeader_138 rfl (fun e138 => absurd e138 (fun q => hjm (by rw [ejm] at q; exact q))) (fun e138 => ?_)
        refine pg_iload h d_Mod_takeHeader_141 rfl ?_
        refine pg_iconst (v := 2) h d_Mod_takeHeader_143 (by decide) ?_
        refine pg_irem h d_Mod_takeHeader_144 (by decide) ?_
        refine pg_iconst (v := 1) h d_Mod_takeHeader_145 (by decide) ?_
        refine pg_icmp_ne (tgt := 155) h d_Mod_takeHeader_146 rfl (fun e146 => ?_) (fun e146 => absurd e146 hv)
        refine pg_iinc (w := 1) h d_Mod_takeHeader_155 rfl (by decide) (Nat.le_of_ble_eq_true rfl) rfl rfl ?_
        refine pg_goto (tgt := 128) h d_Mod_takeHeader_158 rfl ?_
        rw [← nI_succ j]
        exact ih (j + 1) _ (by omega) (by rw [ccF, cc_skip ⟨by rw [if_neg hv]; decide, hjm⟩]; exact hR) hg
  refine pg_aload_n h d_Mod_takeHeader_0 rfl ?_
  refine pg_aload_n h d_Mod_takeHeader_1 rfl ?_
  refine pf_get h ok d_Mod_takeHeader_2 f_Mod_38 (by first | rfl | exact hk | exact hk2 | exact dm12 _ | assumption) rfl rfl ?_
  refine pg_iconst (v := 2) h d_Mod_takeHeader_5 (by decide) ?_
  refine pf_ild h ok d_Mod_takeHeader_6 (by first | rfl | exact hk | exact hk2 | exact dm12 _ | assumption) rfl (pg_ixN (j := 2) rfl (by decide) (by decide)) ?_
  rw [show S 30 0 2 = nI b0 from (hR.2.2.1 2 (by decide)).trans f0]
  refine pm_cV h ok (hR) (hg) d_Mod_takeHeader_7 m_Mod_nibble l_Mod_90 (c_Mod_nibble w ok A S0 z b0 hb0) rfl rfl rfl (Nat.le_of_ble_eq_true rfl) ⟨(Nat.le_of_ble_eq_true rfl), (Nat.le_of_ble_eq_true rfl)⟩ ⟨Nat.le_refl _, Nat.le_refl _⟩ (fun S7 hR7 hg7 => ?_)
  refine pg_istore_n h d_Mod_takeHeader_10 (Nat.le_of_ble_eq_true rfl) rfl rfl ?_
  refine pg_iload_n h d_Mod_takeHeader_11 rfl ?_
  refine pg_if_ge (tgt := 19) h d_Mod_takeHeader_12 rfl (fun e12 => ?_) (fun e12 => absurd e12 (fun q => q (nibV_ge n0)))
  refine pg_aload_n h d_Mod_takeHeader_19 rfl ?_
  refine pg_aload_n h d_Mod_takeHeader_20 rfl ?_
  refine pf_get h ok d_Mod_takeHeader_21 f_Mod_38 (by first | rfl | exact hk | exact hk2 | exact dm12 _ | assumption) rfl rfl ?_
  refine pg_iconst (v := 3) h d_Mod_takeHeader_24 (by decide) ?_
  refine pf_ild h ok d_Mod_takeHeader_25 (by first | rfl | exact hk | exact hk2 | exact dm12 _ | assumption) rfl (pg_ixN (j := 3) rfl (by decide) (by decide)) ?_
  rw [show S7 30 0 3 = nI b1 from ((rhS_Rm f0 hR7).2.2.1 3 (by decide)).trans f1]
  refine pm_cV h ok ((rhS_Rm f0 hR7)) (hg7) d_Mod_takeHeader_26 m_Mod_nibble l_Mod_90 (c_Mod_nibble w ok (rhS 0 A) S0 z b1 hb1) rfl rfl rfl (Nat.le_of_ble_eq_true rfl) ⟨(Nat.le_of_ble_eq_true rfl), (Nat.le_of_ble_eq_true rfl)⟩ ⟨Nat.le_refl _, Nat.le_refl _⟩ (fun S26 hR26 hg26 => ?_)
  refine pg_istore_n h d_Mod_takeHeader_29 (Nat.le_of_ble_eq_true rfl) rfl rfl ?_
  refine pg_iload_n h d_Mod_takeHeader_30 rfl ?_
  refine pg_if_ge (tgt := 38) h d_Mod_takeHeader_31 rfl (fun e31 => ?_) (fun e31 => absurd e31 (fun q => q (nibV_ge n1)))
  refine pg_aload_n h d_Mod_takeHeader_38 rfl ?_
  refine pg_aload_n h d_Mod_takeHeader_39 rfl ?_
  refine pf_get h ok d_Mod_takeHeader_40 f_Mod_38 (by first | rfl | exact hk | exact hk2 | exact dm12 _ | assumption) rfl rfl ?_
  refine pg_iconst (v := 4) h d_Mod_takeHeader_43 (by decide) ?_
  refine pf_ild h ok d_Mod_takeHeader_44 (by first | rfl | exact hk | exact hk2 | exact dm12 _ | assumption) rfl (pg_ixN (j := 4) rfl (by decide) (by decide)) ?_
  rw [show S26 30 0 4 = nI b2 from ((rhS_Rm f1 hR26).2.2.1 4 (by decide)).trans f2]
  refine pm_cV h ok ((rhS_Rm f1 hR26)) (hg26) d_Mod_takeHeader_45 m_Mod_nibble l_Mod_90 (c_Mod_nibble w ok (rhS 1 (rhS 0 A)) S0 z b2 hb2) rfl rfl rfl (Nat.le_of_ble_eq_true rfl) ⟨(Nat.le_of_ble_eq_true rfl), (Nat.le_of_ble_eq_true rfl)⟩ ⟨Nat.le_refl _, Nat.le_refl _⟩ (fun S45 hR45 hg45 => ?_)
  refine pg_istore h d_Mod_takeHeader_48 (Nat.le_of_ble_eq_true rfl) rfl rfl ?_
  refine pg_iload h d_Mod_takeHeader_50 rfl ?_
  refine pg_if_ge (tgt := 59) h d_Mod_takeHeader_52 rfl (fun e52 => ?_) (fun e52 => absurd e52 (fun q => q (nibV_ge n2)))
  refine pg_aload_n h d_Mod_takeHeader_59 rfl ?_
  refine pg_aload_n h d_Mod_takeHeader_60 rfl ?_
  refine pf_get h ok d_Mod_takeHeader_61 f_Mod_38 (by first | rfl | exact hk | exact hk2 | exact dm12 _ | assumption) rfl rfl ?_
  refine pg_iconst (v := 5) h d_Mod_takeHeader_64 (by decide) ?_
  refine pf_ild h ok d_Mod_takeHeader_65 (by first | rfl | exact hk | exact hk2 | exact dm12 _ | assumption) rfl (pg_ixN (j := 5) rfl (by decide) (by decide)) ?_
  rw [show S45 30 0 5 = nI b3 from ((rhS_Rm f2 hR45).2.2.1 5 (by decide)).trans f3]
  refine pm_cV h ok ((rhS_Rm f2 hR45)) (hg45) d_Mod_takeHeader_66 m_Mod_nibble l_Mod_90 (c_Mod_nibble w ok (rhS 2 (rhS 1 (rhS 0 A))) S0 z b3 hb3) rfl rfl rfl (Nat.le_of_ble_eq_true rfl) ⟨(Nat.le_of_ble_eq_true rfl), (Nat.le_of_ble_eq_true rfl)⟩ ⟨Nat.le_refl _, Nat.le_refl _⟩ (fun S66 hR66 hg66 => ?_)
  refine pg_istore h d_Mod_takeHeader_69 (Nat.le_of_ble_eq_true rfl) rfl rfl ?_
  refine pg_iload h d_Mod_takeHeader_71 rfl ?_
  refine pg_if_ge (tgt := 80) h d_Mod_takeHeader_73 rfl (fun e73 => ?_) (fun e73 => absurd e73 (fun q => q (nibV_ge n3)))
  refine pg_aload_n h d_Mod_takeHeader_80 rfl ?_
  refine pg_aload_n h d_Mod_takeHeader_81 rfl ?_
  refine pf_get h ok d_Mod_takeHeader_82 f_Mod_38 (by first | rfl | exact hk | exact hk2 | exact dm12 _ | assumption) rfl rfl ?_
  refine pg_bipush (v := 6) h d_Mod_takeHeader_85 (by decide) ?_
  refine pf_ild h ok d_Mod_takeHeader_87 (by first | rfl | exact hk | exact hk2 | exact dm12 _ | assumption) rfl (pg_ixN (j := 6) rfl (by decide) (by decide)) ?_
  rw [show S66 30 0 6 = nI b4 from ((rhS_Rm f3 hR66).2.2.1 6 (by decide)).trans f4]
  refine pm_cV h ok ((rhS_Rm f3 hR66)) (hg66) d_Mod_takeHeader_88 m_Mod_nibble l_Mod_90 (c_Mod_nibble w ok (rhS 3 (rhS 2 (rhS 1 (rhS 0 A)))) S0 z b4 hb4) rfl rfl rfl (Nat.le_of_ble_eq_true rfl) ⟨(Nat.le_of_ble_eq_true rfl), (Nat.le_of_ble_eq_true rfl)⟩ ⟨Nat.le_refl _, Nat.le_refl _⟩ (fun S88 hR88 hg88 => ?_)
  refine pg_istore h d_Mod_takeHeader_91 (Nat.le_of_ble_eq_true rfl) rfl rfl ?_
  refine pg_iload h d_Mod_takeHeader_93 rfl ?_
  refine pg_if_ge (tgt := 102) h d_Mod_takeHeader_95 rfl (fun e95 => ?_) (fun e95 => absurd e95 (fun q => q (nibV_ge n4)))
  refine pg_aload_n h d_Mod_takeHeader_102 rfl ?_
  refine pg_aload_n h d_Mod_takeHeader_103 rfl ?_
  refine pf_get h ok d_Mod_takeHeader_104 f_Mod_38 (by first | rfl | exact hk | exact hk2 | exact dm12 _ | assumption) rfl rfl ?_
  refine pg_bipush (v := 7) h d_Mod_takeHeader_107 (by decide) ?_
  refine pf_ild h ok d_Mod_takeHeader_109 (by first | rfl | exact hk | exact hk2 | exact dm12 _ | assumption) rfl (pg_ixN (j := 7) rfl (by decide) (by decide)) ?_
  rw [show S88 30 0 7 = nI b5 from ((rhS_Rm f4 hR88).2.2.1 7 (by decide)).trans f5]
  refine pm_cV h ok ((rhS_Rm f4 hR88)) (hg88) d_Mod_takeHeader_110 m_Mod_nibble l_Mod_90 (c_Mod_nibble w ok (rhS 4 (rhS 3 (rhS 2 (rhS 1 (rhS 0 A))))) S0 z b5 hb5) rfl rfl rfl (Nat.le_of_ble_eq_true rfl) ⟨(Nat.le_of_ble_eq_true rfl), (Nat.le_of_ble_eq_true rfl)⟩ ⟨Nat.le_refl _, Nat.le_refl _⟩ (fun S110 hR110 hg110 => ?_)
  refine pg_istore h d_Mod_takeHeader_113 (Nat.le_of_ble_eq_true rfl) rfl rfl ?_
  refine pg_iload h d_Mod_takeHeader_115 rfl ?_
  refine pg_if_ge (tgt := 125) h d_Mod_takeHeader_117 rfl (fun e117 => ?_) (fun e117 => absurd e117 (fun q => q (nibV_ge n5)))
  refine pg_iconst (v := 0) h d_Mod_takeHeader_125 (by decide) ?_
  refine pg_istore h d_Mod_takeHeader_126 (Nat.le_of_ble_eq_true rfl) rfl rfl ?_
  exact loop 8 0 _ rfl (rhS_Rm f5 hR110) hg110
