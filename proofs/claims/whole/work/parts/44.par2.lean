/-! Pure facts of the bits: parity and failing sum of a number of three bytes. -/
theorem or_shrk (x y : Int32) (k : Nat) : (x ||| y) >>> (nI k &&& 31) = (x >>> (nI k &&& 31)) ||| (y >>> (nI k &&& 31)) := by
  apply Int32.toBitVec_inj.mp
  exact BitVec.sshiftRight_or_distrib _ _ _
set_option maxRecDepth 100000 in
theorem bk_all : ∀ s, s < 256 → ∀ k, k < 8 → ((nI s <<< ((8 : Int32) &&& 31)) >>> (nI k &&& 31) &&& 1 = 0 ∧ (nI s <<< ((16 : Int32) &&& 31)) >>> (nI k &&& 31) &&& 1 = 0 ∧ nI s >>> (nI (8 + k) &&& 31) &&& 1 = 0 ∧ (nI s <<< ((8 : Int32) &&& 31)) >>> (nI (8 + k) &&& 31) &&& 1 = nI s >>> (nI k &&& 31) &&& 1 ∧ (nI s <<< ((16 : Int32) &&& 31)) >>> (nI (8 + k) &&& 31) &&& 1 = 0 ∧ nI s >>> (nI (16 + k) &&& 31) &&& 1 = 0 ∧ (nI s <<< ((8 : Int32) &&& 31)) >>> (nI (16 + k) &&& 31) &&& 1 = 0 ∧ (nI s <<< ((16 : Int32) &&& 31)) >>> (nI (16 + k) &&& 31) &&& 1 = nI s >>> (nI k &&& 31) &&& 1) := by decide +kernel
theorem parS_s (v : Int32) (k : Nat) : parS v (k + 1) = parS v k + (v >>> (nI k &&& 31) &&& 1) := rfl
theorem pb_0 {a b c : Nat} (ha : a < 256) (hb : b < 256) (hc : c < 256) {k : Nat} (hk : k < 8) : PP a b c >>> (nI k &&& 31) &&& 1 = nI a >>> (nI k &&& 31) &&& 1 := by
  rw [← or3_PP ha hb hc, OR3, or_shrk, or_shrk, or_and32, or_and32, (bk_all b hb k hk).1, (bk_all c hc k hk).2.1, or_z, or_z]
theorem pb_1 {a b c : Nat} (ha : a < 256) (hb : b < 256) (hc : c < 256) {k : Nat} (hk : k < 8) : PP a b c >>> (nI (8 + k) &&& 31) &&& 1 = nI b >>> (nI k &&& 31) &&& 1 := by
  rw [← or3_PP ha hb hc, OR3, or_shrk, or_shrk, or_and32, or_and32, (bk_all a ha k hk).2.2.1, (bk_all b hb k hk).2.2.2.1, (bk_all c hc k hk).2.2.2.2.1, or_z, z_or]
theorem pb_2 {a b c : Nat} (ha : a < 256) (hb : b < 256) (hc : c < 256) {k : Nat} (hk : k < 8) : PP a b c >>> (nI (16 + k) &&& 31) &&& 1 = nI c >>> (nI k &&& 31) &&& 1 := by
  rw [← or3_PP ha hb hc, OR3, or_shrk, or_shrk, or_and32, or_and32, (bk_all a ha k hk).2.2.2.2.2.1, (bk_all b hb k hk).2.2.2.2.2.2.1, (bk_all c hc k hk).2.2.2.2.2.2.2, z_or, z_or]
theorem pS_0 {a b c : Nat} (ha : a < 256) (hb : b < 256) (hc : c < 256) : ∀ k, k ≤ 8 → parS (PP a b c) k = parS (nI a) k := by
  intro k
  induction k with
  | zero => intro _; rfl
  | succ k ih => intro h; rw [parS, parS, ih (by omega), pb_0 ha hb hc (by omega)]
theorem pS_1 {a b c : Nat} (ha : a < 256) (hb : b < 256) (hc : c < 256) : ∀ k, k ≤ 8 → parS (PP a b c) (8 + k) = parS (PP a b c) 8 + parS (nI b) k := by
  intro k
  induction k with
  | zero => intro _; rw [show parS (nI b) 0 = 0 from rfl, Int32.add_zero]
  | succ k ih => intro h; rw [show 8 + (k + 1) = (8 + k) + 1 by omega, parS_s (PP a b c) (8 + k), parS_s (nI b) k, ih (by omega), pb_1 ha hb hc (by omega), Int32.add_assoc]
theorem pS_2 {a b c : Nat} (ha : a < 256) (hb : b < 256) (hc : c < 256) : ∀ k, k ≤ 8 → parS (PP a b c) (16 + k) = parS (PP a b c) 16 + parS (nI c) k := by
  intro k
  induction k with
  | zero => intro _; rw [show parS (nI c) 0 = 0 from rfl, Int32.add_zero]
  | succ k ih => intro h; rw [show 16 + (k + 1) = (16 + k) + 1 by omega, parS_s (PP a b c) (16 + k), parS_s (nI c) k, ih (by omega), pb_2 ha hb hc (by omega), Int32.add_assoc]
theorem pS_PP {a b c : Nat} (ha : a < 256) (hb : b < 256) (hc : c < 256) : parS (PP a b c) 24 = nI (vB a + vB b + vB c) := by
  rw [show (24 : Nat) = 16 + 8 from rfl, pS_2 ha hb hc 8 (Nat.le_refl _), show (16 : Nat) = 8 + 8 from rfl, pS_1 ha hb hc 8 (Nat.le_refl _), pS_0 ha hb hc 8 (Nat.le_refl _), (sB_all a ha).2.2.2.2, (sB_all b hb).2.2.2.2, (sB_all c hc).2.2.2.2, nI_add, nI_add]
theorem par_PP {a b c : Nat} (ha : a < 256) (hb : b < 256) (hc : c < 256) : parV (PP a b c) = 1 ↔ ¬ odF (PP a b c) = 0 := by
  have e : parV (PP a b c) = 1 ↔ oddP (PP a b c) := by
    rw [parV, pS_PP ha hb hc, oddP, bcF_PP ha hb hc]
  rw [e, odF]
  by_cases h : oddP (PP a b c)
  · rw [if_pos h]
    exact ⟨fun _ => by decide, fun _ => h⟩
  · rw [if_neg h]
    exact ⟨fun q => absurd q h, fun q => absurd rfl q⟩
/-- the part of a failing sum that a byte gives -/
def msB (s off k : Nat) : Nat → Int32
  | 0 => 0
  | i + 1 => if ((off + i + 1) >>> k) % 2 = 1 then msB s off k i + (nI s >>> (nI i &&& 31) &&& 1) else msB s off k i
def cpN (k : Nat) : Nat := match k with
  | 0 => 5592405
  | 1 => 6710886
  | 2 => 7895160
  | 3 => 32640
  | _ => 8355840
def k0 (k s : Nat) : Nat := s &&& cpN k % 256
def k1 (k s : Nat) : Nat := s &&& cpN k / 256 % 256
def k2 (k s : Nat) : Nat := s &&& cpN k / 65536
set_option maxRecDepth 100000 in
theorem ms_dec : ∀ k, k < 5 → ∀ s, s < 256 → (msB s 0 k 8 = nI (vB (k0 k s)) ∧ msB s 8 k 8 = nI (vB (k1 k s)) ∧ msB s 16 k 7 = nI (vB (k2 k s)) ∧ k0 k s < 256 ∧ k1 k s < 256 ∧ k2 k s < 256) := by decide +kernel
set_option maxRecDepth 100000 in
theorem mk_dec : ∀ k, k < 5 → ∀ s, s < 256 → (nI s &&& pg_cp k = nI (k0 k s) ∧ (nI s <<< ((8 : Int32) &&& 31)) &&& pg_cp k = nI (k1 k s) <<< ((8 : Int32) &&& 31) ∧ (nI s <<< ((16 : Int32) &&& 31)) &&& pg_cp k = nI (k2 k s) <<< ((16 : Int32) &&& 31)) := by decide +kernel
theorem mC_0 {a b c : Nat} (ha : a < 256) (hb : b < 256) (hc : c < 256) (k : Nat) : ∀ i, i ≤ 8 → msC (PP a b c) k i = msB a 0 k i := by
  intro i
  induction i with
  | zero => intro _; rfl
  | succ i ih => intro h; rw [msC, msB, ih (by omega), pb_0 ha hb hc (by omega), Nat.zero_add]
theorem mC_1 {a b c : Nat} (ha : a < 256) (hb : b < 256) (hc : c < 256) (k : Nat) : ∀ i, i ≤ 8 → msC (PP a b c) k (8 + i) = msC (PP a b c) k 8 + msB b 8 k i := by
  intro i
  induction i with
  | zero => intro _; rw [show msB b 8 k 0 = 0 from rfl, Int32.add_zero]
  | succ i ih =>
    intro h
    rw [show 8 + (i + 1) = (8 + i) + 1 by omega, msC, msB, ih (by omega), pb_1 ha hb hc (by omega)]
    split
    · rw [Int32.add_assoc]
    · rfl
theorem mC_2 {a b c : Nat} (ha : a < 256) (hb : b < 256) (hc : c < 256) (k : Nat) : ∀ i, i ≤ 8 → msC (PP a b c) k (16 + i) = msC (PP a b c) k 16 + msB c 16 k i := by
  intro i
  induction i with
  | zero => intro _; rw [show msB c 16 k 0 = 0 from rfl, Int32.add_zero]
  | succ i ih =>
    intro h
    rw [show 16 + (i + 1) = (16 + i) + 1 by omega, msC, msB, ih (by omega), pb_2 ha hb hc (by omega)]
    split
    · rw [Int32.add_assoc]
    · rfl
theorem bit_od (t : Nat) (ht : t ≤ 24) : (nI t - nI t / 2 * 2 = 0 ↔ ¬ nI t - nI t / 2 * 2 = 1) := by
  have q : ∀ t, t ≤ 24 → (nI t - nI t / 2 * 2 = 0 ↔ ¬ nI t - nI t / 2 * 2 = 1) := by decide
  exact q t ht
theorem fail_k {a b c : Nat} (ha : a < 256) (hb : b < 256) (hc : c < 256) (k : Nat) (hk : k < 5) : (msC (PP a b c) k 23 - msC (PP a b c) k 23 / 2 * 2 = 0) ↔ odF (PP a b c &&& pg_cp k) = 0 := by
  obtain ⟨a1, -, -, a4, -, -⟩ := ms_dec k hk a ha
  obtain ⟨-, b2, -, -, b5, -⟩ := ms_dec k hk b hb
  obtain ⟨-, -, c3, -, -, c6⟩ := ms_dec k hk c hc
  have e : PP a b c &&& pg_cp k = PP (k0 k a) (k1 k b) (k2 k c) := by
    rw [← or3_PP ha hb hc, OR3, or_and32, or_and32, (mk_dec k hk a ha).1, (mk_dec k hk b hb).2.1, (mk_dec k hk c hc).2.2, ← or3_PP a4 b5 c6, OR3]
  have m : msC (PP a b c) k 23 = nI (vB (k0 k a) + vB (k1 k b) + vB (k2 k c)) := by
    rw [show (23 : Nat) = 16 + 7 from rfl, mC_2 ha hb hc k 7 (by omega), show (16 : Nat) = 8 + 8 from rfl, mC_1 ha hb hc k 8 (Nat.le_refl _), mC_0 ha hb hc k 8 (Nat.le_refl _), a1, b2, show msB c (8 + 8) k 7 = nI (vB (k2 k c)) from c3, nI_add, nI_add]
  have l1 := (sB_all _ a4).2.2.2.1
  have l2 := (sB_all _ b5).2.2.2.1
  have l3 := (sB_all _ c6).2.2.2.1
  rw [m, bit_od _ (by omega), e, odF]
  have eo : oddP (PP (k0 k a) (k1 k b) (k2 k c)) ↔ nI (vB (k0 k a) + vB (k1 k b) + vB (k2 k c)) - nI (vB (k0 k a) + vB (k1 k b) + vB (k2 k c)) / 2 * 2 = 1 := by
    rw [oddP, bcF_PP a4 b5 c6]
  rw [← eo]
  by_cases h : oddP (PP (k0 k a) (k1 k b) (k2 k c))
  · rw [if_pos h]
    exact ⟨fun q => absurd h q, fun q => absurd q (by decide)⟩
  · rw [if_neg h]
    exact ⟨fun _ => rfl, fun _ => h⟩
theorem fail_PP {a b c : Nat} (ha : a < 256) (hb : b < 256) (hc : c < 256) : ∀ k, k ≤ 5 → mfS (PP a b c) k = failTo (PP a b c) k := by
  intro k
  induction k with
  | zero => intro _; rfl
  | succ k ih =>
    intro h
    have q := fail_k ha hb hc k (by omega)
    rw [mfS, failTo, ih (by omega)]
    by_cases h0 : odF (PP a b c &&& pg_cp k) = 0
    · rw [if_pos (q.mpr h0), if_pos h0]
    · rw [if_neg (fun w => h0 (q.mp w)), if_neg h0]
