/-! The flat memory: every int and boolean that the object graphs of class and reference hold, by kind of cell, number of the cell within its kind, place in it. The graph itself never changes once it is built. -/
abbrev pf_S : Type := Nat → Nat → Nat → Int32
/-- world: class numbers and base; the address of each cell; how many places; all addresses -/
abbrev pf_W : Type := pg_Z × (Nat → Nat → Nat) × Nat × List Nat
/-- a boolean as its cell holds it -/
def nb (x : Int32) : Int32 := if x = 0 then 0 else 1
theorem nb_0 : nb 0 = 0 := rfl
theorem nb_1 : nb 1 = 1 := rfl
theorem nb_eq0 (x : Int32) : nb x = 0 ↔ x = 0 := by
  unfold nb
  split
  · simp [*]
  · simp [*]
theorem nb_narrow (x : Int32) : narrow .boolean (.int (nb x)) = .int (nb x) := by
  unfold nb
  split <;> rfl
theorem nb_fits (x : Int32) : fits .boolean (.int (nb x)) = true := by
  unfold nb
  split <;> rfl
theorem nb_nar (x : Int32) : vp_nar .boolean (nb x) = nb x := by
  unfold nb
  split <;> rfl
/-- what a cell holds, by its kind, its number within the kind and its row g of the flat memory -/
def pf_E (w : pf_W) (g : Nat → Int32) (kd ix : Nat) : va_E := match kd with
  | 0 => .inr (0, [.ref (w.2.1 1 0), .ref (w.2.1 2 0), .ref (w.2.1 4 0), .ref (w.2.1 6 0), .ref (w.2.1 8 0), .ref (w.2.1 12 0)])
  | 1 => .inl (w.1.2.2 0, 6, .inl g)
  | 2 => .inr (1, [.ref (w.2.1 3 0), .ref (w.2.1 1 0), .int (g 2)])
  | 3 => .inl (w.1.2.2 0, 22, .inl g)
  | 4 => .inr (3, [.ref (w.2.1 5 0), .ref (w.2.1 1 0)])
  | 5 => .inl (w.1.2.2 2, w.2.2.1, .inr (.inr (.inr (.inr (fun j => some (w.2.1 14 (8 + j)))))))
  | 6 => .inr (4, [.ref (w.2.1 4 0), .ref (w.2.1 14 12), .int (g 2), .int (g 3), .int (g 4), .int (g 5), .int (nb (g 6))])
  | 8 => .inr (5, [.ref (w.2.1 2 0), .ref (w.2.1 4 0), .ref (w.2.1 6 0), .ref (w.2.1 1 0), .ref (w.2.1 9 0), .ref (w.2.1 10 0), .ref (w.2.1 11 0)])
  | 9 => .inl (w.1.2.2 2, 8, .inr (.inr (.inr (.inr (fun j => some (w.2.1 14 j))))))
  | 10 => .inl (w.1.2.2 0, 20, .inl g)
  | 11 => .inl (w.1.2.2 0, 6, .inl g)
  | 12 => .inr (7, [.ref (w.2.1 6 0), .ref (w.2.1 10 0), .ref (w.2.1 13 0), .int (nb (g 3)), .int (g 4), .int (g 5), .int (g 6), .int (g 7)])
  | 13 => .inr (6, [.int (g 0), .int (g 1), .int (nb (g 2)), .int (nb (g 3)), .int (nb (g 4)), .int (nb (g 5)), .int (nb (g 6)), .int (nb (g 7)), .int (nb (g 8)), .int (g 9), .int (nb (g 10))])
  | 14 => .inr (2, [.int (nb (g 0)), .int (g 1), .int (g 2), .int (g 3), .int (g 4), .ref (w.2.1 15 ix), .ref (w.2.1 16 ix), .ref (w.2.1 17 ix)])
  | 15 => .inl (w.1.2.2 0, 160, .inl g)
  | 16 => .inl (w.1.2.2 0, 160, .inl g)
  | 17 => .inl (w.1.2.2 0, 4, .inl g)
  | 20 => .inr (8, [.int (g 0), .ref (w.2.1 21 0), .ref (w.2.1 22 0), .ref (w.2.1 23 0), .ref (w.2.1 24 0), .ref (w.2.1 25 0), .ref (w.2.1 26 0), .ref (w.2.1 27 0), .ref (w.2.1 28 0), .ref (w.2.1 29 0), .ref (w.2.1 30 0), .int (g 11), .ref (w.2.1 31 0), .int (g 13), .int (g 14), .int (g 15), .int (g 16), .int (nb (g 17)), .int (nb (g 18)), .ref (w.2.1 32 0), .ref (w.2.1 33 0), .ref (w.2.1 34 0), .ref (w.2.1 35 0), .ref (w.2.1 36 0), .ref (w.2.1 37 0), .int (g 25), .int (g 26), .int (nb (g 27)), .int (nb (g 28)), .int (nb (g 29)), .int (nb (g 30)), .int (nb (g 31)), .int (nb (g 32)), .int (nb (g 33)), .int (nb (g 34)), .int (g 35), .int (nb (g 36))])
  | 21 => .inl (w.1.2.2 1, 13, .inl (fun q => nb (g q)))
  | 22 => .inl (w.1.2.2 0, 13, .inl g)
  | 23 => .inl (w.1.2.2 0, 13, .inl g)
  | 24 => .inl (w.1.2.2 0, 13, .inl g)
  | 25 => .inl (w.1.2.2 0, 13, .inl g)
  | 26 => .inl (w.1.2.2 0, 52, .inl g)
  | 27 => .inl (w.1.2.2 0, 2080, .inl g)
  | 28 => .inl (w.1.2.2 0, 2080, .inl g)
  | 29 => .inl (w.1.2.2 0, 20, .inl g)
  | 30 => .inl (w.1.2.2 0, 22, .inl g)
  | 31 => .inl (w.1.2.2 0, 6, .inl g)
  | 32 => .inl (w.1.2.2 0, 20, .inl g)
  | 33 => .inl (w.1.2.2 0, 20, .inl g)
  | 34 => .inl (w.1.2.2 0, 20, .inl g)
  | 35 => .inl (w.1.2.2 0, 20, .inl g)
  | 36 => .inl (w.1.2.2 0, 20, .inl g)
  | 37 => .inl (w.1.2.2 0, 20, .inl g)
  | _ => .inr (0, [])
/-- which cells there are, with P places -/
def pf_dm (P kd ix : Nat) : Bool := match kd with
  | 0 => decide (ix = 0)
  | 1 => decide (ix = 0)
  | 2 => decide (ix = 0)
  | 3 => decide (ix = 0)
  | 4 => decide (ix = 0)
  | 5 => decide (ix = 0)
  | 6 => decide (ix = 0)
  | 8 => decide (ix = 0)
  | 9 => decide (ix = 0)
  | 10 => decide (ix = 0)
  | 11 => decide (ix = 0)
  | 12 => decide (ix = 0)
  | 13 => decide (ix = 0)
  | 14 => decide (ix < 8 + P) || decide (ix = 12)
  | 15 => decide (ix < 8 + P) || decide (ix = 12)
  | 16 => decide (ix < 8 + P) || decide (ix = 12)
  | 17 => decide (ix < 8 + P) || decide (ix = 12)
  | 20 => decide (ix = 0)
  | 21 => decide (ix = 0)
  | 22 => decide (ix = 0)
  | 23 => decide (ix = 0)
  | 24 => decide (ix = 0)
  | 25 => decide (ix = 0)
  | 26 => decide (ix = 0)
  | 27 => decide (ix = 0)
  | 28 => decide (ix = 0)
  | 29 => decide (ix = 0)
  | 30 => decide (ix = 0)
  | 31 => decide (ix = 0)
  | 32 => decide (ix = 0)
  | 33 => decide (ix = 0)
  | 34 => decide (ix = 0)
  | 35 => decide (ix = 0)
  | 36 => decide (ix = 0)
  | 37 => decide (ix = 0)
  | _ => false
/-- one number is written -/
def pf_st (S : pf_S) (kd ix k : Nat) (v : Int32) : pf_S := fun a b => if a = kd ∧ b = ix then upd (S kd ix) k v else S a b
/-- a whole row is written -/
def pf_rw (S : pf_S) (kd ix : Nat) (g : Nat → Int32) : pf_S := fun a b => if a = kd ∧ b = ix then g else S a b
theorem pf_st_rw (S : pf_S) (kd ix k : Nat) (v : Int32) : pf_st S kd ix k v = pf_rw S kd ix (upd (S kd ix) k v) := rfl
theorem pf_rw_at (S : pf_S) (kd ix : Nat) (g : Nat → Int32) : pf_rw S kd ix g kd ix = g := by simp [pf_rw]
theorem pf_rw_ne (S : pf_S) {kd ix a b : Nat} (g : Nat → Int32) (h : ¬ (a = kd ∧ b = ix)) : pf_rw S kd ix g a b = S a b := by simp [pf_rw, h]
/-- the picture of the flat memory S -/
def pf_M (w : pf_W) (S : pf_S) (M : Nat → va_E) : Prop := ∀ kd ix, pf_dm w.2.2.1 kd ix = true → M (w.2.1 kd ix) = pf_E w (S kd ix) kd ix
def pf_P (w : pf_W) (S : pf_S) (H : Heap) : Prop := ∃ M, pf_M w S M ∧ pg_P w.1 w.2.2.2 M H
def pf_ok (w : pf_W) : Prop := ∀ kd ix, pf_dm w.2.2.1 kd ix = true → w.2.1 kd ix ∈ w.2.2.2 ∧ ∀ kd' ix', pf_dm w.2.2.1 kd' ix' = true → w.2.1 kd ix = w.2.1 kd' ix' → kd = kd' ∧ ix = ix'
theorem pf_M.up {w : pf_W} {S : pf_S} {M : Nat → va_E} {kd ix : Nat} {g : Nat → Int32} {e : va_E} (ok : pf_ok w) (hM : pf_M w S M) (hd : pf_dm w.2.2.1 kd ix = true) (he : pf_E w g kd ix = e) : pf_M w (pf_rw S kd ix g) (va_up M (w.2.1 kd ix) e) := fun a b hab => by
  by_cases h : a = kd ∧ b = ix
  · obtain ⟨rfl, rfl⟩ := h
    rw [va_up_self, pf_rw_at, he]
  · rw [pf_rw_ne _ _ h, va_up_ne _ _ (fun q => h ((ok a b hab).2 kd ix hd q))]
    exact hM a b hab
/-- a place of a pool names field k of class number ci -/
def pg_fs (own : String) (idx ci k : Nat) : Prop := ∃ (C : String) (T : u_T) (N : Nat) (ty : Nat → FieldType), pg_cf ci C T N ty ∧ pg_fl own idx T k ∧ k < N
/-- .. and it may be written, a value of type t -/
def pg_fw (own : String) (idx ci k : Nat) (t : FieldType) : Prop := ∃ (C : String) (T : u_T) (N : Nat) (ty : Nat → FieldType), pg_cf ci C T N ty ∧ pg_fl own idx T k ∧ k < N ∧ (T k).2.2.2 = false ∧ ty k = t
/-- class number ci has the name C -/
def pg_cn (ci : Nat) (C : String) : Prop := ∃ (T : u_T) (N : Nat) (ty : Nat → FieldType), pg_cf ci C T N ty
/-- an index in range, and which -/
def pg_ix (i : Int32) (n j : Nat) : Prop := vp_in i n ∧ i.toNatClampNeg = j
theorem pg_ixN {i : Int32} {n j : Nat} (e : i = nI j) (h : j < n) (hn : n < 2 ^ 31) : pg_ix i n j := by
  subst e
  exact ⟨vp_in_nI h hn, nI_clamp (by omega)⟩
section PFLAT
variable {κ : pg_K} {w : pf_W} {y : MethodName} {cc : ByteArray} {nL : Nat} {ret : Option FieldType} {rm : Room} {ce sl : Nat} {Q : State → Prop} {pc : Nat} {lv : List (Option Value)} {st : List Value} {S : pf_S} {kd ix : Nat}
theorem pf_in (k : ∀ M, pf_M w S M → pg_G κ w.1 nL ce sl Q (pg_P w.1 w.2.2.2 M) pc lv st) : pg_G κ w.1 nL ce sl Q (pf_P w S) pc lv st := pg_ex (fun M => pg_an (k M))
theorem pf_out {M : Nat → va_E} (hM : pf_M w S M) (k : pg_G κ w.1 nL ce sl Q (pf_P w S) pc lv st) : pg_G κ w.1 nL ce sl Q (pg_P w.1 w.2.2.2 M) pc lv st := pg_wk (fun _ hP => ⟨M, hM, hP⟩) k
theorem pf_get {ci k idx : Nat} {fs : List Value} {v : Value} (h : pg_X κ w.1 y cc nL ret rm) (ok : pf_ok w) (d : decode cc pc = .ok (.getfield idx, 3)) (hf : pg_fs y.cls idx ci k) (hd : pf_dm w.2.2.1 kd ix = true) (he : pf_E w (S kd ix) kd ix = .inr (ci, fs)) (hv : fs[k]? = some v)
    (kk : pg_G κ w.1 nL ce sl Q (pf_P w S) (pc + 3) lv (v :: st)) : pg_G κ w.1 nL ce sl Q (pf_P w S) pc lv (.ref (w.2.1 kd ix) :: st) := by
  obtain ⟨C, T, N, ty, hc, hl, hk⟩ := hf
  exact pf_in (fun M hM => pg_get1 h d hc hl hk (ok kd ix hd).1 ((hM kd ix hd).trans he) hv (pf_out hM kk))
theorem pf_put {ci k idx : Nat} {fs : List Value} {v : Int32} {x : Int32} {t : FieldType} (h : pg_X κ w.1 y cc nL ret rm) (ok : pf_ok w) (d : decode cc pc = .ok (.putfield idx, 3)) (hf : pg_fw y.cls idx ci k t) (hd : pf_dm w.2.2.1 kd ix = true) (he : pf_E w (S kd ix) kd ix = .inr (ci, fs)) (hn : narrow t (.int v) = .int v) (hfit : fits t (.int v) = true) (hlen : k < fs.length) (he2 : pf_E w (upd (S kd ix) k x) kd ix = .inr (ci, fs.set k (.int v)))
    (kk : pg_G κ w.1 nL ce sl Q (pf_P w (pf_st S kd ix k x)) (pc + 3) lv st) : pg_G κ w.1 nL ce sl Q (pf_P w S) pc lv (.int v :: .ref (w.2.1 kd ix) :: st) := by
  obtain ⟨C, T, N, ty, hc, hl, hk, hfin, rfl⟩ := hf
  exact pf_in (fun M hM => pg_put1 h d hc hl hk hfin hn hfit (ok kd ix hd).1 ((hM kd ix hd).trans he) hlen (pf_out (hM.up ok hd he2) kk))
theorem pf_puti {ci k idx : Nat} {fs : List Value} {v : Int32} (h : pg_X κ w.1 y cc nL ret rm) (ok : pf_ok w) (d : decode cc pc = .ok (.putfield idx, 3)) (hf : pg_fw y.cls idx ci k .int) (hd : pf_dm w.2.2.1 kd ix = true) (he : pf_E w (S kd ix) kd ix = .inr (ci, fs)) (hlen : k < fs.length) (he2 : pf_E w (upd (S kd ix) k v) kd ix = .inr (ci, fs.set k (.int v)))
    (kk : pg_G κ w.1 nL ce sl Q (pf_P w (pf_st S kd ix k v)) (pc + 3) lv st) : pg_G κ w.1 nL ce sl Q (pf_P w S) pc lv (.int v :: .ref (w.2.1 kd ix) :: st) := pf_put h ok d hf hd he rfl rfl hlen he2 kk
theorem pf_putz {ci k idx : Nat} {fs : List Value} (x : Int32) (h : pg_X κ w.1 y cc nL ret rm) (ok : pf_ok w) (d : decode cc pc = .ok (.putfield idx, 3)) (hf : pg_fw y.cls idx ci k .boolean) (hd : pf_dm w.2.2.1 kd ix = true) (he : pf_E w (S kd ix) kd ix = .inr (ci, fs)) (hlen : k < fs.length) (he2 : pf_E w (upd (S kd ix) k x) kd ix = .inr (ci, fs.set k (.int (nb x))))
    (kk : pg_G κ w.1 nL ce sl Q (pf_P w (pf_st S kd ix k x)) (pc + 3) lv st) : pg_G κ w.1 nL ce sl Q (pf_P w S) pc lv (.int (nb x) :: .ref (w.2.1 kd ix) :: st) := pf_put h ok d hf hd he (nb_narrow x) (nb_fits x) hlen he2 kk
theorem pf_ild {n j : Nat} {i : Int32} (h : pg_X κ w.1 y cc nL ret rm) (ok : pf_ok w) (d : decode cc pc = .ok (.iaload, 1)) (hd : pf_dm w.2.2.1 kd ix = true) (he : pf_E w (S kd ix) kd ix = .inl (w.1.2.2 0, n, .inl (S kd ix))) (hi : pg_ix i n j)
    (kk : pg_G κ w.1 nL ce sl Q (pf_P w S) (pc + 1) lv (.int (S kd ix j) :: st)) : pg_G κ w.1 nL ce sl Q (pf_P w S) pc lv (.int i :: .ref (w.2.1 kd ix) :: st) :=
  pf_in (fun M hM => pg_iald1 h d (ok kd ix hd).1 ((hM kd ix hd).trans he) hi.1 (by rw [hi.2]; exact pf_out hM kk))
theorem pf_ist {n j : Nat} {i x : Int32} (h : pg_X κ w.1 y cc nL ret rm) (ok : pf_ok w) (d : decode cc pc = .ok (.iastore, 1)) (hd : pf_dm w.2.2.1 kd ix = true) (he : ∀ g : Nat → Int32, pf_E w g kd ix = .inl (w.1.2.2 0, n, .inl g)) (hi : pg_ix i n j)
    (kk : pg_G κ w.1 nL ce sl Q (pf_P w (pf_st S kd ix j x)) (pc + 1) lv st) : pg_G κ w.1 nL ce sl Q (pf_P w S) pc lv (.int x :: .int i :: .ref (w.2.1 kd ix) :: st) :=
  pf_in (fun M hM => pg_iast1 h d (ok kd ix hd).1 ((hM kd ix hd).trans (he _)) hi.1 (by rw [hi.2]; exact pf_out (hM.up ok hd (he _)) kk))
theorem pf_zld {n j : Nat} {i : Int32} (h : pg_X κ w.1 y cc nL ret rm) (ok : pf_ok w) (d : decode cc pc = .ok (.baload, 1)) (hd : pf_dm w.2.2.1 kd ix = true) (he : pf_E w (S kd ix) kd ix = .inl (w.1.2.2 1, n, .inl (fun q => nb (S kd ix q)))) (hi : pg_ix i n j)
    (kk : pg_G κ w.1 nL ce sl Q (pf_P w S) (pc + 1) lv (.int (nb (S kd ix j)) :: st)) : pg_G κ w.1 nL ce sl Q (pf_P w S) pc lv (.int i :: .ref (w.2.1 kd ix) :: st) :=
  pf_in (fun M hM => pg_zald1 h d (ok kd ix hd).1 ((hM kd ix hd).trans he) hi.1 (by rw [hi.2]; exact pf_out hM kk))
theorem pf_zst {n j : Nat} {i : Int32} (x : Int32) (h : pg_X κ w.1 y cc nL ret rm) (ok : pf_ok w) (d : decode cc pc = .ok (.bastore, 1)) (hd : pf_dm w.2.2.1 kd ix = true) (he : ∀ g : Nat → Int32, pf_E w g kd ix = .inl (w.1.2.2 1, n, .inl (fun q => nb (g q)))) (hi : pg_ix i n j)
    (kk : pg_G κ w.1 nL ce sl Q (pf_P w (pf_st S kd ix j x)) (pc + 1) lv st) : pg_G κ w.1 nL ce sl Q (pf_P w S) pc lv (.int (nb x) :: .int i :: .ref (w.2.1 kd ix) :: st) :=
  pf_in (fun M hM => pg_zast1 h d (ok kd ix hd).1 ((hM kd ix hd).trans (he _)) hi.1 (nb_nar x) (by
    rw [hi.2]
    refine pf_out (hM.up ok hd ?_) kk
    rw [he]
    refine congrArg (fun f => Sum.inl (w.1.2.2 1, n, Sum.inl f)) ?_
    funext q
    by_cases hq : q = j
    · simp [upd, hq]
    · simp [upd, hq]))
theorem pf_ald {n j b : Nat} {i : Int32} {f : Nat → Option Nat} (h : pg_X κ w.1 y cc nL ret rm) (ok : pf_ok w) (d : decode cc pc = .ok (.aaload, 1)) (hd : pf_dm w.2.2.1 kd ix = true) (he : pf_E w (S kd ix) kd ix = .inl (w.1.2.2 2, n, .inr (.inr (.inr (.inr f))))) (hi : pg_ix i n j) (hb : f j = some b)
    (kk : pg_G κ w.1 nL ce sl Q (pf_P w S) (pc + 1) lv (.ref b :: st)) : pg_G κ w.1 nL ce sl Q (pf_P w S) pc lv (.int i :: .ref (w.2.1 kd ix) :: st) :=
  pf_in (fun M hM => pg_aald1 h d (ok kd ix hd).1 ((hM kd ix hd).trans he) hi.1 (by rw [hi.2, hb]; exact pf_out hM kk))
theorem pf_len {x : vp_A} {c : ClassId} {t0 : Nat} {ty : FieldType} {v : Int32} (h : pg_X κ w.1 y cc nL ret rm) (ok : pf_ok w) (d : decode cc pc = .ok (.arraylength, 1)) (hd : pf_dm w.2.2.1 kd ix = true) (he : pf_E w (S kd ix) kd ix = .inl (c, x)) (ht : (pg_ty w.1)[t0]? = some (c, ty)) (hv : Int32.ofNat x.1 = v)
    (kk : pg_G κ w.1 nL ce sl Q (pf_P w S) (pc + 1) lv (.int v :: st)) : pg_G κ w.1 nL ce sl Q (pf_P w S) pc lv (.ref (w.2.1 kd ix) :: st) :=
  pf_in (fun M hM => pg_alen1 h d (ok kd ix hd).1 ((hM kd ix hd).trans he) ht hv (pf_out hM kk))
theorem pf_recv {ci : Nat} {C : String} {fs : List Value} {H : Heap} (h : pg_X κ w.1 y cc nL ret rm) (ok : pf_ok w) (hc : pg_cn ci C) (hd : pf_dm w.2.2.1 kd ix = true) (he : pf_E w (S kd ix) kd ix = .inr (ci, fs)) (hP : pf_P w S H) : ∃ cell : Cell, H[w.2.1 kd ix]? = some cell ∧ cell.vm.isStatics = false ∧ (pg_s κ).vm.findClass C = some cell.cls := by
  obtain ⟨T, N, ty, hc⟩ := hc
  obtain ⟨M, hM, hP⟩ := hP
  exact pg_recv1 h hc (ok kd ix hd).1 ((hM kd ix hd).trans he) hP
/-- a contract over the flat memory: arguments, memory, answer, memory behind it -/
def pf_C (w : pf_W) (y : MethodName) (cc : ByteArray) (nL : Nat) (ret : Option FieldType) (d lo : Nat) (as : List Value) (S : pf_S) (r : Option Value) (S' : pf_S) : Prop := pg_E w.1 y cc nL ret ⟨d, 0, 0, lo⟩ as (pf_P w S) r (pf_P w S')
variable {y2 : MethodName} {cc2 : ByteArray} {nL2 n idx d2 lo2 ci : Nat} {ret2 : Option FieldType} {As rest fs : List Value} {S2 : pf_S} {v : Value}
theorem pf_cV (h : pg_X κ w.1 y cc nL ret rm) (ok : pf_ok w) (d : decode cc pc = .ok (.invokevirtual idx, 3)) (hm : pg_mi y2 cc2 nL2 ret2 n) (hl : pg_ml y.cls idx y2) (hC : pf_C w y2 cc2 nL2 ret2 d2 lo2 (.ref (w.2.1 kd ix) :: As) S (some v) S2) (hcn : pg_cn ci y2.cls) (hd : pf_dm w.2.2.1 kd ix = true) (he : pf_E w (S kd ix) kd ix = .inr (ci, fs)) (hn : As.length = n) (hst : st = As.reverse ++ .ref (w.2.1 kd ix) :: rest) (hcat : (rest.map fun v => v.category).sum ≤ 8)
    (hroom : d2 + 1 ≤ rm.frames ∧ 8 + (nL2 + 11) + lo2 ≤ rm.locals) (hcell : ce ≤ rm.cells ∧ sl ≤ rm.slots)
    (kk : pg_G κ w.1 nL ce sl Q (pf_P w S2) (pc + 3) lv (v :: rest)) : pg_G κ w.1 nL ce sl Q (pf_P w S) pc lv st := pg_cV h d hm hl hC (fun _ hP => pf_recv h ok hcn hd he hP) hn hst hcat hroom hcell kk
theorem pf_cV0 (h : pg_X κ w.1 y cc nL ret rm) (ok : pf_ok w) (d : decode cc pc = .ok (.invokevirtual idx, 3)) (hm : pg_mi y2 cc2 nL2 ret2 n) (hl : pg_ml y.cls idx y2) (hC : pf_C w y2 cc2 nL2 ret2 d2 lo2 (.ref (w.2.1 kd ix) :: As) S none S2) (hcn : pg_cn ci y2.cls) (hd : pf_dm w.2.2.1 kd ix = true) (he : pf_E w (S kd ix) kd ix = .inr (ci, fs)) (hn : As.length = n) (hst : st = As.reverse ++ .ref (w.2.1 kd ix) :: rest) (hcat : (rest.map fun v => v.category).sum ≤ 8)
    (hroom : d2 + 1 ≤ rm.frames ∧ 8 + (nL2 + 11) + lo2 ≤ rm.locals) (hcell : ce ≤ rm.cells ∧ sl ≤ rm.slots)
    (kk : pg_G κ w.1 nL ce sl Q (pf_P w S2) (pc + 3) lv rest) : pg_G κ w.1 nL ce sl Q (pf_P w S) pc lv st := pg_cV0 h d hm hl hC (fun _ hP => pf_recv h ok hcn hd he hP) hn hst hcat hroom hcell kk
theorem pf_iret {v : Int32} {r : Option Value} {ty : FieldType} {S2 : pf_S} (h : pg_X κ w.1 y cc nL (some ty) rm) (d : decode cc pc = .ok (.ireturn, 1)) (hn : narrow ty (.int v) = .int v) (hr : r = some (.int v)) (hS : S2 = S) : pg_G κ w.1 nL ce sl (pg_Q κ w.1 (fun r' H => r' = r ∧ pf_P w S2 H) ce sl) (pf_P w S) pc lv [.int v] := pg_iret h d hn (fun H hP => ⟨hr.symm, hS ▸ hP⟩)
theorem pf_vret {S2 : pf_S} (h : pg_X κ w.1 y cc nL none rm) (d : decode cc pc = .ok (.return_, 1)) (hS : S2 = S) : pg_G κ w.1 nL ce sl (pg_Q κ w.1 (fun r' H => r' = none ∧ pf_P w S2 H) ce sl) (pf_P w S) pc lv [] := pg_vret h d (fun H hP => ⟨rfl, hS ▸ hP⟩)
theorem pf_aret {v : Value} {r : Option Value} {C : String} {S2 : pf_S} (h : pg_X κ w.1 y cc nL (some (.object C)) rm) (d : decode cc pc = .ok (.areturn, 1)) (hv : v = .null ∨ ∃ a, v = .ref a) (hr : r = some v) (hS : S2 = S) : pg_G κ w.1 nL ce sl (pg_Q κ w.1 (fun r' H => r' = r ∧ pf_P w S2 H) ce sl) (pf_P w S) pc lv [v] := pg_aret h d hv (fun H hP => ⟨hr.symm, hS ▸ hP⟩)
theorem pf_enter {dd lo : Nat} {as : List Value} {r : Option Value} {lv0 : List (Option Value)} {S2 : pf_S} (hy : plainName y.cls = true) (hn : (lg_sl as).length ≤ nL) (hlv : lv_args 0 as = pg_lv 0 lv0)
    (body : ∀ κ : pg_K, pg_X κ w.1 y cc nL ret ⟨dd, 0, 0, lo⟩ → pg_G κ w.1 nL 0 0 (pg_Q κ w.1 (fun r' H => r' = r ∧ pf_P w S2 H) 0 0) (pf_P w S) 0 lv0 []) : pf_C w y cc nL ret dd lo as S r S2 := pg_enter hy hn hlv body
end PFLAT
section PGSTAT
variable {κ : pg_K} {z : pg_Z} {y : MethodName} {cc : ByteArray} {nL : Nat} {ret : Option FieldType} {rm : Room} {ce sl : Nat} {Q : State → Prop} {Pic : Heap → Prop} {pc : Nat} {lv : List (Option Value)} {st : List Value}
theorem pg_gsCW {idx : Nat} {host : String} (h : pg_X κ z y cc nL ret rm) (d : decode cc pc = .ok (.getstatic idx, 3)) (hl : (y.cls, idx, "PageReceiver", "CODE_WORDS", "[I", host) ∈ pg_nf) (k : pg_G κ z nL ce sl Q Pic (pc + 3) lv (.ref (z.2.2 3) :: st)) : pg_G κ z nL ce sl Q Pic pc lv st := fun H locs ls hP hS hl2 =>
  va_getsN (host := host) (ref := "PageReceiver") h.1 h.2.1 h.2.2.2.2.2.1.2.2.2.2.2.1.1 hS h.2.2.2.1 (va_Nw.use rfl (h.2.2.2.2.2.1.2.1 _ hl)) (fun _ x => x) d (k H locs ls hP hS hl2)
theorem pg_gsCP {idx : Nat} {host : String} (h : pg_X κ z y cc nL ret rm) (d : decode cc pc = .ok (.getstatic idx, 3)) (hl : (y.cls, idx, "PageReceiver", "CHECKED_PLACES", "[I", host) ∈ pg_nf) (k : pg_G κ z nL ce sl Q Pic (pc + 3) lv (.ref (z.2.2 4) :: st)) : pg_G κ z nL ce sl Q Pic pc lv st := fun H locs ls hP hS hl2 =>
  va_getsN (host := host) (ref := "PageReceiver") h.1 h.2.1 h.2.2.2.2.2.1.2.2.2.2.2.2.1 hS h.2.2.2.1 (va_Nw.use rfl (h.2.2.2.2.2.1.2.1 _ hl)) (fun _ x => x) d (k H locs ls hP hS hl2)
theorem pg_lenCW (h : pg_X κ z y cc nL ret rm) (d : decode cc pc = .ok (.arraylength, 1)) (k : pg_G κ z nL ce sl Q Pic (pc + 1) lv (.int 16 :: st)) : pg_G κ z nL ce sl Q Pic pc lv (.ref (z.2.2 3) :: st) := fun H locs ls hP hS hl => va_tlen h.1 h.2.1 h.2.2.2.2.2.1.2.2.2.2.2.1.2 hS (by decide) d (k H locs ls hP hS hl)
theorem pg_lenCP (h : pg_X κ z y cc nL ret rm) (d : decode cc pc = .ok (.arraylength, 1)) (k : pg_G κ z nL ce sl Q Pic (pc + 1) lv (.int 5 :: st)) : pg_G κ z nL ce sl Q Pic pc lv (.ref (z.2.2 4) :: st) := fun H locs ls hP hS hl => va_tlen h.1 h.2.1 h.2.2.2.2.2.1.2.2.2.2.2.2.2 hS (by decide) d (k H locs ls hP hS hl)
theorem pg_ldCW {i : Int32} {j : Nat} (h : pg_X κ z y cc nL ret rm) (d : decode cc pc = .ok (.iaload, 1)) (hi : pg_ix i 16 j) (k : pg_G κ z nL ce sl Q Pic (pc + 1) lv (.int (pg_cw j) :: st)) : pg_G κ z nL ce sl Q Pic pc lv (.int i :: .ref (z.2.2 3) :: st) := fun H locs ls hP hS hl => va_ti h.1 h.2.1 h.2.2.2.2.2.1.2.2.2.2.2.1.2 hS hi.1 (by rw [hi.2]) d (k H locs ls hP hS hl)
theorem pg_ldCP {i : Int32} {j : Nat} (h : pg_X κ z y cc nL ret rm) (d : decode cc pc = .ok (.iaload, 1)) (hi : pg_ix i 5 j) (k : pg_G κ z nL ce sl Q Pic (pc + 1) lv (.int (pg_cp j) :: st)) : pg_G κ z nL ce sl Q Pic pc lv (.int i :: .ref (z.2.2 4) :: st) := fun H locs ls hP hS hl => va_ti h.1 h.2.1 h.2.2.2.2.2.1.2.2.2.2.2.2.2 hS hi.1 (by rw [hi.2]) d (k H locs ls hP hS hl)
end PGSTAT
