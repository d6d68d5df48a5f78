/-! The fresh world as a flat memory. -/
theorem nd_inj {α : Type} {f : α → Nat} : ∀ {l : List α}, (l.map f).Nodup → ∀ x ∈ l, ∀ y ∈ l, f x = f y → x = y := by
  intro l
  induction l with
  | nil => intro _ x hx; cases hx
  | cons a t ih =>
    intro h x hx y hy e
    rw [List.map_cons, List.nodup_cons] at h
    rcases List.mem_cons.mp hx with h1 | h1
    · rcases List.mem_cons.mp hy with h2 | h2
      · rw [h1, h2]
      · refine absurd (List.mem_map.mpr ⟨y, h2, ?_⟩) h.1
        rw [← e, h1]
    · rcases List.mem_cons.mp hy with h2 | h2
      · refine absurd (List.mem_map.mpr ⟨x, h1, ?_⟩) h.1
        rw [e, h2]
      · exact ih h.2 x h1 y h2 e
/-- a world that lists the cells of the flat memory S by the keys ks -/
theorem wl_pf {z : pg_Z} {AD : Nat → Nat → Nat} {P : Nat} {S : pf_S} {H : Heap} (ks : List (Nat × Nat)) (hk : ∀ kd ix, pf_dm P kd ix = true → (kd, ix) ∈ ks)
    (h : wl_P z (ks.map (fun k => (AD k.1 k.2, pf_E (z, AD, P, ks.map (fun k => AD k.1 k.2)) (S k.1 k.2) k.1 k.2))) H) : pf_ok (z, AD, P, ks.map (fun k => AD k.1 k.2)) ∧ pf_P (z, AD, P, ks.map (fun k => AD k.1 k.2)) S H := by
  have hn := (wl_iff.mp h).2
  rw [List.map_map] at hn
  have inj : ∀ x ∈ ks, ∀ y ∈ ks, AD x.1 x.2 = AD y.1 y.2 → x = y := nd_inj hn
  refine ⟨fun kd ix hd => ⟨List.mem_map.mpr ⟨(kd, ix), hk kd ix hd, rfl⟩, fun kd' ix' hd' e => ?_⟩, ?_⟩
  · have := inj (kd, ix) (hk kd ix hd) (kd', ix') (hk kd' ix' hd') e
    exact Prod.mk.inj this
  · let E : Nat × Nat → va_E := fun k => pf_E (z, AD, P, ks.map (fun k => AD k.1 k.2)) (S k.1 k.2) k.1 k.2
    let M : Nat → va_E := fun a => match ks.find? (fun k => AD k.1 k.2 == a) with
      | some k => E k
      | none => .inr (0, [])
    have hM : ∀ k ∈ ks, M (AD k.1 k.2) = E k := by
      intro k hk
      show (match ks.find? (fun q => AD q.1 q.2 == AD k.1 k.2) with
        | some k => E k
        | none => .inr (0, [])) = E k
      cases hf : ks.find? (fun q => AD q.1 q.2 == AD k.1 k.2) with
      | none =>
        have := List.find?_eq_none.mp hf k hk
        simp at this
      | some q =>
        have h1 := List.find?_some hf
        have h2 := List.mem_of_find?_eq_some hf
        have : q = k := inj q h2 k hk (by simpa using h1)
        rw [this]
    refine ⟨M, fun kd ix hd => hM (kd, ix) (hk kd ix hd), ?_⟩
    have e : va_pl (ks.map (fun k => AD k.1 k.2)) M = ks.map (fun k => (AD k.1 k.2, E k)) := by
      unfold va_pl
      rw [List.map_map]
      apply List.map_congr_left
      intro k hk
      show (AD k.1 k.2, M (AD k.1 k.2)) = _
      rw [hM k hk]
    show va_P z.1 pg_cl (va_pl (ks.map (fun k => AD k.1 k.2)) M) H ∧ va_D (pg_A z) (va_pl (ks.map (fun k => AD k.1 k.2)) M)
    rw [e]
    exact h
def pgA (x : CAd) (ix : Nat) : Pg4 := if ix < 8 then x.2.2.2 ix else if ix = 12 then x.2.1 else x.2.2.1 (ix - 8)
def lawAd (a m : Nat) (x : CAd) (y : Nat → Nat) (kd ix : Nat) : Nat := match kd with
  | 0 => a
  | 1 => x.1 1
  | 2 => x.1 2
  | 3 => x.1 3
  | 4 => x.1 4
  | 5 => x.1 5
  | 6 => x.1 6
  | 8 => x.1 8
  | 9 => x.1 9
  | 10 => x.1 10
  | 11 => x.1 11
  | 12 => x.1 12
  | 13 => x.1 13
  | 14 => (pgA x ix).1
  | 15 => (pgA x ix).2.1
  | 16 => (pgA x ix).2.2.1
  | 17 => (pgA x ix).2.2.2
  | 20 => m
  | k => y k
/-- what the fresh cells hold -/
def fr6 (k : Nat) : Int32 := match k with
  | 2 => 256
  | _ => 0
def fr12 (k : Nat) : Int32 := match k with
  | 3 => 1
  | _ => 0
def fr20 (p : Int32) (k : Nat) : Int32 := match k with
  | 0 => p
  | 13 => 256
  | 18 => 1
  | _ => 0
def frS (P : Nat) (kd _ix : Nat) : Nat → Int32 := match kd with
  | 6 => fr6
  | 10 => filTo (fun _ => 0) 32 20
  | 12 => fr12
  | 20 => fr20 (nI P)
  | 29 => filTo (fun _ => 0) 32 20
  | _ => fun _ => 0
def pkK (off : Nat) : Nat → List (Nat × Nat) → List (Nat × Nat)
  | 0, t => t
  | n + 1, t => (14, off + n) :: (17, off + n) :: (16, off + n) :: (15, off + n) :: pkK off n t
def ksP (P : Nat) : List (Nat × Nat) := (29, 0) :: (20, 0) :: (37, 0) :: (36, 0) :: (35, 0) :: (34, 0) :: (33, 0) :: (32, 0) :: (31, 0) :: (30, 0) :: (28, 0) :: (27, 0) :: (26, 0) :: (25, 0) :: (24, 0) :: (23, 0) :: (22, 0) :: (21, 0) ::
  (0, 0) :: (12, 0) :: (13, 0) :: (10, 0) :: (9, 0) :: (8, 0) :: (11, 0) :: pkK 0 8 ((6, 0) :: (14, 12) :: (17, 12) :: (16, 12) :: (15, 12) :: (5, 0) :: (4, 0) :: pkK 8 P ((2, 0) :: (3, 0) :: (1, 0) :: []))
theorem dm_lt {P kd ix : Nat} (hP : P ≤ 4) (h : pf_dm P kd ix = true) : kd < 38 ∧ ix < 13 := by
  unfold pf_dm at h
  split at h <;> simp at h <;> omega
def ksB (P : Nat) : Bool := (List.range 38).all (fun kd => (List.range 13).all (fun ix => !pf_dm P kd ix || (ksP P).contains (kd, ix)))
theorem ksB_1 : ksB 1 = true := by decide +kernel
theorem ksB_2 : ksB 2 = true := by decide +kernel
theorem ksB_3 : ksB 3 = true := by decide +kernel
theorem ksB_4 : ksB 4 = true := by decide +kernel
theorem ks_all {P : Nat} (hP : 1 ≤ P ∧ P ≤ 4) (kd ix : Nat) (h : pf_dm P kd ix = true) : (kd, ix) ∈ ksP P := by
  obtain ⟨h1, h2⟩ := dm_lt hP.2 h
  have hb : ksB P = true := by
    rcases (show P = 1 ∨ P = 2 ∨ P = 3 ∨ P = 4 by omega) with rfl | rfl | rfl | rfl
    · exact ksB_1
    · exact ksB_2
    · exact ksB_3
    · exact ksB_4
  have a1 := List.all_eq_true.mp hb kd (List.mem_range.mpr h1)
  have a2 := List.all_eq_true.mp a1 ix (List.mem_range.mpr h2)
  rw [h] at a2
  simpa using a2
theorem pk_map (z : pg_Z) (a m P : Nat) (x : CAd) (y : Nat → Nat) (L : List Nat) (F : Nat → Pg4) (off : Nat) (t : List (Nat × Nat)) : ∀ n, (∀ j, j < n → pgA x (off + j) = F j) →
    (pkK off n t).map (fun k => (lawAd a m x y k.1 k.2, pf_E (z, lawAd a m x y, P, L) (frS P k.1 k.2) k.1 k.2)) = pgs z F n (t.map (fun k => (lawAd a m x y k.1 k.2, pf_E (z, lawAd a m x y, P, L) (frS P k.1 k.2) k.1 k.2))) := by
  intro n
  induction n with
  | zero => intro _; rfl
  | succ n ih =>
    intro h
    show (_ :: _ :: _ :: _ :: (pkK off n t).map _) = pgl z (F n) (pgs z F n _)
    rw [ih (fun j hj => h j (by omega)), ← h n (by omega)]
    rfl
abbrev rcvG (z : pg_Z) (a P : Nat) (x : CAd) (fC fP : Nat → Option Nat) (ws : va_W) : va_W :=
  (a, .inr (0, [.ref (x.1 1), .ref (x.1 2), .ref (x.1 4), .ref (x.1 6), .ref (x.1 8), .ref (x.1 12)])) ::
  ((x.1 12), .inr (7, [.ref (x.1 6), .ref (x.1 10), .ref (x.1 13), .int 1, .int 0, .int 0, .int 0, .int 0])) :: ((x.1 13), .inr (6, z_States)) ::
  ((x.1 10), wIA z 20 (filTo (fun _ => 0) 32 20)) :: ((x.1 9), wQA z 8 fC) :: ((x.1 8), .inr (5, [.ref (x.1 2), .ref (x.1 4), .ref (x.1 6), .ref (x.1 1), .ref (x.1 9), .ref (x.1 10), .ref (x.1 11)])) :: ((x.1 11), wIA z 6 (fun _ => 0)) :: pgs z x.2.2.2 8
  (((x.1 6), .inr (4, [.ref (x.1 4), .ref x.2.1.1, .int 256, .int 0, .int 0, .int 0, .int 0])) :: pgl z x.2.1
  (((x.1 5), wQA z P fP) :: ((x.1 4), .inr (3, [.ref (x.1 5), .ref (x.1 1)])) :: pgs z x.2.2.1 P
  (((x.1 2), .inr (1, [.ref (x.1 3), .ref (x.1 1), .int 0])) :: ((x.1 3), wIA z 22 (fun _ => 0)) :: ((x.1 1), wIA z 6 (fun _ => 0)) :: ws)))
theorem up25 {α : Type} {x : α} {t t' : List α} (h : t.Perm (x :: t')) (a1 a2 a3 a4 a5 a6 a7 a8 a9 a10 a11 a12 a13 a14 a15 a16 a17 a18 a19 a20 a21 a22 a23 a24 a25 : α) : (a1 :: a2 :: a3 :: a4 :: a5 :: a6 :: a7 :: a8 :: a9 :: a10 :: a11 :: a12 :: a13 :: a14 :: a15 :: a16 :: a17 :: a18 :: a19 :: a20 :: a21 :: a22 :: a23 :: a24 :: a25 :: t).Perm (x :: a1 :: a2 :: a3 :: a4 :: a5 :: a6 :: a7 :: a8 :: a9 :: a10 :: a11 :: a12 :: a13 :: a14 :: a15 :: a16 :: a17 :: a18 :: a19 :: a20 :: a21 :: a22 :: a23 :: a24 :: a25 :: t') := (List.Perm.append_left [a1, a2, a3, a4, a5, a6, a7, a8, a9, a10, a11, a12, a13, a14, a15, a16, a17, a18, a19, a20, a21, a22, a23, a24, a25] h).trans (List.perm_middle (l₁ := [a1, a2, a3, a4, a5, a6, a7, a8, a9, a10, a11, a12, a13, a14, a15, a16, a17, a18, a19, a20, a21, a22, a23, a24, a25]))
theorem mid22 {α : Type} (a1 a2 a3 a4 a5 a6 a7 a8 a9 a10 a11 a12 a13 a14 a15 a16 a17 a18 a19 a20 a21 a22 x : α) (t : List α) : (a1 :: a2 :: a3 :: a4 :: a5 :: a6 :: a7 :: a8 :: a9 :: a10 :: a11 :: a12 :: a13 :: a14 :: a15 :: a16 :: a17 :: a18 :: a19 :: a20 :: a21 :: a22 :: x :: t).Perm (x :: a1 :: a2 :: a3 :: a4 :: a5 :: a6 :: a7 :: a8 :: a9 :: a10 :: a11 :: a12 :: a13 :: a14 :: a15 :: a16 :: a17 :: a18 :: a19 :: a20 :: a21 :: a22 :: t) := List.perm_middle (l₁ := [a1, a2, a3, a4, a5, a6, a7, a8, a9, a10, a11, a12, a13, a14, a15, a16, a17, a18, a19, a20, a21, a22])
theorem pgs_perm (z : pg_Z) (F : Nat → Pg4) {t t' : va_W} (h : t.Perm t') : ∀ n, (pgs z F n t).Perm (pgs z F n t') := by
  intro n
  induction n with
  | zero => exact h
  | succ n ih => exact (((ih.cons _).cons _).cons _).cons _
set_option maxRecDepth 100000 in
set_option maxHeartbeats 1000000 in
theorem rcvG_C {z : pg_Z} {a m P : Nat} {x : CAd} {y : Nat → Nat} {H : Heap} {p : Int32} {R : Nat → Int32} {fC fC' fP : Nat → Option Nat} (hf : ∀ j, j < 8 → fC j = fC' j) (h : wl_P z (mdl z m p y R (rcvG z a P x fC fP [])) H) : wl_P z (mdl z m p y R (rcvG z a P x fC' fP [])) H := by
  have h1 := wl_perm (mid22 _ _ _ _ _ _ _ _ _ _ _ _ _ _ _ _ _ _ _ _ _ _ _ _) h
  have h2 := wl_cell (wl_qcell hf) h1
  exact wl_perm (mid22 _ _ _ _ _ _ _ _ _ _ _ _ _ _ _ _ _ _ _ _ _ _ _ _).symm h2
set_option maxRecDepth 100000 in
set_option maxHeartbeats 1000000 in
theorem rcvG_P {z : pg_Z} {a m P : Nat} {x : CAd} {y : Nat → Nat} {H : Heap} {p : Int32} {R : Nat → Int32} {fC fP fP' : Nat → Option Nat} (hf : ∀ j, j < P → fP j = fP' j) (h : wl_P z (mdl z m p y R (rcvG z a P x fC fP [])) H) : wl_P z (mdl z m p y R (rcvG z a P x fC fP' [])) H := by
  have h1 := wl_perm (up25 ((pgs_perm z x.2.2.2 (List.perm_middle (l₁ := [_, _, _, _, _])) 8).trans (pgs_mid z x.2.2.2 _ _ 8)) _ _ _ _ _ _ _ _ _ _ _ _ _ _ _ _ _ _ _ _ _ _ _ _ _) h
  have h2 := wl_cell (wl_qcell hf) h1
  exact wl_perm (up25 ((pgs_perm z x.2.2.2 (List.perm_middle (l₁ := [_, _, _, _, _])) 8).trans (pgs_mid z x.2.2.2 _ _ 8)) _ _ _ _ _ _ _ _ _ _ _ _ _ _ _ _ _ _ _ _ _ _ _ _ _).symm h2
set_option maxRecDepth 100000 in
set_option maxHeartbeats 4000000 in
theorem fresh_pf {z : pg_Z} {a m P : Nat} {x : CAd} {y : Nat → Nat} {H : Heap} (hP : 1 ≤ P ∧ P ≤ 4) (h : wl_P z (mdl z m (nI P) y (filTo (fun _ => 0) 32 20) (rcv z a P x [])) H) :
    pf_ok (z, lawAd a m x y, P, (ksP P).map (fun k => lawAd a m x y k.1 k.2)) ∧ pf_P (z, lawAd a m x y, P, (ksP P).map (fun k => lawAd a m x y k.1 k.2)) (frS P) H := by
  refine wl_pf (ksP P) (ks_all hP) ?_
  have e : (ksP P).map (fun k => (lawAd a m x y k.1 k.2, pf_E (z, lawAd a m x y, P, (ksP P).map (fun k => lawAd a m x y k.1 k.2)) (frS P k.1 k.2) k.1 k.2)) = mdl z m (nI P) y (filTo (fun _ => 0) 32 20) (rcvG z a P x (fun j => some (lawAd a m x y 14 j)) (fun j => some (lawAd a m x y 14 (8 + j))) []) := by
    generalize (ksP P).map (fun k => lawAd a m x y k.1 k.2) = L
    unfold ksP
    simp only [List.map_cons]
    rw [pk_map z a m P x y L x.2.2.2 0 _ 8 (fun j hj => by simp [pgA, hj])]
    simp only [List.map_cons]
    rw [pk_map z a m P x y L x.2.2.1 8 _ P (fun j hj => by
      unfold pgA
      rw [if_neg (by omega), if_neg (by omega), show 8 + j - 8 = j by omega])]
    rfl
  rw [e]
  refine rcvG_C (fC := fun j => some (x.2.2.2 j).1) (fun j hj => ?_) (rcvG_P (fP := fun j => some (x.2.2.1 j).1) (fun j hj => ?_) h)
  · show some (x.2.2.2 j).1 = some (pgA x j).1
    simp [pgA, hj]
  · show some (x.2.2.1 j).1 = some (pgA x (8 + j)).1
    unfold pgA
    rw [if_neg (by omega), if_neg (by omega), show 8 + j - 8 = j by omega]
theorem fresh_law {P : Nat} : LawI P (frS P) := by
  refine ⟨⟨⟨rfl, rfl⟩, fun j _ => rfl, fun j _ => rfl, ⟨rfl, rfl, rfl, rfl, rfl, rfl⟩, fun j _ => rfl, fun k _ => ⟨rfl, rfl, rfl, rfl, rfl, fun j _ => rfl, fun j _ => rfl, fun j _ => rfl⟩⟩, ⟨⟨0, by decide, rfl⟩, fun i j _ _ _ _ h => absurd rfl h, fun i _ => ⟨0, by decide, rfl⟩⟩, ⟨⟨fun k _ j _ => ⟨0, by decide, rfl⟩, fun j hj => ⟨32, by decide, ?_⟩⟩, fun k _ j _ => Or.inr ⟨show (0 : Int32) ≤ 0 by decide, show (0 : Int32) < 2048 by decide⟩⟩, ⟨256, by decide, rfl⟩, Or.inl rfl, 0, 0, by decide, by decide, rfl, rfl⟩
  show filTo (fun _ => 0) 32 20 j = nI 32
  unfold filTo
  rw [if_pos hj]
  rfl
