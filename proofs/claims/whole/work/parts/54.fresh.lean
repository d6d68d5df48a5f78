/-! The fresh world as a flat memory. -/
theorem nd_inj {α : Type} {f : α → Nat} : ∀ {l : List α}, (l.map f).Nodup → ∀ x ∈ l, ∀ y ∈ l, f x = f y → x = y := by
  intro l
  induction l with
  | nil => intro _ x hx; cases hx
  | cons a t ih =>
    intro h x hx y hy e
    rw [List.map_cons, List.nodup_cons] at h
    rcases List.mem_cons.mp hx with rfl | hx
    · rcases List.mem_cons.mp hy with rfl | hy
      · rfl
      · exact absurd (e ▸ List.mem_map.mpr ⟨y, hy, rfl⟩) h.1
    · rcases List.mem_cons.mp hy with rfl | hy
      · exact absurd (e ▸ List.mem_map.mpr ⟨x, hx, rfl⟩) h.1
      · exact ih h.2 x hx y hy e
/-- a world that lists the cells of the flat memory S by the keys ks -/
theorem wl_pf {z : pg_Z} {AD : Nat → Nat → Nat} {P : Nat} {S : pf_S} {H : Heap} (ks : List (Nat × Nat)) (hk : ∀ kd ix, pf_dm P kd ix = true → (kd, ix) ∈ ks)
    (h : wl_P z (ks.map (fun k => (AD k.1 k.2, pf_E (z, AD, P, ks.map (fun k => AD k.1 k.2)) (S k.1 k.2) k.1 k.2))) H) : pf_ok (z, AD, P, ks.map (fun k => AD k.1 k.2)) ∧ pf_P (z, AD, P, ks.map (fun k => AD k.1 k.2)) S H := by
  have hn := (wl_iff.mp h).2
  rw [List.map_map] at hn
  have inj : ∀ x ∈ ks, ∀ y ∈ ks, AD x.1 x.2 = AD y.1 y.2 → x = y := nd_inj hn
  refine ⟨fun kd ix hd => ⟨List.mem_map.mpr ⟨(kd, ix), hk kd ix hd, rfl⟩, fun kd' ix' hd' e => ?_⟩, ?_⟩
  · have := inj (kd, ix) (hk kd ix hd) (kd', ix') (hk kd' ix' hd') e
    exact Prod.mk.inj this
  · let E : Nat × Nat → va_E := fun k => pf_E (z, AD, P, ks.map (fun k => AD k.1 k.2)) (S k.1 k.2) k.1 k.2
    let M : Nat → va_E := fun a => match ks.find? (fun k => AD k.1 k.2 == a) with
      | some k => E k
      | none => .inr (0, [])
    have hM : ∀ k ∈ ks, M (AD k.1 k.2) = E k := by
      intro k hk
      show (match ks.find? (fun q => AD q.1 q.2 == AD k.1 k.2) with
        | some k => E k
        | none => .inr (0, [])) = E k
      cases hf : ks.find? (fun q => AD q.1 q.2 == AD k.1 k.2) with
      | none =>
        have := List.find?_eq_none.mp hf k hk
        simp at this
      | some q =>
        have h1 := List.find?_some hf
        have h2 := List.mem_of_find?_eq_some hf
        have : q = k := inj q h2 k hk (by simpa using h1)
        rw [this]
    refine ⟨M, fun kd ix hd => hM (kd, ix) (hk kd ix hd), ?_⟩
    have e : va_pl (ks.map (fun k => AD k.1 k.2)) M = ks.map (fun k => (AD k.1 k.2, E k)) := by
      unfold va_pl
      rw [List.map_map]
      apply List.map_congr_left
      intro k hk
      show (AD k.1 k.2, M (AD k.1 k.2)) = _
      rw [hM k hk]
    show va_P z.1 pg_cl (va_pl (ks.map (fun k => AD k.1 k.2)) M) H ∧ va_D (pg_A z) (va_pl (ks.map (fun k => AD k.1 k.2)) M)
    rw [e]
    exact h
def pgA (x : CAd) (ix : Nat) : Pg4 := if ix < 8 then x.2.2.2 ix else if ix = 12 then x.2.1 else x.2.2.1 (ix - 8)
def adF (a m : Nat) (x : CAd) (y : Nat → Nat) (kd ix : Nat) : Nat := match kd with
  | 0 => a
  | 1 => x.1 1
  | 2 => x.1 2
  | 3 => x.1 3
  | 4 => x.1 4
  | 5 => x.1 5
  | 6 => x.1 6
  | 8 => x.1 8
  | 9 => x.1 9
  | 10 => x.1 10
  | 11 => x.1 11
  | 12 => x.1 12
  | 13 => x.1 13
  | 14 => (pgA x ix).1
  | 15 => (pgA x ix).2.1
  | 16 => (pgA x ix).2.2.1
  | 17 => (pgA x ix).2.2.2
  | 20 => m
  | k => y k
/-- what the fresh cells hold -/
def fr6 (k : Nat) : Int32 := match k with
  | 2 => 256
  | _ => 0
def fr12 (k : Nat) : Int32 := match k with
  | 3 => 1
  | _ => 0
def fr20 (p : Int32) (k : Nat) : Int32 := match k with
  | 0 => p
  | 13 => 256
  | 18 => 1
  | _ => 0
def frS (P : Nat) (kd _ix : Nat) : Nat → Int32 := match kd with
  | 6 => fr6
  | 10 => filTo (fun _ => 0) 32 20
  | 12 => fr12
  | 20 => fr20 (nI P)
  | 29 => filTo (fun _ => 0) 32 20
  | _ => fun _ => 0
def pkK (off : Nat) : Nat → List (Nat × Nat) → List (Nat × Nat)
  | 0, t => t
  | n + 1, t => (14, off + n) :: (17, off + n) :: (16, off + n) :: (15, off + n) :: pkK off n t
def ksP (P : Nat) : List (Nat × Nat) := (29, 0) :: (20, 0) :: (37, 0) :: (36, 0) :: (35, 0) :: (34, 0) :: (33, 0) :: (32, 0) :: (31, 0) :: (30, 0) :: (28, 0) :: (27, 0) :: (26, 0) :: (25, 0) :: (24, 0) :: (23, 0) :: (22, 0) :: (21, 0) ::
  (0, 0) :: (12, 0) :: (13, 0) :: (10, 0) :: (9, 0) :: (8, 0) :: (11, 0) :: pkK 0 8 ((6, 0) :: (14, 12) :: (17, 12) :: (16, 12) :: (15, 12) :: (5, 0) :: (4, 0) :: pkK 8 P ((2, 0) :: (3, 0) :: (1, 0) :: []))
theorem dm_lt {P kd ix : Nat} (hP : P ≤ 4) (h : pf_dm P kd ix = true) : kd < 38 ∧ ix < 13 := by
  unfold pf_dm at h
  split at h <;> simp at h <;> omega
theorem ks_all {P : Nat} (hP : 1 ≤ P ∧ P ≤ 4) (kd ix : Nat) (h : pf_dm P kd ix = true) : (kd, ix) ∈ ksP P := by
  obtain ⟨h1, h2⟩ := dm_lt hP.2 h
  have k1 : ∀ kd, kd < 38 → ∀ ix, ix < 13 → pf_dm 1 kd ix = true → (kd, ix) ∈ ksP 1 := by decide +kernel
  have k2 : ∀ kd, kd < 38 → ∀ ix, ix < 13 → pf_dm 2 kd ix = true → (kd, ix) ∈ ksP 2 := by decide +kernel
  have k3 : ∀ kd, kd < 38 → ∀ ix, ix < 13 → pf_dm 3 kd ix = true → (kd, ix) ∈ ksP 3 := by decide +kernel
  have k4 : ∀ kd, kd < 38 → ∀ ix, ix < 13 → pf_dm 4 kd ix = true → (kd, ix) ∈ ksP 4 := by decide +kernel
  rcases (show P = 1 ∨ P = 2 ∨ P = 3 ∨ P = 4 by omega) with rfl | rfl | rfl | rfl
  · exact k1 kd h1 ix h2 h
  · exact k2 kd h1 ix h2 h
  · exact k3 kd h1 ix h2 h
  · exact k4 kd h1 ix h2 h
theorem pk_map (z : pg_Z) (a m P : Nat) (x : CAd) (y : Nat → Nat) (L : List Nat) (F : Nat → Pg4) (off : Nat) (t : List (Nat × Nat)) : ∀ n, (∀ j, j < n → pgA x (off + j) = F j) →
    (pkK off n t).map (fun k => (adF a m x y k.1 k.2, pf_E (z, adF a m x y, P, L) (frS P k.1 k.2) k.1 k.2)) = pgs z F n (t.map (fun k => (adF a m x y k.1 k.2, pf_E (z, adF a m x y, P, L) (frS P k.1 k.2) k.1 k.2))) := by
  intro n
  induction n with
  | zero => intro _; rfl
  | succ n ih =>
    intro h
    show (_ :: _ :: _ :: _ :: (pkK off n t).map _) = pgl z (F n) (pgs z F n _)
    rw [ih (fun j hj => h j (by omega)), ← h n (by omega)]
    rfl
set_option maxRecDepth 100000 in
set_option maxHeartbeats 4000000 in
theorem fresh_pf {z : pg_Z} {a m P : Nat} {x : CAd} {y : Nat → Nat} {H : Heap} (hP : 1 ≤ P ∧ P ≤ 4) (h : wl_P z (mdl z m (nI P) y (filTo (fun _ => 0) 32 20) (rcv z a P x [])) H) :
    pf_ok (z, adF a m x y, P, (ksP P).map (fun k => adF a m x y k.1 k.2)) ∧ pf_P (z, adF a m x y, P, (ksP P).map (fun k => adF a m x y k.1 k.2)) (frS P) H := by
  refine wl_pf (ksP P) (ks_all hP) ?_
  have e : (ksP P).map (fun k => (adF a m x y k.1 k.2, pf_E (z, adF a m x y, P, (ksP P).map (fun k => adF a m x y k.1 k.2)) (frS P k.1 k.2) k.1 k.2)) = mdl z m (nI P) y (filTo (fun _ => 0) 32 20) (rcv z a P x []) := by
    generalize (ksP P).map (fun k => adF a m x y k.1 k.2) = L
    unfold ksP
    simp only [List.map_cons]
    rw [pk_map z a m P x y L x.2.2.2 0 _ 8 (fun j hj => by simp [pgA, hj])]
    simp only [List.map_cons]
    rw [pk_map z a m P x y L x.2.2.1 8 _ P (fun j hj => by
      unfold pgA
      rw [if_neg (by omega), if_neg (by omega), show 8 + j - 8 = j by omega])]
    rfl
  rw [e]
  exact h
theorem fresh_law {P : Nat} : LawI P (frS P) := by
  refine ⟨⟨⟨rfl, rfl⟩, fun j _ => rfl, fun j _ => rfl, ⟨rfl, rfl, rfl, rfl, rfl, rfl⟩, fun j _ => rfl, fun k _ => ⟨rfl, rfl, rfl, rfl, rfl, fun j _ => rfl, fun j _ => rfl, fun j _ => rfl⟩⟩, ⟨⟨0, by decide, rfl⟩, fun i j _ _ _ _ h => absurd rfl h, fun i _ => ⟨0, by decide, rfl⟩⟩, ⟨⟨fun k _ j _ => ⟨0, by decide, rfl⟩, fun j hj => ⟨32, by decide, ?_⟩⟩, fun k _ j _ => Or.inr ⟨show (0 : Int32) ≤ 0 by decide, show (0 : Int32) < 2048 by decide⟩⟩, ⟨256, by decide, rfl⟩, Or.inl rfl, 0, 0, by decide, by decide, rfl, rfl⟩
  show filTo (fun _ => 0) 32 20 j = nI 32
  unfold filTo
  rw [if_pos hj]
  rfl
