/-! Worlds as lists of cells: the constructors walk over these. -/
def wl_P (z : pg_Z) (ws : va_W) (H : Heap) : Prop := va_P z.1 pg_cl ws H ∧ va_D (pg_A z) ws
theorem wl_iff {z : pg_Z} {ws : va_W} {H : Heap} : wl_P z ws H ↔ (∀ q ∈ ws, va_at z.1 pg_cl q H ∧ pg_A z q.1) ∧ (ws.map Prod.fst).Nodup := by
  constructor
  · intro ⟨h1, h2, h3⟩
    refine ⟨fun q hq => ?_, ?_⟩
    · obtain ⟨k, hk⟩ := List.getElem?_of_mem hq
      exact ⟨h1 k q hk, h3 k q hk⟩
    · refine List.pairwise_iff_getElem.mpr (fun i j hi hj hij e => ?_)
      have hi' : i < ws.length := by simpa using hi
      have hj' : j < ws.length := by simpa using hj
      have := h2 i j ws[i] ws[j] (List.getElem?_eq_getElem hi') (List.getElem?_eq_getElem hj') (by simpa using e)
      omega
  · intro ⟨h1, h2⟩
    refine ⟨fun k q hk => (h1 q (List.mem_of_getElem? hk)).1, fun i j p q hp hq e => ?_, fun k q hk => (h1 q (List.mem_of_getElem? hk)).2⟩
    have h2 := List.pairwise_iff_getElem.mp h2
    obtain ⟨hi, ei⟩ := List.getElem?_eq_some_iff.mp hp
    obtain ⟨hj, ej⟩ := List.getElem?_eq_some_iff.mp hq
    rcases Nat.lt_trichotomy i j with h | h | h
    · exact (h2 i j (by simpa using hi) (by simpa using hj) h (by simp [ei, ej, e])).elim
    · exact h
    · exact (h2 j i (by simpa using hj) (by simpa using hi) h (by simp [ei, ej, e])).elim
theorem wl_perm {z : pg_Z} {ws ws' : va_W} {H : Heap} (hp : ws.Perm ws') (h : wl_P z ws H) : wl_P z ws' H := by
  rw [wl_iff] at h ⊢
  exact ⟨fun q hq => h.1 q (hp.mem_iff.mpr hq), (hp.map _).nodup_iff.mp h.2⟩
/-- the cell at the head may be told otherwise -/
theorem wl_cell {z : pg_Z} {ws : va_W} {H : Heap} {a : Nat} {cA : ClassId} {x x' : vp_A} (he : vp_cell cA x = vp_cell cA x') (h : wl_P z ((a, .inl (cA, x)) :: ws) H) : wl_P z ((a, .inl (cA, x')) :: ws) H := by
  rw [wl_iff] at h ⊢
  refine ⟨fun q hq => ?_, h.2⟩
  rcases List.mem_cons.mp hq with rfl | hq
  · have := h.1 _ List.mem_cons_self
    refine ⟨?_, this.2⟩
    have t1 : H[a]? = some (vp_cell cA x) := this.1
    show H[a]? = some (vp_cell cA x')
    rw [t1, he]
  · exact h.1 q (List.mem_cons_of_mem _ hq)
theorem wl_qcell {cA : ClassId} {n : Nat} {f g : Nat → Option Nat} (h : ∀ j, j < n → f j = g j) : vp_cell cA (n, .inr (.inr (.inr (.inr f)))) = vp_cell cA (n, .inr (.inr (.inr (.inr g)))) := by
  rw [vp_cell_q, vp_cell_q]
  unfold arrV
  congr 1
  apply Array.ext
  · simp
  · intro i h1 h2
    have hi : i < n := by simpa using h1
    simp [h i hi]
section WL
variable {κ : pg_K} {z : pg_Z} {y : MethodName} {cc : ByteArray} {nL : Nat} {ret : Option FieldType} {rm : Room} {ce sl : Nat} {Q : State → Prop} {pc : Nat} {lv : List (Option Value)} {st : List Value} {ws ws' : va_W} {a : Nat}
theorem wl_pm (hp : ws.Perm ws') (k : pg_G κ z nL ce sl Q (wl_P z ws') pc lv st) : pg_G κ z nL ce sl Q (wl_P z ws) pc lv st := pg_wk (fun _ => wl_perm hp) k
theorem wl_get {ci k idx : Nat} {fs : List Value} {v : Value} (h : pg_X κ z y cc nL ret rm) (d : decode cc pc = .ok (.getfield idx, 3)) (hf : pg_fs y.cls idx ci k) (q0 : Nat) (hq : ws[q0]? = some (a, .inr (ci, fs))) (hv : fs[k]? = some v)
    (kk : pg_G κ z nL ce sl Q (wl_P z ws) (pc + 3) lv (v :: st)) : pg_G κ z nL ce sl Q (wl_P z ws) pc lv (.ref a :: st) := fun H locs ls hP hS hl => by
  obtain ⟨C, T, N, ty, hc, hf, hk⟩ := hf
  rcases hf with hf | ⟨host, hf⟩
  · exact va_get h.1 h.2.1 h.2.2.2.2.1 hc.2.1 h.2.2.2.1 h.2.2.2.2.2.1.1 hP.1 q0 hq hc.1 k hk (h.2.2.2.2.1 _ hf) (fun _ x => x) hv d (kk H locs ls hP hS hl)
  · exact va_getN (host := host) h.1 h.2.1 h.2.2.2.2.1 hc.2.1 h.2.2.2.1 h.2.2.2.2.2.1.1 hP.1 q0 hq hc.1 k hk (va_Nw.use rfl (h.2.2.2.2.2.1.2.1 _ hf)) (fun _ x => x) hv d (kk H locs ls hP hS hl)
theorem wl_put {ci k idx : Nat} {fs : List Value} {v : Value} {t : FieldType} (h : pg_X κ z y cc nL ret rm) (d : decode cc pc = .ok (.putfield idx, 3)) (hf : pg_fw y.cls idx ci k t) (hn : narrow t v = v) (hfit : fits t v = true) (hlen : k < fs.length)
    (kk : pg_G κ z nL ce sl Q (wl_P z ((a, .inr (ci, fs.set k v)) :: ws)) (pc + 3) lv st) : pg_G κ z nL ce sl Q (wl_P z ((a, .inr (ci, fs)) :: ws)) pc lv (v :: .ref a :: st) := fun H locs ls hP hS hl => by
  obtain ⟨C, T, N, ty, hc, hf, hk, hfin, rfl⟩ := hf
  rcases hf with hf | ⟨host, hf⟩
  · exact va_put h.1 h.2.1 h.2.2.2.2.1 hc.2.1 ty hc.2.2.1 hc.2.2.2 h.2.2.2.1 h.2.2.2.2.2.1.1 hP.1 hP.2 hS 0 rfl hc.1 k hk (h.2.2.2.2.1 _ hf) (fun _ x => x) hfin (hc.2.2.1 k hk) hn hfit hlen d (fun H1 locs1 hP1 hD1 hS1 => kk H1 locs1 ls ⟨hP1, hD1⟩ hS1 hl)
  · exact va_putN (host := host) h.1 h.2.1 h.2.2.2.2.1 hc.2.1 ty hc.2.2.1 hc.2.2.2 h.2.2.2.1 h.2.2.2.2.2.1.1 hP.1 hP.2 hS 0 rfl hc.1 k hk (va_Nw.use rfl (h.2.2.2.2.2.1.2.1 _ hf)) (fun _ x => x) hfin (hc.2.2.1 k hk) hn hfit hlen d (fun H1 locs1 hP1 hD1 hS1 => kk H1 locs1 ls ⟨hP1, hD1⟩ hS1 hl)
theorem wl_putF {ci N idx : Nat} {C : String} {T : u_T} {ty : Nat → FieldType} {fs : List Value} {v : Value} (k : Nat) (h : pg_X κ z y cc nL ret rm) (d : decode cc pc = .ok (.putfield idx, 3)) (hc : pg_cf ci C T N ty) (hf : Cond.fieldLink y.cls idx (T k).1 (T k).2.1 (T k).2.2.1 ∈ pg_ws) (hk : k < N) (hfin : (T k).2.2.2 = true) (hin : y.name = "<init>") (hdecl : (T k).1 = y.cls) (hn : narrow (ty k) v = v) (hfit : fits (ty k) v = true) (hlen : k < fs.length)
    (kk : pg_G κ z nL ce sl Q (wl_P z ((a, .inr (ci, fs.set k v)) :: ws)) (pc + 3) lv st) : pg_G κ z nL ce sl Q (wl_P z ((a, .inr (ci, fs)) :: ws)) pc lv (v :: .ref a :: st) := fun H locs ls hP hS hl =>
  va_putF h.1 h.2.1 h.2.2.2.2.1 hc.2.1 ty hc.2.2.1 hc.2.2.2 h.2.2.2.1 h.2.2.2.2.2.1.1 hP.1 hP.2 hS 0 rfl hc.1 k hk (h.2.2.2.2.1 _ hf) (fun _ x => x) hfin (h.2.2.2.2.2.2.2.2.2.trans hin) hdecl (hc.2.2.1 k hk) hn hfit hlen d (fun H1 locs1 hP1 hD1 hS1 => kk H1 locs1 ls ⟨hP1, hD1⟩ hS1 hl)
theorem wl_new {ci N idx : Nat} {C : String} {T : u_T} {ty : Nat → FieldType} {fs : List Value} (h : pg_X κ z y cc nL ret rm) (d : decode cc pc = .ok (.new idx, 3)) (hc : pg_cf ci C T N ty) (hcl : Cond.classLink y.cls idx C ∈ pg_ws) (hin : Cond.instantiable C N ∈ pg_ws) (hi : Cond.initialized C ∈ pg_ws) (hfs : ∀ j, j < N → defaultValue (ty j) = vp_V fs j) (hcell : ce + 1 ≤ rm.cells ∧ sl + N ≤ rm.slots)
    (kk : ∀ q, pg_G κ z nL (ce + 1) (sl + N) Q (wl_P z ((q, .inr (ci, fs)) :: ws)) (pc + 3) lv (.ref q :: st)) : pg_G κ z nL ce sl Q (wl_P z ws) pc lv st := fun H locs ls hP hS hl =>
  va_new h.1 h.2.1 h.2.2.2.2.1 hc.2.1 ty hc.2.2.1 h.2.2.2.1 (h.2.2.2.2.1 _ hcl) (h.2.2.2.2.1 _ hin) (h.2.2.2.2.1 _ hi) h.2.2.2.2.2.1.1 hP.1 hP.2 hS (fun q hq => Nat.le_trans h.2.2.2.2.2.1.2.2.2.2.1 hq) hc.1 hfs (by rw [h.2.2.2.2.2.2.1]; exact hcell.1) (by rw [h.2.2.2.2.2.2.1]; exact hcell.2) d (fun q H1 hP1 hD1 hS1 => kk q H1 locs ls (wl_perm (List.perm_append_singleton _ _) ⟨hP1, hD1⟩) hS1 hl)
theorem wl_newI {n : Int32} (N' : Nat) (h : pg_X κ z y cc nL ret rm) (d : decode cc pc = .ok (.newarray .int, 2)) (hn : ¬ n < 0) (hN : n.toNatClampNeg = N') (hb : N' * 4 ≤ 536870912) (hcell : ce + 1 ≤ rm.cells ∧ sl + N' ≤ rm.slots) {x : Nat × va_E}
    (kk : ∀ q, pg_G κ z nL (ce + 1) (sl + N') Q (wl_P z (x :: (q, .inl (z.2.2 0, N', .inl (fun _ => 0))) :: ws)) (pc + 2) lv (.ref q :: st)) : pg_G κ z nL ce sl Q (wl_P z (x :: ws)) pc lv (.int n :: st) := fun H locs ls hP hS hl => by
  refine va_newa (ty := .int) (a0 := (N', .inl (fun _ => 0))) h.1 h.2.1 (h.2.2.2.2.1 _ (pg_tb 39 rfl rfl)) rfl h.2.2.2.2.2.1.1 hP.1 hP.2 hS (fun q hq => Nat.le_trans h.2.2.2.2.2.1.2.2.2.2.1 hq) (fun _ => rfl) hn hN hb (by rw [h.2.2.2.2.2.2.1]; exact hcell.1) (by rw [h.2.2.2.2.2.2.1]; exact hcell.2) d (fun q cA H1 hK1 hP1 hD1 hS1 => ?_)
  have e1 := (hK1.2 3 (cA, .int) rfl).2
  have e2 := (hK1.2 0 (z.2.2 0, .int) rfl).2
  have e3 : cA = z.2.2 0 := Option.some.inj (e1.symm.trans e2)
  subst e3
  exact kk q H1 locs ls (wl_perm ((List.perm_append_singleton _ _).trans (List.Perm.swap _ _ _)) ⟨hP1, hD1⟩) hS1 hl
set_option maxRecDepth 100000 in
theorem wl_newZ {n : Int32} (N' : Nat) (h : pg_X κ z y cc nL ret rm) (d : decode cc pc = .ok (.newarray .boolean, 2)) (hn : ¬ n < 0) (hN : n.toNatClampNeg = N') (hb : N' * 1 ≤ 536870912) (hcell : ce + 1 ≤ rm.cells ∧ sl + N' ≤ rm.slots) {x : Nat × va_E}
    (kk : ∀ q, pg_G κ z nL (ce + 1) (sl + N') Q (wl_P z (x :: (q, .inl (z.2.2 1, N', .inl (fun _ => 0))) :: ws)) (pc + 2) lv (.ref q :: st)) : pg_G κ z nL ce sl Q (wl_P z (x :: ws)) pc lv (.int n :: st) := fun H locs ls hP hS hl => by
  refine va_newa (ty := .boolean) (a0 := (N', .inl (fun _ => 0))) h.1 h.2.1 (h.2.2.2.2.1 _ (pg_tb 726 rfl rfl)) rfl h.2.2.2.2.2.1.1 hP.1 hP.2 hS (fun q hq => Nat.le_trans h.2.2.2.2.2.1.2.2.2.2.1 hq) (fun _ => rfl) hn hN hb (by rw [h.2.2.2.2.2.2.1]; exact hcell.1) (by rw [h.2.2.2.2.2.2.1]; exact hcell.2) d (fun q cA H1 hK1 hP1 hD1 hS1 => ?_)
  have e1 := (hK1.2 3 (cA, .boolean) rfl).2
  have e2 := (hK1.2 1 (z.2.2 1, .boolean) rfl).2
  have e3 : cA = z.2.2 1 := Option.some.inj (e1.symm.trans e2)
  subst e3
  exact kk q H1 locs ls (wl_perm ((List.perm_append_singleton _ _).trans (List.Perm.swap _ _ _)) ⟨hP1, hD1⟩) hS1 hl
theorem wl_newQ {n : Int32} {idx : Nat} (N' : Nat) (h : pg_X κ z y cc nL ret rm) (d : decode cc pc = .ok (.anewarray idx, 3)) (hcl : Cond.classLink y.cls idx "PageReceiver$Page" ∈ pg_ws) (hn : ¬ n < 0) (hN : n.toNatClampNeg = N') (hb : N' * 4 ≤ 536870912) (hcell : ce + 1 ≤ rm.cells ∧ sl + N' ≤ rm.slots) {x : Nat × va_E}
    (kk : ∀ q, pg_G κ z nL (ce + 1) (sl + N') Q (wl_P z (x :: (q, .inl (z.2.2 2, N', .inr (.inr (.inr (.inr (fun _ => none)))))) :: ws)) (pc + 3) lv (.ref q :: st)) : pg_G κ z nL ce sl Q (wl_P z (x :: ws)) pc lv (.int n :: st) := fun H locs ls hP hS hl => by
  refine va_newq h.1 h.2.1 h.2.2.2.1 (h.2.2.2.2.1 _ hcl) h.2.2.2.2.2.1.2.2.2.1 h.2.2.2.2.2.1.1 hP.1 hP.2 hS (fun q hq => Nat.le_trans h.2.2.2.2.2.1.2.2.2.2.1 hq) hn hN hb (by rw [h.2.2.2.2.2.2.1]; exact hcell.1) (by rw [h.2.2.2.2.2.2.1]; exact hcell.2) d (fun q cA H1 hK1 hP1 hD1 hS1 => ?_)
  obtain ⟨_, _, -, -, -, e1⟩ := (hK1.2 3 (cA, .object "PageReceiver$Page") rfl).2
  obtain ⟨_, _, -, -, -, e2⟩ := (hK1.2 2 (z.2.2 2, .object "PageReceiver$Page") rfl).2
  have e3 : cA = z.2.2 2 := Option.some.inj (e1.symm.trans e2)
  subst e3
  exact kk q H1 locs ls (wl_perm ((List.perm_append_singleton _ _).trans (List.Perm.swap _ _ _)) ⟨hP1, hD1⟩) hS1 hl
/-- a store into the array that stands second -/
theorem wl_ist {n : Nat} {f : Nat → Int32} {i x : Int32} {j : Nat} (h : pg_X κ z y cc nL ret rm) (d : decode cc pc = .ok (.iastore, 1)) (hi : pg_ix i n j)
    (kk : pg_G κ z nL ce sl Q (wl_P z ((a, .inl (z.2.2 0, n, .inl (upd f j x))) :: ws)) (pc + 1) lv st) : pg_G κ z nL ce sl Q (wl_P z ((a, .inl (z.2.2 0, n, .inl f)) :: ws)) pc lv (.int x :: .int i :: .ref a :: st) := fun H locs ls hP hS hl => by
  obtain ⟨h1, rfl⟩ := hi
  exact va_iast h.1 h.2.1 h.2.2.2.2.2.1.1 hP.1 hP.2 hS 0 0 rfl rfl h1 d (fun H1 locs1 hP1 hD1 hS1 => kk H1 locs1 ls ⟨hP1, hD1⟩ hS1 hl)
theorem wl_ast {n : Nat} {f : Nat → Option Nat} {i : Int32} {j b : Nat} {fs : List Value} (h : pg_X κ z y cc nL ret rm) (d : decode cc pc = .ok (.aastore, 1)) (hi : pg_ix i n j) (q1 : Nat) (hq : ((a, .inl (z.2.2 2, n, .inr (.inr (.inr (.inr f))))) :: ws)[q1]? = some (b, .inr (2, fs)))
    (kk : pg_G κ z nL ce sl Q (wl_P z ((a, .inl (z.2.2 2, n, .inr (.inr (.inr (.inr (va_up f j (some b))))))) :: ws)) (pc + 1) lv st) : pg_G κ z nL ce sl Q (wl_P z ((a, .inl (z.2.2 2, n, .inr (.inr (.inr (.inr f))))) :: ws)) pc lv (.ref b :: .int i :: .ref a :: st) := fun H locs ls hP hS hl => by
  obtain ⟨h1, rfl⟩ := hi
  exact va_astq (r := ("PageReceiver$Page", T_Page, 8)) h.1 h.2.1 h.2.2.2.2.2.1.1 hP.1 hP.2 hS 0 2 q1 2 rfl rfl hq rfl h1 d (fun H1 locs1 hP1 hD1 hS1 => kk H1 locs1 ls ⟨hP1, hD1⟩ hS1 hl)
theorem wl_len {n : Nat} {f : Nat → Int32} {v : Int32} (h : pg_X κ z y cc nL ret rm) (d : decode cc pc = .ok (.arraylength, 1)) (q0 : Nat) (hq : ws[q0]? = some (a, .inl (z.2.2 0, n, .inl f))) (hv : Int32.ofNat n = v)
    (kk : pg_G κ z nL ce sl Q (wl_P z ws) (pc + 1) lv (.int v :: st)) : pg_G κ z nL ce sl Q (wl_P z ws) pc lv (.ref a :: st) := fun H locs ls hP hS hl =>
  va_alen h.1 h.2.1 h.2.2.2.2.2.1.1 hP.1 q0 0 hq rfl hv d (kk H locs ls hP hS hl)
theorem wl_obj {idx : Nat} {Pic : Heap → Prop} (h : pg_X κ z y cc nL ret rm) (d : decode cc pc = .ok (.invokespecial idx, 3)) (hl : Cond.methodLink y.cls idx y_JObj_init ∈ pg_ws) (hf : 1 ≤ rm.frames) (hlo : (st.map fun v => v.category).sum + 12 ≤ rm.locals)
    (kk : pg_G κ z nL ce sl Q Pic (pc + 3) lv st) : pg_G κ z nL ce sl Q Pic pc lv (.ref a :: st) := fun H locs ls hP hS hls =>
  W.objInit h.1 h.2.1 h.2.2.2.1 (h.2.2.2.2.1 _ hl) (h.2.2.2.2.1 _ (pg_tb 20 rfl rfl)) (h.2.2.2.2.1 (Cond.code Lib.objectInit ⟨#[0xb1]⟩ 1 none) (pg_tb 21 rfl rfl)) rfl (by rw [h.2.2.1]; exact hls.1) rfl d (by rw [h.2.2.2.2.2.2.1]; exact hf) (by rw [h.2.2.2.2.2.2.1]; show 2 * 0 + _ + 12 ≤ _; omega) (W.eq (g2 := F0 (pg_m κ) (pc + 3) ls st) rfl (kk H locs ls hP hS hls))
theorem wl_max {idx : Nat} {Pic : Heap → Prop} {x y' : Int32} (h : pg_X κ z y cc nL ret rm) (d : decode cc pc = .ok (.invokestatic idx, 3)) (hl : Cond.methodLink y.cls idx y_JMath_max ∈ pg_ws) (hf : 1 ≤ rm.frames) (hlo : (st.map fun v => v.category).sum + 13 ≤ rm.locals) (hcell : ce ≤ rm.cells ∧ sl ≤ rm.slots)
    (kk : pg_G κ z nL ce sl Q Pic (pc + 3) lv (.int (if x < y' then y' else x) :: st)) : pg_G κ z nL ce sl Q Pic pc lv (.int y' :: .int x :: st) := fun H locs ls hP hS hls =>
  va_mmax h.1 h.2.1 (by rw [h.2.2.1]; exact hls.1.symm) h.2.2.2.1 (h.2.2.2.2.1 _ hl) (h.2.2.2.2.1 _ m_JMath_max.2.2.1) (h.2.2.2.2.1 _ m_JMath_max.2.1) (h.2.2.2.2.1 _ m_JMath_max.1) (by rw [h.2.2.2.2.2.2.1]; exact hf) (by rw [h.2.2.2.2.2.2.1]; exact hlo) (by rw [h.2.2.2.2.2.2.1]; exact hcell.1) (by rw [h.2.2.2.2.2.2.1]; exact hcell.2) d (kk H locs ls hP hS hls)
theorem wl_min {idx : Nat} {Pic : Heap → Prop} {x y' : Int32} (h : pg_X κ z y cc nL ret rm) (d : decode cc pc = .ok (.invokestatic idx, 3)) (hl : Cond.methodLink y.cls idx y_JMath_min ∈ pg_ws) (hf : 1 ≤ rm.frames) (hlo : (st.map fun v => v.category).sum + 13 ≤ rm.locals) (hcell : ce ≤ rm.cells ∧ sl ≤ rm.slots)
    (kk : pg_G κ z nL ce sl Q Pic (pc + 3) lv (.int (if y' < x then y' else x) :: st)) : pg_G κ z nL ce sl Q Pic pc lv (.int y' :: .int x :: st) := fun H locs ls hP hS hls =>
  va_mmin h.1 h.2.1 (by rw [h.2.2.1]; exact hls.1.symm) h.2.2.2.1 (h.2.2.2.2.1 _ hl) (h.2.2.2.2.1 _ m_JMath_min.2.2.1) (h.2.2.2.2.1 _ m_JMath_min.2.1) (h.2.2.2.2.1 _ m_JMath_min.1) (by rw [h.2.2.2.2.2.2.1]; exact hf) (by rw [h.2.2.2.2.2.2.1]; exact hlo) (by rw [h.2.2.2.2.2.2.1]; exact hcell.1) (by rw [h.2.2.2.2.2.2.1]; exact hcell.2) d (kk H locs ls hP hS hls)
variable {y2 : MethodName} {cc2 : ByteArray} {nL2 n idx : Nat} {ret2 : Option FieldType} {rm2 : Room} {b : Nat} {As rest : List Value} {α : Type} {F : α → va_W}
/-- the contract of a constructor (or another method without an answer) over worlds: the world behind it is one of F -/
def wl_C (z : pg_Z) (y : MethodName) (cc : ByteArray) (nL : Nat) (rm : Room) (as : List Value) (ws : va_W) {α : Type} (F : α → va_W) : Prop := pg_C z y cc nL none rm as (wl_P z ws) (fun r H => r = none ∧ ∃ x, wl_P z (F x) H)
theorem wl_cI (h : pg_X κ z y cc nL ret rm) (d : decode cc pc = .ok (.invokespecial idx, 3)) (hm : pg_mc y2 cc2 nL2 n) (hl : pg_ml y.cls idx y2) (hC : wl_C z y2 cc2 nL2 rm2 (.ref b :: As) ws F)
    (hn : As.length = n) (hst : st = As.reverse ++ .ref b :: rest) (hcat : (rest.map fun v => v.category).sum ≤ 8)
    (hroom : rm2.frames + 1 ≤ rm.frames ∧ 8 + (nL2 + 11) + rm2.locals ≤ rm.locals) (hcell : ce + rm2.cells ≤ rm.cells ∧ sl + rm2.slots ≤ rm.slots)
    (kk : ∀ x, pg_G κ z nL (ce + rm2.cells) (sl + rm2.slots) Q (wl_P z (F x)) (pc + 3) lv rest) : pg_G κ z nL ce sl Q (wl_P z ws) pc lv st :=
  pg_callI h d hm hl hC hn hst hcat hroom hcell (fun _ => pg_an (fun e => by subst e; exact pg_ex kk))
theorem wl_cS0 (h : pg_X κ z y cc nL ret rm) (d : decode cc pc = .ok (.invokestatic idx, 3)) (hm : pg_ms y2 cc2 nL2 none n) (hl : pg_ml y.cls idx y2) (hC : wl_C z y2 cc2 nL2 rm2 As ws F)
    (hn : As.length = n) (hst : st = As.reverse ++ rest) (hcat : (rest.map fun v => v.category).sum ≤ 8)
    (hroom : rm2.frames + 1 ≤ rm.frames ∧ 8 + (nL2 + 11) + rm2.locals ≤ rm.locals) (hcell : ce + rm2.cells ≤ rm.cells ∧ sl + rm2.slots ≤ rm.slots)
    (kk : ∀ x, pg_G κ z nL (ce + rm2.cells) (sl + rm2.slots) Q (wl_P z (F x)) (pc + 3) lv rest) : pg_G κ z nL ce sl Q (wl_P z ws) pc lv st :=
  pg_callS h d hm hl hC hn hst hcat hroom hcell (fun _ => pg_an (fun e => by subst e; exact pg_ex kk))
theorem wl_vret (x : α) (h : pg_X κ z y cc nL none rm) (d : decode cc pc = .ok (.return_, 1)) (hcell : ce ≤ rm.cells ∧ sl ≤ rm.slots) : pg_G κ z nL ce sl (pg_Q κ z (fun r H => r = none ∧ ∃ x, wl_P z (F x) H) rm.cells rm.slots) (wl_P z (F x)) pc lv [] :=
  pg_wide hcell.1 hcell.2 (pg_vret h d (fun H hP => ⟨rfl, x, hP⟩))
theorem wl_enter {as : List Value} {lv0 : List (Option Value)} (hy : plainName y.cls = true) (hn : (lg_sl as).length ≤ nL) (hlv : lv_args 0 as = pg_lv 0 lv0)
    (body : ∀ κ : pg_K, pg_X κ z y cc nL none rm → pg_G κ z nL 0 0 (pg_Q κ z (fun r H => r = none ∧ ∃ x, wl_P z (F x) H) rm.cells rm.slots) (wl_P z ws) 0 lv0 []) : wl_C z y cc nL rm as ws F := pg_enter hy hn hlv body
end WL
