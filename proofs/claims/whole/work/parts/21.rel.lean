/-! The reference by relation: Rm P z A S says that its cells in the flat memory S hold the state A (in the layout of the class), P places, z bytes in its packet. -/
def Rpg (k : Nat) (A S : pf_S) : Prop := nb (S 21 0 k) = nb (A 14 k 0) ∧ S 22 0 k = A 14 k 1 ∧ S 23 0 k = A 14 k 2 ∧ S 24 0 k = A 14 k 3 ∧ S 25 0 k = A 14 k 4 ∧ (∀ j, j < 160 → S 27 0 (160 * k + j) = A 15 k j) ∧ (∀ j, j < 160 → S 28 0 (160 * k + j) = A 16 k j) ∧ (∀ j, j < 4 → S 26 0 (4 * k + j) = A 17 k j)
def pgk (P k : Nat) : Prop := k < 8 + P ∨ k = 12
def Rsc (A S : pf_S) : Prop := S 20 0 13 = A 6 0 2 ∧ S 20 0 14 = A 6 0 3 ∧ S 20 0 15 = A 6 0 4 ∧ S 20 0 16 = A 6 0 5 ∧ nb (S 20 0 17) = nb (A 6 0 6) ∧ nb (S 20 0 18) = nb (A 12 0 3)
def Rm (P : Nat) (z : Int32) (A S : pf_S) : Prop := (S 20 0 0 = nI P ∧ S 20 0 11 = z) ∧ (∀ j, j < 6 → S 31 0 j = A 1 0 j) ∧ (∀ j, j < 22 → S 30 0 j = A 3 0 j) ∧ Rsc A S ∧ (∀ j, j < 20 → S 29 0 j = A 10 0 j) ∧ (∀ k, pgk P k → Rpg k A S)
/-- the class's own cells are those of S0 -/
def pm_g (S0 S : pf_S) : Prop := ∀ kd, kd < 20 → S kd = S0 kd
theorem pm_g.st {S0 S : pf_S} (h : pm_g S0 S) {kd ix k : Nat} {v : Int32} (hk : 20 ≤ kd) : pm_g S0 (pf_st S kd ix k v) := fun a ha => by
  funext b c
  rw [pf_st_at, if_neg (by intro q; omega), h a ha]
def pm_P (w : pf_W) (z : Int32) (A S0 : pf_S) (H : Heap) : Prop := ∃ S, (Rm w.2.2.1 z A S ∧ pm_g S0 S) ∧ pf_P w S H
def pm_C (w : pf_W) (y : MethodName) (cc : ByteArray) (nL : Nat) (ret : Option FieldType) (d lo : Nat) (as : List Value) (z : Int32) (A S0 : pf_S) (r : Option Value) (z' : Int32) (A' : pf_S) : Prop := pg_E w.1 y cc nL ret ⟨d, 0, 0, lo⟩ as (pm_P w z A S0) r (pm_P w z' A' S0)
def pm_Q (κ : pg_K) (w : pf_W) (r : Option Value) (z : Int32) (A S0 : pf_S) : State → Prop := pg_Q κ w.1 (fun r' H => r' = r ∧ pm_P w z A S0 H) 0 0
section PM
variable {κ : pg_K} {w : pf_W} {y : MethodName} {cc : ByteArray} {nL : Nat} {ret : Option FieldType} {rm : Room} {ce sl : Nat} {Q : State → Prop} {pc : Nat} {lv : List (Option Value)} {st : List Value} {S S0 A A2 : pf_S} {z z2 : Int32}
variable {y2 : MethodName} {cc2 : ByteArray} {nL2 n idx d2 lo2 : Nat} {ret2 : Option FieldType} {As rest : List Value} {v : Value}
theorem pm_recv {H : Heap} (h : pg_X κ w.1 y cc nL ret rm) (ok : pf_ok w) (hP : pm_P w z A S0 H) : ∃ cell : Cell, H[w.2.1 20 0]? = some cell ∧ cell.vm.isStatics = false ∧ (pg_s κ).vm.findClass "PageReceiverModel" = some cell.cls := by
  obtain ⟨S, -, hP⟩ := hP
  exact pf_recv h ok cn_Mod rfl rfl hP
theorem pm_cV (h : pg_X κ w.1 y cc nL ret rm) (ok : pf_ok w) (hR : Rm w.2.2.1 z A S) (hg : pm_g S0 S) (d : decode cc pc = .ok (.invokevirtual idx, 3)) (hm : pg_mi y2 cc2 nL2 ret2 n) (hl : pg_ml y.cls idx y2) (hC : pm_C w y2 cc2 nL2 ret2 d2 lo2 (.ref (w.2.1 20 0) :: As) z A S0 (some v) z2 A2) (hy : y2.cls = "PageReceiverModel") (hn : As.length = n) (hst : st = As.reverse ++ .ref (w.2.1 20 0) :: rest) (hcat : (rest.map fun v => v.category).sum ≤ 8)
    (hroom : d2 + 1 ≤ rm.frames ∧ 8 + (nL2 + 11) + lo2 ≤ rm.locals) (hcell : ce ≤ rm.cells ∧ sl ≤ rm.slots)
    (kk : ∀ S', Rm w.2.2.1 z2 A2 S' → pm_g S0 S' → pg_G κ w.1 nL ce sl Q (pf_P w S') (pc + 3) lv (v :: rest)) : pg_G κ w.1 nL ce sl Q (pf_P w S) pc lv st :=
  pg_wk (fun H hP => ⟨S, ⟨hR, hg⟩, hP⟩) (pg_cV h d hm hl hC (fun _ hP => by rw [hy]; exact pm_recv h ok hP) hn hst hcat hroom hcell (pg_ex (fun S' => pg_an (fun q => kk S' q.1 q.2))))
theorem pm_cV0 (h : pg_X κ w.1 y cc nL ret rm) (ok : pf_ok w) (hR : Rm w.2.2.1 z A S) (hg : pm_g S0 S) (d : decode cc pc = .ok (.invokevirtual idx, 3)) (hm : pg_mi y2 cc2 nL2 ret2 n) (hl : pg_ml y.cls idx y2) (hC : pm_C w y2 cc2 nL2 ret2 d2 lo2 (.ref (w.2.1 20 0) :: As) z A S0 none z2 A2) (hy : y2.cls = "PageReceiverModel") (hn : As.length = n) (hst : st = As.reverse ++ .ref (w.2.1 20 0) :: rest) (hcat : (rest.map fun v => v.category).sum ≤ 8)
    (hroom : d2 + 1 ≤ rm.frames ∧ 8 + (nL2 + 11) + lo2 ≤ rm.locals) (hcell : ce ≤ rm.cells ∧ sl ≤ rm.slots)
    (kk : ∀ S', Rm w.2.2.1 z2 A2 S' → pm_g S0 S' → pg_G κ w.1 nL ce sl Q (pf_P w S') (pc + 3) lv rest) : pg_G κ w.1 nL ce sl Q (pf_P w S) pc lv st :=
  pg_wk (fun H hP => ⟨S, ⟨hR, hg⟩, hP⟩) (pg_cV0 h d hm hl hC (fun _ hP => by rw [hy]; exact pm_recv h ok hP) hn hst hcat hroom hcell (pg_ex (fun S' => pg_an (fun q => kk S' q.1 q.2))))
theorem pm_iret {v : Int32} {r : Option Value} {ty : FieldType} (h : pg_X κ w.1 y cc nL (some ty) rm) (d : decode cc pc = .ok (.ireturn, 1)) (hn : narrow ty (.int v) = .int v) (hr : r = some (.int v)) (hR : Rm w.2.2.1 z A S) (hg : pm_g S0 S) : pg_G κ w.1 nL 0 0 (pm_Q κ w r z A S0) (pf_P w S) pc lv [.int v] := pg_iret h d hn (fun H hP => ⟨hr.symm, S, ⟨hR, hg⟩, hP⟩)
theorem pm_vret (h : pg_X κ w.1 y cc nL none rm) (d : decode cc pc = .ok (.return_, 1)) (hR : Rm w.2.2.1 z A S) (hg : pm_g S0 S) : pg_G κ w.1 nL 0 0 (pm_Q κ w none z A S0) (pf_P w S) pc lv [] := pg_vret h d (fun H hP => ⟨rfl, S, ⟨hR, hg⟩, hP⟩)
theorem pm_enter {dd lo : Nat} {as : List Value} {r : Option Value} {lv0 : List (Option Value)} (hy : plainName y.cls = true) (hn : (lg_sl as).length ≤ nL) (hlv : lv_args 0 as = pg_lv 0 lv0)
    (body : ∀ (κ : pg_K) (S : pf_S), pg_X κ w.1 y cc nL ret ⟨dd, 0, 0, lo⟩ → Rm w.2.2.1 z A S → pm_g S0 S → pg_G κ w.1 nL 0 0 (pm_Q κ w r z2 A2 S0) (pf_P w S) 0 lv0 []) : pm_C w y cc nL ret dd lo as z A S0 r z2 A2 := pg_enter hy hn hlv (fun κ h => pg_ex (fun S => pg_an (fun q => body κ S h q.1 q.2)))
end PM
/-! what a change of one cell does to the relation -/
section RMUP
variable {P : Nat} {z : Int32} {A S : pf_S}
theorem Rm.cnt (h : Rm P z A S) {j : Nat} {v : Int32} : Rm P z (pf_st A 1 0 j v) (pf_st S 31 0 j v) := by
  obtain ⟨h1, h2, h3, h4, h5, h6⟩ := h
  refine ⟨h1, fun q hq => ?_, h3, h4, h5, h6⟩
  rw [pf_st_at, pf_st_at]
  simp only [true_and]
  by_cases hj : q = j
  · rw [if_pos hj, if_pos hj]
  · rw [if_neg hj, if_neg hj]
    exact h2 q hq
theorem Rm.byt (h : Rm P z A S) {j : Nat} {v : Int32} : Rm P z (pf_st A 3 0 j v) (pf_st S 30 0 j v) := by
  obtain ⟨h1, h2, h3, h4, h5, h6⟩ := h
  refine ⟨h1, h2, fun q hq => ?_, h4, h5, h6⟩
  rw [pf_st_at, pf_st_at]
  simp only [true_and]
  by_cases hj : q = j
  · rw [if_pos hj, if_pos hj]
  · rw [if_neg hj, if_neg hj]
    exact h3 q hq
theorem Rm.rol (h : Rm P z A S) {j : Nat} {v : Int32} : Rm P z (pf_st A 10 0 j v) (pf_st S 29 0 j v) := by
  obtain ⟨h1, h2, h3, h4, h5, h6⟩ := h
  refine ⟨h1, h2, h3, h4, fun q hq => ?_, h6⟩
  rw [pf_st_at, pf_st_at]
  simp only [true_and]
  by_cases hj : q = j
  · rw [if_pos hj, if_pos hj]
  · rw [if_neg hj, if_neg hj]
    exact h5 q hq
theorem Rm.siz (h : Rm P z A S) (v : Int32) : Rm P v A (pf_st S 20 0 11 v) := by
  obtain ⟨h1, h2, h3, h4, h5, h6⟩ := h
  exact ⟨⟨h1.1, rfl⟩, h2, h3, h4, h5, h6⟩
/-- a write to the class's packet object or header is not seen -/
theorem Rm.o2 (h : Rm P z A S) {j : Nat} {v : Int32} : Rm P z (pf_st A 2 0 j v) S := h
theorem Rm.o11 (h : Rm P z A S) {j : Nat} {v : Int32} : Rm P z (pf_st A 11 0 j v) S := h
theorem Rm.wnt (h : Rm P z A S) {v : Int32} : Rm P z (pf_st A 6 0 2 v) (pf_st S 20 0 13 v) := by
  obtain ⟨h1, h2, h3, ⟨a1, a2, a3, a4, a5, a6⟩, h5, h6⟩ := h
  exact ⟨h1, h2, h3, ⟨rfl, a2, a3, a4, a5, a6⟩, h5, h6⟩
theorem Rm.dgs (h : Rm P z A S) {v : Int32} : Rm P z (pf_st A 6 0 3 v) (pf_st S 20 0 14 v) := by
  obtain ⟨h1, h2, h3, ⟨a1, a2, a3, a4, a5, a6⟩, h5, h6⟩ := h
  exact ⟨h1, h2, h3, ⟨a1, rfl, a3, a4, a5, a6⟩, h5, h6⟩
theorem Rm.dg1 (h : Rm P z A S) {v : Int32} : Rm P z (pf_st A 6 0 4 v) (pf_st S 20 0 15 v) := by
  obtain ⟨h1, h2, h3, ⟨a1, a2, a3, a4, a5, a6⟩, h5, h6⟩ := h
  exact ⟨h1, h2, h3, ⟨a1, a2, rfl, a4, a5, a6⟩, h5, h6⟩
theorem Rm.dg2 (h : Rm P z A S) {v : Int32} : Rm P z (pf_st A 6 0 5 v) (pf_st S 20 0 16 v) := by
  obtain ⟨h1, h2, h3, ⟨a1, a2, a3, a4, a5, a6⟩, h5, h6⟩ := h
  exact ⟨h1, h2, h3, ⟨a1, a2, a3, rfl, a5, a6⟩, h5, h6⟩
theorem Rm.rev (h : Rm P z A S) {v v2 : Int32} (e : nb v2 = nb v) : Rm P z (pf_st A 6 0 6 v) (pf_st S 20 0 17 v2) := by
  obtain ⟨h1, h2, h3, ⟨a1, a2, a3, a4, a5, a6⟩, h5, h6⟩ := h
  exact ⟨h1, h2, h3, ⟨a1, a2, a3, a4, e, a6⟩, h5, h6⟩
theorem Rm.lig (h : Rm P z A S) {v v2 : Int32} (e : nb v2 = nb v) : Rm P z (pf_st A 12 0 3 v) (pf_st S 20 0 18 v2) := by
  obtain ⟨h1, h2, h3, ⟨a1, a2, a3, a4, a5, a6⟩, h5, h6⟩ := h
  exact ⟨h1, h2, h3, ⟨a1, a2, a3, a4, a5, e⟩, h5, h6⟩
theorem upd_if (f : Nat → Int32) (k j : Nat) (v : Int32) : upd f k v j = if j = k then v else f j := rfl
theorem Rm.pgs (h : Rm P z A S) {A' S' : pf_S} (e : ∀ a, a < 14 → A' a = A a) (e2 : ∀ a, (a = 20 ∨ 29 ≤ a) → S' a = S a) (hp : ∀ k, pgk P k → Rpg k A S → Rpg k A' S') : Rm P z A' S' := by
  obtain ⟨h1, h2, h3, h4, h5, h6⟩ := h
  unfold Rm Rsc
  rw [e2 20 (Or.inl rfl), e2 31 (Or.inr (by decide)), e2 30 (Or.inr (by decide)), e2 29 (Or.inr (by decide)), e 1 (by decide), e 3 (by decide), e 6 (by decide), e 12 (by decide), e 10 (by decide)]
  exact ⟨h1, h2, h3, h4, h5, fun k hk => hp k hk (h6 k hk)⟩
theorem st_hi (S : pf_S) {kd ix k a : Nat} {v : Int32} (h : a ≠ kd) : pf_st S kd ix k v a = S a := by
  funext b c
  rw [pf_st_at, if_neg (fun q => h q.1)]
theorem Rm.let (h : Rm P z A S) {k j : Nat} {v : Int32} (hj : j < 160) : Rm P z (pf_st A 15 k j v) (pf_st S 27 0 (160 * k + j) v) := by
  refine h.pgs (fun a ha => st_hi _ (by omega)) (fun a ha => st_hi _ (by omega)) (fun q _ hq => ?_)
  obtain ⟨p1, p2, p3, p4, p5, p6, p7, p8⟩ := hq
  refine ⟨p1, p2, p3, p4, p5, fun i hi => ?_, p7, p8⟩
  rw [pf_st_at, pf_st_at]
  by_cases c : q = k ∧ i = j
  · obtain ⟨rfl, rfl⟩ := c
    simp
  · rw [if_neg (by intro q2; apply c; omega), if_neg (by intro q2; apply c; exact ⟨q2.2.1, q2.2.2⟩)]
    exact p6 i hi
theorem Rm.ovl (h : Rm P z A S) {k j : Nat} {v : Int32} (hj : j < 160) : Rm P z (pf_st A 16 k j v) (pf_st S 28 0 (160 * k + j) v) := by
  refine h.pgs (fun a ha => st_hi _ (by omega)) (fun a ha => st_hi _ (by omega)) (fun q _ hq => ?_)
  obtain ⟨p1, p2, p3, p4, p5, p6, p7, p8⟩ := hq
  refine ⟨p1, p2, p3, p4, p5, p6, fun i hi => ?_, p8⟩
  rw [pf_st_at, pf_st_at]
  by_cases c : q = k ∧ i = j
  · obtain ⟨rfl, rfl⟩ := c
    simp
  · rw [if_neg (by intro q2; apply c; omega), if_neg (by intro q2; apply c; exact ⟨q2.2.1, q2.2.2⟩)]
    exact p7 i hi
theorem Rm.lnk (h : Rm P z A S) {k j : Nat} {v : Int32} (hj : j < 4) : Rm P z (pf_st A 17 k j v) (pf_st S 26 0 (4 * k + j) v) := by
  refine h.pgs (fun a ha => st_hi _ (by omega)) (fun a ha => st_hi _ (by omega)) (fun q _ hq => ?_)
  obtain ⟨p1, p2, p3, p4, p5, p6, p7, p8⟩ := hq
  refine ⟨p1, p2, p3, p4, p5, p6, p7, fun i hi => ?_⟩
  rw [pf_st_at, pf_st_at]
  by_cases c : q = k ∧ i = j
  · obtain ⟨rfl, rfl⟩ := c
    simp
  · rw [if_neg (by intro q2; apply c; omega), if_neg (by intro q2; apply c; exact ⟨q2.2.1, q2.2.2⟩)]
    exact p8 i hi

theorem Rm.thr (h : Rm P z A S) {k : Nat} {v v2 : Int32} (e : nb v2 = nb v) : Rm P z (pf_st A 14 k 0 v) (pf_st S 21 0 k v2) := by
  refine h.pgs (fun a ha => st_hi _ (by omega)) (fun a ha => st_hi _ (by omega)) (fun q _ hq => ?_)
  obtain ⟨p1, p2, p3, p4, p5, p6, p7, p8⟩ := hq
  by_cases c : q = k
  · subst c
    refine ⟨?_, ?_, ?_, ?_, ?_, p6, p7, p8⟩ <;> first | (simp [pf_st_at, e]; done) | (simp [pf_st_at]; first | exact p1 | exact p2 | exact p3 | exact p4 | exact p5)
  · refine ⟨?_, ?_, ?_, ?_, ?_, p6, p7, p8⟩ <;> (simp [pf_st_at, c]; first | exact p1 | exact p2 | exact p3 | exact p4 | exact p5)

theorem Rm.num (h : Rm P z A S) {k : Nat} {v : Int32} : Rm P z (pf_st A 14 k 1 v) (pf_st S 22 0 k v) := by
  refine h.pgs (fun a ha => st_hi _ (by omega)) (fun a ha => st_hi _ (by omega)) (fun q _ hq => ?_)
  obtain ⟨p1, p2, p3, p4, p5, p6, p7, p8⟩ := hq
  by_cases c : q = k
  · subst c
    refine ⟨?_, ?_, ?_, ?_, ?_, p6, p7, p8⟩ <;> first | (simp [pf_st_at]; done) | (simp [pf_st_at]; first | exact p1 | exact p2 | exact p3 | exact p4 | exact p5)
  · refine ⟨?_, ?_, ?_, ?_, ?_, p6, p7, p8⟩ <;> (simp [pf_st_at, c]; first | exact p1 | exact p2 | exact p3 | exact p4 | exact p5)

theorem Rm.sub (h : Rm P z A S) {k : Nat} {v : Int32} : Rm P z (pf_st A 14 k 2 v) (pf_st S 23 0 k v) := by
  refine h.pgs (fun a ha => st_hi _ (by omega)) (fun a ha => st_hi _ (by omega)) (fun q _ hq => ?_)
  obtain ⟨p1, p2, p3, p4, p5, p6, p7, p8⟩ := hq
  by_cases c : q = k
  · subst c
    refine ⟨?_, ?_, ?_, ?_, ?_, p6, p7, p8⟩ <;> first | (simp [pf_st_at]; done) | (simp [pf_st_at]; first | exact p1 | exact p2 | exact p3 | exact p4 | exact p5)
  · refine ⟨?_, ?_, ?_, ?_, ?_, p6, p7, p8⟩ <;> (simp [pf_st_at, c]; first | exact p1 | exact p2 | exact p3 | exact p4 | exact p5)

theorem Rm.set (h : Rm P z A S) {k : Nat} {v : Int32} : Rm P z (pf_st A 14 k 3 v) (pf_st S 24 0 k v) := by
  refine h.pgs (fun a ha => st_hi _ (by omega)) (fun a ha => st_hi _ (by omega)) (fun q _ hq => ?_)
  obtain ⟨p1, p2, p3, p4, p5, p6, p7, p8⟩ := hq
  by_cases c : q = k
  · subst c
    refine ⟨?_, ?_, ?_, ?_, ?_, p6, p7, p8⟩ <;> first | (simp [pf_st_at]; done) | (simp [pf_st_at]; first | exact p1 | exact p2 | exact p3 | exact p4 | exact p5)
  · refine ⟨?_, ?_, ?_, ?_, ?_, p6, p7, p8⟩ <;> (simp [pf_st_at, c]; first | exact p1 | exact p2 | exact p3 | exact p4 | exact p5)

theorem Rm.bef (h : Rm P z A S) {k : Nat} {v : Int32} : Rm P z (pf_st A 14 k 4 v) (pf_st S 25 0 k v) := by
  refine h.pgs (fun a ha => st_hi _ (by omega)) (fun a ha => st_hi _ (by omega)) (fun q _ hq => ?_)
  obtain ⟨p1, p2, p3, p4, p5, p6, p7, p8⟩ := hq
  by_cases c : q = k
  · subst c
    refine ⟨?_, ?_, ?_, ?_, ?_, p6, p7, p8⟩ <;> first | (simp [pf_st_at]; done) | (simp [pf_st_at]; first | exact p1 | exact p2 | exact p3 | exact p4 | exact p5)
  · refine ⟨?_, ?_, ?_, ?_, ?_, p6, p7, p8⟩ <;> (simp [pf_st_at, c]; first | exact p1 | exact p2 | exact p3 | exact p4 | exact p5)

end RMUP