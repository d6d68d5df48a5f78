/-! Invariants of the pages: letters and links stay what they may be (LtI, LkI), steps. -/
def GI (A : pf_S) (P : Nat) : Prop := LtI A P ∧ LkI A P
theorem GI_keep {A B : pf_S} {P : Nat} (h15 : B 15 = A 15) (h17 : B 17 = A 17) (h10 : B 10 = A 10) (h : GI A P) : GI B P := by
  refine ⟨⟨fun k hk j hj => ?_, fun j hj => ?_⟩, fun k hk j hj => ?_⟩
  · rw [h15]; exact h.1.1 k hk j hj
  · rw [h10]; exact h.1.2 j hj
  · rw [h17]; exact h.2 k hk j hj
theorem GI_st {A : pf_S} {P kd ix c : Nat} {v : Int32} (h : GI A P) (h1 : ¬ kd = 15) (h2 : ¬ kd = 17) (h3 : ¬ kd = 10) : GI (pf_st A kd ix c v) P := GI_keep (st_K (fun q => h1 q.symm)) (st_K (fun q => h2 q.symm)) (st_K (fun q => h3 q.symm)) h
theorem GI_cp {A : pf_S} {P f t : Nat} (hf : pgk P f) (h : GI A P) : GI (cpP A f t) P := by
  refine ⟨⟨fun k hk j hj => ?_, fun j hj => ?_⟩, fun k hk j hj => ?_⟩
  · by_cases e : k = t
    · have q : cpP A f t 15 k j = A 15 f j := by simp [cpP, e, hj]
      rw [q]; exact h.1.1 f hf j hj
    · have q : cpP A f t 15 k j = A 15 k j := by simp [cpP, e]
      rw [q]; exact h.1.1 k hk j hj
  · rw [cpP_lo _ _ _ (by decide)]; exact h.1.2 j hj
  · by_cases e : k = t
    · have q : cpP A f t 17 k j = A 17 f j := by simp [cpP, e, hj]
      rw [q]; exact h.2 f hf j hj
    · have q : cpP A f t 17 k j = A 17 k j := by simp [cpP, e]
      rw [q]; exact h.2 k hk j hj
theorem GI_cmp {A : pf_S} {P m : Nat} {wt : Int32} (hm : m < 8) (h : GI A P) : GI (cmpF A P m wt) P := by
  unfold cmpF
  exact GI_st (GI_st (GI_st (GI_cp (Or.inl (by omega)) h) (by decide) (by decide) (by decide)) (by decide) (by decide) (by decide)) (by decide) (by decide) (by decide)
theorem GI_cc {P m : Nat} {b : Int32} {S : pf_S} (h : GI S P) : ∀ j, j ≤ 8 → GI (ccF P m b S j) P := by
  intro j
  induction j with
  | zero => intro _; exact h
  | succ j ih =>
    intro hj
    rw [ccF, ccS]
    split
    · exact ih (by omega)
    · exact GI_cmp (by omega) (ih (by omega))
theorem GI_let {A : pf_S} {P k j b : Nat} (hb : b < 128) (h : GI A P) : GI (pf_st A 15 k j (nI b)) P := by
  refine ⟨⟨fun k' hk i hi => ?_, fun i hi => ?_⟩, fun k' hk i hi => ?_⟩
  · rw [pf_st_at]
    split
    · exact ⟨b, hb, rfl⟩
    · exact h.1.1 k' hk i hi
  · rw [st_K (by decide)]; exact h.1.2 i hi
  · rw [st_K (by decide)]; exact h.2 k' hk i hi
theorem GI_rol {A : pf_S} {P j b : Nat} (hb : b < 128) (h : GI A P) : GI (pf_st A 10 0 j (nI b)) P := by
  refine ⟨⟨fun k' hk i hi => ?_, fun i hi => ?_⟩, fun k' hk i hi => ?_⟩
  · rw [st_K (by decide)]; exact h.1.1 k' hk i hi
  · rw [pf_st_at]
    split
    · exact ⟨b, hb, rfl⟩
    · exact h.1.2 i hi
  · rw [st_K (by decide)]; exact h.2 k' hk i hi
theorem GI_lnk {A : pf_S} {P k j : Nat} {v : Int32} (hv : 0 ≤ v ∧ v < 2048) (h : GI A P) : GI (pf_st A 17 k j v) P := by
  refine ⟨⟨fun k' hk i hi => ?_, fun i hi => ?_⟩, fun k' hk i hi => ?_⟩
  · rw [st_K (by decide)]; exact h.1.1 k' hk i hi
  · rw [st_K (by decide)]; exact h.1.2 i hi
  · rw [pf_st_at]
    split
    · exact Or.inr hv
    · exact h.2 k' hk i hi
theorem GI_beg {A : pf_S} {P m : Nat} {num : Int32} (h : GI A P) : GI (begP A m num) P := by
  refine ⟨⟨fun k hk j hj => ?_, fun j hj => ?_⟩, fun k hk j hj => ?_⟩
  · by_cases e : k = m
    · have q : begP A m num 15 k j = 32 := by simp [begP, pf_rw, e, filTo, hj]
      rw [q]; exact ⟨32, by decide, rfl⟩
    · have q : begP A m num 15 k j = A 15 k j := by simp [begP, pf_rw, e, pf_st_at]
      rw [q]; exact h.1.1 k hk j hj
  · exact h.1.2 j hj
  · by_cases e : k = m
    · have q : begP A m num 17 k j = -1 := by simp [begP, pf_rw, e, filTo, hj]
      exact Or.inl q
    · have q : begP A m num 17 k j = A 17 k j := by simp [begP, pf_rw, e, pf_st_at]
      rw [q]; exact h.2 k hk j hj
theorem GI_bp {A : pf_S} {P m : Nat} (h : GI A P) : GI (bpF A P m) P := by
  unfold bpF
  refine GI_st (GI_st ?_ (by decide) (by decide) (by decide)) (by decide) (by decide) (by decide)
  unfold bpA
  split
  · cases hf : fndF A P (numF A m) with
    | none => exact GI_beg h
    | some k => exact GI_cp (Or.inl (fndF_some hf).2.1) h
  · exact GI_beg h
