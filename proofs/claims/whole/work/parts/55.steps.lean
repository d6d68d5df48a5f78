/-! One call of the law: what class and reference answer, and the state behind. -/
def StepOK (w : pf_W) (yC : MethodName) (bC : ByteArray) (nC dC lC : Nat) (yM : MethodName) (bM : ByteArray) (nM dM lM : Nat) (ret : Option FieldType) (As : List Value) (S : pf_S) : Prop :=
  ∃ (r : Int32) (S1 : pf_S) (Pic1 Post2 : Heap → Prop), pf_C w yC bC nC ret dC lC (.ref (w.2.1 0 0) :: As) S (some (.int r)) S1 ∧ (∀ H, pf_P w S1 H → Pic1 H) ∧ (∀ H, Pic1 H → ∃ S', pf_P w S' H) ∧
    pg_E w.1 yM bM nM ret ⟨dM, 0, 0, lM⟩ (.ref (w.2.1 20 0) :: As) Pic1 (some (.int r)) Post2 ∧ (∀ H, Post2 H → ∃ S2, LawI w.2.2.1 S2 ∧ pf_P w S2 H)
section STEPS
variable {w : pf_W} {yC yM : MethodName} {bC bM : ByteArray} {nC dC lC nM dM lM : Nat} {ret : Option FieldType} {As : List Value} {S : pf_S}
theorem st_pm {r : Int32} {S1 A' : pf_S} {z' : Int32} (hC : pf_C w yC bC nC ret dC lC (.ref (w.2.1 0 0) :: As) S (some (.int r)) S1) (hi : ∀ kd, 20 ≤ kd → S1 kd = S kd) (hI : LawI w.2.2.1 S)
    (hM : pm_C w yM bM nM ret dM lM (.ref (w.2.1 20 0) :: As) (S 2 0 2) S S1 (some (.int r)) z' A') (hfin : ∀ S2, Rm w.2.2.1 z' A' S2 → pm_g S1 S2 → LawI w.2.2.1 S2) : StepOK w yC bC nC dC lC yM bM nM dM lM ret As S :=
  ⟨r, S1, pm_P w (S 2 0 2) S S1, pm_P w z' A' S1, hC, fun H hP => ⟨S1, ⟨Rm_S hi hI.1, fun _ _ => rfl⟩, hP⟩, fun H hP => by
    obtain ⟨S', -, hP⟩ := hP
    exact ⟨S', hP⟩, hM, fun H hP => by
    obtain ⟨S2, ⟨h1, h2⟩, hP⟩ := hP
    exact ⟨S2, hfin S2 h1 h2, hP⟩⟩
theorem st_pf {r : Int32} {S1 S2 : pf_S} (hC : pf_C w yC bC nC ret dC lC (.ref (w.2.1 0 0) :: As) S (some (.int r)) S1)
    (hM : pf_C w yM bM nM ret dM lM (.ref (w.2.1 20 0) :: As) S1 (some (.int r)) S2) (hI : LawI w.2.2.1 S2) : StepOK w yC bC nC dC lC yM bM nM dM lM ret As S :=
  ⟨r, S1, pf_P w S1, pf_P w S2, hC, fun H hP => hP, fun H hP => ⟨S1, hP⟩, hM, fun H hP => ⟨S2, hI, hP⟩⟩
end STEPS
theorem nI_ex {v : Int32} (h : ¬ v < 0) : ∃ n : Nat, n < 2 ^ 31 ∧ v = nI n ∧ v.toInt = n := by
  have h0 : ¬ v.toInt < 0 := fun q => h (Int32.lt_iff_toInt_lt.mpr (by rw [show (0 : Int32).toInt = 0 from rfl]; exact q))
  have h1 := v.toInt_lt
  have hn : v.toInt.toNat < 2 ^ 31 := by omega
  refine ⟨v.toInt.toNat, hn, ?_, by omega⟩
  apply Int32.toInt_inj.mp
  rw [nI_toInt hn]
  omega
theorem nI_rng {v : Int32} {k : Nat} (hk : k < 2 ^ 31) (h : ¬ v < 0) (h2 : ¬ nI k ≤ v) : ∃ n : Nat, n < k ∧ v = nI n := by
  obtain ⟨n, hn, e, -⟩ := nI_ex h
  refine ⟨n, ?_, e⟩
  rw [e] at h2
  exact Nat.lt_of_not_le (fun q => h2 (nI_le q hn))
theorem st_reset (w : pf_W) (ok : pf_ok w) (hw : 1 ≤ w.2.2.1 ∧ w.2.2.1 ≤ 4) (S : pf_S) (hI : LawI w.2.2.1 S) : StepOK w y_Recv_reset b_Recv_reset 1 1 21 y_Mod_reset b_Mod_reset 2 0 0 (some .int) [] S :=
  st_pm (c_Recv_reset w ok S) (fun kd hk => st_K (by omega)) hI (c_Mod_reset w ok S _ _) (fun S2 hR hg => law_of (A := pf_st S 2 0 2 0) hw.2 hR hg ⟨⟨⟨0, by decide, rfl⟩, hI.2.1.2.1, hI.2.1.2.2⟩, GI_st hI.2.2.1 (by decide) (by decide) (by decide), hI.2.2.2.1, hI.2.2.2.2⟩)
theorem st_tick (w : pf_W) (ok : pf_ok w) (hw : 1 ≤ w.2.2.1 ∧ w.2.2.1 ≤ 4) (S : pf_S) (hI : LawI w.2.2.1 S) : StepOK w y_Recv_tick b_Recv_tick 1 0 0 y_Mod_tick b_Mod_tick 1 0 0 (some .boolean) [] S :=
  st_pm (c_Recv_tick w ok S) (fun kd hk => st_K (by omega)) hI (c_Mod_tick w ok S _ _) (fun S2 hR hg => law_of (A := pf_st S 12 0 3 (tikV S)) hw.2 hR hg (Inv_cong hw.2 (fun kd _ h _ => st_K h) hI.2))
theorem st_shown (w : pf_W) (ok : pf_ok w) (hw : 1 ≤ w.2.2.1 ∧ w.2.2.1 ≤ 4) (S : pf_S) (hI : LawI w.2.2.1 S) : StepOK w y_Recv_shown b_Recv_shown 2 2 42 y_Mod_shown b_Mod_shown 2 2 42 (some .int) [] S :=
  st_pm (c_Recv_shown w ok S hw) (fun _ _ => rfl) hI (c_Mod_shown w ok S S _ hw) (fun S2 hR hg => law_of hw.2 hR hg hI.2)
theorem st_viewer (w : pf_W) (ok : pf_ok w) (hw : 1 ≤ w.2.2.1 ∧ w.2.2.1 ≤ 4) (S : pf_S) (hI : LawI w.2.2.1 S) (x : Int32) : StepOK w y_Recv_viewer b_Recv_viewer 2 0 0 y_Mod_viewer b_Mod_viewer 2 0 0 (some .int) [.int x] S :=
  st_pm (c_Recv_viewer w ok S x) (fun _ _ => rfl) hI (c_Mod_viewer w ok S S _ x) (fun S2 hR hg => law_of hw.2 hR hg hI.2)
theorem st_kept (w : pf_W) (ok : pf_ok w) (hw : 1 ≤ w.2.2.1 ∧ w.2.2.1 ≤ 4) (S : pf_S) (hI : LawI w.2.2.1 S) (x t : Int32) : StepOK w y_Recv_kept b_Recv_kept 4 2 42 y_Mod_kept b_Mod_kept 4 0 0 (some .int) [.int x, .int t] S :=
  st_pm (c_Recv_kept w ok S hw x t) (fun _ _ => rfl) hI (c_Mod_kept w ok S S _ hw x t) (fun S2 hR hg => law_of hw.2 hR hg hI.2)
theorem st_count (w : pf_W) (ok : pf_ok w) (hw : 1 ≤ w.2.2.1 ∧ w.2.2.1 ≤ 4) (S : pf_S) (hI : LawI w.2.2.1 S) (x : Int32) : StepOK w y_Recv_count b_Recv_count 2 0 0 y_Mod_count b_Mod_count 2 0 0 (some .int) [.int x] S :=
  st_pm (c_Recv_count w ok S x) (fun _ _ => rfl) hI (c_Mod_count w ok S S _ x) (fun S2 hR hg => law_of hw.2 hR hg hI.2)
theorem kyT_2 (S : pf_S) (P kk : Nat) : kyT S P kk 2 = S 2 := by
  have hwt : ∀ (T : pf_S) (v : Int32), wntF T v 2 = T 2 := fun T v => by rw [wntF, st_K (by decide), st_K (by decide), st_K (by decide)]
  unfold kyT
  split
  · unfold dgT
    split
    · split
      · rfl
      · split
        · rw [st_K (by decide), st_K (by decide)]
        · rfl
    · split
      · rw [st_K (by decide), st_K (by decide)]
      · rw [hwt, st_K (by decide)]
  · unfold cmdT
    split
    · unfold hldT
      split
      · cases fndF (pf_st S 6 0 3 0) P (pf_st S 6 0 3 0 6 0 2) with
        | none => exact st_K (by decide)
        | some k => exact (cpP_lo _ _ _ (by decide)).trans (st_K (by decide))
      · rw [st_K (by decide), st_K (by decide)]
    · split
      · rw [st_K (by decide), st_K (by decide)]
      · unfold flwT
        cases shnF (pf_st S 6 0 3 0) P with
        | none => exact st_K (by decide)
        | some k =>
          show (if pf_st S 6 0 3 0 17 k (kk - 10) = -1 then pf_st S 6 0 3 0 else wntF (pf_st S 6 0 3 0) (pf_st S 6 0 3 0 17 k (kk - 10))) 2 = S 2
          split
          · exact st_K (by decide)
          · rw [hwt, st_K (by decide)]
theorem st_key (w : pf_W) (ok : pf_ok w) (hw : 1 ≤ w.2.2.1 ∧ w.2.2.1 ≤ 4) (S : pf_S) (hI : LawI w.2.2.1 S) (x : Int32) : StepOK w y_Recv_key b_Recv_key 2 4 103 y_Mod_key b_Mod_key 4 2 42 (some .boolean) [.int x] S := by
  by_cases hn : x < 0 ∨ ¬ x ≤ 15
  · exact st_pm (c_key_out w ok S x hn) (fun _ _ => rfl) hI (c_mkey_out w ok S S _ x hn) (fun S2 hR hg => law_of hw.2 hR hg hI.2)
  · obtain ⟨kk, hkk, rfl, -⟩ := nI_ex (v := x) (fun q => hn (Or.inl q))
    have hk : kk ≤ 15 := by
      have h2 : nI kk ≤ 15 := Decidable.not_not.mp (fun q => hn (Or.inr q))
      exact Nat.le_of_not_lt (fun q => nI_ge q (by omega) h2)
    exact st_pm (c_key_in w ok S hw kk hk) (fun kd hkd => kyT_H S _ kk (by omega)) hI (c_mkey_in w ok S _ _ hw kk hk hI.2.2.2.2.1 hI.2.2.1.2) (fun S2 hR hg => law_of hw.2 (by rw [kyT_2]; exact hR) hg (Inv_ky hw.2 hk hI.2))
theorem st_feed (w : pf_W) (ok : pf_ok w) (hw : 1 ≤ w.2.2.1 ∧ w.2.2.1 ≤ 4) (S : pf_S) (hI : LawI w.2.2.1 S) (x : Int64) (n : Int32) : StepOK w y_Recv_feed b_Recv_feed 5 7 157 y_Mod_feed b_Mod_feed 5 5 129 (some .int) [.long x, .int n] S := by
  by_cases hn : n < 1 ∨ ¬ n ≤ 8
  · exact st_pf (c_feed_out w ok S x n hn) (c_mfeed_out w ok S x n hn) hI
  · have h1 : ¬ n < 0 := fun q => hn (Or.inl (by
      have a := Int32.lt_iff_toInt_lt.mp q
      refine Int32.lt_iff_toInt_lt.mpr ?_
      rw [show (0 : Int32).toInt = 0 from rfl] at a
      rw [show (1 : Int32).toInt = 1 from rfl]
      omega))
    obtain ⟨nn, hnn, rfl, -⟩ := nI_ex h1
    have h8 : nn ≤ 8 := by
      have h2 : nI nn ≤ 8 := Decidable.not_not.mp (fun q => hn (Or.inr q))
      exact Nat.le_of_not_lt (fun q => nI_ge q (by omega) h2)
    have h0 : 1 ≤ nn := Nat.le_of_not_lt (fun q => hn (Or.inl (nI_lt (b := 1) q (by decide))))
    exact st_pm (c_feed_in w ok S hw x nn h0 h8 hI.2.1.1) (fun kd hk => fdF_H _ _ (by omega) _ _) hI (c_mfeed_in w ok S _ hw TP_all TD_ok BY_ok (FI_ok hw.1) x nn h0 h8 hI.2.1) (fun S2 hR hg => law_of hw.2 hR hg (Inv_fdF hw.1 x nn S hI.2))

/-! look and point: the class's own two rows of drawing, the reference's scratch. -/
theorem se_3 (S : pf_S) (P r c : Nat) : (seS S P r c).2 3 = S 12 0 3 := by
  have hu : ∀ q n, (drF S (shnF S P) q (bgG (S 13 0)) (S 12 0) n).2 3 = S 12 0 3 := fun q n => uD_3 S (shnF S P) q n
  unfold seS seF
  split
  · show lhU (drF S (shnF S P) (drR S (shnF S P) r) (bgG (S 13 0)) (S 12 0) (c + 1)).2 3 = S 12 0 3
    unfold lhU
    split
    · show upd (upd _ 4 32) 7 _ 3 = _
      rw [upd_if, if_neg (by decide), upd_if, if_neg (by decide), hu]
    · rw [upd_if, if_neg (by decide), hu]
  · exact hu _ _
theorem SC_hi (S : pf_S) (g u : Nat → Int32) {kd : Nat} (h12 : ¬ kd = 12) (h13 : ¬ kd = 13) : SC S g u kd = S kd := by
  funext b
  unfold SC
  rw [pf_rw_ne _ _ (fun q => h12 q.1), pf_rw_ne _ _ (fun q => h13 q.1)]
theorem law_SC {P : Nat} {S : pf_S} {g u : Nat → Int32} (hP : P ≤ 4) (hu : u 3 = S 12 0 3) (hI : LawI P S) : LawI P (SC S g u) := by
  obtain ⟨hR, hV⟩ := hI
  refine ⟨?_, Inv_cong hP (fun kd _ h12 h13 => SC_hi S g u h12 h13) hV⟩
  have h2 : Rm P (S 2 0 2) S (SC S g u) := Rm_S (fun kd hk => SC_hi S g u (by omega) (by omega)) hR
  rw [SC_hi S g u (by decide) (by decide)]
  obtain ⟨b1, b2, b3, ⟨a1, a2, a3, a4, a5, a6⟩, b5, b6⟩ := h2
  exact ⟨b1, b2, b3, ⟨a1, a2, a3, a4, a5, a6.trans (by show nb (S 12 0 3) = nb (u 3); rw [hu])⟩, b5, b6⟩
theorem law_MD {P : Nat} {S : pf_S} {g : Nat → Int32} {lg : Int32} {F : Nat → Nat → Int32} (hP : P ≤ 4) (hI : LawI P S) : LawI P (MD S g lg F) :=
  law_of (A := S) hP (MD_Rm.mpr hI.1) (MD_g (fun _ _ => rfl)) hI.2
theorem lk_out (u : Nat → Int32) {x : Int32} (h : x < 0 ∨ 3 < x) : lkV u x = -1 := by
  have e : ∀ v : Int32, 0 ≤ v → v ≤ 3 → ¬ x = v := fun v h0 h3 q => by
    subst q
    rcases h with h | h
    · have a := Int32.lt_iff_toInt_lt.mp h
      have b := Int32.le_iff_toInt_le.mp h0
      omega
    · have a := Int32.lt_iff_toInt_lt.mp h
      have b := Int32.le_iff_toInt_le.mp h3
      omega
  unfold lkV
  rw [if_neg (e 0 (by decide) (by decide)), if_neg (e 1 (by decide) (by decide)), if_neg (e 2 (by decide) (by decide)), if_neg (e 3 (by decide) (by decide))]
theorem isC_nat2 {r c : Int32} (h : isC r c) : ∃ rr ci : Nat, rr < 8 ∧ ci < 20 ∧ r = nI rr ∧ c = nI ci := by
  obtain ⟨h1, h2, h3, h4⟩ := h
  obtain ⟨rr, hr, e1⟩ := nI_rng (k := 8) (by decide) h1 h2
  obtain ⟨ci, hc, e2⟩ := nI_rng (k := 20) (by decide) h3 h4
  exact ⟨rr, ci, hr, hc, e1, e2⟩
theorem st_look (w : pf_W) (ok : pf_ok w) (hw : 1 ≤ w.2.2.1 ∧ w.2.2.1 ≤ 4) (S : pf_S) (hI : LawI w.2.2.1 S) (r c x : Int32) : StepOK w y_Recv_look b_Recv_look 4 6 141 y_Mod_look b_Mod_look 4 5 117 (some .int) [.int r, .int c, .int x] S := by
  by_cases hc : isC r c
  · obtain ⟨rr, ci, hr, hci, rfl, rfl⟩ := isC_nat2 hc
    have hcl := c_look_in w ok S hw rr ci hr hci x
    have h1 : LawI w.2.2.1 (SC S (seS S w.2.2.1 rr ci).1 (seS S w.2.2.1 rr ci).2) := law_SC hw.2 (se_3 S w.2.2.1 rr ci) hI
    by_cases hx : x < 0 ∨ 3 < x
    · rw [lk_out _ hx] at hcl
      exact st_pf hcl (c_mlook_out w ok _ _ _ x (Or.inr hx)) h1
    · have hx2 : ¬ x < 0 ∧ x ≤ 3 := ⟨fun q => hx (Or.inl q), by
        have a : ¬ 3 < x := fun q => hx (Or.inr q)
        have a := mt Int32.lt_iff_toInt_lt.mpr a
        exact Int32.le_iff_toInt_le.mpr (by omega)⟩
      exact st_pf hcl (c_mlook_in w ok S _ (S 2 0 2) hw (Rm_S (fun kd hk => SC_hi S _ _ (by omega) (by omega)) hI.1) hI.2.2.2.1 hI.2.2.1.1 rr ci hr hci x hx2) (law_MD hw.2 h1)
  · exact st_pf (c_look_out w ok S r c x hc) (c_mlook_out w ok S r c x (Or.inl hc)) hI
theorem st_point (w : pf_W) (ok : pf_ok w) (hw : 1 ≤ w.2.2.1 ∧ w.2.2.1 ≤ 4) (S : pf_S) (hI : LawI w.2.2.1 S) (r c a b : Int32) : StepOK w y_Recv_point b_Recv_point 5 6 141 y_Mod_point b_Mod_point 10 5 117 (some .int) [.int r, .int c, .int a, .int b] S := by
  by_cases hc : isC r c
  · obtain ⟨rr, ci, hr, hci, rfl, rfl⟩ := isC_nat2 hc
    by_cases hp : isP a b
    · have h1 : LawI w.2.2.1 (SC S (seS S w.2.2.1 rr ci).1 (seS S w.2.2.1 rr ci).2) := law_SC hw.2 (se_3 S w.2.2.1 rr ci) hI
      exact st_pf (c_point_in w ok S hw rr ci hr hci a b hp) (c_mpoint_in w ok S _ (S 2 0 2) hw (Rm_S (fun kd hk => SC_hi S _ _ (by omega) (by omega)) hI.1) hI.2.2.2.1 hI.2.2.1.1 rr ci hr hci a b hp) (law_MD hw.2 h1)
    · exact st_pf (c_point_out2 w ok S hw rr ci hr hci a b hp) (c_mpoint_out w ok S _ _ a b (Or.inr hp)) hI
  · exact st_pf (c_point_out w ok S r c a b hc) (c_mpoint_out w ok S r c a b (Or.inl hc)) hI
