/-! The reference: complete, want, shownAt; what of a state is asked where. -/
section PGCEX
variable {z : pg_Z} {y : MethodName} {cc : ByteArray} {nL : Nat} {ret : Option FieldType} {rm : Room} {as : List Value} {Pic : Heap → Prop} {Post Post' : Option Value → Heap → Prop}
theorem pg_C_ex {α : Type} {C : α → Prop} {F : α → Heap → Prop} (h : ∀ a, C a → pg_C z y cc nL ret rm as (F a) Post) : pg_C z y cc nL ret rm as (fun H => ∃ a, C a ∧ F a H) Post := by
  intro l p e h1 h2 h3 s m args below hf ha hP hK
  obtain ⟨q1, q2, a, hc, hF⟩ := hP
  exact h a hc l p e h1 h2 h3 s m args below hf ha ⟨q1, q2, hF⟩ hK
theorem pg_C_post (h : pg_C z y cc nL ret rm as Pic Post) (hp : ∀ r H, Post r H → Post' r H) : pg_C z y cc nL ret rm as Pic Post' := by
  intro l p e h1 h2 h3 s m args below hf ha hP hK
  obtain ⟨n, o, q1, q2, q3, ⟨⟨⟨r, hr, hr2⟩, q4⟩, q5⟩⟩ := h l p e h1 h2 h3 s m args below hf ha hP hK
  exact ⟨n, o, q1, q2, q3, ⟨⟨⟨r, hr, hp _ _ hr2⟩, q4⟩, q5⟩⟩
end PGCEX
/-- an exact contract at every memory of a kind gives one by relation -/
theorem pm_of {w : pf_W} {y : MethodName} {cc : ByteArray} {nL : Nat} {ret : Option FieldType} {d lo : Nat} {as : List Value} {z z2 : Int32} {A A2 S0 : pf_S} {r : Option Value} (h : ∀ S, Rm w.2.2.1 z A S → pm_g S0 S → ∃ S', pf_C w y cc nL ret d lo as S r S' ∧ Rm w.2.2.1 z2 A2 S' ∧ pm_g S0 S') : pm_C w y cc nL ret d lo as z A S0 r z2 A2 :=
  pg_C_ex (fun S hS => by
    obtain ⟨S', hC, hR, hg⟩ := h S hS.1 hS.2
    exact pg_C_post hC (fun r' H hr => ⟨hr.1, S', ⟨hR, hg⟩, hr.2⟩))
theorem pgk13 {P k : Nat} (hP : P ≤ 4) (h : pgk P k) : k < 13 := by
  rcases h with h | h <;> omega
theorem c_copyR (w : pf_W) (ok : pf_ok w) (A S0 : pf_S) (z : Int32) (hw : 1 ≤ w.2.2.1 ∧ w.2.2.1 ≤ 4) (f t : Nat) (hf : pgk w.2.2.1 f) (ht : pgk w.2.2.1 t) (hne : f ≠ t) : pm_C w y_Mod_copy b_Mod_copy 4 none 0 0 [.ref (w.2.1 20 0), .int (nI f), .int (nI t)] z A S0 none z (cpQ A f t) :=
  pm_of (fun S hR hg => ⟨mcp S f t, c_Mod_copy w ok S f t (pgk13 hw.2 hf) (pgk13 hw.2 ht) hne, mcp_Rm hR hf hne, mcp_g hg⟩)
/-- all of the letters, overlays and links of page t as a new page has them -/
def blP (A : pf_S) (t : Nat) : pf_S := pf_rw (pf_rw (pf_rw A 15 t (filTo (A 15 t) 32 160)) 16 t (filTo (A 16 t) 0 160)) 17 t (filTo (A 17 t) (-1) 4)
theorem c_blankR (w : pf_W) (ok : pf_ok w) (A S0 : pf_S) (z : Int32) (t : Nat) (ht : t < 13) : pm_C w y_Mod_blank b_Mod_blank 3 none 0 0 [.ref (w.2.1 20 0), .int (nI t)] z A S0 none z (blP A t) :=
  pm_of (fun S hR hg => ⟨_, c_Mod_blank w ok S t ht, bl_Rm hR, bl_g hg⟩)
theorem fnd_cong {A B : pf_S} (h : ∀ k, 8 ≤ k → A 14 k = B 14 k) (num : Int32) : ∀ n j, fndFrom A num n j = fndFrom B num n j := by
  intro n
  induction n with
  | zero => intro j; rfl
  | succ n ih => intro j; rw [fndFrom, fndFrom, ih, h (8 + j) (by omega)]
theorem fre_cong {A B : pf_S} (h : ∀ k, 8 ≤ k → A 14 k = B 14 k) : ∀ n j, freFrom A n j = freFrom B n j := by
  intro n
  induction n with
  | zero => intro j; rfl
  | succ n ih => intro j; rw [freFrom, freFrom, ih, h (8 + j) (by omega)]
theorem old_cong {A B : pf_S} (h : ∀ k, 8 ≤ k → A 14 k = B 14 k) (wt : Int32) : ∀ n j b, 8 ≤ b → oldFrom A wt n j b = oldFrom B wt n j b := by
  intro n
  induction n with
  | zero => intro j b _; rfl
  | succ n ih =>
    intro j b hb
    rw [oldFrom, oldFrom, h (8 + j) (by omega), h b hb]
    split
    · exact ih _ _ (by omega)
    · exact ih _ _ hb
theorem plc_cong {A B : pf_S} (h : ∀ k, 8 ≤ k → A 14 k = B 14 k) (P : Nat) (num wt : Int32) : plcF A P num wt = plcF B P num wt := by
  unfold plcF fndF oldF
  rw [fnd_cong h, fre_cong h, old_cong h _ _ _ _ (by omega)]
theorem Uq_cong {A B : pf_S} {P : Nat} (h : ∀ k, 8 ≤ k → A 14 k = B 14 k) (hu : Uq A P) : Uq B P := by
  intro i j h1 h2 h3 h4 h5 h6 h7
  rw [← h i h1] at h5 h7
  rw [← h j h3] at h6 h7
  exact hu i j h1 h2 h3 h4 h5 h6 h7
/-- what 'complete' does to the state -/
def cmF (A : pf_S) (P m : Nat) : pf_S := if nb (A 14 m 0) = 0 then A else cmpF A P m (A 6 0 2)
theorem st14_hi {A : pf_S} {m : Nat} {v : Int32} {c : Nat} (hm : m < 8) : ∀ k, 8 ≤ k → pf_st A 14 m c v 14 k = A 14 k := fun k hk => by
  funext j
  rw [pf_st_at, if_neg (by omega)]

set_option maxRecDepth 100000 in
set_option maxHeartbeats 4000000 in
theorem c_Mod_complete (w : pf_W) (ok : pf_ok w) (A S0 : pf_S) (z : Int32) (hw : 1 ≤ w.2.2.1 ∧ w.2.2.1 ≤ 4) (m : Nat) (hm : m < 8) (hu : Uq A w.2.2.1) : pm_C w y_Mod_complete b_Mod_complete 3 none 2 47 [.ref (w.2.1 20 0), .int (nI m)] z (A) S0 (none) z (cmF A w.2.2.1 m) := by
  refine pm_enter (by decide) (Nat.le_of_ble_eq_true rfl) (lv0 := [some (.ref (w.2.1 20 0)), some (.int (nI m)), none]) rfl (fun κ S h hR hg => ?_)
  have hp := hR.2.2.2.2.2 m (Or.inl (by omega))
  by_cases h0 : nb (A 14 m 0) = 0
  · skip
    refine pg_aload_n h d_Mod_complete_0 rfl ?_
    refine pf_get h ok d_Mod_complete_1 f_Mod_7 (by first | rfl | exact hk | exact hk2 | exact dm12 _ | assumption) rfl rfl ?_
    refine pg_iload_n h d_Mod_complete_4 rfl ?_
    refine pf_zld h ok d_Mod_complete_5 (by first | rfl | exact hk | exact hk2 | exact dm12 _ | assumption) rfl (pg_ixN rfl (show m < 13 by omega) (by decide)) ?_
    rw [hp.1]
    refine pg_if_ne (tgt := 10) h d_Mod_complete_6 rfl (fun e6 => absurd e6 (fun q => q h0)) (fun e6 => ?_)
    exact pm_vret h d_Mod_complete_9 (by rw [cmF, if_pos h0]; exact hR) (hg)
  have hcg := st14_hi (A := A) (m := m) (v := 0) (c := 0) hm
  have ep : plcF (pf_st A 14 m 0 0) w.2.2.1 (A 14 m 1) (pf_st A 14 m 0 0 6 0 2) = plcF A w.2.2.1 (A 14 m 1) (A 6 0 2) := plc_cong hcg _ _ _
  have hq := plcF_in (S := A) (num := A 14 m 1) (wt := A 6 0 2) hw.1
  refine pg_aload_n h d_Mod_complete_0 rfl ?_
  refine pf_get h ok d_Mod_complete_1 f_Mod_7 (by first | rfl | exact hk | exact hk2 | exact dm12 _ | assumption) rfl rfl ?_
  refine pg_iload_n h d_Mod_complete_4 rfl ?_
  refine pf_zld h ok d_Mod_complete_5 (by first | rfl | exact hk | exact hk2 | exact dm12 _ | assumption) rfl (pg_ixN rfl (show m < 13 by omega) (by decide)) ?_
  rw [hp.1]
  refine pg_if_ne (tgt := 10) h d_Mod_complete_6 rfl (fun e6 => ?_) (fun e6 => absurd e6 h0)
  refine pg_aload_n h d_Mod_complete_10 rfl ?_
  refine pf_get h ok d_Mod_complete_11 f_Mod_7 (by first | rfl | exact hk | exact hk2 | exact dm12 _ | assumption) rfl rfl ?_
  refine pg_iload_n h d_Mod_complete_14 rfl ?_
  refine pg_iconst (v := 0) h d_Mod_complete_15 (by decide) ?_
  refine pf_zst 0 h ok d_Mod_complete_16 (by first | rfl | exact hk | exact hk2 | exact dm12 _ | assumption) (fun _ => rfl) (pg_ixN rfl (show m < 13 by omega) (by decide)) ?_
  refine pg_aload_n h d_Mod_complete_17 rfl ?_
  refine pg_aload_n h d_Mod_complete_18 rfl ?_
  refine pf_get h ok d_Mod_complete_19 f_Mod_13 (by first | rfl | exact hk | exact hk2 | exact dm12 _ | assumption) rfl rfl ?_
  refine pg_iload_n h d_Mod_complete_22 rfl ?_
  refine pf_ild h ok d_Mod_complete_23 (by first | rfl | exact hk | exact hk2 | exact dm12 _ | assumption) rfl (pg_ixN rfl (show m < 13 by omega) (by decide)) ?_
  rw [show pf_st S 21 0 m 0 22 0 m = A 14 m 1 from hp.2.1]
  refine pm_cV h ok (hR.thr rfl) (hg.st (by decide)) d_Mod_complete_24 m_Mod_placeFor l_Mod_83 (c_Mod_placeFor w ok (pf_st A 14 m 0 0) S0 z hw (A 14 m 1) (Uq_cong (fun k hk => (hcg k hk).symm) hu)) rfl rfl rfl (Nat.le_of_ble_eq_true rfl) ⟨(Nat.le_of_ble_eq_true rfl), (Nat.le_of_ble_eq_true rfl)⟩ ⟨Nat.le_refl _, Nat.le_refl _⟩ (fun S24 hR24 hg24 => ?_)
  rw [ep]
  refine pg_istore_n h d_Mod_complete_27 (Nat.le_of_ble_eq_true rfl) rfl rfl ?_
  refine pg_aload_n h d_Mod_complete_28 rfl ?_
  refine pg_iload_n h d_Mod_complete_29 rfl ?_
  refine pg_iload_n h d_Mod_complete_30 rfl ?_
  refine pm_cV0 h ok (hR24) (hg24) d_Mod_complete_31 m_Mod_copy l_Mod_86 (c_copyR w ok (pf_st A 14 m 0 0) S0 z hw m (plcF A w.2.2.1 (A 14 m 1) (A 6 0 2)) (Or.inl (by omega)) (Or.inl (by omega)) (by omega)) rfl rfl rfl (Nat.le_of_ble_eq_true rfl) ⟨(Nat.le_of_ble_eq_true rfl), (Nat.le_of_ble_eq_true rfl)⟩ ⟨Nat.le_refl _, Nat.le_refl _⟩ (fun S31 hR31 hg31 => ?_)
  refine pg_aload_n h d_Mod_complete_34 rfl ?_
  refine pf_get h ok d_Mod_complete_35 f_Mod_23 (by first | rfl | exact hk | exact hk2 | exact dm12 _ | assumption) rfl rfl ?_
  refine pg_iload_n h d_Mod_complete_38 rfl ?_
  refine pg_aload_n h d_Mod_complete_39 rfl ?_
  refine pf_get h ok d_Mod_complete_40 f_Mod_41 (by first | rfl | exact hk | exact hk2 | exact dm12 _ | assumption) rfl rfl ?_
  refine pg_iconst (v := 5) h d_Mod_complete_43 (by decide) ?_
  refine pf_ild h ok d_Mod_complete_44 (by first | rfl | exact hk | exact hk2 | exact dm12 _ | assumption) rfl (pg_ixN (j := 5) rfl (by decide) (by decide)) ?_
  refine pf_ist h ok d_Mod_complete_45 (by first | rfl | exact hk | exact hk2 | exact dm12 _ | assumption) (fun _ => rfl) (pg_ixN rfl (show plcF A w.2.2.1 (A 14 m 1) (A 6 0 2) < 13 by omega) (by decide)) ?_
  refine pg_aload_n h d_Mod_complete_46 rfl ?_
  refine pf_get h ok d_Mod_complete_47 f_Mod_41 (by first | rfl | exact hk | exact hk2 | exact dm12 _ | assumption) rfl rfl ?_
  refine pg_iconst (v := 5) h d_Mod_complete_50 (by decide) ?_
  refine pg_dup2 h d_Mod_complete_51 rfl rfl ?_
  refine pf_ild h ok d_Mod_complete_52 (by first | rfl | exact hk | exact hk2 | exact dm12 _ | assumption) rfl (pg_ixN (j := 5) rfl (by decide) (by decide)) ?_
  refine pg_iconst (v := 1) h d_Mod_complete_53 (by decide) ?_
  refine pg_iadd h d_Mod_complete_54 ?_
  refine pf_ist h ok d_Mod_complete_55 (by first | rfl | exact hk | exact hk2 | exact dm12 _ | assumption) (fun _ => rfl) (pg_ixN (j := 5) rfl (by decide) (by decide)) ?_
  exact pm_vret h d_Mod_complete_56 (by
    have q := (hR31.bef (k := plcF A w.2.2.1 (A 14 m 1) (A 6 0 2)) (v := S31 31 0 5)).cnt (j := 5) (v := S31 31 0 5 + 1)
    refine q.cong ?_
    have c5 := hR31.2.1 5 (by decide)
    rw [cmF, if_neg h0, cmpF]
    have hne : plcF A w.2.2.1 (A 14 m 1) (A 6 0 2) ≠ m := by omega
    generalize plcF A w.2.2.1 (A 14 m 1) (A 6 0 2) = p at *
    have c6 : S31 31 0 5 = A 1 0 5 := by rw [c5]; simp [cpQ, cpP, pf_st_at]
    rw [c6]
    constructor
    · intro a b c hac
      simp only [pf_st_at, cpQ, cpP]
      grind (splits := 40)
    · intro b
      have h1 := nb_ne h0
      simp only [pf_st_at, cpQ, cpP]
      by_cases hb : b = p
      · subst hb
        simp [hne, h1, nb_1]
      · by_cases hb2 : b = m
        · subst hb2
          simp [hb]
        · simp [hb, hb2]) ((hg31.st (by decide)).st (by decide))

set_option maxRecDepth 100000 in
set_option maxHeartbeats 4000000 in
theorem c_Mod_drop (w : pf_W) (ok : pf_ok w) (A S0 : pf_S) (z : Int32)  : pm_C w y_Mod_drop b_Mod_drop 1 none 0 0 [.ref (w.2.1 20 0)] z (A) S0 (none) z (drp A) := by
  refine pm_enter (by decide) (Nat.le_of_ble_eq_true rfl) (lv0 := [some (.ref (w.2.1 20 0))]) rfl (fun κ S h hR hg => ?_)
  refine pg_aload_n h d_Mod_drop_0 rfl ?_
  refine pf_get h ok d_Mod_drop_1 f_Mod_41 (by first | rfl | exact hk | exact hk2 | exact dm12 _ | assumption) rfl rfl ?_
  refine pg_iconst (v := 1) h d_Mod_drop_4 (by decide) ?_
  refine pg_dup2 h d_Mod_drop_5 rfl rfl ?_
  refine pf_ild h ok d_Mod_drop_6 (by first | rfl | exact hk | exact hk2 | exact dm12 _ | assumption) rfl (pg_ixN (j := 1) rfl (by decide) (by decide)) ?_
  refine pg_iconst (v := 1) h d_Mod_drop_7 (by decide) ?_
  refine pg_iadd h d_Mod_drop_8 ?_
  refine pf_ist h ok d_Mod_drop_9 (by first | rfl | exact hk | exact hk2 | exact dm12 _ | assumption) (fun _ => rfl) (pg_ixN (j := 1) rfl (by decide) (by decide)) ?_
  exact pm_vret h d_Mod_drop_10 (by rw [drp, hR.2.1 1 (by decide)]; exact hR.cnt) (hg.st (by decide))

set_option maxRecDepth 100000 in
set_option maxHeartbeats 4000000 in
theorem c_Mod_want (w : pf_W) (ok : pf_ok w) (A S0 : pf_S) (z : Int32) (num : Int32) : pm_C w y_Mod_want b_Mod_want 2 none 0 0 [.ref (w.2.1 20 0), .int num] z (A) S0 (none) z (wntF A num) := by
  refine pm_enter (by decide) (Nat.le_of_ble_eq_true rfl) (lv0 := [some (.ref (w.2.1 20 0)), some (.int num)]) rfl (fun κ S h hR hg => ?_)
  refine pg_aload_n h d_Mod_want_0 rfl ?_
  refine pg_iload_n h d_Mod_want_1 rfl ?_
  refine pf_puti h ok d_Mod_want_2 fw_Mod_44 (by first | rfl | exact hk | exact hk2 | exact dm12 _ | assumption) rfl (Nat.le_of_ble_eq_true rfl) rfl ?_
  refine pg_aload_n h d_Mod_want_5 rfl ?_
  refine pf_get h ok d_Mod_want_6 f_Mod_7 (by first | rfl | exact hk | exact hk2 | exact dm12 _ | assumption) rfl rfl ?_
  refine pg_bipush (v := 12) h d_Mod_want_9 (by decide) ?_
  refine pg_iconst (v := 0) h d_Mod_want_11 (by decide) ?_
  refine pf_zst 0 h ok d_Mod_want_12 (by first | rfl | exact hk | exact hk2 | exact dm12 _ | assumption) (fun _ => rfl) (pg_ixN (j := 12) rfl (by decide) (by decide)) ?_
  refine pg_aload_n h d_Mod_want_13 rfl ?_
  refine pg_iconst (v := 0) h d_Mod_want_14 (by decide) ?_
  refine pf_putz 0 h ok d_Mod_want_15 fw_Mod_135 (by first | rfl | exact hk | exact hk2 | exact dm12 _ | assumption) rfl (Nat.le_of_ble_eq_true rfl) rfl ?_
  exact pm_vret h d_Mod_want_18 (((hR.wnt).thr rfl).rev rfl) (((hg.st (by decide)).st (by decide)).st (by decide))

set_option maxRecDepth 100000 in
set_option maxHeartbeats 4000000 in
theorem c_Mod_shownAt (w : pf_W) (ok : pf_ok w) (A S0 : pf_S) (z : Int32) (hw : 1 ≤ w.2.2.1 ∧ w.2.2.1 ≤ 4) : pm_C w y_Mod_shownAt b_Mod_shownAt 1 (some .int) 1 22 [.ref (w.2.1 20 0)] z (A) S0 (some (.int (kpV (shnF A w.2.2.1)))) z (A) := by
  refine pm_enter (by decide) (Nat.le_of_ble_eq_true rfl) (lv0 := [some (.ref (w.2.1 20 0))]) rfl (fun κ S h hR hg => ?_)
  refine pg_aload_n h d_Mod_shownAt_0 rfl ?_
  refine pf_get h ok d_Mod_shownAt_1 f_Mod_7 (by first | rfl | exact hk | exact hk2 | exact dm12 _ | assumption) rfl rfl ?_
  refine pg_bipush (v := 12) h d_Mod_shownAt_4 (by decide) ?_
  refine pf_zld h ok d_Mod_shownAt_6 (by first | rfl | exact hk | exact hk2 | exact dm12 _ | assumption) rfl (pg_ixN (j := 12) rfl (by decide) (by decide)) ?_
  rw [(hR.2.2.2.2.2 12 (Or.inr rfl)).1]
  refine pg_if_eq (tgt := 15) h d_Mod_shownAt_7 rfl (fun e7 => ?_) (fun e7 => ?_)
  · skip
    refine pg_aload_n h d_Mod_shownAt_15 rfl ?_
    refine pg_aload_n h d_Mod_shownAt_16 rfl ?_
    refine pf_get h ok d_Mod_shownAt_17 f_Mod_44 (by first | rfl | exact hk | exact hk2 | exact dm12 _ | assumption) rfl rfl ?_
    rw [hR.2.2.2.1.1]
    refine pm_cV h ok (hR) (hg) d_Mod_shownAt_20 m_Mod_keptAt l_Mod_80 (c_Mod_keptAt w ok A S0 z hw (A 6 0 2)) rfl rfl rfl (Nat.le_of_ble_eq_true rfl) ⟨(Nat.le_of_ble_eq_true rfl), (Nat.le_of_ble_eq_true rfl)⟩ ⟨Nat.le_refl _, Nat.le_refl _⟩ (fun S20 hR20 hg20 => ?_)
    first
      | exact pm_iret h d_Mod_shownAt_23 rfl (by rw [shnF, if_neg e7]; rfl) hR hg
      | exact pm_iret h d_Mod_shownAt_23 rfl (by rw [shnF, if_pos e7]) hR20 hg20--end
  refine pg_bipush (v := 12) h d_Mod_shownAt_10 (by decide) ?_
  refine pg_goto (tgt := 23) h d_Mod_shownAt_12 rfl ?_
  first
    | exact pm_iret h d_Mod_shownAt_23 rfl (by rw [shnF, if_neg e7]; rfl) hR hg
    | exact pm_iret h d_Mod_shownAt_23 rfl (by rw [shnF, if_pos e7]) hR20 hg20--end
