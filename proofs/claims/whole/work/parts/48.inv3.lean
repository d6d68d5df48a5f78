/-! Invariants of the pages along takeHeader, takePacket, a byte fed. -/
theorem GI_rh {P : Nat} : ∀ (n i : Nat) (S : pf_S), GI S P → GI (rhFrom n i S).2 P := by
  have st : ∀ (i : Nat) (S : pf_S), GI S P → GI (rhS i S) P := fun i S h => GI_st (GI_nib h) (by decide) (by decide) (by decide)
  intro n
  induction n with
  | zero => intro i S h; exact h
  | succ n ih =>
    intro i S h
    rw [rhFrom]
    split
    · exact st i S h
    · exact ih _ _ (st i S h)
theorem GI_thd {S : pf_S} {P m : Nat} (hb : ByI S) (h : GI S P) : GI (thdF S P m) P := by
  have k3 : Kp 3 := ⟨by decide, by decide, by decide, by decide⟩
  have hr : GI (rhF S).2 P := GI_rh 6 0 S h
  have h1 : GI (hd1 (rhF S).2 P m) P := GI_cc hr 8 (Nat.le_refl _)
  have e1 : hd1 (rhF S).2 P m 3 = S 3 := by rw [hd1, ccF_lo _ _ _ _ (by decide) (by decide)]; exact rhF_K k3 _ _ _
  unfold thdF
  split
  · exact GI_st hr (by decide) (by decide) (by decide)
  · rw [hd2]
    refine GI_th ?_ ?_ 12 (Nat.le_refl _)
    · split
      · intro i hi
        rw [e1]
        exact hb i hi
      · intro i hi
        rw [bpF_K _ _ _ (by decide), e1]
        exact hb i hi
    · split
      · exact h1
      · exact GI_bp h1
theorem GI_tp {S : pf_S} {P : Nat} (hb : ByI S) (h : GI S P) : GI (tpF S P) P := by
  have h0 : GI (tp0 S) P := GI_st h (by decide) (by decide) (by decide)
  have h1 : GI (tp1 S) P := GI_nib h0
  have h2 : GI (tp2 S) P := GI_nib h1
  have hb2 : ByI (tp2 S) := fun i hi => by rw [tp2_keep _ (by decide)]; exact hb i hi
  unfold tpF
  cases nibD (S 3 0 0) with
  | none => exact GI_st h1 (by decide) (by decide) (by decide)
  | some d0 =>
    cases nibD (S 3 0 1) with
    | none => exact GI_st h2 (by decide) (by decide) (by decide)
    | some d1 =>
      show GI (if d0 / 8 + 2 * d1 = 0 then thdF (tp2 S) P (d0 % 8) else if nb (tp2 S 14 (d0 % 8) 0) = 0 then tp2 S else twF (d0 % 8) (nI (d0 % 8)) (tp2 S) (d0 / 8 + 2 * d1)) P
      split
      · exact GI_thd hb2 h2
      · split
        · exact h2
        · unfold twF
          split
          · exact GI_tl hb2 h2 20 (Nat.le_refl _)
          · split
            · exact GI_to h2 6
            · split
              · exact GI_tk (by omega) h2 4
              · exact h2
theorem GI_fd {A : pf_S} {P b : Nat} (hb : b < 256) (hy : ByI A) (h : GI A P) : GI (fdS P (nI b) A) P := by
  have hp : GI (ptF A (nI b)) P := GI_st (GI_st h (by decide) (by decide) (by decide)) (by decide) (by decide) (by decide)
  unfold fdS
  split
  · exact GI_st (GI_tp (ByI_pt hb hy) hp) (by decide) (by decide) (by decide)
  · exact hp
/-- kinds 6 and 12 are not touched by a byte fed -/
theorem fdS_6 (P : Nat) (v : Int32) (A : pf_S) : fdS P v A 6 = A 6 ∧ fdS P v A 12 = A 12 := by
  have k6 : Kp 6 := ⟨by decide, by decide, by decide, by decide⟩
  have k12 : Kp 12 := ⟨by decide, by decide, by decide, by decide⟩
  have p : ∀ a, ¬ a = 2 → ¬ a = 3 → ptF A v a = A a := fun a h2 h3 => by rw [ptF, st_K h2, st_K h3]
  unfold fdS
  split
  · exact ⟨by rw [st_K (by decide), tpF_K _ _ k6 (by decide), p 6 (by decide) (by decide)], by rw [st_K (by decide), tpF_K _ _ k12 (by decide), p 12 (by decide) (by decide)]⟩
  · exact ⟨p 6 (by decide) (by decide), p 12 (by decide) (by decide)⟩
