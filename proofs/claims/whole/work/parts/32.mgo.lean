/-! The reference: a row drawn (go), the row asked for (goTo), look and point. -/
def gD (A : pf_S) (o : Option Nat) (r x : Nat) : Nat → Int32 := (drF A o r (bgG (A 13 0)) (A 12 0) x).1
def uD (A : pf_S) (o : Option Nat) (r x : Nat) : Nat → Int32 := (drF A o r (bgG (A 13 0)) (A 12 0) x).2
theorem gD_s (A : pf_S) (o : Option Nat) (r x : Nat) : gD A o r (x + 1) = dcG A o r x (gD A o r x) := rfl
theorem uD_s (A : pf_S) (o : Option Nat) (r x : Nat) : uD A o r (x + 1) = dcU A o r x (gD A o r x) (uD A o r x) := rfl
noncomputable def goF (A S : pf_S) (o : Option Nat) (r : Nat) (F : Nat → Nat → Int32) : Nat → Nat → Nat → Int32
  | 0 => F
  | x + 1 => if 32 ≤ ltV A o r x then nlF (goF A S o r F x) (gD A o r x) (lgV r) (S 20 0 17) (S 20 0 18) x (ltV A o r x) (stV A o) else nmF (goF A S o r F x) (onG (gD A o r x) (ltV A o r x)) (lgV r) (S 20 0 17) (S 20 0 18) x
/-- the states while cell x is noted -/
def g6 (A : pf_S) (o : Option Nat) (r x : Nat) : Nat → Int32 := if 32 ≤ ltV A o r x then dlG (gD A o r x) (ltV A o r x) (ovV A o r x) else onG (gD A o r x) (ltV A o r x)
def gaV (A : pf_S) (o : Option Nat) (r : Nat) : Nat → Int32
  | 0 => 0
  | x + 1 => if ¬ gaV A o r x = 0 ∨ ¬ nb (g6 A o r x 6) = 0 then 1 else 0
theorem nlF_o (F : Nat → Nat → Int32) (g : Nat → Int32) (r x : Nat) (rv lt c s : Int32) {a y : Nat} (h : y ≠ x ∨ a < 34) : nlF F g (lgV r) rv lt x c s a y = F a y := (cell_let (rv := rv) (u := fun _ => lt) (g := g) (F := F) (r := r) (x := x) c s rfl rfl).2 a y h
theorem nmF_o (F : Nat → Nat → Int32) (g : Nat → Int32) (r x : Nat) (rv lt : Int32) {a y : Nat} (h : y ≠ x ∨ a < 34) : nmF F g (lgV r) rv lt x a y = F a y := (cell_mark (rv := rv) (u := fun _ => lt) (g := g) (F := F) (r := r) (x := x) rfl rfl).2 a y h
theorem nt4_hi (F : Nat → Nat → Int32) (g : Nat → Int32) (x : Nat) (sn sm : Int32) {a : Nat} (h : 37 < a) : nt4 F g x sn sm a = F a := by
  simp [nt4, nt3, show ¬ a = 37 by omega, show ¬ a = 36 by omega, show ¬ a = 35 by omega, show ¬ a = 34 by omega]
theorem goF_hi (A S : pf_S) (o : Option Nat) (r : Nat) (F : Nat → Nat → Int32) : ∀ n {a : Nat}, 37 < a → goF A S o r F n a = F a := by
  intro n
  induction n with
  | zero => intro a h; rfl
  | succ n ih =>
    intro a h
    rw [goF]
    split
    · unfold nlF
      split
      · rw [nt4_hi _ _ _ _ _ h, ih h]
      · split
        · rw [nt4_hi _ _ _ _ _ h, ih h]
        · rw [nt4_hi _ _ _ _ _ h, ih h]
    · unfold nmF
      split
      · rw [nt4_hi _ _ _ _ _ h, ih h]
      · rw [nt4_hi _ _ _ _ _ h, ih h]
theorem goF_o (A S : pf_S) (o : Option Nat) (r : Nat) (F : Nat → Nat → Int32) : ∀ n {a y : Nat}, (n ≤ y ∨ a < 34) → goF A S o r F n a y = F a y := by
  intro n
  induction n with
  | zero => intro a y h; rfl
  | succ n ih =>
    intro a y h
    rw [goF]
    split
    · rw [nlF_o _ _ _ _ _ _ _ _ (by omega), ih (by omega)]
    · rw [nmF_o _ _ _ _ _ _ (by omega), ih (by omega)]
theorem uD_3 (A : pf_S) (o : Option Nat) (r : Nat) : ∀ n, uD A o r n 3 = A 12 0 3 := by
  intro n
  induction n with
  | zero => rfl
  | succ n ih =>
    rw [uD_s, dcU]
    split
    · exact ((cell_let (rv := A 6 0 6) (rv2 := A 6 0 6) (lt := uD A o r n 3) (g := gD A o r n) (u := uD A o r n) (F := fun _ _ => ovV A o r n) (r := r) (x := n) (ltV A o r n) (stV A o) rfl rfl).1.2.2.2.2).trans ih
    · exact ((cell_mark (rv := A 6 0 6) (rv2 := A 6 0 6) (lt := uD A o r n 3) (g := onG (gD A o r n) (ltV A o r n)) (u := uD A o r n) (F := fun _ _ => ovV A o r n) (r := r) (x := n) rfl rfl).1.2.2.2.2).trans ih
theorem goF_val {A S : pf_S} {o : Option Nat} {r : Nat} {F : Nat → Nat → Int32} (h1 : nb (S 20 0 17) = nb (A 6 0 6)) (h2 : nb (S 20 0 18) = nb (A 12 0 3)) (hF : ∀ j, j < 20 → F 33 j = ovV A o r j) : ∀ n, n ≤ 20 → ∀ j, j < n → goF A S o r F n 34 j = uD A o r (j + 1) 4 ∧ goF A S o r F n 35 j = uD A o r (j + 1) 5 ∧ goF A S o r F n 36 j = uD A o r (j + 1) 6 ∧ goF A S o r F n 37 j = uD A o r (j + 1) 7 := by
  intro n
  induction n with
  | zero => intro _ j hj; omega
  | succ n ih =>
    intro hn j hj
    by_cases hjn : j = n
    · subst hjn
      have h2' : nb (S 20 0 18) = nb (uD A o r j 3) := by rw [uD_3]; exact h2
      have e33 : goF A S o r F j 33 j = ovV A o r j := (goF_o A S o r F j (Or.inr (by decide))).trans (hF j (by omega))
      rw [uD_s, dcU, goF]
      by_cases hc : 32 ≤ ltV A o r j
      · simp only [if_pos hc]
        have q := (cell_let (g := gD A o r j) (u := uD A o r j) (F := goF A S o r F j) (r := r) (x := j) (ltV A o r j) (stV A o) h1 h2').1
        rw [e33] at q
        exact ⟨q.1, q.2.1, q.2.2.1, q.2.2.2.1⟩
      · simp only [if_neg hc]
        have q := (cell_mark (g := onG (gD A o r j) (ltV A o r j)) (u := uD A o r j) (F := goF A S o r F j) (r := r) (x := j) h1 h2').1
        exact ⟨q.1, q.2.1, q.2.2.1, q.2.2.2.1⟩
    · have q := ih (by omega) j (by omega)
      rw [goF]
      by_cases hc : 32 ≤ ltV A o r n
      · simp only [if_pos hc]
        rw [nlF_o _ _ _ _ _ _ _ _ (Or.inl hjn), nlF_o _ _ _ _ _ _ _ _ (Or.inl hjn), nlF_o _ _ _ _ _ _ _ _ (Or.inl hjn), nlF_o _ _ _ _ _ _ _ _ (Or.inl hjn)]
        exact q
      · simp only [if_neg hc]
        rw [nmF_o _ _ _ _ _ _ (Or.inl hjn), nmF_o _ _ _ _ _ _ (Or.inl hjn), nmF_o _ _ _ _ _ _ (Or.inl hjn), nmF_o _ _ _ _ _ _ (Or.inl hjn)]
        exact q
/-- the rows of cells after go r -/
def fnF (A : pf_S) (o : Option Nat) (r : Nat) (F : Nat → Nat → Int32) : Nat → Nat → Int32 := fun a x => if x < 20 then (if a = 32 then ltV A o r x else if a = 33 then ovV A o r x else if a = 34 then uD A o r (x + 1) 4 else if a = 35 then uD A o r (x + 1) 5 else if a = 36 then uD A o r (x + 1) 6 else if a = 37 then uD A o r (x + 1) 7 else F a x) else F a x
theorem ftA_o (A : pf_S) (o : Option Nat) (r : Nat) (F : Nat → Nat → Int32) {a x : Nat} (h : 20 ≤ x ∨ a < 32) : ftA A o r F a x = F a x := by
  unfold ftA
  split
  · rcases h with h | h
    · simp [fhF, ftF, show ¬ x < 4 by omega, show ¬ x < 8 by omega, show ¬ x < 20 by omega]
    · simp [fhF, ftF, show ¬ a = 32 by omega, show ¬ a = 33 by omega]
  · rcases h with h | h
    · simp [ftF, show ¬ x < 20 by omega]
    · simp [ftF, show ¬ a = 32 by omega, show ¬ a = 33 by omega]
theorem goF_fn {A S : pf_S} {o : Option Nat} {r : Nat} {F : Nat → Nat → Int32} (h1 : nb (S 20 0 17) = nb (A 6 0 6)) (h2 : nb (S 20 0 18) = nb (A 12 0 3)) : goF A S o r (ftA A o r F) 20 = fnF A o r F := by
  funext a x
  unfold fnF
  by_cases hx : x < 20
  · rw [if_pos hx]
    obtain ⟨p1, p2, p3, p4⟩ := goF_val (o := o) (r := r) (F := ftA A o r F) h1 h2 (fun j hj => ftA_33 A o r F hj) 20 (Nat.le_refl _) x hx
    by_cases ha : a = 32
    · subst ha; rw [if_pos rfl, goF_o _ _ _ _ _ _ (Or.inr (by decide)), ftA_32 _ _ _ _ hx]
    by_cases hb : a = 33
    · subst hb; rw [if_neg (by decide), if_pos rfl, goF_o _ _ _ _ _ _ (Or.inr (by decide)), ftA_33 _ _ _ _ hx]
    rw [if_neg ha, if_neg hb]
    by_cases h4 : a = 34
    · subst h4; rw [if_pos rfl, p1]
    by_cases h5 : a = 35
    · subst h5; rw [if_neg h4, if_pos rfl, p2]
    by_cases h6 : a = 36
    · subst h6; rw [if_neg h4, if_neg h5, if_pos rfl, p3]
    by_cases h7 : a = 37
    · subst h7; rw [if_neg h4, if_neg h5, if_neg h6, if_pos rfl, p4]
    rw [if_neg h4, if_neg h5, if_neg h6, if_neg h7]
    by_cases hl : a < 32
    · rw [goF_o _ _ _ _ _ _ (Or.inr (by omega)), ftA_o _ _ _ _ (Or.inr hl)]
    · rw [goF_hi _ _ _ _ _ _ (by omega), ftA_hi _ _ _ _ (by omega)]
  · rw [if_neg hx, goF_o _ _ _ _ _ _ (Or.inl (by omega)), ftA_o _ _ _ _ (Or.inl (by omega))]
theorem fnF_fn (A : pf_S) (o : Option Nat) (r : Nat) {F F2 : Nat → Nat → Int32} (h : ∀ a x, (20 ≤ x ∨ a < 32 ∨ 37 < a) → F2 a x = F a x) : fnF A o r F2 = fnF A o r F := by
  funext a x
  unfold fnF
  by_cases hx : x < 20
  · rw [if_pos hx, if_pos hx]
    by_cases ha : a < 32 ∨ 37 < a
    · rw [h a x (Or.inr ha)]
    · rcases (show a = 32 ∨ a = 33 ∨ a = 34 ∨ a = 35 ∨ a = 36 ∨ a = 37 by omega) with rfl | rfl | rfl | rfl | rfl | rfl <;> rfl
  · rw [if_neg hx, if_neg hx, h a x (Or.inl (by omega))]
theorem fnF_out (A : pf_S) (o : Option Nat) (r : Nat) (F : Nat → Nat → Int32) {a x : Nat} (h : 20 ≤ x ∨ a < 32 ∨ 37 < a) : fnF A o r F a x = F a x := by
  unfold fnF
  by_cases hx : x < 20
  · rw [if_pos hx, if_neg (by omega), if_neg (by omega), if_neg (by omega), if_neg (by omega), if_neg (by omega), if_neg (by omega)]
  · rw [if_neg hx]
theorem dlG_6 (g : Nat → Int32) (t ov : Int32) : dlG g t ov 6 = g 6 := by
  unfold dlG
  split <;> rfl
theorem onG_6 (g : Nat → Int32) (m : Int32) : onG g m 6 = if m = 12 then 0 else g 6 := by
  unfold onG
  by_cases h9 : m = 9
  · subst h9; rw [if_pos rfl, if_neg (by decide)]; rfl
  rw [if_neg h9]
  by_cases h12 : m = 12
  · rw [if_pos h12, if_pos h12]; rfl
  rw [if_neg h12, if_neg h12]
  split
  · rfl
  split
  · rfl
  split
  · rfl
  split
  · rfl
  split
  · rfl
  split
  · rfl
  rfl
theorem tcG_6 (g : Nat → Int32) (c b : Int32) : tcG g c b 6 = g 6 := by
  unfold tcG tmG
  split <;> rfl
theorem afG_6 (g : Nat → Int32) (m : Int32) : afG g m 6 = if m = 13 then 1 else g 6 := by
  unfold afG
  by_cases h7 : ¬ 7 < m
  · rw [if_pos h7, if_neg (fun q => h7 (by rw [q]; decide)), tcG_6]
  rw [if_neg h7]
  by_cases h16 : ¬ m < 16 ∧ ¬ 23 < m
  · rw [if_pos h16, if_neg (fun q => h16.1 (by rw [q]; decide)), tcG_6]
  rw [if_neg h16]
  by_cases h13 : m = 13
  · subst h13; rfl
  rw [if_neg h13, if_neg h13]
  split
  · rfl
  split
  · rfl
  split
  · rfl
  split
  · rfl
  rfl
theorem ga_stay {A : pf_S} {o : Option Nat} {r : Nat} : ∀ n x, gaV A o r x = 1 → gaV A o r (x + n) = 1 := by
  intro n
  induction n with
  | zero => intro x h; exact h
  | succ n ih =>
    intro x h
    show gaV A o r (x + n + 1) = 1
    rw [gaV, if_pos (Or.inl (by rw [ih x h]; decide))]
theorem ga_hdb {A : pf_S} {o : Option Nat} {r : Nat} : ∀ n x (on : Int32), gaV A o r x = 0 → (on = 0 ↔ nb (gD A o r x 6) = 0) → hdbFrom (fun c => ltV A o r c) n x on = gaV A o r (x + n) := by
  intro n
  induction n with
  | zero => intro x on h _; exact h.symm
  | succ n ih =>
    intro x on h hon
    rw [hdbFrom, show x + (n + 1) = x + 1 + n by omega]
    have e1 : gaV A o r (x + 1) = if ¬ nb (g6 A o r x 6) = 0 then 1 else 0 := by
      rw [gaV, h]
      simp
    have eg : gD A o r (x + 1) 6 = if ltV A o r x = 13 then 1 else g6 A o r x 6 := by
      rw [gD_s, dcG, g6]
      by_cases hc : 32 ≤ ltV A o r x
      · rw [if_pos hc, if_pos hc, if_neg (fun q => by rw [q] at hc; exact absurd hc (by decide))]
      · rw [if_neg hc, if_neg hc, afG_6]
    have e6 : g6 A o r x 6 = if ltV A o r x = 12 then 0 else gD A o r x 6 := by
      rw [g6]
      by_cases hc : 32 ≤ ltV A o r x
      · rw [if_pos hc, dlG_6, if_neg (fun q => by rw [q] at hc; exact absurd hc (by decide))]
      · rw [if_neg hc, onG_6]
    by_cases ho : on = 0 ∨ ltV A o r x = 12
    · rw [if_pos ho]
      have z6 : nb (g6 A o r x 6) = 0 := by
        rw [e6]
        rcases ho with q | q
        · split
          · decide
          · exact hon.mp q
        · rw [if_pos q]; decide
      refine ih (x + 1) _ (by rw [e1, if_neg (fun q => q z6)]) ?_
      rw [eg]
      by_cases h13 : ltV A o r x = 13
      · simp only [if_pos h13]
        decide
      · simp only [if_neg h13]
        exact ⟨fun _ => z6, fun _ => by trivial⟩
    · rw [if_neg ho]
      have n6 : ¬ nb (g6 A o r x 6) = 0 := by
        rw [e6, if_neg (fun q => ho (Or.inr q))]
        exact fun q => ho (Or.inl (hon.mpr q))
      exact (ga_stay n (x + 1) (by rw [e1, if_pos n6])).symm
theorem gaV_hdb (A : pf_S) (o : Option Nat) (r : Nat) : gaV A o r 20 = hdb A o r := by
  have q := ga_hdb (A := A) (o := o) (r := r) 20 0 0 rfl ⟨fun _ => (show nb (0 : Int32) = 0 from by decide), fun _ => rfl⟩
  rw [hdb, q]
theorem gD_0 (A : pf_S) (o : Option Nat) (r : Nat) : gD A o r 0 = bgG (A 13 0) := rfl
theorem goF_0 (A S : pf_S) (o : Option Nat) (r : Nat) (F : Nat → Nat → Int32) : goF A S o r F 0 = F := rfl
theorem gaV_0 (A : pf_S) (o : Option Nat) (r : Nat) : gaV A o r 0 = 0 := rfl
theorem goF_s (A S : pf_S) (o : Option Nat) (r : Nat) (F : Nat → Nat → Int32) (x : Nat) : goF A S o r F (x + 1) = if 32 ≤ ltV A o r x then nlF (goF A S o r F x) (gD A o r x) (lgV r) (S 20 0 17) (S 20 0 18) x (ltV A o r x) (stV A o) else nmF (goF A S o r F x) (onG (gD A o r x) (ltV A o r x)) (lgV r) (S 20 0 17) (S 20 0 18) x := rfl
theorem gaV_s (A : pf_S) (o : Option Nat) (r x : Nat) : gaV A o r (x + 1) = if ¬ gaV A o r x = 0 ∨ ¬ nb (g6 A o r x 6) = 0 then 1 else 0 := rfl
theorem ga_01 (A : pf_S) (o : Option Nat) (r n : Nat) : gaV A o r n = 0 ∨ gaV A o r n = 1 := by
  cases n with
  | zero => exact Or.inl rfl
  | succ n =>
    rw [gaV_s]
    split
    · exact Or.inr rfl
    · exact Or.inl rfl

theorem c_noteL0 (w : pf_W) (ok : pf_ok w) (S : pf_S) (g : Nat → Int32) (lg : Int32) (F : Nat → Nat → Int32) (x : Nat) (hx : x < 20) (c a : Int32) : pf_C w y_Mod_note b_Mod_note 7 none 0 0 [.ref (w.2.1 20 0), .int (nI x), .int c, .int 0, .int (nb a)] (MD S g lg F) (none) (MD S g lg (nt4 F g x (ntV (S 20 0 17) (S 20 0 18) g c) (tlV g lg (fmV (S 20 0 17) (S 20 0 18) g 0 a)))) := c_Mod_note w ok S g lg F x hx c 0 a
theorem c_noteL1 (w : pf_W) (ok : pf_ok w) (S : pf_S) (g : Nat → Int32) (lg : Int32) (F : Nat → Nat → Int32) (x : Nat) (hx : x < 20) (c a : Int32) : pf_C w y_Mod_note b_Mod_note 7 none 0 0 [.ref (w.2.1 20 0), .int (nI x), .int c, .int 1, .int (nb a)] (MD S g lg F) (none) (MD S g lg (nt4 F g x (ntV (S 20 0 17) (S 20 0 18) g c) (tlV g lg (fmV (S 20 0 17) (S 20 0 18) g 1 a)))) := c_Mod_note w ok S g lg F x hx c 1 a
set_option maxRecDepth 100000 in
set_option maxHeartbeats 4000000 in
theorem c_Mod_go (w : pf_W) (ok : pf_ok w) (A S : pf_S) (z : Int32) (g : Nat → Int32) (lg : Int32) (F : Nat → Nat → Int32) (hw : 1 ≤ w.2.2.1 ∧ w.2.2.1 ≤ 4) (hR : Rm w.2.2.1 z A S) (hwt : WtI A) (hlt : LtI A w.2.2.1) (r : Nat) (hr : r < 8) : pf_C w y_Mod_go b_Mod_go 8 (some .boolean) 3 65 [.ref (w.2.1 20 0), .int (nI r)] (MD S g lg F) (some (.int (hdb A (shnF A w.2.2.1) r))) (MD S (gD A (shnF A w.2.2.1) r 20) (lgV r) (fnF A (shnF A w.2.2.1) r F)) := by
  refine pf_enter (by decide) (Nat.le_of_ble_eq_true rfl) (lv0 := [some (.ref (w.2.1 20 0)), some (.int (nI r)), none, none, none, none, none, none]) rfl (fun κ h => ?_)
  have h1 := hR.2.2.2.1.2.2.2.2.1
  have h2 := hR.2.2.2.1.2.2.2.2.2
  have loop : ∀ (n x : Nat) (kk : Int32) (X Y : Option Value), x + n = 20 → pg_G κ w.1 8 0 0 (pg_Q κ w.1 (fun r' H => r' = (some (.int (hdb A (shnF A w.2.2.1) r))) ∧ pf_P w (MD S (gD A (shnF A w.2.2.1) r 20) (lgV r) (fnF A (shnF A w.2.2.1) r F)) H) 0 0) (pf_P w (MD S (gD A (shnF A w.2.2.1) r x) (lgV r) (goF A S (shnF A w.2.2.1) r (ftA A (shnF A w.2.2.1) r F) x))) 54 [some (.ref (w.2.1 20 0)), some (.int (nI r)), some (.int kk), some (.int (stV A (shnF A w.2.2.1))), some (.int (gaV A (shnF A w.2.2.1) r x)), some (.int (nI x)), X, Y] [] := by
    intro n
    induction n with
    | zero =>
      intro x kk X Y hx
      have hx : x = 20 := by omega
      subst hx
      refine pg_iload h d_Mod_go_54 rfl ?_
      refine pg_bipush (v := 20) h d_Mod_go_56 (by decide) ?_
      refine pg_icmp_ge (tgt := 192) h d_Mod_go_58 rfl (fun e58 => ?_) (fun e58 => absurd e58 (fun e => e (by decide)))
      refine pg_iload h d_Mod_go_192 rfl ?_
      exact pf_iret h d_Mod_go_194 (by rcases ga_01 A (shnF A w.2.2.1) r 20 with q | q <;> rw [q] <;> rfl) (by rw [gaV_hdb]) (by rw [goF_fn h1 h2]) --end
    | succ n ih =>
      intro x kk X Y hx
      have hx2 : x < 20 := by omega
      obtain ⟨m, hm, em⟩ := ltV_nat (r := r) (x := x) (o := (shnF A w.2.2.1)) hlt hwt (fun k hk => shn_pgk hk) hr hx2
      have e32 : goF A S (shnF A w.2.2.1) r (ftA A (shnF A w.2.2.1) r F) x 32 x = nI m := by rw [goF_o _ _ _ _ _ _ (Or.inr (by decide)), ftA_32 _ _ _ _ hx2, em]
      have e33 : goF A S (shnF A w.2.2.1) r (ftA A (shnF A w.2.2.1) r F) x 33 x = ovV A (shnF A w.2.2.1) r x := by rw [goF_o _ _ _ _ _ _ (Or.inr (by decide)), ftA_33 _ _ _ _ hx2]
      have L32 : ((32 : Int32) ≤ nI m) = ¬ m < 32 := propext ((show nI 32 ≤ nI m ↔ _ from nI_leI (by decide) (by omega)).trans Nat.not_lt.symm)
      have L32b : (nI m < (32 : Int32)) = (m < 32) := propext (by rw [← Int32.not_le, L32, Classical.not_not])
      have mk0 : m < 32 → (nb (onG (gD A (shnF A w.2.2.1) r x) (nI m) 8) = 0 ∨ nb (onG (gD A (shnF A w.2.2.1) r x) (nI m) 2) = 0) → pg_G κ w.1 8 0 0 (pg_Q κ w.1 (fun r' H => r' = (some (.int (hdb A (shnF A w.2.2.1) r))) ∧ pf_P w (MD S (gD A (shnF A w.2.2.1) r 20) (lgV r) (fnF A (shnF A w.2.2.1) r F)) H) 0 0) (pf_P w (MD S (onG (gD A (shnF A w.2.2.1) r x) (nI m)) (lgV r) (goF A S (shnF A w.2.2.1) r (ftA A (shnF A w.2.2.1) r F) x))) 132 [some (.ref (w.2.1 20 0)), some (.int (nI r)), some (.int kk), some (.int (stV A (shnF A w.2.2.1))), some (.int (gaV A (shnF A w.2.2.1) r x)), some (.int (nI x)), some (.int (nI m)), Y] [] := by
        intro hm32 hc
        refine pg_iconst (v := 0) h d_Mod_go_132 (by decide) ?_
        refine pg_istore h d_Mod_go_133 (Nat.le_of_ble_eq_true rfl) rfl rfl ?_
        refine pg_aload_n h d_Mod_go_135 rfl ?_
        refine pg_iload h d_Mod_go_136 rfl ?_
        refine pg_iload h d_Mod_go_138 rfl ?_
        refine pg_if_eq (tgt := 150) h d_Mod_go_140 rfl (fun e140 => ?_) (fun e140 => absurd e140 (fun e => e (by decide)))
        refine pg_bipush (v := 32) h d_Mod_go_150 (by decide) ?_
        refine pg_iload h d_Mod_go_152 rfl ?_
        refine pg_aload_n h d_Mod_go_154 rfl ?_
        refine pf_get h ok d_Mod_go_155 f_Mod_194 (by first | rfl | exact hk | exact hk2 | exact dm12 _ | assumption) rfl rfl ?_
        try simp only [MD25, MD26, MD27, MD28, MD29, MD30, MD31, MD32, MD33, MD34, MD35, MD36, MDF32, MDF33, MDF34, MDF35, MDF36, MDF37, MDs_25, MDs_26, MDs_27, MDs_28, MDs_29, MDs_30, MDs_31, MDs_32, MDs_33, MDs_34, MDs_35, MDs_36, MDs_0, MDs_11, MDs_13, MDs_14, MDs_15, MDs_16, MDs_17, MDs_18, MD_21, MD_22, MD_23, MD_24, MD_25, MD_26, MD_27, MD_28, MD_29, MD_30, MD_31, MD_32, MD_33, MD_34, MD_35, MD_36, MD_37]
        refine pf_cV0 h ok d_Mod_go_158 m_Mod_note l_Mod_207 (c_noteL0 w ok S _ (lgV r) _ x hx2 _ _) cn_Mod (by first | rfl | exact hk | exact hk2 | exact dm12 _ | assumption) rfl rfl rfl (Nat.le_of_ble_eq_true rfl) ⟨(Nat.le_of_ble_eq_true rfl), (Nat.le_of_ble_eq_true rfl)⟩ ⟨Nat.le_refl _, Nat.le_refl _⟩ ?_
        try simp only [MD25, MD26, MD27, MD28, MD29, MD30, MD31, MD32, MD33, MD34, MD35, MD36, MDF32, MDF33, MDF34, MDF35, MDF36, MDF37, MDs_25, MDs_26, MDs_27, MDs_28, MDs_29, MDs_30, MDs_31, MDs_32, MDs_33, MDs_34, MDs_35, MDs_36, MDs_0, MDs_11, MDs_13, MDs_14, MDs_15, MDs_16, MDs_17, MDs_18, MD_21, MD_22, MD_23, MD_24, MD_25, MD_26, MD_27, MD_28, MD_29, MD_30, MD_31, MD_32, MD_33, MD_34, MD_35, MD_36, MD_37]
        refine pg_iload h d_Mod_go_161 rfl ?_
        refine pg_if_ne (tgt := 173) h d_Mod_go_163 rfl (fun e163 => ?_) (fun e163 => ?_)
        · skip
          refine pg_iconst (v := 1) h d_Mod_go_173 (by decide) ?_
          refine pg_goto (tgt := 178) h d_Mod_go_174 rfl ?_
          refine pg_istore h d_Mod_go_178 (Nat.le_of_ble_eq_true rfl) rfl rfl ?_
          refine pg_aload_n h d_Mod_go_180 rfl ?_
          refine pg_iload h d_Mod_go_181 rfl ?_
          refine pf_cV0 h ok d_Mod_go_183 m_Mod_after l_Mod_227 (c_Mod_after w ok S _ (lgV r) _ m hm32) cn_Mod (by first | rfl | exact hk | exact hk2 | exact dm12 _ | assumption) rfl rfl rfl (Nat.le_of_ble_eq_true rfl) ⟨(Nat.le_of_ble_eq_true rfl), (Nat.le_of_ble_eq_true rfl)⟩ ⟨Nat.le_refl _, Nat.le_refl _⟩ ?_
          try simp only [MD25, MD26, MD27, MD28, MD29, MD30, MD31, MD32, MD33, MD34, MD35, MD36, MDF32, MDF33, MDF34, MDF35, MDF36, MDF37, MDs_25, MDs_26, MDs_27, MDs_28, MDs_29, MDs_30, MDs_31, MDs_32, MDs_33, MDs_34, MDs_35, MDs_36, MDs_0, MDs_11, MDs_13, MDs_14, MDs_15, MDs_16, MDs_17, MDs_18, MD_21, MD_22, MD_23, MD_24, MD_25, MD_26, MD_27, MD_28, MD_29, MD_30, MD_31, MD_32, MD_33, MD_34, MD_35, MD_36, MD_37]
          refine pg_iinc (w := 1) h d_Mod_go_186 rfl (by decide) (Nat.le_of_ble_eq_true rfl) rfl rfl ?_
          refine pg_goto (tgt := 54) h d_Mod_go_189 rfl ?_
          rw [← nI_succ x]
          have eg : gD A (shnF A w.2.2.1) r (x + 1) = afG (onG (gD A (shnF A w.2.2.1) r x) (nI m)) (nI m) := by rw [gD_s, dcG, em, if_neg (by rw [L32]; exact fun q => q hm32)]
          have eF : goF A S (shnF A w.2.2.1) r (ftA A (shnF A w.2.2.1) r F) (x + 1) = nmF (goF A S (shnF A w.2.2.1) r (ftA A (shnF A w.2.2.1) r F) x) (onG (gD A (shnF A w.2.2.1) r x) (nI m)) (lgV r) (S 20 0 17) (S 20 0 18) x := by rw [goF_s, em, if_neg (by rw [L32]; exact fun q => q hm32)]
          have e6 : g6 A (shnF A w.2.2.1) r x = onG (gD A (shnF A w.2.2.1) r x) (nI m) := by rw [g6, em, if_neg (by rw [L32]; exact fun q => q hm32)]
          have ea : gaV A (shnF A w.2.2.1) r (x + 1) = if ¬ gaV A (shnF A w.2.2.1) r x = 0 ∨ ¬ nb (onG (gD A (shnF A w.2.2.1) r x) (nI m) 6) = 0 then 1 else 0 := by rw [gaV_s, e6]
          have q := ih (x + 1) kk (some (.int (nI m))) (some (.int 0)) (by omega)
          rw [eg, eF, ea] at q
          rw [nmF, if_pos hc] at q
          first
            | (rw [if_pos (Or.inl e163)] at q; exact q)
            | (rw [if_pos (Or.inr e170)] at q; exact q)
            | (rw [if_neg (fun w => w.elim (fun w => w e163) (fun w => w e170))] at q; exact q)
            | (rw [if_neg (fun w => w.elim (fun w => w (Classical.not_not.mp e163)) (fun w => w e170))] at q; exact q)
            | (rw [if_neg (fun w => w.elim (fun w => e163 w) (fun w => w e170))] at q; exact q)
        refine pg_aload_n h d_Mod_go_166 rfl ?_
        refine pf_get h ok d_Mod_go_167 f_Mod_179 (by first | rfl | exact hk | exact hk2 | exact dm12 _ | assumption) rfl rfl ?_
        try simp only [MD25, MD26, MD27, MD28, MD29, MD30, MD31, MD32, MD33, MD34, MD35, MD36, MDF32, MDF33, MDF34, MDF35, MDF36, MDF37, MDs_25, MDs_26, MDs_27, MDs_28, MDs_29, MDs_30, MDs_31, MDs_32, MDs_33, MDs_34, MDs_35, MDs_36, MDs_0, MDs_11, MDs_13, MDs_14, MDs_15, MDs_16, MDs_17, MDs_18, MD_21, MD_22, MD_23, MD_24, MD_25, MD_26, MD_27, MD_28, MD_29, MD_30, MD_31, MD_32, MD_33, MD_34, MD_35, MD_36, MD_37]
        refine pg_if_eq (tgt := 177) h d_Mod_go_170 rfl (fun e170 => ?_) (fun e170 => ?_)
        · skip
          refine pg_iconst (v := 0) h d_Mod_go_177 (by decide) ?_
          refine pg_istore h d_Mod_go_178 (Nat.le_of_ble_eq_true rfl) rfl rfl ?_
          refine pg_aload_n h d_Mod_go_180 rfl ?_
          refine pg_iload h d_Mod_go_181 rfl ?_
          refine pf_cV0 h ok d_Mod_go_183 m_Mod_after l_Mod_227 (c_Mod_after w ok S _ (lgV r) _ m hm32) cn_Mod (by first | rfl | exact hk | exact hk2 | exact dm12 _ | assumption) rfl rfl rfl (Nat.le_of_ble_eq_true rfl) ⟨(Nat.le_of_ble_eq_true rfl), (Nat.le_of_ble_eq_true rfl)⟩ ⟨Nat.le_refl _, Nat.le_refl _⟩ ?_
          try simp only [MD25, MD26, MD27, MD28, MD29, MD30, MD31, MD32, MD33, MD34, MD35, MD36, MDF32, MDF33, MDF34, MDF35, MDF36, MDF37, MDs_25, MDs_26, MDs_27, MDs_28, MDs_29, MDs_30, MDs_31, MDs_32, MDs_33, MDs_34, MDs_35, MDs_36, MDs_0, MDs_11, MDs_13, MDs_14, MDs_15, MDs_16, MDs_17, MDs_18, MD_21, MD_22, MD_23, MD_24, MD_25, MD_26, MD_27, MD_28, MD_29, MD_30, MD_31, MD_32, MD_33, MD_34, MD_35, MD_36, MD_37]
          refine pg_iinc (w := 1) h d_Mod_go_186 rfl (by decide) (Nat.le_of_ble_eq_true rfl) rfl rfl ?_
          refine pg_goto (tgt := 54) h d_Mod_go_189 rfl ?_
          rw [← nI_succ x]
          have eg : gD A (shnF A w.2.2.1) r (x + 1) = afG (onG (gD A (shnF A w.2.2.1) r x) (nI m)) (nI m) := by rw [gD_s, dcG, em, if_neg (by rw [L32]; exact fun q => q hm32)]
          have eF : goF A S (shnF A w.2.2.1) r (ftA A (shnF A w.2.2.1) r F) (x + 1) = nmF (goF A S (shnF A w.2.2.1) r (ftA A (shnF A w.2.2.1) r F) x) (onG (gD A (shnF A w.2.2.1) r x) (nI m)) (lgV r) (S 20 0 17) (S 20 0 18) x := by rw [goF_s, em, if_neg (by rw [L32]; exact fun q => q hm32)]
          have e6 : g6 A (shnF A w.2.2.1) r x = onG (gD A (shnF A w.2.2.1) r x) (nI m) := by rw [g6, em, if_neg (by rw [L32]; exact fun q => q hm32)]
          have ea : gaV A (shnF A w.2.2.1) r (x + 1) = if ¬ gaV A (shnF A w.2.2.1) r x = 0 ∨ ¬ nb (onG (gD A (shnF A w.2.2.1) r x) (nI m) 6) = 0 then 1 else 0 := by rw [gaV_s, e6]
          have q := ih (x + 1) kk (some (.int (nI m))) (some (.int 0)) (by omega)
          rw [eg, eF, ea] at q
          rw [nmF, if_pos hc] at q
          first
            | (rw [if_pos (Or.inl e163)] at q; exact q)
            | (rw [if_pos (Or.inr e170)] at q; exact q)
            | (rw [if_neg (fun w => w.elim (fun w => w e163) (fun w => w e170))] at q; exact q)
            | (rw [if_neg (fun w => w.elim (fun w => w (Classical.not_not.mp e163)) (fun w => w e170))] at q; exact q)
            | (rw [if_neg (fun w => w.elim (fun w => e163 w) (fun w => w e170))] at q; exact q)
        refine pg_iconst (v := 1) h d_Mod_go_173 (by decide) ?_
        refine pg_goto (tgt := 178) h d_Mod_go_174 rfl ?_
        refine pg_istore h d_Mod_go_178 (Nat.le_of_ble_eq_true rfl) rfl rfl ?_
        refine pg_aload_n h d_Mod_go_180 rfl ?_
        refine pg_iload h d_Mod_go_181 rfl ?_
        refine pf_cV0 h ok d_Mod_go_183 m_Mod_after l_Mod_227 (c_Mod_after w ok S _ (lgV r) _ m hm32) cn_Mod (by first | rfl | exact hk | exact hk2 | exact dm12 _ | assumption) rfl rfl rfl (Nat.le_of_ble_eq_true rfl) ⟨(Nat.le_of_ble_eq_true rfl), (Nat.le_of_ble_eq_true rfl)⟩ ⟨Nat.le_refl _, Nat.le_refl _⟩ ?_
        try simp only [MD25, MD26, MD27, MD28, MD29, MD30, MD31, MD32, MD33, MD34, MD35, MD36, MDF32, MDF33, MDF34, MDF35, MDF36, MDF37, MDs_25, MDs_26, MDs_27, MDs_28, MDs_29, MDs_30, MDs_31, MDs_32, MDs_33, MDs_34, MDs_35, MDs_36, MDs_0, MDs_11, MDs_13, MDs_14, MDs_15, MDs_16, MDs_17, MDs_18, MD_21, MD_22, MD_23, MD_24, MD_25, MD_26, MD_27, MD_28, MD_29, MD_30, MD_31, MD_32, MD_33, MD_34, MD_35, MD_36, MD_37]
        refine pg_iinc (w := 1) h d_Mod_go_186 rfl (by decide) (Nat.le_of_ble_eq_true rfl) rfl rfl ?_
        refine pg_goto (tgt := 54) h d_Mod_go_189 rfl ?_
        rw [← nI_succ x]
        have eg : gD A (shnF A w.2.2.1) r (x + 1) = afG (onG (gD A (shnF A w.2.2.1) r x) (nI m)) (nI m) := by rw [gD_s, dcG, em, if_neg (by rw [L32]; exact fun q => q hm32)]
        have eF : goF A S (shnF A w.2.2.1) r (ftA A (shnF A w.2.2.1) r F) (x + 1) = nmF (goF A S (shnF A w.2.2.1) r (ftA A (shnF A w.2.2.1) r F) x) (onG (gD A (shnF A w.2.2.1) r x) (nI m)) (lgV r) (S 20 0 17) (S 20 0 18) x := by rw [goF_s, em, if_neg (by rw [L32]; exact fun q => q hm32)]
        have e6 : g6 A (shnF A w.2.2.1) r x = onG (gD A (shnF A w.2.2.1) r x) (nI m) := by rw [g6, em, if_neg (by rw [L32]; exact fun q => q hm32)]
        have ea : gaV A (shnF A w.2.2.1) r (x + 1) = if ¬ gaV A (shnF A w.2.2.1) r x = 0 ∨ ¬ nb (onG (gD A (shnF A w.2.2.1) r x) (nI m) 6) = 0 then 1 else 0 := by rw [gaV_s, e6]
        have q := ih (x + 1) kk (some (.int (nI m))) (some (.int 0)) (by omega)
        rw [eg, eF, ea] at q
        rw [nmF, if_pos hc] at q
        first
          | (rw [if_pos (Or.inl e163)] at q; exact q)
          | (rw [if_pos (Or.inr e170)] at q; exact q)
          | (rw [if_neg (fun w => w.elim (fun w => w e163) (fun w => w e170))] at q; exact q)
          | (rw [if_neg (fun w => w.elim (fun w => w (Classical.not_not.mp e163)) (fun w => w e170))] at q; exact q)
          | (rw [if_neg (fun w => w.elim (fun w => e163 w) (fun w => w e170))] at q; exact q)
      have mk1 : m < 32 → ¬ (nb (onG (gD A (shnF A w.2.2.1) r x) (nI m) 8) = 0 ∨ nb (onG (gD A (shnF A w.2.2.1) r x) (nI m) 2) = 0) → pg_G κ w.1 8 0 0 (pg_Q κ w.1 (fun r' H => r' = (some (.int (hdb A (shnF A w.2.2.1) r))) ∧ pf_P w (MD S (gD A (shnF A w.2.2.1) r 20) (lgV r) (fnF A (shnF A w.2.2.1) r F)) H) 0 0) (pf_P w (MD S (onG (gD A (shnF A w.2.2.1) r x) (nI m)) (lgV r) (goF A S (shnF A w.2.2.1) r (ftA A (shnF A w.2.2.1) r F) x))) 128 [some (.ref (w.2.1 20 0)), some (.int (nI r)), some (.int kk), some (.int (stV A (shnF A w.2.2.1))), some (.int (gaV A (shnF A w.2.2.1) r x)), some (.int (nI x)), some (.int (nI m)), Y] [] := by
        intro hm32 hc
        refine pg_iconst (v := 1) h d_Mod_go_128 (by decide) ?_
        refine pg_goto (tgt := 133) h d_Mod_go_129 rfl ?_
        refine pg_istore h d_Mod_go_133 (Nat.le_of_ble_eq_true rfl) rfl rfl ?_
        refine pg_aload_n h d_Mod_go_135 rfl ?_
        refine pg_iload h d_Mod_go_136 rfl ?_
        refine pg_iload h d_Mod_go_138 rfl ?_
        refine pg_if_eq (tgt := 150) h d_Mod_go_140 rfl (fun e140 => absurd e140 (by decide)) (fun e140 => ?_)
        refine pg_aload_n h d_Mod_go_143 rfl ?_
        refine pf_get h ok d_Mod_go_144 f_Mod_191 (by first | rfl | exact hk | exact hk2 | exact dm12 _ | assumption) rfl rfl ?_
        try simp only [MD25, MD26, MD27, MD28, MD29, MD30, MD31, MD32, MD33, MD34, MD35, MD36, MDF32, MDF33, MDF34, MDF35, MDF36, MDF37, MDs_25, MDs_26, MDs_27, MDs_28, MDs_29, MDs_30, MDs_31, MDs_32, MDs_33, MDs_34, MDs_35, MDs_36, MDs_0, MDs_11, MDs_13, MDs_14, MDs_15, MDs_16, MDs_17, MDs_18, MD_21, MD_22, MD_23, MD_24, MD_25, MD_26, MD_27, MD_28, MD_29, MD_30, MD_31, MD_32, MD_33, MD_34, MD_35, MD_36, MD_37]
        refine pg_goto (tgt := 152) h d_Mod_go_147 rfl ?_
        refine pg_iload h d_Mod_go_152 rfl ?_
        refine pg_aload_n h d_Mod_go_154 rfl ?_
        refine pf_get h ok d_Mod_go_155 f_Mod_194 (by first | rfl | exact hk | exact hk2 | exact dm12 _ | assumption) rfl rfl ?_
        try simp only [MD25, MD26, MD27, MD28, MD29, MD30, MD31, MD32, MD33, MD34, MD35, MD36, MDF32, MDF33, MDF34, MDF35, MDF36, MDF37, MDs_25, MDs_26, MDs_27, MDs_28, MDs_29, MDs_30, MDs_31, MDs_32, MDs_33, MDs_34, MDs_35, MDs_36, MDs_0, MDs_11, MDs_13, MDs_14, MDs_15, MDs_16, MDs_17, MDs_18, MD_21, MD_22, MD_23, MD_24, MD_25, MD_26, MD_27, MD_28, MD_29, MD_30, MD_31, MD_32, MD_33, MD_34, MD_35, MD_36, MD_37]
        refine pf_cV0 h ok d_Mod_go_158 m_Mod_note l_Mod_207 (c_noteL1 w ok S _ (lgV r) _ x hx2 _ _) cn_Mod (by first | rfl | exact hk | exact hk2 | exact dm12 _ | assumption) rfl rfl rfl (Nat.le_of_ble_eq_true rfl) ⟨(Nat.le_of_ble_eq_true rfl), (Nat.le_of_ble_eq_true rfl)⟩ ⟨Nat.le_refl _, Nat.le_refl _⟩ ?_
        try simp only [MD25, MD26, MD27, MD28, MD29, MD30, MD31, MD32, MD33, MD34, MD35, MD36, MDF32, MDF33, MDF34, MDF35, MDF36, MDF37, MDs_25, MDs_26, MDs_27, MDs_28, MDs_29, MDs_30, MDs_31, MDs_32, MDs_33, MDs_34, MDs_35, MDs_36, MDs_0, MDs_11, MDs_13, MDs_14, MDs_15, MDs_16, MDs_17, MDs_18, MD_21, MD_22, MD_23, MD_24, MD_25, MD_26, MD_27, MD_28, MD_29, MD_30, MD_31, MD_32, MD_33, MD_34, MD_35, MD_36, MD_37]
        refine pg_iload h d_Mod_go_161 rfl ?_
        refine pg_if_ne (tgt := 173) h d_Mod_go_163 rfl (fun e163 => ?_) (fun e163 => ?_)
        · skip
          refine pg_iconst (v := 1) h d_Mod_go_173 (by decide) ?_
          refine pg_goto (tgt := 178) h d_Mod_go_174 rfl ?_
          refine pg_istore h d_Mod_go_178 (Nat.le_of_ble_eq_true rfl) rfl rfl ?_
          refine pg_aload_n h d_Mod_go_180 rfl ?_
          refine pg_iload h d_Mod_go_181 rfl ?_
          refine pf_cV0 h ok d_Mod_go_183 m_Mod_after l_Mod_227 (c_Mod_after w ok S _ (lgV r) _ m hm32) cn_Mod (by first | rfl | exact hk | exact hk2 | exact dm12 _ | assumption) rfl rfl rfl (Nat.le_of_ble_eq_true rfl) ⟨(Nat.le_of_ble_eq_true rfl), (Nat.le_of_ble_eq_true rfl)⟩ ⟨Nat.le_refl _, Nat.le_refl _⟩ ?_
          try simp only [MD25, MD26, MD27, MD28, MD29, MD30, MD31, MD32, MD33, MD34, MD35, MD36, MDF32, MDF33, MDF34, MDF35, MDF36, MDF37, MDs_25, MDs_26, MDs_27, MDs_28, MDs_29, MDs_30, MDs_31, MDs_32, MDs_33, MDs_34, MDs_35, MDs_36, MDs_0, MDs_11, MDs_13, MDs_14, MDs_15, MDs_16, MDs_17, MDs_18, MD_21, MD_22, MD_23, MD_24, MD_25, MD_26, MD_27, MD_28, MD_29, MD_30, MD_31, MD_32, MD_33, MD_34, MD_35, MD_36, MD_37]
          refine pg_iinc (w := 1) h d_Mod_go_186 rfl (by decide) (Nat.le_of_ble_eq_true rfl) rfl rfl ?_
          refine pg_goto (tgt := 54) h d_Mod_go_189 rfl ?_
          rw [← nI_succ x]
          have eg : gD A (shnF A w.2.2.1) r (x + 1) = afG (onG (gD A (shnF A w.2.2.1) r x) (nI m)) (nI m) := by rw [gD_s, dcG, em, if_neg (by rw [L32]; exact fun q => q hm32)]
          have eF : goF A S (shnF A w.2.2.1) r (ftA A (shnF A w.2.2.1) r F) (x + 1) = nmF (goF A S (shnF A w.2.2.1) r (ftA A (shnF A w.2.2.1) r F) x) (onG (gD A (shnF A w.2.2.1) r x) (nI m)) (lgV r) (S 20 0 17) (S 20 0 18) x := by rw [goF_s, em, if_neg (by rw [L32]; exact fun q => q hm32)]
          have e6 : g6 A (shnF A w.2.2.1) r x = onG (gD A (shnF A w.2.2.1) r x) (nI m) := by rw [g6, em, if_neg (by rw [L32]; exact fun q => q hm32)]
          have ea : gaV A (shnF A w.2.2.1) r (x + 1) = if ¬ gaV A (shnF A w.2.2.1) r x = 0 ∨ ¬ nb (onG (gD A (shnF A w.2.2.1) r x) (nI m) 6) = 0 then 1 else 0 := by rw [gaV_s, e6]
          have q := ih (x + 1) kk (some (.int (nI m))) (some (.int 1)) (by omega)
          rw [eg, eF, ea] at q
          rw [nmF, if_neg hc] at q
          first
            | (rw [if_pos (Or.inl e163)] at q; exact q)
            | (rw [if_pos (Or.inr e170)] at q; exact q)
            | (rw [if_neg (fun w => w.elim (fun w => w e163) (fun w => w e170))] at q; exact q)
            | (rw [if_neg (fun w => w.elim (fun w => w (Classical.not_not.mp e163)) (fun w => w e170))] at q; exact q)
            | (rw [if_neg (fun w => w.elim (fun w => e163 w) (fun w => w e170))] at q; exact q)
        refine pg_aload_n h d_Mod_go_166 rfl ?_
        refine pf_get h ok d_Mod_go_167 f_Mod_179 (by first | rfl | exact hk | exact hk2 | exact dm12 _ | assumption) rfl rfl ?_
        try simp only [MD25, MD26, MD27, MD28, MD29, MD30, MD31, MD32, MD33, MD34, MD35, MD36, MDF32, MDF33, MDF34, MDF35, MDF36, MDF37, MDs_25, MDs_26, MDs_27, MDs_28, MDs_29, MDs_30, MDs_31, MDs_32, MDs_33, MDs_34, MDs_35, MDs_36, MDs_0, MDs_11, MDs_13, MDs_14, MDs_15, MDs_16, MDs_17, MDs_18, MD_21, MD_22, MD_23, MD_24, MD_25, MD_26, MD_27, MD_28, MD_29, MD_30, MD_31, MD_32, MD_33, MD_34, MD_35, MD_36, MD_37]
        refine pg_if_eq (tgt := 177) h d_Mod_go_170 rfl (fun e170 => ?_) (fun e170 => ?_)
        · skip
          refine pg_iconst (v := 0) h d_Mod_go_177 (by decide) ?_
          refine pg_istore h d_Mod_go_178 (Nat.le_of_ble_eq_true rfl) rfl rfl ?_
          refine pg_aload_n h d_Mod_go_180 rfl ?_
          refine pg_iload h d_Mod_go_181 rfl ?_
          refine pf_cV0 h ok d_Mod_go_183 m_Mod_after l_Mod_227 (c_Mod_after w ok S _ (lgV r) _ m hm32) cn_Mod (by first | rfl | exact hk | exact hk2 | exact dm12 _ | assumption) rfl rfl rfl (Nat.le_of_ble_eq_true rfl) ⟨(Nat.le_of_ble_eq_true rfl), (Nat.le_of_ble_eq_true rfl)⟩ ⟨Nat.le_refl _, Nat.le_refl _⟩ ?_
          try simp only [MD25, MD26, MD27, MD28, MD29, MD30, MD31, MD32, MD33, MD34, MD35, MD36, MDF32, MDF33, MDF34, MDF35, MDF36, MDF37, MDs_25, MDs_26, MDs_27, MDs_28, MDs_29, MDs_30, MDs_31, MDs_32, MDs_33, MDs_34, MDs_35, MDs_36, MDs_0, MDs_11, MDs_13, MDs_14, MDs_15, MDs_16, MDs_17, MDs_18, MD_21, MD_22, MD_23, MD_24, MD_25, MD_26, MD_27, MD_28, MD_29, MD_30, MD_31, MD_32, MD_33, MD_34, MD_35, MD_36, MD_37]
          refine pg_iinc (w := 1) h d_Mod_go_186 rfl (by decide) (Nat.le_of_ble_eq_true rfl) rfl rfl ?_
          refine pg_goto (tgt := 54) h d_Mod_go_189 rfl ?_
          rw [← nI_succ x]
          have eg : gD A (shnF A w.2.2.1) r (x + 1) = afG (onG (gD A (shnF A w.2.2.1) r x) (nI m)) (nI m) := by rw [gD_s, dcG, em, if_neg (by rw [L32]; exact fun q => q hm32)]
          have eF : goF A S (shnF A w.2.2.1) r (ftA A (shnF A w.2.2.1) r F) (x + 1) = nmF (goF A S (shnF A w.2.2.1) r (ftA A (shnF A w.2.2.1) r F) x) (onG (gD A (shnF A w.2.2.1) r x) (nI m)) (lgV r) (S 20 0 17) (S 20 0 18) x := by rw [goF_s, em, if_neg (by rw [L32]; exact fun q => q hm32)]
          have e6 : g6 A (shnF A w.2.2.1) r x = onG (gD A (shnF A w.2.2.1) r x) (nI m) := by rw [g6, em, if_neg (by rw [L32]; exact fun q => q hm32)]
          have ea : gaV A (shnF A w.2.2.1) r (x + 1) = if ¬ gaV A (shnF A w.2.2.1) r x = 0 ∨ ¬ nb (onG (gD A (shnF A w.2.2.1) r x) (nI m) 6) = 0 then 1 else 0 := by rw [gaV_s, e6]
          have q := ih (x + 1) kk (some (.int (nI m))) (some (.int 1)) (by omega)
          rw [eg, eF, ea] at q
          rw [nmF, if_neg hc] at q
          first
            | (rw [if_pos (Or.inl e163)] at q; exact q)
            | (rw [if_pos (Or.inr e170)] at q; exact q)
            | (rw [if_neg (fun w => w.elim (fun w => w e163) (fun w => w e170))] at q; exact q)
            | (rw [if_neg (fun w => w.elim (fun w => w (Classical.not_not.mp e163)) (fun w => w e170))] at q; exact q)
            | (rw [if_neg (fun w => w.elim (fun w => e163 w) (fun w => w e170))] at q; exact q)
        refine pg_iconst (v := 1) h d_Mod_go_173 (by decide) ?_
        refine pg_goto (tgt := 178) h d_Mod_go_174 rfl ?_
        refine pg_istore h d_Mod_go_178 (Nat.le_of_ble_eq_true rfl) rfl rfl ?_
        refine pg_aload_n h d_Mod_go_180 rfl ?_
        refine pg_iload h d_Mod_go_181 rfl ?_
        refine pf_cV0 h ok d_Mod_go_183 m_Mod_after l_Mod_227 (c_Mod_after w ok S _ (lgV r) _ m hm32) cn_Mod (by first | rfl | exact hk | exact hk2 | exact dm12 _ | assumption) rfl rfl rfl (Nat.le_of_ble_eq_true rfl) ⟨(Nat.le_of_ble_eq_true rfl), (Nat.le_of_ble_eq_true rfl)⟩ ⟨Nat.le_refl _, Nat.le_refl _⟩ ?_
        try simp only [MD25, MD26, MD27, MD28, MD29, MD30, MD31, MD32, MD33, MD34, MD35, MD36, MDF32, MDF33, MDF34, MDF35, MDF36, MDF37, MDs_25, MDs_26, MDs_27, MDs_28, MDs_29, MDs_30, MDs_31, MDs_32, MDs_33, MDs_34, MDs_35, MDs_36, MDs_0, MDs_11, MDs_13, MDs_14, MDs_15, MDs_16, MDs_17, MDs_18, MD_21, MD_22, MD_23, MD_24, MD_25, MD_26, MD_27, MD_28, MD_29, MD_30, MD_31, MD_32, MD_33, MD_34, MD_35, MD_36, MD_37]
        refine pg_iinc (w := 1) h d_Mod_go_186 rfl (by decide) (Nat.le_of_ble_eq_true rfl) rfl rfl ?_
        refine pg_goto (tgt := 54) h d_Mod_go_189 rfl ?_
        rw [← nI_succ x]
        have eg : gD A (shnF A w.2.2.1) r (x + 1) = afG (onG (gD A (shnF A w.2.2.1) r x) (nI m)) (nI m) := by rw [gD_s, dcG, em, if_neg (by rw [L32]; exact fun q => q hm32)]
        have eF : goF A S (shnF A w.2.2.1) r (ftA A (shnF A w.2.2.1) r F) (x + 1) = nmF (goF A S (shnF A w.2.2.1) r (ftA A (shnF A w.2.2.1) r F) x) (onG (gD A (shnF A w.2.2.1) r x) (nI m)) (lgV r) (S 20 0 17) (S 20 0 18) x := by rw [goF_s, em, if_neg (by rw [L32]; exact fun q => q hm32)]
        have e6 : g6 A (shnF A w.2.2.1) r x = onG (gD A (shnF A w.2.2.1) r x) (nI m) := by rw [g6, em, if_neg (by rw [L32]; exact fun q => q hm32)]
        have ea : gaV A (shnF A w.2.2.1) r (x + 1) = if ¬ gaV A (shnF A w.2.2.1) r x = 0 ∨ ¬ nb (onG (gD A (shnF A w.2.2.1) r x) (nI m) 6) = 0 then 1 else 0 := by rw [gaV_s, e6]
        have q := ih (x + 1) kk (some (.int (nI m))) (some (.int 1)) (by omega)
        rw [eg, eF, ea] at q
        rw [nmF, if_neg hc] at q
        first
          | (rw [if_pos (Or.inl e163)] at q; exact q)
          | (rw [if_pos (Or.inr e170)] at q; exact q)
          | (rw [if_neg (fun w => w.elim (fun w => w e163) (fun w => w e170))] at q; exact q)
          | (rw [if_neg (fun w => w.elim (fun w => w (Classical.not_not.mp e163)) (fun w => w e170))] at q; exact q)
          | (rw [if_neg (fun w => w.elim (fun w => e163 w) (fun w => w e170))] at q; exact q)
      refine pg_iload h d_Mod_go_54 rfl ?_
      refine pg_bipush (v := 20) h d_Mod_go_56 (by decide) ?_
      refine pg_icmp_ge (tgt := 192) h d_Mod_go_58 rfl (fun e58 => absurd e58 (nI_ge hx2 (by decide))) (fun e58 => ?_)
      refine pg_aload_n h d_Mod_go_61 rfl ?_
      refine pf_get h ok d_Mod_go_62 f_Mod_52 (by first | rfl | exact hk | exact hk2 | exact dm12 _ | assumption) rfl rfl ?_
      try simp only [MD25, MD26, MD27, MD28, MD29, MD30, MD31, MD32, MD33, MD34, MD35, MD36, MDF32, MDF33, MDF34, MDF35, MDF36, MDF37, MDs_25, MDs_26, MDs_27, MDs_28, MDs_29, MDs_30, MDs_31, MDs_32, MDs_33, MDs_34, MDs_35, MDs_36, MDs_0, MDs_11, MDs_13, MDs_14, MDs_15, MDs_16, MDs_17, MDs_18, MD_21, MD_22, MD_23, MD_24, MD_25, MD_26, MD_27, MD_28, MD_29, MD_30, MD_31, MD_32, MD_33, MD_34, MD_35, MD_36, MD_37]
      refine pg_iload h d_Mod_go_65 rfl ?_
      refine pf_ild h ok d_Mod_go_67 (by first | rfl | exact hk | exact hk2 | exact dm12 _ | assumption) rfl (pg_ixN rfl hx2 (by decide)) ?_
      try simp only [MD25, MD26, MD27, MD28, MD29, MD30, MD31, MD32, MD33, MD34, MD35, MD36, MDF32, MDF33, MDF34, MDF35, MDF36, MDF37, MDs_25, MDs_26, MDs_27, MDs_28, MDs_29, MDs_30, MDs_31, MDs_32, MDs_33, MDs_34, MDs_35, MDs_36, MDs_0, MDs_11, MDs_13, MDs_14, MDs_15, MDs_16, MDs_17, MDs_18, MD_21, MD_22, MD_23, MD_24, MD_25, MD_26, MD_27, MD_28, MD_29, MD_30, MD_31, MD_32, MD_33, MD_34, MD_35, MD_36, MD_37]
      rw [e32]
      refine pg_istore h d_Mod_go_68 (Nat.le_of_ble_eq_true rfl) rfl rfl ?_
      refine pg_iload h d_Mod_go_70 rfl ?_
      refine pg_bipush (v := 32) h d_Mod_go_72 (by decide) ?_
      refine pg_icmp_lt (tgt := 108) h d_Mod_go_74 rfl (fun e74 => ?_) (fun e74 => ?_)
      · skip
        refine pg_aload_n h d_Mod_go_108 rfl ?_
        refine pg_iload h d_Mod_go_109 rfl ?_
        refine pf_cV0 h ok d_Mod_go_111 m_Mod_before l_Mod_224 (c_Mod_before w ok S _ (lgV r) _ (nI m)) cn_Mod (by first | rfl | exact hk | exact hk2 | exact dm12 _ | assumption) rfl rfl rfl (Nat.le_of_ble_eq_true rfl) ⟨(Nat.le_of_ble_eq_true rfl), (Nat.le_of_ble_eq_true rfl)⟩ ⟨Nat.le_refl _, Nat.le_refl _⟩ ?_
        try simp only [MD25, MD26, MD27, MD28, MD29, MD30, MD31, MD32, MD33, MD34, MD35, MD36, MDF32, MDF33, MDF34, MDF35, MDF36, MDF37, MDs_25, MDs_26, MDs_27, MDs_28, MDs_29, MDs_30, MDs_31, MDs_32, MDs_33, MDs_34, MDs_35, MDs_36, MDs_0, MDs_11, MDs_13, MDs_14, MDs_15, MDs_16, MDs_17, MDs_18, MD_21, MD_22, MD_23, MD_24, MD_25, MD_26, MD_27, MD_28, MD_29, MD_30, MD_31, MD_32, MD_33, MD_34, MD_35, MD_36, MD_37]
        refine pg_aload_n h d_Mod_go_114 rfl ?_
        refine pf_get h ok d_Mod_go_115 f_Mod_185 (by first | rfl | exact hk | exact hk2 | exact dm12 _ | assumption) rfl rfl ?_
        try simp only [MD25, MD26, MD27, MD28, MD29, MD30, MD31, MD32, MD33, MD34, MD35, MD36, MDF32, MDF33, MDF34, MDF35, MDF36, MDF37, MDs_25, MDs_26, MDs_27, MDs_28, MDs_29, MDs_30, MDs_31, MDs_32, MDs_33, MDs_34, MDs_35, MDs_36, MDs_0, MDs_11, MDs_13, MDs_14, MDs_15, MDs_16, MDs_17, MDs_18, MD_21, MD_22, MD_23, MD_24, MD_25, MD_26, MD_27, MD_28, MD_29, MD_30, MD_31, MD_32, MD_33, MD_34, MD_35, MD_36, MD_37]
        refine pg_if_eq (tgt := 132) h d_Mod_go_118 rfl (fun e118 => ?_) (fun e118 => ?_)
        · skip
          exact mk0 (by rw [L32b] at e74; exact e74) (by first | exact Or.inl e118 | exact Or.inr e125)
        refine pg_aload_n h d_Mod_go_121 rfl ?_
        refine pf_get h ok d_Mod_go_122 f_Mod_167 (by first | rfl | exact hk | exact hk2 | exact dm12 _ | assumption) rfl rfl ?_
        try simp only [MD25, MD26, MD27, MD28, MD29, MD30, MD31, MD32, MD33, MD34, MD35, MD36, MDF32, MDF33, MDF34, MDF35, MDF36, MDF37, MDs_25, MDs_26, MDs_27, MDs_28, MDs_29, MDs_30, MDs_31, MDs_32, MDs_33, MDs_34, MDs_35, MDs_36, MDs_0, MDs_11, MDs_13, MDs_14, MDs_15, MDs_16, MDs_17, MDs_18, MD_21, MD_22, MD_23, MD_24, MD_25, MD_26, MD_27, MD_28, MD_29, MD_30, MD_31, MD_32, MD_33, MD_34, MD_35, MD_36, MD_37]
        refine pg_if_eq (tgt := 132) h d_Mod_go_125 rfl (fun e125 => ?_) (fun e125 => ?_)
        · skip
          exact mk0 (by rw [L32b] at e74; exact e74) (by first | exact Or.inl e118 | exact Or.inr e125)
        exact mk1 (by rw [L32b] at e74; exact e74) (fun q => q.elim e118 e125)
      refine pg_aload_n h d_Mod_go_77 rfl ?_
      refine pg_iload h d_Mod_go_78 rfl ?_
      refine pg_iload h d_Mod_go_80 rfl ?_
      refine pg_iload_n h d_Mod_go_82 rfl ?_
      refine pf_cV0 h ok d_Mod_go_83 m_Mod_noteLetter l_Mod_220 (c_Mod_noteLetter w ok S _ (lgV r) _ x hx2 m hm _) cn_Mod (by first | rfl | exact hk | exact hk2 | exact dm12 _ | assumption) rfl rfl rfl (Nat.le_of_ble_eq_true rfl) ⟨(Nat.le_of_ble_eq_true rfl), (Nat.le_of_ble_eq_true rfl)⟩ ⟨Nat.le_refl _, Nat.le_refl _⟩ ?_
      try simp only [MD25, MD26, MD27, MD28, MD29, MD30, MD31, MD32, MD33, MD34, MD35, MD36, MDF32, MDF33, MDF34, MDF35, MDF36, MDF37, MDs_25, MDs_26, MDs_27, MDs_28, MDs_29, MDs_30, MDs_31, MDs_32, MDs_33, MDs_34, MDs_35, MDs_36, MDs_0, MDs_11, MDs_13, MDs_14, MDs_15, MDs_16, MDs_17, MDs_18, MD_21, MD_22, MD_23, MD_24, MD_25, MD_26, MD_27, MD_28, MD_29, MD_30, MD_31, MD_32, MD_33, MD_34, MD_35, MD_36, MD_37]
      rw [e33]
      refine pg_iload h d_Mod_go_86 rfl ?_
      refine pg_if_ne (tgt := 98) h d_Mod_go_88 rfl (fun e88 => ?_) (fun e88 => ?_)
      · skip
        refine pg_iconst (v := 1) h d_Mod_go_98 (by decide) ?_
        refine pg_goto (tgt := 103) h d_Mod_go_99 rfl ?_
        refine pg_istore h d_Mod_go_103 (Nat.le_of_ble_eq_true rfl) rfl rfl ?_
        refine pg_goto (tgt := 186) h d_Mod_go_105 rfl ?_
        refine pg_iinc (w := 1) h d_Mod_go_186 rfl (by decide) (Nat.le_of_ble_eq_true rfl) rfl rfl ?_
        refine pg_goto (tgt := 54) h d_Mod_go_189 rfl ?_
        rw [← nI_succ x]
        have hm32 : ¬ m < 32 := by rw [L32b] at e74; exact e74
        have eg : gD A (shnF A w.2.2.1) r (x + 1) = dlG (gD A (shnF A w.2.2.1) r x) (nI m) (ovV A (shnF A w.2.2.1) r x) := by rw [gD_s, dcG, em, if_pos (by rw [L32]; exact hm32)]
        have eF : goF A S (shnF A w.2.2.1) r (ftA A (shnF A w.2.2.1) r F) (x + 1) = nlF (goF A S (shnF A w.2.2.1) r (ftA A (shnF A w.2.2.1) r F) x) (gD A (shnF A w.2.2.1) r x) (lgV r) (S 20 0 17) (S 20 0 18) x (nI m) (stV A (shnF A w.2.2.1)) := by rw [goF_s, em, if_pos (by rw [L32]; exact hm32)]
        have e6 : g6 A (shnF A w.2.2.1) r x = dlG (gD A (shnF A w.2.2.1) r x) (nI m) (ovV A (shnF A w.2.2.1) r x) := by rw [g6, em, if_pos (by rw [L32]; exact hm32)]
        have ea : gaV A (shnF A w.2.2.1) r (x + 1) = if ¬ gaV A (shnF A w.2.2.1) r x = 0 ∨ ¬ nb (dlG (gD A (shnF A w.2.2.1) r x) (nI m) (ovV A (shnF A w.2.2.1) r x) 6) = 0 then 1 else 0 := by rw [gaV_s, e6]
        have q := ih (x + 1) kk (some (.int (nI m))) Y (by omega)
        rw [eg, eF, ea] at q
        first
          | (rw [if_pos (Or.inl e88)] at q; exact q)
          | (rw [if_pos (Or.inr e95)] at q; exact q)
          | (rw [if_neg (fun w => w.elim (fun w => w e88) (fun w => w e95))] at q; exact q)
          | (rw [if_neg (fun w => w.elim (fun w => w (Classical.not_not.mp e88)) (fun w => w e95))] at q; exact q)
          | (rw [if_neg (fun w => w.elim (fun w => e88 w) (fun w => w e95))] at q; exact q)
      refine pg_aload_n h d_Mod_go_91 rfl ?_
      refine pf_get h ok d_Mod_go_92 f_Mod_179 (by first | rfl | exact hk | exact hk2 | exact dm12 _ | assumption) rfl rfl ?_
      try simp only [MD25, MD26, MD27, MD28, MD29, MD30, MD31, MD32, MD33, MD34, MD35, MD36, MDF32, MDF33, MDF34, MDF35, MDF36, MDF37, MDs_25, MDs_26, MDs_27, MDs_28, MDs_29, MDs_30, MDs_31, MDs_32, MDs_33, MDs_34, MDs_35, MDs_36, MDs_0, MDs_11, MDs_13, MDs_14, MDs_15, MDs_16, MDs_17, MDs_18, MD_21, MD_22, MD_23, MD_24, MD_25, MD_26, MD_27, MD_28, MD_29, MD_30, MD_31, MD_32, MD_33, MD_34, MD_35, MD_36, MD_37]
      refine pg_if_eq (tgt := 102) h d_Mod_go_95 rfl (fun e95 => ?_) (fun e95 => ?_)
      · skip
        refine pg_iconst (v := 0) h d_Mod_go_102 (by decide) ?_
        refine pg_istore h d_Mod_go_103 (Nat.le_of_ble_eq_true rfl) rfl rfl ?_
        refine pg_goto (tgt := 186) h d_Mod_go_105 rfl ?_
        refine pg_iinc (w := 1) h d_Mod_go_186 rfl (by decide) (Nat.le_of_ble_eq_true rfl) rfl rfl ?_
        refine pg_goto (tgt := 54) h d_Mod_go_189 rfl ?_
        rw [← nI_succ x]
        have hm32 : ¬ m < 32 := by rw [L32b] at e74; exact e74
        have eg : gD A (shnF A w.2.2.1) r (x + 1) = dlG (gD A (shnF A w.2.2.1) r x) (nI m) (ovV A (shnF A w.2.2.1) r x) := by rw [gD_s, dcG, em, if_pos (by rw [L32]; exact hm32)]
        have eF : goF A S (shnF A w.2.2.1) r (ftA A (shnF A w.2.2.1) r F) (x + 1) = nlF (goF A S (shnF A w.2.2.1) r (ftA A (shnF A w.2.2.1) r F) x) (gD A (shnF A w.2.2.1) r x) (lgV r) (S 20 0 17) (S 20 0 18) x (nI m) (stV A (shnF A w.2.2.1)) := by rw [goF_s, em, if_pos (by rw [L32]; exact hm32)]
        have e6 : g6 A (shnF A w.2.2.1) r x = dlG (gD A (shnF A w.2.2.1) r x) (nI m) (ovV A (shnF A w.2.2.1) r x) := by rw [g6, em, if_pos (by rw [L32]; exact hm32)]
        have ea : gaV A (shnF A w.2.2.1) r (x + 1) = if ¬ gaV A (shnF A w.2.2.1) r x = 0 ∨ ¬ nb (dlG (gD A (shnF A w.2.2.1) r x) (nI m) (ovV A (shnF A w.2.2.1) r x) 6) = 0 then 1 else 0 := by rw [gaV_s, e6]
        have q := ih (x + 1) kk (some (.int (nI m))) Y (by omega)
        rw [eg, eF, ea] at q
        first
          | (rw [if_pos (Or.inl e88)] at q; exact q)
          | (rw [if_pos (Or.inr e95)] at q; exact q)
          | (rw [if_neg (fun w => w.elim (fun w => w e88) (fun w => w e95))] at q; exact q)
          | (rw [if_neg (fun w => w.elim (fun w => w (Classical.not_not.mp e88)) (fun w => w e95))] at q; exact q)
          | (rw [if_neg (fun w => w.elim (fun w => e88 w) (fun w => w e95))] at q; exact q)
      refine pg_iconst (v := 1) h d_Mod_go_98 (by decide) ?_
      refine pg_goto (tgt := 103) h d_Mod_go_99 rfl ?_
      refine pg_istore h d_Mod_go_103 (Nat.le_of_ble_eq_true rfl) rfl rfl ?_
      refine pg_goto (tgt := 186) h d_Mod_go_105 rfl ?_
      refine pg_iinc (w := 1) h d_Mod_go_186 rfl (by decide) (Nat.le_of_ble_eq_true rfl) rfl rfl ?_
      refine pg_goto (tgt := 54) h d_Mod_go_189 rfl ?_
      rw [← nI_succ x]
      have hm32 : ¬ m < 32 := by rw [L32b] at e74; exact e74
      have eg : gD A (shnF A w.2.2.1) r (x + 1) = dlG (gD A (shnF A w.2.2.1) r x) (nI m) (ovV A (shnF A w.2.2.1) r x) := by rw [gD_s, dcG, em, if_pos (by rw [L32]; exact hm32)]
      have eF : goF A S (shnF A w.2.2.1) r (ftA A (shnF A w.2.2.1) r F) (x + 1) = nlF (goF A S (shnF A w.2.2.1) r (ftA A (shnF A w.2.2.1) r F) x) (gD A (shnF A w.2.2.1) r x) (lgV r) (S 20 0 17) (S 20 0 18) x (nI m) (stV A (shnF A w.2.2.1)) := by rw [goF_s, em, if_pos (by rw [L32]; exact hm32)]
      have e6 : g6 A (shnF A w.2.2.1) r x = dlG (gD A (shnF A w.2.2.1) r x) (nI m) (ovV A (shnF A w.2.2.1) r x) := by rw [g6, em, if_pos (by rw [L32]; exact hm32)]
      have ea : gaV A (shnF A w.2.2.1) r (x + 1) = if ¬ gaV A (shnF A w.2.2.1) r x = 0 ∨ ¬ nb (dlG (gD A (shnF A w.2.2.1) r x) (nI m) (ovV A (shnF A w.2.2.1) r x) 6) = 0 then 1 else 0 := by rw [gaV_s, e6]
      have q := ih (x + 1) kk (some (.int (nI m))) Y (by omega)
      rw [eg, eF, ea] at q
      first
        | (rw [if_pos (Or.inl e88)] at q; exact q)
        | (rw [if_pos (Or.inr e95)] at q; exact q)
        | (rw [if_neg (fun w => w.elim (fun w => w e88) (fun w => w e95))] at q; exact q)
        | (rw [if_neg (fun w => w.elim (fun w => w (Classical.not_not.mp e88)) (fun w => w e95))] at q; exact q)
        | (rw [if_neg (fun w => w.elim (fun w => e88 w) (fun w => w e95))] at q; exact q)
  have tail : ∀ (kk s l : Int32), s = stV A (shnF A w.2.2.1) → l = lgV r → pg_G κ w.1 8 0 0 (pg_Q κ w.1 (fun r' H => r' = (some (.int (hdb A (shnF A w.2.2.1) r))) ∧ pf_P w (MD S (gD A (shnF A w.2.2.1) r 20) (lgV r) (fnF A (shnF A w.2.2.1) r F)) H) 0 0) (pf_P w (MD S (bgG g) l (ftA A (shnF A w.2.2.1) r F))) 48 [some (.ref (w.2.1 20 0)), some (.int (nI r)), some (.int kk), some (.int s), none, none, none, none] [] := by
    intro kk s l hs hl
    subst hs hl
    refine pg_iconst (v := 0) h d_Mod_go_48 (by decide) ?_
    refine pg_istore h d_Mod_go_49 (Nat.le_of_ble_eq_true rfl) rfl rfl ?_
    refine pg_iconst (v := 0) h d_Mod_go_51 (by decide) ?_
    refine pg_istore h d_Mod_go_52 (Nat.le_of_ble_eq_true rfl) rfl rfl ?_
    have q := loop 20 0 kk none none rfl
    rw [gD_0, goF_0, gaV_0] at q
    exact pg_mem (MD_bg S (A 13 0) g (lgV r) (ftA A (shnF A w.2.2.1) r F)) q
  cases hf : shnF A w.2.2.1 with
  | none =>
    have ek : kpV (shnF A w.2.2.1) = -1 := by rw [hf]; rfl
    rw [← hf]
    refine pg_aload_n h d_Mod_go_0 rfl ?_
    refine pg_iload_n h d_Mod_go_1 rfl ?_
    refine pf_cV0 h ok d_Mod_go_2 m_Mod_fetch l_Mod_214 (c_Mod_fetch w ok A S z _ _ _ hw hR hwt r hr) cn_Mod (by first | rfl | exact hk | exact hk2 | exact dm12 _ | assumption) rfl rfl rfl (Nat.le_of_ble_eq_true rfl) ⟨(Nat.le_of_ble_eq_true rfl), (Nat.le_of_ble_eq_true rfl)⟩ ⟨Nat.le_refl _, Nat.le_refl _⟩ ?_
    try simp only [MD25, MD26, MD27, MD28, MD29, MD30, MD31, MD32, MD33, MD34, MD35, MD36, MDF32, MDF33, MDF34, MDF35, MDF36, MDF37, MDs_25, MDs_26, MDs_27, MDs_28, MDs_29, MDs_30, MDs_31, MDs_32, MDs_33, MDs_34, MDs_35, MDs_36, MDs_0, MDs_11, MDs_13, MDs_14, MDs_15, MDs_16, MDs_17, MDs_18, MD_21, MD_22, MD_23, MD_24, MD_25, MD_26, MD_27, MD_28, MD_29, MD_30, MD_31, MD_32, MD_33, MD_34, MD_35, MD_36, MD_37]
    refine pg_aload_n h d_Mod_go_5 rfl ?_
    refine pf_cV0 h ok d_Mod_go_6 m_Mod_begin l_Mod_217 (c_Mod_begin w ok S _ _ _) cn_Mod (by first | rfl | exact hk | exact hk2 | exact dm12 _ | assumption) rfl rfl rfl (Nat.le_of_ble_eq_true rfl) ⟨(Nat.le_of_ble_eq_true rfl), (Nat.le_of_ble_eq_true rfl)⟩ ⟨Nat.le_refl _, Nat.le_refl _⟩ ?_
    try simp only [MD25, MD26, MD27, MD28, MD29, MD30, MD31, MD32, MD33, MD34, MD35, MD36, MDF32, MDF33, MDF34, MDF35, MDF36, MDF37, MDs_25, MDs_26, MDs_27, MDs_28, MDs_29, MDs_30, MDs_31, MDs_32, MDs_33, MDs_34, MDs_35, MDs_36, MDs_0, MDs_11, MDs_13, MDs_14, MDs_15, MDs_16, MDs_17, MDs_18, MD_21, MD_22, MD_23, MD_24, MD_25, MD_26, MD_27, MD_28, MD_29, MD_30, MD_31, MD_32, MD_33, MD_34, MD_35, MD_36, MD_37]
    refine pg_aload_n h d_Mod_go_9 rfl ?_
    refine pf_cV h ok d_Mod_go_10 m_Mod_shownAt l_Mod_154 (c_shownX w ok A S z _ _ _ hw hR) cn_Mod (by first | rfl | exact hk | exact hk2 | exact dm12 _ | assumption) rfl rfl rfl (Nat.le_of_ble_eq_true rfl) ⟨(Nat.le_of_ble_eq_true rfl), (Nat.le_of_ble_eq_true rfl)⟩ ⟨Nat.le_refl _, Nat.le_refl _⟩ ?_
    try simp only [MD25, MD26, MD27, MD28, MD29, MD30, MD31, MD32, MD33, MD34, MD35, MD36, MDF32, MDF33, MDF34, MDF35, MDF36, MDF37, MDs_25, MDs_26, MDs_27, MDs_28, MDs_29, MDs_30, MDs_31, MDs_32, MDs_33, MDs_34, MDs_35, MDs_36, MDs_0, MDs_11, MDs_13, MDs_14, MDs_15, MDs_16, MDs_17, MDs_18, MD_21, MD_22, MD_23, MD_24, MD_25, MD_26, MD_27, MD_28, MD_29, MD_30, MD_31, MD_32, MD_33, MD_34, MD_35, MD_36, MD_37]
    rw [ek]
    refine pg_istore_n h d_Mod_go_13 (Nat.le_of_ble_eq_true rfl) rfl rfl ?_
    refine pg_iload_n h d_Mod_go_14 rfl ?_
    refine pg_if_ge (tgt := 22) h d_Mod_go_15 rfl (fun e15 => absurd e15 (by decide)) (fun e15 => ?_)
    refine pg_iconst (v := 0) h d_Mod_go_18 (by decide) ?_
    refine pg_goto (tgt := 28) h d_Mod_go_19 rfl ?_
    refine pg_istore_n h d_Mod_go_28 (Nat.le_of_ble_eq_true rfl) rfl rfl ?_
    refine pg_aload_n h d_Mod_go_29 rfl ?_
    refine pg_iload_n h d_Mod_go_30 rfl ?_
    refine pg_if_le (tgt := 44) h d_Mod_go_31 rfl (fun e31 => ?_) (fun e31 => ?_)
    · skip
      refine pg_iconst (v := 0) h d_Mod_go_44 (by decide) ?_
      refine pf_putz 0 h ok d_Mod_go_45 fw_Mod_204 (by first | rfl | exact hk | exact hk2 | exact dm12 _ | assumption) rfl (Nat.le_of_ble_eq_true rfl) rfl ?_
      try simp only [MD25, MD26, MD27, MD28, MD29, MD30, MD31, MD32, MD33, MD34, MD35, MD36, MDF32, MDF33, MDF34, MDF35, MDF36, MDF37, MDs_25, MDs_26, MDs_27, MDs_28, MDs_29, MDs_30, MDs_31, MDs_32, MDs_33, MDs_34, MDs_35, MDs_36, MDs_0, MDs_11, MDs_13, MDs_14, MDs_15, MDs_16, MDs_17, MDs_18, MD_21, MD_22, MD_23, MD_24, MD_25, MD_26, MD_27, MD_28, MD_29, MD_30, MD_31, MD_32, MD_33, MD_34, MD_35, MD_36, MD_37]
      exact tail _ _ _ (by unfold stV; rw [hf]) (by unfold lgV; simp [*])
    refine pg_iload_n h d_Mod_go_34 rfl ?_
    refine pg_bipush (v := 7) h d_Mod_go_35 (by decide) ?_
    refine pg_icmp_ge (tgt := 44) h d_Mod_go_37 rfl (fun e37 => ?_) (fun e37 => ?_)
    · skip
      refine pg_iconst (v := 0) h d_Mod_go_44 (by decide) ?_
      refine pf_putz 0 h ok d_Mod_go_45 fw_Mod_204 (by first | rfl | exact hk | exact hk2 | exact dm12 _ | assumption) rfl (Nat.le_of_ble_eq_true rfl) rfl ?_
      try simp only [MD25, MD26, MD27, MD28, MD29, MD30, MD31, MD32, MD33, MD34, MD35, MD36, MDF32, MDF33, MDF34, MDF35, MDF36, MDF37, MDs_25, MDs_26, MDs_27, MDs_28, MDs_29, MDs_30, MDs_31, MDs_32, MDs_33, MDs_34, MDs_35, MDs_36, MDs_0, MDs_11, MDs_13, MDs_14, MDs_15, MDs_16, MDs_17, MDs_18, MD_21, MD_22, MD_23, MD_24, MD_25, MD_26, MD_27, MD_28, MD_29, MD_30, MD_31, MD_32, MD_33, MD_34, MD_35, MD_36, MD_37]
      exact tail _ _ _ (by unfold stV; rw [hf]) (by unfold lgV; simp [*])
    refine pg_iconst (v := 1) h d_Mod_go_40 (by decide) ?_
    refine pg_goto (tgt := 45) h d_Mod_go_41 rfl ?_
    refine pf_putz 1 h ok d_Mod_go_45 fw_Mod_204 (by first | rfl | exact hk | exact hk2 | exact dm12 _ | assumption) rfl (Nat.le_of_ble_eq_true rfl) rfl ?_
    try simp only [MD25, MD26, MD27, MD28, MD29, MD30, MD31, MD32, MD33, MD34, MD35, MD36, MDF32, MDF33, MDF34, MDF35, MDF36, MDF37, MDs_25, MDs_26, MDs_27, MDs_28, MDs_29, MDs_30, MDs_31, MDs_32, MDs_33, MDs_34, MDs_35, MDs_36, MDs_0, MDs_11, MDs_13, MDs_14, MDs_15, MDs_16, MDs_17, MDs_18, MD_21, MD_22, MD_23, MD_24, MD_25, MD_26, MD_27, MD_28, MD_29, MD_30, MD_31, MD_32, MD_33, MD_34, MD_35, MD_36, MD_37]
    exact tail _ _ _ (by unfold stV; rw [hf]) (by unfold lgV; simp [*])
  | some k =>
    have ek : kpV (shnF A w.2.2.1) = nI k := by rw [hf]; rfl
    have hk := shn_pgk hf
    have hk13 := pgk13 hw.2 hk
    have hpk := hR.2.2.2.2.2 k hk
    rw [← hf]
    refine pg_aload_n h d_Mod_go_0 rfl ?_
    refine pg_iload_n h d_Mod_go_1 rfl ?_
    refine pf_cV0 h ok d_Mod_go_2 m_Mod_fetch l_Mod_214 (c_Mod_fetch w ok A S z _ _ _ hw hR hwt r hr) cn_Mod (by first | rfl | exact hk | exact hk2 | exact dm12 _ | assumption) rfl rfl rfl (Nat.le_of_ble_eq_true rfl) ⟨(Nat.le_of_ble_eq_true rfl), (Nat.le_of_ble_eq_true rfl)⟩ ⟨Nat.le_refl _, Nat.le_refl _⟩ ?_
    try simp only [MD25, MD26, MD27, MD28, MD29, MD30, MD31, MD32, MD33, MD34, MD35, MD36, MDF32, MDF33, MDF34, MDF35, MDF36, MDF37, MDs_25, MDs_26, MDs_27, MDs_28, MDs_29, MDs_30, MDs_31, MDs_32, MDs_33, MDs_34, MDs_35, MDs_36, MDs_0, MDs_11, MDs_13, MDs_14, MDs_15, MDs_16, MDs_17, MDs_18, MD_21, MD_22, MD_23, MD_24, MD_25, MD_26, MD_27, MD_28, MD_29, MD_30, MD_31, MD_32, MD_33, MD_34, MD_35, MD_36, MD_37]
    refine pg_aload_n h d_Mod_go_5 rfl ?_
    refine pf_cV0 h ok d_Mod_go_6 m_Mod_begin l_Mod_217 (c_Mod_begin w ok S _ _ _) cn_Mod (by first | rfl | exact hk | exact hk2 | exact dm12 _ | assumption) rfl rfl rfl (Nat.le_of_ble_eq_true rfl) ⟨(Nat.le_of_ble_eq_true rfl), (Nat.le_of_ble_eq_true rfl)⟩ ⟨Nat.le_refl _, Nat.le_refl _⟩ ?_
    try simp only [MD25, MD26, MD27, MD28, MD29, MD30, MD31, MD32, MD33, MD34, MD35, MD36, MDF32, MDF33, MDF34, MDF35, MDF36, MDF37, MDs_25, MDs_26, MDs_27, MDs_28, MDs_29, MDs_30, MDs_31, MDs_32, MDs_33, MDs_34, MDs_35, MDs_36, MDs_0, MDs_11, MDs_13, MDs_14, MDs_15, MDs_16, MDs_17, MDs_18, MD_21, MD_22, MD_23, MD_24, MD_25, MD_26, MD_27, MD_28, MD_29, MD_30, MD_31, MD_32, MD_33, MD_34, MD_35, MD_36, MD_37]
    refine pg_aload_n h d_Mod_go_9 rfl ?_
    refine pf_cV h ok d_Mod_go_10 m_Mod_shownAt l_Mod_154 (c_shownX w ok A S z _ _ _ hw hR) cn_Mod (by first | rfl | exact hk | exact hk2 | exact dm12 _ | assumption) rfl rfl rfl (Nat.le_of_ble_eq_true rfl) ⟨(Nat.le_of_ble_eq_true rfl), (Nat.le_of_ble_eq_true rfl)⟩ ⟨Nat.le_refl _, Nat.le_refl _⟩ ?_
    try simp only [MD25, MD26, MD27, MD28, MD29, MD30, MD31, MD32, MD33, MD34, MD35, MD36, MDF32, MDF33, MDF34, MDF35, MDF36, MDF37, MDs_25, MDs_26, MDs_27, MDs_28, MDs_29, MDs_30, MDs_31, MDs_32, MDs_33, MDs_34, MDs_35, MDs_36, MDs_0, MDs_11, MDs_13, MDs_14, MDs_15, MDs_16, MDs_17, MDs_18, MD_21, MD_22, MD_23, MD_24, MD_25, MD_26, MD_27, MD_28, MD_29, MD_30, MD_31, MD_32, MD_33, MD_34, MD_35, MD_36, MD_37]
    rw [ek]
    refine pg_istore_n h d_Mod_go_13 (Nat.le_of_ble_eq_true rfl) rfl rfl ?_
    refine pg_iload_n h d_Mod_go_14 rfl ?_
    refine pg_if_ge (tgt := 22) h d_Mod_go_15 rfl (fun e15 => ?_) (fun e15 => absurd e15 (fun q => q (nI_pos' (by omega))))
    refine pg_aload_n h d_Mod_go_22 rfl ?_
    refine pf_get h ok d_Mod_go_23 f_Mod_20 (by first | rfl | exact hk | exact hk2 | exact dm12 _ | assumption) rfl rfl ?_
    try simp only [MD25, MD26, MD27, MD28, MD29, MD30, MD31, MD32, MD33, MD34, MD35, MD36, MDF32, MDF33, MDF34, MDF35, MDF36, MDF37, MDs_25, MDs_26, MDs_27, MDs_28, MDs_29, MDs_30, MDs_31, MDs_32, MDs_33, MDs_34, MDs_35, MDs_36, MDs_0, MDs_11, MDs_13, MDs_14, MDs_15, MDs_16, MDs_17, MDs_18, MD_21, MD_22, MD_23, MD_24, MD_25, MD_26, MD_27, MD_28, MD_29, MD_30, MD_31, MD_32, MD_33, MD_34, MD_35, MD_36, MD_37]
    refine pg_iload_n h d_Mod_go_26 rfl ?_
    refine pf_ild h ok d_Mod_go_27 (by first | rfl | exact hk | exact hk2 | exact dm12 _ | assumption) rfl (pg_ixN rfl (show k < 13 by omega) (by decide)) ?_
    try simp only [MD25, MD26, MD27, MD28, MD29, MD30, MD31, MD32, MD33, MD34, MD35, MD36, MDF32, MDF33, MDF34, MDF35, MDF36, MDF37, MDs_25, MDs_26, MDs_27, MDs_28, MDs_29, MDs_30, MDs_31, MDs_32, MDs_33, MDs_34, MDs_35, MDs_36, MDs_0, MDs_11, MDs_13, MDs_14, MDs_15, MDs_16, MDs_17, MDs_18, MD_21, MD_22, MD_23, MD_24, MD_25, MD_26, MD_27, MD_28, MD_29, MD_30, MD_31, MD_32, MD_33, MD_34, MD_35, MD_36, MD_37]
    refine pg_istore_n h d_Mod_go_28 (Nat.le_of_ble_eq_true rfl) rfl rfl ?_
    refine pg_aload_n h d_Mod_go_29 rfl ?_
    refine pg_iload_n h d_Mod_go_30 rfl ?_
    refine pg_if_le (tgt := 44) h d_Mod_go_31 rfl (fun e31 => ?_) (fun e31 => ?_)
    · skip
      refine pg_iconst (v := 0) h d_Mod_go_44 (by decide) ?_
      refine pf_putz 0 h ok d_Mod_go_45 fw_Mod_204 (by first | rfl | exact hk | exact hk2 | exact dm12 _ | assumption) rfl (Nat.le_of_ble_eq_true rfl) rfl ?_
      try simp only [MD25, MD26, MD27, MD28, MD29, MD30, MD31, MD32, MD33, MD34, MD35, MD36, MDF32, MDF33, MDF34, MDF35, MDF36, MDF37, MDs_25, MDs_26, MDs_27, MDs_28, MDs_29, MDs_30, MDs_31, MDs_32, MDs_33, MDs_34, MDs_35, MDs_36, MDs_0, MDs_11, MDs_13, MDs_14, MDs_15, MDs_16, MDs_17, MDs_18, MD_21, MD_22, MD_23, MD_24, MD_25, MD_26, MD_27, MD_28, MD_29, MD_30, MD_31, MD_32, MD_33, MD_34, MD_35, MD_36, MD_37]
      exact tail _ _ _ (by unfold stV; rw [hf]; exact hpk.2.2.2.1) (by unfold lgV; simp [*])
    refine pg_iload_n h d_Mod_go_34 rfl ?_
    refine pg_bipush (v := 7) h d_Mod_go_35 (by decide) ?_
    refine pg_icmp_ge (tgt := 44) h d_Mod_go_37 rfl (fun e37 => ?_) (fun e37 => ?_)
    · skip
      refine pg_iconst (v := 0) h d_Mod_go_44 (by decide) ?_
      refine pf_putz 0 h ok d_Mod_go_45 fw_Mod_204 (by first | rfl | exact hk | exact hk2 | exact dm12 _ | assumption) rfl (Nat.le_of_ble_eq_true rfl) rfl ?_
      try simp only [MD25, MD26, MD27, MD28, MD29, MD30, MD31, MD32, MD33, MD34, MD35, MD36, MDF32, MDF33, MDF34, MDF35, MDF36, MDF37, MDs_25, MDs_26, MDs_27, MDs_28, MDs_29, MDs_30, MDs_31, MDs_32, MDs_33, MDs_34, MDs_35, MDs_36, MDs_0, MDs_11, MDs_13, MDs_14, MDs_15, MDs_16, MDs_17, MDs_18, MD_21, MD_22, MD_23, MD_24, MD_25, MD_26, MD_27, MD_28, MD_29, MD_30, MD_31, MD_32, MD_33, MD_34, MD_35, MD_36, MD_37]
      exact tail _ _ _ (by unfold stV; rw [hf]; exact hpk.2.2.2.1) (by unfold lgV; simp [*])
    refine pg_iconst (v := 1) h d_Mod_go_40 (by decide) ?_
    refine pg_goto (tgt := 45) h d_Mod_go_41 rfl ?_
    refine pf_putz 1 h ok d_Mod_go_45 fw_Mod_204 (by first | rfl | exact hk | exact hk2 | exact dm12 _ | assumption) rfl (Nat.le_of_ble_eq_true rfl) rfl ?_
    try simp only [MD25, MD26, MD27, MD28, MD29, MD30, MD31, MD32, MD33, MD34, MD35, MD36, MDF32, MDF33, MDF34, MDF35, MDF36, MDF37, MDs_25, MDs_26, MDs_27, MDs_28, MDs_29, MDs_30, MDs_31, MDs_32, MDs_33, MDs_34, MDs_35, MDs_36, MDs_0, MDs_11, MDs_13, MDs_14, MDs_15, MDs_16, MDs_17, MDs_18, MD_21, MD_22, MD_23, MD_24, MD_25, MD_26, MD_27, MD_28, MD_29, MD_30, MD_31, MD_32, MD_33, MD_34, MD_35, MD_36, MD_37]
    exact tail _ _ _ (by unfold stV; rw [hf]; exact hpk.2.2.2.1) (by unfold lgV; simp [*])
