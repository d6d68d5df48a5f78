/-! Constructors of the class, over worlds. -/
abbrev z_Recv : List Value := [.null, .null, .null, .null, .null, .null]
theorem df_Recv : ∀ j, j < 6 → defaultValue (t_Recv j) = vp_V z_Recv j := by
  intro j hj
  rcases (show j = 0 ∨ j = 1 ∨ j = 2 ∨ j = 3 ∨ j = 4 ∨ j = 5 by omega) with rfl | rfl | rfl | rfl | rfl | rfl <;> rfl
abbrev z_Packet : List Value := [.null, .null, .int 0]
theorem df_Packet : ∀ j, j < 3 → defaultValue (t_Packet j) = vp_V z_Packet j := by
  intro j hj
  rcases (show j = 0 ∨ j = 1 ∨ j = 2 by omega) with rfl | rfl | rfl <;> rfl
abbrev z_Page : List Value := [.int 0, .int 0, .int 0, .int 0, .int 0, .null, .null, .null]
theorem df_Page : ∀ j, j < 8 → defaultValue (t_Page j) = vp_V z_Page j := by
  intro j hj
  rcases (show j = 0 ∨ j = 1 ∨ j = 2 ∨ j = 3 ∨ j = 4 ∨ j = 5 ∨ j = 6 ∨ j = 7 by omega) with rfl | rfl | rfl | rfl | rfl | rfl | rfl | rfl <;> rfl
abbrev z_Shelf : List Value := [.null, .null]
theorem df_Shelf : ∀ j, j < 2 → defaultValue (t_Shelf j) = vp_V z_Shelf j := by
  intro j hj
  rcases (show j = 0 ∨ j = 1 by omega) with rfl | rfl <;> rfl
abbrev z_Remote : List Value := [.null, .null, .int 0, .int 0, .int 0, .int 0, .int 0]
theorem df_Remote : ∀ j, j < 7 → defaultValue (t_Remote j) = vp_V z_Remote j := by
  intro j hj
  rcases (show j = 0 ∨ j = 1 ∨ j = 2 ∨ j = 3 ∨ j = 4 ∨ j = 5 ∨ j = 6 by omega) with rfl | rfl | rfl | rfl | rfl | rfl | rfl <;> rfl
abbrev z_Tuner : List Value := [.null, .null, .null, .null, .null, .null, .null]
theorem df_Tuner : ∀ j, j < 7 → defaultValue (t_Tuner j) = vp_V z_Tuner j := by
  intro j hj
  rcases (show j = 0 ∨ j = 1 ∨ j = 2 ∨ j = 3 ∨ j = 4 ∨ j = 5 ∨ j = 6 by omega) with rfl | rfl | rfl | rfl | rfl | rfl | rfl <;> rfl
abbrev z_States : List Value := [.int 0, .int 0, .int 0, .int 0, .int 0, .int 0, .int 0, .int 0, .int 0, .int 0, .int 0]
theorem df_States : ∀ j, j < 11 → defaultValue (t_States j) = vp_V z_States j := by
  intro j hj
  rcases (show j = 0 ∨ j = 1 ∨ j = 2 ∨ j = 3 ∨ j = 4 ∨ j = 5 ∨ j = 6 ∨ j = 7 ∨ j = 8 ∨ j = 9 ∨ j = 10 by omega) with rfl | rfl | rfl | rfl | rfl | rfl | rfl | rfl | rfl | rfl | rfl <;> rfl
abbrev z_Screen : List Value := [.null, .null, .null, .int 0, .int 0, .int 0, .int 0, .int 0]
theorem df_Screen : ∀ j, j < 8 → defaultValue (t_Screen j) = vp_V z_Screen j := by
  intro j hj
  rcases (show j = 0 ∨ j = 1 ∨ j = 2 ∨ j = 3 ∨ j = 4 ∨ j = 5 ∨ j = 6 ∨ j = 7 by omega) with rfl | rfl | rfl | rfl | rfl | rfl | rfl | rfl <;> rfl
abbrev z_Mod : List Value := [.int 0, .null, .null, .null, .null, .null, .null, .null, .null, .null, .null, .int 0, .null, .int 0, .int 0, .int 0, .int 0, .int 0, .int 0, .null, .null, .null, .null, .null, .null, .int 0, .int 0, .int 0, .int 0, .int 0, .int 0, .int 0, .int 0, .int 0, .int 0, .int 0, .int 0]
theorem df_Mod : ∀ j, j < 37 → defaultValue (t_Mod j) = vp_V z_Mod j := by
  intro j hj
  rcases (show j = 0 ∨ j = 1 ∨ j = 2 ∨ j = 3 ∨ j = 4 ∨ j = 5 ∨ j = 6 ∨ j = 7 ∨ j = 8 ∨ j = 9 ∨ j = 10 ∨ j = 11 ∨ j = 12 ∨ j = 13 ∨ j = 14 ∨ j = 15 ∨ j = 16 ∨ j = 17 ∨ j = 18 ∨ j = 19 ∨ j = 20 ∨ j = 21 ∨ j = 22 ∨ j = 23 ∨ j = 24 ∨ j = 25 ∨ j = 26 ∨ j = 27 ∨ j = 28 ∨ j = 29 ∨ j = 30 ∨ j = 31 ∨ j = 32 ∨ j = 33 ∨ j = 34 ∨ j = 35 ∨ j = 36 by omega) with rfl | rfl | rfl | rfl | rfl | rfl | rfl | rfl | rfl | rfl | rfl | rfl | rfl | rfl | rfl | rfl | rfl | rfl | rfl | rfl | rfl | rfl | rfl | rfl | rfl | rfl | rfl | rfl | rfl | rfl | rfl | rfl | rfl | rfl | rfl | rfl | rfl <;> rfl
abbrev wIA (z : pg_Z) (n : Nat) (f : Nat → Int32) : va_E := .inl (z.2.2 0, n, .inl f)
abbrev wQA (z : pg_Z) (n : Nat) (f : Nat → Option Nat) : va_E := .inl (z.2.2 2, n, .inr (.inr (.inr (.inr f))))
/-- a page's four cells: itself, links, overlays, letters -/
abbrev Pg4 : Type := Nat × Nat × Nat × Nat
abbrev pgl (z : pg_Z) (p : Pg4) (ws : va_W) : va_W := (p.1, .inr (2, [.int 0, .int 0, .int 0, .int 0, .int 0, .ref p.2.1, .ref p.2.2.1, .ref p.2.2.2])) :: (p.2.2.2, wIA z 4 (fun _ => 0)) :: (p.2.2.1, wIA z 160 (fun _ => 0)) :: (p.2.1, wIA z 160 (fun _ => 0)) :: ws
def pgs (z : pg_Z) (F : Nat → Pg4) : Nat → va_W → va_W
  | 0, ws => ws
  | n + 1, ws => pgl z (F n) (pgs z F n ws)
theorem pgs_congr (z : pg_Z) {F G : Nat → Pg4} (ws : va_W) : ∀ n, (∀ j, j < n → F j = G j) → pgs z F n ws = pgs z G n ws := by
  intro n
  induction n with
  | zero => intro _; rfl
  | succ n ih =>
    intro h
    show pgl z (F n) (pgs z F n ws) = pgl z (G n) (pgs z G n ws)
    rw [ih (fun j hj => h j (by omega)), h n (by omega)]
theorem pgs_up (z : pg_Z) (F : Nat → Pg4) (ws : va_W) (n : Nat) (p : Pg4) : pgs z (va_up F n p) (n + 1) ws = pgl z p (pgs z F n ws) := by
  show pgl z (va_up F n p n) (pgs z (va_up F n p) n ws) = _
  rw [va_up_self, pgs_congr z (G := F) ws n (fun j hj => va_up_ne _ _ (by omega))]
theorem pgs_mid (z : pg_Z) (F : Nat → Pg4) (x : Nat × va_E) (ws : va_W) : ∀ n, (pgs z F n (x :: ws)).Perm (x :: pgs z F n ws) := by
  intro n
  induction n with
  | zero => exact List.Perm.refl _
  | succ n ih =>
    refine (((ih.cons _).cons _).cons _).cons _ |>.trans ?_
    exact List.perm_middle (l₁ := [_, _, _, _])
/-- the array of the first n pages -/
def qTo (F : Nat → Pg4) (n : Nat) : Nat → Option Nat := fun j => if j < n then some (F j).1 else none
theorem qTo_0 (F : Nat → Pg4) : qTo F 0 = fun _ => none := by
  funext j
  simp [qTo]
theorem qTo_s (F : Nat → Pg4) (n : Nat) (p : Pg4) : va_up (qTo F n) n (some p.1) = qTo (va_up F n p) (n + 1) := by
  funext j
  by_cases h : j = n
  · subst h
    simp [va_up, qTo]
  · by_cases h2 : j < n
    · have h3 : j < n + 1 := by omega
      simp [va_up, qTo, h, h2, h3]
    · have h3 : ¬ j < n + 1 := by omega
      simp [va_up, qTo, h, h2, h3]
set_option maxRecDepth 100000 in
set_option maxHeartbeats 4000000 in
theorem c_Page_init (z : pg_Z) (a : Nat) (ws : va_W) : wl_C z y_Page_init b_Page_init 1 ⟨1, 3, 324, 20⟩ [.ref a] ((a, .inr (2, z_Page)) :: ws) (fun x : Nat × Nat × Nat => pgl z (a, x) ws) := by
  refine wl_enter (by decide) (Nat.le_of_ble_eq_true rfl) (lv0 := [some (.ref a)]) rfl (fun κ h => ?_)
  refine pg_aload_n h d_Page_init_0 rfl ?_
  refine wl_obj h d_Page_init_1 (pg_tb 58 rfl rfl) (Nat.le_of_ble_eq_true rfl) (Nat.le_of_ble_eq_true rfl) ?_
  refine pg_aload_n h d_Page_init_4 rfl ?_
  refine pg_sipush (v := 160) h d_Page_init_5 (by decide) ?_
  refine wl_newI 160 h d_Page_init_8 (by decide) (by decide) (by decide) ⟨(Nat.le_of_ble_eq_true rfl), (Nat.le_of_ble_eq_true rfl)⟩ (fun q8 => ?_)
  refine wl_putF 5 h d_Page_init_10 cf_Page (pg_tb 74 rfl rfl) (by decide) rfl rfl rfl rfl rfl (Nat.le_of_ble_eq_true rfl) ?_
  refine pg_aload_n h d_Page_init_13 rfl ?_
  refine pg_sipush (v := 160) h d_Page_init_14 (by decide) ?_
  refine wl_newI 160 h d_Page_init_17 (by decide) (by decide) (by decide) ⟨(Nat.le_of_ble_eq_true rfl), (Nat.le_of_ble_eq_true rfl)⟩ (fun q17 => ?_)
  refine wl_putF 6 h d_Page_init_19 cf_Page (pg_tb 75 rfl rfl) (by decide) rfl rfl rfl rfl rfl (Nat.le_of_ble_eq_true rfl) ?_
  refine pg_aload_n h d_Page_init_22 rfl ?_
  refine pg_iconst (v := 4) h d_Page_init_23 (by decide) ?_
  refine wl_newI 4 h d_Page_init_24 (by decide) (by decide) (by decide) ⟨(Nat.le_of_ble_eq_true rfl), (Nat.le_of_ble_eq_true rfl)⟩ (fun q24 => ?_)
  refine wl_putF 7 h d_Page_init_26 cf_Page (pg_tb 76 rfl rfl) (by decide) rfl rfl rfl rfl rfl (Nat.le_of_ble_eq_true rfl) ?_
  exact wl_vret (F := fun x : Nat × Nat × Nat => pgl z (a, x) ws) (q8, q17, q24) h d_Page_init_29 ⟨(Nat.le_of_ble_eq_true rfl), (Nat.le_of_ble_eq_true rfl)⟩--end
set_option maxRecDepth 100000 in
set_option maxHeartbeats 4000000 in
theorem c_Packet_init (z : pg_Z) (a t : Nat) (ws : va_W) : wl_C z y_Packet_init b_Packet_init 2 ⟨1, 1, 22, 20⟩ [.ref a, .ref t] ((a, .inr (1, z_Packet)) :: ws) (fun x : Nat => (a, .inr (1, [.ref x, .ref t, .int 0])) :: (x, wIA z 22 (fun _ => 0)) :: ws) := by
  refine wl_enter (by decide) (Nat.le_of_ble_eq_true rfl) (lv0 := [some (.ref a), some (.ref t)]) rfl (fun κ h => ?_)
  refine pg_aload_n h d_Packet_init_0 rfl ?_
  refine wl_obj h d_Packet_init_1 (pg_tb 27 rfl rfl) (Nat.le_of_ble_eq_true rfl) (Nat.le_of_ble_eq_true rfl) ?_
  refine pg_aload_n h d_Packet_init_4 rfl ?_
  refine pg_bipush (v := 22) h d_Packet_init_5 (by decide) ?_
  refine wl_newI 22 h d_Packet_init_7 (by decide) (by decide) (by decide) ⟨(Nat.le_of_ble_eq_true rfl), (Nat.le_of_ble_eq_true rfl)⟩ (fun q7 => ?_)
  refine wl_putF 0 h d_Packet_init_9 cf_Packet (pg_tb 28 rfl rfl) (by decide) rfl rfl rfl rfl rfl (Nat.le_of_ble_eq_true rfl) ?_
  refine pg_aload_n h d_Packet_init_12 rfl ?_
  refine pg_aload_n h d_Packet_init_13 rfl ?_
  refine wl_putF 1 h d_Packet_init_14 cf_Packet (pg_tb 29 rfl rfl) (by decide) rfl rfl rfl rfl rfl (Nat.le_of_ble_eq_true rfl) ?_
  exact wl_vret (F := fun x : Nat => (a, .inr (1, [.ref x, .ref t, .int 0])) :: (x, wIA z 22 (fun _ => 0)) :: ws) q7 h d_Packet_init_17 ⟨(Nat.le_of_ble_eq_true rfl), (Nat.le_of_ble_eq_true rfl)⟩--end
set_option maxRecDepth 100000 in
set_option maxHeartbeats 4000000 in
theorem c_States_init (z : pg_Z) (a : Nat) (ws : va_W) : wl_C z y_States_init b_States_init 1 ⟨1, 0, 0, 20⟩ [.ref a] ((a, .inr (6, z_States)) :: ws) (fun x : Unit => (a, .inr (6, z_States)) :: ws) := by
  refine wl_enter (by decide) (Nat.le_of_ble_eq_true rfl) (lv0 := [some (.ref a)]) rfl (fun κ h => ?_)
  refine pg_aload_n h d_States_init_0 rfl ?_
  refine wl_obj h d_States_init_1 (pg_tb 184 rfl rfl) (Nat.le_of_ble_eq_true rfl) (Nat.le_of_ble_eq_true rfl) ?_
  exact wl_vret (F := fun _ : Unit => (a, .inr (6, z_States)) :: ws) () h d_States_init_4 ⟨(Nat.le_of_ble_eq_true rfl), (Nat.le_of_ble_eq_true rfl)⟩--end
set_option maxRecDepth 100000 in
set_option maxHeartbeats 4000000 in
theorem c_Screen_init (z : pg_Z) (a r ro : Nat) (ws : va_W) : wl_C z y_Screen_init b_Screen_init 3 ⟨2, 1, 11, 40⟩ [.ref a, .ref r, .ref ro] ((a, .inr (7, z_Screen)) :: ws) (fun x : Nat => (a, .inr (7, [.ref r, .ref ro, .ref x, .int 1, .int 0, .int 0, .int 0, .int 0])) :: (x, .inr (6, z_States)) :: ws) := by
  refine wl_enter (by decide) (Nat.le_of_ble_eq_true rfl) (lv0 := [some (.ref a), some (.ref r), some (.ref ro)]) rfl (fun κ h => ?_)
  refine pg_aload_n h d_Screen_init_0 rfl ?_
  refine wl_obj h d_Screen_init_1 (pg_tb 178 rfl rfl) (Nat.le_of_ble_eq_true rfl) (Nat.le_of_ble_eq_true rfl) ?_
  refine pg_aload_n h d_Screen_init_4 rfl ?_
  refine wl_new h d_Screen_init_5 cf_States (pg_tb 179 rfl rfl) (pg_tb 180 rfl rfl) (pg_tb 10 rfl rfl) df_States ⟨(Nat.le_of_ble_eq_true rfl), (Nat.le_of_ble_eq_true rfl)⟩ (fun q5 => ?_)
  refine pg_dup h d_Screen_init_8 rfl ?_
  refine wl_cI h d_Screen_init_9 m_States_init l_Screen_11 (c_States_init z q5 _) rfl rfl (Nat.le_of_ble_eq_true rfl) ⟨(Nat.le_of_ble_eq_true rfl), (Nat.le_of_ble_eq_true rfl)⟩ ⟨(Nat.le_of_ble_eq_true rfl), (Nat.le_of_ble_eq_true rfl)⟩ (fun x9 => ?_)
  refine wl_pm (List.Perm.swap _ _ _) ?_
  refine wl_putF 2 h d_Screen_init_12 cf_Screen (pg_tb 231 rfl rfl) (by decide) rfl rfl rfl rfl rfl (Nat.le_of_ble_eq_true rfl) ?_
  refine pg_aload_n h d_Screen_init_15 rfl ?_
  refine pg_iconst (v := 1) h d_Screen_init_16 (by decide) ?_
  refine wl_put h d_Screen_init_17 fw_Screen_18 rfl rfl (Nat.le_of_ble_eq_true rfl) ?_
  refine pg_aload_n h d_Screen_init_20 rfl ?_
  refine pg_aload_n h d_Screen_init_21 rfl ?_
  refine wl_putF 0 h d_Screen_init_22 cf_Screen (pg_tb 229 rfl rfl) (by decide) rfl rfl rfl rfl rfl (Nat.le_of_ble_eq_true rfl) ?_
  refine pg_aload_n h d_Screen_init_25 rfl ?_
  refine pg_aload_n h d_Screen_init_26 rfl ?_
  refine wl_putF 1 h d_Screen_init_27 cf_Screen (pg_tb 230 rfl rfl) (by decide) rfl rfl rfl rfl rfl (Nat.le_of_ble_eq_true rfl) ?_
  exact wl_vret (F := fun x : Nat => (a, .inr (7, [.ref r, .ref ro, .ref x, .int 1, .int 0, .int 0, .int 0, .int 0])) :: (x, .inr (6, z_States)) :: ws) q5 h d_Screen_init_30 ⟨(Nat.le_of_ble_eq_true rfl), (Nat.le_of_ble_eq_true rfl)⟩--end
set_option maxRecDepth 100000 in
set_option maxHeartbeats 4000000 in
theorem c_Remote_init (z : pg_Z) (a s : Nat) (ws : va_W) : wl_C z y_Remote_init b_Remote_init 2 ⟨2, 4, 332, 40⟩ [.ref a, .ref s] ((a, .inr (4, z_Remote)) :: ws) (fun x : Pg4 => (a, .inr (4, [.ref s, .ref x.1, .int 256, .int 0, .int 0, .int 0, .int 0])) :: pgl z x ws) := by
  refine wl_enter (by decide) (Nat.le_of_ble_eq_true rfl) (lv0 := [some (.ref a), some (.ref s)]) rfl (fun κ h => ?_)
  refine pg_aload_n h d_Remote_init_0 rfl ?_
  refine wl_obj h d_Remote_init_1 (pg_tb 107 rfl rfl) (Nat.le_of_ble_eq_true rfl) (Nat.le_of_ble_eq_true rfl) ?_
  refine pg_aload_n h d_Remote_init_4 rfl ?_
  refine wl_new h d_Remote_init_5 cf_Page (pg_tb 108 rfl rfl) (pg_tb 54 rfl rfl) (pg_tb 5 rfl rfl) df_Page ⟨(Nat.le_of_ble_eq_true rfl), (Nat.le_of_ble_eq_true rfl)⟩ (fun q5 => ?_)
  refine pg_dup h d_Remote_init_8 rfl ?_
  refine wl_cI h d_Remote_init_9 m_Page_init l_Remote_11 (c_Page_init z q5 _) rfl rfl (Nat.le_of_ble_eq_true rfl) ⟨(Nat.le_of_ble_eq_true rfl), (Nat.le_of_ble_eq_true rfl)⟩ ⟨(Nat.le_of_ble_eq_true rfl), (Nat.le_of_ble_eq_true rfl)⟩ (fun x9 => ?_)
  refine wl_pm (List.perm_middle (l₁ := [_, _, _, _])) ?_
  refine wl_putF 1 h d_Remote_init_12 cf_Remote (pg_tb 111 rfl rfl) (by decide) rfl rfl rfl rfl rfl (Nat.le_of_ble_eq_true rfl) ?_
  refine pg_aload_n h d_Remote_init_15 rfl ?_
  refine pg_sipush (v := 256) h d_Remote_init_16 (by decide) ?_
  refine wl_put h d_Remote_init_19 fw_Remote_18 rfl rfl (Nat.le_of_ble_eq_true rfl) ?_
  refine pg_aload_n h d_Remote_init_22 rfl ?_
  refine pg_aload_n h d_Remote_init_23 rfl ?_
  refine wl_putF 0 h d_Remote_init_24 cf_Remote (pg_tb 110 rfl rfl) (by decide) rfl rfl rfl rfl rfl (Nat.le_of_ble_eq_true rfl) ?_
  exact wl_vret (F := fun x : Pg4 => (a, .inr (4, [.ref s, .ref x.1, .int 256, .int 0, .int 0, .int 0, .int 0])) :: pgl z x ws) (q5, x9) h d_Remote_init_27 ⟨(Nat.le_of_ble_eq_true rfl), (Nat.le_of_ble_eq_true rfl)⟩--end
set_option maxRecDepth 100000 in
set_option maxHeartbeats 4000000 in
theorem c_wfill (z : pg_Z) (a n : Nat) (f : Nat → Int32) (v : Int32) (ws : va_W) (hn : n < 2 ^ 31) : wl_C z y_JArr_fill b_JArr_fill 4 ⟨0, 0, 0, 0⟩ [.ref a, .int v] ((a, wIA z n f) :: ws) (fun _ : Unit => (a, wIA z n (filTo f v n)) :: ws) := by
  refine wl_enter (by decide) (Nat.le_of_ble_eq_true rfl) (lv0 := [some (.ref a), some (.int v), none, none]) rfl (fun κ h => ?_)
  have loop : ∀ (q j : Nat), j + q = n → pg_G κ z 4 0 0 (pg_Q κ z (fun r H => r = none ∧ ∃ _ : Unit, wl_P z ((a, wIA z n (filTo f v n)) :: ws) H) 0 0) (wl_P z ((a, wIA z n (filTo f v j)) :: ws)) 5 [some (.ref a), some (.int v), some (.int (nI j)), some (.int (nI n))] [] := by
    intro q
    induction q with
    | zero =>
      intro j hj
      have hj : j = n := by omega
      subst hj
      refine pg_iload_n h d_JArr_fill_5 rfl ?_
      refine pg_iload_n h d_JArr_fill_6 rfl ?_
      refine pg_icmp_ge (tgt := 20) h d_JArr_fill_7 rfl (fun e7 => ?_) (fun e7 => absurd e7 (fun e => e (Int32.le_refl _)))
      exact pg_vret h d_JArr_fill_20 (fun H hP => ⟨rfl, (), hP⟩)
    | succ q ih =>
      intro j hj
      refine pg_iload_n h d_JArr_fill_5 rfl ?_
      refine pg_iload_n h d_JArr_fill_6 rfl ?_
      refine pg_icmp_ge (tgt := 20) h d_JArr_fill_7 rfl (fun e7 => absurd e7 (nI_ge (show j < n by omega) hn)) (fun e7 => ?_)
      refine pg_aload_n h d_JArr_fill_10 rfl ?_
      refine pg_iload_n h d_JArr_fill_11 rfl ?_
      refine pg_iload_n h d_JArr_fill_12 rfl ?_
      refine wl_ist h d_JArr_fill_13 (pg_ixN rfl (show j < n by omega) hn) ?_
      refine pg_iinc (w := 1) h d_JArr_fill_14 rfl (by decide) (Nat.le_of_ble_eq_true rfl) rfl rfl ?_
      refine pg_goto (tgt := 5) h d_JArr_fill_17 rfl ?_
      rw [← nI_succ j, filTo_s]
      exact ih (j + 1) (by omega)
  refine pg_iconst (v := 0) h d_JArr_fill_0 (by decide) ?_
  refine pg_istore_n h d_JArr_fill_1 (Nat.le_of_ble_eq_true rfl) rfl rfl ?_
  refine pg_aload_n h d_JArr_fill_2 rfl ?_
  refine wl_len (v := nI n) h d_JArr_fill_3 0 rfl rfl ?_
  refine pg_istore_n h d_JArr_fill_4 (Nat.le_of_ble_eq_true rfl) rfl rfl ?_
  have q := loop n 0 (by omega)
  rw [filTo_0] at q
  exact q
set_option maxRecDepth 100000 in
set_option maxHeartbeats 4000000 in
theorem c_Shelf_init (z : pg_Z) (a t P : Nat) (hP : 1 ≤ P ∧ P ≤ 4) (ws : va_W) : wl_C z y_Shelf_init b_Shelf_init 4 ⟨2, 17, 1332, 40⟩ [.ref a, .int (nI P), .ref t] ((a, .inr (3, z_Shelf)) :: ws) (fun x : Nat × (Nat → Pg4) => (x.1, wQA z P (fun j => some (x.2 j).1)) :: (a, .inr (3, [.ref x.1, .ref t])) :: pgs z x.2 P ws) := by
  refine wl_enter (by decide) (Nat.le_of_ble_eq_true rfl) (lv0 := [some (.ref a), some (.int (nI P)), some (.ref t), none]) rfl (fun κ h => ?_)
  have loop : ∀ (pl q j : Nat) (F : Nat → Pg4), j + q = P → pg_G κ z 4 (1 + 4 * j) (P + 332 * j) (pg_Q κ z (fun r H => r = none ∧ ∃ x : Nat × (Nat → Pg4), wl_P z ((x.1, wQA z P (fun j => some (x.2 j).1)) :: (a, .inr (3, [.ref x.1, .ref t])) :: pgs z x.2 P ws) H) 17 1332) (wl_P z ((pl, wQA z P (qTo F j)) :: (a, .inr (3, [.ref pl, .ref t])) :: pgs z F j ws)) 19 [some (.ref a), some (.int (nI P)), some (.ref t), some (.int (nI j))] [] := by
    intro pl q
    induction q with
    | zero =>
      intro j F hj
      have hj : j = P := by omega
      subst hj
      refine pg_iload_n h d_Shelf_init_19 rfl ?_
      refine pg_iload_n h d_Shelf_init_20 rfl ?_
      refine pg_icmp_ge (tgt := 43) h d_Shelf_init_21 rfl (fun e21 => ?_) (fun e21 => absurd e21 (fun e => e (Int32.le_refl _)))
      exact pg_wide (by omega) (by omega) (pg_vret h d_Shelf_init_43 (fun H hP => ⟨rfl, (pl, F), wl_cell (wl_qcell (fun i hi => by simp [qTo, hi])) hP⟩))--end
    | succ q ih =>
      intro j F hj
      refine pg_iload_n h d_Shelf_init_19 rfl ?_
      refine pg_iload_n h d_Shelf_init_20 rfl ?_
      refine pg_icmp_ge (tgt := 43) h d_Shelf_init_21 rfl (fun e21 => absurd e21 (nI_ge (show j < P by omega) (by omega))) (fun e21 => ?_)
      refine pg_aload_n h d_Shelf_init_24 rfl ?_
      refine wl_get h d_Shelf_init_25 f_Shelf_17 1 rfl rfl ?_
      refine pg_iload_n h d_Shelf_init_28 rfl ?_
      refine wl_new h d_Shelf_init_29 cf_Page (pg_tb 52 rfl rfl) (pg_tb 54 rfl rfl) (pg_tb 5 rfl rfl) df_Page ⟨show 1 + 4 * j + 1 ≤ 17 by omega, show P + 332 * j + 8 ≤ 1332 by omega⟩ (fun q29 => ?_)
      refine pg_dup h d_Shelf_init_32 rfl ?_
      refine wl_cI h d_Shelf_init_33 m_Page_init l_Shelf_21 (c_Page_init z q29 _) rfl rfl (Nat.le_of_ble_eq_true rfl) ⟨(Nat.le_of_ble_eq_true rfl), (Nat.le_of_ble_eq_true rfl)⟩ ⟨show 1 + 4 * j + 1 + 3 ≤ 17 by omega, show P + 332 * j + 8 + 324 ≤ 1332 by omega⟩ (fun x33 => ?_)
      refine wl_pm (List.perm_middle (l₁ := [_, _, _, _])) ?_
      refine wl_ast h d_Shelf_init_36 (pg_ixN rfl (show j < P by omega) (by omega)) 1 rfl ?_
      refine pg_iinc (w := 1) h d_Shelf_init_37 rfl (by decide) (Nat.le_of_ble_eq_true rfl) rfl rfl ?_
      refine pg_goto (tgt := 19) h d_Shelf_init_40 rfl ?_
      rw [← nI_succ j]
      refine pg_wide (show 1 + 4 * j + 1 + 3 ≤ 1 + 4 * (j + 1) by omega) (show P + 332 * j + 8 + 324 ≤ P + 332 * (j + 1) by omega) (wl_pm ?_ (ih (j + 1) (va_up F j (q29, x33)) (by omega)))
      rw [qTo_s F j (q29, x33), pgs_up]
      exact (List.perm_middle (l₁ := [_, _, _, _])).cons _
  refine pg_aload_n h d_Shelf_init_0 rfl ?_
  refine wl_obj h d_Shelf_init_1 (pg_tb 51 rfl rfl) (Nat.le_of_ble_eq_true rfl) (Nat.le_of_ble_eq_true rfl) ?_
  refine pg_aload_n h d_Shelf_init_4 rfl ?_
  refine pg_aload_n h d_Shelf_init_5 rfl ?_
  refine wl_putF 1 h d_Shelf_init_6 cf_Shelf (pg_tb 96 rfl rfl) (by decide) rfl rfl rfl rfl rfl (Nat.le_of_ble_eq_true rfl) ?_
  refine pg_aload_n h d_Shelf_init_9 rfl ?_
  refine pg_iload_n h d_Shelf_init_10 rfl ?_
  refine wl_newQ P h d_Shelf_init_11 (pg_tb 52 rfl rfl) (nI_pos (by omega)) (nI_clamp (by omega)) (by omega) ⟨Nat.le_of_ble_eq_true rfl, show 0 + P ≤ 1332 by omega⟩ (fun q11 => ?_)
  refine wl_putF 0 h d_Shelf_init_14 cf_Shelf (pg_tb 95 rfl rfl) (by decide) rfl rfl rfl rfl rfl (Nat.le_of_ble_eq_true rfl) ?_
  refine pg_iconst (v := 0) h d_Shelf_init_17 (by decide) ?_
  refine pg_istore_n h d_Shelf_init_18 (Nat.le_of_ble_eq_true rfl) rfl rfl ?_
  have q := loop q11 P 0 (fun _ => (0, 0, 0, 0)) (by omega)
  rw [qTo_0] at q
  exact pg_wide (Nat.le_refl _) (show 0 + P ≤ P + 332 * 0 by omega) (wl_pm (List.Perm.swap _ _ _) q)
