/-! Constructors: tuner, receiver; the reference. -/
set_option maxRecDepth 100000 in
set_option maxHeartbeats 4000000 in
theorem c_Tuner_init (z : pg_Z) (a pk s rr t : Nat) (ws : va_W) : wl_C z y_Tuner_init b_Tuner_init 6 ⟨2, 35, 2690, 40⟩ [.ref a, .ref pk, .ref s, .ref rr, .ref t] ((a, .inr (5, z_Tuner)) :: ws) (fun x : Nat × Nat × Nat × (Nat → Pg4) => (x.2.2.1, wIA z 20 (filTo (fun _ => 0) 32 20)) :: (x.1, wQA z 8 (fun j => some (x.2.2.2 j).1)) :: (a, .inr (5, [.ref pk, .ref s, .ref rr, .ref t, .ref x.1, .ref x.2.2.1, .ref x.2.1])) :: (x.2.1, wIA z 6 (fun _ => 0)) :: pgs z x.2.2.2 8 ws) := by
  refine wl_enter (by decide) (Nat.le_of_ble_eq_true rfl) (lv0 := [some (.ref a), some (.ref pk), some (.ref s), some (.ref rr), some (.ref t), none]) rfl (fun κ h => ?_)
  have loop : ∀ (c hd ro q j : Nat) (F : Nat → Pg4), j + q = 8 → pg_G κ z 6 (3 + 4 * j) (34 + 332 * j) (pg_Q κ z (fun r H => r = none ∧ ∃ x : Nat × Nat × Nat × (Nat → Pg4), wl_P z ((x.2.2.1, wIA z 20 (filTo (fun _ => 0) 32 20)) :: (x.1, wQA z 8 (fun j => some (x.2.2.2 j).1)) :: (a, .inr (5, [.ref pk, .ref s, .ref rr, .ref t, .ref x.1, .ref x.2.2.1, .ref x.2.1])) :: (x.2.1, wIA z 6 (fun _ => 0)) :: pgs z x.2.2.2 8 ws) H) 35 2690) (wl_P z ((c, wQA z 8 (qTo F j)) :: (a, .inr (5, [.ref pk, .ref s, .ref rr, .ref t, .ref c, .ref ro, .ref hd])) :: (hd, wIA z 6 (fun _ => 0)) :: (ro, wIA z 20 (fun _ => 0)) :: pgs z F j ws)) 53 [some (.ref a), some (.ref pk), some (.ref s), some (.ref rr), some (.ref t), some (.int (nI j))] [] := by
    intro c hd ro q
    induction q with
    | zero =>
      intro j F hj
      have hj : j = 8 := by omega
      subst hj
      refine pg_iload h d_Tuner_init_53 rfl ?_
      refine pg_bipush (v := 8) h d_Tuner_init_55 (by decide) ?_
      refine pg_icmp_ge (tgt := 80) h d_Tuner_init_57 rfl (fun e57 => ?_) (fun e57 => absurd e57 (fun e => e (Int32.le_refl _)))
      refine pg_aload_n h d_Tuner_init_80 rfl ?_
      refine wl_get h d_Tuner_init_81 f_Tuner_17 1 rfl rfl ?_
      refine pg_bipush (v := 32) h d_Tuner_init_84 (by decide) ?_
      refine wl_pm (List.perm_middle (l₁ := [_, _, _])) ?_
      refine wl_cS0 h d_Tuner_init_86 m_JArr_fill l_Tuner_40 (c_wfill z ro 20 _ 32 _ (by decide)) rfl rfl (Nat.le_of_ble_eq_true rfl) ⟨(Nat.le_of_ble_eq_true rfl), (Nat.le_of_ble_eq_true rfl)⟩ ⟨(Nat.le_of_ble_eq_true rfl), (Nat.le_of_ble_eq_true rfl)⟩ (fun _ => ?_)
      exact pg_wide (Nat.le_of_ble_eq_true rfl) (Nat.le_of_ble_eq_true rfl) (pg_vret h d_Tuner_init_89 (fun H hP => ⟨rfl, (c, hd, ro, F), wl_perm (List.Perm.swap _ _ _) (wl_cell (wl_qcell (fun i hi => by simp [qTo, hi])) (wl_perm (List.Perm.swap _ _ _) hP))⟩))--end
    | succ q ih =>
      intro j F hj
      refine pg_iload h d_Tuner_init_53 rfl ?_
      refine pg_bipush (v := 8) h d_Tuner_init_55 (by decide) ?_
      refine pg_icmp_ge (tgt := 80) h d_Tuner_init_57 rfl (fun e57 => absurd e57 (nI_ge (show j < 8 by omega) (by decide))) (fun e57 => ?_)
      refine pg_aload_n h d_Tuner_init_60 rfl ?_
      refine wl_get h d_Tuner_init_61 f_Tuner_11 1 rfl rfl ?_
      refine pg_iload h d_Tuner_init_64 rfl ?_
      refine wl_new h d_Tuner_init_66 cf_Page (pg_tb 145 rfl rfl) (pg_tb 54 rfl rfl) (pg_tb 5 rfl rfl) df_Page ⟨show 3 + 4 * j + 1 ≤ 35 by omega, show 34 + 332 * j + 8 ≤ 2690 by omega⟩ (fun q66 => ?_)
      refine pg_dup h d_Tuner_init_69 rfl ?_
      refine wl_cI h d_Tuner_init_70 m_Page_init l_Tuner_39 (c_Page_init z q66 _) rfl rfl (Nat.le_of_ble_eq_true rfl) ⟨(Nat.le_of_ble_eq_true rfl), (Nat.le_of_ble_eq_true rfl)⟩ ⟨show 3 + 4 * j + 1 + 3 ≤ 35 by omega, show 34 + 332 * j + 8 + 324 ≤ 2690 by omega⟩ (fun x70 => ?_)
      refine wl_pm (List.perm_middle (l₁ := [_, _, _, _])) ?_
      refine wl_ast h d_Tuner_init_73 (pg_ixN rfl (show j < 8 by omega) (by decide)) 1 rfl ?_
      refine pg_iinc (w := 1) h d_Tuner_init_74 rfl (by decide) (Nat.le_of_ble_eq_true rfl) rfl rfl ?_
      refine pg_goto (tgt := 53) h d_Tuner_init_77 rfl ?_
      rw [← nI_succ j]
      refine pg_wide (show 3 + 4 * j + 1 + 3 ≤ 3 + 4 * (j + 1) by omega) (show 34 + 332 * j + 8 + 324 ≤ 34 + 332 * (j + 1) by omega) (wl_pm ?_ (ih (j + 1) (va_up F j (q66, x70)) (by omega)))
      rw [qTo_s F j (q66, x70), pgs_up]
      exact ((List.perm_middle (l₁ := [_, _, _, _])).trans (((List.perm_middle (l₁ := [_, _, _, _])).trans ((List.perm_middle (l₁ := [_, _, _, _])).cons _)).cons _)).cons _
  refine pg_aload_n h d_Tuner_init_0 rfl ?_
  refine wl_obj h d_Tuner_init_1 (pg_tb 144 rfl rfl) (Nat.le_of_ble_eq_true rfl) (Nat.le_of_ble_eq_true rfl) ?_
  refine pg_aload_n h d_Tuner_init_4 rfl ?_
  refine pg_bipush (v := 8) h d_Tuner_init_5 (by decide) ?_
  refine wl_newQ 8 h d_Tuner_init_7 (pg_tb 145 rfl rfl) (by decide) (by decide) (by decide) ⟨(Nat.le_of_ble_eq_true rfl), (Nat.le_of_ble_eq_true rfl)⟩ (fun q7 => ?_)
  refine wl_putF 4 h d_Tuner_init_10 cf_Tuner (pg_tb 154 rfl rfl) (by decide) rfl rfl rfl rfl rfl (Nat.le_of_ble_eq_true rfl) ?_
  refine pg_aload_n h d_Tuner_init_13 rfl ?_
  refine pg_bipush (v := 20) h d_Tuner_init_14 (by decide) ?_
  refine wl_newI 20 h d_Tuner_init_16 (by decide) (by decide) (by decide) ⟨(Nat.le_of_ble_eq_true rfl), (Nat.le_of_ble_eq_true rfl)⟩ (fun q16 => ?_)
  refine wl_putF 5 h d_Tuner_init_18 cf_Tuner (pg_tb 155 rfl rfl) (by decide) rfl rfl rfl rfl rfl (Nat.le_of_ble_eq_true rfl) ?_
  refine pg_aload_n h d_Tuner_init_21 rfl ?_
  refine pg_bipush (v := 6) h d_Tuner_init_22 (by decide) ?_
  refine wl_newI 6 h d_Tuner_init_24 (by decide) (by decide) (by decide) ⟨(Nat.le_of_ble_eq_true rfl), (Nat.le_of_ble_eq_true rfl)⟩ (fun q24 => ?_)
  refine wl_putF 6 h d_Tuner_init_26 cf_Tuner (pg_tb 157 rfl rfl) (by decide) rfl rfl rfl rfl rfl (Nat.le_of_ble_eq_true rfl) ?_
  refine pg_aload_n h d_Tuner_init_29 rfl ?_
  refine pg_aload_n h d_Tuner_init_30 rfl ?_
  refine wl_putF 0 h d_Tuner_init_31 cf_Tuner (pg_tb 150 rfl rfl) (by decide) rfl rfl rfl rfl rfl (Nat.le_of_ble_eq_true rfl) ?_
  refine pg_aload_n h d_Tuner_init_34 rfl ?_
  refine pg_aload_n h d_Tuner_init_35 rfl ?_
  refine wl_putF 1 h d_Tuner_init_36 cf_Tuner (pg_tb 151 rfl rfl) (by decide) rfl rfl rfl rfl rfl (Nat.le_of_ble_eq_true rfl) ?_
  refine pg_aload_n h d_Tuner_init_39 rfl ?_
  refine pg_aload_n h d_Tuner_init_40 rfl ?_
  refine wl_putF 2 h d_Tuner_init_41 cf_Tuner (pg_tb 152 rfl rfl) (by decide) rfl rfl rfl rfl rfl (Nat.le_of_ble_eq_true rfl) ?_
  refine pg_aload_n h d_Tuner_init_44 rfl ?_
  refine pg_aload h d_Tuner_init_45 rfl ?_
  refine wl_putF 3 h d_Tuner_init_47 cf_Tuner (pg_tb 153 rfl rfl) (by decide) rfl rfl rfl rfl rfl (Nat.le_of_ble_eq_true rfl) ?_
  refine pg_iconst (v := 0) h d_Tuner_init_50 (by decide) ?_
  refine pg_istore h d_Tuner_init_51 (Nat.le_of_ble_eq_true rfl) rfl rfl ?_
  have q := loop q7 q24 q16 8 0 (fun _ => (0, 0, 0, 0)) (by omega)
  rw [qTo_0] at q
  exact pg_wide (Nat.le_of_ble_eq_true rfl) (Nat.le_of_ble_eq_true rfl) (wl_pm (List.perm_middle (l₁ := [_, _, _])) q)
/-- the class's cells, by their addresses -/
abbrev CAd : Type := (Nat → Nat) × Pg4 × (Nat → Pg4) × (Nat → Pg4)
abbrev rcv (z : pg_Z) (a P : Nat) (x : CAd) (ws : va_W) : va_W :=
  (a, .inr (0, [.ref (x.1 1), .ref (x.1 2), .ref (x.1 4), .ref (x.1 6), .ref (x.1 8), .ref (x.1 12)])) ::
  ((x.1 12), .inr (7, [.ref (x.1 6), .ref (x.1 10), .ref (x.1 13), .int 1, .int 0, .int 0, .int 0, .int 0])) :: ((x.1 13), .inr (6, z_States)) ::
  ((x.1 10), wIA z 20 (filTo (fun _ => 0) 32 20)) :: ((x.1 9), wQA z 8 (fun j => some (x.2.2.2 j).1)) :: ((x.1 8), .inr (5, [.ref (x.1 2), .ref (x.1 4), .ref (x.1 6), .ref (x.1 1), .ref (x.1 9), .ref (x.1 10), .ref (x.1 11)])) :: ((x.1 11), wIA z 6 (fun _ => 0)) :: pgs z x.2.2.2 8
  (((x.1 6), .inr (4, [.ref (x.1 4), .ref x.2.1.1, .int 256, .int 0, .int 0, .int 0, .int 0])) :: pgl z x.2.1
  (((x.1 5), wQA z P (fun j => some (x.2.2.1 j).1)) :: ((x.1 4), .inr (3, [.ref (x.1 5), .ref (x.1 1)])) :: pgs z x.2.2.1 P
  (((x.1 2), .inr (1, [.ref (x.1 3), .ref (x.1 1), .int 0])) :: ((x.1 3), wIA z 22 (fun _ => 0)) :: ((x.1 1), wIA z 6 (fun _ => 0)) :: ws)))
theorem pgs_app (z : pg_Z) (F : Nat → Pg4) (ws : va_W) : ∀ n, pgs z F n ws = pgs z F n [] ++ ws := by
  intro n
  induction n with
  | zero => rfl
  | succ n ih =>
    show pgl z (F n) (pgs z F n ws) = pgl z (F n) (pgs z F n []) ++ ws
    rw [ih]
    rfl
set_option maxRecDepth 100000 in
set_option maxHeartbeats 4000000 in
theorem c_Recv_init (z : pg_Z) (a P : Nat) (v : Int32) (hP : 1 ≤ P ∧ P ≤ 4) (hv : (if (1 : Int32) < (if v < 4 then v else 4) then (if v < 4 then v else 4) else 1) = nI P) (ws : va_W) : wl_C z y_Recv_init b_Recv_init 2 ⟨3, 64, 4420, 65⟩ [.ref a, .int v] ((a, .inr (0, z_Recv)) :: ws) (fun x : CAd => rcv z a P x ws) := by
  refine wl_enter (by decide) (Nat.le_of_ble_eq_true rfl) (lv0 := [some (.ref a), some (.int v)]) rfl (fun κ h => ?_)
  refine pg_aload_n h d_Recv_init_0 rfl ?_
  refine wl_obj h d_Recv_init_1 (pg_tb 19 rfl rfl) (Nat.le_of_ble_eq_true rfl) (Nat.le_of_ble_eq_true rfl) ?_
  refine pg_aload_n h d_Recv_init_4 rfl ?_
  refine pg_bipush (v := 6) h d_Recv_init_5 (by decide) ?_
  refine wl_newI 6 h d_Recv_init_7 (by decide) (by decide) (by decide) ⟨(Nat.le_of_ble_eq_true rfl), (Nat.le_of_ble_eq_true rfl)⟩ (fun q7 => ?_)
  refine wl_putF 0 h d_Recv_init_9 cf_Recv (pg_tb 259 rfl rfl) (by decide) rfl rfl rfl rfl rfl (Nat.le_of_ble_eq_true rfl) ?_
  refine pg_aload_n h d_Recv_init_12 rfl ?_
  refine wl_new h d_Recv_init_13 cf_Packet (pg_tb 22 rfl rfl) (pg_tb 23 rfl rfl) (pg_tb 2 rfl rfl) df_Packet ⟨(Nat.le_of_ble_eq_true rfl), (Nat.le_of_ble_eq_true rfl)⟩ (fun q13 => ?_)
  refine pg_dup h d_Recv_init_16 rfl ?_
  refine pg_aload_n h d_Recv_init_17 rfl ?_
  refine wl_get h d_Recv_init_18 f_Recv_9 1 rfl rfl ?_
  refine wl_cI h d_Recv_init_21 m_Packet_init l_Recv_15 (c_Packet_init z q13 q7 _) rfl rfl (Nat.le_of_ble_eq_true rfl) ⟨(Nat.le_of_ble_eq_true rfl), (Nat.le_of_ble_eq_true rfl)⟩ ⟨(Nat.le_of_ble_eq_true rfl), (Nat.le_of_ble_eq_true rfl)⟩ (fun x21 => ?_)
  refine wl_pm (List.perm_middle (l₁ := [_, _])) ?_
  refine wl_putF 1 h d_Recv_init_24 cf_Recv (pg_tb 260 rfl rfl) (by decide) rfl rfl rfl rfl rfl (Nat.le_of_ble_eq_true rfl) ?_
  refine pg_aload_n h d_Recv_init_27 rfl ?_
  refine wl_new h d_Recv_init_28 cf_Shelf (pg_tb 40 rfl rfl) (pg_tb 41 rfl rfl) (pg_tb 3 rfl rfl) df_Shelf ⟨(Nat.le_of_ble_eq_true rfl), (Nat.le_of_ble_eq_true rfl)⟩ (fun q28 => ?_)
  refine pg_dup h d_Recv_init_31 rfl ?_
  refine pg_iconst (v := 1) h d_Recv_init_32 (by decide) ?_
  refine pg_iconst (v := 4) h d_Recv_init_33 (by decide) ?_
  refine pg_iload_n h d_Recv_init_34 rfl ?_
  refine wl_min h d_Recv_init_35 (pg_tb 42 rfl rfl) (Nat.le_of_ble_eq_true rfl) (Nat.le_of_ble_eq_true rfl) ⟨(Nat.le_of_ble_eq_true rfl), (Nat.le_of_ble_eq_true rfl)⟩ ?_
  refine wl_max h d_Recv_init_38 (pg_tb 45 rfl rfl) (Nat.le_of_ble_eq_true rfl) (Nat.le_of_ble_eq_true rfl) ⟨(Nat.le_of_ble_eq_true rfl), (Nat.le_of_ble_eq_true rfl)⟩ ?_
  rw [hv]
  refine pg_aload_n h d_Recv_init_41 rfl ?_
  refine wl_get h d_Recv_init_42 f_Recv_9 1 rfl rfl ?_
  refine wl_cI h d_Recv_init_45 m_Shelf_init l_Recv_33 (c_Shelf_init z q28 q7 P hP _) rfl rfl (Nat.le_of_ble_eq_true rfl) ⟨(Nat.le_of_ble_eq_true rfl), (Nat.le_of_ble_eq_true rfl)⟩ ⟨(Nat.le_of_ble_eq_true rfl), (Nat.le_of_ble_eq_true rfl)⟩ (fun x45 => ?_)
  refine wl_pm (((pgs_mid z x45.2 _ _ P).cons _ |>.cons _).trans (List.perm_middle (l₁ := [_, _]))) ?_
  refine wl_putF 2 h d_Recv_init_48 cf_Recv (pg_tb 261 rfl rfl) (by decide) rfl rfl rfl rfl rfl (Nat.le_of_ble_eq_true rfl) ?_
  refine pg_aload_n h d_Recv_init_51 rfl ?_
  refine wl_new h d_Recv_init_52 cf_Remote (pg_tb 102 rfl rfl) (pg_tb 103 rfl rfl) (pg_tb 6 rfl rfl) df_Remote ⟨(Nat.le_of_ble_eq_true rfl), (Nat.le_of_ble_eq_true rfl)⟩ (fun q52 => ?_)
  refine pg_dup h d_Recv_init_55 rfl ?_
  refine pg_aload_n h d_Recv_init_56 rfl ?_
  refine wl_get h d_Recv_init_57 f_Recv_36 1 rfl rfl ?_
  refine wl_cI h d_Recv_init_60 m_Remote_init l_Recv_42 (c_Remote_init z q52 q28 _) rfl rfl (Nat.le_of_ble_eq_true rfl) ⟨(Nat.le_of_ble_eq_true rfl), (Nat.le_of_ble_eq_true rfl)⟩ ⟨(Nat.le_of_ble_eq_true rfl), (Nat.le_of_ble_eq_true rfl)⟩ (fun x60 => ?_)
  refine wl_pm (List.perm_middle (l₁ := [_, _, _, _, _])) ?_
  refine wl_putF 3 h d_Recv_init_63 cf_Recv (pg_tb 262 rfl rfl) (by decide) rfl rfl rfl rfl rfl (Nat.le_of_ble_eq_true rfl) ?_
  refine pg_aload_n h d_Recv_init_66 rfl ?_
  refine wl_new h d_Recv_init_67 cf_Tuner (pg_tb 139 rfl rfl) (pg_tb 140 rfl rfl) (pg_tb 7 rfl rfl) df_Tuner ⟨(Nat.le_of_ble_eq_true rfl), (Nat.le_of_ble_eq_true rfl)⟩ (fun q67 => ?_)
  refine pg_dup h d_Recv_init_70 rfl ?_
  refine pg_aload_n h d_Recv_init_71 rfl ?_
  refine wl_get h d_Recv_init_72 f_Recv_18 1 rfl rfl ?_
  refine pg_aload_n h d_Recv_init_75 rfl ?_
  refine wl_get h d_Recv_init_76 f_Recv_36 1 rfl rfl ?_
  refine pg_aload_n h d_Recv_init_79 rfl ?_
  refine wl_get h d_Recv_init_80 f_Recv_45 1 rfl rfl ?_
  refine pg_aload_n h d_Recv_init_83 rfl ?_
  refine wl_get h d_Recv_init_84 f_Recv_9 1 rfl rfl ?_
  refine wl_cI h d_Recv_init_87 m_Tuner_init l_Recv_51 (c_Tuner_init z q67 q13 q28 q52 q7 _) rfl rfl (Nat.le_of_ble_eq_true rfl) ⟨(Nat.le_of_ble_eq_true rfl), (Nat.le_of_ble_eq_true rfl)⟩ ⟨(Nat.le_of_ble_eq_true rfl), (Nat.le_of_ble_eq_true rfl)⟩ (fun x87 => ?_)
  refine wl_pm (((((pgs_mid z x87.2.2.2 _ _ 8).cons _).cons _).cons _ |>.cons _).trans (List.perm_middle (l₁ := [_, _, _, _]))) ?_
  refine wl_putF 4 h d_Recv_init_90 cf_Recv (pg_tb 263 rfl rfl) (by decide) rfl rfl rfl rfl rfl (Nat.le_of_ble_eq_true rfl) ?_
  refine pg_aload_n h d_Recv_init_93 rfl ?_
  refine wl_new h d_Recv_init_94 cf_Screen (pg_tb 173 rfl rfl) (pg_tb 174 rfl rfl) (pg_tb 9 rfl rfl) df_Screen ⟨(Nat.le_of_ble_eq_true rfl), (Nat.le_of_ble_eq_true rfl)⟩ (fun q94 => ?_)
  refine pg_dup h d_Recv_init_97 rfl ?_
  refine pg_aload_n h d_Recv_init_98 rfl ?_
  refine wl_get h d_Recv_init_99 f_Recv_45 1 rfl rfl ?_
  refine pg_aload_n h d_Recv_init_102 rfl ?_
  refine wl_get h d_Recv_init_103 f_Recv_54 1 rfl rfl ?_
  refine wl_get h d_Recv_init_106 f_Recv_60 4 rfl rfl ?_
  refine wl_cI h d_Recv_init_109 m_Screen_init l_Recv_63 (c_Screen_init z q94 q52 x87.2.2.1 _) rfl rfl (Nat.le_of_ble_eq_true rfl) ⟨(Nat.le_of_ble_eq_true rfl), (Nat.le_of_ble_eq_true rfl)⟩ ⟨(Nat.le_of_ble_eq_true rfl), (Nat.le_of_ble_eq_true rfl)⟩ (fun x109 => ?_)
  refine wl_pm (List.perm_middle (l₁ := [_, _])) ?_
  refine wl_putF 5 h d_Recv_init_112 cf_Recv (pg_tb 264 rfl rfl) (by decide) rfl rfl rfl rfl rfl (Nat.le_of_ble_eq_true rfl) ?_
  exact wl_vret (F := fun x : CAd => rcv z a P x ws) ((fun i => match i with | 1 => q7 | 2 => q13 | 3 => x21 | 4 => q28 | 5 => x45.1 | 6 => q52 | 8 => q67 | 9 => x87.1 | 10 => x87.2.2.1 | 11 => x87.2.1 | 12 => q94 | 13 => x109 | _ => 0), x60, x45.2, x87.2.2.2) h d_Recv_init_115 ⟨(Nat.le_of_ble_eq_true rfl), (Nat.le_of_ble_eq_true rfl)⟩--end
