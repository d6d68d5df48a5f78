/-! The constructor of the reference. -/
section WLE
variable {κ : pg_K} {z : pg_Z} {y : MethodName} {cc : ByteArray} {nL : Nat} {ret : Option FieldType} {rm : Room} {ce sl : Nat} {Q : State → Prop} {pc : Nat} {lv : List (Option Value)} {st : List Value} {ws ws' : va_W} {a : Nat}
theorem wl_putE {ci k idx : Nat} {fs : List Value} {v : Value} {t : FieldType} (fs' : List Value) (h : pg_X κ z y cc nL ret rm) (d : decode cc pc = .ok (.putfield idx, 3)) (hf : pg_fw y.cls idx ci k t) (hn : narrow t v = v) (hfit : fits t v = true) (hlen : k < fs.length) (he : fs.set k v = fs')
    (kk : pg_G κ z nL ce sl Q (wl_P z ((a, .inr (ci, fs')) :: ws)) (pc + 3) lv st) : pg_G κ z nL ce sl Q (wl_P z ((a, .inr (ci, fs)) :: ws)) pc lv (v :: .ref a :: st) := wl_put h d hf hn hfit hlen (by rw [he]; exact kk)
theorem wl_putFE {ci N idx : Nat} {C : String} {T : u_T} {ty : Nat → FieldType} {fs : List Value} {v : Value} (k : Nat) (fs' : List Value) (h : pg_X κ z y cc nL ret rm) (d : decode cc pc = .ok (.putfield idx, 3)) (hc : pg_cf ci C T N ty) (hf : Cond.fieldLink y.cls idx (T k).1 (T k).2.1 (T k).2.2.1 ∈ pg_ws) (hk : k < N) (hfin : (T k).2.2.2 = true) (hin : y.name = "<init>") (hdecl : (T k).1 = y.cls) (hn : narrow (ty k) v = v) (hfit : fits (ty k) v = true) (hlen : k < fs.length) (he : fs.set k v = fs')
    (kk : pg_G κ z nL ce sl Q (wl_P z ((a, .inr (ci, fs')) :: ws)) (pc + 3) lv st) : pg_G κ z nL ce sl Q (wl_P z ((a, .inr (ci, fs)) :: ws)) pc lv (v :: .ref a :: st) := wl_putF k h d hc hf hk hfin hin hdecl hn hfit hlen (by rw [he]; exact kk)
end WLE
theorem mid9 {α : Type} (a1 a2 a3 a4 a5 a6 a7 a8 a9 x : α) (t : List α) : (a1 :: a2 :: a3 :: a4 :: a5 :: a6 :: a7 :: a8 :: a9 :: x :: t).Perm (x :: a1 :: a2 :: a3 :: a4 :: a5 :: a6 :: a7 :: a8 :: a9 :: t) := List.perm_middle (l₁ := [a1, a2, a3, a4, a5, a6, a7, a8, a9])
abbrev mdl (z : pg_Z) (a : Nat) (p : Int32) (x : Nat → Nat) (R : Nat → Int32) (ws : va_W) : va_W := (x 29, .inl (z.2.2 0, 20, .inl R)) :: (a, .inr (8, [.int p, .ref (x 21), .ref (x 22), .ref (x 23), .ref (x 24), .ref (x 25), .ref (x 26), .ref (x 27), .ref (x 28), .ref (x 29), .ref (x 30), .int 0, .ref (x 31), .int 256, .int 0, .int 0, .int 0, .int 0, .int 1, .ref (x 32), .ref (x 33), .ref (x 34), .ref (x 35), .ref (x 36), .ref (x 37), .int 0, .int 0, .int 0, .int 0, .int 0, .int 0, .int 0, .int 0, .int 0, .int 0, .int 0, .int 0])) :: (x 37, .inl (z.2.2 0, 20, .inl (fun _ => 0))) :: (x 36, .inl (z.2.2 0, 20, .inl (fun _ => 0))) :: (x 35, .inl (z.2.2 0, 20, .inl (fun _ => 0))) :: (x 34, .inl (z.2.2 0, 20, .inl (fun _ => 0))) :: (x 33, .inl (z.2.2 0, 20, .inl (fun _ => 0))) :: (x 32, .inl (z.2.2 0, 20, .inl (fun _ => 0))) :: (x 31, .inl (z.2.2 0, 6, .inl (fun _ => 0))) :: (x 30, .inl (z.2.2 0, 22, .inl (fun _ => 0))) :: (x 28, .inl (z.2.2 0, 2080, .inl (fun _ => 0))) :: (x 27, .inl (z.2.2 0, 2080, .inl (fun _ => 0))) :: (x 26, .inl (z.2.2 0, 52, .inl (fun _ => 0))) :: (x 25, .inl (z.2.2 0, 13, .inl (fun _ => 0))) :: (x 24, .inl (z.2.2 0, 13, .inl (fun _ => 0))) :: (x 23, .inl (z.2.2 0, 13, .inl (fun _ => 0))) :: (x 22, .inl (z.2.2 0, 13, .inl (fun _ => 0))) :: (x 21, .inl (z.2.2 1, 13, .inl (fun _ => 0))) :: ws
set_option maxRecDepth 100000 in
set_option maxHeartbeats 1000000 in
theorem c_Mod_loop (z : pg_Z) (a : Nat) (v p : Int32) (ws : va_W) (κ : pg_K) (h : pg_X κ z y_Mod_init b_Mod_init 3 none ⟨1, 17, 4445, 20⟩) (q7 q15 q23 q31 q39 q47 q56 q65 q73 q81 q89 q109 q117 q125 q133 q141 q149 : Nat) : ∀ (q j : Nat), j + q = 20 → pg_G κ z 3 17 4445 (pg_Q κ z (fun r H => r = none ∧ ∃ x : Nat → Nat, wl_P z (mdl z a p x (filTo (fun _ => 0) 32 20) ws) H) 17 4445) (wl_P z ((q73, .inl (z.2.2 0, 20, .inl (filTo (fun _ => 0) 32 j))) :: (a, .inr (8, [.int p, .ref q7, .ref q15, .ref q23, .ref q31, .ref q39, .ref q47, .ref q56, .ref q65, .ref q73, .ref q81, .int 0, .ref q89, .int 256, .int 0, .int 0, .int 0, .int 0, .int 1, .ref q109, .ref q117, .ref q125, .ref q133, .ref q141, .ref q149, .int 0, .int 0, .int 0, .int 0, .int 0, .int 0, .int 0, .int 0, .int 0, .int 0, .int 0, .int 0])) :: (q149, .inl (z.2.2 0, 20, .inl (fun _ => 0))) :: (q141, .inl (z.2.2 0, 20, .inl (fun _ => 0))) :: (q133, .inl (z.2.2 0, 20, .inl (fun _ => 0))) :: (q125, .inl (z.2.2 0, 20, .inl (fun _ => 0))) :: (q117, .inl (z.2.2 0, 20, .inl (fun _ => 0))) :: (q109, .inl (z.2.2 0, 20, .inl (fun _ => 0))) :: (q89, .inl (z.2.2 0, 6, .inl (fun _ => 0))) :: (q81, .inl (z.2.2 0, 22, .inl (fun _ => 0))) :: (q65, .inl (z.2.2 0, 2080, .inl (fun _ => 0))) :: (q56, .inl (z.2.2 0, 2080, .inl (fun _ => 0))) :: (q47, .inl (z.2.2 0, 52, .inl (fun _ => 0))) :: (q39, .inl (z.2.2 0, 13, .inl (fun _ => 0))) :: (q31, .inl (z.2.2 0, 13, .inl (fun _ => 0))) :: (q23, .inl (z.2.2 0, 13, .inl (fun _ => 0))) :: (q15, .inl (z.2.2 0, 13, .inl (fun _ => 0))) :: (q7, .inl (z.2.2 1, 13, .inl (fun _ => 0))) :: ws)) 179 [some (.ref a), some (.int v), some (.int (nI j))] [] := by
  intro q
  induction q with
  | zero =>
    intro j hj
    have hj : j = 20 := by omega
    subst hj
    refine pg_iload_n h d_Mod_init_179 rfl ?_
    refine pg_bipush (v := 20) h d_Mod_init_180 (by decide) ?_
    refine pg_icmp_ge (tgt := 199) h d_Mod_init_182 rfl (fun e182 => ?_) (fun e182 => absurd e182 (fun e => e (Int32.le_refl _)))
    exact pg_vret h d_Mod_init_199 (fun H hP => ⟨rfl, (fun i => match i with | 21 => q7 | 22 => q15 | 23 => q23 | 24 => q31 | 25 => q39 | 26 => q47 | 27 => q56 | 28 => q65 | 29 => q73 | 30 => q81 | 31 => q89 | 32 => q109 | 33 => q117 | 34 => q125 | 35 => q133 | 36 => q141 | 37 => q149 | _ => 0), hP⟩)--end
  | succ q ih =>
    intro j hj
    refine pg_iload_n h d_Mod_init_179 rfl ?_
    refine pg_bipush (v := 20) h d_Mod_init_180 (by decide) ?_
    refine pg_icmp_ge (tgt := 199) h d_Mod_init_182 rfl (fun e182 => absurd e182 (nI_ge (show j < 20 by omega) (by decide))) (fun e182 => ?_)
    refine pg_aload_n h d_Mod_init_185 rfl ?_
    refine wl_get h d_Mod_init_186 f_Mod_35 1 rfl rfl ?_
    refine pg_iload_n h d_Mod_init_189 rfl ?_
    refine pg_bipush (v := 32) h d_Mod_init_190 (by decide) ?_
    refine wl_ist h d_Mod_init_192 (pg_ixN rfl (show j < 20 by omega) (by decide)) ?_
    refine pg_iinc (w := 1) h d_Mod_init_193 rfl (by decide) (Nat.le_of_ble_eq_true rfl) rfl rfl ?_
    refine pg_goto (tgt := 179) h d_Mod_init_196 rfl ?_
    rw [← nI_succ j, filTo_s]
    exact ih (j + 1) (by omega)
set_option maxRecDepth 100000 in
set_option maxHeartbeats 1000000 in
theorem c_Mod_tail (z : pg_Z) (a : Nat) (v p : Int32) (ws : va_W) (κ : pg_K) (h : pg_X κ z y_Mod_init b_Mod_init 3 none ⟨1, 17, 4445, 20⟩) (q7 q15 q23 q31 q39 q47 q56 q65 q73 q81 q89 q109 q117 q125 q133 q141 q149 : Nat) : pg_G κ z 3 17 4445 (pg_Q κ z (fun r H => r = none ∧ ∃ x : Nat → Nat, wl_P z (mdl z a p x (filTo (fun _ => 0) 32 20) ws) H) 17 4445) (wl_P z ((a, .inr (8, [.int 0, .ref q7, .ref q15, .ref q23, .ref q31, .ref q39, .ref q47, .ref q56, .ref q65, .ref q73, .ref q81, .int 0, .ref q89, .int 256, .int 0, .int 0, .int 0, .int 0, .int 1, .ref q109, .ref q117, .ref q125, .ref q133, .ref q141, .ref q149, .int 0, .int 0, .int 0, .int 0, .int 0, .int 0, .int 0, .int 0, .int 0, .int 0, .int 0, .int 0])) :: (q149, .inl (z.2.2 0, 20, .inl (fun _ => 0))) :: (q141, .inl (z.2.2 0, 20, .inl (fun _ => 0))) :: (q133, .inl (z.2.2 0, 20, .inl (fun _ => 0))) :: (q125, .inl (z.2.2 0, 20, .inl (fun _ => 0))) :: (q117, .inl (z.2.2 0, 20, .inl (fun _ => 0))) :: (q109, .inl (z.2.2 0, 20, .inl (fun _ => 0))) :: (q89, .inl (z.2.2 0, 6, .inl (fun _ => 0))) :: (q81, .inl (z.2.2 0, 22, .inl (fun _ => 0))) :: (q73, .inl (z.2.2 0, 20, .inl (fun _ => 0))) :: (q65, .inl (z.2.2 0, 2080, .inl (fun _ => 0))) :: (q56, .inl (z.2.2 0, 2080, .inl (fun _ => 0))) :: (q47, .inl (z.2.2 0, 52, .inl (fun _ => 0))) :: (q39, .inl (z.2.2 0, 13, .inl (fun _ => 0))) :: (q31, .inl (z.2.2 0, 13, .inl (fun _ => 0))) :: (q23, .inl (z.2.2 0, 13, .inl (fun _ => 0))) :: (q15, .inl (z.2.2 0, 13, .inl (fun _ => 0))) :: (q7, .inl (z.2.2 1, 13, .inl (fun _ => 0))) :: ws)) 174 [some (.ref a), some (.int v), none] [.int p, .ref a] := by
  refine wl_putFE 0 [.int p, .ref q7, .ref q15, .ref q23, .ref q31, .ref q39, .ref q47, .ref q56, .ref q65, .ref q73, .ref q81, .int 0, .ref q89, .int 256, .int 0, .int 0, .int 0, .int 0, .int 1, .ref q109, .ref q117, .ref q125, .ref q133, .ref q141, .ref q149, .int 0, .int 0, .int 0, .int 0, .int 0, .int 0, .int 0, .int 0, .int 0, .int 0, .int 0, .int 0] h d_Mod_init_174 cf_Mod (pg_tb 614 rfl rfl) (by decide) rfl rfl rfl rfl rfl (Nat.le_of_ble_eq_true rfl) rfl ?_
  refine pg_iconst (v := 0) h d_Mod_init_177 (by decide) ?_
  refine pg_istore_n h d_Mod_init_178 (Nat.le_of_ble_eq_true rfl) rfl rfl ?_
  have q := c_Mod_loop z a v p ws κ h q7 q15 q23 q31 q39 q47 q56 q65 q73 q81 q89 q109 q117 q125 q133 q141 q149 20 0 (by omega)
  rw [filTo_0] at q
  refine wl_pm (mid9 _ _ _ _ _ _ _ _ _ _ _) ?_
  exact q
set_option maxRecDepth 100000 in
set_option maxHeartbeats 1000000 in
theorem c_Mod_init (z : pg_Z) (a : Nat) (v p : Int32) (hp : (if 1 ≤ v then (if v ≤ 4 then v else 4) else 1) = p) (ws : va_W) : wl_C z y_Mod_init b_Mod_init 3 ⟨1, 17, 4445, 20⟩ [.ref a, .int v] ((a, .inr (8, z_Mod)) :: ws) (fun x : Nat → Nat => mdl z a p x (filTo (fun _ => 0) 32 20) ws) := by
  refine wl_enter (by decide) (Nat.le_of_ble_eq_true rfl) (lv0 := [some (.ref a), some (.int v), none]) rfl (fun κ h => ?_)
  refine pg_aload_n h d_Mod_init_0 rfl ?_
  refine wl_obj h d_Mod_init_1 (pg_tb 613 rfl rfl) (Nat.le_of_ble_eq_true rfl) (Nat.le_of_ble_eq_true rfl) ?_
  refine pg_aload_n h d_Mod_init_4 rfl ?_
  refine pg_bipush (v := 13) h d_Mod_init_5 (by decide) ?_
  refine wl_newZ 13 h d_Mod_init_7 (by decide) (by decide) (by decide) ⟨(Nat.le_of_ble_eq_true rfl), (Nat.le_of_ble_eq_true rfl)⟩ (fun q7 => ?_)
  refine wl_putFE 1 [.int 0, .ref q7, .null, .null, .null, .null, .null, .null, .null, .null, .null, .int 0, .null, .int 0, .int 0, .int 0, .int 0, .int 0, .int 0, .null, .null, .null, .null, .null, .null, .int 0, .int 0, .int 0, .int 0, .int 0, .int 0, .int 0, .int 0, .int 0, .int 0, .int 0, .int 0] h d_Mod_init_9 cf_Mod (pg_tb 615 rfl rfl) (by decide) rfl rfl rfl rfl rfl (Nat.le_of_ble_eq_true rfl) rfl ?_
  refine pg_aload_n h d_Mod_init_12 rfl ?_
  refine pg_bipush (v := 13) h d_Mod_init_13 (by decide) ?_
  refine wl_newI 13 h d_Mod_init_15 (by decide) (by decide) (by decide) ⟨(Nat.le_of_ble_eq_true rfl), (Nat.le_of_ble_eq_true rfl)⟩ (fun q15 => ?_)
  refine wl_putFE 2 [.int 0, .ref q7, .ref q15, .null, .null, .null, .null, .null, .null, .null, .null, .int 0, .null, .int 0, .int 0, .int 0, .int 0, .int 0, .int 0, .null, .null, .null, .null, .null, .null, .int 0, .int 0, .int 0, .int 0, .int 0, .int 0, .int 0, .int 0, .int 0, .int 0, .int 0, .int 0] h d_Mod_init_17 cf_Mod (pg_tb 616 rfl rfl) (by decide) rfl rfl rfl rfl rfl (Nat.le_of_ble_eq_true rfl) rfl ?_
  refine pg_aload_n h d_Mod_init_20 rfl ?_
  refine pg_bipush (v := 13) h d_Mod_init_21 (by decide) ?_
  refine wl_newI 13 h d_Mod_init_23 (by decide) (by decide) (by decide) ⟨(Nat.le_of_ble_eq_true rfl), (Nat.le_of_ble_eq_true rfl)⟩ (fun q23 => ?_)
  refine wl_putFE 3 [.int 0, .ref q7, .ref q15, .ref q23, .null, .null, .null, .null, .null, .null, .null, .int 0, .null, .int 0, .int 0, .int 0, .int 0, .int 0, .int 0, .null, .null, .null, .null, .null, .null, .int 0, .int 0, .int 0, .int 0, .int 0, .int 0, .int 0, .int 0, .int 0, .int 0, .int 0, .int 0] h d_Mod_init_25 cf_Mod (pg_tb 617 rfl rfl) (by decide) rfl rfl rfl rfl rfl (Nat.le_of_ble_eq_true rfl) rfl ?_
  refine pg_aload_n h d_Mod_init_28 rfl ?_
  refine pg_bipush (v := 13) h d_Mod_init_29 (by decide) ?_
  refine wl_newI 13 h d_Mod_init_31 (by decide) (by decide) (by decide) ⟨(Nat.le_of_ble_eq_true rfl), (Nat.le_of_ble_eq_true rfl)⟩ (fun q31 => ?_)
  refine wl_putFE 4 [.int 0, .ref q7, .ref q15, .ref q23, .ref q31, .null, .null, .null, .null, .null, .null, .int 0, .null, .int 0, .int 0, .int 0, .int 0, .int 0, .int 0, .null, .null, .null, .null, .null, .null, .int 0, .int 0, .int 0, .int 0, .int 0, .int 0, .int 0, .int 0, .int 0, .int 0, .int 0, .int 0] h d_Mod_init_33 cf_Mod (pg_tb 618 rfl rfl) (by decide) rfl rfl rfl rfl rfl (Nat.le_of_ble_eq_true rfl) rfl ?_
  refine pg_aload_n h d_Mod_init_36 rfl ?_
  refine pg_bipush (v := 13) h d_Mod_init_37 (by decide) ?_
  refine wl_newI 13 h d_Mod_init_39 (by decide) (by decide) (by decide) ⟨(Nat.le_of_ble_eq_true rfl), (Nat.le_of_ble_eq_true rfl)⟩ (fun q39 => ?_)
  refine wl_putFE 5 [.int 0, .ref q7, .ref q15, .ref q23, .ref q31, .ref q39, .null, .null, .null, .null, .null, .int 0, .null, .int 0, .int 0, .int 0, .int 0, .int 0, .int 0, .null, .null, .null, .null, .null, .null, .int 0, .int 0, .int 0, .int 0, .int 0, .int 0, .int 0, .int 0, .int 0, .int 0, .int 0, .int 0] h d_Mod_init_41 cf_Mod (pg_tb 619 rfl rfl) (by decide) rfl rfl rfl rfl rfl (Nat.le_of_ble_eq_true rfl) rfl ?_
  refine pg_aload_n h d_Mod_init_44 rfl ?_
  refine pg_bipush (v := 52) h d_Mod_init_45 (by decide) ?_
  refine wl_newI 52 h d_Mod_init_47 (by decide) (by decide) (by decide) ⟨(Nat.le_of_ble_eq_true rfl), (Nat.le_of_ble_eq_true rfl)⟩ (fun q47 => ?_)
  refine wl_putFE 6 [.int 0, .ref q7, .ref q15, .ref q23, .ref q31, .ref q39, .ref q47, .null, .null, .null, .null, .int 0, .null, .int 0, .int 0, .int 0, .int 0, .int 0, .int 0, .null, .null, .null, .null, .null, .null, .int 0, .int 0, .int 0, .int 0, .int 0, .int 0, .int 0, .int 0, .int 0, .int 0, .int 0, .int 0] h d_Mod_init_49 cf_Mod (pg_tb 620 rfl rfl) (by decide) rfl rfl rfl rfl rfl (Nat.le_of_ble_eq_true rfl) rfl ?_
  refine pg_aload_n h d_Mod_init_52 rfl ?_
  refine pg_sipush (v := 2080) h d_Mod_init_53 (by decide) ?_
  refine wl_newI 2080 h d_Mod_init_56 (by decide) (by decide) (by decide) ⟨(Nat.le_of_ble_eq_true rfl), (Nat.le_of_ble_eq_true rfl)⟩ (fun q56 => ?_)
  refine wl_putFE 7 [.int 0, .ref q7, .ref q15, .ref q23, .ref q31, .ref q39, .ref q47, .ref q56, .null, .null, .null, .int 0, .null, .int 0, .int 0, .int 0, .int 0, .int 0, .int 0, .null, .null, .null, .null, .null, .null, .int 0, .int 0, .int 0, .int 0, .int 0, .int 0, .int 0, .int 0, .int 0, .int 0, .int 0, .int 0] h d_Mod_init_58 cf_Mod (pg_tb 621 rfl rfl) (by decide) rfl rfl rfl rfl rfl (Nat.le_of_ble_eq_true rfl) rfl ?_
  refine pg_aload_n h d_Mod_init_61 rfl ?_
  refine pg_sipush (v := 2080) h d_Mod_init_62 (by decide) ?_
  refine wl_newI 2080 h d_Mod_init_65 (by decide) (by decide) (by decide) ⟨(Nat.le_of_ble_eq_true rfl), (Nat.le_of_ble_eq_true rfl)⟩ (fun q65 => ?_)
  refine wl_putFE 8 [.int 0, .ref q7, .ref q15, .ref q23, .ref q31, .ref q39, .ref q47, .ref q56, .ref q65, .null, .null, .int 0, .null, .int 0, .int 0, .int 0, .int 0, .int 0, .int 0, .null, .null, .null, .null, .null, .null, .int 0, .int 0, .int 0, .int 0, .int 0, .int 0, .int 0, .int 0, .int 0, .int 0, .int 0, .int 0] h d_Mod_init_67 cf_Mod (pg_tb 622 rfl rfl) (by decide) rfl rfl rfl rfl rfl (Nat.le_of_ble_eq_true rfl) rfl ?_
  refine pg_aload_n h d_Mod_init_70 rfl ?_
  refine pg_bipush (v := 20) h d_Mod_init_71 (by decide) ?_
  refine wl_newI 20 h d_Mod_init_73 (by decide) (by decide) (by decide) ⟨(Nat.le_of_ble_eq_true rfl), (Nat.le_of_ble_eq_true rfl)⟩ (fun q73 => ?_)
  refine wl_putFE 9 [.int 0, .ref q7, .ref q15, .ref q23, .ref q31, .ref q39, .ref q47, .ref q56, .ref q65, .ref q73, .null, .int 0, .null, .int 0, .int 0, .int 0, .int 0, .int 0, .int 0, .null, .null, .null, .null, .null, .null, .int 0, .int 0, .int 0, .int 0, .int 0, .int 0, .int 0, .int 0, .int 0, .int 0, .int 0, .int 0] h d_Mod_init_75 cf_Mod (pg_tb 623 rfl rfl) (by decide) rfl rfl rfl rfl rfl (Nat.le_of_ble_eq_true rfl) rfl ?_
  refine pg_aload_n h d_Mod_init_78 rfl ?_
  refine pg_bipush (v := 22) h d_Mod_init_79 (by decide) ?_
  refine wl_newI 22 h d_Mod_init_81 (by decide) (by decide) (by decide) ⟨(Nat.le_of_ble_eq_true rfl), (Nat.le_of_ble_eq_true rfl)⟩ (fun q81 => ?_)
  refine wl_putFE 10 [.int 0, .ref q7, .ref q15, .ref q23, .ref q31, .ref q39, .ref q47, .ref q56, .ref q65, .ref q73, .ref q81, .int 0, .null, .int 0, .int 0, .int 0, .int 0, .int 0, .int 0, .null, .null, .null, .null, .null, .null, .int 0, .int 0, .int 0, .int 0, .int 0, .int 0, .int 0, .int 0, .int 0, .int 0, .int 0, .int 0] h d_Mod_init_83 cf_Mod (pg_tb 624 rfl rfl) (by decide) rfl rfl rfl rfl rfl (Nat.le_of_ble_eq_true rfl) rfl ?_
  refine pg_aload_n h d_Mod_init_86 rfl ?_
  refine pg_bipush (v := 6) h d_Mod_init_87 (by decide) ?_
  refine wl_newI 6 h d_Mod_init_89 (by decide) (by decide) (by decide) ⟨(Nat.le_of_ble_eq_true rfl), (Nat.le_of_ble_eq_true rfl)⟩ (fun q89 => ?_)
  refine wl_putFE 12 [.int 0, .ref q7, .ref q15, .ref q23, .ref q31, .ref q39, .ref q47, .ref q56, .ref q65, .ref q73, .ref q81, .int 0, .ref q89, .int 0, .int 0, .int 0, .int 0, .int 0, .int 0, .null, .null, .null, .null, .null, .null, .int 0, .int 0, .int 0, .int 0, .int 0, .int 0, .int 0, .int 0, .int 0, .int 0, .int 0, .int 0] h d_Mod_init_91 cf_Mod (pg_tb 626 rfl rfl) (by decide) rfl rfl rfl rfl rfl (Nat.le_of_ble_eq_true rfl) rfl ?_
  refine pg_aload_n h d_Mod_init_94 rfl ?_
  refine pg_sipush (v := 256) h d_Mod_init_95 (by decide) ?_
  refine wl_putE [.int 0, .ref q7, .ref q15, .ref q23, .ref q31, .ref q39, .ref q47, .ref q56, .ref q65, .ref q73, .ref q81, .int 0, .ref q89, .int 256, .int 0, .int 0, .int 0, .int 0, .int 0, .null, .null, .null, .null, .null, .null, .int 0, .int 0, .int 0, .int 0, .int 0, .int 0, .int 0, .int 0, .int 0, .int 0, .int 0, .int 0] h d_Mod_init_98 fw_Mod_44 rfl rfl (Nat.le_of_ble_eq_true rfl) rfl ?_
  refine pg_aload_n h d_Mod_init_101 rfl ?_
  refine pg_iconst (v := 1) h d_Mod_init_102 (by decide) ?_
  refine wl_putE [.int 0, .ref q7, .ref q15, .ref q23, .ref q31, .ref q39, .ref q47, .ref q56, .ref q65, .ref q73, .ref q81, .int 0, .ref q89, .int 256, .int 0, .int 0, .int 0, .int 0, .int 1, .null, .null, .null, .null, .null, .null, .int 0, .int 0, .int 0, .int 0, .int 0, .int 0, .int 0, .int 0, .int 0, .int 0, .int 0, .int 0] h d_Mod_init_103 fw_Mod_48 rfl rfl (Nat.le_of_ble_eq_true rfl) rfl ?_
  refine pg_aload_n h d_Mod_init_106 rfl ?_
  refine pg_bipush (v := 20) h d_Mod_init_107 (by decide) ?_
  refine wl_newI 20 h d_Mod_init_109 (by decide) (by decide) (by decide) ⟨(Nat.le_of_ble_eq_true rfl), (Nat.le_of_ble_eq_true rfl)⟩ (fun q109 => ?_)
  refine wl_putFE 19 [.int 0, .ref q7, .ref q15, .ref q23, .ref q31, .ref q39, .ref q47, .ref q56, .ref q65, .ref q73, .ref q81, .int 0, .ref q89, .int 256, .int 0, .int 0, .int 0, .int 0, .int 1, .ref q109, .null, .null, .null, .null, .null, .int 0, .int 0, .int 0, .int 0, .int 0, .int 0, .int 0, .int 0, .int 0, .int 0, .int 0, .int 0] h d_Mod_init_111 cf_Mod (pg_tb 633 rfl rfl) (by decide) rfl rfl rfl rfl rfl (Nat.le_of_ble_eq_true rfl) rfl ?_
  refine pg_aload_n h d_Mod_init_114 rfl ?_
  refine pg_bipush (v := 20) h d_Mod_init_115 (by decide) ?_
  refine wl_newI 20 h d_Mod_init_117 (by decide) (by decide) (by decide) ⟨(Nat.le_of_ble_eq_true rfl), (Nat.le_of_ble_eq_true rfl)⟩ (fun q117 => ?_)
  refine wl_putFE 20 [.int 0, .ref q7, .ref q15, .ref q23, .ref q31, .ref q39, .ref q47, .ref q56, .ref q65, .ref q73, .ref q81, .int 0, .ref q89, .int 256, .int 0, .int 0, .int 0, .int 0, .int 1, .ref q109, .ref q117, .null, .null, .null, .null, .int 0, .int 0, .int 0, .int 0, .int 0, .int 0, .int 0, .int 0, .int 0, .int 0, .int 0, .int 0] h d_Mod_init_119 cf_Mod (pg_tb 634 rfl rfl) (by decide) rfl rfl rfl rfl rfl (Nat.le_of_ble_eq_true rfl) rfl ?_
  refine pg_aload_n h d_Mod_init_122 rfl ?_
  refine pg_bipush (v := 20) h d_Mod_init_123 (by decide) ?_
  refine wl_newI 20 h d_Mod_init_125 (by decide) (by decide) (by decide) ⟨(Nat.le_of_ble_eq_true rfl), (Nat.le_of_ble_eq_true rfl)⟩ (fun q125 => ?_)
  refine wl_putFE 21 [.int 0, .ref q7, .ref q15, .ref q23, .ref q31, .ref q39, .ref q47, .ref q56, .ref q65, .ref q73, .ref q81, .int 0, .ref q89, .int 256, .int 0, .int 0, .int 0, .int 0, .int 1, .ref q109, .ref q117, .ref q125, .null, .null, .null, .int 0, .int 0, .int 0, .int 0, .int 0, .int 0, .int 0, .int 0, .int 0, .int 0, .int 0, .int 0] h d_Mod_init_127 cf_Mod (pg_tb 635 rfl rfl) (by decide) rfl rfl rfl rfl rfl (Nat.le_of_ble_eq_true rfl) rfl ?_
  refine pg_aload_n h d_Mod_init_130 rfl ?_
  refine pg_bipush (v := 20) h d_Mod_init_131 (by decide) ?_
  refine wl_newI 20 h d_Mod_init_133 (by decide) (by decide) (by decide) ⟨(Nat.le_of_ble_eq_true rfl), (Nat.le_of_ble_eq_true rfl)⟩ (fun q133 => ?_)
  refine wl_putFE 22 [.int 0, .ref q7, .ref q15, .ref q23, .ref q31, .ref q39, .ref q47, .ref q56, .ref q65, .ref q73, .ref q81, .int 0, .ref q89, .int 256, .int 0, .int 0, .int 0, .int 0, .int 1, .ref q109, .ref q117, .ref q125, .ref q133, .null, .null, .int 0, .int 0, .int 0, .int 0, .int 0, .int 0, .int 0, .int 0, .int 0, .int 0, .int 0, .int 0] h d_Mod_init_135 cf_Mod (pg_tb 636 rfl rfl) (by decide) rfl rfl rfl rfl rfl (Nat.le_of_ble_eq_true rfl) rfl ?_
  refine pg_aload_n h d_Mod_init_138 rfl ?_
  refine pg_bipush (v := 20) h d_Mod_init_139 (by decide) ?_
  refine wl_newI 20 h d_Mod_init_141 (by decide) (by decide) (by decide) ⟨(Nat.le_of_ble_eq_true rfl), (Nat.le_of_ble_eq_true rfl)⟩ (fun q141 => ?_)
  refine wl_putFE 23 [.int 0, .ref q7, .ref q15, .ref q23, .ref q31, .ref q39, .ref q47, .ref q56, .ref q65, .ref q73, .ref q81, .int 0, .ref q89, .int 256, .int 0, .int 0, .int 0, .int 0, .int 1, .ref q109, .ref q117, .ref q125, .ref q133, .ref q141, .null, .int 0, .int 0, .int 0, .int 0, .int 0, .int 0, .int 0, .int 0, .int 0, .int 0, .int 0, .int 0] h d_Mod_init_143 cf_Mod (pg_tb 637 rfl rfl) (by decide) rfl rfl rfl rfl rfl (Nat.le_of_ble_eq_true rfl) rfl ?_
  refine pg_aload_n h d_Mod_init_146 rfl ?_
  refine pg_bipush (v := 20) h d_Mod_init_147 (by decide) ?_
  refine wl_newI 20 h d_Mod_init_149 (by decide) (by decide) (by decide) ⟨(Nat.le_of_ble_eq_true rfl), (Nat.le_of_ble_eq_true rfl)⟩ (fun q149 => ?_)
  refine wl_putFE 24 [.int 0, .ref q7, .ref q15, .ref q23, .ref q31, .ref q39, .ref q47, .ref q56, .ref q65, .ref q73, .ref q81, .int 0, .ref q89, .int 256, .int 0, .int 0, .int 0, .int 0, .int 1, .ref q109, .ref q117, .ref q125, .ref q133, .ref q141, .ref q149, .int 0, .int 0, .int 0, .int 0, .int 0, .int 0, .int 0, .int 0, .int 0, .int 0, .int 0, .int 0] h d_Mod_init_151 cf_Mod (pg_tb 638 rfl rfl) (by decide) rfl rfl rfl rfl rfl (Nat.le_of_ble_eq_true rfl) rfl ?_
  refine pg_aload_n h d_Mod_init_154 rfl ?_
  refine pg_iload_n h d_Mod_init_155 rfl ?_
  refine pg_iconst (v := 1) h d_Mod_init_156 (by decide) ?_
  have tail := c_Mod_tail z a v p ws κ h q7 q15 q23 q31 q39 q47 q56 q65 q73 q81 q89 q109 q117 q125 q133 q141 q149
  refine pg_icmp_ge (tgt := 164) h d_Mod_init_157 rfl (fun e157 => ?_) (fun e157 => ?_)
  · refine pg_iload_n h d_Mod_init_164 rfl ?_
    refine pg_iconst (v := 4) h d_Mod_init_165 (by decide) ?_
    refine pg_icmp_le (tgt := 173) h d_Mod_init_166 rfl (fun e166 => ?_) (fun e166 => ?_)
    · rw [if_pos e157, if_pos e166] at hp
      subst hp
      refine pg_iload_n h d_Mod_init_173 rfl ?_
      exact tail
    · rw [if_pos e157, if_neg e166] at hp
      subst hp
      refine pg_iconst (v := 4) h d_Mod_init_169 (by decide) ?_
      refine pg_goto (tgt := 174) h d_Mod_init_170 rfl ?_
      exact tail
  · rw [if_neg e157] at hp
    subst hp
    refine pg_iconst (v := 1) h d_Mod_init_160 (by decide) ?_
    refine pg_goto (tgt := 174) h d_Mod_init_161 rfl ?_
    exact tail
