/-! THE CLAIM OUT OF ONE WALK OF THE LAW'S BODY. Your part is whole_start (and what it stands on); all else here is the same for every law, but numbers. -/
def R_law : String := "PageReceiverLaw"
def lw_P (b : Addr) (xs : List Int32) (args : Array Value) (s : State) : Prop := args = #[.ref b] ∧ s.IntsAt b xs ∧ xs.length ≤ 2561 ∧ (Jvm.Cond.and given_1 narrow_1).before args s = true
def lw_Q (_ : Array Value) (s : State) (o : Outcome) (t : State) : Prop := o = .returned (some (.int 1)) ∧ Framed s o t [] 600000 7302250
def lw_Z (below : List Frame) (a : Array Value) (s : State) : State → Prop := fun t => ∃ o, t.status = .running ∧ Ended t below o ∧ lw_Q a s o t
/-- the law's own end, with 1 on the stack, nothing written that was there before, its room as the claim has it -/
theorem lw_ret {p : Program} {l : Launch} {e : Env} {s : State} {m : MethodId} {below : List Frame} {meth : Method} {c : Code} {b : Nat} (hx : p.tables.exec = Jvm.exec) (hb : c.code = code) (hr : meth.sig.returnType = ret) (hlocks : meth.locks = false) {pc : Nat} {H : Heap} {ls : Array Slot} (hdg : decode code pc = .ok (.ireturn, 1)) : W p l e room_1 s m #[Value.ref b] below meth c H [] 600000 7302250 (lw_Z below #[Value.ref b] s) (F0 m pc ls [.int 1]) := by
  intro T hT X
  obtain ⟨fs, hret, hrun, hended, hW, hframe⟩ := X.leave (v := some (.int 1)) (hlocks := hlocks) (fun h => by rw [hr] at h; cases h)
  have hmeth' : T.vm.method? m = some meth := X.method'
  refine ⟨T.setFrames fs, ?_, .returned (some (.int 1)), hrun, hended, rfl, ⟨_, rfl⟩, hW, hframe⟩
  jvm_step X.here [X.here.top, hx, hb, hdg, hmeth', hr, ret, narrow_b1]
  (try refine ⟨rfl, ?_⟩); (try refine ⟨rfl, ?_⟩)
  first | (intro acts; rw [hret _ acts rfl rfl rfl]) | rw [hret _ _ rfl rfl rfl]
  exact Steps.refl _
/-- what holds at the law's entry: the machine, the code, the tables' words (any of lw_tbl by 'hts w (by decide +kernel)'), the script of L ints xs at the cell b, what the Statement gives of the start (any of its parts by flat_of_before) -/
def lw_At (p : Program) (s : State) (m : MethodId) (meth : Method) (c : Code) (b L : Nat) (xs : Nat → Int32) : Prop :=
  p.tables.exec = Jvm.exec ∧ c.code = code ∧ meth.sig.returnType = ret ∧ c.maxLocals = 4 ∧ s.vm.findClass R_law = some m.cls ∧ (∀ w ∈ lw_tbl, w.before #[Value.ref b] s = true) ∧ va_X b L xs s s.heap ∧ b < s.heap.size ∧ meth.locks = false ∧ (Jvm.Cond.and given_1 narrow_1).before #[Value.ref b] s = true
set_option maxRecDepth 100000 in
theorem nf_all : ∀ x ∈ pg_nf, Cond.fieldLinkNest x.1 x.2.1 x.2.2.1 x.2.2.2.1 x.2.2.2.2.1 x.2.2.2.2.2 ∈ tables_1 := List.forall_mem_cons.mpr ⟨List.mem_of_getElem? (i := 31) rfl, List.forall_mem_cons.mpr ⟨List.mem_of_getElem? (i := 60) rfl, List.forall_mem_cons.mpr ⟨List.mem_of_getElem? (i := 61) rfl, List.forall_mem_cons.mpr ⟨List.mem_of_getElem? (i := 62) rfl, List.forall_mem_cons.mpr ⟨List.mem_of_getElem? (i := 63) rfl, List.forall_mem_cons.mpr ⟨List.mem_of_getElem? (i := 65) rfl, List.forall_mem_cons.mpr ⟨List.mem_of_getElem? (i := 66) rfl, List.forall_mem_cons.mpr ⟨List.mem_of_getElem? (i := 68) rfl, List.forall_mem_cons.mpr ⟨List.mem_of_getElem? (i := 70) rfl, List.forall_mem_cons.mpr ⟨List.mem_of_getElem? (i := 71) rfl, List.forall_mem_cons.mpr ⟨List.mem_of_getElem? (i := 73) rfl, List.forall_mem_cons.mpr ⟨List.mem_of_getElem? (i := 77) rfl, List.forall_mem_cons.mpr ⟨List.mem_of_getElem? (i := 112) rfl, List.forall_mem_cons.mpr ⟨List.mem_of_getElem? (i := 114) rfl, List.forall_mem_cons.mpr ⟨List.mem_of_getElem? (i := 115) rfl, List.forall_mem_cons.mpr ⟨List.mem_of_getElem? (i := 116) rfl, List.forall_mem_cons.mpr ⟨List.mem_of_getElem? (i := 118) rfl, List.forall_mem_cons.mpr ⟨List.mem_of_getElem? (i := 122) rfl, List.forall_mem_cons.mpr ⟨List.mem_of_getElem? (i := 123) rfl, List.forall_mem_cons.mpr ⟨List.mem_of_getElem? (i := 156) rfl, List.forall_mem_cons.mpr ⟨List.mem_of_getElem? (i := 186) rfl, List.forall_mem_cons.mpr ⟨List.mem_of_getElem? (i := 188) rfl, List.forall_mem_cons.mpr ⟨List.mem_of_getElem? (i := 190) rfl, List.forall_mem_cons.mpr ⟨List.mem_of_getElem? (i := 192) rfl, List.forall_mem_cons.mpr ⟨List.mem_of_getElem? (i := 194) rfl, List.forall_mem_cons.mpr ⟨List.mem_of_getElem? (i := 197) rfl, List.forall_mem_cons.mpr ⟨List.mem_of_getElem? (i := 199) rfl, List.forall_mem_cons.mpr ⟨List.mem_of_getElem? (i := 201) rfl, List.forall_mem_cons.mpr ⟨List.mem_of_getElem? (i := 203) rfl, List.forall_mem_cons.mpr ⟨List.mem_of_getElem? (i := 205) rfl, List.forall_mem_cons.mpr ⟨List.mem_of_getElem? (i := 233) rfl, List.forall_mem_cons.mpr ⟨List.mem_of_getElem? (i := 234) rfl, List.forall_mem_cons.mpr ⟨List.mem_of_getElem? (i := 236) rfl, List.forall_mem_cons.mpr ⟨List.mem_of_getElem? (i := 238) rfl, List.forall_mem_cons.mpr ⟨List.mem_of_getElem? (i := 240) rfl, List.forall_mem_cons.mpr ⟨List.mem_of_getElem? (i := 298) rfl, List.forall_mem_cons.mpr ⟨List.mem_of_getElem? (i := 393) rfl, fun _ h => absurd h List.not_mem_nil⟩⟩⟩⟩⟩⟩⟩⟩⟩⟩⟩⟩⟩⟩⟩⟩⟩⟩⟩⟩⟩⟩⟩⟩⟩⟩⟩⟩⟩⟩⟩⟩⟩⟩⟩⟩⟩
set_option maxRecDepth 100000 in
theorem nm_all : ∀ x ∈ pg_nm, Cond.methodLinkNest x.1 x.2.1 x.2.2.1 x.2.2.2 ∈ tables_1 := List.forall_mem_cons.mpr ⟨List.mem_of_getElem? (i := 55) rfl, List.forall_mem_cons.mpr ⟨List.mem_of_getElem? (i := 109) rfl, List.forall_mem_cons.mpr ⟨List.mem_of_getElem? (i := 146) rfl, List.forall_mem_cons.mpr ⟨List.mem_of_getElem? (i := 181) rfl, List.forall_mem_cons.mpr ⟨List.mem_of_getElem? (i := 371) rfl, fun _ h => absurd h List.not_mem_nil⟩⟩⟩⟩⟩
theorem tb_hts {s : State} {args : Array Value} (hts : ∀ w ∈ lw_tbl, w.before args s = true) {w : Cond} (h : w ∈ tables_1) : w.before args s = true := hts w (List.mem_append_right _ h)
theorem arr_K {s : State} {args : Array Value} {ty : FieldType} (hty : ∀ C, ty ≠ .object C) (h : (Cond.arrayClass ty).before args s = true) : ∃ cA, ArrOfT s cA ty ∧ va_RA s cA ty := by
  obtain ⟨cA, kA, comp, h1, h2, h3⟩ := Cond.arrayClass_spec h
  refine ⟨cA, fun n z => ⟨fun k h => (by cases h), kA, h2, comp, h3⟩, ?_⟩
  cases ty with
  | object C => exact absurd rfl (hty C)
  | _ => exact h1
theorem ovr_K {s : State} {args : Array Value} {C : String} (h : (Cond.arrayOver (.object C)).before args s = true) : ∃ cA, ArrOfT s cA (.object C) ∧ va_RA s cA (.object C) := by
  obtain ⟨comp, cA, kA, h1, h2, h3, h4, h5⟩ := Cond.arrayOver_spec h
  exact ⟨cA, fun n z => ⟨fun k h => (by cases h), kA, h3, comp, h4⟩, kA, comp, h3, h4, h1, h5⟩
set_option maxRecDepth 100000 in
set_option maxHeartbeats 4000000 in
theorem cls_K {s : State} {args : Array Value} (hws : ∀ w ∈ pg_ws, w.before args s = true) : ∃ D : va_G, ∀ (ci : Nat) (q : vw_C), pg_cl[ci]? = some q → u_Kn s q.1 q.2.1 q.2.2 (D.1 ci) (D.2 ci) := by
  obtain ⟨c0, i0, k0⟩ := u_known hws cu_Recv (hws _ (pg_tb 15 rfl rfl))
  obtain ⟨c1, i1, k1⟩ := u_known hws cu_Packet (hws _ (pg_tb 23 rfl rfl))
  obtain ⟨c2, i2, k2⟩ := u_known hws cu_Page (hws _ (pg_tb 54 rfl rfl))
  obtain ⟨c3, i3, k3⟩ := u_known hws cu_Shelf (hws _ (pg_tb 41 rfl rfl))
  obtain ⟨c4, i4, k4⟩ := u_known hws cu_Remote (hws _ (pg_tb 103 rfl rfl))
  obtain ⟨c5, i5, k5⟩ := u_known hws cu_Tuner (hws _ (pg_tb 140 rfl rfl))
  obtain ⟨c6, i6, k6⟩ := u_known hws cu_States (hws _ (pg_tb 180 rfl rfl))
  obtain ⟨c7, i7, k7⟩ := u_known hws cu_Screen (hws _ (pg_tb 174 rfl rfl))
  obtain ⟨c8, i8, k8⟩ := u_known hws cu_Mod (hws _ (pg_tb 609 rfl rfl))
  refine ⟨(fun ci => match ci with | 0 => c0 | 1 => c1 | 2 => c2 | 3 => c3 | 4 => c4 | 5 => c5 | 6 => c6 | 7 => c7 | _ => c8, fun ci => match ci with | 0 => i0 | 1 => i1 | 2 => i2 | 3 => i3 | 4 => i4 | 5 => i5 | 6 => i6 | 7 => i7 | _ => i8), fun ci q hq => ?_⟩
  have hlt : ci < 9 := (List.getElem?_eq_some_iff.mp hq).1
  rcases (show ci = 0 ∨ ci = 1 ∨ ci = 2 ∨ ci = 3 ∨ ci = 4 ∨ ci = 5 ∨ ci = 6 ∨ ci = 7 ∨ ci = 8 by omega) with rfl | rfl | rfl | rfl | rfl | rfl | rfl | rfl | rfl
  · cases hq
    exact k0
  · cases hq
    exact k1
  · cases hq
    exact k2
  · cases hq
    exact k3
  · cases hq
    exact k4
  · cases hq
    exact k5
  · cases hq
    exact k6
  · cases hq
    exact k7
  · cases hq
    exact k8
set_option maxRecDepth 100000 in
set_option maxHeartbeats 4000000 in
theorem stat_pg_cw {s : State} {args : Array Value} (hg : (Jvm.Cond.and given_1 narrow_1).before args s = true) {A : Nat → Prop} (hA : ∀ a : Nat, a < s.heap.size → ¬ A a) : ∃ t : Nat, (Term.static "PageReceiver" "CODE_WORDS" "[I").eval args s none [] s = some (.ref t) ∧ va_T .int t 16 (fun j => .int (pg_cw j)) A s s.heap := by
  have hf := flat_of_before _ hg
  refine va_Tof (by decide) (hf _ (by decide +kernel)) (va_eqt (hf _ (by decide +kernel))) (fun j hj => ?_) hA
  rcases (show j = 0 ∨ j = 1 ∨ j = 2 ∨ j = 3 ∨ j = 4 ∨ j = 5 ∨ j = 6 ∨ j = 7 ∨ j = 8 ∨ j = 9 ∨ j = 10 ∨ j = 11 ∨ j = 12 ∨ j = 13 ∨ j = 14 ∨ j = 15 by omega) with rfl | rfl | rfl | rfl | rfl | rfl | rfl | rfl | rfl | rfl | rfl | rfl | rfl | rfl | rfl | rfl
  · exact va_eqt (z := 21) (hf _ (by decide +kernel))
  · exact va_eqt (z := 2) (hf _ (by decide +kernel))
  · exact va_eqt (z := 73) (hf _ (by decide +kernel))
  · exact va_eqt (z := 94) (hf _ (by decide +kernel))
  · exact va_eqt (z := 100) (hf _ (by decide +kernel))
  · exact va_eqt (z := 115) (hf _ (by decide +kernel))
  · exact va_eqt (z := 56) (hf _ (by decide +kernel))
  · exact va_eqt (z := 47) (hf _ (by decide +kernel))
  · exact va_eqt (z := 208) (hf _ (by decide +kernel))
  · exact va_eqt (z := 199) (hf _ (by decide +kernel))
  · exact va_eqt (z := 140) (hf _ (by decide +kernel))
  · exact va_eqt (z := 155) (hf _ (by decide +kernel))
  · exact va_eqt (z := 161) (hf _ (by decide +kernel))
  · exact va_eqt (z := 182) (hf _ (by decide +kernel))
  · exact va_eqt (z := 253) (hf _ (by decide +kernel))
  · exact va_eqt (z := 234) (hf _ (by decide +kernel))
set_option maxRecDepth 100000 in
set_option maxHeartbeats 4000000 in
theorem stat_pg_cp {s : State} {args : Array Value} (hg : (Jvm.Cond.and given_1 narrow_1).before args s = true) {A : Nat → Prop} (hA : ∀ a : Nat, a < s.heap.size → ¬ A a) : ∃ t : Nat, (Term.static "PageReceiver" "CHECKED_PLACES" "[I").eval args s none [] s = some (.ref t) ∧ va_T .int t 5 (fun j => .int (pg_cp j)) A s s.heap := by
  have hf := flat_of_before _ hg
  refine va_Tof (by decide) (hf _ (by decide +kernel)) (va_eqt (hf _ (by decide +kernel))) (fun j hj => ?_) hA
  rcases (show j = 0 ∨ j = 1 ∨ j = 2 ∨ j = 3 ∨ j = 4 by omega) with rfl | rfl | rfl | rfl | rfl
  · exact va_eqt (z := 5592405) (hf _ (by decide +kernel))
  · exact va_eqt (z := 6710886) (hf _ (by decide +kernel))
  · exact va_eqt (z := 7895160) (hf _ (by decide +kernel))
  · exact va_eqt (z := 32640) (hf _ (by decide +kernel))
  · exact va_eqt (z := 8355840) (hf _ (by decide +kernel))
theorem PP_ex (v : Int32) : ∃ P : Nat, (1 ≤ P ∧ P ≤ 4) ∧ (if (1 : Int32) < (if v < 4 then v else 4) then (if v < 4 then v else 4) else 1) = nI P ∧ (if 1 ≤ v then (if v ≤ 4 then v else 4) else 1) = nI P := by
  have t1 : (1 : Int32).toInt = 1 := rfl
  have t4 : (4 : Int32).toInt = 4 := rfl
  by_cases h4 : v < 4
  · have h4' := Int32.lt_iff_toInt_lt.mp h4
    have h4e : v ≤ 4 := Int32.le_iff_toInt_le.mpr (by omega)
    rw [if_pos h4]
    by_cases h1 : (1 : Int32) < v
    · have h1' := Int32.lt_iff_toInt_lt.mp h1
      have h1e : 1 ≤ v := Int32.le_iff_toInt_le.mpr (by omega)
      rw [if_pos h1, if_pos h1e, if_pos h4e]
      refine ⟨v.toInt.toNat, by omega, ?_, ?_⟩ <;> (apply Int32.toInt_inj.mp; rw [nI_toInt (by omega)]; omega)
    · have h1' : ¬ (1 : Int32).toInt < v.toInt := fun q => h1 (Int32.lt_iff_toInt_lt.mpr q)
      rw [if_neg h1]
      refine ⟨1, by omega, rfl, ?_⟩
      by_cases h2 : 1 ≤ v
      · have h2' := Int32.le_iff_toInt_le.mp h2
        rw [if_pos h2, if_pos h4e]
        apply Int32.toInt_inj.mp
        rw [nI_toInt (by omega)]
        omega
      · rw [if_neg h2]
        rfl
  · have h4' : ¬ v.toInt < (4 : Int32).toInt := fun q => h4 (Int32.lt_iff_toInt_lt.mpr q)
    have h1e : 1 ≤ v := Int32.le_iff_toInt_le.mpr (by omega)
    rw [if_neg h4, if_pos (by decide), if_pos h1e]
    refine ⟨4, by omega, rfl, ?_⟩
    by_cases h2 : v ≤ 4
    · have h2' := Int32.le_iff_toInt_le.mp h2
      rw [if_pos h2]
      apply Int32.toInt_inj.mp
      rw [nI_toInt (by omega)]
      omega
    · rw [if_neg h2]
      rfl
set_option maxRecDepth 100000 in
set_option maxHeartbeats 4000000 in
theorem law_start (z : pg_Z) (κ : pg_K) (nm : String) (h : pg_X κ z (yLaw nm) b_Law_law 4 (some .boolean) room_1) (b L : Nat) (xs : Nat → Int32) (hT : scT z b L xs (pg_s κ)) (hL : L ≤ 2561) (Q : State → Prop)
    (hend : ∀ (Pic : Heap → Prop) (lv : List (Option Value)), pg_G κ z 4 83 8908 Q Pic 403 lv [.int 1]) : pg_G κ z 4 0 0 Q (wl_P z []) 0 [some (.ref b), none, none, none] [] := by
  obtain ⟨P, hP, e1, e2⟩ := PP_ex (cellV L xs)
  have hL2 : L < 2 ^ 31 := by omega
  refine wl_new h d_Law_law_0 cf_Recv (pg_tb 14 rfl rfl) (pg_tb 15 rfl rfl) (pg_tb 1 rfl rfl) df_Recv ⟨(Nat.le_of_ble_eq_true rfl), (Nat.le_of_ble_eq_true rfl)⟩ (fun q0 => ?_)
  refine pg_dup h d_Law_law_3 rfl ?_
  refine pg_aload_n h d_Law_law_4 rfl ?_
  refine pg_iconst (v := 0) h d_Law_law_5 (by decide) ?_
  refine pg_cCell h hT hL2 d_Law_law_6 l_Law_9 (Nat.le_of_ble_eq_true rfl) ⟨(Nat.le_of_ble_eq_true rfl), (Nat.le_of_ble_eq_true rfl)⟩ ⟨(Nat.le_of_ble_eq_true rfl), (Nat.le_of_ble_eq_true rfl)⟩ ?_
  refine wl_cI h d_Law_law_9 m_Recv_init l_Law_15 (c_Recv_init z q0 P (cellV L xs) hP e1 []) rfl rfl (Nat.le_of_ble_eq_true rfl) ⟨(Nat.le_of_ble_eq_true rfl), (Nat.le_of_ble_eq_true rfl)⟩ ⟨(Nat.le_of_ble_eq_true rfl), (Nat.le_of_ble_eq_true rfl)⟩ (fun x9 => ?_)
  refine pg_astore_n h d_Law_law_12 (Nat.le_of_ble_eq_true rfl) rfl rfl ?_
  refine wl_new h d_Law_law_13 cf_Mod (pg_tb 608 rfl rfl) (pg_tb 609 rfl rfl) (pg_tb 11 rfl rfl) df_Mod ⟨(Nat.le_of_ble_eq_true rfl), (Nat.le_of_ble_eq_true rfl)⟩ (fun q13 => ?_)
  refine pg_dup h d_Law_law_16 rfl ?_
  refine pg_aload_n h d_Law_law_17 rfl ?_
  refine pg_iconst (v := 0) h d_Law_law_18 (by decide) ?_
  refine pg_cCell h hT hL2 d_Law_law_19 l_Law_9 (Nat.le_of_ble_eq_true rfl) ⟨(Nat.le_of_ble_eq_true rfl), (Nat.le_of_ble_eq_true rfl)⟩ ⟨(Nat.le_of_ble_eq_true rfl), (Nat.le_of_ble_eq_true rfl)⟩ ?_
  refine wl_cI h d_Law_law_22 m_Mod_init l_Law_20 (c_Mod_init z q13 (cellV L xs) (nI P) e2 _) rfl rfl (Nat.le_of_ble_eq_true rfl) ⟨(Nat.le_of_ble_eq_true rfl), (Nat.le_of_ble_eq_true rfl)⟩ ⟨(Nat.le_of_ble_eq_true rfl), (Nat.le_of_ble_eq_true rfl)⟩ (fun x22 => ?_)
  refine pg_astore_n h d_Law_law_25 (Nat.le_of_ble_eq_true rfl) rfl rfl ?_
  refine pg_iconst (v := 1) h d_Law_law_26 (by decide) ?_
  refine pg_istore_n h d_Law_law_27 (Nat.le_of_ble_eq_true rfl) rfl rfl ?_
  intro H locs ls hPic hS hl
  obtain ⟨ok, hPf⟩ := fresh_pf hP hPic
  exact law_loop (z, lawAd q0 q13 x9 x22, P, (ksP P).map (fun k => lawAd q0 q13 x9 x22 k.1 k.2)) ok hP κ nm h b L xs hT hL Q (fun S lv => hend _ lv) L 1 (frS P) (by omega) (by omega) fresh_law H locs ls hPf hS hl
set_option maxRecDepth 100000 in
set_option maxHeartbeats 4000000 in
theorem whole_start {p : Program} {e : Env} {s : State} {m : MethodId} {below : List Frame} {meth : Method} {c : Code} (l : Launch) {b L : Nat} {xs : Nat → Int32} (hL : L ≤ 2561) (C0 : lw_At p s m meth c b L xs) : W p l e room_1 s m #[Value.ref b] below meth c s.heap [] 0 0 (lw_Z below #[Value.ref b] s) (entryFrame m ([Value.ref b] : List Value).toArray 4) := by
  obtain ⟨hx, hb, hr, hml, hown, hts, hX, hbl, hlocks, hgv⟩ := C0
  have hws : ∀ w ∈ pg_ws, w.before #[Value.ref b] s = true := fun w hw => hts w (List.mem_filter.mp hw).1
  obtain ⟨D, hD⟩ := cls_K hws
  obtain ⟨cI, hcI⟩ := arr_K (ty := .int) (fun C q => by cases q) (tb_hts hts (List.mem_of_getElem? (i := 39) rfl))
  obtain ⟨cZ, hcZ⟩ := arr_K (ty := .boolean) (fun C q => by cases q) (tb_hts hts (List.mem_of_getElem? (i := 726) rfl))
  have hov : (Cond.arrayOver (.object "PageReceiver$Page")).before #[Value.ref b] s = true := tb_hts hts (List.mem_of_getElem? (i := 53) rfl)
  obtain ⟨cP, hcP⟩ := ovr_K hov
  have hA : ∀ a : Nat, a < s.heap.size → ¬ s.heap.size ≤ a := fun a ha => Nat.not_le.mpr ha
  obtain ⟨t3, h3, hT3⟩ := stat_pg_cw hgv (A := fun q => s.heap.size ≤ q) hA
  obtain ⟨t4, h4, hT4⟩ := stat_pg_cp hgv (A := fun q => s.heap.size ≤ q) hA
  have hini : (Cond.initialized "PageReceiver").before #[Value.ref b] s = true := tb_hts hts (List.mem_of_getElem? (i := 1) rfl)
  have hZ3 : va_Z "PageReceiver" "CODE_WORDS" "[I" (.ref t3) (fun q => s.heap.size ≤ q) s s.heap := va_Zof (tb_hts hts (List.mem_of_getElem? (i := 299) rfl)) hini h3 hA
  have hZ4 : va_Z "PageReceiver" "CHECKED_PLACES" "[I" (.ref t4) (fun q => s.heap.size ≤ q) s s.heap := va_Zof (tb_hts hts (List.mem_of_getElem? (i := 394) rfl)) hini h4 hA
  have hK : pg_Kb (D, s.heap.size, fun k => match k with | 0 => cI | 1 => cZ | 2 => cP | 3 => t3 | _ => t4) s := by
    refine ⟨⟨hD, fun k q hk => ?_⟩, fun x hx => va_Nw.of rfl (tb_hts hts (nf_all x hx)), fun x hx => va_Nw.of rfl (tb_hts hts (nm_all x hx)), va_AO.of hov, Nat.le_refl _, ⟨hZ3, hT3⟩, hZ4, hT4⟩
    have hlt : k < 3 := (List.getElem?_eq_some_iff.mp hk).1
    rcases (show k = 0 ∨ k = 1 ∨ k = 2 by omega) with rfl | rfl | rfl
    · cases hk
      exact hcI
    · cases hk
      exact hcZ
    · cases hk
      exact hcP
  generalize hz : ((D, s.heap.size, fun k => match k with | 0 => cI | 1 => cZ | 2 => cP | 3 => t3 | _ => t4) : pg_Z) = z at hK
  have hz1 : z.2.1 = s.heap.size := by rw [← hz]
  have hT : scT z b L xs s := by
    obtain ⟨scr, s1, s2, s3, s4, s5⟩ := hX
    refine ⟨scr, s1, s2, s3, by omega, by rw [s4], s5, ?_⟩
    show ¬ z.2.1 ≤ b
    omega
  have h : pg_X (p, l, e, room_1, s, m, #[Value.ref b], below, meth, c) z (yLaw meth.name) b_Law_law 4 (some .boolean) room_1 := ⟨hx, hb, hml, hown, hws, hK, rfl, hr, hlocks, rfl⟩
  have hend : ∀ (Pic : Heap → Prop) (lv : List (Option Value)), pg_G (p, l, e, room_1, s, m, #[Value.ref b], below, meth, c) z 4 83 8908 (lw_Z below #[Value.ref b] s) Pic 403 lv [.int 1] := fun Pic lv H locs ls _ hS hl =>
    va_forget (fun q hq => by
      have := hS.2.2 q hq
      show s.heap.size ≤ q.base
      rw [← hz1]
      exact this) (W.widen (show 83 ≤ 600000 by decide) (show 8908 ≤ 7302250 by decide) (lw_ret hx hb hr hlocks d_Law_law_403))
  have body := law_start z _ meth.name h b L xs hT hL _ hend
  rw [lg_entry_eq]
  exact body s.heap [] _ ⟨fun k q hq => by simp at hq, fun i j p q hp => by simp at hp, fun k q hq => by simp at hq⟩ va_S.rf (lv_entry ([.ref b] : List Value) (n := 4) (Nat.le_of_ble_eq_true rfl))
set_option maxHeartbeats 4000000 in
theorem lw_walk (l : Launch) (b : Addr) (xs : List Int32) : MetFree l x (headSpec (Jvm.Cond.code x code maxLocals ret :: tables_1) room_1) (lw_P b xs) (fun _ _ _ _ _ => True) lw_Q := by
  refine MetFree.of_bodyS (code := code) (maxLocals := maxLocals) (ret := ret) (by decide) ?_ ?_
  · intro args s m h hn
    obtain ⟨meth, c, h1, h2, h3, h4, h5, h6, -, -⟩ := Cond.code_spec hn (atoms_spec (ws := Jvm.Cond.code x code maxLocals ret :: tables_1) h _ List.mem_cons_self)
    exact ⟨meth, c, h1, h2, h3, h4, h5, h6⟩
  · intro p e s m args below meth c s₁ B hml0 hP _
    obtain ⟨rfl, hx, hbd, hgv⟩ := hP
    obtain ⟨scr, harrAt, hlist, hof, hsmall⟩ := hx
    obtain ⟨hcb, hkn, -, -⟩ := State.arrayAt?_spec harrAt
    have hown : s.vm.findClass R_law = some m.cls := findClass_of_methodNamed B.named
    have hts0 : ∀ c ∈ (Jvm.Cond.code x code maxLocals ret :: tables_1), c.before #[Value.ref b] s = true := atoms_spec (ws := Jvm.Cond.code x code maxLocals ret :: tables_1) B.pre
    have hts : ∀ w ∈ lw_tbl, w.before #[Value.ref b] s = true := k2_hts_sels lw_privs (fun w hw => hts0 w (List.mem_cons_of_mem _ hw)) lw_privs_ok
    have hml : c.maxLocals = 4 := B.maxLocals_eq (hts0 _ List.mem_cons_self)
    have X₀ : Stand p l e room_1 s m #[Value.ref b] below meth c s₁ [] 0 0 := Stand.of_body B
    have hh0 : s₁.heap = s.heap := by rw [B.state]; rfl
    have hsz : scr.slots.size = xs.length := by rw [← Array.length_toList, hlist, List.length_map]
    have hval : ∀ j : Nat, j < xs.length → scr.slots[j]? = some (.int (xs.getD j 0)) := fun j hj => by
      rw [← Array.getElem?_toList, hlist]
      simp [hj]
    have hbl : b < s.heap.size := (Array.getElem?_eq_some_iff.mp hcb).1
    have hX : va_X b xs.length (fun j => xs.getD j 0) s s.heap := ⟨scr, hcb, hof, hkn, hsz, hval⟩
    have K : W p l e room_1 s m #[Value.ref b] below meth c s₁.heap [] 0 0 (lw_Z below #[Value.ref b] s) (entryFrame m ([Value.ref b] : List Value).toArray 4) := by
      rw [hh0]
      exact whole_start l hbd ⟨B.exec, B.bytes, B.returns, hml, hown, hts, hX, hbl, B.notSynchronized, hgv⟩
    obtain ⟨t, a1, o, b1, b2, b3⟩ := K s₁ rfl X₀
    exact ⟨t, o, a1, b1, b2, b3⟩
theorem lw_pre_spec {args : Array Value} {s : State} (h : (Jvm.Cond.and given_1 narrow_1).before args s = true) (hr : rest_1_c.before args s = true) : ∃ (b : Addr) (xs : List Int32), lw_P b xs args s := by
  have hs := flat_of_before _ h
  have hq := flat_of_before _ hr
  have hc : (Cond.count 1).before args s = true := hs _ (by decide +kernel)
  have harr : (Cond.arrayOf (.arg 0) .int).before args s = true := hs _ (by decide +kernel)
  have hle : (Cond.le (.length (.arg 0)) (.int 2561)).before args s = true := hs _ (by decide +kernel)
  have hlen : (Cond.isInt (.length (.arg 0))).before args s = true := hq _ (by decide +kernel)
  have hall : (Cond.all (.arg 0) (.isInt (.elem (.arg 0) (.index 0)))).before args s = true := hq _ (by decide +kernel)
  obtain ⟨b, xs, hb, hx⟩ := State.ints_of_pre rfl harr hlen hall
  have hsm : xs.length < 2 ^ 31 := hx.choose_spec.2.2.2
  have hev : (Term.length (.arg 0)).eval args s none [] s = some (.int xs.length.toInt32) := hx.length_eval hb
  have hv := Cond.le_ints hev (show (Term.int 2561).eval args s none [] s = some (.int 2561) from rfl)
  have hd : xs.length.toInt32 ≤ 2561 := by
    simpa [Cond.before, Cond.holds, hv] using hle
  have hN : xs.length ≤ 2561 := (Int32.ofNat_le_ofNat hsm (by decide)).mp (show Int32.ofNat xs.length ≤ Int32.ofNat 2561 from hd)
  exact ⟨b, xs, Cond.one_arg hc (show args[0]? = some (.ref b) from hb), hx, hN, h⟩
theorem lw_comes (l : Launch) : Comes l x (Jvm.Cond.code x code maxLocals ret :: tables_1) room_1 (fun tb e args s => Calls_1 tb e args s ∧ rest_1 tb e args s ∧ Pre_1 tb e args s)
    (fun _ _ args s o t => lw_Q args s o t) := by
  intro p e ha hc hk s m args below hf hfit hheap happ hpre
  obtain ⟨b, xs, hP⟩ := lw_pre_spec hpre.2.2 hpre.2.1
  obtain ⟨k, o, h1, h2, h3, hQ⟩ := lw_walk l b xs p e ha hc hk s m args below hf ((Spec.applies_iff_loose hf).mp happ).1 hP trivial
  exact ⟨k, o, h1, h2, h3, hQ⟩
theorem lw_frame {s t : State} {o : Outcome} {args : Array Value} (h : Framed s o t [] 600000 7302250) :
    Framed s o t (fieldLocs frame_1_writes args s ++ arrayLocs frame_1_arrays args s ++ staticLocs frame_1_statics s) 600000 7302250 := h
theorem lw_limb (L : Cond) (hL : ∀ (args : Array Value) (s t : State), L.after args s (.returned (some (.int 1))) t = true) :
    ArmFor flags0 classFile x code maxLocals ret World_1 tables_1 room_1 Calls_1 rest_1 Pre_1
      (fun tb e a s o t => postC L tb e a s o t ∧ Framed s o t (fieldLocs frame_1_writes a s ++ arrayLocs frame_1_arrays a s ++ staticLocs frame_1_statics s) 600000 7302250) := by
  intro l _ _ _ p e ha hc hk s m args below hf hfit hheap happ hpre
  obtain ⟨k, o, h1, h2, h3, rfl, hF⟩ := lw_comes l p e ha hc hk s m args below hf hfit hheap happ hpre
  exact ⟨k, _, h1, h2, h3, hL args s _, lw_frame hF⟩
theorem i_vc : Claimed_1_1 ∧ Claimed_1_2 := ⟨lw_limb limb_1_1 (fun args s t => by simp [limb_1_1, Cond.after, Cond.holds, Cond.value]), lw_limb limb_1_2 (fun args s t => Cond.after_iff.mpr (by
  first | (rw [show limb_1_2 = Cond.eq .result (.int 1) from rfl, Cond.eq_ints (x := 1) (y := 1) rfl rfl]; simp; done) | (simp [limb_1_2, Cond.value, Term.eval]; done)))⟩
