/-! The judgement of this claim: a method's walk over a picture of the heap (Pic). pg_K: the machine around a frame; pg_Z: class numbers and slots, the base address, array classes and the statics' arrays. -/
abbrev pg_K : Type := Program × Launch × Env × Room × State × MethodId × Array Value × List Frame × Method × Code
abbrev pg_Z : Type := va_G × Nat × (Nat → Nat)
def pg_A (z : pg_Z) : Nat → Prop := fun q => z.2.1 ≤ q
/-- the locals by their places: none is a place of which nothing is known -/
def pg_lv : Nat → List (Option Value) → List (Nat × Value)
  | _, [] => []
  | i, none :: t => pg_lv (i + 1) t
  | i, some v :: t => (i, v) :: pg_lv (i + 1) t
theorem pg_lv_at : ∀ (lv : List (Option Value)) (n i : Nat) (v : Value), lv[i]? = some (some v) → (n + i, v) ∈ pg_lv n lv := by
  intro lv
  induction lv with
  | nil => intro n i v h; simp at h
  | cons a t ih =>
    intro n i v h
    cases i with
    | zero =>
      simp at h
      subst h
      simp [pg_lv]
    | succ i =>
      have h2 : t[i]? = some (some v) := by simpa using h
      have h3 := ih (n + 1) i v h2
      rw [show n + (i + 1) = n + 1 + i by omega]
      cases a with
      | none => exact h3
      | some b => exact List.mem_cons_of_mem _ h3
theorem pg_lv_of : ∀ (lv : List (Option Value)) (n : Nat) (q : Nat × Value), q ∈ pg_lv n lv → ∃ i, q.1 = n + i ∧ lv[i]? = some (some q.2) := by
  intro lv
  induction lv with
  | nil => intro n q h; simp [pg_lv] at h
  | cons a t ih =>
    intro n q h
    cases a with
    | none =>
      obtain ⟨i, h1, h2⟩ := ih (n + 1) q h
      exact ⟨i + 1, by omega, by simpa using h2⟩
    | some b =>
      rcases List.mem_cons.mp h with h | h
      · exact ⟨0, by rw [h]; rfl, by rw [h]; rfl⟩
      · obtain ⟨i, h1, h2⟩ := ih (n + 1) q h
        exact ⟨i + 1, by omega, by simpa using h2⟩
/-- no long stands in the place before i -/
def pg_no2 (lv : List (Option Value)) (i : Nat) : Bool := match i with
  | 0 => true
  | j + 1 => match lv[j]? with
    | some (some v) => v.category == 1
    | _ => true
theorem pg_lv_set {ls : Array Slot} {nL i : Nat} {v : Value} {lv : List (Option Value)} (hk : pg_no2 lv i = true)
    (h : lv_has ls nL ((i, v) :: (pg_lv 0 lv).filter (fun q => !(q.1 == i) && !(q.1 + 1 == i && q.2.category == 2)))) : lv_has ls nL (pg_lv 0 (lv.set i (some v))) := by
  refine ⟨h.1, h.2.1, fun q hq => ?_⟩
  obtain ⟨j, e1, e2⟩ := pg_lv_of _ _ _ hq
  have e1 : q.1 = j := by omega
  by_cases hj : j = i
  · subst hj
    have hlt : j < lv.length := by
      have := (List.getElem?_eq_some_iff.mp e2).1
      simpa using this
    rw [List.getElem?_set_self hlt] at e2
    have e3 : v = q.2 := by simpa using e2
    have hq2 : q = (j, v) := by rw [e3]; exact Prod.ext e1 rfl
    rw [hq2]
    exact h.2.2 _ List.mem_cons_self
  · rw [List.getElem?_set_ne (Ne.symm hj)] at e2
    have hm : q ∈ pg_lv 0 lv := by
      have := pg_lv_at lv 0 j q.2 e2
      rw [show (0 + j, q.2) = q from Prod.ext (by omega) rfl] at this
      exact this
    refine h.2.2 q (List.mem_cons_of_mem _ (List.mem_filter.mpr ⟨hm, ?_⟩))
    simp only [Bool.and_eq_true, Bool.not_eq_true', beq_eq_false_iff_ne, ne_eq, Bool.and_eq_false_iff]
    refine ⟨by rw [e1]; exact hj, ?_⟩
    by_cases h1 : q.1 + 1 = i
    · right
      have hi : i = j + 1 := by omega
      subst hi
      simp only [pg_no2, e2] at hk
      intro h2
      rw [h2] at hk
      simp at hk
    · left; exact h1
theorem pg_lv_get {ls : Array Slot} {nL i : Nat} {v : Value} {lv : List (Option Value)} (hl : lv_has ls nL (pg_lv 0 lv)) (hi : lv[i]? = some (some v)) : ls[i]? = some (.val v) := by
  have h := pg_lv_at lv 0 i v hi
  rw [Nat.zero_add] at h
  exact hl.2.2 _ h
def pg_ty (z : pg_Z) : List (ClassId × FieldType) := [(z.2.2 0, .int), (z.2.2 1, .boolean), (z.2.2 2, .object "PageReceiver$Page")]
/-- what the tables and the statics say in a state: it stays over a walk -/
def pg_Kb (z : pg_Z) (U : State) : Prop :=
  va_K z.1 pg_cl (pg_ty z) U ∧
  (∀ x ∈ pg_nf, va_Nw (.fieldLinkNest x.1 x.2.1 x.2.2.1 x.2.2.2.1 x.2.2.2.2.1 x.2.2.2.2.2) U) ∧
  (∀ x ∈ pg_nm, va_Nw (.methodLinkNest x.1 x.2.1 x.2.2.1 x.2.2.2) U) ∧
  va_AO "PageReceiver$Page" U ∧ z.2.1 ≤ U.heap.size ∧
  (va_Z "PageReceiver" "CODE_WORDS" "[I" (.ref (z.2.2 3)) (pg_A z) U U.heap ∧ va_T .int (z.2.2 3) 16 (fun j => .int (pg_cw j)) (pg_A z) U U.heap) ∧
  (va_Z "PageReceiver" "CHECKED_PLACES" "[I" (.ref (z.2.2 4)) (pg_A z) U U.heap ∧ va_T .int (z.2.2 4) 5 (fun j => .int (pg_cp j)) (pg_A z) U U.heap)
theorem pg_Kb.at {z : pg_Z} {s U : State} {H : Heap} {locs : List Loc} (h : pg_Kb z s) (hW : s.WarmedH U.vm) (hS : va_S (pg_A z) s.heap H locs) (hU : U.heap = H) : pg_Kb z U := by
  obtain ⟨h1, h2, h3, h4, h5, ⟨h6, h7⟩, h8, h9⟩ := h
  have hk : ∀ a : Nat, a < s.heap.size → ¬ pg_A z a → U.heap[a]? = s.heap[a]? := fun a ha hn => by rw [hU]; exact hS.2.1 a ha hn
  exact ⟨h1.moved hW.alike, fun x hx => (h2 x hx).warmF hW, fun x hx => (h3 x hx).warmM hW, h4.moved hW.alike, Nat.le_trans h5 (by rw [hU]; exact hS.1),
    ⟨(h6.moved hW.alike).kept hk, (h7.moved hW.alike).kept hk⟩, (h8.moved hW.alike).kept hk, (h9.moved hW.alike).kept hk⟩
theorem pg_Kb.calling {z : pg_Z} {U : State} {g : JFrame} {mk : MethodId} {a : Array Value} (h : pg_Kb z U) : pg_Kb z (U.calling g mk a) := by
  obtain ⟨h1, h2, h3, h4, h5, ⟨h6, h7⟩, h8, h9⟩ := h
  have hv : U.vm.Alike (U.calling g mk a).vm := Vm.Alike.refl U.vm
  exact ⟨h1.moved hv, fun x hx => (h2 x hx).same rfl rfl, fun x hx => (h3 x hx).same rfl rfl, h4.moved hv, h5, ⟨h6.moved hv, h7.moved hv⟩, h8.moved hv, h9.moved hv⟩
abbrev pg_R (κ : pg_K) : Room := κ.2.2.2.1
abbrev pg_s (κ : pg_K) : State := κ.2.2.2.2.1
abbrev pg_m (κ : pg_K) : MethodId := κ.2.2.2.2.2.1
abbrev pg_args (κ : pg_K) : Array Value := κ.2.2.2.2.2.2.1
abbrev pg_below (κ : pg_K) : List Frame := κ.2.2.2.2.2.2.2.1
abbrev pg_meth (κ : pg_K) : Method := κ.2.2.2.2.2.2.2.2.1
abbrev pg_c (κ : pg_K) : Code := κ.2.2.2.2.2.2.2.2.2
/-- what is known around a frame of the method y -/
def pg_X (κ : pg_K) (z : pg_Z) (y : MethodName) (cc : ByteArray) (nL : Nat) (ret : Option FieldType) (rm : Room) : Prop :=
  κ.1.tables.exec = Jvm.exec ∧ (pg_c κ).code = cc ∧ (pg_c κ).maxLocals = nL ∧ (pg_s κ).vm.findClass y.cls = some (pg_m κ).cls ∧ (∀ w ∈ pg_ws, w.before (pg_args κ) (pg_s κ) = true) ∧ pg_Kb z (pg_s κ) ∧ pg_R κ = rm ∧ (pg_meth κ).sig.returnType = ret ∧ (pg_meth κ).locks = false ∧ (pg_meth κ).name = y.name
abbrev pg_W (κ : pg_K) (H : Heap) (locs : List Loc) (ce sl : Nat) (Q : State → Prop) (g : JFrame) : Prop := W κ.1 κ.2.1 κ.2.2.1 (pg_R κ) (pg_s κ) (pg_m κ) (pg_args κ) (pg_below κ) (pg_meth κ) (pg_c κ) H locs ce sl Q g
/-- from every heap with the picture Pic, at pc with these locals and this stack, the machine comes to Q -/
def pg_G (κ : pg_K) (z : pg_Z) (nL ce sl : Nat) (Q : State → Prop) (Pic : Heap → Prop) (pc : Nat) (lv : List (Option Value)) (st : List Value) : Prop :=
  ∀ (H : Heap) (locs : List Loc) (ls : Array Slot), Pic H → va_S (pg_A z) (pg_s κ).heap H locs → lv_has ls nL (pg_lv 0 lv) → pg_W κ H locs ce sl Q (F0 (pg_m κ) pc ls st)
def pg_Qc (z : pg_Z) (Post : Option Value → Heap → Prop) : Array Value → State → Outcome → State → Prop := fun _ st oc t => (∃ r, oc = .returned r ∧ Post r t.heap) ∧ va_F (pg_A z) st t
def pg_Pc (z : pg_Z) (as : List Value) (Pic : Heap → Prop) : Array Value → State → Prop := fun v U => v = as.toArray ∧ pg_Kb z U ∧ Pic U.heap
theorem pg_Pc.blind {z : pg_Z} {as : List Value} {Pic : Heap → Prop} : FrameBlind (pg_Pc z as Pic) := fun _ _ _ _ h => ⟨h.1, h.2.1.calling, h.2.2⟩
/-- the contract of y: from the picture Pic with the arguments as it returns, and Post holds of answer and heap -/
def pg_C (z : pg_Z) (y : MethodName) (cc : ByteArray) (nL : Nat) (ret : Option FieldType) (rm : Room) (as : List Value) (Pic : Heap → Prop) (Post : Option Value → Heap → Prop) : Prop :=
  ∀ l : Launch, Met l y (.code y cc nL ret :: pg_ws) rm (pg_Pc z as Pic) (pg_Qc z Post) rm.cells rm.slots (pg_A z)
def pg_Q (κ : pg_K) (z : pg_Z) (Post : Option Value → Heap → Prop) (mc ms : Nat) : State → Prop := MQ (pg_below κ) (pg_Qc z Post) (pg_args κ) (pg_s κ) mc ms (pg_A z)
theorem pg_enter {z : pg_Z} {y : MethodName} {cc : ByteArray} {nL : Nat} {ret : Option FieldType} {rm : Room} {as : List Value} {Pic : Heap → Prop} {Post : Option Value → Heap → Prop} {lv : List (Option Value)}
    (hy : plainName y.cls = true) (hn : (lg_sl as).length ≤ nL) (hlv : lv_args 0 as = pg_lv 0 lv)
    (body : ∀ κ : pg_K, pg_X κ z y cc nL ret rm → pg_G κ z nL 0 0 (pg_Q κ z Post rm.cells rm.slots) Pic 0 lv []) : pg_C z y cc nL ret rm as Pic Post := by
  intro l
  refine Met.ofW (cc := cc) (maxL := nL) (ret := ret) hy rfl ?_
  intro p e s m args below meth c s₁ B hml hv
  obtain ⟨rfl, hK, hP⟩ := hv
  have hts := atoms_spec (ws := Cond.code y cc nL ret :: pg_ws) B.pre
  rw [lg_entry_eq]
  refine body (p, l, e, (headSpec (Cond.code y cc nL ret :: pg_ws) rm).room, s, m, as.toArray, below, meth, c) ⟨B.exec, B.bytes, hml, findClass_of_methodNamed B.named, fun w hw => hts w (List.mem_cons_of_mem _ hw), hK, rfl, B.returns, B.notSynchronized, (name_of_methodNamed B.named B.method).1⟩ s.heap [] _ hP va_S.rf ?_
  rw [← hlv]
  exact lv_entry as hn
section PGCORE
variable {κ : pg_K} {z : pg_Z} {y : MethodName} {cc : ByteArray} {nL : Nat} {ret : Option FieldType} {rm : Room} {ce sl : Nat} {Q : State → Prop} {Pic Pic' : Heap → Prop} {pc : Nat} {lv : List (Option Value)} {st : List Value} {Post : Option Value → Heap → Prop}
theorem pg_wk (hp : ∀ H, Pic H → Pic' H) (k : pg_G κ z nL ce sl Q Pic' pc lv st) : pg_G κ z nL ce sl Q Pic pc lv st := fun H locs ls hP hS hl => k H locs ls (hp H hP) hS hl
theorem pg_ex {α : Sort _} {F : α → Heap → Prop} (k : ∀ a, pg_G κ z nL ce sl Q (F a) pc lv st) : pg_G κ z nL ce sl Q (fun H => ∃ a, F a H) pc lv st := fun H locs ls hP hS hl => by
  obtain ⟨a, ha⟩ := hP
  exact k a H locs ls ha hS hl
theorem pg_an {B : Prop} (k : B → pg_G κ z nL ce sl Q Pic pc lv st) : pg_G κ z nL ce sl Q (fun H => B ∧ Pic H) pc lv st := fun H locs ls hP hS hl => k hP.1 H locs ls hP.2 hS hl
theorem pg_wide {ce' sl' : Nat} (h1 : ce ≤ ce') (h2 : sl ≤ sl') (k : pg_G κ z nL ce' sl' Q Pic pc lv st) : pg_G κ z nL ce sl Q Pic pc lv st := fun H locs ls hP hS hl => W.widen h1 h2 (k H locs ls hP hS hl)
/-- fewer locals are known -/
theorem pg_fewer {lv' : List (Option Value)} (hs : ∀ q ∈ pg_lv 0 lv', q ∈ pg_lv 0 lv) (k : pg_G κ z nL ce sl Q Pic pc lv' st) : pg_G κ z nL ce sl Q Pic pc lv st := fun H locs ls hP hS hl => k H locs ls hP hS ⟨hl.1, hl.2.1, fun q hq => hl.2.2 q (hs q hq)⟩
theorem pg_iret {v : Int32} {ty : FieldType} (h : pg_X κ z y cc nL (some ty) rm) (d : decode cc pc = .ok (.ireturn, 1)) (hn : narrow ty (.int v) = .int v) (hp : ∀ H, Pic H → Post (some (.int v)) H) : pg_G κ z nL ce sl (pg_Q κ z Post ce sl) Pic pc lv [.int v] := fun H locs ls hP hS hl =>
  W.zret (ty := ty) h.1 h.2.1 h.2.2.2.2.2.2.2.1 hn (fun t ht _ => ⟨⟨_, rfl, by rw [ht]; exact hp H hP⟩, hS.F ht⟩) hS.2.2 d (hlocks := h.2.2.2.2.2.2.2.2.1)
theorem pg_vret (h : pg_X κ z y cc nL none rm) (d : decode cc pc = .ok (.return_, 1)) (hp : ∀ H, Pic H → Post none H) : pg_G κ z nL ce sl (pg_Q κ z Post ce sl) Pic pc lv [] := fun H locs ls hP hS hl =>
  W.vret h.1 h.2.1 h.2.2.2.2.2.2.2.1 (fun t ht _ => ⟨⟨_, rfl, by rw [ht]; exact hp H hP⟩, hS.F ht⟩) hS.2.2 d (hlocks := h.2.2.2.2.2.2.2.2.1)
theorem pg_aret {v : Value} {C : String} (h : pg_X κ z y cc nL (some (.object C)) rm) (d : decode cc pc = .ok (.areturn, 1)) (hv : v = .null ∨ ∃ a, v = .ref a) (hp : ∀ H, Pic H → Post (some v) H) : pg_G κ z nL ce sl (pg_Q κ z Post ce sl) Pic pc lv [v] := fun H locs ls hP hS hl =>
  W.aret h.1 h.2.1 h.2.2.2.2.2.2.2.1 (Or.inl ⟨C, rfl⟩) hv (fun t ht _ => ⟨⟨_, rfl, by rw [ht]; exact hp H hP⟩, hS.F ht⟩) hS.2.2 d (hlocks := h.2.2.2.2.2.2.2.2.1)
theorem pg_ldc {idx : Nat} {v : Int32} (h : pg_X κ z y cc nL ret rm) (d : decode cc pc = .ok (.ldc idx, 2)) (hc : Cond.constant y.cls idx v ∈ pg_ws) (k : pg_G κ z nL ce sl Q Pic (pc + 2) lv (.int v :: st)) : pg_G κ z nL ce sl Q Pic pc lv st := fun H locs ls hP hS hl => lv_ldc h.1 h.2.1 h.2.2.2.1 (h.2.2.2.2.1 _ hc) d (k H locs ls hP hS hl)
theorem pg_ldc2 {idx : Nat} {v : Int64} (h : pg_X κ z y cc nL ret rm) (d : decode cc pc = .ok (.ldc2_w idx, 3)) (hc : Cond.constantLong y.cls idx v ∈ pg_ws) (k : pg_G κ z nL ce sl Q Pic (pc + 3) lv (.long v :: st)) : pg_G κ z nL ce sl Q Pic pc lv st := fun H locs ls hP hS hl => lv_ldc2 h.1 h.2.1 h.2.2.2.1 (h.2.2.2.2.1 _ hc) d (k H locs ls hP hS hl)
end PGCORE
section PGROWS
variable {κ : pg_K} {z : pg_Z} {y : MethodName} {cc : ByteArray} {nL : Nat} {ret : Option FieldType} {rm : Room} {ce sl : Nat} {Q : State → Prop} {Pic : Heap → Prop} {pc : Nat} {lv : List (Option Value)} {st : List Value}
theorem pg_iconst {n : Int} {v : Int32} (h : pg_X κ z y cc nL ret rm) (d : decode cc pc = .ok (.iconst n, 1)) (hv : Int32.ofInt n = v) (k : pg_G κ z nL ce sl Q Pic (pc + 1) lv (.int v :: st)) : pg_G κ z nL ce sl Q Pic pc lv st := fun H locs ls hP hS hl => lv_iconst h.1 h.2.1 d hv (k H locs ls hP hS hl)
theorem pg_bipush {n : Int} {v : Int32} (h : pg_X κ z y cc nL ret rm) (d : decode cc pc = .ok (.bipush n, 2)) (hv : (Int8.ofInt n).toInt32 = v) (k : pg_G κ z nL ce sl Q Pic (pc + 2) lv (.int v :: st)) : pg_G κ z nL ce sl Q Pic pc lv st := fun H locs ls hP hS hl => lv_bipush h.1 h.2.1 d hv (k H locs ls hP hS hl)
theorem pg_sipush {n : Int} {v : Int32} (h : pg_X κ z y cc nL ret rm) (d : decode cc pc = .ok (.sipush n, 3)) (hv : (Int16.ofInt n).toInt32 = v) (k : pg_G κ z nL ce sl Q Pic (pc + 3) lv (.int v :: st)) : pg_G κ z nL ce sl Q Pic pc lv st := fun H locs ls hP hS hl => lv_sipush h.1 h.2.1 d hv (k H locs ls hP hS hl)
theorem pg_null (h : pg_X κ z y cc nL ret rm) (d : decode cc pc = .ok (.aconst_null, 1)) (k : pg_G κ z nL ce sl Q Pic (pc + 1) lv (.null :: st)) : pg_G κ z nL ce sl Q Pic pc lv st := fun H locs ls hP hS hl => lv_null h.1 h.2.1 d (k H locs ls hP hS hl)
theorem pg_iadd {x y' : Int32} (h : pg_X κ z y cc nL ret rm) (d : decode cc pc = .ok (.iadd, 1)) (k : pg_G κ z nL ce sl Q Pic (pc + 1) lv (.int (x + y') :: st)) : pg_G κ z nL ce sl Q Pic pc lv (.int y' :: .int x :: st) := fun H locs ls hP hS hl => lv_iadd h.1 h.2.1 d (k H locs ls hP hS hl)
theorem pg_isub {x y' : Int32} (h : pg_X κ z y cc nL ret rm) (d : decode cc pc = .ok (.isub, 1)) (k : pg_G κ z nL ce sl Q Pic (pc + 1) lv (.int (x - y') :: st)) : pg_G κ z nL ce sl Q Pic pc lv (.int y' :: .int x :: st) := fun H locs ls hP hS hl => lv_isub h.1 h.2.1 d (k H locs ls hP hS hl)
theorem pg_imul {x y' : Int32} (h : pg_X κ z y cc nL ret rm) (d : decode cc pc = .ok (.imul, 1)) (k : pg_G κ z nL ce sl Q Pic (pc + 1) lv (.int (x * y') :: st)) : pg_G κ z nL ce sl Q Pic pc lv (.int y' :: .int x :: st) := fun H locs ls hP hS hl => lv_imul h.1 h.2.1 d (k H locs ls hP hS hl)
theorem pg_iand {x y' : Int32} (h : pg_X κ z y cc nL ret rm) (d : decode cc pc = .ok (.iand, 1)) (k : pg_G κ z nL ce sl Q Pic (pc + 1) lv (.int (x &&& y') :: st)) : pg_G κ z nL ce sl Q Pic pc lv (.int y' :: .int x :: st) := fun H locs ls hP hS hl => lv_iand h.1 h.2.1 d (k H locs ls hP hS hl)
theorem pg_ior {x y' : Int32} (h : pg_X κ z y cc nL ret rm) (d : decode cc pc = .ok (.ior, 1)) (k : pg_G κ z nL ce sl Q Pic (pc + 1) lv (.int (x ||| y') :: st)) : pg_G κ z nL ce sl Q Pic pc lv (.int y' :: .int x :: st) := fun H locs ls hP hS hl => lv_ior h.1 h.2.1 d (k H locs ls hP hS hl)
theorem pg_ixor {x y' : Int32} (h : pg_X κ z y cc nL ret rm) (d : decode cc pc = .ok (.ixor, 1)) (k : pg_G κ z nL ce sl Q Pic (pc + 1) lv (.int (x ^^^ y') :: st)) : pg_G κ z nL ce sl Q Pic pc lv (.int y' :: .int x :: st) := fun H locs ls hP hS hl => lv_ixor h.1 h.2.1 d (k H locs ls hP hS hl)
theorem pg_ishl {x y' : Int32} (h : pg_X κ z y cc nL ret rm) (d : decode cc pc = .ok (.ishl, 1)) (k : pg_G κ z nL ce sl Q Pic (pc + 1) lv (.int (x <<< (y' &&& 31)) :: st)) : pg_G κ z nL ce sl Q Pic pc lv (.int y' :: .int x :: st) := fun H locs ls hP hS hl => lv_ishl h.1 h.2.1 d (k H locs ls hP hS hl)
theorem pg_ishr {x y' : Int32} (h : pg_X κ z y cc nL ret rm) (d : decode cc pc = .ok (.ishr, 1)) (k : pg_G κ z nL ce sl Q Pic (pc + 1) lv (.int (x >>> (y' &&& 31)) :: st)) : pg_G κ z nL ce sl Q Pic pc lv (.int y' :: .int x :: st) := fun H locs ls hP hS hl => lv_ishr h.1 h.2.1 d (k H locs ls hP hS hl)
theorem pg_idiv {x y' : Int32} (h : pg_X κ z y cc nL ret rm) (d : decode cc pc = .ok (.idiv, 1)) (hne : ¬ y' = 0) (k : pg_G κ z nL ce sl Q Pic (pc + 1) lv (.int (x / y') :: st)) : pg_G κ z nL ce sl Q Pic pc lv (.int y' :: .int x :: st) := fun H locs ls hP hS hl => lv_idiv h.1 h.2.1 d hne (k H locs ls hP hS hl)
theorem pg_irem {x y' : Int32} (h : pg_X κ z y cc nL ret rm) (d : decode cc pc = .ok (.irem, 1)) (hne : ¬ y' = 0) (k : pg_G κ z nL ce sl Q Pic (pc + 1) lv (.int (x - x / y' * y') :: st)) : pg_G κ z nL ce sl Q Pic pc lv (.int y' :: .int x :: st) := fun H locs ls hP hS hl => lv_irem h.1 h.2.1 d hne (k H locs ls hP hS hl)
theorem pg_ineg {x : Int32} (h : pg_X κ z y cc nL ret rm) (d : decode cc pc = .ok (.ineg, 1)) (k : pg_G κ z nL ce sl Q Pic (pc + 1) lv (.int (-x) :: st)) : pg_G κ z nL ce sl Q Pic pc lv (.int x :: st) := fun H locs ls hP hS hl => lv_ineg h.1 h.2.1 d (k H locs ls hP hS hl)
theorem pg_iushr {x y' : Int32} (h : pg_X κ z y cc nL ret rm) (d : decode cc pc = .ok (.iushr, 1)) (k : pg_G κ z nL ce sl Q Pic (pc + 1) lv (.int (x.toUInt32 >>> (y'.toUInt32 &&& Int32.toUInt32 31)).toInt32 :: st)) : pg_G κ z nL ce sl Q Pic pc lv (.int y' :: .int x :: st) := fun H locs ls hP hS hl => lv_iushr h.1 h.2.1 d rfl (k H locs ls hP hS hl)
theorem pg_lushr {x : Int64} {y' : Int32} (h : pg_X κ z y cc nL ret rm) (d : decode cc pc = .ok (.lushr, 1)) (k : pg_G κ z nL ce sl Q Pic (pc + 1) lv (.long (x.toUInt64 >>> (y'.toInt64.toUInt64 &&& Int64.toUInt64 63)).toInt64 :: st)) : pg_G κ z nL ce sl Q Pic pc lv (.int y' :: .long x :: st) := fun H locs ls hP hS hl => lv_lushr h.1 h.2.1 d rfl (k H locs ls hP hS hl)
theorem pg_lshl {x : Int64} {y' : Int32} (h : pg_X κ z y cc nL ret rm) (d : decode cc pc = .ok (.lshl, 1)) (k : pg_G κ z nL ce sl Q Pic (pc + 1) lv (.long (x <<< (y'.toInt64 &&& 63)) :: st)) : pg_G κ z nL ce sl Q Pic pc lv (.int y' :: .long x :: st) := fun H locs ls hP hS hl => lv_lshl h.1 h.2.1 d rfl (k H locs ls hP hS hl)
theorem pg_lshr {x : Int64} {y' : Int32} (h : pg_X κ z y cc nL ret rm) (d : decode cc pc = .ok (.lshr, 1)) (k : pg_G κ z nL ce sl Q Pic (pc + 1) lv (.long (x >>> (y'.toInt64 &&& 63)) :: st)) : pg_G κ z nL ce sl Q Pic pc lv (.int y' :: .long x :: st) := fun H locs ls hP hS hl => lv_lshr h.1 h.2.1 d rfl (k H locs ls hP hS hl)
theorem pg_land {x y' : Int64} (h : pg_X κ z y cc nL ret rm) (d : decode cc pc = .ok (.land, 1)) (k : pg_G κ z nL ce sl Q Pic (pc + 1) lv (.long (x &&& y') :: st)) : pg_G κ z nL ce sl Q Pic pc lv (.long y' :: .long x :: st) := fun H locs ls hP hS hl => lv_land h.1 h.2.1 d (k H locs ls hP hS hl)
theorem pg_lor {x y' : Int64} (h : pg_X κ z y cc nL ret rm) (d : decode cc pc = .ok (.lor, 1)) (k : pg_G κ z nL ce sl Q Pic (pc + 1) lv (.long (x ||| y') :: st)) : pg_G κ z nL ce sl Q Pic pc lv (.long y' :: .long x :: st) := fun H locs ls hP hS hl => lv_lor h.1 h.2.1 d (k H locs ls hP hS hl)
theorem pg_i2l {x : Int32} (h : pg_X κ z y cc nL ret rm) (d : decode cc pc = .ok (.i2l, 1)) (k : pg_G κ z nL ce sl Q Pic (pc + 1) lv (.long x.toInt64 :: st)) : pg_G κ z nL ce sl Q Pic pc lv (.int x :: st) := fun H locs ls hP hS hl => lv_i2l h.1 h.2.1 d rfl (k H locs ls hP hS hl)
theorem pg_l2i {x : Int64} (h : pg_X κ z y cc nL ret rm) (d : decode cc pc = .ok (.l2i, 1)) (k : pg_G κ z nL ce sl Q Pic (pc + 1) lv (.int x.toInt32 :: st)) : pg_G κ z nL ce sl Q Pic pc lv (.long x :: st) := fun H locs ls hP hS hl => lv_l2i h.1 h.2.1 d rfl (k H locs ls hP hS hl)
theorem pg_dup {va : Value} (h : pg_X κ z y cc nL ret rm) (d : decode cc pc = .ok (.dup, 1)) (hva : va.category = 1) (k : pg_G κ z nL ce sl Q Pic (pc + 1) lv (va :: va :: st)) : pg_G κ z nL ce sl Q Pic pc lv (va :: st) := fun H locs ls hP hS hl => lv_dup h.1 h.2.1 d hva (k H locs ls hP hS hl)
theorem pg_pop {va : Value} (h : pg_X κ z y cc nL ret rm) (d : decode cc pc = .ok (.pop, 1)) (hva : va.category = 1) (k : pg_G κ z nL ce sl Q Pic (pc + 1) lv st) : pg_G κ z nL ce sl Q Pic pc lv (va :: st) := fun H locs ls hP hS hl => lv_pop h.1 h.2.1 d hva (k H locs ls hP hS hl)
theorem pg_dup_x1 {va vb : Value} (h : pg_X κ z y cc nL ret rm) (d : decode cc pc = .ok (.dup_x1, 1)) (hva : va.category = 1) (hvb : vb.category = 1) (k : pg_G κ z nL ce sl Q Pic (pc + 1) lv (va :: vb :: va :: st)) : pg_G κ z nL ce sl Q Pic pc lv (va :: vb :: st) := fun H locs ls hP hS hl => lv_dup_x1 h.1 h.2.1 d hva hvb (k H locs ls hP hS hl)
theorem pg_dup_x2 {va vb vd : Value} (h : pg_X κ z y cc nL ret rm) (d : decode cc pc = .ok (.dup_x2, 1)) (hva : va.category = 1) (hvb : vb.category = 1) (hvd : vd.category = 1) (k : pg_G κ z nL ce sl Q Pic (pc + 1) lv (va :: vb :: vd :: va :: st)) : pg_G κ z nL ce sl Q Pic pc lv (va :: vb :: vd :: st) := fun H locs ls hP hS hl => lv_dup_x2 h.1 h.2.1 d hva hvb hvd (k H locs ls hP hS hl)
theorem pg_dup2 {va vb : Value} (h : pg_X κ z y cc nL ret rm) (d : decode cc pc = .ok (.dup2, 1)) (hva : va.category = 1) (hvb : vb.category = 1) (k : pg_G κ z nL ce sl Q Pic (pc + 1) lv (va :: vb :: va :: vb :: st)) : pg_G κ z nL ce sl Q Pic pc lv (va :: vb :: st) := fun H locs ls hP hS hl => lv_dup2_11 h.1 h.2.1 d hva hvb (k H locs ls hP hS hl)
theorem pg_iload {i : Nat} {x : Int32} (h : pg_X κ z y cc nL ret rm) (d : decode cc pc = .ok (.iload i, 2)) (hi : lv[i]? = some (some (.int x))) (k : pg_G κ z nL ce sl Q Pic (pc + 2) lv (.int x :: st)) : pg_G κ z nL ce sl Q Pic pc lv st := fun H locs ls hP hS hl => lv_iload h.1 h.2.1 d (pg_lv_get hl hi) (k H locs ls hP hS hl)
theorem pg_iload_n {j : Fin 4} {x : Int32} (h : pg_X κ z y cc nL ret rm) (d : decode cc pc = .ok (.iload_n j, 1)) (hi : lv[(j : Nat)]? = some (some (.int x))) (k : pg_G κ z nL ce sl Q Pic (pc + 1) lv (.int x :: st)) : pg_G κ z nL ce sl Q Pic pc lv st := fun H locs ls hP hS hl => lv_iload_n h.1 h.2.1 d rfl (pg_lv_get hl hi) (k H locs ls hP hS hl)
theorem pg_lload {i : Nat} {x : Int64} (h : pg_X κ z y cc nL ret rm) (d : decode cc pc = .ok (.lload i, 2)) (hi : lv[i]? = some (some (.long x))) (k : pg_G κ z nL ce sl Q Pic (pc + 2) lv (.long x :: st)) : pg_G κ z nL ce sl Q Pic pc lv st := fun H locs ls hP hS hl => lv_lload h.1 h.2.1 d (pg_lv_get hl hi) (k H locs ls hP hS hl)
theorem pg_lload_n {j : Fin 4} {x : Int64} (h : pg_X κ z y cc nL ret rm) (d : decode cc pc = .ok (.lload_n j, 1)) (hi : lv[(j : Nat)]? = some (some (.long x))) (k : pg_G κ z nL ce sl Q Pic (pc + 1) lv (.long x :: st)) : pg_G κ z nL ce sl Q Pic pc lv st := fun H locs ls hP hS hl => lv_lload_n h.1 h.2.1 d rfl (pg_lv_get hl hi) (k H locs ls hP hS hl)
theorem pg_aload {i : Nat} {x : Nat} (h : pg_X κ z y cc nL ret rm) (d : decode cc pc = .ok (.aload i, 2)) (hi : lv[i]? = some (some (.ref x))) (k : pg_G κ z nL ce sl Q Pic (pc + 2) lv (.ref x :: st)) : pg_G κ z nL ce sl Q Pic pc lv st := fun H locs ls hP hS hl => lv_aload h.1 h.2.1 d (pg_lv_get hl hi) (k H locs ls hP hS hl)
theorem pg_aload_n {j : Fin 4} {x : Nat} (h : pg_X κ z y cc nL ret rm) (d : decode cc pc = .ok (.aload_n j, 1)) (hi : lv[(j : Nat)]? = some (some (.ref x))) (k : pg_G κ z nL ce sl Q Pic (pc + 1) lv (.ref x :: st)) : pg_G κ z nL ce sl Q Pic pc lv st := fun H locs ls hP hS hl => lv_aload_n h.1 h.2.1 d rfl (pg_lv_get hl hi) (k H locs ls hP hS hl)
theorem pg_aloadN {i : Nat} (h : pg_X κ z y cc nL ret rm) (d : decode cc pc = .ok (.aload i, 2)) (hi : lv[i]? = some (some .null)) (k : pg_G κ z nL ce sl Q Pic (pc + 2) lv (.null :: st)) : pg_G κ z nL ce sl Q Pic pc lv st := fun H locs ls hP hS hl => lv_aloadN h.1 h.2.1 d (pg_lv_get hl hi) (k H locs ls hP hS hl)
theorem pg_aload_nN {j : Fin 4} (h : pg_X κ z y cc nL ret rm) (d : decode cc pc = .ok (.aload_n j, 1)) (hi : lv[(j : Nat)]? = some (some .null)) (k : pg_G κ z nL ce sl Q Pic (pc + 1) lv (.null :: st)) : pg_G κ z nL ce sl Q Pic pc lv st := fun H locs ls hP hS hl => lv_aload_nN h.1 h.2.1 d rfl (pg_lv_get hl hi) (k H locs ls hP hS hl)
theorem pg_istore {i : Nat} {x : Int32} {lv' : List (Option Value)} (h : pg_X κ z y cc nL ret rm) (d : decode cc pc = .ok (.istore i, 2)) (hn : i < nL) (h2 : pg_no2 lv i = true) (hl' : lv.set i (some (.int x)) = lv') (k : pg_G κ z nL ce sl Q Pic (pc + 2) (lv') st) : pg_G κ z nL ce sl Q Pic pc lv (.int x :: st) := fun H locs ls hP hS hl => lv_istore h.1 h.2.1 d hl hn rfl (fun ls' hl2 => k H locs ls' hP hS (hl' ▸ pg_lv_set h2 hl2))
theorem pg_istore_n {j : Fin 4} {x : Int32} {lv' : List (Option Value)} (h : pg_X κ z y cc nL ret rm) (d : decode cc pc = .ok (.istore_n j, 1)) (hn : (j : Nat) < nL) (h2 : pg_no2 lv j = true) (hl' : lv.set j (some (.int x)) = lv') (k : pg_G κ z nL ce sl Q Pic (pc + 1) (lv') st) : pg_G κ z nL ce sl Q Pic pc lv (.int x :: st) := fun H locs ls hP hS hl => lv_istore_n h.1 h.2.1 d rfl hl hn rfl (fun ls' hl2 => k H locs ls' hP hS (hl' ▸ pg_lv_set h2 hl2))
theorem pg_astore {i : Nat} {x : Nat} {lv' : List (Option Value)} (h : pg_X κ z y cc nL ret rm) (d : decode cc pc = .ok (.astore i, 2)) (hn : i < nL) (h2 : pg_no2 lv i = true) (hl' : lv.set i (some (.ref x)) = lv') (k : pg_G κ z nL ce sl Q Pic (pc + 2) (lv') st) : pg_G κ z nL ce sl Q Pic pc lv (.ref x :: st) := fun H locs ls hP hS hl => lv_astore h.1 h.2.1 d hl hn rfl (fun ls' hl2 => k H locs ls' hP hS (hl' ▸ pg_lv_set h2 hl2))
theorem pg_astore_n {j : Fin 4} {x : Nat} {lv' : List (Option Value)} (h : pg_X κ z y cc nL ret rm) (d : decode cc pc = .ok (.astore_n j, 1)) (hn : (j : Nat) < nL) (h2 : pg_no2 lv j = true) (hl' : lv.set j (some (.ref x)) = lv') (k : pg_G κ z nL ce sl Q Pic (pc + 1) (lv') st) : pg_G κ z nL ce sl Q Pic pc lv (.ref x :: st) := fun H locs ls hP hS hl => lv_astore_n h.1 h.2.1 d rfl hl hn rfl (fun ls' hl2 => k H locs ls' hP hS (hl' ▸ pg_lv_set h2 hl2))
theorem pg_astoreN {i : Nat} {lv' : List (Option Value)} (h : pg_X κ z y cc nL ret rm) (d : decode cc pc = .ok (.astore i, 2)) (hn : i < nL) (h2 : pg_no2 lv i = true) (hl' : lv.set i (some .null) = lv') (k : pg_G κ z nL ce sl Q Pic (pc + 2) (lv') st) : pg_G κ z nL ce sl Q Pic pc lv (.null :: st) := fun H locs ls hP hS hl => lv_astoreN h.1 h.2.1 d hl hn rfl (fun ls' hl2 => k H locs ls' hP hS (hl' ▸ pg_lv_set h2 hl2))
theorem pg_astore_nN {j : Fin 4} {lv' : List (Option Value)} (h : pg_X κ z y cc nL ret rm) (d : decode cc pc = .ok (.astore_n j, 1)) (hn : (j : Nat) < nL) (h2 : pg_no2 lv j = true) (hl' : lv.set j (some .null) = lv') (k : pg_G κ z nL ce sl Q Pic (pc + 1) (lv') st) : pg_G κ z nL ce sl Q Pic pc lv (.null :: st) := fun H locs ls hP hS hl => lv_astore_nN h.1 h.2.1 d rfl hl hn rfl (fun ls' hl2 => k H locs ls' hP hS (hl' ▸ pg_lv_set h2 hl2))
theorem pg_iinc {i : Nat} {n : Int} {x w : Int32} {lv' : List (Option Value)} (h : pg_X κ z y cc nL ret rm) (d : decode cc pc = .ok (.iinc i n, 3)) (hi : lv[i]? = some (some (.int x))) (hv : Int32.ofInt n = w) (hn : i < nL) (h2 : pg_no2 lv i = true) (hl' : lv.set i (some (.int (x + w))) = lv') (k : pg_G κ z nL ce sl Q Pic (pc + 3) (lv') st) : pg_G κ z nL ce sl Q Pic pc lv st := fun H locs ls hP hS hl => by
  obtain ⟨q, hq⟩ := List.getElem?_of_mem (pg_lv_at lv 0 i _ hi)
  rw [Nat.zero_add] at hq
  exact lv_iinc h.1 h.2.1 d hl hq (by rw [hv]) hn rfl (fun ls' hl2 => k H locs ls' hP hS (hl' ▸ pg_lv_set h2 hl2))
theorem pg_if_eq {x : Int32} {off : Int} {tgt : Nat} (h : pg_X κ z y cc nL ret rm) (d : decode cc pc = .ok (.ifCond .eq off, 3)) (ht : (pc : Int) + off = (tgt : Int)) (kt : x = 0 → pg_G κ z nL ce sl Q Pic tgt lv st) (kf : ¬ x = 0 → pg_G κ z nL ce sl Q Pic (pc + 3) lv st) : pg_G κ z nL ce sl Q Pic pc lv (.int x :: st) := fun H locs ls hP hS hl => lv_if_eq h.1 h.2.1 d ht (fun hc => kt hc H locs ls hP hS hl) (fun hc => kf hc H locs ls hP hS hl)
theorem pg_icmp_eq {x y' : Int32} {off : Int} {tgt : Nat} (h : pg_X κ z y cc nL ret rm) (d : decode cc pc = .ok (.if_icmp .eq off, 3)) (ht : (pc : Int) + off = (tgt : Int)) (kt : x = y' → pg_G κ z nL ce sl Q Pic tgt lv st) (kf : ¬ x = y' → pg_G κ z nL ce sl Q Pic (pc + 3) lv st) : pg_G κ z nL ce sl Q Pic pc lv (.int y' :: .int x :: st) := fun H locs ls hP hS hl => lv_icmp_eq h.1 h.2.1 d ht (fun hc => kt hc H locs ls hP hS hl) (fun hc => kf hc H locs ls hP hS hl)
theorem pg_if_ne {x : Int32} {off : Int} {tgt : Nat} (h : pg_X κ z y cc nL ret rm) (d : decode cc pc = .ok (.ifCond .ne off, 3)) (ht : (pc : Int) + off = (tgt : Int)) (kt : ¬ x = 0 → pg_G κ z nL ce sl Q Pic tgt lv st) (kf : x = 0 → pg_G κ z nL ce sl Q Pic (pc + 3) lv st) : pg_G κ z nL ce sl Q Pic pc lv (.int x :: st) := fun H locs ls hP hS hl => lv_if_ne h.1 h.2.1 d ht (fun hc => kt hc H locs ls hP hS hl) (fun hc => kf hc H locs ls hP hS hl)
theorem pg_icmp_ne {x y' : Int32} {off : Int} {tgt : Nat} (h : pg_X κ z y cc nL ret rm) (d : decode cc pc = .ok (.if_icmp .ne off, 3)) (ht : (pc : Int) + off = (tgt : Int)) (kt : ¬ x = y' → pg_G κ z nL ce sl Q Pic tgt lv st) (kf : x = y' → pg_G κ z nL ce sl Q Pic (pc + 3) lv st) : pg_G κ z nL ce sl Q Pic pc lv (.int y' :: .int x :: st) := fun H locs ls hP hS hl => lv_icmp_ne h.1 h.2.1 d ht (fun hc => kt hc H locs ls hP hS hl) (fun hc => kf hc H locs ls hP hS hl)
theorem pg_if_lt {x : Int32} {off : Int} {tgt : Nat} (h : pg_X κ z y cc nL ret rm) (d : decode cc pc = .ok (.ifCond .lt off, 3)) (ht : (pc : Int) + off = (tgt : Int)) (kt : x < 0 → pg_G κ z nL ce sl Q Pic tgt lv st) (kf : ¬ x < 0 → pg_G κ z nL ce sl Q Pic (pc + 3) lv st) : pg_G κ z nL ce sl Q Pic pc lv (.int x :: st) := fun H locs ls hP hS hl => lv_if_lt h.1 h.2.1 d ht (fun hc => kt hc H locs ls hP hS hl) (fun hc => kf hc H locs ls hP hS hl)
theorem pg_icmp_lt {x y' : Int32} {off : Int} {tgt : Nat} (h : pg_X κ z y cc nL ret rm) (d : decode cc pc = .ok (.if_icmp .lt off, 3)) (ht : (pc : Int) + off = (tgt : Int)) (kt : x < y' → pg_G κ z nL ce sl Q Pic tgt lv st) (kf : ¬ x < y' → pg_G κ z nL ce sl Q Pic (pc + 3) lv st) : pg_G κ z nL ce sl Q Pic pc lv (.int y' :: .int x :: st) := fun H locs ls hP hS hl => lv_icmp_lt h.1 h.2.1 d ht (fun hc => kt hc H locs ls hP hS hl) (fun hc => kf hc H locs ls hP hS hl)
theorem pg_if_ge {x : Int32} {off : Int} {tgt : Nat} (h : pg_X κ z y cc nL ret rm) (d : decode cc pc = .ok (.ifCond .ge off, 3)) (ht : (pc : Int) + off = (tgt : Int)) (kt : 0 ≤ x → pg_G κ z nL ce sl Q Pic tgt lv st) (kf : ¬ 0 ≤ x → pg_G κ z nL ce sl Q Pic (pc + 3) lv st) : pg_G κ z nL ce sl Q Pic pc lv (.int x :: st) := fun H locs ls hP hS hl => lv_if_ge h.1 h.2.1 d ht (fun hc => kt hc H locs ls hP hS hl) (fun hc => kf hc H locs ls hP hS hl)
theorem pg_icmp_ge {x y' : Int32} {off : Int} {tgt : Nat} (h : pg_X κ z y cc nL ret rm) (d : decode cc pc = .ok (.if_icmp .ge off, 3)) (ht : (pc : Int) + off = (tgt : Int)) (kt : y' ≤ x → pg_G κ z nL ce sl Q Pic tgt lv st) (kf : ¬ y' ≤ x → pg_G κ z nL ce sl Q Pic (pc + 3) lv st) : pg_G κ z nL ce sl Q Pic pc lv (.int y' :: .int x :: st) := fun H locs ls hP hS hl => lv_icmp_ge h.1 h.2.1 d ht (fun hc => kt hc H locs ls hP hS hl) (fun hc => kf hc H locs ls hP hS hl)
theorem pg_if_gt {x : Int32} {off : Int} {tgt : Nat} (h : pg_X κ z y cc nL ret rm) (d : decode cc pc = .ok (.ifCond .gt off, 3)) (ht : (pc : Int) + off = (tgt : Int)) (kt : 0 < x → pg_G κ z nL ce sl Q Pic tgt lv st) (kf : ¬ 0 < x → pg_G κ z nL ce sl Q Pic (pc + 3) lv st) : pg_G κ z nL ce sl Q Pic pc lv (.int x :: st) := fun H locs ls hP hS hl => lv_if_gt h.1 h.2.1 d ht (fun hc => kt hc H locs ls hP hS hl) (fun hc => kf hc H locs ls hP hS hl)
theorem pg_icmp_gt {x y' : Int32} {off : Int} {tgt : Nat} (h : pg_X κ z y cc nL ret rm) (d : decode cc pc = .ok (.if_icmp .gt off, 3)) (ht : (pc : Int) + off = (tgt : Int)) (kt : y' < x → pg_G κ z nL ce sl Q Pic tgt lv st) (kf : ¬ y' < x → pg_G κ z nL ce sl Q Pic (pc + 3) lv st) : pg_G κ z nL ce sl Q Pic pc lv (.int y' :: .int x :: st) := fun H locs ls hP hS hl => lv_icmp_gt h.1 h.2.1 d ht (fun hc => kt hc H locs ls hP hS hl) (fun hc => kf hc H locs ls hP hS hl)
theorem pg_if_le {x : Int32} {off : Int} {tgt : Nat} (h : pg_X κ z y cc nL ret rm) (d : decode cc pc = .ok (.ifCond .le off, 3)) (ht : (pc : Int) + off = (tgt : Int)) (kt : x ≤ 0 → pg_G κ z nL ce sl Q Pic tgt lv st) (kf : ¬ x ≤ 0 → pg_G κ z nL ce sl Q Pic (pc + 3) lv st) : pg_G κ z nL ce sl Q Pic pc lv (.int x :: st) := fun H locs ls hP hS hl => lv_if_le h.1 h.2.1 d ht (fun hc => kt hc H locs ls hP hS hl) (fun hc => kf hc H locs ls hP hS hl)
theorem pg_icmp_le {x y' : Int32} {off : Int} {tgt : Nat} (h : pg_X κ z y cc nL ret rm) (d : decode cc pc = .ok (.if_icmp .le off, 3)) (ht : (pc : Int) + off = (tgt : Int)) (kt : x ≤ y' → pg_G κ z nL ce sl Q Pic tgt lv st) (kf : ¬ x ≤ y' → pg_G κ z nL ce sl Q Pic (pc + 3) lv st) : pg_G κ z nL ce sl Q Pic pc lv (.int y' :: .int x :: st) := fun H locs ls hP hS hl => lv_icmp_le h.1 h.2.1 d ht (fun hc => kt hc H locs ls hP hS hl) (fun hc => kf hc H locs ls hP hS hl)
theorem pg_goto {off : Int} {tgt : Nat} (h : pg_X κ z y cc nL ret rm) (d : decode cc pc = .ok (.goto off, 3)) (ht : (pc : Int) + off = (tgt : Int)) (k : pg_G κ z nL ce sl Q Pic tgt lv st) : pg_G κ z nL ce sl Q Pic pc lv st := fun H locs ls hP hS hl => lv_goto h.1 h.2.1 d ht (k H locs ls hP hS hl)
theorem pg_ifnull {x : Nat} {off : Int} (h : pg_X κ z y cc nL ret rm) (d : decode cc pc = .ok (.ifnull off, 3)) (k : pg_G κ z nL ce sl Q Pic (pc + 3) lv st) : pg_G κ z nL ce sl Q Pic pc lv (.ref x :: st) := fun H locs ls hP hS hl => lv_ifnull h.1 h.2.1 d (k H locs ls hP hS hl)
theorem pg_ifnonnull {x : Nat} {off : Int} {tgt : Nat} (h : pg_X κ z y cc nL ret rm) (d : decode cc pc = .ok (.ifnonnull off, 3)) (ht : (pc : Int) + off = (tgt : Int)) (k : pg_G κ z nL ce sl Q Pic tgt lv st) : pg_G κ z nL ce sl Q Pic pc lv (.ref x :: st) := fun H locs ls hP hS hl => lv_ifnonnull h.1 h.2.1 d ht (k H locs ls hP hS hl)
theorem pg_ifnullN  {off : Int} {tgt : Nat} (h : pg_X κ z y cc nL ret rm) (d : decode cc pc = .ok (.ifnull off, 3)) (ht : (pc : Int) + off = (tgt : Int)) (k : pg_G κ z nL ce sl Q Pic tgt lv st) : pg_G κ z nL ce sl Q Pic pc lv (.null :: st) := fun H locs ls hP hS hl => lv_ifnullN h.1 h.2.1 d ht (k H locs ls hP hS hl)
theorem pg_ifnonnullN  {off : Int} (h : pg_X κ z y cc nL ret rm) (d : decode cc pc = .ok (.ifnonnull off, 3)) (k : pg_G κ z nL ce sl Q Pic (pc + 3) lv st) : pg_G κ z nL ce sl Q Pic pc lv (.null :: st) := fun H locs ls hP hS hl => lv_ifnonnullN h.1 h.2.1 d (k H locs ls hP hS hl)
theorem pg_tableIn {dflt lo hi : Int} {offs : Array Int} {len : Nat} {x : Int32} {off : Int} {tgt : Nat} (h : pg_X κ z y cc nL ret rm) (d : decode cc pc = .ok (.tableswitch dflt lo hi offs, len)) (h1 : ¬ x.toInt < lo) (h2 : ¬ hi < x.toInt) (ho : offs[(x.toInt - lo).toNat]? = some off) (ht : (pc : Int) + off = (tgt : Int)) (k : pg_G κ z nL ce sl Q Pic tgt lv st) : pg_G κ z nL ce sl Q Pic pc lv (.int x :: st) := fun H locs ls hP hS hl => lv_tableIn h.1 h.2.1 d h1 h2 ho ht (k H locs ls hP hS hl)
theorem pg_tableOut {dflt lo hi : Int} {offs : Array Int} {len : Nat} {x : Int32} {tgt : Nat} (h : pg_X κ z y cc nL ret rm) (d : decode cc pc = .ok (.tableswitch dflt lo hi offs, len)) (h1 : x.toInt < lo ∨ hi < x.toInt) (ht : (pc : Int) + dflt = (tgt : Int)) (k : pg_G κ z nL ce sl Q Pic tgt lv st) : pg_G κ z nL ce sl Q Pic pc lv (.int x :: st) := fun H locs ls hP hS hl => lv_tableOut h.1 h.2.1 d h1 ht (k H locs ls hP hS hl)
theorem pg_lookup {dflt : Int} {ps : Array (Int × Int)} {len : Nat} {x : Int32} {off : Int} {tgt : Nat} (h : pg_X κ z y cc nL ret rm) (d : decode cc pc = .ok (.lookupswitch dflt ps, len)) (hp : (ps.toList.zip (ps.toList.drop 1)).all (fun (a, next) => a.1 < next.1) = true) (ho : Op.lookupswitch.offset ps.toList dflt x.toInt = off) (ht : (pc : Int) + off = (tgt : Int)) (k : pg_G κ z nL ce sl Q Pic tgt lv st) : pg_G κ z nL ce sl Q Pic pc lv (.int x :: st) := fun H locs ls hP hS hl => lv_lookup h.1 h.2.1 d hp ho ht (k H locs ls hP hS hl)
end PGROWS
/-- a picture: the cells at the addresses L hold what M says, and they lie at the base or above, apart -/
def pg_P (z : pg_Z) (L : List Nat) (M : Nat → va_E) (H : Heap) : Prop := va_P z.1 pg_cl (va_pl L M) H ∧ va_D (pg_A z) (va_pl L M)
/-- a class by its number in pg_cl -/
def pg_cf (ci : Nat) (C : String) (T : u_T) (N : Nat) (ty : Nat → FieldType) : Prop := pg_cl[ci]? = some (C, T, N) ∧ (∀ w ∈ u_ws C T N, w ∈ pg_ws) ∧ (∀ k, k < N → parseFieldDescriptor (T k).2.2.1 = some (ty k)) ∧ (∀ a, a < N → ∀ b, b < N → a ≠ b → (T a).2.1 ≠ (T b).2.1)
/-- a row of a pool that names a field -/
def pg_fl (own : String) (idx : Nat) (T : u_T) (k : Nat) : Prop := Cond.fieldLink own idx (T k).1 (T k).2.1 (T k).2.2.1 ∈ pg_ws ∨ ∃ host, (own, idx, (T k).1, (T k).2.1, (T k).2.2.1, host) ∈ pg_nf
/-- a row of a pool that names a method -/
def pg_ml (own : String) (idx : Nat) (y : MethodName) : Prop := Cond.methodLink own idx y ∈ pg_ws ∨ ∃ host, (own, idx, y, host) ∈ pg_nm
def pg_mi (y : MethodName) (cc : ByteArray) (nL : Nat) (ret : Option FieldType) (n : Nat) : Prop := Cond.code y cc nL ret ∈ pg_ws ∧ Cond.initialized y.cls ∈ pg_ws ∧ Cond.instanceMethod y ∈ pg_ws ∧ Cond.selects y.cls y y ∈ pg_ws ∧ (y.cls ≠ "java/lang/invoke/MethodHandle" ∧ y.cls ≠ "java/lang/invoke/VarHandle" ∧ (parseMethodDescriptor y.desc).map (fun d => d.parameters.length) = some n)
def pg_ms (y : MethodName) (cc : ByteArray) (nL : Nat) (ret : Option FieldType) (n : Nat) : Prop := Cond.code y cc nL ret ∈ pg_ws ∧ Cond.initialized y.cls ∈ pg_ws ∧ Cond.static y ∈ pg_ws ∧ (y.cls ≠ "java/lang/invoke/MethodHandle" ∧ y.cls ≠ "java/lang/invoke/VarHandle" ∧ (parseMethodDescriptor y.desc).map (fun d => d.parameters.length) = some n)
def pg_mc (y : MethodName) (cc : ByteArray) (nL : Nat) (n : Nat) : Prop := Cond.code y cc nL none ∈ pg_ws ∧ Cond.initialized y.cls ∈ pg_ws ∧ Cond.instanceMethod y ∈ pg_ws ∧ y.name = "<init>" ∧ (y.cls ≠ "java/lang/invoke/MethodHandle" ∧ y.cls ≠ "java/lang/invoke/VarHandle" ∧ (parseMethodDescriptor y.desc).map (fun d => d.parameters.length) = some n)
/-- an exact contract: the answer is r, the picture behind it Pic' -/
def pg_E (z : pg_Z) (y : MethodName) (cc : ByteArray) (nL : Nat) (ret : Option FieldType) (rm : Room) (as : List Value) (Pic : Heap → Prop) (r : Option Value) (Pic' : Heap → Prop) : Prop := pg_C z y cc nL ret rm as Pic (fun r' H => r' = r ∧ Pic' H)
section PGHEAP
variable {κ : pg_K} {z : pg_Z} {y : MethodName} {cc : ByteArray} {nL : Nat} {ret : Option FieldType} {rm : Room} {ce sl : Nat} {Q : State → Prop} {pc : Nat} {lv : List (Option Value)} {st : List Value} {L : List Nat} {M : Nat → va_E} {a : Nat}
theorem pg_get1 {ci k N idx : Nat} {C : String} {T : u_T} {ty : Nat → FieldType} {fs : List Value} {v : Value} (h : pg_X κ z y cc nL ret rm) (d : decode cc pc = .ok (.getfield idx, 3)) (hc : pg_cf ci C T N ty) (hf : pg_fl y.cls idx T k) (hk : k < N) (ha : a ∈ L) (hM : M a = .inr (ci, fs)) (hv : fs[k]? = some v)
    (kk : pg_G κ z nL ce sl Q (pg_P z L M) (pc + 3) lv (v :: st)) : pg_G κ z nL ce sl Q (pg_P z L M) pc lv (.ref a :: st) := fun H locs ls hP hS hl => by
  obtain ⟨q0, hq⟩ := va_pl_get (X := []) (f := M) ha
  rw [hM] at hq
  rcases hf with hf | ⟨host, hf⟩
  · exact va_get h.1 h.2.1 h.2.2.2.2.1 hc.2.1 h.2.2.2.1 h.2.2.2.2.2.1.1 hP.1 q0 hq hc.1 k hk (h.2.2.2.2.1 _ hf) (fun _ x => x) hv d (kk H locs ls hP hS hl)
  · exact va_getN (host := host) h.1 h.2.1 h.2.2.2.2.1 hc.2.1 h.2.2.2.1 h.2.2.2.2.2.1.1 hP.1 q0 hq hc.1 k hk (va_Nw.use rfl (h.2.2.2.2.2.1.2.1 _ hf)) (fun _ x => x) hv d (kk H locs ls hP hS hl)
theorem pg_put1 {ci k N idx : Nat} {C : String} {T : u_T} {ty : Nat → FieldType} {fs : List Value} {v : Value} (h : pg_X κ z y cc nL ret rm) (d : decode cc pc = .ok (.putfield idx, 3)) (hc : pg_cf ci C T N ty) (hf : pg_fl y.cls idx T k) (hk : k < N) (hfin : (T k).2.2.2 = false) (hn : narrow (ty k) v = v) (hfit : fits (ty k) v = true) (ha : a ∈ L) (hM : M a = .inr (ci, fs)) (hlen : k < fs.length)
    (kk : pg_G κ z nL ce sl Q (pg_P z L (va_up M a (.inr (ci, fs.set k v)))) (pc + 3) lv st) : pg_G κ z nL ce sl Q (pg_P z L M) pc lv (v :: .ref a :: st) := fun H locs ls hP hS hl => by
  obtain ⟨q0, hq0⟩ := va_pl_get (X := []) (f := M) ha
  have hq := hq0
  rw [hM] at hq
  have hset := va_pl_set (X := []) (e := .inr (ci, fs.set k v)) hP.2 ha hq0
  rcases hf with hf | ⟨host, hf⟩
  · refine va_put (ws := [] ++ va_pl L M) h.1 h.2.1 h.2.2.2.2.1 hc.2.1 ty hc.2.2.1 hc.2.2.2 h.2.2.2.1 h.2.2.2.2.2.1.1 hP.1 hP.2 hS q0 hq hc.1 k hk (h.2.2.2.2.1 _ hf) (fun _ x => x) hfin (hc.2.2.1 k hk) hn hfit hlen d (fun H1 locs1 hP1 hD1 hS1 => ?_)
    rw [hset] at hP1 hD1
    exact kk H1 locs1 ls ⟨hP1, hD1⟩ hS1 hl
  · refine va_putN (host := host) (ws := [] ++ va_pl L M) h.1 h.2.1 h.2.2.2.2.1 hc.2.1 ty hc.2.2.1 hc.2.2.2 h.2.2.2.1 h.2.2.2.2.2.1.1 hP.1 hP.2 hS q0 hq hc.1 k hk (va_Nw.use rfl (h.2.2.2.2.2.1.2.1 _ hf)) (fun _ x => x) hfin (hc.2.2.1 k hk) hn hfit hlen d (fun H1 locs1 hP1 hD1 hS1 => ?_)
    rw [hset] at hP1 hD1
    exact kk H1 locs1 ls ⟨hP1, hD1⟩ hS1 hl
theorem pg_putF1 {ci k N idx : Nat} {C : String} {T : u_T} {ty : Nat → FieldType} {fs : List Value} {v : Value} (h : pg_X κ z y cc nL ret rm) (d : decode cc pc = .ok (.putfield idx, 3)) (hc : pg_cf ci C T N ty) (hf : Cond.fieldLink y.cls idx (T k).1 (T k).2.1 (T k).2.2.1 ∈ pg_ws) (hk : k < N) (hfin : (T k).2.2.2 = true) (hin : y.name = "<init>") (hdecl : (T k).1 = y.cls) (hn : narrow (ty k) v = v) (hfit : fits (ty k) v = true) (ha : a ∈ L) (hM : M a = .inr (ci, fs)) (hlen : k < fs.length)
    (kk : pg_G κ z nL ce sl Q (pg_P z L (va_up M a (.inr (ci, fs.set k v)))) (pc + 3) lv st) : pg_G κ z nL ce sl Q (pg_P z L M) pc lv (v :: .ref a :: st) := fun H locs ls hP hS hl => by
  obtain ⟨q0, hq0⟩ := va_pl_get (X := []) (f := M) ha
  have hq := hq0
  rw [hM] at hq
  have hset := va_pl_set (X := []) (e := .inr (ci, fs.set k v)) hP.2 ha hq0
  refine va_putF (ws := [] ++ va_pl L M) h.1 h.2.1 h.2.2.2.2.1 hc.2.1 ty hc.2.2.1 hc.2.2.2 h.2.2.2.1 h.2.2.2.2.2.1.1 hP.1 hP.2 hS q0 hq hc.1 k hk (h.2.2.2.2.1 _ hf) (fun _ x => x) hfin (h.2.2.2.2.2.2.2.2.2.trans hin) hdecl (hc.2.2.1 k hk) hn hfit hlen d (fun H1 locs1 hP1 hD1 hS1 => ?_)
  rw [hset] at hP1 hD1
  exact kk H1 locs1 ls ⟨hP1, hD1⟩ hS1 hl
theorem pg_iald1 {n : Nat} {f : Nat → Int32} {i : Int32} (h : pg_X κ z y cc nL ret rm) (d : decode cc pc = .ok (.iaload, 1)) (ha : a ∈ L) (hM : M a = .inl (z.2.2 0, n, .inl f)) (hi : vp_in i n)
    (kk : pg_G κ z nL ce sl Q (pg_P z L M) (pc + 1) lv (.int (f i.toNatClampNeg) :: st)) : pg_G κ z nL ce sl Q (pg_P z L M) pc lv (.int i :: .ref a :: st) := fun H locs ls hP hS hl => by
  obtain ⟨q0, hq⟩ := va_pl_get (X := []) (f := M) ha
  rw [hM] at hq
  exact va_iald h.1 h.2.1 h.2.2.2.2.2.1.1 hP.1 q0 0 hq rfl hi d (kk H locs ls hP hS hl)
theorem pg_zald1 {n : Nat} {f : Nat → Int32} {i : Int32} (h : pg_X κ z y cc nL ret rm) (d : decode cc pc = .ok (.baload, 1)) (ha : a ∈ L) (hM : M a = .inl (z.2.2 1, n, .inl f)) (hi : vp_in i n)
    (kk : pg_G κ z nL ce sl Q (pg_P z L M) (pc + 1) lv (.int (f i.toNatClampNeg) :: st)) : pg_G κ z nL ce sl Q (pg_P z L M) pc lv (.int i :: .ref a :: st) := fun H locs ls hP hS hl => by
  obtain ⟨q0, hq⟩ := va_pl_get (X := []) (f := M) ha
  rw [hM] at hq
  exact va_zald h.1 h.2.1 h.2.2.2.2.2.1.1 hP.1 q0 1 hq rfl hi d (kk H locs ls hP hS hl)
theorem pg_aald1 {n : Nat} {f : Nat → Option Nat} {i : Int32} (h : pg_X κ z y cc nL ret rm) (d : decode cc pc = .ok (.aaload, 1)) (ha : a ∈ L) (hM : M a = .inl (z.2.2 2, n, .inr (.inr (.inr (.inr f))))) (hi : vp_in i n)
    (kk : pg_G κ z nL ce sl Q (pg_P z L M) (pc + 1) lv (va_rf (f i.toNatClampNeg) :: st)) : pg_G κ z nL ce sl Q (pg_P z L M) pc lv (.int i :: .ref a :: st) := fun H locs ls hP hS hl => by
  obtain ⟨q0, hq⟩ := va_pl_get (X := []) (f := M) ha
  rw [hM] at hq
  exact va_aldq h.1 h.2.1 h.2.2.2.2.2.1.1 hP.1 q0 2 hq rfl hi d (kk H locs ls hP hS hl)
theorem pg_alen1 {x : vp_A} {c : ClassId} {t0 : Nat} {ty : FieldType} {v : Int32} (h : pg_X κ z y cc nL ret rm) (d : decode cc pc = .ok (.arraylength, 1)) (ha : a ∈ L) (hM : M a = .inl (c, x)) (ht : (pg_ty z)[t0]? = some (c, ty)) (hv : Int32.ofNat x.1 = v)
    (kk : pg_G κ z nL ce sl Q (pg_P z L M) (pc + 1) lv (.int v :: st)) : pg_G κ z nL ce sl Q (pg_P z L M) pc lv (.ref a :: st) := fun H locs ls hP hS hl => by
  obtain ⟨q0, hq⟩ := va_pl_get (X := []) (f := M) ha
  rw [hM] at hq
  exact va_alen h.1 h.2.1 h.2.2.2.2.2.1.1 hP.1 q0 t0 hq ht hv d (kk H locs ls hP hS hl)
theorem pg_iast1 {n : Nat} {f : Nat → Int32} {i x : Int32} (h : pg_X κ z y cc nL ret rm) (d : decode cc pc = .ok (.iastore, 1)) (ha : a ∈ L) (hM : M a = .inl (z.2.2 0, n, .inl f)) (hi : vp_in i n)
    (kk : pg_G κ z nL ce sl Q (pg_P z L (va_up M a (.inl (z.2.2 0, n, .inl (upd f i.toNatClampNeg x))))) (pc + 1) lv st) : pg_G κ z nL ce sl Q (pg_P z L M) pc lv (.int x :: .int i :: .ref a :: st) := fun H locs ls hP hS hl => by
  obtain ⟨q0, hq0⟩ := va_pl_get (X := []) (f := M) ha
  have hq := hq0
  rw [hM] at hq
  have hset := va_pl_set (X := []) (e := .inl (z.2.2 0, n, .inl (upd f i.toNatClampNeg x))) hP.2 ha hq0
  refine va_iast (ws := [] ++ va_pl L M) h.1 h.2.1 h.2.2.2.2.2.1.1 hP.1 hP.2 hS q0 0 hq rfl hi d (fun H1 locs1 hP1 hD1 hS1 => ?_)
  rw [hset] at hP1 hD1
  exact kk H1 locs1 ls ⟨hP1, hD1⟩ hS1 hl
theorem pg_zast1 {n : Nat} {f : Nat → Int32} {i x : Int32} (h : pg_X κ z y cc nL ret rm) (d : decode cc pc = .ok (.bastore, 1)) (ha : a ∈ L) (hM : M a = .inl (z.2.2 1, n, .inl f)) (hi : vp_in i n) (hx : vp_nar .boolean x = x)
    (kk : pg_G κ z nL ce sl Q (pg_P z L (va_up M a (.inl (z.2.2 1, n, .inl (upd f i.toNatClampNeg x))))) (pc + 1) lv st) : pg_G κ z nL ce sl Q (pg_P z L M) pc lv (.int x :: .int i :: .ref a :: st) := fun H locs ls hP hS hl => by
  obtain ⟨q0, hq0⟩ := va_pl_get (X := []) (f := M) ha
  have hq := hq0
  rw [hM] at hq
  have hset := va_pl_set (X := []) (e := .inl (z.2.2 1, n, .inl (upd f i.toNatClampNeg x))) hP.2 ha hq0
  refine va_zast (ws := [] ++ va_pl L M) h.1 h.2.1 h.2.2.2.2.2.1.1 hP.1 hP.2 hS q0 1 hq rfl hi d (fun H1 locs1 hP1 hD1 hS1 => ?_)
  rw [hx, hset] at hP1 hD1
  exact kk H1 locs1 ls ⟨hP1, hD1⟩ hS1 hl
theorem pg_aast1 {n ci b : Nat} {fs : List Value} {T : u_T} {N : Nat} {f : Nat → Option Nat} {i : Int32} (h : pg_X κ z y cc nL ret rm) (d : decode cc pc = .ok (.aastore, 1)) (ha : a ∈ L) (hM : M a = .inl (z.2.2 2, n, .inr (.inr (.inr (.inr f))))) (hb : b ∈ L) (hMb : M b = .inr (ci, fs)) (hc : pg_cl[ci]? = some ("PageReceiver$Page", T, N)) (hi : vp_in i n)
    (kk : pg_G κ z nL ce sl Q (pg_P z L (va_up M a (.inl (z.2.2 2, n, .inr (.inr (.inr (.inr (va_up f i.toNatClampNeg (some b))))))))) (pc + 1) lv st) : pg_G κ z nL ce sl Q (pg_P z L M) pc lv (.ref b :: .int i :: .ref a :: st) := fun H locs ls hP hS hl => by
  obtain ⟨q0, hq0⟩ := va_pl_get (X := []) (f := M) ha
  have hq := hq0
  rw [hM] at hq
  obtain ⟨q1, hq1⟩ := va_pl_get (X := []) (f := M) hb
  rw [hMb] at hq1
  have hset := va_pl_set (X := []) (e := .inl (z.2.2 2, n, .inr (.inr (.inr (.inr (va_up f i.toNatClampNeg (some b))))))) hP.2 ha hq0
  refine va_astq (ws := [] ++ va_pl L M) (r := ("PageReceiver$Page", T, N)) h.1 h.2.1 h.2.2.2.2.2.1.1 hP.1 hP.2 hS q0 2 q1 ci hq rfl hq1 hc hi d (fun H1 locs1 hP1 hD1 hS1 => ?_)
  rw [hset] at hP1 hD1
  exact kk H1 locs1 ls ⟨hP1, hD1⟩ hS1 hl
/-- what is at the address of an object, for a call on it -/
theorem pg_recv1 {ci N : Nat} {C : String} {T : u_T} {ty : Nat → FieldType} {fs : List Value} {H : Heap} (h : pg_X κ z y cc nL ret rm) (hc : pg_cf ci C T N ty) (ha : a ∈ L) (hM : M a = .inr (ci, fs)) (hP : pg_P z L M H) : ∃ cell : Cell, H[a]? = some cell ∧ cell.vm.isStatics = false ∧ (pg_s κ).vm.findClass C = some cell.cls := by
  obtain ⟨q0, hq⟩ := va_pl_get (X := []) (f := M) ha
  rw [hM] at hq
  exact va_recv h.2.2.2.2.2.1.1 hP.1 hc.1 hq
end PGHEAP
section PGCALL
variable {κ : pg_K} {z : pg_Z} {y : MethodName} {cc : ByteArray} {nL : Nat} {ret : Option FieldType} {rm : Room} {ce sl : Nat} {Q : State → Prop} {pc : Nat} {lv : List (Option Value)} {st : List Value} {Pic : Heap → Prop}
variable {y2 : MethodName} {cc2 : ByteArray} {nL2 n idx : Nat} {ret2 : Option FieldType} {rm2 : Room} {b : Nat} {As rest : List Value} {Post2 : Option Value → Heap → Prop} {Pic2 : Heap → Prop} {v : Value}
theorem pg_gd (hc : Cond.code y2 cc2 nL2 ret2 ∈ pg_ws) : GoodIn pg_ws (Cond.code y2 cc2 nL2 ret2 :: pg_ws) := fun w hw => by
  rcases List.mem_cons.mp hw with rfl | hw
  · exact ⟨hc, pg_good _ hc⟩
  · exact ⟨hw, pg_good _ hw⟩
/-- behind a call: what va_Run says, in the words of the judgement -/
theorem pg_after {st0 : List Value} (hS0 : ∀ (H : Heap) (locs : List Loc) (ls : Array Slot), Pic H → va_S (pg_A z) (pg_s κ).heap H locs → ls.size = nL → va_Run κ.1 κ.2.1 κ.2.2.1 (pg_R κ) (pg_s κ) (pg_m κ) (pg_args κ) (pg_below κ) (pg_meth κ) (pg_c κ) H locs ce sl rm2.cells rm2.slots (F0 (pg_m κ) pc ls st0) rest (pg_Qc z Post2 As.toArray) (pg_A z))
    (kk : ∀ r, pg_G κ z nL (ce + rm2.cells) (sl + rm2.slots) Q (Post2 r) (pc + 3) lv (r.toList ++ rest)) : pg_G κ z nL ce sl Q Pic pc lv st0 := fun H locs ls hP hS hl => by
  intro T hT X
  obtain ⟨w, st₀, t, T', L, h0, X', hL, e1, e2, ⟨⟨r, hr, hpost⟩, hz, hk⟩, stp⟩ := hS0 H locs ls hP hS hl.1 T hT X
  cases hr
  rw [h0] at hz hk
  obtain ⟨t2, a1, b1⟩ := kk w T'.heap (locs ++ L) ls (by rw [e1]; exact hpost)
    ⟨Nat.le_trans hS.1 (by rw [e1]; exact hz), fun q h1 h2 => by rw [e1, hk q (Nat.lt_of_lt_of_le h1 hS.1) h2]; exact hS.2.1 q h1 h2, fun q hq => by
      rcases List.mem_append.mp hq with h | h
      · exact hS.2.2 q h
      · exact hL q h⟩ hl T' rfl X'
  exact ⟨t2, stp t2 a1, b1⟩
theorem pg_callV (h : pg_X κ z y cc nL ret rm) (d : decode cc pc = .ok (.invokevirtual idx, 3)) (hm : pg_mi y2 cc2 nL2 ret2 n) (hl : pg_ml y.cls idx y2) (hC : pg_C z y2 cc2 nL2 ret2 rm2 (.ref b :: As) Pic Post2)
    (hrecv : ∀ H, Pic H → ∃ cell : Cell, H[b]? = some cell ∧ cell.vm.isStatics = false ∧ (pg_s κ).vm.findClass y2.cls = some cell.cls) (hn : As.length = n) (hst : st = As.reverse ++ .ref b :: rest) (hcat : (rest.map fun v => v.category).sum ≤ 8)
    (hroom : rm2.frames + 1 ≤ rm.frames ∧ 8 + (nL2 + 11) + rm2.locals ≤ rm.locals) (hcell : ce + rm2.cells ≤ rm.cells ∧ sl + rm2.slots ≤ rm.slots)
    (kk : ∀ r, pg_G κ z nL (ce + rm2.cells) (sl + rm2.slots) Q (Post2 r) (pc + 3) lv (r.toList ++ rest)) : pg_G κ z nL ce sl Q Pic pc lv st := by
  refine pg_after (As := .ref b :: As) (fun H locs ls hP hS hsz => ?_) kk
  obtain ⟨m1, m2, m3, m4, m5⟩ := hm
  have hts := h.2.2.2.2.1
  have hp : PreV (pg_s κ) H y2.cls b (pg_Pc z (.ref b :: As) Pic) As := ⟨pg_Pc.blind, hrecv H hP, fun U hU hW => ⟨rfl, h.2.2.2.2.2.1.at hW hS hU, by rw [hU]; exact hP⟩⟩
  have hR : rm2.frames + 1 ≤ (pg_R κ).frames ∧ 8 + (nL2 + 11) + rm2.locals ≤ (pg_R κ).locals := by rw [h.2.2.2.2.2.2.1]; exact hroom
  have hf : ce + rm2.cells ≤ (pg_R κ).cells ∧ sl + rm2.slots ≤ (pg_R κ).slots := by rw [h.2.2.2.2.2.2.1]; exact hcell
  rcases hl with hl | ⟨host, hl⟩
  · exact va_runV (rest := rest) ⟨h.1, h.2.1, h.2.2.1, h.2.2.2.1, hts⟩ (hC κ.2.1) ⟨callB_of n hts (pg_gd m1) rfl rfl rfl (hts _ m2) (hts _ hl) m5 hR, hts _ m3, hts _ m4⟩ hp rfl hn hsz hst (lv_room hcat) d hf
  · exact va_runVN (rest := rest) (host := host) ⟨h.1, h.2.1, h.2.2.1, h.2.2.2.1, hts⟩ (hC κ.2.1) ⟨va_cnB n hts (pg_gd m1) rfl rfl rfl (h.2.2.2.2.2.1.2.2.1 _ hl) (hts _ m2) m5 hR, hts _ m3, hts _ m4⟩ hp rfl hn hsz hst (lv_room hcat) d hf
theorem pg_callS (h : pg_X κ z y cc nL ret rm) (d : decode cc pc = .ok (.invokestatic idx, 3)) (hm : pg_ms y2 cc2 nL2 ret2 n) (hl : pg_ml y.cls idx y2) (hC : pg_C z y2 cc2 nL2 ret2 rm2 As Pic Post2)
    (hn : As.length = n) (hst : st = As.reverse ++ rest) (hcat : (rest.map fun v => v.category).sum ≤ 8)
    (hroom : rm2.frames + 1 ≤ rm.frames ∧ 8 + (nL2 + 11) + rm2.locals ≤ rm.locals) (hcell : ce + rm2.cells ≤ rm.cells ∧ sl + rm2.slots ≤ rm.slots)
    (kk : ∀ r, pg_G κ z nL (ce + rm2.cells) (sl + rm2.slots) Q (Post2 r) (pc + 3) lv (r.toList ++ rest)) : pg_G κ z nL ce sl Q Pic pc lv st := by
  refine pg_after (As := As) (fun H locs ls hP hS hsz => ?_) kk
  obtain ⟨m1, m2, m3, m5⟩ := hm
  have hts := h.2.2.2.2.1
  have hp : PreS (pg_s κ) H (pg_Pc z As Pic) As := ⟨pg_Pc.blind, fun U hU hW => ⟨rfl, h.2.2.2.2.2.1.at hW hS hU, by rw [hU]; exact hP⟩⟩
  have hR : rm2.frames + 1 ≤ (pg_R κ).frames ∧ 8 + (nL2 + 11) + rm2.locals ≤ (pg_R κ).locals := by rw [h.2.2.2.2.2.2.1]; exact hroom
  have hf : ce + rm2.cells ≤ (pg_R κ).cells ∧ sl + rm2.slots ≤ (pg_R κ).slots := by rw [h.2.2.2.2.2.2.1]; exact hcell
  rcases hl with hl | ⟨host, hl⟩
  · exact va_runS (rest := rest) ⟨h.1, h.2.1, h.2.2.1, h.2.2.2.1, hts⟩ (hC κ.2.1) ⟨callB_of n hts (pg_gd m1) rfl rfl rfl (hts _ m2) (hts _ hl) m5 hR, hts _ m3⟩ hp rfl hn hsz hst (lv_room hcat) d hf
  · exact va_runSN (rest := rest) (host := host) ⟨h.1, h.2.1, h.2.2.1, h.2.2.2.1, hts⟩ (hC κ.2.1) ⟨va_cnB n hts (pg_gd m1) rfl rfl rfl (h.2.2.2.2.2.1.2.2.1 _ hl) (hts _ m2) m5 hR, hts _ m3, trivial⟩ hp rfl hn hsz hst (lv_room hcat) d hf
theorem pg_callI (h : pg_X κ z y cc nL ret rm) (d : decode cc pc = .ok (.invokespecial idx, 3)) (hm : pg_mc y2 cc2 nL2 n) (hl : pg_ml y.cls idx y2) (hC : pg_C z y2 cc2 nL2 none rm2 (.ref b :: As) Pic Post2)
    (hn : As.length = n) (hst : st = As.reverse ++ .ref b :: rest) (hcat : (rest.map fun v => v.category).sum ≤ 8)
    (hroom : rm2.frames + 1 ≤ rm.frames ∧ 8 + (nL2 + 11) + rm2.locals ≤ rm.locals) (hcell : ce + rm2.cells ≤ rm.cells ∧ sl + rm2.slots ≤ rm.slots)
    (kk : ∀ r, pg_G κ z nL (ce + rm2.cells) (sl + rm2.slots) Q (Post2 r) (pc + 3) lv (r.toList ++ rest)) : pg_G κ z nL ce sl Q Pic pc lv st := by
  refine pg_after (As := .ref b :: As) (fun H locs ls hP hS hsz => ?_) kk
  obtain ⟨m1, m2, m3, m4, m5⟩ := hm
  have hts := h.2.2.2.2.1
  have hp : PreS (pg_s κ) H (pg_Pc z (.ref b :: As) Pic) (.ref b :: As) := ⟨pg_Pc.blind, fun U hU hW => ⟨rfl, h.2.2.2.2.2.1.at hW hS hU, by rw [hU]; exact hP⟩⟩
  have hR : rm2.frames + 1 ≤ (pg_R κ).frames ∧ 8 + (nL2 + 11) + rm2.locals ≤ (pg_R κ).locals := by rw [h.2.2.2.2.2.2.1]; exact hroom
  have hf : ce + rm2.cells ≤ (pg_R κ).cells ∧ sl + rm2.slots ≤ (pg_R κ).slots := by rw [h.2.2.2.2.2.2.1]; exact hcell
  rcases hl with hl | ⟨host, hl⟩
  · exact va_runI (rest := rest) ⟨h.1, h.2.1, h.2.2.1, h.2.2.2.1, hts⟩ (hC κ.2.1) ⟨callB_of n hts (pg_gd m1) rfl rfl rfl (hts _ m2) (hts _ hl) m5 hR, m4, hts _ m3⟩ hp rfl hn hsz hst (lv_room hcat) d hf
  · exact va_runIN (rest := rest) (host := host) ⟨h.1, h.2.1, h.2.2.1, h.2.2.2.1, hts⟩ (hC κ.2.1) ⟨va_cnB n hts (pg_gd m1) rfl rfl rfl (h.2.2.2.2.2.1.2.2.1 _ hl) (hts _ m2) m5 hR, m4, hts _ m3⟩ hp rfl hn hsz hst (lv_room hcat) d hf
/-- exact calls that make no cells: a value, nothing -/
theorem pg_cV {d2 lo2 : Nat} (h : pg_X κ z y cc nL ret rm) (d : decode cc pc = .ok (.invokevirtual idx, 3)) (hm : pg_mi y2 cc2 nL2 ret2 n) (hl : pg_ml y.cls idx y2) (hC : pg_E z y2 cc2 nL2 ret2 ⟨d2, 0, 0, lo2⟩ (.ref b :: As) Pic (some v) Pic2)
    (hrecv : ∀ H, Pic H → ∃ cell : Cell, H[b]? = some cell ∧ cell.vm.isStatics = false ∧ (pg_s κ).vm.findClass y2.cls = some cell.cls) (hn : As.length = n) (hst : st = As.reverse ++ .ref b :: rest) (hcat : (rest.map fun v => v.category).sum ≤ 8)
    (hroom : d2 + 1 ≤ rm.frames ∧ 8 + (nL2 + 11) + lo2 ≤ rm.locals) (hcell : ce ≤ rm.cells ∧ sl ≤ rm.slots)
    (kk : pg_G κ z nL ce sl Q Pic2 (pc + 3) lv (v :: rest)) : pg_G κ z nL ce sl Q Pic pc lv st :=
  pg_callV h d hm hl hC hrecv hn hst hcat hroom hcell (fun _ => pg_an (fun e => by subst e; exact kk))
theorem pg_cV0 {d2 lo2 : Nat} (h : pg_X κ z y cc nL ret rm) (d : decode cc pc = .ok (.invokevirtual idx, 3)) (hm : pg_mi y2 cc2 nL2 ret2 n) (hl : pg_ml y.cls idx y2) (hC : pg_E z y2 cc2 nL2 ret2 ⟨d2, 0, 0, lo2⟩ (.ref b :: As) Pic none Pic2)
    (hrecv : ∀ H, Pic H → ∃ cell : Cell, H[b]? = some cell ∧ cell.vm.isStatics = false ∧ (pg_s κ).vm.findClass y2.cls = some cell.cls) (hn : As.length = n) (hst : st = As.reverse ++ .ref b :: rest) (hcat : (rest.map fun v => v.category).sum ≤ 8)
    (hroom : d2 + 1 ≤ rm.frames ∧ 8 + (nL2 + 11) + lo2 ≤ rm.locals) (hcell : ce ≤ rm.cells ∧ sl ≤ rm.slots)
    (kk : pg_G κ z nL ce sl Q Pic2 (pc + 3) lv rest) : pg_G κ z nL ce sl Q Pic pc lv st :=
  pg_callV h d hm hl hC hrecv hn hst hcat hroom hcell (fun _ => pg_an (fun e => by subst e; exact kk))
theorem pg_cS {d2 lo2 : Nat} (h : pg_X κ z y cc nL ret rm) (d : decode cc pc = .ok (.invokestatic idx, 3)) (hm : pg_ms y2 cc2 nL2 ret2 n) (hl : pg_ml y.cls idx y2) (hC : pg_E z y2 cc2 nL2 ret2 ⟨d2, 0, 0, lo2⟩ As Pic (some v) Pic2)
    (hn : As.length = n) (hst : st = As.reverse ++ rest) (hcat : (rest.map fun v => v.category).sum ≤ 8)
    (hroom : d2 + 1 ≤ rm.frames ∧ 8 + (nL2 + 11) + lo2 ≤ rm.locals) (hcell : ce ≤ rm.cells ∧ sl ≤ rm.slots)
    (kk : pg_G κ z nL ce sl Q Pic2 (pc + 3) lv (v :: rest)) : pg_G κ z nL ce sl Q Pic pc lv st :=
  pg_callS h d hm hl hC hn hst hcat hroom hcell (fun _ => pg_an (fun e => by subst e; exact kk))
theorem pg_cS0 {d2 lo2 : Nat} (h : pg_X κ z y cc nL ret rm) (d : decode cc pc = .ok (.invokestatic idx, 3)) (hm : pg_ms y2 cc2 nL2 ret2 n) (hl : pg_ml y.cls idx y2) (hC : pg_E z y2 cc2 nL2 ret2 ⟨d2, 0, 0, lo2⟩ As Pic none Pic2)
    (hn : As.length = n) (hst : st = As.reverse ++ rest) (hcat : (rest.map fun v => v.category).sum ≤ 8)
    (hroom : d2 + 1 ≤ rm.frames ∧ 8 + (nL2 + 11) + lo2 ≤ rm.locals) (hcell : ce ≤ rm.cells ∧ sl ≤ rm.slots)
    (kk : pg_G κ z nL ce sl Q Pic2 (pc + 3) lv rest) : pg_G κ z nL ce sl Q Pic pc lv st :=
  pg_callS h d hm hl hC hn hst hcat hroom hcell (fun _ => pg_an (fun e => by subst e; exact kk))
end PGCALL
