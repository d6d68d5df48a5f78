/-! The law's walk: the script, the cell of it, the loop over the calls. -/
abbrev yLaw (nm : String) : MethodName := ⟨"PageReceiverLaw", nm, ""⟩
/-- the script lies at b: L ints -/
abbrev scT (z : pg_Z) (b L : Nat) (xs : Nat → Int32) (U : State) : Prop := va_T .int b L (fun j => .int (xs j)) (pg_A z) U U.heap
section SCR
variable {κ : pg_K} {z : pg_Z} {y : MethodName} {cc : ByteArray} {nL : Nat} {ret : Option FieldType} {rm : Room} {ce sl : Nat} {Q : State → Prop} {Pic : Heap → Prop} {pc : Nat} {lv : List (Option Value)} {st : List Value} {b L : Nat} {xs : Nat → Int32}
theorem pg_sld {i : Int32} {j : Nat} (h : pg_X κ z y cc nL ret rm) (hT : scT z b L xs (pg_s κ)) (d : decode cc pc = .ok (.iaload, 1)) (hi : pg_ix i L j) (k : pg_G κ z nL ce sl Q Pic (pc + 1) lv (.int (xs j) :: st)) : pg_G κ z nL ce sl Q Pic pc lv (.int i :: .ref b :: st) := fun H locs ls hP hS hl => va_ti h.1 h.2.1 hT hS hi.1 (by rw [hi.2]) d (k H locs ls hP hS hl)
theorem pg_slen (h : pg_X κ z y cc nL ret rm) (hT : scT z b L xs (pg_s κ)) (d : decode cc pc = .ok (.arraylength, 1)) (k : pg_G κ z nL ce sl Q Pic (pc + 1) lv (.int (nI L) :: st)) : pg_G κ z nL ce sl Q Pic pc lv (.ref b :: st) := fun H locs ls hP hS hl => va_tlen h.1 h.2.1 hT hS rfl d (k H locs ls hP hS hl)
def cellV (L : Nat) (xs : Nat → Int32) : Int32 := if L = 0 then 0 else xs 0
def sc_Pc (z : pg_Z) (b L : Nat) (xs : Nat → Int32) (as : List Value) (Pic : Heap → Prop) : Array Value → State → Prop := fun v U => v = as.toArray ∧ pg_Kb z U ∧ scT z b L xs U ∧ Pic U.heap
theorem sc_Pc.blind {as : List Value} : FrameBlind (sc_Pc z b L xs as Pic) := fun _ _ _ _ h => ⟨h.1, h.2.1.calling, h.2.2.1.moved (Vm.Alike.refl _), h.2.2.2⟩
theorem met_cell (hL : L < 2 ^ 31) (l : Launch) : Met l y_Law_cell (.code y_Law_cell b_Law_cell 2 (some .int) :: pg_ws) ⟨0, 0, 0, 0⟩ (sc_Pc z b L xs [.ref b, .int 0] Pic) (pg_Qc z (fun r H => r = some (.int (cellV L xs)) ∧ Pic H)) 0 0 (pg_A z) := by
  refine Met.ofW (cc := b_Law_cell) (maxL := 2) (ret := some .int) (by decide) rfl ?_
  intro p e s m args below meth c s₁ B hml hv
  obtain ⟨rfl, hK, hT, hP⟩ := hv
  have hts := atoms_spec (ws := Cond.code y_Law_cell b_Law_cell 2 (some .int) :: pg_ws) B.pre
  rw [lg_entry_eq]
  have body : ∀ κ : pg_K, pg_X κ z y_Law_cell b_Law_cell 2 (some .int) ⟨0, 0, 0, 0⟩ → scT z b L xs (pg_s κ) → pg_G κ z 2 0 0 (pg_Q κ z (fun r H => r = some (.int (cellV L xs)) ∧ Pic H) 0 0) Pic 0 [some (.ref b), some (.int 0)] [] := by
    intro κ h hT
    refine pg_iload_n h d_Law_cell_0 rfl ?_
    refine pg_aload_n h d_Law_cell_1 rfl ?_
    refine pg_slen h hT d_Law_cell_2 ?_
    refine pg_icmp_ge (tgt := 12) h d_Law_cell_3 rfl (fun e3 => ?_) (fun e3 => ?_)
    · have h0 : L = 0 := Nat.eq_zero_of_not_pos (fun q => nI_ge (a := 0) q hL e3)
      refine pg_iconst (v := 0) h d_Law_cell_12 (by decide) ?_
      exact pg_iret h d_Law_cell_13 rfl (fun H hP => ⟨by rw [cellV, if_pos h0], hP⟩)
    · have h0 : 0 < L := Nat.pos_of_ne_zero (fun q => e3 (by rw [q]; exact Int32.le_refl _))
      refine pg_aload_n h d_Law_cell_6 rfl ?_
      refine pg_iload_n h d_Law_cell_7 rfl ?_
      refine pg_sld h hT d_Law_cell_8 (pg_ixN (j := 0) rfl h0 hL) ?_
      refine pg_goto (tgt := 13) h d_Law_cell_9 rfl ?_
      exact pg_iret h d_Law_cell_13 rfl (fun H hP => ⟨by rw [cellV, if_neg (by omega)], hP⟩)
  exact body (p, l, e, (headSpec (Cond.code y_Law_cell b_Law_cell 2 (some .int) :: pg_ws) ⟨0, 0, 0, 0⟩).room, s, m, ([.ref b, .int 0] : List Value).toArray, below, meth, c) ⟨B.exec, B.bytes, hml, findClass_of_methodNamed B.named, fun w hw => hts w (List.mem_cons_of_mem _ hw), hK, rfl, B.returns, B.notSynchronized, (name_of_methodNamed B.named B.method).1⟩ hT s.heap [] _ hP va_S.rf (lv_entry ([.ref b, .int 0] : List Value) (n := 2) (Nat.le_of_ble_eq_true rfl))
theorem pg_cCell {rest : List Value} (h : pg_X κ z y cc nL ret rm) (hT : scT z b L xs (pg_s κ)) (hL : L < 2 ^ 31) (d : decode cc pc = .ok (.invokestatic 9, 3)) (hl : pg_ml y.cls 9 y_Law_cell) (hcat : (rest.map fun v => v.category).sum ≤ 8)
    (hroom : 0 + 1 ≤ rm.frames ∧ 8 + (2 + 11) + 0 ≤ rm.locals) (hcell : ce + 0 ≤ rm.cells ∧ sl + 0 ≤ rm.slots)
    (kk : pg_G κ z nL ce sl Q Pic (pc + 3) lv (.int (cellV L xs) :: rest)) : pg_G κ z nL ce sl Q Pic pc lv (.int 0 :: .ref b :: rest) := by
  refine pg_after (rm2 := ⟨0, 0, 0, 0⟩) (As := [.ref b, .int 0]) (Post2 := fun r H => r = some (.int (cellV L xs)) ∧ Pic H) (rest := rest) (fun H locs ls hP hS hsz => ?_) (fun r => pg_an (fun e => by subst e; exact kk))
  obtain ⟨m1, m2, m3, m5⟩ := m_Law_cell
  have hts := h.2.2.2.2.1
  have hp : PreS (pg_s κ) H (sc_Pc z b L xs [.ref b, .int 0] Pic) [.ref b, .int 0] := ⟨sc_Pc.blind, fun U hU hW => ⟨rfl, h.2.2.2.2.2.1.at hW hS hU, (hT.moved hW.alike).kept (fun a ha hn => by rw [hU]; exact hS.2.1 a ha hn), by rw [hU]; exact hP⟩⟩
  have hR : (0 : Nat) + 1 ≤ (pg_R κ).frames ∧ 8 + (2 + 11) + 0 ≤ (pg_R κ).locals := by rw [h.2.2.2.2.2.2.1]; exact hroom
  have hf : ce + 0 ≤ (pg_R κ).cells ∧ sl + 0 ≤ (pg_R κ).slots := by rw [h.2.2.2.2.2.2.1]; exact hcell
  rcases hl with hl | ⟨host, hl⟩
  · exact va_runS (rest := rest) ⟨h.1, h.2.1, h.2.2.1, h.2.2.2.1, hts⟩ (met_cell hL κ.2.1) ⟨callB_of 2 hts (pg_gd m1) rfl rfl rfl (hts _ m2) (hts _ hl) m5 hR, hts _ m3⟩ hp rfl rfl hsz rfl (lv_room hcat) d hf
  · exact va_runSN (rest := rest) (host := host) ⟨h.1, h.2.1, h.2.2.1, h.2.2.2.1, hts⟩ (met_cell hL κ.2.1) ⟨va_cnB 2 hts (pg_gd m1) rfl rfl rfl (h.2.2.2.2.2.1.2.2.1 _ hl) (hts _ m2) m5 hR, hts _ m3, trivial⟩ hp rfl rfl hsz rfl (lv_room hcat) d hf
end SCR
theorem sc_lim {L i : Nat} (hL : L ≤ 2561) (hi : i ≤ 2600) : nI L - 5 < nI i ↔ L < i + 5 := by
  rw [Int32.lt_iff_toInt_lt, Int32.toInt_sub, nI_toInt (by omega), nI_toInt (by omega), show (5 : Int32).toInt = 5 from rfl, Int.bmod_eq_of_le (by omega) (by omega)]
  omega
theorem lw_recv {κ : pg_K} {w : pf_W} {y : MethodName} {cc : ByteArray} {nL : Nat} {ret : Option FieldType} {rm : Room} {H : Heap} (h : pg_X κ w.1 y cc nL ret rm) (ok : pf_ok w) (hP : ∃ S', pf_P w S' H) : ∃ cell : Cell, H[w.2.1 20 0]? = some cell ∧ cell.vm.isStatics = false ∧ (pg_s κ).vm.findClass "PageReceiverModel" = some cell.cls := by
  obtain ⟨S', hP⟩ := hP
  exact pf_recv h ok cn_Mod rfl rfl hP
set_option maxRecDepth 100000 in
set_option maxHeartbeats 4000000 in
theorem law_loop (w : pf_W) (ok : pf_ok w) (hw : 1 ≤ w.2.2.1 ∧ w.2.2.1 ≤ 4) (κ : pg_K) (nm : String) (h : pg_X κ w.1 (yLaw nm) b_Law_law 4 (some .boolean) room_1) (b L : Nat) (xs : Nat → Int32) (hT : scT w.1 b L xs (pg_s κ)) (hL : L ≤ 2561) (Q : State → Prop)
    (hend : ∀ (S : pf_S) (lv : List (Option Value)), pg_G κ w.1 4 83 8908 Q (pf_P w S) 403 lv [.int 1]) : ∀ (n i : Nat) (S : pf_S), L < i + n → i ≤ 2600 → LawI w.2.2.1 S → pg_G κ w.1 4 83 8908 Q (pf_P w S) 28 [some (.ref b), some (.ref (w.2.1 0 0)), some (.ref (w.2.1 20 0)), some (.int (nI i))] [] := by
  intro n
  induction n with
  | zero =>
    intro i S hn hi hI
    refine pg_iload_n h d_Law_law_28 rfl ?_
    refine pg_aload_n h d_Law_law_29 rfl ?_
    refine pg_slen h hT d_Law_law_30 ?_
    refine pg_iconst (v := 5) h d_Law_law_31 (by decide) ?_
    refine pg_isub h d_Law_law_32 ?_
    refine pg_icmp_gt (tgt := 402) h d_Law_law_33 rfl (fun e33 => ?_) (fun e33 => absurd e33 (fun q => q ((sc_lim hL hi).mpr (by omega))))
    refine pg_iconst (v := 1) h d_Law_law_402 (by decide) ?_
    exact hend _ _
  | succ n ih =>
    intro i S hn hi hI
    by_cases hc : L < i + 5
    · skip
      refine pg_iload_n h d_Law_law_28 rfl ?_
      refine pg_aload_n h d_Law_law_29 rfl ?_
      refine pg_slen h hT d_Law_law_30 ?_
      refine pg_iconst (v := 5) h d_Law_law_31 (by decide) ?_
      refine pg_isub h d_Law_law_32 ?_
      refine pg_icmp_gt (tgt := 402) h d_Law_law_33 rfl (fun e33 => ?_) (fun e33 => absurd e33 (fun q => q ((sc_lim hL hi).mpr hc)))
      refine pg_iconst (v := 1) h d_Law_law_402 (by decide) ?_
      exact hend _ _
    have back : ∀ S2, LawI w.2.2.1 S2 → pg_G κ w.1 4 83 8908 Q (pf_P w S2) 396 [some (.ref b), some (.ref (w.2.1 0 0)), some (.ref (w.2.1 20 0)), some (.int (nI i))] [] := by
      intro S2 hI2
      refine pg_iinc (w := 5) h d_Law_law_396 rfl (by decide) (Nat.le_of_ble_eq_true rfl) rfl rfl ?_
      refine pg_goto (tgt := 28) h d_Law_law_399 rfl ?_
      rw [show nI i + 5 = nI (i + 5) from nI_add i 5]
      exact ih (i + 5) S2 (by omega) (by omega) hI2
    refine pg_iload_n h d_Law_law_28 rfl ?_
    refine pg_aload_n h d_Law_law_29 rfl ?_
    refine pg_slen h hT d_Law_law_30 ?_
    refine pg_iconst (v := 5) h d_Law_law_31 (by decide) ?_
    refine pg_isub h d_Law_law_32 ?_
    refine pg_icmp_gt (tgt := 402) h d_Law_law_33 rfl (fun e33 => absurd e33 (fun q => hc ((sc_lim hL hi).mp q))) (fun e33 => ?_)
    refine pg_aload_n h d_Law_law_36 rfl ?_
    refine pg_iload_n h d_Law_law_37 rfl ?_
    refine pg_sld h hT d_Law_law_38 (pg_ixN (j := i) rfl (by omega) (by omega)) ?_
    refine pg_bipush (v := 15) h d_Law_law_39 (by decide) ?_
    refine pg_iand h d_Law_law_41 ?_
    by_cases c42_0 : (xs i &&& 15) = 0
    · refine pg_tableIn (off := 54) (tgt := 96) h d_Law_law_42 (by rw [c42_0]; decide) (by rw [c42_0]; decide) (by rw [c42_0]; rfl) rfl ?_
      obtain ⟨r, S1, Pic1, Post2, g1, g2, g3, g4, g5⟩ := st_feed w ok hw S hI ((xs (i + 1)).toInt64 <<< ((32 : Int32).toInt64 &&& 63) ||| (xs (i + 2)).toInt64 &&& 4294967295) (xs (i + 3))
      refine pg_aload_n h d_Law_law_96 rfl ?_
      refine pg_aload_n h d_Law_law_97 rfl ?_
      refine pg_iload_n h d_Law_law_98 rfl ?_
      refine pg_iconst (v := 1) h d_Law_law_99 (by decide) ?_
      refine pg_iadd h d_Law_law_100 ?_
      refine pg_sld h hT d_Law_law_101 (pg_ixN (j := i + 1) (nI_add i 1) (by omega) (by omega)) ?_
      refine pg_i2l h d_Law_law_102 ?_
      refine pg_bipush (v := 32) h d_Law_law_103 (by decide) ?_
      refine pg_lshl h d_Law_law_105 ?_
      refine pg_aload_n h d_Law_law_106 rfl ?_
      refine pg_iload_n h d_Law_law_107 rfl ?_
      refine pg_iconst (v := 2) h d_Law_law_108 (by decide) ?_
      refine pg_iadd h d_Law_law_109 ?_
      refine pg_sld h hT d_Law_law_110 (pg_ixN (j := i + 2) (nI_add i 2) (by omega) (by omega)) ?_
      refine pg_i2l h d_Law_law_111 ?_
      refine pg_ldc2 (v := 4294967295) h d_Law_law_112 (pg_tb 900 rfl rfl) ?_
      refine pg_land h d_Law_law_115 ?_
      refine pg_lor h d_Law_law_116 ?_
      refine pg_aload_n h d_Law_law_117 rfl ?_
      refine pg_iload_n h d_Law_law_118 rfl ?_
      refine pg_iconst (v := 3) h d_Law_law_119 (by decide) ?_
      refine pg_iadd h d_Law_law_120 ?_
      refine pg_sld h hT d_Law_law_121 (pg_ixN (j := i + 3) (nI_add i 3) (by omega) (by omega)) ?_
      refine pf_cV h ok d_Law_law_122 m_Recv_feed l_Law_23 g1 cn_Recv rfl rfl rfl rfl (Nat.le_of_ble_eq_true rfl) ⟨(Nat.le_of_ble_eq_true rfl), (Nat.le_of_ble_eq_true rfl)⟩ ⟨(Nat.le_of_ble_eq_true rfl), (Nat.le_of_ble_eq_true rfl)⟩ ?_
      refine pg_aload_n h d_Law_law_125 rfl ?_
      refine pg_aload_n h d_Law_law_126 rfl ?_
      refine pg_iload_n h d_Law_law_127 rfl ?_
      refine pg_iconst (v := 1) h d_Law_law_128 (by decide) ?_
      refine pg_iadd h d_Law_law_129 ?_
      refine pg_sld h hT d_Law_law_130 (pg_ixN (j := i + 1) (nI_add i 1) (by omega) (by omega)) ?_
      refine pg_i2l h d_Law_law_131 ?_
      refine pg_bipush (v := 32) h d_Law_law_132 (by decide) ?_
      refine pg_lshl h d_Law_law_134 ?_
      refine pg_aload_n h d_Law_law_135 rfl ?_
      refine pg_iload_n h d_Law_law_136 rfl ?_
      refine pg_iconst (v := 2) h d_Law_law_137 (by decide) ?_
      refine pg_iadd h d_Law_law_138 ?_
      refine pg_sld h hT d_Law_law_139 (pg_ixN (j := i + 2) (nI_add i 2) (by omega) (by omega)) ?_
      refine pg_i2l h d_Law_law_140 ?_
      refine pg_ldc2 (v := 4294967295) h d_Law_law_141 (pg_tb 900 rfl rfl) ?_
      refine pg_land h d_Law_law_144 ?_
      refine pg_lor h d_Law_law_145 ?_
      refine pg_aload_n h d_Law_law_146 rfl ?_
      refine pg_iload_n h d_Law_law_147 rfl ?_
      refine pg_iconst (v := 3) h d_Law_law_148 (by decide) ?_
      refine pg_iadd h d_Law_law_149 ?_
      refine pg_sld h hT d_Law_law_150 (pg_ixN (j := i + 3) (nI_add i 3) (by omega) (by omega)) ?_
      refine pg_wk g2 (pg_cV h d_Law_law_151 m_Mod_feed l_Law_27 g4 (fun H hP => lw_recv h ok (g3 H hP)) rfl rfl (Nat.le_of_ble_eq_true rfl) ⟨(Nat.le_of_ble_eq_true rfl), (Nat.le_of_ble_eq_true rfl)⟩ ⟨(Nat.le_of_ble_eq_true rfl), (Nat.le_of_ble_eq_true rfl)⟩ ?_)
      refine pg_icmp_eq (tgt := 396) h d_Law_law_154 rfl (fun _ => ?_) (fun e => absurd rfl e)
      exact pg_wk g5 (pg_ex (fun S2 => pg_an (fun hI2 => back S2 hI2)))--end
    by_cases c42_1 : (xs i &&& 15) = 1
    · refine pg_tableIn (off := 117) (tgt := 159) h d_Law_law_42 (by rw [c42_1]; decide) (by rw [c42_1]; decide) (by rw [c42_1]; rfl) rfl ?_
      obtain ⟨r, S1, Pic1, Post2, g1, g2, g3, g4, g5⟩ := st_reset w ok hw S hI
      refine pg_aload_n h d_Law_law_159 rfl ?_
      refine pf_cV h ok d_Law_law_160 m_Recv_reset l_Law_28 g1 cn_Recv rfl rfl rfl rfl (Nat.le_of_ble_eq_true rfl) ⟨(Nat.le_of_ble_eq_true rfl), (Nat.le_of_ble_eq_true rfl)⟩ ⟨(Nat.le_of_ble_eq_true rfl), (Nat.le_of_ble_eq_true rfl)⟩ ?_
      refine pg_aload_n h d_Law_law_163 rfl ?_
      refine pg_wk g2 (pg_cV h d_Law_law_164 m_Mod_reset l_Law_32 g4 (fun H hP => lw_recv h ok (g3 H hP)) rfl rfl (Nat.le_of_ble_eq_true rfl) ⟨(Nat.le_of_ble_eq_true rfl), (Nat.le_of_ble_eq_true rfl)⟩ ⟨(Nat.le_of_ble_eq_true rfl), (Nat.le_of_ble_eq_true rfl)⟩ ?_)
      refine pg_icmp_eq (tgt := 396) h d_Law_law_167 rfl (fun _ => ?_) (fun e => absurd rfl e)
      exact pg_wk g5 (pg_ex (fun S2 => pg_an (fun hI2 => back S2 hI2)))--end
    by_cases c42_2 : (xs i &&& 15) = 2
    · refine pg_tableIn (off := 130) (tgt := 172) h d_Law_law_42 (by rw [c42_2]; decide) (by rw [c42_2]; decide) (by rw [c42_2]; rfl) rfl ?_
      obtain ⟨r, S1, Pic1, Post2, g1, g2, g3, g4, g5⟩ := st_key w ok hw S hI (xs (i + 1))
      refine pg_aload_n h d_Law_law_172 rfl ?_
      refine pg_aload_n h d_Law_law_173 rfl ?_
      refine pg_iload_n h d_Law_law_174 rfl ?_
      refine pg_iconst (v := 1) h d_Law_law_175 (by decide) ?_
      refine pg_iadd h d_Law_law_176 ?_
      refine pg_sld h hT d_Law_law_177 (pg_ixN (j := i + 1) (nI_add i 1) (by omega) (by omega)) ?_
      refine pf_cV h ok d_Law_law_178 m_Recv_key l_Law_33 g1 cn_Recv rfl rfl rfl rfl (Nat.le_of_ble_eq_true rfl) ⟨(Nat.le_of_ble_eq_true rfl), (Nat.le_of_ble_eq_true rfl)⟩ ⟨(Nat.le_of_ble_eq_true rfl), (Nat.le_of_ble_eq_true rfl)⟩ ?_
      refine pg_aload_n h d_Law_law_181 rfl ?_
      refine pg_aload_n h d_Law_law_182 rfl ?_
      refine pg_iload_n h d_Law_law_183 rfl ?_
      refine pg_iconst (v := 1) h d_Law_law_184 (by decide) ?_
      refine pg_iadd h d_Law_law_185 ?_
      refine pg_sld h hT d_Law_law_186 (pg_ixN (j := i + 1) (nI_add i 1) (by omega) (by omega)) ?_
      refine pg_wk g2 (pg_cV h d_Law_law_187 m_Mod_key l_Law_37 g4 (fun H hP => lw_recv h ok (g3 H hP)) rfl rfl (Nat.le_of_ble_eq_true rfl) ⟨(Nat.le_of_ble_eq_true rfl), (Nat.le_of_ble_eq_true rfl)⟩ ⟨(Nat.le_of_ble_eq_true rfl), (Nat.le_of_ble_eq_true rfl)⟩ ?_)
      refine pg_icmp_eq (tgt := 396) h d_Law_law_190 rfl (fun _ => ?_) (fun e => absurd rfl e)
      exact pg_wk g5 (pg_ex (fun S2 => pg_an (fun hI2 => back S2 hI2)))--end
    by_cases c42_3 : (xs i &&& 15) = 3
    · refine pg_tableIn (off := 153) (tgt := 195) h d_Law_law_42 (by rw [c42_3]; decide) (by rw [c42_3]; decide) (by rw [c42_3]; rfl) rfl ?_
      obtain ⟨r, S1, Pic1, Post2, g1, g2, g3, g4, g5⟩ := st_tick w ok hw S hI
      refine pg_aload_n h d_Law_law_195 rfl ?_
      refine pf_cV h ok d_Law_law_196 m_Recv_tick l_Law_38 g1 cn_Recv rfl rfl rfl rfl (Nat.le_of_ble_eq_true rfl) ⟨(Nat.le_of_ble_eq_true rfl), (Nat.le_of_ble_eq_true rfl)⟩ ⟨(Nat.le_of_ble_eq_true rfl), (Nat.le_of_ble_eq_true rfl)⟩ ?_
      refine pg_aload_n h d_Law_law_199 rfl ?_
      refine pg_wk g2 (pg_cV h d_Law_law_200 m_Mod_tick l_Law_42 g4 (fun H hP => lw_recv h ok (g3 H hP)) rfl rfl (Nat.le_of_ble_eq_true rfl) ⟨(Nat.le_of_ble_eq_true rfl), (Nat.le_of_ble_eq_true rfl)⟩ ⟨(Nat.le_of_ble_eq_true rfl), (Nat.le_of_ble_eq_true rfl)⟩ ?_)
      refine pg_icmp_eq (tgt := 396) h d_Law_law_203 rfl (fun _ => ?_) (fun e => absurd rfl e)
      exact pg_wk g5 (pg_ex (fun S2 => pg_an (fun hI2 => back S2 hI2)))--end
    by_cases c42_4 : (xs i &&& 15) = 4
    · refine pg_tableIn (off := 166) (tgt := 208) h d_Law_law_42 (by rw [c42_4]; decide) (by rw [c42_4]; decide) (by rw [c42_4]; rfl) rfl ?_
      obtain ⟨r, S1, Pic1, Post2, g1, g2, g3, g4, g5⟩ := st_shown w ok hw S hI
      refine pg_aload_n h d_Law_law_208 rfl ?_
      refine pf_cV h ok d_Law_law_209 m_Recv_shown l_Law_43 g1 cn_Recv rfl rfl rfl rfl (Nat.le_of_ble_eq_true rfl) ⟨(Nat.le_of_ble_eq_true rfl), (Nat.le_of_ble_eq_true rfl)⟩ ⟨(Nat.le_of_ble_eq_true rfl), (Nat.le_of_ble_eq_true rfl)⟩ ?_
      refine pg_aload_n h d_Law_law_212 rfl ?_
      refine pg_wk g2 (pg_cV h d_Law_law_213 m_Mod_shown l_Law_46 g4 (fun H hP => lw_recv h ok (g3 H hP)) rfl rfl (Nat.le_of_ble_eq_true rfl) ⟨(Nat.le_of_ble_eq_true rfl), (Nat.le_of_ble_eq_true rfl)⟩ ⟨(Nat.le_of_ble_eq_true rfl), (Nat.le_of_ble_eq_true rfl)⟩ ?_)
      refine pg_icmp_eq (tgt := 396) h d_Law_law_216 rfl (fun _ => ?_) (fun e => absurd rfl e)
      exact pg_wk g5 (pg_ex (fun S2 => pg_an (fun hI2 => back S2 hI2)))--end
    by_cases c42_5 : (xs i &&& 15) = 5
    · refine pg_tableIn (off := 179) (tgt := 221) h d_Law_law_42 (by rw [c42_5]; decide) (by rw [c42_5]; decide) (by rw [c42_5]; rfl) rfl ?_
      obtain ⟨r, S1, Pic1, Post2, g1, g2, g3, g4, g5⟩ := st_viewer w ok hw S hI (xs (i + 1))
      refine pg_aload_n h d_Law_law_221 rfl ?_
      refine pg_aload_n h d_Law_law_222 rfl ?_
      refine pg_iload_n h d_Law_law_223 rfl ?_
      refine pg_iconst (v := 1) h d_Law_law_224 (by decide) ?_
      refine pg_iadd h d_Law_law_225 ?_
      refine pg_sld h hT d_Law_law_226 (pg_ixN (j := i + 1) (nI_add i 1) (by omega) (by omega)) ?_
      refine pf_cV h ok d_Law_law_227 m_Recv_viewer l_Law_47 g1 cn_Recv rfl rfl rfl rfl (Nat.le_of_ble_eq_true rfl) ⟨(Nat.le_of_ble_eq_true rfl), (Nat.le_of_ble_eq_true rfl)⟩ ⟨(Nat.le_of_ble_eq_true rfl), (Nat.le_of_ble_eq_true rfl)⟩ ?_
      refine pg_aload_n h d_Law_law_230 rfl ?_
      refine pg_aload_n h d_Law_law_231 rfl ?_
      refine pg_iload_n h d_Law_law_232 rfl ?_
      refine pg_iconst (v := 1) h d_Law_law_233 (by decide) ?_
      refine pg_iadd h d_Law_law_234 ?_
      refine pg_sld h hT d_Law_law_235 (pg_ixN (j := i + 1) (nI_add i 1) (by omega) (by omega)) ?_
      refine pg_wk g2 (pg_cV h d_Law_law_236 m_Mod_viewer l_Law_51 g4 (fun H hP => lw_recv h ok (g3 H hP)) rfl rfl (Nat.le_of_ble_eq_true rfl) ⟨(Nat.le_of_ble_eq_true rfl), (Nat.le_of_ble_eq_true rfl)⟩ ⟨(Nat.le_of_ble_eq_true rfl), (Nat.le_of_ble_eq_true rfl)⟩ ?_)
      refine pg_icmp_eq (tgt := 396) h d_Law_law_239 rfl (fun _ => ?_) (fun e => absurd rfl e)
      exact pg_wk g5 (pg_ex (fun S2 => pg_an (fun hI2 => back S2 hI2)))--end
    by_cases c42_6 : (xs i &&& 15) = 6
    · refine pg_tableIn (off := 202) (tgt := 244) h d_Law_law_42 (by rw [c42_6]; decide) (by rw [c42_6]; decide) (by rw [c42_6]; rfl) rfl ?_
      obtain ⟨r, S1, Pic1, Post2, g1, g2, g3, g4, g5⟩ := st_kept w ok hw S hI (xs (i + 1)) (xs (i + 2))
      refine pg_aload_n h d_Law_law_244 rfl ?_
      refine pg_aload_n h d_Law_law_245 rfl ?_
      refine pg_iload_n h d_Law_law_246 rfl ?_
      refine pg_iconst (v := 1) h d_Law_law_247 (by decide) ?_
      refine pg_iadd h d_Law_law_248 ?_
      refine pg_sld h hT d_Law_law_249 (pg_ixN (j := i + 1) (nI_add i 1) (by omega) (by omega)) ?_
      refine pg_aload_n h d_Law_law_250 rfl ?_
      refine pg_iload_n h d_Law_law_251 rfl ?_
      refine pg_iconst (v := 2) h d_Law_law_252 (by decide) ?_
      refine pg_iadd h d_Law_law_253 ?_
      refine pg_sld h hT d_Law_law_254 (pg_ixN (j := i + 2) (nI_add i 2) (by omega) (by omega)) ?_
      refine pf_cV h ok d_Law_law_255 m_Recv_kept l_Law_52 g1 cn_Recv rfl rfl rfl rfl (Nat.le_of_ble_eq_true rfl) ⟨(Nat.le_of_ble_eq_true rfl), (Nat.le_of_ble_eq_true rfl)⟩ ⟨(Nat.le_of_ble_eq_true rfl), (Nat.le_of_ble_eq_true rfl)⟩ ?_
      refine pg_aload_n h d_Law_law_258 rfl ?_
      refine pg_aload_n h d_Law_law_259 rfl ?_
      refine pg_iload_n h d_Law_law_260 rfl ?_
      refine pg_iconst (v := 1) h d_Law_law_261 (by decide) ?_
      refine pg_iadd h d_Law_law_262 ?_
      refine pg_sld h hT d_Law_law_263 (pg_ixN (j := i + 1) (nI_add i 1) (by omega) (by omega)) ?_
      refine pg_aload_n h d_Law_law_264 rfl ?_
      refine pg_iload_n h d_Law_law_265 rfl ?_
      refine pg_iconst (v := 2) h d_Law_law_266 (by decide) ?_
      refine pg_iadd h d_Law_law_267 ?_
      refine pg_sld h hT d_Law_law_268 (pg_ixN (j := i + 2) (nI_add i 2) (by omega) (by omega)) ?_
      refine pg_wk g2 (pg_cV h d_Law_law_269 m_Mod_kept l_Law_56 g4 (fun H hP => lw_recv h ok (g3 H hP)) rfl rfl (Nat.le_of_ble_eq_true rfl) ⟨(Nat.le_of_ble_eq_true rfl), (Nat.le_of_ble_eq_true rfl)⟩ ⟨(Nat.le_of_ble_eq_true rfl), (Nat.le_of_ble_eq_true rfl)⟩ ?_)
      refine pg_icmp_eq (tgt := 396) h d_Law_law_272 rfl (fun _ => ?_) (fun e => absurd rfl e)
      exact pg_wk g5 (pg_ex (fun S2 => pg_an (fun hI2 => back S2 hI2)))--end
    by_cases c42_7 : (xs i &&& 15) = 7
    · refine pg_tableIn (off := 235) (tgt := 277) h d_Law_law_42 (by rw [c42_7]; decide) (by rw [c42_7]; decide) (by rw [c42_7]; rfl) rfl ?_
      obtain ⟨r, S1, Pic1, Post2, g1, g2, g3, g4, g5⟩ := st_count w ok hw S hI (xs (i + 1))
      refine pg_aload_n h d_Law_law_277 rfl ?_
      refine pg_aload_n h d_Law_law_278 rfl ?_
      refine pg_iload_n h d_Law_law_279 rfl ?_
      refine pg_iconst (v := 1) h d_Law_law_280 (by decide) ?_
      refine pg_iadd h d_Law_law_281 ?_
      refine pg_sld h hT d_Law_law_282 (pg_ixN (j := i + 1) (nI_add i 1) (by omega) (by omega)) ?_
      refine pf_cV h ok d_Law_law_283 m_Recv_count l_Law_57 g1 cn_Recv rfl rfl rfl rfl (Nat.le_of_ble_eq_true rfl) ⟨(Nat.le_of_ble_eq_true rfl), (Nat.le_of_ble_eq_true rfl)⟩ ⟨(Nat.le_of_ble_eq_true rfl), (Nat.le_of_ble_eq_true rfl)⟩ ?_
      refine pg_aload_n h d_Law_law_286 rfl ?_
      refine pg_aload_n h d_Law_law_287 rfl ?_
      refine pg_iload_n h d_Law_law_288 rfl ?_
      refine pg_iconst (v := 1) h d_Law_law_289 (by decide) ?_
      refine pg_iadd h d_Law_law_290 ?_
      refine pg_sld h hT d_Law_law_291 (pg_ixN (j := i + 1) (nI_add i 1) (by omega) (by omega)) ?_
      refine pg_wk g2 (pg_cV h d_Law_law_292 m_Mod_count l_Law_60 g4 (fun H hP => lw_recv h ok (g3 H hP)) rfl rfl (Nat.le_of_ble_eq_true rfl) ⟨(Nat.le_of_ble_eq_true rfl), (Nat.le_of_ble_eq_true rfl)⟩ ⟨(Nat.le_of_ble_eq_true rfl), (Nat.le_of_ble_eq_true rfl)⟩ ?_)
      refine pg_icmp_eq (tgt := 396) h d_Law_law_295 rfl (fun _ => ?_) (fun e => absurd rfl e)
      exact pg_wk g5 (pg_ex (fun S2 => pg_an (fun hI2 => back S2 hI2)))--end
    by_cases c42_8 : (xs i &&& 15) = 8
    · refine pg_tableIn (off := 258) (tgt := 300) h d_Law_law_42 (by rw [c42_8]; decide) (by rw [c42_8]; decide) (by rw [c42_8]; rfl) rfl ?_
      obtain ⟨r, S1, Pic1, Post2, g1, g2, g3, g4, g5⟩ := st_look w ok hw S hI (xs (i + 1)) (xs (i + 2)) (xs (i + 3))
      refine pg_aload_n h d_Law_law_300 rfl ?_
      refine pg_aload_n h d_Law_law_301 rfl ?_
      refine pg_iload_n h d_Law_law_302 rfl ?_
      refine pg_iconst (v := 1) h d_Law_law_303 (by decide) ?_
      refine pg_iadd h d_Law_law_304 ?_
      refine pg_sld h hT d_Law_law_305 (pg_ixN (j := i + 1) (nI_add i 1) (by omega) (by omega)) ?_
      refine pg_aload_n h d_Law_law_306 rfl ?_
      refine pg_iload_n h d_Law_law_307 rfl ?_
      refine pg_iconst (v := 2) h d_Law_law_308 (by decide) ?_
      refine pg_iadd h d_Law_law_309 ?_
      refine pg_sld h hT d_Law_law_310 (pg_ixN (j := i + 2) (nI_add i 2) (by omega) (by omega)) ?_
      refine pg_aload_n h d_Law_law_311 rfl ?_
      refine pg_iload_n h d_Law_law_312 rfl ?_
      refine pg_iconst (v := 3) h d_Law_law_313 (by decide) ?_
      refine pg_iadd h d_Law_law_314 ?_
      refine pg_sld h hT d_Law_law_315 (pg_ixN (j := i + 3) (nI_add i 3) (by omega) (by omega)) ?_
      refine pf_cV h ok d_Law_law_316 m_Recv_look l_Law_61 g1 cn_Recv rfl rfl rfl rfl (Nat.le_of_ble_eq_true rfl) ⟨(Nat.le_of_ble_eq_true rfl), (Nat.le_of_ble_eq_true rfl)⟩ ⟨(Nat.le_of_ble_eq_true rfl), (Nat.le_of_ble_eq_true rfl)⟩ ?_
      refine pg_aload_n h d_Law_law_319 rfl ?_
      refine pg_aload_n h d_Law_law_320 rfl ?_
      refine pg_iload_n h d_Law_law_321 rfl ?_
      refine pg_iconst (v := 1) h d_Law_law_322 (by decide) ?_
      refine pg_iadd h d_Law_law_323 ?_
      refine pg_sld h hT d_Law_law_324 (pg_ixN (j := i + 1) (nI_add i 1) (by omega) (by omega)) ?_
      refine pg_aload_n h d_Law_law_325 rfl ?_
      refine pg_iload_n h d_Law_law_326 rfl ?_
      refine pg_iconst (v := 2) h d_Law_law_327 (by decide) ?_
      refine pg_iadd h d_Law_law_328 ?_
      refine pg_sld h hT d_Law_law_329 (pg_ixN (j := i + 2) (nI_add i 2) (by omega) (by omega)) ?_
      refine pg_aload_n h d_Law_law_330 rfl ?_
      refine pg_iload_n h d_Law_law_331 rfl ?_
      refine pg_iconst (v := 3) h d_Law_law_332 (by decide) ?_
      refine pg_iadd h d_Law_law_333 ?_
      refine pg_sld h hT d_Law_law_334 (pg_ixN (j := i + 3) (nI_add i 3) (by omega) (by omega)) ?_
      refine pg_wk g2 (pg_cV h d_Law_law_335 m_Mod_look l_Law_65 g4 (fun H hP => lw_recv h ok (g3 H hP)) rfl rfl (Nat.le_of_ble_eq_true rfl) ⟨(Nat.le_of_ble_eq_true rfl), (Nat.le_of_ble_eq_true rfl)⟩ ⟨(Nat.le_of_ble_eq_true rfl), (Nat.le_of_ble_eq_true rfl)⟩ ?_)
      refine pg_icmp_eq (tgt := 396) h d_Law_law_338 rfl (fun _ => ?_) (fun e => absurd rfl e)
      exact pg_wk g5 (pg_ex (fun S2 => pg_an (fun hI2 => back S2 hI2)))--end
    by_cases c42_9 : (xs i &&& 15) = 9
    · refine pg_tableIn (off := 301) (tgt := 343) h d_Law_law_42 (by rw [c42_9]; decide) (by rw [c42_9]; decide) (by rw [c42_9]; rfl) rfl ?_
      obtain ⟨r, S1, Pic1, Post2, g1, g2, g3, g4, g5⟩ := st_point w ok hw S hI (xs (i + 1)) (xs (i + 2)) (xs (i + 3)) (xs (i + 4))
      refine pg_aload_n h d_Law_law_343 rfl ?_
      refine pg_aload_n h d_Law_law_344 rfl ?_
      refine pg_iload_n h d_Law_law_345 rfl ?_
      refine pg_iconst (v := 1) h d_Law_law_346 (by decide) ?_
      refine pg_iadd h d_Law_law_347 ?_
      refine pg_sld h hT d_Law_law_348 (pg_ixN (j := i + 1) (nI_add i 1) (by omega) (by omega)) ?_
      refine pg_aload_n h d_Law_law_349 rfl ?_
      refine pg_iload_n h d_Law_law_350 rfl ?_
      refine pg_iconst (v := 2) h d_Law_law_351 (by decide) ?_
      refine pg_iadd h d_Law_law_352 ?_
      refine pg_sld h hT d_Law_law_353 (pg_ixN (j := i + 2) (nI_add i 2) (by omega) (by omega)) ?_
      refine pg_aload_n h d_Law_law_354 rfl ?_
      refine pg_iload_n h d_Law_law_355 rfl ?_
      refine pg_iconst (v := 3) h d_Law_law_356 (by decide) ?_
      refine pg_iadd h d_Law_law_357 ?_
      refine pg_sld h hT d_Law_law_358 (pg_ixN (j := i + 3) (nI_add i 3) (by omega) (by omega)) ?_
      refine pg_aload_n h d_Law_law_359 rfl ?_
      refine pg_iload_n h d_Law_law_360 rfl ?_
      refine pg_iconst (v := 4) h d_Law_law_361 (by decide) ?_
      refine pg_iadd h d_Law_law_362 ?_
      refine pg_sld h hT d_Law_law_363 (pg_ixN (j := i + 4) (nI_add i 4) (by omega) (by omega)) ?_
      refine pf_cV h ok d_Law_law_364 m_Recv_point l_Law_66 g1 cn_Recv rfl rfl rfl rfl (Nat.le_of_ble_eq_true rfl) ⟨(Nat.le_of_ble_eq_true rfl), (Nat.le_of_ble_eq_true rfl)⟩ ⟨(Nat.le_of_ble_eq_true rfl), (Nat.le_of_ble_eq_true rfl)⟩ ?_
      refine pg_aload_n h d_Law_law_367 rfl ?_
      refine pg_aload_n h d_Law_law_368 rfl ?_
      refine pg_iload_n h d_Law_law_369 rfl ?_
      refine pg_iconst (v := 1) h d_Law_law_370 (by decide) ?_
      refine pg_iadd h d_Law_law_371 ?_
      refine pg_sld h hT d_Law_law_372 (pg_ixN (j := i + 1) (nI_add i 1) (by omega) (by omega)) ?_
      refine pg_aload_n h d_Law_law_373 rfl ?_
      refine pg_iload_n h d_Law_law_374 rfl ?_
      refine pg_iconst (v := 2) h d_Law_law_375 (by decide) ?_
      refine pg_iadd h d_Law_law_376 ?_
      refine pg_sld h hT d_Law_law_377 (pg_ixN (j := i + 2) (nI_add i 2) (by omega) (by omega)) ?_
      refine pg_aload_n h d_Law_law_378 rfl ?_
      refine pg_iload_n h d_Law_law_379 rfl ?_
      refine pg_iconst (v := 3) h d_Law_law_380 (by decide) ?_
      refine pg_iadd h d_Law_law_381 ?_
      refine pg_sld h hT d_Law_law_382 (pg_ixN (j := i + 3) (nI_add i 3) (by omega) (by omega)) ?_
      refine pg_aload_n h d_Law_law_383 rfl ?_
      refine pg_iload_n h d_Law_law_384 rfl ?_
      refine pg_iconst (v := 4) h d_Law_law_385 (by decide) ?_
      refine pg_iadd h d_Law_law_386 ?_
      refine pg_sld h hT d_Law_law_387 (pg_ixN (j := i + 4) (nI_add i 4) (by omega) (by omega)) ?_
      refine pg_wk g2 (pg_cV h d_Law_law_388 m_Mod_point l_Law_70 g4 (fun H hP => lw_recv h ok (g3 H hP)) rfl rfl (Nat.le_of_ble_eq_true rfl) ⟨(Nat.le_of_ble_eq_true rfl), (Nat.le_of_ble_eq_true rfl)⟩ ⟨(Nat.le_of_ble_eq_true rfl), (Nat.le_of_ble_eq_true rfl)⟩ ?_)
      refine pg_icmp_eq (tgt := 396) h d_Law_law_391 rfl (fun _ => ?_) (fun e => absurd rfl e)
      exact pg_wk g5 (pg_ex (fun S2 => pg_an (fun hI2 => back S2 hI2)))--end
    have o42 : ∀ j : Nat, j ≤ 9 → ¬ (xs i &&& 15) = nI j := by
      intro j hj
      rcases (show j = 0 ∨ j = 1 ∨ j = 2 ∨ j = 3 ∨ j = 4 ∨ j = 5 ∨ j = 6 ∨ j = 7 ∨ j = 8 ∨ j = 9 by omega) with rfl | rfl | rfl | rfl | rfl | rfl | rfl | rfl | rfl | rfl
      · exact c42_0
      · exact c42_1
      · exact c42_2
      · exact c42_3
      · exact c42_4
      · exact c42_5
      · exact c42_6
      · exact c42_7
      · exact c42_8
      · exact c42_9
    refine pg_tableOut (tgt := 396) h d_Law_law_42 (sw_out 9 (by decide) o42) rfl ?_
    exact back S hI
