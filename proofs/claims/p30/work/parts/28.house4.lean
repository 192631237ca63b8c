theorem dX8_end_0 : decode cX8_end 0 = .ok (.iload_n 1, 1) := by decide +kernel
theorem dX8_end_1 : decode cX8_end 1 = .ok (.ifCond .lt 17, 3) := by decide +kernel
theorem dX8_end_4 : decode cX8_end 4 = .ok (.iload_n 1, 1) := by decide +kernel
theorem dX8_end_5 : decode cX8_end 5 = .ok (.aload_n 0, 1) := by decide +kernel
theorem dX8_end_6 : decode cX8_end 6 = .ok (.getfield 40, 3) := by decide +kernel
theorem dX8_end_9 : decode cX8_end 9 = .ok (.getfield 68, 3) := by decide +kernel
theorem dX8_end_12 : decode cX8_end 12 = .ok (.getfield 72, 3) := by decide +kernel
theorem dX8_end_15 : decode cX8_end 15 = .ok (.if_icmp .le 5, 3) := by decide +kernel
theorem dX8_end_18 : decode cX8_end 18 = .ok (.iconst 0, 1) := by decide +kernel
theorem dX8_end_19 : decode cX8_end 19 = .ok (.ireturn, 1) := by decide +kernel
theorem dX8_end_20 : decode cX8_end 20 = .ok (.aload_n 0, 1) := by decide +kernel
theorem dX8_end_21 : decode cX8_end 21 = .ok (.getfield 40, 3) := by decide +kernel
theorem dX8_end_24 : decode cX8_end 24 = .ok (.getfield 68, 3) := by decide +kernel
theorem dX8_end_27 : decode cX8_end 27 = .ok (.iload_n 1, 1) := by decide +kernel
theorem dX8_end_28 : decode cX8_end 28 = .ok (.putfield 72, 3) := by decide +kernel
theorem dX8_end_31 : decode cX8_end 31 = .ok (.iconst 1, 1) := by decide +kernel
theorem dX8_end_32 : decode cX8_end 32 = .ok (.ireturn, 1) := by decide +kernel
theorem dX5_payFor_0 : decode cX5_payFor 0 = .ok (.iconst 0, 1) := by decide +kernel
theorem dX5_payFor_1 : decode cX5_payFor 1 = .ok (.istore_n 3, 1) := by decide +kernel
theorem dX5_payFor_2 : decode cX5_payFor 2 = .ok (.iload_n 3, 1) := by decide +kernel
theorem dX5_payFor_3 : decode cX5_payFor 3 = .ok (.iconst 4, 1) := by decide +kernel
theorem dX5_payFor_4 : decode cX5_payFor 4 = .ok (.if_icmp .ge 35, 3) := by decide +kernel
theorem dX5_payFor_7 : decode cX5_payFor 7 = .ok (.iload_n 2, 1) := by decide +kernel
theorem dX5_payFor_8 : decode cX5_payFor 8 = .ok (.aload_n 0, 1) := by decide +kernel
theorem dX5_payFor_9 : decode cX5_payFor 9 = .ok (.getfield 9, 3) := by decide +kernel
theorem dX5_payFor_12 : decode cX5_payFor 12 = .ok (.iload_n 3, 1) := by decide +kernel
theorem dX5_payFor_13 : decode cX5_payFor 13 = .ok (.iaload, 1) := by decide +kernel
theorem dX5_payFor_14 : decode cX5_payFor 14 = .ok (.if_icmp .gt 19, 3) := by decide +kernel
theorem dX5_payFor_17 : decode cX5_payFor 17 = .ok (.iload_n 1, 1) := by decide +kernel
theorem dX5_payFor_18 : decode cX5_payFor 18 = .ok (.i2l, 1) := by decide +kernel
theorem dX5_payFor_19 : decode cX5_payFor 19 = .ok (.aload_n 0, 1) := by decide +kernel
theorem dX5_payFor_20 : decode cX5_payFor 20 = .ok (.getfield 15, 3) := by decide +kernel
theorem dX5_payFor_23 : decode cX5_payFor 23 = .ok (.iload_n 3, 1) := by decide +kernel
theorem dX5_payFor_24 : decode cX5_payFor 24 = .ok (.iaload, 1) := by decide +kernel
theorem dX5_payFor_25 : decode cX5_payFor 25 = .ok (.i2l, 1) := by decide +kernel
theorem dX5_payFor_26 : decode cX5_payFor 26 = .ok (.lmul, 1) := by decide +kernel
theorem dX5_payFor_27 : decode cX5_payFor 27 = .ok (.ldc2_w 24, 3) := by decide +kernel
theorem dX5_payFor_30 : decode cX5_payFor 30 = .ok (.ldiv, 1) := by decide +kernel
theorem dX5_payFor_31 : decode cX5_payFor 31 = .ok (.l2i, 1) := by decide +kernel
theorem dX5_payFor_32 : decode cX5_payFor 32 = .ok (.ireturn, 1) := by decide +kernel
theorem dX5_payFor_33 : decode cX5_payFor 33 = .ok (.iinc 3 1, 3) := by decide +kernel
theorem dX5_payFor_36 : decode cX5_payFor 36 = .ok (.goto (-34), 3) := by decide +kernel
theorem dX5_payFor_39 : decode cX5_payFor 39 = .ok (.iconst 0, 1) := by decide +kernel
theorem dX5_payFor_40 : decode cX5_payFor 40 = .ok (.ireturn, 1) := by decide +kernel
set_option maxHeartbeats 4000000 in
set_option maxRecDepth 100000 in
theorem h_end (l : Launch) (D : va_G) (ρ : Nat → Nat) (ws : va_W) (tys : List (ClassId × FieldType)) (fv : Nat → Nat → Int32) (h0 lc bc rc fc : Nat) (dn : Int32) (tl : Nat) (a1 : Int32) (sz : Nat) (X : XI ρ fv ws tys h0 lc bc rc fc dn tl) : Met l yX8_end wsX8_end ({ frames := 0, cells := 0, slots := 0, locals := 0 }) (va_Pc [.ref h0, .int a1] (fun U => U.heap.size = sz ∧ va_P D vwCl ws U.heap ∧ va_K D vwCl tys U ∧ va_D (fun _ => True) ws)) (va_Qi (fun (r : Int32) (_ : Unit) => r = if a1 < 0 then 0 else if nI tl < a1 then 0 else 1) (fun (_ : Unit) (t : State) => ∃ (ws' : va_W) (tys' : List (ClassId × FieldType)), sm ρ [6] ws ws' ∧ tyx tys tys' ∧ va_P D vwCl ws' t.heap ∧ va_K D vwCl tys' t ∧ va_D (va_A ws sz) ws' ∧ (XI ρ fv ws' tys' h0 lc bc rc fc dn (if a1 < 0 then tl else if nI tl < a1 then tl else a1.toNatClampNeg))) (va_A ws sz)) 0 0 (va_A ws sz) := by
  refine Met.ofW (cc := cX8_end) (maxL := 2) (ret := (some .boolean)) (by decide) rfl ?_
  intro p e s m args below meth c s₁ B hml hv
  obtain ⟨rfl, hsz, hP, hK, hD0⟩ := hv
  have hx := B.exec
  have hb := B.bytes
  have hr := B.returns
  have hts := atoms_spec (ws := wsX8_end) B.pre
  have hown : s.vm.findClass RX8 = some m.cls := findClass_of_methodNamed B.named
  have hlocks := B.notSynchronized
  subst hsz
  have hD := hD0.self (sz := s.heap.size)
  generalize hAe : va_A ws s.heap.size = A at hD ⊢
  have hA : ∀ q : Nat, s.heap.size ≤ q → A q := fun q h => by rw [← hAe]; exact Or.inr h
  have hS : va_S A s.heap s.heap [] := va_S.rf
  have hsm : sm ρ [6] ws ws := sm.rf ws
  have htx : tyx tys tys := tyx.rf tys
  have hin4 : ∀ w ∈ u_ws RX4 TX4 8, w ∈ wsX8_end := (fun _ h9 => List.mem_cons_of_mem _ (List.mem_append_left _ ((List.mem_append_right _ h9))))
  have hin6 : ∀ w ∈ u_ws RX6 TX6 5, w ∈ wsX8_end := (fun _ h9 => List.mem_cons_of_mem _ ((List.mem_append_right _ h9)))
  have hin8 : ∀ w ∈ u_ws RX8 TX8 15, w ∈ wsX8_end := (fun _ h9 => List.mem_cons_of_mem _ (List.mem_append_left _ (List.mem_append_left _ ((List.mem_append_right _ h9)))))
  have hl := lv_entry ([.ref h0, .int a1]) (n := 2) (Nat.le_of_ble_eq_true rfl)
  rw [lg_entry_eq]
  generalize (lg_sl ([.ref h0, .int a1]) ++ List.replicate (2 - (lg_sl ([.ref h0, .int a1])).length) Slot.unset).toArray = ls at hl ⊢
  have hl : lv_has ls 2 [(0, .ref h0), (1, .int a1)] := hl
  obtain ⟨k0, la, ta, ba, ra, sn, rd, dr, bl, vd, fb, e0, w0, hle0, hnum, qla, qta, qba, qra, qsn, qrd, qdr, qbl, qvd, qfb⟩ := id X
  obtain ⟨krd, tp, cd, ktp, bb, r1, r2, r3, r4, r6, r7, y1, y2, y3, erd, wrd, ⟨kcd, ccd, tcd, fcd, ecd, ucd, wcd⟩, etp, wtp, ⟨kbb, cbb, tbb, fbb, ebb, ubb, wbb⟩⟩ := id qrd
  refine lv_iload_n hx hb dX8_end_0 rfl (lv_at hl 1 rfl) ?_
  refine lv_if_lt (tgt := 18) hx hb dX8_end_1 (by decide) (fun c_1 => ?_) (fun c_1 => ?_)
  · refine lv_iconst (v := 0) hx hb dX8_end_18 (by decide) ?_
    exact W.zret (v := 0) hx hb hr rfl (fun t ht hW => ⟨⟨0, (), rfl, (by rw [if_pos c_1]), ws, tys, hsm, htx, by rw [ht]; exact hP, va_K.moved hW.alike hK, hD, (xi_tl X (by rw [if_pos c_1]))⟩, hS.F ht⟩) hS.2.2 dX8_end_19
  refine lv_iload_n hx hb dX8_end_4 rfl (lv_at hl 1 rfl) ?_
  refine lv_aload_n hx hb dX8_end_5 rfl (lv_at hl 0 rfl) ?_
  refine va_get (D := D) (ci := 8) (v := .ref rd) (C := RX8) (T := TX8) (N := 15) hx hb hts hin8 hown hK hP k0 e0 rfl 5 (by decide) (hts (.fieldLink RX8 40 "HoneyHouse" "reader" "LHoneyHouse$RuleReader;") (List.mem_of_getElem? (i := 1) rfl)) (fun _ h9 => h9) rfl dX8_end_6 ?_
  refine va_get (D := D) (ci := 4) (v := .ref tp) (C := RX4) (T := TX4) (N := 8) hx hb hts hin4 hown hK hP krd erd rfl 0 (by decide) (hts (.fieldLink RX8 68 "HoneyHouse$RuleReader" "tape" "LHoneyHouse$Tape;") (List.mem_of_getElem? (i := 2) rfl)) (fun _ h9 => h9) rfl dX8_end_9 ?_
  refine va_get (D := D) (ci := 6) (v := .int (nI tl)) (C := RX6) (T := TX6) (N := 5) hx hb hts hin6 hown hK hP ktp etp rfl 0 (by decide) (hts (.fieldLink RX8 72 "HoneyHouse$Tape" "length" "I") (List.mem_of_getElem? (i := 3) rfl)) (fun _ h9 => h9) rfl dX8_end_12 ?_
  refine lv_icmp_le (tgt := 20) hx hb dX8_end_15 (by decide) (fun c_2 => ?_) (fun c_2 => ?_)
  · refine lv_aload_n hx hb dX8_end_20 rfl (lv_at hl 0 rfl) ?_
    refine va_get (D := D) (ci := 8) (v := .ref rd) (C := RX8) (T := TX8) (N := 15) hx hb hts hin8 hown hK hP k0 e0 rfl 5 (by decide) (hts (.fieldLink RX8 40 "HoneyHouse" "reader" "LHoneyHouse$RuleReader;") (List.mem_of_getElem? (i := 1) rfl)) (fun _ h9 => h9) rfl dX8_end_21 ?_
    refine va_get (D := D) (ci := 4) (v := .ref tp) (C := RX4) (T := TX4) (N := 8) hx hb hts hin4 hown hK hP krd erd rfl 0 (by decide) (hts (.fieldLink RX8 68 "HoneyHouse$RuleReader" "tape" "LHoneyHouse$Tape;") (List.mem_of_getElem? (i := 2) rfl)) (fun _ h9 => h9) rfl dX8_end_24 ?_
    refine lv_iload_n hx hb dX8_end_27 rfl (lv_at hl 1 rfl) ?_
    refine va_put (D := D) (ci := 6) (v := .int a1) (ty := .int) (C := RX6) (T := TX6) (N := 5) hx hb hts hin6 tyX6 tyX6_ok nmX6 hown hK hP hD hS ktp etp rfl 0 (by decide) (hts (.fieldLink RX8 72 "HoneyHouse$Tape" "length" "I") (List.mem_of_getElem? (i := 3) rfl)) (fun _ h9 => h9) rfl (tyX6_ok 0 (by decide)) rfl rfl (Nat.le_of_ble_eq_true rfl) dX8_end_28 (fun H locs hP hD hS => ?_)
    have hP : va_P D vwCl (ws.set ktp (tp, .inr (6, [.int a1, .int y1, .int y2, .int y3, .ref bb]))) H := hP
    have hD : va_D A (ws.set ktp (tp, .inr (6, [.int a1, .int y1, .int y2, .int y3, .ref bb]))) := hD
    have hm_4 : sm ρ [6] ws (ws.set ktp (tp, .inr (6, [.int a1, .int y1, .int y2, .int y3, .ref bb]))) := sm.flds etp (smF.c (smV.i _ _) (smF.c (smV.rf _) (smF.c (smV.rf _) (smF.c (smV.rf _) (smF.c (smV.rf _) (rfl)))))) (List.mem_singleton.mpr rfl) wtp
    have e_5 : (ws.set ktp (tp, .inr (6, [.int a1, .int y1, .int y2, .int y3, .ref bb])))[ktp]? = some (tp, .inr (6, [.int a1, .int y1, .int y2, .int y3, .ref bb])) := wset_self etp
    generalize ws.set ktp (tp, .inr (6, [.int a1, .int y1, .int y2, .int y3, .ref bb])) = ws_3 at hP hD hm_4 e_5
    have e_6 := hm_4.objK e0 (by decide)
    have e_7 := hm_4.objK erd (by decide)
    obtain ⟨f_9, e_8⟩ := hm_4.arrI ecd
    obtain ⟨f_11, e_10⟩ := hm_4.arrI ebb
    have hsm := hsm.tr (hm_4.mono (by decide))
    refine lv_iconst (v := 1) hx hb dX8_end_31 (by decide) ?_
    have htl9 := hnum.2.2.2.2
    obtain ⟨j9, hj9, ej9⟩ := nI_of c_1
    have hj8 : j9 ≤ tl := by
      rw [ej9] at c_2
      exact (nI_leI hj9 (by omega)).mp c_2
    have ec9 : a1.toNatClampNeg = j9 := by rw [ej9]; exact nI_clamp hj9
    have e_12 := e_5
    rw [show (Value.int a1) = .int (nI j9) from by rw [ej9]] at e_12
    exact W.zret (v := 1) hx hb hr rfl (fun t ht hW => ⟨⟨1, (), rfl, (by rw [if_neg c_1, if_neg (i_le_n c_2)]), ws_3, tys, hsm, htx, by rw [ht]; exact hP, va_K.moved hW.alike hK, hD, (xi_tl (xi_mk e_6 w0 hle0 ⟨hnum.1, hnum.2.1, hnum.2.2.1, hnum.2.2.2.1, by omega⟩ qla qta qba qra qsn (⟨krd, tp, cd, ktp, bb, r1, r2, r3, r4, r6, r7, y1, y2, y3, e_7, wrd, ⟨kcd, ccd, tcd, f_9, e_8, ucd, wcd⟩, e_12, wtp, ⟨kbb, cbb, tbb, f_11, e_10, ubb, wbb⟩⟩ : oW ρ ws_3 tys rd j9) qdr qbl qvd qfb hsm htx) (by rw [if_neg c_1, if_neg (i_le_n c_2), ec9]))⟩, hS.F ht⟩) hS.2.2 dX8_end_32
  refine lv_iconst (v := 0) hx hb dX8_end_18 (by decide) ?_
  exact W.zret (v := 0) hx hb hr rfl (fun t ht hW => ⟨⟨0, (), rfl, (by rw [if_neg c_1, if_pos (i_nle c_2)]), ws, tys, hsm, htx, by rw [ht]; exact hP, va_K.moved hW.alike hK, hD, (xi_tl X (by rw [if_neg c_1, if_pos (i_nle c_2)]))⟩, hS.F ht⟩) hS.2.2 dX8_end_19
set_option maxHeartbeats 4000000 in
set_option maxRecDepth 100000 in
theorem s_X5_payFor (l : Launch) (D : va_G) (ws : va_W) (tys : List (ClassId × FieldType)) (h0 k0 s1 k1 s2 k2 : Nat) (y1 y2 : ClassId) (t1 t2 : Nat) (f1 f2 : Nat → Int32) (fs : List Value) (a1 a2 : Int32) (e0 : ws[k0]? = some (h0, .inr (5, fs))) (g0 : fs[0]? = some (.ref s1)) (g1 : fs[1]? = some (.ref s2)) (e1 : ws[k1]? = some (s1, .inl (y1, 4, .inl f1))) (u1 : tys[t1]? = some (y1, .int)) (e2 : ws[k2]? = some (s2, .inl (y2, 4, .inl f2))) (u2 : tys[t2]? = some (y2, .int)) : Met l yX5_payFor wsX5_payFor ({ frames := 0, cells := 0, slots := 0, locals := 0 }) (va_Pc [.ref h0, .int a1, .int a2] (fun U => va_P D vwCl ws U.heap ∧ va_K D vwCl tys U)) (vp_Si (fun r => r = payF f1 f2 a1 a2)) 0 0 (fun _ => False) := by
  refine Met.ofW (cc := cX5_payFor) (maxL := 4) (ret := (some .int)) (by decide) rfl ?_
  intro p e s m args below meth c s₁ B hml hv
  obtain ⟨rfl, hP, hK⟩ := hv
  have hx := B.exec
  have hb := B.bytes
  have hr := B.returns
  have hts := atoms_spec (ws := wsX5_payFor) B.pre
  have hown : s.vm.findClass RX5 = some m.cls := findClass_of_methodNamed B.named
  have hlocks := B.notSynchronized
  have hin5 : ∀ w ∈ u_ws RX5 TX5 2, w ∈ wsX5_payFor := (fun _ h9 => List.mem_cons_of_mem _ ((List.mem_append_right _ h9)))
  have hl := lv_entry ([.ref h0, .int a1, .int a2]) (n := 4) (Nat.le_of_ble_eq_true rfl)
  rw [lg_entry_eq]
  generalize (lg_sl ([.ref h0, .int a1, .int a2]) ++ List.replicate (4 - (lg_sl ([.ref h0, .int a1, .int a2])).length) Slot.unset).toArray = ls at hl ⊢
  have hl : lv_has ls 4 [(0, .ref h0), (1, .int a1), (2, .int a2)] := hl
  refine lv_iconst (v := 0) hx hb dX5_payFor_0 (by decide) ?_
  refine lv_istore_n (lv' := [(3, .int 0), (0, .ref h0), (1, .int a1), (2, .int a2)]) hx hb dX5_payFor_1 rfl hl (by decide) rfl (fun ls hl => ?_)
  refine lv_iload_n hx hb dX5_payFor_2 rfl (lv_at hl 0 rfl) ?_
  refine lv_iconst (v := 4) hx hb dX5_payFor_3 (by decide) ?_
  refine lv_icmp_ge (tgt := 39) hx hb dX5_payFor_4 (by decide) (fun c_1 => absurd c_1 (by decide)) (fun c_1 => ?_)
  refine lv_iload_n hx hb dX5_payFor_7 rfl (lv_at hl 3 rfl) ?_
  refine lv_aload_n hx hb dX5_payFor_8 rfl (lv_at hl 1 rfl) ?_
  refine va_get (D := D) (ci := 5) (v := .ref s1) (C := RX5) (T := TX5) (N := 2) hx hb hts hin5 hown hK hP k0 e0 rfl 0 (by decide) (hts (.fieldLink RX5 9 "HoneyHouse$Steps" "waters" "[I") (List.mem_of_getElem? (i := 1) rfl)) (fun _ h9 => h9) g0 dX5_payFor_9 ?_
  refine lv_iload_n hx hb dX5_payFor_12 rfl (lv_at hl 0 rfl) ?_
  refine va_iald (f := f1) (n := 4) hx hb hK hP k1 t1 e1 u1 (vp_in_iff.mpr (by decide)) dX5_payFor_13 ?_
  refine lv_icmp_gt (tgt := 33) hx hb dX5_payFor_14 (by decide) (fun c_2 => ?_) (fun c_2 => ?_)
  · refine lv_iinc (v := 1) (lv' := [(3, .int 1), (0, .ref h0), (1, .int a1), (2, .int a2)]) hx hb dX5_payFor_33 hl (k := 0) rfl (by decide) (by decide) rfl (fun ls hl => ?_)
    refine lv_goto (tgt := 2) hx hb dX5_payFor_36 (by decide) ?_
    refine lv_iload_n hx hb dX5_payFor_2 rfl (lv_at hl 0 rfl) ?_
    refine lv_iconst (v := 4) hx hb dX5_payFor_3 (by decide) ?_
    refine lv_icmp_ge (tgt := 39) hx hb dX5_payFor_4 (by decide) (fun c_3 => absurd c_3 (by decide)) (fun c_3 => ?_)
    refine lv_iload_n hx hb dX5_payFor_7 rfl (lv_at hl 3 rfl) ?_
    refine lv_aload_n hx hb dX5_payFor_8 rfl (lv_at hl 1 rfl) ?_
    refine va_get (D := D) (ci := 5) (v := .ref s1) (C := RX5) (T := TX5) (N := 2) hx hb hts hin5 hown hK hP k0 e0 rfl 0 (by decide) (hts (.fieldLink RX5 9 "HoneyHouse$Steps" "waters" "[I") (List.mem_of_getElem? (i := 1) rfl)) (fun _ h9 => h9) g0 dX5_payFor_9 ?_
    refine lv_iload_n hx hb dX5_payFor_12 rfl (lv_at hl 0 rfl) ?_
    refine va_iald (f := f1) (n := 4) hx hb hK hP k1 t1 e1 u1 (vp_in_iff.mpr (by decide)) dX5_payFor_13 ?_
    refine lv_icmp_gt (tgt := 33) hx hb dX5_payFor_14 (by decide) (fun c_4 => ?_) (fun c_4 => ?_)
    · refine lv_iinc (v := 2) (lv' := [(3, .int 2), (0, .ref h0), (1, .int a1), (2, .int a2)]) hx hb dX5_payFor_33 hl (k := 0) rfl (by decide) (by decide) rfl (fun ls hl => ?_)
      refine lv_goto (tgt := 2) hx hb dX5_payFor_36 (by decide) ?_
      refine lv_iload_n hx hb dX5_payFor_2 rfl (lv_at hl 0 rfl) ?_
      refine lv_iconst (v := 4) hx hb dX5_payFor_3 (by decide) ?_
      refine lv_icmp_ge (tgt := 39) hx hb dX5_payFor_4 (by decide) (fun c_5 => absurd c_5 (by decide)) (fun c_5 => ?_)
      refine lv_iload_n hx hb dX5_payFor_7 rfl (lv_at hl 3 rfl) ?_
      refine lv_aload_n hx hb dX5_payFor_8 rfl (lv_at hl 1 rfl) ?_
      refine va_get (D := D) (ci := 5) (v := .ref s1) (C := RX5) (T := TX5) (N := 2) hx hb hts hin5 hown hK hP k0 e0 rfl 0 (by decide) (hts (.fieldLink RX5 9 "HoneyHouse$Steps" "waters" "[I") (List.mem_of_getElem? (i := 1) rfl)) (fun _ h9 => h9) g0 dX5_payFor_9 ?_
      refine lv_iload_n hx hb dX5_payFor_12 rfl (lv_at hl 0 rfl) ?_
      refine va_iald (f := f1) (n := 4) hx hb hK hP k1 t1 e1 u1 (vp_in_iff.mpr (by decide)) dX5_payFor_13 ?_
      refine lv_icmp_gt (tgt := 33) hx hb dX5_payFor_14 (by decide) (fun c_6 => ?_) (fun c_6 => ?_)
      · refine lv_iinc (v := 3) (lv' := [(3, .int 3), (0, .ref h0), (1, .int a1), (2, .int a2)]) hx hb dX5_payFor_33 hl (k := 0) rfl (by decide) (by decide) rfl (fun ls hl => ?_)
        refine lv_goto (tgt := 2) hx hb dX5_payFor_36 (by decide) ?_
        refine lv_iload_n hx hb dX5_payFor_2 rfl (lv_at hl 0 rfl) ?_
        refine lv_iconst (v := 4) hx hb dX5_payFor_3 (by decide) ?_
        refine lv_icmp_ge (tgt := 39) hx hb dX5_payFor_4 (by decide) (fun c_7 => absurd c_7 (by decide)) (fun c_7 => ?_)
        refine lv_iload_n hx hb dX5_payFor_7 rfl (lv_at hl 3 rfl) ?_
        refine lv_aload_n hx hb dX5_payFor_8 rfl (lv_at hl 1 rfl) ?_
        refine va_get (D := D) (ci := 5) (v := .ref s1) (C := RX5) (T := TX5) (N := 2) hx hb hts hin5 hown hK hP k0 e0 rfl 0 (by decide) (hts (.fieldLink RX5 9 "HoneyHouse$Steps" "waters" "[I") (List.mem_of_getElem? (i := 1) rfl)) (fun _ h9 => h9) g0 dX5_payFor_9 ?_
        refine lv_iload_n hx hb dX5_payFor_12 rfl (lv_at hl 0 rfl) ?_
        refine va_iald (f := f1) (n := 4) hx hb hK hP k1 t1 e1 u1 (vp_in_iff.mpr (by decide)) dX5_payFor_13 ?_
        refine lv_icmp_gt (tgt := 33) hx hb dX5_payFor_14 (by decide) (fun c_8 => ?_) (fun c_8 => ?_)
        · refine lv_iinc (v := 4) (lv' := [(3, .int 4), (0, .ref h0), (1, .int a1), (2, .int a2)]) hx hb dX5_payFor_33 hl (k := 0) rfl (by decide) (by decide) rfl (fun ls hl => ?_)
          refine lv_goto (tgt := 2) hx hb dX5_payFor_36 (by decide) ?_
          refine lv_iload_n hx hb dX5_payFor_2 rfl (lv_at hl 0 rfl) ?_
          refine lv_iconst (v := 4) hx hb dX5_payFor_3 (by decide) ?_
          refine lv_icmp_ge (tgt := 39) hx hb dX5_payFor_4 (by decide) (fun c_9 => ?_) (fun c_9 => absurd (by decide) c_9)
          refine lv_iconst (v := 0) hx hb dX5_payFor_39 (by decide) ?_
          exact W.iret (v := 0) hx hb hr (fun t ht hW => ⟨0, rfl, (payF_4 c_2 c_4 c_6 c_8).symm, ht⟩) (fun _ h9 => by cases h9) dX5_payFor_40
        refine lv_iload_n hx hb dX5_payFor_17 rfl (lv_at hl 2 rfl) ?_
        refine lv_i2l hx hb dX5_payFor_18 rfl ?_
        refine lv_aload_n hx hb dX5_payFor_19 rfl (lv_at hl 1 rfl) ?_
        refine va_get (D := D) (ci := 5) (v := .ref s2) (C := RX5) (T := TX5) (N := 2) hx hb hts hin5 hown hK hP k0 e0 rfl 1 (by decide) (hts (.fieldLink RX5 15 "HoneyHouse$Steps" "prices" "[I") (List.mem_of_getElem? (i := 2) rfl)) (fun _ h9 => h9) g1 dX5_payFor_20 ?_
        refine lv_iload_n hx hb dX5_payFor_23 rfl (lv_at hl 0 rfl) ?_
        refine va_iald (f := f2) (n := 4) hx hb hK hP k2 t2 e2 u2 (vp_in_iff.mpr (by decide)) dX5_payFor_24 ?_
        refine lv_i2l hx hb dX5_payFor_25 rfl ?_
        refine lv_lmul hx hb dX5_payFor_26 ?_
        refine lv_ldc2 hx hb hown (hts (.constantLong RX5 24 (1000)) (List.mem_of_getElem? (i := 3) rfl)) dX5_payFor_27 ?_
        refine lv_ldiv hx hb dX5_payFor_30 (by decide) ?_
        refine lv_l2i hx hb dX5_payFor_31 rfl ?_
        exact W.iret (v := ((a1.toInt64 * ((f2 (3 : Int32).toNatClampNeg).toInt64)) / 1000).toInt32) hx hb hr (fun t ht hW => ⟨((a1.toInt64 * ((f2 (3 : Int32).toNatClampNeg).toInt64)) / 1000).toInt32, rfl, (payF_3 c_2 c_4 c_6 c_8).symm, ht⟩) (fun _ h9 => by cases h9) dX5_payFor_32
      refine lv_iload_n hx hb dX5_payFor_17 rfl (lv_at hl 2 rfl) ?_
      refine lv_i2l hx hb dX5_payFor_18 rfl ?_
      refine lv_aload_n hx hb dX5_payFor_19 rfl (lv_at hl 1 rfl) ?_
      refine va_get (D := D) (ci := 5) (v := .ref s2) (C := RX5) (T := TX5) (N := 2) hx hb hts hin5 hown hK hP k0 e0 rfl 1 (by decide) (hts (.fieldLink RX5 15 "HoneyHouse$Steps" "prices" "[I") (List.mem_of_getElem? (i := 2) rfl)) (fun _ h9 => h9) g1 dX5_payFor_20 ?_
      refine lv_iload_n hx hb dX5_payFor_23 rfl (lv_at hl 0 rfl) ?_
      refine va_iald (f := f2) (n := 4) hx hb hK hP k2 t2 e2 u2 (vp_in_iff.mpr (by decide)) dX5_payFor_24 ?_
      refine lv_i2l hx hb dX5_payFor_25 rfl ?_
      refine lv_lmul hx hb dX5_payFor_26 ?_
      refine lv_ldc2 hx hb hown (hts (.constantLong RX5 24 (1000)) (List.mem_of_getElem? (i := 3) rfl)) dX5_payFor_27 ?_
      refine lv_ldiv hx hb dX5_payFor_30 (by decide) ?_
      refine lv_l2i hx hb dX5_payFor_31 rfl ?_
      exact W.iret (v := ((a1.toInt64 * ((f2 (2 : Int32).toNatClampNeg).toInt64)) / 1000).toInt32) hx hb hr (fun t ht hW => ⟨((a1.toInt64 * ((f2 (2 : Int32).toNatClampNeg).toInt64)) / 1000).toInt32, rfl, (payF_2 c_2 c_4 c_6).symm, ht⟩) (fun _ h9 => by cases h9) dX5_payFor_32
    refine lv_iload_n hx hb dX5_payFor_17 rfl (lv_at hl 2 rfl) ?_
    refine lv_i2l hx hb dX5_payFor_18 rfl ?_
    refine lv_aload_n hx hb dX5_payFor_19 rfl (lv_at hl 1 rfl) ?_
    refine va_get (D := D) (ci := 5) (v := .ref s2) (C := RX5) (T := TX5) (N := 2) hx hb hts hin5 hown hK hP k0 e0 rfl 1 (by decide) (hts (.fieldLink RX5 15 "HoneyHouse$Steps" "prices" "[I") (List.mem_of_getElem? (i := 2) rfl)) (fun _ h9 => h9) g1 dX5_payFor_20 ?_
    refine lv_iload_n hx hb dX5_payFor_23 rfl (lv_at hl 0 rfl) ?_
    refine va_iald (f := f2) (n := 4) hx hb hK hP k2 t2 e2 u2 (vp_in_iff.mpr (by decide)) dX5_payFor_24 ?_
    refine lv_i2l hx hb dX5_payFor_25 rfl ?_
    refine lv_lmul hx hb dX5_payFor_26 ?_
    refine lv_ldc2 hx hb hown (hts (.constantLong RX5 24 (1000)) (List.mem_of_getElem? (i := 3) rfl)) dX5_payFor_27 ?_
    refine lv_ldiv hx hb dX5_payFor_30 (by decide) ?_
    refine lv_l2i hx hb dX5_payFor_31 rfl ?_
    exact W.iret (v := ((a1.toInt64 * ((f2 (1 : Int32).toNatClampNeg).toInt64)) / 1000).toInt32) hx hb hr (fun t ht hW => ⟨((a1.toInt64 * ((f2 (1 : Int32).toNatClampNeg).toInt64)) / 1000).toInt32, rfl, (payF_1 c_2 c_4).symm, ht⟩) (fun _ h9 => by cases h9) dX5_payFor_32
  refine lv_iload_n hx hb dX5_payFor_17 rfl (lv_at hl 2 rfl) ?_
  refine lv_i2l hx hb dX5_payFor_18 rfl ?_
  refine lv_aload_n hx hb dX5_payFor_19 rfl (lv_at hl 1 rfl) ?_
  refine va_get (D := D) (ci := 5) (v := .ref s2) (C := RX5) (T := TX5) (N := 2) hx hb hts hin5 hown hK hP k0 e0 rfl 1 (by decide) (hts (.fieldLink RX5 15 "HoneyHouse$Steps" "prices" "[I") (List.mem_of_getElem? (i := 2) rfl)) (fun _ h9 => h9) g1 dX5_payFor_20 ?_
  refine lv_iload_n hx hb dX5_payFor_23 rfl (lv_at hl 0 rfl) ?_
  refine va_iald (f := f2) (n := 4) hx hb hK hP k2 t2 e2 u2 (vp_in_iff.mpr (by decide)) dX5_payFor_24 ?_
  refine lv_i2l hx hb dX5_payFor_25 rfl ?_
  refine lv_lmul hx hb dX5_payFor_26 ?_
  refine lv_ldc2 hx hb hown (hts (.constantLong RX5 24 (1000)) (List.mem_of_getElem? (i := 3) rfl)) dX5_payFor_27 ?_
  refine lv_ldiv hx hb dX5_payFor_30 (by decide) ?_
  refine lv_l2i hx hb dX5_payFor_31 rfl ?_
  exact W.iret (v := ((a1.toInt64 * ((f2 (0 : Int32).toNatClampNeg).toInt64)) / 1000).toInt32) hx hb hr (fun t ht hW => ⟨((a1.toInt64 * ((f2 (0 : Int32).toNatClampNeg).toInt64)) / 1000).toInt32, rfl, (payF_0 c_2).symm, ht⟩) (fun _ h9 => by cases h9) dX5_payFor_32
theorem i_fc {n : Int32} {fc : Nat} (h : fc ≤ 60) (a : ¬ n < 0) (b : ¬ nI fc - 1 < n) : vp_in n 60 := by
  rw [i_lt] at a b
  have h0 : (0 : Int32).toInt = 0 := by decide
  rw [h0] at a
  have e : (nI fc - 1).toInt = (fc : Int) - 1 := pk_sub_toInt (a := fc) (b := 1) (by omega) (by omega)
  rw [e] at b
  exact vp_in_iff.mpr ⟨by omega, by omega⟩
