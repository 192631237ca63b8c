theorem dX6_append_0 : decode cX6_append 0 = .ok (.bipush 24, 2) := by decide +kernel
theorem dX6_append_2 : decode cX6_append 2 = .ok (.istore_n 2, 1) := by decide +kernel
theorem dX6_append_3 : decode cX6_append 3 = .ok (.iload_n 2, 1) := by decide +kernel
theorem dX6_append_4 : decode cX6_append 4 = .ok (.ifCond .lt 54, 3) := by decide +kernel
theorem dX6_append_7 : decode cX6_append 7 = .ok (.aload_n 0, 1) := by decide +kernel
theorem dX6_append_8 : decode cX6_append 8 = .ok (.getfield 15, 3) := by decide +kernel
theorem dX6_append_11 : decode cX6_append 11 = .ok (.ifCond .lt 41, 3) := by decide +kernel
theorem dX6_append_14 : decode cX6_append 14 = .ok (.aload_n 0, 1) := by decide +kernel
theorem dX6_append_15 : decode cX6_append 15 = .ok (.getfield 15, 3) := by decide +kernel
theorem dX6_append_18 : decode cX6_append 18 = .ok (.aload_n 0, 1) := by decide +kernel
theorem dX6_append_19 : decode cX6_append 19 = .ok (.getfield 9, 3) := by decide +kernel
theorem dX6_append_22 : decode cX6_append 22 = .ok (.arraylength, 1) := by decide +kernel
theorem dX6_append_23 : decode cX6_append 23 = .ok (.if_icmp .ge 29, 3) := by decide +kernel
theorem dX6_append_26 : decode cX6_append 26 = .ok (.aload_n 0, 1) := by decide +kernel
theorem dX6_append_27 : decode cX6_append 27 = .ok (.getfield 9, 3) := by decide +kernel
theorem dX6_append_30 : decode cX6_append 30 = .ok (.aload_n 0, 1) := by decide +kernel
theorem dX6_append_31 : decode cX6_append 31 = .ok (.getfield 15, 3) := by decide +kernel
theorem dX6_append_34 : decode cX6_append 34 = .ok (.iload_n 1, 1) := by decide +kernel
theorem dX6_append_35 : decode cX6_append 35 = .ok (.iload_n 2, 1) := by decide +kernel
theorem dX6_append_36 : decode cX6_append 36 = .ok (.ishr, 1) := by decide +kernel
theorem dX6_append_37 : decode cX6_append 37 = .ok (.sipush 255, 3) := by decide +kernel
theorem dX6_append_40 : decode cX6_append 40 = .ok (.iand, 1) := by decide +kernel
theorem dX6_append_41 : decode cX6_append 41 = .ok (.iastore, 1) := by decide +kernel
theorem dX6_append_42 : decode cX6_append 42 = .ok (.aload_n 0, 1) := by decide +kernel
theorem dX6_append_43 : decode cX6_append 43 = .ok (.dup, 1) := by decide +kernel
theorem dX6_append_44 : decode cX6_append 44 = .ok (.getfield 15, 3) := by decide +kernel
theorem dX6_append_47 : decode cX6_append 47 = .ok (.iconst 1, 1) := by decide +kernel
theorem dX6_append_48 : decode cX6_append 48 = .ok (.iadd, 1) := by decide +kernel
theorem dX6_append_49 : decode cX6_append 49 = .ok (.putfield 15, 3) := by decide +kernel
theorem dX6_append_52 : decode cX6_append 52 = .ok (.iinc 2 (-8), 3) := by decide +kernel
theorem dX6_append_55 : decode cX6_append 55 = .ok (.goto (-52), 3) := by decide +kernel
theorem dX6_append_58 : decode cX6_append 58 = .ok (.return_, 1) := by decide +kernel
theorem dX8_feed_0 : decode cX8_feed 0 = .ok (.aload_n 0, 1) := by decide +kernel
theorem dX8_feed_1 : decode cX8_feed 1 = .ok (.getfield 40, 3) := by decide +kernel
theorem dX8_feed_4 : decode cX8_feed 4 = .ok (.getfield 68, 3) := by decide +kernel
theorem dX8_feed_7 : decode cX8_feed 7 = .ok (.astore 6, 2) := by decide +kernel
theorem dX8_feed_9 : decode cX8_feed 9 = .ok (.aload 6, 2) := by decide +kernel
theorem dX8_feed_11 : decode cX8_feed 11 = .ok (.getfield 72, 3) := by decide +kernel
theorem dX8_feed_14 : decode cX8_feed 14 = .ok (.sipush 380, 3) := by decide +kernel
theorem dX8_feed_17 : decode cX8_feed 17 = .ok (.if_icmp .le 5, 3) := by decide +kernel
theorem dX8_feed_20 : decode cX8_feed 20 = .ok (.iconst (-1), 1) := by decide +kernel
theorem dX8_feed_21 : decode cX8_feed 21 = .ok (.ireturn, 1) := by decide +kernel
theorem dX8_feed_22 : decode cX8_feed 22 = .ok (.aload 6, 2) := by decide +kernel
theorem dX8_feed_24 : decode cX8_feed 24 = .ok (.iload_n 1, 1) := by decide +kernel
theorem dX8_feed_25 : decode cX8_feed 25 = .ok (.invokevirtual 78, 3) := by decide +kernel
theorem dX8_feed_28 : decode cX8_feed 28 = .ok (.aload 6, 2) := by decide +kernel
theorem dX8_feed_30 : decode cX8_feed 30 = .ok (.iload_n 2, 1) := by decide +kernel
theorem dX8_feed_31 : decode cX8_feed 31 = .ok (.invokevirtual 78, 3) := by decide +kernel
theorem dX8_feed_34 : decode cX8_feed 34 = .ok (.aload 6, 2) := by decide +kernel
theorem dX8_feed_36 : decode cX8_feed 36 = .ok (.iload_n 3, 1) := by decide +kernel
theorem dX8_feed_37 : decode cX8_feed 37 = .ok (.invokevirtual 78, 3) := by decide +kernel
theorem dX8_feed_40 : decode cX8_feed 40 = .ok (.aload 6, 2) := by decide +kernel
theorem dX8_feed_42 : decode cX8_feed 42 = .ok (.iload 4, 2) := by decide +kernel
theorem dX8_feed_44 : decode cX8_feed 44 = .ok (.invokevirtual 78, 3) := by decide +kernel
theorem dX8_feed_47 : decode cX8_feed 47 = .ok (.aload 6, 2) := by decide +kernel
theorem dX8_feed_49 : decode cX8_feed 49 = .ok (.iload 5, 2) := by decide +kernel
theorem dX8_feed_51 : decode cX8_feed 51 = .ok (.invokevirtual 78, 3) := by decide +kernel
theorem dX8_feed_54 : decode cX8_feed 54 = .ok (.aload 6, 2) := by decide +kernel
theorem dX8_feed_56 : decode cX8_feed 56 = .ok (.getfield 72, 3) := by decide +kernel
theorem dX8_feed_59 : decode cX8_feed 59 = .ok (.ireturn, 1) := by decide +kernel
set_option maxRecDepth 20000 in
theorem ggX8_feed_X6_append : GoodIn wsX8_feed wsX6_append := goodIn_r _ [8, 9, 10, 34, 35, 36, 37, 38] rfl (by decide +kernel)
set_option maxRecDepth 20000 in
theorem gX8_feed_X6_append : GoodIn wsX8_feed (wsV RX8 78 RX6 yX6_append wsX6_append) := goodIn_app (goodIn_of _ (by decide +kernel)) ggX8_feed_X6_append
set_option maxHeartbeats 4000000 in
set_option maxRecDepth 100000 in
theorem a_append (l : Launch) (D : va_G) (ρ : Nat → Nat) (ws : va_W) (tys : List (ClassId × FieldType)) (tp ktp n : Nat) (tk ts te : Int32) (bb kbb : Nat) (cbb : ClassId) (tbb : Nat) (f : Nat → Int32) (a1 : Int32) (sz : Nat) (hn : n + 4 ≤ 400) (etp : ws[ktp]? = some (tp, .inr (6, [.int (nI n), .int tk, .int ts, .int te, .ref bb]))) (ebb : ws[kbb]? = some (bb, .inl (cbb, 400, .inl f))) (ubb : tys[tbb]? = some (cbb, .int)) (w_kbb : ρ kbb = 0) (w_ktp : ρ ktp = 0) : Met l yX6_append wsX6_append ({ frames := 0, cells := 0, slots := 0, locals := 0 }) (va_Pc [.ref tp, .int a1] (fun U => U.heap.size = sz ∧ va_P D vwCl ws U.heap ∧ va_K D vwCl tys U ∧ va_D (fun _ => True) ws)) (va_Qv (fun _ : Unit => True) (fun (_ : Unit) (t : State) => ∃ (ws' : va_W) (tys' : List (ClassId × FieldType)), sm ρ [6] ws ws' ∧ tyx tys tys' ∧ va_P D vwCl ws' t.heap ∧ va_K D vwCl tys' t ∧ va_D (va_A ws sz) ws' ∧ (ws'[ktp]? = some (tp, .inr (6, [.int (nI (n + 4)), .int tk, .int ts, .int te, .ref bb])))) (va_A ws sz)) 0 0 (va_A ws sz) := by
  refine Met.ofW (cc := cX6_append) (maxL := 3) (ret := none) (by decide) rfl ?_
  intro p e s m args below meth c s₁ B hml hv
  obtain ⟨rfl, hsz, hP, hK, hD0⟩ := hv
  have hx := B.exec
  have hb := B.bytes
  have hr := B.returns
  have hts := atoms_spec (ws := wsX6_append) B.pre
  have hown : s.vm.findClass RX6 = some m.cls := findClass_of_methodNamed B.named
  have hlocks := B.notSynchronized
  subst hsz
  have hD := hD0.self (sz := s.heap.size)
  generalize hAe : va_A ws s.heap.size = A at hD ⊢
  have hA : ∀ q : Nat, s.heap.size ≤ q → A q := fun q h => by rw [← hAe]; exact Or.inr h
  have hS : va_S A s.heap s.heap [] := va_S.rf
  have hsm : sm ρ [6] ws ws := sm.rf ws
  have htx : tyx tys tys := tyx.rf tys
  have hin6 : ∀ w ∈ u_ws RX6 TX6 5, w ∈ wsX6_append := (fun _ h9 => List.mem_cons_of_mem _ ((List.mem_append_right _ h9)))
  have hl := lv_entry ([.ref tp, .int a1]) (n := 3) (Nat.le_of_ble_eq_true rfl)
  rw [lg_entry_eq]
  generalize (lg_sl ([.ref tp, .int a1]) ++ List.replicate (3 - (lg_sl ([.ref tp, .int a1])).length) Slot.unset).toArray = ls at hl ⊢
  have hl : lv_has ls 3 [(0, .ref tp), (1, .int a1)] := hl
  refine lv_bipush (v := 24) hx hb dX6_append_0 (by decide) ?_
  refine lv_istore_n (lv' := [(2, .int 24), (0, .ref tp), (1, .int a1)]) hx hb dX6_append_2 rfl hl (by decide) rfl (fun ls hl => ?_)
  refine lv_iload_n hx hb dX6_append_3 rfl (lv_at hl 0 rfl) ?_
  refine lv_if_lt (tgt := 58) hx hb dX6_append_4 (by decide) (fun c_1 => absurd c_1 (by decide)) (fun c_1 => ?_)
  refine lv_aload_n hx hb dX6_append_7 rfl (lv_at hl 1 rfl) ?_
  refine va_get (D := D) (ci := 6) (v := .int (nI n)) (C := RX6) (T := TX6) (N := 5) hx hb hts hin6 hown hK hP ktp etp rfl 0 (by decide) (hts (.fieldLink RX6 15 "HoneyHouse$Tape" "length" "I") (List.mem_of_getElem? (i := 1) rfl)) (fun _ h9 => h9) rfl dX6_append_8 ?_
  refine lv_if_lt (tgt := 52) hx hb dX6_append_11 (by decide) (fun c_2 => absurd c_2 (nI_pos (by omega))) (fun c_2 => ?_)
  refine lv_aload_n hx hb dX6_append_14 rfl (lv_at hl 1 rfl) ?_
  refine va_get (D := D) (ci := 6) (v := .int (nI n)) (C := RX6) (T := TX6) (N := 5) hx hb hts hin6 hown hK hP ktp etp rfl 0 (by decide) (hts (.fieldLink RX6 15 "HoneyHouse$Tape" "length" "I") (List.mem_of_getElem? (i := 1) rfl)) (fun _ h9 => h9) rfl dX6_append_15 ?_
  refine lv_aload_n hx hb dX6_append_18 rfl (lv_at hl 1 rfl) ?_
  refine va_get (D := D) (ci := 6) (v := .ref bb) (C := RX6) (T := TX6) (N := 5) hx hb hts hin6 hown hK hP ktp etp rfl 4 (by decide) (hts (.fieldLink RX6 9 "HoneyHouse$Tape" "bytes" "[I") (List.mem_of_getElem? (i := 2) rfl)) (fun _ h9 => h9) rfl dX6_append_19 ?_
  refine va_alen (v := 400) hx hb hK hP kbb tbb ebb ubb rfl dX6_append_22 ?_
  refine lv_icmp_ge (tgt := 52) hx hb dX6_append_23 (by decide) (fun c_3 => absurd c_3 (show ¬ (400 : Int32) ≤ nI n from nI_ge (a := n) (b := 400) (by omega) (by omega))) (fun c_3 => ?_)
  refine lv_aload_n hx hb dX6_append_26 rfl (lv_at hl 1 rfl) ?_
  refine va_get (D := D) (ci := 6) (v := .ref bb) (C := RX6) (T := TX6) (N := 5) hx hb hts hin6 hown hK hP ktp etp rfl 4 (by decide) (hts (.fieldLink RX6 9 "HoneyHouse$Tape" "bytes" "[I") (List.mem_of_getElem? (i := 2) rfl)) (fun _ h9 => h9) rfl dX6_append_27 ?_
  refine lv_aload_n hx hb dX6_append_30 rfl (lv_at hl 1 rfl) ?_
  refine va_get (D := D) (ci := 6) (v := .int (nI n)) (C := RX6) (T := TX6) (N := 5) hx hb hts hin6 hown hK hP ktp etp rfl 0 (by decide) (hts (.fieldLink RX6 15 "HoneyHouse$Tape" "length" "I") (List.mem_of_getElem? (i := 1) rfl)) (fun _ h9 => h9) rfl dX6_append_31 ?_
  refine lv_iload_n hx hb dX6_append_34 rfl (lv_at hl 2 rfl) ?_
  refine lv_iload_n hx hb dX6_append_35 rfl (lv_at hl 0 rfl) ?_
  refine lv_ishr hx hb dX6_append_36 ?_
  refine lv_sipush (v := 255) hx hb dX6_append_37 (by decide) ?_
  refine lv_iand hx hb dX6_append_40 ?_
  refine va_iast (f := f) (n := 400) hx hb hK hP hD hS kbb tbb ebb ubb (vp_in_nI (by omega) (by omega)) dX6_append_41 (fun H locs hP hD hS => ?_)
  have hm_5 : sm ρ [] ws (ws.set kbb (bb, .inl (cbb, 400, .inl (upd f (nI n).toNatClampNeg ((a1 >>> (24 &&& 31)) &&& 255))))) := sm.ints ebb w_kbb
  have e_6 : (ws.set kbb (bb, .inl (cbb, 400, .inl (upd f (nI n).toNatClampNeg ((a1 >>> (24 &&& 31)) &&& 255)))))[kbb]? = some (bb, .inl (cbb, 400, .inl (upd f (nI n).toNatClampNeg ((a1 >>> (24 &&& 31)) &&& 255)))) := wset_self ebb
  generalize ws.set kbb (bb, .inl (cbb, 400, .inl (upd f (nI n).toNatClampNeg ((a1 >>> (24 &&& 31)) &&& 255)))) = ws_4 at hP hD hm_5 e_6
  have e_7 := hm_5.objK etp (by decide)
  have hsm := hsm.tr (hm_5.mono (fun _ h9 => absurd h9 List.not_mem_nil))
  generalize upd f (nI n).toNatClampNeg ((a1 >>> (24 &&& 31)) &&& 255) = f_8 at e_6
  refine lv_aload_n hx hb dX6_append_42 rfl (lv_at hl 1 rfl) ?_
  refine lv_dup hx hb dX6_append_43 rfl ?_
  refine va_get (D := D) (ci := 6) (v := .int (nI n)) (C := RX6) (T := TX6) (N := 5) hx hb hts hin6 hown hK hP ktp e_7 rfl 0 (by decide) (hts (.fieldLink RX6 15 "HoneyHouse$Tape" "length" "I") (List.mem_of_getElem? (i := 1) rfl)) (fun _ h9 => h9) rfl dX6_append_44 ?_
  refine lv_iconst (v := 1) hx hb dX6_append_47 (by decide) ?_
  refine lv_iadd hx hb dX6_append_48 ?_
  refine tp_i (y := nI (n + 1)) (nI_1 _) ?_
  refine va_put (D := D) (ci := 6) (v := .int (nI (n + 1))) (ty := .int) (C := RX6) (T := TX6) (N := 5) hx hb hts hin6 tyX6 tyX6_ok nmX6 hown hK hP hD hS ktp e_7 rfl 0 (by decide) (hts (.fieldLink RX6 15 "HoneyHouse$Tape" "length" "I") (List.mem_of_getElem? (i := 1) rfl)) (fun _ h9 => h9) rfl (tyX6_ok 0 (by decide)) rfl rfl (Nat.le_of_ble_eq_true rfl) dX6_append_49 (fun H locs hP hD hS => ?_)
  have hP : va_P D vwCl (ws_4.set ktp (tp, .inr (6, [.int (nI (n + 1)), .int tk, .int ts, .int te, .ref bb]))) H := hP
  have hD : va_D A (ws_4.set ktp (tp, .inr (6, [.int (nI (n + 1)), .int tk, .int ts, .int te, .ref bb]))) := hD
  have hm_10 : sm ρ [6] ws_4 (ws_4.set ktp (tp, .inr (6, [.int (nI (n + 1)), .int tk, .int ts, .int te, .ref bb]))) := sm.flds e_7 (smF.c (smV.i _ _) (smF.c (smV.rf _) (smF.c (smV.rf _) (smF.c (smV.rf _) (smF.c (smV.rf _) (rfl)))))) (List.mem_singleton.mpr rfl) w_ktp
  have e_11 : (ws_4.set ktp (tp, .inr (6, [.int (nI (n + 1)), .int tk, .int ts, .int te, .ref bb])))[ktp]? = some (tp, .inr (6, [.int (nI (n + 1)), .int tk, .int ts, .int te, .ref bb])) := wset_self e_7
  generalize ws_4.set ktp (tp, .inr (6, [.int (nI (n + 1)), .int tk, .int ts, .int te, .ref bb])) = ws_9 at hP hD hm_10 e_11
  obtain ⟨f_13, e_12⟩ := hm_10.arrI e_6
  have hsm := hsm.tr (hm_10.mono (by decide))
  refine lv_iinc (v := 16) (lv' := [(2, .int 16), (0, .ref tp), (1, .int a1)]) hx hb dX6_append_52 hl (k := 0) rfl (by decide) (by decide) rfl (fun ls hl => ?_)
  refine lv_goto (tgt := 3) hx hb dX6_append_55 (by decide) ?_
  refine lv_iload_n hx hb dX6_append_3 rfl (lv_at hl 0 rfl) ?_
  refine lv_if_lt (tgt := 58) hx hb dX6_append_4 (by decide) (fun c_14 => absurd c_14 (by decide)) (fun c_14 => ?_)
  refine lv_aload_n hx hb dX6_append_7 rfl (lv_at hl 1 rfl) ?_
  refine va_get (D := D) (ci := 6) (v := .int (nI (n + 1))) (C := RX6) (T := TX6) (N := 5) hx hb hts hin6 hown hK hP ktp e_11 rfl 0 (by decide) (hts (.fieldLink RX6 15 "HoneyHouse$Tape" "length" "I") (List.mem_of_getElem? (i := 1) rfl)) (fun _ h9 => h9) rfl dX6_append_8 ?_
  refine lv_if_lt (tgt := 52) hx hb dX6_append_11 (by decide) (fun c_15 => absurd c_15 (nI_pos (by omega))) (fun c_15 => ?_)
  refine lv_aload_n hx hb dX6_append_14 rfl (lv_at hl 1 rfl) ?_
  refine va_get (D := D) (ci := 6) (v := .int (nI (n + 1))) (C := RX6) (T := TX6) (N := 5) hx hb hts hin6 hown hK hP ktp e_11 rfl 0 (by decide) (hts (.fieldLink RX6 15 "HoneyHouse$Tape" "length" "I") (List.mem_of_getElem? (i := 1) rfl)) (fun _ h9 => h9) rfl dX6_append_15 ?_
  refine lv_aload_n hx hb dX6_append_18 rfl (lv_at hl 1 rfl) ?_
  refine va_get (D := D) (ci := 6) (v := .ref bb) (C := RX6) (T := TX6) (N := 5) hx hb hts hin6 hown hK hP ktp e_11 rfl 4 (by decide) (hts (.fieldLink RX6 9 "HoneyHouse$Tape" "bytes" "[I") (List.mem_of_getElem? (i := 2) rfl)) (fun _ h9 => h9) rfl dX6_append_19 ?_
  refine va_alen (v := 400) hx hb hK hP kbb tbb e_12 ubb rfl dX6_append_22 ?_
  refine lv_icmp_ge (tgt := 52) hx hb dX6_append_23 (by decide) (fun c_16 => absurd c_16 (show ¬ (400 : Int32) ≤ nI (n + 1) from nI_ge (a := (n + 1)) (b := 400) (by omega) (by omega))) (fun c_16 => ?_)
  refine lv_aload_n hx hb dX6_append_26 rfl (lv_at hl 1 rfl) ?_
  refine va_get (D := D) (ci := 6) (v := .ref bb) (C := RX6) (T := TX6) (N := 5) hx hb hts hin6 hown hK hP ktp e_11 rfl 4 (by decide) (hts (.fieldLink RX6 9 "HoneyHouse$Tape" "bytes" "[I") (List.mem_of_getElem? (i := 2) rfl)) (fun _ h9 => h9) rfl dX6_append_27 ?_
  refine lv_aload_n hx hb dX6_append_30 rfl (lv_at hl 1 rfl) ?_
  refine va_get (D := D) (ci := 6) (v := .int (nI (n + 1))) (C := RX6) (T := TX6) (N := 5) hx hb hts hin6 hown hK hP ktp e_11 rfl 0 (by decide) (hts (.fieldLink RX6 15 "HoneyHouse$Tape" "length" "I") (List.mem_of_getElem? (i := 1) rfl)) (fun _ h9 => h9) rfl dX6_append_31 ?_
  refine lv_iload_n hx hb dX6_append_34 rfl (lv_at hl 2 rfl) ?_
  refine lv_iload_n hx hb dX6_append_35 rfl (lv_at hl 0 rfl) ?_
  refine lv_ishr hx hb dX6_append_36 ?_
  refine lv_sipush (v := 255) hx hb dX6_append_37 (by decide) ?_
  refine lv_iand hx hb dX6_append_40 ?_
  refine va_iast (f := f_13) (n := 400) hx hb hK hP hD hS kbb tbb e_12 ubb (vp_in_nI (by omega) (by omega)) dX6_append_41 (fun H locs hP hD hS => ?_)
  have hm_18 : sm ρ [] ws_9 (ws_9.set kbb (bb, .inl (cbb, 400, .inl (upd f_13 (nI (n + 1)).toNatClampNeg ((a1 >>> (16 &&& 31)) &&& 255))))) := sm.ints e_12 w_kbb
  have e_19 : (ws_9.set kbb (bb, .inl (cbb, 400, .inl (upd f_13 (nI (n + 1)).toNatClampNeg ((a1 >>> (16 &&& 31)) &&& 255)))))[kbb]? = some (bb, .inl (cbb, 400, .inl (upd f_13 (nI (n + 1)).toNatClampNeg ((a1 >>> (16 &&& 31)) &&& 255)))) := wset_self e_12
  generalize ws_9.set kbb (bb, .inl (cbb, 400, .inl (upd f_13 (nI (n + 1)).toNatClampNeg ((a1 >>> (16 &&& 31)) &&& 255)))) = ws_17 at hP hD hm_18 e_19
  have e_20 := hm_18.objK e_11 (by decide)
  have hsm := hsm.tr (hm_18.mono (fun _ h9 => absurd h9 List.not_mem_nil))
  generalize upd f_13 (nI (n + 1)).toNatClampNeg ((a1 >>> (16 &&& 31)) &&& 255) = f_21 at e_19
  refine lv_aload_n hx hb dX6_append_42 rfl (lv_at hl 1 rfl) ?_
  refine lv_dup hx hb dX6_append_43 rfl ?_
  refine va_get (D := D) (ci := 6) (v := .int (nI (n + 1))) (C := RX6) (T := TX6) (N := 5) hx hb hts hin6 hown hK hP ktp e_20 rfl 0 (by decide) (hts (.fieldLink RX6 15 "HoneyHouse$Tape" "length" "I") (List.mem_of_getElem? (i := 1) rfl)) (fun _ h9 => h9) rfl dX6_append_44 ?_
  refine lv_iconst (v := 1) hx hb dX6_append_47 (by decide) ?_
  refine lv_iadd hx hb dX6_append_48 ?_
  refine tp_i (y := nI (n + 1 + 1)) (nI_1 _) ?_
  refine va_put (D := D) (ci := 6) (v := .int (nI (n + 1 + 1))) (ty := .int) (C := RX6) (T := TX6) (N := 5) hx hb hts hin6 tyX6 tyX6_ok nmX6 hown hK hP hD hS ktp e_20 rfl 0 (by decide) (hts (.fieldLink RX6 15 "HoneyHouse$Tape" "length" "I") (List.mem_of_getElem? (i := 1) rfl)) (fun _ h9 => h9) rfl (tyX6_ok 0 (by decide)) rfl rfl (Nat.le_of_ble_eq_true rfl) dX6_append_49 (fun H locs hP hD hS => ?_)
  have hP : va_P D vwCl (ws_17.set ktp (tp, .inr (6, [.int (nI (n + 1 + 1)), .int tk, .int ts, .int te, .ref bb]))) H := hP
  have hD : va_D A (ws_17.set ktp (tp, .inr (6, [.int (nI (n + 1 + 1)), .int tk, .int ts, .int te, .ref bb]))) := hD
  have hm_23 : sm ρ [6] ws_17 (ws_17.set ktp (tp, .inr (6, [.int (nI (n + 1 + 1)), .int tk, .int ts, .int te, .ref bb]))) := sm.flds e_20 (smF.c (smV.i _ _) (smF.c (smV.rf _) (smF.c (smV.rf _) (smF.c (smV.rf _) (smF.c (smV.rf _) (rfl)))))) (List.mem_singleton.mpr rfl) w_ktp
  have e_24 : (ws_17.set ktp (tp, .inr (6, [.int (nI (n + 1 + 1)), .int tk, .int ts, .int te, .ref bb])))[ktp]? = some (tp, .inr (6, [.int (nI (n + 1 + 1)), .int tk, .int ts, .int te, .ref bb])) := wset_self e_20
  generalize ws_17.set ktp (tp, .inr (6, [.int (nI (n + 1 + 1)), .int tk, .int ts, .int te, .ref bb])) = ws_22 at hP hD hm_23 e_24
  obtain ⟨f_26, e_25⟩ := hm_23.arrI e_19
  have hsm := hsm.tr (hm_23.mono (by decide))
  refine lv_iinc (v := 8) (lv' := [(2, .int 8), (0, .ref tp), (1, .int a1)]) hx hb dX6_append_52 hl (k := 0) rfl (by decide) (by decide) rfl (fun ls hl => ?_)
  refine lv_goto (tgt := 3) hx hb dX6_append_55 (by decide) ?_
  refine lv_iload_n hx hb dX6_append_3 rfl (lv_at hl 0 rfl) ?_
  refine lv_if_lt (tgt := 58) hx hb dX6_append_4 (by decide) (fun c_27 => absurd c_27 (by decide)) (fun c_27 => ?_)
  refine lv_aload_n hx hb dX6_append_7 rfl (lv_at hl 1 rfl) ?_
  refine va_get (D := D) (ci := 6) (v := .int (nI (n + 1 + 1))) (C := RX6) (T := TX6) (N := 5) hx hb hts hin6 hown hK hP ktp e_24 rfl 0 (by decide) (hts (.fieldLink RX6 15 "HoneyHouse$Tape" "length" "I") (List.mem_of_getElem? (i := 1) rfl)) (fun _ h9 => h9) rfl dX6_append_8 ?_
  refine lv_if_lt (tgt := 52) hx hb dX6_append_11 (by decide) (fun c_28 => absurd c_28 (nI_pos (by omega))) (fun c_28 => ?_)
  refine lv_aload_n hx hb dX6_append_14 rfl (lv_at hl 1 rfl) ?_
  refine va_get (D := D) (ci := 6) (v := .int (nI (n + 1 + 1))) (C := RX6) (T := TX6) (N := 5) hx hb hts hin6 hown hK hP ktp e_24 rfl 0 (by decide) (hts (.fieldLink RX6 15 "HoneyHouse$Tape" "length" "I") (List.mem_of_getElem? (i := 1) rfl)) (fun _ h9 => h9) rfl dX6_append_15 ?_
  refine lv_aload_n hx hb dX6_append_18 rfl (lv_at hl 1 rfl) ?_
  refine va_get (D := D) (ci := 6) (v := .ref bb) (C := RX6) (T := TX6) (N := 5) hx hb hts hin6 hown hK hP ktp e_24 rfl 4 (by decide) (hts (.fieldLink RX6 9 "HoneyHouse$Tape" "bytes" "[I") (List.mem_of_getElem? (i := 2) rfl)) (fun _ h9 => h9) rfl dX6_append_19 ?_
  refine va_alen (v := 400) hx hb hK hP kbb tbb e_25 ubb rfl dX6_append_22 ?_
  refine lv_icmp_ge (tgt := 52) hx hb dX6_append_23 (by decide) (fun c_29 => absurd c_29 (show ¬ (400 : Int32) ≤ nI (n + 1 + 1) from nI_ge (a := (n + 1 + 1)) (b := 400) (by omega) (by omega))) (fun c_29 => ?_)
  refine lv_aload_n hx hb dX6_append_26 rfl (lv_at hl 1 rfl) ?_
  refine va_get (D := D) (ci := 6) (v := .ref bb) (C := RX6) (T := TX6) (N := 5) hx hb hts hin6 hown hK hP ktp e_24 rfl 4 (by decide) (hts (.fieldLink RX6 9 "HoneyHouse$Tape" "bytes" "[I") (List.mem_of_getElem? (i := 2) rfl)) (fun _ h9 => h9) rfl dX6_append_27 ?_
  refine lv_aload_n hx hb dX6_append_30 rfl (lv_at hl 1 rfl) ?_
  refine va_get (D := D) (ci := 6) (v := .int (nI (n + 1 + 1))) (C := RX6) (T := TX6) (N := 5) hx hb hts hin6 hown hK hP ktp e_24 rfl 0 (by decide) (hts (.fieldLink RX6 15 "HoneyHouse$Tape" "length" "I") (List.mem_of_getElem? (i := 1) rfl)) (fun _ h9 => h9) rfl dX6_append_31 ?_
  refine lv_iload_n hx hb dX6_append_34 rfl (lv_at hl 2 rfl) ?_
  refine lv_iload_n hx hb dX6_append_35 rfl (lv_at hl 0 rfl) ?_
  refine lv_ishr hx hb dX6_append_36 ?_
  refine lv_sipush (v := 255) hx hb dX6_append_37 (by decide) ?_
  refine lv_iand hx hb dX6_append_40 ?_
  refine va_iast (f := f_26) (n := 400) hx hb hK hP hD hS kbb tbb e_25 ubb (vp_in_nI (by omega) (by omega)) dX6_append_41 (fun H locs hP hD hS => ?_)
  have hm_31 : sm ρ [] ws_22 (ws_22.set kbb (bb, .inl (cbb, 400, .inl (upd f_26 (nI (n + 1 + 1)).toNatClampNeg ((a1 >>> (8 &&& 31)) &&& 255))))) := sm.ints e_25 w_kbb
  have e_32 : (ws_22.set kbb (bb, .inl (cbb, 400, .inl (upd f_26 (nI (n + 1 + 1)).toNatClampNeg ((a1 >>> (8 &&& 31)) &&& 255)))))[kbb]? = some (bb, .inl (cbb, 400, .inl (upd f_26 (nI (n + 1 + 1)).toNatClampNeg ((a1 >>> (8 &&& 31)) &&& 255)))) := wset_self e_25
  generalize ws_22.set kbb (bb, .inl (cbb, 400, .inl (upd f_26 (nI (n + 1 + 1)).toNatClampNeg ((a1 >>> (8 &&& 31)) &&& 255)))) = ws_30 at hP hD hm_31 e_32
  have e_33 := hm_31.objK e_24 (by decide)
  have hsm := hsm.tr (hm_31.mono (fun _ h9 => absurd h9 List.not_mem_nil))
  generalize upd f_26 (nI (n + 1 + 1)).toNatClampNeg ((a1 >>> (8 &&& 31)) &&& 255) = f_34 at e_32
  refine lv_aload_n hx hb dX6_append_42 rfl (lv_at hl 1 rfl) ?_
  refine lv_dup hx hb dX6_append_43 rfl ?_
  refine va_get (D := D) (ci := 6) (v := .int (nI (n + 1 + 1))) (C := RX6) (T := TX6) (N := 5) hx hb hts hin6 hown hK hP ktp e_33 rfl 0 (by decide) (hts (.fieldLink RX6 15 "HoneyHouse$Tape" "length" "I") (List.mem_of_getElem? (i := 1) rfl)) (fun _ h9 => h9) rfl dX6_append_44 ?_
  refine lv_iconst (v := 1) hx hb dX6_append_47 (by decide) ?_
  refine lv_iadd hx hb dX6_append_48 ?_
  refine tp_i (y := nI (n + 1 + 1 + 1)) (nI_1 _) ?_
  refine va_put (D := D) (ci := 6) (v := .int (nI (n + 1 + 1 + 1))) (ty := .int) (C := RX6) (T := TX6) (N := 5) hx hb hts hin6 tyX6 tyX6_ok nmX6 hown hK hP hD hS ktp e_33 rfl 0 (by decide) (hts (.fieldLink RX6 15 "HoneyHouse$Tape" "length" "I") (List.mem_of_getElem? (i := 1) rfl)) (fun _ h9 => h9) rfl (tyX6_ok 0 (by decide)) rfl rfl (Nat.le_of_ble_eq_true rfl) dX6_append_49 (fun H locs hP hD hS => ?_)
  have hP : va_P D vwCl (ws_30.set ktp (tp, .inr (6, [.int (nI (n + 1 + 1 + 1)), .int tk, .int ts, .int te, .ref bb]))) H := hP
  have hD : va_D A (ws_30.set ktp (tp, .inr (6, [.int (nI (n + 1 + 1 + 1)), .int tk, .int ts, .int te, .ref bb]))) := hD
  have hm_36 : sm ρ [6] ws_30 (ws_30.set ktp (tp, .inr (6, [.int (nI (n + 1 + 1 + 1)), .int tk, .int ts, .int te, .ref bb]))) := sm.flds e_33 (smF.c (smV.i _ _) (smF.c (smV.rf _) (smF.c (smV.rf _) (smF.c (smV.rf _) (smF.c (smV.rf _) (rfl)))))) (List.mem_singleton.mpr rfl) w_ktp
  have e_37 : (ws_30.set ktp (tp, .inr (6, [.int (nI (n + 1 + 1 + 1)), .int tk, .int ts, .int te, .ref bb])))[ktp]? = some (tp, .inr (6, [.int (nI (n + 1 + 1 + 1)), .int tk, .int ts, .int te, .ref bb])) := wset_self e_33
  generalize ws_30.set ktp (tp, .inr (6, [.int (nI (n + 1 + 1 + 1)), .int tk, .int ts, .int te, .ref bb])) = ws_35 at hP hD hm_36 e_37
  obtain ⟨f_39, e_38⟩ := hm_36.arrI e_32
  have hsm := hsm.tr (hm_36.mono (by decide))
  refine lv_iinc (v := 0) (lv' := [(2, .int 0), (0, .ref tp), (1, .int a1)]) hx hb dX6_append_52 hl (k := 0) rfl (by decide) (by decide) rfl (fun ls hl => ?_)
  refine lv_goto (tgt := 3) hx hb dX6_append_55 (by decide) ?_
  refine lv_iload_n hx hb dX6_append_3 rfl (lv_at hl 0 rfl) ?_
  refine lv_if_lt (tgt := 58) hx hb dX6_append_4 (by decide) (fun c_40 => absurd c_40 (by decide)) (fun c_40 => ?_)
  refine lv_aload_n hx hb dX6_append_7 rfl (lv_at hl 1 rfl) ?_
  refine va_get (D := D) (ci := 6) (v := .int (nI (n + 1 + 1 + 1))) (C := RX6) (T := TX6) (N := 5) hx hb hts hin6 hown hK hP ktp e_37 rfl 0 (by decide) (hts (.fieldLink RX6 15 "HoneyHouse$Tape" "length" "I") (List.mem_of_getElem? (i := 1) rfl)) (fun _ h9 => h9) rfl dX6_append_8 ?_
  refine lv_if_lt (tgt := 52) hx hb dX6_append_11 (by decide) (fun c_41 => absurd c_41 (nI_pos (by omega))) (fun c_41 => ?_)
  refine lv_aload_n hx hb dX6_append_14 rfl (lv_at hl 1 rfl) ?_
  refine va_get (D := D) (ci := 6) (v := .int (nI (n + 1 + 1 + 1))) (C := RX6) (T := TX6) (N := 5) hx hb hts hin6 hown hK hP ktp e_37 rfl 0 (by decide) (hts (.fieldLink RX6 15 "HoneyHouse$Tape" "length" "I") (List.mem_of_getElem? (i := 1) rfl)) (fun _ h9 => h9) rfl dX6_append_15 ?_
  refine lv_aload_n hx hb dX6_append_18 rfl (lv_at hl 1 rfl) ?_
  refine va_get (D := D) (ci := 6) (v := .ref bb) (C := RX6) (T := TX6) (N := 5) hx hb hts hin6 hown hK hP ktp e_37 rfl 4 (by decide) (hts (.fieldLink RX6 9 "HoneyHouse$Tape" "bytes" "[I") (List.mem_of_getElem? (i := 2) rfl)) (fun _ h9 => h9) rfl dX6_append_19 ?_
  refine va_alen (v := 400) hx hb hK hP kbb tbb e_38 ubb rfl dX6_append_22 ?_
  refine lv_icmp_ge (tgt := 52) hx hb dX6_append_23 (by decide) (fun c_42 => absurd c_42 (show ¬ (400 : Int32) ≤ nI (n + 1 + 1 + 1) from nI_ge (a := (n + 1 + 1 + 1)) (b := 400) (by omega) (by omega))) (fun c_42 => ?_)
  refine lv_aload_n hx hb dX6_append_26 rfl (lv_at hl 1 rfl) ?_
  refine va_get (D := D) (ci := 6) (v := .ref bb) (C := RX6) (T := TX6) (N := 5) hx hb hts hin6 hown hK hP ktp e_37 rfl 4 (by decide) (hts (.fieldLink RX6 9 "HoneyHouse$Tape" "bytes" "[I") (List.mem_of_getElem? (i := 2) rfl)) (fun _ h9 => h9) rfl dX6_append_27 ?_
  refine lv_aload_n hx hb dX6_append_30 rfl (lv_at hl 1 rfl) ?_
  refine va_get (D := D) (ci := 6) (v := .int (nI (n + 1 + 1 + 1))) (C := RX6) (T := TX6) (N := 5) hx hb hts hin6 hown hK hP ktp e_37 rfl 0 (by decide) (hts (.fieldLink RX6 15 "HoneyHouse$Tape" "length" "I") (List.mem_of_getElem? (i := 1) rfl)) (fun _ h9 => h9) rfl dX6_append_31 ?_
  refine lv_iload_n hx hb dX6_append_34 rfl (lv_at hl 2 rfl) ?_
  refine lv_iload_n hx hb dX6_append_35 rfl (lv_at hl 0 rfl) ?_
  refine lv_ishr hx hb dX6_append_36 ?_
  refine lv_sipush (v := 255) hx hb dX6_append_37 (by decide) ?_
  refine lv_iand hx hb dX6_append_40 ?_
  refine va_iast (f := f_39) (n := 400) hx hb hK hP hD hS kbb tbb e_38 ubb (vp_in_nI (by omega) (by omega)) dX6_append_41 (fun H locs hP hD hS => ?_)
  have hm_44 : sm ρ [] ws_35 (ws_35.set kbb (bb, .inl (cbb, 400, .inl (upd f_39 (nI (n + 1 + 1 + 1)).toNatClampNeg ((a1 >>> (0 &&& 31)) &&& 255))))) := sm.ints e_38 w_kbb
  have e_45 : (ws_35.set kbb (bb, .inl (cbb, 400, .inl (upd f_39 (nI (n + 1 + 1 + 1)).toNatClampNeg ((a1 >>> (0 &&& 31)) &&& 255)))))[kbb]? = some (bb, .inl (cbb, 400, .inl (upd f_39 (nI (n + 1 + 1 + 1)).toNatClampNeg ((a1 >>> (0 &&& 31)) &&& 255)))) := wset_self e_38
  generalize ws_35.set kbb (bb, .inl (cbb, 400, .inl (upd f_39 (nI (n + 1 + 1 + 1)).toNatClampNeg ((a1 >>> (0 &&& 31)) &&& 255)))) = ws_43 at hP hD hm_44 e_45
  have e_46 := hm_44.objK e_37 (by decide)
  have hsm := hsm.tr (hm_44.mono (fun _ h9 => absurd h9 List.not_mem_nil))
  generalize upd f_39 (nI (n + 1 + 1 + 1)).toNatClampNeg ((a1 >>> (0 &&& 31)) &&& 255) = f_47 at e_45
  refine lv_aload_n hx hb dX6_append_42 rfl (lv_at hl 1 rfl) ?_
  refine lv_dup hx hb dX6_append_43 rfl ?_
  refine va_get (D := D) (ci := 6) (v := .int (nI (n + 1 + 1 + 1))) (C := RX6) (T := TX6) (N := 5) hx hb hts hin6 hown hK hP ktp e_46 rfl 0 (by decide) (hts (.fieldLink RX6 15 "HoneyHouse$Tape" "length" "I") (List.mem_of_getElem? (i := 1) rfl)) (fun _ h9 => h9) rfl dX6_append_44 ?_
  refine lv_iconst (v := 1) hx hb dX6_append_47 (by decide) ?_
  refine lv_iadd hx hb dX6_append_48 ?_
  refine tp_i (y := nI (n + 1 + 1 + 1 + 1)) (nI_1 _) ?_
  refine va_put (D := D) (ci := 6) (v := .int (nI (n + 1 + 1 + 1 + 1))) (ty := .int) (C := RX6) (T := TX6) (N := 5) hx hb hts hin6 tyX6 tyX6_ok nmX6 hown hK hP hD hS ktp e_46 rfl 0 (by decide) (hts (.fieldLink RX6 15 "HoneyHouse$Tape" "length" "I") (List.mem_of_getElem? (i := 1) rfl)) (fun _ h9 => h9) rfl (tyX6_ok 0 (by decide)) rfl rfl (Nat.le_of_ble_eq_true rfl) dX6_append_49 (fun H locs hP hD hS => ?_)
  have hP : va_P D vwCl (ws_43.set ktp (tp, .inr (6, [.int (nI (n + 1 + 1 + 1 + 1)), .int tk, .int ts, .int te, .ref bb]))) H := hP
  have hD : va_D A (ws_43.set ktp (tp, .inr (6, [.int (nI (n + 1 + 1 + 1 + 1)), .int tk, .int ts, .int te, .ref bb]))) := hD
  have hm_49 : sm ρ [6] ws_43 (ws_43.set ktp (tp, .inr (6, [.int (nI (n + 1 + 1 + 1 + 1)), .int tk, .int ts, .int te, .ref bb]))) := sm.flds e_46 (smF.c (smV.i _ _) (smF.c (smV.rf _) (smF.c (smV.rf _) (smF.c (smV.rf _) (smF.c (smV.rf _) (rfl)))))) (List.mem_singleton.mpr rfl) w_ktp
  have e_50 : (ws_43.set ktp (tp, .inr (6, [.int (nI (n + 1 + 1 + 1 + 1)), .int tk, .int ts, .int te, .ref bb])))[ktp]? = some (tp, .inr (6, [.int (nI (n + 1 + 1 + 1 + 1)), .int tk, .int ts, .int te, .ref bb])) := wset_self e_46
  generalize ws_43.set ktp (tp, .inr (6, [.int (nI (n + 1 + 1 + 1 + 1)), .int tk, .int ts, .int te, .ref bb])) = ws_48 at hP hD hm_49 e_50
  obtain ⟨f_52, e_51⟩ := hm_49.arrI e_45
  have hsm := hsm.tr (hm_49.mono (by decide))
  refine lv_iinc (v := (-8)) (lv' := [(2, .int (-8)), (0, .ref tp), (1, .int a1)]) hx hb dX6_append_52 hl (k := 0) rfl (by decide) (by decide) rfl (fun ls hl => ?_)
  refine lv_goto (tgt := 3) hx hb dX6_append_55 (by decide) ?_
  refine lv_iload_n hx hb dX6_append_3 rfl (lv_at hl 0 rfl) ?_
  refine lv_if_lt (tgt := 58) hx hb dX6_append_4 (by decide) (fun c_53 => ?_) (fun c_53 => absurd (by decide) c_53)
  exact W.vret hx hb hr (fun t ht hW => ⟨⟨(), rfl, trivial, ws_48, tys, hsm, htx, by rw [ht]; exact hP, va_K.moved hW.alike hK, hD, e_50⟩, hS.F ht⟩) hS.2.2 dX6_append_58
theorem xi_tl {ρ : Nat → Nat} {fv : Nat → Nat → Int32} {ws : va_W} {tys : List (ClassId × FieldType)} {h0 lc bc rc fc tl tl' : Nat} {d : Int32} (h : XI ρ fv ws tys h0 lc bc rc fc d tl) (e : tl = tl') : XI ρ fv ws tys h0 lc bc rc fc d tl' := e ▸ h
theorem n_lt380 {n : Nat} (h : n ≤ 400) (c : ¬ nI n ≤ 380) : 380 < n := by
  rcases Nat.lt_or_ge 380 n with q | q
  · exact q
  · exact absurd (show nI n ≤ nI 380 from nI_le q (by omega)) c
theorem n_ge380 {n : Nat} (h : n ≤ 400) (c : nI n ≤ 380) : ¬ 380 < n := by
  intro q
  exact absurd (show nI n ≤ nI 380 from c) (nI_ge (a := 380) (b := n) q (by omega))
set_option maxHeartbeats 4000000 in
set_option maxRecDepth 100000 in
theorem h_feed (l : Launch) (D : va_G) (ρ : Nat → Nat) (ws : va_W) (tys : List (ClassId × FieldType)) (fv : Nat → Nat → Int32) (h0 lc bc rc fc : Nat) (dn : Int32) (tl : Nat) (a1 a2 a3 a4 a5 : Int32) (sz : Nat) (X : XI ρ fv ws tys h0 lc bc rc fc dn tl) : Met l yX8_feed wsX8_feed ({ frames := 1, cells := 0, slots := 0, locals := 22 }) (va_Pc [.ref h0, .int a1, .int a2, .int a3, .int a4, .int a5] (fun U => U.heap.size = sz ∧ va_P D vwCl ws U.heap ∧ va_K D vwCl tys U ∧ va_D (fun _ => True) ws)) (va_Qi (fun (r : Int32) (_ : Unit) => r = if 380 < tl then (-1) else nI (tl + 20)) (fun (_ : Unit) (t : State) => ∃ (ws' : va_W) (tys' : List (ClassId × FieldType)), sm ρ [6] ws ws' ∧ tyx tys tys' ∧ va_P D vwCl ws' t.heap ∧ va_K D vwCl tys' t ∧ va_D (va_A ws sz) ws' ∧ (XI ρ fv ws' tys' h0 lc bc rc fc dn (if 380 < tl then tl else tl + 20))) (va_A ws sz)) 0 0 (va_A ws sz) := by
  refine Met.ofW (cc := cX8_feed) (maxL := 7) (ret := (some .int)) (by decide) rfl ?_
  intro p e s m args below meth c s₁ B hml hv
  obtain ⟨rfl, hsz, hP, hK, hD0⟩ := hv
  have hx := B.exec
  have hb := B.bytes
  have hr := B.returns
  have hts := atoms_spec (ws := wsX8_feed) B.pre
  have hown : s.vm.findClass RX8 = some m.cls := findClass_of_methodNamed B.named
  have hlocks := B.notSynchronized
  subst hsz
  have hD := hD0.self (sz := s.heap.size)
  generalize hAe : va_A ws s.heap.size = A at hD ⊢
  have hA : ∀ q : Nat, s.heap.size ≤ q → A q := fun q h => by rw [← hAe]; exact Or.inr h
  have hS : va_S A s.heap s.heap [] := va_S.rf
  have hsm : sm ρ [6] ws ws := sm.rf ws
  have htx : tyx tys tys := tyx.rf tys
  have hin4 : ∀ w ∈ u_ws RX4 TX4 8, w ∈ wsX8_feed := (fun _ h9 => List.mem_cons_of_mem _ (List.mem_append_left _ ((List.mem_append_right _ h9))))
  have hin6 : ∀ w ∈ u_ws RX6 TX6 5, w ∈ wsX8_feed := (fun _ h9 => List.mem_cons_of_mem _ ((List.mem_append_right _ h9)))
  have hin8 : ∀ w ∈ u_ws RX8 TX8 15, w ∈ wsX8_feed := (fun _ h9 => List.mem_cons_of_mem _ (List.mem_append_left _ (List.mem_append_left _ ((List.mem_append_right _ h9)))))
  have hl := lv_entry ([.ref h0, .int a1, .int a2, .int a3, .int a4, .int a5]) (n := 7) (Nat.le_of_ble_eq_true rfl)
  rw [lg_entry_eq]
  generalize (lg_sl ([.ref h0, .int a1, .int a2, .int a3, .int a4, .int a5]) ++ List.replicate (7 - (lg_sl ([.ref h0, .int a1, .int a2, .int a3, .int a4, .int a5])).length) Slot.unset).toArray = ls at hl ⊢
  have hl : lv_has ls 7 [(0, .ref h0), (1, .int a1), (2, .int a2), (3, .int a3), (4, .int a4), (5, .int a5)] := hl
  obtain ⟨k0, la, ta, ba, ra, sn, rd, dr, bl, vd, fb, e0, w0, hle0, hnum, qla, qta, qba, qra, qsn, qrd, qdr, qbl, qvd, qfb⟩ := id X
  obtain ⟨krd, tp, cd, ktp, bb, r1, r2, r3, r4, r6, r7, y1, y2, y3, erd, wrd, ⟨kcd, ccd, tcd, fcd, ecd, ucd, wcd⟩, etp, wtp, ⟨kbb, cbb, tbb, fbb, ebb, ubb, wbb⟩⟩ := id qrd
  refine lv_aload_n hx hb dX8_feed_0 rfl (lv_at hl 0 rfl) ?_
  refine va_get (D := D) (ci := 8) (v := .ref rd) (C := RX8) (T := TX8) (N := 15) hx hb hts hin8 hown hK hP k0 e0 rfl 5 (by decide) (hts (.fieldLink RX8 40 "HoneyHouse" "reader" "LHoneyHouse$RuleReader;") (List.mem_of_getElem? (i := 1) rfl)) (fun _ h9 => h9) rfl dX8_feed_1 ?_
  refine va_get (D := D) (ci := 4) (v := .ref tp) (C := RX4) (T := TX4) (N := 8) hx hb hts hin4 hown hK hP krd erd rfl 0 (by decide) (hts (.fieldLink RX8 68 "HoneyHouse$RuleReader" "tape" "LHoneyHouse$Tape;") (List.mem_of_getElem? (i := 2) rfl)) (fun _ h9 => h9) rfl dX8_feed_4 ?_
  refine lv_astore (lv' := [(6, .ref tp), (0, .ref h0), (1, .int a1), (2, .int a2), (3, .int a3), (4, .int a4), (5, .int a5)]) hx hb dX8_feed_7 hl (by decide) rfl (fun ls hl => ?_)
  refine lv_aload hx hb dX8_feed_9 (lv_at hl 0 rfl) ?_
  refine va_get (D := D) (ci := 6) (v := .int (nI tl)) (C := RX6) (T := TX6) (N := 5) hx hb hts hin6 hown hK hP ktp etp rfl 0 (by decide) (hts (.fieldLink RX8 72 "HoneyHouse$Tape" "length" "I") (List.mem_of_getElem? (i := 3) rfl)) (fun _ h9 => h9) rfl dX8_feed_11 ?_
  refine lv_sipush (v := 380) hx hb dX8_feed_14 (by decide) ?_
  refine lv_icmp_le (tgt := 22) hx hb dX8_feed_17 (by decide) (fun c_1 => ?_) (fun c_1 => ?_)
  · have h20 := n_ge380 hnum.2.2.2.2 c_1
    have h40 : tl + 20 ≤ 400 := by omega
    refine lv_aload hx hb dX8_feed_22 (lv_at hl 0 rfl) ?_
    refine lv_iload_n hx hb dX8_feed_24 rfl (lv_at hl 2 rfl) ?_
    have hFc := free_all hD hS hA
    refine va_callv (va_runV (As := [.int a1]) (rest := []) ⟨hx, hb, hml, hown, hts⟩ (a_append l D ρ ws tys tp ktp tl y1 y2 y3 bb kbb cbb tbb fbb a1 s.heap.size (by omega) etp ebb ubb wbb wtp) (cwV 1 hts gX8_feed_X6_append rfl rfl rfl (by decide +kernel) ⟨Nat.le_of_ble_eq_true rfl, Nat.le_of_ble_eq_true rfl⟩) ⟨fun a U g mk q => by obtain ⟨q0, q1, qP, qK, qD⟩ := q; exact ⟨q0, q1, qP, va_K.moved (u := U) (U := U.calling g mk a) (Vm.Alike.refl U.vm) qK, qD⟩, va_recv hK hP (ci := 6) (q0 := ktp) rfl etp, fun U hU hW => ⟨rfl, by rw [hU], by rw [hU]; exact hP, va_K.moved hW.alike hK, hD.weaken (fun _ _ _ _ => trivial)⟩⟩ rfl rfl hl.1 rfl (lv_room (Nat.le_of_ble_eq_true rfl)) dX8_feed_25 ⟨Nat.le_of_ble_eq_true rfl, Nat.le_of_ble_eq_true rfl⟩) hS (fun q _ h => hFc q h) hFc (fun u t H1 locs ht hvm w_3 hB hz1 hk1 hS => ?_)
    obtain ⟨ws_4, ty_5, hm_6, ht_8, hP1, hK1, hD1, hx_7⟩ := hB
    rw [ht] at hP1
    have hK := va_K.moved hvm.symm hK1
    have hD := hD1.weaken (fun _ _ _ h => hFc _ h)
    generalize H1 = H at hP1 hS ⊢
    have hP := hP1
    have e_9 := hm_6.objK e0 (by decide)
    have e_10 := hm_6.objK erd (by decide)
    obtain ⟨f_12, e_11⟩ := hm_6.arrI ecd
    have u_13 := ht_8 _ _ ucd
    obtain ⟨g_15, e_14, h_16⟩ := hm_6.obj etp
    obtain ⟨z_17, z_18, z_19, z_20, rfl⟩ := smX6 h_16
    obtain ⟨f_22, e_21⟩ := hm_6.arrI ebb
    have u_23 := ht_8 _ _ ubb
    have hsm := hsm.tr (hm_6.mono (by decide))
    have htx := htx.tr ht_8
    refine lv_aload hx hb dX8_feed_28 (lv_at hl 0 rfl) ?_
    refine lv_iload_n hx hb dX8_feed_30 rfl (lv_at hl 3 rfl) ?_
    have hFc := free_all hD hS hA
    refine va_callv (va_runV (As := [.int a2]) (rest := []) ⟨hx, hb, hml, hown, hts⟩ (a_append l D ρ ws_4 ty_5 tp ktp (tl + 4) y1 y2 y3 bb kbb cbb tbb f_22 a2 H.size (by omega) hx_7 e_21 u_23 wbb wtp) (cwV 1 hts gX8_feed_X6_append rfl rfl rfl (by decide +kernel) ⟨Nat.le_of_ble_eq_true rfl, Nat.le_of_ble_eq_true rfl⟩) ⟨fun a U g mk q => by obtain ⟨q0, q1, qP, qK, qD⟩ := q; exact ⟨q0, q1, qP, va_K.moved (u := U) (U := U.calling g mk a) (Vm.Alike.refl U.vm) qK, qD⟩, va_recv hK hP (ci := 6) (q0 := ktp) rfl hx_7, fun U hU hW => ⟨rfl, by rw [hU], by rw [hU]; exact hP, va_K.moved hW.alike hK, hD.weaken (fun _ _ _ _ => trivial)⟩⟩ rfl rfl hl.1 rfl (lv_room (Nat.le_of_ble_eq_true rfl)) dX8_feed_31 ⟨Nat.le_of_ble_eq_true rfl, Nat.le_of_ble_eq_true rfl⟩) hS (fun q _ h => hFc q h) hFc (fun u t H1 locs ht hvm w_25 hB hz1 hk1 hS => ?_)
    obtain ⟨ws_26, ty_27, hm_28, ht_30, hP1, hK1, hD1, hx_29⟩ := hB
    rw [ht] at hP1
    have hK := va_K.moved hvm.symm hK1
    have hD := hD1.weaken (fun _ _ _ h => hFc _ h)
    generalize H1 = H at hP1 hS ⊢
    have hP := hP1
    have e_31 := hm_28.objK e_9 (by decide)
    have e_32 := hm_28.objK e_10 (by decide)
    obtain ⟨f_34, e_33⟩ := hm_28.arrI e_11
    have u_35 := ht_30 _ _ u_13
    obtain ⟨g_37, e_36, h_38⟩ := hm_28.obj hx_7
    obtain ⟨z_39, z_40, z_41, z_42, rfl⟩ := smX6 h_38
    obtain ⟨f_44, e_43⟩ := hm_28.arrI e_21
    have u_45 := ht_30 _ _ u_23
    have hsm := hsm.tr (hm_28.mono (by decide))
    have htx := htx.tr ht_30
    refine lv_aload hx hb dX8_feed_34 (lv_at hl 0 rfl) ?_
    refine lv_iload_n hx hb dX8_feed_36 rfl (lv_at hl 4 rfl) ?_
    have hFc := free_all hD hS hA
    refine va_callv (va_runV (As := [.int a3]) (rest := []) ⟨hx, hb, hml, hown, hts⟩ (a_append l D ρ ws_26 ty_27 tp ktp (tl + 8) y1 y2 y3 bb kbb cbb tbb f_44 a3 H.size (by omega) hx_29 e_43 u_45 wbb wtp) (cwV 1 hts gX8_feed_X6_append rfl rfl rfl (by decide +kernel) ⟨Nat.le_of_ble_eq_true rfl, Nat.le_of_ble_eq_true rfl⟩) ⟨fun a U g mk q => by obtain ⟨q0, q1, qP, qK, qD⟩ := q; exact ⟨q0, q1, qP, va_K.moved (u := U) (U := U.calling g mk a) (Vm.Alike.refl U.vm) qK, qD⟩, va_recv hK hP (ci := 6) (q0 := ktp) rfl hx_29, fun U hU hW => ⟨rfl, by rw [hU], by rw [hU]; exact hP, va_K.moved hW.alike hK, hD.weaken (fun _ _ _ _ => trivial)⟩⟩ rfl rfl hl.1 rfl (lv_room (Nat.le_of_ble_eq_true rfl)) dX8_feed_37 ⟨Nat.le_of_ble_eq_true rfl, Nat.le_of_ble_eq_true rfl⟩) hS (fun q _ h => hFc q h) hFc (fun u t H1 locs ht hvm w_47 hB hz1 hk1 hS => ?_)
    obtain ⟨ws_48, ty_49, hm_50, ht_52, hP1, hK1, hD1, hx_51⟩ := hB
    rw [ht] at hP1
    have hK := va_K.moved hvm.symm hK1
    have hD := hD1.weaken (fun _ _ _ h => hFc _ h)
    generalize H1 = H at hP1 hS ⊢
    have hP := hP1
    have e_53 := hm_50.objK e_31 (by decide)
    have e_54 := hm_50.objK e_32 (by decide)
    obtain ⟨f_56, e_55⟩ := hm_50.arrI e_33
    have u_57 := ht_52 _ _ u_35
    obtain ⟨g_59, e_58, h_60⟩ := hm_50.obj hx_29
    obtain ⟨z_61, z_62, z_63, z_64, rfl⟩ := smX6 h_60
    obtain ⟨f_66, e_65⟩ := hm_50.arrI e_43
    have u_67 := ht_52 _ _ u_45
    have hsm := hsm.tr (hm_50.mono (by decide))
    have htx := htx.tr ht_52
    refine lv_aload hx hb dX8_feed_40 (lv_at hl 0 rfl) ?_
    refine lv_iload hx hb dX8_feed_42 (lv_at hl 5 rfl) ?_
    have hFc := free_all hD hS hA
    refine va_callv (va_runV (As := [.int a4]) (rest := []) ⟨hx, hb, hml, hown, hts⟩ (a_append l D ρ ws_48 ty_49 tp ktp (tl + 12) y1 y2 y3 bb kbb cbb tbb f_66 a4 H.size (by omega) hx_51 e_65 u_67 wbb wtp) (cwV 1 hts gX8_feed_X6_append rfl rfl rfl (by decide +kernel) ⟨Nat.le_of_ble_eq_true rfl, Nat.le_of_ble_eq_true rfl⟩) ⟨fun a U g mk q => by obtain ⟨q0, q1, qP, qK, qD⟩ := q; exact ⟨q0, q1, qP, va_K.moved (u := U) (U := U.calling g mk a) (Vm.Alike.refl U.vm) qK, qD⟩, va_recv hK hP (ci := 6) (q0 := ktp) rfl hx_51, fun U hU hW => ⟨rfl, by rw [hU], by rw [hU]; exact hP, va_K.moved hW.alike hK, hD.weaken (fun _ _ _ _ => trivial)⟩⟩ rfl rfl hl.1 rfl (lv_room (Nat.le_of_ble_eq_true rfl)) dX8_feed_44 ⟨Nat.le_of_ble_eq_true rfl, Nat.le_of_ble_eq_true rfl⟩) hS (fun q _ h => hFc q h) hFc (fun u t H1 locs ht hvm w_69 hB hz1 hk1 hS => ?_)
    obtain ⟨ws_70, ty_71, hm_72, ht_74, hP1, hK1, hD1, hx_73⟩ := hB
    rw [ht] at hP1
    have hK := va_K.moved hvm.symm hK1
    have hD := hD1.weaken (fun _ _ _ h => hFc _ h)
    generalize H1 = H at hP1 hS ⊢
    have hP := hP1
    have e_75 := hm_72.objK e_53 (by decide)
    have e_76 := hm_72.objK e_54 (by decide)
    obtain ⟨f_78, e_77⟩ := hm_72.arrI e_55
    have u_79 := ht_74 _ _ u_57
    obtain ⟨g_81, e_80, h_82⟩ := hm_72.obj hx_51
    obtain ⟨z_83, z_84, z_85, z_86, rfl⟩ := smX6 h_82
    obtain ⟨f_88, e_87⟩ := hm_72.arrI e_65
    have u_89 := ht_74 _ _ u_67
    have hsm := hsm.tr (hm_72.mono (by decide))
    have htx := htx.tr ht_74
    refine lv_aload hx hb dX8_feed_47 (lv_at hl 0 rfl) ?_
    refine lv_iload hx hb dX8_feed_49 (lv_at hl 6 rfl) ?_
    have hFc := free_all hD hS hA
    refine va_callv (va_runV (As := [.int a5]) (rest := []) ⟨hx, hb, hml, hown, hts⟩ (a_append l D ρ ws_70 ty_71 tp ktp (tl + 16) y1 y2 y3 bb kbb cbb tbb f_88 a5 H.size (by omega) hx_73 e_87 u_89 wbb wtp) (cwV 1 hts gX8_feed_X6_append rfl rfl rfl (by decide +kernel) ⟨Nat.le_of_ble_eq_true rfl, Nat.le_of_ble_eq_true rfl⟩) ⟨fun a U g mk q => by obtain ⟨q0, q1, qP, qK, qD⟩ := q; exact ⟨q0, q1, qP, va_K.moved (u := U) (U := U.calling g mk a) (Vm.Alike.refl U.vm) qK, qD⟩, va_recv hK hP (ci := 6) (q0 := ktp) rfl hx_73, fun U hU hW => ⟨rfl, by rw [hU], by rw [hU]; exact hP, va_K.moved hW.alike hK, hD.weaken (fun _ _ _ _ => trivial)⟩⟩ rfl rfl hl.1 rfl (lv_room (Nat.le_of_ble_eq_true rfl)) dX8_feed_51 ⟨Nat.le_of_ble_eq_true rfl, Nat.le_of_ble_eq_true rfl⟩) hS (fun q _ h => hFc q h) hFc (fun u t H1 locs ht hvm w_91 hB hz1 hk1 hS => ?_)
    obtain ⟨ws_92, ty_93, hm_94, ht_96, hP1, hK1, hD1, hx_95⟩ := hB
    rw [ht] at hP1
    have hK := va_K.moved hvm.symm hK1
    have hD := hD1.weaken (fun _ _ _ h => hFc _ h)
    generalize H1 = H at hP1 hS ⊢
    have hP := hP1
    have e_97 := hm_94.objK e_75 (by decide)
    have e_98 := hm_94.objK e_76 (by decide)
    obtain ⟨f_100, e_99⟩ := hm_94.arrI e_77
    have u_101 := ht_96 _ _ u_79
    obtain ⟨g_103, e_102, h_104⟩ := hm_94.obj hx_73
    obtain ⟨z_105, z_106, z_107, z_108, rfl⟩ := smX6 h_104
    obtain ⟨f_110, e_109⟩ := hm_94.arrI e_87
    have u_111 := ht_96 _ _ u_89
    have hsm := hsm.tr (hm_94.mono (by decide))
    have htx := htx.tr ht_96
    refine lv_aload hx hb dX8_feed_54 (lv_at hl 0 rfl) ?_
    refine va_get (D := D) (ci := 6) (v := .int (nI (tl + 20))) (C := RX6) (T := TX6) (N := 5) hx hb hts hin6 hown hK hP ktp hx_95 rfl 0 (by decide) (hts (.fieldLink RX8 72 "HoneyHouse$Tape" "length" "I") (List.mem_of_getElem? (i := 3) rfl)) (fun _ h9 => h9) rfl dX8_feed_56 ?_
    exact W.iret (v := nI (tl + 20)) hx hb hr (fun t ht hW => ⟨⟨nI (tl + 20), (), rfl, (by rw [if_neg (n_ge380 hnum.2.2.2.2 c_1)]), ws_92, ty_93, hsm, htx, by rw [ht]; exact hP, va_K.moved hW.alike hK, hD, (xi_tl (xi_mk e_97 w0 hle0 ⟨hnum.1, hnum.2.1, hnum.2.2.1, hnum.2.2.2.1, by have := n_ge380 hnum.2.2.2.2 c_1; omega⟩ qla qta qba qra qsn (⟨krd, tp, cd, ktp, bb, r1, r2, r3, r4, r6, r7, y1, y2, y3, e_98, wrd, ⟨kcd, ccd, tcd, f_100, e_99, u_101, wcd⟩, hx_95, wtp, ⟨kbb, cbb, tbb, f_110, e_109, u_111, wbb⟩⟩ : oW ρ ws_92 ty_93 rd (tl + 20)) qdr qbl qvd qfb hsm htx) (by rw [if_neg (n_ge380 hnum.2.2.2.2 c_1)]))⟩, hS.F ht⟩) hS.2.2 dX8_feed_59
  refine lv_iconst (v := (-1)) hx hb dX8_feed_20 (by decide) ?_
  exact W.iret (v := (-1)) hx hb hr (fun t ht hW => ⟨⟨(-1), (), rfl, (by rw [if_pos (n_lt380 hnum.2.2.2.2 c_1)]), ws, tys, hsm, htx, by rw [ht]; exact hP, va_K.moved hW.alike hK, hD, (xi_tl X (by rw [if_pos (n_lt380 hnum.2.2.2.2 c_1)]))⟩, hS.F ht⟩) hS.2.2 dX8_feed_21
