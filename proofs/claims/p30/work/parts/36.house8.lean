theorem dX8_shut_0 : decode cX8_shut 0 = .ok (.aload_n 0, 1) := by decide +kernel
theorem dX8_shut_1 : decode cX8_shut 1 = .ok (.iload_n 1, 1) := by decide +kernel
theorem dX8_shut_2 : decode cX8_shut 2 = .ok (.invokevirtual 219, 3) := by decide +kernel
theorem dX8_shut_5 : decode cX8_shut 5 = .ok (.astore_n 3, 1) := by decide +kernel
theorem dX8_shut_6 : decode cX8_shut 6 = .ok (.aload_n 3, 1) := by decide +kernel
theorem dX8_shut_7 : decode cX8_shut 7 = .ok (.ifnull 18, 3) := by decide +kernel
theorem dX8_shut_10 : decode cX8_shut 10 = .ok (.aload_n 3, 1) := by decide +kernel
theorem dX8_shut_11 : decode cX8_shut 11 = .ok (.getfield 223, 3) := by decide +kernel
theorem dX8_shut_14 : decode cX8_shut 14 = .ok (.ifCond .ne 11, 3) := by decide +kernel
theorem dX8_shut_17 : decode cX8_shut 17 = .ok (.iload_n 2, 1) := by decide +kernel
theorem dX8_shut_18 : decode cX8_shut 18 = .ok (.aload_n 3, 1) := by decide +kernel
theorem dX8_shut_19 : decode cX8_shut 19 = .ok (.getfield 227, 3) := by decide +kernel
theorem dX8_shut_22 : decode cX8_shut 22 = .ok (.if_icmp .ge 5, 3) := by decide +kernel
theorem dX8_shut_25 : decode cX8_shut 25 = .ok (.iconst 0, 1) := by decide +kernel
theorem dX8_shut_26 : decode cX8_shut 26 = .ok (.ireturn, 1) := by decide +kernel
theorem dX8_shut_27 : decode cX8_shut 27 = .ok (.aload_n 3, 1) := by decide +kernel
theorem dX8_shut_28 : decode cX8_shut 28 = .ok (.iconst 1, 1) := by decide +kernel
theorem dX8_shut_29 : decode cX8_shut 29 = .ok (.putfield 223, 3) := by decide +kernel
theorem dX8_shut_32 : decode cX8_shut 32 = .ok (.aload_n 3, 1) := by decide +kernel
theorem dX8_shut_33 : decode cX8_shut 33 = .ok (.iload_n 2, 1) := by decide +kernel
theorem dX8_shut_34 : decode cX8_shut 34 = .ok (.putfield 228, 3) := by decide +kernel
theorem dX8_shut_37 : decode cX8_shut 37 = .ok (.iconst 1, 1) := by decide +kernel
theorem dX8_shut_38 : decode cX8_shut 38 = .ok (.ireturn, 1) := by decide +kernel
theorem dX8_parts_0 : decode cX8_parts 0 = .ok (.aload_n 0, 1) := by decide +kernel
theorem dX8_parts_1 : decode cX8_parts 1 = .ok (.iload_n 1, 1) := by decide +kernel
theorem dX8_parts_2 : decode cX8_parts 2 = .ok (.invokevirtual 139, 3) := by decide +kernel
theorem dX8_parts_5 : decode cX8_parts 5 = .ok (.ifnull 13, 3) := by decide +kernel
theorem dX8_parts_8 : decode cX8_parts 8 = .ok (.aload_n 0, 1) := by decide +kernel
theorem dX8_parts_9 : decode cX8_parts 9 = .ok (.getfield 54, 3) := by decide +kernel
theorem dX8_parts_12 : decode cX8_parts 12 = .ok (.getfield 266, 3) := by decide +kernel
theorem dX8_parts_15 : decode cX8_parts 15 = .ok (.ifCond .ne 5, 3) := by decide +kernel
theorem dX8_parts_18 : decode cX8_parts 18 = .ok (.iconst (-1), 1) := by decide +kernel
theorem dX8_parts_19 : decode cX8_parts 19 = .ok (.ireturn, 1) := by decide +kernel
theorem dX8_parts_20 : decode cX8_parts 20 = .ok (.aload_n 0, 1) := by decide +kernel
theorem dX8_parts_21 : decode cX8_parts 21 = .ok (.getfield 54, 3) := by decide +kernel
theorem dX8_parts_24 : decode cX8_parts 24 = .ok (.getfield 269, 3) := by decide +kernel
theorem dX8_parts_27 : decode cX8_parts 27 = .ok (.iload_n 1, 1) := by decide +kernel
theorem dX8_parts_28 : decode cX8_parts 28 = .ok (.iaload, 1) := by decide +kernel
theorem dX8_parts_29 : decode cX8_parts 29 = .ok (.ireturn, 1) := by decide +kernel
set_option maxRecDepth 20000 in
theorem ggX8_shut_X8_ruleAt : GoodIn wsX8_shut wsX8_ruleAt := goodIn_r _ [8, 9, 10, 11, 7, 12, 18, 19, 20, 21, 22, 23, 24, 25, 26, 27, 28, 29, 30, 31, 32] rfl (by decide +kernel)
set_option maxRecDepth 20000 in
theorem gX8_shut_X8_ruleAt : GoodIn wsX8_shut (wsV RX8 219 RX8 yX8_ruleAt wsX8_ruleAt) := goodIn_app (goodIn_of _ (by decide +kernel)) ggX8_shut_X8_ruleAt
set_option maxRecDepth 20000 in
theorem ggX8_parts_X8_tankAt : GoodIn wsX8_parts wsX8_tankAt := goodIn_r _ [8, 9, 10, 11, 7, 12, 13, 14, 15, 16, 17, 18, 19, 20, 21, 22, 23, 24, 25, 26, 27] rfl (by decide +kernel)
set_option maxRecDepth 20000 in
theorem gX8_parts_X8_tankAt : GoodIn wsX8_parts (wsV RX8 139 RX8 yX8_tankAt wsX8_tankAt) := goodIn_app (goodIn_of _ (by decide +kernel)) ggX8_parts_X8_tankAt
set_option maxHeartbeats 4000000 in
set_option maxRecDepth 100000 in
theorem h_shut (l : Launch) (D : va_G) (ρ : Nat → Nat) (ws : va_W) (tys : List (ClassId × FieldType)) (fv : Nat → Nat → Int32) (h0 lc bc rc fc : Nat) (dn : Int32) (tl : Nat) (a1 a2 : Int32) (sz : Nat) (X : XI ρ fv ws tys h0 lc bc rc fc dn tl) : Met l yX8_shut wsX8_shut ({ frames := 2, cells := 0, slots := 0, locals := 43 }) (va_Pc [.ref h0, .int a1, .int a2] (fun U => U.heap.size = sz ∧ va_P D vwCl ws U.heap ∧ va_K D vwCl tys U ∧ va_D (fun _ => True) ws)) (va_Qi (fun (r : Int32) (_ : Unit) => True) (fun (_ : Unit) (t : State) => ∃ (ws' : va_W) (tys' : List (ClassId × FieldType)), sm ρ [3] ws ws' ∧ tyx tys tys' ∧ va_P D vwCl ws' t.heap ∧ va_K D vwCl tys' t ∧ va_D (va_A ws sz) ws' ∧ (XI ρ fv ws' tys' h0 lc bc rc fc dn tl)) (va_A ws sz)) 0 0 (va_A ws sz) := by
  refine Met.ofW (cc := cX8_shut) (maxL := 4) (ret := (some .boolean)) (by decide) rfl ?_
  intro p e s m args below meth c s₁ B hml hv
  obtain ⟨rfl, hsz, hP, hK, hD0⟩ := hv
  have hx := B.exec
  have hb := B.bytes
  have hr := B.returns
  have hts := atoms_spec (ws := wsX8_shut) B.pre
  have hown : s.vm.findClass RX8 = some m.cls := findClass_of_methodNamed B.named
  have hlocks := B.notSynchronized
  subst hsz
  have hD := hD0.self (sz := s.heap.size)
  generalize hAe : va_A ws s.heap.size = A at hD ⊢
  have hA : ∀ q : Nat, s.heap.size ≤ q → A q := fun q h => by rw [← hAe]; exact Or.inr h
  have hS : va_S A s.heap s.heap [] := va_S.rf
  have hsm : sm ρ [3] ws ws := sm.rf ws
  have htx : tyx tys tys := tyx.rf tys
  have hin3 : ∀ w ∈ u_ws RX3 TX3 5, w ∈ wsX8_shut := (fun _ h9 => List.mem_cons_of_mem _ (List.mem_append_left _ ((List.mem_append_right _ h9))))
  have hl := lv_entry ([.ref h0, .int a1, .int a2]) (n := 4) (Nat.le_of_ble_eq_true rfl)
  rw [lg_entry_eq]
  generalize (lg_sl ([.ref h0, .int a1, .int a2]) ++ List.replicate (4 - (lg_sl ([.ref h0, .int a1, .int a2])).length) Slot.unset).toArray = ls at hl ⊢
  have hl : lv_has ls 4 [(0, .ref h0), (1, .int a1), (2, .int a2)] := hl
  obtain ⟨k0, la, ta, ba, ra, sn, rd, dr, bl, vd, fb, e0, w0, hle0, hnum, qla, qta, qba, qra, qsn, qrd, qdr, qbl, qvd, qfb⟩ := id X
  obtain ⟨kra, cra, tra, fra, era, ura, pra⟩ := id qra
  refine lv_aload_n hx hb dX8_shut_0 rfl (lv_at hl 0 rfl) ?_
  refine lv_iload_n hx hb dX8_shut_1 rfl (lv_at hl 1 rfl) ?_
  refine va_csq (W.runV (As := [.int a1]) (rest := []) ⟨hx, hb, hml, hown, hts⟩ (s_X8_ruleAt l D ws tys h0 k0 _ ra kra cra fra tra a1 e0 rfl era ura) (cwV 1 hts gX8_shut_X8_ruleAt rfl rfl rfl (by decide +kernel) ⟨Nat.le_of_ble_eq_true rfl, Nat.le_of_ble_eq_true rfl⟩) ⟨fun a U g mk q => ⟨q.1, q.2.1, va_K.moved (u := U) (U := U.calling g mk a) (Vm.Alike.refl U.vm) q.2.2⟩, va_recv hK hP (ci := 8) (q0 := k0) rfl e0, fun U hU hW => ⟨rfl, by rw [hU]; exact hP, va_K.moved hW.alike hK⟩⟩ rfl rfl hl.1 rfl (lv_room (Nat.le_of_ble_eq_true rfl)) dX8_shut_2 ⟨Nat.le_of_ble_eq_true rfl, Nat.le_of_ble_eq_true rfl⟩) (fun r_1 k_2 => ?_)
  have hz_5 : r_1 = none ∨ ∃ v, r_1 = some v ∧ oR ρ ws tys v := by
    rcases k_2 with ⟨q, -⟩ | ⟨-, -, q⟩
    · exact Or.inl q
    · rcases r_1 with _ | v
      · exact Or.inl rfl
      · exact Or.inr ⟨v, rfl, pra _ _ q.symm⟩
  rcases hz_5 with rfl | ⟨v_3, rfl, hv_4⟩
  · refine tp_v (y := .null) rfl ?_
    refine lv_astore_nN (lv' := [(3, .null), (0, .ref h0), (1, .int a1), (2, .int a2)]) hx hb dX8_shut_5 rfl hl (by decide) rfl (fun ls hl => ?_)
    refine lv_aload_nN hx hb dX8_shut_6 rfl (lv_at hl 0 rfl) ?_
    refine lv_ifnullN (tgt := 25) hx hb dX8_shut_7 (by decide) ?_
    refine lv_iconst (v := 0) hx hb dX8_shut_25 (by decide) ?_
    exact W.zret (v := 0) hx hb hr rfl (fun t ht hW => ⟨⟨0, (), rfl, trivial, ws, tys, hsm, htx, by rw [ht]; exact hP, va_K.moved hW.alike hK, hD, X.sm hsm htx (by decide) (by decide)⟩, hS.F ht⟩) hS.2.2 dX8_shut_26
  obtain ⟨k_7, g_8, n_9, x_10, x_11, x_12, x_13, e_14, w_23, ⟨k_15, c9_16, t_17, f_18, e_19, u_20, w_21⟩, hn_22⟩ := hv_4.sm hsm htx
  refine tp_v (y := .ref v_3) rfl ?_
  refine lv_astore_n (lv' := [(3, .ref v_3), (0, .ref h0), (1, .int a1), (2, .int a2)]) hx hb dX8_shut_5 rfl hl (by decide) rfl (fun ls hl => ?_)
  refine lv_aload_n hx hb dX8_shut_6 rfl (lv_at hl 0 rfl) ?_
  refine lv_ifnull hx hb dX8_shut_7 ?_
  refine lv_aload_n hx hb dX8_shut_10 rfl (lv_at hl 0 rfl) ?_
  refine va_get (D := D) (ci := 3) (v := .int x_12) (C := RX3) (T := TX3) (N := 5) hx hb hts hin3 hown hK hP k_7 e_14 rfl 3 (by decide) (hts (.fieldLink RX8 223 "HoneyHouse$Rule" "isShut" "Z") (List.mem_of_getElem? (i := 1) rfl)) (fun _ h9 => h9) rfl dX8_shut_11 ?_
  refine lv_if_ne (tgt := 25) hx hb dX8_shut_14 (by decide) (fun c_24 => ?_) (fun c_24 => ?_)
  · refine lv_iconst (v := 0) hx hb dX8_shut_25 (by decide) ?_
    exact W.zret (v := 0) hx hb hr rfl (fun t ht hW => ⟨⟨0, (), rfl, trivial, ws, tys, hsm, htx, by rw [ht]; exact hP, va_K.moved hW.alike hK, hD, X.sm hsm htx (by decide) (by decide)⟩, hS.F ht⟩) hS.2.2 dX8_shut_26
  refine lv_iload_n hx hb dX8_shut_17 rfl (lv_at hl 3 rfl) ?_
  refine lv_aload_n hx hb dX8_shut_18 rfl (lv_at hl 0 rfl) ?_
  refine va_get (D := D) (ci := 3) (v := .int x_11) (C := RX3) (T := TX3) (N := 5) hx hb hts hin3 hown hK hP k_7 e_14 rfl 1 (by decide) (hts (.fieldLink RX8 227 "HoneyHouse$Rule" "from" "I") (List.mem_of_getElem? (i := 2) rfl)) (fun _ h9 => h9) rfl dX8_shut_19 ?_
  refine lv_icmp_ge (tgt := 27) hx hb dX8_shut_22 (by decide) (fun c_25 => ?_) (fun c_25 => ?_)
  · refine lv_aload_n hx hb dX8_shut_27 rfl (lv_at hl 0 rfl) ?_
    refine lv_iconst (v := 1) hx hb dX8_shut_28 (by decide) ?_
    refine va_put (D := D) (ci := 3) (v := .int 1) (ty := .boolean) (C := RX3) (T := TX3) (N := 5) hx hb hts hin3 tyX3 tyX3_ok nmX3 hown hK hP hD hS k_7 e_14 rfl 3 (by decide) (hts (.fieldLink RX8 223 "HoneyHouse$Rule" "isShut" "Z") (List.mem_of_getElem? (i := 1) rfl)) (fun _ h9 => h9) rfl (tyX3_ok 3 (by decide)) rfl rfl (Nat.le_of_ble_eq_true rfl) dX8_shut_29 (fun H locs hP hD hS => ?_)
    have hP : va_P D vwCl (ws.set k_7 (v_3, .inr (3, [.long x_10, .int x_11, .ref g_8, .int 1, .int x_13]))) H := hP
    have hD : va_D A (ws.set k_7 (v_3, .inr (3, [.long x_10, .int x_11, .ref g_8, .int 1, .int x_13]))) := hD
    have hm_27 : sm ρ [3] ws (ws.set k_7 (v_3, .inr (3, [.long x_10, .int x_11, .ref g_8, .int 1, .int x_13]))) := sm.flds e_14 (smF.c (smV.rf _) (smF.c (smV.rf _) (smF.c (smV.rf _) (smF.c (smV.i _ _) (smF.c (smV.rf _) (rfl)))))) (List.mem_singleton.mpr rfl) w_23
    have e_28 : (ws.set k_7 (v_3, .inr (3, [.long x_10, .int x_11, .ref g_8, .int 1, .int x_13])))[k_7]? = some (v_3, .inr (3, [.long x_10, .int x_11, .ref g_8, .int 1, .int x_13])) := wset_self e_14
    generalize ws.set k_7 (v_3, .inr (3, [.long x_10, .int x_11, .ref g_8, .int 1, .int x_13])) = ws_26 at hP hD hm_27 e_28
    have e_29 := hm_27.objK e0 (by decide)
    have e_30 := hm_27.arrQ era
    obtain ⟨f_32, e_31⟩ := hm_27.arrI e_19
    have hsm := hsm.tr (hm_27.mono (by decide))
    refine lv_aload_n hx hb dX8_shut_32 rfl (lv_at hl 0 rfl) ?_
    refine lv_iload_n hx hb dX8_shut_33 rfl (lv_at hl 3 rfl) ?_
    refine va_put (D := D) (ci := 3) (v := .int a2) (ty := .int) (C := RX3) (T := TX3) (N := 5) hx hb hts hin3 tyX3 tyX3_ok nmX3 hown hK hP hD hS k_7 e_28 rfl 4 (by decide) (hts (.fieldLink RX8 228 "HoneyHouse$Rule" "shutDay" "I") (List.mem_of_getElem? (i := 3) rfl)) (fun _ h9 => h9) rfl (tyX3_ok 4 (by decide)) rfl rfl (Nat.le_of_ble_eq_true rfl) dX8_shut_34 (fun H locs hP hD hS => ?_)
    have hP : va_P D vwCl (ws_26.set k_7 (v_3, .inr (3, [.long x_10, .int x_11, .ref g_8, .int 1, .int a2]))) H := hP
    have hD : va_D A (ws_26.set k_7 (v_3, .inr (3, [.long x_10, .int x_11, .ref g_8, .int 1, .int a2]))) := hD
    have hm_34 : sm ρ [3] ws_26 (ws_26.set k_7 (v_3, .inr (3, [.long x_10, .int x_11, .ref g_8, .int 1, .int a2]))) := sm.flds e_28 (smF.c (smV.rf _) (smF.c (smV.rf _) (smF.c (smV.rf _) (smF.c (smV.rf _) (smF.c (smV.i _ _) (rfl)))))) (List.mem_singleton.mpr rfl) w_23
    have e_35 : (ws_26.set k_7 (v_3, .inr (3, [.long x_10, .int x_11, .ref g_8, .int 1, .int a2])))[k_7]? = some (v_3, .inr (3, [.long x_10, .int x_11, .ref g_8, .int 1, .int a2])) := wset_self e_28
    generalize ws_26.set k_7 (v_3, .inr (3, [.long x_10, .int x_11, .ref g_8, .int 1, .int a2])) = ws_33 at hP hD hm_34 e_35
    have e_36 := hm_34.objK e_29 (by decide)
    have e_37 := hm_34.arrQ e_30
    obtain ⟨f_39, e_38⟩ := hm_34.arrI e_31
    have hsm := hsm.tr (hm_34.mono (by decide))
    refine lv_iconst (v := 1) hx hb dX8_shut_37 (by decide) ?_
    exact W.zret (v := 1) hx hb hr rfl (fun t ht hW => ⟨⟨1, (), rfl, trivial, ws_33, tys, hsm, htx, by rw [ht]; exact hP, va_K.moved hW.alike hK, hD, X.sm hsm htx (by decide) (by decide)⟩, hS.F ht⟩) hS.2.2 dX8_shut_38
  refine lv_iconst (v := 0) hx hb dX8_shut_25 (by decide) ?_
  exact W.zret (v := 0) hx hb hr rfl (fun t ht hW => ⟨⟨0, (), rfl, trivial, ws, tys, hsm, htx, by rw [ht]; exact hP, va_K.moved hW.alike hK, hD, X.sm hsm htx (by decide) (by decide)⟩, hS.F ht⟩) hS.2.2 dX8_shut_26
set_option maxHeartbeats 4000000 in
set_option maxRecDepth 100000 in
theorem h_parts (l : Launch) (D : va_G) (ρ : Nat → Nat) (ws : va_W) (tys : List (ClassId × FieldType)) (fv : Nat → Nat → Int32) (h0 lc bc rc fc : Nat) (dn : Int32) (tl : Nat) (a1 : Int32) (sz : Nat) (X : XI ρ fv ws tys h0 lc bc rc fc dn tl) : Met l yX8_parts wsX8_parts ({ frames := 2, cells := 0, slots := 0, locals := 43 }) (va_Pc [.ref h0, .int a1] (fun U => U.heap.size = sz ∧ va_P D vwCl ws U.heap ∧ va_K D vwCl tys U ∧ va_D (fun _ => True) ws)) (va_Qi (fun (r : Int32) (_ : Unit) => True) (fun (_ : Unit) (t : State) => ∃ (ws' : va_W) (tys' : List (ClassId × FieldType)), sm ρ [] ws ws' ∧ tyx tys tys' ∧ va_P D vwCl ws' t.heap ∧ va_K D vwCl tys' t ∧ va_D (va_A ws sz) ws' ∧ (XI ρ fv ws' tys' h0 lc bc rc fc dn tl)) (va_A ws sz)) 0 0 (va_A ws sz) := by
  refine Met.ofW (cc := cX8_parts) (maxL := 2) (ret := (some .int)) (by decide) rfl ?_
  intro p e s m args below meth c s₁ B hml hv
  obtain ⟨rfl, hsz, hP, hK, hD0⟩ := hv
  have hx := B.exec
  have hb := B.bytes
  have hr := B.returns
  have hts := atoms_spec (ws := wsX8_parts) B.pre
  have hown : s.vm.findClass RX8 = some m.cls := findClass_of_methodNamed B.named
  have hlocks := B.notSynchronized
  subst hsz
  have hD := hD0.self (sz := s.heap.size)
  generalize hAe : va_A ws s.heap.size = A at hD ⊢
  have hA : ∀ q : Nat, s.heap.size ≤ q → A q := fun q h => by rw [← hAe]; exact Or.inr h
  have hS : va_S A s.heap s.heap [] := va_S.rf
  have hsm : sm ρ [] ws ws := sm.rf ws
  have htx : tyx tys tys := tyx.rf tys
  have hin0 : ∀ w ∈ u_ws RX0 TX0 14, w ∈ wsX8_parts := (fun _ h9 => List.mem_cons_of_mem _ ((List.mem_append_right _ h9)))
  have hin8 : ∀ w ∈ u_ws RX8 TX8 15, w ∈ wsX8_parts := (fun _ h9 => List.mem_cons_of_mem _ (List.mem_append_left _ ((List.mem_append_right _ h9))))
  have hl := lv_entry ([.ref h0, .int a1]) (n := 2) (Nat.le_of_ble_eq_true rfl)
  rw [lg_entry_eq]
  generalize (lg_sl ([.ref h0, .int a1]) ++ List.replicate (2 - (lg_sl ([.ref h0, .int a1])).length) Slot.unset).toArray = ls at hl ⊢
  have hl : lv_has ls 2 [(0, .ref h0), (1, .int a1)] := hl
  obtain ⟨k0, la, ta, ba, ra, sn, rd, dr, bl, vd, fb, e0, w0, hle0, hnum, qla, qta, qba, qra, qsn, qrd, qdr, qbl, qvd, qfb⟩ := id X
  obtain ⟨kta, cta, tta, fta, eta, uta, pta⟩ := id qta.q
  obtain ⟨kbl, b0, b2, b3, b4, b5, b6, b7, b1, b8, b9, b10, b11, b12, b13, ebl, wbl, ⟨kb0, cb0, tb0, fb0, eb0, ub0, wb0⟩, ⟨kb2, cb2, tb2, fb2, eb2, ub2, wb2⟩, ⟨kb3, cb3, tb3, fb3, eb3, ub3, wb3⟩, ⟨kb4, cb4, tb4, fb4, eb4, ub4, wb4⟩, ⟨kb5, cb5, tb5, fb5, eb5, ub5, wb5⟩, ⟨kb6, cb6, tb6, fb6, eb6, ub6, wb6⟩, ⟨kb7, cb7, tb7, fb7, eb7, ub7, wb7⟩⟩ := id qbl
  refine lv_aload_n hx hb dX8_parts_0 rfl (lv_at hl 0 rfl) ?_
  refine lv_iload_n hx hb dX8_parts_1 rfl (lv_at hl 1 rfl) ?_
  refine va_csq (W.runV (As := [.int a1]) (rest := []) ⟨hx, hb, hml, hown, hts⟩ (s_X8_tankAt l D ws tys h0 k0 _ ta kta cta fta tta a1 e0 rfl eta uta) (cwV 1 hts gX8_parts_X8_tankAt rfl rfl rfl (by decide +kernel) ⟨Nat.le_of_ble_eq_true rfl, Nat.le_of_ble_eq_true rfl⟩) ⟨fun a U g mk q => ⟨q.1, q.2.1, va_K.moved (u := U) (U := U.calling g mk a) (Vm.Alike.refl U.vm) q.2.2⟩, va_recv hK hP (ci := 8) (q0 := k0) rfl e0, fun U hU hW => ⟨rfl, by rw [hU]; exact hP, va_K.moved hW.alike hK⟩⟩ rfl rfl hl.1 rfl (lv_room (Nat.le_of_ble_eq_true rfl)) dX8_parts_2 ⟨Nat.le_of_ble_eq_true rfl, Nat.le_of_ble_eq_true rfl⟩) (fun r_1 k_2 => ?_)
  have hz_7 : r_1 = none ∨ ∃ v, r_1 = some v ∧ ¬ a1 < 0 ∧ ¬ 9 < a1 := by
    rcases k_2 with ⟨q, -⟩ | ⟨q1, q2, -⟩
    · exact Or.inl q
    · rcases r_1 with _ | v
      · exact Or.inl rfl
      · exact Or.inr ⟨v, rfl, q1, q2⟩
  rcases hz_7 with rfl | ⟨v_6, rfl, a_3, b_4⟩
  · refine tp_v (y := .null) rfl ?_
    refine lv_ifnullN (tgt := 18) hx hb dX8_parts_5 (by decide) ?_
    refine lv_iconst (v := (-1)) hx hb dX8_parts_18 (by decide) ?_
    exact W.iret (v := (-1)) hx hb hr (fun t ht hW => ⟨⟨(-1), (), rfl, trivial, ws, tys, hsm, htx, by rw [ht]; exact hP, va_K.moved hW.alike hK, hD, X.sm hsm htx (by decide) (by decide)⟩, hS.F ht⟩) hS.2.2 dX8_parts_19
  refine tp_v (y := .ref v_6) rfl ?_
  refine lv_ifnull hx hb dX8_parts_5 ?_
  refine lv_aload_n hx hb dX8_parts_8 rfl (lv_at hl 0 rfl) ?_
  refine va_get (D := D) (ci := 8) (v := .ref bl) (C := RX8) (T := TX8) (N := 15) hx hb hts hin8 hown hK hP k0 e0 rfl 7 (by decide) (hts (.fieldLink RX8 54 "HoneyHouse" "blender" "LHoneyHouse$Blender;") (List.mem_of_getElem? (i := 1) rfl)) (fun _ h9 => h9) rfl dX8_parts_9 ?_
  refine va_get (D := D) (ci := 0) (v := .int b1) (C := RX0) (T := TX0) (N := 14) hx hb hts hin0 hown hK hP kbl ebl rfl 1 (by decide) (hts (.fieldLink RX8 266 "HoneyHouse$Blender" "hasTold" "Z") (List.mem_of_getElem? (i := 2) rfl)) (fun _ h9 => h9) rfl dX8_parts_12 ?_
  refine lv_if_ne (tgt := 20) hx hb dX8_parts_15 (by decide) (fun c_8 => ?_) (fun c_8 => ?_)
  · refine lv_aload_n hx hb dX8_parts_20 rfl (lv_at hl 0 rfl) ?_
    refine va_get (D := D) (ci := 8) (v := .ref bl) (C := RX8) (T := TX8) (N := 15) hx hb hts hin8 hown hK hP k0 e0 rfl 7 (by decide) (hts (.fieldLink RX8 54 "HoneyHouse" "blender" "LHoneyHouse$Blender;") (List.mem_of_getElem? (i := 1) rfl)) (fun _ h9 => h9) rfl dX8_parts_21 ?_
    refine va_get (D := D) (ci := 0) (v := .ref b0) (C := RX0) (T := TX0) (N := 14) hx hb hts hin0 hown hK hP kbl ebl rfl 0 (by decide) (hts (.fieldLink RX8 269 "HoneyHouse$Blender" "toldParts" "[I") (List.mem_of_getElem? (i := 3) rfl)) (fun _ h9 => h9) rfl dX8_parts_24 ?_
    refine lv_iload_n hx hb dX8_parts_27 rfl (lv_at hl 1 rfl) ?_
    refine va_iald (f := fb0) (n := 10) hx hb hK hP kb0 tb0 eb0 ub0 (i_in a_3 b_4 (by decide)) dX8_parts_28 ?_
    exact W.iret (v := fb0 a1.toNatClampNeg) hx hb hr (fun t ht hW => ⟨⟨fb0 a1.toNatClampNeg, (), rfl, trivial, ws, tys, hsm, htx, by rw [ht]; exact hP, va_K.moved hW.alike hK, hD, X.sm hsm htx (by decide) (by decide)⟩, hS.F ht⟩) hS.2.2 dX8_parts_29
  refine lv_iconst (v := (-1)) hx hb dX8_parts_18 (by decide) ?_
  exact W.iret (v := (-1)) hx hb hr (fun t ht hW => ⟨⟨(-1), (), rfl, trivial, ws, tys, hsm, htx, by rw [ht]; exact hP, va_K.moved hW.alike hK, hD, X.sm hsm htx (by decide) (by decide)⟩, hS.F ht⟩) hS.2.2 dX8_parts_19
