theorem dX8_shut_0 : decode cX8_shut 0 = .ok (.aload_n 0, 1) := by decide +kernel
theorem dX8_shut_1 : decode cX8_shut 1 = .ok (.iload_n 1, 1) := by decide +kernel
theorem dX8_shut_2 : decode cX8_shut 2 = .ok (.invokevirtual 219, 3) := by decide +kernel
theorem dX8_shut_5 : decode cX8_shut 5 = .ok (.astore_n 3, 1) := by decide +kernel
theorem dX8_shut_6 : decode cX8_shut 6 = .ok (.aload_n 3, 1) := by decide +kernel
theorem dX8_shut_7 : decode cX8_shut 7 = .ok (.ifnull 18, 3) := by decide +kernel
theorem dX8_shut_10 : decode cX8_shut 10 = .ok (.aload_n 3, 1) := by decide +kernel
theorem dX8_shut_11 : decode cX8_shut 11 = .ok (.getfield 223, 3) := by decide +kernel
theorem dX8_shut_14 : decode cX8_shut 14 = .ok (.ifCond .ne 11, 3) := by decide +kernel
theorem dX8_shut_17 : decode cX8_shut 17 = .ok (.iload_n 2, 1) := by decide +kernel
theorem dX8_shut_18 : decode cX8_shut 18 = .ok (.aload_n 3, 1) := by decide +kernel
theorem dX8_shut_19 : decode cX8_shut 19 = .ok (.getfield 227, 3) := by decide +kernel
theorem dX8_shut_22 : decode cX8_shut 22 = .ok (.if_icmp .ge 5, 3) := by decide +kernel
theorem dX8_shut_25 : decode cX8_shut 25 = .ok (.iconst 0, 1) := by decide +kernel
theorem dX8_shut_26 : decode cX8_shut 26 = .ok (.ireturn, 1) := by decide +kernel
theorem dX8_shut_27 : decode cX8_shut 27 = .ok (.aload_n 3, 1) := by decide +kernel
theorem dX8_shut_28 : decode cX8_shut 28 = .ok (.iconst 1, 1) := by decide +kernel
theorem dX8_shut_29 : decode cX8_shut 29 = .ok (.putfield 223, 3) := by decide +kernel
theorem dX8_shut_32 : decode cX8_shut 32 = .ok (.aload_n 3, 1) := by decide +kernel
theorem dX8_shut_33 : decode cX8_shut 33 = .ok (.iload_n 2, 1) := by decide +kernel
theorem dX8_shut_34 : decode cX8_shut 34 = .ok (.putfield 228, 3) := by decide +kernel
theorem dX8_shut_37 : decode cX8_shut 37 = .ok (.iconst 1, 1) := by decide +kernel
theorem dX8_shut_38 : decode cX8_shut 38 = .ok (.ireturn, 1) := by decide +kernel
theorem dX8_parts_0 : decode cX8_parts 0 = .ok (.aload_n 0, 1) := by decide +kernel
theorem dX8_parts_1 : decode cX8_parts 1 = .ok (.iload_n 1, 1) := by decide +kernel
theorem dX8_parts_2 : decode cX8_parts 2 = .ok (.invokevirtual 139, 3) := by decide +kernel
theorem dX8_parts_5 : decode cX8_parts 5 = .ok (.ifnull 13, 3) := by decide +kernel
theorem dX8_parts_8 : decode cX8_parts 8 = .ok (.aload_n 0, 1) := by decide +kernel
theorem dX8_parts_9 : decode cX8_parts 9 = .ok (.getfield 54, 3) := by decide +kernel
theorem dX8_parts_12 : decode cX8_parts 12 = .ok (.getfield 266, 3) := by decide +kernel
theorem dX8_parts_15 : decode cX8_parts 15 = .ok (.ifCond .ne 5, 3) := by decide +kernel
theorem dX8_parts_18 : decode cX8_parts 18 = .ok (.iconst (-1), 1) := by decide +kernel
theorem dX8_parts_19 : decode cX8_parts 19 = .ok (.ireturn, 1) := by decide +kernel
theorem dX8_parts_20 : decode cX8_parts 20 = .ok (.aload_n 0, 1) := by decide +kernel
theorem dX8_parts_21 : decode cX8_parts 21 = .ok (.getfield 54, 3) := by decide +kernel
theorem dX8_parts_24 : decode cX8_parts 24 = .ok (.getfield 269, 3) := by decide +kernel
theorem dX8_parts_27 : decode cX8_parts 27 = .ok (.iload_n 1, 1) := by decide +kernel
theorem dX8_parts_28 : decode cX8_parts 28 = .ok (.iaload, 1) := by decide +kernel
theorem dX8_parts_29 : decode cX8_parts 29 = .ok (.ireturn, 1) := by decide +kernel
set_option maxRecDepth 20000 in
theorem ggX8_shut_X8_ruleAt : GoodIn wsX8_shut wsX8_ruleAt := goodIn_r _ [8, 9, 10, 11, 7, 12, 18, 19, 20, 21, 22, 23, 24, 25, 26, 27, 28, 29, 30, 31, 32] rfl (by decide +kernel)
set_option maxRecDepth 20000 in
theorem gX8_shut_X8_ruleAt : GoodIn wsX8_shut (wsV RX8 219 RX8 yX8_ruleAt wsX8_ruleAt) := goodIn_app (goodIn_of _ (by decide +kernel)) ggX8_shut_X8_ruleAt
set_option maxRecDepth 20000 in
theorem ggX8_parts_X8_tankAt : GoodIn wsX8_parts wsX8_tankAt := goodIn_r _ [8, 9, 10, 11, 7, 12, 13, 14, 15, 16, 17, 18, 19, 20, 21, 22, 23, 24, 25, 26, 27] rfl (by decide +kernel)
set_option maxRecDepth 20000 in
theorem gX8_parts_X8_tankAt : GoodIn wsX8_parts (wsV RX8 139 RX8 yX8_tankAt wsX8_tankAt) := goodIn_app (goodIn_of _ (by decide +kernel)) ggX8_parts_X8_tankAt
theorem i_nge {a b : Int32} (h : ¬ b ≤ a) : a < b := by rw [i_le] at h; rw [i_lt]; omega
theorem i_ge_n {a b : Int32} (h : b ≤ a) : ¬ a < b := by rw [i_le] at h; rw [i_lt]; omega
set_option maxHeartbeats 4000000 in
set_option maxRecDepth 100000 in
theorem h_shut (l : Launch) (D : va_G) (ρ : Nat → Nat) (ws : va_W) (tys : List (ClassId × FieldType)) (fv : Nat → Nat → Int32) (h0 lc bc rc fc : Nat) (dn : Int32) (tl : Nat) (a1 a2 : Int32) (sz : Nat) (X : XI ρ fv ws tys h0 lc bc rc fc dn tl) : Met l yX8_shut wsX8_shut ({ frames := 2, cells := 0, slots := 0, locals := 43 }) (va_Pc [.ref h0, .int a1, .int a2] (fun U => U.heap.size = sz ∧ va_P D vwCl ws U.heap ∧ va_K D vwCl tys U ∧ va_D (fun _ => True) ws)) (va_Qi (fun (r : Int32) (_ : Unit) => (shuN fv rc a1 a2 ∧ r = 0) ∨ (¬ shuN fv rc a1 a2 ∧ r = 1)) (fun (_ : Unit) (t : State) => ∃ (ws' : va_W) (tys' : List (ClassId × FieldType)), tyx tys tys' ∧ va_P D vwCl ws' t.heap ∧ va_K D vwCl tys' t ∧ va_D (va_A ws sz) ws' ∧ ((shuN fv rc a1 a2 ∧ XI ρ fv ws' tys' h0 lc bc rc fc dn tl) ∨ (¬ shuN fv rc a1 a2 ∧ XI ρ (uF fv 18 (upd (fv 18) a1.toNatClampNeg a2)) ws' tys' h0 lc bc rc fc dn tl))) (va_A ws sz)) 0 0 (va_A ws sz) := by
  refine Met.ofW (cc := cX8_shut) (maxL := 4) (ret := (some .boolean)) (by decide) rfl ?_
  intro p e s m args below meth c s₁ B hml hv
  obtain ⟨rfl, hsz, hP, hK, hD0⟩ := hv
  have hx := B.exec
  have hb := B.bytes
  have hr := B.returns
  have hts := atoms_spec (ws := wsX8_shut) B.pre
  have hown : s.vm.findClass RX8 = some m.cls := findClass_of_methodNamed B.named
  have hlocks := B.notSynchronized
  subst hsz
  have hD := hD0.self (sz := s.heap.size)
  generalize hAe : va_A ws s.heap.size = A at hD ⊢
  have hA : ∀ q : Nat, s.heap.size ≤ q → A q := fun q h => by rw [← hAe]; exact Or.inr h
  have hS : va_S A s.heap s.heap [] := va_S.rf
  have hsm : sm (uy ρ [20000 + 2 * a1.toNatClampNeg]) [3] ws ws := sm.rf ws
  have htx : tyx tys tys := tyx.rf tys
  have hin3 : ∀ w ∈ u_ws RX3 TX3 5, w ∈ wsX8_shut := (fun _ h9 => List.mem_cons_of_mem _ (List.mem_append_left _ ((List.mem_append_right _ h9))))
  have hl := lv_entry ([.ref h0, .int a1, .int a2]) (n := 4) (Nat.le_of_ble_eq_true rfl)
  rw [lg_entry_eq]
  generalize (lg_sl ([.ref h0, .int a1, .int a2]) ++ List.replicate (4 - (lg_sl ([.ref h0, .int a1, .int a2])).length) Slot.unset).toArray = ls at hl ⊢
  have hl : lv_has ls 4 [(0, .ref h0), (1, .int a1), (2, .int a2)] := hl
  obtain ⟨k0, la, ta, ba, ra, sn, rd, dr, bl, vd, fb, e0, w0, hle0, hnum, qla, qta, qba, qra, qsn, qrd, qdr, qbl, qvd, qfb⟩ := id X
  obtain ⟨kra, cra, tra, fra, era, ura, hra0, hra1⟩ := id qra
  refine lv_aload_n hx hb dX8_shut_0 rfl (lv_at hl 0 rfl) ?_
  refine lv_iload_n hx hb dX8_shut_1 rfl (lv_at hl 1 rfl) ?_
  refine va_csq (W.runV (As := [.int a1]) (rest := []) ⟨hx, hb, hml, hown, hts⟩ (s_X8_ruleAt l D ws tys h0 k0 _ ra kra cra fra tra a1 e0 rfl era ura) (cwV 1 hts gX8_shut_X8_ruleAt rfl rfl rfl (by decide +kernel) ⟨Nat.le_of_ble_eq_true rfl, Nat.le_of_ble_eq_true rfl⟩) ⟨fun a U g mk q => ⟨q.1, q.2.1, va_K.moved (u := U) (U := U.calling g mk a) (Vm.Alike.refl U.vm) q.2.2⟩, va_recv hK hP (ci := 8) (q0 := k0) rfl e0, fun U hU hW => ⟨rfl, by rw [hU]; exact hP, va_K.moved hW.alike hK⟩⟩ rfl rfl hl.1 rfl (lv_room (Nat.le_of_ble_eq_true rfl)) dX8_shut_2 ⟨Nat.le_of_ble_eq_true rfl, Nat.le_of_ble_eq_true rfl⟩) (fun r_1 k_2 => ?_)
  have hz_3 := rulx hnum.2.2.1 hra0 hra1 k_2
  rcases hz_3 with ⟨rfl, o_4⟩ | ⟨a_5, b_6, hj_7, v_8, rfl, hg_9, hL_10⟩
  · refine tp_v (y := .null) rfl ?_
    refine lv_astore_nN (lv' := [(3, .null), (0, .ref h0), (1, .int a1), (2, .int a2)]) hx hb dX8_shut_5 rfl hl (by decide) rfl (fun ls hl => ?_)
    refine lv_aload_nN hx hb dX8_shut_6 rfl (lv_at hl 0 rfl) ?_
    refine lv_ifnullN (tgt := 25) hx hb dX8_shut_7 (by decide) ?_
    refine lv_iconst (v := 0) hx hb dX8_shut_25 (by decide) ?_
    exact W.zret (v := 0) hx hb hr rfl (fun t ht hW => ⟨⟨0, (), rfl, Or.inl ⟨Or.inl o_4, rfl⟩, ws, tys, htx, by rw [ht]; exact hP, va_K.moved hW.alike hK, hD, Or.inl ⟨Or.inl o_4, X⟩⟩, hS.F ht⟩) hS.2.2 dX8_shut_26
  obtain ⟨k_11, cd_12, n_13, x_14, x_15, x_16, ph_17, e_18, wk_19, ⟨k_23, c9_24, t_25, f_26, e_27, u_28, wr_29, g_30⟩, hn_20, hs_21, hq_22⟩ := hL_10
  refine tp_v (y := .ref v_8) rfl ?_
  refine lv_astore_n (lv' := [(3, .ref v_8), (0, .ref h0), (1, .int a1), (2, .int a2)]) hx hb dX8_shut_5 rfl hl (by decide) rfl (fun ls hl => ?_)
  refine lv_aload_n hx hb dX8_shut_6 rfl (lv_at hl 0 rfl) ?_
  refine lv_ifnull hx hb dX8_shut_7 ?_
  refine lv_aload_n hx hb dX8_shut_10 rfl (lv_at hl 0 rfl) ?_
  refine va_get (D := D) (ci := 3) (v := .int x_15) (C := RX3) (T := TX3) (N := 5) hx hb hts hin3 hown hK hP k_11 e_18 rfl 3 (by decide) (hts (.fieldLink RX8 223 "HoneyHouse$Rule" "isShut" "Z") (List.mem_of_getElem? (i := 1) rfl)) (fun _ h9 => h9) rfl dX8_shut_11 ?_
  refine lv_if_ne (tgt := 25) hx hb dX8_shut_14 (by decide) (fun c_31 => ?_) (fun c_31 => ?_)
  · refine lv_iconst (v := 0) hx hb dX8_shut_25 (by decide) ?_
    exact W.zret (v := 0) hx hb hr rfl (fun t ht hW => ⟨⟨0, (), rfl, Or.inl ⟨Or.inr (Or.inl ((shu_n hs_21).2 c_31)), rfl⟩, ws, tys, htx, by rw [ht]; exact hP, va_K.moved hW.alike hK, hD, Or.inl ⟨Or.inr (Or.inl ((shu_n hs_21).2 c_31)), X⟩⟩, hS.F ht⟩) hS.2.2 dX8_shut_26
  refine lv_iload_n hx hb dX8_shut_17 rfl (lv_at hl 3 rfl) ?_
  refine lv_aload_n hx hb dX8_shut_18 rfl (lv_at hl 0 rfl) ?_
  refine va_get (D := D) (ci := 3) (v := .int (fv 17 a1.toNatClampNeg)) (C := RX3) (T := TX3) (N := 5) hx hb hts hin3 hown hK hP k_11 e_18 rfl 1 (by decide) (hts (.fieldLink RX8 227 "HoneyHouse$Rule" "from" "I") (List.mem_of_getElem? (i := 2) rfl)) (fun _ h9 => h9) rfl dX8_shut_19 ?_
  refine lv_icmp_ge (tgt := 27) hx hb dX8_shut_22 (by decide) (fun c_32 => ?_) (fun c_32 => ?_)
  · refine lv_aload_n hx hb dX8_shut_27 rfl (lv_at hl 0 rfl) ?_
    refine lv_iconst (v := 1) hx hb dX8_shut_28 (by decide) ?_
    refine va_put (D := D) (ci := 3) (v := .int 1) (ty := .boolean) (C := RX3) (T := TX3) (N := 5) hx hb hts hin3 tyX3 tyX3_ok nmX3 hown hK hP hD hS k_11 e_18 rfl 3 (by decide) (hts (.fieldLink RX8 223 "HoneyHouse$Rule" "isShut" "Z") (List.mem_of_getElem? (i := 1) rfl)) (fun _ h9 => h9) rfl (tyX3_ok 3 (by decide)) rfl rfl (Nat.le_of_ble_eq_true rfl) dX8_shut_29 (fun H locs hP hD hS => ?_)
    have hP : va_P D vwCl (ws.set k_11 (v_8, .inr (3, [.long x_14, .int (fv 17 a1.toNatClampNeg), .ref cd_12, .int 1, .int x_16]))) H := hP
    have hD : va_D A (ws.set k_11 (v_8, .inr (3, [.long x_14, .int (fv 17 a1.toNatClampNeg), .ref cd_12, .int 1, .int x_16]))) := hD
    have hm_34 : sm (uy ρ [20000 + 2 * a1.toNatClampNeg]) [3] ws (ws.set k_11 (v_8, .inr (3, [.long x_14, .int (fv 17 a1.toNatClampNeg), .ref cd_12, .int 1, .int x_16]))) := sm.flds e_18 (smF.c (smV.rf _) (smF.c (smV.rf _) (smF.c (smV.rf _) (smF.c (smV.i _ _) (smF.c (smV.rf _) (rfl)))))) (List.mem_singleton.mpr rfl) (uy_in wk_19 (List.Mem.head _))
    have e_35 : (ws.set k_11 (v_8, .inr (3, [.long x_14, .int (fv 17 a1.toNatClampNeg), .ref cd_12, .int 1, .int x_16])))[k_11]? = some (v_8, .inr (3, [.long x_14, .int (fv 17 a1.toNatClampNeg), .ref cd_12, .int 1, .int x_16])) := wset_self e_18
    have e_36 := set_n (z := (v_8, .inr (3, [.long x_14, .int (fv 17 a1.toNatClampNeg), .ref cd_12, .int 1, .int x_16]))) e0 (pl_ne e0 e_18 (by intro h9; simp at h9))
    have e_37 := set_n (z := (v_8, .inr (3, [.long x_14, .int (fv 17 a1.toNatClampNeg), .ref cd_12, .int 1, .int x_16]))) era (pl_ne era e_18 (by intro h9; simp at h9))
    have e_38 := set_n (z := (v_8, .inr (3, [.long x_14, .int (fv 17 a1.toNatClampNeg), .ref cd_12, .int 1, .int x_16]))) e_27 (pl_ne e_27 e_18 (by intro h9; simp at h9))
    generalize ws.set k_11 (v_8, .inr (3, [.long x_14, .int (fv 17 a1.toNatClampNeg), .ref cd_12, .int 1, .int x_16])) = ws_33 at hP hD hm_34 e_35 e_36 e_37 e_38
    have hsm := hsm.tr (hm_34.mono (by decide))
    refine lv_aload_n hx hb dX8_shut_32 rfl (lv_at hl 0 rfl) ?_
    refine lv_iload_n hx hb dX8_shut_33 rfl (lv_at hl 3 rfl) ?_
    refine va_put (D := D) (ci := 3) (v := .int a2) (ty := .int) (C := RX3) (T := TX3) (N := 5) hx hb hts hin3 tyX3 tyX3_ok nmX3 hown hK hP hD hS k_11 e_35 rfl 4 (by decide) (hts (.fieldLink RX8 228 "HoneyHouse$Rule" "shutDay" "I") (List.mem_of_getElem? (i := 3) rfl)) (fun _ h9 => h9) rfl (tyX3_ok 4 (by decide)) rfl rfl (Nat.le_of_ble_eq_true rfl) dX8_shut_34 (fun H locs hP hD hS => ?_)
    have hP : va_P D vwCl (ws_33.set k_11 (v_8, .inr (3, [.long x_14, .int (fv 17 a1.toNatClampNeg), .ref cd_12, .int 1, .int a2]))) H := hP
    have hD : va_D A (ws_33.set k_11 (v_8, .inr (3, [.long x_14, .int (fv 17 a1.toNatClampNeg), .ref cd_12, .int 1, .int a2]))) := hD
    have hm_40 : sm (uy ρ [20000 + 2 * a1.toNatClampNeg]) [3] ws_33 (ws_33.set k_11 (v_8, .inr (3, [.long x_14, .int (fv 17 a1.toNatClampNeg), .ref cd_12, .int 1, .int a2]))) := sm.flds e_35 (smF.c (smV.rf _) (smF.c (smV.rf _) (smF.c (smV.rf _) (smF.c (smV.rf _) (smF.c (smV.i _ _) (rfl)))))) (List.mem_singleton.mpr rfl) (uy_in wk_19 (List.Mem.head _))
    have e_41 : (ws_33.set k_11 (v_8, .inr (3, [.long x_14, .int (fv 17 a1.toNatClampNeg), .ref cd_12, .int 1, .int a2])))[k_11]? = some (v_8, .inr (3, [.long x_14, .int (fv 17 a1.toNatClampNeg), .ref cd_12, .int 1, .int a2])) := wset_self e_35
    have e_42 := set_n (z := (v_8, .inr (3, [.long x_14, .int (fv 17 a1.toNatClampNeg), .ref cd_12, .int 1, .int a2]))) e_36 (pl_ne e_36 e_35 (by intro h9; simp at h9))
    have e_43 := set_n (z := (v_8, .inr (3, [.long x_14, .int (fv 17 a1.toNatClampNeg), .ref cd_12, .int 1, .int a2]))) e_37 (pl_ne e_37 e_35 (by intro h9; simp at h9))
    have e_44 := set_n (z := (v_8, .inr (3, [.long x_14, .int (fv 17 a1.toNatClampNeg), .ref cd_12, .int 1, .int a2]))) e_38 (pl_ne e_38 e_35 (by intro h9; simp at h9))
    generalize ws_33.set k_11 (v_8, .inr (3, [.long x_14, .int (fv 17 a1.toNatClampNeg), .ref cd_12, .int 1, .int a2])) = ws_39 at hP hD hm_40 e_41 e_42 e_43 e_44
    have hsm := hsm.tr (hm_40.mono (by decide))
    refine lv_iconst (v := 1) hx hb dX8_shut_37 (by decide) ?_
    exact W.zret (v := 1) hx hb hr rfl (fun t ht hW => ⟨⟨1, (), rfl, Or.inr ⟨(fun h9 => Or.elim h9 (fun h9 => Or.elim h9 a_5 b_6) (fun h9 => Or.elim h9 (fun h9 => h9 ((shu_n hs_21).1 c_31)) (i_ge_n c_32))), rfl⟩, ws_39, tys, htx, by rw [ht]; exact hP, va_K.moved hW.alike hK, hD, Or.inr ⟨(fun h9 => Or.elim h9 (fun h9 => Or.elim h9 a_5 b_6) (fun h9 => Or.elim h9 (fun h9 => h9 ((shu_n hs_21).1 c_31)) (i_ge_n c_32))), (xi_mk2 (fv := (uF fv 18 (upd (fv 18) a1.toNatClampNeg a2))) e_42 w0 hle0 hnum ((CL.sm qla hsm htx (fun k _ h1 h2 => uy1 (by omega) (by omega))).fvx (fun _ _ _ _ => rfl) rfl rfl rfl) ((CW.sm qta hsm htx (fun k _ h1 h2 => uy1 (by omega) (by omega))).fvx (fun _ _ _ _ => rfl) (fun _ _ => rfl) (fun _ _ => rfl) (fun _ _ => rfl)) ((CW.sm qba hsm htx (fun k _ h1 h2 => uy1 (by omega) (by omega))).fvx (fun _ _ _ _ => rfl) (fun _ _ => rfl) (fun _ _ => rfl) (fun _ _ => rfl)) ⟨kra, cra, tra, fra, e_43, ura, hra0, rul_one (J := a1.toNatClampNeg) hra1 hsm htx (fun j k hj hn h1 h2 => uy1 (by omega) (by omega)) hg_9 (show RUL ρ (uF fv 18 (upd (fv 18) a1.toNatClampNeg a2)) ws_39 tys v_8 a1.toNatClampNeg from ⟨k_11, cd_12, n_13, x_14, 1, a2, ph_17, e_41, wk_19, ⟨k_23, c9_24, t_25, f_26, e_44, u_28, wr_29, g_30⟩, hn_20, Or.inr ⟨by show ¬ upd _ _ _ _ = _; rw [upd_s]; exact day_n hq_22 (i_ge_n c_32), rfl, by show _ = upd _ _ _ _; rw [upd_s]⟩, hq_22⟩) (fun j _ hn => ⟨rfl, upd_n hn⟩)⟩ (oST.sm qsn hsm htx (fun k _ h1 h2 => uy1 (by omega) (by omega))) ((oW.sm qrd hsm htx (by decide) (fun k _ h => uy1 (by omega) (by omega))).fvx (fun _ _ => rfl) rfl rfl) qdr qbl qvd ((oF.sm qfb hsm htx (fun k _ h => uy1 (by omega) (by omega))).fvx rfl) hsm htx (by decide))⟩⟩, hS.F ht⟩) hS.2.2 dX8_shut_38
  refine lv_iconst (v := 0) hx hb dX8_shut_25 (by decide) ?_
  exact W.zret (v := 0) hx hb hr rfl (fun t ht hW => ⟨⟨0, (), rfl, Or.inl ⟨Or.inr (Or.inr (i_nge c_32)), rfl⟩, ws, tys, htx, by rw [ht]; exact hP, va_K.moved hW.alike hK, hD, Or.inl ⟨Or.inr (Or.inr (i_nge c_32)), X⟩⟩, hS.F ht⟩) hS.2.2 dX8_shut_26
set_option maxHeartbeats 4000000 in
set_option maxRecDepth 100000 in
theorem h_parts (l : Launch) (D : va_G) (ρ : Nat → Nat) (ws : va_W) (tys : List (ClassId × FieldType)) (fv : Nat → Nat → Int32) (h0 lc bc rc fc : Nat) (dn : Int32) (tl : Nat) (a1 : Int32) (sz : Nat) (X : XI ρ fv ws tys h0 lc bc rc fc dn tl) : Met l yX8_parts wsX8_parts ({ frames := 2, cells := 0, slots := 0, locals := 43 }) (va_Pc [.ref h0, .int a1] (fun U => U.heap.size = sz ∧ va_P D vwCl ws U.heap ∧ va_K D vwCl tys U ∧ va_D (fun _ => True) ws)) (va_Qi (fun (r : Int32) (_ : Unit) => True) (fun (_ : Unit) (t : State) => ∃ (ws' : va_W) (tys' : List (ClassId × FieldType)), sm ρ [] ws ws' ∧ tyx tys tys' ∧ va_P D vwCl ws' t.heap ∧ va_K D vwCl tys' t ∧ va_D (va_A ws sz) ws' ∧ (XI ρ fv ws' tys' h0 lc bc rc fc dn tl)) (va_A ws sz)) 0 0 (va_A ws sz) := by
  refine Met.ofW (cc := cX8_parts) (maxL := 2) (ret := (some .int)) (by decide) rfl ?_
  intro p e s m args below meth c s₁ B hml hv
  obtain ⟨rfl, hsz, hP, hK, hD0⟩ := hv
  have hx := B.exec
  have hb := B.bytes
  have hr := B.returns
  have hts := atoms_spec (ws := wsX8_parts) B.pre
  have hown : s.vm.findClass RX8 = some m.cls := findClass_of_methodNamed B.named
  have hlocks := B.notSynchronized
  subst hsz
  have hD := hD0.self (sz := s.heap.size)
  generalize hAe : va_A ws s.heap.size = A at hD ⊢
  have hA : ∀ q : Nat, s.heap.size ≤ q → A q := fun q h => by rw [← hAe]; exact Or.inr h
  have hS : va_S A s.heap s.heap [] := va_S.rf
  have hsm : sm ρ [] ws ws := sm.rf ws
  have htx : tyx tys tys := tyx.rf tys
  have hin0 : ∀ w ∈ u_ws RX0 TX0 14, w ∈ wsX8_parts := (fun _ h9 => List.mem_cons_of_mem _ ((List.mem_append_right _ h9)))
  have hin8 : ∀ w ∈ u_ws RX8 TX8 15, w ∈ wsX8_parts := (fun _ h9 => List.mem_cons_of_mem _ (List.mem_append_left _ ((List.mem_append_right _ h9))))
  have hl := lv_entry ([.ref h0, .int a1]) (n := 2) (Nat.le_of_ble_eq_true rfl)
  rw [lg_entry_eq]
  generalize (lg_sl ([.ref h0, .int a1]) ++ List.replicate (2 - (lg_sl ([.ref h0, .int a1])).length) Slot.unset).toArray = ls at hl ⊢
  have hl : lv_has ls 2 [(0, .ref h0), (1, .int a1)] := hl
  obtain ⟨k0, la, ta, ba, ra, sn, rd, dr, bl, vd, fb, e0, w0, hle0, hnum, qla, qta, qba, qra, qsn, qrd, qdr, qbl, qvd, qfb⟩ := id X
  obtain ⟨kta, cta, tta, fta, eta, uta, pta⟩ := id qta.q
  obtain ⟨kbl, b0, b2, b3, b4, b5, b6, b7, b1, b8, b9, b10, b11, b12, b13, ebl, wbl, ⟨kb0, cb0, tb0, fb0, eb0, ub0, wb0⟩, ⟨kb2, cb2, tb2, fb2, eb2, ub2, wb2⟩, ⟨kb3, cb3, tb3, fb3, eb3, ub3, wb3⟩, ⟨kb4, cb4, tb4, fb4, eb4, ub4, wb4⟩, ⟨kb5, cb5, tb5, fb5, eb5, ub5, wb5⟩, ⟨kb6, cb6, tb6, fb6, eb6, ub6, wb6⟩, ⟨kb7, cb7, tb7, fb7, eb7, ub7, wb7⟩⟩ := id qbl
  refine lv_aload_n hx hb dX8_parts_0 rfl (lv_at hl 0 rfl) ?_
  refine lv_iload_n hx hb dX8_parts_1 rfl (lv_at hl 1 rfl) ?_
  refine va_csq (W.runV (As := [.int a1]) (rest := []) ⟨hx, hb, hml, hown, hts⟩ (s_X8_tankAt l D ws tys h0 k0 _ ta kta cta fta tta a1 e0 rfl eta uta) (cwV 1 hts gX8_parts_X8_tankAt rfl rfl rfl (by decide +kernel) ⟨Nat.le_of_ble_eq_true rfl, Nat.le_of_ble_eq_true rfl⟩) ⟨fun a U g mk q => ⟨q.1, q.2.1, va_K.moved (u := U) (U := U.calling g mk a) (Vm.Alike.refl U.vm) q.2.2⟩, va_recv hK hP (ci := 8) (q0 := k0) rfl e0, fun U hU hW => ⟨rfl, by rw [hU]; exact hP, va_K.moved hW.alike hK⟩⟩ rfl rfl hl.1 rfl (lv_room (Nat.le_of_ble_eq_true rfl)) dX8_parts_2 ⟨Nat.le_of_ble_eq_true rfl, Nat.le_of_ble_eq_true rfl⟩) (fun r_1 k_2 => ?_)
  have hz_7 : r_1 = none ∨ ∃ v, r_1 = some v ∧ ¬ a1 < 0 ∧ ¬ 9 < a1 := by
    rcases k_2 with ⟨q, -⟩ | ⟨q1, q2, -⟩
    · exact Or.inl q
    · rcases r_1 with _ | v
      · exact Or.inl rfl
      · exact Or.inr ⟨v, rfl, q1, q2⟩
  rcases hz_7 with rfl | ⟨v_6, rfl, a_3, b_4⟩
  · refine tp_v (y := .null) rfl ?_
    refine lv_ifnullN (tgt := 18) hx hb dX8_parts_5 (by decide) ?_
    refine lv_iconst (v := (-1)) hx hb dX8_parts_18 (by decide) ?_
    exact W.iret (v := (-1)) hx hb hr (fun t ht hW => ⟨⟨(-1), (), rfl, trivial, ws, tys, hsm, htx, by rw [ht]; exact hP, va_K.moved hW.alike hK, hD, X.sm hsm htx (by decide) (by decide)⟩, hS.F ht⟩) hS.2.2 dX8_parts_19
  refine tp_v (y := .ref v_6) rfl ?_
  refine lv_ifnull hx hb dX8_parts_5 ?_
  refine lv_aload_n hx hb dX8_parts_8 rfl (lv_at hl 0 rfl) ?_
  refine va_get (D := D) (ci := 8) (v := .ref bl) (C := RX8) (T := TX8) (N := 15) hx hb hts hin8 hown hK hP k0 e0 rfl 7 (by decide) (hts (.fieldLink RX8 54 "HoneyHouse" "blender" "LHoneyHouse$Blender;") (List.mem_of_getElem? (i := 1) rfl)) (fun _ h9 => h9) rfl dX8_parts_9 ?_
  refine va_get (D := D) (ci := 0) (v := .int b1) (C := RX0) (T := TX0) (N := 14) hx hb hts hin0 hown hK hP kbl ebl rfl 1 (by decide) (hts (.fieldLink RX8 266 "HoneyHouse$Blender" "hasTold" "Z") (List.mem_of_getElem? (i := 2) rfl)) (fun _ h9 => h9) rfl dX8_parts_12 ?_
  refine lv_if_ne (tgt := 20) hx hb dX8_parts_15 (by decide) (fun c_8 => ?_) (fun c_8 => ?_)
  · refine lv_aload_n hx hb dX8_parts_20 rfl (lv_at hl 0 rfl) ?_
    refine va_get (D := D) (ci := 8) (v := .ref bl) (C := RX8) (T := TX8) (N := 15) hx hb hts hin8 hown hK hP k0 e0 rfl 7 (by decide) (hts (.fieldLink RX8 54 "HoneyHouse" "blender" "LHoneyHouse$Blender;") (List.mem_of_getElem? (i := 1) rfl)) (fun _ h9 => h9) rfl dX8_parts_21 ?_
    refine va_get (D := D) (ci := 0) (v := .ref b0) (C := RX0) (T := TX0) (N := 14) hx hb hts hin0 hown hK hP kbl ebl rfl 0 (by decide) (hts (.fieldLink RX8 269 "HoneyHouse$Blender" "toldParts" "[I") (List.mem_of_getElem? (i := 3) rfl)) (fun _ h9 => h9) rfl dX8_parts_24 ?_
    refine lv_iload_n hx hb dX8_parts_27 rfl (lv_at hl 1 rfl) ?_
    refine va_iald (f := fb0) (n := 10) hx hb hK hP kb0 tb0 eb0 ub0 (i_in a_3 b_4 (by decide)) dX8_parts_28 ?_
    exact W.iret (v := fb0 a1.toNatClampNeg) hx hb hr (fun t ht hW => ⟨⟨fb0 a1.toNatClampNeg, (), rfl, trivial, ws, tys, hsm, htx, by rw [ht]; exact hP, va_K.moved hW.alike hK, hD, X.sm hsm htx (by decide) (by decide)⟩, hS.F ht⟩) hS.2.2 dX8_parts_29
  refine lv_iconst (v := (-1)) hx hb dX8_parts_18 (by decide) ?_
  exact W.iret (v := (-1)) hx hb hr (fun t ht hW => ⟨⟨(-1), (), rfl, trivial, ws, tys, hsm, htx, by rw [ht]; exact hP, va_K.moved hW.alike hK, hD, X.sm hsm htx (by decide) (by decide)⟩, hS.F ht⟩) hS.2.2 dX8_parts_19
