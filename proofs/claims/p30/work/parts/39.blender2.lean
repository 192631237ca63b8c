theorem dX0_keepBest_0 : decode cX0_keepBest 0 = .ok (.aload_n 0, 1) := by decide +kernel
theorem dX0_keepBest_1 : decode cX0_keepBest 1 = .ok (.getfield 9, 3) := by decide +kernel
theorem dX0_keepBest_4 : decode cX0_keepBest 4 = .ok (.iconst 0, 1) := by decide +kernel
theorem dX0_keepBest_5 : decode cX0_keepBest 5 = .ok (.invokestatic 37, 3) := by decide +kernel
theorem dX0_keepBest_8 : decode cX0_keepBest 8 = .ok (.iconst 0, 1) := by decide +kernel
theorem dX0_keepBest_9 : decode cX0_keepBest 9 = .ok (.istore_n 1, 1) := by decide +kernel
theorem dX0_keepBest_10 : decode cX0_keepBest 10 = .ok (.iload_n 1, 1) := by decide +kernel
theorem dX0_keepBest_11 : decode cX0_keepBest 11 = .ok (.aload_n 0, 1) := by decide +kernel
theorem dX0_keepBest_12 : decode cX0_keepBest 12 = .ok (.getfield 33, 3) := by decide +kernel
theorem dX0_keepBest_15 : decode cX0_keepBest 15 = .ok (.if_icmp .ge 46, 3) := by decide +kernel
theorem dX0_keepBest_18 : decode cX0_keepBest 18 = .ok (.iload_n 1, 1) := by decide +kernel
theorem dX0_keepBest_19 : decode cX0_keepBest 19 = .ok (.iconst 4, 1) := by decide +kernel
theorem dX0_keepBest_20 : decode cX0_keepBest 20 = .ok (.if_icmp .ge 41, 3) := by decide +kernel
theorem dX0_keepBest_23 : decode cX0_keepBest 23 = .ok (.aload_n 0, 1) := by decide +kernel
theorem dX0_keepBest_24 : decode cX0_keepBest 24 = .ok (.getfield 15, 3) := by decide +kernel
theorem dX0_keepBest_27 : decode cX0_keepBest 27 = .ok (.iload_n 1, 1) := by decide +kernel
theorem dX0_keepBest_28 : decode cX0_keepBest 28 = .ok (.iaload, 1) := by decide +kernel
theorem dX0_keepBest_29 : decode cX0_keepBest 29 = .ok (.istore_n 2, 1) := by decide +kernel
theorem dX0_keepBest_30 : decode cX0_keepBest 30 = .ok (.iload_n 2, 1) := by decide +kernel
theorem dX0_keepBest_31 : decode cX0_keepBest 31 = .ok (.ifCond .lt 24, 3) := by decide +kernel
theorem dX0_keepBest_34 : decode cX0_keepBest 34 = .ok (.iload_n 2, 1) := by decide +kernel
theorem dX0_keepBest_35 : decode cX0_keepBest 35 = .ok (.aload_n 0, 1) := by decide +kernel
theorem dX0_keepBest_36 : decode cX0_keepBest 36 = .ok (.getfield 9, 3) := by decide +kernel
theorem dX0_keepBest_39 : decode cX0_keepBest 39 = .ok (.arraylength, 1) := by decide +kernel
theorem dX0_keepBest_40 : decode cX0_keepBest 40 = .ok (.if_icmp .ge 15, 3) := by decide +kernel
theorem dX0_keepBest_43 : decode cX0_keepBest 43 = .ok (.aload_n 0, 1) := by decide +kernel
theorem dX0_keepBest_44 : decode cX0_keepBest 44 = .ok (.getfield 9, 3) := by decide +kernel
theorem dX0_keepBest_47 : decode cX0_keepBest 47 = .ok (.iload_n 2, 1) := by decide +kernel
theorem dX0_keepBest_48 : decode cX0_keepBest 48 = .ok (.aload_n 0, 1) := by decide +kernel
theorem dX0_keepBest_49 : decode cX0_keepBest 49 = .ok (.getfield 30, 3) := by decide +kernel
theorem dX0_keepBest_52 : decode cX0_keepBest 52 = .ok (.iload_n 1, 1) := by decide +kernel
theorem dX0_keepBest_53 : decode cX0_keepBest 53 = .ok (.iaload, 1) := by decide +kernel
theorem dX0_keepBest_54 : decode cX0_keepBest 54 = .ok (.iastore, 1) := by decide +kernel
theorem dX0_keepBest_55 : decode cX0_keepBest 55 = .ok (.iinc 1 1, 3) := by decide +kernel
theorem dX0_keepBest_58 : decode cX0_keepBest 58 = .ok (.goto (-48), 3) := by decide +kernel
theorem dX0_keepBest_61 : decode cX0_keepBest 61 = .ok (.aload_n 0, 1) := by decide +kernel
theorem dX0_keepBest_62 : decode cX0_keepBest 62 = .ok (.iconst 1, 1) := by decide +kernel
theorem dX0_keepBest_63 : decode cX0_keepBest 63 = .ok (.putfield 78, 3) := by decide +kernel
theorem dX0_keepBest_66 : decode cX0_keepBest 66 = .ok (.return_, 1) := by decide +kernel
set_option maxRecDepth 20000 in
theorem ggX0_keepBest_J7_fill_53178 : GoodIn wsX0_keepBest wsJ7_fill_53178 := goodIn_r _ [9] rfl (by decide +kernel)
set_option maxRecDepth 20000 in
theorem gX0_keepBest_J7_fill_53178 : GoodIn wsX0_keepBest (va_wsS RX0 37 yJ7_fill_53178 wsJ7_fill_53178) := goodIn_app (goodIn_of _ (by decide +kernel)) ggX0_keepBest_J7_fill_53178
theorem i_in10 {n : Int32} (a : ¬ n < 0) (b : ¬ 10 ≤ n) : vp_in n 10 := by
  rw [i_lt] at a
  rw [i_le] at b
  have h0 : (0 : Int32).toInt = 0 := by decide
  have h1 : (10 : Int32).toInt = 10 := by decide
  rw [h0] at a; rw [h1] at b
  exact vp_in_iff.mpr ⟨by omega, by omega⟩
set_option maxHeartbeats 4000000 in
set_option maxRecDepth 100000 in
theorem a_keepBest (l : Launch) (D : va_G) (ρ : Nat → Nat) (ws : va_W) (tys : List (ClassId × FieldType)) (bl kbl b0 b2 b3 b4 b5 b6 b7 : Nat) (b1 b8 b9 b10 b11 b12 b13 : Int32) (kb0 : Nat) (cb0 : ClassId) (tb0 : Nat) (fb0 : Nat → Int32) (kb2 : Nat) (cb2 : ClassId) (tb2 : Nat) (fb2 : Nat → Int32) (kb7 : Nat) (cb7 : ClassId) (tb7 : Nat) (fb7 : Nat → Int32) (sz : Nat) (ebl : ws[kbl]? = some (bl, .inr (0, [.ref b0, .int b1, .ref b2, .ref b3, .ref b4, .ref b5, .ref b6, .ref b7, .int b8, .int b9, .int b10, .int b11, .int b12, .int b13]))) (eb0 : ws[kb0]? = some (b0, .inl (cb0, 10, .inl fb0))) (ub0 : tys[tb0]? = some (cb0, .int)) (eb2 : ws[kb2]? = some (b2, .inl (cb2, 4, .inl fb2))) (ub2 : tys[tb2]? = some (cb2, .int)) (eb7 : ws[kb7]? = some (b7, .inl (cb7, 4, .inl fb7))) (ub7 : tys[tb7]? = some (cb7, .int)) (w_kb0 : ρ kb0 = 0) (w_kbl : ρ kbl = 0) : Met l yX0_keepBest wsX0_keepBest ({ frames := 1, cells := 0, slots := 0, locals := 23 }) (va_Pc [.ref bl] (fun U => U.heap.size = sz ∧ va_P D vwCl ws U.heap ∧ va_K D vwCl tys U ∧ va_D (fun _ => True) ws)) (va_Qv (fun _ : Unit => True) (fun (_ : Unit) (t : State) => ∃ (ws' : va_W) (tys' : List (ClassId × FieldType)), sm ρ [0] ws ws' ∧ tyx tys tys' ∧ va_P D vwCl ws' t.heap ∧ va_K D vwCl tys' t ∧ va_D (va_A ws sz) ws' ∧ (True)) (va_A ws sz)) 0 0 (va_A ws sz) := by
  refine Met.ofW (cc := cX0_keepBest) (maxL := 3) (ret := none) (by decide) rfl ?_
  intro p e s m args below meth c s₁ B hml hv
  obtain ⟨rfl, hsz, hP, hK, hD0⟩ := hv
  have hx := B.exec
  have hb := B.bytes
  have hr := B.returns
  have hts := atoms_spec (ws := wsX0_keepBest) B.pre
  have hown : s.vm.findClass RX0 = some m.cls := findClass_of_methodNamed B.named
  have hlocks := B.notSynchronized
  subst hsz
  have hD := hD0.self (sz := s.heap.size)
  generalize hAe : va_A ws s.heap.size = A at hD ⊢
  have hA : ∀ q : Nat, s.heap.size ≤ q → A q := fun q h => by rw [← hAe]; exact Or.inr h
  have hS : va_S A s.heap s.heap [] := va_S.rf
  have hsm : sm ρ [0] ws ws := sm.rf ws
  have htx : tyx tys tys := tyx.rf tys
  have hin0 : ∀ w ∈ u_ws RX0 TX0 14, w ∈ wsX0_keepBest := (fun _ h9 => List.mem_cons_of_mem _ ((List.mem_append_right _ h9)))
  have hl := lv_entry ([.ref bl]) (n := 3) (Nat.le_of_ble_eq_true rfl)
  rw [lg_entry_eq]
  generalize (lg_sl ([.ref bl]) ++ List.replicate (3 - (lg_sl ([.ref bl])).length) Slot.unset).toArray = ls at hl ⊢
  have hl : lv_has ls 3 [(0, .ref bl)] := hl
  refine lv_aload_n hx hb dX0_keepBest_0 rfl (lv_at hl 0 rfl) ?_
  refine va_get (D := D) (ci := 0) (v := .ref b0) (C := RX0) (T := TX0) (N := 14) hx hb hts hin0 hown hK hP kbl ebl rfl 0 (by decide) (hts (.fieldLink RX0 9 "HoneyHouse$Blender" "toldParts" "[I") (List.mem_of_getElem? (i := 1) rfl)) (fun _ h9 => h9) rfl dX0_keepBest_1 ?_
  refine lv_iconst (v := 0) hx hb dX0_keepBest_4 (by decide) ?_
  have hFc := free_all hD hS hA
  refine va_callv (va_runS (As := [.ref b0, .int 0]) (rest := []) ⟨hx, hb, hml, hown, hts⟩ (a_fill l D ρ ws tys b0 kb0 cb0 tb0 10 fb0 0 s.heap.size (by omega) eb0 ub0 w_kb0) (va_cwS 2 hts gX0_keepBest_J7_fill_53178 rfl rfl rfl (by decide +kernel) ⟨Nat.le_of_ble_eq_true rfl, Nat.le_of_ble_eq_true rfl⟩) ⟨fun a U g mk q => by obtain ⟨q0, q1, qP, qK, qD⟩ := q; exact ⟨q0, q1, qP, va_K.moved (u := U) (U := U.calling g mk a) (Vm.Alike.refl U.vm) qK, qD⟩, fun U hU hW => ⟨rfl, by rw [hU], by rw [hU]; exact hP, va_K.moved hW.alike hK, hD.weaken (fun _ _ _ _ => trivial)⟩⟩ rfl rfl hl.1 rfl (lv_room (Nat.le_of_ble_eq_true rfl)) dX0_keepBest_5 ⟨Nat.le_of_ble_eq_true rfl, Nat.le_of_ble_eq_true rfl⟩) hS (fun q _ h => hFc q h) hFc (fun u t H1 locs ht hvm w_2 hB hz1 hk1 hS => ?_)
  obtain ⟨ws_3, ty_4, hm_5, ht_7, hP1, hK1, hD1, hx_6⟩ := hB
  rw [ht] at hP1
  have hK := va_K.moved hvm.symm hK1
  have hD := hD1.weaken (fun _ _ _ h => hFc _ h)
  generalize H1 = H at hP1 hS ⊢
  have hP := hP1
  have e_8 := hm_5.objK ebl (by decide)
  obtain ⟨f_10, e_9⟩ := hm_5.arrI eb0
  have u_11 := ht_7 _ _ ub0
  obtain ⟨f_13, e_12⟩ := hm_5.arrI eb2
  have u_14 := ht_7 _ _ ub2
  obtain ⟨f_16, e_15⟩ := hm_5.arrI eb7
  have u_17 := ht_7 _ _ ub7
  have hsm := hsm.tr (hm_5.mono (by decide))
  have htx := htx.tr ht_7
  refine lv_iconst (v := 0) hx hb dX0_keepBest_8 (by decide) ?_
  refine lv_istore_n (lv' := [(1, .int 0), (0, .ref bl)]) hx hb dX0_keepBest_9 rfl hl (by decide) rfl (fun ls hl => ?_)
  refine lp_A (nL := 3) (N := 4) (σ := Unit) (lv := fun i x_21 => [(1, .int (nI i)), (0, .ref bl)]) (J := fun i9 x9 w9 => sm ρ [0] ws_3 w9) (fun i hi ih x_21 ws_18 H locs ls hj_19 hP hD hS hl => ?_) 0 (by omega) () _ _ _ ls (sm.rf _) hP hD hS (lv_sub hl [0, 1] rfl)
  have hl : lv_has ls 3 [(1, .int (nI i)), (0, .ref bl)] := hl
  obtain ⟨g_23, e_22, h_24⟩ := hj_19.obj e_8
  obtain ⟨z_25, z_26, z_27, z_28, z_29, z_30, z_31, rfl⟩ := smX0 h_24
  obtain ⟨f_33, e_32⟩ := hj_19.arrI e_9
  obtain ⟨f_35, e_34⟩ := hj_19.arrI e_12
  obtain ⟨f_37, e_36⟩ := hj_19.arrI e_15
  have hsm := hsm.tr (hj_19.mono (by decide))
  have hlp_20 := hj_19
  refine lv_iload_n hx hb dX0_keepBest_10 rfl (lv_at hl 0 rfl) ?_
  refine lv_aload_n hx hb dX0_keepBest_11 rfl (lv_at hl 1 rfl) ?_
  refine va_get (D := D) (ci := 0) (v := .int z_26) (C := RX0) (T := TX0) (N := 14) hx hb hts hin0 hown hK hP kbl e_22 rfl 8 (by decide) (hts (.fieldLink RX0 33 "HoneyHouse$Blender" "tankCount" "I") (List.mem_of_getElem? (i := 2) rfl)) (fun _ h9 => h9) rfl dX0_keepBest_12 ?_
  refine lv_icmp_ge (tgt := 61) hx hb dX0_keepBest_15 (by decide) (fun c_38 => ?_) (fun c_38 => ?_)
  · refine lv_aload_n hx hb dX0_keepBest_61 rfl (lv_at hl 1 rfl) ?_
    refine lv_iconst (v := 1) hx hb dX0_keepBest_62 (by decide) ?_
    refine va_put (D := D) (ci := 0) (v := .int 1) (ty := .boolean) (C := RX0) (T := TX0) (N := 14) hx hb hts hin0 tyX0 tyX0_ok nmX0 hown hK hP hD hS kbl e_22 rfl 1 (by decide) (hts (.fieldLink RX0 78 "HoneyHouse$Blender" "hasTold" "Z") (List.mem_of_getElem? (i := 5) rfl)) (fun _ h9 => h9) rfl (tyX0_ok 1 (by decide)) rfl rfl (Nat.le_of_ble_eq_true rfl) dX0_keepBest_63 (fun H locs hP hD hS => ?_)
    have hP : va_P D vwCl (ws_18.set kbl (bl, .inr (0, [.ref b0, .int 1, .ref b2, .ref b3, .ref b4, .ref b5, .ref b6, .ref b7, .int z_26, .int z_27, .int z_28, .int z_29, .int z_30, .int z_31]))) H := hP
    have hD : va_D A (ws_18.set kbl (bl, .inr (0, [.ref b0, .int 1, .ref b2, .ref b3, .ref b4, .ref b5, .ref b6, .ref b7, .int z_26, .int z_27, .int z_28, .int z_29, .int z_30, .int z_31]))) := hD
    have hm_40 : sm ρ [0] ws_18 (ws_18.set kbl (bl, .inr (0, [.ref b0, .int 1, .ref b2, .ref b3, .ref b4, .ref b5, .ref b6, .ref b7, .int z_26, .int z_27, .int z_28, .int z_29, .int z_30, .int z_31]))) := sm.flds e_22 (smF.c (smV.rf _) (smF.c (smV.i _ _) (smF.c (smV.rf _) (smF.c (smV.rf _) (smF.c (smV.rf _) (smF.c (smV.rf _) (smF.c (smV.rf _) (smF.c (smV.rf _) (smF.c (smV.rf _) (smF.c (smV.rf _) (smF.c (smV.rf _) (smF.c (smV.rf _) (smF.c (smV.rf _) (smF.c (smV.rf _) (rfl))))))))))))))) (List.mem_singleton.mpr rfl) w_kbl
    have e_41 : (ws_18.set kbl (bl, .inr (0, [.ref b0, .int 1, .ref b2, .ref b3, .ref b4, .ref b5, .ref b6, .ref b7, .int z_26, .int z_27, .int z_28, .int z_29, .int z_30, .int z_31])))[kbl]? = some (bl, .inr (0, [.ref b0, .int 1, .ref b2, .ref b3, .ref b4, .ref b5, .ref b6, .ref b7, .int z_26, .int z_27, .int z_28, .int z_29, .int z_30, .int z_31])) := wset_self e_22
    generalize ws_18.set kbl (bl, .inr (0, [.ref b0, .int 1, .ref b2, .ref b3, .ref b4, .ref b5, .ref b6, .ref b7, .int z_26, .int z_27, .int z_28, .int z_29, .int z_30, .int z_31])) = ws_39 at hP hD hm_40 e_41
    obtain ⟨f_43, e_42⟩ := hm_40.arrI e_32
    obtain ⟨f_45, e_44⟩ := hm_40.arrI e_34
    obtain ⟨f_47, e_46⟩ := hm_40.arrI e_36
    have hsm := hsm.tr (hm_40.mono (by decide))
    have hlp_20 := hlp_20.tr (hm_40.mono (by decide))
    exact W.vret hx hb hr (fun t ht hW => ⟨⟨(), rfl, trivial, ws_39, ty_4, hsm, htx, by rw [ht]; exact hP, va_K.moved hW.alike hK, hD, trivial⟩, hS.F ht⟩) hS.2.2 dX0_keepBest_66
  refine lv_iload_n hx hb dX0_keepBest_18 rfl (lv_at hl 0 rfl) ?_
  refine lv_iconst (v := 4) hx hb dX0_keepBest_19 (by decide) ?_
  refine lv_icmp_ge (tgt := 61) hx hb dX0_keepBest_20 (by decide) (fun c_48 => ?_) (fun c_48 => ?_)
  · refine lv_aload_n hx hb dX0_keepBest_61 rfl (lv_at hl 1 rfl) ?_
    refine lv_iconst (v := 1) hx hb dX0_keepBest_62 (by decide) ?_
    refine va_put (D := D) (ci := 0) (v := .int 1) (ty := .boolean) (C := RX0) (T := TX0) (N := 14) hx hb hts hin0 tyX0 tyX0_ok nmX0 hown hK hP hD hS kbl e_22 rfl 1 (by decide) (hts (.fieldLink RX0 78 "HoneyHouse$Blender" "hasTold" "Z") (List.mem_of_getElem? (i := 5) rfl)) (fun _ h9 => h9) rfl (tyX0_ok 1 (by decide)) rfl rfl (Nat.le_of_ble_eq_true rfl) dX0_keepBest_63 (fun H locs hP hD hS => ?_)
    have hP : va_P D vwCl (ws_18.set kbl (bl, .inr (0, [.ref b0, .int 1, .ref b2, .ref b3, .ref b4, .ref b5, .ref b6, .ref b7, .int z_26, .int z_27, .int z_28, .int z_29, .int z_30, .int z_31]))) H := hP
    have hD : va_D A (ws_18.set kbl (bl, .inr (0, [.ref b0, .int 1, .ref b2, .ref b3, .ref b4, .ref b5, .ref b6, .ref b7, .int z_26, .int z_27, .int z_28, .int z_29, .int z_30, .int z_31]))) := hD
    have hm_50 : sm ρ [0] ws_18 (ws_18.set kbl (bl, .inr (0, [.ref b0, .int 1, .ref b2, .ref b3, .ref b4, .ref b5, .ref b6, .ref b7, .int z_26, .int z_27, .int z_28, .int z_29, .int z_30, .int z_31]))) := sm.flds e_22 (smF.c (smV.rf _) (smF.c (smV.i _ _) (smF.c (smV.rf _) (smF.c (smV.rf _) (smF.c (smV.rf _) (smF.c (smV.rf _) (smF.c (smV.rf _) (smF.c (smV.rf _) (smF.c (smV.rf _) (smF.c (smV.rf _) (smF.c (smV.rf _) (smF.c (smV.rf _) (smF.c (smV.rf _) (smF.c (smV.rf _) (rfl))))))))))))))) (List.mem_singleton.mpr rfl) w_kbl
    have e_51 : (ws_18.set kbl (bl, .inr (0, [.ref b0, .int 1, .ref b2, .ref b3, .ref b4, .ref b5, .ref b6, .ref b7, .int z_26, .int z_27, .int z_28, .int z_29, .int z_30, .int z_31])))[kbl]? = some (bl, .inr (0, [.ref b0, .int 1, .ref b2, .ref b3, .ref b4, .ref b5, .ref b6, .ref b7, .int z_26, .int z_27, .int z_28, .int z_29, .int z_30, .int z_31])) := wset_self e_22
    generalize ws_18.set kbl (bl, .inr (0, [.ref b0, .int 1, .ref b2, .ref b3, .ref b4, .ref b5, .ref b6, .ref b7, .int z_26, .int z_27, .int z_28, .int z_29, .int z_30, .int z_31])) = ws_49 at hP hD hm_50 e_51
    obtain ⟨f_53, e_52⟩ := hm_50.arrI e_32
    obtain ⟨f_55, e_54⟩ := hm_50.arrI e_34
    obtain ⟨f_57, e_56⟩ := hm_50.arrI e_36
    have hsm := hsm.tr (hm_50.mono (by decide))
    have hlp_20 := hlp_20.tr (hm_50.mono (by decide))
    exact W.vret hx hb hr (fun t ht hW => ⟨⟨(), rfl, trivial, ws_49, ty_4, hsm, htx, by rw [ht]; exact hP, va_K.moved hW.alike hK, hD, trivial⟩, hS.F ht⟩) hS.2.2 dX0_keepBest_66
  have hlt : i < 4 := i_lt_of hi (by omega) rfl c_48
  refine lv_aload_n hx hb dX0_keepBest_23 rfl (lv_at hl 1 rfl) ?_
  refine va_get (D := D) (ci := 0) (v := .ref b2) (C := RX0) (T := TX0) (N := 14) hx hb hts hin0 hown hK hP kbl e_22 rfl 2 (by decide) (hts (.fieldLink RX0 15 "HoneyHouse$Blender" "tankNumbers" "[I") (List.mem_of_getElem? (i := 3) rfl)) (fun _ h9 => h9) rfl dX0_keepBest_24 ?_
  refine lv_iload_n hx hb dX0_keepBest_27 rfl (lv_at hl 0 rfl) ?_
  refine va_iald (f := f_35) (n := 4) hx hb hK hP kb2 tb2 e_34 u_14 (vp_in_nI hlt (by omega)) dX0_keepBest_28 ?_
  refine lv_istore_n (lv' := [(2, .int (f_35 (nI i).toNatClampNeg)), (1, .int (nI i)), (0, .ref bl)]) hx hb dX0_keepBest_29 rfl hl (by decide) rfl (fun ls hl => ?_)
  refine lv_iload_n hx hb dX0_keepBest_30 rfl (lv_at hl 0 rfl) ?_
  refine lv_if_lt (tgt := 55) hx hb dX0_keepBest_31 (by decide) (fun c_58 => ?_) (fun c_58 => ?_)
  · refine lv_iinc (v := nI (i + 1)) (lv' := [(1, .int (nI (i + 1))), (2, .int (f_35 (nI i).toNatClampNeg)), (0, .ref bl)]) hx hb dX0_keepBest_55 hl (k := 1) rfl (nI_1 i) (by decide) rfl (fun ls hl => ?_)
    refine lv_goto (tgt := 10) hx hb dX0_keepBest_58 (by decide) ?_
    exact ih hlt () _ _ _ ls hlp_20 hP hD hS (lv_sub hl [0, 2] rfl)
  refine lv_iload_n hx hb dX0_keepBest_34 rfl (lv_at hl 0 rfl) ?_
  refine lv_aload_n hx hb dX0_keepBest_35 rfl (lv_at hl 2 rfl) ?_
  refine va_get (D := D) (ci := 0) (v := .ref b0) (C := RX0) (T := TX0) (N := 14) hx hb hts hin0 hown hK hP kbl e_22 rfl 0 (by decide) (hts (.fieldLink RX0 9 "HoneyHouse$Blender" "toldParts" "[I") (List.mem_of_getElem? (i := 1) rfl)) (fun _ h9 => h9) rfl dX0_keepBest_36 ?_
  refine va_alen (v := 10) hx hb hK hP kb0 tb0 e_32 u_11 rfl dX0_keepBest_39 ?_
  refine lv_icmp_ge (tgt := 55) hx hb dX0_keepBest_40 (by decide) (fun c_59 => ?_) (fun c_59 => ?_)
  · refine lv_iinc (v := nI (i + 1)) (lv' := [(1, .int (nI (i + 1))), (2, .int (f_35 (nI i).toNatClampNeg)), (0, .ref bl)]) hx hb dX0_keepBest_55 hl (k := 1) rfl (nI_1 i) (by decide) rfl (fun ls hl => ?_)
    refine lv_goto (tgt := 10) hx hb dX0_keepBest_58 (by decide) ?_
    exact ih hlt () _ _ _ ls hlp_20 hP hD hS (lv_sub hl [0, 2] rfl)
  refine lv_aload_n hx hb dX0_keepBest_43 rfl (lv_at hl 2 rfl) ?_
  refine va_get (D := D) (ci := 0) (v := .ref b0) (C := RX0) (T := TX0) (N := 14) hx hb hts hin0 hown hK hP kbl e_22 rfl 0 (by decide) (hts (.fieldLink RX0 9 "HoneyHouse$Blender" "toldParts" "[I") (List.mem_of_getElem? (i := 1) rfl)) (fun _ h9 => h9) rfl dX0_keepBest_44 ?_
  refine lv_iload_n hx hb dX0_keepBest_47 rfl (lv_at hl 0 rfl) ?_
  refine lv_aload_n hx hb dX0_keepBest_48 rfl (lv_at hl 2 rfl) ?_
  refine va_get (D := D) (ci := 0) (v := .ref b7) (C := RX0) (T := TX0) (N := 14) hx hb hts hin0 hown hK hP kbl e_22 rfl 7 (by decide) (hts (.fieldLink RX0 30 "HoneyHouse$Blender" "best" "[I") (List.mem_of_getElem? (i := 4) rfl)) (fun _ h9 => h9) rfl dX0_keepBest_49 ?_
  refine lv_iload_n hx hb dX0_keepBest_52 rfl (lv_at hl 1 rfl) ?_
  refine va_iald (f := f_37) (n := 4) hx hb hK hP kb7 tb7 e_36 u_17 (vp_in_nI hlt (by omega)) dX0_keepBest_53 ?_
  refine va_iast (f := f_33) (n := 10) hx hb hK hP hD hS kb0 tb0 e_32 u_11 (i_in10 c_58 c_59) dX0_keepBest_54 (fun H locs hP hD hS => ?_)
  have hm_61 : sm ρ [] ws_18 (ws_18.set kb0 (b0, .inl (cb0, 10, .inl (upd f_33 (f_35 (nI i).toNatClampNeg).toNatClampNeg (f_37 (nI i).toNatClampNeg))))) := sm.ints e_32 w_kb0
  have e_62 : (ws_18.set kb0 (b0, .inl (cb0, 10, .inl (upd f_33 (f_35 (nI i).toNatClampNeg).toNatClampNeg (f_37 (nI i).toNatClampNeg)))))[kb0]? = some (b0, .inl (cb0, 10, .inl (upd f_33 (f_35 (nI i).toNatClampNeg).toNatClampNeg (f_37 (nI i).toNatClampNeg)))) := wset_self e_32
  generalize ws_18.set kb0 (b0, .inl (cb0, 10, .inl (upd f_33 (f_35 (nI i).toNatClampNeg).toNatClampNeg (f_37 (nI i).toNatClampNeg)))) = ws_60 at hP hD hm_61 e_62
  have e_63 := hm_61.objK e_22 (by decide)
  obtain ⟨f_65, e_64⟩ := hm_61.arrI e_34
  obtain ⟨f_67, e_66⟩ := hm_61.arrI e_36
  have hsm := hsm.tr (hm_61.mono (fun _ h9 => absurd h9 List.not_mem_nil))
  have hlp_20 := hlp_20.tr (hm_61.mono (fun _ h9 => absurd h9 List.not_mem_nil))
  generalize upd f_33 (f_35 (nI i).toNatClampNeg).toNatClampNeg (f_37 (nI i).toNatClampNeg) = f_68 at e_62
  refine lv_iinc (v := nI (i + 1)) (lv' := [(1, .int (nI (i + 1))), (2, .int (f_35 (nI i).toNatClampNeg)), (0, .ref bl)]) hx hb dX0_keepBest_55 hl (k := 1) rfl (nI_1 i) (by decide) rfl (fun ls hl => ?_)
  refine lv_goto (tgt := 10) hx hb dX0_keepBest_58 (by decide) ?_
  exact ih hlt () _ _ _ ls hlp_20 hP hD hS (lv_sub hl [0, 2] rfl)
