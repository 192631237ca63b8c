theorem dX0_isWithin_0 : decode cX0_isWithin 0 = .ok (.iload_n 1, 1) := by decide +kernel
theorem dX0_isWithin_1 : decode cX0_isWithin 1 = .ok (.aload_n 0, 1) := by decide +kernel
theorem dX0_isWithin_2 : decode cX0_isWithin 2 = .ok (.getfield 46, 3) := by decide +kernel
theorem dX0_isWithin_5 : decode cX0_isWithin 5 = .ok (.if_icmp .gt 23, 3) := by decide +kernel
theorem dX0_isWithin_8 : decode cX0_isWithin 8 = .ok (.iload_n 2, 1) := by decide +kernel
theorem dX0_isWithin_9 : decode cX0_isWithin 9 = .ok (.aload_n 0, 1) := by decide +kernel
theorem dX0_isWithin_10 : decode cX0_isWithin 10 = .ok (.getfield 49, 3) := by decide +kernel
theorem dX0_isWithin_13 : decode cX0_isWithin 13 = .ok (.if_icmp .lt 15, 3) := by decide +kernel
theorem dX0_isWithin_16 : decode cX0_isWithin 16 = .ok (.iload_n 2, 1) := by decide +kernel
theorem dX0_isWithin_17 : decode cX0_isWithin 17 = .ok (.aload_n 0, 1) := by decide +kernel
theorem dX0_isWithin_18 : decode cX0_isWithin 18 = .ok (.getfield 52, 3) := by decide +kernel
theorem dX0_isWithin_21 : decode cX0_isWithin 21 = .ok (.if_icmp .gt 7, 3) := by decide +kernel
theorem dX0_isWithin_24 : decode cX0_isWithin 24 = .ok (.iconst 1, 1) := by decide +kernel
theorem dX0_isWithin_25 : decode cX0_isWithin 25 = .ok (.goto 4, 3) := by decide +kernel
theorem dX0_isWithin_28 : decode cX0_isWithin 28 = .ok (.iconst 0, 1) := by decide +kernel
theorem dX0_isWithin_29 : decode cX0_isWithin 29 = .ok (.ireturn, 1) := by decide +kernel
theorem dX0_begin_0 : decode cX0_begin 0 = .ok (.aload_n 0, 1) := by decide +kernel
theorem dX0_begin_1 : decode cX0_begin 1 = .ok (.iconst 0, 1) := by decide +kernel
theorem dX0_begin_2 : decode cX0_begin 2 = .ok (.putfield 33, 3) := by decide +kernel
theorem dX0_begin_5 : decode cX0_begin 5 = .ok (.aload_n 0, 1) := by decide +kernel
theorem dX0_begin_6 : decode cX0_begin 6 = .ok (.getfield 18, 3) := by decide +kernel
theorem dX0_begin_9 : decode cX0_begin 9 = .ok (.iconst 0, 1) := by decide +kernel
theorem dX0_begin_10 : decode cX0_begin 10 = .ok (.invokestatic 37, 3) := by decide +kernel
theorem dX0_begin_13 : decode cX0_begin 13 = .ok (.aload_n 0, 1) := by decide +kernel
theorem dX0_begin_14 : decode cX0_begin 14 = .ok (.iload_n 1, 1) := by decide +kernel
theorem dX0_begin_15 : decode cX0_begin 15 = .ok (.putfield 43, 3) := by decide +kernel
theorem dX0_begin_18 : decode cX0_begin 18 = .ok (.aload_n 0, 1) := by decide +kernel
theorem dX0_begin_19 : decode cX0_begin 19 = .ok (.iload_n 1, 1) := by decide +kernel
theorem dX0_begin_20 : decode cX0_begin 20 = .ok (.bipush 10, 2) := by decide +kernel
theorem dX0_begin_22 : decode cX0_begin 22 = .ok (.imul, 1) := by decide +kernel
theorem dX0_begin_23 : decode cX0_begin 23 = .ok (.iload_n 2, 1) := by decide +kernel
theorem dX0_begin_24 : decode cX0_begin 24 = .ok (.imul, 1) := by decide +kernel
theorem dX0_begin_25 : decode cX0_begin 25 = .ok (.putfield 46, 3) := by decide +kernel
theorem dX0_begin_28 : decode cX0_begin 28 = .ok (.aload_n 0, 1) := by decide +kernel
theorem dX0_begin_29 : decode cX0_begin 29 = .ok (.iload_n 1, 1) := by decide +kernel
theorem dX0_begin_30 : decode cX0_begin 30 = .ok (.bipush 10, 2) := by decide +kernel
theorem dX0_begin_32 : decode cX0_begin 32 = .ok (.imul, 1) := by decide +kernel
theorem dX0_begin_33 : decode cX0_begin 33 = .ok (.iload_n 3, 1) := by decide +kernel
theorem dX0_begin_34 : decode cX0_begin 34 = .ok (.imul, 1) := by decide +kernel
theorem dX0_begin_35 : decode cX0_begin 35 = .ok (.putfield 49, 3) := by decide +kernel
theorem dX0_begin_38 : decode cX0_begin 38 = .ok (.aload_n 0, 1) := by decide +kernel
theorem dX0_begin_39 : decode cX0_begin 39 = .ok (.iload_n 1, 1) := by decide +kernel
theorem dX0_begin_40 : decode cX0_begin 40 = .ok (.bipush 10, 2) := by decide +kernel
theorem dX0_begin_42 : decode cX0_begin 42 = .ok (.imul, 1) := by decide +kernel
theorem dX0_begin_43 : decode cX0_begin 43 = .ok (.iload 4, 2) := by decide +kernel
theorem dX0_begin_45 : decode cX0_begin 45 = .ok (.imul, 1) := by decide +kernel
theorem dX0_begin_46 : decode cX0_begin 46 = .ok (.putfield 52, 3) := by decide +kernel
theorem dX0_begin_49 : decode cX0_begin 49 = .ok (.return_, 1) := by decide +kernel
theorem dX0_addTank_0 : decode cX0_addTank 0 = .ok (.aload_n 0, 1) := by decide +kernel
theorem dX0_addTank_1 : decode cX0_addTank 1 = .ok (.getfield 33, 3) := by decide +kernel
theorem dX0_addTank_4 : decode cX0_addTank 4 = .ok (.iconst 4, 1) := by decide +kernel
theorem dX0_addTank_5 : decode cX0_addTank 5 = .ok (.if_icmp .lt 4, 3) := by decide +kernel
theorem dX0_addTank_8 : decode cX0_addTank 8 = .ok (.return_, 1) := by decide +kernel
theorem dX0_addTank_9 : decode cX0_addTank 9 = .ok (.aload_n 0, 1) := by decide +kernel
theorem dX0_addTank_10 : decode cX0_addTank 10 = .ok (.getfield 15, 3) := by decide +kernel
theorem dX0_addTank_13 : decode cX0_addTank 13 = .ok (.aload_n 0, 1) := by decide +kernel
theorem dX0_addTank_14 : decode cX0_addTank 14 = .ok (.getfield 33, 3) := by decide +kernel
theorem dX0_addTank_17 : decode cX0_addTank 17 = .ok (.iload_n 1, 1) := by decide +kernel
theorem dX0_addTank_18 : decode cX0_addTank 18 = .ok (.iastore, 1) := by decide +kernel
theorem dX0_addTank_19 : decode cX0_addTank 19 = .ok (.aload_n 0, 1) := by decide +kernel
theorem dX0_addTank_20 : decode cX0_addTank 20 = .ok (.getfield 18, 3) := by decide +kernel
theorem dX0_addTank_23 : decode cX0_addTank 23 = .ok (.aload_n 0, 1) := by decide +kernel
theorem dX0_addTank_24 : decode cX0_addTank 24 = .ok (.getfield 33, 3) := by decide +kernel
theorem dX0_addTank_27 : decode cX0_addTank 27 = .ok (.iload_n 2, 1) := by decide +kernel
theorem dX0_addTank_28 : decode cX0_addTank 28 = .ok (.iastore, 1) := by decide +kernel
theorem dX0_addTank_29 : decode cX0_addTank 29 = .ok (.aload_n 0, 1) := by decide +kernel
theorem dX0_addTank_30 : decode cX0_addTank 30 = .ok (.getfield 21, 3) := by decide +kernel
theorem dX0_addTank_33 : decode cX0_addTank 33 = .ok (.aload_n 0, 1) := by decide +kernel
theorem dX0_addTank_34 : decode cX0_addTank 34 = .ok (.getfield 33, 3) := by decide +kernel
theorem dX0_addTank_37 : decode cX0_addTank 37 = .ok (.iload_n 3, 1) := by decide +kernel
theorem dX0_addTank_38 : decode cX0_addTank 38 = .ok (.iastore, 1) := by decide +kernel
theorem dX0_addTank_39 : decode cX0_addTank 39 = .ok (.aload_n 0, 1) := by decide +kernel
theorem dX0_addTank_40 : decode cX0_addTank 40 = .ok (.getfield 24, 3) := by decide +kernel
theorem dX0_addTank_43 : decode cX0_addTank 43 = .ok (.aload_n 0, 1) := by decide +kernel
theorem dX0_addTank_44 : decode cX0_addTank 44 = .ok (.getfield 33, 3) := by decide +kernel
theorem dX0_addTank_47 : decode cX0_addTank 47 = .ok (.iload 4, 2) := by decide +kernel
theorem dX0_addTank_49 : decode cX0_addTank 49 = .ok (.iastore, 1) := by decide +kernel
theorem dX0_addTank_50 : decode cX0_addTank 50 = .ok (.aload_n 0, 1) := by decide +kernel
theorem dX0_addTank_51 : decode cX0_addTank 51 = .ok (.getfield 27, 3) := by decide +kernel
theorem dX0_addTank_54 : decode cX0_addTank 54 = .ok (.aload_n 0, 1) := by decide +kernel
theorem dX0_addTank_55 : decode cX0_addTank 55 = .ok (.getfield 33, 3) := by decide +kernel
theorem dX0_addTank_58 : decode cX0_addTank 58 = .ok (.iload 5, 2) := by decide +kernel
theorem dX0_addTank_60 : decode cX0_addTank 60 = .ok (.iastore, 1) := by decide +kernel
theorem dX0_addTank_61 : decode cX0_addTank 61 = .ok (.aload_n 0, 1) := by decide +kernel
theorem dX0_addTank_62 : decode cX0_addTank 62 = .ok (.dup, 1) := by decide +kernel
theorem dX0_addTank_63 : decode cX0_addTank 63 = .ok (.getfield 33, 3) := by decide +kernel
theorem dX0_addTank_66 : decode cX0_addTank 66 = .ok (.iconst 1, 1) := by decide +kernel
theorem dX0_addTank_67 : decode cX0_addTank 67 = .ok (.iadd, 1) := by decide +kernel
theorem dX0_addTank_68 : decode cX0_addTank 68 = .ok (.putfield 33, 3) := by decide +kernel
theorem dX0_addTank_71 : decode cX0_addTank 71 = .ok (.return_, 1) := by decide +kernel
set_option maxRecDepth 20000 in
theorem ggX0_begin_J7_fill_53178 : GoodIn wsX0_begin wsJ7_fill_53178 := goodIn_r _ [10] rfl (by decide +kernel)
set_option maxRecDepth 20000 in
theorem gX0_begin_J7_fill_53178 : GoodIn wsX0_begin (va_wsS RX0 37 yJ7_fill_53178 wsJ7_fill_53178) := goodIn_app (goodIn_of _ (by decide +kernel)) ggX0_begin_J7_fill_53178
set_option maxHeartbeats 4000000 in
set_option maxRecDepth 100000 in
theorem s_isWithin (l : Launch) (D : va_G) (ws : va_W) (tys : List (ClassId × FieldType)) (bl kbl b0 b2 b3 b4 b5 b6 b7 : Nat) (b1 b8 b9 b10 b11 b12 b13 : Int32) (a1 a2 : Int32) (ebl : ws[kbl]? = some (bl, .inr (0, [.ref b0, .int b1, .ref b2, .ref b3, .ref b4, .ref b5, .ref b6, .ref b7, .int b8, .int b9, .int b10, .int b11, .int b12, .int b13]))) : Met l yX0_isWithin wsX0_isWithin ({ frames := 0, cells := 0, slots := 0, locals := 0 }) (va_Pc [.ref bl, .int a1, .int a2] (fun U => va_P D vwCl ws U.heap ∧ va_K D vwCl tys U)) (vp_Si (fun r => r = 0 ∨ r = 1)) 0 0 (fun _ => False) := by
  refine Met.ofW (cc := cX0_isWithin) (maxL := 3) (ret := (some .boolean)) (by decide) rfl ?_
  intro p e s m args below meth c s₁ B hml hv
  obtain ⟨rfl, hP, hK⟩ := hv
  have hx := B.exec
  have hb := B.bytes
  have hr := B.returns
  have hts := atoms_spec (ws := wsX0_isWithin) B.pre
  have hown : s.vm.findClass RX0 = some m.cls := findClass_of_methodNamed B.named
  have hlocks := B.notSynchronized
  have hin0 : ∀ w ∈ u_ws RX0 TX0 14, w ∈ wsX0_isWithin := (fun _ h9 => List.mem_cons_of_mem _ ((List.mem_append_right _ h9)))
  have hl := lv_entry ([.ref bl, .int a1, .int a2]) (n := 3) (Nat.le_of_ble_eq_true rfl)
  rw [lg_entry_eq]
  generalize (lg_sl ([.ref bl, .int a1, .int a2]) ++ List.replicate (3 - (lg_sl ([.ref bl, .int a1, .int a2])).length) Slot.unset).toArray = ls at hl ⊢
  have hl : lv_has ls 3 [(0, .ref bl), (1, .int a1), (2, .int a2)] := hl
  refine lv_iload_n hx hb dX0_isWithin_0 rfl (lv_at hl 1 rfl) ?_
  refine lv_aload_n hx hb dX0_isWithin_1 rfl (lv_at hl 0 rfl) ?_
  refine va_get (D := D) (ci := 0) (v := .int b11) (C := RX0) (T := TX0) (N := 14) hx hb hts hin0 hown hK hP kbl ebl rfl 11 (by decide) (hts (.fieldLink RX0 46 "HoneyHouse$Blender" "mostWater" "I") (List.mem_of_getElem? (i := 1) rfl)) (fun _ h9 => h9) rfl dX0_isWithin_2 ?_
  refine lv_icmp_gt (tgt := 28) hx hb dX0_isWithin_5 (by decide) (fun c_1 => ?_) (fun c_1 => ?_)
  · refine lv_iconst (v := 0) hx hb dX0_isWithin_28 (by decide) ?_
    exact W.zret (v := 0) hx hb hr rfl (fun t ht hW => ⟨0, rfl, Or.inl rfl, ht⟩) (fun _ h9 => by cases h9) dX0_isWithin_29
  refine lv_iload_n hx hb dX0_isWithin_8 rfl (lv_at hl 2 rfl) ?_
  refine lv_aload_n hx hb dX0_isWithin_9 rfl (lv_at hl 0 rfl) ?_
  refine va_get (D := D) (ci := 0) (v := .int b12) (C := RX0) (T := TX0) (N := 14) hx hb hts hin0 hown hK hP kbl ebl rfl 12 (by decide) (hts (.fieldLink RX0 49 "HoneyHouse$Blender" "leastColour" "I") (List.mem_of_getElem? (i := 2) rfl)) (fun _ h9 => h9) rfl dX0_isWithin_10 ?_
  refine lv_icmp_lt (tgt := 28) hx hb dX0_isWithin_13 (by decide) (fun c_2 => ?_) (fun c_2 => ?_)
  · refine lv_iconst (v := 0) hx hb dX0_isWithin_28 (by decide) ?_
    exact W.zret (v := 0) hx hb hr rfl (fun t ht hW => ⟨0, rfl, Or.inl rfl, ht⟩) (fun _ h9 => by cases h9) dX0_isWithin_29
  refine lv_iload_n hx hb dX0_isWithin_16 rfl (lv_at hl 2 rfl) ?_
  refine lv_aload_n hx hb dX0_isWithin_17 rfl (lv_at hl 0 rfl) ?_
  refine va_get (D := D) (ci := 0) (v := .int b13) (C := RX0) (T := TX0) (N := 14) hx hb hts hin0 hown hK hP kbl ebl rfl 13 (by decide) (hts (.fieldLink RX0 52 "HoneyHouse$Blender" "mostColour" "I") (List.mem_of_getElem? (i := 3) rfl)) (fun _ h9 => h9) rfl dX0_isWithin_18 ?_
  refine lv_icmp_gt (tgt := 28) hx hb dX0_isWithin_21 (by decide) (fun c_3 => ?_) (fun c_3 => ?_)
  · refine lv_iconst (v := 0) hx hb dX0_isWithin_28 (by decide) ?_
    exact W.zret (v := 0) hx hb hr rfl (fun t ht hW => ⟨0, rfl, Or.inl rfl, ht⟩) (fun _ h9 => by cases h9) dX0_isWithin_29
  refine lv_iconst (v := 1) hx hb dX0_isWithin_24 (by decide) ?_
  refine lv_goto (tgt := 29) hx hb dX0_isWithin_25 (by decide) ?_
  exact W.zret (v := 1) hx hb hr rfl (fun t ht hW => ⟨1, rfl, Or.inr rfl, ht⟩) (fun _ h9 => by cases h9) dX0_isWithin_29
set_option maxHeartbeats 4000000 in
set_option maxRecDepth 100000 in
theorem a_begin (l : Launch) (D : va_G) (ρ : Nat → Nat) (ws : va_W) (tys : List (ClassId × FieldType)) (bl kbl b0 b2 b3 b4 b5 b6 b7 : Nat) (b1 b8 b9 b10 b11 b12 b13 : Int32) (kb3 : Nat) (cb3 : ClassId) (tb3 : Nat) (fb3 : Nat → Int32) (a1 a2 a3 a4 : Int32) (sz : Nat) (ebl : ws[kbl]? = some (bl, .inr (0, [.ref b0, .int b1, .ref b2, .ref b3, .ref b4, .ref b5, .ref b6, .ref b7, .int b8, .int b9, .int b10, .int b11, .int b12, .int b13]))) (eb3 : ws[kb3]? = some (b3, .inl (cb3, 4, .inl fb3))) (ub3 : tys[tb3]? = some (cb3, .int)) (w_kbl : ρ kbl = 0) (w_kb3 : ρ kb3 = 0) : Met l yX0_begin wsX0_begin ({ frames := 1, cells := 0, slots := 0, locals := 23 }) (va_Pc [.ref bl, .int a1, .int a2, .int a3, .int a4] (fun U => U.heap.size = sz ∧ va_P D vwCl ws U.heap ∧ va_K D vwCl tys U ∧ va_D (fun _ => True) ws)) (va_Qv (fun _ : Unit => True) (fun (_ : Unit) (t : State) => ∃ (ws' : va_W) (tys' : List (ClassId × FieldType)), sm ρ [0] ws ws' ∧ tyx tys tys' ∧ va_P D vwCl ws' t.heap ∧ va_K D vwCl tys' t ∧ va_D (va_A ws sz) ws' ∧ (∃ (y1 y2 y3 : Int32), ws'[kbl]? = some (bl, .inr (0, [.ref b0, .int b1, .ref b2, .ref b3, .ref b4, .ref b5, .ref b6, .ref b7, .int 0, .int b9, .int a1, .int y1, .int y2, .int y3])))) (va_A ws sz)) 0 0 (va_A ws sz) := by
  refine Met.ofW (cc := cX0_begin) (maxL := 5) (ret := none) (by decide) rfl ?_
  intro p e s m args below meth c s₁ B hml hv
  obtain ⟨rfl, hsz, hP, hK, hD0⟩ := hv
  have hx := B.exec
  have hb := B.bytes
  have hr := B.returns
  have hts := atoms_spec (ws := wsX0_begin) B.pre
  have hown : s.vm.findClass RX0 = some m.cls := findClass_of_methodNamed B.named
  have hlocks := B.notSynchronized
  subst hsz
  have hD := hD0.self (sz := s.heap.size)
  generalize hAe : va_A ws s.heap.size = A at hD ⊢
  have hA : ∀ q : Nat, s.heap.size ≤ q → A q := fun q h => by rw [← hAe]; exact Or.inr h
  have hS : va_S A s.heap s.heap [] := va_S.rf
  have hsm : sm ρ [0] ws ws := sm.rf ws
  have htx : tyx tys tys := tyx.rf tys
  have hin0 : ∀ w ∈ u_ws RX0 TX0 14, w ∈ wsX0_begin := (fun _ h9 => List.mem_cons_of_mem _ ((List.mem_append_right _ h9)))
  have hl := lv_entry ([.ref bl, .int a1, .int a2, .int a3, .int a4]) (n := 5) (Nat.le_of_ble_eq_true rfl)
  rw [lg_entry_eq]
  generalize (lg_sl ([.ref bl, .int a1, .int a2, .int a3, .int a4]) ++ List.replicate (5 - (lg_sl ([.ref bl, .int a1, .int a2, .int a3, .int a4])).length) Slot.unset).toArray = ls at hl ⊢
  have hl : lv_has ls 5 [(0, .ref bl), (1, .int a1), (2, .int a2), (3, .int a3), (4, .int a4)] := hl
  refine lv_aload_n hx hb dX0_begin_0 rfl (lv_at hl 0 rfl) ?_
  refine lv_iconst (v := 0) hx hb dX0_begin_1 (by decide) ?_
  refine va_put (D := D) (ci := 0) (v := .int 0) (ty := .int) (C := RX0) (T := TX0) (N := 14) hx hb hts hin0 tyX0 tyX0_ok nmX0 hown hK hP hD hS kbl ebl rfl 8 (by decide) (hts (.fieldLink RX0 33 "HoneyHouse$Blender" "tankCount" "I") (List.mem_of_getElem? (i := 1) rfl)) (fun _ h9 => h9) rfl (tyX0_ok 8 (by decide)) rfl rfl (Nat.le_of_ble_eq_true rfl) dX0_begin_2 (fun H locs hP hD hS => ?_)
  have hP : va_P D vwCl (ws.set kbl (bl, .inr (0, [.ref b0, .int b1, .ref b2, .ref b3, .ref b4, .ref b5, .ref b6, .ref b7, .int 0, .int b9, .int b10, .int b11, .int b12, .int b13]))) H := hP
  have hD : va_D A (ws.set kbl (bl, .inr (0, [.ref b0, .int b1, .ref b2, .ref b3, .ref b4, .ref b5, .ref b6, .ref b7, .int 0, .int b9, .int b10, .int b11, .int b12, .int b13]))) := hD
  have hm_2 : sm ρ [0] ws (ws.set kbl (bl, .inr (0, [.ref b0, .int b1, .ref b2, .ref b3, .ref b4, .ref b5, .ref b6, .ref b7, .int 0, .int b9, .int b10, .int b11, .int b12, .int b13]))) := sm.flds ebl (smF.c (smV.rf _) (smF.c (smV.rf _) (smF.c (smV.rf _) (smF.c (smV.rf _) (smF.c (smV.rf _) (smF.c (smV.rf _) (smF.c (smV.rf _) (smF.c (smV.rf _) (smF.c (smV.i _ _) (smF.c (smV.rf _) (smF.c (smV.rf _) (smF.c (smV.rf _) (smF.c (smV.rf _) (smF.c (smV.rf _) (rfl))))))))))))))) (List.mem_singleton.mpr rfl) w_kbl
  have e_3 : (ws.set kbl (bl, .inr (0, [.ref b0, .int b1, .ref b2, .ref b3, .ref b4, .ref b5, .ref b6, .ref b7, .int 0, .int b9, .int b10, .int b11, .int b12, .int b13])))[kbl]? = some (bl, .inr (0, [.ref b0, .int b1, .ref b2, .ref b3, .ref b4, .ref b5, .ref b6, .ref b7, .int 0, .int b9, .int b10, .int b11, .int b12, .int b13])) := wset_self ebl
  generalize ws.set kbl (bl, .inr (0, [.ref b0, .int b1, .ref b2, .ref b3, .ref b4, .ref b5, .ref b6, .ref b7, .int 0, .int b9, .int b10, .int b11, .int b12, .int b13])) = ws_1 at hP hD hm_2 e_3
  obtain ⟨f_5, e_4⟩ := hm_2.arrI eb3
  have hsm := hsm.tr (hm_2.mono (by decide))
  refine lv_aload_n hx hb dX0_begin_5 rfl (lv_at hl 0 rfl) ?_
  refine va_get (D := D) (ci := 0) (v := .ref b3) (C := RX0) (T := TX0) (N := 14) hx hb hts hin0 hown hK hP kbl e_3 rfl 3 (by decide) (hts (.fieldLink RX0 18 "HoneyHouse$Blender" "mostParts" "[I") (List.mem_of_getElem? (i := 2) rfl)) (fun _ h9 => h9) rfl dX0_begin_6 ?_
  refine lv_iconst (v := 0) hx hb dX0_begin_9 (by decide) ?_
  have hFc := free_all hD hS hA
  refine va_callv (va_runS (As := [.ref b3, .int 0]) (rest := []) ⟨hx, hb, hml, hown, hts⟩ (a_fill l D ρ ws_1 tys b3 kb3 cb3 tb3 4 f_5 0 H.size (by omega) e_4 ub3 w_kb3) (va_cwS 2 hts gX0_begin_J7_fill_53178 rfl rfl rfl (by decide +kernel) ⟨Nat.le_of_ble_eq_true rfl, Nat.le_of_ble_eq_true rfl⟩) ⟨fun a U g mk q => by obtain ⟨q0, q1, qP, qK, qD⟩ := q; exact ⟨q0, q1, qP, va_K.moved (u := U) (U := U.calling g mk a) (Vm.Alike.refl U.vm) qK, qD⟩, fun U hU hW => ⟨rfl, by rw [hU], by rw [hU]; exact hP, va_K.moved hW.alike hK, hD.weaken (fun _ _ _ _ => trivial)⟩⟩ rfl rfl hl.1 rfl (lv_room (Nat.le_of_ble_eq_true rfl)) dX0_begin_10 ⟨Nat.le_of_ble_eq_true rfl, Nat.le_of_ble_eq_true rfl⟩) hS (fun q _ h => hFc q h) hFc (fun u t H1 locs ht hvm w_7 hB hz1 hk1 hS => ?_)
  obtain ⟨ws_8, ty_9, hm_10, ht_12, hP1, hK1, hD1, hx_11⟩ := hB
  rw [ht] at hP1
  have hK := va_K.moved hvm.symm hK1
  have hD := hD1.weaken (fun _ _ _ h => hFc _ h)
  generalize H1 = H at hP1 hS ⊢
  have hP := hP1
  have e_13 := hm_10.objK e_3 (by decide)
  obtain ⟨f_15, e_14⟩ := hm_10.arrI e_4
  have u_16 := ht_12 _ _ ub3
  have hsm := hsm.tr (hm_10.mono (by decide))
  have htx := htx.tr ht_12
  refine lv_aload_n hx hb dX0_begin_13 rfl (lv_at hl 0 rfl) ?_
  refine lv_iload_n hx hb dX0_begin_14 rfl (lv_at hl 1 rfl) ?_
  refine va_put (D := D) (ci := 0) (v := .int a1) (ty := .int) (C := RX0) (T := TX0) (N := 14) hx hb hts hin0 tyX0 tyX0_ok nmX0 hown hK hP hD hS kbl e_13 rfl 10 (by decide) (hts (.fieldLink RX0 43 "HoneyHouse$Blender" "partsInAll" "I") (List.mem_of_getElem? (i := 3) rfl)) (fun _ h9 => h9) rfl (tyX0_ok 10 (by decide)) rfl rfl (Nat.le_of_ble_eq_true rfl) dX0_begin_15 (fun H locs hP hD hS => ?_)
  have hP : va_P D vwCl (ws_8.set kbl (bl, .inr (0, [.ref b0, .int b1, .ref b2, .ref b3, .ref b4, .ref b5, .ref b6, .ref b7, .int 0, .int b9, .int a1, .int b11, .int b12, .int b13]))) H := hP
  have hD : va_D A (ws_8.set kbl (bl, .inr (0, [.ref b0, .int b1, .ref b2, .ref b3, .ref b4, .ref b5, .ref b6, .ref b7, .int 0, .int b9, .int a1, .int b11, .int b12, .int b13]))) := hD
  have hm_18 : sm ρ [0] ws_8 (ws_8.set kbl (bl, .inr (0, [.ref b0, .int b1, .ref b2, .ref b3, .ref b4, .ref b5, .ref b6, .ref b7, .int 0, .int b9, .int a1, .int b11, .int b12, .int b13]))) := sm.flds e_13 (smF.c (smV.rf _) (smF.c (smV.rf _) (smF.c (smV.rf _) (smF.c (smV.rf _) (smF.c (smV.rf _) (smF.c (smV.rf _) (smF.c (smV.rf _) (smF.c (smV.rf _) (smF.c (smV.rf _) (smF.c (smV.rf _) (smF.c (smV.i _ _) (smF.c (smV.rf _) (smF.c (smV.rf _) (smF.c (smV.rf _) (rfl))))))))))))))) (List.mem_singleton.mpr rfl) w_kbl
  have e_19 : (ws_8.set kbl (bl, .inr (0, [.ref b0, .int b1, .ref b2, .ref b3, .ref b4, .ref b5, .ref b6, .ref b7, .int 0, .int b9, .int a1, .int b11, .int b12, .int b13])))[kbl]? = some (bl, .inr (0, [.ref b0, .int b1, .ref b2, .ref b3, .ref b4, .ref b5, .ref b6, .ref b7, .int 0, .int b9, .int a1, .int b11, .int b12, .int b13])) := wset_self e_13
  generalize ws_8.set kbl (bl, .inr (0, [.ref b0, .int b1, .ref b2, .ref b3, .ref b4, .ref b5, .ref b6, .ref b7, .int 0, .int b9, .int a1, .int b11, .int b12, .int b13])) = ws_17 at hP hD hm_18 e_19
  obtain ⟨f_21, e_20⟩ := hm_18.arrI e_14
  have hsm := hsm.tr (hm_18.mono (by decide))
  refine lv_aload_n hx hb dX0_begin_18 rfl (lv_at hl 0 rfl) ?_
  refine lv_iload_n hx hb dX0_begin_19 rfl (lv_at hl 1 rfl) ?_
  refine lv_bipush (v := 10) hx hb dX0_begin_20 (by decide) ?_
  refine lv_imul hx hb dX0_begin_22 ?_
  refine lv_iload_n hx hb dX0_begin_23 rfl (lv_at hl 2 rfl) ?_
  refine lv_imul hx hb dX0_begin_24 ?_
  refine va_put (D := D) (ci := 0) (v := .int ((a1 * 10) * a2)) (ty := .int) (C := RX0) (T := TX0) (N := 14) hx hb hts hin0 tyX0 tyX0_ok nmX0 hown hK hP hD hS kbl e_19 rfl 11 (by decide) (hts (.fieldLink RX0 46 "HoneyHouse$Blender" "mostWater" "I") (List.mem_of_getElem? (i := 4) rfl)) (fun _ h9 => h9) rfl (tyX0_ok 11 (by decide)) rfl rfl (Nat.le_of_ble_eq_true rfl) dX0_begin_25 (fun H locs hP hD hS => ?_)
  have hP : va_P D vwCl (ws_17.set kbl (bl, .inr (0, [.ref b0, .int b1, .ref b2, .ref b3, .ref b4, .ref b5, .ref b6, .ref b7, .int 0, .int b9, .int a1, .int ((a1 * 10) * a2), .int b12, .int b13]))) H := hP
  have hD : va_D A (ws_17.set kbl (bl, .inr (0, [.ref b0, .int b1, .ref b2, .ref b3, .ref b4, .ref b5, .ref b6, .ref b7, .int 0, .int b9, .int a1, .int ((a1 * 10) * a2), .int b12, .int b13]))) := hD
  have hm_23 : sm ρ [0] ws_17 (ws_17.set kbl (bl, .inr (0, [.ref b0, .int b1, .ref b2, .ref b3, .ref b4, .ref b5, .ref b6, .ref b7, .int 0, .int b9, .int a1, .int ((a1 * 10) * a2), .int b12, .int b13]))) := sm.flds e_19 (smF.c (smV.rf _) (smF.c (smV.rf _) (smF.c (smV.rf _) (smF.c (smV.rf _) (smF.c (smV.rf _) (smF.c (smV.rf _) (smF.c (smV.rf _) (smF.c (smV.rf _) (smF.c (smV.rf _) (smF.c (smV.rf _) (smF.c (smV.rf _) (smF.c (smV.i _ _) (smF.c (smV.rf _) (smF.c (smV.rf _) (rfl))))))))))))))) (List.mem_singleton.mpr rfl) w_kbl
  have e_24 : (ws_17.set kbl (bl, .inr (0, [.ref b0, .int b1, .ref b2, .ref b3, .ref b4, .ref b5, .ref b6, .ref b7, .int 0, .int b9, .int a1, .int ((a1 * 10) * a2), .int b12, .int b13])))[kbl]? = some (bl, .inr (0, [.ref b0, .int b1, .ref b2, .ref b3, .ref b4, .ref b5, .ref b6, .ref b7, .int 0, .int b9, .int a1, .int ((a1 * 10) * a2), .int b12, .int b13])) := wset_self e_19
  generalize ws_17.set kbl (bl, .inr (0, [.ref b0, .int b1, .ref b2, .ref b3, .ref b4, .ref b5, .ref b6, .ref b7, .int 0, .int b9, .int a1, .int ((a1 * 10) * a2), .int b12, .int b13])) = ws_22 at hP hD hm_23 e_24
  obtain ⟨f_26, e_25⟩ := hm_23.arrI e_20
  have hsm := hsm.tr (hm_23.mono (by decide))
  refine lv_aload_n hx hb dX0_begin_28 rfl (lv_at hl 0 rfl) ?_
  refine lv_iload_n hx hb dX0_begin_29 rfl (lv_at hl 1 rfl) ?_
  refine lv_bipush (v := 10) hx hb dX0_begin_30 (by decide) ?_
  refine lv_imul hx hb dX0_begin_32 ?_
  refine lv_iload_n hx hb dX0_begin_33 rfl (lv_at hl 3 rfl) ?_
  refine lv_imul hx hb dX0_begin_34 ?_
  refine va_put (D := D) (ci := 0) (v := .int ((a1 * 10) * a3)) (ty := .int) (C := RX0) (T := TX0) (N := 14) hx hb hts hin0 tyX0 tyX0_ok nmX0 hown hK hP hD hS kbl e_24 rfl 12 (by decide) (hts (.fieldLink RX0 49 "HoneyHouse$Blender" "leastColour" "I") (List.mem_of_getElem? (i := 5) rfl)) (fun _ h9 => h9) rfl (tyX0_ok 12 (by decide)) rfl rfl (Nat.le_of_ble_eq_true rfl) dX0_begin_35 (fun H locs hP hD hS => ?_)
  have hP : va_P D vwCl (ws_22.set kbl (bl, .inr (0, [.ref b0, .int b1, .ref b2, .ref b3, .ref b4, .ref b5, .ref b6, .ref b7, .int 0, .int b9, .int a1, .int ((a1 * 10) * a2), .int ((a1 * 10) * a3), .int b13]))) H := hP
  have hD : va_D A (ws_22.set kbl (bl, .inr (0, [.ref b0, .int b1, .ref b2, .ref b3, .ref b4, .ref b5, .ref b6, .ref b7, .int 0, .int b9, .int a1, .int ((a1 * 10) * a2), .int ((a1 * 10) * a3), .int b13]))) := hD
  have hm_28 : sm ρ [0] ws_22 (ws_22.set kbl (bl, .inr (0, [.ref b0, .int b1, .ref b2, .ref b3, .ref b4, .ref b5, .ref b6, .ref b7, .int 0, .int b9, .int a1, .int ((a1 * 10) * a2), .int ((a1 * 10) * a3), .int b13]))) := sm.flds e_24 (smF.c (smV.rf _) (smF.c (smV.rf _) (smF.c (smV.rf _) (smF.c (smV.rf _) (smF.c (smV.rf _) (smF.c (smV.rf _) (smF.c (smV.rf _) (smF.c (smV.rf _) (smF.c (smV.rf _) (smF.c (smV.rf _) (smF.c (smV.rf _) (smF.c (smV.rf _) (smF.c (smV.i _ _) (smF.c (smV.rf _) (rfl))))))))))))))) (List.mem_singleton.mpr rfl) w_kbl
  have e_29 : (ws_22.set kbl (bl, .inr (0, [.ref b0, .int b1, .ref b2, .ref b3, .ref b4, .ref b5, .ref b6, .ref b7, .int 0, .int b9, .int a1, .int ((a1 * 10) * a2), .int ((a1 * 10) * a3), .int b13])))[kbl]? = some (bl, .inr (0, [.ref b0, .int b1, .ref b2, .ref b3, .ref b4, .ref b5, .ref b6, .ref b7, .int 0, .int b9, .int a1, .int ((a1 * 10) * a2), .int ((a1 * 10) * a3), .int b13])) := wset_self e_24
  generalize ws_22.set kbl (bl, .inr (0, [.ref b0, .int b1, .ref b2, .ref b3, .ref b4, .ref b5, .ref b6, .ref b7, .int 0, .int b9, .int a1, .int ((a1 * 10) * a2), .int ((a1 * 10) * a3), .int b13])) = ws_27 at hP hD hm_28 e_29
  obtain ⟨f_31, e_30⟩ := hm_28.arrI e_25
  have hsm := hsm.tr (hm_28.mono (by decide))
  refine lv_aload_n hx hb dX0_begin_38 rfl (lv_at hl 0 rfl) ?_
  refine lv_iload_n hx hb dX0_begin_39 rfl (lv_at hl 1 rfl) ?_
  refine lv_bipush (v := 10) hx hb dX0_begin_40 (by decide) ?_
  refine lv_imul hx hb dX0_begin_42 ?_
  refine lv_iload hx hb dX0_begin_43 (lv_at hl 4 rfl) ?_
  refine lv_imul hx hb dX0_begin_45 ?_
  refine va_put (D := D) (ci := 0) (v := .int ((a1 * 10) * a4)) (ty := .int) (C := RX0) (T := TX0) (N := 14) hx hb hts hin0 tyX0 tyX0_ok nmX0 hown hK hP hD hS kbl e_29 rfl 13 (by decide) (hts (.fieldLink RX0 52 "HoneyHouse$Blender" "mostColour" "I") (List.mem_of_getElem? (i := 6) rfl)) (fun _ h9 => h9) rfl (tyX0_ok 13 (by decide)) rfl rfl (Nat.le_of_ble_eq_true rfl) dX0_begin_46 (fun H locs hP hD hS => ?_)
  have hP : va_P D vwCl (ws_27.set kbl (bl, .inr (0, [.ref b0, .int b1, .ref b2, .ref b3, .ref b4, .ref b5, .ref b6, .ref b7, .int 0, .int b9, .int a1, .int ((a1 * 10) * a2), .int ((a1 * 10) * a3), .int ((a1 * 10) * a4)]))) H := hP
  have hD : va_D A (ws_27.set kbl (bl, .inr (0, [.ref b0, .int b1, .ref b2, .ref b3, .ref b4, .ref b5, .ref b6, .ref b7, .int 0, .int b9, .int a1, .int ((a1 * 10) * a2), .int ((a1 * 10) * a3), .int ((a1 * 10) * a4)]))) := hD
  have hm_33 : sm ρ [0] ws_27 (ws_27.set kbl (bl, .inr (0, [.ref b0, .int b1, .ref b2, .ref b3, .ref b4, .ref b5, .ref b6, .ref b7, .int 0, .int b9, .int a1, .int ((a1 * 10) * a2), .int ((a1 * 10) * a3), .int ((a1 * 10) * a4)]))) := sm.flds e_29 (smF.c (smV.rf _) (smF.c (smV.rf _) (smF.c (smV.rf _) (smF.c (smV.rf _) (smF.c (smV.rf _) (smF.c (smV.rf _) (smF.c (smV.rf _) (smF.c (smV.rf _) (smF.c (smV.rf _) (smF.c (smV.rf _) (smF.c (smV.rf _) (smF.c (smV.rf _) (smF.c (smV.rf _) (smF.c (smV.i _ _) (rfl))))))))))))))) (List.mem_singleton.mpr rfl) w_kbl
  have e_34 : (ws_27.set kbl (bl, .inr (0, [.ref b0, .int b1, .ref b2, .ref b3, .ref b4, .ref b5, .ref b6, .ref b7, .int 0, .int b9, .int a1, .int ((a1 * 10) * a2), .int ((a1 * 10) * a3), .int ((a1 * 10) * a4)])))[kbl]? = some (bl, .inr (0, [.ref b0, .int b1, .ref b2, .ref b3, .ref b4, .ref b5, .ref b6, .ref b7, .int 0, .int b9, .int a1, .int ((a1 * 10) * a2), .int ((a1 * 10) * a3), .int ((a1 * 10) * a4)])) := wset_self e_29
  generalize ws_27.set kbl (bl, .inr (0, [.ref b0, .int b1, .ref b2, .ref b3, .ref b4, .ref b5, .ref b6, .ref b7, .int 0, .int b9, .int a1, .int ((a1 * 10) * a2), .int ((a1 * 10) * a3), .int ((a1 * 10) * a4)])) = ws_32 at hP hD hm_33 e_34
  obtain ⟨f_36, e_35⟩ := hm_33.arrI e_30
  have hsm := hsm.tr (hm_33.mono (by decide))
  exact W.vret hx hb hr (fun t ht hW => ⟨⟨(), rfl, trivial, ws_32, ty_9, hsm, htx, by rw [ht]; exact hP, va_K.moved hW.alike hK, hD, ⟨(a1 * 10) * a2, (a1 * 10) * a3, (a1 * 10) * a4, e_34⟩⟩, hS.F ht⟩) hS.2.2 dX0_begin_49
set_option maxHeartbeats 4000000 in
set_option maxRecDepth 100000 in
theorem a_addTank (l : Launch) (D : va_G) (ρ : Nat → Nat) (ws : va_W) (tys : List (ClassId × FieldType)) (bl kbl b0 b2 b3 b4 b5 b6 b7 : Nat) (b1 b9 b10 b11 b12 b13 : Int32) (c8 : Nat) (kb2 : Nat) (cb2 : ClassId) (tb2 : Nat) (fb2 : Nat → Int32) (kb3 : Nat) (cb3 : ClassId) (tb3 : Nat) (fb3 : Nat → Int32) (kb4 : Nat) (cb4 : ClassId) (tb4 : Nat) (fb4 : Nat → Int32) (kb5 : Nat) (cb5 : ClassId) (tb5 : Nat) (fb5 : Nat → Int32) (kb6 : Nat) (cb6 : ClassId) (tb6 : Nat) (fb6 : Nat → Int32) (a1 a2 a3 a4 a5 : Int32) (sz : Nat) (hc8 : c8 ≤ 4) (ebl : ws[kbl]? = some (bl, .inr (0, [.ref b0, .int b1, .ref b2, .ref b3, .ref b4, .ref b5, .ref b6, .ref b7, .int (nI c8), .int b9, .int b10, .int b11, .int b12, .int b13]))) (eb2 : ws[kb2]? = some (b2, .inl (cb2, 4, .inl fb2))) (ub2 : tys[tb2]? = some (cb2, .int)) (eb3 : ws[kb3]? = some (b3, .inl (cb3, 4, .inl fb3))) (ub3 : tys[tb3]? = some (cb3, .int)) (eb4 : ws[kb4]? = some (b4, .inl (cb4, 4, .inl fb4))) (ub4 : tys[tb4]? = some (cb4, .int)) (eb5 : ws[kb5]? = some (b5, .inl (cb5, 4, .inl fb5))) (ub5 : tys[tb5]? = some (cb5, .int)) (eb6 : ws[kb6]? = some (b6, .inl (cb6, 4, .inl fb6))) (ub6 : tys[tb6]? = some (cb6, .int)) (w_kb2 : ρ kb2 = 0) (w_kb3 : ρ kb3 = 0) (w_kb4 : ρ kb4 = 0) (w_kb5 : ρ kb5 = 0) (w_kb6 : ρ kb6 = 0) (w_kbl : ρ kbl = 0) : Met l yX0_addTank wsX0_addTank ({ frames := 0, cells := 0, slots := 0, locals := 0 }) (va_Pc [.ref bl, .int a1, .int a2, .int a3, .int a4, .int a5] (fun U => U.heap.size = sz ∧ va_P D vwCl ws U.heap ∧ va_K D vwCl tys U ∧ va_D (fun _ => True) ws)) (va_Qv (fun _ : Unit => True) (fun (_ : Unit) (t : State) => ∃ (ws' : va_W) (tys' : List (ClassId × FieldType)), sm ρ [0] ws ws' ∧ tyx tys tys' ∧ va_P D vwCl ws' t.heap ∧ va_K D vwCl tys' t ∧ va_D (va_A ws sz) ws' ∧ (∃ c9 : Nat, c9 ≤ 4 ∧ ws'[kbl]? = some (bl, .inr (0, [.ref b0, .int b1, .ref b2, .ref b3, .ref b4, .ref b5, .ref b6, .ref b7, .int (nI c9), .int b9, .int b10, .int b11, .int b12, .int b13])))) (va_A ws sz)) 0 0 (va_A ws sz) := by
  refine Met.ofW (cc := cX0_addTank) (maxL := 6) (ret := none) (by decide) rfl ?_
  intro p e s m args below meth c s₁ B hml hv
  obtain ⟨rfl, hsz, hP, hK, hD0⟩ := hv
  have hx := B.exec
  have hb := B.bytes
  have hr := B.returns
  have hts := atoms_spec (ws := wsX0_addTank) B.pre
  have hown : s.vm.findClass RX0 = some m.cls := findClass_of_methodNamed B.named
  have hlocks := B.notSynchronized
  subst hsz
  have hD := hD0.self (sz := s.heap.size)
  generalize hAe : va_A ws s.heap.size = A at hD ⊢
  have hA : ∀ q : Nat, s.heap.size ≤ q → A q := fun q h => by rw [← hAe]; exact Or.inr h
  have hS : va_S A s.heap s.heap [] := va_S.rf
  have hsm : sm ρ [0] ws ws := sm.rf ws
  have htx : tyx tys tys := tyx.rf tys
  have hin0 : ∀ w ∈ u_ws RX0 TX0 14, w ∈ wsX0_addTank := (fun _ h9 => List.mem_cons_of_mem _ ((List.mem_append_right _ h9)))
  have hl := lv_entry ([.ref bl, .int a1, .int a2, .int a3, .int a4, .int a5]) (n := 6) (Nat.le_of_ble_eq_true rfl)
  rw [lg_entry_eq]
  generalize (lg_sl ([.ref bl, .int a1, .int a2, .int a3, .int a4, .int a5]) ++ List.replicate (6 - (lg_sl ([.ref bl, .int a1, .int a2, .int a3, .int a4, .int a5])).length) Slot.unset).toArray = ls at hl ⊢
  have hl : lv_has ls 6 [(0, .ref bl), (1, .int a1), (2, .int a2), (3, .int a3), (4, .int a4), (5, .int a5)] := hl
  refine lv_aload_n hx hb dX0_addTank_0 rfl (lv_at hl 0 rfl) ?_
  refine va_get (D := D) (ci := 0) (v := .int (nI c8)) (C := RX0) (T := TX0) (N := 14) hx hb hts hin0 hown hK hP kbl ebl rfl 8 (by decide) (hts (.fieldLink RX0 33 "HoneyHouse$Blender" "tankCount" "I") (List.mem_of_getElem? (i := 1) rfl)) (fun _ h9 => h9) rfl dX0_addTank_1 ?_
  refine lv_iconst (v := 4) hx hb dX0_addTank_4 (by decide) ?_
  refine lv_icmp_lt (tgt := 9) hx hb dX0_addTank_5 (by decide) (fun c_1 => ?_) (fun c_1 => ?_)
  · have hc4 : c8 < 4 := (nI_ltI (a := c8) (b := 4) (by omega) (by omega)).mp c_1
    refine lv_aload_n hx hb dX0_addTank_9 rfl (lv_at hl 0 rfl) ?_
    refine va_get (D := D) (ci := 0) (v := .ref b2) (C := RX0) (T := TX0) (N := 14) hx hb hts hin0 hown hK hP kbl ebl rfl 2 (by decide) (hts (.fieldLink RX0 15 "HoneyHouse$Blender" "tankNumbers" "[I") (List.mem_of_getElem? (i := 2) rfl)) (fun _ h9 => h9) rfl dX0_addTank_10 ?_
    refine lv_aload_n hx hb dX0_addTank_13 rfl (lv_at hl 0 rfl) ?_
    refine va_get (D := D) (ci := 0) (v := .int (nI c8)) (C := RX0) (T := TX0) (N := 14) hx hb hts hin0 hown hK hP kbl ebl rfl 8 (by decide) (hts (.fieldLink RX0 33 "HoneyHouse$Blender" "tankCount" "I") (List.mem_of_getElem? (i := 1) rfl)) (fun _ h9 => h9) rfl dX0_addTank_14 ?_
    refine lv_iload_n hx hb dX0_addTank_17 rfl (lv_at hl 1 rfl) ?_
    refine va_iast (f := fb2) (n := 4) hx hb hK hP hD hS kb2 tb2 eb2 ub2 (vp_in_nI hc4 (by omega)) dX0_addTank_18 (fun H locs hP hD hS => ?_)
    have hm_3 : sm ρ [] ws (ws.set kb2 (b2, .inl (cb2, 4, .inl (upd fb2 (nI c8).toNatClampNeg a1)))) := sm.ints eb2 w_kb2
    have e_4 : (ws.set kb2 (b2, .inl (cb2, 4, .inl (upd fb2 (nI c8).toNatClampNeg a1))))[kb2]? = some (b2, .inl (cb2, 4, .inl (upd fb2 (nI c8).toNatClampNeg a1))) := wset_self eb2
    generalize ws.set kb2 (b2, .inl (cb2, 4, .inl (upd fb2 (nI c8).toNatClampNeg a1))) = ws_2 at hP hD hm_3 e_4
    have e_5 := hm_3.objK ebl (by decide)
    obtain ⟨f_7, e_6⟩ := hm_3.arrI eb3
    obtain ⟨f_9, e_8⟩ := hm_3.arrI eb4
    obtain ⟨f_11, e_10⟩ := hm_3.arrI eb5
    obtain ⟨f_13, e_12⟩ := hm_3.arrI eb6
    have hsm := hsm.tr (hm_3.mono (fun _ h9 => absurd h9 List.not_mem_nil))
    generalize upd fb2 (nI c8).toNatClampNeg a1 = f_14 at e_4
    refine lv_aload_n hx hb dX0_addTank_19 rfl (lv_at hl 0 rfl) ?_
    refine va_get (D := D) (ci := 0) (v := .ref b3) (C := RX0) (T := TX0) (N := 14) hx hb hts hin0 hown hK hP kbl e_5 rfl 3 (by decide) (hts (.fieldLink RX0 18 "HoneyHouse$Blender" "mostParts" "[I") (List.mem_of_getElem? (i := 3) rfl)) (fun _ h9 => h9) rfl dX0_addTank_20 ?_
    refine lv_aload_n hx hb dX0_addTank_23 rfl (lv_at hl 0 rfl) ?_
    refine va_get (D := D) (ci := 0) (v := .int (nI c8)) (C := RX0) (T := TX0) (N := 14) hx hb hts hin0 hown hK hP kbl e_5 rfl 8 (by decide) (hts (.fieldLink RX0 33 "HoneyHouse$Blender" "tankCount" "I") (List.mem_of_getElem? (i := 1) rfl)) (fun _ h9 => h9) rfl dX0_addTank_24 ?_
    refine lv_iload_n hx hb dX0_addTank_27 rfl (lv_at hl 2 rfl) ?_
    refine va_iast (f := f_7) (n := 4) hx hb hK hP hD hS kb3 tb3 e_6 ub3 (vp_in_nI hc4 (by omega)) dX0_addTank_28 (fun H locs hP hD hS => ?_)
    have hm_16 : sm ρ [] ws_2 (ws_2.set kb3 (b3, .inl (cb3, 4, .inl (upd f_7 (nI c8).toNatClampNeg a2)))) := sm.ints e_6 w_kb3
    have e_17 : (ws_2.set kb3 (b3, .inl (cb3, 4, .inl (upd f_7 (nI c8).toNatClampNeg a2))))[kb3]? = some (b3, .inl (cb3, 4, .inl (upd f_7 (nI c8).toNatClampNeg a2))) := wset_self e_6
    generalize ws_2.set kb3 (b3, .inl (cb3, 4, .inl (upd f_7 (nI c8).toNatClampNeg a2))) = ws_15 at hP hD hm_16 e_17
    have e_18 := hm_16.objK e_5 (by decide)
    obtain ⟨f_20, e_19⟩ := hm_16.arrI e_4
    obtain ⟨f_22, e_21⟩ := hm_16.arrI e_8
    obtain ⟨f_24, e_23⟩ := hm_16.arrI e_10
    obtain ⟨f_26, e_25⟩ := hm_16.arrI e_12
    have hsm := hsm.tr (hm_16.mono (fun _ h9 => absurd h9 List.not_mem_nil))
    generalize upd f_7 (nI c8).toNatClampNeg a2 = f_27 at e_17
    refine lv_aload_n hx hb dX0_addTank_29 rfl (lv_at hl 0 rfl) ?_
    refine va_get (D := D) (ci := 0) (v := .ref b4) (C := RX0) (T := TX0) (N := 14) hx hb hts hin0 hown hK hP kbl e_18 rfl 4 (by decide) (hts (.fieldLink RX0 21 "HoneyHouse$Blender" "waters" "[I") (List.mem_of_getElem? (i := 4) rfl)) (fun _ h9 => h9) rfl dX0_addTank_30 ?_
    refine lv_aload_n hx hb dX0_addTank_33 rfl (lv_at hl 0 rfl) ?_
    refine va_get (D := D) (ci := 0) (v := .int (nI c8)) (C := RX0) (T := TX0) (N := 14) hx hb hts hin0 hown hK hP kbl e_18 rfl 8 (by decide) (hts (.fieldLink RX0 33 "HoneyHouse$Blender" "tankCount" "I") (List.mem_of_getElem? (i := 1) rfl)) (fun _ h9 => h9) rfl dX0_addTank_34 ?_
    refine lv_iload_n hx hb dX0_addTank_37 rfl (lv_at hl 3 rfl) ?_
    refine va_iast (f := f_22) (n := 4) hx hb hK hP hD hS kb4 tb4 e_21 ub4 (vp_in_nI hc4 (by omega)) dX0_addTank_38 (fun H locs hP hD hS => ?_)
    have hm_29 : sm ρ [] ws_15 (ws_15.set kb4 (b4, .inl (cb4, 4, .inl (upd f_22 (nI c8).toNatClampNeg a3)))) := sm.ints e_21 w_kb4
    have e_30 : (ws_15.set kb4 (b4, .inl (cb4, 4, .inl (upd f_22 (nI c8).toNatClampNeg a3))))[kb4]? = some (b4, .inl (cb4, 4, .inl (upd f_22 (nI c8).toNatClampNeg a3))) := wset_self e_21
    generalize ws_15.set kb4 (b4, .inl (cb4, 4, .inl (upd f_22 (nI c8).toNatClampNeg a3))) = ws_28 at hP hD hm_29 e_30
    have e_31 := hm_29.objK e_18 (by decide)
    obtain ⟨f_33, e_32⟩ := hm_29.arrI e_19
    obtain ⟨f_35, e_34⟩ := hm_29.arrI e_17
    obtain ⟨f_37, e_36⟩ := hm_29.arrI e_23
    obtain ⟨f_39, e_38⟩ := hm_29.arrI e_25
    have hsm := hsm.tr (hm_29.mono (fun _ h9 => absurd h9 List.not_mem_nil))
    generalize upd f_22 (nI c8).toNatClampNeg a3 = f_40 at e_30
    refine lv_aload_n hx hb dX0_addTank_39 rfl (lv_at hl 0 rfl) ?_
    refine va_get (D := D) (ci := 0) (v := .ref b5) (C := RX0) (T := TX0) (N := 14) hx hb hts hin0 hown hK hP kbl e_31 rfl 5 (by decide) (hts (.fieldLink RX0 24 "HoneyHouse$Blender" "colours" "[I") (List.mem_of_getElem? (i := 5) rfl)) (fun _ h9 => h9) rfl dX0_addTank_40 ?_
    refine lv_aload_n hx hb dX0_addTank_43 rfl (lv_at hl 0 rfl) ?_
    refine va_get (D := D) (ci := 0) (v := .int (nI c8)) (C := RX0) (T := TX0) (N := 14) hx hb hts hin0 hown hK hP kbl e_31 rfl 8 (by decide) (hts (.fieldLink RX0 33 "HoneyHouse$Blender" "tankCount" "I") (List.mem_of_getElem? (i := 1) rfl)) (fun _ h9 => h9) rfl dX0_addTank_44 ?_
    refine lv_iload hx hb dX0_addTank_47 (lv_at hl 4 rfl) ?_
    refine va_iast (f := f_37) (n := 4) hx hb hK hP hD hS kb5 tb5 e_36 ub5 (vp_in_nI hc4 (by omega)) dX0_addTank_49 (fun H locs hP hD hS => ?_)
    have hm_42 : sm ρ [] ws_28 (ws_28.set kb5 (b5, .inl (cb5, 4, .inl (upd f_37 (nI c8).toNatClampNeg a4)))) := sm.ints e_36 w_kb5
    have e_43 : (ws_28.set kb5 (b5, .inl (cb5, 4, .inl (upd f_37 (nI c8).toNatClampNeg a4))))[kb5]? = some (b5, .inl (cb5, 4, .inl (upd f_37 (nI c8).toNatClampNeg a4))) := wset_self e_36
    generalize ws_28.set kb5 (b5, .inl (cb5, 4, .inl (upd f_37 (nI c8).toNatClampNeg a4))) = ws_41 at hP hD hm_42 e_43
    have e_44 := hm_42.objK e_31 (by decide)
    obtain ⟨f_46, e_45⟩ := hm_42.arrI e_32
    obtain ⟨f_48, e_47⟩ := hm_42.arrI e_34
    obtain ⟨f_50, e_49⟩ := hm_42.arrI e_30
    obtain ⟨f_52, e_51⟩ := hm_42.arrI e_38
    have hsm := hsm.tr (hm_42.mono (fun _ h9 => absurd h9 List.not_mem_nil))
    generalize upd f_37 (nI c8).toNatClampNeg a4 = f_53 at e_43
    refine lv_aload_n hx hb dX0_addTank_50 rfl (lv_at hl 0 rfl) ?_
    refine va_get (D := D) (ci := 0) (v := .ref b6) (C := RX0) (T := TX0) (N := 14) hx hb hts hin0 hown hK hP kbl e_44 rfl 6 (by decide) (hts (.fieldLink RX0 27 "HoneyHouse$Blender" "prices" "[I") (List.mem_of_getElem? (i := 6) rfl)) (fun _ h9 => h9) rfl dX0_addTank_51 ?_
    refine lv_aload_n hx hb dX0_addTank_54 rfl (lv_at hl 0 rfl) ?_
    refine va_get (D := D) (ci := 0) (v := .int (nI c8)) (C := RX0) (T := TX0) (N := 14) hx hb hts hin0 hown hK hP kbl e_44 rfl 8 (by decide) (hts (.fieldLink RX0 33 "HoneyHouse$Blender" "tankCount" "I") (List.mem_of_getElem? (i := 1) rfl)) (fun _ h9 => h9) rfl dX0_addTank_55 ?_
    refine lv_iload hx hb dX0_addTank_58 (lv_at hl 5 rfl) ?_
    refine va_iast (f := f_52) (n := 4) hx hb hK hP hD hS kb6 tb6 e_51 ub6 (vp_in_nI hc4 (by omega)) dX0_addTank_60 (fun H locs hP hD hS => ?_)
    have hm_55 : sm ρ [] ws_41 (ws_41.set kb6 (b6, .inl (cb6, 4, .inl (upd f_52 (nI c8).toNatClampNeg a5)))) := sm.ints e_51 w_kb6
    have e_56 : (ws_41.set kb6 (b6, .inl (cb6, 4, .inl (upd f_52 (nI c8).toNatClampNeg a5))))[kb6]? = some (b6, .inl (cb6, 4, .inl (upd f_52 (nI c8).toNatClampNeg a5))) := wset_self e_51
    generalize ws_41.set kb6 (b6, .inl (cb6, 4, .inl (upd f_52 (nI c8).toNatClampNeg a5))) = ws_54 at hP hD hm_55 e_56
    have e_57 := hm_55.objK e_44 (by decide)
    obtain ⟨f_59, e_58⟩ := hm_55.arrI e_45
    obtain ⟨f_61, e_60⟩ := hm_55.arrI e_47
    obtain ⟨f_63, e_62⟩ := hm_55.arrI e_49
    obtain ⟨f_65, e_64⟩ := hm_55.arrI e_43
    have hsm := hsm.tr (hm_55.mono (fun _ h9 => absurd h9 List.not_mem_nil))
    generalize upd f_52 (nI c8).toNatClampNeg a5 = f_66 at e_56
    refine lv_aload_n hx hb dX0_addTank_61 rfl (lv_at hl 0 rfl) ?_
    refine lv_dup hx hb dX0_addTank_62 rfl ?_
    refine va_get (D := D) (ci := 0) (v := .int (nI c8)) (C := RX0) (T := TX0) (N := 14) hx hb hts hin0 hown hK hP kbl e_57 rfl 8 (by decide) (hts (.fieldLink RX0 33 "HoneyHouse$Blender" "tankCount" "I") (List.mem_of_getElem? (i := 1) rfl)) (fun _ h9 => h9) rfl dX0_addTank_63 ?_
    refine lv_iconst (v := 1) hx hb dX0_addTank_66 (by decide) ?_
    refine lv_iadd hx hb dX0_addTank_67 ?_
    refine tp_i (y := nI (c8 + 1)) (nI_1 _) ?_
    refine va_put (D := D) (ci := 0) (v := .int (nI (c8 + 1))) (ty := .int) (C := RX0) (T := TX0) (N := 14) hx hb hts hin0 tyX0 tyX0_ok nmX0 hown hK hP hD hS kbl e_57 rfl 8 (by decide) (hts (.fieldLink RX0 33 "HoneyHouse$Blender" "tankCount" "I") (List.mem_of_getElem? (i := 1) rfl)) (fun _ h9 => h9) rfl (tyX0_ok 8 (by decide)) rfl rfl (Nat.le_of_ble_eq_true rfl) dX0_addTank_68 (fun H locs hP hD hS => ?_)
    have hP : va_P D vwCl (ws_54.set kbl (bl, .inr (0, [.ref b0, .int b1, .ref b2, .ref b3, .ref b4, .ref b5, .ref b6, .ref b7, .int (nI (c8 + 1)), .int b9, .int b10, .int b11, .int b12, .int b13]))) H := hP
    have hD : va_D A (ws_54.set kbl (bl, .inr (0, [.ref b0, .int b1, .ref b2, .ref b3, .ref b4, .ref b5, .ref b6, .ref b7, .int (nI (c8 + 1)), .int b9, .int b10, .int b11, .int b12, .int b13]))) := hD
    have hm_68 : sm ρ [0] ws_54 (ws_54.set kbl (bl, .inr (0, [.ref b0, .int b1, .ref b2, .ref b3, .ref b4, .ref b5, .ref b6, .ref b7, .int (nI (c8 + 1)), .int b9, .int b10, .int b11, .int b12, .int b13]))) := sm.flds e_57 (smF.c (smV.rf _) (smF.c (smV.rf _) (smF.c (smV.rf _) (smF.c (smV.rf _) (smF.c (smV.rf _) (smF.c (smV.rf _) (smF.c (smV.rf _) (smF.c (smV.rf _) (smF.c (smV.i _ _) (smF.c (smV.rf _) (smF.c (smV.rf _) (smF.c (smV.rf _) (smF.c (smV.rf _) (smF.c (smV.rf _) (rfl))))))))))))))) (List.mem_singleton.mpr rfl) w_kbl
    have e_69 : (ws_54.set kbl (bl, .inr (0, [.ref b0, .int b1, .ref b2, .ref b3, .ref b4, .ref b5, .ref b6, .ref b7, .int (nI (c8 + 1)), .int b9, .int b10, .int b11, .int b12, .int b13])))[kbl]? = some (bl, .inr (0, [.ref b0, .int b1, .ref b2, .ref b3, .ref b4, .ref b5, .ref b6, .ref b7, .int (nI (c8 + 1)), .int b9, .int b10, .int b11, .int b12, .int b13])) := wset_self e_57
    generalize ws_54.set kbl (bl, .inr (0, [.ref b0, .int b1, .ref b2, .ref b3, .ref b4, .ref b5, .ref b6, .ref b7, .int (nI (c8 + 1)), .int b9, .int b10, .int b11, .int b12, .int b13])) = ws_67 at hP hD hm_68 e_69
    obtain ⟨f_71, e_70⟩ := hm_68.arrI e_58
    obtain ⟨f_73, e_72⟩ := hm_68.arrI e_60
    obtain ⟨f_75, e_74⟩ := hm_68.arrI e_62
    obtain ⟨f_77, e_76⟩ := hm_68.arrI e_64
    obtain ⟨f_79, e_78⟩ := hm_68.arrI e_56
    have hsm := hsm.tr (hm_68.mono (by decide))
    exact W.vret hx hb hr (fun t ht hW => ⟨⟨(), rfl, trivial, ws_67, tys, hsm, htx, by rw [ht]; exact hP, va_K.moved hW.alike hK, hD, ⟨c8 + 1, by omega, e_69⟩⟩, hS.F ht⟩) hS.2.2 dX0_addTank_71
  exact W.vret hx hb hr (fun t ht hW => ⟨⟨(), rfl, trivial, ws, tys, hsm, htx, by rw [ht]; exact hP, va_K.moved hW.alike hK, hD, ⟨c8, by omega, ebl⟩⟩, hS.F ht⟩) hS.2.2 dX0_addTank_8
