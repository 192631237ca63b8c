theorem dX6_init_0 : decode cX6_init 0 = .ok (.aload_n 0, 1) := by decide +kernel
theorem dX6_init_1 : decode cX6_init 1 = .ok (.invokespecial 3, 3) := by decide +kernel
theorem dX6_init_4 : decode cX6_init 4 = .ok (.aload_n 0, 1) := by decide +kernel
theorem dX6_init_5 : decode cX6_init 5 = .ok (.sipush 400, 3) := by decide +kernel
theorem dX6_init_8 : decode cX6_init 8 = .ok (.newarray .int, 2) := by decide +kernel
theorem dX6_init_10 : decode cX6_init 10 = .ok (.putfield 9, 3) := by decide +kernel
theorem dX6_init_13 : decode cX6_init 13 = .ok (.return_, 1) := by decide +kernel
theorem dX1_init_0 : decode cX1_init 0 = .ok (.aload_n 0, 1) := by decide +kernel
theorem dX1_init_1 : decode cX1_init 1 = .ok (.invokespecial 3, 3) := by decide +kernel
theorem dX1_init_4 : decode cX1_init 4 = .ok (.aload_n 0, 1) := by decide +kernel
theorem dX1_init_5 : decode cX1_init 5 = .ok (.bipush 40, 2) := by decide +kernel
theorem dX1_init_7 : decode cX1_init 7 = .ok (.newarray .int, 2) := by decide +kernel
theorem dX1_init_9 : decode cX1_init 9 = .ok (.putfield 9, 3) := by decide +kernel
theorem dX1_init_12 : decode cX1_init 12 = .ok (.aload_n 0, 1) := by decide +kernel
theorem dX1_init_13 : decode cX1_init 13 = .ok (.bipush 40, 2) := by decide +kernel
theorem dX1_init_15 : decode cX1_init 15 = .ok (.newarray .long, 2) := by decide +kernel
theorem dX1_init_17 : decode cX1_init 17 = .ok (.putfield 15, 3) := by decide +kernel
theorem dX1_init_20 : decode cX1_init 20 = .ok (.return_, 1) := by decide +kernel
theorem dX0_init_0 : decode cX0_init 0 = .ok (.aload_n 0, 1) := by decide +kernel
theorem dX0_init_1 : decode cX0_init 1 = .ok (.invokespecial 3, 3) := by decide +kernel
theorem dX0_init_4 : decode cX0_init 4 = .ok (.aload_n 0, 1) := by decide +kernel
theorem dX0_init_5 : decode cX0_init 5 = .ok (.bipush 10, 2) := by decide +kernel
theorem dX0_init_7 : decode cX0_init 7 = .ok (.newarray .int, 2) := by decide +kernel
theorem dX0_init_9 : decode cX0_init 9 = .ok (.putfield 9, 3) := by decide +kernel
theorem dX0_init_12 : decode cX0_init 12 = .ok (.aload_n 0, 1) := by decide +kernel
theorem dX0_init_13 : decode cX0_init 13 = .ok (.iconst 4, 1) := by decide +kernel
theorem dX0_init_14 : decode cX0_init 14 = .ok (.newarray .int, 2) := by decide +kernel
theorem dX0_init_16 : decode cX0_init 16 = .ok (.putfield 15, 3) := by decide +kernel
theorem dX0_init_19 : decode cX0_init 19 = .ok (.aload_n 0, 1) := by decide +kernel
theorem dX0_init_20 : decode cX0_init 20 = .ok (.iconst 4, 1) := by decide +kernel
theorem dX0_init_21 : decode cX0_init 21 = .ok (.newarray .int, 2) := by decide +kernel
theorem dX0_init_23 : decode cX0_init 23 = .ok (.putfield 18, 3) := by decide +kernel
theorem dX0_init_26 : decode cX0_init 26 = .ok (.aload_n 0, 1) := by decide +kernel
theorem dX0_init_27 : decode cX0_init 27 = .ok (.iconst 4, 1) := by decide +kernel
theorem dX0_init_28 : decode cX0_init 28 = .ok (.newarray .int, 2) := by decide +kernel
theorem dX0_init_30 : decode cX0_init 30 = .ok (.putfield 21, 3) := by decide +kernel
theorem dX0_init_33 : decode cX0_init 33 = .ok (.aload_n 0, 1) := by decide +kernel
theorem dX0_init_34 : decode cX0_init 34 = .ok (.iconst 4, 1) := by decide +kernel
theorem dX0_init_35 : decode cX0_init 35 = .ok (.newarray .int, 2) := by decide +kernel
theorem dX0_init_37 : decode cX0_init 37 = .ok (.putfield 24, 3) := by decide +kernel
theorem dX0_init_40 : decode cX0_init 40 = .ok (.aload_n 0, 1) := by decide +kernel
theorem dX0_init_41 : decode cX0_init 41 = .ok (.iconst 4, 1) := by decide +kernel
theorem dX0_init_42 : decode cX0_init 42 = .ok (.newarray .int, 2) := by decide +kernel
theorem dX0_init_44 : decode cX0_init 44 = .ok (.putfield 27, 3) := by decide +kernel
theorem dX0_init_47 : decode cX0_init 47 = .ok (.aload_n 0, 1) := by decide +kernel
theorem dX0_init_48 : decode cX0_init 48 = .ok (.iconst 4, 1) := by decide +kernel
theorem dX0_init_49 : decode cX0_init 49 = .ok (.newarray .int, 2) := by decide +kernel
theorem dX0_init_51 : decode cX0_init 51 = .ok (.putfield 30, 3) := by decide +kernel
theorem dX0_init_54 : decode cX0_init 54 = .ok (.return_, 1) := by decide +kernel
theorem dX4_init_0 : decode cX4_init 0 = .ok (.aload_n 0, 1) := by decide +kernel
theorem dX4_init_1 : decode cX4_init 1 = .ok (.invokespecial 3, 3) := by decide +kernel
theorem dX4_init_4 : decode cX4_init 4 = .ok (.aload_n 0, 1) := by decide +kernel
theorem dX4_init_5 : decode cX4_init 5 = .ok (.new 9, 3) := by decide +kernel
theorem dX4_init_8 : decode cX4_init 8 = .ok (.dup, 1) := by decide +kernel
theorem dX4_init_9 : decode cX4_init 9 = .ok (.invokespecial 11, 3) := by decide +kernel
theorem dX4_init_12 : decode cX4_init 12 = .ok (.putfield 12, 3) := by decide +kernel
theorem dX4_init_15 : decode cX4_init 15 = .ok (.aload_n 0, 1) := by decide +kernel
theorem dX4_init_16 : decode cX4_init 16 = .ok (.iconst (-1), 1) := by decide +kernel
theorem dX4_init_17 : decode cX4_init 17 = .ok (.putfield 18, 3) := by decide +kernel
theorem dX4_init_20 : decode cX4_init 20 = .ok (.aload_n 0, 1) := by decide +kernel
theorem dX4_init_21 : decode cX4_init 21 = .ok (.sipush 200, 3) := by decide +kernel
theorem dX4_init_24 : decode cX4_init 24 = .ok (.newarray .int, 2) := by decide +kernel
theorem dX4_init_26 : decode cX4_init 26 = .ok (.putfield 22, 3) := by decide +kernel
theorem dX4_init_29 : decode cX4_init 29 = .ok (.return_, 1) := by decide +kernel
set_option maxRecDepth 20000 in
theorem ggX4_init_X6_init : GoodIn wsX4_init wsX6_init := goodIn_r _ [12, 13, 2, 3, 9, 14, 15, 16, 17, 18, 19] rfl (by decide +kernel)
set_option maxRecDepth 20000 in
theorem gX4_init_X6_init_n11 : GoodIn wsX4_init (wsX6_init) := ggX4_init_X6_init
set_option maxHeartbeats 4000000 in
set_option maxRecDepth 100000 in
theorem q_X5_init (l : Launch) (D : va_G) (h0 : Nat) (sz : Nat)  : Met l yX5_init wsX5_init ({ frames := 1, cells := 2, slots := 8, locals := 16 }) (va_Pc [.ref h0] (fun U => U.heap.size = sz ∧ va_P D vwCl [(h0, .inr (5, [.null, .null]))] U.heap ∧ va_K D vwCl [] U ∧ va_D (fun _ => True) [(h0, .inr (5, [.null, .null]))])) (va_Qv (fun _ : Unit => True) (fun (_ : Unit) (t : State) => ∃ (q0 : Nat) (y0 : ClassId) (q1 : Nat) (y1 : ClassId), va_P D vwCl [(h0, .inr (5, [.ref q0, .ref q1])), (q0, .inl (y0, 4, .inl (fun _ => 0))), (q1, .inl (y1, 4, .inl (fun _ => 0)))] t.heap ∧ va_K D vwCl [(y0, .int), (y1, .int)] t ∧ va_D (va_A [(h0, .inr (5, [.null, .null]))] sz) [(h0, .inr (5, [.ref q0, .ref q1])), (q0, .inl (y0, 4, .inl (fun _ => 0))), (q1, .inl (y1, 4, .inl (fun _ => 0)))]) (va_A [(h0, .inr (5, [.null, .null]))] sz)) 2 8 (va_A [(h0, .inr (5, [.null, .null]))] sz) := by
  refine Met.ofW (cc := cX5_init) (maxL := 1) (ret := none) (by decide) rfl ?_
  intro p e s m args below meth c s₁ B hml hv
  obtain ⟨rfl, hsz, hP, hK, hD0⟩ := hv
  have hx := B.exec
  have hb := B.bytes
  have hr := B.returns
  have hts := atoms_spec (ws := wsX5_init) B.pre
  have hown : s.vm.findClass RX5 = some m.cls := findClass_of_methodNamed B.named
  have hlocks := B.notSynchronized
  have hin : meth.name = "<init>" := (name_of_methodNamed B.named B.method).1
  subst hsz
  have hD := hD0.self (sz := s.heap.size)
  generalize hAe : va_A [(h0, .inr (5, [.null, .null]))] s.heap.size = A at hD ⊢
  have hA : ∀ q : Nat, s.heap.size ≤ q → A q := fun q h => by rw [← hAe]; exact Or.inr h
  have hS : va_S A s.heap s.heap [] := va_S.rf
  have hP : va_P D vwCl [(h0, .inr (5, [.null, .null]))] s.heap := hP
  have hin5 : ∀ w ∈ u_ws RX5 TX5 2, w ∈ wsX5_init := (fun _ h9 => List.mem_cons_of_mem _ ((List.mem_append_right _ h9)))
  have hl := lv_entry ([.ref h0]) (n := 1) (Nat.le_of_ble_eq_true rfl)
  rw [lg_entry_eq]
  generalize (lg_sl ([.ref h0]) ++ List.replicate (1 - (lg_sl ([.ref h0])).length) Slot.unset).toArray = ls at hl ⊢
  have hl : lv_has ls 1 [(0, .ref h0)] := hl
  refine lv_aload_n hx hb dX5_init_0 rfl (lv_at hl 0 rfl) ?_
  refine W.objInit hx hb hown (hts (.methodLink RX5 3 objectInit) (List.mem_of_getElem? (i := 1) rfl)) (hts (.instanceMethod objectInit) (List.mem_of_getElem? (i := 2) rfl)) (hts (.code objectInit ⟨#[0xb1]⟩ 1 none) (List.mem_of_getElem? (i := 3) rfl)) rfl (by rw [hml]; exact hl.1) rfl dX5_init_1 (Nat.le_of_ble_eq_true rfl) (Nat.le_of_ble_eq_true rfl) ?_
  refine W.eq (g2 := F0 m 4 ls []) rfl ?_
  refine lv_aload_n hx hb dX5_init_4 rfl (lv_at hl 0 rfl) ?_
  refine lv_iconst (v := 4) hx hb dX5_init_5 (by decide) ?_
  refine va_newa (atype := .int) (ty := .int) (a0 := (4, .inl (fun _ => 0))) (N' := 4) hx hb (hts (.arrayClass .int) (List.mem_of_getElem? (i := 4) rfl)) rfl hK hP hD hS hA (fun _ => rfl) (by decide) (by decide) (by decide) (Nat.le_of_ble_eq_true rfl) (Nat.le_of_ble_eq_true rfl) dX5_init_6 (fun q_1 y_2 H hK hP hD hS => ?_)
  have hK : va_K D vwCl [(y_2, .int)] s := hK
  have hP : va_P D vwCl [(h0, .inr (5, [.null, .null])), (q_1, .inl (y_2, 4, .inl (fun _ => 0)))] H := hP
  have hD : va_D A [(h0, .inr (5, [.null, .null])), (q_1, .inl (y_2, 4, .inl (fun _ => 0)))] := hD
  refine W.widen (k := 1) (n := 4) (by omega) (by omega) ?_
  refine va_putF (D := D) (ci := 5) (v := .ref q_1) (ty := .array .int) (C := RX5) (T := TX5) (N := 2) hx hb hts hin5 tyX5 tyX5_ok nmX5 hown hK hP hD hS 0 rfl rfl 0 (by decide) (hts (.fieldLink RX5 9 "HoneyHouse$Steps" "waters" "[I") (List.mem_of_getElem? (i := 5) rfl)) (fun _ h9 => h9) rfl hin rfl (tyX5_ok 0 (by decide)) rfl rfl (Nat.le_of_ble_eq_true rfl) dX5_init_8 (fun H locs hP hD hS => ?_)
  have hP : va_P D vwCl [(h0, .inr (5, [.ref q_1, .null])), (q_1, .inl (y_2, 4, .inl (fun _ => 0)))] H := hP
  have hD : va_D A [(h0, .inr (5, [.ref q_1, .null])), (q_1, .inl (y_2, 4, .inl (fun _ => 0)))] := hD
  refine lv_aload_n hx hb dX5_init_11 rfl (lv_at hl 0 rfl) ?_
  refine lv_iconst (v := 4) hx hb dX5_init_12 (by decide) ?_
  refine va_newa (atype := .int) (ty := .int) (a0 := (4, .inl (fun _ => 0))) (N' := 4) hx hb (hts (.arrayClass .int) (List.mem_of_getElem? (i := 4) rfl)) rfl hK hP hD hS hA (fun _ => rfl) (by decide) (by decide) (by decide) (Nat.le_of_ble_eq_true rfl) (Nat.le_of_ble_eq_true rfl) dX5_init_13 (fun q_3 y_4 H hK hP hD hS => ?_)
  have hK : va_K D vwCl [(y_2, .int), (y_4, .int)] s := hK
  have hP : va_P D vwCl [(h0, .inr (5, [.ref q_1, .null])), (q_1, .inl (y_2, 4, .inl (fun _ => 0))), (q_3, .inl (y_4, 4, .inl (fun _ => 0)))] H := hP
  have hD : va_D A [(h0, .inr (5, [.ref q_1, .null])), (q_1, .inl (y_2, 4, .inl (fun _ => 0))), (q_3, .inl (y_4, 4, .inl (fun _ => 0)))] := hD
  refine W.widen (k := 2) (n := 8) (by omega) (by omega) ?_
  refine va_putF (D := D) (ci := 5) (v := .ref q_3) (ty := .array .int) (C := RX5) (T := TX5) (N := 2) hx hb hts hin5 tyX5 tyX5_ok nmX5 hown hK hP hD hS 0 rfl rfl 1 (by decide) (hts (.fieldLink RX5 15 "HoneyHouse$Steps" "prices" "[I") (List.mem_of_getElem? (i := 6) rfl)) (fun _ h9 => h9) rfl hin rfl (tyX5_ok 1 (by decide)) rfl rfl (Nat.le_of_ble_eq_true rfl) dX5_init_15 (fun H locs hP hD hS => ?_)
  have hP : va_P D vwCl [(h0, .inr (5, [.ref q_1, .ref q_3])), (q_1, .inl (y_2, 4, .inl (fun _ => 0))), (q_3, .inl (y_4, 4, .inl (fun _ => 0)))] H := hP
  have hD : va_D A [(h0, .inr (5, [.ref q_1, .ref q_3])), (q_1, .inl (y_2, 4, .inl (fun _ => 0))), (q_3, .inl (y_4, 4, .inl (fun _ => 0)))] := hD
  have hP9 := hP.sub (ws' := [(h0, .inr (5, [.ref q_1, .ref q_3])), (q_1, .inl (y_2, 4, .inl (fun _ => 0))), (q_3, .inl (y_4, 4, .inl (fun _ => 0)))]) [0, 1, 2] rfl
  have hD9 := hD.sub (ws' := [(h0, .inr (5, [.ref q_1, .ref q_3])), (q_1, .inl (y_2, 4, .inl (fun _ => 0))), (q_3, .inl (y_4, 4, .inl (fun _ => 0)))]) [0, 1, 2] (by decide) rfl
  have hK9 := hK.sub (tys' := [(y_2, .int), (y_4, .int)]) [0, 1] rfl
  refine W.widen (k := 2) (n := 8) (by omega) (by omega) ?_
  exact W.vret hx hb hr (fun t ht hW => ⟨⟨(), rfl, trivial, q_1, y_2, q_3, y_4, by rw [ht]; exact hP9, va_K.moved hW.alike hK9, hD9⟩, hS.F ht⟩) hS.2.2 dX5_init_18
set_option maxHeartbeats 4000000 in
set_option maxRecDepth 100000 in
theorem q_X6_init (l : Launch) (D : va_G) (h0 : Nat) (sz : Nat)  : Met l yX6_init wsX6_init ({ frames := 1, cells := 1, slots := 400, locals := 16 }) (va_Pc [.ref h0] (fun U => U.heap.size = sz ∧ va_P D vwCl [(h0, .inr (6, [.int 0, .int 0, .int 0, .int 0, .null]))] U.heap ∧ va_K D vwCl [] U ∧ va_D (fun _ => True) [(h0, .inr (6, [.int 0, .int 0, .int 0, .int 0, .null]))])) (va_Qv (fun _ : Unit => True) (fun (_ : Unit) (t : State) => ∃ (q4 : Nat) (y4 : ClassId), va_P D vwCl [(h0, .inr (6, [.int 0, .int 0, .int 0, .int 0, .ref q4])), (q4, .inl (y4, 400, .inl (fun _ => 0)))] t.heap ∧ va_K D vwCl [(y4, .int)] t ∧ va_D (va_A [(h0, .inr (6, [.int 0, .int 0, .int 0, .int 0, .null]))] sz) [(h0, .inr (6, [.int 0, .int 0, .int 0, .int 0, .ref q4])), (q4, .inl (y4, 400, .inl (fun _ => 0)))]) (va_A [(h0, .inr (6, [.int 0, .int 0, .int 0, .int 0, .null]))] sz)) 1 400 (va_A [(h0, .inr (6, [.int 0, .int 0, .int 0, .int 0, .null]))] sz) := by
  refine Met.ofW (cc := cX6_init) (maxL := 1) (ret := none) (by decide) rfl ?_
  intro p e s m args below meth c s₁ B hml hv
  obtain ⟨rfl, hsz, hP, hK, hD0⟩ := hv
  have hx := B.exec
  have hb := B.bytes
  have hr := B.returns
  have hts := atoms_spec (ws := wsX6_init) B.pre
  have hown : s.vm.findClass RX6 = some m.cls := findClass_of_methodNamed B.named
  have hlocks := B.notSynchronized
  have hin : meth.name = "<init>" := (name_of_methodNamed B.named B.method).1
  subst hsz
  have hD := hD0.self (sz := s.heap.size)
  generalize hAe : va_A [(h0, .inr (6, [.int 0, .int 0, .int 0, .int 0, .null]))] s.heap.size = A at hD ⊢
  have hA : ∀ q : Nat, s.heap.size ≤ q → A q := fun q h => by rw [← hAe]; exact Or.inr h
  have hS : va_S A s.heap s.heap [] := va_S.rf
  have hP : va_P D vwCl [(h0, .inr (6, [.int 0, .int 0, .int 0, .int 0, .null]))] s.heap := hP
  have hin6 : ∀ w ∈ u_ws RX6 TX6 5, w ∈ wsX6_init := (fun _ h9 => List.mem_cons_of_mem _ ((List.mem_append_right _ h9)))
  have hl := lv_entry ([.ref h0]) (n := 1) (Nat.le_of_ble_eq_true rfl)
  rw [lg_entry_eq]
  generalize (lg_sl ([.ref h0]) ++ List.replicate (1 - (lg_sl ([.ref h0])).length) Slot.unset).toArray = ls at hl ⊢
  have hl : lv_has ls 1 [(0, .ref h0)] := hl
  refine lv_aload_n hx hb dX6_init_0 rfl (lv_at hl 0 rfl) ?_
  refine W.objInit hx hb hown (hts (.methodLink RX6 3 objectInit) (List.mem_of_getElem? (i := 1) rfl)) (hts (.instanceMethod objectInit) (List.mem_of_getElem? (i := 2) rfl)) (hts (.code objectInit ⟨#[0xb1]⟩ 1 none) (List.mem_of_getElem? (i := 3) rfl)) rfl (by rw [hml]; exact hl.1) rfl dX6_init_1 (Nat.le_of_ble_eq_true rfl) (Nat.le_of_ble_eq_true rfl) ?_
  refine W.eq (g2 := F0 m 4 ls []) rfl ?_
  refine lv_aload_n hx hb dX6_init_4 rfl (lv_at hl 0 rfl) ?_
  refine lv_sipush (v := 400) hx hb dX6_init_5 (by decide) ?_
  refine va_newa (atype := .int) (ty := .int) (a0 := (400, .inl (fun _ => 0))) (N' := 400) hx hb (hts (.arrayClass .int) (List.mem_of_getElem? (i := 4) rfl)) rfl hK hP hD hS hA (fun _ => rfl) (by decide) (by decide) (by decide) (Nat.le_of_ble_eq_true rfl) (Nat.le_of_ble_eq_true rfl) dX6_init_8 (fun q_1 y_2 H hK hP hD hS => ?_)
  have hK : va_K D vwCl [(y_2, .int)] s := hK
  have hP : va_P D vwCl [(h0, .inr (6, [.int 0, .int 0, .int 0, .int 0, .null])), (q_1, .inl (y_2, 400, .inl (fun _ => 0)))] H := hP
  have hD : va_D A [(h0, .inr (6, [.int 0, .int 0, .int 0, .int 0, .null])), (q_1, .inl (y_2, 400, .inl (fun _ => 0)))] := hD
  refine W.widen (k := 1) (n := 400) (by omega) (by omega) ?_
  refine va_putF (D := D) (ci := 6) (v := .ref q_1) (ty := .array .int) (C := RX6) (T := TX6) (N := 5) hx hb hts hin6 tyX6 tyX6_ok nmX6 hown hK hP hD hS 0 rfl rfl 4 (by decide) (hts (.fieldLink RX6 9 "HoneyHouse$Tape" "bytes" "[I") (List.mem_of_getElem? (i := 5) rfl)) (fun _ h9 => h9) rfl hin rfl (tyX6_ok 4 (by decide)) rfl rfl (Nat.le_of_ble_eq_true rfl) dX6_init_10 (fun H locs hP hD hS => ?_)
  have hP : va_P D vwCl [(h0, .inr (6, [.int 0, .int 0, .int 0, .int 0, .ref q_1])), (q_1, .inl (y_2, 400, .inl (fun _ => 0)))] H := hP
  have hD : va_D A [(h0, .inr (6, [.int 0, .int 0, .int 0, .int 0, .ref q_1])), (q_1, .inl (y_2, 400, .inl (fun _ => 0)))] := hD
  have hP9 := hP.sub (ws' := [(h0, .inr (6, [.int 0, .int 0, .int 0, .int 0, .ref q_1])), (q_1, .inl (y_2, 400, .inl (fun _ => 0)))]) [0, 1] rfl
  have hD9 := hD.sub (ws' := [(h0, .inr (6, [.int 0, .int 0, .int 0, .int 0, .ref q_1])), (q_1, .inl (y_2, 400, .inl (fun _ => 0)))]) [0, 1] (by decide) rfl
  have hK9 := hK.sub (tys' := [(y_2, .int)]) [0] rfl
  refine W.widen (k := 1) (n := 400) (by omega) (by omega) ?_
  exact W.vret hx hb hr (fun t ht hW => ⟨⟨(), rfl, trivial, q_1, y_2, by rw [ht]; exact hP9, va_K.moved hW.alike hK9, hD9⟩, hS.F ht⟩) hS.2.2 dX6_init_13
set_option maxHeartbeats 4000000 in
set_option maxRecDepth 100000 in
theorem q_X1_init (l : Launch) (D : va_G) (h0 : Nat) (sz : Nat)  : Met l yX1_init wsX1_init ({ frames := 1, cells := 2, slots := 80, locals := 16 }) (va_Pc [.ref h0] (fun U => U.heap.size = sz ∧ va_P D vwCl [(h0, .inr (1, [.null, .null]))] U.heap ∧ va_K D vwCl [] U ∧ va_D (fun _ => True) [(h0, .inr (1, [.null, .null]))])) (va_Qv (fun _ : Unit => True) (fun (_ : Unit) (t : State) => ∃ (q0 : Nat) (y0 : ClassId) (q1 : Nat) (y1 : ClassId), va_P D vwCl [(h0, .inr (1, [.ref q0, .ref q1])), (q0, .inl (y0, 40, .inl (fun _ => 0))), (q1, .inl (y1, 40, .inr (.inl (fun _ => 0))))] t.heap ∧ va_K D vwCl [(y0, .int), (y1, .long)] t ∧ va_D (va_A [(h0, .inr (1, [.null, .null]))] sz) [(h0, .inr (1, [.ref q0, .ref q1])), (q0, .inl (y0, 40, .inl (fun _ => 0))), (q1, .inl (y1, 40, .inr (.inl (fun _ => 0))))]) (va_A [(h0, .inr (1, [.null, .null]))] sz)) 2 80 (va_A [(h0, .inr (1, [.null, .null]))] sz) := by
  refine Met.ofW (cc := cX1_init) (maxL := 1) (ret := none) (by decide) rfl ?_
  intro p e s m args below meth c s₁ B hml hv
  obtain ⟨rfl, hsz, hP, hK, hD0⟩ := hv
  have hx := B.exec
  have hb := B.bytes
  have hr := B.returns
  have hts := atoms_spec (ws := wsX1_init) B.pre
  have hown : s.vm.findClass RX1 = some m.cls := findClass_of_methodNamed B.named
  have hlocks := B.notSynchronized
  have hin : meth.name = "<init>" := (name_of_methodNamed B.named B.method).1
  subst hsz
  have hD := hD0.self (sz := s.heap.size)
  generalize hAe : va_A [(h0, .inr (1, [.null, .null]))] s.heap.size = A at hD ⊢
  have hA : ∀ q : Nat, s.heap.size ≤ q → A q := fun q h => by rw [← hAe]; exact Or.inr h
  have hS : va_S A s.heap s.heap [] := va_S.rf
  have hP : va_P D vwCl [(h0, .inr (1, [.null, .null]))] s.heap := hP
  have hin1 : ∀ w ∈ u_ws RX1 TX1 2, w ∈ wsX1_init := (fun _ h9 => List.mem_cons_of_mem _ ((List.mem_append_right _ h9)))
  have hl := lv_entry ([.ref h0]) (n := 1) (Nat.le_of_ble_eq_true rfl)
  rw [lg_entry_eq]
  generalize (lg_sl ([.ref h0]) ++ List.replicate (1 - (lg_sl ([.ref h0])).length) Slot.unset).toArray = ls at hl ⊢
  have hl : lv_has ls 1 [(0, .ref h0)] := hl
  refine lv_aload_n hx hb dX1_init_0 rfl (lv_at hl 0 rfl) ?_
  refine W.objInit hx hb hown (hts (.methodLink RX1 3 objectInit) (List.mem_of_getElem? (i := 1) rfl)) (hts (.instanceMethod objectInit) (List.mem_of_getElem? (i := 2) rfl)) (hts (.code objectInit ⟨#[0xb1]⟩ 1 none) (List.mem_of_getElem? (i := 3) rfl)) rfl (by rw [hml]; exact hl.1) rfl dX1_init_1 (Nat.le_of_ble_eq_true rfl) (Nat.le_of_ble_eq_true rfl) ?_
  refine W.eq (g2 := F0 m 4 ls []) rfl ?_
  refine lv_aload_n hx hb dX1_init_4 rfl (lv_at hl 0 rfl) ?_
  refine lv_bipush (v := 40) hx hb dX1_init_5 (by decide) ?_
  refine va_newa (atype := .int) (ty := .int) (a0 := (40, .inl (fun _ => 0))) (N' := 40) hx hb (hts (.arrayClass .int) (List.mem_of_getElem? (i := 4) rfl)) rfl hK hP hD hS hA (fun _ => rfl) (by decide) (by decide) (by decide) (Nat.le_of_ble_eq_true rfl) (Nat.le_of_ble_eq_true rfl) dX1_init_7 (fun q_1 y_2 H hK hP hD hS => ?_)
  have hK : va_K D vwCl [(y_2, .int)] s := hK
  have hP : va_P D vwCl [(h0, .inr (1, [.null, .null])), (q_1, .inl (y_2, 40, .inl (fun _ => 0)))] H := hP
  have hD : va_D A [(h0, .inr (1, [.null, .null])), (q_1, .inl (y_2, 40, .inl (fun _ => 0)))] := hD
  refine W.widen (k := 1) (n := 40) (by omega) (by omega) ?_
  refine va_putF (D := D) (ci := 1) (v := .ref q_1) (ty := .array .int) (C := RX1) (T := TX1) (N := 2) hx hb hts hin1 tyX1 tyX1_ok nmX1 hown hK hP hD hS 0 rfl rfl 0 (by decide) (hts (.fieldLink RX1 9 "HoneyHouse$Draught" "grams" "[I") (List.mem_of_getElem? (i := 5) rfl)) (fun _ h9 => h9) rfl hin rfl (tyX1_ok 0 (by decide)) rfl rfl (Nat.le_of_ble_eq_true rfl) dX1_init_9 (fun H locs hP hD hS => ?_)
  have hP : va_P D vwCl [(h0, .inr (1, [.ref q_1, .null])), (q_1, .inl (y_2, 40, .inl (fun _ => 0)))] H := hP
  have hD : va_D A [(h0, .inr (1, [.ref q_1, .null])), (q_1, .inl (y_2, 40, .inl (fun _ => 0)))] := hD
  refine lv_aload_n hx hb dX1_init_12 rfl (lv_at hl 0 rfl) ?_
  refine lv_bipush (v := 40) hx hb dX1_init_13 (by decide) ?_
  refine va_newa (atype := .long) (ty := .long) (a0 := (40, .inr (.inl (fun _ => 0)))) (N' := 40) hx hb (hts (.arrayClass .long) (List.mem_of_getElem? (i := 6) rfl)) rfl hK hP hD hS hA (fun _ => rfl) (by decide) (by decide) (by decide) (Nat.le_of_ble_eq_true rfl) (Nat.le_of_ble_eq_true rfl) dX1_init_15 (fun q_3 y_4 H hK hP hD hS => ?_)
  have hK : va_K D vwCl [(y_2, .int), (y_4, .long)] s := hK
  have hP : va_P D vwCl [(h0, .inr (1, [.ref q_1, .null])), (q_1, .inl (y_2, 40, .inl (fun _ => 0))), (q_3, .inl (y_4, 40, .inr (.inl (fun _ => 0))))] H := hP
  have hD : va_D A [(h0, .inr (1, [.ref q_1, .null])), (q_1, .inl (y_2, 40, .inl (fun _ => 0))), (q_3, .inl (y_4, 40, .inr (.inl (fun _ => 0))))] := hD
  refine W.widen (k := 2) (n := 80) (by omega) (by omega) ?_
  refine va_putF (D := D) (ci := 1) (v := .ref q_3) (ty := .array .long) (C := RX1) (T := TX1) (N := 2) hx hb hts hin1 tyX1 tyX1_ok nmX1 hown hK hP hD hS 0 rfl rfl 1 (by decide) (hts (.fieldLink RX1 15 "HoneyHouse$Draught" "rests" "[J") (List.mem_of_getElem? (i := 7) rfl)) (fun _ h9 => h9) rfl hin rfl (tyX1_ok 1 (by decide)) rfl rfl (Nat.le_of_ble_eq_true rfl) dX1_init_17 (fun H locs hP hD hS => ?_)
  have hP : va_P D vwCl [(h0, .inr (1, [.ref q_1, .ref q_3])), (q_1, .inl (y_2, 40, .inl (fun _ => 0))), (q_3, .inl (y_4, 40, .inr (.inl (fun _ => 0))))] H := hP
  have hD : va_D A [(h0, .inr (1, [.ref q_1, .ref q_3])), (q_1, .inl (y_2, 40, .inl (fun _ => 0))), (q_3, .inl (y_4, 40, .inr (.inl (fun _ => 0))))] := hD
  have hP9 := hP.sub (ws' := [(h0, .inr (1, [.ref q_1, .ref q_3])), (q_1, .inl (y_2, 40, .inl (fun _ => 0))), (q_3, .inl (y_4, 40, .inr (.inl (fun _ => 0))))]) [0, 1, 2] rfl
  have hD9 := hD.sub (ws' := [(h0, .inr (1, [.ref q_1, .ref q_3])), (q_1, .inl (y_2, 40, .inl (fun _ => 0))), (q_3, .inl (y_4, 40, .inr (.inl (fun _ => 0))))]) [0, 1, 2] (by decide) rfl
  have hK9 := hK.sub (tys' := [(y_2, .int), (y_4, .long)]) [0, 1] rfl
  refine W.widen (k := 2) (n := 80) (by omega) (by omega) ?_
  exact W.vret hx hb hr (fun t ht hW => ⟨⟨(), rfl, trivial, q_1, y_2, q_3, y_4, by rw [ht]; exact hP9, va_K.moved hW.alike hK9, hD9⟩, hS.F ht⟩) hS.2.2 dX1_init_20
set_option maxHeartbeats 4000000 in
set_option maxRecDepth 100000 in
theorem q_X0_init (l : Launch) (D : va_G) (h0 : Nat) (sz : Nat)  : Met l yX0_init wsX0_init ({ frames := 1, cells := 7, slots := 34, locals := 16 }) (va_Pc [.ref h0] (fun U => U.heap.size = sz ∧ va_P D vwCl [(h0, .inr (0, [.null, .int 0, .null, .null, .null, .null, .null, .null, .int 0, .int 0, .int 0, .int 0, .int 0, .int 0]))] U.heap ∧ va_K D vwCl [] U ∧ va_D (fun _ => True) [(h0, .inr (0, [.null, .int 0, .null, .null, .null, .null, .null, .null, .int 0, .int 0, .int 0, .int 0, .int 0, .int 0]))])) (va_Qv (fun _ : Unit => True) (fun (_ : Unit) (t : State) => ∃ (q0 : Nat) (y0 : ClassId) (q2 : Nat) (y2 : ClassId) (q3 : Nat) (y3 : ClassId) (q4 : Nat) (y4 : ClassId) (q5 : Nat) (y5 : ClassId) (q6 : Nat) (y6 : ClassId) (q7 : Nat) (y7 : ClassId), va_P D vwCl [(h0, .inr (0, [.ref q0, .int 0, .ref q2, .ref q3, .ref q4, .ref q5, .ref q6, .ref q7, .int 0, .int 0, .int 0, .int 0, .int 0, .int 0])), (q0, .inl (y0, 10, .inl (fun _ => 0))), (q2, .inl (y2, 4, .inl (fun _ => 0))), (q3, .inl (y3, 4, .inl (fun _ => 0))), (q4, .inl (y4, 4, .inl (fun _ => 0))), (q5, .inl (y5, 4, .inl (fun _ => 0))), (q6, .inl (y6, 4, .inl (fun _ => 0))), (q7, .inl (y7, 4, .inl (fun _ => 0)))] t.heap ∧ va_K D vwCl [(y0, .int), (y2, .int), (y3, .int), (y4, .int), (y5, .int), (y6, .int), (y7, .int)] t ∧ va_D (va_A [(h0, .inr (0, [.null, .int 0, .null, .null, .null, .null, .null, .null, .int 0, .int 0, .int 0, .int 0, .int 0, .int 0]))] sz) [(h0, .inr (0, [.ref q0, .int 0, .ref q2, .ref q3, .ref q4, .ref q5, .ref q6, .ref q7, .int 0, .int 0, .int 0, .int 0, .int 0, .int 0])), (q0, .inl (y0, 10, .inl (fun _ => 0))), (q2, .inl (y2, 4, .inl (fun _ => 0))), (q3, .inl (y3, 4, .inl (fun _ => 0))), (q4, .inl (y4, 4, .inl (fun _ => 0))), (q5, .inl (y5, 4, .inl (fun _ => 0))), (q6, .inl (y6, 4, .inl (fun _ => 0))), (q7, .inl (y7, 4, .inl (fun _ => 0)))]) (va_A [(h0, .inr (0, [.null, .int 0, .null, .null, .null, .null, .null, .null, .int 0, .int 0, .int 0, .int 0, .int 0, .int 0]))] sz)) 7 34 (va_A [(h0, .inr (0, [.null, .int 0, .null, .null, .null, .null, .null, .null, .int 0, .int 0, .int 0, .int 0, .int 0, .int 0]))] sz) := by
  refine Met.ofW (cc := cX0_init) (maxL := 1) (ret := none) (by decide) rfl ?_
  intro p e s m args below meth c s₁ B hml hv
  obtain ⟨rfl, hsz, hP, hK, hD0⟩ := hv
  have hx := B.exec
  have hb := B.bytes
  have hr := B.returns
  have hts := atoms_spec (ws := wsX0_init) B.pre
  have hown : s.vm.findClass RX0 = some m.cls := findClass_of_methodNamed B.named
  have hlocks := B.notSynchronized
  have hin : meth.name = "<init>" := (name_of_methodNamed B.named B.method).1
  subst hsz
  have hD := hD0.self (sz := s.heap.size)
  generalize hAe : va_A [(h0, .inr (0, [.null, .int 0, .null, .null, .null, .null, .null, .null, .int 0, .int 0, .int 0, .int 0, .int 0, .int 0]))] s.heap.size = A at hD ⊢
  have hA : ∀ q : Nat, s.heap.size ≤ q → A q := fun q h => by rw [← hAe]; exact Or.inr h
  have hS : va_S A s.heap s.heap [] := va_S.rf
  have hP : va_P D vwCl [(h0, .inr (0, [.null, .int 0, .null, .null, .null, .null, .null, .null, .int 0, .int 0, .int 0, .int 0, .int 0, .int 0]))] s.heap := hP
  have hin0 : ∀ w ∈ u_ws RX0 TX0 14, w ∈ wsX0_init := (fun _ h9 => List.mem_cons_of_mem _ ((List.mem_append_right _ h9)))
  have hl := lv_entry ([.ref h0]) (n := 1) (Nat.le_of_ble_eq_true rfl)
  rw [lg_entry_eq]
  generalize (lg_sl ([.ref h0]) ++ List.replicate (1 - (lg_sl ([.ref h0])).length) Slot.unset).toArray = ls at hl ⊢
  have hl : lv_has ls 1 [(0, .ref h0)] := hl
  refine lv_aload_n hx hb dX0_init_0 rfl (lv_at hl 0 rfl) ?_
  refine W.objInit hx hb hown (hts (.methodLink RX0 3 objectInit) (List.mem_of_getElem? (i := 1) rfl)) (hts (.instanceMethod objectInit) (List.mem_of_getElem? (i := 2) rfl)) (hts (.code objectInit ⟨#[0xb1]⟩ 1 none) (List.mem_of_getElem? (i := 3) rfl)) rfl (by rw [hml]; exact hl.1) rfl dX0_init_1 (Nat.le_of_ble_eq_true rfl) (Nat.le_of_ble_eq_true rfl) ?_
  refine W.eq (g2 := F0 m 4 ls []) rfl ?_
  refine lv_aload_n hx hb dX0_init_4 rfl (lv_at hl 0 rfl) ?_
  refine lv_bipush (v := 10) hx hb dX0_init_5 (by decide) ?_
  refine va_newa (atype := .int) (ty := .int) (a0 := (10, .inl (fun _ => 0))) (N' := 10) hx hb (hts (.arrayClass .int) (List.mem_of_getElem? (i := 4) rfl)) rfl hK hP hD hS hA (fun _ => rfl) (by decide) (by decide) (by decide) (Nat.le_of_ble_eq_true rfl) (Nat.le_of_ble_eq_true rfl) dX0_init_7 (fun q_1 y_2 H hK hP hD hS => ?_)
  have hK : va_K D vwCl [(y_2, .int)] s := hK
  have hP : va_P D vwCl [(h0, .inr (0, [.null, .int 0, .null, .null, .null, .null, .null, .null, .int 0, .int 0, .int 0, .int 0, .int 0, .int 0])), (q_1, .inl (y_2, 10, .inl (fun _ => 0)))] H := hP
  have hD : va_D A [(h0, .inr (0, [.null, .int 0, .null, .null, .null, .null, .null, .null, .int 0, .int 0, .int 0, .int 0, .int 0, .int 0])), (q_1, .inl (y_2, 10, .inl (fun _ => 0)))] := hD
  refine W.widen (k := 1) (n := 10) (by omega) (by omega) ?_
  refine va_putF (D := D) (ci := 0) (v := .ref q_1) (ty := .array .int) (C := RX0) (T := TX0) (N := 14) hx hb hts hin0 tyX0 tyX0_ok nmX0 hown hK hP hD hS 0 rfl rfl 0 (by decide) (hts (.fieldLink RX0 9 "HoneyHouse$Blender" "toldParts" "[I") (List.mem_of_getElem? (i := 5) rfl)) (fun _ h9 => h9) rfl hin rfl (tyX0_ok 0 (by decide)) rfl rfl (Nat.le_of_ble_eq_true rfl) dX0_init_9 (fun H locs hP hD hS => ?_)
  have hP : va_P D vwCl [(h0, .inr (0, [.ref q_1, .int 0, .null, .null, .null, .null, .null, .null, .int 0, .int 0, .int 0, .int 0, .int 0, .int 0])), (q_1, .inl (y_2, 10, .inl (fun _ => 0)))] H := hP
  have hD : va_D A [(h0, .inr (0, [.ref q_1, .int 0, .null, .null, .null, .null, .null, .null, .int 0, .int 0, .int 0, .int 0, .int 0, .int 0])), (q_1, .inl (y_2, 10, .inl (fun _ => 0)))] := hD
  refine lv_aload_n hx hb dX0_init_12 rfl (lv_at hl 0 rfl) ?_
  refine lv_iconst (v := 4) hx hb dX0_init_13 (by decide) ?_
  refine va_newa (atype := .int) (ty := .int) (a0 := (4, .inl (fun _ => 0))) (N' := 4) hx hb (hts (.arrayClass .int) (List.mem_of_getElem? (i := 4) rfl)) rfl hK hP hD hS hA (fun _ => rfl) (by decide) (by decide) (by decide) (Nat.le_of_ble_eq_true rfl) (Nat.le_of_ble_eq_true rfl) dX0_init_14 (fun q_3 y_4 H hK hP hD hS => ?_)
  have hK : va_K D vwCl [(y_2, .int), (y_4, .int)] s := hK
  have hP : va_P D vwCl [(h0, .inr (0, [.ref q_1, .int 0, .null, .null, .null, .null, .null, .null, .int 0, .int 0, .int 0, .int 0, .int 0, .int 0])), (q_1, .inl (y_2, 10, .inl (fun _ => 0))), (q_3, .inl (y_4, 4, .inl (fun _ => 0)))] H := hP
  have hD : va_D A [(h0, .inr (0, [.ref q_1, .int 0, .null, .null, .null, .null, .null, .null, .int 0, .int 0, .int 0, .int 0, .int 0, .int 0])), (q_1, .inl (y_2, 10, .inl (fun _ => 0))), (q_3, .inl (y_4, 4, .inl (fun _ => 0)))] := hD
  refine W.widen (k := 2) (n := 14) (by omega) (by omega) ?_
  refine va_putF (D := D) (ci := 0) (v := .ref q_3) (ty := .array .int) (C := RX0) (T := TX0) (N := 14) hx hb hts hin0 tyX0 tyX0_ok nmX0 hown hK hP hD hS 0 rfl rfl 2 (by decide) (hts (.fieldLink RX0 15 "HoneyHouse$Blender" "tankNumbers" "[I") (List.mem_of_getElem? (i := 6) rfl)) (fun _ h9 => h9) rfl hin rfl (tyX0_ok 2 (by decide)) rfl rfl (Nat.le_of_ble_eq_true rfl) dX0_init_16 (fun H locs hP hD hS => ?_)
  have hP : va_P D vwCl [(h0, .inr (0, [.ref q_1, .int 0, .ref q_3, .null, .null, .null, .null, .null, .int 0, .int 0, .int 0, .int 0, .int 0, .int 0])), (q_1, .inl (y_2, 10, .inl (fun _ => 0))), (q_3, .inl (y_4, 4, .inl (fun _ => 0)))] H := hP
  have hD : va_D A [(h0, .inr (0, [.ref q_1, .int 0, .ref q_3, .null, .null, .null, .null, .null, .int 0, .int 0, .int 0, .int 0, .int 0, .int 0])), (q_1, .inl (y_2, 10, .inl (fun _ => 0))), (q_3, .inl (y_4, 4, .inl (fun _ => 0)))] := hD
  refine lv_aload_n hx hb dX0_init_19 rfl (lv_at hl 0 rfl) ?_
  refine lv_iconst (v := 4) hx hb dX0_init_20 (by decide) ?_
  refine va_newa (atype := .int) (ty := .int) (a0 := (4, .inl (fun _ => 0))) (N' := 4) hx hb (hts (.arrayClass .int) (List.mem_of_getElem? (i := 4) rfl)) rfl hK hP hD hS hA (fun _ => rfl) (by decide) (by decide) (by decide) (Nat.le_of_ble_eq_true rfl) (Nat.le_of_ble_eq_true rfl) dX0_init_21 (fun q_5 y_6 H hK hP hD hS => ?_)
  have hK : va_K D vwCl [(y_2, .int), (y_4, .int), (y_6, .int)] s := hK
  have hP : va_P D vwCl [(h0, .inr (0, [.ref q_1, .int 0, .ref q_3, .null, .null, .null, .null, .null, .int 0, .int 0, .int 0, .int 0, .int 0, .int 0])), (q_1, .inl (y_2, 10, .inl (fun _ => 0))), (q_3, .inl (y_4, 4, .inl (fun _ => 0))), (q_5, .inl (y_6, 4, .inl (fun _ => 0)))] H := hP
  have hD : va_D A [(h0, .inr (0, [.ref q_1, .int 0, .ref q_3, .null, .null, .null, .null, .null, .int 0, .int 0, .int 0, .int 0, .int 0, .int 0])), (q_1, .inl (y_2, 10, .inl (fun _ => 0))), (q_3, .inl (y_4, 4, .inl (fun _ => 0))), (q_5, .inl (y_6, 4, .inl (fun _ => 0)))] := hD
  refine W.widen (k := 3) (n := 18) (by omega) (by omega) ?_
  refine va_putF (D := D) (ci := 0) (v := .ref q_5) (ty := .array .int) (C := RX0) (T := TX0) (N := 14) hx hb hts hin0 tyX0 tyX0_ok nmX0 hown hK hP hD hS 0 rfl rfl 3 (by decide) (hts (.fieldLink RX0 18 "HoneyHouse$Blender" "mostParts" "[I") (List.mem_of_getElem? (i := 7) rfl)) (fun _ h9 => h9) rfl hin rfl (tyX0_ok 3 (by decide)) rfl rfl (Nat.le_of_ble_eq_true rfl) dX0_init_23 (fun H locs hP hD hS => ?_)
  have hP : va_P D vwCl [(h0, .inr (0, [.ref q_1, .int 0, .ref q_3, .ref q_5, .null, .null, .null, .null, .int 0, .int 0, .int 0, .int 0, .int 0, .int 0])), (q_1, .inl (y_2, 10, .inl (fun _ => 0))), (q_3, .inl (y_4, 4, .inl (fun _ => 0))), (q_5, .inl (y_6, 4, .inl (fun _ => 0)))] H := hP
  have hD : va_D A [(h0, .inr (0, [.ref q_1, .int 0, .ref q_3, .ref q_5, .null, .null, .null, .null, .int 0, .int 0, .int 0, .int 0, .int 0, .int 0])), (q_1, .inl (y_2, 10, .inl (fun _ => 0))), (q_3, .inl (y_4, 4, .inl (fun _ => 0))), (q_5, .inl (y_6, 4, .inl (fun _ => 0)))] := hD
  refine lv_aload_n hx hb dX0_init_26 rfl (lv_at hl 0 rfl) ?_
  refine lv_iconst (v := 4) hx hb dX0_init_27 (by decide) ?_
  refine va_newa (atype := .int) (ty := .int) (a0 := (4, .inl (fun _ => 0))) (N' := 4) hx hb (hts (.arrayClass .int) (List.mem_of_getElem? (i := 4) rfl)) rfl hK hP hD hS hA (fun _ => rfl) (by decide) (by decide) (by decide) (Nat.le_of_ble_eq_true rfl) (Nat.le_of_ble_eq_true rfl) dX0_init_28 (fun q_7 y_8 H hK hP hD hS => ?_)
  have hK : va_K D vwCl [(y_2, .int), (y_4, .int), (y_6, .int), (y_8, .int)] s := hK
  have hP : va_P D vwCl [(h0, .inr (0, [.ref q_1, .int 0, .ref q_3, .ref q_5, .null, .null, .null, .null, .int 0, .int 0, .int 0, .int 0, .int 0, .int 0])), (q_1, .inl (y_2, 10, .inl (fun _ => 0))), (q_3, .inl (y_4, 4, .inl (fun _ => 0))), (q_5, .inl (y_6, 4, .inl (fun _ => 0))), (q_7, .inl (y_8, 4, .inl (fun _ => 0)))] H := hP
  have hD : va_D A [(h0, .inr (0, [.ref q_1, .int 0, .ref q_3, .ref q_5, .null, .null, .null, .null, .int 0, .int 0, .int 0, .int 0, .int 0, .int 0])), (q_1, .inl (y_2, 10, .inl (fun _ => 0))), (q_3, .inl (y_4, 4, .inl (fun _ => 0))), (q_5, .inl (y_6, 4, .inl (fun _ => 0))), (q_7, .inl (y_8, 4, .inl (fun _ => 0)))] := hD
  refine W.widen (k := 4) (n := 22) (by omega) (by omega) ?_
  refine va_putF (D := D) (ci := 0) (v := .ref q_7) (ty := .array .int) (C := RX0) (T := TX0) (N := 14) hx hb hts hin0 tyX0 tyX0_ok nmX0 hown hK hP hD hS 0 rfl rfl 4 (by decide) (hts (.fieldLink RX0 21 "HoneyHouse$Blender" "waters" "[I") (List.mem_of_getElem? (i := 8) rfl)) (fun _ h9 => h9) rfl hin rfl (tyX0_ok 4 (by decide)) rfl rfl (Nat.le_of_ble_eq_true rfl) dX0_init_30 (fun H locs hP hD hS => ?_)
  have hP : va_P D vwCl [(h0, .inr (0, [.ref q_1, .int 0, .ref q_3, .ref q_5, .ref q_7, .null, .null, .null, .int 0, .int 0, .int 0, .int 0, .int 0, .int 0])), (q_1, .inl (y_2, 10, .inl (fun _ => 0))), (q_3, .inl (y_4, 4, .inl (fun _ => 0))), (q_5, .inl (y_6, 4, .inl (fun _ => 0))), (q_7, .inl (y_8, 4, .inl (fun _ => 0)))] H := hP
  have hD : va_D A [(h0, .inr (0, [.ref q_1, .int 0, .ref q_3, .ref q_5, .ref q_7, .null, .null, .null, .int 0, .int 0, .int 0, .int 0, .int 0, .int 0])), (q_1, .inl (y_2, 10, .inl (fun _ => 0))), (q_3, .inl (y_4, 4, .inl (fun _ => 0))), (q_5, .inl (y_6, 4, .inl (fun _ => 0))), (q_7, .inl (y_8, 4, .inl (fun _ => 0)))] := hD
  refine lv_aload_n hx hb dX0_init_33 rfl (lv_at hl 0 rfl) ?_
  refine lv_iconst (v := 4) hx hb dX0_init_34 (by decide) ?_
  refine va_newa (atype := .int) (ty := .int) (a0 := (4, .inl (fun _ => 0))) (N' := 4) hx hb (hts (.arrayClass .int) (List.mem_of_getElem? (i := 4) rfl)) rfl hK hP hD hS hA (fun _ => rfl) (by decide) (by decide) (by decide) (Nat.le_of_ble_eq_true rfl) (Nat.le_of_ble_eq_true rfl) dX0_init_35 (fun q_9 y_10 H hK hP hD hS => ?_)
  have hK : va_K D vwCl [(y_2, .int), (y_4, .int), (y_6, .int), (y_8, .int), (y_10, .int)] s := hK
  have hP : va_P D vwCl [(h0, .inr (0, [.ref q_1, .int 0, .ref q_3, .ref q_5, .ref q_7, .null, .null, .null, .int 0, .int 0, .int 0, .int 0, .int 0, .int 0])), (q_1, .inl (y_2, 10, .inl (fun _ => 0))), (q_3, .inl (y_4, 4, .inl (fun _ => 0))), (q_5, .inl (y_6, 4, .inl (fun _ => 0))), (q_7, .inl (y_8, 4, .inl (fun _ => 0))), (q_9, .inl (y_10, 4, .inl (fun _ => 0)))] H := hP
  have hD : va_D A [(h0, .inr (0, [.ref q_1, .int 0, .ref q_3, .ref q_5, .ref q_7, .null, .null, .null, .int 0, .int 0, .int 0, .int 0, .int 0, .int 0])), (q_1, .inl (y_2, 10, .inl (fun _ => 0))), (q_3, .inl (y_4, 4, .inl (fun _ => 0))), (q_5, .inl (y_6, 4, .inl (fun _ => 0))), (q_7, .inl (y_8, 4, .inl (fun _ => 0))), (q_9, .inl (y_10, 4, .inl (fun _ => 0)))] := hD
  refine W.widen (k := 5) (n := 26) (by omega) (by omega) ?_
  refine va_putF (D := D) (ci := 0) (v := .ref q_9) (ty := .array .int) (C := RX0) (T := TX0) (N := 14) hx hb hts hin0 tyX0 tyX0_ok nmX0 hown hK hP hD hS 0 rfl rfl 5 (by decide) (hts (.fieldLink RX0 24 "HoneyHouse$Blender" "colours" "[I") (List.mem_of_getElem? (i := 9) rfl)) (fun _ h9 => h9) rfl hin rfl (tyX0_ok 5 (by decide)) rfl rfl (Nat.le_of_ble_eq_true rfl) dX0_init_37 (fun H locs hP hD hS => ?_)
  have hP : va_P D vwCl [(h0, .inr (0, [.ref q_1, .int 0, .ref q_3, .ref q_5, .ref q_7, .ref q_9, .null, .null, .int 0, .int 0, .int 0, .int 0, .int 0, .int 0])), (q_1, .inl (y_2, 10, .inl (fun _ => 0))), (q_3, .inl (y_4, 4, .inl (fun _ => 0))), (q_5, .inl (y_6, 4, .inl (fun _ => 0))), (q_7, .inl (y_8, 4, .inl (fun _ => 0))), (q_9, .inl (y_10, 4, .inl (fun _ => 0)))] H := hP
  have hD : va_D A [(h0, .inr (0, [.ref q_1, .int 0, .ref q_3, .ref q_5, .ref q_7, .ref q_9, .null, .null, .int 0, .int 0, .int 0, .int 0, .int 0, .int 0])), (q_1, .inl (y_2, 10, .inl (fun _ => 0))), (q_3, .inl (y_4, 4, .inl (fun _ => 0))), (q_5, .inl (y_6, 4, .inl (fun _ => 0))), (q_7, .inl (y_8, 4, .inl (fun _ => 0))), (q_9, .inl (y_10, 4, .inl (fun _ => 0)))] := hD
  refine lv_aload_n hx hb dX0_init_40 rfl (lv_at hl 0 rfl) ?_
  refine lv_iconst (v := 4) hx hb dX0_init_41 (by decide) ?_
  refine va_newa (atype := .int) (ty := .int) (a0 := (4, .inl (fun _ => 0))) (N' := 4) hx hb (hts (.arrayClass .int) (List.mem_of_getElem? (i := 4) rfl)) rfl hK hP hD hS hA (fun _ => rfl) (by decide) (by decide) (by decide) (Nat.le_of_ble_eq_true rfl) (Nat.le_of_ble_eq_true rfl) dX0_init_42 (fun q_11 y_12 H hK hP hD hS => ?_)
  have hK : va_K D vwCl [(y_2, .int), (y_4, .int), (y_6, .int), (y_8, .int), (y_10, .int), (y_12, .int)] s := hK
  have hP : va_P D vwCl [(h0, .inr (0, [.ref q_1, .int 0, .ref q_3, .ref q_5, .ref q_7, .ref q_9, .null, .null, .int 0, .int 0, .int 0, .int 0, .int 0, .int 0])), (q_1, .inl (y_2, 10, .inl (fun _ => 0))), (q_3, .inl (y_4, 4, .inl (fun _ => 0))), (q_5, .inl (y_6, 4, .inl (fun _ => 0))), (q_7, .inl (y_8, 4, .inl (fun _ => 0))), (q_9, .inl (y_10, 4, .inl (fun _ => 0))), (q_11, .inl (y_12, 4, .inl (fun _ => 0)))] H := hP
  have hD : va_D A [(h0, .inr (0, [.ref q_1, .int 0, .ref q_3, .ref q_5, .ref q_7, .ref q_9, .null, .null, .int 0, .int 0, .int 0, .int 0, .int 0, .int 0])), (q_1, .inl (y_2, 10, .inl (fun _ => 0))), (q_3, .inl (y_4, 4, .inl (fun _ => 0))), (q_5, .inl (y_6, 4, .inl (fun _ => 0))), (q_7, .inl (y_8, 4, .inl (fun _ => 0))), (q_9, .inl (y_10, 4, .inl (fun _ => 0))), (q_11, .inl (y_12, 4, .inl (fun _ => 0)))] := hD
  refine W.widen (k := 6) (n := 30) (by omega) (by omega) ?_
  refine va_putF (D := D) (ci := 0) (v := .ref q_11) (ty := .array .int) (C := RX0) (T := TX0) (N := 14) hx hb hts hin0 tyX0 tyX0_ok nmX0 hown hK hP hD hS 0 rfl rfl 6 (by decide) (hts (.fieldLink RX0 27 "HoneyHouse$Blender" "prices" "[I") (List.mem_of_getElem? (i := 10) rfl)) (fun _ h9 => h9) rfl hin rfl (tyX0_ok 6 (by decide)) rfl rfl (Nat.le_of_ble_eq_true rfl) dX0_init_44 (fun H locs hP hD hS => ?_)
  have hP : va_P D vwCl [(h0, .inr (0, [.ref q_1, .int 0, .ref q_3, .ref q_5, .ref q_7, .ref q_9, .ref q_11, .null, .int 0, .int 0, .int 0, .int 0, .int 0, .int 0])), (q_1, .inl (y_2, 10, .inl (fun _ => 0))), (q_3, .inl (y_4, 4, .inl (fun _ => 0))), (q_5, .inl (y_6, 4, .inl (fun _ => 0))), (q_7, .inl (y_8, 4, .inl (fun _ => 0))), (q_9, .inl (y_10, 4, .inl (fun _ => 0))), (q_11, .inl (y_12, 4, .inl (fun _ => 0)))] H := hP
  have hD : va_D A [(h0, .inr (0, [.ref q_1, .int 0, .ref q_3, .ref q_5, .ref q_7, .ref q_9, .ref q_11, .null, .int 0, .int 0, .int 0, .int 0, .int 0, .int 0])), (q_1, .inl (y_2, 10, .inl (fun _ => 0))), (q_3, .inl (y_4, 4, .inl (fun _ => 0))), (q_5, .inl (y_6, 4, .inl (fun _ => 0))), (q_7, .inl (y_8, 4, .inl (fun _ => 0))), (q_9, .inl (y_10, 4, .inl (fun _ => 0))), (q_11, .inl (y_12, 4, .inl (fun _ => 0)))] := hD
  refine lv_aload_n hx hb dX0_init_47 rfl (lv_at hl 0 rfl) ?_
  refine lv_iconst (v := 4) hx hb dX0_init_48 (by decide) ?_
  refine va_newa (atype := .int) (ty := .int) (a0 := (4, .inl (fun _ => 0))) (N' := 4) hx hb (hts (.arrayClass .int) (List.mem_of_getElem? (i := 4) rfl)) rfl hK hP hD hS hA (fun _ => rfl) (by decide) (by decide) (by decide) (Nat.le_of_ble_eq_true rfl) (Nat.le_of_ble_eq_true rfl) dX0_init_49 (fun q_13 y_14 H hK hP hD hS => ?_)
  have hK : va_K D vwCl [(y_2, .int), (y_4, .int), (y_6, .int), (y_8, .int), (y_10, .int), (y_12, .int), (y_14, .int)] s := hK
  have hP : va_P D vwCl [(h0, .inr (0, [.ref q_1, .int 0, .ref q_3, .ref q_5, .ref q_7, .ref q_9, .ref q_11, .null, .int 0, .int 0, .int 0, .int 0, .int 0, .int 0])), (q_1, .inl (y_2, 10, .inl (fun _ => 0))), (q_3, .inl (y_4, 4, .inl (fun _ => 0))), (q_5, .inl (y_6, 4, .inl (fun _ => 0))), (q_7, .inl (y_8, 4, .inl (fun _ => 0))), (q_9, .inl (y_10, 4, .inl (fun _ => 0))), (q_11, .inl (y_12, 4, .inl (fun _ => 0))), (q_13, .inl (y_14, 4, .inl (fun _ => 0)))] H := hP
  have hD : va_D A [(h0, .inr (0, [.ref q_1, .int 0, .ref q_3, .ref q_5, .ref q_7, .ref q_9, .ref q_11, .null, .int 0, .int 0, .int 0, .int 0, .int 0, .int 0])), (q_1, .inl (y_2, 10, .inl (fun _ => 0))), (q_3, .inl (y_4, 4, .inl (fun _ => 0))), (q_5, .inl (y_6, 4, .inl (fun _ => 0))), (q_7, .inl (y_8, 4, .inl (fun _ => 0))), (q_9, .inl (y_10, 4, .inl (fun _ => 0))), (q_11, .inl (y_12, 4, .inl (fun _ => 0))), (q_13, .inl (y_14, 4, .inl (fun _ => 0)))] := hD
  refine W.widen (k := 7) (n := 34) (by omega) (by omega) ?_
  refine va_putF (D := D) (ci := 0) (v := .ref q_13) (ty := .array .int) (C := RX0) (T := TX0) (N := 14) hx hb hts hin0 tyX0 tyX0_ok nmX0 hown hK hP hD hS 0 rfl rfl 7 (by decide) (hts (.fieldLink RX0 30 "HoneyHouse$Blender" "best" "[I") (List.mem_of_getElem? (i := 11) rfl)) (fun _ h9 => h9) rfl hin rfl (tyX0_ok 7 (by decide)) rfl rfl (Nat.le_of_ble_eq_true rfl) dX0_init_51 (fun H locs hP hD hS => ?_)
  have hP : va_P D vwCl [(h0, .inr (0, [.ref q_1, .int 0, .ref q_3, .ref q_5, .ref q_7, .ref q_9, .ref q_11, .ref q_13, .int 0, .int 0, .int 0, .int 0, .int 0, .int 0])), (q_1, .inl (y_2, 10, .inl (fun _ => 0))), (q_3, .inl (y_4, 4, .inl (fun _ => 0))), (q_5, .inl (y_6, 4, .inl (fun _ => 0))), (q_7, .inl (y_8, 4, .inl (fun _ => 0))), (q_9, .inl (y_10, 4, .inl (fun _ => 0))), (q_11, .inl (y_12, 4, .inl (fun _ => 0))), (q_13, .inl (y_14, 4, .inl (fun _ => 0)))] H := hP
  have hD : va_D A [(h0, .inr (0, [.ref q_1, .int 0, .ref q_3, .ref q_5, .ref q_7, .ref q_9, .ref q_11, .ref q_13, .int 0, .int 0, .int 0, .int 0, .int 0, .int 0])), (q_1, .inl (y_2, 10, .inl (fun _ => 0))), (q_3, .inl (y_4, 4, .inl (fun _ => 0))), (q_5, .inl (y_6, 4, .inl (fun _ => 0))), (q_7, .inl (y_8, 4, .inl (fun _ => 0))), (q_9, .inl (y_10, 4, .inl (fun _ => 0))), (q_11, .inl (y_12, 4, .inl (fun _ => 0))), (q_13, .inl (y_14, 4, .inl (fun _ => 0)))] := hD
  have hP9 := hP.sub (ws' := [(h0, .inr (0, [.ref q_1, .int 0, .ref q_3, .ref q_5, .ref q_7, .ref q_9, .ref q_11, .ref q_13, .int 0, .int 0, .int 0, .int 0, .int 0, .int 0])), (q_1, .inl (y_2, 10, .inl (fun _ => 0))), (q_3, .inl (y_4, 4, .inl (fun _ => 0))), (q_5, .inl (y_6, 4, .inl (fun _ => 0))), (q_7, .inl (y_8, 4, .inl (fun _ => 0))), (q_9, .inl (y_10, 4, .inl (fun _ => 0))), (q_11, .inl (y_12, 4, .inl (fun _ => 0))), (q_13, .inl (y_14, 4, .inl (fun _ => 0)))]) [0, 1, 2, 3, 4, 5, 6, 7] rfl
  have hD9 := hD.sub (ws' := [(h0, .inr (0, [.ref q_1, .int 0, .ref q_3, .ref q_5, .ref q_7, .ref q_9, .ref q_11, .ref q_13, .int 0, .int 0, .int 0, .int 0, .int 0, .int 0])), (q_1, .inl (y_2, 10, .inl (fun _ => 0))), (q_3, .inl (y_4, 4, .inl (fun _ => 0))), (q_5, .inl (y_6, 4, .inl (fun _ => 0))), (q_7, .inl (y_8, 4, .inl (fun _ => 0))), (q_9, .inl (y_10, 4, .inl (fun _ => 0))), (q_11, .inl (y_12, 4, .inl (fun _ => 0))), (q_13, .inl (y_14, 4, .inl (fun _ => 0)))]) [0, 1, 2, 3, 4, 5, 6, 7] (by decide) rfl
  have hK9 := hK.sub (tys' := [(y_2, .int), (y_4, .int), (y_6, .int), (y_8, .int), (y_10, .int), (y_12, .int), (y_14, .int)]) [0, 1, 2, 3, 4, 5, 6] rfl
  refine W.widen (k := 7) (n := 34) (by omega) (by omega) ?_
  exact W.vret hx hb hr (fun t ht hW => ⟨⟨(), rfl, trivial, q_1, y_2, q_3, y_4, q_5, y_6, q_7, y_8, q_9, y_10, q_11, y_12, q_13, y_14, by rw [ht]; exact hP9, va_K.moved hW.alike hK9, hD9⟩, hS.F ht⟩) hS.2.2 dX0_init_54
set_option maxHeartbeats 4000000 in
set_option maxRecDepth 100000 in
theorem q_X7_init (l : Launch) (D : va_G) (h0 : Nat) (a1 a2 : Int32) (sz : Nat)  : Met l yX7_init wsX7_init ({ frames := 1, cells := 1, slots := 40, locals := 16 }) (va_Pc [.ref h0, .int a1, .int a2] (fun U => U.heap.size = sz ∧ va_P D vwCl [(h0, .inr (7, [.null, .int 0, .int 0, .int 0, .int 0]))] U.heap ∧ va_K D vwCl [] U ∧ va_D (fun _ => True) [(h0, .inr (7, [.null, .int 0, .int 0, .int 0, .int 0]))])) (va_Qv (fun _ : Unit => True) (fun (_ : Unit) (t : State) => ∃ (q0 : Nat) (y0 : ClassId), va_P D vwCl [(h0, .inr (7, [.ref q0, .int 0, .int 0, .int a1, .int a2])), (q0, .inl (y0, 40, .inl (fun _ => 0)))] t.heap ∧ va_K D vwCl [(y0, .int)] t ∧ va_D (va_A [(h0, .inr (7, [.null, .int 0, .int 0, .int 0, .int 0]))] sz) [(h0, .inr (7, [.ref q0, .int 0, .int 0, .int a1, .int a2])), (q0, .inl (y0, 40, .inl (fun _ => 0)))]) (va_A [(h0, .inr (7, [.null, .int 0, .int 0, .int 0, .int 0]))] sz)) 1 40 (va_A [(h0, .inr (7, [.null, .int 0, .int 0, .int 0, .int 0]))] sz) := by
  refine Met.ofW (cc := cX7_init) (maxL := 3) (ret := none) (by decide) rfl ?_
  intro p e s m args below meth c s₁ B hml hv
  obtain ⟨rfl, hsz, hP, hK, hD0⟩ := hv
  have hx := B.exec
  have hb := B.bytes
  have hr := B.returns
  have hts := atoms_spec (ws := wsX7_init) B.pre
  have hown : s.vm.findClass RX7 = some m.cls := findClass_of_methodNamed B.named
  have hlocks := B.notSynchronized
  have hin : meth.name = "<init>" := (name_of_methodNamed B.named B.method).1
  subst hsz
  have hD := hD0.self (sz := s.heap.size)
  generalize hAe : va_A [(h0, .inr (7, [.null, .int 0, .int 0, .int 0, .int 0]))] s.heap.size = A at hD ⊢
  have hA : ∀ q : Nat, s.heap.size ≤ q → A q := fun q h => by rw [← hAe]; exact Or.inr h
  have hS : va_S A s.heap s.heap [] := va_S.rf
  have hP : va_P D vwCl [(h0, .inr (7, [.null, .int 0, .int 0, .int 0, .int 0]))] s.heap := hP
  have hin7 : ∀ w ∈ u_ws RX7 TX7 5, w ∈ wsX7_init := (fun _ h9 => List.mem_cons_of_mem _ ((List.mem_append_right _ h9)))
  have hl := lv_entry ([.ref h0, .int a1, .int a2]) (n := 3) (Nat.le_of_ble_eq_true rfl)
  rw [lg_entry_eq]
  generalize (lg_sl ([.ref h0, .int a1, .int a2]) ++ List.replicate (3 - (lg_sl ([.ref h0, .int a1, .int a2])).length) Slot.unset).toArray = ls at hl ⊢
  have hl : lv_has ls 3 [(0, .ref h0), (1, .int a1), (2, .int a2)] := hl
  refine lv_aload_n hx hb dX7_init_0 rfl (lv_at hl 0 rfl) ?_
  refine W.objInit hx hb hown (hts (.methodLink RX7 3 objectInit) (List.mem_of_getElem? (i := 1) rfl)) (hts (.instanceMethod objectInit) (List.mem_of_getElem? (i := 2) rfl)) (hts (.code objectInit ⟨#[0xb1]⟩ 1 none) (List.mem_of_getElem? (i := 3) rfl)) rfl (by rw [hml]; exact hl.1) rfl dX7_init_1 (Nat.le_of_ble_eq_true rfl) (Nat.le_of_ble_eq_true rfl) ?_
  refine W.eq (g2 := F0 m 4 ls []) rfl ?_
  refine lv_aload_n hx hb dX7_init_4 rfl (lv_at hl 0 rfl) ?_
  refine lv_bipush (v := 40) hx hb dX7_init_5 (by decide) ?_
  refine va_newa (atype := .int) (ty := .int) (a0 := (40, .inl (fun _ => 0))) (N' := 40) hx hb (hts (.arrayClass .int) (List.mem_of_getElem? (i := 4) rfl)) rfl hK hP hD hS hA (fun _ => rfl) (by decide) (by decide) (by decide) (Nat.le_of_ble_eq_true rfl) (Nat.le_of_ble_eq_true rfl) dX7_init_7 (fun q_1 y_2 H hK hP hD hS => ?_)
  have hK : va_K D vwCl [(y_2, .int)] s := hK
  have hP : va_P D vwCl [(h0, .inr (7, [.null, .int 0, .int 0, .int 0, .int 0])), (q_1, .inl (y_2, 40, .inl (fun _ => 0)))] H := hP
  have hD : va_D A [(h0, .inr (7, [.null, .int 0, .int 0, .int 0, .int 0])), (q_1, .inl (y_2, 40, .inl (fun _ => 0)))] := hD
  refine W.widen (k := 1) (n := 40) (by omega) (by omega) ?_
  refine va_putF (D := D) (ci := 7) (v := .ref q_1) (ty := .array .int) (C := RX7) (T := TX7) (N := 5) hx hb hts hin7 tyX7 tyX7_ok nmX7 hown hK hP hD hS 0 rfl rfl 0 (by decide) (hts (.fieldLink RX7 9 "HoneyHouse$Vessel" "grams" "[I") (List.mem_of_getElem? (i := 5) rfl)) (fun _ h9 => h9) rfl hin rfl (tyX7_ok 0 (by decide)) rfl rfl (Nat.le_of_ble_eq_true rfl) dX7_init_9 (fun H locs hP hD hS => ?_)
  have hP : va_P D vwCl [(h0, .inr (7, [.ref q_1, .int 0, .int 0, .int 0, .int 0])), (q_1, .inl (y_2, 40, .inl (fun _ => 0)))] H := hP
  have hD : va_D A [(h0, .inr (7, [.ref q_1, .int 0, .int 0, .int 0, .int 0])), (q_1, .inl (y_2, 40, .inl (fun _ => 0)))] := hD
  refine lv_aload_n hx hb dX7_init_12 rfl (lv_at hl 0 rfl) ?_
  refine lv_iload_n hx hb dX7_init_13 rfl (lv_at hl 1 rfl) ?_
  refine va_put (D := D) (ci := 7) (v := .int a1) (ty := .int) (C := RX7) (T := TX7) (N := 5) hx hb hts hin7 tyX7 tyX7_ok nmX7 hown hK hP hD hS 0 rfl rfl 3 (by decide) (hts (.fieldLink RX7 15 "HoneyHouse$Vessel" "roomOrTank" "I") (List.mem_of_getElem? (i := 6) rfl)) (fun _ h9 => h9) rfl (tyX7_ok 3 (by decide)) rfl rfl (Nat.le_of_ble_eq_true rfl) dX7_init_14 (fun H locs hP hD hS => ?_)
  have hP : va_P D vwCl [(h0, .inr (7, [.ref q_1, .int 0, .int 0, .int a1, .int 0])), (q_1, .inl (y_2, 40, .inl (fun _ => 0)))] H := hP
  have hD : va_D A [(h0, .inr (7, [.ref q_1, .int 0, .int 0, .int a1, .int 0])), (q_1, .inl (y_2, 40, .inl (fun _ => 0)))] := hD
  refine lv_aload_n hx hb dX7_init_17 rfl (lv_at hl 0 rfl) ?_
  refine lv_iload_n hx hb dX7_init_18 rfl (lv_at hl 2 rfl) ?_
  refine va_put (D := D) (ci := 7) (v := .int a2) (ty := .int) (C := RX7) (T := TX7) (N := 5) hx hb hts hin7 tyX7 tyX7_ok nmX7 hown hK hP hD hS 0 rfl rfl 4 (by decide) (hts (.fieldLink RX7 19 "HoneyHouse$Vessel" "priceOrDay" "I") (List.mem_of_getElem? (i := 7) rfl)) (fun _ h9 => h9) rfl (tyX7_ok 4 (by decide)) rfl rfl (Nat.le_of_ble_eq_true rfl) dX7_init_19 (fun H locs hP hD hS => ?_)
  have hP : va_P D vwCl [(h0, .inr (7, [.ref q_1, .int 0, .int 0, .int a1, .int a2])), (q_1, .inl (y_2, 40, .inl (fun _ => 0)))] H := hP
  have hD : va_D A [(h0, .inr (7, [.ref q_1, .int 0, .int 0, .int a1, .int a2])), (q_1, .inl (y_2, 40, .inl (fun _ => 0)))] := hD
  have hP9 := hP.sub (ws' := [(h0, .inr (7, [.ref q_1, .int 0, .int 0, .int a1, .int a2])), (q_1, .inl (y_2, 40, .inl (fun _ => 0)))]) [0, 1] rfl
  have hD9 := hD.sub (ws' := [(h0, .inr (7, [.ref q_1, .int 0, .int 0, .int a1, .int a2])), (q_1, .inl (y_2, 40, .inl (fun _ => 0)))]) [0, 1] (by decide) rfl
  have hK9 := hK.sub (tys' := [(y_2, .int)]) [0] rfl
  refine W.widen (k := 1) (n := 40) (by omega) (by omega) ?_
  exact W.vret hx hb hr (fun t ht hW => ⟨⟨(), rfl, trivial, q_1, y_2, by rw [ht]; exact hP9, va_K.moved hW.alike hK9, hD9⟩, hS.F ht⟩) hS.2.2 dX7_init_22
set_option maxHeartbeats 4000000 in
set_option maxRecDepth 100000 in
theorem q_X4_init (l : Launch) (D : va_G) (h0 : Nat) (sz : Nat)  : Met l yX4_init wsX4_init ({ frames := 2, cells := 3, slots := 605, locals := 36 }) (va_Pc [.ref h0] (fun U => U.heap.size = sz ∧ va_P D vwCl [(h0, .inr (4, [.null, .long 0, .int 0, .int 0, .int 0, .null, .int 0, .int 0]))] U.heap ∧ va_K D vwCl [] U ∧ va_D (fun _ => True) [(h0, .inr (4, [.null, .long 0, .int 0, .int 0, .int 0, .null, .int 0, .int 0]))] ∧ va_Nw (.methodLinkNest RX4 11 yX6_init RX8) U)) (va_Qv (fun _ : Unit => True) (fun (_ : Unit) (t : State) => ∃ (q1 q2 : Nat) (y2 : ClassId) (q3 : Nat) (y3 : ClassId), va_P D vwCl [(h0, .inr (4, [.ref q1, .long 0, .int 0, .int 0, .int (-1), .ref q3, .int 0, .int 0])), (q1, .inr (6, [.int 0, .int 0, .int 0, .int 0, .ref q2])), (q2, .inl (y2, 400, .inl (fun _ => 0))), (q3, .inl (y3, 200, .inl (fun _ => 0)))] t.heap ∧ va_K D vwCl [(y2, .int), (y3, .int)] t ∧ va_D (va_A [(h0, .inr (4, [.null, .long 0, .int 0, .int 0, .int 0, .null, .int 0, .int 0]))] sz) [(h0, .inr (4, [.ref q1, .long 0, .int 0, .int 0, .int (-1), .ref q3, .int 0, .int 0])), (q1, .inr (6, [.int 0, .int 0, .int 0, .int 0, .ref q2])), (q2, .inl (y2, 400, .inl (fun _ => 0))), (q3, .inl (y3, 200, .inl (fun _ => 0)))]) (va_A [(h0, .inr (4, [.null, .long 0, .int 0, .int 0, .int 0, .null, .int 0, .int 0]))] sz)) 3 605 (va_A [(h0, .inr (4, [.null, .long 0, .int 0, .int 0, .int 0, .null, .int 0, .int 0]))] sz) := by
  refine Met.ofW (cc := cX4_init) (maxL := 1) (ret := none) (by decide) rfl ?_
  intro p e s m args below meth c s₁ B hml hv
  obtain ⟨rfl, hsz, hP, hK, hD0, hn11⟩ := hv
  have hx := B.exec
  have hb := B.bytes
  have hr := B.returns
  have hts := atoms_spec (ws := wsX4_init) B.pre
  have hown : s.vm.findClass RX4 = some m.cls := findClass_of_methodNamed B.named
  have hlocks := B.notSynchronized
  have hin : meth.name = "<init>" := (name_of_methodNamed B.named B.method).1
  subst hsz
  have hD := hD0.self (sz := s.heap.size)
  generalize hAe : va_A [(h0, .inr (4, [.null, .long 0, .int 0, .int 0, .int 0, .null, .int 0, .int 0]))] s.heap.size = A at hD ⊢
  have hA : ∀ q : Nat, s.heap.size ≤ q → A q := fun q h => by rw [← hAe]; exact Or.inr h
  have hS : va_S A s.heap s.heap [] := va_S.rf
  have hP : va_P D vwCl [(h0, .inr (4, [.null, .long 0, .int 0, .int 0, .int 0, .null, .int 0, .int 0]))] s.heap := hP
  have hin4 : ∀ w ∈ u_ws RX4 TX4 8, w ∈ wsX4_init := (fun _ h9 => List.mem_cons_of_mem _ ((List.mem_append_right _ h9)))
  have hin6 : ∀ w ∈ u_ws RX6 TX6 5, w ∈ wsX4_init := (fun _ h9 => List.mem_cons_of_mem _ (List.mem_append_left _ ((List.mem_append_right _ h9))))
  have hl := lv_entry ([.ref h0]) (n := 1) (Nat.le_of_ble_eq_true rfl)
  rw [lg_entry_eq]
  generalize (lg_sl ([.ref h0]) ++ List.replicate (1 - (lg_sl ([.ref h0])).length) Slot.unset).toArray = ls at hl ⊢
  have hl : lv_has ls 1 [(0, .ref h0)] := hl
  refine lv_aload_n hx hb dX4_init_0 rfl (lv_at hl 0 rfl) ?_
  refine W.objInit hx hb hown (hts (.methodLink RX4 3 objectInit) (List.mem_of_getElem? (i := 1) rfl)) (hts (.instanceMethod objectInit) (List.mem_of_getElem? (i := 2) rfl)) (hts (.code objectInit ⟨#[0xb1]⟩ 1 none) (List.mem_of_getElem? (i := 3) rfl)) rfl (by rw [hml]; exact hl.1) rfl dX4_init_1 (Nat.le_of_ble_eq_true rfl) (Nat.le_of_ble_eq_true rfl) ?_
  refine W.eq (g2 := F0 m 4 ls []) rfl ?_
  refine lv_aload_n hx hb dX4_init_4 rfl (lv_at hl 0 rfl) ?_
  refine va_new (ci := 6) (fs := [.int 0, .int 0, .int 0, .int 0, .null]) (C := RX6) (T := TX6) (N := 5) hx hb hts hin6 tyX6 tyX6_ok hown (hts (.classLink RX4 9 RX6) (List.mem_of_getElem? (i := 4) rfl)) (hts (.instantiable RX6 5) (List.mem_of_getElem? (i := 5) rfl)) (hts (.initialized RX6) (List.mem_of_getElem? (i := 6) rfl)) hK hP hD hS hA rfl (fun j hj => by rcases (show j = 0 ∨ j = 1 ∨ j = 2 ∨ j = 3 ∨ j = 4 by omega) with rfl | rfl | rfl | rfl | rfl <;> rfl) (Nat.le_of_ble_eq_true rfl) (Nat.le_of_ble_eq_true rfl) dX4_init_5 (fun q_1 H hP hD hS => ?_)
  have hP : va_P D vwCl [(h0, .inr (4, [.null, .long 0, .int 0, .int 0, .int 0, .null, .int 0, .int 0])), (q_1, .inr (6, [.int 0, .int 0, .int 0, .int 0, .null]))] H := hP
  have hD : va_D A [(h0, .inr (4, [.null, .long 0, .int 0, .int 0, .int 0, .null, .int 0, .int 0])), (q_1, .inr (6, [.int 0, .int 0, .int 0, .int 0, .null]))] := hD
  refine W.widen (k := 1) (n := 5) (by omega) (by omega) ?_
  refine lv_dup hx hb dX4_init_8 rfl ?_
  have hPc := hP.sub (ws' := [(q_1, .inr (6, [.int 0, .int 0, .int 0, .int 0, .null]))]) [1] rfl
  have hDc := hD.sub (ws' := [(q_1, .inr (6, [.int 0, .int 0, .int 0, .int 0, .null]))]) [1] (by decide) rfl
  have hKc := hK.sub (tys' := []) [] rfl
  have hFc := va_free (wc := [(q_1, .inr (6, [.int 0, .int 0, .int 0, .int 0, .null]))]) hD hS hA [1] rfl
  refine va_callv (va_runIN (As := []) (rest := [.ref q_1, .ref h0]) ⟨hx, hb, hml, hown, hts⟩ (q_X6_init l D q_1 H.size) ⟨va_cnB 0 hts gX4_init_X6_init_n11 rfl rfl rfl hn11 (hts (.initialized RX6) (List.mem_of_getElem? (i := 6) rfl)) (by decide +kernel) ⟨Nat.le_of_ble_eq_true rfl, Nat.le_of_ble_eq_true rfl⟩, rfl, (hts (.instanceMethod yX6_init) (List.mem_of_getElem? (i := 11) rfl))⟩ ⟨fun a U g mk q => by obtain ⟨q0, q1, qP, qK, qD⟩ := q; exact ⟨q0, q1, qP, va_K.moved (u := U) (U := U.calling g mk a) (Vm.Alike.refl U.vm) qK, qD⟩, fun U hU hW => ⟨rfl, by rw [hU], by rw [hU]; exact hPc, va_K.moved hW.alike hKc, hDc.weaken (fun _ _ _ _ => trivial)⟩⟩ rfl rfl hl.1 rfl (lv_room (Nat.le_of_ble_eq_true rfl)) dX4_init_9 ⟨Nat.le_of_ble_eq_true rfl, Nat.le_of_ble_eq_true rfl⟩) hS (fun q _ h => hFc q h) hFc (fun u t H1 locs ht hvm w_3 hB hz1 hk1 hS => ?_)
  obtain ⟨q_4, y_5, hP1, hK1, hD1⟩ := hB
  rw [ht] at hP1
  have hK1 := va_K.moved hvm.symm hK1
  obtain ⟨hP, hD⟩ := va_join (wr := [(h0, .inr (4, [.null, .long 0, .int 0, .int 0, .int 0, .null, .int 0, .int 0]))]) (w1 := [(q_1, .inr (6, [.int 0, .int 0, .int 0, .int 0, .ref q_4])), (q_4, .inl (y_5, 400, .inl (fun _ => 0)))]) hP hD [1] [0] rfl rfl (by decide) (by decide) hk1 hFc hP1 hD1
  have hK := hK.app hK1
  generalize H1 = H at hP hS ⊢
  have hP : va_P D vwCl [(h0, .inr (4, [.null, .long 0, .int 0, .int 0, .int 0, .null, .int 0, .int 0])), (q_1, .inr (6, [.int 0, .int 0, .int 0, .int 0, .ref q_4])), (q_4, .inl (y_5, 400, .inl (fun _ => 0)))] H := hP
  have hD : va_D A [(h0, .inr (4, [.null, .long 0, .int 0, .int 0, .int 0, .null, .int 0, .int 0])), (q_1, .inr (6, [.int 0, .int 0, .int 0, .int 0, .ref q_4])), (q_4, .inl (y_5, 400, .inl (fun _ => 0)))] := hD
  have hK : va_K D vwCl [(y_5, .int)] s := hK
  refine W.widen (k := 2) (n := 405) (by omega) (by omega) ?_
  refine va_putF (D := D) (ci := 4) (v := .ref q_1) (ty := .object "HoneyHouse$Tape") (C := RX4) (T := TX4) (N := 8) hx hb hts hin4 tyX4 tyX4_ok nmX4 hown hK hP hD hS 0 rfl rfl 0 (by decide) (hts (.fieldLink RX4 12 "HoneyHouse$RuleReader" "tape" "LHoneyHouse$Tape;") (List.mem_of_getElem? (i := 7) rfl)) (fun _ h9 => h9) rfl hin rfl (tyX4_ok 0 (by decide)) rfl rfl (Nat.le_of_ble_eq_true rfl) dX4_init_12 (fun H locs hP hD hS => ?_)
  have hP : va_P D vwCl [(h0, .inr (4, [.ref q_1, .long 0, .int 0, .int 0, .int 0, .null, .int 0, .int 0])), (q_1, .inr (6, [.int 0, .int 0, .int 0, .int 0, .ref q_4])), (q_4, .inl (y_5, 400, .inl (fun _ => 0)))] H := hP
  have hD : va_D A [(h0, .inr (4, [.ref q_1, .long 0, .int 0, .int 0, .int 0, .null, .int 0, .int 0])), (q_1, .inr (6, [.int 0, .int 0, .int 0, .int 0, .ref q_4])), (q_4, .inl (y_5, 400, .inl (fun _ => 0)))] := hD
  refine lv_aload_n hx hb dX4_init_15 rfl (lv_at hl 0 rfl) ?_
  refine lv_iconst (v := (-1)) hx hb dX4_init_16 (by decide) ?_
  refine va_put (D := D) (ci := 4) (v := .int (-1)) (ty := .int) (C := RX4) (T := TX4) (N := 8) hx hb hts hin4 tyX4 tyX4_ok nmX4 hown hK hP hD hS 0 rfl rfl 4 (by decide) (hts (.fieldLink RX4 18 "HoneyHouse$RuleReader" "faultPlace" "I") (List.mem_of_getElem? (i := 8) rfl)) (fun _ h9 => h9) rfl (tyX4_ok 4 (by decide)) rfl rfl (Nat.le_of_ble_eq_true rfl) dX4_init_17 (fun H locs hP hD hS => ?_)
  have hP : va_P D vwCl [(h0, .inr (4, [.ref q_1, .long 0, .int 0, .int 0, .int (-1), .null, .int 0, .int 0])), (q_1, .inr (6, [.int 0, .int 0, .int 0, .int 0, .ref q_4])), (q_4, .inl (y_5, 400, .inl (fun _ => 0)))] H := hP
  have hD : va_D A [(h0, .inr (4, [.ref q_1, .long 0, .int 0, .int 0, .int (-1), .null, .int 0, .int 0])), (q_1, .inr (6, [.int 0, .int 0, .int 0, .int 0, .ref q_4])), (q_4, .inl (y_5, 400, .inl (fun _ => 0)))] := hD
  refine lv_aload_n hx hb dX4_init_20 rfl (lv_at hl 0 rfl) ?_
  refine lv_sipush (v := 200) hx hb dX4_init_21 (by decide) ?_
  refine va_newa (atype := .int) (ty := .int) (a0 := (200, .inl (fun _ => 0))) (N' := 200) hx hb (hts (.arrayClass .int) (List.mem_of_getElem? (i := 9) rfl)) rfl hK hP hD hS hA (fun _ => rfl) (by decide) (by decide) (by decide) (Nat.le_of_ble_eq_true rfl) (Nat.le_of_ble_eq_true rfl) dX4_init_24 (fun q_6 y_7 H hK hP hD hS => ?_)
  have hK : va_K D vwCl [(y_5, .int), (y_7, .int)] s := hK
  have hP : va_P D vwCl [(h0, .inr (4, [.ref q_1, .long 0, .int 0, .int 0, .int (-1), .null, .int 0, .int 0])), (q_1, .inr (6, [.int 0, .int 0, .int 0, .int 0, .ref q_4])), (q_4, .inl (y_5, 400, .inl (fun _ => 0))), (q_6, .inl (y_7, 200, .inl (fun _ => 0)))] H := hP
  have hD : va_D A [(h0, .inr (4, [.ref q_1, .long 0, .int 0, .int 0, .int (-1), .null, .int 0, .int 0])), (q_1, .inr (6, [.int 0, .int 0, .int 0, .int 0, .ref q_4])), (q_4, .inl (y_5, 400, .inl (fun _ => 0))), (q_6, .inl (y_7, 200, .inl (fun _ => 0)))] := hD
  refine W.widen (k := 3) (n := 605) (by omega) (by omega) ?_
  refine va_putF (D := D) (ci := 4) (v := .ref q_6) (ty := .array .int) (C := RX4) (T := TX4) (N := 8) hx hb hts hin4 tyX4 tyX4_ok nmX4 hown hK hP hD hS 0 rfl rfl 5 (by decide) (hts (.fieldLink RX4 22 "HoneyHouse$RuleReader" "codes" "[I") (List.mem_of_getElem? (i := 10) rfl)) (fun _ h9 => h9) rfl hin rfl (tyX4_ok 5 (by decide)) rfl rfl (Nat.le_of_ble_eq_true rfl) dX4_init_26 (fun H locs hP hD hS => ?_)
  have hP : va_P D vwCl [(h0, .inr (4, [.ref q_1, .long 0, .int 0, .int 0, .int (-1), .ref q_6, .int 0, .int 0])), (q_1, .inr (6, [.int 0, .int 0, .int 0, .int 0, .ref q_4])), (q_4, .inl (y_5, 400, .inl (fun _ => 0))), (q_6, .inl (y_7, 200, .inl (fun _ => 0)))] H := hP
  have hD : va_D A [(h0, .inr (4, [.ref q_1, .long 0, .int 0, .int 0, .int (-1), .ref q_6, .int 0, .int 0])), (q_1, .inr (6, [.int 0, .int 0, .int 0, .int 0, .ref q_4])), (q_4, .inl (y_5, 400, .inl (fun _ => 0))), (q_6, .inl (y_7, 200, .inl (fun _ => 0)))] := hD
  have hP9 := hP.sub (ws' := [(h0, .inr (4, [.ref q_1, .long 0, .int 0, .int 0, .int (-1), .ref q_6, .int 0, .int 0])), (q_1, .inr (6, [.int 0, .int 0, .int 0, .int 0, .ref q_4])), (q_4, .inl (y_5, 400, .inl (fun _ => 0))), (q_6, .inl (y_7, 200, .inl (fun _ => 0)))]) [0, 1, 2, 3] rfl
  have hD9 := hD.sub (ws' := [(h0, .inr (4, [.ref q_1, .long 0, .int 0, .int 0, .int (-1), .ref q_6, .int 0, .int 0])), (q_1, .inr (6, [.int 0, .int 0, .int 0, .int 0, .ref q_4])), (q_4, .inl (y_5, 400, .inl (fun _ => 0))), (q_6, .inl (y_7, 200, .inl (fun _ => 0)))]) [0, 1, 2, 3] (by decide) rfl
  have hK9 := hK.sub (tys' := [(y_5, .int), (y_7, .int)]) [0, 1] rfl
  refine W.widen (k := 3) (n := 605) (by omega) (by omega) ?_
  exact W.vret hx hb hr (fun t ht hW => ⟨⟨(), rfl, trivial, q_1, q_4, y_5, q_6, y_7, by rw [ht]; exact hP9, va_K.moved hW.alike hK9, hD9⟩, hS.F ht⟩) hS.2.2 dX4_init_29
