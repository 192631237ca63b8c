theorem dX7_gramsOf_0 : decode cX7_gramsOf 0 = .ok (.iload_n 1, 1) := by decide +kernel
theorem dX7_gramsOf_1 : decode cX7_gramsOf 1 = .ok (.ifCond .lt 21, 3) := by decide +kernel
theorem dX7_gramsOf_4 : decode cX7_gramsOf 4 = .ok (.iload_n 1, 1) := by decide +kernel
theorem dX7_gramsOf_5 : decode cX7_gramsOf 5 = .ok (.aload_n 0, 1) := by decide +kernel
theorem dX7_gramsOf_6 : decode cX7_gramsOf 6 = .ok (.getfield 9, 3) := by decide +kernel
theorem dX7_gramsOf_9 : decode cX7_gramsOf 9 = .ok (.arraylength, 1) := by decide +kernel
theorem dX7_gramsOf_10 : decode cX7_gramsOf 10 = .ok (.if_icmp .ge 12, 3) := by decide +kernel
theorem dX7_gramsOf_13 : decode cX7_gramsOf 13 = .ok (.aload_n 0, 1) := by decide +kernel
theorem dX7_gramsOf_14 : decode cX7_gramsOf 14 = .ok (.getfield 9, 3) := by decide +kernel
theorem dX7_gramsOf_17 : decode cX7_gramsOf 17 = .ok (.iload_n 1, 1) := by decide +kernel
theorem dX7_gramsOf_18 : decode cX7_gramsOf 18 = .ok (.iaload, 1) := by decide +kernel
theorem dX7_gramsOf_19 : decode cX7_gramsOf 19 = .ok (.goto 4, 3) := by decide +kernel
theorem dX7_gramsOf_22 : decode cX7_gramsOf 22 = .ok (.iconst 0, 1) := by decide +kernel
theorem dX7_gramsOf_23 : decode cX7_gramsOf 23 = .ok (.ireturn, 1) := by decide +kernel
theorem dX7_hasRoomFor_0 : decode cX7_hasRoomFor 0 = .ok (.iload_n 1, 1) := by decide +kernel
theorem dX7_hasRoomFor_1 : decode cX7_hasRoomFor 1 = .ok (.aload_n 0, 1) := by decide +kernel
theorem dX7_hasRoomFor_2 : decode cX7_hasRoomFor 2 = .ok (.getfield 15, 3) := by decide +kernel
theorem dX7_hasRoomFor_5 : decode cX7_hasRoomFor 5 = .ok (.aload_n 0, 1) := by decide +kernel
theorem dX7_hasRoomFor_6 : decode cX7_hasRoomFor 6 = .ok (.getfield 22, 3) := by decide +kernel
theorem dX7_hasRoomFor_9 : decode cX7_hasRoomFor 9 = .ok (.isub, 1) := by decide +kernel
theorem dX7_hasRoomFor_10 : decode cX7_hasRoomFor 10 = .ok (.if_icmp .gt 7, 3) := by decide +kernel
theorem dX7_hasRoomFor_13 : decode cX7_hasRoomFor 13 = .ok (.iconst 1, 1) := by decide +kernel
theorem dX7_hasRoomFor_14 : decode cX7_hasRoomFor 14 = .ok (.goto 4, 3) := by decide +kernel
theorem dX7_hasRoomFor_17 : decode cX7_hasRoomFor 17 = .ok (.iconst 0, 1) := by decide +kernel
theorem dX7_hasRoomFor_18 : decode cX7_hasRoomFor 18 = .ok (.ireturn, 1) := by decide +kernel
theorem dX1_greatestRest_0 : decode cX1_greatestRest 0 = .ok (.iconst 0, 1) := by decide +kernel
theorem dX1_greatestRest_1 : decode cX1_greatestRest 1 = .ok (.istore_n 1, 1) := by decide +kernel
theorem dX1_greatestRest_2 : decode cX1_greatestRest 2 = .ok (.iconst 1, 1) := by decide +kernel
theorem dX1_greatestRest_3 : decode cX1_greatestRest 3 = .ok (.istore_n 2, 1) := by decide +kernel
theorem dX1_greatestRest_4 : decode cX1_greatestRest 4 = .ok (.iload_n 2, 1) := by decide +kernel
theorem dX1_greatestRest_5 : decode cX1_greatestRest 5 = .ok (.aload_n 0, 1) := by decide +kernel
theorem dX1_greatestRest_6 : decode cX1_greatestRest 6 = .ok (.getfield 15, 3) := by decide +kernel
theorem dX1_greatestRest_9 : decode cX1_greatestRest 9 = .ok (.arraylength, 1) := by decide +kernel
theorem dX1_greatestRest_10 : decode cX1_greatestRest 10 = .ok (.if_icmp .ge 27, 3) := by decide +kernel
theorem dX1_greatestRest_13 : decode cX1_greatestRest 13 = .ok (.aload_n 0, 1) := by decide +kernel
theorem dX1_greatestRest_14 : decode cX1_greatestRest 14 = .ok (.getfield 15, 3) := by decide +kernel
theorem dX1_greatestRest_17 : decode cX1_greatestRest 17 = .ok (.iload_n 2, 1) := by decide +kernel
theorem dX1_greatestRest_18 : decode cX1_greatestRest 18 = .ok (.laload, 1) := by decide +kernel
theorem dX1_greatestRest_19 : decode cX1_greatestRest 19 = .ok (.aload_n 0, 1) := by decide +kernel
theorem dX1_greatestRest_20 : decode cX1_greatestRest 20 = .ok (.getfield 15, 3) := by decide +kernel
theorem dX1_greatestRest_23 : decode cX1_greatestRest 23 = .ok (.iload_n 1, 1) := by decide +kernel
theorem dX1_greatestRest_24 : decode cX1_greatestRest 24 = .ok (.laload, 1) := by decide +kernel
theorem dX1_greatestRest_25 : decode cX1_greatestRest 25 = .ok (.lcmp, 1) := by decide +kernel
theorem dX1_greatestRest_26 : decode cX1_greatestRest 26 = .ok (.ifCond .le 5, 3) := by decide +kernel
theorem dX1_greatestRest_29 : decode cX1_greatestRest 29 = .ok (.iload_n 2, 1) := by decide +kernel
theorem dX1_greatestRest_30 : decode cX1_greatestRest 30 = .ok (.istore_n 1, 1) := by decide +kernel
theorem dX1_greatestRest_31 : decode cX1_greatestRest 31 = .ok (.iinc 2 1, 3) := by decide +kernel
theorem dX1_greatestRest_34 : decode cX1_greatestRest 34 = .ok (.goto (-30), 3) := by decide +kernel
theorem dX1_greatestRest_37 : decode cX1_greatestRest 37 = .ok (.iload_n 1, 1) := by decide +kernel
theorem dX1_greatestRest_38 : decode cX1_greatestRest 38 = .ok (.ireturn, 1) := by decide +kernel
theorem dJ7_fill_53178_0 : decode cJ7_fill_53178 0 = .ok (.iconst 0, 1) := by decide +kernel
theorem dJ7_fill_53178_1 : decode cJ7_fill_53178 1 = .ok (.istore_n 2, 1) := by decide +kernel
theorem dJ7_fill_53178_2 : decode cJ7_fill_53178 2 = .ok (.aload_n 0, 1) := by decide +kernel
theorem dJ7_fill_53178_3 : decode cJ7_fill_53178 3 = .ok (.arraylength, 1) := by decide +kernel
theorem dJ7_fill_53178_4 : decode cJ7_fill_53178 4 = .ok (.istore_n 3, 1) := by decide +kernel
theorem dJ7_fill_53178_5 : decode cJ7_fill_53178 5 = .ok (.iload_n 2, 1) := by decide +kernel
theorem dJ7_fill_53178_6 : decode cJ7_fill_53178 6 = .ok (.iload_n 3, 1) := by decide +kernel
theorem dJ7_fill_53178_7 : decode cJ7_fill_53178 7 = .ok (.if_icmp .ge 13, 3) := by decide +kernel
theorem dJ7_fill_53178_10 : decode cJ7_fill_53178 10 = .ok (.aload_n 0, 1) := by decide +kernel
theorem dJ7_fill_53178_11 : decode cJ7_fill_53178 11 = .ok (.iload_n 2, 1) := by decide +kernel
theorem dJ7_fill_53178_12 : decode cJ7_fill_53178 12 = .ok (.iload_n 1, 1) := by decide +kernel
theorem dJ7_fill_53178_13 : decode cJ7_fill_53178 13 = .ok (.iastore, 1) := by decide +kernel
theorem dJ7_fill_53178_14 : decode cJ7_fill_53178 14 = .ok (.iinc 2 1, 3) := by decide +kernel
theorem dJ7_fill_53178_17 : decode cJ7_fill_53178 17 = .ok (.goto (-12), 3) := by decide +kernel
theorem dJ7_fill_53178_20 : decode cJ7_fill_53178 20 = .ok (.return_, 1) := by decide +kernel
/-- a loop that changes no cell, in a state x -/
theorem lp_S {p : Program} {l : Launch} {e : Env} {R : Room} {s : State} {m : MethodId} {args : Array Value} {below : List Frame} {meth : Method} {c : Code} {H : Heap} {locs : List Loc} {cells slots : Nat} {Q : State → Prop} {pc : Nat} {σ : Type} (nL N : Nat) (lv : Nat → σ → List (Nat × Value)) (J : Nat → σ → Prop)
    (hs : ∀ i : Nat, i ≤ N → (i < N → ∀ (x : σ) (ls : Array Slot), J (i + 1) x → lv_has ls nL (lv (i + 1) x) → W p l e R s m args below meth c H locs cells slots Q (F0 m pc ls [])) → ∀ (x : σ) (ls : Array Slot), J i x → lv_has ls nL (lv i x) → W p l e R s m args below meth c H locs cells slots Q (F0 m pc ls [])) :
    ∀ i : Nat, i ≤ N → ∀ (x : σ) (ls : Array Slot), J i x → lv_has ls nL (lv i x) → W p l e R s m args below meth c H locs cells slots Q (F0 m pc ls []) := by
  have key : ∀ (n i : Nat), i ≤ N → N + 1 ≤ i + n → ∀ (x : σ) (ls : Array Slot), J i x → lv_has ls nL (lv i x) → W p l e R s m args below meth c H locs cells slots Q (F0 m pc ls []) := by
    intro n
    induction n with
    | zero => intro i h1 h2; exact absurd h2 (by omega)
    | succ n ih => intro i h1 h2; exact hs i h1 (fun h x ls => ih (i + 1) (by omega) (by omega) x ls)
  intro i hi
  exact key (N + 1) i hi (by omega)
theorem i_pos64 {x : Int32} (h : 0 < x) : ¬ x.toInt64 = 0 := by
  intro e
  have e2 := congrArg Int64.toInt e
  rw [Int32.toInt_toInt64] at e2
  rw [i_lt] at h
  have h0 : (0 : Int32).toInt = 0 := by decide
  have h1 : (0 : Int64).toInt = 0 := by decide
  rw [h0] at h; rw [h1] at e2
  omega
set_option maxHeartbeats 4000000 in
set_option maxRecDepth 100000 in
theorem s_gramsOf (l : Launch) (D : va_G) (ws : va_W) (tys : List (ClassId × FieldType)) (v kv : Nat) (vt vh vr vp : Int32) (g kg : Nat) (cg : ClassId) (tg : Nat) (f : Nat → Int32) (a1 : Int32) (ev : ws[kv]? = some (v, .inr (7, [.ref g, .int vt, .int vh, .int vr, .int vp]))) (eg : ws[kg]? = some (g, .inl (cg, 40, .inl f))) (ug : tys[tg]? = some (cg, .int)) : Met l yX7_gramsOf wsX7_gramsOf ({ frames := 0, cells := 0, slots := 0, locals := 0 }) (va_Pc [.ref v, .int a1] (fun U => va_P D vwCl ws U.heap ∧ va_K D vwCl tys U)) (vp_Si (fun r => (r = 0 ∧ (a1 < 0 ∨ 40 ≤ a1)) ∨ (¬ a1 < 0 ∧ ¬ 40 ≤ a1 ∧ r = f a1.toNatClampNeg))) 0 0 (fun _ => False) := by
  refine Met.ofW (cc := cX7_gramsOf) (maxL := 2) (ret := (some .int)) (by decide) rfl ?_
  intro p e s m args below meth c s₁ B hml hv
  obtain ⟨rfl, hP, hK⟩ := hv
  have hx := B.exec
  have hb := B.bytes
  have hr := B.returns
  have hts := atoms_spec (ws := wsX7_gramsOf) B.pre
  have hown : s.vm.findClass RX7 = some m.cls := findClass_of_methodNamed B.named
  have hlocks := B.notSynchronized
  have hin7 : ∀ w ∈ u_ws RX7 TX7 5, w ∈ wsX7_gramsOf := (fun _ h9 => List.mem_cons_of_mem _ ((List.mem_append_right _ h9)))
  have hl := lv_entry ([.ref v, .int a1]) (n := 2) (Nat.le_of_ble_eq_true rfl)
  rw [lg_entry_eq]
  generalize (lg_sl ([.ref v, .int a1]) ++ List.replicate (2 - (lg_sl ([.ref v, .int a1])).length) Slot.unset).toArray = ls at hl ⊢
  have hl : lv_has ls 2 [(0, .ref v), (1, .int a1)] := hl
  refine lv_iload_n hx hb dX7_gramsOf_0 rfl (lv_at hl 1 rfl) ?_
  refine lv_if_lt (tgt := 22) hx hb dX7_gramsOf_1 (by decide) (fun c_1 => ?_) (fun c_1 => ?_)
  · refine lv_iconst (v := 0) hx hb dX7_gramsOf_22 (by decide) ?_
    exact W.iret (v := 0) hx hb hr (fun t ht hW => ⟨0, rfl, Or.inl ⟨rfl, Or.inl c_1⟩, ht⟩) (fun _ h9 => by cases h9) dX7_gramsOf_23
  refine lv_iload_n hx hb dX7_gramsOf_4 rfl (lv_at hl 1 rfl) ?_
  refine lv_aload_n hx hb dX7_gramsOf_5 rfl (lv_at hl 0 rfl) ?_
  refine va_get (D := D) (ci := 7) (v := .ref g) (C := RX7) (T := TX7) (N := 5) hx hb hts hin7 hown hK hP kv ev rfl 0 (by decide) (hts (.fieldLink RX7 9 "HoneyHouse$Vessel" "grams" "[I") (List.mem_of_getElem? (i := 1) rfl)) (fun _ h9 => h9) rfl dX7_gramsOf_6 ?_
  refine va_alen (v := 40) hx hb hK hP kg tg eg ug rfl dX7_gramsOf_9 ?_
  refine lv_icmp_ge (tgt := 22) hx hb dX7_gramsOf_10 (by decide) (fun c_2 => ?_) (fun c_2 => ?_)
  · refine lv_iconst (v := 0) hx hb dX7_gramsOf_22 (by decide) ?_
    exact W.iret (v := 0) hx hb hr (fun t ht hW => ⟨0, rfl, Or.inl ⟨rfl, Or.inr c_2⟩, ht⟩) (fun _ h9 => by cases h9) dX7_gramsOf_23
  refine lv_aload_n hx hb dX7_gramsOf_13 rfl (lv_at hl 0 rfl) ?_
  refine va_get (D := D) (ci := 7) (v := .ref g) (C := RX7) (T := TX7) (N := 5) hx hb hts hin7 hown hK hP kv ev rfl 0 (by decide) (hts (.fieldLink RX7 9 "HoneyHouse$Vessel" "grams" "[I") (List.mem_of_getElem? (i := 1) rfl)) (fun _ h9 => h9) rfl dX7_gramsOf_14 ?_
  refine lv_iload_n hx hb dX7_gramsOf_17 rfl (lv_at hl 1 rfl) ?_
  refine va_iald (f := f) (n := 40) hx hb hK hP kg tg eg ug (i_in40 c_1 c_2) dX7_gramsOf_18 ?_
  refine lv_goto (tgt := 23) hx hb dX7_gramsOf_19 (by decide) ?_
  exact W.iret (v := f a1.toNatClampNeg) hx hb hr (fun t ht hW => ⟨f a1.toNatClampNeg, rfl, Or.inr ⟨c_1, c_2, rfl⟩, ht⟩) (fun _ h9 => by cases h9) dX7_gramsOf_23
set_option maxHeartbeats 4000000 in
set_option maxRecDepth 100000 in
theorem s_hasRoomFor (l : Launch) (D : va_G) (ws : va_W) (tys : List (ClassId × FieldType)) (v kv : Nat) (vt vh vr vp : Int32) (g kg : Nat) (cg : ClassId) (tg : Nat) (f : Nat → Int32) (a1 : Int32) (ev : ws[kv]? = some (v, .inr (7, [.ref g, .int vt, .int vh, .int vr, .int vp]))) (eg : ws[kg]? = some (g, .inl (cg, 40, .inl f))) (ug : tys[tg]? = some (cg, .int)) : Met l yX7_hasRoomFor wsX7_hasRoomFor ({ frames := 0, cells := 0, slots := 0, locals := 0 }) (va_Pc [.ref v, .int a1] (fun U => va_P D vwCl ws U.heap ∧ va_K D vwCl tys U)) (vp_Si (fun r => (r = 0 ∧ vr - vt < a1) ∨ (r = 1 ∧ ¬ vr - vt < a1))) 0 0 (fun _ => False) := by
  refine Met.ofW (cc := cX7_hasRoomFor) (maxL := 2) (ret := (some .boolean)) (by decide) rfl ?_
  intro p e s m args below meth c s₁ B hml hv
  obtain ⟨rfl, hP, hK⟩ := hv
  have hx := B.exec
  have hb := B.bytes
  have hr := B.returns
  have hts := atoms_spec (ws := wsX7_hasRoomFor) B.pre
  have hown : s.vm.findClass RX7 = some m.cls := findClass_of_methodNamed B.named
  have hlocks := B.notSynchronized
  have hin7 : ∀ w ∈ u_ws RX7 TX7 5, w ∈ wsX7_hasRoomFor := (fun _ h9 => List.mem_cons_of_mem _ ((List.mem_append_right _ h9)))
  have hl := lv_entry ([.ref v, .int a1]) (n := 2) (Nat.le_of_ble_eq_true rfl)
  rw [lg_entry_eq]
  generalize (lg_sl ([.ref v, .int a1]) ++ List.replicate (2 - (lg_sl ([.ref v, .int a1])).length) Slot.unset).toArray = ls at hl ⊢
  have hl : lv_has ls 2 [(0, .ref v), (1, .int a1)] := hl
  refine lv_iload_n hx hb dX7_hasRoomFor_0 rfl (lv_at hl 1 rfl) ?_
  refine lv_aload_n hx hb dX7_hasRoomFor_1 rfl (lv_at hl 0 rfl) ?_
  refine va_get (D := D) (ci := 7) (v := .int vr) (C := RX7) (T := TX7) (N := 5) hx hb hts hin7 hown hK hP kv ev rfl 3 (by decide) (hts (.fieldLink RX7 15 "HoneyHouse$Vessel" "roomOrTank" "I") (List.mem_of_getElem? (i := 1) rfl)) (fun _ h9 => h9) rfl dX7_hasRoomFor_2 ?_
  refine lv_aload_n hx hb dX7_hasRoomFor_5 rfl (lv_at hl 0 rfl) ?_
  refine va_get (D := D) (ci := 7) (v := .int vt) (C := RX7) (T := TX7) (N := 5) hx hb hts hin7 hown hK hP kv ev rfl 1 (by decide) (hts (.fieldLink RX7 22 "HoneyHouse$Vessel" "total" "I") (List.mem_of_getElem? (i := 2) rfl)) (fun _ h9 => h9) rfl dX7_hasRoomFor_6 ?_
  refine lv_isub hx hb dX7_hasRoomFor_9 ?_
  refine lv_icmp_gt (tgt := 17) hx hb dX7_hasRoomFor_10 (by decide) (fun c_1 => ?_) (fun c_1 => ?_)
  · refine lv_iconst (v := 0) hx hb dX7_hasRoomFor_17 (by decide) ?_
    exact W.zret (v := 0) hx hb hr rfl (fun t ht hW => ⟨0, rfl, Or.inl ⟨rfl, c_1⟩, ht⟩) (fun _ h9 => by cases h9) dX7_hasRoomFor_18
  refine lv_iconst (v := 1) hx hb dX7_hasRoomFor_13 (by decide) ?_
  refine lv_goto (tgt := 18) hx hb dX7_hasRoomFor_14 (by decide) ?_
  exact W.zret (v := 1) hx hb hr rfl (fun t ht hW => ⟨1, rfl, Or.inr ⟨rfl, c_1⟩, ht⟩) (fun _ h9 => by cases h9) dX7_hasRoomFor_18
set_option maxHeartbeats 4000000 in
set_option maxRecDepth 100000 in
theorem s_greatestRest (l : Launch) (D : va_G) (ws : va_W) (tys : List (ClassId × FieldType)) (d kd : Nat) (dg kdg : Nat) (cdg : ClassId) (tdg : Nat) (fd : Nat → Int32) (dq kdq : Nat) (cdq : ClassId) (tdq : Nat) (fq : Nat → Int64) (ed : ws[kd]? = some (d, .inr (1, [.ref dg, .ref dq]))) (edg : ws[kdg]? = some (dg, .inl (cdg, 40, .inl fd))) (udg : tys[tdg]? = some (cdg, .int)) (edq : ws[kdq]? = some (dq, .inl (cdq, 40, .inr (.inl fq)))) (udq : tys[tdq]? = some (cdq, .long)) : Met l yX1_greatestRest wsX1_greatestRest ({ frames := 0, cells := 0, slots := 0, locals := 0 }) (va_Pc [.ref d] (fun U => va_P D vwCl ws U.heap ∧ va_K D vwCl tys U)) (vp_Si (fun r => bst fq 40 < 40 ∧ r = nI (bst fq 40))) 0 0 (fun _ => False) := by
  refine Met.ofW (cc := cX1_greatestRest) (maxL := 3) (ret := (some .int)) (by decide) rfl ?_
  intro p e s m args below meth c s₁ B hml hv
  obtain ⟨rfl, hP, hK⟩ := hv
  have hx := B.exec
  have hb := B.bytes
  have hr := B.returns
  have hts := atoms_spec (ws := wsX1_greatestRest) B.pre
  have hown : s.vm.findClass RX1 = some m.cls := findClass_of_methodNamed B.named
  have hlocks := B.notSynchronized
  have hin1 : ∀ w ∈ u_ws RX1 TX1 2, w ∈ wsX1_greatestRest := (fun _ h9 => List.mem_cons_of_mem _ ((List.mem_append_right _ h9)))
  have hl := lv_entry ([.ref d]) (n := 3) (Nat.le_of_ble_eq_true rfl)
  rw [lg_entry_eq]
  generalize (lg_sl ([.ref d]) ++ List.replicate (3 - (lg_sl ([.ref d])).length) Slot.unset).toArray = ls at hl ⊢
  have hl : lv_has ls 3 [(0, .ref d)] := hl
  refine lv_iconst (v := 0) hx hb dX1_greatestRest_0 (by decide) ?_
  refine lv_istore_n (lv' := [(1, .int 0), (0, .ref d)]) hx hb dX1_greatestRest_1 rfl hl (by decide) rfl (fun ls hl => ?_)
  refine lv_iconst (v := 1) hx hb dX1_greatestRest_2 (by decide) ?_
  refine lv_istore_n (lv' := [(2, .int 1), (1, .int 0), (0, .ref d)]) hx hb dX1_greatestRest_3 rfl hl (by decide) rfl (fun ls hl => ?_)
  refine lp_S (nL := 3) (N := 40) (σ := Nat) (lv := fun i x => [(2, .int (nI i)), (1, .int (nI x)), (0, .ref d)]) (J := fun i9 x => x < 40 ∧ x = bst fq i9) (fun i hi ih x ls hj hl => ?_) 1 (by omega) 0 ls ⟨by omega, by rw [bst_s]; split <;> rfl⟩ (lv_sub hl [0, 1, 2] rfl)
  have hl : lv_has ls 3 [(2, .int (nI i)), (1, .int (nI x)), (0, .ref d)] := hl
  obtain ⟨hj, hjx⟩ := hj
  refine lv_iload_n hx hb dX1_greatestRest_4 rfl (lv_at hl 0 rfl) ?_
  refine lv_aload_n hx hb dX1_greatestRest_5 rfl (lv_at hl 2 rfl) ?_
  refine va_get (D := D) (ci := 1) (v := .ref dq) (C := RX1) (T := TX1) (N := 2) hx hb hts hin1 hown hK hP kd ed rfl 1 (by decide) (hts (.fieldLink RX1 15 "HoneyHouse$Draught" "rests" "[J") (List.mem_of_getElem? (i := 1) rfl)) (fun _ h9 => h9) rfl dX1_greatestRest_6 ?_
  refine va_alen (v := 40) hx hb hK hP kdq tdq edq udq rfl dX1_greatestRest_9 ?_
  refine lv_icmp_ge (tgt := 37) hx hb dX1_greatestRest_10 (by decide) (fun c_1 => ?_) (fun c_1 => ?_)
  · refine lv_iload_n hx hb dX1_greatestRest_37 rfl (lv_at hl 1 rfl) ?_
    exact W.iret (v := nI x) hx hb hr (fun t ht hW => ⟨nI x, rfl, (by have h9 := (nI_leI (a := 40) (b := i) (by omega) (by omega)).mp (show nI 40 ≤ nI i from c_1); obtain rfl : i = 40 := (by omega); show bst fq 40 < 40 ∧ nI x = nI (bst fq 40); rw [← hjx]; exact ⟨hj, rfl⟩), ht⟩) (fun _ h9 => by cases h9) dX1_greatestRest_38
  have hlt : i < 40 := i_lt_of hi (by omega) rfl c_1
  refine lv_aload_n hx hb dX1_greatestRest_13 rfl (lv_at hl 2 rfl) ?_
  refine va_get (D := D) (ci := 1) (v := .ref dq) (C := RX1) (T := TX1) (N := 2) hx hb hts hin1 hown hK hP kd ed rfl 1 (by decide) (hts (.fieldLink RX1 15 "HoneyHouse$Draught" "rests" "[J") (List.mem_of_getElem? (i := 1) rfl)) (fun _ h9 => h9) rfl dX1_greatestRest_14 ?_
  refine lv_iload_n hx hb dX1_greatestRest_17 rfl (lv_at hl 0 rfl) ?_
  refine va_lald (f := fq) (n := 40) hx hb hK hP kdq tdq edq udq (vp_in_nI hlt (by omega)) dX1_greatestRest_18 ?_
  refine lv_aload_n hx hb dX1_greatestRest_19 rfl (lv_at hl 2 rfl) ?_
  refine va_get (D := D) (ci := 1) (v := .ref dq) (C := RX1) (T := TX1) (N := 2) hx hb hts hin1 hown hK hP kd ed rfl 1 (by decide) (hts (.fieldLink RX1 15 "HoneyHouse$Draught" "rests" "[J") (List.mem_of_getElem? (i := 1) rfl)) (fun _ h9 => h9) rfl dX1_greatestRest_20 ?_
  refine lv_iload_n hx hb dX1_greatestRest_23 rfl (lv_at hl 1 rfl) ?_
  refine va_lald (f := fq) (n := 40) hx hb hK hP kdq tdq edq udq (vp_in_nI hj (by omega)) dX1_greatestRest_24 ?_
  refine W.lcmp hx hb dX1_greatestRest_25 ?_
  refine lv_if_le (tgt := 31) hx hb dX1_greatestRest_26 (by decide) (fun c_2 => ?_) (fun c_2 => ?_)
  · refine lv_iinc (v := nI (i + 1)) (lv' := [(2, .int (nI (i + 1))), (1, .int (nI x)), (0, .ref d)]) hx hb dX1_greatestRest_31 hl (k := 0) rfl (nI_1 i) (by decide) rfl (fun ls hl => ?_)
    refine lv_goto (tgt := 4) hx hb dX1_greatestRest_34 (by decide) ?_
    have hc : ¬ fq x < fq i := by
      have h9 := c_2
      rw [nI_clamp (n := i) (by omega), nI_clamp (n := x) (by omega), lg_cmp_le] at h9
      intro h8; rw [Int64.le_iff_toInt_le] at h9; rw [Int64.lt_iff_toInt_lt] at h8; omega
    exact ih hlt x ls ⟨by omega, by rw [bst_s, ← hjx, if_neg hc]⟩ (lv_sub hl [0, 1, 2] rfl)
  refine lv_iload_n hx hb dX1_greatestRest_29 rfl (lv_at hl 0 rfl) ?_
  refine lv_istore_n (lv' := [(1, .int (nI i)), (2, .int (nI i)), (0, .ref d)]) hx hb dX1_greatestRest_30 rfl hl (by decide) rfl (fun ls hl => ?_)
  refine lv_iinc (v := nI (i + 1)) (lv' := [(2, .int (nI (i + 1))), (1, .int (nI i)), (0, .ref d)]) hx hb dX1_greatestRest_31 hl (k := 1) rfl (nI_1 i) (by decide) rfl (fun ls hl => ?_)
  refine lv_goto (tgt := 4) hx hb dX1_greatestRest_34 (by decide) ?_
  have hc : fq x < fq i := by
    have h9 := c_2
    rw [nI_clamp (n := i) (by omega), nI_clamp (n := x) (by omega), lg_cmp_le] at h9
    rw [Int64.le_iff_toInt_le] at h9; rw [Int64.lt_iff_toInt_lt]; omega
  exact ih hlt i ls ⟨by omega, by rw [bst_s, ← hjx, if_pos hc]⟩ (lv_sub hl [0, 1, 2] rfl)
theorem fill_s {f : Nat → Int32} {i j : Nat} {x : Int32} (h : ∀ j : Nat, j < i → f j = x) (hj : j < i + 1) : upd f i x j = x := by
  rcases Nat.decEq j i with q | q
  · rw [upd_n q]; exact h j (by omega)
  · rw [q, upd_s]
set_option maxHeartbeats 4000000 in
set_option maxRecDepth 100000 in
theorem a_fill (l : Launch) (D : va_G) (ρ : Nat → Nat) (ws : va_W) (tys : List (ClassId × FieldType)) (a ka : Nat) (ca : ClassId) (ta : Nat) (n : Nat) (f : Nat → Int32) (a2 : Int32) (sz : Nat) (hn : n < 2147483648) (ea : ws[ka]? = some (a, .inl (ca, n, .inl f))) (ua : tys[ta]? = some (ca, .int)) (w_ka : ρ ka = 0) : Met l yJ7_fill_53178 wsJ7_fill_53178 ({ frames := 0, cells := 0, slots := 0, locals := 0 }) (va_Pc [.ref a, .int a2] (fun U => U.heap.size = sz ∧ va_P D vwCl ws U.heap ∧ va_K D vwCl tys U ∧ va_D (fun _ => True) ws)) (va_Qv (fun _ : Unit => True) (fun (_ : Unit) (t : State) => ∃ (ws' : va_W) (tys' : List (ClassId × FieldType)), sm ρ [] ws ws' ∧ tyx tys tys' ∧ va_P D vwCl ws' t.heap ∧ va_K D vwCl tys' t ∧ va_D (va_A ws sz) ws' ∧ (∃ f9 : Nat → Int32, ws'[ka]? = some (a, .inl (ca, n, .inl f9)) ∧ ∀ j9 : Nat, j9 < n → f9 j9 = a2)) (va_A ws sz)) 0 0 (va_A ws sz) := by
  refine Met.ofW (cc := cJ7_fill_53178) (maxL := 4) (ret := none) (by decide) rfl ?_
  intro p e s m args below meth c s₁ B hml hv
  obtain ⟨rfl, hsz, hP, hK, hD0⟩ := hv
  have hx := B.exec
  have hb := B.bytes
  have hr := B.returns
  have hts := atoms_spec (ws := wsJ7_fill_53178) B.pre
  have hown : s.vm.findClass RJ7 = some m.cls := findClass_of_methodNamed B.named
  have hlocks := B.notSynchronized
  subst hsz
  have hD := hD0.self (sz := s.heap.size)
  generalize hAe : va_A ws s.heap.size = A at hD ⊢
  have hA : ∀ q : Nat, s.heap.size ≤ q → A q := fun q h => by rw [← hAe]; exact Or.inr h
  have hS : va_S A s.heap s.heap [] := va_S.rf
  have hsm : sm ρ [] ws ws := sm.rf ws
  have htx : tyx tys tys := tyx.rf tys
  have hl := lv_entry ([.ref a, .int a2]) (n := 4) (Nat.le_of_ble_eq_true rfl)
  rw [lg_entry_eq]
  generalize (lg_sl ([.ref a, .int a2]) ++ List.replicate (4 - (lg_sl ([.ref a, .int a2])).length) Slot.unset).toArray = ls at hl ⊢
  have hl : lv_has ls 4 [(0, .ref a), (1, .int a2)] := hl
  refine lv_iconst (v := 0) hx hb dJ7_fill_53178_0 (by decide) ?_
  refine lv_istore_n (lv' := [(2, .int 0), (0, .ref a), (1, .int a2)]) hx hb dJ7_fill_53178_1 rfl hl (by decide) rfl (fun ls hl => ?_)
  refine lv_aload_n hx hb dJ7_fill_53178_2 rfl (lv_at hl 1 rfl) ?_
  refine va_alen (v := nI n) hx hb hK hP ka ta ea ua rfl dJ7_fill_53178_3 ?_
  refine lv_istore_n (lv' := [(3, .int (nI n)), (2, .int 0), (0, .ref a), (1, .int a2)]) hx hb dJ7_fill_53178_4 rfl hl (by decide) rfl (fun ls hl => ?_)
  refine lp_A (nL := 4) (N := n) (σ := Unit) (lv := fun i x_4 => [(2, .int (nI i)), (3, .int (nI n)), (0, .ref a), (1, .int a2)]) (J := fun i9 x9 w9 => sm ρ [] ws w9 ∧ (∃ f9 : Nat → Int32, w9[ka]? = some (a, .inl (ca, n, .inl f9)) ∧ ∀ j9 : Nat, j9 < i9 → f9 j9 = a2)) (fun i hi ih x_4 ws_1 H locs ls hj_2 hP hD hS hl => ?_) 0 (by omega) () _ _ _ ls ⟨sm.rf _, ⟨f, ea, fun j9 h9 => absurd h9 (Nat.not_lt_zero _)⟩⟩ hP hD hS (lv_sub hl [1, 0, 2, 3] rfl)
  obtain ⟨hj_2, hxj⟩ := hj_2
  have hxj : ∃ f9 : Nat → Int32, ws_1[ka]? = some (a, .inl (ca, n, .inl f9)) ∧ ∀ j9 : Nat, j9 < i → f9 j9 = a2 := hxj
  have hl : lv_has ls 4 [(2, .int (nI i)), (3, .int (nI n)), (0, .ref a), (1, .int a2)] := hl
  obtain ⟨f_6, e_5⟩ := hj_2.arrI ea
  have hsm := hsm.tr (hj_2.mono (by decide))
  obtain ⟨f_7, e_8, g_9⟩ := hxj
  have hlp_3 := hj_2
  refine lv_iload_n hx hb dJ7_fill_53178_5 rfl (lv_at hl 0 rfl) ?_
  refine lv_iload_n hx hb dJ7_fill_53178_6 rfl (lv_at hl 1 rfl) ?_
  refine lv_icmp_ge (tgt := 20) hx hb dJ7_fill_53178_7 (by decide) (fun c_10 => ?_) (fun c_10 => ?_)
  · exact W.vret hx hb hr (fun t ht hW => ⟨⟨(), rfl, trivial, ws_1, tys, hsm, htx, by rw [ht]; exact hP, va_K.moved hW.alike hK, hD, ⟨f_7, e_8, fun j9 h9 => g_9 j9 (by have := (nI_leI (a := n) (b := i) (by omega) (by omega)).mp c_10; omega)⟩⟩, hS.F ht⟩) hS.2.2 dJ7_fill_53178_20
  have hlt : i < n := i_lt_of hi (by omega) rfl c_10
  refine lv_aload_n hx hb dJ7_fill_53178_10 rfl (lv_at hl 2 rfl) ?_
  refine lv_iload_n hx hb dJ7_fill_53178_11 rfl (lv_at hl 0 rfl) ?_
  refine lv_iload_n hx hb dJ7_fill_53178_12 rfl (lv_at hl 3 rfl) ?_
  refine va_iast (f := f_7) (n := n) hx hb hK hP hD hS ka ta e_8 ua (vp_in_nI hlt (by omega)) dJ7_fill_53178_13 (fun H locs hP hD hS => ?_)
  have hm_12 : sm ρ [] ws_1 (ws_1.set ka (a, .inl (ca, n, .inl (upd f_7 (nI i).toNatClampNeg a2)))) := sm.ints e_8 w_ka
  have e_13 : (ws_1.set ka (a, .inl (ca, n, .inl (upd f_7 (nI i).toNatClampNeg a2))))[ka]? = some (a, .inl (ca, n, .inl (upd f_7 (nI i).toNatClampNeg a2))) := wset_self e_8
  generalize ws_1.set ka (a, .inl (ca, n, .inl (upd f_7 (nI i).toNatClampNeg a2))) = ws_11 at hP hD hm_12 e_13
  have hsm := hsm.tr (hm_12.mono (fun _ h9 => absurd h9 List.not_mem_nil))
  have hlp_3 := hlp_3.tr (hm_12.mono (fun _ h9 => absurd h9 List.not_mem_nil))
  obtain ⟨f_14, hf_15⟩ : ∃ g9, g9 = upd f_7 (nI i).toNatClampNeg a2 := ⟨_, rfl⟩
  rw [← hf_15] at e_13
  refine lv_iinc (v := nI (i + 1)) (lv' := [(2, .int (nI (i + 1))), (3, .int (nI n)), (0, .ref a), (1, .int a2)]) hx hb dJ7_fill_53178_14 hl (k := 0) rfl (nI_1 i) (by decide) rfl (fun ls hl => ?_)
  refine lv_goto (tgt := 5) hx hb dJ7_fill_53178_17 (by decide) ?_
  exact ih hlt () _ _ _ ls ⟨hlp_3, ⟨f_14, e_13, fun j9 h9 => by rw [hf_15, nI_clamp (n := i) (by omega)]; exact fill_s g_9 h9⟩⟩ hP hD hS (lv_sub hl [0, 1, 2, 3] rfl)
