theorem dX7_lotsInIt_0 : decode cX7_lotsInIt 0 = .ok (.iconst 0, 1) := by decide +kernel
theorem dX7_lotsInIt_1 : decode cX7_lotsInIt 1 = .ok (.istore_n 1, 1) := by decide +kernel
theorem dX7_lotsInIt_2 : decode cX7_lotsInIt 2 = .ok (.iconst 0, 1) := by decide +kernel
theorem dX7_lotsInIt_3 : decode cX7_lotsInIt 3 = .ok (.istore_n 2, 1) := by decide +kernel
theorem dX7_lotsInIt_4 : decode cX7_lotsInIt 4 = .ok (.iload_n 2, 1) := by decide +kernel
theorem dX7_lotsInIt_5 : decode cX7_lotsInIt 5 = .ok (.aload_n 0, 1) := by decide +kernel
theorem dX7_lotsInIt_6 : decode cX7_lotsInIt 6 = .ok (.getfield 9, 3) := by decide +kernel
theorem dX7_lotsInIt_9 : decode cX7_lotsInIt 9 = .ok (.arraylength, 1) := by decide +kernel
theorem dX7_lotsInIt_10 : decode cX7_lotsInIt 10 = .ok (.if_icmp .ge 21, 3) := by decide +kernel
theorem dX7_lotsInIt_13 : decode cX7_lotsInIt 13 = .ok (.aload_n 0, 1) := by decide +kernel
theorem dX7_lotsInIt_14 : decode cX7_lotsInIt 14 = .ok (.getfield 9, 3) := by decide +kernel
theorem dX7_lotsInIt_17 : decode cX7_lotsInIt 17 = .ok (.iload_n 2, 1) := by decide +kernel
theorem dX7_lotsInIt_18 : decode cX7_lotsInIt 18 = .ok (.iaload, 1) := by decide +kernel
theorem dX7_lotsInIt_19 : decode cX7_lotsInIt 19 = .ok (.ifCond .le 6, 3) := by decide +kernel
theorem dX7_lotsInIt_22 : decode cX7_lotsInIt 22 = .ok (.iinc 1 1, 3) := by decide +kernel
theorem dX7_lotsInIt_25 : decode cX7_lotsInIt 25 = .ok (.iinc 2 1, 3) := by decide +kernel
theorem dX7_lotsInIt_28 : decode cX7_lotsInIt 28 = .ok (.goto (-24), 3) := by decide +kernel
theorem dX7_lotsInIt_31 : decode cX7_lotsInIt 31 = .ok (.iload_n 1, 1) := by decide +kernel
theorem dX7_lotsInIt_32 : decode cX7_lotsInIt 32 = .ok (.ireturn, 1) := by decide +kernel
theorem dX8_vesselAt_0 : decode cX8_vesselAt 0 = .ok (.iload_n 1, 1) := by decide +kernel
theorem dX8_vesselAt_1 : decode cX8_vesselAt 1 = .ok (.ifCond .ne 9, 3) := by decide +kernel
theorem dX8_vesselAt_4 : decode cX8_vesselAt 4 = .ok (.aload_n 0, 1) := by decide +kernel
theorem dX8_vesselAt_5 : decode cX8_vesselAt 5 = .ok (.iload_n 2, 1) := by decide +kernel
theorem dX8_vesselAt_6 : decode cX8_vesselAt 6 = .ok (.invokevirtual 139, 3) := by decide +kernel
theorem dX8_vesselAt_9 : decode cX8_vesselAt 9 = .ok (.areturn, 1) := by decide +kernel
theorem dX8_vesselAt_10 : decode cX8_vesselAt 10 = .ok (.iload_n 1, 1) := by decide +kernel
theorem dX8_vesselAt_11 : decode cX8_vesselAt 11 = .ok (.iconst 1, 1) := by decide +kernel
theorem dX8_vesselAt_12 : decode cX8_vesselAt 12 = .ok (.if_icmp .ne 27, 3) := by decide +kernel
theorem dX8_vesselAt_15 : decode cX8_vesselAt 15 = .ok (.iload_n 2, 1) := by decide +kernel
theorem dX8_vesselAt_16 : decode cX8_vesselAt 16 = .ok (.iconst 0, 1) := by decide +kernel
theorem dX8_vesselAt_17 : decode cX8_vesselAt 17 = .ok (.aload_n 0, 1) := by decide +kernel
theorem dX8_vesselAt_18 : decode cX8_vesselAt 18 = .ok (.getfield 21, 3) := by decide +kernel
theorem dX8_vesselAt_21 : decode cX8_vesselAt 21 = .ok (.arraylength, 1) := by decide +kernel
theorem dX8_vesselAt_22 : decode cX8_vesselAt 22 = .ok (.iconst 1, 1) := by decide +kernel
theorem dX8_vesselAt_23 : decode cX8_vesselAt 23 = .ok (.isub, 1) := by decide +kernel
theorem dX8_vesselAt_24 : decode cX8_vesselAt 24 = .ok (.invokestatic 85, 3) := by decide +kernel
theorem dX8_vesselAt_27 : decode cX8_vesselAt 27 = .ok (.ifCond .eq 12, 3) := by decide +kernel
theorem dX8_vesselAt_30 : decode cX8_vesselAt 30 = .ok (.aload_n 0, 1) := by decide +kernel
theorem dX8_vesselAt_31 : decode cX8_vesselAt 31 = .ok (.getfield 21, 3) := by decide +kernel
theorem dX8_vesselAt_34 : decode cX8_vesselAt 34 = .ok (.iload_n 2, 1) := by decide +kernel
theorem dX8_vesselAt_35 : decode cX8_vesselAt 35 = .ok (.aaload, 1) := by decide +kernel
theorem dX8_vesselAt_36 : decode cX8_vesselAt 36 = .ok (.goto 4, 3) := by decide +kernel
theorem dX8_vesselAt_39 : decode cX8_vesselAt 39 = .ok (.aconst_null, 1) := by decide +kernel
theorem dX8_vesselAt_40 : decode cX8_vesselAt 40 = .ok (.areturn, 1) := by decide +kernel
theorem dX8_holds_0 : decode cX8_holds 0 = .ok (.aload_n 0, 1) := by decide +kernel
theorem dX8_holds_1 : decode cX8_holds 1 = .ok (.iload_n 1, 1) := by decide +kernel
theorem dX8_holds_2 : decode cX8_holds 2 = .ok (.iload_n 2, 1) := by decide +kernel
theorem dX8_holds_3 : decode cX8_holds 3 = .ok (.invokevirtual 173, 3) := by decide +kernel
theorem dX8_holds_6 : decode cX8_holds 6 = .ok (.astore 4, 2) := by decide +kernel
theorem dX8_holds_8 : decode cX8_holds 8 = .ok (.aload 4, 2) := by decide +kernel
theorem dX8_holds_10 : decode cX8_holds 10 = .ok (.ifnonnull 5, 3) := by decide +kernel
theorem dX8_holds_13 : decode cX8_holds 13 = .ok (.iconst (-1), 1) := by decide +kernel
theorem dX8_holds_14 : decode cX8_holds 14 = .ok (.ireturn, 1) := by decide +kernel
theorem dX8_holds_15 : decode cX8_holds 15 = .ok (.iload_n 3, 1) := by decide +kernel
theorem dX8_holds_16 : decode cX8_holds 16 = .ok (.tableswitch 66 0 4 #[36, 42, 48, 54, 60], 36) := by decide +kernel
theorem dX8_holds_52 : decode cX8_holds 52 = .ok (.aload 4, 2) := by decide +kernel
theorem dX8_holds_54 : decode cX8_holds 54 = .ok (.getfield 144, 3) := by decide +kernel
theorem dX8_holds_57 : decode cX8_holds 57 = .ok (.ireturn, 1) := by decide +kernel
theorem dX8_holds_58 : decode cX8_holds 58 = .ok (.aload 4, 2) := by decide +kernel
theorem dX8_holds_60 : decode cX8_holds 60 = .ok (.invokevirtual 177, 3) := by decide +kernel
theorem dX8_holds_63 : decode cX8_holds 63 = .ok (.ireturn, 1) := by decide +kernel
theorem dX8_holds_64 : decode cX8_holds 64 = .ok (.aload 4, 2) := by decide +kernel
theorem dX8_holds_66 : decode cX8_holds 66 = .ok (.getfield 160, 3) := by decide +kernel
theorem dX8_holds_69 : decode cX8_holds 69 = .ok (.ireturn, 1) := by decide +kernel
theorem dX8_holds_70 : decode cX8_holds 70 = .ok (.aload 4, 2) := by decide +kernel
theorem dX8_holds_72 : decode cX8_holds 72 = .ok (.getfield 147, 3) := by decide +kernel
theorem dX8_holds_75 : decode cX8_holds 75 = .ok (.ireturn, 1) := by decide +kernel
theorem dX8_holds_76 : decode cX8_holds 76 = .ok (.aload 4, 2) := by decide +kernel
theorem dX8_holds_78 : decode cX8_holds 78 = .ok (.getfield 150, 3) := by decide +kernel
theorem dX8_holds_81 : decode cX8_holds 81 = .ok (.ireturn, 1) := by decide +kernel
theorem dX8_holds_82 : decode cX8_holds 82 = .ok (.iconst (-1), 1) := by decide +kernel
theorem dX8_holds_83 : decode cX8_holds 83 = .ok (.ireturn, 1) := by decide +kernel
theorem dX8_part_0 : decode cX8_part 0 = .ok (.aload_n 0, 1) := by decide +kernel
theorem dX8_part_1 : decode cX8_part 1 = .ok (.iload_n 1, 1) := by decide +kernel
theorem dX8_part_2 : decode cX8_part 2 = .ok (.iload_n 2, 1) := by decide +kernel
theorem dX8_part_3 : decode cX8_part 3 = .ok (.invokevirtual 173, 3) := by decide +kernel
theorem dX8_part_6 : decode cX8_part 6 = .ok (.astore 4, 2) := by decide +kernel
theorem dX8_part_8 : decode cX8_part 8 = .ok (.aload 4, 2) := by decide +kernel
theorem dX8_part_10 : decode cX8_part 10 = .ok (.ifnull 11, 3) := by decide +kernel
theorem dX8_part_13 : decode cX8_part 13 = .ok (.aload_n 0, 1) := by decide +kernel
theorem dX8_part_14 : decode cX8_part 14 = .ok (.iload_n 3, 1) := by decide +kernel
theorem dX8_part_15 : decode cX8_part 15 = .ok (.invokevirtual 96, 3) := by decide +kernel
theorem dX8_part_18 : decode cX8_part 18 = .ok (.ifnonnull 5, 3) := by decide +kernel
theorem dX8_part_21 : decode cX8_part 21 = .ok (.iconst (-1), 1) := by decide +kernel
theorem dX8_part_22 : decode cX8_part 22 = .ok (.ireturn, 1) := by decide +kernel
theorem dX8_part_23 : decode cX8_part 23 = .ok (.aload 4, 2) := by decide +kernel
theorem dX8_part_25 : decode cX8_part 25 = .ok (.iload_n 3, 1) := by decide +kernel
theorem dX8_part_26 : decode cX8_part 26 = .ok (.invokevirtual 181, 3) := by decide +kernel
theorem dX8_part_29 : decode cX8_part 29 = .ok (.ireturn, 1) := by decide +kernel
set_option maxRecDepth 20000 in
theorem ggX8_vesselAt_X8_isIn : GoodIn wsX8_vesselAt wsX8_isIn := goodIn_r _ [10] (by decide +kernel) (by decide +kernel)
set_option maxRecDepth 20000 in
theorem gX8_vesselAt_X8_isIn : GoodIn wsX8_vesselAt (va_wsS RX8 85 yX8_isIn wsX8_isIn) := goodIn_app (goodIn_of _ (by decide +kernel)) ggX8_vesselAt_X8_isIn
set_option maxRecDepth 20000 in
theorem ggX8_vesselAt_X8_tankAt : GoodIn wsX8_vesselAt wsX8_tankAt := goodIn_r _ [6, 7, 8, 9, 5, 10, 11, 12, 13, 14, 15, 16, 17, 18, 19, 20, 21, 22, 23, 24, 25] (by decide +kernel) (by decide +kernel)
set_option maxRecDepth 20000 in
theorem gX8_vesselAt_X8_tankAt : GoodIn wsX8_vesselAt (wsV RX8 139 RX8 yX8_tankAt wsX8_tankAt) := goodIn_app (goodIn_of _ (by decide +kernel)) ggX8_vesselAt_X8_tankAt
set_option maxRecDepth 20000 in
theorem ggX8_holds_X8_vesselAt : GoodIn wsX8_holds wsX8_vesselAt := goodIn_r _ [9, 10, 11, 12, 13, 8, 14, 15, 16, 17, 18, 30, 31, 32, 33, 34, 35, 36, 37, 38, 39, 40, 41, 42, 43, 44] (by decide +kernel) (by decide +kernel)
set_option maxRecDepth 20000 in
theorem gX8_holds_X8_vesselAt : GoodIn wsX8_holds (wsV RX8 173 RX8 yX8_vesselAt wsX8_vesselAt) := goodIn_app (goodIn_of _ (by decide +kernel)) ggX8_holds_X8_vesselAt
set_option maxRecDepth 20000 in
theorem ggX8_holds_X7_lotsInIt : GoodIn wsX8_holds wsX7_lotsInIt := goodIn_r _ [23, 24, 25, 26, 27, 28, 29] (by decide +kernel) (by decide +kernel)
set_option maxRecDepth 20000 in
theorem gX8_holds_X7_lotsInIt : GoodIn wsX8_holds (wsV RX8 177 RX7 yX7_lotsInIt wsX7_lotsInIt) := goodIn_app (goodIn_of _ (by decide +kernel)) ggX8_holds_X7_lotsInIt
set_option maxRecDepth 20000 in
theorem ggX8_part_X8_vesselAt : GoodIn wsX8_part wsX8_vesselAt := goodIn_r _ [5, 6, 7, 8, 9, 4, 10, 11, 12, 13, 14, 26, 27, 28, 29, 30, 31, 32, 33, 34, 35, 36, 37, 38, 39, 40] (by decide +kernel) (by decide +kernel)
set_option maxRecDepth 20000 in
theorem gX8_part_X8_vesselAt : GoodIn wsX8_part (wsV RX8 173 RX8 yX8_vesselAt wsX8_vesselAt) := goodIn_app (goodIn_of _ (by decide +kernel)) ggX8_part_X8_vesselAt
set_option maxRecDepth 20000 in
theorem ggX8_part_X8_lotAt : GoodIn wsX8_part wsX8_lotAt := goodIn_r _ [18, 19, 12, 13, 4, 14, 26, 27, 28, 29, 30, 31, 32, 33, 34, 35, 36, 37, 38, 39, 40] (by decide +kernel) (by decide +kernel)
set_option maxRecDepth 20000 in
theorem gX8_part_X8_lotAt : GoodIn wsX8_part (wsV RX8 96 RX8 yX8_lotAt wsX8_lotAt) := goodIn_app (goodIn_of _ (by decide +kernel)) ggX8_part_X8_lotAt
set_option maxRecDepth 20000 in
theorem ggX8_part_X7_gramsOf : GoodIn wsX8_part wsX7_gramsOf := goodIn_r _ [24, 25, 41, 42, 43, 44, 45] (by decide +kernel) (by decide +kernel)
set_option maxRecDepth 20000 in
theorem gX8_part_X7_gramsOf : GoodIn wsX8_part (wsV RX8 181 RX7 yX7_gramsOf wsX7_gramsOf) := goodIn_app (goodIn_of _ (by decide +kernel)) ggX8_part_X7_gramsOf
set_option maxHeartbeats 4000000 in
set_option maxRecDepth 100000 in
theorem s_lotsInIt (l : Launch) (D : va_G) (ws : va_W) (tys : List (ClassId × FieldType)) (v kv : Nat) (vt vh vr vp : Int32) (g kg : Nat) (cg : ClassId) (tg : Nat) (f : Nat → Int32) (ev : ws[kv]? = some (v, .inr (7, [.ref g, .int vt, .int vh, .int vr, .int vp]))) (eg : ws[kg]? = some (g, .inl (cg, 40, .inl f))) (ug : tys[tg]? = some (cg, .int)) : Met l yX7_lotsInIt wsX7_lotsInIt ({ frames := 0, cells := 0, slots := 0, locals := 0 }) (va_Pc [.ref v] (fun U => va_P D vwCl ws U.heap ∧ va_K D vwCl tys U)) (vp_Si (fun r => True)) 0 0 (fun _ => False) := by
  refine Met.ofW (cc := cX7_lotsInIt) (maxL := 3) (ret := (some .int)) (by decide) rfl ?_
  intro p e s m args below meth c s₁ B hml hv
  obtain ⟨rfl, hP, hK⟩ := hv
  have hx := B.exec
  have hb := B.bytes
  have hr := B.returns
  have hts := atoms_spec (ws := wsX7_lotsInIt) B.pre
  have hown : s.vm.findClass RX7 = some m.cls := findClass_of_methodNamed B.named
  have hlocks := B.notSynchronized
  have hin7 : ∀ w ∈ u_ws RX7 TX7 5, w ∈ wsX7_lotsInIt := (fun _ h9 => List.mem_cons_of_mem _ ((List.mem_append_right _ h9)))
  have hl := lv_entry ([.ref v]) (n := 3) (Nat.le_of_ble_eq_true rfl)
  rw [lg_entry_eq]
  generalize (lg_sl ([.ref v]) ++ List.replicate (3 - (lg_sl ([.ref v])).length) Slot.unset).toArray = ls at hl ⊢
  have hl : lv_has ls 3 [(0, .ref v)] := hl
  refine lv_iconst (v := 0) hx hb dX7_lotsInIt_0 (by decide) ?_
  refine lv_istore_n (lv' := [(1, .int 0), (0, .ref v)]) hx hb dX7_lotsInIt_1 rfl hl (by decide) rfl (fun ls hl => ?_)
  refine lv_iconst (v := 0) hx hb dX7_lotsInIt_2 (by decide) ?_
  refine lv_istore_n (lv' := [(2, .int 0), (1, .int 0), (0, .ref v)]) hx hb dX7_lotsInIt_3 rfl hl (by decide) rfl (fun ls hl => ?_)
  refine lp_S (nL := 3) (N := 40) (σ := Int32) (lv := fun i x_1 => [(2, .int (nI i)), (1, .int x_1), (0, .ref v)]) (J := fun i9 x_1 => True) (fun i hi ih x_1 ls hj hl => ?_) 0 (by omega) 0 ls (trivial) (lv_sub hl [0, 1, 2] rfl)
  have hl : lv_has ls 3 [(2, .int (nI i)), (1, .int x_1), (0, .ref v)] := hl
  refine lv_iload_n hx hb dX7_lotsInIt_4 rfl (lv_at hl 0 rfl) ?_
  refine lv_aload_n hx hb dX7_lotsInIt_5 rfl (lv_at hl 2 rfl) ?_
  refine va_get (D := D) (ci := 7) (v := .ref g) (C := RX7) (T := TX7) (N := 5) hx hb hts hin7 hown hK hP kv ev rfl 0 (by decide) (hts (.fieldLink RX7 9 "HoneyHouse$Vessel" "grams" "[I") (List.mem_of_getElem? (i := 1) rfl)) (fun _ h9 => h9) rfl dX7_lotsInIt_6 ?_
  refine va_alen (v := 40) hx hb hK hP kg tg eg ug rfl dX7_lotsInIt_9 ?_
  refine lv_icmp_ge (tgt := 31) hx hb dX7_lotsInIt_10 (by decide) (fun c_2 => ?_) (fun c_2 => ?_)
  · refine lv_iload_n hx hb dX7_lotsInIt_31 rfl (lv_at hl 1 rfl) ?_
    exact W.iret (v := x_1) hx hb hr (fun t ht hW => ⟨x_1, rfl, trivial, ht⟩) (fun _ h9 => by cases h9) dX7_lotsInIt_32
  have hlt : i < 40 := i_lt_of hi (by omega) rfl c_2
  refine lv_aload_n hx hb dX7_lotsInIt_13 rfl (lv_at hl 2 rfl) ?_
  refine va_get (D := D) (ci := 7) (v := .ref g) (C := RX7) (T := TX7) (N := 5) hx hb hts hin7 hown hK hP kv ev rfl 0 (by decide) (hts (.fieldLink RX7 9 "HoneyHouse$Vessel" "grams" "[I") (List.mem_of_getElem? (i := 1) rfl)) (fun _ h9 => h9) rfl dX7_lotsInIt_14 ?_
  refine lv_iload_n hx hb dX7_lotsInIt_17 rfl (lv_at hl 0 rfl) ?_
  refine va_iald (f := f) (n := 40) hx hb hK hP kg tg eg ug (vp_in_nI hlt (by omega)) dX7_lotsInIt_18 ?_
  refine lv_if_le (tgt := 25) hx hb dX7_lotsInIt_19 (by decide) (fun c_3 => ?_) (fun c_3 => ?_)
  · refine lv_iinc (v := nI (i + 1)) (lv' := [(2, .int (nI (i + 1))), (1, .int x_1), (0, .ref v)]) hx hb dX7_lotsInIt_25 hl (k := 0) rfl (nI_1 i) (by decide) rfl (fun ls hl => ?_)
    refine lv_goto (tgt := 4) hx hb dX7_lotsInIt_28 (by decide) ?_
    exact ih hlt x_1 ls (trivial) (lv_sub hl [0, 1, 2] rfl)
  refine lv_iinc (v := x_1 + 1) (lv' := [(1, .int (x_1 + 1)), (2, .int (nI i)), (0, .ref v)]) hx hb dX7_lotsInIt_22 hl (k := 1) rfl rfl (by decide) rfl (fun ls hl => ?_)
  refine lv_iinc (v := nI (i + 1)) (lv' := [(2, .int (nI (i + 1))), (1, .int (x_1 + 1)), (0, .ref v)]) hx hb dX7_lotsInIt_25 hl (k := 1) rfl (nI_1 i) (by decide) rfl (fun ls hl => ?_)
  refine lv_goto (tgt := 4) hx hb dX7_lotsInIt_28 (by decide) ?_
  exact ih hlt (x_1 + 1) ls (trivial) (lv_sub hl [0, 1, 2] rfl)
set_option maxHeartbeats 4000000 in
set_option maxRecDepth 100000 in
theorem s_vesselAt (l : Launch) (D : va_G) (ws : va_W) (tys : List (ClassId × FieldType)) (h0 k0 : Nat) (fs : List Value) (ta k2 : Nat) (c2 : ClassId) (g : Nat → Option Nat) (t2 : Nat) (ba k3 : Nat) (c3 : ClassId) (g3 : Nat → Option Nat) (t3 : Nat) (a1 a2 : Int32) (e0 : ws[k0]? = some (h0, .inr (8, fs))) (f1 : fs[1]? = some (.ref ta)) (e2 : ws[k2]? = some (ta, .inl (c2, 10, .inr (.inr (.inr (.inr g)))))) (u2 : tys[t2]? = some (c2, .object RX7)) (f2 : fs[2]? = some (.ref ba)) (e3 : ws[k3]? = some (ba, .inl (c3, 60, .inr (.inr (.inr (.inr g3)))))) (u3 : tys[t3]? = some (c3, .object RX7)) : Met l yX8_vesselAt wsX8_vesselAt ({ frames := 2, cells := 0, slots := 0, locals := 43 }) (va_Pc [.ref h0, .int a1, .int a2] (fun U => va_P D vwCl ws U.heap ∧ va_K D vwCl tys U)) (va_Sq (fun r => r = none ∨ (∃ j, r = g j) ∨ (∃ j, r = g3 j))) 0 0 (fun _ => False) := by
  refine Met.ofW (cc := cX8_vesselAt) (maxL := 3) (ret := (some (.object "HoneyHouse$Vessel"))) (by decide) rfl ?_
  intro p e s m args below meth c s₁ B hml hv
  obtain ⟨rfl, hP, hK⟩ := hv
  have hx := B.exec
  have hb := B.bytes
  have hr := B.returns
  have hts := atoms_spec (ws := wsX8_vesselAt) B.pre
  have hown : s.vm.findClass RX8 = some m.cls := findClass_of_methodNamed B.named
  have hlocks := B.notSynchronized
  have hin8 : ∀ w ∈ u_ws RX8 TX8 15, w ∈ wsX8_vesselAt := (fun _ h9 => List.mem_cons_of_mem _ ((List.mem_append_right _ h9)))
  have hl := lv_entry ([.ref h0, .int a1, .int a2]) (n := 3) (Nat.le_of_ble_eq_true rfl)
  rw [lg_entry_eq]
  generalize (lg_sl ([.ref h0, .int a1, .int a2]) ++ List.replicate (3 - (lg_sl ([.ref h0, .int a1, .int a2])).length) Slot.unset).toArray = ls at hl ⊢
  have hl : lv_has ls 3 [(0, .ref h0), (1, .int a1), (2, .int a2)] := hl
  refine lv_iload_n hx hb dX8_vesselAt_0 rfl (lv_at hl 1 rfl) ?_
  refine lv_if_ne (tgt := 10) hx hb dX8_vesselAt_1 (by decide) (fun c_1 => ?_) (fun c_1 => ?_)
  · refine lv_iload_n hx hb dX8_vesselAt_10 rfl (lv_at hl 1 rfl) ?_
    refine lv_iconst (v := 1) hx hb dX8_vesselAt_11 (by decide) ?_
    refine lv_icmp_ne (tgt := 39) hx hb dX8_vesselAt_12 (by decide) (fun c_2 => ?_) (fun c_2 => ?_)
    · refine lv_null hx hb dX8_vesselAt_39 ?_
      exact W.aret (v := .null) hx hb hr (Or.inl ⟨_, rfl⟩) (Or.inl rfl) (fun t ht hW => ⟨none, rfl, Or.inl rfl, ht⟩) (fun _ h9 => by cases h9) dX8_vesselAt_40
    refine lv_iload_n hx hb dX8_vesselAt_15 rfl (lv_at hl 2 rfl) ?_
    refine lv_iconst (v := 0) hx hb dX8_vesselAt_16 (by decide) ?_
    refine lv_aload_n hx hb dX8_vesselAt_17 rfl (lv_at hl 0 rfl) ?_
    refine va_get (D := D) (ci := 8) (v := .ref ba) (C := RX8) (T := TX8) (N := 15) hx hb hts hin8 hown hK hP k0 e0 rfl 2 (by decide) (hts (.fieldLink RX8 21 "HoneyHouse" "batches" "[LHoneyHouse$Vessel;") (List.mem_of_getElem? (i := 1) rfl)) (fun _ h9 => h9) f2 dX8_vesselAt_18 ?_
    refine va_alen (v := 60) hx hb hK hP k3 t3 e3 u3 rfl dX8_vesselAt_21 ?_
    refine lv_iconst (v := 1) hx hb dX8_vesselAt_22 (by decide) ?_
    refine lv_isub hx hb dX8_vesselAt_23 ?_
    refine tp_i (y := 59) (by decide) ?_
    refine vp_callSi (W.runS (As := [.int a2, .int 0, .int 59]) (rest := []) ⟨hx, hb, hml, hown, hts⟩ (s_X8_isIn l a2 0 59) (va_cwS 3 hts gX8_vesselAt_X8_isIn rfl rfl rfl (by decide +kernel) ⟨Nat.le_of_ble_eq_true rfl, Nat.le_of_ble_eq_true rfl⟩) ⟨fun a U g mk q => q, fun U hU hW => ⟨rfl, trivial⟩⟩ rfl rfl hl.1 rfl (lv_room (Nat.le_of_ble_eq_true rfl)) dX8_vesselAt_24 ⟨Nat.le_of_ble_eq_true rfl, Nat.le_of_ble_eq_true rfl⟩) (fun r_3 k_4 => ?_)
    rcases k_4 with ⟨rfl, a_5o⟩ | ⟨rfl, a_5, b_6⟩
    · refine lv_if_eq (tgt := 39) hx hb dX8_vesselAt_27 (by decide) (fun c_7 => ?_) (fun c_7 => absurd (by decide) c_7)
      refine lv_null hx hb dX8_vesselAt_39 ?_
      exact W.aret (v := .null) hx hb hr (Or.inl ⟨_, rfl⟩) (Or.inl rfl) (fun t ht hW => ⟨none, rfl, Or.inl rfl, ht⟩) (fun _ h9 => by cases h9) dX8_vesselAt_40
    refine lv_if_eq (tgt := 39) hx hb dX8_vesselAt_27 (by decide) (fun c_8 => absurd c_8 (by decide)) (fun c_8 => ?_)
    refine lv_aload_n hx hb dX8_vesselAt_30 rfl (lv_at hl 0 rfl) ?_
    refine va_get (D := D) (ci := 8) (v := .ref ba) (C := RX8) (T := TX8) (N := 15) hx hb hts hin8 hown hK hP k0 e0 rfl 2 (by decide) (hts (.fieldLink RX8 21 "HoneyHouse" "batches" "[LHoneyHouse$Vessel;") (List.mem_of_getElem? (i := 1) rfl)) (fun _ h9 => h9) f2 dX8_vesselAt_31 ?_
    refine lv_iload_n hx hb dX8_vesselAt_34 rfl (lv_at hl 2 rfl) ?_
    refine va_aldq (f := g3) (n := 60) hx hb hK hP k3 t3 e3 u3 (i_in a_5 b_6 (by decide)) dX8_vesselAt_35 ?_
    refine lv_goto (tgt := 40) hx hb dX8_vesselAt_36 (by decide) ?_
    exact W.aret (v := va_rf (g3 a2.toNatClampNeg)) hx hb hr (Or.inl ⟨_, rfl⟩) (va_rf_or _) (fun t ht hW => ⟨g3 a2.toNatClampNeg, rfl, Or.inr (Or.inr ⟨_, rfl⟩), ht⟩) (fun _ h9 => by cases h9) dX8_vesselAt_40
  refine lv_aload_n hx hb dX8_vesselAt_4 rfl (lv_at hl 0 rfl) ?_
  refine lv_iload_n hx hb dX8_vesselAt_5 rfl (lv_at hl 2 rfl) ?_
  refine va_csq (W.runV (As := [.int a2]) (rest := []) ⟨hx, hb, hml, hown, hts⟩ (s_X8_tankAt l D ws tys h0 k0 _ ta k2 c2 g t2 a2 e0 f1 e2 u2) (cwV 1 hts gX8_vesselAt_X8_tankAt rfl rfl rfl (by decide +kernel) ⟨Nat.le_of_ble_eq_true rfl, Nat.le_of_ble_eq_true rfl⟩) ⟨fun a U g mk q => ⟨q.1, q.2.1, va_K.moved (u := U) (U := U.calling g mk a) (Vm.Alike.refl U.vm) q.2.2⟩, va_recv hK hP (ci := 8) (q0 := k0) rfl e0, fun U hU hW => ⟨rfl, by rw [hU]; exact hP, va_K.moved hW.alike hK⟩⟩ rfl rfl hl.1 rfl (lv_room (Nat.le_of_ble_eq_true rfl)) dX8_vesselAt_6 ⟨Nat.le_of_ble_eq_true rfl, Nat.le_of_ble_eq_true rfl⟩) (fun r_9 k_10 => ?_)
  exact W.aret (v := va_rf r_9) hx hb hr (Or.inl ⟨_, rfl⟩) (va_rf_or _) (fun t ht hW => ⟨r_9, rfl, (by rcases k_10 with ⟨q1, -⟩ | ⟨-, -, q1⟩; exact Or.inl q1; exact Or.inr (Or.inl ⟨_, q1⟩)), ht⟩) (fun _ h9 => by cases h9) dX8_vesselAt_9
set_option maxHeartbeats 4000000 in
set_option maxRecDepth 100000 in
theorem h_holds (l : Launch) (D : va_G) (ρ : Nat → Nat) (ws : va_W) (tys : List (ClassId × FieldType)) (fv : Nat → Nat → Int32) (h0 lc bc rc fc : Nat) (dn : Int32) (tl : Nat) (a1 a2 a3 : Int32) (sz : Nat) (X : XI ρ fv ws tys h0 lc bc rc fc dn tl) : Met l yX8_holds wsX8_holds ({ frames := 3, cells := 0, slots := 0, locals := 65 }) (va_Pc [.ref h0, .int a1, .int a2, .int a3] (fun U => U.heap.size = sz ∧ va_P D vwCl ws U.heap ∧ va_K D vwCl tys U ∧ va_D (fun _ => True) ws)) (va_Qi (fun (r : Int32) (_ : Unit) => True) (fun (_ : Unit) (t : State) => ∃ (ws' : va_W) (tys' : List (ClassId × FieldType)), sm ρ [] ws ws' ∧ tyx tys tys' ∧ va_P D vwCl ws' t.heap ∧ va_K D vwCl tys' t ∧ va_D (va_A ws sz) ws' ∧ (XI ρ fv ws' tys' h0 lc bc rc fc dn tl)) (va_A ws sz)) 0 0 (va_A ws sz) := by
  refine Met.ofW (cc := cX8_holds) (maxL := 5) (ret := (some .int)) (by decide) rfl ?_
  intro p e s m args below meth c s₁ B hml hv
  obtain ⟨rfl, hsz, hP, hK, hD0⟩ := hv
  have hx := B.exec
  have hb := B.bytes
  have hr := B.returns
  have hts := atoms_spec (ws := wsX8_holds) B.pre
  have hown : s.vm.findClass RX8 = some m.cls := findClass_of_methodNamed B.named
  have hlocks := B.notSynchronized
  subst hsz
  have hD := hD0.self (sz := s.heap.size)
  generalize hAe : va_A ws s.heap.size = A at hD ⊢
  have hA : ∀ q : Nat, s.heap.size ≤ q → A q := fun q h => by rw [← hAe]; exact Or.inr h
  have hS : va_S A s.heap s.heap [] := va_S.rf
  have hsm : sm ρ [] ws ws := sm.rf ws
  have htx : tyx tys tys := tyx.rf tys
  have hin7 : ∀ w ∈ u_ws RX7 TX7 5, w ∈ wsX8_holds := (fun _ h9 => List.mem_cons_of_mem _ (List.mem_append_left _ ((List.mem_append_right _ h9))))
  have hl := lv_entry ([.ref h0, .int a1, .int a2, .int a3]) (n := 5) (Nat.le_of_ble_eq_true rfl)
  rw [lg_entry_eq]
  generalize (lg_sl ([.ref h0, .int a1, .int a2, .int a3]) ++ List.replicate (5 - (lg_sl ([.ref h0, .int a1, .int a2, .int a3])).length) Slot.unset).toArray = ls at hl ⊢
  have hl : lv_has ls 5 [(0, .ref h0), (1, .int a1), (2, .int a2), (3, .int a3)] := hl
  obtain ⟨k0, la, ta, ba, ra, sn, rd, dr, bl, vd, fb, e0, w0, hle0, hnum, qla, qta, qba, qra, qsn, qrd, qdr, qbl, qvd, qfb⟩ := id X
  obtain ⟨kta, cta, tta, fta, eta, uta, pta⟩ := id qta
  obtain ⟨kba, cba, tba, fba, eba, uba, pba⟩ := id qba
  refine lv_aload_n hx hb dX8_holds_0 rfl (lv_at hl 0 rfl) ?_
  refine lv_iload_n hx hb dX8_holds_1 rfl (lv_at hl 1 rfl) ?_
  refine lv_iload_n hx hb dX8_holds_2 rfl (lv_at hl 2 rfl) ?_
  refine va_csq (W.runV (As := [.int a1, .int a2]) (rest := []) ⟨hx, hb, hml, hown, hts⟩ (s_vesselAt l D ws tys h0 k0 _ ta kta cta fta tta ba kba cba fba tba a1 a2 e0 rfl eta uta rfl eba uba) (cwV 2 hts gX8_holds_X8_vesselAt rfl rfl rfl (by decide +kernel) ⟨Nat.le_of_ble_eq_true rfl, Nat.le_of_ble_eq_true rfl⟩) ⟨fun a U g mk q => ⟨q.1, q.2.1, va_K.moved (u := U) (U := U.calling g mk a) (Vm.Alike.refl U.vm) q.2.2⟩, va_recv hK hP (ci := 8) (q0 := k0) rfl e0, fun U hU hW => ⟨rfl, by rw [hU]; exact hP, va_K.moved hW.alike hK⟩⟩ rfl rfl hl.1 rfl (lv_room (Nat.le_of_ble_eq_true rfl)) dX8_holds_3 ⟨Nat.le_of_ble_eq_true rfl, Nat.le_of_ble_eq_true rfl⟩) (fun r_1 k_2 => ?_)
  have hz_5 : r_1 = none ∨ ∃ v, r_1 = some v ∧ oV ρ ws tys v := by
    rcases k_2 with q | ⟨j, q⟩ | ⟨j, q⟩
    · exact Or.inl q
    · rcases r_1 with _ | v
      · exact Or.inl rfl
      · exact Or.inr ⟨v, rfl, pta _ _ q.symm⟩
    · rcases r_1 with _ | v
      · exact Or.inl rfl
      · exact Or.inr ⟨v, rfl, pba _ _ q.symm⟩
  rcases hz_5 with rfl | ⟨v_3, rfl, hv_4⟩
  · refine tp_v (y := .null) rfl ?_
    refine lv_astoreN (lv' := [(4, .null), (0, .ref h0), (1, .int a1), (2, .int a2), (3, .int a3)]) hx hb dX8_holds_6 hl (by decide) rfl (fun ls hl => ?_)
    refine lv_aloadN hx hb dX8_holds_8 (lv_at hl 0 rfl) ?_
    refine lv_ifnonnullN hx hb dX8_holds_10 ?_
    refine lv_iconst (v := (-1)) hx hb dX8_holds_13 (by decide) ?_
    exact W.iret (v := (-1)) hx hb hr (fun t ht hW => ⟨⟨(-1), (), rfl, trivial, ws, tys, hsm, htx, by rw [ht]; exact hP, va_K.moved hW.alike hK, hD, X.sm hsm htx (by decide) (by decide)⟩, hS.F ht⟩) hS.2.2 dX8_holds_14
  obtain ⟨k_6, g_7, x_8, x_9, x_10, x_11, e_12, w_19, k_13, c9_14, t_15, f_16, e_17, u_18, w_20⟩ := hv_4.sm hsm htx
  refine tp_v (y := .ref v_3) rfl ?_
  refine lv_astore (lv' := [(4, .ref v_3), (0, .ref h0), (1, .int a1), (2, .int a2), (3, .int a3)]) hx hb dX8_holds_6 hl (by decide) rfl (fun ls hl => ?_)
  refine lv_aload hx hb dX8_holds_8 (lv_at hl 0 rfl) ?_
  refine lv_ifnonnull (tgt := 15) hx hb dX8_holds_10 (by decide) ?_
  refine lv_iload_n hx hb dX8_holds_15 rfl (lv_at hl 4 rfl) ?_
  by_cases c_21 : a3 = 0
  · refine lv_tableIn (off := 36) (tgt := 52) hx hb dX8_holds_16 (by rw [c_21]; decide) (by rw [c_21]; decide) (by rw [c_21]; rfl) (by decide) ?_
    refine lv_aload hx hb dX8_holds_52 (lv_at hl 0 rfl) ?_
    refine va_get (D := D) (ci := 7) (v := .int x_8) (C := RX7) (T := TX7) (N := 5) hx hb hts hin7 hown hK hP k_6 e_12 rfl 1 (by decide) (hts (.fieldLink RX8 144 "HoneyHouse$Vessel" "total" "I") (List.mem_of_getElem? (i := 1) rfl)) (fun _ h9 => h9) rfl dX8_holds_54 ?_
    exact W.iret (v := x_8) hx hb hr (fun t ht hW => ⟨⟨x_8, (), rfl, trivial, ws, tys, hsm, htx, by rw [ht]; exact hP, va_K.moved hW.alike hK, hD, X.sm hsm htx (by decide) (by decide)⟩, hS.F ht⟩) hS.2.2 dX8_holds_57
  by_cases c_22 : a3 = 1
  · refine lv_tableIn (off := 42) (tgt := 58) hx hb dX8_holds_16 (by rw [c_22]; decide) (by rw [c_22]; decide) (by rw [c_22]; rfl) (by decide) ?_
    refine lv_aload hx hb dX8_holds_58 (lv_at hl 0 rfl) ?_
    refine vp_callSi (W.runV (As := []) (rest := []) ⟨hx, hb, hml, hown, hts⟩ (s_lotsInIt l D ws tys v_3 k_6 x_8 x_9 x_10 x_11 g_7 k_13 c9_14 t_15 f_16 e_12 e_17 u_18) (cwV 0 hts gX8_holds_X7_lotsInIt rfl rfl rfl (by decide +kernel) ⟨Nat.le_of_ble_eq_true rfl, Nat.le_of_ble_eq_true rfl⟩) ⟨fun a U g mk q => ⟨q.1, q.2.1, va_K.moved (u := U) (U := U.calling g mk a) (Vm.Alike.refl U.vm) q.2.2⟩, va_recv hK hP (ci := 7) (q0 := k_6) rfl e_12, fun U hU hW => ⟨rfl, by rw [hU]; exact hP, va_K.moved hW.alike hK⟩⟩ rfl rfl hl.1 rfl (lv_room (Nat.le_of_ble_eq_true rfl)) dX8_holds_60 ⟨Nat.le_of_ble_eq_true rfl, Nat.le_of_ble_eq_true rfl⟩) (fun r_23 k_24 => ?_)
    exact W.iret (v := r_23) hx hb hr (fun t ht hW => ⟨⟨r_23, (), rfl, trivial, ws, tys, hsm, htx, by rw [ht]; exact hP, va_K.moved hW.alike hK, hD, X.sm hsm htx (by decide) (by decide)⟩, hS.F ht⟩) hS.2.2 dX8_holds_63
  by_cases c_25 : a3 = 2
  · refine lv_tableIn (off := 48) (tgt := 64) hx hb dX8_holds_16 (by rw [c_25]; decide) (by rw [c_25]; decide) (by rw [c_25]; rfl) (by decide) ?_
    refine lv_aload hx hb dX8_holds_64 (lv_at hl 0 rfl) ?_
    refine va_get (D := D) (ci := 7) (v := .int x_9) (C := RX7) (T := TX7) (N := 5) hx hb hts hin7 hown hK hP k_6 e_12 rfl 2 (by decide) (hts (.fieldLink RX8 160 "HoneyHouse$Vessel" "heat" "I") (List.mem_of_getElem? (i := 2) rfl)) (fun _ h9 => h9) rfl dX8_holds_66 ?_
    exact W.iret (v := x_9) hx hb hr (fun t ht hW => ⟨⟨x_9, (), rfl, trivial, ws, tys, hsm, htx, by rw [ht]; exact hP, va_K.moved hW.alike hK, hD, X.sm hsm htx (by decide) (by decide)⟩, hS.F ht⟩) hS.2.2 dX8_holds_69
  by_cases c_26 : a3 = 3
  · refine lv_tableIn (off := 54) (tgt := 70) hx hb dX8_holds_16 (by rw [c_26]; decide) (by rw [c_26]; decide) (by rw [c_26]; rfl) (by decide) ?_
    refine lv_aload hx hb dX8_holds_70 (lv_at hl 0 rfl) ?_
    refine va_get (D := D) (ci := 7) (v := .int x_10) (C := RX7) (T := TX7) (N := 5) hx hb hts hin7 hown hK hP k_6 e_12 rfl 3 (by decide) (hts (.fieldLink RX8 147 "HoneyHouse$Vessel" "roomOrTank" "I") (List.mem_of_getElem? (i := 3) rfl)) (fun _ h9 => h9) rfl dX8_holds_72 ?_
    exact W.iret (v := x_10) hx hb hr (fun t ht hW => ⟨⟨x_10, (), rfl, trivial, ws, tys, hsm, htx, by rw [ht]; exact hP, va_K.moved hW.alike hK, hD, X.sm hsm htx (by decide) (by decide)⟩, hS.F ht⟩) hS.2.2 dX8_holds_75
  by_cases c_27 : a3 = 4
  · refine lv_tableIn (off := 60) (tgt := 76) hx hb dX8_holds_16 (by rw [c_27]; decide) (by rw [c_27]; decide) (by rw [c_27]; rfl) (by decide) ?_
    refine lv_aload hx hb dX8_holds_76 (lv_at hl 0 rfl) ?_
    refine va_get (D := D) (ci := 7) (v := .int x_11) (C := RX7) (T := TX7) (N := 5) hx hb hts hin7 hown hK hP k_6 e_12 rfl 4 (by decide) (hts (.fieldLink RX8 150 "HoneyHouse$Vessel" "priceOrDay" "I") (List.mem_of_getElem? (i := 4) rfl)) (fun _ h9 => h9) rfl dX8_holds_78 ?_
    exact W.iret (v := x_11) hx hb hr (fun t ht hW => ⟨⟨x_11, (), rfl, trivial, ws, tys, hsm, htx, by rw [ht]; exact hP, va_K.moved hW.alike hK, hD, X.sm hsm htx (by decide) (by decide)⟩, hS.F ht⟩) hS.2.2 dX8_holds_81
  have nc_21 := lv_neT c_21 (a := 0) (by decide)
  have nc_22 := lv_neT c_22 (a := 1) (by decide)
  have nc_25 := lv_neT c_25 (a := 2) (by decide)
  have nc_26 := lv_neT c_26 (a := 3) (by decide)
  have nc_27 := lv_neT c_27 (a := 4) (by decide)
  refine lv_tableOut (tgt := 82) hx hb dX8_holds_16 (by omega) (by decide) ?_
  refine lv_iconst (v := (-1)) hx hb dX8_holds_82 (by decide) ?_
  exact W.iret (v := (-1)) hx hb hr (fun t ht hW => ⟨⟨(-1), (), rfl, trivial, ws, tys, hsm, htx, by rw [ht]; exact hP, va_K.moved hW.alike hK, hD, X.sm hsm htx (by decide) (by decide)⟩, hS.F ht⟩) hS.2.2 dX8_holds_83
set_option maxHeartbeats 4000000 in
set_option maxRecDepth 100000 in
theorem h_part (l : Launch) (D : va_G) (ρ : Nat → Nat) (ws : va_W) (tys : List (ClassId × FieldType)) (fv : Nat → Nat → Int32) (h0 lc bc rc fc : Nat) (dn : Int32) (tl : Nat) (a1 a2 a3 : Int32) (sz : Nat) (X : XI ρ fv ws tys h0 lc bc rc fc dn tl) : Met l yX8_part wsX8_part ({ frames := 3, cells := 0, slots := 0, locals := 65 }) (va_Pc [.ref h0, .int a1, .int a2, .int a3] (fun U => U.heap.size = sz ∧ va_P D vwCl ws U.heap ∧ va_K D vwCl tys U ∧ va_D (fun _ => True) ws)) (va_Qi (fun (r : Int32) (_ : Unit) => True) (fun (_ : Unit) (t : State) => ∃ (ws' : va_W) (tys' : List (ClassId × FieldType)), sm ρ [] ws ws' ∧ tyx tys tys' ∧ va_P D vwCl ws' t.heap ∧ va_K D vwCl tys' t ∧ va_D (va_A ws sz) ws' ∧ (XI ρ fv ws' tys' h0 lc bc rc fc dn tl)) (va_A ws sz)) 0 0 (va_A ws sz) := by
  refine Met.ofW (cc := cX8_part) (maxL := 5) (ret := (some .int)) (by decide) rfl ?_
  intro p e s m args below meth c s₁ B hml hv
  obtain ⟨rfl, hsz, hP, hK, hD0⟩ := hv
  have hx := B.exec
  have hb := B.bytes
  have hr := B.returns
  have hts := atoms_spec (ws := wsX8_part) B.pre
  have hown : s.vm.findClass RX8 = some m.cls := findClass_of_methodNamed B.named
  have hlocks := B.notSynchronized
  subst hsz
  have hD := hD0.self (sz := s.heap.size)
  generalize hAe : va_A ws s.heap.size = A at hD ⊢
  have hA : ∀ q : Nat, s.heap.size ≤ q → A q := fun q h => by rw [← hAe]; exact Or.inr h
  have hS : va_S A s.heap s.heap [] := va_S.rf
  have hsm : sm ρ [] ws ws := sm.rf ws
  have htx : tyx tys tys := tyx.rf tys
  have hl := lv_entry ([.ref h0, .int a1, .int a2, .int a3]) (n := 5) (Nat.le_of_ble_eq_true rfl)
  rw [lg_entry_eq]
  generalize (lg_sl ([.ref h0, .int a1, .int a2, .int a3]) ++ List.replicate (5 - (lg_sl ([.ref h0, .int a1, .int a2, .int a3])).length) Slot.unset).toArray = ls at hl ⊢
  have hl : lv_has ls 5 [(0, .ref h0), (1, .int a1), (2, .int a2), (3, .int a3)] := hl
  obtain ⟨k0, la, ta, ba, ra, sn, rd, dr, bl, vd, fb, e0, w0, hle0, hnum, qla, qta, qba, qra, qsn, qrd, qdr, qbl, qvd, qfb⟩ := id X
  obtain ⟨kla, cla, tla, fla, ela, ula, pla⟩ := id qla.q
  obtain ⟨kta, cta, tta, fta, eta, uta, pta⟩ := id qta
  obtain ⟨kba, cba, tba, fba, eba, uba, pba⟩ := id qba
  refine lv_aload_n hx hb dX8_part_0 rfl (lv_at hl 0 rfl) ?_
  refine lv_iload_n hx hb dX8_part_1 rfl (lv_at hl 1 rfl) ?_
  refine lv_iload_n hx hb dX8_part_2 rfl (lv_at hl 2 rfl) ?_
  refine va_csq (W.runV (As := [.int a1, .int a2]) (rest := []) ⟨hx, hb, hml, hown, hts⟩ (s_vesselAt l D ws tys h0 k0 _ ta kta cta fta tta ba kba cba fba tba a1 a2 e0 rfl eta uta rfl eba uba) (cwV 2 hts gX8_part_X8_vesselAt rfl rfl rfl (by decide +kernel) ⟨Nat.le_of_ble_eq_true rfl, Nat.le_of_ble_eq_true rfl⟩) ⟨fun a U g mk q => ⟨q.1, q.2.1, va_K.moved (u := U) (U := U.calling g mk a) (Vm.Alike.refl U.vm) q.2.2⟩, va_recv hK hP (ci := 8) (q0 := k0) rfl e0, fun U hU hW => ⟨rfl, by rw [hU]; exact hP, va_K.moved hW.alike hK⟩⟩ rfl rfl hl.1 rfl (lv_room (Nat.le_of_ble_eq_true rfl)) dX8_part_3 ⟨Nat.le_of_ble_eq_true rfl, Nat.le_of_ble_eq_true rfl⟩) (fun r_1 k_2 => ?_)
  have hz_5 : r_1 = none ∨ ∃ v, r_1 = some v ∧ oV ρ ws tys v := by
    rcases k_2 with q | ⟨j, q⟩ | ⟨j, q⟩
    · exact Or.inl q
    · rcases r_1 with _ | v
      · exact Or.inl rfl
      · exact Or.inr ⟨v, rfl, pta _ _ q.symm⟩
    · rcases r_1 with _ | v
      · exact Or.inl rfl
      · exact Or.inr ⟨v, rfl, pba _ _ q.symm⟩
  rcases hz_5 with rfl | ⟨v_3, rfl, hv_4⟩
  · refine tp_v (y := .null) rfl ?_
    refine lv_astoreN (lv' := [(4, .null), (0, .ref h0), (1, .int a1), (2, .int a2), (3, .int a3)]) hx hb dX8_part_6 hl (by decide) rfl (fun ls hl => ?_)
    refine lv_aloadN hx hb dX8_part_8 (lv_at hl 0 rfl) ?_
    refine lv_ifnullN (tgt := 21) hx hb dX8_part_10 (by decide) ?_
    refine lv_iconst (v := (-1)) hx hb dX8_part_21 (by decide) ?_
    exact W.iret (v := (-1)) hx hb hr (fun t ht hW => ⟨⟨(-1), (), rfl, trivial, ws, tys, hsm, htx, by rw [ht]; exact hP, va_K.moved hW.alike hK, hD, X.sm hsm htx (by decide) (by decide)⟩, hS.F ht⟩) hS.2.2 dX8_part_22
  obtain ⟨k_6, g_7, x_8, x_9, x_10, x_11, e_12, w_19, k_13, c9_14, t_15, f_16, e_17, u_18, w_20⟩ := hv_4.sm hsm htx
  refine tp_v (y := .ref v_3) rfl ?_
  refine lv_astore (lv' := [(4, .ref v_3), (0, .ref h0), (1, .int a1), (2, .int a2), (3, .int a3)]) hx hb dX8_part_6 hl (by decide) rfl (fun ls hl => ?_)
  refine lv_aload hx hb dX8_part_8 (lv_at hl 0 rfl) ?_
  refine lv_ifnull hx hb dX8_part_10 ?_
  refine lv_aload_n hx hb dX8_part_13 rfl (lv_at hl 1 rfl) ?_
  refine lv_iload_n hx hb dX8_part_14 rfl (lv_at hl 4 rfl) ?_
  refine va_csq (W.runV (As := [.int a3]) (rest := []) ⟨hx, hb, hml, hown, hts⟩ (s_X8_lotAt l D ws tys h0 k0 _ la kla cla fla tla a3 e0 rfl ela ula) (cwV 1 hts gX8_part_X8_lotAt rfl rfl rfl (by decide +kernel) ⟨Nat.le_of_ble_eq_true rfl, Nat.le_of_ble_eq_true rfl⟩) ⟨fun a U g mk q => ⟨q.1, q.2.1, va_K.moved (u := U) (U := U.calling g mk a) (Vm.Alike.refl U.vm) q.2.2⟩, va_recv hK hP (ci := 8) (q0 := k0) rfl e0, fun U hU hW => ⟨rfl, by rw [hU]; exact hP, va_K.moved hW.alike hK⟩⟩ rfl rfl hl.1 rfl (lv_room (Nat.le_of_ble_eq_true rfl)) dX8_part_15 ⟨Nat.le_of_ble_eq_true rfl, Nat.le_of_ble_eq_true rfl⟩) (fun r_21 k_22 => ?_)
  have hz_25 : r_21 = none ∨ ∃ v, r_21 = some v ∧ oL ws tys v := by
    rcases k_22 with ⟨q, -⟩ | ⟨-, -, q⟩
    · exact Or.inl q
    · rcases r_21 with _ | v
      · exact Or.inl rfl
      · exact Or.inr ⟨v, rfl, pla _ _ q.symm⟩
  rcases hz_25 with rfl | ⟨v_23, rfl, hv_24⟩
  · refine tp_v (y := .null) rfl ?_
    refine lv_ifnonnullN hx hb dX8_part_18 ?_
    refine lv_iconst (v := (-1)) hx hb dX8_part_21 (by decide) ?_
    exact W.iret (v := (-1)) hx hb hr (fun t ht hW => ⟨⟨(-1), (), rfl, trivial, ws, tys, hsm, htx, by rw [ht]; exact hP, va_K.moved hW.alike hK, hD, X.sm hsm htx (by decide) (by decide)⟩, hS.F ht⟩) hS.2.2 dX8_part_22
  obtain ⟨k_27, g_28, g_29, g_30, x_31, x_32, x_33, x_34, x_35, x_36, x_37, e_38, ⟨k_39, c9_40, t_41, f_42, e_43, u_44⟩, ⟨k_45, c9_46, t_47, f_48, e_49, u_50⟩, k_51, g_52, g_53, e_54, ⟨k_55, c9_56, t_57, f_58, e_59, u_60⟩, k_61, c9_62, t_63, f_64, e_65, u_66⟩ := hv_24.sm hsm htx
  refine tp_v (y := .ref v_23) rfl ?_
  refine lv_ifnonnull (tgt := 23) hx hb dX8_part_18 (by decide) ?_
  refine lv_aload hx hb dX8_part_23 (lv_at hl 0 rfl) ?_
  refine lv_iload_n hx hb dX8_part_25 rfl (lv_at hl 4 rfl) ?_
  refine vp_callSi (W.runV (As := [.int a3]) (rest := []) ⟨hx, hb, hml, hown, hts⟩ (s_gramsOf l D ws tys v_3 k_6 x_8 x_9 x_10 x_11 g_7 k_13 c9_14 t_15 f_16 a3 e_12 e_17 u_18) (cwV 1 hts gX8_part_X7_gramsOf rfl rfl rfl (by decide +kernel) ⟨Nat.le_of_ble_eq_true rfl, Nat.le_of_ble_eq_true rfl⟩) ⟨fun a U g mk q => ⟨q.1, q.2.1, va_K.moved (u := U) (U := U.calling g mk a) (Vm.Alike.refl U.vm) q.2.2⟩, va_recv hK hP (ci := 7) (q0 := k_6) rfl e_12, fun U hU hW => ⟨rfl, by rw [hU]; exact hP, va_K.moved hW.alike hK⟩⟩ rfl rfl hl.1 rfl (lv_room (Nat.le_of_ble_eq_true rfl)) dX8_part_26 ⟨Nat.le_of_ble_eq_true rfl, Nat.le_of_ble_eq_true rfl⟩) (fun r_67 k_68 => ?_)
  exact W.iret (v := r_67) hx hb hr (fun t ht hW => ⟨⟨r_67, (), rfl, trivial, ws, tys, hsm, htx, by rw [ht]; exact hP, va_K.moved hW.alike hK, hD, X.sm hsm htx (by decide) (by decide)⟩, hS.F ht⟩) hS.2.2 dX8_part_29
