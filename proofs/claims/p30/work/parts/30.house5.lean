theorem dX7_lotsInIt_0 : decode cX7_lotsInIt 0 = .ok (.iconst 0, 1) := by decide +kernel
theorem dX7_lotsInIt_1 : decode cX7_lotsInIt 1 = .ok (.istore_n 1, 1) := by decide +kernel
theorem dX7_lotsInIt_2 : decode cX7_lotsInIt 2 = .ok (.iconst 0, 1) := by decide +kernel
theorem dX7_lotsInIt_3 : decode cX7_lotsInIt 3 = .ok (.istore_n 2, 1) := by decide +kernel
theorem dX7_lotsInIt_4 : decode cX7_lotsInIt 4 = .ok (.iload_n 2, 1) := by decide +kernel
theorem dX7_lotsInIt_5 : decode cX7_lotsInIt 5 = .ok (.aload_n 0, 1) := by decide +kernel
theorem dX7_lotsInIt_6 : decode cX7_lotsInIt 6 = .ok (.getfield 9, 3) := by decide +kernel
theorem dX7_lotsInIt_9 : decode cX7_lotsInIt 9 = .ok (.arraylength, 1) := by decide +kernel
theorem dX7_lotsInIt_10 : decode cX7_lotsInIt 10 = .ok (.if_icmp .ge 21, 3) := by decide +kernel
theorem dX7_lotsInIt_13 : decode cX7_lotsInIt 13 = .ok (.aload_n 0, 1) := by decide +kernel
theorem dX7_lotsInIt_14 : decode cX7_lotsInIt 14 = .ok (.getfield 9, 3) := by decide +kernel
theorem dX7_lotsInIt_17 : decode cX7_lotsInIt 17 = .ok (.iload_n 2, 1) := by decide +kernel
theorem dX7_lotsInIt_18 : decode cX7_lotsInIt 18 = .ok (.iaload, 1) := by decide +kernel
theorem dX7_lotsInIt_19 : decode cX7_lotsInIt 19 = .ok (.ifCond .le 6, 3) := by decide +kernel
theorem dX7_lotsInIt_22 : decode cX7_lotsInIt 22 = .ok (.iinc 1 1, 3) := by decide +kernel
theorem dX7_lotsInIt_25 : decode cX7_lotsInIt 25 = .ok (.iinc 2 1, 3) := by decide +kernel
theorem dX7_lotsInIt_28 : decode cX7_lotsInIt 28 = .ok (.goto (-24), 3) := by decide +kernel
theorem dX7_lotsInIt_31 : decode cX7_lotsInIt 31 = .ok (.iload_n 1, 1) := by decide +kernel
theorem dX7_lotsInIt_32 : decode cX7_lotsInIt 32 = .ok (.ireturn, 1) := by decide +kernel
theorem dX8_vesselAt_0 : decode cX8_vesselAt 0 = .ok (.iload_n 1, 1) := by decide +kernel
theorem dX8_vesselAt_1 : decode cX8_vesselAt 1 = .ok (.ifCond .ne 9, 3) := by decide +kernel
theorem dX8_vesselAt_4 : decode cX8_vesselAt 4 = .ok (.aload_n 0, 1) := by decide +kernel
theorem dX8_vesselAt_5 : decode cX8_vesselAt 5 = .ok (.iload_n 2, 1) := by decide +kernel
theorem dX8_vesselAt_6 : decode cX8_vesselAt 6 = .ok (.invokevirtual 139, 3) := by decide +kernel
theorem dX8_vesselAt_9 : decode cX8_vesselAt 9 = .ok (.areturn, 1) := by decide +kernel
theorem dX8_vesselAt_10 : decode cX8_vesselAt 10 = .ok (.iload_n 1, 1) := by decide +kernel
theorem dX8_vesselAt_11 : decode cX8_vesselAt 11 = .ok (.iconst 1, 1) := by decide +kernel
theorem dX8_vesselAt_12 : decode cX8_vesselAt 12 = .ok (.if_icmp .ne 27, 3) := by decide +kernel
theorem dX8_vesselAt_15 : decode cX8_vesselAt 15 = .ok (.iload_n 2, 1) := by decide +kernel
theorem dX8_vesselAt_16 : decode cX8_vesselAt 16 = .ok (.iconst 0, 1) := by decide +kernel
theorem dX8_vesselAt_17 : decode cX8_vesselAt 17 = .ok (.aload_n 0, 1) := by decide +kernel
theorem dX8_vesselAt_18 : decode cX8_vesselAt 18 = .ok (.getfield 21, 3) := by decide +kernel
theorem dX8_vesselAt_21 : decode cX8_vesselAt 21 = .ok (.arraylength, 1) := by decide +kernel
theorem dX8_vesselAt_22 : decode cX8_vesselAt 22 = .ok (.iconst 1, 1) := by decide +kernel
theorem dX8_vesselAt_23 : decode cX8_vesselAt 23 = .ok (.isub, 1) := by decide +kernel
theorem dX8_vesselAt_24 : decode cX8_vesselAt 24 = .ok (.invokestatic 85, 3) := by decide +kernel
theorem dX8_vesselAt_27 : decode cX8_vesselAt 27 = .ok (.ifCond .eq 12, 3) := by decide +kernel
theorem dX8_vesselAt_30 : decode cX8_vesselAt 30 = .ok (.aload_n 0, 1) := by decide +kernel
theorem dX8_vesselAt_31 : decode cX8_vesselAt 31 = .ok (.getfield 21, 3) := by decide +kernel
theorem dX8_vesselAt_34 : decode cX8_vesselAt 34 = .ok (.iload_n 2, 1) := by decide +kernel
theorem dX8_vesselAt_35 : decode cX8_vesselAt 35 = .ok (.aaload, 1) := by decide +kernel
theorem dX8_vesselAt_36 : decode cX8_vesselAt 36 = .ok (.goto 4, 3) := by decide +kernel
theorem dX8_vesselAt_39 : decode cX8_vesselAt 39 = .ok (.aconst_null, 1) := by decide +kernel
theorem dX8_vesselAt_40 : decode cX8_vesselAt 40 = .ok (.areturn, 1) := by decide +kernel
set_option maxRecDepth 20000 in
theorem ggX8_vesselAt_X8_isIn : GoodIn wsX8_vesselAt wsX8_isIn := goodIn_r _ [10] rfl (by decide +kernel)
set_option maxRecDepth 20000 in
theorem gX8_vesselAt_X8_isIn : GoodIn wsX8_vesselAt (va_wsS RX8 85 yX8_isIn wsX8_isIn) := goodIn_app (goodIn_of _ (by decide +kernel)) ggX8_vesselAt_X8_isIn
set_option maxRecDepth 20000 in
theorem ggX8_vesselAt_X8_tankAt : GoodIn wsX8_vesselAt wsX8_tankAt := goodIn_r _ [6, 7, 8, 9, 5, 10, 11, 12, 13, 14, 15, 16, 17, 18, 19, 20, 21, 22, 23, 24, 25] rfl (by decide +kernel)
set_option maxRecDepth 20000 in
theorem gX8_vesselAt_X8_tankAt : GoodIn wsX8_vesselAt (wsV RX8 139 RX8 yX8_tankAt wsX8_tankAt) := goodIn_app (goodIn_of _ (by decide +kernel)) ggX8_vesselAt_X8_tankAt
set_option maxHeartbeats 4000000 in
set_option maxRecDepth 100000 in
theorem s_lotsInIt (l : Launch) (D : va_G) (ws : va_W) (tys : List (ClassId × FieldType)) (v kv : Nat) (vt vh vr vp : Int32) (g kg : Nat) (cg : ClassId) (tg : Nat) (f : Nat → Int32) (ev : ws[kv]? = some (v, .inr (7, [.ref g, .int vt, .int vh, .int vr, .int vp]))) (eg : ws[kg]? = some (g, .inl (cg, 40, .inl f))) (ug : tys[tg]? = some (cg, .int)) : Met l yX7_lotsInIt wsX7_lotsInIt ({ frames := 0, cells := 0, slots := 0, locals := 0 }) (va_Pc [.ref v] (fun U => va_P D vwCl ws U.heap ∧ va_K D vwCl tys U)) (vp_Si (fun r => r = lin f 40)) 0 0 (fun _ => False) := by
  refine Met.ofW (cc := cX7_lotsInIt) (maxL := 3) (ret := (some .int)) (by decide) rfl ?_
  intro p e s m args below meth c s₁ B hml hv
  obtain ⟨rfl, hP, hK⟩ := hv
  have hx := B.exec
  have hb := B.bytes
  have hr := B.returns
  have hts := atoms_spec (ws := wsX7_lotsInIt) B.pre
  have hown : s.vm.findClass RX7 = some m.cls := findClass_of_methodNamed B.named
  have hlocks := B.notSynchronized
  have hin7 : ∀ w ∈ u_ws RX7 TX7 5, w ∈ wsX7_lotsInIt := (fun _ h9 => List.mem_cons_of_mem _ ((List.mem_append_right _ h9)))
  have hl := lv_entry ([.ref v]) (n := 3) (Nat.le_of_ble_eq_true rfl)
  rw [lg_entry_eq]
  generalize (lg_sl ([.ref v]) ++ List.replicate (3 - (lg_sl ([.ref v])).length) Slot.unset).toArray = ls at hl ⊢
  have hl : lv_has ls 3 [(0, .ref v)] := hl
  refine lv_iconst (v := 0) hx hb dX7_lotsInIt_0 (by decide) ?_
  refine lv_istore_n (lv' := [(1, .int 0), (0, .ref v)]) hx hb dX7_lotsInIt_1 rfl hl (by decide) rfl (fun ls hl => ?_)
  refine lv_iconst (v := 0) hx hb dX7_lotsInIt_2 (by decide) ?_
  refine lv_istore_n (lv' := [(2, .int 0), (1, .int 0), (0, .ref v)]) hx hb dX7_lotsInIt_3 rfl hl (by decide) rfl (fun ls hl => ?_)
  refine lp_S (nL := 3) (N := 40) (σ := Int32) (lv := fun i x_1 => [(2, .int (nI i)), (1, .int x_1), (0, .ref v)]) (J := fun i9 x_1 => x_1 = lin f i9) (fun i hi ih x_1 ls hj hl => ?_) 0 (by omega) 0 ls (rfl) (lv_sub hl [0, 1, 2] rfl)
  have hl : lv_has ls 3 [(2, .int (nI i)), (1, .int x_1), (0, .ref v)] := hl
  replace hj : x_1 = lin f i := hj
  refine lv_iload_n hx hb dX7_lotsInIt_4 rfl (lv_at hl 0 rfl) ?_
  refine lv_aload_n hx hb dX7_lotsInIt_5 rfl (lv_at hl 2 rfl) ?_
  refine va_get (D := D) (ci := 7) (v := .ref g) (C := RX7) (T := TX7) (N := 5) hx hb hts hin7 hown hK hP kv ev rfl 0 (by decide) (hts (.fieldLink RX7 9 "HoneyHouse$Vessel" "grams" "[I") (List.mem_of_getElem? (i := 1) rfl)) (fun _ h9 => h9) rfl dX7_lotsInIt_6 ?_
  refine va_alen (v := 40) hx hb hK hP kg tg eg ug rfl dX7_lotsInIt_9 ?_
  refine lv_icmp_ge (tgt := 31) hx hb dX7_lotsInIt_10 (by decide) (fun c_2 => ?_) (fun c_2 => ?_)
  · refine lv_iload_n hx hb dX7_lotsInIt_31 rfl (lv_at hl 1 rfl) ?_
    exact W.iret (v := x_1) hx hb hr (fun t ht hW => ⟨x_1, rfl, (by rw [hj, show i = 40 from by have := (nI_leI (a := 40) (b := i) (by omega) (by omega)).mp (show nI 40 ≤ nI i from c_2); omega]), ht⟩) (fun _ h9 => by cases h9) dX7_lotsInIt_32
  have hlt : i < 40 := i_lt_of hi (by omega) rfl c_2
  refine lv_aload_n hx hb dX7_lotsInIt_13 rfl (lv_at hl 2 rfl) ?_
  refine va_get (D := D) (ci := 7) (v := .ref g) (C := RX7) (T := TX7) (N := 5) hx hb hts hin7 hown hK hP kv ev rfl 0 (by decide) (hts (.fieldLink RX7 9 "HoneyHouse$Vessel" "grams" "[I") (List.mem_of_getElem? (i := 1) rfl)) (fun _ h9 => h9) rfl dX7_lotsInIt_14 ?_
  refine lv_iload_n hx hb dX7_lotsInIt_17 rfl (lv_at hl 0 rfl) ?_
  refine va_iald (f := f) (n := 40) hx hb hK hP kg tg eg ug (vp_in_nI hlt (by omega)) dX7_lotsInIt_18 ?_
  refine lv_if_le (tgt := 25) hx hb dX7_lotsInIt_19 (by decide) (fun c_3 => ?_) (fun c_3 => ?_)
  · refine lv_iinc (v := nI (i + 1)) (lv' := [(2, .int (nI (i + 1))), (1, .int x_1), (0, .ref v)]) hx hb dX7_lotsInIt_25 hl (k := 0) rfl (nI_1 i) (by decide) rfl (fun ls hl => ?_)
    refine lv_goto (tgt := 4) hx hb dX7_lotsInIt_28 (by decide) ?_
    exact ih hlt x_1 ls (by rw [lin_n (show ¬ 0 < f i from i_le_n (by rw [nI_clamp (n := i) (by omega)] at c_3; exact c_3)), hj]) (lv_sub hl [0, 1, 2] rfl)
  refine lv_iinc (v := x_1 + 1) (lv' := [(1, .int (x_1 + 1)), (2, .int (nI i)), (0, .ref v)]) hx hb dX7_lotsInIt_22 hl (k := 1) rfl rfl (by decide) rfl (fun ls hl => ?_)
  refine lv_iinc (v := nI (i + 1)) (lv' := [(2, .int (nI (i + 1))), (1, .int (x_1 + 1)), (0, .ref v)]) hx hb dX7_lotsInIt_25 hl (k := 1) rfl (nI_1 i) (by decide) rfl (fun ls hl => ?_)
  refine lv_goto (tgt := 4) hx hb dX7_lotsInIt_28 (by decide) ?_
  exact ih hlt (x_1 + 1) ls (by rw [lin_y (show 0 < f i from i_nle (by rw [nI_clamp (n := i) (by omega)] at c_3; exact c_3)), hj]) (lv_sub hl [0, 1, 2] rfl)
set_option maxHeartbeats 4000000 in
set_option maxRecDepth 100000 in
theorem s_vesselAt (l : Launch) (D : va_G) (ws : va_W) (tys : List (ClassId × FieldType)) (h0 k0 : Nat) (fs : List Value) (ta k2 : Nat) (c2 : ClassId) (g : Nat → Option Nat) (t2 : Nat) (ba k3 : Nat) (c3 : ClassId) (g3 : Nat → Option Nat) (t3 : Nat) (a1 a2 : Int32) (e0 : ws[k0]? = some (h0, .inr (8, fs))) (f1 : fs[1]? = some (.ref ta)) (e2 : ws[k2]? = some (ta, .inl (c2, 10, .inr (.inr (.inr (.inr g)))))) (u2 : tys[t2]? = some (c2, .object RX7)) (f2 : fs[2]? = some (.ref ba)) (e3 : ws[k3]? = some (ba, .inl (c3, 60, .inr (.inr (.inr (.inr g3)))))) (u3 : tys[t3]? = some (c3, .object RX7)) : Met l yX8_vesselAt wsX8_vesselAt ({ frames := 2, cells := 0, slots := 0, locals := 43 }) (va_Pc [.ref h0, .int a1, .int a2] (fun U => va_P D vwCl ws U.heap ∧ va_K D vwCl tys U)) (va_Sq (fun r => (r = none ∧ ((a1 = 0 ∧ (a2 < 0 ∨ 9 < a2)) ∨ (¬ a1 = 0 ∧ (¬ a1 = 1 ∨ a2 < 0 ∨ 59 < a2)))) ∨ (a1 = 0 ∧ ¬ a2 < 0 ∧ ¬ 9 < a2 ∧ r = g a2.toNatClampNeg) ∨ (¬ a1 = 0 ∧ a1 = 1 ∧ ¬ a2 < 0 ∧ ¬ 59 < a2 ∧ r = g3 a2.toNatClampNeg))) 0 0 (fun _ => False) := by
  refine Met.ofW (cc := cX8_vesselAt) (maxL := 3) (ret := (some (.object "HoneyHouse$Vessel"))) (by decide) rfl ?_
  intro p e s m args below meth c s₁ B hml hv
  obtain ⟨rfl, hP, hK⟩ := hv
  have hx := B.exec
  have hb := B.bytes
  have hr := B.returns
  have hts := atoms_spec (ws := wsX8_vesselAt) B.pre
  have hown : s.vm.findClass RX8 = some m.cls := findClass_of_methodNamed B.named
  have hlocks := B.notSynchronized
  have hin8 : ∀ w ∈ u_ws RX8 TX8 15, w ∈ wsX8_vesselAt := (fun _ h9 => List.mem_cons_of_mem _ ((List.mem_append_right _ h9)))
  have hl := lv_entry ([.ref h0, .int a1, .int a2]) (n := 3) (Nat.le_of_ble_eq_true rfl)
  rw [lg_entry_eq]
  generalize (lg_sl ([.ref h0, .int a1, .int a2]) ++ List.replicate (3 - (lg_sl ([.ref h0, .int a1, .int a2])).length) Slot.unset).toArray = ls at hl ⊢
  have hl : lv_has ls 3 [(0, .ref h0), (1, .int a1), (2, .int a2)] := hl
  refine lv_iload_n hx hb dX8_vesselAt_0 rfl (lv_at hl 1 rfl) ?_
  refine lv_if_ne (tgt := 10) hx hb dX8_vesselAt_1 (by decide) (fun c_1 => ?_) (fun c_1 => ?_)
  · refine lv_iload_n hx hb dX8_vesselAt_10 rfl (lv_at hl 1 rfl) ?_
    refine lv_iconst (v := 1) hx hb dX8_vesselAt_11 (by decide) ?_
    refine lv_icmp_ne (tgt := 39) hx hb dX8_vesselAt_12 (by decide) (fun c_2 => ?_) (fun c_2 => ?_)
    · refine lv_null hx hb dX8_vesselAt_39 ?_
      exact W.aret (v := .null) hx hb hr (Or.inl ⟨_, rfl⟩) (Or.inl rfl) (fun t ht hW => ⟨none, rfl, Or.inl ⟨rfl, Or.inr ⟨c_1, Or.inl c_2⟩⟩, ht⟩) (fun _ h9 => by cases h9) dX8_vesselAt_40
    refine lv_iload_n hx hb dX8_vesselAt_15 rfl (lv_at hl 2 rfl) ?_
    refine lv_iconst (v := 0) hx hb dX8_vesselAt_16 (by decide) ?_
    refine lv_aload_n hx hb dX8_vesselAt_17 rfl (lv_at hl 0 rfl) ?_
    refine va_get (D := D) (ci := 8) (v := .ref ba) (C := RX8) (T := TX8) (N := 15) hx hb hts hin8 hown hK hP k0 e0 rfl 2 (by decide) (hts (.fieldLink RX8 21 "HoneyHouse" "batches" "[LHoneyHouse$Vessel;") (List.mem_of_getElem? (i := 1) rfl)) (fun _ h9 => h9) f2 dX8_vesselAt_18 ?_
    refine va_alen (v := 60) hx hb hK hP k3 t3 e3 u3 rfl dX8_vesselAt_21 ?_
    refine lv_iconst (v := 1) hx hb dX8_vesselAt_22 (by decide) ?_
    refine lv_isub hx hb dX8_vesselAt_23 ?_
    refine tp_i (y := 59) (by decide) ?_
    refine vp_callSi (W.runS (As := [.int a2, .int 0, .int 59]) (rest := []) ⟨hx, hb, hml, hown, hts⟩ (s_X8_isIn l a2 0 59) (va_cwS 3 hts gX8_vesselAt_X8_isIn rfl rfl rfl (by decide +kernel) ⟨Nat.le_of_ble_eq_true rfl, Nat.le_of_ble_eq_true rfl⟩) ⟨fun a U g mk q => q, fun U hU hW => ⟨rfl, trivial⟩⟩ rfl rfl hl.1 rfl (lv_room (Nat.le_of_ble_eq_true rfl)) dX8_vesselAt_24 ⟨Nat.le_of_ble_eq_true rfl, Nat.le_of_ble_eq_true rfl⟩) (fun r_3 k_4 => ?_)
    rcases k_4 with ⟨rfl, a_5o⟩ | ⟨rfl, a_5, b_6⟩
    · refine lv_if_eq (tgt := 39) hx hb dX8_vesselAt_27 (by decide) (fun c_7 => ?_) (fun c_7 => absurd (by decide) c_7)
      refine lv_null hx hb dX8_vesselAt_39 ?_
      exact W.aret (v := .null) hx hb hr (Or.inl ⟨_, rfl⟩) (Or.inl rfl) (fun t ht hW => ⟨none, rfl, Or.inl ⟨rfl, Or.inr ⟨c_1, Or.inr a_5o⟩⟩, ht⟩) (fun _ h9 => by cases h9) dX8_vesselAt_40
    refine lv_if_eq (tgt := 39) hx hb dX8_vesselAt_27 (by decide) (fun c_8 => absurd c_8 (by decide)) (fun c_8 => ?_)
    refine lv_aload_n hx hb dX8_vesselAt_30 rfl (lv_at hl 0 rfl) ?_
    refine va_get (D := D) (ci := 8) (v := .ref ba) (C := RX8) (T := TX8) (N := 15) hx hb hts hin8 hown hK hP k0 e0 rfl 2 (by decide) (hts (.fieldLink RX8 21 "HoneyHouse" "batches" "[LHoneyHouse$Vessel;") (List.mem_of_getElem? (i := 1) rfl)) (fun _ h9 => h9) f2 dX8_vesselAt_31 ?_
    refine lv_iload_n hx hb dX8_vesselAt_34 rfl (lv_at hl 2 rfl) ?_
    refine va_aldq (f := g3) (n := 60) hx hb hK hP k3 t3 e3 u3 (i_in a_5 b_6 (by decide)) dX8_vesselAt_35 ?_
    refine lv_goto (tgt := 40) hx hb dX8_vesselAt_36 (by decide) ?_
    exact W.aret (v := va_rf (g3 a2.toNatClampNeg)) hx hb hr (Or.inl ⟨_, rfl⟩) (va_rf_or _) (fun t ht hW => ⟨g3 a2.toNatClampNeg, rfl, Or.inr (Or.inr ⟨c_1, c_2, a_5, b_6, rfl⟩), ht⟩) (fun _ h9 => by cases h9) dX8_vesselAt_40
  refine lv_aload_n hx hb dX8_vesselAt_4 rfl (lv_at hl 0 rfl) ?_
  refine lv_iload_n hx hb dX8_vesselAt_5 rfl (lv_at hl 2 rfl) ?_
  refine va_csq (W.runV (As := [.int a2]) (rest := []) ⟨hx, hb, hml, hown, hts⟩ (s_X8_tankAt l D ws tys h0 k0 _ ta k2 c2 g t2 a2 e0 f1 e2 u2) (cwV 1 hts gX8_vesselAt_X8_tankAt rfl rfl rfl (by decide +kernel) ⟨Nat.le_of_ble_eq_true rfl, Nat.le_of_ble_eq_true rfl⟩) ⟨fun a U g mk q => ⟨q.1, q.2.1, va_K.moved (u := U) (U := U.calling g mk a) (Vm.Alike.refl U.vm) q.2.2⟩, va_recv hK hP (ci := 8) (q0 := k0) rfl e0, fun U hU hW => ⟨rfl, by rw [hU]; exact hP, va_K.moved hW.alike hK⟩⟩ rfl rfl hl.1 rfl (lv_room (Nat.le_of_ble_eq_true rfl)) dX8_vesselAt_6 ⟨Nat.le_of_ble_eq_true rfl, Nat.le_of_ble_eq_true rfl⟩) (fun r_9 k_10 => ?_)
  exact W.aret (v := va_rf r_9) hx hb hr (Or.inl ⟨_, rfl⟩) (va_rf_or _) (fun t ht hW => ⟨r_9, rfl, (by rcases k_10 with ⟨q1, q2⟩ | ⟨q2, q3, q1⟩; exact Or.inl ⟨q1, Or.inl ⟨c_1, q2⟩⟩; exact Or.inr (Or.inl ⟨c_1, q2, q3, q1⟩)), ht⟩) (fun _ h9 => by cases h9) dX8_vesselAt_9
