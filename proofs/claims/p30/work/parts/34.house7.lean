theorem dX8_gramsIn_0 : decode cX8_gramsIn 0 = .ok (.iconst 0, 1) := by decide +kernel
theorem dX8_gramsIn_1 : decode cX8_gramsIn 1 = .ok (.istore_n 2, 1) := by decide +kernel
theorem dX8_gramsIn_2 : decode cX8_gramsIn 2 = .ok (.iconst 0, 1) := by decide +kernel
theorem dX8_gramsIn_3 : decode cX8_gramsIn 3 = .ok (.istore_n 3, 1) := by decide +kernel
theorem dX8_gramsIn_4 : decode cX8_gramsIn 4 = .ok (.iload_n 3, 1) := by decide +kernel
theorem dX8_gramsIn_5 : decode cX8_gramsIn 5 = .ok (.aload_n 0, 1) := by decide +kernel
theorem dX8_gramsIn_6 : decode cX8_gramsIn 6 = .ok (.arraylength, 1) := by decide +kernel
theorem dX8_gramsIn_7 : decode cX8_gramsIn 7 = .ok (.if_icmp .ge 28, 3) := by decide +kernel
theorem dX8_gramsIn_10 : decode cX8_gramsIn 10 = .ok (.aload_n 0, 1) := by decide +kernel
theorem dX8_gramsIn_11 : decode cX8_gramsIn 11 = .ok (.iload_n 3, 1) := by decide +kernel
theorem dX8_gramsIn_12 : decode cX8_gramsIn 12 = .ok (.aaload, 1) := by decide +kernel
theorem dX8_gramsIn_13 : decode cX8_gramsIn 13 = .ok (.astore 4, 2) := by decide +kernel
theorem dX8_gramsIn_15 : decode cX8_gramsIn 15 = .ok (.aload 4, 2) := by decide +kernel
theorem dX8_gramsIn_17 : decode cX8_gramsIn 17 = .ok (.ifnull 12, 3) := by decide +kernel
theorem dX8_gramsIn_20 : decode cX8_gramsIn 20 = .ok (.iload_n 2, 1) := by decide +kernel
theorem dX8_gramsIn_21 : decode cX8_gramsIn 21 = .ok (.aload 4, 2) := by decide +kernel
theorem dX8_gramsIn_23 : decode cX8_gramsIn 23 = .ok (.iload_n 1, 1) := by decide +kernel
theorem dX8_gramsIn_24 : decode cX8_gramsIn 24 = .ok (.invokevirtual 181, 3) := by decide +kernel
theorem dX8_gramsIn_27 : decode cX8_gramsIn 27 = .ok (.iadd, 1) := by decide +kernel
theorem dX8_gramsIn_28 : decode cX8_gramsIn 28 = .ok (.istore_n 2, 1) := by decide +kernel
theorem dX8_gramsIn_29 : decode cX8_gramsIn 29 = .ok (.iinc 3 1, 3) := by decide +kernel
theorem dX8_gramsIn_32 : decode cX8_gramsIn 32 = .ok (.goto (-28), 3) := by decide +kernel
theorem dX8_gramsIn_35 : decode cX8_gramsIn 35 = .ok (.iload_n 2, 1) := by decide +kernel
theorem dX8_gramsIn_36 : decode cX8_gramsIn 36 = .ok (.ireturn, 1) := by decide +kernel
theorem dX8_whereabouts_0 : decode cX8_whereabouts 0 = .ok (.iload_n 3, 1) := by decide +kernel
theorem dX8_whereabouts_1 : decode cX8_whereabouts 1 = .ok (.ifCond .ne 8, 3) := by decide +kernel
theorem dX8_whereabouts_4 : decode cX8_whereabouts 4 = .ok (.aload_n 1, 1) := by decide +kernel
theorem dX8_whereabouts_5 : decode cX8_whereabouts 5 = .ok (.getfield 136, 3) := by decide +kernel
theorem dX8_whereabouts_8 : decode cX8_whereabouts 8 = .ok (.ireturn, 1) := by decide +kernel
theorem dX8_whereabouts_9 : decode cX8_whereabouts 9 = .ok (.aload_n 0, 1) := by decide +kernel
theorem dX8_whereabouts_10 : decode cX8_whereabouts 10 = .ok (.getfield 17, 3) := by decide +kernel
theorem dX8_whereabouts_13 : decode cX8_whereabouts 13 = .ok (.iload_n 2, 1) := by decide +kernel
theorem dX8_whereabouts_14 : decode cX8_whereabouts 14 = .ok (.invokestatic 315, 3) := by decide +kernel
theorem dX8_whereabouts_17 : decode cX8_whereabouts 17 = .ok (.istore 4, 2) := by decide +kernel
theorem dX8_whereabouts_19 : decode cX8_whereabouts 19 = .ok (.aload_n 0, 1) := by decide +kernel
theorem dX8_whereabouts_20 : decode cX8_whereabouts 20 = .ok (.getfield 21, 3) := by decide +kernel
theorem dX8_whereabouts_23 : decode cX8_whereabouts 23 = .ok (.iload_n 2, 1) := by decide +kernel
theorem dX8_whereabouts_24 : decode cX8_whereabouts 24 = .ok (.invokestatic 315, 3) := by decide +kernel
theorem dX8_whereabouts_27 : decode cX8_whereabouts 27 = .ok (.istore 5, 2) := by decide +kernel
theorem dX8_whereabouts_29 : decode cX8_whereabouts 29 = .ok (.iload_n 3, 1) := by decide +kernel
theorem dX8_whereabouts_30 : decode cX8_whereabouts 30 = .ok (.iconst 1, 1) := by decide +kernel
theorem dX8_whereabouts_31 : decode cX8_whereabouts 31 = .ok (.if_icmp .ne 6, 3) := by decide +kernel
theorem dX8_whereabouts_34 : decode cX8_whereabouts 34 = .ok (.iload 4, 2) := by decide +kernel
theorem dX8_whereabouts_36 : decode cX8_whereabouts 36 = .ok (.ireturn, 1) := by decide +kernel
theorem dX8_whereabouts_37 : decode cX8_whereabouts 37 = .ok (.iload_n 3, 1) := by decide +kernel
theorem dX8_whereabouts_38 : decode cX8_whereabouts 38 = .ok (.iconst 2, 1) := by decide +kernel
theorem dX8_whereabouts_39 : decode cX8_whereabouts 39 = .ok (.if_icmp .ne 8, 3) := by decide +kernel
theorem dX8_whereabouts_42 : decode cX8_whereabouts 42 = .ok (.iload 5, 2) := by decide +kernel
theorem dX8_whereabouts_44 : decode cX8_whereabouts 44 = .ok (.goto 18, 3) := by decide +kernel
theorem dX8_whereabouts_47 : decode cX8_whereabouts 47 = .ok (.aload_n 1, 1) := by decide +kernel
theorem dX8_whereabouts_48 : decode cX8_whereabouts 48 = .ok (.getfield 120, 3) := by decide +kernel
theorem dX8_whereabouts_51 : decode cX8_whereabouts 51 = .ok (.aload_n 1, 1) := by decide +kernel
theorem dX8_whereabouts_52 : decode cX8_whereabouts 52 = .ok (.getfield 136, 3) := by decide +kernel
theorem dX8_whereabouts_55 : decode cX8_whereabouts 55 = .ok (.isub, 1) := by decide +kernel
theorem dX8_whereabouts_56 : decode cX8_whereabouts 56 = .ok (.iload 4, 2) := by decide +kernel
theorem dX8_whereabouts_58 : decode cX8_whereabouts 58 = .ok (.isub, 1) := by decide +kernel
theorem dX8_whereabouts_59 : decode cX8_whereabouts 59 = .ok (.iload 5, 2) := by decide +kernel
theorem dX8_whereabouts_61 : decode cX8_whereabouts 61 = .ok (.isub, 1) := by decide +kernel
theorem dX8_whereabouts_62 : decode cX8_whereabouts 62 = .ok (.ireturn, 1) := by decide +kernel
set_option maxRecDepth 20000 in
theorem ggX8_gramsIn_X7_gramsOf : GoodIn wsX8_gramsIn wsX7_gramsOf := goodIn_r _ [5, 6, 7, 8, 9, 10, 11] rfl (by decide +kernel)
set_option maxRecDepth 20000 in
theorem gX8_gramsIn_X7_gramsOf : GoodIn wsX8_gramsIn (wsV RX8 181 RX7 yX7_gramsOf wsX7_gramsOf) := goodIn_app (goodIn_of _ (by decide +kernel)) ggX8_gramsIn_X7_gramsOf
set_option maxRecDepth 20000 in
theorem ggX8_whereabouts_X8_gramsIn : GoodIn wsX8_whereabouts wsX8_gramsIn := goodIn_r _ [8, 9, 10, 11, 12, 13, 14, 40, 41, 42, 43, 44] rfl (by decide +kernel)
set_option maxRecDepth 20000 in
theorem gX8_whereabouts_X8_gramsIn : GoodIn wsX8_whereabouts (va_wsS RX8 315 yX8_gramsIn wsX8_gramsIn) := goodIn_app (goodIn_of _ (by decide +kernel)) ggX8_whereabouts_X8_gramsIn
set_option maxHeartbeats 4000000 in
set_option maxRecDepth 100000 in
theorem a_gramsIn (l : Launch) (D : va_G) (ρ : Nat → Nat) (ws : va_W) (tys : List (ClassId × FieldType)) (qq kqq : Nat) (cqq : ClassId) (tqq n : Nat) (fqq : Nat → Option Nat) (a2 : Int32) (sz : Nat) (hn : n < 2147483648) (eqq : ws[kqq]? = some (qq, .inl (cqq, n, .inr (.inr (.inr (.inr fqq)))))) (uqq : tys[tqq]? = some (cqq, .object RX7)) (pqq : ∀ j v : Nat, fqq j = some v → oV ws tys v) : Met l yX8_gramsIn wsX8_gramsIn ({ frames := 1, cells := 0, slots := 0, locals := 21 }) (va_Pc [.ref qq, .int a2] (fun U => U.heap.size = sz ∧ va_P D vwCl ws U.heap ∧ va_K D vwCl tys U ∧ va_D (fun _ => True) ws)) (va_Qi (fun (r : Int32) (_ : Unit) => True) (fun (_ : Unit) (t : State) => ∃ (ws' : va_W) (tys' : List (ClassId × FieldType)), sm ρ [] ws ws' ∧ tyx tys tys' ∧ va_P D vwCl ws' t.heap ∧ va_K D vwCl tys' t ∧ va_D (va_A ws sz) ws' ∧ (True)) (va_A ws sz)) 0 0 (va_A ws sz) := by
  refine Met.ofW (cc := cX8_gramsIn) (maxL := 5) (ret := (some .int)) (by decide) rfl ?_
  intro p e s m args below meth c s₁ B hml hv
  obtain ⟨rfl, hsz, hP, hK, hD0⟩ := hv
  have hx := B.exec
  have hb := B.bytes
  have hr := B.returns
  have hts := atoms_spec (ws := wsX8_gramsIn) B.pre
  have hown : s.vm.findClass RX8 = some m.cls := findClass_of_methodNamed B.named
  have hlocks := B.notSynchronized
  subst hsz
  have hD := hD0.self (sz := s.heap.size)
  generalize hAe : va_A ws s.heap.size = A at hD ⊢
  have hA : ∀ q : Nat, s.heap.size ≤ q → A q := fun q h => by rw [← hAe]; exact Or.inr h
  have hS : va_S A s.heap s.heap [] := va_S.rf
  have hsm : sm ρ [] ws ws := sm.rf ws
  have htx : tyx tys tys := tyx.rf tys
  have hl := lv_entry ([.ref qq, .int a2]) (n := 5) (Nat.le_of_ble_eq_true rfl)
  rw [lg_entry_eq]
  generalize (lg_sl ([.ref qq, .int a2]) ++ List.replicate (5 - (lg_sl ([.ref qq, .int a2])).length) Slot.unset).toArray = ls at hl ⊢
  have hl : lv_has ls 5 [(0, .ref qq), (1, .int a2)] := hl
  refine lv_iconst (v := 0) hx hb dX8_gramsIn_0 (by decide) ?_
  refine lv_istore_n (lv' := [(2, .int 0), (0, .ref qq), (1, .int a2)]) hx hb dX8_gramsIn_1 rfl hl (by decide) rfl (fun ls hl => ?_)
  refine lv_iconst (v := 0) hx hb dX8_gramsIn_2 (by decide) ?_
  refine lv_istore_n (lv' := [(3, .int 0), (2, .int 0), (0, .ref qq), (1, .int a2)]) hx hb dX8_gramsIn_3 rfl hl (by decide) rfl (fun ls hl => ?_)
  refine lp_S (nL := 5) (N := n) (σ := Int32) (lv := fun i x_1 => [(3, .int (nI i)), (2, .int x_1), (0, .ref qq), (1, .int a2)]) (J := fun i9 x_1 => True) (fun i hi ih x_1 ls hj hl => ?_) 0 (by omega) 0 ls (trivial) (lv_sub hl [0, 1, 2, 3] rfl)
  have hl : lv_has ls 5 [(3, .int (nI i)), (2, .int x_1), (0, .ref qq), (1, .int a2)] := hl
  refine lv_iload_n hx hb dX8_gramsIn_4 rfl (lv_at hl 0 rfl) ?_
  refine lv_aload_n hx hb dX8_gramsIn_5 rfl (lv_at hl 2 rfl) ?_
  refine va_alen (v := nI n) hx hb hK hP kqq tqq eqq uqq rfl dX8_gramsIn_6 ?_
  refine lv_icmp_ge (tgt := 35) hx hb dX8_gramsIn_7 (by decide) (fun c_2 => ?_) (fun c_2 => ?_)
  · refine lv_iload_n hx hb dX8_gramsIn_35 rfl (lv_at hl 1 rfl) ?_
    exact W.iret (v := x_1) hx hb hr (fun t ht hW => ⟨⟨x_1, (), rfl, trivial, ws, tys, hsm, htx, by rw [ht]; exact hP, va_K.moved hW.alike hK, hD, trivial⟩, hS.F ht⟩) hS.2.2 dX8_gramsIn_36
  have hlt : i < n := i_lt_of hi (by omega) rfl c_2
  refine lv_aload_n hx hb dX8_gramsIn_10 rfl (lv_at hl 2 rfl) ?_
  refine lv_iload_n hx hb dX8_gramsIn_11 rfl (lv_at hl 0 rfl) ?_
  refine va_aldq (f := fqq) (n := n) hx hb hK hP kqq tqq eqq uqq (vp_in_nI hlt (by omega)) dX8_gramsIn_12 ?_
  obtain ⟨r_3, er_4⟩ : ∃ r, r = fqq (nI i).toNatClampNeg := ⟨_, rfl⟩
  refine tp_v (y := va_rf r_3) (by rw [er_4]) ?_
  have hz_7 : r_3 = none ∨ ∃ v, r_3 = some v ∧ oV ws tys v := by
    rcases r_3 with _ | v
    · exact Or.inl rfl
    · exact Or.inr ⟨v, rfl, pqq _ _ er_4.symm⟩
  rcases hz_7 with rfl | ⟨v_5, rfl, hv_6⟩
  · refine tp_v (y := .null) rfl ?_
    refine lv_astoreN (lv' := [(4, .null), (3, .int (nI i)), (2, .int x_1), (0, .ref qq), (1, .int a2)]) hx hb dX8_gramsIn_13 hl (by decide) rfl (fun ls hl => ?_)
    refine lv_aloadN hx hb dX8_gramsIn_15 (lv_at hl 0 rfl) ?_
    refine lv_ifnullN (tgt := 29) hx hb dX8_gramsIn_17 (by decide) ?_
    refine lv_iinc (v := nI (i + 1)) (lv' := [(3, .int (nI (i + 1))), (4, .null), (2, .int x_1), (0, .ref qq), (1, .int a2)]) hx hb dX8_gramsIn_29 hl (k := 1) rfl (nI_1 i) (by decide) rfl (fun ls hl => ?_)
    refine lv_goto (tgt := 4) hx hb dX8_gramsIn_32 (by decide) ?_
    exact ih hlt x_1 ls (trivial) (lv_sub hl [0, 2, 3, 4] rfl)
  obtain ⟨k_8, g_9, x_10, x_11, x_12, x_13, e_14, k_15, c9_16, t_17, f_18, e_19, u_20⟩ := hv_6.sm hsm htx
  refine tp_v (y := .ref v_5) rfl ?_
  refine lv_astore (lv' := [(4, .ref v_5), (3, .int (nI i)), (2, .int x_1), (0, .ref qq), (1, .int a2)]) hx hb dX8_gramsIn_13 hl (by decide) rfl (fun ls hl => ?_)
  refine lv_aload hx hb dX8_gramsIn_15 (lv_at hl 0 rfl) ?_
  refine lv_ifnull hx hb dX8_gramsIn_17 ?_
  refine lv_iload_n hx hb dX8_gramsIn_20 rfl (lv_at hl 2 rfl) ?_
  refine lv_aload hx hb dX8_gramsIn_21 (lv_at hl 0 rfl) ?_
  refine lv_iload_n hx hb dX8_gramsIn_23 rfl (lv_at hl 4 rfl) ?_
  refine vp_callSi (W.runV (As := [.int a2]) (rest := [.int x_1]) ⟨hx, hb, hml, hown, hts⟩ (s_gramsOf l D ws tys v_5 k_8 x_10 x_11 x_12 x_13 g_9 k_15 c9_16 t_17 f_18 a2 e_14 e_19 u_20) (cwV 1 hts gX8_gramsIn_X7_gramsOf rfl rfl rfl (by decide +kernel) ⟨Nat.le_of_ble_eq_true rfl, Nat.le_of_ble_eq_true rfl⟩) ⟨fun a U g mk q => ⟨q.1, q.2.1, va_K.moved (u := U) (U := U.calling g mk a) (Vm.Alike.refl U.vm) q.2.2⟩, va_recv hK hP (ci := 7) (q0 := k_8) rfl e_14, fun U hU hW => ⟨rfl, by rw [hU]; exact hP, va_K.moved hW.alike hK⟩⟩ rfl rfl hl.1 rfl (lv_room (Nat.le_of_ble_eq_true rfl)) dX8_gramsIn_24 ⟨Nat.le_of_ble_eq_true rfl, Nat.le_of_ble_eq_true rfl⟩) (fun r_21 k_22 => ?_)
  refine lv_iadd hx hb dX8_gramsIn_27 ?_
  refine lv_istore_n (lv' := [(2, .int (x_1 + r_21)), (4, .ref v_5), (3, .int (nI i)), (0, .ref qq), (1, .int a2)]) hx hb dX8_gramsIn_28 rfl hl (by decide) rfl (fun ls hl => ?_)
  refine lv_iinc (v := nI (i + 1)) (lv' := [(3, .int (nI (i + 1))), (2, .int (x_1 + r_21)), (4, .ref v_5), (0, .ref qq), (1, .int a2)]) hx hb dX8_gramsIn_29 hl (k := 2) rfl (nI_1 i) (by decide) rfl (fun ls hl => ?_)
  refine lv_goto (tgt := 4) hx hb dX8_gramsIn_32 (by decide) ?_
  exact ih hlt (x_1 + r_21) ls (trivial) (lv_sub hl [0, 1, 3, 4] rfl)
set_option maxHeartbeats 4000000 in
set_option maxRecDepth 100000 in
theorem a_whereabouts (l : Launch) (D : va_G) (ρ : Nat → Nat) (ws : va_W) (tys : List (ClassId × FieldType)) (fv : Nat → Nat → Int32) (h0 lc bc rc fc : Nat) (dn : Int32) (tl : Nat) (lt klt lo hi sx : Nat) (x0 x1 x2 x3 x7 x8 x9 : Int32) (a2 a3 : Int32) (sz : Nat) (X : XI ρ fv ws tys h0 lc bc rc fc dn tl) (elt : ws[klt]? = some (lt, .inr (2, [.int x0, .int x1, .int x2, .int x3, .ref lo, .ref hi, .ref sx, .int x7, .int x8, .int x9]))) : Met l yX8_whereabouts wsX8_whereabouts ({ frames := 2, cells := 0, slots := 0, locals := 45 }) (va_Pc [.ref h0, .ref lt, .int a2, .int a3] (fun U => U.heap.size = sz ∧ va_P D vwCl ws U.heap ∧ va_K D vwCl tys U ∧ va_D (fun _ => True) ws)) (va_Qi (fun (r : Int32) (_ : Unit) => True) (fun (_ : Unit) (t : State) => ∃ (ws' : va_W) (tys' : List (ClassId × FieldType)), sm ρ [] ws ws' ∧ tyx tys tys' ∧ va_P D vwCl ws' t.heap ∧ va_K D vwCl tys' t ∧ va_D (va_A ws sz) ws' ∧ (True)) (va_A ws sz)) 0 0 (va_A ws sz) := by
  refine Met.ofW (cc := cX8_whereabouts) (maxL := 6) (ret := (some .int)) (by decide) rfl ?_
  intro p e s m args below meth c s₁ B hml hv
  obtain ⟨rfl, hsz, hP, hK, hD0⟩ := hv
  have hx := B.exec
  have hb := B.bytes
  have hr := B.returns
  have hts := atoms_spec (ws := wsX8_whereabouts) B.pre
  have hown : s.vm.findClass RX8 = some m.cls := findClass_of_methodNamed B.named
  have hlocks := B.notSynchronized
  subst hsz
  have hD := hD0.self (sz := s.heap.size)
  generalize hAe : va_A ws s.heap.size = A at hD ⊢
  have hA : ∀ q : Nat, s.heap.size ≤ q → A q := fun q h => by rw [← hAe]; exact Or.inr h
  have hS : va_S A s.heap s.heap [] := va_S.rf
  have hsm : sm ρ [] ws ws := sm.rf ws
  have htx : tyx tys tys := tyx.rf tys
  have hin2 : ∀ w ∈ u_ws RX2 TX2 10, w ∈ wsX8_whereabouts := (fun _ h9 => List.mem_cons_of_mem _ (List.mem_append_left _ (List.mem_append_left _ ((List.mem_append_right _ h9)))))
  have hin8 : ∀ w ∈ u_ws RX8 TX8 15, w ∈ wsX8_whereabouts := (fun _ h9 => List.mem_cons_of_mem _ (List.mem_append_left _ ((List.mem_append_right _ h9))))
  have hl := lv_entry ([.ref h0, .ref lt, .int a2, .int a3]) (n := 6) (Nat.le_of_ble_eq_true rfl)
  rw [lg_entry_eq]
  generalize (lg_sl ([.ref h0, .ref lt, .int a2, .int a3]) ++ List.replicate (6 - (lg_sl ([.ref h0, .ref lt, .int a2, .int a3])).length) Slot.unset).toArray = ls at hl ⊢
  have hl : lv_has ls 6 [(0, .ref h0), (1, .ref lt), (2, .int a2), (3, .int a3)] := hl
  obtain ⟨k0, la, ta, ba, ra, sn, rd, dr, bl, vd, fb, e0, w0, hle0, hnum, qla, qta, qba, qra, qsn, qrd, qdr, qbl, qvd, qfb⟩ := id X
  obtain ⟨kta, cta, tta, fta, eta, uta, pta⟩ := id qta.q
  obtain ⟨kba, cba, tba, fba, eba, uba, pba⟩ := id qba.q
  refine lv_iload_n hx hb dX8_whereabouts_0 rfl (lv_at hl 3 rfl) ?_
  refine lv_if_ne (tgt := 9) hx hb dX8_whereabouts_1 (by decide) (fun c_1 => ?_) (fun c_1 => ?_)
  · refine lv_aload_n hx hb dX8_whereabouts_9 rfl (lv_at hl 0 rfl) ?_
    refine va_get (D := D) (ci := 8) (v := .ref ta) (C := RX8) (T := TX8) (N := 15) hx hb hts hin8 hown hK hP k0 e0 rfl 1 (by decide) (hts (.fieldLink RX8 17 "HoneyHouse" "tanks" "[LHoneyHouse$Vessel;") (List.mem_of_getElem? (i := 2) rfl)) (fun _ h9 => h9) rfl dX8_whereabouts_10 ?_
    refine lv_iload_n hx hb dX8_whereabouts_13 rfl (lv_at hl 2 rfl) ?_
    have hFc := free_all hD hS hA
    refine va_calli (va_runS (As := [.ref ta, .int a2]) (rest := []) ⟨hx, hb, hml, hown, hts⟩ (a_gramsIn l D ρ ws tys ta kta cta tta 10 fta a2 s.heap.size (by omega) eta uta (fun j v h => (pta j v h).sm hsm htx)) (va_cwS 2 hts gX8_whereabouts_X8_gramsIn rfl rfl rfl (by decide +kernel) ⟨Nat.le_of_ble_eq_true rfl, Nat.le_of_ble_eq_true rfl⟩) ⟨fun a U g mk q => by obtain ⟨q0, q1, qP, qK, qD⟩ := q; exact ⟨q0, q1, qP, va_K.moved (u := U) (U := U.calling g mk a) (Vm.Alike.refl U.vm) qK, qD⟩, fun U hU hW => ⟨rfl, by rw [hU], by rw [hU]; exact hP, va_K.moved hW.alike hK, hD.weaken (fun _ _ _ _ => trivial)⟩⟩ rfl rfl hl.1 rfl (lv_room (Nat.le_of_ble_eq_true rfl)) dX8_whereabouts_14 ⟨Nat.le_of_ble_eq_true rfl, Nat.le_of_ble_eq_true rfl⟩) hS (fun q _ h => hFc q h) hFc (fun r_2 u t H1 locs ht hvm w_3 hB hz1 hk1 hS => ?_)
    obtain ⟨ws_4, ty_5, hm_6, ht_8, hP1, hK1, hD1, hx_7⟩ := hB
    rw [ht] at hP1
    have hK := va_K.moved hvm.symm hK1
    have hD := hD1.weaken (fun _ _ _ h => hFc _ h)
    generalize H1 = H at hP1 hS ⊢
    have hP := hP1
    have e_9 := hm_6.objK e0 (by decide)
    have e_10 := hm_6.arrQ eta
    have u_11 := ht_8 _ _ uta
    have e_12 := hm_6.arrQ eba
    have u_13 := ht_8 _ _ uba
    have e_14 := hm_6.objK elt (by decide)
    have hsm := hsm.tr (hm_6.mono (by decide))
    have htx := htx.tr ht_8
    refine lv_istore (lv' := [(4, .int r_2), (0, .ref h0), (1, .ref lt), (2, .int a2), (3, .int a3)]) hx hb dX8_whereabouts_17 hl (by decide) rfl (fun ls hl => ?_)
    refine lv_aload_n hx hb dX8_whereabouts_19 rfl (lv_at hl 1 rfl) ?_
    refine va_get (D := D) (ci := 8) (v := .ref ba) (C := RX8) (T := TX8) (N := 15) hx hb hts hin8 hown hK hP k0 e_9 rfl 2 (by decide) (hts (.fieldLink RX8 21 "HoneyHouse" "batches" "[LHoneyHouse$Vessel;") (List.mem_of_getElem? (i := 3) rfl)) (fun _ h9 => h9) rfl dX8_whereabouts_20 ?_
    refine lv_iload_n hx hb dX8_whereabouts_23 rfl (lv_at hl 3 rfl) ?_
    have hFc := free_all hD hS hA
    refine va_calli (va_runS (As := [.ref ba, .int a2]) (rest := []) ⟨hx, hb, hml, hown, hts⟩ (a_gramsIn l D ρ ws_4 ty_5 ba kba cba tba 60 fba a2 H.size (by omega) e_12 u_13 (fun j v h => (pba j v h).sm hsm htx)) (va_cwS 2 hts gX8_whereabouts_X8_gramsIn rfl rfl rfl (by decide +kernel) ⟨Nat.le_of_ble_eq_true rfl, Nat.le_of_ble_eq_true rfl⟩) ⟨fun a U g mk q => by obtain ⟨q0, q1, qP, qK, qD⟩ := q; exact ⟨q0, q1, qP, va_K.moved (u := U) (U := U.calling g mk a) (Vm.Alike.refl U.vm) qK, qD⟩, fun U hU hW => ⟨rfl, by rw [hU], by rw [hU]; exact hP, va_K.moved hW.alike hK, hD.weaken (fun _ _ _ _ => trivial)⟩⟩ rfl rfl hl.1 rfl (lv_room (Nat.le_of_ble_eq_true rfl)) dX8_whereabouts_24 ⟨Nat.le_of_ble_eq_true rfl, Nat.le_of_ble_eq_true rfl⟩) hS (fun q _ h => hFc q h) hFc (fun r_15 u t H1 locs ht hvm w_16 hB hz1 hk1 hS => ?_)
    obtain ⟨ws_17, ty_18, hm_19, ht_21, hP1, hK1, hD1, hx_20⟩ := hB
    rw [ht] at hP1
    have hK := va_K.moved hvm.symm hK1
    have hD := hD1.weaken (fun _ _ _ h => hFc _ h)
    generalize H1 = H at hP1 hS ⊢
    have hP := hP1
    have e_22 := hm_19.objK e_9 (by decide)
    have e_23 := hm_19.arrQ e_10
    have u_24 := ht_21 _ _ u_11
    have e_25 := hm_19.arrQ e_12
    have u_26 := ht_21 _ _ u_13
    have e_27 := hm_19.objK e_14 (by decide)
    have hsm := hsm.tr (hm_19.mono (by decide))
    have htx := htx.tr ht_21
    refine lv_istore (lv' := [(5, .int r_15), (4, .int r_2), (0, .ref h0), (1, .ref lt), (2, .int a2), (3, .int a3)]) hx hb dX8_whereabouts_27 hl (by decide) rfl (fun ls hl => ?_)
    refine lv_iload_n hx hb dX8_whereabouts_29 rfl (lv_at hl 5 rfl) ?_
    refine lv_iconst (v := 1) hx hb dX8_whereabouts_30 (by decide) ?_
    refine lv_icmp_ne (tgt := 37) hx hb dX8_whereabouts_31 (by decide) (fun c_28 => ?_) (fun c_28 => ?_)
    · refine lv_iload_n hx hb dX8_whereabouts_37 rfl (lv_at hl 5 rfl) ?_
      refine lv_iconst (v := 2) hx hb dX8_whereabouts_38 (by decide) ?_
      refine lv_icmp_ne (tgt := 47) hx hb dX8_whereabouts_39 (by decide) (fun c_29 => ?_) (fun c_29 => ?_)
      · refine lv_aload_n hx hb dX8_whereabouts_47 rfl (lv_at hl 3 rfl) ?_
        refine va_get (D := D) (ci := 2) (v := .int x1) (C := RX2) (T := TX2) (N := 10) hx hb hts hin2 hown hK hP klt e_27 rfl 1 (by decide) (hts (.fieldLink RX8 120 "HoneyHouse$Lot" "grams" "I") (List.mem_of_getElem? (i := 4) rfl)) (fun _ h9 => h9) rfl dX8_whereabouts_48 ?_
        refine lv_aload_n hx hb dX8_whereabouts_51 rfl (lv_at hl 3 rfl) ?_
        refine va_get (D := D) (ci := 2) (v := .int x8) (C := RX2) (T := TX2) (N := 10) hx hb hts hin2 hown hK hP klt e_27 rfl 8 (by decide) (hts (.fieldLink RX8 136 "HoneyHouse$Lot" "left" "I") (List.mem_of_getElem? (i := 1) rfl)) (fun _ h9 => h9) rfl dX8_whereabouts_52 ?_
        refine lv_isub hx hb dX8_whereabouts_55 ?_
        refine lv_iload hx hb dX8_whereabouts_56 (lv_at hl 1 rfl) ?_
        refine lv_isub hx hb dX8_whereabouts_58 ?_
        refine lv_iload hx hb dX8_whereabouts_59 (lv_at hl 0 rfl) ?_
        refine lv_isub hx hb dX8_whereabouts_61 ?_
        exact W.iret (v := ((x1 - x8) - r_2) - r_15) hx hb hr (fun t ht hW => ⟨⟨((x1 - x8) - r_2) - r_15, (), rfl, trivial, ws_17, ty_18, hsm, htx, by rw [ht]; exact hP, va_K.moved hW.alike hK, hD, trivial⟩, hS.F ht⟩) hS.2.2 dX8_whereabouts_62
      refine lv_iload hx hb dX8_whereabouts_42 (lv_at hl 0 rfl) ?_
      refine lv_goto (tgt := 62) hx hb dX8_whereabouts_44 (by decide) ?_
      exact W.iret (v := r_15) hx hb hr (fun t ht hW => ⟨⟨r_15, (), rfl, trivial, ws_17, ty_18, hsm, htx, by rw [ht]; exact hP, va_K.moved hW.alike hK, hD, trivial⟩, hS.F ht⟩) hS.2.2 dX8_whereabouts_62
    refine lv_iload hx hb dX8_whereabouts_34 (lv_at hl 1 rfl) ?_
    exact W.iret (v := r_2) hx hb hr (fun t ht hW => ⟨⟨r_2, (), rfl, trivial, ws_17, ty_18, hsm, htx, by rw [ht]; exact hP, va_K.moved hW.alike hK, hD, trivial⟩, hS.F ht⟩) hS.2.2 dX8_whereabouts_36
  refine lv_aload_n hx hb dX8_whereabouts_4 rfl (lv_at hl 1 rfl) ?_
  refine va_get (D := D) (ci := 2) (v := .int x8) (C := RX2) (T := TX2) (N := 10) hx hb hts hin2 hown hK hP klt elt rfl 8 (by decide) (hts (.fieldLink RX8 136 "HoneyHouse$Lot" "left" "I") (List.mem_of_getElem? (i := 1) rfl)) (fun _ h9 => h9) rfl dX8_whereabouts_5 ?_
  exact W.iret (v := x8) hx hb hr (fun t ht hW => ⟨⟨x8, (), rfl, trivial, ws, tys, hsm, htx, by rw [ht]; exact hP, va_K.moved hW.alike hK, hD, trivial⟩, hS.F ht⟩) hS.2.2 dX8_whereabouts_8
