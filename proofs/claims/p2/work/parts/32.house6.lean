theorem dX8_sumWith_0 : decode cX8_sumWith 0 = .ok (.iconst 0, 1) := by decide +kernel
theorem dX8_sumWith_1 : decode cX8_sumWith 1 = .ok (.istore_n 3, 1) := by decide +kernel
theorem dX8_sumWith_2 : decode cX8_sumWith 2 = .ok (.iconst 0, 1) := by decide +kernel
theorem dX8_sumWith_3 : decode cX8_sumWith 3 = .ok (.istore 4, 2) := by decide +kernel
theorem dX8_sumWith_5 : decode cX8_sumWith 5 = .ok (.iload 4, 2) := by decide +kernel
theorem dX8_sumWith_7 : decode cX8_sumWith 7 = .ok (.aload_n 0, 1) := by decide +kernel
theorem dX8_sumWith_8 : decode cX8_sumWith 8 = .ok (.arraylength, 1) := by decide +kernel
theorem dX8_sumWith_9 : decode cX8_sumWith 9 = .ok (.if_icmp .ge 26, 3) := by decide +kernel
theorem dX8_sumWith_12 : decode cX8_sumWith 12 = .ok (.iload_n 3, 1) := by decide +kernel
theorem dX8_sumWith_13 : decode cX8_sumWith 13 = .ok (.iload 4, 2) := by decide +kernel
theorem dX8_sumWith_15 : decode cX8_sumWith 15 = .ok (.iload_n 1, 1) := by decide +kernel
theorem dX8_sumWith_16 : decode cX8_sumWith 16 = .ok (.if_icmp .ne 7, 3) := by decide +kernel
theorem dX8_sumWith_19 : decode cX8_sumWith 19 = .ok (.iload_n 2, 1) := by decide +kernel
theorem dX8_sumWith_20 : decode cX8_sumWith 20 = .ok (.goto 7, 3) := by decide +kernel
theorem dX8_sumWith_23 : decode cX8_sumWith 23 = .ok (.aload_n 0, 1) := by decide +kernel
theorem dX8_sumWith_24 : decode cX8_sumWith 24 = .ok (.iload 4, 2) := by decide +kernel
theorem dX8_sumWith_26 : decode cX8_sumWith 26 = .ok (.iaload, 1) := by decide +kernel
theorem dX8_sumWith_27 : decode cX8_sumWith 27 = .ok (.iadd, 1) := by decide +kernel
theorem dX8_sumWith_28 : decode cX8_sumWith 28 = .ok (.istore_n 3, 1) := by decide +kernel
theorem dX8_sumWith_29 : decode cX8_sumWith 29 = .ok (.iinc 4 1, 3) := by decide +kernel
theorem dX8_sumWith_32 : decode cX8_sumWith 32 = .ok (.goto (-27), 3) := by decide +kernel
theorem dX8_sumWith_35 : decode cX8_sumWith 35 = .ok (.iload_n 3, 1) := by decide +kernel
theorem dX8_sumWith_36 : decode cX8_sumWith 36 = .ok (.ireturn, 1) := by decide +kernel
theorem dX8_pollen_0 : decode cX8_pollen 0 = .ok (.aload_n 0, 1) := by decide +kernel
theorem dX8_pollen_1 : decode cX8_pollen 1 = .ok (.iload_n 1, 1) := by decide +kernel
theorem dX8_pollen_2 : decode cX8_pollen 2 = .ok (.invokevirtual 96, 3) := by decide +kernel
theorem dX8_pollen_5 : decode cX8_pollen 5 = .ok (.astore 5, 2) := by decide +kernel
theorem dX8_pollen_7 : decode cX8_pollen 7 = .ok (.aload 5, 2) := by decide +kernel
theorem dX8_pollen_9 : decode cX8_pollen 9 = .ok (.ifnull 12, 3) := by decide +kernel
theorem dX8_pollen_12 : decode cX8_pollen 12 = .ok (.iload_n 2, 1) := by decide +kernel
theorem dX8_pollen_13 : decode cX8_pollen 13 = .ok (.iconst 0, 1) := by decide +kernel
theorem dX8_pollen_14 : decode cX8_pollen 14 = .ok (.iconst 4, 1) := by decide +kernel
theorem dX8_pollen_15 : decode cX8_pollen 15 = .ok (.invokestatic 85, 3) := by decide +kernel
theorem dX8_pollen_18 : decode cX8_pollen 18 = .ok (.ifCond .ne 5, 3) := by decide +kernel
theorem dX8_pollen_21 : decode cX8_pollen 21 = .ok (.iconst 0, 1) := by decide +kernel
theorem dX8_pollen_22 : decode cX8_pollen 22 = .ok (.ireturn, 1) := by decide +kernel
theorem dX8_pollen_23 : decode cX8_pollen 23 = .ok (.iload_n 3, 1) := by decide +kernel
theorem dX8_pollen_24 : decode cX8_pollen 24 = .ok (.ifCond .lt 17, 3) := by decide +kernel
theorem dX8_pollen_27 : decode cX8_pollen 27 = .ok (.iload 4, 2) := by decide +kernel
theorem dX8_pollen_29 : decode cX8_pollen 29 = .ok (.sipush 1000, 3) := by decide +kernel
theorem dX8_pollen_32 : decode cX8_pollen 32 = .ok (.if_icmp .gt 9, 3) := by decide +kernel
theorem dX8_pollen_35 : decode cX8_pollen 35 = .ok (.iload_n 3, 1) := by decide +kernel
theorem dX8_pollen_36 : decode cX8_pollen 36 = .ok (.iload 4, 2) := by decide +kernel
theorem dX8_pollen_38 : decode cX8_pollen 38 = .ok (.if_icmp .le 5, 3) := by decide +kernel
theorem dX8_pollen_41 : decode cX8_pollen 41 = .ok (.iconst 0, 1) := by decide +kernel
theorem dX8_pollen_42 : decode cX8_pollen 42 = .ok (.ireturn, 1) := by decide +kernel
theorem dX8_pollen_43 : decode cX8_pollen 43 = .ok (.aload 5, 2) := by decide +kernel
theorem dX8_pollen_45 : decode cX8_pollen 45 = .ok (.getfield 100, 3) := by decide +kernel
theorem dX8_pollen_48 : decode cX8_pollen 48 = .ok (.iload_n 2, 1) := by decide +kernel
theorem dX8_pollen_49 : decode cX8_pollen 49 = .ok (.iload_n 3, 1) := by decide +kernel
theorem dX8_pollen_50 : decode cX8_pollen 50 = .ok (.invokestatic 103, 3) := by decide +kernel
theorem dX8_pollen_53 : decode cX8_pollen 53 = .ok (.sipush 1000, 3) := by decide +kernel
theorem dX8_pollen_56 : decode cX8_pollen 56 = .ok (.if_icmp .gt 20, 3) := by decide +kernel
theorem dX8_pollen_59 : decode cX8_pollen 59 = .ok (.aload 5, 2) := by decide +kernel
theorem dX8_pollen_61 : decode cX8_pollen 61 = .ok (.getfield 107, 3) := by decide +kernel
theorem dX8_pollen_64 : decode cX8_pollen 64 = .ok (.iload_n 2, 1) := by decide +kernel
theorem dX8_pollen_65 : decode cX8_pollen 65 = .ok (.iload 4, 2) := by decide +kernel
theorem dX8_pollen_67 : decode cX8_pollen 67 = .ok (.invokestatic 103, 3) := by decide +kernel
theorem dX8_pollen_70 : decode cX8_pollen 70 = .ok (.sipush 1000, 3) := by decide +kernel
theorem dX8_pollen_73 : decode cX8_pollen 73 = .ok (.if_icmp .ge 5, 3) := by decide +kernel
theorem dX8_pollen_76 : decode cX8_pollen 76 = .ok (.iconst 0, 1) := by decide +kernel
theorem dX8_pollen_77 : decode cX8_pollen 77 = .ok (.ireturn, 1) := by decide +kernel
theorem dX8_pollen_78 : decode cX8_pollen 78 = .ok (.aload 5, 2) := by decide +kernel
theorem dX8_pollen_80 : decode cX8_pollen 80 = .ok (.getfield 100, 3) := by decide +kernel
theorem dX8_pollen_83 : decode cX8_pollen 83 = .ok (.iload_n 2, 1) := by decide +kernel
theorem dX8_pollen_84 : decode cX8_pollen 84 = .ok (.iload_n 3, 1) := by decide +kernel
theorem dX8_pollen_85 : decode cX8_pollen 85 = .ok (.iastore, 1) := by decide +kernel
theorem dX8_pollen_86 : decode cX8_pollen 86 = .ok (.aload 5, 2) := by decide +kernel
theorem dX8_pollen_88 : decode cX8_pollen 88 = .ok (.getfield 107, 3) := by decide +kernel
theorem dX8_pollen_91 : decode cX8_pollen 91 = .ok (.iload_n 2, 1) := by decide +kernel
theorem dX8_pollen_92 : decode cX8_pollen 92 = .ok (.iload 4, 2) := by decide +kernel
theorem dX8_pollen_94 : decode cX8_pollen 94 = .ok (.iastore, 1) := by decide +kernel
theorem dX8_pollen_95 : decode cX8_pollen 95 = .ok (.iconst 1, 1) := by decide +kernel
theorem dX8_pollen_96 : decode cX8_pollen 96 = .ok (.ireturn, 1) := by decide +kernel
set_option maxRecDepth 20000 in
theorem ggX8_pollen_X8_lotAt : GoodIn wsX8_pollen wsX8_lotAt := goodIn_r _ [7, 8, 9, 10, 6, 11, 25, 26, 27, 28, 29, 30, 31, 32, 33, 34, 35, 36, 37, 38, 39] (by decide +kernel) (by decide +kernel)
set_option maxRecDepth 20000 in
theorem gX8_pollen_X8_lotAt : GoodIn wsX8_pollen (wsV RX8 96 RX8 yX8_lotAt wsX8_lotAt) := goodIn_app (goodIn_of _ (by decide +kernel)) ggX8_pollen_X8_lotAt
set_option maxRecDepth 20000 in
theorem ggX8_pollen_X8_isIn : GoodIn wsX8_pollen wsX8_isIn := goodIn_r _ [11] (by decide +kernel) (by decide +kernel)
set_option maxRecDepth 20000 in
theorem gX8_pollen_X8_isIn : GoodIn wsX8_pollen (va_wsS RX8 85 yX8_isIn wsX8_isIn) := goodIn_app (goodIn_of _ (by decide +kernel)) ggX8_pollen_X8_isIn
set_option maxRecDepth 20000 in
theorem ggX8_pollen_X8_sumWith : GoodIn wsX8_pollen wsX8_sumWith := goodIn_r _ [14] (by decide +kernel) (by decide +kernel)
set_option maxRecDepth 20000 in
theorem gX8_pollen_X8_sumWith : GoodIn wsX8_pollen (va_wsS RX8 103 yX8_sumWith wsX8_sumWith) := goodIn_app (goodIn_of _ (by decide +kernel)) ggX8_pollen_X8_sumWith
set_option maxHeartbeats 4000000 in
set_option maxRecDepth 100000 in
theorem s_sumWith (l : Launch) (D : va_G) (ws : va_W) (tys : List (ClassId × FieldType)) (a ka : Nat) (ca : ClassId) (ta : Nat) (f : Nat → Int32) (a1 a2 : Int32) (ea : ws[ka]? = some (a, .inl (ca, 5, .inl f))) (ua : tys[ta]? = some (ca, .int)) : Met l yX8_sumWith wsX8_sumWith ({ frames := 0, cells := 0, slots := 0, locals := 0 }) (va_Pc [.ref a, .int a1, .int a2] (fun U => va_P D vwCl ws U.heap ∧ va_K D vwCl tys U)) (vp_Si (fun r => True)) 0 0 (fun _ => False) := by
  refine Met.ofW (cc := cX8_sumWith) (maxL := 5) (ret := (some .int)) (by decide) rfl ?_
  intro p e s m args below meth c s₁ B hml hv
  obtain ⟨rfl, hP, hK⟩ := hv
  have hx := B.exec
  have hb := B.bytes
  have hr := B.returns
  have hts := atoms_spec (ws := wsX8_sumWith) B.pre
  have hown : s.vm.findClass RX8 = some m.cls := findClass_of_methodNamed B.named
  have hlocks := B.notSynchronized
  have hl := lv_entry ([.ref a, .int a1, .int a2]) (n := 5) (Nat.le_of_ble_eq_true rfl)
  rw [lg_entry_eq]
  generalize (lg_sl ([.ref a, .int a1, .int a2]) ++ List.replicate (5 - (lg_sl ([.ref a, .int a1, .int a2])).length) Slot.unset).toArray = ls at hl ⊢
  have hl : lv_has ls 5 [(0, .ref a), (1, .int a1), (2, .int a2)] := hl
  refine lv_iconst (v := 0) hx hb dX8_sumWith_0 (by decide) ?_
  refine lv_istore_n (lv' := [(3, .int 0), (0, .ref a), (1, .int a1), (2, .int a2)]) hx hb dX8_sumWith_1 rfl hl (by decide) rfl (fun ls hl => ?_)
  refine lv_iconst (v := 0) hx hb dX8_sumWith_2 (by decide) ?_
  refine lv_istore (lv' := [(4, .int 0), (3, .int 0), (0, .ref a), (1, .int a1), (2, .int a2)]) hx hb dX8_sumWith_3 hl (by decide) rfl (fun ls hl => ?_)
  refine lp_S (nL := 5) (N := 5) (σ := Int32) (lv := fun i x_1 => [(4, .int (nI i)), (3, .int x_1), (0, .ref a), (1, .int a1), (2, .int a2)]) (J := fun _ x_1 => True) (fun i hi ih x_1 ls hj hl => ?_) 0 (by omega) 0 ls (trivial) (lv_sub hl [0, 1, 2, 3, 4] rfl)
  have hl : lv_has ls 5 [(4, .int (nI i)), (3, .int x_1), (0, .ref a), (1, .int a1), (2, .int a2)] := hl
  refine lv_iload hx hb dX8_sumWith_5 (lv_at hl 0 rfl) ?_
  refine lv_aload_n hx hb dX8_sumWith_7 rfl (lv_at hl 2 rfl) ?_
  refine va_alen (v := 5) hx hb hK hP ka ta ea ua rfl dX8_sumWith_8 ?_
  refine lv_icmp_ge (tgt := 35) hx hb dX8_sumWith_9 (by decide) (fun c_2 => ?_) (fun c_2 => ?_)
  · refine lv_iload_n hx hb dX8_sumWith_35 rfl (lv_at hl 1 rfl) ?_
    exact W.iret (v := x_1) hx hb hr (fun t ht hW => ⟨x_1, rfl, trivial, ht⟩) (fun _ h9 => by cases h9) dX8_sumWith_36
  have hlt : i < 5 := i_lt_of hi (by omega) rfl c_2
  refine lv_iload_n hx hb dX8_sumWith_12 rfl (lv_at hl 1 rfl) ?_
  refine lv_iload hx hb dX8_sumWith_13 (lv_at hl 0 rfl) ?_
  refine lv_iload_n hx hb dX8_sumWith_15 rfl (lv_at hl 3 rfl) ?_
  refine lv_icmp_ne (tgt := 23) hx hb dX8_sumWith_16 (by decide) (fun c_3 => ?_) (fun c_3 => ?_)
  · refine lv_aload_n hx hb dX8_sumWith_23 rfl (lv_at hl 2 rfl) ?_
    refine lv_iload hx hb dX8_sumWith_24 (lv_at hl 0 rfl) ?_
    refine va_iald (f := f) (n := 5) hx hb hK hP ka ta ea ua (vp_in_nI hlt (by omega)) dX8_sumWith_26 ?_
    refine lv_iadd hx hb dX8_sumWith_27 ?_
    refine lv_istore_n (lv' := [(3, .int (x_1 + (f (nI i).toNatClampNeg))), (4, .int (nI i)), (0, .ref a), (1, .int a1), (2, .int a2)]) hx hb dX8_sumWith_28 rfl hl (by decide) rfl (fun ls hl => ?_)
    refine lv_iinc (v := nI (i + 1)) (lv' := [(4, .int (nI (i + 1))), (3, .int (x_1 + (f (nI i).toNatClampNeg))), (0, .ref a), (1, .int a1), (2, .int a2)]) hx hb dX8_sumWith_29 hl (k := 1) rfl (nI_1 i) (by decide) rfl (fun ls hl => ?_)
    refine lv_goto (tgt := 5) hx hb dX8_sumWith_32 (by decide) ?_
    exact ih hlt (x_1 + (f (nI i).toNatClampNeg)) ls (trivial) (lv_sub hl [0, 1, 2, 3, 4] rfl)
  refine lv_iload_n hx hb dX8_sumWith_19 rfl (lv_at hl 4 rfl) ?_
  refine lv_goto (tgt := 27) hx hb dX8_sumWith_20 (by decide) ?_
  refine lv_iadd hx hb dX8_sumWith_27 ?_
  refine lv_istore_n (lv' := [(3, .int (x_1 + a2)), (4, .int (nI i)), (0, .ref a), (1, .int a1), (2, .int a2)]) hx hb dX8_sumWith_28 rfl hl (by decide) rfl (fun ls hl => ?_)
  refine lv_iinc (v := nI (i + 1)) (lv' := [(4, .int (nI (i + 1))), (3, .int (x_1 + a2)), (0, .ref a), (1, .int a1), (2, .int a2)]) hx hb dX8_sumWith_29 hl (k := 1) rfl (nI_1 i) (by decide) rfl (fun ls hl => ?_)
  refine lv_goto (tgt := 5) hx hb dX8_sumWith_32 (by decide) ?_
  exact ih hlt (x_1 + a2) ls (trivial) (lv_sub hl [0, 1, 2, 3, 4] rfl)
set_option maxHeartbeats 4000000 in
set_option maxRecDepth 100000 in
theorem h_pollen (l : Launch) (D : va_G) (ws : va_W) (tys : List (ClassId × FieldType)) (h0 lc bc rc fc : Nat) (dn : Int32) (tl : Nat) (a1 a2 a3 a4 : Int32) (sz : Nat) (X : XI ws tys h0 lc bc rc fc dn tl) : Met l yX8_pollen wsX8_pollen ({ frames := 2, cells := 0, slots := 0, locals := 43 }) (va_Pc [.ref h0, .int a1, .int a2, .int a3, .int a4] (fun U => U.heap.size = sz ∧ va_P D vwCl ws U.heap ∧ va_K D vwCl tys U ∧ va_D (fun _ => True) ws)) (va_Qi (fun (r : Int32) (_ : Unit) => True) (fun (_ : Unit) (t : State) => ∃ (ws' : va_W) (tys' : List (ClassId × FieldType)), sm [] ws ws' ∧ tyx tys tys' ∧ va_P D vwCl ws' t.heap ∧ va_K D vwCl tys' t ∧ va_D (va_A ws sz) ws' ∧ XI ws' tys' h0 lc bc rc fc dn tl) (va_A ws sz)) 0 0 (va_A ws sz) := by
  refine Met.ofW (cc := cX8_pollen) (maxL := 6) (ret := (some .boolean)) (by decide) rfl ?_
  intro p e s m args below meth c s₁ B hml hv
  obtain ⟨rfl, hsz, hP, hK, hD0⟩ := hv
  have hx := B.exec
  have hb := B.bytes
  have hr := B.returns
  have hts := atoms_spec (ws := wsX8_pollen) B.pre
  have hown : s.vm.findClass RX8 = some m.cls := findClass_of_methodNamed B.named
  have hlocks := B.notSynchronized
  subst hsz
  have hD := hD0.self (sz := s.heap.size)
  generalize hAe : va_A ws s.heap.size = A at hD ⊢
  have hA : ∀ q : Nat, s.heap.size ≤ q → A q := fun q h => by rw [← hAe]; exact Or.inr h
  have hS : va_S A s.heap s.heap [] := va_S.rf
  have hsm : sm [] ws ws := sm.rf ws
  have htx : tyx tys tys := tyx.rf tys
  have hin2 : ∀ w ∈ u_ws RX2 TX2 10, w ∈ wsX8_pollen := (fun _ h9 => List.mem_cons_of_mem _ (List.mem_append_left _ ((List.mem_append_right _ h9))))
  have hl := lv_entry ([.ref h0, .int a1, .int a2, .int a3, .int a4]) (n := 6) (Nat.le_of_ble_eq_true rfl)
  rw [lg_entry_eq]
  generalize (lg_sl ([.ref h0, .int a1, .int a2, .int a3, .int a4]) ++ List.replicate (6 - (lg_sl ([.ref h0, .int a1, .int a2, .int a3, .int a4])).length) Slot.unset).toArray = ls at hl ⊢
  have hl : lv_has ls 6 [(0, .ref h0), (1, .int a1), (2, .int a2), (3, .int a3), (4, .int a4)] := hl
  obtain ⟨k0, la, ta, ba, ra, sn, rd, dr, bl, vd, fb, e0, hnum, qla, qta, qba, qra, qsn, qrd, qdr, qbl, qvd, qfb⟩ := id X
  obtain ⟨kla, cla, tla, fla, ela, ula, pla⟩ := id qla
  refine lv_aload_n hx hb dX8_pollen_0 rfl (lv_at hl 0 rfl) ?_
  refine lv_iload_n hx hb dX8_pollen_1 rfl (lv_at hl 1 rfl) ?_
  refine va_csq (W.runV (As := [.int a1]) (rest := []) ⟨hx, hb, hml, hown, hts⟩ (s_X8_lotAt l D ws tys h0 k0 _ la kla cla fla tla a1 e0 rfl ela ula) (cwV 1 hts gX8_pollen_X8_lotAt rfl rfl rfl (by decide +kernel) ⟨Nat.le_of_ble_eq_true rfl, Nat.le_of_ble_eq_true rfl⟩) ⟨fun a U g mk q => ⟨q.1, q.2.1, va_K.moved (u := U) (U := U.calling g mk a) (Vm.Alike.refl U.vm) q.2.2⟩, va_recv hK hP (ci := 8) (q0 := k0) rfl e0, fun U hU hW => ⟨rfl, by rw [hU]; exact hP, va_K.moved hW.alike hK⟩⟩ rfl rfl hl.1 rfl (lv_room (Nat.le_of_ble_eq_true rfl)) dX8_pollen_2 ⟨Nat.le_of_ble_eq_true rfl, Nat.le_of_ble_eq_true rfl⟩) (fun r_1 k_2 => ?_)
  have hz_5 : r_1 = none ∨ ∃ v, r_1 = some v ∧ oL ws tys v := by
    rcases k_2 with ⟨q, -⟩ | ⟨-, -, q⟩
    · exact Or.inl q
    · rcases r_1 with _ | v
      · exact Or.inl rfl
      · exact Or.inr ⟨v, rfl, pla _ _ q.symm⟩
  rcases hz_5 with rfl | ⟨v_3, rfl, hv_4⟩
  · refine tp_v (y := .null) rfl ?_
    refine lv_astoreN (lv' := [(5, .null), (0, .ref h0), (1, .int a1), (2, .int a2), (3, .int a3), (4, .int a4)]) hx hb dX8_pollen_5 hl (by decide) rfl (fun ls hl => ?_)
    refine lv_aloadN hx hb dX8_pollen_7 (lv_at hl 0 rfl) ?_
    refine lv_ifnullN (tgt := 21) hx hb dX8_pollen_9 (by decide) ?_
    refine lv_iconst (v := 0) hx hb dX8_pollen_21 (by decide) ?_
    exact W.zret (v := 0) hx hb hr rfl (fun t ht hW => ⟨⟨0, (), rfl, trivial, ws, tys, hsm, htx, by rw [ht]; exact hP, va_K.moved hW.alike hK, hD, X.sm hsm htx (by decide) (by decide)⟩, hS.F ht⟩) hS.2.2 dX8_pollen_22
  obtain ⟨k_7, g_8, g_9, g_10, x_11, x_12, x_13, x_14, x_15, x_16, x_17, e_18, ⟨k_19, c9_20, t_21, f_22, e_23, u_24⟩, ⟨k_25, c9_26, t_27, f_28, e_29, u_30⟩, k_31, g_32, g_33, e_34, ⟨k_35, c9_36, t_37, f_38, e_39, u_40⟩, k_41, c9_42, t_43, f_44, e_45, u_46⟩ := hv_4.sm hsm htx
  refine tp_v (y := .ref v_3) rfl ?_
  refine lv_astore (lv' := [(5, .ref v_3), (0, .ref h0), (1, .int a1), (2, .int a2), (3, .int a3), (4, .int a4)]) hx hb dX8_pollen_5 hl (by decide) rfl (fun ls hl => ?_)
  refine lv_aload hx hb dX8_pollen_7 (lv_at hl 0 rfl) ?_
  refine lv_ifnull hx hb dX8_pollen_9 ?_
  refine lv_iload_n hx hb dX8_pollen_12 rfl (lv_at hl 3 rfl) ?_
  refine lv_iconst (v := 0) hx hb dX8_pollen_13 (by decide) ?_
  refine lv_iconst (v := 4) hx hb dX8_pollen_14 (by decide) ?_
  refine vp_callSi (W.runS (As := [.int a2, .int 0, .int 4]) (rest := []) ⟨hx, hb, hml, hown, hts⟩ (s_X8_isIn l a2 0 4) (va_cwS 3 hts gX8_pollen_X8_isIn rfl rfl rfl (by decide +kernel) ⟨Nat.le_of_ble_eq_true rfl, Nat.le_of_ble_eq_true rfl⟩) ⟨fun a U g mk q => q, fun U hU hW => ⟨rfl, trivial⟩⟩ rfl rfl hl.1 rfl (lv_room (Nat.le_of_ble_eq_true rfl)) dX8_pollen_15 ⟨Nat.le_of_ble_eq_true rfl, Nat.le_of_ble_eq_true rfl⟩) (fun r_47 k_48 => ?_)
  rcases k_48 with ⟨rfl, a_49o⟩ | ⟨rfl, a_49, b_50⟩
  · refine lv_if_ne (tgt := 23) hx hb dX8_pollen_18 (by decide) (fun c_51 => absurd (by decide) c_51) (fun c_51 => ?_)
    refine lv_iconst (v := 0) hx hb dX8_pollen_21 (by decide) ?_
    exact W.zret (v := 0) hx hb hr rfl (fun t ht hW => ⟨⟨0, (), rfl, trivial, ws, tys, hsm, htx, by rw [ht]; exact hP, va_K.moved hW.alike hK, hD, X.sm hsm htx (by decide) (by decide)⟩, hS.F ht⟩) hS.2.2 dX8_pollen_22
  refine lv_if_ne (tgt := 23) hx hb dX8_pollen_18 (by decide) (fun c_52 => ?_) (fun c_52 => absurd c_52 (by decide))
  refine lv_iload_n hx hb dX8_pollen_23 rfl (lv_at hl 4 rfl) ?_
  refine lv_if_lt (tgt := 41) hx hb dX8_pollen_24 (by decide) (fun c_53 => ?_) (fun c_53 => ?_)
  · refine lv_iconst (v := 0) hx hb dX8_pollen_41 (by decide) ?_
    exact W.zret (v := 0) hx hb hr rfl (fun t ht hW => ⟨⟨0, (), rfl, trivial, ws, tys, hsm, htx, by rw [ht]; exact hP, va_K.moved hW.alike hK, hD, X.sm hsm htx (by decide) (by decide)⟩, hS.F ht⟩) hS.2.2 dX8_pollen_42
  refine lv_iload hx hb dX8_pollen_27 (lv_at hl 5 rfl) ?_
  refine lv_sipush (v := 1000) hx hb dX8_pollen_29 (by decide) ?_
  refine lv_icmp_gt (tgt := 41) hx hb dX8_pollen_32 (by decide) (fun c_54 => ?_) (fun c_54 => ?_)
  · refine lv_iconst (v := 0) hx hb dX8_pollen_41 (by decide) ?_
    exact W.zret (v := 0) hx hb hr rfl (fun t ht hW => ⟨⟨0, (), rfl, trivial, ws, tys, hsm, htx, by rw [ht]; exact hP, va_K.moved hW.alike hK, hD, X.sm hsm htx (by decide) (by decide)⟩, hS.F ht⟩) hS.2.2 dX8_pollen_42
  refine lv_iload_n hx hb dX8_pollen_35 rfl (lv_at hl 4 rfl) ?_
  refine lv_iload hx hb dX8_pollen_36 (lv_at hl 5 rfl) ?_
  refine lv_icmp_le (tgt := 43) hx hb dX8_pollen_38 (by decide) (fun c_55 => ?_) (fun c_55 => ?_)
  · refine lv_aload hx hb dX8_pollen_43 (lv_at hl 0 rfl) ?_
    refine va_get (D := D) (ci := 2) (v := .ref g_8) (C := RX2) (T := TX2) (N := 10) hx hb hts hin2 hown hK hP k_7 e_18 rfl 4 (by decide) (hts (.fieldLink RX8 100 "HoneyHouse$Lot" "low" "[I") (List.mem_of_getElem? (i := 1) rfl)) (fun _ h9 => h9) rfl dX8_pollen_45 ?_
    refine lv_iload_n hx hb dX8_pollen_48 rfl (lv_at hl 3 rfl) ?_
    refine lv_iload_n hx hb dX8_pollen_49 rfl (lv_at hl 4 rfl) ?_
    refine vp_callSi (W.runS (As := [.ref g_8, .int a2, .int a3]) (rest := []) ⟨hx, hb, hml, hown, hts⟩ (s_sumWith l D ws tys g_8 k_19 c9_20 t_21 f_22 a2 a3 e_23 u_24) (va_cwS 3 hts gX8_pollen_X8_sumWith rfl rfl rfl (by decide +kernel) ⟨Nat.le_of_ble_eq_true rfl, Nat.le_of_ble_eq_true rfl⟩) ⟨fun a U g mk q => ⟨q.1, q.2.1, va_K.moved (u := U) (U := U.calling g mk a) (Vm.Alike.refl U.vm) q.2.2⟩, fun U hU hW => ⟨rfl, by rw [hU]; exact hP, va_K.moved hW.alike hK⟩⟩ rfl rfl hl.1 rfl (lv_room (Nat.le_of_ble_eq_true rfl)) dX8_pollen_50 ⟨Nat.le_of_ble_eq_true rfl, Nat.le_of_ble_eq_true rfl⟩) (fun r_56 k_57 => ?_)
    refine lv_sipush (v := 1000) hx hb dX8_pollen_53 (by decide) ?_
    refine lv_icmp_gt (tgt := 76) hx hb dX8_pollen_56 (by decide) (fun c_58 => ?_) (fun c_58 => ?_)
    · refine lv_iconst (v := 0) hx hb dX8_pollen_76 (by decide) ?_
      exact W.zret (v := 0) hx hb hr rfl (fun t ht hW => ⟨⟨0, (), rfl, trivial, ws, tys, hsm, htx, by rw [ht]; exact hP, va_K.moved hW.alike hK, hD, X.sm hsm htx (by decide) (by decide)⟩, hS.F ht⟩) hS.2.2 dX8_pollen_77
    refine lv_aload hx hb dX8_pollen_59 (lv_at hl 0 rfl) ?_
    refine va_get (D := D) (ci := 2) (v := .ref g_9) (C := RX2) (T := TX2) (N := 10) hx hb hts hin2 hown hK hP k_7 e_18 rfl 5 (by decide) (hts (.fieldLink RX8 107 "HoneyHouse$Lot" "high" "[I") (List.mem_of_getElem? (i := 2) rfl)) (fun _ h9 => h9) rfl dX8_pollen_61 ?_
    refine lv_iload_n hx hb dX8_pollen_64 rfl (lv_at hl 3 rfl) ?_
    refine lv_iload hx hb dX8_pollen_65 (lv_at hl 5 rfl) ?_
    refine vp_callSi (W.runS (As := [.ref g_9, .int a2, .int a4]) (rest := []) ⟨hx, hb, hml, hown, hts⟩ (s_sumWith l D ws tys g_9 k_25 c9_26 t_27 f_28 a2 a4 e_29 u_30) (va_cwS 3 hts gX8_pollen_X8_sumWith rfl rfl rfl (by decide +kernel) ⟨Nat.le_of_ble_eq_true rfl, Nat.le_of_ble_eq_true rfl⟩) ⟨fun a U g mk q => ⟨q.1, q.2.1, va_K.moved (u := U) (U := U.calling g mk a) (Vm.Alike.refl U.vm) q.2.2⟩, fun U hU hW => ⟨rfl, by rw [hU]; exact hP, va_K.moved hW.alike hK⟩⟩ rfl rfl hl.1 rfl (lv_room (Nat.le_of_ble_eq_true rfl)) dX8_pollen_67 ⟨Nat.le_of_ble_eq_true rfl, Nat.le_of_ble_eq_true rfl⟩) (fun r_59 k_60 => ?_)
    refine lv_sipush (v := 1000) hx hb dX8_pollen_70 (by decide) ?_
    refine lv_icmp_ge (tgt := 78) hx hb dX8_pollen_73 (by decide) (fun c_61 => ?_) (fun c_61 => ?_)
    · refine lv_aload hx hb dX8_pollen_78 (lv_at hl 0 rfl) ?_
      refine va_get (D := D) (ci := 2) (v := .ref g_8) (C := RX2) (T := TX2) (N := 10) hx hb hts hin2 hown hK hP k_7 e_18 rfl 4 (by decide) (hts (.fieldLink RX8 100 "HoneyHouse$Lot" "low" "[I") (List.mem_of_getElem? (i := 1) rfl)) (fun _ h9 => h9) rfl dX8_pollen_80 ?_
      refine lv_iload_n hx hb dX8_pollen_83 rfl (lv_at hl 3 rfl) ?_
      refine lv_iload_n hx hb dX8_pollen_84 rfl (lv_at hl 4 rfl) ?_
      refine va_iast (f := f_22) (n := 5) hx hb hK hP hD hS k_19 t_21 e_23 u_24 (i_in a_49 b_50 (by decide)) dX8_pollen_85 (fun H locs hP hD hS => ?_)
      have hm_63 : sm [] ws (ws.set k_19 (g_8, .inl (c9_20, 5, .inl (upd f_22 a2.toNatClampNeg a3)))) := sm.ints e_23
      have e_64 : (ws.set k_19 (g_8, .inl (c9_20, 5, .inl (upd f_22 a2.toNatClampNeg a3))))[k_19]? = some (g_8, .inl (c9_20, 5, .inl (upd f_22 a2.toNatClampNeg a3))) := wset_self e_23
      generalize ws.set k_19 (g_8, .inl (c9_20, 5, .inl (upd f_22 a2.toNatClampNeg a3))) = ws_62 at hP hD hm_63 e_64
      have e_65 := hm_63.objK e0 (by decide)
      have e_66 := hm_63.arrQ ela
      have e_67 := hm_63.objK e_18 (by decide)
      obtain ⟨f_69, e_68⟩ := hm_63.arrI e_29
      have e_70 := hm_63.objK e_34 (by decide)
      obtain ⟨f_72, e_71⟩ := hm_63.arrI e_39
      obtain ⟨f_74, e_73⟩ := hm_63.arrI e_45
      have hsm := hsm.tr (hm_63.mono (fun _ h9 => absurd h9 List.not_mem_nil))
      generalize upd f_22 a2.toNatClampNeg a3 = f_75 at e_64
      refine lv_aload hx hb dX8_pollen_86 (lv_at hl 0 rfl) ?_
      refine va_get (D := D) (ci := 2) (v := .ref g_9) (C := RX2) (T := TX2) (N := 10) hx hb hts hin2 hown hK hP k_7 e_67 rfl 5 (by decide) (hts (.fieldLink RX8 107 "HoneyHouse$Lot" "high" "[I") (List.mem_of_getElem? (i := 2) rfl)) (fun _ h9 => h9) rfl dX8_pollen_88 ?_
      refine lv_iload_n hx hb dX8_pollen_91 rfl (lv_at hl 3 rfl) ?_
      refine lv_iload hx hb dX8_pollen_92 (lv_at hl 5 rfl) ?_
      refine va_iast (f := f_69) (n := 5) hx hb hK hP hD hS k_25 t_27 e_68 u_30 (i_in a_49 b_50 (by decide)) dX8_pollen_94 (fun H locs hP hD hS => ?_)
      have hm_77 : sm [] ws_62 (ws_62.set k_25 (g_9, .inl (c9_26, 5, .inl (upd f_69 a2.toNatClampNeg a4)))) := sm.ints e_68
      have e_78 : (ws_62.set k_25 (g_9, .inl (c9_26, 5, .inl (upd f_69 a2.toNatClampNeg a4))))[k_25]? = some (g_9, .inl (c9_26, 5, .inl (upd f_69 a2.toNatClampNeg a4))) := wset_self e_68
      generalize ws_62.set k_25 (g_9, .inl (c9_26, 5, .inl (upd f_69 a2.toNatClampNeg a4))) = ws_76 at hP hD hm_77 e_78
      have e_79 := hm_77.objK e_65 (by decide)
      have e_80 := hm_77.arrQ e_66
      have e_81 := hm_77.objK e_67 (by decide)
      obtain ⟨f_83, e_82⟩ := hm_77.arrI e_64
      have e_84 := hm_77.objK e_70 (by decide)
      obtain ⟨f_86, e_85⟩ := hm_77.arrI e_71
      obtain ⟨f_88, e_87⟩ := hm_77.arrI e_73
      have hsm := hsm.tr (hm_77.mono (fun _ h9 => absurd h9 List.not_mem_nil))
      generalize upd f_69 a2.toNatClampNeg a4 = f_89 at e_78
      refine lv_iconst (v := 1) hx hb dX8_pollen_95 (by decide) ?_
      exact W.zret (v := 1) hx hb hr rfl (fun t ht hW => ⟨⟨1, (), rfl, trivial, ws_76, tys, hsm, htx, by rw [ht]; exact hP, va_K.moved hW.alike hK, hD, X.sm hsm htx (by decide) (by decide)⟩, hS.F ht⟩) hS.2.2 dX8_pollen_96
    refine lv_iconst (v := 0) hx hb dX8_pollen_76 (by decide) ?_
    exact W.zret (v := 0) hx hb hr rfl (fun t ht hW => ⟨⟨0, (), rfl, trivial, ws, tys, hsm, htx, by rw [ht]; exact hP, va_K.moved hW.alike hK, hD, X.sm hsm htx (by decide) (by decide)⟩, hS.F ht⟩) hS.2.2 dX8_pollen_77
  refine lv_iconst (v := 0) hx hb dX8_pollen_41 (by decide) ?_
  exact W.zret (v := 0) hx hb hr rfl (fun t ht hW => ⟨⟨0, (), rfl, trivial, ws, tys, hsm, htx, by rw [ht]; exact hP, va_K.moved hW.alike hK, hD, X.sm hsm htx (by decide) (by decide)⟩, hS.F ht⟩) hS.2.2 dX8_pollen_42
