theorem dX8_whose_0 : decode cX8_whose 0 = .ok (.iload_n 1, 1) := by decide +kernel
theorem dX8_whose_1 : decode cX8_whose 1 = .ok (.iconst 0, 1) := by decide +kernel
theorem dX8_whose_2 : decode cX8_whose 2 = .ok (.bipush 9, 2) := by decide +kernel
theorem dX8_whose_4 : decode cX8_whose 4 = .ok (.invokestatic 85, 3) := by decide +kernel
theorem dX8_whose_7 : decode cX8_whose 7 = .ok (.ifCond .eq 12, 3) := by decide +kernel
theorem dX8_whose_10 : decode cX8_whose 10 = .ok (.iload_n 2, 1) := by decide +kernel
theorem dX8_whose_11 : decode cX8_whose 11 = .ok (.iconst 0, 1) := by decide +kernel
theorem dX8_whose_12 : decode cX8_whose 12 = .ok (.iconst 3, 1) := by decide +kernel
theorem dX8_whose_13 : decode cX8_whose 13 = .ok (.invokestatic 85, 3) := by decide +kernel
theorem dX8_whose_16 : decode cX8_whose 16 = .ok (.ifCond .ne 7, 3) := by decide +kernel
theorem dX8_whose_19 : decode cX8_whose 19 = .ok (.ldc2_w 246, 3) := by decide +kernel
theorem dX8_whose_22 : decode cX8_whose 22 = .ok (.lreturn, 1) := by decide +kernel
theorem dX8_whose_23 : decode cX8_whose 23 = .ok (.lconst 0, 1) := by decide +kernel
theorem dX8_whose_24 : decode cX8_whose 24 = .ok (.lstore_n 3, 1) := by decide +kernel
theorem dX8_whose_25 : decode cX8_whose 25 = .ok (.iconst 0, 1) := by decide +kernel
theorem dX8_whose_26 : decode cX8_whose 26 = .ok (.istore 5, 2) := by decide +kernel
theorem dX8_whose_28 : decode cX8_whose 28 = .ok (.iload 5, 2) := by decide +kernel
theorem dX8_whose_30 : decode cX8_whose 30 = .ok (.aload_n 0, 1) := by decide +kernel
theorem dX8_whose_31 : decode cX8_whose 31 = .ok (.getfield 11, 3) := by decide +kernel
theorem dX8_whose_34 : decode cX8_whose 34 = .ok (.arraylength, 1) := by decide +kernel
theorem dX8_whose_35 : decode cX8_whose 35 = .ok (.if_icmp .ge 45, 3) := by decide +kernel
theorem dX8_whose_38 : decode cX8_whose 38 = .ok (.aload_n 0, 1) := by decide +kernel
theorem dX8_whose_39 : decode cX8_whose 39 = .ok (.getfield 11, 3) := by decide +kernel
theorem dX8_whose_42 : decode cX8_whose 42 = .ok (.iload 5, 2) := by decide +kernel
theorem dX8_whose_44 : decode cX8_whose 44 = .ok (.aaload, 1) := by decide +kernel
theorem dX8_whose_45 : decode cX8_whose 45 = .ok (.astore 6, 2) := by decide +kernel
theorem dX8_whose_47 : decode cX8_whose 47 = .ok (.aload 6, 2) := by decide +kernel
theorem dX8_whose_49 : decode cX8_whose 49 = .ok (.ifnull 25, 3) := by decide +kernel
theorem dX8_whose_52 : decode cX8_whose 52 = .ok (.aload 6, 2) := by decide +kernel
theorem dX8_whose_54 : decode cX8_whose 54 = .ok (.getfield 127, 3) := by decide +kernel
theorem dX8_whose_57 : decode cX8_whose 57 = .ok (.iload_n 1, 1) := by decide +kernel
theorem dX8_whose_58 : decode cX8_whose 58 = .ok (.if_icmp .ne 16, 3) := by decide +kernel
theorem dX8_whose_61 : decode cX8_whose 61 = .ok (.lload_n 3, 1) := by decide +kernel
theorem dX8_whose_62 : decode cX8_whose 62 = .ok (.aload_n 0, 1) := by decide +kernel
theorem dX8_whose_63 : decode cX8_whose 63 = .ok (.aload 6, 2) := by decide +kernel
theorem dX8_whose_65 : decode cX8_whose 65 = .ok (.iload 5, 2) := by decide +kernel
theorem dX8_whose_67 : decode cX8_whose 67 = .ok (.iload_n 2, 1) := by decide +kernel
theorem dX8_whose_68 : decode cX8_whose 68 = .ok (.invokevirtual 275, 3) := by decide +kernel
theorem dX8_whose_71 : decode cX8_whose 71 = .ok (.i2l, 1) := by decide +kernel
theorem dX8_whose_72 : decode cX8_whose 72 = .ok (.ladd, 1) := by decide +kernel
theorem dX8_whose_73 : decode cX8_whose 73 = .ok (.lstore_n 3, 1) := by decide +kernel
theorem dX8_whose_74 : decode cX8_whose 74 = .ok (.iinc 5 1, 3) := by decide +kernel
theorem dX8_whose_77 : decode cX8_whose 77 = .ok (.goto (-49), 3) := by decide +kernel
theorem dX8_whose_80 : decode cX8_whose 80 = .ok (.lload_n 3, 1) := by decide +kernel
theorem dX8_whose_81 : decode cX8_whose 81 = .ok (.lreturn, 1) := by decide +kernel
set_option maxRecDepth 20000 in
theorem ggX8_whose_X8_isIn : GoodIn wsX8_whose wsX8_isIn := goodIn_r _ [7] rfl (by decide +kernel)
set_option maxRecDepth 20000 in
theorem gX8_whose_X8_isIn : GoodIn wsX8_whose (va_wsS RX8 85 yX8_isIn wsX8_isIn) := goodIn_app (goodIn_of _ (by decide +kernel)) ggX8_whose_X8_isIn
set_option maxRecDepth 20000 in
theorem ggX8_whose_X8_whereabouts : GoodIn wsX8_whose wsX8_whereabouts := goodIn_r _ [11, 12, 13, 14, 15, 16, 17, 6, 18, 19, 20, 21, 22, 23, 24, 40, 41, 42, 43, 44, 45, 46, 47, 48, 49, 25, 26, 27, 28, 29, 30, 31, 32, 33, 34, 35, 36, 37, 38, 39, 50, 51, 52, 53, 54] rfl (by decide +kernel)
set_option maxRecDepth 20000 in
theorem gX8_whose_X8_whereabouts : GoodIn wsX8_whose (wsV RX8 275 RX8 yX8_whereabouts wsX8_whereabouts) := goodIn_app (goodIn_of _ (by decide +kernel)) ggX8_whose_X8_whereabouts
set_option maxHeartbeats 4000000 in
set_option maxRecDepth 100000 in
theorem a_gramsInX (l : Launch) (D : va_G) (ρ : Nat → Nat) (ws : va_W) (tys : List (ClassId × FieldType)) (fv : Nat → Nat → Int32) (qq kqq : Nat) (cqq : ClassId) (tqq n b m9 u9 : Nat) (fqq : Nat → Option Nat) (sz : Nat) (hn : n ≤ 60) (hb9 : b ≤ 10) (hu : u9 < 40) (eqq : ws[kqq]? = some (qq, .inl (cqq, n, .inr (.inr (.inr (.inr fqq)))))) (uqq : tys[tqq]? = some (cqq, .object RX7)) (hq0 : ∀ j : Nat, m9 ≤ j → fqq j = none) (hq1 : ∀ j : Nat, j < m9 → ∃ v : Nat, fqq j = some v ∧ VES ρ fv ws tys v (b + j)) : Met l yX8_gramsIn wsX8_gramsIn ({ frames := 1, cells := 0, slots := 0, locals := 21 }) (va_Pc [.ref qq, .int (nI u9)] (fun U => U.heap.size = sz ∧ va_P D vwCl ws U.heap ∧ va_K D vwCl tys U ∧ va_D (fun _ => True) ws)) (va_Qi (fun (r : Int32) (_ : Unit) => r = gIn fv b m9 u9 n) (fun (_ : Unit) (t : State) => ∃ (ws' : va_W) (tys' : List (ClassId × FieldType)), sm ρ [] ws ws' ∧ tyx tys tys' ∧ va_P D vwCl ws' t.heap ∧ va_K D vwCl tys' t ∧ va_D (va_A ws sz) ws' ∧ (True)) (va_A ws sz)) 0 0 (va_A ws sz) := by
  refine Met.ofW (cc := cX8_gramsIn) (maxL := 5) (ret := (some .int)) (by decide) rfl ?_
  intro p e s m args below meth c s₁ B hml hv
  obtain ⟨rfl, hsz, hP, hK, hD0⟩ := hv
  have hx := B.exec
  have hb := B.bytes
  have hr := B.returns
  have hts := atoms_spec (ws := wsX8_gramsIn) B.pre
  have hown : s.vm.findClass RX8 = some m.cls := findClass_of_methodNamed B.named
  have hlocks := B.notSynchronized
  subst hsz
  have hD := hD0.self (sz := s.heap.size)
  generalize hAe : va_A ws s.heap.size = A at hD ⊢
  have hA : ∀ q : Nat, s.heap.size ≤ q → A q := fun q h => by rw [← hAe]; exact Or.inr h
  have hS : va_S A s.heap s.heap [] := va_S.rf
  have hsm : sm ρ [] ws ws := sm.rf ws
  have htx : tyx tys tys := tyx.rf tys
  have hl := lv_entry ([.ref qq, .int (nI u9)]) (n := 5) (Nat.le_of_ble_eq_true rfl)
  rw [lg_entry_eq]
  generalize (lg_sl ([.ref qq, .int (nI u9)]) ++ List.replicate (5 - (lg_sl ([.ref qq, .int (nI u9)])).length) Slot.unset).toArray = ls at hl ⊢
  have hl : lv_has ls 5 [(0, .ref qq), (1, .int (nI u9))] := hl
  refine lv_iconst (v := 0) hx hb dX8_gramsIn_0 (by decide) ?_
  refine lv_istore_n (lv' := [(2, .int 0), (0, .ref qq), (1, .int (nI u9))]) hx hb dX8_gramsIn_1 rfl hl (by decide) rfl (fun ls hl => ?_)
  refine lv_iconst (v := 0) hx hb dX8_gramsIn_2 (by decide) ?_
  refine lv_istore_n (lv' := [(3, .int 0), (2, .int 0), (0, .ref qq), (1, .int (nI u9))]) hx hb dX8_gramsIn_3 rfl hl (by decide) rfl (fun ls hl => ?_)
  refine lp_V (nL := 5) (σ := Nat × Int32) (lv := fun x9 => [(3, .int (nI x9.1)), (2, .int x9.2), (1, .int (nI u9)), (0, .ref qq)]) (μ := fun x9 => n - x9.1) (J := fun x9 ws9 => sm ρ [] ws ws9 ∧ (x9.1 ≤ n) ∧ (x9.2 = gIn fv b m9 u9 x9.1)) (fun x9 ws_6 H locs ls hj hP hD hS hl ih_1 => ?_) (0, 0) ws _ _ ls ⟨sm.rf _, (show 0 ≤ n from by omega), (show 0 = gIn fv b m9 u9 0 from rfl)⟩ hP hD hS (lv_sub hl [0, 1, 3, 2] rfl)
  obtain ⟨i_2, x_3⟩ := x9
  replace hj : sm ρ [] ws ws_6 ∧ (i_2 ≤ n) ∧ (x_3 = gIn fv b m9 u9 i_2) := hj
  obtain ⟨hm_7, hi_4, hs_5⟩ := hj
  have e_9 := hm_7.arrQ eqq
  have hsm := hsm.tr (hm_7.mono (by decide))
  have hlp_8 := hm_7
  have hl : lv_has ls 5 [(3, .int (nI i_2)), (2, .int x_3), (1, .int (nI u9)), (0, .ref qq)] := hl
  refine lv_iload_n hx hb dX8_gramsIn_4 rfl (lv_at hl 0 rfl) ?_
  refine lv_aload_n hx hb dX8_gramsIn_5 rfl (lv_at hl 3 rfl) ?_
  refine va_alen (v := nI n) hx hb hK hP kqq tqq e_9 uqq rfl dX8_gramsIn_6 ?_
  refine lv_icmp_ge (tgt := 35) hx hb dX8_gramsIn_7 (by decide) (fun c_10 => ?_) (fun c_10 => ?_)
  · have d_11 := n_le (a := n) (b := i_2) (by omega) (by omega) c_10
    refine lv_iload_n hx hb dX8_gramsIn_35 rfl (lv_at hl 1 rfl) ?_
    exact W.iret (v := x_3) hx hb hr (fun t ht hW => ⟨⟨x_3, (), rfl, (by rw [hs_5, show i_2 = n by omega]), ws_6, tys, hsm, htx, by rw [ht]; exact hP, va_K.moved hW.alike hK, hD, trivial⟩, hS.F ht⟩) hS.2.2 dX8_gramsIn_36
  have d_12 := n_nle (a := n) (b := i_2) (by omega) (by omega) c_10
  refine lv_aload_n hx hb dX8_gramsIn_10 rfl (lv_at hl 3 rfl) ?_
  refine lv_iload_n hx hb dX8_gramsIn_11 rfl (lv_at hl 0 rfl) ?_
  refine va_aldq (f := fqq) (n := n) hx hb hK hP kqq tqq e_9 uqq (vp_in_nI (n := i_2) (by omega) (by omega)) dX8_gramsIn_12 ?_
  obtain ⟨r_13, er_14⟩ : ∃ r, r = fqq (nI i_2).toNatClampNeg := ⟨_, rfl⟩
  refine tp_v (y := va_rf r_13) (by rw [er_14]) ?_
  rw [nI_clamp (n := i_2) (by omega)] at er_14
  rcases Nat.lt_or_ge i_2 m9 with hl_19 | hn_20
  · obtain ⟨v_15, ev_16, hV_17⟩ := hq1 i_2 hl_19
    rw [ev_16] at er_14
    subst er_14
    have hV_18 := hV_17.sm hsm htx (fun k _ h1 h2 => by omega)
    obtain ⟨k_21, g_22, e_23, wk_24, k_25, c9_26, t_27, f_28, e_29, u_30, wr_31, g_32⟩ := hV_18
    refine tp_v (y := .ref v_15) rfl ?_
    refine lv_astore (lv' := [(4, .ref v_15), (3, .int (nI i_2)), (2, .int x_3), (1, .int (nI u9)), (0, .ref qq)]) hx hb dX8_gramsIn_13 hl (by decide) rfl (fun ls hl => ?_)
    refine lv_aload hx hb dX8_gramsIn_15 (lv_at hl 0 rfl) ?_
    refine lv_ifnull hx hb dX8_gramsIn_17 ?_
    refine lv_iload_n hx hb dX8_gramsIn_20 rfl (lv_at hl 2 rfl) ?_
    refine lv_aload hx hb dX8_gramsIn_21 (lv_at hl 0 rfl) ?_
    refine lv_iload_n hx hb dX8_gramsIn_23 rfl (lv_at hl 3 rfl) ?_
    refine vp_callSi (W.runV (As := [.int (nI u9)]) (rest := [.int x_3]) ⟨hx, hb, hml, hown, hts⟩ (s_gramsOf l D ws_6 tys v_15 k_21 (mall (fv 9) (b + i_2) 40) (fv 10 (b + i_2)) (fv 11 (b + i_2)) (fv 12 (b + i_2)) g_22 k_25 c9_26 t_27 f_28 (nI u9) e_23 e_29 u_30) (cwV 1 hts gX8_gramsIn_X7_gramsOf rfl rfl rfl (by decide +kernel) ⟨Nat.le_of_ble_eq_true rfl, Nat.le_of_ble_eq_true rfl⟩) ⟨fun a U g mk q => ⟨q.1, q.2.1, va_K.moved (u := U) (U := U.calling g mk a) (Vm.Alike.refl U.vm) q.2.2⟩, va_recv hK hP (ci := 7) (q0 := k_21) rfl e_23, fun U hU hW => ⟨rfl, by rw [hU]; exact hP, va_K.moved hW.alike hK⟩⟩ rfl rfl hl.1 rfl (lv_room (Nat.le_of_ble_eq_true rfl)) dX8_gramsIn_24 ⟨Nat.le_of_ble_eq_true rfl, Nat.le_of_ble_eq_true rfl⟩) (fun r_33 k_34 => ?_)
    obtain rfl : r_33 = f_28 u9 := by rcases k_34 with ⟨-, h9 | h9⟩ | ⟨-, -, h9⟩; exact absurd h9 (nI_pos (by omega)); exact absurd h9 (show ¬ (40 : Int32) ≤ _ from nI_ge (a := u9) (b := 40) (by omega) (by omega)); rw [h9, nI_clamp (n := u9) (by omega)]
    refine lv_iadd hx hb dX8_gramsIn_27 ?_
    refine lv_istore_n (lv' := [(2, .int (x_3 + (f_28 u9))), (4, .ref v_15), (3, .int (nI i_2)), (1, .int (nI u9)), (0, .ref qq)]) hx hb dX8_gramsIn_28 rfl hl (by decide) rfl (fun ls hl => ?_)
    refine lv_iinc (v := nI (i_2 + 1)) (lv' := [(3, .int (nI (i_2 + 1))), (2, .int (x_3 + (f_28 u9))), (4, .ref v_15), (1, .int (nI u9)), (0, .ref qq)]) hx hb dX8_gramsIn_29 hl (k := 2) rfl (nI_add i_2 1) (by decide) rfl (fun ls hl => ?_)
    refine lv_goto (tgt := 4) hx hb dX8_gramsIn_32 (by decide) ?_
    exact ih_1 (i_2 + 1, x_3 + (f_28 u9)) ws_6 _ _ ls (by show n - (i_2 + 1) < n - i_2; omega) ⟨hlp_8, (show (i_2 + 1) ≤ n from by omega), (show (x_3 + (f_28 u9)) = gIn fv b m9 u9 (i_2 + 1) from (by rw [gIn, if_pos (by omega), hs_5, g_32 u9 hu]))⟩ hP hD hS (lv_sub hl [0, 1, 3, 4] rfl)
  rw [hq0 i_2 hn_20] at er_14
  subst er_14
  refine tp_v (y := .null) rfl ?_
  refine lv_astoreN (lv' := [(4, .null), (3, .int (nI i_2)), (2, .int x_3), (1, .int (nI u9)), (0, .ref qq)]) hx hb dX8_gramsIn_13 hl (by decide) rfl (fun ls hl => ?_)
  refine lv_aloadN hx hb dX8_gramsIn_15 (lv_at hl 0 rfl) ?_
  refine lv_ifnullN (tgt := 29) hx hb dX8_gramsIn_17 (by decide) ?_
  refine lv_iinc (v := nI (i_2 + 1)) (lv' := [(3, .int (nI (i_2 + 1))), (4, .null), (2, .int x_3), (1, .int (nI u9)), (0, .ref qq)]) hx hb dX8_gramsIn_29 hl (k := 1) rfl (nI_add i_2 1) (by decide) rfl (fun ls hl => ?_)
  refine lv_goto (tgt := 4) hx hb dX8_gramsIn_32 (by decide) ?_
  exact ih_1 (i_2 + 1, x_3) ws_6 _ _ ls (by show n - (i_2 + 1) < n - i_2; omega) ⟨hlp_8, (show (i_2 + 1) ≤ n from by omega), (show x_3 = gIn fv b m9 u9 (i_2 + 1) from (by rw [gIn, if_neg (by omega), hs_5]))⟩ hP hD hS (lv_sub hl [0, 2, 3, 4] rfl)
set_option maxHeartbeats 4000000 in
set_option maxRecDepth 100000 in
theorem a_whereaboutsX (l : Launch) (D : va_G) (ρ : Nat → Nat) (ws : va_W) (tys : List (ClassId × FieldType)) (fv : Nat → Nat → Int32) (h0 lc bc rc fc : Nat) (dn : Int32) (tl : Nat) (lt klt lo hi sx u9 : Nat) (a3 : Int32) (sz : Nat) (X : XI ρ fv ws tys h0 lc bc rc fc dn tl) (hu : u9 < 40) (elt : ws[klt]? = some (lt, .inr (2, [.int (fv 4 (7 * u9)), .int (fv 4 (7 * u9 + 1)), .int (fv 4 (7 * u9 + 3)), .int (fv 4 (7 * u9 + 4)), .ref lo, .ref hi, .ref sx, .int (fv 4 (7 * u9 + 2)), .int (fv 4 (7 * u9 + 5)), .int (fv 4 (7 * u9 + 6))]))) : Met l yX8_whereabouts wsX8_whereabouts ({ frames := 2, cells := 0, slots := 0, locals := 45 }) (va_Pc [.ref h0, .ref lt, .int (nI u9), .int a3] (fun U => U.heap.size = sz ∧ va_P D vwCl ws U.heap ∧ va_K D vwCl tys U ∧ va_D (fun _ => True) ws)) (va_Qi (fun (r : Int32) (_ : Unit) => r = wbI fv bc u9 a3) (fun (_ : Unit) (t : State) => ∃ (ws' : va_W) (tys' : List (ClassId × FieldType)), sm ρ [] ws ws' ∧ tyx tys tys' ∧ va_P D vwCl ws' t.heap ∧ va_K D vwCl tys' t ∧ va_D (va_A ws sz) ws' ∧ (True)) (va_A ws sz)) 0 0 (va_A ws sz) := by
  refine Met.ofW (cc := cX8_whereabouts) (maxL := 6) (ret := (some .int)) (by decide) rfl ?_
  intro p e s m args below meth c s₁ B hml hv
  obtain ⟨rfl, hsz, hP, hK, hD0⟩ := hv
  have hx := B.exec
  have hb := B.bytes
  have hr := B.returns
  have hts := atoms_spec (ws := wsX8_whereabouts) B.pre
  have hown : s.vm.findClass RX8 = some m.cls := findClass_of_methodNamed B.named
  have hlocks := B.notSynchronized
  subst hsz
  have hD := hD0.self (sz := s.heap.size)
  generalize hAe : va_A ws s.heap.size = A at hD ⊢
  have hA : ∀ q : Nat, s.heap.size ≤ q → A q := fun q h => by rw [← hAe]; exact Or.inr h
  have hS : va_S A s.heap s.heap [] := va_S.rf
  have hsm : sm ρ [] ws ws := sm.rf ws
  have htx : tyx tys tys := tyx.rf tys
  have hin2 : ∀ w ∈ u_ws RX2 TX2 10, w ∈ wsX8_whereabouts := (fun _ h9 => List.mem_cons_of_mem _ (List.mem_append_left _ (List.mem_append_left _ ((List.mem_append_right _ h9)))))
  have hin8 : ∀ w ∈ u_ws RX8 TX8 15, w ∈ wsX8_whereabouts := (fun _ h9 => List.mem_cons_of_mem _ (List.mem_append_left _ ((List.mem_append_right _ h9))))
  have hl := lv_entry ([.ref h0, .ref lt, .int (nI u9), .int a3]) (n := 6) (Nat.le_of_ble_eq_true rfl)
  rw [lg_entry_eq]
  generalize (lg_sl ([.ref h0, .ref lt, .int (nI u9), .int a3]) ++ List.replicate (6 - (lg_sl ([.ref h0, .ref lt, .int (nI u9), .int a3])).length) Slot.unset).toArray = ls at hl ⊢
  have hl : lv_has ls 6 [(0, .ref h0), (1, .ref lt), (2, .int (nI u9)), (3, .int a3)] := hl
  obtain ⟨k0, la, ta, ba, ra, sn, rd, dr, bl, vd, fb, e0, w0, hle0, hnum, qla, qta, qba, qra, qsn, qrd, qdr, qbl, qvd, qfb⟩ := id X
  obtain ⟨kta, cta, tta, fta, eta, uta, hta0, hta1⟩ := id qta
  obtain ⟨kba, cba, tba, fba, eba, uba, hba0, hba1⟩ := id qba
  have hbc := hnum.2.1
  refine lv_iload_n hx hb dX8_whereabouts_0 rfl (lv_at hl 3 rfl) ?_
  refine lv_if_ne (tgt := 9) hx hb dX8_whereabouts_1 (by decide) (fun c_1 => ?_) (fun c_1 => ?_)
  · refine lv_aload_n hx hb dX8_whereabouts_9 rfl (lv_at hl 0 rfl) ?_
    refine va_get (D := D) (ci := 8) (v := .ref ta) (C := RX8) (T := TX8) (N := 15) hx hb hts hin8 hown hK hP k0 e0 rfl 1 (by decide) (hts (.fieldLink RX8 17 "HoneyHouse" "tanks" "[LHoneyHouse$Vessel;") (List.mem_of_getElem? (i := 2) rfl)) (fun _ h9 => h9) rfl dX8_whereabouts_10 ?_
    refine lv_iload_n hx hb dX8_whereabouts_13 rfl (lv_at hl 2 rfl) ?_
    have hFc := free_all hD hS hA
    refine va_calli (va_runS (As := [.ref ta, .int (nI u9)]) (rest := []) ⟨hx, hb, hml, hown, hts⟩ (a_gramsInX l D ρ ws tys fv ta kta cta tta 10 0 10 u9 fta s.heap.size (by omega) (by omega) hu eta uta hta0 (fun j hj => by obtain ⟨v9, e9, hV9⟩ := hta1 j hj; exact ⟨v9, e9, hV9.sm hsm htx (fun k _ h1 h2 => by omega)⟩)) (va_cwS 2 hts gX8_whereabouts_X8_gramsIn rfl rfl rfl (by decide +kernel) ⟨Nat.le_of_ble_eq_true rfl, Nat.le_of_ble_eq_true rfl⟩) ⟨fun a U g mk q => by obtain ⟨q0, q1, qP, qK, qD⟩ := q; exact ⟨q0, q1, qP, va_K.moved (u := U) (U := U.calling g mk a) (Vm.Alike.refl U.vm) qK, qD⟩, fun U hU hW => ⟨rfl, by rw [hU], by rw [hU]; exact hP, va_K.moved hW.alike hK, hD.weaken (fun _ _ _ _ => trivial)⟩⟩ rfl rfl hl.1 rfl (lv_room (Nat.le_of_ble_eq_true rfl)) dX8_whereabouts_14 ⟨Nat.le_of_ble_eq_true rfl, Nat.le_of_ble_eq_true rfl⟩) hS (fun q _ h => hFc q h) hFc (fun r_2 u t H1 locs ht hvm w_3 hB hz1 hk1 hS => ?_)
    obtain ⟨ws_4, ty_5, hm_6, ht_8, hP1, hK1, hD1, hx_7⟩ := hB
    rw [ht] at hP1
    have hK := va_K.moved hvm.symm hK1
    have hD := hD1.weaken (fun _ _ _ h => hFc _ h)
    generalize H1 = H at hP1 hS ⊢
    have hP := hP1
    have e_9 := hm_6.objK e0 (by decide)
    have e_10 := hm_6.arrQ eta
    have u_11 := ht_8 _ _ uta
    have e_12 := hm_6.arrQ eba
    have u_13 := ht_8 _ _ uba
    have e_14 := hm_6.objK elt (by decide)
    have hsm := hsm.tr (hm_6.mono (by decide))
    have htx := htx.tr ht_8
    obtain rfl : r_2 = gIn fv 0 10 u9 10 := w_3
    refine lv_istore (lv' := [(4, .int (gIn fv 0 10 u9 10)), (0, .ref h0), (1, .ref lt), (2, .int (nI u9)), (3, .int a3)]) hx hb dX8_whereabouts_17 hl (by decide) rfl (fun ls hl => ?_)
    refine lv_aload_n hx hb dX8_whereabouts_19 rfl (lv_at hl 1 rfl) ?_
    refine va_get (D := D) (ci := 8) (v := .ref ba) (C := RX8) (T := TX8) (N := 15) hx hb hts hin8 hown hK hP k0 e_9 rfl 2 (by decide) (hts (.fieldLink RX8 21 "HoneyHouse" "batches" "[LHoneyHouse$Vessel;") (List.mem_of_getElem? (i := 3) rfl)) (fun _ h9 => h9) rfl dX8_whereabouts_20 ?_
    refine lv_iload_n hx hb dX8_whereabouts_23 rfl (lv_at hl 3 rfl) ?_
    have hFc := free_all hD hS hA
    refine va_calli (va_runS (As := [.ref ba, .int (nI u9)]) (rest := []) ⟨hx, hb, hml, hown, hts⟩ (a_gramsInX l D ρ ws_4 ty_5 fv ba kba cba tba 60 10 bc u9 fba H.size (by omega) (by omega) hu e_12 u_13 hba0 (fun j hj => by obtain ⟨v9, e9, hV9⟩ := hba1 j hj; exact ⟨v9, e9, hV9.sm hsm htx (fun k _ h1 h2 => by omega)⟩)) (va_cwS 2 hts gX8_whereabouts_X8_gramsIn rfl rfl rfl (by decide +kernel) ⟨Nat.le_of_ble_eq_true rfl, Nat.le_of_ble_eq_true rfl⟩) ⟨fun a U g mk q => by obtain ⟨q0, q1, qP, qK, qD⟩ := q; exact ⟨q0, q1, qP, va_K.moved (u := U) (U := U.calling g mk a) (Vm.Alike.refl U.vm) qK, qD⟩, fun U hU hW => ⟨rfl, by rw [hU], by rw [hU]; exact hP, va_K.moved hW.alike hK, hD.weaken (fun _ _ _ _ => trivial)⟩⟩ rfl rfl hl.1 rfl (lv_room (Nat.le_of_ble_eq_true rfl)) dX8_whereabouts_24 ⟨Nat.le_of_ble_eq_true rfl, Nat.le_of_ble_eq_true rfl⟩) hS (fun q _ h => hFc q h) hFc (fun r_15 u t H1 locs ht hvm w_16 hB hz1 hk1 hS => ?_)
    obtain ⟨ws_17, ty_18, hm_19, ht_21, hP1, hK1, hD1, hx_20⟩ := hB
    rw [ht] at hP1
    have hK := va_K.moved hvm.symm hK1
    have hD := hD1.weaken (fun _ _ _ h => hFc _ h)
    generalize H1 = H at hP1 hS ⊢
    have hP := hP1
    have e_22 := hm_19.objK e_9 (by decide)
    have e_23 := hm_19.arrQ e_10
    have u_24 := ht_21 _ _ u_11
    have e_25 := hm_19.arrQ e_12
    have u_26 := ht_21 _ _ u_13
    have e_27 := hm_19.objK e_14 (by decide)
    have hsm := hsm.tr (hm_19.mono (by decide))
    have htx := htx.tr ht_21
    obtain rfl : r_15 = gIn fv 10 bc u9 60 := w_16
    refine lv_istore (lv' := [(5, .int (gIn fv 10 bc u9 60)), (4, .int (gIn fv 0 10 u9 10)), (0, .ref h0), (1, .ref lt), (2, .int (nI u9)), (3, .int a3)]) hx hb dX8_whereabouts_27 hl (by decide) rfl (fun ls hl => ?_)
    refine lv_iload_n hx hb dX8_whereabouts_29 rfl (lv_at hl 5 rfl) ?_
    refine lv_iconst (v := 1) hx hb dX8_whereabouts_30 (by decide) ?_
    refine lv_icmp_ne (tgt := 37) hx hb dX8_whereabouts_31 (by decide) (fun c_28 => ?_) (fun c_28 => ?_)
    · refine lv_iload_n hx hb dX8_whereabouts_37 rfl (lv_at hl 5 rfl) ?_
      refine lv_iconst (v := 2) hx hb dX8_whereabouts_38 (by decide) ?_
      refine lv_icmp_ne (tgt := 47) hx hb dX8_whereabouts_39 (by decide) (fun c_29 => ?_) (fun c_29 => ?_)
      · refine lv_aload_n hx hb dX8_whereabouts_47 rfl (lv_at hl 3 rfl) ?_
        refine va_get (D := D) (ci := 2) (v := .int (fv 4 (7 * u9 + 1))) (C := RX2) (T := TX2) (N := 10) hx hb hts hin2 hown hK hP klt e_27 rfl 1 (by decide) (hts (.fieldLink RX8 120 "HoneyHouse$Lot" "grams" "I") (List.mem_of_getElem? (i := 4) rfl)) (fun _ h9 => h9) rfl dX8_whereabouts_48 ?_
        refine lv_aload_n hx hb dX8_whereabouts_51 rfl (lv_at hl 3 rfl) ?_
        refine va_get (D := D) (ci := 2) (v := .int (fv 4 (7 * u9 + 5))) (C := RX2) (T := TX2) (N := 10) hx hb hts hin2 hown hK hP klt e_27 rfl 8 (by decide) (hts (.fieldLink RX8 136 "HoneyHouse$Lot" "left" "I") (List.mem_of_getElem? (i := 1) rfl)) (fun _ h9 => h9) rfl dX8_whereabouts_52 ?_
        refine lv_isub hx hb dX8_whereabouts_55 ?_
        refine lv_iload hx hb dX8_whereabouts_56 (lv_at hl 1 rfl) ?_
        refine lv_isub hx hb dX8_whereabouts_58 ?_
        refine lv_iload hx hb dX8_whereabouts_59 (lv_at hl 0 rfl) ?_
        refine lv_isub hx hb dX8_whereabouts_61 ?_
        exact W.iret (v := (((fv 4 (7 * u9 + 1)) - (fv 4 (7 * u9 + 5))) - (gIn fv 0 10 u9 10)) - (gIn fv 10 bc u9 60)) hx hb hr (fun t ht hW => ⟨⟨(((fv 4 (7 * u9 + 1)) - (fv 4 (7 * u9 + 5))) - (gIn fv 0 10 u9 10)) - (gIn fv 10 bc u9 60), (), rfl, (by rw [wbI, if_neg c_1, if_neg c_28, if_neg c_29]), ws_17, ty_18, hsm, htx, by rw [ht]; exact hP, va_K.moved hW.alike hK, hD, trivial⟩, hS.F ht⟩) hS.2.2 dX8_whereabouts_62
      refine lv_iload hx hb dX8_whereabouts_42 (lv_at hl 0 rfl) ?_
      refine lv_goto (tgt := 62) hx hb dX8_whereabouts_44 (by decide) ?_
      exact W.iret (v := gIn fv 10 bc u9 60) hx hb hr (fun t ht hW => ⟨⟨gIn fv 10 bc u9 60, (), rfl, (by rw [wbI, if_neg c_1, if_neg c_28, if_pos c_29]), ws_17, ty_18, hsm, htx, by rw [ht]; exact hP, va_K.moved hW.alike hK, hD, trivial⟩, hS.F ht⟩) hS.2.2 dX8_whereabouts_62
    refine lv_iload hx hb dX8_whereabouts_34 (lv_at hl 1 rfl) ?_
    exact W.iret (v := gIn fv 0 10 u9 10) hx hb hr (fun t ht hW => ⟨⟨gIn fv 0 10 u9 10, (), rfl, (by rw [wbI, if_neg c_1, if_pos c_28]), ws_17, ty_18, hsm, htx, by rw [ht]; exact hP, va_K.moved hW.alike hK, hD, trivial⟩, hS.F ht⟩) hS.2.2 dX8_whereabouts_36
  refine lv_aload_n hx hb dX8_whereabouts_4 rfl (lv_at hl 1 rfl) ?_
  refine va_get (D := D) (ci := 2) (v := .int (fv 4 (7 * u9 + 5))) (C := RX2) (T := TX2) (N := 10) hx hb hts hin2 hown hK hP klt elt rfl 8 (by decide) (hts (.fieldLink RX8 136 "HoneyHouse$Lot" "left" "I") (List.mem_of_getElem? (i := 1) rfl)) (fun _ h9 => h9) rfl dX8_whereabouts_5 ?_
  exact W.iret (v := fv 4 (7 * u9 + 5)) hx hb hr (fun t ht hW => ⟨⟨fv 4 (7 * u9 + 5), (), rfl, (by rw [wbI, if_pos c_1]), ws, tys, hsm, htx, by rw [ht]; exact hP, va_K.moved hW.alike hK, hD, trivial⟩, hS.F ht⟩) hS.2.2 dX8_whereabouts_8
set_option maxHeartbeats 4000000 in
set_option maxRecDepth 100000 in
theorem h_whose (l : Launch) (D : va_G) (ρ : Nat → Nat) (ws : va_W) (tys : List (ClassId × FieldType)) (fv : Nat → Nat → Int32) (h0 lc bc rc fc : Nat) (dn : Int32) (tl : Nat) (a1 a2 : Int32) (sz : Nat) (X : XI ρ fv ws tys h0 lc bc rc fc dn tl) : Met l yX8_whose wsX8_whose ({ frames := 3, cells := 0, slots := 0, locals := 70 }) (va_Pc [.ref h0, .int a1, .int a2] (fun U => U.heap.size = sz ∧ va_P D vwCl ws U.heap ∧ va_K D vwCl tys U ∧ va_D (fun _ => True) ws)) (va_Ql (fun (r : Int64) (_ : Unit) => (whoN a1 a2 ∧ r = (-1)) ∨ (¬ whoN a1 a2 ∧ r = whoV fv lc bc a1 a2)) (fun (_ : Unit) (t : State) => ∃ (ws' : va_W) (tys' : List (ClassId × FieldType)), sm ρ [] ws ws' ∧ tyx tys tys' ∧ va_P D vwCl ws' t.heap ∧ va_K D vwCl tys' t ∧ va_D (va_A ws sz) ws' ∧ (XI ρ fv ws' tys' h0 lc bc rc fc dn tl)) (va_A ws sz)) 0 0 (va_A ws sz) := by
  refine Met.ofW (cc := cX8_whose) (maxL := 7) (ret := (some .long)) (by decide) rfl ?_
  intro p e s m args below meth c s₁ B hml hv
  obtain ⟨rfl, hsz, hP, hK, hD0⟩ := hv
  have hx := B.exec
  have hb := B.bytes
  have hr := B.returns
  have hts := atoms_spec (ws := wsX8_whose) B.pre
  have hown : s.vm.findClass RX8 = some m.cls := findClass_of_methodNamed B.named
  have hlocks := B.notSynchronized
  subst hsz
  have hD := hD0.self (sz := s.heap.size)
  generalize hAe : va_A ws s.heap.size = A at hD ⊢
  have hA : ∀ q : Nat, s.heap.size ≤ q → A q := fun q h => by rw [← hAe]; exact Or.inr h
  have hS : va_S A s.heap s.heap [] := va_S.rf
  have hsm : sm ρ [] ws ws := sm.rf ws
  have htx : tyx tys tys := tyx.rf tys
  have hin2 : ∀ w ∈ u_ws RX2 TX2 10, w ∈ wsX8_whose := (fun _ h9 => List.mem_cons_of_mem _ (List.mem_append_left _ ((List.mem_append_right _ h9))))
  have hin8 : ∀ w ∈ u_ws RX8 TX8 15, w ∈ wsX8_whose := (fun _ h9 => List.mem_cons_of_mem _ (List.mem_append_left _ (List.mem_append_left _ ((List.mem_append_right _ h9)))))
  have hl := lv_entry ([.ref h0, .int a1, .int a2]) (n := 7) (Nat.le_of_ble_eq_true rfl)
  rw [lg_entry_eq]
  generalize (lg_sl ([.ref h0, .int a1, .int a2]) ++ List.replicate (7 - (lg_sl ([.ref h0, .int a1, .int a2])).length) Slot.unset).toArray = ls at hl ⊢
  have hl : lv_has ls 7 [(0, .ref h0), (1, .int a1), (2, .int a2)] := hl
  obtain ⟨k0, la, ta, ba, ra, sn, rd, dr, bl, vd, fb, e0, w0, hle0, hnum, qla, qta, qba, qra, qsn, qrd, qdr, qbl, qvd, qfb⟩ := id X
  obtain ⟨kla, cla, tla, fla, ela, ula, hla0, hla1⟩ := id qla
  have hlc := hnum.1
  refine lv_iload_n hx hb dX8_whose_0 rfl (lv_at hl 1 rfl) ?_
  refine lv_iconst (v := 0) hx hb dX8_whose_1 (by decide) ?_
  refine lv_bipush (v := 9) hx hb dX8_whose_2 (by decide) ?_
  refine vp_callSi (W.runS (As := [.int a1, .int 0, .int 9]) (rest := []) ⟨hx, hb, hml, hown, hts⟩ (s_X8_isIn l a1 0 9) (va_cwS 3 hts gX8_whose_X8_isIn rfl rfl rfl (by decide +kernel) ⟨Nat.le_of_ble_eq_true rfl, Nat.le_of_ble_eq_true rfl⟩) ⟨fun a U g mk q => q, fun U hU hW => ⟨rfl, trivial⟩⟩ rfl rfl hl.1 rfl (lv_room (Nat.le_of_ble_eq_true rfl)) dX8_whose_4 ⟨Nat.le_of_ble_eq_true rfl, Nat.le_of_ble_eq_true rfl⟩) (fun r_1 k_2 => ?_)
  rcases k_2 with ⟨rfl, a_3o⟩ | ⟨rfl, a_3, b_4⟩
  · refine lv_if_eq (tgt := 19) hx hb dX8_whose_7 (by decide) (fun c_5 => ?_) (fun c_5 => absurd (by decide) c_5)
    refine lv_ldc2 hx hb hown (hts (.constantLong RX8 246 (-1)) (List.mem_of_getElem? (i := 1) rfl)) dX8_whose_19 ?_
    exact W.lret (v := (-1)) hx hb hr (fun t ht hW => ⟨⟨(-1), (), rfl, Or.inl ⟨Or.inl a_3o, rfl⟩, ws, tys, hsm, htx, by rw [ht]; exact hP, va_K.moved hW.alike hK, hD, X.sm hsm htx (by decide) (by decide)⟩, hS.F ht⟩) hS.2.2 dX8_whose_22
  refine lv_if_eq (tgt := 19) hx hb dX8_whose_7 (by decide) (fun c_6 => absurd c_6 (by decide)) (fun c_6 => ?_)
  refine lv_iload_n hx hb dX8_whose_10 rfl (lv_at hl 2 rfl) ?_
  refine lv_iconst (v := 0) hx hb dX8_whose_11 (by decide) ?_
  refine lv_iconst (v := 3) hx hb dX8_whose_12 (by decide) ?_
  refine vp_callSi (W.runS (As := [.int a2, .int 0, .int 3]) (rest := []) ⟨hx, hb, hml, hown, hts⟩ (s_X8_isIn l a2 0 3) (va_cwS 3 hts gX8_whose_X8_isIn rfl rfl rfl (by decide +kernel) ⟨Nat.le_of_ble_eq_true rfl, Nat.le_of_ble_eq_true rfl⟩) ⟨fun a U g mk q => q, fun U hU hW => ⟨rfl, trivial⟩⟩ rfl rfl hl.1 rfl (lv_room (Nat.le_of_ble_eq_true rfl)) dX8_whose_13 ⟨Nat.le_of_ble_eq_true rfl, Nat.le_of_ble_eq_true rfl⟩) (fun r_7 k_8 => ?_)
  rcases k_8 with ⟨rfl, a_9o⟩ | ⟨rfl, a_9, b_10⟩
  · refine lv_if_ne (tgt := 23) hx hb dX8_whose_16 (by decide) (fun c_11 => absurd (by decide) c_11) (fun c_11 => ?_)
    refine lv_ldc2 hx hb hown (hts (.constantLong RX8 246 (-1)) (List.mem_of_getElem? (i := 1) rfl)) dX8_whose_19 ?_
    exact W.lret (v := (-1)) hx hb hr (fun t ht hW => ⟨⟨(-1), (), rfl, Or.inl ⟨Or.inr (a_9o), rfl⟩, ws, tys, hsm, htx, by rw [ht]; exact hP, va_K.moved hW.alike hK, hD, X.sm hsm htx (by decide) (by decide)⟩, hS.F ht⟩) hS.2.2 dX8_whose_22
  refine lv_if_ne (tgt := 23) hx hb dX8_whose_16 (by decide) (fun c_12 => ?_) (fun c_12 => absurd c_12 (by decide))
  refine lv_lconst (v := 0) hx hb dX8_whose_23 (by decide) ?_
  refine lv_lstore_n (lv' := [(3, .long 0), (0, .ref h0), (1, .int a1), (2, .int a2)]) hx hb dX8_whose_24 rfl hl (by decide) rfl (fun ls hl => ?_)
  refine lv_iconst (v := 0) hx hb dX8_whose_25 (by decide) ?_
  refine lv_istore (lv' := [(5, .int 0), (3, .long 0), (0, .ref h0), (1, .int a1), (2, .int a2)]) hx hb dX8_whose_26 hl (by decide) rfl (fun ls hl => ?_)
  refine lp_V (nL := 7) (σ := Nat × Int64) (lv := fun x9 => [(5, .int (nI x9.1)), (3, .long x9.2), (2, .int a2), (1, .int a1), (0, .ref h0)]) (μ := fun x9 => 40 - x9.1) (J := fun x9 ws9 => sm ρ [] ws ws9 ∧ (x9.1 ≤ 40) ∧ (x9.2 = whS fv a1 (fun l9 => (wbI fv bc l9 a2).toInt64) (min x9.1 lc))) (fun x9 ws_18 H locs ls hj hP hD hS hl ih_13 => ?_) (0, 0) ws _ _ ls ⟨sm.rf _, (show 0 ≤ 40 from by omega), (show 0 = whS fv a1 (fun l9 => (wbI fv bc l9 a2).toInt64) (min 0 lc) from (by rw [Nat.zero_min]; rfl))⟩ hP hD hS (lv_sub hl [0, 1, 4, 3, 2] rfl)
  obtain ⟨i_14, x_15⟩ := x9
  replace hj : sm ρ [] ws ws_18 ∧ (i_14 ≤ 40) ∧ (x_15 = whS fv a1 (fun l9 => (wbI fv bc l9 a2).toInt64) (min i_14 lc)) := hj
  obtain ⟨hm_19, hi_16, hs_17⟩ := hj
  have e_21 := hm_19.objK e0 (by decide)
  have e_22 := hm_19.arrQ ela
  have hsm := hsm.tr (hm_19.mono (by decide))
  have hlp_20 := hm_19
  have hl : lv_has ls 7 [(5, .int (nI i_14)), (3, .long x_15), (2, .int a2), (1, .int a1), (0, .ref h0)] := hl
  refine lv_iload hx hb dX8_whose_28 (lv_at hl 0 rfl) ?_
  refine lv_aload_n hx hb dX8_whose_30 rfl (lv_at hl 4 rfl) ?_
  refine va_get (D := D) (ci := 8) (v := .ref la) (C := RX8) (T := TX8) (N := 15) hx hb hts hin8 hown hK hP k0 e_21 rfl 0 (by decide) (hts (.fieldLink RX8 11 "HoneyHouse" "lots" "[LHoneyHouse$Lot;") (List.mem_of_getElem? (i := 2) rfl)) (fun _ h9 => h9) rfl dX8_whose_31 ?_
  refine va_alen (v := 40) hx hb hK hP kla tla e_22 ula rfl dX8_whose_34 ?_
  refine lv_icmp_ge (tgt := 80) hx hb dX8_whose_35 (by decide) (fun c_23 => ?_) (fun c_23 => ?_)
  · have d_24 := n_le (a := 40) (b := i_14) (by omega) (by omega) c_23
    refine lv_lload_n hx hb dX8_whose_80 rfl (lv_at hl 1 rfl) ?_
    exact W.lret (v := x_15) hx hb hr (fun t ht hW => ⟨⟨x_15, (), rfl, Or.inr ⟨(fun h => Or.elim h (fun h => Or.elim h a_3 b_4) (fun h => Or.elim h a_9 b_10)), by rw [hs_17, show min i_14 lc = lc by omega]; rfl⟩, ws_18, tys, hsm, htx, by rw [ht]; exact hP, va_K.moved hW.alike hK, hD, X.sm hsm htx (by decide) (by decide)⟩, hS.F ht⟩) hS.2.2 dX8_whose_81
  have d_25 := n_nle (a := 40) (b := i_14) (by omega) (by omega) c_23
  refine lv_aload_n hx hb dX8_whose_38 rfl (lv_at hl 4 rfl) ?_
  refine va_get (D := D) (ci := 8) (v := .ref la) (C := RX8) (T := TX8) (N := 15) hx hb hts hin8 hown hK hP k0 e_21 rfl 0 (by decide) (hts (.fieldLink RX8 11 "HoneyHouse" "lots" "[LHoneyHouse$Lot;") (List.mem_of_getElem? (i := 2) rfl)) (fun _ h9 => h9) rfl dX8_whose_39 ?_
  refine lv_iload hx hb dX8_whose_42 (lv_at hl 0 rfl) ?_
  refine va_aldq (f := fla) (n := 40) hx hb hK hP kla tla e_22 ula (vp_in_nI (n := i_14) (by omega) (by omega)) dX8_whose_44 ?_
  obtain ⟨r_26, er_27⟩ : ∃ r, r = fla (nI i_14).toNatClampNeg := ⟨_, rfl⟩
  refine tp_v (y := va_rf r_26) (by rw [er_27]) ?_
  rw [nI_clamp (n := i_14) (by omega)] at er_27
  rcases Nat.lt_or_ge i_14 lc with hl_32 | hn_33
  · obtain ⟨v_28, ev_29, hL_30⟩ := hla1 i_14 hl_32
    rw [ev_29] at er_27
    subst er_27
    have hL_31 := hL_30.sm hsm htx (fun k _ h1 h2 => by omega)
    obtain ⟨k_34, lo_35, hi_36, st_37, e_38, wk_39, ⟨k_45, c9_46, t_47, f_48, e_49, u_50, wr_51, g_52⟩, ⟨k_53, c9_54, t_55, f_56, e_57, u_58, wr_59, g_60⟩, ks_40, ga_41, gb_42, es_43, wks_44, ⟨k_61, c9_62, t_63, f_64, e_65, u_66, wr_67, g_68⟩, ⟨k_69, c9_70, t_71, f_72, e_73, u_74, wr_75, g_76⟩⟩ := hL_31
    refine tp_v (y := .ref v_28) rfl ?_
    refine lv_astore (lv' := [(6, .ref v_28), (5, .int (nI i_14)), (3, .long x_15), (2, .int a2), (1, .int a1), (0, .ref h0)]) hx hb dX8_whose_45 hl (by decide) rfl (fun ls hl => ?_)
    refine lv_aload hx hb dX8_whose_47 (lv_at hl 0 rfl) ?_
    refine lv_ifnull hx hb dX8_whose_49 ?_
    refine lv_aload hx hb dX8_whose_52 (lv_at hl 0 rfl) ?_
    refine va_get (D := D) (ci := 2) (v := .int (fv 4 (7 * i_14))) (C := RX2) (T := TX2) (N := 10) hx hb hts hin2 hown hK hP k_34 e_38 rfl 0 (by decide) (hts (.fieldLink RX8 127 "HoneyHouse$Lot" "keeper" "I") (List.mem_of_getElem? (i := 3) rfl)) (fun _ h9 => h9) rfl dX8_whose_54 ?_
    refine lv_iload_n hx hb dX8_whose_57 rfl (lv_at hl 4 rfl) ?_
    refine lv_icmp_ne (tgt := 74) hx hb dX8_whose_58 (by decide) (fun c_77 => ?_) (fun c_77 => ?_)
    · refine lv_iinc (v := nI (i_14 + 1)) (lv' := [(5, .int (nI (i_14 + 1))), (6, .ref v_28), (3, .long x_15), (2, .int a2), (1, .int a1), (0, .ref h0)]) hx hb dX8_whose_74 hl (k := 1) rfl (nI_add i_14 1) (by decide) rfl (fun ls hl => ?_)
      refine lv_goto (tgt := 28) hx hb dX8_whose_77 (by decide) ?_
      exact ih_13 (i_14 + 1, x_15) ws_18 _ _ ls (by show 40 - (i_14 + 1) < 40 - i_14; omega) ⟨hlp_20, (show (i_14 + 1) ≤ 40 from by omega), (show x_15 = whS fv a1 (fun l9 => (wbI fv bc l9 a2).toInt64) (min (i_14 + 1) lc) from (by rw [show min (i_14 + 1) lc = i_14 + 1 by omega, whS, if_neg c_77, hs_17, show min i_14 lc = i_14 by omega]))⟩ hP hD hS (lv_sub hl [0, 2, 3, 4, 5] rfl)
    refine lv_lload_n hx hb dX8_whose_61 rfl (lv_at hl 2 rfl) ?_
    refine lv_aload_n hx hb dX8_whose_62 rfl (lv_at hl 5 rfl) ?_
    refine lv_aload hx hb dX8_whose_63 (lv_at hl 0 rfl) ?_
    refine lv_iload hx hb dX8_whose_65 (lv_at hl 1 rfl) ?_
    refine lv_iload_n hx hb dX8_whose_67 rfl (lv_at hl 3 rfl) ?_
    have hFc := free_all hD hS hA
    refine va_calli (va_runV (As := [.ref v_28, .int (nI i_14), .int a2]) (rest := [.long x_15]) ⟨hx, hb, hml, hown, hts⟩ (a_whereaboutsX l D ρ ws_18 tys fv h0 lc bc rc fc dn tl v_28 k_34 lo_35 hi_36 st_37 i_14 a2 H.size (X.sm hsm htx (by decide) (by decide)) (by omega) e_38) (cwV 3 hts gX8_whose_X8_whereabouts rfl rfl rfl (by decide +kernel) ⟨Nat.le_of_ble_eq_true rfl, Nat.le_of_ble_eq_true rfl⟩) ⟨fun a U g mk q => by obtain ⟨q0, q1, qP, qK, qD⟩ := q; exact ⟨q0, q1, qP, va_K.moved (u := U) (U := U.calling g mk a) (Vm.Alike.refl U.vm) qK, qD⟩, va_recv hK hP (ci := 8) (q0 := k0) rfl e_21, fun U hU hW => ⟨rfl, by rw [hU], by rw [hU]; exact hP, va_K.moved hW.alike hK, hD.weaken (fun _ _ _ _ => trivial)⟩⟩ rfl rfl hl.1 rfl (lv_room (Nat.le_of_ble_eq_true rfl)) dX8_whose_68 ⟨Nat.le_of_ble_eq_true rfl, Nat.le_of_ble_eq_true rfl⟩) hS (fun q _ h => hFc q h) hFc (fun r_78 u t H1 locs ht hvm w_79 hB hz1 hk1 hS => ?_)
    obtain ⟨ws_80, ty_81, hm_82, ht_84, hP1, hK1, hD1, hx_83⟩ := hB
    rw [ht] at hP1
    have hK := va_K.moved hvm.symm hK1
    have hD := hD1.weaken (fun _ _ _ h => hFc _ h)
    generalize H1 = H at hP1 hS ⊢
    have hP := hP1
    have e_85 := hm_82.objK e_21 (by decide)
    have e_86 := hm_82.arrQ e_22
    have u_87 := ht_84 _ _ ula
    have e_88 := hm_82.keep (by rw [wk_39]; omega) e_38
    have e_89 := hm_82.keep (by rw [wr_51]; omega) e_49
    have u_90 := ht_84 _ _ u_50
    have e_91 := hm_82.keep (by rw [wr_59]; omega) e_57
    have u_92 := ht_84 _ _ u_58
    have e_93 := hm_82.keep (by rw [wks_44]; omega) es_43
    have e_94 := hm_82.keep (by rw [wr_67]; omega) e_65
    have u_95 := ht_84 _ _ u_66
    have e_96 := hm_82.keep (by rw [wr_75]; omega) e_73
    have u_97 := ht_84 _ _ u_74
    have hsm := hsm.tr (hm_82.mono (by decide))
    have hlp_20 := hlp_20.tr (hm_82.mono (by decide))
    have htx := htx.tr ht_84
    obtain rfl : r_78 = wbI fv bc i_14 a2 := w_79
    refine lv_i2l hx hb dX8_whose_71 rfl ?_
    refine lv_ladd hx hb dX8_whose_72 ?_
    refine lv_lstore_n (lv' := [(3, .long (x_15 + ((wbI fv bc i_14 a2).toInt64))), (6, .ref v_28), (5, .int (nI i_14)), (2, .int a2), (1, .int a1), (0, .ref h0)]) hx hb dX8_whose_73 rfl hl (by decide) rfl (fun ls hl => ?_)
    refine lv_iinc (v := nI (i_14 + 1)) (lv' := [(5, .int (nI (i_14 + 1))), (3, .long (x_15 + ((wbI fv bc i_14 a2).toInt64))), (6, .ref v_28), (2, .int a2), (1, .int a1), (0, .ref h0)]) hx hb dX8_whose_74 hl (k := 2) rfl (nI_add i_14 1) (by decide) rfl (fun ls hl => ?_)
    refine lv_goto (tgt := 28) hx hb dX8_whose_77 (by decide) ?_
    exact ih_13 (i_14 + 1, x_15 + ((wbI fv bc i_14 a2).toInt64)) ws_80 _ _ ls (by show 40 - (i_14 + 1) < 40 - i_14; omega) ⟨hlp_20, (show (i_14 + 1) ≤ 40 from by omega), (show (x_15 + ((wbI fv bc i_14 a2).toInt64)) = whS fv a1 (fun l9 => (wbI fv bc l9 a2).toInt64) (min (i_14 + 1) lc) from (by rw [show min (i_14 + 1) lc = i_14 + 1 by omega, whS, if_pos c_77, hs_17, show min i_14 lc = i_14 by omega]))⟩ hP hD hS (lv_sub hl [0, 1, 3, 4, 5] rfl)
  rw [hla0 i_14 hn_33] at er_27
  subst er_27
  refine tp_v (y := .null) rfl ?_
  refine lv_astoreN (lv' := [(6, .null), (5, .int (nI i_14)), (3, .long x_15), (2, .int a2), (1, .int a1), (0, .ref h0)]) hx hb dX8_whose_45 hl (by decide) rfl (fun ls hl => ?_)
  refine lv_aloadN hx hb dX8_whose_47 (lv_at hl 0 rfl) ?_
  refine lv_ifnullN (tgt := 74) hx hb dX8_whose_49 (by decide) ?_
  refine lv_iinc (v := nI (i_14 + 1)) (lv' := [(5, .int (nI (i_14 + 1))), (6, .null), (3, .long x_15), (2, .int a2), (1, .int a1), (0, .ref h0)]) hx hb dX8_whose_74 hl (k := 1) rfl (nI_add i_14 1) (by decide) rfl (fun ls hl => ?_)
  refine lv_goto (tgt := 28) hx hb dX8_whose_77 (by decide) ?_
  exact ih_13 (i_14 + 1, x_15) ws_18 _ _ ls (by show 40 - (i_14 + 1) < 40 - i_14; omega) ⟨hlp_20, (show (i_14 + 1) ≤ 40 from by omega), (show x_15 = whS fv a1 (fun l9 => (wbI fv bc l9 a2).toInt64) (min (i_14 + 1) lc) from (by rw [show min (i_14 + 1) lc = min i_14 lc by omega]; exact hs_17))⟩ hP hD hS (lv_sub hl [0, 2, 3, 4, 5] rfl)
