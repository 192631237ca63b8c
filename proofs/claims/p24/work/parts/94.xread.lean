theorem dX4_read_0 : decode cX4_read 0 = .ok (.aload_n 0, 1) := by decide +kernel
theorem dX4_read_1 : decode cX4_read 1 = .ok (.iconst 0, 1) := by decide +kernel
theorem dX4_read_2 : decode cX4_read 2 = .ok (.putfield 26, 3) := by decide +kernel
theorem dX4_read_5 : decode cX4_read 5 = .ok (.aload_n 0, 1) := by decide +kernel
theorem dX4_read_6 : decode cX4_read 6 = .ok (.iconst (-1), 1) := by decide +kernel
theorem dX4_read_7 : decode cX4_read 7 = .ok (.putfield 18, 3) := by decide +kernel
theorem dX4_read_10 : decode cX4_read 10 = .ok (.aload_n 0, 1) := by decide +kernel
theorem dX4_read_11 : decode cX4_read 11 = .ok (.iconst 0, 1) := by decide +kernel
theorem dX4_read_12 : decode cX4_read 12 = .ok (.putfield 29, 3) := by decide +kernel
theorem dX4_read_15 : decode cX4_read 15 = .ok (.aload_n 0, 1) := by decide +kernel
theorem dX4_read_16 : decode cX4_read 16 = .ok (.getfield 12, 3) := by decide +kernel
theorem dX4_read_19 : decode cX4_read 19 = .ok (.invokevirtual 32, 3) := by decide +kernel
theorem dX4_read_22 : decode cX4_read 22 = .ok (.aload_n 0, 1) := by decide +kernel
theorem dX4_read_23 : decode cX4_read 23 = .ok (.invokevirtual 35, 3) := by decide +kernel
theorem dX4_read_26 : decode cX4_read 26 = .ok (.ifCond .eq 20, 3) := by decide +kernel
theorem dX4_read_29 : decode cX4_read 29 = .ok (.aload_n 0, 1) := by decide +kernel
theorem dX4_read_30 : decode cX4_read 30 = .ok (.bipush 58, 2) := by decide +kernel
theorem dX4_read_32 : decode cX4_read 32 = .ok (.invokevirtual 39, 3) := by decide +kernel
theorem dX4_read_35 : decode cX4_read 35 = .ok (.ifCond .eq 11, 3) := by decide +kernel
theorem dX4_read_38 : decode cX4_read 38 = .ok (.aload_n 0, 1) := by decide +kernel
theorem dX4_read_39 : decode cX4_read 39 = .ok (.iconst 0, 1) := by decide +kernel
theorem dX4_read_40 : decode cX4_read 40 = .ok (.invokevirtual 43, 3) := by decide +kernel
theorem dX4_read_43 : decode cX4_read 43 = .ok (.ifCond .ne 5, 3) := by decide +kernel
theorem dX4_read_46 : decode cX4_read 46 = .ok (.iconst 0, 1) := by decide +kernel
theorem dX4_read_47 : decode cX4_read 47 = .ok (.ireturn, 1) := by decide +kernel
theorem dX4_read_48 : decode cX4_read 48 = .ok (.aload_n 0, 1) := by decide +kernel
theorem dX4_read_49 : decode cX4_read 49 = .ok (.ldc 47, 2) := by decide +kernel
theorem dX4_read_51 : decode cX4_read 51 = .ok (.invokevirtual 49, 3) := by decide +kernel
theorem dX4_read_54 : decode cX4_read 54 = .ok (.ifCond .eq 13, 3) := by decide +kernel
theorem dX4_read_57 : decode cX4_read 57 = .ok (.aload_n 0, 1) := by decide +kernel
theorem dX4_read_58 : decode cX4_read 58 = .ok (.sipush 30000, 3) := by decide +kernel
theorem dX4_read_61 : decode cX4_read 61 = .ok (.invokevirtual 53, 3) := by decide +kernel
theorem dX4_read_64 : decode cX4_read 64 = .ok (.ifCond .ne 5, 3) := by decide +kernel
theorem dX4_read_67 : decode cX4_read 67 = .ok (.iconst 0, 1) := by decide +kernel
theorem dX4_read_68 : decode cX4_read 68 = .ok (.ireturn, 1) := by decide +kernel
theorem dX4_read_69 : decode cX4_read 69 = .ok (.aload_n 0, 1) := by decide +kernel
theorem dX4_read_70 : decode cX4_read 70 = .ok (.aload_n 0, 1) := by decide +kernel
theorem dX4_read_71 : decode cX4_read 71 = .ok (.getfield 56, 3) := by decide +kernel
theorem dX4_read_74 : decode cX4_read 74 = .ok (.putfield 59, 3) := by decide +kernel
theorem dX4_read_77 : decode cX4_read 77 = .ok (.aload_n 0, 1) := by decide +kernel
theorem dX4_read_78 : decode cX4_read 78 = .ok (.bipush 59, 2) := by decide +kernel
theorem dX4_read_80 : decode cX4_read 80 = .ok (.invokevirtual 39, 3) := by decide +kernel
theorem dX4_read_83 : decode cX4_read 83 = .ok (.ifCond .eq 24, 3) := by decide +kernel
theorem dX4_read_86 : decode cX4_read 86 = .ok (.aload_n 0, 1) := by decide +kernel
theorem dX4_read_87 : decode cX4_read 87 = .ok (.getfield 12, 3) := by decide +kernel
theorem dX4_read_90 : decode cX4_read 90 = .ok (.getfield 61, 3) := by decide +kernel
theorem dX4_read_93 : decode cX4_read 93 = .ok (.ifCond .eq 10, 3) := by decide +kernel
theorem dX4_read_96 : decode cX4_read 96 = .ok (.aload_n 0, 1) := by decide +kernel
theorem dX4_read_97 : decode cX4_read 97 = .ok (.invokevirtual 64, 3) := by decide +kernel
theorem dX4_read_100 : decode cX4_read 100 = .ok (.ifCond .eq 7, 3) := by decide +kernel
theorem dX4_read_103 : decode cX4_read 103 = .ok (.iconst 1, 1) := by decide +kernel
theorem dX4_read_104 : decode cX4_read 104 = .ok (.goto 4, 3) := by decide +kernel
theorem dX4_read_107 : decode cX4_read 107 = .ok (.iconst 0, 1) := by decide +kernel
theorem dX4_read_108 : decode cX4_read 108 = .ok (.ireturn, 1) := by decide +kernel
set_option maxRecDepth 20000 in
theorem ggX4_read_X6_rewind : GoodIn wsX4_read wsX6_rewind := goodIn_r _ [12, 13, 14, 15, 16, 11, 17, 18, 19, 20, 21, 22, 23, 24, 25, 26, 27, 28, 164, 165, 166, 167, 168] (by decide +kernel) (by decide +kernel)
set_option maxRecDepth 20000 in
theorem gX4_read_X6_rewind : GoodIn wsX4_read (wsV RX4 32 RX6 yX6_rewind wsX6_rewind) := goodIn_app (goodIn_of _ (by decide +kernel)) ggX4_read_X6_rewind
set_option maxRecDepth 20000 in
theorem ggX4_read_X4_readName : GoodIn wsX4_read wsX4_readName := goodIn_r _ [33, 4, 7, 34, 35, 36, 37, 38, 39, 32, 40, 41, 42, 43, 11, 44, 20, 13, 19, 45, 46, 47, 48, 49, 50, 51, 52, 53, 54, 55, 56, 21, 22, 23, 24, 18, 25, 57, 58, 59, 60, 61, 62, 63, 64, 65, 66, 67, 68, 69, 70, 71, 72, 73, 74, 75, 76, 77, 78, 79, 80, 81, 82, 83, 84, 85, 86, 87, 88, 89, 90, 91, 92, 93, 94, 95, 96, 97, 98, 99, 100, 101, 102, 103, 104, 105, 1, 2, 106, 107, 108, 109, 110, 111, 15, 16, 17, 26, 27, 28, 156, 157, 158, 159, 160, 161, 162, 163, 164, 165, 166, 167, 168] (by decide +kernel) (by decide +kernel)
set_option maxRecDepth 20000 in
theorem gX4_read_X4_readName : GoodIn wsX4_read (wsV RX4 35 RX4 yX4_readName wsX4_readName) := goodIn_app (goodIn_of _ (by decide +kernel)) ggX4_read_X4_readName
set_option maxRecDepth 20000 in
theorem ggX4_read_X4_readByte : GoodIn wsX4_read wsX4_readByte := goodIn_r _ [115, 4, 116, 117, 118, 11, 119, 20, 19, 21, 22, 23, 24, 18, 25, 98, 99, 100, 32, 101, 35, 102, 103, 104, 105, 1, 2, 111, 15, 16, 17, 13, 26, 27, 28, 156, 157, 158, 159, 160, 161, 162, 163, 164, 165, 166, 167, 168] (by decide +kernel) (by decide +kernel)
set_option maxRecDepth 20000 in
theorem gX4_read_X4_readByte : GoodIn wsX4_read (wsV RX4 39 RX4 yX4_readByte wsX4_readByte) := goodIn_app (goodIn_of _ (by decide +kernel)) ggX4_read_X4_readByte
set_option maxRecDepth 20000 in
theorem ggX4_read_X4_readEither : GoodIn wsX4_read wsX4_readEither := goodIn_r _ [123, 4, 124, 125, 126, 32, 127, 128, 129, 130, 41, 42, 43, 11, 44, 20, 13, 19, 45, 46, 47, 48, 49, 50, 51, 52, 53, 54, 55, 56, 21, 22, 23, 24, 18, 25, 57, 58, 59, 60, 61, 62, 63, 64, 65, 66, 67, 68, 69, 70, 71, 72, 73, 74, 75, 76, 77, 78, 79, 80, 81, 82, 83, 84, 85, 86, 87, 88, 89, 90, 91, 92, 93, 131, 132, 133, 134, 3, 135, 111, 15, 16, 17, 26, 27, 28, 136, 35, 116, 117, 118, 119, 137, 138, 139, 140, 5, 94, 95, 96, 97, 98, 99, 100, 101, 102, 103, 104, 105, 1, 2, 141, 142, 143, 144, 7, 34, 145, 146, 147, 148, 149, 150, 151, 120, 121, 122, 112, 113, 114, 115, 156, 157, 158, 159, 160, 161, 162, 163, 164, 165, 166, 167, 168] (by decide +kernel) (by decide +kernel)
set_option maxRecDepth 20000 in
theorem gX4_read_X4_readEither : GoodIn wsX4_read (wsV RX4 43 RX4 yX4_readEither wsX4_readEither) := goodIn_app (goodIn_of _ (by decide +kernel)) ggX4_read_X4_readEither
set_option maxRecDepth 20000 in
theorem ggX4_read_X4_readWord : GoodIn wsX4_read wsX4_readWord := goodIn_r _ [155, 4, 41, 42, 43, 11, 44, 20, 13, 19, 45, 46, 47, 48, 49, 50, 51, 52, 53, 54, 55, 56, 21, 22, 23, 24, 18, 25, 57, 58, 59, 60, 61, 62, 63, 64, 65, 66, 67, 68, 69, 70, 71, 72, 73, 74, 75, 76, 77, 78, 79, 80, 81, 82, 83, 84, 85, 86, 87, 88, 89, 90, 91, 92, 93, 98, 99, 100, 32, 101, 35, 102, 103, 104, 105, 1, 2, 111, 15, 16, 17, 26, 27, 28, 156, 157, 158, 159, 160, 161, 162, 163, 164, 165, 166, 167, 168] (by decide +kernel) (by decide +kernel)
set_option maxRecDepth 20000 in
theorem gX4_read_X4_readWord : GoodIn wsX4_read (wsV RX4 49 RX4 yX4_readWord wsX4_readWord) := goodIn_app (goodIn_of _ (by decide +kernel)) ggX4_read_X4_readWord
set_option maxRecDepth 20000 in
theorem ggX4_read_X4_readNumber : GoodIn wsX4_read wsX4_readNumber := goodIn_r _ [144, 4, 7, 34, 35, 5, 98, 99, 100, 32, 101, 102, 103, 104, 105, 1, 2, 145, 146, 147, 11, 148, 19, 13, 21, 22, 23, 24, 18, 25, 111, 15, 16, 17, 20, 26, 27, 28, 156, 157, 158, 159, 160, 161, 162, 163, 164, 165, 166, 167, 168] (by decide +kernel) (by decide +kernel)
set_option maxRecDepth 20000 in
theorem gX4_read_X4_readNumber : GoodIn wsX4_read (wsV RX4 53 RX4 yX4_readNumber wsX4_readNumber) := goodIn_app (goodIn_of _ (by decide +kernel)) ggX4_read_X4_readNumber
set_option maxRecDepth 20000 in
theorem ggX4_read_X4_failHere : GoodIn wsX4_read wsX4_failHere := goodIn_r _ [101, 4, 35, 102, 103, 104, 32, 105, 1, 2, 156, 157, 158, 159, 160, 161, 162, 163, 164, 165, 166, 167, 168] (by decide +kernel) (by decide +kernel)
set_option maxRecDepth 20000 in
theorem gX4_read_X4_failHere : GoodIn wsX4_read (wsV RX4 64 RX4 yX4_failHere wsX4_failHere) := goodIn_app (goodIn_of _ (by decide +kernel)) ggX4_read_X4_failHere
set_option maxHeartbeats 4000000 in
set_option maxRecDepth 100000 in
theorem r_read (l : Launch) (D : va_G) (ws : va_W) (tys : List (ClassId × FieldType)) (adK adV : Nat → Nat) (fo : Option Nat) (rd krd tp ktp cd bb tl : Nat)  (sz : Nat) (R0 : RS ws tys rd krd tp ktp cd bb tl)  : Met l yX4_read wsX4_read ({ frames := 21, cells := 0, slots := 0, locals := 485 }) (va_Pc [.ref rd] (fun U => U.heap.size = sz ∧ va_P D vwCl ws U.heap ∧ va_K D vwCl tys U ∧ va_D (fun _ => True) ws ∧ SZ adK adV fo (va_A ws sz) U U.heap)) (va_Qi (fun (r : Int32) (_ : Unit) => r = 0 ∨ r = 1) (fun (_ : Unit) (t : State) => ∃ (ws' : va_W) (tys' : List (ClassId × FieldType)), sm [4, 6] ws ws' ∧ tyx tys tys' ∧ va_P D vwCl ws' t.heap ∧ va_K D vwCl tys' t ∧ va_D (va_A ws sz) ws' ∧ RS ws' tys' rd krd tp ktp cd bb tl) (va_A ws sz)) 0 0 (va_A ws sz) := by
  refine Met.ofW (cc := cX4_read) (maxL := 1) (ret := (some .boolean)) (by decide) rfl ?_
  intro p e s m args below meth c s₁ B hml hv
  obtain ⟨rfl, hsz, hP, hK, hD0, hsz9⟩ := hv
  have hx := B.exec
  have hb := B.bytes
  have hr := B.returns
  have hts := atoms_spec (ws := wsX4_read) B.pre
  have hown : s.vm.findClass RX4 = some m.cls := findClass_of_methodNamed B.named
  have hlocks := B.notSynchronized
  subst hsz
  have hD := hD0.self (sz := s.heap.size)
  generalize hAe : va_A ws s.heap.size = A at hD hsz9 ⊢
  have hA : ∀ q : Nat, s.heap.size ≤ q → A q := fun q h => by rw [← hAe]; exact Or.inr h
  have hS : va_S A s.heap s.heap [] := va_S.rf
  have hsm : sm [4, 6] ws ws := sm.rf ws
  have htx : tyx tys tys := tyx.rf tys
  have hin4 : ∀ w ∈ u_ws RX4 TX4 8, w ∈ wsX4_read := (fun _ h9 => List.mem_cons_of_mem _ (List.mem_append_left _ ((List.mem_append_right _ h9))))
  have hin6 : ∀ w ∈ u_ws RX6 TX6 5, w ∈ wsX4_read := (fun _ h9 => List.mem_cons_of_mem _ ((List.mem_append_right _ h9)))
  have hl := lv_entry ([.ref rd]) (n := 1) (Nat.le_of_ble_eq_true rfl)
  rw [lg_entry_eq]
  generalize (lg_sl ([.ref rd]) ++ List.replicate (1 - (lg_sl ([.ref rd])).length) Slot.unset).toArray = ls at hl ⊢
  have hl : lv_has ls 1 [(0, .ref rd)] := hl
  obtain ⟨ts_1, te_2, cc_3, ra_4, rb_5, rc_6, rv_7, re_8, ya_9, h1_10, h2_11, h3_12, h4_13, er_14, et_15, ⟨k_16, c9_17, t_18, f_19, e_20, u_21⟩, ⟨k_22, c9_23, t_24, f_25, e_26, u_27⟩⟩ := id R0
  refine lv_aload_n hx hb dX4_read_0 rfl (lv_at hl 0 rfl) ?_
  refine lv_iconst (v := 0) hx hb dX4_read_1 (by decide) ?_
  refine va_put (D := D) (ci := 4) (v := .int 0) (ty := .int) (C := RX4) (T := TX4) (N := 8) hx hb hts hin4 tyX4 tyX4_ok nmX4 hown hK hP hD hS krd er_14 rfl 3 (by decide) (hts (.fieldLink RX4 26 "HoneyHouse$RuleReader" "faultKind" "I") (List.mem_of_getElem? (i := 1) rfl)) (fun _ h9 => h9) rfl (tyX4_ok 3 (by decide)) rfl rfl (Nat.le_of_ble_eq_true rfl) dX4_read_2 (fun H locs hP hD hS => ?_)
  have hP : va_P D vwCl (ws.set krd (rd, .inr (4, [.ref tp, .long ra_4, .int rb_5, .int 0, .int rv_7, .ref cd, .int (nI cc_3), .int re_8]))) H := hP
  have hD : va_D A (ws.set krd (rd, .inr (4, [.ref tp, .long ra_4, .int rb_5, .int 0, .int rv_7, .ref cd, .int (nI cc_3), .int re_8]))) := hD
  have hm_29 : sm [4] ws (ws.set krd (rd, .inr (4, [.ref tp, .long ra_4, .int rb_5, .int 0, .int rv_7, .ref cd, .int (nI cc_3), .int re_8]))) := sm.flds er_14 (smF.c (smV.rf _) (smF.c (smV.rf _) (smF.c (smV.rf _) (smF.c (smV.i _ _) (smF.c (smV.rf _) (smF.c (smV.rf _) (smF.c (smV.rf _) (smF.c (smV.rf _) (rfl))))))))) (List.mem_singleton.mpr rfl)
  have e_30 : (ws.set krd (rd, .inr (4, [.ref tp, .long ra_4, .int rb_5, .int 0, .int rv_7, .ref cd, .int (nI cc_3), .int re_8])))[krd]? = some (rd, .inr (4, [.ref tp, .long ra_4, .int rb_5, .int 0, .int rv_7, .ref cd, .int (nI cc_3), .int re_8])) := wset_self er_14
  generalize ws.set krd (rd, .inr (4, [.ref tp, .long ra_4, .int rb_5, .int 0, .int rv_7, .ref cd, .int (nI cc_3), .int re_8])) = ws_28 at hP hD hm_29 e_30
  have e_31 := hm_29.objK et_15 (by decide)
  obtain ⟨f_33, e_32⟩ := hm_29.arrI e_20
  obtain ⟨f_35, e_34⟩ := hm_29.arrI e_26
  have hsm := hsm.tr (hm_29.mono (by decide))
  refine lv_aload_n hx hb dX4_read_5 rfl (lv_at hl 0 rfl) ?_
  refine lv_iconst (v := (-1)) hx hb dX4_read_6 (by decide) ?_
  refine va_put (D := D) (ci := 4) (v := .int (-1)) (ty := .int) (C := RX4) (T := TX4) (N := 8) hx hb hts hin4 tyX4 tyX4_ok nmX4 hown hK hP hD hS krd e_30 rfl 4 (by decide) (hts (.fieldLink RX4 18 "HoneyHouse$RuleReader" "faultPlace" "I") (List.mem_of_getElem? (i := 2) rfl)) (fun _ h9 => h9) rfl (tyX4_ok 4 (by decide)) rfl rfl (Nat.le_of_ble_eq_true rfl) dX4_read_7 (fun H locs hP hD hS => ?_)
  have hP : va_P D vwCl (ws_28.set krd (rd, .inr (4, [.ref tp, .long ra_4, .int rb_5, .int 0, .int (-1), .ref cd, .int (nI cc_3), .int re_8]))) H := hP
  have hD : va_D A (ws_28.set krd (rd, .inr (4, [.ref tp, .long ra_4, .int rb_5, .int 0, .int (-1), .ref cd, .int (nI cc_3), .int re_8]))) := hD
  have hm_37 : sm [4] ws_28 (ws_28.set krd (rd, .inr (4, [.ref tp, .long ra_4, .int rb_5, .int 0, .int (-1), .ref cd, .int (nI cc_3), .int re_8]))) := sm.flds e_30 (smF.c (smV.rf _) (smF.c (smV.rf _) (smF.c (smV.rf _) (smF.c (smV.rf _) (smF.c (smV.i _ _) (smF.c (smV.rf _) (smF.c (smV.rf _) (smF.c (smV.rf _) (rfl))))))))) (List.mem_singleton.mpr rfl)
  have e_38 : (ws_28.set krd (rd, .inr (4, [.ref tp, .long ra_4, .int rb_5, .int 0, .int (-1), .ref cd, .int (nI cc_3), .int re_8])))[krd]? = some (rd, .inr (4, [.ref tp, .long ra_4, .int rb_5, .int 0, .int (-1), .ref cd, .int (nI cc_3), .int re_8])) := wset_self e_30
  generalize ws_28.set krd (rd, .inr (4, [.ref tp, .long ra_4, .int rb_5, .int 0, .int (-1), .ref cd, .int (nI cc_3), .int re_8])) = ws_36 at hP hD hm_37 e_38
  have e_39 := hm_37.objK e_31 (by decide)
  obtain ⟨f_41, e_40⟩ := hm_37.arrI e_32
  obtain ⟨f_43, e_42⟩ := hm_37.arrI e_34
  have hsm := hsm.tr (hm_37.mono (by decide))
  refine lv_aload_n hx hb dX4_read_10 rfl (lv_at hl 0 rfl) ?_
  refine lv_iconst (v := 0) hx hb dX4_read_11 (by decide) ?_
  refine va_put (D := D) (ci := 4) (v := .int 0) (ty := .int) (C := RX4) (T := TX4) (N := 8) hx hb hts hin4 tyX4 tyX4_ok nmX4 hown hK hP hD hS krd e_38 rfl 6 (by decide) (hts (.fieldLink RX4 29 "HoneyHouse$RuleReader" "codeCount" "I") (List.mem_of_getElem? (i := 3) rfl)) (fun _ h9 => h9) rfl (tyX4_ok 6 (by decide)) rfl rfl (Nat.le_of_ble_eq_true rfl) dX4_read_12 (fun H locs hP hD hS => ?_)
  have hP : va_P D vwCl (ws_36.set krd (rd, .inr (4, [.ref tp, .long ra_4, .int rb_5, .int 0, .int (-1), .ref cd, .int 0, .int re_8]))) H := hP
  have hD : va_D A (ws_36.set krd (rd, .inr (4, [.ref tp, .long ra_4, .int rb_5, .int 0, .int (-1), .ref cd, .int 0, .int re_8]))) := hD
  have hm_45 : sm [4] ws_36 (ws_36.set krd (rd, .inr (4, [.ref tp, .long ra_4, .int rb_5, .int 0, .int (-1), .ref cd, .int 0, .int re_8]))) := sm.flds e_38 (smF.c (smV.rf _) (smF.c (smV.rf _) (smF.c (smV.rf _) (smF.c (smV.rf _) (smF.c (smV.rf _) (smF.c (smV.rf _) (smF.c (smV.i _ _) (smF.c (smV.rf _) (rfl))))))))) (List.mem_singleton.mpr rfl)
  have e_46 : (ws_36.set krd (rd, .inr (4, [.ref tp, .long ra_4, .int rb_5, .int 0, .int (-1), .ref cd, .int 0, .int re_8])))[krd]? = some (rd, .inr (4, [.ref tp, .long ra_4, .int rb_5, .int 0, .int (-1), .ref cd, .int 0, .int re_8])) := wset_self e_38
  generalize ws_36.set krd (rd, .inr (4, [.ref tp, .long ra_4, .int rb_5, .int 0, .int (-1), .ref cd, .int 0, .int re_8])) = ws_44 at hP hD hm_45 e_46
  have e_47 := hm_45.objK e_39 (by decide)
  obtain ⟨f_49, e_48⟩ := hm_45.arrI e_40
  obtain ⟨f_51, e_50⟩ := hm_45.arrI e_42
  have hsm := hsm.tr (hm_45.mono (by decide))
  refine lv_aload_n hx hb dX4_read_15 rfl (lv_at hl 0 rfl) ?_
  refine va_get (D := D) (ci := 4) (v := .ref tp) (C := RX4) (T := TX4) (N := 8) hx hb hts hin4 hown hK hP krd e_46 rfl 0 (by decide) (hts (.fieldLink RX4 12 "HoneyHouse$RuleReader" "tape" "LHoneyHouse$Tape;") (List.mem_of_getElem? (i := 4) rfl)) (fun _ h9 => h9) rfl dX4_read_16 ?_
  have hFc := free_all hD hS hA
  refine va_callv (va_runV (As := []) (rest := []) ⟨hx, hb, hml, hown, hts⟩ (a_rewind l D ws_44 tys tp ktp tl ya_9 (nI ts_1) (nI te_2) bb k_22 c9_23 t_24 f_51 H.size (by omega) e_47 e_50 u_27) (cwV 0 hts gX4_read_X6_rewind rfl rfl rfl (by decide +kernel) ⟨Nat.le_of_ble_eq_true rfl, Nat.le_of_ble_eq_true rfl⟩) ⟨fun a U g mk q => by obtain ⟨q0, q1, qP, qK, qD⟩ := q; exact ⟨q0, q1, qP, va_K.moved (u := U) (U := U.calling g mk a) (Vm.Alike.refl U.vm) qK, qD⟩, va_recv hK hP (ci := 6) (q0 := ktp) rfl e_47, fun U hU hW => ⟨rfl, by rw [hU], by rw [hU]; exact hP, va_K.moved hW.alike hK, hD.weaken (fun _ _ _ _ => trivial)⟩⟩ rfl rfl hl.1 rfl (lv_room (Nat.le_of_ble_eq_true rfl)) dX4_read_19 ⟨Nat.le_of_ble_eq_true rfl, Nat.le_of_ble_eq_true rfl⟩) hS (fun q _ h => hFc q h) hFc (fun u t H1 locs ht hvm w_53 hB hz1 hk1 hS => ?_)
  obtain ⟨ws_54, ty_55, hm_56, ht_58, hP1, hK1, hD1, hx_57⟩ := hB
  rw [ht] at hP1
  have hK := va_K.moved hvm.symm hK1
  have hD := hD1.weaken (fun _ _ _ h => hFc _ h)
  generalize H1 = H at hP1 hS ⊢
  have hP := hP1
  have e_59 := hm_56.objK e_46 (by decide)
  obtain ⟨g_61, e_60, h_62⟩ := hm_56.obj e_47
  obtain ⟨z_63, z_64, z_65, z_66, rfl⟩ := smX6 h_62
  obtain ⟨f_68, e_67⟩ := hm_56.arrI e_48
  have u_69 := ht_58 _ _ u_21
  obtain ⟨f_71, e_70⟩ := hm_56.arrI e_50
  have u_72 := ht_58 _ _ u_27
  have hsm := hsm.tr (hm_56.mono (by decide))
  have htx := htx.tr ht_58
  obtain ⟨k_73, s_74, e_75, h_76, h_77, h_78, e_79⟩ := hx_57
  refine lv_aload_n hx hb dX4_read_22 rfl (lv_at hl 0 rfl) ?_
  have hFc := free_all hD hS hA
  refine va_calli (va_runV (As := []) (rest := []) ⟨hx, hb, hml, hown, hts⟩ (r_readName l D ws_54 ty_55 adK adV fo rd krd tp ktp cd bb tl  H.size (⟨s_74, e_75, 0, ra_4, rb_5, 0, (-1), re_8, nI k_73, by omega, by omega, by omega, by omega, e_59, e_79, ⟨k_16, c9_17, t_18, f_68, e_67, u_69⟩, ⟨k_22, c9_23, t_24, f_71, e_70, u_72⟩⟩ : RS ws_54 ty_55 rd krd tp ktp cd bb tl)) (cwV 0 hts gX4_read_X4_readName rfl rfl rfl (by decide +kernel) ⟨Nat.le_of_ble_eq_true rfl, Nat.le_of_ble_eq_true rfl⟩) ⟨fun a U g mk q => by obtain ⟨q0, q1, qP, qK, qD, qS⟩ := q; exact ⟨q0, q1, qP, va_K.moved (u := U) (U := U.calling g mk a) (Vm.Alike.refl U.vm) qK, qD, SZ.same rfl rfl qS⟩, va_recv hK hP (ci := 4) (q0 := krd) rfl e_59, fun U hU hW => ⟨rfl, by rw [hU], by rw [hU]; exact hP, va_K.moved hW.alike hK, hD.weaken (fun _ _ _ _ => trivial), hsz9.go hS hW hU hFc⟩⟩ rfl rfl hl.1 rfl (lv_room (Nat.le_of_ble_eq_true rfl)) dX4_read_23 ⟨Nat.le_of_ble_eq_true rfl, Nat.le_of_ble_eq_true rfl⟩) hS (fun q _ h => hFc q h) hFc (fun r_80 u t H1 locs ht hvm w_81 hB hz1 hk1 hS => ?_)
  obtain ⟨ws_82, ty_83, hm_84, ht_86, hP1, hK1, hD1, hx_85⟩ := hB
  rw [ht] at hP1
  have hK := va_K.moved hvm.symm hK1
  have hD := hD1.weaken (fun _ _ _ h => hFc _ h)
  generalize H1 = H at hP1 hS ⊢
  have hP := hP1
  obtain ⟨g_88, e_87, h_89⟩ := hm_84.obj e_59
  obtain ⟨z_90, z_91, z_92, z_93, z_94, z_95, rfl⟩ := smX4 h_89
  obtain ⟨g_97, e_96, h_98⟩ := hm_84.obj e_79
  obtain ⟨z_99, z_100, z_101, z_102, rfl⟩ := smX6 h_98
  obtain ⟨f_104, e_103⟩ := hm_84.arrI e_67
  have u_105 := ht_86 _ _ u_69
  obtain ⟨f_107, e_106⟩ := hm_84.arrI e_70
  have u_108 := ht_86 _ _ u_72
  have hsm := hsm.tr (hm_84.mono (by decide))
  have htx := htx.tr ht_86
  obtain ⟨ts_109, te_110, cc_111, ra_112, rb_113, rc_114, rv_115, re_116, ya_117, h1_118, h2_119, h3_120, h4_121, er_122, et_123, ⟨k_124, c9_125, t_126, f_127, e_128, u_129⟩, ⟨k_130, c9_131, t_132, f_133, e_134, u_135⟩⟩ := id hx_85
  rcases w_81 with rfl | rfl
  · refine lv_if_eq (tgt := 46) hx hb dX4_read_26 (by decide) (fun c_136 => ?_) (fun c_136 => absurd (by decide) c_136)
    refine lv_iconst (v := 0) hx hb dX4_read_46 (by decide) ?_
    exact W.zret (v := 0) hx hb hr rfl (fun t ht hW => ⟨⟨0, (), rfl, Or.inl rfl, ws_82, ty_83, hsm, htx, by rw [ht]; exact hP, va_K.moved hW.alike hK, hD, (⟨ts_109, te_110, cc_111, ra_112, rb_113, rc_114, rv_115, re_116, ya_117, by omega, by omega, by omega, by omega, er_122, et_123, ⟨k_124, c9_125, t_126, f_127, e_128, u_129⟩, ⟨k_130, c9_131, t_132, f_133, e_134, u_135⟩⟩ : RS ws_82 ty_83 rd krd tp ktp cd bb tl)⟩, hS.F ht⟩) hS.2.2 dX4_read_47
  refine lv_if_eq (tgt := 46) hx hb dX4_read_26 (by decide) (fun c_137 => absurd c_137 (by decide)) (fun c_137 => ?_)
  refine lv_aload_n hx hb dX4_read_29 rfl (lv_at hl 0 rfl) ?_
  refine lv_bipush (v := 58) hx hb dX4_read_30 (by decide) ?_
  have hFc := free_all hD hS hA
  refine va_calli (va_runV (As := [.int 58]) (rest := []) ⟨hx, hb, hml, hown, hts⟩ (r_readByte l D ws_82 ty_83 adK adV fo rd krd tp ktp cd bb tl 58 H.size (⟨ts_109, te_110, cc_111, ra_112, rb_113, rc_114, rv_115, re_116, ya_117, by omega, by omega, by omega, by omega, er_122, et_123, ⟨k_124, c9_125, t_126, f_127, e_128, u_129⟩, ⟨k_130, c9_131, t_132, f_133, e_134, u_135⟩⟩ : RS ws_82 ty_83 rd krd tp ktp cd bb tl)) (cwV 1 hts gX4_read_X4_readByte rfl rfl rfl (by decide +kernel) ⟨Nat.le_of_ble_eq_true rfl, Nat.le_of_ble_eq_true rfl⟩) ⟨fun a U g mk q => by obtain ⟨q0, q1, qP, qK, qD, qS⟩ := q; exact ⟨q0, q1, qP, va_K.moved (u := U) (U := U.calling g mk a) (Vm.Alike.refl U.vm) qK, qD, SZ.same rfl rfl qS⟩, va_recv hK hP (ci := 4) (q0 := krd) rfl er_122, fun U hU hW => ⟨rfl, by rw [hU], by rw [hU]; exact hP, va_K.moved hW.alike hK, hD.weaken (fun _ _ _ _ => trivial), hsz9.go hS hW hU hFc⟩⟩ rfl rfl hl.1 rfl (lv_room (Nat.le_of_ble_eq_true rfl)) dX4_read_32 ⟨Nat.le_of_ble_eq_true rfl, Nat.le_of_ble_eq_true rfl⟩) hS (fun q _ h => hFc q h) hFc (fun r_138 u t H1 locs ht hvm w_139 hB hz1 hk1 hS => ?_)
  obtain ⟨ws_140, ty_141, hm_142, ht_144, hP1, hK1, hD1, hx_143⟩ := hB
  rw [ht] at hP1
  have hK := va_K.moved hvm.symm hK1
  have hD := hD1.weaken (fun _ _ _ h => hFc _ h)
  generalize H1 = H at hP1 hS ⊢
  have hP := hP1
  obtain ⟨g_146, e_145, h_147⟩ := hm_142.obj er_122
  obtain ⟨z_148, z_149, z_150, z_151, z_152, z_153, rfl⟩ := smX4 h_147
  obtain ⟨g_155, e_154, h_156⟩ := hm_142.obj et_123
  obtain ⟨z_157, z_158, z_159, z_160, rfl⟩ := smX6 h_156
  obtain ⟨f_162, e_161⟩ := hm_142.arrI e_128
  have u_163 := ht_144 _ _ u_129
  obtain ⟨f_165, e_164⟩ := hm_142.arrI e_134
  have u_166 := ht_144 _ _ u_135
  have hsm := hsm.tr (hm_142.mono (by decide))
  have htx := htx.tr ht_144
  obtain ⟨ts_167, te_168, cc_169, ra_170, rb_171, rc_172, rv_173, re_174, ya_175, h1_176, h2_177, h3_178, h4_179, er_180, et_181, ⟨k_182, c9_183, t_184, f_185, e_186, u_187⟩, ⟨k_188, c9_189, t_190, f_191, e_192, u_193⟩⟩ := id hx_143
  rcases w_139 with rfl | rfl
  · refine lv_if_eq (tgt := 46) hx hb dX4_read_35 (by decide) (fun c_194 => ?_) (fun c_194 => absurd (by decide) c_194)
    refine lv_iconst (v := 0) hx hb dX4_read_46 (by decide) ?_
    exact W.zret (v := 0) hx hb hr rfl (fun t ht hW => ⟨⟨0, (), rfl, Or.inl rfl, ws_140, ty_141, hsm, htx, by rw [ht]; exact hP, va_K.moved hW.alike hK, hD, (⟨ts_167, te_168, cc_169, ra_170, rb_171, rc_172, rv_173, re_174, ya_175, by omega, by omega, by omega, by omega, er_180, et_181, ⟨k_182, c9_183, t_184, f_185, e_186, u_187⟩, ⟨k_188, c9_189, t_190, f_191, e_192, u_193⟩⟩ : RS ws_140 ty_141 rd krd tp ktp cd bb tl)⟩, hS.F ht⟩) hS.2.2 dX4_read_47
  refine lv_if_eq (tgt := 46) hx hb dX4_read_35 (by decide) (fun c_195 => absurd c_195 (by decide)) (fun c_195 => ?_)
  refine lv_aload_n hx hb dX4_read_38 rfl (lv_at hl 0 rfl) ?_
  refine lv_iconst (v := 0) hx hb dX4_read_39 (by decide) ?_
  have hFc := free_all hD hS hA
  refine va_calli (va_runV (As := [.int 0]) (rest := []) ⟨hx, hb, hml, hown, hts⟩ (r_readEither0 l D ws_140 ty_141 adK adV fo rd krd tp ktp cd bb tl  H.size (⟨ts_167, te_168, cc_169, ra_170, rb_171, rc_172, rv_173, re_174, ya_175, by omega, by omega, by omega, by omega, er_180, et_181, ⟨k_182, c9_183, t_184, f_185, e_186, u_187⟩, ⟨k_188, c9_189, t_190, f_191, e_192, u_193⟩⟩ : RS ws_140 ty_141 rd krd tp ktp cd bb tl)) (cwV 1 hts gX4_read_X4_readEither rfl rfl rfl (by decide +kernel) ⟨Nat.le_of_ble_eq_true rfl, Nat.le_of_ble_eq_true rfl⟩) ⟨fun a U g mk q => by obtain ⟨q0, q1, qP, qK, qD, qS⟩ := q; exact ⟨q0, q1, qP, va_K.moved (u := U) (U := U.calling g mk a) (Vm.Alike.refl U.vm) qK, qD, SZ.same rfl rfl qS⟩, va_recv hK hP (ci := 4) (q0 := krd) rfl er_180, fun U hU hW => ⟨rfl, by rw [hU], by rw [hU]; exact hP, va_K.moved hW.alike hK, hD.weaken (fun _ _ _ _ => trivial), hsz9.go hS hW hU hFc⟩⟩ rfl rfl hl.1 rfl (lv_room (Nat.le_of_ble_eq_true rfl)) dX4_read_40 ⟨Nat.le_of_ble_eq_true rfl, Nat.le_of_ble_eq_true rfl⟩) hS (fun q _ h => hFc q h) hFc (fun r_196 u t H1 locs ht hvm w_197 hB hz1 hk1 hS => ?_)
  obtain ⟨ws_198, ty_199, hm_200, ht_202, hP1, hK1, hD1, hx_201⟩ := hB
  rw [ht] at hP1
  have hK := va_K.moved hvm.symm hK1
  have hD := hD1.weaken (fun _ _ _ h => hFc _ h)
  generalize H1 = H at hP1 hS ⊢
  have hP := hP1
  obtain ⟨g_204, e_203, h_205⟩ := hm_200.obj er_180
  obtain ⟨z_206, z_207, z_208, z_209, z_210, z_211, rfl⟩ := smX4 h_205
  obtain ⟨g_213, e_212, h_214⟩ := hm_200.obj et_181
  obtain ⟨z_215, z_216, z_217, z_218, rfl⟩ := smX6 h_214
  obtain ⟨f_220, e_219⟩ := hm_200.arrI e_186
  have u_221 := ht_202 _ _ u_187
  obtain ⟨f_223, e_222⟩ := hm_200.arrI e_192
  have u_224 := ht_202 _ _ u_193
  have hsm := hsm.tr (hm_200.mono (by decide))
  have htx := htx.tr ht_202
  obtain ⟨ts_225, te_226, cc_227, ra_228, rb_229, rc_230, rv_231, re_232, ya_233, h1_234, h2_235, h3_236, h4_237, er_238, et_239, ⟨k_240, c9_241, t_242, f_243, e_244, u_245⟩, ⟨k_246, c9_247, t_248, f_249, e_250, u_251⟩⟩ := id hx_201
  rcases w_197 with rfl | rfl
  · refine lv_if_ne (tgt := 48) hx hb dX4_read_43 (by decide) (fun c_252 => absurd (by decide) c_252) (fun c_252 => ?_)
    refine lv_iconst (v := 0) hx hb dX4_read_46 (by decide) ?_
    exact W.zret (v := 0) hx hb hr rfl (fun t ht hW => ⟨⟨0, (), rfl, Or.inl rfl, ws_198, ty_199, hsm, htx, by rw [ht]; exact hP, va_K.moved hW.alike hK, hD, (⟨ts_225, te_226, cc_227, ra_228, rb_229, rc_230, rv_231, re_232, ya_233, by omega, by omega, by omega, by omega, er_238, et_239, ⟨k_240, c9_241, t_242, f_243, e_244, u_245⟩, ⟨k_246, c9_247, t_248, f_249, e_250, u_251⟩⟩ : RS ws_198 ty_199 rd krd tp ktp cd bb tl)⟩, hS.F ht⟩) hS.2.2 dX4_read_47
  refine lv_if_ne (tgt := 48) hx hb dX4_read_43 (by decide) (fun c_253 => ?_) (fun c_253 => absurd c_253 (by decide))
  refine lv_aload_n hx hb dX4_read_48 rfl (lv_at hl 0 rfl) ?_
  refine va_ldcS hx hb hown hsz9.2.2.2.1 dX4_read_49 ?_
  have hFc := free_all hD hS hA
  refine va_calli (va_runV (As := [.ref (adK 0)]) (rest := []) ⟨hx, hb, hml, hown, hts⟩ (r_readWord l D ws_198 ty_199 adK adV fo rd krd tp ktp cd bb tl 0 H.size (⟨ts_225, te_226, cc_227, ra_228, rb_229, rc_230, rv_231, re_232, ya_233, by omega, by omega, by omega, by omega, er_238, et_239, ⟨k_240, c9_241, t_242, f_243, e_244, u_245⟩, ⟨k_246, c9_247, t_248, f_249, e_250, u_251⟩⟩ : RS ws_198 ty_199 rd krd tp ktp cd bb tl) (by decide)) (cwV 1 hts gX4_read_X4_readWord rfl rfl rfl (by decide +kernel) ⟨Nat.le_of_ble_eq_true rfl, Nat.le_of_ble_eq_true rfl⟩) ⟨fun a U g mk q => by obtain ⟨q0, q1, qP, qK, qD, qS⟩ := q; exact ⟨q0, q1, qP, va_K.moved (u := U) (U := U.calling g mk a) (Vm.Alike.refl U.vm) qK, qD, SZ.same rfl rfl qS⟩, va_recv hK hP (ci := 4) (q0 := krd) rfl er_238, fun U hU hW => ⟨rfl, by rw [hU], by rw [hU]; exact hP, va_K.moved hW.alike hK, hD.weaken (fun _ _ _ _ => trivial), hsz9.go hS hW hU hFc⟩⟩ rfl rfl hl.1 rfl (lv_room (Nat.le_of_ble_eq_true rfl)) dX4_read_51 ⟨Nat.le_of_ble_eq_true rfl, Nat.le_of_ble_eq_true rfl⟩) hS (fun q _ h => hFc q h) hFc (fun r_254 u t H1 locs ht hvm w_255 hB hz1 hk1 hS => ?_)
  obtain ⟨ws_256, ty_257, hm_258, ht_260, hP1, hK1, hD1, hx_259⟩ := hB
  rw [ht] at hP1
  have hK := va_K.moved hvm.symm hK1
  have hD := hD1.weaken (fun _ _ _ h => hFc _ h)
  generalize H1 = H at hP1 hS ⊢
  have hP := hP1
  obtain ⟨g_262, e_261, h_263⟩ := hm_258.obj er_238
  obtain ⟨z_264, z_265, z_266, z_267, z_268, z_269, rfl⟩ := smX4 h_263
  obtain ⟨g_271, e_270, h_272⟩ := hm_258.obj et_239
  obtain ⟨z_273, z_274, z_275, z_276, rfl⟩ := smX6 h_272
  obtain ⟨f_278, e_277⟩ := hm_258.arrI e_244
  have u_279 := ht_260 _ _ u_245
  obtain ⟨f_281, e_280⟩ := hm_258.arrI e_250
  have u_282 := ht_260 _ _ u_251
  have hsm := hsm.tr (hm_258.mono (by decide))
  have htx := htx.tr ht_260
  obtain ⟨ts_283, te_284, cc_285, ra_286, rb_287, rc_288, rv_289, re_290, ya_291, h1_292, h2_293, h3_294, h4_295, er_296, et_297, ⟨k_298, c9_299, t_300, f_301, e_302, u_303⟩, ⟨k_304, c9_305, t_306, f_307, e_308, u_309⟩⟩ := id hx_259
  rcases w_255 with rfl | rfl
  · refine lv_if_eq (tgt := 67) hx hb dX4_read_54 (by decide) (fun c_310 => ?_) (fun c_310 => absurd (by decide) c_310)
    refine lv_iconst (v := 0) hx hb dX4_read_67 (by decide) ?_
    exact W.zret (v := 0) hx hb hr rfl (fun t ht hW => ⟨⟨0, (), rfl, Or.inl rfl, ws_256, ty_257, hsm, htx, by rw [ht]; exact hP, va_K.moved hW.alike hK, hD, (⟨ts_283, te_284, cc_285, ra_286, rb_287, rc_288, rv_289, re_290, ya_291, by omega, by omega, by omega, by omega, er_296, et_297, ⟨k_298, c9_299, t_300, f_301, e_302, u_303⟩, ⟨k_304, c9_305, t_306, f_307, e_308, u_309⟩⟩ : RS ws_256 ty_257 rd krd tp ktp cd bb tl)⟩, hS.F ht⟩) hS.2.2 dX4_read_68
  refine lv_if_eq (tgt := 67) hx hb dX4_read_54 (by decide) (fun c_311 => absurd c_311 (by decide)) (fun c_311 => ?_)
  refine lv_aload_n hx hb dX4_read_57 rfl (lv_at hl 0 rfl) ?_
  refine lv_sipush (v := 30000) hx hb dX4_read_58 (by decide) ?_
  have hFc := free_all hD hS hA
  refine va_calli (va_runV (As := [.int 30000]) (rest := []) ⟨hx, hb, hml, hown, hts⟩ (r_readNumber l D ws_256 ty_257 adK adV fo rd krd tp ktp cd bb tl 30000 H.size (⟨ts_283, te_284, cc_285, ra_286, rb_287, rc_288, rv_289, re_290, ya_291, by omega, by omega, by omega, by omega, er_296, et_297, ⟨k_298, c9_299, t_300, f_301, e_302, u_303⟩, ⟨k_304, c9_305, t_306, f_307, e_308, u_309⟩⟩ : RS ws_256 ty_257 rd krd tp ktp cd bb tl)) (cwV 1 hts gX4_read_X4_readNumber rfl rfl rfl (by decide +kernel) ⟨Nat.le_of_ble_eq_true rfl, Nat.le_of_ble_eq_true rfl⟩) ⟨fun a U g mk q => by obtain ⟨q0, q1, qP, qK, qD, qS⟩ := q; exact ⟨q0, q1, qP, va_K.moved (u := U) (U := U.calling g mk a) (Vm.Alike.refl U.vm) qK, qD, SZ.same rfl rfl qS⟩, va_recv hK hP (ci := 4) (q0 := krd) rfl er_296, fun U hU hW => ⟨rfl, by rw [hU], by rw [hU]; exact hP, va_K.moved hW.alike hK, hD.weaken (fun _ _ _ _ => trivial), hsz9.go hS hW hU hFc⟩⟩ rfl rfl hl.1 rfl (lv_room (Nat.le_of_ble_eq_true rfl)) dX4_read_61 ⟨Nat.le_of_ble_eq_true rfl, Nat.le_of_ble_eq_true rfl⟩) hS (fun q _ h => hFc q h) hFc (fun r_312 u t H1 locs ht hvm w_313 hB hz1 hk1 hS => ?_)
  obtain ⟨ws_314, ty_315, hm_316, ht_318, hP1, hK1, hD1, hx_317⟩ := hB
  rw [ht] at hP1
  have hK := va_K.moved hvm.symm hK1
  have hD := hD1.weaken (fun _ _ _ h => hFc _ h)
  generalize H1 = H at hP1 hS ⊢
  have hP := hP1
  obtain ⟨g_320, e_319, h_321⟩ := hm_316.obj er_296
  obtain ⟨z_322, z_323, z_324, z_325, z_326, z_327, rfl⟩ := smX4 h_321
  obtain ⟨g_329, e_328, h_330⟩ := hm_316.obj et_297
  obtain ⟨z_331, z_332, z_333, z_334, rfl⟩ := smX6 h_330
  obtain ⟨f_336, e_335⟩ := hm_316.arrI e_302
  have u_337 := ht_318 _ _ u_303
  obtain ⟨f_339, e_338⟩ := hm_316.arrI e_308
  have u_340 := ht_318 _ _ u_309
  have hsm := hsm.tr (hm_316.mono (by decide))
  have htx := htx.tr ht_318
  obtain ⟨ts_341, te_342, cc_343, ra_344, rb_345, rc_346, rv_347, re_348, ya_349, h1_350, h2_351, h3_352, h4_353, er_354, et_355, ⟨k_356, c9_357, t_358, f_359, e_360, u_361⟩, ⟨k_362, c9_363, t_364, f_365, e_366, u_367⟩⟩ := id hx_317
  rcases w_313 with rfl | rfl
  · refine lv_if_ne (tgt := 69) hx hb dX4_read_64 (by decide) (fun c_368 => absurd (by decide) c_368) (fun c_368 => ?_)
    refine lv_iconst (v := 0) hx hb dX4_read_67 (by decide) ?_
    exact W.zret (v := 0) hx hb hr rfl (fun t ht hW => ⟨⟨0, (), rfl, Or.inl rfl, ws_314, ty_315, hsm, htx, by rw [ht]; exact hP, va_K.moved hW.alike hK, hD, (⟨ts_341, te_342, cc_343, ra_344, rb_345, rc_346, rv_347, re_348, ya_349, by omega, by omega, by omega, by omega, er_354, et_355, ⟨k_356, c9_357, t_358, f_359, e_360, u_361⟩, ⟨k_362, c9_363, t_364, f_365, e_366, u_367⟩⟩ : RS ws_314 ty_315 rd krd tp ktp cd bb tl)⟩, hS.F ht⟩) hS.2.2 dX4_read_68
  refine lv_if_ne (tgt := 69) hx hb dX4_read_64 (by decide) (fun c_369 => ?_) (fun c_369 => absurd c_369 (by decide))
  refine lv_aload_n hx hb dX4_read_69 rfl (lv_at hl 0 rfl) ?_
  refine lv_aload_n hx hb dX4_read_70 rfl (lv_at hl 0 rfl) ?_
  refine va_get (D := D) (ci := 4) (v := .int re_348) (C := RX4) (T := TX4) (N := 8) hx hb hts hin4 hown hK hP krd er_354 rfl 7 (by decide) (hts (.fieldLink RX4 56 "HoneyHouse$RuleReader" "value" "I") (List.mem_of_getElem? (i := 5) rfl)) (fun _ h9 => h9) rfl dX4_read_71 ?_
  refine va_put (D := D) (ci := 4) (v := .int re_348) (ty := .int) (C := RX4) (T := TX4) (N := 8) hx hb hts hin4 tyX4 tyX4_ok nmX4 hown hK hP hD hS krd er_354 rfl 2 (by decide) (hts (.fieldLink RX4 59 "HoneyHouse$RuleReader" "from" "I") (List.mem_of_getElem? (i := 6) rfl)) (fun _ h9 => h9) rfl (tyX4_ok 2 (by decide)) rfl rfl (Nat.le_of_ble_eq_true rfl) dX4_read_74 (fun H locs hP hD hS => ?_)
  have hP : va_P D vwCl (ws_314.set krd (rd, .inr (4, [.ref tp, .long ra_344, .int re_348, .int rc_346, .int rv_347, .ref cd, .int (nI cc_343), .int re_348]))) H := hP
  have hD : va_D A (ws_314.set krd (rd, .inr (4, [.ref tp, .long ra_344, .int re_348, .int rc_346, .int rv_347, .ref cd, .int (nI cc_343), .int re_348]))) := hD
  have hm_371 : sm [4] ws_314 (ws_314.set krd (rd, .inr (4, [.ref tp, .long ra_344, .int re_348, .int rc_346, .int rv_347, .ref cd, .int (nI cc_343), .int re_348]))) := sm.flds er_354 (smF.c (smV.rf _) (smF.c (smV.rf _) (smF.c (smV.i _ _) (smF.c (smV.rf _) (smF.c (smV.rf _) (smF.c (smV.rf _) (smF.c (smV.rf _) (smF.c (smV.rf _) (rfl))))))))) (List.mem_singleton.mpr rfl)
  have e_372 : (ws_314.set krd (rd, .inr (4, [.ref tp, .long ra_344, .int re_348, .int rc_346, .int rv_347, .ref cd, .int (nI cc_343), .int re_348])))[krd]? = some (rd, .inr (4, [.ref tp, .long ra_344, .int re_348, .int rc_346, .int rv_347, .ref cd, .int (nI cc_343), .int re_348])) := wset_self er_354
  generalize ws_314.set krd (rd, .inr (4, [.ref tp, .long ra_344, .int re_348, .int rc_346, .int rv_347, .ref cd, .int (nI cc_343), .int re_348])) = ws_370 at hP hD hm_371 e_372
  have e_373 := hm_371.objK et_355 (by decide)
  obtain ⟨f_375, e_374⟩ := hm_371.arrI e_360
  obtain ⟨f_377, e_376⟩ := hm_371.arrI e_366
  have hsm := hsm.tr (hm_371.mono (by decide))
  refine lv_aload_n hx hb dX4_read_77 rfl (lv_at hl 0 rfl) ?_
  refine lv_bipush (v := 59) hx hb dX4_read_78 (by decide) ?_
  have hFc := free_all hD hS hA
  refine va_calli (va_runV (As := [.int 59]) (rest := []) ⟨hx, hb, hml, hown, hts⟩ (r_readByte l D ws_370 ty_315 adK adV fo rd krd tp ktp cd bb tl 59 H.size (⟨ts_341, te_342, cc_343, ra_344, re_348, rc_346, rv_347, re_348, ya_349, by omega, by omega, by omega, by omega, e_372, e_373, ⟨k_356, c9_357, t_358, f_375, e_374, u_361⟩, ⟨k_362, c9_363, t_364, f_377, e_376, u_367⟩⟩ : RS ws_370 ty_315 rd krd tp ktp cd bb tl)) (cwV 1 hts gX4_read_X4_readByte rfl rfl rfl (by decide +kernel) ⟨Nat.le_of_ble_eq_true rfl, Nat.le_of_ble_eq_true rfl⟩) ⟨fun a U g mk q => by obtain ⟨q0, q1, qP, qK, qD, qS⟩ := q; exact ⟨q0, q1, qP, va_K.moved (u := U) (U := U.calling g mk a) (Vm.Alike.refl U.vm) qK, qD, SZ.same rfl rfl qS⟩, va_recv hK hP (ci := 4) (q0 := krd) rfl e_372, fun U hU hW => ⟨rfl, by rw [hU], by rw [hU]; exact hP, va_K.moved hW.alike hK, hD.weaken (fun _ _ _ _ => trivial), hsz9.go hS hW hU hFc⟩⟩ rfl rfl hl.1 rfl (lv_room (Nat.le_of_ble_eq_true rfl)) dX4_read_80 ⟨Nat.le_of_ble_eq_true rfl, Nat.le_of_ble_eq_true rfl⟩) hS (fun q _ h => hFc q h) hFc (fun r_378 u t H1 locs ht hvm w_379 hB hz1 hk1 hS => ?_)
  obtain ⟨ws_380, ty_381, hm_382, ht_384, hP1, hK1, hD1, hx_383⟩ := hB
  rw [ht] at hP1
  have hK := va_K.moved hvm.symm hK1
  have hD := hD1.weaken (fun _ _ _ h => hFc _ h)
  generalize H1 = H at hP1 hS ⊢
  have hP := hP1
  obtain ⟨g_386, e_385, h_387⟩ := hm_382.obj e_372
  obtain ⟨z_388, z_389, z_390, z_391, z_392, z_393, rfl⟩ := smX4 h_387
  obtain ⟨g_395, e_394, h_396⟩ := hm_382.obj e_373
  obtain ⟨z_397, z_398, z_399, z_400, rfl⟩ := smX6 h_396
  obtain ⟨f_402, e_401⟩ := hm_382.arrI e_374
  have u_403 := ht_384 _ _ u_361
  obtain ⟨f_405, e_404⟩ := hm_382.arrI e_376
  have u_406 := ht_384 _ _ u_367
  have hsm := hsm.tr (hm_382.mono (by decide))
  have htx := htx.tr ht_384
  obtain ⟨ts_407, te_408, cc_409, ra_410, rb_411, rc_412, rv_413, re_414, ya_415, h1_416, h2_417, h3_418, h4_419, er_420, et_421, ⟨k_422, c9_423, t_424, f_425, e_426, u_427⟩, ⟨k_428, c9_429, t_430, f_431, e_432, u_433⟩⟩ := id hx_383
  rcases w_379 with rfl | rfl
  · refine lv_if_eq (tgt := 107) hx hb dX4_read_83 (by decide) (fun c_434 => ?_) (fun c_434 => absurd (by decide) c_434)
    refine lv_iconst (v := 0) hx hb dX4_read_107 (by decide) ?_
    exact W.zret (v := 0) hx hb hr rfl (fun t ht hW => ⟨⟨0, (), rfl, Or.inl rfl, ws_380, ty_381, hsm, htx, by rw [ht]; exact hP, va_K.moved hW.alike hK, hD, (⟨ts_407, te_408, cc_409, ra_410, rb_411, rc_412, rv_413, re_414, ya_415, by omega, by omega, by omega, by omega, er_420, et_421, ⟨k_422, c9_423, t_424, f_425, e_426, u_427⟩, ⟨k_428, c9_429, t_430, f_431, e_432, u_433⟩⟩ : RS ws_380 ty_381 rd krd tp ktp cd bb tl)⟩, hS.F ht⟩) hS.2.2 dX4_read_108
  refine lv_if_eq (tgt := 107) hx hb dX4_read_83 (by decide) (fun c_435 => absurd c_435 (by decide)) (fun c_435 => ?_)
  refine lv_aload_n hx hb dX4_read_86 rfl (lv_at hl 0 rfl) ?_
  refine va_get (D := D) (ci := 4) (v := .ref tp) (C := RX4) (T := TX4) (N := 8) hx hb hts hin4 hown hK hP krd er_420 rfl 0 (by decide) (hts (.fieldLink RX4 12 "HoneyHouse$RuleReader" "tape" "LHoneyHouse$Tape;") (List.mem_of_getElem? (i := 4) rfl)) (fun _ h9 => h9) rfl dX4_read_87 ?_
  refine va_get (D := D) (ci := 6) (v := .int ya_415) (C := RX6) (T := TX6) (N := 5) hx hb hts hin6 hown hK hP ktp et_421 rfl 1 (by decide) (hts (.fieldLink RX4 61 "HoneyHouse$Tape" "kind" "I") (List.mem_of_getElem? (i := 7) rfl)) (fun _ h9 => h9) rfl dX4_read_90 ?_
  refine lv_if_eq (tgt := 103) hx hb dX4_read_93 (by decide) (fun c_436 => ?_) (fun c_436 => ?_)
  · refine lv_iconst (v := 1) hx hb dX4_read_103 (by decide) ?_
    refine lv_goto (tgt := 108) hx hb dX4_read_104 (by decide) ?_
    exact W.zret (v := 1) hx hb hr rfl (fun t ht hW => ⟨⟨1, (), rfl, Or.inr rfl, ws_380, ty_381, hsm, htx, by rw [ht]; exact hP, va_K.moved hW.alike hK, hD, (⟨ts_407, te_408, cc_409, ra_410, rb_411, rc_412, rv_413, re_414, ya_415, by omega, by omega, by omega, by omega, er_420, et_421, ⟨k_422, c9_423, t_424, f_425, e_426, u_427⟩, ⟨k_428, c9_429, t_430, f_431, e_432, u_433⟩⟩ : RS ws_380 ty_381 rd krd tp ktp cd bb tl)⟩, hS.F ht⟩) hS.2.2 dX4_read_108
  refine lv_aload_n hx hb dX4_read_96 rfl (lv_at hl 0 rfl) ?_
  have hFc := free_all hD hS hA
  refine va_calli (va_runV (As := []) (rest := []) ⟨hx, hb, hml, hown, hts⟩ (r_failHere l D ws_380 ty_381 adK adV fo rd krd tp ktp cd bb tl  H.size (⟨ts_407, te_408, cc_409, ra_410, rb_411, rc_412, rv_413, re_414, ya_415, by omega, by omega, by omega, by omega, er_420, et_421, ⟨k_422, c9_423, t_424, f_425, e_426, u_427⟩, ⟨k_428, c9_429, t_430, f_431, e_432, u_433⟩⟩ : RS ws_380 ty_381 rd krd tp ktp cd bb tl)) (cwV 0 hts gX4_read_X4_failHere rfl rfl rfl (by decide +kernel) ⟨Nat.le_of_ble_eq_true rfl, Nat.le_of_ble_eq_true rfl⟩) ⟨fun a U g mk q => by obtain ⟨q0, q1, qP, qK, qD, qS⟩ := q; exact ⟨q0, q1, qP, va_K.moved (u := U) (U := U.calling g mk a) (Vm.Alike.refl U.vm) qK, qD, SZ.same rfl rfl qS⟩, va_recv hK hP (ci := 4) (q0 := krd) rfl er_420, fun U hU hW => ⟨rfl, by rw [hU], by rw [hU]; exact hP, va_K.moved hW.alike hK, hD.weaken (fun _ _ _ _ => trivial), hsz9.go hS hW hU hFc⟩⟩ rfl rfl hl.1 rfl (lv_room (Nat.le_of_ble_eq_true rfl)) dX4_read_97 ⟨Nat.le_of_ble_eq_true rfl, Nat.le_of_ble_eq_true rfl⟩) hS (fun q _ h => hFc q h) hFc (fun r_437 u t H1 locs ht hvm w_438 hB hz1 hk1 hS => ?_)
  obtain ⟨ws_439, ty_440, hm_441, ht_443, hP1, hK1, hD1, hx_442⟩ := hB
  rw [ht] at hP1
  have hK := va_K.moved hvm.symm hK1
  have hD := hD1.weaken (fun _ _ _ h => hFc _ h)
  generalize H1 = H at hP1 hS ⊢
  have hP := hP1
  obtain ⟨g_445, e_444, h_446⟩ := hm_441.obj er_420
  obtain ⟨z_447, z_448, z_449, z_450, z_451, z_452, rfl⟩ := smX4 h_446
  obtain ⟨g_454, e_453, h_455⟩ := hm_441.obj et_421
  obtain ⟨z_456, z_457, z_458, z_459, rfl⟩ := smX6 h_455
  obtain ⟨f_461, e_460⟩ := hm_441.arrI e_426
  have u_462 := ht_443 _ _ u_427
  obtain ⟨f_464, e_463⟩ := hm_441.arrI e_432
  have u_465 := ht_443 _ _ u_433
  have hsm := hsm.tr (hm_441.mono (by decide))
  have htx := htx.tr ht_443
  obtain ⟨ts_466, te_467, cc_468, ra_469, rb_470, rc_471, rv_472, re_473, ya_474, h1_475, h2_476, h3_477, h4_478, er_479, et_480, ⟨k_481, c9_482, t_483, f_484, e_485, u_486⟩, ⟨k_487, c9_488, t_489, f_490, e_491, u_492⟩⟩ := id hx_442
  subst w_438
  refine lv_if_eq (tgt := 107) hx hb dX4_read_100 (by decide) (fun c_493 => ?_) (fun c_493 => absurd (by decide) c_493)
  refine lv_iconst (v := 0) hx hb dX4_read_107 (by decide) ?_
  exact W.zret (v := 0) hx hb hr rfl (fun t ht hW => ⟨⟨0, (), rfl, Or.inl rfl, ws_439, ty_440, hsm, htx, by rw [ht]; exact hP, va_K.moved hW.alike hK, hD, (⟨ts_466, te_467, cc_468, ra_469, rb_470, rc_471, rv_472, re_473, ya_474, by omega, by omega, by omega, by omega, er_479, et_480, ⟨k_481, c9_482, t_483, f_484, e_485, u_486⟩, ⟨k_487, c9_488, t_489, f_490, e_491, u_492⟩⟩ : RS ws_439 ty_440 rd krd tp ktp cd bb tl)⟩, hS.F ht⟩) hS.2.2 dX4_read_108
