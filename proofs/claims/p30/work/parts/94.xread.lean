theorem dX4_read_0 : decode cX4_read 0 = .ok (.aload_n 0, 1) := by decide +kernel
theorem dX4_read_1 : decode cX4_read 1 = .ok (.iconst 0, 1) := by decide +kernel
theorem dX4_read_2 : decode cX4_read 2 = .ok (.putfield 26, 3) := by decide +kernel
theorem dX4_read_5 : decode cX4_read 5 = .ok (.aload_n 0, 1) := by decide +kernel
theorem dX4_read_6 : decode cX4_read 6 = .ok (.iconst (-1), 1) := by decide +kernel
theorem dX4_read_7 : decode cX4_read 7 = .ok (.putfield 18, 3) := by decide +kernel
theorem dX4_read_10 : decode cX4_read 10 = .ok (.aload_n 0, 1) := by decide +kernel
theorem dX4_read_11 : decode cX4_read 11 = .ok (.iconst 0, 1) := by decide +kernel
theorem dX4_read_12 : decode cX4_read 12 = .ok (.putfield 29, 3) := by decide +kernel
theorem dX4_read_15 : decode cX4_read 15 = .ok (.aload_n 0, 1) := by decide +kernel
theorem dX4_read_16 : decode cX4_read 16 = .ok (.getfield 12, 3) := by decide +kernel
theorem dX4_read_19 : decode cX4_read 19 = .ok (.invokevirtual 32, 3) := by decide +kernel
theorem dX4_read_22 : decode cX4_read 22 = .ok (.aload_n 0, 1) := by decide +kernel
theorem dX4_read_23 : decode cX4_read 23 = .ok (.invokevirtual 35, 3) := by decide +kernel
theorem dX4_read_26 : decode cX4_read 26 = .ok (.ifCond .eq 20, 3) := by decide +kernel
theorem dX4_read_29 : decode cX4_read 29 = .ok (.aload_n 0, 1) := by decide +kernel
theorem dX4_read_30 : decode cX4_read 30 = .ok (.bipush 58, 2) := by decide +kernel
theorem dX4_read_32 : decode cX4_read 32 = .ok (.invokevirtual 39, 3) := by decide +kernel
theorem dX4_read_35 : decode cX4_read 35 = .ok (.ifCond .eq 11, 3) := by decide +kernel
theorem dX4_read_38 : decode cX4_read 38 = .ok (.aload_n 0, 1) := by decide +kernel
theorem dX4_read_39 : decode cX4_read 39 = .ok (.iconst 0, 1) := by decide +kernel
theorem dX4_read_40 : decode cX4_read 40 = .ok (.invokevirtual 43, 3) := by decide +kernel
theorem dX4_read_43 : decode cX4_read 43 = .ok (.ifCond .ne 5, 3) := by decide +kernel
theorem dX4_read_46 : decode cX4_read 46 = .ok (.iconst 0, 1) := by decide +kernel
theorem dX4_read_47 : decode cX4_read 47 = .ok (.ireturn, 1) := by decide +kernel
theorem dX4_read_48 : decode cX4_read 48 = .ok (.aload_n 0, 1) := by decide +kernel
theorem dX4_read_49 : decode cX4_read 49 = .ok (.ldc 47, 2) := by decide +kernel
theorem dX4_read_51 : decode cX4_read 51 = .ok (.invokevirtual 49, 3) := by decide +kernel
theorem dX4_read_54 : decode cX4_read 54 = .ok (.ifCond .eq 13, 3) := by decide +kernel
theorem dX4_read_57 : decode cX4_read 57 = .ok (.aload_n 0, 1) := by decide +kernel
theorem dX4_read_58 : decode cX4_read 58 = .ok (.sipush 30000, 3) := by decide +kernel
theorem dX4_read_61 : decode cX4_read 61 = .ok (.invokevirtual 53, 3) := by decide +kernel
theorem dX4_read_64 : decode cX4_read 64 = .ok (.ifCond .ne 5, 3) := by decide +kernel
theorem dX4_read_67 : decode cX4_read 67 = .ok (.iconst 0, 1) := by decide +kernel
theorem dX4_read_68 : decode cX4_read 68 = .ok (.ireturn, 1) := by decide +kernel
theorem dX4_read_69 : decode cX4_read 69 = .ok (.aload_n 0, 1) := by decide +kernel
theorem dX4_read_70 : decode cX4_read 70 = .ok (.aload_n 0, 1) := by decide +kernel
theorem dX4_read_71 : decode cX4_read 71 = .ok (.getfield 56, 3) := by decide +kernel
theorem dX4_read_74 : decode cX4_read 74 = .ok (.putfield 59, 3) := by decide +kernel
theorem dX4_read_77 : decode cX4_read 77 = .ok (.aload_n 0, 1) := by decide +kernel
theorem dX4_read_78 : decode cX4_read 78 = .ok (.bipush 59, 2) := by decide +kernel
theorem dX4_read_80 : decode cX4_read 80 = .ok (.invokevirtual 39, 3) := by decide +kernel
theorem dX4_read_83 : decode cX4_read 83 = .ok (.ifCond .eq 24, 3) := by decide +kernel
theorem dX4_read_86 : decode cX4_read 86 = .ok (.aload_n 0, 1) := by decide +kernel
theorem dX4_read_87 : decode cX4_read 87 = .ok (.getfield 12, 3) := by decide +kernel
theorem dX4_read_90 : decode cX4_read 90 = .ok (.getfield 61, 3) := by decide +kernel
theorem dX4_read_93 : decode cX4_read 93 = .ok (.ifCond .eq 10, 3) := by decide +kernel
theorem dX4_read_96 : decode cX4_read 96 = .ok (.aload_n 0, 1) := by decide +kernel
theorem dX4_read_97 : decode cX4_read 97 = .ok (.invokevirtual 64, 3) := by decide +kernel
theorem dX4_read_100 : decode cX4_read 100 = .ok (.ifCond .eq 7, 3) := by decide +kernel
theorem dX4_read_103 : decode cX4_read 103 = .ok (.iconst 1, 1) := by decide +kernel
theorem dX4_read_104 : decode cX4_read 104 = .ok (.goto 4, 3) := by decide +kernel
theorem dX4_read_107 : decode cX4_read 107 = .ok (.iconst 0, 1) := by decide +kernel
theorem dX4_read_108 : decode cX4_read 108 = .ok (.ireturn, 1) := by decide +kernel
set_option maxRecDepth 20000 in
theorem ggX4_read_X6_rewind : GoodIn wsX4_read wsX6_rewind := goodIn_r _ [12, 13, 14, 15, 16, 11, 17, 18, 19, 20, 21, 22, 23, 24, 25, 26, 27, 28, 164, 165, 166, 167, 168] rfl (by decide +kernel)
set_option maxRecDepth 20000 in
theorem gX4_read_X6_rewind : GoodIn wsX4_read (wsV RX4 32 RX6 yX6_rewind wsX6_rewind) := goodIn_app (goodIn_of _ (by decide +kernel)) ggX4_read_X6_rewind
set_option maxRecDepth 20000 in
theorem ggX4_read_X4_readName : GoodIn wsX4_read wsX4_readName := goodIn_r _ [33, 4, 7, 34, 35, 36, 37, 38, 39, 32, 40, 41, 42, 43, 11, 44, 20, 13, 19, 45, 46, 47, 48, 49, 50, 51, 52, 53, 54, 55, 56, 21, 22, 23, 24, 18, 25, 57, 58, 59, 60, 61, 62, 63, 64, 65, 66, 67, 68, 69, 70, 71, 72, 73, 74, 75, 76, 77, 78, 79, 80, 81, 82, 83, 84, 85, 86, 87, 88, 89, 90, 91, 92, 93, 94, 95, 96, 97, 98, 99, 100, 101, 102, 103, 104, 105, 1, 2, 106, 107, 108, 109, 110, 111, 15, 16, 17, 26, 27, 28, 156, 157, 158, 159, 160, 161, 162, 163, 164, 165, 166, 167, 168] rfl (by decide +kernel)
set_option maxRecDepth 20000 in
theorem gX4_read_X4_readName : GoodIn wsX4_read (wsV RX4 35 RX4 yX4_readName wsX4_readName) := goodIn_app (goodIn_of _ (by decide +kernel)) ggX4_read_X4_readName
set_option maxRecDepth 20000 in
theorem ggX4_read_X4_readByte : GoodIn wsX4_read wsX4_readByte := goodIn_r _ [115, 4, 116, 117, 118, 11, 119, 20, 19, 21, 22, 23, 24, 18, 25, 98, 99, 100, 32, 101, 35, 102, 103, 104, 105, 1, 2, 111, 15, 16, 17, 13, 26, 27, 28, 156, 157, 158, 159, 160, 161, 162, 163, 164, 165, 166, 167, 168] rfl (by decide +kernel)
set_option maxRecDepth 20000 in
theorem gX4_read_X4_readByte : GoodIn wsX4_read (wsV RX4 39 RX4 yX4_readByte wsX4_readByte) := goodIn_app (goodIn_of _ (by decide +kernel)) ggX4_read_X4_readByte
set_option maxRecDepth 20000 in
theorem ggX4_read_X4_readEither : GoodIn wsX4_read wsX4_readEither := goodIn_r _ [123, 4, 124, 125, 126, 32, 127, 128, 129, 130, 41, 42, 43, 11, 44, 20, 13, 19, 45, 46, 47, 48, 49, 50, 51, 52, 53, 54, 55, 56, 21, 22, 23, 24, 18, 25, 57, 58, 59, 60, 61, 62, 63, 64, 65, 66, 67, 68, 69, 70, 71, 72, 73, 74, 75, 76, 77, 78, 79, 80, 81, 82, 83, 84, 85, 86, 87, 88, 89, 90, 91, 92, 93, 131, 132, 133, 134, 3, 135, 111, 15, 16, 17, 26, 27, 28, 136, 35, 116, 117, 118, 119, 137, 138, 139, 140, 5, 94, 95, 96, 97, 98, 99, 100, 101, 102, 103, 104, 105, 1, 2, 141, 142, 143, 144, 7, 34, 145, 146, 147, 148, 149, 150, 151, 120, 121, 122, 112, 113, 114, 115, 156, 157, 158, 159, 160, 161, 162, 163, 164, 165, 166, 167, 168] rfl (by decide +kernel)
set_option maxRecDepth 20000 in
theorem gX4_read_X4_readEither : GoodIn wsX4_read (wsV RX4 43 RX4 yX4_readEither wsX4_readEither) := goodIn_app (goodIn_of _ (by decide +kernel)) ggX4_read_X4_readEither
set_option maxRecDepth 20000 in
theorem ggX4_read_X4_readWord : GoodIn wsX4_read wsX4_readWord := goodIn_r _ [155, 4, 41, 42, 43, 11, 44, 20, 13, 19, 45, 46, 47, 48, 49, 50, 51, 52, 53, 54, 55, 56, 21, 22, 23, 24, 18, 25, 57, 58, 59, 60, 61, 62, 63, 64, 65, 66, 67, 68, 69, 70, 71, 72, 73, 74, 75, 76, 77, 78, 79, 80, 81, 82, 83, 84, 85, 86, 87, 88, 89, 90, 91, 92, 93, 98, 99, 100, 32, 101, 35, 102, 103, 104, 105, 1, 2, 111, 15, 16, 17, 26, 27, 28, 156, 157, 158, 159, 160, 161, 162, 163, 164, 165, 166, 167, 168] rfl (by decide +kernel)
set_option maxRecDepth 20000 in
theorem gX4_read_X4_readWord : GoodIn wsX4_read (wsV RX4 49 RX4 yX4_readWord wsX4_readWord) := goodIn_app (goodIn_of _ (by decide +kernel)) ggX4_read_X4_readWord
set_option maxRecDepth 20000 in
theorem ggX4_read_X4_readNumber : GoodIn wsX4_read wsX4_readNumber := goodIn_r _ [144, 4, 7, 34, 35, 5, 98, 99, 100, 32, 101, 102, 103, 104, 105, 1, 2, 145, 146, 147, 11, 148, 19, 13, 21, 22, 23, 24, 18, 25, 111, 15, 16, 17, 20, 26, 27, 28, 156, 157, 158, 159, 160, 161, 162, 163, 164, 165, 166, 167, 168] rfl (by decide +kernel)
set_option maxRecDepth 20000 in
theorem gX4_read_X4_readNumber : GoodIn wsX4_read (wsV RX4 53 RX4 yX4_readNumber wsX4_readNumber) := goodIn_app (goodIn_of _ (by decide +kernel)) ggX4_read_X4_readNumber
set_option maxRecDepth 20000 in
theorem ggX4_read_X4_failHere : GoodIn wsX4_read wsX4_failHere := goodIn_r _ [101, 4, 35, 102, 103, 104, 32, 105, 1, 2, 156, 157, 158, 159, 160, 161, 162, 163, 164, 165, 166, 167, 168] rfl (by decide +kernel)
set_option maxRecDepth 20000 in
theorem gX4_read_X4_failHere : GoodIn wsX4_read (wsV RX4 64 RX4 yX4_failHere wsX4_failHere) := goodIn_app (goodIn_of _ (by decide +kernel)) ggX4_read_X4_failHere
set_option maxHeartbeats 4000000 in
set_option maxRecDepth 100000 in
theorem r_read (l : Launch) (D : va_G) (ρ : Nat → Nat) (ws : va_W) (tys : List (ClassId × FieldType)) (adK adV : Nat → Nat) (fo : Option Nat) (rd krd tp ktp tl : Nat) (r1 : Int64) (r2 r3 r4 r6 r7 y1 y2 y3 : Int32) (bb kbb : Nat) (cbb : ClassId) (tbb : Nat) (fbb : Nat → Int32) (cd kcd : Nat) (ccd : ClassId) (tcd : Nat) (fcd : Nat → Int32) (sz : Nat) (htl : tl ≤ 400) (erd : ws[krd]? = some (rd, .inr (4, [.ref tp, .long r1, .int r2, .int r3, .int r4, .ref cd, .int r6, .int r7]))) (etp : ws[ktp]? = some (tp, .inr (6, [.int (nI tl), .int y1, .int y2, .int y3, .ref bb]))) (ebb : ws[kbb]? = some (bb, .inl (cbb, 400, .inl fbb))) (ubb : tys[tbb]? = some (cbb, .int)) (ecd : ws[kcd]? = some (cd, .inl (ccd, 200, .inl fcd))) (ucd : tys[tcd]? = some (ccd, .int)) (wrd : ρ krd = 0) (wtp : ρ ktp = 0) (wbb : ρ kbb = 0) (wcd : ρ kcd = 0) : Met l yX4_read wsX4_read ({ frames := 21, cells := 0, slots := 0, locals := 485 }) (va_Pc [.ref rd] (fun U => U.heap.size = sz ∧ va_P D vwCl ws U.heap ∧ va_K D vwCl tys U ∧ va_D (fun _ => True) ws ∧ SZ adK adV fo (va_A ws sz) U U.heap)) (va_Qi (fun (r : Int32) (_ : Unit) => r = 0 ∨ r = 1) (fun (_ : Unit) (t : State) => ∃ (ws' : va_W) (tys' : List (ClassId × FieldType)), sm ρ [4, 6] ws ws' ∧ tyx tys tys' ∧ va_P D vwCl ws' t.heap ∧ va_K D vwCl tys' t ∧ va_D (va_A ws sz) ws' ∧ (RS ρ ws' tys' rd krd tp ktp cd bb tl)) (va_A ws sz)) 0 0 (va_A ws sz) := by
  refine Met.ofW (cc := cX4_read) (maxL := 1) (ret := (some .boolean)) (by decide) rfl ?_
  intro p e s m args below meth c s₁ B hml hv
  obtain ⟨rfl, hsz, hP, hK, hD0, hsz9⟩ := hv
  have hx := B.exec
  have hb := B.bytes
  have hr := B.returns
  have hts := atoms_spec (ws := wsX4_read) B.pre
  have hown : s.vm.findClass RX4 = some m.cls := findClass_of_methodNamed B.named
  have hlocks := B.notSynchronized
  subst hsz
  have hD := hD0.self (sz := s.heap.size)
  generalize hAe : va_A ws s.heap.size = A at hD hsz9 ⊢
  have hA : ∀ q : Nat, s.heap.size ≤ q → A q := fun q h => by rw [← hAe]; exact Or.inr h
  have hS : va_S A s.heap s.heap [] := va_S.rf
  have hsm : sm ρ [4, 6] ws ws := sm.rf ws
  have htx : tyx tys tys := tyx.rf tys
  have hin4 : ∀ w ∈ u_ws RX4 TX4 8, w ∈ wsX4_read := (fun _ h9 => List.mem_cons_of_mem _ (List.mem_append_left _ ((List.mem_append_right _ h9))))
  have hin6 : ∀ w ∈ u_ws RX6 TX6 5, w ∈ wsX4_read := (fun _ h9 => List.mem_cons_of_mem _ ((List.mem_append_right _ h9)))
  have hl := lv_entry ([.ref rd]) (n := 1) (Nat.le_of_ble_eq_true rfl)
  rw [lg_entry_eq]
  generalize (lg_sl ([.ref rd]) ++ List.replicate (1 - (lg_sl ([.ref rd])).length) Slot.unset).toArray = ls at hl ⊢
  have hl : lv_has ls 1 [(0, .ref rd)] := hl
  refine lv_aload_n hx hb dX4_read_0 rfl (lv_at hl 0 rfl) ?_
  refine lv_iconst (v := 0) hx hb dX4_read_1 (by decide) ?_
  refine va_put (D := D) (ci := 4) (v := .int 0) (ty := .int) (C := RX4) (T := TX4) (N := 8) hx hb hts hin4 tyX4 tyX4_ok nmX4 hown hK hP hD hS krd erd rfl 3 (by decide) (hts (.fieldLink RX4 26 "HoneyHouse$RuleReader" "faultKind" "I") (List.mem_of_getElem? (i := 1) rfl)) (fun _ h9 => h9) rfl (tyX4_ok 3 (by decide)) rfl rfl (Nat.le_of_ble_eq_true rfl) dX4_read_2 (fun H locs hP hD hS => ?_)
  have hP : va_P D vwCl (ws.set krd (rd, .inr (4, [.ref tp, .long r1, .int r2, .int 0, .int r4, .ref cd, .int r6, .int r7]))) H := hP
  have hD : va_D A (ws.set krd (rd, .inr (4, [.ref tp, .long r1, .int r2, .int 0, .int r4, .ref cd, .int r6, .int r7]))) := hD
  have hm_2 : sm ρ [4] ws (ws.set krd (rd, .inr (4, [.ref tp, .long r1, .int r2, .int 0, .int r4, .ref cd, .int r6, .int r7]))) := sm.flds erd (smF.c (smV.rf _) (smF.c (smV.rf _) (smF.c (smV.rf _) (smF.c (smV.i _ _) (smF.c (smV.rf _) (smF.c (smV.rf _) (smF.c (smV.rf _) (smF.c (smV.rf _) (rfl))))))))) (List.mem_singleton.mpr rfl) wrd
  have e_3 : (ws.set krd (rd, .inr (4, [.ref tp, .long r1, .int r2, .int 0, .int r4, .ref cd, .int r6, .int r7])))[krd]? = some (rd, .inr (4, [.ref tp, .long r1, .int r2, .int 0, .int r4, .ref cd, .int r6, .int r7])) := wset_self erd
  generalize ws.set krd (rd, .inr (4, [.ref tp, .long r1, .int r2, .int 0, .int r4, .ref cd, .int r6, .int r7])) = ws_1 at hP hD hm_2 e_3
  have e_4 := hm_2.objK etp (by decide)
  obtain ⟨f_6, e_5⟩ := hm_2.arrI ebb
  obtain ⟨f_8, e_7⟩ := hm_2.arrI ecd
  have hsm := hsm.tr (hm_2.mono (by decide))
  refine lv_aload_n hx hb dX4_read_5 rfl (lv_at hl 0 rfl) ?_
  refine lv_iconst (v := (-1)) hx hb dX4_read_6 (by decide) ?_
  refine va_put (D := D) (ci := 4) (v := .int (-1)) (ty := .int) (C := RX4) (T := TX4) (N := 8) hx hb hts hin4 tyX4 tyX4_ok nmX4 hown hK hP hD hS krd e_3 rfl 4 (by decide) (hts (.fieldLink RX4 18 "HoneyHouse$RuleReader" "faultPlace" "I") (List.mem_of_getElem? (i := 2) rfl)) (fun _ h9 => h9) rfl (tyX4_ok 4 (by decide)) rfl rfl (Nat.le_of_ble_eq_true rfl) dX4_read_7 (fun H locs hP hD hS => ?_)
  have hP : va_P D vwCl (ws_1.set krd (rd, .inr (4, [.ref tp, .long r1, .int r2, .int 0, .int (-1), .ref cd, .int r6, .int r7]))) H := hP
  have hD : va_D A (ws_1.set krd (rd, .inr (4, [.ref tp, .long r1, .int r2, .int 0, .int (-1), .ref cd, .int r6, .int r7]))) := hD
  have hm_10 : sm ρ [4] ws_1 (ws_1.set krd (rd, .inr (4, [.ref tp, .long r1, .int r2, .int 0, .int (-1), .ref cd, .int r6, .int r7]))) := sm.flds e_3 (smF.c (smV.rf _) (smF.c (smV.rf _) (smF.c (smV.rf _) (smF.c (smV.rf _) (smF.c (smV.i _ _) (smF.c (smV.rf _) (smF.c (smV.rf _) (smF.c (smV.rf _) (rfl))))))))) (List.mem_singleton.mpr rfl) wrd
  have e_11 : (ws_1.set krd (rd, .inr (4, [.ref tp, .long r1, .int r2, .int 0, .int (-1), .ref cd, .int r6, .int r7])))[krd]? = some (rd, .inr (4, [.ref tp, .long r1, .int r2, .int 0, .int (-1), .ref cd, .int r6, .int r7])) := wset_self e_3
  generalize ws_1.set krd (rd, .inr (4, [.ref tp, .long r1, .int r2, .int 0, .int (-1), .ref cd, .int r6, .int r7])) = ws_9 at hP hD hm_10 e_11
  have e_12 := hm_10.objK e_4 (by decide)
  obtain ⟨f_14, e_13⟩ := hm_10.arrI e_5
  obtain ⟨f_16, e_15⟩ := hm_10.arrI e_7
  have hsm := hsm.tr (hm_10.mono (by decide))
  refine lv_aload_n hx hb dX4_read_10 rfl (lv_at hl 0 rfl) ?_
  refine lv_iconst (v := 0) hx hb dX4_read_11 (by decide) ?_
  refine va_put (D := D) (ci := 4) (v := .int 0) (ty := .int) (C := RX4) (T := TX4) (N := 8) hx hb hts hin4 tyX4 tyX4_ok nmX4 hown hK hP hD hS krd e_11 rfl 6 (by decide) (hts (.fieldLink RX4 29 "HoneyHouse$RuleReader" "codeCount" "I") (List.mem_of_getElem? (i := 3) rfl)) (fun _ h9 => h9) rfl (tyX4_ok 6 (by decide)) rfl rfl (Nat.le_of_ble_eq_true rfl) dX4_read_12 (fun H locs hP hD hS => ?_)
  have hP : va_P D vwCl (ws_9.set krd (rd, .inr (4, [.ref tp, .long r1, .int r2, .int 0, .int (-1), .ref cd, .int 0, .int r7]))) H := hP
  have hD : va_D A (ws_9.set krd (rd, .inr (4, [.ref tp, .long r1, .int r2, .int 0, .int (-1), .ref cd, .int 0, .int r7]))) := hD
  have hm_18 : sm ρ [4] ws_9 (ws_9.set krd (rd, .inr (4, [.ref tp, .long r1, .int r2, .int 0, .int (-1), .ref cd, .int 0, .int r7]))) := sm.flds e_11 (smF.c (smV.rf _) (smF.c (smV.rf _) (smF.c (smV.rf _) (smF.c (smV.rf _) (smF.c (smV.rf _) (smF.c (smV.rf _) (smF.c (smV.i _ _) (smF.c (smV.rf _) (rfl))))))))) (List.mem_singleton.mpr rfl) wrd
  have e_19 : (ws_9.set krd (rd, .inr (4, [.ref tp, .long r1, .int r2, .int 0, .int (-1), .ref cd, .int 0, .int r7])))[krd]? = some (rd, .inr (4, [.ref tp, .long r1, .int r2, .int 0, .int (-1), .ref cd, .int 0, .int r7])) := wset_self e_11
  generalize ws_9.set krd (rd, .inr (4, [.ref tp, .long r1, .int r2, .int 0, .int (-1), .ref cd, .int 0, .int r7])) = ws_17 at hP hD hm_18 e_19
  have e_20 := hm_18.objK e_12 (by decide)
  obtain ⟨f_22, e_21⟩ := hm_18.arrI e_13
  obtain ⟨f_24, e_23⟩ := hm_18.arrI e_15
  have hsm := hsm.tr (hm_18.mono (by decide))
  refine lv_aload_n hx hb dX4_read_15 rfl (lv_at hl 0 rfl) ?_
  refine va_get (D := D) (ci := 4) (v := .ref tp) (C := RX4) (T := TX4) (N := 8) hx hb hts hin4 hown hK hP krd e_19 rfl 0 (by decide) (hts (.fieldLink RX4 12 "HoneyHouse$RuleReader" "tape" "LHoneyHouse$Tape;") (List.mem_of_getElem? (i := 4) rfl)) (fun _ h9 => h9) rfl dX4_read_16 ?_
  have hFc := free_all hD hS hA
  refine va_callv (va_runV (As := []) (rest := []) ⟨hx, hb, hml, hown, hts⟩ (a_rewind l D ρ ws_17 tys tp ktp tl y1 y2 y3 bb kbb cbb tbb f_22 H.size (by omega) e_20 e_21 ubb wtp) (cwV 0 hts gX4_read_X6_rewind rfl rfl rfl (by decide +kernel) ⟨Nat.le_of_ble_eq_true rfl, Nat.le_of_ble_eq_true rfl⟩) ⟨fun a U g mk q => by obtain ⟨q0, q1, qP, qK, qD⟩ := q; exact ⟨q0, q1, qP, va_K.moved (u := U) (U := U.calling g mk a) (Vm.Alike.refl U.vm) qK, qD⟩, va_recv hK hP (ci := 6) (q0 := ktp) rfl e_20, fun U hU hW => ⟨rfl, by rw [hU], by rw [hU]; exact hP, va_K.moved hW.alike hK, hD.weaken (fun _ _ _ _ => trivial)⟩⟩ rfl rfl hl.1 rfl (lv_room (Nat.le_of_ble_eq_true rfl)) dX4_read_19 ⟨Nat.le_of_ble_eq_true rfl, Nat.le_of_ble_eq_true rfl⟩) hS (fun q _ h => hFc q h) hFc (fun u t H1 locs ht hvm w_26 hB hz1 hk1 hS => ?_)
  obtain ⟨ws_27, ty_28, hm_29, ht_31, hP1, hK1, hD1, hx_30⟩ := hB
  rw [ht] at hP1
  have hK := va_K.moved hvm.symm hK1
  have hD := hD1.weaken (fun _ _ _ h => hFc _ h)
  generalize H1 = H at hP1 hS ⊢
  have hP := hP1
  have e_32 := hm_29.objK e_19 (by decide)
  obtain ⟨g_34, e_33, h_35⟩ := hm_29.obj e_20
  obtain ⟨z_36, z_37, z_38, z_39, rfl⟩ := smX6 h_35
  obtain ⟨f_41, e_40⟩ := hm_29.arrI e_21
  have u_42 := ht_31 _ _ ubb
  obtain ⟨f_44, e_43⟩ := hm_29.arrI e_23
  have u_45 := ht_31 _ _ ucd
  have hsm := hsm.tr (hm_29.mono (by decide))
  have htx := htx.tr ht_31
  obtain ⟨k_46, s_47, e_48, h_49, h_50, h_51, e_52⟩ := hx_30
  refine lv_aload_n hx hb dX4_read_22 rfl (lv_at hl 0 rfl) ?_
  have hFc := free_all hD hS hA
  refine va_calli (va_runV (As := []) (rest := []) ⟨hx, hb, hml, hown, hts⟩ (r_readName l D ρ ws_27 ty_28 adK adV fo rd krd tp ktp cd bb tl  H.size (⟨s_47, e_48, 0, r1, r2, 0, (-1), r7, nI k_46, by omega, by omega, by omega, by omega, e_32, e_52, wrd, wtp, ⟨kcd, ccd, tcd, f_44, e_43, u_45, wcd⟩, ⟨kbb, cbb, tbb, f_41, e_40, u_42, wbb⟩⟩ : RS ρ ws_27 ty_28 rd krd tp ktp cd bb tl)) (cwV 0 hts gX4_read_X4_readName rfl rfl rfl (by decide +kernel) ⟨Nat.le_of_ble_eq_true rfl, Nat.le_of_ble_eq_true rfl⟩) ⟨fun a U g mk q => by obtain ⟨q0, q1, qP, qK, qD, qS⟩ := q; exact ⟨q0, q1, qP, va_K.moved (u := U) (U := U.calling g mk a) (Vm.Alike.refl U.vm) qK, qD, SZ.same rfl rfl qS⟩, va_recv hK hP (ci := 4) (q0 := krd) rfl e_32, fun U hU hW => ⟨rfl, by rw [hU], by rw [hU]; exact hP, va_K.moved hW.alike hK, hD.weaken (fun _ _ _ _ => trivial), hsz9.go hS hW hU hFc⟩⟩ rfl rfl hl.1 rfl (lv_room (Nat.le_of_ble_eq_true rfl)) dX4_read_23 ⟨Nat.le_of_ble_eq_true rfl, Nat.le_of_ble_eq_true rfl⟩) hS (fun q _ h => hFc q h) hFc (fun r_53 u t H1 locs ht hvm w_54 hB hz1 hk1 hS => ?_)
  obtain ⟨ws_55, ty_56, hm_57, ht_59, hP1, hK1, hD1, hx_58⟩ := hB
  rw [ht] at hP1
  have hK := va_K.moved hvm.symm hK1
  have hD := hD1.weaken (fun _ _ _ h => hFc _ h)
  generalize H1 = H at hP1 hS ⊢
  have hP := hP1
  obtain ⟨g_61, e_60, h_62⟩ := hm_57.obj e_32
  obtain ⟨z_63, z_64, z_65, z_66, z_67, z_68, rfl⟩ := smX4 h_62
  obtain ⟨g_70, e_69, h_71⟩ := hm_57.obj e_52
  obtain ⟨z_72, z_73, z_74, z_75, rfl⟩ := smX6 h_71
  obtain ⟨f_77, e_76⟩ := hm_57.arrI e_40
  have u_78 := ht_59 _ _ u_42
  obtain ⟨f_80, e_79⟩ := hm_57.arrI e_43
  have u_81 := ht_59 _ _ u_45
  have hsm := hsm.tr (hm_57.mono (by decide))
  have htx := htx.tr ht_59
  obtain ⟨ts_82, te_83, cc_84, ra_85, rb_86, rc_87, rv_88, re_89, ya_90, h1_91, h2_92, h3_93, h4_94, er_95, et_96, wr_97, wt_98, ⟨k_99, c9_100, t_101, f_102, e_103, u_104, w_105⟩, ⟨k_106, c9_107, t_108, f_109, e_110, u_111, w_112⟩⟩ := id hx_58
  rcases w_54 with rfl | rfl
  · refine lv_if_eq (tgt := 46) hx hb dX4_read_26 (by decide) (fun c_113 => ?_) (fun c_113 => absurd (by decide) c_113)
    refine lv_iconst (v := 0) hx hb dX4_read_46 (by decide) ?_
    exact W.zret (v := 0) hx hb hr rfl (fun t ht hW => ⟨⟨0, (), rfl, Or.inl rfl, ws_55, ty_56, hsm, htx, by rw [ht]; exact hP, va_K.moved hW.alike hK, hD, (⟨ts_82, te_83, cc_84, ra_85, rb_86, rc_87, rv_88, re_89, ya_90, by omega, by omega, by omega, by omega, er_95, et_96, wr_97, wt_98, ⟨k_99, c9_100, t_101, f_102, e_103, u_104, w_105⟩, ⟨k_106, c9_107, t_108, f_109, e_110, u_111, w_112⟩⟩ : RS ρ ws_55 ty_56 rd krd tp ktp cd bb tl)⟩, hS.F ht⟩) hS.2.2 dX4_read_47
  refine lv_if_eq (tgt := 46) hx hb dX4_read_26 (by decide) (fun c_114 => absurd c_114 (by decide)) (fun c_114 => ?_)
  refine lv_aload_n hx hb dX4_read_29 rfl (lv_at hl 0 rfl) ?_
  refine lv_bipush (v := 58) hx hb dX4_read_30 (by decide) ?_
  have hFc := free_all hD hS hA
  refine va_calli (va_runV (As := [.int 58]) (rest := []) ⟨hx, hb, hml, hown, hts⟩ (r_readByte l D ρ ws_55 ty_56 adK adV fo rd krd tp ktp cd bb tl 58 H.size (⟨ts_82, te_83, cc_84, ra_85, rb_86, rc_87, rv_88, re_89, ya_90, by omega, by omega, by omega, by omega, er_95, et_96, wr_97, wt_98, ⟨k_99, c9_100, t_101, f_102, e_103, u_104, w_105⟩, ⟨k_106, c9_107, t_108, f_109, e_110, u_111, w_112⟩⟩ : RS ρ ws_55 ty_56 rd krd tp ktp cd bb tl)) (cwV 1 hts gX4_read_X4_readByte rfl rfl rfl (by decide +kernel) ⟨Nat.le_of_ble_eq_true rfl, Nat.le_of_ble_eq_true rfl⟩) ⟨fun a U g mk q => by obtain ⟨q0, q1, qP, qK, qD, qS⟩ := q; exact ⟨q0, q1, qP, va_K.moved (u := U) (U := U.calling g mk a) (Vm.Alike.refl U.vm) qK, qD, SZ.same rfl rfl qS⟩, va_recv hK hP (ci := 4) (q0 := krd) rfl er_95, fun U hU hW => ⟨rfl, by rw [hU], by rw [hU]; exact hP, va_K.moved hW.alike hK, hD.weaken (fun _ _ _ _ => trivial), hsz9.go hS hW hU hFc⟩⟩ rfl rfl hl.1 rfl (lv_room (Nat.le_of_ble_eq_true rfl)) dX4_read_32 ⟨Nat.le_of_ble_eq_true rfl, Nat.le_of_ble_eq_true rfl⟩) hS (fun q _ h => hFc q h) hFc (fun r_115 u t H1 locs ht hvm w_116 hB hz1 hk1 hS => ?_)
  obtain ⟨ws_117, ty_118, hm_119, ht_121, hP1, hK1, hD1, hx_120⟩ := hB
  rw [ht] at hP1
  have hK := va_K.moved hvm.symm hK1
  have hD := hD1.weaken (fun _ _ _ h => hFc _ h)
  generalize H1 = H at hP1 hS ⊢
  have hP := hP1
  obtain ⟨g_123, e_122, h_124⟩ := hm_119.obj er_95
  obtain ⟨z_125, z_126, z_127, z_128, z_129, z_130, rfl⟩ := smX4 h_124
  obtain ⟨g_132, e_131, h_133⟩ := hm_119.obj et_96
  obtain ⟨z_134, z_135, z_136, z_137, rfl⟩ := smX6 h_133
  obtain ⟨f_139, e_138⟩ := hm_119.arrI e_103
  have u_140 := ht_121 _ _ u_104
  obtain ⟨f_142, e_141⟩ := hm_119.arrI e_110
  have u_143 := ht_121 _ _ u_111
  have hsm := hsm.tr (hm_119.mono (by decide))
  have htx := htx.tr ht_121
  obtain ⟨ts_144, te_145, cc_146, ra_147, rb_148, rc_149, rv_150, re_151, ya_152, h1_153, h2_154, h3_155, h4_156, er_157, et_158, wr_159, wt_160, ⟨k_161, c9_162, t_163, f_164, e_165, u_166, w_167⟩, ⟨k_168, c9_169, t_170, f_171, e_172, u_173, w_174⟩⟩ := id hx_120
  rcases w_116 with rfl | rfl
  · refine lv_if_eq (tgt := 46) hx hb dX4_read_35 (by decide) (fun c_175 => ?_) (fun c_175 => absurd (by decide) c_175)
    refine lv_iconst (v := 0) hx hb dX4_read_46 (by decide) ?_
    exact W.zret (v := 0) hx hb hr rfl (fun t ht hW => ⟨⟨0, (), rfl, Or.inl rfl, ws_117, ty_118, hsm, htx, by rw [ht]; exact hP, va_K.moved hW.alike hK, hD, (⟨ts_144, te_145, cc_146, ra_147, rb_148, rc_149, rv_150, re_151, ya_152, by omega, by omega, by omega, by omega, er_157, et_158, wr_159, wt_160, ⟨k_161, c9_162, t_163, f_164, e_165, u_166, w_167⟩, ⟨k_168, c9_169, t_170, f_171, e_172, u_173, w_174⟩⟩ : RS ρ ws_117 ty_118 rd krd tp ktp cd bb tl)⟩, hS.F ht⟩) hS.2.2 dX4_read_47
  refine lv_if_eq (tgt := 46) hx hb dX4_read_35 (by decide) (fun c_176 => absurd c_176 (by decide)) (fun c_176 => ?_)
  refine lv_aload_n hx hb dX4_read_38 rfl (lv_at hl 0 rfl) ?_
  refine lv_iconst (v := 0) hx hb dX4_read_39 (by decide) ?_
  have hFc := free_all hD hS hA
  refine va_calli (va_runV (As := [.int 0]) (rest := []) ⟨hx, hb, hml, hown, hts⟩ (r_readEither0 l D ρ ws_117 ty_118 adK adV fo rd krd tp ktp cd bb tl  H.size (⟨ts_144, te_145, cc_146, ra_147, rb_148, rc_149, rv_150, re_151, ya_152, by omega, by omega, by omega, by omega, er_157, et_158, wr_159, wt_160, ⟨k_161, c9_162, t_163, f_164, e_165, u_166, w_167⟩, ⟨k_168, c9_169, t_170, f_171, e_172, u_173, w_174⟩⟩ : RS ρ ws_117 ty_118 rd krd tp ktp cd bb tl)) (cwV 1 hts gX4_read_X4_readEither rfl rfl rfl (by decide +kernel) ⟨Nat.le_of_ble_eq_true rfl, Nat.le_of_ble_eq_true rfl⟩) ⟨fun a U g mk q => by obtain ⟨q0, q1, qP, qK, qD, qS⟩ := q; exact ⟨q0, q1, qP, va_K.moved (u := U) (U := U.calling g mk a) (Vm.Alike.refl U.vm) qK, qD, SZ.same rfl rfl qS⟩, va_recv hK hP (ci := 4) (q0 := krd) rfl er_157, fun U hU hW => ⟨rfl, by rw [hU], by rw [hU]; exact hP, va_K.moved hW.alike hK, hD.weaken (fun _ _ _ _ => trivial), hsz9.go hS hW hU hFc⟩⟩ rfl rfl hl.1 rfl (lv_room (Nat.le_of_ble_eq_true rfl)) dX4_read_40 ⟨Nat.le_of_ble_eq_true rfl, Nat.le_of_ble_eq_true rfl⟩) hS (fun q _ h => hFc q h) hFc (fun r_177 u t H1 locs ht hvm w_178 hB hz1 hk1 hS => ?_)
  obtain ⟨ws_179, ty_180, hm_181, ht_183, hP1, hK1, hD1, hx_182⟩ := hB
  rw [ht] at hP1
  have hK := va_K.moved hvm.symm hK1
  have hD := hD1.weaken (fun _ _ _ h => hFc _ h)
  generalize H1 = H at hP1 hS ⊢
  have hP := hP1
  obtain ⟨g_185, e_184, h_186⟩ := hm_181.obj er_157
  obtain ⟨z_187, z_188, z_189, z_190, z_191, z_192, rfl⟩ := smX4 h_186
  obtain ⟨g_194, e_193, h_195⟩ := hm_181.obj et_158
  obtain ⟨z_196, z_197, z_198, z_199, rfl⟩ := smX6 h_195
  obtain ⟨f_201, e_200⟩ := hm_181.arrI e_165
  have u_202 := ht_183 _ _ u_166
  obtain ⟨f_204, e_203⟩ := hm_181.arrI e_172
  have u_205 := ht_183 _ _ u_173
  have hsm := hsm.tr (hm_181.mono (by decide))
  have htx := htx.tr ht_183
  obtain ⟨ts_206, te_207, cc_208, ra_209, rb_210, rc_211, rv_212, re_213, ya_214, h1_215, h2_216, h3_217, h4_218, er_219, et_220, wr_221, wt_222, ⟨k_223, c9_224, t_225, f_226, e_227, u_228, w_229⟩, ⟨k_230, c9_231, t_232, f_233, e_234, u_235, w_236⟩⟩ := id hx_182
  rcases w_178 with rfl | rfl
  · refine lv_if_ne (tgt := 48) hx hb dX4_read_43 (by decide) (fun c_237 => absurd (by decide) c_237) (fun c_237 => ?_)
    refine lv_iconst (v := 0) hx hb dX4_read_46 (by decide) ?_
    exact W.zret (v := 0) hx hb hr rfl (fun t ht hW => ⟨⟨0, (), rfl, Or.inl rfl, ws_179, ty_180, hsm, htx, by rw [ht]; exact hP, va_K.moved hW.alike hK, hD, (⟨ts_206, te_207, cc_208, ra_209, rb_210, rc_211, rv_212, re_213, ya_214, by omega, by omega, by omega, by omega, er_219, et_220, wr_221, wt_222, ⟨k_223, c9_224, t_225, f_226, e_227, u_228, w_229⟩, ⟨k_230, c9_231, t_232, f_233, e_234, u_235, w_236⟩⟩ : RS ρ ws_179 ty_180 rd krd tp ktp cd bb tl)⟩, hS.F ht⟩) hS.2.2 dX4_read_47
  refine lv_if_ne (tgt := 48) hx hb dX4_read_43 (by decide) (fun c_238 => ?_) (fun c_238 => absurd c_238 (by decide))
  refine lv_aload_n hx hb dX4_read_48 rfl (lv_at hl 0 rfl) ?_
  refine va_ldcS hx hb hown hsz9.2.2.2.1 dX4_read_49 ?_
  have hFc := free_all hD hS hA
  refine va_calli (va_runV (As := [.ref (adK 0)]) (rest := []) ⟨hx, hb, hml, hown, hts⟩ (r_readWord l D ρ ws_179 ty_180 adK adV fo rd krd tp ktp cd bb tl 0 H.size (⟨ts_206, te_207, cc_208, ra_209, rb_210, rc_211, rv_212, re_213, ya_214, by omega, by omega, by omega, by omega, er_219, et_220, wr_221, wt_222, ⟨k_223, c9_224, t_225, f_226, e_227, u_228, w_229⟩, ⟨k_230, c9_231, t_232, f_233, e_234, u_235, w_236⟩⟩ : RS ρ ws_179 ty_180 rd krd tp ktp cd bb tl) (by decide)) (cwV 1 hts gX4_read_X4_readWord rfl rfl rfl (by decide +kernel) ⟨Nat.le_of_ble_eq_true rfl, Nat.le_of_ble_eq_true rfl⟩) ⟨fun a U g mk q => by obtain ⟨q0, q1, qP, qK, qD, qS⟩ := q; exact ⟨q0, q1, qP, va_K.moved (u := U) (U := U.calling g mk a) (Vm.Alike.refl U.vm) qK, qD, SZ.same rfl rfl qS⟩, va_recv hK hP (ci := 4) (q0 := krd) rfl er_219, fun U hU hW => ⟨rfl, by rw [hU], by rw [hU]; exact hP, va_K.moved hW.alike hK, hD.weaken (fun _ _ _ _ => trivial), hsz9.go hS hW hU hFc⟩⟩ rfl rfl hl.1 rfl (lv_room (Nat.le_of_ble_eq_true rfl)) dX4_read_51 ⟨Nat.le_of_ble_eq_true rfl, Nat.le_of_ble_eq_true rfl⟩) hS (fun q _ h => hFc q h) hFc (fun r_239 u t H1 locs ht hvm w_240 hB hz1 hk1 hS => ?_)
  obtain ⟨ws_241, ty_242, hm_243, ht_245, hP1, hK1, hD1, hx_244⟩ := hB
  rw [ht] at hP1
  have hK := va_K.moved hvm.symm hK1
  have hD := hD1.weaken (fun _ _ _ h => hFc _ h)
  generalize H1 = H at hP1 hS ⊢
  have hP := hP1
  obtain ⟨g_247, e_246, h_248⟩ := hm_243.obj er_219
  obtain ⟨z_249, z_250, z_251, z_252, z_253, z_254, rfl⟩ := smX4 h_248
  obtain ⟨g_256, e_255, h_257⟩ := hm_243.obj et_220
  obtain ⟨z_258, z_259, z_260, z_261, rfl⟩ := smX6 h_257
  obtain ⟨f_263, e_262⟩ := hm_243.arrI e_227
  have u_264 := ht_245 _ _ u_228
  obtain ⟨f_266, e_265⟩ := hm_243.arrI e_234
  have u_267 := ht_245 _ _ u_235
  have hsm := hsm.tr (hm_243.mono (by decide))
  have htx := htx.tr ht_245
  obtain ⟨ts_268, te_269, cc_270, ra_271, rb_272, rc_273, rv_274, re_275, ya_276, h1_277, h2_278, h3_279, h4_280, er_281, et_282, wr_283, wt_284, ⟨k_285, c9_286, t_287, f_288, e_289, u_290, w_291⟩, ⟨k_292, c9_293, t_294, f_295, e_296, u_297, w_298⟩⟩ := id hx_244
  rcases w_240 with rfl | rfl
  · refine lv_if_eq (tgt := 67) hx hb dX4_read_54 (by decide) (fun c_299 => ?_) (fun c_299 => absurd (by decide) c_299)
    refine lv_iconst (v := 0) hx hb dX4_read_67 (by decide) ?_
    exact W.zret (v := 0) hx hb hr rfl (fun t ht hW => ⟨⟨0, (), rfl, Or.inl rfl, ws_241, ty_242, hsm, htx, by rw [ht]; exact hP, va_K.moved hW.alike hK, hD, (⟨ts_268, te_269, cc_270, ra_271, rb_272, rc_273, rv_274, re_275, ya_276, by omega, by omega, by omega, by omega, er_281, et_282, wr_283, wt_284, ⟨k_285, c9_286, t_287, f_288, e_289, u_290, w_291⟩, ⟨k_292, c9_293, t_294, f_295, e_296, u_297, w_298⟩⟩ : RS ρ ws_241 ty_242 rd krd tp ktp cd bb tl)⟩, hS.F ht⟩) hS.2.2 dX4_read_68
  refine lv_if_eq (tgt := 67) hx hb dX4_read_54 (by decide) (fun c_300 => absurd c_300 (by decide)) (fun c_300 => ?_)
  refine lv_aload_n hx hb dX4_read_57 rfl (lv_at hl 0 rfl) ?_
  refine lv_sipush (v := 30000) hx hb dX4_read_58 (by decide) ?_
  have hFc := free_all hD hS hA
  refine va_calli (va_runV (As := [.int 30000]) (rest := []) ⟨hx, hb, hml, hown, hts⟩ (r_readNumber l D ρ ws_241 ty_242 adK adV fo rd krd tp ktp cd bb tl 30000 H.size (⟨ts_268, te_269, cc_270, ra_271, rb_272, rc_273, rv_274, re_275, ya_276, by omega, by omega, by omega, by omega, er_281, et_282, wr_283, wt_284, ⟨k_285, c9_286, t_287, f_288, e_289, u_290, w_291⟩, ⟨k_292, c9_293, t_294, f_295, e_296, u_297, w_298⟩⟩ : RS ρ ws_241 ty_242 rd krd tp ktp cd bb tl)) (cwV 1 hts gX4_read_X4_readNumber rfl rfl rfl (by decide +kernel) ⟨Nat.le_of_ble_eq_true rfl, Nat.le_of_ble_eq_true rfl⟩) ⟨fun a U g mk q => by obtain ⟨q0, q1, qP, qK, qD, qS⟩ := q; exact ⟨q0, q1, qP, va_K.moved (u := U) (U := U.calling g mk a) (Vm.Alike.refl U.vm) qK, qD, SZ.same rfl rfl qS⟩, va_recv hK hP (ci := 4) (q0 := krd) rfl er_281, fun U hU hW => ⟨rfl, by rw [hU], by rw [hU]; exact hP, va_K.moved hW.alike hK, hD.weaken (fun _ _ _ _ => trivial), hsz9.go hS hW hU hFc⟩⟩ rfl rfl hl.1 rfl (lv_room (Nat.le_of_ble_eq_true rfl)) dX4_read_61 ⟨Nat.le_of_ble_eq_true rfl, Nat.le_of_ble_eq_true rfl⟩) hS (fun q _ h => hFc q h) hFc (fun r_301 u t H1 locs ht hvm w_302 hB hz1 hk1 hS => ?_)
  obtain ⟨ws_303, ty_304, hm_305, ht_307, hP1, hK1, hD1, hx_306⟩ := hB
  rw [ht] at hP1
  have hK := va_K.moved hvm.symm hK1
  have hD := hD1.weaken (fun _ _ _ h => hFc _ h)
  generalize H1 = H at hP1 hS ⊢
  have hP := hP1
  obtain ⟨g_309, e_308, h_310⟩ := hm_305.obj er_281
  obtain ⟨z_311, z_312, z_313, z_314, z_315, z_316, rfl⟩ := smX4 h_310
  obtain ⟨g_318, e_317, h_319⟩ := hm_305.obj et_282
  obtain ⟨z_320, z_321, z_322, z_323, rfl⟩ := smX6 h_319
  obtain ⟨f_325, e_324⟩ := hm_305.arrI e_289
  have u_326 := ht_307 _ _ u_290
  obtain ⟨f_328, e_327⟩ := hm_305.arrI e_296
  have u_329 := ht_307 _ _ u_297
  have hsm := hsm.tr (hm_305.mono (by decide))
  have htx := htx.tr ht_307
  obtain ⟨ts_330, te_331, cc_332, ra_333, rb_334, rc_335, rv_336, re_337, ya_338, h1_339, h2_340, h3_341, h4_342, er_343, et_344, wr_345, wt_346, ⟨k_347, c9_348, t_349, f_350, e_351, u_352, w_353⟩, ⟨k_354, c9_355, t_356, f_357, e_358, u_359, w_360⟩⟩ := id hx_306
  rcases w_302 with rfl | rfl
  · refine lv_if_ne (tgt := 69) hx hb dX4_read_64 (by decide) (fun c_361 => absurd (by decide) c_361) (fun c_361 => ?_)
    refine lv_iconst (v := 0) hx hb dX4_read_67 (by decide) ?_
    exact W.zret (v := 0) hx hb hr rfl (fun t ht hW => ⟨⟨0, (), rfl, Or.inl rfl, ws_303, ty_304, hsm, htx, by rw [ht]; exact hP, va_K.moved hW.alike hK, hD, (⟨ts_330, te_331, cc_332, ra_333, rb_334, rc_335, rv_336, re_337, ya_338, by omega, by omega, by omega, by omega, er_343, et_344, wr_345, wt_346, ⟨k_347, c9_348, t_349, f_350, e_351, u_352, w_353⟩, ⟨k_354, c9_355, t_356, f_357, e_358, u_359, w_360⟩⟩ : RS ρ ws_303 ty_304 rd krd tp ktp cd bb tl)⟩, hS.F ht⟩) hS.2.2 dX4_read_68
  refine lv_if_ne (tgt := 69) hx hb dX4_read_64 (by decide) (fun c_362 => ?_) (fun c_362 => absurd c_362 (by decide))
  refine lv_aload_n hx hb dX4_read_69 rfl (lv_at hl 0 rfl) ?_
  refine lv_aload_n hx hb dX4_read_70 rfl (lv_at hl 0 rfl) ?_
  refine va_get (D := D) (ci := 4) (v := .int re_337) (C := RX4) (T := TX4) (N := 8) hx hb hts hin4 hown hK hP krd er_343 rfl 7 (by decide) (hts (.fieldLink RX4 56 "HoneyHouse$RuleReader" "value" "I") (List.mem_of_getElem? (i := 5) rfl)) (fun _ h9 => h9) rfl dX4_read_71 ?_
  refine va_put (D := D) (ci := 4) (v := .int re_337) (ty := .int) (C := RX4) (T := TX4) (N := 8) hx hb hts hin4 tyX4 tyX4_ok nmX4 hown hK hP hD hS krd er_343 rfl 2 (by decide) (hts (.fieldLink RX4 59 "HoneyHouse$RuleReader" "from" "I") (List.mem_of_getElem? (i := 6) rfl)) (fun _ h9 => h9) rfl (tyX4_ok 2 (by decide)) rfl rfl (Nat.le_of_ble_eq_true rfl) dX4_read_74 (fun H locs hP hD hS => ?_)
  have hP : va_P D vwCl (ws_303.set krd (rd, .inr (4, [.ref tp, .long ra_333, .int re_337, .int rc_335, .int rv_336, .ref cd, .int (nI cc_332), .int re_337]))) H := hP
  have hD : va_D A (ws_303.set krd (rd, .inr (4, [.ref tp, .long ra_333, .int re_337, .int rc_335, .int rv_336, .ref cd, .int (nI cc_332), .int re_337]))) := hD
  have hm_364 : sm ρ [4] ws_303 (ws_303.set krd (rd, .inr (4, [.ref tp, .long ra_333, .int re_337, .int rc_335, .int rv_336, .ref cd, .int (nI cc_332), .int re_337]))) := sm.flds er_343 (smF.c (smV.rf _) (smF.c (smV.rf _) (smF.c (smV.i _ _) (smF.c (smV.rf _) (smF.c (smV.rf _) (smF.c (smV.rf _) (smF.c (smV.rf _) (smF.c (smV.rf _) (rfl))))))))) (List.mem_singleton.mpr rfl) wr_345
  have e_365 : (ws_303.set krd (rd, .inr (4, [.ref tp, .long ra_333, .int re_337, .int rc_335, .int rv_336, .ref cd, .int (nI cc_332), .int re_337])))[krd]? = some (rd, .inr (4, [.ref tp, .long ra_333, .int re_337, .int rc_335, .int rv_336, .ref cd, .int (nI cc_332), .int re_337])) := wset_self er_343
  generalize ws_303.set krd (rd, .inr (4, [.ref tp, .long ra_333, .int re_337, .int rc_335, .int rv_336, .ref cd, .int (nI cc_332), .int re_337])) = ws_363 at hP hD hm_364 e_365
  have e_366 := hm_364.objK et_344 (by decide)
  obtain ⟨f_368, e_367⟩ := hm_364.arrI e_351
  obtain ⟨f_370, e_369⟩ := hm_364.arrI e_358
  have hsm := hsm.tr (hm_364.mono (by decide))
  refine lv_aload_n hx hb dX4_read_77 rfl (lv_at hl 0 rfl) ?_
  refine lv_bipush (v := 59) hx hb dX4_read_78 (by decide) ?_
  have hFc := free_all hD hS hA
  refine va_calli (va_runV (As := [.int 59]) (rest := []) ⟨hx, hb, hml, hown, hts⟩ (r_readByte l D ρ ws_363 ty_304 adK adV fo rd krd tp ktp cd bb tl 59 H.size (⟨ts_330, te_331, cc_332, ra_333, re_337, rc_335, rv_336, re_337, ya_338, by omega, by omega, by omega, by omega, e_365, e_366, wr_345, wt_346, ⟨k_347, c9_348, t_349, f_368, e_367, u_352, w_353⟩, ⟨k_354, c9_355, t_356, f_370, e_369, u_359, w_360⟩⟩ : RS ρ ws_363 ty_304 rd krd tp ktp cd bb tl)) (cwV 1 hts gX4_read_X4_readByte rfl rfl rfl (by decide +kernel) ⟨Nat.le_of_ble_eq_true rfl, Nat.le_of_ble_eq_true rfl⟩) ⟨fun a U g mk q => by obtain ⟨q0, q1, qP, qK, qD, qS⟩ := q; exact ⟨q0, q1, qP, va_K.moved (u := U) (U := U.calling g mk a) (Vm.Alike.refl U.vm) qK, qD, SZ.same rfl rfl qS⟩, va_recv hK hP (ci := 4) (q0 := krd) rfl e_365, fun U hU hW => ⟨rfl, by rw [hU], by rw [hU]; exact hP, va_K.moved hW.alike hK, hD.weaken (fun _ _ _ _ => trivial), hsz9.go hS hW hU hFc⟩⟩ rfl rfl hl.1 rfl (lv_room (Nat.le_of_ble_eq_true rfl)) dX4_read_80 ⟨Nat.le_of_ble_eq_true rfl, Nat.le_of_ble_eq_true rfl⟩) hS (fun q _ h => hFc q h) hFc (fun r_371 u t H1 locs ht hvm w_372 hB hz1 hk1 hS => ?_)
  obtain ⟨ws_373, ty_374, hm_375, ht_377, hP1, hK1, hD1, hx_376⟩ := hB
  rw [ht] at hP1
  have hK := va_K.moved hvm.symm hK1
  have hD := hD1.weaken (fun _ _ _ h => hFc _ h)
  generalize H1 = H at hP1 hS ⊢
  have hP := hP1
  obtain ⟨g_379, e_378, h_380⟩ := hm_375.obj e_365
  obtain ⟨z_381, z_382, z_383, z_384, z_385, z_386, rfl⟩ := smX4 h_380
  obtain ⟨g_388, e_387, h_389⟩ := hm_375.obj e_366
  obtain ⟨z_390, z_391, z_392, z_393, rfl⟩ := smX6 h_389
  obtain ⟨f_395, e_394⟩ := hm_375.arrI e_367
  have u_396 := ht_377 _ _ u_352
  obtain ⟨f_398, e_397⟩ := hm_375.arrI e_369
  have u_399 := ht_377 _ _ u_359
  have hsm := hsm.tr (hm_375.mono (by decide))
  have htx := htx.tr ht_377
  obtain ⟨ts_400, te_401, cc_402, ra_403, rb_404, rc_405, rv_406, re_407, ya_408, h1_409, h2_410, h3_411, h4_412, er_413, et_414, wr_415, wt_416, ⟨k_417, c9_418, t_419, f_420, e_421, u_422, w_423⟩, ⟨k_424, c9_425, t_426, f_427, e_428, u_429, w_430⟩⟩ := id hx_376
  rcases w_372 with rfl | rfl
  · refine lv_if_eq (tgt := 107) hx hb dX4_read_83 (by decide) (fun c_431 => ?_) (fun c_431 => absurd (by decide) c_431)
    refine lv_iconst (v := 0) hx hb dX4_read_107 (by decide) ?_
    exact W.zret (v := 0) hx hb hr rfl (fun t ht hW => ⟨⟨0, (), rfl, Or.inl rfl, ws_373, ty_374, hsm, htx, by rw [ht]; exact hP, va_K.moved hW.alike hK, hD, (⟨ts_400, te_401, cc_402, ra_403, rb_404, rc_405, rv_406, re_407, ya_408, by omega, by omega, by omega, by omega, er_413, et_414, wr_415, wt_416, ⟨k_417, c9_418, t_419, f_420, e_421, u_422, w_423⟩, ⟨k_424, c9_425, t_426, f_427, e_428, u_429, w_430⟩⟩ : RS ρ ws_373 ty_374 rd krd tp ktp cd bb tl)⟩, hS.F ht⟩) hS.2.2 dX4_read_108
  refine lv_if_eq (tgt := 107) hx hb dX4_read_83 (by decide) (fun c_432 => absurd c_432 (by decide)) (fun c_432 => ?_)
  refine lv_aload_n hx hb dX4_read_86 rfl (lv_at hl 0 rfl) ?_
  refine va_get (D := D) (ci := 4) (v := .ref tp) (C := RX4) (T := TX4) (N := 8) hx hb hts hin4 hown hK hP krd er_413 rfl 0 (by decide) (hts (.fieldLink RX4 12 "HoneyHouse$RuleReader" "tape" "LHoneyHouse$Tape;") (List.mem_of_getElem? (i := 4) rfl)) (fun _ h9 => h9) rfl dX4_read_87 ?_
  refine va_get (D := D) (ci := 6) (v := .int ya_408) (C := RX6) (T := TX6) (N := 5) hx hb hts hin6 hown hK hP ktp et_414 rfl 1 (by decide) (hts (.fieldLink RX4 61 "HoneyHouse$Tape" "kind" "I") (List.mem_of_getElem? (i := 7) rfl)) (fun _ h9 => h9) rfl dX4_read_90 ?_
  refine lv_if_eq (tgt := 103) hx hb dX4_read_93 (by decide) (fun c_433 => ?_) (fun c_433 => ?_)
  · refine lv_iconst (v := 1) hx hb dX4_read_103 (by decide) ?_
    refine lv_goto (tgt := 108) hx hb dX4_read_104 (by decide) ?_
    exact W.zret (v := 1) hx hb hr rfl (fun t ht hW => ⟨⟨1, (), rfl, Or.inr rfl, ws_373, ty_374, hsm, htx, by rw [ht]; exact hP, va_K.moved hW.alike hK, hD, (⟨ts_400, te_401, cc_402, ra_403, rb_404, rc_405, rv_406, re_407, ya_408, by omega, by omega, by omega, by omega, er_413, et_414, wr_415, wt_416, ⟨k_417, c9_418, t_419, f_420, e_421, u_422, w_423⟩, ⟨k_424, c9_425, t_426, f_427, e_428, u_429, w_430⟩⟩ : RS ρ ws_373 ty_374 rd krd tp ktp cd bb tl)⟩, hS.F ht⟩) hS.2.2 dX4_read_108
  refine lv_aload_n hx hb dX4_read_96 rfl (lv_at hl 0 rfl) ?_
  have hFc := free_all hD hS hA
  refine va_calli (va_runV (As := []) (rest := []) ⟨hx, hb, hml, hown, hts⟩ (r_failHere l D ρ ws_373 ty_374 adK adV fo rd krd tp ktp cd bb tl  H.size (⟨ts_400, te_401, cc_402, ra_403, rb_404, rc_405, rv_406, re_407, ya_408, by omega, by omega, by omega, by omega, er_413, et_414, wr_415, wt_416, ⟨k_417, c9_418, t_419, f_420, e_421, u_422, w_423⟩, ⟨k_424, c9_425, t_426, f_427, e_428, u_429, w_430⟩⟩ : RS ρ ws_373 ty_374 rd krd tp ktp cd bb tl)) (cwV 0 hts gX4_read_X4_failHere rfl rfl rfl (by decide +kernel) ⟨Nat.le_of_ble_eq_true rfl, Nat.le_of_ble_eq_true rfl⟩) ⟨fun a U g mk q => by obtain ⟨q0, q1, qP, qK, qD, qS⟩ := q; exact ⟨q0, q1, qP, va_K.moved (u := U) (U := U.calling g mk a) (Vm.Alike.refl U.vm) qK, qD, SZ.same rfl rfl qS⟩, va_recv hK hP (ci := 4) (q0 := krd) rfl er_413, fun U hU hW => ⟨rfl, by rw [hU], by rw [hU]; exact hP, va_K.moved hW.alike hK, hD.weaken (fun _ _ _ _ => trivial), hsz9.go hS hW hU hFc⟩⟩ rfl rfl hl.1 rfl (lv_room (Nat.le_of_ble_eq_true rfl)) dX4_read_97 ⟨Nat.le_of_ble_eq_true rfl, Nat.le_of_ble_eq_true rfl⟩) hS (fun q _ h => hFc q h) hFc (fun r_434 u t H1 locs ht hvm w_435 hB hz1 hk1 hS => ?_)
  obtain ⟨ws_436, ty_437, hm_438, ht_440, hP1, hK1, hD1, hx_439⟩ := hB
  rw [ht] at hP1
  have hK := va_K.moved hvm.symm hK1
  have hD := hD1.weaken (fun _ _ _ h => hFc _ h)
  generalize H1 = H at hP1 hS ⊢
  have hP := hP1
  obtain ⟨g_442, e_441, h_443⟩ := hm_438.obj er_413
  obtain ⟨z_444, z_445, z_446, z_447, z_448, z_449, rfl⟩ := smX4 h_443
  obtain ⟨g_451, e_450, h_452⟩ := hm_438.obj et_414
  obtain ⟨z_453, z_454, z_455, z_456, rfl⟩ := smX6 h_452
  obtain ⟨f_458, e_457⟩ := hm_438.arrI e_421
  have u_459 := ht_440 _ _ u_422
  obtain ⟨f_461, e_460⟩ := hm_438.arrI e_428
  have u_462 := ht_440 _ _ u_429
  have hsm := hsm.tr (hm_438.mono (by decide))
  have htx := htx.tr ht_440
  obtain ⟨ts_463, te_464, cc_465, ra_466, rb_467, rc_468, rv_469, re_470, ya_471, h1_472, h2_473, h3_474, h4_475, er_476, et_477, wr_478, wt_479, ⟨k_480, c9_481, t_482, f_483, e_484, u_485, w_486⟩, ⟨k_487, c9_488, t_489, f_490, e_491, u_492, w_493⟩⟩ := id hx_439
  subst w_435
  refine lv_if_eq (tgt := 107) hx hb dX4_read_100 (by decide) (fun c_494 => ?_) (fun c_494 => absurd (by decide) c_494)
  refine lv_iconst (v := 0) hx hb dX4_read_107 (by decide) ?_
  exact W.zret (v := 0) hx hb hr rfl (fun t ht hW => ⟨⟨0, (), rfl, Or.inl rfl, ws_436, ty_437, hsm, htx, by rw [ht]; exact hP, va_K.moved hW.alike hK, hD, (⟨ts_463, te_464, cc_465, ra_466, rb_467, rc_468, rv_469, re_470, ya_471, by omega, by omega, by omega, by omega, er_476, et_477, wr_478, wt_479, ⟨k_480, c9_481, t_482, f_483, e_484, u_485, w_486⟩, ⟨k_487, c9_488, t_489, f_490, e_491, u_492, w_493⟩⟩ : RS ρ ws_436 ty_437 rd krd tp ktp cd bb tl)⟩, hS.F ht⟩) hS.2.2 dX4_read_108
