theorem dX4_read_0 : decode cX4_read 0 = .ok (.aload_n 0, 1) := by decide +kernel
theorem dX4_read_1 : decode cX4_read 1 = .ok (.iconst 0, 1) := by decide +kernel
theorem dX4_read_2 : decode cX4_read 2 = .ok (.putfield 26, 3) := by decide +kernel
theorem dX4_read_5 : decode cX4_read 5 = .ok (.aload_n 0, 1) := by decide +kernel
theorem dX4_read_6 : decode cX4_read 6 = .ok (.iconst (-1), 1) := by decide +kernel
theorem dX4_read_7 : decode cX4_read 7 = .ok (.putfield 18, 3) := by decide +kernel
theorem dX4_read_10 : decode cX4_read 10 = .ok (.aload_n 0, 1) := by decide +kernel
theorem dX4_read_11 : decode cX4_read 11 = .ok (.iconst 0, 1) := by decide +kernel
theorem dX4_read_12 : decode cX4_read 12 = .ok (.putfield 29, 3) := by decide +kernel
theorem dX4_read_15 : decode cX4_read 15 = .ok (.aload_n 0, 1) := by decide +kernel
theorem dX4_read_16 : decode cX4_read 16 = .ok (.getfield 12, 3) := by decide +kernel
theorem dX4_read_19 : decode cX4_read 19 = .ok (.invokevirtual 32, 3) := by decide +kernel
theorem dX4_read_22 : decode cX4_read 22 = .ok (.aload_n 0, 1) := by decide +kernel
theorem dX4_read_23 : decode cX4_read 23 = .ok (.invokevirtual 35, 3) := by decide +kernel
theorem dX4_read_26 : decode cX4_read 26 = .ok (.ifCond .eq 20, 3) := by decide +kernel
theorem dX4_read_29 : decode cX4_read 29 = .ok (.aload_n 0, 1) := by decide +kernel
theorem dX4_read_30 : decode cX4_read 30 = .ok (.bipush 58, 2) := by decide +kernel
theorem dX4_read_32 : decode cX4_read 32 = .ok (.invokevirtual 39, 3) := by decide +kernel
theorem dX4_read_35 : decode cX4_read 35 = .ok (.ifCond .eq 11, 3) := by decide +kernel
theorem dX4_read_38 : decode cX4_read 38 = .ok (.aload_n 0, 1) := by decide +kernel
theorem dX4_read_39 : decode cX4_read 39 = .ok (.iconst 0, 1) := by decide +kernel
theorem dX4_read_40 : decode cX4_read 40 = .ok (.invokevirtual 43, 3) := by decide +kernel
theorem dX4_read_43 : decode cX4_read 43 = .ok (.ifCond .ne 5, 3) := by decide +kernel
theorem dX4_read_46 : decode cX4_read 46 = .ok (.iconst 0, 1) := by decide +kernel
theorem dX4_read_47 : decode cX4_read 47 = .ok (.ireturn, 1) := by decide +kernel
theorem dX4_read_48 : decode cX4_read 48 = .ok (.aload_n 0, 1) := by decide +kernel
theorem dX4_read_49 : decode cX4_read 49 = .ok (.ldc 47, 2) := by decide +kernel
theorem dX4_read_51 : decode cX4_read 51 = .ok (.invokevirtual 49, 3) := by decide +kernel
theorem dX4_read_54 : decode cX4_read 54 = .ok (.ifCond .eq 13, 3) := by decide +kernel
theorem dX4_read_57 : decode cX4_read 57 = .ok (.aload_n 0, 1) := by decide +kernel
theorem dX4_read_58 : decode cX4_read 58 = .ok (.sipush 30000, 3) := by decide +kernel
theorem dX4_read_61 : decode cX4_read 61 = .ok (.invokevirtual 53, 3) := by decide +kernel
theorem dX4_read_64 : decode cX4_read 64 = .ok (.ifCond .ne 5, 3) := by decide +kernel
theorem dX4_read_67 : decode cX4_read 67 = .ok (.iconst 0, 1) := by decide +kernel
theorem dX4_read_68 : decode cX4_read 68 = .ok (.ireturn, 1) := by decide +kernel
theorem dX4_read_69 : decode cX4_read 69 = .ok (.aload_n 0, 1) := by decide +kernel
theorem dX4_read_70 : decode cX4_read 70 = .ok (.aload_n 0, 1) := by decide +kernel
theorem dX4_read_71 : decode cX4_read 71 = .ok (.getfield 56, 3) := by decide +kernel
theorem dX4_read_74 : decode cX4_read 74 = .ok (.putfield 59, 3) := by decide +kernel
theorem dX4_read_77 : decode cX4_read 77 = .ok (.aload_n 0, 1) := by decide +kernel
theorem dX4_read_78 : decode cX4_read 78 = .ok (.bipush 59, 2) := by decide +kernel
theorem dX4_read_80 : decode cX4_read 80 = .ok (.invokevirtual 39, 3) := by decide +kernel
theorem dX4_read_83 : decode cX4_read 83 = .ok (.ifCond .eq 24, 3) := by decide +kernel
theorem dX4_read_86 : decode cX4_read 86 = .ok (.aload_n 0, 1) := by decide +kernel
theorem dX4_read_87 : decode cX4_read 87 = .ok (.getfield 12, 3) := by decide +kernel
theorem dX4_read_90 : decode cX4_read 90 = .ok (.getfield 61, 3) := by decide +kernel
theorem dX4_read_93 : decode cX4_read 93 = .ok (.ifCond .eq 10, 3) := by decide +kernel
theorem dX4_read_96 : decode cX4_read 96 = .ok (.aload_n 0, 1) := by decide +kernel
theorem dX4_read_97 : decode cX4_read 97 = .ok (.invokevirtual 64, 3) := by decide +kernel
theorem dX4_read_100 : decode cX4_read 100 = .ok (.ifCond .eq 7, 3) := by decide +kernel
theorem dX4_read_103 : decode cX4_read 103 = .ok (.iconst 1, 1) := by decide +kernel
theorem dX4_read_104 : decode cX4_read 104 = .ok (.goto 4, 3) := by decide +kernel
theorem dX4_read_107 : decode cX4_read 107 = .ok (.iconst 0, 1) := by decide +kernel
theorem dX4_read_108 : decode cX4_read 108 = .ok (.ireturn, 1) := by decide +kernel
set_option maxRecDepth 20000 in
theorem ggX4_read_X6_rewind : GoodIn wsX4_read wsX6_rewind := goodIn_r _ [12, 13, 14, 15, 16, 11, 17, 18, 19, 20, 21, 22, 23, 24, 25, 26, 27, 28, 164, 165, 166, 167, 168] rfl (by decide +kernel)
set_option maxRecDepth 20000 in
theorem gX4_read_X6_rewind : GoodIn wsX4_read (wsV RX4 32 RX6 yX6_rewind wsX6_rewind) := goodIn_app (goodIn_of _ (by decide +kernel)) ggX4_read_X6_rewind
set_option maxRecDepth 20000 in
theorem ggX4_read_X4_readName : GoodIn wsX4_read wsX4_readName := goodIn_r _ [33, 4, 7, 34, 35, 36, 37, 38, 39, 32, 40, 41, 42, 43, 11, 44, 20, 13, 19, 45, 46, 47, 48, 49, 50, 51, 52, 53, 54, 55, 56, 21, 22, 23, 24, 18, 25, 57, 58, 59, 60, 61, 62, 63, 64, 65, 66, 67, 68, 69, 70, 71, 72, 73, 74, 75, 76, 77, 78, 79, 80, 81, 82, 83, 84, 85, 86, 87, 88, 89, 90, 91, 92, 93, 94, 95, 96, 97, 98, 99, 100, 101, 102, 103, 104, 105, 1, 2, 106, 107, 108, 109, 110, 111, 15, 16, 17, 26, 27, 28, 156, 157, 158, 159, 160, 161, 162, 163, 164, 165, 166, 167, 168] rfl (by decide +kernel)
set_option maxRecDepth 20000 in
theorem gX4_read_X4_readName : GoodIn wsX4_read (wsV RX4 35 RX4 yX4_readName wsX4_readName) := goodIn_app (goodIn_of _ (by decide +kernel)) ggX4_read_X4_readName
set_option maxRecDepth 20000 in
theorem ggX4_read_X4_readByte : GoodIn wsX4_read wsX4_readByte := goodIn_r _ [115, 4, 116, 117, 118, 11, 119, 20, 19, 21, 22, 23, 24, 18, 25, 98, 99, 100, 32, 101, 35, 102, 103, 104, 105, 1, 2, 111, 15, 16, 17, 13, 26, 27, 28, 156, 157, 158, 159, 160, 161, 162, 163, 164, 165, 166, 167, 168] rfl (by decide +kernel)
set_option maxRecDepth 20000 in
theorem gX4_read_X4_readByte : GoodIn wsX4_read (wsV RX4 39 RX4 yX4_readByte wsX4_readByte) := goodIn_app (goodIn_of _ (by decide +kernel)) ggX4_read_X4_readByte
set_option maxRecDepth 20000 in
theorem ggX4_read_X4_readEither : GoodIn wsX4_read wsX4_readEither := goodIn_r _ [123, 4, 124, 125, 126, 32, 127, 128, 129, 130, 41, 42, 43, 11, 44, 20, 13, 19, 45, 46, 47, 48, 49, 50, 51, 52, 53, 54, 55, 56, 21, 22, 23, 24, 18, 25, 57, 58, 59, 60, 61, 62, 63, 64, 65, 66, 67, 68, 69, 70, 71, 72, 73, 74, 75, 76, 77, 78, 79, 80, 81, 82, 83, 84, 85, 86, 87, 88, 89, 90, 91, 92, 93, 131, 132, 133, 134, 3, 135, 111, 15, 16, 17, 26, 27, 28, 136, 35, 116, 117, 118, 119, 137, 138, 139, 140, 5, 94, 95, 96, 97, 98, 99, 100, 101, 102, 103, 104, 105, 1, 2, 141, 142, 143, 144, 7, 34, 145, 146, 147, 148, 149, 150, 151, 120, 121, 122, 112, 113, 114, 115, 156, 157, 158, 159, 160, 161, 162, 163, 164, 165, 166, 167, 168] rfl (by decide +kernel)
set_option maxRecDepth 20000 in
theorem gX4_read_X4_readEither : GoodIn wsX4_read (wsV RX4 43 RX4 yX4_readEither wsX4_readEither) := goodIn_app (goodIn_of _ (by decide +kernel)) ggX4_read_X4_readEither
set_option maxRecDepth 20000 in
theorem ggX4_read_X4_readWord : GoodIn wsX4_read wsX4_readWord := goodIn_r _ [155, 4, 41, 42, 43, 11, 44, 20, 13, 19, 45, 46, 47, 48, 49, 50, 51, 52, 53, 54, 55, 56, 21, 22, 23, 24, 18, 25, 57, 58, 59, 60, 61, 62, 63, 64, 65, 66, 67, 68, 69, 70, 71, 72, 73, 74, 75, 76, 77, 78, 79, 80, 81, 82, 83, 84, 85, 86, 87, 88, 89, 90, 91, 92, 93, 98, 99, 100, 32, 101, 35, 102, 103, 104, 105, 1, 2, 111, 15, 16, 17, 26, 27, 28, 156, 157, 158, 159, 160, 161, 162, 163, 164, 165, 166, 167, 168] rfl (by decide +kernel)
set_option maxRecDepth 20000 in
theorem gX4_read_X4_readWord : GoodIn wsX4_read (wsV RX4 49 RX4 yX4_readWord wsX4_readWord) := goodIn_app (goodIn_of _ (by decide +kernel)) ggX4_read_X4_readWord
set_option maxRecDepth 20000 in
theorem ggX4_read_X4_readNumber : GoodIn wsX4_read wsX4_readNumber := goodIn_r _ [144, 4, 7, 34, 35, 5, 98, 99, 100, 32, 101, 102, 103, 104, 105, 1, 2, 145, 146, 147, 11, 148, 19, 13, 21, 22, 23, 24, 18, 25, 111, 15, 16, 17, 20, 26, 27, 28, 156, 157, 158, 159, 160, 161, 162, 163, 164, 165, 166, 167, 168] rfl (by decide +kernel)
set_option maxRecDepth 20000 in
theorem gX4_read_X4_readNumber : GoodIn wsX4_read (wsV RX4 53 RX4 yX4_readNumber wsX4_readNumber) := goodIn_app (goodIn_of _ (by decide +kernel)) ggX4_read_X4_readNumber
set_option maxRecDepth 20000 in
theorem ggX4_read_X4_failHere : GoodIn wsX4_read wsX4_failHere := goodIn_r _ [101, 4, 35, 102, 103, 104, 32, 105, 1, 2, 156, 157, 158, 159, 160, 161, 162, 163, 164, 165, 166, 167, 168] rfl (by decide +kernel)
set_option maxRecDepth 20000 in
theorem gX4_read_X4_failHere : GoodIn wsX4_read (wsV RX4 64 RX4 yX4_failHere wsX4_failHere) := goodIn_app (goodIn_of _ (by decide +kernel)) ggX4_read_X4_failHere
set_option maxHeartbeats 4000000 in
set_option maxRecDepth 100000 in
theorem r_read (l : Launch) (D : va_G) (ρ : Nat → Nat) (ws : va_W) (tys : List (ClassId × FieldType)) (adK adV : Nat → Nat) (fo : Option Nat) (f9 : Nat → Int32) (rd krd tp ktp tl : Nat) (r1 : Int64) (r2 r3 r4 r6 r7 y1 y2 y3 : Int32) (bb kbb : Nat) (cbb : ClassId) (tbb : Nat) (fbb : Nat → Int32) (cd kcd : Nat) (ccd : ClassId) (tcd : Nat) (fcd : Nat → Int32) (sz : Nat) (htl : tl ≤ 400) (hbf : ∀ i : Nat, i < tl → fbb i = f9 i) (hng : ∀ i : Nat, i < tl → ¬ f9 i = -1) (erd : ws[krd]? = some (rd, .inr (4, [.ref tp, .long r1, .int r2, .int r3, .int r4, .ref cd, .int r6, .int r7]))) (etp : ws[ktp]? = some (tp, .inr (6, [.int (nI tl), .int y1, .int y2, .int y3, .ref bb]))) (ebb : ws[kbb]? = some (bb, .inl (cbb, 400, .inl fbb))) (ubb : tys[tbb]? = some (cbb, .int)) (ecd : ws[kcd]? = some (cd, .inl (ccd, 200, .inl fcd))) (ucd : tys[tcd]? = some (ccd, .int)) (wrd : ρ krd = 0) (wtp : ρ ktp = 0) (wbb : ρ kbb = 8008) (wcd : ρ kcd = 0) : Met l yX4_read wsX4_read ({ frames := 21, cells := 0, slots := 0, locals := 485 }) (va_Pc [.ref rd] (fun U => U.heap.size = sz ∧ va_P D vwCl ws U.heap ∧ va_K D vwCl tys U ∧ va_D (fun _ => True) ws ∧ SZ adK adV fo (va_A ws sz) U U.heap)) (va_Qi (fun (r : Int32) (s9 : Int32) => r = s9) (fun (s9 : Int32) (t : State) => ∃ (ws' : va_W) (tys' : List (ClassId × FieldType)), sm ρ [4, 6] ws ws' ∧ tyx tys tys' ∧ va_P D vwCl ws' t.heap ∧ va_K D vwCl tys' t ∧ va_D (va_A ws sz) ws' ∧ (∃ (k p fr9 : Nat) (T9 : List Tk), rdR f9 tl k p fr9 T9 ∧ ((s9 = 0 ∧ 1 ≤ k ∧ k ≤ 3 ∧ ∃ (ts9 : Nat) (T8 : List Tk) (nk9 : Int64) (fr8 vl9 : Int32), RSX ρ ws' tys' f9 rd krd tp ktp cd bb tl ts9 T8 nk9 fr8 (nI k) (nI p) vl9) ∨ (s9 = 1 ∧ k = 0 ∧ ∃ (ts9 : Nat) (nk9 : Int64) (vl9 : Int32), RSX ρ ws' tys' f9 rd krd tp ktp cd bb tl ts9 T9 nk9 (nI fr9) 0 (-1) vl9)))) (va_A ws sz)) 0 0 (va_A ws sz) := by
  refine Met.ofW (cc := cX4_read) (maxL := 1) (ret := (some .boolean)) (by decide) rfl ?_
  intro p e s m args below meth c s₁ B hml hv
  obtain ⟨rfl, hsz, hP, hK, hD0, hsz9⟩ := hv
  have hx := B.exec
  have hb := B.bytes
  have hr := B.returns
  have hts := atoms_spec (ws := wsX4_read) B.pre
  have hown : s.vm.findClass RX4 = some m.cls := findClass_of_methodNamed B.named
  have hlocks := B.notSynchronized
  subst hsz
  have hD := hD0.self (sz := s.heap.size)
  generalize hAe : va_A ws s.heap.size = A at hD hsz9 ⊢
  have hA : ∀ q : Nat, s.heap.size ≤ q → A q := fun q h => by rw [← hAe]; exact Or.inr h
  have hS : va_S A s.heap s.heap [] := va_S.rf
  have hsm : sm ρ [4, 6] ws ws := sm.rf ws
  have htx : tyx tys tys := tyx.rf tys
  have hin4 : ∀ w ∈ u_ws RX4 TX4 8, w ∈ wsX4_read := (fun _ h9 => List.mem_cons_of_mem _ (List.mem_append_left _ ((List.mem_append_right _ h9))))
  have hin6 : ∀ w ∈ u_ws RX6 TX6 5, w ∈ wsX4_read := (fun _ h9 => List.mem_cons_of_mem _ ((List.mem_append_right _ h9)))
  have hl := lv_entry ([.ref rd]) (n := 1) (Nat.le_of_ble_eq_true rfl)
  rw [lg_entry_eq]
  generalize (lg_sl ([.ref rd]) ++ List.replicate (1 - (lg_sl ([.ref rd])).length) Slot.unset).toArray = ls at hl ⊢
  have hl : lv_has ls 1 [(0, .ref rd)] := hl
  refine lv_aload_n hx hb dX4_read_0 rfl (lv_at hl 0 rfl) ?_
  refine lv_iconst (v := 0) hx hb dX4_read_1 (by decide) ?_
  refine va_put (D := D) (ci := 4) (v := .int 0) (ty := .int) (C := RX4) (T := TX4) (N := 8) hx hb hts hin4 tyX4 tyX4_ok nmX4 hown hK hP hD hS krd erd rfl 3 (by decide) (hts (.fieldLink RX4 26 "HoneyHouse$RuleReader" "faultKind" "I") (List.mem_of_getElem? (i := 1) rfl)) (fun _ h9 => h9) rfl (tyX4_ok 3 (by decide)) rfl rfl (Nat.le_of_ble_eq_true rfl) dX4_read_2 (fun H locs hP hD hS => ?_)
  have hP : va_P D vwCl (ws.set krd (rd, .inr (4, [.ref tp, .long r1, .int r2, .int 0, .int r4, .ref cd, .int r6, .int r7]))) H := hP
  have hD : va_D A (ws.set krd (rd, .inr (4, [.ref tp, .long r1, .int r2, .int 0, .int r4, .ref cd, .int r6, .int r7]))) := hD
  have hm_2 : sm ρ [4] ws (ws.set krd (rd, .inr (4, [.ref tp, .long r1, .int r2, .int 0, .int r4, .ref cd, .int r6, .int r7]))) := sm.flds erd (smF.c (smV.rf _) (smF.c (smV.rf _) (smF.c (smV.rf _) (smF.c (smV.i _ _) (smF.c (smV.rf _) (smF.c (smV.rf _) (smF.c (smV.rf _) (smF.c (smV.rf _) (rfl))))))))) (List.mem_singleton.mpr rfl) wrd
  have e_3 : (ws.set krd (rd, .inr (4, [.ref tp, .long r1, .int r2, .int 0, .int r4, .ref cd, .int r6, .int r7])))[krd]? = some (rd, .inr (4, [.ref tp, .long r1, .int r2, .int 0, .int r4, .ref cd, .int r6, .int r7])) := wset_self erd
  have e_4 := set_n (z := (rd, .inr (4, [.ref tp, .long r1, .int r2, .int 0, .int r4, .ref cd, .int r6, .int r7]))) etp (pl_ne etp erd (by intro h9; simp at h9))
  have e_5 := set_n (z := (rd, .inr (4, [.ref tp, .long r1, .int r2, .int 0, .int r4, .ref cd, .int r6, .int r7]))) ebb (pl_ne ebb erd (by intro h9; simp at h9))
  have e_6 := set_n (z := (rd, .inr (4, [.ref tp, .long r1, .int r2, .int 0, .int r4, .ref cd, .int r6, .int r7]))) ecd (pl_ne ecd erd (by intro h9; simp at h9))
  generalize ws.set krd (rd, .inr (4, [.ref tp, .long r1, .int r2, .int 0, .int r4, .ref cd, .int r6, .int r7])) = ws_1 at hP hD hm_2 e_3 e_4 e_5 e_6
  have hsm := hsm.tr (hm_2.mono (by decide))
  refine lv_aload_n hx hb dX4_read_5 rfl (lv_at hl 0 rfl) ?_
  refine lv_iconst (v := (-1)) hx hb dX4_read_6 (by decide) ?_
  refine va_put (D := D) (ci := 4) (v := .int (-1)) (ty := .int) (C := RX4) (T := TX4) (N := 8) hx hb hts hin4 tyX4 tyX4_ok nmX4 hown hK hP hD hS krd e_3 rfl 4 (by decide) (hts (.fieldLink RX4 18 "HoneyHouse$RuleReader" "faultPlace" "I") (List.mem_of_getElem? (i := 2) rfl)) (fun _ h9 => h9) rfl (tyX4_ok 4 (by decide)) rfl rfl (Nat.le_of_ble_eq_true rfl) dX4_read_7 (fun H locs hP hD hS => ?_)
  have hP : va_P D vwCl (ws_1.set krd (rd, .inr (4, [.ref tp, .long r1, .int r2, .int 0, .int (-1), .ref cd, .int r6, .int r7]))) H := hP
  have hD : va_D A (ws_1.set krd (rd, .inr (4, [.ref tp, .long r1, .int r2, .int 0, .int (-1), .ref cd, .int r6, .int r7]))) := hD
  have hm_8 : sm ρ [4] ws_1 (ws_1.set krd (rd, .inr (4, [.ref tp, .long r1, .int r2, .int 0, .int (-1), .ref cd, .int r6, .int r7]))) := sm.flds e_3 (smF.c (smV.rf _) (smF.c (smV.rf _) (smF.c (smV.rf _) (smF.c (smV.rf _) (smF.c (smV.i _ _) (smF.c (smV.rf _) (smF.c (smV.rf _) (smF.c (smV.rf _) (rfl))))))))) (List.mem_singleton.mpr rfl) wrd
  have e_9 : (ws_1.set krd (rd, .inr (4, [.ref tp, .long r1, .int r2, .int 0, .int (-1), .ref cd, .int r6, .int r7])))[krd]? = some (rd, .inr (4, [.ref tp, .long r1, .int r2, .int 0, .int (-1), .ref cd, .int r6, .int r7])) := wset_self e_3
  have e_10 := set_n (z := (rd, .inr (4, [.ref tp, .long r1, .int r2, .int 0, .int (-1), .ref cd, .int r6, .int r7]))) e_4 (pl_ne e_4 e_3 (by intro h9; simp at h9))
  have e_11 := set_n (z := (rd, .inr (4, [.ref tp, .long r1, .int r2, .int 0, .int (-1), .ref cd, .int r6, .int r7]))) e_5 (pl_ne e_5 e_3 (by intro h9; simp at h9))
  have e_12 := set_n (z := (rd, .inr (4, [.ref tp, .long r1, .int r2, .int 0, .int (-1), .ref cd, .int r6, .int r7]))) e_6 (pl_ne e_6 e_3 (by intro h9; simp at h9))
  generalize ws_1.set krd (rd, .inr (4, [.ref tp, .long r1, .int r2, .int 0, .int (-1), .ref cd, .int r6, .int r7])) = ws_7 at hP hD hm_8 e_9 e_10 e_11 e_12
  have hsm := hsm.tr (hm_8.mono (by decide))
  refine lv_aload_n hx hb dX4_read_10 rfl (lv_at hl 0 rfl) ?_
  refine lv_iconst (v := 0) hx hb dX4_read_11 (by decide) ?_
  refine va_put (D := D) (ci := 4) (v := .int 0) (ty := .int) (C := RX4) (T := TX4) (N := 8) hx hb hts hin4 tyX4 tyX4_ok nmX4 hown hK hP hD hS krd e_9 rfl 6 (by decide) (hts (.fieldLink RX4 29 "HoneyHouse$RuleReader" "codeCount" "I") (List.mem_of_getElem? (i := 3) rfl)) (fun _ h9 => h9) rfl (tyX4_ok 6 (by decide)) rfl rfl (Nat.le_of_ble_eq_true rfl) dX4_read_12 (fun H locs hP hD hS => ?_)
  have hP : va_P D vwCl (ws_7.set krd (rd, .inr (4, [.ref tp, .long r1, .int r2, .int 0, .int (-1), .ref cd, .int 0, .int r7]))) H := hP
  have hD : va_D A (ws_7.set krd (rd, .inr (4, [.ref tp, .long r1, .int r2, .int 0, .int (-1), .ref cd, .int 0, .int r7]))) := hD
  have hm_14 : sm ρ [4] ws_7 (ws_7.set krd (rd, .inr (4, [.ref tp, .long r1, .int r2, .int 0, .int (-1), .ref cd, .int 0, .int r7]))) := sm.flds e_9 (smF.c (smV.rf _) (smF.c (smV.rf _) (smF.c (smV.rf _) (smF.c (smV.rf _) (smF.c (smV.rf _) (smF.c (smV.rf _) (smF.c (smV.i _ _) (smF.c (smV.rf _) (rfl))))))))) (List.mem_singleton.mpr rfl) wrd
  have e_15 : (ws_7.set krd (rd, .inr (4, [.ref tp, .long r1, .int r2, .int 0, .int (-1), .ref cd, .int 0, .int r7])))[krd]? = some (rd, .inr (4, [.ref tp, .long r1, .int r2, .int 0, .int (-1), .ref cd, .int 0, .int r7])) := wset_self e_9
  have e_16 := set_n (z := (rd, .inr (4, [.ref tp, .long r1, .int r2, .int 0, .int (-1), .ref cd, .int 0, .int r7]))) e_10 (pl_ne e_10 e_9 (by intro h9; simp at h9))
  have e_17 := set_n (z := (rd, .inr (4, [.ref tp, .long r1, .int r2, .int 0, .int (-1), .ref cd, .int 0, .int r7]))) e_11 (pl_ne e_11 e_9 (by intro h9; simp at h9))
  have e_18 := set_n (z := (rd, .inr (4, [.ref tp, .long r1, .int r2, .int 0, .int (-1), .ref cd, .int 0, .int r7]))) e_12 (pl_ne e_12 e_9 (by intro h9; simp at h9))
  generalize ws_7.set krd (rd, .inr (4, [.ref tp, .long r1, .int r2, .int 0, .int (-1), .ref cd, .int 0, .int r7])) = ws_13 at hP hD hm_14 e_15 e_16 e_17 e_18
  have hsm := hsm.tr (hm_14.mono (by decide))
  refine lv_aload_n hx hb dX4_read_15 rfl (lv_at hl 0 rfl) ?_
  refine va_get (D := D) (ci := 4) (v := .ref tp) (C := RX4) (T := TX4) (N := 8) hx hb hts hin4 hown hK hP krd e_15 rfl 0 (by decide) (hts (.fieldLink RX4 12 "HoneyHouse$RuleReader" "tape" "LHoneyHouse$Tape;") (List.mem_of_getElem? (i := 4) rfl)) (fun _ h9 => h9) rfl dX4_read_16 ?_
  have hFc := free_all hD hS hA
  refine va_callv (va_runV (As := []) (rest := []) ⟨hx, hb, hml, hown, hts⟩ (a_rewind l D (rz [ktp]) ws_13 tys f9 tp ktp tl y1 y2 y3 bb kbb cbb tbb fbb H.size htl hbf hng e_16 e_17 ubb (rz_o1 (pl_ne e_17 e_16 (by intro h9; simp at h9))) (rz_in (by simp))) (cwV 0 hts gX4_read_X6_rewind rfl rfl rfl (by decide +kernel) ⟨Nat.le_of_ble_eq_true rfl, Nat.le_of_ble_eq_true rfl⟩) ⟨fun a U g mk q => by obtain ⟨q0, q1, qP, qK, qD⟩ := q; exact ⟨q0, q1, qP, va_K.moved (u := U) (U := U.calling g mk a) (Vm.Alike.refl U.vm) qK, qD⟩, va_recv hK hP (ci := 6) (q0 := ktp) rfl e_16, fun U hU hW => ⟨rfl, by rw [hU], by rw [hU]; exact hP, va_K.moved hW.alike hK, hD.weaken (fun _ _ _ _ => trivial)⟩⟩ rfl rfl hl.1 rfl (lv_room (Nat.le_of_ble_eq_true rfl)) dX4_read_19 ⟨Nat.le_of_ble_eq_true rfl, Nat.le_of_ble_eq_true rfl⟩) hS (fun q _ h => hFc q h) hFc (fun u t H1 locs ht hvm w_20 hB hz1 hk1 hS => ?_)
  obtain ⟨ws_21, ty_22, hm_23, ht_25, hP1, hK1, hD1, hx_24⟩ := hB
  rw [ht] at hP1
  have hK := va_K.moved hvm.symm hK1
  have hD := hD1.weaken (fun _ _ _ h => hFc _ h)
  generalize H1 = H at hP1 hS ⊢
  have hP := hP1
  have e_26 := hm_23.keep (rz_o1 (pl_ne e_15 e_16 (by intro h9; simp at h9))) e_15
  have e_27 := hm_23.keep (rz_o1 (pl_ne e_17 e_16 (by intro h9; simp at h9))) e_17
  have e_28 := hm_23.keep (rz_o1 (pl_ne e_18 e_16 (by intro h9; simp at h9))) e_18
  have u_29 := ht_25 _ _ ubb
  have u_30 := ht_25 _ _ ucd
  have hm_31 : sm ρ [6] ws_13 ws_21 := hm_23.up (fun k _ h => rz_u1 wtp k h)
  have hsm := hsm.tr (hm_31.mono (by decide))
  have htx := htx.tr ht_25
  have e_32 : ws_21[ktp]? = some (tp, .inr (6, [.int (nI tl), .int (nI (kdF f9 tl (skB f9 tl 0))), .int (nI (skB f9 tl 0)), .int (nI (teF f9 tl (skB f9 tl 0))), .ref bb])) := hx_24; have hq_33 : pcB f9 tl (skB f9 tl 0) := skB_pc (Nat.zero_le _); have hq_331 := hq_33.1; have hq_33t := teF_le (f := f9) hq_33.1
  have e_35 : ws_21[krd]? = some (rd, .inr (4, [.ref tp, .long r1, .int r2, .int 0, .int (-1), .ref cd, .int (nI ([] : List Tk).length), .int r7])) := e_26
  refine lv_aload_n hx hb dX4_read_22 rfl (lv_at hl 0 rfl) ?_
  have hFc := free_all hD hS hA
  refine va_calli (va_runV (As := []) (rest := []) ⟨hx, hb, hml, hown, hts⟩ (r_readName l D ρ ws_21 ty_22 adK adV fo f9 rd krd tp ktp cd bb tl (skB f9 tl 0) ([]) r1 r2 0 (-1) r7  H.size htl hng (⟨kcd, ccd, tcd, fcd, kbb, cbb, tbb, fbb, hq_33, (Nat.zero_le _), e_35, e_32, wrd, wtp, e_28, u_30, wcd, (fun i h9 => absurd h9 (Nat.not_lt_zero _)), e_27, u_29, wbb, hbf⟩ : RSX ρ ws_21 ty_22 f9 rd krd tp ktp cd bb tl (skB f9 tl 0) ([]) r1 r2 0 (-1) r7) ) (cwV 0 hts gX4_read_X4_readName rfl rfl rfl (by decide +kernel) ⟨Nat.le_of_ble_eq_true rfl, Nat.le_of_ble_eq_true rfl⟩) ⟨fun a U g mk q => by obtain ⟨q0, q1, qP, qK, qD, qS⟩ := q; exact ⟨q0, q1, qP, va_K.moved (u := U) (U := U.calling g mk a) (Vm.Alike.refl U.vm) qK, qD, SZ.same rfl rfl qS⟩, va_recv hK hP (ci := 4) (q0 := krd) rfl e_35, fun U hU hW => ⟨rfl, by rw [hU], by rw [hU]; exact hP, va_K.moved hW.alike hK, hD.weaken (fun _ _ _ _ => trivial), hsz9.go hS hW hU hFc⟩⟩ rfl rfl hl.1 rfl (lv_room (Nat.le_of_ble_eq_true rfl)) dX4_read_23 ⟨Nat.le_of_ble_eq_true rfl, Nat.le_of_ble_eq_true rfl⟩) hS (fun q _ h => hFc q h) hFc (fun r_36 u t H1 locs ht hvm w_37 hB hz1 hk1 hS => ?_)
  subst w_37
  obtain ⟨ws_38, ty_39, hm_40, ht_42, hP1, hK1, hD1, hx_41⟩ := hB
  rw [ht] at hP1
  have hK := va_K.moved hvm.symm hK1
  have hD := hD1.weaken (fun _ _ _ h => hFc _ h)
  generalize H1 = H at hP1 hS ⊢
  have hP := hP1
  obtain ⟨g_44, e_43, h_45⟩ := hm_40.obj e_35
  obtain ⟨z_46, z_47, z_48, z_49, z_50, z_51, rfl⟩ := smX4 h_45
  obtain ⟨g_53, e_52, h_54⟩ := hm_40.obj e_32
  obtain ⟨z_55, z_56, z_57, z_58, rfl⟩ := smX6 h_54
  have e_59 := hm_40.keep (by rw [wbb]; omega) e_27
  have u_60 := ht_42 _ _ u_29
  obtain ⟨f_62, e_61⟩ := hm_40.arrI e_28
  have u_63 := ht_42 _ _ u_30
  have hsm := hsm.tr (hm_40.mono (by decide))
  have htx := htx.tr ht_42
  rcases hx_41 with ⟨rfl, ⟨c_64, hR_67⟩ | ⟨c_64, d_65, hR_67⟩⟩ | ⟨rfl, c_64, d_65, nk_66, hR_67⟩
  · obtain ⟨kc_68, cc_69, tc_70, fc_71, kb_72, cb_73, tb_74, fb_75, hp_76, hT_77, er_78, et_79, wr_80, wt_81, ec_82, uc_83, wc_84, hc_85, eb_86, ub_87, wb_88, hb_89⟩ := id hR_67
    have hp_761 := hp_76.1
    have hp_76t := teF_le (f := f9) hp_76.1
    refine lv_if_eq (tgt := 46) hx hb dX4_read_26 (by decide) (fun c_90 => ?_) (fun c_90 => absurd (by decide) c_90)
    refine lv_iconst (v := 0) hx hb dX4_read_46 (by decide) ?_
    exact W.zret (v := 0) hx hb hr rfl (fun t ht hW => ⟨⟨0, 0, rfl, rfl, ws_38, ty_39, hsm, htx, by rw [ht]; exact hP, va_K.moved hW.alike hK, hD, ⟨1, skB f9 tl 0, 0, [], Or.inl ⟨c_64, rfl, rfl⟩, Or.inl ⟨rfl, by omega, by omega, _, _, _, _, _, (⟨kc_68, cc_69, tc_70, fc_71, kb_72, cb_73, tb_74, fb_75, hp_76, hT_77, er_78, et_79, wr_80, wt_81, ec_82, uc_83, wc_84, hc_85, eb_86, ub_87, wb_88, hb_89⟩ : RSX ρ ws_38 ty_39 f9 rd krd tp ktp cd bb tl (skB f9 tl 0) ([]) r1 r2 1 (nI (skB f9 tl 0)) r7)⟩⟩⟩, hS.F ht⟩) hS.2.2 dX4_read_47
  · obtain ⟨kc_91, cc_92, tc_93, fc_94, kb_95, cb_96, tb_97, fb_98, hp_99, hT_100, er_101, et_102, wr_103, wt_104, ec_105, uc_106, wc_107, hc_108, eb_109, ub_110, wb_111, hb_112⟩ := id hR_67
    have hp_991 := hp_99.1
    have hp_99t := teF_le (f := f9) hp_99.1
    refine lv_if_eq (tgt := 46) hx hb dX4_read_26 (by decide) (fun c_113 => ?_) (fun c_113 => absurd (by decide) c_113)
    refine lv_iconst (v := 0) hx hb dX4_read_46 (by decide) ?_
    exact W.zret (v := 0) hx hb hr rfl (fun t ht hW => ⟨⟨0, 0, rfl, rfl, ws_38, ty_39, hsm, htx, by rw [ht]; exact hP, va_K.moved hW.alike hK, hD, ⟨1, skB f9 tl 0 + 12, 0, [], Or.inr (Or.inl ⟨c_64, d_65, rfl, rfl⟩), Or.inl ⟨rfl, by omega, by omega, _, _, _, _, _, (⟨kc_91, cc_92, tc_93, fc_94, kb_95, cb_96, tb_97, fb_98, hp_99, hT_100, er_101, et_102, wr_103, wt_104, ec_105, uc_106, wc_107, hc_108, eb_109, ub_110, wb_111, hb_112⟩ : RSX ρ ws_38 ty_39 f9 rd krd tp ktp cd bb tl (skB f9 tl 0) ([]) r1 r2 1 (nI ((skB f9 tl 0) + 12)) r7)⟩⟩⟩, hS.F ht⟩) hS.2.2 dX4_read_47
  obtain ⟨kc_114, cc_115, tc_116, fc_117, kb_118, cb_119, tb_120, fb_121, hp_122, hT_123, er_124, et_125, wr_126, wt_127, ec_128, uc_129, wc_130, hc_131, eb_132, ub_133, wb_134, hb_135⟩ := id hR_67
  have hp_1221 := hp_122.1
  have hp_122t := teF_le (f := f9) hp_122.1
  refine lv_if_eq (tgt := 46) hx hb dX4_read_26 (by decide) (fun c_136 => absurd c_136 (by decide)) (fun c_136 => ?_)
  refine lv_aload_n hx hb dX4_read_29 rfl (lv_at hl 0 rfl) ?_
  refine lv_bipush (v := 58) hx hb dX4_read_30 (by decide) ?_
  have hFc := free_all hD hS hA
  refine va_calli (va_runV (As := [.int 58]) (rest := []) ⟨hx, hb, hml, hown, hts⟩ (r_readByte l D ρ ws_38 ty_39 adK adV fo f9 rd krd tp ktp cd bb tl (nxF f9 tl (skB f9 tl 0)) ([]) nk_66 r2 0 (-1) r7 58 H.size htl hng (⟨kc_114, cc_115, tc_116, fc_117, kb_118, cb_119, tb_120, fb_121, hp_122, hT_123, er_124, et_125, wr_126, wt_127, ec_128, uc_129, wc_130, hc_131, eb_132, ub_133, wb_134, hb_135⟩ : RSX ρ ws_38 ty_39 f9 rd krd tp ktp cd bb tl (nxF f9 tl (skB f9 tl 0)) ([]) nk_66 r2 0 (-1) r7) (by unfold ltr; decide) (by unfold dgt; decide)) (cwV 1 hts gX4_read_X4_readByte rfl rfl rfl (by decide +kernel) ⟨Nat.le_of_ble_eq_true rfl, Nat.le_of_ble_eq_true rfl⟩) ⟨fun a U g mk q => by obtain ⟨q0, q1, qP, qK, qD, qS⟩ := q; exact ⟨q0, q1, qP, va_K.moved (u := U) (U := U.calling g mk a) (Vm.Alike.refl U.vm) qK, qD, SZ.same rfl rfl qS⟩, va_recv hK hP (ci := 4) (q0 := krd) rfl er_124, fun U hU hW => ⟨rfl, by rw [hU], by rw [hU]; exact hP, va_K.moved hW.alike hK, hD.weaken (fun _ _ _ _ => trivial), hsz9.go hS hW hU hFc⟩⟩ rfl rfl hl.1 rfl (lv_room (Nat.le_of_ble_eq_true rfl)) dX4_read_32 ⟨Nat.le_of_ble_eq_true rfl, Nat.le_of_ble_eq_true rfl⟩) hS (fun q _ h => hFc q h) hFc (fun r_137 u t H1 locs ht hvm w_138 hB hz1 hk1 hS => ?_)
  subst w_138
  obtain ⟨ws_139, ty_140, hm_141, ht_143, hP1, hK1, hD1, hx_142⟩ := hB
  rw [ht] at hP1
  have hK := va_K.moved hvm.symm hK1
  have hD := hD1.weaken (fun _ _ _ h => hFc _ h)
  generalize H1 = H at hP1 hS ⊢
  have hP := hP1
  obtain ⟨g_145, e_144, h_146⟩ := hm_141.obj er_124
  obtain ⟨z_147, z_148, z_149, z_150, z_151, z_152, rfl⟩ := smX4 h_146
  obtain ⟨g_154, e_153, h_155⟩ := hm_141.obj et_125
  obtain ⟨z_156, z_157, z_158, z_159, rfl⟩ := smX6 h_155
  obtain ⟨f_161, e_160⟩ := hm_141.arrI ec_128
  have u_162 := ht_143 _ _ uc_129
  have e_163 := hm_141.keep (by rw [wb_134]; omega) eb_132
  have u_164 := ht_143 _ _ ub_133
  have hsm := hsm.tr (hm_141.mono (by decide))
  have htx := htx.tr ht_143
  rcases hx_142 with ⟨rfl, rb_165, hR_166⟩ | ⟨rfl, rb_165, hR_166⟩
  · obtain ⟨kc_167, cc_168, tc_169, fc_170, kb_171, cb_172, tb_173, fb_174, hp_175, hT_176, er_177, et_178, wr_179, wt_180, ec_181, uc_182, wc_183, hc_184, eb_185, ub_186, wb_187, hb_188⟩ := id hR_166
    have hp_1751 := hp_175.1
    have hp_175t := teF_le (f := f9) hp_175.1
    refine lv_if_eq (tgt := 46) hx hb dX4_read_35 (by decide) (fun c_189 => ?_) (fun c_189 => absurd (by decide) c_189)
    refine lv_iconst (v := 0) hx hb dX4_read_46 (by decide) ?_
    exact W.zret (v := 0) hx hb hr rfl (fun t ht hW => ⟨⟨0, 0, rfl, rfl, ws_139, ty_140, hsm, htx, by rw [ht]; exact hP, va_K.moved hW.alike hK, hD, ⟨1, nxF f9 tl (skB f9 tl 0), 0, [], Or.inr (Or.inr ⟨c_64, d_65, Or.inl ⟨rb_165, rfl, rfl⟩⟩), Or.inl ⟨rfl, by omega, by omega, _, _, _, _, _, (⟨kc_167, cc_168, tc_169, fc_170, kb_171, cb_172, tb_173, fb_174, hp_175, hT_176, er_177, et_178, wr_179, wt_180, ec_181, uc_182, wc_183, hc_184, eb_185, ub_186, wb_187, hb_188⟩ : RSX ρ ws_139 ty_140 f9 rd krd tp ktp cd bb tl (nxF f9 tl (skB f9 tl 0)) ([]) nk_66 r2 1 (nI (nxF f9 tl (skB f9 tl 0))) r7)⟩⟩⟩, hS.F ht⟩) hS.2.2 dX4_read_47
  have rb_165g := nx_gain (f := f9) hp_122.1
  obtain ⟨kc_190, cc_191, tc_192, fc_193, kb_194, cb_195, tb_196, fb_197, hp_198, hT_199, er_200, et_201, wr_202, wt_203, ec_204, uc_205, wc_206, hc_207, eb_208, ub_209, wb_210, hb_211⟩ := id hR_166
  have hp_1981 := hp_198.1
  have hp_198t := teF_le (f := f9) hp_198.1
  refine lv_if_eq (tgt := 46) hx hb dX4_read_35 (by decide) (fun c_212 => absurd c_212 (by decide)) (fun c_212 => ?_)
  refine lv_aload_n hx hb dX4_read_38 rfl (lv_at hl 0 rfl) ?_
  refine lv_iconst (v := 0) hx hb dX4_read_39 (by decide) ?_
  have hFc := free_all hD hS hA
  refine va_calli (va_runV (As := [.int 0]) (rest := []) ⟨hx, hb, hml, hown, hts⟩ (r_readEither0 l D ρ ws_139 ty_140 adK adV fo f9 rd krd tp ktp cd bb tl (nxF f9 tl (nxF f9 tl (skB f9 tl 0))) ([]) nk_66 r2 0 (-1) r7 [] H.size htl hng (⟨kc_190, cc_191, tc_192, fc_193, kb_194, cb_195, tb_196, fb_197, hp_198, hT_199, er_200, et_201, wr_202, wt_203, ec_204, uc_205, wc_206, hc_207, eb_208, ub_209, wb_210, hb_211⟩ : RSX ρ ws_139 ty_140 f9 rd krd tp ktp cd bb tl (nxF f9 tl (nxF f9 tl (skB f9 tl 0))) ([]) nk_66 r2 0 (-1) r7) bas_0 rfl (Nat.zero_le _)) (cwV 1 hts gX4_read_X4_readEither rfl rfl rfl (by decide +kernel) ⟨Nat.le_of_ble_eq_true rfl, Nat.le_of_ble_eq_true rfl⟩) ⟨fun a U g mk q => by obtain ⟨q0, q1, qP, qK, qD, qS⟩ := q; exact ⟨q0, q1, qP, va_K.moved (u := U) (U := U.calling g mk a) (Vm.Alike.refl U.vm) qK, qD, SZ.same rfl rfl qS⟩, va_recv hK hP (ci := 4) (q0 := krd) rfl er_200, fun U hU hW => ⟨rfl, by rw [hU], by rw [hU]; exact hP, va_K.moved hW.alike hK, hD.weaken (fun _ _ _ _ => trivial), hsz9.go hS hW hU hFc⟩⟩ rfl rfl hl.1 rfl (lv_room (Nat.le_of_ble_eq_true rfl)) dX4_read_40 ⟨Nat.le_of_ble_eq_true rfl, Nat.le_of_ble_eq_true rfl⟩) hS (fun q _ h => hFc q h) hFc (fun r_213 u t H1 locs ht hvm w_214 hB hz1 hk1 hS => ?_)
  subst w_214
  obtain ⟨ws_215, ty_216, hm_217, ht_219, hP1, hK1, hD1, hx_218⟩ := hB
  rw [ht] at hP1
  have hK := va_K.moved hvm.symm hK1
  have hD := hD1.weaken (fun _ _ _ h => hFc _ h)
  generalize H1 = H at hP1 hS ⊢
  have hP := hP1
  obtain ⟨g_221, e_220, h_222⟩ := hm_217.obj er_200
  obtain ⟨z_223, z_224, z_225, z_226, z_227, z_228, rfl⟩ := smX4 h_222
  obtain ⟨g_230, e_229, h_231⟩ := hm_217.obj et_201
  obtain ⟨z_232, z_233, z_234, z_235, rfl⟩ := smX6 h_231
  obtain ⟨f_237, e_236⟩ := hm_217.arrI ec_204
  have u_238 := ht_219 _ _ uc_205
  have e_239 := hm_217.keep (by rw [wb_210]; omega) eb_208
  have u_240 := ht_219 _ _ ub_209
  have hsm := hsm.tr (hm_217.mono (by decide))
  have htx := htx.tr ht_219
  rcases hx_218 with ⟨rfl, k_241, p_242, ts_243, T_244, vl_245, hk_246, hk_247, hr_248, hR_249⟩ | ⟨rfl, b_250, ta_251, T_244, vl_245, hr_248, hj_252, hn_253, hg_254, hg_255, hR_249⟩
  · obtain ⟨kc_256, cc_257, tc_258, fc_259, kb_260, cb_261, tb_262, fb_263, hp_264, hT_265, er_266, et_267, wr_268, wt_269, ec_270, uc_271, wc_272, hc_273, eb_274, ub_275, wb_276, hb_277⟩ := id hR_249
    have hp_2641 := hp_264.1
    have hp_264t := teF_le (f := f9) hp_264.1
    refine lv_if_ne (tgt := 48) hx hb dX4_read_43 (by decide) (fun c_278 => absurd (by decide) c_278) (fun c_278 => ?_)
    refine lv_iconst (v := 0) hx hb dX4_read_46 (by decide) ?_
    exact W.zret (v := 0) hx hb hr rfl (fun t ht hW => ⟨⟨0, 0, rfl, rfl, ws_215, ty_216, hsm, htx, by rw [ht]; exact hP, va_K.moved hW.alike hK, hD, ⟨k_241, p_242, 0, [], Or.inr (Or.inr ⟨c_64, d_65, Or.inr ⟨rb_165, _, hr_248, Or.inl ⟨k_241, by omega, rfl, rfl, rfl⟩⟩⟩), Or.inl ⟨rfl, by omega, by omega, _, _, _, _, _, (⟨kc_256, cc_257, tc_258, fc_259, kb_260, cb_261, tb_262, fb_263, hp_264, hT_265, er_266, et_267, wr_268, wt_269, ec_270, uc_271, wc_272, hc_273, eb_274, ub_275, wb_276, hb_277⟩ : RSX ρ ws_215 ty_216 f9 rd krd tp ktp cd bb tl ts_243 T_244 nk_66 r2 (nI k_241) (nI p_242) vl_245)⟩⟩⟩, hS.F ht⟩) hS.2.2 dX4_read_47
  obtain ⟨kc_279, cc_280, tc_281, fc_282, kb_283, cb_284, tb_285, fb_286, hp_287, hT_288, er_289, et_290, wr_291, wt_292, ec_293, uc_294, wc_295, hc_296, eb_297, ub_298, wb_299, hb_300⟩ := id hR_249
  have hp_2871 := hp_287.1
  have hp_287t := teF_le (f := f9) hp_287.1
  refine lv_if_ne (tgt := 48) hx hb dX4_read_43 (by decide) (fun c_301 => ?_) (fun c_301 => absurd c_301 (by decide))
  refine lv_aload_n hx hb dX4_read_48 rfl (lv_at hl 0 rfl) ?_
  refine va_ldcS hx hb hown hsz9.2.2.2.1 dX4_read_49 ?_
  have hFc := free_all hD hS hA
  refine va_calli (va_runV (As := [.ref (adK 0)]) (rest := []) ⟨hx, hb, hml, hown, hts⟩ (r_readWord l D ρ ws_215 ty_216 adK adV fo f9 rd krd tp ktp cd bb tl b_250 (T_244 ++ eO ta_251) nk_66 r2 0 (-1) vl_245 0 H.size htl hng (⟨kc_279, cc_280, tc_281, fc_282, kb_283, cb_284, tb_285, fb_286, hp_287, hT_288, er_289, et_290, wr_291, wt_292, ec_293, uc_294, wc_295, hc_296, eb_297, ub_298, wb_299, hb_300⟩ : RSX ρ ws_215 ty_216 f9 rd krd tp ktp cd bb tl b_250 (T_244 ++ eO ta_251) nk_66 r2 0 (-1) vl_245) (by decide)) (cwV 1 hts gX4_read_X4_readWord rfl rfl rfl (by decide +kernel) ⟨Nat.le_of_ble_eq_true rfl, Nat.le_of_ble_eq_true rfl⟩) ⟨fun a U g mk q => by obtain ⟨q0, q1, qP, qK, qD, qS⟩ := q; exact ⟨q0, q1, qP, va_K.moved (u := U) (U := U.calling g mk a) (Vm.Alike.refl U.vm) qK, qD, SZ.same rfl rfl qS⟩, va_recv hK hP (ci := 4) (q0 := krd) rfl er_289, fun U hU hW => ⟨rfl, by rw [hU], by rw [hU]; exact hP, va_K.moved hW.alike hK, hD.weaken (fun _ _ _ _ => trivial), hsz9.go hS hW hU hFc⟩⟩ rfl rfl hl.1 rfl (lv_room (Nat.le_of_ble_eq_true rfl)) dX4_read_51 ⟨Nat.le_of_ble_eq_true rfl, Nat.le_of_ble_eq_true rfl⟩) hS (fun q _ h => hFc q h) hFc (fun r_302 u t H1 locs ht hvm w_303 hB hz1 hk1 hS => ?_)
  subst w_303
  obtain ⟨ws_304, ty_305, hm_306, ht_308, hP1, hK1, hD1, hx_307⟩ := hB
  rw [ht] at hP1
  have hK := va_K.moved hvm.symm hK1
  have hD := hD1.weaken (fun _ _ _ h => hFc _ h)
  generalize H1 = H at hP1 hS ⊢
  have hP := hP1
  obtain ⟨g_310, e_309, h_311⟩ := hm_306.obj er_289
  obtain ⟨z_312, z_313, z_314, z_315, z_316, z_317, rfl⟩ := smX4 h_311
  obtain ⟨g_319, e_318, h_320⟩ := hm_306.obj et_290
  obtain ⟨z_321, z_322, z_323, z_324, rfl⟩ := smX6 h_320
  obtain ⟨f_326, e_325⟩ := hm_306.arrI ec_293
  have u_327 := ht_308 _ _ uc_294
  have e_328 := hm_306.keep (by rw [wb_299]; omega) eb_297
  have u_329 := ht_308 _ _ ub_298
  have hsm := hsm.tr (hm_306.mono (by decide))
  have htx := htx.tr ht_308
  rcases hx_307 with ⟨rfl, rw_330, hR_331⟩ | ⟨rfl, rw_330, hR_331⟩
  · have rw_330 : ¬ wdE f9 tl b_250 = 0 := rw_330
    obtain ⟨kc_332, cc_333, tc_334, fc_335, kb_336, cb_337, tb_338, fb_339, hp_340, hT_341, er_342, et_343, wr_344, wt_345, ec_346, uc_347, wc_348, hc_349, eb_350, ub_351, wb_352, hb_353⟩ := id hR_331
    have hp_3401 := hp_340.1
    have hp_340t := teF_le (f := f9) hp_340.1
    refine lv_if_eq (tgt := 67) hx hb dX4_read_54 (by decide) (fun c_354 => ?_) (fun c_354 => absurd (by decide) c_354)
    refine lv_iconst (v := 0) hx hb dX4_read_67 (by decide) ?_
    exact W.zret (v := 0) hx hb hr rfl (fun t ht hW => ⟨⟨0, 0, rfl, rfl, ws_304, ty_305, hsm, htx, by rw [ht]; exact hP, va_K.moved hW.alike hK, hD, ⟨1, b_250, 0, (T_244 ++ eO ta_251), Or.inr (Or.inr ⟨c_64, d_65, Or.inr ⟨rb_165, _, hr_248.st (st_end hn_253 (by rw [← brk_jO, hj_252]; rfl)), Or.inr ⟨rfl, rfl, Or.inl ⟨rw_330, rfl, rfl⟩⟩⟩⟩), Or.inl ⟨rfl, by omega, by omega, _, _, _, _, _, (⟨kc_332, cc_333, tc_334, fc_335, kb_336, cb_337, tb_338, fb_339, hp_340, hT_341, er_342, et_343, wr_344, wt_345, ec_346, uc_347, wc_348, hc_349, eb_350, ub_351, wb_352, hb_353⟩ : RSX ρ ws_304 ty_305 f9 rd krd tp ktp cd bb tl b_250 (T_244 ++ eO ta_251) nk_66 r2 1 (nI b_250) vl_245)⟩⟩⟩, hS.F ht⟩) hS.2.2 dX4_read_68
  have rw_330 : wdE f9 tl b_250 = 0 := rw_330
  obtain ⟨kc_355, cc_356, tc_357, fc_358, kb_359, cb_360, tb_361, fb_362, hp_363, hT_364, er_365, et_366, wr_367, wt_368, ec_369, uc_370, wc_371, hc_372, eb_373, ub_374, wb_375, hb_376⟩ := id hR_331
  have hp_3631 := hp_363.1
  have hp_363t := teF_le (f := f9) hp_363.1
  refine lv_if_eq (tgt := 67) hx hb dX4_read_54 (by decide) (fun c_377 => absurd c_377 (by decide)) (fun c_377 => ?_)
  refine lv_aload_n hx hb dX4_read_57 rfl (lv_at hl 0 rfl) ?_
  refine lv_sipush (v := 30000) hx hb dX4_read_58 (by decide) ?_
  have hFc := free_all hD hS hA
  refine va_calli (va_runV (As := [.int 30000]) (rest := []) ⟨hx, hb, hml, hown, hts⟩ (r_readNumber l D ρ ws_304 ty_305 adK adV fo f9 rd krd tp ktp cd bb tl (nxF f9 tl b_250) (T_244 ++ eO ta_251) nk_66 r2 0 (-1) vl_245 30000 H.size htl hng (⟨kc_355, cc_356, tc_357, fc_358, kb_359, cb_360, tb_361, fb_362, hp_363, hT_364, er_365, et_366, wr_367, wt_368, ec_369, uc_370, wc_371, hc_372, eb_373, ub_374, wb_375, hb_376⟩ : RSX ρ ws_304 ty_305 f9 rd krd tp ktp cd bb tl (nxF f9 tl b_250) (T_244 ++ eO ta_251) nk_66 r2 0 (-1) vl_245) (by omega)) (cwV 1 hts gX4_read_X4_readNumber rfl rfl rfl (by decide +kernel) ⟨Nat.le_of_ble_eq_true rfl, Nat.le_of_ble_eq_true rfl⟩) ⟨fun a U g mk q => by obtain ⟨q0, q1, qP, qK, qD, qS⟩ := q; exact ⟨q0, q1, qP, va_K.moved (u := U) (U := U.calling g mk a) (Vm.Alike.refl U.vm) qK, qD, SZ.same rfl rfl qS⟩, va_recv hK hP (ci := 4) (q0 := krd) rfl er_365, fun U hU hW => ⟨rfl, by rw [hU], by rw [hU]; exact hP, va_K.moved hW.alike hK, hD.weaken (fun _ _ _ _ => trivial), hsz9.go hS hW hU hFc⟩⟩ rfl rfl hl.1 rfl (lv_room (Nat.le_of_ble_eq_true rfl)) dX4_read_61 ⟨Nat.le_of_ble_eq_true rfl, Nat.le_of_ble_eq_true rfl⟩) hS (fun q _ h => hFc q h) hFc (fun r_378 u t H1 locs ht hvm w_379 hB hz1 hk1 hS => ?_)
  subst w_379
  obtain ⟨ws_380, ty_381, hm_382, ht_384, hP1, hK1, hD1, hx_383⟩ := hB
  rw [ht] at hP1
  have hK := va_K.moved hvm.symm hK1
  have hD := hD1.weaken (fun _ _ _ h => hFc _ h)
  generalize H1 = H at hP1 hS ⊢
  have hP := hP1
  obtain ⟨g_386, e_385, h_387⟩ := hm_382.obj er_365
  obtain ⟨z_388, z_389, z_390, z_391, z_392, z_393, rfl⟩ := smX4 h_387
  obtain ⟨g_395, e_394, h_396⟩ := hm_382.obj et_366
  obtain ⟨z_397, z_398, z_399, z_400, rfl⟩ := smX6 h_396
  obtain ⟨f_402, e_401⟩ := hm_382.arrI ec_369
  have u_403 := ht_384 _ _ uc_370
  have e_404 := hm_382.keep (by rw [wb_375]; omega) eb_373
  have u_405 := ht_384 _ _ ub_374
  have hsm := hsm.tr (hm_382.mono (by decide))
  have htx := htx.tr ht_384
  obtain ⟨k_406, p_407, v_408, hn_409, ⟨rfl, hk_410, hk_411, vl_412, hR_413⟩ | ⟨rfl, hk_410, hR_413⟩⟩ := hx_383
  · obtain ⟨kc_414, cc_415, tc_416, fc_417, kb_418, cb_419, tb_420, fb_421, hp_422, hT_423, er_424, et_425, wr_426, wt_427, ec_428, uc_429, wc_430, hc_431, eb_432, ub_433, wb_434, hb_435⟩ := id hR_413
    have hp_4221 := hp_422.1
    have hp_422t := teF_le (f := f9) hp_422.1
    refine lv_if_ne (tgt := 69) hx hb dX4_read_64 (by decide) (fun c_436 => absurd (by decide) c_436) (fun c_436 => ?_)
    refine lv_iconst (v := 0) hx hb dX4_read_67 (by decide) ?_
    exact W.zret (v := 0) hx hb hr rfl (fun t ht hW => ⟨⟨0, 0, rfl, rfl, ws_380, ty_381, hsm, htx, by rw [ht]; exact hP, va_K.moved hW.alike hK, hD, ⟨k_406, p_407, 0, (T_244 ++ eO ta_251), Or.inr (Or.inr ⟨c_64, d_65, Or.inr ⟨rb_165, _, hr_248.st (st_end hn_253 (by rw [← brk_jO, hj_252]; rfl)), Or.inr ⟨rfl, rfl, Or.inr ⟨rw_330, k_406, p_407, v_408, hn_409, Or.inl ⟨hk_410, rfl, rfl⟩⟩⟩⟩⟩), Or.inl ⟨rfl, by omega, by omega, _, _, _, _, _, (⟨kc_414, cc_415, tc_416, fc_417, kb_418, cb_419, tb_420, fb_421, hp_422, hT_423, er_424, et_425, wr_426, wt_427, ec_428, uc_429, wc_430, hc_431, eb_432, ub_433, wb_434, hb_435⟩ : RSX ρ ws_380 ty_381 f9 rd krd tp ktp cd bb tl (nxF f9 tl b_250) (T_244 ++ eO ta_251) nk_66 r2 (nI k_406) (nI p_407) vl_412)⟩⟩⟩, hS.F ht⟩) hS.2.2 dX4_read_68
  subst hk_410
  obtain ⟨kc_437, cc_438, tc_439, fc_440, kb_441, cb_442, tb_443, fb_444, hp_445, hT_446, er_447, et_448, wr_449, wt_450, ec_451, uc_452, wc_453, hc_454, eb_455, ub_456, wb_457, hb_458⟩ := id hR_413
  have hp_4451 := hp_445.1
  have hp_445t := teF_le (f := f9) hp_445.1
  refine lv_if_ne (tgt := 69) hx hb dX4_read_64 (by decide) (fun c_459 => ?_) (fun c_459 => absurd c_459 (by decide))
  refine lv_aload_n hx hb dX4_read_69 rfl (lv_at hl 0 rfl) ?_
  refine lv_aload_n hx hb dX4_read_70 rfl (lv_at hl 0 rfl) ?_
  refine va_get (D := D) (ci := 4) (v := .int (nI v_408)) (C := RX4) (T := TX4) (N := 8) hx hb hts hin4 hown hK hP krd er_447 rfl 7 (by decide) (hts (.fieldLink RX4 56 "HoneyHouse$RuleReader" "value" "I") (List.mem_of_getElem? (i := 5) rfl)) (fun _ h9 => h9) rfl dX4_read_71 ?_
  refine va_put (D := D) (ci := 4) (v := .int (nI v_408)) (ty := .int) (C := RX4) (T := TX4) (N := 8) hx hb hts hin4 tyX4 tyX4_ok nmX4 hown hK hP hD hS krd er_447 rfl 2 (by decide) (hts (.fieldLink RX4 59 "HoneyHouse$RuleReader" "from" "I") (List.mem_of_getElem? (i := 6) rfl)) (fun _ h9 => h9) rfl (tyX4_ok 2 (by decide)) rfl rfl (Nat.le_of_ble_eq_true rfl) dX4_read_74 (fun H locs hP hD hS => ?_)
  have hP : va_P D vwCl (ws_380.set krd (rd, .inr (4, [.ref tp, .long nk_66, .int (nI v_408), .int 0, .int (-1), .ref cd, .int (nI (T_244 ++ eO ta_251).length), .int (nI v_408)]))) H := hP
  have hD : va_D A (ws_380.set krd (rd, .inr (4, [.ref tp, .long nk_66, .int (nI v_408), .int 0, .int (-1), .ref cd, .int (nI (T_244 ++ eO ta_251).length), .int (nI v_408)]))) := hD
  have hm_461 : sm ρ [4] ws_380 (ws_380.set krd (rd, .inr (4, [.ref tp, .long nk_66, .int (nI v_408), .int 0, .int (-1), .ref cd, .int (nI (T_244 ++ eO ta_251).length), .int (nI v_408)]))) := sm.flds er_447 (smF.c (smV.rf _) (smF.c (smV.rf _) (smF.c (smV.i _ _) (smF.c (smV.rf _) (smF.c (smV.rf _) (smF.c (smV.rf _) (smF.c (smV.rf _) (smF.c (smV.rf _) (rfl))))))))) (List.mem_singleton.mpr rfl) wr_449
  have e_462 : (ws_380.set krd (rd, .inr (4, [.ref tp, .long nk_66, .int (nI v_408), .int 0, .int (-1), .ref cd, .int (nI (T_244 ++ eO ta_251).length), .int (nI v_408)])))[krd]? = some (rd, .inr (4, [.ref tp, .long nk_66, .int (nI v_408), .int 0, .int (-1), .ref cd, .int (nI (T_244 ++ eO ta_251).length), .int (nI v_408)])) := wset_self er_447
  have e_463 := set_n (z := (rd, .inr (4, [.ref tp, .long nk_66, .int (nI v_408), .int 0, .int (-1), .ref cd, .int (nI (T_244 ++ eO ta_251).length), .int (nI v_408)]))) et_448 (pl_ne et_448 er_447 (by intro h9; simp at h9))
  have e_464 := set_n (z := (rd, .inr (4, [.ref tp, .long nk_66, .int (nI v_408), .int 0, .int (-1), .ref cd, .int (nI (T_244 ++ eO ta_251).length), .int (nI v_408)]))) ec_451 (pl_ne ec_451 er_447 (by intro h9; simp at h9))
  have e_465 := set_n (z := (rd, .inr (4, [.ref tp, .long nk_66, .int (nI v_408), .int 0, .int (-1), .ref cd, .int (nI (T_244 ++ eO ta_251).length), .int (nI v_408)]))) eb_455 (pl_ne eb_455 er_447 (by intro h9; simp at h9))
  generalize ws_380.set krd (rd, .inr (4, [.ref tp, .long nk_66, .int (nI v_408), .int 0, .int (-1), .ref cd, .int (nI (T_244 ++ eO ta_251).length), .int (nI v_408)])) = ws_460 at hP hD hm_461 e_462 e_463 e_464 e_465
  have hsm := hsm.tr (hm_461.mono (by decide))
  refine lv_aload_n hx hb dX4_read_77 rfl (lv_at hl 0 rfl) ?_
  refine lv_bipush (v := 59) hx hb dX4_read_78 (by decide) ?_
  have hFc := free_all hD hS hA
  refine va_calli (va_runV (As := [.int 59]) (rest := []) ⟨hx, hb, hml, hown, hts⟩ (r_readByte l D ρ ws_460 ty_381 adK adV fo f9 rd krd tp ktp cd bb tl p_407 (T_244 ++ eO ta_251) nk_66 (nI v_408) 0 (-1) (nI v_408) 59 H.size htl hng (⟨kc_437, cc_438, tc_439, fc_440, kb_441, cb_442, tb_443, fb_444, hp_445, hT_446, e_462, e_463, wr_449, wt_450, e_464, uc_452, wc_453, hc_454, e_465, ub_456, wb_457, hb_458⟩ : RSX ρ ws_460 ty_381 f9 rd krd tp ktp cd bb tl p_407 (T_244 ++ eO ta_251) nk_66 (nI v_408) 0 (-1) (nI v_408)) (by unfold ltr; decide) (by unfold dgt; decide)) (cwV 1 hts gX4_read_X4_readByte rfl rfl rfl (by decide +kernel) ⟨Nat.le_of_ble_eq_true rfl, Nat.le_of_ble_eq_true rfl⟩) ⟨fun a U g mk q => by obtain ⟨q0, q1, qP, qK, qD, qS⟩ := q; exact ⟨q0, q1, qP, va_K.moved (u := U) (U := U.calling g mk a) (Vm.Alike.refl U.vm) qK, qD, SZ.same rfl rfl qS⟩, va_recv hK hP (ci := 4) (q0 := krd) rfl e_462, fun U hU hW => ⟨rfl, by rw [hU], by rw [hU]; exact hP, va_K.moved hW.alike hK, hD.weaken (fun _ _ _ _ => trivial), hsz9.go hS hW hU hFc⟩⟩ rfl rfl hl.1 rfl (lv_room (Nat.le_of_ble_eq_true rfl)) dX4_read_80 ⟨Nat.le_of_ble_eq_true rfl, Nat.le_of_ble_eq_true rfl⟩) hS (fun q _ h => hFc q h) hFc (fun r_466 u t H1 locs ht hvm w_467 hB hz1 hk1 hS => ?_)
  subst w_467
  obtain ⟨ws_468, ty_469, hm_470, ht_472, hP1, hK1, hD1, hx_471⟩ := hB
  rw [ht] at hP1
  have hK := va_K.moved hvm.symm hK1
  have hD := hD1.weaken (fun _ _ _ h => hFc _ h)
  generalize H1 = H at hP1 hS ⊢
  have hP := hP1
  obtain ⟨g_474, e_473, h_475⟩ := hm_470.obj e_462
  obtain ⟨z_476, z_477, z_478, z_479, z_480, z_481, rfl⟩ := smX4 h_475
  obtain ⟨g_483, e_482, h_484⟩ := hm_470.obj e_463
  obtain ⟨z_485, z_486, z_487, z_488, rfl⟩ := smX6 h_484
  obtain ⟨f_490, e_489⟩ := hm_470.arrI e_464
  have u_491 := ht_472 _ _ uc_452
  have e_492 := hm_470.keep (by rw [wb_457]; omega) e_465
  have u_493 := ht_472 _ _ ub_456
  have hsm := hsm.tr (hm_470.mono (by decide))
  have htx := htx.tr ht_472
  rcases hx_471 with ⟨rfl, rb_494, hR_495⟩ | ⟨rfl, rb_494, hR_495⟩
  · obtain ⟨kc_496, cc_497, tc_498, fc_499, kb_500, cb_501, tb_502, fb_503, hp_504, hT_505, er_506, et_507, wr_508, wt_509, ec_510, uc_511, wc_512, hc_513, eb_514, ub_515, wb_516, hb_517⟩ := id hR_495
    have hp_5041 := hp_504.1
    have hp_504t := teF_le (f := f9) hp_504.1
    refine lv_if_eq (tgt := 107) hx hb dX4_read_83 (by decide) (fun c_518 => ?_) (fun c_518 => absurd (by decide) c_518)
    refine lv_iconst (v := 0) hx hb dX4_read_107 (by decide) ?_
    exact W.zret (v := 0) hx hb hr rfl (fun t ht hW => ⟨⟨0, 0, rfl, rfl, ws_468, ty_469, hsm, htx, by rw [ht]; exact hP, va_K.moved hW.alike hK, hD, ⟨1, p_407, v_408, (T_244 ++ eO ta_251), Or.inr (Or.inr ⟨c_64, d_65, Or.inr ⟨rb_165, _, hr_248.st (st_end hn_253 (by rw [← brk_jO, hj_252]; rfl)), Or.inr ⟨rfl, rfl, Or.inr ⟨rw_330, 0, p_407, v_408, hn_409, Or.inr ⟨rfl, rfl, Or.inl ⟨rb_494, rfl, rfl⟩⟩⟩⟩⟩⟩), Or.inl ⟨rfl, by omega, by omega, _, _, _, _, _, (⟨kc_496, cc_497, tc_498, fc_499, kb_500, cb_501, tb_502, fb_503, hp_504, hT_505, er_506, et_507, wr_508, wt_509, ec_510, uc_511, wc_512, hc_513, eb_514, ub_515, wb_516, hb_517⟩ : RSX ρ ws_468 ty_469 f9 rd krd tp ktp cd bb tl p_407 (T_244 ++ eO ta_251) nk_66 (nI v_408) 1 (nI p_407) (nI v_408))⟩⟩⟩, hS.F ht⟩) hS.2.2 dX4_read_108
  have rb_494g := nx_gain (f := f9) hp_445.1
  obtain ⟨kc_519, cc_520, tc_521, fc_522, kb_523, cb_524, tb_525, fb_526, hp_527, hT_528, er_529, et_530, wr_531, wt_532, ec_533, uc_534, wc_535, hc_536, eb_537, ub_538, wb_539, hb_540⟩ := id hR_495
  have hp_5271 := hp_527.1
  have hp_527t := teF_le (f := f9) hp_527.1
  refine lv_if_eq (tgt := 107) hx hb dX4_read_83 (by decide) (fun c_541 => absurd c_541 (by decide)) (fun c_541 => ?_)
  have hkd9 := kdF_le (f := f9) (n := tl) (b := nxF f9 tl p_407)
  refine lv_aload_n hx hb dX4_read_86 rfl (lv_at hl 0 rfl) ?_
  refine va_get (D := D) (ci := 4) (v := .ref tp) (C := RX4) (T := TX4) (N := 8) hx hb hts hin4 hown hK hP krd er_529 rfl 0 (by decide) (hts (.fieldLink RX4 12 "HoneyHouse$RuleReader" "tape" "LHoneyHouse$Tape;") (List.mem_of_getElem? (i := 4) rfl)) (fun _ h9 => h9) rfl dX4_read_87 ?_
  refine va_get (D := D) (ci := 6) (v := .int (nI (kdF f9 tl (nxF f9 tl p_407)))) (C := RX6) (T := TX6) (N := 5) hx hb hts hin6 hown hK hP ktp et_530 rfl 1 (by decide) (hts (.fieldLink RX4 61 "HoneyHouse$Tape" "kind" "I") (List.mem_of_getElem? (i := 7) rfl)) (fun _ h9 => h9) rfl dX4_read_90 ?_
  refine lv_if_eq (tgt := 103) hx hb dX4_read_93 (by decide) (fun c_542 => ?_) (fun c_542 => ?_)
  · have d_543 := n_eq (a := kdF f9 tl (nxF f9 tl p_407)) (b := 0) (by omega) (by omega) c_542
    refine lv_iconst (v := 1) hx hb dX4_read_103 (by decide) ?_
    refine lv_goto (tgt := 108) hx hb dX4_read_104 (by decide) ?_
    exact W.zret (v := 1) hx hb hr rfl (fun t ht hW => ⟨⟨1, 1, rfl, rfl, ws_468, ty_469, hsm, htx, by rw [ht]; exact hP, va_K.moved hW.alike hK, hD, ⟨0, 0, v_408, (T_244 ++ eO ta_251), Or.inr (Or.inr ⟨c_64, d_65, Or.inr ⟨rb_165, _, hr_248.st (st_end hn_253 (by rw [← brk_jO, hj_252]; rfl)), Or.inr ⟨rfl, rfl, Or.inr ⟨rw_330, 0, p_407, v_408, hn_409, Or.inr ⟨rfl, rfl, Or.inr ⟨rb_494, Or.inl ⟨d_543, rfl⟩⟩⟩⟩⟩⟩⟩), Or.inr ⟨rfl, rfl, _, _, _, (⟨kc_519, cc_520, tc_521, fc_522, kb_523, cb_524, tb_525, fb_526, hp_527, hT_528, er_529, et_530, wr_531, wt_532, ec_533, uc_534, wc_535, hc_536, eb_537, ub_538, wb_539, hb_540⟩ : RSX ρ ws_468 ty_469 f9 rd krd tp ktp cd bb tl (nxF f9 tl p_407) (T_244 ++ eO ta_251) nk_66 (nI v_408) 0 (-1) (nI v_408))⟩⟩⟩, hS.F ht⟩) hS.2.2 dX4_read_108
  have d_544 := n_ne (a := kdF f9 tl (nxF f9 tl p_407)) (b := 0) (by omega) (by omega) c_542
  refine lv_aload_n hx hb dX4_read_96 rfl (lv_at hl 0 rfl) ?_
  have hFc := free_all hD hS hA
  refine va_calli (va_runV (As := []) (rest := []) ⟨hx, hb, hml, hown, hts⟩ (r_failHere l D ρ ws_468 ty_469 adK adV fo f9 rd krd tp ktp cd bb tl (nxF f9 tl p_407) (T_244 ++ eO ta_251) nk_66 (nI v_408) 0 (-1) (nI v_408)  H.size htl hng (⟨kc_519, cc_520, tc_521, fc_522, kb_523, cb_524, tb_525, fb_526, hp_527, hT_528, er_529, et_530, wr_531, wt_532, ec_533, uc_534, wc_535, hc_536, eb_537, ub_538, wb_539, hb_540⟩ : RSX ρ ws_468 ty_469 f9 rd krd tp ktp cd bb tl (nxF f9 tl p_407) (T_244 ++ eO ta_251) nk_66 (nI v_408) 0 (-1) (nI v_408)) ) (cwV 0 hts gX4_read_X4_failHere rfl rfl rfl (by decide +kernel) ⟨Nat.le_of_ble_eq_true rfl, Nat.le_of_ble_eq_true rfl⟩) ⟨fun a U g mk q => by obtain ⟨q0, q1, qP, qK, qD, qS⟩ := q; exact ⟨q0, q1, qP, va_K.moved (u := U) (U := U.calling g mk a) (Vm.Alike.refl U.vm) qK, qD, SZ.same rfl rfl qS⟩, va_recv hK hP (ci := 4) (q0 := krd) rfl er_529, fun U hU hW => ⟨rfl, by rw [hU], by rw [hU]; exact hP, va_K.moved hW.alike hK, hD.weaken (fun _ _ _ _ => trivial), hsz9.go hS hW hU hFc⟩⟩ rfl rfl hl.1 rfl (lv_room (Nat.le_of_ble_eq_true rfl)) dX4_read_97 ⟨Nat.le_of_ble_eq_true rfl, Nat.le_of_ble_eq_true rfl⟩) hS (fun q _ h => hFc q h) hFc (fun r_545 u t H1 locs ht hvm w_546 hB hz1 hk1 hS => ?_)
  subst w_546
  obtain ⟨ws_547, ty_548, hm_549, ht_551, hP1, hK1, hD1, hx_550⟩ := hB
  rw [ht] at hP1
  have hK := va_K.moved hvm.symm hK1
  have hD := hD1.weaken (fun _ _ _ h => hFc _ h)
  generalize H1 = H at hP1 hS ⊢
  have hP := hP1
  obtain ⟨g_553, e_552, h_554⟩ := hm_549.obj er_529
  obtain ⟨z_555, z_556, z_557, z_558, z_559, z_560, rfl⟩ := smX4 h_554
  obtain ⟨g_562, e_561, h_563⟩ := hm_549.obj et_530
  obtain ⟨z_564, z_565, z_566, z_567, rfl⟩ := smX6 h_563
  obtain ⟨f_569, e_568⟩ := hm_549.arrI ec_533
  have u_570 := ht_551 _ _ uc_534
  have e_571 := hm_549.keep (by rw [wb_539]; omega) eb_537
  have u_572 := ht_551 _ _ ub_538
  have hsm := hsm.tr (hm_549.mono (by decide))
  have htx := htx.tr ht_551
  obtain ⟨rfl, hR_573⟩ := hx_550
  obtain ⟨kc_574, cc_575, tc_576, fc_577, kb_578, cb_579, tb_580, fb_581, hp_582, hT_583, er_584, et_585, wr_586, wt_587, ec_588, uc_589, wc_590, hc_591, eb_592, ub_593, wb_594, hb_595⟩ := id hR_573
  have hp_5821 := hp_582.1
  have hp_582t := teF_le (f := f9) hp_582.1
  refine lv_if_eq (tgt := 107) hx hb dX4_read_100 (by decide) (fun c_596 => ?_) (fun c_596 => absurd (by decide) c_596)
  refine lv_iconst (v := 0) hx hb dX4_read_107 (by decide) ?_
  exact W.zret (v := 0) hx hb hr rfl (fun t ht hW => ⟨⟨0, 0, rfl, rfl, ws_547, ty_548, hsm, htx, by rw [ht]; exact hP, va_K.moved hW.alike hK, hD, ⟨1, nxF f9 tl p_407, v_408, (T_244 ++ eO ta_251), Or.inr (Or.inr ⟨c_64, d_65, Or.inr ⟨rb_165, _, hr_248.st (st_end hn_253 (by rw [← brk_jO, hj_252]; rfl)), Or.inr ⟨rfl, rfl, Or.inr ⟨rw_330, 0, p_407, v_408, hn_409, Or.inr ⟨rfl, rfl, Or.inr ⟨rb_494, Or.inr ⟨d_544, rfl, rfl⟩⟩⟩⟩⟩⟩⟩), Or.inl ⟨rfl, by omega, by omega, _, _, _, _, _, (⟨kc_574, cc_575, tc_576, fc_577, kb_578, cb_579, tb_580, fb_581, hp_582, hT_583, er_584, et_585, wr_586, wt_587, ec_588, uc_589, wc_590, hc_591, eb_592, ub_593, wb_594, hb_595⟩ : RSX ρ ws_547 ty_548 f9 rd krd tp ktp cd bb tl (nxF f9 tl p_407) (T_244 ++ eO ta_251) nk_66 (nI v_408) 1 (nI (nxF f9 tl p_407)) (nI v_408))⟩⟩⟩, hS.F ht⟩) hS.2.2 dX4_read_108
