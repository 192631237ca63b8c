theorem dX8_rule_0 : decode cX8_rule 0 = .ok (.aload_n 0, 1) := by decide +kernel
theorem dX8_rule_1 : decode cX8_rule 1 = .ok (.getfield 40, 3) := by decide +kernel
theorem dX8_rule_4 : decode cX8_rule 4 = .ok (.invokevirtual 192, 3) := by decide +kernel
theorem dX8_rule_7 : decode cX8_rule 7 = .ok (.istore_n 1, 1) := by decide +kernel
theorem dX8_rule_8 : decode cX8_rule 8 = .ok (.aload_n 0, 1) := by decide +kernel
theorem dX8_rule_9 : decode cX8_rule 9 = .ok (.getfield 40, 3) := by decide +kernel
theorem dX8_rule_12 : decode cX8_rule 12 = .ok (.getfield 68, 3) := by decide +kernel
theorem dX8_rule_15 : decode cX8_rule 15 = .ok (.iconst 0, 1) := by decide +kernel
theorem dX8_rule_16 : decode cX8_rule 16 = .ok (.putfield 72, 3) := by decide +kernel
theorem dX8_rule_19 : decode cX8_rule 19 = .ok (.iload_n 1, 1) := by decide +kernel
theorem dX8_rule_20 : decode cX8_rule 20 = .ok (.ifCond .ne 5, 3) := by decide +kernel
theorem dX8_rule_23 : decode cX8_rule 23 = .ok (.iconst (-1), 1) := by decide +kernel
theorem dX8_rule_24 : decode cX8_rule 24 = .ok (.ireturn, 1) := by decide +kernel
theorem dX8_rule_25 : decode cX8_rule 25 = .ok (.aload_n 0, 1) := by decide +kernel
theorem dX8_rule_26 : decode cX8_rule 26 = .ok (.getfield 196, 3) := by decide +kernel
theorem dX8_rule_29 : decode cX8_rule 29 = .ok (.aload_n 0, 1) := by decide +kernel
theorem dX8_rule_30 : decode cX8_rule 30 = .ok (.getfield 26, 3) := by decide +kernel
theorem dX8_rule_33 : decode cX8_rule 33 = .ok (.arraylength, 1) := by decide +kernel
theorem dX8_rule_34 : decode cX8_rule 34 = .ok (.if_icmp .lt 6, 3) := by decide +kernel
theorem dX8_rule_37 : decode cX8_rule 37 = .ok (.bipush (-2), 2) := by decide +kernel
theorem dX8_rule_39 : decode cX8_rule 39 = .ok (.ireturn, 1) := by decide +kernel
theorem dX8_rule_40 : decode cX8_rule 40 = .ok (.aload_n 0, 1) := by decide +kernel
theorem dX8_rule_41 : decode cX8_rule 41 = .ok (.getfield 26, 3) := by decide +kernel
theorem dX8_rule_44 : decode cX8_rule 44 = .ok (.aload_n 0, 1) := by decide +kernel
theorem dX8_rule_45 : decode cX8_rule 45 = .ok (.getfield 196, 3) := by decide +kernel
theorem dX8_rule_48 : decode cX8_rule 48 = .ok (.new 24, 3) := by decide +kernel
theorem dX8_rule_51 : decode cX8_rule 51 = .ok (.dup, 1) := by decide +kernel
theorem dX8_rule_52 : decode cX8_rule 52 = .ok (.aload_n 0, 1) := by decide +kernel
theorem dX8_rule_53 : decode cX8_rule 53 = .ok (.getfield 40, 3) := by decide +kernel
theorem dX8_rule_56 : decode cX8_rule 56 = .ok (.getfield 199, 3) := by decide +kernel
theorem dX8_rule_59 : decode cX8_rule 59 = .ok (.aload_n 0, 1) := by decide +kernel
theorem dX8_rule_60 : decode cX8_rule 60 = .ok (.getfield 40, 3) := by decide +kernel
theorem dX8_rule_63 : decode cX8_rule 63 = .ok (.getfield 203, 3) := by decide +kernel
theorem dX8_rule_66 : decode cX8_rule 66 = .ok (.aload_n 0, 1) := by decide +kernel
theorem dX8_rule_67 : decode cX8_rule 67 = .ok (.getfield 40, 3) := by decide +kernel
theorem dX8_rule_70 : decode cX8_rule 70 = .ok (.invokevirtual 206, 3) := by decide +kernel
theorem dX8_rule_73 : decode cX8_rule 73 = .ok (.invokespecial 210, 3) := by decide +kernel
theorem dX8_rule_76 : decode cX8_rule 76 = .ok (.aastore, 1) := by decide +kernel
theorem dX8_rule_77 : decode cX8_rule 77 = .ok (.aload_n 0, 1) := by decide +kernel
theorem dX8_rule_78 : decode cX8_rule 78 = .ok (.dup, 1) := by decide +kernel
theorem dX8_rule_79 : decode cX8_rule 79 = .ok (.getfield 196, 3) := by decide +kernel
theorem dX8_rule_82 : decode cX8_rule 82 = .ok (.iconst 1, 1) := by decide +kernel
theorem dX8_rule_83 : decode cX8_rule 83 = .ok (.iadd, 1) := by decide +kernel
theorem dX8_rule_84 : decode cX8_rule 84 = .ok (.putfield 196, 3) := by decide +kernel
theorem dX8_rule_87 : decode cX8_rule 87 = .ok (.aload_n 0, 1) := by decide +kernel
theorem dX8_rule_88 : decode cX8_rule 88 = .ok (.getfield 196, 3) := by decide +kernel
theorem dX8_rule_91 : decode cX8_rule 91 = .ok (.iconst 1, 1) := by decide +kernel
theorem dX8_rule_92 : decode cX8_rule 92 = .ok (.isub, 1) := by decide +kernel
theorem dX8_rule_93 : decode cX8_rule 93 = .ok (.ireturn, 1) := by decide +kernel
set_option maxRecDepth 20000 in
theorem ggX8_rule_X4_read : GoodIn wsX8_rule wsX4_read := goodIn_r _ [15, 16, 17, 18, 19, 20, 21, 22, 23, 24, 25, 26, 27, 28, 29, 30, 31, 32, 33, 34, 35, 36, 37, 38, 39, 40, 41, 42, 43, 44, 45, 46, 14, 47, 48, 49, 50, 51, 52, 53, 54, 55, 56, 57, 58, 59, 60, 61, 62, 63, 64, 65, 66, 67, 68, 69, 70, 71, 72, 73, 74, 75, 76, 77, 78, 79, 80, 81, 82, 83, 84, 85, 86, 87, 88, 89, 90, 91, 92, 93, 94, 95, 96, 97, 98, 99, 100, 101, 102, 103, 104, 105, 106, 107, 108, 109, 110, 111, 112, 113, 114, 115, 116, 117, 118, 119, 120, 121, 122, 123, 124, 125, 126, 127, 128, 129, 130, 131, 132, 133, 134, 135, 136, 137, 138, 139, 140, 141, 142, 143, 144, 145, 146, 147, 148, 149, 150, 151, 152, 153, 154, 155, 156, 157, 158, 159, 160, 161, 162, 163, 164, 165, 166, 167, 168, 169, 217, 218, 219, 220, 221, 222, 223, 224, 225, 226, 227, 228, 229] (by decide +kernel) (by decide +kernel)
set_option maxRecDepth 20000 in
theorem gX8_rule_X4_read : GoodIn wsX8_rule (wsV RX8 192 RX4 yX4_read wsX4_read) := goodIn_app (goodIn_of _ (by decide +kernel)) ggX8_rule_X4_read
set_option maxRecDepth 20000 in
theorem ggX8_rule_X4_codeRead : GoodIn wsX8_rule wsX4_codeRead := goodIn_r _ [173, 149, 18, 174, 175, 176, 177, 178, 179, 180, 181, 182, 183, 184, 185, 186, 187, 188, 189, 190, 191, 192, 217, 218, 219, 220, 221, 222, 223, 224] (by decide +kernel) (by decide +kernel)
set_option maxRecDepth 20000 in
theorem gX8_rule_X4_codeRead : GoodIn wsX8_rule (wsV RX8 206 RX4 yX4_codeRead wsX4_codeRead) := goodIn_app (goodIn_of _ (by decide +kernel)) ggX8_rule_X4_codeRead
set_option maxRecDepth 20000 in
theorem ggX8_rule_X3_init : GoodIn wsX8_rule wsX3_init := goodIn_r _ [195, 196, 197, 198, 199, 200, 201, 230, 231, 232, 233, 234] (by decide +kernel) (by decide +kernel)
set_option maxRecDepth 20000 in
theorem gX8_rule_X3_init : GoodIn wsX8_rule (wsX3_init) := ggX8_rule_X3_init
set_option maxHeartbeats 4000000 in
set_option maxRecDepth 100000 in
theorem h_rule (l : Launch) (D : va_G) (ws : va_W) (tys : List (ClassId × FieldType)) (adK adV : Nat → Nat) (fo : Option Nat) (h0 lc bc rc fc : Nat) (dn : Int32) (tl : Nat) (sz : Nat) (X : XI ws tys h0 lc bc rc fc dn tl) : Met l yX8_rule wsX8_rule ({ frames := 22, cells := 3, slots := 210, locals := 505 }) (va_Pc [.ref h0] (fun U => U.heap.size = sz ∧ va_P D vwCl ws U.heap ∧ va_K D vwCl tys U ∧ va_D (fun _ => True) ws ∧ SZ adK adV fo (va_A ws sz) U U.heap ∧ CZ U)) (va_Qi (fun (r : Int32) (_ : Unit) => True) (fun (_ : Unit) (t : State) => ∃ (ws' : va_W) (tys' : List (ClassId × FieldType)), va_P D vwCl ws' t.heap ∧ va_K D vwCl tys' t ∧ va_D (va_A ws sz) ws' ∧ ∃ rc9 : Nat, rc9 ≤ 16 ∧ XI ws' tys' h0 lc bc rc9 fc dn 0) (va_A ws sz)) 3 210 (va_A ws sz) := by
  refine Met.ofW (cc := cX8_rule) (maxL := 2) (ret := (some .int)) (by decide) rfl ?_
  intro p e s m args below meth c s₁ B hml hv
  obtain ⟨rfl, hsz, hP, hK, hD0, hsz9, hcz⟩ := hv
  have hx := B.exec
  have hb := B.bytes
  have hr := B.returns
  have hts := atoms_spec (ws := wsX8_rule) B.pre
  have hown : s.vm.findClass RX8 = some m.cls := findClass_of_methodNamed B.named
  have hlocks := B.notSynchronized
  subst hsz
  have hD := hD0.self (sz := s.heap.size)
  generalize hAe : va_A ws s.heap.size = A at hD hsz9 ⊢
  have hA : ∀ q : Nat, s.heap.size ≤ q → A q := fun q h => by rw [← hAe]; exact Or.inr h
  have hS : va_S A s.heap s.heap [] := va_S.rf
  have hsm : sm [4, 6] ws ws := sm.rf ws
  have htx : tyx tys tys := tyx.rf tys
  have hin3 : ∀ w ∈ u_ws RX3 TX3 5, w ∈ wsX8_rule := (fun _ h9 => List.mem_cons_of_mem _ ((List.mem_append_right _ h9)))
  have hin4 : ∀ w ∈ u_ws RX4 TX4 8, w ∈ wsX8_rule := (fun _ h9 => List.mem_cons_of_mem _ (List.mem_append_left _ (List.mem_append_left _ ((List.mem_append_right _ h9)))))
  have hin6 : ∀ w ∈ u_ws RX6 TX6 5, w ∈ wsX8_rule := (fun _ h9 => List.mem_cons_of_mem _ (List.mem_append_left _ ((List.mem_append_right _ h9))))
  have hin8 : ∀ w ∈ u_ws RX8 TX8 15, w ∈ wsX8_rule := (fun _ h9 => List.mem_cons_of_mem _ (List.mem_append_left _ (List.mem_append_left _ (List.mem_append_left _ ((List.mem_append_right _ h9))))))
  have hl := lv_entry ([.ref h0]) (n := 2) (Nat.le_of_ble_eq_true rfl)
  rw [lg_entry_eq]
  generalize (lg_sl ([.ref h0]) ++ List.replicate (2 - (lg_sl ([.ref h0])).length) Slot.unset).toArray = ls at hl ⊢
  have hl : lv_has ls 2 [(0, .ref h0)] := hl
  obtain ⟨k0, la, ta, ba, ra, sn, rd, dr, bl, vd, fb, e0, hnum, qla, qta, qba, qra, qsn, qrd, qdr, qbl, qvd, qfb⟩ := id X
  obtain ⟨kra, cra, tra, fra, era, ura, pra⟩ := id qra
  obtain ⟨krd, tp, cd, ktp, bb, r1, r2, r3, r4, r6, r7, y1, y2, y3, erd, ⟨kcd, ccd, tcd, fcd, ecd, ucd⟩, etp, ⟨kbb, cbb, tbb, fbb, ebb, ubb⟩⟩ := id qrd
  have hrc := hnum.2.2.1
  have htl9 := hnum.2.2.2.2
  refine lv_aload_n hx hb dX8_rule_0 rfl (lv_at hl 0 rfl) ?_
  refine va_get (D := D) (ci := 8) (v := .ref rd) (C := RX8) (T := TX8) (N := 15) hx hb hts hin8 hown hK hP k0 e0 rfl 5 (by decide) (hts (.fieldLink RX8 40 "HoneyHouse" "reader" "LHoneyHouse$RuleReader;") (List.mem_of_getElem? (i := 1) rfl)) (fun _ h9 => h9) rfl dX8_rule_1 ?_
  have hFc := free_all hD hS hA
  refine va_calli (va_runV (As := []) (rest := []) ⟨hx, hb, hml, hown, hts⟩ (r_read l D ws tys adK adV fo rd krd tp ktp tl r1 r2 r3 r4 r6 r7 y1 y2 y3 bb kbb cbb tbb fbb cd kcd ccd tcd fcd s.heap.size (by omega) erd etp ebb ubb ecd ucd) (cwV 0 hts gX8_rule_X4_read rfl rfl rfl (by decide +kernel) ⟨Nat.le_of_ble_eq_true rfl, Nat.le_of_ble_eq_true rfl⟩) ⟨fun a U g mk q => by obtain ⟨q0, q1, qP, qK, qD, qS⟩ := q; exact ⟨q0, q1, qP, va_K.moved (u := U) (U := U.calling g mk a) (Vm.Alike.refl U.vm) qK, qD, SZ.same rfl rfl qS⟩, va_recv hK hP (ci := 4) (q0 := krd) rfl erd, fun U hU hW => ⟨rfl, by rw [hU], by rw [hU]; exact hP, va_K.moved hW.alike hK, hD.weaken (fun _ _ _ _ => trivial), hsz9.go hS hW hU hFc⟩⟩ rfl rfl hl.1 rfl (lv_room (Nat.le_of_ble_eq_true rfl)) dX8_rule_4 ⟨Nat.le_of_ble_eq_true rfl, Nat.le_of_ble_eq_true rfl⟩) hS (fun q _ h => hFc q h) hFc (fun r_1 u t H1 locs ht hvm w_2 hB hz1 hk1 hS => ?_)
  obtain ⟨ws_3, ty_4, hm_5, ht_7, hP1, hK1, hD1, hx_6⟩ := hB
  rw [ht] at hP1
  have hK := va_K.moved hvm.symm hK1
  have hD := hD1.weaken (fun _ _ _ h => hFc _ h)
  generalize H1 = H at hP1 hS ⊢
  have hP := hP1
  have e_8 := hm_5.objK e0 (by decide)
  have e_9 := hm_5.arrQ era
  have u_10 := ht_7 _ _ ura
  obtain ⟨g_12, e_11, h_13⟩ := hm_5.obj erd
  obtain ⟨z_14, z_15, z_16, z_17, z_18, z_19, rfl⟩ := smX4 h_13
  obtain ⟨f_21, e_20⟩ := hm_5.arrI ecd
  have u_22 := ht_7 _ _ ucd
  obtain ⟨g_24, e_23, h_25⟩ := hm_5.obj etp
  obtain ⟨z_26, z_27, z_28, z_29, rfl⟩ := smX6 h_25
  obtain ⟨f_31, e_30⟩ := hm_5.arrI ebb
  have u_32 := ht_7 _ _ ubb
  have hsm := hsm.tr (hm_5.mono (by decide))
  have htx := htx.tr ht_7
  obtain ⟨ts_33, te_34, cc_35, ra_36, rb_37, rc_38, rv_39, re_40, ya_41, h1_42, h2_43, h3_44, h4_45, er_46, et_47, ⟨k_48, c9_49, t_50, f_51, e_52, u_53⟩, ⟨k_54, c9_55, t_56, f_57, e_58, u_59⟩⟩ := id hx_6
  rcases w_2 with rfl | rfl
  · refine lv_istore_n (lv' := [(1, .int 0), (0, .ref h0)]) hx hb dX8_rule_7 rfl hl (by decide) rfl (fun ls hl => ?_)
    refine lv_aload_n hx hb dX8_rule_8 rfl (lv_at hl 1 rfl) ?_
    refine va_get (D := D) (ci := 8) (v := .ref rd) (C := RX8) (T := TX8) (N := 15) hx hb hts hin8 hown hK hP k0 e_8 rfl 5 (by decide) (hts (.fieldLink RX8 40 "HoneyHouse" "reader" "LHoneyHouse$RuleReader;") (List.mem_of_getElem? (i := 1) rfl)) (fun _ h9 => h9) rfl dX8_rule_9 ?_
    refine va_get (D := D) (ci := 4) (v := .ref tp) (C := RX4) (T := TX4) (N := 8) hx hb hts hin4 hown hK hP krd er_46 rfl 0 (by decide) (hts (.fieldLink RX8 68 "HoneyHouse$RuleReader" "tape" "LHoneyHouse$Tape;") (List.mem_of_getElem? (i := 2) rfl)) (fun _ h9 => h9) rfl dX8_rule_12 ?_
    refine lv_iconst (v := 0) hx hb dX8_rule_15 (by decide) ?_
    refine va_put (D := D) (ci := 6) (v := .int 0) (ty := .int) (C := RX6) (T := TX6) (N := 5) hx hb hts hin6 tyX6 tyX6_ok nmX6 hown hK hP hD hS ktp et_47 rfl 0 (by decide) (hts (.fieldLink RX8 72 "HoneyHouse$Tape" "length" "I") (List.mem_of_getElem? (i := 3) rfl)) (fun _ h9 => h9) rfl (tyX6_ok 0 (by decide)) rfl rfl (Nat.le_of_ble_eq_true rfl) dX8_rule_16 (fun H locs hP hD hS => ?_)
    have hP : va_P D vwCl (ws_3.set ktp (tp, .inr (6, [.int 0, .int ya_41, .int (nI ts_33), .int (nI te_34), .ref bb]))) H := hP
    have hD : va_D A (ws_3.set ktp (tp, .inr (6, [.int 0, .int ya_41, .int (nI ts_33), .int (nI te_34), .ref bb]))) := hD
    have hm_61 : sm [6] ws_3 (ws_3.set ktp (tp, .inr (6, [.int 0, .int ya_41, .int (nI ts_33), .int (nI te_34), .ref bb]))) := sm.flds et_47 (smF.c (smV.i _ _) (smF.c (smV.rf _) (smF.c (smV.rf _) (smF.c (smV.rf _) (smF.c (smV.rf _) (rfl)))))) (List.mem_singleton.mpr rfl)
    have e_62 : (ws_3.set ktp (tp, .inr (6, [.int 0, .int ya_41, .int (nI ts_33), .int (nI te_34), .ref bb])))[ktp]? = some (tp, .inr (6, [.int 0, .int ya_41, .int (nI ts_33), .int (nI te_34), .ref bb])) := wset_self et_47
    generalize ws_3.set ktp (tp, .inr (6, [.int 0, .int ya_41, .int (nI ts_33), .int (nI te_34), .ref bb])) = ws_60 at hP hD hm_61 e_62
    have e_63 := hm_61.objK e_8 (by decide)
    have e_64 := hm_61.arrQ e_9
    have e_65 := hm_61.objK er_46 (by decide)
    obtain ⟨f_67, e_66⟩ := hm_61.arrI e_52
    obtain ⟨f_69, e_68⟩ := hm_61.arrI e_58
    have hsm := hsm.tr (hm_61.mono (by decide))
    refine lv_iload_n hx hb dX8_rule_19 rfl (lv_at hl 0 rfl) ?_
    refine lv_if_ne (tgt := 25) hx hb dX8_rule_20 (by decide) (fun c_70 => absurd (by decide) c_70) (fun c_70 => ?_)
    refine lv_iconst (v := (-1)) hx hb dX8_rule_23 (by decide) ?_
    refine W.widen (k := 3) (n := 210) (by omega) (by omega) ?_
    exact W.iret (v := (-1)) hx hb hr (fun t ht hW => ⟨⟨(-1), (), rfl, trivial, ws_60, ty_4, by rw [ht]; exact hP, va_K.moved hW.alike hK, hD, ⟨rc, by omega, xi_mk e_63 ⟨hnum.1, hnum.2.1, hnum.2.2.1, hnum.2.2.2.1, by omega⟩ qla qta qba qra qsn ⟨krd, tp, cd, ktp, bb, ra_36, rb_37, rc_38, rv_39, (nI cc_35), re_40, ya_41, (nI ts_33), (nI te_34), e_65, ⟨k_48, c9_49, t_50, f_67, e_66, u_53⟩, e_62, ⟨k_54, c9_55, t_56, f_69, e_68, u_59⟩⟩ qdr qbl qvd qfb hsm htx⟩⟩, hS.F ht⟩) hS.2.2 dX8_rule_24
  refine lv_istore_n (lv' := [(1, .int 1), (0, .ref h0)]) hx hb dX8_rule_7 rfl hl (by decide) rfl (fun ls hl => ?_)
  refine lv_aload_n hx hb dX8_rule_8 rfl (lv_at hl 1 rfl) ?_
  refine va_get (D := D) (ci := 8) (v := .ref rd) (C := RX8) (T := TX8) (N := 15) hx hb hts hin8 hown hK hP k0 e_8 rfl 5 (by decide) (hts (.fieldLink RX8 40 "HoneyHouse" "reader" "LHoneyHouse$RuleReader;") (List.mem_of_getElem? (i := 1) rfl)) (fun _ h9 => h9) rfl dX8_rule_9 ?_
  refine va_get (D := D) (ci := 4) (v := .ref tp) (C := RX4) (T := TX4) (N := 8) hx hb hts hin4 hown hK hP krd er_46 rfl 0 (by decide) (hts (.fieldLink RX8 68 "HoneyHouse$RuleReader" "tape" "LHoneyHouse$Tape;") (List.mem_of_getElem? (i := 2) rfl)) (fun _ h9 => h9) rfl dX8_rule_12 ?_
  refine lv_iconst (v := 0) hx hb dX8_rule_15 (by decide) ?_
  refine va_put (D := D) (ci := 6) (v := .int 0) (ty := .int) (C := RX6) (T := TX6) (N := 5) hx hb hts hin6 tyX6 tyX6_ok nmX6 hown hK hP hD hS ktp et_47 rfl 0 (by decide) (hts (.fieldLink RX8 72 "HoneyHouse$Tape" "length" "I") (List.mem_of_getElem? (i := 3) rfl)) (fun _ h9 => h9) rfl (tyX6_ok 0 (by decide)) rfl rfl (Nat.le_of_ble_eq_true rfl) dX8_rule_16 (fun H locs hP hD hS => ?_)
  have hP : va_P D vwCl (ws_3.set ktp (tp, .inr (6, [.int 0, .int ya_41, .int (nI ts_33), .int (nI te_34), .ref bb]))) H := hP
  have hD : va_D A (ws_3.set ktp (tp, .inr (6, [.int 0, .int ya_41, .int (nI ts_33), .int (nI te_34), .ref bb]))) := hD
  have hm_72 : sm [6] ws_3 (ws_3.set ktp (tp, .inr (6, [.int 0, .int ya_41, .int (nI ts_33), .int (nI te_34), .ref bb]))) := sm.flds et_47 (smF.c (smV.i _ _) (smF.c (smV.rf _) (smF.c (smV.rf _) (smF.c (smV.rf _) (smF.c (smV.rf _) (rfl)))))) (List.mem_singleton.mpr rfl)
  have e_73 : (ws_3.set ktp (tp, .inr (6, [.int 0, .int ya_41, .int (nI ts_33), .int (nI te_34), .ref bb])))[ktp]? = some (tp, .inr (6, [.int 0, .int ya_41, .int (nI ts_33), .int (nI te_34), .ref bb])) := wset_self et_47
  generalize ws_3.set ktp (tp, .inr (6, [.int 0, .int ya_41, .int (nI ts_33), .int (nI te_34), .ref bb])) = ws_71 at hP hD hm_72 e_73
  have e_74 := hm_72.objK e_8 (by decide)
  have e_75 := hm_72.arrQ e_9
  have e_76 := hm_72.objK er_46 (by decide)
  obtain ⟨f_78, e_77⟩ := hm_72.arrI e_52
  obtain ⟨f_80, e_79⟩ := hm_72.arrI e_58
  have hsm := hsm.tr (hm_72.mono (by decide))
  refine lv_iload_n hx hb dX8_rule_19 rfl (lv_at hl 0 rfl) ?_
  refine lv_if_ne (tgt := 25) hx hb dX8_rule_20 (by decide) (fun c_81 => ?_) (fun c_81 => absurd c_81 (by decide))
  refine lv_aload_n hx hb dX8_rule_25 rfl (lv_at hl 1 rfl) ?_
  refine va_get (D := D) (ci := 8) (v := .int (nI rc)) (C := RX8) (T := TX8) (N := 15) hx hb hts hin8 hown hK hP k0 e_74 rfl 12 (by decide) (hts (.fieldLink RX8 196 "HoneyHouse" "ruleCount" "I") (List.mem_of_getElem? (i := 4) rfl)) (fun _ h9 => h9) rfl dX8_rule_26 ?_
  refine lv_aload_n hx hb dX8_rule_29 rfl (lv_at hl 1 rfl) ?_
  refine va_get (D := D) (ci := 8) (v := .ref ra) (C := RX8) (T := TX8) (N := 15) hx hb hts hin8 hown hK hP k0 e_74 rfl 3 (by decide) (hts (.fieldLink RX8 26 "HoneyHouse" "rules" "[LHoneyHouse$Rule;") (List.mem_of_getElem? (i := 5) rfl)) (fun _ h9 => h9) rfl dX8_rule_30 ?_
  refine va_alen (v := 16) hx hb hK hP kra tra e_75 u_10 rfl dX8_rule_33 ?_
  refine lv_icmp_lt (tgt := 40) hx hb dX8_rule_34 (by decide) (fun c_82 => ?_) (fun c_82 => ?_)
  · have d_83 := n_lt (a := rc) (b := 16) (by omega) (by omega) c_82
    refine lv_aload_n hx hb dX8_rule_40 rfl (lv_at hl 1 rfl) ?_
    refine va_get (D := D) (ci := 8) (v := .ref ra) (C := RX8) (T := TX8) (N := 15) hx hb hts hin8 hown hK hP k0 e_74 rfl 3 (by decide) (hts (.fieldLink RX8 26 "HoneyHouse" "rules" "[LHoneyHouse$Rule;") (List.mem_of_getElem? (i := 5) rfl)) (fun _ h9 => h9) rfl dX8_rule_41 ?_
    refine lv_aload_n hx hb dX8_rule_44 rfl (lv_at hl 1 rfl) ?_
    refine va_get (D := D) (ci := 8) (v := .int (nI rc)) (C := RX8) (T := TX8) (N := 15) hx hb hts hin8 hown hK hP k0 e_74 rfl 12 (by decide) (hts (.fieldLink RX8 196 "HoneyHouse" "ruleCount" "I") (List.mem_of_getElem? (i := 4) rfl)) (fun _ h9 => h9) rfl dX8_rule_45 ?_
    refine va_new (ci := 3) (fs := [.long 0, .int 0, .null, .int 0, .int 0]) (C := RX3) (T := TX3) (N := 5) hx hb hts hin3 tyX3 tyX3_ok hown (hts (.classLink RX8 24 RX3) (List.mem_of_getElem? (i := 6) rfl)) (hts (.instantiable RX3 5) (List.mem_of_getElem? (i := 7) rfl)) (hts (.initialized RX3) (List.mem_of_getElem? (i := 8) rfl)) hK hP hD hS hA rfl (fun j hj => by rcases (show j = 0 ∨ j = 1 ∨ j = 2 ∨ j = 3 ∨ j = 4 by omega) with rfl | rfl | rfl | rfl | rfl <;> rfl) (Nat.le_of_ble_eq_true rfl) (Nat.le_of_ble_eq_true rfl) dX8_rule_48 (fun q_84 H hP hD hS => ?_)
    have le_85 := hsm.len
    have hP : va_P D vwCl (ws_71 ++ [(q_84, .inr (3, [.long 0, .int 0, .null, .int 0, .int 0]))]) H := hP
    have hD : va_D A (ws_71 ++ [(q_84, .inr (3, [.long 0, .int 0, .null, .int 0, .int 0]))]) := hD
    have hm_87 : sm [] ws_71 (ws_71 ++ [(q_84, .inr (3, [.long 0, .int 0, .null, .int 0, .int 0]))]) := sm.app _ _ _
    have e_88 : (ws_71 ++ [(q_84, .inr (3, [.long 0, .int 0, .null, .int 0, .int 0]))])[ws_71.length]? = some (q_84, .inr (3, [.long 0, .int 0, .null, .int 0, .int 0])) := ap_new _ _
    generalize ws_71 ++ [(q_84, .inr (3, [.long 0, .int 0, .null, .int 0, .int 0]))] = ws_86 at hP hD hm_87 e_88
    have e_89 := hm_87.objK e_74 (by decide)
    have e_90 := hm_87.arrQ e_75
    have e_91 := hm_87.objK e_76 (by decide)
    have e_92 := hm_87.objK e_73 (by decide)
    obtain ⟨f_94, e_93⟩ := hm_87.arrI e_77
    obtain ⟨f_96, e_95⟩ := hm_87.arrI e_79
    have hsm := hsm.tr (hm_87.mono (fun _ h9 => absurd h9 List.not_mem_nil))
    refine W.widen (k := 1) (n := 5) (by omega) (by omega) ?_
    refine lv_dup hx hb dX8_rule_51 rfl ?_
    refine lv_aload_n hx hb dX8_rule_52 rfl (lv_at hl 1 rfl) ?_
    refine va_get (D := D) (ci := 8) (v := .ref rd) (C := RX8) (T := TX8) (N := 15) hx hb hts hin8 hown hK hP k0 e_89 rfl 5 (by decide) (hts (.fieldLink RX8 40 "HoneyHouse" "reader" "LHoneyHouse$RuleReader;") (List.mem_of_getElem? (i := 1) rfl)) (fun _ h9 => h9) rfl dX8_rule_53 ?_
    refine va_get (D := D) (ci := 4) (v := .long ra_36) (C := RX4) (T := TX4) (N := 8) hx hb hts hin4 hown hK hP krd e_91 rfl 1 (by decide) (hts (.fieldLink RX8 199 "HoneyHouse$RuleReader" "nameKey" "J") (List.mem_of_getElem? (i := 9) rfl)) (fun _ h9 => h9) rfl dX8_rule_56 ?_
    refine lv_aload_n hx hb dX8_rule_59 rfl (lv_at hl 1 rfl) ?_
    refine va_get (D := D) (ci := 8) (v := .ref rd) (C := RX8) (T := TX8) (N := 15) hx hb hts hin8 hown hK hP k0 e_89 rfl 5 (by decide) (hts (.fieldLink RX8 40 "HoneyHouse" "reader" "LHoneyHouse$RuleReader;") (List.mem_of_getElem? (i := 1) rfl)) (fun _ h9 => h9) rfl dX8_rule_60 ?_
    refine va_get (D := D) (ci := 4) (v := .int rb_37) (C := RX4) (T := TX4) (N := 8) hx hb hts hin4 hown hK hP krd e_91 rfl 2 (by decide) (hts (.fieldLink RX8 203 "HoneyHouse$RuleReader" "from" "I") (List.mem_of_getElem? (i := 10) rfl)) (fun _ h9 => h9) rfl dX8_rule_63 ?_
    refine lv_aload_n hx hb dX8_rule_66 rfl (lv_at hl 1 rfl) ?_
    refine va_get (D := D) (ci := 8) (v := .ref rd) (C := RX8) (T := TX8) (N := 15) hx hb hts hin8 hown hK hP k0 e_89 rfl 5 (by decide) (hts (.fieldLink RX8 40 "HoneyHouse" "reader" "LHoneyHouse$RuleReader;") (List.mem_of_getElem? (i := 1) rfl)) (fun _ h9 => h9) rfl dX8_rule_67 ?_
    have hFc := free_all hD hS hA
    refine va_callr (va_runV (As := []) (rest := [.int rb_37, .long ra_36, .ref q_84, .ref q_84, .int (nI rc), .ref ra]) ⟨hx, hb, hml, hown, hts⟩ (k_codeRead l D ws_86 ty_4 rd krd tp cd cc_35 ra_36 rb_37 rc_38 rv_39 re_40 k_48 c9_49 t_50 f_94 H.size (by omega) e_91 e_93 u_53) (cwV 0 hts gX8_rule_X4_codeRead rfl rfl rfl (by decide +kernel) ⟨Nat.le_of_ble_eq_true rfl, Nat.le_of_ble_eq_true rfl⟩) ⟨fun a U g mk q => by obtain ⟨q0, q1, qP, qK, qD, qZ⟩ := q; exact ⟨q0, q1, qP, va_K.moved (u := U) (U := U.calling g mk a) (Vm.Alike.refl U.vm) qK, qD, va_Nw.same rfl rfl qZ⟩, va_recv hK hP (ci := 4) (q0 := krd) rfl e_91, fun U hU hW => ⟨rfl, by rw [hU], by rw [hU]; exact hP, va_K.moved hW.alike hK, hD.weaken (fun _ _ _ _ => trivial), va_Nw.warmC hW hcz⟩⟩ rfl rfl hl.1 rfl (lv_room (Nat.le_of_ble_eq_true rfl)) dX8_rule_70 ⟨Nat.le_of_ble_eq_true rfl, Nat.le_of_ble_eq_true rfl⟩) hS (fun q _ h => hFc q h) hFc (fun u q_97 t H1 locs ht hvm w_98 hB hz1 hk1 hS => ?_)
    obtain ⟨ws_99, ty_100, hm_101, ht_103, hP1, hK1, hD1, hx_102⟩ := hB
    rw [ht] at hP1
    have hK := va_K.moved hvm.symm hK1
    have hD := hD1.weaken (fun _ _ _ h => hFc _ h)
    generalize H1 = H at hP1 hS ⊢
    have hP := hP1
    have e_104 := hm_101.objK e_89 (by decide)
    have e_105 := hm_101.arrQ e_90
    have u_106 := ht_103 _ _ u_10
    have e_107 := hm_101.objK e_91 (by decide)
    have e_108 := hm_101.objK e_92 (by decide)
    obtain ⟨f_110, e_109⟩ := hm_101.arrI e_93
    have u_111 := ht_103 _ _ u_53
    obtain ⟨f_113, e_112⟩ := hm_101.arrI e_95
    have u_114 := ht_103 _ _ u_59
    have e_115 := hm_101.objK e_88 (by decide)
    have hsm := hsm.tr (hm_101.mono (by decide))
    have htx := htx.tr ht_103
    refine W.widen (k := 2) (n := 205) (by omega) (by omega) ?_
    obtain ⟨n_122, hn_123, k_116, c9_117, t_118, f_119, e_120, u_121⟩ := hx_102
    have hFc := free_all hD hS hA
    refine va_callv (va_runI (As := [.long ra_36, .int rb_37, .ref q_97]) (rest := [.ref q_84, .int (nI rc), .ref ra]) ⟨hx, hb, hml, hown, hts⟩ (c_X3_init l D ws_99 ty_100 q_84 ws_71.length ra_36 rb_37 q_97 k_116 n_122 c9_117 t_118 f_119 H.size e_115 hn_123 e_120 u_121) (cwI 3 hts gX8_rule_X3_init rfl rfl rfl (hts (.initialized RX3) (List.mem_of_getElem? (i := 8) rfl)) (hts (.methodLink RX8 210 yX3_init) (List.mem_of_getElem? (i := 193) rfl)) (hts (.instanceMethod yX3_init) (List.mem_of_getElem? (i := 194) rfl)) rfl (by decide +kernel) ⟨Nat.le_of_ble_eq_true rfl, Nat.le_of_ble_eq_true rfl⟩) ⟨fun a U g mk q => by obtain ⟨q0, q1, qP, qK, qD⟩ := q; exact ⟨q0, q1, qP, va_K.moved (u := U) (U := U.calling g mk a) (Vm.Alike.refl U.vm) qK, qD⟩, fun U hU hW => ⟨rfl, by rw [hU], by rw [hU]; exact hP, va_K.moved hW.alike hK, hD.weaken (fun _ _ _ _ => trivial)⟩⟩ rfl rfl hl.1 rfl (lv_room (Nat.le_of_ble_eq_true rfl)) dX8_rule_73 ⟨Nat.le_of_ble_eq_true rfl, Nat.le_of_ble_eq_true rfl⟩) hS (fun q _ h => hFc q h) hFc (fun u t H1 locs ht hvm w_124 hB hz1 hk1 hS => ?_)
    obtain ⟨ws_125, ty_126, hm_127, ht_129, hP1, hK1, hD1, hx_128⟩ := hB
    rw [ht] at hP1
    have hK := va_K.moved hvm.symm hK1
    have hD := hD1.weaken (fun _ _ _ h => hFc _ h)
    generalize H1 = H at hP1 hS ⊢
    have hP := hP1
    have e_130 := hm_127.objK (pl_ne e_104 e_115 (by intro h9; simp at h9)) e_104 (by decide)
    have e_131 := hm_127.arrQ (pl_ne e_105 e_115 (by intro h9; simp at h9)) e_105
    have u_132 := ht_129 _ _ u_106
    have e_133 := hm_127.objK (pl_ne e_107 e_115 (by intro h9; simp at h9)) e_107 (by decide)
    have e_134 := hm_127.objK (pl_ne e_108 e_115 (by intro h9; simp at h9)) e_108 (by decide)
    obtain ⟨f_136, e_135⟩ := hm_127.arrI (pl_ne e_109 e_115 (by intro h9; simp at h9)) e_109
    have u_137 := ht_129 _ _ u_111
    obtain ⟨f_139, e_138⟩ := hm_127.arrI (pl_ne e_112 e_115 (by intro h9; simp at h9)) e_112
    have u_140 := ht_129 _ _ u_114
    obtain ⟨f_142, e_141⟩ := hm_127.arrI (pl_ne e_120 e_115 (by intro h9; simp at h9)) e_120
    have u_143 := ht_129 _ _ u_121
    have hsm := hsm.trk (hm_127.mono (fun _ h9 => absurd h9 List.not_mem_nil)) le_85
    have htx := htx.tr ht_129
    obtain ⟨k_144, g_145, n_146, x_147, x_148, x_149, x_150, e_151, ⟨k_152, c9_153, t_154, f_155, e_156, u_157⟩, hn_158⟩ := hx_128
    refine va_astq (f := fra) (n := 16) (r := (RX3, TX3, 5)) hx hb hK hP hD hS kra tra k_144 3 e_131 u_132 e_151 rfl (vp_in_nI (n := rc) (by omega) (by omega)) dX8_rule_76 (fun H locs hP hD hS => ?_)
    have hP : va_P D vwCl (ws_125.set kra (ra, .inl (cra, 16, .inr (.inr (.inr (.inr (va_up fra (nI rc).toNatClampNeg (some q_84)))))))) H := hP
    have hD : va_D A (ws_125.set kra (ra, .inl (cra, 16, .inr (.inr (.inr (.inr (va_up fra (nI rc).toNatClampNeg (some q_84)))))))) := hD
    have e_159 := set_o (z := (ra, .inl (cra, 16, .inr (.inr (.inr (.inr (va_up fra (nI rc).toNatClampNeg (some q_84)))))))) e_130 e_131 (by intro h9; simp at h9)
    have cla_160 : aQ (ws_125.set kra (ra, .inl (cra, 16, .inr (.inr (.inr (.inr (va_up fra (nI rc).toNatClampNeg (some q_84)))))))) ty_126 RX2 (oL (ws_125.set kra (ra, .inl (cra, 16, .inr (.inr (.inr (.inr (va_up fra (nI rc).toNatClampNeg (some q_84)))))))) ty_126) la 40 := (qla.sm hsm htx (fun v hv => hv.sm hsm htx)).st e_131 (by decide) (fun v hv => hv.st e_131)
    have cta_161 : aQ (ws_125.set kra (ra, .inl (cra, 16, .inr (.inr (.inr (.inr (va_up fra (nI rc).toNatClampNeg (some q_84)))))))) ty_126 RX7 (oV (ws_125.set kra (ra, .inl (cra, 16, .inr (.inr (.inr (.inr (va_up fra (nI rc).toNatClampNeg (some q_84)))))))) ty_126) ta 10 := (qta.sm hsm htx (fun v hv => hv.sm hsm htx)).st e_131 (by decide) (fun v hv => hv.st e_131)
    have cba_162 : aQ (ws_125.set kra (ra, .inl (cra, 16, .inr (.inr (.inr (.inr (va_up fra (nI rc).toNatClampNeg (some q_84)))))))) ty_126 RX7 (oV (ws_125.set kra (ra, .inl (cra, 16, .inr (.inr (.inr (.inr (va_up fra (nI rc).toNatClampNeg (some q_84)))))))) ty_126) ba 60 := (qba.sm hsm htx (fun v hv => hv.sm hsm htx)).st e_131 (by decide) (fun v hv => hv.st e_131)
    have cra_163 : aQ (ws_125.set kra (ra, .inl (cra, 16, .inr (.inr (.inr (.inr (va_up fra (nI rc).toNatClampNeg (some q_84)))))))) ty_126 RX3 (oR (ws_125.set kra (ra, .inl (cra, 16, .inr (.inr (.inr (.inr (va_up fra (nI rc).toNatClampNeg (some q_84)))))))) ty_126) ra 16 := ⟨kra, cra, tra, _, wset_self e_131, u_132, fun j v hj => aup hj (fun hv => ((pra j v hv).sm hsm htx).st e_131) (oR.st (ws := ws_125) (tys := ty_126) (v := q_84) ⟨k_144, g_145, n_146, x_147, x_148, x_149, x_150, e_151, ⟨k_152, c9_153, t_154, f_155, e_156, u_157⟩, hn_158⟩ e_131)⟩
    have csn_164 : oS (ws_125.set kra (ra, .inl (cra, 16, .inr (.inr (.inr (.inr (va_up fra (nI rc).toNatClampNeg (some q_84)))))))) ty_126 sn := (qsn.sm hsm htx).st e_131
    have cdr_165 : oD (ws_125.set kra (ra, .inl (cra, 16, .inr (.inr (.inr (.inr (va_up fra (nI rc).toNatClampNeg (some q_84)))))))) ty_126 dr := (qdr.sm hsm htx).st e_131
    have cbl_166 : oB (ws_125.set kra (ra, .inl (cra, 16, .inr (.inr (.inr (.inr (va_up fra (nI rc).toNatClampNeg (some q_84)))))))) ty_126 bl := (qbl.sm hsm htx).st e_131
    have cvd_167 : aI (ws_125.set kra (ra, .inl (cra, 16, .inr (.inr (.inr (.inr (va_up fra (nI rc).toNatClampNeg (some q_84)))))))) ty_126 vd 16 := (qvd.sm hsm htx).st e_131
    have cfb_168 : aI (ws_125.set kra (ra, .inl (cra, 16, .inr (.inr (.inr (.inr (va_up fra (nI rc).toNatClampNeg (some q_84)))))))) ty_126 fb 60 := (qfb.sm hsm htx).st e_131
    have crd_169 : oW (ws_125.set kra (ra, .inl (cra, 16, .inr (.inr (.inr (.inr (va_up fra (nI rc).toNatClampNeg (some q_84)))))))) ty_126 rd 0 := oW.st (ws := ws_125) (tys := ty_126) (v := rd) (tl := 0) (⟨krd, tp, cd, ktp, bb, ra_36, rb_37, rc_38, rv_39, (nI cc_35), re_40, ya_41, (nI ts_33), (nI te_34), e_133, ⟨k_48, c9_49, t_50, f_136, e_135, u_137⟩, e_134, ⟨k_54, c9_55, t_56, f_139, e_138, u_140⟩⟩) e_131
    generalize ws_125.set kra (ra, .inl (cra, 16, .inr (.inr (.inr (.inr (va_up fra (nI rc).toNatClampNeg (some q_84))))))) = ws_170 at hP hD e_159 cla_160 cta_161 cba_162 cra_163 csn_164 cdr_165 cbl_166 cvd_167 cfb_168 crd_169
    have hs2 : sm [8] ws_170 ws_170 := sm.rf _
    refine lv_aload_n hx hb dX8_rule_77 rfl (lv_at hl 1 rfl) ?_
    refine lv_dup hx hb dX8_rule_78 rfl ?_
    refine va_get (D := D) (ci := 8) (v := .int (nI rc)) (C := RX8) (T := TX8) (N := 15) hx hb hts hin8 hown hK hP k0 e_159 rfl 12 (by decide) (hts (.fieldLink RX8 196 "HoneyHouse" "ruleCount" "I") (List.mem_of_getElem? (i := 4) rfl)) (fun _ h9 => h9) rfl dX8_rule_79 ?_
    refine lv_iconst (v := 1) hx hb dX8_rule_82 (by decide) ?_
    refine lv_iadd hx hb dX8_rule_83 ?_
    refine tp_i (y := nI (rc + 1)) (nI_add rc 1) ?_
    refine va_put (D := D) (ci := 8) (v := .int (nI (rc + 1))) (ty := .int) (C := RX8) (T := TX8) (N := 15) hx hb hts hin8 tyX8 tyX8_ok nmX8 hown hK hP hD hS k0 e_159 rfl 12 (by decide) (hts (.fieldLink RX8 196 "HoneyHouse" "ruleCount" "I") (List.mem_of_getElem? (i := 4) rfl)) (fun _ h9 => h9) rfl (tyX8_ok 12 (by decide)) rfl rfl (Nat.le_of_ble_eq_true rfl) dX8_rule_84 (fun H locs hP hD hS => ?_)
    have hP : va_P D vwCl (ws_170.set k0 (h0, .inr (8, [.ref la, .ref ta, .ref ba, .ref ra, .ref sn, .ref rd, .ref dr, .ref bl, .ref vd, .ref fb, .int (nI lc), .int (nI bc), .int (nI (rc + 1)), .int (nI fc), .int dn]))) H := hP
    have hD : va_D A (ws_170.set k0 (h0, .inr (8, [.ref la, .ref ta, .ref ba, .ref ra, .ref sn, .ref rd, .ref dr, .ref bl, .ref vd, .ref fb, .int (nI lc), .int (nI bc), .int (nI (rc + 1)), .int (nI fc), .int dn]))) := hD
    have hm_172 : sm [8] ws_170 (ws_170.set k0 (h0, .inr (8, [.ref la, .ref ta, .ref ba, .ref ra, .ref sn, .ref rd, .ref dr, .ref bl, .ref vd, .ref fb, .int (nI lc), .int (nI bc), .int (nI (rc + 1)), .int (nI fc), .int dn]))) := sm.flds e_159 (smF.c (smV.rf _) (smF.c (smV.rf _) (smF.c (smV.rf _) (smF.c (smV.rf _) (smF.c (smV.rf _) (smF.c (smV.rf _) (smF.c (smV.rf _) (smF.c (smV.rf _) (smF.c (smV.rf _) (smF.c (smV.rf _) (smF.c (smV.rf _) (smF.c (smV.rf _) (smF.c (smV.i _ _) (smF.c (smV.rf _) (smF.c (smV.rf _) (rfl)))))))))))))))) (List.mem_singleton.mpr rfl)
    have e_173 : (ws_170.set k0 (h0, .inr (8, [.ref la, .ref ta, .ref ba, .ref ra, .ref sn, .ref rd, .ref dr, .ref bl, .ref vd, .ref fb, .int (nI lc), .int (nI bc), .int (nI (rc + 1)), .int (nI fc), .int dn])))[k0]? = some (h0, .inr (8, [.ref la, .ref ta, .ref ba, .ref ra, .ref sn, .ref rd, .ref dr, .ref bl, .ref vd, .ref fb, .int (nI lc), .int (nI bc), .int (nI (rc + 1)), .int (nI fc), .int dn])) := wset_self e_159
    generalize ws_170.set k0 (h0, .inr (8, [.ref la, .ref ta, .ref ba, .ref ra, .ref sn, .ref rd, .ref dr, .ref bl, .ref vd, .ref fb, .int (nI lc), .int (nI bc), .int (nI (rc + 1)), .int (nI fc), .int dn])) = ws_171 at hP hD hm_172 e_173
    have hs2 := hs2.tr (hm_172.mono (by decide))
    refine lv_aload_n hx hb dX8_rule_87 rfl (lv_at hl 1 rfl) ?_
    refine va_get (D := D) (ci := 8) (v := .int (nI (rc + 1))) (C := RX8) (T := TX8) (N := 15) hx hb hts hin8 hown hK hP k0 e_173 rfl 12 (by decide) (hts (.fieldLink RX8 196 "HoneyHouse" "ruleCount" "I") (List.mem_of_getElem? (i := 4) rfl)) (fun _ h9 => h9) rfl dX8_rule_88 ?_
    refine lv_iconst (v := 1) hx hb dX8_rule_91 (by decide) ?_
    refine lv_isub hx hb dX8_rule_92 ?_
    refine tp_i (y := nI ((rc + 1) - 1)) (pk_sub (a := rc + 1) (b := 1) (by omega)) ?_
    refine W.widen (k := 3) (n := 210) (by omega) (by omega) ?_
    exact W.iret (v := nI ((rc + 1) - 1)) hx hb hr (fun t ht hW => ⟨⟨nI ((rc + 1) - 1), (), rfl, trivial, ws_171, ty_126, by rw [ht]; exact hP, va_K.moved hW.alike hK, hD, ⟨rc + 1, by omega, xi_mk e_173 ⟨hnum.1, hnum.2.1, by omega, hnum.2.2.2.1, by omega⟩ cla_160 cta_161 cba_162 cra_163 csn_164 (crd_169.sm hs2 (tyx.rf _) (by decide)) cdr_165 cbl_166 cvd_167 cfb_168 hs2 (tyx.rf _)⟩⟩, hS.F ht⟩) hS.2.2 dX8_rule_93
  have d_174 := n_nlt (a := rc) (b := 16) (by omega) (by omega) c_82
  refine lv_bipush (v := (-2)) hx hb dX8_rule_37 (by decide) ?_
  refine W.widen (k := 3) (n := 210) (by omega) (by omega) ?_
  exact W.iret (v := (-2)) hx hb hr (fun t ht hW => ⟨⟨(-2), (), rfl, trivial, ws_71, ty_4, by rw [ht]; exact hP, va_K.moved hW.alike hK, hD, ⟨rc, by omega, xi_mk e_74 ⟨hnum.1, hnum.2.1, hnum.2.2.1, hnum.2.2.2.1, by omega⟩ qla qta qba qra qsn ⟨krd, tp, cd, ktp, bb, ra_36, rb_37, rc_38, rv_39, (nI cc_35), re_40, ya_41, (nI ts_33), (nI te_34), e_76, ⟨k_48, c9_49, t_50, f_78, e_77, u_53⟩, e_73, ⟨k_54, c9_55, t_56, f_80, e_79, u_59⟩⟩ qdr qbl qvd qfb hsm htx⟩⟩, hS.F ht⟩) hS.2.2 dX8_rule_39
