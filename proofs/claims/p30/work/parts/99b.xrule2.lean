theorem dX8_rule_0 : decode cX8_rule 0 = .ok (.aload_n 0, 1) := by decide +kernel
theorem dX8_rule_1 : decode cX8_rule 1 = .ok (.getfield 40, 3) := by decide +kernel
theorem dX8_rule_4 : decode cX8_rule 4 = .ok (.invokevirtual 192, 3) := by decide +kernel
theorem dX8_rule_7 : decode cX8_rule 7 = .ok (.istore_n 1, 1) := by decide +kernel
theorem dX8_rule_8 : decode cX8_rule 8 = .ok (.aload_n 0, 1) := by decide +kernel
theorem dX8_rule_9 : decode cX8_rule 9 = .ok (.getfield 40, 3) := by decide +kernel
theorem dX8_rule_12 : decode cX8_rule 12 = .ok (.getfield 68, 3) := by decide +kernel
theorem dX8_rule_15 : decode cX8_rule 15 = .ok (.iconst 0, 1) := by decide +kernel
theorem dX8_rule_16 : decode cX8_rule 16 = .ok (.putfield 72, 3) := by decide +kernel
theorem dX8_rule_19 : decode cX8_rule 19 = .ok (.iload_n 1, 1) := by decide +kernel
theorem dX8_rule_20 : decode cX8_rule 20 = .ok (.ifCond .ne 5, 3) := by decide +kernel
theorem dX8_rule_23 : decode cX8_rule 23 = .ok (.iconst (-1), 1) := by decide +kernel
theorem dX8_rule_24 : decode cX8_rule 24 = .ok (.ireturn, 1) := by decide +kernel
theorem dX8_rule_25 : decode cX8_rule 25 = .ok (.aload_n 0, 1) := by decide +kernel
theorem dX8_rule_26 : decode cX8_rule 26 = .ok (.getfield 196, 3) := by decide +kernel
theorem dX8_rule_29 : decode cX8_rule 29 = .ok (.aload_n 0, 1) := by decide +kernel
theorem dX8_rule_30 : decode cX8_rule 30 = .ok (.getfield 26, 3) := by decide +kernel
theorem dX8_rule_33 : decode cX8_rule 33 = .ok (.arraylength, 1) := by decide +kernel
theorem dX8_rule_34 : decode cX8_rule 34 = .ok (.if_icmp .lt 6, 3) := by decide +kernel
theorem dX8_rule_37 : decode cX8_rule 37 = .ok (.bipush (-2), 2) := by decide +kernel
theorem dX8_rule_39 : decode cX8_rule 39 = .ok (.ireturn, 1) := by decide +kernel
theorem dX8_rule_40 : decode cX8_rule 40 = .ok (.aload_n 0, 1) := by decide +kernel
theorem dX8_rule_41 : decode cX8_rule 41 = .ok (.getfield 26, 3) := by decide +kernel
theorem dX8_rule_44 : decode cX8_rule 44 = .ok (.aload_n 0, 1) := by decide +kernel
theorem dX8_rule_45 : decode cX8_rule 45 = .ok (.getfield 196, 3) := by decide +kernel
theorem dX8_rule_48 : decode cX8_rule 48 = .ok (.new 24, 3) := by decide +kernel
theorem dX8_rule_51 : decode cX8_rule 51 = .ok (.dup, 1) := by decide +kernel
theorem dX8_rule_52 : decode cX8_rule 52 = .ok (.aload_n 0, 1) := by decide +kernel
theorem dX8_rule_53 : decode cX8_rule 53 = .ok (.getfield 40, 3) := by decide +kernel
theorem dX8_rule_56 : decode cX8_rule 56 = .ok (.getfield 199, 3) := by decide +kernel
theorem dX8_rule_59 : decode cX8_rule 59 = .ok (.aload_n 0, 1) := by decide +kernel
theorem dX8_rule_60 : decode cX8_rule 60 = .ok (.getfield 40, 3) := by decide +kernel
theorem dX8_rule_63 : decode cX8_rule 63 = .ok (.getfield 203, 3) := by decide +kernel
theorem dX8_rule_66 : decode cX8_rule 66 = .ok (.aload_n 0, 1) := by decide +kernel
theorem dX8_rule_67 : decode cX8_rule 67 = .ok (.getfield 40, 3) := by decide +kernel
theorem dX8_rule_70 : decode cX8_rule 70 = .ok (.invokevirtual 206, 3) := by decide +kernel
theorem dX8_rule_73 : decode cX8_rule 73 = .ok (.invokespecial 210, 3) := by decide +kernel
theorem dX8_rule_76 : decode cX8_rule 76 = .ok (.aastore, 1) := by decide +kernel
theorem dX8_rule_77 : decode cX8_rule 77 = .ok (.aload_n 0, 1) := by decide +kernel
theorem dX8_rule_78 : decode cX8_rule 78 = .ok (.dup, 1) := by decide +kernel
theorem dX8_rule_79 : decode cX8_rule 79 = .ok (.getfield 196, 3) := by decide +kernel
theorem dX8_rule_82 : decode cX8_rule 82 = .ok (.iconst 1, 1) := by decide +kernel
theorem dX8_rule_83 : decode cX8_rule 83 = .ok (.iadd, 1) := by decide +kernel
theorem dX8_rule_84 : decode cX8_rule 84 = .ok (.putfield 196, 3) := by decide +kernel
theorem dX8_rule_87 : decode cX8_rule 87 = .ok (.aload_n 0, 1) := by decide +kernel
theorem dX8_rule_88 : decode cX8_rule 88 = .ok (.getfield 196, 3) := by decide +kernel
theorem dX8_rule_91 : decode cX8_rule 91 = .ok (.iconst 1, 1) := by decide +kernel
theorem dX8_rule_92 : decode cX8_rule 92 = .ok (.isub, 1) := by decide +kernel
theorem dX8_rule_93 : decode cX8_rule 93 = .ok (.ireturn, 1) := by decide +kernel
set_option maxRecDepth 20000 in
theorem ggX8_rule_X4_read : GoodIn wsX8_rule wsX4_read := goodIn_r _ [15, 16, 17, 18, 19, 20, 21, 22, 23, 24, 25, 26, 27, 28, 29, 30, 31, 32, 33, 34, 35, 36, 37, 38, 39, 40, 41, 42, 43, 44, 45, 46, 14, 47, 48, 49, 50, 51, 52, 53, 54, 55, 56, 57, 58, 59, 60, 61, 62, 63, 64, 65, 66, 67, 68, 69, 70, 71, 72, 73, 74, 75, 76, 77, 78, 79, 80, 81, 82, 83, 84, 85, 86, 87, 88, 89, 90, 91, 92, 93, 94, 95, 96, 97, 98, 99, 100, 101, 102, 103, 104, 105, 106, 107, 108, 109, 110, 111, 112, 113, 114, 115, 116, 117, 118, 119, 120, 121, 122, 123, 124, 125, 126, 127, 128, 129, 130, 131, 132, 133, 134, 135, 136, 137, 138, 139, 140, 141, 142, 143, 144, 145, 146, 147, 148, 149, 150, 151, 152, 153, 154, 155, 156, 157, 158, 159, 160, 161, 162, 163, 164, 165, 166, 167, 168, 169, 217, 218, 219, 220, 221, 222, 223, 224, 225, 226, 227, 228, 229] rfl (by decide +kernel)
set_option maxRecDepth 20000 in
theorem gX8_rule_X4_read : GoodIn wsX8_rule (wsV RX8 192 RX4 yX4_read wsX4_read) := goodIn_app (goodIn_of _ (by decide +kernel)) ggX8_rule_X4_read
set_option maxRecDepth 20000 in
theorem ggX8_rule_X4_codeRead : GoodIn wsX8_rule wsX4_codeRead := goodIn_r _ [173, 149, 18, 174, 175, 176, 177, 178, 179, 180, 181, 182, 183, 184, 185, 186, 187, 188, 189, 190, 191, 192, 217, 218, 219, 220, 221, 222, 223, 224] rfl (by decide +kernel)
set_option maxRecDepth 20000 in
theorem gX8_rule_X4_codeRead : GoodIn wsX8_rule (wsV RX8 206 RX4 yX4_codeRead wsX4_codeRead) := goodIn_app (goodIn_of _ (by decide +kernel)) ggX8_rule_X4_codeRead
set_option maxRecDepth 20000 in
theorem ggX8_rule_X3_init : GoodIn wsX8_rule wsX3_init := goodIn_r _ [195, 196, 197, 198, 199, 200, 201, 230, 231, 232, 233, 234] rfl (by decide +kernel)
set_option maxRecDepth 20000 in
theorem gX8_rule_X3_init : GoodIn wsX8_rule (wsX3_init) := ggX8_rule_X3_init
set_option maxHeartbeats 4000000 in
set_option maxRecDepth 100000 in
theorem h_rule (l : Launch) (D : va_G) (ρ : Nat → Nat) (ws : va_W) (tys : List (ClassId × FieldType)) (adK adV : Nat → Nat) (fo : Option Nat) (fv : Nat → Nat → Int32) (h0 lc bc rc fc : Nat) (dn : Int32) (tl : Nat) (sz : Nat) (X : XI ρ fv ws tys h0 lc bc rc fc dn tl) : Met l yX8_rule wsX8_rule ({ frames := 22, cells := 3, slots := 210, locals := 505 }) (va_Pc [.ref h0] (fun U => U.heap.size = sz ∧ va_P D vwCl ws U.heap ∧ va_K D vwCl tys U ∧ va_D (fun _ => True) ws ∧ SZ adK adV fo (va_A ws sz) U U.heap ∧ CZ U)) (va_Qi (fun (r : Int32) (_ : Unit) => True) (fun (_ : Unit) (t : State) => ∃ (ws' : va_W) (tys' : List (ClassId × FieldType)), va_P D vwCl ws' t.heap ∧ va_K D vwCl tys' t ∧ va_D (va_A ws sz) ws' ∧ (∃ rc9 : Nat, rc9 ≤ 16 ∧ XI ρ fv ws' tys' h0 lc bc rc9 fc dn 0)) (va_A ws sz)) 3 210 (va_A ws sz) := by
  refine Met.ofW (cc := cX8_rule) (maxL := 2) (ret := (some .int)) (by decide) rfl ?_
  intro p e s m args below meth c s₁ B hml hv
  obtain ⟨rfl, hsz, hP, hK, hD0, hsz9, hcz⟩ := hv
  have hx := B.exec
  have hb := B.bytes
  have hr := B.returns
  have hts := atoms_spec (ws := wsX8_rule) B.pre
  have hown : s.vm.findClass RX8 = some m.cls := findClass_of_methodNamed B.named
  have hlocks := B.notSynchronized
  subst hsz
  have hD := hD0.self (sz := s.heap.size)
  generalize hAe : va_A ws s.heap.size = A at hD hsz9 ⊢
  have hA : ∀ q : Nat, s.heap.size ≤ q → A q := fun q h => by rw [← hAe]; exact Or.inr h
  have hS : va_S A s.heap s.heap [] := va_S.rf
  have hsm : sm ρ [4, 6] ws ws := sm.rf ws
  have htx : tyx tys tys := tyx.rf tys
  have hin3 : ∀ w ∈ u_ws RX3 TX3 5, w ∈ wsX8_rule := (fun _ h9 => List.mem_cons_of_mem _ ((List.mem_append_right _ h9)))
  have hin4 : ∀ w ∈ u_ws RX4 TX4 8, w ∈ wsX8_rule := (fun _ h9 => List.mem_cons_of_mem _ (List.mem_append_left _ (List.mem_append_left _ ((List.mem_append_right _ h9)))))
  have hin6 : ∀ w ∈ u_ws RX6 TX6 5, w ∈ wsX8_rule := (fun _ h9 => List.mem_cons_of_mem _ (List.mem_append_left _ ((List.mem_append_right _ h9))))
  have hin8 : ∀ w ∈ u_ws RX8 TX8 15, w ∈ wsX8_rule := (fun _ h9 => List.mem_cons_of_mem _ (List.mem_append_left _ (List.mem_append_left _ (List.mem_append_left _ ((List.mem_append_right _ h9))))))
  have hl := lv_entry ([.ref h0]) (n := 2) (Nat.le_of_ble_eq_true rfl)
  rw [lg_entry_eq]
  generalize (lg_sl ([.ref h0]) ++ List.replicate (2 - (lg_sl ([.ref h0])).length) Slot.unset).toArray = ls at hl ⊢
  have hl : lv_has ls 2 [(0, .ref h0)] := hl
  obtain ⟨k0, la, ta, ba, ra, sn, rd, dr, bl, vd, fb, e0, w0, hle0, hnum, qla, qta, qba, qra, qsn, qrd, qdr, qbl, qvd, qfb⟩ := id X
  obtain ⟨kra, cra, tra, fra, era, ura, pra⟩ := id qra
  obtain ⟨krd, tp, cd, ktp, bb, r1, r2, r3, r4, r6, r7, y1, y2, y3, erd, wrd, ⟨kcd, ccd, tcd, fcd, ecd, ucd, wcd⟩, etp, wtp, ⟨kbb, cbb, tbb, fbb, ebb, ubb, wbb⟩⟩ := id qrd
  have hrc := hnum.2.2.1
  have htl9 := hnum.2.2.2.2
  refine lv_aload_n hx hb dX8_rule_0 rfl (lv_at hl 0 rfl) ?_
  refine va_get (D := D) (ci := 8) (v := .ref rd) (C := RX8) (T := TX8) (N := 15) hx hb hts hin8 hown hK hP k0 e0 rfl 5 (by decide) (hts (.fieldLink RX8 40 "HoneyHouse" "reader" "LHoneyHouse$RuleReader;") (List.mem_of_getElem? (i := 1) rfl)) (fun _ h9 => h9) rfl dX8_rule_1 ?_
  have hFc := free_all hD hS hA
  refine va_calli (va_runV (As := []) (rest := []) ⟨hx, hb, hml, hown, hts⟩ (r_read l D ρ ws tys adK adV fo rd krd tp ktp tl r1 r2 r3 r4 r6 r7 y1 y2 y3 bb kbb cbb tbb fbb cd kcd ccd tcd fcd s.heap.size (by omega) erd etp ebb ubb ecd ucd wrd wtp wbb wcd) (cwV 0 hts gX8_rule_X4_read rfl rfl rfl (by decide +kernel) ⟨Nat.le_of_ble_eq_true rfl, Nat.le_of_ble_eq_true rfl⟩) ⟨fun a U g mk q => by obtain ⟨q0, q1, qP, qK, qD, qS⟩ := q; exact ⟨q0, q1, qP, va_K.moved (u := U) (U := U.calling g mk a) (Vm.Alike.refl U.vm) qK, qD, SZ.same rfl rfl qS⟩, va_recv hK hP (ci := 4) (q0 := krd) rfl erd, fun U hU hW => ⟨rfl, by rw [hU], by rw [hU]; exact hP, va_K.moved hW.alike hK, hD.weaken (fun _ _ _ _ => trivial), hsz9.go hS hW hU hFc⟩⟩ rfl rfl hl.1 rfl (lv_room (Nat.le_of_ble_eq_true rfl)) dX8_rule_4 ⟨Nat.le_of_ble_eq_true rfl, Nat.le_of_ble_eq_true rfl⟩) hS (fun q _ h => hFc q h) hFc (fun r_1 u t H1 locs ht hvm w_2 hB hz1 hk1 hS => ?_)
  obtain ⟨ws_3, ty_4, hm_5, ht_7, hP1, hK1, hD1, hx_6⟩ := hB
  rw [ht] at hP1
  have hK := va_K.moved hvm.symm hK1
  have hD := hD1.weaken (fun _ _ _ h => hFc _ h)
  generalize H1 = H at hP1 hS ⊢
  have hP := hP1
  have e_8 := hm_5.objK e0 (by decide)
  have e_9 := hm_5.arrQ era
  have u_10 := ht_7 _ _ ura
  obtain ⟨g_12, e_11, h_13⟩ := hm_5.obj erd
  obtain ⟨z_14, z_15, z_16, z_17, z_18, z_19, rfl⟩ := smX4 h_13
  obtain ⟨f_21, e_20⟩ := hm_5.arrI ecd
  have u_22 := ht_7 _ _ ucd
  obtain ⟨g_24, e_23, h_25⟩ := hm_5.obj etp
  obtain ⟨z_26, z_27, z_28, z_29, rfl⟩ := smX6 h_25
  obtain ⟨f_31, e_30⟩ := hm_5.arrI ebb
  have u_32 := ht_7 _ _ ubb
  have hsm := hsm.tr (hm_5.mono (by decide))
  have htx := htx.tr ht_7
  obtain ⟨ts_33, te_34, cc_35, ra_36, rb_37, rc_38, rv_39, re_40, ya_41, h1_42, h2_43, h3_44, h4_45, er_46, et_47, wr_48, wt_49, ⟨k_50, c9_51, t_52, f_53, e_54, u_55, w_56⟩, ⟨k_57, c9_58, t_59, f_60, e_61, u_62, w_63⟩⟩ := id hx_6
  rcases w_2 with rfl | rfl
  · refine lv_istore_n (lv' := [(1, .int 0), (0, .ref h0)]) hx hb dX8_rule_7 rfl hl (by decide) rfl (fun ls hl => ?_)
    refine lv_aload_n hx hb dX8_rule_8 rfl (lv_at hl 1 rfl) ?_
    refine va_get (D := D) (ci := 8) (v := .ref rd) (C := RX8) (T := TX8) (N := 15) hx hb hts hin8 hown hK hP k0 e_8 rfl 5 (by decide) (hts (.fieldLink RX8 40 "HoneyHouse" "reader" "LHoneyHouse$RuleReader;") (List.mem_of_getElem? (i := 1) rfl)) (fun _ h9 => h9) rfl dX8_rule_9 ?_
    refine va_get (D := D) (ci := 4) (v := .ref tp) (C := RX4) (T := TX4) (N := 8) hx hb hts hin4 hown hK hP krd er_46 rfl 0 (by decide) (hts (.fieldLink RX8 68 "HoneyHouse$RuleReader" "tape" "LHoneyHouse$Tape;") (List.mem_of_getElem? (i := 2) rfl)) (fun _ h9 => h9) rfl dX8_rule_12 ?_
    refine lv_iconst (v := 0) hx hb dX8_rule_15 (by decide) ?_
    refine va_put (D := D) (ci := 6) (v := .int 0) (ty := .int) (C := RX6) (T := TX6) (N := 5) hx hb hts hin6 tyX6 tyX6_ok nmX6 hown hK hP hD hS ktp et_47 rfl 0 (by decide) (hts (.fieldLink RX8 72 "HoneyHouse$Tape" "length" "I") (List.mem_of_getElem? (i := 3) rfl)) (fun _ h9 => h9) rfl (tyX6_ok 0 (by decide)) rfl rfl (Nat.le_of_ble_eq_true rfl) dX8_rule_16 (fun H locs hP hD hS => ?_)
    have hP : va_P D vwCl (ws_3.set ktp (tp, .inr (6, [.int 0, .int ya_41, .int (nI ts_33), .int (nI te_34), .ref bb]))) H := hP
    have hD : va_D A (ws_3.set ktp (tp, .inr (6, [.int 0, .int ya_41, .int (nI ts_33), .int (nI te_34), .ref bb]))) := hD
    have hm_65 : sm ρ [6] ws_3 (ws_3.set ktp (tp, .inr (6, [.int 0, .int ya_41, .int (nI ts_33), .int (nI te_34), .ref bb]))) := sm.flds et_47 (smF.c (smV.i _ _) (smF.c (smV.rf _) (smF.c (smV.rf _) (smF.c (smV.rf _) (smF.c (smV.rf _) (rfl)))))) (List.mem_singleton.mpr rfl) wt_49
    have e_66 : (ws_3.set ktp (tp, .inr (6, [.int 0, .int ya_41, .int (nI ts_33), .int (nI te_34), .ref bb])))[ktp]? = some (tp, .inr (6, [.int 0, .int ya_41, .int (nI ts_33), .int (nI te_34), .ref bb])) := wset_self et_47
    generalize ws_3.set ktp (tp, .inr (6, [.int 0, .int ya_41, .int (nI ts_33), .int (nI te_34), .ref bb])) = ws_64 at hP hD hm_65 e_66
    have e_67 := hm_65.objK e_8 (by decide)
    have e_68 := hm_65.arrQ e_9
    have e_69 := hm_65.objK er_46 (by decide)
    obtain ⟨f_71, e_70⟩ := hm_65.arrI e_54
    obtain ⟨f_73, e_72⟩ := hm_65.arrI e_61
    have hsm := hsm.tr (hm_65.mono (by decide))
    refine lv_iload_n hx hb dX8_rule_19 rfl (lv_at hl 0 rfl) ?_
    refine lv_if_ne (tgt := 25) hx hb dX8_rule_20 (by decide) (fun c_74 => absurd (by decide) c_74) (fun c_74 => ?_)
    refine lv_iconst (v := (-1)) hx hb dX8_rule_23 (by decide) ?_
    refine W.widen (k := 3) (n := 210) (by omega) (by omega) ?_
    exact W.iret (v := (-1)) hx hb hr (fun t ht hW => ⟨⟨(-1), (), rfl, trivial, ws_64, ty_4, by rw [ht]; exact hP, va_K.moved hW.alike hK, hD, ⟨rc, by omega, xi_mk e_67 w0 hle0 ⟨hnum.1, hnum.2.1, hnum.2.2.1, hnum.2.2.2.1, by omega⟩ qla qta qba qra qsn ⟨krd, tp, cd, ktp, bb, ra_36, rb_37, rc_38, rv_39, (nI cc_35), re_40, ya_41, (nI ts_33), (nI te_34), e_69, wr_48, ⟨k_50, c9_51, t_52, f_71, e_70, u_55, w_56⟩, e_66, wt_49, ⟨k_57, c9_58, t_59, f_73, e_72, u_62, w_63⟩⟩ qdr qbl qvd qfb hsm htx⟩⟩, hS.F ht⟩) hS.2.2 dX8_rule_24
  refine lv_istore_n (lv' := [(1, .int 1), (0, .ref h0)]) hx hb dX8_rule_7 rfl hl (by decide) rfl (fun ls hl => ?_)
  refine lv_aload_n hx hb dX8_rule_8 rfl (lv_at hl 1 rfl) ?_
  refine va_get (D := D) (ci := 8) (v := .ref rd) (C := RX8) (T := TX8) (N := 15) hx hb hts hin8 hown hK hP k0 e_8 rfl 5 (by decide) (hts (.fieldLink RX8 40 "HoneyHouse" "reader" "LHoneyHouse$RuleReader;") (List.mem_of_getElem? (i := 1) rfl)) (fun _ h9 => h9) rfl dX8_rule_9 ?_
  refine va_get (D := D) (ci := 4) (v := .ref tp) (C := RX4) (T := TX4) (N := 8) hx hb hts hin4 hown hK hP krd er_46 rfl 0 (by decide) (hts (.fieldLink RX8 68 "HoneyHouse$RuleReader" "tape" "LHoneyHouse$Tape;") (List.mem_of_getElem? (i := 2) rfl)) (fun _ h9 => h9) rfl dX8_rule_12 ?_
  refine lv_iconst (v := 0) hx hb dX8_rule_15 (by decide) ?_
  refine va_put (D := D) (ci := 6) (v := .int 0) (ty := .int) (C := RX6) (T := TX6) (N := 5) hx hb hts hin6 tyX6 tyX6_ok nmX6 hown hK hP hD hS ktp et_47 rfl 0 (by decide) (hts (.fieldLink RX8 72 "HoneyHouse$Tape" "length" "I") (List.mem_of_getElem? (i := 3) rfl)) (fun _ h9 => h9) rfl (tyX6_ok 0 (by decide)) rfl rfl (Nat.le_of_ble_eq_true rfl) dX8_rule_16 (fun H locs hP hD hS => ?_)
  have hP : va_P D vwCl (ws_3.set ktp (tp, .inr (6, [.int 0, .int ya_41, .int (nI ts_33), .int (nI te_34), .ref bb]))) H := hP
  have hD : va_D A (ws_3.set ktp (tp, .inr (6, [.int 0, .int ya_41, .int (nI ts_33), .int (nI te_34), .ref bb]))) := hD
  have hm_76 : sm ρ [6] ws_3 (ws_3.set ktp (tp, .inr (6, [.int 0, .int ya_41, .int (nI ts_33), .int (nI te_34), .ref bb]))) := sm.flds et_47 (smF.c (smV.i _ _) (smF.c (smV.rf _) (smF.c (smV.rf _) (smF.c (smV.rf _) (smF.c (smV.rf _) (rfl)))))) (List.mem_singleton.mpr rfl) wt_49
  have e_77 : (ws_3.set ktp (tp, .inr (6, [.int 0, .int ya_41, .int (nI ts_33), .int (nI te_34), .ref bb])))[ktp]? = some (tp, .inr (6, [.int 0, .int ya_41, .int (nI ts_33), .int (nI te_34), .ref bb])) := wset_self et_47
  generalize ws_3.set ktp (tp, .inr (6, [.int 0, .int ya_41, .int (nI ts_33), .int (nI te_34), .ref bb])) = ws_75 at hP hD hm_76 e_77
  have e_78 := hm_76.objK e_8 (by decide)
  have e_79 := hm_76.arrQ e_9
  have e_80 := hm_76.objK er_46 (by decide)
  obtain ⟨f_82, e_81⟩ := hm_76.arrI e_54
  obtain ⟨f_84, e_83⟩ := hm_76.arrI e_61
  have hsm := hsm.tr (hm_76.mono (by decide))
  refine lv_iload_n hx hb dX8_rule_19 rfl (lv_at hl 0 rfl) ?_
  refine lv_if_ne (tgt := 25) hx hb dX8_rule_20 (by decide) (fun c_85 => ?_) (fun c_85 => absurd c_85 (by decide))
  refine lv_aload_n hx hb dX8_rule_25 rfl (lv_at hl 1 rfl) ?_
  refine va_get (D := D) (ci := 8) (v := .int (nI rc)) (C := RX8) (T := TX8) (N := 15) hx hb hts hin8 hown hK hP k0 e_78 rfl 12 (by decide) (hts (.fieldLink RX8 196 "HoneyHouse" "ruleCount" "I") (List.mem_of_getElem? (i := 4) rfl)) (fun _ h9 => h9) rfl dX8_rule_26 ?_
  refine lv_aload_n hx hb dX8_rule_29 rfl (lv_at hl 1 rfl) ?_
  refine va_get (D := D) (ci := 8) (v := .ref ra) (C := RX8) (T := TX8) (N := 15) hx hb hts hin8 hown hK hP k0 e_78 rfl 3 (by decide) (hts (.fieldLink RX8 26 "HoneyHouse" "rules" "[LHoneyHouse$Rule;") (List.mem_of_getElem? (i := 5) rfl)) (fun _ h9 => h9) rfl dX8_rule_30 ?_
  refine va_alen (v := 16) hx hb hK hP kra tra e_79 u_10 rfl dX8_rule_33 ?_
  refine lv_icmp_lt (tgt := 40) hx hb dX8_rule_34 (by decide) (fun c_86 => ?_) (fun c_86 => ?_)
  · have d_87 := n_lt (a := rc) (b := 16) (by omega) (by omega) c_86
    refine lv_aload_n hx hb dX8_rule_40 rfl (lv_at hl 1 rfl) ?_
    refine va_get (D := D) (ci := 8) (v := .ref ra) (C := RX8) (T := TX8) (N := 15) hx hb hts hin8 hown hK hP k0 e_78 rfl 3 (by decide) (hts (.fieldLink RX8 26 "HoneyHouse" "rules" "[LHoneyHouse$Rule;") (List.mem_of_getElem? (i := 5) rfl)) (fun _ h9 => h9) rfl dX8_rule_41 ?_
    refine lv_aload_n hx hb dX8_rule_44 rfl (lv_at hl 1 rfl) ?_
    refine va_get (D := D) (ci := 8) (v := .int (nI rc)) (C := RX8) (T := TX8) (N := 15) hx hb hts hin8 hown hK hP k0 e_78 rfl 12 (by decide) (hts (.fieldLink RX8 196 "HoneyHouse" "ruleCount" "I") (List.mem_of_getElem? (i := 4) rfl)) (fun _ h9 => h9) rfl dX8_rule_45 ?_
    refine va_new (ci := 3) (fs := [.long 0, .int 0, .null, .int 0, .int 0]) (C := RX3) (T := TX3) (N := 5) hx hb hts hin3 tyX3 tyX3_ok hown (hts (.classLink RX8 24 RX3) (List.mem_of_getElem? (i := 6) rfl)) (hts (.instantiable RX3 5) (List.mem_of_getElem? (i := 7) rfl)) (hts (.initialized RX3) (List.mem_of_getElem? (i := 8) rfl)) hK hP hD hS hA rfl (fun j hj => by rcases (show j = 0 ∨ j = 1 ∨ j = 2 ∨ j = 3 ∨ j = 4 by omega) with rfl | rfl | rfl | rfl | rfl <;> rfl) (Nat.le_of_ble_eq_true rfl) (Nat.le_of_ble_eq_true rfl) dX8_rule_48 (fun q_88 H hP hD hS => ?_)
    have le_89 := hsm.len
    have hP : va_P D vwCl (ws_75 ++ [(q_88, .inr (3, [.long 0, .int 0, .null, .int 0, .int 0]))]) H := hP
    have hD : va_D A (ws_75 ++ [(q_88, .inr (3, [.long 0, .int 0, .null, .int 0, .int 0]))]) := hD
    have hm_91 : sm ρ [] ws_75 (ws_75 ++ [(q_88, .inr (3, [.long 0, .int 0, .null, .int 0, .int 0]))]) := sm.app _ _ _ _
    have e_92 : (ws_75 ++ [(q_88, .inr (3, [.long 0, .int 0, .null, .int 0, .int 0]))])[ws_75.length]? = some (q_88, .inr (3, [.long 0, .int 0, .null, .int 0, .int 0])) := ap_new _ _
    have hm_93 : sm (fun _ => 1) [] ws_75 (ws_75 ++ [(q_88, .inr (3, [.long 0, .int 0, .null, .int 0, .int 0]))]) := sm.app _ _ _ _
    generalize ws_75 ++ [(q_88, .inr (3, [.long 0, .int 0, .null, .int 0, .int 0]))] = ws_90 at hP hD hm_91 hm_93 e_92
    have e_94 := hm_93.keep Nat.one_ne_zero e_78
    have e_95 := hm_93.keep Nat.one_ne_zero e_79
    have e_96 := hm_93.keep Nat.one_ne_zero e_80
    have e_97 := hm_93.keep Nat.one_ne_zero e_77
    have e_98 := hm_93.keep Nat.one_ne_zero e_81
    have e_99 := hm_93.keep Nat.one_ne_zero e_83
    have hsm := hsm.tr (hm_91.mono (fun _ h9 => absurd h9 List.not_mem_nil))
    refine W.widen (k := 1) (n := 5) (by omega) (by omega) ?_
    refine lv_dup hx hb dX8_rule_51 rfl ?_
    refine lv_aload_n hx hb dX8_rule_52 rfl (lv_at hl 1 rfl) ?_
    refine va_get (D := D) (ci := 8) (v := .ref rd) (C := RX8) (T := TX8) (N := 15) hx hb hts hin8 hown hK hP k0 e_94 rfl 5 (by decide) (hts (.fieldLink RX8 40 "HoneyHouse" "reader" "LHoneyHouse$RuleReader;") (List.mem_of_getElem? (i := 1) rfl)) (fun _ h9 => h9) rfl dX8_rule_53 ?_
    refine va_get (D := D) (ci := 4) (v := .long ra_36) (C := RX4) (T := TX4) (N := 8) hx hb hts hin4 hown hK hP krd e_96 rfl 1 (by decide) (hts (.fieldLink RX8 199 "HoneyHouse$RuleReader" "nameKey" "J") (List.mem_of_getElem? (i := 9) rfl)) (fun _ h9 => h9) rfl dX8_rule_56 ?_
    refine lv_aload_n hx hb dX8_rule_59 rfl (lv_at hl 1 rfl) ?_
    refine va_get (D := D) (ci := 8) (v := .ref rd) (C := RX8) (T := TX8) (N := 15) hx hb hts hin8 hown hK hP k0 e_94 rfl 5 (by decide) (hts (.fieldLink RX8 40 "HoneyHouse" "reader" "LHoneyHouse$RuleReader;") (List.mem_of_getElem? (i := 1) rfl)) (fun _ h9 => h9) rfl dX8_rule_60 ?_
    refine va_get (D := D) (ci := 4) (v := .int rb_37) (C := RX4) (T := TX4) (N := 8) hx hb hts hin4 hown hK hP krd e_96 rfl 2 (by decide) (hts (.fieldLink RX8 203 "HoneyHouse$RuleReader" "from" "I") (List.mem_of_getElem? (i := 10) rfl)) (fun _ h9 => h9) rfl dX8_rule_63 ?_
    refine lv_aload_n hx hb dX8_rule_66 rfl (lv_at hl 1 rfl) ?_
    refine va_get (D := D) (ci := 8) (v := .ref rd) (C := RX8) (T := TX8) (N := 15) hx hb hts hin8 hown hK hP k0 e_94 rfl 5 (by decide) (hts (.fieldLink RX8 40 "HoneyHouse" "reader" "LHoneyHouse$RuleReader;") (List.mem_of_getElem? (i := 1) rfl)) (fun _ h9 => h9) rfl dX8_rule_67 ?_
    have hFc := free_all hD hS hA
    refine va_callr (va_runV (As := []) (rest := [.int rb_37, .long ra_36, .ref q_88, .ref q_88, .int (nI rc), .ref ra]) ⟨hx, hb, hml, hown, hts⟩ (k_codeRead l D ρ ws_90 ty_4 rd krd tp cd cc_35 ra_36 rb_37 rc_38 rv_39 re_40 k_50 c9_51 t_52 f_82 H.size (by omega) e_96 e_98 u_55 (fun k9 h9 => hle0 k9 (Nat.le_trans hsm.len h9))) (cwV 0 hts gX8_rule_X4_codeRead rfl rfl rfl (by decide +kernel) ⟨Nat.le_of_ble_eq_true rfl, Nat.le_of_ble_eq_true rfl⟩) ⟨fun a U g mk q => by obtain ⟨q0, q1, qP, qK, qD, qZ⟩ := q; exact ⟨q0, q1, qP, va_K.moved (u := U) (U := U.calling g mk a) (Vm.Alike.refl U.vm) qK, qD, va_Nw.same rfl rfl qZ⟩, va_recv hK hP (ci := 4) (q0 := krd) rfl e_96, fun U hU hW => ⟨rfl, by rw [hU], by rw [hU]; exact hP, va_K.moved hW.alike hK, hD.weaken (fun _ _ _ _ => trivial), va_Nw.warmC hW hcz⟩⟩ rfl rfl hl.1 rfl (lv_room (Nat.le_of_ble_eq_true rfl)) dX8_rule_70 ⟨Nat.le_of_ble_eq_true rfl, Nat.le_of_ble_eq_true rfl⟩) hS (fun q _ h => hFc q h) hFc (fun u q_100 t H1 locs ht hvm w_101 hB hz1 hk1 hS => ?_)
    obtain ⟨ws_102, ty_103, hm_104, ht_106, hP1, hK1, hD1, hx_105⟩ := hB
    rw [ht] at hP1
    have hK := va_K.moved hvm.symm hK1
    have hD := hD1.weaken (fun _ _ _ h => hFc _ h)
    generalize H1 = H at hP1 hS ⊢
    have hP := hP1
    have e_107 := hm_104.objK e_94 (by decide)
    have e_108 := hm_104.arrQ e_95
    have u_109 := ht_106 _ _ u_10
    have e_110 := hm_104.objK e_96 (by decide)
    have e_111 := hm_104.objK e_97 (by decide)
    obtain ⟨f_113, e_112⟩ := hm_104.arrI e_98
    have u_114 := ht_106 _ _ u_55
    obtain ⟨f_116, e_115⟩ := hm_104.arrI e_99
    have u_117 := ht_106 _ _ u_62
    have e_118 := hm_104.objK e_92 (by decide)
    have hsm := hsm.tr (hm_104.mono (by decide))
    have htx := htx.tr ht_106
    refine W.widen (k := 2) (n := 205) (by omega) (by omega) ?_
    obtain ⟨n_126, hn_127, k_119, c9_120, t_121, f_122, e_123, u_124, w_125⟩ := hx_105
    have hFc := free_all hD hS hA
    refine va_callv (va_runI (As := [.long ra_36, .int rb_37, .ref q_100]) (rest := [.ref q_88, .int (nI rc), .ref ra]) ⟨hx, hb, hml, hown, hts⟩ (c_X3_init l D ρ ws_102 ty_103 q_88 ws_75.length ra_36 rb_37 q_100 k_119 n_126 c9_120 t_121 f_122 H.size e_118 hn_127 e_123 u_124 (hle0 _ le_89) w_125) (cwI 3 hts gX8_rule_X3_init rfl rfl rfl (hts (.initialized RX3) (List.mem_of_getElem? (i := 8) rfl)) (hts (.methodLink RX8 210 yX3_init) (List.mem_of_getElem? (i := 193) rfl)) (hts (.instanceMethod yX3_init) (List.mem_of_getElem? (i := 194) rfl)) rfl (by decide +kernel) ⟨Nat.le_of_ble_eq_true rfl, Nat.le_of_ble_eq_true rfl⟩) ⟨fun a U g mk q => by obtain ⟨q0, q1, qP, qK, qD⟩ := q; exact ⟨q0, q1, qP, va_K.moved (u := U) (U := U.calling g mk a) (Vm.Alike.refl U.vm) qK, qD⟩, fun U hU hW => ⟨rfl, by rw [hU], by rw [hU]; exact hP, va_K.moved hW.alike hK, hD.weaken (fun _ _ _ _ => trivial)⟩⟩ rfl rfl hl.1 rfl (lv_room (Nat.le_of_ble_eq_true rfl)) dX8_rule_73 ⟨Nat.le_of_ble_eq_true rfl, Nat.le_of_ble_eq_true rfl⟩) hS (fun q _ h => hFc q h) hFc (fun u t H1 locs ht hvm w_128 hB hz1 hk1 hS => ?_)
    obtain ⟨ws_129, ty_130, hm_131, ht_133, hP1, hK1, hD1, hx_132⟩ := hB
    rw [ht] at hP1
    have hK := va_K.moved hvm.symm hK1
    have hD := hD1.weaken (fun _ _ _ h => hFc _ h)
    generalize H1 = H at hP1 hS ⊢
    have hP := hP1
    have e_134 := hm_131.objK (pl_ne e_107 e_118 (by intro h9; simp at h9)) e_107 (by decide)
    have e_135 := hm_131.arrQ (pl_ne e_108 e_118 (by intro h9; simp at h9)) e_108
    have u_136 := ht_133 _ _ u_109
    have e_137 := hm_131.objK (pl_ne e_110 e_118 (by intro h9; simp at h9)) e_110 (by decide)
    have e_138 := hm_131.objK (pl_ne e_111 e_118 (by intro h9; simp at h9)) e_111 (by decide)
    obtain ⟨f_140, e_139⟩ := hm_131.arrI (pl_ne e_112 e_118 (by intro h9; simp at h9)) e_112
    have u_141 := ht_133 _ _ u_114
    obtain ⟨f_143, e_142⟩ := hm_131.arrI (pl_ne e_115 e_118 (by intro h9; simp at h9)) e_115
    have u_144 := ht_133 _ _ u_117
    obtain ⟨f_146, e_145⟩ := hm_131.arrI (pl_ne e_123 e_118 (by intro h9; simp at h9)) e_123
    have u_147 := ht_133 _ _ u_124
    have lt_148 := (List.getElem?_eq_some_iff.mp e_118).1
    have le_149 := hsm.len
    have hsm := hsm.trk (hm_131.mono (fun _ h9 => absurd h9 List.not_mem_nil)) le_89
    have htx := htx.tr ht_133
    obtain ⟨k_150, g_151, n_152, x_153, x_154, x_155, x_156, e_157, w_166, ⟨k_158, c9_159, t_160, f_161, e_162, u_163, w_164⟩, hn_165⟩ := hx_132
    refine va_astq (f := fra) (n := 16) (r := (RX3, TX3, 5)) hx hb hK hP hD hS kra tra k_150 3 e_135 u_136 e_157 rfl (vp_in_nI (n := rc) (by omega) (by omega)) dX8_rule_76 (fun H locs hP hD hS => ?_)
    have hP : va_P D vwCl (ws_129.set kra (ra, .inl (cra, 16, .inr (.inr (.inr (.inr (va_up fra (nI rc).toNatClampNeg (some q_88)))))))) H := hP
    have hD : va_D A (ws_129.set kra (ra, .inl (cra, 16, .inr (.inr (.inr (.inr (va_up fra (nI rc).toNatClampNeg (some q_88)))))))) := hD
    have e_167 := set_o (z := (ra, .inl (cra, 16, .inr (.inr (.inr (.inr (va_up fra (nI rc).toNatClampNeg (some q_88)))))))) e_134 e_135 (by intro h9; simp at h9)
    have hsm0 := hsm
    have cta_168 : CW ρ fv (ws_129.set kra (ra, .inl (cra, 16, .inr (.inr (.inr (.inr (va_up fra (nI rc).toNatClampNeg (some q_88)))))))) ty_130 ta 10 0 10 := (qta.sm hsm htx (fun _ _ h _ => by omega)).st e_135 (by decide)
    have cba_169 : CW ρ fv (ws_129.set kra (ra, .inl (cra, 16, .inr (.inr (.inr (.inr (va_up fra (nI rc).toNatClampNeg (some q_88)))))))) ty_130 ba 60 10 bc := (qba.sm hsm htx (fun _ _ h _ => by omega)).st e_135 (by decide)
    have cfb_170 : oF ρ fv (ws_129.set kra (ra, .inl (cra, 16, .inr (.inr (.inr (.inr (va_up fra (nI rc).toNatClampNeg (some q_88)))))))) ty_130 fb fc := (qfb.sm hsm htx (fun _ _ h => by omega)).st e_135
    have cra_171 : aQ (ws_129.set kra (ra, .inl (cra, 16, .inr (.inr (.inr (.inr (va_up fra (nI rc).toNatClampNeg (some q_88)))))))) ty_130 RX3 (oR ρ (ws_129.set kra (ra, .inl (cra, 16, .inr (.inr (.inr (.inr (va_up fra (nI rc).toNatClampNeg (some q_88)))))))) ty_130) ra 16 := ⟨kra, cra, tra, _, wset_self e_135, u_136, fun j v hj => aup hj (fun hv => ((pra j v hv).sm hsm htx).st e_135) (oR.st (ws := ws_129) (tys := ty_130) (v := q_88) ⟨k_150, g_151, n_152, x_153, x_154, x_155, x_156, e_157, w_166, ⟨k_158, c9_159, t_160, f_161, e_162, u_163, w_164⟩, hn_165⟩ e_135)⟩
    have cla_172 : CL ρ fv (ws_129.set kra (ra, .inl (cra, 16, .inr (.inr (.inr (.inr (va_up fra (nI rc).toNatClampNeg (some q_88)))))))) ty_130 la lc := (qla.sm hsm htx (fun _ _ h _ => by omega)).st e_135 (by decide)
    have csn_173 : oN ρ fv (ws_129.set kra (ra, .inl (cra, 16, .inr (.inr (.inr (.inr (va_up fra (nI rc).toNatClampNeg (some q_88)))))))) ty_130 sn := (qsn.sm hsm htx (fun _ _ h _ => by omega)).st e_135
    have hle9 : ∀ k : Nat, (ws_129.set kra (ra, .inl (cra, 16, .inr (.inr (.inr (.inr (va_up fra (nI rc).toNatClampNeg (some q_88)))))))).length ≤ k → ρ k = 0 := fun k9 h9 => hle0 k9 (Nat.le_trans hsm.len (by rw [List.length_set] at h9; exact h9))
    have cdr_174 : oD ρ (ws_129.set kra (ra, .inl (cra, 16, .inr (.inr (.inr (.inr (va_up fra (nI rc).toNatClampNeg (some q_88)))))))) ty_130 dr := (qdr.sm hsm htx).st e_135
    have cbl_175 : oB ρ (ws_129.set kra (ra, .inl (cra, 16, .inr (.inr (.inr (.inr (va_up fra (nI rc).toNatClampNeg (some q_88)))))))) ty_130 bl := (qbl.sm hsm htx).st e_135
    have cvd_176 : aI ρ (ws_129.set kra (ra, .inl (cra, 16, .inr (.inr (.inr (.inr (va_up fra (nI rc).toNatClampNeg (some q_88)))))))) ty_130 vd 16 := (qvd.sm hsm htx).st e_135
    have crd_177 : oW ρ (ws_129.set kra (ra, .inl (cra, 16, .inr (.inr (.inr (.inr (va_up fra (nI rc).toNatClampNeg (some q_88)))))))) ty_130 rd 0 := oW.st (ws := ws_129) (tys := ty_130) (v := rd) (tl := 0) (⟨krd, tp, cd, ktp, bb, ra_36, rb_37, rc_38, rv_39, (nI cc_35), re_40, ya_41, (nI ts_33), (nI te_34), e_137, wr_48, ⟨k_50, c9_51, t_52, f_140, e_139, u_141, w_56⟩, e_138, wt_49, ⟨k_57, c9_58, t_59, f_143, e_142, u_144, w_63⟩⟩) e_135
    generalize ws_129.set kra (ra, .inl (cra, 16, .inr (.inr (.inr (.inr (va_up fra (nI rc).toNatClampNeg (some q_88))))))) = ws_178 at hP hD e_167 cta_168 cba_169 cfb_170 cra_171 cla_172 csn_173 hle9 cdr_174 cbl_175 cvd_176 crd_177
    have hs2 : sm ρ [8] ws_178 ws_178 := sm.rf _
    refine lv_aload_n hx hb dX8_rule_77 rfl (lv_at hl 1 rfl) ?_
    refine lv_dup hx hb dX8_rule_78 rfl ?_
    refine va_get (D := D) (ci := 8) (v := .int (nI rc)) (C := RX8) (T := TX8) (N := 15) hx hb hts hin8 hown hK hP k0 e_167 rfl 12 (by decide) (hts (.fieldLink RX8 196 "HoneyHouse" "ruleCount" "I") (List.mem_of_getElem? (i := 4) rfl)) (fun _ h9 => h9) rfl dX8_rule_79 ?_
    refine lv_iconst (v := 1) hx hb dX8_rule_82 (by decide) ?_
    refine lv_iadd hx hb dX8_rule_83 ?_
    refine tp_i (y := nI (rc + 1)) (nI_add rc 1) ?_
    refine va_put (D := D) (ci := 8) (v := .int (nI (rc + 1))) (ty := .int) (C := RX8) (T := TX8) (N := 15) hx hb hts hin8 tyX8 tyX8_ok nmX8 hown hK hP hD hS k0 e_167 rfl 12 (by decide) (hts (.fieldLink RX8 196 "HoneyHouse" "ruleCount" "I") (List.mem_of_getElem? (i := 4) rfl)) (fun _ h9 => h9) rfl (tyX8_ok 12 (by decide)) rfl rfl (Nat.le_of_ble_eq_true rfl) dX8_rule_84 (fun H locs hP hD hS => ?_)
    have hP : va_P D vwCl (ws_178.set k0 (h0, .inr (8, [.ref la, .ref ta, .ref ba, .ref ra, .ref sn, .ref rd, .ref dr, .ref bl, .ref vd, .ref fb, .int (nI lc), .int (nI bc), .int (nI (rc + 1)), .int (nI fc), .int dn]))) H := hP
    have hD : va_D A (ws_178.set k0 (h0, .inr (8, [.ref la, .ref ta, .ref ba, .ref ra, .ref sn, .ref rd, .ref dr, .ref bl, .ref vd, .ref fb, .int (nI lc), .int (nI bc), .int (nI (rc + 1)), .int (nI fc), .int dn]))) := hD
    have hm_180 : sm ρ [8] ws_178 (ws_178.set k0 (h0, .inr (8, [.ref la, .ref ta, .ref ba, .ref ra, .ref sn, .ref rd, .ref dr, .ref bl, .ref vd, .ref fb, .int (nI lc), .int (nI bc), .int (nI (rc + 1)), .int (nI fc), .int dn]))) := sm.flds e_167 (smF.c (smV.rf _) (smF.c (smV.rf _) (smF.c (smV.rf _) (smF.c (smV.rf _) (smF.c (smV.rf _) (smF.c (smV.rf _) (smF.c (smV.rf _) (smF.c (smV.rf _) (smF.c (smV.rf _) (smF.c (smV.rf _) (smF.c (smV.rf _) (smF.c (smV.rf _) (smF.c (smV.i _ _) (smF.c (smV.rf _) (smF.c (smV.rf _) (rfl)))))))))))))))) (List.mem_singleton.mpr rfl) w0
    have e_181 : (ws_178.set k0 (h0, .inr (8, [.ref la, .ref ta, .ref ba, .ref ra, .ref sn, .ref rd, .ref dr, .ref bl, .ref vd, .ref fb, .int (nI lc), .int (nI bc), .int (nI (rc + 1)), .int (nI fc), .int dn])))[k0]? = some (h0, .inr (8, [.ref la, .ref ta, .ref ba, .ref ra, .ref sn, .ref rd, .ref dr, .ref bl, .ref vd, .ref fb, .int (nI lc), .int (nI bc), .int (nI (rc + 1)), .int (nI fc), .int dn])) := wset_self e_167
    generalize ws_178.set k0 (h0, .inr (8, [.ref la, .ref ta, .ref ba, .ref ra, .ref sn, .ref rd, .ref dr, .ref bl, .ref vd, .ref fb, .int (nI lc), .int (nI bc), .int (nI (rc + 1)), .int (nI fc), .int dn])) = ws_179 at hP hD hm_180 e_181
    have hs2 := hs2.tr (hm_180.mono (by decide))
    refine lv_aload_n hx hb dX8_rule_87 rfl (lv_at hl 1 rfl) ?_
    refine va_get (D := D) (ci := 8) (v := .int (nI (rc + 1))) (C := RX8) (T := TX8) (N := 15) hx hb hts hin8 hown hK hP k0 e_181 rfl 12 (by decide) (hts (.fieldLink RX8 196 "HoneyHouse" "ruleCount" "I") (List.mem_of_getElem? (i := 4) rfl)) (fun _ h9 => h9) rfl dX8_rule_88 ?_
    refine lv_iconst (v := 1) hx hb dX8_rule_91 (by decide) ?_
    refine lv_isub hx hb dX8_rule_92 ?_
    refine tp_i (y := nI ((rc + 1) - 1)) (pk_sub (a := rc + 1) (b := 1) (by omega)) ?_
    refine W.widen (k := 3) (n := 210) (by omega) (by omega) ?_
    exact W.iret (v := nI ((rc + 1) - 1)) hx hb hr (fun t ht hW => ⟨⟨nI ((rc + 1) - 1), (), rfl, trivial, ws_179, ty_130, by rw [ht]; exact hP, va_K.moved hW.alike hK, hD, ⟨rc + 1, by omega, xi_mk e_181 w0 hle9 ⟨hnum.1, hnum.2.1, by omega, hnum.2.2.2.1, by omega⟩ cla_172 cta_168 cba_169 cra_171 csn_173 (crd_177.sm hs2 (tyx.rf _) (by decide)) cdr_174 cbl_175 cvd_176 cfb_170 hs2 (tyx.rf _)⟩⟩, hS.F ht⟩) hS.2.2 dX8_rule_93
  have d_182 := n_nlt (a := rc) (b := 16) (by omega) (by omega) c_86
  refine lv_bipush (v := (-2)) hx hb dX8_rule_37 (by decide) ?_
  refine W.widen (k := 3) (n := 210) (by omega) (by omega) ?_
  exact W.iret (v := (-2)) hx hb hr (fun t ht hW => ⟨⟨(-2), (), rfl, trivial, ws_75, ty_4, by rw [ht]; exact hP, va_K.moved hW.alike hK, hD, ⟨rc, by omega, xi_mk e_78 w0 hle0 ⟨hnum.1, hnum.2.1, hnum.2.2.1, hnum.2.2.2.1, by omega⟩ qla qta qba qra qsn ⟨krd, tp, cd, ktp, bb, ra_36, rb_37, rc_38, rv_39, (nI cc_35), re_40, ya_41, (nI ts_33), (nI te_34), e_80, wr_48, ⟨k_50, c9_51, t_52, f_82, e_81, u_55, w_56⟩, e_77, wt_49, ⟨k_57, c9_58, t_59, f_84, e_83, u_62, w_63⟩⟩ qdr qbl qvd qfb hsm htx⟩⟩, hS.F ht⟩) hS.2.2 dX8_rule_39
