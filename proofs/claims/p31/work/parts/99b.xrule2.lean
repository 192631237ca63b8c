theorem dX8_rule_0 : decode cX8_rule 0 = .ok (.aload_n 0, 1) := by decide +kernel
theorem dX8_rule_1 : decode cX8_rule 1 = .ok (.getfield 40, 3) := by decide +kernel
theorem dX8_rule_4 : decode cX8_rule 4 = .ok (.invokevirtual 192, 3) := by decide +kernel
theorem dX8_rule_7 : decode cX8_rule 7 = .ok (.istore_n 1, 1) := by decide +kernel
theorem dX8_rule_8 : decode cX8_rule 8 = .ok (.aload_n 0, 1) := by decide +kernel
theorem dX8_rule_9 : decode cX8_rule 9 = .ok (.getfield 40, 3) := by decide +kernel
theorem dX8_rule_12 : decode cX8_rule 12 = .ok (.getfield 68, 3) := by decide +kernel
theorem dX8_rule_15 : decode cX8_rule 15 = .ok (.iconst 0, 1) := by decide +kernel
theorem dX8_rule_16 : decode cX8_rule 16 = .ok (.putfield 72, 3) := by decide +kernel
theorem dX8_rule_19 : decode cX8_rule 19 = .ok (.iload_n 1, 1) := by decide +kernel
theorem dX8_rule_20 : decode cX8_rule 20 = .ok (.ifCond .ne 5, 3) := by decide +kernel
theorem dX8_rule_23 : decode cX8_rule 23 = .ok (.iconst (-1), 1) := by decide +kernel
theorem dX8_rule_24 : decode cX8_rule 24 = .ok (.ireturn, 1) := by decide +kernel
theorem dX8_rule_25 : decode cX8_rule 25 = .ok (.aload_n 0, 1) := by decide +kernel
theorem dX8_rule_26 : decode cX8_rule 26 = .ok (.getfield 196, 3) := by decide +kernel
theorem dX8_rule_29 : decode cX8_rule 29 = .ok (.aload_n 0, 1) := by decide +kernel
theorem dX8_rule_30 : decode cX8_rule 30 = .ok (.getfield 26, 3) := by decide +kernel
theorem dX8_rule_33 : decode cX8_rule 33 = .ok (.arraylength, 1) := by decide +kernel
theorem dX8_rule_34 : decode cX8_rule 34 = .ok (.if_icmp .lt 6, 3) := by decide +kernel
theorem dX8_rule_37 : decode cX8_rule 37 = .ok (.bipush (-2), 2) := by decide +kernel
theorem dX8_rule_39 : decode cX8_rule 39 = .ok (.ireturn, 1) := by decide +kernel
theorem dX8_rule_40 : decode cX8_rule 40 = .ok (.aload_n 0, 1) := by decide +kernel
theorem dX8_rule_41 : decode cX8_rule 41 = .ok (.getfield 26, 3) := by decide +kernel
theorem dX8_rule_44 : decode cX8_rule 44 = .ok (.aload_n 0, 1) := by decide +kernel
theorem dX8_rule_45 : decode cX8_rule 45 = .ok (.getfield 196, 3) := by decide +kernel
theorem dX8_rule_48 : decode cX8_rule 48 = .ok (.new 24, 3) := by decide +kernel
theorem dX8_rule_51 : decode cX8_rule 51 = .ok (.dup, 1) := by decide +kernel
theorem dX8_rule_52 : decode cX8_rule 52 = .ok (.aload_n 0, 1) := by decide +kernel
theorem dX8_rule_53 : decode cX8_rule 53 = .ok (.getfield 40, 3) := by decide +kernel
theorem dX8_rule_56 : decode cX8_rule 56 = .ok (.getfield 199, 3) := by decide +kernel
theorem dX8_rule_59 : decode cX8_rule 59 = .ok (.aload_n 0, 1) := by decide +kernel
theorem dX8_rule_60 : decode cX8_rule 60 = .ok (.getfield 40, 3) := by decide +kernel
theorem dX8_rule_63 : decode cX8_rule 63 = .ok (.getfield 203, 3) := by decide +kernel
theorem dX8_rule_66 : decode cX8_rule 66 = .ok (.aload_n 0, 1) := by decide +kernel
theorem dX8_rule_67 : decode cX8_rule 67 = .ok (.getfield 40, 3) := by decide +kernel
theorem dX8_rule_70 : decode cX8_rule 70 = .ok (.invokevirtual 206, 3) := by decide +kernel
theorem dX8_rule_73 : decode cX8_rule 73 = .ok (.invokespecial 210, 3) := by decide +kernel
theorem dX8_rule_76 : decode cX8_rule 76 = .ok (.aastore, 1) := by decide +kernel
theorem dX8_rule_77 : decode cX8_rule 77 = .ok (.aload_n 0, 1) := by decide +kernel
theorem dX8_rule_78 : decode cX8_rule 78 = .ok (.dup, 1) := by decide +kernel
theorem dX8_rule_79 : decode cX8_rule 79 = .ok (.getfield 196, 3) := by decide +kernel
theorem dX8_rule_82 : decode cX8_rule 82 = .ok (.iconst 1, 1) := by decide +kernel
theorem dX8_rule_83 : decode cX8_rule 83 = .ok (.iadd, 1) := by decide +kernel
theorem dX8_rule_84 : decode cX8_rule 84 = .ok (.putfield 196, 3) := by decide +kernel
theorem dX8_rule_87 : decode cX8_rule 87 = .ok (.aload_n 0, 1) := by decide +kernel
theorem dX8_rule_88 : decode cX8_rule 88 = .ok (.getfield 196, 3) := by decide +kernel
theorem dX8_rule_91 : decode cX8_rule 91 = .ok (.iconst 1, 1) := by decide +kernel
theorem dX8_rule_92 : decode cX8_rule 92 = .ok (.isub, 1) := by decide +kernel
theorem dX8_rule_93 : decode cX8_rule 93 = .ok (.ireturn, 1) := by decide +kernel
set_option maxRecDepth 20000 in
theorem ggX8_rule_X4_read : GoodIn wsX8_rule wsX4_read := goodIn_r _ [15, 16, 17, 18, 19, 20, 21, 22, 23, 24, 25, 26, 27, 28, 29, 30, 31, 32, 33, 34, 35, 36, 37, 38, 39, 40, 41, 42, 43, 44, 45, 46, 14, 47, 48, 49, 50, 51, 52, 53, 54, 55, 56, 57, 58, 59, 60, 61, 62, 63, 64, 65, 66, 67, 68, 69, 70, 71, 72, 73, 74, 75, 76, 77, 78, 79, 80, 81, 82, 83, 84, 85, 86, 87, 88, 89, 90, 91, 92, 93, 94, 95, 96, 97, 98, 99, 100, 101, 102, 103, 104, 105, 106, 107, 108, 109, 110, 111, 112, 113, 114, 115, 116, 117, 118, 119, 120, 121, 122, 123, 124, 125, 126, 127, 128, 129, 130, 131, 132, 133, 134, 135, 136, 137, 138, 139, 140, 141, 142, 143, 144, 145, 146, 147, 148, 149, 150, 151, 152, 153, 154, 155, 156, 157, 158, 159, 160, 161, 162, 163, 164, 165, 166, 167, 168, 169, 217, 218, 219, 220, 221, 222, 223, 224, 225, 226, 227, 228, 229] rfl (by decide +kernel)
set_option maxRecDepth 20000 in
theorem gX8_rule_X4_read : GoodIn wsX8_rule (wsV RX8 192 RX4 yX4_read wsX4_read) := goodIn_app (goodIn_of _ (by decide +kernel)) ggX8_rule_X4_read
set_option maxRecDepth 20000 in
theorem ggX8_rule_X4_codeRead : GoodIn wsX8_rule wsX4_codeRead := goodIn_r _ [173, 149, 18, 174, 175, 176, 177, 178, 179, 180, 181, 182, 183, 184, 185, 186, 187, 188, 189, 190, 191, 192, 217, 218, 219, 220, 221, 222, 223, 224] rfl (by decide +kernel)
set_option maxRecDepth 20000 in
theorem gX8_rule_X4_codeRead : GoodIn wsX8_rule (wsV RX8 206 RX4 yX4_codeRead wsX4_codeRead) := goodIn_app (goodIn_of _ (by decide +kernel)) ggX8_rule_X4_codeRead
set_option maxRecDepth 20000 in
theorem ggX8_rule_X3_init : GoodIn wsX8_rule wsX3_init := goodIn_r _ [195, 196, 197, 198, 199, 200, 201, 230, 231, 232, 233, 234] rfl (by decide +kernel)
set_option maxRecDepth 20000 in
theorem gX8_rule_X3_init : GoodIn wsX8_rule (wsX3_init) := ggX8_rule_X3_init
set_option maxHeartbeats 4000000 in
set_option maxRecDepth 100000 in
theorem h_rule (l : Launch) (D : va_G) (ρ : Nat → Nat) (ws : va_W) (tys : List (ClassId × FieldType)) (adK adV : Nat → Nat) (fo : Option Nat) (fv : Nat → Nat → Int32) (h0 lc bc rc fc : Nat) (dn : Int32) (tl : Nat) (sz : Nat) (X : XI ρ fv ws tys h0 lc bc rc fc dn tl) : Met l yX8_rule wsX8_rule ({ frames := 22, cells := 3, slots := 210, locals := 505 }) (va_Pc [.ref h0] (fun U => U.heap.size = sz ∧ va_P D vwCl ws U.heap ∧ va_K D vwCl tys U ∧ va_D (fun _ => True) ws ∧ SZ adK adV fo (va_A ws sz) U U.heap ∧ CZ U)) (va_Qi (fun (r : Int32) (s9 : Int32) => r = s9) (fun (s9 : Int32) (t : State) => ∃ (ws' : va_W) (tys' : List (ClassId × FieldType)), va_P D vwCl ws' t.heap ∧ va_K D vwCl tys' t ∧ va_D (va_A ws sz) ws' ∧ (∃ (k p fr9 : Nat) (T9 : List Tk), rdR (fv 0) tl k p fr9 T9 ∧ k ≤ 3 ∧ ((¬ k = 0 ∧ s9 = (-1) ∧ ∀ fv2 : Nat → Nat → Int32, RWR fv2 fv rc → fv2 21 0 = nI k → fv2 22 0 = nI p → XI ρ fv2 ws' tys' h0 lc bc rc fc dn 0) ∨ (k = 0 ∧ rc = 16 ∧ s9 = (-2) ∧ ∀ fv2 : Nat → Nat → Int32, RWR fv2 fv rc → fv2 21 0 = 0 → fv2 22 0 = (-1) → XI ρ fv2 ws' tys' h0 lc bc rc fc dn 0) ∨ (k = 0 ∧ ¬ rc = 16 ∧ s9 = nI rc ∧ ∃ σ : Nat → Nat, ∀ fv2 : Nat → Nat → Int32, RWR fv2 fv rc → fv2 17 rc = nI fr9 → fv2 18 rc = (-1) → fv2 21 0 = 0 → fv2 22 0 = (-1) → XI σ fv2 ws' tys' h0 lc bc (rc + 1) fc dn 0)))) (va_A ws sz)) 3 210 (va_A ws sz) := by
  refine Met.ofW (cc := cX8_rule) (maxL := 2) (ret := (some .int)) (by decide) rfl ?_
  intro p e s m args below meth c s₁ B hml hv
  obtain ⟨rfl, hsz, hP, hK, hD0, hsz9, hcz⟩ := hv
  have hx := B.exec
  have hb := B.bytes
  have hr := B.returns
  have hts := atoms_spec (ws := wsX8_rule) B.pre
  have hown : s.vm.findClass RX8 = some m.cls := findClass_of_methodNamed B.named
  have hlocks := B.notSynchronized
  subst hsz
  have hD := hD0.self (sz := s.heap.size)
  generalize hAe : va_A ws s.heap.size = A at hD hsz9 ⊢
  have hA : ∀ q : Nat, s.heap.size ≤ q → A q := fun q h => by rw [← hAe]; exact Or.inr h
  have hS : va_S A s.heap s.heap [] := va_S.rf
  have hsm : sm ρ [4, 6] ws ws := sm.rf ws
  have htx : tyx tys tys := tyx.rf tys
  have hin3 : ∀ w ∈ u_ws RX3 TX3 5, w ∈ wsX8_rule := (fun _ h9 => List.mem_cons_of_mem _ ((List.mem_append_right _ h9)))
  have hin4 : ∀ w ∈ u_ws RX4 TX4 8, w ∈ wsX8_rule := (fun _ h9 => List.mem_cons_of_mem _ (List.mem_append_left _ (List.mem_append_left _ ((List.mem_append_right _ h9)))))
  have hin6 : ∀ w ∈ u_ws RX6 TX6 5, w ∈ wsX8_rule := (fun _ h9 => List.mem_cons_of_mem _ (List.mem_append_left _ ((List.mem_append_right _ h9))))
  have hin8 : ∀ w ∈ u_ws RX8 TX8 15, w ∈ wsX8_rule := (fun _ h9 => List.mem_cons_of_mem _ (List.mem_append_left _ (List.mem_append_left _ (List.mem_append_left _ ((List.mem_append_right _ h9))))))
  have hl := lv_entry ([.ref h0]) (n := 2) (Nat.le_of_ble_eq_true rfl)
  rw [lg_entry_eq]
  generalize (lg_sl ([.ref h0]) ++ List.replicate (2 - (lg_sl ([.ref h0])).length) Slot.unset).toArray = ls at hl ⊢
  have hl : lv_has ls 2 [(0, .ref h0)] := hl
  obtain ⟨k0, la, ta, ba, ra, sn, rd, dr, bl, vd, fb, e0, w0, hle0, hnum, qla, qta, qba, qra, qsn, qrd, qdr, qbl, qvd, qfb⟩ := id X
  obtain ⟨krd, tp, cd, ktp, bb, r1, r2, r6, r7, y1, y2, y3, erd, wrd, ⟨kcd, ccd, tcd, fcd, ecd, ucd, wcd⟩, etp, wtp, ⟨kbb, cbb, tbb, fbb, ebb, ubb, wbb, gbb⟩⟩ := id qrd
  obtain ⟨kra, cra, tra, fra, era, ura, hra0, hra1⟩ := id qra
  have hrc := hnum.2.2.1
  have htl9 := hnum.2.2.2.2
  have hk0 := (List.getElem?_eq_some_iff.mp e0).1
  obtain ⟨f9, hf9⟩ : ∃ f9 : Nat → Int32, f9 = fv 0 := ⟨_, rfl⟩
  refine lv_aload_n hx hb dX8_rule_0 rfl (lv_at hl 0 rfl) ?_
  refine va_get (D := D) (ci := 8) (v := .ref rd) (C := RX8) (T := TX8) (N := 15) hx hb hts hin8 hown hK hP k0 e0 rfl 5 (by decide) (hts (.fieldLink RX8 40 "HoneyHouse" "reader" "LHoneyHouse$RuleReader;") (List.mem_of_getElem? (i := 1) rfl)) (fun _ h9 => h9) rfl dX8_rule_1 ?_
  have hFc := free_all hD hS hA
  refine va_calli (va_runV (As := []) (rest := []) ⟨hx, hb, hml, hown, hts⟩ (r_read l D ρ ws tys adK adV fo f9 rd krd tp ktp tl r1 r2 (fv 21 0) (fv 22 0) r6 r7 y1 y2 y3 bb kbb cbb tbb fbb cd kcd ccd tcd fcd s.heap.size (by omega) (fun i hi => by rw [hf9]; exact (gbb i hi).1) (fun i hi => by rw [hf9]; exact (gbb i hi).2) erd etp ebb ubb ecd ucd wrd wtp wbb wcd) (cwV 0 hts gX8_rule_X4_read rfl rfl rfl (by decide +kernel) ⟨Nat.le_of_ble_eq_true rfl, Nat.le_of_ble_eq_true rfl⟩) ⟨fun a U g mk q => by obtain ⟨q0, q1, qP, qK, qD, qS⟩ := q; exact ⟨q0, q1, qP, va_K.moved (u := U) (U := U.calling g mk a) (Vm.Alike.refl U.vm) qK, qD, SZ.same rfl rfl qS⟩, va_recv hK hP (ci := 4) (q0 := krd) rfl erd, fun U hU hW => ⟨rfl, by rw [hU], by rw [hU]; exact hP, va_K.moved hW.alike hK, hD.weaken (fun _ _ _ _ => trivial), hsz9.go hS hW hU hFc⟩⟩ rfl rfl hl.1 rfl (lv_room (Nat.le_of_ble_eq_true rfl)) dX8_rule_4 ⟨Nat.le_of_ble_eq_true rfl, Nat.le_of_ble_eq_true rfl⟩) hS (fun q _ h => hFc q h) hFc (fun r_1 u t H1 locs ht hvm w_2 hB hz1 hk1 hS => ?_)
  subst w_2
  obtain ⟨ws_3, ty_4, hm_5, ht_7, hP1, hK1, hD1, hx_6⟩ := hB
  rw [ht] at hP1
  have hK := va_K.moved hvm.symm hK1
  have hD := hD1.weaken (fun _ _ _ h => hFc _ h)
  generalize H1 = H at hP1 hS ⊢
  have hP := hP1
  have e_8 := hm_5.objK e0 (by decide)
  have e_9 := hm_5.arrQ era
  have u_10 := ht_7 _ _ ura
  obtain ⟨g_12, e_11, h_13⟩ := hm_5.obj erd
  obtain ⟨z_14, z_15, z_16, z_17, z_18, z_19, rfl⟩ := smX4 h_13
  obtain ⟨f_21, e_20⟩ := hm_5.arrI ecd
  have u_22 := ht_7 _ _ ucd
  obtain ⟨g_24, e_23, h_25⟩ := hm_5.obj etp
  obtain ⟨z_26, z_27, z_28, z_29, rfl⟩ := smX6 h_25
  have e_30 := hm_5.keep (by rw [wbb]; omega) ebb
  have u_31 := ht_7 _ _ ubb
  have hsm := hsm.tr (hm_5.mono (by decide))
  have htx := htx.tr ht_7
  obtain ⟨k_32, p_33, fr_34, T_35, hrd_36, ⟨rfl, hk_37, hk_38, ts_39, T_40, nk_41, fr_42, vl_43, hR_44⟩ | ⟨rfl, hk_45, ts_39, nk_41, vl_43, hR_44⟩⟩ := hx_6
  · obtain ⟨kc_46, cc_47, tc_48, fc_49, kb_50, cb_51, tb_52, fb_53, hp_54, hT_55, er_56, et_57, wr_58, wt_59, ec_60, uc_61, wc_62, hc_63, eb_64, ub_65, wb_66, hb_67⟩ := id hR_44
    have hp_541 := hp_54.1
    have hp_54t := teF_le (f := f9) hp_54.1
    refine lv_istore_n (lv' := [(1, .int 0), (0, .ref h0)]) hx hb dX8_rule_7 rfl hl (by decide) rfl (fun ls hl => ?_)
    refine lv_aload_n hx hb dX8_rule_8 rfl (lv_at hl 1 rfl) ?_
    refine va_get (D := D) (ci := 8) (v := .ref rd) (C := RX8) (T := TX8) (N := 15) hx hb hts hin8 hown hK hP k0 e_8 rfl 5 (by decide) (hts (.fieldLink RX8 40 "HoneyHouse" "reader" "LHoneyHouse$RuleReader;") (List.mem_of_getElem? (i := 1) rfl)) (fun _ h9 => h9) rfl dX8_rule_9 ?_
    refine va_get (D := D) (ci := 4) (v := .ref tp) (C := RX4) (T := TX4) (N := 8) hx hb hts hin4 hown hK hP krd er_56 rfl 0 (by decide) (hts (.fieldLink RX8 68 "HoneyHouse$RuleReader" "tape" "LHoneyHouse$Tape;") (List.mem_of_getElem? (i := 2) rfl)) (fun _ h9 => h9) rfl dX8_rule_12 ?_
    refine lv_iconst (v := 0) hx hb dX8_rule_15 (by decide) ?_
    refine va_put (D := D) (ci := 6) (v := .int 0) (ty := .int) (C := RX6) (T := TX6) (N := 5) hx hb hts hin6 tyX6 tyX6_ok nmX6 hown hK hP hD hS ktp et_57 rfl 0 (by decide) (hts (.fieldLink RX8 72 "HoneyHouse$Tape" "length" "I") (List.mem_of_getElem? (i := 3) rfl)) (fun _ h9 => h9) rfl (tyX6_ok 0 (by decide)) rfl rfl (Nat.le_of_ble_eq_true rfl) dX8_rule_16 (fun H locs hP hD hS => ?_)
    have hP : va_P D vwCl (ws_3.set ktp (tp, .inr (6, [.int 0, .int (nI (kdF f9 tl ts_39)), .int (nI ts_39), .int (nI (teF f9 tl ts_39)), .ref bb]))) H := hP
    have hD : va_D A (ws_3.set ktp (tp, .inr (6, [.int 0, .int (nI (kdF f9 tl ts_39)), .int (nI ts_39), .int (nI (teF f9 tl ts_39)), .ref bb]))) := hD
    have hm_69 : sm ρ [6] ws_3 (ws_3.set ktp (tp, .inr (6, [.int 0, .int (nI (kdF f9 tl ts_39)), .int (nI ts_39), .int (nI (teF f9 tl ts_39)), .ref bb]))) := sm.flds et_57 (smF.c (smV.i _ _) (smF.c (smV.rf _) (smF.c (smV.rf _) (smF.c (smV.rf _) (smF.c (smV.rf _) (rfl)))))) (List.mem_singleton.mpr rfl) wt_59
    have e_70 : (ws_3.set ktp (tp, .inr (6, [.int 0, .int (nI (kdF f9 tl ts_39)), .int (nI ts_39), .int (nI (teF f9 tl ts_39)), .ref bb])))[ktp]? = some (tp, .inr (6, [.int 0, .int (nI (kdF f9 tl ts_39)), .int (nI ts_39), .int (nI (teF f9 tl ts_39)), .ref bb])) := wset_self et_57
    generalize ws_3.set ktp (tp, .inr (6, [.int 0, .int (nI (kdF f9 tl ts_39)), .int (nI ts_39), .int (nI (teF f9 tl ts_39)), .ref bb])) = ws_68 at hP hD hm_69 e_70
    have e_71 := hm_69.objK e_8 (by decide)
    have e_72 := hm_69.arrQ e_9
    have e_73 := hm_69.objK er_56 (by decide)
    obtain ⟨f_75, e_74⟩ := hm_69.arrI ec_60
    have e_76 := hm_69.keep (by rw [wb_66]; omega) eb_64
    have hsm := hsm.tr (hm_69.mono (by decide))
    refine lv_iload_n hx hb dX8_rule_19 rfl (lv_at hl 0 rfl) ?_
    refine lv_if_ne (tgt := 25) hx hb dX8_rule_20 (by decide) (fun c_77 => absurd (by decide) c_77) (fun c_77 => ?_)
    refine lv_iconst (v := (-1)) hx hb dX8_rule_23 (by decide) ?_
    refine W.widen (k := 3) (n := 210) (by omega) (by omega) ?_
    exact W.iret (v := (-1)) hx hb hr (fun t ht hW => ⟨⟨(-1), (-1), rfl, rfl, ws_68, ty_4, by rw [ht]; exact hP, va_K.moved hW.alike hK, hD, ⟨k_32, p_33, fr_34, T_35, by rw [← hf9]; exact hrd_36, by omega, Or.inl ⟨by omega, rfl, fun fv2 R e21 e22 => xi_rd e_71 w0 hle0 hnum qla qta qba qra qsn qdr qbl qvd qfb hsm htx R (⟨krd, tp, cd, ktp, bb, nk_41, fr_42, (nI T_40.length), vl_43, (nI (kdF f9 tl ts_39)), (nI ts_39), (nI (teF f9 tl ts_39)), by rw [e21, e22]; exact e_73, wr_58, ⟨kc_46, cc_47, tc_48, f_75, e_74, uc_61, wc_62⟩, e_70, wt_59, ⟨kb_50, cb_51, tb_52, fb_53, e_76, ub_65, wb_66, fun i hi => absurd hi (Nat.not_lt_zero _)⟩⟩ : oW ρ fv2 ws_68 ty_4 rd 0)⟩⟩⟩, hS.F ht⟩) hS.2.2 dX8_rule_24
  subst hk_45
  obtain ⟨kc_78, cc_79, tc_80, fc_81, kb_82, cb_83, tb_84, fb_85, hp_86, hT_87, er_88, et_89, wr_90, wt_91, ec_92, uc_93, wc_94, hc_95, eb_96, ub_97, wb_98, hb_99⟩ := id hR_44
  have hp_861 := hp_86.1
  have hp_86t := teF_le (f := f9) hp_86.1
  obtain ⟨fQ, eQ⟩ := hsm.arrI ecd
  have hlc9 : kc_78 < ws.length := by rw [show kc_78 = kcd from hD.1 _ _ _ _ ec_92 eQ rfl]; exact (List.getElem?_eq_some_iff.mp ecd).1
  obtain ⟨fQ2, eQ2⟩ := hsm.arrI ebb
  have hlb9 : kb_82 < ws.length := by rw [show kb_82 = kbb from hD.1 _ _ _ _ eb_96 eQ2 rfl]; exact (List.getElem?_eq_some_iff.mp ebb).1
  have lrd := (List.getElem?_eq_some_iff.mp erd).1
  have ltp := (List.getElem?_eq_some_iff.mp etp).1
  have hfr9 := rd_fr hrd_36
  refine lv_istore_n (lv' := [(1, .int 1), (0, .ref h0)]) hx hb dX8_rule_7 rfl hl (by decide) rfl (fun ls hl => ?_)
  refine lv_aload_n hx hb dX8_rule_8 rfl (lv_at hl 1 rfl) ?_
  refine va_get (D := D) (ci := 8) (v := .ref rd) (C := RX8) (T := TX8) (N := 15) hx hb hts hin8 hown hK hP k0 e_8 rfl 5 (by decide) (hts (.fieldLink RX8 40 "HoneyHouse" "reader" "LHoneyHouse$RuleReader;") (List.mem_of_getElem? (i := 1) rfl)) (fun _ h9 => h9) rfl dX8_rule_9 ?_
  refine va_get (D := D) (ci := 4) (v := .ref tp) (C := RX4) (T := TX4) (N := 8) hx hb hts hin4 hown hK hP krd er_88 rfl 0 (by decide) (hts (.fieldLink RX8 68 "HoneyHouse$RuleReader" "tape" "LHoneyHouse$Tape;") (List.mem_of_getElem? (i := 2) rfl)) (fun _ h9 => h9) rfl dX8_rule_12 ?_
  refine lv_iconst (v := 0) hx hb dX8_rule_15 (by decide) ?_
  refine va_put (D := D) (ci := 6) (v := .int 0) (ty := .int) (C := RX6) (T := TX6) (N := 5) hx hb hts hin6 tyX6 tyX6_ok nmX6 hown hK hP hD hS ktp et_89 rfl 0 (by decide) (hts (.fieldLink RX8 72 "HoneyHouse$Tape" "length" "I") (List.mem_of_getElem? (i := 3) rfl)) (fun _ h9 => h9) rfl (tyX6_ok 0 (by decide)) rfl rfl (Nat.le_of_ble_eq_true rfl) dX8_rule_16 (fun H locs hP hD hS => ?_)
  have hP : va_P D vwCl (ws_3.set ktp (tp, .inr (6, [.int 0, .int (nI (kdF f9 tl ts_39)), .int (nI ts_39), .int (nI (teF f9 tl ts_39)), .ref bb]))) H := hP
  have hD : va_D A (ws_3.set ktp (tp, .inr (6, [.int 0, .int (nI (kdF f9 tl ts_39)), .int (nI ts_39), .int (nI (teF f9 tl ts_39)), .ref bb]))) := hD
  have hm_101 : sm ρ [6] ws_3 (ws_3.set ktp (tp, .inr (6, [.int 0, .int (nI (kdF f9 tl ts_39)), .int (nI ts_39), .int (nI (teF f9 tl ts_39)), .ref bb]))) := sm.flds et_89 (smF.c (smV.i _ _) (smF.c (smV.rf _) (smF.c (smV.rf _) (smF.c (smV.rf _) (smF.c (smV.rf _) (rfl)))))) (List.mem_singleton.mpr rfl) wt_91
  have e_102 : (ws_3.set ktp (tp, .inr (6, [.int 0, .int (nI (kdF f9 tl ts_39)), .int (nI ts_39), .int (nI (teF f9 tl ts_39)), .ref bb])))[ktp]? = some (tp, .inr (6, [.int 0, .int (nI (kdF f9 tl ts_39)), .int (nI ts_39), .int (nI (teF f9 tl ts_39)), .ref bb])) := wset_self et_89
  generalize ws_3.set ktp (tp, .inr (6, [.int 0, .int (nI (kdF f9 tl ts_39)), .int (nI ts_39), .int (nI (teF f9 tl ts_39)), .ref bb])) = ws_100 at hP hD hm_101 e_102
  have e_103 := hm_101.objK e_8 (by decide)
  have e_104 := hm_101.arrQ e_9
  have e_105 := hm_101.objK er_88 (by decide)
  obtain ⟨f_107, e_106⟩ := hm_101.arrI ec_92
  have e_108 := hm_101.keep (by rw [wb_98]; omega) eb_96
  have hsm := hsm.tr (hm_101.mono (by decide))
  refine lv_iload_n hx hb dX8_rule_19 rfl (lv_at hl 0 rfl) ?_
  refine lv_if_ne (tgt := 25) hx hb dX8_rule_20 (by decide) (fun c_109 => ?_) (fun c_109 => absurd c_109 (by decide))
  refine lv_aload_n hx hb dX8_rule_25 rfl (lv_at hl 1 rfl) ?_
  refine va_get (D := D) (ci := 8) (v := .int (nI rc)) (C := RX8) (T := TX8) (N := 15) hx hb hts hin8 hown hK hP k0 e_103 rfl 12 (by decide) (hts (.fieldLink RX8 196 "HoneyHouse" "ruleCount" "I") (List.mem_of_getElem? (i := 4) rfl)) (fun _ h9 => h9) rfl dX8_rule_26 ?_
  refine lv_aload_n hx hb dX8_rule_29 rfl (lv_at hl 1 rfl) ?_
  refine va_get (D := D) (ci := 8) (v := .ref ra) (C := RX8) (T := TX8) (N := 15) hx hb hts hin8 hown hK hP k0 e_103 rfl 3 (by decide) (hts (.fieldLink RX8 26 "HoneyHouse" "rules" "[LHoneyHouse$Rule;") (List.mem_of_getElem? (i := 5) rfl)) (fun _ h9 => h9) rfl dX8_rule_30 ?_
  refine va_alen (v := 16) hx hb hK hP kra tra e_104 u_10 rfl dX8_rule_33 ?_
  refine lv_icmp_lt (tgt := 40) hx hb dX8_rule_34 (by decide) (fun c_110 => ?_) (fun c_110 => ?_)
  · have d_111 := n_lt (a := rc) (b := 16) (by omega) (by omega) c_110
    refine lv_aload_n hx hb dX8_rule_40 rfl (lv_at hl 1 rfl) ?_
    refine va_get (D := D) (ci := 8) (v := .ref ra) (C := RX8) (T := TX8) (N := 15) hx hb hts hin8 hown hK hP k0 e_103 rfl 3 (by decide) (hts (.fieldLink RX8 26 "HoneyHouse" "rules" "[LHoneyHouse$Rule;") (List.mem_of_getElem? (i := 5) rfl)) (fun _ h9 => h9) rfl dX8_rule_41 ?_
    refine lv_aload_n hx hb dX8_rule_44 rfl (lv_at hl 1 rfl) ?_
    refine va_get (D := D) (ci := 8) (v := .int (nI rc)) (C := RX8) (T := TX8) (N := 15) hx hb hts hin8 hown hK hP k0 e_103 rfl 12 (by decide) (hts (.fieldLink RX8 196 "HoneyHouse" "ruleCount" "I") (List.mem_of_getElem? (i := 4) rfl)) (fun _ h9 => h9) rfl dX8_rule_45 ?_
    refine va_new (ci := 3) (fs := [.long 0, .int 0, .null, .int 0, .int 0]) (C := RX3) (T := TX3) (N := 5) hx hb hts hin3 tyX3 tyX3_ok hown (hts (.classLink RX8 24 RX3) (List.mem_of_getElem? (i := 6) rfl)) (hts (.instantiable RX3 5) (List.mem_of_getElem? (i := 7) rfl)) (hts (.initialized RX3) (List.mem_of_getElem? (i := 8) rfl)) hK hP hD hS hA rfl (fun j hj => by rcases (show j = 0 ∨ j = 1 ∨ j = 2 ∨ j = 3 ∨ j = 4 by omega) with rfl | rfl | rfl | rfl | rfl <;> rfl) (Nat.le_of_ble_eq_true rfl) (Nat.le_of_ble_eq_true rfl) dX8_rule_48 (fun q_112 H hP hD hS => ?_)
    have le_113 := hsm.len
    have hP : va_P D vwCl (ws_100 ++ [(q_112, .inr (3, [.long 0, .int 0, .null, .int 0, .int 0]))]) H := hP
    have hD : va_D A (ws_100 ++ [(q_112, .inr (3, [.long 0, .int 0, .null, .int 0, .int 0]))]) := hD
    have hm_115 : sm ρ [] ws_100 (ws_100 ++ [(q_112, .inr (3, [.long 0, .int 0, .null, .int 0, .int 0]))]) := sm.app _ _ _ _
    have e_116 : (ws_100 ++ [(q_112, .inr (3, [.long 0, .int 0, .null, .int 0, .int 0]))])[ws_100.length]? = some (q_112, .inr (3, [.long 0, .int 0, .null, .int 0, .int 0])) := ap_new _ _
    have hm_117 : sm (fun _ => 1) [] ws_100 (ws_100 ++ [(q_112, .inr (3, [.long 0, .int 0, .null, .int 0, .int 0]))]) := sm.app _ _ _ _
    generalize ws_100 ++ [(q_112, .inr (3, [.long 0, .int 0, .null, .int 0, .int 0]))] = ws_114 at hP hD hm_115 hm_117 e_116
    have e_118 := hm_117.keep Nat.one_ne_zero e_103
    have e_119 := hm_117.keep Nat.one_ne_zero e_104
    have e_120 := hm_117.keep Nat.one_ne_zero e_105
    have e_121 := hm_117.keep Nat.one_ne_zero e_102
    have e_122 := hm_117.keep Nat.one_ne_zero e_106
    have e_123 := hm_117.keep Nat.one_ne_zero e_108
    have hsm := hsm.tr (hm_115.mono (fun _ h9 => absurd h9 List.not_mem_nil))
    refine W.widen (k := 1) (n := 5) (by omega) (by omega) ?_
    refine lv_dup hx hb dX8_rule_51 rfl ?_
    refine lv_aload_n hx hb dX8_rule_52 rfl (lv_at hl 1 rfl) ?_
    refine va_get (D := D) (ci := 8) (v := .ref rd) (C := RX8) (T := TX8) (N := 15) hx hb hts hin8 hown hK hP k0 e_118 rfl 5 (by decide) (hts (.fieldLink RX8 40 "HoneyHouse" "reader" "LHoneyHouse$RuleReader;") (List.mem_of_getElem? (i := 1) rfl)) (fun _ h9 => h9) rfl dX8_rule_53 ?_
    refine va_get (D := D) (ci := 4) (v := .long nk_41) (C := RX4) (T := TX4) (N := 8) hx hb hts hin4 hown hK hP krd e_120 rfl 1 (by decide) (hts (.fieldLink RX8 199 "HoneyHouse$RuleReader" "nameKey" "J") (List.mem_of_getElem? (i := 9) rfl)) (fun _ h9 => h9) rfl dX8_rule_56 ?_
    refine lv_aload_n hx hb dX8_rule_59 rfl (lv_at hl 1 rfl) ?_
    refine va_get (D := D) (ci := 8) (v := .ref rd) (C := RX8) (T := TX8) (N := 15) hx hb hts hin8 hown hK hP k0 e_118 rfl 5 (by decide) (hts (.fieldLink RX8 40 "HoneyHouse" "reader" "LHoneyHouse$RuleReader;") (List.mem_of_getElem? (i := 1) rfl)) (fun _ h9 => h9) rfl dX8_rule_60 ?_
    refine va_get (D := D) (ci := 4) (v := .int (nI fr_34)) (C := RX4) (T := TX4) (N := 8) hx hb hts hin4 hown hK hP krd e_120 rfl 2 (by decide) (hts (.fieldLink RX8 203 "HoneyHouse$RuleReader" "from" "I") (List.mem_of_getElem? (i := 10) rfl)) (fun _ h9 => h9) rfl dX8_rule_63 ?_
    refine lv_aload_n hx hb dX8_rule_66 rfl (lv_at hl 1 rfl) ?_
    refine va_get (D := D) (ci := 8) (v := .ref rd) (C := RX8) (T := TX8) (N := 15) hx hb hts hin8 hown hK hP k0 e_118 rfl 5 (by decide) (hts (.fieldLink RX8 40 "HoneyHouse" "reader" "LHoneyHouse$RuleReader;") (List.mem_of_getElem? (i := 1) rfl)) (fun _ h9 => h9) rfl dX8_rule_67 ?_
    have hln_124 := hsm.len
    have hlt_125 := (List.getElem?_eq_some_iff.mp e_116).1
    have hFc := free_all hD hS hA
    refine va_callr (va_runV (As := []) (rest := [.int (nI fr_34), .long nk_41, .ref q_112, .ref q_112, .int (nI rc), .ref ra]) ⟨hx, hb, hml, hown, hts⟩ (k_codeRead l D ρ ws_114 ty_4 rd krd tp cd T_35.length nk_41 (nI fr_34) 0 (-1) vl_43 kc_78 cc_79 tc_80 f_107 H.size (by omega) e_120 e_122 uc_93 (fun k9 h9 => hle0 k9 (Nat.le_trans hsm.len h9))) (cwV 0 hts gX8_rule_X4_codeRead rfl rfl rfl (by decide +kernel) ⟨Nat.le_of_ble_eq_true rfl, Nat.le_of_ble_eq_true rfl⟩) ⟨fun a U g mk q => by obtain ⟨q0, q1, qP, qK, qD, qZ⟩ := q; exact ⟨q0, q1, qP, va_K.moved (u := U) (U := U.calling g mk a) (Vm.Alike.refl U.vm) qK, qD, va_Nw.same rfl rfl qZ⟩, va_recv hK hP (ci := 4) (q0 := krd) rfl e_120, fun U hU hW => ⟨rfl, by rw [hU], by rw [hU]; exact hP, va_K.moved hW.alike hK, hD.weaken (fun _ _ _ _ => trivial), va_Nw.warmC hW hcz⟩⟩ rfl rfl hl.1 rfl (lv_room (Nat.le_of_ble_eq_true rfl)) dX8_rule_70 ⟨Nat.le_of_ble_eq_true rfl, Nat.le_of_ble_eq_true rfl⟩) hS (fun q _ h => hFc q h) hFc (fun u q_126 t H1 locs ht hvm w_127 hB hz1 hk1 hS => ?_)
    obtain ⟨ws_128, ty_129, hm_130, ht_132, hP1, hK1, hD1, hx_131⟩ := hB
    rw [ht] at hP1
    have hK := va_K.moved hvm.symm hK1
    have hD := hD1.weaken (fun _ _ _ h => hFc _ h)
    generalize H1 = H at hP1 hS ⊢
    have hP := hP1
    have e_133 := hm_130.objK e_118 (by decide)
    have e_134 := hm_130.arrQ e_119
    have u_135 := ht_132 _ _ u_10
    have e_136 := hm_130.objK e_120 (by decide)
    have e_137 := hm_130.objK e_121 (by decide)
    obtain ⟨f_139, e_138⟩ := hm_130.arrI e_122
    have u_140 := ht_132 _ _ uc_93
    have e_141 := hm_130.keep (by rw [wb_98]; omega) e_123
    have u_142 := ht_132 _ _ ub_97
    have e_143 := hm_130.objK e_116 (by decide)
    have hsm := hsm.tr (hm_130.mono (by decide))
    have htx := htx.tr ht_132
    refine W.widen (k := 2) (n := 205) (by omega) (by omega) ?_
    obtain ⟨n_152, hn_153, k_144, c9_145, t_146, f_147, e_148, u_149, w_150, le_151⟩ := hx_131
    have le_151q := Nat.le_trans hln_124 le_151
    have hFc := free_all hD hS hA
    refine va_callv (va_runI (As := [.long nk_41, .int (nI fr_34), .ref q_126]) (rest := [.ref q_112, .int (nI rc), .ref ra]) ⟨hx, hb, hml, hown, hts⟩ (c_X3_init l D ρ ws_128 ty_129 q_112 ws_100.length nk_41 (nI fr_34) q_126 k_144 n_152 c9_145 t_146 f_147 H.size e_143 hn_153 e_148 u_149) (cwI 3 hts gX8_rule_X3_init rfl rfl rfl (hts (.initialized RX3) (List.mem_of_getElem? (i := 8) rfl)) (hts (.methodLink RX8 210 yX3_init) (List.mem_of_getElem? (i := 193) rfl)) (hts (.instanceMethod yX3_init) (List.mem_of_getElem? (i := 194) rfl)) rfl (by decide +kernel) ⟨Nat.le_of_ble_eq_true rfl, Nat.le_of_ble_eq_true rfl⟩) ⟨fun a U g mk q => by obtain ⟨q0, q1, qP, qK, qD⟩ := q; exact ⟨q0, q1, qP, va_K.moved (u := U) (U := U.calling g mk a) (Vm.Alike.refl U.vm) qK, qD⟩, fun U hU hW => ⟨rfl, by rw [hU], by rw [hU]; exact hP, va_K.moved hW.alike hK, hD.weaken (fun _ _ _ _ => trivial)⟩⟩ rfl rfl hl.1 rfl (lv_room (Nat.le_of_ble_eq_true rfl)) dX8_rule_73 ⟨Nat.le_of_ble_eq_true rfl, Nat.le_of_ble_eq_true rfl⟩) hS (fun q _ h => hFc q h) hFc (fun u t H1 locs ht hvm w_154 hB hz1 hk1 hS => ?_)
    obtain ⟨ws_155, ty_156, hm_157, ht_159, hP1, hK1, hD1, hx_158⟩ := hB
    rw [ht] at hP1
    have hK := va_K.moved hvm.symm hK1
    have hD := hD1.weaken (fun _ _ _ h => hFc _ h)
    generalize H1 = H at hP1 hS ⊢
    have hP := hP1
    have e_160 := hm_157.objK (pl_ne e_133 e_143 (by intro h9; simp at h9)) e_133 (by decide)
    have e_161 := hm_157.arrQ (pl_ne e_134 e_143 (by intro h9; simp at h9)) e_134
    have u_162 := ht_159 _ _ u_135
    have e_163 := hm_157.objK (pl_ne e_136 e_143 (by intro h9; simp at h9)) e_136 (by decide)
    have e_164 := hm_157.objK (pl_ne e_137 e_143 (by intro h9; simp at h9)) e_137 (by decide)
    obtain ⟨f_166, e_165⟩ := hm_157.arrI (pl_ne e_138 e_143 (by intro h9; simp at h9)) e_138
    have u_167 := ht_159 _ _ u_140
    have e_168 := hm_157.keep (pl_ne e_141 e_143 (by intro h9; simp at h9)) (by rw [wb_98]; omega) e_141
    have u_169 := ht_159 _ _ u_142
    obtain ⟨f_171, e_170⟩ := hm_157.arrI (pl_ne e_148 e_143 (by intro h9; simp at h9)) e_148
    have u_172 := ht_159 _ _ u_149
    have lt_173 := (List.getElem?_eq_some_iff.mp e_143).1
    have le_174 := hsm.len
    have hsm := hsm.trk (hm_157.mono (fun _ h9 => absurd h9 List.not_mem_nil)) le_113
    have htx := htx.tr ht_159
    obtain ⟨eo_175, ec_176, uc_177⟩ := hx_158
    refine va_astq (f := fra) (n := 16) (r := (RX3, TX3, 5)) hx hb hK hP hD hS kra tra ws_100.length 3 e_161 u_162 eo_175 rfl (vp_in_nI (n := rc) (by omega) (by omega)) dX8_rule_76 (fun H locs hP hD hS => ?_)
    have hP : va_P D vwCl (ws_155.set kra (ra, .inl (cra, 16, .inr (.inr (.inr (.inr (va_up fra (nI rc).toNatClampNeg (some q_112)))))))) H := hP
    have hD : va_D A (ws_155.set kra (ra, .inl (cra, 16, .inr (.inr (.inr (.inr (va_up fra (nI rc).toNatClampNeg (some q_112)))))))) := hD
    have e_178 := set_o (z := (ra, .inl (cra, 16, .inr (.inr (.inr (.inr (va_up fra (nI rc).toNatClampNeg (some q_112)))))))) e_160 e_161 (by intro h9; simp at h9)
    have hsm0 := hsm
    obtain ⟨ws_179, hw2⟩ : ∃ w9 : va_W, w9 = ws_155.set kra (ra, .inl (cra, 16, .inr (.inr (.inr (.inr (va_up fra (nI rc).toNatClampNeg (some q_112))))))) := ⟨_, rfl⟩
    rw [← hw2] at hP hD e_178
    have hs2 : sm (rz [k0]) [8] ws_179 ws_179 := sm.rf _
    refine lv_aload_n hx hb dX8_rule_77 rfl (lv_at hl 1 rfl) ?_
    refine lv_dup hx hb dX8_rule_78 rfl ?_
    refine va_get (D := D) (ci := 8) (v := .int (nI rc)) (C := RX8) (T := TX8) (N := 15) hx hb hts hin8 hown hK hP k0 e_178 rfl 12 (by decide) (hts (.fieldLink RX8 196 "HoneyHouse" "ruleCount" "I") (List.mem_of_getElem? (i := 4) rfl)) (fun _ h9 => h9) rfl dX8_rule_79 ?_
    refine lv_iconst (v := 1) hx hb dX8_rule_82 (by decide) ?_
    refine lv_iadd hx hb dX8_rule_83 ?_
    refine tp_i (y := nI (rc + 1)) (nI_add rc 1) ?_
    refine va_put (D := D) (ci := 8) (v := .int (nI (rc + 1))) (ty := .int) (C := RX8) (T := TX8) (N := 15) hx hb hts hin8 tyX8 tyX8_ok nmX8 hown hK hP hD hS k0 e_178 rfl 12 (by decide) (hts (.fieldLink RX8 196 "HoneyHouse" "ruleCount" "I") (List.mem_of_getElem? (i := 4) rfl)) (fun _ h9 => h9) rfl (tyX8_ok 12 (by decide)) rfl rfl (Nat.le_of_ble_eq_true rfl) dX8_rule_84 (fun H locs hP hD hS => ?_)
    have hP : va_P D vwCl (ws_179.set k0 (h0, .inr (8, [.ref la, .ref ta, .ref ba, .ref ra, .ref sn, .ref rd, .ref dr, .ref bl, .ref vd, .ref fb, .int (nI lc), .int (nI bc), .int (nI (rc + 1)), .int (nI fc), .int dn]))) H := hP
    have hD : va_D A (ws_179.set k0 (h0, .inr (8, [.ref la, .ref ta, .ref ba, .ref ra, .ref sn, .ref rd, .ref dr, .ref bl, .ref vd, .ref fb, .int (nI lc), .int (nI bc), .int (nI (rc + 1)), .int (nI fc), .int dn]))) := hD
    have hm_181 : sm (rz [k0]) [8] ws_179 (ws_179.set k0 (h0, .inr (8, [.ref la, .ref ta, .ref ba, .ref ra, .ref sn, .ref rd, .ref dr, .ref bl, .ref vd, .ref fb, .int (nI lc), .int (nI bc), .int (nI (rc + 1)), .int (nI fc), .int dn]))) := sm.flds e_178 (smF.c (smV.rf _) (smF.c (smV.rf _) (smF.c (smV.rf _) (smF.c (smV.rf _) (smF.c (smV.rf _) (smF.c (smV.rf _) (smF.c (smV.rf _) (smF.c (smV.rf _) (smF.c (smV.rf _) (smF.c (smV.rf _) (smF.c (smV.rf _) (smF.c (smV.rf _) (smF.c (smV.i _ _) (smF.c (smV.rf _) (smF.c (smV.rf _) (rfl)))))))))))))))) (List.mem_singleton.mpr rfl) (rz_in (by simp))
    have e_182 : (ws_179.set k0 (h0, .inr (8, [.ref la, .ref ta, .ref ba, .ref ra, .ref sn, .ref rd, .ref dr, .ref bl, .ref vd, .ref fb, .int (nI lc), .int (nI bc), .int (nI (rc + 1)), .int (nI fc), .int dn])))[k0]? = some (h0, .inr (8, [.ref la, .ref ta, .ref ba, .ref ra, .ref sn, .ref rd, .ref dr, .ref bl, .ref vd, .ref fb, .int (nI lc), .int (nI bc), .int (nI (rc + 1)), .int (nI fc), .int dn])) := wset_self e_178
    generalize ws_179.set k0 (h0, .inr (8, [.ref la, .ref ta, .ref ba, .ref ra, .ref sn, .ref rd, .ref dr, .ref bl, .ref vd, .ref fb, .int (nI lc), .int (nI bc), .int (nI (rc + 1)), .int (nI fc), .int dn])) = ws_180 at hP hD hm_181 e_182
    have hs2 := hs2.tr (hm_181.mono (by decide))
    refine lv_aload_n hx hb dX8_rule_87 rfl (lv_at hl 1 rfl) ?_
    refine va_get (D := D) (ci := 8) (v := .int (nI (rc + 1))) (C := RX8) (T := TX8) (N := 15) hx hb hts hin8 hown hK hP k0 e_182 rfl 12 (by decide) (hts (.fieldLink RX8 196 "HoneyHouse" "ruleCount" "I") (List.mem_of_getElem? (i := 4) rfl)) (fun _ h9 => h9) rfl dX8_rule_88 ?_
    refine lv_iconst (v := 1) hx hb dX8_rule_91 (by decide) ?_
    refine lv_isub hx hb dX8_rule_92 ?_
    refine tp_i (y := nI ((rc + 1) - 1)) (pk_sub (a := rc + 1) (b := 1) (by omega)) ?_
    refine W.widen (k := 3) (n := 210) (by omega) (by omega) ?_
    exact W.iret (v := nI ((rc + 1) - 1)) hx hb hr (fun t ht hW => ⟨⟨nI ((rc + 1) - 1), nI ((rc + 1) - 1), rfl, rfl, ws_180, ty_156, by rw [ht]; exact hP, va_K.moved hW.alike hK, hD, ⟨0, p_33, fr_34, T_35, by rw [← hf9]; exact hrd_36, by omega, Or.inr (Or.inr ⟨rfl, by omega, by rw [show rc + 1 - 1 = rc by omega], xi_rule hk0 w0 hle0 hnum (by omega) qla qta qba qsn qdr qbl qvd qfb e_161 u_162 hra0 hra1 hsm0 htx eo_175 ec_176 uc_177 hn_153 hfr9 (by omega) (by omega) e_163 lrd wrd e_165 u_167 hlc9 wc_94 e_164 ltp wtp e_168 u_169 hlb9 wb_98 hw2 hs2 e_182⟩)⟩⟩, hS.F ht⟩) hS.2.2 dX8_rule_93
  have d_183 := n_nlt (a := rc) (b := 16) (by omega) (by omega) c_110
  refine lv_bipush (v := (-2)) hx hb dX8_rule_37 (by decide) ?_
  refine W.widen (k := 3) (n := 210) (by omega) (by omega) ?_
  exact W.iret (v := (-2)) hx hb hr (fun t ht hW => ⟨⟨(-2), (-2), rfl, rfl, ws_100, ty_4, by rw [ht]; exact hP, va_K.moved hW.alike hK, hD, ⟨0, p_33, fr_34, T_35, by rw [← hf9]; exact hrd_36, by omega, Or.inr (Or.inl ⟨rfl, by omega, rfl, fun fv2 R e21 e22 => xi_rd e_103 w0 hle0 hnum qla qta qba qra qsn qdr qbl qvd qfb hsm htx R (⟨krd, tp, cd, ktp, bb, nk_41, (nI fr_34), (nI T_35.length), vl_43, (nI (kdF f9 tl ts_39)), (nI ts_39), (nI (teF f9 tl ts_39)), by rw [e21, e22]; exact e_105, wr_90, ⟨kc_78, cc_79, tc_80, f_107, e_106, uc_93, wc_94⟩, e_102, wt_91, ⟨kb_82, cb_83, tb_84, fb_85, e_108, ub_97, wb_98, fun i hi => absurd hi (Nat.not_lt_zero _)⟩⟩ : oW ρ fv2 ws_100 ty_4 rd 0)⟩)⟩⟩, hS.F ht⟩) hS.2.2 dX8_rule_39
