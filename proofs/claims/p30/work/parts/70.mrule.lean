theorem dX9_reads_0 : decode cX9_reads 0 = .ok (.aload_n 0, 1) := by decide +kernel
theorem dX9_reads_1 : decode cX9_reads 1 = .ok (.iconst 0, 1) := by decide +kernel
theorem dX9_reads_2 : decode cX9_reads 2 = .ok (.putfield 87, 3) := by decide +kernel
theorem dX9_reads_5 : decode cX9_reads 5 = .ok (.aload_n 0, 1) := by decide +kernel
theorem dX9_reads_6 : decode cX9_reads 6 = .ok (.invokevirtual 268, 3) := by decide +kernel
theorem dX9_reads_9 : decode cX9_reads 9 = .ok (.aload_n 0, 1) := by decide +kernel
theorem dX9_reads_10 : decode cX9_reads 10 = .ok (.getfield 74, 3) := by decide +kernel
theorem dX9_reads_13 : decode cX9_reads 13 = .ok (.ifCond .ne 9, 3) := by decide +kernel
theorem dX9_reads_16 : decode cX9_reads 16 = .ok (.aload_n 0, 1) := by decide +kernel
theorem dX9_reads_17 : decode cX9_reads 17 = .ok (.bipush 58, 2) := by decide +kernel
theorem dX9_reads_19 : decode cX9_reads 19 = .ok (.invokevirtual 271, 3) := by decide +kernel
theorem dX9_reads_22 : decode cX9_reads 22 = .ok (.aload_n 0, 1) := by decide +kernel
theorem dX9_reads_23 : decode cX9_reads 23 = .ok (.getfield 74, 3) := by decide +kernel
theorem dX9_reads_26 : decode cX9_reads 26 = .ok (.ifCond .ne 7, 3) := by decide +kernel
theorem dX9_reads_29 : decode cX9_reads 29 = .ok (.aload_n 0, 1) := by decide +kernel
theorem dX9_reads_30 : decode cX9_reads 30 = .ok (.invokevirtual 274, 3) := by decide +kernel
theorem dX9_reads_33 : decode cX9_reads 33 = .ok (.aload_n 0, 1) := by decide +kernel
theorem dX9_reads_34 : decode cX9_reads 34 = .ok (.getfield 74, 3) := by decide +kernel
theorem dX9_reads_37 : decode cX9_reads 37 = .ok (.ifCond .le 4, 3) := by decide +kernel
theorem dX9_reads_40 : decode cX9_reads 40 = .ok (.return_, 1) := by decide +kernel
theorem dX9_reads_41 : decode cX9_reads 41 = .ok (.aload_n 0, 1) := by decide +kernel
theorem dX9_reads_42 : decode cX9_reads 42 = .ok (.invokevirtual 238, 3) := by decide +kernel
theorem dX9_reads_45 : decode cX9_reads 45 = .ok (.ifCond .eq 13, 3) := by decide +kernel
theorem dX9_reads_48 : decode cX9_reads 48 = .ok (.aload_n 0, 1) := by decide +kernel
theorem dX9_reads_49 : decode cX9_reads 49 = .ok (.iconst 1, 1) := by decide +kernel
theorem dX9_reads_50 : decode cX9_reads 50 = .ok (.aload_n 0, 1) := by decide +kernel
theorem dX9_reads_51 : decode cX9_reads 51 = .ok (.getfield 87, 3) := by decide +kernel
theorem dX9_reads_54 : decode cX9_reads 54 = .ok (.invokevirtual 195, 3) := by decide +kernel
theorem dX9_reads_57 : decode cX9_reads 57 = .ok (.return_, 1) := by decide +kernel
theorem dX9_reads_58 : decode cX9_reads 58 = .ok (.aload_n 0, 1) := by decide +kernel
theorem dX9_reads_59 : decode cX9_reads 59 = .ok (.aload_n 0, 1) := by decide +kernel
theorem dX9_reads_60 : decode cX9_reads 60 = .ok (.invokevirtual 229, 3) := by decide +kernel
theorem dX9_reads_63 : decode cX9_reads 63 = .ok (.putfield 87, 3) := by decide +kernel
theorem dX9_reads_66 : decode cX9_reads 66 = .ok (.aload_n 0, 1) := by decide +kernel
theorem dX9_reads_67 : decode cX9_reads 67 = .ok (.getfield 62, 3) := by decide +kernel
theorem dX9_reads_70 : decode cX9_reads 70 = .ok (.aload_n 0, 1) := by decide +kernel
theorem dX9_reads_71 : decode cX9_reads 71 = .ok (.getfield 53, 3) := by decide +kernel
theorem dX9_reads_74 : decode cX9_reads 74 = .ok (.aload_n 0, 1) := by decide +kernel
theorem dX9_reads_75 : decode cX9_reads 75 = .ok (.sipush 30000, 3) := by decide +kernel
theorem dX9_reads_78 : decode cX9_reads 78 = .ok (.invokevirtual 241, 3) := by decide +kernel
theorem dX9_reads_81 : decode cX9_reads 81 = .ok (.iastore, 1) := by decide +kernel
theorem dX9_reads_82 : decode cX9_reads 82 = .ok (.aload_n 0, 1) := by decide +kernel
theorem dX9_reads_83 : decode cX9_reads 83 = .ok (.getfield 74, 3) := by decide +kernel
theorem dX9_reads_86 : decode cX9_reads 86 = .ok (.ifCond .ne 9, 3) := by decide +kernel
theorem dX9_reads_89 : decode cX9_reads 89 = .ok (.aload_n 0, 1) := by decide +kernel
theorem dX9_reads_90 : decode cX9_reads 90 = .ok (.bipush 59, 2) := by decide +kernel
theorem dX9_reads_92 : decode cX9_reads 92 = .ok (.invokevirtual 271, 3) := by decide +kernel
theorem dX9_reads_95 : decode cX9_reads 95 = .ok (.aload_n 0, 1) := by decide +kernel
theorem dX9_reads_96 : decode cX9_reads 96 = .ok (.getfield 74, 3) := by decide +kernel
theorem dX9_reads_99 : decode cX9_reads 99 = .ok (.ifCond .ne 20, 3) := by decide +kernel
theorem dX9_reads_102 : decode cX9_reads 102 = .ok (.aload_n 0, 1) := by decide +kernel
theorem dX9_reads_103 : decode cX9_reads 103 = .ok (.invokevirtual 191, 3) := by decide +kernel
theorem dX9_reads_106 : decode cX9_reads 106 = .ok (.iconst (-1), 1) := by decide +kernel
theorem dX9_reads_107 : decode cX9_reads 107 = .ok (.if_icmp .eq 12, 3) := by decide +kernel
theorem dX9_reads_110 : decode cX9_reads 110 = .ok (.aload_n 0, 1) := by decide +kernel
theorem dX9_reads_111 : decode cX9_reads 111 = .ok (.iconst 1, 1) := by decide +kernel
theorem dX9_reads_112 : decode cX9_reads 112 = .ok (.aload_n 0, 1) := by decide +kernel
theorem dX9_reads_113 : decode cX9_reads 113 = .ok (.getfield 87, 3) := by decide +kernel
theorem dX9_reads_116 : decode cX9_reads 116 = .ok (.invokevirtual 195, 3) := by decide +kernel
theorem dX9_reads_119 : decode cX9_reads 119 = .ok (.return_, 1) := by decide +kernel
set_option maxRecDepth 20000 in
theorem ggX9_reads_X9_name : GoodIn wsX9_reads wsX9_name := goodIn_r _ [9, 1, 2, 10, 4, 11, 12, 13, 14, 15, 8, 16, 17, 18, 19, 20, 21, 22, 23, 24, 25, 26, 27, 28, 29, 30, 31, 32, 33, 34, 35, 36, 37, 38, 39, 40, 41, 42, 43, 44, 45, 46, 47, 48, 49, 98, 99, 100, 101, 102, 103, 104, 105, 106, 107, 108, 109, 110, 111, 112, 113, 114, 115, 116, 117, 118, 119, 120, 121, 122, 123, 124, 125, 126, 127, 128, 129, 130, 131, 132, 133, 134, 135, 136, 137, 138, 139, 140, 141] rfl (by decide +kernel)
set_option maxRecDepth 20000 in
theorem gX9_reads_X9_name : GoodIn wsX9_reads (wsV RX9 268 RX9 yX9_name wsX9_name) := goodIn_app (goodIn_of _ (by decide +kernel)) ggX9_reads_X9_name
set_option maxRecDepth 20000 in
theorem ggX9_reads_X9_peek : GoodIn wsX9_reads wsX9_peek := goodIn_r _ [65, 13, 14, 15, 8, 16, 1, 17, 12, 18, 19, 20, 26, 27, 28, 29, 30, 31, 32, 33, 34, 35, 36, 37, 38, 39, 40, 41, 42, 43, 44, 45, 46, 47, 48, 49, 98, 99, 100, 101, 102, 103, 104, 105, 106, 107, 108, 109, 110, 111, 112, 113, 114, 115, 116, 117, 118, 119, 120, 121, 122, 123, 124, 125, 126, 127, 128, 129, 130, 131, 132, 133, 134, 135, 136, 137, 138, 139, 140, 141] rfl (by decide +kernel)
set_option maxRecDepth 20000 in
theorem gX9_reads_X9_peek : GoodIn wsX9_reads (wsV RX9 238 RX9 yX9_peek wsX9_peek) := goodIn_app (goodIn_of _ (by decide +kernel)) ggX9_reads_X9_peek
set_option maxRecDepth 20000 in
theorem ggX9_reads_X9_blame : GoodIn wsX9_reads wsX9_blame := goodIn_r _ [24, 2, 25, 98, 99, 100, 101, 102, 103, 104, 105, 106, 107, 108, 109, 110, 111, 112, 113, 114, 115, 116, 117, 118, 119, 120, 121, 122, 123, 124, 125, 126, 127, 128, 129, 130, 131, 132, 133, 134, 135, 136, 137, 138, 139, 140, 141] rfl (by decide +kernel)
set_option maxRecDepth 20000 in
theorem gX9_reads_X9_blame : GoodIn wsX9_reads (wsV RX9 195 RX9 yX9_blame wsX9_blame) := goodIn_app (goodIn_of _ (by decide +kernel)) ggX9_reads_X9_blame
set_option maxRecDepth 20000 in
theorem ggX9_reads_X9_wordEnd : GoodIn wsX9_reads wsX9_wordEnd := goodIn_r _ [29, 1, 17, 12, 18, 19, 8, 20, 98, 99, 100, 101, 102, 103, 104, 105, 106, 107, 108, 109, 110, 111, 112, 113, 114, 115, 116, 117, 118, 119, 120, 121, 122, 123, 124, 125, 126, 127, 128, 129, 130, 131, 132, 133, 134, 135, 136, 137, 138, 139, 140, 141] rfl (by decide +kernel)
set_option maxRecDepth 20000 in
theorem gX9_reads_X9_wordEnd : GoodIn wsX9_reads (wsV RX9 229 RX9 yX9_wordEnd wsX9_wordEnd) := goodIn_app (goodIn_of _ (by decide +kernel)) ggX9_reads_X9_wordEnd
set_option maxRecDepth 20000 in
theorem ggX9_reads_X9_number : GoodIn wsX9_reads wsX9_number := goodIn_r _ [77, 1, 17, 12, 2, 13, 14, 15, 8, 16, 78, 79, 80, 21, 22, 23, 24, 25, 98, 99, 100, 101, 102, 103, 104, 105, 106, 107, 108, 109, 110, 111, 112, 113, 114, 115, 116, 117, 118, 119, 120, 121, 122, 123, 124, 125, 126, 127, 128, 129, 130, 131, 132, 133, 134, 135, 136, 137, 138, 139, 140, 141] rfl (by decide +kernel)
set_option maxRecDepth 20000 in
theorem gX9_reads_X9_number : GoodIn wsX9_reads (wsV RX9 241 RX9 yX9_number wsX9_number) := goodIn_app (goodIn_of _ (by decide +kernel)) ggX9_reads_X9_number
set_option maxRecDepth 20000 in
theorem ggX9_reads_X9_must : GoodIn wsX9_reads wsX9_must := goodIn_r _ [53, 1, 13, 14, 15, 8, 16, 17, 12, 21, 22, 23, 24, 2, 25, 98, 99, 100, 101, 102, 103, 104, 105, 106, 107, 108, 109, 110, 111, 112, 113, 114, 115, 116, 117, 118, 119, 120, 121, 122, 123, 124, 125, 126, 127, 128, 129, 130, 131, 132, 133, 134, 135, 136, 137, 138, 139, 140, 141] rfl (by decide +kernel)
set_option maxRecDepth 20000 in
theorem gX9_reads_X9_must : GoodIn wsX9_reads (wsV RX9 271 RX9 yX9_must wsX9_must) := goodIn_app (goodIn_of _ (by decide +kernel)) ggX9_reads_X9_must
set_option maxRecDepth 20000 in
theorem ggX9_reads_X9_here : GoodIn wsX9_reads wsX9_here := goodIn_r _ [16, 1, 17, 12, 98, 99, 100, 101, 102, 103, 104, 105, 106, 107, 108, 109, 110, 111, 112, 113, 114, 115, 116, 117, 118, 119, 120, 121, 122, 123, 124, 125, 126, 127, 128, 129, 130, 131, 132, 133, 134, 135, 136, 137, 138, 139, 140, 141] rfl (by decide +kernel)
set_option maxRecDepth 20000 in
theorem gX9_reads_X9_here : GoodIn wsX9_reads (wsV RX9 191 RX9 yX9_here wsX9_here) := goodIn_app (goodIn_of _ (by decide +kernel)) ggX9_reads_X9_here
set_option maxRecDepth 20000 in
theorem ggX9_reads_X9_either : GoodIn wsX9_reads wsX9_either := goodIn_r _ [57, 58, 59, 60, 2, 61, 1, 13, 14, 15, 8, 16, 17, 12, 62, 63, 64, 65, 18, 19, 20, 26, 27, 28, 29, 30, 31, 32, 33, 34, 35, 36, 37, 38, 39, 40, 41, 42, 43, 44, 45, 46, 47, 48, 49, 66, 67, 68, 69, 21, 22, 23, 24, 25, 70, 71, 72, 73, 74, 75, 76, 77, 78, 79, 80, 81, 82, 83, 84, 85, 4, 86, 87, 88, 89, 90, 91, 92, 93, 94, 95, 96, 97, 98, 99, 100, 101, 102, 103, 104, 105, 106, 107, 108, 109, 110, 111, 112, 113, 114, 115, 116, 117, 118, 119, 120, 121, 122, 123, 124, 125, 126, 127, 128, 129, 130, 131, 132, 133, 134, 135, 136, 137, 138, 139, 140, 141] rfl (by decide +kernel)
set_option maxRecDepth 20000 in
theorem gX9_reads_X9_either : GoodIn wsX9_reads (wsV RX9 274 RX9 yX9_either wsX9_either) := goodIn_app (goodIn_of _ (by decide +kernel)) ggX9_reads_X9_either
set_option maxHeartbeats 4000000 in
set_option maxRecDepth 100000 in
theorem m_reads (l : Launch) (D : va_G) (h0 : Nat) (ad : Nat → Nat) (cs : Nat → ClassId) (iv : Nat → Int32) (fv : Nat → Nat → Int32) (gv : Nat → Int64) (n14 n21 n26 : Nat)  (sz : Nat) (h14 : iv 14 = nI n14) (h21 : iv 21 = nI n21) (h26 : iv 26 = nI n26) (b15 : n14 ≤ 15) (z21 : n21 = 0) (b26 : n26 ≤ 400) : Met l yX9_reads wsX9_reads ({ frames := 5, cells := 0, slots := 0, locals := 115 }) (va_Pc [.ref h0] (fun U => U.heap.size = sz ∧ va_P D vwCl (mw h0 ad cs iv fv gv) U.heap ∧ va_K D vwCl (mT cs) U ∧ va_D (fun _ => True) (mw h0 ad cs iv fv gv))) (va_Qv (fun _ : Unit => True) (fun (_ : Unit) (t : State) => ∃ (k21 : Nat) (p22 : Int32) (p25 : Int32) (p29 : Int32) (p30 : Int32) (p31 : Int32) (f15 : Nat → Int32) (f16 : Nat → Int32) (f17 : Nat → Int32) (f19 : Nat → Int32) (f28 : Nat → Int32), (k21 ≤ 3) ∧ (∀ i : Nat, i < 200 * n14 → f19 i = fv 19 i) ∧ (∀ i : Nat, ¬ i = n14 → f16 i = fv 16 i) ∧ (1 ≤ k21 ∨ ((∃ k : Nat, k ≤ 12 ∧ f16 n14 = nI k) ∧ ∃ m n : Nat, p30 = nI m ∧ m ≤ 200 ∧ wfs f19 (200 * n14) m n)) ∧ va_P D vwCl (mw h0 ad cs (upd (upd (upd (upd (upd (upd iv 21 (nI k21)) 22 p22) 25 p25) 29 p29) 30 p30) 31 p31) (uF (uF (uF (uF (uF fv 15 f15) 16 f16) 17 f17) 19 f19) 28 f28) gv) t.heap ∧ va_K D vwCl (mT cs) t ∧ va_D (va_A (mw h0 ad cs iv fv gv) sz) (mw h0 ad cs (upd (upd (upd (upd (upd (upd iv 21 (nI k21)) 22 p22) 25 p25) 29 p29) 30 p30) 31 p31) (uF (uF (uF (uF (uF fv 15 f15) 16 f16) 17 f17) 19 f19) 28 f28) gv)) (va_A (mw h0 ad cs iv fv gv) sz)) 0 0 (va_A (mw h0 ad cs iv fv gv) sz) := by
  refine Met.ofW (cc := cX9_reads) (maxL := 1) (ret := none) (by decide) rfl ?_
  intro p e s m args below meth c s₁ B hml hv
  obtain ⟨rfl, hsz, hP, hK, hD0⟩ := hv
  have hx := B.exec
  have hb := B.bytes
  have hr := B.returns
  have hts := atoms_spec (ws := wsX9_reads) B.pre
  have hown : s.vm.findClass RX9 = some m.cls := findClass_of_methodNamed B.named
  have hlocks := B.notSynchronized
  subst hsz
  have hD := hD0.self (sz := s.heap.size)
  generalize hAe : va_A (mw h0 ad cs iv fv gv) s.heap.size = A at hD ⊢
  have hA : ∀ q : Nat, s.heap.size ≤ q → A q := fun q h => by rw [← hAe]; exact Or.inr h
  have hS : va_S A s.heap s.heap [] := va_S.rf
  have hin9 : ∀ w ∈ u_ws RX9 TX9 44, w ∈ wsX9_reads := (fun _ h9 => List.mem_cons_of_mem _ ((List.mem_append_right _ h9)))
  have hl := lv_entry ([.ref h0]) (n := 1) (Nat.le_of_ble_eq_true rfl)
  rw [lg_entry_eq]
  generalize (lg_sl ([.ref h0]) ++ List.replicate (1 - (lg_sl ([.ref h0])).length) Slot.unset).toArray = ls at hl ⊢
  have hl : lv_has ls 1 [(0, .ref h0)] := hl
  refine lv_aload_n hx hb dX9_reads_0 rfl (lv_at hl 0 rfl) ?_
  refine lv_iconst (v := 0) hx hb dX9_reads_1 (by decide) ?_
  refine va_put (D := D) (ci := 9) (v := .int 0) (ty := .int) (C := RX9) (T := TX9) (N := 44) hx hb hts hin9 tyX9 tyX9_ok nmX9 hown hK hP hD hS 0 rfl rfl 25 (by decide) (hts (.fieldLink RX9 87 "HoneyHouseModel" "at" "I") (List.mem_of_getElem? (i := 1) rfl)) (fun _ h9 => h9) rfl (tyX9_ok 25 (by decide)) rfl rfl (Nat.le_of_ble_eq_true rfl) dX9_reads_2 (fun H locs hP hD hS => ?_)
  have hP : va_P D vwCl (mw h0 ad cs (upd iv 25 0) fv gv) H := hP
  have hD : va_D A (mw h0 ad cs (upd iv 25 0) fv gv) := hD
  refine lv_aload_n hx hb dX9_reads_5 rfl (lv_at hl 0 rfl) ?_
  have hFc := free_all hD hS hA
  refine va_callv (va_runV (As := []) (rest := []) ⟨hx, hb, hml, hown, hts⟩ (m_name l D h0 ad cs (upd iv 25 0) fv gv n14 n21 0 n26  H.size h14 h21 rfl h26 (by omega) (by omega) (by omega) (by omega)) (cwV 0 hts gX9_reads_X9_name rfl rfl rfl (by decide +kernel) ⟨Nat.le_of_ble_eq_true rfl, Nat.le_of_ble_eq_true rfl⟩) ⟨fun a U g mk q => by obtain ⟨q0, q1, qP, qK, qD⟩ := q; exact ⟨q0, q1, qP, va_K.moved (u := U) (U := U.calling g mk a) (Vm.Alike.refl U.vm) qK, qD⟩, va_recv hK hP (ci := 9) (q0 := 0) rfl rfl, fun U hU hW => ⟨rfl, by rw [hU], by rw [hU]; exact hP, va_K.moved hW.alike hK, hD.weaken (fun _ _ _ _ => trivial)⟩⟩ rfl rfl hl.1 rfl (lv_room (Nat.le_of_ble_eq_true rfl)) dX9_reads_6 ⟨Nat.le_of_ble_eq_true rfl, Nat.le_of_ble_eq_true rfl⟩) hS (fun q _ h => hFc q h) hFc (fun u t H1 locs ht hvm w_2 hB hz1 hk1 hS => ?_)
  obtain ⟨k21_3, p22_4, k25_5, f15_6, f16_7, q_8, q_9, q_10, q_11, q_12, hP1, hK1, hD1⟩ := hB
  replace q_11 : ∀ i : Nat, ¬ i = n14 → f16_7 i = (fv 16) i := q_11
  rw [ht] at hP1
  have hK := va_K.moved hvm.symm hK1
  generalize H1 = H at hP1 hS ⊢
  have hP : va_P D vwCl (mw h0 ad cs (upd (upd (upd iv 21 (nI k21_3)) 22 p22_4) 25 (nI k25_5)) (uF (uF fv 15 f15_6) 16 f16_7) gv) H := hP1
  have hD : va_D A (mw h0 ad cs (upd (upd (upd iv 21 (nI k21_3)) 22 p22_4) 25 (nI k25_5)) (uF (uF fv 15 f15_6) 16 f16_7) gv) := hD1.weaken (fun _ _ _ h => hFc _ h)
  refine lv_aload_n hx hb dX9_reads_9 rfl (lv_at hl 0 rfl) ?_
  refine va_get (D := D) (ci := 9) (v := .int (nI k21_3)) (C := RX9) (T := TX9) (N := 44) hx hb hts hin9 hown hK hP 0 rfl rfl 21 (by decide) (hts (.fieldLink RX9 74 "HoneyHouseModel" "faultKind" "I") (List.mem_of_getElem? (i := 2) rfl)) (fun _ h9 => h9) rfl dX9_reads_10 ?_
  refine lv_if_ne (tgt := 22) hx hb dX9_reads_13 (by decide) (fun c_13 => ?_) (fun c_13 => ?_)
  · have d_14 := n_ne (a := k21_3) (b := 0) (by omega) (by omega) c_13
    refine lv_aload_n hx hb dX9_reads_22 rfl (lv_at hl 0 rfl) ?_
    refine va_get (D := D) (ci := 9) (v := .int (nI k21_3)) (C := RX9) (T := TX9) (N := 44) hx hb hts hin9 hown hK hP 0 rfl rfl 21 (by decide) (hts (.fieldLink RX9 74 "HoneyHouseModel" "faultKind" "I") (List.mem_of_getElem? (i := 2) rfl)) (fun _ h9 => h9) rfl dX9_reads_23 ?_
    refine lv_if_ne (tgt := 33) hx hb dX9_reads_26 (by decide) (fun c_15 => ?_) (fun c_15 => ?_)
    · have d_16 := n_ne (a := k21_3) (b := 0) (by omega) (by omega) c_15
      refine lv_aload_n hx hb dX9_reads_33 rfl (lv_at hl 0 rfl) ?_
      refine va_get (D := D) (ci := 9) (v := .int (nI k21_3)) (C := RX9) (T := TX9) (N := 44) hx hb hts hin9 hown hK hP 0 rfl rfl 21 (by decide) (hts (.fieldLink RX9 74 "HoneyHouseModel" "faultKind" "I") (List.mem_of_getElem? (i := 2) rfl)) (fun _ h9 => h9) rfl dX9_reads_34 ?_
      refine lv_if_le (tgt := 41) hx hb dX9_reads_37 (by decide) (fun c_17 => ?_) (fun c_17 => ?_)
      · have d_18 := n_le (a := k21_3) (b := 0) (by omega) (by omega) c_17
        refine lv_aload_n hx hb dX9_reads_41 rfl (lv_at hl 0 rfl) ?_
        have hFc := free_all hD hS hA
        refine va_calli (va_runV (As := []) (rest := []) ⟨hx, hb, hml, hown, hts⟩ (m_peek l D h0 ad cs (upd (upd (upd iv 21 (nI k21_3)) 22 p22_4) 25 (nI k25_5)) (uF (uF fv 15 f15_6) 16 f16_7) gv k25_5 n26  H.size rfl h26 (by omega) (by omega)) (cwV 0 hts gX9_reads_X9_peek rfl rfl rfl (by decide +kernel) ⟨Nat.le_of_ble_eq_true rfl, Nat.le_of_ble_eq_true rfl⟩) ⟨fun a U g mk q => by obtain ⟨q0, q1, qP, qK, qD⟩ := q; exact ⟨q0, q1, qP, va_K.moved (u := U) (U := U.calling g mk a) (Vm.Alike.refl U.vm) qK, qD⟩, va_recv hK hP (ci := 9) (q0 := 0) rfl rfl, fun U hU hW => ⟨rfl, by rw [hU], by rw [hU]; exact hP, va_K.moved hW.alike hK, hD.weaken (fun _ _ _ _ => trivial)⟩⟩ rfl rfl hl.1 rfl (lv_room (Nat.le_of_ble_eq_true rfl)) dX9_reads_42 ⟨Nat.le_of_ble_eq_true rfl, Nat.le_of_ble_eq_true rfl⟩) hS (fun q _ h => hFc q h) hFc (fun r_19 u t H1 locs ht hvm w_20 hB hz1 hk1 hS => ?_)
        subst w_20
        obtain ⟨k25_21, q_22, q_23, q_24, q_25, hP1, hK1, hD1⟩ := hB
        replace q_24 : (k25_5 = n26 ∨ ¬ blk ((fv 0) k25_5)) → k25_21 = k25_5 := q_24
        replace q_25 : r_19 = (-1) ∨ ∃ c e : Nat, r_19 = nI c ∧ isE ((fv 0)) n26 k25_21 e ∧ ((c = 0 ∧ e = k25_21 + 4) ∨ (c = 1 ∧ e = k25_21 + 2) ∨ (c = 2 ∧ e = k25_21 + 3) ∨ (c = 3 ∧ e = k25_21 + 3) ∨ (c = 4 ∧ e = k25_21 + 5) ∨ (c = 5 ∧ e = k25_21 + 6) ∨ (c = 6 ∧ e = k25_21 + 4) ∨ (c = 7 ∧ e = k25_21 + 6) ∨ (c = 8 ∧ e = k25_21 + 4) ∨ (c = 9 ∧ e = k25_21 + 3) ∨ (c = 10 ∧ e = k25_21 + 3) ∨ c = 11) := q_25
        rw [ht] at hP1
        have hK := va_K.moved hvm.symm hK1
        generalize H1 = H at hP1 hS ⊢
        have hP : va_P D vwCl (mw h0 ad cs (upd (upd (upd iv 21 (nI k21_3)) 22 p22_4) 25 (nI k25_21)) (uF (uF fv 15 f15_6) 16 f16_7) gv) H := hP1
        have hD : va_D A (mw h0 ad cs (upd (upd (upd iv 21 (nI k21_3)) 22 p22_4) 25 (nI k25_21)) (uF (uF fv 15 f15_6) 16 f16_7) gv) := hD1.weaken (fun _ _ _ h => hFc _ h)
        rcases q_25 with rfl | ⟨c_26, e_27, rfl, he_28, hc_29⟩
        · refine lv_if_eq (tgt := 58) hx hb dX9_reads_45 (by decide) (fun c_30 => absurd c_30 (by decide)) (fun c_30 => ?_)
          refine lv_aload_n hx hb dX9_reads_48 rfl (lv_at hl 0 rfl) ?_
          refine lv_iconst (v := 1) hx hb dX9_reads_49 (by decide) ?_
          refine lv_aload_n hx hb dX9_reads_50 rfl (lv_at hl 0 rfl) ?_
          refine va_get (D := D) (ci := 9) (v := .int (nI k25_21)) (C := RX9) (T := TX9) (N := 44) hx hb hts hin9 hown hK hP 0 rfl rfl 25 (by decide) (hts (.fieldLink RX9 87 "HoneyHouseModel" "at" "I") (List.mem_of_getElem? (i := 1) rfl)) (fun _ h9 => h9) rfl dX9_reads_51 ?_
          have hFc := free_all hD hS hA
          refine va_callv (va_runV (As := [.int 1, .int (nI k25_21)]) (rest := []) ⟨hx, hb, hml, hown, hts⟩ (m_blame l D h0 ad cs (upd (upd (upd iv 21 (nI k21_3)) 22 p22_4) 25 (nI k25_21)) (uF (uF fv 15 f15_6) 16 f16_7) gv k21_3 1 (nI k25_21) H.size rfl (by omega) (by omega)) (cwV 2 hts gX9_reads_X9_blame rfl rfl rfl (by decide +kernel) ⟨Nat.le_of_ble_eq_true rfl, Nat.le_of_ble_eq_true rfl⟩) ⟨fun a U g mk q => by obtain ⟨q0, q1, qP, qK, qD⟩ := q; exact ⟨q0, q1, qP, va_K.moved (u := U) (U := U.calling g mk a) (Vm.Alike.refl U.vm) qK, qD⟩, va_recv hK hP (ci := 9) (q0 := 0) rfl rfl, fun U hU hW => ⟨rfl, by rw [hU], by rw [hU]; exact hP, va_K.moved hW.alike hK, hD.weaken (fun _ _ _ _ => trivial)⟩⟩ rfl rfl hl.1 rfl (lv_room (Nat.le_of_ble_eq_true rfl)) dX9_reads_54 ⟨Nat.le_of_ble_eq_true rfl, Nat.le_of_ble_eq_true rfl⟩) hS (fun q _ h => hFc q h) hFc (fun u t H1 locs ht hvm w_32 hB hz1 hk1 hS => ?_)
          obtain ⟨k21_33, p22_34, q_35, q_36, hP1, hK1, hD1⟩ := hB
          rw [ht] at hP1
          have hK := va_K.moved hvm.symm hK1
          generalize H1 = H at hP1 hS ⊢
          have hP : va_P D vwCl (mw h0 ad cs (upd (upd (upd iv 21 (nI k21_33)) 22 p22_34) 25 (nI k25_21)) (uF (uF fv 15 f15_6) 16 f16_7) gv) H := hP1
          have hD : va_D A (mw h0 ad cs (upd (upd (upd iv 21 (nI k21_33)) 22 p22_34) 25 (nI k25_21)) (uF (uF fv 15 f15_6) 16 f16_7) gv) := hD1.weaken (fun _ _ _ h => hFc _ h)
          have hP : va_P D vwCl (mw h0 ad cs (upd (upd (upd (upd (upd (upd iv 21 (nI k21_33)) 22 p22_34) 25 (nI k25_21)) 29 (iv 29)) 30 (iv 30)) 31 (iv 31)) (uF (uF (uF (uF (uF fv 15 f15_6) 16 f16_7) 17 (fv 17)) 19 (fv 19)) 28 (fv 28)) gv) H := hP
          have hD : va_D A (mw h0 ad cs (upd (upd (upd (upd (upd (upd iv 21 (nI k21_33)) 22 p22_34) 25 (nI k25_21)) 29 (iv 29)) 30 (iv 30)) 31 (iv 31)) (uF (uF (uF (uF (uF fv 15 f15_6) 16 f16_7) 17 (fv 17)) 19 (fv 19)) 28 (fv 28)) gv) := hD
          exact W.vret hx hb hr (fun t ht hW => ⟨⟨(), rfl, trivial, k21_33, p22_34, nI k25_21, iv 29, iv 30, iv 31, f15_6, f16_7, fv 17, fv 19, fv 28, by omega, fun i h9 => rfl, q_11, Or.inl (by omega), by rw [ht]; exact hP, va_K.moved hW.alike hK, hD⟩, hS.F ht⟩) hS.2.2 dX9_reads_57
        have he_28b : k25_21 ≤ e_27 ∧ e_27 ≤ n26 := ⟨he_28.1, he_28.2.1⟩
        refine lv_if_eq (tgt := 58) hx hb dX9_reads_45 (by decide) (fun c_37 => ?_) (fun c_37 => ?_)
        · have d_38 := n_eq (a := c_26) (b := 0) (by omega) (by omega) c_37
          refine lv_aload_n hx hb dX9_reads_58 rfl (lv_at hl 0 rfl) ?_
          refine lv_aload_n hx hb dX9_reads_59 rfl (lv_at hl 0 rfl) ?_
          refine vp_callSi (W.runV (As := []) (rest := [.ref h0]) ⟨hx, hb, hml, hown, hts⟩ (m_wordEnd l D h0 ad cs (upd (upd (upd iv 21 (nI k21_3)) 22 p22_4) 25 (nI k25_21)) (uF (uF fv 15 f15_6) 16 f16_7) gv k25_21 n26  rfl h26 (by omega) (by omega)) (cwV 0 hts gX9_reads_X9_wordEnd rfl rfl rfl (by decide +kernel) ⟨Nat.le_of_ble_eq_true rfl, Nat.le_of_ble_eq_true rfl⟩) ⟨fun a U g mk q => ⟨q.1, q.2.1, va_K.moved (u := U) (U := U.calling g mk a) (Vm.Alike.refl U.vm) q.2.2⟩, va_recv hK hP (ci := 9) (q0 := 0) rfl rfl, fun U hU hW => ⟨rfl, by rw [hU]; exact hP, va_K.moved hW.alike hK⟩⟩ rfl rfl hl.1 rfl (lv_room (Nat.le_of_ble_eq_true rfl)) dX9_reads_60 ⟨Nat.le_of_ble_eq_true rfl, Nat.le_of_ble_eq_true rfl⟩) (fun r_39 k_40 => ?_)
          obtain ⟨e_41, rfl, he_42⟩ := k_40
          have hq_e_41 : e_41 = e_27 := he_42.uq he_28
          refine va_put (D := D) (ci := 9) (v := .int (nI e_41)) (ty := .int) (C := RX9) (T := TX9) (N := 44) hx hb hts hin9 tyX9 tyX9_ok nmX9 hown hK hP hD hS 0 rfl rfl 25 (by decide) (hts (.fieldLink RX9 87 "HoneyHouseModel" "at" "I") (List.mem_of_getElem? (i := 1) rfl)) (fun _ h9 => h9) rfl (tyX9_ok 25 (by decide)) rfl rfl (Nat.le_of_ble_eq_true rfl) dX9_reads_63 (fun H locs hP hD hS => ?_)
          have hP : va_P D vwCl (mw h0 ad cs (upd (upd (upd iv 21 (nI k21_3)) 22 p22_4) 25 (nI e_41)) (uF (uF fv 15 f15_6) 16 f16_7) gv) H := hP
          have hD : va_D A (mw h0 ad cs (upd (upd (upd iv 21 (nI k21_3)) 22 p22_4) 25 (nI e_41)) (uF (uF fv 15 f15_6) 16 f16_7) gv) := hD
          refine lv_aload_n hx hb dX9_reads_66 rfl (lv_at hl 0 rfl) ?_
          refine va_get (D := D) (ci := 9) (v := .ref (ad 17)) (C := RX9) (T := TX9) (N := 44) hx hb hts hin9 hown hK hP 0 rfl rfl 17 (by decide) (hts (.fieldLink RX9 62 "HoneyHouseModel" "from" "[I") (List.mem_of_getElem? (i := 3) rfl)) (fun _ h9 => h9) rfl dX9_reads_67 ?_
          refine lv_aload_n hx hb dX9_reads_70 rfl (lv_at hl 0 rfl) ?_
          refine va_get (D := D) (ci := 9) (v := .int (iv 14)) (C := RX9) (T := TX9) (N := 44) hx hb hts hin9 hown hK hP 0 rfl rfl 14 (by decide) (hts (.fieldLink RX9 53 "HoneyHouseModel" "rules" "I") (List.mem_of_getElem? (i := 4) rfl)) (fun _ h9 => h9) rfl dX9_reads_71 ?_
          refine tp_i (y := nI n14) (h14) ?_
          refine lv_aload_n hx hb dX9_reads_74 rfl (lv_at hl 0 rfl) ?_
          refine lv_sipush (v := 30000) hx hb dX9_reads_75 (by decide) ?_
          have hFc := free_all hD hS hA
          refine va_calli (va_runV (As := [.int 30000]) (rest := [.int (nI n14), .ref (ad 17)]) ⟨hx, hb, hml, hown, hts⟩ (m_number l D h0 ad cs (upd (upd (upd iv 21 (nI k21_3)) 22 p22_4) 25 (nI e_41)) (uF (uF fv 15 f15_6) 16 f16_7) gv k21_3 e_41 n26 30000 H.size rfl rfl h26 (by omega) (by omega) (by omega) (by omega)) (cwV 1 hts gX9_reads_X9_number rfl rfl rfl (by decide +kernel) ⟨Nat.le_of_ble_eq_true rfl, Nat.le_of_ble_eq_true rfl⟩) ⟨fun a U g mk q => by obtain ⟨q0, q1, qP, qK, qD⟩ := q; exact ⟨q0, q1, qP, va_K.moved (u := U) (U := U.calling g mk a) (Vm.Alike.refl U.vm) qK, qD⟩, va_recv hK hP (ci := 9) (q0 := 0) rfl rfl, fun U hU hW => ⟨rfl, by rw [hU], by rw [hU]; exact hP, va_K.moved hW.alike hK, hD.weaken (fun _ _ _ _ => trivial)⟩⟩ rfl rfl hl.1 rfl (lv_room (Nat.le_of_ble_eq_true rfl)) dX9_reads_78 ⟨Nat.le_of_ble_eq_true rfl, Nat.le_of_ble_eq_true rfl⟩) hS (fun q _ h => hFc q h) hFc (fun r_43 u t H1 locs ht hvm w_44 hB hz1 hk1 hS => ?_)
          subst w_44
          obtain ⟨k21_45, p22_46, k25_47, q_48, q_49, q_50, q_51, hP1, hK1, hD1⟩ := hB
          rw [ht] at hP1
          have hK := va_K.moved hvm.symm hK1
          generalize H1 = H at hP1 hS ⊢
          have hP : va_P D vwCl (mw h0 ad cs (upd (upd (upd iv 21 (nI k21_45)) 22 p22_46) 25 (nI k25_47)) (uF (uF fv 15 f15_6) 16 f16_7) gv) H := hP1
          have hD : va_D A (mw h0 ad cs (upd (upd (upd iv 21 (nI k21_45)) 22 p22_46) 25 (nI k25_47)) (uF (uF fv 15 f15_6) 16 f16_7) gv) := hD1.weaken (fun _ _ _ h => hFc _ h)
          rcases q_51 with hp_52 | ⟨rfl, hg_54, v_55, hv_56, rfl⟩
          · refine va_iast (f := fv 17) (n := 16) hx hb hK hP hD hS 13 12 rfl rfl (vp_in_nI (n := n14) (by omega) (by omega)) dX9_reads_81 (fun H locs hP hD hS => ?_)
            have hP : va_P D vwCl (mw h0 ad cs (upd (upd (upd iv 21 (nI k21_45)) 22 p22_46) 25 (nI k25_47)) (uF (uF (uF fv 15 f15_6) 16 f16_7) 17 (upd (fv 17) (nI n14).toNatClampNeg r_43)) gv) H := hP
            have hD : va_D A (mw h0 ad cs (upd (upd (upd iv 21 (nI k21_45)) 22 p22_46) 25 (nI k25_47)) (uF (uF (uF fv 15 f15_6) 16 f16_7) 17 (upd (fv 17) (nI n14).toNatClampNeg r_43)) gv) := hD
            obtain ⟨f_57, hf_58⟩ : ∃ g9, g9 = upd (fv 17) (nI n14).toNatClampNeg r_43 := ⟨_, rfl⟩
            rw [← hf_58] at hP hD
            rw [nI_clamp (n := n14) (by omega)] at hf_58
            refine lv_aload_n hx hb dX9_reads_82 rfl (lv_at hl 0 rfl) ?_
            refine va_get (D := D) (ci := 9) (v := .int (nI k21_45)) (C := RX9) (T := TX9) (N := 44) hx hb hts hin9 hown hK hP 0 rfl rfl 21 (by decide) (hts (.fieldLink RX9 74 "HoneyHouseModel" "faultKind" "I") (List.mem_of_getElem? (i := 2) rfl)) (fun _ h9 => h9) rfl dX9_reads_83 ?_
            refine lv_if_ne (tgt := 95) hx hb dX9_reads_86 (by decide) (fun c_59 => ?_) (fun c_59 => absurd c_59 (nI_ne0 (n := k21_45) (by omega) (by omega)))
            refine lv_aload_n hx hb dX9_reads_95 rfl (lv_at hl 0 rfl) ?_
            refine va_get (D := D) (ci := 9) (v := .int (nI k21_45)) (C := RX9) (T := TX9) (N := 44) hx hb hts hin9 hown hK hP 0 rfl rfl 21 (by decide) (hts (.fieldLink RX9 74 "HoneyHouseModel" "faultKind" "I") (List.mem_of_getElem? (i := 2) rfl)) (fun _ h9 => h9) rfl dX9_reads_96 ?_
            refine lv_if_ne (tgt := 119) hx hb dX9_reads_99 (by decide) (fun c_60 => ?_) (fun c_60 => absurd c_60 (nI_ne0 (n := k21_45) (by omega) (by omega)))
            have hP : va_P D vwCl (mw h0 ad cs (upd (upd (upd (upd (upd (upd iv 21 (nI k21_45)) 22 p22_46) 25 (nI k25_47)) 29 (iv 29)) 30 (iv 30)) 31 (iv 31)) (uF (uF (uF (uF (uF fv 15 f15_6) 16 f16_7) 17 f_57) 19 (fv 19)) 28 (fv 28)) gv) H := hP
            have hD : va_D A (mw h0 ad cs (upd (upd (upd (upd (upd (upd iv 21 (nI k21_45)) 22 p22_46) 25 (nI k25_47)) 29 (iv 29)) 30 (iv 30)) 31 (iv 31)) (uF (uF (uF (uF (uF fv 15 f15_6) 16 f16_7) 17 f_57) 19 (fv 19)) 28 (fv 28)) gv) := hD
            exact W.vret hx hb hr (fun t ht hW => ⟨⟨(), rfl, trivial, k21_45, p22_46, nI k25_47, iv 29, iv 30, iv 31, f15_6, f16_7, f_57, fv 19, fv 28, by omega, fun i h9 => rfl, q_11, Or.inl (by omega), by rw [ht]; exact hP, va_K.moved hW.alike hK, hD⟩, hS.F ht⟩) hS.2.2 dX9_reads_119
          refine va_iast (f := fv 17) (n := 16) hx hb hK hP hD hS 13 12 rfl rfl (vp_in_nI (n := n14) (by omega) (by omega)) dX9_reads_81 (fun H locs hP hD hS => ?_)
          have hP : va_P D vwCl (mw h0 ad cs (upd (upd (upd iv 21 (nI 0)) 22 p22_46) 25 (nI k25_47)) (uF (uF (uF fv 15 f15_6) 16 f16_7) 17 (upd (fv 17) (nI n14).toNatClampNeg (nI v_55))) gv) H := hP
          have hD : va_D A (mw h0 ad cs (upd (upd (upd iv 21 (nI 0)) 22 p22_46) 25 (nI k25_47)) (uF (uF (uF fv 15 f15_6) 16 f16_7) 17 (upd (fv 17) (nI n14).toNatClampNeg (nI v_55))) gv) := hD
          obtain ⟨f_61, hf_62⟩ : ∃ g9, g9 = upd (fv 17) (nI n14).toNatClampNeg (nI v_55) := ⟨_, rfl⟩
          rw [← hf_62] at hP hD
          rw [nI_clamp (n := n14) (by omega)] at hf_62
          refine lv_aload_n hx hb dX9_reads_82 rfl (lv_at hl 0 rfl) ?_
          refine va_get (D := D) (ci := 9) (v := .int (nI 0)) (C := RX9) (T := TX9) (N := 44) hx hb hts hin9 hown hK hP 0 rfl rfl 21 (by decide) (hts (.fieldLink RX9 74 "HoneyHouseModel" "faultKind" "I") (List.mem_of_getElem? (i := 2) rfl)) (fun _ h9 => h9) rfl dX9_reads_83 ?_
          refine lv_if_ne (tgt := 95) hx hb dX9_reads_86 (by decide) (fun c_63 => absurd (by decide) c_63) (fun c_63 => ?_)
          refine lv_aload_n hx hb dX9_reads_89 rfl (lv_at hl 0 rfl) ?_
          refine lv_bipush (v := 59) hx hb dX9_reads_90 (by decide) ?_
          have hFc := free_all hD hS hA
          refine va_callv (va_runV (As := [.int 59]) (rest := []) ⟨hx, hb, hml, hown, hts⟩ (m_must l D h0 ad cs (upd (upd (upd iv 21 (nI 0)) 22 p22_46) 25 (nI k25_47)) (uF (uF (uF fv 15 f15_6) 16 f16_7) 17 f_61) gv 0 k25_47 n26 59 H.size rfl rfl h26 (by omega) (by omega) (by omega) (by decide)) (cwV 1 hts gX9_reads_X9_must rfl rfl rfl (by decide +kernel) ⟨Nat.le_of_ble_eq_true rfl, Nat.le_of_ble_eq_true rfl⟩) ⟨fun a U g mk q => by obtain ⟨q0, q1, qP, qK, qD⟩ := q; exact ⟨q0, q1, qP, va_K.moved (u := U) (U := U.calling g mk a) (Vm.Alike.refl U.vm) qK, qD⟩, va_recv hK hP (ci := 9) (q0 := 0) rfl rfl, fun U hU hW => ⟨rfl, by rw [hU], by rw [hU]; exact hP, va_K.moved hW.alike hK, hD.weaken (fun _ _ _ _ => trivial)⟩⟩ rfl rfl hl.1 rfl (lv_room (Nat.le_of_ble_eq_true rfl)) dX9_reads_92 ⟨Nat.le_of_ble_eq_true rfl, Nat.le_of_ble_eq_true rfl⟩) hS (fun q _ h => hFc q h) hFc (fun u t H1 locs ht hvm w_65 hB hz1 hk1 hS => ?_)
          obtain ⟨k21_66, p22_67, k25_68, q_69, q_70, q_71, hP1, hK1, hD1⟩ := hB
          rw [ht] at hP1
          have hK := va_K.moved hvm.symm hK1
          generalize H1 = H at hP1 hS ⊢
          have hP : va_P D vwCl (mw h0 ad cs (upd (upd (upd iv 21 (nI k21_66)) 22 p22_67) 25 (nI k25_68)) (uF (uF (uF fv 15 f15_6) 16 f16_7) 17 f_61) gv) H := hP1
          have hD : va_D A (mw h0 ad cs (upd (upd (upd iv 21 (nI k21_66)) 22 p22_67) 25 (nI k25_68)) (uF (uF (uF fv 15 f15_6) 16 f16_7) 17 f_61) gv) := hD1.weaken (fun _ _ _ h => hFc _ h)
          refine lv_aload_n hx hb dX9_reads_95 rfl (lv_at hl 0 rfl) ?_
          refine va_get (D := D) (ci := 9) (v := .int (nI k21_66)) (C := RX9) (T := TX9) (N := 44) hx hb hts hin9 hown hK hP 0 rfl rfl 21 (by decide) (hts (.fieldLink RX9 74 "HoneyHouseModel" "faultKind" "I") (List.mem_of_getElem? (i := 2) rfl)) (fun _ h9 => h9) rfl dX9_reads_96 ?_
          refine lv_if_ne (tgt := 119) hx hb dX9_reads_99 (by decide) (fun c_72 => ?_) (fun c_72 => ?_)
          · have d_73 := n_ne (a := k21_66) (b := 0) (by omega) (by omega) c_72
            have hP : va_P D vwCl (mw h0 ad cs (upd (upd (upd (upd (upd (upd iv 21 (nI k21_66)) 22 p22_67) 25 (nI k25_68)) 29 (iv 29)) 30 (iv 30)) 31 (iv 31)) (uF (uF (uF (uF (uF fv 15 f15_6) 16 f16_7) 17 f_61) 19 (fv 19)) 28 (fv 28)) gv) H := hP
            have hD : va_D A (mw h0 ad cs (upd (upd (upd (upd (upd (upd iv 21 (nI k21_66)) 22 p22_67) 25 (nI k25_68)) 29 (iv 29)) 30 (iv 30)) 31 (iv 31)) (uF (uF (uF (uF (uF fv 15 f15_6) 16 f16_7) 17 f_61) 19 (fv 19)) 28 (fv 28)) gv) := hD
            exact W.vret hx hb hr (fun t ht hW => ⟨⟨(), rfl, trivial, k21_66, p22_67, nI k25_68, iv 29, iv 30, iv 31, f15_6, f16_7, f_61, fv 19, fv 28, by omega, fun i h9 => rfl, q_11, Or.inl (by omega), by rw [ht]; exact hP, va_K.moved hW.alike hK, hD⟩, hS.F ht⟩) hS.2.2 dX9_reads_119
          have d_74 := n_eq (a := k21_66) (b := 0) (by omega) (by omega) c_72
          refine lv_aload_n hx hb dX9_reads_102 rfl (lv_at hl 0 rfl) ?_
          have hFc := free_all hD hS hA
          refine va_calli (va_runV (As := []) (rest := []) ⟨hx, hb, hml, hown, hts⟩ (m_here l D h0 ad cs (upd (upd (upd iv 21 (nI k21_66)) 22 p22_67) 25 (nI k25_68)) (uF (uF (uF fv 15 f15_6) 16 f16_7) 17 f_61) gv k25_68 n26  H.size rfl h26 (by omega) (by omega)) (cwV 0 hts gX9_reads_X9_here rfl rfl rfl (by decide +kernel) ⟨Nat.le_of_ble_eq_true rfl, Nat.le_of_ble_eq_true rfl⟩) ⟨fun a U g mk q => by obtain ⟨q0, q1, qP, qK, qD⟩ := q; exact ⟨q0, q1, qP, va_K.moved (u := U) (U := U.calling g mk a) (Vm.Alike.refl U.vm) qK, qD⟩, va_recv hK hP (ci := 9) (q0 := 0) rfl rfl, fun U hU hW => ⟨rfl, by rw [hU], by rw [hU]; exact hP, va_K.moved hW.alike hK, hD.weaken (fun _ _ _ _ => trivial)⟩⟩ rfl rfl hl.1 rfl (lv_room (Nat.le_of_ble_eq_true rfl)) dX9_reads_103 ⟨Nat.le_of_ble_eq_true rfl, Nat.le_of_ble_eq_true rfl⟩) hS (fun q _ h => hFc q h) hFc (fun r_75 u t H1 locs ht hvm w_76 hB hz1 hk1 hS => ?_)
          subst w_76
          obtain ⟨k25_77, q_78, q_79, q_80, q_81, q_82, hP1, hK1, hD1⟩ := hB
          replace q_80 : k25_77 = n26 ∨ ¬ blk ((fv 0) k25_77) := q_80
          replace q_81 : (k25_68 = n26 ∨ ¬ blk ((fv 0) k25_68)) → k25_77 = k25_68 := q_81
          replace q_82 : (r_75 = (-1) ∧ k25_77 = n26) ∨ (k25_77 < n26 ∧ r_75 = (fv 0) k25_77) := q_82
          rw [ht] at hP1
          have hK := va_K.moved hvm.symm hK1
          generalize H1 = H at hP1 hS ⊢
          have hP : va_P D vwCl (mw h0 ad cs (upd (upd (upd iv 21 (nI k21_66)) 22 p22_67) 25 (nI k25_77)) (uF (uF (uF fv 15 f15_6) 16 f16_7) 17 f_61) gv) H := hP1
          have hD : va_D A (mw h0 ad cs (upd (upd (upd iv 21 (nI k21_66)) 22 p22_67) 25 (nI k25_77)) (uF (uF (uF fv 15 f15_6) 16 f16_7) 17 f_61) gv) := hD1.weaken (fun _ _ _ h => hFc _ h)
          refine lv_iconst (v := (-1)) hx hb dX9_reads_106 (by decide) ?_
          refine lv_icmp_eq (tgt := 119) hx hb dX9_reads_107 (by decide) (fun c_83 => ?_) (fun c_83 => ?_)
          · have hP : va_P D vwCl (mw h0 ad cs (upd (upd (upd (upd (upd (upd iv 21 (nI k21_66)) 22 p22_67) 25 (nI k25_77)) 29 (iv 29)) 30 (iv 30)) 31 (iv 31)) (uF (uF (uF (uF (uF fv 15 f15_6) 16 f16_7) 17 f_61) 19 (fv 19)) 28 (fv 28)) gv) H := hP
            have hD : va_D A (mw h0 ad cs (upd (upd (upd (upd (upd (upd iv 21 (nI k21_66)) 22 p22_67) 25 (nI k25_77)) 29 (iv 29)) 30 (iv 30)) 31 (iv 31)) (uF (uF (uF (uF (uF fv 15 f15_6) 16 f16_7) 17 f_61) 19 (fv 19)) 28 (fv 28)) gv) := hD
            exact W.vret hx hb hr (fun t ht hW => ⟨⟨(), rfl, trivial, k21_66, p22_67, nI k25_77, iv 29, iv 30, iv 31, f15_6, f16_7, f_61, fv 19, fv 28, by omega, fun i h9 => rfl, q_11, Or.inl (by omega), by rw [ht]; exact hP, va_K.moved hW.alike hK, hD⟩, hS.F ht⟩) hS.2.2 dX9_reads_119
          refine lv_aload_n hx hb dX9_reads_110 rfl (lv_at hl 0 rfl) ?_
          refine lv_iconst (v := 1) hx hb dX9_reads_111 (by decide) ?_
          refine lv_aload_n hx hb dX9_reads_112 rfl (lv_at hl 0 rfl) ?_
          refine va_get (D := D) (ci := 9) (v := .int (nI k25_77)) (C := RX9) (T := TX9) (N := 44) hx hb hts hin9 hown hK hP 0 rfl rfl 25 (by decide) (hts (.fieldLink RX9 87 "HoneyHouseModel" "at" "I") (List.mem_of_getElem? (i := 1) rfl)) (fun _ h9 => h9) rfl dX9_reads_113 ?_
          have hFc := free_all hD hS hA
          refine va_callv (va_runV (As := [.int 1, .int (nI k25_77)]) (rest := []) ⟨hx, hb, hml, hown, hts⟩ (m_blame l D h0 ad cs (upd (upd (upd iv 21 (nI k21_66)) 22 p22_67) 25 (nI k25_77)) (uF (uF (uF fv 15 f15_6) 16 f16_7) 17 f_61) gv k21_66 1 (nI k25_77) H.size rfl (by omega) (by omega)) (cwV 2 hts gX9_reads_X9_blame rfl rfl rfl (by decide +kernel) ⟨Nat.le_of_ble_eq_true rfl, Nat.le_of_ble_eq_true rfl⟩) ⟨fun a U g mk q => by obtain ⟨q0, q1, qP, qK, qD⟩ := q; exact ⟨q0, q1, qP, va_K.moved (u := U) (U := U.calling g mk a) (Vm.Alike.refl U.vm) qK, qD⟩, va_recv hK hP (ci := 9) (q0 := 0) rfl rfl, fun U hU hW => ⟨rfl, by rw [hU], by rw [hU]; exact hP, va_K.moved hW.alike hK, hD.weaken (fun _ _ _ _ => trivial)⟩⟩ rfl rfl hl.1 rfl (lv_room (Nat.le_of_ble_eq_true rfl)) dX9_reads_116 ⟨Nat.le_of_ble_eq_true rfl, Nat.le_of_ble_eq_true rfl⟩) hS (fun q _ h => hFc q h) hFc (fun u t H1 locs ht hvm w_85 hB hz1 hk1 hS => ?_)
          obtain ⟨k21_86, p22_87, q_88, q_89, hP1, hK1, hD1⟩ := hB
          rw [ht] at hP1
          have hK := va_K.moved hvm.symm hK1
          generalize H1 = H at hP1 hS ⊢
          have hP : va_P D vwCl (mw h0 ad cs (upd (upd (upd iv 21 (nI k21_86)) 22 p22_87) 25 (nI k25_77)) (uF (uF (uF fv 15 f15_6) 16 f16_7) 17 f_61) gv) H := hP1
          have hD : va_D A (mw h0 ad cs (upd (upd (upd iv 21 (nI k21_86)) 22 p22_87) 25 (nI k25_77)) (uF (uF (uF fv 15 f15_6) 16 f16_7) 17 f_61) gv) := hD1.weaken (fun _ _ _ h => hFc _ h)
          have hP : va_P D vwCl (mw h0 ad cs (upd (upd (upd (upd (upd (upd iv 21 (nI k21_86)) 22 p22_87) 25 (nI k25_77)) 29 (iv 29)) 30 (iv 30)) 31 (iv 31)) (uF (uF (uF (uF (uF fv 15 f15_6) 16 f16_7) 17 f_61) 19 (fv 19)) 28 (fv 28)) gv) H := hP
          have hD : va_D A (mw h0 ad cs (upd (upd (upd (upd (upd (upd iv 21 (nI k21_86)) 22 p22_87) 25 (nI k25_77)) 29 (iv 29)) 30 (iv 30)) 31 (iv 31)) (uF (uF (uF (uF (uF fv 15 f15_6) 16 f16_7) 17 f_61) 19 (fv 19)) 28 (fv 28)) gv) := hD
          exact W.vret hx hb hr (fun t ht hW => ⟨⟨(), rfl, trivial, k21_86, p22_87, nI k25_77, iv 29, iv 30, iv 31, f15_6, f16_7, f_61, fv 19, fv 28, by omega, fun i h9 => rfl, q_11, Or.inl (by omega), by rw [ht]; exact hP, va_K.moved hW.alike hK, hD⟩, hS.F ht⟩) hS.2.2 dX9_reads_119
        have d_90 := n_ne (a := c_26) (b := 0) (by omega) (by omega) c_37
        refine lv_aload_n hx hb dX9_reads_48 rfl (lv_at hl 0 rfl) ?_
        refine lv_iconst (v := 1) hx hb dX9_reads_49 (by decide) ?_
        refine lv_aload_n hx hb dX9_reads_50 rfl (lv_at hl 0 rfl) ?_
        refine va_get (D := D) (ci := 9) (v := .int (nI k25_21)) (C := RX9) (T := TX9) (N := 44) hx hb hts hin9 hown hK hP 0 rfl rfl 25 (by decide) (hts (.fieldLink RX9 87 "HoneyHouseModel" "at" "I") (List.mem_of_getElem? (i := 1) rfl)) (fun _ h9 => h9) rfl dX9_reads_51 ?_
        have hFc := free_all hD hS hA
        refine va_callv (va_runV (As := [.int 1, .int (nI k25_21)]) (rest := []) ⟨hx, hb, hml, hown, hts⟩ (m_blame l D h0 ad cs (upd (upd (upd iv 21 (nI k21_3)) 22 p22_4) 25 (nI k25_21)) (uF (uF fv 15 f15_6) 16 f16_7) gv k21_3 1 (nI k25_21) H.size rfl (by omega) (by omega)) (cwV 2 hts gX9_reads_X9_blame rfl rfl rfl (by decide +kernel) ⟨Nat.le_of_ble_eq_true rfl, Nat.le_of_ble_eq_true rfl⟩) ⟨fun a U g mk q => by obtain ⟨q0, q1, qP, qK, qD⟩ := q; exact ⟨q0, q1, qP, va_K.moved (u := U) (U := U.calling g mk a) (Vm.Alike.refl U.vm) qK, qD⟩, va_recv hK hP (ci := 9) (q0 := 0) rfl rfl, fun U hU hW => ⟨rfl, by rw [hU], by rw [hU]; exact hP, va_K.moved hW.alike hK, hD.weaken (fun _ _ _ _ => trivial)⟩⟩ rfl rfl hl.1 rfl (lv_room (Nat.le_of_ble_eq_true rfl)) dX9_reads_54 ⟨Nat.le_of_ble_eq_true rfl, Nat.le_of_ble_eq_true rfl⟩) hS (fun q _ h => hFc q h) hFc (fun u t H1 locs ht hvm w_92 hB hz1 hk1 hS => ?_)
        obtain ⟨k21_93, p22_94, q_95, q_96, hP1, hK1, hD1⟩ := hB
        rw [ht] at hP1
        have hK := va_K.moved hvm.symm hK1
        generalize H1 = H at hP1 hS ⊢
        have hP : va_P D vwCl (mw h0 ad cs (upd (upd (upd iv 21 (nI k21_93)) 22 p22_94) 25 (nI k25_21)) (uF (uF fv 15 f15_6) 16 f16_7) gv) H := hP1
        have hD : va_D A (mw h0 ad cs (upd (upd (upd iv 21 (nI k21_93)) 22 p22_94) 25 (nI k25_21)) (uF (uF fv 15 f15_6) 16 f16_7) gv) := hD1.weaken (fun _ _ _ h => hFc _ h)
        have hP : va_P D vwCl (mw h0 ad cs (upd (upd (upd (upd (upd (upd iv 21 (nI k21_93)) 22 p22_94) 25 (nI k25_21)) 29 (iv 29)) 30 (iv 30)) 31 (iv 31)) (uF (uF (uF (uF (uF fv 15 f15_6) 16 f16_7) 17 (fv 17)) 19 (fv 19)) 28 (fv 28)) gv) H := hP
        have hD : va_D A (mw h0 ad cs (upd (upd (upd (upd (upd (upd iv 21 (nI k21_93)) 22 p22_94) 25 (nI k25_21)) 29 (iv 29)) 30 (iv 30)) 31 (iv 31)) (uF (uF (uF (uF (uF fv 15 f15_6) 16 f16_7) 17 (fv 17)) 19 (fv 19)) 28 (fv 28)) gv) := hD
        exact W.vret hx hb hr (fun t ht hW => ⟨⟨(), rfl, trivial, k21_93, p22_94, nI k25_21, iv 29, iv 30, iv 31, f15_6, f16_7, fv 17, fv 19, fv 28, by omega, fun i h9 => rfl, q_11, Or.inl (by omega), by rw [ht]; exact hP, va_K.moved hW.alike hK, hD⟩, hS.F ht⟩) hS.2.2 dX9_reads_57
      have d_97 := n_nle (a := k21_3) (b := 0) (by omega) (by omega) c_17
      have hP : va_P D vwCl (mw h0 ad cs (upd (upd (upd (upd (upd (upd iv 21 (nI k21_3)) 22 p22_4) 25 (nI k25_5)) 29 (iv 29)) 30 (iv 30)) 31 (iv 31)) (uF (uF (uF (uF (uF fv 15 f15_6) 16 f16_7) 17 (fv 17)) 19 (fv 19)) 28 (fv 28)) gv) H := hP
      have hD : va_D A (mw h0 ad cs (upd (upd (upd (upd (upd (upd iv 21 (nI k21_3)) 22 p22_4) 25 (nI k25_5)) 29 (iv 29)) 30 (iv 30)) 31 (iv 31)) (uF (uF (uF (uF (uF fv 15 f15_6) 16 f16_7) 17 (fv 17)) 19 (fv 19)) 28 (fv 28)) gv) := hD
      exact W.vret hx hb hr (fun t ht hW => ⟨⟨(), rfl, trivial, k21_3, p22_4, nI k25_5, iv 29, iv 30, iv 31, f15_6, f16_7, fv 17, fv 19, fv 28, by omega, fun i h9 => rfl, q_11, Or.inl (by omega), by rw [ht]; exact hP, va_K.moved hW.alike hK, hD⟩, hS.F ht⟩) hS.2.2 dX9_reads_40
    have d_98 := n_eq (a := k21_3) (b := 0) (by omega) (by omega) c_15
    refine lv_aload_n hx hb dX9_reads_29 rfl (lv_at hl 0 rfl) ?_
    have hFc := free_all hD hS hA
    refine va_callv (va_runV (As := []) (rest := []) ⟨hx, hb, hml, hown, hts⟩ (m_either l D h0 ad cs (upd (upd (upd iv 21 (nI k21_3)) 22 p22_4) 25 (nI k25_5)) (uF (uF fv 15 f15_6) 16 f16_7) gv n14 k21_3 k25_5 n26  H.size h14 rfl rfl h26 (by omega) (by omega) (by omega) (by omega)) (cwV 0 hts gX9_reads_X9_either rfl rfl rfl (by decide +kernel) ⟨Nat.le_of_ble_eq_true rfl, Nat.le_of_ble_eq_true rfl⟩) ⟨fun a U g mk q => by obtain ⟨q0, q1, qP, qK, qD⟩ := q; exact ⟨q0, q1, qP, va_K.moved (u := U) (U := U.calling g mk a) (Vm.Alike.refl U.vm) qK, qD⟩, va_recv hK hP (ci := 9) (q0 := 0) rfl rfl, fun U hU hW => ⟨rfl, by rw [hU], by rw [hU]; exact hP, va_K.moved hW.alike hK, hD.weaken (fun _ _ _ _ => trivial)⟩⟩ rfl rfl hl.1 rfl (lv_room (Nat.le_of_ble_eq_true rfl)) dX9_reads_30 ⟨Nat.le_of_ble_eq_true rfl, Nat.le_of_ble_eq_true rfl⟩) hS (fun q _ h => hFc q h) hFc (fun u t H1 locs ht hvm w_100 hB hz1 hk1 hS => ?_)
    obtain ⟨k21_101, p22_102, k25_103, k29_104, k30_105, k31_106, f19_107, f28_108, q_109, q_110, q_111, q_112, q_113, hP1, hK1, hD1⟩ := hB
    replace q_112 : ∀ i : Nat, i < 200 * n14 → f19_107 i = (fv 19) i := q_112
    rw [ht] at hP1
    have hK := va_K.moved hvm.symm hK1
    generalize H1 = H at hP1 hS ⊢
    have hP : va_P D vwCl (mw h0 ad cs (upd (upd (upd (upd (upd (upd iv 21 (nI k21_101)) 22 p22_102) 25 (nI k25_103)) 29 (nI k29_104)) 30 (nI k30_105)) 31 (nI k31_106)) (uF (uF (uF (uF fv 15 f15_6) 16 f16_7) 19 f19_107) 28 f28_108) gv) H := hP1
    have hD : va_D A (mw h0 ad cs (upd (upd (upd (upd (upd (upd iv 21 (nI k21_101)) 22 p22_102) 25 (nI k25_103)) 29 (nI k29_104)) 30 (nI k30_105)) 31 (nI k31_106)) (uF (uF (uF (uF fv 15 f15_6) 16 f16_7) 19 f19_107) 28 f28_108) gv) := hD1.weaken (fun _ _ _ h => hFc _ h)
    refine lv_aload_n hx hb dX9_reads_33 rfl (lv_at hl 0 rfl) ?_
    refine va_get (D := D) (ci := 9) (v := .int (nI k21_101)) (C := RX9) (T := TX9) (N := 44) hx hb hts hin9 hown hK hP 0 rfl rfl 21 (by decide) (hts (.fieldLink RX9 74 "HoneyHouseModel" "faultKind" "I") (List.mem_of_getElem? (i := 2) rfl)) (fun _ h9 => h9) rfl dX9_reads_34 ?_
    refine lv_if_le (tgt := 41) hx hb dX9_reads_37 (by decide) (fun c_114 => ?_) (fun c_114 => ?_)
    · have d_115 := n_le (a := k21_101) (b := 0) (by omega) (by omega) c_114
      refine lv_aload_n hx hb dX9_reads_41 rfl (lv_at hl 0 rfl) ?_
      have hFc := free_all hD hS hA
      refine va_calli (va_runV (As := []) (rest := []) ⟨hx, hb, hml, hown, hts⟩ (m_peek l D h0 ad cs (upd (upd (upd (upd (upd (upd iv 21 (nI k21_101)) 22 p22_102) 25 (nI k25_103)) 29 (nI k29_104)) 30 (nI k30_105)) 31 (nI k31_106)) (uF (uF (uF (uF fv 15 f15_6) 16 f16_7) 19 f19_107) 28 f28_108) gv k25_103 n26  H.size rfl h26 (by omega) (by omega)) (cwV 0 hts gX9_reads_X9_peek rfl rfl rfl (by decide +kernel) ⟨Nat.le_of_ble_eq_true rfl, Nat.le_of_ble_eq_true rfl⟩) ⟨fun a U g mk q => by obtain ⟨q0, q1, qP, qK, qD⟩ := q; exact ⟨q0, q1, qP, va_K.moved (u := U) (U := U.calling g mk a) (Vm.Alike.refl U.vm) qK, qD⟩, va_recv hK hP (ci := 9) (q0 := 0) rfl rfl, fun U hU hW => ⟨rfl, by rw [hU], by rw [hU]; exact hP, va_K.moved hW.alike hK, hD.weaken (fun _ _ _ _ => trivial)⟩⟩ rfl rfl hl.1 rfl (lv_room (Nat.le_of_ble_eq_true rfl)) dX9_reads_42 ⟨Nat.le_of_ble_eq_true rfl, Nat.le_of_ble_eq_true rfl⟩) hS (fun q _ h => hFc q h) hFc (fun r_116 u t H1 locs ht hvm w_117 hB hz1 hk1 hS => ?_)
      subst w_117
      obtain ⟨k25_118, q_119, q_120, q_121, q_122, hP1, hK1, hD1⟩ := hB
      replace q_121 : (k25_103 = n26 ∨ ¬ blk ((fv 0) k25_103)) → k25_118 = k25_103 := q_121
      replace q_122 : r_116 = (-1) ∨ ∃ c e : Nat, r_116 = nI c ∧ isE ((fv 0)) n26 k25_118 e ∧ ((c = 0 ∧ e = k25_118 + 4) ∨ (c = 1 ∧ e = k25_118 + 2) ∨ (c = 2 ∧ e = k25_118 + 3) ∨ (c = 3 ∧ e = k25_118 + 3) ∨ (c = 4 ∧ e = k25_118 + 5) ∨ (c = 5 ∧ e = k25_118 + 6) ∨ (c = 6 ∧ e = k25_118 + 4) ∨ (c = 7 ∧ e = k25_118 + 6) ∨ (c = 8 ∧ e = k25_118 + 4) ∨ (c = 9 ∧ e = k25_118 + 3) ∨ (c = 10 ∧ e = k25_118 + 3) ∨ c = 11) := q_122
      rw [ht] at hP1
      have hK := va_K.moved hvm.symm hK1
      generalize H1 = H at hP1 hS ⊢
      have hP : va_P D vwCl (mw h0 ad cs (upd (upd (upd (upd (upd (upd iv 21 (nI k21_101)) 22 p22_102) 25 (nI k25_118)) 29 (nI k29_104)) 30 (nI k30_105)) 31 (nI k31_106)) (uF (uF (uF (uF fv 15 f15_6) 16 f16_7) 19 f19_107) 28 f28_108) gv) H := hP1
      have hD : va_D A (mw h0 ad cs (upd (upd (upd (upd (upd (upd iv 21 (nI k21_101)) 22 p22_102) 25 (nI k25_118)) 29 (nI k29_104)) 30 (nI k30_105)) 31 (nI k31_106)) (uF (uF (uF (uF fv 15 f15_6) 16 f16_7) 19 f19_107) 28 f28_108) gv) := hD1.weaken (fun _ _ _ h => hFc _ h)
      rcases q_122 with rfl | ⟨c_123, e_124, rfl, he_125, hc_126⟩
      · refine lv_if_eq (tgt := 58) hx hb dX9_reads_45 (by decide) (fun c_127 => absurd c_127 (by decide)) (fun c_127 => ?_)
        refine lv_aload_n hx hb dX9_reads_48 rfl (lv_at hl 0 rfl) ?_
        refine lv_iconst (v := 1) hx hb dX9_reads_49 (by decide) ?_
        refine lv_aload_n hx hb dX9_reads_50 rfl (lv_at hl 0 rfl) ?_
        refine va_get (D := D) (ci := 9) (v := .int (nI k25_118)) (C := RX9) (T := TX9) (N := 44) hx hb hts hin9 hown hK hP 0 rfl rfl 25 (by decide) (hts (.fieldLink RX9 87 "HoneyHouseModel" "at" "I") (List.mem_of_getElem? (i := 1) rfl)) (fun _ h9 => h9) rfl dX9_reads_51 ?_
        have hFc := free_all hD hS hA
        refine va_callv (va_runV (As := [.int 1, .int (nI k25_118)]) (rest := []) ⟨hx, hb, hml, hown, hts⟩ (m_blame l D h0 ad cs (upd (upd (upd (upd (upd (upd iv 21 (nI k21_101)) 22 p22_102) 25 (nI k25_118)) 29 (nI k29_104)) 30 (nI k30_105)) 31 (nI k31_106)) (uF (uF (uF (uF fv 15 f15_6) 16 f16_7) 19 f19_107) 28 f28_108) gv k21_101 1 (nI k25_118) H.size rfl (by omega) (by omega)) (cwV 2 hts gX9_reads_X9_blame rfl rfl rfl (by decide +kernel) ⟨Nat.le_of_ble_eq_true rfl, Nat.le_of_ble_eq_true rfl⟩) ⟨fun a U g mk q => by obtain ⟨q0, q1, qP, qK, qD⟩ := q; exact ⟨q0, q1, qP, va_K.moved (u := U) (U := U.calling g mk a) (Vm.Alike.refl U.vm) qK, qD⟩, va_recv hK hP (ci := 9) (q0 := 0) rfl rfl, fun U hU hW => ⟨rfl, by rw [hU], by rw [hU]; exact hP, va_K.moved hW.alike hK, hD.weaken (fun _ _ _ _ => trivial)⟩⟩ rfl rfl hl.1 rfl (lv_room (Nat.le_of_ble_eq_true rfl)) dX9_reads_54 ⟨Nat.le_of_ble_eq_true rfl, Nat.le_of_ble_eq_true rfl⟩) hS (fun q _ h => hFc q h) hFc (fun u t H1 locs ht hvm w_129 hB hz1 hk1 hS => ?_)
        obtain ⟨k21_130, p22_131, q_132, q_133, hP1, hK1, hD1⟩ := hB
        rw [ht] at hP1
        have hK := va_K.moved hvm.symm hK1
        generalize H1 = H at hP1 hS ⊢
        have hP : va_P D vwCl (mw h0 ad cs (upd (upd (upd (upd (upd (upd iv 21 (nI k21_130)) 22 p22_131) 25 (nI k25_118)) 29 (nI k29_104)) 30 (nI k30_105)) 31 (nI k31_106)) (uF (uF (uF (uF fv 15 f15_6) 16 f16_7) 19 f19_107) 28 f28_108) gv) H := hP1
        have hD : va_D A (mw h0 ad cs (upd (upd (upd (upd (upd (upd iv 21 (nI k21_130)) 22 p22_131) 25 (nI k25_118)) 29 (nI k29_104)) 30 (nI k30_105)) 31 (nI k31_106)) (uF (uF (uF (uF fv 15 f15_6) 16 f16_7) 19 f19_107) 28 f28_108) gv) := hD1.weaken (fun _ _ _ h => hFc _ h)
        have hP : va_P D vwCl (mw h0 ad cs (upd (upd (upd (upd (upd (upd iv 21 (nI k21_130)) 22 p22_131) 25 (nI k25_118)) 29 (nI k29_104)) 30 (nI k30_105)) 31 (nI k31_106)) (uF (uF (uF (uF (uF fv 15 f15_6) 16 f16_7) 17 (fv 17)) 19 f19_107) 28 f28_108) gv) H := hP
        have hD : va_D A (mw h0 ad cs (upd (upd (upd (upd (upd (upd iv 21 (nI k21_130)) 22 p22_131) 25 (nI k25_118)) 29 (nI k29_104)) 30 (nI k30_105)) 31 (nI k31_106)) (uF (uF (uF (uF (uF fv 15 f15_6) 16 f16_7) 17 (fv 17)) 19 f19_107) 28 f28_108) gv) := hD
        exact W.vret hx hb hr (fun t ht hW => ⟨⟨(), rfl, trivial, k21_130, p22_131, nI k25_118, nI k29_104, nI k30_105, nI k31_106, f15_6, f16_7, fv 17, f19_107, f28_108, by omega, q_112, q_11, Or.inl (by omega), by rw [ht]; exact hP, va_K.moved hW.alike hK, hD⟩, hS.F ht⟩) hS.2.2 dX9_reads_57
      have he_125b : k25_118 ≤ e_124 ∧ e_124 ≤ n26 := ⟨he_125.1, he_125.2.1⟩
      refine lv_if_eq (tgt := 58) hx hb dX9_reads_45 (by decide) (fun c_134 => ?_) (fun c_134 => ?_)
      · have d_135 := n_eq (a := c_123) (b := 0) (by omega) (by omega) c_134
        refine lv_aload_n hx hb dX9_reads_58 rfl (lv_at hl 0 rfl) ?_
        refine lv_aload_n hx hb dX9_reads_59 rfl (lv_at hl 0 rfl) ?_
        refine vp_callSi (W.runV (As := []) (rest := [.ref h0]) ⟨hx, hb, hml, hown, hts⟩ (m_wordEnd l D h0 ad cs (upd (upd (upd (upd (upd (upd iv 21 (nI k21_101)) 22 p22_102) 25 (nI k25_118)) 29 (nI k29_104)) 30 (nI k30_105)) 31 (nI k31_106)) (uF (uF (uF (uF fv 15 f15_6) 16 f16_7) 19 f19_107) 28 f28_108) gv k25_118 n26  rfl h26 (by omega) (by omega)) (cwV 0 hts gX9_reads_X9_wordEnd rfl rfl rfl (by decide +kernel) ⟨Nat.le_of_ble_eq_true rfl, Nat.le_of_ble_eq_true rfl⟩) ⟨fun a U g mk q => ⟨q.1, q.2.1, va_K.moved (u := U) (U := U.calling g mk a) (Vm.Alike.refl U.vm) q.2.2⟩, va_recv hK hP (ci := 9) (q0 := 0) rfl rfl, fun U hU hW => ⟨rfl, by rw [hU]; exact hP, va_K.moved hW.alike hK⟩⟩ rfl rfl hl.1 rfl (lv_room (Nat.le_of_ble_eq_true rfl)) dX9_reads_60 ⟨Nat.le_of_ble_eq_true rfl, Nat.le_of_ble_eq_true rfl⟩) (fun r_136 k_137 => ?_)
        obtain ⟨e_138, rfl, he_139⟩ := k_137
        have hq_e_138 : e_138 = e_124 := he_139.uq he_125
        refine va_put (D := D) (ci := 9) (v := .int (nI e_138)) (ty := .int) (C := RX9) (T := TX9) (N := 44) hx hb hts hin9 tyX9 tyX9_ok nmX9 hown hK hP hD hS 0 rfl rfl 25 (by decide) (hts (.fieldLink RX9 87 "HoneyHouseModel" "at" "I") (List.mem_of_getElem? (i := 1) rfl)) (fun _ h9 => h9) rfl (tyX9_ok 25 (by decide)) rfl rfl (Nat.le_of_ble_eq_true rfl) dX9_reads_63 (fun H locs hP hD hS => ?_)
        have hP : va_P D vwCl (mw h0 ad cs (upd (upd (upd (upd (upd (upd iv 21 (nI k21_101)) 22 p22_102) 25 (nI e_138)) 29 (nI k29_104)) 30 (nI k30_105)) 31 (nI k31_106)) (uF (uF (uF (uF fv 15 f15_6) 16 f16_7) 19 f19_107) 28 f28_108) gv) H := hP
        have hD : va_D A (mw h0 ad cs (upd (upd (upd (upd (upd (upd iv 21 (nI k21_101)) 22 p22_102) 25 (nI e_138)) 29 (nI k29_104)) 30 (nI k30_105)) 31 (nI k31_106)) (uF (uF (uF (uF fv 15 f15_6) 16 f16_7) 19 f19_107) 28 f28_108) gv) := hD
        refine lv_aload_n hx hb dX9_reads_66 rfl (lv_at hl 0 rfl) ?_
        refine va_get (D := D) (ci := 9) (v := .ref (ad 17)) (C := RX9) (T := TX9) (N := 44) hx hb hts hin9 hown hK hP 0 rfl rfl 17 (by decide) (hts (.fieldLink RX9 62 "HoneyHouseModel" "from" "[I") (List.mem_of_getElem? (i := 3) rfl)) (fun _ h9 => h9) rfl dX9_reads_67 ?_
        refine lv_aload_n hx hb dX9_reads_70 rfl (lv_at hl 0 rfl) ?_
        refine va_get (D := D) (ci := 9) (v := .int (iv 14)) (C := RX9) (T := TX9) (N := 44) hx hb hts hin9 hown hK hP 0 rfl rfl 14 (by decide) (hts (.fieldLink RX9 53 "HoneyHouseModel" "rules" "I") (List.mem_of_getElem? (i := 4) rfl)) (fun _ h9 => h9) rfl dX9_reads_71 ?_
        refine tp_i (y := nI n14) (h14) ?_
        refine lv_aload_n hx hb dX9_reads_74 rfl (lv_at hl 0 rfl) ?_
        refine lv_sipush (v := 30000) hx hb dX9_reads_75 (by decide) ?_
        have hFc := free_all hD hS hA
        refine va_calli (va_runV (As := [.int 30000]) (rest := [.int (nI n14), .ref (ad 17)]) ⟨hx, hb, hml, hown, hts⟩ (m_number l D h0 ad cs (upd (upd (upd (upd (upd (upd iv 21 (nI k21_101)) 22 p22_102) 25 (nI e_138)) 29 (nI k29_104)) 30 (nI k30_105)) 31 (nI k31_106)) (uF (uF (uF (uF fv 15 f15_6) 16 f16_7) 19 f19_107) 28 f28_108) gv k21_101 e_138 n26 30000 H.size rfl rfl h26 (by omega) (by omega) (by omega) (by omega)) (cwV 1 hts gX9_reads_X9_number rfl rfl rfl (by decide +kernel) ⟨Nat.le_of_ble_eq_true rfl, Nat.le_of_ble_eq_true rfl⟩) ⟨fun a U g mk q => by obtain ⟨q0, q1, qP, qK, qD⟩ := q; exact ⟨q0, q1, qP, va_K.moved (u := U) (U := U.calling g mk a) (Vm.Alike.refl U.vm) qK, qD⟩, va_recv hK hP (ci := 9) (q0 := 0) rfl rfl, fun U hU hW => ⟨rfl, by rw [hU], by rw [hU]; exact hP, va_K.moved hW.alike hK, hD.weaken (fun _ _ _ _ => trivial)⟩⟩ rfl rfl hl.1 rfl (lv_room (Nat.le_of_ble_eq_true rfl)) dX9_reads_78 ⟨Nat.le_of_ble_eq_true rfl, Nat.le_of_ble_eq_true rfl⟩) hS (fun q _ h => hFc q h) hFc (fun r_140 u t H1 locs ht hvm w_141 hB hz1 hk1 hS => ?_)
        subst w_141
        obtain ⟨k21_142, p22_143, k25_144, q_145, q_146, q_147, q_148, hP1, hK1, hD1⟩ := hB
        rw [ht] at hP1
        have hK := va_K.moved hvm.symm hK1
        generalize H1 = H at hP1 hS ⊢
        have hP : va_P D vwCl (mw h0 ad cs (upd (upd (upd (upd (upd (upd iv 21 (nI k21_142)) 22 p22_143) 25 (nI k25_144)) 29 (nI k29_104)) 30 (nI k30_105)) 31 (nI k31_106)) (uF (uF (uF (uF fv 15 f15_6) 16 f16_7) 19 f19_107) 28 f28_108) gv) H := hP1
        have hD : va_D A (mw h0 ad cs (upd (upd (upd (upd (upd (upd iv 21 (nI k21_142)) 22 p22_143) 25 (nI k25_144)) 29 (nI k29_104)) 30 (nI k30_105)) 31 (nI k31_106)) (uF (uF (uF (uF fv 15 f15_6) 16 f16_7) 19 f19_107) 28 f28_108) gv) := hD1.weaken (fun _ _ _ h => hFc _ h)
        rcases q_148 with hp_149 | ⟨rfl, hg_151, v_152, hv_153, rfl⟩
        · refine va_iast (f := fv 17) (n := 16) hx hb hK hP hD hS 13 12 rfl rfl (vp_in_nI (n := n14) (by omega) (by omega)) dX9_reads_81 (fun H locs hP hD hS => ?_)
          have hP : va_P D vwCl (mw h0 ad cs (upd (upd (upd (upd (upd (upd iv 21 (nI k21_142)) 22 p22_143) 25 (nI k25_144)) 29 (nI k29_104)) 30 (nI k30_105)) 31 (nI k31_106)) (uF (uF (uF (uF (uF fv 15 f15_6) 16 f16_7) 17 (upd (fv 17) (nI n14).toNatClampNeg r_140)) 19 f19_107) 28 f28_108) gv) H := hP
          have hD : va_D A (mw h0 ad cs (upd (upd (upd (upd (upd (upd iv 21 (nI k21_142)) 22 p22_143) 25 (nI k25_144)) 29 (nI k29_104)) 30 (nI k30_105)) 31 (nI k31_106)) (uF (uF (uF (uF (uF fv 15 f15_6) 16 f16_7) 17 (upd (fv 17) (nI n14).toNatClampNeg r_140)) 19 f19_107) 28 f28_108) gv) := hD
          obtain ⟨f_154, hf_155⟩ : ∃ g9, g9 = upd (fv 17) (nI n14).toNatClampNeg r_140 := ⟨_, rfl⟩
          rw [← hf_155] at hP hD
          rw [nI_clamp (n := n14) (by omega)] at hf_155
          refine lv_aload_n hx hb dX9_reads_82 rfl (lv_at hl 0 rfl) ?_
          refine va_get (D := D) (ci := 9) (v := .int (nI k21_142)) (C := RX9) (T := TX9) (N := 44) hx hb hts hin9 hown hK hP 0 rfl rfl 21 (by decide) (hts (.fieldLink RX9 74 "HoneyHouseModel" "faultKind" "I") (List.mem_of_getElem? (i := 2) rfl)) (fun _ h9 => h9) rfl dX9_reads_83 ?_
          refine lv_if_ne (tgt := 95) hx hb dX9_reads_86 (by decide) (fun c_156 => ?_) (fun c_156 => absurd c_156 (nI_ne0 (n := k21_142) (by omega) (by omega)))
          refine lv_aload_n hx hb dX9_reads_95 rfl (lv_at hl 0 rfl) ?_
          refine va_get (D := D) (ci := 9) (v := .int (nI k21_142)) (C := RX9) (T := TX9) (N := 44) hx hb hts hin9 hown hK hP 0 rfl rfl 21 (by decide) (hts (.fieldLink RX9 74 "HoneyHouseModel" "faultKind" "I") (List.mem_of_getElem? (i := 2) rfl)) (fun _ h9 => h9) rfl dX9_reads_96 ?_
          refine lv_if_ne (tgt := 119) hx hb dX9_reads_99 (by decide) (fun c_157 => ?_) (fun c_157 => absurd c_157 (nI_ne0 (n := k21_142) (by omega) (by omega)))
          have hP : va_P D vwCl (mw h0 ad cs (upd (upd (upd (upd (upd (upd iv 21 (nI k21_142)) 22 p22_143) 25 (nI k25_144)) 29 (nI k29_104)) 30 (nI k30_105)) 31 (nI k31_106)) (uF (uF (uF (uF (uF fv 15 f15_6) 16 f16_7) 17 f_154) 19 f19_107) 28 f28_108) gv) H := hP
          have hD : va_D A (mw h0 ad cs (upd (upd (upd (upd (upd (upd iv 21 (nI k21_142)) 22 p22_143) 25 (nI k25_144)) 29 (nI k29_104)) 30 (nI k30_105)) 31 (nI k31_106)) (uF (uF (uF (uF (uF fv 15 f15_6) 16 f16_7) 17 f_154) 19 f19_107) 28 f28_108) gv) := hD
          exact W.vret hx hb hr (fun t ht hW => ⟨⟨(), rfl, trivial, k21_142, p22_143, nI k25_144, nI k29_104, nI k30_105, nI k31_106, f15_6, f16_7, f_154, f19_107, f28_108, by omega, q_112, q_11, Or.inl (by omega), by rw [ht]; exact hP, va_K.moved hW.alike hK, hD⟩, hS.F ht⟩) hS.2.2 dX9_reads_119
        refine va_iast (f := fv 17) (n := 16) hx hb hK hP hD hS 13 12 rfl rfl (vp_in_nI (n := n14) (by omega) (by omega)) dX9_reads_81 (fun H locs hP hD hS => ?_)
        have hP : va_P D vwCl (mw h0 ad cs (upd (upd (upd (upd (upd (upd iv 21 (nI 0)) 22 p22_143) 25 (nI k25_144)) 29 (nI k29_104)) 30 (nI k30_105)) 31 (nI k31_106)) (uF (uF (uF (uF (uF fv 15 f15_6) 16 f16_7) 17 (upd (fv 17) (nI n14).toNatClampNeg (nI v_152))) 19 f19_107) 28 f28_108) gv) H := hP
        have hD : va_D A (mw h0 ad cs (upd (upd (upd (upd (upd (upd iv 21 (nI 0)) 22 p22_143) 25 (nI k25_144)) 29 (nI k29_104)) 30 (nI k30_105)) 31 (nI k31_106)) (uF (uF (uF (uF (uF fv 15 f15_6) 16 f16_7) 17 (upd (fv 17) (nI n14).toNatClampNeg (nI v_152))) 19 f19_107) 28 f28_108) gv) := hD
        obtain ⟨f_158, hf_159⟩ : ∃ g9, g9 = upd (fv 17) (nI n14).toNatClampNeg (nI v_152) := ⟨_, rfl⟩
        rw [← hf_159] at hP hD
        rw [nI_clamp (n := n14) (by omega)] at hf_159
        refine lv_aload_n hx hb dX9_reads_82 rfl (lv_at hl 0 rfl) ?_
        refine va_get (D := D) (ci := 9) (v := .int (nI 0)) (C := RX9) (T := TX9) (N := 44) hx hb hts hin9 hown hK hP 0 rfl rfl 21 (by decide) (hts (.fieldLink RX9 74 "HoneyHouseModel" "faultKind" "I") (List.mem_of_getElem? (i := 2) rfl)) (fun _ h9 => h9) rfl dX9_reads_83 ?_
        refine lv_if_ne (tgt := 95) hx hb dX9_reads_86 (by decide) (fun c_160 => absurd (by decide) c_160) (fun c_160 => ?_)
        refine lv_aload_n hx hb dX9_reads_89 rfl (lv_at hl 0 rfl) ?_
        refine lv_bipush (v := 59) hx hb dX9_reads_90 (by decide) ?_
        have hFc := free_all hD hS hA
        refine va_callv (va_runV (As := [.int 59]) (rest := []) ⟨hx, hb, hml, hown, hts⟩ (m_must l D h0 ad cs (upd (upd (upd (upd (upd (upd iv 21 (nI 0)) 22 p22_143) 25 (nI k25_144)) 29 (nI k29_104)) 30 (nI k30_105)) 31 (nI k31_106)) (uF (uF (uF (uF (uF fv 15 f15_6) 16 f16_7) 17 f_158) 19 f19_107) 28 f28_108) gv 0 k25_144 n26 59 H.size rfl rfl h26 (by omega) (by omega) (by omega) (by decide)) (cwV 1 hts gX9_reads_X9_must rfl rfl rfl (by decide +kernel) ⟨Nat.le_of_ble_eq_true rfl, Nat.le_of_ble_eq_true rfl⟩) ⟨fun a U g mk q => by obtain ⟨q0, q1, qP, qK, qD⟩ := q; exact ⟨q0, q1, qP, va_K.moved (u := U) (U := U.calling g mk a) (Vm.Alike.refl U.vm) qK, qD⟩, va_recv hK hP (ci := 9) (q0 := 0) rfl rfl, fun U hU hW => ⟨rfl, by rw [hU], by rw [hU]; exact hP, va_K.moved hW.alike hK, hD.weaken (fun _ _ _ _ => trivial)⟩⟩ rfl rfl hl.1 rfl (lv_room (Nat.le_of_ble_eq_true rfl)) dX9_reads_92 ⟨Nat.le_of_ble_eq_true rfl, Nat.le_of_ble_eq_true rfl⟩) hS (fun q _ h => hFc q h) hFc (fun u t H1 locs ht hvm w_162 hB hz1 hk1 hS => ?_)
        obtain ⟨k21_163, p22_164, k25_165, q_166, q_167, q_168, hP1, hK1, hD1⟩ := hB
        rw [ht] at hP1
        have hK := va_K.moved hvm.symm hK1
        generalize H1 = H at hP1 hS ⊢
        have hP : va_P D vwCl (mw h0 ad cs (upd (upd (upd (upd (upd (upd iv 21 (nI k21_163)) 22 p22_164) 25 (nI k25_165)) 29 (nI k29_104)) 30 (nI k30_105)) 31 (nI k31_106)) (uF (uF (uF (uF (uF fv 15 f15_6) 16 f16_7) 17 f_158) 19 f19_107) 28 f28_108) gv) H := hP1
        have hD : va_D A (mw h0 ad cs (upd (upd (upd (upd (upd (upd iv 21 (nI k21_163)) 22 p22_164) 25 (nI k25_165)) 29 (nI k29_104)) 30 (nI k30_105)) 31 (nI k31_106)) (uF (uF (uF (uF (uF fv 15 f15_6) 16 f16_7) 17 f_158) 19 f19_107) 28 f28_108) gv) := hD1.weaken (fun _ _ _ h => hFc _ h)
        refine lv_aload_n hx hb dX9_reads_95 rfl (lv_at hl 0 rfl) ?_
        refine va_get (D := D) (ci := 9) (v := .int (nI k21_163)) (C := RX9) (T := TX9) (N := 44) hx hb hts hin9 hown hK hP 0 rfl rfl 21 (by decide) (hts (.fieldLink RX9 74 "HoneyHouseModel" "faultKind" "I") (List.mem_of_getElem? (i := 2) rfl)) (fun _ h9 => h9) rfl dX9_reads_96 ?_
        refine lv_if_ne (tgt := 119) hx hb dX9_reads_99 (by decide) (fun c_169 => ?_) (fun c_169 => ?_)
        · have d_170 := n_ne (a := k21_163) (b := 0) (by omega) (by omega) c_169
          have hP : va_P D vwCl (mw h0 ad cs (upd (upd (upd (upd (upd (upd iv 21 (nI k21_163)) 22 p22_164) 25 (nI k25_165)) 29 (nI k29_104)) 30 (nI k30_105)) 31 (nI k31_106)) (uF (uF (uF (uF (uF fv 15 f15_6) 16 f16_7) 17 f_158) 19 f19_107) 28 f28_108) gv) H := hP
          have hD : va_D A (mw h0 ad cs (upd (upd (upd (upd (upd (upd iv 21 (nI k21_163)) 22 p22_164) 25 (nI k25_165)) 29 (nI k29_104)) 30 (nI k30_105)) 31 (nI k31_106)) (uF (uF (uF (uF (uF fv 15 f15_6) 16 f16_7) 17 f_158) 19 f19_107) 28 f28_108) gv) := hD
          exact W.vret hx hb hr (fun t ht hW => ⟨⟨(), rfl, trivial, k21_163, p22_164, nI k25_165, nI k29_104, nI k30_105, nI k31_106, f15_6, f16_7, f_158, f19_107, f28_108, by omega, q_112, q_11, ((Nat.eq_zero_or_pos k21_163).elim (fun h9 => by obtain ⟨n9, hn9⟩ := q_113.resolve_left (by omega); exact Or.inr ⟨q_12.resolve_left (by omega), k30_105, n9, rfl, by omega, hn9⟩) (fun h9 => Or.inl h9)), by rw [ht]; exact hP, va_K.moved hW.alike hK, hD⟩, hS.F ht⟩) hS.2.2 dX9_reads_119
        have d_171 := n_eq (a := k21_163) (b := 0) (by omega) (by omega) c_169
        refine lv_aload_n hx hb dX9_reads_102 rfl (lv_at hl 0 rfl) ?_
        have hFc := free_all hD hS hA
        refine va_calli (va_runV (As := []) (rest := []) ⟨hx, hb, hml, hown, hts⟩ (m_here l D h0 ad cs (upd (upd (upd (upd (upd (upd iv 21 (nI k21_163)) 22 p22_164) 25 (nI k25_165)) 29 (nI k29_104)) 30 (nI k30_105)) 31 (nI k31_106)) (uF (uF (uF (uF (uF fv 15 f15_6) 16 f16_7) 17 f_158) 19 f19_107) 28 f28_108) gv k25_165 n26  H.size rfl h26 (by omega) (by omega)) (cwV 0 hts gX9_reads_X9_here rfl rfl rfl (by decide +kernel) ⟨Nat.le_of_ble_eq_true rfl, Nat.le_of_ble_eq_true rfl⟩) ⟨fun a U g mk q => by obtain ⟨q0, q1, qP, qK, qD⟩ := q; exact ⟨q0, q1, qP, va_K.moved (u := U) (U := U.calling g mk a) (Vm.Alike.refl U.vm) qK, qD⟩, va_recv hK hP (ci := 9) (q0 := 0) rfl rfl, fun U hU hW => ⟨rfl, by rw [hU], by rw [hU]; exact hP, va_K.moved hW.alike hK, hD.weaken (fun _ _ _ _ => trivial)⟩⟩ rfl rfl hl.1 rfl (lv_room (Nat.le_of_ble_eq_true rfl)) dX9_reads_103 ⟨Nat.le_of_ble_eq_true rfl, Nat.le_of_ble_eq_true rfl⟩) hS (fun q _ h => hFc q h) hFc (fun r_172 u t H1 locs ht hvm w_173 hB hz1 hk1 hS => ?_)
        subst w_173
        obtain ⟨k25_174, q_175, q_176, q_177, q_178, q_179, hP1, hK1, hD1⟩ := hB
        replace q_177 : k25_174 = n26 ∨ ¬ blk ((fv 0) k25_174) := q_177
        replace q_178 : (k25_165 = n26 ∨ ¬ blk ((fv 0) k25_165)) → k25_174 = k25_165 := q_178
        replace q_179 : (r_172 = (-1) ∧ k25_174 = n26) ∨ (k25_174 < n26 ∧ r_172 = (fv 0) k25_174) := q_179
        rw [ht] at hP1
        have hK := va_K.moved hvm.symm hK1
        generalize H1 = H at hP1 hS ⊢
        have hP : va_P D vwCl (mw h0 ad cs (upd (upd (upd (upd (upd (upd iv 21 (nI k21_163)) 22 p22_164) 25 (nI k25_174)) 29 (nI k29_104)) 30 (nI k30_105)) 31 (nI k31_106)) (uF (uF (uF (uF (uF fv 15 f15_6) 16 f16_7) 17 f_158) 19 f19_107) 28 f28_108) gv) H := hP1
        have hD : va_D A (mw h0 ad cs (upd (upd (upd (upd (upd (upd iv 21 (nI k21_163)) 22 p22_164) 25 (nI k25_174)) 29 (nI k29_104)) 30 (nI k30_105)) 31 (nI k31_106)) (uF (uF (uF (uF (uF fv 15 f15_6) 16 f16_7) 17 f_158) 19 f19_107) 28 f28_108) gv) := hD1.weaken (fun _ _ _ h => hFc _ h)
        refine lv_iconst (v := (-1)) hx hb dX9_reads_106 (by decide) ?_
        refine lv_icmp_eq (tgt := 119) hx hb dX9_reads_107 (by decide) (fun c_180 => ?_) (fun c_180 => ?_)
        · have hP : va_P D vwCl (mw h0 ad cs (upd (upd (upd (upd (upd (upd iv 21 (nI k21_163)) 22 p22_164) 25 (nI k25_174)) 29 (nI k29_104)) 30 (nI k30_105)) 31 (nI k31_106)) (uF (uF (uF (uF (uF fv 15 f15_6) 16 f16_7) 17 f_158) 19 f19_107) 28 f28_108) gv) H := hP
          have hD : va_D A (mw h0 ad cs (upd (upd (upd (upd (upd (upd iv 21 (nI k21_163)) 22 p22_164) 25 (nI k25_174)) 29 (nI k29_104)) 30 (nI k30_105)) 31 (nI k31_106)) (uF (uF (uF (uF (uF fv 15 f15_6) 16 f16_7) 17 f_158) 19 f19_107) 28 f28_108) gv) := hD
          exact W.vret hx hb hr (fun t ht hW => ⟨⟨(), rfl, trivial, k21_163, p22_164, nI k25_174, nI k29_104, nI k30_105, nI k31_106, f15_6, f16_7, f_158, f19_107, f28_108, by omega, q_112, q_11, ((Nat.eq_zero_or_pos k21_163).elim (fun h9 => by obtain ⟨n9, hn9⟩ := q_113.resolve_left (by omega); exact Or.inr ⟨q_12.resolve_left (by omega), k30_105, n9, rfl, by omega, hn9⟩) (fun h9 => Or.inl h9)), by rw [ht]; exact hP, va_K.moved hW.alike hK, hD⟩, hS.F ht⟩) hS.2.2 dX9_reads_119
        refine lv_aload_n hx hb dX9_reads_110 rfl (lv_at hl 0 rfl) ?_
        refine lv_iconst (v := 1) hx hb dX9_reads_111 (by decide) ?_
        refine lv_aload_n hx hb dX9_reads_112 rfl (lv_at hl 0 rfl) ?_
        refine va_get (D := D) (ci := 9) (v := .int (nI k25_174)) (C := RX9) (T := TX9) (N := 44) hx hb hts hin9 hown hK hP 0 rfl rfl 25 (by decide) (hts (.fieldLink RX9 87 "HoneyHouseModel" "at" "I") (List.mem_of_getElem? (i := 1) rfl)) (fun _ h9 => h9) rfl dX9_reads_113 ?_
        have hFc := free_all hD hS hA
        refine va_callv (va_runV (As := [.int 1, .int (nI k25_174)]) (rest := []) ⟨hx, hb, hml, hown, hts⟩ (m_blame l D h0 ad cs (upd (upd (upd (upd (upd (upd iv 21 (nI k21_163)) 22 p22_164) 25 (nI k25_174)) 29 (nI k29_104)) 30 (nI k30_105)) 31 (nI k31_106)) (uF (uF (uF (uF (uF fv 15 f15_6) 16 f16_7) 17 f_158) 19 f19_107) 28 f28_108) gv k21_163 1 (nI k25_174) H.size rfl (by omega) (by omega)) (cwV 2 hts gX9_reads_X9_blame rfl rfl rfl (by decide +kernel) ⟨Nat.le_of_ble_eq_true rfl, Nat.le_of_ble_eq_true rfl⟩) ⟨fun a U g mk q => by obtain ⟨q0, q1, qP, qK, qD⟩ := q; exact ⟨q0, q1, qP, va_K.moved (u := U) (U := U.calling g mk a) (Vm.Alike.refl U.vm) qK, qD⟩, va_recv hK hP (ci := 9) (q0 := 0) rfl rfl, fun U hU hW => ⟨rfl, by rw [hU], by rw [hU]; exact hP, va_K.moved hW.alike hK, hD.weaken (fun _ _ _ _ => trivial)⟩⟩ rfl rfl hl.1 rfl (lv_room (Nat.le_of_ble_eq_true rfl)) dX9_reads_116 ⟨Nat.le_of_ble_eq_true rfl, Nat.le_of_ble_eq_true rfl⟩) hS (fun q _ h => hFc q h) hFc (fun u t H1 locs ht hvm w_182 hB hz1 hk1 hS => ?_)
        obtain ⟨k21_183, p22_184, q_185, q_186, hP1, hK1, hD1⟩ := hB
        rw [ht] at hP1
        have hK := va_K.moved hvm.symm hK1
        generalize H1 = H at hP1 hS ⊢
        have hP : va_P D vwCl (mw h0 ad cs (upd (upd (upd (upd (upd (upd iv 21 (nI k21_183)) 22 p22_184) 25 (nI k25_174)) 29 (nI k29_104)) 30 (nI k30_105)) 31 (nI k31_106)) (uF (uF (uF (uF (uF fv 15 f15_6) 16 f16_7) 17 f_158) 19 f19_107) 28 f28_108) gv) H := hP1
        have hD : va_D A (mw h0 ad cs (upd (upd (upd (upd (upd (upd iv 21 (nI k21_183)) 22 p22_184) 25 (nI k25_174)) 29 (nI k29_104)) 30 (nI k30_105)) 31 (nI k31_106)) (uF (uF (uF (uF (uF fv 15 f15_6) 16 f16_7) 17 f_158) 19 f19_107) 28 f28_108) gv) := hD1.weaken (fun _ _ _ h => hFc _ h)
        have hP : va_P D vwCl (mw h0 ad cs (upd (upd (upd (upd (upd (upd iv 21 (nI k21_183)) 22 p22_184) 25 (nI k25_174)) 29 (nI k29_104)) 30 (nI k30_105)) 31 (nI k31_106)) (uF (uF (uF (uF (uF fv 15 f15_6) 16 f16_7) 17 f_158) 19 f19_107) 28 f28_108) gv) H := hP
        have hD : va_D A (mw h0 ad cs (upd (upd (upd (upd (upd (upd iv 21 (nI k21_183)) 22 p22_184) 25 (nI k25_174)) 29 (nI k29_104)) 30 (nI k30_105)) 31 (nI k31_106)) (uF (uF (uF (uF (uF fv 15 f15_6) 16 f16_7) 17 f_158) 19 f19_107) 28 f28_108) gv) := hD
        exact W.vret hx hb hr (fun t ht hW => ⟨⟨(), rfl, trivial, k21_183, p22_184, nI k25_174, nI k29_104, nI k30_105, nI k31_106, f15_6, f16_7, f_158, f19_107, f28_108, by omega, q_112, q_11, Or.inl (by omega), by rw [ht]; exact hP, va_K.moved hW.alike hK, hD⟩, hS.F ht⟩) hS.2.2 dX9_reads_119
      have d_187 := n_ne (a := c_123) (b := 0) (by omega) (by omega) c_134
      refine lv_aload_n hx hb dX9_reads_48 rfl (lv_at hl 0 rfl) ?_
      refine lv_iconst (v := 1) hx hb dX9_reads_49 (by decide) ?_
      refine lv_aload_n hx hb dX9_reads_50 rfl (lv_at hl 0 rfl) ?_
      refine va_get (D := D) (ci := 9) (v := .int (nI k25_118)) (C := RX9) (T := TX9) (N := 44) hx hb hts hin9 hown hK hP 0 rfl rfl 25 (by decide) (hts (.fieldLink RX9 87 "HoneyHouseModel" "at" "I") (List.mem_of_getElem? (i := 1) rfl)) (fun _ h9 => h9) rfl dX9_reads_51 ?_
      have hFc := free_all hD hS hA
      refine va_callv (va_runV (As := [.int 1, .int (nI k25_118)]) (rest := []) ⟨hx, hb, hml, hown, hts⟩ (m_blame l D h0 ad cs (upd (upd (upd (upd (upd (upd iv 21 (nI k21_101)) 22 p22_102) 25 (nI k25_118)) 29 (nI k29_104)) 30 (nI k30_105)) 31 (nI k31_106)) (uF (uF (uF (uF fv 15 f15_6) 16 f16_7) 19 f19_107) 28 f28_108) gv k21_101 1 (nI k25_118) H.size rfl (by omega) (by omega)) (cwV 2 hts gX9_reads_X9_blame rfl rfl rfl (by decide +kernel) ⟨Nat.le_of_ble_eq_true rfl, Nat.le_of_ble_eq_true rfl⟩) ⟨fun a U g mk q => by obtain ⟨q0, q1, qP, qK, qD⟩ := q; exact ⟨q0, q1, qP, va_K.moved (u := U) (U := U.calling g mk a) (Vm.Alike.refl U.vm) qK, qD⟩, va_recv hK hP (ci := 9) (q0 := 0) rfl rfl, fun U hU hW => ⟨rfl, by rw [hU], by rw [hU]; exact hP, va_K.moved hW.alike hK, hD.weaken (fun _ _ _ _ => trivial)⟩⟩ rfl rfl hl.1 rfl (lv_room (Nat.le_of_ble_eq_true rfl)) dX9_reads_54 ⟨Nat.le_of_ble_eq_true rfl, Nat.le_of_ble_eq_true rfl⟩) hS (fun q _ h => hFc q h) hFc (fun u t H1 locs ht hvm w_189 hB hz1 hk1 hS => ?_)
      obtain ⟨k21_190, p22_191, q_192, q_193, hP1, hK1, hD1⟩ := hB
      rw [ht] at hP1
      have hK := va_K.moved hvm.symm hK1
      generalize H1 = H at hP1 hS ⊢
      have hP : va_P D vwCl (mw h0 ad cs (upd (upd (upd (upd (upd (upd iv 21 (nI k21_190)) 22 p22_191) 25 (nI k25_118)) 29 (nI k29_104)) 30 (nI k30_105)) 31 (nI k31_106)) (uF (uF (uF (uF fv 15 f15_6) 16 f16_7) 19 f19_107) 28 f28_108) gv) H := hP1
      have hD : va_D A (mw h0 ad cs (upd (upd (upd (upd (upd (upd iv 21 (nI k21_190)) 22 p22_191) 25 (nI k25_118)) 29 (nI k29_104)) 30 (nI k30_105)) 31 (nI k31_106)) (uF (uF (uF (uF fv 15 f15_6) 16 f16_7) 19 f19_107) 28 f28_108) gv) := hD1.weaken (fun _ _ _ h => hFc _ h)
      have hP : va_P D vwCl (mw h0 ad cs (upd (upd (upd (upd (upd (upd iv 21 (nI k21_190)) 22 p22_191) 25 (nI k25_118)) 29 (nI k29_104)) 30 (nI k30_105)) 31 (nI k31_106)) (uF (uF (uF (uF (uF fv 15 f15_6) 16 f16_7) 17 (fv 17)) 19 f19_107) 28 f28_108) gv) H := hP
      have hD : va_D A (mw h0 ad cs (upd (upd (upd (upd (upd (upd iv 21 (nI k21_190)) 22 p22_191) 25 (nI k25_118)) 29 (nI k29_104)) 30 (nI k30_105)) 31 (nI k31_106)) (uF (uF (uF (uF (uF fv 15 f15_6) 16 f16_7) 17 (fv 17)) 19 f19_107) 28 f28_108) gv) := hD
      exact W.vret hx hb hr (fun t ht hW => ⟨⟨(), rfl, trivial, k21_190, p22_191, nI k25_118, nI k29_104, nI k30_105, nI k31_106, f15_6, f16_7, fv 17, f19_107, f28_108, by omega, q_112, q_11, Or.inl (by omega), by rw [ht]; exact hP, va_K.moved hW.alike hK, hD⟩, hS.F ht⟩) hS.2.2 dX9_reads_57
    have d_194 := n_nle (a := k21_101) (b := 0) (by omega) (by omega) c_114
    have hP : va_P D vwCl (mw h0 ad cs (upd (upd (upd (upd (upd (upd iv 21 (nI k21_101)) 22 p22_102) 25 (nI k25_103)) 29 (nI k29_104)) 30 (nI k30_105)) 31 (nI k31_106)) (uF (uF (uF (uF (uF fv 15 f15_6) 16 f16_7) 17 (fv 17)) 19 f19_107) 28 f28_108) gv) H := hP
    have hD : va_D A (mw h0 ad cs (upd (upd (upd (upd (upd (upd iv 21 (nI k21_101)) 22 p22_102) 25 (nI k25_103)) 29 (nI k29_104)) 30 (nI k30_105)) 31 (nI k31_106)) (uF (uF (uF (uF (uF fv 15 f15_6) 16 f16_7) 17 (fv 17)) 19 f19_107) 28 f28_108) gv) := hD
    exact W.vret hx hb hr (fun t ht hW => ⟨⟨(), rfl, trivial, k21_101, p22_102, nI k25_103, nI k29_104, nI k30_105, nI k31_106, f15_6, f16_7, fv 17, f19_107, f28_108, by omega, q_112, q_11, Or.inl (by omega), by rw [ht]; exact hP, va_K.moved hW.alike hK, hD⟩, hS.F ht⟩) hS.2.2 dX9_reads_40
  have d_195 := n_eq (a := k21_3) (b := 0) (by omega) (by omega) c_13
  refine lv_aload_n hx hb dX9_reads_16 rfl (lv_at hl 0 rfl) ?_
  refine lv_bipush (v := 58) hx hb dX9_reads_17 (by decide) ?_
  have hFc := free_all hD hS hA
  refine va_callv (va_runV (As := [.int 58]) (rest := []) ⟨hx, hb, hml, hown, hts⟩ (m_must l D h0 ad cs (upd (upd (upd iv 21 (nI k21_3)) 22 p22_4) 25 (nI k25_5)) (uF (uF fv 15 f15_6) 16 f16_7) gv k21_3 k25_5 n26 58 H.size rfl rfl h26 (by omega) (by omega) (by omega) (by decide)) (cwV 1 hts gX9_reads_X9_must rfl rfl rfl (by decide +kernel) ⟨Nat.le_of_ble_eq_true rfl, Nat.le_of_ble_eq_true rfl⟩) ⟨fun a U g mk q => by obtain ⟨q0, q1, qP, qK, qD⟩ := q; exact ⟨q0, q1, qP, va_K.moved (u := U) (U := U.calling g mk a) (Vm.Alike.refl U.vm) qK, qD⟩, va_recv hK hP (ci := 9) (q0 := 0) rfl rfl, fun U hU hW => ⟨rfl, by rw [hU], by rw [hU]; exact hP, va_K.moved hW.alike hK, hD.weaken (fun _ _ _ _ => trivial)⟩⟩ rfl rfl hl.1 rfl (lv_room (Nat.le_of_ble_eq_true rfl)) dX9_reads_19 ⟨Nat.le_of_ble_eq_true rfl, Nat.le_of_ble_eq_true rfl⟩) hS (fun q _ h => hFc q h) hFc (fun u t H1 locs ht hvm w_197 hB hz1 hk1 hS => ?_)
  obtain ⟨k21_198, p22_199, k25_200, q_201, q_202, q_203, hP1, hK1, hD1⟩ := hB
  rw [ht] at hP1
  have hK := va_K.moved hvm.symm hK1
  generalize H1 = H at hP1 hS ⊢
  have hP : va_P D vwCl (mw h0 ad cs (upd (upd (upd iv 21 (nI k21_198)) 22 p22_199) 25 (nI k25_200)) (uF (uF fv 15 f15_6) 16 f16_7) gv) H := hP1
  have hD : va_D A (mw h0 ad cs (upd (upd (upd iv 21 (nI k21_198)) 22 p22_199) 25 (nI k25_200)) (uF (uF fv 15 f15_6) 16 f16_7) gv) := hD1.weaken (fun _ _ _ h => hFc _ h)
  refine lv_aload_n hx hb dX9_reads_22 rfl (lv_at hl 0 rfl) ?_
  refine va_get (D := D) (ci := 9) (v := .int (nI k21_198)) (C := RX9) (T := TX9) (N := 44) hx hb hts hin9 hown hK hP 0 rfl rfl 21 (by decide) (hts (.fieldLink RX9 74 "HoneyHouseModel" "faultKind" "I") (List.mem_of_getElem? (i := 2) rfl)) (fun _ h9 => h9) rfl dX9_reads_23 ?_
  refine lv_if_ne (tgt := 33) hx hb dX9_reads_26 (by decide) (fun c_204 => ?_) (fun c_204 => ?_)
  · have d_205 := n_ne (a := k21_198) (b := 0) (by omega) (by omega) c_204
    refine lv_aload_n hx hb dX9_reads_33 rfl (lv_at hl 0 rfl) ?_
    refine va_get (D := D) (ci := 9) (v := .int (nI k21_198)) (C := RX9) (T := TX9) (N := 44) hx hb hts hin9 hown hK hP 0 rfl rfl 21 (by decide) (hts (.fieldLink RX9 74 "HoneyHouseModel" "faultKind" "I") (List.mem_of_getElem? (i := 2) rfl)) (fun _ h9 => h9) rfl dX9_reads_34 ?_
    refine lv_if_le (tgt := 41) hx hb dX9_reads_37 (by decide) (fun c_206 => ?_) (fun c_206 => ?_)
    · have d_207 := n_le (a := k21_198) (b := 0) (by omega) (by omega) c_206
      refine lv_aload_n hx hb dX9_reads_41 rfl (lv_at hl 0 rfl) ?_
      have hFc := free_all hD hS hA
      refine va_calli (va_runV (As := []) (rest := []) ⟨hx, hb, hml, hown, hts⟩ (m_peek l D h0 ad cs (upd (upd (upd iv 21 (nI k21_198)) 22 p22_199) 25 (nI k25_200)) (uF (uF fv 15 f15_6) 16 f16_7) gv k25_200 n26  H.size rfl h26 (by omega) (by omega)) (cwV 0 hts gX9_reads_X9_peek rfl rfl rfl (by decide +kernel) ⟨Nat.le_of_ble_eq_true rfl, Nat.le_of_ble_eq_true rfl⟩) ⟨fun a U g mk q => by obtain ⟨q0, q1, qP, qK, qD⟩ := q; exact ⟨q0, q1, qP, va_K.moved (u := U) (U := U.calling g mk a) (Vm.Alike.refl U.vm) qK, qD⟩, va_recv hK hP (ci := 9) (q0 := 0) rfl rfl, fun U hU hW => ⟨rfl, by rw [hU], by rw [hU]; exact hP, va_K.moved hW.alike hK, hD.weaken (fun _ _ _ _ => trivial)⟩⟩ rfl rfl hl.1 rfl (lv_room (Nat.le_of_ble_eq_true rfl)) dX9_reads_42 ⟨Nat.le_of_ble_eq_true rfl, Nat.le_of_ble_eq_true rfl⟩) hS (fun q _ h => hFc q h) hFc (fun r_208 u t H1 locs ht hvm w_209 hB hz1 hk1 hS => ?_)
      subst w_209
      obtain ⟨k25_210, q_211, q_212, q_213, q_214, hP1, hK1, hD1⟩ := hB
      replace q_213 : (k25_200 = n26 ∨ ¬ blk ((fv 0) k25_200)) → k25_210 = k25_200 := q_213
      replace q_214 : r_208 = (-1) ∨ ∃ c e : Nat, r_208 = nI c ∧ isE ((fv 0)) n26 k25_210 e ∧ ((c = 0 ∧ e = k25_210 + 4) ∨ (c = 1 ∧ e = k25_210 + 2) ∨ (c = 2 ∧ e = k25_210 + 3) ∨ (c = 3 ∧ e = k25_210 + 3) ∨ (c = 4 ∧ e = k25_210 + 5) ∨ (c = 5 ∧ e = k25_210 + 6) ∨ (c = 6 ∧ e = k25_210 + 4) ∨ (c = 7 ∧ e = k25_210 + 6) ∨ (c = 8 ∧ e = k25_210 + 4) ∨ (c = 9 ∧ e = k25_210 + 3) ∨ (c = 10 ∧ e = k25_210 + 3) ∨ c = 11) := q_214
      rw [ht] at hP1
      have hK := va_K.moved hvm.symm hK1
      generalize H1 = H at hP1 hS ⊢
      have hP : va_P D vwCl (mw h0 ad cs (upd (upd (upd iv 21 (nI k21_198)) 22 p22_199) 25 (nI k25_210)) (uF (uF fv 15 f15_6) 16 f16_7) gv) H := hP1
      have hD : va_D A (mw h0 ad cs (upd (upd (upd iv 21 (nI k21_198)) 22 p22_199) 25 (nI k25_210)) (uF (uF fv 15 f15_6) 16 f16_7) gv) := hD1.weaken (fun _ _ _ h => hFc _ h)
      rcases q_214 with rfl | ⟨c_215, e_216, rfl, he_217, hc_218⟩
      · refine lv_if_eq (tgt := 58) hx hb dX9_reads_45 (by decide) (fun c_219 => absurd c_219 (by decide)) (fun c_219 => ?_)
        refine lv_aload_n hx hb dX9_reads_48 rfl (lv_at hl 0 rfl) ?_
        refine lv_iconst (v := 1) hx hb dX9_reads_49 (by decide) ?_
        refine lv_aload_n hx hb dX9_reads_50 rfl (lv_at hl 0 rfl) ?_
        refine va_get (D := D) (ci := 9) (v := .int (nI k25_210)) (C := RX9) (T := TX9) (N := 44) hx hb hts hin9 hown hK hP 0 rfl rfl 25 (by decide) (hts (.fieldLink RX9 87 "HoneyHouseModel" "at" "I") (List.mem_of_getElem? (i := 1) rfl)) (fun _ h9 => h9) rfl dX9_reads_51 ?_
        have hFc := free_all hD hS hA
        refine va_callv (va_runV (As := [.int 1, .int (nI k25_210)]) (rest := []) ⟨hx, hb, hml, hown, hts⟩ (m_blame l D h0 ad cs (upd (upd (upd iv 21 (nI k21_198)) 22 p22_199) 25 (nI k25_210)) (uF (uF fv 15 f15_6) 16 f16_7) gv k21_198 1 (nI k25_210) H.size rfl (by omega) (by omega)) (cwV 2 hts gX9_reads_X9_blame rfl rfl rfl (by decide +kernel) ⟨Nat.le_of_ble_eq_true rfl, Nat.le_of_ble_eq_true rfl⟩) ⟨fun a U g mk q => by obtain ⟨q0, q1, qP, qK, qD⟩ := q; exact ⟨q0, q1, qP, va_K.moved (u := U) (U := U.calling g mk a) (Vm.Alike.refl U.vm) qK, qD⟩, va_recv hK hP (ci := 9) (q0 := 0) rfl rfl, fun U hU hW => ⟨rfl, by rw [hU], by rw [hU]; exact hP, va_K.moved hW.alike hK, hD.weaken (fun _ _ _ _ => trivial)⟩⟩ rfl rfl hl.1 rfl (lv_room (Nat.le_of_ble_eq_true rfl)) dX9_reads_54 ⟨Nat.le_of_ble_eq_true rfl, Nat.le_of_ble_eq_true rfl⟩) hS (fun q _ h => hFc q h) hFc (fun u t H1 locs ht hvm w_221 hB hz1 hk1 hS => ?_)
        obtain ⟨k21_222, p22_223, q_224, q_225, hP1, hK1, hD1⟩ := hB
        rw [ht] at hP1
        have hK := va_K.moved hvm.symm hK1
        generalize H1 = H at hP1 hS ⊢
        have hP : va_P D vwCl (mw h0 ad cs (upd (upd (upd iv 21 (nI k21_222)) 22 p22_223) 25 (nI k25_210)) (uF (uF fv 15 f15_6) 16 f16_7) gv) H := hP1
        have hD : va_D A (mw h0 ad cs (upd (upd (upd iv 21 (nI k21_222)) 22 p22_223) 25 (nI k25_210)) (uF (uF fv 15 f15_6) 16 f16_7) gv) := hD1.weaken (fun _ _ _ h => hFc _ h)
        have hP : va_P D vwCl (mw h0 ad cs (upd (upd (upd (upd (upd (upd iv 21 (nI k21_222)) 22 p22_223) 25 (nI k25_210)) 29 (iv 29)) 30 (iv 30)) 31 (iv 31)) (uF (uF (uF (uF (uF fv 15 f15_6) 16 f16_7) 17 (fv 17)) 19 (fv 19)) 28 (fv 28)) gv) H := hP
        have hD : va_D A (mw h0 ad cs (upd (upd (upd (upd (upd (upd iv 21 (nI k21_222)) 22 p22_223) 25 (nI k25_210)) 29 (iv 29)) 30 (iv 30)) 31 (iv 31)) (uF (uF (uF (uF (uF fv 15 f15_6) 16 f16_7) 17 (fv 17)) 19 (fv 19)) 28 (fv 28)) gv) := hD
        exact W.vret hx hb hr (fun t ht hW => ⟨⟨(), rfl, trivial, k21_222, p22_223, nI k25_210, iv 29, iv 30, iv 31, f15_6, f16_7, fv 17, fv 19, fv 28, by omega, fun i h9 => rfl, q_11, Or.inl (by omega), by rw [ht]; exact hP, va_K.moved hW.alike hK, hD⟩, hS.F ht⟩) hS.2.2 dX9_reads_57
      have he_217b : k25_210 ≤ e_216 ∧ e_216 ≤ n26 := ⟨he_217.1, he_217.2.1⟩
      refine lv_if_eq (tgt := 58) hx hb dX9_reads_45 (by decide) (fun c_226 => ?_) (fun c_226 => ?_)
      · have d_227 := n_eq (a := c_215) (b := 0) (by omega) (by omega) c_226
        refine lv_aload_n hx hb dX9_reads_58 rfl (lv_at hl 0 rfl) ?_
        refine lv_aload_n hx hb dX9_reads_59 rfl (lv_at hl 0 rfl) ?_
        refine vp_callSi (W.runV (As := []) (rest := [.ref h0]) ⟨hx, hb, hml, hown, hts⟩ (m_wordEnd l D h0 ad cs (upd (upd (upd iv 21 (nI k21_198)) 22 p22_199) 25 (nI k25_210)) (uF (uF fv 15 f15_6) 16 f16_7) gv k25_210 n26  rfl h26 (by omega) (by omega)) (cwV 0 hts gX9_reads_X9_wordEnd rfl rfl rfl (by decide +kernel) ⟨Nat.le_of_ble_eq_true rfl, Nat.le_of_ble_eq_true rfl⟩) ⟨fun a U g mk q => ⟨q.1, q.2.1, va_K.moved (u := U) (U := U.calling g mk a) (Vm.Alike.refl U.vm) q.2.2⟩, va_recv hK hP (ci := 9) (q0 := 0) rfl rfl, fun U hU hW => ⟨rfl, by rw [hU]; exact hP, va_K.moved hW.alike hK⟩⟩ rfl rfl hl.1 rfl (lv_room (Nat.le_of_ble_eq_true rfl)) dX9_reads_60 ⟨Nat.le_of_ble_eq_true rfl, Nat.le_of_ble_eq_true rfl⟩) (fun r_228 k_229 => ?_)
        obtain ⟨e_230, rfl, he_231⟩ := k_229
        have hq_e_230 : e_230 = e_216 := he_231.uq he_217
        refine va_put (D := D) (ci := 9) (v := .int (nI e_230)) (ty := .int) (C := RX9) (T := TX9) (N := 44) hx hb hts hin9 tyX9 tyX9_ok nmX9 hown hK hP hD hS 0 rfl rfl 25 (by decide) (hts (.fieldLink RX9 87 "HoneyHouseModel" "at" "I") (List.mem_of_getElem? (i := 1) rfl)) (fun _ h9 => h9) rfl (tyX9_ok 25 (by decide)) rfl rfl (Nat.le_of_ble_eq_true rfl) dX9_reads_63 (fun H locs hP hD hS => ?_)
        have hP : va_P D vwCl (mw h0 ad cs (upd (upd (upd iv 21 (nI k21_198)) 22 p22_199) 25 (nI e_230)) (uF (uF fv 15 f15_6) 16 f16_7) gv) H := hP
        have hD : va_D A (mw h0 ad cs (upd (upd (upd iv 21 (nI k21_198)) 22 p22_199) 25 (nI e_230)) (uF (uF fv 15 f15_6) 16 f16_7) gv) := hD
        refine lv_aload_n hx hb dX9_reads_66 rfl (lv_at hl 0 rfl) ?_
        refine va_get (D := D) (ci := 9) (v := .ref (ad 17)) (C := RX9) (T := TX9) (N := 44) hx hb hts hin9 hown hK hP 0 rfl rfl 17 (by decide) (hts (.fieldLink RX9 62 "HoneyHouseModel" "from" "[I") (List.mem_of_getElem? (i := 3) rfl)) (fun _ h9 => h9) rfl dX9_reads_67 ?_
        refine lv_aload_n hx hb dX9_reads_70 rfl (lv_at hl 0 rfl) ?_
        refine va_get (D := D) (ci := 9) (v := .int (iv 14)) (C := RX9) (T := TX9) (N := 44) hx hb hts hin9 hown hK hP 0 rfl rfl 14 (by decide) (hts (.fieldLink RX9 53 "HoneyHouseModel" "rules" "I") (List.mem_of_getElem? (i := 4) rfl)) (fun _ h9 => h9) rfl dX9_reads_71 ?_
        refine tp_i (y := nI n14) (h14) ?_
        refine lv_aload_n hx hb dX9_reads_74 rfl (lv_at hl 0 rfl) ?_
        refine lv_sipush (v := 30000) hx hb dX9_reads_75 (by decide) ?_
        have hFc := free_all hD hS hA
        refine va_calli (va_runV (As := [.int 30000]) (rest := [.int (nI n14), .ref (ad 17)]) ⟨hx, hb, hml, hown, hts⟩ (m_number l D h0 ad cs (upd (upd (upd iv 21 (nI k21_198)) 22 p22_199) 25 (nI e_230)) (uF (uF fv 15 f15_6) 16 f16_7) gv k21_198 e_230 n26 30000 H.size rfl rfl h26 (by omega) (by omega) (by omega) (by omega)) (cwV 1 hts gX9_reads_X9_number rfl rfl rfl (by decide +kernel) ⟨Nat.le_of_ble_eq_true rfl, Nat.le_of_ble_eq_true rfl⟩) ⟨fun a U g mk q => by obtain ⟨q0, q1, qP, qK, qD⟩ := q; exact ⟨q0, q1, qP, va_K.moved (u := U) (U := U.calling g mk a) (Vm.Alike.refl U.vm) qK, qD⟩, va_recv hK hP (ci := 9) (q0 := 0) rfl rfl, fun U hU hW => ⟨rfl, by rw [hU], by rw [hU]; exact hP, va_K.moved hW.alike hK, hD.weaken (fun _ _ _ _ => trivial)⟩⟩ rfl rfl hl.1 rfl (lv_room (Nat.le_of_ble_eq_true rfl)) dX9_reads_78 ⟨Nat.le_of_ble_eq_true rfl, Nat.le_of_ble_eq_true rfl⟩) hS (fun q _ h => hFc q h) hFc (fun r_232 u t H1 locs ht hvm w_233 hB hz1 hk1 hS => ?_)
        subst w_233
        obtain ⟨k21_234, p22_235, k25_236, q_237, q_238, q_239, q_240, hP1, hK1, hD1⟩ := hB
        rw [ht] at hP1
        have hK := va_K.moved hvm.symm hK1
        generalize H1 = H at hP1 hS ⊢
        have hP : va_P D vwCl (mw h0 ad cs (upd (upd (upd iv 21 (nI k21_234)) 22 p22_235) 25 (nI k25_236)) (uF (uF fv 15 f15_6) 16 f16_7) gv) H := hP1
        have hD : va_D A (mw h0 ad cs (upd (upd (upd iv 21 (nI k21_234)) 22 p22_235) 25 (nI k25_236)) (uF (uF fv 15 f15_6) 16 f16_7) gv) := hD1.weaken (fun _ _ _ h => hFc _ h)
        rcases q_240 with hp_241 | ⟨rfl, hg_243, v_244, hv_245, rfl⟩
        · refine va_iast (f := fv 17) (n := 16) hx hb hK hP hD hS 13 12 rfl rfl (vp_in_nI (n := n14) (by omega) (by omega)) dX9_reads_81 (fun H locs hP hD hS => ?_)
          have hP : va_P D vwCl (mw h0 ad cs (upd (upd (upd iv 21 (nI k21_234)) 22 p22_235) 25 (nI k25_236)) (uF (uF (uF fv 15 f15_6) 16 f16_7) 17 (upd (fv 17) (nI n14).toNatClampNeg r_232)) gv) H := hP
          have hD : va_D A (mw h0 ad cs (upd (upd (upd iv 21 (nI k21_234)) 22 p22_235) 25 (nI k25_236)) (uF (uF (uF fv 15 f15_6) 16 f16_7) 17 (upd (fv 17) (nI n14).toNatClampNeg r_232)) gv) := hD
          obtain ⟨f_246, hf_247⟩ : ∃ g9, g9 = upd (fv 17) (nI n14).toNatClampNeg r_232 := ⟨_, rfl⟩
          rw [← hf_247] at hP hD
          rw [nI_clamp (n := n14) (by omega)] at hf_247
          refine lv_aload_n hx hb dX9_reads_82 rfl (lv_at hl 0 rfl) ?_
          refine va_get (D := D) (ci := 9) (v := .int (nI k21_234)) (C := RX9) (T := TX9) (N := 44) hx hb hts hin9 hown hK hP 0 rfl rfl 21 (by decide) (hts (.fieldLink RX9 74 "HoneyHouseModel" "faultKind" "I") (List.mem_of_getElem? (i := 2) rfl)) (fun _ h9 => h9) rfl dX9_reads_83 ?_
          refine lv_if_ne (tgt := 95) hx hb dX9_reads_86 (by decide) (fun c_248 => ?_) (fun c_248 => absurd c_248 (nI_ne0 (n := k21_234) (by omega) (by omega)))
          refine lv_aload_n hx hb dX9_reads_95 rfl (lv_at hl 0 rfl) ?_
          refine va_get (D := D) (ci := 9) (v := .int (nI k21_234)) (C := RX9) (T := TX9) (N := 44) hx hb hts hin9 hown hK hP 0 rfl rfl 21 (by decide) (hts (.fieldLink RX9 74 "HoneyHouseModel" "faultKind" "I") (List.mem_of_getElem? (i := 2) rfl)) (fun _ h9 => h9) rfl dX9_reads_96 ?_
          refine lv_if_ne (tgt := 119) hx hb dX9_reads_99 (by decide) (fun c_249 => ?_) (fun c_249 => absurd c_249 (nI_ne0 (n := k21_234) (by omega) (by omega)))
          have hP : va_P D vwCl (mw h0 ad cs (upd (upd (upd (upd (upd (upd iv 21 (nI k21_234)) 22 p22_235) 25 (nI k25_236)) 29 (iv 29)) 30 (iv 30)) 31 (iv 31)) (uF (uF (uF (uF (uF fv 15 f15_6) 16 f16_7) 17 f_246) 19 (fv 19)) 28 (fv 28)) gv) H := hP
          have hD : va_D A (mw h0 ad cs (upd (upd (upd (upd (upd (upd iv 21 (nI k21_234)) 22 p22_235) 25 (nI k25_236)) 29 (iv 29)) 30 (iv 30)) 31 (iv 31)) (uF (uF (uF (uF (uF fv 15 f15_6) 16 f16_7) 17 f_246) 19 (fv 19)) 28 (fv 28)) gv) := hD
          exact W.vret hx hb hr (fun t ht hW => ⟨⟨(), rfl, trivial, k21_234, p22_235, nI k25_236, iv 29, iv 30, iv 31, f15_6, f16_7, f_246, fv 19, fv 28, by omega, fun i h9 => rfl, q_11, Or.inl (by omega), by rw [ht]; exact hP, va_K.moved hW.alike hK, hD⟩, hS.F ht⟩) hS.2.2 dX9_reads_119
        refine va_iast (f := fv 17) (n := 16) hx hb hK hP hD hS 13 12 rfl rfl (vp_in_nI (n := n14) (by omega) (by omega)) dX9_reads_81 (fun H locs hP hD hS => ?_)
        have hP : va_P D vwCl (mw h0 ad cs (upd (upd (upd iv 21 (nI 0)) 22 p22_235) 25 (nI k25_236)) (uF (uF (uF fv 15 f15_6) 16 f16_7) 17 (upd (fv 17) (nI n14).toNatClampNeg (nI v_244))) gv) H := hP
        have hD : va_D A (mw h0 ad cs (upd (upd (upd iv 21 (nI 0)) 22 p22_235) 25 (nI k25_236)) (uF (uF (uF fv 15 f15_6) 16 f16_7) 17 (upd (fv 17) (nI n14).toNatClampNeg (nI v_244))) gv) := hD
        obtain ⟨f_250, hf_251⟩ : ∃ g9, g9 = upd (fv 17) (nI n14).toNatClampNeg (nI v_244) := ⟨_, rfl⟩
        rw [← hf_251] at hP hD
        rw [nI_clamp (n := n14) (by omega)] at hf_251
        refine lv_aload_n hx hb dX9_reads_82 rfl (lv_at hl 0 rfl) ?_
        refine va_get (D := D) (ci := 9) (v := .int (nI 0)) (C := RX9) (T := TX9) (N := 44) hx hb hts hin9 hown hK hP 0 rfl rfl 21 (by decide) (hts (.fieldLink RX9 74 "HoneyHouseModel" "faultKind" "I") (List.mem_of_getElem? (i := 2) rfl)) (fun _ h9 => h9) rfl dX9_reads_83 ?_
        refine lv_if_ne (tgt := 95) hx hb dX9_reads_86 (by decide) (fun c_252 => absurd (by decide) c_252) (fun c_252 => ?_)
        refine lv_aload_n hx hb dX9_reads_89 rfl (lv_at hl 0 rfl) ?_
        refine lv_bipush (v := 59) hx hb dX9_reads_90 (by decide) ?_
        have hFc := free_all hD hS hA
        refine va_callv (va_runV (As := [.int 59]) (rest := []) ⟨hx, hb, hml, hown, hts⟩ (m_must l D h0 ad cs (upd (upd (upd iv 21 (nI 0)) 22 p22_235) 25 (nI k25_236)) (uF (uF (uF fv 15 f15_6) 16 f16_7) 17 f_250) gv 0 k25_236 n26 59 H.size rfl rfl h26 (by omega) (by omega) (by omega) (by decide)) (cwV 1 hts gX9_reads_X9_must rfl rfl rfl (by decide +kernel) ⟨Nat.le_of_ble_eq_true rfl, Nat.le_of_ble_eq_true rfl⟩) ⟨fun a U g mk q => by obtain ⟨q0, q1, qP, qK, qD⟩ := q; exact ⟨q0, q1, qP, va_K.moved (u := U) (U := U.calling g mk a) (Vm.Alike.refl U.vm) qK, qD⟩, va_recv hK hP (ci := 9) (q0 := 0) rfl rfl, fun U hU hW => ⟨rfl, by rw [hU], by rw [hU]; exact hP, va_K.moved hW.alike hK, hD.weaken (fun _ _ _ _ => trivial)⟩⟩ rfl rfl hl.1 rfl (lv_room (Nat.le_of_ble_eq_true rfl)) dX9_reads_92 ⟨Nat.le_of_ble_eq_true rfl, Nat.le_of_ble_eq_true rfl⟩) hS (fun q _ h => hFc q h) hFc (fun u t H1 locs ht hvm w_254 hB hz1 hk1 hS => ?_)
        obtain ⟨k21_255, p22_256, k25_257, q_258, q_259, q_260, hP1, hK1, hD1⟩ := hB
        rw [ht] at hP1
        have hK := va_K.moved hvm.symm hK1
        generalize H1 = H at hP1 hS ⊢
        have hP : va_P D vwCl (mw h0 ad cs (upd (upd (upd iv 21 (nI k21_255)) 22 p22_256) 25 (nI k25_257)) (uF (uF (uF fv 15 f15_6) 16 f16_7) 17 f_250) gv) H := hP1
        have hD : va_D A (mw h0 ad cs (upd (upd (upd iv 21 (nI k21_255)) 22 p22_256) 25 (nI k25_257)) (uF (uF (uF fv 15 f15_6) 16 f16_7) 17 f_250) gv) := hD1.weaken (fun _ _ _ h => hFc _ h)
        refine lv_aload_n hx hb dX9_reads_95 rfl (lv_at hl 0 rfl) ?_
        refine va_get (D := D) (ci := 9) (v := .int (nI k21_255)) (C := RX9) (T := TX9) (N := 44) hx hb hts hin9 hown hK hP 0 rfl rfl 21 (by decide) (hts (.fieldLink RX9 74 "HoneyHouseModel" "faultKind" "I") (List.mem_of_getElem? (i := 2) rfl)) (fun _ h9 => h9) rfl dX9_reads_96 ?_
        refine lv_if_ne (tgt := 119) hx hb dX9_reads_99 (by decide) (fun c_261 => ?_) (fun c_261 => ?_)
        · have d_262 := n_ne (a := k21_255) (b := 0) (by omega) (by omega) c_261
          have hP : va_P D vwCl (mw h0 ad cs (upd (upd (upd (upd (upd (upd iv 21 (nI k21_255)) 22 p22_256) 25 (nI k25_257)) 29 (iv 29)) 30 (iv 30)) 31 (iv 31)) (uF (uF (uF (uF (uF fv 15 f15_6) 16 f16_7) 17 f_250) 19 (fv 19)) 28 (fv 28)) gv) H := hP
          have hD : va_D A (mw h0 ad cs (upd (upd (upd (upd (upd (upd iv 21 (nI k21_255)) 22 p22_256) 25 (nI k25_257)) 29 (iv 29)) 30 (iv 30)) 31 (iv 31)) (uF (uF (uF (uF (uF fv 15 f15_6) 16 f16_7) 17 f_250) 19 (fv 19)) 28 (fv 28)) gv) := hD
          exact W.vret hx hb hr (fun t ht hW => ⟨⟨(), rfl, trivial, k21_255, p22_256, nI k25_257, iv 29, iv 30, iv 31, f15_6, f16_7, f_250, fv 19, fv 28, by omega, fun i h9 => rfl, q_11, Or.inl (by omega), by rw [ht]; exact hP, va_K.moved hW.alike hK, hD⟩, hS.F ht⟩) hS.2.2 dX9_reads_119
        have d_263 := n_eq (a := k21_255) (b := 0) (by omega) (by omega) c_261
        refine lv_aload_n hx hb dX9_reads_102 rfl (lv_at hl 0 rfl) ?_
        have hFc := free_all hD hS hA
        refine va_calli (va_runV (As := []) (rest := []) ⟨hx, hb, hml, hown, hts⟩ (m_here l D h0 ad cs (upd (upd (upd iv 21 (nI k21_255)) 22 p22_256) 25 (nI k25_257)) (uF (uF (uF fv 15 f15_6) 16 f16_7) 17 f_250) gv k25_257 n26  H.size rfl h26 (by omega) (by omega)) (cwV 0 hts gX9_reads_X9_here rfl rfl rfl (by decide +kernel) ⟨Nat.le_of_ble_eq_true rfl, Nat.le_of_ble_eq_true rfl⟩) ⟨fun a U g mk q => by obtain ⟨q0, q1, qP, qK, qD⟩ := q; exact ⟨q0, q1, qP, va_K.moved (u := U) (U := U.calling g mk a) (Vm.Alike.refl U.vm) qK, qD⟩, va_recv hK hP (ci := 9) (q0 := 0) rfl rfl, fun U hU hW => ⟨rfl, by rw [hU], by rw [hU]; exact hP, va_K.moved hW.alike hK, hD.weaken (fun _ _ _ _ => trivial)⟩⟩ rfl rfl hl.1 rfl (lv_room (Nat.le_of_ble_eq_true rfl)) dX9_reads_103 ⟨Nat.le_of_ble_eq_true rfl, Nat.le_of_ble_eq_true rfl⟩) hS (fun q _ h => hFc q h) hFc (fun r_264 u t H1 locs ht hvm w_265 hB hz1 hk1 hS => ?_)
        subst w_265
        obtain ⟨k25_266, q_267, q_268, q_269, q_270, q_271, hP1, hK1, hD1⟩ := hB
        replace q_269 : k25_266 = n26 ∨ ¬ blk ((fv 0) k25_266) := q_269
        replace q_270 : (k25_257 = n26 ∨ ¬ blk ((fv 0) k25_257)) → k25_266 = k25_257 := q_270
        replace q_271 : (r_264 = (-1) ∧ k25_266 = n26) ∨ (k25_266 < n26 ∧ r_264 = (fv 0) k25_266) := q_271
        rw [ht] at hP1
        have hK := va_K.moved hvm.symm hK1
        generalize H1 = H at hP1 hS ⊢
        have hP : va_P D vwCl (mw h0 ad cs (upd (upd (upd iv 21 (nI k21_255)) 22 p22_256) 25 (nI k25_266)) (uF (uF (uF fv 15 f15_6) 16 f16_7) 17 f_250) gv) H := hP1
        have hD : va_D A (mw h0 ad cs (upd (upd (upd iv 21 (nI k21_255)) 22 p22_256) 25 (nI k25_266)) (uF (uF (uF fv 15 f15_6) 16 f16_7) 17 f_250) gv) := hD1.weaken (fun _ _ _ h => hFc _ h)
        refine lv_iconst (v := (-1)) hx hb dX9_reads_106 (by decide) ?_
        refine lv_icmp_eq (tgt := 119) hx hb dX9_reads_107 (by decide) (fun c_272 => ?_) (fun c_272 => ?_)
        · have hP : va_P D vwCl (mw h0 ad cs (upd (upd (upd (upd (upd (upd iv 21 (nI k21_255)) 22 p22_256) 25 (nI k25_266)) 29 (iv 29)) 30 (iv 30)) 31 (iv 31)) (uF (uF (uF (uF (uF fv 15 f15_6) 16 f16_7) 17 f_250) 19 (fv 19)) 28 (fv 28)) gv) H := hP
          have hD : va_D A (mw h0 ad cs (upd (upd (upd (upd (upd (upd iv 21 (nI k21_255)) 22 p22_256) 25 (nI k25_266)) 29 (iv 29)) 30 (iv 30)) 31 (iv 31)) (uF (uF (uF (uF (uF fv 15 f15_6) 16 f16_7) 17 f_250) 19 (fv 19)) 28 (fv 28)) gv) := hD
          exact W.vret hx hb hr (fun t ht hW => ⟨⟨(), rfl, trivial, k21_255, p22_256, nI k25_266, iv 29, iv 30, iv 31, f15_6, f16_7, f_250, fv 19, fv 28, by omega, fun i h9 => rfl, q_11, Or.inl (by omega), by rw [ht]; exact hP, va_K.moved hW.alike hK, hD⟩, hS.F ht⟩) hS.2.2 dX9_reads_119
        refine lv_aload_n hx hb dX9_reads_110 rfl (lv_at hl 0 rfl) ?_
        refine lv_iconst (v := 1) hx hb dX9_reads_111 (by decide) ?_
        refine lv_aload_n hx hb dX9_reads_112 rfl (lv_at hl 0 rfl) ?_
        refine va_get (D := D) (ci := 9) (v := .int (nI k25_266)) (C := RX9) (T := TX9) (N := 44) hx hb hts hin9 hown hK hP 0 rfl rfl 25 (by decide) (hts (.fieldLink RX9 87 "HoneyHouseModel" "at" "I") (List.mem_of_getElem? (i := 1) rfl)) (fun _ h9 => h9) rfl dX9_reads_113 ?_
        have hFc := free_all hD hS hA
        refine va_callv (va_runV (As := [.int 1, .int (nI k25_266)]) (rest := []) ⟨hx, hb, hml, hown, hts⟩ (m_blame l D h0 ad cs (upd (upd (upd iv 21 (nI k21_255)) 22 p22_256) 25 (nI k25_266)) (uF (uF (uF fv 15 f15_6) 16 f16_7) 17 f_250) gv k21_255 1 (nI k25_266) H.size rfl (by omega) (by omega)) (cwV 2 hts gX9_reads_X9_blame rfl rfl rfl (by decide +kernel) ⟨Nat.le_of_ble_eq_true rfl, Nat.le_of_ble_eq_true rfl⟩) ⟨fun a U g mk q => by obtain ⟨q0, q1, qP, qK, qD⟩ := q; exact ⟨q0, q1, qP, va_K.moved (u := U) (U := U.calling g mk a) (Vm.Alike.refl U.vm) qK, qD⟩, va_recv hK hP (ci := 9) (q0 := 0) rfl rfl, fun U hU hW => ⟨rfl, by rw [hU], by rw [hU]; exact hP, va_K.moved hW.alike hK, hD.weaken (fun _ _ _ _ => trivial)⟩⟩ rfl rfl hl.1 rfl (lv_room (Nat.le_of_ble_eq_true rfl)) dX9_reads_116 ⟨Nat.le_of_ble_eq_true rfl, Nat.le_of_ble_eq_true rfl⟩) hS (fun q _ h => hFc q h) hFc (fun u t H1 locs ht hvm w_274 hB hz1 hk1 hS => ?_)
        obtain ⟨k21_275, p22_276, q_277, q_278, hP1, hK1, hD1⟩ := hB
        rw [ht] at hP1
        have hK := va_K.moved hvm.symm hK1
        generalize H1 = H at hP1 hS ⊢
        have hP : va_P D vwCl (mw h0 ad cs (upd (upd (upd iv 21 (nI k21_275)) 22 p22_276) 25 (nI k25_266)) (uF (uF (uF fv 15 f15_6) 16 f16_7) 17 f_250) gv) H := hP1
        have hD : va_D A (mw h0 ad cs (upd (upd (upd iv 21 (nI k21_275)) 22 p22_276) 25 (nI k25_266)) (uF (uF (uF fv 15 f15_6) 16 f16_7) 17 f_250) gv) := hD1.weaken (fun _ _ _ h => hFc _ h)
        have hP : va_P D vwCl (mw h0 ad cs (upd (upd (upd (upd (upd (upd iv 21 (nI k21_275)) 22 p22_276) 25 (nI k25_266)) 29 (iv 29)) 30 (iv 30)) 31 (iv 31)) (uF (uF (uF (uF (uF fv 15 f15_6) 16 f16_7) 17 f_250) 19 (fv 19)) 28 (fv 28)) gv) H := hP
        have hD : va_D A (mw h0 ad cs (upd (upd (upd (upd (upd (upd iv 21 (nI k21_275)) 22 p22_276) 25 (nI k25_266)) 29 (iv 29)) 30 (iv 30)) 31 (iv 31)) (uF (uF (uF (uF (uF fv 15 f15_6) 16 f16_7) 17 f_250) 19 (fv 19)) 28 (fv 28)) gv) := hD
        exact W.vret hx hb hr (fun t ht hW => ⟨⟨(), rfl, trivial, k21_275, p22_276, nI k25_266, iv 29, iv 30, iv 31, f15_6, f16_7, f_250, fv 19, fv 28, by omega, fun i h9 => rfl, q_11, Or.inl (by omega), by rw [ht]; exact hP, va_K.moved hW.alike hK, hD⟩, hS.F ht⟩) hS.2.2 dX9_reads_119
      have d_279 := n_ne (a := c_215) (b := 0) (by omega) (by omega) c_226
      refine lv_aload_n hx hb dX9_reads_48 rfl (lv_at hl 0 rfl) ?_
      refine lv_iconst (v := 1) hx hb dX9_reads_49 (by decide) ?_
      refine lv_aload_n hx hb dX9_reads_50 rfl (lv_at hl 0 rfl) ?_
      refine va_get (D := D) (ci := 9) (v := .int (nI k25_210)) (C := RX9) (T := TX9) (N := 44) hx hb hts hin9 hown hK hP 0 rfl rfl 25 (by decide) (hts (.fieldLink RX9 87 "HoneyHouseModel" "at" "I") (List.mem_of_getElem? (i := 1) rfl)) (fun _ h9 => h9) rfl dX9_reads_51 ?_
      have hFc := free_all hD hS hA
      refine va_callv (va_runV (As := [.int 1, .int (nI k25_210)]) (rest := []) ⟨hx, hb, hml, hown, hts⟩ (m_blame l D h0 ad cs (upd (upd (upd iv 21 (nI k21_198)) 22 p22_199) 25 (nI k25_210)) (uF (uF fv 15 f15_6) 16 f16_7) gv k21_198 1 (nI k25_210) H.size rfl (by omega) (by omega)) (cwV 2 hts gX9_reads_X9_blame rfl rfl rfl (by decide +kernel) ⟨Nat.le_of_ble_eq_true rfl, Nat.le_of_ble_eq_true rfl⟩) ⟨fun a U g mk q => by obtain ⟨q0, q1, qP, qK, qD⟩ := q; exact ⟨q0, q1, qP, va_K.moved (u := U) (U := U.calling g mk a) (Vm.Alike.refl U.vm) qK, qD⟩, va_recv hK hP (ci := 9) (q0 := 0) rfl rfl, fun U hU hW => ⟨rfl, by rw [hU], by rw [hU]; exact hP, va_K.moved hW.alike hK, hD.weaken (fun _ _ _ _ => trivial)⟩⟩ rfl rfl hl.1 rfl (lv_room (Nat.le_of_ble_eq_true rfl)) dX9_reads_54 ⟨Nat.le_of_ble_eq_true rfl, Nat.le_of_ble_eq_true rfl⟩) hS (fun q _ h => hFc q h) hFc (fun u t H1 locs ht hvm w_281 hB hz1 hk1 hS => ?_)
      obtain ⟨k21_282, p22_283, q_284, q_285, hP1, hK1, hD1⟩ := hB
      rw [ht] at hP1
      have hK := va_K.moved hvm.symm hK1
      generalize H1 = H at hP1 hS ⊢
      have hP : va_P D vwCl (mw h0 ad cs (upd (upd (upd iv 21 (nI k21_282)) 22 p22_283) 25 (nI k25_210)) (uF (uF fv 15 f15_6) 16 f16_7) gv) H := hP1
      have hD : va_D A (mw h0 ad cs (upd (upd (upd iv 21 (nI k21_282)) 22 p22_283) 25 (nI k25_210)) (uF (uF fv 15 f15_6) 16 f16_7) gv) := hD1.weaken (fun _ _ _ h => hFc _ h)
      have hP : va_P D vwCl (mw h0 ad cs (upd (upd (upd (upd (upd (upd iv 21 (nI k21_282)) 22 p22_283) 25 (nI k25_210)) 29 (iv 29)) 30 (iv 30)) 31 (iv 31)) (uF (uF (uF (uF (uF fv 15 f15_6) 16 f16_7) 17 (fv 17)) 19 (fv 19)) 28 (fv 28)) gv) H := hP
      have hD : va_D A (mw h0 ad cs (upd (upd (upd (upd (upd (upd iv 21 (nI k21_282)) 22 p22_283) 25 (nI k25_210)) 29 (iv 29)) 30 (iv 30)) 31 (iv 31)) (uF (uF (uF (uF (uF fv 15 f15_6) 16 f16_7) 17 (fv 17)) 19 (fv 19)) 28 (fv 28)) gv) := hD
      exact W.vret hx hb hr (fun t ht hW => ⟨⟨(), rfl, trivial, k21_282, p22_283, nI k25_210, iv 29, iv 30, iv 31, f15_6, f16_7, fv 17, fv 19, fv 28, by omega, fun i h9 => rfl, q_11, Or.inl (by omega), by rw [ht]; exact hP, va_K.moved hW.alike hK, hD⟩, hS.F ht⟩) hS.2.2 dX9_reads_57
    have d_286 := n_nle (a := k21_198) (b := 0) (by omega) (by omega) c_206
    have hP : va_P D vwCl (mw h0 ad cs (upd (upd (upd (upd (upd (upd iv 21 (nI k21_198)) 22 p22_199) 25 (nI k25_200)) 29 (iv 29)) 30 (iv 30)) 31 (iv 31)) (uF (uF (uF (uF (uF fv 15 f15_6) 16 f16_7) 17 (fv 17)) 19 (fv 19)) 28 (fv 28)) gv) H := hP
    have hD : va_D A (mw h0 ad cs (upd (upd (upd (upd (upd (upd iv 21 (nI k21_198)) 22 p22_199) 25 (nI k25_200)) 29 (iv 29)) 30 (iv 30)) 31 (iv 31)) (uF (uF (uF (uF (uF fv 15 f15_6) 16 f16_7) 17 (fv 17)) 19 (fv 19)) 28 (fv 28)) gv) := hD
    exact W.vret hx hb hr (fun t ht hW => ⟨⟨(), rfl, trivial, k21_198, p22_199, nI k25_200, iv 29, iv 30, iv 31, f15_6, f16_7, fv 17, fv 19, fv 28, by omega, fun i h9 => rfl, q_11, Or.inl (by omega), by rw [ht]; exact hP, va_K.moved hW.alike hK, hD⟩, hS.F ht⟩) hS.2.2 dX9_reads_40
  have d_287 := n_eq (a := k21_198) (b := 0) (by omega) (by omega) c_204
  refine lv_aload_n hx hb dX9_reads_29 rfl (lv_at hl 0 rfl) ?_
  have hFc := free_all hD hS hA
  refine va_callv (va_runV (As := []) (rest := []) ⟨hx, hb, hml, hown, hts⟩ (m_either l D h0 ad cs (upd (upd (upd iv 21 (nI k21_198)) 22 p22_199) 25 (nI k25_200)) (uF (uF fv 15 f15_6) 16 f16_7) gv n14 k21_198 k25_200 n26  H.size h14 rfl rfl h26 (by omega) (by omega) (by omega) (by omega)) (cwV 0 hts gX9_reads_X9_either rfl rfl rfl (by decide +kernel) ⟨Nat.le_of_ble_eq_true rfl, Nat.le_of_ble_eq_true rfl⟩) ⟨fun a U g mk q => by obtain ⟨q0, q1, qP, qK, qD⟩ := q; exact ⟨q0, q1, qP, va_K.moved (u := U) (U := U.calling g mk a) (Vm.Alike.refl U.vm) qK, qD⟩, va_recv hK hP (ci := 9) (q0 := 0) rfl rfl, fun U hU hW => ⟨rfl, by rw [hU], by rw [hU]; exact hP, va_K.moved hW.alike hK, hD.weaken (fun _ _ _ _ => trivial)⟩⟩ rfl rfl hl.1 rfl (lv_room (Nat.le_of_ble_eq_true rfl)) dX9_reads_30 ⟨Nat.le_of_ble_eq_true rfl, Nat.le_of_ble_eq_true rfl⟩) hS (fun q _ h => hFc q h) hFc (fun u t H1 locs ht hvm w_289 hB hz1 hk1 hS => ?_)
  obtain ⟨k21_290, p22_291, k25_292, k29_293, k30_294, k31_295, f19_296, f28_297, q_298, q_299, q_300, q_301, q_302, hP1, hK1, hD1⟩ := hB
  replace q_301 : ∀ i : Nat, i < 200 * n14 → f19_296 i = (fv 19) i := q_301
  rw [ht] at hP1
  have hK := va_K.moved hvm.symm hK1
  generalize H1 = H at hP1 hS ⊢
  have hP : va_P D vwCl (mw h0 ad cs (upd (upd (upd (upd (upd (upd iv 21 (nI k21_290)) 22 p22_291) 25 (nI k25_292)) 29 (nI k29_293)) 30 (nI k30_294)) 31 (nI k31_295)) (uF (uF (uF (uF fv 15 f15_6) 16 f16_7) 19 f19_296) 28 f28_297) gv) H := hP1
  have hD : va_D A (mw h0 ad cs (upd (upd (upd (upd (upd (upd iv 21 (nI k21_290)) 22 p22_291) 25 (nI k25_292)) 29 (nI k29_293)) 30 (nI k30_294)) 31 (nI k31_295)) (uF (uF (uF (uF fv 15 f15_6) 16 f16_7) 19 f19_296) 28 f28_297) gv) := hD1.weaken (fun _ _ _ h => hFc _ h)
  refine lv_aload_n hx hb dX9_reads_33 rfl (lv_at hl 0 rfl) ?_
  refine va_get (D := D) (ci := 9) (v := .int (nI k21_290)) (C := RX9) (T := TX9) (N := 44) hx hb hts hin9 hown hK hP 0 rfl rfl 21 (by decide) (hts (.fieldLink RX9 74 "HoneyHouseModel" "faultKind" "I") (List.mem_of_getElem? (i := 2) rfl)) (fun _ h9 => h9) rfl dX9_reads_34 ?_
  refine lv_if_le (tgt := 41) hx hb dX9_reads_37 (by decide) (fun c_303 => ?_) (fun c_303 => ?_)
  · have d_304 := n_le (a := k21_290) (b := 0) (by omega) (by omega) c_303
    refine lv_aload_n hx hb dX9_reads_41 rfl (lv_at hl 0 rfl) ?_
    have hFc := free_all hD hS hA
    refine va_calli (va_runV (As := []) (rest := []) ⟨hx, hb, hml, hown, hts⟩ (m_peek l D h0 ad cs (upd (upd (upd (upd (upd (upd iv 21 (nI k21_290)) 22 p22_291) 25 (nI k25_292)) 29 (nI k29_293)) 30 (nI k30_294)) 31 (nI k31_295)) (uF (uF (uF (uF fv 15 f15_6) 16 f16_7) 19 f19_296) 28 f28_297) gv k25_292 n26  H.size rfl h26 (by omega) (by omega)) (cwV 0 hts gX9_reads_X9_peek rfl rfl rfl (by decide +kernel) ⟨Nat.le_of_ble_eq_true rfl, Nat.le_of_ble_eq_true rfl⟩) ⟨fun a U g mk q => by obtain ⟨q0, q1, qP, qK, qD⟩ := q; exact ⟨q0, q1, qP, va_K.moved (u := U) (U := U.calling g mk a) (Vm.Alike.refl U.vm) qK, qD⟩, va_recv hK hP (ci := 9) (q0 := 0) rfl rfl, fun U hU hW => ⟨rfl, by rw [hU], by rw [hU]; exact hP, va_K.moved hW.alike hK, hD.weaken (fun _ _ _ _ => trivial)⟩⟩ rfl rfl hl.1 rfl (lv_room (Nat.le_of_ble_eq_true rfl)) dX9_reads_42 ⟨Nat.le_of_ble_eq_true rfl, Nat.le_of_ble_eq_true rfl⟩) hS (fun q _ h => hFc q h) hFc (fun r_305 u t H1 locs ht hvm w_306 hB hz1 hk1 hS => ?_)
    subst w_306
    obtain ⟨k25_307, q_308, q_309, q_310, q_311, hP1, hK1, hD1⟩ := hB
    replace q_310 : (k25_292 = n26 ∨ ¬ blk ((fv 0) k25_292)) → k25_307 = k25_292 := q_310
    replace q_311 : r_305 = (-1) ∨ ∃ c e : Nat, r_305 = nI c ∧ isE ((fv 0)) n26 k25_307 e ∧ ((c = 0 ∧ e = k25_307 + 4) ∨ (c = 1 ∧ e = k25_307 + 2) ∨ (c = 2 ∧ e = k25_307 + 3) ∨ (c = 3 ∧ e = k25_307 + 3) ∨ (c = 4 ∧ e = k25_307 + 5) ∨ (c = 5 ∧ e = k25_307 + 6) ∨ (c = 6 ∧ e = k25_307 + 4) ∨ (c = 7 ∧ e = k25_307 + 6) ∨ (c = 8 ∧ e = k25_307 + 4) ∨ (c = 9 ∧ e = k25_307 + 3) ∨ (c = 10 ∧ e = k25_307 + 3) ∨ c = 11) := q_311
    rw [ht] at hP1
    have hK := va_K.moved hvm.symm hK1
    generalize H1 = H at hP1 hS ⊢
    have hP : va_P D vwCl (mw h0 ad cs (upd (upd (upd (upd (upd (upd iv 21 (nI k21_290)) 22 p22_291) 25 (nI k25_307)) 29 (nI k29_293)) 30 (nI k30_294)) 31 (nI k31_295)) (uF (uF (uF (uF fv 15 f15_6) 16 f16_7) 19 f19_296) 28 f28_297) gv) H := hP1
    have hD : va_D A (mw h0 ad cs (upd (upd (upd (upd (upd (upd iv 21 (nI k21_290)) 22 p22_291) 25 (nI k25_307)) 29 (nI k29_293)) 30 (nI k30_294)) 31 (nI k31_295)) (uF (uF (uF (uF fv 15 f15_6) 16 f16_7) 19 f19_296) 28 f28_297) gv) := hD1.weaken (fun _ _ _ h => hFc _ h)
    rcases q_311 with rfl | ⟨c_312, e_313, rfl, he_314, hc_315⟩
    · refine lv_if_eq (tgt := 58) hx hb dX9_reads_45 (by decide) (fun c_316 => absurd c_316 (by decide)) (fun c_316 => ?_)
      refine lv_aload_n hx hb dX9_reads_48 rfl (lv_at hl 0 rfl) ?_
      refine lv_iconst (v := 1) hx hb dX9_reads_49 (by decide) ?_
      refine lv_aload_n hx hb dX9_reads_50 rfl (lv_at hl 0 rfl) ?_
      refine va_get (D := D) (ci := 9) (v := .int (nI k25_307)) (C := RX9) (T := TX9) (N := 44) hx hb hts hin9 hown hK hP 0 rfl rfl 25 (by decide) (hts (.fieldLink RX9 87 "HoneyHouseModel" "at" "I") (List.mem_of_getElem? (i := 1) rfl)) (fun _ h9 => h9) rfl dX9_reads_51 ?_
      have hFc := free_all hD hS hA
      refine va_callv (va_runV (As := [.int 1, .int (nI k25_307)]) (rest := []) ⟨hx, hb, hml, hown, hts⟩ (m_blame l D h0 ad cs (upd (upd (upd (upd (upd (upd iv 21 (nI k21_290)) 22 p22_291) 25 (nI k25_307)) 29 (nI k29_293)) 30 (nI k30_294)) 31 (nI k31_295)) (uF (uF (uF (uF fv 15 f15_6) 16 f16_7) 19 f19_296) 28 f28_297) gv k21_290 1 (nI k25_307) H.size rfl (by omega) (by omega)) (cwV 2 hts gX9_reads_X9_blame rfl rfl rfl (by decide +kernel) ⟨Nat.le_of_ble_eq_true rfl, Nat.le_of_ble_eq_true rfl⟩) ⟨fun a U g mk q => by obtain ⟨q0, q1, qP, qK, qD⟩ := q; exact ⟨q0, q1, qP, va_K.moved (u := U) (U := U.calling g mk a) (Vm.Alike.refl U.vm) qK, qD⟩, va_recv hK hP (ci := 9) (q0 := 0) rfl rfl, fun U hU hW => ⟨rfl, by rw [hU], by rw [hU]; exact hP, va_K.moved hW.alike hK, hD.weaken (fun _ _ _ _ => trivial)⟩⟩ rfl rfl hl.1 rfl (lv_room (Nat.le_of_ble_eq_true rfl)) dX9_reads_54 ⟨Nat.le_of_ble_eq_true rfl, Nat.le_of_ble_eq_true rfl⟩) hS (fun q _ h => hFc q h) hFc (fun u t H1 locs ht hvm w_318 hB hz1 hk1 hS => ?_)
      obtain ⟨k21_319, p22_320, q_321, q_322, hP1, hK1, hD1⟩ := hB
      rw [ht] at hP1
      have hK := va_K.moved hvm.symm hK1
      generalize H1 = H at hP1 hS ⊢
      have hP : va_P D vwCl (mw h0 ad cs (upd (upd (upd (upd (upd (upd iv 21 (nI k21_319)) 22 p22_320) 25 (nI k25_307)) 29 (nI k29_293)) 30 (nI k30_294)) 31 (nI k31_295)) (uF (uF (uF (uF fv 15 f15_6) 16 f16_7) 19 f19_296) 28 f28_297) gv) H := hP1
      have hD : va_D A (mw h0 ad cs (upd (upd (upd (upd (upd (upd iv 21 (nI k21_319)) 22 p22_320) 25 (nI k25_307)) 29 (nI k29_293)) 30 (nI k30_294)) 31 (nI k31_295)) (uF (uF (uF (uF fv 15 f15_6) 16 f16_7) 19 f19_296) 28 f28_297) gv) := hD1.weaken (fun _ _ _ h => hFc _ h)
      have hP : va_P D vwCl (mw h0 ad cs (upd (upd (upd (upd (upd (upd iv 21 (nI k21_319)) 22 p22_320) 25 (nI k25_307)) 29 (nI k29_293)) 30 (nI k30_294)) 31 (nI k31_295)) (uF (uF (uF (uF (uF fv 15 f15_6) 16 f16_7) 17 (fv 17)) 19 f19_296) 28 f28_297) gv) H := hP
      have hD : va_D A (mw h0 ad cs (upd (upd (upd (upd (upd (upd iv 21 (nI k21_319)) 22 p22_320) 25 (nI k25_307)) 29 (nI k29_293)) 30 (nI k30_294)) 31 (nI k31_295)) (uF (uF (uF (uF (uF fv 15 f15_6) 16 f16_7) 17 (fv 17)) 19 f19_296) 28 f28_297) gv) := hD
      exact W.vret hx hb hr (fun t ht hW => ⟨⟨(), rfl, trivial, k21_319, p22_320, nI k25_307, nI k29_293, nI k30_294, nI k31_295, f15_6, f16_7, fv 17, f19_296, f28_297, by omega, q_301, q_11, Or.inl (by omega), by rw [ht]; exact hP, va_K.moved hW.alike hK, hD⟩, hS.F ht⟩) hS.2.2 dX9_reads_57
    have he_314b : k25_307 ≤ e_313 ∧ e_313 ≤ n26 := ⟨he_314.1, he_314.2.1⟩
    refine lv_if_eq (tgt := 58) hx hb dX9_reads_45 (by decide) (fun c_323 => ?_) (fun c_323 => ?_)
    · have d_324 := n_eq (a := c_312) (b := 0) (by omega) (by omega) c_323
      refine lv_aload_n hx hb dX9_reads_58 rfl (lv_at hl 0 rfl) ?_
      refine lv_aload_n hx hb dX9_reads_59 rfl (lv_at hl 0 rfl) ?_
      refine vp_callSi (W.runV (As := []) (rest := [.ref h0]) ⟨hx, hb, hml, hown, hts⟩ (m_wordEnd l D h0 ad cs (upd (upd (upd (upd (upd (upd iv 21 (nI k21_290)) 22 p22_291) 25 (nI k25_307)) 29 (nI k29_293)) 30 (nI k30_294)) 31 (nI k31_295)) (uF (uF (uF (uF fv 15 f15_6) 16 f16_7) 19 f19_296) 28 f28_297) gv k25_307 n26  rfl h26 (by omega) (by omega)) (cwV 0 hts gX9_reads_X9_wordEnd rfl rfl rfl (by decide +kernel) ⟨Nat.le_of_ble_eq_true rfl, Nat.le_of_ble_eq_true rfl⟩) ⟨fun a U g mk q => ⟨q.1, q.2.1, va_K.moved (u := U) (U := U.calling g mk a) (Vm.Alike.refl U.vm) q.2.2⟩, va_recv hK hP (ci := 9) (q0 := 0) rfl rfl, fun U hU hW => ⟨rfl, by rw [hU]; exact hP, va_K.moved hW.alike hK⟩⟩ rfl rfl hl.1 rfl (lv_room (Nat.le_of_ble_eq_true rfl)) dX9_reads_60 ⟨Nat.le_of_ble_eq_true rfl, Nat.le_of_ble_eq_true rfl⟩) (fun r_325 k_326 => ?_)
      obtain ⟨e_327, rfl, he_328⟩ := k_326
      have hq_e_327 : e_327 = e_313 := he_328.uq he_314
      refine va_put (D := D) (ci := 9) (v := .int (nI e_327)) (ty := .int) (C := RX9) (T := TX9) (N := 44) hx hb hts hin9 tyX9 tyX9_ok nmX9 hown hK hP hD hS 0 rfl rfl 25 (by decide) (hts (.fieldLink RX9 87 "HoneyHouseModel" "at" "I") (List.mem_of_getElem? (i := 1) rfl)) (fun _ h9 => h9) rfl (tyX9_ok 25 (by decide)) rfl rfl (Nat.le_of_ble_eq_true rfl) dX9_reads_63 (fun H locs hP hD hS => ?_)
      have hP : va_P D vwCl (mw h0 ad cs (upd (upd (upd (upd (upd (upd iv 21 (nI k21_290)) 22 p22_291) 25 (nI e_327)) 29 (nI k29_293)) 30 (nI k30_294)) 31 (nI k31_295)) (uF (uF (uF (uF fv 15 f15_6) 16 f16_7) 19 f19_296) 28 f28_297) gv) H := hP
      have hD : va_D A (mw h0 ad cs (upd (upd (upd (upd (upd (upd iv 21 (nI k21_290)) 22 p22_291) 25 (nI e_327)) 29 (nI k29_293)) 30 (nI k30_294)) 31 (nI k31_295)) (uF (uF (uF (uF fv 15 f15_6) 16 f16_7) 19 f19_296) 28 f28_297) gv) := hD
      refine lv_aload_n hx hb dX9_reads_66 rfl (lv_at hl 0 rfl) ?_
      refine va_get (D := D) (ci := 9) (v := .ref (ad 17)) (C := RX9) (T := TX9) (N := 44) hx hb hts hin9 hown hK hP 0 rfl rfl 17 (by decide) (hts (.fieldLink RX9 62 "HoneyHouseModel" "from" "[I") (List.mem_of_getElem? (i := 3) rfl)) (fun _ h9 => h9) rfl dX9_reads_67 ?_
      refine lv_aload_n hx hb dX9_reads_70 rfl (lv_at hl 0 rfl) ?_
      refine va_get (D := D) (ci := 9) (v := .int (iv 14)) (C := RX9) (T := TX9) (N := 44) hx hb hts hin9 hown hK hP 0 rfl rfl 14 (by decide) (hts (.fieldLink RX9 53 "HoneyHouseModel" "rules" "I") (List.mem_of_getElem? (i := 4) rfl)) (fun _ h9 => h9) rfl dX9_reads_71 ?_
      refine tp_i (y := nI n14) (h14) ?_
      refine lv_aload_n hx hb dX9_reads_74 rfl (lv_at hl 0 rfl) ?_
      refine lv_sipush (v := 30000) hx hb dX9_reads_75 (by decide) ?_
      have hFc := free_all hD hS hA
      refine va_calli (va_runV (As := [.int 30000]) (rest := [.int (nI n14), .ref (ad 17)]) ⟨hx, hb, hml, hown, hts⟩ (m_number l D h0 ad cs (upd (upd (upd (upd (upd (upd iv 21 (nI k21_290)) 22 p22_291) 25 (nI e_327)) 29 (nI k29_293)) 30 (nI k30_294)) 31 (nI k31_295)) (uF (uF (uF (uF fv 15 f15_6) 16 f16_7) 19 f19_296) 28 f28_297) gv k21_290 e_327 n26 30000 H.size rfl rfl h26 (by omega) (by omega) (by omega) (by omega)) (cwV 1 hts gX9_reads_X9_number rfl rfl rfl (by decide +kernel) ⟨Nat.le_of_ble_eq_true rfl, Nat.le_of_ble_eq_true rfl⟩) ⟨fun a U g mk q => by obtain ⟨q0, q1, qP, qK, qD⟩ := q; exact ⟨q0, q1, qP, va_K.moved (u := U) (U := U.calling g mk a) (Vm.Alike.refl U.vm) qK, qD⟩, va_recv hK hP (ci := 9) (q0 := 0) rfl rfl, fun U hU hW => ⟨rfl, by rw [hU], by rw [hU]; exact hP, va_K.moved hW.alike hK, hD.weaken (fun _ _ _ _ => trivial)⟩⟩ rfl rfl hl.1 rfl (lv_room (Nat.le_of_ble_eq_true rfl)) dX9_reads_78 ⟨Nat.le_of_ble_eq_true rfl, Nat.le_of_ble_eq_true rfl⟩) hS (fun q _ h => hFc q h) hFc (fun r_329 u t H1 locs ht hvm w_330 hB hz1 hk1 hS => ?_)
      subst w_330
      obtain ⟨k21_331, p22_332, k25_333, q_334, q_335, q_336, q_337, hP1, hK1, hD1⟩ := hB
      rw [ht] at hP1
      have hK := va_K.moved hvm.symm hK1
      generalize H1 = H at hP1 hS ⊢
      have hP : va_P D vwCl (mw h0 ad cs (upd (upd (upd (upd (upd (upd iv 21 (nI k21_331)) 22 p22_332) 25 (nI k25_333)) 29 (nI k29_293)) 30 (nI k30_294)) 31 (nI k31_295)) (uF (uF (uF (uF fv 15 f15_6) 16 f16_7) 19 f19_296) 28 f28_297) gv) H := hP1
      have hD : va_D A (mw h0 ad cs (upd (upd (upd (upd (upd (upd iv 21 (nI k21_331)) 22 p22_332) 25 (nI k25_333)) 29 (nI k29_293)) 30 (nI k30_294)) 31 (nI k31_295)) (uF (uF (uF (uF fv 15 f15_6) 16 f16_7) 19 f19_296) 28 f28_297) gv) := hD1.weaken (fun _ _ _ h => hFc _ h)
      rcases q_337 with hp_338 | ⟨rfl, hg_340, v_341, hv_342, rfl⟩
      · refine va_iast (f := fv 17) (n := 16) hx hb hK hP hD hS 13 12 rfl rfl (vp_in_nI (n := n14) (by omega) (by omega)) dX9_reads_81 (fun H locs hP hD hS => ?_)
        have hP : va_P D vwCl (mw h0 ad cs (upd (upd (upd (upd (upd (upd iv 21 (nI k21_331)) 22 p22_332) 25 (nI k25_333)) 29 (nI k29_293)) 30 (nI k30_294)) 31 (nI k31_295)) (uF (uF (uF (uF (uF fv 15 f15_6) 16 f16_7) 17 (upd (fv 17) (nI n14).toNatClampNeg r_329)) 19 f19_296) 28 f28_297) gv) H := hP
        have hD : va_D A (mw h0 ad cs (upd (upd (upd (upd (upd (upd iv 21 (nI k21_331)) 22 p22_332) 25 (nI k25_333)) 29 (nI k29_293)) 30 (nI k30_294)) 31 (nI k31_295)) (uF (uF (uF (uF (uF fv 15 f15_6) 16 f16_7) 17 (upd (fv 17) (nI n14).toNatClampNeg r_329)) 19 f19_296) 28 f28_297) gv) := hD
        obtain ⟨f_343, hf_344⟩ : ∃ g9, g9 = upd (fv 17) (nI n14).toNatClampNeg r_329 := ⟨_, rfl⟩
        rw [← hf_344] at hP hD
        rw [nI_clamp (n := n14) (by omega)] at hf_344
        refine lv_aload_n hx hb dX9_reads_82 rfl (lv_at hl 0 rfl) ?_
        refine va_get (D := D) (ci := 9) (v := .int (nI k21_331)) (C := RX9) (T := TX9) (N := 44) hx hb hts hin9 hown hK hP 0 rfl rfl 21 (by decide) (hts (.fieldLink RX9 74 "HoneyHouseModel" "faultKind" "I") (List.mem_of_getElem? (i := 2) rfl)) (fun _ h9 => h9) rfl dX9_reads_83 ?_
        refine lv_if_ne (tgt := 95) hx hb dX9_reads_86 (by decide) (fun c_345 => ?_) (fun c_345 => absurd c_345 (nI_ne0 (n := k21_331) (by omega) (by omega)))
        refine lv_aload_n hx hb dX9_reads_95 rfl (lv_at hl 0 rfl) ?_
        refine va_get (D := D) (ci := 9) (v := .int (nI k21_331)) (C := RX9) (T := TX9) (N := 44) hx hb hts hin9 hown hK hP 0 rfl rfl 21 (by decide) (hts (.fieldLink RX9 74 "HoneyHouseModel" "faultKind" "I") (List.mem_of_getElem? (i := 2) rfl)) (fun _ h9 => h9) rfl dX9_reads_96 ?_
        refine lv_if_ne (tgt := 119) hx hb dX9_reads_99 (by decide) (fun c_346 => ?_) (fun c_346 => absurd c_346 (nI_ne0 (n := k21_331) (by omega) (by omega)))
        have hP : va_P D vwCl (mw h0 ad cs (upd (upd (upd (upd (upd (upd iv 21 (nI k21_331)) 22 p22_332) 25 (nI k25_333)) 29 (nI k29_293)) 30 (nI k30_294)) 31 (nI k31_295)) (uF (uF (uF (uF (uF fv 15 f15_6) 16 f16_7) 17 f_343) 19 f19_296) 28 f28_297) gv) H := hP
        have hD : va_D A (mw h0 ad cs (upd (upd (upd (upd (upd (upd iv 21 (nI k21_331)) 22 p22_332) 25 (nI k25_333)) 29 (nI k29_293)) 30 (nI k30_294)) 31 (nI k31_295)) (uF (uF (uF (uF (uF fv 15 f15_6) 16 f16_7) 17 f_343) 19 f19_296) 28 f28_297) gv) := hD
        exact W.vret hx hb hr (fun t ht hW => ⟨⟨(), rfl, trivial, k21_331, p22_332, nI k25_333, nI k29_293, nI k30_294, nI k31_295, f15_6, f16_7, f_343, f19_296, f28_297, by omega, q_301, q_11, Or.inl (by omega), by rw [ht]; exact hP, va_K.moved hW.alike hK, hD⟩, hS.F ht⟩) hS.2.2 dX9_reads_119
      refine va_iast (f := fv 17) (n := 16) hx hb hK hP hD hS 13 12 rfl rfl (vp_in_nI (n := n14) (by omega) (by omega)) dX9_reads_81 (fun H locs hP hD hS => ?_)
      have hP : va_P D vwCl (mw h0 ad cs (upd (upd (upd (upd (upd (upd iv 21 (nI 0)) 22 p22_332) 25 (nI k25_333)) 29 (nI k29_293)) 30 (nI k30_294)) 31 (nI k31_295)) (uF (uF (uF (uF (uF fv 15 f15_6) 16 f16_7) 17 (upd (fv 17) (nI n14).toNatClampNeg (nI v_341))) 19 f19_296) 28 f28_297) gv) H := hP
      have hD : va_D A (mw h0 ad cs (upd (upd (upd (upd (upd (upd iv 21 (nI 0)) 22 p22_332) 25 (nI k25_333)) 29 (nI k29_293)) 30 (nI k30_294)) 31 (nI k31_295)) (uF (uF (uF (uF (uF fv 15 f15_6) 16 f16_7) 17 (upd (fv 17) (nI n14).toNatClampNeg (nI v_341))) 19 f19_296) 28 f28_297) gv) := hD
      obtain ⟨f_347, hf_348⟩ : ∃ g9, g9 = upd (fv 17) (nI n14).toNatClampNeg (nI v_341) := ⟨_, rfl⟩
      rw [← hf_348] at hP hD
      rw [nI_clamp (n := n14) (by omega)] at hf_348
      refine lv_aload_n hx hb dX9_reads_82 rfl (lv_at hl 0 rfl) ?_
      refine va_get (D := D) (ci := 9) (v := .int (nI 0)) (C := RX9) (T := TX9) (N := 44) hx hb hts hin9 hown hK hP 0 rfl rfl 21 (by decide) (hts (.fieldLink RX9 74 "HoneyHouseModel" "faultKind" "I") (List.mem_of_getElem? (i := 2) rfl)) (fun _ h9 => h9) rfl dX9_reads_83 ?_
      refine lv_if_ne (tgt := 95) hx hb dX9_reads_86 (by decide) (fun c_349 => absurd (by decide) c_349) (fun c_349 => ?_)
      refine lv_aload_n hx hb dX9_reads_89 rfl (lv_at hl 0 rfl) ?_
      refine lv_bipush (v := 59) hx hb dX9_reads_90 (by decide) ?_
      have hFc := free_all hD hS hA
      refine va_callv (va_runV (As := [.int 59]) (rest := []) ⟨hx, hb, hml, hown, hts⟩ (m_must l D h0 ad cs (upd (upd (upd (upd (upd (upd iv 21 (nI 0)) 22 p22_332) 25 (nI k25_333)) 29 (nI k29_293)) 30 (nI k30_294)) 31 (nI k31_295)) (uF (uF (uF (uF (uF fv 15 f15_6) 16 f16_7) 17 f_347) 19 f19_296) 28 f28_297) gv 0 k25_333 n26 59 H.size rfl rfl h26 (by omega) (by omega) (by omega) (by decide)) (cwV 1 hts gX9_reads_X9_must rfl rfl rfl (by decide +kernel) ⟨Nat.le_of_ble_eq_true rfl, Nat.le_of_ble_eq_true rfl⟩) ⟨fun a U g mk q => by obtain ⟨q0, q1, qP, qK, qD⟩ := q; exact ⟨q0, q1, qP, va_K.moved (u := U) (U := U.calling g mk a) (Vm.Alike.refl U.vm) qK, qD⟩, va_recv hK hP (ci := 9) (q0 := 0) rfl rfl, fun U hU hW => ⟨rfl, by rw [hU], by rw [hU]; exact hP, va_K.moved hW.alike hK, hD.weaken (fun _ _ _ _ => trivial)⟩⟩ rfl rfl hl.1 rfl (lv_room (Nat.le_of_ble_eq_true rfl)) dX9_reads_92 ⟨Nat.le_of_ble_eq_true rfl, Nat.le_of_ble_eq_true rfl⟩) hS (fun q _ h => hFc q h) hFc (fun u t H1 locs ht hvm w_351 hB hz1 hk1 hS => ?_)
      obtain ⟨k21_352, p22_353, k25_354, q_355, q_356, q_357, hP1, hK1, hD1⟩ := hB
      rw [ht] at hP1
      have hK := va_K.moved hvm.symm hK1
      generalize H1 = H at hP1 hS ⊢
      have hP : va_P D vwCl (mw h0 ad cs (upd (upd (upd (upd (upd (upd iv 21 (nI k21_352)) 22 p22_353) 25 (nI k25_354)) 29 (nI k29_293)) 30 (nI k30_294)) 31 (nI k31_295)) (uF (uF (uF (uF (uF fv 15 f15_6) 16 f16_7) 17 f_347) 19 f19_296) 28 f28_297) gv) H := hP1
      have hD : va_D A (mw h0 ad cs (upd (upd (upd (upd (upd (upd iv 21 (nI k21_352)) 22 p22_353) 25 (nI k25_354)) 29 (nI k29_293)) 30 (nI k30_294)) 31 (nI k31_295)) (uF (uF (uF (uF (uF fv 15 f15_6) 16 f16_7) 17 f_347) 19 f19_296) 28 f28_297) gv) := hD1.weaken (fun _ _ _ h => hFc _ h)
      refine lv_aload_n hx hb dX9_reads_95 rfl (lv_at hl 0 rfl) ?_
      refine va_get (D := D) (ci := 9) (v := .int (nI k21_352)) (C := RX9) (T := TX9) (N := 44) hx hb hts hin9 hown hK hP 0 rfl rfl 21 (by decide) (hts (.fieldLink RX9 74 "HoneyHouseModel" "faultKind" "I") (List.mem_of_getElem? (i := 2) rfl)) (fun _ h9 => h9) rfl dX9_reads_96 ?_
      refine lv_if_ne (tgt := 119) hx hb dX9_reads_99 (by decide) (fun c_358 => ?_) (fun c_358 => ?_)
      · have d_359 := n_ne (a := k21_352) (b := 0) (by omega) (by omega) c_358
        have hP : va_P D vwCl (mw h0 ad cs (upd (upd (upd (upd (upd (upd iv 21 (nI k21_352)) 22 p22_353) 25 (nI k25_354)) 29 (nI k29_293)) 30 (nI k30_294)) 31 (nI k31_295)) (uF (uF (uF (uF (uF fv 15 f15_6) 16 f16_7) 17 f_347) 19 f19_296) 28 f28_297) gv) H := hP
        have hD : va_D A (mw h0 ad cs (upd (upd (upd (upd (upd (upd iv 21 (nI k21_352)) 22 p22_353) 25 (nI k25_354)) 29 (nI k29_293)) 30 (nI k30_294)) 31 (nI k31_295)) (uF (uF (uF (uF (uF fv 15 f15_6) 16 f16_7) 17 f_347) 19 f19_296) 28 f28_297) gv) := hD
        exact W.vret hx hb hr (fun t ht hW => ⟨⟨(), rfl, trivial, k21_352, p22_353, nI k25_354, nI k29_293, nI k30_294, nI k31_295, f15_6, f16_7, f_347, f19_296, f28_297, by omega, q_301, q_11, ((Nat.eq_zero_or_pos k21_352).elim (fun h9 => by obtain ⟨n9, hn9⟩ := q_302.resolve_left (by omega); exact Or.inr ⟨q_12.resolve_left (by omega), k30_294, n9, rfl, by omega, hn9⟩) (fun h9 => Or.inl h9)), by rw [ht]; exact hP, va_K.moved hW.alike hK, hD⟩, hS.F ht⟩) hS.2.2 dX9_reads_119
      have d_360 := n_eq (a := k21_352) (b := 0) (by omega) (by omega) c_358
      refine lv_aload_n hx hb dX9_reads_102 rfl (lv_at hl 0 rfl) ?_
      have hFc := free_all hD hS hA
      refine va_calli (va_runV (As := []) (rest := []) ⟨hx, hb, hml, hown, hts⟩ (m_here l D h0 ad cs (upd (upd (upd (upd (upd (upd iv 21 (nI k21_352)) 22 p22_353) 25 (nI k25_354)) 29 (nI k29_293)) 30 (nI k30_294)) 31 (nI k31_295)) (uF (uF (uF (uF (uF fv 15 f15_6) 16 f16_7) 17 f_347) 19 f19_296) 28 f28_297) gv k25_354 n26  H.size rfl h26 (by omega) (by omega)) (cwV 0 hts gX9_reads_X9_here rfl rfl rfl (by decide +kernel) ⟨Nat.le_of_ble_eq_true rfl, Nat.le_of_ble_eq_true rfl⟩) ⟨fun a U g mk q => by obtain ⟨q0, q1, qP, qK, qD⟩ := q; exact ⟨q0, q1, qP, va_K.moved (u := U) (U := U.calling g mk a) (Vm.Alike.refl U.vm) qK, qD⟩, va_recv hK hP (ci := 9) (q0 := 0) rfl rfl, fun U hU hW => ⟨rfl, by rw [hU], by rw [hU]; exact hP, va_K.moved hW.alike hK, hD.weaken (fun _ _ _ _ => trivial)⟩⟩ rfl rfl hl.1 rfl (lv_room (Nat.le_of_ble_eq_true rfl)) dX9_reads_103 ⟨Nat.le_of_ble_eq_true rfl, Nat.le_of_ble_eq_true rfl⟩) hS (fun q _ h => hFc q h) hFc (fun r_361 u t H1 locs ht hvm w_362 hB hz1 hk1 hS => ?_)
      subst w_362
      obtain ⟨k25_363, q_364, q_365, q_366, q_367, q_368, hP1, hK1, hD1⟩ := hB
      replace q_366 : k25_363 = n26 ∨ ¬ blk ((fv 0) k25_363) := q_366
      replace q_367 : (k25_354 = n26 ∨ ¬ blk ((fv 0) k25_354)) → k25_363 = k25_354 := q_367
      replace q_368 : (r_361 = (-1) ∧ k25_363 = n26) ∨ (k25_363 < n26 ∧ r_361 = (fv 0) k25_363) := q_368
      rw [ht] at hP1
      have hK := va_K.moved hvm.symm hK1
      generalize H1 = H at hP1 hS ⊢
      have hP : va_P D vwCl (mw h0 ad cs (upd (upd (upd (upd (upd (upd iv 21 (nI k21_352)) 22 p22_353) 25 (nI k25_363)) 29 (nI k29_293)) 30 (nI k30_294)) 31 (nI k31_295)) (uF (uF (uF (uF (uF fv 15 f15_6) 16 f16_7) 17 f_347) 19 f19_296) 28 f28_297) gv) H := hP1
      have hD : va_D A (mw h0 ad cs (upd (upd (upd (upd (upd (upd iv 21 (nI k21_352)) 22 p22_353) 25 (nI k25_363)) 29 (nI k29_293)) 30 (nI k30_294)) 31 (nI k31_295)) (uF (uF (uF (uF (uF fv 15 f15_6) 16 f16_7) 17 f_347) 19 f19_296) 28 f28_297) gv) := hD1.weaken (fun _ _ _ h => hFc _ h)
      refine lv_iconst (v := (-1)) hx hb dX9_reads_106 (by decide) ?_
      refine lv_icmp_eq (tgt := 119) hx hb dX9_reads_107 (by decide) (fun c_369 => ?_) (fun c_369 => ?_)
      · have hP : va_P D vwCl (mw h0 ad cs (upd (upd (upd (upd (upd (upd iv 21 (nI k21_352)) 22 p22_353) 25 (nI k25_363)) 29 (nI k29_293)) 30 (nI k30_294)) 31 (nI k31_295)) (uF (uF (uF (uF (uF fv 15 f15_6) 16 f16_7) 17 f_347) 19 f19_296) 28 f28_297) gv) H := hP
        have hD : va_D A (mw h0 ad cs (upd (upd (upd (upd (upd (upd iv 21 (nI k21_352)) 22 p22_353) 25 (nI k25_363)) 29 (nI k29_293)) 30 (nI k30_294)) 31 (nI k31_295)) (uF (uF (uF (uF (uF fv 15 f15_6) 16 f16_7) 17 f_347) 19 f19_296) 28 f28_297) gv) := hD
        exact W.vret hx hb hr (fun t ht hW => ⟨⟨(), rfl, trivial, k21_352, p22_353, nI k25_363, nI k29_293, nI k30_294, nI k31_295, f15_6, f16_7, f_347, f19_296, f28_297, by omega, q_301, q_11, ((Nat.eq_zero_or_pos k21_352).elim (fun h9 => by obtain ⟨n9, hn9⟩ := q_302.resolve_left (by omega); exact Or.inr ⟨q_12.resolve_left (by omega), k30_294, n9, rfl, by omega, hn9⟩) (fun h9 => Or.inl h9)), by rw [ht]; exact hP, va_K.moved hW.alike hK, hD⟩, hS.F ht⟩) hS.2.2 dX9_reads_119
      refine lv_aload_n hx hb dX9_reads_110 rfl (lv_at hl 0 rfl) ?_
      refine lv_iconst (v := 1) hx hb dX9_reads_111 (by decide) ?_
      refine lv_aload_n hx hb dX9_reads_112 rfl (lv_at hl 0 rfl) ?_
      refine va_get (D := D) (ci := 9) (v := .int (nI k25_363)) (C := RX9) (T := TX9) (N := 44) hx hb hts hin9 hown hK hP 0 rfl rfl 25 (by decide) (hts (.fieldLink RX9 87 "HoneyHouseModel" "at" "I") (List.mem_of_getElem? (i := 1) rfl)) (fun _ h9 => h9) rfl dX9_reads_113 ?_
      have hFc := free_all hD hS hA
      refine va_callv (va_runV (As := [.int 1, .int (nI k25_363)]) (rest := []) ⟨hx, hb, hml, hown, hts⟩ (m_blame l D h0 ad cs (upd (upd (upd (upd (upd (upd iv 21 (nI k21_352)) 22 p22_353) 25 (nI k25_363)) 29 (nI k29_293)) 30 (nI k30_294)) 31 (nI k31_295)) (uF (uF (uF (uF (uF fv 15 f15_6) 16 f16_7) 17 f_347) 19 f19_296) 28 f28_297) gv k21_352 1 (nI k25_363) H.size rfl (by omega) (by omega)) (cwV 2 hts gX9_reads_X9_blame rfl rfl rfl (by decide +kernel) ⟨Nat.le_of_ble_eq_true rfl, Nat.le_of_ble_eq_true rfl⟩) ⟨fun a U g mk q => by obtain ⟨q0, q1, qP, qK, qD⟩ := q; exact ⟨q0, q1, qP, va_K.moved (u := U) (U := U.calling g mk a) (Vm.Alike.refl U.vm) qK, qD⟩, va_recv hK hP (ci := 9) (q0 := 0) rfl rfl, fun U hU hW => ⟨rfl, by rw [hU], by rw [hU]; exact hP, va_K.moved hW.alike hK, hD.weaken (fun _ _ _ _ => trivial)⟩⟩ rfl rfl hl.1 rfl (lv_room (Nat.le_of_ble_eq_true rfl)) dX9_reads_116 ⟨Nat.le_of_ble_eq_true rfl, Nat.le_of_ble_eq_true rfl⟩) hS (fun q _ h => hFc q h) hFc (fun u t H1 locs ht hvm w_371 hB hz1 hk1 hS => ?_)
      obtain ⟨k21_372, p22_373, q_374, q_375, hP1, hK1, hD1⟩ := hB
      rw [ht] at hP1
      have hK := va_K.moved hvm.symm hK1
      generalize H1 = H at hP1 hS ⊢
      have hP : va_P D vwCl (mw h0 ad cs (upd (upd (upd (upd (upd (upd iv 21 (nI k21_372)) 22 p22_373) 25 (nI k25_363)) 29 (nI k29_293)) 30 (nI k30_294)) 31 (nI k31_295)) (uF (uF (uF (uF (uF fv 15 f15_6) 16 f16_7) 17 f_347) 19 f19_296) 28 f28_297) gv) H := hP1
      have hD : va_D A (mw h0 ad cs (upd (upd (upd (upd (upd (upd iv 21 (nI k21_372)) 22 p22_373) 25 (nI k25_363)) 29 (nI k29_293)) 30 (nI k30_294)) 31 (nI k31_295)) (uF (uF (uF (uF (uF fv 15 f15_6) 16 f16_7) 17 f_347) 19 f19_296) 28 f28_297) gv) := hD1.weaken (fun _ _ _ h => hFc _ h)
      have hP : va_P D vwCl (mw h0 ad cs (upd (upd (upd (upd (upd (upd iv 21 (nI k21_372)) 22 p22_373) 25 (nI k25_363)) 29 (nI k29_293)) 30 (nI k30_294)) 31 (nI k31_295)) (uF (uF (uF (uF (uF fv 15 f15_6) 16 f16_7) 17 f_347) 19 f19_296) 28 f28_297) gv) H := hP
      have hD : va_D A (mw h0 ad cs (upd (upd (upd (upd (upd (upd iv 21 (nI k21_372)) 22 p22_373) 25 (nI k25_363)) 29 (nI k29_293)) 30 (nI k30_294)) 31 (nI k31_295)) (uF (uF (uF (uF (uF fv 15 f15_6) 16 f16_7) 17 f_347) 19 f19_296) 28 f28_297) gv) := hD
      exact W.vret hx hb hr (fun t ht hW => ⟨⟨(), rfl, trivial, k21_372, p22_373, nI k25_363, nI k29_293, nI k30_294, nI k31_295, f15_6, f16_7, f_347, f19_296, f28_297, by omega, q_301, q_11, Or.inl (by omega), by rw [ht]; exact hP, va_K.moved hW.alike hK, hD⟩, hS.F ht⟩) hS.2.2 dX9_reads_119
    have d_376 := n_ne (a := c_312) (b := 0) (by omega) (by omega) c_323
    refine lv_aload_n hx hb dX9_reads_48 rfl (lv_at hl 0 rfl) ?_
    refine lv_iconst (v := 1) hx hb dX9_reads_49 (by decide) ?_
    refine lv_aload_n hx hb dX9_reads_50 rfl (lv_at hl 0 rfl) ?_
    refine va_get (D := D) (ci := 9) (v := .int (nI k25_307)) (C := RX9) (T := TX9) (N := 44) hx hb hts hin9 hown hK hP 0 rfl rfl 25 (by decide) (hts (.fieldLink RX9 87 "HoneyHouseModel" "at" "I") (List.mem_of_getElem? (i := 1) rfl)) (fun _ h9 => h9) rfl dX9_reads_51 ?_
    have hFc := free_all hD hS hA
    refine va_callv (va_runV (As := [.int 1, .int (nI k25_307)]) (rest := []) ⟨hx, hb, hml, hown, hts⟩ (m_blame l D h0 ad cs (upd (upd (upd (upd (upd (upd iv 21 (nI k21_290)) 22 p22_291) 25 (nI k25_307)) 29 (nI k29_293)) 30 (nI k30_294)) 31 (nI k31_295)) (uF (uF (uF (uF fv 15 f15_6) 16 f16_7) 19 f19_296) 28 f28_297) gv k21_290 1 (nI k25_307) H.size rfl (by omega) (by omega)) (cwV 2 hts gX9_reads_X9_blame rfl rfl rfl (by decide +kernel) ⟨Nat.le_of_ble_eq_true rfl, Nat.le_of_ble_eq_true rfl⟩) ⟨fun a U g mk q => by obtain ⟨q0, q1, qP, qK, qD⟩ := q; exact ⟨q0, q1, qP, va_K.moved (u := U) (U := U.calling g mk a) (Vm.Alike.refl U.vm) qK, qD⟩, va_recv hK hP (ci := 9) (q0 := 0) rfl rfl, fun U hU hW => ⟨rfl, by rw [hU], by rw [hU]; exact hP, va_K.moved hW.alike hK, hD.weaken (fun _ _ _ _ => trivial)⟩⟩ rfl rfl hl.1 rfl (lv_room (Nat.le_of_ble_eq_true rfl)) dX9_reads_54 ⟨Nat.le_of_ble_eq_true rfl, Nat.le_of_ble_eq_true rfl⟩) hS (fun q _ h => hFc q h) hFc (fun u t H1 locs ht hvm w_378 hB hz1 hk1 hS => ?_)
    obtain ⟨k21_379, p22_380, q_381, q_382, hP1, hK1, hD1⟩ := hB
    rw [ht] at hP1
    have hK := va_K.moved hvm.symm hK1
    generalize H1 = H at hP1 hS ⊢
    have hP : va_P D vwCl (mw h0 ad cs (upd (upd (upd (upd (upd (upd iv 21 (nI k21_379)) 22 p22_380) 25 (nI k25_307)) 29 (nI k29_293)) 30 (nI k30_294)) 31 (nI k31_295)) (uF (uF (uF (uF fv 15 f15_6) 16 f16_7) 19 f19_296) 28 f28_297) gv) H := hP1
    have hD : va_D A (mw h0 ad cs (upd (upd (upd (upd (upd (upd iv 21 (nI k21_379)) 22 p22_380) 25 (nI k25_307)) 29 (nI k29_293)) 30 (nI k30_294)) 31 (nI k31_295)) (uF (uF (uF (uF fv 15 f15_6) 16 f16_7) 19 f19_296) 28 f28_297) gv) := hD1.weaken (fun _ _ _ h => hFc _ h)
    have hP : va_P D vwCl (mw h0 ad cs (upd (upd (upd (upd (upd (upd iv 21 (nI k21_379)) 22 p22_380) 25 (nI k25_307)) 29 (nI k29_293)) 30 (nI k30_294)) 31 (nI k31_295)) (uF (uF (uF (uF (uF fv 15 f15_6) 16 f16_7) 17 (fv 17)) 19 f19_296) 28 f28_297) gv) H := hP
    have hD : va_D A (mw h0 ad cs (upd (upd (upd (upd (upd (upd iv 21 (nI k21_379)) 22 p22_380) 25 (nI k25_307)) 29 (nI k29_293)) 30 (nI k30_294)) 31 (nI k31_295)) (uF (uF (uF (uF (uF fv 15 f15_6) 16 f16_7) 17 (fv 17)) 19 f19_296) 28 f28_297) gv) := hD
    exact W.vret hx hb hr (fun t ht hW => ⟨⟨(), rfl, trivial, k21_379, p22_380, nI k25_307, nI k29_293, nI k30_294, nI k31_295, f15_6, f16_7, fv 17, f19_296, f28_297, by omega, q_301, q_11, Or.inl (by omega), by rw [ht]; exact hP, va_K.moved hW.alike hK, hD⟩, hS.F ht⟩) hS.2.2 dX9_reads_57
  have d_383 := n_nle (a := k21_290) (b := 0) (by omega) (by omega) c_303
  have hP : va_P D vwCl (mw h0 ad cs (upd (upd (upd (upd (upd (upd iv 21 (nI k21_290)) 22 p22_291) 25 (nI k25_292)) 29 (nI k29_293)) 30 (nI k30_294)) 31 (nI k31_295)) (uF (uF (uF (uF (uF fv 15 f15_6) 16 f16_7) 17 (fv 17)) 19 f19_296) 28 f28_297) gv) H := hP
  have hD : va_D A (mw h0 ad cs (upd (upd (upd (upd (upd (upd iv 21 (nI k21_290)) 22 p22_291) 25 (nI k25_292)) 29 (nI k29_293)) 30 (nI k30_294)) 31 (nI k31_295)) (uF (uF (uF (uF (uF fv 15 f15_6) 16 f16_7) 17 (fv 17)) 19 f19_296) 28 f28_297) gv) := hD
  exact W.vret hx hb hr (fun t ht hW => ⟨⟨(), rfl, trivial, k21_290, p22_291, nI k25_292, nI k29_293, nI k30_294, nI k31_295, f15_6, f16_7, fv 17, f19_296, f28_297, by omega, q_301, q_11, Or.inl (by omega), by rw [ht]; exact hP, va_K.moved hW.alike hK, hD⟩, hS.F ht⟩) hS.2.2 dX9_reads_40
