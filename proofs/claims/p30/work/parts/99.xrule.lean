theorem dJ7_copyOf_59c91_0 : decode cJ7_copyOf_59c91 0 = .ok (.iload_n 1, 1) := by decide +kernel
theorem dJ7_copyOf_59c91_1 : decode cJ7_copyOf_59c91 1 = .ok (.aload_n 0, 1) := by decide +kernel
theorem dJ7_copyOf_59c91_2 : decode cJ7_copyOf_59c91 2 = .ok (.arraylength, 1) := by decide +kernel
theorem dJ7_copyOf_59c91_3 : decode cJ7_copyOf_59c91 3 = .ok (.if_icmp .ne 11, 3) := by decide +kernel
theorem dJ7_copyOf_59c91_6 : decode cJ7_copyOf_59c91 6 = .ok (.aload_n 0, 1) := by decide +kernel
theorem dJ7_copyOf_59c91_7 : decode cJ7_copyOf_59c91 7 = .ok (.invokevirtual 316, 3) := by decide +kernel
theorem dJ7_copyOf_59c91_10 : decode cJ7_copyOf_59c91 10 = .ok (.checkcast 317, 3) := by decide +kernel
theorem dJ7_copyOf_59c91_13 : decode cJ7_copyOf_59c91 13 = .ok (.areturn, 1) := by decide +kernel
theorem dJ7_copyOf_59c91_14 : decode cJ7_copyOf_59c91 14 = .ok (.iload_n 1, 1) := by decide +kernel
theorem dJ7_copyOf_59c91_15 : decode cJ7_copyOf_59c91 15 = .ok (.newarray .int, 2) := by decide +kernel
theorem dJ7_copyOf_59c91_17 : decode cJ7_copyOf_59c91 17 = .ok (.astore_n 2, 1) := by decide +kernel
theorem dJ7_copyOf_59c91_18 : decode cJ7_copyOf_59c91 18 = .ok (.aload_n 0, 1) := by decide +kernel
theorem dJ7_copyOf_59c91_19 : decode cJ7_copyOf_59c91 19 = .ok (.iconst 0, 1) := by decide +kernel
theorem dJ7_copyOf_59c91_20 : decode cJ7_copyOf_59c91 20 = .ok (.aload_n 2, 1) := by decide +kernel
theorem dJ7_copyOf_59c91_21 : decode cJ7_copyOf_59c91 21 = .ok (.iconst 0, 1) := by decide +kernel
theorem dJ7_copyOf_59c91_22 : decode cJ7_copyOf_59c91 22 = .ok (.aload_n 0, 1) := by decide +kernel
theorem dJ7_copyOf_59c91_23 : decode cJ7_copyOf_59c91 23 = .ok (.arraylength, 1) := by decide +kernel
theorem dJ7_copyOf_59c91_24 : decode cJ7_copyOf_59c91 24 = .ok (.iload_n 1, 1) := by decide +kernel
theorem dJ7_copyOf_59c91_25 : decode cJ7_copyOf_59c91 25 = .ok (.invokestatic 304, 3) := by decide +kernel
theorem dJ7_copyOf_59c91_28 : decode cJ7_copyOf_59c91 28 = .ok (.invokestatic 150, 3) := by decide +kernel
theorem dJ7_copyOf_59c91_31 : decode cJ7_copyOf_59c91 31 = .ok (.aload_n 2, 1) := by decide +kernel
theorem dJ7_copyOf_59c91_32 : decode cJ7_copyOf_59c91 32 = .ok (.areturn, 1) := by decide +kernel
theorem dX4_codeRead_0 : decode cX4_codeRead 0 = .ok (.aload_n 0, 1) := by decide +kernel
theorem dX4_codeRead_1 : decode cX4_codeRead 1 = .ok (.getfield 22, 3) := by decide +kernel
theorem dX4_codeRead_4 : decode cX4_codeRead 4 = .ok (.aload_n 0, 1) := by decide +kernel
theorem dX4_codeRead_5 : decode cX4_codeRead 5 = .ok (.getfield 29, 3) := by decide +kernel
theorem dX4_codeRead_8 : decode cX4_codeRead 8 = .ok (.invokestatic 67, 3) := by decide +kernel
theorem dX4_codeRead_11 : decode cX4_codeRead 11 = .ok (.areturn, 1) := by decide +kernel
set_option maxRecDepth 20000 in
theorem ggX4_codeRead_J7_copyOf_59c91 : GoodIn wsX4_codeRead wsJ7_copyOf_59c91 := goodIn_r _ [6, 7, 8, 9, 10, 11, 12, 13, 14, 15, 16, 17, 18, 19, 20, 21] rfl (by decide +kernel)
set_option maxRecDepth 20000 in
theorem gX4_codeRead_J7_copyOf_59c91 : GoodIn wsX4_codeRead (va_wsS RX4 67 yJ7_copyOf_59c91 wsJ7_copyOf_59c91) := goodIn_app (goodIn_of _ (by decide +kernel)) ggX4_codeRead_J7_copyOf_59c91
/-- what clone asks of the tables -/
def CZ (U : State) : Prop := va_Nw (.castable "[I" "java/lang/Cloneable") U
theorem fit_i (cA : ClassId) (n : Nat) (f : Nat → Int32) : ∀ (i : Nat) (v : Value), (vp_cell cA (n, .inl f)).slots[i]? = some v → fits .int v = true := by
  intro i v h
  rw [vp_cell_i] at h
  rcases Nat.lt_or_ge i n with q | q
  · rw [arrV_read cA (fun j => Value.int (f j)) q] at h; cases h; rfl
  · rw [Array.getElem?_eq_none (by rw [arrV_size]; exact q)] at h; cases h
theorem nm_i {D : va_G} {tys : List (ClassId × FieldType)} {s : State} {t : Nat} {cA : ClassId} (hK : va_K D vwCl tys s) (u : tys[t]? = some (cA, .int)) : s.vm.findClass "[I" = some cA := by
  have h := (hK.2 t _ u).2
  have e : ("[" ++ FieldType.int.toString) = "[I" := by decide
  have h2 : s.vm.findClass ("[" ++ FieldType.int.toString) = some cA := h
  rw [e] at h2
  exact h2
set_option maxHeartbeats 4000000 in
set_option maxRecDepth 100000 in
theorem k_copyOf (l : Launch) (D : va_G) (ρ : Nat → Nat) (ws : va_W) (tys : List (ClassId × FieldType)) (a ka : Nat) (ca : ClassId) (ta n : Nat) (fa : Nat → Int32) (sz : Nat) (hn : n ≤ 200) (ea : ws[ka]? = some (a, .inl (ca, 200, .inl fa))) (ua : tys[ta]? = some (ca, .int)) (hle0 : ∀ k : Nat, ws.length ≤ k → ρ k = 0) : Met l yJ7_copyOf_59c91 wsJ7_copyOf_59c91 ({ frames := 1, cells := 1, slots := 200, locals := 40 }) (va_Pc [.ref a, .int (nI n)] (fun U => U.heap.size = sz ∧ va_P D vwCl ws U.heap ∧ va_K D vwCl tys U ∧ va_D (fun _ => True) ws ∧ CZ U)) (va_Qr (fun _ : Unit => True) (fun (_ : Unit) (q : Nat) (t : State) => ∃ (ws' : va_W) (tys' : List (ClassId × FieldType)), sm ρ [] ws ws' ∧ tyx tys tys' ∧ va_P D vwCl ws' t.heap ∧ va_K D vwCl tys' t ∧ va_D (va_A ws sz) ws' ∧ ∃ n9 : Nat, n9 ≤ 200 ∧ aI ρ ws' tys' q n9) (va_A ws sz)) 1 200 (va_A ws sz) := by
  refine Met.ofW (cc := cJ7_copyOf_59c91) (maxL := 3) (ret := (some (.array .int))) (by decide) rfl ?_
  intro p e s m args below meth c s₁ B hml hv
  obtain ⟨rfl, hsz, hP, hK, hD0, hcz⟩ := hv
  have hx := B.exec
  have hb := B.bytes
  have hr := B.returns
  have hts := atoms_spec (ws := wsJ7_copyOf_59c91) B.pre
  have hown : s.vm.findClass RJ7 = some m.cls := findClass_of_methodNamed B.named
  have hlocks := B.notSynchronized
  subst hsz
  have hD := hD0.self (sz := s.heap.size)
  generalize hAe : va_A ws s.heap.size = A at hD ⊢
  have hA : ∀ q : Nat, s.heap.size ≤ q → A q := fun q h => by rw [← hAe]; exact Or.inr h
  have hS : va_S A s.heap s.heap [] := va_S.rf
  have hsm : sm ρ [] ws ws := sm.rf ws
  have htx : tyx tys tys := tyx.rf tys
  have hl := lv_entry ([.ref a, .int (nI n)]) (n := 3) (Nat.le_of_ble_eq_true rfl)
  rw [lg_entry_eq]
  generalize (lg_sl ([.ref a, .int (nI n)]) ++ List.replicate (3 - (lg_sl ([.ref a, .int (nI n)])).length) Slot.unset).toArray = ls at hl ⊢
  have hl : lv_has ls 3 [(0, .ref a), (1, .int (nI n))] := hl
  refine lv_iload_n hx hb dJ7_copyOf_59c91_0 rfl (lv_at hl 1 rfl) ?_
  refine lv_aload_n hx hb dJ7_copyOf_59c91_1 rfl (lv_at hl 0 rfl) ?_
  refine va_alen (v := 200) hx hb hK hP ka ta ea ua rfl dJ7_copyOf_59c91_2 ?_
  refine lv_icmp_ne (tgt := 14) hx hb dJ7_copyOf_59c91_3 (by decide) (fun c_1 => ?_) (fun c_1 => ?_)
  · have d_2 := n_ne (a := n) (b := 200) (by omega) (by omega) c_1
    refine lv_iload_n hx hb dJ7_copyOf_59c91_14 rfl (lv_at hl 1 rfl) ?_
    refine va_newa (atype := .int) (ty := .int) (a0 := (n, .inl (fun _ => 0))) (N' := n) hx hb (hts (.arrayClass .int) (List.mem_of_getElem? (i := 7) rfl)) rfl hK hP hD hS hA (fun _ => rfl) (nI_pos (by omega)) (nI_clamp (by omega)) (by show n * 4 ≤ 536870912; omega) (Nat.le_of_ble_eq_true rfl) (by show 0 + n ≤ 200; omega) dJ7_copyOf_59c91_15 (fun q_3 y_4 H hK hP hD hS => ?_)
    have ht_6 : tyx tys (tys ++ [(y_4, .int)]) := tyx.app _ _
    have u_7 : (tys ++ [(y_4, .int)])[tys.length]? = some (y_4, .int) := ap_ty _ _
    generalize tys ++ [(y_4, .int)] = ty_5 at hK ht_6 u_7
    have htx := htx.tr ht_6
    have le_8 := hsm.len
    have hP : va_P D vwCl (ws ++ [(q_3, .inl (y_4, n, .inl (fun _ => 0)))]) H := hP
    have hD : va_D A (ws ++ [(q_3, .inl (y_4, n, .inl (fun _ => 0)))]) := hD
    have hm_10 : sm ρ [] ws (ws ++ [(q_3, .inl (y_4, n, .inl (fun _ => 0)))]) := sm.app _ _ _ _
    have e_11 : (ws ++ [(q_3, .inl (y_4, n, .inl (fun _ => 0)))])[ws.length]? = some (q_3, .inl (y_4, n, .inl (fun _ => 0))) := ap_new _ _
    have hm_12 : sm (fun _ => 1) [] ws (ws ++ [(q_3, .inl (y_4, n, .inl (fun _ => 0)))]) := sm.app _ _ _ _
    generalize ws ++ [(q_3, .inl (y_4, n, .inl (fun _ => 0)))] = ws_9 at hP hD hm_10 hm_12 e_11
    have e_13 := hm_12.keep Nat.one_ne_zero ea
    have u_14 := ht_6 _ _ ua
    have hsm := hsm.tr (hm_10.mono (fun _ h9 => absurd h9 List.not_mem_nil))
    refine W.widen (k := 1) (n := 200) (by omega) (by omega) ?_
    refine lv_astore_n (lv' := [(2, .ref q_3), (0, .ref a), (1, .int (nI n))]) hx hb dJ7_copyOf_59c91_17 rfl hl (by decide) rfl (fun ls hl => ?_)
    refine lv_aload_n hx hb dJ7_copyOf_59c91_18 rfl (lv_at hl 1 rfl) ?_
    refine lv_iconst (v := 0) hx hb dJ7_copyOf_59c91_19 (by decide) ?_
    refine lv_aload_n hx hb dJ7_copyOf_59c91_20 rfl (lv_at hl 0 rfl) ?_
    refine lv_iconst (v := 0) hx hb dJ7_copyOf_59c91_21 (by decide) ?_
    refine lv_aload_n hx hb dJ7_copyOf_59c91_22 rfl (lv_at hl 1 rfl) ?_
    refine va_alen (v := 200) hx hb hK hP ka ta e_13 u_14 rfl dJ7_copyOf_59c91_23 ?_
    refine lv_iload_n hx hb dJ7_copyOf_59c91_24 rfl (lv_at hl 2 rfl) ?_
    refine va_mmin hx hb (by rw [hml]; exact hl.1.symm) hown (hts (.methodLink RJ7 304 Lib.Math.min.name) (List.mem_of_getElem? (i := 8) rfl)) (hts (.static Lib.Math.min.name) (List.mem_of_getElem? (i := 9) rfl)) (hts (.initialized "java/lang/Math") (List.mem_of_getElem? (i := 10) rfl)) (hts (.code Lib.Math.min.name Lib.Math.min.code 2 (some .int)) (List.mem_of_getElem? (i := 11) rfl)) (Nat.le_of_ble_eq_true rfl) (Nat.le_of_ble_eq_true rfl) (Nat.le_of_ble_eq_true rfl) (Nat.le_of_ble_eq_true rfl) dJ7_copyOf_59c91_25 ?_
    refine lv_topi (fun z_16 hz_17 => ?_)
    obtain rfl : z_16 = nI n := by rw [hz_17]; exact if_pos (nI_lt (a := n) (b := 200) (by omega) (by omega))
    refine va_copyi (ty := .int) (f := fa) (g := (fun _ => 0)) (sp := 0) (dp := 0) (n := nI n) hx hb (by rw [hml]; exact hl.1.symm) hown (hts (.methodLink RJ7 150 arraycopyName) (List.mem_of_getElem? (i := 12) rfl)) (hts (.native arraycopyName) (List.mem_of_getElem? (i := 13) rfl)) (hts (.static arraycopyName) (List.mem_of_getElem? (i := 14) rfl)) (hts (.initialized "java/lang/System") (List.mem_of_getElem? (i := 15) rfl)) hK hP hD hS ka ws.length ta tys.length e_13 e_11 u_14 u_7 rfl (by decide) (by decide) (nI_pos (by omega)) (by rw [nI_clamp (n := n) (by omega)]; show 0 + n ≤ 200; omega) (by rw [nI_clamp (n := n) (by omega)]; show 0 + n ≤ n; omega) (fun _ _ => rfl) (Nat.le_of_ble_eq_true rfl) (Nat.le_of_ble_eq_true rfl) dJ7_copyOf_59c91_28 (fun H locs hP hD hS => ?_)
    have hm_19 : sm ρ [] ws_9 (ws_9.set ws.length (q_3, .inl (y_4, n, .inl (va_cpy fa (fun _ => 0) (0 : Int32).toNatClampNeg (0 : Int32).toNatClampNeg (nI n).toNatClampNeg)))) := sm.ints e_11 (hle0 _ le_8)
    have e_20 : (ws_9.set ws.length (q_3, .inl (y_4, n, .inl (va_cpy fa (fun _ => 0) (0 : Int32).toNatClampNeg (0 : Int32).toNatClampNeg (nI n).toNatClampNeg))))[ws.length]? = some (q_3, .inl (y_4, n, .inl (va_cpy fa (fun _ => 0) (0 : Int32).toNatClampNeg (0 : Int32).toNatClampNeg (nI n).toNatClampNeg))) := wset_self e_11
    generalize ws_9.set ws.length (q_3, .inl (y_4, n, .inl (va_cpy fa (fun _ => 0) (0 : Int32).toNatClampNeg (0 : Int32).toNatClampNeg (nI n).toNatClampNeg))) = ws_18 at hP hD hm_19 e_20
    obtain ⟨f_22, e_21⟩ := hm_19.arrI e_13
    have hsm := hsm.tr (hm_19.mono (fun _ h9 => absurd h9 List.not_mem_nil))
    generalize va_cpy fa (fun _ => 0) (0 : Int32).toNatClampNeg (0 : Int32).toNatClampNeg (nI n).toNatClampNeg = f_23 at e_20
    refine lv_aload_n hx hb dJ7_copyOf_59c91_31 rfl (lv_at hl 0 rfl) ?_
    refine W.widen (k := 1) (n := 200) (by omega) (by omega) ?_
    exact W.aret (v := .ref q_3) hx hb hr (Or.inr ⟨_, rfl⟩) (Or.inr ⟨_, rfl⟩) (fun t ht hW => ⟨⟨(), q_3, rfl, trivial, ws_18, ty_5, hsm, htx, by rw [ht]; exact hP, va_K.moved hW.alike hK, hD, ⟨n, by omega, ⟨ws.length, y_4, tys.length, f_23, e_20, u_7, (hle0 _ le_8)⟩⟩⟩, hS.F ht⟩) hS.2.2 dJ7_copyOf_59c91_32
  have d_24 := n_eq (a := n) (b := 200) (by omega) (by omega) c_1
  refine lv_aload_n hx hb dJ7_copyOf_59c91_6 rfl (lv_at hl 0 rfl) ?_
  refine va_clone (x := (200, .inl fa)) hx hb (by rw [hml]; exact hl.1.symm) hown (hts (.methodLink RJ7 316 ⟨"[I", "clone", "()Ljava/lang/Object;"⟩) (List.mem_of_getElem? (i := 1) rfl)) (hts (.sameMethod "[I" "java/lang/Object" "clone" "()Ljava/lang/Object;") (List.mem_of_getElem? (i := 2) rfl)) (hts (.native ⟨"java/lang/Object", "clone", "()Ljava/lang/Object;"⟩) (List.mem_of_getElem? (i := 3) rfl)) (hts (.instanceMethod ⟨"java/lang/Object", "clone", "()Ljava/lang/Object;"⟩) (List.mem_of_getElem? (i := 4) rfl)) (hts (.selects "[I" ⟨"[I", "clone", "()Ljava/lang/Object;"⟩ ⟨"java/lang/Object", "clone", "()Ljava/lang/Object;"⟩) (List.mem_of_getElem? (i := 5) rfl)) hcz hK hP hD hS hA ka ta ea ua (nm_i hK ua) (fit_i _ _ _) (Nat.le_of_ble_eq_true rfl) (Nat.le_of_ble_eq_true rfl) (Nat.le_of_ble_eq_true rfl) (Nat.le_of_ble_eq_true rfl) dJ7_copyOf_59c91_7 (fun q_25 H hK hP hD hS => ?_)
  have ht_27 : tyx tys (tys ++ [(ca, .int)]) := tyx.app _ _
  have u_28 : (tys ++ [(ca, .int)])[tys.length]? = some (ca, .int) := ap_ty _ _
  generalize tys ++ [(ca, .int)] = ty_26 at hK ht_27 u_28
  have htx := htx.tr ht_27
  have le_29 := hsm.len
  have hP : va_P D vwCl (ws ++ [(q_25, .inl (ca, 200, .inl fa))]) H := hP
  have hD : va_D A (ws ++ [(q_25, .inl (ca, 200, .inl fa))]) := hD
  have hm_31 : sm ρ [] ws (ws ++ [(q_25, .inl (ca, 200, .inl fa))]) := sm.app _ _ _ _
  have e_32 : (ws ++ [(q_25, .inl (ca, 200, .inl fa))])[ws.length]? = some (q_25, .inl (ca, 200, .inl fa)) := ap_new _ _
  have hm_33 : sm (fun _ => 1) [] ws (ws ++ [(q_25, .inl (ca, 200, .inl fa))]) := sm.app _ _ _ _
  generalize ws ++ [(q_25, .inl (ca, 200, .inl fa))] = ws_30 at hP hD hm_31 hm_33 e_32
  have e_34 := hm_33.keep Nat.one_ne_zero ea
  have u_35 := ht_27 _ _ ua
  have hsm := hsm.tr (hm_31.mono (fun _ h9 => absurd h9 List.not_mem_nil))
  refine W.widen (k := 1) (n := 200) (by omega) (by omega) ?_
  refine va_castA hx hb hown (hts (.classLink RJ7 317 "[I") (List.mem_of_getElem? (i := 6) rfl)) hP ws.length e_32 (nm_i hK u_28) dJ7_copyOf_59c91_10 ?_
  refine W.widen (k := 1) (n := 200) (by omega) (by omega) ?_
  exact W.aret (v := .ref q_25) hx hb hr (Or.inr ⟨_, rfl⟩) (Or.inr ⟨_, rfl⟩) (fun t ht hW => ⟨⟨(), q_25, rfl, trivial, ws_30, ty_26, hsm, htx, by rw [ht]; exact hP, va_K.moved hW.alike hK, hD, ⟨200, by omega, ⟨ws.length, ca, tys.length, fa, e_32, u_28, (hle0 _ le_29)⟩⟩⟩, hS.F ht⟩) hS.2.2 dJ7_copyOf_59c91_13
set_option maxHeartbeats 4000000 in
set_option maxRecDepth 100000 in
theorem k_codeRead (l : Launch) (D : va_G) (ρ : Nat → Nat) (ws : va_W) (tys : List (ClassId × FieldType)) (rd krd tp cd cc : Nat) (r1 : Int64) (r2 r3 r4 r7 : Int32) (kcd : Nat) (ccd : ClassId) (tcd : Nat) (fcd : Nat → Int32) (sz : Nat) (hcc : cc ≤ 200) (erd : ws[krd]? = some (rd, .inr (4, [.ref tp, .long r1, .int r2, .int r3, .int r4, .ref cd, .int (nI cc), .int r7]))) (ecd : ws[kcd]? = some (cd, .inl (ccd, 200, .inl fcd))) (ucd : tys[tcd]? = some (ccd, .int)) (hle0 : ∀ k : Nat, ws.length ≤ k → ρ k = 0) : Met l yX4_codeRead wsX4_codeRead ({ frames := 2, cells := 1, slots := 200, locals := 62 }) (va_Pc [.ref rd] (fun U => U.heap.size = sz ∧ va_P D vwCl ws U.heap ∧ va_K D vwCl tys U ∧ va_D (fun _ => True) ws ∧ CZ U)) (va_Qr (fun _ : Unit => True) (fun (_ : Unit) (q : Nat) (t : State) => ∃ (ws' : va_W) (tys' : List (ClassId × FieldType)), sm ρ [] ws ws' ∧ tyx tys tys' ∧ va_P D vwCl ws' t.heap ∧ va_K D vwCl tys' t ∧ va_D (va_A ws sz) ws' ∧ ∃ n9 : Nat, n9 ≤ 200 ∧ aI ρ ws' tys' q n9) (va_A ws sz)) 1 200 (va_A ws sz) := by
  refine Met.ofW (cc := cX4_codeRead) (maxL := 1) (ret := (some (.array .int))) (by decide) rfl ?_
  intro p e s m args below meth c s₁ B hml hv
  obtain ⟨rfl, hsz, hP, hK, hD0, hcz⟩ := hv
  have hx := B.exec
  have hb := B.bytes
  have hr := B.returns
  have hts := atoms_spec (ws := wsX4_codeRead) B.pre
  have hown : s.vm.findClass RX4 = some m.cls := findClass_of_methodNamed B.named
  have hlocks := B.notSynchronized
  subst hsz
  have hD := hD0.self (sz := s.heap.size)
  generalize hAe : va_A ws s.heap.size = A at hD ⊢
  have hA : ∀ q : Nat, s.heap.size ≤ q → A q := fun q h => by rw [← hAe]; exact Or.inr h
  have hS : va_S A s.heap s.heap [] := va_S.rf
  have hsm : sm ρ [] ws ws := sm.rf ws
  have htx : tyx tys tys := tyx.rf tys
  have hin4 : ∀ w ∈ u_ws RX4 TX4 8, w ∈ wsX4_codeRead := (fun _ h9 => List.mem_cons_of_mem _ ((List.mem_append_right _ h9)))
  have hl := lv_entry ([.ref rd]) (n := 1) (Nat.le_of_ble_eq_true rfl)
  rw [lg_entry_eq]
  generalize (lg_sl ([.ref rd]) ++ List.replicate (1 - (lg_sl ([.ref rd])).length) Slot.unset).toArray = ls at hl ⊢
  have hl : lv_has ls 1 [(0, .ref rd)] := hl
  refine lv_aload_n hx hb dX4_codeRead_0 rfl (lv_at hl 0 rfl) ?_
  refine va_get (D := D) (ci := 4) (v := .ref cd) (C := RX4) (T := TX4) (N := 8) hx hb hts hin4 hown hK hP krd erd rfl 5 (by decide) (hts (.fieldLink RX4 22 "HoneyHouse$RuleReader" "codes" "[I") (List.mem_of_getElem? (i := 1) rfl)) (fun _ h9 => h9) rfl dX4_codeRead_1 ?_
  refine lv_aload_n hx hb dX4_codeRead_4 rfl (lv_at hl 0 rfl) ?_
  refine va_get (D := D) (ci := 4) (v := .int (nI cc)) (C := RX4) (T := TX4) (N := 8) hx hb hts hin4 hown hK hP krd erd rfl 6 (by decide) (hts (.fieldLink RX4 29 "HoneyHouse$RuleReader" "codeCount" "I") (List.mem_of_getElem? (i := 2) rfl)) (fun _ h9 => h9) rfl dX4_codeRead_5 ?_
  have hFc := free_all hD hS hA
  refine va_callr (va_runS (As := [.ref cd, .int (nI cc)]) (rest := []) ⟨hx, hb, hml, hown, hts⟩ (k_copyOf l D ρ ws tys cd kcd ccd tcd cc fcd s.heap.size (by omega) ecd ucd (fun k9 h9 => hle0 k9 (Nat.le_trans hsm.len h9))) (va_cwS 2 hts gX4_codeRead_J7_copyOf_59c91 rfl rfl rfl (by decide +kernel) ⟨Nat.le_of_ble_eq_true rfl, Nat.le_of_ble_eq_true rfl⟩) ⟨fun a U g mk q => by obtain ⟨q0, q1, qP, qK, qD, qZ⟩ := q; exact ⟨q0, q1, qP, va_K.moved (u := U) (U := U.calling g mk a) (Vm.Alike.refl U.vm) qK, qD, va_Nw.same rfl rfl qZ⟩, fun U hU hW => ⟨rfl, by rw [hU], by rw [hU]; exact hP, va_K.moved hW.alike hK, hD.weaken (fun _ _ _ _ => trivial), va_Nw.warmC hW hcz⟩⟩ rfl rfl hl.1 rfl (lv_room (Nat.le_of_ble_eq_true rfl)) dX4_codeRead_8 ⟨Nat.le_of_ble_eq_true rfl, Nat.le_of_ble_eq_true rfl⟩) hS (fun q _ h => hFc q h) hFc (fun u q_1 t H1 locs ht hvm w_2 hB hz1 hk1 hS => ?_)
  obtain ⟨ws_3, ty_4, hm_5, ht_7, hP1, hK1, hD1, hx_6⟩ := hB
  rw [ht] at hP1
  have hK := va_K.moved hvm.symm hK1
  have hD := hD1.weaken (fun _ _ _ h => hFc _ h)
  generalize H1 = H at hP1 hS ⊢
  have hP := hP1
  have e_8 := hm_5.objK erd (by decide)
  obtain ⟨f_10, e_9⟩ := hm_5.arrI ecd
  have u_11 := ht_7 _ _ ucd
  have hsm := hsm.tr (hm_5.mono (by decide))
  have htx := htx.tr ht_7
  refine W.widen (k := 1) (n := 200) (by omega) (by omega) ?_
  obtain ⟨n_19, hn_20, k_12, c9_13, t_14, f_15, e_16, u_17, w_18⟩ := hx_6
  refine W.widen (k := 1) (n := 200) (by omega) (by omega) ?_
  exact W.aret (v := .ref q_1) hx hb hr (Or.inr ⟨_, rfl⟩) (Or.inr ⟨_, rfl⟩) (fun t ht hW => ⟨⟨(), q_1, rfl, trivial, ws_3, ty_4, hsm, htx, by rw [ht]; exact hP, va_K.moved hW.alike hK, hD, ⟨n_19, by omega, ⟨k_12, c9_13, t_14, f_15, e_16, u_17, w_18⟩⟩⟩, hS.F ht⟩) hS.2.2 dX4_codeRead_11
