theorem dX8_isIn_0 : decode cX8_isIn 0 = .ok (.iload_n 0, 1) := by decide +kernel
theorem dX8_isIn_1 : decode cX8_isIn 1 = .ok (.iload_n 1, 1) := by decide +kernel
theorem dX8_isIn_2 : decode cX8_isIn 2 = .ok (.if_icmp .lt 12, 3) := by decide +kernel
theorem dX8_isIn_5 : decode cX8_isIn 5 = .ok (.iload_n 0, 1) := by decide +kernel
theorem dX8_isIn_6 : decode cX8_isIn 6 = .ok (.iload_n 2, 1) := by decide +kernel
theorem dX8_isIn_7 : decode cX8_isIn 7 = .ok (.if_icmp .gt 7, 3) := by decide +kernel
theorem dX8_isIn_10 : decode cX8_isIn 10 = .ok (.iconst 1, 1) := by decide +kernel
theorem dX8_isIn_11 : decode cX8_isIn 11 = .ok (.goto 4, 3) := by decide +kernel
theorem dX8_isIn_14 : decode cX8_isIn 14 = .ok (.iconst 0, 1) := by decide +kernel
theorem dX8_isIn_15 : decode cX8_isIn 15 = .ok (.ireturn, 1) := by decide +kernel
theorem dX9_is_0 : decode cX9_is 0 = .ok (.iload_n 0, 1) := by decide +kernel
theorem dX9_is_1 : decode cX9_is 1 = .ok (.iload_n 1, 1) := by decide +kernel
theorem dX9_is_2 : decode cX9_is 2 = .ok (.if_icmp .lt 12, 3) := by decide +kernel
theorem dX9_is_5 : decode cX9_is 5 = .ok (.iload_n 0, 1) := by decide +kernel
theorem dX9_is_6 : decode cX9_is 6 = .ok (.iload_n 2, 1) := by decide +kernel
theorem dX9_is_7 : decode cX9_is 7 = .ok (.if_icmp .gt 7, 3) := by decide +kernel
theorem dX9_is_10 : decode cX9_is 10 = .ok (.iconst 1, 1) := by decide +kernel
theorem dX9_is_11 : decode cX9_is 11 = .ok (.goto 4, 3) := by decide +kernel
theorem dX9_is_14 : decode cX9_is 14 = .ok (.iconst 0, 1) := by decide +kernel
theorem dX9_is_15 : decode cX9_is 15 = .ok (.ireturn, 1) := by decide +kernel
theorem dX9_isTank_0 : decode cX9_isTank 0 = .ok (.iload_n 0, 1) := by decide +kernel
theorem dX9_isTank_1 : decode cX9_isTank 1 = .ok (.ifCond .lt 13, 3) := by decide +kernel
theorem dX9_isTank_4 : decode cX9_isTank 4 = .ok (.iload_n 0, 1) := by decide +kernel
theorem dX9_isTank_5 : decode cX9_isTank 5 = .ok (.bipush 10, 2) := by decide +kernel
theorem dX9_isTank_7 : decode cX9_isTank 7 = .ok (.if_icmp .ge 7, 3) := by decide +kernel
theorem dX9_isTank_10 : decode cX9_isTank 10 = .ok (.iconst 1, 1) := by decide +kernel
theorem dX9_isTank_11 : decode cX9_isTank 11 = .ok (.goto 4, 3) := by decide +kernel
theorem dX9_isTank_14 : decode cX9_isTank 14 = .ok (.iconst 0, 1) := by decide +kernel
theorem dX9_isTank_15 : decode cX9_isTank 15 = .ok (.ireturn, 1) := by decide +kernel
theorem dX8_lotAt_0 : decode cX8_lotAt 0 = .ok (.iload_n 1, 1) := by decide +kernel
theorem dX8_lotAt_1 : decode cX8_lotAt 1 = .ok (.iconst 0, 1) := by decide +kernel
theorem dX8_lotAt_2 : decode cX8_lotAt 2 = .ok (.aload_n 0, 1) := by decide +kernel
theorem dX8_lotAt_3 : decode cX8_lotAt 3 = .ok (.getfield 11, 3) := by decide +kernel
theorem dX8_lotAt_6 : decode cX8_lotAt 6 = .ok (.arraylength, 1) := by decide +kernel
theorem dX8_lotAt_7 : decode cX8_lotAt 7 = .ok (.iconst 1, 1) := by decide +kernel
theorem dX8_lotAt_8 : decode cX8_lotAt 8 = .ok (.isub, 1) := by decide +kernel
theorem dX8_lotAt_9 : decode cX8_lotAt 9 = .ok (.invokestatic 85, 3) := by decide +kernel
theorem dX8_lotAt_12 : decode cX8_lotAt 12 = .ok (.ifCond .eq 12, 3) := by decide +kernel
theorem dX8_lotAt_15 : decode cX8_lotAt 15 = .ok (.aload_n 0, 1) := by decide +kernel
theorem dX8_lotAt_16 : decode cX8_lotAt 16 = .ok (.getfield 11, 3) := by decide +kernel
theorem dX8_lotAt_19 : decode cX8_lotAt 19 = .ok (.iload_n 1, 1) := by decide +kernel
theorem dX8_lotAt_20 : decode cX8_lotAt 20 = .ok (.aaload, 1) := by decide +kernel
theorem dX8_lotAt_21 : decode cX8_lotAt 21 = .ok (.goto 4, 3) := by decide +kernel
theorem dX8_lotAt_24 : decode cX8_lotAt 24 = .ok (.aconst_null, 1) := by decide +kernel
theorem dX8_lotAt_25 : decode cX8_lotAt 25 = .ok (.areturn, 1) := by decide +kernel
theorem dX8_tankAt_0 : decode cX8_tankAt 0 = .ok (.iload_n 1, 1) := by decide +kernel
theorem dX8_tankAt_1 : decode cX8_tankAt 1 = .ok (.iconst 0, 1) := by decide +kernel
theorem dX8_tankAt_2 : decode cX8_tankAt 2 = .ok (.aload_n 0, 1) := by decide +kernel
theorem dX8_tankAt_3 : decode cX8_tankAt 3 = .ok (.getfield 17, 3) := by decide +kernel
theorem dX8_tankAt_6 : decode cX8_tankAt 6 = .ok (.arraylength, 1) := by decide +kernel
theorem dX8_tankAt_7 : decode cX8_tankAt 7 = .ok (.iconst 1, 1) := by decide +kernel
theorem dX8_tankAt_8 : decode cX8_tankAt 8 = .ok (.isub, 1) := by decide +kernel
theorem dX8_tankAt_9 : decode cX8_tankAt 9 = .ok (.invokestatic 85, 3) := by decide +kernel
theorem dX8_tankAt_12 : decode cX8_tankAt 12 = .ok (.ifCond .eq 12, 3) := by decide +kernel
theorem dX8_tankAt_15 : decode cX8_tankAt 15 = .ok (.aload_n 0, 1) := by decide +kernel
theorem dX8_tankAt_16 : decode cX8_tankAt 16 = .ok (.getfield 17, 3) := by decide +kernel
theorem dX8_tankAt_19 : decode cX8_tankAt 19 = .ok (.iload_n 1, 1) := by decide +kernel
theorem dX8_tankAt_20 : decode cX8_tankAt 20 = .ok (.aaload, 1) := by decide +kernel
theorem dX8_tankAt_21 : decode cX8_tankAt 21 = .ok (.goto 4, 3) := by decide +kernel
theorem dX8_tankAt_24 : decode cX8_tankAt 24 = .ok (.aconst_null, 1) := by decide +kernel
theorem dX8_tankAt_25 : decode cX8_tankAt 25 = .ok (.areturn, 1) := by decide +kernel
theorem dX8_ruleAt_0 : decode cX8_ruleAt 0 = .ok (.iload_n 1, 1) := by decide +kernel
theorem dX8_ruleAt_1 : decode cX8_ruleAt 1 = .ok (.iconst 0, 1) := by decide +kernel
theorem dX8_ruleAt_2 : decode cX8_ruleAt 2 = .ok (.aload_n 0, 1) := by decide +kernel
theorem dX8_ruleAt_3 : decode cX8_ruleAt 3 = .ok (.getfield 26, 3) := by decide +kernel
theorem dX8_ruleAt_6 : decode cX8_ruleAt 6 = .ok (.arraylength, 1) := by decide +kernel
theorem dX8_ruleAt_7 : decode cX8_ruleAt 7 = .ok (.iconst 1, 1) := by decide +kernel
theorem dX8_ruleAt_8 : decode cX8_ruleAt 8 = .ok (.isub, 1) := by decide +kernel
theorem dX8_ruleAt_9 : decode cX8_ruleAt 9 = .ok (.invokestatic 85, 3) := by decide +kernel
theorem dX8_ruleAt_12 : decode cX8_ruleAt 12 = .ok (.ifCond .eq 12, 3) := by decide +kernel
theorem dX8_ruleAt_15 : decode cX8_ruleAt 15 = .ok (.aload_n 0, 1) := by decide +kernel
theorem dX8_ruleAt_16 : decode cX8_ruleAt 16 = .ok (.getfield 26, 3) := by decide +kernel
theorem dX8_ruleAt_19 : decode cX8_ruleAt 19 = .ok (.iload_n 1, 1) := by decide +kernel
theorem dX8_ruleAt_20 : decode cX8_ruleAt 20 = .ok (.aaload, 1) := by decide +kernel
theorem dX8_ruleAt_21 : decode cX8_ruleAt 21 = .ok (.goto 4, 3) := by decide +kernel
theorem dX8_ruleAt_24 : decode cX8_ruleAt 24 = .ok (.aconst_null, 1) := by decide +kernel
theorem dX8_ruleAt_25 : decode cX8_ruleAt 25 = .ok (.areturn, 1) := by decide +kernel
set_option maxRecDepth 20000 in
theorem ggX8_lotAt_X8_isIn : GoodIn wsX8_lotAt wsX8_isIn := goodIn_r _ [5] rfl (by decide +kernel)
set_option maxRecDepth 20000 in
theorem gX8_lotAt_X8_isIn : GoodIn wsX8_lotAt (va_wsS RX8 85 yX8_isIn wsX8_isIn) := goodIn_app (goodIn_of _ (by decide +kernel)) ggX8_lotAt_X8_isIn
set_option maxRecDepth 20000 in
theorem ggX8_tankAt_X8_isIn : GoodIn wsX8_tankAt wsX8_isIn := goodIn_r _ [5] rfl (by decide +kernel)
set_option maxRecDepth 20000 in
theorem gX8_tankAt_X8_isIn : GoodIn wsX8_tankAt (va_wsS RX8 85 yX8_isIn wsX8_isIn) := goodIn_app (goodIn_of _ (by decide +kernel)) ggX8_tankAt_X8_isIn
set_option maxRecDepth 20000 in
theorem ggX8_ruleAt_X8_isIn : GoodIn wsX8_ruleAt wsX8_isIn := goodIn_r _ [5] rfl (by decide +kernel)
set_option maxRecDepth 20000 in
theorem gX8_ruleAt_X8_isIn : GoodIn wsX8_ruleAt (va_wsS RX8 85 yX8_isIn wsX8_isIn) := goodIn_app (goodIn_of _ (by decide +kernel)) ggX8_ruleAt_X8_isIn
theorem fb_rng0 (x : Int32) : -2147483648 ≤ x.toInt ∧ x.toInt < 2147483648 := ⟨Int32.le_toInt x, Int32.toInt_lt x⟩
set_option maxHeartbeats 4000000 in
set_option maxRecDepth 100000 in
/-- isIn: 1 where least ≤ n ≤ most -/
theorem s_X8_isIn (l : Launch) (n lo hi : Int32) : Met l yX8_isIn wsX8_isIn ({ frames := 0, cells := 0, slots := 0, locals := 0 }) (va_Pc [.int n, .int lo, .int hi] (fun _ => True)) (vp_Si (fun r => (r = 0 ∧ (n < lo ∨ hi < n)) ∨ (r = 1 ∧ ¬ n < lo ∧ ¬ hi < n))) 0 0 (fun _ => False) := by
  refine Met.ofW (cc := cX8_isIn) (maxL := 3) (ret := (some .boolean)) (by decide) rfl ?_
  intro p e s m args below meth c s₁ B hml hv
  obtain ⟨rfl, -⟩ := hv
  have hx := B.exec
  have hb := B.bytes
  have hr := B.returns
  have hts := atoms_spec (ws := wsX8_isIn) B.pre
  have hown : s.vm.findClass RX8 = some m.cls := findClass_of_methodNamed B.named
  have hlocks := B.notSynchronized
  have hl := lv_entry ([.int n, .int lo, .int hi]) (n := 3) (Nat.le_of_ble_eq_true rfl)
  rw [lg_entry_eq]
  generalize (lg_sl ([.int n, .int lo, .int hi]) ++ List.replicate (3 - (lg_sl ([.int n, .int lo, .int hi])).length) Slot.unset).toArray = ls at hl ⊢
  have hl : lv_has ls 3 [(0, .int n), (1, .int lo), (2, .int hi)] := hl
  refine lv_iload_n hx hb dX8_isIn_0 rfl (lv_at hl 0 rfl) ?_
  refine lv_iload_n hx hb dX8_isIn_1 rfl (lv_at hl 1 rfl) ?_
  refine lv_icmp_lt (tgt := 14) hx hb dX8_isIn_2 (by decide) (fun c_1 => ?_) (fun c_1 => ?_)
  · refine lv_iconst (v := 0) hx hb dX8_isIn_14 (by decide) ?_
    exact W.zret (v := 0) hx hb hr rfl (fun t ht hW => ⟨0, rfl, Or.inl ⟨rfl, Or.inl c_1⟩, ht⟩) (fun _ h9 => by cases h9) dX8_isIn_15
  refine lv_iload_n hx hb dX8_isIn_5 rfl (lv_at hl 0 rfl) ?_
  refine lv_iload_n hx hb dX8_isIn_6 rfl (lv_at hl 2 rfl) ?_
  refine lv_icmp_gt (tgt := 14) hx hb dX8_isIn_7 (by decide) (fun c_2 => ?_) (fun c_2 => ?_)
  · refine lv_iconst (v := 0) hx hb dX8_isIn_14 (by decide) ?_
    exact W.zret (v := 0) hx hb hr rfl (fun t ht hW => ⟨0, rfl, Or.inl ⟨rfl, Or.inr c_2⟩, ht⟩) (fun _ h9 => by cases h9) dX8_isIn_15
  refine lv_iconst (v := 1) hx hb dX8_isIn_10 (by decide) ?_
  refine lv_goto (tgt := 15) hx hb dX8_isIn_11 (by decide) ?_
  exact W.zret (v := 1) hx hb hr rfl (fun t ht hW => ⟨1, rfl, Or.inr ⟨rfl, c_1, c_2⟩, ht⟩) (fun _ h9 => by cases h9) dX8_isIn_15
set_option maxHeartbeats 4000000 in
set_option maxRecDepth 100000 in
/-- is: the same of the reference -/
theorem s_X9_is (l : Launch) (n lo hi : Int32) : Met l yX9_is wsX9_is ({ frames := 0, cells := 0, slots := 0, locals := 0 }) (va_Pc [.int n, .int lo, .int hi] (fun _ => True)) (vp_Si (fun r => (r = 0 ∧ (n < lo ∨ hi < n)) ∨ (r = 1 ∧ ¬ n < lo ∧ ¬ hi < n))) 0 0 (fun _ => False) := by
  refine Met.ofW (cc := cX9_is) (maxL := 3) (ret := (some .boolean)) (by decide) rfl ?_
  intro p e s m args below meth c s₁ B hml hv
  obtain ⟨rfl, -⟩ := hv
  have hx := B.exec
  have hb := B.bytes
  have hr := B.returns
  have hts := atoms_spec (ws := wsX9_is) B.pre
  have hown : s.vm.findClass RX9 = some m.cls := findClass_of_methodNamed B.named
  have hlocks := B.notSynchronized
  have hl := lv_entry ([.int n, .int lo, .int hi]) (n := 3) (Nat.le_of_ble_eq_true rfl)
  rw [lg_entry_eq]
  generalize (lg_sl ([.int n, .int lo, .int hi]) ++ List.replicate (3 - (lg_sl ([.int n, .int lo, .int hi])).length) Slot.unset).toArray = ls at hl ⊢
  have hl : lv_has ls 3 [(0, .int n), (1, .int lo), (2, .int hi)] := hl
  refine lv_iload_n hx hb dX9_is_0 rfl (lv_at hl 0 rfl) ?_
  refine lv_iload_n hx hb dX9_is_1 rfl (lv_at hl 1 rfl) ?_
  refine lv_icmp_lt (tgt := 14) hx hb dX9_is_2 (by decide) (fun c_1 => ?_) (fun c_1 => ?_)
  · refine lv_iconst (v := 0) hx hb dX9_is_14 (by decide) ?_
    exact W.zret (v := 0) hx hb hr rfl (fun t ht hW => ⟨0, rfl, Or.inl ⟨rfl, Or.inl c_1⟩, ht⟩) (fun _ h9 => by cases h9) dX9_is_15
  refine lv_iload_n hx hb dX9_is_5 rfl (lv_at hl 0 rfl) ?_
  refine lv_iload_n hx hb dX9_is_6 rfl (lv_at hl 2 rfl) ?_
  refine lv_icmp_gt (tgt := 14) hx hb dX9_is_7 (by decide) (fun c_2 => ?_) (fun c_2 => ?_)
  · refine lv_iconst (v := 0) hx hb dX9_is_14 (by decide) ?_
    exact W.zret (v := 0) hx hb hr rfl (fun t ht hW => ⟨0, rfl, Or.inl ⟨rfl, Or.inr c_2⟩, ht⟩) (fun _ h9 => by cases h9) dX9_is_15
  refine lv_iconst (v := 1) hx hb dX9_is_10 (by decide) ?_
  refine lv_goto (tgt := 15) hx hb dX9_is_11 (by decide) ?_
  exact W.zret (v := 1) hx hb hr rfl (fun t ht hW => ⟨1, rfl, Or.inr ⟨rfl, c_1, c_2⟩, ht⟩) (fun _ h9 => by cases h9) dX9_is_15
set_option maxHeartbeats 4000000 in
set_option maxRecDepth 100000 in
theorem s_X9_isTank (l : Launch) (n : Int32) : Met l yX9_isTank wsX9_isTank ({ frames := 0, cells := 0, slots := 0, locals := 0 }) (va_Pc [.int n] (fun _ => True)) (vp_Si (fun r => (r = 0 ∧ (n < 0 ∨ 9 < n)) ∨ (r = 1 ∧ ¬ n < 0 ∧ ¬ 9 < n))) 0 0 (fun _ => False) := by
  refine Met.ofW (cc := cX9_isTank) (maxL := 1) (ret := (some .boolean)) (by decide) rfl ?_
  intro p e s m args below meth c s₁ B hml hv
  obtain ⟨rfl, -⟩ := hv
  have hx := B.exec
  have hb := B.bytes
  have hr := B.returns
  have hts := atoms_spec (ws := wsX9_isTank) B.pre
  have hown : s.vm.findClass RX9 = some m.cls := findClass_of_methodNamed B.named
  have hlocks := B.notSynchronized
  have hl := lv_entry ([.int n]) (n := 1) (Nat.le_of_ble_eq_true rfl)
  rw [lg_entry_eq]
  generalize (lg_sl ([.int n]) ++ List.replicate (1 - (lg_sl ([.int n])).length) Slot.unset).toArray = ls at hl ⊢
  have hl : lv_has ls 1 [(0, .int n)] := hl
  refine lv_iload_n hx hb dX9_isTank_0 rfl (lv_at hl 0 rfl) ?_
  refine lv_if_lt (tgt := 14) hx hb dX9_isTank_1 (by decide) (fun c_1 => ?_) (fun c_1 => ?_)
  · refine lv_iconst (v := 0) hx hb dX9_isTank_14 (by decide) ?_
    exact W.zret (v := 0) hx hb hr rfl (fun t ht hW => ⟨0, rfl, Or.inl ⟨rfl, Or.inl c_1⟩, ht⟩) (fun _ h9 => by cases h9) dX9_isTank_15
  refine lv_iload_n hx hb dX9_isTank_4 rfl (lv_at hl 0 rfl) ?_
  refine lv_bipush (v := 10) hx hb dX9_isTank_5 (by decide) ?_
  refine lv_icmp_ge (tgt := 14) hx hb dX9_isTank_7 (by decide) (fun c_2 => ?_) (fun c_2 => ?_)
  · refine lv_iconst (v := 0) hx hb dX9_isTank_14 (by decide) ?_
    exact W.zret (v := 0) hx hb hr rfl (fun t ht hW => ⟨0, rfl, Or.inl ⟨rfl, Or.inr (i_le_of c_2 (by decide))⟩, ht⟩) (fun _ h9 => by cases h9) dX9_isTank_15
  refine lv_iconst (v := 1) hx hb dX9_isTank_10 (by decide) ?_
  refine lv_goto (tgt := 15) hx hb dX9_isTank_11 (by decide) ?_
  exact W.zret (v := 1) hx hb hr rfl (fun t ht hW => ⟨1, rfl, Or.inr ⟨rfl, c_1, i_nle_of c_2 (by decide)⟩, ht⟩) (fun _ h9 => by cases h9) dX9_isTank_15
set_option maxHeartbeats 4000000 in
set_option maxRecDepth 100000 in
theorem s_X8_lotAt (l : Launch) (D : va_G) (ws : va_W) (tys : List (ClassId × FieldType)) (h0 k0 : Nat) (fs : List Value) (la k1 : Nat) (c1 : ClassId) (g : Nat → Option Nat) (t1 : Nat) (n : Int32) (e0 : ws[k0]? = some (h0, .inr (8, fs))) (f0 : fs[0]? = some (.ref la)) (e1 : ws[k1]? = some (la, .inl (c1, 40, .inr (.inr (.inr (.inr g)))))) (u1 : tys[t1]? = some (c1, .object RX2)) : Met l yX8_lotAt wsX8_lotAt ({ frames := 1, cells := 0, slots := 0, locals := 22 }) (va_Pc [.ref h0, .int n] (fun U => va_P D vwCl ws U.heap ∧ va_K D vwCl tys U)) (va_Sq (fun r => (r = none ∧ (n < 0 ∨ 39 < n)) ∨ (¬ n < 0 ∧ ¬ 39 < n ∧ r = g n.toNatClampNeg))) 0 0 (fun _ => False) := by
  refine Met.ofW (cc := cX8_lotAt) (maxL := 2) (ret := (some (.object "HoneyHouse$Lot"))) (by decide) rfl ?_
  intro p e s m args below meth c s₁ B hml hv
  obtain ⟨rfl, hP, hK⟩ := hv
  have hx := B.exec
  have hb := B.bytes
  have hr := B.returns
  have hts := atoms_spec (ws := wsX8_lotAt) B.pre
  have hown : s.vm.findClass RX8 = some m.cls := findClass_of_methodNamed B.named
  have hlocks := B.notSynchronized
  have hin8 : ∀ w ∈ u_ws RX8 TX8 15, w ∈ wsX8_lotAt := (fun _ h9 => List.mem_cons_of_mem _ ((List.mem_append_right _ h9)))
  have hl := lv_entry ([.ref h0, .int n]) (n := 2) (Nat.le_of_ble_eq_true rfl)
  rw [lg_entry_eq]
  generalize (lg_sl ([.ref h0, .int n]) ++ List.replicate (2 - (lg_sl ([.ref h0, .int n])).length) Slot.unset).toArray = ls at hl ⊢
  have hl : lv_has ls 2 [(0, .ref h0), (1, .int n)] := hl
  refine lv_iload_n hx hb dX8_lotAt_0 rfl (lv_at hl 1 rfl) ?_
  refine lv_iconst (v := 0) hx hb dX8_lotAt_1 (by decide) ?_
  refine lv_aload_n hx hb dX8_lotAt_2 rfl (lv_at hl 0 rfl) ?_
  refine va_get (D := D) (ci := 8) (v := .ref la) (C := RX8) (T := TX8) (N := 15) hx hb hts hin8 hown hK hP k0 e0 rfl 0 (by decide) (hts (.fieldLink RX8 11 "HoneyHouse" "lots" "[LHoneyHouse$Lot;") (List.mem_of_getElem? (i := 1) rfl)) (fun _ h9 => h9) f0 dX8_lotAt_3 ?_
  refine va_alen (v := 40) hx hb hK hP k1 t1 e1 u1 rfl dX8_lotAt_6 ?_
  refine lv_iconst (v := 1) hx hb dX8_lotAt_7 (by decide) ?_
  refine lv_isub hx hb dX8_lotAt_8 ?_
  refine tp_i (y := 39) (by decide) ?_
  refine vp_callSi (W.runS (As := [.int n, .int 0, .int 39]) (rest := []) ⟨hx, hb, hml, hown, hts⟩ (s_X8_isIn l n 0 39) (va_cwS 3 hts gX8_lotAt_X8_isIn rfl rfl rfl (by decide +kernel) ⟨Nat.le_of_ble_eq_true rfl, Nat.le_of_ble_eq_true rfl⟩) ⟨fun a U g mk q => q, fun U hU hW => ⟨rfl, trivial⟩⟩ rfl rfl hl.1 rfl (lv_room (Nat.le_of_ble_eq_true rfl)) dX8_lotAt_9 ⟨Nat.le_of_ble_eq_true rfl, Nat.le_of_ble_eq_true rfl⟩) (fun r_1 k_2 => ?_)
  rcases k_2 with ⟨rfl, a_3o⟩ | ⟨rfl, a_3, b_4⟩
  · refine lv_if_eq (tgt := 24) hx hb dX8_lotAt_12 (by decide) (fun c_5 => ?_) (fun c_5 => absurd (by decide) c_5)
    refine lv_null hx hb dX8_lotAt_24 ?_
    exact W.aret (v := .null) hx hb hr (Or.inl ⟨_, rfl⟩) (Or.inl rfl) (fun t ht hW => ⟨none, rfl, Or.inl ⟨rfl, a_3o⟩, ht⟩) (fun _ h9 => by cases h9) dX8_lotAt_25
  refine lv_if_eq (tgt := 24) hx hb dX8_lotAt_12 (by decide) (fun c_6 => absurd c_6 (by decide)) (fun c_6 => ?_)
  refine lv_aload_n hx hb dX8_lotAt_15 rfl (lv_at hl 0 rfl) ?_
  refine va_get (D := D) (ci := 8) (v := .ref la) (C := RX8) (T := TX8) (N := 15) hx hb hts hin8 hown hK hP k0 e0 rfl 0 (by decide) (hts (.fieldLink RX8 11 "HoneyHouse" "lots" "[LHoneyHouse$Lot;") (List.mem_of_getElem? (i := 1) rfl)) (fun _ h9 => h9) f0 dX8_lotAt_16 ?_
  refine lv_iload_n hx hb dX8_lotAt_19 rfl (lv_at hl 1 rfl) ?_
  refine va_aldq (f := g) (n := 40) hx hb hK hP k1 t1 e1 u1 (i_in a_3 b_4 (by decide)) dX8_lotAt_20 ?_
  refine lv_goto (tgt := 25) hx hb dX8_lotAt_21 (by decide) ?_
  exact W.aret (v := va_rf (g n.toNatClampNeg)) hx hb hr (Or.inl ⟨_, rfl⟩) (va_rf_or _) (fun t ht hW => ⟨g n.toNatClampNeg, rfl, Or.inr ⟨a_3, b_4, rfl⟩, ht⟩) (fun _ h9 => by cases h9) dX8_lotAt_25
set_option maxHeartbeats 4000000 in
set_option maxRecDepth 100000 in
theorem s_X8_tankAt (l : Launch) (D : va_G) (ws : va_W) (tys : List (ClassId × FieldType)) (h0 k0 : Nat) (fs : List Value) (la k1 : Nat) (c1 : ClassId) (g : Nat → Option Nat) (t1 : Nat) (n : Int32) (e0 : ws[k0]? = some (h0, .inr (8, fs))) (f0 : fs[1]? = some (.ref la)) (e1 : ws[k1]? = some (la, .inl (c1, 10, .inr (.inr (.inr (.inr g)))))) (u1 : tys[t1]? = some (c1, .object RX7)) : Met l yX8_tankAt wsX8_tankAt ({ frames := 1, cells := 0, slots := 0, locals := 22 }) (va_Pc [.ref h0, .int n] (fun U => va_P D vwCl ws U.heap ∧ va_K D vwCl tys U)) (va_Sq (fun r => (r = none ∧ (n < 0 ∨ 9 < n)) ∨ (¬ n < 0 ∧ ¬ 9 < n ∧ r = g n.toNatClampNeg))) 0 0 (fun _ => False) := by
  refine Met.ofW (cc := cX8_tankAt) (maxL := 2) (ret := (some (.object "HoneyHouse$Vessel"))) (by decide) rfl ?_
  intro p e s m args below meth c s₁ B hml hv
  obtain ⟨rfl, hP, hK⟩ := hv
  have hx := B.exec
  have hb := B.bytes
  have hr := B.returns
  have hts := atoms_spec (ws := wsX8_tankAt) B.pre
  have hown : s.vm.findClass RX8 = some m.cls := findClass_of_methodNamed B.named
  have hlocks := B.notSynchronized
  have hin8 : ∀ w ∈ u_ws RX8 TX8 15, w ∈ wsX8_tankAt := (fun _ h9 => List.mem_cons_of_mem _ ((List.mem_append_right _ h9)))
  have hl := lv_entry ([.ref h0, .int n]) (n := 2) (Nat.le_of_ble_eq_true rfl)
  rw [lg_entry_eq]
  generalize (lg_sl ([.ref h0, .int n]) ++ List.replicate (2 - (lg_sl ([.ref h0, .int n])).length) Slot.unset).toArray = ls at hl ⊢
  have hl : lv_has ls 2 [(0, .ref h0), (1, .int n)] := hl
  refine lv_iload_n hx hb dX8_tankAt_0 rfl (lv_at hl 1 rfl) ?_
  refine lv_iconst (v := 0) hx hb dX8_tankAt_1 (by decide) ?_
  refine lv_aload_n hx hb dX8_tankAt_2 rfl (lv_at hl 0 rfl) ?_
  refine va_get (D := D) (ci := 8) (v := .ref la) (C := RX8) (T := TX8) (N := 15) hx hb hts hin8 hown hK hP k0 e0 rfl 1 (by decide) (hts (.fieldLink RX8 17 "HoneyHouse" "tanks" "[LHoneyHouse$Vessel;") (List.mem_of_getElem? (i := 1) rfl)) (fun _ h9 => h9) f0 dX8_tankAt_3 ?_
  refine va_alen (v := 10) hx hb hK hP k1 t1 e1 u1 rfl dX8_tankAt_6 ?_
  refine lv_iconst (v := 1) hx hb dX8_tankAt_7 (by decide) ?_
  refine lv_isub hx hb dX8_tankAt_8 ?_
  refine tp_i (y := 9) (by decide) ?_
  refine vp_callSi (W.runS (As := [.int n, .int 0, .int 9]) (rest := []) ⟨hx, hb, hml, hown, hts⟩ (s_X8_isIn l n 0 9) (va_cwS 3 hts gX8_tankAt_X8_isIn rfl rfl rfl (by decide +kernel) ⟨Nat.le_of_ble_eq_true rfl, Nat.le_of_ble_eq_true rfl⟩) ⟨fun a U g mk q => q, fun U hU hW => ⟨rfl, trivial⟩⟩ rfl rfl hl.1 rfl (lv_room (Nat.le_of_ble_eq_true rfl)) dX8_tankAt_9 ⟨Nat.le_of_ble_eq_true rfl, Nat.le_of_ble_eq_true rfl⟩) (fun r_1 k_2 => ?_)
  rcases k_2 with ⟨rfl, a_3o⟩ | ⟨rfl, a_3, b_4⟩
  · refine lv_if_eq (tgt := 24) hx hb dX8_tankAt_12 (by decide) (fun c_5 => ?_) (fun c_5 => absurd (by decide) c_5)
    refine lv_null hx hb dX8_tankAt_24 ?_
    exact W.aret (v := .null) hx hb hr (Or.inl ⟨_, rfl⟩) (Or.inl rfl) (fun t ht hW => ⟨none, rfl, Or.inl ⟨rfl, a_3o⟩, ht⟩) (fun _ h9 => by cases h9) dX8_tankAt_25
  refine lv_if_eq (tgt := 24) hx hb dX8_tankAt_12 (by decide) (fun c_6 => absurd c_6 (by decide)) (fun c_6 => ?_)
  refine lv_aload_n hx hb dX8_tankAt_15 rfl (lv_at hl 0 rfl) ?_
  refine va_get (D := D) (ci := 8) (v := .ref la) (C := RX8) (T := TX8) (N := 15) hx hb hts hin8 hown hK hP k0 e0 rfl 1 (by decide) (hts (.fieldLink RX8 17 "HoneyHouse" "tanks" "[LHoneyHouse$Vessel;") (List.mem_of_getElem? (i := 1) rfl)) (fun _ h9 => h9) f0 dX8_tankAt_16 ?_
  refine lv_iload_n hx hb dX8_tankAt_19 rfl (lv_at hl 1 rfl) ?_
  refine va_aldq (f := g) (n := 10) hx hb hK hP k1 t1 e1 u1 (i_in a_3 b_4 (by decide)) dX8_tankAt_20 ?_
  refine lv_goto (tgt := 25) hx hb dX8_tankAt_21 (by decide) ?_
  exact W.aret (v := va_rf (g n.toNatClampNeg)) hx hb hr (Or.inl ⟨_, rfl⟩) (va_rf_or _) (fun t ht hW => ⟨g n.toNatClampNeg, rfl, Or.inr ⟨a_3, b_4, rfl⟩, ht⟩) (fun _ h9 => by cases h9) dX8_tankAt_25
set_option maxHeartbeats 4000000 in
set_option maxRecDepth 100000 in
theorem s_X8_ruleAt (l : Launch) (D : va_G) (ws : va_W) (tys : List (ClassId × FieldType)) (h0 k0 : Nat) (fs : List Value) (la k1 : Nat) (c1 : ClassId) (g : Nat → Option Nat) (t1 : Nat) (n : Int32) (e0 : ws[k0]? = some (h0, .inr (8, fs))) (f0 : fs[3]? = some (.ref la)) (e1 : ws[k1]? = some (la, .inl (c1, 16, .inr (.inr (.inr (.inr g)))))) (u1 : tys[t1]? = some (c1, .object RX3)) : Met l yX8_ruleAt wsX8_ruleAt ({ frames := 1, cells := 0, slots := 0, locals := 22 }) (va_Pc [.ref h0, .int n] (fun U => va_P D vwCl ws U.heap ∧ va_K D vwCl tys U)) (va_Sq (fun r => (r = none ∧ (n < 0 ∨ 15 < n)) ∨ (¬ n < 0 ∧ ¬ 15 < n ∧ r = g n.toNatClampNeg))) 0 0 (fun _ => False) := by
  refine Met.ofW (cc := cX8_ruleAt) (maxL := 2) (ret := (some (.object "HoneyHouse$Rule"))) (by decide) rfl ?_
  intro p e s m args below meth c s₁ B hml hv
  obtain ⟨rfl, hP, hK⟩ := hv
  have hx := B.exec
  have hb := B.bytes
  have hr := B.returns
  have hts := atoms_spec (ws := wsX8_ruleAt) B.pre
  have hown : s.vm.findClass RX8 = some m.cls := findClass_of_methodNamed B.named
  have hlocks := B.notSynchronized
  have hin8 : ∀ w ∈ u_ws RX8 TX8 15, w ∈ wsX8_ruleAt := (fun _ h9 => List.mem_cons_of_mem _ ((List.mem_append_right _ h9)))
  have hl := lv_entry ([.ref h0, .int n]) (n := 2) (Nat.le_of_ble_eq_true rfl)
  rw [lg_entry_eq]
  generalize (lg_sl ([.ref h0, .int n]) ++ List.replicate (2 - (lg_sl ([.ref h0, .int n])).length) Slot.unset).toArray = ls at hl ⊢
  have hl : lv_has ls 2 [(0, .ref h0), (1, .int n)] := hl
  refine lv_iload_n hx hb dX8_ruleAt_0 rfl (lv_at hl 1 rfl) ?_
  refine lv_iconst (v := 0) hx hb dX8_ruleAt_1 (by decide) ?_
  refine lv_aload_n hx hb dX8_ruleAt_2 rfl (lv_at hl 0 rfl) ?_
  refine va_get (D := D) (ci := 8) (v := .ref la) (C := RX8) (T := TX8) (N := 15) hx hb hts hin8 hown hK hP k0 e0 rfl 3 (by decide) (hts (.fieldLink RX8 26 "HoneyHouse" "rules" "[LHoneyHouse$Rule;") (List.mem_of_getElem? (i := 1) rfl)) (fun _ h9 => h9) f0 dX8_ruleAt_3 ?_
  refine va_alen (v := 16) hx hb hK hP k1 t1 e1 u1 rfl dX8_ruleAt_6 ?_
  refine lv_iconst (v := 1) hx hb dX8_ruleAt_7 (by decide) ?_
  refine lv_isub hx hb dX8_ruleAt_8 ?_
  refine tp_i (y := 15) (by decide) ?_
  refine vp_callSi (W.runS (As := [.int n, .int 0, .int 15]) (rest := []) ⟨hx, hb, hml, hown, hts⟩ (s_X8_isIn l n 0 15) (va_cwS 3 hts gX8_ruleAt_X8_isIn rfl rfl rfl (by decide +kernel) ⟨Nat.le_of_ble_eq_true rfl, Nat.le_of_ble_eq_true rfl⟩) ⟨fun a U g mk q => q, fun U hU hW => ⟨rfl, trivial⟩⟩ rfl rfl hl.1 rfl (lv_room (Nat.le_of_ble_eq_true rfl)) dX8_ruleAt_9 ⟨Nat.le_of_ble_eq_true rfl, Nat.le_of_ble_eq_true rfl⟩) (fun r_1 k_2 => ?_)
  rcases k_2 with ⟨rfl, a_3o⟩ | ⟨rfl, a_3, b_4⟩
  · refine lv_if_eq (tgt := 24) hx hb dX8_ruleAt_12 (by decide) (fun c_5 => ?_) (fun c_5 => absurd (by decide) c_5)
    refine lv_null hx hb dX8_ruleAt_24 ?_
    exact W.aret (v := .null) hx hb hr (Or.inl ⟨_, rfl⟩) (Or.inl rfl) (fun t ht hW => ⟨none, rfl, Or.inl ⟨rfl, a_3o⟩, ht⟩) (fun _ h9 => by cases h9) dX8_ruleAt_25
  refine lv_if_eq (tgt := 24) hx hb dX8_ruleAt_12 (by decide) (fun c_6 => absurd c_6 (by decide)) (fun c_6 => ?_)
  refine lv_aload_n hx hb dX8_ruleAt_15 rfl (lv_at hl 0 rfl) ?_
  refine va_get (D := D) (ci := 8) (v := .ref la) (C := RX8) (T := TX8) (N := 15) hx hb hts hin8 hown hK hP k0 e0 rfl 3 (by decide) (hts (.fieldLink RX8 26 "HoneyHouse" "rules" "[LHoneyHouse$Rule;") (List.mem_of_getElem? (i := 1) rfl)) (fun _ h9 => h9) f0 dX8_ruleAt_16 ?_
  refine lv_iload_n hx hb dX8_ruleAt_19 rfl (lv_at hl 1 rfl) ?_
  refine va_aldq (f := g) (n := 16) hx hb hK hP k1 t1 e1 u1 (i_in a_3 b_4 (by decide)) dX8_ruleAt_20 ?_
  refine lv_goto (tgt := 25) hx hb dX8_ruleAt_21 (by decide) ?_
  exact W.aret (v := va_rf (g n.toNatClampNeg)) hx hb hr (Or.inl ⟨_, rfl⟩) (va_rf_or _) (fun t ht hW => ⟨g n.toNatClampNeg, rfl, Or.inr ⟨a_3, b_4, rfl⟩, ht⟩) (fun _ h9 => by cases h9) dX8_ruleAt_25
/-- the class as it is made: no lot, no batch, no rule, ten empty tanks -/
def XF (ws : va_W) (tys : List (ClassId × FieldType)) (h0 : Nat) : Prop := ∃ (k0 la ta ba ra sn rd dr bl vd fb k1 k2 k3 k4 k5 k6 : Nat) (c1 c2 c3 c4 : ClassId) (t1 t2 t3 t4 : Nat) (g : Nat → Option Nat) (bs rs : List Value),
  ws[k0]? = some (h0, .inr (8, [.ref la, .ref ta, .ref ba, .ref ra, .ref sn, .ref rd, .ref dr, .ref bl, .ref vd, .ref fb, .int 0, .int 0, .int 0, .int 0, .int 0])) ∧
  ws[k1]? = some (la, .inl (c1, 40, .inr (.inr (.inr (.inr (fun _ => none)))))) ∧ tys[t1]? = some (c1, .object RX2) ∧
  ws[k2]? = some (ta, .inl (c2, 10, .inr (.inr (.inr (.inr g))))) ∧ tys[t2]? = some (c2, .object RX7) ∧
  ws[k3]? = some (ba, .inl (c3, 60, .inr (.inr (.inr (.inr (fun _ => none)))))) ∧ tys[t3]? = some (c3, .object RX7) ∧
  ws[k4]? = some (ra, .inl (c4, 16, .inr (.inr (.inr (.inr (fun _ => none)))))) ∧ tys[t4]? = some (c4, .object RX3) ∧
  ws[k5]? = some (bl, .inr (0, bs)) ∧ bs[1]? = some (.int 0) ∧
  ws[k6]? = some (rd, .inr (4, rs)) ∧ rs[3]? = some (.int 0) ∧ rs[4]? = some (.int (-1)) ∧
  (∀ j : Nat, j < 10 → ∃ (v kv gr kg : Nat) (ci : ClassId) (ti : Nat), g j = some v ∧ ws[kv]? = some (v, .inr (7, [.ref gr, .int 0, .int 0, .int 0, .int 0])) ∧ ws[kg]? = some (gr, .inl (ci, 40, .inl (fun _ => 0))) ∧ tys[ti]? = some (ci, .int))
/-- the reference as it is made -/
def MF (ws : va_W) (tys : List (ClassId × FieldType)) (h0 : Nat) : Prop := ∃ (k0 ah ar ap kh kr kp : Nat) (fs : List Value) (ch cr cp : ClassId) (th tr tp : Nat),
  ws[k0]? = some (h0, .inr (9, fs)) ∧ fs[2]? = some (.int 0) ∧ fs[3]? = some (.int 0) ∧ fs[13]? = some (.int 0) ∧ fs[14]? = some (.int 0) ∧ fs[21]? = some (.int 0) ∧ fs[22]? = some (.int (-1)) ∧ fs[35]? = some (.int 0) ∧ fs[43]? = some (.int 0) ∧
  fs[10]? = some (.ref ah) ∧ fs[11]? = some (.ref ar) ∧ fs[12]? = some (.ref ap) ∧
  ws[kh]? = some (ah, .inl (ch, 70, .inl (fun _ => 0))) ∧ tys[th]? = some (ch, .int) ∧ ws[kr]? = some (ar, .inl (cr, 70, .inl (fun _ => 0))) ∧ tys[tr]? = some (cr, .int) ∧ ws[kp]? = some (ap, .inl (cp, 70, .inl (fun _ => 0))) ∧ tys[tp]? = some (cp, .int)
theorem i_cl {n M : Int32} {N : Nat} (a : ¬ n < 0) (b : ¬ M < n) (h : M.toInt + 1 = (N : Int)) (hN : N < 2147483648) : n.toNatClampNeg < N := by
  obtain ⟨j, hj, rfl⟩ := vp_in_of (i_in a b h) (by omega)
  rw [nI_clamp (by omega)]; exact hj
theorem i_g1 {g : Int32} (a : ¬ g < 1) : ¬ g ≤ 0 := by
  rw [i_lt] at a
  rw [i_le]
  have h0 : (0 : Int32).toInt = 0 := by decide
  have h1 : (1 : Int32).toInt = 1 := by decide
  rw [h0]; rw [h1] at a
  omega
