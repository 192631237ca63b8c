theorem dX7_addGrams_0 : decode cX7_addGrams 0 = .ok (.iload_n 1, 1) := by decide +kernel
theorem dX7_addGrams_1 : decode cX7_addGrams 1 = .ok (.ifCond .lt 32, 3) := by decide +kernel
theorem dX7_addGrams_4 : decode cX7_addGrams 4 = .ok (.iload_n 1, 1) := by decide +kernel
theorem dX7_addGrams_5 : decode cX7_addGrams 5 = .ok (.aload_n 0, 1) := by decide +kernel
theorem dX7_addGrams_6 : decode cX7_addGrams 6 = .ok (.getfield 9, 3) := by decide +kernel
theorem dX7_addGrams_9 : decode cX7_addGrams 9 = .ok (.arraylength, 1) := by decide +kernel
theorem dX7_addGrams_10 : decode cX7_addGrams 10 = .ok (.if_icmp .ge 23, 3) := by decide +kernel
theorem dX7_addGrams_13 : decode cX7_addGrams 13 = .ok (.aload_n 0, 1) := by decide +kernel
theorem dX7_addGrams_14 : decode cX7_addGrams 14 = .ok (.getfield 9, 3) := by decide +kernel
theorem dX7_addGrams_17 : decode cX7_addGrams 17 = .ok (.iload_n 1, 1) := by decide +kernel
theorem dX7_addGrams_18 : decode cX7_addGrams 18 = .ok (.dup2, 1) := by decide +kernel
theorem dX7_addGrams_19 : decode cX7_addGrams 19 = .ok (.iaload, 1) := by decide +kernel
theorem dX7_addGrams_20 : decode cX7_addGrams 20 = .ok (.iload_n 2, 1) := by decide +kernel
theorem dX7_addGrams_21 : decode cX7_addGrams 21 = .ok (.iadd, 1) := by decide +kernel
theorem dX7_addGrams_22 : decode cX7_addGrams 22 = .ok (.iastore, 1) := by decide +kernel
theorem dX7_addGrams_23 : decode cX7_addGrams 23 = .ok (.aload_n 0, 1) := by decide +kernel
theorem dX7_addGrams_24 : decode cX7_addGrams 24 = .ok (.dup, 1) := by decide +kernel
theorem dX7_addGrams_25 : decode cX7_addGrams 25 = .ok (.getfield 22, 3) := by decide +kernel
theorem dX7_addGrams_28 : decode cX7_addGrams 28 = .ok (.iload_n 2, 1) := by decide +kernel
theorem dX7_addGrams_29 : decode cX7_addGrams 29 = .ok (.iadd, 1) := by decide +kernel
theorem dX7_addGrams_30 : decode cX7_addGrams 30 = .ok (.putfield 22, 3) := by decide +kernel
theorem dX7_addGrams_33 : decode cX7_addGrams 33 = .ok (.return_, 1) := by decide +kernel
theorem i_in40 {n : Int32} (a : ¬ n < 0) (b : ¬ 40 ≤ n) : vp_in n 40 := by
  rw [i_lt] at a
  rw [i_le] at b
  have h0 : (0 : Int32).toInt = 0 := by decide
  have h1 : (40 : Int32).toInt = 40 := by decide
  rw [h0] at a; rw [h1] at b
  exact vp_in_iff.mpr ⟨by omega, by omega⟩
theorem wset_self {ws : va_W} {k : Nat} {q z : Nat × va_E} (h : ws[k]? = some q) : (ws.set k z)[k]? = some z := List.getElem?_set_self (List.getElem?_eq_some_iff.mp h).1
/-- a loop over a world that changes: at its head with i rounds behind, in a state x -/
theorem lp_A {p : Program} {l : Launch} {e : Env} {R : Room} {s : State} {m : MethodId} {args : Array Value} {below : List Frame} {meth : Method} {c : Code} {cells slots : Nat} {Q : State → Prop} {pc : Nat} {D : va_G} {cl : List vw_C} {A : Nat → Prop} {H0 : Heap} {σ : Type} (nL N : Nat) (lv : Nat → σ → List (Nat × Value)) (J : Nat → σ → va_W → Prop)
    (hs : ∀ i : Nat, i ≤ N → (i < N → ∀ (x : σ) (ws : va_W) (H : Heap) (locs : List Loc) (ls : Array Slot), J (i + 1) x ws → va_P D cl ws H → va_D A ws → va_S A H0 H locs → lv_has ls nL (lv (i + 1) x) → W p l e R s m args below meth c H locs cells slots Q (F0 m pc ls [])) → ∀ (x : σ) (ws : va_W) (H : Heap) (locs : List Loc) (ls : Array Slot), J i x ws → va_P D cl ws H → va_D A ws → va_S A H0 H locs → lv_has ls nL (lv i x) → W p l e R s m args below meth c H locs cells slots Q (F0 m pc ls [])) :
    ∀ i : Nat, i ≤ N → ∀ (x : σ) (ws : va_W) (H : Heap) (locs : List Loc) (ls : Array Slot), J i x ws → va_P D cl ws H → va_D A ws → va_S A H0 H locs → lv_has ls nL (lv i x) → W p l e R s m args below meth c H locs cells slots Q (F0 m pc ls []) := by
  have key : ∀ (n i : Nat), i ≤ N → N + 1 ≤ i + n → ∀ (x : σ) (ws : va_W) (H : Heap) (locs : List Loc) (ls : Array Slot), J i x ws → va_P D cl ws H → va_D A ws → va_S A H0 H locs → lv_has ls nL (lv i x) → W p l e R s m args below meth c H locs cells slots Q (F0 m pc ls []) := by
    intro n
    induction n with
    | zero => intro i h1 h2; exact absurd h2 (by omega)
    | succ n ih => intro i h1 h2; exact hs i h1 (fun h x ws H locs ls => ih (i + 1) (by omega) (by omega) x ws H locs ls)
  intro i hi
  exact key (N + 1) i hi (by omega)
theorem smX0 {q0 : Nat} {q2 : Nat} {q3 : Nat} {q4 : Nat} {q5 : Nat} {q6 : Nat} {q7 : Nat} {x1 : Int32} {x8 : Int32} {x9 : Int32} {x10 : Int32} {x11 : Int32} {x12 : Int32} {x13 : Int32} {fs : List Value} (h : smF [.ref q0, .int x1, .ref q2, .ref q3, .ref q4, .ref q5, .ref q6, .ref q7, .int x8, .int x9, .int x10, .int x11, .int x12, .int x13] fs) : ∃ (z1 : Int32) (z8 : Int32) (z9 : Int32) (z10 : Int32) (z11 : Int32) (z12 : Int32) (z13 : Int32), fs = [.ref q0, .int z1, .ref q2, .ref q3, .ref q4, .ref q5, .ref q6, .ref q7, .int z8, .int z9, .int z10, .int z11, .int z12, .int z13] := by
  obtain ⟨fs0, rfl, h0⟩ := h.ref
  obtain ⟨z1, fs1, rfl, h1⟩ := h0.int
  obtain ⟨fs2, rfl, h2⟩ := h1.ref
  obtain ⟨fs3, rfl, h3⟩ := h2.ref
  obtain ⟨fs4, rfl, h4⟩ := h3.ref
  obtain ⟨fs5, rfl, h5⟩ := h4.ref
  obtain ⟨fs6, rfl, h6⟩ := h5.ref
  obtain ⟨fs7, rfl, h7⟩ := h6.ref
  obtain ⟨z8, fs8, rfl, h8⟩ := h7.int
  obtain ⟨z9, fs9, rfl, h9⟩ := h8.int
  obtain ⟨z10, fs10, rfl, h10⟩ := h9.int
  obtain ⟨z11, fs11, rfl, h11⟩ := h10.int
  obtain ⟨z12, fs12, rfl, h12⟩ := h11.int
  obtain ⟨z13, fs13, rfl, h13⟩ := h12.int
  have hh : fs13 = [] := h13
  subst hh
  exact ⟨z1, z8, z9, z10, z11, z12, z13, rfl⟩
theorem smX1 {q0 : Nat} {q1 : Nat}  {fs : List Value} (h : smF [.ref q0, .ref q1] fs) : fs = [.ref q0, .ref q1] := by
  obtain ⟨fs0, rfl, h0⟩ := h.ref
  obtain ⟨fs1, rfl, h1⟩ := h0.ref
  have hh : fs1 = [] := h1
  subst hh
  exact rfl
theorem smX2 {q4 : Nat} {q5 : Nat} {q6 : Nat} {x0 : Int32} {x1 : Int32} {x2 : Int32} {x3 : Int32} {x7 : Int32} {x8 : Int32} {x9 : Int32} {fs : List Value} (h : smF [.int x0, .int x1, .int x2, .int x3, .ref q4, .ref q5, .ref q6, .int x7, .int x8, .int x9] fs) : ∃ (z0 : Int32) (z1 : Int32) (z2 : Int32) (z3 : Int32) (z7 : Int32) (z8 : Int32) (z9 : Int32), fs = [.int z0, .int z1, .int z2, .int z3, .ref q4, .ref q5, .ref q6, .int z7, .int z8, .int z9] := by
  obtain ⟨z0, fs0, rfl, h0⟩ := h.int
  obtain ⟨z1, fs1, rfl, h1⟩ := h0.int
  obtain ⟨z2, fs2, rfl, h2⟩ := h1.int
  obtain ⟨z3, fs3, rfl, h3⟩ := h2.int
  obtain ⟨fs4, rfl, h4⟩ := h3.ref
  obtain ⟨fs5, rfl, h5⟩ := h4.ref
  obtain ⟨fs6, rfl, h6⟩ := h5.ref
  obtain ⟨z7, fs7, rfl, h7⟩ := h6.int
  obtain ⟨z8, fs8, rfl, h8⟩ := h7.int
  obtain ⟨z9, fs9, rfl, h9⟩ := h8.int
  have hh : fs9 = [] := h9
  subst hh
  exact ⟨z0, z1, z2, z3, z7, z8, z9, rfl⟩
theorem smX3 {q2 : Nat} {x0 : Int64} {x1 : Int32} {x3 : Int32} {x4 : Int32} {fs : List Value} (h : smF [.long x0, .int x1, .ref q2, .int x3, .int x4] fs) : ∃ (z0 : Int64) (z1 : Int32) (z3 : Int32) (z4 : Int32), fs = [.long z0, .int z1, .ref q2, .int z3, .int z4] := by
  obtain ⟨z0, fs0, rfl, h0⟩ := h.long
  obtain ⟨z1, fs1, rfl, h1⟩ := h0.int
  obtain ⟨fs2, rfl, h2⟩ := h1.ref
  obtain ⟨z3, fs3, rfl, h3⟩ := h2.int
  obtain ⟨z4, fs4, rfl, h4⟩ := h3.int
  have hh : fs4 = [] := h4
  subst hh
  exact ⟨z0, z1, z3, z4, rfl⟩
theorem smX4 {q0 : Nat} {q5 : Nat} {x1 : Int64} {x2 : Int32} {x3 : Int32} {x4 : Int32} {x6 : Int32} {x7 : Int32} {fs : List Value} (h : smF [.ref q0, .long x1, .int x2, .int x3, .int x4, .ref q5, .int x6, .int x7] fs) : ∃ (z1 : Int64) (z2 : Int32) (z3 : Int32) (z4 : Int32) (z6 : Int32) (z7 : Int32), fs = [.ref q0, .long z1, .int z2, .int z3, .int z4, .ref q5, .int z6, .int z7] := by
  obtain ⟨fs0, rfl, h0⟩ := h.ref
  obtain ⟨z1, fs1, rfl, h1⟩ := h0.long
  obtain ⟨z2, fs2, rfl, h2⟩ := h1.int
  obtain ⟨z3, fs3, rfl, h3⟩ := h2.int
  obtain ⟨z4, fs4, rfl, h4⟩ := h3.int
  obtain ⟨fs5, rfl, h5⟩ := h4.ref
  obtain ⟨z6, fs6, rfl, h6⟩ := h5.int
  obtain ⟨z7, fs7, rfl, h7⟩ := h6.int
  have hh : fs7 = [] := h7
  subst hh
  exact ⟨z1, z2, z3, z4, z6, z7, rfl⟩
theorem smX5 {q0 : Nat} {q1 : Nat}  {fs : List Value} (h : smF [.ref q0, .ref q1] fs) : fs = [.ref q0, .ref q1] := by
  obtain ⟨fs0, rfl, h0⟩ := h.ref
  obtain ⟨fs1, rfl, h1⟩ := h0.ref
  have hh : fs1 = [] := h1
  subst hh
  exact rfl
theorem smX6 {q4 : Nat} {x0 : Int32} {x1 : Int32} {x2 : Int32} {x3 : Int32} {fs : List Value} (h : smF [.int x0, .int x1, .int x2, .int x3, .ref q4] fs) : ∃ (z0 : Int32) (z1 : Int32) (z2 : Int32) (z3 : Int32), fs = [.int z0, .int z1, .int z2, .int z3, .ref q4] := by
  obtain ⟨z0, fs0, rfl, h0⟩ := h.int
  obtain ⟨z1, fs1, rfl, h1⟩ := h0.int
  obtain ⟨z2, fs2, rfl, h2⟩ := h1.int
  obtain ⟨z3, fs3, rfl, h3⟩ := h2.int
  obtain ⟨fs4, rfl, h4⟩ := h3.ref
  have hh : fs4 = [] := h4
  subst hh
  exact ⟨z0, z1, z2, z3, rfl⟩
theorem smX7 {q0 : Nat} {x1 : Int32} {x2 : Int32} {x3 : Int32} {x4 : Int32} {fs : List Value} (h : smF [.ref q0, .int x1, .int x2, .int x3, .int x4] fs) : ∃ (z1 : Int32) (z2 : Int32) (z3 : Int32) (z4 : Int32), fs = [.ref q0, .int z1, .int z2, .int z3, .int z4] := by
  obtain ⟨fs0, rfl, h0⟩ := h.ref
  obtain ⟨z1, fs1, rfl, h1⟩ := h0.int
  obtain ⟨z2, fs2, rfl, h2⟩ := h1.int
  obtain ⟨z3, fs3, rfl, h3⟩ := h2.int
  obtain ⟨z4, fs4, rfl, h4⟩ := h3.int
  have hh : fs4 = [] := h4
  subst hh
  exact ⟨z1, z2, z3, z4, rfl⟩
theorem smX8 {q0 : Nat} {q1 : Nat} {q2 : Nat} {q3 : Nat} {q4 : Nat} {q5 : Nat} {q6 : Nat} {q7 : Nat} {q8 : Nat} {q9 : Nat} {x10 : Int32} {x11 : Int32} {x12 : Int32} {x13 : Int32} {x14 : Int32} {fs : List Value} (h : smF [.ref q0, .ref q1, .ref q2, .ref q3, .ref q4, .ref q5, .ref q6, .ref q7, .ref q8, .ref q9, .int x10, .int x11, .int x12, .int x13, .int x14] fs) : ∃ (z10 : Int32) (z11 : Int32) (z12 : Int32) (z13 : Int32) (z14 : Int32), fs = [.ref q0, .ref q1, .ref q2, .ref q3, .ref q4, .ref q5, .ref q6, .ref q7, .ref q8, .ref q9, .int z10, .int z11, .int z12, .int z13, .int z14] := by
  obtain ⟨fs0, rfl, h0⟩ := h.ref
  obtain ⟨fs1, rfl, h1⟩ := h0.ref
  obtain ⟨fs2, rfl, h2⟩ := h1.ref
  obtain ⟨fs3, rfl, h3⟩ := h2.ref
  obtain ⟨fs4, rfl, h4⟩ := h3.ref
  obtain ⟨fs5, rfl, h5⟩ := h4.ref
  obtain ⟨fs6, rfl, h6⟩ := h5.ref
  obtain ⟨fs7, rfl, h7⟩ := h6.ref
  obtain ⟨fs8, rfl, h8⟩ := h7.ref
  obtain ⟨fs9, rfl, h9⟩ := h8.ref
  obtain ⟨z10, fs10, rfl, h10⟩ := h9.int
  obtain ⟨z11, fs11, rfl, h11⟩ := h10.int
  obtain ⟨z12, fs12, rfl, h12⟩ := h11.int
  obtain ⟨z13, fs13, rfl, h13⟩ := h12.int
  obtain ⟨z14, fs14, rfl, h14⟩ := h13.int
  have hh : fs14 = [] := h14
  subst hh
  exact ⟨z10, z11, z12, z13, z14, rfl⟩
set_option maxHeartbeats 4000000 in
set_option maxRecDepth 100000 in
theorem a_addGrams (l : Launch) (D : va_G) (ρ : Nat → Nat) (ws : va_W) (tys : List (ClassId × FieldType)) (v kv : Nat) (vt vh vr vp : Int32) (g kg : Nat) (cg : ClassId) (tg : Nat) (f : Nat → Int32) (a1 a2 : Int32) (sz : Nat) (h1 : ¬ a1 < 0) (h2 : ¬ 40 ≤ a1) (ev : ws[kv]? = some (v, .inr (7, [.ref g, .int vt, .int vh, .int vr, .int vp]))) (eg : ws[kg]? = some (g, .inl (cg, 40, .inl f))) (ug : tys[tg]? = some (cg, .int)) (w_kg : ρ kg = 0) (w_kv : ρ kv = 0) : Met l yX7_addGrams wsX7_addGrams ({ frames := 0, cells := 0, slots := 0, locals := 0 }) (va_Pc [.ref v, .int a1, .int a2] (fun U => U.heap.size = sz ∧ va_P D vwCl ws U.heap ∧ va_K D vwCl tys U ∧ va_D (fun _ => True) ws)) (va_Qv (fun _ : Unit => True) (fun (_ : Unit) (t : State) => ∃ (ws' : va_W) (tys' : List (ClassId × FieldType)), sm ρ [7] ws ws' ∧ tyx tys tys' ∧ va_P D vwCl ws' t.heap ∧ va_K D vwCl tys' t ∧ va_D (va_A ws sz) ws' ∧ (ws'[kv]? = some (v, .inr (7, [.ref g, .int (vt + a2), .int vh, .int vr, .int vp])) ∧ ∃ f9 : Nat → Int32, ws'[kg]? = some (g, .inl (cg, 40, .inl f9)) ∧ f9 = upd f a1.toNatClampNeg (f a1.toNatClampNeg + a2))) (va_A ws sz)) 0 0 (va_A ws sz) := by
  refine Met.ofW (cc := cX7_addGrams) (maxL := 3) (ret := none) (by decide) rfl ?_
  intro p e s m args below meth c s₁ B hml hv
  obtain ⟨rfl, hsz, hP, hK, hD0⟩ := hv
  have hx := B.exec
  have hb := B.bytes
  have hr := B.returns
  have hts := atoms_spec (ws := wsX7_addGrams) B.pre
  have hown : s.vm.findClass RX7 = some m.cls := findClass_of_methodNamed B.named
  have hlocks := B.notSynchronized
  subst hsz
  have hD := hD0.self (sz := s.heap.size)
  generalize hAe : va_A ws s.heap.size = A at hD ⊢
  have hA : ∀ q : Nat, s.heap.size ≤ q → A q := fun q h => by rw [← hAe]; exact Or.inr h
  have hS : va_S A s.heap s.heap [] := va_S.rf
  have hsm : sm ρ [7] ws ws := sm.rf ws
  have htx : tyx tys tys := tyx.rf tys
  have hin7 : ∀ w ∈ u_ws RX7 TX7 5, w ∈ wsX7_addGrams := (fun _ h9 => List.mem_cons_of_mem _ ((List.mem_append_right _ h9)))
  have hl := lv_entry ([.ref v, .int a1, .int a2]) (n := 3) (Nat.le_of_ble_eq_true rfl)
  rw [lg_entry_eq]
  generalize (lg_sl ([.ref v, .int a1, .int a2]) ++ List.replicate (3 - (lg_sl ([.ref v, .int a1, .int a2])).length) Slot.unset).toArray = ls at hl ⊢
  have hl : lv_has ls 3 [(0, .ref v), (1, .int a1), (2, .int a2)] := hl
  refine lv_iload_n hx hb dX7_addGrams_0 rfl (lv_at hl 1 rfl) ?_
  refine lv_if_lt (tgt := 33) hx hb dX7_addGrams_1 (by decide) (fun c_1 => absurd c_1 (h1)) (fun c_1 => ?_)
  refine lv_iload_n hx hb dX7_addGrams_4 rfl (lv_at hl 1 rfl) ?_
  refine lv_aload_n hx hb dX7_addGrams_5 rfl (lv_at hl 0 rfl) ?_
  refine va_get (D := D) (ci := 7) (v := .ref g) (C := RX7) (T := TX7) (N := 5) hx hb hts hin7 hown hK hP kv ev rfl 0 (by decide) (hts (.fieldLink RX7 9 "HoneyHouse$Vessel" "grams" "[I") (List.mem_of_getElem? (i := 1) rfl)) (fun _ h9 => h9) rfl dX7_addGrams_6 ?_
  refine va_alen (v := 40) hx hb hK hP kg tg eg ug rfl dX7_addGrams_9 ?_
  refine lv_icmp_ge (tgt := 33) hx hb dX7_addGrams_10 (by decide) (fun c_2 => absurd c_2 (h2)) (fun c_2 => ?_)
  refine lv_aload_n hx hb dX7_addGrams_13 rfl (lv_at hl 0 rfl) ?_
  refine va_get (D := D) (ci := 7) (v := .ref g) (C := RX7) (T := TX7) (N := 5) hx hb hts hin7 hown hK hP kv ev rfl 0 (by decide) (hts (.fieldLink RX7 9 "HoneyHouse$Vessel" "grams" "[I") (List.mem_of_getElem? (i := 1) rfl)) (fun _ h9 => h9) rfl dX7_addGrams_14 ?_
  refine lv_iload_n hx hb dX7_addGrams_17 rfl (lv_at hl 1 rfl) ?_
  refine lv_dup2_11 hx hb dX7_addGrams_18 rfl rfl ?_
  refine va_iald (f := f) (n := 40) hx hb hK hP kg tg eg ug (i_in40 h1 h2) dX7_addGrams_19 ?_
  refine lv_iload_n hx hb dX7_addGrams_20 rfl (lv_at hl 2 rfl) ?_
  refine lv_iadd hx hb dX7_addGrams_21 ?_
  refine va_iast (f := f) (n := 40) hx hb hK hP hD hS kg tg eg ug (i_in40 h1 h2) dX7_addGrams_22 (fun H locs hP hD hS => ?_)
  have hm_4 : sm ρ [] ws (ws.set kg (g, .inl (cg, 40, .inl (upd f a1.toNatClampNeg ((f a1.toNatClampNeg) + a2))))) := sm.ints eg w_kg
  have e_5 : (ws.set kg (g, .inl (cg, 40, .inl (upd f a1.toNatClampNeg ((f a1.toNatClampNeg) + a2)))))[kg]? = some (g, .inl (cg, 40, .inl (upd f a1.toNatClampNeg ((f a1.toNatClampNeg) + a2)))) := wset_self eg
  have e_6 := set_n (z := (g, .inl (cg, 40, .inl (upd f a1.toNatClampNeg ((f a1.toNatClampNeg) + a2))))) ev (pl_ne ev eg (by intro h9; simp at h9))
  generalize ws.set kg (g, .inl (cg, 40, .inl (upd f a1.toNatClampNeg ((f a1.toNatClampNeg) + a2)))) = ws_3 at hP hD hm_4 e_5 e_6
  have hsm := hsm.tr (hm_4.mono (fun _ h9 => absurd h9 List.not_mem_nil))
  obtain ⟨f_7, hf_8⟩ : ∃ g9, g9 = upd f a1.toNatClampNeg ((f a1.toNatClampNeg) + a2) := ⟨_, rfl⟩
  rw [← hf_8] at e_5
  refine lv_aload_n hx hb dX7_addGrams_23 rfl (lv_at hl 0 rfl) ?_
  refine lv_dup hx hb dX7_addGrams_24 rfl ?_
  refine va_get (D := D) (ci := 7) (v := .int vt) (C := RX7) (T := TX7) (N := 5) hx hb hts hin7 hown hK hP kv e_6 rfl 1 (by decide) (hts (.fieldLink RX7 22 "HoneyHouse$Vessel" "total" "I") (List.mem_of_getElem? (i := 2) rfl)) (fun _ h9 => h9) rfl dX7_addGrams_25 ?_
  refine lv_iload_n hx hb dX7_addGrams_28 rfl (lv_at hl 2 rfl) ?_
  refine lv_iadd hx hb dX7_addGrams_29 ?_
  refine va_put (D := D) (ci := 7) (v := .int (vt + a2)) (ty := .int) (C := RX7) (T := TX7) (N := 5) hx hb hts hin7 tyX7 tyX7_ok nmX7 hown hK hP hD hS kv e_6 rfl 1 (by decide) (hts (.fieldLink RX7 22 "HoneyHouse$Vessel" "total" "I") (List.mem_of_getElem? (i := 2) rfl)) (fun _ h9 => h9) rfl (tyX7_ok 1 (by decide)) rfl rfl (Nat.le_of_ble_eq_true rfl) dX7_addGrams_30 (fun H locs hP hD hS => ?_)
  have hP : va_P D vwCl (ws_3.set kv (v, .inr (7, [.ref g, .int (vt + a2), .int vh, .int vr, .int vp]))) H := hP
  have hD : va_D A (ws_3.set kv (v, .inr (7, [.ref g, .int (vt + a2), .int vh, .int vr, .int vp]))) := hD
  have hm_10 : sm ρ [7] ws_3 (ws_3.set kv (v, .inr (7, [.ref g, .int (vt + a2), .int vh, .int vr, .int vp]))) := sm.flds e_6 (smF.c (smV.rf _) (smF.c (smV.i _ _) (smF.c (smV.rf _) (smF.c (smV.rf _) (smF.c (smV.rf _) (rfl)))))) (List.mem_singleton.mpr rfl) w_kv
  have e_11 : (ws_3.set kv (v, .inr (7, [.ref g, .int (vt + a2), .int vh, .int vr, .int vp])))[kv]? = some (v, .inr (7, [.ref g, .int (vt + a2), .int vh, .int vr, .int vp])) := wset_self e_6
  have e_12 := set_n (z := (v, .inr (7, [.ref g, .int (vt + a2), .int vh, .int vr, .int vp]))) e_5 (pl_ne e_5 e_6 (by intro h9; simp at h9))
  generalize ws_3.set kv (v, .inr (7, [.ref g, .int (vt + a2), .int vh, .int vr, .int vp])) = ws_9 at hP hD hm_10 e_11 e_12
  have hsm := hsm.tr (hm_10.mono (by decide))
  exact W.vret hx hb hr (fun t ht hW => ⟨⟨(), rfl, trivial, ws_9, tys, hsm, htx, by rw [ht]; exact hP, va_K.moved hW.alike hK, hD, ⟨e_11, f_7, e_12, hf_8⟩⟩, hS.F ht⟩) hS.2.2 dX7_addGrams_33
