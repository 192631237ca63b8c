theorem dX5_init_0 : decode cX5_init 0 = .ok (.aload_n 0, 1) := by decide +kernel
theorem dX5_init_1 : decode cX5_init 1 = .ok (.invokespecial 3, 3) := by decide +kernel
theorem dX5_init_4 : decode cX5_init 4 = .ok (.aload_n 0, 1) := by decide +kernel
theorem dX5_init_5 : decode cX5_init 5 = .ok (.iconst 4, 1) := by decide +kernel
theorem dX5_init_6 : decode cX5_init 6 = .ok (.newarray .int, 2) := by decide +kernel
theorem dX5_init_8 : decode cX5_init 8 = .ok (.putfield 9, 3) := by decide +kernel
theorem dX5_init_11 : decode cX5_init 11 = .ok (.aload_n 0, 1) := by decide +kernel
theorem dX5_init_12 : decode cX5_init 12 = .ok (.iconst 4, 1) := by decide +kernel
theorem dX5_init_13 : decode cX5_init 13 = .ok (.newarray .int, 2) := by decide +kernel
theorem dX5_init_15 : decode cX5_init 15 = .ok (.putfield 15, 3) := by decide +kernel
theorem dX5_init_18 : decode cX5_init 18 = .ok (.return_, 1) := by decide +kernel
theorem dX7_init_0 : decode cX7_init 0 = .ok (.aload_n 0, 1) := by decide +kernel
theorem dX7_init_1 : decode cX7_init 1 = .ok (.invokespecial 3, 3) := by decide +kernel
theorem dX7_init_4 : decode cX7_init 4 = .ok (.aload_n 0, 1) := by decide +kernel
theorem dX7_init_5 : decode cX7_init 5 = .ok (.bipush 40, 2) := by decide +kernel
theorem dX7_init_7 : decode cX7_init 7 = .ok (.newarray .int, 2) := by decide +kernel
theorem dX7_init_9 : decode cX7_init 9 = .ok (.putfield 9, 3) := by decide +kernel
theorem dX7_init_12 : decode cX7_init 12 = .ok (.aload_n 0, 1) := by decide +kernel
theorem dX7_init_13 : decode cX7_init 13 = .ok (.iload_n 1, 1) := by decide +kernel
theorem dX7_init_14 : decode cX7_init 14 = .ok (.putfield 15, 3) := by decide +kernel
theorem dX7_init_17 : decode cX7_init 17 = .ok (.aload_n 0, 1) := by decide +kernel
theorem dX7_init_18 : decode cX7_init 18 = .ok (.iload_n 2, 1) := by decide +kernel
theorem dX7_init_19 : decode cX7_init 19 = .ok (.putfield 19, 3) := by decide +kernel
theorem dX7_init_22 : decode cX7_init 22 = .ok (.return_, 1) := by decide +kernel
theorem dX3_init_0 : decode cX3_init 0 = .ok (.aload_n 0, 1) := by decide +kernel
theorem dX3_init_1 : decode cX3_init 1 = .ok (.invokespecial 1, 3) := by decide +kernel
theorem dX3_init_4 : decode cX3_init 4 = .ok (.aload_n 0, 1) := by decide +kernel
theorem dX3_init_5 : decode cX3_init 5 = .ok (.lload_n 1, 1) := by decide +kernel
theorem dX3_init_6 : decode cX3_init 6 = .ok (.putfield 7, 3) := by decide +kernel
theorem dX3_init_9 : decode cX3_init 9 = .ok (.aload_n 0, 1) := by decide +kernel
theorem dX3_init_10 : decode cX3_init 10 = .ok (.iload_n 3, 1) := by decide +kernel
theorem dX3_init_11 : decode cX3_init 11 = .ok (.putfield 13, 3) := by decide +kernel
theorem dX3_init_14 : decode cX3_init 14 = .ok (.aload_n 0, 1) := by decide +kernel
theorem dX3_init_15 : decode cX3_init 15 = .ok (.aload 4, 2) := by decide +kernel
theorem dX3_init_17 : decode cX3_init 17 = .ok (.putfield 17, 3) := by decide +kernel
theorem dX3_init_20 : decode cX3_init 20 = .ok (.return_, 1) := by decide +kernel
theorem dX5_copyFrom_0 : decode cX5_copyFrom 0 = .ok (.aload_n 1, 1) := by decide +kernel
theorem dX5_copyFrom_1 : decode cX5_copyFrom 1 = .ok (.getfield 9, 3) := by decide +kernel
theorem dX5_copyFrom_4 : decode cX5_copyFrom 4 = .ok (.iconst 0, 1) := by decide +kernel
theorem dX5_copyFrom_5 : decode cX5_copyFrom 5 = .ok (.aload_n 0, 1) := by decide +kernel
theorem dX5_copyFrom_6 : decode cX5_copyFrom 6 = .ok (.getfield 9, 3) := by decide +kernel
theorem dX5_copyFrom_9 : decode cX5_copyFrom 9 = .ok (.iconst 0, 1) := by decide +kernel
theorem dX5_copyFrom_10 : decode cX5_copyFrom 10 = .ok (.iconst 4, 1) := by decide +kernel
theorem dX5_copyFrom_11 : decode cX5_copyFrom 11 = .ok (.invokestatic 18, 3) := by decide +kernel
theorem dX5_copyFrom_14 : decode cX5_copyFrom 14 = .ok (.aload_n 1, 1) := by decide +kernel
theorem dX5_copyFrom_15 : decode cX5_copyFrom 15 = .ok (.getfield 15, 3) := by decide +kernel
theorem dX5_copyFrom_18 : decode cX5_copyFrom 18 = .ok (.iconst 0, 1) := by decide +kernel
theorem dX5_copyFrom_19 : decode cX5_copyFrom 19 = .ok (.aload_n 0, 1) := by decide +kernel
theorem dX5_copyFrom_20 : decode cX5_copyFrom 20 = .ok (.getfield 15, 3) := by decide +kernel
theorem dX5_copyFrom_23 : decode cX5_copyFrom 23 = .ok (.iconst 0, 1) := by decide +kernel
theorem dX5_copyFrom_24 : decode cX5_copyFrom 24 = .ok (.iconst 4, 1) := by decide +kernel
theorem dX5_copyFrom_25 : decode cX5_copyFrom 25 = .ok (.invokestatic 18, 3) := by decide +kernel
theorem dX5_copyFrom_28 : decode cX5_copyFrom 28 = .ok (.return_, 1) := by decide +kernel
theorem dX2_init_0 : decode cX2_init 0 = .ok (.aload_n 0, 1) := by decide +kernel
theorem dX2_init_1 : decode cX2_init 1 = .ok (.invokespecial 3, 3) := by decide +kernel
theorem dX2_init_4 : decode cX2_init 4 = .ok (.aload_n 0, 1) := by decide +kernel
theorem dX2_init_5 : decode cX2_init 5 = .ok (.iconst 5, 1) := by decide +kernel
theorem dX2_init_6 : decode cX2_init 6 = .ok (.newarray .int, 2) := by decide +kernel
theorem dX2_init_8 : decode cX2_init 8 = .ok (.putfield 9, 3) := by decide +kernel
theorem dX2_init_11 : decode cX2_init 11 = .ok (.aload_n 0, 1) := by decide +kernel
theorem dX2_init_12 : decode cX2_init 12 = .ok (.iconst 5, 1) := by decide +kernel
theorem dX2_init_13 : decode cX2_init 13 = .ok (.newarray .int, 2) := by decide +kernel
theorem dX2_init_15 : decode cX2_init 15 = .ok (.putfield 15, 3) := by decide +kernel
theorem dX2_init_18 : decode cX2_init 18 = .ok (.aload_n 0, 1) := by decide +kernel
theorem dX2_init_19 : decode cX2_init 19 = .ok (.new 18, 3) := by decide +kernel
theorem dX2_init_22 : decode cX2_init 22 = .ok (.dup, 1) := by decide +kernel
theorem dX2_init_23 : decode cX2_init 23 = .ok (.invokespecial 20, 3) := by decide +kernel
theorem dX2_init_26 : decode cX2_init 26 = .ok (.putfield 21, 3) := by decide +kernel
theorem dX2_init_29 : decode cX2_init 29 = .ok (.aload_n 0, 1) := by decide +kernel
theorem dX2_init_30 : decode cX2_init 30 = .ok (.iload_n 1, 1) := by decide +kernel
theorem dX2_init_31 : decode cX2_init 31 = .ok (.putfield 25, 3) := by decide +kernel
theorem dX2_init_34 : decode cX2_init 34 = .ok (.aload_n 0, 1) := by decide +kernel
theorem dX2_init_35 : decode cX2_init 35 = .ok (.iload_n 2, 1) := by decide +kernel
theorem dX2_init_36 : decode cX2_init 36 = .ok (.putfield 29, 3) := by decide +kernel
theorem dX2_init_39 : decode cX2_init 39 = .ok (.aload_n 0, 1) := by decide +kernel
theorem dX2_init_40 : decode cX2_init 40 = .ok (.iload_n 3, 1) := by decide +kernel
theorem dX2_init_41 : decode cX2_init 41 = .ok (.putfield 32, 3) := by decide +kernel
theorem dX2_init_44 : decode cX2_init 44 = .ok (.aload_n 0, 1) := by decide +kernel
theorem dX2_init_45 : decode cX2_init 45 = .ok (.iload 4, 2) := by decide +kernel
theorem dX2_init_47 : decode cX2_init 47 = .ok (.putfield 35, 3) := by decide +kernel
theorem dX2_init_50 : decode cX2_init 50 = .ok (.aload_n 0, 1) := by decide +kernel
theorem dX2_init_51 : decode cX2_init 51 = .ok (.iload 5, 2) := by decide +kernel
theorem dX2_init_53 : decode cX2_init 53 = .ok (.putfield 38, 3) := by decide +kernel
theorem dX2_init_56 : decode cX2_init 56 = .ok (.aload_n 0, 1) := by decide +kernel
theorem dX2_init_57 : decode cX2_init 57 = .ok (.getfield 15, 3) := by decide +kernel
theorem dX2_init_60 : decode cX2_init 60 = .ok (.sipush 1000, 3) := by decide +kernel
theorem dX2_init_63 : decode cX2_init 63 = .ok (.invokestatic 41, 3) := by decide +kernel
theorem dX2_init_66 : decode cX2_init 66 = .ok (.aload_n 0, 1) := by decide +kernel
theorem dX2_init_67 : decode cX2_init 67 = .ok (.getfield 21, 3) := by decide +kernel
theorem dX2_init_70 : decode cX2_init 70 = .ok (.aload 6, 2) := by decide +kernel
theorem dX2_init_72 : decode cX2_init 72 = .ok (.invokevirtual 47, 3) := by decide +kernel
theorem dX2_init_75 : decode cX2_init 75 = .ok (.aload_n 0, 1) := by decide +kernel
theorem dX2_init_76 : decode cX2_init 76 = .ok (.iload_n 2, 1) := by decide +kernel
theorem dX2_init_77 : decode cX2_init 77 = .ok (.putfield 51, 3) := by decide +kernel
theorem dX2_init_80 : decode cX2_init 80 = .ok (.aload_n 0, 1) := by decide +kernel
theorem dX2_init_81 : decode cX2_init 81 = .ok (.aload_n 0, 1) := by decide +kernel
theorem dX2_init_82 : decode cX2_init 82 = .ok (.getfield 21, 3) := by decide +kernel
theorem dX2_init_85 : decode cX2_init 85 = .ok (.iload_n 2, 1) := by decide +kernel
theorem dX2_init_86 : decode cX2_init 86 = .ok (.iload_n 3, 1) := by decide +kernel
theorem dX2_init_87 : decode cX2_init 87 = .ok (.invokevirtual 54, 3) := by decide +kernel
theorem dX2_init_90 : decode cX2_init 90 = .ok (.putfield 58, 3) := by decide +kernel
theorem dX2_init_93 : decode cX2_init 93 = .ok (.return_, 1) := by decide +kernel
set_option maxRecDepth 20000 in
theorem ggX2_init_X5_init : GoodIn wsX2_init wsX5_init := goodIn_r _ [19, 20, 2, 3, 4, 21, 22, 50, 51] (by decide +kernel) (by decide +kernel)
set_option maxRecDepth 20000 in
theorem gX2_init_X5_init_n20 : GoodIn wsX2_init (wsX5_init) := ggX2_init_X5_init
set_option maxRecDepth 20000 in
theorem ggX2_init_J7_fill_53178 : GoodIn wsX2_init wsJ7_fill_53178 := goodIn_r _ [26] (by decide +kernel) (by decide +kernel)
set_option maxRecDepth 20000 in
theorem gX2_init_J7_fill_53178 : GoodIn wsX2_init (va_wsS RX2 41 yJ7_fill_53178 wsJ7_fill_53178) := goodIn_app (goodIn_of _ (by decide +kernel)) ggX2_init_J7_fill_53178
set_option maxRecDepth 20000 in
theorem ggX2_init_X5_copyFrom : GoodIn wsX2_init wsX5_copyFrom := goodIn_r _ [30, 21, 31, 32, 33, 34, 22, 50, 51] (by decide +kernel) (by decide +kernel)
set_option maxRecDepth 20000 in
theorem gX2_init_X5_copyFrom : GoodIn wsX2_init (wsV RX2 47 RX5 yX5_copyFrom wsX5_copyFrom) := goodIn_app (goodIn_of _ (by decide +kernel)) ggX2_init_X5_copyFrom
set_option maxRecDepth 20000 in
theorem ggX2_init_X5_payFor : GoodIn wsX2_init wsX5_payFor := goodIn_r _ [38, 21, 22, 39, 50, 51] (by decide +kernel) (by decide +kernel)
set_option maxRecDepth 20000 in
theorem gX2_init_X5_payFor : GoodIn wsX2_init (wsV RX2 54 RX5 yX5_payFor wsX5_payFor) := goodIn_app (goodIn_of _ (by decide +kernel)) ggX2_init_X5_payFor
/-! worlds in which one object is being made: all places but its own as in sm -/
def smp (k0 : Nat) (T : List Nat) (ws ws' : va_W) : Prop := ws.length ≤ ws'.length ∧ ∀ (k a : Nat) (e : va_E), k ≠ k0 → ws[k]? = some (a, e) → ∃ e', ws'[k]? = some (a, e') ∧ smE e e' ∧ (∀ (ci : Nat) (fs : List Value), e = .inr (ci, fs) → ci ∉ T → e' = e)
theorem sm.len {T : List Nat} {a b : va_W} (h : sm T a b) : a.length ≤ b.length := by
  rcases Nat.eq_zero_or_pos a.length with q | q
  · omega
  · have hk : a[a.length - 1]? = some a[a.length - 1] := List.getElem?_eq_getElem (by omega)
    obtain ⟨e', h1, -⟩ := h (a.length - 1) _ _ hk
    have := (List.getElem?_eq_some_iff.mp h1).1
    omega
theorem smp.rf {k0 : Nat} {T : List Nat} (ws : va_W) : smp k0 T ws ws := ⟨Nat.le_refl _, fun k a e _ h => ⟨e, h, smE.rf e, fun _ _ _ _ => rfl⟩⟩
theorem smp.set {k0 : Nat} {T : List Nat} {ws w : va_W} (h : smp k0 T ws w) (z : Nat × va_E) : smp k0 T ws (w.set k0 z) := ⟨by rw [List.length_set]; exact h.1, fun k a e hk he => by
  obtain ⟨e', h1, h2⟩ := h.2 k a e hk he
  exact ⟨e', by rw [List.getElem?_set_ne (fun q => hk q.symm)]; exact h1, h2⟩⟩
theorem smp.tr {k0 : Nat} {T : List Nat} {a b c : va_W} (h : smp k0 T a b) (h2 : sm T b c) : smp k0 T a c := ⟨Nat.le_trans h.1 h2.len, fun k x e hk he => by
  obtain ⟨e1, h1, s1, o1⟩ := h.2 k x e hk he
  obtain ⟨e2, h3, s2, o2⟩ := h2 k x e1 h1
  refine ⟨e2, h3, s1.tr s2, fun ci fs he hT => ?_⟩
  have q := o1 ci fs he hT
  exact (o2 ci fs (q.trans he) hT).trans q⟩
theorem smp.trk {k0 k2 : Nat} {T : List Nat} {a b c : va_W} (h : smp k0 T a b) (h2 : smp k2 T b c) (hk2 : a.length ≤ k2) : smp k0 T a c := ⟨Nat.le_trans h.1 h2.1, fun k x e hk he => by
  obtain ⟨e1, h1, s1, o1⟩ := h.2 k x e hk he
  obtain ⟨e2, h3, s2, o2⟩ := h2.2 k x e1 (by have := (List.getElem?_eq_some_iff.mp he).1; omega) h1
  refine ⟨e2, h3, s1.tr s2, fun ci fs he hT => ?_⟩
  have q := o1 ci fs he hT
  exact (o2 ci fs (q.trans he) hT).trans q⟩
theorem sm.trk {k2 : Nat} {T : List Nat} {a b c : va_W} (h : sm T a b) (h2 : smp k2 T b c) (hk2 : a.length ≤ k2) : sm T a c := fun k x e he => by
  obtain ⟨e1, h1, s1, o1⟩ := h k x e he
  obtain ⟨e2, h3, s2, o2⟩ := h2.2 k x e1 (by have := (List.getElem?_eq_some_iff.mp he).1; omega) h1
  refine ⟨e2, h3, s1.tr s2, fun ci fs he hT => ?_⟩
  have q := o1 ci fs he hT
  exact (o2 ci fs (q.trans he) hT).trans q
theorem smp.mono {k0 : Nat} {T T' : List Nat} {a b : va_W} (h : smp k0 T a b) (hT : ∀ x ∈ T, x ∈ T') : smp k0 T' a b := ⟨h.1, fun k x e hk he => by
  obtain ⟨e1, h1, s1, o1⟩ := h.2 k x e hk he
  exact ⟨e1, h1, s1, fun ci fs he hn => o1 ci fs he (fun hm => hn (hT ci hm))⟩⟩
theorem smp.arrI {k0 : Nat} {T : List Nat} {ws ws' : va_W} (h : smp k0 T ws ws') {k a : Nat} {c : ClassId} {n : Nat} {f : Nat → Int32} (hne : k ≠ k0) (hk : ws[k]? = some (a, .inl (c, n, .inl f))) : ∃ f', ws'[k]? = some (a, .inl (c, n, .inl f')) := by
  obtain ⟨e, he, hs, -⟩ := h.2 k a _ hne hk
  rcases hs with rfl | ⟨c1, n1, f1, f2, e1, rfl⟩ | ⟨c1, n1, f1, f2, e1, rfl⟩ | ⟨ci, fs, fs', e1, rfl, -⟩
  · exact ⟨f, he⟩
  · cases e1; exact ⟨f2, he⟩
  · cases e1
  · cases e1
theorem smp.arrJ {k0 : Nat} {T : List Nat} {ws ws' : va_W} (h : smp k0 T ws ws') {k a : Nat} {c : ClassId} {n : Nat} {f : Nat → Int64} (hne : k ≠ k0) (hk : ws[k]? = some (a, .inl (c, n, .inr (.inl f)))) : ∃ f', ws'[k]? = some (a, .inl (c, n, .inr (.inl f'))) := by
  obtain ⟨e, he, hs, -⟩ := h.2 k a _ hne hk
  rcases hs with rfl | ⟨c1, n1, f1, f2, e1, rfl⟩ | ⟨c1, n1, f1, f2, e1, rfl⟩ | ⟨ci, fs, fs', e1, rfl, -⟩
  · exact ⟨f, he⟩
  · cases e1
  · cases e1; exact ⟨f2, he⟩
  · cases e1
theorem smp.arrQ {k0 : Nat} {T : List Nat} {ws ws' : va_W} (h : smp k0 T ws ws') {k a : Nat} {c : ClassId} {n : Nat} {g : Nat → Option Nat} (hne : k ≠ k0) (hk : ws[k]? = some (a, .inl (c, n, .inr (.inr (.inr (.inr g)))))) : ws'[k]? = some (a, .inl (c, n, .inr (.inr (.inr (.inr g))))) := by
  obtain ⟨e, he, hs, -⟩ := h.2 k a _ hne hk
  rcases hs with rfl | ⟨c1, n1, f1, f2, e1, rfl⟩ | ⟨c1, n1, f1, f2, e1, rfl⟩ | ⟨ci, fs, fs', e1, rfl, -⟩
  · exact he
  · cases e1
  · cases e1
  · cases e1
theorem smp.objK {k0 : Nat} {T : List Nat} {ws ws' : va_W} (h : smp k0 T ws ws') {k a ci : Nat} {fs : List Value} (hne : k ≠ k0) (hk : ws[k]? = some (a, .inr (ci, fs))) (hT : ci ∉ T) : ws'[k]? = some (a, .inr (ci, fs)) := by
  obtain ⟨e, he, -, ho⟩ := h.2 k a _ hne hk
  rw [ho ci fs rfl hT] at he; exact he
theorem ap_new (a : va_W) (x : Nat × va_E) : (a ++ [x])[a.length]? = some x := by rw [List.getElem?_append_right (Nat.le_refl _)]; simp
theorem ap_ty (a : List (ClassId × FieldType)) (x : ClassId × FieldType) : (a ++ [x])[a.length]? = some x := by rw [List.getElem?_append_right (Nat.le_refl _)]; simp
theorem pl_ne {ws : va_W} {k k2 : Nat} {x y : Nat × va_E} (e : ws[k]? = some x) (e2 : ws[k2]? = some y) (h : x ≠ y) : k ≠ k2 := fun q => by subst q; rw [e] at e2; exact h (Option.some.inj e2)
theorem set_o {ws : va_W} {k k2 : Nat} {x y z : Nat × va_E} (e : ws[k]? = some x) (e2 : ws[k2]? = some y) (h : x ≠ y) : (ws.set k2 z)[k]? = some x := by rw [List.getElem?_set_ne (fun q => pl_ne e e2 h q.symm)]; exact e
set_option maxHeartbeats 4000000 in
set_option maxRecDepth 100000 in
theorem c_X5_init (l : Launch) (D : va_G) (ws : va_W) (tys : List (ClassId × FieldType)) (h0 k0 : Nat) (sz : Nat) (e0 : ws[k0]? = some (h0, .inr (5, [.null, .null]))) : Met l yX5_init wsX5_init ({ frames := 1, cells := 2, slots := 8, locals := 16 }) (va_Pc [.ref h0] (fun U => U.heap.size = sz ∧ va_P D vwCl ws U.heap ∧ va_K D vwCl tys U ∧ va_D (fun _ => True) ws)) (va_Qv (fun _ : Unit => True) (fun (_ : Unit) (t : State) => ∃ (ws' : va_W) (tys' : List (ClassId × FieldType)), smp k0 [] ws ws' ∧ tyx tys tys' ∧ va_P D vwCl ws' t.heap ∧ va_K D vwCl tys' t ∧ va_D (va_A ws sz) ws' ∧ oS ws' tys' h0) (va_A ws sz)) 2 8 (va_A ws sz) := by
  refine Met.ofW (cc := cX5_init) (maxL := 1) (ret := none) (by decide) rfl ?_
  intro p e s m args below meth c s₁ B hml hv
  obtain ⟨rfl, hsz, hP, hK, hD0⟩ := hv
  have hx := B.exec
  have hb := B.bytes
  have hr := B.returns
  have hts := atoms_spec (ws := wsX5_init) B.pre
  have hown : s.vm.findClass RX5 = some m.cls := findClass_of_methodNamed B.named
  have hlocks := B.notSynchronized
  have hin : meth.name = "<init>" := (name_of_methodNamed B.named B.method).1
  subst hsz
  have hD := hD0.self (sz := s.heap.size)
  generalize hAe : va_A ws s.heap.size = A at hD ⊢
  have hA : ∀ q : Nat, s.heap.size ≤ q → A q := fun q h => by rw [← hAe]; exact Or.inr h
  have hS : va_S A s.heap s.heap [] := va_S.rf
  have hsm : smp k0 [] ws ws := smp.rf ws
  have htx : tyx tys tys := tyx.rf tys
  have hin5 : ∀ w ∈ u_ws RX5 TX5 2, w ∈ wsX5_init := (fun _ h9 => List.mem_cons_of_mem _ ((List.mem_append_right _ h9)))
  have hl := lv_entry ([.ref h0]) (n := 1) (Nat.le_of_ble_eq_true rfl)
  rw [lg_entry_eq]
  generalize (lg_sl ([.ref h0]) ++ List.replicate (1 - (lg_sl ([.ref h0])).length) Slot.unset).toArray = ls at hl ⊢
  have hl : lv_has ls 1 [(0, .ref h0)] := hl
  refine lv_aload_n hx hb dX5_init_0 rfl (lv_at hl 0 rfl) ?_
  refine W.objInit hx hb hown (hts (.methodLink RX5 3 objectInit) (List.mem_of_getElem? (i := 1) rfl)) (hts (.instanceMethod objectInit) (List.mem_of_getElem? (i := 2) rfl)) (hts (.code objectInit ⟨#[0xb1]⟩ 1 none) (List.mem_of_getElem? (i := 3) rfl)) rfl (by rw [hml]; exact hl.1) rfl dX5_init_1 (Nat.le_of_ble_eq_true rfl) (Nat.le_of_ble_eq_true rfl) ?_
  refine W.eq (g2 := F0 m 4 ls []) rfl ?_
  refine lv_aload_n hx hb dX5_init_4 rfl (lv_at hl 0 rfl) ?_
  refine lv_iconst (v := 4) hx hb dX5_init_5 (by decide) ?_
  refine va_newa (atype := .int) (ty := .int) (a0 := (4, .inl (fun _ => 0))) (N' := 4) hx hb (hts (.arrayClass .int) (List.mem_of_getElem? (i := 4) rfl)) rfl hK hP hD hS hA (fun _ => rfl) (by decide) (by decide) (by decide) (Nat.le_of_ble_eq_true rfl) (Nat.le_of_ble_eq_true rfl) dX5_init_6 (fun q_1 y_2 H hK hP hD hS => ?_)
  have ht_4 : tyx tys (tys ++ [(y_2, .int)]) := tyx.app _ _
  have u_5 : (tys ++ [(y_2, .int)])[tys.length]? = some (y_2, .int) := ap_ty _ _
  generalize tys ++ [(y_2, .int)] = ty_3 at hK ht_4 u_5
  have htx := htx.tr ht_4
  have le_6 := hsm.1
  have hP : va_P D vwCl (ws ++ [(q_1, .inl (y_2, 4, .inl (fun _ => 0)))]) H := hP
  have hD : va_D A (ws ++ [(q_1, .inl (y_2, 4, .inl (fun _ => 0)))]) := hD
  have hm_8 : sm [] ws (ws ++ [(q_1, .inl (y_2, 4, .inl (fun _ => 0)))]) := sm.app _ _ _
  have e_9 : (ws ++ [(q_1, .inl (y_2, 4, .inl (fun _ => 0)))])[ws.length]? = some (q_1, .inl (y_2, 4, .inl (fun _ => 0))) := ap_new _ _
  generalize ws ++ [(q_1, .inl (y_2, 4, .inl (fun _ => 0)))] = ws_7 at hP hD hm_8 e_9
  have e_10 := hm_8.objK e0 (by decide)
  have hsm := hsm.tr (hm_8.mono (fun _ h9 => absurd h9 List.not_mem_nil))
  refine W.widen (k := 1) (n := 4) (by omega) (by omega) ?_
  refine va_putF (D := D) (ci := 5) (v := .ref q_1) (ty := .array .int) (C := RX5) (T := TX5) (N := 2) hx hb hts hin5 tyX5 tyX5_ok nmX5 hown hK hP hD hS k0 e_10 rfl 0 (by decide) (hts (.fieldLink RX5 9 "HoneyHouse$Steps" "waters" "[I") (List.mem_of_getElem? (i := 5) rfl)) (fun _ h9 => h9) rfl hin rfl (tyX5_ok 0 (by decide)) rfl rfl (Nat.le_of_ble_eq_true rfl) dX5_init_8 (fun H locs hP hD hS => ?_)
  have hP : va_P D vwCl (ws_7.set k0 (h0, .inr (5, [.ref q_1, .null]))) H := hP
  have hD : va_D A (ws_7.set k0 (h0, .inr (5, [.ref q_1, .null]))) := hD
  have e_13 : (ws_7.set k0 (h0, .inr (5, [.ref q_1, .null])))[k0]? = some (h0, .inr (5, [.ref q_1, .null])) := wset_self e_10
  have e_14 := set_o (z := (h0, .inr (5, [.ref q_1, .null]))) e_9 e_10 (by intro h9; simp at h9)
  have hsm := hsm.set (h0, .inr (5, [.ref q_1, .null]))
  generalize ws_7.set k0 (h0, .inr (5, [.ref q_1, .null])) = ws_12 at hP hD e_13 e_14 hsm
  refine lv_aload_n hx hb dX5_init_11 rfl (lv_at hl 0 rfl) ?_
  refine lv_iconst (v := 4) hx hb dX5_init_12 (by decide) ?_
  refine va_newa (atype := .int) (ty := .int) (a0 := (4, .inl (fun _ => 0))) (N' := 4) hx hb (hts (.arrayClass .int) (List.mem_of_getElem? (i := 4) rfl)) rfl hK hP hD hS hA (fun _ => rfl) (by decide) (by decide) (by decide) (Nat.le_of_ble_eq_true rfl) (Nat.le_of_ble_eq_true rfl) dX5_init_13 (fun q_15 y_16 H hK hP hD hS => ?_)
  have ht_18 : tyx ty_3 (ty_3 ++ [(y_16, .int)]) := tyx.app _ _
  have u_19 : (ty_3 ++ [(y_16, .int)])[ty_3.length]? = some (y_16, .int) := ap_ty _ _
  generalize ty_3 ++ [(y_16, .int)] = ty_17 at hK ht_18 u_19
  have htx := htx.tr ht_18
  have le_20 := hsm.1
  have hP : va_P D vwCl (ws_12 ++ [(q_15, .inl (y_16, 4, .inl (fun _ => 0)))]) H := hP
  have hD : va_D A (ws_12 ++ [(q_15, .inl (y_16, 4, .inl (fun _ => 0)))]) := hD
  have hm_22 : sm [] ws_12 (ws_12 ++ [(q_15, .inl (y_16, 4, .inl (fun _ => 0)))]) := sm.app _ _ _
  have e_23 : (ws_12 ++ [(q_15, .inl (y_16, 4, .inl (fun _ => 0)))])[ws_12.length]? = some (q_15, .inl (y_16, 4, .inl (fun _ => 0))) := ap_new _ _
  generalize ws_12 ++ [(q_15, .inl (y_16, 4, .inl (fun _ => 0)))] = ws_21 at hP hD hm_22 e_23
  have e_24 := hm_22.objK e_13 (by decide)
  obtain ⟨f_26, e_25⟩ := hm_22.arrI e_14
  have u_27 := ht_18 _ _ u_5
  have hsm := hsm.tr (hm_22.mono (fun _ h9 => absurd h9 List.not_mem_nil))
  refine W.widen (k := 2) (n := 8) (by omega) (by omega) ?_
  refine va_putF (D := D) (ci := 5) (v := .ref q_15) (ty := .array .int) (C := RX5) (T := TX5) (N := 2) hx hb hts hin5 tyX5 tyX5_ok nmX5 hown hK hP hD hS k0 e_24 rfl 1 (by decide) (hts (.fieldLink RX5 15 "HoneyHouse$Steps" "prices" "[I") (List.mem_of_getElem? (i := 6) rfl)) (fun _ h9 => h9) rfl hin rfl (tyX5_ok 1 (by decide)) rfl rfl (Nat.le_of_ble_eq_true rfl) dX5_init_15 (fun H locs hP hD hS => ?_)
  have hP : va_P D vwCl (ws_21.set k0 (h0, .inr (5, [.ref q_1, .ref q_15]))) H := hP
  have hD : va_D A (ws_21.set k0 (h0, .inr (5, [.ref q_1, .ref q_15]))) := hD
  have e_30 : (ws_21.set k0 (h0, .inr (5, [.ref q_1, .ref q_15])))[k0]? = some (h0, .inr (5, [.ref q_1, .ref q_15])) := wset_self e_24
  have e_31 := set_o (z := (h0, .inr (5, [.ref q_1, .ref q_15]))) e_25 e_24 (by intro h9; simp at h9)
  have e_32 := set_o (z := (h0, .inr (5, [.ref q_1, .ref q_15]))) e_23 e_24 (by intro h9; simp at h9)
  have hsm := hsm.set (h0, .inr (5, [.ref q_1, .ref q_15]))
  generalize ws_21.set k0 (h0, .inr (5, [.ref q_1, .ref q_15])) = ws_29 at hP hD e_30 e_31 e_32 hsm
  refine W.widen (k := 2) (n := 8) (by omega) (by omega) ?_
  exact W.vret hx hb hr (fun t ht hW => ⟨⟨(), rfl, trivial, ws_29, ty_17, hsm, htx, by rw [ht]; exact hP, va_K.moved hW.alike hK, hD, ⟨k0, q_1, q_15, e_30, ⟨ws.length, y_2, tys.length, f_26, e_31, u_27⟩, ⟨ws_12.length, y_16, ty_3.length, (fun _ => 0), e_32, u_19⟩⟩⟩, hS.F ht⟩) hS.2.2 dX5_init_18
set_option maxHeartbeats 4000000 in
set_option maxRecDepth 100000 in
theorem c_X7_init (l : Launch) (D : va_G) (ws : va_W) (tys : List (ClassId × FieldType)) (h0 k0 : Nat) (a1 a2 : Int32) (sz : Nat) (e0 : ws[k0]? = some (h0, .inr (7, [.null, .int 0, .int 0, .int 0, .int 0]))) : Met l yX7_init wsX7_init ({ frames := 1, cells := 1, slots := 40, locals := 16 }) (va_Pc [.ref h0, .int a1, .int a2] (fun U => U.heap.size = sz ∧ va_P D vwCl ws U.heap ∧ va_K D vwCl tys U ∧ va_D (fun _ => True) ws)) (va_Qv (fun _ : Unit => True) (fun (_ : Unit) (t : State) => ∃ (ws' : va_W) (tys' : List (ClassId × FieldType)), smp k0 [] ws ws' ∧ tyx tys tys' ∧ va_P D vwCl ws' t.heap ∧ va_K D vwCl tys' t ∧ va_D (va_A ws sz) ws' ∧ oV ws' tys' h0) (va_A ws sz)) 1 40 (va_A ws sz) := by
  refine Met.ofW (cc := cX7_init) (maxL := 3) (ret := none) (by decide) rfl ?_
  intro p e s m args below meth c s₁ B hml hv
  obtain ⟨rfl, hsz, hP, hK, hD0⟩ := hv
  have hx := B.exec
  have hb := B.bytes
  have hr := B.returns
  have hts := atoms_spec (ws := wsX7_init) B.pre
  have hown : s.vm.findClass RX7 = some m.cls := findClass_of_methodNamed B.named
  have hlocks := B.notSynchronized
  have hin : meth.name = "<init>" := (name_of_methodNamed B.named B.method).1
  subst hsz
  have hD := hD0.self (sz := s.heap.size)
  generalize hAe : va_A ws s.heap.size = A at hD ⊢
  have hA : ∀ q : Nat, s.heap.size ≤ q → A q := fun q h => by rw [← hAe]; exact Or.inr h
  have hS : va_S A s.heap s.heap [] := va_S.rf
  have hsm : smp k0 [] ws ws := smp.rf ws
  have htx : tyx tys tys := tyx.rf tys
  have hin7 : ∀ w ∈ u_ws RX7 TX7 5, w ∈ wsX7_init := (fun _ h9 => List.mem_cons_of_mem _ ((List.mem_append_right _ h9)))
  have hl := lv_entry ([.ref h0, .int a1, .int a2]) (n := 3) (Nat.le_of_ble_eq_true rfl)
  rw [lg_entry_eq]
  generalize (lg_sl ([.ref h0, .int a1, .int a2]) ++ List.replicate (3 - (lg_sl ([.ref h0, .int a1, .int a2])).length) Slot.unset).toArray = ls at hl ⊢
  have hl : lv_has ls 3 [(0, .ref h0), (1, .int a1), (2, .int a2)] := hl
  refine lv_aload_n hx hb dX7_init_0 rfl (lv_at hl 0 rfl) ?_
  refine W.objInit hx hb hown (hts (.methodLink RX7 3 objectInit) (List.mem_of_getElem? (i := 1) rfl)) (hts (.instanceMethod objectInit) (List.mem_of_getElem? (i := 2) rfl)) (hts (.code objectInit ⟨#[0xb1]⟩ 1 none) (List.mem_of_getElem? (i := 3) rfl)) rfl (by rw [hml]; exact hl.1) rfl dX7_init_1 (Nat.le_of_ble_eq_true rfl) (Nat.le_of_ble_eq_true rfl) ?_
  refine W.eq (g2 := F0 m 4 ls []) rfl ?_
  refine lv_aload_n hx hb dX7_init_4 rfl (lv_at hl 0 rfl) ?_
  refine lv_bipush (v := 40) hx hb dX7_init_5 (by decide) ?_
  refine va_newa (atype := .int) (ty := .int) (a0 := (40, .inl (fun _ => 0))) (N' := 40) hx hb (hts (.arrayClass .int) (List.mem_of_getElem? (i := 4) rfl)) rfl hK hP hD hS hA (fun _ => rfl) (by decide) (by decide) (by decide) (Nat.le_of_ble_eq_true rfl) (Nat.le_of_ble_eq_true rfl) dX7_init_7 (fun q_1 y_2 H hK hP hD hS => ?_)
  have ht_4 : tyx tys (tys ++ [(y_2, .int)]) := tyx.app _ _
  have u_5 : (tys ++ [(y_2, .int)])[tys.length]? = some (y_2, .int) := ap_ty _ _
  generalize tys ++ [(y_2, .int)] = ty_3 at hK ht_4 u_5
  have htx := htx.tr ht_4
  have le_6 := hsm.1
  have hP : va_P D vwCl (ws ++ [(q_1, .inl (y_2, 40, .inl (fun _ => 0)))]) H := hP
  have hD : va_D A (ws ++ [(q_1, .inl (y_2, 40, .inl (fun _ => 0)))]) := hD
  have hm_8 : sm [] ws (ws ++ [(q_1, .inl (y_2, 40, .inl (fun _ => 0)))]) := sm.app _ _ _
  have e_9 : (ws ++ [(q_1, .inl (y_2, 40, .inl (fun _ => 0)))])[ws.length]? = some (q_1, .inl (y_2, 40, .inl (fun _ => 0))) := ap_new _ _
  generalize ws ++ [(q_1, .inl (y_2, 40, .inl (fun _ => 0)))] = ws_7 at hP hD hm_8 e_9
  have e_10 := hm_8.objK e0 (by decide)
  have hsm := hsm.tr (hm_8.mono (fun _ h9 => absurd h9 List.not_mem_nil))
  refine W.widen (k := 1) (n := 40) (by omega) (by omega) ?_
  refine va_putF (D := D) (ci := 7) (v := .ref q_1) (ty := .array .int) (C := RX7) (T := TX7) (N := 5) hx hb hts hin7 tyX7 tyX7_ok nmX7 hown hK hP hD hS k0 e_10 rfl 0 (by decide) (hts (.fieldLink RX7 9 "HoneyHouse$Vessel" "grams" "[I") (List.mem_of_getElem? (i := 5) rfl)) (fun _ h9 => h9) rfl hin rfl (tyX7_ok 0 (by decide)) rfl rfl (Nat.le_of_ble_eq_true rfl) dX7_init_9 (fun H locs hP hD hS => ?_)
  have hP : va_P D vwCl (ws_7.set k0 (h0, .inr (7, [.ref q_1, .int 0, .int 0, .int 0, .int 0]))) H := hP
  have hD : va_D A (ws_7.set k0 (h0, .inr (7, [.ref q_1, .int 0, .int 0, .int 0, .int 0]))) := hD
  have e_13 : (ws_7.set k0 (h0, .inr (7, [.ref q_1, .int 0, .int 0, .int 0, .int 0])))[k0]? = some (h0, .inr (7, [.ref q_1, .int 0, .int 0, .int 0, .int 0])) := wset_self e_10
  have e_14 := set_o (z := (h0, .inr (7, [.ref q_1, .int 0, .int 0, .int 0, .int 0]))) e_9 e_10 (by intro h9; simp at h9)
  have hsm := hsm.set (h0, .inr (7, [.ref q_1, .int 0, .int 0, .int 0, .int 0]))
  generalize ws_7.set k0 (h0, .inr (7, [.ref q_1, .int 0, .int 0, .int 0, .int 0])) = ws_12 at hP hD e_13 e_14 hsm
  refine lv_aload_n hx hb dX7_init_12 rfl (lv_at hl 0 rfl) ?_
  refine lv_iload_n hx hb dX7_init_13 rfl (lv_at hl 1 rfl) ?_
  refine va_put (D := D) (ci := 7) (v := .int a1) (ty := .int) (C := RX7) (T := TX7) (N := 5) hx hb hts hin7 tyX7 tyX7_ok nmX7 hown hK hP hD hS k0 e_13 rfl 3 (by decide) (hts (.fieldLink RX7 15 "HoneyHouse$Vessel" "roomOrTank" "I") (List.mem_of_getElem? (i := 6) rfl)) (fun _ h9 => h9) rfl (tyX7_ok 3 (by decide)) rfl rfl (Nat.le_of_ble_eq_true rfl) dX7_init_14 (fun H locs hP hD hS => ?_)
  have hP : va_P D vwCl (ws_12.set k0 (h0, .inr (7, [.ref q_1, .int 0, .int 0, .int a1, .int 0]))) H := hP
  have hD : va_D A (ws_12.set k0 (h0, .inr (7, [.ref q_1, .int 0, .int 0, .int a1, .int 0]))) := hD
  have e_16 : (ws_12.set k0 (h0, .inr (7, [.ref q_1, .int 0, .int 0, .int a1, .int 0])))[k0]? = some (h0, .inr (7, [.ref q_1, .int 0, .int 0, .int a1, .int 0])) := wset_self e_13
  have e_17 := set_o (z := (h0, .inr (7, [.ref q_1, .int 0, .int 0, .int a1, .int 0]))) e_14 e_13 (by intro h9; simp at h9)
  have hsm := hsm.set (h0, .inr (7, [.ref q_1, .int 0, .int 0, .int a1, .int 0]))
  generalize ws_12.set k0 (h0, .inr (7, [.ref q_1, .int 0, .int 0, .int a1, .int 0])) = ws_15 at hP hD e_16 e_17 hsm
  refine lv_aload_n hx hb dX7_init_17 rfl (lv_at hl 0 rfl) ?_
  refine lv_iload_n hx hb dX7_init_18 rfl (lv_at hl 2 rfl) ?_
  refine va_put (D := D) (ci := 7) (v := .int a2) (ty := .int) (C := RX7) (T := TX7) (N := 5) hx hb hts hin7 tyX7 tyX7_ok nmX7 hown hK hP hD hS k0 e_16 rfl 4 (by decide) (hts (.fieldLink RX7 19 "HoneyHouse$Vessel" "priceOrDay" "I") (List.mem_of_getElem? (i := 7) rfl)) (fun _ h9 => h9) rfl (tyX7_ok 4 (by decide)) rfl rfl (Nat.le_of_ble_eq_true rfl) dX7_init_19 (fun H locs hP hD hS => ?_)
  have hP : va_P D vwCl (ws_15.set k0 (h0, .inr (7, [.ref q_1, .int 0, .int 0, .int a1, .int a2]))) H := hP
  have hD : va_D A (ws_15.set k0 (h0, .inr (7, [.ref q_1, .int 0, .int 0, .int a1, .int a2]))) := hD
  have e_19 : (ws_15.set k0 (h0, .inr (7, [.ref q_1, .int 0, .int 0, .int a1, .int a2])))[k0]? = some (h0, .inr (7, [.ref q_1, .int 0, .int 0, .int a1, .int a2])) := wset_self e_16
  have e_20 := set_o (z := (h0, .inr (7, [.ref q_1, .int 0, .int 0, .int a1, .int a2]))) e_17 e_16 (by intro h9; simp at h9)
  have hsm := hsm.set (h0, .inr (7, [.ref q_1, .int 0, .int 0, .int a1, .int a2]))
  generalize ws_15.set k0 (h0, .inr (7, [.ref q_1, .int 0, .int 0, .int a1, .int a2])) = ws_18 at hP hD e_19 e_20 hsm
  refine W.widen (k := 1) (n := 40) (by omega) (by omega) ?_
  exact W.vret hx hb hr (fun t ht hW => ⟨⟨(), rfl, trivial, ws_18, ty_3, hsm, htx, by rw [ht]; exact hP, va_K.moved hW.alike hK, hD, ⟨k0, q_1, 0, 0, a1, a2, e_19, ⟨ws.length, y_2, tys.length, (fun _ => 0), e_20, u_5⟩⟩⟩, hS.F ht⟩) hS.2.2 dX7_init_22
set_option maxHeartbeats 4000000 in
set_option maxRecDepth 100000 in
theorem c_X3_init (l : Launch) (D : va_G) (ws : va_W) (tys : List (ClassId × FieldType)) (h0 k0 : Nat) (a1 : Int64) (a2 : Int32) (cd kcd n : Nat) (ccd : ClassId) (tcd : Nat) (fcd : Nat → Int32) (sz : Nat) (e0 : ws[k0]? = some (h0, .inr (3, [.long 0, .int 0, .null, .int 0, .int 0]))) (hn : n ≤ 200) (ecd : ws[kcd]? = some (cd, .inl (ccd, n, .inl fcd))) (ucd : tys[tcd]? = some (ccd, .int)) : Met l yX3_init wsX3_init ({ frames := 1, cells := 0, slots := 0, locals := 16 }) (va_Pc [.ref h0, .long a1, .int a2, .ref cd] (fun U => U.heap.size = sz ∧ va_P D vwCl ws U.heap ∧ va_K D vwCl tys U ∧ va_D (fun _ => True) ws)) (va_Qv (fun _ : Unit => True) (fun (_ : Unit) (t : State) => ∃ (ws' : va_W) (tys' : List (ClassId × FieldType)), smp k0 [] ws ws' ∧ tyx tys tys' ∧ va_P D vwCl ws' t.heap ∧ va_K D vwCl tys' t ∧ va_D (va_A ws sz) ws' ∧ oR ws' tys' h0) (va_A ws sz)) 0 0 (va_A ws sz) := by
  refine Met.ofW (cc := cX3_init) (maxL := 5) (ret := none) (by decide) rfl ?_
  intro p e s m args below meth c s₁ B hml hv
  obtain ⟨rfl, hsz, hP, hK, hD0⟩ := hv
  have hx := B.exec
  have hb := B.bytes
  have hr := B.returns
  have hts := atoms_spec (ws := wsX3_init) B.pre
  have hown : s.vm.findClass RX3 = some m.cls := findClass_of_methodNamed B.named
  have hlocks := B.notSynchronized
  have hin : meth.name = "<init>" := (name_of_methodNamed B.named B.method).1
  subst hsz
  have hD := hD0.self (sz := s.heap.size)
  generalize hAe : va_A ws s.heap.size = A at hD ⊢
  have hA : ∀ q : Nat, s.heap.size ≤ q → A q := fun q h => by rw [← hAe]; exact Or.inr h
  have hS : va_S A s.heap s.heap [] := va_S.rf
  have hsm : smp k0 [] ws ws := smp.rf ws
  have htx : tyx tys tys := tyx.rf tys
  have hin3 : ∀ w ∈ u_ws RX3 TX3 5, w ∈ wsX3_init := (fun _ h9 => List.mem_cons_of_mem _ ((List.mem_append_right _ h9)))
  have hl := lv_entry ([.ref h0, .long a1, .int a2, .ref cd]) (n := 5) (Nat.le_of_ble_eq_true rfl)
  rw [lg_entry_eq]
  generalize (lg_sl ([.ref h0, .long a1, .int a2, .ref cd]) ++ List.replicate (5 - (lg_sl ([.ref h0, .long a1, .int a2, .ref cd])).length) Slot.unset).toArray = ls at hl ⊢
  have hl : lv_has ls 5 [(0, .ref h0), (1, .long a1), (3, .int a2), (4, .ref cd)] := hl
  refine lv_aload_n hx hb dX3_init_0 rfl (lv_at hl 0 rfl) ?_
  refine W.objInit hx hb hown (hts (.methodLink RX3 1 objectInit) (List.mem_of_getElem? (i := 1) rfl)) (hts (.instanceMethod objectInit) (List.mem_of_getElem? (i := 2) rfl)) (hts (.code objectInit ⟨#[0xb1]⟩ 1 none) (List.mem_of_getElem? (i := 3) rfl)) rfl (by rw [hml]; exact hl.1) rfl dX3_init_1 (Nat.le_of_ble_eq_true rfl) (Nat.le_of_ble_eq_true rfl) ?_
  refine W.eq (g2 := F0 m 4 ls []) rfl ?_
  refine lv_aload_n hx hb dX3_init_4 rfl (lv_at hl 0 rfl) ?_
  refine lv_lload_n hx hb dX3_init_5 rfl (lv_at hl 1 rfl) ?_
  refine va_putF (D := D) (ci := 3) (v := .long a1) (ty := .long) (C := RX3) (T := TX3) (N := 5) hx hb hts hin3 tyX3 tyX3_ok nmX3 hown hK hP hD hS k0 e0 rfl 0 (by decide) (hts (.fieldLink RX3 7 "HoneyHouse$Rule" "nameKey" "J") (List.mem_of_getElem? (i := 4) rfl)) (fun _ h9 => h9) rfl hin rfl (tyX3_ok 0 (by decide)) rfl rfl (Nat.le_of_ble_eq_true rfl) dX3_init_6 (fun H locs hP hD hS => ?_)
  have hP : va_P D vwCl (ws.set k0 (h0, .inr (3, [.long a1, .int 0, .null, .int 0, .int 0]))) H := hP
  have hD : va_D A (ws.set k0 (h0, .inr (3, [.long a1, .int 0, .null, .int 0, .int 0]))) := hD
  have e_2 : (ws.set k0 (h0, .inr (3, [.long a1, .int 0, .null, .int 0, .int 0])))[k0]? = some (h0, .inr (3, [.long a1, .int 0, .null, .int 0, .int 0])) := wset_self e0
  have e_3 := set_o (z := (h0, .inr (3, [.long a1, .int 0, .null, .int 0, .int 0]))) ecd e0 (by intro h9; simp at h9)
  have hsm := hsm.set (h0, .inr (3, [.long a1, .int 0, .null, .int 0, .int 0]))
  generalize ws.set k0 (h0, .inr (3, [.long a1, .int 0, .null, .int 0, .int 0])) = ws_1 at hP hD e_2 e_3 hsm
  refine lv_aload_n hx hb dX3_init_9 rfl (lv_at hl 0 rfl) ?_
  refine lv_iload_n hx hb dX3_init_10 rfl (lv_at hl 2 rfl) ?_
  refine va_putF (D := D) (ci := 3) (v := .int a2) (ty := .int) (C := RX3) (T := TX3) (N := 5) hx hb hts hin3 tyX3 tyX3_ok nmX3 hown hK hP hD hS k0 e_2 rfl 1 (by decide) (hts (.fieldLink RX3 13 "HoneyHouse$Rule" "from" "I") (List.mem_of_getElem? (i := 5) rfl)) (fun _ h9 => h9) rfl hin rfl (tyX3_ok 1 (by decide)) rfl rfl (Nat.le_of_ble_eq_true rfl) dX3_init_11 (fun H locs hP hD hS => ?_)
  have hP : va_P D vwCl (ws_1.set k0 (h0, .inr (3, [.long a1, .int a2, .null, .int 0, .int 0]))) H := hP
  have hD : va_D A (ws_1.set k0 (h0, .inr (3, [.long a1, .int a2, .null, .int 0, .int 0]))) := hD
  have e_5 : (ws_1.set k0 (h0, .inr (3, [.long a1, .int a2, .null, .int 0, .int 0])))[k0]? = some (h0, .inr (3, [.long a1, .int a2, .null, .int 0, .int 0])) := wset_self e_2
  have e_6 := set_o (z := (h0, .inr (3, [.long a1, .int a2, .null, .int 0, .int 0]))) e_3 e_2 (by intro h9; simp at h9)
  have hsm := hsm.set (h0, .inr (3, [.long a1, .int a2, .null, .int 0, .int 0]))
  generalize ws_1.set k0 (h0, .inr (3, [.long a1, .int a2, .null, .int 0, .int 0])) = ws_4 at hP hD e_5 e_6 hsm
  refine lv_aload_n hx hb dX3_init_14 rfl (lv_at hl 0 rfl) ?_
  refine lv_aload hx hb dX3_init_15 (lv_at hl 3 rfl) ?_
  refine va_putF (D := D) (ci := 3) (v := .ref cd) (ty := .array .int) (C := RX3) (T := TX3) (N := 5) hx hb hts hin3 tyX3 tyX3_ok nmX3 hown hK hP hD hS k0 e_5 rfl 2 (by decide) (hts (.fieldLink RX3 17 "HoneyHouse$Rule" "code" "[I") (List.mem_of_getElem? (i := 6) rfl)) (fun _ h9 => h9) rfl hin rfl (tyX3_ok 2 (by decide)) rfl rfl (Nat.le_of_ble_eq_true rfl) dX3_init_17 (fun H locs hP hD hS => ?_)
  have hP : va_P D vwCl (ws_4.set k0 (h0, .inr (3, [.long a1, .int a2, .ref cd, .int 0, .int 0]))) H := hP
  have hD : va_D A (ws_4.set k0 (h0, .inr (3, [.long a1, .int a2, .ref cd, .int 0, .int 0]))) := hD
  have e_8 : (ws_4.set k0 (h0, .inr (3, [.long a1, .int a2, .ref cd, .int 0, .int 0])))[k0]? = some (h0, .inr (3, [.long a1, .int a2, .ref cd, .int 0, .int 0])) := wset_self e_5
  have e_9 := set_o (z := (h0, .inr (3, [.long a1, .int a2, .ref cd, .int 0, .int 0]))) e_6 e_5 (by intro h9; simp at h9)
  have hsm := hsm.set (h0, .inr (3, [.long a1, .int a2, .ref cd, .int 0, .int 0]))
  generalize ws_4.set k0 (h0, .inr (3, [.long a1, .int a2, .ref cd, .int 0, .int 0])) = ws_7 at hP hD e_8 e_9 hsm
  exact W.vret hx hb hr (fun t ht hW => ⟨⟨(), rfl, trivial, ws_7, tys, hsm, htx, by rw [ht]; exact hP, va_K.moved hW.alike hK, hD, ⟨k0, cd, n, a1, a2, 0, 0, e_8, ⟨kcd, ccd, tcd, fcd, e_9, ucd⟩, hn⟩⟩, hS.F ht⟩) hS.2.2 dX3_init_20
set_option maxHeartbeats 4000000 in
set_option maxRecDepth 100000 in
theorem a_copyFrom (l : Launch) (D : va_G) (ws : va_W) (tys : List (ClassId × FieldType)) (p9 kp9 p91 kp91 p92 kp92 : Nat) (cp91 cp92 : ClassId) (tp91 tp92 : Nat) (fp91 fp92 : Nat → Int32) (o ko o1 ko1 o2 ko2 : Nat) (co1 co2 : ClassId) (to1 to2 : Nat) (fo1 fo2 : Nat → Int32) (sz : Nat) (ep9 : ws[kp9]? = some (p9, .inr (5, [.ref p91, .ref p92]))) (ep91 : ws[kp91]? = some (p91, .inl (cp91, 4, .inl fp91))) (up91 : tys[tp91]? = some (cp91, .int)) (ep92 : ws[kp92]? = some (p92, .inl (cp92, 4, .inl fp92))) (up92 : tys[tp92]? = some (cp92, .int)) (eo : ws[ko]? = some (o, .inr (5, [.ref o1, .ref o2]))) (eo1 : ws[ko1]? = some (o1, .inl (co1, 4, .inl fo1))) (uo1 : tys[to1]? = some (co1, .int)) (eo2 : ws[ko2]? = some (o2, .inl (co2, 4, .inl fo2))) (uo2 : tys[to2]? = some (co2, .int)) : Met l yX5_copyFrom wsX5_copyFrom ({ frames := 1, cells := 0, slots := 0, locals := 40 }) (va_Pc [.ref p9, .ref o] (fun U => U.heap.size = sz ∧ va_P D vwCl ws U.heap ∧ va_K D vwCl tys U ∧ va_D (fun _ => True) ws)) (va_Qv (fun _ : Unit => True) (fun (_ : Unit) (t : State) => ∃ (ws' : va_W) (tys' : List (ClassId × FieldType)), sm [] ws ws' ∧ tyx tys tys' ∧ va_P D vwCl ws' t.heap ∧ va_K D vwCl tys' t ∧ va_D (va_A ws sz) ws' ∧ True) (va_A ws sz)) 0 0 (va_A ws sz) := by
  refine Met.ofW (cc := cX5_copyFrom) (maxL := 2) (ret := none) (by decide) rfl ?_
  intro p e s m args below meth c s₁ B hml hv
  obtain ⟨rfl, hsz, hP, hK, hD0⟩ := hv
  have hx := B.exec
  have hb := B.bytes
  have hr := B.returns
  have hts := atoms_spec (ws := wsX5_copyFrom) B.pre
  have hown : s.vm.findClass RX5 = some m.cls := findClass_of_methodNamed B.named
  have hlocks := B.notSynchronized
  subst hsz
  have hD := hD0.self (sz := s.heap.size)
  generalize hAe : va_A ws s.heap.size = A at hD ⊢
  have hA : ∀ q : Nat, s.heap.size ≤ q → A q := fun q h => by rw [← hAe]; exact Or.inr h
  have hS : va_S A s.heap s.heap [] := va_S.rf
  have hsm : sm [] ws ws := sm.rf ws
  have htx : tyx tys tys := tyx.rf tys
  have hin5 : ∀ w ∈ u_ws RX5 TX5 2, w ∈ wsX5_copyFrom := (fun _ h9 => List.mem_cons_of_mem _ ((List.mem_append_right _ h9)))
  have hl := lv_entry ([.ref p9, .ref o]) (n := 2) (Nat.le_of_ble_eq_true rfl)
  rw [lg_entry_eq]
  generalize (lg_sl ([.ref p9, .ref o]) ++ List.replicate (2 - (lg_sl ([.ref p9, .ref o])).length) Slot.unset).toArray = ls at hl ⊢
  have hl : lv_has ls 2 [(0, .ref p9), (1, .ref o)] := hl
  refine lv_aload_n hx hb dX5_copyFrom_0 rfl (lv_at hl 1 rfl) ?_
  refine va_get (D := D) (ci := 5) (v := .ref o1) (C := RX5) (T := TX5) (N := 2) hx hb hts hin5 hown hK hP ko eo rfl 0 (by decide) (hts (.fieldLink RX5 9 "HoneyHouse$Steps" "waters" "[I") (List.mem_of_getElem? (i := 1) rfl)) (fun _ h9 => h9) rfl dX5_copyFrom_1 ?_
  refine lv_iconst (v := 0) hx hb dX5_copyFrom_4 (by decide) ?_
  refine lv_aload_n hx hb dX5_copyFrom_5 rfl (lv_at hl 0 rfl) ?_
  refine va_get (D := D) (ci := 5) (v := .ref p91) (C := RX5) (T := TX5) (N := 2) hx hb hts hin5 hown hK hP kp9 ep9 rfl 0 (by decide) (hts (.fieldLink RX5 9 "HoneyHouse$Steps" "waters" "[I") (List.mem_of_getElem? (i := 1) rfl)) (fun _ h9 => h9) rfl dX5_copyFrom_6 ?_
  refine lv_iconst (v := 0) hx hb dX5_copyFrom_9 (by decide) ?_
  refine lv_iconst (v := 4) hx hb dX5_copyFrom_10 (by decide) ?_
  refine va_copyi (ty := .int) (f := fo1) (g := fp91) (sp := 0) (dp := 0) (n := 4) hx hb (by rw [hml]; exact hl.1.symm) hown (hts (.methodLink RX5 18 arraycopyName) (List.mem_of_getElem? (i := 2) rfl)) (hts (.native arraycopyName) (List.mem_of_getElem? (i := 3) rfl)) (hts (.static arraycopyName) (List.mem_of_getElem? (i := 4) rfl)) (hts (.initialized "java/lang/System") (List.mem_of_getElem? (i := 5) rfl)) hK hP hD hS ko1 kp91 to1 tp91 eo1 ep91 uo1 up91 rfl (by decide) (by decide) (by decide) (by decide) (by decide) (fun _ _ => rfl) (Nat.le_of_ble_eq_true rfl) (Nat.le_of_ble_eq_true rfl) dX5_copyFrom_11 (fun H locs hP hD hS => ?_)
  have hm_2 : sm [] ws (ws.set kp91 (p91, .inl (cp91, 4, .inl (va_cpy fo1 fp91 (0 : Int32).toNatClampNeg (0 : Int32).toNatClampNeg (4 : Int32).toNatClampNeg)))) := sm.ints ep91
  have e_3 : (ws.set kp91 (p91, .inl (cp91, 4, .inl (va_cpy fo1 fp91 (0 : Int32).toNatClampNeg (0 : Int32).toNatClampNeg (4 : Int32).toNatClampNeg))))[kp91]? = some (p91, .inl (cp91, 4, .inl (va_cpy fo1 fp91 (0 : Int32).toNatClampNeg (0 : Int32).toNatClampNeg (4 : Int32).toNatClampNeg))) := wset_self ep91
  generalize ws.set kp91 (p91, .inl (cp91, 4, .inl (va_cpy fo1 fp91 (0 : Int32).toNatClampNeg (0 : Int32).toNatClampNeg (4 : Int32).toNatClampNeg))) = ws_1 at hP hD hm_2 e_3
  have e_4 := hm_2.objK ep9 (by decide)
  obtain ⟨f_6, e_5⟩ := hm_2.arrI ep92
  have e_7 := hm_2.objK eo (by decide)
  obtain ⟨f_9, e_8⟩ := hm_2.arrI eo1
  obtain ⟨f_11, e_10⟩ := hm_2.arrI eo2
  have hsm := hsm.tr (hm_2.mono (fun _ h9 => absurd h9 List.not_mem_nil))
  generalize va_cpy fo1 fp91 (0 : Int32).toNatClampNeg (0 : Int32).toNatClampNeg (4 : Int32).toNatClampNeg = f_12 at e_3
  refine lv_aload_n hx hb dX5_copyFrom_14 rfl (lv_at hl 1 rfl) ?_
  refine va_get (D := D) (ci := 5) (v := .ref o2) (C := RX5) (T := TX5) (N := 2) hx hb hts hin5 hown hK hP ko e_7 rfl 1 (by decide) (hts (.fieldLink RX5 15 "HoneyHouse$Steps" "prices" "[I") (List.mem_of_getElem? (i := 6) rfl)) (fun _ h9 => h9) rfl dX5_copyFrom_15 ?_
  refine lv_iconst (v := 0) hx hb dX5_copyFrom_18 (by decide) ?_
  refine lv_aload_n hx hb dX5_copyFrom_19 rfl (lv_at hl 0 rfl) ?_
  refine va_get (D := D) (ci := 5) (v := .ref p92) (C := RX5) (T := TX5) (N := 2) hx hb hts hin5 hown hK hP kp9 e_4 rfl 1 (by decide) (hts (.fieldLink RX5 15 "HoneyHouse$Steps" "prices" "[I") (List.mem_of_getElem? (i := 6) rfl)) (fun _ h9 => h9) rfl dX5_copyFrom_20 ?_
  refine lv_iconst (v := 0) hx hb dX5_copyFrom_23 (by decide) ?_
  refine lv_iconst (v := 4) hx hb dX5_copyFrom_24 (by decide) ?_
  refine va_copyi (ty := .int) (f := f_11) (g := f_6) (sp := 0) (dp := 0) (n := 4) hx hb (by rw [hml]; exact hl.1.symm) hown (hts (.methodLink RX5 18 arraycopyName) (List.mem_of_getElem? (i := 2) rfl)) (hts (.native arraycopyName) (List.mem_of_getElem? (i := 3) rfl)) (hts (.static arraycopyName) (List.mem_of_getElem? (i := 4) rfl)) (hts (.initialized "java/lang/System") (List.mem_of_getElem? (i := 5) rfl)) hK hP hD hS ko2 kp92 to2 tp92 e_10 e_5 uo2 up92 rfl (by decide) (by decide) (by decide) (by decide) (by decide) (fun _ _ => rfl) (Nat.le_of_ble_eq_true rfl) (Nat.le_of_ble_eq_true rfl) dX5_copyFrom_25 (fun H locs hP hD hS => ?_)
  have hm_14 : sm [] ws_1 (ws_1.set kp92 (p92, .inl (cp92, 4, .inl (va_cpy f_11 f_6 (0 : Int32).toNatClampNeg (0 : Int32).toNatClampNeg (4 : Int32).toNatClampNeg)))) := sm.ints e_5
  have e_15 : (ws_1.set kp92 (p92, .inl (cp92, 4, .inl (va_cpy f_11 f_6 (0 : Int32).toNatClampNeg (0 : Int32).toNatClampNeg (4 : Int32).toNatClampNeg))))[kp92]? = some (p92, .inl (cp92, 4, .inl (va_cpy f_11 f_6 (0 : Int32).toNatClampNeg (0 : Int32).toNatClampNeg (4 : Int32).toNatClampNeg))) := wset_self e_5
  generalize ws_1.set kp92 (p92, .inl (cp92, 4, .inl (va_cpy f_11 f_6 (0 : Int32).toNatClampNeg (0 : Int32).toNatClampNeg (4 : Int32).toNatClampNeg))) = ws_13 at hP hD hm_14 e_15
  have e_16 := hm_14.objK e_4 (by decide)
  obtain ⟨f_18, e_17⟩ := hm_14.arrI e_3
  have e_19 := hm_14.objK e_7 (by decide)
  obtain ⟨f_21, e_20⟩ := hm_14.arrI e_8
  obtain ⟨f_23, e_22⟩ := hm_14.arrI e_10
  have hsm := hsm.tr (hm_14.mono (fun _ h9 => absurd h9 List.not_mem_nil))
  generalize va_cpy f_11 f_6 (0 : Int32).toNatClampNeg (0 : Int32).toNatClampNeg (4 : Int32).toNatClampNeg = f_24 at e_15
  exact W.vret hx hb hr (fun t ht hW => ⟨⟨(), rfl, trivial, ws_13, tys, hsm, htx, by rw [ht]; exact hP, va_K.moved hW.alike hK, hD, trivial⟩, hS.F ht⟩) hS.2.2 dX5_copyFrom_28
set_option maxHeartbeats 4000000 in
set_option maxRecDepth 100000 in
theorem c_X2_init (l : Launch) (D : va_G) (ws : va_W) (tys : List (ClassId × FieldType)) (h0 k0 : Nat) (a1 a2 a3 a4 a5 : Int32) (o ko o1 ko1 o2 ko2 : Nat) (co1 co2 : ClassId) (to1 to2 : Nat) (fo1 fo2 : Nat → Int32) (sz : Nat) (e0 : ws[k0]? = some (h0, .inr (2, [.int 0, .int 0, .int 0, .int 0, .null, .null, .null, .int 0, .int 0, .int 0]))) (eo : ws[ko]? = some (o, .inr (5, [.ref o1, .ref o2]))) (eo1 : ws[ko1]? = some (o1, .inl (co1, 4, .inl fo1))) (uo1 : tys[to1]? = some (co1, .int)) (eo2 : ws[ko2]? = some (o2, .inl (co2, 4, .inl fo2))) (uo2 : tys[to2]? = some (co2, .int)) : Met l yX2_init wsX2_init ({ frames := 2, cells := 5, slots := 20, locals := 61 }) (va_Pc [.ref h0, .int a1, .int a2, .int a3, .int a4, .int a5, .ref o] (fun U => U.heap.size = sz ∧ va_P D vwCl ws U.heap ∧ va_K D vwCl tys U ∧ va_D (fun _ => True) ws ∧ NZ U)) (va_Qv (fun _ : Unit => True) (fun (_ : Unit) (t : State) => ∃ (ws' : va_W) (tys' : List (ClassId × FieldType)), smp k0 [] ws ws' ∧ tyx tys tys' ∧ va_P D vwCl ws' t.heap ∧ va_K D vwCl tys' t ∧ va_D (va_A ws sz) ws' ∧ oL ws' tys' h0) (va_A ws sz)) 5 20 (va_A ws sz) := by
  refine Met.ofW (cc := cX2_init) (maxL := 7) (ret := none) (by decide) rfl ?_
  intro p e s m args below meth c s₁ B hml hv
  obtain ⟨rfl, hsz, hP, hK, hD0, hnz⟩ := hv
  have hx := B.exec
  have hb := B.bytes
  have hr := B.returns
  have hts := atoms_spec (ws := wsX2_init) B.pre
  have hown : s.vm.findClass RX2 = some m.cls := findClass_of_methodNamed B.named
  have hlocks := B.notSynchronized
  have hin : meth.name = "<init>" := (name_of_methodNamed B.named B.method).1
  subst hsz
  have hD := hD0.self (sz := s.heap.size)
  generalize hAe : va_A ws s.heap.size = A at hD ⊢
  have hA : ∀ q : Nat, s.heap.size ≤ q → A q := fun q h => by rw [← hAe]; exact Or.inr h
  have hS : va_S A s.heap s.heap [] := va_S.rf
  have hsm : smp k0 [] ws ws := smp.rf ws
  have htx : tyx tys tys := tyx.rf tys
  have hin2 : ∀ w ∈ u_ws RX2 TX2 10, w ∈ wsX2_init := (fun _ h9 => List.mem_cons_of_mem _ (List.mem_append_left _ ((List.mem_append_right _ h9))))
  have hin5 : ∀ w ∈ u_ws RX5 TX5 2, w ∈ wsX2_init := (fun _ h9 => List.mem_cons_of_mem _ ((List.mem_append_right _ h9)))
  have hl := lv_entry ([.ref h0, .int a1, .int a2, .int a3, .int a4, .int a5, .ref o]) (n := 7) (Nat.le_of_ble_eq_true rfl)
  rw [lg_entry_eq]
  generalize (lg_sl ([.ref h0, .int a1, .int a2, .int a3, .int a4, .int a5, .ref o]) ++ List.replicate (7 - (lg_sl ([.ref h0, .int a1, .int a2, .int a3, .int a4, .int a5, .ref o])).length) Slot.unset).toArray = ls at hl ⊢
  have hl : lv_has ls 7 [(0, .ref h0), (1, .int a1), (2, .int a2), (3, .int a3), (4, .int a4), (5, .int a5), (6, .ref o)] := hl
  refine lv_aload_n hx hb dX2_init_0 rfl (lv_at hl 0 rfl) ?_
  refine W.objInit hx hb hown (hts (.methodLink RX2 3 objectInit) (List.mem_of_getElem? (i := 1) rfl)) (hts (.instanceMethod objectInit) (List.mem_of_getElem? (i := 2) rfl)) (hts (.code objectInit ⟨#[0xb1]⟩ 1 none) (List.mem_of_getElem? (i := 3) rfl)) rfl (by rw [hml]; exact hl.1) rfl dX2_init_1 (Nat.le_of_ble_eq_true rfl) (Nat.le_of_ble_eq_true rfl) ?_
  refine W.eq (g2 := F0 m 4 ls []) rfl ?_
  refine lv_aload_n hx hb dX2_init_4 rfl (lv_at hl 0 rfl) ?_
  refine lv_iconst (v := 5) hx hb dX2_init_5 (by decide) ?_
  refine va_newa (atype := .int) (ty := .int) (a0 := (5, .inl (fun _ => 0))) (N' := 5) hx hb (hts (.arrayClass .int) (List.mem_of_getElem? (i := 4) rfl)) rfl hK hP hD hS hA (fun _ => rfl) (by decide) (by decide) (by decide) (Nat.le_of_ble_eq_true rfl) (Nat.le_of_ble_eq_true rfl) dX2_init_6 (fun q_1 y_2 H hK hP hD hS => ?_)
  have ht_4 : tyx tys (tys ++ [(y_2, .int)]) := tyx.app _ _
  have u_5 : (tys ++ [(y_2, .int)])[tys.length]? = some (y_2, .int) := ap_ty _ _
  generalize tys ++ [(y_2, .int)] = ty_3 at hK ht_4 u_5
  have htx := htx.tr ht_4
  have le_6 := hsm.1
  have hP : va_P D vwCl (ws ++ [(q_1, .inl (y_2, 5, .inl (fun _ => 0)))]) H := hP
  have hD : va_D A (ws ++ [(q_1, .inl (y_2, 5, .inl (fun _ => 0)))]) := hD
  have hm_8 : sm [] ws (ws ++ [(q_1, .inl (y_2, 5, .inl (fun _ => 0)))]) := sm.app _ _ _
  have e_9 : (ws ++ [(q_1, .inl (y_2, 5, .inl (fun _ => 0)))])[ws.length]? = some (q_1, .inl (y_2, 5, .inl (fun _ => 0))) := ap_new _ _
  generalize ws ++ [(q_1, .inl (y_2, 5, .inl (fun _ => 0)))] = ws_7 at hP hD hm_8 e_9
  have e_10 := hm_8.objK e0 (by decide)
  have e_11 := hm_8.objK eo (by decide)
  obtain ⟨f_13, e_12⟩ := hm_8.arrI eo1
  have u_14 := ht_4 _ _ uo1
  obtain ⟨f_16, e_15⟩ := hm_8.arrI eo2
  have u_17 := ht_4 _ _ uo2
  have hsm := hsm.tr (hm_8.mono (fun _ h9 => absurd h9 List.not_mem_nil))
  refine W.widen (k := 1) (n := 5) (by omega) (by omega) ?_
  refine va_putF (D := D) (ci := 2) (v := .ref q_1) (ty := .array .int) (C := RX2) (T := TX2) (N := 10) hx hb hts hin2 tyX2 tyX2_ok nmX2 hown hK hP hD hS k0 e_10 rfl 4 (by decide) (hts (.fieldLink RX2 9 "HoneyHouse$Lot" "low" "[I") (List.mem_of_getElem? (i := 5) rfl)) (fun _ h9 => h9) rfl hin rfl (tyX2_ok 4 (by decide)) rfl rfl (Nat.le_of_ble_eq_true rfl) dX2_init_8 (fun H locs hP hD hS => ?_)
  have hP : va_P D vwCl (ws_7.set k0 (h0, .inr (2, [.int 0, .int 0, .int 0, .int 0, .ref q_1, .null, .null, .int 0, .int 0, .int 0]))) H := hP
  have hD : va_D A (ws_7.set k0 (h0, .inr (2, [.int 0, .int 0, .int 0, .int 0, .ref q_1, .null, .null, .int 0, .int 0, .int 0]))) := hD
  have e_20 : (ws_7.set k0 (h0, .inr (2, [.int 0, .int 0, .int 0, .int 0, .ref q_1, .null, .null, .int 0, .int 0, .int 0])))[k0]? = some (h0, .inr (2, [.int 0, .int 0, .int 0, .int 0, .ref q_1, .null, .null, .int 0, .int 0, .int 0])) := wset_self e_10
  have e_21 := set_o (z := (h0, .inr (2, [.int 0, .int 0, .int 0, .int 0, .ref q_1, .null, .null, .int 0, .int 0, .int 0]))) e_11 e_10 (by intro h9; simp at h9)
  have e_22 := set_o (z := (h0, .inr (2, [.int 0, .int 0, .int 0, .int 0, .ref q_1, .null, .null, .int 0, .int 0, .int 0]))) e_12 e_10 (by intro h9; simp at h9)
  have e_23 := set_o (z := (h0, .inr (2, [.int 0, .int 0, .int 0, .int 0, .ref q_1, .null, .null, .int 0, .int 0, .int 0]))) e_15 e_10 (by intro h9; simp at h9)
  have e_24 := set_o (z := (h0, .inr (2, [.int 0, .int 0, .int 0, .int 0, .ref q_1, .null, .null, .int 0, .int 0, .int 0]))) e_9 e_10 (by intro h9; simp at h9)
  have hsm := hsm.set (h0, .inr (2, [.int 0, .int 0, .int 0, .int 0, .ref q_1, .null, .null, .int 0, .int 0, .int 0]))
  generalize ws_7.set k0 (h0, .inr (2, [.int 0, .int 0, .int 0, .int 0, .ref q_1, .null, .null, .int 0, .int 0, .int 0])) = ws_19 at hP hD e_20 e_21 e_22 e_23 e_24 hsm
  refine lv_aload_n hx hb dX2_init_11 rfl (lv_at hl 0 rfl) ?_
  refine lv_iconst (v := 5) hx hb dX2_init_12 (by decide) ?_
  refine va_newa (atype := .int) (ty := .int) (a0 := (5, .inl (fun _ => 0))) (N' := 5) hx hb (hts (.arrayClass .int) (List.mem_of_getElem? (i := 4) rfl)) rfl hK hP hD hS hA (fun _ => rfl) (by decide) (by decide) (by decide) (Nat.le_of_ble_eq_true rfl) (Nat.le_of_ble_eq_true rfl) dX2_init_13 (fun q_25 y_26 H hK hP hD hS => ?_)
  have ht_28 : tyx ty_3 (ty_3 ++ [(y_26, .int)]) := tyx.app _ _
  have u_29 : (ty_3 ++ [(y_26, .int)])[ty_3.length]? = some (y_26, .int) := ap_ty _ _
  generalize ty_3 ++ [(y_26, .int)] = ty_27 at hK ht_28 u_29
  have htx := htx.tr ht_28
  have le_30 := hsm.1
  have hP : va_P D vwCl (ws_19 ++ [(q_25, .inl (y_26, 5, .inl (fun _ => 0)))]) H := hP
  have hD : va_D A (ws_19 ++ [(q_25, .inl (y_26, 5, .inl (fun _ => 0)))]) := hD
  have hm_32 : sm [] ws_19 (ws_19 ++ [(q_25, .inl (y_26, 5, .inl (fun _ => 0)))]) := sm.app _ _ _
  have e_33 : (ws_19 ++ [(q_25, .inl (y_26, 5, .inl (fun _ => 0)))])[ws_19.length]? = some (q_25, .inl (y_26, 5, .inl (fun _ => 0))) := ap_new _ _
  generalize ws_19 ++ [(q_25, .inl (y_26, 5, .inl (fun _ => 0)))] = ws_31 at hP hD hm_32 e_33
  have e_34 := hm_32.objK e_20 (by decide)
  have e_35 := hm_32.objK e_21 (by decide)
  obtain ⟨f_37, e_36⟩ := hm_32.arrI e_22
  have u_38 := ht_28 _ _ u_14
  obtain ⟨f_40, e_39⟩ := hm_32.arrI e_23
  have u_41 := ht_28 _ _ u_17
  obtain ⟨f_43, e_42⟩ := hm_32.arrI e_24
  have u_44 := ht_28 _ _ u_5
  have hsm := hsm.tr (hm_32.mono (fun _ h9 => absurd h9 List.not_mem_nil))
  refine W.widen (k := 2) (n := 10) (by omega) (by omega) ?_
  refine va_putF (D := D) (ci := 2) (v := .ref q_25) (ty := .array .int) (C := RX2) (T := TX2) (N := 10) hx hb hts hin2 tyX2 tyX2_ok nmX2 hown hK hP hD hS k0 e_34 rfl 5 (by decide) (hts (.fieldLink RX2 15 "HoneyHouse$Lot" "high" "[I") (List.mem_of_getElem? (i := 6) rfl)) (fun _ h9 => h9) rfl hin rfl (tyX2_ok 5 (by decide)) rfl rfl (Nat.le_of_ble_eq_true rfl) dX2_init_15 (fun H locs hP hD hS => ?_)
  have hP : va_P D vwCl (ws_31.set k0 (h0, .inr (2, [.int 0, .int 0, .int 0, .int 0, .ref q_1, .ref q_25, .null, .int 0, .int 0, .int 0]))) H := hP
  have hD : va_D A (ws_31.set k0 (h0, .inr (2, [.int 0, .int 0, .int 0, .int 0, .ref q_1, .ref q_25, .null, .int 0, .int 0, .int 0]))) := hD
  have e_47 : (ws_31.set k0 (h0, .inr (2, [.int 0, .int 0, .int 0, .int 0, .ref q_1, .ref q_25, .null, .int 0, .int 0, .int 0])))[k0]? = some (h0, .inr (2, [.int 0, .int 0, .int 0, .int 0, .ref q_1, .ref q_25, .null, .int 0, .int 0, .int 0])) := wset_self e_34
  have e_48 := set_o (z := (h0, .inr (2, [.int 0, .int 0, .int 0, .int 0, .ref q_1, .ref q_25, .null, .int 0, .int 0, .int 0]))) e_35 e_34 (by intro h9; simp at h9)
  have e_49 := set_o (z := (h0, .inr (2, [.int 0, .int 0, .int 0, .int 0, .ref q_1, .ref q_25, .null, .int 0, .int 0, .int 0]))) e_36 e_34 (by intro h9; simp at h9)
  have e_50 := set_o (z := (h0, .inr (2, [.int 0, .int 0, .int 0, .int 0, .ref q_1, .ref q_25, .null, .int 0, .int 0, .int 0]))) e_39 e_34 (by intro h9; simp at h9)
  have e_51 := set_o (z := (h0, .inr (2, [.int 0, .int 0, .int 0, .int 0, .ref q_1, .ref q_25, .null, .int 0, .int 0, .int 0]))) e_42 e_34 (by intro h9; simp at h9)
  have e_52 := set_o (z := (h0, .inr (2, [.int 0, .int 0, .int 0, .int 0, .ref q_1, .ref q_25, .null, .int 0, .int 0, .int 0]))) e_33 e_34 (by intro h9; simp at h9)
  have hsm := hsm.set (h0, .inr (2, [.int 0, .int 0, .int 0, .int 0, .ref q_1, .ref q_25, .null, .int 0, .int 0, .int 0]))
  generalize ws_31.set k0 (h0, .inr (2, [.int 0, .int 0, .int 0, .int 0, .ref q_1, .ref q_25, .null, .int 0, .int 0, .int 0])) = ws_46 at hP hD e_47 e_48 e_49 e_50 e_51 e_52 hsm
  refine lv_aload_n hx hb dX2_init_18 rfl (lv_at hl 0 rfl) ?_
  refine va_new (ci := 5) (fs := [.null, .null]) (C := RX5) (T := TX5) (N := 2) hx hb hts hin5 tyX5 tyX5_ok hown (hts (.classLink RX2 18 RX5) (List.mem_of_getElem? (i := 7) rfl)) (hts (.instantiable RX5 2) (List.mem_of_getElem? (i := 8) rfl)) (hts (.initialized RX5) (List.mem_of_getElem? (i := 9) rfl)) hK hP hD hS hA rfl (fun j hj => by rcases (show j = 0 ∨ j = 1 by omega) with rfl | rfl <;> rfl) (Nat.le_of_ble_eq_true rfl) (Nat.le_of_ble_eq_true rfl) dX2_init_19 (fun q_53 H hP hD hS => ?_)
  have le_54 := hsm.1
  have hP : va_P D vwCl (ws_46 ++ [(q_53, .inr (5, [.null, .null]))]) H := hP
  have hD : va_D A (ws_46 ++ [(q_53, .inr (5, [.null, .null]))]) := hD
  have hm_56 : sm [] ws_46 (ws_46 ++ [(q_53, .inr (5, [.null, .null]))]) := sm.app _ _ _
  have e_57 : (ws_46 ++ [(q_53, .inr (5, [.null, .null]))])[ws_46.length]? = some (q_53, .inr (5, [.null, .null])) := ap_new _ _
  generalize ws_46 ++ [(q_53, .inr (5, [.null, .null]))] = ws_55 at hP hD hm_56 e_57
  have e_58 := hm_56.objK e_47 (by decide)
  have e_59 := hm_56.objK e_48 (by decide)
  obtain ⟨f_61, e_60⟩ := hm_56.arrI e_49
  obtain ⟨f_63, e_62⟩ := hm_56.arrI e_50
  obtain ⟨f_65, e_64⟩ := hm_56.arrI e_51
  obtain ⟨f_67, e_66⟩ := hm_56.arrI e_52
  have hsm := hsm.tr (hm_56.mono (fun _ h9 => absurd h9 List.not_mem_nil))
  refine W.widen (k := 3) (n := 12) (by omega) (by omega) ?_
  refine lv_dup hx hb dX2_init_22 rfl ?_
  have hFc := free_all hD hS hA
  refine va_callv (va_runIN (As := []) (rest := [.ref q_53, .ref h0]) ⟨hx, hb, hml, hown, hts⟩ (c_X5_init l D ws_55 ty_27 q_53 ws_46.length H.size e_57) ⟨va_cnB 0 hts gX2_init_X5_init_n20 rfl rfl rfl hnz.1 (hts (.initialized RX5) (List.mem_of_getElem? (i := 9) rfl)) (by decide +kernel) ⟨Nat.le_of_ble_eq_true rfl, Nat.le_of_ble_eq_true rfl⟩, rfl, (hts (.instanceMethod yX5_init) (List.mem_of_getElem? (i := 18) rfl))⟩ ⟨fun a U g mk q => by obtain ⟨q0, q1, qP, qK, qD⟩ := q; exact ⟨q0, q1, qP, va_K.moved (u := U) (U := U.calling g mk a) (Vm.Alike.refl U.vm) qK, qD⟩, fun U hU hW => ⟨rfl, by rw [hU], by rw [hU]; exact hP, va_K.moved hW.alike hK, hD.weaken (fun _ _ _ _ => trivial)⟩⟩ rfl rfl hl.1 rfl (lv_room (Nat.le_of_ble_eq_true rfl)) dX2_init_23 ⟨Nat.le_of_ble_eq_true rfl, Nat.le_of_ble_eq_true rfl⟩) hS (fun q _ h => hFc q h) hFc (fun u t H1 locs ht hvm w_68 hB hz1 hk1 hS => ?_)
  obtain ⟨ws_69, ty_70, hm_71, ht_73, hP1, hK1, hD1, hx_72⟩ := hB
  rw [ht] at hP1
  have hK := va_K.moved hvm.symm hK1
  have hD := hD1.weaken (fun _ _ _ h => hFc _ h)
  generalize H1 = H at hP1 hS ⊢
  have hP := hP1
  have e_74 := hm_71.objK (pl_ne e_58 e_57 (by intro h9; simp at h9)) e_58 (by decide)
  have e_75 := hm_71.objK (pl_ne e_59 e_57 (by intro h9; simp at h9)) e_59 (by decide)
  obtain ⟨f_77, e_76⟩ := hm_71.arrI (pl_ne e_60 e_57 (by intro h9; simp at h9)) e_60
  have u_78 := ht_73 _ _ u_38
  obtain ⟨f_80, e_79⟩ := hm_71.arrI (pl_ne e_62 e_57 (by intro h9; simp at h9)) e_62
  have u_81 := ht_73 _ _ u_41
  obtain ⟨f_83, e_82⟩ := hm_71.arrI (pl_ne e_64 e_57 (by intro h9; simp at h9)) e_64
  have u_84 := ht_73 _ _ u_44
  obtain ⟨f_86, e_85⟩ := hm_71.arrI (pl_ne e_66 e_57 (by intro h9; simp at h9)) e_66
  have u_87 := ht_73 _ _ u_29
  have hsm := hsm.trk (hm_71.mono (fun _ h9 => absurd h9 List.not_mem_nil)) le_54
  have htx := htx.tr ht_73
  refine W.widen (k := 5) (n := 20) (by omega) (by omega) ?_
  obtain ⟨k_88, g_89, g_90, e_91, ⟨k_92, c9_93, t_94, f_95, e_96, u_97⟩, k_98, c9_99, t_100, f_101, e_102, u_103⟩ := hx_72
  refine va_putF (D := D) (ci := 2) (v := .ref q_53) (ty := .object "HoneyHouse$Steps") (C := RX2) (T := TX2) (N := 10) hx hb hts hin2 tyX2 tyX2_ok nmX2 hown hK hP hD hS k0 e_74 rfl 6 (by decide) (hts (.fieldLink RX2 21 "HoneyHouse$Lot" "steps" "LHoneyHouse$Steps;") (List.mem_of_getElem? (i := 10) rfl)) (fun _ h9 => h9) rfl hin rfl (tyX2_ok 6 (by decide)) rfl rfl (Nat.le_of_ble_eq_true rfl) dX2_init_26 (fun H locs hP hD hS => ?_)
  have hP : va_P D vwCl (ws_69.set k0 (h0, .inr (2, [.int 0, .int 0, .int 0, .int 0, .ref q_1, .ref q_25, .ref q_53, .int 0, .int 0, .int 0]))) H := hP
  have hD : va_D A (ws_69.set k0 (h0, .inr (2, [.int 0, .int 0, .int 0, .int 0, .ref q_1, .ref q_25, .ref q_53, .int 0, .int 0, .int 0]))) := hD
  have e_105 : (ws_69.set k0 (h0, .inr (2, [.int 0, .int 0, .int 0, .int 0, .ref q_1, .ref q_25, .ref q_53, .int 0, .int 0, .int 0])))[k0]? = some (h0, .inr (2, [.int 0, .int 0, .int 0, .int 0, .ref q_1, .ref q_25, .ref q_53, .int 0, .int 0, .int 0])) := wset_self e_74
  have e_106 := set_o (z := (h0, .inr (2, [.int 0, .int 0, .int 0, .int 0, .ref q_1, .ref q_25, .ref q_53, .int 0, .int 0, .int 0]))) e_75 e_74 (by intro h9; simp at h9)
  have e_107 := set_o (z := (h0, .inr (2, [.int 0, .int 0, .int 0, .int 0, .ref q_1, .ref q_25, .ref q_53, .int 0, .int 0, .int 0]))) e_76 e_74 (by intro h9; simp at h9)
  have e_108 := set_o (z := (h0, .inr (2, [.int 0, .int 0, .int 0, .int 0, .ref q_1, .ref q_25, .ref q_53, .int 0, .int 0, .int 0]))) e_79 e_74 (by intro h9; simp at h9)
  have e_109 := set_o (z := (h0, .inr (2, [.int 0, .int 0, .int 0, .int 0, .ref q_1, .ref q_25, .ref q_53, .int 0, .int 0, .int 0]))) e_82 e_74 (by intro h9; simp at h9)
  have e_110 := set_o (z := (h0, .inr (2, [.int 0, .int 0, .int 0, .int 0, .ref q_1, .ref q_25, .ref q_53, .int 0, .int 0, .int 0]))) e_85 e_74 (by intro h9; simp at h9)
  have e_111 := set_o (z := (h0, .inr (2, [.int 0, .int 0, .int 0, .int 0, .ref q_1, .ref q_25, .ref q_53, .int 0, .int 0, .int 0]))) e_91 e_74 (by intro h9; simp at h9)
  have e_112 := set_o (z := (h0, .inr (2, [.int 0, .int 0, .int 0, .int 0, .ref q_1, .ref q_25, .ref q_53, .int 0, .int 0, .int 0]))) e_96 e_74 (by intro h9; simp at h9)
  have e_113 := set_o (z := (h0, .inr (2, [.int 0, .int 0, .int 0, .int 0, .ref q_1, .ref q_25, .ref q_53, .int 0, .int 0, .int 0]))) e_102 e_74 (by intro h9; simp at h9)
  have hsm := hsm.set (h0, .inr (2, [.int 0, .int 0, .int 0, .int 0, .ref q_1, .ref q_25, .ref q_53, .int 0, .int 0, .int 0]))
  generalize ws_69.set k0 (h0, .inr (2, [.int 0, .int 0, .int 0, .int 0, .ref q_1, .ref q_25, .ref q_53, .int 0, .int 0, .int 0])) = ws_104 at hP hD e_105 e_106 e_107 e_108 e_109 e_110 e_111 e_112 e_113 hsm
  refine lv_aload_n hx hb dX2_init_29 rfl (lv_at hl 0 rfl) ?_
  refine lv_iload_n hx hb dX2_init_30 rfl (lv_at hl 1 rfl) ?_
  refine va_putF (D := D) (ci := 2) (v := .int a1) (ty := .int) (C := RX2) (T := TX2) (N := 10) hx hb hts hin2 tyX2 tyX2_ok nmX2 hown hK hP hD hS k0 e_105 rfl 0 (by decide) (hts (.fieldLink RX2 25 "HoneyHouse$Lot" "keeper" "I") (List.mem_of_getElem? (i := 11) rfl)) (fun _ h9 => h9) rfl hin rfl (tyX2_ok 0 (by decide)) rfl rfl (Nat.le_of_ble_eq_true rfl) dX2_init_31 (fun H locs hP hD hS => ?_)
  have hP : va_P D vwCl (ws_104.set k0 (h0, .inr (2, [.int a1, .int 0, .int 0, .int 0, .ref q_1, .ref q_25, .ref q_53, .int 0, .int 0, .int 0]))) H := hP
  have hD : va_D A (ws_104.set k0 (h0, .inr (2, [.int a1, .int 0, .int 0, .int 0, .ref q_1, .ref q_25, .ref q_53, .int 0, .int 0, .int 0]))) := hD
  have e_115 : (ws_104.set k0 (h0, .inr (2, [.int a1, .int 0, .int 0, .int 0, .ref q_1, .ref q_25, .ref q_53, .int 0, .int 0, .int 0])))[k0]? = some (h0, .inr (2, [.int a1, .int 0, .int 0, .int 0, .ref q_1, .ref q_25, .ref q_53, .int 0, .int 0, .int 0])) := wset_self e_105
  have e_116 := set_o (z := (h0, .inr (2, [.int a1, .int 0, .int 0, .int 0, .ref q_1, .ref q_25, .ref q_53, .int 0, .int 0, .int 0]))) e_106 e_105 (by intro h9; simp at h9)
  have e_117 := set_o (z := (h0, .inr (2, [.int a1, .int 0, .int 0, .int 0, .ref q_1, .ref q_25, .ref q_53, .int 0, .int 0, .int 0]))) e_107 e_105 (by intro h9; simp at h9)
  have e_118 := set_o (z := (h0, .inr (2, [.int a1, .int 0, .int 0, .int 0, .ref q_1, .ref q_25, .ref q_53, .int 0, .int 0, .int 0]))) e_108 e_105 (by intro h9; simp at h9)
  have e_119 := set_o (z := (h0, .inr (2, [.int a1, .int 0, .int 0, .int 0, .ref q_1, .ref q_25, .ref q_53, .int 0, .int 0, .int 0]))) e_109 e_105 (by intro h9; simp at h9)
  have e_120 := set_o (z := (h0, .inr (2, [.int a1, .int 0, .int 0, .int 0, .ref q_1, .ref q_25, .ref q_53, .int 0, .int 0, .int 0]))) e_110 e_105 (by intro h9; simp at h9)
  have e_121 := set_o (z := (h0, .inr (2, [.int a1, .int 0, .int 0, .int 0, .ref q_1, .ref q_25, .ref q_53, .int 0, .int 0, .int 0]))) e_111 e_105 (by intro h9; simp at h9)
  have e_122 := set_o (z := (h0, .inr (2, [.int a1, .int 0, .int 0, .int 0, .ref q_1, .ref q_25, .ref q_53, .int 0, .int 0, .int 0]))) e_112 e_105 (by intro h9; simp at h9)
  have e_123 := set_o (z := (h0, .inr (2, [.int a1, .int 0, .int 0, .int 0, .ref q_1, .ref q_25, .ref q_53, .int 0, .int 0, .int 0]))) e_113 e_105 (by intro h9; simp at h9)
  have hsm := hsm.set (h0, .inr (2, [.int a1, .int 0, .int 0, .int 0, .ref q_1, .ref q_25, .ref q_53, .int 0, .int 0, .int 0]))
  generalize ws_104.set k0 (h0, .inr (2, [.int a1, .int 0, .int 0, .int 0, .ref q_1, .ref q_25, .ref q_53, .int 0, .int 0, .int 0])) = ws_114 at hP hD e_115 e_116 e_117 e_118 e_119 e_120 e_121 e_122 e_123 hsm
  refine lv_aload_n hx hb dX2_init_34 rfl (lv_at hl 0 rfl) ?_
  refine lv_iload_n hx hb dX2_init_35 rfl (lv_at hl 2 rfl) ?_
  refine va_putF (D := D) (ci := 2) (v := .int a2) (ty := .int) (C := RX2) (T := TX2) (N := 10) hx hb hts hin2 tyX2 tyX2_ok nmX2 hown hK hP hD hS k0 e_115 rfl 1 (by decide) (hts (.fieldLink RX2 29 "HoneyHouse$Lot" "grams" "I") (List.mem_of_getElem? (i := 12) rfl)) (fun _ h9 => h9) rfl hin rfl (tyX2_ok 1 (by decide)) rfl rfl (Nat.le_of_ble_eq_true rfl) dX2_init_36 (fun H locs hP hD hS => ?_)
  have hP : va_P D vwCl (ws_114.set k0 (h0, .inr (2, [.int a1, .int a2, .int 0, .int 0, .ref q_1, .ref q_25, .ref q_53, .int 0, .int 0, .int 0]))) H := hP
  have hD : va_D A (ws_114.set k0 (h0, .inr (2, [.int a1, .int a2, .int 0, .int 0, .ref q_1, .ref q_25, .ref q_53, .int 0, .int 0, .int 0]))) := hD
  have e_125 : (ws_114.set k0 (h0, .inr (2, [.int a1, .int a2, .int 0, .int 0, .ref q_1, .ref q_25, .ref q_53, .int 0, .int 0, .int 0])))[k0]? = some (h0, .inr (2, [.int a1, .int a2, .int 0, .int 0, .ref q_1, .ref q_25, .ref q_53, .int 0, .int 0, .int 0])) := wset_self e_115
  have e_126 := set_o (z := (h0, .inr (2, [.int a1, .int a2, .int 0, .int 0, .ref q_1, .ref q_25, .ref q_53, .int 0, .int 0, .int 0]))) e_116 e_115 (by intro h9; simp at h9)
  have e_127 := set_o (z := (h0, .inr (2, [.int a1, .int a2, .int 0, .int 0, .ref q_1, .ref q_25, .ref q_53, .int 0, .int 0, .int 0]))) e_117 e_115 (by intro h9; simp at h9)
  have e_128 := set_o (z := (h0, .inr (2, [.int a1, .int a2, .int 0, .int 0, .ref q_1, .ref q_25, .ref q_53, .int 0, .int 0, .int 0]))) e_118 e_115 (by intro h9; simp at h9)
  have e_129 := set_o (z := (h0, .inr (2, [.int a1, .int a2, .int 0, .int 0, .ref q_1, .ref q_25, .ref q_53, .int 0, .int 0, .int 0]))) e_119 e_115 (by intro h9; simp at h9)
  have e_130 := set_o (z := (h0, .inr (2, [.int a1, .int a2, .int 0, .int 0, .ref q_1, .ref q_25, .ref q_53, .int 0, .int 0, .int 0]))) e_120 e_115 (by intro h9; simp at h9)
  have e_131 := set_o (z := (h0, .inr (2, [.int a1, .int a2, .int 0, .int 0, .ref q_1, .ref q_25, .ref q_53, .int 0, .int 0, .int 0]))) e_121 e_115 (by intro h9; simp at h9)
  have e_132 := set_o (z := (h0, .inr (2, [.int a1, .int a2, .int 0, .int 0, .ref q_1, .ref q_25, .ref q_53, .int 0, .int 0, .int 0]))) e_122 e_115 (by intro h9; simp at h9)
  have e_133 := set_o (z := (h0, .inr (2, [.int a1, .int a2, .int 0, .int 0, .ref q_1, .ref q_25, .ref q_53, .int 0, .int 0, .int 0]))) e_123 e_115 (by intro h9; simp at h9)
  have hsm := hsm.set (h0, .inr (2, [.int a1, .int a2, .int 0, .int 0, .ref q_1, .ref q_25, .ref q_53, .int 0, .int 0, .int 0]))
  generalize ws_114.set k0 (h0, .inr (2, [.int a1, .int a2, .int 0, .int 0, .ref q_1, .ref q_25, .ref q_53, .int 0, .int 0, .int 0])) = ws_124 at hP hD e_125 e_126 e_127 e_128 e_129 e_130 e_131 e_132 e_133 hsm
  refine lv_aload_n hx hb dX2_init_39 rfl (lv_at hl 0 rfl) ?_
  refine lv_iload_n hx hb dX2_init_40 rfl (lv_at hl 3 rfl) ?_
  refine va_put (D := D) (ci := 2) (v := .int a3) (ty := .int) (C := RX2) (T := TX2) (N := 10) hx hb hts hin2 tyX2 tyX2_ok nmX2 hown hK hP hD hS k0 e_125 rfl 7 (by decide) (hts (.fieldLink RX2 32 "HoneyHouse$Lot" "water" "I") (List.mem_of_getElem? (i := 13) rfl)) (fun _ h9 => h9) rfl (tyX2_ok 7 (by decide)) rfl rfl (Nat.le_of_ble_eq_true rfl) dX2_init_41 (fun H locs hP hD hS => ?_)
  have hP : va_P D vwCl (ws_124.set k0 (h0, .inr (2, [.int a1, .int a2, .int 0, .int 0, .ref q_1, .ref q_25, .ref q_53, .int a3, .int 0, .int 0]))) H := hP
  have hD : va_D A (ws_124.set k0 (h0, .inr (2, [.int a1, .int a2, .int 0, .int 0, .ref q_1, .ref q_25, .ref q_53, .int a3, .int 0, .int 0]))) := hD
  have e_135 : (ws_124.set k0 (h0, .inr (2, [.int a1, .int a2, .int 0, .int 0, .ref q_1, .ref q_25, .ref q_53, .int a3, .int 0, .int 0])))[k0]? = some (h0, .inr (2, [.int a1, .int a2, .int 0, .int 0, .ref q_1, .ref q_25, .ref q_53, .int a3, .int 0, .int 0])) := wset_self e_125
  have e_136 := set_o (z := (h0, .inr (2, [.int a1, .int a2, .int 0, .int 0, .ref q_1, .ref q_25, .ref q_53, .int a3, .int 0, .int 0]))) e_126 e_125 (by intro h9; simp at h9)
  have e_137 := set_o (z := (h0, .inr (2, [.int a1, .int a2, .int 0, .int 0, .ref q_1, .ref q_25, .ref q_53, .int a3, .int 0, .int 0]))) e_127 e_125 (by intro h9; simp at h9)
  have e_138 := set_o (z := (h0, .inr (2, [.int a1, .int a2, .int 0, .int 0, .ref q_1, .ref q_25, .ref q_53, .int a3, .int 0, .int 0]))) e_128 e_125 (by intro h9; simp at h9)
  have e_139 := set_o (z := (h0, .inr (2, [.int a1, .int a2, .int 0, .int 0, .ref q_1, .ref q_25, .ref q_53, .int a3, .int 0, .int 0]))) e_129 e_125 (by intro h9; simp at h9)
  have e_140 := set_o (z := (h0, .inr (2, [.int a1, .int a2, .int 0, .int 0, .ref q_1, .ref q_25, .ref q_53, .int a3, .int 0, .int 0]))) e_130 e_125 (by intro h9; simp at h9)
  have e_141 := set_o (z := (h0, .inr (2, [.int a1, .int a2, .int 0, .int 0, .ref q_1, .ref q_25, .ref q_53, .int a3, .int 0, .int 0]))) e_131 e_125 (by intro h9; simp at h9)
  have e_142 := set_o (z := (h0, .inr (2, [.int a1, .int a2, .int 0, .int 0, .ref q_1, .ref q_25, .ref q_53, .int a3, .int 0, .int 0]))) e_132 e_125 (by intro h9; simp at h9)
  have e_143 := set_o (z := (h0, .inr (2, [.int a1, .int a2, .int 0, .int 0, .ref q_1, .ref q_25, .ref q_53, .int a3, .int 0, .int 0]))) e_133 e_125 (by intro h9; simp at h9)
  have hsm := hsm.set (h0, .inr (2, [.int a1, .int a2, .int 0, .int 0, .ref q_1, .ref q_25, .ref q_53, .int a3, .int 0, .int 0]))
  generalize ws_124.set k0 (h0, .inr (2, [.int a1, .int a2, .int 0, .int 0, .ref q_1, .ref q_25, .ref q_53, .int a3, .int 0, .int 0])) = ws_134 at hP hD e_135 e_136 e_137 e_138 e_139 e_140 e_141 e_142 e_143 hsm
  refine lv_aload_n hx hb dX2_init_44 rfl (lv_at hl 0 rfl) ?_
  refine lv_iload hx hb dX2_init_45 (lv_at hl 4 rfl) ?_
  refine va_putF (D := D) (ci := 2) (v := .int a4) (ty := .int) (C := RX2) (T := TX2) (N := 10) hx hb hts hin2 tyX2 tyX2_ok nmX2 hown hK hP hD hS k0 e_135 rfl 2 (by decide) (hts (.fieldLink RX2 35 "HoneyHouse$Lot" "colour" "I") (List.mem_of_getElem? (i := 14) rfl)) (fun _ h9 => h9) rfl hin rfl (tyX2_ok 2 (by decide)) rfl rfl (Nat.le_of_ble_eq_true rfl) dX2_init_47 (fun H locs hP hD hS => ?_)
  have hP : va_P D vwCl (ws_134.set k0 (h0, .inr (2, [.int a1, .int a2, .int a4, .int 0, .ref q_1, .ref q_25, .ref q_53, .int a3, .int 0, .int 0]))) H := hP
  have hD : va_D A (ws_134.set k0 (h0, .inr (2, [.int a1, .int a2, .int a4, .int 0, .ref q_1, .ref q_25, .ref q_53, .int a3, .int 0, .int 0]))) := hD
  have e_145 : (ws_134.set k0 (h0, .inr (2, [.int a1, .int a2, .int a4, .int 0, .ref q_1, .ref q_25, .ref q_53, .int a3, .int 0, .int 0])))[k0]? = some (h0, .inr (2, [.int a1, .int a2, .int a4, .int 0, .ref q_1, .ref q_25, .ref q_53, .int a3, .int 0, .int 0])) := wset_self e_135
  have e_146 := set_o (z := (h0, .inr (2, [.int a1, .int a2, .int a4, .int 0, .ref q_1, .ref q_25, .ref q_53, .int a3, .int 0, .int 0]))) e_136 e_135 (by intro h9; simp at h9)
  have e_147 := set_o (z := (h0, .inr (2, [.int a1, .int a2, .int a4, .int 0, .ref q_1, .ref q_25, .ref q_53, .int a3, .int 0, .int 0]))) e_137 e_135 (by intro h9; simp at h9)
  have e_148 := set_o (z := (h0, .inr (2, [.int a1, .int a2, .int a4, .int 0, .ref q_1, .ref q_25, .ref q_53, .int a3, .int 0, .int 0]))) e_138 e_135 (by intro h9; simp at h9)
  have e_149 := set_o (z := (h0, .inr (2, [.int a1, .int a2, .int a4, .int 0, .ref q_1, .ref q_25, .ref q_53, .int a3, .int 0, .int 0]))) e_139 e_135 (by intro h9; simp at h9)
  have e_150 := set_o (z := (h0, .inr (2, [.int a1, .int a2, .int a4, .int 0, .ref q_1, .ref q_25, .ref q_53, .int a3, .int 0, .int 0]))) e_140 e_135 (by intro h9; simp at h9)
  have e_151 := set_o (z := (h0, .inr (2, [.int a1, .int a2, .int a4, .int 0, .ref q_1, .ref q_25, .ref q_53, .int a3, .int 0, .int 0]))) e_141 e_135 (by intro h9; simp at h9)
  have e_152 := set_o (z := (h0, .inr (2, [.int a1, .int a2, .int a4, .int 0, .ref q_1, .ref q_25, .ref q_53, .int a3, .int 0, .int 0]))) e_142 e_135 (by intro h9; simp at h9)
  have e_153 := set_o (z := (h0, .inr (2, [.int a1, .int a2, .int a4, .int 0, .ref q_1, .ref q_25, .ref q_53, .int a3, .int 0, .int 0]))) e_143 e_135 (by intro h9; simp at h9)
  have hsm := hsm.set (h0, .inr (2, [.int a1, .int a2, .int a4, .int 0, .ref q_1, .ref q_25, .ref q_53, .int a3, .int 0, .int 0]))
  generalize ws_134.set k0 (h0, .inr (2, [.int a1, .int a2, .int a4, .int 0, .ref q_1, .ref q_25, .ref q_53, .int a3, .int 0, .int 0])) = ws_144 at hP hD e_145 e_146 e_147 e_148 e_149 e_150 e_151 e_152 e_153 hsm
  refine lv_aload_n hx hb dX2_init_50 rfl (lv_at hl 0 rfl) ?_
  refine lv_iload hx hb dX2_init_51 (lv_at hl 5 rfl) ?_
  refine va_putF (D := D) (ci := 2) (v := .int a5) (ty := .int) (C := RX2) (T := TX2) (N := 10) hx hb hts hin2 tyX2 tyX2_ok nmX2 hown hK hP hD hS k0 e_145 rfl 3 (by decide) (hts (.fieldLink RX2 38 "HoneyHouse$Lot" "land" "I") (List.mem_of_getElem? (i := 15) rfl)) (fun _ h9 => h9) rfl hin rfl (tyX2_ok 3 (by decide)) rfl rfl (Nat.le_of_ble_eq_true rfl) dX2_init_53 (fun H locs hP hD hS => ?_)
  have hP : va_P D vwCl (ws_144.set k0 (h0, .inr (2, [.int a1, .int a2, .int a4, .int a5, .ref q_1, .ref q_25, .ref q_53, .int a3, .int 0, .int 0]))) H := hP
  have hD : va_D A (ws_144.set k0 (h0, .inr (2, [.int a1, .int a2, .int a4, .int a5, .ref q_1, .ref q_25, .ref q_53, .int a3, .int 0, .int 0]))) := hD
  have e_155 : (ws_144.set k0 (h0, .inr (2, [.int a1, .int a2, .int a4, .int a5, .ref q_1, .ref q_25, .ref q_53, .int a3, .int 0, .int 0])))[k0]? = some (h0, .inr (2, [.int a1, .int a2, .int a4, .int a5, .ref q_1, .ref q_25, .ref q_53, .int a3, .int 0, .int 0])) := wset_self e_145
  have e_156 := set_o (z := (h0, .inr (2, [.int a1, .int a2, .int a4, .int a5, .ref q_1, .ref q_25, .ref q_53, .int a3, .int 0, .int 0]))) e_146 e_145 (by intro h9; simp at h9)
  have e_157 := set_o (z := (h0, .inr (2, [.int a1, .int a2, .int a4, .int a5, .ref q_1, .ref q_25, .ref q_53, .int a3, .int 0, .int 0]))) e_147 e_145 (by intro h9; simp at h9)
  have e_158 := set_o (z := (h0, .inr (2, [.int a1, .int a2, .int a4, .int a5, .ref q_1, .ref q_25, .ref q_53, .int a3, .int 0, .int 0]))) e_148 e_145 (by intro h9; simp at h9)
  have e_159 := set_o (z := (h0, .inr (2, [.int a1, .int a2, .int a4, .int a5, .ref q_1, .ref q_25, .ref q_53, .int a3, .int 0, .int 0]))) e_149 e_145 (by intro h9; simp at h9)
  have e_160 := set_o (z := (h0, .inr (2, [.int a1, .int a2, .int a4, .int a5, .ref q_1, .ref q_25, .ref q_53, .int a3, .int 0, .int 0]))) e_150 e_145 (by intro h9; simp at h9)
  have e_161 := set_o (z := (h0, .inr (2, [.int a1, .int a2, .int a4, .int a5, .ref q_1, .ref q_25, .ref q_53, .int a3, .int 0, .int 0]))) e_151 e_145 (by intro h9; simp at h9)
  have e_162 := set_o (z := (h0, .inr (2, [.int a1, .int a2, .int a4, .int a5, .ref q_1, .ref q_25, .ref q_53, .int a3, .int 0, .int 0]))) e_152 e_145 (by intro h9; simp at h9)
  have e_163 := set_o (z := (h0, .inr (2, [.int a1, .int a2, .int a4, .int a5, .ref q_1, .ref q_25, .ref q_53, .int a3, .int 0, .int 0]))) e_153 e_145 (by intro h9; simp at h9)
  have hsm := hsm.set (h0, .inr (2, [.int a1, .int a2, .int a4, .int a5, .ref q_1, .ref q_25, .ref q_53, .int a3, .int 0, .int 0]))
  generalize ws_144.set k0 (h0, .inr (2, [.int a1, .int a2, .int a4, .int a5, .ref q_1, .ref q_25, .ref q_53, .int a3, .int 0, .int 0])) = ws_154 at hP hD e_155 e_156 e_157 e_158 e_159 e_160 e_161 e_162 e_163 hsm
  refine lv_aload_n hx hb dX2_init_56 rfl (lv_at hl 0 rfl) ?_
  refine va_get (D := D) (ci := 2) (v := .ref q_25) (C := RX2) (T := TX2) (N := 10) hx hb hts hin2 hown hK hP k0 e_155 rfl 5 (by decide) (hts (.fieldLink RX2 15 "HoneyHouse$Lot" "high" "[I") (List.mem_of_getElem? (i := 6) rfl)) (fun _ h9 => h9) rfl dX2_init_57 ?_
  refine lv_sipush (v := 1000) hx hb dX2_init_60 (by decide) ?_
  have hFc := free_all hD hS hA
  refine va_callv (va_runS (As := [.ref q_25, .int 1000]) (rest := []) ⟨hx, hb, hml, hown, hts⟩ (a_fill l D ws_154 ty_70 q_25 ws_19.length y_26 ty_3.length 5 f_86 1000 H.size (by omega) e_160 u_87) (va_cwS 2 hts gX2_init_J7_fill_53178 rfl rfl rfl (by decide +kernel) ⟨Nat.le_of_ble_eq_true rfl, Nat.le_of_ble_eq_true rfl⟩) ⟨fun a U g mk q => by obtain ⟨q0, q1, qP, qK, qD⟩ := q; exact ⟨q0, q1, qP, va_K.moved (u := U) (U := U.calling g mk a) (Vm.Alike.refl U.vm) qK, qD⟩, fun U hU hW => ⟨rfl, by rw [hU], by rw [hU]; exact hP, va_K.moved hW.alike hK, hD.weaken (fun _ _ _ _ => trivial)⟩⟩ rfl rfl hl.1 rfl (lv_room (Nat.le_of_ble_eq_true rfl)) dX2_init_63 ⟨Nat.le_of_ble_eq_true rfl, Nat.le_of_ble_eq_true rfl⟩) hS (fun q _ h => hFc q h) hFc (fun u t H1 locs ht hvm w_165 hB hz1 hk1 hS => ?_)
  obtain ⟨ws_166, ty_167, hm_168, ht_170, hP1, hK1, hD1, hx_169⟩ := hB
  rw [ht] at hP1
  have hK := va_K.moved hvm.symm hK1
  have hD := hD1.weaken (fun _ _ _ h => hFc _ h)
  generalize H1 = H at hP1 hS ⊢
  have hP := hP1
  have e_171 := hm_168.objK e_155 (by decide)
  have e_172 := hm_168.objK e_156 (by decide)
  obtain ⟨f_174, e_173⟩ := hm_168.arrI e_157
  have u_175 := ht_170 _ _ u_78
  obtain ⟨f_177, e_176⟩ := hm_168.arrI e_158
  have u_178 := ht_170 _ _ u_81
  obtain ⟨f_180, e_179⟩ := hm_168.arrI e_159
  have u_181 := ht_170 _ _ u_84
  obtain ⟨f_183, e_182⟩ := hm_168.arrI e_160
  have u_184 := ht_170 _ _ u_87
  have e_185 := hm_168.objK e_161 (by decide)
  obtain ⟨f_187, e_186⟩ := hm_168.arrI e_162
  have u_188 := ht_170 _ _ u_97
  obtain ⟨f_190, e_189⟩ := hm_168.arrI e_163
  have u_191 := ht_170 _ _ u_103
  have hsm := hsm.tr (hm_168.mono (by decide))
  have htx := htx.tr ht_170
  refine lv_aload_n hx hb dX2_init_66 rfl (lv_at hl 0 rfl) ?_
  refine va_get (D := D) (ci := 2) (v := .ref q_53) (C := RX2) (T := TX2) (N := 10) hx hb hts hin2 hown hK hP k0 e_171 rfl 6 (by decide) (hts (.fieldLink RX2 21 "HoneyHouse$Lot" "steps" "LHoneyHouse$Steps;") (List.mem_of_getElem? (i := 10) rfl)) (fun _ h9 => h9) rfl dX2_init_67 ?_
  refine lv_aload hx hb dX2_init_70 (lv_at hl 6 rfl) ?_
  have hFc := free_all hD hS hA
  refine va_callv (va_runV (As := [.ref o]) (rest := []) ⟨hx, hb, hml, hown, hts⟩ (a_copyFrom l D ws_166 ty_167 q_53 k_88 g_89 k_92 g_90 k_98 c9_93 c9_99 t_94 t_100 f_187 f_190 o ko o1 ko1 o2 ko2 co1 co2 to1 to2 f_174 f_177 H.size e_185 e_186 u_188 e_189 u_191 e_172 e_173 u_175 e_176 u_178) (cwV 1 hts gX2_init_X5_copyFrom rfl rfl rfl (by decide +kernel) ⟨Nat.le_of_ble_eq_true rfl, Nat.le_of_ble_eq_true rfl⟩) ⟨fun a U g mk q => by obtain ⟨q0, q1, qP, qK, qD⟩ := q; exact ⟨q0, q1, qP, va_K.moved (u := U) (U := U.calling g mk a) (Vm.Alike.refl U.vm) qK, qD⟩, va_recv hK hP (ci := 5) (q0 := k_88) rfl e_185, fun U hU hW => ⟨rfl, by rw [hU], by rw [hU]; exact hP, va_K.moved hW.alike hK, hD.weaken (fun _ _ _ _ => trivial)⟩⟩ rfl rfl hl.1 rfl (lv_room (Nat.le_of_ble_eq_true rfl)) dX2_init_72 ⟨Nat.le_of_ble_eq_true rfl, Nat.le_of_ble_eq_true rfl⟩) hS (fun q _ h => hFc q h) hFc (fun u t H1 locs ht hvm w_193 hB hz1 hk1 hS => ?_)
  obtain ⟨ws_194, ty_195, hm_196, ht_198, hP1, hK1, hD1, hx_197⟩ := hB
  rw [ht] at hP1
  have hK := va_K.moved hvm.symm hK1
  have hD := hD1.weaken (fun _ _ _ h => hFc _ h)
  generalize H1 = H at hP1 hS ⊢
  have hP := hP1
  have e_199 := hm_196.objK e_171 (by decide)
  have e_200 := hm_196.objK e_172 (by decide)
  obtain ⟨f_202, e_201⟩ := hm_196.arrI e_173
  have u_203 := ht_198 _ _ u_175
  obtain ⟨f_205, e_204⟩ := hm_196.arrI e_176
  have u_206 := ht_198 _ _ u_178
  obtain ⟨f_208, e_207⟩ := hm_196.arrI e_179
  have u_209 := ht_198 _ _ u_181
  obtain ⟨f_211, e_210⟩ := hm_196.arrI e_182
  have u_212 := ht_198 _ _ u_184
  have e_213 := hm_196.objK e_185 (by decide)
  obtain ⟨f_215, e_214⟩ := hm_196.arrI e_186
  have u_216 := ht_198 _ _ u_188
  obtain ⟨f_218, e_217⟩ := hm_196.arrI e_189
  have u_219 := ht_198 _ _ u_191
  have hsm := hsm.tr (hm_196.mono (by decide))
  have htx := htx.tr ht_198
  refine lv_aload_n hx hb dX2_init_75 rfl (lv_at hl 0 rfl) ?_
  refine lv_iload_n hx hb dX2_init_76 rfl (lv_at hl 2 rfl) ?_
  refine va_put (D := D) (ci := 2) (v := .int a2) (ty := .int) (C := RX2) (T := TX2) (N := 10) hx hb hts hin2 tyX2 tyX2_ok nmX2 hown hK hP hD hS k0 e_199 rfl 8 (by decide) (hts (.fieldLink RX2 51 "HoneyHouse$Lot" "left" "I") (List.mem_of_getElem? (i := 16) rfl)) (fun _ h9 => h9) rfl (tyX2_ok 8 (by decide)) rfl rfl (Nat.le_of_ble_eq_true rfl) dX2_init_77 (fun H locs hP hD hS => ?_)
  have hP : va_P D vwCl (ws_194.set k0 (h0, .inr (2, [.int a1, .int a2, .int a4, .int a5, .ref q_1, .ref q_25, .ref q_53, .int a3, .int a2, .int 0]))) H := hP
  have hD : va_D A (ws_194.set k0 (h0, .inr (2, [.int a1, .int a2, .int a4, .int a5, .ref q_1, .ref q_25, .ref q_53, .int a3, .int a2, .int 0]))) := hD
  have e_221 : (ws_194.set k0 (h0, .inr (2, [.int a1, .int a2, .int a4, .int a5, .ref q_1, .ref q_25, .ref q_53, .int a3, .int a2, .int 0])))[k0]? = some (h0, .inr (2, [.int a1, .int a2, .int a4, .int a5, .ref q_1, .ref q_25, .ref q_53, .int a3, .int a2, .int 0])) := wset_self e_199
  have e_222 := set_o (z := (h0, .inr (2, [.int a1, .int a2, .int a4, .int a5, .ref q_1, .ref q_25, .ref q_53, .int a3, .int a2, .int 0]))) e_200 e_199 (by intro h9; simp at h9)
  have e_223 := set_o (z := (h0, .inr (2, [.int a1, .int a2, .int a4, .int a5, .ref q_1, .ref q_25, .ref q_53, .int a3, .int a2, .int 0]))) e_201 e_199 (by intro h9; simp at h9)
  have e_224 := set_o (z := (h0, .inr (2, [.int a1, .int a2, .int a4, .int a5, .ref q_1, .ref q_25, .ref q_53, .int a3, .int a2, .int 0]))) e_204 e_199 (by intro h9; simp at h9)
  have e_225 := set_o (z := (h0, .inr (2, [.int a1, .int a2, .int a4, .int a5, .ref q_1, .ref q_25, .ref q_53, .int a3, .int a2, .int 0]))) e_207 e_199 (by intro h9; simp at h9)
  have e_226 := set_o (z := (h0, .inr (2, [.int a1, .int a2, .int a4, .int a5, .ref q_1, .ref q_25, .ref q_53, .int a3, .int a2, .int 0]))) e_210 e_199 (by intro h9; simp at h9)
  have e_227 := set_o (z := (h0, .inr (2, [.int a1, .int a2, .int a4, .int a5, .ref q_1, .ref q_25, .ref q_53, .int a3, .int a2, .int 0]))) e_213 e_199 (by intro h9; simp at h9)
  have e_228 := set_o (z := (h0, .inr (2, [.int a1, .int a2, .int a4, .int a5, .ref q_1, .ref q_25, .ref q_53, .int a3, .int a2, .int 0]))) e_214 e_199 (by intro h9; simp at h9)
  have e_229 := set_o (z := (h0, .inr (2, [.int a1, .int a2, .int a4, .int a5, .ref q_1, .ref q_25, .ref q_53, .int a3, .int a2, .int 0]))) e_217 e_199 (by intro h9; simp at h9)
  have hsm := hsm.set (h0, .inr (2, [.int a1, .int a2, .int a4, .int a5, .ref q_1, .ref q_25, .ref q_53, .int a3, .int a2, .int 0]))
  generalize ws_194.set k0 (h0, .inr (2, [.int a1, .int a2, .int a4, .int a5, .ref q_1, .ref q_25, .ref q_53, .int a3, .int a2, .int 0])) = ws_220 at hP hD e_221 e_222 e_223 e_224 e_225 e_226 e_227 e_228 e_229 hsm
  refine lv_aload_n hx hb dX2_init_80 rfl (lv_at hl 0 rfl) ?_
  refine lv_aload_n hx hb dX2_init_81 rfl (lv_at hl 0 rfl) ?_
  refine va_get (D := D) (ci := 2) (v := .ref q_53) (C := RX2) (T := TX2) (N := 10) hx hb hts hin2 hown hK hP k0 e_221 rfl 6 (by decide) (hts (.fieldLink RX2 21 "HoneyHouse$Lot" "steps" "LHoneyHouse$Steps;") (List.mem_of_getElem? (i := 10) rfl)) (fun _ h9 => h9) rfl dX2_init_82 ?_
  refine lv_iload_n hx hb dX2_init_85 rfl (lv_at hl 2 rfl) ?_
  refine lv_iload_n hx hb dX2_init_86 rfl (lv_at hl 3 rfl) ?_
  refine vp_callSi (W.runV (As := [.int a2, .int a3]) (rest := [.ref h0]) ⟨hx, hb, hml, hown, hts⟩ (s_X5_payFor l D ws_220 ty_195 q_53 k_88 g_89 k_92 g_90 k_98 c9_93 c9_99 t_94 t_100 f_215 f_218 _ a2 a3 e_227 rfl rfl e_228 u_216 e_229 u_219) (cwV 2 hts gX2_init_X5_payFor rfl rfl rfl (by decide +kernel) ⟨Nat.le_of_ble_eq_true rfl, Nat.le_of_ble_eq_true rfl⟩) ⟨fun a U g mk q => ⟨q.1, q.2.1, va_K.moved (u := U) (U := U.calling g mk a) (Vm.Alike.refl U.vm) q.2.2⟩, va_recv hK hP (ci := 5) (q0 := k_88) rfl e_227, fun U hU hW => ⟨rfl, by rw [hU]; exact hP, va_K.moved hW.alike hK⟩⟩ rfl rfl hl.1 rfl (lv_room (Nat.le_of_ble_eq_true rfl)) dX2_init_87 ⟨Nat.le_of_ble_eq_true rfl, Nat.le_of_ble_eq_true rfl⟩) (fun r_230 k_231 => ?_)
  refine va_put (D := D) (ci := 2) (v := .int r_230) (ty := .int) (C := RX2) (T := TX2) (N := 10) hx hb hts hin2 tyX2 tyX2_ok nmX2 hown hK hP hD hS k0 e_221 rfl 9 (by decide) (hts (.fieldLink RX2 58 "HoneyHouse$Lot" "pay" "I") (List.mem_of_getElem? (i := 17) rfl)) (fun _ h9 => h9) rfl (tyX2_ok 9 (by decide)) rfl rfl (Nat.le_of_ble_eq_true rfl) dX2_init_90 (fun H locs hP hD hS => ?_)
  have hP : va_P D vwCl (ws_220.set k0 (h0, .inr (2, [.int a1, .int a2, .int a4, .int a5, .ref q_1, .ref q_25, .ref q_53, .int a3, .int a2, .int r_230]))) H := hP
  have hD : va_D A (ws_220.set k0 (h0, .inr (2, [.int a1, .int a2, .int a4, .int a5, .ref q_1, .ref q_25, .ref q_53, .int a3, .int a2, .int r_230]))) := hD
  have e_233 : (ws_220.set k0 (h0, .inr (2, [.int a1, .int a2, .int a4, .int a5, .ref q_1, .ref q_25, .ref q_53, .int a3, .int a2, .int r_230])))[k0]? = some (h0, .inr (2, [.int a1, .int a2, .int a4, .int a5, .ref q_1, .ref q_25, .ref q_53, .int a3, .int a2, .int r_230])) := wset_self e_221
  have e_234 := set_o (z := (h0, .inr (2, [.int a1, .int a2, .int a4, .int a5, .ref q_1, .ref q_25, .ref q_53, .int a3, .int a2, .int r_230]))) e_222 e_221 (by intro h9; simp at h9)
  have e_235 := set_o (z := (h0, .inr (2, [.int a1, .int a2, .int a4, .int a5, .ref q_1, .ref q_25, .ref q_53, .int a3, .int a2, .int r_230]))) e_223 e_221 (by intro h9; simp at h9)
  have e_236 := set_o (z := (h0, .inr (2, [.int a1, .int a2, .int a4, .int a5, .ref q_1, .ref q_25, .ref q_53, .int a3, .int a2, .int r_230]))) e_224 e_221 (by intro h9; simp at h9)
  have e_237 := set_o (z := (h0, .inr (2, [.int a1, .int a2, .int a4, .int a5, .ref q_1, .ref q_25, .ref q_53, .int a3, .int a2, .int r_230]))) e_225 e_221 (by intro h9; simp at h9)
  have e_238 := set_o (z := (h0, .inr (2, [.int a1, .int a2, .int a4, .int a5, .ref q_1, .ref q_25, .ref q_53, .int a3, .int a2, .int r_230]))) e_226 e_221 (by intro h9; simp at h9)
  have e_239 := set_o (z := (h0, .inr (2, [.int a1, .int a2, .int a4, .int a5, .ref q_1, .ref q_25, .ref q_53, .int a3, .int a2, .int r_230]))) e_227 e_221 (by intro h9; simp at h9)
  have e_240 := set_o (z := (h0, .inr (2, [.int a1, .int a2, .int a4, .int a5, .ref q_1, .ref q_25, .ref q_53, .int a3, .int a2, .int r_230]))) e_228 e_221 (by intro h9; simp at h9)
  have e_241 := set_o (z := (h0, .inr (2, [.int a1, .int a2, .int a4, .int a5, .ref q_1, .ref q_25, .ref q_53, .int a3, .int a2, .int r_230]))) e_229 e_221 (by intro h9; simp at h9)
  have hsm := hsm.set (h0, .inr (2, [.int a1, .int a2, .int a4, .int a5, .ref q_1, .ref q_25, .ref q_53, .int a3, .int a2, .int r_230]))
  generalize ws_220.set k0 (h0, .inr (2, [.int a1, .int a2, .int a4, .int a5, .ref q_1, .ref q_25, .ref q_53, .int a3, .int a2, .int r_230])) = ws_232 at hP hD e_233 e_234 e_235 e_236 e_237 e_238 e_239 e_240 e_241 hsm
  refine W.widen (k := 5) (n := 20) (by omega) (by omega) ?_
  exact W.vret hx hb hr (fun t ht hW => ⟨⟨(), rfl, trivial, ws_232, ty_195, hsm, htx, by rw [ht]; exact hP, va_K.moved hW.alike hK, hD, ⟨k0, q_1, q_25, q_53, a1, a2, a4, a5, a3, a2, r_230, e_233, ⟨ws.length, y_2, tys.length, f_208, e_237, u_209⟩, ⟨ws_19.length, y_26, ty_3.length, f_211, e_238, u_212⟩, ⟨k_88, g_89, g_90, e_239, ⟨k_92, c9_93, t_94, f_215, e_240, u_216⟩, ⟨k_98, c9_99, t_100, f_218, e_241, u_219⟩⟩⟩⟩, hS.F ht⟩) hS.2.2 dX2_init_93
