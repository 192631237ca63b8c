theorem dX5_init_0 : decode cX5_init 0 = .ok (.aload_n 0, 1) := by decide +kernel
theorem dX5_init_1 : decode cX5_init 1 = .ok (.invokespecial 3, 3) := by decide +kernel
theorem dX5_init_4 : decode cX5_init 4 = .ok (.aload_n 0, 1) := by decide +kernel
theorem dX5_init_5 : decode cX5_init 5 = .ok (.iconst 4, 1) := by decide +kernel
theorem dX5_init_6 : decode cX5_init 6 = .ok (.newarray .int, 2) := by decide +kernel
theorem dX5_init_8 : decode cX5_init 8 = .ok (.putfield 9, 3) := by decide +kernel
theorem dX5_init_11 : decode cX5_init 11 = .ok (.aload_n 0, 1) := by decide +kernel
theorem dX5_init_12 : decode cX5_init 12 = .ok (.iconst 4, 1) := by decide +kernel
theorem dX5_init_13 : decode cX5_init 13 = .ok (.newarray .int, 2) := by decide +kernel
theorem dX5_init_15 : decode cX5_init 15 = .ok (.putfield 15, 3) := by decide +kernel
theorem dX5_init_18 : decode cX5_init 18 = .ok (.return_, 1) := by decide +kernel
theorem dX7_init_0 : decode cX7_init 0 = .ok (.aload_n 0, 1) := by decide +kernel
theorem dX7_init_1 : decode cX7_init 1 = .ok (.invokespecial 3, 3) := by decide +kernel
theorem dX7_init_4 : decode cX7_init 4 = .ok (.aload_n 0, 1) := by decide +kernel
theorem dX7_init_5 : decode cX7_init 5 = .ok (.bipush 40, 2) := by decide +kernel
theorem dX7_init_7 : decode cX7_init 7 = .ok (.newarray .int, 2) := by decide +kernel
theorem dX7_init_9 : decode cX7_init 9 = .ok (.putfield 9, 3) := by decide +kernel
theorem dX7_init_12 : decode cX7_init 12 = .ok (.aload_n 0, 1) := by decide +kernel
theorem dX7_init_13 : decode cX7_init 13 = .ok (.iload_n 1, 1) := by decide +kernel
theorem dX7_init_14 : decode cX7_init 14 = .ok (.putfield 15, 3) := by decide +kernel
theorem dX7_init_17 : decode cX7_init 17 = .ok (.aload_n 0, 1) := by decide +kernel
theorem dX7_init_18 : decode cX7_init 18 = .ok (.iload_n 2, 1) := by decide +kernel
theorem dX7_init_19 : decode cX7_init 19 = .ok (.putfield 19, 3) := by decide +kernel
theorem dX7_init_22 : decode cX7_init 22 = .ok (.return_, 1) := by decide +kernel
theorem dX3_init_0 : decode cX3_init 0 = .ok (.aload_n 0, 1) := by decide +kernel
theorem dX3_init_1 : decode cX3_init 1 = .ok (.invokespecial 1, 3) := by decide +kernel
theorem dX3_init_4 : decode cX3_init 4 = .ok (.aload_n 0, 1) := by decide +kernel
theorem dX3_init_5 : decode cX3_init 5 = .ok (.lload_n 1, 1) := by decide +kernel
theorem dX3_init_6 : decode cX3_init 6 = .ok (.putfield 7, 3) := by decide +kernel
theorem dX3_init_9 : decode cX3_init 9 = .ok (.aload_n 0, 1) := by decide +kernel
theorem dX3_init_10 : decode cX3_init 10 = .ok (.iload_n 3, 1) := by decide +kernel
theorem dX3_init_11 : decode cX3_init 11 = .ok (.putfield 13, 3) := by decide +kernel
theorem dX3_init_14 : decode cX3_init 14 = .ok (.aload_n 0, 1) := by decide +kernel
theorem dX3_init_15 : decode cX3_init 15 = .ok (.aload 4, 2) := by decide +kernel
theorem dX3_init_17 : decode cX3_init 17 = .ok (.putfield 17, 3) := by decide +kernel
theorem dX3_init_20 : decode cX3_init 20 = .ok (.return_, 1) := by decide +kernel
theorem dX5_copyFrom_0 : decode cX5_copyFrom 0 = .ok (.aload_n 1, 1) := by decide +kernel
theorem dX5_copyFrom_1 : decode cX5_copyFrom 1 = .ok (.getfield 9, 3) := by decide +kernel
theorem dX5_copyFrom_4 : decode cX5_copyFrom 4 = .ok (.iconst 0, 1) := by decide +kernel
theorem dX5_copyFrom_5 : decode cX5_copyFrom 5 = .ok (.aload_n 0, 1) := by decide +kernel
theorem dX5_copyFrom_6 : decode cX5_copyFrom 6 = .ok (.getfield 9, 3) := by decide +kernel
theorem dX5_copyFrom_9 : decode cX5_copyFrom 9 = .ok (.iconst 0, 1) := by decide +kernel
theorem dX5_copyFrom_10 : decode cX5_copyFrom 10 = .ok (.iconst 4, 1) := by decide +kernel
theorem dX5_copyFrom_11 : decode cX5_copyFrom 11 = .ok (.invokestatic 18, 3) := by decide +kernel
theorem dX5_copyFrom_14 : decode cX5_copyFrom 14 = .ok (.aload_n 1, 1) := by decide +kernel
theorem dX5_copyFrom_15 : decode cX5_copyFrom 15 = .ok (.getfield 15, 3) := by decide +kernel
theorem dX5_copyFrom_18 : decode cX5_copyFrom 18 = .ok (.iconst 0, 1) := by decide +kernel
theorem dX5_copyFrom_19 : decode cX5_copyFrom 19 = .ok (.aload_n 0, 1) := by decide +kernel
theorem dX5_copyFrom_20 : decode cX5_copyFrom 20 = .ok (.getfield 15, 3) := by decide +kernel
theorem dX5_copyFrom_23 : decode cX5_copyFrom 23 = .ok (.iconst 0, 1) := by decide +kernel
theorem dX5_copyFrom_24 : decode cX5_copyFrom 24 = .ok (.iconst 4, 1) := by decide +kernel
theorem dX5_copyFrom_25 : decode cX5_copyFrom 25 = .ok (.invokestatic 18, 3) := by decide +kernel
theorem dX5_copyFrom_28 : decode cX5_copyFrom 28 = .ok (.return_, 1) := by decide +kernel
theorem dX2_init_0 : decode cX2_init 0 = .ok (.aload_n 0, 1) := by decide +kernel
theorem dX2_init_1 : decode cX2_init 1 = .ok (.invokespecial 3, 3) := by decide +kernel
theorem dX2_init_4 : decode cX2_init 4 = .ok (.aload_n 0, 1) := by decide +kernel
theorem dX2_init_5 : decode cX2_init 5 = .ok (.iconst 5, 1) := by decide +kernel
theorem dX2_init_6 : decode cX2_init 6 = .ok (.newarray .int, 2) := by decide +kernel
theorem dX2_init_8 : decode cX2_init 8 = .ok (.putfield 9, 3) := by decide +kernel
theorem dX2_init_11 : decode cX2_init 11 = .ok (.aload_n 0, 1) := by decide +kernel
theorem dX2_init_12 : decode cX2_init 12 = .ok (.iconst 5, 1) := by decide +kernel
theorem dX2_init_13 : decode cX2_init 13 = .ok (.newarray .int, 2) := by decide +kernel
theorem dX2_init_15 : decode cX2_init 15 = .ok (.putfield 15, 3) := by decide +kernel
theorem dX2_init_18 : decode cX2_init 18 = .ok (.aload_n 0, 1) := by decide +kernel
theorem dX2_init_19 : decode cX2_init 19 = .ok (.new 18, 3) := by decide +kernel
theorem dX2_init_22 : decode cX2_init 22 = .ok (.dup, 1) := by decide +kernel
theorem dX2_init_23 : decode cX2_init 23 = .ok (.invokespecial 20, 3) := by decide +kernel
theorem dX2_init_26 : decode cX2_init 26 = .ok (.putfield 21, 3) := by decide +kernel
theorem dX2_init_29 : decode cX2_init 29 = .ok (.aload_n 0, 1) := by decide +kernel
theorem dX2_init_30 : decode cX2_init 30 = .ok (.iload_n 1, 1) := by decide +kernel
theorem dX2_init_31 : decode cX2_init 31 = .ok (.putfield 25, 3) := by decide +kernel
theorem dX2_init_34 : decode cX2_init 34 = .ok (.aload_n 0, 1) := by decide +kernel
theorem dX2_init_35 : decode cX2_init 35 = .ok (.iload_n 2, 1) := by decide +kernel
theorem dX2_init_36 : decode cX2_init 36 = .ok (.putfield 29, 3) := by decide +kernel
theorem dX2_init_39 : decode cX2_init 39 = .ok (.aload_n 0, 1) := by decide +kernel
theorem dX2_init_40 : decode cX2_init 40 = .ok (.iload_n 3, 1) := by decide +kernel
theorem dX2_init_41 : decode cX2_init 41 = .ok (.putfield 32, 3) := by decide +kernel
theorem dX2_init_44 : decode cX2_init 44 = .ok (.aload_n 0, 1) := by decide +kernel
theorem dX2_init_45 : decode cX2_init 45 = .ok (.iload 4, 2) := by decide +kernel
theorem dX2_init_47 : decode cX2_init 47 = .ok (.putfield 35, 3) := by decide +kernel
theorem dX2_init_50 : decode cX2_init 50 = .ok (.aload_n 0, 1) := by decide +kernel
theorem dX2_init_51 : decode cX2_init 51 = .ok (.iload 5, 2) := by decide +kernel
theorem dX2_init_53 : decode cX2_init 53 = .ok (.putfield 38, 3) := by decide +kernel
theorem dX2_init_56 : decode cX2_init 56 = .ok (.aload_n 0, 1) := by decide +kernel
theorem dX2_init_57 : decode cX2_init 57 = .ok (.getfield 15, 3) := by decide +kernel
theorem dX2_init_60 : decode cX2_init 60 = .ok (.sipush 1000, 3) := by decide +kernel
theorem dX2_init_63 : decode cX2_init 63 = .ok (.invokestatic 41, 3) := by decide +kernel
theorem dX2_init_66 : decode cX2_init 66 = .ok (.aload_n 0, 1) := by decide +kernel
theorem dX2_init_67 : decode cX2_init 67 = .ok (.getfield 21, 3) := by decide +kernel
theorem dX2_init_70 : decode cX2_init 70 = .ok (.aload 6, 2) := by decide +kernel
theorem dX2_init_72 : decode cX2_init 72 = .ok (.invokevirtual 47, 3) := by decide +kernel
theorem dX2_init_75 : decode cX2_init 75 = .ok (.aload_n 0, 1) := by decide +kernel
theorem dX2_init_76 : decode cX2_init 76 = .ok (.iload_n 2, 1) := by decide +kernel
theorem dX2_init_77 : decode cX2_init 77 = .ok (.putfield 51, 3) := by decide +kernel
theorem dX2_init_80 : decode cX2_init 80 = .ok (.aload_n 0, 1) := by decide +kernel
theorem dX2_init_81 : decode cX2_init 81 = .ok (.aload_n 0, 1) := by decide +kernel
theorem dX2_init_82 : decode cX2_init 82 = .ok (.getfield 21, 3) := by decide +kernel
theorem dX2_init_85 : decode cX2_init 85 = .ok (.iload_n 2, 1) := by decide +kernel
theorem dX2_init_86 : decode cX2_init 86 = .ok (.iload_n 3, 1) := by decide +kernel
theorem dX2_init_87 : decode cX2_init 87 = .ok (.invokevirtual 54, 3) := by decide +kernel
theorem dX2_init_90 : decode cX2_init 90 = .ok (.putfield 58, 3) := by decide +kernel
theorem dX2_init_93 : decode cX2_init 93 = .ok (.return_, 1) := by decide +kernel
set_option maxRecDepth 20000 in
theorem ggX2_init_X5_init : GoodIn wsX2_init wsX5_init := goodIn_r _ [19, 20, 2, 3, 4, 21, 22, 50, 51] rfl (by decide +kernel)
set_option maxRecDepth 20000 in
theorem gX2_init_X5_init_n20 : GoodIn wsX2_init (wsX5_init) := ggX2_init_X5_init
set_option maxRecDepth 20000 in
theorem ggX2_init_J7_fill_53178 : GoodIn wsX2_init wsJ7_fill_53178 := goodIn_r _ [26] rfl (by decide +kernel)
set_option maxRecDepth 20000 in
theorem gX2_init_J7_fill_53178 : GoodIn wsX2_init (va_wsS RX2 41 yJ7_fill_53178 wsJ7_fill_53178) := goodIn_app (goodIn_of _ (by decide +kernel)) ggX2_init_J7_fill_53178
set_option maxRecDepth 20000 in
theorem ggX2_init_X5_copyFrom : GoodIn wsX2_init wsX5_copyFrom := goodIn_r _ [30, 21, 31, 32, 33, 34, 22, 50, 51] rfl (by decide +kernel)
set_option maxRecDepth 20000 in
theorem gX2_init_X5_copyFrom : GoodIn wsX2_init (wsV RX2 47 RX5 yX5_copyFrom wsX5_copyFrom) := goodIn_app (goodIn_of _ (by decide +kernel)) ggX2_init_X5_copyFrom
set_option maxRecDepth 20000 in
theorem ggX2_init_X5_payFor : GoodIn wsX2_init wsX5_payFor := goodIn_r _ [38, 21, 22, 39, 50, 51] rfl (by decide +kernel)
set_option maxRecDepth 20000 in
theorem gX2_init_X5_payFor : GoodIn wsX2_init (wsV RX2 54 RX5 yX5_payFor wsX5_payFor) := goodIn_app (goodIn_of _ (by decide +kernel)) ggX2_init_X5_payFor
/-! worlds in which one object is being made: all places but its own as in sm -/
def smp (ρ : Nat → Nat) (k0 : Nat) (T : List Nat) (ws ws' : va_W) : Prop := ws.length ≤ ws'.length ∧ ∀ (k a : Nat) (e : va_E), k ≠ k0 → ws[k]? = some (a, e) → ∃ e', ws'[k]? = some (a, e') ∧ smE e e' ∧ (∀ (ci : Nat) (fs : List Value), e = .inr (ci, fs) → ci ∉ T → e' = e) ∧ (ρ k ≠ 0 → e' = e)
theorem smp.rf {ρ : Nat → Nat} {k0 : Nat} {T : List Nat} (ws : va_W) : smp ρ k0 T ws ws := ⟨Nat.le_refl _, fun k a e _ h => ⟨e, h, smE.rf e, fun _ _ _ _ => rfl, fun _ => rfl⟩⟩
theorem smp.set {ρ : Nat → Nat} {k0 : Nat} {T : List Nat} {ws w : va_W} (h : smp ρ k0 T ws w) (z : Nat × va_E) : smp ρ k0 T ws (w.set k0 z) := ⟨by rw [List.length_set]; exact h.1, fun k a e hk he => by
  obtain ⟨e', h1, h2⟩ := h.2 k a e hk he
  exact ⟨e', by rw [List.getElem?_set_ne (fun q => hk q.symm)]; exact h1, h2⟩⟩
theorem smp.tr {ρ : Nat → Nat} {k0 : Nat} {T : List Nat} {a b c : va_W} (h : smp ρ k0 T a b) (h2 : sm ρ T b c) : smp ρ k0 T a c := ⟨Nat.le_trans h.1 h2.len, fun k x e hk he => by
  obtain ⟨e1, h1, s1, o1, p1⟩ := h.2 k x e hk he
  obtain ⟨e2, h3, s2, o2, p2⟩ := h2 k x e1 h1
  refine ⟨e2, h3, s1.tr s2, fun ci fs he hT => ?_, fun hr => (p2 hr).trans (p1 hr)⟩
  have q := o1 ci fs he hT
  exact (o2 ci fs (q.trans he) hT).trans q⟩
theorem smp.trk {ρ : Nat → Nat} {k0 k2 : Nat} {T : List Nat} {a b c : va_W} (h : smp ρ k0 T a b) (h2 : smp ρ k2 T b c) (hk2 : a.length ≤ k2) : smp ρ k0 T a c := ⟨Nat.le_trans h.1 h2.1, fun k x e hk he => by
  obtain ⟨e1, h1, s1, o1, p1⟩ := h.2 k x e hk he
  obtain ⟨e2, h3, s2, o2, p2⟩ := h2.2 k x e1 (by have := (List.getElem?_eq_some_iff.mp he).1; omega) h1
  refine ⟨e2, h3, s1.tr s2, fun ci fs he hT => ?_, fun hr => (p2 hr).trans (p1 hr)⟩
  have q := o1 ci fs he hT
  exact (o2 ci fs (q.trans he) hT).trans q⟩
theorem sm.trk {ρ : Nat → Nat} {k2 : Nat} {T : List Nat} {a b c : va_W} (h : sm ρ T a b) (h2 : smp ρ k2 T b c) (hk2 : a.length ≤ k2) : sm ρ T a c := fun k x e he => by
  obtain ⟨e1, h1, s1, o1, p1⟩ := h k x e he
  obtain ⟨e2, h3, s2, o2, p2⟩ := h2.2 k x e1 (by have := (List.getElem?_eq_some_iff.mp he).1; omega) h1
  refine ⟨e2, h3, s1.tr s2, fun ci fs he hT => ?_, fun hr => (p2 hr).trans (p1 hr)⟩
  have q := o1 ci fs he hT
  exact (o2 ci fs (q.trans he) hT).trans q
theorem smp.mono {ρ : Nat → Nat} {k0 : Nat} {T T' : List Nat} {a b : va_W} (h : smp ρ k0 T a b) (hT : ∀ x ∈ T, x ∈ T') : smp ρ k0 T' a b := ⟨h.1, fun k x e hk he => by
  obtain ⟨e1, h1, s1, o1, p1⟩ := h.2 k x e hk he
  exact ⟨e1, h1, s1, fun ci fs he hn => o1 ci fs he (fun hm => hn (hT ci hm)), p1⟩⟩
theorem smp.arrI {ρ : Nat → Nat} {k0 : Nat} {T : List Nat} {ws ws' : va_W} (h : smp ρ k0 T ws ws') {k a : Nat} {c : ClassId} {n : Nat} {f : Nat → Int32} (hne : k ≠ k0) (hk : ws[k]? = some (a, .inl (c, n, .inl f))) : ∃ f', ws'[k]? = some (a, .inl (c, n, .inl f')) := by
  obtain ⟨e, he, hs, -⟩ := h.2 k a _ hne hk
  rcases hs with rfl | ⟨c1, n1, f1, f2, e1, rfl⟩ | ⟨c1, n1, f1, f2, e1, rfl⟩ | ⟨ci, fs, fs', e1, rfl, -⟩
  · exact ⟨f, he⟩
  · cases e1; exact ⟨f2, he⟩
  · cases e1
  · cases e1
theorem smp.arrJ {ρ : Nat → Nat} {k0 : Nat} {T : List Nat} {ws ws' : va_W} (h : smp ρ k0 T ws ws') {k a : Nat} {c : ClassId} {n : Nat} {f : Nat → Int64} (hne : k ≠ k0) (hk : ws[k]? = some (a, .inl (c, n, .inr (.inl f)))) : ∃ f', ws'[k]? = some (a, .inl (c, n, .inr (.inl f'))) := by
  obtain ⟨e, he, hs, -⟩ := h.2 k a _ hne hk
  rcases hs with rfl | ⟨c1, n1, f1, f2, e1, rfl⟩ | ⟨c1, n1, f1, f2, e1, rfl⟩ | ⟨ci, fs, fs', e1, rfl, -⟩
  · exact ⟨f, he⟩
  · cases e1
  · cases e1; exact ⟨f2, he⟩
  · cases e1
theorem smp.arrQ {ρ : Nat → Nat} {k0 : Nat} {T : List Nat} {ws ws' : va_W} (h : smp ρ k0 T ws ws') {k a : Nat} {c : ClassId} {n : Nat} {g : Nat → Option Nat} (hne : k ≠ k0) (hk : ws[k]? = some (a, .inl (c, n, .inr (.inr (.inr (.inr g)))))) : ws'[k]? = some (a, .inl (c, n, .inr (.inr (.inr (.inr g))))) := by
  obtain ⟨e, he, hs, -⟩ := h.2 k a _ hne hk
  rcases hs with rfl | ⟨c1, n1, f1, f2, e1, rfl⟩ | ⟨c1, n1, f1, f2, e1, rfl⟩ | ⟨ci, fs, fs', e1, rfl, -⟩
  · exact he
  · cases e1
  · cases e1
  · cases e1
theorem smp.objK {ρ : Nat → Nat} {k0 : Nat} {T : List Nat} {ws ws' : va_W} (h : smp ρ k0 T ws ws') {k a ci : Nat} {fs : List Value} (hne : k ≠ k0) (hk : ws[k]? = some (a, .inr (ci, fs))) (hT : ci ∉ T) : ws'[k]? = some (a, .inr (ci, fs)) := by
  obtain ⟨e, he, -, ho, -⟩ := h.2 k a _ hne hk
  rw [ho ci fs rfl hT] at he; exact he
theorem smp.up {ρ σ : Nat → Nat} {k0 : Nat} {T : List Nat} {a b : va_W} (h : smp ρ k0 T a b) (hr : ∀ k : Nat, k < a.length → σ k ≠ 0 → ρ k ≠ 0) : smp σ k0 T a b := ⟨h.1, fun k x e hk he => by
  obtain ⟨e1, h1, s1, o1, p1⟩ := h.2 k x e hk he
  exact ⟨e1, h1, s1, o1, fun hs => p1 (hr k (List.getElem?_eq_some_iff.mp he).1 hs)⟩⟩
/-- a keeper of all that a world holds -/
def rl (W : va_W) : Nat → Nat := fun k => if k < W.length then 1 else 0
theorem rl_in {W : va_W} {k : Nat} (h : k < W.length) : rl W k ≠ 0 := by
  show (if k < W.length then 1 else 0) ≠ 0
  rw [if_pos h]; decide
theorem rl_out {W : va_W} {k : Nat} (h : W.length ≤ k) : rl W k = 0 := if_neg (by omega)
theorem smp.keep {ρ : Nat → Nat} {k0 : Nat} {T : List Nat} {ws ws' : va_W} (h : smp ρ k0 T ws ws') {k : Nat} {q : Nat × va_E} (hne : k ≠ k0) (hr : ρ k ≠ 0) (hk : ws[k]? = some q) : ws'[k]? = some q := by
  obtain ⟨a, e⟩ := q
  obtain ⟨e1, h1, -, -, p1⟩ := h.2 k a e hne hk
  rw [p1 hr] at h1; exact h1
theorem ap_new (a : va_W) (x : Nat × va_E) : (a ++ [x])[a.length]? = some x := by rw [List.getElem?_append_right (Nat.le_refl _)]; simp
theorem ap_ty (a : List (ClassId × FieldType)) (x : ClassId × FieldType) : (a ++ [x])[a.length]? = some x := by rw [List.getElem?_append_right (Nat.le_refl _)]; simp
theorem cpy_4 {f g : Nat → Int32} {i : Nat} (h : i < 4) : va_cpy f g (0 : Int32).toNatClampNeg (0 : Int32).toNatClampNeg (4 : Int32).toNatClampNeg i = f i := by
  show (if 0 ≤ i ∧ i < 0 + 4 then f (0 + (i - 0)) else g i) = f i
  rw [if_pos (by omega), show 0 + (i - 0) = i by omega]
set_option maxHeartbeats 4000000 in
set_option maxRecDepth 100000 in
theorem c_X5_init (l : Launch) (D : va_G) (ρ : Nat → Nat) (ws : va_W) (tys : List (ClassId × FieldType)) (h0 k0 : Nat) (sz : Nat) (e0 : ws[k0]? = some (h0, .inr (5, [.null, .null]))) (hle0 : ∀ k : Nat, ws.length ≤ k → ρ k = 0) : Met l yX5_init wsX5_init ({ frames := 1, cells := 2, slots := 8, locals := 16 }) (va_Pc [.ref h0] (fun U => U.heap.size = sz ∧ va_P D vwCl ws U.heap ∧ va_K D vwCl tys U ∧ va_D (fun _ => True) ws)) (va_Qv (fun _ : Unit => True) (fun (_ : Unit) (t : State) => ∃ (ws' : va_W) (tys' : List (ClassId × FieldType)), smp ρ k0 [] ws ws' ∧ tyx tys tys' ∧ va_P D vwCl ws' t.heap ∧ va_K D vwCl tys' t ∧ va_D (va_A ws sz) ws' ∧ (∃ (g1 g2 k1 k2 : Nat) (c1 c2 : ClassId) (t1 t2 : Nat), ws'[k0]? = some (h0, .inr (5, [.ref g1, .ref g2])) ∧ ws'[k1]? = some (g1, .inl (c1, 4, .inl (fun _ => 0))) ∧ tys'[t1]? = some (c1, .int) ∧ ws'[k2]? = some (g2, .inl (c2, 4, .inl (fun _ => 0))) ∧ tys'[t2]? = some (c2, .int) ∧ ws.length ≤ k1 ∧ k1 < k2)) (va_A ws sz)) 2 8 (va_A ws sz) := by
  refine Met.ofW (cc := cX5_init) (maxL := 1) (ret := none) (by decide) rfl ?_
  intro p e s m args below meth c s₁ B hml hv
  obtain ⟨rfl, hsz, hP, hK, hD0⟩ := hv
  have hx := B.exec
  have hb := B.bytes
  have hr := B.returns
  have hts := atoms_spec (ws := wsX5_init) B.pre
  have hown : s.vm.findClass RX5 = some m.cls := findClass_of_methodNamed B.named
  have hlocks := B.notSynchronized
  have hin : meth.name = "<init>" := (name_of_methodNamed B.named B.method).1
  subst hsz
  have hD := hD0.self (sz := s.heap.size)
  generalize hAe : va_A ws s.heap.size = A at hD ⊢
  have hA : ∀ q : Nat, s.heap.size ≤ q → A q := fun q h => by rw [← hAe]; exact Or.inr h
  have hS : va_S A s.heap s.heap [] := va_S.rf
  have hsm : smp ρ k0 [] ws ws := smp.rf ws
  have htx : tyx tys tys := tyx.rf tys
  have hin5 : ∀ w ∈ u_ws RX5 TX5 2, w ∈ wsX5_init := (fun _ h9 => List.mem_cons_of_mem _ ((List.mem_append_right _ h9)))
  have hl := lv_entry ([.ref h0]) (n := 1) (Nat.le_of_ble_eq_true rfl)
  rw [lg_entry_eq]
  generalize (lg_sl ([.ref h0]) ++ List.replicate (1 - (lg_sl ([.ref h0])).length) Slot.unset).toArray = ls at hl ⊢
  have hl : lv_has ls 1 [(0, .ref h0)] := hl
  refine lv_aload_n hx hb dX5_init_0 rfl (lv_at hl 0 rfl) ?_
  refine W.objInit hx hb hown (hts (.methodLink RX5 3 objectInit) (List.mem_of_getElem? (i := 1) rfl)) (hts (.instanceMethod objectInit) (List.mem_of_getElem? (i := 2) rfl)) (hts (.code objectInit ⟨#[0xb1]⟩ 1 none) (List.mem_of_getElem? (i := 3) rfl)) rfl (by rw [hml]; exact hl.1) rfl dX5_init_1 (Nat.le_of_ble_eq_true rfl) (Nat.le_of_ble_eq_true rfl) ?_
  refine W.eq (g2 := F0 m 4 ls []) rfl ?_
  refine lv_aload_n hx hb dX5_init_4 rfl (lv_at hl 0 rfl) ?_
  refine lv_iconst (v := 4) hx hb dX5_init_5 (by decide) ?_
  refine va_newa (atype := .int) (ty := .int) (a0 := (4, .inl (fun _ => 0))) (N' := 4) hx hb (hts (.arrayClass .int) (List.mem_of_getElem? (i := 4) rfl)) rfl hK hP hD hS hA (fun _ => rfl) (by decide) (by decide) (by decide) (Nat.le_of_ble_eq_true rfl) (Nat.le_of_ble_eq_true rfl) dX5_init_6 (fun q_1 y_2 H hK hP hD hS => ?_)
  have ht_4 : tyx tys (tys ++ [(y_2, .int)]) := tyx.app _ _
  have u_5 : (tys ++ [(y_2, .int)])[tys.length]? = some (y_2, .int) := ap_ty _ _
  generalize tys ++ [(y_2, .int)] = ty_3 at hK ht_4 u_5
  have htx := htx.tr ht_4
  have le_6 := hsm.1
  have hP : va_P D vwCl (ws ++ [(q_1, .inl (y_2, 4, .inl (fun _ => 0)))]) H := hP
  have hD : va_D A (ws ++ [(q_1, .inl (y_2, 4, .inl (fun _ => 0)))]) := hD
  have hm_8 : sm ρ [] ws (ws ++ [(q_1, .inl (y_2, 4, .inl (fun _ => 0)))]) := sm.app _ _ _ _
  have e_9 : (ws ++ [(q_1, .inl (y_2, 4, .inl (fun _ => 0)))])[ws.length]? = some (q_1, .inl (y_2, 4, .inl (fun _ => 0))) := ap_new _ _
  have hm_10 : sm (fun _ => 1) [] ws (ws ++ [(q_1, .inl (y_2, 4, .inl (fun _ => 0)))]) := sm.app _ _ _ _
  generalize ws ++ [(q_1, .inl (y_2, 4, .inl (fun _ => 0)))] = ws_7 at hP hD hm_8 hm_10 e_9
  have e_11 := hm_10.keep Nat.one_ne_zero e0
  have hsm := hsm.tr (hm_8.mono (fun _ h9 => absurd h9 List.not_mem_nil))
  refine W.widen (k := 1) (n := 4) (by omega) (by omega) ?_
  refine va_putF (D := D) (ci := 5) (v := .ref q_1) (ty := .array .int) (C := RX5) (T := TX5) (N := 2) hx hb hts hin5 tyX5 tyX5_ok nmX5 hown hK hP hD hS k0 e_11 rfl 0 (by decide) (hts (.fieldLink RX5 9 "HoneyHouse$Steps" "waters" "[I") (List.mem_of_getElem? (i := 5) rfl)) (fun _ h9 => h9) rfl hin rfl (tyX5_ok 0 (by decide)) rfl rfl (Nat.le_of_ble_eq_true rfl) dX5_init_8 (fun H locs hP hD hS => ?_)
  have hP : va_P D vwCl (ws_7.set k0 (h0, .inr (5, [.ref q_1, .null]))) H := hP
  have hD : va_D A (ws_7.set k0 (h0, .inr (5, [.ref q_1, .null]))) := hD
  have e_14 : (ws_7.set k0 (h0, .inr (5, [.ref q_1, .null])))[k0]? = some (h0, .inr (5, [.ref q_1, .null])) := wset_self e_11
  have e_15 := set_o (z := (h0, .inr (5, [.ref q_1, .null]))) e_9 e_11 (by intro h9; simp at h9)
  have hsm := hsm.set (h0, .inr (5, [.ref q_1, .null]))
  generalize ws_7.set k0 (h0, .inr (5, [.ref q_1, .null])) = ws_13 at hP hD e_14 e_15 hsm
  refine lv_aload_n hx hb dX5_init_11 rfl (lv_at hl 0 rfl) ?_
  refine lv_iconst (v := 4) hx hb dX5_init_12 (by decide) ?_
  refine va_newa (atype := .int) (ty := .int) (a0 := (4, .inl (fun _ => 0))) (N' := 4) hx hb (hts (.arrayClass .int) (List.mem_of_getElem? (i := 4) rfl)) rfl hK hP hD hS hA (fun _ => rfl) (by decide) (by decide) (by decide) (Nat.le_of_ble_eq_true rfl) (Nat.le_of_ble_eq_true rfl) dX5_init_13 (fun q_16 y_17 H hK hP hD hS => ?_)
  have ht_19 : tyx ty_3 (ty_3 ++ [(y_17, .int)]) := tyx.app _ _
  have u_20 : (ty_3 ++ [(y_17, .int)])[ty_3.length]? = some (y_17, .int) := ap_ty _ _
  generalize ty_3 ++ [(y_17, .int)] = ty_18 at hK ht_19 u_20
  have htx := htx.tr ht_19
  have le_21 := hsm.1
  have hP : va_P D vwCl (ws_13 ++ [(q_16, .inl (y_17, 4, .inl (fun _ => 0)))]) H := hP
  have hD : va_D A (ws_13 ++ [(q_16, .inl (y_17, 4, .inl (fun _ => 0)))]) := hD
  have hm_23 : sm ρ [] ws_13 (ws_13 ++ [(q_16, .inl (y_17, 4, .inl (fun _ => 0)))]) := sm.app _ _ _ _
  have e_24 : (ws_13 ++ [(q_16, .inl (y_17, 4, .inl (fun _ => 0)))])[ws_13.length]? = some (q_16, .inl (y_17, 4, .inl (fun _ => 0))) := ap_new _ _
  have hm_25 : sm (fun _ => 1) [] ws_13 (ws_13 ++ [(q_16, .inl (y_17, 4, .inl (fun _ => 0)))]) := sm.app _ _ _ _
  have lt_26 := (List.getElem?_eq_some_iff.mp e_15).1
  generalize ws_13 ++ [(q_16, .inl (y_17, 4, .inl (fun _ => 0)))] = ws_22 at hP hD hm_23 hm_25 e_24
  have e_27 := hm_25.keep Nat.one_ne_zero e_14
  have e_28 := hm_25.keep Nat.one_ne_zero e_15
  have u_29 := ht_19 _ _ u_5
  have hsm := hsm.tr (hm_23.mono (fun _ h9 => absurd h9 List.not_mem_nil))
  refine W.widen (k := 2) (n := 8) (by omega) (by omega) ?_
  refine va_putF (D := D) (ci := 5) (v := .ref q_16) (ty := .array .int) (C := RX5) (T := TX5) (N := 2) hx hb hts hin5 tyX5 tyX5_ok nmX5 hown hK hP hD hS k0 e_27 rfl 1 (by decide) (hts (.fieldLink RX5 15 "HoneyHouse$Steps" "prices" "[I") (List.mem_of_getElem? (i := 6) rfl)) (fun _ h9 => h9) rfl hin rfl (tyX5_ok 1 (by decide)) rfl rfl (Nat.le_of_ble_eq_true rfl) dX5_init_15 (fun H locs hP hD hS => ?_)
  have hP : va_P D vwCl (ws_22.set k0 (h0, .inr (5, [.ref q_1, .ref q_16]))) H := hP
  have hD : va_D A (ws_22.set k0 (h0, .inr (5, [.ref q_1, .ref q_16]))) := hD
  have e_32 : (ws_22.set k0 (h0, .inr (5, [.ref q_1, .ref q_16])))[k0]? = some (h0, .inr (5, [.ref q_1, .ref q_16])) := wset_self e_27
  have e_33 := set_o (z := (h0, .inr (5, [.ref q_1, .ref q_16]))) e_28 e_27 (by intro h9; simp at h9)
  have e_34 := set_o (z := (h0, .inr (5, [.ref q_1, .ref q_16]))) e_24 e_27 (by intro h9; simp at h9)
  have hsm := hsm.set (h0, .inr (5, [.ref q_1, .ref q_16]))
  generalize ws_22.set k0 (h0, .inr (5, [.ref q_1, .ref q_16])) = ws_31 at hP hD e_32 e_33 e_34 hsm
  refine W.widen (k := 2) (n := 8) (by omega) (by omega) ?_
  exact W.vret hx hb hr (fun t ht hW => ⟨⟨(), rfl, trivial, ws_31, ty_18, hsm, htx, by rw [ht]; exact hP, va_K.moved hW.alike hK, hD, ⟨q_1, q_16, ws.length, ws_13.length, y_2, y_17, tys.length, ty_3.length, e_32, e_33, u_29, e_34, u_20, by omega, by omega⟩⟩, hS.F ht⟩) hS.2.2 dX5_init_18
set_option maxHeartbeats 4000000 in
set_option maxRecDepth 100000 in
theorem c_X7_init (l : Launch) (D : va_G) (ρ : Nat → Nat) (ws : va_W) (tys : List (ClassId × FieldType)) (h0 k0 : Nat) (a1 a2 : Int32) (sz : Nat) (e0 : ws[k0]? = some (h0, .inr (7, [.null, .int 0, .int 0, .int 0, .int 0]))) (hle0 : ∀ k : Nat, ws.length ≤ k → ρ k = 0) : Met l yX7_init wsX7_init ({ frames := 1, cells := 1, slots := 40, locals := 16 }) (va_Pc [.ref h0, .int a1, .int a2] (fun U => U.heap.size = sz ∧ va_P D vwCl ws U.heap ∧ va_K D vwCl tys U ∧ va_D (fun _ => True) ws)) (va_Qv (fun _ : Unit => True) (fun (_ : Unit) (t : State) => ∃ (ws' : va_W) (tys' : List (ClassId × FieldType)), smp ρ k0 [] ws ws' ∧ tyx tys tys' ∧ va_P D vwCl ws' t.heap ∧ va_K D vwCl tys' t ∧ va_D (va_A ws sz) ws' ∧ (∃ (g kg : Nat) (cg : ClassId) (tg : Nat), ws'[k0]? = some (h0, .inr (7, [.ref g, .int 0, .int 0, .int a1, .int a2])) ∧ ws'[kg]? = some (g, .inl (cg, 40, .inl (fun _ => 0))) ∧ tys'[tg]? = some (cg, .int) ∧ ws.length ≤ kg)) (va_A ws sz)) 1 40 (va_A ws sz) := by
  refine Met.ofW (cc := cX7_init) (maxL := 3) (ret := none) (by decide) rfl ?_
  intro p e s m args below meth c s₁ B hml hv
  obtain ⟨rfl, hsz, hP, hK, hD0⟩ := hv
  have hx := B.exec
  have hb := B.bytes
  have hr := B.returns
  have hts := atoms_spec (ws := wsX7_init) B.pre
  have hown : s.vm.findClass RX7 = some m.cls := findClass_of_methodNamed B.named
  have hlocks := B.notSynchronized
  have hin : meth.name = "<init>" := (name_of_methodNamed B.named B.method).1
  subst hsz
  have hD := hD0.self (sz := s.heap.size)
  generalize hAe : va_A ws s.heap.size = A at hD ⊢
  have hA : ∀ q : Nat, s.heap.size ≤ q → A q := fun q h => by rw [← hAe]; exact Or.inr h
  have hS : va_S A s.heap s.heap [] := va_S.rf
  have hsm : smp ρ k0 [] ws ws := smp.rf ws
  have htx : tyx tys tys := tyx.rf tys
  have hin7 : ∀ w ∈ u_ws RX7 TX7 5, w ∈ wsX7_init := (fun _ h9 => List.mem_cons_of_mem _ ((List.mem_append_right _ h9)))
  have hl := lv_entry ([.ref h0, .int a1, .int a2]) (n := 3) (Nat.le_of_ble_eq_true rfl)
  rw [lg_entry_eq]
  generalize (lg_sl ([.ref h0, .int a1, .int a2]) ++ List.replicate (3 - (lg_sl ([.ref h0, .int a1, .int a2])).length) Slot.unset).toArray = ls at hl ⊢
  have hl : lv_has ls 3 [(0, .ref h0), (1, .int a1), (2, .int a2)] := hl
  refine lv_aload_n hx hb dX7_init_0 rfl (lv_at hl 0 rfl) ?_
  refine W.objInit hx hb hown (hts (.methodLink RX7 3 objectInit) (List.mem_of_getElem? (i := 1) rfl)) (hts (.instanceMethod objectInit) (List.mem_of_getElem? (i := 2) rfl)) (hts (.code objectInit ⟨#[0xb1]⟩ 1 none) (List.mem_of_getElem? (i := 3) rfl)) rfl (by rw [hml]; exact hl.1) rfl dX7_init_1 (Nat.le_of_ble_eq_true rfl) (Nat.le_of_ble_eq_true rfl) ?_
  refine W.eq (g2 := F0 m 4 ls []) rfl ?_
  refine lv_aload_n hx hb dX7_init_4 rfl (lv_at hl 0 rfl) ?_
  refine lv_bipush (v := 40) hx hb dX7_init_5 (by decide) ?_
  refine va_newa (atype := .int) (ty := .int) (a0 := (40, .inl (fun _ => 0))) (N' := 40) hx hb (hts (.arrayClass .int) (List.mem_of_getElem? (i := 4) rfl)) rfl hK hP hD hS hA (fun _ => rfl) (by decide) (by decide) (by decide) (Nat.le_of_ble_eq_true rfl) (Nat.le_of_ble_eq_true rfl) dX7_init_7 (fun q_1 y_2 H hK hP hD hS => ?_)
  have ht_4 : tyx tys (tys ++ [(y_2, .int)]) := tyx.app _ _
  have u_5 : (tys ++ [(y_2, .int)])[tys.length]? = some (y_2, .int) := ap_ty _ _
  generalize tys ++ [(y_2, .int)] = ty_3 at hK ht_4 u_5
  have htx := htx.tr ht_4
  have le_6 := hsm.1
  have hP : va_P D vwCl (ws ++ [(q_1, .inl (y_2, 40, .inl (fun _ => 0)))]) H := hP
  have hD : va_D A (ws ++ [(q_1, .inl (y_2, 40, .inl (fun _ => 0)))]) := hD
  have hm_8 : sm ρ [] ws (ws ++ [(q_1, .inl (y_2, 40, .inl (fun _ => 0)))]) := sm.app _ _ _ _
  have e_9 : (ws ++ [(q_1, .inl (y_2, 40, .inl (fun _ => 0)))])[ws.length]? = some (q_1, .inl (y_2, 40, .inl (fun _ => 0))) := ap_new _ _
  have hm_10 : sm (fun _ => 1) [] ws (ws ++ [(q_1, .inl (y_2, 40, .inl (fun _ => 0)))]) := sm.app _ _ _ _
  generalize ws ++ [(q_1, .inl (y_2, 40, .inl (fun _ => 0)))] = ws_7 at hP hD hm_8 hm_10 e_9
  have e_11 := hm_10.keep Nat.one_ne_zero e0
  have hsm := hsm.tr (hm_8.mono (fun _ h9 => absurd h9 List.not_mem_nil))
  refine W.widen (k := 1) (n := 40) (by omega) (by omega) ?_
  refine va_putF (D := D) (ci := 7) (v := .ref q_1) (ty := .array .int) (C := RX7) (T := TX7) (N := 5) hx hb hts hin7 tyX7 tyX7_ok nmX7 hown hK hP hD hS k0 e_11 rfl 0 (by decide) (hts (.fieldLink RX7 9 "HoneyHouse$Vessel" "grams" "[I") (List.mem_of_getElem? (i := 5) rfl)) (fun _ h9 => h9) rfl hin rfl (tyX7_ok 0 (by decide)) rfl rfl (Nat.le_of_ble_eq_true rfl) dX7_init_9 (fun H locs hP hD hS => ?_)
  have hP : va_P D vwCl (ws_7.set k0 (h0, .inr (7, [.ref q_1, .int 0, .int 0, .int 0, .int 0]))) H := hP
  have hD : va_D A (ws_7.set k0 (h0, .inr (7, [.ref q_1, .int 0, .int 0, .int 0, .int 0]))) := hD
  have e_14 : (ws_7.set k0 (h0, .inr (7, [.ref q_1, .int 0, .int 0, .int 0, .int 0])))[k0]? = some (h0, .inr (7, [.ref q_1, .int 0, .int 0, .int 0, .int 0])) := wset_self e_11
  have e_15 := set_o (z := (h0, .inr (7, [.ref q_1, .int 0, .int 0, .int 0, .int 0]))) e_9 e_11 (by intro h9; simp at h9)
  have hsm := hsm.set (h0, .inr (7, [.ref q_1, .int 0, .int 0, .int 0, .int 0]))
  generalize ws_7.set k0 (h0, .inr (7, [.ref q_1, .int 0, .int 0, .int 0, .int 0])) = ws_13 at hP hD e_14 e_15 hsm
  refine lv_aload_n hx hb dX7_init_12 rfl (lv_at hl 0 rfl) ?_
  refine lv_iload_n hx hb dX7_init_13 rfl (lv_at hl 1 rfl) ?_
  refine va_put (D := D) (ci := 7) (v := .int a1) (ty := .int) (C := RX7) (T := TX7) (N := 5) hx hb hts hin7 tyX7 tyX7_ok nmX7 hown hK hP hD hS k0 e_14 rfl 3 (by decide) (hts (.fieldLink RX7 15 "HoneyHouse$Vessel" "roomOrTank" "I") (List.mem_of_getElem? (i := 6) rfl)) (fun _ h9 => h9) rfl (tyX7_ok 3 (by decide)) rfl rfl (Nat.le_of_ble_eq_true rfl) dX7_init_14 (fun H locs hP hD hS => ?_)
  have hP : va_P D vwCl (ws_13.set k0 (h0, .inr (7, [.ref q_1, .int 0, .int 0, .int a1, .int 0]))) H := hP
  have hD : va_D A (ws_13.set k0 (h0, .inr (7, [.ref q_1, .int 0, .int 0, .int a1, .int 0]))) := hD
  have e_17 : (ws_13.set k0 (h0, .inr (7, [.ref q_1, .int 0, .int 0, .int a1, .int 0])))[k0]? = some (h0, .inr (7, [.ref q_1, .int 0, .int 0, .int a1, .int 0])) := wset_self e_14
  have e_18 := set_o (z := (h0, .inr (7, [.ref q_1, .int 0, .int 0, .int a1, .int 0]))) e_15 e_14 (by intro h9; simp at h9)
  have hsm := hsm.set (h0, .inr (7, [.ref q_1, .int 0, .int 0, .int a1, .int 0]))
  generalize ws_13.set k0 (h0, .inr (7, [.ref q_1, .int 0, .int 0, .int a1, .int 0])) = ws_16 at hP hD e_17 e_18 hsm
  refine lv_aload_n hx hb dX7_init_17 rfl (lv_at hl 0 rfl) ?_
  refine lv_iload_n hx hb dX7_init_18 rfl (lv_at hl 2 rfl) ?_
  refine va_put (D := D) (ci := 7) (v := .int a2) (ty := .int) (C := RX7) (T := TX7) (N := 5) hx hb hts hin7 tyX7 tyX7_ok nmX7 hown hK hP hD hS k0 e_17 rfl 4 (by decide) (hts (.fieldLink RX7 19 "HoneyHouse$Vessel" "priceOrDay" "I") (List.mem_of_getElem? (i := 7) rfl)) (fun _ h9 => h9) rfl (tyX7_ok 4 (by decide)) rfl rfl (Nat.le_of_ble_eq_true rfl) dX7_init_19 (fun H locs hP hD hS => ?_)
  have hP : va_P D vwCl (ws_16.set k0 (h0, .inr (7, [.ref q_1, .int 0, .int 0, .int a1, .int a2]))) H := hP
  have hD : va_D A (ws_16.set k0 (h0, .inr (7, [.ref q_1, .int 0, .int 0, .int a1, .int a2]))) := hD
  have e_20 : (ws_16.set k0 (h0, .inr (7, [.ref q_1, .int 0, .int 0, .int a1, .int a2])))[k0]? = some (h0, .inr (7, [.ref q_1, .int 0, .int 0, .int a1, .int a2])) := wset_self e_17
  have e_21 := set_o (z := (h0, .inr (7, [.ref q_1, .int 0, .int 0, .int a1, .int a2]))) e_18 e_17 (by intro h9; simp at h9)
  have hsm := hsm.set (h0, .inr (7, [.ref q_1, .int 0, .int 0, .int a1, .int a2]))
  generalize ws_16.set k0 (h0, .inr (7, [.ref q_1, .int 0, .int 0, .int a1, .int a2])) = ws_19 at hP hD e_20 e_21 hsm
  refine W.widen (k := 1) (n := 40) (by omega) (by omega) ?_
  exact W.vret hx hb hr (fun t ht hW => ⟨⟨(), rfl, trivial, ws_19, ty_3, hsm, htx, by rw [ht]; exact hP, va_K.moved hW.alike hK, hD, ⟨q_1, ws.length, y_2, tys.length, e_20, e_21, u_5, by omega⟩⟩, hS.F ht⟩) hS.2.2 dX7_init_22
set_option maxHeartbeats 4000000 in
set_option maxRecDepth 100000 in
theorem c_X3_init (l : Launch) (D : va_G) (ρ : Nat → Nat) (ws : va_W) (tys : List (ClassId × FieldType)) (h0 k0 : Nat) (a1 : Int64) (a2 : Int32) (cd kcd n : Nat) (ccd : ClassId) (tcd : Nat) (fcd : Nat → Int32) (sz : Nat) (e0 : ws[k0]? = some (h0, .inr (3, [.long 0, .int 0, .null, .int 0, .int 0]))) (hn : n ≤ 200) (ecd : ws[kcd]? = some (cd, .inl (ccd, n, .inl fcd))) (ucd : tys[tcd]? = some (ccd, .int)) (w_k0 : ρ k0 = 0) (w_kcd : ρ kcd = 0) : Met l yX3_init wsX3_init ({ frames := 1, cells := 0, slots := 0, locals := 16 }) (va_Pc [.ref h0, .long a1, .int a2, .ref cd] (fun U => U.heap.size = sz ∧ va_P D vwCl ws U.heap ∧ va_K D vwCl tys U ∧ va_D (fun _ => True) ws)) (va_Qv (fun _ : Unit => True) (fun (_ : Unit) (t : State) => ∃ (ws' : va_W) (tys' : List (ClassId × FieldType)), smp ρ k0 [] ws ws' ∧ tyx tys tys' ∧ va_P D vwCl ws' t.heap ∧ va_K D vwCl tys' t ∧ va_D (va_A ws sz) ws' ∧ (oR ρ ws' tys' h0)) (va_A ws sz)) 0 0 (va_A ws sz) := by
  refine Met.ofW (cc := cX3_init) (maxL := 5) (ret := none) (by decide) rfl ?_
  intro p e s m args below meth c s₁ B hml hv
  obtain ⟨rfl, hsz, hP, hK, hD0⟩ := hv
  have hx := B.exec
  have hb := B.bytes
  have hr := B.returns
  have hts := atoms_spec (ws := wsX3_init) B.pre
  have hown : s.vm.findClass RX3 = some m.cls := findClass_of_methodNamed B.named
  have hlocks := B.notSynchronized
  have hin : meth.name = "<init>" := (name_of_methodNamed B.named B.method).1
  subst hsz
  have hD := hD0.self (sz := s.heap.size)
  generalize hAe : va_A ws s.heap.size = A at hD ⊢
  have hA : ∀ q : Nat, s.heap.size ≤ q → A q := fun q h => by rw [← hAe]; exact Or.inr h
  have hS : va_S A s.heap s.heap [] := va_S.rf
  have hsm : smp ρ k0 [] ws ws := smp.rf ws
  have htx : tyx tys tys := tyx.rf tys
  have hin3 : ∀ w ∈ u_ws RX3 TX3 5, w ∈ wsX3_init := (fun _ h9 => List.mem_cons_of_mem _ ((List.mem_append_right _ h9)))
  have hl := lv_entry ([.ref h0, .long a1, .int a2, .ref cd]) (n := 5) (Nat.le_of_ble_eq_true rfl)
  rw [lg_entry_eq]
  generalize (lg_sl ([.ref h0, .long a1, .int a2, .ref cd]) ++ List.replicate (5 - (lg_sl ([.ref h0, .long a1, .int a2, .ref cd])).length) Slot.unset).toArray = ls at hl ⊢
  have hl : lv_has ls 5 [(0, .ref h0), (1, .long a1), (3, .int a2), (4, .ref cd)] := hl
  refine lv_aload_n hx hb dX3_init_0 rfl (lv_at hl 0 rfl) ?_
  refine W.objInit hx hb hown (hts (.methodLink RX3 1 objectInit) (List.mem_of_getElem? (i := 1) rfl)) (hts (.instanceMethod objectInit) (List.mem_of_getElem? (i := 2) rfl)) (hts (.code objectInit ⟨#[0xb1]⟩ 1 none) (List.mem_of_getElem? (i := 3) rfl)) rfl (by rw [hml]; exact hl.1) rfl dX3_init_1 (Nat.le_of_ble_eq_true rfl) (Nat.le_of_ble_eq_true rfl) ?_
  refine W.eq (g2 := F0 m 4 ls []) rfl ?_
  refine lv_aload_n hx hb dX3_init_4 rfl (lv_at hl 0 rfl) ?_
  refine lv_lload_n hx hb dX3_init_5 rfl (lv_at hl 1 rfl) ?_
  refine va_putF (D := D) (ci := 3) (v := .long a1) (ty := .long) (C := RX3) (T := TX3) (N := 5) hx hb hts hin3 tyX3 tyX3_ok nmX3 hown hK hP hD hS k0 e0 rfl 0 (by decide) (hts (.fieldLink RX3 7 "HoneyHouse$Rule" "nameKey" "J") (List.mem_of_getElem? (i := 4) rfl)) (fun _ h9 => h9) rfl hin rfl (tyX3_ok 0 (by decide)) rfl rfl (Nat.le_of_ble_eq_true rfl) dX3_init_6 (fun H locs hP hD hS => ?_)
  have hP : va_P D vwCl (ws.set k0 (h0, .inr (3, [.long a1, .int 0, .null, .int 0, .int 0]))) H := hP
  have hD : va_D A (ws.set k0 (h0, .inr (3, [.long a1, .int 0, .null, .int 0, .int 0]))) := hD
  have e_2 : (ws.set k0 (h0, .inr (3, [.long a1, .int 0, .null, .int 0, .int 0])))[k0]? = some (h0, .inr (3, [.long a1, .int 0, .null, .int 0, .int 0])) := wset_self e0
  have e_3 := set_o (z := (h0, .inr (3, [.long a1, .int 0, .null, .int 0, .int 0]))) ecd e0 (by intro h9; simp at h9)
  have hsm := hsm.set (h0, .inr (3, [.long a1, .int 0, .null, .int 0, .int 0]))
  generalize ws.set k0 (h0, .inr (3, [.long a1, .int 0, .null, .int 0, .int 0])) = ws_1 at hP hD e_2 e_3 hsm
  refine lv_aload_n hx hb dX3_init_9 rfl (lv_at hl 0 rfl) ?_
  refine lv_iload_n hx hb dX3_init_10 rfl (lv_at hl 2 rfl) ?_
  refine va_putF (D := D) (ci := 3) (v := .int a2) (ty := .int) (C := RX3) (T := TX3) (N := 5) hx hb hts hin3 tyX3 tyX3_ok nmX3 hown hK hP hD hS k0 e_2 rfl 1 (by decide) (hts (.fieldLink RX3 13 "HoneyHouse$Rule" "from" "I") (List.mem_of_getElem? (i := 5) rfl)) (fun _ h9 => h9) rfl hin rfl (tyX3_ok 1 (by decide)) rfl rfl (Nat.le_of_ble_eq_true rfl) dX3_init_11 (fun H locs hP hD hS => ?_)
  have hP : va_P D vwCl (ws_1.set k0 (h0, .inr (3, [.long a1, .int a2, .null, .int 0, .int 0]))) H := hP
  have hD : va_D A (ws_1.set k0 (h0, .inr (3, [.long a1, .int a2, .null, .int 0, .int 0]))) := hD
  have e_5 : (ws_1.set k0 (h0, .inr (3, [.long a1, .int a2, .null, .int 0, .int 0])))[k0]? = some (h0, .inr (3, [.long a1, .int a2, .null, .int 0, .int 0])) := wset_self e_2
  have e_6 := set_o (z := (h0, .inr (3, [.long a1, .int a2, .null, .int 0, .int 0]))) e_3 e_2 (by intro h9; simp at h9)
  have hsm := hsm.set (h0, .inr (3, [.long a1, .int a2, .null, .int 0, .int 0]))
  generalize ws_1.set k0 (h0, .inr (3, [.long a1, .int a2, .null, .int 0, .int 0])) = ws_4 at hP hD e_5 e_6 hsm
  refine lv_aload_n hx hb dX3_init_14 rfl (lv_at hl 0 rfl) ?_
  refine lv_aload hx hb dX3_init_15 (lv_at hl 3 rfl) ?_
  refine va_putF (D := D) (ci := 3) (v := .ref cd) (ty := .array .int) (C := RX3) (T := TX3) (N := 5) hx hb hts hin3 tyX3 tyX3_ok nmX3 hown hK hP hD hS k0 e_5 rfl 2 (by decide) (hts (.fieldLink RX3 17 "HoneyHouse$Rule" "code" "[I") (List.mem_of_getElem? (i := 6) rfl)) (fun _ h9 => h9) rfl hin rfl (tyX3_ok 2 (by decide)) rfl rfl (Nat.le_of_ble_eq_true rfl) dX3_init_17 (fun H locs hP hD hS => ?_)
  have hP : va_P D vwCl (ws_4.set k0 (h0, .inr (3, [.long a1, .int a2, .ref cd, .int 0, .int 0]))) H := hP
  have hD : va_D A (ws_4.set k0 (h0, .inr (3, [.long a1, .int a2, .ref cd, .int 0, .int 0]))) := hD
  have e_8 : (ws_4.set k0 (h0, .inr (3, [.long a1, .int a2, .ref cd, .int 0, .int 0])))[k0]? = some (h0, .inr (3, [.long a1, .int a2, .ref cd, .int 0, .int 0])) := wset_self e_5
  have e_9 := set_o (z := (h0, .inr (3, [.long a1, .int a2, .ref cd, .int 0, .int 0]))) e_6 e_5 (by intro h9; simp at h9)
  have hsm := hsm.set (h0, .inr (3, [.long a1, .int a2, .ref cd, .int 0, .int 0]))
  generalize ws_4.set k0 (h0, .inr (3, [.long a1, .int a2, .ref cd, .int 0, .int 0])) = ws_7 at hP hD e_8 e_9 hsm
  exact W.vret hx hb hr (fun t ht hW => ⟨⟨(), rfl, trivial, ws_7, tys, hsm, htx, by rw [ht]; exact hP, va_K.moved hW.alike hK, hD, ⟨k0, cd, n, a1, a2, 0, 0, e_8, w_k0, ⟨kcd, ccd, tcd, fcd, e_9, ucd, w_kcd⟩, hn⟩⟩, hS.F ht⟩) hS.2.2 dX3_init_20
set_option maxHeartbeats 4000000 in
set_option maxRecDepth 100000 in
theorem a_copyFrom (l : Launch) (D : va_G) (ρ : Nat → Nat) (ws : va_W) (tys : List (ClassId × FieldType)) (p9 kp9 p91 kp91 p92 kp92 : Nat) (cp91 cp92 : ClassId) (tp91 tp92 : Nat) (fp91 fp92 : Nat → Int32) (o ko o1 ko1 o2 ko2 : Nat) (co1 co2 : ClassId) (to1 to2 : Nat) (fo1 fo2 : Nat → Int32) (sz : Nat) (n1 : ko2 ≠ kp91) (n2 : kp91 ≠ kp92) (ep9 : ws[kp9]? = some (p9, .inr (5, [.ref p91, .ref p92]))) (ep91 : ws[kp91]? = some (p91, .inl (cp91, 4, .inl fp91))) (up91 : tys[tp91]? = some (cp91, .int)) (ep92 : ws[kp92]? = some (p92, .inl (cp92, 4, .inl fp92))) (up92 : tys[tp92]? = some (cp92, .int)) (eo : ws[ko]? = some (o, .inr (5, [.ref o1, .ref o2]))) (eo1 : ws[ko1]? = some (o1, .inl (co1, 4, .inl fo1))) (uo1 : tys[to1]? = some (co1, .int)) (eo2 : ws[ko2]? = some (o2, .inl (co2, 4, .inl fo2))) (uo2 : tys[to2]? = some (co2, .int)) (w_kp91 : ρ kp91 = 0) (w_kp92 : ρ kp92 = 0) : Met l yX5_copyFrom wsX5_copyFrom ({ frames := 1, cells := 0, slots := 0, locals := 40 }) (va_Pc [.ref p9, .ref o] (fun U => U.heap.size = sz ∧ va_P D vwCl ws U.heap ∧ va_K D vwCl tys U ∧ va_D (fun _ => True) ws)) (va_Qv (fun _ : Unit => True) (fun (_ : Unit) (t : State) => ∃ (ws' : va_W) (tys' : List (ClassId × FieldType)), sm ρ [] ws ws' ∧ tyx tys tys' ∧ va_P D vwCl ws' t.heap ∧ va_K D vwCl tys' t ∧ va_D (va_A ws sz) ws' ∧ (∃ (f1 f2 : Nat → Int32), ws'[kp91]? = some (p91, .inl (cp91, 4, .inl f1)) ∧ (∀ i : Nat, i < 4 → f1 i = fo1 i) ∧ ws'[kp92]? = some (p92, .inl (cp92, 4, .inl f2)) ∧ (∀ i : Nat, i < 4 → f2 i = fo2 i))) (va_A ws sz)) 0 0 (va_A ws sz) := by
  refine Met.ofW (cc := cX5_copyFrom) (maxL := 2) (ret := none) (by decide) rfl ?_
  intro p e s m args below meth c s₁ B hml hv
  obtain ⟨rfl, hsz, hP, hK, hD0⟩ := hv
  have hx := B.exec
  have hb := B.bytes
  have hr := B.returns
  have hts := atoms_spec (ws := wsX5_copyFrom) B.pre
  have hown : s.vm.findClass RX5 = some m.cls := findClass_of_methodNamed B.named
  have hlocks := B.notSynchronized
  subst hsz
  have hD := hD0.self (sz := s.heap.size)
  generalize hAe : va_A ws s.heap.size = A at hD ⊢
  have hA : ∀ q : Nat, s.heap.size ≤ q → A q := fun q h => by rw [← hAe]; exact Or.inr h
  have hS : va_S A s.heap s.heap [] := va_S.rf
  have hsm : sm ρ [] ws ws := sm.rf ws
  have htx : tyx tys tys := tyx.rf tys
  have hin5 : ∀ w ∈ u_ws RX5 TX5 2, w ∈ wsX5_copyFrom := (fun _ h9 => List.mem_cons_of_mem _ ((List.mem_append_right _ h9)))
  have hl := lv_entry ([.ref p9, .ref o]) (n := 2) (Nat.le_of_ble_eq_true rfl)
  rw [lg_entry_eq]
  generalize (lg_sl ([.ref p9, .ref o]) ++ List.replicate (2 - (lg_sl ([.ref p9, .ref o])).length) Slot.unset).toArray = ls at hl ⊢
  have hl : lv_has ls 2 [(0, .ref p9), (1, .ref o)] := hl
  refine lv_aload_n hx hb dX5_copyFrom_0 rfl (lv_at hl 1 rfl) ?_
  refine va_get (D := D) (ci := 5) (v := .ref o1) (C := RX5) (T := TX5) (N := 2) hx hb hts hin5 hown hK hP ko eo rfl 0 (by decide) (hts (.fieldLink RX5 9 "HoneyHouse$Steps" "waters" "[I") (List.mem_of_getElem? (i := 1) rfl)) (fun _ h9 => h9) rfl dX5_copyFrom_1 ?_
  refine lv_iconst (v := 0) hx hb dX5_copyFrom_4 (by decide) ?_
  refine lv_aload_n hx hb dX5_copyFrom_5 rfl (lv_at hl 0 rfl) ?_
  refine va_get (D := D) (ci := 5) (v := .ref p91) (C := RX5) (T := TX5) (N := 2) hx hb hts hin5 hown hK hP kp9 ep9 rfl 0 (by decide) (hts (.fieldLink RX5 9 "HoneyHouse$Steps" "waters" "[I") (List.mem_of_getElem? (i := 1) rfl)) (fun _ h9 => h9) rfl dX5_copyFrom_6 ?_
  refine lv_iconst (v := 0) hx hb dX5_copyFrom_9 (by decide) ?_
  refine lv_iconst (v := 4) hx hb dX5_copyFrom_10 (by decide) ?_
  refine va_copyi (ty := .int) (f := fo1) (g := fp91) (sp := 0) (dp := 0) (n := 4) hx hb (by rw [hml]; exact hl.1.symm) hown (hts (.methodLink RX5 18 arraycopyName) (List.mem_of_getElem? (i := 2) rfl)) (hts (.native arraycopyName) (List.mem_of_getElem? (i := 3) rfl)) (hts (.static arraycopyName) (List.mem_of_getElem? (i := 4) rfl)) (hts (.initialized "java/lang/System") (List.mem_of_getElem? (i := 5) rfl)) hK hP hD hS ko1 kp91 to1 tp91 eo1 ep91 uo1 up91 rfl (by decide) (by decide) (by decide) (by decide) (by decide) (fun _ _ => rfl) (Nat.le_of_ble_eq_true rfl) (Nat.le_of_ble_eq_true rfl) dX5_copyFrom_11 (fun H locs hP hD hS => ?_)
  have hm_2 : sm ρ [] ws (ws.set kp91 (p91, .inl (cp91, 4, .inl (va_cpy fo1 fp91 (0 : Int32).toNatClampNeg (0 : Int32).toNatClampNeg (4 : Int32).toNatClampNeg)))) := sm.ints ep91 w_kp91
  have e_3 : (ws.set kp91 (p91, .inl (cp91, 4, .inl (va_cpy fo1 fp91 (0 : Int32).toNatClampNeg (0 : Int32).toNatClampNeg (4 : Int32).toNatClampNeg))))[kp91]? = some (p91, .inl (cp91, 4, .inl (va_cpy fo1 fp91 (0 : Int32).toNatClampNeg (0 : Int32).toNatClampNeg (4 : Int32).toNatClampNeg))) := wset_self ep91
  have e_4 := set_n (z := (p91, .inl (cp91, 4, .inl (va_cpy fo1 fp91 (0 : Int32).toNatClampNeg (0 : Int32).toNatClampNeg (4 : Int32).toNatClampNeg)))) eo2 n1
  generalize ws.set kp91 (p91, .inl (cp91, 4, .inl (va_cpy fo1 fp91 (0 : Int32).toNatClampNeg (0 : Int32).toNatClampNeg (4 : Int32).toNatClampNeg))) = ws_1 at hP hD hm_2 e_3 e_4
  have e_5 := hm_2.objK ep9 (by decide)
  obtain ⟨f_7, e_6⟩ := hm_2.arrI ep92
  have e_8 := hm_2.objK eo (by decide)
  obtain ⟨f_10, e_9⟩ := hm_2.arrI eo1
  have hsm := hsm.tr (hm_2.mono (fun _ h9 => absurd h9 List.not_mem_nil))
  obtain ⟨f_11, hf_12⟩ : ∃ g9, g9 = va_cpy fo1 fp91 (0 : Int32).toNatClampNeg (0 : Int32).toNatClampNeg (4 : Int32).toNatClampNeg := ⟨_, rfl⟩
  rw [← hf_12] at e_3
  refine lv_aload_n hx hb dX5_copyFrom_14 rfl (lv_at hl 1 rfl) ?_
  refine va_get (D := D) (ci := 5) (v := .ref o2) (C := RX5) (T := TX5) (N := 2) hx hb hts hin5 hown hK hP ko e_8 rfl 1 (by decide) (hts (.fieldLink RX5 15 "HoneyHouse$Steps" "prices" "[I") (List.mem_of_getElem? (i := 6) rfl)) (fun _ h9 => h9) rfl dX5_copyFrom_15 ?_
  refine lv_iconst (v := 0) hx hb dX5_copyFrom_18 (by decide) ?_
  refine lv_aload_n hx hb dX5_copyFrom_19 rfl (lv_at hl 0 rfl) ?_
  refine va_get (D := D) (ci := 5) (v := .ref p92) (C := RX5) (T := TX5) (N := 2) hx hb hts hin5 hown hK hP kp9 e_5 rfl 1 (by decide) (hts (.fieldLink RX5 15 "HoneyHouse$Steps" "prices" "[I") (List.mem_of_getElem? (i := 6) rfl)) (fun _ h9 => h9) rfl dX5_copyFrom_20 ?_
  refine lv_iconst (v := 0) hx hb dX5_copyFrom_23 (by decide) ?_
  refine lv_iconst (v := 4) hx hb dX5_copyFrom_24 (by decide) ?_
  refine va_copyi (ty := .int) (f := fo2) (g := f_7) (sp := 0) (dp := 0) (n := 4) hx hb (by rw [hml]; exact hl.1.symm) hown (hts (.methodLink RX5 18 arraycopyName) (List.mem_of_getElem? (i := 2) rfl)) (hts (.native arraycopyName) (List.mem_of_getElem? (i := 3) rfl)) (hts (.static arraycopyName) (List.mem_of_getElem? (i := 4) rfl)) (hts (.initialized "java/lang/System") (List.mem_of_getElem? (i := 5) rfl)) hK hP hD hS ko2 kp92 to2 tp92 e_4 e_6 uo2 up92 rfl (by decide) (by decide) (by decide) (by decide) (by decide) (fun _ _ => rfl) (Nat.le_of_ble_eq_true rfl) (Nat.le_of_ble_eq_true rfl) dX5_copyFrom_25 (fun H locs hP hD hS => ?_)
  have hm_14 : sm ρ [] ws_1 (ws_1.set kp92 (p92, .inl (cp92, 4, .inl (va_cpy fo2 f_7 (0 : Int32).toNatClampNeg (0 : Int32).toNatClampNeg (4 : Int32).toNatClampNeg)))) := sm.ints e_6 w_kp92
  have e_15 : (ws_1.set kp92 (p92, .inl (cp92, 4, .inl (va_cpy fo2 f_7 (0 : Int32).toNatClampNeg (0 : Int32).toNatClampNeg (4 : Int32).toNatClampNeg))))[kp92]? = some (p92, .inl (cp92, 4, .inl (va_cpy fo2 f_7 (0 : Int32).toNatClampNeg (0 : Int32).toNatClampNeg (4 : Int32).toNatClampNeg))) := wset_self e_6
  have e_16 := set_n (z := (p92, .inl (cp92, 4, .inl (va_cpy fo2 f_7 (0 : Int32).toNatClampNeg (0 : Int32).toNatClampNeg (4 : Int32).toNatClampNeg)))) e_3 n2
  generalize ws_1.set kp92 (p92, .inl (cp92, 4, .inl (va_cpy fo2 f_7 (0 : Int32).toNatClampNeg (0 : Int32).toNatClampNeg (4 : Int32).toNatClampNeg))) = ws_13 at hP hD hm_14 e_15 e_16
  have e_17 := hm_14.objK e_5 (by decide)
  have e_18 := hm_14.objK e_8 (by decide)
  obtain ⟨f_20, e_19⟩ := hm_14.arrI e_9
  obtain ⟨f_22, e_21⟩ := hm_14.arrI e_4
  have hsm := hsm.tr (hm_14.mono (fun _ h9 => absurd h9 List.not_mem_nil))
  obtain ⟨f_23, hf_24⟩ : ∃ g9, g9 = va_cpy fo2 f_7 (0 : Int32).toNatClampNeg (0 : Int32).toNatClampNeg (4 : Int32).toNatClampNeg := ⟨_, rfl⟩
  rw [← hf_24] at e_15
  exact W.vret hx hb hr (fun t ht hW => ⟨⟨(), rfl, trivial, ws_13, tys, hsm, htx, by rw [ht]; exact hP, va_K.moved hW.alike hK, hD, ⟨f_11, f_23, e_16, fun i hi => by rw [hf_12]; exact cpy_4 hi, e_15, fun i hi => by rw [hf_24]; exact cpy_4 hi⟩⟩, hS.F ht⟩) hS.2.2 dX5_copyFrom_28
set_option maxHeartbeats 4000000 in
set_option maxRecDepth 100000 in
theorem c_X2_init (l : Launch) (D : va_G) (ρ : Nat → Nat) (ws : va_W) (tys : List (ClassId × FieldType)) (h0 k0 : Nat) (a1 a2 a3 a4 a5 : Int32) (o ko o1 ko1 o2 ko2 : Nat) (co1 co2 : ClassId) (to1 to2 : Nat) (fo1 fo2 : Nat → Int32) (sz : Nat) (e0 : ws[k0]? = some (h0, .inr (2, [.int 0, .int 0, .int 0, .int 0, .null, .null, .null, .int 0, .int 0, .int 0]))) (eo : ws[ko]? = some (o, .inr (5, [.ref o1, .ref o2]))) (eo1 : ws[ko1]? = some (o1, .inl (co1, 4, .inl fo1))) (uo1 : tys[to1]? = some (co1, .int)) (eo2 : ws[ko2]? = some (o2, .inl (co2, 4, .inl fo2))) (uo2 : tys[to2]? = some (co2, .int)) (hle0 : ∀ k : Nat, ws.length ≤ k → ρ k = 0) : Met l yX2_init wsX2_init ({ frames := 2, cells := 5, slots := 20, locals := 61 }) (va_Pc [.ref h0, .int a1, .int a2, .int a3, .int a4, .int a5, .ref o] (fun U => U.heap.size = sz ∧ va_P D vwCl ws U.heap ∧ va_K D vwCl tys U ∧ va_D (fun _ => True) ws ∧ NZ U)) (va_Qv (fun _ : Unit => True) (fun (_ : Unit) (t : State) => ∃ (ws' : va_W) (tys' : List (ClassId × FieldType)), smp ρ k0 [] ws ws' ∧ tyx tys tys' ∧ va_P D vwCl ws' t.heap ∧ va_K D vwCl tys' t ∧ va_D (va_A ws sz) ws' ∧ (∃ (lo hi st g1 g2 kl kh ks k1 k2 : Nat) (cl ch c1 c2 : ClassId) (t5 t6 t1 t2 : Nat) (fl fh f1 f2 : Nat → Int32), ws'[k0]? = some (h0, .inr (2, [.int a1, .int a2, .int a4, .int a5, .ref lo, .ref hi, .ref st, .int a3, .int a2, .int (payF fo1 fo2 a2 a3)])) ∧ (ws'[kl]? = some (lo, .inl (cl, 5, .inl fl)) ∧ tys'[t5]? = some (cl, .int) ∧ ∀ i : Nat, i < 5 → fl i = 0) ∧ (ws'[kh]? = some (hi, .inl (ch, 5, .inl fh)) ∧ tys'[t6]? = some (ch, .int) ∧ ∀ i : Nat, i < 5 → fh i = 1000) ∧ ws'[ks]? = some (st, .inr (5, [.ref g1, .ref g2])) ∧ (ws'[k1]? = some (g1, .inl (c1, 4, .inl f1)) ∧ tys'[t1]? = some (c1, .int) ∧ ∀ i : Nat, i < 4 → f1 i = fo1 i) ∧ (ws'[k2]? = some (g2, .inl (c2, 4, .inl f2)) ∧ tys'[t2]? = some (c2, .int) ∧ ∀ i : Nat, i < 4 → f2 i = fo2 i) ∧ ws.length ≤ kl ∧ kl < kh ∧ kh < ks ∧ ks < k1 ∧ k1 < k2)) (va_A ws sz)) 5 20 (va_A ws sz) := by
  refine Met.ofW (cc := cX2_init) (maxL := 7) (ret := none) (by decide) rfl ?_
  intro p e s m args below meth c s₁ B hml hv
  obtain ⟨rfl, hsz, hP, hK, hD0, hnz⟩ := hv
  have hx := B.exec
  have hb := B.bytes
  have hr := B.returns
  have hts := atoms_spec (ws := wsX2_init) B.pre
  have hown : s.vm.findClass RX2 = some m.cls := findClass_of_methodNamed B.named
  have hlocks := B.notSynchronized
  have hin : meth.name = "<init>" := (name_of_methodNamed B.named B.method).1
  subst hsz
  have hD := hD0.self (sz := s.heap.size)
  generalize hAe : va_A ws s.heap.size = A at hD ⊢
  have hA : ∀ q : Nat, s.heap.size ≤ q → A q := fun q h => by rw [← hAe]; exact Or.inr h
  have hS : va_S A s.heap s.heap [] := va_S.rf
  have hsm : smp ρ k0 [] ws ws := smp.rf ws
  have htx : tyx tys tys := tyx.rf tys
  have hin2 : ∀ w ∈ u_ws RX2 TX2 10, w ∈ wsX2_init := (fun _ h9 => List.mem_cons_of_mem _ (List.mem_append_left _ ((List.mem_append_right _ h9))))
  have hin5 : ∀ w ∈ u_ws RX5 TX5 2, w ∈ wsX2_init := (fun _ h9 => List.mem_cons_of_mem _ ((List.mem_append_right _ h9)))
  have hl := lv_entry ([.ref h0, .int a1, .int a2, .int a3, .int a4, .int a5, .ref o]) (n := 7) (Nat.le_of_ble_eq_true rfl)
  rw [lg_entry_eq]
  generalize (lg_sl ([.ref h0, .int a1, .int a2, .int a3, .int a4, .int a5, .ref o]) ++ List.replicate (7 - (lg_sl ([.ref h0, .int a1, .int a2, .int a3, .int a4, .int a5, .ref o])).length) Slot.unset).toArray = ls at hl ⊢
  have hl : lv_has ls 7 [(0, .ref h0), (1, .int a1), (2, .int a2), (3, .int a3), (4, .int a4), (5, .int a5), (6, .ref o)] := hl
  have bo1 := (List.getElem?_eq_some_iff.mp eo1).1
  have bo2 := (List.getElem?_eq_some_iff.mp eo2).1
  have b0 := (List.getElem?_eq_some_iff.mp e0).1
  refine lv_aload_n hx hb dX2_init_0 rfl (lv_at hl 0 rfl) ?_
  refine W.objInit hx hb hown (hts (.methodLink RX2 3 objectInit) (List.mem_of_getElem? (i := 1) rfl)) (hts (.instanceMethod objectInit) (List.mem_of_getElem? (i := 2) rfl)) (hts (.code objectInit ⟨#[0xb1]⟩ 1 none) (List.mem_of_getElem? (i := 3) rfl)) rfl (by rw [hml]; exact hl.1) rfl dX2_init_1 (Nat.le_of_ble_eq_true rfl) (Nat.le_of_ble_eq_true rfl) ?_
  refine W.eq (g2 := F0 m 4 ls []) rfl ?_
  refine lv_aload_n hx hb dX2_init_4 rfl (lv_at hl 0 rfl) ?_
  refine lv_iconst (v := 5) hx hb dX2_init_5 (by decide) ?_
  refine va_newa (atype := .int) (ty := .int) (a0 := (5, .inl (fun _ => 0))) (N' := 5) hx hb (hts (.arrayClass .int) (List.mem_of_getElem? (i := 4) rfl)) rfl hK hP hD hS hA (fun _ => rfl) (by decide) (by decide) (by decide) (Nat.le_of_ble_eq_true rfl) (Nat.le_of_ble_eq_true rfl) dX2_init_6 (fun q_1 y_2 H hK hP hD hS => ?_)
  have ht_4 : tyx tys (tys ++ [(y_2, .int)]) := tyx.app _ _
  have u_5 : (tys ++ [(y_2, .int)])[tys.length]? = some (y_2, .int) := ap_ty _ _
  generalize tys ++ [(y_2, .int)] = ty_3 at hK ht_4 u_5
  have htx := htx.tr ht_4
  have le_6 := hsm.1
  have hP : va_P D vwCl (ws ++ [(q_1, .inl (y_2, 5, .inl (fun _ => 0)))]) H := hP
  have hD : va_D A (ws ++ [(q_1, .inl (y_2, 5, .inl (fun _ => 0)))]) := hD
  have hm_8 : sm ρ [] ws (ws ++ [(q_1, .inl (y_2, 5, .inl (fun _ => 0)))]) := sm.app _ _ _ _
  have e_9 : (ws ++ [(q_1, .inl (y_2, 5, .inl (fun _ => 0)))])[ws.length]? = some (q_1, .inl (y_2, 5, .inl (fun _ => 0))) := ap_new _ _
  have hm_10 : sm (fun _ => 1) [] ws (ws ++ [(q_1, .inl (y_2, 5, .inl (fun _ => 0)))]) := sm.app _ _ _ _
  generalize ws ++ [(q_1, .inl (y_2, 5, .inl (fun _ => 0)))] = ws_7 at hP hD hm_8 hm_10 e_9
  have e_11 := hm_10.keep Nat.one_ne_zero e0
  have e_12 := hm_10.keep Nat.one_ne_zero eo
  have e_13 := hm_10.keep Nat.one_ne_zero eo1
  have u_14 := ht_4 _ _ uo1
  have e_15 := hm_10.keep Nat.one_ne_zero eo2
  have u_16 := ht_4 _ _ uo2
  have hsm := hsm.tr (hm_8.mono (fun _ h9 => absurd h9 List.not_mem_nil))
  refine W.widen (k := 1) (n := 5) (by omega) (by omega) ?_
  refine va_putF (D := D) (ci := 2) (v := .ref q_1) (ty := .array .int) (C := RX2) (T := TX2) (N := 10) hx hb hts hin2 tyX2 tyX2_ok nmX2 hown hK hP hD hS k0 e_11 rfl 4 (by decide) (hts (.fieldLink RX2 9 "HoneyHouse$Lot" "low" "[I") (List.mem_of_getElem? (i := 5) rfl)) (fun _ h9 => h9) rfl hin rfl (tyX2_ok 4 (by decide)) rfl rfl (Nat.le_of_ble_eq_true rfl) dX2_init_8 (fun H locs hP hD hS => ?_)
  have hP : va_P D vwCl (ws_7.set k0 (h0, .inr (2, [.int 0, .int 0, .int 0, .int 0, .ref q_1, .null, .null, .int 0, .int 0, .int 0]))) H := hP
  have hD : va_D A (ws_7.set k0 (h0, .inr (2, [.int 0, .int 0, .int 0, .int 0, .ref q_1, .null, .null, .int 0, .int 0, .int 0]))) := hD
  have e_19 : (ws_7.set k0 (h0, .inr (2, [.int 0, .int 0, .int 0, .int 0, .ref q_1, .null, .null, .int 0, .int 0, .int 0])))[k0]? = some (h0, .inr (2, [.int 0, .int 0, .int 0, .int 0, .ref q_1, .null, .null, .int 0, .int 0, .int 0])) := wset_self e_11
  have e_20 := set_o (z := (h0, .inr (2, [.int 0, .int 0, .int 0, .int 0, .ref q_1, .null, .null, .int 0, .int 0, .int 0]))) e_12 e_11 (by intro h9; simp at h9)
  have e_21 := set_o (z := (h0, .inr (2, [.int 0, .int 0, .int 0, .int 0, .ref q_1, .null, .null, .int 0, .int 0, .int 0]))) e_13 e_11 (by intro h9; simp at h9)
  have e_22 := set_o (z := (h0, .inr (2, [.int 0, .int 0, .int 0, .int 0, .ref q_1, .null, .null, .int 0, .int 0, .int 0]))) e_15 e_11 (by intro h9; simp at h9)
  have e_23 := set_o (z := (h0, .inr (2, [.int 0, .int 0, .int 0, .int 0, .ref q_1, .null, .null, .int 0, .int 0, .int 0]))) e_9 e_11 (by intro h9; simp at h9)
  have hsm := hsm.set (h0, .inr (2, [.int 0, .int 0, .int 0, .int 0, .ref q_1, .null, .null, .int 0, .int 0, .int 0]))
  generalize ws_7.set k0 (h0, .inr (2, [.int 0, .int 0, .int 0, .int 0, .ref q_1, .null, .null, .int 0, .int 0, .int 0])) = ws_18 at hP hD e_19 e_20 e_21 e_22 e_23 hsm
  refine lv_aload_n hx hb dX2_init_11 rfl (lv_at hl 0 rfl) ?_
  refine lv_iconst (v := 5) hx hb dX2_init_12 (by decide) ?_
  refine va_newa (atype := .int) (ty := .int) (a0 := (5, .inl (fun _ => 0))) (N' := 5) hx hb (hts (.arrayClass .int) (List.mem_of_getElem? (i := 4) rfl)) rfl hK hP hD hS hA (fun _ => rfl) (by decide) (by decide) (by decide) (Nat.le_of_ble_eq_true rfl) (Nat.le_of_ble_eq_true rfl) dX2_init_13 (fun q_24 y_25 H hK hP hD hS => ?_)
  have ht_27 : tyx ty_3 (ty_3 ++ [(y_25, .int)]) := tyx.app _ _
  have u_28 : (ty_3 ++ [(y_25, .int)])[ty_3.length]? = some (y_25, .int) := ap_ty _ _
  generalize ty_3 ++ [(y_25, .int)] = ty_26 at hK ht_27 u_28
  have htx := htx.tr ht_27
  have le_29 := hsm.1
  have hP : va_P D vwCl (ws_18 ++ [(q_24, .inl (y_25, 5, .inl (fun _ => 0)))]) H := hP
  have hD : va_D A (ws_18 ++ [(q_24, .inl (y_25, 5, .inl (fun _ => 0)))]) := hD
  have hm_31 : sm ρ [] ws_18 (ws_18 ++ [(q_24, .inl (y_25, 5, .inl (fun _ => 0)))]) := sm.app _ _ _ _
  have e_32 : (ws_18 ++ [(q_24, .inl (y_25, 5, .inl (fun _ => 0)))])[ws_18.length]? = some (q_24, .inl (y_25, 5, .inl (fun _ => 0))) := ap_new _ _
  have hm_33 : sm (fun _ => 1) [] ws_18 (ws_18 ++ [(q_24, .inl (y_25, 5, .inl (fun _ => 0)))]) := sm.app _ _ _ _
  have lt_34 := (List.getElem?_eq_some_iff.mp e_23).1
  generalize ws_18 ++ [(q_24, .inl (y_25, 5, .inl (fun _ => 0)))] = ws_30 at hP hD hm_31 hm_33 e_32
  have e_35 := hm_33.keep Nat.one_ne_zero e_19
  have e_36 := hm_33.keep Nat.one_ne_zero e_20
  have e_37 := hm_33.keep Nat.one_ne_zero e_21
  have u_38 := ht_27 _ _ u_14
  have e_39 := hm_33.keep Nat.one_ne_zero e_22
  have u_40 := ht_27 _ _ u_16
  have e_41 := hm_33.keep Nat.one_ne_zero e_23
  have u_42 := ht_27 _ _ u_5
  have hsm := hsm.tr (hm_31.mono (fun _ h9 => absurd h9 List.not_mem_nil))
  refine W.widen (k := 2) (n := 10) (by omega) (by omega) ?_
  refine va_putF (D := D) (ci := 2) (v := .ref q_24) (ty := .array .int) (C := RX2) (T := TX2) (N := 10) hx hb hts hin2 tyX2 tyX2_ok nmX2 hown hK hP hD hS k0 e_35 rfl 5 (by decide) (hts (.fieldLink RX2 15 "HoneyHouse$Lot" "high" "[I") (List.mem_of_getElem? (i := 6) rfl)) (fun _ h9 => h9) rfl hin rfl (tyX2_ok 5 (by decide)) rfl rfl (Nat.le_of_ble_eq_true rfl) dX2_init_15 (fun H locs hP hD hS => ?_)
  have hP : va_P D vwCl (ws_30.set k0 (h0, .inr (2, [.int 0, .int 0, .int 0, .int 0, .ref q_1, .ref q_24, .null, .int 0, .int 0, .int 0]))) H := hP
  have hD : va_D A (ws_30.set k0 (h0, .inr (2, [.int 0, .int 0, .int 0, .int 0, .ref q_1, .ref q_24, .null, .int 0, .int 0, .int 0]))) := hD
  have e_45 : (ws_30.set k0 (h0, .inr (2, [.int 0, .int 0, .int 0, .int 0, .ref q_1, .ref q_24, .null, .int 0, .int 0, .int 0])))[k0]? = some (h0, .inr (2, [.int 0, .int 0, .int 0, .int 0, .ref q_1, .ref q_24, .null, .int 0, .int 0, .int 0])) := wset_self e_35
  have e_46 := set_o (z := (h0, .inr (2, [.int 0, .int 0, .int 0, .int 0, .ref q_1, .ref q_24, .null, .int 0, .int 0, .int 0]))) e_36 e_35 (by intro h9; simp at h9)
  have e_47 := set_o (z := (h0, .inr (2, [.int 0, .int 0, .int 0, .int 0, .ref q_1, .ref q_24, .null, .int 0, .int 0, .int 0]))) e_37 e_35 (by intro h9; simp at h9)
  have e_48 := set_o (z := (h0, .inr (2, [.int 0, .int 0, .int 0, .int 0, .ref q_1, .ref q_24, .null, .int 0, .int 0, .int 0]))) e_39 e_35 (by intro h9; simp at h9)
  have e_49 := set_o (z := (h0, .inr (2, [.int 0, .int 0, .int 0, .int 0, .ref q_1, .ref q_24, .null, .int 0, .int 0, .int 0]))) e_41 e_35 (by intro h9; simp at h9)
  have e_50 := set_o (z := (h0, .inr (2, [.int 0, .int 0, .int 0, .int 0, .ref q_1, .ref q_24, .null, .int 0, .int 0, .int 0]))) e_32 e_35 (by intro h9; simp at h9)
  have hsm := hsm.set (h0, .inr (2, [.int 0, .int 0, .int 0, .int 0, .ref q_1, .ref q_24, .null, .int 0, .int 0, .int 0]))
  generalize ws_30.set k0 (h0, .inr (2, [.int 0, .int 0, .int 0, .int 0, .ref q_1, .ref q_24, .null, .int 0, .int 0, .int 0])) = ws_44 at hP hD e_45 e_46 e_47 e_48 e_49 e_50 hsm
  refine lv_aload_n hx hb dX2_init_18 rfl (lv_at hl 0 rfl) ?_
  refine va_new (ci := 5) (fs := [.null, .null]) (C := RX5) (T := TX5) (N := 2) hx hb hts hin5 tyX5 tyX5_ok hown (hts (.classLink RX2 18 RX5) (List.mem_of_getElem? (i := 7) rfl)) (hts (.instantiable RX5 2) (List.mem_of_getElem? (i := 8) rfl)) (hts (.initialized RX5) (List.mem_of_getElem? (i := 9) rfl)) hK hP hD hS hA rfl (fun j hj => by rcases (show j = 0 ∨ j = 1 by omega) with rfl | rfl <;> rfl) (Nat.le_of_ble_eq_true rfl) (Nat.le_of_ble_eq_true rfl) dX2_init_19 (fun q_51 H hP hD hS => ?_)
  have le_52 := hsm.1
  have hP : va_P D vwCl (ws_44 ++ [(q_51, .inr (5, [.null, .null]))]) H := hP
  have hD : va_D A (ws_44 ++ [(q_51, .inr (5, [.null, .null]))]) := hD
  have hm_54 : sm ρ [] ws_44 (ws_44 ++ [(q_51, .inr (5, [.null, .null]))]) := sm.app _ _ _ _
  have e_55 : (ws_44 ++ [(q_51, .inr (5, [.null, .null]))])[ws_44.length]? = some (q_51, .inr (5, [.null, .null])) := ap_new _ _
  have hm_56 : sm (fun _ => 1) [] ws_44 (ws_44 ++ [(q_51, .inr (5, [.null, .null]))]) := sm.app _ _ _ _
  have lt_57 := (List.getElem?_eq_some_iff.mp e_49).1
  have lt_58 := (List.getElem?_eq_some_iff.mp e_50).1
  generalize ws_44 ++ [(q_51, .inr (5, [.null, .null]))] = ws_53 at hP hD hm_54 hm_56 e_55
  have e_59 := hm_56.keep Nat.one_ne_zero e_45
  have e_60 := hm_56.keep Nat.one_ne_zero e_46
  have e_61 := hm_56.keep Nat.one_ne_zero e_47
  have e_62 := hm_56.keep Nat.one_ne_zero e_48
  have e_63 := hm_56.keep Nat.one_ne_zero e_49
  have e_64 := hm_56.keep Nat.one_ne_zero e_50
  have hsm := hsm.tr (hm_54.mono (fun _ h9 => absurd h9 List.not_mem_nil))
  refine W.widen (k := 3) (n := 12) (by omega) (by omega) ?_
  refine lv_dup hx hb dX2_init_22 rfl ?_
  have hFc := free_all hD hS hA
  refine va_callv (va_runIN (As := []) (rest := [.ref q_51, .ref h0]) ⟨hx, hb, hml, hown, hts⟩ (c_X5_init l D (rl ws_53) ws_53 ty_26 q_51 ws_44.length H.size e_55 (fun _ h9 => rl_out h9)) ⟨va_cnB 0 hts gX2_init_X5_init_n20 rfl rfl rfl hnz.1 (hts (.initialized RX5) (List.mem_of_getElem? (i := 9) rfl)) (by decide +kernel) ⟨Nat.le_of_ble_eq_true rfl, Nat.le_of_ble_eq_true rfl⟩, rfl, (hts (.instanceMethod yX5_init) (List.mem_of_getElem? (i := 18) rfl))⟩ ⟨fun a U g mk q => by obtain ⟨q0, q1, qP, qK, qD⟩ := q; exact ⟨q0, q1, qP, va_K.moved (u := U) (U := U.calling g mk a) (Vm.Alike.refl U.vm) qK, qD⟩, fun U hU hW => ⟨rfl, by rw [hU], by rw [hU]; exact hP, va_K.moved hW.alike hK, hD.weaken (fun _ _ _ _ => trivial)⟩⟩ rfl rfl hl.1 rfl (lv_room (Nat.le_of_ble_eq_true rfl)) dX2_init_23 ⟨Nat.le_of_ble_eq_true rfl, Nat.le_of_ble_eq_true rfl⟩) hS (fun q _ h => hFc q h) hFc (fun u t H1 locs ht hvm w_65 hB hz1 hk1 hS => ?_)
  obtain ⟨ws_66, ty_67, hm_68, ht_70, hP1, hK1, hD1, hx_69⟩ := hB
  rw [ht] at hP1
  have hK := va_K.moved hvm.symm hK1
  have hD := hD1.weaken (fun _ _ _ h => hFc _ h)
  generalize H1 = H at hP1 hS ⊢
  have hP := hP1
  have e_71 := hm_68.keep (pl_ne e_59 e_55 (by intro h9; simp at h9)) (rl_in (List.getElem?_eq_some_iff.mp e_59).1) e_59
  have e_72 := hm_68.keep (pl_ne e_60 e_55 (by intro h9; simp at h9)) (rl_in (List.getElem?_eq_some_iff.mp e_60).1) e_60
  have e_73 := hm_68.keep (pl_ne e_61 e_55 (by intro h9; simp at h9)) (rl_in (List.getElem?_eq_some_iff.mp e_61).1) e_61
  have u_74 := ht_70 _ _ u_38
  have e_75 := hm_68.keep (pl_ne e_62 e_55 (by intro h9; simp at h9)) (rl_in (List.getElem?_eq_some_iff.mp e_62).1) e_62
  have u_76 := ht_70 _ _ u_40
  have e_77 := hm_68.keep (pl_ne e_63 e_55 (by intro h9; simp at h9)) (rl_in (List.getElem?_eq_some_iff.mp e_63).1) e_63
  have u_78 := ht_70 _ _ u_42
  have e_79 := hm_68.keep (pl_ne e_64 e_55 (by intro h9; simp at h9)) (rl_in (List.getElem?_eq_some_iff.mp e_64).1) e_64
  have u_80 := ht_70 _ _ u_28
  have hm_81 : smp ρ ws_44.length [] ws_53 ws_66 := hm_68.up (fun k hk _ => rl_in hk)
  have lt_82 := (List.getElem?_eq_some_iff.mp e_55).1
  have le_83 := hsm.1
  have hsm := hsm.trk (hm_81.mono (fun _ h9 => absurd h9 List.not_mem_nil)) le_52
  have htx := htx.tr ht_70
  refine W.widen (k := 5) (n := 20) (by omega) (by omega) ?_
  obtain ⟨g_84, g_85, k_86, k_87, c9_88, c9_89, t_90, t_91, e_92, e_93, u_94, e_95, u_96, le_97, lt_98⟩ := hx_69
  have le_99 := le_97
  have le_100 := le_97
  refine va_putF (D := D) (ci := 2) (v := .ref q_51) (ty := .object "HoneyHouse$Steps") (C := RX2) (T := TX2) (N := 10) hx hb hts hin2 tyX2 tyX2_ok nmX2 hown hK hP hD hS k0 e_71 rfl 6 (by decide) (hts (.fieldLink RX2 21 "HoneyHouse$Lot" "steps" "LHoneyHouse$Steps;") (List.mem_of_getElem? (i := 10) rfl)) (fun _ h9 => h9) rfl hin rfl (tyX2_ok 6 (by decide)) rfl rfl (Nat.le_of_ble_eq_true rfl) dX2_init_26 (fun H locs hP hD hS => ?_)
  have hP : va_P D vwCl (ws_66.set k0 (h0, .inr (2, [.int 0, .int 0, .int 0, .int 0, .ref q_1, .ref q_24, .ref q_51, .int 0, .int 0, .int 0]))) H := hP
  have hD : va_D A (ws_66.set k0 (h0, .inr (2, [.int 0, .int 0, .int 0, .int 0, .ref q_1, .ref q_24, .ref q_51, .int 0, .int 0, .int 0]))) := hD
  have e_102 : (ws_66.set k0 (h0, .inr (2, [.int 0, .int 0, .int 0, .int 0, .ref q_1, .ref q_24, .ref q_51, .int 0, .int 0, .int 0])))[k0]? = some (h0, .inr (2, [.int 0, .int 0, .int 0, .int 0, .ref q_1, .ref q_24, .ref q_51, .int 0, .int 0, .int 0])) := wset_self e_71
  have e_103 := set_o (z := (h0, .inr (2, [.int 0, .int 0, .int 0, .int 0, .ref q_1, .ref q_24, .ref q_51, .int 0, .int 0, .int 0]))) e_72 e_71 (by intro h9; simp at h9)
  have e_104 := set_o (z := (h0, .inr (2, [.int 0, .int 0, .int 0, .int 0, .ref q_1, .ref q_24, .ref q_51, .int 0, .int 0, .int 0]))) e_73 e_71 (by intro h9; simp at h9)
  have e_105 := set_o (z := (h0, .inr (2, [.int 0, .int 0, .int 0, .int 0, .ref q_1, .ref q_24, .ref q_51, .int 0, .int 0, .int 0]))) e_75 e_71 (by intro h9; simp at h9)
  have e_106 := set_o (z := (h0, .inr (2, [.int 0, .int 0, .int 0, .int 0, .ref q_1, .ref q_24, .ref q_51, .int 0, .int 0, .int 0]))) e_77 e_71 (by intro h9; simp at h9)
  have e_107 := set_o (z := (h0, .inr (2, [.int 0, .int 0, .int 0, .int 0, .ref q_1, .ref q_24, .ref q_51, .int 0, .int 0, .int 0]))) e_79 e_71 (by intro h9; simp at h9)
  have e_108 := set_o (z := (h0, .inr (2, [.int 0, .int 0, .int 0, .int 0, .ref q_1, .ref q_24, .ref q_51, .int 0, .int 0, .int 0]))) e_92 e_71 (by intro h9; simp at h9)
  have e_109 := set_o (z := (h0, .inr (2, [.int 0, .int 0, .int 0, .int 0, .ref q_1, .ref q_24, .ref q_51, .int 0, .int 0, .int 0]))) e_93 e_71 (by intro h9; simp at h9)
  have e_110 := set_o (z := (h0, .inr (2, [.int 0, .int 0, .int 0, .int 0, .ref q_1, .ref q_24, .ref q_51, .int 0, .int 0, .int 0]))) e_95 e_71 (by intro h9; simp at h9)
  have hsm := hsm.set (h0, .inr (2, [.int 0, .int 0, .int 0, .int 0, .ref q_1, .ref q_24, .ref q_51, .int 0, .int 0, .int 0]))
  generalize ws_66.set k0 (h0, .inr (2, [.int 0, .int 0, .int 0, .int 0, .ref q_1, .ref q_24, .ref q_51, .int 0, .int 0, .int 0])) = ws_101 at hP hD e_102 e_103 e_104 e_105 e_106 e_107 e_108 e_109 e_110 hsm
  refine lv_aload_n hx hb dX2_init_29 rfl (lv_at hl 0 rfl) ?_
  refine lv_iload_n hx hb dX2_init_30 rfl (lv_at hl 1 rfl) ?_
  refine va_putF (D := D) (ci := 2) (v := .int a1) (ty := .int) (C := RX2) (T := TX2) (N := 10) hx hb hts hin2 tyX2 tyX2_ok nmX2 hown hK hP hD hS k0 e_102 rfl 0 (by decide) (hts (.fieldLink RX2 25 "HoneyHouse$Lot" "keeper" "I") (List.mem_of_getElem? (i := 11) rfl)) (fun _ h9 => h9) rfl hin rfl (tyX2_ok 0 (by decide)) rfl rfl (Nat.le_of_ble_eq_true rfl) dX2_init_31 (fun H locs hP hD hS => ?_)
  have hP : va_P D vwCl (ws_101.set k0 (h0, .inr (2, [.int a1, .int 0, .int 0, .int 0, .ref q_1, .ref q_24, .ref q_51, .int 0, .int 0, .int 0]))) H := hP
  have hD : va_D A (ws_101.set k0 (h0, .inr (2, [.int a1, .int 0, .int 0, .int 0, .ref q_1, .ref q_24, .ref q_51, .int 0, .int 0, .int 0]))) := hD
  have e_112 : (ws_101.set k0 (h0, .inr (2, [.int a1, .int 0, .int 0, .int 0, .ref q_1, .ref q_24, .ref q_51, .int 0, .int 0, .int 0])))[k0]? = some (h0, .inr (2, [.int a1, .int 0, .int 0, .int 0, .ref q_1, .ref q_24, .ref q_51, .int 0, .int 0, .int 0])) := wset_self e_102
  have e_113 := set_o (z := (h0, .inr (2, [.int a1, .int 0, .int 0, .int 0, .ref q_1, .ref q_24, .ref q_51, .int 0, .int 0, .int 0]))) e_103 e_102 (by intro h9; simp at h9)
  have e_114 := set_o (z := (h0, .inr (2, [.int a1, .int 0, .int 0, .int 0, .ref q_1, .ref q_24, .ref q_51, .int 0, .int 0, .int 0]))) e_104 e_102 (by intro h9; simp at h9)
  have e_115 := set_o (z := (h0, .inr (2, [.int a1, .int 0, .int 0, .int 0, .ref q_1, .ref q_24, .ref q_51, .int 0, .int 0, .int 0]))) e_105 e_102 (by intro h9; simp at h9)
  have e_116 := set_o (z := (h0, .inr (2, [.int a1, .int 0, .int 0, .int 0, .ref q_1, .ref q_24, .ref q_51, .int 0, .int 0, .int 0]))) e_106 e_102 (by intro h9; simp at h9)
  have e_117 := set_o (z := (h0, .inr (2, [.int a1, .int 0, .int 0, .int 0, .ref q_1, .ref q_24, .ref q_51, .int 0, .int 0, .int 0]))) e_107 e_102 (by intro h9; simp at h9)
  have e_118 := set_o (z := (h0, .inr (2, [.int a1, .int 0, .int 0, .int 0, .ref q_1, .ref q_24, .ref q_51, .int 0, .int 0, .int 0]))) e_108 e_102 (by intro h9; simp at h9)
  have e_119 := set_o (z := (h0, .inr (2, [.int a1, .int 0, .int 0, .int 0, .ref q_1, .ref q_24, .ref q_51, .int 0, .int 0, .int 0]))) e_109 e_102 (by intro h9; simp at h9)
  have e_120 := set_o (z := (h0, .inr (2, [.int a1, .int 0, .int 0, .int 0, .ref q_1, .ref q_24, .ref q_51, .int 0, .int 0, .int 0]))) e_110 e_102 (by intro h9; simp at h9)
  have hsm := hsm.set (h0, .inr (2, [.int a1, .int 0, .int 0, .int 0, .ref q_1, .ref q_24, .ref q_51, .int 0, .int 0, .int 0]))
  generalize ws_101.set k0 (h0, .inr (2, [.int a1, .int 0, .int 0, .int 0, .ref q_1, .ref q_24, .ref q_51, .int 0, .int 0, .int 0])) = ws_111 at hP hD e_112 e_113 e_114 e_115 e_116 e_117 e_118 e_119 e_120 hsm
  refine lv_aload_n hx hb dX2_init_34 rfl (lv_at hl 0 rfl) ?_
  refine lv_iload_n hx hb dX2_init_35 rfl (lv_at hl 2 rfl) ?_
  refine va_putF (D := D) (ci := 2) (v := .int a2) (ty := .int) (C := RX2) (T := TX2) (N := 10) hx hb hts hin2 tyX2 tyX2_ok nmX2 hown hK hP hD hS k0 e_112 rfl 1 (by decide) (hts (.fieldLink RX2 29 "HoneyHouse$Lot" "grams" "I") (List.mem_of_getElem? (i := 12) rfl)) (fun _ h9 => h9) rfl hin rfl (tyX2_ok 1 (by decide)) rfl rfl (Nat.le_of_ble_eq_true rfl) dX2_init_36 (fun H locs hP hD hS => ?_)
  have hP : va_P D vwCl (ws_111.set k0 (h0, .inr (2, [.int a1, .int a2, .int 0, .int 0, .ref q_1, .ref q_24, .ref q_51, .int 0, .int 0, .int 0]))) H := hP
  have hD : va_D A (ws_111.set k0 (h0, .inr (2, [.int a1, .int a2, .int 0, .int 0, .ref q_1, .ref q_24, .ref q_51, .int 0, .int 0, .int 0]))) := hD
  have e_122 : (ws_111.set k0 (h0, .inr (2, [.int a1, .int a2, .int 0, .int 0, .ref q_1, .ref q_24, .ref q_51, .int 0, .int 0, .int 0])))[k0]? = some (h0, .inr (2, [.int a1, .int a2, .int 0, .int 0, .ref q_1, .ref q_24, .ref q_51, .int 0, .int 0, .int 0])) := wset_self e_112
  have e_123 := set_o (z := (h0, .inr (2, [.int a1, .int a2, .int 0, .int 0, .ref q_1, .ref q_24, .ref q_51, .int 0, .int 0, .int 0]))) e_113 e_112 (by intro h9; simp at h9)
  have e_124 := set_o (z := (h0, .inr (2, [.int a1, .int a2, .int 0, .int 0, .ref q_1, .ref q_24, .ref q_51, .int 0, .int 0, .int 0]))) e_114 e_112 (by intro h9; simp at h9)
  have e_125 := set_o (z := (h0, .inr (2, [.int a1, .int a2, .int 0, .int 0, .ref q_1, .ref q_24, .ref q_51, .int 0, .int 0, .int 0]))) e_115 e_112 (by intro h9; simp at h9)
  have e_126 := set_o (z := (h0, .inr (2, [.int a1, .int a2, .int 0, .int 0, .ref q_1, .ref q_24, .ref q_51, .int 0, .int 0, .int 0]))) e_116 e_112 (by intro h9; simp at h9)
  have e_127 := set_o (z := (h0, .inr (2, [.int a1, .int a2, .int 0, .int 0, .ref q_1, .ref q_24, .ref q_51, .int 0, .int 0, .int 0]))) e_117 e_112 (by intro h9; simp at h9)
  have e_128 := set_o (z := (h0, .inr (2, [.int a1, .int a2, .int 0, .int 0, .ref q_1, .ref q_24, .ref q_51, .int 0, .int 0, .int 0]))) e_118 e_112 (by intro h9; simp at h9)
  have e_129 := set_o (z := (h0, .inr (2, [.int a1, .int a2, .int 0, .int 0, .ref q_1, .ref q_24, .ref q_51, .int 0, .int 0, .int 0]))) e_119 e_112 (by intro h9; simp at h9)
  have e_130 := set_o (z := (h0, .inr (2, [.int a1, .int a2, .int 0, .int 0, .ref q_1, .ref q_24, .ref q_51, .int 0, .int 0, .int 0]))) e_120 e_112 (by intro h9; simp at h9)
  have hsm := hsm.set (h0, .inr (2, [.int a1, .int a2, .int 0, .int 0, .ref q_1, .ref q_24, .ref q_51, .int 0, .int 0, .int 0]))
  generalize ws_111.set k0 (h0, .inr (2, [.int a1, .int a2, .int 0, .int 0, .ref q_1, .ref q_24, .ref q_51, .int 0, .int 0, .int 0])) = ws_121 at hP hD e_122 e_123 e_124 e_125 e_126 e_127 e_128 e_129 e_130 hsm
  refine lv_aload_n hx hb dX2_init_39 rfl (lv_at hl 0 rfl) ?_
  refine lv_iload_n hx hb dX2_init_40 rfl (lv_at hl 3 rfl) ?_
  refine va_put (D := D) (ci := 2) (v := .int a3) (ty := .int) (C := RX2) (T := TX2) (N := 10) hx hb hts hin2 tyX2 tyX2_ok nmX2 hown hK hP hD hS k0 e_122 rfl 7 (by decide) (hts (.fieldLink RX2 32 "HoneyHouse$Lot" "water" "I") (List.mem_of_getElem? (i := 13) rfl)) (fun _ h9 => h9) rfl (tyX2_ok 7 (by decide)) rfl rfl (Nat.le_of_ble_eq_true rfl) dX2_init_41 (fun H locs hP hD hS => ?_)
  have hP : va_P D vwCl (ws_121.set k0 (h0, .inr (2, [.int a1, .int a2, .int 0, .int 0, .ref q_1, .ref q_24, .ref q_51, .int a3, .int 0, .int 0]))) H := hP
  have hD : va_D A (ws_121.set k0 (h0, .inr (2, [.int a1, .int a2, .int 0, .int 0, .ref q_1, .ref q_24, .ref q_51, .int a3, .int 0, .int 0]))) := hD
  have e_132 : (ws_121.set k0 (h0, .inr (2, [.int a1, .int a2, .int 0, .int 0, .ref q_1, .ref q_24, .ref q_51, .int a3, .int 0, .int 0])))[k0]? = some (h0, .inr (2, [.int a1, .int a2, .int 0, .int 0, .ref q_1, .ref q_24, .ref q_51, .int a3, .int 0, .int 0])) := wset_self e_122
  have e_133 := set_o (z := (h0, .inr (2, [.int a1, .int a2, .int 0, .int 0, .ref q_1, .ref q_24, .ref q_51, .int a3, .int 0, .int 0]))) e_123 e_122 (by intro h9; simp at h9)
  have e_134 := set_o (z := (h0, .inr (2, [.int a1, .int a2, .int 0, .int 0, .ref q_1, .ref q_24, .ref q_51, .int a3, .int 0, .int 0]))) e_124 e_122 (by intro h9; simp at h9)
  have e_135 := set_o (z := (h0, .inr (2, [.int a1, .int a2, .int 0, .int 0, .ref q_1, .ref q_24, .ref q_51, .int a3, .int 0, .int 0]))) e_125 e_122 (by intro h9; simp at h9)
  have e_136 := set_o (z := (h0, .inr (2, [.int a1, .int a2, .int 0, .int 0, .ref q_1, .ref q_24, .ref q_51, .int a3, .int 0, .int 0]))) e_126 e_122 (by intro h9; simp at h9)
  have e_137 := set_o (z := (h0, .inr (2, [.int a1, .int a2, .int 0, .int 0, .ref q_1, .ref q_24, .ref q_51, .int a3, .int 0, .int 0]))) e_127 e_122 (by intro h9; simp at h9)
  have e_138 := set_o (z := (h0, .inr (2, [.int a1, .int a2, .int 0, .int 0, .ref q_1, .ref q_24, .ref q_51, .int a3, .int 0, .int 0]))) e_128 e_122 (by intro h9; simp at h9)
  have e_139 := set_o (z := (h0, .inr (2, [.int a1, .int a2, .int 0, .int 0, .ref q_1, .ref q_24, .ref q_51, .int a3, .int 0, .int 0]))) e_129 e_122 (by intro h9; simp at h9)
  have e_140 := set_o (z := (h0, .inr (2, [.int a1, .int a2, .int 0, .int 0, .ref q_1, .ref q_24, .ref q_51, .int a3, .int 0, .int 0]))) e_130 e_122 (by intro h9; simp at h9)
  have hsm := hsm.set (h0, .inr (2, [.int a1, .int a2, .int 0, .int 0, .ref q_1, .ref q_24, .ref q_51, .int a3, .int 0, .int 0]))
  generalize ws_121.set k0 (h0, .inr (2, [.int a1, .int a2, .int 0, .int 0, .ref q_1, .ref q_24, .ref q_51, .int a3, .int 0, .int 0])) = ws_131 at hP hD e_132 e_133 e_134 e_135 e_136 e_137 e_138 e_139 e_140 hsm
  refine lv_aload_n hx hb dX2_init_44 rfl (lv_at hl 0 rfl) ?_
  refine lv_iload hx hb dX2_init_45 (lv_at hl 4 rfl) ?_
  refine va_putF (D := D) (ci := 2) (v := .int a4) (ty := .int) (C := RX2) (T := TX2) (N := 10) hx hb hts hin2 tyX2 tyX2_ok nmX2 hown hK hP hD hS k0 e_132 rfl 2 (by decide) (hts (.fieldLink RX2 35 "HoneyHouse$Lot" "colour" "I") (List.mem_of_getElem? (i := 14) rfl)) (fun _ h9 => h9) rfl hin rfl (tyX2_ok 2 (by decide)) rfl rfl (Nat.le_of_ble_eq_true rfl) dX2_init_47 (fun H locs hP hD hS => ?_)
  have hP : va_P D vwCl (ws_131.set k0 (h0, .inr (2, [.int a1, .int a2, .int a4, .int 0, .ref q_1, .ref q_24, .ref q_51, .int a3, .int 0, .int 0]))) H := hP
  have hD : va_D A (ws_131.set k0 (h0, .inr (2, [.int a1, .int a2, .int a4, .int 0, .ref q_1, .ref q_24, .ref q_51, .int a3, .int 0, .int 0]))) := hD
  have e_142 : (ws_131.set k0 (h0, .inr (2, [.int a1, .int a2, .int a4, .int 0, .ref q_1, .ref q_24, .ref q_51, .int a3, .int 0, .int 0])))[k0]? = some (h0, .inr (2, [.int a1, .int a2, .int a4, .int 0, .ref q_1, .ref q_24, .ref q_51, .int a3, .int 0, .int 0])) := wset_self e_132
  have e_143 := set_o (z := (h0, .inr (2, [.int a1, .int a2, .int a4, .int 0, .ref q_1, .ref q_24, .ref q_51, .int a3, .int 0, .int 0]))) e_133 e_132 (by intro h9; simp at h9)
  have e_144 := set_o (z := (h0, .inr (2, [.int a1, .int a2, .int a4, .int 0, .ref q_1, .ref q_24, .ref q_51, .int a3, .int 0, .int 0]))) e_134 e_132 (by intro h9; simp at h9)
  have e_145 := set_o (z := (h0, .inr (2, [.int a1, .int a2, .int a4, .int 0, .ref q_1, .ref q_24, .ref q_51, .int a3, .int 0, .int 0]))) e_135 e_132 (by intro h9; simp at h9)
  have e_146 := set_o (z := (h0, .inr (2, [.int a1, .int a2, .int a4, .int 0, .ref q_1, .ref q_24, .ref q_51, .int a3, .int 0, .int 0]))) e_136 e_132 (by intro h9; simp at h9)
  have e_147 := set_o (z := (h0, .inr (2, [.int a1, .int a2, .int a4, .int 0, .ref q_1, .ref q_24, .ref q_51, .int a3, .int 0, .int 0]))) e_137 e_132 (by intro h9; simp at h9)
  have e_148 := set_o (z := (h0, .inr (2, [.int a1, .int a2, .int a4, .int 0, .ref q_1, .ref q_24, .ref q_51, .int a3, .int 0, .int 0]))) e_138 e_132 (by intro h9; simp at h9)
  have e_149 := set_o (z := (h0, .inr (2, [.int a1, .int a2, .int a4, .int 0, .ref q_1, .ref q_24, .ref q_51, .int a3, .int 0, .int 0]))) e_139 e_132 (by intro h9; simp at h9)
  have e_150 := set_o (z := (h0, .inr (2, [.int a1, .int a2, .int a4, .int 0, .ref q_1, .ref q_24, .ref q_51, .int a3, .int 0, .int 0]))) e_140 e_132 (by intro h9; simp at h9)
  have hsm := hsm.set (h0, .inr (2, [.int a1, .int a2, .int a4, .int 0, .ref q_1, .ref q_24, .ref q_51, .int a3, .int 0, .int 0]))
  generalize ws_131.set k0 (h0, .inr (2, [.int a1, .int a2, .int a4, .int 0, .ref q_1, .ref q_24, .ref q_51, .int a3, .int 0, .int 0])) = ws_141 at hP hD e_142 e_143 e_144 e_145 e_146 e_147 e_148 e_149 e_150 hsm
  refine lv_aload_n hx hb dX2_init_50 rfl (lv_at hl 0 rfl) ?_
  refine lv_iload hx hb dX2_init_51 (lv_at hl 5 rfl) ?_
  refine va_putF (D := D) (ci := 2) (v := .int a5) (ty := .int) (C := RX2) (T := TX2) (N := 10) hx hb hts hin2 tyX2 tyX2_ok nmX2 hown hK hP hD hS k0 e_142 rfl 3 (by decide) (hts (.fieldLink RX2 38 "HoneyHouse$Lot" "land" "I") (List.mem_of_getElem? (i := 15) rfl)) (fun _ h9 => h9) rfl hin rfl (tyX2_ok 3 (by decide)) rfl rfl (Nat.le_of_ble_eq_true rfl) dX2_init_53 (fun H locs hP hD hS => ?_)
  have hP : va_P D vwCl (ws_141.set k0 (h0, .inr (2, [.int a1, .int a2, .int a4, .int a5, .ref q_1, .ref q_24, .ref q_51, .int a3, .int 0, .int 0]))) H := hP
  have hD : va_D A (ws_141.set k0 (h0, .inr (2, [.int a1, .int a2, .int a4, .int a5, .ref q_1, .ref q_24, .ref q_51, .int a3, .int 0, .int 0]))) := hD
  have e_152 : (ws_141.set k0 (h0, .inr (2, [.int a1, .int a2, .int a4, .int a5, .ref q_1, .ref q_24, .ref q_51, .int a3, .int 0, .int 0])))[k0]? = some (h0, .inr (2, [.int a1, .int a2, .int a4, .int a5, .ref q_1, .ref q_24, .ref q_51, .int a3, .int 0, .int 0])) := wset_self e_142
  have e_153 := set_o (z := (h0, .inr (2, [.int a1, .int a2, .int a4, .int a5, .ref q_1, .ref q_24, .ref q_51, .int a3, .int 0, .int 0]))) e_143 e_142 (by intro h9; simp at h9)
  have e_154 := set_o (z := (h0, .inr (2, [.int a1, .int a2, .int a4, .int a5, .ref q_1, .ref q_24, .ref q_51, .int a3, .int 0, .int 0]))) e_144 e_142 (by intro h9; simp at h9)
  have e_155 := set_o (z := (h0, .inr (2, [.int a1, .int a2, .int a4, .int a5, .ref q_1, .ref q_24, .ref q_51, .int a3, .int 0, .int 0]))) e_145 e_142 (by intro h9; simp at h9)
  have e_156 := set_o (z := (h0, .inr (2, [.int a1, .int a2, .int a4, .int a5, .ref q_1, .ref q_24, .ref q_51, .int a3, .int 0, .int 0]))) e_146 e_142 (by intro h9; simp at h9)
  have e_157 := set_o (z := (h0, .inr (2, [.int a1, .int a2, .int a4, .int a5, .ref q_1, .ref q_24, .ref q_51, .int a3, .int 0, .int 0]))) e_147 e_142 (by intro h9; simp at h9)
  have e_158 := set_o (z := (h0, .inr (2, [.int a1, .int a2, .int a4, .int a5, .ref q_1, .ref q_24, .ref q_51, .int a3, .int 0, .int 0]))) e_148 e_142 (by intro h9; simp at h9)
  have e_159 := set_o (z := (h0, .inr (2, [.int a1, .int a2, .int a4, .int a5, .ref q_1, .ref q_24, .ref q_51, .int a3, .int 0, .int 0]))) e_149 e_142 (by intro h9; simp at h9)
  have e_160 := set_o (z := (h0, .inr (2, [.int a1, .int a2, .int a4, .int a5, .ref q_1, .ref q_24, .ref q_51, .int a3, .int 0, .int 0]))) e_150 e_142 (by intro h9; simp at h9)
  have hsm := hsm.set (h0, .inr (2, [.int a1, .int a2, .int a4, .int a5, .ref q_1, .ref q_24, .ref q_51, .int a3, .int 0, .int 0]))
  generalize ws_141.set k0 (h0, .inr (2, [.int a1, .int a2, .int a4, .int a5, .ref q_1, .ref q_24, .ref q_51, .int a3, .int 0, .int 0])) = ws_151 at hP hD e_152 e_153 e_154 e_155 e_156 e_157 e_158 e_159 e_160 hsm
  refine lv_aload_n hx hb dX2_init_56 rfl (lv_at hl 0 rfl) ?_
  refine va_get (D := D) (ci := 2) (v := .ref q_24) (C := RX2) (T := TX2) (N := 10) hx hb hts hin2 hown hK hP k0 e_152 rfl 5 (by decide) (hts (.fieldLink RX2 15 "HoneyHouse$Lot" "high" "[I") (List.mem_of_getElem? (i := 6) rfl)) (fun _ h9 => h9) rfl dX2_init_57 ?_
  refine lv_sipush (v := 1000) hx hb dX2_init_60 (by decide) ?_
  have hFc := free_all hD hS hA
  refine va_callv (va_runS (As := [.ref q_24, .int 1000]) (rest := []) ⟨hx, hb, hml, hown, hts⟩ (a_fill l D (rz [ws_18.length]) ws_151 ty_67 q_24 ws_18.length y_25 ty_3.length 5 (fun _ => 0) 1000 H.size (by omega) e_157 u_80 (rz_in (by simp))) (va_cwS 2 hts gX2_init_J7_fill_53178 rfl rfl rfl (by decide +kernel) ⟨Nat.le_of_ble_eq_true rfl, Nat.le_of_ble_eq_true rfl⟩) ⟨fun a U g mk q => by obtain ⟨q0, q1, qP, qK, qD⟩ := q; exact ⟨q0, q1, qP, va_K.moved (u := U) (U := U.calling g mk a) (Vm.Alike.refl U.vm) qK, qD⟩, fun U hU hW => ⟨rfl, by rw [hU], by rw [hU]; exact hP, va_K.moved hW.alike hK, hD.weaken (fun _ _ _ _ => trivial)⟩⟩ rfl rfl hl.1 rfl (lv_room (Nat.le_of_ble_eq_true rfl)) dX2_init_63 ⟨Nat.le_of_ble_eq_true rfl, Nat.le_of_ble_eq_true rfl⟩) hS (fun q _ h => hFc q h) hFc (fun u t H1 locs ht hvm w_161 hB hz1 hk1 hS => ?_)
  obtain ⟨ws_162, ty_163, hm_164, ht_166, hP1, hK1, hD1, hx_165⟩ := hB
  rw [ht] at hP1
  have hK := va_K.moved hvm.symm hK1
  have hD := hD1.weaken (fun _ _ _ h => hFc _ h)
  generalize H1 = H at hP1 hS ⊢
  have hP := hP1
  have e_167 := hm_164.keep (rz_o1 (pl_ne e_152 e_157 (by intro h9; simp at h9))) e_152
  have e_168 := hm_164.keep (rz_o1 (pl_ne e_153 e_157 (by intro h9; simp at h9))) e_153
  have e_169 := hm_164.keep (rz_o1 (pl_ne e_154 e_157 (by intro h9; simp at h9))) e_154
  have e_170 := hm_164.keep (rz_o1 (pl_ne e_155 e_157 (by intro h9; simp at h9))) e_155
  have e_171 := hm_164.keep (rz_o1 (by omega)) e_156
  have e_172 := hm_164.keep (rz_o1 (pl_ne e_158 e_157 (by intro h9; simp at h9))) e_158
  have e_173 := hm_164.keep (rz_o1 (pl_ne e_159 e_157 (by intro h9; simp at h9))) e_159
  have e_174 := hm_164.keep (rz_o1 (pl_ne e_160 e_157 (by intro h9; simp at h9))) e_160
  have u_175 := ht_166 _ _ u_74
  have u_176 := ht_166 _ _ u_76
  have u_177 := ht_166 _ _ u_78
  have u_178 := ht_166 _ _ u_80
  have u_179 := ht_166 _ _ u_94
  have u_180 := ht_166 _ _ u_96
  have hm_181 : sm ρ [] ws_151 ws_162 := hm_164.up (fun k _ h => rz_u1 (hle0 _ le_29) k h)
  have hsm := hsm.tr (hm_181.mono (by decide))
  have htx := htx.tr ht_166
  obtain ⟨f_182, e_183, g_184⟩ := hx_165
  refine lv_aload_n hx hb dX2_init_66 rfl (lv_at hl 0 rfl) ?_
  refine va_get (D := D) (ci := 2) (v := .ref q_51) (C := RX2) (T := TX2) (N := 10) hx hb hts hin2 hown hK hP k0 e_167 rfl 6 (by decide) (hts (.fieldLink RX2 21 "HoneyHouse$Lot" "steps" "LHoneyHouse$Steps;") (List.mem_of_getElem? (i := 10) rfl)) (fun _ h9 => h9) rfl dX2_init_67 ?_
  refine lv_aload hx hb dX2_init_70 (lv_at hl 6 rfl) ?_
  have hFc := free_all hD hS hA
  refine va_callv (va_runV (As := [.ref o]) (rest := []) ⟨hx, hb, hml, hown, hts⟩ (a_copyFrom l D (rz [k_86, k_87]) ws_162 ty_163 q_51 ws_44.length g_84 k_86 g_85 k_87 c9_88 c9_89 t_90 t_91 (fun _ => 0) (fun _ => 0) o ko o1 ko1 o2 ko2 co1 co2 to1 to2 fo1 fo2 H.size (by omega) (by omega) e_172 e_173 u_179 e_174 u_180 e_168 e_169 u_175 e_170 u_176 (rz_in (by simp)) (rz_in (by simp))) (cwV 1 hts gX2_init_X5_copyFrom rfl rfl rfl (by decide +kernel) ⟨Nat.le_of_ble_eq_true rfl, Nat.le_of_ble_eq_true rfl⟩) ⟨fun a U g mk q => by obtain ⟨q0, q1, qP, qK, qD⟩ := q; exact ⟨q0, q1, qP, va_K.moved (u := U) (U := U.calling g mk a) (Vm.Alike.refl U.vm) qK, qD⟩, va_recv hK hP (ci := 5) (q0 := ws_44.length) rfl e_172, fun U hU hW => ⟨rfl, by rw [hU], by rw [hU]; exact hP, va_K.moved hW.alike hK, hD.weaken (fun _ _ _ _ => trivial)⟩⟩ rfl rfl hl.1 rfl (lv_room (Nat.le_of_ble_eq_true rfl)) dX2_init_72 ⟨Nat.le_of_ble_eq_true rfl, Nat.le_of_ble_eq_true rfl⟩) hS (fun q _ h => hFc q h) hFc (fun u t H1 locs ht hvm w_185 hB hz1 hk1 hS => ?_)
  obtain ⟨ws_186, ty_187, hm_188, ht_190, hP1, hK1, hD1, hx_189⟩ := hB
  rw [ht] at hP1
  have hK := va_K.moved hvm.symm hK1
  have hD := hD1.weaken (fun _ _ _ h => hFc _ h)
  generalize H1 = H at hP1 hS ⊢
  have hP := hP1
  have e_191 := hm_188.keep (rz_o2 (pl_ne e_167 e_173 (by intro h9; simp at h9)) (pl_ne e_167 e_174 (by intro h9; simp at h9))) e_167
  have e_192 := hm_188.keep (rz_o2 (pl_ne e_168 e_173 (by intro h9; simp at h9)) (pl_ne e_168 e_174 (by intro h9; simp at h9))) e_168
  have e_193 := hm_188.keep (rz_o2 (by omega) (by omega)) e_169
  have e_194 := hm_188.keep (rz_o2 (by omega) (by omega)) e_170
  have e_195 := hm_188.keep (rz_o2 (pl_ne e_171 e_173 (by intro h9; simp at h9)) (pl_ne e_171 e_174 (by intro h9; simp at h9))) e_171
  have e_196 := hm_188.keep (rz_o2 (pl_ne e_183 e_173 (by intro h9; simp at h9)) (pl_ne e_183 e_174 (by intro h9; simp at h9))) e_183
  have e_197 := hm_188.keep (rz_o2 (pl_ne e_172 e_173 (by intro h9; simp at h9)) (pl_ne e_172 e_174 (by intro h9; simp at h9))) e_172
  have u_198 := ht_190 _ _ u_175
  have u_199 := ht_190 _ _ u_176
  have u_200 := ht_190 _ _ u_177
  have u_201 := ht_190 _ _ u_178
  have u_202 := ht_190 _ _ u_179
  have u_203 := ht_190 _ _ u_180
  have hm_204 : sm ρ [] ws_162 ws_186 := hm_188.up (fun k _ h => rz_u2 (hle0 _ (by omega)) (hle0 _ (by omega)) k h)
  have hsm := hsm.tr (hm_204.mono (by decide))
  have htx := htx.tr ht_190
  obtain ⟨f_205, f_206, e_207, g_209, e_208, g_210⟩ := hx_189
  refine lv_aload_n hx hb dX2_init_75 rfl (lv_at hl 0 rfl) ?_
  refine lv_iload_n hx hb dX2_init_76 rfl (lv_at hl 2 rfl) ?_
  refine va_put (D := D) (ci := 2) (v := .int a2) (ty := .int) (C := RX2) (T := TX2) (N := 10) hx hb hts hin2 tyX2 tyX2_ok nmX2 hown hK hP hD hS k0 e_191 rfl 8 (by decide) (hts (.fieldLink RX2 51 "HoneyHouse$Lot" "left" "I") (List.mem_of_getElem? (i := 16) rfl)) (fun _ h9 => h9) rfl (tyX2_ok 8 (by decide)) rfl rfl (Nat.le_of_ble_eq_true rfl) dX2_init_77 (fun H locs hP hD hS => ?_)
  have hP : va_P D vwCl (ws_186.set k0 (h0, .inr (2, [.int a1, .int a2, .int a4, .int a5, .ref q_1, .ref q_24, .ref q_51, .int a3, .int a2, .int 0]))) H := hP
  have hD : va_D A (ws_186.set k0 (h0, .inr (2, [.int a1, .int a2, .int a4, .int a5, .ref q_1, .ref q_24, .ref q_51, .int a3, .int a2, .int 0]))) := hD
  have e_212 : (ws_186.set k0 (h0, .inr (2, [.int a1, .int a2, .int a4, .int a5, .ref q_1, .ref q_24, .ref q_51, .int a3, .int a2, .int 0])))[k0]? = some (h0, .inr (2, [.int a1, .int a2, .int a4, .int a5, .ref q_1, .ref q_24, .ref q_51, .int a3, .int a2, .int 0])) := wset_self e_191
  have e_213 := set_o (z := (h0, .inr (2, [.int a1, .int a2, .int a4, .int a5, .ref q_1, .ref q_24, .ref q_51, .int a3, .int a2, .int 0]))) e_192 e_191 (by intro h9; simp at h9)
  have e_214 := set_o (z := (h0, .inr (2, [.int a1, .int a2, .int a4, .int a5, .ref q_1, .ref q_24, .ref q_51, .int a3, .int a2, .int 0]))) e_193 e_191 (by intro h9; simp at h9)
  have e_215 := set_o (z := (h0, .inr (2, [.int a1, .int a2, .int a4, .int a5, .ref q_1, .ref q_24, .ref q_51, .int a3, .int a2, .int 0]))) e_194 e_191 (by intro h9; simp at h9)
  have e_216 := set_o (z := (h0, .inr (2, [.int a1, .int a2, .int a4, .int a5, .ref q_1, .ref q_24, .ref q_51, .int a3, .int a2, .int 0]))) e_195 e_191 (by intro h9; simp at h9)
  have e_217 := set_o (z := (h0, .inr (2, [.int a1, .int a2, .int a4, .int a5, .ref q_1, .ref q_24, .ref q_51, .int a3, .int a2, .int 0]))) e_196 e_191 (by intro h9; simp at h9)
  have e_218 := set_o (z := (h0, .inr (2, [.int a1, .int a2, .int a4, .int a5, .ref q_1, .ref q_24, .ref q_51, .int a3, .int a2, .int 0]))) e_197 e_191 (by intro h9; simp at h9)
  have e_219 := set_o (z := (h0, .inr (2, [.int a1, .int a2, .int a4, .int a5, .ref q_1, .ref q_24, .ref q_51, .int a3, .int a2, .int 0]))) e_207 e_191 (by intro h9; simp at h9)
  have e_220 := set_o (z := (h0, .inr (2, [.int a1, .int a2, .int a4, .int a5, .ref q_1, .ref q_24, .ref q_51, .int a3, .int a2, .int 0]))) e_208 e_191 (by intro h9; simp at h9)
  have hsm := hsm.set (h0, .inr (2, [.int a1, .int a2, .int a4, .int a5, .ref q_1, .ref q_24, .ref q_51, .int a3, .int a2, .int 0]))
  generalize ws_186.set k0 (h0, .inr (2, [.int a1, .int a2, .int a4, .int a5, .ref q_1, .ref q_24, .ref q_51, .int a3, .int a2, .int 0])) = ws_211 at hP hD e_212 e_213 e_214 e_215 e_216 e_217 e_218 e_219 e_220 hsm
  refine lv_aload_n hx hb dX2_init_80 rfl (lv_at hl 0 rfl) ?_
  refine lv_aload_n hx hb dX2_init_81 rfl (lv_at hl 0 rfl) ?_
  refine va_get (D := D) (ci := 2) (v := .ref q_51) (C := RX2) (T := TX2) (N := 10) hx hb hts hin2 hown hK hP k0 e_212 rfl 6 (by decide) (hts (.fieldLink RX2 21 "HoneyHouse$Lot" "steps" "LHoneyHouse$Steps;") (List.mem_of_getElem? (i := 10) rfl)) (fun _ h9 => h9) rfl dX2_init_82 ?_
  refine lv_iload_n hx hb dX2_init_85 rfl (lv_at hl 2 rfl) ?_
  refine lv_iload_n hx hb dX2_init_86 rfl (lv_at hl 3 rfl) ?_
  refine vp_callSi (W.runV (As := [.int a2, .int a3]) (rest := [.ref h0]) ⟨hx, hb, hml, hown, hts⟩ (s_X5_payFor l D ws_211 ty_187 q_51 ws_44.length g_84 k_86 g_85 k_87 c9_88 c9_89 t_90 t_91 f_205 f_206 _ a2 a3 e_218 rfl rfl e_219 u_202 e_220 u_203) (cwV 2 hts gX2_init_X5_payFor rfl rfl rfl (by decide +kernel) ⟨Nat.le_of_ble_eq_true rfl, Nat.le_of_ble_eq_true rfl⟩) ⟨fun a U g mk q => ⟨q.1, q.2.1, va_K.moved (u := U) (U := U.calling g mk a) (Vm.Alike.refl U.vm) q.2.2⟩, va_recv hK hP (ci := 5) (q0 := ws_44.length) rfl e_218, fun U hU hW => ⟨rfl, by rw [hU]; exact hP, va_K.moved hW.alike hK⟩⟩ rfl rfl hl.1 rfl (lv_room (Nat.le_of_ble_eq_true rfl)) dX2_init_87 ⟨Nat.le_of_ble_eq_true rfl, Nat.le_of_ble_eq_true rfl⟩) (fun r_221 k_222 => ?_)
  obtain rfl : r_221 = payF fo1 fo2 a2 a3 := k_222.trans (payF_congr g_209 g_210)
  refine va_put (D := D) (ci := 2) (v := .int (payF fo1 fo2 a2 a3)) (ty := .int) (C := RX2) (T := TX2) (N := 10) hx hb hts hin2 tyX2 tyX2_ok nmX2 hown hK hP hD hS k0 e_212 rfl 9 (by decide) (hts (.fieldLink RX2 58 "HoneyHouse$Lot" "pay" "I") (List.mem_of_getElem? (i := 17) rfl)) (fun _ h9 => h9) rfl (tyX2_ok 9 (by decide)) rfl rfl (Nat.le_of_ble_eq_true rfl) dX2_init_90 (fun H locs hP hD hS => ?_)
  have hP : va_P D vwCl (ws_211.set k0 (h0, .inr (2, [.int a1, .int a2, .int a4, .int a5, .ref q_1, .ref q_24, .ref q_51, .int a3, .int a2, .int (payF fo1 fo2 a2 a3)]))) H := hP
  have hD : va_D A (ws_211.set k0 (h0, .inr (2, [.int a1, .int a2, .int a4, .int a5, .ref q_1, .ref q_24, .ref q_51, .int a3, .int a2, .int (payF fo1 fo2 a2 a3)]))) := hD
  have e_224 : (ws_211.set k0 (h0, .inr (2, [.int a1, .int a2, .int a4, .int a5, .ref q_1, .ref q_24, .ref q_51, .int a3, .int a2, .int (payF fo1 fo2 a2 a3)])))[k0]? = some (h0, .inr (2, [.int a1, .int a2, .int a4, .int a5, .ref q_1, .ref q_24, .ref q_51, .int a3, .int a2, .int (payF fo1 fo2 a2 a3)])) := wset_self e_212
  have e_225 := set_o (z := (h0, .inr (2, [.int a1, .int a2, .int a4, .int a5, .ref q_1, .ref q_24, .ref q_51, .int a3, .int a2, .int (payF fo1 fo2 a2 a3)]))) e_213 e_212 (by intro h9; simp at h9)
  have e_226 := set_o (z := (h0, .inr (2, [.int a1, .int a2, .int a4, .int a5, .ref q_1, .ref q_24, .ref q_51, .int a3, .int a2, .int (payF fo1 fo2 a2 a3)]))) e_214 e_212 (by intro h9; simp at h9)
  have e_227 := set_o (z := (h0, .inr (2, [.int a1, .int a2, .int a4, .int a5, .ref q_1, .ref q_24, .ref q_51, .int a3, .int a2, .int (payF fo1 fo2 a2 a3)]))) e_215 e_212 (by intro h9; simp at h9)
  have e_228 := set_o (z := (h0, .inr (2, [.int a1, .int a2, .int a4, .int a5, .ref q_1, .ref q_24, .ref q_51, .int a3, .int a2, .int (payF fo1 fo2 a2 a3)]))) e_216 e_212 (by intro h9; simp at h9)
  have e_229 := set_o (z := (h0, .inr (2, [.int a1, .int a2, .int a4, .int a5, .ref q_1, .ref q_24, .ref q_51, .int a3, .int a2, .int (payF fo1 fo2 a2 a3)]))) e_217 e_212 (by intro h9; simp at h9)
  have e_230 := set_o (z := (h0, .inr (2, [.int a1, .int a2, .int a4, .int a5, .ref q_1, .ref q_24, .ref q_51, .int a3, .int a2, .int (payF fo1 fo2 a2 a3)]))) e_218 e_212 (by intro h9; simp at h9)
  have e_231 := set_o (z := (h0, .inr (2, [.int a1, .int a2, .int a4, .int a5, .ref q_1, .ref q_24, .ref q_51, .int a3, .int a2, .int (payF fo1 fo2 a2 a3)]))) e_219 e_212 (by intro h9; simp at h9)
  have e_232 := set_o (z := (h0, .inr (2, [.int a1, .int a2, .int a4, .int a5, .ref q_1, .ref q_24, .ref q_51, .int a3, .int a2, .int (payF fo1 fo2 a2 a3)]))) e_220 e_212 (by intro h9; simp at h9)
  have hsm := hsm.set (h0, .inr (2, [.int a1, .int a2, .int a4, .int a5, .ref q_1, .ref q_24, .ref q_51, .int a3, .int a2, .int (payF fo1 fo2 a2 a3)]))
  generalize ws_211.set k0 (h0, .inr (2, [.int a1, .int a2, .int a4, .int a5, .ref q_1, .ref q_24, .ref q_51, .int a3, .int a2, .int (payF fo1 fo2 a2 a3)])) = ws_223 at hP hD e_224 e_225 e_226 e_227 e_228 e_229 e_230 e_231 e_232 hsm
  refine W.widen (k := 5) (n := 20) (by omega) (by omega) ?_
  exact W.vret hx hb hr (fun t ht hW => ⟨⟨(), rfl, trivial, ws_223, ty_187, hsm, htx, by rw [ht]; exact hP, va_K.moved hW.alike hK, hD, ⟨q_1, q_24, q_51, g_84, g_85, ws.length, ws_18.length, ws_44.length, k_86, k_87, y_2, y_25, c9_88, c9_89, tys.length, ty_3.length, t_90, t_91, (fun _ => 0), f_182, f_205, f_206, e_224, ⟨e_228, u_200, fun _ _ => rfl⟩, ⟨e_229, u_201, g_184⟩, e_230, ⟨e_231, u_202, g_209⟩, ⟨e_232, u_203, g_210⟩, by omega, by omega, by omega, by omega, by omega⟩⟩, hS.F ht⟩) hS.2.2 dX2_init_93
