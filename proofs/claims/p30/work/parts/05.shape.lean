/-! WORLDS BY THEIR SHAPE: what a cell is, its ints and longs forgotten; references, classes, lengths kept. -/
/-- two values alike: the same, or both ints, or both longs -/
def smV (v v' : Value) : Prop := v = v' ∨ (∃ x y : Int32, v = .int x ∧ v' = .int y) ∨ (∃ x y : Int64, v = .long x ∧ v' = .long y)
def smF : List Value → List Value → Prop
  | [], fs' => fs' = []
  | v :: fs, fs' => ∃ v' fs1, fs' = v' :: fs1 ∧ smV v v' ∧ smF fs fs1
/-- two cells alike -/
def smE (e e' : va_E) : Prop := e = e' ∨ (∃ (c : ClassId) (n : Nat) (f f' : Nat → Int32), e = .inl (c, n, .inl f) ∧ e' = .inl (c, n, .inl f')) ∨ (∃ (c : ClassId) (n : Nat) (f f' : Nat → Int64), e = .inl (c, n, .inr (.inl f)) ∧ e' = .inl (c, n, .inr (.inl f'))) ∨ (∃ (ci : Nat) (fs fs' : List Value), e = .inr (ci, fs) ∧ e' = .inr (ci, fs') ∧ smF fs fs')
/-- a world grown out of another: each old place holds the same address and a cell alike; objects of classes that are not in T are as they were, and so is what stands at places that ρ keeps (ρ is not 0 there) -/
def sm (ρ : Nat → Nat) (T : List Nat) (ws ws' : va_W) : Prop := ∀ (k a : Nat) (e : va_E), ws[k]? = some (a, e) → ∃ e', ws'[k]? = some (a, e') ∧ smE e e' ∧ (∀ (ci : Nat) (fs : List Value), e = .inr (ci, fs) → ci ∉ T → e' = e) ∧ (ρ k ≠ 0 → e' = e)
def tyx (tys tys' : List (ClassId × FieldType)) : Prop := ∀ (t : Nat) (q : ClassId × FieldType), tys[t]? = some q → tys'[t]? = some q
theorem smV.rf (v : Value) : smV v v := Or.inl rfl
theorem smF.rf : ∀ fs : List Value, smF fs fs
  | [] => rfl
  | v :: fs => ⟨v, fs, rfl, smV.rf v, smF.rf fs⟩
theorem smV.tr {a b c : Value} (h : smV a b) (h2 : smV b c) : smV a c := by
  rcases h with rfl | ⟨x, y, rfl, rfl⟩ | ⟨x, y, rfl, rfl⟩
  · exact h2
  · rcases h2 with rfl | ⟨x2, y2, e, rfl⟩ | ⟨x2, y2, e, rfl⟩
    · exact Or.inr (Or.inl ⟨x, y, rfl, rfl⟩)
    · exact Or.inr (Or.inl ⟨x, y2, rfl, rfl⟩)
    · cases e
  · rcases h2 with rfl | ⟨x2, y2, e, rfl⟩ | ⟨x2, y2, e, rfl⟩
    · exact Or.inr (Or.inr ⟨x, y, rfl, rfl⟩)
    · cases e
    · exact Or.inr (Or.inr ⟨x, y2, rfl, rfl⟩)
theorem smF.tr : ∀ {a b c : List Value}, smF a b → smF b c → smF a c
  | [], b, c, h, h2 => by
    have h : b = [] := h
    subst h; exact h2
  | v :: fs, b, c, h, h2 => by
    obtain ⟨v1, f1, rfl, hv, hf⟩ := h
    obtain ⟨v2, f2, rfl, hv2, hf2⟩ := h2
    exact ⟨v2, f2, rfl, hv.tr hv2, smF.tr hf hf2⟩
theorem smE.rf (e : va_E) : smE e e := Or.inl rfl
theorem smE.tr {a b c : va_E} (h : smE a b) (h2 : smE b c) : smE a c := by
  rcases h with rfl | ⟨cl, n, f, f', rfl, rfl⟩ | ⟨cl, n, f, f', rfl, rfl⟩ | ⟨ci, fs, fs', rfl, rfl, hf⟩
  · exact h2
  · rcases h2 with rfl | ⟨cl2, n2, g, g', e, rfl⟩ | ⟨cl2, n2, g, g', e, rfl⟩ | ⟨ci2, gs, gs', e, rfl, hg⟩
    · exact Or.inr (Or.inl ⟨cl, n, f, f', rfl, rfl⟩)
    · cases e; exact Or.inr (Or.inl ⟨_, _, f, g', rfl, rfl⟩)
    · cases e
    · cases e
  · rcases h2 with rfl | ⟨cl2, n2, g, g', e, rfl⟩ | ⟨cl2, n2, g, g', e, rfl⟩ | ⟨ci2, gs, gs', e, rfl, hg⟩
    · exact Or.inr (Or.inr (Or.inl ⟨cl, n, f, f', rfl, rfl⟩))
    · cases e
    · cases e; exact Or.inr (Or.inr (Or.inl ⟨_, _, f, g', rfl, rfl⟩))
    · cases e
  · rcases h2 with rfl | ⟨cl2, n2, g, g', e, rfl⟩ | ⟨cl2, n2, g, g', e, rfl⟩ | ⟨ci2, gs, gs', e, rfl, hg⟩
    · exact Or.inr (Or.inr (Or.inr ⟨ci, fs, fs', rfl, rfl, hf⟩))
    · cases e
    · cases e
    · cases e; exact Or.inr (Or.inr (Or.inr ⟨_, fs, gs', rfl, rfl, smF.tr hf hg⟩))
theorem sm.rf {ρ : Nat → Nat} {T : List Nat} (ws : va_W) : sm ρ T ws ws := fun k a e h => ⟨e, h, smE.rf e, fun _ _ _ _ => rfl, fun _ => rfl⟩
theorem sm.tr {ρ : Nat → Nat} {T : List Nat} {a b c : va_W} (h : sm ρ T a b) (h2 : sm ρ T b c) : sm ρ T a c := by
  intro k x e hk
  obtain ⟨e1, h1, s1, o1, p1⟩ := h k x e hk
  obtain ⟨e2, h3, s2, o2, p2⟩ := h2 k x e1 h1
  refine ⟨e2, h3, s1.tr s2, fun ci fs he hT => ?_, fun hr => (p2 hr).trans (p1 hr)⟩
  have q := o1 ci fs he hT
  exact (o2 ci fs (q.trans he) hT).trans q
theorem sm.mono {ρ : Nat → Nat} {T T' : List Nat} {a b : va_W} (h : sm ρ T a b) (hT : ∀ x ∈ T, x ∈ T') : sm ρ T' a b := fun k x e hk => by
  obtain ⟨e1, h1, s1, o1, p1⟩ := h k x e hk
  exact ⟨e1, h1, s1, fun ci fs he hn => o1 ci fs he (fun hm => hn (hT ci hm)), p1⟩
/-- another keeper that keeps no more, at the places of the first world -/
theorem sm.up {ρ σ : Nat → Nat} {T : List Nat} {a b : va_W} (h : sm ρ T a b) (hr : ∀ k : Nat, k < a.length → σ k ≠ 0 → ρ k ≠ 0) : sm σ T a b := fun k x e hk => by
  obtain ⟨e1, h1, s1, o1, p1⟩ := h k x e hk
  exact ⟨e1, h1, s1, o1, fun hs => p1 (hr k (List.getElem?_eq_some_iff.mp hk).1 hs)⟩
theorem sm.keep {ρ : Nat → Nat} {T : List Nat} {ws ws' : va_W} (h : sm ρ T ws ws') {k : Nat} {q : Nat × va_E} (hr : ρ k ≠ 0) (hk : ws[k]? = some q) : ws'[k]? = some q := by
  obtain ⟨a, e⟩ := q
  obtain ⟨e1, h1, -, -, p1⟩ := h k a e hk
  rw [p1 hr] at h1; exact h1
theorem tyx.rf (t : List (ClassId × FieldType)) : tyx t t := fun _ _ h => h
theorem tyx.tr {a b c : List (ClassId × FieldType)} (h : tyx a b) (h2 : tyx b c) : tyx a c := fun t q hq => h2 t q (h t q hq)
theorem tyx.app (a b : List (ClassId × FieldType)) : tyx a (a ++ b) := fun t q h => by
  rw [List.getElem?_append_left (List.getElem?_eq_some_iff.mp h).1]; exact h
theorem sm.app (ρ : Nat → Nat) (T : List Nat) (a b : va_W) : sm ρ T a (a ++ b) := fun k x e h => ⟨e, by rw [List.getElem?_append_left (List.getElem?_eq_some_iff.mp h).1]; exact h, smE.rf e, fun _ _ _ _ => rfl, fun _ => rfl⟩
/-- one place written with a cell alike -/
theorem sm.set {ρ : Nat → Nat} {T : List Nat} {ws : va_W} {k a : Nat} {e e' : va_E} (h : ws[k]? = some (a, e)) (hs : smE e e') (hT : ∀ (ci : Nat) (fs : List Value), e = .inr (ci, fs) → ci ∉ T → e' = e) (hr : ρ k = 0) : sm ρ T ws (ws.set k (a, e')) := by
  intro k1 b x hx
  rcases Nat.decEq k k1 with q | q
  · rw [List.getElem?_set_ne q]; exact ⟨x, hx, smE.rf x, fun _ _ _ _ => rfl, fun _ => rfl⟩
  · subst q
    rw [h] at hx
    cases hx
    exact ⟨e', by rw [List.getElem?_set_self (List.getElem?_eq_some_iff.mp h).1], hs, hT, fun h9 => absurd hr h9⟩
theorem sm.ints {ρ : Nat → Nat} {T : List Nat} {ws : va_W} {k a : Nat} {c : ClassId} {n : Nat} {f f' : Nat → Int32} (h : ws[k]? = some (a, .inl (c, n, .inl f))) (hr : ρ k = 0) : sm ρ T ws (ws.set k (a, .inl (c, n, .inl f'))) := sm.set h (Or.inr (Or.inl ⟨c, n, f, f', rfl, rfl⟩)) (fun _ _ e _ => by cases e) hr
theorem sm.longs {ρ : Nat → Nat} {T : List Nat} {ws : va_W} {k a : Nat} {c : ClassId} {n : Nat} {f f' : Nat → Int64} (h : ws[k]? = some (a, .inl (c, n, .inr (.inl f)))) (hr : ρ k = 0) : sm ρ T ws (ws.set k (a, .inl (c, n, .inr (.inl f')))) := sm.set h (Or.inr (Or.inr (Or.inl ⟨c, n, f, f', rfl, rfl⟩))) (fun _ _ e _ => by cases e) hr
theorem sm.flds {ρ : Nat → Nat} {T : List Nat} {ws : va_W} {k a ci : Nat} {fs fs' : List Value} (h : ws[k]? = some (a, .inr (ci, fs))) (hs : smF fs fs') (hT : ci ∈ T) (hr : ρ k = 0) : sm ρ T ws (ws.set k (a, .inr (ci, fs'))) := sm.set h (Or.inr (Or.inr (Or.inr ⟨ci, fs, fs', rfl, rfl, hs⟩))) (fun _ _ e hn => by cases e; exact absurd hT hn) hr
/-- what is kept of a known cell -/
theorem sm.arrI {ρ : Nat → Nat} {T : List Nat} {ws ws' : va_W} (h : sm ρ T ws ws') {k a : Nat} {c : ClassId} {n : Nat} {f : Nat → Int32} (hk : ws[k]? = some (a, .inl (c, n, .inl f))) : ∃ f', ws'[k]? = some (a, .inl (c, n, .inl f')) := by
  obtain ⟨e, he, hs, -⟩ := h k a _ hk
  rcases hs with rfl | ⟨c1, n1, f1, f2, e1, rfl⟩ | ⟨c1, n1, f1, f2, e1, rfl⟩ | ⟨ci, fs, fs', e1, rfl, -⟩
  · exact ⟨f, he⟩
  · cases e1; exact ⟨f2, he⟩
  · cases e1
  · cases e1
theorem sm.arrJ {ρ : Nat → Nat} {T : List Nat} {ws ws' : va_W} (h : sm ρ T ws ws') {k a : Nat} {c : ClassId} {n : Nat} {f : Nat → Int64} (hk : ws[k]? = some (a, .inl (c, n, .inr (.inl f)))) : ∃ f', ws'[k]? = some (a, .inl (c, n, .inr (.inl f'))) := by
  obtain ⟨e, he, hs, -⟩ := h k a _ hk
  rcases hs with rfl | ⟨c1, n1, f1, f2, e1, rfl⟩ | ⟨c1, n1, f1, f2, e1, rfl⟩ | ⟨ci, fs, fs', e1, rfl, -⟩
  · exact ⟨f, he⟩
  · cases e1
  · cases e1; exact ⟨f2, he⟩
  · cases e1
theorem sm.arrQ {ρ : Nat → Nat} {T : List Nat} {ws ws' : va_W} (h : sm ρ T ws ws') {k a : Nat} {c : ClassId} {n : Nat} {g : Nat → Option Nat} (hk : ws[k]? = some (a, .inl (c, n, .inr (.inr (.inr (.inr g)))))) : ws'[k]? = some (a, .inl (c, n, .inr (.inr (.inr (.inr g))))) := by
  obtain ⟨e, he, hs, -⟩ := h k a _ hk
  rcases hs with rfl | ⟨c1, n1, f1, f2, e1, rfl⟩ | ⟨c1, n1, f1, f2, e1, rfl⟩ | ⟨ci, fs, fs', e1, rfl, -⟩
  · exact he
  · cases e1
  · cases e1
  · cases e1
theorem sm.obj {ρ : Nat → Nat} {T : List Nat} {ws ws' : va_W} (h : sm ρ T ws ws') {k a ci : Nat} {fs : List Value} (hk : ws[k]? = some (a, .inr (ci, fs))) : ∃ fs', ws'[k]? = some (a, .inr (ci, fs')) ∧ smF fs fs' := by
  obtain ⟨e, he, hs, -⟩ := h k a _ hk
  rcases hs with rfl | ⟨c1, n1, f1, f2, e1, rfl⟩ | ⟨c1, n1, f1, f2, e1, rfl⟩ | ⟨c2, gs, gs', e1, rfl, hf⟩
  · exact ⟨fs, he, smF.rf fs⟩
  · cases e1
  · cases e1
  · cases e1; exact ⟨gs', he, hf⟩
theorem sm.objK {ρ : Nat → Nat} {T : List Nat} {ws ws' : va_W} (h : sm ρ T ws ws') {k a ci : Nat} {fs : List Value} (hk : ws[k]? = some (a, .inr (ci, fs))) (hT : ci ∉ T) : ws'[k]? = some (a, .inr (ci, fs)) := by
  obtain ⟨e, he, -, ho, -⟩ := h k a _ hk
  rw [ho ci fs rfl hT] at he; exact he
theorem sm.len {ρ : Nat → Nat} {T : List Nat} {a b : va_W} (h : sm ρ T a b) : a.length ≤ b.length := by
  rcases Nat.eq_zero_or_pos a.length with q | q
  · omega
  · have hk : a[a.length - 1]? = some a[a.length - 1] := List.getElem?_eq_getElem (by omega)
    obtain ⟨e', h1, -⟩ := h (a.length - 1) _ _ hk
    have := (List.getElem?_eq_some_iff.mp h1).1
    omega
theorem smF.int {x : Int32} {fs fs' : List Value} (h : smF (.int x :: fs) fs') : ∃ (y : Int32) (gs : List Value), fs' = .int y :: gs ∧ smF fs gs := by
  obtain ⟨v, gs, rfl, hv, hg⟩ := h
  rcases hv with rfl | ⟨a, b, -, rfl⟩ | ⟨a, b, e, rfl⟩
  · exact ⟨x, gs, rfl, hg⟩
  · exact ⟨b, gs, rfl, hg⟩
  · cases e
theorem smF.long {x : Int64} {fs fs' : List Value} (h : smF (.long x :: fs) fs') : ∃ (y : Int64) (gs : List Value), fs' = .long y :: gs ∧ smF fs gs := by
  obtain ⟨v, gs, rfl, hv, hg⟩ := h
  rcases hv with rfl | ⟨a, b, e, rfl⟩ | ⟨a, b, -, rfl⟩
  · exact ⟨x, gs, rfl, hg⟩
  · cases e
  · exact ⟨b, gs, rfl, hg⟩
theorem smF.ref {q : Nat} {fs fs' : List Value} (h : smF (.ref q :: fs) fs') : ∃ gs : List Value, fs' = .ref q :: gs ∧ smF fs gs := by
  obtain ⟨v, gs, rfl, hv, hg⟩ := h
  rcases hv with rfl | ⟨a, b, e, rfl⟩ | ⟨a, b, e, rfl⟩
  · exact ⟨gs, rfl, hg⟩
  · cases e
  · cases e
theorem smF.c {v v' : Value} {fs fs' : List Value} (hv : smV v v') (h : smF fs fs') : smF (v :: fs) (v' :: fs') := ⟨v', fs', rfl, hv, h⟩
theorem smV.i (x y : Int32) : smV (.int x) (.int y) := Or.inr (Or.inl ⟨x, y, rfl, rfl⟩)
theorem smV.l (x y : Int64) : smV (.long x) (.long y) := Or.inr (Or.inr ⟨x, y, rfl, rfl⟩)
/-- the whole world of a caller is free to a callee -/
theorem free_all {A : Nat → Prop} {ws : va_W} {H0 H : Heap} {locs : List Loc} (hD : va_D A ws) (hS : va_S A H0 H locs) (hA : ∀ q, H0.size ≤ q → A q) : ∀ q, va_A ws H.size q → A q := by
  intro q hq
  rcases hq with ⟨k, e, hk⟩ | hq
  · exact hD.2 k (q, e) hk
  · exact hA q (Nat.le_trans hS.1 hq)
theorem pl_ne {ws : va_W} {k k2 : Nat} {x y : Nat × va_E} (e : ws[k]? = some x) (e2 : ws[k2]? = some y) (h : x ≠ y) : k ≠ k2 := fun q => by subst q; rw [e] at e2; exact h (Option.some.inj e2)
theorem set_o {ws : va_W} {k k2 : Nat} {x y z : Nat × va_E} (e : ws[k]? = some x) (e2 : ws[k2]? = some y) (h : x ≠ y) : (ws.set k2 z)[k]? = some x := by rw [List.getElem?_set_ne (fun q => pl_ne e e2 h q.symm)]; exact e
theorem set_n {ws : va_W} {k k2 : Nat} {x z : Nat × va_E} (e : ws[k]? = some x) (h : k ≠ k2) : (ws.set k2 z)[k]? = some x := by rw [List.getElem?_set_ne (fun q => h q.symm)]; exact e
/-- a keeper of all but some places -/
def rz (l : List Nat) : Nat → Nat := fun k => if k ∈ l then 0 else 1
theorem rz_in {l : List Nat} {k : Nat} (h : k ∈ l) : rz l k = 0 := if_pos h
theorem rz_o1 {k a : Nat} (h : k ≠ a) : rz [a] k ≠ 0 := by
  show (if k ∈ [a] then 0 else 1) ≠ 0
  rw [if_neg (by simp; exact h)]; decide
theorem rz_o2 {k a b : Nat} (h : k ≠ a) (h2 : k ≠ b) : rz [a, b] k ≠ 0 := by
  show (if k ∈ [a, b] then 0 else 1) ≠ 0
  rw [if_neg (by simp; exact ⟨h, h2⟩)]; decide
theorem rz_o3 {k a b c : Nat} (h : k ≠ a) (h2 : k ≠ b) (h3 : k ≠ c) : rz [a, b, c] k ≠ 0 := by
  show (if k ∈ [a, b, c] then 0 else 1) ≠ 0
  rw [if_neg (by simp; exact ⟨h, h2, h3⟩)]; decide
theorem rz_o4 {k a b c d : Nat} (h : k ≠ a) (h2 : k ≠ b) (h3 : k ≠ c) (h4 : k ≠ d) : rz [a, b, c, d] k ≠ 0 := by
  show (if k ∈ [a, b, c, d] then 0 else 1) ≠ 0
  rw [if_neg (by simp; exact ⟨h, h2, h3, h4⟩)]; decide
theorem rz_u1 {ρ : Nat → Nat} {a : Nat} (w : ρ a = 0) (k : Nat) (h : ρ k ≠ 0) : rz [a] k ≠ 0 := rz_o1 (fun q => h (by rw [q]; exact w))
theorem rz_u2 {ρ : Nat → Nat} {a b : Nat} (w : ρ a = 0) (w2 : ρ b = 0) (k : Nat) (h : ρ k ≠ 0) : rz [a, b] k ≠ 0 := rz_o2 (fun q => h (by rw [q]; exact w)) (fun q => h (by rw [q]; exact w2))
theorem rz_u3 {ρ : Nat → Nat} {a b c : Nat} (w : ρ a = 0) (w2 : ρ b = 0) (w3 : ρ c = 0) (k : Nat) (h : ρ k ≠ 0) : rz [a, b, c] k ≠ 0 := rz_o3 (fun q => h (by rw [q]; exact w)) (fun q => h (by rw [q]; exact w2)) (fun q => h (by rw [q]; exact w3))
theorem rz_u4 {ρ : Nat → Nat} {a b c d : Nat} (w : ρ a = 0) (w2 : ρ b = 0) (w3 : ρ c = 0) (w4 : ρ d = 0) (k : Nat) (h : ρ k ≠ 0) : rz [a, b, c, d] k ≠ 0 := rz_o4 (fun q => h (by rw [q]; exact w)) (fun q => h (by rw [q]; exact w2)) (fun q => h (by rw [q]; exact w3)) (fun q => h (by rw [q]; exact w4))
