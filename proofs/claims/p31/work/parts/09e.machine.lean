/-! either, as a machine: mode (0 a test is due, 1 none is, 2 the end, 10 + k the fault k), place, pile, code -/
abbrev Tk := Nat × Nat × Nat × Nat
def pN : List Nat → List Nat
  | [] => []
  | x :: s => if x = 3 then pN s else x :: s
def eN : List Nat → List Tk
  | [] => []
  | x :: s => if x = 3 then (3, 0, 0, 0) :: eN s else []
def jA : List Nat → List Nat
  | [] => []
  | x :: s => if x = 2 then jA s else x :: s
def eA : List Nat → List Tk
  | [] => []
  | x :: s => if x = 2 then (2, 0, 0, 0) :: eA s else []
def jO : List Nat → List Nat
  | [] => []
  | x :: s => if x = 2 ∨ x = 1 then jO s else x :: s
def eO : List Nat → List Tk
  | [] => []
  | x :: s => if x = 2 ∨ x = 1 then (x, 0, 0, 0) :: eO s else []
/-- how many brackets and nots are open; how many brackets -/
def dep : List Nat → Nat
  | [] => 0
  | x :: s => (if x = 3 ∨ x = 12 then 1 else 0) + dep s
def brk : List Nat → Nat
  | [] => 0
  | x :: s => (if x = 12 then 1 else 0) + brk s
abbrev S4 := Nat × Nat × List Nat × List Tk
def stR (f : Nat → Int32) (n md b : Nat) (σ : List Nat) (T : List Tk) (t : S4) : Prop :=
  (md = 0 ∧ ((b < n ∧ f b = 40) ∨ wdE f n b = 3) ∧ dep σ = 6 ∧ t = (13, b, [], [])) ∨
  (md = 0 ∧ (b < n ∧ f b = 40) ∧ ¬ dep σ = 6 ∧ t = (0, nxF f n b, 12 :: σ, T)) ∨
  (md = 0 ∧ wdE f n b = 3 ∧ ¬ dep σ = 6 ∧ t = (0, nxF f n b, 3 :: σ, T)) ∨
  (md = 0 ∧ ¬ ((b < n ∧ f b = 40) ∨ wdE f n b = 3) ∧ ∃ k p w m v : Nat, tstR f n b k p w m v ∧ ((¬ k = 0 ∧ t = (10 + k, p, [], [])) ∨ (k = 0 ∧ t = (1, p, pN σ, (T ++ [(13, w, m, v)]) ++ eN σ)))) ∨
  (md = 1 ∧ wdE f n b = 2 ∧ t = (0, nxF f n b, 2 :: jA σ, T ++ eA σ)) ∨
  (md = 1 ∧ wdE f n b = 1 ∧ t = (0, nxF f n b, 1 :: jO σ, T ++ eO σ)) ∨
  (md = 1 ∧ (b < n ∧ f b = 41) ∧ 0 < brk σ ∧ t = (1, nxF f n b, pN (jO σ).tail, (T ++ eO σ) ++ eN (jO σ).tail)) ∨
  (md = 1 ∧ ¬ (wdE f n b = 1 ∨ wdE f n b = 2) ∧ ¬ (b < n ∧ f b = 41) ∧ 0 < brk σ ∧ t = (11, b, [], [])) ∨
  (md = 1 ∧ ¬ (wdE f n b = 1 ∨ wdE f n b = 2) ∧ brk σ = 0 ∧ t = (2, b, [], T ++ eO σ))
section MAC
variable {f : Nat → Int32} {n : Nat}
theorem wd_40 {b : Nat} (h : b < n ∧ f b = 40) : wdE f n b = 99 ∧ kdF f n b = 4 := by
  have k := kdF_4 (f := f) h.1 (by rw [h.2]; exact fun q => q.1 (by decide)) (by rw [h.2]; exact fun q => q.1 (by decide))
  exact ⟨wdE_99 (by omega), k⟩
theorem wd_41 {b : Nat} (h : b < n ∧ f b = 41) : wdE f n b = 99 ∧ kdF f n b = 4 := by
  have k := kdF_4 (f := f) h.1 (by rw [h.2]; exact fun q => q.1 (by decide)) (by rw [h.2]; exact fun q => q.1 (by decide))
  exact ⟨wdE_99 (by omega), k⟩
theorem stR.uq {md b : Nat} {σ : List Nat} {T : List Tk} {t t' : S4} (h : stR f n md b σ T t) (h' : stR f n md b σ T t') : t = t' := by
  have w4 : (b < n ∧ f b = 40) → wdE f n b = 99 := fun q => (wd_40 q).1
  have w1 : (b < n ∧ f b = 41) → wdE f n b = 99 := fun q => (wd_41 q).1
  rcases h with ⟨m0, c, d, e⟩ | ⟨m0, c, d, e⟩ | ⟨m0, c, d, e⟩ | ⟨m0, c, k, p, w, m, v, ht, e⟩ | ⟨m0, c, e⟩ | ⟨m0, c, e⟩ | ⟨m0, c, d, e⟩ | ⟨m0, c, d, g, e⟩ | ⟨m0, c, d, e⟩ <;>
  rcases h' with ⟨m0', c', d', e'⟩ | ⟨m0', c', d', e'⟩ | ⟨m0', c', d', e'⟩ | ⟨m0', c', k', p', w', m', v', ht', e'⟩ | ⟨m0', c', e'⟩ | ⟨m0', c', e'⟩ | ⟨m0', c', d', e'⟩ | ⟨m0', c', d', g', e'⟩ | ⟨m0', c', d', e'⟩ <;>
  first
  | omega
  | exact e.trans e'.symm
  | (exact absurd (Or.inl c') c)
  | (exact absurd (Or.inr c') c)
  | (exact absurd (Or.inl c) c')
  | (exact absurd (Or.inr c) c')
  | (exact absurd c c')
  | (exact absurd c' c)
  | (have := w4 c; omega)
  | (have := w4 c'; omega)
  | (have := w1 c; omega)
  | (have := w1 c'; omega)
  | (exact absurd c d')
  | (exact absurd c' d)
  | (obtain ⟨ek, ep, ev⟩ := ht.uq ht'; subst ek ep; rcases e with ⟨q, e⟩ | ⟨q, e⟩ <;> rcases e' with ⟨q', e'⟩ | ⟨q', e'⟩ <;> first | omega | exact e.trans e'.symm | (obtain ⟨e1, e2, e3⟩ := ev q; subst e1 e2 e3; exact e.trans e'.symm))
def rcN (f : Nat → Int32) (n : Nat) : Nat → S4 → S4 → Prop
  | 0, s, t => s = t
  | k + 1, s, t => ∃ u : S4, stR f n s.1 s.2.1 s.2.2.1 s.2.2.2 u ∧ rcN f n k u t
def Rch (f : Nat → Int32) (n : Nat) (s t : S4) : Prop := ∃ k : Nat, rcN f n k s t
theorem Rch.rf (s : S4) : Rch f n s s := ⟨0, rfl⟩
theorem rcN_tr : ∀ (k j : Nat) (s t u : S4), rcN f n k s t → rcN f n j t u → rcN f n (k + j) s u
  | 0, j, s, t, u, h, h' => by rw [Nat.zero_add]; have e : s = t := h; rw [e]; exact h'
  | k + 1, j, s, t, u, ⟨x, h1, h2⟩, h' => by rw [Nat.add_right_comm]; exact ⟨x, h1, rcN_tr k j x t u h2 h'⟩
theorem Rch.tr {s t u : S4} (h : Rch f n s t) (h' : Rch f n t u) : Rch f n s u := by
  obtain ⟨k, h⟩ := h
  obtain ⟨j, h'⟩ := h'
  exact ⟨k + j, rcN_tr k j s t u h h'⟩
theorem Rch.st {s : S4} {md b : Nat} {σ : List Nat} {T : List Tk} {t : S4} (h : Rch f n s (md, b, σ, T)) (h' : stR f n md b σ T t) : Rch f n s t := h.tr ⟨1, t, h', rfl⟩
theorem rcN_uq : ∀ (k j : Nat) (s t t' : S4), 2 ≤ t.1 → 2 ≤ t'.1 → rcN f n k s t → rcN f n j s t' → t = t'
  | 0, 0, s, t, t', _, _, h, h' => by have e : s = t := h; have e' : s = t' := h'; rw [← e, ← e']
  | 0, j + 1, s, t, t', ht, _, h, ⟨x, h1, _⟩ => by have e : s = t := h; rw [e] at h1; rcases h1 with h1 | h1 | h1 | h1 | h1 | h1 | h1 | h1 | h1 <;> omega
  | k + 1, 0, s, t, t', _, ht, ⟨x, h1, _⟩, h => by have e : s = t' := h; rw [e] at h1; rcases h1 with h1 | h1 | h1 | h1 | h1 | h1 | h1 | h1 | h1 <;> omega
  | k + 1, j + 1, s, t, t', ht, ht', ⟨x, h1, h2⟩, ⟨x', h1', h2'⟩ => by have e := h1.uq h1'; rw [← e] at h2'; exact rcN_uq k j x t t' ht ht' h2 h2'
theorem Rch.uq {s t t' : S4} (h : Rch f n s t) (h' : Rch f n s t') (ht : 2 ≤ t.1) (ht' : 2 ≤ t'.1) : t = t' := by
  obtain ⟨k, h⟩ := h
  obtain ⟨j, h'⟩ := h'
  exact rcN_uq k j s t t' ht ht' h h'
theorem pN_3 (s : List Nat) : pN (3 :: s) = pN s := by rw [pN, if_pos rfl]
theorem eN_3 (s : List Nat) : eN (3 :: s) = (3, 0, 0, 0) :: eN s := by rw [eN, if_pos rfl]
theorem pN_n {x : Nat} (s : List Nat) (h : ¬ x = 3) : pN (x :: s) = x :: s := by rw [pN, if_neg h]
theorem eN_n {x : Nat} (s : List Nat) (h : ¬ x = 3) : eN (x :: s) = [] := by rw [eN, if_neg h]
theorem jA_n {x : Nat} (s : List Nat) (h : ¬ x = 2) : jA (x :: s) = x :: s := by rw [jA, if_neg h]
theorem eA_n {x : Nat} (s : List Nat) (h : ¬ x = 2) : eA (x :: s) = [] := by rw [eA, if_neg h]
theorem jA_2 (s : List Nat) : jA (2 :: s) = jA s := by rw [jA, if_pos rfl]
theorem eA_2 (s : List Nat) : eA (2 :: s) = (2, 0, 0, 0) :: eA s := by rw [eA, if_pos rfl]
theorem jO_y {x : Nat} (s : List Nat) (h : x = 2 ∨ x = 1) : jO (x :: s) = jO s := by rw [jO, if_pos h]
theorem eO_y {x : Nat} (s : List Nat) (h : x = 2 ∨ x = 1) : eO (x :: s) = (x, 0, 0, 0) :: eO s := by rw [eO, if_pos h]
theorem jO_n {x : Nat} (s : List Nat) (h : ¬ (x = 2 ∨ x = 1)) : jO (x :: s) = x :: s := by rw [jO, if_neg h]
theorem eO_n {x : Nat} (s : List Nat) (h : ¬ (x = 2 ∨ x = 1)) : eO (x :: s) = [] := by rw [eO, if_neg h]
theorem brk_jO : ∀ s : List Nat, brk (jO s) = brk s
  | [] => rfl
  | x :: s => by
    by_cases h : x = 2 ∨ x = 1
    · rw [jO_y s h, brk_jO s, brk, if_neg (by omega), Nat.zero_add]
    · rw [jO_n s h]
theorem dep_n {x : Nat} (s : List Nat) (h : ¬ (x = 3 ∨ x = 12)) : dep (x :: s) = dep s := by rw [dep, if_neg h, Nat.zero_add]
theorem dep_y {x : Nat} (s : List Nat) (h : x = 3 ∨ x = 12) : dep (x :: s) = dep s + 1 := by rw [dep, if_pos h, Nat.add_comm]
/-- the pile below either: empty, or a bracket stands on top -/
def bas (σ : List Nat) : Prop := σ = [] ∨ ∃ s : List Nat, σ = 12 :: s
theorem bas.fx {σ : List Nat} (h : bas σ) : pN σ = σ ∧ eN σ = [] ∧ jA σ = σ ∧ eA σ = [] ∧ jO σ = σ ∧ eO σ = [] := by
  rcases h with rfl | ⟨s, rfl⟩
  · exact ⟨rfl, rfl, rfl, rfl, rfl, rfl⟩
  · exact ⟨pN_n s (by omega), eN_n s (by omega), jA_n s (by omega), eA_n s (by omega), jO_n s (by omega), eO_n s (by omega)⟩
/-- what waits above the pile: y says whether an or does -/
def owS (τ σ : List Nat) (y : Int32) : Prop := (y = 0 ∧ (τ = σ ∨ τ = 2 :: σ)) ∨ (y = 1 ∧ (τ = 1 :: σ ∨ τ = 2 :: 1 :: σ))
end MAC
/-! more of the pile: what the class' either needs -/
section PIL2
variable {σ τ : List Nat} {y : Int32}
theorem eA_jA : ∀ s : List Nat, eA (jA s) = []
  | [] => rfl
  | x :: s => by
    by_cases h : x = 2
    · subst h; rw [jA_2, eA_jA s]
    · rw [jA_n s h, eA_n s h]
theorem dep_jA : ∀ s : List Nat, dep (jA s) = dep s
  | [] => rfl
  | x :: s => by
    by_cases h : x = 2
    · subst h; rw [jA_2, dep_jA s, dep_n s (by omega)]
    · rw [jA_n s h]
theorem dep_jO : ∀ s : List Nat, dep (jO s) = dep s
  | [] => rfl
  | x :: s => by
    by_cases h : x = 2 ∨ x = 1
    · rw [jO_y s h, dep_jO s, dep_n s (by omega)]
    · rw [jO_n s h]
theorem eA_2jA : eA (2 :: jA τ) = [(2, 0, 0, 0)] := by rw [eA_2, eA_jA]
theorem ow_0 (hb : bas σ) : owS σ σ 0 := Or.inl ⟨rfl, Or.inl rfl⟩
theorem ow_and (hb : bas σ) (h : owS τ σ y) : owS (2 :: jA τ) σ y := by
  have e := hb.fx.2.2.1
  rcases h with ⟨h0, rfl | rfl⟩ | ⟨h0, rfl | rfl⟩
  · exact Or.inl ⟨h0, Or.inr (by rw [e])⟩
  · exact Or.inl ⟨h0, Or.inr (by rw [jA_2, e])⟩
  · exact Or.inr ⟨h0, Or.inr (by rw [jA_n _ (by omega)])⟩
  · exact Or.inr ⟨h0, Or.inr (by rw [jA_2, jA_n _ (by omega)])⟩
theorem ow_jO (hb : bas σ) (h : owS τ σ y) : jO τ = σ := by
  have e := hb.fx.2.2.2.2.1
  rcases h with ⟨h0, rfl | rfl⟩ | ⟨h0, rfl | rfl⟩
  · exact e
  · rw [jO_y _ (Or.inl rfl), e]
  · rw [jO_y _ (Or.inr rfl), e]
  · rw [jO_y _ (Or.inl rfl), jO_y _ (Or.inr rfl), e]
theorem ow_eO (hb : bas σ) (h : owS τ σ y) : (y = 0 → eO τ = eA τ) ∧ (y = 1 → eO τ = eA τ ++ [(1, 0, 0, 0)]) := by
  have e := hb.fx.2.2.2.2.2
  have e' := hb.fx.2.2.2.1
  rcases h with ⟨h0, rfl | rfl⟩ | ⟨h0, rfl | rfl⟩
  · exact ⟨fun _ => by rw [e, e'], fun q => absurd (h0.symm.trans q) (by decide)⟩
  · exact ⟨fun _ => by rw [eO_y _ (Or.inl rfl), e, eA_2, e'], fun q => absurd (h0.symm.trans q) (by decide)⟩
  · exact ⟨fun q => absurd (h0.symm.trans q) (by decide), fun _ => by rw [eO_y _ (Or.inr rfl), e, eA_n _ (by omega)]; rfl⟩
  · exact ⟨fun q => absurd (h0.symm.trans q) (by decide), fun _ => by rw [eO_y _ (Or.inl rfl), eO_y _ (Or.inr rfl), e, eA_2, eA_n _ (by omega)]; rfl⟩
theorem ow_or : owS (1 :: σ) σ 1 := Or.inr ⟨rfl, Or.inl rfl⟩
theorem bas_12 (s : List Nat) : bas (12 :: s) := Or.inr ⟨s, rfl⟩
theorem bas_0 : bas [] := Or.inl rfl
end PIL2
/-! steps, one by one -/
section STP
variable {f : Nat → Int32} {n b : Nat} {σ : List Nat} {T : List Tk}
theorem st_deep (h : (b < n ∧ f b = 40) ∨ wdE f n b = 3) (hd : dep σ = 6) : stR f n 0 b σ T (13, b, [], []) := Or.inl ⟨rfl, h, hd, rfl⟩
theorem st_open (h : b < n ∧ f b = 40) (hd : ¬ dep σ = 6) : stR f n 0 b σ T (0, nxF f n b, 12 :: σ, T) := Or.inr (Or.inl ⟨rfl, h, hd, rfl⟩)
theorem st_not (h : wdE f n b = 3) (hd : ¬ dep σ = 6) : stR f n 0 b σ T (0, nxF f n b, 3 :: σ, T) := Or.inr (Or.inr (Or.inl ⟨rfl, h, hd, rfl⟩))
theorem st_tf (h : ¬ ((b < n ∧ f b = 40) ∨ wdE f n b = 3)) {k p w m v : Nat} (ht : tstR f n b k p w m v) (hk : ¬ k = 0) : stR f n 0 b σ T (10 + k, p, [], []) := Or.inr (Or.inr (Or.inr (Or.inl ⟨rfl, h, k, p, w, m, v, ht, Or.inl ⟨hk, rfl⟩⟩)))
theorem st_te (h : ¬ ((b < n ∧ f b = 40) ∨ wdE f n b = 3)) {p w m v : Nat} (ht : tstR f n b 0 p w m v) : stR f n 0 b σ T (1, p, pN σ, (T ++ [(13, w, m, v)]) ++ eN σ) := Or.inr (Or.inr (Or.inr (Or.inl ⟨rfl, h, 0, p, w, m, v, ht, Or.inr ⟨rfl, rfl⟩⟩)))
theorem st_and (h : wdE f n b = 2) : stR f n 1 b σ T (0, nxF f n b, 2 :: jA σ, T ++ eA σ) := Or.inr (Or.inr (Or.inr (Or.inr (Or.inl ⟨rfl, h, rfl⟩))))
theorem st_or (h : wdE f n b = 1) : stR f n 1 b σ T (0, nxF f n b, 1 :: jO σ, T ++ eO σ) := Or.inr (Or.inr (Or.inr (Or.inr (Or.inr (Or.inl ⟨rfl, h, rfl⟩)))))
theorem st_close (h : b < n ∧ f b = 41) (hk : 0 < brk σ) : stR f n 1 b σ T (1, nxF f n b, pN (jO σ).tail, (T ++ eO σ) ++ eN (jO σ).tail) := Or.inr (Or.inr (Or.inr (Or.inr (Or.inr (Or.inr (Or.inl ⟨rfl, h, hk, rfl⟩))))))
theorem st_left (h : ¬ (wdE f n b = 1 ∨ wdE f n b = 2)) (h2 : ¬ (b < n ∧ f b = 41)) (hk : 0 < brk σ) : stR f n 1 b σ T (11, b, [], []) := Or.inr (Or.inr (Or.inr (Or.inr (Or.inr (Or.inr (Or.inr (Or.inl ⟨rfl, h, h2, hk, rfl⟩)))))))
theorem st_end (h : ¬ (wdE f n b = 1 ∨ wdE f n b = 2)) (hk : brk σ = 0) : stR f n 1 b σ T (2, b, [], T ++ eO σ) := Or.inr (Or.inr (Or.inr (Or.inr (Or.inr (Or.inr (Or.inr (Or.inr ⟨rfl, h, hk, rfl⟩)))))))
end STP
/-! the whole text -/
def tailR (f : Nat → Int32) (n b k p fr : Nat) : Prop := (¬ wdE f n b = 0 ∧ k = 1 ∧ p = b) ∨ (wdE f n b = 0 ∧ ∃ k' p' v' : Nat, numR f n 30000 (nxF f n b) k' p' v' ∧ ((¬ k' = 0 ∧ k = k' ∧ p = p') ∨ (k' = 0 ∧ fr = v' ∧ ((¬ (p' < n ∧ f p' = 59) ∧ k = 1 ∧ p = p') ∨ ((p' < n ∧ f p' = 59) ∧ ((kdF f n (nxF f n p') = 0 ∧ k = 0) ∨ (¬ kdF f n (nxF f n p') = 0 ∧ k = 1 ∧ p = nxF f n p')))))))
def rdR (f : Nat → Int32) (n k p fr : Nat) (T : List Tk) : Prop :=
  (¬ wdE f n (skB f n 0) = 11 ∧ k = 1 ∧ p = skB f n 0) ∨
  (wdE f n (skB f n 0) = 11 ∧ skB f n 0 + 12 < teF f n (skB f n 0) ∧ k = 1 ∧ p = skB f n 0 + 12) ∨
  (wdE f n (skB f n 0) = 11 ∧ ¬ skB f n 0 + 12 < teF f n (skB f n 0) ∧ ((¬ (nxF f n (skB f n 0) < n ∧ f (nxF f n (skB f n 0)) = 58) ∧ k = 1 ∧ p = nxF f n (skB f n 0)) ∨
    ((nxF f n (skB f n 0) < n ∧ f (nxF f n (skB f n 0)) = 58) ∧ ∃ t : S4, Rch f n (0, nxF f n (nxF f n (skB f n 0)), [], []) t ∧ ((∃ k' : Nat, 1 ≤ k' ∧ t.1 = 10 + k' ∧ k = k' ∧ p = t.2.1) ∨ (t.1 = 2 ∧ T = t.2.2.2 ∧ tailR f n t.2.1 k p fr)))))
theorem tailR.uq {f : Nat → Int32} {n b k p fr k' p' fr' : Nat} (h : tailR f n b k p fr) (h' : tailR f n b k' p' fr') : k = k' ∧ (¬ k = 0 → p = p') ∧ (k = 0 → fr = fr') := by
  rcases h with h | ⟨h, a, q, v, h1, h2⟩ <;> rcases h' with h' | ⟨h', a', q', v', h1', h2'⟩
  · omega
  · omega
  · omega
  · obtain ⟨e1, e2, e3⟩ := h1.uq h1'
    subst e1 e2
    rcases h2 with h2 | ⟨h0, hf, h2⟩ <;> rcases h2' with h2' | ⟨h0', hf', h2'⟩
    · omega
    · omega
    · omega
    · have e3 := e3 h0
      rcases h2 with ⟨c, h2⟩ | ⟨c, h2⟩ <;> rcases h2' with ⟨c', h2'⟩ | ⟨c', h2'⟩ <;> first | exact absurd c' c | exact absurd c c' | omega
theorem rdR.uq {f : Nat → Int32} {n k p fr k' p' fr' : Nat} {T T' : List Tk} (h : rdR f n k p fr T) (h' : rdR f n k' p' fr' T') : k = k' ∧ (¬ k = 0 → p = p') ∧ (k = 0 → fr = fr' ∧ T = T') := by
  rcases h with h | h | ⟨h, hl, h2⟩ <;> rcases h' with h' | h' | ⟨h', hl', h2'⟩ <;> first | (exfalso; omega) | exact ⟨by omega, fun _ => by omega, fun q => absurd q (by omega)⟩ | skip
  rcases h2 with ⟨c, h2⟩ | ⟨c, t, hr, h2⟩ <;> rcases h2' with ⟨c', h2'⟩ | ⟨c', t', hr', h2'⟩ <;> first | exact absurd c' c | exact absurd c c' | exact ⟨by omega, fun _ => by omega, fun q => absurd q (by omega)⟩ | skip
  have e : t = t' := hr.uq hr' (by rcases h2 with ⟨j, h2⟩ | h2 <;> omega) (by rcases h2' with ⟨j, h2'⟩ | h2' <;> omega)
  subst e
  rcases h2 with ⟨j, h2⟩ | ⟨h2, e2, h3⟩ <;> rcases h2' with ⟨j', h2'⟩ | ⟨h2', e2', h3'⟩
  · exact ⟨by omega, fun _ => by omega, fun q => absurd q (by omega)⟩
  · exfalso; omega
  · exfalso; omega
  · have := h3.uq h3'
    exact ⟨this.1, this.2.1, fun q => ⟨this.2.2 q, e2.trans e2'.symm⟩⟩
/-! how far they go -/
theorem num_gain {f : Nat → Int32} {n mo b p v : Nat} (h : numR f n mo b 0 p v) (hb : b ≤ n) : b ≤ p ∧ p ≤ n := by
  have h1 := teF_le (f := f) hb
  have h2 := nxF_le (f := f) hb
  rcases h with h | h | h | h <;> omega
theorem nx_gain {f : Nat → Int32} {n b : Nat} (hb : b ≤ n) : b ≤ nxF f n b ∧ nxF f n b ≤ n ∧ (¬ kdF f n b = 0 → b + 1 ≤ nxF f n b) := by
  have h1 := teF_le (f := f) hb
  have h2 := nxF_le (f := f) hb
  exact ⟨by omega, by omega, fun q => by have := h1.2.2 q; omega⟩
theorem nx_wd {f : Nat → Int32} {n b j : Nat} (hb : b ≤ n) (hj : j < 11) (h : wdE f n b = j) : b + (wl j).length ≤ nxF f n b ∧ nxF f n b ≤ n := by
  have h1 := wdE_te hb hj h
  have h2 := nxF_le (f := f) hb
  exact ⟨by omega, h2.2⟩
theorem wht_gain {f : Nat → Int32} {n b p w : Nat} (h : whtR f n b 0 p w) (hb : b ≤ n) : b + 4 ≤ p ∧ p ≤ n := by
  have l : ∀ j : Nat, 4 ≤ j → j ≤ 8 → 4 ≤ (wl j).length := fun j h1 h2 => by
    have : j = 4 ∨ j = 5 ∨ j = 6 ∨ j = 7 ∨ j = 8 := by omega
    rcases this with rfl | rfl | rfl | rfl | rfl <;> decide
  rcases h with h | ⟨h1, h2, -, e, -⟩ | ⟨h1, v, h2, -⟩ | ⟨h1, v, h2, -⟩
  · omega
  · have h3 := nx_wd hb (j := wdE f n b) (by omega) rfl
    have h4 := l (wdE f n b) h1 (by omega)
    omega
  · have h3 := nx_wd hb (by omega) h1
    have h4 := l 7 (by omega) (by omega)
    have h5 := num_gain h2 h3.2
    omega
  · have h3 := nx_wd hb (by omega) h1
    have h4 := l 8 (by omega) (by omega)
    have h5 := num_gain h2 h3.2
    omega
theorem tst_gain {f : Nat → Int32} {n b p w m v : Nat} (h : tstR f n b 0 p w m v) (hb : b ≤ n) : b + 4 ≤ p ∧ p ≤ n := by
  rcases h with ⟨w', -, h⟩ | ⟨c, h1, h2 | ⟨h2, -, h3⟩⟩
  · omega
  · omega
  · have g := wht_gain h1 hb
    have g2 := nx_gain (f := f) g.2
    have g3 := num_gain h3 g2.2.1
    omega
theorem brk_12 {τ σ : List Nat} (h : jO τ = 12 :: σ) : 0 < brk τ := by
  rw [← brk_jO τ, h, brk, if_pos rfl]; omega
theorem tail_fr {f : Nat → Int32} {n b p fr : Nat} (h : tailR f n b 0 p fr) : fr ≤ 30000 := by
  rcases h with h | ⟨-, k', p', v', hn, h⟩
  · omega
  · rcases h with h | ⟨h0, hf, -⟩
    · omega
    · rcases hn with hn | hn | hn | hn <;> omega
theorem rd_fr {f : Nat → Int32} {n p fr : Nat} {T : List Tk} (h : rdR f n 0 p fr T) : fr ≤ 30000 := by
  rcases h with h | h | ⟨-, -, h | ⟨-, t, -, ⟨k', h1, -, h2, -⟩ | ⟨-, -, h⟩⟩⟩
  · omega
  · omega
  · omega
  · omega
  · exact tail_fr h
theorem len_a1 {α : Type} (T : List α) (c : α) : (T ++ [c]).length = T.length + 1 := by simp
