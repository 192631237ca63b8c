/-! THE TEXTS OF RULES: the bytes f, n of them; runs, pieces, words, numbers, tests, and the reading of either as a machine -/
def ltr (c : Int32) : Prop := ¬ c < 97 ∧ ¬ 122 < c
def dgt (c : Int32) : Prop := ¬ c < 48 ∧ ¬ 57 < c
def blk (c : Int32) : Prop := c = 32 ∨ c = 10
noncomputable def cif {α : Type} (p : Prop) (a b : α) : α := @ite α p (Classical.propDecidable p) a b
theorem cif_t {α : Type} {p : Prop} {a b : α} (h : p) : cif p a b = a := @if_pos p (Classical.propDecidable p) h α a b
theorem cif_f {α : Type} {p : Prop} {a b : α} (h : ¬ p) : cif p a b = b := @if_neg p (Classical.propDecidable p) h α a b
/-- the run of P from a on ends at e -/
def isRn (P : Int32 → Prop) (f : Nat → Int32) (n a e : Nat) : Prop := a ≤ e ∧ e ≤ n ∧ (∀ i : Nat, a ≤ i → i < e → P (f i)) ∧ (e = n ∨ ¬ P (f e))
theorem isRn.uq {P : Int32 → Prop} {f : Nat → Int32} {n a e e' : Nat} (h : isRn P f n a e) (h' : isRn P f n a e') : e = e' := by
  rcases Nat.lt_trichotomy e e' with q | q | q
  · rcases h.2.2.2 with z | z
    · have := h'.2.1; omega
    · exact absurd (h'.2.2.1 e h.1 q) z
  · exact q
  · rcases h'.2.2.2 with z | z
    · have := h.2.1; omega
    · exact absurd (h.2.2.1 e' h'.1 q) z
noncomputable def rnF (P : Int32 → Prop) (f : Nat → Int32) : Nat → Nat → Nat
  | 0, a => a
  | k + 1, a => cif (P (f a)) (rnF P f k (a + 1)) a
noncomputable def rnE (P : Int32 → Prop) (f : Nat → Int32) (n a : Nat) : Nat := rnF P f (n - a) a
theorem rnF_is {P : Int32 → Prop} {f : Nat → Int32} {n : Nat} : ∀ k a : Nat, a + k = n → isRn P f n a (rnF P f k a)
  | 0, a, h => ⟨Nat.le_refl _, by rw [rnF]; omega, fun i h1 h2 => absurd h2 (by rw [rnF]; omega), Or.inl (by rw [rnF]; omega)⟩
  | k + 1, a, h => by
    by_cases c : P (f a)
    · rw [rnF, cif_t c]
      have ih := rnF_is (P := P) (f := f) (n := n) k (a + 1) (by omega)
      refine ⟨by have := ih.1; omega, ih.2.1, fun i h1 h2 => ?_, ih.2.2.2⟩
      rcases Nat.lt_or_ge a i with q | q
      · exact ih.2.2.1 i q h2
      · rw [show i = a by omega]; exact c
    · rw [rnF, cif_f c]
      exact ⟨Nat.le_refl _, by omega, fun i h1 h2 => by omega, Or.inr c⟩
theorem rnE_is {P : Int32 → Prop} {f : Nat → Int32} {n a : Nat} (h : a ≤ n) : isRn P f n a (rnE P f n a) := rnF_is (n - a) a (by omega)
theorem isRn.eq {P : Int32 → Prop} {f : Nat → Int32} {n a e : Nat} (h : isRn P f n a e) : rnE P f n a = e := (rnE_is (Nat.le_trans h.1 h.2.1)).uq h
theorem isRn.cg {P : Int32 → Prop} {f g : Nat → Int32} {n a e : Nat} (h : isRn P f n a e) (hg : ∀ i : Nat, i < n → g i = f i) : isRn P g n a e := by
  refine ⟨h.1, h.2.1, fun i h1 h2 => by rw [hg i (by have := h.2.1; omega)]; exact h.2.2.1 i h1 h2, ?_⟩
  rcases Nat.lt_or_ge e n with q | q
  · rw [hg e q]; exact h.2.2.2
  · exact Or.inl (by have := h.2.1; omega)
theorem rnE_cg {P : Int32 → Prop} {f g : Nat → Int32} {n a : Nat} (ha : a ≤ n) (hg : ∀ i : Nat, i < n → g i = f i) : rnE P g n a = rnE P f n a := ((rnE_is ha).cg hg).eq
noncomputable def skB (f : Nat → Int32) (n a : Nat) : Nat := rnE blk f n a
noncomputable def weL (f : Nat → Int32) (n a : Nat) : Nat := rnE ltr f n a
noncomputable def deD (f : Nat → Int32) (n a : Nat) : Nat := rnE dgt f n a
/-- the kind of the piece that begins at b: 0 the end, 1 a word, 2 a number, 4 another byte; its end; where the next one begins -/
noncomputable def kdF (f : Nat → Int32) (n b : Nat) : Nat := cif (b < n) (cif (ltr (f b)) 1 (cif (dgt (f b)) 2 4)) 0
noncomputable def teF (f : Nat → Int32) (n b : Nat) : Nat := cif (kdF f n b = 0) b (cif (kdF f n b = 1) (weL f n b) (cif (kdF f n b = 2) (deD f n b) (b + 1)))
noncomputable def nxF (f : Nat → Int32) (n b : Nat) : Nat := skB f n (teF f n b)
def wl : Nat → List Int32
  | 0 => [102, 114, 111, 109]
  | 1 => [111, 114]
  | 2 => [97, 110, 100]
  | 3 => [110, 111, 116]
  | 4 => [119, 97, 116, 101, 114]
  | 5 => [99, 111, 108, 111, 117, 114]
  | 6 => [104, 101, 97, 116]
  | 7 => [112, 111, 108, 108, 101, 110]
  | 8 => [108, 97, 110, 100]
  | 9 => [109, 105, 110]
  | 10 => [109, 97, 120]
  | _ => []
def spl (f : Nat → Int32) (n b : Nat) (w : List Int32) : Prop := weL f n b = b + w.length ∧ ∀ k : Nat, k < w.length → f (b + k) = w.getD k 0
theorem spl.uq {f : Nat → Int32} {n b : Nat} {w w' : List Int32} (h : spl f n b w) (h' : spl f n b w') : w = w' := by
  have hl : w.length = w'.length := by have := h.1; have := h'.1; omega
  apply List.ext_getElem hl
  intro k h1 h2
  have e1 := h.2 k h1
  have e2 := h'.2 k h2
  rw [e1, List.getD_eq_getElem?_getD, List.getD_eq_getElem?_getD, List.getElem?_eq_getElem h1, List.getElem?_eq_getElem h2] at e2
  exact e2
theorem wl_uq : ∀ i : Nat, i < 11 → ∀ j : Nat, j < 11 → wl i = wl j → i = j := by decide
theorem wl_len : ∀ i : Nat, i < 11 → 2 ≤ (wl i).length ∧ (wl i).length ≤ 6 := by decide
noncomputable def wdF (f : Nat → Int32) (n b : Nat) : Nat → Nat → Nat
  | 0, _ => 11
  | k + 1, i => cif (spl f n b (wl i)) i (wdF f n b k (i + 1))
/-- the word that begins at b: 0 .. 10 one of the kept ones, 11 another, 99 no word -/
noncomputable def wdE (f : Nat → Int32) (n b : Nat) : Nat := cif (kdF f n b = 1) (wdF f n b 11 0) 99
section TXT
variable {f : Nat → Int32} {n b : Nat}
theorem kdF_0 (h : ¬ b < n) : kdF f n b = 0 := by rw [kdF, cif_f h]
theorem kdF_1 (h : b < n) (h1 : ltr (f b)) : kdF f n b = 1 := by rw [kdF, cif_t h, cif_t h1]
theorem kdF_2 (h : b < n) (h1 : ¬ ltr (f b)) (h2 : dgt (f b)) : kdF f n b = 2 := by rw [kdF, cif_t h, cif_f h1, cif_t h2]
theorem kdF_4 (h : b < n) (h1 : ¬ ltr (f b)) (h2 : ¬ dgt (f b)) : kdF f n b = 4 := by rw [kdF, cif_t h, cif_f h1, cif_f h2]
theorem kdF_c : (¬ b < n ∧ kdF f n b = 0) ∨ (b < n ∧ ltr (f b) ∧ kdF f n b = 1) ∨ (b < n ∧ ¬ ltr (f b) ∧ dgt (f b) ∧ kdF f n b = 2) ∨ (b < n ∧ ¬ ltr (f b) ∧ ¬ dgt (f b) ∧ kdF f n b = 4) := by
  by_cases h : b < n
  · by_cases h1 : ltr (f b)
    · exact Or.inr (Or.inl ⟨h, h1, kdF_1 h h1⟩)
    · by_cases h2 : dgt (f b)
      · exact Or.inr (Or.inr (Or.inl ⟨h, h1, h2, kdF_2 h h1 h2⟩))
      · exact Or.inr (Or.inr (Or.inr ⟨h, h1, h2, kdF_4 h h1 h2⟩))
  · exact Or.inl ⟨h, kdF_0 h⟩
theorem teF_0 (h : kdF f n b = 0) : teF f n b = b := by rw [teF, cif_t h]
theorem teF_1 (h : kdF f n b = 1) : teF f n b = weL f n b := by rw [teF, cif_f (by omega), cif_t h]
theorem teF_2 (h : kdF f n b = 2) : teF f n b = deD f n b := by rw [teF, cif_f (by omega), cif_f (by omega), cif_t h]
theorem teF_4 (h : kdF f n b = 4) : teF f n b = b + 1 := by rw [teF, cif_f (by omega), cif_f (by omega), cif_f (by omega)]
theorem teF_le (hb : b ≤ n) : b ≤ teF f n b ∧ teF f n b ≤ n ∧ (¬ kdF f n b = 0 → b + 1 ≤ teF f n b) := by
  have up : ∀ (P : Int32 → Prop), b < n → P (f b) → b + 1 ≤ rnE P f n b := fun P h1 h2 => by
    have h := rnE_is (P := P) (f := f) (n := n) hb
    rcases Nat.lt_or_ge b (rnE P f n b) with q | q
    · exact q
    · have e : rnE P f n b = b := by have := h.1; omega
      rcases h.2.2.2 with z | z
      · omega
      · rw [e] at z; exact absurd h2 z
  rcases kdF_c (f := f) (n := n) (b := b) with ⟨h, k⟩ | ⟨h, h1, k⟩ | ⟨h, h1, h2, k⟩ | ⟨h, h1, h2, k⟩
  · rw [teF_0 k]; exact ⟨Nat.le_refl _, hb, fun q => absurd k q⟩
  · rw [teF_1 k]; exact ⟨by have := up ltr h h1; exact Nat.le_trans (by omega) this, (rnE_is hb).2.1, fun _ => up ltr h h1⟩
  · rw [teF_2 k]; exact ⟨by have := up dgt h h2; exact Nat.le_trans (by omega) this, (rnE_is hb).2.1, fun _ => up dgt h h2⟩
  · rw [teF_4 k]; exact ⟨by omega, by omega, fun _ => Nat.le_refl _⟩
theorem nxF_le (hb : b ≤ n) : teF f n b ≤ nxF f n b ∧ nxF f n b ≤ n := by
  have h := rnE_is (P := blk) (f := f) (n := n) (teF_le (f := f) hb).2.1
  exact ⟨h.1, h.2.1⟩
/-- b is where a piece begins -/
def pcB (f : Nat → Int32) (n b : Nat) : Prop := b ≤ n ∧ (b = n ∨ ¬ blk (f b))
theorem skB_pc {a : Nat} (ha : a ≤ n) : pcB f n (skB f n a) := ⟨(rnE_is ha).2.1, (rnE_is ha).2.2.2⟩
theorem nxF_pc (hb : b ≤ n) : pcB f n (nxF f n b) := skB_pc (teF_le hb).2.1
theorem pcB.sk (h : pcB f n b) : skB f n b = b := isRn.eq ⟨Nat.le_refl _, h.1, fun i h1 h2 => absurd h2 (by omega), h.2⟩
theorem wdF_at {j : Nat} (hj : j < 11) (h : spl f n b (wl j)) : ∀ k i : Nat, i + k = 11 → i ≤ j → wdF f n b k i = j
  | 0, i, h1, h2 => by omega
  | k + 1, i, h1, h2 => by
    by_cases c : spl f n b (wl i)
    · rw [wdF, cif_t c]; exact wl_uq i (by omega) j hj (c.uq h)
    · rw [wdF, cif_f c]
      refine wdF_at hj h k (i + 1) (by omega) ?_
      rcases Nat.lt_or_ge i j with q | q
      · exact q
      · rw [show i = j by omega] at c; exact absurd h c
theorem wdF_no (h : ∀ j : Nat, j < 11 → ¬ spl f n b (wl j)) : ∀ k i : Nat, i + k = 11 → wdF f n b k i = 11
  | 0, i, h1 => rfl
  | k + 1, i, h1 => by rw [wdF, cif_f (h i (by omega)), wdF_no h k (i + 1) (by omega)]
theorem wdF_sp : ∀ k i j : Nat, i + k = 11 → wdF f n b k i = j → j < 11 → spl f n b (wl j)
  | 0, i, j, h1, h2, h3 => by rw [wdF] at h2; omega
  | k + 1, i, j, h1, h2, h3 => by
    by_cases c : spl f n b (wl i)
    · rw [wdF, cif_t c] at h2; rw [← h2]; exact c
    · rw [wdF, cif_f c] at h2; exact wdF_sp k (i + 1) j (by omega) h2 h3
theorem spl_kd (hb : b ≤ n) {w : List Int32} (h : spl f n b w) (hw : 1 ≤ w.length) : kdF f n b = 1 := by
  have e := h.1
  have r := rnE_is (P := ltr) (f := f) (n := n) hb
  have e2 : rnE ltr f n b = b + w.length := e
  rw [e2] at r
  exact kdF_1 (by have := r.2.1; omega) (r.2.2.1 b (Nat.le_refl _) (by omega))
theorem wdE_at (hb : b ≤ n) {j : Nat} (hj : j < 11) (h : spl f n b (wl j)) : wdE f n b = j := by rw [wdE, cif_t (spl_kd hb h (by have := wl_len j hj; omega)), wdF_at hj h 11 0 (by omega) (by omega)]
theorem wdE_sp {j : Nat} (hj : j < 11) (h : wdE f n b = j) : spl f n b (wl j) ∧ kdF f n b = 1 := by
  by_cases c : kdF f n b = 1
  · rw [wdE, cif_t c] at h; exact ⟨wdF_sp 11 0 j (by omega) h hj, c⟩
  · rw [wdE, cif_f c] at h; omega
theorem wdE_11 (c : kdF f n b = 1) (h : ∀ j : Nat, j < 11 → ¬ spl f n b (wl j)) : wdE f n b = 11 := by rw [wdE, cif_t c, wdF_no h 11 0 (by omega)]
theorem wdE_99 (c : ¬ kdF f n b = 1) : wdE f n b = 99 := by rw [wdE, cif_f c]
theorem wdF_le : ∀ k i : Nat, i + k = 11 → wdF f n b k i ≤ 11
  | 0, i, h => Nat.le_refl _
  | k + 1, i, h => by
    by_cases c : spl f n b (wl i)
    · rw [wdF, cif_t c]; omega
    · rw [wdF, cif_f c]; exact wdF_le k (i + 1) (by omega)
theorem wdE_c : (kdF f n b = 1 ∧ wdE f n b ≤ 11) ∨ (¬ kdF f n b = 1 ∧ wdE f n b = 99) := by
  by_cases c : kdF f n b = 1
  · exact Or.inl ⟨c, by rw [wdE, cif_t c]; exact wdF_le 11 0 (by omega)⟩
  · exact Or.inr ⟨c, wdE_99 c⟩
theorem wdE_te (hb : b ≤ n) {j : Nat} (hj : j < 11) (h : wdE f n b = j) : teF f n b = b + (wl j).length := by
  obtain ⟨h1, h2⟩ := wdE_sp hj h
  rw [teF_1 h2]; exact h1.1
end TXT
/-- the value of the k digits from b on -/
def vlN (f : Nat → Int32) (b : Nat) : Nat → Nat
  | 0 => 0
  | k + 1 => 10 * vlN f b k + ((f (b + k)).toNatClampNeg - 48)
/-- a number, at most mo, is read at b: k = 0: read, v its value, p where the next piece begins; else the fault k at p -/
def numR (f : Nat → Int32) (n mo b k p v : Nat) : Prop := (¬ kdF f n b = 2 ∧ k = 1 ∧ p = b) ∨ (kdF f n b = 2 ∧ b + 5 < teF f n b ∧ k = 1 ∧ p = b + 5) ∨ (kdF f n b = 2 ∧ ¬ b + 5 < teF f n b ∧ mo < vlN f b (teF f n b - b) ∧ k = 2 ∧ p = b) ∨ (kdF f n b = 2 ∧ ¬ b + 5 < teF f n b ∧ ¬ mo < vlN f b (teF f n b - b) ∧ k = 0 ∧ p = nxF f n b ∧ v = vlN f b (teF f n b - b))
theorem numR.uq {f : Nat → Int32} {n mo b k p v k' p' v' : Nat} (h : numR f n mo b k p v) (h' : numR f n mo b k' p' v') : k = k' ∧ p = p' ∧ (k = 0 → v = v') := by
  rcases h with h | h | h | h <;> rcases h' with h' | h' | h' | h' <;> omega
/-- a measure -/
def whtR (f : Nat → Int32) (n b k p w : Nat) : Prop := (¬ (4 ≤ wdE f n b ∧ wdE f n b ≤ 8) ∧ k = 1 ∧ p = b) ∨ (4 ≤ wdE f n b ∧ wdE f n b ≤ 6 ∧ k = 0 ∧ p = nxF f n b ∧ w = wdE f n b - 4) ∨ (wdE f n b = 7 ∧ ∃ v : Nat, numR f n 4 (nxF f n b) k p v ∧ w = 10 + v) ∨ (wdE f n b = 8 ∧ ∃ v : Nat, numR f n 3 (nxF f n b) k p v ∧ w = 30 + v)
theorem whtR.uq {f : Nat → Int32} {n b k p w k' p' w' : Nat} (h : whtR f n b k p w) (h' : whtR f n b k' p' w') : k = k' ∧ p = p' ∧ (k = 0 → w = w') := by
  rcases h with h | h | ⟨h, v, h1, h2⟩ | ⟨h, v, h1, h2⟩ <;> rcases h' with h' | h' | ⟨h', v', h1', h2'⟩ | ⟨h', v', h1', h2'⟩ <;> first | omega | (have := h1.uq h1'; omega)
/-- a test -/
def tstR (f : Nat → Int32) (n b k p w m v : Nat) : Prop := (∃ w' : Nat, whtR f n b k p w' ∧ ¬ k = 0) ∨ (∃ c : Nat, whtR f n b 0 c w ∧ ((¬ (wdE f n c = 9 ∨ wdE f n c = 10) ∧ k = 1 ∧ p = c) ∨ ((wdE f n c = 9 ∨ wdE f n c = 10) ∧ m = wdE f n c ∧ numR f n 1000 (nxF f n c) k p v)))
theorem tstR.uq {f : Nat → Int32} {n b k p w m v k' p' w' m' v' : Nat} (h : tstR f n b k p w m v) (h' : tstR f n b k' p' w' m' v') : k = k' ∧ p = p' ∧ (k = 0 → w = w' ∧ m = m' ∧ v = v') := by
  rcases h with ⟨u, h, hk⟩ | ⟨c, h, h1⟩ <;> rcases h' with ⟨u', h', hk'⟩ | ⟨c', h', h1'⟩
  · have := h.uq h'; omega
  · have := h.uq h'; omega
  · have := h.uq h'; omega
  · obtain ⟨-, e, ew⟩ := h.uq h'
    have ew := ew rfl
    subst e
    rcases h1 with h1 | ⟨h1, hm, h2⟩ <;> rcases h1' with h1' | ⟨h1', hm', h2'⟩
    · omega
    · omega
    · omega
    · have := h2.uq h2'; omega
/-! kinds of bytes, as the class tells them -/
noncomputable def kq (c : Int32) : Nat := cif (ltr c) 1 (cif (dgt c) 2 (cif (blk c) 3 (cif (c = -1) 0 4)))
noncomputable def btF (f : Nat → Int32) (n a : Nat) : Int32 := cif (a < n) (f a) (-1)
section KQ
variable {c : Int32} {f : Nat → Int32} {n b : Nat}
theorem kq_1 (h : ltr c) : kq c = 1 := by rw [kq, cif_t h]
theorem kq_2 (h : ¬ ltr c) (h2 : dgt c) : kq c = 2 := by rw [kq, cif_f h, cif_t h2]
theorem kq_3 (h : ¬ ltr c) (h2 : ¬ dgt c) (h3 : blk c) : kq c = 3 := by rw [kq, cif_f h, cif_f h2, cif_t h3]
theorem kq_0 (h : ¬ ltr c) (h2 : ¬ dgt c) (h3 : ¬ blk c) (h4 : c = -1) : kq c = 0 := by rw [kq, cif_f h, cif_f h2, cif_f h3, cif_t h4]
theorem kq_4 (h : ¬ ltr c) (h2 : ¬ dgt c) (h3 : ¬ blk c) (h4 : ¬ c = -1) : kq c = 4 := by rw [kq, cif_f h, cif_f h2, cif_f h3, cif_f h4]
theorem blk_n (h : blk c) : ¬ ltr c ∧ ¬ dgt c := by
  rcases h with rfl | rfl
  · exact ⟨fun q => q.1 (by decide), fun q => q.1 (by decide)⟩
  · exact ⟨fun q => q.1 (by decide), fun q => q.1 (by decide)⟩
theorem kq_blk (h : blk c) : kq c = 3 := kq_3 (blk_n h).1 (blk_n h).2 h
theorem kq_le : kq c ≤ 4 := by
  by_cases h : ltr c
  · rw [kq_1 h]; omega
  · by_cases h2 : dgt c
    · rw [kq_2 h h2]; omega
    · by_cases h3 : blk c
      · rw [kq_3 h h2 h3]; omega
      · by_cases h4 : c = -1
        · rw [kq_0 h h2 h3 h4]; omega
        · rw [kq_4 h h2 h3 h4]; omega
theorem kq_i3 (h : kq c = 3) : blk c := by
  by_cases h3 : blk c
  · exact h3
  · by_cases h1 : ltr c
    · rw [kq_1 h1] at h; omega
    · by_cases h2 : dgt c
      · rw [kq_2 h1 h2] at h; omega
      · by_cases h4 : c = -1
        · rw [kq_0 h1 h2 h3 h4] at h; omega
        · rw [kq_4 h1 h2 h3 h4] at h; omega
theorem kq_i1 (h : kq c = 1) : ltr c := by
  by_cases h1 : ltr c
  · exact h1
  · by_cases h3 : blk c
    · rw [kq_blk h3] at h; omega
    · by_cases h2 : dgt c
      · rw [kq_2 h1 h2] at h; omega
      · by_cases h4 : c = -1
        · rw [kq_0 h1 h2 h3 h4] at h; omega
        · rw [kq_4 h1 h2 h3 h4] at h; omega
theorem dgt_nl (h : dgt c) : ¬ ltr c := fun q => by
  have h1 := h.2; have h2 := q.1
  rw [i_lt] at h1 h2
  have e1 : (57 : Int32).toInt = 57 := by decide
  have e2 : (97 : Int32).toInt = 97 := by decide
  omega
theorem kq_i2 (h : kq c = 2) : dgt c := by
  by_cases h2 : dgt c
  · exact h2
  · by_cases h1 : ltr c
    · rw [kq_1 h1] at h; omega
    · by_cases h3 : blk c
      · rw [kq_blk h3] at h; omega
      · by_cases h4 : c = -1
        · rw [kq_0 h1 h2 h3 h4] at h; omega
        · rw [kq_4 h1 h2 h3 h4] at h; omega
theorem kq_m1 : kq (-1) = 0 := kq_0 (fun q => q.1 (by decide)) (fun q => q.1 (by decide)) (fun q => by rcases q with q | q <;> exact absurd q (by decide)) rfl
theorem btF_t (h : b < n) : btF f n b = f b := by rw [btF, cif_t h]
theorem btF_f (h : ¬ b < n) : btF f n b = -1 := by rw [btF, cif_f h]
theorem kq_kd (hb : b < n) (hn : ¬ f b = -1) (hk : ¬ blk (f b)) : kq (f b) = kdF f n b := by
  rcases kdF_c (f := f) (n := n) (b := b) with ⟨h, k⟩ | ⟨h, h1, k⟩ | ⟨h, h1, h2, k⟩ | ⟨h, h1, h2, k⟩
  · exact absurd hb h
  · rw [k, kq_1 h1]
  · rw [k, kq_2 h1 h2]
  · rw [k, kq_4 h1 h2 hk hn]
theorem kq_bt (hp : pcB f n b) (hng : ∀ i : Nat, i < n → ¬ f i = -1) : kq (btF f n b) = kdF f n b := by
  rcases Nat.lt_or_ge b n with q | q
  · rw [btF_t q]
    rcases hp.2 with z | z
    · omega
    · exact kq_kd q (hng b q) z
  · rw [btF_f (by omega), kdF_0 (by omega), kq_m1]
theorem kdF_lt (h : ¬ kdF f n b = 0) : b < n := by
  rcases Nat.lt_or_ge b n with q | q
  · exact q
  · exact absurd (kdF_0 (by omega)) h
theorem kdF_le : kdF f n b ≤ 4 := by
  rcases kdF_c (f := f) (n := n) (b := b) with h | h | h | h <;> omega
theorem te_kq {e : Nat} (hk : kdF f n b = 1 ∨ kdF f n b = 2) (h1 : b ≤ e) (h2 : e ≤ n) (ha : ∀ i : Nat, b ≤ i → i < e → kq (f i) = kdF f n b) (hx : e = n ∨ ¬ kq (f e) = kdF f n b) (hng : ∀ i : Nat, i < n → ¬ f i = -1) : teF f n b = e := by
  rcases hk with k | k
  · rw [teF_1 k]
    rw [k] at ha hx
    exact isRn.eq ⟨h1, h2, fun i q1 q2 => kq_i1 (ha i q1 q2), hx.imp id (fun q z => q (kq_1 z))⟩
  · rw [teF_2 k]
    rw [k] at ha hx
    exact isRn.eq ⟨h1, h2, fun i q1 q2 => kq_i2 (ha i q1 q2), hx.imp id (fun q z => q (kq_2 (dgt_nl z) z))⟩
theorem te_o (h0 : ¬ kdF f n b = 0) (h1 : ¬ kdF f n b = 1) (h2 : ¬ kdF f n b = 2) : teF f n b = b + 1 := teF_4 (by have := kdF_c (f := f) (n := n) (b := b); omega)
/-- a byte that is neither letter nor digit stands at b -/
theorem oth_t {x : Int32} (h : b < n ∧ f b = x) (h1 : ¬ ltr x) (h2 : ¬ dgt x) : kdF f n b = 4 := kdF_4 h.1 (by rw [h.2]; exact h1) (by rw [h.2]; exact h2)
end KQ
theorem te_dg {f : Nat → Int32} {n b : Nat} (hk : kdF f n b = 2) : ∀ i : Nat, b ≤ i → i < teF f n b → dgt (f i) := by
  have hb : b ≤ n := Nat.le_of_lt (kdF_lt (f := f) (by omega))
  rw [teF_2 hk]
  exact (rnE_is hb).2.2.1
theorem vlN_lt {f : Nat → Int32} {b : Nat} : ∀ k : Nat, (∀ i : Nat, i < k → (f (b + i)).toNatClampNeg ≤ 57) → vlN f b k < 10 ^ k
  | 0, _ => by rw [vlN]; omega
  | k + 1, h => by
    have h1 := vlN_lt (f := f) (b := b) k (fun i hi => h i (by omega))
    have h2 := h k (by omega)
    rw [vlN, Nat.pow_succ]
    omega
