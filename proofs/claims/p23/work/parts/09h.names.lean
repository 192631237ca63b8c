/-! the names of rules, as the class keeps them: five bits a letter -/
def kst (x : Int64) (c : Int32) : Int64 := ((x <<< ((5 : Int32).toInt64 &&& 63)) + c.toInt64 - 97) + 1
def wkF (f : Nat → Int32) (b : Nat) : Nat → Int64
  | 0 => 0
  | k + 1 => kst (wkF f b k) (f (b + k))
def wkN (f : Nat → Int32) (b : Nat) : Nat → Nat
  | 0 => 0
  | k + 1 => 32 * wkN f b k + ((f (b + k)).toNatClampNeg - 96)
theorem ltr_n {c : Int32} (h : ltr c) : 97 ≤ c.toInt ∧ c.toInt ≤ 122 ∧ (c.toNatClampNeg : Int) = c.toInt := by
  have h1 := h.1
  have h2 := h.2
  rw [i_lt] at h1 h2
  have e1 : (97 : Int32).toInt = 97 := by decide
  have e2 : (122 : Int32).toInt = 122 := by decide
  have e3 : c.toNatClampNeg = c.toInt.toNat := rfl
  rw [e1] at h1
  rw [e2] at h2
  exact ⟨by omega, by omega, by omega⟩
theorem sh5 {x : Int64} {k : Nat} (hx : x.toInt = k) (hk : k < 2 ^ 55) : (x <<< ((5 : Int32).toInt64 &&& 63)).toInt = 32 * k := by
  have e0 : ((5 : Int32).toInt64 &&& 63) = 5 := by decide
  rw [e0]
  have e1 : (x <<< (5 : Int64)).toBitVec = x.toBitVec <<< 5 := rfl
  have h0 : x.toBitVec.toInt = k := hx
  have h1 : x.toBitVec.toNat = k := by
    have h2 := BitVec.toInt_eq_toNat_cond x.toBitVec
    have h3 := x.toBitVec.isLt
    rw [h0] at h2
    split at h2 <;> omega
  have h4 : (x.toBitVec <<< 5).toNat = 32 * k := by
    rw [BitVec.toNat_shiftLeft, h1, Nat.shiftLeft_eq, Nat.mod_eq_of_lt (by omega)]
    omega
  show (x <<< (5 : Int64)).toBitVec.toInt = 32 * k
  rw [e1, BitVec.toInt_eq_toNat_cond, h4, if_pos (by omega)]
  omega
theorem kst_n {x : Int64} {c : Int32} {k : Nat} (hx : x.toInt = k) (hk : k < 2 ^ 55) (hc : ltr c) : (kst x c).toInt = 32 * k + (c.toNatClampNeg - 96 : Nat) := by
  obtain ⟨h1, h2, h3⟩ := ltr_n hc
  have e1 : (97 : Int64).toInt = 97 := by decide
  have e2 : (1 : Int64).toInt = 1 := by decide
  rw [kst, Int64.toInt_add, Int64.toInt_sub, Int64.toInt_add, sh5 hx hk, Int32.toInt_toInt64, e1, e2, bm64 (z := 32 * (k : Int) + c.toInt) (by omega) (by omega), bm64 (z := 32 * (k : Int) + c.toInt - 97) (by omega) (by omega), bm64 (by omega) (by omega)]
  omega
section WK
variable {f f' : Nat → Int32} {b b' : Nat}
theorem wkN_d {c : Int32} (h : ltr c) : 1 ≤ c.toNatClampNeg - 96 ∧ c.toNatClampNeg - 96 ≤ 26 := by
  obtain ⟨h1, h2, h3⟩ := ltr_n h
  omega
theorem wkN_lt : ∀ k : Nat, (∀ i : Nat, i < k → ltr (f (b + i))) → wkN f b k < 32 ^ k
  | 0, _ => by rw [wkN]; omega
  | k + 1, h => by
    have h1 := wkN_lt k (fun i hi => h i (by omega))
    have h2 := wkN_d (h k (by omega))
    rw [wkN, Nat.pow_succ]
    omega
theorem wk_n : ∀ k : Nat, k ≤ 12 → (∀ i : Nat, i < k → ltr (f (b + i))) → (wkF f b k).toInt = wkN f b k
  | 0, _, _ => rfl
  | k + 1, hk, h => by
    have ih := wk_n k (by omega) (fun i hi => h i (by omega))
    have l := wkN_lt (f := f) (b := b) k (fun i hi => h i (by omega))
    have p : 32 ^ k ≤ 32 ^ 11 := Nat.pow_le_pow_right (by omega) (by omega)
    have p2 : (32 : Nat) ^ 11 = 2 ^ 55 := by decide
    rw [wkF, kst_n ih (by omega) (h k (by omega)), wkN]
    omega
theorem wkN_ij : ∀ k k' : Nat, (∀ i : Nat, i < k → ltr (f (b + i))) → (∀ i : Nat, i < k' → ltr (f' (b' + i))) → wkN f b k = wkN f' b' k' → k = k' ∧ ∀ i : Nat, i < k → f (b + i) = f' (b' + i)
  | 0, 0, _, _, _ => ⟨rfl, fun i hi => absurd hi (by omega)⟩
  | 0, k' + 1, _, h', e => by have d := wkN_d (h' k' (by omega)); rw [wkN, wkN] at e; omega
  | k + 1, 0, h, _, e => by have d := wkN_d (h k (by omega)); rw [wkN, wkN] at e; omega
  | k + 1, k' + 1, h, h', e => by
    have d := wkN_d (h k (by omega))
    have d' := wkN_d (h' k' (by omega))
    rw [wkN, wkN] at e
    obtain ⟨e1, e2⟩ := wkN_ij k k' (fun i hi => h i (by omega)) (fun i hi => h' i (by omega)) (by omega)
    subst e1
    refine ⟨rfl, fun i hi => ?_⟩
    rcases Nat.lt_or_ge i k with q | q
    · exact e2 i q
    · rw [show i = k by omega]
      obtain ⟨a1, a2, a3⟩ := ltr_n (h k (by omega))
      obtain ⟨b1, b2, b3⟩ := ltr_n (h' k (by omega))
      exact Int32.toInt_inj.mp (by omega)
theorem wkF_cg : ∀ k : Nat, (∀ i : Nat, i < k → f (b + i) = f' (b' + i)) → wkF f b k = wkF f' b' k
  | 0, _ => rfl
  | k + 1, h => by rw [wkF, wkF, wkF_cg k (fun i hi => h i (by omega)), h k (by omega)]
end WK
/-- rules a and b have the same name -/
def sameN (fv : Nat → Nat → Int32) (a b : Nat) : Prop := fv 16 a = fv 16 b ∧ ∀ i : Nat, i < (fv 16 a).toNatClampNeg → fv 15 (12 * a + i) = fv 15 (12 * b + i)
/-- the name of rule j is kept as x -/
def NKY (fv : Nat → Nat → Int32) (j : Nat) (x : Int64) : Prop := ∃ L : Nat, L ≤ 12 ∧ fv 16 j = nI L ∧ (∀ i : Nat, i < L → ltr (fv 15 (12 * j + i))) ∧ x = wkF (fv 15) (12 * j) L
theorem nky_eq {fv : Nat → Nat → Int32} {a b : Nat} {x y : Int64} (h : NKY fv a x) (h' : NKY fv b y) : x = y ↔ sameN fv a b := by
  obtain ⟨L, hL, e, l, rfl⟩ := h
  obtain ⟨L', hL', e', l', rfl⟩ := h'
  constructor
  · intro q
    have q2 := congrArg Int64.toInt q
    rw [wk_n L hL l, wk_n L' hL' l'] at q2
    obtain ⟨q3, q4⟩ := wkN_ij L L' l l' (by omega)
    subst q3
    exact ⟨e.trans e'.symm, fun i hi => q4 i (by rw [e, nI_clamp (n := L) (by omega)] at hi; exact hi)⟩
  · rintro ⟨q1, q2⟩
    have q3 : L = L' := nI_ij (by omega) (by omega) (e.symm.trans (q1.trans e'))
    subst q3
    exact wkF_cg L (fun i hi => q2 i (by rw [e, nI_clamp (n := L) (by omega)]; exact hi))
/-- rule k, of n, is in force on a day -/
def inF (fv : Nat → Nat → Int32) (n k : Nat) (d : Int32) : Prop := ¬ d < fv 17 k ∧ (fv 18 k = (-1) ∨ d < fv 18 k) ∧ ∀ j : Nat, j < n → ¬ (sameN fv j k ∧ ¬ d < fv 17 j ∧ (fv 17 k < fv 17 j ∨ (fv 17 j = fv 17 k ∧ k < j)))
/-- the code of rule j -/
def CFR (fv : Nat → Nat → Int32) (j : Nat) (T : List Tk) : Prop := (∃ L : Nat, L ≤ 200 ∧ fv 20 j = nI L ∧ cfr (fv 19) (200 * j) T (200 * j + L)) ∧ wfT T 0 1
theorem CFR.uq {fv : Nat → Nat → Int32} {j : Nat} {T T' : List Tk} (h : CFR fv j T) (h' : CFR fv j T') : T = T' := by
  obtain ⟨⟨L, hL, e, c⟩, -⟩ := h
  obtain ⟨⟨L', hL', e', c'⟩, -⟩ := h'
  have q : L = L' := nI_ij (by omega) (by omega) (e.symm.trans e')
  subst q
  exact c.uq c'
/-- what is told of rule j: its code (n things, as φ), its name (as x), its first day -/
def RUC (fv : Nat → Nat → Int32) (j n : Nat) (φ : Nat → Int32) (x : Int64) : Prop := (∃ T : List Tk, n = T.length ∧ (∀ i : Nat, i < n → φ i = enc (T.getD i (0, 0, 0, 0))) ∧ CFR fv j T) ∧ NKY fv j x ∧ ∃ q : Nat, q ≤ 30000 ∧ fv 17 j = nI q
/-- the rows of rule j are the same -/
def RWJ (fv' fv : Nat → Nat → Int32) (j : Nat) : Prop := fv' 17 j = fv 17 j ∧ fv' 18 j = fv 18 j ∧ fv' 16 j = fv 16 j ∧ fv' 20 j = fv 20 j ∧ (∀ i : Nat, i < 12 → fv' 15 (12 * j + i) = fv 15 (12 * j + i)) ∧ ∀ i : Nat, i < 200 → fv' 19 (200 * j + i) = fv 19 (200 * j + i)
theorem RWJ.of {fv' fv : Nat → Nat → Int32} {j : Nat} (h : RW5 fv' fv) : RWJ fv' fv j := ⟨by rw [h.2.1], by rw [h.2.2.1], by rw [h.2.2.2.2.2.2.1], by rw [h.2.2.2.2.2.2.2.2.1], fun _ _ => by rw [h.2.2.2.2.2.1], fun _ _ => by rw [h.2.2.2.2.2.2.2.1]⟩
theorem CFR.fvx {fv fv' : Nat → Nat → Int32} {j : Nat} {T : List Tk} (h : CFR fv j T) (e20 : fv' 20 j = fv 20 j) (e19 : ∀ i : Nat, i < 200 → fv' 19 (200 * j + i) = fv 19 (200 * j + i)) : CFR fv' j T := by
  obtain ⟨⟨L, hL, e, c⟩, w⟩ := h
  exact ⟨⟨L, hL, e20.trans e, c.ext (fun i h1 h2 => by have := e19 (i - 200 * j) (by omega); rw [show 200 * j + (i - 200 * j) = i by omega] at this; exact this)⟩, w⟩
theorem NKY.fvx {fv fv' : Nat → Nat → Int32} {j : Nat} {x : Int64} (h : NKY fv j x) (e16 : fv' 16 j = fv 16 j) (e15 : ∀ i : Nat, i < 12 → fv' 15 (12 * j + i) = fv 15 (12 * j + i)) : NKY fv' j x := by
  obtain ⟨L, hL, e, l, r⟩ := h
  exact ⟨L, hL, e16.trans e, fun i hi => by rw [e15 i (by omega)]; exact l i hi, r.trans (wkF_cg L (fun i hi => (e15 i (by omega)).symm))⟩
theorem RUC.fvx {fv fv' : Nat → Nat → Int32} {j n : Nat} {φ : Nat → Int32} {x : Int64} (h : RUC fv j n φ x) (e : RWJ fv' fv j) : RUC fv' j n φ x := by
  obtain ⟨⟨T, h1, h2, h3⟩, h4, q, h5, h6⟩ := h
  exact ⟨⟨T, h1, h2, h3.fvx e.2.2.2.1 e.2.2.2.2.2⟩, h4.fvx e.2.2.1 e.2.2.2.2.1, q, h5, e.1.trans h6⟩
/-- says: what can't be told -/
def sayN (fv : Nat → Nat → Int32) (bc rc : Nat) (a1 a2 a3 : Int32) : Prop := (a1 < 0 ∨ nI rc ≤ a1) ∨ rowN bc a2 a3 ∨ mall (fv 9) (rowI a2 a3) 40 = 0
/-- rule k is sure of vessel r -/
def sureP (fv : Nat → Nat → Int32) (n r k : Nat) : Prop := ∃ T : List Tk, CFR fv k T ∧ vT (tsv fv n r) T = 2
def namN (fv : Nat → Nat → Int32) (bc : Nat) (a1 a2 : Int32) : Prop := rowN bc a1 a2 ∨ mall (fv 9) (rowI a1 a2) 40 = 0
/-- the first rule of n that is in force and sure -/
def namV (fv : Nat → Nat → Int32) (lc n r : Nat) (d x : Int32) : Prop := (x = (-1) ∧ ∀ k : Nat, k < n → ¬ (inF fv n k d ∧ sureP fv lc r k)) ∨ ∃ k : Nat, k < n ∧ x = nI k ∧ (inF fv n k d ∧ sureP fv lc r k) ∧ ∀ j : Nat, j < k → ¬ (inF fv n j d ∧ sureP fv lc r j)
theorem namV.uq {fv : Nat → Nat → Int32} {lc n r : Nat} {d x y : Int32} (h : namV fv lc n r d x) (h' : namV fv lc n r d y) : x = y := by
  rcases h with ⟨h, a⟩ | ⟨k, hk, h, a, b⟩ <;> rcases h' with ⟨h', a'⟩ | ⟨k', hk', h', a', b'⟩
  · exact h.trans h'.symm
  · exact absurd a' (a k' hk')
  · exact absurd a (a' k hk)
  · rcases Nat.lt_trichotomy k k' with q | q | q
    · exact absurd a (b' k q)
    · rw [h, h', q]
    · exact absurd a' (b k' q)
theorem inF_34 (fv : Nat → Nat → Int32) (g : Nat → Int32) (n k : Nat) (d : Int32) : inF (uF fv 34 g) n k d = inF fv n k d := rfl
theorem sure_no {fv : Nat → Nat → Int32} {n r k x : Nat} {T : List Tk} (h : CFR fv k T) (e : x = vT (tsv fv n r) T) (hx : ¬ x = 2) : ¬ sureP fv n r k := fun ⟨T', h', e'⟩ => by
  have q := h.uq h'
  subst q
  omega
section FOR
variable {P Q : Prop} {x y : Int32} {i t : Nat}
theorem fo_lt (c : x < y) : ¬ (P ∧ Q ∧ (y < x ∨ (x = y ∧ t < i))) := by
  rintro ⟨-, -, h | ⟨h, -⟩⟩
  · rw [i_lt] at c h; omega
  · rw [h, i_lt] at c; omega
theorem fo_eq (c : x = y) (d : ¬ t < i) : ¬ (P ∧ Q ∧ (y < x ∨ (x = y ∧ t < i))) := by
  rintro ⟨-, -, h | ⟨-, h⟩⟩
  · rw [c, i_lt] at h; omega
  · exact d h
theorem fo_gt (c : ¬ x < y) (d : ¬ x = y) : y < x := by
  rw [i_lt] at c ⊢
  have : ¬ x.toInt = y.toInt := fun q => d (Int32.toInt_inj.mp q)
  omega
end FOR
