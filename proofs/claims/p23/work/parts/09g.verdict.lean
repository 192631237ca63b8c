/-! what the rules say: the code as a list, and how it is worked out -/
/-- the class' code of one thing -/
def enc (t : Tk) : Int32 := if t.1 = 3 then -1 else if t.1 = 2 then -2 else if t.1 = 1 then -3 else nI ((t.2.1 * 2 + (if t.2.2.1 = 10 then 1 else 0)) * 1024 + t.2.2.2)
def okK (t : Tk) : Prop := (t.1 = 13 ∧ (t.2.1 = 0 ∨ t.2.1 = 1 ∨ t.2.1 = 2 ∨ (10 ≤ t.2.1 ∧ t.2.1 < 15) ∨ (30 ≤ t.2.1 ∧ t.2.1 < 34)) ∧ (t.2.2.1 = 9 ∨ t.2.2.1 = 10) ∧ t.2.2.2 ≤ 1000) ∨ ((t.1 = 1 ∨ t.1 = 2 ∨ t.1 = 3) ∧ t.2 = (0, 0, 0))
/-- the reference's code from a to e is T -/
def cfr (f : Nat → Int32) : Nat → List Tk → Nat → Prop
  | a, [], e => a = e
  | a, t :: T, e => okK t ∧ ((t.1 = 13 ∧ f a = 13 ∧ f (a + 1) = nI t.2.1 ∧ f (a + 2) = nI t.2.2.1 ∧ f (a + 3) = nI t.2.2.2 ∧ cfr f (a + 4) T e) ∨ (¬ t.1 = 13 ∧ f a = nI t.1 ∧ cfr f (a + 1) T e))
theorem nI_ij {a b : Nat} (ha : a < 2 ^ 31) (hb : b < 2 ^ 31) (h : nI a = nI b) : a = b := (nI_eq ha hb).mp h
section CFR
variable {f g : Nat → Int32}
theorem cfr.le : ∀ {T : List Tk} {a e : Nat}, cfr f a T e → a + T.length ≤ e
  | [], a, e, h => by have h : a = e := h; rw [List.length_nil]; omega
  | t :: T, a, e, ⟨_, h⟩ => by
    rw [List.length_cons]
    rcases h with ⟨_, _, _, _, _, h⟩ | ⟨_, _, h⟩
    · have := cfr.le h; omega
    · have := cfr.le h; omega
theorem cfr.ext : ∀ {T : List Tk} {a e : Nat}, cfr f a T e → (∀ i : Nat, a ≤ i → i < e → g i = f i) → cfr g a T e
  | [], _, _, h, _ => h
  | t :: T, a, e, ⟨o, h⟩, hg => by
    refine ⟨o, ?_⟩
    rcases h with ⟨h1, h2, h3, h4, h5, h⟩ | ⟨h1, h2, h⟩
    · have := h.le
      exact Or.inl ⟨h1, (hg a (by omega) (by omega)).trans h2, (hg (a + 1) (by omega) (by omega)).trans h3, (hg (a + 2) (by omega) (by omega)).trans h4, (hg (a + 3) (by omega) (by omega)).trans h5, cfr.ext h (fun i x y => hg i (by omega) y)⟩
    · have := h.le
      exact Or.inr ⟨h1, (hg a (by omega) (by omega)).trans h2, cfr.ext h (fun i x y => hg i (by omega) y)⟩
theorem cfr.app : ∀ {T : List Tk} {a e e2 : Nat} {T2 : List Tk}, cfr f a T e → cfr f e T2 e2 → cfr f a (T ++ T2) e2
  | [], a, e, e2, T2, h, h2 => by have h : a = e := h; rw [h]; exact h2
  | t :: T, a, e, e2, T2, ⟨o, h⟩, h2 => by
    refine ⟨o, ?_⟩
    rcases h with ⟨h1, q2, q3, q4, q5, h⟩ | ⟨h1, q2, h⟩
    · exact Or.inl ⟨h1, q2, q3, q4, q5, cfr.app h h2⟩
    · exact Or.inr ⟨h1, q2, cfr.app h h2⟩
theorem cfr.te {T : List Tk} {a e w m v : Nat} (h : cfr f a T e) (o : okK (13, w, m, v)) (hg : ∀ i : Nat, i < e → g i = f i) (e0 : g e = 13) (e1 : g (e + 1) = nI w) (e2 : g (e + 2) = nI m) (e3 : g (e + 3) = nI v) : cfr g a (T ++ [(13, w, m, v)]) (e + 4) :=
  (h.ext (fun i _ y => hg i y)).app ⟨o, Or.inl ⟨rfl, e0, e1, e2, e3, rfl⟩⟩
theorem cfr.op {T : List Tk} {a e x : Nat} {z : Int32} (h : cfr f a T e) (hx : x = 1 ∨ x = 2 ∨ x = 3) (hg : g = upd f e z) (hz : z = nI x) : cfr g a (T ++ [(x, 0, 0, 0)]) (e + 1) :=
  (h.ext (g := g) (fun i _ y => by rw [hg]; exact upd_n (by omega))).app ⟨Or.inr ⟨hx, rfl⟩, Or.inr ⟨show ¬ x = 13 by omega, (by rw [hg, hz]; exact upd_s _ _ _), rfl⟩⟩
theorem okK.lt {t : Tk} (h : okK t) : t.1 < 20 ∧ t.2.1 < 40 ∧ t.2.2.1 < 20 ∧ t.2.2.2 < 2000 := by
  rcases h with h | ⟨h, e⟩
  · omega
  · rw [e]; exact ⟨by omega, by decide, by decide, by decide⟩
theorem cfr.uq : ∀ {T T' : List Tk} {a e : Nat}, cfr f a T e → cfr f a T' e → T = T'
  | [], [], _, _, _, _ => rfl
  | [], t :: T, a, e, h, h' => by have h : a = e := h; have := cfr.le h'; rw [List.length_cons] at this; omega
  | t :: T, [], a, e, h, h' => by have h' : a = e := h'; have := cfr.le h; rw [List.length_cons] at this; omega
  | t :: T, t' :: T', a, e, ⟨o, h⟩, ⟨o', h'⟩ => by
    have b := o.lt
    have b' := o'.lt
    rcases h with ⟨h1, h2, h3, h4, h5, h⟩ | ⟨h1, h2, h⟩ <;> rcases h' with ⟨h1', h2', h3', h4', h5', h'⟩ | ⟨h1', h2', h'⟩
    · have e1 : t.2.1 = t'.2.1 := nI_ij (by omega) (by omega) (h3.symm.trans h3')
      have e2 : t.2.2.1 = t'.2.2.1 := nI_ij (by omega) (by omega) (h4.symm.trans h4')
      have e3 : t.2.2.2 = t'.2.2.2 := nI_ij (by omega) (by omega) (h5.symm.trans h5')
      have et : t = t' := Prod.ext (h1.trans h1'.symm) (Prod.ext e1 (Prod.ext e2 e3))
      rw [et, cfr.uq h h']
    · exact absurd (nI_ij (a := 13) (by omega) (by omega) (h2.symm.trans h2')) (fun q => h1' q.symm)
    · exact absurd (nI_ij (b := 13) (by omega) (by omega) (h2.symm.trans h2')) h1
    · have e0 : t.1 = t'.1 := nI_ij (by omega) (by omega) (h2.symm.trans h2')
      have r : t.2 = (0, 0, 0) := by rcases o with o | o; exact absurd o.1 h1; exact o.2
      have r' : t'.2 = (0, 0, 0) := by rcases o' with o | o; exact absurd o.1 h1'; exact o.2
      have et : t = t' := Prod.ext e0 (r.trans r'.symm)
      rw [et, cfr.uq h h']
end CFR
/-- T can be worked out with n things held, leaves m, and never holds more than 16 -/
def wfT : List Tk → Nat → Nat → Prop
  | [], n, m => n = m
  | t :: T, n, m => okK t ∧ ((t.1 = 13 ∧ n < 16 ∧ wfT T (n + 1) m) ∨ (t.1 = 3 ∧ 1 ≤ n ∧ wfT T n m) ∨ ((t.1 = 1 ∨ t.1 = 2) ∧ 2 ≤ n ∧ wfT T (n - 1) m))
theorem wfT.app : ∀ {T T2 : List Tk} {n k m : Nat}, wfT T n k → wfT T2 k m → wfT (T ++ T2) n m
  | [], T2, n, k, m, h, h2 => by have h : n = k := h; rw [h]; exact h2
  | t :: T, T2, n, k, m, ⟨o, h⟩, h2 => ⟨o, h.imp (fun q => ⟨q.1, q.2.1, wfT.app q.2.2 h2⟩) (fun q => q.imp (fun q => ⟨q.1, q.2.1, wfT.app q.2.2 h2⟩) (fun q => ⟨q.1, q.2.1, wfT.app q.2.2 h2⟩))⟩
def no1 : List Nat → List Nat
  | [] => []
  | x :: S => (2 - x) :: S
def jn2 (k : Nat) : List Nat → List Nat
  | y :: x :: S => (if k = 2 then min x y else max x y) :: S
  | S => S
/-- T worked out: g tells the tests, S what is held, its top first -/
def evS (g : Tk → Nat) : List Tk → List Nat → List Nat
  | [], S => S
  | t :: T, S => evS g T (if t.1 = 13 then g t :: S else if t.1 = 3 then no1 S else jn2 t.1 S)
def vT (g : Tk → Nat) (T : List Tk) : Nat := (evS g T []).headD 0
/-- what is held, as a row tells it by c -/
def stk (c : Nat → Int32) (f : Nat → Int32) : List Nat → Prop
  | [] => True
  | x :: s => x ≤ 2 ∧ f s.length = c x ∧ stk c f s
section STK
variable {c : Nat → Int32} {f g : Nat → Int32} {S : List Nat}
theorem stk.ext : ∀ {S : List Nat}, stk c f S → (∀ i : Nat, i < S.length → g i = f i) → stk c g S
  | [], _, _ => trivial
  | x :: s, h, hg => ⟨h.1, (hg s.length (by rw [List.length_cons]; omega)).trans h.2.1, stk.ext h.2.2 (fun i hi => hg i (by rw [List.length_cons]; omega))⟩
theorem stk.push {x n : Nat} {z : Int32} (h : stk c f S) (hx : x ≤ 2) (hn : n = S.length) (hz : z = c x) : stk c (upd f n z) (x :: S) := ⟨hx, by rw [hn]; exact (upd_s _ _ _).trans hz, h.ext (fun i hi => upd_n (by omega))⟩
theorem stk.pop {n : Nat} (h : stk c f S) (hn : n = S.length) (h1 : 1 ≤ n) : ∃ (x : Nat) (s : List Nat), S = x :: s ∧ n = s.length + 1 ∧ x ≤ 2 ∧ f (n - 1) = c x ∧ stk c f s := by
  cases S with
  | nil => rw [List.length_nil] at hn; omega
  | cons x s => rw [List.length_cons] at hn; exact ⟨x, s, rfl, hn, h.1, by rw [show n - 1 = s.length by omega]; exact h.2.1, h.2.2⟩
theorem stk.pop2 {n : Nat} (h : stk c f S) (hn : n = S.length) (h1 : 2 ≤ n) : ∃ (y x : Nat) (s : List Nat), S = y :: x :: s ∧ n = s.length + 2 ∧ y ≤ 2 ∧ x ≤ 2 ∧ f (n - 1) = c y ∧ f (n - 2) = c x ∧ stk c f s := by
  obtain ⟨y, s, e, l, hy, e1, h'⟩ := h.pop hn (by omega)
  obtain ⟨x, s', e', l', hx, e2, h2⟩ := h'.pop (n := n - 1) (by omega) (by omega)
  exact ⟨y, x, s', by rw [e, e'], by omega, hy, hx, e1, by rw [show n - 2 = n - 1 - 1 by omega]; exact e2, h2⟩
end STK
/-- the reference's picture of sure (2), possible alone (1), neither (0) -/
def ph (x : Nat) : Int32 := if x = 2 then 3 else nI x
theorem lt3 {x : Nat} (h : x ≤ 2) : x = 0 ∨ x = 1 ∨ x = 2 := by omega
theorem ph_and {x y : Nat} (hx : x ≤ 2) (hy : y ≤ 2) : ph x &&& ph y = ph (min x y) := by
  rcases lt3 hx with rfl | rfl | rfl <;> rcases lt3 hy with rfl | rfl | rfl <;> decide
theorem ph_or {x y : Nat} (hx : x ≤ 2) (hy : y ≤ 2) : ph x ||| ph y = ph (max x y) := by
  rcases lt3 hx with rfl | rfl | rfl <;> rcases lt3 hy with rfl | rfl | rfl <;> decide
/-! the measures behind a test -/
def wRow (fv : Nat → Nat → Int32) (r : Nat) : Nat → Int32 := fun i => fv 9 (40 * r + i)
def wLo (fv : Nat → Nat → Int32) (n r w : Nat) : Int64 := if w = 2 then (fv 10 r).toInt64 * (mall (fv 9) r 40).toInt64 else wG (wRow fv r) (pgN fv w) n
def wHi (fv : Nat → Nat → Int32) (n r w : Nat) : Int64 := if 10 ≤ w ∧ w < 15 then wG (wRow fv r) (pgN fv (w + 10)) n else wLo fv n r w
def wBd (fv : Nat → Nat → Int32) (r v : Nat) : Int64 := (nI v).toInt64 * (mall (fv 9) r 40).toInt64
/-- what a test says of vessel r: 2 sure, 1 possible alone, 0 neither -/
def tsv (fv : Nat → Nat → Int32) (n r : Nat) (t : Tk) : Nat := if t.2.2.1 = 10 then (if wBd fv r t.2.2.2 < wHi fv n r t.2.1 then (if wBd fv r t.2.2.2 < wLo fv n r t.2.1 then 0 else 1) else 2) else (if wLo fv n r t.2.1 < wBd fv r t.2.2.2 then (if wHi fv n r t.2.1 < wBd fv r t.2.2.2 then 0 else 1) else 2)
theorem tsv_le {fv : Nat → Nat → Int32} {n r : Nat} {t : Tk} : tsv fv n r t ≤ 2 := by
  unfold tsv
  split <;> split <;> first | omega | (split <;> omega)
/-- the rows of pollen: least and most -/
def PV (fv : Nat → Nat → Int32) (n : Nat) : Prop := ∀ i : Nat, i < 5 * n → ∃ a b : Nat, a ≤ b ∧ b ≤ 1000 ∧ fv 5 i = nI a ∧ fv 6 i = nI b
def sP (G P : Nat → Nat) : Nat → Nat
  | 0 => 0
  | k + 1 => sP G P k + G k * P k
theorem sP_b {G P : Nat → Nat} : ∀ k : Nat, (∀ i : Nat, i < k → P i ≤ 1000) → sP G P k ≤ 1000 * sN G k
  | 0, _ => by rw [sP, sN]; omega
  | k + 1, h => by
    have h1 := sP_b (G := G) k (fun i hi => h i (by omega))
    have h2 : G k * P k ≤ G k * 1000 := Nat.mul_le_mul_left _ (h k (by omega))
    rw [sP, sN]
    omega
theorem sP_m {G P Q : Nat → Nat} : ∀ k : Nat, (∀ i : Nat, i < k → P i ≤ Q i) → sP G P k ≤ sP G Q k
  | 0, _ => Nat.le_refl _
  | k + 1, h => by
    have h1 := sP_m (G := G) k (fun i hi => h i (by omega))
    have h2 : G k * P k ≤ G k * Q k := Nat.mul_le_mul_left _ (h k (by omega))
    rw [sP, sP]
    omega
theorem sN_mo {G : Nat → Nat} : ∀ {k n : Nat}, k ≤ n → sN G k ≤ sN G n
  | k, 0, h => by rw [show k = 0 by omega]; exact Nat.le_refl _
  | k, n + 1, h => by
    rcases Nat.lt_or_ge n k with q | q
    · rw [show k = n + 1 by omega]; exact Nat.le_refl _
    · have := sN_mo (G := G) q
      rw [sN.eq_2]; omega
theorem wG_n {g p : Nat → Int32} {G P : Nat → Nat} {n : Nat} (hs : sN G n ≤ 1000000) : ∀ k : Nat, k ≤ n → (∀ i : Nat, i < k → g i = nI (G i)) → (∀ i : Nat, i < k → p i = nI (P i)) → (∀ i : Nat, i < k → P i ≤ 1000) → (wG g p k).toInt = sP G P k
  | 0, _, _, _, _ => rfl
  | k + 1, hk, h1, h2, h3 => by
    have ih := wG_n (g := g) (p := p) hs k (by omega) (fun i hi => h1 i (by omega)) (fun i hi => h2 i (by omega)) (fun i hi => h3 i (by omega))
    have b := sP_b (G := G) (P := P) (k + 1) h3
    have m := sN_mo (G := G) hk
    have gk : G k ≤ 1000000 := Nat.le_trans (sN_le (n := k + 1) (by omega)) (Nat.le_trans m hs)
    have pk := h3 k (by omega)
    have gp : G k * P k ≤ 1000000 * 1000 := Nat.mul_le_mul gk pk
    rw [sP] at b
    rw [wG, sP, Int64.toInt_add, Int64.toInt_mul, ih, h1 k (by omega), h2 k (by omega), l64_of (by omega), l64_of (by omega), bm64 (z := (G k : Int) * (P k : Int)) (by have : ((G k * P k : Nat) : Int) = (G k : Int) * (P k : Int) := Int.natCast_mul ..; omega) (by have : ((G k * P k : Nat) : Int) = (G k : Int) * (P k : Int) := Int.natCast_mul ..; omega)]
    have e : ((G k * P k : Nat) : Int) = (G k : Int) * (P k : Int) := Int.natCast_mul ..
    rw [← e, bm64 (by omega) (by omega)]
    omega
/-- the least of a kind of pollen is not above its most -/
theorem pol_le {fv : Nat → Nat → Int32} {n r w : Nat} (V : NV fv n) (Q : PV fv n) (hn : n ≤ 40) (hr : r < 70) (h1 : 10 ≤ w) (h2 : w < 15) : ¬ wHi fv n r w < wLo fv n r w := by
  obtain ⟨G, hG, hS, -⟩ := V.1 r hr
  have ex : ∀ i : Nat, ∃ a b : Nat, i < n → (a ≤ b ∧ b ≤ 1000 ∧ fv 5 (5 * i + (w - 10)) = nI a ∧ fv 6 (5 * i + (w - 10)) = nI b) := fun i => by
    rcases Nat.lt_or_ge i n with q | q
    · obtain ⟨a, b, x⟩ := Q (5 * i + (w - 10)) (by omega)
      exact ⟨a, b, fun _ => x⟩
    · exact ⟨0, 0, fun z => absurd z (by omega)⟩
  obtain ⟨A, hA⟩ := Classical.axiomOfChoice ex
  obtain ⟨B, hB⟩ := Classical.axiomOfChoice hA
  have hs : sN G n ≤ 1000000 := Nat.le_trans (sN_mo hn) hS
  have l1 := wG_n (g := wRow fv r) (p := pgN fv w) (G := G) (P := A) hs n (Nat.le_refl _) (fun i hi => hG i (by omega)) (fun i hi => by rw [pgN, if_neg (by omega), if_neg (by omega), if_pos (by omega)]; exact (hB i hi).2.2.1) (fun i hi => Nat.le_trans (hB i hi).1 (hB i hi).2.1)
  have l2 := wG_n (g := wRow fv r) (p := pgN fv (w + 10)) (G := G) (P := B) hs n (Nat.le_refl _) (fun i hi => hG i (by omega)) (fun i hi => by rw [pgN, if_neg (by omega), if_neg (by omega), if_neg (by omega), if_pos (by omega), show w + 10 - 20 = w - 10 by omega]; exact (hB i hi).2.2.2) (fun i hi => (hB i hi).2.1)
  have l3 := sP_m (G := G) (P := A) (Q := B) n (fun i hi => (hB i hi).1)
  rw [wHi, wLo, if_pos ⟨h1, h2⟩, if_neg (by omega), Int64.lt_iff_toInt_lt, l1, l2]
  omega
/-- heat: weighed or not, it is compared alike -/
theorem ht_lt {h t : Int32} {v : Nat} (ht : 0 < t) (hv : v ≤ 1000) : (h.toInt64 * t.toInt64 < (nI v).toInt64 * t.toInt64 ↔ h < nI v) ∧ ((nI v).toInt64 * t.toInt64 < h.toInt64 * t.toInt64 ↔ nI v < h) := by
  have t0 : (0 : Int) < t.toInt := by have := (i_lt (a := 0) (b := t)).mp ht; exact this
  have t1 := t.toInt_lt
  have h0 := h.le_toInt
  have h1 := h.toInt_lt
  have e1 : (nI v).toInt = v := nI_toInt (by omega)
  have m : ∀ x : Int, -(2 ^ 31) ≤ x → x < 2 ^ 31 → -(2 ^ 31) * 2 ^ 31 ≤ x * t.toInt ∧ x * t.toInt ≤ 2 ^ 31 * 2 ^ 31 := fun x a b => by
    constructor
    · have p1 : -(2 ^ 31) * t.toInt ≤ x * t.toInt := Int.mul_le_mul_of_nonneg_right a (by omega)
      omega
    · have p1 : x * t.toInt ≤ 2 ^ 31 * t.toInt := Int.mul_le_mul_of_nonneg_right (by omega) (by omega)
      omega
  have mh := m h.toInt h0 h1
  have mv := m v (by omega) (by omega)
  have eh : (h.toInt64 * t.toInt64).toInt = h.toInt * t.toInt := by rw [Int64.toInt_mul, Int32.toInt_toInt64, Int32.toInt_toInt64, bm64 (by omega) (by omega)]
  have ev : ((nI v).toInt64 * t.toInt64).toInt = v * t.toInt := by rw [Int64.toInt_mul, Int32.toInt_toInt64, Int32.toInt_toInt64, e1, bm64 (by omega) (by omega)]
  rw [Int64.lt_iff_toInt_lt, Int64.lt_iff_toInt_lt, eh, ev, i_lt, i_lt, e1]
  exact ⟨Int.mul_lt_mul_right t0, Int.mul_lt_mul_right t0⟩
/-! the code that the machine leaves can be worked out -/
def jnC : List Nat → Nat
  | [] => 0
  | x :: s => (if x = 1 ∨ x = 2 then 1 else 0) + jnC s
def hd0 : List Nat → Nat
  | [] => 0
  | x :: _ => x
/-- the pile's shape: an or stands on a bracket or on nothing, an and on an or too -/
def wsh : List Nat → Prop
  | [] => True
  | x :: s => wsh s ∧ (x = 3 ∨ x = 12 ∨ (x = 1 ∧ (hd0 s = 0 ∨ hd0 s = 12)) ∨ (x = 2 ∧ (hd0 s = 0 ∨ hd0 s = 12 ∨ hd0 s = 1)))
def tpk (s : List Nat) : Nat := if hd0 s = 1 then 1 else if hd0 s = 2 then 2 else 0
theorem jn_dep : ∀ {s : List Nat}, wsh s → jnC s ≤ 2 * dep s + tpk s
  | [], _ => Nat.zero_le _
  | x :: s, ⟨h, hx⟩ => by
    have ih := jn_dep h
    have t : tpk s ≤ 2 := by unfold tpk; split <;> first | omega | (split <;> omega)
    have e : tpk (x :: s) = if x = 1 then 1 else if x = 2 then 2 else 0 := rfl
    rw [jnC, dep, e]
    rcases hx with rfl | rfl | ⟨rfl, hx⟩ | ⟨rfl, hx⟩
    · rw [if_neg (by omega), if_pos (by omega), if_neg (by omega), if_neg (by omega)]; omega
    · rw [if_neg (by omega), if_pos (by omega), if_neg (by omega), if_neg (by omega)]; omega
    · have : tpk s = 0 := by unfold tpk; rw [if_neg (by omega), if_neg (by omega)]
      rw [if_pos (by omega), if_neg (by omega), if_pos rfl]; omega
    · have : tpk s ≤ 1 := by unfold tpk; split <;> first | omega | (rw [if_neg (by omega)]; omega)
      rw [if_pos (by omega), if_neg (by omega), if_neg (by omega), if_pos rfl]; omega
theorem jn_n {x : Nat} (s : List Nat) (h : ¬ (x = 1 ∨ x = 2)) : jnC (x :: s) = jnC s := by rw [jnC, if_neg h, Nat.zero_add]
theorem jn_y {x : Nat} (s : List Nat) (h : x = 1 ∨ x = 2) : jnC (x :: s) = jnC s + 1 := by rw [jnC, if_pos h, Nat.add_comm]
theorem wsh_x : ∀ {s : List Nat}, wsh s → ∀ x ∈ s, x = 1 ∨ x = 2 ∨ x = 3 ∨ x = 12
  | [], _, x, hx => by cases hx
  | y :: s, ⟨h, hy⟩, x, hx => by
    rcases List.mem_cons.mp hx with e | e
    · omega
    · exact wsh_x h x e
/-- nots: popped -/
theorem pN_w : ∀ {s : List Nat} (T : List Tk) (k : Nat), wsh s → 1 ≤ k → wfT T 0 k → wsh (pN s) ∧ ¬ hd0 (pN s) = 3 ∧ jnC (pN s) = jnC s ∧ dep (pN s) ≤ dep s ∧ wfT (T ++ eN s) 0 k
  | [], T, k, _, _, h => ⟨trivial, by decide, rfl, Nat.le_refl _, by rw [eN, List.append_nil]; exact h⟩
  | x :: s, T, k, hw, hk, h => by
    by_cases c : x = 3
    · subst c
      rw [pN_3, eN_3, jn_n s (by omega), dep_y s (Or.inl rfl)]
      have h2 : wfT (T ++ [(3, 0, 0, 0)]) 0 k := h.app ⟨Or.inr ⟨by omega, rfl⟩, Or.inr (Or.inl ⟨rfl, hk, rfl⟩)⟩
      obtain ⟨a1, a2, a3, a4, a5⟩ := pN_w (s := s) (T ++ [(3, 0, 0, 0)]) k hw.1 hk h2
      exact ⟨a1, a2, a3, by omega, by rw [List.append_assoc] at a5; exact a5⟩
    · rw [pN_n s c, eN_n s c]
      exact ⟨hw, c, rfl, Nat.le_refl _, by rw [List.append_nil]; exact h⟩
/-- joins: worked out -/
theorem jO_w : ∀ {s : List Nat} (T : List Tk), wsh s → wfT T 0 (jnC s + 1) → wsh (jO s) ∧ ¬ (hd0 (jO s) = 1 ∨ hd0 (jO s) = 2) ∧ dep (jO s) = dep s ∧ wfT (T ++ eO s) 0 (jnC (jO s) + 1)
  | [], T, _, h => ⟨trivial, by decide, rfl, by rw [eO, List.append_nil]; exact h⟩
  | x :: s, T, hw, h => by
    by_cases c : x = 2 ∨ x = 1
    · rw [jO_y s c, eO_y s c, dep_n s (by omega)]
      rw [jn_y s (by omega)] at h
      have h2 : wfT (T ++ [(x, 0, 0, 0)]) 0 (jnC s + 1) := h.app ⟨Or.inr ⟨by omega, rfl⟩, Or.inr (Or.inr ⟨show x = 1 ∨ x = 2 by omega, by omega, rfl⟩)⟩
      obtain ⟨a1, a2, a3, a4⟩ := jO_w (s := s) (T ++ [(x, 0, 0, 0)]) hw.1 h2
      exact ⟨a1, a2, a3, by rw [List.append_assoc] at a4; exact a4⟩
    · rw [jO_n s c, eO_n s c]
      exact ⟨hw, fun q => c (by have q : x = 1 ∨ x = 2 := q; omega), rfl, by rw [List.append_nil]; exact h⟩
theorem jA_w : ∀ {s : List Nat} (T : List Tk), wsh s → wfT T 0 (jnC s + 1) → wsh (jA s) ∧ ¬ hd0 (jA s) = 2 ∧ dep (jA s) = dep s ∧ wfT (T ++ eA s) 0 (jnC (jA s) + 1)
  | [], T, _, h => ⟨trivial, by decide, rfl, by rw [eA, List.append_nil]; exact h⟩
  | x :: s, T, hw, h => by
    by_cases c : x = 2
    · subst c
      rw [jA_2, eA_2, dep_n s (by omega)]
      rw [jn_y s (by omega)] at h
      have h2 : wfT (T ++ [(2, 0, 0, 0)]) 0 (jnC s + 1) := h.app ⟨Or.inr ⟨by omega, rfl⟩, Or.inr (Or.inr ⟨Or.inr rfl, by omega, rfl⟩)⟩
      obtain ⟨a1, a2, a3, a4⟩ := jA_w (s := s) (T ++ [(2, 0, 0, 0)]) hw.1 h2
      exact ⟨a1, a2, a3, by rw [List.append_assoc] at a4; exact a4⟩
    · rw [jA_n s c, eA_n s c]
      exact ⟨hw, c, rfl, by rw [List.append_nil]; exact h⟩
/-- no not stands below a join: what the joins leave begins as it did, or with a bracket -/
theorem jO_3 : ∀ {s : List Nat}, wsh s → ¬ hd0 s = 3 → hd0 (jO s) = 0 ∨ hd0 (jO s) = 12
  | [], _, _ => Or.inl rfl
  | x :: s, ⟨h, hx⟩, h3 => by
    have h3 : ¬ x = 3 := h3
    by_cases c : x = 2 ∨ x = 1
    · rw [jO_y s c]
      refine jO_3 h ?_
      omega
    · rw [jO_n s c]
      exact Or.inr (show x = 12 by omega)
theorem jA_3 : ∀ {s : List Nat}, wsh s → ¬ hd0 s = 3 → hd0 (jA s) = 0 ∨ hd0 (jA s) = 12 ∨ hd0 (jA s) = 1
  | [], _, _ => Or.inl rfl
  | x :: s, ⟨h, hx⟩, h3 => by
    have h3 : ¬ x = 3 := h3
    by_cases c : x = 2
    · subst c
      rw [jA_2]
      refine jA_3 h ?_
      omega
    · rw [jA_n s c]
      have : x = 12 ∨ x = 1 := by omega
      exact Or.inr this
theorem hd_0 : ∀ {s : List Nat}, wsh s → hd0 s = 0 → s = []
  | [], _, _ => rfl
  | x :: s, ⟨h, hx⟩, e => by have e : x = 0 := e; omega
/-- both sides' tests are tests -/
theorem num_le {f : Nat → Int32} {n mo b p v : Nat} (h : numR f n mo b 0 p v) : v ≤ mo := by rcases h with h | h | h | h <;> omega
theorem tst_ok {f : Nat → Int32} {n b p w m v : Nat} (h : tstR f n b 0 p w m v) : okK (13, w, m, v) := by
  rcases h with ⟨w', -, h⟩ | ⟨c, h1, h2 | ⟨h2, hm, h3⟩⟩
  · exact absurd rfl h
  · omega
  · have hv := num_le h3
    refine Or.inl ⟨rfl, ?_, (show m = 9 ∨ m = 10 by omega), hv⟩
    show w = 0 ∨ w = 1 ∨ w = 2 ∨ (10 ≤ w ∧ w < 15) ∨ (30 ≤ w ∧ w < 34)
    rcases h1 with h1 | h1 | ⟨_, v', h1, e⟩ | ⟨_, v', h1, e⟩
    · omega
    · omega
    · have := num_le h1; omega
    · have := num_le h1; omega
def Inv4 (s : S4) : Prop := (s.1 = 0 ∧ wsh s.2.2.1 ∧ dep s.2.2.1 ≤ 6 ∧ wfT s.2.2.2 0 (jnC s.2.2.1)) ∨ (s.1 = 1 ∧ wsh s.2.2.1 ∧ ¬ hd0 s.2.2.1 = 3 ∧ dep s.2.2.1 ≤ 6 ∧ wfT s.2.2.2 0 (jnC s.2.2.1 + 1)) ∨ (2 ≤ s.1 ∧ (s.1 = 2 → wfT s.2.2.2 0 1))
theorem st_inv {f : Nat → Int32} {n md b : Nat} {σ : List Nat} {T : List Tk} {t : S4} (h : stR f n md b σ T t) (I : Inv4 (md, b, σ, T)) : Inv4 t := by
  have I0 : md = 0 → wsh σ ∧ dep σ ≤ 6 ∧ wfT T 0 (jnC σ) := fun q => by rcases I with I | I | I; exact I.2; exact absurd I.1 (by show ¬ md = 1; omega); exact absurd I.1 (by show ¬ 2 ≤ md; omega)
  have I1 : md = 1 → wsh σ ∧ ¬ hd0 σ = 3 ∧ dep σ ≤ 6 ∧ wfT T 0 (jnC σ + 1) := fun q => by rcases I with I | I | I; exact absurd I.1 (by show ¬ md = 0; omega); exact I.2; exact absurd I.1 (by show ¬ 2 ≤ md; omega)
  rcases h with ⟨m0, c, d, e⟩ | ⟨m0, c, d, e⟩ | ⟨m0, c, d, e⟩ | ⟨m0, c, k, p, w, m, v, ht, e⟩ | ⟨m0, c, e⟩ | ⟨m0, c, e⟩ | ⟨m0, c, d, e⟩ | ⟨m0, c, d, g, e⟩ | ⟨m0, c, d, e⟩
  · rw [e]; exact Or.inr (Or.inr ⟨show 2 ≤ 13 by decide, fun q => absurd q (show ¬ 13 = 2 by decide)⟩)
  · obtain ⟨a, b2, c2⟩ := I0 m0
    rw [e]; exact Or.inl ⟨rfl, ⟨a, Or.inr (Or.inl rfl)⟩, (by show dep (12 :: σ) ≤ 6; rw [dep_y _ (Or.inr rfl)]; omega), (by show wfT T 0 (jnC (12 :: σ)); rw [jn_n _ (by omega)]; exact c2)⟩
  · obtain ⟨a, b2, c2⟩ := I0 m0
    rw [e]; exact Or.inl ⟨rfl, ⟨a, Or.inl rfl⟩, (by show dep (3 :: σ) ≤ 6; rw [dep_y _ (Or.inl rfl)]; omega), (by show wfT T 0 (jnC (3 :: σ)); rw [jn_n _ (by omega)]; exact c2)⟩
  · obtain ⟨a, b2, c2⟩ := I0 m0
    rcases e with ⟨hk, e⟩ | ⟨hk, e⟩
    · rw [e]; exact Or.inr (Or.inr ⟨by show 2 ≤ 10 + k; omega, fun q => absurd q (by show ¬ 10 + k = 2; omega)⟩)
    · subst hk
      have j := jn_dep a
      have tp : tpk σ ≤ 2 := by unfold tpk; split <;> first | omega | (split <;> omega)
      have h2 : wfT (T ++ [(13, w, m, v)]) 0 (jnC σ + 1) := c2.app ⟨tst_ok ht, Or.inl ⟨rfl, by omega, rfl⟩⟩
      obtain ⟨a1, a2, a3, a4, a5⟩ := pN_w (s := σ) _ _ a (by omega) h2
      rw [e]; exact Or.inr (Or.inl ⟨rfl, a1, a2, Nat.le_trans a4 b2, by show wfT ((T ++ [(13, w, m, v)]) ++ eN σ) 0 (jnC (pN σ) + 1); rw [a3]; exact a5⟩)
  · obtain ⟨a, b1, b2, c2⟩ := I1 m0
    obtain ⟨a1, a2, a3, a4⟩ := jA_w T a c2
    rw [e]; exact Or.inl ⟨rfl, ⟨a1, Or.inr (Or.inr (Or.inr ⟨rfl, jA_3 a b1⟩))⟩, (by show dep (2 :: jA σ) ≤ 6; rw [dep_n _ (by omega), a3]; exact b2), (by show wfT (T ++ eA σ) 0 (jnC (2 :: jA σ)); rw [jn_y _ (by omega)]; exact a4)⟩
  · obtain ⟨a, b1, b2, c2⟩ := I1 m0
    obtain ⟨a1, a2, a3, a4⟩ := jO_w T a c2
    rw [e]; exact Or.inl ⟨rfl, ⟨a1, Or.inr (Or.inr (Or.inl ⟨rfl, jO_3 a b1⟩))⟩, (by show dep (1 :: jO σ) ≤ 6; rw [dep_n _ (by omega), a3]; exact b2), (by show wfT (T ++ eO σ) 0 (jnC (1 :: jO σ)); rw [jn_y _ (by omega)]; exact a4)⟩
  · obtain ⟨a, b1, b2, c2⟩ := I1 m0
    obtain ⟨a1, a2, a3, a4⟩ := jO_w T a c2
    rw [e]
    have tl : wsh (jO σ).tail ∧ jnC (jO σ).tail = jnC (jO σ) ∧ dep (jO σ).tail ≤ dep (jO σ) := by
      revert a1 a2
      generalize jO σ = τ
      intro a1 a2
      cases τ with
      | nil => exact ⟨trivial, rfl, Nat.le_refl _⟩
      | cons x s => exact ⟨a1.1, (jn_n s a2).symm, by show dep s ≤ dep (x :: s); rw [dep]; omega⟩
    rw [← tl.2.1] at a4
    obtain ⟨d1, d2, d3, d4, d5⟩ := pN_w (s := (jO σ).tail) _ _ tl.1 (by omega) a4
    exact Or.inr (Or.inl ⟨rfl, d1, d2, Nat.le_trans d4 (Nat.le_trans tl.2.2 (by rw [a3]; exact b2)), by show wfT ((T ++ eO σ) ++ eN (jO σ).tail) 0 (jnC (pN (jO σ).tail) + 1); rw [d3]; exact d5⟩)
  · rw [e]; exact Or.inr (Or.inr ⟨show 2 ≤ 11 by decide, fun q => absurd q (show ¬ 11 = 2 by decide)⟩)
  · obtain ⟨a, b1, b2, c2⟩ := I1 m0
    obtain ⟨a1, a2, a3, a4⟩ := jO_w T a c2
    have z : jO σ = [] := by
      rcases jO_3 a b1 with q | q
      · exact hd_0 a1 q
      · have k := brk_jO σ
        rw [d] at k
        revert q k
        generalize jO σ = τ
        intro q k
        cases τ with
        | nil => rfl
        | cons x s => have q : x = 12 := q; rw [q, brk, if_pos rfl] at k; omega
    rw [z] at a4
    rw [e]; exact Or.inr (Or.inr ⟨Nat.le_refl _, fun _ => a4⟩)
theorem rcN_inv {f : Nat → Int32} {n : Nat} : ∀ (k : Nat) (s t : S4), rcN f n k s t → Inv4 s → Inv4 t
  | 0, s, t, h, I => by have h : s = t := h; rw [← h]; exact I
  | k + 1, s, t, ⟨u, h1, h2⟩, I => rcN_inv k u t h2 (st_inv h1 I)
theorem Rch_wf {f : Nat → Int32} {n b b' : Nat} {T : List Tk} (h : Rch f n (0, b, [], []) (2, b', [], T)) : wfT T 0 1 := by
  obtain ⟨k, h⟩ := h
  rcases rcN_inv k _ _ h (Or.inl ⟨rfl, trivial, show dep [] ≤ 6 by decide, rfl⟩) with I | I | I
  · exact absurd I.1 (show ¬ 2 = 0 by decide)
  · exact absurd I.1 (show ¬ 2 = 1 by decide)
  · exact I.2 rfl
theorem rd_wf {f : Nat → Int32} {n p fr : Nat} {T : List Tk} (h : rdR f n 0 p fr T) : wfT T 0 1 := by
  rcases h with h | h | ⟨-, -, h | ⟨-, t, hr, ⟨k', h1, -, h2, -⟩ | ⟨h1, h2, -⟩⟩⟩
  · omega
  · omega
  · omega
  · omega
  · have e : t = (2, t.2.1, t.2.2.1, t.2.2.2) := Prod.ext h1 rfl
    rw [h2]
    obtain ⟨k, h⟩ := hr
    rcases rcN_inv k _ _ h (Or.inl ⟨rfl, trivial, by show dep [] ≤ 6; decide, rfl⟩) with I | I | I
    · exact absurd (I.1.symm.trans h1) (by decide)
    · exact absurd (I.1.symm.trans h1) (by decide)
    · exact I.2 h1
/-! the tests, as the reference tells them -/
def polL (fv : Nat → Nat → Int32) (n r w : Nat) : Prop := ¬ wHi fv n r w < wLo fv n r w
section TLS
variable {fv : Nat → Nat → Int32} {n r q v : Nat} {x y B : Int64}
theorem tsv_9 : tsv fv n r (13, q, 9, v) = if wLo fv n r q < wBd fv r v then (if wHi fv n r q < wBd fv r v then 0 else 1) else 2 := if_neg (show ¬ 9 = 10 by decide)
theorem tsv_10 : tsv fv n r (13, q, 10, v) = if wBd fv r v < wHi fv n r q then (if wBd fv r v < wLo fv n r q then 0 else 1) else 2 := if_pos rfl
theorem hi_n (h : ¬ (10 ≤ q ∧ q < 15)) : wHi fv n r q = wLo fv n r q := if_neg h
theorem lo_2 : wLo fv n r 2 = (fv 10 r).toInt64 * (mall (fv 9) r 40).toInt64 := if_pos rfl
theorem lo_n (h : ¬ q = 2) : wLo fv n r q = wG (wRow fv r) (pgN fv q) n := if_neg h
theorem tl_h9 (ht : 0 < mall (fv 9) r 40) (hv : v ≤ 1000) : (fv 10 r < nI v → (0 : Int32) = ph (tsv fv n r (13, 2, 9, v))) ∧ (¬ fv 10 r < nI v → (3 : Int32) = ph (tsv fv n r (13, 2, 9, v))) := by
  have h := (ht_lt (h := fv 10 r) ht hv).1
  rw [tsv_9, hi_n (by omega), lo_2, wBd]
  refine ⟨fun c => ?_, fun c => ?_⟩
  · rw [if_pos (h.mpr c), if_pos (h.mpr c)]; rfl
  · rw [if_neg (fun z => c (h.mp z))]; rfl
theorem tl_h10 (ht : 0 < mall (fv 9) r 40) (hv : v ≤ 1000) : (nI v < fv 10 r → (0 : Int32) = ph (tsv fv n r (13, 2, 10, v))) ∧ (¬ nI v < fv 10 r → (3 : Int32) = ph (tsv fv n r (13, 2, 10, v))) := by
  have h := (ht_lt (h := fv 10 r) ht hv).2
  rw [tsv_10, hi_n (by omega), lo_2, wBd]
  refine ⟨fun c => ?_, fun c => ?_⟩
  · rw [if_pos (h.mpr c), if_pos (h.mpr c)]; rfl
  · rw [if_neg (fun z => c (h.mp z))]; rfl
theorem tl_n9 (h2 : ¬ q = 2) (hq : ¬ (10 ≤ q ∧ q < 15)) (hx : x = wG (wRow fv r) (pgN fv q) n) (hB : B = wBd fv r v) : (lg_cmp x B < 0 → (0 : Int32) = ph (tsv fv n r (13, q, 9, v))) ∧ (¬ lg_cmp x B < 0 → (3 : Int32) = ph (tsv fv n r (13, q, 9, v))) := by
  rw [tsv_9, hi_n hq, lo_n h2, ← hx, ← hB, lg_cmp_lt]
  refine ⟨fun c => ?_, fun c => ?_⟩
  · rw [if_pos c, if_pos c]; rfl
  · rw [if_neg c]; rfl
theorem tl_n10 (h2 : ¬ q = 2) (hq : ¬ (10 ≤ q ∧ q < 15)) (hx : x = wG (wRow fv r) (pgN fv q) n) (hB : B = wBd fv r v) : (0 < lg_cmp x B → (0 : Int32) = ph (tsv fv n r (13, q, 10, v))) ∧ (¬ 0 < lg_cmp x B → (3 : Int32) = ph (tsv fv n r (13, q, 10, v))) := by
  rw [tsv_10, hi_n hq, lo_n h2, ← hx, ← hB, lg_cmp_gt]
  refine ⟨fun c => ?_, fun c => ?_⟩
  · rw [if_pos c, if_pos c]; rfl
  · rw [if_neg c]; rfl
theorem tl_p9 (h1 : 10 ≤ q) (h2 : q < 15) (hx : x = wG (wRow fv r) (pgN fv q) n) (hy : y = wG (wRow fv r) (pgN fv (q + 10)) n) (hB : B = wBd fv r v) (hp : polL fv n r q) : (lg_cmp x B < 0 → lg_cmp y B < 0 → (0 : Int32) = ph (tsv fv n r (13, q, 9, v))) ∧ (lg_cmp x B < 0 → ¬ lg_cmp y B < 0 → (1 : Int32) = ph (tsv fv n r (13, q, 9, v))) ∧ (¬ lg_cmp x B < 0 → ¬ lg_cmp y B < 0 → (3 : Int32) = ph (tsv fv n r (13, q, 9, v))) ∧ (¬ lg_cmp x B < 0 → lg_cmp y B < 0 → (2 : Int32) = ph (tsv fv n r (13, q, 9, v))) := by
  have e2 : wHi fv n r q = y := by rw [wHi, if_pos ⟨h1, h2⟩, hy]
  have e1 : wLo fv n r q = x := by rw [lo_n (by omega), hx]
  rw [polL, e1, e2] at hp
  rw [tsv_9, e1, e2, ← hB, lg_cmp_lt, lg_cmp_lt]
  refine ⟨fun c d => ?_, fun c d => ?_, fun c d => ?_, fun c d => ?_⟩
  · rw [if_pos c, if_pos d]; rfl
  · rw [if_pos c, if_neg d]; rfl
  · rw [if_neg c]; rfl
  · rw [Int64.lt_iff_toInt_lt] at hp c d; omega
theorem tl_p10 (h1 : 10 ≤ q) (h2 : q < 15) (hx : x = wG (wRow fv r) (pgN fv q) n) (hy : y = wG (wRow fv r) (pgN fv (q + 10)) n) (hB : B = wBd fv r v) (hp : polL fv n r q) : (0 < lg_cmp x B → 0 < lg_cmp y B → (0 : Int32) = ph (tsv fv n r (13, q, 10, v))) ∧ (¬ 0 < lg_cmp x B → 0 < lg_cmp y B → (1 : Int32) = ph (tsv fv n r (13, q, 10, v))) ∧ (¬ 0 < lg_cmp x B → ¬ 0 < lg_cmp y B → (3 : Int32) = ph (tsv fv n r (13, q, 10, v))) ∧ (0 < lg_cmp x B → ¬ 0 < lg_cmp y B → (2 : Int32) = ph (tsv fv n r (13, q, 10, v))) := by
  have e2 : wHi fv n r q = y := by rw [wHi, if_pos ⟨h1, h2⟩, hy]
  have e1 : wLo fv n r q = x := by rw [lo_n (by omega), hx]
  rw [polL, e1, e2] at hp
  rw [tsv_10, e1, e2, ← hB, lg_cmp_gt, lg_cmp_gt]
  refine ⟨fun c d => ?_, fun c d => ?_, fun c d => ?_, fun c d => ?_⟩
  · rw [if_pos d, if_pos c]; rfl
  · rw [if_pos d, if_neg c]; rfl
  · rw [if_neg d]; rfl
  · rw [Int64.lt_iff_toInt_lt] at hp c d; omega
end TLS
theorem tsv_34 (fv : Nat → Nat → Int32) (g : Nat → Int32) (n r : Nat) (t : Tk) : tsv (uF fv 34 g) n r t = tsv fv n r t := rfl
theorem polL_34 (fv : Nat → Nat → Int32) (g : Nat → Int32) (n r w : Nat) : polL (uF fv 34 g) n r w = polL fv n r w := rfl
/-! the rule worked out, step by step -/
section WKS
variable {f h : Nat → Int32} {T2 T9 : List Tk} {k e n : Nat} {S : List Nat} {g : Tk → Nat}
theorem wk_step (hc : cfr f k T2 e) (hw : wfT T2 n 1) (hk : k < e) :
    (∃ (w m v : Nat) (T3 : List Tk), T2 = (13, w, m, v) :: T3 ∧ okK (13, w, m, v) ∧ n < 16 ∧ f k = 13 ∧ f (k + 1) = nI w ∧ f (k + 2) = nI m ∧ f (k + 3) = nI v ∧ k + 4 ≤ e ∧ cfr f (k + 4) T3 e ∧ wfT T3 (n + 1) 1) ∨
    (∃ T3 : List Tk, T2 = (3, 0, 0, 0) :: T3 ∧ f k = 3 ∧ 1 ≤ n ∧ cfr f (k + 1) T3 e ∧ wfT T3 n 1) ∨
    (∃ T3 : List Tk, T2 = (1, 0, 0, 0) :: T3 ∧ f k = 1 ∧ 2 ≤ n ∧ cfr f (k + 1) T3 e ∧ wfT T3 (n - 1) 1) ∨
    (∃ T3 : List Tk, T2 = (2, 0, 0, 0) :: T3 ∧ f k = 2 ∧ 2 ≤ n ∧ cfr f (k + 1) T3 e ∧ wfT T3 (n - 1) 1) := by
  cases T2 with
  | nil => have hc : k = e := hc; omega
  | cons t T3 =>
    obtain ⟨o, hc⟩ := hc
    obtain ⟨-, hw⟩ := hw
    obtain ⟨a, w, m, v⟩ := t
    have z : ∀ b : Nat, ¬ b = 13 → a = b → (w, m, v) = (0, 0, 0) := fun b hb hab => by
      rcases o with o | o
      · exact absurd (hab.symm.trans o.1) hb
      · exact o.2
    rcases hw with ⟨ha, hn, hw⟩ | ⟨ha, hn, hw⟩ | ⟨ha, hn, hw⟩
    · rcases hc with ⟨-, h1, h2, h3, h4, hc⟩ | ⟨h1, -⟩
      · have ha : a = 13 := ha
        subst ha
        exact Or.inl ⟨w, m, v, T3, rfl, o, hn, h1, h2, h3, h4, by have := hc.le; omega, hc, hw⟩
      · exact absurd ha h1
    · have ha : a = 3 := ha
      subst ha
      rcases hc with ⟨h1, -⟩ | ⟨-, h2, hc⟩
      · exact absurd h1 (show ¬ 3 = 13 by decide)
      · exact Or.inr (Or.inl ⟨T3, by rw [z 3 (by decide) rfl], h2, hn, hc, hw⟩)
    · have ha : a = 1 ∨ a = 2 := ha
      rcases ha with rfl | rfl
      · rcases hc with ⟨h1, -⟩ | ⟨-, h2, hc⟩
        · exact absurd h1 (show ¬ 1 = 13 by decide)
        · exact Or.inr (Or.inr (Or.inl ⟨T3, by rw [z 1 (by decide) rfl], h2, hn, hc, hw⟩))
      · rcases hc with ⟨h1, -⟩ | ⟨-, h2, hc⟩
        · exact absurd h1 (show ¬ 2 = 13 by decide)
        · exact Or.inr (Or.inr (Or.inr ⟨T3, by rw [z 2 (by decide) rfl], h2, hn, hc, hw⟩))
theorem ev_end {c : Nat → Int32} (hw : wfT [] n 1) (hn : n = S.length) (hs : stk c h S) (hev : evS g [] S = evS g T9 []) : vT g T9 ≤ 2 ∧ h 0 = c (vT g T9) ∧ n = 1 := by
  have hw : n = 1 := hw
  obtain ⟨x, s, e1, e2, hx, e3, -⟩ := hs.pop hn (by omega)
  have hl : s = [] := List.eq_nil_of_length_eq_zero (by omega)
  have e4 : evS g T9 [] = [x] := by rw [← hev, e1, hl]; rfl
  have e5 : vT g T9 = x := by rw [vT, e4]; rfl
  rw [e5]
  exact ⟨hx, by rw [← e3, hw], hw⟩
theorem wk_end (hc : cfr f k T2 e) (hk : k = e) : T2 = [] := by
  have := hc.le
  exact List.eq_nil_of_length_eq_zero (by omega)
end WKS
