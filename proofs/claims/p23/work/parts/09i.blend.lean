/-! blends: the tanks that are asked for, the candidates, the best so far -/
/-- bit t of a -/
abbrev bB (a : Int32) (t : Nat) : Prop := (a >>> (nI t &&& 31)) &&& 1 = 1
theorem and1 (x : Int32) : x &&& 1 = 0 ∨ x &&& 1 = 1 := by
  obtain ⟨j, hj, e⟩ := pk_andE x (m := 1) 1 (by decide)
  rcases (show j = 0 ∨ j = 1 by omega) with rfl | rfl
  · exact Or.inl e
  · exact Or.inr e
theorem bB_0 {a : Int32} {t : Nat} (h : (a >>> (nI t &&& 31)) &&& 1 = 0) : ¬ bB a t := fun z => absurd (h.symm.trans z) (by decide)
theorem bB_1 {a : Int32} {t : Nat} (h : ¬ (a >>> (nI t &&& 31)) &&& 1 = 0) : bB a t := (and1 _).resolve_left h
/-- the bits below i -/
def cB (a : Int32) : Nat → Nat
  | 0 => 0
  | i + 1 => cB a i + if bB a i then 1 else 0
theorem cB_y {a : Int32} {i : Nat} (h : bB a i) : cB a (i + 1) = cB a i + 1 := by rw [cB, if_pos h]
theorem cB_n {a : Int32} {i : Nat} (h : ¬ bB a i) : cB a (i + 1) = cB a i := by rw [cB, if_neg h]; rfl
theorem cB_le {a : Int32} : ∀ {i j : Nat}, i ≤ j → cB a i ≤ cB a j
  | i, 0, h => by rw [show i = 0 by omega]; exact Nat.le_refl _
  | i, j + 1, h => by
    rcases Nat.lt_or_ge j i with q | q
    · rw [show i = j + 1 by omega]; exact Nat.le_refl _
    · have := cB_le (a := a) q
      rw [cB.eq_2]; omega
theorem cB_lt {a : Int32} {i j : Nat} (h : bB a i) (hij : i < j) : cB a i < cB a j := by
  have h1 := cB_le (a := a) (show i + 1 ≤ j from hij)
  rw [cB_y h] at h1
  omega
/-- the tank at place k -/
def tkR (a : Int32) (k : Nat) : Nat → Nat
  | 0 => 0
  | i + 1 => if bB a i ∧ cB a i = k then i else tkR a k i
def tK (a : Int32) (k : Nat) : Nat := tkR a k 10
theorem tkR_eq {a : Int32} {t : Nat} (h : bB a t) : ∀ i : Nat, t < i → tkR a (cB a t) i = t
  | 0, q => by omega
  | i + 1, q => by
    rw [tkR]
    rcases Nat.lt_or_ge t i with z | z
    · rw [if_neg (fun y => by have := cB_lt h z; omega)]; exact tkR_eq h i z
    · rw [show i = t by omega, if_pos ⟨h, rfl⟩]
theorem tK_eq {a : Int32} {t : Nat} (h : bB a t) (ht : t < 10) : tK a (cB a t) = t := tkR_eq h 10 ht
theorem tkR_lt {a : Int32} {k : Nat} : ∀ i : Nat, k < cB a i → tkR a k i < i ∧ bB a (tkR a k i) ∧ cB a (tkR a k i) = k
  | 0, h => by rw [cB] at h; omega
  | i + 1, h => by
    rw [tkR]
    by_cases q : bB a i ∧ cB a i = k
    · rw [if_pos q]; exact ⟨by omega, q⟩
    · rw [if_neg q]
      have h2 : k < cB a i := by
        by_cases z : bB a i
        · rw [cB_y z] at h
          have : ¬ cB a i = k := fun y => q ⟨z, y⟩
          omega
        · rw [cB_n z] at h; exact h
      have ih := tkR_lt i h2
      exact ⟨by omega, ih.2⟩
theorem tK_at {a : Int32} {k : Nat} (h : k < cB a 10) : tK a k < 10 ∧ bB a (tK a k) ∧ cB a (tK a k) = k := tkR_lt 10 h
/-! what stands at place k: whole parts, told water, told colour, price -/
def bM (fv : Nat → Nat → Int32) (a : Int32) (k : Nat) : Nat := if k < cB a 10 then (mall (fv 9) (tK a k) 40).toNatClampNeg / 1000 else 0
def bT (fv : Nat → Nat → Int32) (n t : Nat) (q : Int32) : Int32 := tld fv (wRow fv t) n (mall (fv 9) t 40) (fv 10 t) q
def bW (fv : Nat → Nat → Int32) (n : Nat) (a : Int32) (k : Nat) : Nat := if k < cB a 10 then (bT fv n (tK a k) 0).toNatClampNeg else 0
def bC (fv : Nat → Nat → Int32) (n : Nat) (a : Int32) (k : Nat) : Nat := if k < cB a 10 then (bT fv n (tK a k) 1).toNatClampNeg else 0
def bP (fv : Nat → Nat → Int32) (a : Int32) (k : Nat) : Nat := if k < cB a 10 then (fv 12 (tK a k)).toNatClampNeg else 0
/-- a parts of the first, b of the second, c of the third, the rest of m of the fourth -/
def mix (V : Nat → Nat) (m a b c : Nat) : Nat := a * V 0 + b * V 1 + c * V 2 + (m - a - b - c) * V 3
def inM (M : Nat → Nat) (m a b c : Nat) : Prop := a ≤ M 0 ∧ b ≤ M 1 ∧ c ≤ M 2 ∧ a + b + c ≤ m ∧ m - a - b - c ≤ M 3
/-- a candidate that is a blend -/
def bF (M W C : Nat → Nat) (m wa le mo a b c : Nat) : Prop := inM M m a b c ∧ mix W m a b c ≤ m * 10 * wa ∧ m * 10 * le ≤ mix C m a b c ∧ mix C m a b c ≤ m * 10 * mo
def lx (a b c x y z : Nat) : Prop := a < x ∨ (a = x ∧ (b < y ∨ (b = y ∧ c < z)))
theorem lx_tri {a b c x y z : Nat} (h : ¬ lx a b c x y z) (h' : ¬ lx x y z a b c) : a = x ∧ b = y ∧ c = z := by
  unfold lx at h h'
  omega
section BST
variable {F : Nat → Nat → Nat → Prop} {p : Nat → Nat → Nat → Nat} {x y z a b c : Nat}
/-- no blend ahead of (x, y, z) -/
def bN (F : Nat → Nat → Nat → Prop) (x y z : Nat) : Prop := ∀ a b c : Nat, lx a b c x y z → ¬ F a b c
/-- (a, b, c) is the best ahead of (x, y, z) -/
def bS (F : Nat → Nat → Nat → Prop) (p : Nat → Nat → Nat → Nat) (x y z a b c : Nat) : Prop := lx a b c x y z ∧ F a b c ∧ ∀ a' b' c' : Nat, lx a' b' c' x y z → F a' b' c' → p a b c < p a' b' c' ∨ (p a b c = p a' b' c' ∧ ¬ lx a' b' c' a b c)
theorem lx_s {a b c x y z : Nat} (h : lx a b c x y (z + 1)) : lx a b c x y z ∨ (a = x ∧ b = y ∧ c = z) := by unfold lx at h ⊢; omega
theorem lx_m {a b c x y z : Nat} (h : lx a b c x y z) : lx a b c x y (z + 1) := by unfold lx at h ⊢; omega
theorem bN_no (h : bN F x y z) (hf : ¬ F x y z) : bN F x y (z + 1) := fun a b c q => by
  rcases lx_s q with q | ⟨rfl, rfl, rfl⟩
  · exact h a b c q
  · exact hf
theorem bS_no (h : bS F p x y z a b c) (hf : ¬ F x y z) : bS F p x y (z + 1) a b c := ⟨lx_m h.1, h.2.1, fun a' b' c' q f => by
  rcases lx_s q with q | ⟨rfl, rfl, rfl⟩
  · exact h.2.2 a' b' c' q f
  · exact absurd f hf⟩
theorem bS_ge (h : bS F p x y z a b c) (hp : p a b c ≤ p x y z) : bS F p x y (z + 1) a b c := ⟨lx_m h.1, h.2.1, fun a' b' c' q f => by
  rcases lx_s q with q | ⟨rfl, rfl, rfl⟩
  · exact h.2.2 a' b' c' q f
  · rcases Nat.lt_or_ge (p a b c) (p a' b' c') with w | w
    · exact Or.inl w
    · exact Or.inr ⟨by omega, fun w => by have := h.1; unfold lx at this w; omega⟩⟩
theorem bN_new (h : bN F x y z) (hf : F x y z) : bS F p x y (z + 1) x y z := ⟨by unfold lx; omega, hf, fun a' b' c' q f => by
  rcases lx_s q with q | ⟨rfl, rfl, rfl⟩
  · exact absurd f (h a' b' c' q)
  · exact Or.inr ⟨rfl, by unfold lx; omega⟩⟩
theorem bS_new (h : bS F p x y z a b c) (hf : F x y z) (hp : p x y z < p a b c) : bS F p x y (z + 1) x y z := ⟨by unfold lx; omega, hf, fun a' b' c' q f => by
  rcases lx_s q with q | ⟨rfl, rfl, rfl⟩
  · rcases h.2.2 a' b' c' q f with w | w
    · exact Or.inl (by omega)
    · exact Or.inl (by omega)
  · exact Or.inr ⟨rfl, by unfold lx; omega⟩⟩
/-- ahead to another place: nothing between is a blend -/
theorem bN_to {x' y' z' : Nat} (h : bN F x y z) (hs : ∀ a b c : Nat, lx a b c x' y' z' → ¬ lx a b c x y z → ¬ F a b c) : bN F x' y' z' := fun a b c q f => by
  by_cases w : lx a b c x y z
  · exact h a b c w f
  · exact hs a b c q w f
theorem bS_to {x' y' z' : Nat} (h : bS F p x y z a b c) (hm : lx a b c x y z → lx a b c x' y' z') (hs : ∀ a b c : Nat, lx a b c x' y' z' → ¬ lx a b c x y z → ¬ F a b c) : bS F p x' y' z' a b c := ⟨hm h.1, h.2.1, fun a' b' c' q f => by
  by_cases w : lx a' b' c' x y z
  · exact h.2.2 a' b' c' w f
  · exact absurd f (hs a' b' c' q w)⟩
/-- the best of all -/
def bE (F : Nat → Nat → Nat → Prop) (p : Nat → Nat → Nat → Nat) (a b c : Nat) : Prop := F a b c ∧ ∀ a' b' c' : Nat, F a' b' c' → p a b c < p a' b' c' ∨ (p a b c = p a' b' c' ∧ ¬ lx a' b' c' a b c)
theorem bE.uq {a' b' c' : Nat} (h : bE F p a b c) (h' : bE F p a' b' c') : a = a' ∧ b = b' ∧ c = c' := by
  have h1 := h.2 a' b' c' h'.1
  have h2 := h'.2 a b c h.1
  have h3 : p a b c = p a' b' c' := by omega
  exact lx_tri (by rcases h2 with h2 | h2; omega; exact h2.2) (by rcases h1 with h1 | h1; omega; exact h1.2)
theorem bS.e (h : bS F p x y z a b c) (hl : ∀ a b c : Nat, F a b c → lx a b c x y z) : bE F p a b c := ⟨h.2.1, fun a' b' c' f => h.2.2 a' b' c' (hl a' b' c' f) f⟩
theorem bN.e (h : bN F x y z) (hl : ∀ a b c : Nat, F a b c → lx a b c x y z) : ∀ a b c : Nat, ¬ F a b c := fun a b c f => h a b c (hl a b c f) f
end BST
/-! how the places are run through -/
section RUN
variable {M W C : Nat → Nat} {m wa le mo a b c : Nat}
abbrev FF (M W C : Nat → Nat) (m wa le mo : Nat) : Nat → Nat → Nat → Prop := bF M W C m wa le mo
/-- the third place is through -/
theorem rn_c {x y z : Nat} (hz : ∀ k : Nat, z ≤ k → ¬ inM M m x y k) : ∀ a b c : Nat, lx a b c x (y + 1) 0 → ¬ lx a b c x y z → ¬ FF M W C m wa le mo a b c := fun a b c h1 h2 f => by
  have e : a = x ∧ b = y ∧ z ≤ c := by unfold lx at h1 h2; omega
  obtain ⟨rfl, rfl, e⟩ := e
  exact hz c e f.1
theorem rn_b {x y : Nat} (hy : ∀ k c : Nat, y ≤ k → ¬ inM M m x k c) : ∀ a b c : Nat, lx a b c (x + 1) 0 0 → ¬ lx a b c x y 0 → ¬ FF M W C m wa le mo a b c := fun a b c h1 h2 f => by
  have e : a = x ∧ y ≤ b := by unfold lx at h1 h2; omega
  obtain ⟨rfl, e⟩ := e
  exact hy b c e f.1
theorem rn_a {x : Nat} (hx : ∀ k b c : Nat, x ≤ k → ¬ inM M m k b c) : ∀ a b c : Nat, FF M W C m wa le mo a b c → lx a b c x 0 0 := fun a b c f => by
  rcases Nat.lt_or_ge a x with q | q
  · exact Or.inl q
  · exact absurd f.1 (hx a b c q)
/-- the first of the third place -/
theorem rn_0 {x y z : Nat} (hz : ∀ k : Nat, k < z → ¬ inM M m x y k) : ∀ a b c : Nat, lx a b c x y z → ¬ lx a b c x y 0 → ¬ FF M W C m wa le mo a b c := fun a b c h1 h2 f => by
  have e : a = x ∧ b = y ∧ c < z := by unfold lx at h1 h2; omega
  obtain ⟨rfl, rfl, e⟩ := e
  exact hz c e f.1
end RUN
/-! what is told -/
/-- of four, the one at place k -/
def sel4 (m a b c k : Nat) : Nat := if k = 0 then a else if k = 1 then b else if k = 2 then c else m - a - b - c
/-- the parts that are told of tank t -/
def bPt (bits : Int32) (m a b c t : Nat) : Nat := if bB bits t then sel4 m a b c (cB bits t) else 0
/-- what can be asked for -/
def bOK (fv : Nat → Nat → Int32) (bits a2 a3 a4 a5 : Int32) (m wa le mo : Nat) : Prop := (a2 = nI m ∧ 1 ≤ m ∧ m ≤ 40) ∧ (a3 = nI wa ∧ wa ≤ 300) ∧ (a4 = nI le ∧ le ≤ 140) ∧ (a5 = nI mo ∧ mo ≤ 140) ∧ (∃ n : Nat, n < 1024 ∧ bits = nI n) ∧ 1 ≤ cB bits 10 ∧ cB bits 10 ≤ 4 ∧ ∀ t : Nat, t < 10 → bB bits t → ¬ mall (fv 9) t 40 = 0
/-- a blend is told: g its parts -/
def bTd (fv : Nat → Nat → Int32) (n : Nat) (bits a2 a3 a4 a5 : Int32) (g : Nat → Int32) : Prop := ∃ m wa le mo a b c : Nat, bOK fv bits a2 a3 a4 a5 m wa le mo ∧ bE (bF (bM fv bits) (bW fv n bits) (bC fv n bits) m wa le mo) (mix (bP fv bits) m) a b c ∧ ∀ t : Nat, t < 10 → g t = nI (bPt bits m a b c t)
/-- none is told -/
def bNo (fv : Nat → Nat → Int32) (n : Nat) (bits a2 a3 a4 a5 : Int32) : Prop := ∀ m wa le mo a b c : Nat, bOK fv bits a2 a3 a4 a5 m wa le mo → ¬ bF (bM fv bits) (bW fv n bits) (bC fv n bits) m wa le mo a b c
theorem bTd_no {fv : Nat → Nat → Int32} {n : Nat} {bits a2 a3 a4 a5 : Int32} {g : Nat → Int32} (h : bTd fv n bits a2 a3 a4 a5 g) (h' : bNo fv n bits a2 a3 a4 a5) : False := by
  obtain ⟨m, wa, le, mo, a, b, c, h1, h2, -⟩ := h
  exact h' m wa le mo a b c h1 h2.1
theorem bTd.uq {fv : Nat → Nat → Int32} {n : Nat} {bits a2 a3 a4 a5 : Int32} {g g' : Nat → Int32} (h : bTd fv n bits a2 a3 a4 a5 g) (h' : bTd fv n bits a2 a3 a4 a5 g') : ∀ t : Nat, t < 10 → g t = g' t := by
  obtain ⟨m, wa, le, mo, a, b, c, ⟨⟨h1, _, h1'⟩, ⟨h2, h2'⟩, ⟨h3, h3'⟩, ⟨h4, h4'⟩, -⟩, hE, hg⟩ := h
  obtain ⟨m', wa', le', mo', a', b', c', ⟨⟨k1, _, k1'⟩, ⟨k2, k2'⟩, ⟨k3, k3'⟩, ⟨k4, k4'⟩, -⟩, kE, kg⟩ := h'
  obtain rfl : m = m' := nI_ij (by omega) (by omega) (h1.symm.trans k1)
  obtain rfl : wa = wa' := nI_ij (by omega) (by omega) (h2.symm.trans k2)
  obtain rfl : le = le' := nI_ij (by omega) (by omega) (h3.symm.trans k3)
  obtain rfl : mo = mo' := nI_ij (by omega) (by omega) (h4.symm.trans k4)
  obtain ⟨rfl, rfl, rfl⟩ := hE.uq kE
  exact fun t ht => (hg t ht).trans (kg t ht).symm
/-! the numbers are small -/
/-- rows: water, colour of the lots, prices of the tanks -/
def WV (fv : Nat → Nat → Int32) (n : Nat) : Prop := (∀ j : Nat, j < n → ∃ w c : Nat, w ≤ 300 ∧ c ≤ 140 ∧ fv 4 (7 * j + 2) = nI w ∧ fv 4 (7 * j + 3) = nI c) ∧ ∀ t : Nat, t < 10 → ∃ p : Nat, p ≤ 10000 ∧ fv 12 t = nI p
theorem sP_k {G P : Nat → Nat} {K : Nat} : ∀ k : Nat, (∀ i : Nat, i < k → P i ≤ K) → sP G P k ≤ K * sN G k
  | 0, _ => by rw [sP, sN]; omega
  | k + 1, h => by
    have h1 := sP_k (G := G) (K := K) k (fun i hi => h i (by omega))
    have h2 : G k * P k ≤ G k * K := Nat.mul_le_mul_left _ (h k (by omega))
    rw [sP, sN, Nat.mul_add, Nat.mul_comm K (G k)]
    omega
theorem bT_n {fv : Nat → Nat → Int32} {n t K q : Nat} {P : Nat → Nat} (V : NV fv n) (hn : n ≤ 40) (ht : t < 70) (h0 : ¬ mall (fv 9) t 40 = 0) (hq : isQ q) (hK : K ≤ 1000) (hP : ∀ i : Nat, i < n → pgN fv q i = nI (P i) ∧ P i ≤ K) : ∃ w : Nat, w ≤ 10 * K ∧ bT fv n t (nI q) = nI w := by
  obtain ⟨G, hG, hS, hz⟩ := V.1 t ht
  have hs : sN G n ≤ 1000000 := Nat.le_trans (sN_mo hn) hS
  have e40 : sN G 40 = sN G n := sN_z hz 40 hn
  have em : mall (fv 9) t 40 = nI (sN G 40) := mall_n hG 40 (Nat.le_refl _)
  have l1 := wG_n (g := wRow fv t) (p := pgN fv q) (G := G) (P := P) hs n (Nat.le_refl _) (fun i hi => hG i (by omega)) (fun i hi => (hP i hi).1) (fun i hi => Nat.le_trans (hP i hi).2 hK)
  have l2 := sP_k (G := G) (P := P) (K := K) n (fun i hi => (hP i hi).2)
  have e1 : wG (wRow fv t) (pgL fv (nI q)) n = wG (wRow fv t) (pgN fv q) n := wG_cg n (fun _ _ => rfl) (fun i _ => pg_eq hq)
  have hpos : 0 < sN G 40 := by
    rcases Nat.eq_zero_or_pos (sN G 40) with z | z
    · exact absurd (by rw [em, z, nI_0]) h0
    · exact z
  have q2 : ¬ nI q = 2 := fun z => by
    have : q = 2 := nI_ij (by rcases hq with h | h | h | h | h <;> omega) (by omega) z
    rcases hq with h | h | h | h | h <;> omega
  have l3 : K * sN G n ≤ 1000 * 1000000 := Nat.mul_le_mul hK hs
  have hd : 10 * sP G P n / sN G 40 ≤ 10 * K := by
    apply Nat.div_le_of_le_mul
    rw [e40, Nat.mul_comm (sN G n), Nat.mul_assoc]
    omega
  have nd : (((10 * sP G P n / sN G 40 : Nat)) : Int) = ((10 * sP G P n : Nat) : Int) / ((sN G 40 : Nat) : Int) := Int.natCast_ediv _ _
  generalize hD : 10 * sP G P n / sN G 40 = D at hd nd
  refine ⟨D, hd, ?_⟩
  rw [bT, tld, if_neg q2, e1, em]
  apply Int32.toInt_inj.mp
  have t10 : (10 : Int64).toInt = 10 := by decide
  have eX : (10 * wG (wRow fv t) (pgN fv q) n).toInt = (10 * sP G P n : Nat) := by rw [Int64.toInt_mul, t10, l1, bm64 (by omega) (by omega)]; omega
  have eT : ((nI (sN G 40)).toInt64).toInt = (sN G 40 : Nat) := l64_of (by omega)
  have eD : (10 * wG (wRow fv t) (pgN fv q) n / (nI (sN G 40)).toInt64).toInt = (D : Int) := by
    rw [Int64.toInt_div, eX, eT, Int.tdiv_eq_ediv_of_nonneg (by omega), ← nd]
    exact bm64 (by omega) (by omega)
  rw [Int64.toInt_toInt32, eD, nI_toInt (by omega)]
  exact Int.bmod_eq_of_le (by omega) (by omega)
/-! the class' search: its best price y and its best row f -/
def bX (F : Nat → Nat → Nat → Prop) (p : Nat → Nat → Nat → Nat) (m : Nat) (y : Int32) (f : Nat → Int32) (x1 x2 x3 : Nat) : Prop := (y = (-2) ∧ bN F x1 x2 x3) ∨ ∃ a b c : Nat, bS F p x1 x2 x3 a b c ∧ y = nI (p a b c) ∧ f 0 = nI a ∧ f 1 = nI b ∧ f 2 = nI c ∧ f 3 = nI (m - a - b - c)
section BX
variable {F : Nat → Nat → Nat → Prop} {p : Nat → Nat → Nat → Nat} {m x y z : Nat} {v : Int32} {f g : Nat → Int32}
theorem bX_to {x' y' z' : Nat} (h : bX F p m v f x y z) (hm : ∀ a b c : Nat, lx a b c x y z → lx a b c x' y' z') (hs : ∀ a b c : Nat, lx a b c x' y' z' → ¬ lx a b c x y z → ¬ F a b c) : bX F p m v f x' y' z' := by
  rcases h with ⟨h1, h2⟩ | ⟨a, b, c, h2, h3⟩
  · exact Or.inl ⟨h1, bN_to h2 hs⟩
  · exact Or.inr ⟨a, b, c, bS_to h2 (hm a b c) hs, h3⟩
theorem bX_0 : bX F p m (-2) f 0 0 0 := Or.inl ⟨rfl, fun a b c h => by unfold lx at h; omega⟩
theorem up4 {f f1 f2 f3 f4 : Nat → Int32} {a b c d : Int32} (h1 : f1 = upd f 0 a) (h2 : f2 = upd f1 1 b) (h3 : f3 = upd f2 2 c) (h4 : f4 = upd f3 3 d) : f4 0 = a ∧ f4 1 = b ∧ f4 2 = c ∧ f4 3 = d := by
  subst h1 h2 h3 h4
  refine ⟨?_, ?_, ?_, upd_s _ _ _⟩
  · rw [upd_n (by omega), upd_n (by omega), upd_n (by omega), upd_s]
  · rw [upd_n (by omega), upd_n (by omega), upd_s]
  · rw [upd_n (by omega), upd_s]
end BX
theorem lx_c {x y z : Nat} : ∀ a b c : Nat, lx a b c x y 0 → lx a b c x y z := fun a b c h => by unfold lx at h ⊢; omega
theorem lx_b {x y z : Nat} : ∀ a b c : Nat, lx a b c x y z → lx a b c x (y + 1) 0 := fun a b c h => by unfold lx at h ⊢; omega
theorem lx_a {x y : Nat} : ∀ a b c : Nat, lx a b c x y 0 → lx a b c (x + 1) 0 0 := fun a b c h => by unfold lx at h ⊢; omega
/-- the sums are small -/
theorem mul_k {c m v K : Nat} (hc : c ≤ m) (hv : v ≤ K) : c * v ≤ m * K := Nat.mul_le_mul hc hv
theorem mix_le {V : Nat → Nat} {K m a b c : Nat} (hV : ∀ k : Nat, k < 4 → V k ≤ K) (h : a + b + c ≤ m) : mix V m a b c ≤ m * K := by
  have h0 : a * V 0 ≤ a * K := Nat.mul_le_mul_left _ (hV 0 (by omega))
  have h1 : b * V 1 ≤ b * K := Nat.mul_le_mul_left _ (hV 1 (by omega))
  have h2 : c * V 2 ≤ c * K := Nat.mul_le_mul_left _ (hV 2 (by omega))
  have h3 : (m - a - b - c) * V 3 ≤ (m - a - b - c) * K := Nat.mul_le_mul_left _ (hV 3 (by omega))
  have e : m * K = a * K + b * K + c * K + (m - a - b - c) * K := by
    rw [← Nat.add_mul, ← Nat.add_mul, ← Nat.add_mul]
    congr 1
    omega
  unfold mix
  omega
theorem mq {c m v : Nat} {x : Int32} (h : x = nI v ∨ m = 0) (hc : c ≤ m) : nI c * x = nI (c * v) := by
  rcases h with h | h
  · rw [h, pk_mul]
  · have e : c = 0 := by omega
    rw [e, Nat.zero_mul, nI_0, Int32.zero_mul]
theorem mx_s {r k : Nat} (hr : r < 2 ^ 30) (hk : k < 2 ^ 30) : (if (0 : Int32) < nI r - nI k then nI r - nI k else 0) = nI (r - k) := by
  have e : (nI r - nI k).toInt = (r : Int) - k := pk_sub_toInt hr hk
  have e0 : (0 : Int32).toInt = 0 := by decide
  apply Int32.toInt_inj.mp
  rw [nI_toInt (by omega)]
  by_cases h : (0 : Int32) < nI r - nI k
  · rw [if_pos h, e]
    rw [i_lt, e0, e] at h
    omega
  · rw [if_neg h, e0]
    rw [i_lt, e0, e] at h
    omega
theorem mi_s {r k : Nat} (hr : r < 2 ^ 31) (hk : k < 2 ^ 31) : (if nI r < nI k then nI r else nI k) = nI (min k r) := by
  have e : nI r < nI k ↔ r < k := nI_ltI hr hk
  by_cases h : r < k
  · rw [if_pos (e.mpr h), show min k r = r by omega]
  · rw [if_neg (fun z => h (e.mp z)), show min k r = k by omega]
theorem nI_m2 {n : Nat} (h : n < 2 ^ 31) : ¬ nI n = (-2) := fun z => by
  have := congrArg Int32.toInt z
  rw [nI_toInt h] at this
  have e : (-2 : Int32).toInt = -2 := by decide
  omega
theorem dv_n {x k : Nat} (hx : x < 2 ^ 31) (hk : k < 2 ^ 31) : nI x / nI k = nI (x / k) := by
  apply Int32.toInt_inj.mp
  have hd : x / k ≤ x := Nat.div_le_self x k
  have nd : ((x / k : Nat) : Int) = (x : Int) / (k : Int) := Int.natCast_ediv _ _
  generalize x / k = D at hd nd
  rw [Int32.toInt_div, nI_toInt hx, nI_toInt hk, nI_toInt (by omega), Int.tdiv_eq_ediv_of_nonneg (by omega), ← nd]
  exact Int.bmod_eq_of_le (by omega) (by omega)
/-! bitCount -/
def bc1 (a : Int32) : Int32 := a - ((a.toUInt32 >>> ((1 : Int32).toUInt32 &&& Int32.toUInt32 31)).toInt32 &&& 1431655765)
def bc2 (a : Int32) : Int32 := (a &&& 858993459) + ((a.toUInt32 >>> ((2 : Int32).toUInt32 &&& Int32.toUInt32 31)).toInt32 &&& 858993459)
def bc3 (a : Int32) : Int32 := (a + (a.toUInt32 >>> ((4 : Int32).toUInt32 &&& Int32.toUInt32 31)).toInt32) &&& 252645135
def bc4 (a : Int32) : Int32 := a + (a.toUInt32 >>> ((8 : Int32).toUInt32 &&& Int32.toUInt32 31)).toInt32
def bc5 (a : Int32) : Int32 := a + (a.toUInt32 >>> ((16 : Int32).toUInt32 &&& Int32.toUInt32 31)).toInt32
def bcF (a : Int32) : Int32 := bc5 (bc4 (bc3 (bc2 (bc1 a)))) &&& 63
theorem bc_all : ∀ n : Fin 1024, bcF (nI n.val) = nI (cB (nI n.val) 10) := by decide +kernel
theorem bc_n {a : Int32} {n : Nat} (hn : n < 1024) (e : a = nI n) : bcF a = nI (cB a 10) := by rw [e]; exact bc_all ⟨n, hn⟩
/-- no bit at ten or above -/
theorem sr_0 {a : Int32} : a >>> ((10 : Int32) &&& 31) = 0 ↔ ∃ n : Nat, n < 1024 ∧ a = nI n := by
  have e0 : ((10 : Int32) &&& 31) = 10 := by decide
  rw [e0]
  have e1 : (a >>> (10 : Int32)).toBitVec = a.toBitVec.sshiftRight 10 := rfl
  have e2 : (a >>> (10 : Int32)).toInt = a.toInt / 1024 := by
    show (a >>> (10 : Int32)).toBitVec.toInt = _
    rw [e1, BitVec.toInt_sshiftRight, Int.shiftRight_eq_div_pow]
    rfl
  have z : (0 : Int32).toInt = 0 := by decide
  constructor
  · intro h
    have h2 := congrArg Int32.toInt h
    rw [e2, z] at h2
    exact ⟨a.toInt.toNat, by omega, Int32.toInt_inj.mp (by rw [nI_toInt (by omega)]; omega)⟩
  · rintro ⟨n, hn, rfl⟩
    apply Int32.toInt_inj.mp
    rw [e2, z, nI_toInt (by omega)]
    omega
def bAT (fv : Nat → Nat → Int32) (a : Int32) : Prop := (∃ n : Nat, n < 1024 ∧ a = nI n) ∧ 1 ≤ cB a 10 ∧ cB a 10 ≤ 4 ∧ ∀ t : Nat, t < 10 → bB a t → ¬ mall (fv 9) t 40 = 0
theorem cB_10 {a : Int32} : ∀ i : Nat, cB a i ≤ i
  | 0 => Nat.le_refl _
  | i + 1 => by have := cB_10 (a := a) i; rw [cB]; split <;> omega
theorem bNo_of {fv : Nat → Nat → Int32} {n : Nat} {bits a2 a3 a4 a5 : Int32} {m wa le mo : Nat} (h : bOK fv bits a2 a3 a4 a5 m wa le mo) (hn : ∀ a b c : Nat, ¬ bF (bM fv bits) (bW fv n bits) (bC fv n bits) m wa le mo a b c) : bNo fv n bits a2 a3 a4 a5 := by
  obtain ⟨⟨h1, _, h1'⟩, ⟨h2, h2'⟩, ⟨h3, h3'⟩, ⟨h4, h4'⟩, -⟩ := h
  rintro m' wa' le' mo' a b c ⟨⟨k1, _, k1'⟩, ⟨k2, k2'⟩, ⟨k3, k3'⟩, ⟨k4, k4'⟩, -⟩
  obtain rfl : m = m' := nI_ij (by omega) (by omega) (h1.symm.trans k1)
  obtain rfl : wa = wa' := nI_ij (by omega) (by omega) (h2.symm.trans k2)
  obtain rfl : le = le' := nI_ij (by omega) (by omega) (h3.symm.trans k3)
  obtain rfl : mo = mo' := nI_ij (by omega) (by omega) (h4.symm.trans k4)
  exact hn a b c
theorem cl_n {x : Int32} {w : Nat} (h : x = nI w) (hw : w < 2 ^ 31) : x.toNatClampNeg = w ∧ x = nI x.toNatClampNeg := by
  rw [h, nI_clamp hw]; exact ⟨rfl, rfl⟩
/-! what stands at the places, told -/
section PLC
variable {fv : Nat → Nat → Int32} {n t : Nat} {a : Int32}
theorem bM_at (ht : t < 10) (h : bB a t) : bM fv a (cB a t) = (mall (fv 9) t 40).toNatClampNeg / 1000 := by rw [bM, if_pos (cB_lt h ht), tK_eq h ht]
theorem bW_at (ht : t < 10) (h : bB a t) : bW fv n a (cB a t) = (bT fv n t 0).toNatClampNeg := by rw [bW, if_pos (cB_lt h ht), tK_eq h ht]
theorem bC_at (ht : t < 10) (h : bB a t) : bC fv n a (cB a t) = (bT fv n t 1).toNatClampNeg := by rw [bC, if_pos (cB_lt h ht), tK_eq h ht]
theorem bP_at (ht : t < 10) (h : bB a t) : bP fv a (cB a t) = (fv 12 t).toNatClampNeg := by rw [bP, if_pos (cB_lt h ht), tK_eq h ht]
theorem bT_w (V : NV fv n) (X : WV fv n) (hn : n ≤ 40) (ht : t < 10) (h0 : ¬ mall (fv 9) t 40 = 0) : ∃ w : Nat, w ≤ 3000 ∧ bT fv n t 0 = nI w := by
  have ex : ∀ i : Nat, ∃ w : Nat, i < n → fv 4 (7 * i + 2) = nI w ∧ w ≤ 300 := fun i => by
    rcases Nat.lt_or_ge i n with q | q
    · obtain ⟨w, c, h1, h2, h3, h4⟩ := X.1 i q; exact ⟨w, fun _ => ⟨h3, h1⟩⟩
    · exact ⟨0, fun z => absurd z (by omega)⟩
  obtain ⟨P, hP⟩ := Classical.axiomOfChoice ex
  exact bT_n (q := 0) (K := 300) V hn (by omega) h0 (Or.inl rfl) (by omega) (fun i hi => ⟨by rw [pgN, if_pos rfl]; exact (hP i hi).1, (hP i hi).2⟩)
theorem bT_c (V : NV fv n) (X : WV fv n) (hn : n ≤ 40) (ht : t < 10) (h0 : ¬ mall (fv 9) t 40 = 0) : ∃ w : Nat, w ≤ 1400 ∧ bT fv n t 1 = nI w := by
  have ex : ∀ i : Nat, ∃ w : Nat, i < n → fv 4 (7 * i + 3) = nI w ∧ w ≤ 140 := fun i => by
    rcases Nat.lt_or_ge i n with q | q
    · obtain ⟨w, c, h1, h2, h3, h4⟩ := X.1 i q; exact ⟨c, fun _ => ⟨h4, h2⟩⟩
    · exact ⟨0, fun z => absurd z (by omega)⟩
  obtain ⟨P, hP⟩ := Classical.axiomOfChoice ex
  exact bT_n (q := 1) (K := 140) V hn (by omega) h0 (Or.inr (Or.inl rfl)) (by omega) (fun i hi => ⟨by rw [pgN, if_neg (by omega), if_pos rfl]; exact (hP i hi).1, (hP i hi).2⟩)
theorem mall_tot (V : NV fv n) (ht : t < 70) : ∃ w : Nat, w ≤ 1000000 ∧ mall (fv 9) t 40 = nI w := by
  obtain ⟨G, hG, hS, -⟩ := V.1 t ht
  exact ⟨sN G 40, hS, mall_n hG 40 (Nat.le_refl _)⟩
/-- the bounds of the places -/
theorem plc_le (V : NV fv n) (X : WV fv n) (hn : n ≤ 40) (hA : bAT fv a) : ∀ k : Nat, bM fv a k ≤ 1000 ∧ bW fv n a k ≤ 3000 ∧ bC fv n a k ≤ 1400 ∧ bP fv a k ≤ 10000 := fun k => by
  rcases Nat.lt_or_ge k (cB a 10) with q | q
  · obtain ⟨h1, h2, h3⟩ := tK_at q
    obtain ⟨w1, b1, e1⟩ := bT_w V X hn h1 (hA.2.2.2 _ h1 h2)
    obtain ⟨w2, b2, e2⟩ := bT_c V X hn h1 (hA.2.2.2 _ h1 h2)
    obtain ⟨w3, b3, e3⟩ := mall_tot V (t := tK a k) (by omega)
    obtain ⟨w4, b4, e4⟩ := X.2 _ h1
    rw [bM, bW, bC, bP, if_pos q, if_pos q, if_pos q, if_pos q, (cl_n e1 (by omega)).1, (cl_n e2 (by omega)).1, (cl_n e3 (by omega)).1, (cl_n e4 (by omega)).1]
    exact ⟨by omega, b1, b2, b4⟩
  · rw [bM, bW, bC, bP, if_neg (by omega), if_neg (by omega), if_neg (by omega), if_neg (by omega)]
    omega
end PLC
theorem is_no {v : Int32} {a b j : Nat} (e : v = nI j) (h1 : a ≤ j) (h2 : j ≤ b) (hb : b < 2 ^ 31) : ¬ (v < nI a ∨ nI b < v) := by
  rw [e, nI_ltI (by omega) (by omega), nI_ltI (by omega) (by omega)]
  omega
theorem bNo_i {fv : Nat → Nat → Int32} {n : Nat} {bits a2 a3 a4 a5 : Int32} (h : (a2 < 1 ∨ 40 < a2) ∨ (a3 < 0 ∨ 300 < a3) ∨ (a4 < 0 ∨ 140 < a4) ∨ (a5 < 0 ∨ 140 < a5) ∨ ¬ bAT fv bits) : bNo fv n bits a2 a3 a4 a5 := by
  rintro m wa le mo a b c ⟨⟨k1, l1, l1'⟩, ⟨k2, l2⟩, ⟨k3, l3⟩, ⟨k4, l4⟩, k5⟩
  rcases h with h | h | h | h | h
  · exact absurd h (is_no (a := 1) (b := 40) k1 l1 l1' (by omega))
  · exact absurd h (is_no (a := 0) (b := 300) k2 (by omega) l2 (by omega))
  · exact absurd h (is_no (a := 0) (b := 140) k3 (by omega) l3 (by omega))
  · exact absurd h (is_no (a := 0) (b := 140) k4 (by omega) l4 (by omega))
  · exact absurd k5 h
