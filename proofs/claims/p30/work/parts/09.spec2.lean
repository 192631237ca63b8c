/-! the vessels' calls: when they are refused, and the reference's rows behind them -/
theorem x_nat {v : Int32} {b : Nat} (h1 : ¬ v < 1) (h2 : ¬ nI b < v) (hb : b < 2 ^ 31) : ∃ X : Nat, 1 ≤ X ∧ X ≤ b ∧ v = nI X := by
  rw [i_lt] at h1
  rw [i_lt, nI_toInt hb] at h2
  have e1 : (1 : Int32).toInt = 1 := by decide
  rw [e1] at h1
  refine ⟨v.toInt.toNat, by omega, by omega, ?_⟩
  apply Int32.toInt_inj.mp
  rw [nI_toInt (by omega)]
  omega
theorem x_nat0 {v M : Int32} {b : Nat} (h1 : ¬ v < 0) (h2 : ¬ M < v) (hM : M = nI b) (hb : b < 2 ^ 31) : ∃ X : Nat, X ≤ b ∧ v = nI X := by
  subst hM
  rw [i_lt] at h1
  rw [i_lt, nI_toInt hb] at h2
  have e1 : (0 : Int32).toInt = 0 := by decide
  rw [e1] at h1
  refine ⟨v.toInt.toNat, by omega, ?_⟩
  apply Int32.toInt_inj.mp
  rw [nI_toInt (by omega)]
  omega
theorem x_room {R S X : Nat} (hR : R ≤ 1000000) (hS : S ≤ 1000000) (hX : X ≤ 1000000) (h : ¬ nI R - nI S < nI X) : X + S ≤ R := by
  rw [i_lt, nI_toInt (by omega)] at h
  have e : (nI R - nI S).toInt = (R : Int) - S := pk_sub_toInt (by omega) (by omega)
  rw [e] at h
  omega
theorem x_clamp {v M : Int32} {N : Nat} (h1 : ¬ v < 0) (h2 : ¬ M < v) (hM : M.toInt + 1 = (N : Int)) : v = nI v.toNatClampNeg ∧ v.toNatClampNeg < N := by
  rw [i_lt] at h1 h2
  have e1 : (0 : Int32).toInt = 0 := by decide
  rw [e1] at h1
  have hr := v.toInt_lt
  have e : v.toNatClampNeg = v.toInt.toNat := rfl
  rw [e]
  refine ⟨?_, by omega⟩
  apply Int32.toInt_inj.mp
  rw [nI_toInt (by omega)]
  omega
/-- the number of a lot that stands -/
theorem x_lot {v : Int32} {n : Nat} (h : ¬ (v < 0 ∨ nI n ≤ v)) (hn : n ≤ 60) : v = nI v.toNatClampNeg ∧ v.toNatClampNeg < n := by
  have h1 : ¬ v < 0 := fun q => h (Or.inl q)
  have h2 : ¬ nI n ≤ v := fun q => h (Or.inr q)
  rw [i_lt] at h1
  rw [i_le, nI_toInt (by omega)] at h2
  have e1 : (0 : Int32).toInt = 0 := by decide
  rw [e1] at h1
  have e : v.toNatClampNeg = v.toInt.toNat := rfl
  rw [e]
  refine ⟨?_, by omega⟩
  apply Int32.toInt_inj.mp
  rw [nI_toInt (by omega)]
  omega
theorem x_tank {v : Int32} (h : ¬ (v < 0 ∨ 9 < v)) : v = nI v.toNatClampNeg ∧ v.toNatClampNeg < 10 := x_clamp (fun q => h (Or.inl q)) (fun q => h (Or.inr q)) (by decide)
/-- no vessel stands there; the vessel's number -/
def rowN (bc : Nat) (a1 a2 : Int32) : Prop := (a1 = 0 ∧ (a2 < 0 ∨ 9 < a2)) ∨ (¬ a1 = 0 ∧ (¬ a1 = 1 ∨ a2 < 0 ∨ nI bc ≤ a2))
def rowI (a1 a2 : Int32) : Nat := if a1 = 0 then a2.toNatClampNeg else 10 + a2.toNatClampNeg
/-- how many of the first n are above 0 -/
def lin (f : Nat → Int32) : Nat → Int32
  | 0 => 0
  | i + 1 => lin f i + (if 0 < f i then 1 else 0)
theorem lin_y {f : Nat → Int32} {i : Nat} (h : 0 < f i) : lin f (i + 1) = lin f i + 1 := by
  show lin f i + (if 0 < f i then 1 else 0) = _
  rw [if_pos h]
theorem lin_n {f : Nat → Int32} {i : Nat} (h : ¬ 0 < f i) : lin f (i + 1) = lin f i := by
  show lin f i + (if 0 < f i then 1 else 0) = _
  rw [if_neg h]; exact Int32.add_zero _
theorem lin_cg {f f' : Nat → Int32} : ∀ n : Nat, (∀ i : Nat, i < n → f i = f' i) → lin f n = lin f' n
  | 0, _ => rfl
  | n + 1, h => by
    show lin f n + (if 0 < f n then 1 else 0) = lin f' n + (if 0 < f' n then 1 else 0)
    rw [lin_cg n (fun i hi => h i (by omega)), h n (by omega)]
theorem lin_z {f : Nat → Int32} {n : Nat} : ∀ k : Nat, n ≤ k → (∀ i : Nat, n ≤ i → i < k → f i = 0) → lin f k = lin f n
  | 0, h, _ => by rw [show n = 0 by omega]
  | k + 1, h, hz => by
    rcases Nat.eq_or_lt_of_le h with e | e
    · rw [e]
    · rw [lin_n (by rw [hz k (by omega) (by omega)]; decide)]
      exact lin_z k (by omega) (fun i h1 h2 => hz i h1 (by omega))
/-- the batches in which lot L is found, of the first i: how many, and which -/
def trN (f : Nat → Int32) (L : Nat) : Nat → Nat
  | 0 => 0
  | i + 1 => if f (40 * (10 + i) + L) = 0 then trN f L i else trN f L i + 1
def trW (f : Nat → Int32) (L : Nat) (g : Nat → Int32) : Nat → Nat → Int32
  | 0 => g
  | i + 1 => if f (40 * (10 + i) + L) = 0 then trW f L g i else upd (trW f L g i) (trN f L i) (nI i)
section TRC
variable {f g g' : Nat → Int32} {L : Nat}
theorem trN_z {i : Nat} (h : f (40 * (10 + i) + L) = 0) : trN f L (i + 1) = trN f L i := if_pos h
theorem trN_y {i : Nat} (h : ¬ f (40 * (10 + i) + L) = 0) : trN f L (i + 1) = trN f L i + 1 := if_neg h
theorem trW_z {i : Nat} (h : f (40 * (10 + i) + L) = 0) : trW f L g (i + 1) = trW f L g i := if_pos h
theorem trW_y {i : Nat} (h : ¬ f (40 * (10 + i) + L) = 0) : trW f L g (i + 1) = upd (trW f L g i) (trN f L i) (nI i) := if_neg h
theorem trN_le : ∀ i : Nat, trN f L i ≤ i
  | 0 => Nat.le_refl _
  | i + 1 => by
    have := trN_le i
    by_cases h : f (40 * (10 + i) + L) = 0
    · rw [trN_z h]; omega
    · rw [trN_y h]; omega
theorem trW_cg : ∀ i j : Nat, j < trN f L i → trW f L g i j = trW f L g' i j
  | 0, j, h => absurd h (Nat.not_lt_zero _)
  | i + 1, j, h => by
    by_cases c : f (40 * (10 + i) + L) = 0
    · rw [trN_z c] at h
      rw [trW_z c, trW_z c]; exact trW_cg i j h
    · rw [trN_y c] at h
      rw [trW_y c, trW_y c]
      rcases Nat.decEq j (trN f L i) with e | e
      · rw [upd_n e, upd_n e]; exact trW_cg i j (by omega)
      · rw [e, upd_s, upd_s]
end TRC
def ofN (n : Nat) (a1 a2 : Int32) : Prop := (a1 < 0 ∨ nI n ≤ a1) ∨ (a2 < 0 ∨ 6 < a2)
def hldN (bc : Nat) (a1 a2 a3 : Int32) : Prop := rowN bc a1 a2 ∨ (a3 < 0 ∨ 4 < a3)
def hldV (fv : Nat → Nat → Int32) (a1 a2 a3 : Int32) : Int32 := if a3 = 0 then mall (fv 9) (rowI a1 a2) 40 else if a3 = 1 then lin (fun i => fv 9 (40 * rowI a1 a2 + i)) 40 else if a3 = 2 then fv 10 (rowI a1 a2) else if a3 = 3 then fv 11 (rowI a1 a2) else fv 12 (rowI a1 a2)
def prtN (bc n : Nat) (a1 a2 a3 : Int32) : Prop := rowN bc a1 a2 ∨ (a3 < 0 ∨ nI n ≤ a3)
theorem sw7 {x : Int32} (h0 : ¬ x = 0) (h1 : ¬ x = 1) (h2 : ¬ x = 2) (h3 : ¬ x = 3) (h4 : ¬ x = 4) (h5 : ¬ x = 5) (h6 : ¬ x = 6) : x < 0 ∨ 6 < x := by
  have n0 := lv_neT h0 (a := 0) (by decide)
  have n1 := lv_neT h1 (a := 1) (by decide)
  have n2 := lv_neT h2 (a := 2) (by decide)
  have n3 := lv_neT h3 (a := 3) (by decide)
  have n4 := lv_neT h4 (a := 4) (by decide)
  have n5 := lv_neT h5 (a := 5) (by decide)
  have n6 := lv_neT h6 (a := 6) (by decide)
  have e0 : (0 : Int32).toInt = 0 := by decide
  have e6 : (6 : Int32).toInt = 6 := by decide
  rw [i_lt, i_lt, e0, e6]
  omega
theorem sw5 {x : Int32} (h0 : ¬ x = 0) (h1 : ¬ x = 1) (h2 : ¬ x = 2) (h3 : ¬ x = 3) (h4 : ¬ x = 4) : x < 0 ∨ 4 < x := by
  have n0 := lv_neT h0 (a := 0) (by decide)
  have n1 := lv_neT h1 (a := 1) (by decide)
  have n2 := lv_neT h2 (a := 2) (by decide)
  have n3 := lv_neT h3 (a := 3) (by decide)
  have n4 := lv_neT h4 (a := 4) (by decide)
  have e0 : (0 : Int32).toInt = 0 := by decide
  have e4 : (4 : Int32).toInt = 4 := by decide
  rw [i_lt, i_lt, e0, e4]
  omega
def tnkN (fv : Nat → Nat → Int32) (a1 a2 a3 : Int32) : Prop := (a1 < 0 ∨ 9 < a1) ∨ (a2 < 0 ∨ 1000000 < a2) ∨ (a3 < 0 ∨ 10000 < a3) ∨ a2 < mall (fv 9) a1.toNatClampNeg 40
def tnkF (fv : Nat → Nat → Int32) (a1 a2 a3 : Int32) : Nat → Nat → Int32 := uF (uF fv 11 (upd (fv 11) a1.toNatClampNeg a2)) 12 (upd (fv 12) a1.toNatClampNeg a3)
def wrmN (fv : Nat → Nat → Int32) (a1 a2 : Int32) : Prop := (a1 < 0 ∨ 9 < a1) ∨ mall (fv 9) a1.toNatClampNeg 40 = 0 ∨ (a2 < 1 ∨ 1000 < a2)
def wrmF (fv : Nat → Nat → Int32) (a1 a2 : Int32) : Nat → Nat → Int32 := uF fv 10 (upd (fv 10) a1.toNatClampNeg (fv 10 a1.toNatClampNeg + a2))
def pouN (fv : Nat → Nat → Int32) (n : Nat) (a1 a2 a3 : Int32) : Prop := ((a1 < 0 ∨ nI n ≤ a1) ∨ (a2 < 0 ∨ 9 < a2)) ∨ (a3 < 1 ∨ fv 4 (7 * a1.toNatClampNeg + 5) < a3) ∨ fv 11 a2.toNatClampNeg - mall (fv 9) a2.toNatClampNeg 40 < a3
def pouF (fv : Nat → Nat → Int32) (a1 a2 a3 : Int32) : Nat → Nat → Int32 := uF (uF fv 4 (upd (fv 4) (7 * a1.toNatClampNeg + 5) (fv 4 (7 * a1.toNatClampNeg + 5) - a3))) 9 (upd (fv 9) (40 * a2.toNatClampNeg + a1.toNatClampNeg) (fv 9 (40 * a2.toNatClampNeg + a1.toNatClampNeg) + a3))
def spiN (fv : Nat → Nat → Int32) (a1 a2 : Int32) : Prop := (a1 < 0 ∨ 9 < a1) ∨ (a2 < 1 ∨ mall (fv 9) a1.toNatClampNeg 40 < a2)
/-- what is left in vessel t when x grams are drawn -/
def drA (f : Nat → Int32) (t : Nat) (x : Int32) : Int32 := mall (drF f t x) t 40
def spiF (fv : Nat → Nat → Int32) (a1 a2 : Int32) : Nat → Nat → Int32 := uF (uF fv 9 (drF (fv 9) a1.toNatClampNeg a2)) 10 (upd (fv 10) a1.toNatClampNeg (if drA (fv 9) a1.toNatClampNeg a2 = 0 then 0 else fv 10 a1.toNatClampNeg))
def movN (fv : Nat → Nat → Int32) (a1 a2 a3 : Int32) : Prop := ((a1 < 0 ∨ 9 < a1) ∨ (a2 < 0 ∨ 9 < a2) ∨ a1 = a2) ∨ (a3 < 1 ∨ mall (fv 9) a1.toNatClampNeg 40 < a3) ∨ fv 11 a2.toNatClampNeg - mall (fv 9) a2.toNatClampNeg 40 < a3
def movH (f9 f10 : Nat → Int32) (a b : Nat) (x : Int32) : Nat → Int32 := upd (upd f10 b (if mall f9 b 40 = 0 then f10 a else if f10 b < f10 a then f10 a else f10 b)) a (if drA f9 a x = 0 then 0 else f10 a)
def movF (fv : Nat → Nat → Int32) (a1 a2 a3 : Int32) : Nat → Nat → Int32 := uF (uF fv 9 (rwA (drF (fv 9) a1.toNatClampNeg a3) a2.toNatClampNeg (drW (fv 9) a1.toNatClampNeg a3))) 10 (movH (fv 9) (fv 10) a1.toNatClampNeg a2.toNatClampNeg a3)
def jarN (fv : Nat → Nat → Int32) (bc : Nat) (a1 a2 : Int32) : Prop := (a1 < 0 ∨ 9 < a1) ∨ (a2 < 1 ∨ mall (fv 9) a1.toNatClampNeg 40 < a2) ∨ bc = 60
def jarF (fv : Nat → Nat → Int32) (bc : Nat) (dn a1 a2 : Int32) : Nat → Nat → Int32 := uF (uF (uF (uF fv 9 (rwI (drF (fv 9) a1.toNatClampNeg a2) (10 + bc) (drW (fv 9) a1.toNatClampNeg a2))) 10 (upd (upd (fv 10) (10 + bc) (fv 10 a1.toNatClampNeg)) a1.toNatClampNeg (if drA (fv 9) a1.toNatClampNeg a2 = 0 then 0 else fv 10 a1.toNatClampNeg))) 11 (upd (fv 11) (10 + bc) a1)) 12 (upd (fv 12) (10 + bc) dn)
section NVS
variable {fv fv' : Nat → Nat → Int32} {n : Nat}
/-- what a draw from tank t is, by numbers -/
theorem nv_draw (h : NV fv n) (hn : n ≤ 40) {t : Nat} {x : Int32} (ht : t < 70) (h1 : ¬ x < 1) (h2 : ¬ mall (fv 9) t 40 < x) : ∃ (G u : Nat → Nat) (X S L : Nat), x = nI X ∧ 1 ≤ X ∧ X ≤ S ∧ S ≤ 1000000 ∧ (∀ i : Nat, i < 40 → fv 9 (40 * t + i) = nI (G i)) ∧ sN G 40 = S ∧ (∀ i : Nat, n ≤ i → G i = 0) ∧ mall (fv 9) t 40 = nI S ∧ mall (fv 9) t n = nI S ∧ 0 < n ∧ lak x (drT (fv 9) t) (fun i => fv 9 (40 * t + i)) 40 = nI L ∧ L ≤ 40 ∧ (∀ i : Nat, i < 40 → drW (fv 9) t x i = nI (u i)) ∧ (∀ i : Nat, i < 40 → u i ≤ G i) ∧ (∀ i : Nat, n ≤ i → i < 40 → u i = 0) ∧ sN u 40 = X ∧ lak x (drT (fv 9) t) (fun i => fv 9 (40 * t + i)) n = nI L ∧ (∀ i : Nat, i < n → (rnd n (fun i => shD x (drT (fv 9) t) (fv 9 (40 * t + i))) (fun i => shR x (drT (fv 9) t) (fv 9 (40 * t + i))) L).1 i = drW (fv 9) t x i) := by
  obtain ⟨G, hG, hS, hz⟩ := h.1 t ht
  have hm := mall_n hG 40 (Nat.le_refl _)
  rw [hm] at h2
  obtain ⟨X, hx, hX, rfl⟩ := x_nat h1 h2 (by omega)
  obtain ⟨m1, m2, m3, L, u, l1, l2, l3, l4, l5, l6, l7, l8⟩ := dr_all hG hz hn rfl hS hx hX
  exact ⟨G, u, X, _, L, rfl, hx, hX, hS, hG, rfl, hz, m1, m2, m3, l1, l2, l3, l4, l5, l6, l7, l8⟩
/-- behind the draw: the numbers of vessel t -/
theorem nv_drF (h : NV fv n) (hn : n ≤ 40) {t : Nat} {x : Int32} (ht : t < 70) (h1 : ¬ x < 1) (h2 : ¬ mall (fv 9) t 40 < x) : ∃ H : Nat → Nat, (∀ i : Nat, i < 40 → drF (fv 9) t x (40 * t + i) = nI (H i)) ∧ sN H 40 ≤ 1000000 ∧ ∀ i : Nat, n ≤ i → H i = 0 := by
  obtain ⟨G, u, X, S, L, rfl, hx, hX, hS, hG, hs, hz, -, -, -, -, -, hu, hle, -⟩ := nv_draw h hn ht h1 h2
  refine ⟨fun i => G i - u i, drF_G hG hu hle, ?_, fun i hi => ?_⟩
  · have := sN_sub 40 hle; omega
  · show G i - u i = 0
    rw [hz i hi]; omega
theorem nv_drW (h : NV fv n) (hn : n ≤ 40) {t : Nat} {x : Int32} (ht : t < 70) (h1 : ¬ x < 1) (h2 : ¬ mall (fv 9) t 40 < x) : ∃ (u : Nat → Nat) (X : Nat), x = nI X ∧ X ≤ 1000000 ∧ (∀ i : Nat, i < 40 → drW (fv 9) t x i = nI (u i)) ∧ sN u 40 = X ∧ ∀ i : Nat, n ≤ i → u i = 0 := by
  obtain ⟨G, u, X, S, L, e, hx, hX, hS, hG, hs, hz, -, -, -, -, -, hu, hle, hz2, hsu, -⟩ := nv_draw h hn ht h1 h2
  refine ⟨fun i => if i < 40 then u i else 0, X, e, by omega, fun i hi => ?_, ?_, fun i hi => ?_⟩
  · show _ = nI (if i < 40 then u i else 0)
    rw [if_pos hi]; exact hu i hi
  · rw [← hsu]
    exact sN_cg 40 (fun i hi => if_pos hi)
  · show (if i < 40 then u i else 0) = 0
    split
    · next q => exact hz2 i hi q
    · rfl
theorem nv_tank (h : NV fv n) {a1 a2 a3 : Int32} (hN : ¬ tnkN fv a1 a2 a3) : NV (tnkF fv a1 a2 a3) n := by
  obtain ⟨h1, h2, h3⟩ := h
  refine ⟨h1, fun r hr => ?_, h3⟩
  show ∃ R : Nat, R ≤ 1000000 ∧ upd (fv 11) a1.toNatClampNeg a2 r = nI R
  rcases Nat.decEq r a1.toNatClampNeg with q | q
  · rw [upd_n q]; exact h2 r hr
  · rw [q, upd_s]
    obtain ⟨X, hX, e⟩ := x_nat0 (v := a2) (b := 1000000) (M := 1000000) (fun z => hN (Or.inr (Or.inl (Or.inl z)))) (fun z => hN (Or.inr (Or.inl (Or.inr z)))) (by decide) (by omega)
    exact ⟨X, hX, e⟩
theorem nv_warm (h : NV fv n) {a1 a2 : Int32} : NV (wrmF fv a1 a2) n := h
theorem nv_pour (h : NV fv n) (hn : n ≤ 40) {a1 a2 a3 : Int32} (hN : ¬ pouN fv n a1 a2 a3) : NV (pouF fv a1 a2 a3) n := by
  obtain ⟨e1, l1⟩ := x_lot (v := a1) (fun z => hN (Or.inl (Or.inl z))) (by omega)
  obtain ⟨e2, l2⟩ := x_tank (v := a2) (fun z => hN (Or.inl (Or.inr z)))
  have c1 : ¬ a3 < 1 := fun z => hN (Or.inr (Or.inl (Or.inl z)))
  have c2 : ¬ fv 4 (7 * a1.toNatClampNeg + 5) < a3 := fun z => hN (Or.inr (Or.inl (Or.inr z)))
  have c3 : ¬ fv 11 a2.toNatClampNeg - mall (fv 9) a2.toNatClampNeg 40 < a3 := fun z => hN (Or.inr (Or.inr z))
  generalize a1.toNatClampNeg = J at l1 c2 e1
  generalize a2.toNatClampNeg = T at l2 c3 e2
  obtain ⟨h1, h2, h3⟩ := h
  obtain ⟨a, b, ha, hb, ea, eb⟩ := h3 J l1
  obtain ⟨R, hR, eR⟩ := h2 T l2
  obtain ⟨G, hG, hS, hz⟩ := h1 T (by omega)
  rw [eb] at c2
  obtain ⟨X, hx, hX, rfl⟩ := x_nat c1 c2 (by omega)
  rw [eR, mall_n hG 40 (Nat.le_refl _)] at c3
  have hr := x_room hR hS (by omega) c3
  refine ⟨fun r hr => ?_, h2, fun j hj => ?_⟩
  · show ∃ G' : Nat → Nat, (∀ i : Nat, i < 40 → pouF fv a1 a2 (nI X) 9 (40 * r + i) = nI (G' i)) ∧ _
    have eP : pouF fv a1 a2 (nI X) 9 = upd (fv 9) (40 * T + J) (fv 9 (40 * T + J) + nI X) := by
      show upd (fv 9) (40 * a2.toNatClampNeg + a1.toNatClampNeg) _ = _
      rw [e1, e2, nI_clamp (n := J) (by omega), nI_clamp (n := T) (by omega)]
    rw [eP]
    rcases Nat.decEq r T with q | q
    · obtain ⟨G2, hG2, hS2, hz2⟩ := h1 r hr
      exact ⟨G2, fun i hi => by rw [upd_n (by omega)]; exact hG2 i hi, hS2, hz2⟩
    · subst q
      refine ⟨fun i => G i + (if i = J then X else 0), fun i hi => ?_, ?_, fun i hi => ?_⟩
      · show upd (fv 9) (40 * r + J) (fv 9 (40 * r + J) + nI X) (40 * r + i) = nI (G i + (if i = J then X else 0))
        rcases Nat.decEq i J with z | z
        · rw [upd_n (by omega), if_neg z]; exact hG i hi
        · rw [z, upd_s, if_pos rfl, hG J (by omega), nI_add]
      · have e3 : ∀ k : Nat, sN (fun i => if i = J then X else 0) k = if J < k then X else 0 := fun k => by
          induction k with
          | zero => rw [if_neg (by omega)]; rfl
          | succ k ih =>
            show sN (fun i => if i = J then X else 0) k + (if k = J then X else 0) = _
            rw [ih]
            rcases Nat.lt_or_ge J k with w | w
            · rw [if_pos w, if_neg (by omega), if_pos (by omega)]; omega
            · rcases Nat.eq_or_lt_of_le w with y | y
              · rw [if_neg (by omega), if_pos y, if_pos (by omega)]; omega
              · rw [if_neg (by omega), if_neg (by omega), if_neg (by omega)]
        rw [sN_add, e3, if_pos (by omega)]; omega
      · show G i + (if i = J then X else 0) = 0
        rw [hz i hi, if_neg (by omega)]
  · have eP : pouF fv a1 a2 (nI X) 4 = upd (fv 4) (7 * J + 5) (fv 4 (7 * J + 5) - nI X) := by
      show upd (fv 4) (7 * a1.toNatClampNeg + 5) _ = _
      rw [e1, nI_clamp (n := J) (by omega)]
    rw [eP, upd_n (by omega)]
    rcases Nat.decEq j J with q | q
    · rw [upd_n (by omega)]; exact h3 j hj
    · subst q
      rw [upd_s, eb, pk_sub (by omega)]
      exact ⟨a, b - X, ha, by omega, ea, rfl⟩
theorem nv_spill (h : NV fv n) (hn : n ≤ 40) {a1 a2 : Int32} (hN : ¬ spiN fv a1 a2) : NV (spiF fv a1 a2) n := by
  obtain ⟨e1, l1⟩ := x_tank (v := a1) (fun z => hN (Or.inl z))
  have hd := nv_drF h hn (t := a1.toNatClampNeg) (x := a2) (by omega) (fun z => hN (Or.inr (Or.inl z))) (fun z => hN (Or.inr (Or.inr z)))
  obtain ⟨h1, h2, h3⟩ := h
  refine ⟨fun r hr => ?_, h2, h3⟩
  show ∃ G' : Nat → Nat, (∀ i : Nat, i < 40 → drF (fv 9) a1.toNatClampNeg a2 (40 * r + i) = nI (G' i)) ∧ _
  rcases Nat.decEq r a1.toNatClampNeg with q | q
  · obtain ⟨G2, hG2, hS2, hz2⟩ := h1 r hr
    exact ⟨G2, fun i hi => by rw [drF, rwS_out hi q]; exact hG2 i hi, hS2, hz2⟩
  · rw [q]; exact hd
theorem nv_move (h : NV fv n) (hn : n ≤ 40) {a1 a2 a3 : Int32} (hN : ¬ movN fv a1 a2 a3) : NV (movF fv a1 a2 a3) n := by
  obtain ⟨e1, l1⟩ := x_tank (v := a1) (fun z => hN (Or.inl (Or.inl z)))
  obtain ⟨e2, l2⟩ := x_tank (v := a2) (fun z => hN (Or.inl (Or.inr (Or.inl z))))
  have hne : a1.toNatClampNeg ≠ a2.toNatClampNeg := fun z => hN (Or.inl (Or.inr (Or.inr (by rw [e1, e2, z]))))
  have c1 : ¬ a3 < 1 := fun z => hN (Or.inr (Or.inl (Or.inl z)))
  have c2 : ¬ mall (fv 9) a1.toNatClampNeg 40 < a3 := fun z => hN (Or.inr (Or.inl (Or.inr z)))
  have c3 : ¬ fv 11 a2.toNatClampNeg - mall (fv 9) a2.toNatClampNeg 40 < a3 := fun z => hN (Or.inr (Or.inr z))
  have hd := nv_drF h hn (t := a1.toNatClampNeg) (x := a3) (by omega) c1 c2
  obtain ⟨u, X, eX, hX, hu, hsu, hzu⟩ := nv_drW h hn (t := a1.toNatClampNeg) (x := a3) (by omega) c1 c2
  obtain ⟨h1, h2, h3⟩ := h
  refine ⟨fun r hr => ?_, h2, h3⟩
  show ∃ G' : Nat → Nat, (∀ i : Nat, i < 40 → rwA (drF (fv 9) a1.toNatClampNeg a3) a2.toNatClampNeg (drW (fv 9) a1.toNatClampNeg a3) (40 * r + i) = nI (G' i)) ∧ _
  generalize a1.toNatClampNeg = A at *
  generalize a2.toNatClampNeg = B at *
  rcases Nat.decEq r B with q | q
  · rcases Nat.decEq r A with q2 | q2
    · obtain ⟨G2, hG2, hS2, hz2⟩ := h1 r hr
      exact ⟨G2, fun i hi => by rw [rwA_out hi q, drF, rwS_out hi q2]; exact hG2 i hi, hS2, hz2⟩
    · subst q2
      obtain ⟨H, hH, hS2, hz2⟩ := hd
      exact ⟨H, fun i hi => by rw [rwA_out hi q]; exact hH i hi, hS2, hz2⟩
  · subst q
    obtain ⟨R, hR, eR⟩ := h2 r l2
    obtain ⟨G, hG, hS, hz⟩ := h1 r hr
    rw [eR, mall_n hG 40 (Nat.le_refl _), eX] at c3
    have hr := x_room hR hS hX c3
    refine ⟨fun i => G i + u i, fun i hi => ?_, ?_, fun i hi => ?_⟩
    · rw [rwA_in hi, drF, rwS_out hi (fun z => hne z.symm), hG i hi, hu i hi, nI_add]
    · rw [sN_add, hsu]; omega
    · show G i + u i = 0
      rw [hz i hi, hzu i hi]
theorem nv_jar (h : NV fv n) (hn : n ≤ 40) {bc : Nat} {dn a1 a2 : Int32} (hb : bc ≤ 60) (hN : ¬ jarN fv bc a1 a2) : NV (jarF fv bc dn a1 a2) n := by
  obtain ⟨e1, l1⟩ := x_tank (v := a1) (fun z => hN (Or.inl z))
  have c1 : ¬ a2 < 1 := fun z => hN (Or.inr (Or.inl (Or.inl z)))
  have c2 : ¬ mall (fv 9) a1.toNatClampNeg 40 < a2 := fun z => hN (Or.inr (Or.inl (Or.inr z)))
  have hd := nv_drF h hn (t := a1.toNatClampNeg) (x := a2) (by omega) c1 c2
  obtain ⟨u, X, eX, hX, hu, hsu, hzu⟩ := nv_drW h hn (t := a1.toNatClampNeg) (x := a2) (by omega) c1 c2
  obtain ⟨h1, h2, h3⟩ := h
  refine ⟨fun r hr => ?_, fun r hr => ?_, h3⟩
  · show ∃ G' : Nat → Nat, (∀ i : Nat, i < 40 → rwI (drF (fv 9) a1.toNatClampNeg a2) (10 + bc) (drW (fv 9) a1.toNatClampNeg a2) (40 * r + i) = nI (G' i)) ∧ _
    generalize a1.toNatClampNeg = A at *
    rcases Nat.decEq r (10 + bc) with q | q
    · rcases Nat.decEq r A with q2 | q2
      · obtain ⟨G2, hG2, hS2, hz2⟩ := h1 r hr
        exact ⟨G2, fun i hi => by rw [rwI_out hi q, drF, rwS_out hi q2]; exact hG2 i hi, hS2, hz2⟩
      · subst q2
        obtain ⟨H, hH, hS2, hz2⟩ := hd
        exact ⟨H, fun i hi => by rw [rwI_out hi q]; exact hH i hi, hS2, hz2⟩
    · rw [q]
      exact ⟨u, fun i hi => by rw [rwI_in hi]; exact hu i hi, by omega, hzu⟩
  · show ∃ R : Nat, R ≤ 1000000 ∧ upd (fv 11) (10 + bc) a1 r = nI R
    rw [upd_n (by omega)]; exact h2 r hr
theorem nv_lot (h : NV fv n) {a1 a2 a3 a4 a5 : Int32} (h1 : ¬ a2 < 1) (h2 : ¬ 200000 < a2) (R : lotR fv fv' n a1 a2 a3 a4 a5) (e9 : fv' 9 = fv 9) (e11 : fv' 11 = fv 11) : NV fv' (n + 1) := by
  obtain ⟨g1, g2, g3⟩ := h
  obtain ⟨R4, -, -, -, -, -, z1, -, -, -, z5, -⟩ := R
  refine ⟨fun r hr => ?_, fun r hr => by rw [e11]; exact g2 r hr, fun j hj => ?_⟩
  · obtain ⟨G, hG, hS, hz⟩ := g1 r hr
    exact ⟨G, fun i hi => by rw [e9]; exact hG i hi, hS, fun i hi => hz i (by omega)⟩
  · rcases Nat.lt_or_ge j n with q | q
    · rw [R4 _ (by omega), R4 _ (by omega)]; exact g3 j q
    · rw [show j = n by omega, z1, z5]
      obtain ⟨X, -, hX, e⟩ := x_nat (v := a2) (b := 200000) h1 h2 (by omega)
      exact ⟨X, X, hX, hX, e, e⟩
theorem nv_zero (V : NV fv n) {r L : Nat} (hr : r < 70) (hL : L < 40) : (fv 9 (40 * r + L) ≤ 0 → fv 9 (40 * r + L) = 0) ∧ (¬ fv 9 (40 * r + L) ≤ 0 → ¬ fv 9 (40 * r + L) = 0) := by
  obtain ⟨G, hG, hS, -⟩ := V.1 r hr
  have h1 := sN_le (G := G) hL
  rw [hG L hL]
  refine ⟨fun h => ?_, fun h e => h (by rw [e]; decide)⟩
  have h2 : nI (G L) ≤ nI 0 := h
  rw [nI_leI (by omega) (by omega)] at h2
  rw [show G L = 0 by omega, nI_0]
/-- behind the draw the sum over the lots is the sum of the row -/
theorem nv_drA (h : NV fv n) (hn : n ≤ 40) {t : Nat} {x : Int32} (ht : t < 70) (h1 : ¬ x < 1) (h2 : ¬ mall (fv 9) t 40 < x) : mall (drF (fv 9) t x) t n = drA (fv 9) t x := by
  obtain ⟨H, hH, -, hz⟩ := nv_drF h hn ht h1 h2
  rw [drA, mall_n hH n hn, mall_n hH 40 (Nat.le_refl _), sN_z hz 40 hn]
theorem nv_z (h : NV fv n) : ∀ r i : Nat, r < 70 → n ≤ i → i < 40 → fv 9 (40 * r + i) = 0 := fun r i hr hi h4 => by
  obtain ⟨G, hG, -, hz⟩ := h.1 r hr
  rw [hG i h4, hz i hi, nI_0]
theorem nv_new : NV (fun _ _ => 0) 0 := ⟨fun r hr => ⟨fun _ => 0, fun i hi => nI_0.symm, by rw [sN_0]; omega, fun _ _ => rfl⟩, fun r hr => ⟨0, by omega, nI_0.symm⟩, fun j hj => absurd hj (Nat.not_lt_zero _)⟩
end NVS
