/-! what the calls answer and leave, as plain functions of the reference's rows: the same words on both sides -/
def uF (fv : Nat → Nat → Int32) (k : Nat) (f : Nat → Int32) : Nat → Nat → Int32 := fun j => if j = k then f else fv j
theorem uF_id (fv : Nat → Nat → Int32) (k : Nat) : uF fv k (fv k) = fv := by
  funext j
  show (if j = k then fv k else fv j) = fv j
  split
  · next h => rw [h]
  · rfl
theorem upd_s (f : Nat → Int32) (k : Nat) (x : Int32) : upd f k x k = x := if_pos rfl
theorem upd_n {f : Nat → Int32} {k j : Nat} {x : Int32} (h : j ≠ k) : upd f k x j = f j := if_neg h
/-- what is paid for g grams of water x by steps (w, p) -/
def payF (w p : Nat → Int32) (g x : Int32) : Int32 := if w 0 < x then (if w 1 < x then (if w 2 < x then (if w 3 < x then 0 else (g.toInt64 * (p 3).toInt64 / 1000).toInt32) else (g.toInt64 * (p 2).toInt64 / 1000).toInt32) else (g.toInt64 * (p 1).toInt64 / 1000).toInt32) else (g.toInt64 * (p 0).toInt64 / 1000).toInt32
section PAY
variable {w p w' p' : Nat → Int32} {g x : Int32}
theorem payF_0 (h0 : ¬ w 0 < x) : payF w p g x = (g.toInt64 * (p 0).toInt64 / 1000).toInt32 := by rw [payF, if_neg h0]
theorem payF_1 (h0 : w 0 < x) (h1 : ¬ w 1 < x) : payF w p g x = (g.toInt64 * (p 1).toInt64 / 1000).toInt32 := by rw [payF, if_pos h0, if_neg h1]
theorem payF_2 (h0 : w 0 < x) (h1 : w 1 < x) (h2 : ¬ w 2 < x) : payF w p g x = (g.toInt64 * (p 2).toInt64 / 1000).toInt32 := by rw [payF, if_pos h0, if_pos h1, if_neg h2]
theorem payF_3 (h0 : w 0 < x) (h1 : w 1 < x) (h2 : w 2 < x) (h3 : ¬ w 3 < x) : payF w p g x = (g.toInt64 * (p 3).toInt64 / 1000).toInt32 := by rw [payF, if_pos h0, if_pos h1, if_pos h2, if_neg h3]
theorem payF_4 (h0 : w 0 < x) (h1 : w 1 < x) (h2 : w 2 < x) (h3 : w 3 < x) : payF w p g x = 0 := by rw [payF, if_pos h0, if_pos h1, if_pos h2, if_pos h3]
theorem payF_congr (hw : ∀ i : Nat, i < 4 → w i = w' i) (hp : ∀ i : Nat, i < 4 → p i = p' i) : payF w p g x = payF w' p' g x := by
  unfold payF
  rw [hw 0 (by omega), hw 1 (by omega), hw 2 (by omega), hw 3 (by omega), hp 0 (by omega), hp 1 (by omega), hp 2 (by omega), hp 3 (by omega)]
end PAY
/-- a row's sum with x instead of what stands at K: the class' way, and the reference's -/
def sU (f : Nat → Int32) (K x : Int32) : Nat → Int32
  | 0 => 0
  | i + 1 => sU f K x i + (if nI i = K then x else f i)
def sM (f : Nat → Int32) (K x : Int32) : Nat → Int32
  | 0 => x
  | i + 1 => sM f K x i + (if nI i = K then 0 else f i)
theorem sU_congr {f f' : Nat → Int32} {K x : Int32} : ∀ n : Nat, (∀ i : Nat, i < n → f i = f' i) → sU f K x n = sU f' K x n
  | 0, _ => rfl
  | n + 1, h => by
    show sU f K x n + _ = sU f' K x n + _
    rw [sU_congr n (fun i hi => h i (by omega)), h n (by omega)]
theorem five {K : Int32} (h0 : ¬ K < 0) (h4 : ¬ 4 < K) : K = 0 ∨ K = 1 ∨ K = 2 ∨ K = 3 ∨ K = 4 := by
  rw [i_lt] at h0 h4
  have e0 : (0 : Int32).toInt = 0 := by decide
  have e1 : (1 : Int32).toInt = 1 := by decide
  have e2 : (2 : Int32).toInt = 2 := by decide
  have e3 : (3 : Int32).toInt = 3 := by decide
  have e4 : (4 : Int32).toInt = 4 := by decide
  rw [e0] at h0; rw [e4] at h4
  rcases (show K.toInt = 0 ∨ K.toInt = 1 ∨ K.toInt = 2 ∨ K.toInt = 3 ∨ K.toInt = 4 by omega) with h | h | h | h | h
  · exact Or.inl (Int32.toInt_inj.mp (by rw [h, e0]))
  · exact Or.inr (Or.inl (Int32.toInt_inj.mp (by rw [h, e1])))
  · exact Or.inr (Or.inr (Or.inl (Int32.toInt_inj.mp (by rw [h, e2]))))
  · exact Or.inr (Or.inr (Or.inr (Or.inl (Int32.toInt_inj.mp (by rw [h, e3])))))
  · exact Or.inr (Or.inr (Or.inr (Or.inr (Int32.toInt_inj.mp (by rw [h, e4])))))
theorem sM_sU {f : Nat → Int32} {K x : Int32} (h0 : ¬ K < 0) (h4 : ¬ 4 < K) : sM f K x 5 = sU f K x 5 := by
  show ((((x + (if nI 0 = K then 0 else f 0)) + (if nI 1 = K then 0 else f 1)) + (if nI 2 = K then 0 else f 2)) + (if nI 3 = K then 0 else f 3)) + (if nI 4 = K then 0 else f 4) = ((((0 + (if nI 0 = K then x else f 0)) + (if nI 1 = K then x else f 1)) + (if nI 2 = K then x else f 2)) + (if nI 3 = K then x else f 3)) + (if nI 4 = K then x else f 4)
  rcases five h0 h4 with rfl | rfl | rfl | rfl | rfl
  · rw [if_pos (by decide), if_neg (by decide), if_neg (by decide), if_neg (by decide), if_neg (by decide), if_pos (by decide), if_neg (by decide), if_neg (by decide), if_neg (by decide), if_neg (by decide)]
    simp only [Int32.add_zero, Int32.zero_add]
  · rw [if_neg (by decide), if_pos (by decide), if_neg (by decide), if_neg (by decide), if_neg (by decide), if_neg (by decide), if_pos (by decide), if_neg (by decide), if_neg (by decide), if_neg (by decide)]
    simp only [Int32.add_zero, Int32.zero_add]
    ac_rfl
  · rw [if_neg (by decide), if_neg (by decide), if_pos (by decide), if_neg (by decide), if_neg (by decide), if_neg (by decide), if_neg (by decide), if_pos (by decide), if_neg (by decide), if_neg (by decide)]
    simp only [Int32.add_zero, Int32.zero_add]
    ac_rfl
  · rw [if_neg (by decide), if_neg (by decide), if_neg (by decide), if_pos (by decide), if_neg (by decide), if_neg (by decide), if_neg (by decide), if_neg (by decide), if_pos (by decide), if_neg (by decide)]
    simp only [Int32.add_zero, Int32.zero_add]
    ac_rfl
  · rw [if_neg (by decide), if_neg (by decide), if_neg (by decide), if_neg (by decide), if_pos (by decide), if_neg (by decide), if_neg (by decide), if_neg (by decide), if_neg (by decide), if_pos (by decide)]
    simp only [Int32.add_zero, Int32.zero_add]
    ac_rfl
/-- pollen is refused -/
def polN (f5 f6 : Nat → Int32) (n : Nat) (a1 a2 a3 a4 : Int32) : Prop := (a1 < 0 ∨ nI n ≤ a1) ∨ (a2 < 0 ∨ 4 < a2) ∨ a3 < 0 ∨ 1000 < a4 ∨ a4 < a3 ∨ 1000 < sU (fun i => f5 (5 * a1.toNatClampNeg + i)) a2 a3 5 ∨ sU (fun i => f6 (5 * a1.toNatClampNeg + i)) a2 a4 5 < 1000
/-- a test is refused -/
def tesN (n : Nat) (a1 a2 : Int32) : Prop := (a1 < 0 ∨ nI n ≤ a1) ∨ (a2 < 100 ∨ 300 < a2)
/-- the pay of lot j for water x -/
def payL (f4 f7 : Nat → Int32) (j : Nat) (x : Int32) : Int32 := payF (fun k => f7 (8 * j + 2 * k)) (fun k => f7 (8 * j + 2 * k + 1)) (f4 (7 * j + 1)) x
def tesF (f4 f7 : Nat → Int32) (j : Nat) (x : Int32) : Nat → Int32 := upd (upd f4 (7 * j + 2) x) (7 * j + 6) (payL f4 f7 j x)
def stpN (a1 a2 a3 : Int32) : Prop := (a1 < 0 ∨ 3 < a1) ∨ (a2 < 0 ∨ 300 < a2) ∨ (a3 < 0 ∨ 100000 < a3)
def stpF (f8 : Nat → Int32) (j : Nat) (a2 a3 : Int32) : Nat → Int32 := upd (upd f8 (2 * j) a2) (2 * j + 1) a3
def spnN (n : Nat) (a1 a2 a3 : Int32) : Prop := (a1 < 0 ∨ nI n ≤ a1) ∨ (a2 < 0 ∨ 4 < a2) ∨ (a3 < 0 ∨ 1 < a3)
/-- what keeper a is paid, of the first i lots -/
def pdS (f4 : Nat → Int32) (a : Int32) : Nat → Int64
  | 0 => 0
  | i + 1 => pdS f4 a i + (if f4 (7 * i) = a then f4 (7 * i + 6) else 0).toInt64
/-- a new lot: fv2 are the reference's rows behind it -/
def lotR (fv fv2 : Nat → Nat → Int32) (n : Nat) (a1 a2 a3 a4 a5 : Int32) : Prop :=
  (∀ i : Nat, i < 7 * n → fv2 4 i = fv 4 i) ∧ (∀ i : Nat, i < 5 * n → fv2 5 i = fv 5 i) ∧ (∀ i : Nat, i < 5 * n → fv2 6 i = fv 6 i) ∧ (∀ i : Nat, i < 8 * n → fv2 7 i = fv 7 i) ∧ fv2 8 = fv 8 ∧
  fv2 4 (7 * n) = a1 ∧ fv2 4 (7 * n + 1) = a2 ∧ fv2 4 (7 * n + 2) = a3 ∧ fv2 4 (7 * n + 3) = a4 ∧ fv2 4 (7 * n + 4) = a5 ∧ fv2 4 (7 * n + 5) = a2 ∧ fv2 4 (7 * n + 6) = payF (fun k => fv 8 (2 * k)) (fun k => fv 8 (2 * k + 1)) a2 a3 ∧
  (∀ i : Nat, i < 5 → fv2 5 (5 * n + i) = 0) ∧ (∀ i : Nat, i < 5 → fv2 6 (5 * n + i) = 1000) ∧ (∀ i : Nat, i < 8 → fv2 7 (8 * n + i) = fv 8 i) ∧
  fv2 9 = fv 9 ∧ fv2 10 = fv 10 ∧ fv2 11 = fv 11 ∧ fv2 12 = fv 12 ∧ fv2 42 = fv 42
theorem lg_cmp_self (x : Int64) : lg_cmp x x = 0 := by
  unfold lg_cmp
  split
  · next h => exact absurd (Int64.lt_iff_toInt_lt.mp h) (Int.lt_irrefl _)
  · exact if_pos rfl
