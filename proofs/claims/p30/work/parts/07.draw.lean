/-! THE DRAW, as plain functions: each lot's share, what is lacking, and the greatest rests that make it up -/
/-- what a vessel holds: the sum over the lots -/
def mall (f : Nat → Int32) (t : Nat) : Nat → Int32
  | 0 => 0
  | i + 1 => mall f t i + f (40 * t + i)
def shD (x : Int32) (T : Int64) (g : Int32) : Int32 := (x.toInt64 * g.toInt64 / T).toInt32
def shR (x : Int32) (T : Int64) (g : Int32) : Int64 := x.toInt64 * g.toInt64 - x.toInt64 * g.toInt64 / T * T
def lak (x : Int32) (T : Int64) (f : Nat → Int32) : Nat → Int32
  | 0 => x
  | i + 1 => lak x T f i - shD x T (f i)
def bst (q : Nat → Int64) : Nat → Nat
  | 0 => 0
  | i + 1 => if q (bst q i) < q i then i else bst q i
def rnd (m : Nat) (d : Nat → Int32) (q : Nat → Int64) : Nat → (Nat → Int32) × (Nat → Int64)
  | 0 => (d, q)
  | t + 1 => (upd (rnd m d q t).1 (bst (rnd m d q t).2 m) ((rnd m d q t).1 (bst (rnd m d q t).2 m) + 1), vp_updL (rnd m d q t).2 (bst (rnd m d q t).2 m) (-1))
theorem l_lt (a b : Int64) : a < b ↔ a.toInt < b.toInt := Int64.lt_iff_toInt_lt
theorem l_le (a b : Int64) : a ≤ b ↔ a.toInt ≤ b.toInt := Int64.le_iff_toInt_le
theorem bst_s (q : Nat → Int64) (n : Nat) : bst q (n + 1) = if q (bst q n) < q n then n else bst q n := rfl
theorem bst_lt (q : Nat → Int64) : ∀ n : Nat, 0 < n → bst q n < n
  | 0, h => absurd h (Nat.lt_irrefl _)
  | 1, _ => by
    rw [bst_s]
    split
    · exact Nat.zero_lt_one
    · exact Nat.zero_lt_one
  | n + 2, _ => by
    have ih := bst_lt q (n + 1) (Nat.succ_pos _)
    rw [bst_s]
    split
    · exact Nat.lt_succ_self _
    · omega
theorem bst_max (q : Nat → Int64) : ∀ n i : Nat, i < n → (q i).toInt ≤ (q (bst q n)).toInt
  | 0, i, h => absurd h (Nat.not_lt_zero _)
  | n + 1, i, h => by
    have ih := bst_max q n
    rw [bst_s]
    split
    · next c =>
      rw [l_lt] at c
      rcases Nat.lt_or_ge i n with g | g
      · have := ih i g; omega
      · rw [show i = n by omega]; exact Int.le_refl _
    · next c =>
      rw [l_lt] at c
      rcases Nat.lt_or_ge i n with g | g
      · exact ih i g
      · rw [show i = n by omega]; omega
theorem bst_congr {q q' : Nat → Int64} : ∀ n : Nat, (∀ i : Nat, i < n → q i = q' i) → bst q n = bst q' n
  | 0, _ => rfl
  | n + 1, h => by
    have ih := bst_congr n (fun i hi => h i (by omega))
    rw [bst_s, bst_s, ih, h n (by omega)]
    rcases Nat.eq_zero_or_pos n with z | z
    · subst z
      rw [show bst q' 0 = 0 from rfl, h 0 (by omega)]
    · have := bst_lt q' n z
      rw [h (bst q' n) (by omega)]
theorem bst_ext {q : Nat → Int64} {n : Nat} (h0 : 0 ≤ (q (bst q n)).toInt) : ∀ m : Nat, n ≤ m → (∀ i : Nat, n ≤ i → i < m → (q i).toInt ≤ 0) → bst q m = bst q n
  | 0, h, _ => by rw [show n = 0 by omega]
  | m + 1, h, hz => by
    rcases Nat.eq_or_lt_of_le h with e | e
    · rw [e]
    · have ih := bst_ext h0 m (by omega) (fun i h1 h2 => hz i h1 (by omega))
      rw [bst_s, ih, if_neg]
      rw [l_lt]
      have := hz m (by omega) (by omega)
      omega
/-- how many of the first n are above 0 -/
def ps (q : Nat → Int64) : Nat → Nat
  | 0 => 0
  | i + 1 => ps q i + (if 0 < q i then 1 else 0)
theorem ps_s (q : Nat → Int64) (n : Nat) : ps q (n + 1) = ps q n + (if 0 < q n then 1 else 0) := rfl
theorem ps_le (q : Nat → Int64) : ∀ n : Nat, ps q n ≤ n
  | 0 => Nat.le_refl _
  | n + 1 => by
    have := ps_le q n
    rw [ps_s]
    split <;> omega
theorem ps_ex {q : Nat → Int64} : ∀ n : Nat, 0 < ps q n → ∃ i : Nat, i < n ∧ 0 < q i
  | 0, h => absurd h (Nat.lt_irrefl _)
  | n + 1, h => by
    rw [ps_s] at h
    by_cases c : 0 < q n
    · exact ⟨n, Nat.lt_succ_self _, c⟩
    · rw [if_neg c] at h
      obtain ⟨i, hi, hq⟩ := ps_ex n h
      exact ⟨i, by omega, hq⟩
theorem ps_upd (q : Nat → Int64) (b : Nat) (y : Int64) : ∀ n : Nat, ps q n ≤ ps (vp_updL q b y) n + (if b < n then 1 else 0)
  | 0 => Nat.le_add_right _ _
  | n + 1 => by
    have ih := ps_upd q b y n
    rw [ps_s, ps_s]
    rcases Nat.decEq n b with e | e
    · rw [pk_uLn e]
      rcases Nat.lt_or_ge b n with g | g
      · rw [if_pos g] at ih; rw [if_pos (show b < n + 1 by omega)]; omega
      · rw [if_neg (by omega)] at ih; rw [if_neg (show ¬ b < n + 1 by omega)]; omega
    · subst e
      rw [if_neg (Nat.lt_irrefl _)] at ih
      rw [if_pos (Nat.lt_succ_self _)]
      have h1 : (if 0 < q n then 1 else 0) ≤ 1 := by split <;> omega
      omega
section RND
variable {n m L : Nat} {d d' : Nat → Int32} {q q' : Nat → Int64}
/-- L rounds over m places and over the first n of them alike, where those behind have no rest and L of the n have one -/
theorem rnd_eq (hnm : n ≤ m) (hd : ∀ i : Nat, i < n → d i = d' i) (hq : ∀ i : Nat, i < n → q i = q' i) (hz : ∀ i : Nat, n ≤ i → i < m → (q i).toInt ≤ 0) (hL : L ≤ ps q' n) : ∀ t : Nat, t ≤ L →
    (∀ i : Nat, i < n → (rnd m d q t).1 i = (rnd n d' q' t).1 i) ∧ (∀ i : Nat, i < n → (rnd m d q t).2 i = (rnd n d' q' t).2 i) ∧ (∀ i : Nat, n ≤ i → i < m → (rnd m d q t).1 i = d i ∧ (rnd m d q t).2 i = q i) ∧ L ≤ ps (rnd n d' q' t).2 n + t ∧ (∀ i : Nat, i < n → ((rnd n d' q' t).1 i = d' i ∧ (rnd n d' q' t).2 i = q' i) ∨ ((rnd n d' q' t).1 i = d' i + 1 ∧ 0 < q' i ∧ (rnd n d' q' t).2 i = -1))
  | 0, _ => ⟨hd, hq, fun i _ _ => ⟨rfl, rfl⟩, hL, fun i _ => Or.inl ⟨rfl, rfl⟩⟩
  | t + 1, ht => by
    obtain ⟨h1, h2, h3, h4, h5⟩ := rnd_eq hnm hd hq hz hL t (by omega)
    have e1 : rnd m d q (t + 1) = (upd (rnd m d q t).1 (bst (rnd m d q t).2 m) ((rnd m d q t).1 (bst (rnd m d q t).2 m) + 1), vp_updL (rnd m d q t).2 (bst (rnd m d q t).2 m) (-1)) := rfl
    have e2 : rnd n d' q' (t + 1) = (upd (rnd n d' q' t).1 (bst (rnd n d' q' t).2 n) ((rnd n d' q' t).1 (bst (rnd n d' q' t).2 n) + 1), vp_updL (rnd n d' q' t).2 (bst (rnd n d' q' t).2 n) (-1)) := rfl
    rw [e1, e2]
    generalize rnd m d q t = P at h1 h2 h3 ⊢
    generalize rnd n d' q' t = P' at h1 h2 h4 h5 ⊢
    obtain ⟨i0, hi0, hp0⟩ := ps_ex n (show 0 < ps P'.2 n by omega)
    have hmx := bst_max P'.2 n i0 hi0
    have z0 : (0 : Int64).toInt = 0 := by decide
    have zm : (-1 : Int64).toInt = -1 := by decide
    rw [l_lt, z0] at hp0
    have hb := bst_lt P'.2 n (by omega)
    have eb : bst P.2 n = bst P'.2 n := bst_congr n h2
    have em : bst P.2 m = bst P'.2 n := by
      rw [bst_ext (n := n) (by rw [eb, h2 _ hb]; omega) m hnm (fun i g1 g2 => by rw [(h3 i g1 g2).2]; exact hz i g1 g2), eb]
    rw [em]
    generalize bst P'.2 n = b at hb hmx
    refine ⟨fun i hi => ?_, fun i hi => ?_, fun i g1 g2 => ?_, ?_, fun i hi => ?_⟩
    · show upd P.1 b (P.1 b + 1) i = upd P'.1 b (P'.1 b + 1) i
      rcases Nat.decEq i b with e | e
      · rw [upd_n e, upd_n e]; exact h1 i hi
      · rw [e, upd_s, upd_s, h1 b hb]
    · show vp_updL P.2 b (-1) i = vp_updL P'.2 b (-1) i
      rcases Nat.decEq i b with e | e
      · rw [pk_uLn e, pk_uLn e]; exact h2 i hi
      · rw [e, pk_uLs, pk_uLs]
    · show upd P.1 b (P.1 b + 1) i = d i ∧ vp_updL P.2 b (-1) i = q i
      have e : i ≠ b := by omega
      rw [upd_n e, pk_uLn e]; exact h3 i g1 g2
    · show L ≤ ps (vp_updL P'.2 b (-1)) n + (t + 1)
      have := ps_upd P'.2 b (-1) n
      rw [if_pos hb] at this
      omega
    · show (upd P'.1 b (P'.1 b + 1) i = d' i ∧ vp_updL P'.2 b (-1) i = q' i) ∨ (upd P'.1 b (P'.1 b + 1) i = d' i + 1 ∧ 0 < q' i ∧ vp_updL P'.2 b (-1) i = -1)
      rcases Nat.decEq i b with e | e
      · rw [upd_n e, pk_uLn e]; exact h5 i hi
      · subst e
        rcases h5 i hi with ⟨g1, g2⟩ | ⟨g1, g2, g3⟩
        · rw [upd_s, pk_uLs, g1]
          refine Or.inr ⟨rfl, ?_, rfl⟩
          rw [← g2, l_lt, z0]; omega
        · rw [g3, zm] at hmx; omega
end RND
/-- a plain sum -/
def sm1 (d : Nat → Int32) : Nat → Int32
  | 0 => 0
  | i + 1 => sm1 d i + d i
theorem sm1_n {d : Nat → Int32} {b : Nat} {x : Int32} : ∀ n : Nat, n ≤ b → sm1 (upd d b x) n = sm1 d n
  | 0, _ => rfl
  | n + 1, h => by
    show sm1 (upd d b x) n + upd d b x n = sm1 d n + d n
    rw [sm1_n n (by omega), upd_n (by omega)]
theorem sm1_u {d : Nat → Int32} {b : Nat} {x : Int32} : ∀ n : Nat, b < n → sm1 (upd d b (d b + x)) n = sm1 d n + x
  | 0, h => absurd h (Nat.not_lt_zero _)
  | n + 1, h => by
    show sm1 (upd d b (d b + x)) n + upd d b (d b + x) n = sm1 d n + d n + x
    rcases Nat.decEq n b with e | e
    · rw [sm1_u n (by omega), upd_n e, Int32.add_assoc, Int32.add_assoc, Int32.add_comm x]
    · subst e
      rw [sm1_n n (Nat.le_refl _), upd_s, Int32.add_assoc]
theorem sm1_r {n : Nat} (hn : 0 < n) {d : Nat → Int32} {q : Nat → Int64} : ∀ t : Nat, sm1 (rnd n d q t).1 n = sm1 d n + nI t
  | 0 => by show sm1 d n = sm1 d n + nI 0; rw [nI_0, Int32.add_zero]
  | t + 1 => by
    show sm1 (upd (rnd n d q t).1 (bst (rnd n d q t).2 n) ((rnd n d q t).1 (bst (rnd n d q t).2 n) + 1)) n = sm1 d n + nI (t + 1)
    rw [sm1_u n (bst_lt _ n hn), sm1_r hn t, Int32.add_assoc, nI_1]
section NUM
variable {X S : Nat} {G : Nat → Nat} {f : Nat → Int32}
theorem shD_n {g : Nat} (hX : X ≤ 1000000) (hg : g ≤ 1000000) (h0 : 0 < S) (hS : S ≤ 1000000) : shD (nI X) (nI S).toInt64 (nI g) = nI (X * g / S) := by
  have hm : X * g ≤ 1000000 * 1000000 := Nat.mul_le_mul hX hg
  rw [shD, nI_l (by omega), nI_l (by omega), nI_l (by omega), lN_mul, pk_lDiv (by omega) h0 (by omega), lN_i]
theorem shR_n {g : Nat} (hX : X ≤ 1000000) (hg : g ≤ 1000000) (h0 : 0 < S) (hS : S ≤ 1000000) : shR (nI X) (nI S).toInt64 (nI g) = lN (X * g % S) := by
  have hm : X * g ≤ 1000000 * 1000000 := Nat.mul_le_mul hX hg
  rw [shR, nI_l (by omega), nI_l (by omega), nI_l (by omega), lN_mul, pk_lRem (by omega) h0 (by omega)]
/-- sums of naturals -/
def sN (G : Nat → Nat) : Nat → Nat
  | 0 => 0
  | i + 1 => sN G i + G i
theorem sN_qr (X S : Nat) (G : Nat → Nat) : ∀ n : Nat, sN (fun i => X * G i / S) n * S + sN (fun i => X * G i % S) n = X * sN G n
  | 0 => by show 0 * S + 0 = X * 0; simp
  | n + 1 => by
    show (sN (fun i => X * G i / S) n + X * G n / S) * S + (sN (fun i => X * G i % S) n + X * G n % S) = X * (sN G n + G n)
    have ih := sN_qr X S G n
    have h := Nat.div_add_mod (X * G n) S
    rw [Nat.add_mul, Nat.mul_add, ← ih]
    rw [Nat.mul_comm S] at h
    omega
theorem sN_le {G : Nat → Nat} : ∀ {n i : Nat}, i < n → G i ≤ sN G n
  | 0, i, h => absurd h (Nat.not_lt_zero _)
  | n + 1, i, h => by
    show G i ≤ sN G n + G n
    rcases Nat.lt_or_ge i n with g | g
    · have := sN_le (G := G) g; omega
    · rw [show i = n by omega]; omega
theorem sN_mono {G : Nat → Nat} : ∀ {n m : Nat}, n ≤ m → sN G n ≤ sN G m
  | n, 0, h => by rw [show n = 0 by omega]; exact Nat.le_refl _
  | n, m + 1, h => by
    rcases Nat.eq_or_lt_of_le h with e | e
    · rw [e]; exact Nat.le_refl _
    · have := sN_mono (G := G) (show n ≤ m by omega)
      show sN G n ≤ sN G m + G m
      omega
end NUM
section DRW
variable {X S n : Nat} {G : Nat → Nat} {f : Nat → Int32}
theorem sN_cap (h0 : 0 < S) {k : Nat} (hk : sN G k ≤ S) : sN (fun i => X * G i / S) k ≤ X := by
  have h := sN_qr X S G k
  have h2 : X * sN G k ≤ X * S := Nat.mul_le_mul_left _ hk
  exact Nat.le_of_mul_le_mul_right (by omega) h0
theorem lak_n (hG : ∀ i : Nat, i < n → f i = nI (G i)) (hs : sN G n ≤ S) (h0 : 0 < S) (hS : S ≤ 1000000) (hX : X ≤ S) : ∀ k : Nat, k ≤ n → lak (nI X) (nI S).toInt64 f k = nI (X - sN (fun i => X * G i / S) k)
  | 0, _ => rfl
  | k + 1, hk => by
    show lak (nI X) (nI S).toInt64 f k - shD (nI X) (nI S).toInt64 (f k) = nI (X - (sN (fun i => X * G i / S) k + X * G k / S))
    have h1 := sN_le (G := G) (show k < n by omega)
    have h2 : sN (fun i => X * G i / S) (k + 1) ≤ X := sN_cap h0 (Nat.le_trans (sN_mono hk) hs)
    have h3 : sN (fun i => X * G i / S) (k + 1) = sN (fun i => X * G i / S) k + X * G k / S := rfl
    rw [lak_n hG hs h0 hS hX k (by omega), hG k (by omega), shD_n (by omega) (by omega) h0 hS, pk_sub (by omega)]
    congr 1
    omega
theorem ps_n (hG : ∀ i : Nat, i < n → f i = nI (G i)) (hs : sN G n ≤ S) (h0 : 0 < S) (hS : S ≤ 1000000) (hX : X ≤ S) : ∀ k : Nat, k ≤ n → sN (fun i => X * G i % S) k ≤ ps (fun i => shR (nI X) (nI S).toInt64 (f i)) k * S
  | 0, _ => Nat.zero_le _
  | k + 1, hk => by
    have ih := ps_n hG hs h0 hS hX k (by omega)
    have h1 := sN_le (G := G) (show k < n by omega)
    have hlt := Nat.mod_lt (X * G k) h0
    rw [ps_s]
    show sN (fun i => X * G i % S) k + X * G k % S ≤ (ps (fun i => shR (nI X) (nI S).toInt64 (f i)) k + (if 0 < shR (nI X) (nI S).toInt64 (f k) then 1 else 0)) * S
    rw [hG k (by omega), shR_n (by omega) (by omega) h0 hS, Nat.add_mul]
    rcases Nat.eq_zero_or_pos (X * G k % S) with z | z
    · rw [z]; omega
    · have z2 : (0 : Int64) < lN (X * G k % S) := (pk_lLT (a := 0) (b := X * G k % S) (by omega) (by omega)).mpr z
      rw [if_pos z2]; omega
/-- how many grams are lacking, and that so many lots have a rest -/
theorem lak_ps (hG : ∀ i : Nat, i < n → f i = nI (G i)) (hs : sN G n = S) (h0 : 0 < S) (hS : S ≤ 1000000) (hX : X ≤ S) : ∃ L : Nat, lak (nI X) (nI S).toInt64 f n = nI L ∧ L ≤ X ∧ L ≤ ps (fun i => shR (nI X) (nI S).toInt64 (f i)) n ∧ sN (fun i => X * G i / S) n + L = X := by
  have h1 := sN_qr X S G n
  have h2 : sN (fun i => X * G i / S) n ≤ X := sN_cap h0 (by omega)
  have h3 := ps_n hG (by omega) h0 hS hX n (Nat.le_refl _)
  refine ⟨X - sN (fun i => X * G i / S) n, lak_n hG (by omega) h0 hS hX n (Nat.le_refl _), by omega, ?_, by omega⟩
  rw [hs] at h1
  have h4 : (X - sN (fun i => X * G i / S) n) * S = sN (fun i => X * G i % S) n := by
    rw [Nat.sub_mul]; omega
  exact Nat.le_of_mul_le_mul_right (by omega) h0
theorem sm1_shD (hG : ∀ i : Nat, i < n → f i = nI (G i)) (hs : sN G n ≤ S) (h0 : 0 < S) (hS : S ≤ 1000000) (hX : X ≤ S) : ∀ k : Nat, k ≤ n → sm1 (fun i => shD (nI X) (nI S).toInt64 (f i)) k = nI (sN (fun i => X * G i / S) k)
  | 0, _ => nI_0.symm
  | k + 1, hk => by
    show sm1 (fun i => shD (nI X) (nI S).toInt64 (f i)) k + shD (nI X) (nI S).toInt64 (f k) = nI (sN (fun i => X * G i / S) k + X * G k / S)
    have h1 := sN_le (G := G) (show k < n by omega)
    rw [sm1_shD hG hs h0 hS hX k (by omega), hG k (by omega), shD_n (by omega) (by omega) h0 hS, nI_add]
theorem q_le {g : Nat} (h0 : 0 < S) (hX : X ≤ S) : X * g / S ≤ g := by
  have h1 := Nat.div_add_mod (X * g) S
  have h2 : X * g ≤ S * g := Nat.mul_le_mul_right _ hX
  exact Nat.le_of_mul_le_mul_left (by omega) h0
theorem q_lt {g : Nat} (h0 : 0 < S) (hX : X ≤ S) (hr : 0 < X * g % S) : X * g / S + 1 ≤ g := by
  have h1 := Nat.div_add_mod (X * g) S
  have h2 : X * g ≤ S * g := Nat.mul_le_mul_right _ hX
  exact Nat.lt_of_mul_lt_mul_left (show S * (X * g / S) < S * g by omega)
/-- what is drawn of each of the first n lots, after all rounds: no more than there is, and x grams in all -/
theorem draw_ok (hn : 0 < n) (hG : ∀ i : Nat, i < n → f i = nI (G i)) (hs : sN G n = S) (h0 : 0 < S) (hS : S ≤ 1000000) (hX : X ≤ S) : ∃ L : Nat, lak (nI X) (nI S).toInt64 f n = nI L ∧ L ≤ ps (fun i => shR (nI X) (nI S).toInt64 (f i)) n ∧ L ≤ X ∧
    (∀ i : Nat, i < n → ∃ u : Nat, u ≤ G i ∧ (rnd n (fun i => shD (nI X) (nI S).toInt64 (f i)) (fun i => shR (nI X) (nI S).toInt64 (f i)) L).1 i = nI u) ∧ sm1 (rnd n (fun i => shD (nI X) (nI S).toInt64 (f i)) (fun i => shR (nI X) (nI S).toInt64 (f i)) L).1 n = nI X := by
  obtain ⟨L, hL, hLX, hp, hsum⟩ := lak_ps hG hs h0 hS hX
  obtain ⟨-, -, -, -, h5⟩ := rnd_eq (d := fun i => shD (nI X) (nI S).toInt64 (f i)) (d' := fun i => shD (nI X) (nI S).toInt64 (f i)) (q := fun i => shR (nI X) (nI S).toInt64 (f i)) (q' := fun i => shR (nI X) (nI S).toInt64 (f i)) (Nat.le_refl n) (fun _ _ => rfl) (fun _ _ => rfl) (fun i h1 h2 => absurd h1 (by omega)) hp L (Nat.le_refl _)
  refine ⟨L, hL, hp, hLX, fun i hi => ?_, ?_⟩
  · have h1 := sN_le (G := G) hi
    have e1 : shD (nI X) (nI S).toInt64 (f i) = nI (X * G i / S) := by rw [hG i hi, shD_n (by omega) (by omega) h0 hS]
    have e2 : shR (nI X) (nI S).toInt64 (f i) = lN (X * G i % S) := by rw [hG i hi, shR_n (by omega) (by omega) h0 hS]
    rcases h5 i hi with ⟨g1, -⟩ | ⟨g1, g2, -⟩
    · exact ⟨X * G i / S, q_le h0 hX, g1.trans e1⟩
    · have hlt := Nat.mod_lt (X * G i) h0
      have g2 : 0 < shR (nI X) (nI S).toInt64 (f i) := g2
      rw [e2] at g2
      have g3 : 0 < X * G i % S := (pk_lLT (a := 0) (b := X * G i % S) (by omega) (by omega)).mp g2
      refine ⟨X * G i / S + 1, q_lt h0 hX g3, g1.trans ?_⟩
      rw [← nI_1]
      exact congrArg (· + 1) e1
  · rw [sm1_r hn, sm1_shD hG (by omega) h0 hS hX n (Nat.le_refl _), nI_add, hsum]
end DRW
