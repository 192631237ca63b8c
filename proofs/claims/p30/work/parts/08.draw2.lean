/-! THE VESSELS' CALLS, as plain functions of the reference's rows -/
theorem upd_self (f : Nat → Int32) (k : Nat) : upd f k (f k) = f := by
  funext j
  rcases Nat.decEq j k with h | h
  · rw [upd_n h]
  · rw [h, upd_s]
theorem rnd_cg {m : Nat} {d d' : Nat → Int32} {q q' : Nat → Int64} (hm : 0 < m) (hd : ∀ i : Nat, i < m → d i = d' i) (hq : ∀ i : Nat, i < m → q i = q' i) : ∀ t : Nat, (∀ i : Nat, i < m → (rnd m d q t).1 i = (rnd m d' q' t).1 i) ∧ (∀ i : Nat, i < m → (rnd m d q t).2 i = (rnd m d' q' t).2 i)
  | 0 => ⟨hd, hq⟩
  | t + 1 => by
    obtain ⟨h1, h2⟩ := rnd_cg hm hd hq t
    have e1 : rnd m d q (t + 1) = (upd (rnd m d q t).1 (bst (rnd m d q t).2 m) ((rnd m d q t).1 (bst (rnd m d q t).2 m) + 1), vp_updL (rnd m d q t).2 (bst (rnd m d q t).2 m) (-1)) := rfl
    have e2 : rnd m d' q' (t + 1) = (upd (rnd m d' q' t).1 (bst (rnd m d' q' t).2 m) ((rnd m d' q' t).1 (bst (rnd m d' q' t).2 m) + 1), vp_updL (rnd m d' q' t).2 (bst (rnd m d' q' t).2 m) (-1)) := rfl
    rw [e1, e2]
    generalize rnd m d q t = P at h1 h2 ⊢
    generalize rnd m d' q' t = P' at h1 h2 ⊢
    have eb : bst P.2 m = bst P'.2 m := bst_congr m h2
    have hb := bst_lt P'.2 m hm
    rw [eb]
    generalize bst P'.2 m = b at hb ⊢
    refine ⟨fun i hi => ?_, fun i hi => ?_⟩
    · show upd P.1 b (P.1 b + 1) i = upd P'.1 b (P'.1 b + 1) i
      rcases Nat.decEq i b with e | e
      · rw [upd_n e, upd_n e]; exact h1 i hi
      · rw [e, upd_s, upd_s, h1 b hb]
    · show vp_updL P.2 b (-1) i = vp_updL P'.2 b (-1) i
      rcases Nat.decEq i b with e | e
      · rw [pk_uLn e, pk_uLn e]; exact h2 i hi
      · rw [e, pk_uLs, pk_uLs]
theorem lak_cg {x : Int32} {T : Int64} {f f' : Nat → Int32} : ∀ n : Nat, (∀ i : Nat, i < n → f i = f' i) → lak x T f n = lak x T f' n
  | 0, _ => rfl
  | n + 1, h => by
    show lak x T f n - shD x T (f n) = lak x T f' n - shD x T (f' n)
    rw [lak_cg n (fun i hi => h i (by omega)), h n (by omega)]
theorem sm1_cg {f f' : Nat → Int32} : ∀ n : Nat, (∀ i : Nat, i < n → f i = f' i) → sm1 f n = sm1 f' n
  | 0, _ => rfl
  | n + 1, h => by
    show sm1 f n + f n = sm1 f' n + f' n
    rw [sm1_cg n (fun i hi => h i (by omega)), h n (by omega)]
theorem mall_sm1 (f : Nat → Int32) (t : Nat) : ∀ n : Nat, mall f t n = sm1 (fun i => f (40 * t + i)) n
  | 0 => rfl
  | n + 1 => by
    show mall f t n + f (40 * t + n) = sm1 (fun i => f (40 * t + i)) n + f (40 * t + n)
    rw [mall_sm1 f t n]
theorem mall_cg {f f' : Nat → Int32} {t : Nat} (n : Nat) (h : ∀ i : Nat, i < n → f (40 * t + i) = f' (40 * t + i)) : mall f t n = mall f' t n := by
  rw [mall_sm1, mall_sm1]; exact sm1_cg n h
theorem mall_n {f : Nat → Int32} {t m : Nat} {G : Nat → Nat} (hG : ∀ i : Nat, i < m → f (40 * t + i) = nI (G i)) : ∀ k : Nat, k ≤ m → mall f t k = nI (sN G k)
  | 0, _ => nI_0.symm
  | k + 1, h => by
    show mall f t k + f (40 * t + k) = nI (sN G k + G k)
    rw [mall_n hG k (by omega), hG k (by omega), nI_add]
theorem sN_z {G : Nat → Nat} {n : Nat} (hz : ∀ i : Nat, n ≤ i → G i = 0) : ∀ k : Nat, n ≤ k → sN G k = sN G n
  | 0, h => by rw [show n = 0 by omega]
  | k + 1, h => by
    rcases Nat.eq_or_lt_of_le h with e | e
    · rw [e]
    · show sN G k + G k = sN G n
      rw [sN_z hz k (by omega), hz k (by omega)]; omega
theorem sN_cg {G G' : Nat → Nat} : ∀ n : Nat, (∀ i : Nat, i < n → G i = G' i) → sN G n = sN G' n
  | 0, _ => rfl
  | n + 1, h => by
    show sN G n + G n = sN G' n + G' n
    rw [sN_cg n (fun i hi => h i (by omega)), h n (by omega)]
theorem sN_sub {G u : Nat → Nat} : ∀ n : Nat, (∀ i : Nat, i < n → u i ≤ G i) → sN (fun i => G i - u i) n + sN u n = sN G n
  | 0, _ => rfl
  | n + 1, h => by
    have ih := sN_sub n (fun i hi => h i (by omega))
    have := h n (by omega)
    show sN (fun i => G i - u i) n + (G n - u n) + (sN u n + u n) = sN G n + G n
    omega
theorem sN_add {G u : Nat → Nat} : ∀ n : Nat, sN (fun i => G i + u i) n = sN G n + sN u n
  | 0 => rfl
  | n + 1 => by
    have ih := sN_add (G := G) (u := u) n
    show sN (fun i => G i + u i) n + (G n + u n) = sN G n + G n + (sN u n + u n)
    omega
theorem sN_mon {G u : Nat → Nat} : ∀ n : Nat, (∀ i : Nat, i < n → u i ≤ G i) → sN u n ≤ sN G n
  | 0, _ => Nat.le_refl _
  | n + 1, h => by
    have ih := sN_mon n (fun i hi => h i (by omega))
    have := h n (by omega)
    show sN u n + u n ≤ sN G n + G n
    omega
theorem sN_0 : ∀ n : Nat, sN (fun _ => 0) n = 0
  | 0 => rfl
  | n + 1 => by show sN (fun _ => 0) n + 0 = 0; rw [sN_0 n]
def drT (f : Nat → Int32) (t : Nat) : Int64 := (mall f t 40).toInt64
def drL (f : Nat → Int32) (t : Nat) (x : Int32) : Nat := (lak x (drT f t) (fun i => f (40 * t + i)) 40).toNatClampNeg
/-- what is drawn of each lot, when x grams are drawn from vessel t -/
def drW (f : Nat → Int32) (t : Nat) (x : Int32) : Nat → Int32 := (rnd 40 (fun i => shD x (drT f t) (f (40 * t + i))) (fun i => shR x (drT f t) (f (40 * t + i))) (drL f t x)).1
section DRA
variable {f : Nat → Int32} {t n X S : Nat} {G : Nat → Nat}
theorem lak_z (hG : ∀ i : Nat, i < 40 → f (40 * t + i) = nI (G i)) (hz : ∀ i : Nat, n ≤ i → G i = 0) (h0 : 0 < S) (hS : S ≤ 1000000) (hX : X ≤ S) : ∀ k : Nat, n ≤ k → k ≤ 40 → lak (nI X) (nI S).toInt64 (fun i => f (40 * t + i)) k = lak (nI X) (nI S).toInt64 (fun i => f (40 * t + i)) n
  | 0, h, _ => by rw [show n = 0 by omega]
  | k + 1, h, hk => by
    rcases Nat.eq_or_lt_of_le h with e | e
    · rw [e]
    · show lak (nI X) (nI S).toInt64 (fun i => f (40 * t + i)) k - shD (nI X) (nI S).toInt64 (f (40 * t + k)) = _
      rw [lak_z hG hz h0 hS hX k (by omega) (by omega), hG k (by omega), hz k (by omega), shD_n (by omega) (by omega) h0 hS, Nat.mul_zero, Nat.zero_div, nI_0, Int32.sub_zero]
/-- the draw of X grams: what both sides make of it -/
theorem dr_all (hG : ∀ i : Nat, i < 40 → f (40 * t + i) = nI (G i)) (hz : ∀ i : Nat, n ≤ i → G i = 0) (hn : n ≤ 40) (hS : sN G 40 = S) (h1 : S ≤ 1000000) (hx : 1 ≤ X) (hX : X ≤ S) : mall f t 40 = nI S ∧ mall f t n = nI S ∧ 0 < n ∧ ∃ (L : Nat) (u : Nat → Nat), lak (nI X) (drT f t) (fun i => f (40 * t + i)) 40 = nI L ∧ L ≤ 40 ∧ (∀ i : Nat, i < 40 → drW f t (nI X) i = nI (u i)) ∧ (∀ i : Nat, i < 40 → u i ≤ G i) ∧ (∀ i : Nat, n ≤ i → i < 40 → u i = 0) ∧ sN u 40 = X ∧ lak (nI X) (drT f t) (fun i => f (40 * t + i)) n = nI L ∧ (∀ i : Nat, i < n → (rnd n (fun i => shD (nI X) (drT f t) (f (40 * t + i))) (fun i => shR (nI X) (drT f t) (f (40 * t + i))) L).1 i = drW f t (nI X) i) := by
  have hm : mall f t 40 = nI S := by rw [mall_n hG 40 (Nat.le_refl _), hS]
  have hsn : sN G n = S := by rw [← sN_z hz 40 hn, hS]
  have hmn : mall f t n = nI S := by rw [mall_n hG n hn, hsn]
  have hn0 : 0 < n := by
    rcases Nat.eq_zero_or_pos n with q | q
    · rw [q] at hsn
      have : S = 0 := hsn.symm
      omega
    · exact q
  have hT : drT f t = (nI S).toInt64 := by rw [drT, hm]
  obtain ⟨L, hL, hps, hLX, hu, hsum⟩ := draw_ok (f := fun i => f (40 * t + i)) (n := 40) (by omega) hG hS (by omega) h1 hX
  obtain ⟨L2, hL2, hLX2, hps2, -⟩ := lak_ps (f := fun i => f (40 * t + i)) (n := n) (fun i hi => hG i (by omega)) hsn (by omega) h1 hX
  have hlz := lak_z hG hz (by omega) h1 hX 40 hn (Nat.le_refl _)
  have hLL : L2 = L := by
    rw [hL, hL2] at hlz
    exact ((nI_eq (by omega) (by omega)).mp hlz).symm
  subst hLL
  have hdl : drL f t (nI X) = L2 := by rw [drL, hT, hL]; exact nI_clamp (by omega)
  have hW : drW f t (nI X) = (rnd 40 (fun i => shD (nI X) (nI S).toInt64 (f (40 * t + i))) (fun i => shR (nI X) (nI S).toInt64 (f (40 * t + i))) L2).1 := by rw [drW, hdl, hT]
  have hL40 : L2 ≤ 40 := Nat.le_trans hps (ps_le _ _)
  have hG2 : ∀ i : Nat, i < 40 → G i ≤ 1000000 := fun i hi => Nat.le_trans (sN_le hi) (by omega)
  have hu2 : ∀ i : Nat, i < 40 → drW f t (nI X) i = nI ((drW f t (nI X) i).toNatClampNeg) ∧ (drW f t (nI X) i).toNatClampNeg ≤ G i := fun i hi => by
    obtain ⟨u, h3, h4⟩ := hu i hi
    have h5 := hG2 i hi
    rw [hW, h4, nI_clamp (n := u) (by omega)]
    exact ⟨rfl, h3⟩
  refine ⟨hm, hmn, hn0, L2, fun i => (drW f t (nI X) i).toNatClampNeg, by rw [hT]; exact hL, hL40, fun i hi => (hu2 i hi).1, fun i hi => (hu2 i hi).2, fun i h3 h4 => ?_, ?_, by rw [hT]; exact hL2, fun i hi => ?_⟩
  · have := (hu2 i h4).2
    rw [hz i h3] at this
    exact Nat.le_zero.mp this
  · have e : ∀ k : Nat, k ≤ 40 → sm1 (drW f t (nI X)) k = nI (sN (fun i => (drW f t (nI X) i).toNatClampNeg) k) := fun k => by
      induction k with
      | zero => intro _; exact nI_0.symm
      | succ k ih =>
        intro hk
        show sm1 (drW f t (nI X)) k + drW f t (nI X) k = nI (sN (fun i => (drW f t (nI X) i).toNatClampNeg) k + (drW f t (nI X) k).toNatClampNeg)
        rw [ih (by omega), ← nI_add, ← (hu2 k (by omega)).1]
    have e2 := e 40 (Nat.le_refl _)
    rw [hW] at e2
    rw [hsum] at e2
    have h6 := sN_mon 40 (fun i hi => (hu2 i hi).2)
    rw [hW] at h6 ⊢
    exact ((nI_eq (by omega) (by omega)).mp e2).symm
  · have hr := (rnd_eq (d := fun i => shD (nI X) (nI S).toInt64 (f (40 * t + i))) (d' := fun i => shD (nI X) (nI S).toInt64 (f (40 * t + i))) (q := fun i => shR (nI X) (nI S).toInt64 (f (40 * t + i))) (q' := fun i => shR (nI X) (nI S).toInt64 (f (40 * t + i))) hn (fun _ _ => rfl) (fun _ _ => rfl) (fun i h3 h4 => ?_) hps2 L2 (Nat.le_refl _)).1 i hi
    · rw [hT, hW]; exact hr.symm
    · show (shR (nI X) (nI S).toInt64 (f (40 * t + i))).toInt ≤ 0
      rw [hG i h4, hz i h3, shR_n (by omega) (by omega) (by omega) h1, Nat.mul_zero, Nat.zero_mod]
      decide
end DRA
/-- row t less by h, row t more by h, row t set to h -/
def rwS (f : Nat → Int32) (t : Nat) (h : Nat → Int32) : Nat → Int32 := fun k => if k / 40 = t then f k - h (k % 40) else f k
def rwA (f : Nat → Int32) (t : Nat) (h : Nat → Int32) : Nat → Int32 := fun k => if k / 40 = t then f k + h (k % 40) else f k
def rwI (f : Nat → Int32) (t : Nat) (h : Nat → Int32) : Nat → Int32 := fun k => if k / 40 = t then h (k % 40) else f k
section RW
variable {f h : Nat → Int32} {t r i k : Nat}
theorem rwS_in (hi : i < 40) : rwS f t h (40 * t + i) = f (40 * t + i) - h i := by
  show (if (40 * t + i) / 40 = t then f (40 * t + i) - h ((40 * t + i) % 40) else f (40 * t + i)) = _
  rw [if_pos (by omega), show (40 * t + i) % 40 = i by omega]
theorem rwA_in (hi : i < 40) : rwA f t h (40 * t + i) = f (40 * t + i) + h i := by
  show (if (40 * t + i) / 40 = t then f (40 * t + i) + h ((40 * t + i) % 40) else f (40 * t + i)) = _
  rw [if_pos (by omega), show (40 * t + i) % 40 = i by omega]
theorem rwI_in (hi : i < 40) : rwI f t h (40 * t + i) = h i := by
  show (if (40 * t + i) / 40 = t then h ((40 * t + i) % 40) else f (40 * t + i)) = _
  rw [if_pos (by omega), show (40 * t + i) % 40 = i by omega]
theorem rwS_out (hi : i < 40) (hr : r ≠ t) : rwS f t h (40 * r + i) = f (40 * r + i) := if_neg (by omega)
theorem rwA_out (hi : i < 40) (hr : r ≠ t) : rwA f t h (40 * r + i) = f (40 * r + i) := if_neg (by omega)
theorem rwI_out (hi : i < 40) (hr : r ≠ t) : rwI f t h (40 * r + i) = f (40 * r + i) := if_neg (by omega)
theorem rw_cut (k : Nat) : k = 40 * (k / 40) + k % 40 ∧ k % 40 < 40 := by omega
/-- two pictures of all rows are the same, row by row -/
theorem row_ext {f g : Nat → Int32} (h : ∀ r i : Nat, i < 40 → f (40 * r + i) = g (40 * r + i)) : f = g := by
  funext k
  obtain ⟨e, hi⟩ := rw_cut k
  have := h (k / 40) (k % 40) hi
  rw [← e] at this
  exact this
end RW
/-- what vessel t holds behind the draw -/
def drF (f : Nat → Int32) (t : Nat) (x : Int32) : Nat → Int32 := rwS f t (drW f t x)
theorem drF_G {f : Nat → Int32} {t X : Nat} {G u : Nat → Nat} (hG : ∀ i : Nat, i < 40 → f (40 * t + i) = nI (G i)) (hu : ∀ i : Nat, i < 40 → drW f t (nI X) i = nI (u i)) (hle : ∀ i : Nat, i < 40 → u i ≤ G i) : ∀ i : Nat, i < 40 → drF f t (nI X) (40 * t + i) = nI (G i - u i) := fun i hi => by
  rw [drF, rwS_in hi, hG i hi, hu i hi, pk_sub (hle i hi)]
/-- facts of the reference's rows alone: n lots -/
def NV (fv : Nat → Nat → Int32) (n : Nat) : Prop := (∀ r : Nat, r < 70 → ∃ G : Nat → Nat, (∀ i : Nat, i < 40 → fv 9 (40 * r + i) = nI (G i)) ∧ sN G 40 ≤ 1000000 ∧ ∀ i : Nat, n ≤ i → G i = 0) ∧ (∀ r : Nat, r < 10 → ∃ R : Nat, R ≤ 1000000 ∧ fv 11 r = nI R) ∧ (∀ j : Nat, j < n → ∃ a b : Nat, a ≤ 200000 ∧ b ≤ 200000 ∧ fv 4 (7 * j + 1) = nI a ∧ fv 4 (7 * j + 5) = nI b)
theorem nv_all {fv : Nat → Nat → Int32} {n : Nat} (h : NV fv n) (hn : n ≤ 40) : ∀ r : Nat, r < 70 → mall (fv 9) r n = mall (fv 9) r 40 := fun r hr => by
  obtain ⟨G, hG, -, hz⟩ := h.1 r hr
  rw [mall_n hG n hn, mall_n hG 40 (Nat.le_refl _), sN_z hz 40 hn]
theorem nv_fv {fv fv' : Nat → Nat → Int32} {n : Nat} (h : NV fv n) (e9 : fv' 9 = fv 9) (e11 : fv' 11 = fv 11) (e1 : ∀ j : Nat, fv' 4 (7 * j + 1) = fv 4 (7 * j + 1)) (e5 : ∀ j : Nat, fv' 4 (7 * j + 5) = fv 4 (7 * j + 5)) : NV fv' n := by
  obtain ⟨h1, h2, h3⟩ := h
  refine ⟨fun r hr => ?_, fun r hr => ?_, fun j hj => ?_⟩
  · rw [e9]; exact h1 r hr
  · rw [e11]; exact h2 r hr
  · rw [e1, e5]; exact h3 j hj
theorem rn_m {d D : Nat → Int32} {q Q : Nat → Int64} {m t b j : Nat} (h : ∀ j : Nat, j < m → d j = (rnd m D Q t).1 j ∧ q j = (rnd m D Q t).2 j) (eb : b = bst q m) (hb : b < m) (hj : j < m) : upd d b (d b + 1) j = (rnd m D Q (t + 1)).1 j ∧ vp_updL q b (-1) j = (rnd m D Q (t + 1)).2 j := by
  have e : b = bst (rnd m D Q t).2 m := eb.trans (bst_congr m (fun i hi => (h i hi).2))
  show upd d b (d b + 1) j = upd (rnd m D Q t).1 (bst (rnd m D Q t).2 m) ((rnd m D Q t).1 (bst (rnd m D Q t).2 m) + 1) j ∧ vp_updL q b (-1) j = vp_updL (rnd m D Q t).2 (bst (rnd m D Q t).2 m) (-1) j
  rw [← e]
  rcases Nat.decEq j b with g | g
  · rw [upd_n g, upd_n g, pk_uLn g, pk_uLn g]; exact h j hj
  · rw [g, upd_s, upd_s, pk_uLs, pk_uLs, (h b hb).1]; exact ⟨rfl, rfl⟩
theorem bst_y {q : Nat → Int64} {k b : Nat} (hb : b = bst q k) (h : q b < q k) : k = bst q (k + 1) := by rw [bst_s, ← hb, if_pos h]
theorem bst_o {q : Nat → Int64} {k b : Nat} (hb : b = bst q k) (h : ¬ q b < q k) : b = bst q (k + 1) := by rw [bst_s, ← hb, if_neg h]
theorem bst_1 (q : Nat → Int64) : 0 = bst q 1 := by rw [bst_s]; split <;> rfl
/-- the row behind the draw, written place by place -/
theorem dr_row {f g d : Nat → Int32} {u n : Nat} {w : Nat → Int32} (h1 : ∀ j : Nat, j < n → g (40 * u + j) = f (40 * u + j) - d j) (h2 : ∀ r i : Nat, i < 40 → r ≠ u ∨ n ≤ i → g (40 * r + i) = f (40 * r + i)) (hd : ∀ j : Nat, j < n → d j = w j) (hz : ∀ j : Nat, n ≤ j → j < 40 → w j = 0) : g = rwS f u w := row_ext (fun r i hi => by
  rcases Nat.decEq r u with q | q
  · rw [rwS_out hi q]; exact h2 r i hi (Or.inl q)
  · subst q
    rw [rwS_in hi]
    rcases Nat.lt_or_ge i n with z | z
    · rw [h1 i z, hd i z]
    · rw [h2 r i hi (Or.inr z), hz i z hi, Int32.sub_zero])
theorem ad_row {f g d : Nat → Int32} {u n : Nat} {w : Nat → Int32} (h1 : ∀ j : Nat, j < n → g (40 * u + j) = f (40 * u + j) + d j) (h2 : ∀ r i : Nat, i < 40 → r ≠ u ∨ n ≤ i → g (40 * r + i) = f (40 * r + i)) (hd : ∀ j : Nat, j < n → d j = w j) (hz : ∀ j : Nat, n ≤ j → j < 40 → w j = 0) : g = rwA f u w := row_ext (fun r i hi => by
  rcases Nat.decEq r u with q | q
  · rw [rwA_out hi q]; exact h2 r i hi (Or.inl q)
  · subst q
    rw [rwA_in hi]
    rcases Nat.lt_or_ge i n with z | z
    · rw [h1 i z, hd i z]
    · rw [h2 r i hi (Or.inr z), hz i z hi, Int32.add_zero])
theorem in_row {f g : Nat → Int32} {u : Nat} {w : Nat → Int32} (h1 : ∀ j : Nat, j < 40 → g (40 * u + j) = w j) (h2 : ∀ r i : Nat, i < 40 → r ≠ u → g (40 * r + i) = f (40 * r + i)) : g = rwI f u w := row_ext (fun r i hi => by
  rcases Nat.decEq r u with q | q
  · rw [rwI_out hi q]; exact h2 r i hi q
  · subst q
    rw [rwI_in hi]; exact h1 i hi)
