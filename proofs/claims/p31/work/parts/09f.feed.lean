/-! the tape, fed -/
def put4 (f : Nat → Int32) (n : Nat) (x : Int32) : Nat → Int32 := upd (upd (upd (upd f n ((x >>> (24 &&& 31)) &&& 255)) (n + 1) ((x >>> (16 &&& 31)) &&& 255)) (n + 2) ((x >>> (8 &&& 31)) &&& 255)) (n + 3) ((x >>> (0 &&& 31)) &&& 255)
def fdF (f : Nat → Int32) (n : Nat) (a b c d e : Int32) : Nat → Int32 := put4 (put4 (put4 (put4 (put4 f n a) (n + 4) b) (n + 8) c) (n + 12) d) (n + 16) e
theorem upd_c1 {f g : Nat → Int32} {i k : Nat} {x : Int32} (h : i ≠ k → f i = g i) : upd f k x i = upd g k x i := by
  rcases Nat.decEq i k with q | q
  · rw [upd_n q, upd_n q]; exact h q
  · rw [q, upd_s, upd_s]
theorem put4_cg {f g : Nat → Int32} {n : Nat} {x : Int32} (h : ∀ i : Nat, i < n → f i = g i) : ∀ i : Nat, i < n + 4 → put4 f n x i = put4 g n x i := fun i hi => upd_c1 (fun h3 => upd_c1 (fun h2 => upd_c1 (fun h1 => upd_c1 (fun h0 => h i (by omega)))))
theorem fd_cg {f g : Nat → Int32} {n : Nat} {a b c d e : Int32} (h : ∀ i : Nat, i < n → f i = g i) : ∀ i : Nat, i < n + 20 → put4 (put4 (put4 (put4 (put4 f n a) (n + 4) b) (n + 8) c) (n + 12) d) (n + 16) e i = fdF g n a b c d e i := put4_cg (n := n + 16) (put4_cg (n := n + 12) (put4_cg (n := n + 8) (put4_cg (n := n + 4) (put4_cg h))))
theorem and255 (y : Int32) : ¬ (y &&& 255) = (-1) := fun h => by
  have h2 := congrArg (fun z => z &&& 256) h
  have e : (y &&& 255) &&& 256 = 0 := by rw [Int32.and_assoc, show (255 : Int32) &&& 256 = 0 by decide, Int32.and_zero]
  have h3 : (y &&& 255) &&& 256 = (-1) &&& 256 := h2
  rw [e] at h3
  exact absurd h3 (by decide)
theorem put4_nb {f : Nat → Int32} {n : Nat} {x : Int32} (h : ∀ i : Nat, i < n → ¬ f i = (-1)) : ∀ i : Nat, i < n + 4 → ¬ put4 f n x i = (-1) := by
  intro i hi
  have u : ∀ (g : Nat → Int32) (k : Nat) (y : Int32), (i ≠ k → ¬ g i = (-1)) → ¬ upd g k (y &&& 255) i = (-1) := fun g k y hg => by
    rcases Nat.decEq i k with q | q
    · rw [upd_n q]; exact hg q
    · rw [q, upd_s]; exact and255 y
  exact u _ _ _ (fun h3 => u _ _ _ (fun h2 => u _ _ _ (fun h1 => u _ _ _ (fun h0 => h i (by omega)))))
theorem fd_nb {f : Nat → Int32} {n : Nat} {a b c d e : Int32} (h : ∀ i : Nat, i < n → ¬ f i = (-1)) : ∀ i : Nat, i < n + 20 → ¬ fdF f n a b c d e i = (-1) := put4_nb (n := n + 16) (put4_nb (n := n + 12) (put4_nb (n := n + 8) (put4_nb (n := n + 4) (put4_nb h))))
