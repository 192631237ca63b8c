theorem dX9_nots_0 : decode cX9_nots 0 = .ok (.aload_n 0, 1) := by decide +kernel
theorem dX9_nots_1 : decode cX9_nots 1 = .ok (.getfield 99, 3) := by decide +kernel
theorem dX9_nots_4 : decode cX9_nots 4 = .ok (.ifCond .le 46, 3) := by decide +kernel
theorem dX9_nots_7 : decode cX9_nots 7 = .ok (.aload_n 0, 1) := by decide +kernel
theorem dX9_nots_8 : decode cX9_nots 8 = .ok (.getfield 96, 3) := by decide +kernel
theorem dX9_nots_11 : decode cX9_nots 11 = .ok (.aload_n 0, 1) := by decide +kernel
theorem dX9_nots_12 : decode cX9_nots 12 = .ok (.getfield 99, 3) := by decide +kernel
theorem dX9_nots_15 : decode cX9_nots 15 = .ok (.iconst 1, 1) := by decide +kernel
theorem dX9_nots_16 : decode cX9_nots 16 = .ok (.isub, 1) := by decide +kernel
theorem dX9_nots_17 : decode cX9_nots 17 = .ok (.iaload, 1) := by decide +kernel
theorem dX9_nots_18 : decode cX9_nots 18 = .ok (.iconst 3, 1) := by decide +kernel
theorem dX9_nots_19 : decode cX9_nots 19 = .ok (.if_icmp .ne 31, 3) := by decide +kernel
theorem dX9_nots_22 : decode cX9_nots 22 = .ok (.aload_n 0, 1) := by decide +kernel
theorem dX9_nots_23 : decode cX9_nots 23 = .ok (.dup, 1) := by decide +kernel
theorem dX9_nots_24 : decode cX9_nots 24 = .ok (.getfield 99, 3) := by decide +kernel
theorem dX9_nots_27 : decode cX9_nots 27 = .ok (.iconst 1, 1) := by decide +kernel
theorem dX9_nots_28 : decode cX9_nots 28 = .ok (.isub, 1) := by decide +kernel
theorem dX9_nots_29 : decode cX9_nots 29 = .ok (.putfield 99, 3) := by decide +kernel
theorem dX9_nots_32 : decode cX9_nots 32 = .ok (.aload_n 0, 1) := by decide +kernel
theorem dX9_nots_33 : decode cX9_nots 33 = .ok (.dup, 1) := by decide +kernel
theorem dX9_nots_34 : decode cX9_nots 34 = .ok (.getfield 105, 3) := by decide +kernel
theorem dX9_nots_37 : decode cX9_nots 37 = .ok (.iconst 1, 1) := by decide +kernel
theorem dX9_nots_38 : decode cX9_nots 38 = .ok (.isub, 1) := by decide +kernel
theorem dX9_nots_39 : decode cX9_nots 39 = .ok (.putfield 105, 3) := by decide +kernel
theorem dX9_nots_42 : decode cX9_nots 42 = .ok (.aload_n 0, 1) := by decide +kernel
theorem dX9_nots_43 : decode cX9_nots 43 = .ok (.iconst 3, 1) := by decide +kernel
theorem dX9_nots_44 : decode cX9_nots 44 = .ok (.invokevirtual 244, 3) := by decide +kernel
theorem dX9_nots_47 : decode cX9_nots 47 = .ok (.goto (-47), 3) := by decide +kernel
theorem dX9_nots_50 : decode cX9_nots 50 = .ok (.return_, 1) := by decide +kernel
theorem dX9_joins_0 : decode cX9_joins 0 = .ok (.aload_n 0, 1) := by decide +kernel
theorem dX9_joins_1 : decode cX9_joins 1 = .ok (.getfield 99, 3) := by decide +kernel
theorem dX9_joins_4 : decode cX9_joins 4 = .ok (.ifCond .le 64, 3) := by decide +kernel
theorem dX9_joins_7 : decode cX9_joins 7 = .ok (.aload_n 0, 1) := by decide +kernel
theorem dX9_joins_8 : decode cX9_joins 8 = .ok (.getfield 96, 3) := by decide +kernel
theorem dX9_joins_11 : decode cX9_joins 11 = .ok (.aload_n 0, 1) := by decide +kernel
theorem dX9_joins_12 : decode cX9_joins 12 = .ok (.getfield 99, 3) := by decide +kernel
theorem dX9_joins_15 : decode cX9_joins 15 = .ok (.iconst 1, 1) := by decide +kernel
theorem dX9_joins_16 : decode cX9_joins 16 = .ok (.isub, 1) := by decide +kernel
theorem dX9_joins_17 : decode cX9_joins 17 = .ok (.iaload, 1) := by decide +kernel
theorem dX9_joins_18 : decode cX9_joins 18 = .ok (.iconst 2, 1) := by decide +kernel
theorem dX9_joins_19 : decode cX9_joins 19 = .ok (.if_icmp .eq 23, 3) := by decide +kernel
theorem dX9_joins_22 : decode cX9_joins 22 = .ok (.aload_n 0, 1) := by decide +kernel
theorem dX9_joins_23 : decode cX9_joins 23 = .ok (.getfield 96, 3) := by decide +kernel
theorem dX9_joins_26 : decode cX9_joins 26 = .ok (.aload_n 0, 1) := by decide +kernel
theorem dX9_joins_27 : decode cX9_joins 27 = .ok (.getfield 99, 3) := by decide +kernel
theorem dX9_joins_30 : decode cX9_joins 30 = .ok (.iconst 1, 1) := by decide +kernel
theorem dX9_joins_31 : decode cX9_joins 31 = .ok (.isub, 1) := by decide +kernel
theorem dX9_joins_32 : decode cX9_joins 32 = .ok (.iaload, 1) := by decide +kernel
theorem dX9_joins_33 : decode cX9_joins 33 = .ok (.iconst 1, 1) := by decide +kernel
theorem dX9_joins_34 : decode cX9_joins 34 = .ok (.if_icmp .ne 34, 3) := by decide +kernel
theorem dX9_joins_37 : decode cX9_joins 37 = .ok (.iload_n 1, 1) := by decide +kernel
theorem dX9_joins_38 : decode cX9_joins 38 = .ok (.iconst 1, 1) := by decide +kernel
theorem dX9_joins_39 : decode cX9_joins 39 = .ok (.if_icmp .ne 29, 3) := by decide +kernel
theorem dX9_joins_42 : decode cX9_joins 42 = .ok (.aload_n 0, 1) := by decide +kernel
theorem dX9_joins_43 : decode cX9_joins 43 = .ok (.dup, 1) := by decide +kernel
theorem dX9_joins_44 : decode cX9_joins 44 = .ok (.getfield 99, 3) := by decide +kernel
theorem dX9_joins_47 : decode cX9_joins 47 = .ok (.iconst 1, 1) := by decide +kernel
theorem dX9_joins_48 : decode cX9_joins 48 = .ok (.isub, 1) := by decide +kernel
theorem dX9_joins_49 : decode cX9_joins 49 = .ok (.putfield 99, 3) := by decide +kernel
theorem dX9_joins_52 : decode cX9_joins 52 = .ok (.aload_n 0, 1) := by decide +kernel
theorem dX9_joins_53 : decode cX9_joins 53 = .ok (.aload_n 0, 1) := by decide +kernel
theorem dX9_joins_54 : decode cX9_joins 54 = .ok (.getfield 96, 3) := by decide +kernel
theorem dX9_joins_57 : decode cX9_joins 57 = .ok (.aload_n 0, 1) := by decide +kernel
theorem dX9_joins_58 : decode cX9_joins 58 = .ok (.getfield 99, 3) := by decide +kernel
theorem dX9_joins_61 : decode cX9_joins 61 = .ok (.iaload, 1) := by decide +kernel
theorem dX9_joins_62 : decode cX9_joins 62 = .ok (.invokevirtual 244, 3) := by decide +kernel
theorem dX9_joins_65 : decode cX9_joins 65 = .ok (.goto (-65), 3) := by decide +kernel
theorem dX9_joins_68 : decode cX9_joins 68 = .ok (.return_, 1) := by decide +kernel
theorem dX9_opens_0 : decode cX9_opens 0 = .ok (.aload_n 0, 1) := by decide +kernel
theorem dX9_opens_1 : decode cX9_opens 1 = .ok (.getfield 105, 3) := by decide +kernel
theorem dX9_opens_4 : decode cX9_opens 4 = .ok (.bipush 6, 2) := by decide +kernel
theorem dX9_opens_6 : decode cX9_opens 6 = .ok (.if_icmp .ne 12, 3) := by decide +kernel
theorem dX9_opens_9 : decode cX9_opens 9 = .ok (.aload_n 0, 1) := by decide +kernel
theorem dX9_opens_10 : decode cX9_opens 10 = .ok (.iconst 3, 1) := by decide +kernel
theorem dX9_opens_11 : decode cX9_opens 11 = .ok (.aload_n 0, 1) := by decide +kernel
theorem dX9_opens_12 : decode cX9_opens 12 = .ok (.getfield 87, 3) := by decide +kernel
theorem dX9_opens_15 : decode cX9_opens 15 = .ok (.invokevirtual 195, 3) := by decide +kernel
theorem dX9_opens_18 : decode cX9_opens 18 = .ok (.aload_n 0, 1) := by decide +kernel
theorem dX9_opens_19 : decode cX9_opens 19 = .ok (.getfield 74, 3) := by decide +kernel
theorem dX9_opens_22 : decode cX9_opens 22 = .ok (.ifCond .le 4, 3) := by decide +kernel
theorem dX9_opens_25 : decode cX9_opens 25 = .ok (.return_, 1) := by decide +kernel
theorem dX9_opens_26 : decode cX9_opens 26 = .ok (.aload_n 0, 1) := by decide +kernel
theorem dX9_opens_27 : decode cX9_opens 27 = .ok (.dup, 1) := by decide +kernel
theorem dX9_opens_28 : decode cX9_opens 28 = .ok (.getfield 105, 3) := by decide +kernel
theorem dX9_opens_31 : decode cX9_opens 31 = .ok (.iconst 1, 1) := by decide +kernel
theorem dX9_opens_32 : decode cX9_opens 32 = .ok (.iadd, 1) := by decide +kernel
theorem dX9_opens_33 : decode cX9_opens 33 = .ok (.putfield 105, 3) := by decide +kernel
theorem dX9_opens_36 : decode cX9_opens 36 = .ok (.aload_n 0, 1) := by decide +kernel
theorem dX9_opens_37 : decode cX9_opens 37 = .ok (.getfield 96, 3) := by decide +kernel
theorem dX9_opens_40 : decode cX9_opens 40 = .ok (.aload_n 0, 1) := by decide +kernel
theorem dX9_opens_41 : decode cX9_opens 41 = .ok (.getfield 99, 3) := by decide +kernel
theorem dX9_opens_44 : decode cX9_opens 44 = .ok (.iload_n 1, 1) := by decide +kernel
theorem dX9_opens_45 : decode cX9_opens 45 = .ok (.iastore, 1) := by decide +kernel
theorem dX9_opens_46 : decode cX9_opens 46 = .ok (.aload_n 0, 1) := by decide +kernel
theorem dX9_opens_47 : decode cX9_opens 47 = .ok (.dup, 1) := by decide +kernel
theorem dX9_opens_48 : decode cX9_opens 48 = .ok (.getfield 99, 3) := by decide +kernel
theorem dX9_opens_51 : decode cX9_opens 51 = .ok (.iconst 1, 1) := by decide +kernel
theorem dX9_opens_52 : decode cX9_opens 52 = .ok (.iadd, 1) := by decide +kernel
theorem dX9_opens_53 : decode cX9_opens 53 = .ok (.putfield 99, 3) := by decide +kernel
theorem dX9_opens_56 : decode cX9_opens 56 = .ok (.aload_n 0, 1) := by decide +kernel
theorem dX9_opens_57 : decode cX9_opens 57 = .ok (.iload_n 1, 1) := by decide +kernel
theorem dX9_opens_58 : decode cX9_opens 58 = .ok (.bipush 12, 2) := by decide +kernel
theorem dX9_opens_60 : decode cX9_opens 60 = .ok (.if_icmp .ne 12, 3) := by decide +kernel
theorem dX9_opens_63 : decode cX9_opens 63 = .ok (.aload_n 0, 1) := by decide +kernel
theorem dX9_opens_64 : decode cX9_opens 64 = .ok (.getfield 87, 3) := by decide +kernel
theorem dX9_opens_67 : decode cX9_opens 67 = .ok (.iconst 1, 1) := by decide +kernel
theorem dX9_opens_68 : decode cX9_opens 68 = .ok (.iadd, 1) := by decide +kernel
theorem dX9_opens_69 : decode cX9_opens 69 = .ok (.goto 7, 3) := by decide +kernel
theorem dX9_opens_72 : decode cX9_opens 72 = .ok (.aload_n 0, 1) := by decide +kernel
theorem dX9_opens_73 : decode cX9_opens 73 = .ok (.invokevirtual 229, 3) := by decide +kernel
theorem dX9_opens_76 : decode cX9_opens 76 = .ok (.putfield 87, 3) := by decide +kernel
theorem dX9_opens_79 : decode cX9_opens 79 = .ok (.return_, 1) := by decide +kernel
theorem dX9_brackets_0 : decode cX9_brackets 0 = .ok (.iconst 0, 1) := by decide +kernel
theorem dX9_brackets_1 : decode cX9_brackets 1 = .ok (.istore_n 1, 1) := by decide +kernel
theorem dX9_brackets_2 : decode cX9_brackets 2 = .ok (.iconst 0, 1) := by decide +kernel
theorem dX9_brackets_3 : decode cX9_brackets 3 = .ok (.istore_n 2, 1) := by decide +kernel
theorem dX9_brackets_4 : decode cX9_brackets 4 = .ok (.iload_n 2, 1) := by decide +kernel
theorem dX9_brackets_5 : decode cX9_brackets 5 = .ok (.aload_n 0, 1) := by decide +kernel
theorem dX9_brackets_6 : decode cX9_brackets 6 = .ok (.getfield 99, 3) := by decide +kernel
theorem dX9_brackets_9 : decode cX9_brackets 9 = .ok (.if_icmp .ge 28, 3) := by decide +kernel
theorem dX9_brackets_12 : decode cX9_brackets 12 = .ok (.iload_n 1, 1) := by decide +kernel
theorem dX9_brackets_13 : decode cX9_brackets 13 = .ok (.aload_n 0, 1) := by decide +kernel
theorem dX9_brackets_14 : decode cX9_brackets 14 = .ok (.getfield 96, 3) := by decide +kernel
theorem dX9_brackets_17 : decode cX9_brackets 17 = .ok (.iload_n 2, 1) := by decide +kernel
theorem dX9_brackets_18 : decode cX9_brackets 18 = .ok (.iaload, 1) := by decide +kernel
theorem dX9_brackets_19 : decode cX9_brackets 19 = .ok (.bipush 12, 2) := by decide +kernel
theorem dX9_brackets_21 : decode cX9_brackets 21 = .ok (.if_icmp .ne 7, 3) := by decide +kernel
theorem dX9_brackets_24 : decode cX9_brackets 24 = .ok (.iconst 1, 1) := by decide +kernel
theorem dX9_brackets_25 : decode cX9_brackets 25 = .ok (.goto 4, 3) := by decide +kernel
theorem dX9_brackets_28 : decode cX9_brackets 28 = .ok (.iconst 0, 1) := by decide +kernel
theorem dX9_brackets_29 : decode cX9_brackets 29 = .ok (.iadd, 1) := by decide +kernel
theorem dX9_brackets_30 : decode cX9_brackets 30 = .ok (.istore_n 1, 1) := by decide +kernel
theorem dX9_brackets_31 : decode cX9_brackets 31 = .ok (.iinc 2 1, 3) := by decide +kernel
theorem dX9_brackets_34 : decode cX9_brackets 34 = .ok (.goto (-30), 3) := by decide +kernel
theorem dX9_brackets_37 : decode cX9_brackets 37 = .ok (.iload_n 1, 1) := by decide +kernel
theorem dX9_brackets_38 : decode cX9_brackets 38 = .ok (.ireturn, 1) := by decide +kernel
set_option maxRecDepth 20000 in
theorem ggX9_nots_X9_add : GoodIn wsX9_nots wsX9_add := goodIn_r _ [8, 9, 10, 11, 12, 13, 14, 15, 16, 17, 18, 19, 20, 21, 22, 23, 24, 25, 26, 27, 28, 29, 30, 31, 32, 33, 34, 35, 36, 37, 38, 39, 40, 41, 42, 43, 44, 45, 46, 47, 48, 49, 50, 51, 52, 53, 54, 55] rfl (by decide +kernel)
set_option maxRecDepth 20000 in
theorem gX9_nots_X9_add : GoodIn wsX9_nots (wsV RX9 244 RX9 yX9_add wsX9_add) := goodIn_app (goodIn_of _ (by decide +kernel)) ggX9_nots_X9_add
set_option maxRecDepth 20000 in
theorem ggX9_joins_X9_add : GoodIn wsX9_joins wsX9_add := goodIn_r _ [7, 8, 9, 10, 11, 12, 13, 14, 15, 16, 17, 18, 19, 20, 21, 22, 23, 24, 25, 26, 27, 28, 29, 30, 31, 32, 33, 34, 35, 36, 37, 38, 39, 40, 41, 42, 43, 44, 45, 46, 47, 48, 49, 50, 51, 52, 53, 54] rfl (by decide +kernel)
set_option maxRecDepth 20000 in
theorem gX9_joins_X9_add : GoodIn wsX9_joins (wsV RX9 244 RX9 yX9_add wsX9_add) := goodIn_app (goodIn_of _ (by decide +kernel)) ggX9_joins_X9_add
set_option maxRecDepth 20000 in
theorem ggX9_opens_X9_blame : GoodIn wsX9_opens wsX9_blame := goodIn_r _ [10, 3, 11, 21, 22, 23, 24, 25, 26, 27, 28, 29, 30, 31, 32, 33, 34, 35, 36, 37, 38, 39, 40, 41, 42, 43, 44, 45, 46, 47, 48, 49, 50, 51, 52, 53, 54, 55, 56, 57, 58, 59, 60, 61, 62, 63, 64] rfl (by decide +kernel)
set_option maxRecDepth 20000 in
theorem gX9_opens_X9_blame : GoodIn wsX9_opens (wsV RX9 195 RX9 yX9_blame wsX9_blame) := goodIn_app (goodIn_of _ (by decide +kernel)) ggX9_opens_X9_blame
set_option maxRecDepth 20000 in
theorem ggX9_opens_X9_wordEnd : GoodIn wsX9_opens wsX9_wordEnd := goodIn_r _ [15, 2, 16, 17, 18, 19, 9, 20, 21, 22, 23, 24, 25, 26, 27, 28, 29, 30, 31, 32, 33, 34, 35, 36, 37, 38, 39, 40, 41, 42, 43, 44, 45, 46, 47, 48, 49, 50, 51, 52, 53, 54, 55, 56, 57, 58, 59, 60, 61, 62, 63, 64] rfl (by decide +kernel)
set_option maxRecDepth 20000 in
theorem gX9_opens_X9_wordEnd : GoodIn wsX9_opens (wsV RX9 229 RX9 yX9_wordEnd wsX9_wordEnd) := goodIn_app (goodIn_of _ (by decide +kernel)) ggX9_opens_X9_wordEnd
theorem nj13 {z : Int32} (h : z = 2 ∨ z = 1) : ¬ z = 13 := by rcases h with rfl | rfl <;> decide
theorem nj3 {z : Int32} (h : z = 2 ∨ z = 1) : ¬ z = 3 := by rcases h with rfl | rfl <;> decide
theorem nj12 {z : Int32} (h : z = 1 ∨ z = 2) : ¬ z = 12 := by rcases h with rfl | rfl <;> decide
theorem pil.ex0 {f : Nat → Int32} {p x y j k : Nat} (h : pil f p x y j k) (hp : p = 0) : k = 0 := by rcases h.top with q | q | q <;> omega
theorem pil.ex1 {f : Nat → Int32} {p x y j k : Nat} (h : pil f p x y j k) (n2 : ¬ f (p - 1) = 2) (n1 : ¬ f (p - 1) = 1) : k = 0 := by
  rcases h.top with q | q | q
  · exact q
  · exact absurd q.2.2 n1
  · exact absurd q.2.2 n2
theorem pil.ex2 {f : Nat → Int32} {p x y j k : Nat} (h : pil f p x y j k) (n2 : ¬ f (p - 1) = 2) : k ≤ 1 := by
  rcases h.top with q | q | q
  · omega
  · omega
  · exact absurd q.2.2 n2
theorem wfs.joi {f g : Nat → Int32} {b L j : Nat} {z : Int32} (h : wfs f b L (j + 1)) (hj : 1 ≤ j) (hg : g = upd f (b + L) z) (hz : z = 2 ∨ z = 1) : wfs g b (L + 1) (j - 1 + 1) := by
  have h9 := (h.ext (g := g) (fun i h3 h4 => by rw [hg]; exact up_ne (by omega))).jo (by omega) (by rw [hg, up_eq]; exact nj13 hz) (by rw [hg, up_eq]; exact nj3 hz)
  rw [show j - 1 + 1 = j + 1 - 1 by omega]; exact h9
theorem wfs.noi {f g : Nat → Int32} {b L n : Nat} (h : wfs f b L n) (hn : 1 ≤ n) (hg : g = upd f (b + L) 3) : wfs g b (L + 1) n :=
  (h.ext (g := g) (fun i h3 h4 => by rw [hg]; exact up_ne (by omega))).no hn (by rw [hg]; exact up_eq)
theorem wfs.tei {f g : Nat → Int32} {b L n : Nat} (h : wfs f b L n) (hg : ∀ i : Nat, i < b + L → g i = f i) (e : g (b + L) = 13) (o : okT (g (b + (L + 1)))) : wfs g b (L + 4) (n + 1) :=
  (h.ext (g := g) (fun i h3 h4 => hg i h4)).te e o
set_option maxHeartbeats 4000000 in
set_option maxRecDepth 100000 in
theorem m_nots (l : Launch) (D : va_G) (h0 : Nat) (ad : Nat → Nat) (cs : Nat → ClassId) (iv : Nat → Int32) (fv : Nat → Nat → Int32) (gv : Nat → Int64) (n14 n29 n30 n31 : Nat) (gx gy gj gk : Nat) (sz : Nat) (h14 : iv 14 = nI n14) (h29 : iv 29 = nI n29) (h30 : iv 30 = nI n30) (h31 : iv 31 = nI n31) (b15 : n14 ≤ 15) (hp : pil (fv 28) n29 gx gy gj gk) (h6 : gx + gy ≤ 6) (hd9 : n31 = gx + gy) (hs9 : n30 + gj + gx ≤ 200) : Met l yX9_nots wsX9_nots ({ frames := 1, cells := 0, slots := 0, locals := 21 }) (va_Pc [.ref h0] (fun U => U.heap.size = sz ∧ va_P D vwCl (mw h0 ad cs iv fv gv) U.heap ∧ va_K D vwCl (mT cs) U ∧ va_D (fun _ => True) (mw h0 ad cs iv fv gv))) (va_Qv (fun _ : Unit => True) (fun (_ : Unit) (t : State) => ∃ (k29 : Nat) (k30 : Nat) (k31 : Nat) (f19 : Nat → Int32) (gx2 : Nat) (gk2 : Nat), (pil (fv 28) k29 gx2 gy gj gk2) ∧ (k31 = gx2 + gy) ∧ (k30 + gx2 = n30 + gx) ∧ (gx2 ≤ gx) ∧ (∀ i : Nat, i < 200 * n14 → f19 i = fv 19 i) ∧ (∀ n : Nat, 1 ≤ n → wfs (fv 19) (200 * n14) n30 n → wfs f19 (200 * n14) k30 n) ∧ va_P D vwCl (mw h0 ad cs (upd (upd (upd iv 29 (nI k29)) 30 (nI k30)) 31 (nI k31)) (uF fv 19 f19) gv) t.heap ∧ va_K D vwCl (mT cs) t ∧ va_D (va_A (mw h0 ad cs iv fv gv) sz) (mw h0 ad cs (upd (upd (upd iv 29 (nI k29)) 30 (nI k30)) 31 (nI k31)) (uF fv 19 f19) gv)) (va_A (mw h0 ad cs iv fv gv) sz)) 0 0 (va_A (mw h0 ad cs iv fv gv) sz) := by
  refine Met.ofW (cc := cX9_nots) (maxL := 1) (ret := none) (by decide) rfl ?_
  intro p e s m args below meth c s₁ B hml hv
  obtain ⟨rfl, hsz, hP, hK, hD0⟩ := hv
  have hx := B.exec
  have hb := B.bytes
  have hr := B.returns
  have hts := atoms_spec (ws := wsX9_nots) B.pre
  have hown : s.vm.findClass RX9 = some m.cls := findClass_of_methodNamed B.named
  have hlocks := B.notSynchronized
  subst hsz
  have hD := hD0.self (sz := s.heap.size)
  generalize hAe : va_A (mw h0 ad cs iv fv gv) s.heap.size = A at hD ⊢
  have hA : ∀ q : Nat, s.heap.size ≤ q → A q := fun q h => by rw [← hAe]; exact Or.inr h
  have hS : va_S A s.heap s.heap [] := va_S.rf
  have hin9 : ∀ w ∈ u_ws RX9 TX9 44, w ∈ wsX9_nots := (fun _ h9 => List.mem_cons_of_mem _ ((List.mem_append_right _ h9)))
  have hl := lv_entry ([.ref h0]) (n := 1) (Nat.le_of_ble_eq_true rfl)
  rw [lg_entry_eq]
  generalize (lg_sl ([.ref h0]) ++ List.replicate (1 - (lg_sl ([.ref h0])).length) Slot.unset).toArray = ls at hl ⊢
  have hl : lv_has ls 1 [(0, .ref h0)] := hl
  have hP : va_P D vwCl (mw h0 ad cs (upd (upd (upd iv 29 (iv 29)) 30 (iv 30)) 31 (iv 31)) fv gv) s.heap := hP
  have hD : va_D A (mw h0 ad cs (upd (upd (upd iv 29 (iv 29)) 30 (iv 30)) 31 (iv 31)) fv gv) := hD
  rw [h29, h30, h31] at hP hD
  refine lp_V (nL := 1) (σ := Nat × Nat × Nat × (Nat → Int32) × Nat × Nat) (lv := fun x9 => [(0, .ref h0)]) (μ := fun x9 => x9.1) (J := fun x9 ws9 => ws9 = (mw h0 ad cs (upd (upd (upd iv 29 (nI x9.1)) 30 (nI x9.2.1)) 31 (nI x9.2.2.1)) (uF fv 19 x9.2.2.2.1) gv) ∧ (pil (fv 28) x9.1 x9.2.2.2.2.1 gy gj x9.2.2.2.2.2) ∧ (x9.2.2.1 = x9.2.2.2.2.1 + gy) ∧ (x9.2.1 + x9.2.2.2.2.1 = n30 + gx) ∧ (x9.2.2.2.2.1 ≤ gx) ∧ (∀ i : Nat, i < 200 * n14 → x9.2.2.2.1 i = fv 19 i) ∧ (∀ n : Nat, 1 ≤ n → wfs (fv 19) (200 * n14) n30 n → wfs x9.2.2.2.1 (200 * n14) x9.2.1 n)) (fun x9 ws9 H locs ls hj hP hD hS hl ih_1 => ?_) (n29, n30, n31, fv 19, gx, gk) (mw h0 ad cs (upd (upd (upd iv 29 (nI n29)) 30 (nI n30)) 31 (nI n31)) fv gv) _ _ ls ⟨rfl, (show pil (fv 28) n29 gx gy gj gk from hp), (show n31 = gx + gy from by omega), (show n30 + gx = n30 + gx from by omega), (show gx ≤ gx from by omega), (show ∀ i : Nat, i < 200 * n14 → (fv 19) i = fv 19 i from fun i h9 => rfl), (show ∀ n : Nat, 1 ≤ n → wfs (fv 19) (200 * n14) n30 n → wfs (fv 19) (200 * n14) n30 n from fun n h1 h2 => h2)⟩ hP hD hS (lv_sub hl [0] rfl)
  obtain ⟨p_2, d_3, q_4, f19_5, x_6, k_7⟩ := x9
  replace hj : ws9 = (mw h0 ad cs (upd (upd (upd iv 29 (nI p_2)) 30 (nI d_3)) 31 (nI q_4)) (uF fv 19 f19_5) gv) ∧ (pil (fv 28) p_2 x_6 gy gj k_7) ∧ (q_4 = x_6 + gy) ∧ (d_3 + x_6 = n30 + gx) ∧ (x_6 ≤ gx) ∧ (∀ i : Nat, i < 200 * n14 → f19_5 i = fv 19 i) ∧ (∀ n : Nat, 1 ≤ n → wfs (fv 19) (200 * n14) n30 n → wfs f19_5 (200 * n14) d_3 n) := hj
  obtain ⟨rfl, hp_8, hq_9, hd_10, hx_11, hfr_12, hw_13⟩ := hj
  have hl : lv_has ls 1 [(0, .ref h0)] := hl
  have hlen := hp_8.len
  refine lv_aload_n hx hb dX9_nots_0 rfl (lv_at hl 0 rfl) ?_
  refine va_get (D := D) (ci := 9) (v := .int (nI p_2)) (C := RX9) (T := TX9) (N := 44) hx hb hts hin9 hown hK hP 0 rfl rfl 29 (by decide) (hts (.fieldLink RX9 99 "HoneyHouseModel" "piled" "I") (List.mem_of_getElem? (i := 1) rfl)) (fun _ h9 => h9) rfl dX9_nots_1 ?_
  refine lv_if_le (tgt := 50) hx hb dX9_nots_4 (by decide) (fun c_14 => ?_) (fun c_14 => ?_)
  · have d_15 := n_le (a := p_2) (b := 0) (by omega) (by omega) c_14
    have hP : va_P D vwCl (mw h0 ad cs (upd (upd (upd iv 29 (nI p_2)) 30 (nI d_3)) 31 (nI q_4)) (uF fv 19 f19_5) gv) H := hP
    have hD : va_D A (mw h0 ad cs (upd (upd (upd iv 29 (nI p_2)) 30 (nI d_3)) 31 (nI q_4)) (uF fv 19 f19_5) gv) := hD
    exact W.vret hx hb hr (fun t ht hW => ⟨⟨(), rfl, trivial, p_2, d_3, q_4, f19_5, x_6, k_7, hp_8, by omega, by omega, by omega, hfr_12, hw_13, by rw [ht]; exact hP, va_K.moved hW.alike hK, hD⟩, hS.F ht⟩) hS.2.2 dX9_nots_50
  have d_16 := n_nle (a := p_2) (b := 0) (by omega) (by omega) c_14
  refine lv_aload_n hx hb dX9_nots_7 rfl (lv_at hl 0 rfl) ?_
  refine va_get (D := D) (ci := 9) (v := .ref (ad 28)) (C := RX9) (T := TX9) (N := 44) hx hb hts hin9 hown hK hP 0 rfl rfl 28 (by decide) (hts (.fieldLink RX9 96 "HoneyHouseModel" "pile" "[I") (List.mem_of_getElem? (i := 2) rfl)) (fun _ h9 => h9) rfl dX9_nots_8 ?_
  refine lv_aload_n hx hb dX9_nots_11 rfl (lv_at hl 0 rfl) ?_
  refine va_get (D := D) (ci := 9) (v := .int (nI p_2)) (C := RX9) (T := TX9) (N := 44) hx hb hts hin9 hown hK hP 0 rfl rfl 29 (by decide) (hts (.fieldLink RX9 99 "HoneyHouseModel" "piled" "I") (List.mem_of_getElem? (i := 1) rfl)) (fun _ h9 => h9) rfl dX9_nots_12 ?_
  refine lv_iconst (v := 1) hx hb dX9_nots_15 (by decide) ?_
  refine lv_isub hx hb dX9_nots_16 ?_
  refine tp_i (y := nI (p_2 - 1)) (pk_sub (a := p_2) (b := 1) (by omega)) ?_
  refine va_iald (f := fv 28) (n := 32) hx hb hK hP 19 18 rfl rfl (vp_in_nI (n := p_2 - 1) (by omega) (by omega)) dX9_nots_17 ?_
  refine lv_topi (fun z_17 hz_18 => ?_)
  rw [nI_clamp (n := p_2 - 1) (by omega)] at hz_18
  refine lv_iconst (v := 3) hx hb dX9_nots_18 (by decide) ?_
  refine lv_icmp_ne (tgt := 50) hx hb dX9_nots_19 (by decide) (fun c_19 => ?_) (fun c_19 => ?_)
  · have hP : va_P D vwCl (mw h0 ad cs (upd (upd (upd iv 29 (nI p_2)) 30 (nI d_3)) 31 (nI q_4)) (uF fv 19 f19_5) gv) H := hP
    have hD : va_D A (mw h0 ad cs (upd (upd (upd iv 29 (nI p_2)) 30 (nI d_3)) 31 (nI q_4)) (uF fv 19 f19_5) gv) := hD
    exact W.vret hx hb hr (fun t ht hW => ⟨⟨(), rfl, trivial, p_2, d_3, q_4, f19_5, x_6, k_7, hp_8, by omega, by omega, by omega, hfr_12, hw_13, by rw [ht]; exact hP, va_K.moved hW.alike hK, hD⟩, hS.F ht⟩) hS.2.2 dX9_nots_50
  obtain ⟨hx_20, k_21, hp_22⟩ := hp_8.popN (by omega) (hz_18.symm.trans c_19)
  refine lv_aload_n hx hb dX9_nots_22 rfl (lv_at hl 0 rfl) ?_
  refine lv_dup hx hb dX9_nots_23 rfl ?_
  refine va_get (D := D) (ci := 9) (v := .int (nI p_2)) (C := RX9) (T := TX9) (N := 44) hx hb hts hin9 hown hK hP 0 rfl rfl 29 (by decide) (hts (.fieldLink RX9 99 "HoneyHouseModel" "piled" "I") (List.mem_of_getElem? (i := 1) rfl)) (fun _ h9 => h9) rfl dX9_nots_24 ?_
  refine lv_iconst (v := 1) hx hb dX9_nots_27 (by decide) ?_
  refine lv_isub hx hb dX9_nots_28 ?_
  refine tp_i (y := nI (p_2 - 1)) (pk_sub (a := p_2) (b := 1) (by omega)) ?_
  refine va_put (D := D) (ci := 9) (v := .int (nI (p_2 - 1))) (ty := .int) (C := RX9) (T := TX9) (N := 44) hx hb hts hin9 tyX9 tyX9_ok nmX9 hown hK hP hD hS 0 rfl rfl 29 (by decide) (hts (.fieldLink RX9 99 "HoneyHouseModel" "piled" "I") (List.mem_of_getElem? (i := 1) rfl)) (fun _ h9 => h9) rfl (tyX9_ok 29 (by decide)) rfl rfl (Nat.le_of_ble_eq_true rfl) dX9_nots_29 (fun H locs hP hD hS => ?_)
  have hP : va_P D vwCl (mw h0 ad cs (upd (upd (upd iv 29 (nI (p_2 - 1))) 30 (nI d_3)) 31 (nI q_4)) (uF fv 19 f19_5) gv) H := hP
  have hD : va_D A (mw h0 ad cs (upd (upd (upd iv 29 (nI (p_2 - 1))) 30 (nI d_3)) 31 (nI q_4)) (uF fv 19 f19_5) gv) := hD
  refine lv_aload_n hx hb dX9_nots_32 rfl (lv_at hl 0 rfl) ?_
  refine lv_dup hx hb dX9_nots_33 rfl ?_
  refine va_get (D := D) (ci := 9) (v := .int (nI q_4)) (C := RX9) (T := TX9) (N := 44) hx hb hts hin9 hown hK hP 0 rfl rfl 31 (by decide) (hts (.fieldLink RX9 105 "HoneyHouseModel" "deep" "I") (List.mem_of_getElem? (i := 3) rfl)) (fun _ h9 => h9) rfl dX9_nots_34 ?_
  refine lv_iconst (v := 1) hx hb dX9_nots_37 (by decide) ?_
  refine lv_isub hx hb dX9_nots_38 ?_
  refine tp_i (y := nI (q_4 - 1)) (pk_sub (a := q_4) (b := 1) (by omega)) ?_
  refine va_put (D := D) (ci := 9) (v := .int (nI (q_4 - 1))) (ty := .int) (C := RX9) (T := TX9) (N := 44) hx hb hts hin9 tyX9 tyX9_ok nmX9 hown hK hP hD hS 0 rfl rfl 31 (by decide) (hts (.fieldLink RX9 105 "HoneyHouseModel" "deep" "I") (List.mem_of_getElem? (i := 3) rfl)) (fun _ h9 => h9) rfl (tyX9_ok 31 (by decide)) rfl rfl (Nat.le_of_ble_eq_true rfl) dX9_nots_39 (fun H locs hP hD hS => ?_)
  have hP : va_P D vwCl (mw h0 ad cs (upd (upd (upd iv 29 (nI (p_2 - 1))) 30 (nI d_3)) 31 (nI (q_4 - 1))) (uF fv 19 f19_5) gv) H := hP
  have hD : va_D A (mw h0 ad cs (upd (upd (upd iv 29 (nI (p_2 - 1))) 30 (nI d_3)) 31 (nI (q_4 - 1))) (uF fv 19 f19_5) gv) := hD
  refine lv_aload_n hx hb dX9_nots_42 rfl (lv_at hl 0 rfl) ?_
  refine lv_iconst (v := 3) hx hb dX9_nots_43 (by decide) ?_
  have hFc := free_all hD hS hA
  refine va_callv (va_runV (As := [.int 3]) (rest := []) ⟨hx, hb, hml, hown, hts⟩ (m_add l D h0 ad cs (upd (upd (upd iv 29 (nI (p_2 - 1))) 30 (nI d_3)) 31 (nI (q_4 - 1))) (uF fv 19 f19_5) gv n14 d_3 3 H.size h14 rfl (by omega) (by omega)) (cwV 1 hts gX9_nots_X9_add rfl rfl rfl (by decide +kernel) ⟨Nat.le_of_ble_eq_true rfl, Nat.le_of_ble_eq_true rfl⟩) ⟨fun a U g mk q => by obtain ⟨q0, q1, qP, qK, qD⟩ := q; exact ⟨q0, q1, qP, va_K.moved (u := U) (U := U.calling g mk a) (Vm.Alike.refl U.vm) qK, qD⟩, va_recv hK hP (ci := 9) (q0 := 0) rfl rfl, fun U hU hW => ⟨rfl, by rw [hU], by rw [hU]; exact hP, va_K.moved hW.alike hK, hD.weaken (fun _ _ _ _ => trivial)⟩⟩ rfl rfl hl.1 rfl (lv_room (Nat.le_of_ble_eq_true rfl)) dX9_nots_44 ⟨Nat.le_of_ble_eq_true rfl, Nat.le_of_ble_eq_true rfl⟩) hS (fun q _ h => hFc q h) hFc (fun u t H1 locs ht hvm w_24 hB hz1 hk1 hS => ?_)
  obtain ⟨f19_25, q_26, hP1, hK1, hD1⟩ := hB
  replace q_26 : f19_25 = upd ((f19_5)) (200 * n14 + d_3) 3 := q_26
  rw [ht] at hP1
  have hK := va_K.moved hvm.symm hK1
  generalize H1 = H at hP1 hS ⊢
  have hP : va_P D vwCl (mw h0 ad cs (upd (upd (upd iv 29 (nI (p_2 - 1))) 30 (nI (d_3 + 1))) 31 (nI (q_4 - 1))) (uF fv 19 f19_25) gv) H := hP1
  have hD : va_D A (mw h0 ad cs (upd (upd (upd iv 29 (nI (p_2 - 1))) 30 (nI (d_3 + 1))) 31 (nI (q_4 - 1))) (uF fv 19 f19_25) gv) := hD1.weaken (fun _ _ _ h => hFc _ h)
  refine lv_goto (tgt := 0) hx hb dX9_nots_47 (by decide) ?_
  exact ih_1 (p_2 - 1, d_3 + 1, q_4 - 1, f19_25, x_6 - 1, k_21) (mw h0 ad cs (upd (upd (upd iv 29 (nI (p_2 - 1))) 30 (nI (d_3 + 1))) 31 (nI (q_4 - 1))) (uF fv 19 f19_25) gv) _ _ ls (by show (p_2 - 1) < p_2; omega) ⟨rfl, (show pil (fv 28) (p_2 - 1) (x_6 - 1) gy gj k_21 from hp_22), (show (q_4 - 1) = (x_6 - 1) + gy from by omega), (show (d_3 + 1) + (x_6 - 1) = n30 + gx from by omega), (show (x_6 - 1) ≤ gx from by omega), (show ∀ i : Nat, i < 200 * n14 → f19_25 i = fv 19 i from fun i h9 => by rw [q_26, up_ne (by omega)]; exact hfr_12 i h9), (show ∀ n : Nat, 1 ≤ n → wfs (fv 19) (200 * n14) n30 n → wfs f19_25 (200 * n14) (d_3 + 1) n from fun n h1 h2 => (hw_13 n h1 h2).noi h1 q_26)⟩ hP hD hS (lv_sub hl [0] rfl)
set_option maxHeartbeats 4000000 in
set_option maxRecDepth 100000 in
theorem m_joins (l : Launch) (D : va_G) (h0 : Nat) (ad : Nat → Nat) (cs : Nat → ClassId) (iv : Nat → Int32) (fv : Nat → Nat → Int32) (gv : Nat → Int64) (n14 n29 n30 : Nat) (lw : Nat) (gx gy gj gk : Nat) (sz : Nat) (h14 : iv 14 = nI n14) (h29 : iv 29 = nI n29) (h30 : iv 30 = nI n30) (b15 : n14 ≤ 15) (hlw : lw = 1 ∨ lw = 2) (hp : pil (fv 28) n29 gx gy gj gk) (h6 : gx + gy ≤ 6) (hs9 : n30 + gj + gx ≤ 200) : Met l yX9_joins wsX9_joins ({ frames := 1, cells := 0, slots := 0, locals := 21 }) (va_Pc [.ref h0, .int (nI lw)] (fun U => U.heap.size = sz ∧ va_P D vwCl (mw h0 ad cs iv fv gv) U.heap ∧ va_K D vwCl (mT cs) U ∧ va_D (fun _ => True) (mw h0 ad cs iv fv gv))) (va_Qv (fun _ : Unit => True) (fun (_ : Unit) (t : State) => ∃ (k29 : Nat) (k30 : Nat) (f19 : Nat → Int32) (gj2 : Nat) (gk2 : Nat), (pil (fv 28) k29 gx gy gj2 gk2) ∧ (k30 + gj2 = n30 + gj) ∧ (gj2 ≤ gj) ∧ (k29 ≤ n29) ∧ (∀ i : Nat, k29 ≤ i → i < n29 → fv 28 i = 1 ∨ fv 28 i = 2) ∧ (∀ i : Nat, i < 200 * n14 → f19 i = fv 19 i) ∧ (wfs (fv 19) (200 * n14) n30 (gj + 1) → wfs f19 (200 * n14) k30 (gj2 + 1)) ∧ (gk2 = 0 ∨ (lw = 2 ∧ gk2 ≤ 1)) ∧ va_P D vwCl (mw h0 ad cs (upd (upd iv 29 (nI k29)) 30 (nI k30)) (uF fv 19 f19) gv) t.heap ∧ va_K D vwCl (mT cs) t ∧ va_D (va_A (mw h0 ad cs iv fv gv) sz) (mw h0 ad cs (upd (upd iv 29 (nI k29)) 30 (nI k30)) (uF fv 19 f19) gv)) (va_A (mw h0 ad cs iv fv gv) sz)) 0 0 (va_A (mw h0 ad cs iv fv gv) sz) := by
  refine Met.ofW (cc := cX9_joins) (maxL := 2) (ret := none) (by decide) rfl ?_
  intro p e s m args below meth c s₁ B hml hv
  obtain ⟨rfl, hsz, hP, hK, hD0⟩ := hv
  have hx := B.exec
  have hb := B.bytes
  have hr := B.returns
  have hts := atoms_spec (ws := wsX9_joins) B.pre
  have hown : s.vm.findClass RX9 = some m.cls := findClass_of_methodNamed B.named
  have hlocks := B.notSynchronized
  subst hsz
  have hD := hD0.self (sz := s.heap.size)
  generalize hAe : va_A (mw h0 ad cs iv fv gv) s.heap.size = A at hD ⊢
  have hA : ∀ q : Nat, s.heap.size ≤ q → A q := fun q h => by rw [← hAe]; exact Or.inr h
  have hS : va_S A s.heap s.heap [] := va_S.rf
  have hin9 : ∀ w ∈ u_ws RX9 TX9 44, w ∈ wsX9_joins := (fun _ h9 => List.mem_cons_of_mem _ ((List.mem_append_right _ h9)))
  have hl := lv_entry ([.ref h0, .int (nI lw)]) (n := 2) (Nat.le_of_ble_eq_true rfl)
  rw [lg_entry_eq]
  generalize (lg_sl ([.ref h0, .int (nI lw)]) ++ List.replicate (2 - (lg_sl ([.ref h0, .int (nI lw)])).length) Slot.unset).toArray = ls at hl ⊢
  have hl : lv_has ls 2 [(0, .ref h0), (1, .int (nI lw))] := hl
  have hP : va_P D vwCl (mw h0 ad cs (upd (upd iv 29 (iv 29)) 30 (iv 30)) fv gv) s.heap := hP
  have hD : va_D A (mw h0 ad cs (upd (upd iv 29 (iv 29)) 30 (iv 30)) fv gv) := hD
  rw [h29, h30] at hP hD
  refine lp_V (nL := 2) (σ := Nat × Nat × (Nat → Int32) × Nat × Nat) (lv := fun x9 => [(1, .int (nI lw)), (0, .ref h0)]) (μ := fun x9 => x9.1) (J := fun x9 ws9 => ws9 = (mw h0 ad cs (upd (upd iv 29 (nI x9.1)) 30 (nI x9.2.1)) (uF fv 19 x9.2.2.1) gv) ∧ (pil (fv 28) x9.1 gx gy x9.2.2.2.1 x9.2.2.2.2) ∧ (x9.2.1 + x9.2.2.2.1 = n30 + gj) ∧ (x9.2.2.2.1 ≤ gj) ∧ (x9.1 ≤ n29) ∧ (∀ i : Nat, x9.1 ≤ i → i < n29 → fv 28 i = 1 ∨ fv 28 i = 2) ∧ (∀ i : Nat, i < 200 * n14 → x9.2.2.1 i = fv 19 i) ∧ (wfs (fv 19) (200 * n14) n30 (gj + 1) → wfs x9.2.2.1 (200 * n14) x9.2.1 (x9.2.2.2.1 + 1))) (fun x9 ws9 H locs ls hj hP hD hS hl ih_1 => ?_) (n29, n30, fv 19, gj, gk) (mw h0 ad cs (upd (upd iv 29 (nI n29)) 30 (nI n30)) fv gv) _ _ ls ⟨rfl, (show pil (fv 28) n29 gx gy gj gk from hp), (show n30 + gj = n30 + gj from by omega), (show gj ≤ gj from by omega), (show n29 ≤ n29 from by omega), (show ∀ i : Nat, n29 ≤ i → i < n29 → fv 28 i = 1 ∨ fv 28 i = 2 from fun i h1 h2 => absurd h2 (by omega)), (show ∀ i : Nat, i < 200 * n14 → (fv 19) i = fv 19 i from fun i h9 => rfl), (show wfs (fv 19) (200 * n14) n30 (gj + 1) → wfs (fv 19) (200 * n14) n30 (gj + 1) from fun h1 => h1)⟩ hP hD hS (lv_sub hl [1, 0] rfl)
  obtain ⟨p_2, d_3, f19_4, j_5, k_6⟩ := x9
  replace hj : ws9 = (mw h0 ad cs (upd (upd iv 29 (nI p_2)) 30 (nI d_3)) (uF fv 19 f19_4) gv) ∧ (pil (fv 28) p_2 gx gy j_5 k_6) ∧ (d_3 + j_5 = n30 + gj) ∧ (j_5 ≤ gj) ∧ (p_2 ≤ n29) ∧ (∀ i : Nat, p_2 ≤ i → i < n29 → fv 28 i = 1 ∨ fv 28 i = 2) ∧ (∀ i : Nat, i < 200 * n14 → f19_4 i = fv 19 i) ∧ (wfs (fv 19) (200 * n14) n30 (gj + 1) → wfs f19_4 (200 * n14) d_3 (j_5 + 1)) := hj
  obtain ⟨rfl, hp_7, hd_8, hj_9, hpn_10, hpo_11, hfr_12, hw_13⟩ := hj
  have hl : lv_has ls 2 [(1, .int (nI lw)), (0, .ref h0)] := hl
  have hlen := hp_7.len
  refine lv_aload_n hx hb dX9_joins_0 rfl (lv_at hl 1 rfl) ?_
  refine va_get (D := D) (ci := 9) (v := .int (nI p_2)) (C := RX9) (T := TX9) (N := 44) hx hb hts hin9 hown hK hP 0 rfl rfl 29 (by decide) (hts (.fieldLink RX9 99 "HoneyHouseModel" "piled" "I") (List.mem_of_getElem? (i := 1) rfl)) (fun _ h9 => h9) rfl dX9_joins_1 ?_
  refine lv_if_le (tgt := 68) hx hb dX9_joins_4 (by decide) (fun c_14 => ?_) (fun c_14 => ?_)
  · have d_15 := n_le (a := p_2) (b := 0) (by omega) (by omega) c_14
    have hP : va_P D vwCl (mw h0 ad cs (upd (upd iv 29 (nI p_2)) 30 (nI d_3)) (uF fv 19 f19_4) gv) H := hP
    have hD : va_D A (mw h0 ad cs (upd (upd iv 29 (nI p_2)) 30 (nI d_3)) (uF fv 19 f19_4) gv) := hD
    exact W.vret hx hb hr (fun t ht hW => ⟨⟨(), rfl, trivial, p_2, d_3, f19_4, j_5, k_6, hp_7, by omega, by omega, by omega, hpo_11, hfr_12, hw_13, Or.inl (hp_7.ex0 (by omega)), by rw [ht]; exact hP, va_K.moved hW.alike hK, hD⟩, hS.F ht⟩) hS.2.2 dX9_joins_68
  have d_16 := n_nle (a := p_2) (b := 0) (by omega) (by omega) c_14
  refine lv_aload_n hx hb dX9_joins_7 rfl (lv_at hl 1 rfl) ?_
  refine va_get (D := D) (ci := 9) (v := .ref (ad 28)) (C := RX9) (T := TX9) (N := 44) hx hb hts hin9 hown hK hP 0 rfl rfl 28 (by decide) (hts (.fieldLink RX9 96 "HoneyHouseModel" "pile" "[I") (List.mem_of_getElem? (i := 2) rfl)) (fun _ h9 => h9) rfl dX9_joins_8 ?_
  refine lv_aload_n hx hb dX9_joins_11 rfl (lv_at hl 1 rfl) ?_
  refine va_get (D := D) (ci := 9) (v := .int (nI p_2)) (C := RX9) (T := TX9) (N := 44) hx hb hts hin9 hown hK hP 0 rfl rfl 29 (by decide) (hts (.fieldLink RX9 99 "HoneyHouseModel" "piled" "I") (List.mem_of_getElem? (i := 1) rfl)) (fun _ h9 => h9) rfl dX9_joins_12 ?_
  refine lv_iconst (v := 1) hx hb dX9_joins_15 (by decide) ?_
  refine lv_isub hx hb dX9_joins_16 ?_
  refine tp_i (y := nI (p_2 - 1)) (pk_sub (a := p_2) (b := 1) (by omega)) ?_
  refine va_iald (f := fv 28) (n := 32) hx hb hK hP 19 18 rfl rfl (vp_in_nI (n := p_2 - 1) (by omega) (by omega)) dX9_joins_17 ?_
  refine lv_topi (fun z_17 hz_18 => ?_)
  rw [nI_clamp (n := p_2 - 1) (by omega)] at hz_18
  refine lv_iconst (v := 2) hx hb dX9_joins_18 (by decide) ?_
  refine lv_icmp_eq (tgt := 42) hx hb dX9_joins_19 (by decide) (fun c_19 => ?_) (fun c_19 => ?_)
  · have hc_23 : fv 28 (p_2 - 1) = 2 ∨ fv 28 (p_2 - 1) = 1 := Or.inl (hz_18.symm.trans c_19)
    obtain ⟨hj_20, k_21, hp_22⟩ := hp_7.popJ (by omega) hc_23
    refine lv_aload_n hx hb dX9_joins_42 rfl (lv_at hl 1 rfl) ?_
    refine lv_dup hx hb dX9_joins_43 rfl ?_
    refine va_get (D := D) (ci := 9) (v := .int (nI p_2)) (C := RX9) (T := TX9) (N := 44) hx hb hts hin9 hown hK hP 0 rfl rfl 29 (by decide) (hts (.fieldLink RX9 99 "HoneyHouseModel" "piled" "I") (List.mem_of_getElem? (i := 1) rfl)) (fun _ h9 => h9) rfl dX9_joins_44 ?_
    refine lv_iconst (v := 1) hx hb dX9_joins_47 (by decide) ?_
    refine lv_isub hx hb dX9_joins_48 ?_
    refine tp_i (y := nI (p_2 - 1)) (pk_sub (a := p_2) (b := 1) (by omega)) ?_
    refine va_put (D := D) (ci := 9) (v := .int (nI (p_2 - 1))) (ty := .int) (C := RX9) (T := TX9) (N := 44) hx hb hts hin9 tyX9 tyX9_ok nmX9 hown hK hP hD hS 0 rfl rfl 29 (by decide) (hts (.fieldLink RX9 99 "HoneyHouseModel" "piled" "I") (List.mem_of_getElem? (i := 1) rfl)) (fun _ h9 => h9) rfl (tyX9_ok 29 (by decide)) rfl rfl (Nat.le_of_ble_eq_true rfl) dX9_joins_49 (fun H locs hP hD hS => ?_)
    have hP : va_P D vwCl (mw h0 ad cs (upd (upd iv 29 (nI (p_2 - 1))) 30 (nI d_3)) (uF fv 19 f19_4) gv) H := hP
    have hD : va_D A (mw h0 ad cs (upd (upd iv 29 (nI (p_2 - 1))) 30 (nI d_3)) (uF fv 19 f19_4) gv) := hD
    refine lv_aload_n hx hb dX9_joins_52 rfl (lv_at hl 1 rfl) ?_
    refine lv_aload_n hx hb dX9_joins_53 rfl (lv_at hl 1 rfl) ?_
    refine va_get (D := D) (ci := 9) (v := .ref (ad 28)) (C := RX9) (T := TX9) (N := 44) hx hb hts hin9 hown hK hP 0 rfl rfl 28 (by decide) (hts (.fieldLink RX9 96 "HoneyHouseModel" "pile" "[I") (List.mem_of_getElem? (i := 2) rfl)) (fun _ h9 => h9) rfl dX9_joins_54 ?_
    refine lv_aload_n hx hb dX9_joins_57 rfl (lv_at hl 1 rfl) ?_
    refine va_get (D := D) (ci := 9) (v := .int (nI (p_2 - 1))) (C := RX9) (T := TX9) (N := 44) hx hb hts hin9 hown hK hP 0 rfl rfl 29 (by decide) (hts (.fieldLink RX9 99 "HoneyHouseModel" "piled" "I") (List.mem_of_getElem? (i := 1) rfl)) (fun _ h9 => h9) rfl dX9_joins_58 ?_
    refine va_iald (f := fv 28) (n := 32) hx hb hK hP 19 18 rfl rfl (vp_in_nI (n := p_2 - 1) (by omega) (by omega)) dX9_joins_61 ?_
    refine lv_topi (fun z_24 hz_25 => ?_)
    rw [nI_clamp (n := p_2 - 1) (by omega)] at hz_25
    have hFc := free_all hD hS hA
    refine va_callv (va_runV (As := [.int z_24]) (rest := []) ⟨hx, hb, hml, hown, hts⟩ (m_add l D h0 ad cs (upd (upd iv 29 (nI (p_2 - 1))) 30 (nI d_3)) (uF fv 19 f19_4) gv n14 d_3 z_24 H.size h14 rfl (by omega) (by omega)) (cwV 1 hts gX9_joins_X9_add rfl rfl rfl (by decide +kernel) ⟨Nat.le_of_ble_eq_true rfl, Nat.le_of_ble_eq_true rfl⟩) ⟨fun a U g mk q => by obtain ⟨q0, q1, qP, qK, qD⟩ := q; exact ⟨q0, q1, qP, va_K.moved (u := U) (U := U.calling g mk a) (Vm.Alike.refl U.vm) qK, qD⟩, va_recv hK hP (ci := 9) (q0 := 0) rfl rfl, fun U hU hW => ⟨rfl, by rw [hU], by rw [hU]; exact hP, va_K.moved hW.alike hK, hD.weaken (fun _ _ _ _ => trivial)⟩⟩ rfl rfl hl.1 rfl (lv_room (Nat.le_of_ble_eq_true rfl)) dX9_joins_62 ⟨Nat.le_of_ble_eq_true rfl, Nat.le_of_ble_eq_true rfl⟩) hS (fun q _ h => hFc q h) hFc (fun u t H1 locs ht hvm w_27 hB hz1 hk1 hS => ?_)
    obtain ⟨f19_28, q_29, hP1, hK1, hD1⟩ := hB
    replace q_29 : f19_28 = upd ((f19_4)) (200 * n14 + d_3) z_24 := q_29
    rw [ht] at hP1
    have hK := va_K.moved hvm.symm hK1
    generalize H1 = H at hP1 hS ⊢
    have hP : va_P D vwCl (mw h0 ad cs (upd (upd iv 29 (nI (p_2 - 1))) 30 (nI (d_3 + 1))) (uF fv 19 f19_28) gv) H := hP1
    have hD : va_D A (mw h0 ad cs (upd (upd iv 29 (nI (p_2 - 1))) 30 (nI (d_3 + 1))) (uF fv 19 f19_28) gv) := hD1.weaken (fun _ _ _ h => hFc _ h)
    refine lv_goto (tgt := 0) hx hb dX9_joins_65 (by decide) ?_
    exact ih_1 (p_2 - 1, d_3 + 1, f19_28, j_5 - 1, k_21) (mw h0 ad cs (upd (upd iv 29 (nI (p_2 - 1))) 30 (nI (d_3 + 1))) (uF fv 19 f19_28) gv) _ _ ls (by show (p_2 - 1) < p_2; omega) ⟨rfl, (show pil (fv 28) (p_2 - 1) gx gy (j_5 - 1) k_21 from hp_22), (show (d_3 + 1) + (j_5 - 1) = n30 + gj from by omega), (show (j_5 - 1) ≤ gj from by omega), (show (p_2 - 1) ≤ n29 from by omega), (show ∀ i : Nat, (p_2 - 1) ≤ i → i < n29 → fv 28 i = 1 ∨ fv 28 i = 2 from fun i h1 h2 => (Nat.lt_or_ge i p_2).elim (fun q9 => by rw [show i = p_2 - 1 by omega]; exact hc_23.symm) (fun q9 => hpo_11 i q9 h2)), (show ∀ i : Nat, i < 200 * n14 → f19_28 i = fv 19 i from fun i h9 => by rw [q_29, up_ne (by omega)]; exact hfr_12 i h9), (show wfs (fv 19) (200 * n14) n30 (gj + 1) → wfs f19_28 (200 * n14) (d_3 + 1) ((j_5 - 1) + 1) from fun h1 => (hw_13 h1).joi (by omega) q_29 (by rw [hz_25]; exact hc_23))⟩ hP hD hS (lv_sub hl [0, 1] rfl)
  refine lv_aload_n hx hb dX9_joins_22 rfl (lv_at hl 1 rfl) ?_
  refine va_get (D := D) (ci := 9) (v := .ref (ad 28)) (C := RX9) (T := TX9) (N := 44) hx hb hts hin9 hown hK hP 0 rfl rfl 28 (by decide) (hts (.fieldLink RX9 96 "HoneyHouseModel" "pile" "[I") (List.mem_of_getElem? (i := 2) rfl)) (fun _ h9 => h9) rfl dX9_joins_23 ?_
  refine lv_aload_n hx hb dX9_joins_26 rfl (lv_at hl 1 rfl) ?_
  refine va_get (D := D) (ci := 9) (v := .int (nI p_2)) (C := RX9) (T := TX9) (N := 44) hx hb hts hin9 hown hK hP 0 rfl rfl 29 (by decide) (hts (.fieldLink RX9 99 "HoneyHouseModel" "piled" "I") (List.mem_of_getElem? (i := 1) rfl)) (fun _ h9 => h9) rfl dX9_joins_27 ?_
  refine lv_iconst (v := 1) hx hb dX9_joins_30 (by decide) ?_
  refine lv_isub hx hb dX9_joins_31 ?_
  refine tp_i (y := nI (p_2 - 1)) (pk_sub (a := p_2) (b := 1) (by omega)) ?_
  refine va_iald (f := fv 28) (n := 32) hx hb hK hP 19 18 rfl rfl (vp_in_nI (n := p_2 - 1) (by omega) (by omega)) dX9_joins_32 ?_
  refine lv_topi (fun z_30 hz_31 => ?_)
  rw [nI_clamp (n := p_2 - 1) (by omega)] at hz_31
  refine lv_iconst (v := 1) hx hb dX9_joins_33 (by decide) ?_
  refine lv_icmp_ne (tgt := 68) hx hb dX9_joins_34 (by decide) (fun c_32 => ?_) (fun c_32 => ?_)
  · have hP : va_P D vwCl (mw h0 ad cs (upd (upd iv 29 (nI p_2)) 30 (nI d_3)) (uF fv 19 f19_4) gv) H := hP
    have hD : va_D A (mw h0 ad cs (upd (upd iv 29 (nI p_2)) 30 (nI d_3)) (uF fv 19 f19_4) gv) := hD
    exact W.vret hx hb hr (fun t ht hW => ⟨⟨(), rfl, trivial, p_2, d_3, f19_4, j_5, k_6, hp_7, by omega, by omega, by omega, hpo_11, hfr_12, hw_13, Or.inl (hp_7.ex1 (fun h9 => c_19 (hz_18.trans h9)) (fun h9 => c_32 (hz_31.trans h9))), by rw [ht]; exact hP, va_K.moved hW.alike hK, hD⟩, hS.F ht⟩) hS.2.2 dX9_joins_68
  refine lv_iload_n hx hb dX9_joins_37 rfl (lv_at hl 0 rfl) ?_
  refine lv_iconst (v := 1) hx hb dX9_joins_38 (by decide) ?_
  refine lv_icmp_ne (tgt := 68) hx hb dX9_joins_39 (by decide) (fun c_33 => ?_) (fun c_33 => ?_)
  · have d_34 := n_ne (a := lw) (b := 1) (by omega) (by omega) c_33
    have hP : va_P D vwCl (mw h0 ad cs (upd (upd iv 29 (nI p_2)) 30 (nI d_3)) (uF fv 19 f19_4) gv) H := hP
    have hD : va_D A (mw h0 ad cs (upd (upd iv 29 (nI p_2)) 30 (nI d_3)) (uF fv 19 f19_4) gv) := hD
    exact W.vret hx hb hr (fun t ht hW => ⟨⟨(), rfl, trivial, p_2, d_3, f19_4, j_5, k_6, hp_7, by omega, by omega, by omega, hpo_11, hfr_12, hw_13, Or.inr ⟨by omega, hp_7.ex2 (fun h9 => c_19 (hz_18.trans h9))⟩, by rw [ht]; exact hP, va_K.moved hW.alike hK, hD⟩, hS.F ht⟩) hS.2.2 dX9_joins_68
  have d_35 := n_eq (a := lw) (b := 1) (by omega) (by omega) c_33
  have hc_39 : fv 28 (p_2 - 1) = 2 ∨ fv 28 (p_2 - 1) = 1 := Or.inr (hz_31.symm.trans c_32)
  obtain ⟨hj_36, k_37, hp_38⟩ := hp_7.popJ (by omega) hc_39
  refine lv_aload_n hx hb dX9_joins_42 rfl (lv_at hl 1 rfl) ?_
  refine lv_dup hx hb dX9_joins_43 rfl ?_
  refine va_get (D := D) (ci := 9) (v := .int (nI p_2)) (C := RX9) (T := TX9) (N := 44) hx hb hts hin9 hown hK hP 0 rfl rfl 29 (by decide) (hts (.fieldLink RX9 99 "HoneyHouseModel" "piled" "I") (List.mem_of_getElem? (i := 1) rfl)) (fun _ h9 => h9) rfl dX9_joins_44 ?_
  refine lv_iconst (v := 1) hx hb dX9_joins_47 (by decide) ?_
  refine lv_isub hx hb dX9_joins_48 ?_
  refine tp_i (y := nI (p_2 - 1)) (pk_sub (a := p_2) (b := 1) (by omega)) ?_
  refine va_put (D := D) (ci := 9) (v := .int (nI (p_2 - 1))) (ty := .int) (C := RX9) (T := TX9) (N := 44) hx hb hts hin9 tyX9 tyX9_ok nmX9 hown hK hP hD hS 0 rfl rfl 29 (by decide) (hts (.fieldLink RX9 99 "HoneyHouseModel" "piled" "I") (List.mem_of_getElem? (i := 1) rfl)) (fun _ h9 => h9) rfl (tyX9_ok 29 (by decide)) rfl rfl (Nat.le_of_ble_eq_true rfl) dX9_joins_49 (fun H locs hP hD hS => ?_)
  have hP : va_P D vwCl (mw h0 ad cs (upd (upd iv 29 (nI (p_2 - 1))) 30 (nI d_3)) (uF fv 19 f19_4) gv) H := hP
  have hD : va_D A (mw h0 ad cs (upd (upd iv 29 (nI (p_2 - 1))) 30 (nI d_3)) (uF fv 19 f19_4) gv) := hD
  refine lv_aload_n hx hb dX9_joins_52 rfl (lv_at hl 1 rfl) ?_
  refine lv_aload_n hx hb dX9_joins_53 rfl (lv_at hl 1 rfl) ?_
  refine va_get (D := D) (ci := 9) (v := .ref (ad 28)) (C := RX9) (T := TX9) (N := 44) hx hb hts hin9 hown hK hP 0 rfl rfl 28 (by decide) (hts (.fieldLink RX9 96 "HoneyHouseModel" "pile" "[I") (List.mem_of_getElem? (i := 2) rfl)) (fun _ h9 => h9) rfl dX9_joins_54 ?_
  refine lv_aload_n hx hb dX9_joins_57 rfl (lv_at hl 1 rfl) ?_
  refine va_get (D := D) (ci := 9) (v := .int (nI (p_2 - 1))) (C := RX9) (T := TX9) (N := 44) hx hb hts hin9 hown hK hP 0 rfl rfl 29 (by decide) (hts (.fieldLink RX9 99 "HoneyHouseModel" "piled" "I") (List.mem_of_getElem? (i := 1) rfl)) (fun _ h9 => h9) rfl dX9_joins_58 ?_
  refine va_iald (f := fv 28) (n := 32) hx hb hK hP 19 18 rfl rfl (vp_in_nI (n := p_2 - 1) (by omega) (by omega)) dX9_joins_61 ?_
  refine lv_topi (fun z_40 hz_41 => ?_)
  rw [nI_clamp (n := p_2 - 1) (by omega)] at hz_41
  have hFc := free_all hD hS hA
  refine va_callv (va_runV (As := [.int z_40]) (rest := []) ⟨hx, hb, hml, hown, hts⟩ (m_add l D h0 ad cs (upd (upd iv 29 (nI (p_2 - 1))) 30 (nI d_3)) (uF fv 19 f19_4) gv n14 d_3 z_40 H.size h14 rfl (by omega) (by omega)) (cwV 1 hts gX9_joins_X9_add rfl rfl rfl (by decide +kernel) ⟨Nat.le_of_ble_eq_true rfl, Nat.le_of_ble_eq_true rfl⟩) ⟨fun a U g mk q => by obtain ⟨q0, q1, qP, qK, qD⟩ := q; exact ⟨q0, q1, qP, va_K.moved (u := U) (U := U.calling g mk a) (Vm.Alike.refl U.vm) qK, qD⟩, va_recv hK hP (ci := 9) (q0 := 0) rfl rfl, fun U hU hW => ⟨rfl, by rw [hU], by rw [hU]; exact hP, va_K.moved hW.alike hK, hD.weaken (fun _ _ _ _ => trivial)⟩⟩ rfl rfl hl.1 rfl (lv_room (Nat.le_of_ble_eq_true rfl)) dX9_joins_62 ⟨Nat.le_of_ble_eq_true rfl, Nat.le_of_ble_eq_true rfl⟩) hS (fun q _ h => hFc q h) hFc (fun u t H1 locs ht hvm w_43 hB hz1 hk1 hS => ?_)
  obtain ⟨f19_44, q_45, hP1, hK1, hD1⟩ := hB
  replace q_45 : f19_44 = upd ((f19_4)) (200 * n14 + d_3) z_40 := q_45
  rw [ht] at hP1
  have hK := va_K.moved hvm.symm hK1
  generalize H1 = H at hP1 hS ⊢
  have hP : va_P D vwCl (mw h0 ad cs (upd (upd iv 29 (nI (p_2 - 1))) 30 (nI (d_3 + 1))) (uF fv 19 f19_44) gv) H := hP1
  have hD : va_D A (mw h0 ad cs (upd (upd iv 29 (nI (p_2 - 1))) 30 (nI (d_3 + 1))) (uF fv 19 f19_44) gv) := hD1.weaken (fun _ _ _ h => hFc _ h)
  refine lv_goto (tgt := 0) hx hb dX9_joins_65 (by decide) ?_
  exact ih_1 (p_2 - 1, d_3 + 1, f19_44, j_5 - 1, k_37) (mw h0 ad cs (upd (upd iv 29 (nI (p_2 - 1))) 30 (nI (d_3 + 1))) (uF fv 19 f19_44) gv) _ _ ls (by show (p_2 - 1) < p_2; omega) ⟨rfl, (show pil (fv 28) (p_2 - 1) gx gy (j_5 - 1) k_37 from hp_38), (show (d_3 + 1) + (j_5 - 1) = n30 + gj from by omega), (show (j_5 - 1) ≤ gj from by omega), (show (p_2 - 1) ≤ n29 from by omega), (show ∀ i : Nat, (p_2 - 1) ≤ i → i < n29 → fv 28 i = 1 ∨ fv 28 i = 2 from fun i h1 h2 => (Nat.lt_or_ge i p_2).elim (fun q9 => by rw [show i = p_2 - 1 by omega]; exact hc_39.symm) (fun q9 => hpo_11 i q9 h2)), (show ∀ i : Nat, i < 200 * n14 → f19_44 i = fv 19 i from fun i h9 => by rw [q_45, up_ne (by omega)]; exact hfr_12 i h9), (show wfs (fv 19) (200 * n14) n30 (gj + 1) → wfs f19_44 (200 * n14) (d_3 + 1) ((j_5 - 1) + 1) from fun h1 => (hw_13 h1).joi (by omega) q_45 (by rw [hz_41]; exact hc_39))⟩ hP hD hS (lv_sub hl [0, 1] rfl)
set_option maxHeartbeats 4000000 in
set_option maxRecDepth 100000 in
theorem m_opens (l : Launch) (D : va_G) (h0 : Nat) (ad : Nat → Nat) (cs : Nat → ClassId) (iv : Nat → Int32) (fv : Nat → Nat → Int32) (gv : Nat → Int64) (n21 n25 n26 n29 n31 : Nat) (wt : Nat) (gx gy gj gk : Nat) (sz : Nat) (h21 : iv 21 = nI n21) (h25 : iv 25 = nI n25) (h26 : iv 26 = nI n26) (h29 : iv 29 = nI n29) (h31 : iv 31 = nI n31) (z21 : n21 = 0) (b25 : n25 ≤ n26) (b26 : n26 ≤ 400) (hp : pil (fv 28) n29 gx gy gj gk) (h6 : gx + gy ≤ 6) (hd9 : n31 = gx + gy) (ho : (wt = 12 ∧ n25 < n26) ∨ (wt = 3 ∧ isE (fv 0) n26 n25 (n25 + 3))) : Met l yX9_opens wsX9_opens ({ frames := 2, cells := 0, slots := 0, locals := 41 }) (va_Pc [.ref h0, .int (nI wt)] (fun U => U.heap.size = sz ∧ va_P D vwCl (mw h0 ad cs iv fv gv) U.heap ∧ va_K D vwCl (mT cs) U ∧ va_D (fun _ => True) (mw h0 ad cs iv fv gv))) (va_Qv (fun _ : Unit => True) (fun (_ : Unit) (t : State) => ∃ (k21 : Nat) (p22 : Int32) (k25 : Nat) (k29 : Nat) (k31 : Nat) (f28 : Nat → Int32), (k21 ≤ 3) ∧ ((1 ≤ k21 ∧ k25 = n25 ∧ k29 = n29 ∧ k31 = n31 ∧ f28 = fv 28) ∨ (k21 = 0 ∧ n25 + 1 ≤ k25 ∧ k25 ≤ n26 ∧ k31 = n31 + 1 ∧ n31 ≤ 5 ∧ ∃ x y : Nat, x + y = gx + gy + 1 ∧ (x = gx ∨ (x = gx + 1 ∧ n25 + 3 ≤ k25)) ∧ pil f28 k29 x y gj 0)) ∧ va_P D vwCl (mw h0 ad cs (upd (upd (upd (upd (upd iv 21 (nI k21)) 22 p22) 25 (nI k25)) 29 (nI k29)) 31 (nI k31)) (uF fv 28 f28) gv) t.heap ∧ va_K D vwCl (mT cs) t ∧ va_D (va_A (mw h0 ad cs iv fv gv) sz) (mw h0 ad cs (upd (upd (upd (upd (upd iv 21 (nI k21)) 22 p22) 25 (nI k25)) 29 (nI k29)) 31 (nI k31)) (uF fv 28 f28) gv)) (va_A (mw h0 ad cs iv fv gv) sz)) 0 0 (va_A (mw h0 ad cs iv fv gv) sz) := by
  refine Met.ofW (cc := cX9_opens) (maxL := 2) (ret := none) (by decide) rfl ?_
  intro p e s m args below meth c s₁ B hml hv
  obtain ⟨rfl, hsz, hP, hK, hD0⟩ := hv
  have hx := B.exec
  have hb := B.bytes
  have hr := B.returns
  have hts := atoms_spec (ws := wsX9_opens) B.pre
  have hown : s.vm.findClass RX9 = some m.cls := findClass_of_methodNamed B.named
  have hlocks := B.notSynchronized
  subst hsz
  have hD := hD0.self (sz := s.heap.size)
  generalize hAe : va_A (mw h0 ad cs iv fv gv) s.heap.size = A at hD ⊢
  have hA : ∀ q : Nat, s.heap.size ≤ q → A q := fun q h => by rw [← hAe]; exact Or.inr h
  have hS : va_S A s.heap s.heap [] := va_S.rf
  have hin9 : ∀ w ∈ u_ws RX9 TX9 44, w ∈ wsX9_opens := (fun _ h9 => List.mem_cons_of_mem _ ((List.mem_append_right _ h9)))
  have hl := lv_entry ([.ref h0, .int (nI wt)]) (n := 2) (Nat.le_of_ble_eq_true rfl)
  rw [lg_entry_eq]
  generalize (lg_sl ([.ref h0, .int (nI wt)]) ++ List.replicate (2 - (lg_sl ([.ref h0, .int (nI wt)])).length) Slot.unset).toArray = ls at hl ⊢
  have hl : lv_has ls 2 [(0, .ref h0), (1, .int (nI wt))] := hl
  have hlen := hp.len
  rcases ho with ⟨rfl, ho2⟩ | ⟨rfl, ho2⟩
  · refine lv_aload_n hx hb dX9_opens_0 rfl (lv_at hl 0 rfl) ?_
    refine va_get (D := D) (ci := 9) (v := .int (iv 31)) (C := RX9) (T := TX9) (N := 44) hx hb hts hin9 hown hK hP 0 rfl rfl 31 (by decide) (hts (.fieldLink RX9 105 "HoneyHouseModel" "deep" "I") (List.mem_of_getElem? (i := 1) rfl)) (fun _ h9 => h9) rfl dX9_opens_1 ?_
    refine tp_i (y := nI n31) (h31) ?_
    refine lv_bipush (v := 6) hx hb dX9_opens_4 (by decide) ?_
    refine lv_icmp_ne (tgt := 18) hx hb dX9_opens_6 (by decide) (fun c_1 => ?_) (fun c_1 => ?_)
    · have d_2 := n_ne (a := n31) (b := 6) (by omega) (by omega) c_1
      refine lv_aload_n hx hb dX9_opens_18 rfl (lv_at hl 0 rfl) ?_
      refine va_get (D := D) (ci := 9) (v := .int (iv 21)) (C := RX9) (T := TX9) (N := 44) hx hb hts hin9 hown hK hP 0 rfl rfl 21 (by decide) (hts (.fieldLink RX9 74 "HoneyHouseModel" "faultKind" "I") (List.mem_of_getElem? (i := 3) rfl)) (fun _ h9 => h9) rfl dX9_opens_19 ?_
      refine tp_i (y := nI n21) (h21) ?_
      refine lv_if_le (tgt := 26) hx hb dX9_opens_22 (by decide) (fun c_3 => ?_) (fun c_3 => ?_)
      · have d_4 := n_le (a := n21) (b := 0) (by omega) (by omega) c_3
        refine lv_aload_n hx hb dX9_opens_26 rfl (lv_at hl 0 rfl) ?_
        refine lv_dup hx hb dX9_opens_27 rfl ?_
        refine va_get (D := D) (ci := 9) (v := .int (iv 31)) (C := RX9) (T := TX9) (N := 44) hx hb hts hin9 hown hK hP 0 rfl rfl 31 (by decide) (hts (.fieldLink RX9 105 "HoneyHouseModel" "deep" "I") (List.mem_of_getElem? (i := 1) rfl)) (fun _ h9 => h9) rfl dX9_opens_28 ?_
        refine tp_i (y := nI n31) (h31) ?_
        refine lv_iconst (v := 1) hx hb dX9_opens_31 (by decide) ?_
        refine lv_iadd hx hb dX9_opens_32 ?_
        refine tp_i (y := nI (n31 + 1)) (nI_add n31 1) ?_
        refine va_put (D := D) (ci := 9) (v := .int (nI (n31 + 1))) (ty := .int) (C := RX9) (T := TX9) (N := 44) hx hb hts hin9 tyX9 tyX9_ok nmX9 hown hK hP hD hS 0 rfl rfl 31 (by decide) (hts (.fieldLink RX9 105 "HoneyHouseModel" "deep" "I") (List.mem_of_getElem? (i := 1) rfl)) (fun _ h9 => h9) rfl (tyX9_ok 31 (by decide)) rfl rfl (Nat.le_of_ble_eq_true rfl) dX9_opens_33 (fun H locs hP hD hS => ?_)
        have hP : va_P D vwCl (mw h0 ad cs (upd iv 31 (nI (n31 + 1))) fv gv) H := hP
        have hD : va_D A (mw h0 ad cs (upd iv 31 (nI (n31 + 1))) fv gv) := hD
        refine lv_aload_n hx hb dX9_opens_36 rfl (lv_at hl 0 rfl) ?_
        refine va_get (D := D) (ci := 9) (v := .ref (ad 28)) (C := RX9) (T := TX9) (N := 44) hx hb hts hin9 hown hK hP 0 rfl rfl 28 (by decide) (hts (.fieldLink RX9 96 "HoneyHouseModel" "pile" "[I") (List.mem_of_getElem? (i := 4) rfl)) (fun _ h9 => h9) rfl dX9_opens_37 ?_
        refine lv_aload_n hx hb dX9_opens_40 rfl (lv_at hl 0 rfl) ?_
        refine va_get (D := D) (ci := 9) (v := .int (iv 29)) (C := RX9) (T := TX9) (N := 44) hx hb hts hin9 hown hK hP 0 rfl rfl 29 (by decide) (hts (.fieldLink RX9 99 "HoneyHouseModel" "piled" "I") (List.mem_of_getElem? (i := 5) rfl)) (fun _ h9 => h9) rfl dX9_opens_41 ?_
        refine tp_i (y := nI n29) (h29) ?_
        refine lv_iload_n hx hb dX9_opens_44 rfl (lv_at hl 1 rfl) ?_
        refine va_iast (f := fv 28) (n := 32) hx hb hK hP hD hS 19 18 rfl rfl (vp_in_nI (n := n29) (by omega) (by omega)) dX9_opens_45 (fun H locs hP hD hS => ?_)
        have hP : va_P D vwCl (mw h0 ad cs (upd iv 31 (nI (n31 + 1))) (uF fv 28 (upd (fv 28) (nI n29).toNatClampNeg (nI (12)))) gv) H := hP
        have hD : va_D A (mw h0 ad cs (upd iv 31 (nI (n31 + 1))) (uF fv 28 (upd (fv 28) (nI n29).toNatClampNeg (nI (12)))) gv) := hD
        obtain ⟨f_5, hf_6⟩ : ∃ g9, g9 = upd (fv 28) (nI n29).toNatClampNeg (nI (12)) := ⟨_, rfl⟩
        rw [← hf_6] at hP hD
        rw [nI_clamp (n := n29) (by omega)] at hf_6
        refine lv_aload_n hx hb dX9_opens_46 rfl (lv_at hl 0 rfl) ?_
        refine lv_dup hx hb dX9_opens_47 rfl ?_
        refine va_get (D := D) (ci := 9) (v := .int (iv 29)) (C := RX9) (T := TX9) (N := 44) hx hb hts hin9 hown hK hP 0 rfl rfl 29 (by decide) (hts (.fieldLink RX9 99 "HoneyHouseModel" "piled" "I") (List.mem_of_getElem? (i := 5) rfl)) (fun _ h9 => h9) rfl dX9_opens_48 ?_
        refine tp_i (y := nI n29) (h29) ?_
        refine lv_iconst (v := 1) hx hb dX9_opens_51 (by decide) ?_
        refine lv_iadd hx hb dX9_opens_52 ?_
        refine tp_i (y := nI (n29 + 1)) (nI_add n29 1) ?_
        refine va_put (D := D) (ci := 9) (v := .int (nI (n29 + 1))) (ty := .int) (C := RX9) (T := TX9) (N := 44) hx hb hts hin9 tyX9 tyX9_ok nmX9 hown hK hP hD hS 0 rfl rfl 29 (by decide) (hts (.fieldLink RX9 99 "HoneyHouseModel" "piled" "I") (List.mem_of_getElem? (i := 5) rfl)) (fun _ h9 => h9) rfl (tyX9_ok 29 (by decide)) rfl rfl (Nat.le_of_ble_eq_true rfl) dX9_opens_53 (fun H locs hP hD hS => ?_)
        have hP : va_P D vwCl (mw h0 ad cs (upd (upd iv 29 (nI (n29 + 1))) 31 (nI (n31 + 1))) (uF fv 28 f_5) gv) H := hP
        have hD : va_D A (mw h0 ad cs (upd (upd iv 29 (nI (n29 + 1))) 31 (nI (n31 + 1))) (uF fv 28 f_5) gv) := hD
        refine lv_aload_n hx hb dX9_opens_56 rfl (lv_at hl 0 rfl) ?_
        refine lv_iload_n hx hb dX9_opens_57 rfl (lv_at hl 1 rfl) ?_
        refine lv_bipush (v := 12) hx hb dX9_opens_58 (by decide) ?_
        refine lv_icmp_ne (tgt := 72) hx hb dX9_opens_60 (by decide) (fun c_7 => absurd (by decide) c_7) (fun c_7 => ?_)
        refine lv_aload_n hx hb dX9_opens_63 rfl (lv_at hl 0 rfl) ?_
        refine va_get (D := D) (ci := 9) (v := .int (iv 25)) (C := RX9) (T := TX9) (N := 44) hx hb hts hin9 hown hK hP 0 rfl rfl 25 (by decide) (hts (.fieldLink RX9 87 "HoneyHouseModel" "at" "I") (List.mem_of_getElem? (i := 2) rfl)) (fun _ h9 => h9) rfl dX9_opens_64 ?_
        refine tp_i (y := nI n25) (h25) ?_
        refine lv_iconst (v := 1) hx hb dX9_opens_67 (by decide) ?_
        refine lv_iadd hx hb dX9_opens_68 ?_
        refine tp_i (y := nI (n25 + 1)) (nI_add n25 1) ?_
        refine lv_goto (tgt := 76) hx hb dX9_opens_69 (by decide) ?_
        refine va_put (D := D) (ci := 9) (v := .int (nI (n25 + 1))) (ty := .int) (C := RX9) (T := TX9) (N := 44) hx hb hts hin9 tyX9 tyX9_ok nmX9 hown hK hP hD hS 0 rfl rfl 25 (by decide) (hts (.fieldLink RX9 87 "HoneyHouseModel" "at" "I") (List.mem_of_getElem? (i := 2) rfl)) (fun _ h9 => h9) rfl (tyX9_ok 25 (by decide)) rfl rfl (Nat.le_of_ble_eq_true rfl) dX9_opens_76 (fun H locs hP hD hS => ?_)
        have hP : va_P D vwCl (mw h0 ad cs (upd (upd (upd iv 25 (nI (n25 + 1))) 29 (nI (n29 + 1))) 31 (nI (n31 + 1))) (uF fv 28 f_5) gv) H := hP
        have hD : va_D A (mw h0 ad cs (upd (upd (upd iv 25 (nI (n25 + 1))) 29 (nI (n29 + 1))) 31 (nI (n31 + 1))) (uF fv 28 f_5) gv) := hD
        have hP : va_P D vwCl (mw h0 ad cs (upd (upd (upd (upd (upd iv 21 (iv 21)) 22 (iv 22)) 25 (nI (n25 + 1))) 29 (nI (n29 + 1))) 31 (nI (n31 + 1))) (uF fv 28 f_5) gv) H := hP
        have hD : va_D A (mw h0 ad cs (upd (upd (upd (upd (upd iv 21 (iv 21)) 22 (iv 22)) 25 (nI (n25 + 1))) 29 (nI (n29 + 1))) 31 (nI (n31 + 1))) (uF fv 28 f_5) gv) := hD
        have hP := hP
        rw [h21] at hP hD
        exact W.vret hx hb hr (fun t ht hW => ⟨⟨(), rfl, trivial, n21, iv 22, n25 + 1, n29 + 1, n31 + 1, f_5, by omega, Or.inr ⟨by omega, by omega, by omega, by omega, by omega, gx, gy + 1, by omega, Or.inl rfl, by rw [hf_6]; exact (hp.up 12).br up_eq⟩, by rw [ht]; exact hP, va_K.moved hW.alike hK, hD⟩, hS.F ht⟩) hS.2.2 dX9_opens_79
      have d_8 := n_nle (a := n21) (b := 0) (by omega) (by omega) c_3
      have hP : va_P D vwCl (mw h0 ad cs (upd (upd (upd (upd (upd iv 21 (iv 21)) 22 (iv 22)) 25 (iv 25)) 29 (iv 29)) 31 (iv 31)) (uF fv 28 (fv 28)) gv) s.heap := hP
      have hD : va_D A (mw h0 ad cs (upd (upd (upd (upd (upd iv 21 (iv 21)) 22 (iv 22)) 25 (iv 25)) 29 (iv 29)) 31 (iv 31)) (uF fv 28 (fv 28)) gv) := hD
      have hP := hP
      have hP := hP
      have hP := hP
      have hP := hP
      rw [h21, h25, h29, h31] at hP hD
      exact W.vret hx hb hr (fun t ht hW => ⟨⟨(), rfl, trivial, n21, iv 22, n25, n29, n31, fv 28, by omega, Or.inl ⟨by omega, by omega, by omega, by omega, rfl⟩, by rw [ht]; exact hP, va_K.moved hW.alike hK, hD⟩, hS.F ht⟩) hS.2.2 dX9_opens_25
    have d_9 := n_eq (a := n31) (b := 6) (by omega) (by omega) c_1
    refine lv_aload_n hx hb dX9_opens_9 rfl (lv_at hl 0 rfl) ?_
    refine lv_iconst (v := 3) hx hb dX9_opens_10 (by decide) ?_
    refine lv_aload_n hx hb dX9_opens_11 rfl (lv_at hl 0 rfl) ?_
    refine va_get (D := D) (ci := 9) (v := .int (iv 25)) (C := RX9) (T := TX9) (N := 44) hx hb hts hin9 hown hK hP 0 rfl rfl 25 (by decide) (hts (.fieldLink RX9 87 "HoneyHouseModel" "at" "I") (List.mem_of_getElem? (i := 2) rfl)) (fun _ h9 => h9) rfl dX9_opens_12 ?_
    refine tp_i (y := nI n25) (h25) ?_
    have hFc := free_all hD hS hA
    refine va_callv (va_runV (As := [.int 3, .int (nI n25)]) (rest := []) ⟨hx, hb, hml, hown, hts⟩ (m_blame l D h0 ad cs iv fv gv n21 3 (nI n25) s.heap.size h21 (by omega) (by omega)) (cwV 2 hts gX9_opens_X9_blame rfl rfl rfl (by decide +kernel) ⟨Nat.le_of_ble_eq_true rfl, Nat.le_of_ble_eq_true rfl⟩) ⟨fun a U g mk q => by obtain ⟨q0, q1, qP, qK, qD⟩ := q; exact ⟨q0, q1, qP, va_K.moved (u := U) (U := U.calling g mk a) (Vm.Alike.refl U.vm) qK, qD⟩, va_recv hK hP (ci := 9) (q0 := 0) rfl rfl, fun U hU hW => ⟨rfl, by rw [hU], by rw [hU]; exact hP, va_K.moved hW.alike hK, hD.weaken (fun _ _ _ _ => trivial)⟩⟩ rfl rfl hl.1 rfl (lv_room (Nat.le_of_ble_eq_true rfl)) dX9_opens_15 ⟨Nat.le_of_ble_eq_true rfl, Nat.le_of_ble_eq_true rfl⟩) hS (fun q _ h => hFc q h) hFc (fun u t H1 locs ht hvm w_11 hB hz1 hk1 hS => ?_)
    obtain ⟨k21_12, p22_13, q_14, q_15, hP1, hK1, hD1⟩ := hB
    rw [ht] at hP1
    have hK := va_K.moved hvm.symm hK1
    generalize H1 = H at hP1 hS ⊢
    have hP : va_P D vwCl (mw h0 ad cs (upd (upd iv 21 (nI k21_12)) 22 p22_13) fv gv) H := hP1
    have hD : va_D A (mw h0 ad cs (upd (upd iv 21 (nI k21_12)) 22 p22_13) fv gv) := hD1.weaken (fun _ _ _ h => hFc _ h)
    refine lv_aload_n hx hb dX9_opens_18 rfl (lv_at hl 0 rfl) ?_
    refine va_get (D := D) (ci := 9) (v := .int (nI k21_12)) (C := RX9) (T := TX9) (N := 44) hx hb hts hin9 hown hK hP 0 rfl rfl 21 (by decide) (hts (.fieldLink RX9 74 "HoneyHouseModel" "faultKind" "I") (List.mem_of_getElem? (i := 3) rfl)) (fun _ h9 => h9) rfl dX9_opens_19 ?_
    refine lv_if_le (tgt := 26) hx hb dX9_opens_22 (by decide) (fun c_16 => absurd c_16 (nI_nle (n := k21_12) (by omega) (by omega))) (fun c_16 => ?_)
    have hP : va_P D vwCl (mw h0 ad cs (upd (upd (upd (upd (upd iv 21 (nI k21_12)) 22 p22_13) 25 (iv 25)) 29 (iv 29)) 31 (iv 31)) (uF fv 28 (fv 28)) gv) H := hP
    have hD : va_D A (mw h0 ad cs (upd (upd (upd (upd (upd iv 21 (nI k21_12)) 22 p22_13) 25 (iv 25)) 29 (iv 29)) 31 (iv 31)) (uF fv 28 (fv 28)) gv) := hD
    have hP := hP
    have hP := hP
    have hP := hP
    rw [h25, h29, h31] at hP hD
    exact W.vret hx hb hr (fun t ht hW => ⟨⟨(), rfl, trivial, k21_12, p22_13, n25, n29, n31, fv 28, by omega, Or.inl ⟨by omega, by omega, by omega, by omega, rfl⟩, by rw [ht]; exact hP, va_K.moved hW.alike hK, hD⟩, hS.F ht⟩) hS.2.2 dX9_opens_25
  refine lv_aload_n hx hb dX9_opens_0 rfl (lv_at hl 0 rfl) ?_
  refine va_get (D := D) (ci := 9) (v := .int (iv 31)) (C := RX9) (T := TX9) (N := 44) hx hb hts hin9 hown hK hP 0 rfl rfl 31 (by decide) (hts (.fieldLink RX9 105 "HoneyHouseModel" "deep" "I") (List.mem_of_getElem? (i := 1) rfl)) (fun _ h9 => h9) rfl dX9_opens_1 ?_
  refine tp_i (y := nI n31) (h31) ?_
  refine lv_bipush (v := 6) hx hb dX9_opens_4 (by decide) ?_
  refine lv_icmp_ne (tgt := 18) hx hb dX9_opens_6 (by decide) (fun c_17 => ?_) (fun c_17 => ?_)
  · have d_18 := n_ne (a := n31) (b := 6) (by omega) (by omega) c_17
    refine lv_aload_n hx hb dX9_opens_18 rfl (lv_at hl 0 rfl) ?_
    refine va_get (D := D) (ci := 9) (v := .int (iv 21)) (C := RX9) (T := TX9) (N := 44) hx hb hts hin9 hown hK hP 0 rfl rfl 21 (by decide) (hts (.fieldLink RX9 74 "HoneyHouseModel" "faultKind" "I") (List.mem_of_getElem? (i := 3) rfl)) (fun _ h9 => h9) rfl dX9_opens_19 ?_
    refine tp_i (y := nI n21) (h21) ?_
    refine lv_if_le (tgt := 26) hx hb dX9_opens_22 (by decide) (fun c_19 => ?_) (fun c_19 => ?_)
    · have d_20 := n_le (a := n21) (b := 0) (by omega) (by omega) c_19
      refine lv_aload_n hx hb dX9_opens_26 rfl (lv_at hl 0 rfl) ?_
      refine lv_dup hx hb dX9_opens_27 rfl ?_
      refine va_get (D := D) (ci := 9) (v := .int (iv 31)) (C := RX9) (T := TX9) (N := 44) hx hb hts hin9 hown hK hP 0 rfl rfl 31 (by decide) (hts (.fieldLink RX9 105 "HoneyHouseModel" "deep" "I") (List.mem_of_getElem? (i := 1) rfl)) (fun _ h9 => h9) rfl dX9_opens_28 ?_
      refine tp_i (y := nI n31) (h31) ?_
      refine lv_iconst (v := 1) hx hb dX9_opens_31 (by decide) ?_
      refine lv_iadd hx hb dX9_opens_32 ?_
      refine tp_i (y := nI (n31 + 1)) (nI_add n31 1) ?_
      refine va_put (D := D) (ci := 9) (v := .int (nI (n31 + 1))) (ty := .int) (C := RX9) (T := TX9) (N := 44) hx hb hts hin9 tyX9 tyX9_ok nmX9 hown hK hP hD hS 0 rfl rfl 31 (by decide) (hts (.fieldLink RX9 105 "HoneyHouseModel" "deep" "I") (List.mem_of_getElem? (i := 1) rfl)) (fun _ h9 => h9) rfl (tyX9_ok 31 (by decide)) rfl rfl (Nat.le_of_ble_eq_true rfl) dX9_opens_33 (fun H locs hP hD hS => ?_)
      have hP : va_P D vwCl (mw h0 ad cs (upd iv 31 (nI (n31 + 1))) fv gv) H := hP
      have hD : va_D A (mw h0 ad cs (upd iv 31 (nI (n31 + 1))) fv gv) := hD
      refine lv_aload_n hx hb dX9_opens_36 rfl (lv_at hl 0 rfl) ?_
      refine va_get (D := D) (ci := 9) (v := .ref (ad 28)) (C := RX9) (T := TX9) (N := 44) hx hb hts hin9 hown hK hP 0 rfl rfl 28 (by decide) (hts (.fieldLink RX9 96 "HoneyHouseModel" "pile" "[I") (List.mem_of_getElem? (i := 4) rfl)) (fun _ h9 => h9) rfl dX9_opens_37 ?_
      refine lv_aload_n hx hb dX9_opens_40 rfl (lv_at hl 0 rfl) ?_
      refine va_get (D := D) (ci := 9) (v := .int (iv 29)) (C := RX9) (T := TX9) (N := 44) hx hb hts hin9 hown hK hP 0 rfl rfl 29 (by decide) (hts (.fieldLink RX9 99 "HoneyHouseModel" "piled" "I") (List.mem_of_getElem? (i := 5) rfl)) (fun _ h9 => h9) rfl dX9_opens_41 ?_
      refine tp_i (y := nI n29) (h29) ?_
      refine lv_iload_n hx hb dX9_opens_44 rfl (lv_at hl 1 rfl) ?_
      refine va_iast (f := fv 28) (n := 32) hx hb hK hP hD hS 19 18 rfl rfl (vp_in_nI (n := n29) (by omega) (by omega)) dX9_opens_45 (fun H locs hP hD hS => ?_)
      have hP : va_P D vwCl (mw h0 ad cs (upd iv 31 (nI (n31 + 1))) (uF fv 28 (upd (fv 28) (nI n29).toNatClampNeg (nI (3)))) gv) H := hP
      have hD : va_D A (mw h0 ad cs (upd iv 31 (nI (n31 + 1))) (uF fv 28 (upd (fv 28) (nI n29).toNatClampNeg (nI (3)))) gv) := hD
      obtain ⟨f_21, hf_22⟩ : ∃ g9, g9 = upd (fv 28) (nI n29).toNatClampNeg (nI (3)) := ⟨_, rfl⟩
      rw [← hf_22] at hP hD
      rw [nI_clamp (n := n29) (by omega)] at hf_22
      refine lv_aload_n hx hb dX9_opens_46 rfl (lv_at hl 0 rfl) ?_
      refine lv_dup hx hb dX9_opens_47 rfl ?_
      refine va_get (D := D) (ci := 9) (v := .int (iv 29)) (C := RX9) (T := TX9) (N := 44) hx hb hts hin9 hown hK hP 0 rfl rfl 29 (by decide) (hts (.fieldLink RX9 99 "HoneyHouseModel" "piled" "I") (List.mem_of_getElem? (i := 5) rfl)) (fun _ h9 => h9) rfl dX9_opens_48 ?_
      refine tp_i (y := nI n29) (h29) ?_
      refine lv_iconst (v := 1) hx hb dX9_opens_51 (by decide) ?_
      refine lv_iadd hx hb dX9_opens_52 ?_
      refine tp_i (y := nI (n29 + 1)) (nI_add n29 1) ?_
      refine va_put (D := D) (ci := 9) (v := .int (nI (n29 + 1))) (ty := .int) (C := RX9) (T := TX9) (N := 44) hx hb hts hin9 tyX9 tyX9_ok nmX9 hown hK hP hD hS 0 rfl rfl 29 (by decide) (hts (.fieldLink RX9 99 "HoneyHouseModel" "piled" "I") (List.mem_of_getElem? (i := 5) rfl)) (fun _ h9 => h9) rfl (tyX9_ok 29 (by decide)) rfl rfl (Nat.le_of_ble_eq_true rfl) dX9_opens_53 (fun H locs hP hD hS => ?_)
      have hP : va_P D vwCl (mw h0 ad cs (upd (upd iv 29 (nI (n29 + 1))) 31 (nI (n31 + 1))) (uF fv 28 f_21) gv) H := hP
      have hD : va_D A (mw h0 ad cs (upd (upd iv 29 (nI (n29 + 1))) 31 (nI (n31 + 1))) (uF fv 28 f_21) gv) := hD
      refine lv_aload_n hx hb dX9_opens_56 rfl (lv_at hl 0 rfl) ?_
      refine lv_iload_n hx hb dX9_opens_57 rfl (lv_at hl 1 rfl) ?_
      refine lv_bipush (v := 12) hx hb dX9_opens_58 (by decide) ?_
      refine lv_icmp_ne (tgt := 72) hx hb dX9_opens_60 (by decide) (fun c_23 => ?_) (fun c_23 => absurd c_23 (by decide))
      refine lv_aload_n hx hb dX9_opens_72 rfl (lv_at hl 0 rfl) ?_
      refine vp_callSi (W.runV (As := []) (rest := [.ref h0]) ⟨hx, hb, hml, hown, hts⟩ (m_wordEnd l D h0 ad cs (upd (upd iv 29 (nI (n29 + 1))) 31 (nI (n31 + 1))) (uF fv 28 f_21) gv n25 n26  h25 h26 (by omega) (by omega)) (cwV 0 hts gX9_opens_X9_wordEnd rfl rfl rfl (by decide +kernel) ⟨Nat.le_of_ble_eq_true rfl, Nat.le_of_ble_eq_true rfl⟩) ⟨fun a U g mk q => ⟨q.1, q.2.1, va_K.moved (u := U) (U := U.calling g mk a) (Vm.Alike.refl U.vm) q.2.2⟩, va_recv hK hP (ci := 9) (q0 := 0) rfl rfl, fun U hU hW => ⟨rfl, by rw [hU]; exact hP, va_K.moved hW.alike hK⟩⟩ rfl rfl hl.1 rfl (lv_room (Nat.le_of_ble_eq_true rfl)) dX9_opens_73 ⟨Nat.le_of_ble_eq_true rfl, Nat.le_of_ble_eq_true rfl⟩) (fun r_24 k_25 => ?_)
      obtain ⟨e_26, rfl, he_27⟩ := k_25
      have hq_e_26 : e_26 = n25 + 3 := he_27.uq ho2
      refine va_put (D := D) (ci := 9) (v := .int (nI e_26)) (ty := .int) (C := RX9) (T := TX9) (N := 44) hx hb hts hin9 tyX9 tyX9_ok nmX9 hown hK hP hD hS 0 rfl rfl 25 (by decide) (hts (.fieldLink RX9 87 "HoneyHouseModel" "at" "I") (List.mem_of_getElem? (i := 2) rfl)) (fun _ h9 => h9) rfl (tyX9_ok 25 (by decide)) rfl rfl (Nat.le_of_ble_eq_true rfl) dX9_opens_76 (fun H locs hP hD hS => ?_)
      have hP : va_P D vwCl (mw h0 ad cs (upd (upd (upd iv 25 (nI e_26)) 29 (nI (n29 + 1))) 31 (nI (n31 + 1))) (uF fv 28 f_21) gv) H := hP
      have hD : va_D A (mw h0 ad cs (upd (upd (upd iv 25 (nI e_26)) 29 (nI (n29 + 1))) 31 (nI (n31 + 1))) (uF fv 28 f_21) gv) := hD
      have hP : va_P D vwCl (mw h0 ad cs (upd (upd (upd (upd (upd iv 21 (iv 21)) 22 (iv 22)) 25 (nI e_26)) 29 (nI (n29 + 1))) 31 (nI (n31 + 1))) (uF fv 28 f_21) gv) H := hP
      have hD : va_D A (mw h0 ad cs (upd (upd (upd (upd (upd iv 21 (iv 21)) 22 (iv 22)) 25 (nI e_26)) 29 (nI (n29 + 1))) 31 (nI (n31 + 1))) (uF fv 28 f_21) gv) := hD
      have hP := hP
      rw [h21] at hP hD
      exact W.vret hx hb hr (fun t ht hW => ⟨⟨(), rfl, trivial, n21, iv 22, e_26, n29 + 1, n31 + 1, f_21, by omega, Or.inr ⟨by omega, by omega, by have h9 := ho2.2.1; omega, by omega, by omega, gx + 1, gy, by omega, Or.inr ⟨rfl, by omega⟩, by rw [hf_22]; exact (hp.up 3).no up_eq⟩, by rw [ht]; exact hP, va_K.moved hW.alike hK, hD⟩, hS.F ht⟩) hS.2.2 dX9_opens_79
    have d_28 := n_nle (a := n21) (b := 0) (by omega) (by omega) c_19
    have hP : va_P D vwCl (mw h0 ad cs (upd (upd (upd (upd (upd iv 21 (iv 21)) 22 (iv 22)) 25 (iv 25)) 29 (iv 29)) 31 (iv 31)) (uF fv 28 (fv 28)) gv) s.heap := hP
    have hD : va_D A (mw h0 ad cs (upd (upd (upd (upd (upd iv 21 (iv 21)) 22 (iv 22)) 25 (iv 25)) 29 (iv 29)) 31 (iv 31)) (uF fv 28 (fv 28)) gv) := hD
    have hP := hP
    have hP := hP
    have hP := hP
    have hP := hP
    rw [h21, h25, h29, h31] at hP hD
    exact W.vret hx hb hr (fun t ht hW => ⟨⟨(), rfl, trivial, n21, iv 22, n25, n29, n31, fv 28, by omega, Or.inl ⟨by omega, by omega, by omega, by omega, rfl⟩, by rw [ht]; exact hP, va_K.moved hW.alike hK, hD⟩, hS.F ht⟩) hS.2.2 dX9_opens_25
  have d_29 := n_eq (a := n31) (b := 6) (by omega) (by omega) c_17
  refine lv_aload_n hx hb dX9_opens_9 rfl (lv_at hl 0 rfl) ?_
  refine lv_iconst (v := 3) hx hb dX9_opens_10 (by decide) ?_
  refine lv_aload_n hx hb dX9_opens_11 rfl (lv_at hl 0 rfl) ?_
  refine va_get (D := D) (ci := 9) (v := .int (iv 25)) (C := RX9) (T := TX9) (N := 44) hx hb hts hin9 hown hK hP 0 rfl rfl 25 (by decide) (hts (.fieldLink RX9 87 "HoneyHouseModel" "at" "I") (List.mem_of_getElem? (i := 2) rfl)) (fun _ h9 => h9) rfl dX9_opens_12 ?_
  refine tp_i (y := nI n25) (h25) ?_
  have hFc := free_all hD hS hA
  refine va_callv (va_runV (As := [.int 3, .int (nI n25)]) (rest := []) ⟨hx, hb, hml, hown, hts⟩ (m_blame l D h0 ad cs iv fv gv n21 3 (nI n25) s.heap.size h21 (by omega) (by omega)) (cwV 2 hts gX9_opens_X9_blame rfl rfl rfl (by decide +kernel) ⟨Nat.le_of_ble_eq_true rfl, Nat.le_of_ble_eq_true rfl⟩) ⟨fun a U g mk q => by obtain ⟨q0, q1, qP, qK, qD⟩ := q; exact ⟨q0, q1, qP, va_K.moved (u := U) (U := U.calling g mk a) (Vm.Alike.refl U.vm) qK, qD⟩, va_recv hK hP (ci := 9) (q0 := 0) rfl rfl, fun U hU hW => ⟨rfl, by rw [hU], by rw [hU]; exact hP, va_K.moved hW.alike hK, hD.weaken (fun _ _ _ _ => trivial)⟩⟩ rfl rfl hl.1 rfl (lv_room (Nat.le_of_ble_eq_true rfl)) dX9_opens_15 ⟨Nat.le_of_ble_eq_true rfl, Nat.le_of_ble_eq_true rfl⟩) hS (fun q _ h => hFc q h) hFc (fun u t H1 locs ht hvm w_31 hB hz1 hk1 hS => ?_)
  obtain ⟨k21_32, p22_33, q_34, q_35, hP1, hK1, hD1⟩ := hB
  rw [ht] at hP1
  have hK := va_K.moved hvm.symm hK1
  generalize H1 = H at hP1 hS ⊢
  have hP : va_P D vwCl (mw h0 ad cs (upd (upd iv 21 (nI k21_32)) 22 p22_33) fv gv) H := hP1
  have hD : va_D A (mw h0 ad cs (upd (upd iv 21 (nI k21_32)) 22 p22_33) fv gv) := hD1.weaken (fun _ _ _ h => hFc _ h)
  refine lv_aload_n hx hb dX9_opens_18 rfl (lv_at hl 0 rfl) ?_
  refine va_get (D := D) (ci := 9) (v := .int (nI k21_32)) (C := RX9) (T := TX9) (N := 44) hx hb hts hin9 hown hK hP 0 rfl rfl 21 (by decide) (hts (.fieldLink RX9 74 "HoneyHouseModel" "faultKind" "I") (List.mem_of_getElem? (i := 3) rfl)) (fun _ h9 => h9) rfl dX9_opens_19 ?_
  refine lv_if_le (tgt := 26) hx hb dX9_opens_22 (by decide) (fun c_36 => absurd c_36 (nI_nle (n := k21_32) (by omega) (by omega))) (fun c_36 => ?_)
  have hP : va_P D vwCl (mw h0 ad cs (upd (upd (upd (upd (upd iv 21 (nI k21_32)) 22 p22_33) 25 (iv 25)) 29 (iv 29)) 31 (iv 31)) (uF fv 28 (fv 28)) gv) H := hP
  have hD : va_D A (mw h0 ad cs (upd (upd (upd (upd (upd iv 21 (nI k21_32)) 22 p22_33) 25 (iv 25)) 29 (iv 29)) 31 (iv 31)) (uF fv 28 (fv 28)) gv) := hD
  have hP := hP
  have hP := hP
  have hP := hP
  rw [h25, h29, h31] at hP hD
  exact W.vret hx hb hr (fun t ht hW => ⟨⟨(), rfl, trivial, k21_32, p22_33, n25, n29, n31, fv 28, by omega, Or.inl ⟨by omega, by omega, by omega, by omega, rfl⟩, by rw [ht]; exact hP, va_K.moved hW.alike hK, hD⟩, hS.F ht⟩) hS.2.2 dX9_opens_25
set_option maxHeartbeats 4000000 in
set_option maxRecDepth 100000 in
theorem m_brackets (l : Launch) (D : va_G) (h0 : Nat) (ad : Nat → Nat) (cs : Nat → ClassId) (iv : Nat → Int32) (fv : Nat → Nat → Int32) (gv : Nat → Int64) (n29 : Nat)  (h29 : iv 29 = nI n29) (b29 : n29 ≤ 32) : Met l yX9_brackets wsX9_brackets ({ frames := 0, cells := 0, slots := 0, locals := 0 }) (va_Pc [.ref h0] (fun U => va_P D vwCl (mw h0 ad cs iv fv gv) U.heap ∧ va_K D vwCl (mT cs) U)) (vp_Si (fun r => ∃ b : Nat, r = nI b ∧ b ≤ n29 ∧ (b = 0 ∨ ∃ i : Nat, i < n29 ∧ fv 28 i = 12))) 0 0 (fun _ => False) := by
  refine Met.ofW (cc := cX9_brackets) (maxL := 3) (ret := (some .int)) (by decide) rfl ?_
  intro p e s m args below meth c s₁ B hml hv
  obtain ⟨rfl, hP, hK⟩ := hv
  have hx := B.exec
  have hb := B.bytes
  have hr := B.returns
  have hts := atoms_spec (ws := wsX9_brackets) B.pre
  have hown : s.vm.findClass RX9 = some m.cls := findClass_of_methodNamed B.named
  have hlocks := B.notSynchronized
  have hin9 : ∀ w ∈ u_ws RX9 TX9 44, w ∈ wsX9_brackets := (fun _ h9 => List.mem_cons_of_mem _ ((List.mem_append_right _ h9)))
  have hl := lv_entry ([.ref h0]) (n := 3) (Nat.le_of_ble_eq_true rfl)
  rw [lg_entry_eq]
  generalize (lg_sl ([.ref h0]) ++ List.replicate (3 - (lg_sl ([.ref h0])).length) Slot.unset).toArray = ls at hl ⊢
  have hl : lv_has ls 3 [(0, .ref h0)] := hl
  refine lv_iconst (v := 0) hx hb dX9_brackets_0 (by decide) ?_
  refine lv_istore_n (lv' := [(1, .int 0), (0, .ref h0)]) hx hb dX9_brackets_1 rfl hl (by decide) rfl (fun ls hl => ?_)
  refine lv_iconst (v := 0) hx hb dX9_brackets_2 (by decide) ?_
  refine lv_istore_n (lv' := [(2, .int 0), (1, .int 0), (0, .ref h0)]) hx hb dX9_brackets_3 rfl hl (by decide) rfl (fun ls hl => ?_)
  refine lp_R (nL := 3) (σ := Nat × Nat) (lv := fun x9 => [(2, .int (nI x9.1)), (1, .int (nI x9.2)), (0, .ref h0)]) (μ := fun x9 => n29 - x9.1) (J := fun x9 => (x9.1 ≤ n29) ∧ (x9.2 ≤ x9.1) ∧ (x9.2 = 0 ∨ ∃ i9 : Nat, i9 < n29 ∧ fv 28 i9 = 12)) (fun x9 ls hj hl ih_1 => ?_) (0, 0) ls ⟨(show 0 ≤ n29 from by omega), (show 0 ≤ 0 from by omega), (show 0 = 0 ∨ ∃ i9 : Nat, i9 < n29 ∧ fv 28 i9 = 12 from Or.inl rfl)⟩ (lv_sub hl [0, 1, 2] rfl)
  obtain ⟨i_2, b_3⟩ := x9
  replace hj : (i_2 ≤ n29) ∧ (b_3 ≤ i_2) ∧ (b_3 = 0 ∨ ∃ i9 : Nat, i9 < n29 ∧ fv 28 i9 = 12) := hj
  obtain ⟨hi_4, hbi_5, hb_6⟩ := hj
  have hl : lv_has ls 3 [(2, .int (nI i_2)), (1, .int (nI b_3)), (0, .ref h0)] := hl
  refine lv_iload_n hx hb dX9_brackets_4 rfl (lv_at hl 0 rfl) ?_
  refine lv_aload_n hx hb dX9_brackets_5 rfl (lv_at hl 2 rfl) ?_
  refine va_get (D := D) (ci := 9) (v := .int (iv 29)) (C := RX9) (T := TX9) (N := 44) hx hb hts hin9 hown hK hP 0 rfl rfl 29 (by decide) (hts (.fieldLink RX9 99 "HoneyHouseModel" "piled" "I") (List.mem_of_getElem? (i := 1) rfl)) (fun _ h9 => h9) rfl dX9_brackets_6 ?_
  refine tp_i (y := nI n29) (h29) ?_
  refine lv_icmp_ge (tgt := 37) hx hb dX9_brackets_9 (by decide) (fun c_7 => ?_) (fun c_7 => ?_)
  · have d_8 := n_le (a := n29) (b := i_2) (by omega) (by omega) c_7
    refine lv_iload_n hx hb dX9_brackets_37 rfl (lv_at hl 1 rfl) ?_
    exact W.iret (v := nI b_3) hx hb hr (fun t ht hW => ⟨nI b_3, rfl, ⟨b_3, rfl, by omega, hb_6⟩, ht⟩) (fun _ h9 => by cases h9) dX9_brackets_38
  have d_9 := n_nle (a := n29) (b := i_2) (by omega) (by omega) c_7
  refine lv_iload_n hx hb dX9_brackets_12 rfl (lv_at hl 1 rfl) ?_
  refine lv_aload_n hx hb dX9_brackets_13 rfl (lv_at hl 2 rfl) ?_
  refine va_get (D := D) (ci := 9) (v := .ref (ad 28)) (C := RX9) (T := TX9) (N := 44) hx hb hts hin9 hown hK hP 0 rfl rfl 28 (by decide) (hts (.fieldLink RX9 96 "HoneyHouseModel" "pile" "[I") (List.mem_of_getElem? (i := 2) rfl)) (fun _ h9 => h9) rfl dX9_brackets_14 ?_
  refine lv_iload_n hx hb dX9_brackets_17 rfl (lv_at hl 0 rfl) ?_
  refine va_iald (f := fv 28) (n := 32) hx hb hK hP 19 18 rfl rfl (vp_in_nI (n := i_2) (by omega) (by omega)) dX9_brackets_18 ?_
  refine lv_topi (fun z_10 hz_11 => ?_)
  rw [nI_clamp (n := i_2) (by omega)] at hz_11
  refine lv_bipush (v := 12) hx hb dX9_brackets_19 (by decide) ?_
  refine lv_icmp_ne (tgt := 28) hx hb dX9_brackets_21 (by decide) (fun c_12 => ?_) (fun c_12 => ?_)
  · refine lv_iconst (v := 0) hx hb dX9_brackets_28 (by decide) ?_
    refine lv_iadd hx hb dX9_brackets_29 ?_
    refine tp_i (y := nI (b_3 + 0)) (nI_add b_3 0) ?_
    refine lv_istore_n (lv' := [(1, .int (nI (b_3 + 0))), (2, .int (nI i_2)), (0, .ref h0)]) hx hb dX9_brackets_30 rfl hl (by decide) rfl (fun ls hl => ?_)
    refine lv_iinc (v := nI (i_2 + 1)) (lv' := [(2, .int (nI (i_2 + 1))), (1, .int (nI (b_3 + 0))), (0, .ref h0)]) hx hb dX9_brackets_31 hl (k := 1) rfl (nI_add i_2 1) (by decide) rfl (fun ls hl => ?_)
    refine lv_goto (tgt := 4) hx hb dX9_brackets_34 (by decide) ?_
    exact ih_1 (i_2 + 1, b_3 + 0) ls (by show n29 - (i_2 + 1) < n29 - i_2; omega) ⟨(show (i_2 + 1) ≤ n29 from by omega), (show (b_3 + 0) ≤ (i_2 + 1) from by omega), (show (b_3 + 0) = 0 ∨ ∃ i9 : Nat, i9 < n29 ∧ fv 28 i9 = 12 from hb_6)⟩ (lv_sub hl [0, 1, 2] rfl)
  refine lv_iconst (v := 1) hx hb dX9_brackets_24 (by decide) ?_
  refine lv_goto (tgt := 29) hx hb dX9_brackets_25 (by decide) ?_
  refine lv_iadd hx hb dX9_brackets_29 ?_
  refine tp_i (y := nI (b_3 + 1)) (nI_add b_3 1) ?_
  refine lv_istore_n (lv' := [(1, .int (nI (b_3 + 1))), (2, .int (nI i_2)), (0, .ref h0)]) hx hb dX9_brackets_30 rfl hl (by decide) rfl (fun ls hl => ?_)
  refine lv_iinc (v := nI (i_2 + 1)) (lv' := [(2, .int (nI (i_2 + 1))), (1, .int (nI (b_3 + 1))), (0, .ref h0)]) hx hb dX9_brackets_31 hl (k := 1) rfl (nI_add i_2 1) (by decide) rfl (fun ls hl => ?_)
  refine lv_goto (tgt := 4) hx hb dX9_brackets_34 (by decide) ?_
  exact ih_1 (i_2 + 1, b_3 + 1) ls (by show n29 - (i_2 + 1) < n29 - i_2; omega) ⟨(show (i_2 + 1) ≤ n29 from by omega), (show (b_3 + 1) ≤ (i_2 + 1) from by omega), (show (b_3 + 1) = 0 ∨ ∃ i9 : Nat, i9 < n29 ∧ fv 28 i9 = 12 from Or.inr ⟨i_2, by omega, hz_11.symm.trans c_12⟩)⟩ (lv_sub hl [0, 1, 2] rfl)
