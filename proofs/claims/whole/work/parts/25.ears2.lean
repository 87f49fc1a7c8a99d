/-! MAY, TRUER, THE BEST, SERVES, CUPBOARD, WORDS, BEAST in the class -/
set_option maxHeartbeats 4000000 in
set_option maxRecDepth 100000 in
theorem c_X0_latest (l : Launch) (D : va_G) (cI cZ : ClassId) (q2 : Nat) (a2 : Nat → Nat) (e1 : Int → Int) (e2 : Int → Int) (q : Nat) (a : Nat → Nat) (A : Int → Int) (t : Int) (m : Int) (w : Int) (b : Int) (hA : okA A) (ht : 0 ≤ t ∧ t < 10) (hm : 0 ≤ m ∧ m < A 1) (hw : 1 ≤ w ∧ w ≤ b) (hb : b ≤ 99) (hh : hrd A t 0 e1 e2) : GM l D cI cZ yX0_latest cX0_latest 8 (some .int) ({ frames := 2, cells := 0, slots := 0, locals := 43 }) 0 0 true [.ref q2, .ref q, gi t, gi m, gi w, gi b] [oE q2 a2, gA cI (a2 1) 60 e1, gA cI (a2 2) 10 e2, oF q a (A 0) (A 1) (A 2) (A 3) (A 4), gA cI (a 7) 5 (fun j => A (127 + j))] (gPi (sMay A t m w b)) := by
  refine g_enterI (z := false) (lv0 := [(0, .ref q2), (1, .ref q), (2, gi t), (3, gi m), (4, gi w), (5, gi b)]) _ rfl (by decide) rfl rfl (fun V X ret => ?_)
  have hA1 := okA_1 hA
  have hA0 := okA_0 hA
  have hlk := sLike_b hA (far := 0) ht (m := m) (by omega) (by omega)
  have hto := sTot_b hA (far := 0) ht (by omega)
  refine g_bipush (pc := 0) X dX0_latest_0 (by decide +kernel) ?_
  refine g_istore (pc := 2) X (lv' := [(0, .ref q2), (1, .ref q), (2, gi t), (3, gi m), (4, gi w), (5, gi b), (6, gi 9)]) dX0_latest_2 rfl rfl ?_
  have L4 : ∀ (n4 : Nat) (i : Int), (-1 ≤ i ∧ i ≤ 9) → (sMay A t m w b = gtst (fun l => w * (sTot A t 0 + sBon A l) ≤ (sLike A t m 0 + sBon A l) * b) (i + 1)) → (i + 1).toNat < n4 → V 0 0 [oE q2 a2, gA cI (a2 1) 60 e1, gA cI (a2 2) 10 e2, oF q a (A 0) (A 1) (A 2) (A 3) (A 4), gA cI (a 7) 5 (fun j => A (127 + j))] 4 [(0, .ref q2), (1, .ref q), (2, gi t), (3, gi m), (4, gi w), (5, gi b), (6, gi i)] [] := by
    intro n4
    induction n4 with
    | zero => intro i hi hx hn4; exact absurd hn4 (Nat.not_lt_zero _)
    | succ n4 ih4 =>
      intro i hi hx hn4
      refine g_iload (pc := 4) X dX0_latest_4 6 rfl ?_
      refine g_iflt (pc := 6) X 52 dX0_latest_6 (by decide) (by omega) (fun h6 => ?_) (fun h6 => ?_)
      · refine g_iconst (pc := 52) X dX0_latest_52 ?_
        exact ret _ _ _ _ _ _ dX0_latest_53 rfl rfl (fun h => by cases h) (gPi_e (by rw [hx, show i = -1 by omega]; rfl))
      · refine g_aload_n (pc := 9) X dX0_latest_9 1 rfl ?_
        refine g_iload (pc := 10) X dX0_latest_10 6 rfl ?_
        refine gc_Si (pc := 12) X (c_X0_bonus l D cI cZ q a A i hA (by omega)) lm_X0_71 dX0_latest_12 [3, 4] rfl rfl rfl rfl rfl rfl ?_
        refine g_istore (pc := 15) X (lv' := [(0, .ref q2), (1, .ref q), (2, gi t), (3, gi m), (4, gi w), (5, gi b), (6, gi i), (7, gi (sBon A i))]) dX0_latest_15 rfl rfl ?_
        have hbn := sBon_b hA i
        have hm1 := mulb (a := sLike A t m 0 + sBon A i) (b := b) (A := 3000) (B := 99) (by omega) (by omega)
        have hm2 := mulb (a := w) (b := sTot A t 0 + sBon A i) (A := 99) (B := 8000) (by omega) (by omega)
        refine g_aload_n (pc := 17) X dX0_latest_17 0 rfl ?_
        refine g_iload_n (pc := 18) X dX0_latest_18 2 rfl ?_
        refine g_iload_n (pc := 19) X dX0_latest_19 3 rfl ?_
        refine gc_Vi (pc := 20) X (c_X0_like l D cI cZ q2 a2 e1 t m (by omega) (by omega)) lm_X0_75 dX0_latest_20 [0, 1] rfl rfl rfl rfl rfl rfl rfl rfl ?_
        refine g_top (b := sLike A t m 0) (hh.1 m hm.1 hm.2) ?_
        refine g_iload (pc := 23) X dX0_latest_23 7 rfl ?_
        refine g_iadd (pc := 25) X dX0_latest_25 ?_
        refine g_iload (pc := 26) X dX0_latest_26 5 rfl ?_
        refine g_imul (pc := 28) X dX0_latest_28 ?_
        refine g_iload (pc := 29) X dX0_latest_29 4 rfl ?_
        refine g_aload_n (pc := 31) X dX0_latest_31 0 rfl ?_
        refine g_iload_n (pc := 32) X dX0_latest_32 2 rfl ?_
        refine gc_Vi (pc := 33) X (c_X0_total l D cI cZ q2 a2 e2 t (by omega)) lm_X0_78 dX0_latest_33 [0, 2] rfl rfl rfl rfl rfl rfl rfl rfl ?_
        refine g_top (b := sTot A t 0) hh.2 ?_
        refine g_iload (pc := 36) X dX0_latest_36 7 rfl ?_
        refine g_iadd (pc := 38) X dX0_latest_38 ?_
        refine g_imul (pc := 39) X dX0_latest_39 ?_
        refine g_icmplt (pc := 40) X 46 dX0_latest_40 (by decide) (by omega) (by omega) (fun h40 => ?_) (fun h40 => ?_)
        · refine g_iinc (pc := 46) X (lv' := [(0, .ref q2), (1, .ref q), (2, gi t), (3, gi m), (4, gi w), (5, gi b), (6, gi (i + (-1))), (7, gi (sBon A i))]) dX0_latest_46 6 rfl rfl rfl ?_
          refine g_goto (pc := 49) X 4 dX0_latest_49 (by decide) ?_
          refine g_lsub X [0, 1, 2, 3, 4, 5, 6] rfl ?_
          exact ih4 _ (by omega) (by rw [hx, gtst_n (by omega) (by (try dsimp only); omega)]; exact congrArg _ (by omega)) (by omega)
        · refine g_iload (pc := 43) X dX0_latest_43 6 rfl ?_
          exact ret _ _ _ _ _ _ dX0_latest_45 rfl rfl (fun h => by cases h) (gPi_e (by rw [hx, gtst_s (by omega) (by (try dsimp only); omega)]))
  exact L4 _ _ (by omega) rfl (Nat.lt_succ_self _)

set_option maxHeartbeats 4000000 in
set_option maxRecDepth 100000 in
theorem c_X0_isTruer (l : Launch) (D : va_G) (cI cZ : ClassId) (q2 : Nat) (a2 : Nat → Nat) (e1 : Int → Int) (e2 : Int → Int) (A : Int → Int) (m : Int) (x : Int) (y : Int) (hA : okA A) (hm : 0 ≤ m ∧ m < A 1) (hx : 0 ≤ x ∧ x < 10) (hy : 0 ≤ y ∧ y < 10) (h1 : hrd A x 0 e1 e2) (h2 : hrd A y 0 e1 e2) : GM l D cI cZ yX0_isTruer cX0_isTruer 4 (some .boolean) ({ frames := 2, cells := 0, slots := 0, locals := 43 }) 0 0 true [.ref q2, gi m, gi x, gi y] [oE q2 a2, gA cI (a2 1) 60 e1, gA cI (a2 2) 10 e2] (gPi (sMoreB A m x y)) := by
  refine g_enterI (z := true) (lv0 := [(0, .ref q2), (1, gi m), (2, gi x), (3, gi y)]) _ rfl (by decide) rfl rfl (fun V X ret => ?_)
  have hA1 := okA_1 hA
  have hA0 := okA_0 hA
  have lx := sLike_b hA (far := 0) hx (m := m) (by omega) (by omega)
  have ly := sLike_b hA (far := 0) hy (m := m) (by omega) (by omega)
  have tx := sTot_b hA (far := 0) hx (by omega)
  have ty := sTot_b hA (far := 0) hy (by omega)
  have gx : 1 ≤ gmax 1 (sTot A x 0) ∧ gmax 1 (sTot A x 0) ≤ 6000 := by unfold gmax; split <;> omega
  have gy : 1 ≤ gmax 1 (sTot A y 0) ∧ gmax 1 (sTot A y 0) ≤ 6000 := by unfold gmax; split <;> omega
  have m1 := mulb (a := sLike A x m 0) (b := gmax 1 (sTot A y 0)) (A := 1000) (B := 6000) lx (by omega)
  have m2 := mulb (a := sLike A y m 0) (b := gmax 1 (sTot A x 0)) (A := 1000) (B := 6000) ly (by omega)
  refine g_aload_n (pc := 0) X dX0_isTruer_0 0 rfl ?_
  refine g_iload_n (pc := 1) X dX0_isTruer_1 2 rfl ?_
  refine g_iload_n (pc := 2) X dX0_isTruer_2 1 rfl ?_
  refine gc_Vi (pc := 3) X (c_X0_like l D cI cZ q2 a2 e1 x m (by omega) (by omega)) lm_X0_75 dX0_isTruer_3 [0, 1] rfl rfl rfl rfl rfl rfl rfl rfl ?_
  refine g_top (b := sLike A x m 0) (h1.1 m hm.1 hm.2) ?_
  refine g_iconst (pc := 6) X dX0_isTruer_6 ?_
  refine g_aload_n (pc := 7) X dX0_isTruer_7 0 rfl ?_
  refine g_iload_n (pc := 8) X dX0_isTruer_8 3 rfl ?_
  refine gc_Vi (pc := 9) X (c_X0_total l D cI cZ q2 a2 e2 y (by omega)) lm_X0_78 dX0_isTruer_9 [0, 2] rfl rfl rfl rfl rfl rfl rfl rfl ?_
  refine g_top (b := sTot A y 0) h2.2 ?_
  refine g_max (pc := 12) X lm_X0_65 dX0_isTruer_12 (by omega) (by omega) rfl ?_
  refine g_imul (pc := 15) X dX0_isTruer_15 ?_
  refine g_aload_n (pc := 16) X dX0_isTruer_16 0 rfl ?_
  refine g_iload_n (pc := 17) X dX0_isTruer_17 3 rfl ?_
  refine g_iload_n (pc := 18) X dX0_isTruer_18 1 rfl ?_
  refine gc_Vi (pc := 19) X (c_X0_like l D cI cZ q2 a2 e1 y m (by omega) (by omega)) lm_X0_75 dX0_isTruer_19 [0, 1] rfl rfl rfl rfl rfl rfl rfl rfl ?_
  refine g_top (b := sLike A y m 0) (h2.1 m hm.1 hm.2) ?_
  refine g_iconst (pc := 22) X dX0_isTruer_22 ?_
  refine g_aload_n (pc := 23) X dX0_isTruer_23 0 rfl ?_
  refine g_iload_n (pc := 24) X dX0_isTruer_24 2 rfl ?_
  refine gc_Vi (pc := 25) X (c_X0_total l D cI cZ q2 a2 e2 x (by omega)) lm_X0_78 dX0_isTruer_25 [0, 2] rfl rfl rfl rfl rfl rfl rfl rfl ?_
  refine g_top (b := sTot A x 0) h1.2 ?_
  refine g_max (pc := 28) X lm_X0_65 dX0_isTruer_28 (by omega) (by omega) rfl ?_
  refine g_imul (pc := 31) X dX0_isTruer_31 ?_
  refine g_icmple (pc := 32) X 39 dX0_isTruer_32 (by decide) (by omega) (by omega) (fun h32 => ?_) (fun h32 => ?_)
  · refine g_iconst (pc := 39) X dX0_isTruer_39 ?_
    exact ret _ _ _ _ _ _ dX0_isTruer_40 rfl rfl (fun _ => Or.inl rfl) (gPi_e (gB_f (by omega)).symm)
  · refine g_iconst (pc := 35) X dX0_isTruer_35 ?_
    refine g_goto (pc := 36) X 40 dX0_isTruer_36 (by decide) ?_
    exact ret _ _ _ _ _ _ dX0_isTruer_40 rfl rfl (fun _ => Or.inr rfl) (gPi_e (gB_t (by omega)).symm)

set_option maxHeartbeats 4000000 in
set_option maxRecDepth 100000 in
theorem c_X0_bestFor (l : Launch) (D : va_G) (cI cZ : ClassId) (q2 : Nat) (a2 : Nat → Nat) (e1 : Int → Int) (e2 : Int → Int) (q : Nat) (a : Nat → Nat) (A : Int → Int) (m : Int) (hA : okA A) (hm : 0 ≤ m ∧ m < A 1) (hh : ∀ t, 0 ≤ t → t < A 0 → hrd A t 0 e1 e2) : GM l D cI cZ yX0_bestFor cX0_bestFor 5 (some .int) ({ frames := 3, cells := 0, slots := 0, locals := 66 }) 0 0 true [.ref q2, .ref q, gi m] [oE q2 a2, gA cI (a2 1) 60 e1, gA cI (a2 2) 10 e2, oF q a (A 0) (A 1) (A 2) (A 3) (A 4)] (gPi (sBest A m)) := by
  refine g_enterI (z := false) (lv0 := [(0, .ref q2), (1, .ref q), (2, gi m)]) _ rfl (by decide) rfl rfl (fun V X ret => ?_)
  have hA1 := okA_1 hA
  have hA0 := okA_0 hA
  refine g_iconst (pc := 0) X dX0_bestFor_0 ?_
  refine g_istore_n (pc := 1) X (lv' := [(0, .ref q2), (1, .ref q), (2, gi m), (3, gi (-1))]) dX0_bestFor_1 rfl rfl ?_
  refine g_iconst (pc := 2) X dX0_bestFor_2 ?_
  refine g_istore (pc := 3) X (lv' := [(0, .ref q2), (1, .ref q), (2, gi m), (3, gi (-1)), (4, gi 0)]) dX0_bestFor_3 rfl rfl ?_
  have L5 : ∀ (n5 : Nat) (x : Int) (i : Int), (0 ≤ i ∧ i ≤ A 0) → (x = itr (fun i f => if f = -1 then i else if sMoreB A m i f = 1 then i else f) (-1) i) → (A 0 - i).toNat < n5 → V 0 0 [oE q2 a2, gA cI (a2 1) 60 e1, gA cI (a2 2) 10 e2, oF q a (A 0) (A 1) (A 2) (A 3) (A 4)] 5 [(0, .ref q2), (1, .ref q), (2, gi m), (3, gi x), (4, gi i)] [] := by
    intro n5
    induction n5 with
    | zero => intro x i hi hx hn5; exact absurd hn5 (Nat.not_lt_zero _)
    | succ n5 ih5 =>
      intro x i hi hx hn5
      have hbb := sBest_b (A := A) (m := m) hi.1
      rw [← hx] at hbb
      refine g_iload (pc := 5) X dX0_bestFor_5 4 rfl ?_
      refine g_aload_n (pc := 7) X dX0_bestFor_7 1 rfl ?_
      refine g_get (pc := 8) X fl_X0_21 dX0_bestFor_8 3 (v := gi (A 0)) rfl rfl ?_
      refine g_icmpge (pc := 11) X 39 dX0_bestFor_11 (by decide) (by omega) (by omega) (fun h11 => ?_) (fun h11 => ?_)
      · refine g_iload_n (pc := 39) X dX0_bestFor_39 3 rfl ?_
        exact ret _ _ _ _ _ _ dX0_bestFor_40 rfl rfl (fun h => by cases h) (gPi_e (by rw [hx, show i = A 0 by omega]; rfl))
      · refine g_iload_n (pc := 14) X dX0_bestFor_14 3 rfl ?_
        refine g_iconst (pc := 15) X dX0_bestFor_15 ?_
        refine g_icmpeq (pc := 16) X 30 dX0_bestFor_16 (by decide) (by omega) (by omega) (fun h16 => ?_) (fun h16 => ?_)
        · refine g_iload (pc := 30) X dX0_bestFor_30 4 rfl ?_
          refine g_istore_n (pc := 32) X (lv' := [(0, .ref q2), (1, .ref q), (2, gi m), (3, gi i), (4, gi i)]) dX0_bestFor_32 rfl rfl ?_
          refine g_iinc (pc := 33) X (lv' := [(0, .ref q2), (1, .ref q), (2, gi m), (3, gi i), (4, gi (i + 1))]) dX0_bestFor_33 4 rfl rfl rfl ?_
          refine g_goto (pc := 36) X 5 dX0_bestFor_36 (by decide) ?_
          exact ih5 _ _ (by omega) (by rw [itr_s hi.1, ← hx]; (try dsimp only); first | rw [if_pos (by omega)] | rw [if_neg (by omega), if_pos h27b] | rw [if_neg (by omega), if_neg h27b]) (by omega)
        · refine g_aload_n (pc := 19) X dX0_bestFor_19 0 rfl ?_
          refine g_iload_n (pc := 20) X dX0_bestFor_20 2 rfl ?_
          refine g_iload (pc := 21) X dX0_bestFor_21 4 rfl ?_
          refine g_iload_n (pc := 23) X dX0_bestFor_23 3 rfl ?_
          refine gc_Vi (pc := 24) X (c_X0_isTruer l D cI cZ q2 a2 e1 e2 _ m i x hA (by omega) (by omega) (by omega) (hh i hi.1 (by omega)) (hh x (by omega) (by omega))) lm_X0_81 dX0_bestFor_24 [0, 1, 2] rfl rfl rfl rfl rfl rfl rfl rfl ?_
          refine g_ifeq (pc := 27) X 33 dX0_bestFor_27 (by decide) (by have := @gB_n (sLike A x m 0 * gmax 1 (sTot A i 0) < sLike A i m 0 * gmax 1 (sTot A x 0)) _; unfold sMoreB; omega) (fun h27 => ?_) (fun h27 => ?_)
          · have h27b : ¬ sMoreB A m i x = 1 := by omega
            refine g_iinc (pc := 33) X (lv' := [(0, .ref q2), (1, .ref q), (2, gi m), (3, gi x), (4, gi (i + 1))]) dX0_bestFor_33 4 rfl rfl rfl ?_
            refine g_goto (pc := 36) X 5 dX0_bestFor_36 (by decide) ?_
            exact ih5 _ _ (by omega) (by rw [itr_s hi.1, ← hx]; (try dsimp only); first | rw [if_pos (by omega)] | rw [if_neg (by omega), if_pos h27b] | rw [if_neg (by omega), if_neg h27b]) (by omega)
          · have h27b : sMoreB A m i x = 1 := by have q := @gB_n (sLike A x m 0 * gmax 1 (sTot A i 0) < sLike A i m 0 * gmax 1 (sTot A x 0)) _; unfold sMoreB at h27 ⊢; omega
            refine g_iload (pc := 30) X dX0_bestFor_30 4 rfl ?_
            refine g_istore_n (pc := 32) X (lv' := [(0, .ref q2), (1, .ref q), (2, gi m), (3, gi i), (4, gi i)]) dX0_bestFor_32 rfl rfl ?_
            refine g_iinc (pc := 33) X (lv' := [(0, .ref q2), (1, .ref q), (2, gi m), (3, gi i), (4, gi (i + 1))]) dX0_bestFor_33 4 rfl rfl rfl ?_
            refine g_goto (pc := 36) X 5 dX0_bestFor_36 (by decide) ?_
            exact ih5 _ _ (by omega) (by rw [itr_s hi.1, ← hx]; (try dsimp only); first | rw [if_pos (by omega)] | rw [if_neg (by omega), if_pos h27b] | rw [if_neg (by omega), if_neg h27b]) (by omega)
  exact L5 _ _ _ (by omega) rfl (Nat.lt_succ_self _)

set_option maxHeartbeats 4000000 in
set_option maxRecDepth 100000 in
theorem c_X0_thousandths (l : Launch) (D : va_G) (cI cZ : ClassId) (q2 : Nat) (a2 : Nat → Nat) (e1 : Int → Int) (e2 : Int → Int) (A : Int → Int) (t : Int) (m : Int) (hA : okA A) (ht : 0 ≤ t ∧ t < 10) (hm : 0 ≤ m ∧ m < A 1) (hh : hrd A t 0 e1 e2) : GM l D cI cZ yX0_thousandths cX0_thousandths 4 (some .int) ({ frames := 2, cells := 0, slots := 0, locals := 43 }) 0 0 true [.ref q2, gi t, gi m] [oE q2 a2, gA cI (a2 1) 60 e1, gA cI (a2 2) 10 e2] (gPi (sThou A t m)) := by
  refine g_enterI (z := false) (lv0 := [(0, .ref q2), (1, gi t), (2, gi m)]) _ rfl (by decide) rfl rfl (fun V X ret => ?_)
  have hA1 := okA_1 hA
  have hA0 := okA_0 hA
  have hlk := sLike_b hA (far := 0) ht (m := m) (by omega) (by omega)
  have hto := sTot_b hA (far := 0) ht (by omega)
  refine g_aload_n (pc := 0) X dX0_thousandths_0 0 rfl ?_
  refine g_iload_n (pc := 1) X dX0_thousandths_1 1 rfl ?_
  refine gc_Vi (pc := 2) X (c_X0_total l D cI cZ q2 a2 e2 t (by omega)) lm_X0_78 dX0_thousandths_2 [0, 2] rfl rfl rfl rfl rfl rfl rfl rfl ?_
  refine g_top (b := sTot A t 0) hh.2 ?_
  refine g_istore_n (pc := 5) X (lv' := [(0, .ref q2), (1, gi t), (2, gi m), (3, gi (sTot A t 0))]) dX0_thousandths_5 rfl rfl ?_
  refine g_iload_n (pc := 6) X dX0_thousandths_6 3 rfl ?_
  refine g_iconst (pc := 7) X dX0_thousandths_7 ?_
  refine g_icmpge (pc := 8) X 15 dX0_thousandths_8 (by decide) (by omega) (by omega) (fun h8 => ?_) (fun h8 => ?_)
  · refine g_sipush (pc := 15) X dX0_thousandths_15 (by decide +kernel) ?_
    refine g_aload_n (pc := 18) X dX0_thousandths_18 0 rfl ?_
    refine g_iload_n (pc := 19) X dX0_thousandths_19 1 rfl ?_
    refine g_iload_n (pc := 20) X dX0_thousandths_20 2 rfl ?_
    refine gc_Vi (pc := 21) X (c_X0_like l D cI cZ q2 a2 e1 t m (by omega) (by omega)) lm_X0_75 dX0_thousandths_21 [0, 1] rfl rfl rfl rfl rfl rfl rfl rfl ?_
    refine g_top (b := sLike A t m 0) (hh.1 m hm.1 hm.2) ?_
    refine g_imul (pc := 24) X dX0_thousandths_24 ?_
    refine g_iload_n (pc := 25) X dX0_thousandths_25 3 rfl ?_
    refine g_idiv (pc := 26) X dX0_thousandths_26 (by omega) (by omega) ?_
    exact ret _ _ _ _ _ _ dX0_thousandths_27 rfl rfl (fun h => by cases h) (gPi_e (by unfold sThou; rw [if_neg (by omega)]))
  · refine g_iconst (pc := 11) X dX0_thousandths_11 ?_
    refine g_goto (pc := 12) X 27 dX0_thousandths_12 (by decide) ?_
    exact ret _ _ _ _ _ _ dX0_thousandths_27 rfl rfl (fun h => by cases h) (gPi_e (by unfold sThou; rw [if_pos (by omega)]))

set_option maxHeartbeats 4000000 in
set_option maxRecDepth 100000 in
theorem c_X0_service (l : Launch) (D : va_G) (cI cZ : ClassId) (q2 : Nat) (a2 : Nat → Nat) (e1 : Int → Int) (e2 : Int → Int) (q : Nat) (a : Nat → Nat) (A : Int → Int) (s : Int) (m : Int) (hA : okA A) (hs : 0 ≤ s ∧ s < 1024) (hm : 0 ≤ m ∧ m < A 1) (hh : ∀ t, 0 ≤ t → t < A 0 → hrd A t 0 e1 e2) : GM l D cI cZ yX0_service cX0_service 6 (some .int) ({ frames := 3, cells := 0, slots := 0, locals := 66 }) 0 0 true [.ref q2, .ref q, gi s, gi m] [oE q2 a2, gA cI (a2 1) 60 e1, gA cI (a2 2) 10 e2, oF q a (A 0) (A 1) (A 2) (A 3) (A 4)] (gPi (sServ A s m)) := by
  refine g_enterI (z := false) (lv0 := [(0, .ref q2), (1, .ref q), (2, gi s), (3, gi m)]) _ rfl (by decide) rfl rfl (fun V X ret => ?_)
  have hA1 := okA_1 hA
  have hA0 := okA_0 hA
  refine g_iconst (pc := 0) X dX0_service_0 ?_
  refine g_istore (pc := 1) X (lv' := [(0, .ref q2), (1, .ref q), (2, gi s), (3, gi m), (4, gi 0)]) dX0_service_1 rfl rfl ?_
  refine g_iconst (pc := 3) X dX0_service_3 ?_
  refine g_istore (pc := 4) X (lv' := [(0, .ref q2), (1, .ref q), (2, gi s), (3, gi m), (4, gi 0), (5, gi 0)]) dX0_service_4 rfl rfl ?_
  have L6 : ∀ (n6 : Nat) (x : Int) (i : Int), (0 ≤ i ∧ i ≤ A 0) → (x = itr (fun i x => if bit s i = 1 then gmax x (sThou A i m) else x) 0 i) → (A 0 - i).toNat < n6 → V 0 0 [oE q2 a2, gA cI (a2 1) 60 e1, gA cI (a2 2) 10 e2, oF q a (A 0) (A 1) (A 2) (A 3) (A 4)] 6 [(0, .ref q2), (1, .ref q), (2, gi s), (3, gi m), (4, gi x), (5, gi i)] [] := by
    intro n6
    induction n6 with
    | zero => intro x i hi hx hn6; exact absurd hn6 (Nat.not_lt_zero _)
    | succ n6 ih6 =>
      intro x i hi hx hn6
      have hbb := sServ_b hA (s := s) hm hi
      rw [← hx] at hbb
      have hbt := bit_b s i
      refine g_iload (pc := 6) X dX0_service_6 5 rfl ?_
      refine g_aload_n (pc := 8) X dX0_service_8 1 rfl ?_
      refine g_get (pc := 9) X fl_X0_21 dX0_service_9 3 (v := gi (A 0)) rfl rfl ?_
      refine g_icmpge (pc := 12) X 45 dX0_service_12 (by decide) (by omega) (by omega) (fun h12 => ?_) (fun h12 => ?_)
      · refine g_iload (pc := 45) X dX0_service_45 4 rfl ?_
        exact ret _ _ _ _ _ _ dX0_service_47 rfl rfl (fun h => by cases h) (gPi_e (by rw [hx, show i = A 0 by omega]; rfl))
      · refine g_iload_n (pc := 15) X dX0_service_15 2 rfl ?_
        refine g_iload (pc := 16) X dX0_service_16 5 rfl ?_
        refine g_ishr (pc := 18) X dX0_service_18 (by omega) (by omega) ?_
        refine g_iconst (pc := 19) X dX0_service_19 ?_
        refine g_iand (pc := 20) X (r := bit s i) dX0_service_20 (iI_bit hs.1) ?_
        refine g_iconst (pc := 21) X dX0_service_21 ?_
        refine g_icmpne (pc := 22) X 39 dX0_service_22 (by decide) (by omega) (by omega) (fun h22 => ?_) (fun h22 => ?_)
        · refine g_iinc (pc := 39) X (lv' := [(0, .ref q2), (1, .ref q), (2, gi s), (3, gi m), (4, gi x), (5, gi (i + 1))]) dX0_service_39 5 rfl rfl rfl ?_
          refine g_goto (pc := 42) X 6 dX0_service_42 (by decide) ?_
          exact ih6 _ _ (by omega) (by rw [itr_s hi.1, ← hx]; (try dsimp only); first | rw [if_pos (by omega)] | rw [if_neg (by omega)]) (by omega)
        · refine g_iload (pc := 25) X dX0_service_25 4 rfl ?_
          refine g_aload_n (pc := 27) X dX0_service_27 0 rfl ?_
          refine g_iload (pc := 28) X dX0_service_28 5 rfl ?_
          refine g_iload_n (pc := 30) X dX0_service_30 3 rfl ?_
          refine gc_Vi (pc := 31) X (c_X0_thousandths l D cI cZ q2 a2 e1 e2 _ i m hA (by omega) (by omega) (hh i hi.1 (by omega))) lm_X0_85 dX0_service_31 [0, 1, 2] rfl rfl rfl rfl rfl rfl rfl rfl ?_
          refine g_max (pc := 34) X lm_X0_65 dX0_service_34 (by omega) (by have q := sThou_b hA (t := i) (m := m) (by omega) (by omega); omega) rfl ?_
          refine g_istore (pc := 37) X (lv' := [(0, .ref q2), (1, .ref q), (2, gi s), (3, gi m), (4, gi (gmax x (sThou A i m))), (5, gi i)]) dX0_service_37 rfl rfl ?_
          refine g_iinc (pc := 39) X (lv' := [(0, .ref q2), (1, .ref q), (2, gi s), (3, gi m), (4, gi (gmax x (sThou A i m))), (5, gi (i + 1))]) dX0_service_39 5 rfl rfl rfl ?_
          refine g_goto (pc := 42) X 6 dX0_service_42 (by decide) ?_
          exact ih6 _ _ (by omega) (by rw [itr_s hi.1, ← hx]; (try dsimp only); first | rw [if_pos (by omega)] | rw [if_neg (by omega)]) (by omega)
  exact L6 _ _ _ (by omega) rfl (Nat.lt_succ_self _)

set_option maxHeartbeats 4000000 in
set_option maxRecDepth 100000 in
theorem c_X0_worthOf (l : Launch) (D : va_G) (cI cZ : ClassId) (q2 : Nat) (a2 : Nat → Nat) (e1 : Int → Int) (e2 : Int → Int) (q : Nat) (a : Nat → Nat) (A : Int → Int) (s : Int) (hA : okA A) (hs : 0 ≤ s ∧ s < 1024) (hh : ∀ t, 0 ≤ t → t < A 0 → hrd A t 0 e1 e2) : GM l D cI cZ yX0_worthOf cX0_worthOf 5 (some .int) ({ frames := 4, cells := 0, slots := 0, locals := 91 }) 0 0 true [.ref q2, .ref q, gi s] [oE q2 a2, gA cI (a2 1) 60 e1, gA cI (a2 2) 10 e2, oF q a (A 0) (A 1) (A 2) (A 3) (A 4), gA cI (a 5) 6 (fun j => A (85 + j))] (gPi (sWorth A s)) := by
  refine g_enterI (z := false) (lv0 := [(0, .ref q2), (1, .ref q), (2, gi s)]) _ rfl (by decide) rfl rfl (fun V X ret => ?_)
  have hA1 := okA_1 hA
  have hA0 := okA_0 hA
  refine g_iconst (pc := 0) X dX0_worthOf_0 ?_
  refine g_istore_n (pc := 1) X (lv' := [(0, .ref q2), (1, .ref q), (2, gi s), (3, gi 0)]) dX0_worthOf_1 rfl rfl ?_
  refine g_iconst (pc := 2) X dX0_worthOf_2 ?_
  refine g_istore (pc := 3) X (lv' := [(0, .ref q2), (1, .ref q), (2, gi s), (3, gi 0), (4, gi 0)]) dX0_worthOf_3 rfl rfl ?_
  have L5 : ∀ (n5 : Nat) (x : Int) (i : Int), (0 ≤ i ∧ i ≤ A 1) → (x = sm (fun m => A (85 + m) * sServ A s m) i) → (A 1 - i).toNat < n5 → V 0 0 [oE q2 a2, gA cI (a2 1) 60 e1, gA cI (a2 2) 10 e2, oF q a (A 0) (A 1) (A 2) (A 3) (A 4), gA cI (a 5) 6 (fun j => A (85 + j))] 5 [(0, .ref q2), (1, .ref q), (2, gi s), (3, gi x), (4, gi i)] [] := by
    intro n5
    induction n5 with
    | zero => intro x i hi hx hn5; exact absurd hn5 (Nat.not_lt_zero _)
    | succ n5 ih5 =>
      intro x i hi hx hn5
      refine g_iload (pc := 5) X dX0_worthOf_5 4 rfl ?_
      refine g_aload_n (pc := 7) X dX0_worthOf_7 1 rfl ?_
      refine g_get (pc := 8) X fl_X0_41 dX0_worthOf_8 3 (v := gi (A 1)) rfl rfl ?_
      refine g_icmpge (pc := 11) X 41 dX0_worthOf_11 (by decide) (by omega) (by omega) (fun h11 => ?_) (fun h11 => ?_)
      · refine g_iload_n (pc := 41) X dX0_worthOf_41 3 rfl ?_
        exact ret _ _ _ _ _ _ dX0_worthOf_42 rfl rfl (fun h => by cases h) (gPi_e (by rw [hx, show i = A 1 by omega]; rfl))
      · refine g_iload_n (pc := 14) X dX0_worthOf_14 3 rfl ?_
        refine g_aload_n (pc := 15) X dX0_worthOf_15 1 rfl ?_
        refine g_get (pc := 16) X fl_X0_96 dX0_worthOf_16 3 (v := .ref (a 5)) rfl rfl ?_
        refine g_iload (pc := 19) X dX0_worthOf_19 4 rfl ?_
        refine gc_Ni (pc := 21) X (c_X8_look l D cI cZ (a 5) 6 (fun j => A (85 + j)) i (by omega) rfl) lm_X0_55 dX0_worthOf_21 [4] rfl rfl rfl rfl rfl rfl ?_
        refine g_top (b := A (85 + i)) (lk_in (by omega)) ?_
        refine g_aload_n (pc := 24) X dX0_worthOf_24 0 rfl ?_
        refine g_aload_n (pc := 25) X dX0_worthOf_25 1 rfl ?_
        refine g_iload_n (pc := 26) X dX0_worthOf_26 2 rfl ?_
        refine g_iload (pc := 27) X dX0_worthOf_27 4 rfl ?_
        refine gc_Vi (pc := 29) X (c_X0_service l D cI cZ q2 a2 e1 e2 q a _ s i hA (by omega) (by omega) hh) lm_X0_99 dX0_worthOf_29 [0, 1, 2, 3] rfl rfl rfl rfl rfl rfl rfl rfl ?_
        refine g_imul (pc := 32) X dX0_worthOf_32 ?_
        refine g_iadd (pc := 33) X dX0_worthOf_33 ?_
        refine g_istore_n (pc := 34) X (lv' := [(0, .ref q2), (1, .ref q), (2, gi s), (3, gi (x + A (85 + i) * (sServ A s i))), (4, gi i)]) dX0_worthOf_34 rfl rfl ?_
        refine g_iinc (pc := 35) X (lv' := [(0, .ref q2), (1, .ref q), (2, gi s), (3, gi (x + A (85 + i) * (sServ A s i))), (4, gi (i + 1))]) dX0_worthOf_35 4 rfl rfl rfl ?_
        refine g_goto (pc := 38) X 5 dX0_worthOf_38 (by decide) ?_
        exact ih5 _ _ (by omega) (by rw [hx, sm_s hi.1]) (by omega)
  exact L5 _ _ _ (by omega) rfl (Nat.lt_succ_self _)
