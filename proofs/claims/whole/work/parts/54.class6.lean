/-! the class: THE FRACTION, 1 -/
theorem dv_pos {u f : Int} (hu : 0 < u) (hf : 2 ≤ f) (h : u % f = 0) : 0 < u / f := by
  have e := Int.emod_add_mul_ediv u f
  rcases Int.lt_or_le 0 (u / f) with q | q
  · exact q
  · have : f * (u / f) ≤ 0 := Int.mul_nonpos_of_nonneg_of_nonpos (by omega) q
    omega

set_option maxHeartbeats 4000000 in
set_option maxRecDepth 100000 in
theorem c_X2_multiplyTerm (l : Launch) (D : va_G) (cI cZ : ClassId) (q : Nat) (a : Nat → Nat) (b2 : Nat → Nat) (n2 : Int) (d2 : Int → Int) (P : Int) (f : Int) (t : Int) (hl : lm d2 n2 P) (hf : 0 ≤ f ∧ f < 1073741824) (ht : 0 ≤ t ∧ t < 2147483647) (hP : ∀ kk, 0 ≤ kk → kk ≤ t → P * tn f kk < B8) : GM l D cI cZ yX2_multiplyTerm cX2_multiplyTerm 4 none ({ frames := 3, cells := 0, slots := 0, locals := 68 }) 0 0 false [.ref q, gi f, gi t] [oC q a, oL (a 2) b2 n2, gA cI (b2 0) 8 d2] (gPxv (fun xo : (Int → Int) × (Int) => [oC q a, oL (a 2) b2 xo.2, gA cI (b2 0) 8 xo.1]) (fun xo : (Int → Int) × (Int) => (lm xo.1 xo.2 (P * tn f t)))) := by
  refine g_enterV (lv0 := [(0, .ref q), (1, gi f), (2, gi t)]) (by decide) rfl rfl (fun V X ret => ?_)
  refine g_iconst (pc := 0) X dX2_multiplyTerm_0 ?_
  refine g_istore_n (pc := 1) X (lv' := [(0, .ref q), (1, gi f), (2, gi t), (3, gi 0)]) dX2_multiplyTerm_1 rfl rfl ?_
  have L2 : ∀ (n2 : Nat) (i : Int) (m : Int) (e : Int → Int), (0 ≤ i ∧ i ≤ t) → (lm e m (P * tn f i)) → (t - i).toNat < n2 → V 0 0 [oC q a, oL (a 2) b2 m, gA cI (b2 0) 8 e] 2 [(0, .ref q), (1, gi f), (2, gi t), (3, gi i)] [] := by
    intro n2
    induction n2 with
    | zero => intro i m e hi he hn2; exact absurd hn2 (Nat.not_lt_zero _)
    | succ n2 ih2 =>
      intro i m e hi he hn2
      refine g_iload_n (pc := 2) X dX2_multiplyTerm_2 3 rfl ?_
      refine g_iload_n (pc := 3) X dX2_multiplyTerm_3 2 rfl ?_
      refine g_icmpge (pc := 4) X 21 dX2_multiplyTerm_4 (by decide) (by omega) (by omega) (fun h4 => ?_) (fun h4 => ?_)
      · exact ret _ _ _ _ _ dX2_multiplyTerm_21 rfl rfl (gPxv_e (_, _) rfl (by rw [show t = i by omega]; exact he))
      · refine g_aload_n (pc := 7) X dX2_multiplyTerm_7 0 rfl ?_
        refine g_get (pc := 8) X fl_X2_21 dX2_multiplyTerm_8 0 (v := .ref (a 2)) rfl rfl ?_
        refine g_iload_n (pc := 11) X dX2_multiplyTerm_11 1 rfl ?_
        refine gc_Vxv (pc := 12) X (wr := [oC q a]) (c_X4_multiply l D cI cZ (a 2) b2 m e (P * tn f i) f he (by omega) (by rw [Int.mul_assoc, ← tn_s hi.1]; exact hP _ (by omega) (by omega))) lm_X2_54 dX2_multiplyTerm_12 [1, 2] [0] rfl rfl rfl rfl (by decide) rfl rfl rfl rfl rfl rfl (fun x12 hx12 => ?_)
        obtain ⟨g_12, m_12⟩ := x12
        have ht_12 : lm g_12 m_12 ((P * tn f i) * f) := hx12
        refine g_pick (cn := 0) (sl := 0) (st := []) X (ws' := [oC q a, oL (a 2) b2 m_12, gA cI (b2 0) 8 g_12]) [0, 1, 2] rfl rfl ?_
        refine g_iinc (pc := 15) X (lv' := [(0, .ref q), (1, gi f), (2, gi t), (3, gi (i + 1))]) dX2_multiplyTerm_15 3 rfl rfl rfl ?_
        refine g_goto (pc := 18) X 2 dX2_multiplyTerm_18 (by decide) ?_
        exact ih2 _ _ _ (by omega) (by rw [tn_s hi.1, ← Int.mul_assoc]; exact ht_12) (by omega)
  exact L2 _ _ _ _ (by omega) (by rw [show tn f 0 = 1 from rfl, Int.mul_one]; exact hl) (Nat.lt_succ_self _)

set_option maxHeartbeats 4000000 in
set_option maxRecDepth 100000 in
theorem c_X2_ways (l : Launch) (D : va_G) (cI cZ : ClassId) (n : Int) (k : Int) (hn : 0 ≤ n ∧ n ≤ 9) (hk : 0 ≤ k ∧ k ≤ n) : GM l D cI cZ yX2_ways cX2_ways 4 (some .int) ({ frames := 0, cells := 0, slots := 0, locals := 0 }) 0 0 true [gi n, gi k] [] (gPi (wy n k)) := by
  refine g_enterI (z := false) (lv0 := [(0, gi n), (1, gi k)]) _ rfl (by decide) rfl rfl (fun V X ret => ?_)
  refine g_iconst (pc := 0) X dX2_ways_0 ?_
  refine g_istore_n (pc := 1) X (lv' := [(0, gi n), (1, gi k), (2, gi 1)]) dX2_ways_1 rfl rfl ?_
  refine g_iconst (pc := 2) X dX2_ways_2 ?_
  refine g_istore_n (pc := 3) X (lv' := [(0, gi n), (1, gi k), (2, gi 1), (3, gi 0)]) dX2_ways_3 rfl rfl ?_
  have L4 : ∀ (n4 : Nat) (x : Int) (i : Int), (0 ≤ i ∧ i ≤ k) → (x = wy n i) → (k - i).toNat < n4 → V 0 0 [] 4 [(0, gi n), (1, gi k), (2, gi x), (3, gi i)] [] := by
    intro n4
    induction n4 with
    | zero => intro x i hi hx hn4; exact absurd hn4 (Nat.not_lt_zero _)
    | succ n4 ih4 =>
      intro x i hi hx hn4
      have hw := wy_b (n := n) (j := i) (by omega) (by omega)
      rw [← hx] at hw
      have hm := mulb (a := x) (b := n - i) (A := 126) (B := 9) hw (by omega)
      refine g_iload_n (pc := 4) X dX2_ways_4 3 rfl ?_
      refine g_iload_n (pc := 5) X dX2_ways_5 1 rfl ?_
      refine g_icmpge (pc := 6) X 25 dX2_ways_6 (by decide) (by omega) (by omega) (fun h6 => ?_) (fun h6 => ?_)
      · refine g_iload_n (pc := 25) X dX2_ways_25 2 rfl ?_
        exact ret _ _ _ _ _ _ dX2_ways_26 rfl rfl (fun h => by cases h) (gPi_e (by rw [hx, show i = k by omega]))
      · refine g_iload_n (pc := 9) X dX2_ways_9 2 rfl ?_
        refine g_iload_n (pc := 10) X dX2_ways_10 0 rfl ?_
        refine g_iload_n (pc := 11) X dX2_ways_11 3 rfl ?_
        refine g_isub (pc := 12) X dX2_ways_12 ?_
        refine g_imul (pc := 13) X dX2_ways_13 ?_
        refine g_iload_n (pc := 14) X dX2_ways_14 3 rfl ?_
        refine g_iconst (pc := 15) X dX2_ways_15 ?_
        refine g_iadd (pc := 16) X dX2_ways_16 ?_
        refine g_idiv (pc := 17) X dX2_ways_17 (by omega) (by omega) ?_
        refine g_istore_n (pc := 18) X (lv' := [(0, gi n), (1, gi k), (2, gi (x * (n - i) / (i + 1))), (3, gi i)]) dX2_ways_18 rfl rfl ?_
        refine g_iinc (pc := 19) X (lv' := [(0, gi n), (1, gi k), (2, gi (x * (n - i) / (i + 1))), (3, gi (i + 1))]) dX2_ways_19 3 rfl rfl rfl ?_
        refine g_goto (pc := 22) X 4 dX2_ways_22 (by decide) ?_
        exact ih4 _ _ (by omega) (by rw [wy_s hi.1, ← hx]) (by omega)
  exact L4 _ _ _ (by omega) (by rfl) (Nat.lt_succ_self _)

set_option maxHeartbeats 4000000 in
set_option maxRecDepth 100000 in
theorem c_X2_commonDivisor (l : Launch) (D : va_G) (cI cZ : ClassId) (x : Int) (y : Int) (hx : 0 ≤ x ∧ x ≤ 32768) (hy : 0 ≤ y ∧ y ≤ 32768) : GM l D cI cZ yX2_commonDivisor cX2_commonDivisor 6 (some .int) ({ frames := 1, cells := 0, slots := 0, locals := 21 }) 0 0 true [gi x, gi y] [] (gPi (gmax 1 (gc x y))) := by
  refine g_enterI (z := false) (lv0 := [(0, gi x), (1, gi y)]) _ rfl (by decide) rfl rfl (fun V X ret => ?_)
  refine g_iload_n (pc := 0) X dX2_commonDivisor_0 0 rfl ?_
  refine g_istore_n (pc := 1) X (lv' := [(0, gi x), (1, gi y), (2, gi x)]) dX2_commonDivisor_1 rfl rfl ?_
  refine g_iload_n (pc := 2) X dX2_commonDivisor_2 1 rfl ?_
  refine g_istore_n (pc := 3) X (lv' := [(0, gi x), (1, gi y), (2, gi x), (3, gi y)]) dX2_commonDivisor_3 rfl rfl ?_
  refine g_iconst (pc := 4) X dX2_commonDivisor_4 ?_
  refine g_istore (pc := 5) X (lv' := [(0, gi x), (1, gi y), (2, gi x), (3, gi y), (4, gi 0)]) dX2_commonDivisor_5 rfl rfl ?_
  have L7 : ∀ (n7 : Nat) (u : Int) (w : Int) (i : Int), (0 ≤ i ∧ i ≤ 100) → (0 ≤ u ∧ u ≤ 32768) → (0 ≤ w ∧ w ≤ 32768) → (gc u w = gc x y) → (euc u w i) → (100 - i).toNat < n7 → V 0 0 [] 7 [(0, gi x), (1, gi y), (2, gi u), (3, gi w), (4, gi i)] [] := by
    intro n7
    induction n7 with
    | zero => intro u w i hi hu hw hg he hn7; exact absurd hn7 (Nat.not_lt_zero _)
    | succ n7 ih7 =>
      intro u w i hi hu hw hg he hn7
      refine g_iload (pc := 7) X dX2_commonDivisor_7 4 rfl ?_
      refine g_bipush (pc := 9) X dX2_commonDivisor_9 (by decide +kernel) ?_
      refine g_icmpge (pc := 11) X 34 dX2_commonDivisor_11 (by decide) (by omega) (by omega) (fun h11 => ?_) (fun h11 => ?_)
      · have hz : u = gc x y := by rcases Int.lt_or_le 0 w with qq | qq; exact (euc_e qq (by rw [show (100 : Int) = i by omega]; exact he)).elim; rw [← hg, show w = 0 by omega, gc_z hu.1]
        refine g_iconst (pc := 34) X dX2_commonDivisor_34 ?_
        refine g_iload_n (pc := 35) X dX2_commonDivisor_35 2 rfl ?_
        refine g_max (pc := 36) X lm_X2_32 dX2_commonDivisor_36 (by omega) (by omega) rfl ?_
        exact ret _ _ _ _ _ _ dX2_commonDivisor_39 rfl rfl (fun h => by cases h) (gPi_e (by rw [hz]))
      · refine g_iload_n (pc := 14) X dX2_commonDivisor_14 3 rfl ?_
        refine g_ifle (pc := 15) X 34 dX2_commonDivisor_15 (by decide) (by omega) (fun h15 => ?_) (fun h15 => ?_)
        · have hz : u = gc x y := by rw [← hg, show w = 0 by omega, gc_z hu.1]
          refine g_iconst (pc := 34) X dX2_commonDivisor_34 ?_
          refine g_iload_n (pc := 35) X dX2_commonDivisor_35 2 rfl ?_
          refine g_max (pc := 36) X lm_X2_32 dX2_commonDivisor_36 (by omega) (by omega) rfl ?_
          exact ret _ _ _ _ _ _ dX2_commonDivisor_39 rfl rfl (fun h => by cases h) (gPi_e (by rw [hz]))
        · refine g_iload_n (pc := 18) X dX2_commonDivisor_18 2 rfl ?_
          refine g_iload_n (pc := 19) X dX2_commonDivisor_19 3 rfl ?_
          refine g_irem (pc := 20) X dX2_commonDivisor_20 (by omega) (by omega) ?_
          have m1 := Int.emod_nonneg u (show w ≠ 0 by omega)
          have m2 := Int.emod_lt_of_pos u (show 0 < w by omega)
          refine g_istore (pc := 21) X (lv' := [(0, gi x), (1, gi y), (2, gi u), (3, gi w), (4, gi i), (5, gi (u % w))]) dX2_commonDivisor_21 rfl rfl ?_
          refine g_iload_n (pc := 23) X dX2_commonDivisor_23 3 rfl ?_
          refine g_istore_n (pc := 24) X (lv' := [(0, gi x), (1, gi y), (2, gi w), (3, gi w), (4, gi i), (5, gi (u % w))]) dX2_commonDivisor_24 rfl rfl ?_
          refine g_iload (pc := 25) X dX2_commonDivisor_25 5 rfl ?_
          refine g_istore_n (pc := 27) X (lv' := [(0, gi x), (1, gi y), (2, gi w), (3, gi (u % w)), (4, gi i), (5, gi (u % w))]) dX2_commonDivisor_27 rfl rfl ?_
          refine g_iinc (pc := 28) X (lv' := [(0, gi x), (1, gi y), (2, gi w), (3, gi (u % w)), (4, gi (i + 1)), (5, gi (u % w))]) dX2_commonDivisor_28 4 rfl rfl rfl ?_
          refine g_goto (pc := 31) X 7 dX2_commonDivisor_31 (by decide) ?_
          refine g_lsub X [0, 1, 2, 3, 4] rfl ?_
          exact ih7 _ _ _ (by omega) (by omega) (by omega) ((gc_mod hu.1 (by omega)).trans hg) (euc_s hu.1 (by omega) hi.1 he) (by omega)
  exact L7 _ _ _ _ (by omega) (by omega) (by omega) rfl (Or.inl ⟨rfl, hx.2, hy.2⟩) (Nat.lt_succ_self _)

set_option maxHeartbeats 4000000 in
set_option maxRecDepth 100000 in
theorem c_X2_becomeShare (l : Launch) (D : va_G) (cI cZ : ClassId) (q : Nat) (a : Nat → Nat) (b0 : Nat → Nat) (b1 : Nat → Nat) (n0 : Int) (n1 : Int) (d0 : Int → Int) (d1 : Int → Int) (p : Int) (w : Int) (k0 : ∀ jj, 0 ≤ jj → jj < 8 → 0 ≤ d0 jj ∧ d0 jj < 1073741824) (k1 : ∀ jj, 0 ≤ jj → jj < 8 → 0 ≤ d1 jj ∧ d1 jj < 1073741824) (hp : 0 ≤ p ∧ p ≤ 32768) (hw : 1 ≤ w ∧ w ≤ 32768) : GM l D cI cZ yX2_becomeShare cX2_becomeShare 4 none ({ frames := 3, cells := 0, slots := 0, locals := 65 }) 0 0 false [.ref q, gi p, gi w] [oC q a, oL (a 0) b0 n0, gA cI (b0 0) 8 d0, oL (a 1) b1 n1, gA cI (b1 0) 8 d1] (gPxv (fun xo : (Int → Int) × (Int) × (Int → Int) × (Int) => [oC q a, oL (a 0) b0 xo.2.1, gA cI (b0 0) 8 xo.1, oL (a 1) b1 xo.2.2.2, gA cI (b1 0) 8 xo.2.2.1]) (fun xo : (Int → Int) × (Int) × (Int → Int) × (Int) => (lm xo.1 xo.2.1 (redP p w)) ∧ (lm xo.2.2.1 xo.2.2.2 (redQ p w)))) := by
  refine g_enterV (lv0 := [(0, .ref q), (1, gi p), (2, gi w)]) (by decide) rfl rfl (fun V X ret => ?_)
  have hgp := gc_pos2 (a := p) (b := w) (by omega)
  have hgl := gc_le (a := p) (b := w) (by omega)
  have hr1 : 0 ≤ p / gc p w ∧ p / gc p w ≤ p := redP_n hp.1 (by omega)
  have hr2 : 0 ≤ w / gc p w ∧ w / gc p w ≤ w := ⟨Int.ediv_nonneg (by omega) (by omega), Int.ediv_le_self _ (by omega)⟩
  refine g_iload_n (pc := 0) X dX2_becomeShare_0 1 rfl ?_
  refine g_iload_n (pc := 1) X dX2_becomeShare_1 2 rfl ?_
  refine gc_Si (pc := 2) X (c_X2_commonDivisor l D cI cZ p w (by omega) (by omega)) lm_X2_28 dX2_becomeShare_2 [] rfl rfl rfl rfl rfl rfl ?_
  refine g_top (b := gc p w) (by unfold gmax; split <;> omega) ?_
  refine g_istore_n (pc := 5) X (lv' := [(0, .ref q), (1, gi p), (2, gi w), (3, gi (gc p w))]) dX2_becomeShare_5 rfl rfl ?_
  refine g_aload_n (pc := 6) X dX2_becomeShare_6 0 rfl ?_
  refine g_get (pc := 7) X fl_X2_12 dX2_becomeShare_7 0 (v := .ref (a 0)) rfl rfl ?_
  refine g_iload_n (pc := 10) X dX2_becomeShare_10 1 rfl ?_
  refine g_iload_n (pc := 11) X dX2_becomeShare_11 3 rfl ?_
  refine g_idiv (pc := 12) X dX2_becomeShare_12 (by omega) (by omega) ?_
  refine gc_Vxv (pc := 13) X (wr := [oC q a, oL (a 1) b1 n1, gA cI (b1 0) 8 d1]) (c_X4_become l D cI cZ (a 0) b0 n0 d0 (p / (gc p w)) k0 (by omega)) lm_X2_24 dX2_becomeShare_13 [1, 2] [0, 3, 4] rfl rfl rfl rfl (by decide) rfl rfl rfl rfl rfl rfl (fun x13 hx13 => ?_)
  obtain ⟨g_13, m_13⟩ := x13
  have ht_13 : lm g_13 m_13 (p / (gc p w)) := hx13
  refine g_pick (cn := 0) (sl := 0) (st := []) X (ws' := [oC q a, oL (a 0) b0 m_13, gA cI (b0 0) 8 g_13, oL (a 1) b1 n1, gA cI (b1 0) 8 d1]) [0, 3, 4, 1, 2] rfl rfl ?_
  refine g_aload_n (pc := 16) X dX2_becomeShare_16 0 rfl ?_
  refine g_get (pc := 17) X fl_X2_18 dX2_becomeShare_17 0 (v := .ref (a 1)) rfl rfl ?_
  refine g_iload_n (pc := 20) X dX2_becomeShare_20 2 rfl ?_
  refine g_iload_n (pc := 21) X dX2_becomeShare_21 3 rfl ?_
  refine g_idiv (pc := 22) X dX2_becomeShare_22 (by omega) (by omega) ?_
  refine gc_Vxv (pc := 23) X (wr := [oC q a, oL (a 0) b0 m_13, gA cI (b0 0) 8 g_13]) (c_X4_become l D cI cZ (a 1) b1 n1 d1 (w / (gc p w)) k1 (by omega)) lm_X2_24 dX2_becomeShare_23 [3, 4] [0, 1, 2] rfl rfl rfl rfl (by decide) rfl rfl rfl rfl rfl rfl (fun x23 hx23 => ?_)
  obtain ⟨g_23, m_23⟩ := x23
  have ht_23 : lm g_23 m_23 (w / (gc p w)) := hx23
  refine g_pick (cn := 0) (sl := 0) (st := []) X (ws' := [oC q a, oL (a 0) b0 m_13, gA cI (b0 0) 8 g_13, oL (a 1) b1 m_23, gA cI (b1 0) 8 g_23]) [0, 1, 2, 3, 4] rfl rfl ?_
  exact ret _ _ _ _ _ dX2_becomeShare_26 rfl rfl (gPxv_e (_, _, _, _) rfl ⟨ht_13, ht_23⟩)

set_option maxHeartbeats 4000000 in
set_option maxRecDepth 100000 in
theorem c_X2_lowerBy (l : Launch) (D : va_G) (cI cZ : ClassId) (q : Nat) (a : Nat → Nat) (b0 : Nat → Nat) (b1 : Nat → Nat) (n0 : Int) (n1 : Int) (d0 : Int → Int) (d1 : Int → Int) (P : Int) (Q : Int) (f : Int) (h0 : lm d0 n0 P) (h1 : lm d1 n1 Q) (hf : 2 ≤ f ∧ f < 1073741824) (hQ : 0 < Q) : GM l D cI cZ yX2_lowerBy cX2_lowerBy 3 none ({ frames := 3, cells := 0, slots := 0, locals := 66 }) 0 0 false [.ref q, gi f] [oC q a, oL (a 0) b0 n0, gA cI (b0 0) 8 d0, oL (a 1) b1 n1, gA cI (b1 0) 8 d1] (gPxv (fun xo : (Int → Int) × (Int) × (Int → Int) × (Int) × (Int) × (Int) => [oC q a, oL (a 0) b0 xo.2.1, gA cI (b0 0) 8 xo.1, oL (a 1) b1 xo.2.2.2.1, gA cI (b1 0) 8 xo.2.2.1]) (fun xo : (Int → Int) × (Int) × (Int → Int) × (Int) × (Int) × (Int) => (lm xo.1 xo.2.1 xo.2.2.2.2.1) ∧ (lm xo.2.2.1 xo.2.2.2.1 xo.2.2.2.2.2) ∧ (com P Q xo.2.2.2.2.1 xo.2.2.2.2.2) ∧ (0 < xo.2.2.2.2.2) ∧ (P = 0 ∨ (0 < xo.2.2.2.2.1 ∧ ¬ bth f xo.2.2.2.2.1 xo.2.2.2.2.2)))) := by
  refine g_enterV (lv0 := [(0, .ref q), (1, gi f)]) (by decide) rfl rfl (fun V X ret => ?_)
  have hl2 := h0.1.2.1
  have hpb := lm_b h0
  refine g_aload_n (pc := 0) X dX2_lowerBy_0 0 rfl ?_
  refine g_get (pc := 1) X fl_X2_12 dX2_lowerBy_1 0 (v := .ref (a 0)) rfl rfl ?_
  refine g_get (pc := 4) X fl_X2_94 dX2_lowerBy_4 1 (v := gi n0) rfl rfl ?_
  refine g_ifne (pc := 7) X 11 dX2_lowerBy_7 (by decide) (by omega) (fun h7 => ?_) (fun h7 => ?_)
  · refine g_iconst (pc := 11) X dX2_lowerBy_11 ?_
    refine g_istore_n (pc := 12) X (lv' := [(0, .ref q), (1, gi f), (2, gi 0)]) dX2_lowerBy_12 rfl rfl ?_
    have L13 : ∀ (n13 : Nat) (i : Int) (m0 : Int) (e0 : Int → Int) (m1 : Int) (e1 : Int → Int) (u : Int) (w : Int), (0 ≤ i ∧ i ≤ 300) → (lm e0 m0 u) → (lm e1 m1 w) → (com P Q u w) → (0 < u) → (0 < w) → (hlf P u i) → (300 - i).toNat < n13 → V 0 0 [oC q a, oL (a 0) b0 m0, gA cI (b0 0) 8 e0, oL (a 1) b1 m1, gA cI (b1 0) 8 e1] 13 [(0, .ref q), (1, gi f), (2, gi i)] [] := by
      intro n13
      induction n13 with
      | zero => intro i m0 e0 m1 e1 u w hi l0 l1 hc hu hw hh hn13; exact absurd hn13 (Nat.not_lt_zero _)
      | succ n13 ih13 =>
        intro i m0 e0 m1 e1 u w hi l0 l1 hc hu hw hh hn13
        refine g_iload_n (pc := 13) X dX2_lowerBy_13 2 rfl ?_
        refine g_sipush (pc := 14) X dX2_lowerBy_14 (by decide +kernel) ?_
        refine g_icmpge (pc := 17) X 64 dX2_lowerBy_17 (by decide) (by omega) (by omega) (fun h17 => ?_) (fun h17 => ?_)
        · exact ret _ _ _ _ _ dX2_lowerBy_64 rfl rfl (gPxv_e (_, _, _, _, u, w) rfl ⟨l0, l1, hc, hw, (hlf_e (lm_b h0).2 hu (by rw [show (300 : Int) = i by omega]; exact hh)).elim⟩)
        · refine g_aload_n (pc := 20) X dX2_lowerBy_20 0 rfl ?_
          refine g_get (pc := 21) X fl_X2_12 dX2_lowerBy_21 0 (v := .ref (a 0)) rfl rfl ?_
          refine g_iload_n (pc := 24) X dX2_lowerBy_24 1 rfl ?_
          refine gc_Vi (pc := 25) X (c_X4_isDivisible l D cI cZ (a 0) b0 m0 e0 u f l0 (by omega)) lm_X2_97 dX2_lowerBy_25 [1, 2] rfl rfl rfl rfl rfl rfl rfl rfl ?_
          refine g_ifeqB (pc := 28) X 64 dX2_lowerBy_28 (by decide) (fun h28 => ?_) (fun h28 => ?_)
          · exact ret _ _ _ _ _ dX2_lowerBy_64 rfl rfl (gPxv_e (_, _, _, _, u, w) rfl ⟨l0, l1, hc, hw, Or.inr ⟨hu, fun cc => h28 cc.1⟩⟩)
          · refine g_aload_n (pc := 31) X dX2_lowerBy_31 0 rfl ?_
            refine g_get (pc := 32) X fl_X2_18 dX2_lowerBy_32 0 (v := .ref (a 1)) rfl rfl ?_
            refine g_iload_n (pc := 35) X dX2_lowerBy_35 1 rfl ?_
            refine gc_Vi (pc := 36) X (c_X4_isDivisible l D cI cZ (a 1) b1 m1 e1 w f l1 (by omega)) lm_X2_97 dX2_lowerBy_36 [3, 4] rfl rfl rfl rfl rfl rfl rfl rfl ?_
            refine g_ifeqB (pc := 39) X 64 dX2_lowerBy_39 (by decide) (fun h39 => ?_) (fun h39 => ?_)
            · exact ret _ _ _ _ _ dX2_lowerBy_64 rfl rfl (gPxv_e (_, _, _, _, u, w) rfl ⟨l0, l1, hc, hw, Or.inr ⟨hu, fun cc => h39 cc.2⟩⟩)
            · refine g_aload_n (pc := 42) X dX2_lowerBy_42 0 rfl ?_
              refine g_get (pc := 43) X fl_X2_12 dX2_lowerBy_43 0 (v := .ref (a 0)) rfl rfl ?_
              refine g_iload_n (pc := 46) X dX2_lowerBy_46 1 rfl ?_
              refine gc_Vxv (pc := 47) X (wr := [oC q a, oL (a 1) b1 m1, gA cI (b1 0) 8 e1]) (c_X4_divide l D cI cZ (a 0) b0 m0 e0 u f l0 (by omega)) lm_X2_101 dX2_lowerBy_47 [1, 2] [0, 3, 4] rfl rfl rfl rfl (by decide) rfl rfl rfl rfl rfl rfl (fun x47 hx47 => ?_)
              obtain ⟨g_47, m_47⟩ := x47
              have ht_47 : lm g_47 m_47 (u / f) := hx47
              refine g_pick (cn := 0) (sl := 0) (st := []) X (ws' := [oC q a, oL (a 0) b0 m_47, gA cI (b0 0) 8 g_47, oL (a 1) b1 m1, gA cI (b1 0) 8 e1]) [0, 3, 4, 1, 2] rfl rfl ?_
              refine g_aload_n (pc := 50) X dX2_lowerBy_50 0 rfl ?_
              refine g_get (pc := 51) X fl_X2_18 dX2_lowerBy_51 0 (v := .ref (a 1)) rfl rfl ?_
              refine g_iload_n (pc := 54) X dX2_lowerBy_54 1 rfl ?_
              refine gc_Vxv (pc := 55) X (wr := [oC q a, oL (a 0) b0 m_47, gA cI (b0 0) 8 g_47]) (c_X4_divide l D cI cZ (a 1) b1 m1 e1 w f l1 (by omega)) lm_X2_101 dX2_lowerBy_55 [3, 4] [0, 1, 2] rfl rfl rfl rfl (by decide) rfl rfl rfl rfl rfl rfl (fun x55 hx55 => ?_)
              obtain ⟨g_55, m_55⟩ := x55
              have ht_55 : lm g_55 m_55 (w / f) := hx55
              refine g_pick (cn := 0) (sl := 0) (st := []) X (ws' := [oC q a, oL (a 0) b0 m_47, gA cI (b0 0) 8 g_47, oL (a 1) b1 m_55, gA cI (b1 0) 8 g_55]) [0, 1, 2, 3, 4] rfl rfl ?_
              refine g_iinc (pc := 58) X (lv' := [(0, .ref q), (1, gi f), (2, gi (i + 1))]) dX2_lowerBy_58 2 rfl rfl rfl ?_
              refine g_goto (pc := 61) X 13 dX2_lowerBy_61 (by decide) ?_
              exact ih13 _ _ _ _ _ _ _ (by omega) ht_47 ht_55 (com_t hc (com_d hf.1 ⟨h28, h39⟩)) (dv_pos hu hf.1 h28) (dv_pos hw hf.1 h39) (hlf_s hi.1 (by omega) hf.1 hh) (by omega)
    exact L13 _ _ _ _ _ _ _ _ (by omega) h0 h1 com_0 (Int.lt_iff_le_and_ne.mpr ⟨hpb.1, fun cc => h7 ((lm_p h0).mpr cc.symm)⟩) hQ (by unfold hlf; rw [show (0 : Int).toNat = 0 from rfl, Int.pow_zero, Int.mul_one]; exact Int.le_refl _) (Nat.lt_succ_self _)
  · exact ret _ _ _ _ _ dX2_lowerBy_10 rfl rfl (gPxv_e (_, _, _, _, P, Q) rfl ⟨h0, h1, com_0, hQ, Or.inl ((lm_p h0).mp h7)⟩)

set_option maxHeartbeats 4000000 in
set_option maxRecDepth 100000 in
theorem c_X2_closeZero (l : Launch) (D : va_G) (cI cZ : ClassId) (q : Nat) (a : Nat → Nat) (b0 : Nat → Nat) (b1 : Nat → Nat) (n0 : Int) (n1 : Int) (d0 : Int → Int) (d1 : Int → Int) (P : Int) (Q : Int) (h0 : lm d0 n0 P) (h1 : lm d1 n1 Q) : GM l D cI cZ yX2_closeZero cX2_closeZero 1 none ({ frames := 3, cells := 0, slots := 0, locals := 65 }) 0 0 false [.ref q] [oC q a, oL (a 0) b0 n0, gA cI (b0 0) 8 d0, oL (a 1) b1 n1, gA cI (b1 0) 8 d1] (gPxv (fun xo : (Int → Int) × (Int) => [oC q a, oL (a 0) b0 n0, gA cI (b0 0) 8 d0, oL (a 1) b1 xo.2, gA cI (b1 0) 8 xo.1]) (fun xo : (Int → Int) × (Int) => (lm xo.1 xo.2 (if P = 0 then 1 else Q)))) := by
  refine g_enterV (lv0 := [(0, .ref q)]) (by decide) rfl rfl (fun V X ret => ?_)
  have hl2 := h0.1.2.1
  refine g_aload_n (pc := 0) X dX2_closeZero_0 0 rfl ?_
  refine g_get (pc := 1) X fl_X2_12 dX2_closeZero_1 0 (v := .ref (a 0)) rfl rfl ?_
  refine g_get (pc := 4) X fl_X2_94 dX2_closeZero_4 1 (v := gi n0) rfl rfl ?_
  refine g_ifne (pc := 7) X 18 dX2_closeZero_7 (by decide) (by omega) (fun h7 => ?_) (fun h7 => ?_)
  · exact ret _ _ _ _ _ dX2_closeZero_18 rfl rfl (gPxv_e (_, _) rfl (by rw [if_neg (fun cc => h7 ((lm_p h0).mpr cc))]; exact h1))
  · refine g_aload_n (pc := 10) X dX2_closeZero_10 0 rfl ?_
    refine g_get (pc := 11) X fl_X2_18 dX2_closeZero_11 0 (v := .ref (a 1)) rfl rfl ?_
    refine g_iconst (pc := 14) X dX2_closeZero_14 ?_
    refine gc_Vxv (pc := 15) X (wr := [oC q a, oL (a 0) b0 n0, gA cI (b0 0) 8 d0]) (c_X4_become l D cI cZ (a 1) b1 n1 d1 1 h1.1.1 (by omega)) lm_X2_24 dX2_closeZero_15 [3, 4] [0, 1, 2] rfl rfl rfl rfl (by decide) rfl rfl rfl rfl rfl rfl (fun x15 hx15 => ?_)
    obtain ⟨g_15, m_15⟩ := x15
    have ht_15 : lm g_15 m_15 1 := hx15
    refine g_pick (cn := 0) (sl := 0) (st := []) X (ws' := [oC q a, oL (a 0) b0 n0, gA cI (b0 0) 8 d0, oL (a 1) b1 m_15, gA cI (b1 0) 8 g_15]) [0, 1, 2, 3, 4] rfl rfl ?_
    exact ret _ _ _ _ _ dX2_closeZero_18 rfl rfl (gPxv_e (_, _) rfl (by rw [if_pos ((lm_p h0).mp h7)]; exact ht_15))
