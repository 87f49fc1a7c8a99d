/-! the class: numbers -/
theorem Y_mul_v {d : Int → Int} {v n P : Int} (h : lm0 d n P) : hv (Y_mul d v) 0 n.toNat = P * v := (hv_mul (f := d)).trans (congrArg (· * v) h.2.2)
theorem fup_ok {X d g : Int → Int} {i : Int} (hd : ∀ j, 0 ≤ j → j < 8 → 0 ≤ d j ∧ d j < 1073741824) (h : fup 0 i (F_cy X) d g) : ∀ j, 0 ≤ j → j < 8 → 0 ≤ g j ∧ g j < 1073741824 := fun j j0 j1 => by
  rcases Int.lt_or_le j i with q | q
  · have e := h.1 j j0 q; rw [Int.zero_add] at e; rw [e]; exact ⟨Int.emod_nonneg _ (by decide), Int.emod_lt_of_pos _ (by decide)⟩
  · rw [h.2 j (Or.inr (by omega))]; exact hd j j0 j1
theorem lm_bec {d : Int → Int} {v : Int} (hd : ∀ j, 0 ≤ j → j < 8 → 0 ≤ d j ∧ d j < 1073741824) (hv' : 0 ≤ v ∧ v < 1073741824) : lm (pD d 0 v) (pN 0 v) v := by
  have h0 : lm0 d 0 0 := ⟨hd, by omega, rfl⟩
  have e : (0 : Int) + 1073741824 ^ (0 : Int).toNat * v = v := by rw [show (0 : Int).toNat = 0 from rfl, Int.pow_zero]; omega
  have b : v < B8 := by unfold B8; omega
  have q := lm_push h0 hv' (by rw [e]; exact b)
  rw [e] at q
  by_cases c : v = 0
  · subst c; exact ⟨q.1, Or.inl rfl⟩
  · exact q.2 c
theorem lm_sum {d e g : Int → Int} {n m L P Q R c : Int} (h1 : lm d n P) (h2 : lm e m Q) (hL : L = n ∨ L = m) (hg : lm0 g L R) (hR : R + 1073741824 ^ L.toNat * c = P + Q) (hc : 0 ≤ c ∧ c < 1073741824) (hP : P + Q < B8) : lm (pD g L c) (pN L c) (P + Q) := by
  have q := lm_push hg hc (by rw [hR]; exact hP)
  rw [hR] at q
  by_cases z : c = 0
  · subst z
    rw [Int.mul_zero, Int.add_zero] at hR
    subst hR
    rw [show pD g L 0 = g from if_neg (by omega), show pN L 0 = L from if_neg (by omega)] at q ⊢
    refine ⟨q.1, ?_⟩
    rcases Int.lt_or_le 0 L with p | p
    · right; intro e0
      have b := lm0_b (lm_drop q.1 (by omega) e0)
      have b1 := lm0_b h1.1
      have b2 := lm0_b h2.1
      rcases hL with r | r
      · have g1 := lm_ge h1 (by omega); rw [← r] at g1; omega
      · have g1 := lm_ge h2 (by omega); rw [← r] at g1; omega
    · left; have := hg.2.1; omega
  · exact q.2 z

set_option maxHeartbeats 4000000 in
set_option maxRecDepth 100000 in
theorem c_X4_digitAt (l : Launch) (D : va_G) (cI cZ : ClassId) (q : Nat) (a : Nat → Nat) (n : Int) (d : Int → Int) (i : Int) (v : Int) (hd : ∀ jj, 0 ≤ jj → jj < 8 → 0 ≤ d jj ∧ d jj < 1073741824) (hn : 0 ≤ n ∧ n ≤ 8) (hi : 0 ≤ i ∧ i < 8) (hv : dgt d n i = v) : GM l D cI cZ yX4_digitAt cX4_digitAt 2 (some .long) ({ frames := 1, cells := 0, slots := 0, locals := 21 }) 0 0 true [.ref q, gi i] [oL q a n, gA cI (a 0) 8 d] (gPl v) := by
  refine g_enterL (lv0 := [(0, .ref q), (1, gi i)]) (by decide) rfl rfl (fun V X ret => ?_)
  refine g_iload_n (pc := 0) X dX4_digitAt_0 1 rfl ?_
  refine g_aload_n (pc := 1) X dX4_digitAt_1 0 rfl ?_
  refine g_get (pc := 2) X fl_X4_13 dX4_digitAt_2 0 (v := gi n) rfl rfl ?_
  refine g_icmpge (pc := 5) X 20 dX4_digitAt_5 (by decide) (by omega) (by omega) (fun h5 => ?_) (fun h5 => ?_)
  · refine g_lconst (z := 0) (pc := 20) X dX4_digitAt_20 (by decide +kernel) ?_
    exact ret _ _ _ _ _ _ dX4_digitAt_21 rfl rfl (gPl_e (by rw [← hv]; unfold dgt; rw [if_neg (by omega)]))
  · refine g_aload_n (pc := 8) X dX4_digitAt_8 0 rfl ?_
    refine g_get (pc := 9) X fl_X4_9 dX4_digitAt_9 0 (v := .ref (a 0)) rfl rfl ?_
    refine g_iload_n (pc := 12) X dX4_digitAt_12 1 rfl ?_
    refine gc_Ni (pc := 13) X (c_X8_look l D cI cZ (a 0) 8 d i (by omega) rfl) lm_X4_31 dX4_digitAt_13 [1] rfl rfl rfl rfl rfl rfl ?_
    refine g_top (b := d i) (lk_in (by omega)) ?_
    have hdi := hd i hi.1 hi.2
    refine g_i2l (pc := 16) X dX4_digitAt_16 (by omega) ?_
    refine g_goto (pc := 17) X 21 dX4_digitAt_17 (by decide) ?_
    exact ret _ _ _ _ _ _ dX4_digitAt_21 rfl rfl (gPl_e (by rw [← hv]; unfold dgt; rw [if_pos (by omega)]))

set_option maxHeartbeats 4000000 in
set_option maxRecDepth 100000 in
theorem c_X4_push (l : Launch) (D : va_G) (cI cZ : ClassId) (q : Nat) (a : Nat → Nat) (n : Int) (d : Int → Int) (c : Int) (hn : 0 ≤ n ∧ n ≤ 8) (hc : 0 ≤ c ∧ c < 1073741824) : GM l D cI cZ yX4_push cX4_push 3 none ({ frames := 1, cells := 0, slots := 0, locals := 22 }) 0 0 false [.ref q, gl c] [oL q a n, gA cI (a 0) 8 d] (gPxv (fun xo : Unit => [oL q a (pN n c), gA cI (a 0) 8 (pD d n c)]) (fun xo : Unit => True)) := by
  refine g_enterV (lv0 := [(0, .ref q), (1, gl c)]) (by decide) rfl rfl (fun V X ret => ?_)
  refine g_lload_n (pc := 0) X dX4_push_0 1 rfl ?_
  refine g_lconst (z := 0) (pc := 1) X dX4_push_1 (by decide +kernel) ?_
  refine g_lcmp (pc := 2) X dX4_push_2 (by omega) (by omega) ?_
  have hg := gcmp_3 c 0
  refine g_ifle (pc := 3) X 38 dX4_push_3 (by decide) (by omega) (fun h3 => ?_) (fun h3 => ?_)
  · exact ret _ _ _ _ _ dX4_push_38 rfl rfl (gPxv_e () (by unfold pD pN; rw [if_neg (by omega), if_neg (by omega)]) trivial)
  · refine g_aload_n (pc := 6) X dX4_push_6 0 rfl ?_
    refine g_get (pc := 7) X fl_X4_13 dX4_push_7 0 (v := gi n) rfl rfl ?_
    refine g_aload_n (pc := 10) X dX4_push_10 0 rfl ?_
    refine g_get (pc := 11) X fl_X4_9 dX4_push_11 0 (v := .ref (a 0)) rfl rfl ?_
    refine g_alen (pc := 14) X dX4_push_14 1 rfl ?_
    refine g_top (b := 8) rfl ?_
    refine g_icmpge (pc := 15) X 38 dX4_push_15 (by decide) (by omega) (by omega) (fun h15 => ?_) (fun h15 => ?_)
    · exact ret _ _ _ _ _ dX4_push_38 rfl rfl (gPxv_e () (by unfold pD pN; rw [if_neg (by omega), if_neg (by omega)]) trivial)
    · refine g_aload_n (pc := 18) X dX4_push_18 0 rfl ?_
      refine g_get (pc := 19) X fl_X4_9 dX4_push_19 0 (v := .ref (a 0)) rfl rfl ?_
      refine g_aload_n (pc := 22) X dX4_push_22 0 rfl ?_
      refine g_dup (pc := 23) X dX4_push_23 rfl ?_
      refine g_get (pc := 24) X fl_X4_13 dX4_push_24 0 (v := gi n) rfl rfl ?_
      refine g_dup_x1 (pc := 27) X dX4_push_27 rfl rfl ?_
      refine g_iconst (pc := 28) X dX4_push_28 ?_
      refine g_iadd (pc := 29) X dX4_push_29 ?_
      refine g_put (pc := 30) X (ws' := [oL q a (n + 1), gA cI (a 0) 8 d]) fp_X4_13 dX4_push_30 0 rfl rfl rfl rfl rfl ?_
      refine g_lload_n (pc := 33) X dX4_push_33 1 rfl ?_
      refine g_l2i (pc := 34) X dX4_push_34 ?_
      refine gc_Nxv (pc := 35) X (wr := [oL q a (n + 1)]) (c_X8_lay l D cI cZ (a 0) 8 d n c (by omega) rfl) lm_X4_27 dX4_push_35 [1] [0] rfl rfl rfl rfl (by decide) rfl rfl rfl rfl (fun x35 hx35 => ?_)
      refine g_pick (cn := 0) (sl := 0) (st := []) X (ws' := [oL q a (n + 1), gA cI (a 0) 8 (ly 8 d n c)]) [0, 1] rfl rfl ?_
      rw [ly_in (n := 8) (f := d) (i := n) (v := c) (by omega)]
      exact ret _ _ _ _ _ dX4_push_38 rfl rfl (gPxv_e () (by unfold pD pN; rw [if_pos (by omega), if_pos (by omega)]) trivial)

set_option maxHeartbeats 4000000 in
set_option maxRecDepth 100000 in
theorem c_X4_trim (l : Launch) (D : va_G) (cI cZ : ClassId) (q : Nat) (a : Nat → Nat) (n : Int) (d : Int → Int) (P : Int) (hl : lm0 d n P) : GM l D cI cZ yX4_trim cX4_trim 2 none ({ frames := 1, cells := 0, slots := 0, locals := 21 }) 0 0 false [.ref q] [oL q a n, gA cI (a 0) 8 d] (gPxv (fun xo : (Int) => [oL q a xo, gA cI (a 0) 8 d]) (fun xo : (Int) => (lm d xo P))) := by
  refine g_enterV (lv0 := [(0, .ref q)]) (by decide) rfl rfl (fun V X ret => ?_)
  have hl2 := hl.2.1
  refine g_aload_n (pc := 0) X dX4_trim_0 0 rfl ?_
  refine g_get (pc := 1) X fl_X4_13 dX4_trim_1 0 (v := gi n) rfl rfl ?_
  refine g_iconst (pc := 4) X dX4_trim_4 ?_
  refine g_isub (pc := 5) X dX4_trim_5 ?_
  refine g_istore_n (pc := 6) X (lv' := [(0, .ref q), (1, gi (n - 1))]) dX4_trim_6 rfl rfl ?_
  have L7 : ∀ (n7 : Nat) (i : Int) (s : Int), (lm0 d s P) → (i = s - 1) → s.toNat < n7 → V 0 0 [oL q a s, gA cI (a 0) 8 d] 7 [(0, .ref q), (1, gi i)] [] := by
    intro n7
    induction n7 with
    | zero => intro i s hs hi hn7; exact absurd hn7 (Nat.not_lt_zero _)
    | succ n7 ih7 =>
      intro i s hs hi hn7
      have hs2 := hs.2.1
      refine g_iload_n (pc := 7) X dX4_trim_7 1 rfl ?_
      refine g_iflt (pc := 8) X 33 dX4_trim_8 (by decide) (by omega) (fun h8 => ?_) (fun h8 => ?_)
      · exact ret _ _ _ _ _ dX4_trim_33 rfl rfl (gPxv_e s rfl ⟨hs, Or.inl (by omega)⟩)
      · refine g_aload_n (pc := 11) X dX4_trim_11 0 rfl ?_
        refine g_get (pc := 12) X fl_X4_9 dX4_trim_12 0 (v := .ref (a 0)) rfl rfl ?_
        refine g_iload_n (pc := 15) X dX4_trim_15 1 rfl ?_
        refine gc_Ni (pc := 16) X (c_X8_look l D cI cZ (a 0) 8 d i (by omega) rfl) lm_X4_31 dX4_trim_16 [1] rfl rfl rfl rfl rfl rfl ?_
        refine g_top (b := d i) (lk_in (by omega)) ?_
        have hdi := hs.1 i (by omega) (by omega)
        refine g_ifne (pc := 19) X 33 dX4_trim_19 (by decide) (by omega) (fun h19 => ?_) (fun h19 => ?_)
        · exact ret _ _ _ _ _ dX4_trim_33 rfl rfl (gPxv_e s rfl ⟨hs, Or.inr (by rw [← hi]; exact h19)⟩)
        · refine g_aload_n (pc := 22) X dX4_trim_22 0 rfl ?_
          refine g_iload_n (pc := 23) X dX4_trim_23 1 rfl ?_
          refine g_put (pc := 24) X (ws' := [oL q a i, gA cI (a 0) 8 d]) fp_X4_13 dX4_trim_24 0 rfl rfl rfl rfl rfl ?_
          refine g_iinc (pc := 27) X (lv' := [(0, .ref q), (1, gi (i + (-1)))]) dX4_trim_27 1 rfl rfl rfl ?_
          refine g_goto (pc := 30) X 7 dX4_trim_30 (by decide) ?_
          exact ih7 _ _ (by rw [hi]; exact lm_drop hs (by omega) (by rw [← hi]; exact h19)) (by omega) (by omega)
  exact L7 _ _ _ hl (by omega) (Nat.lt_succ_self _)

set_option maxHeartbeats 4000000 in
set_option maxRecDepth 100000 in
theorem c_X4_become (l : Launch) (D : va_G) (cI cZ : ClassId) (q : Nat) (a : Nat → Nat) (n : Int) (d : Int → Int) (v : Int) (hd : ∀ jj, 0 ≤ jj → jj < 8 → 0 ≤ d jj ∧ d jj < 1073741824) (hv : 0 ≤ v ∧ v < 1073741824) : GM l D cI cZ yX4_become cX4_become 2 none ({ frames := 2, cells := 0, slots := 0, locals := 44 }) 0 0 false [.ref q, gi v] [oL q a n, gA cI (a 0) 8 d] (gPxv (fun xo : (Int → Int) × (Int) => [oL q a xo.2, gA cI (a 0) 8 xo.1]) (fun xo : (Int → Int) × (Int) => (lm xo.1 xo.2 v))) := by
  refine g_enterV (lv0 := [(0, .ref q), (1, gi v)]) (by decide) rfl rfl (fun V X ret => ?_)
  refine g_aload_n (pc := 0) X dX4_become_0 0 rfl ?_
  refine g_iconst (pc := 1) X dX4_become_1 ?_
  refine g_put (pc := 2) X (ws' := [oL q a 0, gA cI (a 0) 8 d]) fp_X4_13 dX4_become_2 0 rfl rfl rfl rfl rfl ?_
  refine g_aload_n (pc := 5) X dX4_become_5 0 rfl ?_
  refine g_iload_n (pc := 6) X dX4_become_6 1 rfl ?_
  refine g_i2l (pc := 7) X dX4_become_7 (by omega) ?_
  refine gc_Vxv (pc := 8) X (wr := []) (c_X4_push l D cI cZ q a 0 d v (by omega) (by omega)) lm_X4_17 dX4_become_8 [0, 1] [] rfl rfl rfl rfl (by decide) rfl rfl rfl rfl rfl rfl (fun x8 hx8 => ?_)
  refine g_pick (cn := 0) (sl := 0) (st := []) X (ws' := [oL q a (pN 0 v), gA cI (a 0) 8 (pD d 0 v)]) [0, 1] rfl rfl ?_
  exact ret _ _ _ _ _ dX4_become_11 rfl rfl (gPxv_e (_, _) rfl (lm_bec hd hv))

set_option maxHeartbeats 4000000 in
set_option maxRecDepth 100000 in
theorem c_X4_becomeCopy (l : Launch) (D : va_G) (cI cZ : ClassId) (q : Nat) (a : Nat → Nat) (n : Int) (d : Int → Int) (q2 : Nat) (a2 : Nat → Nat) (m : Int) (e : Int → Int)  : GM l D cI cZ yX4_becomeCopy cX4_becomeCopy 2 none ({ frames := 1, cells := 0, slots := 0, locals := 22 }) 0 0 false [.ref q, .ref q2] [oL q a n, gA cI (a 0) 8 d, oL q2 a2 m, gA cI (a2 0) 8 e] (gPxv (fun xo : Unit => [oL q a m, gA cI (a 0) 8 e, oL q2 a2 m, gA cI (a2 0) 8 e]) (fun xo : Unit => True)) := by
  refine g_enterV (lv0 := [(0, .ref q), (1, .ref q2)]) (by decide) rfl rfl (fun V X ret => ?_)
  refine g_aload_n (pc := 0) X dX4_becomeCopy_0 1 rfl ?_
  refine g_get (pc := 1) X fl_X4_9 dX4_becomeCopy_1 2 (v := .ref (a2 0)) rfl rfl ?_
  refine g_aload_n (pc := 4) X dX4_becomeCopy_4 0 rfl ?_
  refine g_get (pc := 5) X fl_X4_9 dX4_becomeCopy_5 0 (v := .ref (a 0)) rfl rfl ?_
  refine gc_Nxv (pc := 8) X (wr := [oL q a n, oL q2 a2 m]) (c_X8_copyRow l D cI cZ (a2 0) (a 0) 8 e d rfl) lm_X4_21 dX4_becomeCopy_8 [3, 1] [0, 2] rfl rfl rfl rfl (by decide) rfl rfl rfl rfl (fun x8 hx8 => ?_)
  refine g_pick (cn := 0) (sl := 0) (st := []) X (ws' := [oL q a n, gA cI (a 0) 8 e, oL q2 a2 m, gA cI (a2 0) 8 e]) [0, 3, 1, 2] rfl rfl ?_
  refine g_aload_n (pc := 11) X dX4_becomeCopy_11 0 rfl ?_
  refine g_aload_n (pc := 12) X dX4_becomeCopy_12 1 rfl ?_
  refine g_get (pc := 13) X fl_X4_13 dX4_becomeCopy_13 2 (v := gi m) rfl rfl ?_
  refine g_put (pc := 16) X (ws' := [oL q a m, gA cI (a 0) 8 e, oL q2 a2 m, gA cI (a2 0) 8 e]) fp_X4_13 dX4_becomeCopy_16 0 rfl rfl rfl rfl rfl ?_
  exact ret _ _ _ _ _ dX4_becomeCopy_19 rfl rfl (gPxv_e () rfl trivial)

set_option maxHeartbeats 4000000 in
set_option maxRecDepth 100000 in
theorem c_X4_multiply (l : Launch) (D : va_G) (cI cZ : ClassId) (q : Nat) (a : Nat → Nat) (n : Int) (d : Int → Int) (P : Int) (v : Int) (hl : lm d n P) (hv : 0 ≤ v ∧ v < 1073741824) (hP : P * v < B8) : GM l D cI cZ yX4_multiply cX4_multiply 5 none ({ frames := 2, cells := 0, slots := 0, locals := 44 }) 0 0 false [.ref q, gi v] [oL q a n, gA cI (a 0) 8 d] (gPxv (fun xo : (Int → Int) × (Int) => [oL q a xo.2, gA cI (a 0) 8 xo.1]) (fun xo : (Int → Int) × (Int) => (lm xo.1 xo.2 (P * v)))) := by
  refine g_enterV (lv0 := [(0, .ref q), (1, gi v)]) (by decide) rfl rfl (fun V X ret => ?_)
  have hl2 := hl.1.2.1
  refine g_lconst (z := 0) (pc := 0) X dX4_multiply_0 (by decide +kernel) ?_
  refine g_lstore_n (pc := 1) X (lv' := [(0, .ref q), (1, gi v), (2, gl 0)]) dX4_multiply_1 rfl rfl ?_
  refine g_iconst (pc := 2) X dX4_multiply_2 ?_
  refine g_istore (pc := 3) X (lv' := [(0, .ref q), (1, gi v), (2, gl 0), (4, gi 0)]) dX4_multiply_3 rfl rfl ?_
  have L5 : ∀ (n5 : Nat) (x : Int) (i : Int) (e : Int → Int), (0 ≤ i ∧ i ≤ n) → (0 ≤ x ∧ x < 1073741824) → (x = cyc (Y_mul d v) i) → (fup 0 i (F_cy (Y_mul d v)) d e) → (n - i).toNat < n5 → V 0 0 [oL q a n, gA cI (a 0) 8 e] 5 [(0, .ref q), (1, gi v), (2, gl x), (4, gi i)] [] := by
    intro n5
    induction n5 with
    | zero => intro x i e hi hxb hx he hn5; exact absurd hn5 (Nat.not_lt_zero _)
    | succ n5 ih5 =>
      intro x i e hi hxb hx he hn5
      refine g_iload (pc := 5) X dX4_multiply_5 3 rfl ?_
      refine g_aload_n (pc := 7) X dX4_multiply_7 0 rfl ?_
      refine g_get (pc := 8) X fl_X4_13 dX4_multiply_8 0 (v := gi n) rfl rfl ?_
      refine g_icmpge (pc := 11) X 56 dX4_multiply_11 (by decide) (by omega) (by omega) (fun h11 => ?_) (fun h11 => ?_)
      · obtain ⟨R, hR, hRc⟩ := lm_cy hl.1.1 hl.1.2.1 (Y_mul_v hl.1) (by rw [show n = i by omega]; exact he) (show x = cyc (Y_mul d v) n by rw [show n = i by omega]; exact hx)
        have hq := (lm_push hR hxb (by rw [hRc]; exact hP)).1
        rw [hRc] at hq
        refine g_aload_n (pc := 56) X dX4_multiply_56 0 rfl ?_
        refine g_lload_n (pc := 57) X dX4_multiply_57 2 rfl ?_
        refine gc_Vxv (pc := 58) X (wr := []) (c_X4_push l D cI cZ q a n e x (by omega) (by omega)) lm_X4_17 dX4_multiply_58 [0, 1] [] rfl rfl rfl rfl (by decide) rfl rfl rfl rfl rfl rfl (fun x58 hx58 => ?_)
        refine g_pick (cn := 0) (sl := 0) (st := []) X (ws' := [oL q a (pN n x), gA cI (a 0) 8 (pD e n x)]) [0, 1] rfl rfl ?_
        refine g_aload_n (pc := 61) X dX4_multiply_61 0 rfl ?_
        refine gc_Vxv (pc := 62) X (wr := []) (c_X4_trim l D cI cZ q a (pN n x) (pD e n x) (P * v) hq) lm_X4_37 dX4_multiply_62 [0, 1] [] rfl rfl rfl rfl (by decide) rfl rfl rfl rfl rfl rfl (fun x62 hx62 => ?_)
        generalize x62 = m_62 at hx62 ⊢
        have ht_62 : lm (pD e n x) m_62 (P * v) := hx62
        refine g_pick (cn := 0) (sl := 0) (st := []) X (ws' := [oL q a m_62, gA cI (a 0) 8 (pD e n x)]) [0, 1] rfl rfl ?_
        exact ret _ _ _ _ _ dX4_multiply_65 rfl rfl (gPxv_e (_, _) rfl ht_62)
      · refine g_lload_n (pc := 14) X dX4_multiply_14 2 rfl ?_
        refine g_aload_n (pc := 15) X dX4_multiply_15 0 rfl ?_
        refine g_get (pc := 16) X fl_X4_9 dX4_multiply_16 0 (v := .ref (a 0)) rfl rfl ?_
        refine g_iload (pc := 19) X dX4_multiply_19 3 rfl ?_
        refine gc_Ni (pc := 21) X (c_X8_look l D cI cZ (a 0) 8 e i (by omega) rfl) lm_X4_31 dX4_multiply_21 [1] rfl rfl rfl rfl rfl rfl ?_
        refine g_top (b := e i) (lk_in (by omega)) ?_
        refine g_top (b := d i) (he.2 _ (by omega)) ?_
        have hdi := hl.1.1 i (by omega) (by omega)
        have hm := mulb (a := d i) (b := v) (A := 1073741823) (B := 1073741823) (by omega) (by omega)
        refine g_i2l (pc := 24) X dX4_multiply_24 (by omega) ?_
        refine g_iload_n (pc := 25) X dX4_multiply_25 1 rfl ?_
        refine g_i2l (pc := 26) X dX4_multiply_26 (by omega) ?_
        refine g_lmul (pc := 27) X dX4_multiply_27 ?_
        refine g_ladd (pc := 28) X dX4_multiply_28 ?_
        refine g_lstore_n (pc := 29) X (lv' := [(0, .ref q), (1, gi v), (2, gl (x + (d i) * v)), (4, gi i)]) dX4_multiply_29 rfl rfl ?_
        refine g_aload_n (pc := 30) X dX4_multiply_30 0 rfl ?_
        refine g_get (pc := 31) X fl_X4_9 dX4_multiply_31 0 (v := .ref (a 0)) rfl rfl ?_
        refine g_iload (pc := 34) X dX4_multiply_34 3 rfl ?_
        refine g_lload_n (pc := 36) X dX4_multiply_36 2 rfl ?_
        refine g_ldc2 (pc := 37) X dX4_multiply_37 kc_X4_35 ?_
        refine g_land (pc := 40) X (r := (x + (d i) * v) % 1073741824) dX4_multiply_40 (lL_low (by omega)) ?_
        refine g_l2i (pc := 41) X dX4_multiply_41 ?_
        refine gc_Nxv (pc := 42) X (wr := [oL q a n]) (c_X8_lay l D cI cZ (a 0) 8 e i ((x + (d i) * v) % 1073741824) (by omega) rfl) lm_X4_27 dX4_multiply_42 [1] [0] rfl rfl rfl rfl (by decide) rfl rfl rfl rfl (fun x42 hx42 => ?_)
        refine g_pick (cn := 0) (sl := 0) (st := []) X (ws' := [oL q a n, gA cI (a 0) 8 (ly 8 e i ((x + (d i) * v) % 1073741824))]) [0, 1] rfl rfl ?_
        rw [ly_in (n := 8) (f := e) (i := i) (v := (x + (d i) * v) % 1073741824) (by omega)]
        refine g_lload_n (pc := 45) X dX4_multiply_45 2 rfl ?_
        refine g_bipush (pc := 46) X dX4_multiply_46 (by decide +kernel) ?_
        refine g_lshr (pc := 48) X (r := (x + (d i) * v) / 1073741824) dX4_multiply_48 (lL_shr (by omega)) ?_
        refine g_lstore_n (pc := 49) X (lv' := [(0, .ref q), (1, gi v), (2, gl ((x + (d i) * v) / 1073741824)), (4, gi i)]) dX4_multiply_49 rfl rfl ?_
        refine g_iinc (pc := 50) X (lv' := [(0, .ref q), (1, gi v), (2, gl ((x + (d i) * v) / 1073741824)), (4, gi (i + 1))]) dX4_multiply_50 3 rfl rfl rfl ?_
        refine g_goto (pc := 53) X 5 dX4_multiply_53 (by decide) ?_
        exact ih5 _ _ _ (by omega) (by omega) (by rw [cyc_s hi.1, ← hx, Int.add_comm]; rfl) (fup_s he hi.1 (by omega) (by unfold F_cy; rw [← hx, Int.add_comm]; rfl)) (by omega)
  exact L5 _ _ _ _ (by omega) (by omega) (by rfl) fup_0 (Nat.lt_succ_self _)

set_option maxHeartbeats 4000000 in
set_option maxRecDepth 100000 in
theorem c_X4_add (l : Launch) (D : va_G) (cI cZ : ClassId) (q : Nat) (a : Nat → Nat) (n : Int) (d : Int → Int) (q2 : Nat) (a2 : Nat → Nat) (m : Int) (e : Int → Int) (P : Int) (Q : Int) (h1 : lm d n P) (h2 : lm e m Q) (hP : P + Q < B8) : GM l D cI cZ yX4_add cX4_add 6 none ({ frames := 2, cells := 0, slots := 0, locals := 44 }) 0 0 false [.ref q, .ref q2] [oL q a n, gA cI (a 0) 8 d, oL q2 a2 m, gA cI (a2 0) 8 e] (gPxv (fun xo : (Int → Int) × (Int) => [oL q a xo.2, gA cI (a 0) 8 xo.1, oL q2 a2 m, gA cI (a2 0) 8 e]) (fun xo : (Int → Int) × (Int) => (lm xo.1 xo.2 (P + Q)))) := by
  refine g_enterV (lv0 := [(0, .ref q), (1, .ref q2)]) (by decide) rfl rfl (fun V X ret => ?_)
  have hl1 := h1.1.2.1
  have hl2 := h2.1.2.1
  refine g_lconst (z := 0) (pc := 0) X dX4_add_0 (by decide +kernel) ?_
  refine g_lstore_n (pc := 1) X (lv' := [(0, .ref q), (1, .ref q2), (2, gl 0)]) dX4_add_1 rfl rfl ?_
  refine g_aload_n (pc := 2) X dX4_add_2 0 rfl ?_
  refine g_get (pc := 3) X fl_X4_13 dX4_add_3 0 (v := gi n) rfl rfl ?_
  refine g_aload_n (pc := 6) X dX4_add_6 1 rfl ?_
  refine g_get (pc := 7) X fl_X4_13 dX4_add_7 2 (v := gi m) rfl rfl ?_
  refine g_max (pc := 10) X lm_X4_40 dX4_add_10 (by omega) (by omega) rfl ?_
  obtain ⟨L, hL⟩ : ∃ z : Int, z = gmax n m := ⟨_, rfl⟩
  refine g_top (b := L) hL.symm ?_
  have hLb : (n ≤ L ∧ m ≤ L) ∧ (L = n ∨ L = m) := by rw [hL]; unfold gmax; split <;> omega
  refine g_istore (pc := 13) X (lv' := [(0, .ref q), (1, .ref q2), (2, gl 0), (4, gi L)]) dX4_add_13 rfl rfl ?_
  refine g_iconst (pc := 15) X dX4_add_15 ?_
  refine g_istore (pc := 16) X (lv' := [(0, .ref q), (1, .ref q2), (2, gl 0), (4, gi L), (5, gi 0)]) dX4_add_16 rfl rfl ?_
  have L18 : ∀ (n18 : Nat) (x : Int) (i : Int) (f : Int → Int), (0 ≤ i ∧ i ≤ L) → (0 ≤ x ∧ x < 1073741824) → (x = cyc (Y_add d e n m) i) → (fup 0 i (F_cy (Y_add d e n m)) d f) → (L - i).toNat < n18 → V 0 0 [oL q a n, gA cI (a 0) 8 f, oL q2 a2 m, gA cI (a2 0) 8 e] 18 [(0, .ref q), (1, .ref q2), (2, gl x), (4, gi L), (5, gi i)] [] := by
    intro n18
    induction n18 with
    | zero => intro x i f hi hxb hx he hn18; exact absurd hn18 (Nat.not_lt_zero _)
    | succ n18 ih18 =>
      intro x i f hi hxb hx he hn18
      refine g_iload (pc := 18) X dX4_add_18 4 rfl ?_
      refine g_iload (pc := 20) X dX4_add_20 3 rfl ?_
      refine g_icmpge (pc := 22) X 67 dX4_add_22 (by decide) (by omega) (by omega) (fun h22 => ?_) (fun h22 => ?_)
      · obtain ⟨R, hR, hRc⟩ := lm_cy h1.1.1 (show 0 ≤ L ∧ L ≤ 8 by omega) (Y_add_v h1.1 h2.1 hLb.1.1 hLb.1.2 (by omega)) (by rw [show L = i by omega]; exact he) (show x = cyc (Y_add d e n m) L by rw [show L = i by omega]; exact hx)
        refine g_aload_n (pc := 67) X dX4_add_67 0 rfl ?_
        refine g_iload (pc := 68) X dX4_add_68 3 rfl ?_
        refine g_put (pc := 70) X (ws' := [oL q a L, gA cI (a 0) 8 f, oL q2 a2 m, gA cI (a2 0) 8 e]) fp_X4_13 dX4_add_70 0 rfl rfl rfl rfl rfl ?_
        refine g_aload_n (pc := 73) X dX4_add_73 0 rfl ?_
        refine g_lload_n (pc := 74) X dX4_add_74 2 rfl ?_
        refine gc_Vxv (pc := 75) X (wr := [oL q2 a2 m, gA cI (a2 0) 8 e]) (c_X4_push l D cI cZ q a L f x (by omega) (by omega)) lm_X4_17 dX4_add_75 [0, 1] [2, 3] rfl rfl rfl rfl (by decide) rfl rfl rfl rfl rfl rfl (fun x75 hx75 => ?_)
        refine g_pick (cn := 0) (sl := 0) (st := []) X (ws' := [oL q a (pN L x), gA cI (a 0) 8 (pD f L x), oL q2 a2 m, gA cI (a2 0) 8 e]) [2, 3, 0, 1] rfl rfl ?_
        exact ret _ _ _ _ _ dX4_add_78 rfl rfl (gPxv_e (_, _) rfl (lm_sum h1 h2 hLb.2 hR hRc hxb hP))
      · have hb1 := dgt_b h1.1 (k := i) (by omega)
        have hb2 := dgt_b h2.1 (k := i) (by omega)
        refine g_lload_n (pc := 25) X dX4_add_25 2 rfl ?_
        refine g_aload_n (pc := 26) X dX4_add_26 0 rfl ?_
        refine g_iload (pc := 27) X dX4_add_27 4 rfl ?_
        refine gc_Vl (pc := 29) X (c_X4_digitAt l D cI cZ q a n f i (dgt d n i) (fup_ok h1.1.1 he) (by omega) (by omega) (by unfold dgt; split; exact he.2 _ (by omega); rfl)) lm_X4_46 dX4_add_29 [0, 1] rfl rfl rfl rfl rfl rfl rfl rfl ?_
        refine g_aload_n (pc := 32) X dX4_add_32 1 rfl ?_
        refine g_iload (pc := 33) X dX4_add_33 4 rfl ?_
        refine gc_Vl (pc := 35) X (c_X4_digitAt l D cI cZ q2 a2 m e i (dgt e m i) h2.1.1 (by omega) (by omega) rfl) lm_X4_46 dX4_add_35 [2, 3] rfl rfl rfl rfl rfl rfl rfl rfl ?_
        refine g_ladd (pc := 38) X dX4_add_38 ?_
        refine g_ladd (pc := 39) X dX4_add_39 ?_
        refine g_lstore_n (pc := 40) X (lv' := [(0, .ref q), (1, .ref q2), (2, gl (x + ((dgt d n i) + (dgt e m i)))), (4, gi L), (5, gi i)]) dX4_add_40 rfl rfl ?_
        refine g_aload_n (pc := 41) X dX4_add_41 0 rfl ?_
        refine g_get (pc := 42) X fl_X4_9 dX4_add_42 0 (v := .ref (a 0)) rfl rfl ?_
        refine g_iload (pc := 45) X dX4_add_45 4 rfl ?_
        refine g_lload_n (pc := 47) X dX4_add_47 2 rfl ?_
        refine g_ldc2 (pc := 48) X dX4_add_48 kc_X4_35 ?_
        refine g_land (pc := 51) X (r := (x + ((dgt d n i) + (dgt e m i))) % 1073741824) dX4_add_51 (lL_low (by omega)) ?_
        refine g_l2i (pc := 52) X dX4_add_52 ?_
        refine gc_Nxv (pc := 53) X (wr := [oL q a n, oL q2 a2 m, gA cI (a2 0) 8 e]) (c_X8_lay l D cI cZ (a 0) 8 f i ((x + ((dgt d n i) + (dgt e m i))) % 1073741824) (by omega) rfl) lm_X4_27 dX4_add_53 [1] [0, 2, 3] rfl rfl rfl rfl (by decide) rfl rfl rfl rfl (fun x53 hx53 => ?_)
        refine g_pick (cn := 0) (sl := 0) (st := []) X (ws' := [oL q a n, gA cI (a 0) 8 (ly 8 f i ((x + ((dgt d n i) + (dgt e m i))) % 1073741824)), oL q2 a2 m, gA cI (a2 0) 8 e]) [0, 3, 1, 2] rfl rfl ?_
        rw [ly_in (n := 8) (f := f) (i := i) (v := (x + ((dgt d n i) + (dgt e m i))) % 1073741824) (by omega)]
        refine g_lload_n (pc := 56) X dX4_add_56 2 rfl ?_
        refine g_bipush (pc := 57) X dX4_add_57 (by decide +kernel) ?_
        refine g_lshr (pc := 59) X (r := (x + ((dgt d n i) + (dgt e m i))) / 1073741824) dX4_add_59 (lL_shr (by omega)) ?_
        refine g_lstore_n (pc := 60) X (lv' := [(0, .ref q), (1, .ref q2), (2, gl ((x + ((dgt d n i) + (dgt e m i))) / 1073741824)), (4, gi L), (5, gi i)]) dX4_add_60 rfl rfl ?_
        refine g_iinc (pc := 61) X (lv' := [(0, .ref q), (1, .ref q2), (2, gl ((x + ((dgt d n i) + (dgt e m i))) / 1073741824)), (4, gi L), (5, gi (i + 1))]) dX4_add_61 4 rfl rfl rfl ?_
        refine g_goto (pc := 64) X 18 dX4_add_64 (by decide) ?_
        exact ih18 _ _ _ (by omega) (by omega) (by rw [cyc_s hi.1, ← hx, Int.add_comm]; rfl) (fup_s he hi.1 (by omega) (by unfold F_cy; rw [← hx, Int.add_comm]; rfl)) (by omega)
  exact L18 _ _ _ _ (by omega) (by omega) (by rfl) fup_0 (Nat.lt_succ_self _)

set_option maxHeartbeats 4000000 in
set_option maxRecDepth 100000 in
theorem c_X4_isDivisible (l : Launch) (D : va_G) (cI cZ : ClassId) (q : Nat) (a : Nat → Nat) (n : Int) (d : Int → Int) (P : Int) (v : Int) (hl : lm d n P) (hv : 1 ≤ v ∧ v < 1073741824) : GM l D cI cZ yX4_isDivisible cX4_isDivisible 5 (some .boolean) ({ frames := 1, cells := 0, slots := 0, locals := 21 }) 0 0 true [.ref q, gi v] [oL q a n, gA cI (a 0) 8 d] (gPi (gB (P % v = 0))) := by
  refine g_enterI (z := true) (lv0 := [(0, .ref q), (1, gi v)]) _ rfl (by decide) rfl rfl (fun V X ret => ?_)
  have hl2 := hl.1.2.1
  refine g_iload_n (pc := 0) X dX4_isDivisible_0 1 rfl ?_
  refine g_iconst (pc := 1) X dX4_isDivisible_1 ?_
  refine g_icmpge (pc := 2) X 7 dX4_isDivisible_2 (by decide) (by omega) (by omega) (fun h2 => ?_) (fun h2 => absurd h2 (by omega))
  refine g_lconst (z := 0) (pc := 7) X dX4_isDivisible_7 (by decide +kernel) ?_
  refine g_lstore_n (pc := 8) X (lv' := [(0, .ref q), (1, gi v), (2, gl 0)]) dX4_isDivisible_8 rfl rfl ?_
  refine g_aload_n (pc := 9) X dX4_isDivisible_9 0 rfl ?_
  refine g_get (pc := 10) X fl_X4_13 dX4_isDivisible_10 0 (v := gi n) rfl rfl ?_
  refine g_iconst (pc := 13) X dX4_isDivisible_13 ?_
  refine g_isub (pc := 14) X dX4_isDivisible_14 ?_
  refine g_istore (pc := 15) X (lv' := [(0, .ref q), (1, gi v), (2, gl 0), (4, gi (n - 1))]) dX4_isDivisible_15 rfl rfl ?_
  have L17 : ∀ (n17 : Nat) (x : Int) (i : Int), (-1 ≤ i ∧ i ≤ n - 1) → (x = rst d n v (i + 1)) → (i + 1).toNat < n17 → V 0 0 [oL q a n, gA cI (a 0) 8 d] 17 [(0, .ref q), (1, gi v), (2, gl x), (4, gi i)] [] := by
    intro n17
    induction n17 with
    | zero => intro x i hi hx hn17; exact absurd hn17 (Nat.not_lt_zero _)
    | succ n17 ih17 =>
      intro x i hi hx hn17
      have hrb := rst_b (d := d) (n := n) (k := i + 1) hv.1
      rw [← hx] at hrb
      refine g_iload (pc := 17) X dX4_isDivisible_17 3 rfl ?_
      refine g_iflt (pc := 19) X 47 dX4_isDivisible_19 (by decide) (by omega) (fun h19 => ?_) (fun h19 => ?_)
      · refine g_lload_n (pc := 47) X dX4_isDivisible_47 2 rfl ?_
        refine g_lconst (z := 0) (pc := 48) X dX4_isDivisible_48 (by decide +kernel) ?_
        refine g_lcmp (pc := 49) X dX4_isDivisible_49 (by omega) (by omega) ?_
        have hr : x = P % v := by rw [hx, show i + 1 = 0 by omega]; exact rst_0 hl.1
        have hg := gcmp_3 x 0
        refine g_ifne (pc := 50) X 57 dX4_isDivisible_50 (by decide) (by omega) (fun h50 => ?_) (fun h50 => ?_)
        · refine g_iconst (pc := 57) X dX4_isDivisible_57 ?_
          exact ret _ _ _ _ _ _ dX4_isDivisible_58 rfl rfl (fun _ => Or.inl rfl) (gPi_e (gB_f (by omega)).symm)
        · refine g_iconst (pc := 53) X dX4_isDivisible_53 ?_
          refine g_goto (pc := 54) X 58 dX4_isDivisible_54 (by decide) ?_
          exact ret _ _ _ _ _ _ dX4_isDivisible_58 rfl rfl (fun _ => Or.inr rfl) (gPi_e (gB_t (by omega)).symm)
      · refine g_lload_n (pc := 22) X dX4_isDivisible_22 2 rfl ?_
        refine g_bipush (pc := 23) X dX4_isDivisible_23 (by decide +kernel) ?_
        refine g_lshl (pc := 25) X (r := x * 1073741824) dX4_isDivisible_25 (lL_shl (by omega)) ?_
        refine g_aload_n (pc := 26) X dX4_isDivisible_26 0 rfl ?_
        refine g_get (pc := 27) X fl_X4_9 dX4_isDivisible_27 0 (v := .ref (a 0)) rfl rfl ?_
        refine g_iload (pc := 30) X dX4_isDivisible_30 3 rfl ?_
        refine gc_Ni (pc := 32) X (c_X8_look l D cI cZ (a 0) 8 d i (by omega) rfl) lm_X4_31 dX4_isDivisible_32 [1] rfl rfl rfl rfl rfl rfl ?_
        refine g_top (b := d i) (lk_in (by omega)) ?_
        have hdi := hl.1.1 i (by omega) (by omega)
        refine g_i2l (pc := 35) X dX4_isDivisible_35 (by omega) ?_
        refine g_ladd (pc := 36) X dX4_isDivisible_36 ?_
        refine g_iload_n (pc := 37) X dX4_isDivisible_37 1 rfl ?_
        refine g_i2l (pc := 38) X dX4_isDivisible_38 (by omega) ?_
        refine g_lrem (pc := 39) X dX4_isDivisible_39 (by omega) (by omega) ?_
        refine g_lstore_n (pc := 40) X (lv' := [(0, .ref q), (1, gi v), (2, gl ((x * 1073741824 + d i) % v)), (4, gi i)]) dX4_isDivisible_40 rfl rfl ?_
        refine g_iinc (pc := 41) X (lv' := [(0, .ref q), (1, gi v), (2, gl ((x * 1073741824 + d i) % v)), (4, gi (i + (-1)))]) dX4_isDivisible_41 3 rfl rfl rfl ?_
        refine g_goto (pc := 44) X 17 dX4_isDivisible_44 (by decide) ?_
        exact ih17 _ _ (by omega) (by rw [show i + -1 + 1 = i by omega, hx]; exact rst_s (by omega)) (by omega)
  exact L17 _ _ _ (by omega) (by rw [show n - 1 + 1 = n by omega]; exact rst_n.symm) (Nat.lt_succ_self _)

set_option maxHeartbeats 4000000 in
set_option maxRecDepth 100000 in
theorem c_X4_divide (l : Launch) (D : va_G) (cI cZ : ClassId) (q : Nat) (a : Nat → Nat) (n : Int) (d : Int → Int) (P : Int) (v : Int) (hl : lm d n P) (hv : 1 ≤ v ∧ v < 1073741824) : GM l D cI cZ yX4_divide cX4_divide 5 none ({ frames := 2, cells := 0, slots := 0, locals := 42 }) 0 0 false [.ref q, gi v] [oL q a n, gA cI (a 0) 8 d] (gPxv (fun xo : (Int → Int) × (Int) => [oL q a xo.2, gA cI (a 0) 8 xo.1]) (fun xo : (Int → Int) × (Int) => (lm xo.1 xo.2 (P / v)))) := by
  refine g_enterV (lv0 := [(0, .ref q), (1, gi v)]) (by decide) rfl rfl (fun V X ret => ?_)
  have hl2 := hl.1.2.1
  refine g_iload_n (pc := 0) X dX4_divide_0 1 rfl ?_
  refine g_iconst (pc := 1) X dX4_divide_1 ?_
  refine g_icmpge (pc := 2) X 6 dX4_divide_2 (by decide) (by omega) (by omega) (fun h2 => ?_) (fun h2 => absurd h2 (by omega))
  refine g_lconst (z := 0) (pc := 6) X dX4_divide_6 (by decide +kernel) ?_
  refine g_lstore_n (pc := 7) X (lv' := [(0, .ref q), (1, gi v), (2, gl 0)]) dX4_divide_7 rfl rfl ?_
  refine g_aload_n (pc := 8) X dX4_divide_8 0 rfl ?_
  refine g_get (pc := 9) X fl_X4_13 dX4_divide_9 0 (v := gi n) rfl rfl ?_
  refine g_iconst (pc := 12) X dX4_divide_12 ?_
  refine g_isub (pc := 13) X dX4_divide_13 ?_
  refine g_istore (pc := 14) X (lv' := [(0, .ref q), (1, gi v), (2, gl 0), (4, gi (n - 1))]) dX4_divide_14 rfl rfl ?_
  have L16 : ∀ (n16 : Nat) (x : Int) (i : Int) (e : Int → Int), (-1 ≤ i ∧ i ≤ n - 1) → (x = rst d n v (i + 1)) → (fdn 0 i n (F_dv d n v) d e) → (i + 1).toNat < n16 → V 0 0 [oL q a n, gA cI (a 0) 8 e] 16 [(0, .ref q), (1, gi v), (2, gl x), (4, gi i)] [] := by
    intro n16
    induction n16 with
    | zero => intro x i e hi hx he hn16; exact absurd hn16 (Nat.not_lt_zero _)
    | succ n16 ih16 =>
      intro x i e hi hx he hn16
      have hrb := rst_b (d := d) (n := n) (k := i + 1) hv.1
      rw [← hx] at hrb
      refine g_iload (pc := 16) X dX4_divide_16 3 rfl ?_
      refine g_iflt (pc := 18) X 62 dX4_divide_18 (by decide) (by omega) (fun h18 => ?_) (fun h18 => ?_)
      · refine g_aload_n (pc := 62) X dX4_divide_62 0 rfl ?_
        refine gc_Vxv (pc := 63) X (wr := []) (c_X4_trim l D cI cZ q a n e (P / v) (lm_dv hl.1 hv.1 (by rw [show (-1 : Int) = i by omega]; exact he))) lm_X4_37 dX4_divide_63 [0, 1] [] rfl rfl rfl rfl (by decide) rfl rfl rfl rfl rfl rfl (fun x63 hx63 => ?_)
        generalize x63 = m_63 at hx63 ⊢
        have ht_63 : lm e m_63 (P / v) := hx63
        refine g_pick (cn := 0) (sl := 0) (st := []) X (ws' := [oL q a m_63, gA cI (a 0) 8 e]) [0, 1] rfl rfl ?_
        exact ret _ _ _ _ _ dX4_divide_66 rfl rfl (gPxv_e (_, _) rfl ht_63)
      · refine g_lload_n (pc := 21) X dX4_divide_21 2 rfl ?_
        refine g_bipush (pc := 22) X dX4_divide_22 (by decide +kernel) ?_
        refine g_lshl (pc := 24) X (r := x * 1073741824) dX4_divide_24 (lL_shl (by omega)) ?_
        refine g_aload_n (pc := 25) X dX4_divide_25 0 rfl ?_
        refine g_get (pc := 26) X fl_X4_9 dX4_divide_26 0 (v := .ref (a 0)) rfl rfl ?_
        refine g_iload (pc := 29) X dX4_divide_29 3 rfl ?_
        refine gc_Ni (pc := 31) X (c_X8_look l D cI cZ (a 0) 8 e i (by omega) rfl) lm_X4_31 dX4_divide_31 [1] rfl rfl rfl rfl rfl rfl ?_
        refine g_top (b := e i) (lk_in (by omega)) ?_
        refine g_top (b := d i) (he.2 _ (by omega)) ?_
        have hdi := hl.1.1 i (by omega) (by omega)
        refine g_i2l (pc := 34) X dX4_divide_34 (by omega) ?_
        refine g_ladd (pc := 35) X dX4_divide_35 ?_
        refine g_lstore_n (pc := 36) X (lv' := [(0, .ref q), (1, gi v), (2, gl (x * 1073741824 + (d i))), (4, gi i)]) dX4_divide_36 rfl rfl ?_
        refine g_aload_n (pc := 37) X dX4_divide_37 0 rfl ?_
        refine g_get (pc := 38) X fl_X4_9 dX4_divide_38 0 (v := .ref (a 0)) rfl rfl ?_
        refine g_iload (pc := 41) X dX4_divide_41 3 rfl ?_
        refine g_lload_n (pc := 43) X dX4_divide_43 2 rfl ?_
        refine g_iload_n (pc := 44) X dX4_divide_44 1 rfl ?_
        refine g_i2l (pc := 45) X dX4_divide_45 (by omega) ?_
        refine g_ldiv (pc := 46) X dX4_divide_46 (by omega) (by omega) ?_
        refine g_l2i (pc := 47) X dX4_divide_47 ?_
        refine gc_Nxv (pc := 48) X (wr := [oL q a n]) (c_X8_lay l D cI cZ (a 0) 8 e i ((x * 1073741824 + (d i)) / v) (by omega) rfl) lm_X4_27 dX4_divide_48 [1] [0] rfl rfl rfl rfl (by decide) rfl rfl rfl rfl (fun x48 hx48 => ?_)
        refine g_pick (cn := 0) (sl := 0) (st := []) X (ws' := [oL q a n, gA cI (a 0) 8 (ly 8 e i ((x * 1073741824 + (d i)) / v))]) [0, 1] rfl rfl ?_
        rw [ly_in (n := 8) (f := e) (i := i) (v := (x * 1073741824 + (d i)) / v) (by omega)]
        refine g_lload_n (pc := 51) X dX4_divide_51 2 rfl ?_
        refine g_iload_n (pc := 52) X dX4_divide_52 1 rfl ?_
        refine g_i2l (pc := 53) X dX4_divide_53 (by omega) ?_
        refine g_lrem (pc := 54) X dX4_divide_54 (by omega) (by omega) ?_
        refine g_lstore_n (pc := 55) X (lv' := [(0, .ref q), (1, gi v), (2, gl ((x * 1073741824 + (d i)) % v)), (4, gi i)]) dX4_divide_55 rfl rfl ?_
        refine g_iinc (pc := 56) X (lv' := [(0, .ref q), (1, gi v), (2, gl ((x * 1073741824 + (d i)) % v)), (4, gi (i + (-1)))]) dX4_divide_56 3 rfl rfl rfl ?_
        refine g_goto (pc := 59) X 16 dX4_divide_59 (by decide) ?_
        exact ih16 _ _ _ (by omega) (by rw [show i + -1 + 1 = i by omega, hx]; exact rst_s (by omega)) (fdn_s he (by omega) (by omega) (by unfold F_dv; rw [← hx])) (by omega)
  exact L16 _ _ _ _ (by omega) (by rw [show n - 1 + 1 = n by omega]; exact rst_n.symm) (fdn_0 (by omega)) (Nat.lt_succ_self _)
