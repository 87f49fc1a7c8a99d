/-! digest, 1 -/
def dgr (f : Int → Int) (o h n : Int) : Int := itr (fun i x => 31 * x + f (o + i)) h n
theorem dgr_s {f : Int → Int} {o h n : Int} (hn : 0 ≤ n) : dgr f o h (n + 1) = 31 * dgr f o h n + f (o + n) := itr_s hn
theorem dgr_c {f g : Int → Int} {o p h n : Int} (hc : ∀ i, 0 ≤ i → i < n → f (o + i) = g (p + i)) : dgr f o h n = dgr g p h n := itr_c (fun i x h0 h1 => by rw [hc i h0 h1])

set_option maxHeartbeats 4000000 in
set_option maxRecDepth 100000 in
theorem c_X8_digestRow (l : Launch) (D : va_G) (cI cZ : ClassId) (q : Nat) (n : Nat) (f : Int → Int) (h : Int) (s : Int) (c : Int) (hs : 0 ≤ s ∧ 0 ≤ c ∧ s + c ≤ (n : Int)) (hf : ∀ jj, 0 ≤ jj → jj < (n : Int) → -2147483648 ≤ f jj ∧ f jj < 2147483648) (hn : Nat.blt n 2147483648 = true) : GM l D cI cZ yX8_digestRow cX8_digestRow 8 (some .long) ({ frames := 1, cells := 0, slots := 0, locals := 21 }) 0 0 true [gl h, .ref q, gi s, gi c] [gA cI q n f] (gPl (dgr f s h c)) := by
  refine g_enterL (lv0 := [(0, gl h), (2, .ref q), (3, gi s), (4, gi c)]) (by decide) rfl rfl (fun V X ret => ?_)
  have hn2 := Nat.le_of_ble_eq_true hn
  refine g_lload_n (pc := 0) X dX8_digestRow_0 0 rfl ?_
  refine g_lstore (pc := 1) X (lv' := [(0, gl h), (2, .ref q), (3, gi s), (4, gi c), (5, gl h)]) dX8_digestRow_1 rfl rfl ?_
  refine g_iload_n (pc := 3) X dX8_digestRow_3 2 rfl ?_
  refine g_istore (pc := 4) X (lv' := [(0, gl h), (2, .ref q), (3, gi s), (4, gi c), (5, gl h), (7, gi s)]) dX8_digestRow_4 rfl rfl ?_
  have L6 : ∀ (n6 : Nat) (x : Int) (i : Int), (s ≤ i ∧ i ≤ s + c) → (x = dgr f s h (i - s)) → (s + c - i).toNat < n6 → V 0 0 [gA cI q n f] 6 [(0, gl h), (2, .ref q), (3, gi s), (4, gi c), (5, gl x), (7, gi i)] [] := by
    intro n6
    induction n6 with
    | zero => intro x i hi hx hn6; exact absurd hn6 (Nat.not_lt_zero _)
    | succ n6 ih6 =>
      intro x i hi hx hn6
      refine g_iload (pc := 6) X dX8_digestRow_6 5 rfl ?_
      refine g_iload_n (pc := 8) X dX8_digestRow_8 2 rfl ?_
      refine g_iload (pc := 9) X dX8_digestRow_9 3 rfl ?_
      refine g_iadd (pc := 11) X dX8_digestRow_11 ?_
      refine g_icmpge (pc := 12) X 37 dX8_digestRow_12 (by decide) (by omega) (by omega) (fun h12 => ?_) (fun h12 => ?_)
      · refine g_lload (pc := 37) X dX8_digestRow_37 4 rfl ?_
        exact ret _ _ _ _ _ _ dX8_digestRow_39 rfl rfl (gPl_e (by rw [hx, show i - s = c by omega]))
      · refine g_ldc2 (pc := 15) X dX8_digestRow_15 kc_X8_315 ?_
        refine g_lload (pc := 18) X dX8_digestRow_18 4 rfl ?_
        refine g_lmul (pc := 20) X dX8_digestRow_20 ?_
        refine g_aload_n (pc := 21) X dX8_digestRow_21 1 rfl ?_
        refine g_iload (pc := 22) X dX8_digestRow_22 5 rfl ?_
        refine gc_Si (pc := 24) X (c_X8_look l D cI cZ q n f i (by omega) hn) lm_X8_281 dX8_digestRow_24 [0] rfl rfl rfl rfl rfl rfl ?_
        refine g_top (b := f i) (lk_in (by omega)) ?_
        have hfi := hf i (by omega) (by omega)
        refine g_i2l (pc := 27) X dX8_digestRow_27 (by omega) ?_
        refine g_ladd (pc := 28) X dX8_digestRow_28 ?_
        refine g_lstore (pc := 29) X (lv' := [(0, gl h), (2, .ref q), (3, gi s), (4, gi c), (5, gl (31 * x + f i)), (7, gi i)]) dX8_digestRow_29 rfl rfl ?_
        refine g_iinc (pc := 31) X (lv' := [(0, gl h), (2, .ref q), (3, gi s), (4, gi c), (5, gl (31 * x + f i)), (7, gi (i + 1))]) dX8_digestRow_31 5 rfl rfl rfl ?_
        refine g_goto (pc := 34) X 6 dX8_digestRow_34 (by decide) ?_
        exact ih6 _ _ (by omega) (by rw [show i + 1 - s = i - s + 1 by omega, dgr_s (by omega), hx, show s + (i - s) = i by omega]) (by omega)
  exact L6 _ _ _ (by omega) (by rw [show s - s = 0 by omega]; rfl) (Nat.lt_succ_self _)

set_option maxHeartbeats 4000000 in
set_option maxRecDepth 100000 in
theorem c_X4_digestOn (l : Launch) (D : va_G) (cI cZ : ClassId) (q : Nat) (a : Nat → Nat) (n : Int) (d : Int → Int) (h : Int) (hd : ∀ jj, 0 ≤ jj → jj < 8 → 0 ≤ d jj ∧ d jj < 1073741824) (hn : 0 ≤ n ∧ n ≤ 8) : GM l D cI cZ yX4_digestOn cX4_digestOn 3 (some .long) ({ frames := 2, cells := 0, slots := 0, locals := 48 }) 0 0 true [.ref q, gl h] [oL q a n, gA cI (a 0) 8 d] (gPl (dgr d 0 h n)) := by
  refine g_enterL (lv0 := [(0, .ref q), (1, gl h)]) (by decide) rfl rfl (fun V X ret => ?_)
  refine g_lload_n (pc := 0) X dX4_digestOn_0 1 rfl ?_
  refine g_aload_n (pc := 1) X dX4_digestOn_1 0 rfl ?_
  refine g_get (pc := 2) X fl_X4_9 dX4_digestOn_2 0 (v := .ref (a 0)) rfl rfl ?_
  refine g_iconst (pc := 5) X dX4_digestOn_5 ?_
  refine g_aload_n (pc := 6) X dX4_digestOn_6 0 rfl ?_
  refine g_get (pc := 7) X fl_X4_13 dX4_digestOn_7 0 (v := gi n) rfl rfl ?_
  refine gc_Nl (pc := 10) X (c_X8_digestRow l D cI cZ (a 0) 8 d h 0 n (by omega) (fun jj j0 j1 => by have := hd jj j0 (by omega); omega) rfl) lm_X4_50 dX4_digestOn_10 [1] rfl rfl rfl rfl rfl rfl ?_
  exact ret _ _ _ _ _ _ dX4_digestOn_13 rfl rfl (gPl_e rfl)

set_option maxHeartbeats 4000000 in
set_option maxRecDepth 100000 in
theorem c_X9_mix (l : Launch) (D : va_G) (cI cZ : ClassId) (q : Nat) (a : Nat → Nat) (al : Int) (at_ : Int) (st : Int) (so : Int) (va : Int) (fa : Int) (pl : Int) (sg : Int) (su : Int) (v : Int) (hv : -2147483648 ≤ v ∧ v < 2147483648) : GM l D cI cZ yX9_mix cX9_mix 2 none ({ frames := 0, cells := 0, slots := 0, locals := 0 }) 0 0 false [.ref q, gi v] [oM q a al at_ st so va fa pl sg su] (gPxv (fun xo : Unit => [oM q a al at_ st so va fa pl sg (31 * su + v)]) (fun xo : Unit => True)) := by
  refine g_enterV (lv0 := [(0, .ref q), (1, gi v)]) (by decide) rfl rfl (fun V X ret => ?_)
  refine g_aload_n (pc := 0) X dX9_mix_0 0 rfl ?_
  refine g_ldc2 (pc := 1) X dX9_mix_1 kc_X9_235 ?_
  refine g_aload_n (pc := 4) X dX9_mix_4 0 rfl ?_
  refine g_get (pc := 5) X fl_X9_237 dX9_mix_5 0 (v := gl su) rfl rfl ?_
  refine g_lmul (pc := 8) X dX9_mix_8 ?_
  refine g_iload_n (pc := 9) X dX9_mix_9 1 rfl ?_
  refine g_i2l (pc := 10) X dX9_mix_10 (by omega) ?_
  refine g_ladd (pc := 11) X dX9_mix_11 ?_
  refine g_put (pc := 12) X (ws' := [oM q a al at_ st so va fa pl sg (31 * su + v)]) fp_X9_237 dX9_mix_12 0 rfl rfl rfl rfl rfl ?_
  exact ret _ _ _ _ _ dX9_mix_15 rfl rfl (gPxv_e () rfl trivial)

set_option maxHeartbeats 4000000 in
set_option maxRecDepth 100000 in
theorem c_X9_mixRow (l : Launch) (D : va_G) (cI cZ : ClassId) (q : Nat) (a : Nat → Nat) (al : Int) (at_ : Int) (st : Int) (so : Int) (va : Int) (fa : Int) (pl : Int) (sg : Int) (su : Int) (A : Int → Int) (o : Int) (n : Int) (ho : 0 ≤ o ∧ 0 ≤ n ∧ o + n ≤ 1140) (hf : ∀ jj, o ≤ jj → jj < o + n → -2147483648 ≤ A jj ∧ A jj < 2147483648) : GM l D cI cZ yX9_mixRow cX9_mixRow 4 none ({ frames := 1, cells := 0, slots := 0, locals := 21 }) 0 0 false [.ref q, gi o, gi n] [oM q a al at_ st so va fa pl sg su, gA cI (a 0) 1140 A] (gPxv (fun xo : Unit => [oM q a al at_ st so va fa pl sg (dgr A o su n), gA cI (a 0) 1140 A]) (fun xo : Unit => True)) := by
  refine g_enterV (lv0 := [(0, .ref q), (1, gi o), (2, gi n)]) (by decide) rfl rfl (fun V X ret => ?_)
  refine g_iconst (pc := 0) X dX9_mixRow_0 ?_
  refine g_istore_n (pc := 1) X (lv' := [(0, .ref q), (1, gi o), (2, gi n), (3, gi 0)]) dX9_mixRow_1 rfl rfl ?_
  have L2 : ∀ (n2 : Nat) (i : Int) (x : Int), (0 ≤ i ∧ i ≤ n) → (x = dgr A o su i) → (n - i).toNat < n2 → V 0 0 [oM q a al at_ st so va fa pl sg x, gA cI (a 0) 1140 A] 2 [(0, .ref q), (1, gi o), (2, gi n), (3, gi i)] [] := by
    intro n2
    induction n2 with
    | zero => intro i x hi hx hn2; exact absurd hn2 (Nat.not_lt_zero _)
    | succ n2 ih2 =>
      intro i x hi hx hn2
      refine g_iload_n (pc := 2) X dX9_mixRow_2 3 rfl ?_
      refine g_iload_n (pc := 3) X dX9_mixRow_3 2 rfl ?_
      refine g_icmpge (pc := 4) X 25 dX9_mixRow_4 (by decide) (by omega) (by omega) (fun h4 => ?_) (fun h4 => ?_)
      · exact ret _ _ _ _ _ dX9_mixRow_25 rfl rfl (gPxv_e () (by rw [hx, show i = n by omega]) trivial)
      · refine g_aload_n (pc := 7) X dX9_mixRow_7 0 rfl ?_
        refine g_aload_n (pc := 8) X dX9_mixRow_8 0 rfl ?_
        refine g_get (pc := 9) X fl_X9_7 dX9_mixRow_9 0 (v := .ref (a 0)) rfl rfl ?_
        refine g_iload_n (pc := 12) X dX9_mixRow_12 1 rfl ?_
        refine g_iload_n (pc := 13) X dX9_mixRow_13 3 rfl ?_
        refine g_iadd (pc := 14) X dX9_mixRow_14 ?_
        refine g_iald (pc := 15) X dX9_mixRow_15 1 rfl (by omega) rfl ?_
        have hfi := hf (o + i) (by omega) (by omega)
        refine gc_Vxv (pc := 16) X (wr := [gA cI (a 0) 1140 A]) (c_X9_mix l D cI cZ q a al at_ st so va fa pl sg x (A (o + i)) (by omega)) lm_X9_241 dX9_mixRow_16 [0] [1] rfl rfl rfl rfl (by decide) rfl rfl rfl rfl rfl rfl (fun x16 hx16 => ?_)
        refine g_pick (cn := 0) (sl := 0) (st := []) X (ws' := [oM q a al at_ st so va fa pl sg (31 * x + (A (o + i))), gA cI (a 0) 1140 A]) [1, 0] rfl rfl ?_
        refine g_iinc (pc := 19) X (lv' := [(0, .ref q), (1, gi o), (2, gi n), (3, gi (i + 1))]) dX9_mixRow_19 3 rfl rfl rfl ?_
        refine g_goto (pc := 22) X 2 dX9_mixRow_22 (by decide) ?_
        exact ih2 _ _ (by omega) (by rw [dgr_s hi.1, hx]) (by omega)
  exact L2 _ _ _ (by omega) (by rfl) (Nat.lt_succ_self _)
