/-! the model: SERVES, worth -/
set_option maxHeartbeats 4000000 in
set_option maxRecDepth 100000 in
theorem c_X9_servesOf (l : Launch) (D : va_G) (cI cZ : ClassId) (q : Nat) (a : Nat → Nat) (al : Int) (at_ : Int) (st : Int) (so : Int) (va : Int) (fa : Int) (pl : Int) (sg : Int) (su : Int) (A : Int → Int) (lk_ : Int → Int) (s : Int) (m : Int) (hA : okA A) (hs : 0 ≤ s ∧ s < 1024) (hm : 0 ≤ m ∧ m < A 1) : GM l D cI cZ yX9_servesOf cX9_servesOf 6 (some .int) ({ frames := 7, cells := 0, slots := 0, locals := 174 }) 0 0 false [.ref q, gi s, gi m] [oM q a al at_ st so va fa pl sg su, gA cI (a 0) 1140 A, gA cI (a 3) 6 lk_] (gPxi (fun xo : (Int → Int) × (Int) => sServ A s m) (fun xo : (Int → Int) × (Int) => [oM q a xo.2 at_ st so va fa pl sg su, gA cI (a 0) 1140 A, gA cI (a 3) 6 xo.1]) (fun xo : (Int → Int) × (Int) => True)) := by
  refine g_enterI (z := false) (lv0 := [(0, .ref q), (1, gi s), (2, gi m)]) _ rfl (by decide) rfl rfl (fun V X ret => ?_)
  have hA1 := okA_1 hA
  have hA0 := okA_0 hA
  have hpu := okA_pu hA
  refine g_iconst (pc := 0) X dX9_servesOf_0 ?_
  refine g_istore_n (pc := 1) X (lv' := [(0, .ref q), (1, gi s), (2, gi m), (3, gi 0)]) dX9_servesOf_1 rfl rfl ?_
  refine g_iconst (pc := 2) X dX9_servesOf_2 ?_
  refine g_istore (pc := 3) X (lv' := [(0, .ref q), (1, gi s), (2, gi m), (3, gi 0), (4, gi 0)]) dX9_servesOf_3 rfl rfl ?_
  have L5 : ∀ (n5 : Nat) (x : Int) (i : Int) (e : Int → Int) (z : Int), (0 ≤ i ∧ i ≤ A 0) → (x = itr (fun i x => if bit s i = 1 then gmax x (sThou A i m) else x) 0 i) → (A 0 - i).toNat < n5 → V 0 0 [oM q a z at_ st so va fa pl sg su, gA cI (a 0) 1140 A, gA cI (a 3) 6 e] 5 [(0, .ref q), (1, gi s), (2, gi m), (3, gi x), (4, gi i)] [] := by
    intro n5
    induction n5 with
    | zero => intro x i e z hi hx hn5; exact absurd hn5 (Nat.not_lt_zero _)
    | succ n5 ih5 =>
      intro x i e z hi hx hn5
      have hbb := sServ_b hA (s := s) hm hi
      rw [← hx] at hbb
      have hbt := bit_b s i
      refine g_iload (pc := 5) X dX9_servesOf_5 4 rfl ?_
      refine g_aload_n (pc := 7) X dX9_servesOf_7 0 rfl ?_
      refine g_get (pc := 8) X fl_X9_7 dX9_servesOf_8 0 (v := .ref (a 0)) rfl rfl ?_
      refine g_iconst (pc := 11) X dX9_servesOf_11 ?_
      refine g_iald (pc := 12) X dX9_servesOf_12 1 rfl (by omega) rfl ?_
      refine g_icmpge (pc := 13) X 82 dX9_servesOf_13 (by decide) (by omega) (by omega) (fun h13 => ?_) (fun h13 => ?_)
      · refine g_iload_n (pc := 82) X dX9_servesOf_82 3 rfl ?_
        exact ret _ _ _ _ _ _ dX9_servesOf_83 rfl rfl (fun h => by cases h) (gPxi_e (e, z) (by rw [hx, show i = A 0 by omega]; rfl) rfl trivial)
      · refine g_iload_n (pc := 16) X dX9_servesOf_16 1 rfl ?_
        refine g_iload (pc := 17) X dX9_servesOf_17 4 rfl ?_
        refine g_ishr (pc := 19) X dX9_servesOf_19 (by omega) (by omega) ?_
        refine g_iconst (pc := 20) X dX9_servesOf_20 ?_
        refine g_iand (pc := 21) X (r := bit s i) dX9_servesOf_21 (iI_bit hs.1) ?_
        refine g_iconst (pc := 22) X dX9_servesOf_22 ?_
        refine g_icmpne (pc := 23) X 76 dX9_servesOf_23 (by decide) (by omega) (by omega) (fun h23 => ?_) (fun h23 => ?_)
        · refine g_iinc (pc := 76) X (lv' := [(0, .ref q), (1, gi s), (2, gi m), (3, gi x), (4, gi (i + 1))]) dX9_servesOf_76 4 rfl rfl rfl ?_
          refine g_goto (pc := 79) X 5 dX9_servesOf_79 (by decide) ?_
          exact ih5 _ _ _ _ (by omega) (by rw [itr_s hi.1, ← hx]; (try dsimp only); first | rw [if_neg (by omega)] | (rw [if_pos (by omega)]; unfold gmax; first | rw [if_pos (by omega)] | rw [if_neg (by omega)])) (by omega)
        · have hth := sThou_b hA (t := i) (m := m) (by omega) (by omega)
          have hto := sTot_b hA (t := i) (far := 0) (by omega) (by omega)
          have hlk := sLike_b hA (t := i) (m := m) (far := 0) (by omega) (by omega) (by omega)
          refine g_aload_n (pc := 26) X dX9_servesOf_26 0 rfl ?_
          refine g_iload (pc := 27) X dX9_servesOf_27 4 rfl ?_
          refine g_iconst (pc := 29) X dX9_servesOf_29 ?_
          refine g_iconst (pc := 30) X dX9_servesOf_30 ?_
          refine g_iconst (pc := 31) X dX9_servesOf_31 ?_
          refine gc_Vxv (pc := 32) X (wr := []) (c_X9_weigh l D cI cZ q a z at_ st so va fa pl sg su A e i 0 (-1) 0 hA (by omega) (by omega) (by omega) (by omega)) lm_X9_89 dX9_servesOf_32 [0, 1, 2] [] rfl rfl rfl rfl (by decide) rfl rfl rfl rfl rfl rfl (fun x32 hx32 => ?_)
          generalize x32 = g_32 at hx32 ⊢
          have hg_32 : ∀ mm, 0 ≤ mm → mm < A 1 → g_32 mm = sLk A i mm 0 (-1) 0 := hx32
          refine g_pick (cn := 0) (sl := 0) (st := []) X (ws' := [oM q a (sTt A i 0 (-1) 0) at_ st so va fa pl sg su, gA cI (a 0) 1140 A, gA cI (a 3) 6 g_32]) [0, 1, 2] rfl rfl ?_
          refine g_aload_n (pc := 35) X dX9_servesOf_35 0 rfl ?_
          refine g_get (pc := 36) X fl_X9_85 dX9_servesOf_36 0 (v := gi (sTt A i 0 (-1) 0)) rfl rfl ?_
          refine g_top (b := sTot A i 0) sTt_0 ?_
          refine g_ifne (pc := 39) X 46 dX9_servesOf_39 (by decide) (by omega) (fun h39 => ?_) (fun h39 => ?_)
          · refine g_sipush (pc := 46) X dX9_servesOf_46 (by decide +kernel) ?_
            refine g_aload_n (pc := 49) X dX9_servesOf_49 0 rfl ?_
            refine g_get (pc := 50) X fl_X9_20 dX9_servesOf_50 0 (v := .ref (a 3)) rfl rfl ?_
            refine g_iload_n (pc := 53) X dX9_servesOf_53 2 rfl ?_
            refine g_iald (pc := 54) X dX9_servesOf_54 2 rfl (by omega) rfl ?_
            have hw32 : ∀ m, 0 ≤ m → m < A 1 → g_32 m = sLike A i m 0 := fun m m0 m1 => by rw [hg_32 m m0 m1, sLk_0 m0]
            refine g_top (b := sLike A i m 0) (hw32 m hm.1 hm.2) ?_
            refine g_imul (pc := 55) X dX9_servesOf_55 ?_
            refine g_aload_n (pc := 56) X dX9_servesOf_56 0 rfl ?_
            refine g_get (pc := 57) X fl_X9_85 dX9_servesOf_57 0 (v := gi (sTt A i 0 (-1) 0)) rfl rfl ?_
            refine g_top (b := sTot A i 0) sTt_0 ?_
            refine g_idiv (pc := 60) X dX9_servesOf_60 (by omega) (by omega) ?_
            refine g_top (b := sThou A i m) (by unfold sThou; first | rw [if_pos (by omega)] | rw [if_neg (by omega)]) ?_
            refine g_istore (pc := 61) X (lv' := [(0, .ref q), (1, gi s), (2, gi m), (3, gi x), (4, gi i), (5, gi (sThou A i m))]) dX9_servesOf_61 rfl rfl ?_
            refine g_iload (pc := 63) X dX9_servesOf_63 5 rfl ?_
            refine g_iload_n (pc := 65) X dX9_servesOf_65 3 rfl ?_
            refine g_icmple (pc := 66) X 74 dX9_servesOf_66 (by decide) (by omega) (by omega) (fun h66 => ?_) (fun h66 => ?_)
            · refine g_iload_n (pc := 74) X dX9_servesOf_74 3 rfl ?_
              refine g_istore_n (pc := 75) X (lv' := [(0, .ref q), (1, gi s), (2, gi m), (3, gi x), (4, gi i), (5, gi (sThou A i m))]) dX9_servesOf_75 rfl rfl ?_
              refine g_iinc (pc := 76) X (lv' := [(0, .ref q), (1, gi s), (2, gi m), (3, gi x), (4, gi (i + 1)), (5, gi (sThou A i m))]) dX9_servesOf_76 4 rfl rfl rfl ?_
              refine g_goto (pc := 79) X 5 dX9_servesOf_79 (by decide) ?_
              refine g_lsub X [0, 1, 2, 3, 4] rfl ?_
              exact ih5 _ _ _ _ (by omega) (by rw [itr_s hi.1, ← hx]; (try dsimp only); first | rw [if_neg (by omega)] | (rw [if_pos (by omega)]; unfold gmax; first | rw [if_pos (by omega)] | rw [if_neg (by omega)])) (by omega)
            · refine g_iload (pc := 69) X dX9_servesOf_69 5 rfl ?_
              refine g_goto (pc := 71) X 75 dX9_servesOf_71 (by decide) ?_
              refine g_istore_n (pc := 75) X (lv' := [(0, .ref q), (1, gi s), (2, gi m), (3, gi (sThou A i m)), (4, gi i), (5, gi (sThou A i m))]) dX9_servesOf_75 rfl rfl ?_
              refine g_iinc (pc := 76) X (lv' := [(0, .ref q), (1, gi s), (2, gi m), (3, gi (sThou A i m)), (4, gi (i + 1)), (5, gi (sThou A i m))]) dX9_servesOf_76 4 rfl rfl rfl ?_
              refine g_goto (pc := 79) X 5 dX9_servesOf_79 (by decide) ?_
              refine g_lsub X [0, 1, 2, 3, 4] rfl ?_
              exact ih5 _ _ _ _ (by omega) (by rw [itr_s hi.1, ← hx]; (try dsimp only); first | rw [if_neg (by omega)] | (rw [if_pos (by omega)]; unfold gmax; first | rw [if_pos (by omega)] | rw [if_neg (by omega)])) (by omega)
          · refine g_iconst (pc := 42) X dX9_servesOf_42 ?_
            refine g_goto (pc := 43) X 61 dX9_servesOf_43 (by decide) ?_
            refine g_top (b := sThou A i m) (by unfold sThou; first | rw [if_pos (by omega)] | rw [if_neg (by omega)]) ?_
            refine g_istore (pc := 61) X (lv' := [(0, .ref q), (1, gi s), (2, gi m), (3, gi x), (4, gi i), (5, gi (sThou A i m))]) dX9_servesOf_61 rfl rfl ?_
            refine g_iload (pc := 63) X dX9_servesOf_63 5 rfl ?_
            refine g_iload_n (pc := 65) X dX9_servesOf_65 3 rfl ?_
            refine g_icmple (pc := 66) X 74 dX9_servesOf_66 (by decide) (by omega) (by omega) (fun h66 => ?_) (fun h66 => ?_)
            · refine g_iload_n (pc := 74) X dX9_servesOf_74 3 rfl ?_
              refine g_istore_n (pc := 75) X (lv' := [(0, .ref q), (1, gi s), (2, gi m), (3, gi x), (4, gi i), (5, gi (sThou A i m))]) dX9_servesOf_75 rfl rfl ?_
              refine g_iinc (pc := 76) X (lv' := [(0, .ref q), (1, gi s), (2, gi m), (3, gi x), (4, gi (i + 1)), (5, gi (sThou A i m))]) dX9_servesOf_76 4 rfl rfl rfl ?_
              refine g_goto (pc := 79) X 5 dX9_servesOf_79 (by decide) ?_
              refine g_lsub X [0, 1, 2, 3, 4] rfl ?_
              exact ih5 _ _ _ _ (by omega) (by rw [itr_s hi.1, ← hx]; (try dsimp only); first | rw [if_neg (by omega)] | (rw [if_pos (by omega)]; unfold gmax; first | rw [if_pos (by omega)] | rw [if_neg (by omega)])) (by omega)
            · refine g_iload (pc := 69) X dX9_servesOf_69 5 rfl ?_
              refine g_goto (pc := 71) X 75 dX9_servesOf_71 (by decide) ?_
              refine g_istore_n (pc := 75) X (lv' := [(0, .ref q), (1, gi s), (2, gi m), (3, gi (sThou A i m)), (4, gi i), (5, gi (sThou A i m))]) dX9_servesOf_75 rfl rfl ?_
              refine g_iinc (pc := 76) X (lv' := [(0, .ref q), (1, gi s), (2, gi m), (3, gi (sThou A i m)), (4, gi (i + 1)), (5, gi (sThou A i m))]) dX9_servesOf_76 4 rfl rfl rfl ?_
              refine g_goto (pc := 79) X 5 dX9_servesOf_79 (by decide) ?_
              refine g_lsub X [0, 1, 2, 3, 4] rfl ?_
              exact ih5 _ _ _ _ (by omega) (by rw [itr_s hi.1, ← hx]; (try dsimp only); first | rw [if_neg (by omega)] | (rw [if_pos (by omega)]; unfold gmax; first | rw [if_pos (by omega)] | rw [if_neg (by omega)])) (by omega)
  exact L5 _ _ _ _ _ (by omega) rfl (Nat.lt_succ_self _)

set_option maxHeartbeats 4000000 in
set_option maxRecDepth 100000 in
theorem c_X9_worthOf (l : Launch) (D : va_G) (cI cZ : ClassId) (q : Nat) (a : Nat → Nat) (al : Int) (at_ : Int) (st : Int) (so : Int) (va : Int) (fa : Int) (pl : Int) (sg : Int) (su : Int) (A : Int → Int) (sh : Int → Int) (s : Int) (hA : okA A) (hs : 0 ≤ s ∧ s < 1024) (hsh : ∀ i, 0 ≤ i → i < A 0 → ∀ m, 0 ≤ m → m < A 1 → sh (6 * i + m) = sThou A i m) : GM l D cI cZ yX9_worthOf cX9_worthOf 6 (some .int) ({ frames := 0, cells := 0, slots := 0, locals := 0 }) 0 0 true [.ref q, gi s] [oM q a al at_ st so va fa pl sg su, gA cI (a 0) 1140 A, gA cI (a 5) 60 sh] (gPi (sWorth A s)) := by
  refine g_enterI (z := false) (lv0 := [(0, .ref q), (1, gi s)]) _ rfl (by decide) rfl rfl (fun V X ret => ?_)
  have hA1 := okA_1 hA
  have hA0 := okA_0 hA
  have hpu := okA_pu hA
  refine g_iconst (pc := 0) X dX9_worthOf_0 ?_
  refine g_istore_n (pc := 1) X (lv' := [(0, .ref q), (1, gi s), (2, gi 0)]) dX9_worthOf_1 rfl rfl ?_
  refine g_iconst (pc := 2) X dX9_worthOf_2 ?_
  refine g_istore_n (pc := 3) X (lv' := [(0, .ref q), (1, gi s), (2, gi 0), (3, gi 0)]) dX9_worthOf_3 rfl rfl ?_
  have L4 : ∀ (n4 : Nat) (x : Int) (m : Int), (0 ≤ m ∧ m ≤ A 1) → (x = sm (fun m => A (85 + m) * sServ A s m) m) → (A 1 - m).toNat < n4 → V 0 0 [oM q a al at_ st so va fa pl sg su, gA cI (a 0) 1140 A, gA cI (a 5) 60 sh] 4 [(0, .ref q), (1, gi s), (2, gi x), (3, gi m)] [] := by
    intro n4
    induction n4 with
    | zero => intro x m hm hx hn4; exact absurd hn4 (Nat.not_lt_zero _)
    | succ n4 ih4 =>
      intro x m hm hx hn4
      refine g_iload_n (pc := 4) X dX9_worthOf_4 3 rfl ?_
      refine g_aload_n (pc := 5) X dX9_worthOf_5 0 rfl ?_
      refine g_get (pc := 6) X fl_X9_7 dX9_worthOf_6 0 (v := .ref (a 0)) rfl rfl ?_
      refine g_iconst (pc := 9) X dX9_worthOf_9 ?_
      refine g_iald (pc := 10) X dX9_worthOf_10 1 rfl (by omega) rfl ?_
      refine g_icmpge (pc := 11) X 104 dX9_worthOf_11 (by decide) (by omega) (by omega) (fun h11 => ?_) (fun h11 => ?_)
      · refine g_iload_n (pc := 104) X dX9_worthOf_104 2 rfl ?_
        exact ret _ _ _ _ _ _ dX9_worthOf_105 rfl rfl (fun h => by cases h) (gPi_e (by rw [hx, show m = A 1 by omega]; rfl))
      · refine g_iconst (pc := 14) X dX9_worthOf_14 ?_
        refine g_istore (pc := 15) X (lv' := [(0, .ref q), (1, gi s), (2, gi x), (3, gi m), (4, gi 0)]) dX9_worthOf_15 rfl rfl ?_
        refine g_iconst (pc := 17) X dX9_worthOf_17 ?_
        refine g_istore (pc := 18) X (lv' := [(0, .ref q), (1, gi s), (2, gi x), (3, gi m), (4, gi 0), (5, gi 0)]) dX9_worthOf_18 rfl rfl ?_
        have L20 : ∀ (n20 : Nat) (y : Int) (i : Int), (0 ≤ i ∧ i ≤ A 0) → (y = itr (fun i x => if bit s i = 1 then gmax x (sThou A i m) else x) 0 i) → (A 0 - i).toNat < n20 → V 0 0 [oM q a al at_ st so va fa pl sg su, gA cI (a 0) 1140 A, gA cI (a 5) 60 sh] 20 [(0, .ref q), (1, gi s), (2, gi x), (3, gi m), (4, gi y), (5, gi i)] [] := by
          intro n20
          induction n20 with
          | zero => intro y i hi hy hn20; exact absurd hn20 (Nat.not_lt_zero _)
          | succ n20 ih20 =>
            intro y i hi hy hn20
            have hbb := sServ_b hA (s := s) (m := m) (by omega) hi
            rw [← hy] at hbb
            have hbt := bit_b s i
            refine g_iload (pc := 20) X dX9_worthOf_20 5 rfl ?_
            refine g_aload_n (pc := 22) X dX9_worthOf_22 0 rfl ?_
            refine g_get (pc := 23) X fl_X9_7 dX9_worthOf_23 0 (v := .ref (a 0)) rfl rfl ?_
            refine g_iconst (pc := 26) X dX9_worthOf_26 ?_
            refine g_iald (pc := 27) X dX9_worthOf_27 1 rfl (by omega) rfl ?_
            refine g_icmpge (pc := 28) X 83 dX9_worthOf_28 (by decide) (by omega) (by omega) (fun h28 => ?_) (fun h28 => ?_)
            · refine g_iload_n (pc := 83) X dX9_worthOf_83 2 rfl ?_
              refine g_aload_n (pc := 84) X dX9_worthOf_84 0 rfl ?_
              refine g_get (pc := 85) X fl_X9_7 dX9_worthOf_85 0 (v := .ref (a 0)) rfl rfl ?_
              refine g_bipush (pc := 88) X dX9_worthOf_88 (by decide +kernel) ?_
              refine g_iload_n (pc := 90) X dX9_worthOf_90 3 rfl ?_
              refine g_iadd (pc := 91) X dX9_worthOf_91 ?_
              refine g_iald (pc := 92) X dX9_worthOf_92 1 rfl (by omega) rfl ?_
              refine g_iload (pc := 93) X dX9_worthOf_93 4 rfl ?_
              refine g_imul (pc := 95) X dX9_worthOf_95 ?_
              refine g_iadd (pc := 96) X dX9_worthOf_96 ?_
              refine g_istore_n (pc := 97) X (lv' := [(0, .ref q), (1, gi s), (2, gi (x + A (85 + m) * y)), (3, gi m), (4, gi y), (5, gi i)]) dX9_worthOf_97 rfl rfl ?_
              refine g_iinc (pc := 98) X (lv' := [(0, .ref q), (1, gi s), (2, gi (x + A (85 + m) * y)), (3, gi (m + 1)), (4, gi y), (5, gi i)]) dX9_worthOf_98 3 rfl rfl rfl ?_
              refine g_goto (pc := 101) X 4 dX9_worthOf_101 (by decide) ?_
              refine g_lsub X [0, 1, 2, 3] rfl ?_
              exact ih4 _ _ (by omega) (by rw [hx, sm_s hm.1, show y = sServ A s m from (by rw [hy, show i = A 0 by omega]; rfl)]) (by omega)
            · refine g_iload_n (pc := 31) X dX9_worthOf_31 1 rfl ?_
              refine g_iload (pc := 32) X dX9_worthOf_32 5 rfl ?_
              refine g_ishr (pc := 34) X dX9_worthOf_34 (by omega) (by omega) ?_
              refine g_iconst (pc := 35) X dX9_worthOf_35 ?_
              refine g_iand (pc := 36) X (r := bit s i) dX9_worthOf_36 (iI_bit hs.1) ?_
              refine g_iconst (pc := 37) X dX9_worthOf_37 ?_
              refine g_icmpne (pc := 38) X 73 dX9_worthOf_38 (by decide) (by omega) (by omega) (fun h38 => ?_) (fun h38 => ?_)
              · refine g_iload (pc := 73) X dX9_worthOf_73 4 rfl ?_
                refine g_istore (pc := 75) X (lv' := [(0, .ref q), (1, gi s), (2, gi x), (3, gi m), (4, gi y), (5, gi i)]) dX9_worthOf_75 rfl rfl ?_
                refine g_iinc (pc := 77) X (lv' := [(0, .ref q), (1, gi s), (2, gi x), (3, gi m), (4, gi y), (5, gi (i + 1))]) dX9_worthOf_77 5 rfl rfl rfl ?_
                refine g_goto (pc := 80) X 20 dX9_worthOf_80 (by decide) ?_
                exact ih20 _ _ (by omega) (by rw [itr_s hi.1, ← hy]; (try dsimp only); first | rw [if_neg (by omega)] | (rw [if_pos (by omega)]; unfold gmax; first | rw [if_pos (by omega)] | rw [if_neg (by omega)])) (by omega)
              · refine g_aload_n (pc := 41) X dX9_worthOf_41 0 rfl ?_
                refine g_get (pc := 42) X fl_X9_23 dX9_worthOf_42 0 (v := .ref (a 5)) rfl rfl ?_
                refine g_bipush (pc := 45) X dX9_worthOf_45 (by decide +kernel) ?_
                refine g_iload (pc := 47) X dX9_worthOf_47 5 rfl ?_
                refine g_imul (pc := 49) X dX9_worthOf_49 ?_
                refine g_iload_n (pc := 50) X dX9_worthOf_50 3 rfl ?_
                refine g_iadd (pc := 51) X dX9_worthOf_51 ?_
                refine g_iald (pc := 52) X dX9_worthOf_52 2 rfl (by omega) rfl ?_
                refine g_top (b := sThou A i m) (hsh i hi.1 (by omega) m hm.1 (by omega)) ?_
                have hth := sThou_b hA (t := i) (m := m) (by omega) (by omega)
                refine g_iload (pc := 53) X dX9_worthOf_53 4 rfl ?_
                refine g_icmple (pc := 55) X 73 dX9_worthOf_55 (by decide) (by omega) (by omega) (fun h55 => ?_) (fun h55 => ?_)
                · refine g_iload (pc := 73) X dX9_worthOf_73 4 rfl ?_
                  refine g_istore (pc := 75) X (lv' := [(0, .ref q), (1, gi s), (2, gi x), (3, gi m), (4, gi y), (5, gi i)]) dX9_worthOf_75 rfl rfl ?_
                  refine g_iinc (pc := 77) X (lv' := [(0, .ref q), (1, gi s), (2, gi x), (3, gi m), (4, gi y), (5, gi (i + 1))]) dX9_worthOf_77 5 rfl rfl rfl ?_
                  refine g_goto (pc := 80) X 20 dX9_worthOf_80 (by decide) ?_
                  exact ih20 _ _ (by omega) (by rw [itr_s hi.1, ← hy]; (try dsimp only); first | rw [if_neg (by omega)] | (rw [if_pos (by omega)]; unfold gmax; first | rw [if_pos (by omega)] | rw [if_neg (by omega)])) (by omega)
                · refine g_aload_n (pc := 58) X dX9_worthOf_58 0 rfl ?_
                  refine g_get (pc := 59) X fl_X9_23 dX9_worthOf_59 0 (v := .ref (a 5)) rfl rfl ?_
                  refine g_bipush (pc := 62) X dX9_worthOf_62 (by decide +kernel) ?_
                  refine g_iload (pc := 64) X dX9_worthOf_64 5 rfl ?_
                  refine g_imul (pc := 66) X dX9_worthOf_66 ?_
                  refine g_iload_n (pc := 67) X dX9_worthOf_67 3 rfl ?_
                  refine g_iadd (pc := 68) X dX9_worthOf_68 ?_
                  refine g_iald (pc := 69) X dX9_worthOf_69 2 rfl (by omega) rfl ?_
                  refine g_top (b := sThou A i m) (hsh i hi.1 (by omega) m hm.1 (by omega)) ?_
                  refine g_goto (pc := 70) X 75 dX9_worthOf_70 (by decide) ?_
                  refine g_istore (pc := 75) X (lv' := [(0, .ref q), (1, gi s), (2, gi x), (3, gi m), (4, gi (sThou A i m)), (5, gi i)]) dX9_worthOf_75 rfl rfl ?_
                  refine g_iinc (pc := 77) X (lv' := [(0, .ref q), (1, gi s), (2, gi x), (3, gi m), (4, gi (sThou A i m)), (5, gi (i + 1))]) dX9_worthOf_77 5 rfl rfl rfl ?_
                  refine g_goto (pc := 80) X 20 dX9_worthOf_80 (by decide) ?_
                  exact ih20 _ _ (by omega) (by rw [itr_s hi.1, ← hy]; (try dsimp only); first | rw [if_neg (by omega)] | (rw [if_pos (by omega)]; unfold gmax; first | rw [if_pos (by omega)] | rw [if_neg (by omega)])) (by omega)
        exact L20 _ _ _ (by omega) rfl (Nat.lt_succ_self _)
  exact L4 _ _ _ (by omega) rfl (Nat.lt_succ_self _)
