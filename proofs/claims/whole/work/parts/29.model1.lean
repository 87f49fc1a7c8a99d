/-! the model: likenesses and what follows -/
set_option maxHeartbeats 4000000 in
set_option maxRecDepth 100000 in
theorem c_X9_weigh (l : Launch) (D : va_G) (cI cZ : ClassId) (q : Nat) (a : Nat → Nat) (al : Int) (at_ : Int) (st : Int) (so : Int) (va : Int) (fa : Int) (pl : Int) (sg : Int) (su : Int) (A : Int → Int) (lk_ : Int → Int) (t : Int) (far : Int) (seen : Int) (late : Int) (hA : okA A) (ht : 0 ≤ t ∧ t < 10) (hf : 0 ≤ far ∧ far ≤ 9) (hse : -2147483648 ≤ seen ∧ seen < 2147483648) (hla : -2147483648 ≤ late ∧ late < 2147483648) : GM l D cI cZ yX9_weigh cX9_weigh 6 none ({ frames := 6, cells := 0, slots := 0, locals := 149 }) 0 0 false [.ref q, gi t, gi far, gi seen, gi late] [oM q a al at_ st so va fa pl sg su, gA cI (a 0) 1140 A, gA cI (a 3) 6 lk_] (gPxv (fun xo : (Int → Int) => [oM q a (sTt A t far seen late) at_ st so va fa pl sg su, gA cI (a 0) 1140 A, gA cI (a 3) 6 xo]) (fun xo : (Int → Int) => (∀ mm, 0 ≤ mm → mm < A 1 → xo mm = sLk A t mm far seen late))) := by
  refine g_enterV (lv0 := [(0, .ref q), (1, gi t), (2, gi far), (3, gi seen), (4, gi late)]) (by decide) rfl rfl (fun V X ret => ?_)
  have hA1 := okA_1 hA
  have hA0 := okA_0 hA
  have hpu := okA_pu hA
  refine g_aload_n (pc := 0) X dX9_weigh_0 0 rfl ?_
  refine g_iconst (pc := 1) X dX9_weigh_1 ?_
  refine g_put (pc := 2) X (ws' := [oM q a 0 at_ st so va fa pl sg su, gA cI (a 0) 1140 A, gA cI (a 3) 6 lk_]) fp_X9_85 dX9_weigh_2 0 rfl rfl rfl rfl rfl ?_
  refine g_iconst (pc := 5) X dX9_weigh_5 ?_
  refine g_istore (pc := 6) X (lv' := [(0, .ref q), (1, gi t), (2, gi far), (3, gi seen), (4, gi late), (5, gi 0)]) dX9_weigh_6 rfl rfl ?_
  have L8 : ∀ (n8 : Nat) (x : Int) (i : Int) (e : Int → Int), (0 ≤ i ∧ i ≤ A 1) → (x = sm (fun m => sLk A t m far seen late) i) → (∀ m, 0 ≤ m → m < i → e m = sLk A t m far seen late) → (A 1 - i).toNat < n8 → V 0 0 [oM q a x at_ st so va fa pl sg su, gA cI (a 0) 1140 A, gA cI (a 3) 6 e] 8 [(0, .ref q), (1, gi t), (2, gi far), (3, gi seen), (4, gi late), (5, gi i)] [] := by
    intro n8
    induction n8 with
    | zero => intro x i e hi hx he hn8; exact absurd hn8 (Nat.not_lt_zero _)
    | succ n8 ih8 =>
      intro x i e hi hx he hn8
      have hlb := sLike_b hA (t := t) (m := i) (far := far)
      have hbm := sBon_m hA (l := late)
      refine g_iload (pc := 8) X dX9_weigh_8 5 rfl ?_
      refine g_aload_n (pc := 10) X dX9_weigh_10 0 rfl ?_
      refine g_get (pc := 11) X fl_X9_7 dX9_weigh_11 0 (v := .ref (a 0)) rfl rfl ?_
      refine g_iconst (pc := 14) X dX9_weigh_14 ?_
      refine g_iald (pc := 15) X dX9_weigh_15 1 rfl (by omega) rfl ?_
      refine g_icmpge (pc := 16) X 119 dX9_weigh_16 (by decide) (by omega) (by omega) (fun h16 => ?_) (fun h16 => ?_)
      · exact ret _ _ _ _ _ dX9_weigh_119 rfl rfl (gPxv_e e (by rw [hx, show i = A 1 by omega]; rfl) (by rw [show i = A 1 by omega] at he; exact he))
      · refine g_aload_n (pc := 19) X dX9_weigh_19 0 rfl ?_
        refine g_get (pc := 20) X fl_X9_20 dX9_weigh_20 0 (v := .ref (a 3)) rfl rfl ?_
        have hlb := hlb ht (by omega) hf
        refine g_iload (pc := 23) X dX9_weigh_23 5 rfl ?_
        refine g_aload_n (pc := 25) X dX9_weigh_25 0 rfl ?_
        refine g_iload_n (pc := 26) X dX9_weigh_26 1 rfl ?_
        refine g_iload (pc := 27) X dX9_weigh_27 5 rfl ?_
        refine g_iload_n (pc := 29) X dX9_weigh_29 2 rfl ?_
        refine gc_Vi (pc := 30) X (c_X9_likenessOf l D cI cZ q a x at_ st so va fa pl sg su A t i far hA (by omega) (by omega) (by omega)) lm_X9_82 dX9_weigh_30 [0, 1] rfl rfl rfl rfl rfl rfl rfl rfl ?_
        refine g_iast (pc := 33) X (ws' := [oM q a x at_ st so va fa pl sg su, gA cI (a 0) 1140 A, gA cI (a 3) 6 (gupd e i (sLike A t i far))]) dX9_weigh_33 2 rfl (by omega) rfl rfl ?_
        refine g_iload (pc := 34) X dX9_weigh_34 5 rfl ?_
        refine g_iload_n (pc := 36) X dX9_weigh_36 3 rfl ?_
        refine g_icmpne (pc := 37) X 97 dX9_weigh_37 (by decide) (by omega) (by omega) (fun h37 => ?_) (fun h37 => ?_)
        · have hv : (gupd e i (sLike A t i far)) i = sLk A t i far seen late := (by rw [gupd_s]; unfold sLk; first | (rw [if_neg (by omega)]; omega) | (rw [if_pos (by omega)]; unfold sBon; first | (rw [if_pos (by omega)]; omega) | (rw [if_neg (by omega), gupd_s])))
          refine g_aload_n (pc := 97) X dX9_weigh_97 0 rfl ?_
          refine g_dup (pc := 98) X dX9_weigh_98 rfl ?_
          refine g_get (pc := 99) X fl_X9_85 dX9_weigh_99 0 (v := gi x) rfl rfl ?_
          refine g_aload_n (pc := 102) X dX9_weigh_102 0 rfl ?_
          refine g_get (pc := 103) X fl_X9_20 dX9_weigh_103 0 (v := .ref (a 3)) rfl rfl ?_
          refine g_iload (pc := 106) X dX9_weigh_106 5 rfl ?_
          refine g_iald (pc := 108) X dX9_weigh_108 2 rfl (by omega) rfl ?_
          refine g_iadd (pc := 109) X dX9_weigh_109 ?_
          refine g_put (pc := 110) X (ws' := [oM q a (x + (gupd e i (sLike A t i far)) i) at_ st so va fa pl sg su, gA cI (a 0) 1140 A, gA cI (a 3) 6 (gupd e i (sLike A t i far))]) fp_X9_85 dX9_weigh_110 0 rfl rfl rfl rfl rfl ?_
          refine g_iinc (pc := 113) X (lv' := [(0, .ref q), (1, gi t), (2, gi far), (3, gi seen), (4, gi late), (5, gi (i + 1))]) dX9_weigh_113 5 rfl rfl rfl ?_
          refine g_goto (pc := 116) X 8 dX9_weigh_116 (by decide) ?_
          exact ih8 _ _ _ (by omega) (by rw [hx, sm_s hi.1, hv]) (all_s (fun m m0 m1 => by (repeat rw [gupd_n (by omega)]); exact he m m0 m1) hv) (by omega)
        · refine g_iload (pc := 40) X dX9_weigh_40 4 rfl ?_
          refine g_iconst (pc := 42) X dX9_weigh_42 ?_
          refine g_aload_n (pc := 43) X dX9_weigh_43 0 rfl ?_
          refine g_get (pc := 44) X fl_X9_7 dX9_weigh_44 0 (v := .ref (a 0)) rfl rfl ?_
          refine g_sipush (pc := 47) X dX9_weigh_47 (by decide +kernel) ?_
          refine g_iald (pc := 50) X dX9_weigh_50 1 rfl (by omega) rfl ?_
          refine g_iconst (pc := 51) X dX9_weigh_51 ?_
          refine g_isub (pc := 52) X dX9_weigh_52 ?_
          refine gc_Si (pc := 53) X (c_X9_in l D cI cZ late 0 (A 128 - 1) (by omega) (by omega) (by omega)) lm_X9_50 dX9_weigh_53 [] rfl rfl rfl rfl rfl rfl ?_
          refine g_ifeqB (pc := 56) X 97 dX9_weigh_56 (by decide) (fun h56 => ?_) (fun h56 => ?_)
          · have hv : (gupd e i (sLike A t i far)) i = sLk A t i far seen late := (by rw [gupd_s]; unfold sLk; first | (rw [if_neg (by omega)]; omega) | (rw [if_pos (by omega)]; unfold sBon; first | (rw [if_pos (by omega)]; omega) | (rw [if_neg (by omega), gupd_s])))
            refine g_aload_n (pc := 97) X dX9_weigh_97 0 rfl ?_
            refine g_dup (pc := 98) X dX9_weigh_98 rfl ?_
            refine g_get (pc := 99) X fl_X9_85 dX9_weigh_99 0 (v := gi x) rfl rfl ?_
            refine g_aload_n (pc := 102) X dX9_weigh_102 0 rfl ?_
            refine g_get (pc := 103) X fl_X9_20 dX9_weigh_103 0 (v := .ref (a 3)) rfl rfl ?_
            refine g_iload (pc := 106) X dX9_weigh_106 5 rfl ?_
            refine g_iald (pc := 108) X dX9_weigh_108 2 rfl (by omega) rfl ?_
            refine g_iadd (pc := 109) X dX9_weigh_109 ?_
            refine g_put (pc := 110) X (ws' := [oM q a (x + (gupd e i (sLike A t i far)) i) at_ st so va fa pl sg su, gA cI (a 0) 1140 A, gA cI (a 3) 6 (gupd e i (sLike A t i far))]) fp_X9_85 dX9_weigh_110 0 rfl rfl rfl rfl rfl ?_
            refine g_iinc (pc := 113) X (lv' := [(0, .ref q), (1, gi t), (2, gi far), (3, gi seen), (4, gi late), (5, gi (i + 1))]) dX9_weigh_113 5 rfl rfl rfl ?_
            refine g_goto (pc := 116) X 8 dX9_weigh_116 (by decide) ?_
            exact ih8 _ _ _ (by omega) (by rw [hx, sm_s hi.1, hv]) (all_s (fun m m0 m1 => by (repeat rw [gupd_n (by omega)]); exact he m m0 m1) hv) (by omega)
          · refine g_aload_n (pc := 59) X dX9_weigh_59 0 rfl ?_
            refine g_get (pc := 60) X fl_X9_20 dX9_weigh_60 0 (v := .ref (a 3)) rfl rfl ?_
            refine g_iload (pc := 63) X dX9_weigh_63 5 rfl ?_
            refine g_dup2 (pc := 65) X dX9_weigh_65 rfl rfl ?_
            refine g_iald (pc := 66) X dX9_weigh_66 2 rfl (by omega) rfl ?_
            refine g_aload_n (pc := 67) X dX9_weigh_67 0 rfl ?_
            refine g_get (pc := 68) X fl_X9_7 dX9_weigh_68 0 (v := .ref (a 0)) rfl rfl ?_
            refine g_bipush (pc := 71) X dX9_weigh_71 (by decide +kernel) ?_
            refine g_iald (pc := 73) X dX9_weigh_73 1 rfl (by omega) rfl ?_
            refine g_aload_n (pc := 74) X dX9_weigh_74 0 rfl ?_
            refine g_get (pc := 75) X fl_X9_7 dX9_weigh_75 0 (v := .ref (a 0)) rfl rfl ?_
            refine g_sipush (pc := 78) X dX9_weigh_78 (by decide +kernel) ?_
            refine g_iald (pc := 81) X dX9_weigh_81 1 rfl (by omega) rfl ?_
            refine g_iload (pc := 82) X dX9_weigh_82 4 rfl ?_
            refine g_isub (pc := 84) X dX9_weigh_84 ?_
            refine g_imul (pc := 85) X dX9_weigh_85 ?_
            refine g_aload_n (pc := 86) X dX9_weigh_86 0 rfl ?_
            refine g_get (pc := 87) X fl_X9_7 dX9_weigh_87 0 (v := .ref (a 0)) rfl rfl ?_
            refine g_sipush (pc := 90) X dX9_weigh_90 (by decide +kernel) ?_
            refine g_iald (pc := 93) X dX9_weigh_93 1 rfl (by omega) rfl ?_
            have hbm := hbm (by omega)
            refine g_idiv (pc := 94) X dX9_weigh_94 (by omega) (by omega) ?_
            refine g_iadd (pc := 95) X dX9_weigh_95 ?_
            refine g_iast (pc := 96) X (ws' := [oM q a x at_ st so va fa pl sg su, gA cI (a 0) 1140 A, gA cI (a 3) 6 (gupd (gupd e i (sLike A t i far)) i ((gupd e i (sLike A t i far)) i + A 127 * (A 128 - late) / (A 128)))]) dX9_weigh_96 2 rfl (by omega) rfl rfl ?_
            have hv : (gupd (gupd e i (sLike A t i far)) i ((gupd e i (sLike A t i far)) i + A 127 * (A 128 - late) / (A 128))) i = sLk A t i far seen late := (by rw [gupd_s]; unfold sLk; first | (rw [if_neg (by omega)]; omega) | (rw [if_pos (by omega)]; unfold sBon; first | (rw [if_pos (by omega)]; omega) | (rw [if_neg (by omega), gupd_s])))
            refine g_aload_n (pc := 97) X dX9_weigh_97 0 rfl ?_
            refine g_dup (pc := 98) X dX9_weigh_98 rfl ?_
            refine g_get (pc := 99) X fl_X9_85 dX9_weigh_99 0 (v := gi x) rfl rfl ?_
            refine g_aload_n (pc := 102) X dX9_weigh_102 0 rfl ?_
            refine g_get (pc := 103) X fl_X9_20 dX9_weigh_103 0 (v := .ref (a 3)) rfl rfl ?_
            refine g_iload (pc := 106) X dX9_weigh_106 5 rfl ?_
            refine g_iald (pc := 108) X dX9_weigh_108 2 rfl (by omega) rfl ?_
            refine g_iadd (pc := 109) X dX9_weigh_109 ?_
            refine g_put (pc := 110) X (ws' := [oM q a (x + (gupd (gupd e i (sLike A t i far)) i ((gupd e i (sLike A t i far)) i + A 127 * (A 128 - late) / (A 128))) i) at_ st so va fa pl sg su, gA cI (a 0) 1140 A, gA cI (a 3) 6 (gupd (gupd e i (sLike A t i far)) i ((gupd e i (sLike A t i far)) i + A 127 * (A 128 - late) / (A 128)))]) fp_X9_85 dX9_weigh_110 0 rfl rfl rfl rfl rfl ?_
            refine g_iinc (pc := 113) X (lv' := [(0, .ref q), (1, gi t), (2, gi far), (3, gi seen), (4, gi late), (5, gi (i + 1))]) dX9_weigh_113 5 rfl rfl rfl ?_
            refine g_goto (pc := 116) X 8 dX9_weigh_116 (by decide) ?_
            exact ih8 _ _ _ (by omega) (by rw [hx, sm_s hi.1, hv]) (all_s (fun m m0 m1 => by (repeat rw [gupd_n (by omega)]); exact he m m0 m1) hv) (by omega)
  exact L8 _ _ _ _ (by omega) rfl all_0 (Nat.lt_succ_self _)

set_option maxHeartbeats 4000000 in
set_option maxRecDepth 100000 in
theorem c_X9_isMore (l : Launch) (D : va_G) (cI cZ : ClassId) (q : Nat) (a : Nat → Nat) (al : Int) (at_ : Int) (st : Int) (so : Int) (va : Int) (fa : Int) (pl : Int) (sg : Int) (su : Int) (A : Int → Int) (lk_ : Int → Int) (m : Int) (x : Int) (y : Int) (hA : okA A) (hm : 0 ≤ m ∧ m < A 1) (hx : 0 ≤ x ∧ x < 10) (hy : 0 ≤ y ∧ y < 10) : GM l D cI cZ yX9_isMore cX9_isMore 7 (some .boolean) ({ frames := 7, cells := 0, slots := 0, locals := 174 }) 0 0 false [.ref q, gi m, gi x, gi y] [oM q a al at_ st so va fa pl sg su, gA cI (a 0) 1140 A, gA cI (a 3) 6 lk_] (gPxi (fun xo : (Int → Int) × (Int) => sMoreB A m x y) (fun xo : (Int → Int) × (Int) => [oM q a xo.2 at_ st so va fa pl sg su, gA cI (a 0) 1140 A, gA cI (a 3) 6 xo.1]) (fun xo : (Int → Int) × (Int) => True)) := by
  refine g_enterI (z := true) (lv0 := [(0, .ref q), (1, gi m), (2, gi x), (3, gi y)]) _ rfl (by decide) rfl rfl (fun V X ret => ?_)
  have hA1 := okA_1 hA
  have hA0 := okA_0 hA
  have hpu := okA_pu hA
  have lx := sLike_b hA (far := 0) hx (m := m) (by omega) (by omega)
  have ly := sLike_b hA (far := 0) hy (m := m) (by omega) (by omega)
  have tx := sTot_b hA (far := 0) hx (by omega)
  have ty := sTot_b hA (far := 0) hy (by omega)
  have gx : 1 ≤ gmax 1 (sTot A x 0) ∧ gmax 1 (sTot A x 0) ≤ 6000 := by unfold gmax; split <;> omega
  have gy : 1 ≤ gmax 1 (sTot A y 0) ∧ gmax 1 (sTot A y 0) ≤ 6000 := by unfold gmax; split <;> omega
  have m1 := mulb (a := sLike A x m 0) (b := gmax 1 (sTot A y 0)) (A := 1000) (B := 6000) lx (by omega)
  have m2 := mulb (a := sLike A y m 0) (b := gmax 1 (sTot A x 0)) (A := 1000) (B := 6000) ly (by omega)
  refine g_aload_n (pc := 0) X dX9_isMore_0 0 rfl ?_
  refine g_iload_n (pc := 1) X dX9_isMore_1 2 rfl ?_
  refine g_iconst (pc := 2) X dX9_isMore_2 ?_
  refine g_iconst (pc := 3) X dX9_isMore_3 ?_
  refine g_iconst (pc := 4) X dX9_isMore_4 ?_
  refine gc_Vxv (pc := 5) X (wr := []) (c_X9_weigh l D cI cZ q a al at_ st so va fa pl sg su A lk_ x 0 (-1) 0 hA (by omega) (by omega) (by omega) (by omega)) lm_X9_89 dX9_isMore_5 [0, 1, 2] [] rfl rfl rfl rfl (by decide) rfl rfl rfl rfl rfl rfl (fun x5 hx5 => ?_)
  generalize x5 = g_5 at hx5 ⊢
  have hg_5 : ∀ mm, 0 ≤ mm → mm < A 1 → g_5 mm = sLk A x mm 0 (-1) 0 := hx5
  refine g_pick (cn := 0) (sl := 0) (st := []) X (ws' := [oM q a (sTt A x 0 (-1) 0) at_ st so va fa pl sg su, gA cI (a 0) 1140 A, gA cI (a 3) 6 g_5]) [0, 1, 2] rfl rfl ?_
  refine g_aload_n (pc := 8) X dX9_isMore_8 0 rfl ?_
  refine g_get (pc := 9) X fl_X9_20 dX9_isMore_9 0 (v := .ref (a 3)) rfl rfl ?_
  refine g_iload_n (pc := 12) X dX9_isMore_12 1 rfl ?_
  refine g_iald (pc := 13) X dX9_isMore_13 2 rfl (by omega) rfl ?_
  have hw5 : ∀ m, 0 ≤ m → m < A 1 → g_5 m = sLike A x m 0 := fun m m0 m1 => by rw [hg_5 m m0 m1, sLk_0 m0]
  refine g_top (b := sLike A x m 0) (hw5 m hm.1 hm.2) ?_
  refine g_istore (pc := 14) X (lv' := [(0, .ref q), (1, gi m), (2, gi x), (3, gi y), (4, gi (sLike A x m 0))]) dX9_isMore_14 rfl rfl ?_
  refine g_aload_n (pc := 16) X dX9_isMore_16 0 rfl ?_
  refine g_get (pc := 17) X fl_X9_85 dX9_isMore_17 0 (v := gi (sTt A x 0 (-1) 0)) rfl rfl ?_
  refine g_top (b := sTot A x 0) sTt_0 ?_
  refine g_ifne (pc := 20) X 27 dX9_isMore_20 (by decide) (by omega) (fun h20 => ?_) (fun h20 => ?_)
  · refine g_aload_n (pc := 27) X dX9_isMore_27 0 rfl ?_
    refine g_get (pc := 28) X fl_X9_85 dX9_isMore_28 0 (v := gi (sTt A x 0 (-1) 0)) rfl rfl ?_
    refine g_top (b := gmax 1 (sTot A x 0)) (by (try rw [sTt_0]); unfold gmax; split <;> omega) ?_
    refine g_istore (pc := 31) X (lv' := [(0, .ref q), (1, gi m), (2, gi x), (3, gi y), (4, gi (sLike A x m 0)), (5, gi (gmax 1 (sTot A x 0)))]) dX9_isMore_31 rfl rfl ?_
    refine g_aload_n (pc := 33) X dX9_isMore_33 0 rfl ?_
    refine g_iload_n (pc := 34) X dX9_isMore_34 3 rfl ?_
    refine g_iconst (pc := 35) X dX9_isMore_35 ?_
    refine g_iconst (pc := 36) X dX9_isMore_36 ?_
    refine g_iconst (pc := 37) X dX9_isMore_37 ?_
    refine gc_Vxv (pc := 38) X (wr := []) (c_X9_weigh l D cI cZ q a (sTt A x 0 (-1) 0) at_ st so va fa pl sg su A g_5 y 0 (-1) 0 hA (by omega) (by omega) (by omega) (by omega)) lm_X9_89 dX9_isMore_38 [0, 1, 2] [] rfl rfl rfl rfl (by decide) rfl rfl rfl rfl rfl rfl (fun x38 hx38 => ?_)
    generalize x38 = g_38 at hx38 ⊢
    have hg_38 : ∀ mm, 0 ≤ mm → mm < A 1 → g_38 mm = sLk A y mm 0 (-1) 0 := hx38
    refine g_pick (cn := 0) (sl := 0) (st := []) X (ws' := [oM q a (sTt A y 0 (-1) 0) at_ st so va fa pl sg su, gA cI (a 0) 1140 A, gA cI (a 3) 6 g_38]) [0, 1, 2] rfl rfl ?_
    refine g_aload_n (pc := 41) X dX9_isMore_41 0 rfl ?_
    refine g_get (pc := 42) X fl_X9_85 dX9_isMore_42 0 (v := gi (sTt A y 0 (-1) 0)) rfl rfl ?_
    refine g_top (b := sTot A y 0) sTt_0 ?_
    refine g_ifne (pc := 45) X 52 dX9_isMore_45 (by decide) (by omega) (fun h45 => ?_) (fun h45 => ?_)
    · refine g_aload_n (pc := 52) X dX9_isMore_52 0 rfl ?_
      refine g_get (pc := 53) X fl_X9_85 dX9_isMore_53 0 (v := gi (sTt A y 0 (-1) 0)) rfl rfl ?_
      refine g_top (b := gmax 1 (sTot A y 0)) (by (try rw [sTt_0]); unfold gmax; split <;> omega) ?_
      refine g_istore (pc := 56) X (lv' := [(0, .ref q), (1, gi m), (2, gi x), (3, gi y), (4, gi (sLike A x m 0)), (5, gi (gmax 1 (sTot A x 0))), (6, gi (gmax 1 (sTot A y 0)))]) dX9_isMore_56 rfl rfl ?_
      refine g_iload (pc := 58) X dX9_isMore_58 4 rfl ?_
      refine g_iload (pc := 60) X dX9_isMore_60 6 rfl ?_
      refine g_imul (pc := 62) X dX9_isMore_62 ?_
      refine g_aload_n (pc := 63) X dX9_isMore_63 0 rfl ?_
      refine g_get (pc := 64) X fl_X9_20 dX9_isMore_64 0 (v := .ref (a 3)) rfl rfl ?_
      refine g_iload_n (pc := 67) X dX9_isMore_67 1 rfl ?_
      refine g_iald (pc := 68) X dX9_isMore_68 2 rfl (by omega) rfl ?_
      have hw38 : ∀ m, 0 ≤ m → m < A 1 → g_38 m = sLike A y m 0 := fun m m0 m1 => by rw [hg_38 m m0 m1, sLk_0 m0]
      refine g_top (b := sLike A y m 0) (hw38 m hm.1 hm.2) ?_
      refine g_iload (pc := 69) X dX9_isMore_69 5 rfl ?_
      refine g_imul (pc := 71) X dX9_isMore_71 ?_
      refine g_icmple (pc := 72) X 79 dX9_isMore_72 (by decide) (by omega) (by omega) (fun h72 => ?_) (fun h72 => ?_)
      · refine g_iconst (pc := 79) X dX9_isMore_79 ?_
        exact ret _ _ _ _ _ _ dX9_isMore_80 rfl rfl (fun _ => Or.inl rfl) (gPxi_e (g_38, _) (gB_f (by omega)).symm rfl trivial)
      · refine g_iconst (pc := 75) X dX9_isMore_75 ?_
        refine g_goto (pc := 76) X 80 dX9_isMore_76 (by decide) ?_
        exact ret _ _ _ _ _ _ dX9_isMore_80 rfl rfl (fun _ => Or.inr rfl) (gPxi_e (g_38, _) (gB_t (by omega)).symm rfl trivial)
    · refine g_iconst (pc := 48) X dX9_isMore_48 ?_
      refine g_goto (pc := 49) X 56 dX9_isMore_49 (by decide) ?_
      refine g_top (b := gmax 1 (sTot A y 0)) (by (try rw [sTt_0]); unfold gmax; split <;> omega) ?_
      refine g_istore (pc := 56) X (lv' := [(0, .ref q), (1, gi m), (2, gi x), (3, gi y), (4, gi (sLike A x m 0)), (5, gi (gmax 1 (sTot A x 0))), (6, gi (gmax 1 (sTot A y 0)))]) dX9_isMore_56 rfl rfl ?_
      refine g_iload (pc := 58) X dX9_isMore_58 4 rfl ?_
      refine g_iload (pc := 60) X dX9_isMore_60 6 rfl ?_
      refine g_imul (pc := 62) X dX9_isMore_62 ?_
      refine g_aload_n (pc := 63) X dX9_isMore_63 0 rfl ?_
      refine g_get (pc := 64) X fl_X9_20 dX9_isMore_64 0 (v := .ref (a 3)) rfl rfl ?_
      refine g_iload_n (pc := 67) X dX9_isMore_67 1 rfl ?_
      refine g_iald (pc := 68) X dX9_isMore_68 2 rfl (by omega) rfl ?_
      have hw38 : ∀ m, 0 ≤ m → m < A 1 → g_38 m = sLike A y m 0 := fun m m0 m1 => by rw [hg_38 m m0 m1, sLk_0 m0]
      refine g_top (b := sLike A y m 0) (hw38 m hm.1 hm.2) ?_
      refine g_iload (pc := 69) X dX9_isMore_69 5 rfl ?_
      refine g_imul (pc := 71) X dX9_isMore_71 ?_
      refine g_icmple (pc := 72) X 79 dX9_isMore_72 (by decide) (by omega) (by omega) (fun h72 => ?_) (fun h72 => ?_)
      · refine g_iconst (pc := 79) X dX9_isMore_79 ?_
        exact ret _ _ _ _ _ _ dX9_isMore_80 rfl rfl (fun _ => Or.inl rfl) (gPxi_e (g_38, _) (gB_f (by omega)).symm rfl trivial)
      · refine g_iconst (pc := 75) X dX9_isMore_75 ?_
        refine g_goto (pc := 76) X 80 dX9_isMore_76 (by decide) ?_
        exact ret _ _ _ _ _ _ dX9_isMore_80 rfl rfl (fun _ => Or.inr rfl) (gPxi_e (g_38, _) (gB_t (by omega)).symm rfl trivial)
  · refine g_iconst (pc := 23) X dX9_isMore_23 ?_
    refine g_goto (pc := 24) X 31 dX9_isMore_24 (by decide) ?_
    refine g_top (b := gmax 1 (sTot A x 0)) (by (try rw [sTt_0]); unfold gmax; split <;> omega) ?_
    refine g_istore (pc := 31) X (lv' := [(0, .ref q), (1, gi m), (2, gi x), (3, gi y), (4, gi (sLike A x m 0)), (5, gi (gmax 1 (sTot A x 0)))]) dX9_isMore_31 rfl rfl ?_
    refine g_aload_n (pc := 33) X dX9_isMore_33 0 rfl ?_
    refine g_iload_n (pc := 34) X dX9_isMore_34 3 rfl ?_
    refine g_iconst (pc := 35) X dX9_isMore_35 ?_
    refine g_iconst (pc := 36) X dX9_isMore_36 ?_
    refine g_iconst (pc := 37) X dX9_isMore_37 ?_
    refine gc_Vxv (pc := 38) X (wr := []) (c_X9_weigh l D cI cZ q a (sTt A x 0 (-1) 0) at_ st so va fa pl sg su A g_5 y 0 (-1) 0 hA (by omega) (by omega) (by omega) (by omega)) lm_X9_89 dX9_isMore_38 [0, 1, 2] [] rfl rfl rfl rfl (by decide) rfl rfl rfl rfl rfl rfl (fun x38 hx38 => ?_)
    generalize x38 = g_38 at hx38 ⊢
    have hg_38 : ∀ mm, 0 ≤ mm → mm < A 1 → g_38 mm = sLk A y mm 0 (-1) 0 := hx38
    refine g_pick (cn := 0) (sl := 0) (st := []) X (ws' := [oM q a (sTt A y 0 (-1) 0) at_ st so va fa pl sg su, gA cI (a 0) 1140 A, gA cI (a 3) 6 g_38]) [0, 1, 2] rfl rfl ?_
    refine g_aload_n (pc := 41) X dX9_isMore_41 0 rfl ?_
    refine g_get (pc := 42) X fl_X9_85 dX9_isMore_42 0 (v := gi (sTt A y 0 (-1) 0)) rfl rfl ?_
    refine g_top (b := sTot A y 0) sTt_0 ?_
    refine g_ifne (pc := 45) X 52 dX9_isMore_45 (by decide) (by omega) (fun h45 => ?_) (fun h45 => ?_)
    · refine g_aload_n (pc := 52) X dX9_isMore_52 0 rfl ?_
      refine g_get (pc := 53) X fl_X9_85 dX9_isMore_53 0 (v := gi (sTt A y 0 (-1) 0)) rfl rfl ?_
      refine g_top (b := gmax 1 (sTot A y 0)) (by (try rw [sTt_0]); unfold gmax; split <;> omega) ?_
      refine g_istore (pc := 56) X (lv' := [(0, .ref q), (1, gi m), (2, gi x), (3, gi y), (4, gi (sLike A x m 0)), (5, gi (gmax 1 (sTot A x 0))), (6, gi (gmax 1 (sTot A y 0)))]) dX9_isMore_56 rfl rfl ?_
      refine g_iload (pc := 58) X dX9_isMore_58 4 rfl ?_
      refine g_iload (pc := 60) X dX9_isMore_60 6 rfl ?_
      refine g_imul (pc := 62) X dX9_isMore_62 ?_
      refine g_aload_n (pc := 63) X dX9_isMore_63 0 rfl ?_
      refine g_get (pc := 64) X fl_X9_20 dX9_isMore_64 0 (v := .ref (a 3)) rfl rfl ?_
      refine g_iload_n (pc := 67) X dX9_isMore_67 1 rfl ?_
      refine g_iald (pc := 68) X dX9_isMore_68 2 rfl (by omega) rfl ?_
      have hw38 : ∀ m, 0 ≤ m → m < A 1 → g_38 m = sLike A y m 0 := fun m m0 m1 => by rw [hg_38 m m0 m1, sLk_0 m0]
      refine g_top (b := sLike A y m 0) (hw38 m hm.1 hm.2) ?_
      refine g_iload (pc := 69) X dX9_isMore_69 5 rfl ?_
      refine g_imul (pc := 71) X dX9_isMore_71 ?_
      refine g_icmple (pc := 72) X 79 dX9_isMore_72 (by decide) (by omega) (by omega) (fun h72 => ?_) (fun h72 => ?_)
      · refine g_iconst (pc := 79) X dX9_isMore_79 ?_
        exact ret _ _ _ _ _ _ dX9_isMore_80 rfl rfl (fun _ => Or.inl rfl) (gPxi_e (g_38, _) (gB_f (by omega)).symm rfl trivial)
      · refine g_iconst (pc := 75) X dX9_isMore_75 ?_
        refine g_goto (pc := 76) X 80 dX9_isMore_76 (by decide) ?_
        exact ret _ _ _ _ _ _ dX9_isMore_80 rfl rfl (fun _ => Or.inr rfl) (gPxi_e (g_38, _) (gB_t (by omega)).symm rfl trivial)
    · refine g_iconst (pc := 48) X dX9_isMore_48 ?_
      refine g_goto (pc := 49) X 56 dX9_isMore_49 (by decide) ?_
      refine g_top (b := gmax 1 (sTot A y 0)) (by (try rw [sTt_0]); unfold gmax; split <;> omega) ?_
      refine g_istore (pc := 56) X (lv' := [(0, .ref q), (1, gi m), (2, gi x), (3, gi y), (4, gi (sLike A x m 0)), (5, gi (gmax 1 (sTot A x 0))), (6, gi (gmax 1 (sTot A y 0)))]) dX9_isMore_56 rfl rfl ?_
      refine g_iload (pc := 58) X dX9_isMore_58 4 rfl ?_
      refine g_iload (pc := 60) X dX9_isMore_60 6 rfl ?_
      refine g_imul (pc := 62) X dX9_isMore_62 ?_
      refine g_aload_n (pc := 63) X dX9_isMore_63 0 rfl ?_
      refine g_get (pc := 64) X fl_X9_20 dX9_isMore_64 0 (v := .ref (a 3)) rfl rfl ?_
      refine g_iload_n (pc := 67) X dX9_isMore_67 1 rfl ?_
      refine g_iald (pc := 68) X dX9_isMore_68 2 rfl (by omega) rfl ?_
      have hw38 : ∀ m, 0 ≤ m → m < A 1 → g_38 m = sLike A y m 0 := fun m m0 m1 => by rw [hg_38 m m0 m1, sLk_0 m0]
      refine g_top (b := sLike A y m 0) (hw38 m hm.1 hm.2) ?_
      refine g_iload (pc := 69) X dX9_isMore_69 5 rfl ?_
      refine g_imul (pc := 71) X dX9_isMore_71 ?_
      refine g_icmple (pc := 72) X 79 dX9_isMore_72 (by decide) (by omega) (by omega) (fun h72 => ?_) (fun h72 => ?_)
      · refine g_iconst (pc := 79) X dX9_isMore_79 ?_
        exact ret _ _ _ _ _ _ dX9_isMore_80 rfl rfl (fun _ => Or.inl rfl) (gPxi_e (g_38, _) (gB_f (by omega)).symm rfl trivial)
      · refine g_iconst (pc := 75) X dX9_isMore_75 ?_
        refine g_goto (pc := 76) X 80 dX9_isMore_76 (by decide) ?_
        exact ret _ _ _ _ _ _ dX9_isMore_80 rfl rfl (fun _ => Or.inr rfl) (gPxi_e (g_38, _) (gB_t (by omega)).symm rfl trivial)

set_option maxHeartbeats 4000000 in
set_option maxRecDepth 100000 in
theorem c_X9_bestOf (l : Launch) (D : va_G) (cI cZ : ClassId) (q : Nat) (a : Nat → Nat) (al : Int) (at_ : Int) (st : Int) (so : Int) (va : Int) (fa : Int) (pl : Int) (sg : Int) (su : Int) (A : Int → Int) (lk_ : Int → Int) (m : Int) (hA : okA A) (hm : 0 ≤ m ∧ m < A 1) : GM l D cI cZ yX9_bestOf cX9_bestOf 4 (some .int) ({ frames := 8, cells := 0, slots := 0, locals := 200 }) 0 0 false [.ref q, gi m] [oM q a al at_ st so va fa pl sg su, gA cI (a 0) 1140 A, gA cI (a 3) 6 lk_] (gPxi (fun xo : (Int → Int) × (Int) => sBest A m) (fun xo : (Int → Int) × (Int) => [oM q a xo.2 at_ st so va fa pl sg su, gA cI (a 0) 1140 A, gA cI (a 3) 6 xo.1]) (fun xo : (Int → Int) × (Int) => True)) := by
  refine g_enterI (z := false) (lv0 := [(0, .ref q), (1, gi m)]) _ rfl (by decide) rfl rfl (fun V X ret => ?_)
  have hA1 := okA_1 hA
  have hA0 := okA_0 hA
  have hpu := okA_pu hA
  refine g_iconst (pc := 0) X dX9_bestOf_0 ?_
  refine g_istore_n (pc := 1) X (lv' := [(0, .ref q), (1, gi m), (2, gi (-1))]) dX9_bestOf_1 rfl rfl ?_
  refine g_iconst (pc := 2) X dX9_bestOf_2 ?_
  refine g_istore_n (pc := 3) X (lv' := [(0, .ref q), (1, gi m), (2, gi (-1)), (3, gi 0)]) dX9_bestOf_3 rfl rfl ?_
  have L4 : ∀ (n4 : Nat) (x : Int) (i : Int) (e : Int → Int) (z : Int), (0 ≤ i ∧ i ≤ A 0) → (x = itr (fun i f => if f = -1 then i else if sMoreB A m i f = 1 then i else f) (-1) i) → (A 0 - i).toNat < n4 → V 0 0 [oM q a z at_ st so va fa pl sg su, gA cI (a 0) 1140 A, gA cI (a 3) 6 e] 4 [(0, .ref q), (1, gi m), (2, gi x), (3, gi i)] [] := by
    intro n4
    induction n4 with
    | zero => intro x i e z hi hx hn4; exact absurd hn4 (Nat.not_lt_zero _)
    | succ n4 ih4 =>
      intro x i e z hi hx hn4
      have hbb := sBest_b (A := A) (m := m) hi.1
      rw [← hx] at hbb
      have hmb := sMoreB_n A m i x
      refine g_iload_n (pc := 4) X dX9_bestOf_4 3 rfl ?_
      refine g_aload_n (pc := 5) X dX9_bestOf_5 0 rfl ?_
      refine g_get (pc := 6) X fl_X9_7 dX9_bestOf_6 0 (v := .ref (a 0)) rfl rfl ?_
      refine g_iconst (pc := 9) X dX9_bestOf_9 ?_
      refine g_iald (pc := 10) X dX9_bestOf_10 1 rfl (by omega) rfl ?_
      refine g_icmpge (pc := 11) X 41 dX9_bestOf_11 (by decide) (by omega) (by omega) (fun h11 => ?_) (fun h11 => ?_)
      · refine g_iload_n (pc := 41) X dX9_bestOf_41 2 rfl ?_
        exact ret _ _ _ _ _ _ dX9_bestOf_42 rfl rfl (fun h => by cases h) (gPxi_e (e, z) (by rw [hx, show i = A 0 by omega]; rfl) rfl trivial)
      · refine g_iload_n (pc := 14) X dX9_bestOf_14 2 rfl ?_
        refine g_iconst (pc := 15) X dX9_bestOf_15 ?_
        refine g_icmpeq (pc := 16) X 29 dX9_bestOf_16 (by decide) (by omega) (by omega) (fun h16 => ?_) (fun h16 => ?_)
        · refine g_iload_n (pc := 29) X dX9_bestOf_29 3 rfl ?_
          refine g_goto (pc := 30) X 34 dX9_bestOf_30 (by decide) ?_
          refine g_istore_n (pc := 34) X (lv' := [(0, .ref q), (1, gi m), (2, gi i), (3, gi i)]) dX9_bestOf_34 rfl rfl ?_
          refine g_iinc (pc := 35) X (lv' := [(0, .ref q), (1, gi m), (2, gi i), (3, gi (i + 1))]) dX9_bestOf_35 3 rfl rfl rfl ?_
          refine g_goto (pc := 38) X 4 dX9_bestOf_38 (by decide) ?_
          exact ih4 _ _ _ _ (by omega) (by rw [itr_s hi.1, ← hx]; (try dsimp only); first | rw [if_pos (by omega)] | rw [if_neg (by omega), if_pos (by omega)] | rw [if_neg (by omega), if_neg (by omega)]) (by omega)
        · refine g_aload_n (pc := 19) X dX9_bestOf_19 0 rfl ?_
          refine g_iload_n (pc := 20) X dX9_bestOf_20 1 rfl ?_
          refine g_iload_n (pc := 21) X dX9_bestOf_21 3 rfl ?_
          refine g_iload_n (pc := 22) X dX9_bestOf_22 2 rfl ?_
          refine gc_Vxi (pc := 23) X (wr := []) (c_X9_isMore l D cI cZ q a z at_ st so va fa pl sg su A e m i x hA (by omega) (by omega) (by omega)) lm_X9_106 dX9_bestOf_23 [0, 1, 2] [] rfl rfl rfl rfl (by decide) rfl rfl rfl rfl rfl rfl (fun x23 hx23 => ?_)
          obtain ⟨g_23, al2_23⟩ := x23
          refine g_pick (cn := 0) (sl := 0) (st := gi (sMoreB A m i x) :: []) X (ws' := [oM q a al2_23 at_ st so va fa pl sg su, gA cI (a 0) 1140 A, gA cI (a 3) 6 g_23]) [0, 1, 2] rfl rfl ?_
          refine g_ifeq (pc := 26) X 33 dX9_bestOf_26 (by decide) (by omega) (fun h26 => ?_) (fun h26 => ?_)
          · refine g_iload_n (pc := 33) X dX9_bestOf_33 2 rfl ?_
            refine g_istore_n (pc := 34) X (lv' := [(0, .ref q), (1, gi m), (2, gi x), (3, gi i)]) dX9_bestOf_34 rfl rfl ?_
            refine g_iinc (pc := 35) X (lv' := [(0, .ref q), (1, gi m), (2, gi x), (3, gi (i + 1))]) dX9_bestOf_35 3 rfl rfl rfl ?_
            refine g_goto (pc := 38) X 4 dX9_bestOf_38 (by decide) ?_
            exact ih4 _ _ _ _ (by omega) (by rw [itr_s hi.1, ← hx]; (try dsimp only); first | rw [if_pos (by omega)] | rw [if_neg (by omega), if_pos (by omega)] | rw [if_neg (by omega), if_neg (by omega)]) (by omega)
          · refine g_iload_n (pc := 29) X dX9_bestOf_29 3 rfl ?_
            refine g_goto (pc := 30) X 34 dX9_bestOf_30 (by decide) ?_
            refine g_istore_n (pc := 34) X (lv' := [(0, .ref q), (1, gi m), (2, gi i), (3, gi i)]) dX9_bestOf_34 rfl rfl ?_
            refine g_iinc (pc := 35) X (lv' := [(0, .ref q), (1, gi m), (2, gi i), (3, gi (i + 1))]) dX9_bestOf_35 3 rfl rfl rfl ?_
            refine g_goto (pc := 38) X 4 dX9_bestOf_38 (by decide) ?_
            exact ih4 _ _ _ _ (by omega) (by rw [itr_s hi.1, ← hx]; (try dsimp only); first | rw [if_pos (by omega)] | rw [if_neg (by omega), if_pos (by omega)] | rw [if_neg (by omega), if_neg (by omega)]) (by omega)
  exact L4 _ _ _ _ _ (by omega) rfl (Nat.lt_succ_self _)

set_option maxHeartbeats 4000000 in
set_option maxRecDepth 100000 in
theorem c_X9_bitsIn (l : Launch) (D : va_G) (cI cZ : ClassId) (s : Int) (hs : 0 ≤ s ∧ s < 1024) : GM l D cI cZ yX9_bitsIn cX9_bitsIn 3 (some .int) ({ frames := 0, cells := 0, slots := 0, locals := 0 }) 0 0 true [gi s] [] (gPi (bitc s)) := by
  refine g_enterI (z := false) (lv0 := [(0, gi s)]) _ rfl (by decide) rfl rfl (fun V X ret => ?_)
  refine g_iconst (pc := 0) X dX9_bitsIn_0 ?_
  refine g_istore_n (pc := 1) X (lv' := [(0, gi s), (1, gi 0)]) dX9_bitsIn_1 rfl rfl ?_
  refine g_iconst (pc := 2) X dX9_bitsIn_2 ?_
  refine g_istore_n (pc := 3) X (lv' := [(0, gi s), (1, gi 0), (2, gi 0)]) dX9_bitsIn_3 rfl rfl ?_
  have L4 : ∀ (n4 : Nat) (x : Int) (i : Int), (0 ≤ i ∧ i ≤ 10) → (x = sm (fun k => bit s k) i) → (10 - i).toNat < n4 → V 0 0 [] 4 [(0, gi s), (1, gi x), (2, gi i)] [] := by
    intro n4
    induction n4 with
    | zero => intro x i hi hx hn4; exact absurd hn4 (Nat.not_lt_zero _)
    | succ n4 ih4 =>
      intro x i hi hx hn4
      refine g_iload_n (pc := 4) X dX9_bitsIn_4 2 rfl ?_
      refine g_bipush (pc := 5) X dX9_bitsIn_5 (by decide +kernel) ?_
      refine g_icmpge (pc := 7) X 24 dX9_bitsIn_7 (by decide) (by omega) (by omega) (fun h7 => ?_) (fun h7 => ?_)
      · refine g_iload_n (pc := 24) X dX9_bitsIn_24 1 rfl ?_
        exact ret _ _ _ _ _ _ dX9_bitsIn_25 rfl rfl (fun h => by cases h) (gPi_e (by rw [hx, show i = 10 by omega]; rfl))
      · refine g_iload_n (pc := 10) X dX9_bitsIn_10 1 rfl ?_
        refine g_iload_n (pc := 11) X dX9_bitsIn_11 0 rfl ?_
        refine g_iload_n (pc := 12) X dX9_bitsIn_12 2 rfl ?_
        refine g_ishr (pc := 13) X dX9_bitsIn_13 (by omega) (by omega) ?_
        refine g_iconst (pc := 14) X dX9_bitsIn_14 ?_
        refine g_iand (pc := 15) X (r := bit s i) dX9_bitsIn_15 (iI_bit hs.1) ?_
        refine g_iadd (pc := 16) X dX9_bitsIn_16 ?_
        refine g_istore_n (pc := 17) X (lv' := [(0, gi s), (1, gi (x + bit s i)), (2, gi i)]) dX9_bitsIn_17 rfl rfl ?_
        refine g_iinc (pc := 18) X (lv' := [(0, gi s), (1, gi (x + bit s i)), (2, gi (i + 1))]) dX9_bitsIn_18 2 rfl rfl rfl ?_
        refine g_goto (pc := 21) X 4 dX9_bitsIn_21 (by decide) ?_
        exact ih4 _ _ (by omega) (by rw [hx, sm_s hi.1]) (by omega)
  exact L4 _ _ _ (by omega) rfl (Nat.lt_succ_self _)
