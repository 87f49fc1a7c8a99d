/-! the model: MAY, BEST, TRUER, SERVES, CUPBOARD, WORDS, BEAST -/
set_option maxHeartbeats 4000000 in
set_option maxRecDepth 100000 in
theorem c_X9_may (l : Launch) (D : va_G) (cI cZ : ClassId) (q : Nat) (a : Nat → Nat) (al : Int) (at_ : Int) (st : Int) (so : Int) (va : Int) (fa : Int) (pl : Int) (sg : Int) (su : Int) (A : Int → Int) (kp : Int → Int) (rf : Int → Int) (lk_ : Int → Int) (sh : Int → Int) (pi : Int → Int) (th : Int → Int) (fl : Int → Int) (so_ : Int → Int) (fr : Int → Int) (le : Int → Int) (lg : Int → Int) (bg : Int → Int) (t : Int) (m : Int) (w : Int) (b : Int) (hA : okA A) (ht : -2147483648 ≤ t ∧ t < 2147483648) (hm : -2147483648 ≤ m ∧ m < 2147483648) (hw : -2147483648 ≤ w ∧ w < 2147483648) (hb : -2147483648 ≤ b ∧ b < 2147483648) : GM l D cI cZ yX9_may cX9_may 6 (some .int) ({ frames := 7, cells := 0, slots := 0, locals := 174 }) 0 0 false [.ref q, gi t, gi m, gi w, gi b] [oM q a al at_ st so va fa pl sg su, gA cI (a 0) 1140 A, gA cZ (a 1) 2 kp, gA cI (a 2) 3 rf, gA cI (a 3) 6 lk_, gA cI (a 5) 60 sh, gA cI (a 12) 8 pi, gA cI (a 13) 8 th, gA cI (a 14) 8 fl, gA cI (a 15) 8 so_, gA cI (a 16) 8 fr, gA cI (a 17) 2048 le, gA cI (a 18) 41 lg, gA cI (a 19) 112 bg] (gPxi (fun xo : (Int → Int) × (Int) => (o_may A t m w b).1) (fun xo : (Int → Int) × (Int) => [oM q a xo.2 at_ st so va fa pl sg su, gA cI (a 0) 1140 A, gA cZ (a 1) 2 kp, gA cI (a 2) 3 (bump ((o_may A t m w b).2) rf), gA cI (a 3) 6 xo.1, gA cI (a 5) 60 sh, gA cI (a 12) 8 pi, gA cI (a 13) 8 th, gA cI (a 14) 8 fl, gA cI (a 15) 8 so_, gA cI (a 16) 8 fr, gA cI (a 17) 2048 le, gA cI (a 18) 41 lg, gA cI (a 19) 112 bg]) (fun xo : (Int → Int) × (Int) => True)) := by
  refine g_enterI (z := false) (lv0 := [(0, .ref q), (1, gi t), (2, gi m), (3, gi w), (4, gi b)]) _ rfl (by decide) rfl rfl (fun V X ret => ?_)
  have hA1 := okA_1 hA
  have hA0 := okA_0 hA
  have hpu := okA_pu hA
  refine g_aload_n (pc := 0) X dX9_may_0 0 rfl ?_
  refine g_iload_n (pc := 1) X dX9_may_1 1 rfl ?_
  refine gc_Vi (pc := 2) X (c_X9_isThing l D cI cZ q a al at_ st so va fa pl sg su A t hA (by omega)) lm_X9_58 dX9_may_2 [0, 1] rfl rfl rfl rfl rfl rfl rfl rfl ?_
  refine g_ifeqB (pc := 5) X 37 dX9_may_5 (by decide) (fun h5 => ?_) (fun h5 => ?_)
  · refine g_aload_n (pc := 37) X dX9_may_37 0 rfl ?_
    refine g_bipush (pc := 38) X dX9_may_38 (by decide +kernel) ?_
    refine gc_Vxi (pc := 40) X (wr := [gA cI (a 0) 1140 A, gA cZ (a 1) 2 kp, gA cI (a 3) 6 lk_, gA cI (a 5) 60 sh, gA cI (a 12) 8 pi, gA cI (a 13) 8 th, gA cI (a 14) 8 fl, gA cI (a 15) 8 so_, gA cI (a 16) 8 fr, gA cI (a 17) 2048 le, gA cI (a 18) 41 lg, gA cI (a 19) 112 bg]) (c_X9_refuse l D cI cZ q a al at_ st so va fa pl sg su rf (-2) (by omega)) lm_X9_54 dX9_may_40 [0, 3] [1, 2, 4, 5, 6, 7, 8, 9, 10, 11, 12, 13] rfl rfl rfl rfl (by decide) rfl rfl rfl rfl rfl rfl (fun x40 hx40 => ?_)
    refine g_pick (cn := 0) (sl := 0) (st := gi (-2) :: []) X (ws' := [oM q a al at_ st so va fa pl sg su, gA cI (a 0) 1140 A, gA cZ (a 1) 2 kp, gA cI (a 2) 3 (gupd rf (-2 - (-2)) (rf (-2 - (-2)) + 1)), gA cI (a 3) 6 lk_, gA cI (a 5) 60 sh, gA cI (a 12) 8 pi, gA cI (a 13) 8 th, gA cI (a 14) 8 fl, gA cI (a 15) 8 so_, gA cI (a 16) 8 fr, gA cI (a 17) 2048 le, gA cI (a 18) 41 lg, gA cI (a 19) 112 bg]) [12, 0, 1, 13, 2, 3, 4, 5, 6, 7, 8, 9, 10, 11] rfl rfl ?_
    refine g_pop (pc := 43) X dX9_may_43 rfl ?_
    refine g_bipush (pc := 44) X dX9_may_44 (by decide +kernel) ?_
    exact ret _ _ _ _ _ _ dX9_may_46 rfl rfl (fun h => by cases h) (gPxi_e (_, _) (by rw [(show o_may A t m w b = (-10, 0) from if_neg (by omega))]) (by rw [(show o_may A t m w b = (-10, 0) from if_neg (by omega))]; rfl) trivial)
  · refine g_aload_n (pc := 8) X dX9_may_8 0 rfl ?_
    refine g_iload_n (pc := 9) X dX9_may_9 2 rfl ?_
    refine gc_Vi (pc := 10) X (c_X9_isMeaning l D cI cZ q a al at_ st so va fa pl sg su A m hA (by omega)) lm_X9_62 dX9_may_10 [0, 1] rfl rfl rfl rfl rfl rfl rfl rfl ?_
    refine g_ifeqB (pc := 13) X 37 dX9_may_13 (by decide) (fun h13 => ?_) (fun h13 => ?_)
    · refine g_aload_n (pc := 37) X dX9_may_37 0 rfl ?_
      refine g_bipush (pc := 38) X dX9_may_38 (by decide +kernel) ?_
      refine gc_Vxi (pc := 40) X (wr := [gA cI (a 0) 1140 A, gA cZ (a 1) 2 kp, gA cI (a 3) 6 lk_, gA cI (a 5) 60 sh, gA cI (a 12) 8 pi, gA cI (a 13) 8 th, gA cI (a 14) 8 fl, gA cI (a 15) 8 so_, gA cI (a 16) 8 fr, gA cI (a 17) 2048 le, gA cI (a 18) 41 lg, gA cI (a 19) 112 bg]) (c_X9_refuse l D cI cZ q a al at_ st so va fa pl sg su rf (-2) (by omega)) lm_X9_54 dX9_may_40 [0, 3] [1, 2, 4, 5, 6, 7, 8, 9, 10, 11, 12, 13] rfl rfl rfl rfl (by decide) rfl rfl rfl rfl rfl rfl (fun x40 hx40 => ?_)
      refine g_pick (cn := 0) (sl := 0) (st := gi (-2) :: []) X (ws' := [oM q a al at_ st so va fa pl sg su, gA cI (a 0) 1140 A, gA cZ (a 1) 2 kp, gA cI (a 2) 3 (gupd rf (-2 - (-2)) (rf (-2 - (-2)) + 1)), gA cI (a 3) 6 lk_, gA cI (a 5) 60 sh, gA cI (a 12) 8 pi, gA cI (a 13) 8 th, gA cI (a 14) 8 fl, gA cI (a 15) 8 so_, gA cI (a 16) 8 fr, gA cI (a 17) 2048 le, gA cI (a 18) 41 lg, gA cI (a 19) 112 bg]) [12, 0, 1, 13, 2, 3, 4, 5, 6, 7, 8, 9, 10, 11] rfl rfl ?_
      refine g_pop (pc := 43) X dX9_may_43 rfl ?_
      refine g_bipush (pc := 44) X dX9_may_44 (by decide +kernel) ?_
      exact ret _ _ _ _ _ _ dX9_may_46 rfl rfl (fun h => by cases h) (gPxi_e (_, _) (by rw [(show o_may A t m w b = (-10, 0) from if_neg (by omega))]) (by rw [(show o_may A t m w b = (-10, 0) from if_neg (by omega))]; rfl) trivial)
    · refine g_iload (pc := 16) X dX9_may_16 4 rfl ?_
      refine g_iconst (pc := 18) X dX9_may_18 ?_
      refine g_bipush (pc := 19) X dX9_may_19 (by decide +kernel) ?_
      refine gc_Si (pc := 21) X (c_X9_in l D cI cZ b 1 99 (by omega) (by omega) (by omega)) lm_X9_50 dX9_may_21 [] rfl rfl rfl rfl rfl rfl ?_
      refine g_ifeqB (pc := 24) X 37 dX9_may_24 (by decide) (fun h24 => ?_) (fun h24 => ?_)
      · refine g_aload_n (pc := 37) X dX9_may_37 0 rfl ?_
        refine g_bipush (pc := 38) X dX9_may_38 (by decide +kernel) ?_
        refine gc_Vxi (pc := 40) X (wr := [gA cI (a 0) 1140 A, gA cZ (a 1) 2 kp, gA cI (a 3) 6 lk_, gA cI (a 5) 60 sh, gA cI (a 12) 8 pi, gA cI (a 13) 8 th, gA cI (a 14) 8 fl, gA cI (a 15) 8 so_, gA cI (a 16) 8 fr, gA cI (a 17) 2048 le, gA cI (a 18) 41 lg, gA cI (a 19) 112 bg]) (c_X9_refuse l D cI cZ q a al at_ st so va fa pl sg su rf (-2) (by omega)) lm_X9_54 dX9_may_40 [0, 3] [1, 2, 4, 5, 6, 7, 8, 9, 10, 11, 12, 13] rfl rfl rfl rfl (by decide) rfl rfl rfl rfl rfl rfl (fun x40 hx40 => ?_)
        refine g_pick (cn := 0) (sl := 0) (st := gi (-2) :: []) X (ws' := [oM q a al at_ st so va fa pl sg su, gA cI (a 0) 1140 A, gA cZ (a 1) 2 kp, gA cI (a 2) 3 (gupd rf (-2 - (-2)) (rf (-2 - (-2)) + 1)), gA cI (a 3) 6 lk_, gA cI (a 5) 60 sh, gA cI (a 12) 8 pi, gA cI (a 13) 8 th, gA cI (a 14) 8 fl, gA cI (a 15) 8 so_, gA cI (a 16) 8 fr, gA cI (a 17) 2048 le, gA cI (a 18) 41 lg, gA cI (a 19) 112 bg]) [12, 0, 1, 13, 2, 3, 4, 5, 6, 7, 8, 9, 10, 11] rfl rfl ?_
        refine g_pop (pc := 43) X dX9_may_43 rfl ?_
        refine g_bipush (pc := 44) X dX9_may_44 (by decide +kernel) ?_
        exact ret _ _ _ _ _ _ dX9_may_46 rfl rfl (fun h => by cases h) (gPxi_e (_, _) (by rw [(show o_may A t m w b = (-10, 0) from if_neg (by omega))]) (by rw [(show o_may A t m w b = (-10, 0) from if_neg (by omega))]; rfl) trivial)
      · refine g_iload_n (pc := 27) X dX9_may_27 3 rfl ?_
        refine g_iconst (pc := 28) X dX9_may_28 ?_
        refine g_iload (pc := 29) X dX9_may_29 4 rfl ?_
        refine gc_Si (pc := 31) X (c_X9_in l D cI cZ w 1 b (by omega) (by omega) (by omega)) lm_X9_50 dX9_may_31 [] rfl rfl rfl rfl rfl rfl ?_
        refine g_ifneB (pc := 34) X 47 dX9_may_34 (by decide) (fun h34 => ?_) (fun h34 => ?_)
        · refine g_aload_n (pc := 47) X dX9_may_47 0 rfl ?_
          refine g_iload_n (pc := 48) X dX9_may_48 1 rfl ?_
          refine g_iconst (pc := 49) X dX9_may_49 ?_
          refine g_iconst (pc := 50) X dX9_may_50 ?_
          refine g_iconst (pc := 51) X dX9_may_51 ?_
          refine gc_Vxv (pc := 52) X (wr := [gA cZ (a 1) 2 kp, gA cI (a 2) 3 rf, gA cI (a 5) 60 sh, gA cI (a 12) 8 pi, gA cI (a 13) 8 th, gA cI (a 14) 8 fl, gA cI (a 15) 8 so_, gA cI (a 16) 8 fr, gA cI (a 17) 2048 le, gA cI (a 18) 41 lg, gA cI (a 19) 112 bg]) (c_X9_weigh l D cI cZ q a al at_ st so va fa pl sg su A lk_ t 0 (-1) 0 hA (by omega) (by omega) (by omega) (by omega)) lm_X9_89 dX9_may_52 [0, 1, 4] [2, 3, 5, 6, 7, 8, 9, 10, 11, 12, 13] rfl rfl rfl rfl (by decide) rfl rfl rfl rfl rfl rfl (fun x52 hx52 => ?_)
          generalize x52 = g_52 at hx52 ⊢
          have hg_52 : ∀ mm, 0 ≤ mm → mm < A 1 → g_52 mm = sLk A t mm 0 (-1) 0 := hx52
          refine g_pick (cn := 0) (sl := 0) (st := []) X (ws' := [oM q a (sTt A t 0 (-1) 0) at_ st so va fa pl sg su, gA cI (a 0) 1140 A, gA cZ (a 1) 2 kp, gA cI (a 2) 3 rf, gA cI (a 3) 6 g_52, gA cI (a 5) 60 sh, gA cI (a 12) 8 pi, gA cI (a 13) 8 th, gA cI (a 14) 8 fl, gA cI (a 15) 8 so_, gA cI (a 16) 8 fr, gA cI (a 17) 2048 le, gA cI (a 18) 41 lg, gA cI (a 19) 112 bg]) [11, 12, 0, 1, 13, 2, 3, 4, 5, 6, 7, 8, 9, 10] rfl rfl ?_
          refine g_aload_n (pc := 55) X dX9_may_55 0 rfl ?_
          refine g_get (pc := 56) X fl_X9_85 dX9_may_56 0 (v := gi (sTt A t 0 (-1) 0)) rfl rfl ?_
          refine g_top (b := sTot A t 0) sTt_0 ?_
          have hto := sTot_b hA (t := t) (far := 0) (by omega) (by omega)
          refine g_ifne (pc := 59) X 72 dX9_may_59 (by decide) (by omega) (fun h59 => ?_) (fun h59 => ?_)
          · have hlk := sLike_b hA (t := t) (m := m) (far := 0) (by omega) (by omega) (by omega)
            refine g_bipush (pc := 72) X dX9_may_72 (by decide +kernel) ?_
            refine g_istore (pc := 74) X (lv' := [(0, .ref q), (1, gi t), (2, gi m), (3, gi w), (4, gi b), (5, gi 9)]) dX9_may_74 rfl rfl ?_
            have L76 : ∀ (n76 : Nat) (i : Int) (z : Int) (e : Int → Int), (-1 ≤ i ∧ i ≤ 9) → (sMay A t m w b = gtst (fun l => w * (sTot A t 0 + sBon A l) ≤ (sLike A t m 0 + sBon A l) * b) (i + 1)) → (i + 1).toNat < n76 → V 0 0 [oM q a z at_ st so va fa pl sg su, gA cI (a 0) 1140 A, gA cZ (a 1) 2 kp, gA cI (a 2) 3 rf, gA cI (a 3) 6 e, gA cI (a 5) 60 sh, gA cI (a 12) 8 pi, gA cI (a 13) 8 th, gA cI (a 14) 8 fl, gA cI (a 15) 8 so_, gA cI (a 16) 8 fr, gA cI (a 17) 2048 le, gA cI (a 18) 41 lg, gA cI (a 19) 112 bg] 76 [(0, .ref q), (1, gi t), (2, gi m), (3, gi w), (4, gi b), (5, gi i)] [] := by
              intro n76
              induction n76 with
              | zero => intro i z e hi hx hn76; exact absurd hn76 (Nat.not_lt_zero _)
              | succ n76 ih76 =>
                intro i z e hi hx hn76
                refine g_iload (pc := 76) X dX9_may_76 5 rfl ?_
                refine g_iflt (pc := 78) X 117 dX9_may_78 (by decide) (by omega) (fun h78 => ?_) (fun h78 => ?_)
                · refine g_iconst (pc := 117) X dX9_may_117 ?_
                  exact ret _ _ _ _ _ _ dX9_may_118 rfl rfl (fun h => by cases h) (gPxi_e (_, _) (by rw [(show o_may A t m w b = (sMay A t m w b, -1) from (if_pos (by omega)).trans (if_neg h59))]; rw [hx]; first | rw [gtst_s (by omega) (by (try dsimp only); omega)] | (rw [show i = -1 by omega]; rfl)) (by rw [(show o_may A t m w b = (sMay A t m w b, -1) from (if_pos (by omega)).trans (if_neg h59))]; rfl) trivial)
                · refine g_aload_n (pc := 81) X dX9_may_81 0 rfl ?_
                  refine g_iload_n (pc := 82) X dX9_may_82 1 rfl ?_
                  refine g_iconst (pc := 83) X dX9_may_83 ?_
                  refine g_iload_n (pc := 84) X dX9_may_84 2 rfl ?_
                  refine g_iload (pc := 85) X dX9_may_85 5 rfl ?_
                  refine gc_Vxv (pc := 87) X (wr := [gA cZ (a 1) 2 kp, gA cI (a 2) 3 rf, gA cI (a 5) 60 sh, gA cI (a 12) 8 pi, gA cI (a 13) 8 th, gA cI (a 14) 8 fl, gA cI (a 15) 8 so_, gA cI (a 16) 8 fr, gA cI (a 17) 2048 le, gA cI (a 18) 41 lg, gA cI (a 19) 112 bg]) (c_X9_weigh l D cI cZ q a z at_ st so va fa pl sg su A e t 0 m i hA (by omega) (by omega) (by omega) (by omega)) lm_X9_89 dX9_may_87 [0, 1, 4] [2, 3, 5, 6, 7, 8, 9, 10, 11, 12, 13] rfl rfl rfl rfl (by decide) rfl rfl rfl rfl rfl rfl (fun x87 hx87 => ?_)
                  generalize x87 = g_87 at hx87 ⊢
                  have hg_87 : ∀ mm, 0 ≤ mm → mm < A 1 → g_87 mm = sLk A t mm 0 m i := hx87
                  refine g_pick (cn := 0) (sl := 0) (st := []) X (ws' := [oM q a (sTt A t 0 m i) at_ st so va fa pl sg su, gA cI (a 0) 1140 A, gA cZ (a 1) 2 kp, gA cI (a 2) 3 rf, gA cI (a 3) 6 g_87, gA cI (a 5) 60 sh, gA cI (a 12) 8 pi, gA cI (a 13) 8 th, gA cI (a 14) 8 fl, gA cI (a 15) 8 so_, gA cI (a 16) 8 fr, gA cI (a 17) 2048 le, gA cI (a 18) 41 lg, gA cI (a 19) 112 bg]) [11, 12, 0, 1, 13, 2, 3, 4, 5, 6, 7, 8, 9, 10] rfl rfl ?_
                  refine g_aload_n (pc := 90) X dX9_may_90 0 rfl ?_
                  refine g_get (pc := 91) X fl_X9_20 dX9_may_91 0 (v := .ref (a 3)) rfl rfl ?_
                  refine g_iload_n (pc := 94) X dX9_may_94 2 rfl ?_
                  refine g_iald (pc := 95) X dX9_may_95 4 rfl (by omega) rfl ?_
                  refine g_top (b := sLike A t m 0 + sBon A i) (by rw [hg_87 m (by omega) (by omega)]; unfold sLk; rw [if_pos rfl]) ?_
                  have hbn := sBon_b hA i
                  have hm1 := mulb (a := sLike A t m 0 + sBon A i) (b := b) (A := 3000) (B := 99) (by omega) (by omega)
                  have hm2 := mulb (a := w) (b := sTot A t 0 + sBon A i) (A := 99) (B := 8000) (by omega) (by omega)
                  refine g_iload (pc := 96) X dX9_may_96 4 rfl ?_
                  refine g_imul (pc := 98) X dX9_may_98 ?_
                  refine g_iload_n (pc := 99) X dX9_may_99 3 rfl ?_
                  refine g_aload_n (pc := 100) X dX9_may_100 0 rfl ?_
                  refine g_get (pc := 101) X fl_X9_85 dX9_may_101 0 (v := gi (sTt A t 0 m i)) rfl rfl ?_
                  refine g_top (b := sTot A t 0 + sBon A i) (sTt_s hA1.1 (by omega)) ?_
                  refine g_imul (pc := 104) X dX9_may_104 ?_
                  refine g_icmplt (pc := 105) X 111 dX9_may_105 (by decide) (by omega) (by omega) (fun h105 => ?_) (fun h105 => ?_)
                  · refine g_iinc (pc := 111) X (lv' := [(0, .ref q), (1, gi t), (2, gi m), (3, gi w), (4, gi b), (5, gi (i + (-1)))]) dX9_may_111 5 rfl rfl rfl ?_
                    refine g_goto (pc := 114) X 76 dX9_may_114 (by decide) ?_
                    exact ih76 _ _ _ (by omega) (by rw [hx, gtst_n (by omega) (by (try dsimp only); omega)]; exact congrArg _ (by omega)) (by omega)
                  · refine g_iload (pc := 108) X dX9_may_108 5 rfl ?_
                    exact ret _ _ _ _ _ _ dX9_may_110 rfl rfl (fun h => by cases h) (gPxi_e (_, _) (by rw [(show o_may A t m w b = (sMay A t m w b, -1) from (if_pos (by omega)).trans (if_neg h59))]; rw [hx]; first | rw [gtst_s (by omega) (by (try dsimp only); omega)] | (rw [show i = -1 by omega]; rfl)) (by rw [(show o_may A t m w b = (sMay A t m w b, -1) from (if_pos (by omega)).trans (if_neg h59))]; rfl) trivial)
            exact L76 _ _ _ _ (by omega) rfl (Nat.lt_succ_self _)
          · refine g_aload_n (pc := 62) X dX9_may_62 0 rfl ?_
            refine g_bipush (pc := 63) X dX9_may_63 (by decide +kernel) ?_
            refine gc_Vxi (pc := 65) X (wr := [gA cI (a 0) 1140 A, gA cZ (a 1) 2 kp, gA cI (a 3) 6 g_52, gA cI (a 5) 60 sh, gA cI (a 12) 8 pi, gA cI (a 13) 8 th, gA cI (a 14) 8 fl, gA cI (a 15) 8 so_, gA cI (a 16) 8 fr, gA cI (a 17) 2048 le, gA cI (a 18) 41 lg, gA cI (a 19) 112 bg]) (c_X9_refuse l D cI cZ q a (sTt A t 0 (-1) 0) at_ st so va fa pl sg su rf (-3) (by omega)) lm_X9_54 dX9_may_65 [0, 3] [1, 2, 4, 5, 6, 7, 8, 9, 10, 11, 12, 13] rfl rfl rfl rfl (by decide) rfl rfl rfl rfl rfl rfl (fun x65 hx65 => ?_)
            refine g_pick (cn := 0) (sl := 0) (st := gi (-3) :: []) X (ws' := [oM q a (sTt A t 0 (-1) 0) at_ st so va fa pl sg su, gA cI (a 0) 1140 A, gA cZ (a 1) 2 kp, gA cI (a 2) 3 (gupd rf (-2 - (-3)) (rf (-2 - (-3)) + 1)), gA cI (a 3) 6 g_52, gA cI (a 5) 60 sh, gA cI (a 12) 8 pi, gA cI (a 13) 8 th, gA cI (a 14) 8 fl, gA cI (a 15) 8 so_, gA cI (a 16) 8 fr, gA cI (a 17) 2048 le, gA cI (a 18) 41 lg, gA cI (a 19) 112 bg]) [12, 0, 1, 13, 2, 3, 4, 5, 6, 7, 8, 9, 10, 11] rfl rfl ?_
            refine g_pop (pc := 68) X dX9_may_68 rfl ?_
            refine g_bipush (pc := 69) X dX9_may_69 (by decide +kernel) ?_
            exact ret _ _ _ _ _ _ dX9_may_71 rfl rfl (fun h => by cases h) (gPxi_e (_, _) (by rw [(show o_may A t m w b = (-20, 1) from (if_pos (by omega)).trans (if_pos h59))]) (by rw [(show o_may A t m w b = (-20, 1) from (if_pos (by omega)).trans (if_pos h59))]; rfl) trivial)
        · refine g_aload_n (pc := 37) X dX9_may_37 0 rfl ?_
          refine g_bipush (pc := 38) X dX9_may_38 (by decide +kernel) ?_
          refine gc_Vxi (pc := 40) X (wr := [gA cI (a 0) 1140 A, gA cZ (a 1) 2 kp, gA cI (a 3) 6 lk_, gA cI (a 5) 60 sh, gA cI (a 12) 8 pi, gA cI (a 13) 8 th, gA cI (a 14) 8 fl, gA cI (a 15) 8 so_, gA cI (a 16) 8 fr, gA cI (a 17) 2048 le, gA cI (a 18) 41 lg, gA cI (a 19) 112 bg]) (c_X9_refuse l D cI cZ q a al at_ st so va fa pl sg su rf (-2) (by omega)) lm_X9_54 dX9_may_40 [0, 3] [1, 2, 4, 5, 6, 7, 8, 9, 10, 11, 12, 13] rfl rfl rfl rfl (by decide) rfl rfl rfl rfl rfl rfl (fun x40 hx40 => ?_)
          refine g_pick (cn := 0) (sl := 0) (st := gi (-2) :: []) X (ws' := [oM q a al at_ st so va fa pl sg su, gA cI (a 0) 1140 A, gA cZ (a 1) 2 kp, gA cI (a 2) 3 (gupd rf (-2 - (-2)) (rf (-2 - (-2)) + 1)), gA cI (a 3) 6 lk_, gA cI (a 5) 60 sh, gA cI (a 12) 8 pi, gA cI (a 13) 8 th, gA cI (a 14) 8 fl, gA cI (a 15) 8 so_, gA cI (a 16) 8 fr, gA cI (a 17) 2048 le, gA cI (a 18) 41 lg, gA cI (a 19) 112 bg]) [12, 0, 1, 13, 2, 3, 4, 5, 6, 7, 8, 9, 10, 11] rfl rfl ?_
          refine g_pop (pc := 43) X dX9_may_43 rfl ?_
          refine g_bipush (pc := 44) X dX9_may_44 (by decide +kernel) ?_
          exact ret _ _ _ _ _ _ dX9_may_46 rfl rfl (fun h => by cases h) (gPxi_e (_, _) (by rw [(show o_may A t m w b = (-10, 0) from if_neg (by omega))]) (by rw [(show o_may A t m w b = (-10, 0) from if_neg (by omega))]; rfl) trivial)

set_option maxHeartbeats 4000000 in
set_option maxRecDepth 100000 in
theorem c_X9_best (l : Launch) (D : va_G) (cI cZ : ClassId) (q : Nat) (a : Nat → Nat) (al : Int) (at_ : Int) (st : Int) (so : Int) (va : Int) (fa : Int) (pl : Int) (sg : Int) (su : Int) (A : Int → Int) (kp : Int → Int) (rf : Int → Int) (lk_ : Int → Int) (sh : Int → Int) (pi : Int → Int) (th : Int → Int) (fl : Int → Int) (so_ : Int → Int) (fr : Int → Int) (le : Int → Int) (lg : Int → Int) (bg : Int → Int) (m : Int) (hA : okA A) (hm : -2147483648 ≤ m ∧ m < 2147483648) : GM l D cI cZ yX9_best cX9_best 2 (some .int) ({ frames := 9, cells := 0, slots := 0, locals := 223 }) 0 0 false [.ref q, gi m] [oM q a al at_ st so va fa pl sg su, gA cI (a 0) 1140 A, gA cZ (a 1) 2 kp, gA cI (a 2) 3 rf, gA cI (a 3) 6 lk_, gA cI (a 5) 60 sh, gA cI (a 12) 8 pi, gA cI (a 13) 8 th, gA cI (a 14) 8 fl, gA cI (a 15) 8 so_, gA cI (a 16) 8 fr, gA cI (a 17) 2048 le, gA cI (a 18) 41 lg, gA cI (a 19) 112 bg] (gPxi (fun xo : (Int → Int) × (Int) => (o_best A m).1) (fun xo : (Int → Int) × (Int) => [oM q a xo.2 at_ st so va fa pl sg su, gA cI (a 0) 1140 A, gA cZ (a 1) 2 kp, gA cI (a 2) 3 (bump ((o_best A m).2) rf), gA cI (a 3) 6 xo.1, gA cI (a 5) 60 sh, gA cI (a 12) 8 pi, gA cI (a 13) 8 th, gA cI (a 14) 8 fl, gA cI (a 15) 8 so_, gA cI (a 16) 8 fr, gA cI (a 17) 2048 le, gA cI (a 18) 41 lg, gA cI (a 19) 112 bg]) (fun xo : (Int → Int) × (Int) => True)) := by
  refine g_enterI (z := false) (lv0 := [(0, .ref q), (1, gi m)]) _ rfl (by decide) rfl rfl (fun V X ret => ?_)
  have hA1 := okA_1 hA
  have hA0 := okA_0 hA
  have hpu := okA_pu hA
  refine g_aload_n (pc := 0) X dX9_best_0 0 rfl ?_
  refine g_iload_n (pc := 1) X dX9_best_1 1 rfl ?_
  refine gc_Vi (pc := 2) X (c_X9_isMeaning l D cI cZ q a al at_ st so va fa pl sg su A m hA (by omega)) lm_X9_62 dX9_best_2 [0, 1] rfl rfl rfl rfl rfl rfl rfl rfl ?_
  refine g_ifeqB (pc := 5) X 16 dX9_best_5 (by decide) (fun h5 => ?_) (fun h5 => ?_)
  · refine g_aload_n (pc := 16) X dX9_best_16 0 rfl ?_
    refine g_bipush (pc := 17) X dX9_best_17 (by decide +kernel) ?_
    refine gc_Vxi (pc := 19) X (wr := [gA cI (a 0) 1140 A, gA cZ (a 1) 2 kp, gA cI (a 3) 6 lk_, gA cI (a 5) 60 sh, gA cI (a 12) 8 pi, gA cI (a 13) 8 th, gA cI (a 14) 8 fl, gA cI (a 15) 8 so_, gA cI (a 16) 8 fr, gA cI (a 17) 2048 le, gA cI (a 18) 41 lg, gA cI (a 19) 112 bg]) (c_X9_refuse l D cI cZ q a al at_ st so va fa pl sg su rf (-2) (by omega)) lm_X9_54 dX9_best_19 [0, 3] [1, 2, 4, 5, 6, 7, 8, 9, 10, 11, 12, 13] rfl rfl rfl rfl (by decide) rfl rfl rfl rfl rfl rfl (fun x19 hx19 => ?_)
    refine g_pick (cn := 0) (sl := 0) (st := gi (-2) :: []) X (ws' := [oM q a al at_ st so va fa pl sg su, gA cI (a 0) 1140 A, gA cZ (a 1) 2 kp, gA cI (a 2) 3 (gupd rf (-2 - (-2)) (rf (-2 - (-2)) + 1)), gA cI (a 3) 6 lk_, gA cI (a 5) 60 sh, gA cI (a 12) 8 pi, gA cI (a 13) 8 th, gA cI (a 14) 8 fl, gA cI (a 15) 8 so_, gA cI (a 16) 8 fr, gA cI (a 17) 2048 le, gA cI (a 18) 41 lg, gA cI (a 19) 112 bg]) [12, 0, 1, 13, 2, 3, 4, 5, 6, 7, 8, 9, 10, 11] rfl rfl ?_
    exact ret _ _ _ _ _ _ dX9_best_22 rfl rfl (fun h => by cases h) (gPxi_e (_, _) (by rw [(show o_best A m = (-2, 0) from if_neg (by omega))]) (by rw [(show o_best A m = (-2, 0) from if_neg (by omega))]; rfl) trivial)
  · refine g_aload_n (pc := 8) X dX9_best_8 0 rfl ?_
    refine g_iload_n (pc := 9) X dX9_best_9 1 rfl ?_
    refine gc_Vxi (pc := 10) X (wr := [gA cZ (a 1) 2 kp, gA cI (a 2) 3 rf, gA cI (a 5) 60 sh, gA cI (a 12) 8 pi, gA cI (a 13) 8 th, gA cI (a 14) 8 fl, gA cI (a 15) 8 so_, gA cI (a 16) 8 fr, gA cI (a 17) 2048 le, gA cI (a 18) 41 lg, gA cI (a 19) 112 bg]) (c_X9_bestOf l D cI cZ q a al at_ st so va fa pl sg su A lk_ m hA (by omega)) lm_X9_109 dX9_best_10 [0, 1, 4] [2, 3, 5, 6, 7, 8, 9, 10, 11, 12, 13] rfl rfl rfl rfl (by decide) rfl rfl rfl rfl rfl rfl (fun x10 hx10 => ?_)
    obtain ⟨g_10, al2_10⟩ := x10
    refine g_pick (cn := 0) (sl := 0) (st := gi (sBest A m) :: []) X (ws' := [oM q a al2_10 at_ st so va fa pl sg su, gA cI (a 0) 1140 A, gA cZ (a 1) 2 kp, gA cI (a 2) 3 rf, gA cI (a 3) 6 g_10, gA cI (a 5) 60 sh, gA cI (a 12) 8 pi, gA cI (a 13) 8 th, gA cI (a 14) 8 fl, gA cI (a 15) 8 so_, gA cI (a 16) 8 fr, gA cI (a 17) 2048 le, gA cI (a 18) 41 lg, gA cI (a 19) 112 bg]) [11, 12, 0, 1, 13, 2, 3, 4, 5, 6, 7, 8, 9, 10] rfl rfl ?_
    refine g_goto (pc := 13) X 22 dX9_best_13 (by decide) ?_
    exact ret _ _ _ _ _ _ dX9_best_22 rfl rfl (fun h => by cases h) (gPxi_e (_, _) (by rw [(show o_best A m = (sBest A m, -1) from if_pos (by omega))]) (by rw [(show o_best A m = (sBest A m, -1) from if_pos (by omega))]; rfl) trivial)

set_option maxHeartbeats 4000000 in
set_option maxRecDepth 100000 in
theorem c_X9_truer (l : Launch) (D : va_G) (cI cZ : ClassId) (q : Nat) (a : Nat → Nat) (al : Int) (at_ : Int) (st : Int) (so : Int) (va : Int) (fa : Int) (pl : Int) (sg : Int) (su : Int) (A : Int → Int) (kp : Int → Int) (rf : Int → Int) (lk_ : Int → Int) (sh : Int → Int) (pi : Int → Int) (th : Int → Int) (fl : Int → Int) (so_ : Int → Int) (fr : Int → Int) (le : Int → Int) (lg : Int → Int) (bg : Int → Int) (m : Int) (x : Int) (y : Int) (hA : okA A) (hm : -2147483648 ≤ m ∧ m < 2147483648) (hx : -2147483648 ≤ x ∧ x < 2147483648) (hy : -2147483648 ≤ y ∧ y < 2147483648) : GM l D cI cZ yX9_truer cX9_truer 4 (some .int) ({ frames := 8, cells := 0, slots := 0, locals := 200 }) 0 0 false [.ref q, gi m, gi x, gi y] [oM q a al at_ st so va fa pl sg su, gA cI (a 0) 1140 A, gA cZ (a 1) 2 kp, gA cI (a 2) 3 rf, gA cI (a 3) 6 lk_, gA cI (a 5) 60 sh, gA cI (a 12) 8 pi, gA cI (a 13) 8 th, gA cI (a 14) 8 fl, gA cI (a 15) 8 so_, gA cI (a 16) 8 fr, gA cI (a 17) 2048 le, gA cI (a 18) 41 lg, gA cI (a 19) 112 bg] (gPxi (fun xo : (Int → Int) × (Int) => (o_truer A m x y).1) (fun xo : (Int → Int) × (Int) => [oM q a xo.2 at_ st so va fa pl sg su, gA cI (a 0) 1140 A, gA cZ (a 1) 2 kp, gA cI (a 2) 3 (bump ((o_truer A m x y).2) rf), gA cI (a 3) 6 xo.1, gA cI (a 5) 60 sh, gA cI (a 12) 8 pi, gA cI (a 13) 8 th, gA cI (a 14) 8 fl, gA cI (a 15) 8 so_, gA cI (a 16) 8 fr, gA cI (a 17) 2048 le, gA cI (a 18) 41 lg, gA cI (a 19) 112 bg]) (fun xo : (Int → Int) × (Int) => True)) := by
  refine g_enterI (z := false) (lv0 := [(0, .ref q), (1, gi m), (2, gi x), (3, gi y)]) _ rfl (by decide) rfl rfl (fun V X ret => ?_)
  have hA1 := okA_1 hA
  have hA0 := okA_0 hA
  have hpu := okA_pu hA
  refine g_aload_n (pc := 0) X dX9_truer_0 0 rfl ?_
  refine g_iload_n (pc := 1) X dX9_truer_1 1 rfl ?_
  refine gc_Vi (pc := 2) X (c_X9_isMeaning l D cI cZ q a al at_ st so va fa pl sg su A m hA (by omega)) lm_X9_62 dX9_truer_2 [0, 1] rfl rfl rfl rfl rfl rfl rfl rfl ?_
  refine g_ifeqB (pc := 5) X 29 dX9_truer_5 (by decide) (fun h5 => ?_) (fun h5 => ?_)
  · refine g_aload_n (pc := 29) X dX9_truer_29 0 rfl ?_
    refine g_bipush (pc := 30) X dX9_truer_30 (by decide +kernel) ?_
    refine gc_Vxi (pc := 32) X (wr := [gA cI (a 0) 1140 A, gA cZ (a 1) 2 kp, gA cI (a 3) 6 lk_, gA cI (a 5) 60 sh, gA cI (a 12) 8 pi, gA cI (a 13) 8 th, gA cI (a 14) 8 fl, gA cI (a 15) 8 so_, gA cI (a 16) 8 fr, gA cI (a 17) 2048 le, gA cI (a 18) 41 lg, gA cI (a 19) 112 bg]) (c_X9_refuse l D cI cZ q a al at_ st so va fa pl sg su rf (-2) (by omega)) lm_X9_54 dX9_truer_32 [0, 3] [1, 2, 4, 5, 6, 7, 8, 9, 10, 11, 12, 13] rfl rfl rfl rfl (by decide) rfl rfl rfl rfl rfl rfl (fun x32 hx32 => ?_)
    refine g_pick (cn := 0) (sl := 0) (st := gi (-2) :: []) X (ws' := [oM q a al at_ st so va fa pl sg su, gA cI (a 0) 1140 A, gA cZ (a 1) 2 kp, gA cI (a 2) 3 (gupd rf (-2 - (-2)) (rf (-2 - (-2)) + 1)), gA cI (a 3) 6 lk_, gA cI (a 5) 60 sh, gA cI (a 12) 8 pi, gA cI (a 13) 8 th, gA cI (a 14) 8 fl, gA cI (a 15) 8 so_, gA cI (a 16) 8 fr, gA cI (a 17) 2048 le, gA cI (a 18) 41 lg, gA cI (a 19) 112 bg]) [12, 0, 1, 13, 2, 3, 4, 5, 6, 7, 8, 9, 10, 11] rfl rfl ?_
    exact ret _ _ _ _ _ _ dX9_truer_35 rfl rfl (fun h => by cases h) (gPxi_e (_, _) (by rw [(show o_truer A m x y = (-2, 0) from if_neg (by omega))]) (by rw [(show o_truer A m x y = (-2, 0) from if_neg (by omega))]; rfl) trivial)
  · refine g_aload_n (pc := 8) X dX9_truer_8 0 rfl ?_
    refine g_iload_n (pc := 9) X dX9_truer_9 2 rfl ?_
    refine gc_Vi (pc := 10) X (c_X9_isThing l D cI cZ q a al at_ st so va fa pl sg su A x hA (by omega)) lm_X9_58 dX9_truer_10 [0, 1] rfl rfl rfl rfl rfl rfl rfl rfl ?_
    refine g_ifeqB (pc := 13) X 29 dX9_truer_13 (by decide) (fun h13 => ?_) (fun h13 => ?_)
    · refine g_aload_n (pc := 29) X dX9_truer_29 0 rfl ?_
      refine g_bipush (pc := 30) X dX9_truer_30 (by decide +kernel) ?_
      refine gc_Vxi (pc := 32) X (wr := [gA cI (a 0) 1140 A, gA cZ (a 1) 2 kp, gA cI (a 3) 6 lk_, gA cI (a 5) 60 sh, gA cI (a 12) 8 pi, gA cI (a 13) 8 th, gA cI (a 14) 8 fl, gA cI (a 15) 8 so_, gA cI (a 16) 8 fr, gA cI (a 17) 2048 le, gA cI (a 18) 41 lg, gA cI (a 19) 112 bg]) (c_X9_refuse l D cI cZ q a al at_ st so va fa pl sg su rf (-2) (by omega)) lm_X9_54 dX9_truer_32 [0, 3] [1, 2, 4, 5, 6, 7, 8, 9, 10, 11, 12, 13] rfl rfl rfl rfl (by decide) rfl rfl rfl rfl rfl rfl (fun x32 hx32 => ?_)
      refine g_pick (cn := 0) (sl := 0) (st := gi (-2) :: []) X (ws' := [oM q a al at_ st so va fa pl sg su, gA cI (a 0) 1140 A, gA cZ (a 1) 2 kp, gA cI (a 2) 3 (gupd rf (-2 - (-2)) (rf (-2 - (-2)) + 1)), gA cI (a 3) 6 lk_, gA cI (a 5) 60 sh, gA cI (a 12) 8 pi, gA cI (a 13) 8 th, gA cI (a 14) 8 fl, gA cI (a 15) 8 so_, gA cI (a 16) 8 fr, gA cI (a 17) 2048 le, gA cI (a 18) 41 lg, gA cI (a 19) 112 bg]) [12, 0, 1, 13, 2, 3, 4, 5, 6, 7, 8, 9, 10, 11] rfl rfl ?_
      exact ret _ _ _ _ _ _ dX9_truer_35 rfl rfl (fun h => by cases h) (gPxi_e (_, _) (by rw [(show o_truer A m x y = (-2, 0) from if_neg (by omega))]) (by rw [(show o_truer A m x y = (-2, 0) from if_neg (by omega))]; rfl) trivial)
    · refine g_aload_n (pc := 16) X dX9_truer_16 0 rfl ?_
      refine g_iload_n (pc := 17) X dX9_truer_17 3 rfl ?_
      refine gc_Vi (pc := 18) X (c_X9_isThing l D cI cZ q a al at_ st so va fa pl sg su A y hA (by omega)) lm_X9_58 dX9_truer_18 [0, 1] rfl rfl rfl rfl rfl rfl rfl rfl ?_
      refine g_ifeqB (pc := 21) X 29 dX9_truer_21 (by decide) (fun h21 => ?_) (fun h21 => ?_)
      · refine g_aload_n (pc := 29) X dX9_truer_29 0 rfl ?_
        refine g_bipush (pc := 30) X dX9_truer_30 (by decide +kernel) ?_
        refine gc_Vxi (pc := 32) X (wr := [gA cI (a 0) 1140 A, gA cZ (a 1) 2 kp, gA cI (a 3) 6 lk_, gA cI (a 5) 60 sh, gA cI (a 12) 8 pi, gA cI (a 13) 8 th, gA cI (a 14) 8 fl, gA cI (a 15) 8 so_, gA cI (a 16) 8 fr, gA cI (a 17) 2048 le, gA cI (a 18) 41 lg, gA cI (a 19) 112 bg]) (c_X9_refuse l D cI cZ q a al at_ st so va fa pl sg su rf (-2) (by omega)) lm_X9_54 dX9_truer_32 [0, 3] [1, 2, 4, 5, 6, 7, 8, 9, 10, 11, 12, 13] rfl rfl rfl rfl (by decide) rfl rfl rfl rfl rfl rfl (fun x32 hx32 => ?_)
        refine g_pick (cn := 0) (sl := 0) (st := gi (-2) :: []) X (ws' := [oM q a al at_ st so va fa pl sg su, gA cI (a 0) 1140 A, gA cZ (a 1) 2 kp, gA cI (a 2) 3 (gupd rf (-2 - (-2)) (rf (-2 - (-2)) + 1)), gA cI (a 3) 6 lk_, gA cI (a 5) 60 sh, gA cI (a 12) 8 pi, gA cI (a 13) 8 th, gA cI (a 14) 8 fl, gA cI (a 15) 8 so_, gA cI (a 16) 8 fr, gA cI (a 17) 2048 le, gA cI (a 18) 41 lg, gA cI (a 19) 112 bg]) [12, 0, 1, 13, 2, 3, 4, 5, 6, 7, 8, 9, 10, 11] rfl rfl ?_
        exact ret _ _ _ _ _ _ dX9_truer_35 rfl rfl (fun h => by cases h) (gPxi_e (_, _) (by rw [(show o_truer A m x y = (-2, 0) from if_neg (by omega))]) (by rw [(show o_truer A m x y = (-2, 0) from if_neg (by omega))]; rfl) trivial)
      · refine g_iload_n (pc := 24) X dX9_truer_24 2 rfl ?_
        refine g_iload_n (pc := 25) X dX9_truer_25 3 rfl ?_
        refine g_icmpne (pc := 26) X 36 dX9_truer_26 (by decide) (by omega) (by omega) (fun h26 => ?_) (fun h26 => ?_)
        · refine g_aload_n (pc := 36) X dX9_truer_36 0 rfl ?_
          refine g_iload_n (pc := 37) X dX9_truer_37 1 rfl ?_
          refine g_iload_n (pc := 38) X dX9_truer_38 3 rfl ?_
          refine g_iload_n (pc := 39) X dX9_truer_39 2 rfl ?_
          refine gc_Vxi (pc := 40) X (wr := [gA cZ (a 1) 2 kp, gA cI (a 2) 3 rf, gA cI (a 5) 60 sh, gA cI (a 12) 8 pi, gA cI (a 13) 8 th, gA cI (a 14) 8 fl, gA cI (a 15) 8 so_, gA cI (a 16) 8 fr, gA cI (a 17) 2048 le, gA cI (a 18) 41 lg, gA cI (a 19) 112 bg]) (c_X9_isMore l D cI cZ q a al at_ st so va fa pl sg su A lk_ m y x hA (by omega) (by omega) (by omega)) lm_X9_106 dX9_truer_40 [0, 1, 4] [2, 3, 5, 6, 7, 8, 9, 10, 11, 12, 13] rfl rfl rfl rfl (by decide) rfl rfl rfl rfl rfl rfl (fun x40 hx40 => ?_)
          obtain ⟨g_40, al2_40⟩ := x40
          refine g_pick (cn := 0) (sl := 0) (st := gi (sMoreB A m y x) :: []) X (ws' := [oM q a al2_40 at_ st so va fa pl sg su, gA cI (a 0) 1140 A, gA cZ (a 1) 2 kp, gA cI (a 2) 3 rf, gA cI (a 3) 6 g_40, gA cI (a 5) 60 sh, gA cI (a 12) 8 pi, gA cI (a 13) 8 th, gA cI (a 14) 8 fl, gA cI (a 15) 8 so_, gA cI (a 16) 8 fr, gA cI (a 17) 2048 le, gA cI (a 18) 41 lg, gA cI (a 19) 112 bg]) [11, 12, 0, 1, 13, 2, 3, 4, 5, 6, 7, 8, 9, 10] rfl rfl ?_
          refine g_ifeq (pc := 43) X 50 dX9_truer_43 (by decide) (by have := sMoreB_n A m y x; omega) (fun h43 => ?_) (fun h43 => ?_)
          · refine g_iload_n (pc := 50) X dX9_truer_50 2 rfl ?_
            exact ret _ _ _ _ _ _ dX9_truer_51 rfl rfl (fun h => by cases h) (gPxi_e (_, _) (by rw [(show o_truer A m x y = (if sMoreB A m y x = 1 then y else x, -1) from if_pos (by omega))]; (have := sMoreB_n A m y x); (try dsimp only); first | rw [if_pos (by omega)] | rw [if_neg (by omega)]) (by rw [(show o_truer A m x y = (if sMoreB A m y x = 1 then y else x, -1) from if_pos (by omega))]; rfl) trivial)
          · refine g_iload_n (pc := 46) X dX9_truer_46 3 rfl ?_
            refine g_goto (pc := 47) X 51 dX9_truer_47 (by decide) ?_
            exact ret _ _ _ _ _ _ dX9_truer_51 rfl rfl (fun h => by cases h) (gPxi_e (_, _) (by rw [(show o_truer A m x y = (if sMoreB A m y x = 1 then y else x, -1) from if_pos (by omega))]; (have := sMoreB_n A m y x); (try dsimp only); first | rw [if_pos (by omega)] | rw [if_neg (by omega)]) (by rw [(show o_truer A m x y = (if sMoreB A m y x = 1 then y else x, -1) from if_pos (by omega))]; rfl) trivial)
        · refine g_aload_n (pc := 29) X dX9_truer_29 0 rfl ?_
          refine g_bipush (pc := 30) X dX9_truer_30 (by decide +kernel) ?_
          refine gc_Vxi (pc := 32) X (wr := [gA cI (a 0) 1140 A, gA cZ (a 1) 2 kp, gA cI (a 3) 6 lk_, gA cI (a 5) 60 sh, gA cI (a 12) 8 pi, gA cI (a 13) 8 th, gA cI (a 14) 8 fl, gA cI (a 15) 8 so_, gA cI (a 16) 8 fr, gA cI (a 17) 2048 le, gA cI (a 18) 41 lg, gA cI (a 19) 112 bg]) (c_X9_refuse l D cI cZ q a al at_ st so va fa pl sg su rf (-2) (by omega)) lm_X9_54 dX9_truer_32 [0, 3] [1, 2, 4, 5, 6, 7, 8, 9, 10, 11, 12, 13] rfl rfl rfl rfl (by decide) rfl rfl rfl rfl rfl rfl (fun x32 hx32 => ?_)
          refine g_pick (cn := 0) (sl := 0) (st := gi (-2) :: []) X (ws' := [oM q a al at_ st so va fa pl sg su, gA cI (a 0) 1140 A, gA cZ (a 1) 2 kp, gA cI (a 2) 3 (gupd rf (-2 - (-2)) (rf (-2 - (-2)) + 1)), gA cI (a 3) 6 lk_, gA cI (a 5) 60 sh, gA cI (a 12) 8 pi, gA cI (a 13) 8 th, gA cI (a 14) 8 fl, gA cI (a 15) 8 so_, gA cI (a 16) 8 fr, gA cI (a 17) 2048 le, gA cI (a 18) 41 lg, gA cI (a 19) 112 bg]) [12, 0, 1, 13, 2, 3, 4, 5, 6, 7, 8, 9, 10, 11] rfl rfl ?_
          exact ret _ _ _ _ _ _ dX9_truer_35 rfl rfl (fun h => by cases h) (gPxi_e (_, _) (by rw [(show o_truer A m x y = (-2, 0) from if_neg (by omega))]) (by rw [(show o_truer A m x y = (-2, 0) from if_neg (by omega))]; rfl) trivial)

set_option maxHeartbeats 4000000 in
set_option maxRecDepth 100000 in
theorem c_X9_serves (l : Launch) (D : va_G) (cI cZ : ClassId) (q : Nat) (a : Nat → Nat) (al : Int) (at_ : Int) (st : Int) (so : Int) (va : Int) (fa : Int) (pl : Int) (sg : Int) (su : Int) (A : Int → Int) (kp : Int → Int) (rf : Int → Int) (lk_ : Int → Int) (sh : Int → Int) (pi : Int → Int) (th : Int → Int) (fl : Int → Int) (so_ : Int → Int) (fr : Int → Int) (le : Int → Int) (lg : Int → Int) (bg : Int → Int) (s : Int) (m : Int) (hA : okA A) (hs : -2147483648 ≤ s ∧ s < 2147483648) (hm : -2147483648 ≤ m ∧ m < 2147483648) : GM l D cI cZ yX9_serves cX9_serves 3 (some .int) ({ frames := 8, cells := 0, slots := 0, locals := 199 }) 0 0 false [.ref q, gi s, gi m] [oM q a al at_ st so va fa pl sg su, gA cI (a 0) 1140 A, gA cZ (a 1) 2 kp, gA cI (a 2) 3 rf, gA cI (a 3) 6 lk_, gA cI (a 5) 60 sh, gA cI (a 12) 8 pi, gA cI (a 13) 8 th, gA cI (a 14) 8 fl, gA cI (a 15) 8 so_, gA cI (a 16) 8 fr, gA cI (a 17) 2048 le, gA cI (a 18) 41 lg, gA cI (a 19) 112 bg] (gPxi (fun xo : (Int → Int) × (Int) => (o_serves A s m).1) (fun xo : (Int → Int) × (Int) => [oM q a xo.2 at_ st so va fa pl sg su, gA cI (a 0) 1140 A, gA cZ (a 1) 2 kp, gA cI (a 2) 3 (bump ((o_serves A s m).2) rf), gA cI (a 3) 6 xo.1, gA cI (a 5) 60 sh, gA cI (a 12) 8 pi, gA cI (a 13) 8 th, gA cI (a 14) 8 fl, gA cI (a 15) 8 so_, gA cI (a 16) 8 fr, gA cI (a 17) 2048 le, gA cI (a 18) 41 lg, gA cI (a 19) 112 bg]) (fun xo : (Int → Int) × (Int) => True)) := by
  refine g_enterI (z := false) (lv0 := [(0, .ref q), (1, gi s), (2, gi m)]) _ rfl (by decide) rfl rfl (fun V X ret => ?_)
  have hA1 := okA_1 hA
  have hA0 := okA_0 hA
  have hpu := okA_pu hA
  refine g_iload_n (pc := 0) X dX9_serves_0 1 rfl ?_
  refine g_iconst (pc := 1) X dX9_serves_1 ?_
  refine g_iconst (pc := 2) X dX9_serves_2 ?_
  refine g_aload_n (pc := 3) X dX9_serves_3 0 rfl ?_
  refine g_get (pc := 4) X fl_X9_7 dX9_serves_4 0 (v := .ref (a 0)) rfl rfl ?_
  refine g_iconst (pc := 7) X dX9_serves_7 ?_
  refine g_iald (pc := 8) X dX9_serves_8 1 rfl (by omega) rfl ?_
  refine g_ishl (pc := 9) X dX9_serves_9 (by omega) (by omega) (by have := pw_b (k := A 0) (c := 10) (C := 1024) rfl (by omega); omega) ?_
  refine g_iconst (pc := 10) X dX9_serves_10 ?_
  have hpw := pw_b (k := A 0) (c := 10) (C := 1024) rfl (by omega)
  refine g_isub (pc := 11) X dX9_serves_11 ?_
  refine gc_Si (pc := 12) X (c_X9_in l D cI cZ s 0 (1 * (2 ^ (A 0).toNat) - 1) (by omega) (by omega) (by omega)) lm_X9_50 dX9_serves_12 [] rfl rfl rfl rfl rfl rfl ?_
  refine g_ifeqB (pc := 15) X 35 dX9_serves_15 (by decide) (fun h15 => ?_) (fun h15 => ?_)
  · refine g_aload_n (pc := 35) X dX9_serves_35 0 rfl ?_
    refine g_bipush (pc := 36) X dX9_serves_36 (by decide +kernel) ?_
    refine gc_Vxi (pc := 38) X (wr := [gA cI (a 0) 1140 A, gA cZ (a 1) 2 kp, gA cI (a 3) 6 lk_, gA cI (a 5) 60 sh, gA cI (a 12) 8 pi, gA cI (a 13) 8 th, gA cI (a 14) 8 fl, gA cI (a 15) 8 so_, gA cI (a 16) 8 fr, gA cI (a 17) 2048 le, gA cI (a 18) 41 lg, gA cI (a 19) 112 bg]) (c_X9_refuse l D cI cZ q a al at_ st so va fa pl sg su rf (-2) (by omega)) lm_X9_54 dX9_serves_38 [0, 3] [1, 2, 4, 5, 6, 7, 8, 9, 10, 11, 12, 13] rfl rfl rfl rfl (by decide) rfl rfl rfl rfl rfl rfl (fun x38 hx38 => ?_)
    refine g_pick (cn := 0) (sl := 0) (st := gi (-2) :: []) X (ws' := [oM q a al at_ st so va fa pl sg su, gA cI (a 0) 1140 A, gA cZ (a 1) 2 kp, gA cI (a 2) 3 (gupd rf (-2 - (-2)) (rf (-2 - (-2)) + 1)), gA cI (a 3) 6 lk_, gA cI (a 5) 60 sh, gA cI (a 12) 8 pi, gA cI (a 13) 8 th, gA cI (a 14) 8 fl, gA cI (a 15) 8 so_, gA cI (a 16) 8 fr, gA cI (a 17) 2048 le, gA cI (a 18) 41 lg, gA cI (a 19) 112 bg]) [12, 0, 1, 13, 2, 3, 4, 5, 6, 7, 8, 9, 10, 11] rfl rfl ?_
    exact ret _ _ _ _ _ _ dX9_serves_41 rfl rfl (fun h => by cases h) (gPxi_e (_, _) (by rw [(show o_serves A s m = (-2, 0) from if_neg (by omega))]) (by rw [(show o_serves A s m = (-2, 0) from if_neg (by omega))]; rfl) trivial)
  · refine g_aload_n (pc := 18) X dX9_serves_18 0 rfl ?_
    refine g_iload_n (pc := 19) X dX9_serves_19 2 rfl ?_
    refine gc_Vi (pc := 20) X (c_X9_isMeaning l D cI cZ q a al at_ st so va fa pl sg su A m hA (by omega)) lm_X9_62 dX9_serves_20 [0, 1] rfl rfl rfl rfl rfl rfl rfl rfl ?_
    refine g_ifeqB (pc := 23) X 35 dX9_serves_23 (by decide) (fun h23 => ?_) (fun h23 => ?_)
    · refine g_aload_n (pc := 35) X dX9_serves_35 0 rfl ?_
      refine g_bipush (pc := 36) X dX9_serves_36 (by decide +kernel) ?_
      refine gc_Vxi (pc := 38) X (wr := [gA cI (a 0) 1140 A, gA cZ (a 1) 2 kp, gA cI (a 3) 6 lk_, gA cI (a 5) 60 sh, gA cI (a 12) 8 pi, gA cI (a 13) 8 th, gA cI (a 14) 8 fl, gA cI (a 15) 8 so_, gA cI (a 16) 8 fr, gA cI (a 17) 2048 le, gA cI (a 18) 41 lg, gA cI (a 19) 112 bg]) (c_X9_refuse l D cI cZ q a al at_ st so va fa pl sg su rf (-2) (by omega)) lm_X9_54 dX9_serves_38 [0, 3] [1, 2, 4, 5, 6, 7, 8, 9, 10, 11, 12, 13] rfl rfl rfl rfl (by decide) rfl rfl rfl rfl rfl rfl (fun x38 hx38 => ?_)
      refine g_pick (cn := 0) (sl := 0) (st := gi (-2) :: []) X (ws' := [oM q a al at_ st so va fa pl sg su, gA cI (a 0) 1140 A, gA cZ (a 1) 2 kp, gA cI (a 2) 3 (gupd rf (-2 - (-2)) (rf (-2 - (-2)) + 1)), gA cI (a 3) 6 lk_, gA cI (a 5) 60 sh, gA cI (a 12) 8 pi, gA cI (a 13) 8 th, gA cI (a 14) 8 fl, gA cI (a 15) 8 so_, gA cI (a 16) 8 fr, gA cI (a 17) 2048 le, gA cI (a 18) 41 lg, gA cI (a 19) 112 bg]) [12, 0, 1, 13, 2, 3, 4, 5, 6, 7, 8, 9, 10, 11] rfl rfl ?_
      exact ret _ _ _ _ _ _ dX9_serves_41 rfl rfl (fun h => by cases h) (gPxi_e (_, _) (by rw [(show o_serves A s m = (-2, 0) from if_neg (by omega))]) (by rw [(show o_serves A s m = (-2, 0) from if_neg (by omega))]; rfl) trivial)
    · refine g_aload_n (pc := 26) X dX9_serves_26 0 rfl ?_
      refine g_iload_n (pc := 27) X dX9_serves_27 1 rfl ?_
      refine g_iload_n (pc := 28) X dX9_serves_28 2 rfl ?_
      refine gc_Vxi (pc := 29) X (wr := [gA cZ (a 1) 2 kp, gA cI (a 2) 3 rf, gA cI (a 5) 60 sh, gA cI (a 12) 8 pi, gA cI (a 13) 8 th, gA cI (a 14) 8 fl, gA cI (a 15) 8 so_, gA cI (a 16) 8 fr, gA cI (a 17) 2048 le, gA cI (a 18) 41 lg, gA cI (a 19) 112 bg]) (c_X9_servesOf l D cI cZ q a al at_ st so va fa pl sg su A lk_ s m hA (by omega) (by omega)) lm_X9_112 dX9_serves_29 [0, 1, 4] [2, 3, 5, 6, 7, 8, 9, 10, 11, 12, 13] rfl rfl rfl rfl (by decide) rfl rfl rfl rfl rfl rfl (fun x29 hx29 => ?_)
      obtain ⟨g_29, al2_29⟩ := x29
      refine g_pick (cn := 0) (sl := 0) (st := gi (sServ A s m) :: []) X (ws' := [oM q a al2_29 at_ st so va fa pl sg su, gA cI (a 0) 1140 A, gA cZ (a 1) 2 kp, gA cI (a 2) 3 rf, gA cI (a 3) 6 g_29, gA cI (a 5) 60 sh, gA cI (a 12) 8 pi, gA cI (a 13) 8 th, gA cI (a 14) 8 fl, gA cI (a 15) 8 so_, gA cI (a 16) 8 fr, gA cI (a 17) 2048 le, gA cI (a 18) 41 lg, gA cI (a 19) 112 bg]) [11, 12, 0, 1, 13, 2, 3, 4, 5, 6, 7, 8, 9, 10] rfl rfl ?_
      refine g_goto (pc := 32) X 41 dX9_serves_32 (by decide) ?_
      exact ret _ _ _ _ _ _ dX9_serves_41 rfl rfl (fun h => by cases h) (gPxi_e (_, _) (by rw [(show o_serves A s m = (sServ A s m, -1) from if_pos (by omega))]) (by rw [(show o_serves A s m = (sServ A s m, -1) from if_pos (by omega))]; rfl) trivial)

set_option maxHeartbeats 4000000 in
set_option maxRecDepth 100000 in
theorem c_X9_cupboard (l : Launch) (D : va_G) (cI cZ : ClassId) (q : Nat) (a : Nat → Nat) (al : Int) (at_ : Int) (st : Int) (so : Int) (va : Int) (fa : Int) (pl : Int) (sg : Int) (su : Int) (A : Int → Int) (kp : Int → Int) (rf : Int → Int) (lk_ : Int → Int) (sh : Int → Int) (pi : Int → Int) (th : Int → Int) (fl : Int → Int) (so_ : Int → Int) (fr : Int → Int) (le : Int → Int) (lg : Int → Int) (bg : Int → Int) (k : Int) (hA : okA A) (hk : -2147483648 ≤ k ∧ k < 2147483648) : GM l D cI cZ yX9_cupboard cX9_cupboard 6 (some .int) ({ frames := 8, cells := 0, slots := 0, locals := 199 }) 0 0 false [.ref q, gi k] [oM q a al at_ st so va fa pl sg su, gA cI (a 0) 1140 A, gA cZ (a 1) 2 kp, gA cI (a 2) 3 rf, gA cI (a 3) 6 lk_, gA cI (a 5) 60 sh, gA cI (a 12) 8 pi, gA cI (a 13) 8 th, gA cI (a 14) 8 fl, gA cI (a 15) 8 so_, gA cI (a 16) 8 fr, gA cI (a 17) 2048 le, gA cI (a 18) 41 lg, gA cI (a 19) 112 bg] (gPxi (fun xo : (Int → Int) × (Int) × (Int → Int) => (o_cup A k).1) (fun xo : (Int → Int) × (Int) × (Int → Int) => [oM q a xo.2.1 at_ st so va fa pl sg su, gA cI (a 0) 1140 A, gA cZ (a 1) 2 kp, gA cI (a 2) 3 (bump ((o_cup A k).2) rf), gA cI (a 3) 6 xo.1, gA cI (a 5) 60 xo.2.2, gA cI (a 12) 8 pi, gA cI (a 13) 8 th, gA cI (a 14) 8 fl, gA cI (a 15) 8 so_, gA cI (a 16) 8 fr, gA cI (a 17) 2048 le, gA cI (a 18) 41 lg, gA cI (a 19) 112 bg]) (fun xo : (Int → Int) × (Int) × (Int → Int) => True)) := by
  refine g_enterI (z := false) (lv0 := [(0, .ref q), (1, gi k)]) _ rfl (by decide) rfl rfl (fun V X ret => ?_)
  have hA1 := okA_1 hA
  have hA0 := okA_0 hA
  have hpu := okA_pu hA
  refine g_iload_n (pc := 0) X dX9_cupboard_0 1 rfl ?_
  refine g_iconst (pc := 1) X dX9_cupboard_1 ?_
  refine g_aload_n (pc := 2) X dX9_cupboard_2 0 rfl ?_
  refine g_get (pc := 3) X fl_X9_7 dX9_cupboard_3 0 (v := .ref (a 0)) rfl rfl ?_
  refine g_iconst (pc := 6) X dX9_cupboard_6 ?_
  refine g_iald (pc := 7) X dX9_cupboard_7 1 rfl (by omega) rfl ?_
  refine gc_Si (pc := 8) X (c_X9_in l D cI cZ k 0 (A 0) (by omega) (by omega) (by omega)) lm_X9_50 dX9_cupboard_8 [] rfl rfl rfl rfl rfl rfl ?_
  refine g_ifneB (pc := 11) X 21 dX9_cupboard_11 (by decide) (fun h11 => ?_) (fun h11 => ?_)
  · refine g_iconst (pc := 21) X dX9_cupboard_21 ?_
    refine g_istore_n (pc := 22) X (lv' := [(0, .ref q), (1, gi k), (2, gi 0)]) dX9_cupboard_22 rfl rfl ?_
    have L23 : ∀ (n23 : Nat) (i : Int) (z : Int) (e : Int → Int) (s : Int → Int), (0 ≤ i ∧ i ≤ A 0) → (∀ i2, 0 ≤ i2 → i2 < i → ∀ m2, 0 ≤ m2 → m2 < A 1 → s (6 * i2 + m2) = sThou A i2 m2) → (A 0 - i).toNat < n23 → V 0 0 [oM q a z at_ st so va fa pl sg su, gA cI (a 0) 1140 A, gA cZ (a 1) 2 kp, gA cI (a 2) 3 rf, gA cI (a 3) 6 e, gA cI (a 5) 60 s, gA cI (a 12) 8 pi, gA cI (a 13) 8 th, gA cI (a 14) 8 fl, gA cI (a 15) 8 so_, gA cI (a 16) 8 fr, gA cI (a 17) 2048 le, gA cI (a 18) 41 lg, gA cI (a 19) 112 bg] 23 [(0, .ref q), (1, gi k), (2, gi i)] [] := by
      intro n23
      induction n23 with
      | zero => intro i z e s hi hsh hn23; exact absurd hn23 (Nat.not_lt_zero _)
      | succ n23 ih23 =>
        intro i z e s hi hsh hn23
        refine g_iload_n (pc := 23) X dX9_cupboard_23 2 rfl ?_
        refine g_aload_n (pc := 24) X dX9_cupboard_24 0 rfl ?_
        refine g_get (pc := 25) X fl_X9_7 dX9_cupboard_25 0 (v := .ref (a 0)) rfl rfl ?_
        refine g_iconst (pc := 28) X dX9_cupboard_28 ?_
        refine g_iald (pc := 29) X dX9_cupboard_29 1 rfl (by omega) rfl ?_
        refine g_icmpge (pc := 30) X 76 dX9_cupboard_30 (by decide) (by omega) (by omega) (fun h30 => ?_) (fun h30 => ?_)
        · have hpw := pw_b (k := A 0) (c := 10) (C := 1024) rfl (by omega)
          refine g_iconst (pc := 76) X dX9_cupboard_76 ?_
          refine g_istore_n (pc := 77) X (lv' := [(0, .ref q), (1, gi k), (2, gi 0)]) dX9_cupboard_77 rfl rfl ?_
          refine g_iconst (pc := 78) X dX9_cupboard_78 ?_
          refine g_istore_n (pc := 79) X (lv' := [(0, .ref q), (1, gi k), (2, gi 0), (3, gi (-1))]) dX9_cupboard_79 rfl rfl ?_
          refine g_iconst (pc := 80) X dX9_cupboard_80 ?_
          refine g_istore (pc := 81) X (lv' := [(0, .ref q), (1, gi k), (2, gi 0), (3, gi (-1)), (4, gi 0)]) dX9_cupboard_81 rfl rfl ?_
          have L83 : ∀ (n83 : Nat) (x : Int) (y : Int) (c : Int), (0 ≤ c ∧ c ≤ 1 * 2 ^ (A 0).toNat) → (-1 ≤ y ∧ y ≤ 594000) → ((x, y) = itr (fun s (p : Int × Int) => if bitc s = k then (if p.2 < sWorth A s then (s, sWorth A s) else p) else p) (0, -1) c) → (1 * 2 ^ (A 0).toNat - c).toNat < n83 → V 0 0 [oM q a z at_ st so va fa pl sg su, gA cI (a 0) 1140 A, gA cZ (a 1) 2 kp, gA cI (a 2) 3 rf, gA cI (a 3) 6 e, gA cI (a 5) 60 s, gA cI (a 12) 8 pi, gA cI (a 13) 8 th, gA cI (a 14) 8 fl, gA cI (a 15) 8 so_, gA cI (a 16) 8 fr, gA cI (a 17) 2048 le, gA cI (a 18) 41 lg, gA cI (a 19) 112 bg] 83 [(0, .ref q), (1, gi k), (2, gi x), (3, gi y), (4, gi c)] [] := by
            intro n83
            induction n83 with
            | zero => intro x y c hc hy hx hn83; exact absurd hn83 (Nat.not_lt_zero _)
            | succ n83 ih83 =>
              intro x y c hc hy hx hn83
              have hbc := bitc_b c
              have hwb := sWorth_c hA c
              refine g_iload (pc := 83) X dX9_cupboard_83 4 rfl ?_
              refine g_iconst (pc := 85) X dX9_cupboard_85 ?_
              refine g_aload_n (pc := 86) X dX9_cupboard_86 0 rfl ?_
              refine g_get (pc := 87) X fl_X9_7 dX9_cupboard_87 0 (v := .ref (a 0)) rfl rfl ?_
              refine g_iconst (pc := 90) X dX9_cupboard_90 ?_
              refine g_iald (pc := 91) X dX9_cupboard_91 1 rfl (by omega) rfl ?_
              refine g_ishl (pc := 92) X dX9_cupboard_92 (by omega) (by omega) (by omega) ?_
              refine g_icmpge (pc := 93) X 145 dX9_cupboard_93 (by decide) (by omega) (by omega) (fun h93 => ?_) (fun h93 => ?_)
              · refine g_iload_n (pc := 145) X dX9_cupboard_145 2 rfl ?_
                exact ret _ _ _ _ _ _ dX9_cupboard_146 rfl rfl (fun h => by cases h) (gPxi_e (_, _, _) (by rw [(show o_cup A k = (sCup A k, -1) from if_pos (by omega))]; unfold sCup; rw [show (2 : Int) ^ (A 0).toNat = c by omega, ← hx]) (by rw [(show o_cup A k = (sCup A k, -1) from if_pos (by omega))]; rfl) trivial)
              · refine g_iload (pc := 96) X dX9_cupboard_96 4 rfl ?_
                refine gc_Si (pc := 98) X (c_X9_bitsIn l D cI cZ c (by omega)) lm_X9_116 dX9_cupboard_98 [] rfl rfl rfl rfl rfl rfl ?_
                refine g_iload_n (pc := 101) X dX9_cupboard_101 1 rfl ?_
                refine g_icmpne (pc := 102) X 139 dX9_cupboard_102 (by decide) (by omega) (by omega) (fun h102 => ?_) (fun h102 => ?_)
                · refine g_iinc (pc := 139) X (lv' := [(0, .ref q), (1, gi k), (2, gi x), (3, gi y), (4, gi (c + 1))]) dX9_cupboard_139 4 rfl rfl rfl ?_
                  refine g_goto (pc := 142) X 83 dX9_cupboard_142 (by decide) ?_
                  exact ih83 _ _ _ (by omega) (by omega) (by first | (exfalso; omega) | (rw [itr_s hc.1, ← hx]; (try dsimp only); first | rw [if_pos (by omega), if_pos (by omega)] | rw [if_pos (by omega), if_neg (by omega)] | rw [if_neg (by omega)])) (by omega)
                · refine g_aload_n (pc := 105) X dX9_cupboard_105 0 rfl ?_
                  refine g_iload (pc := 106) X dX9_cupboard_106 4 rfl ?_
                  refine gc_Vi (pc := 108) X (c_X9_worthOf l D cI cZ q a z at_ st so va fa pl sg su A s c hA (by omega) (fun i2 i0 i1 => hsh i2 i0 (by omega))) lm_X9_119 dX9_cupboard_108 [0, 1, 5] rfl rfl rfl rfl rfl rfl rfl rfl ?_
                  refine g_istore (pc := 111) X (lv' := [(0, .ref q), (1, gi k), (2, gi x), (3, gi y), (4, gi c), (5, gi (sWorth A c))]) dX9_cupboard_111 rfl rfl ?_
                  refine g_iload (pc := 113) X dX9_cupboard_113 5 rfl ?_
                  refine g_iload_n (pc := 115) X dX9_cupboard_115 3 rfl ?_
                  refine g_icmple (pc := 116) X 124 dX9_cupboard_116 (by decide) (by omega) (by omega) (fun h116 => ?_) (fun h116 => ?_)
                  · refine g_iload_n (pc := 124) X dX9_cupboard_124 2 rfl ?_
                    refine g_istore_n (pc := 125) X (lv' := [(0, .ref q), (1, gi k), (2, gi x), (3, gi y), (4, gi c), (5, gi (sWorth A c))]) dX9_cupboard_125 rfl rfl ?_
                    refine g_iload (pc := 126) X dX9_cupboard_126 5 rfl ?_
                    refine g_iload_n (pc := 128) X dX9_cupboard_128 3 rfl ?_
                    refine g_icmple (pc := 129) X 137 dX9_cupboard_129 (by decide) (by omega) (by omega) (fun h129 => ?_) (fun h129 => ?_)
                    · refine g_iload_n (pc := 137) X dX9_cupboard_137 3 rfl ?_
                      refine g_istore_n (pc := 138) X (lv' := [(0, .ref q), (1, gi k), (2, gi x), (3, gi y), (4, gi c), (5, gi (sWorth A c))]) dX9_cupboard_138 rfl rfl ?_
                      refine g_iinc (pc := 139) X (lv' := [(0, .ref q), (1, gi k), (2, gi x), (3, gi y), (4, gi (c + 1)), (5, gi (sWorth A c))]) dX9_cupboard_139 4 rfl rfl rfl ?_
                      refine g_goto (pc := 142) X 83 dX9_cupboard_142 (by decide) ?_
                      refine g_lsub X [0, 1, 2, 3, 4] rfl ?_
                      exact ih83 _ _ _ (by omega) (by omega) (by first | (exfalso; omega) | (rw [itr_s hc.1, ← hx]; (try dsimp only); first | rw [if_pos (by omega), if_pos (by omega)] | rw [if_pos (by omega), if_neg (by omega)] | rw [if_neg (by omega)])) (by omega)
                    · refine g_iload (pc := 132) X dX9_cupboard_132 5 rfl ?_
                      refine g_goto (pc := 134) X 138 dX9_cupboard_134 (by decide) ?_
                      refine g_istore_n (pc := 138) X (lv' := [(0, .ref q), (1, gi k), (2, gi x), (3, gi (sWorth A c)), (4, gi c), (5, gi (sWorth A c))]) dX9_cupboard_138 rfl rfl ?_
                      refine g_iinc (pc := 139) X (lv' := [(0, .ref q), (1, gi k), (2, gi x), (3, gi (sWorth A c)), (4, gi (c + 1)), (5, gi (sWorth A c))]) dX9_cupboard_139 4 rfl rfl rfl ?_
                      refine g_goto (pc := 142) X 83 dX9_cupboard_142 (by decide) ?_
                      refine g_lsub X [0, 1, 2, 3, 4] rfl ?_
                      exact ih83 _ _ _ (by omega) (by omega) (by first | (exfalso; omega) | (rw [itr_s hc.1, ← hx]; (try dsimp only); first | rw [if_pos (by omega), if_pos (by omega)] | rw [if_pos (by omega), if_neg (by omega)] | rw [if_neg (by omega)])) (by omega)
                  · refine g_iload (pc := 119) X dX9_cupboard_119 4 rfl ?_
                    refine g_goto (pc := 121) X 125 dX9_cupboard_121 (by decide) ?_
                    refine g_istore_n (pc := 125) X (lv' := [(0, .ref q), (1, gi k), (2, gi c), (3, gi y), (4, gi c), (5, gi (sWorth A c))]) dX9_cupboard_125 rfl rfl ?_
                    refine g_iload (pc := 126) X dX9_cupboard_126 5 rfl ?_
                    refine g_iload_n (pc := 128) X dX9_cupboard_128 3 rfl ?_
                    refine g_icmple (pc := 129) X 137 dX9_cupboard_129 (by decide) (by omega) (by omega) (fun h129 => ?_) (fun h129 => ?_)
                    · refine g_iload_n (pc := 137) X dX9_cupboard_137 3 rfl ?_
                      refine g_istore_n (pc := 138) X (lv' := [(0, .ref q), (1, gi k), (2, gi c), (3, gi y), (4, gi c), (5, gi (sWorth A c))]) dX9_cupboard_138 rfl rfl ?_
                      refine g_iinc (pc := 139) X (lv' := [(0, .ref q), (1, gi k), (2, gi c), (3, gi y), (4, gi (c + 1)), (5, gi (sWorth A c))]) dX9_cupboard_139 4 rfl rfl rfl ?_
                      refine g_goto (pc := 142) X 83 dX9_cupboard_142 (by decide) ?_
                      refine g_lsub X [0, 1, 2, 3, 4] rfl ?_
                      exact ih83 _ _ _ (by omega) (by omega) (by first | (exfalso; omega) | (rw [itr_s hc.1, ← hx]; (try dsimp only); first | rw [if_pos (by omega), if_pos (by omega)] | rw [if_pos (by omega), if_neg (by omega)] | rw [if_neg (by omega)])) (by omega)
                    · refine g_iload (pc := 132) X dX9_cupboard_132 5 rfl ?_
                      refine g_goto (pc := 134) X 138 dX9_cupboard_134 (by decide) ?_
                      refine g_istore_n (pc := 138) X (lv' := [(0, .ref q), (1, gi k), (2, gi c), (3, gi (sWorth A c)), (4, gi c), (5, gi (sWorth A c))]) dX9_cupboard_138 rfl rfl ?_
                      refine g_iinc (pc := 139) X (lv' := [(0, .ref q), (1, gi k), (2, gi c), (3, gi (sWorth A c)), (4, gi (c + 1)), (5, gi (sWorth A c))]) dX9_cupboard_139 4 rfl rfl rfl ?_
                      refine g_goto (pc := 142) X 83 dX9_cupboard_142 (by decide) ?_
                      refine g_lsub X [0, 1, 2, 3, 4] rfl ?_
                      exact ih83 _ _ _ (by omega) (by omega) (by first | (exfalso; omega) | (rw [itr_s hc.1, ← hx]; (try dsimp only); first | rw [if_pos (by omega), if_pos (by omega)] | rw [if_pos (by omega), if_neg (by omega)] | rw [if_neg (by omega)])) (by omega)
          exact L83 _ _ _ _ (by omega) (by omega) rfl (Nat.lt_succ_self _)
        · refine g_iconst (pc := 33) X dX9_cupboard_33 ?_
          refine g_istore_n (pc := 34) X (lv' := [(0, .ref q), (1, gi k), (2, gi i), (3, gi 0)]) dX9_cupboard_34 rfl rfl ?_
          have L35 : ∀ (n35 : Nat) (m : Int) (z : Int) (e : Int → Int) (s : Int → Int), (0 ≤ m ∧ m ≤ A 1) → (∀ i2, 0 ≤ i2 → i2 < i → ∀ m2, 0 ≤ m2 → m2 < A 1 → s (6 * i2 + m2) = sThou A i2 m2) → (∀ m2, 0 ≤ m2 → m2 < m → s (6 * i + m2) = sThou A i m2) → (A 1 - m).toNat < n35 → V 0 0 [oM q a z at_ st so va fa pl sg su, gA cI (a 0) 1140 A, gA cZ (a 1) 2 kp, gA cI (a 2) 3 rf, gA cI (a 3) 6 e, gA cI (a 5) 60 s, gA cI (a 12) 8 pi, gA cI (a 13) 8 th, gA cI (a 14) 8 fl, gA cI (a 15) 8 so_, gA cI (a 16) 8 fr, gA cI (a 17) 2048 le, gA cI (a 18) 41 lg, gA cI (a 19) 112 bg] 35 [(0, .ref q), (1, gi k), (2, gi i), (3, gi m)] [] := by
            intro n35
            induction n35 with
            | zero => intro m z e s hm hsh2 hs2 hn35; exact absurd hn35 (Nat.not_lt_zero _)
            | succ n35 ih35 =>
              intro m z e s hm hsh2 hs2 hn35
              have hpwi := pw_b (k := i) (c := 9) (C := 512) rfl (by omega)
              refine g_iload_n (pc := 35) X dX9_cupboard_35 3 rfl ?_
              refine g_aload_n (pc := 36) X dX9_cupboard_36 0 rfl ?_
              refine g_get (pc := 37) X fl_X9_7 dX9_cupboard_37 0 (v := .ref (a 0)) rfl rfl ?_
              refine g_iconst (pc := 40) X dX9_cupboard_40 ?_
              refine g_iald (pc := 41) X dX9_cupboard_41 1 rfl (by omega) rfl ?_
              refine g_icmpge (pc := 42) X 70 dX9_cupboard_42 (by decide) (by omega) (by omega) (fun h42 => ?_) (fun h42 => ?_)
              · refine g_iinc (pc := 70) X (lv' := [(0, .ref q), (1, gi k), (2, gi (i + 1)), (3, gi m)]) dX9_cupboard_70 2 rfl rfl rfl ?_
                refine g_goto (pc := 73) X 23 dX9_cupboard_73 (by decide) ?_
                refine g_lsub X [0, 1, 2] rfl ?_
                exact ih23 _ _ _ _ (by omega) (all_s (P := fun i2 => ∀ m2, 0 ≤ m2 → m2 < A 1 → s (6 * i2 + m2) = sThou A i2 m2) hsh2 (fun m2 m0 m1 => hs2 m2 m0 (by omega))) (by omega)
              · refine g_aload_n (pc := 45) X dX9_cupboard_45 0 rfl ?_
                refine g_get (pc := 46) X fl_X9_23 dX9_cupboard_46 0 (v := .ref (a 5)) rfl rfl ?_
                refine g_bipush (pc := 49) X dX9_cupboard_49 (by decide +kernel) ?_
                refine g_iload_n (pc := 51) X dX9_cupboard_51 2 rfl ?_
                refine g_imul (pc := 52) X dX9_cupboard_52 ?_
                refine g_iload_n (pc := 53) X dX9_cupboard_53 3 rfl ?_
                refine g_iadd (pc := 54) X dX9_cupboard_54 ?_
                refine g_aload_n (pc := 55) X dX9_cupboard_55 0 rfl ?_
                refine g_iconst (pc := 56) X dX9_cupboard_56 ?_
                refine g_iload_n (pc := 57) X dX9_cupboard_57 2 rfl ?_
                refine g_ishl (pc := 58) X dX9_cupboard_58 (by omega) (by omega) (by omega) ?_
                refine g_iload_n (pc := 59) X dX9_cupboard_59 3 rfl ?_
                refine gc_Vxi (pc := 60) X (wr := [gA cZ (a 1) 2 kp, gA cI (a 2) 3 rf, gA cI (a 5) 60 s, gA cI (a 12) 8 pi, gA cI (a 13) 8 th, gA cI (a 14) 8 fl, gA cI (a 15) 8 so_, gA cI (a 16) 8 fr, gA cI (a 17) 2048 le, gA cI (a 18) 41 lg, gA cI (a 19) 112 bg]) (c_X9_servesOf l D cI cZ q a z at_ st so va fa pl sg su A e (1 * (2 ^ (i).toNat)) m hA (by omega) (by omega)) lm_X9_112 dX9_cupboard_60 [0, 1, 4] [2, 3, 5, 6, 7, 8, 9, 10, 11, 12, 13] rfl rfl rfl rfl (by decide) rfl rfl rfl rfl rfl rfl (fun x60 hx60 => ?_)
                obtain ⟨g_60, al2_60⟩ := x60
                refine g_pick (cn := 0) (sl := 0) (st := gi (sServ A (1 * (2 ^ (i).toNat)) m) :: gi (6 * i + m) :: .ref (a 5) :: []) X (ws' := [oM q a al2_60 at_ st so va fa pl sg su, gA cI (a 0) 1140 A, gA cZ (a 1) 2 kp, gA cI (a 2) 3 rf, gA cI (a 3) 6 g_60, gA cI (a 5) 60 s, gA cI (a 12) 8 pi, gA cI (a 13) 8 th, gA cI (a 14) 8 fl, gA cI (a 15) 8 so_, gA cI (a 16) 8 fr, gA cI (a 17) 2048 le, gA cI (a 18) 41 lg, gA cI (a 19) 112 bg]) [11, 12, 0, 1, 13, 2, 3, 4, 5, 6, 7, 8, 9, 10] rfl rfl ?_
                refine g_iast (pc := 63) X (ws' := [oM q a al2_60 at_ st so va fa pl sg su, gA cI (a 0) 1140 A, gA cZ (a 1) 2 kp, gA cI (a 2) 3 rf, gA cI (a 3) 6 g_60, gA cI (a 5) 60 (gupd s (6 * i + m) (sServ A (1 * (2 ^ (i).toNat)) m)), gA cI (a 12) 8 pi, gA cI (a 13) 8 th, gA cI (a 14) 8 fl, gA cI (a 15) 8 so_, gA cI (a 16) 8 fr, gA cI (a 17) 2048 le, gA cI (a 18) 41 lg, gA cI (a 19) 112 bg]) dX9_cupboard_63 5 rfl (by omega) rfl rfl ?_
                refine g_iinc (pc := 64) X (lv' := [(0, .ref q), (1, gi k), (2, gi i), (3, gi (m + 1))]) dX9_cupboard_64 3 rfl rfl rfl ?_
                refine g_goto (pc := 67) X 35 dX9_cupboard_67 (by decide) ?_
                exact ih35 _ _ _ _ (by omega) (fun i2 i0 i1 m2 m0 m1 => by rw [gupd_n (by omega)]; exact hsh2 i2 i0 i1 m2 m0 m1) (all_s (fun m2 m0 m1 => by rw [gupd_n (by omega)]; exact hs2 m2 m0 m1) (by rw [gupd_s]; exact sServ_p hA (by omega) (by omega))) (by omega)
          exact L35 _ _ _ _ _ (by omega) hsh all_0 (Nat.lt_succ_self _)
    exact L23 _ _ _ _ _ (by omega) all_0 (Nat.lt_succ_self _)
  · refine g_aload_n (pc := 14) X dX9_cupboard_14 0 rfl ?_
    refine g_bipush (pc := 15) X dX9_cupboard_15 (by decide +kernel) ?_
    refine gc_Vxi (pc := 17) X (wr := [gA cI (a 0) 1140 A, gA cZ (a 1) 2 kp, gA cI (a 3) 6 lk_, gA cI (a 5) 60 sh, gA cI (a 12) 8 pi, gA cI (a 13) 8 th, gA cI (a 14) 8 fl, gA cI (a 15) 8 so_, gA cI (a 16) 8 fr, gA cI (a 17) 2048 le, gA cI (a 18) 41 lg, gA cI (a 19) 112 bg]) (c_X9_refuse l D cI cZ q a al at_ st so va fa pl sg su rf (-2) (by omega)) lm_X9_54 dX9_cupboard_17 [0, 3] [1, 2, 4, 5, 6, 7, 8, 9, 10, 11, 12, 13] rfl rfl rfl rfl (by decide) rfl rfl rfl rfl rfl rfl (fun x17 hx17 => ?_)
    refine g_pick (cn := 0) (sl := 0) (st := gi (-2) :: []) X (ws' := [oM q a al at_ st so va fa pl sg su, gA cI (a 0) 1140 A, gA cZ (a 1) 2 kp, gA cI (a 2) 3 (gupd rf (-2 - (-2)) (rf (-2 - (-2)) + 1)), gA cI (a 3) 6 lk_, gA cI (a 5) 60 sh, gA cI (a 12) 8 pi, gA cI (a 13) 8 th, gA cI (a 14) 8 fl, gA cI (a 15) 8 so_, gA cI (a 16) 8 fr, gA cI (a 17) 2048 le, gA cI (a 18) 41 lg, gA cI (a 19) 112 bg]) [12, 0, 1, 13, 2, 3, 4, 5, 6, 7, 8, 9, 10, 11] rfl rfl ?_
    exact ret _ _ _ _ _ _ dX9_cupboard_20 rfl rfl (fun h => by cases h) (gPxi_e (_, _, _) (by rw [(show o_cup A k = (-2, 0) from if_neg (by omega))]) (by rw [(show o_cup A k = (-2, 0) from if_neg (by omega))]; rfl) trivial)
