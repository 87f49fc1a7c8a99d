/-! the model: TAKEN, MOST, WHOSE, sign, limb -/
theorem sm_ge {f : Int → Int} {n i : Int} (h : ∀ j, 0 ≤ j → j < n → 0 ≤ f j) (hi : 0 ≤ i ∧ i < n) : f i ≤ sm f n := by
  have e : i < n → f i ≤ sm f n := itr_i (st := fun i a => a + f i) (a := 0) (P := fun k x => 0 ≤ x ∧ (i < k → f i ≤ x)) ⟨Int.le_refl _, fun c => by omega⟩ (n := n) (fun k x k0 k1 hx => by
    have q := h k k0 k1
    refine ⟨by (try dsimp only); omega, fun c => ?_⟩
    rcases Int.lt_or_le i k with r | r
    · have := hx.2 r; (try dsimp only); omega
    · rw [show i = k by omega]; have := hx.1; (try dsimp only); omega) (by omega) (Int.le_refl n) |>.2
  exact e hi.2
theorem sLT {A : Int → Int} (hA : okA A) {t m : Int} (ht : 0 ≤ t ∧ t < 10) (hm : 0 ≤ m ∧ m < A 1) : sLike A t m 0 ≤ sTot A t 0 := sm_ge (f := fun m => sLike A t m 0) (fun j h0 h1 => (sLike_b hA ht ⟨h0, by have := (okA_1 hA).2; omega⟩ (by omega)).1) hm
theorem BB_3 : (590490000 : Int) ^ 8 * 590490000 * 1000 < BB := by unfold BB; decide

set_option maxHeartbeats 4000000 in
set_option maxRecDepth 100000 in
theorem c_X9_taken (l : Launch) (D : va_G) (cI cZ : ClassId) (q : Nat) (a : Nat → Nat) (al : Int) (at_ : Int) (st : Int) (so : Int) (va : Int) (fa : Int) (pl : Int) (sg : Int) (su : Int) (A : Int → Int) (kp : Int → Int) (rf : Int → Int) (lk_ : Int → Int) (sh : Int → Int) (pi : Int → Int) (th : Int → Int) (fl : Int → Int) (so_ : Int → Int) (fr : Int → Int) (le : Int → Int) (lg : Int → Int) (bg : Int → Int) (fP : Int) (fQ : Int) (t : Int) (m : Int) (f : Int) (se : Int) (la : Int) (hA : okA A) (hF : frM bg sg fP fQ) (ht : -2147483648 ≤ t ∧ t < 2147483648) (hm : -2147483648 ≤ m ∧ m < 2147483648) (hf : -2147483648 ≤ f ∧ f < 2147483648) (hse : -2147483648 ≤ se ∧ se < 2147483648) (hla : -2147483648 ≤ la ∧ la < 2147483648) : GM l D cI cZ yX9_taken cX9_taken 7 (some .int) ({ frames := 7, cells := 0, slots := 0, locals := 174 }) 0 0 false [.ref q, gi t, gi m, gi f, gi se, gi la] [oM q a al at_ st so va fa pl sg su, gA cI (a 0) 1140 A, gA cZ (a 1) 2 kp, gA cI (a 2) 3 rf, gA cI (a 3) 6 lk_, gA cI (a 5) 60 sh, gA cI (a 12) 8 pi, gA cI (a 13) 8 th, gA cI (a 14) 8 fl, gA cI (a 15) 8 so_, gA cI (a 16) 8 fr, gA cI (a 17) 2048 le, gA cI (a 18) 41 lg, gA cI (a 19) 112 bg] (gPxi (fun xo : (Int → Int) × (Int) × (Int → Int) => (o_taken A t m f se la fP fQ).1) (fun xo : (Int → Int) × (Int) × (Int → Int) => [oM q a xo.2.1 at_ st so va fa pl (sgn (o_taken A t m f se la fP fQ).2.2.1) su, gA cI (a 0) 1140 A, gA cZ (a 1) 2 kp, gA cI (a 2) 3 (bump (o_taken A t m f se la fP fQ).2.1 rf), gA cI (a 3) 6 xo.1, gA cI (a 5) 60 sh, gA cI (a 12) 8 pi, gA cI (a 13) 8 th, gA cI (a 14) 8 fl, gA cI (a 15) 8 so_, gA cI (a 16) 8 fr, gA cI (a 17) 2048 le, gA cI (a 18) 41 lg, gA cI (a 19) 112 xo.2.2]) (fun xo : (Int → Int) × (Int) × (Int → Int) => (frM xo.2.2 (sgn (o_taken A t m f se la fP fQ).2.2.1) (o_taken A t m f se la fP fQ).2.2.1 (o_taken A t m f se la fP fQ).2.2.2))) := by
  refine g_enterI (z := false) (lv0 := [(0, .ref q), (1, gi t), (2, gi m), (3, gi f), (4, gi se), (5, gi la)]) _ rfl (by decide) rfl rfl (fun V X ret => ?_)
  have hA1 := okA_1 hA
  have hA0 := okA_0 hA
  have hpu := okA_pu hA
  have hB := hF.1
  refine g_aload_n (pc := 0) X dX9_taken_0 0 rfl ?_
  refine g_iload_n (pc := 1) X dX9_taken_1 1 rfl ?_
  refine gc_Vi (pc := 2) X (c_X9_isThing l D cI cZ q a al at_ st so va fa pl sg su A t hA (by omega)) lm_X9_58 dX9_taken_2 [0, 1] rfl rfl rfl rfl rfl rfl rfl rfl ?_
  refine g_ifeqB (pc := 5) X 65 dX9_taken_5 (by decide) (fun h5 => ?_) (fun h5 => ?_)
  · refine g_iconst (pc := 65) X dX9_taken_65 ?_
    refine g_istore (pc := 66) X (lv' := [(0, .ref q), (1, gi t), (2, gi m), (3, gi f), (4, gi se), (5, gi la), (6, gi 0)]) dX9_taken_66 rfl rfl ?_
    refine g_iload (pc := 68) X dX9_taken_68 6 rfl ?_
    refine g_ifne (pc := 70) X 80 dX9_taken_70 (by decide) (by omega) (fun h70 => absurd h70 (by omega)) (fun h70 => ?_)
    refine g_aload_n (pc := 73) X dX9_taken_73 0 rfl ?_
    refine g_bipush (pc := 74) X dX9_taken_74 (by decide +kernel) ?_
    refine gc_Vxi (pc := 76) X (wr := [gA cI (a 0) 1140 A, gA cZ (a 1) 2 kp, gA cI (a 3) 6 lk_, gA cI (a 5) 60 sh, gA cI (a 12) 8 pi, gA cI (a 13) 8 th, gA cI (a 14) 8 fl, gA cI (a 15) 8 so_, gA cI (a 16) 8 fr, gA cI (a 17) 2048 le, gA cI (a 18) 41 lg, gA cI (a 19) 112 bg]) (c_X9_refuse l D cI cZ q a al at_ st so va fa pl sg su rf (-2) (by omega)) lm_X9_54 dX9_taken_76 [0, 3] [1, 2, 4, 5, 6, 7, 8, 9, 10, 11, 12, 13] rfl rfl rfl rfl (by decide) rfl rfl rfl rfl rfl rfl (fun x76 hx76 => ?_)
    refine g_pick (cn := 0) (sl := 0) (st := gi (-2) :: []) X (ws' := [oM q a al at_ st so va fa pl sg su, gA cI (a 0) 1140 A, gA cZ (a 1) 2 kp, gA cI (a 2) 3 (gupd rf (-2 - (-2)) (rf (-2 - (-2)) + 1)), gA cI (a 3) 6 lk_, gA cI (a 5) 60 sh, gA cI (a 12) 8 pi, gA cI (a 13) 8 th, gA cI (a 14) 8 fl, gA cI (a 15) 8 so_, gA cI (a 16) 8 fr, gA cI (a 17) 2048 le, gA cI (a 18) 41 lg, gA cI (a 19) 112 bg]) [12, 0, 1, 13, 2, 3, 4, 5, 6, 7, 8, 9, 10, 11] rfl rfl ?_
    exact ret _ _ _ _ _ _ dX9_taken_79 rfl rfl (fun h => by cases h) (gPxi_e (_, _, bg) (by rw [(show o_taken A t m f se la fP fQ = (-2, 0, fP, fQ) from if_neg (by omega))]) (by rw [(show o_taken A t m f se la fP fQ = (-2, 0, fP, fQ) from if_neg (by omega)), hF.2.2.1]; rfl) (by rw [(show o_taken A t m f se la fP fQ = (-2, 0, fP, fQ) from if_neg (by omega))]; exact ⟨hF.1, hF.2.1, rfl, hF.2.2.2⟩))
  · refine g_aload_n (pc := 8) X dX9_taken_8 0 rfl ?_
    refine g_iload_n (pc := 9) X dX9_taken_9 2 rfl ?_
    refine gc_Vi (pc := 10) X (c_X9_isMeaning l D cI cZ q a al at_ st so va fa pl sg su A m hA (by omega)) lm_X9_62 dX9_taken_10 [0, 1] rfl rfl rfl rfl rfl rfl rfl rfl ?_
    refine g_ifeqB (pc := 13) X 65 dX9_taken_13 (by decide) (fun h13 => ?_) (fun h13 => ?_)
    · refine g_iconst (pc := 65) X dX9_taken_65 ?_
      refine g_istore (pc := 66) X (lv' := [(0, .ref q), (1, gi t), (2, gi m), (3, gi f), (4, gi se), (5, gi la), (6, gi 0)]) dX9_taken_66 rfl rfl ?_
      refine g_iload (pc := 68) X dX9_taken_68 6 rfl ?_
      refine g_ifne (pc := 70) X 80 dX9_taken_70 (by decide) (by omega) (fun h70 => absurd h70 (by omega)) (fun h70 => ?_)
      refine g_aload_n (pc := 73) X dX9_taken_73 0 rfl ?_
      refine g_bipush (pc := 74) X dX9_taken_74 (by decide +kernel) ?_
      refine gc_Vxi (pc := 76) X (wr := [gA cI (a 0) 1140 A, gA cZ (a 1) 2 kp, gA cI (a 3) 6 lk_, gA cI (a 5) 60 sh, gA cI (a 12) 8 pi, gA cI (a 13) 8 th, gA cI (a 14) 8 fl, gA cI (a 15) 8 so_, gA cI (a 16) 8 fr, gA cI (a 17) 2048 le, gA cI (a 18) 41 lg, gA cI (a 19) 112 bg]) (c_X9_refuse l D cI cZ q a al at_ st so va fa pl sg su rf (-2) (by omega)) lm_X9_54 dX9_taken_76 [0, 3] [1, 2, 4, 5, 6, 7, 8, 9, 10, 11, 12, 13] rfl rfl rfl rfl (by decide) rfl rfl rfl rfl rfl rfl (fun x76 hx76 => ?_)
      refine g_pick (cn := 0) (sl := 0) (st := gi (-2) :: []) X (ws' := [oM q a al at_ st so va fa pl sg su, gA cI (a 0) 1140 A, gA cZ (a 1) 2 kp, gA cI (a 2) 3 (gupd rf (-2 - (-2)) (rf (-2 - (-2)) + 1)), gA cI (a 3) 6 lk_, gA cI (a 5) 60 sh, gA cI (a 12) 8 pi, gA cI (a 13) 8 th, gA cI (a 14) 8 fl, gA cI (a 15) 8 so_, gA cI (a 16) 8 fr, gA cI (a 17) 2048 le, gA cI (a 18) 41 lg, gA cI (a 19) 112 bg]) [12, 0, 1, 13, 2, 3, 4, 5, 6, 7, 8, 9, 10, 11] rfl rfl ?_
      exact ret _ _ _ _ _ _ dX9_taken_79 rfl rfl (fun h => by cases h) (gPxi_e (_, _, bg) (by rw [(show o_taken A t m f se la fP fQ = (-2, 0, fP, fQ) from if_neg (by omega))]) (by rw [(show o_taken A t m f se la fP fQ = (-2, 0, fP, fQ) from if_neg (by omega)), hF.2.2.1]; rfl) (by rw [(show o_taken A t m f se la fP fQ = (-2, 0, fP, fQ) from if_neg (by omega))]; exact ⟨hF.1, hF.2.1, rfl, hF.2.2.2⟩))
    · refine g_iload_n (pc := 16) X dX9_taken_16 3 rfl ?_
      refine g_iconst (pc := 17) X dX9_taken_17 ?_
      refine g_bipush (pc := 18) X dX9_taken_18 (by decide +kernel) ?_
      refine gc_Si (pc := 20) X (c_X9_in l D cI cZ f 0 9 (by omega) (by omega) (by omega)) lm_X9_50 dX9_taken_20 [] rfl rfl rfl rfl rfl rfl ?_
      refine g_ifeqB (pc := 23) X 65 dX9_taken_23 (by decide) (fun h23 => ?_) (fun h23 => ?_)
      · refine g_iconst (pc := 65) X dX9_taken_65 ?_
        refine g_istore (pc := 66) X (lv' := [(0, .ref q), (1, gi t), (2, gi m), (3, gi f), (4, gi se), (5, gi la), (6, gi 0)]) dX9_taken_66 rfl rfl ?_
        refine g_iload (pc := 68) X dX9_taken_68 6 rfl ?_
        refine g_ifne (pc := 70) X 80 dX9_taken_70 (by decide) (by omega) (fun h70 => absurd h70 (by omega)) (fun h70 => ?_)
        refine g_aload_n (pc := 73) X dX9_taken_73 0 rfl ?_
        refine g_bipush (pc := 74) X dX9_taken_74 (by decide +kernel) ?_
        refine gc_Vxi (pc := 76) X (wr := [gA cI (a 0) 1140 A, gA cZ (a 1) 2 kp, gA cI (a 3) 6 lk_, gA cI (a 5) 60 sh, gA cI (a 12) 8 pi, gA cI (a 13) 8 th, gA cI (a 14) 8 fl, gA cI (a 15) 8 so_, gA cI (a 16) 8 fr, gA cI (a 17) 2048 le, gA cI (a 18) 41 lg, gA cI (a 19) 112 bg]) (c_X9_refuse l D cI cZ q a al at_ st so va fa pl sg su rf (-2) (by omega)) lm_X9_54 dX9_taken_76 [0, 3] [1, 2, 4, 5, 6, 7, 8, 9, 10, 11, 12, 13] rfl rfl rfl rfl (by decide) rfl rfl rfl rfl rfl rfl (fun x76 hx76 => ?_)
        refine g_pick (cn := 0) (sl := 0) (st := gi (-2) :: []) X (ws' := [oM q a al at_ st so va fa pl sg su, gA cI (a 0) 1140 A, gA cZ (a 1) 2 kp, gA cI (a 2) 3 (gupd rf (-2 - (-2)) (rf (-2 - (-2)) + 1)), gA cI (a 3) 6 lk_, gA cI (a 5) 60 sh, gA cI (a 12) 8 pi, gA cI (a 13) 8 th, gA cI (a 14) 8 fl, gA cI (a 15) 8 so_, gA cI (a 16) 8 fr, gA cI (a 17) 2048 le, gA cI (a 18) 41 lg, gA cI (a 19) 112 bg]) [12, 0, 1, 13, 2, 3, 4, 5, 6, 7, 8, 9, 10, 11] rfl rfl ?_
        exact ret _ _ _ _ _ _ dX9_taken_79 rfl rfl (fun h => by cases h) (gPxi_e (_, _, bg) (by rw [(show o_taken A t m f se la fP fQ = (-2, 0, fP, fQ) from if_neg (by omega))]) (by rw [(show o_taken A t m f se la fP fQ = (-2, 0, fP, fQ) from if_neg (by omega)), hF.2.2.1]; rfl) (by rw [(show o_taken A t m f se la fP fQ = (-2, 0, fP, fQ) from if_neg (by omega))]; exact ⟨hF.1, hF.2.1, rfl, hF.2.2.2⟩))
      · refine g_iload (pc := 26) X dX9_taken_26 4 rfl ?_
        refine g_iconst (pc := 28) X dX9_taken_28 ?_
        refine g_icmpne (pc := 29) X 40 dX9_taken_29 (by decide) (by omega) (by omega) (fun h29 => ?_) (fun h29 => ?_)
        · refine g_aload_n (pc := 40) X dX9_taken_40 0 rfl ?_
          refine g_iload (pc := 41) X dX9_taken_41 4 rfl ?_
          refine gc_Vi (pc := 43) X (c_X9_isMeaning l D cI cZ q a al at_ st so va fa pl sg su A se hA (by omega)) lm_X9_62 dX9_taken_43 [0, 1] rfl rfl rfl rfl rfl rfl rfl rfl ?_
          refine g_ifeqB (pc := 46) X 65 dX9_taken_46 (by decide) (fun h46 => ?_) (fun h46 => ?_)
          · refine g_iconst (pc := 65) X dX9_taken_65 ?_
            refine g_istore (pc := 66) X (lv' := [(0, .ref q), (1, gi t), (2, gi m), (3, gi f), (4, gi se), (5, gi la), (6, gi 0)]) dX9_taken_66 rfl rfl ?_
            refine g_iload (pc := 68) X dX9_taken_68 6 rfl ?_
            refine g_ifne (pc := 70) X 80 dX9_taken_70 (by decide) (by omega) (fun h70 => absurd h70 (by omega)) (fun h70 => ?_)
            refine g_aload_n (pc := 73) X dX9_taken_73 0 rfl ?_
            refine g_bipush (pc := 74) X dX9_taken_74 (by decide +kernel) ?_
            refine gc_Vxi (pc := 76) X (wr := [gA cI (a 0) 1140 A, gA cZ (a 1) 2 kp, gA cI (a 3) 6 lk_, gA cI (a 5) 60 sh, gA cI (a 12) 8 pi, gA cI (a 13) 8 th, gA cI (a 14) 8 fl, gA cI (a 15) 8 so_, gA cI (a 16) 8 fr, gA cI (a 17) 2048 le, gA cI (a 18) 41 lg, gA cI (a 19) 112 bg]) (c_X9_refuse l D cI cZ q a al at_ st so va fa pl sg su rf (-2) (by omega)) lm_X9_54 dX9_taken_76 [0, 3] [1, 2, 4, 5, 6, 7, 8, 9, 10, 11, 12, 13] rfl rfl rfl rfl (by decide) rfl rfl rfl rfl rfl rfl (fun x76 hx76 => ?_)
            refine g_pick (cn := 0) (sl := 0) (st := gi (-2) :: []) X (ws' := [oM q a al at_ st so va fa pl sg su, gA cI (a 0) 1140 A, gA cZ (a 1) 2 kp, gA cI (a 2) 3 (gupd rf (-2 - (-2)) (rf (-2 - (-2)) + 1)), gA cI (a 3) 6 lk_, gA cI (a 5) 60 sh, gA cI (a 12) 8 pi, gA cI (a 13) 8 th, gA cI (a 14) 8 fl, gA cI (a 15) 8 so_, gA cI (a 16) 8 fr, gA cI (a 17) 2048 le, gA cI (a 18) 41 lg, gA cI (a 19) 112 bg]) [12, 0, 1, 13, 2, 3, 4, 5, 6, 7, 8, 9, 10, 11] rfl rfl ?_
            exact ret _ _ _ _ _ _ dX9_taken_79 rfl rfl (fun h => by cases h) (gPxi_e (_, _, bg) (by rw [(show o_taken A t m f se la fP fQ = (-2, 0, fP, fQ) from if_neg (by omega))]) (by rw [(show o_taken A t m f se la fP fQ = (-2, 0, fP, fQ) from if_neg (by omega)), hF.2.2.1]; rfl) (by rw [(show o_taken A t m f se la fP fQ = (-2, 0, fP, fQ) from if_neg (by omega))]; exact ⟨hF.1, hF.2.1, rfl, hF.2.2.2⟩))
          · refine g_iload (pc := 49) X dX9_taken_49 5 rfl ?_
            refine g_bipush (pc := 51) X dX9_taken_51 (by decide +kernel) ?_
            refine g_bipush (pc := 53) X dX9_taken_53 (by decide +kernel) ?_
            refine gc_Si (pc := 55) X (c_X9_in l D cI cZ la (-9) 9 (by omega) (by omega) (by omega)) lm_X9_50 dX9_taken_55 [] rfl rfl rfl rfl rfl rfl ?_
            refine g_ifeqB (pc := 58) X 65 dX9_taken_58 (by decide) (fun h58 => ?_) (fun h58 => ?_)
            · refine g_iconst (pc := 65) X dX9_taken_65 ?_
              refine g_istore (pc := 66) X (lv' := [(0, .ref q), (1, gi t), (2, gi m), (3, gi f), (4, gi se), (5, gi la), (6, gi 0)]) dX9_taken_66 rfl rfl ?_
              refine g_iload (pc := 68) X dX9_taken_68 6 rfl ?_
              refine g_ifne (pc := 70) X 80 dX9_taken_70 (by decide) (by omega) (fun h70 => absurd h70 (by omega)) (fun h70 => ?_)
              refine g_aload_n (pc := 73) X dX9_taken_73 0 rfl ?_
              refine g_bipush (pc := 74) X dX9_taken_74 (by decide +kernel) ?_
              refine gc_Vxi (pc := 76) X (wr := [gA cI (a 0) 1140 A, gA cZ (a 1) 2 kp, gA cI (a 3) 6 lk_, gA cI (a 5) 60 sh, gA cI (a 12) 8 pi, gA cI (a 13) 8 th, gA cI (a 14) 8 fl, gA cI (a 15) 8 so_, gA cI (a 16) 8 fr, gA cI (a 17) 2048 le, gA cI (a 18) 41 lg, gA cI (a 19) 112 bg]) (c_X9_refuse l D cI cZ q a al at_ st so va fa pl sg su rf (-2) (by omega)) lm_X9_54 dX9_taken_76 [0, 3] [1, 2, 4, 5, 6, 7, 8, 9, 10, 11, 12, 13] rfl rfl rfl rfl (by decide) rfl rfl rfl rfl rfl rfl (fun x76 hx76 => ?_)
              refine g_pick (cn := 0) (sl := 0) (st := gi (-2) :: []) X (ws' := [oM q a al at_ st so va fa pl sg su, gA cI (a 0) 1140 A, gA cZ (a 1) 2 kp, gA cI (a 2) 3 (gupd rf (-2 - (-2)) (rf (-2 - (-2)) + 1)), gA cI (a 3) 6 lk_, gA cI (a 5) 60 sh, gA cI (a 12) 8 pi, gA cI (a 13) 8 th, gA cI (a 14) 8 fl, gA cI (a 15) 8 so_, gA cI (a 16) 8 fr, gA cI (a 17) 2048 le, gA cI (a 18) 41 lg, gA cI (a 19) 112 bg]) [12, 0, 1, 13, 2, 3, 4, 5, 6, 7, 8, 9, 10, 11] rfl rfl ?_
              exact ret _ _ _ _ _ _ dX9_taken_79 rfl rfl (fun h => by cases h) (gPxi_e (_, _, bg) (by rw [(show o_taken A t m f se la fP fQ = (-2, 0, fP, fQ) from if_neg (by omega))]) (by rw [(show o_taken A t m f se la fP fQ = (-2, 0, fP, fQ) from if_neg (by omega)), hF.2.2.1]; rfl) (by rw [(show o_taken A t m f se la fP fQ = (-2, 0, fP, fQ) from if_neg (by omega))]; exact ⟨hF.1, hF.2.1, rfl, hF.2.2.2⟩))
            · refine g_iconst (pc := 61) X dX9_taken_61 ?_
              refine g_goto (pc := 62) X 66 dX9_taken_62 (by decide) ?_
              refine g_istore (pc := 66) X (lv' := [(0, .ref q), (1, gi t), (2, gi m), (3, gi f), (4, gi se), (5, gi la), (6, gi 1)]) dX9_taken_66 rfl rfl ?_
              refine g_iload (pc := 68) X dX9_taken_68 6 rfl ?_
              refine g_ifne (pc := 70) X 80 dX9_taken_70 (by decide) (by omega) (fun h70 => ?_) (fun h70 => absurd h70 (by omega))
              refine g_aload_n (pc := 80) X dX9_taken_80 0 rfl ?_
              refine g_iload_n (pc := 81) X dX9_taken_81 1 rfl ?_
              refine g_iload_n (pc := 82) X dX9_taken_82 3 rfl ?_
              refine g_iload (pc := 83) X dX9_taken_83 4 rfl ?_
              refine g_iload (pc := 85) X dX9_taken_85 5 rfl ?_
              refine gc_Vxv (pc := 87) X (wr := [gA cZ (a 1) 2 kp, gA cI (a 2) 3 rf, gA cI (a 5) 60 sh, gA cI (a 12) 8 pi, gA cI (a 13) 8 th, gA cI (a 14) 8 fl, gA cI (a 15) 8 so_, gA cI (a 16) 8 fr, gA cI (a 17) 2048 le, gA cI (a 18) 41 lg, gA cI (a 19) 112 bg]) (c_X9_weigh l D cI cZ q a al at_ st so va fa pl sg su A lk_ t f se la hA (by omega) (by omega) (by omega) (by omega)) lm_X9_89 dX9_taken_87 [0, 1, 4] [2, 3, 5, 6, 7, 8, 9, 10, 11, 12, 13] rfl rfl rfl rfl (by decide) rfl rfl rfl rfl rfl rfl (fun x87 hx87 => ?_)
              generalize x87 = g_87 at hx87 ⊢
              have hg_87 : ∀ mm, 0 ≤ mm → mm < A 1 → g_87 mm = sLk A t mm f se la := hx87
              refine g_pick (cn := 0) (sl := 0) (st := []) X (ws' := [oM q a (sTt A t f se la) at_ st so va fa pl sg su, gA cI (a 0) 1140 A, gA cZ (a 1) 2 kp, gA cI (a 2) 3 rf, gA cI (a 3) 6 g_87, gA cI (a 5) 60 sh, gA cI (a 12) 8 pi, gA cI (a 13) 8 th, gA cI (a 14) 8 fl, gA cI (a 15) 8 so_, gA cI (a 16) 8 fr, gA cI (a 17) 2048 le, gA cI (a 18) 41 lg, gA cI (a 19) 112 bg]) [11, 12, 0, 1, 13, 2, 3, 4, 5, 6, 7, 8, 9, 10] rfl rfl ?_
              refine g_aload_n (pc := 90) X dX9_taken_90 0 rfl ?_
              refine g_get (pc := 91) X fl_X9_85 dX9_taken_91 0 (v := gi (sTt A t f se la)) rfl rfl ?_
              have htt := sTt_b hA (t := t) (far := f) (seen := se) (late := la) (by omega) (by omega)
              refine g_ifne (pc := 94) X 104 dX9_taken_94 (by decide) (by omega) (fun h94 => ?_) (fun h94 => ?_)
              · refine g_aload_n (pc := 104) X dX9_taken_104 0 rfl ?_
                refine g_iconst (pc := 105) X dX9_taken_105 ?_
                refine g_aload_n (pc := 106) X dX9_taken_106 0 rfl ?_
                refine g_get (pc := 107) X fl_X9_20 dX9_taken_107 0 (v := .ref (a 3)) rfl rfl ?_
                refine g_iload_n (pc := 110) X dX9_taken_110 2 rfl ?_
                refine g_iald (pc := 111) X dX9_taken_111 4 rfl (by omega) rfl ?_
                refine g_top (b := sLk A t m f se la) (hg_87 m (by omega) (by omega)) ?_
                have hlk := sLk_b hA (t := t) (m := m) (far := f) (seen := se) (late := la) (by omega) (by omega) (by omega)
                refine gc_Vxv (pc := 112) X (wr := [gA cI (a 0) 1140 A, gA cZ (a 1) 2 kp, gA cI (a 2) 3 rf, gA cI (a 3) 6 g_87, gA cI (a 5) 60 sh, gA cI (a 12) 8 pi, gA cI (a 13) 8 th, gA cI (a 14) 8 fl, gA cI (a 15) 8 so_, gA cI (a 16) 8 fr, gA cI (a 17) 2048 le, gA cI (a 18) 41 lg]) (c_X9_set l D cI cZ q a (sTt A t f se la) at_ st so va fa pl sg su bg 0 (sLk A t m f se la) (by first | assumption | exact wr_o (by assumption)) (by omega) (by omega)) lm_X9_93 dX9_taken_112 [0, 13] [1, 2, 3, 4, 5, 6, 7, 8, 9, 10, 11, 12] rfl rfl rfl rfl (by decide) rfl rfl rfl rfl rfl rfl (fun x112 hx112 => ?_)
                generalize x112 = g_112 at hx112 ⊢
                have hw_112 : wrote 0 ((sLk A t m f se la)) bg g_112 := hx112
                refine g_pick (cn := 0) (sl := 0) (st := []) X (ws' := [oM q a (sTt A t f se la) at_ st so va fa pl sg su, gA cI (a 0) 1140 A, gA cZ (a 1) 2 kp, gA cI (a 2) 3 rf, gA cI (a 3) 6 g_87, gA cI (a 5) 60 sh, gA cI (a 12) 8 pi, gA cI (a 13) 8 th, gA cI (a 14) 8 fl, gA cI (a 15) 8 so_, gA cI (a 16) 8 fr, gA cI (a 17) 2048 le, gA cI (a 18) 41 lg, gA cI (a 19) 112 g_112]) [12, 0, 1, 2, 3, 4, 5, 6, 7, 8, 9, 10, 11, 13] rfl rfl ?_
                refine g_aload_n (pc := 115) X dX9_taken_115 0 rfl ?_
                refine g_iconst (pc := 116) X dX9_taken_116 ?_
                refine g_aload_n (pc := 117) X dX9_taken_117 0 rfl ?_
                refine g_get (pc := 118) X fl_X9_85 dX9_taken_118 0 (v := gi (sTt A t f se la)) rfl rfl ?_
                refine gc_Vxv (pc := 121) X (wr := [gA cI (a 0) 1140 A, gA cZ (a 1) 2 kp, gA cI (a 2) 3 rf, gA cI (a 3) 6 g_87, gA cI (a 5) 60 sh, gA cI (a 12) 8 pi, gA cI (a 13) 8 th, gA cI (a 14) 8 fl, gA cI (a 15) 8 so_, gA cI (a 16) 8 fr, gA cI (a 17) 2048 le, gA cI (a 18) 41 lg]) (c_X9_set l D cI cZ q a (sTt A t f se la) at_ st so va fa pl sg su g_112 1 (sTt A t f se la) (by first | assumption | exact wr_o (by assumption)) (by omega) (by omega)) lm_X9_93 dX9_taken_121 [0, 13] [1, 2, 3, 4, 5, 6, 7, 8, 9, 10, 11, 12] rfl rfl rfl rfl (by decide) rfl rfl rfl rfl rfl rfl (fun x121 hx121 => ?_)
                generalize x121 = g_121 at hx121 ⊢
                have hw_121 : wrote 1 ((sTt A t f se la)) g_112 g_121 := hx121
                refine g_pick (cn := 0) (sl := 0) (st := []) X (ws' := [oM q a (sTt A t f se la) at_ st so va fa pl sg su, gA cI (a 0) 1140 A, gA cZ (a 1) 2 kp, gA cI (a 2) 3 rf, gA cI (a 3) 6 g_87, gA cI (a 5) 60 sh, gA cI (a 12) 8 pi, gA cI (a 13) 8 th, gA cI (a 14) 8 fl, gA cI (a 15) 8 so_, gA cI (a 16) 8 fr, gA cI (a 17) 2048 le, gA cI (a 18) 41 lg, gA cI (a 19) 112 g_121]) [12, 0, 1, 2, 3, 4, 5, 6, 7, 8, 9, 10, 11, 13] rfl rfl ?_
                refine g_aload_n (pc := 124) X dX9_taken_124 0 rfl ?_
                refine gc_Vxv (pc := 125) X (wr := [gA cI (a 0) 1140 A, gA cZ (a 1) 2 kp, gA cI (a 2) 3 rf, gA cI (a 3) 6 g_87, gA cI (a 5) 60 sh, gA cI (a 12) 8 pi, gA cI (a 13) 8 th, gA cI (a 14) 8 fl, gA cI (a 15) 8 so_, gA cI (a 16) 8 fr, gA cI (a 17) 2048 le, gA cI (a 18) 41 lg]) (c_X9_tell l D cI cZ q a (sTt A t f se la) at_ st so va fa pl sg su g_121 (by first | assumption | exact wr_o (by assumption)) (by rw [wr_k hw_121]; omega)) lm_X9_97 dX9_taken_125 [0, 13] [1, 2, 3, 4, 5, 6, 7, 8, 9, 10, 11, 12] rfl rfl rfl rfl (by decide) rfl rfl rfl rfl rfl rfl (fun x125 hx125 => ?_)
                generalize x125 = g_125 at hx125 ⊢
                obtain ⟨hok_125, h0_125, h1_125⟩ : (okB g_125) ∧ (nv g_125 0 = nv g_121 0 / gc (nv g_121 0) (nv g_121 1)) ∧ (nv g_125 1 = nv g_121 1 / gc (nv g_121 0) (nv g_121 1)) := hx125
                refine g_pick (cn := 0) (sl := 0) (st := []) X (ws' := [oM q a (sTt A t f se la) at_ st so va fa pl (if nv g_121 0 = 0 then (0 : Int) else 1) su, gA cI (a 0) 1140 A, gA cZ (a 1) 2 kp, gA cI (a 2) 3 rf, gA cI (a 3) 6 g_87, gA cI (a 5) 60 sh, gA cI (a 12) 8 pi, gA cI (a 13) 8 th, gA cI (a 14) 8 fl, gA cI (a 15) 8 so_, gA cI (a 16) 8 fr, gA cI (a 17) 2048 le, gA cI (a 18) 41 lg, gA cI (a 19) 112 g_125]) [12, 0, 1, 2, 3, 4, 5, 6, 7, 8, 9, 10, 11, 13] rfl rfl ?_
                refine g_iconst (pc := 128) X dX9_taken_128 ?_
                have hfr := frM_t (f := g_121) (P := sLk A t m f se la) (Q := sTt A t f se la) hok_125 (by omega) (by omega) ((wr_n hw_121 (by decide)).trans (wr_k hw_112)) (wr_k hw_121) h0_125 h1_125
                exact ret _ _ _ _ _ _ dX9_taken_129 rfl rfl (fun h => by cases h) (gPxi_e (_, _, _) (by rw [(show o_taken A t m f se la fP fQ = (1, -1, redP (sLk A t m f se la) (sTt A t f se la), redQ (sLk A t m f se la) (sTt A t f se la)) from (if_pos (by omega)).trans (if_neg (by omega)))]) (by rw [(show o_taken A t m f se la fP fQ = (1, -1, redP (sLk A t m f se la) (sTt A t f se la), redQ (sLk A t m f se la) (sTt A t f se la)) from (if_pos (by omega)).trans (if_neg (by omega))), hfr.2.2.1]; rfl) (by rw [(show o_taken A t m f se la fP fQ = (1, -1, redP (sLk A t m f se la) (sTt A t f se la), redQ (sLk A t m f se la) (sTt A t f se la)) from (if_pos (by omega)).trans (if_neg (by omega)))]; exact ⟨hfr.1, hfr.2.1, rfl, hfr.2.2.2⟩))
              · refine g_aload_n (pc := 97) X dX9_taken_97 0 rfl ?_
                refine g_bipush (pc := 98) X dX9_taken_98 (by decide +kernel) ?_
                refine gc_Vxi (pc := 100) X (wr := [gA cI (a 0) 1140 A, gA cZ (a 1) 2 kp, gA cI (a 3) 6 g_87, gA cI (a 5) 60 sh, gA cI (a 12) 8 pi, gA cI (a 13) 8 th, gA cI (a 14) 8 fl, gA cI (a 15) 8 so_, gA cI (a 16) 8 fr, gA cI (a 17) 2048 le, gA cI (a 18) 41 lg, gA cI (a 19) 112 bg]) (c_X9_refuse l D cI cZ q a (sTt A t f se la) at_ st so va fa pl sg su rf (-3) (by omega)) lm_X9_54 dX9_taken_100 [0, 3] [1, 2, 4, 5, 6, 7, 8, 9, 10, 11, 12, 13] rfl rfl rfl rfl (by decide) rfl rfl rfl rfl rfl rfl (fun x100 hx100 => ?_)
                refine g_pick (cn := 0) (sl := 0) (st := gi (-3) :: []) X (ws' := [oM q a (sTt A t f se la) at_ st so va fa pl sg su, gA cI (a 0) 1140 A, gA cZ (a 1) 2 kp, gA cI (a 2) 3 (gupd rf (-2 - (-3)) (rf (-2 - (-3)) + 1)), gA cI (a 3) 6 g_87, gA cI (a 5) 60 sh, gA cI (a 12) 8 pi, gA cI (a 13) 8 th, gA cI (a 14) 8 fl, gA cI (a 15) 8 so_, gA cI (a 16) 8 fr, gA cI (a 17) 2048 le, gA cI (a 18) 41 lg, gA cI (a 19) 112 bg]) [12, 0, 1, 13, 2, 3, 4, 5, 6, 7, 8, 9, 10, 11] rfl rfl ?_
                exact ret _ _ _ _ _ _ dX9_taken_103 rfl rfl (fun h => by cases h) (gPxi_e (_, _, bg) (by rw [(show o_taken A t m f se la fP fQ = (-3, 1, fP, fQ) from (if_pos (by omega)).trans (if_pos h94))]) (by rw [(show o_taken A t m f se la fP fQ = (-3, 1, fP, fQ) from (if_pos (by omega)).trans (if_pos h94)), hF.2.2.1]; rfl) (by rw [(show o_taken A t m f se la fP fQ = (-3, 1, fP, fQ) from (if_pos (by omega)).trans (if_pos h94))]; exact ⟨hF.1, hF.2.1, rfl, hF.2.2.2⟩))
        · refine g_iload (pc := 32) X dX9_taken_32 5 rfl ?_
          refine g_ifne (pc := 34) X 65 dX9_taken_34 (by decide) (by omega) (fun h34 => ?_) (fun h34 => ?_)
          · refine g_iconst (pc := 65) X dX9_taken_65 ?_
            refine g_istore (pc := 66) X (lv' := [(0, .ref q), (1, gi t), (2, gi m), (3, gi f), (4, gi se), (5, gi la), (6, gi 0)]) dX9_taken_66 rfl rfl ?_
            refine g_iload (pc := 68) X dX9_taken_68 6 rfl ?_
            refine g_ifne (pc := 70) X 80 dX9_taken_70 (by decide) (by omega) (fun h70 => absurd h70 (by omega)) (fun h70 => ?_)
            refine g_aload_n (pc := 73) X dX9_taken_73 0 rfl ?_
            refine g_bipush (pc := 74) X dX9_taken_74 (by decide +kernel) ?_
            refine gc_Vxi (pc := 76) X (wr := [gA cI (a 0) 1140 A, gA cZ (a 1) 2 kp, gA cI (a 3) 6 lk_, gA cI (a 5) 60 sh, gA cI (a 12) 8 pi, gA cI (a 13) 8 th, gA cI (a 14) 8 fl, gA cI (a 15) 8 so_, gA cI (a 16) 8 fr, gA cI (a 17) 2048 le, gA cI (a 18) 41 lg, gA cI (a 19) 112 bg]) (c_X9_refuse l D cI cZ q a al at_ st so va fa pl sg su rf (-2) (by omega)) lm_X9_54 dX9_taken_76 [0, 3] [1, 2, 4, 5, 6, 7, 8, 9, 10, 11, 12, 13] rfl rfl rfl rfl (by decide) rfl rfl rfl rfl rfl rfl (fun x76 hx76 => ?_)
            refine g_pick (cn := 0) (sl := 0) (st := gi (-2) :: []) X (ws' := [oM q a al at_ st so va fa pl sg su, gA cI (a 0) 1140 A, gA cZ (a 1) 2 kp, gA cI (a 2) 3 (gupd rf (-2 - (-2)) (rf (-2 - (-2)) + 1)), gA cI (a 3) 6 lk_, gA cI (a 5) 60 sh, gA cI (a 12) 8 pi, gA cI (a 13) 8 th, gA cI (a 14) 8 fl, gA cI (a 15) 8 so_, gA cI (a 16) 8 fr, gA cI (a 17) 2048 le, gA cI (a 18) 41 lg, gA cI (a 19) 112 bg]) [12, 0, 1, 13, 2, 3, 4, 5, 6, 7, 8, 9, 10, 11] rfl rfl ?_
            exact ret _ _ _ _ _ _ dX9_taken_79 rfl rfl (fun h => by cases h) (gPxi_e (_, _, bg) (by rw [(show o_taken A t m f se la fP fQ = (-2, 0, fP, fQ) from if_neg (by omega))]) (by rw [(show o_taken A t m f se la fP fQ = (-2, 0, fP, fQ) from if_neg (by omega)), hF.2.2.1]; rfl) (by rw [(show o_taken A t m f se la fP fQ = (-2, 0, fP, fQ) from if_neg (by omega))]; exact ⟨hF.1, hF.2.1, rfl, hF.2.2.2⟩))
          · refine g_goto (pc := 37) X 61 dX9_taken_37 (by decide) ?_
            refine g_iconst (pc := 61) X dX9_taken_61 ?_
            refine g_goto (pc := 62) X 66 dX9_taken_62 (by decide) ?_
            refine g_istore (pc := 66) X (lv' := [(0, .ref q), (1, gi t), (2, gi m), (3, gi f), (4, gi se), (5, gi la), (6, gi 1)]) dX9_taken_66 rfl rfl ?_
            refine g_iload (pc := 68) X dX9_taken_68 6 rfl ?_
            refine g_ifne (pc := 70) X 80 dX9_taken_70 (by decide) (by omega) (fun h70 => ?_) (fun h70 => absurd h70 (by omega))
            refine g_aload_n (pc := 80) X dX9_taken_80 0 rfl ?_
            refine g_iload_n (pc := 81) X dX9_taken_81 1 rfl ?_
            refine g_iload_n (pc := 82) X dX9_taken_82 3 rfl ?_
            refine g_iload (pc := 83) X dX9_taken_83 4 rfl ?_
            refine g_iload (pc := 85) X dX9_taken_85 5 rfl ?_
            refine gc_Vxv (pc := 87) X (wr := [gA cZ (a 1) 2 kp, gA cI (a 2) 3 rf, gA cI (a 5) 60 sh, gA cI (a 12) 8 pi, gA cI (a 13) 8 th, gA cI (a 14) 8 fl, gA cI (a 15) 8 so_, gA cI (a 16) 8 fr, gA cI (a 17) 2048 le, gA cI (a 18) 41 lg, gA cI (a 19) 112 bg]) (c_X9_weigh l D cI cZ q a al at_ st so va fa pl sg su A lk_ t f se la hA (by omega) (by omega) (by omega) (by omega)) lm_X9_89 dX9_taken_87 [0, 1, 4] [2, 3, 5, 6, 7, 8, 9, 10, 11, 12, 13] rfl rfl rfl rfl (by decide) rfl rfl rfl rfl rfl rfl (fun x87 hx87 => ?_)
            generalize x87 = g_87 at hx87 ⊢
            have hg_87 : ∀ mm, 0 ≤ mm → mm < A 1 → g_87 mm = sLk A t mm f se la := hx87
            refine g_pick (cn := 0) (sl := 0) (st := []) X (ws' := [oM q a (sTt A t f se la) at_ st so va fa pl sg su, gA cI (a 0) 1140 A, gA cZ (a 1) 2 kp, gA cI (a 2) 3 rf, gA cI (a 3) 6 g_87, gA cI (a 5) 60 sh, gA cI (a 12) 8 pi, gA cI (a 13) 8 th, gA cI (a 14) 8 fl, gA cI (a 15) 8 so_, gA cI (a 16) 8 fr, gA cI (a 17) 2048 le, gA cI (a 18) 41 lg, gA cI (a 19) 112 bg]) [11, 12, 0, 1, 13, 2, 3, 4, 5, 6, 7, 8, 9, 10] rfl rfl ?_
            refine g_aload_n (pc := 90) X dX9_taken_90 0 rfl ?_
            refine g_get (pc := 91) X fl_X9_85 dX9_taken_91 0 (v := gi (sTt A t f se la)) rfl rfl ?_
            have htt := sTt_b hA (t := t) (far := f) (seen := se) (late := la) (by omega) (by omega)
            refine g_ifne (pc := 94) X 104 dX9_taken_94 (by decide) (by omega) (fun h94 => ?_) (fun h94 => ?_)
            · refine g_aload_n (pc := 104) X dX9_taken_104 0 rfl ?_
              refine g_iconst (pc := 105) X dX9_taken_105 ?_
              refine g_aload_n (pc := 106) X dX9_taken_106 0 rfl ?_
              refine g_get (pc := 107) X fl_X9_20 dX9_taken_107 0 (v := .ref (a 3)) rfl rfl ?_
              refine g_iload_n (pc := 110) X dX9_taken_110 2 rfl ?_
              refine g_iald (pc := 111) X dX9_taken_111 4 rfl (by omega) rfl ?_
              refine g_top (b := sLk A t m f se la) (hg_87 m (by omega) (by omega)) ?_
              have hlk := sLk_b hA (t := t) (m := m) (far := f) (seen := se) (late := la) (by omega) (by omega) (by omega)
              refine gc_Vxv (pc := 112) X (wr := [gA cI (a 0) 1140 A, gA cZ (a 1) 2 kp, gA cI (a 2) 3 rf, gA cI (a 3) 6 g_87, gA cI (a 5) 60 sh, gA cI (a 12) 8 pi, gA cI (a 13) 8 th, gA cI (a 14) 8 fl, gA cI (a 15) 8 so_, gA cI (a 16) 8 fr, gA cI (a 17) 2048 le, gA cI (a 18) 41 lg]) (c_X9_set l D cI cZ q a (sTt A t f se la) at_ st so va fa pl sg su bg 0 (sLk A t m f se la) (by first | assumption | exact wr_o (by assumption)) (by omega) (by omega)) lm_X9_93 dX9_taken_112 [0, 13] [1, 2, 3, 4, 5, 6, 7, 8, 9, 10, 11, 12] rfl rfl rfl rfl (by decide) rfl rfl rfl rfl rfl rfl (fun x112 hx112 => ?_)
              generalize x112 = g_112 at hx112 ⊢
              have hw_112 : wrote 0 ((sLk A t m f se la)) bg g_112 := hx112
              refine g_pick (cn := 0) (sl := 0) (st := []) X (ws' := [oM q a (sTt A t f se la) at_ st so va fa pl sg su, gA cI (a 0) 1140 A, gA cZ (a 1) 2 kp, gA cI (a 2) 3 rf, gA cI (a 3) 6 g_87, gA cI (a 5) 60 sh, gA cI (a 12) 8 pi, gA cI (a 13) 8 th, gA cI (a 14) 8 fl, gA cI (a 15) 8 so_, gA cI (a 16) 8 fr, gA cI (a 17) 2048 le, gA cI (a 18) 41 lg, gA cI (a 19) 112 g_112]) [12, 0, 1, 2, 3, 4, 5, 6, 7, 8, 9, 10, 11, 13] rfl rfl ?_
              refine g_aload_n (pc := 115) X dX9_taken_115 0 rfl ?_
              refine g_iconst (pc := 116) X dX9_taken_116 ?_
              refine g_aload_n (pc := 117) X dX9_taken_117 0 rfl ?_
              refine g_get (pc := 118) X fl_X9_85 dX9_taken_118 0 (v := gi (sTt A t f se la)) rfl rfl ?_
              refine gc_Vxv (pc := 121) X (wr := [gA cI (a 0) 1140 A, gA cZ (a 1) 2 kp, gA cI (a 2) 3 rf, gA cI (a 3) 6 g_87, gA cI (a 5) 60 sh, gA cI (a 12) 8 pi, gA cI (a 13) 8 th, gA cI (a 14) 8 fl, gA cI (a 15) 8 so_, gA cI (a 16) 8 fr, gA cI (a 17) 2048 le, gA cI (a 18) 41 lg]) (c_X9_set l D cI cZ q a (sTt A t f se la) at_ st so va fa pl sg su g_112 1 (sTt A t f se la) (by first | assumption | exact wr_o (by assumption)) (by omega) (by omega)) lm_X9_93 dX9_taken_121 [0, 13] [1, 2, 3, 4, 5, 6, 7, 8, 9, 10, 11, 12] rfl rfl rfl rfl (by decide) rfl rfl rfl rfl rfl rfl (fun x121 hx121 => ?_)
              generalize x121 = g_121 at hx121 ⊢
              have hw_121 : wrote 1 ((sTt A t f se la)) g_112 g_121 := hx121
              refine g_pick (cn := 0) (sl := 0) (st := []) X (ws' := [oM q a (sTt A t f se la) at_ st so va fa pl sg su, gA cI (a 0) 1140 A, gA cZ (a 1) 2 kp, gA cI (a 2) 3 rf, gA cI (a 3) 6 g_87, gA cI (a 5) 60 sh, gA cI (a 12) 8 pi, gA cI (a 13) 8 th, gA cI (a 14) 8 fl, gA cI (a 15) 8 so_, gA cI (a 16) 8 fr, gA cI (a 17) 2048 le, gA cI (a 18) 41 lg, gA cI (a 19) 112 g_121]) [12, 0, 1, 2, 3, 4, 5, 6, 7, 8, 9, 10, 11, 13] rfl rfl ?_
              refine g_aload_n (pc := 124) X dX9_taken_124 0 rfl ?_
              refine gc_Vxv (pc := 125) X (wr := [gA cI (a 0) 1140 A, gA cZ (a 1) 2 kp, gA cI (a 2) 3 rf, gA cI (a 3) 6 g_87, gA cI (a 5) 60 sh, gA cI (a 12) 8 pi, gA cI (a 13) 8 th, gA cI (a 14) 8 fl, gA cI (a 15) 8 so_, gA cI (a 16) 8 fr, gA cI (a 17) 2048 le, gA cI (a 18) 41 lg]) (c_X9_tell l D cI cZ q a (sTt A t f se la) at_ st so va fa pl sg su g_121 (by first | assumption | exact wr_o (by assumption)) (by rw [wr_k hw_121]; omega)) lm_X9_97 dX9_taken_125 [0, 13] [1, 2, 3, 4, 5, 6, 7, 8, 9, 10, 11, 12] rfl rfl rfl rfl (by decide) rfl rfl rfl rfl rfl rfl (fun x125 hx125 => ?_)
              generalize x125 = g_125 at hx125 ⊢
              obtain ⟨hok_125, h0_125, h1_125⟩ : (okB g_125) ∧ (nv g_125 0 = nv g_121 0 / gc (nv g_121 0) (nv g_121 1)) ∧ (nv g_125 1 = nv g_121 1 / gc (nv g_121 0) (nv g_121 1)) := hx125
              refine g_pick (cn := 0) (sl := 0) (st := []) X (ws' := [oM q a (sTt A t f se la) at_ st so va fa pl (if nv g_121 0 = 0 then (0 : Int) else 1) su, gA cI (a 0) 1140 A, gA cZ (a 1) 2 kp, gA cI (a 2) 3 rf, gA cI (a 3) 6 g_87, gA cI (a 5) 60 sh, gA cI (a 12) 8 pi, gA cI (a 13) 8 th, gA cI (a 14) 8 fl, gA cI (a 15) 8 so_, gA cI (a 16) 8 fr, gA cI (a 17) 2048 le, gA cI (a 18) 41 lg, gA cI (a 19) 112 g_125]) [12, 0, 1, 2, 3, 4, 5, 6, 7, 8, 9, 10, 11, 13] rfl rfl ?_
              refine g_iconst (pc := 128) X dX9_taken_128 ?_
              have hfr := frM_t (f := g_121) (P := sLk A t m f se la) (Q := sTt A t f se la) hok_125 (by omega) (by omega) ((wr_n hw_121 (by decide)).trans (wr_k hw_112)) (wr_k hw_121) h0_125 h1_125
              exact ret _ _ _ _ _ _ dX9_taken_129 rfl rfl (fun h => by cases h) (gPxi_e (_, _, _) (by rw [(show o_taken A t m f se la fP fQ = (1, -1, redP (sLk A t m f se la) (sTt A t f se la), redQ (sLk A t m f se la) (sTt A t f se la)) from (if_pos (by omega)).trans (if_neg (by omega)))]) (by rw [(show o_taken A t m f se la fP fQ = (1, -1, redP (sLk A t m f se la) (sTt A t f se la), redQ (sLk A t m f se la) (sTt A t f se la)) from (if_pos (by omega)).trans (if_neg (by omega))), hfr.2.2.1]; rfl) (by rw [(show o_taken A t m f se la fP fQ = (1, -1, redP (sLk A t m f se la) (sTt A t f se la), redQ (sLk A t m f se la) (sTt A t f se la)) from (if_pos (by omega)).trans (if_neg (by omega)))]; exact ⟨hfr.1, hfr.2.1, rfl, hfr.2.2.2⟩))
            · refine g_aload_n (pc := 97) X dX9_taken_97 0 rfl ?_
              refine g_bipush (pc := 98) X dX9_taken_98 (by decide +kernel) ?_
              refine gc_Vxi (pc := 100) X (wr := [gA cI (a 0) 1140 A, gA cZ (a 1) 2 kp, gA cI (a 3) 6 g_87, gA cI (a 5) 60 sh, gA cI (a 12) 8 pi, gA cI (a 13) 8 th, gA cI (a 14) 8 fl, gA cI (a 15) 8 so_, gA cI (a 16) 8 fr, gA cI (a 17) 2048 le, gA cI (a 18) 41 lg, gA cI (a 19) 112 bg]) (c_X9_refuse l D cI cZ q a (sTt A t f se la) at_ st so va fa pl sg su rf (-3) (by omega)) lm_X9_54 dX9_taken_100 [0, 3] [1, 2, 4, 5, 6, 7, 8, 9, 10, 11, 12, 13] rfl rfl rfl rfl (by decide) rfl rfl rfl rfl rfl rfl (fun x100 hx100 => ?_)
              refine g_pick (cn := 0) (sl := 0) (st := gi (-3) :: []) X (ws' := [oM q a (sTt A t f se la) at_ st so va fa pl sg su, gA cI (a 0) 1140 A, gA cZ (a 1) 2 kp, gA cI (a 2) 3 (gupd rf (-2 - (-3)) (rf (-2 - (-3)) + 1)), gA cI (a 3) 6 g_87, gA cI (a 5) 60 sh, gA cI (a 12) 8 pi, gA cI (a 13) 8 th, gA cI (a 14) 8 fl, gA cI (a 15) 8 so_, gA cI (a 16) 8 fr, gA cI (a 17) 2048 le, gA cI (a 18) 41 lg, gA cI (a 19) 112 bg]) [12, 0, 1, 13, 2, 3, 4, 5, 6, 7, 8, 9, 10, 11] rfl rfl ?_
              exact ret _ _ _ _ _ _ dX9_taken_103 rfl rfl (fun h => by cases h) (gPxi_e (_, _, bg) (by rw [(show o_taken A t m f se la fP fQ = (-3, 1, fP, fQ) from (if_pos (by omega)).trans (if_pos h94))]) (by rw [(show o_taken A t m f se la fP fQ = (-3, 1, fP, fQ) from (if_pos (by omega)).trans (if_pos h94)), hF.2.2.1]; rfl) (by rw [(show o_taken A t m f se la fP fQ = (-3, 1, fP, fQ) from (if_pos (by omega)).trans (if_pos h94))]; exact ⟨hF.1, hF.2.1, rfl, hF.2.2.2⟩))

set_option maxHeartbeats 4000000 in
set_option maxRecDepth 100000 in
theorem c_X9_most (l : Launch) (D : va_G) (cI cZ : ClassId) (q : Nat) (a : Nat → Nat) (al : Int) (at_ : Int) (st : Int) (so : Int) (va : Int) (fa : Int) (pl : Int) (sg : Int) (su : Int) (A : Int → Int) (kp : Int → Int) (rf : Int → Int) (lk_ : Int → Int) (sh : Int → Int) (pi : Int → Int) (th : Int → Int) (fl : Int → Int) (so_ : Int → Int) (fr : Int → Int) (le : Int → Int) (lg : Int → Int) (bg : Int → Int) (fP : Int) (fQ : Int) (t : Int) (m : Int) (n : Int) (k : Int) (hA : okA A) (hF : frM bg sg fP fQ) (ht : -2147483648 ≤ t ∧ t < 2147483648) (hm : -2147483648 ≤ m ∧ m < 2147483648) (hn : -2147483648 ≤ n ∧ n < 2147483648) (hk : -2147483648 ≤ k ∧ k < 2147483648) : GM l D cI cZ yX9_most cX9_most 8 (some .int) ({ frames := 7, cells := 0, slots := 0, locals := 174 }) 0 0 false [.ref q, gi t, gi m, gi n, gi k] [oM q a al at_ st so va fa pl sg su, gA cI (a 0) 1140 A, gA cZ (a 1) 2 kp, gA cI (a 2) 3 rf, gA cI (a 3) 6 lk_, gA cI (a 5) 60 sh, gA cI (a 12) 8 pi, gA cI (a 13) 8 th, gA cI (a 14) 8 fl, gA cI (a 15) 8 so_, gA cI (a 16) 8 fr, gA cI (a 17) 2048 le, gA cI (a 18) 41 lg, gA cI (a 19) 112 bg] (gPxi (fun xo : (Int → Int) × (Int) × (Int → Int) => (o_most A t m n k fP fQ).1) (fun xo : (Int → Int) × (Int) × (Int → Int) => [oM q a xo.2.1 at_ st so va fa pl (sgn (o_most A t m n k fP fQ).2.2.1) su, gA cI (a 0) 1140 A, gA cZ (a 1) 2 kp, gA cI (a 2) 3 (bump (o_most A t m n k fP fQ).2.1 rf), gA cI (a 3) 6 xo.1, gA cI (a 5) 60 sh, gA cI (a 12) 8 pi, gA cI (a 13) 8 th, gA cI (a 14) 8 fl, gA cI (a 15) 8 so_, gA cI (a 16) 8 fr, gA cI (a 17) 2048 le, gA cI (a 18) 41 lg, gA cI (a 19) 112 xo.2.2]) (fun xo : (Int → Int) × (Int) × (Int → Int) => (frM xo.2.2 (sgn (o_most A t m n k fP fQ).2.2.1) (o_most A t m n k fP fQ).2.2.1 (o_most A t m n k fP fQ).2.2.2))) := by
  refine g_enterI (z := false) (lv0 := [(0, .ref q), (1, gi t), (2, gi m), (3, gi n), (4, gi k)]) _ rfl (by decide) rfl rfl (fun V X ret => ?_)
  have hA1 := okA_1 hA
  have hA0 := okA_0 hA
  have hpu := okA_pu hA
  have hB := hF.1
  refine g_aload_n (pc := 0) X dX9_most_0 0 rfl ?_
  refine g_iload_n (pc := 1) X dX9_most_1 1 rfl ?_
  refine gc_Vi (pc := 2) X (c_X9_isThing l D cI cZ q a al at_ st so va fa pl sg su A t hA (by omega)) lm_X9_58 dX9_most_2 [0, 1] rfl rfl rfl rfl rfl rfl rfl rfl ?_
  refine g_ifeqB (pc := 5) X 36 dX9_most_5 (by decide) (fun h5 => ?_) (fun h5 => ?_)
  · refine g_aload_n (pc := 36) X dX9_most_36 0 rfl ?_
    refine g_bipush (pc := 37) X dX9_most_37 (by decide +kernel) ?_
    refine gc_Vxi (pc := 39) X (wr := [gA cI (a 0) 1140 A, gA cZ (a 1) 2 kp, gA cI (a 3) 6 lk_, gA cI (a 5) 60 sh, gA cI (a 12) 8 pi, gA cI (a 13) 8 th, gA cI (a 14) 8 fl, gA cI (a 15) 8 so_, gA cI (a 16) 8 fr, gA cI (a 17) 2048 le, gA cI (a 18) 41 lg, gA cI (a 19) 112 bg]) (c_X9_refuse l D cI cZ q a al at_ st so va fa pl sg su rf (-2) (by omega)) lm_X9_54 dX9_most_39 [0, 3] [1, 2, 4, 5, 6, 7, 8, 9, 10, 11, 12, 13] rfl rfl rfl rfl (by decide) rfl rfl rfl rfl rfl rfl (fun x39 hx39 => ?_)
    refine g_pick (cn := 0) (sl := 0) (st := gi (-2) :: []) X (ws' := [oM q a al at_ st so va fa pl sg su, gA cI (a 0) 1140 A, gA cZ (a 1) 2 kp, gA cI (a 2) 3 (gupd rf (-2 - (-2)) (rf (-2 - (-2)) + 1)), gA cI (a 3) 6 lk_, gA cI (a 5) 60 sh, gA cI (a 12) 8 pi, gA cI (a 13) 8 th, gA cI (a 14) 8 fl, gA cI (a 15) 8 so_, gA cI (a 16) 8 fr, gA cI (a 17) 2048 le, gA cI (a 18) 41 lg, gA cI (a 19) 112 bg]) [12, 0, 1, 13, 2, 3, 4, 5, 6, 7, 8, 9, 10, 11] rfl rfl ?_
    exact ret _ _ _ _ _ _ dX9_most_42 rfl rfl (fun h => by cases h) (gPxi_e (_, _, bg) (by rw [(show o_most A t m n k fP fQ = (-2, 0, fP, fQ) from if_neg (by omega))]) (by rw [(show o_most A t m n k fP fQ = (-2, 0, fP, fQ) from if_neg (by omega)), hF.2.2.1]; rfl) (by rw [(show o_most A t m n k fP fQ = (-2, 0, fP, fQ) from if_neg (by omega))]; exact ⟨hF.1, hF.2.1, rfl, hF.2.2.2⟩))
  · refine g_aload_n (pc := 8) X dX9_most_8 0 rfl ?_
    refine g_iload_n (pc := 9) X dX9_most_9 2 rfl ?_
    refine gc_Vi (pc := 10) X (c_X9_isMeaning l D cI cZ q a al at_ st so va fa pl sg su A m hA (by omega)) lm_X9_62 dX9_most_10 [0, 1] rfl rfl rfl rfl rfl rfl rfl rfl ?_
    refine g_ifeqB (pc := 13) X 36 dX9_most_13 (by decide) (fun h13 => ?_) (fun h13 => ?_)
    · refine g_aload_n (pc := 36) X dX9_most_36 0 rfl ?_
      refine g_bipush (pc := 37) X dX9_most_37 (by decide +kernel) ?_
      refine gc_Vxi (pc := 39) X (wr := [gA cI (a 0) 1140 A, gA cZ (a 1) 2 kp, gA cI (a 3) 6 lk_, gA cI (a 5) 60 sh, gA cI (a 12) 8 pi, gA cI (a 13) 8 th, gA cI (a 14) 8 fl, gA cI (a 15) 8 so_, gA cI (a 16) 8 fr, gA cI (a 17) 2048 le, gA cI (a 18) 41 lg, gA cI (a 19) 112 bg]) (c_X9_refuse l D cI cZ q a al at_ st so va fa pl sg su rf (-2) (by omega)) lm_X9_54 dX9_most_39 [0, 3] [1, 2, 4, 5, 6, 7, 8, 9, 10, 11, 12, 13] rfl rfl rfl rfl (by decide) rfl rfl rfl rfl rfl rfl (fun x39 hx39 => ?_)
      refine g_pick (cn := 0) (sl := 0) (st := gi (-2) :: []) X (ws' := [oM q a al at_ st so va fa pl sg su, gA cI (a 0) 1140 A, gA cZ (a 1) 2 kp, gA cI (a 2) 3 (gupd rf (-2 - (-2)) (rf (-2 - (-2)) + 1)), gA cI (a 3) 6 lk_, gA cI (a 5) 60 sh, gA cI (a 12) 8 pi, gA cI (a 13) 8 th, gA cI (a 14) 8 fl, gA cI (a 15) 8 so_, gA cI (a 16) 8 fr, gA cI (a 17) 2048 le, gA cI (a 18) 41 lg, gA cI (a 19) 112 bg]) [12, 0, 1, 13, 2, 3, 4, 5, 6, 7, 8, 9, 10, 11] rfl rfl ?_
      exact ret _ _ _ _ _ _ dX9_most_42 rfl rfl (fun h => by cases h) (gPxi_e (_, _, bg) (by rw [(show o_most A t m n k fP fQ = (-2, 0, fP, fQ) from if_neg (by omega))]) (by rw [(show o_most A t m n k fP fQ = (-2, 0, fP, fQ) from if_neg (by omega)), hF.2.2.1]; rfl) (by rw [(show o_most A t m n k fP fQ = (-2, 0, fP, fQ) from if_neg (by omega))]; exact ⟨hF.1, hF.2.1, rfl, hF.2.2.2⟩))
    · refine g_iload_n (pc := 16) X dX9_most_16 3 rfl ?_
      refine g_iconst (pc := 17) X dX9_most_17 ?_
      refine g_bipush (pc := 18) X dX9_most_18 (by decide +kernel) ?_
      refine gc_Si (pc := 20) X (c_X9_in l D cI cZ n 1 9 (by omega) (by omega) (by omega)) lm_X9_50 dX9_most_20 [] rfl rfl rfl rfl rfl rfl ?_
      refine g_ifeqB (pc := 23) X 36 dX9_most_23 (by decide) (fun h23 => ?_) (fun h23 => ?_)
      · refine g_aload_n (pc := 36) X dX9_most_36 0 rfl ?_
        refine g_bipush (pc := 37) X dX9_most_37 (by decide +kernel) ?_
        refine gc_Vxi (pc := 39) X (wr := [gA cI (a 0) 1140 A, gA cZ (a 1) 2 kp, gA cI (a 3) 6 lk_, gA cI (a 5) 60 sh, gA cI (a 12) 8 pi, gA cI (a 13) 8 th, gA cI (a 14) 8 fl, gA cI (a 15) 8 so_, gA cI (a 16) 8 fr, gA cI (a 17) 2048 le, gA cI (a 18) 41 lg, gA cI (a 19) 112 bg]) (c_X9_refuse l D cI cZ q a al at_ st so va fa pl sg su rf (-2) (by omega)) lm_X9_54 dX9_most_39 [0, 3] [1, 2, 4, 5, 6, 7, 8, 9, 10, 11, 12, 13] rfl rfl rfl rfl (by decide) rfl rfl rfl rfl rfl rfl (fun x39 hx39 => ?_)
        refine g_pick (cn := 0) (sl := 0) (st := gi (-2) :: []) X (ws' := [oM q a al at_ st so va fa pl sg su, gA cI (a 0) 1140 A, gA cZ (a 1) 2 kp, gA cI (a 2) 3 (gupd rf (-2 - (-2)) (rf (-2 - (-2)) + 1)), gA cI (a 3) 6 lk_, gA cI (a 5) 60 sh, gA cI (a 12) 8 pi, gA cI (a 13) 8 th, gA cI (a 14) 8 fl, gA cI (a 15) 8 so_, gA cI (a 16) 8 fr, gA cI (a 17) 2048 le, gA cI (a 18) 41 lg, gA cI (a 19) 112 bg]) [12, 0, 1, 13, 2, 3, 4, 5, 6, 7, 8, 9, 10, 11] rfl rfl ?_
        exact ret _ _ _ _ _ _ dX9_most_42 rfl rfl (fun h => by cases h) (gPxi_e (_, _, bg) (by rw [(show o_most A t m n k fP fQ = (-2, 0, fP, fQ) from if_neg (by omega))]) (by rw [(show o_most A t m n k fP fQ = (-2, 0, fP, fQ) from if_neg (by omega)), hF.2.2.1]; rfl) (by rw [(show o_most A t m n k fP fQ = (-2, 0, fP, fQ) from if_neg (by omega))]; exact ⟨hF.1, hF.2.1, rfl, hF.2.2.2⟩))
      · refine g_iload (pc := 26) X dX9_most_26 4 rfl ?_
        refine g_iconst (pc := 28) X dX9_most_28 ?_
        refine g_iload_n (pc := 29) X dX9_most_29 3 rfl ?_
        refine gc_Si (pc := 30) X (c_X9_in l D cI cZ k 0 n (by omega) (by omega) (by omega)) lm_X9_50 dX9_most_30 [] rfl rfl rfl rfl rfl rfl ?_
        refine g_ifneB (pc := 33) X 43 dX9_most_33 (by decide) (fun h33 => ?_) (fun h33 => ?_)
        · refine g_aload_n (pc := 43) X dX9_most_43 0 rfl ?_
          refine g_iload_n (pc := 44) X dX9_most_44 1 rfl ?_
          refine g_iconst (pc := 45) X dX9_most_45 ?_
          refine g_iconst (pc := 46) X dX9_most_46 ?_
          refine g_iconst (pc := 47) X dX9_most_47 ?_
          refine gc_Vxv (pc := 48) X (wr := [gA cZ (a 1) 2 kp, gA cI (a 2) 3 rf, gA cI (a 5) 60 sh, gA cI (a 12) 8 pi, gA cI (a 13) 8 th, gA cI (a 14) 8 fl, gA cI (a 15) 8 so_, gA cI (a 16) 8 fr, gA cI (a 17) 2048 le, gA cI (a 18) 41 lg, gA cI (a 19) 112 bg]) (c_X9_weigh l D cI cZ q a al at_ st so va fa pl sg su A lk_ t 0 (-1) 0 hA (by omega) (by omega) (by omega) (by omega)) lm_X9_89 dX9_most_48 [0, 1, 4] [2, 3, 5, 6, 7, 8, 9, 10, 11, 12, 13] rfl rfl rfl rfl (by decide) rfl rfl rfl rfl rfl rfl (fun x48 hx48 => ?_)
          generalize x48 = g_48 at hx48 ⊢
          have hg_48 : ∀ mm, 0 ≤ mm → mm < A 1 → g_48 mm = sLk A t mm 0 (-1) 0 := hx48
          refine g_pick (cn := 0) (sl := 0) (st := []) X (ws' := [oM q a (sTt A t 0 (-1) 0) at_ st so va fa pl sg su, gA cI (a 0) 1140 A, gA cZ (a 1) 2 kp, gA cI (a 2) 3 rf, gA cI (a 3) 6 g_48, gA cI (a 5) 60 sh, gA cI (a 12) 8 pi, gA cI (a 13) 8 th, gA cI (a 14) 8 fl, gA cI (a 15) 8 so_, gA cI (a 16) 8 fr, gA cI (a 17) 2048 le, gA cI (a 18) 41 lg, gA cI (a 19) 112 bg]) [11, 12, 0, 1, 13, 2, 3, 4, 5, 6, 7, 8, 9, 10] rfl rfl ?_
          refine g_aload_n (pc := 51) X dX9_most_51 0 rfl ?_
          refine g_get (pc := 52) X fl_X9_85 dX9_most_52 0 (v := gi (sTt A t 0 (-1) 0)) rfl rfl ?_
          refine g_top (b := sTot A t 0) sTt_0 ?_
          have hto := sTot_b hA (t := t) (far := 0) (by omega) (by omega)
          refine g_ifne (pc := 55) X 65 dX9_most_55 (by decide) (by omega) (fun h55 => ?_) (fun h55 => ?_)
          · have hlt := sLT hA (t := t) (m := m) (by omega) (by omega)
            have hlb := sLike_b hA (t := t) (m := m) (far := 0) (by omega) (by omega) (by omega)
            have hLT : 0 ≤ sLike A t m 0 ∧ sLike A t m 0 ≤ sTot A t 0 := by omega
            have hw48 : ∀ m, 0 ≤ m → m < A 1 → g_48 m = sLike A t m 0 := fun m m0 m1 => by rw [hg_48 m m0 m1, sLk_0 m0]
            refine g_aload_n (pc := 65) X dX9_most_65 0 rfl ?_
            refine g_iconst (pc := 66) X dX9_most_66 ?_
            refine g_iconst (pc := 67) X dX9_most_67 ?_
            refine gc_Vxv (pc := 68) X (wr := [gA cI (a 0) 1140 A, gA cZ (a 1) 2 kp, gA cI (a 2) 3 rf, gA cI (a 3) 6 g_48, gA cI (a 5) 60 sh, gA cI (a 12) 8 pi, gA cI (a 13) 8 th, gA cI (a 14) 8 fl, gA cI (a 15) 8 so_, gA cI (a 16) 8 fr, gA cI (a 17) 2048 le, gA cI (a 18) 41 lg]) (c_X9_set l D cI cZ q a (sTt A t 0 (-1) 0) at_ st so va fa pl sg su bg 0 0 (by first | assumption | exact wr_o (by assumption)) (by omega) (by omega)) lm_X9_93 dX9_most_68 [0, 13] [1, 2, 3, 4, 5, 6, 7, 8, 9, 10, 11, 12] rfl rfl rfl rfl (by decide) rfl rfl rfl rfl rfl rfl (fun x68 hx68 => ?_)
            generalize x68 = g_68 at hx68 ⊢
            have hw_68 : wrote 0 (0) bg g_68 := hx68
            refine g_pick (cn := 0) (sl := 0) (st := []) X (ws' := [oM q a (sTt A t 0 (-1) 0) at_ st so va fa pl sg su, gA cI (a 0) 1140 A, gA cZ (a 1) 2 kp, gA cI (a 2) 3 rf, gA cI (a 3) 6 g_48, gA cI (a 5) 60 sh, gA cI (a 12) 8 pi, gA cI (a 13) 8 th, gA cI (a 14) 8 fl, gA cI (a 15) 8 so_, gA cI (a 16) 8 fr, gA cI (a 17) 2048 le, gA cI (a 18) 41 lg, gA cI (a 19) 112 g_68]) [12, 0, 1, 2, 3, 4, 5, 6, 7, 8, 9, 10, 11, 13] rfl rfl ?_
            refine g_iconst (pc := 71) X dX9_most_71 ?_
            refine g_istore (pc := 72) X (lv' := [(0, .ref q), (1, gi t), (2, gi m), (3, gi n), (4, gi k), (5, gi 1)]) dX9_most_72 rfl rfl ?_
            refine g_iconst (pc := 74) X dX9_most_74 ?_
            refine g_istore (pc := 75) X (lv' := [(0, .ref q), (1, gi t), (2, gi m), (3, gi n), (4, gi k), (5, gi 1), (6, gi 0)]) dX9_most_75 rfl rfl ?_
            have L77 : ∀ (n77 : Nat) (c : Int) (j : Int) (e : Int → Int), (0 ≤ j ∧ j ≤ n + 1) → (c = wy n j) → (okB e) → (nv e 0 = mP n k (sLike A t m 0) (sTot A t 0) j) → (n + 1 - j).toNat < n77 → V 0 0 [oM q a (sTt A t 0 (-1) 0) at_ st so va fa pl sg su, gA cI (a 0) 1140 A, gA cZ (a 1) 2 kp, gA cI (a 2) 3 rf, gA cI (a 3) 6 g_48, gA cI (a 5) 60 sh, gA cI (a 12) 8 pi, gA cI (a 13) 8 th, gA cI (a 14) 8 fl, gA cI (a 15) 8 so_, gA cI (a 16) 8 fr, gA cI (a 17) 2048 le, gA cI (a 18) 41 lg, gA cI (a 19) 112 e] 77 [(0, .ref q), (1, gi t), (2, gi m), (3, gi n), (4, gi k), (5, gi c), (6, gi j)] [] := by
              intro n77
              induction n77 with
              | zero => intro c j e hj hc hE hs hn77; exact absurd hn77 (Nat.not_lt_zero _)
              | succ n77 ih77 =>
                intro c j e hj hc hE hs hn77
                have hwb := wy_b (n := n) (j := j) (by omega) (by omega)
                rw [← hc] at hwb
                have hpb := mP_b (n := n) (k := k) (L := (sLike A t m 0)) (T := (sTot A t 0)) (i := j) (by omega) hLT (by omega) (by omega)
                refine g_iload (pc := 77) X dX9_most_77 6 rfl ?_
                refine g_iload_n (pc := 79) X dX9_most_79 3 rfl ?_
                refine g_icmpgt (pc := 80) X 170 dX9_most_80 (by decide) (by omega) (by omega) (fun h80 => ?_) (fun h80 => ?_)
                · refine g_aload_n (pc := 170) X dX9_most_170 0 rfl ?_
                  refine g_iconst (pc := 171) X dX9_most_171 ?_
                  refine g_iconst (pc := 172) X dX9_most_172 ?_
                  refine gc_Vxv (pc := 173) X (wr := [gA cI (a 0) 1140 A, gA cZ (a 1) 2 kp, gA cI (a 2) 3 rf, gA cI (a 3) 6 g_48, gA cI (a 5) 60 sh, gA cI (a 12) 8 pi, gA cI (a 13) 8 th, gA cI (a 14) 8 fl, gA cI (a 15) 8 so_, gA cI (a 16) 8 fr, gA cI (a 17) 2048 le, gA cI (a 18) 41 lg]) (c_X9_set l D cI cZ q a (sTt A t 0 (-1) 0) at_ st so va fa pl sg su e 1 1 (by first | assumption | exact wr_o (by assumption)) (by omega) (by omega)) lm_X9_93 dX9_most_173 [0, 13] [1, 2, 3, 4, 5, 6, 7, 8, 9, 10, 11, 12] rfl rfl rfl rfl (by decide) rfl rfl rfl rfl rfl rfl (fun x173 hx173 => ?_)
                  generalize x173 = g_173 at hx173 ⊢
                  have hw_173 : wrote 1 (1) e g_173 := hx173
                  refine g_pick (cn := 0) (sl := 0) (st := []) X (ws' := [oM q a (sTt A t 0 (-1) 0) at_ st so va fa pl sg su, gA cI (a 0) 1140 A, gA cZ (a 1) 2 kp, gA cI (a 2) 3 rf, gA cI (a 3) 6 g_48, gA cI (a 5) 60 sh, gA cI (a 12) 8 pi, gA cI (a 13) 8 th, gA cI (a 14) 8 fl, gA cI (a 15) 8 so_, gA cI (a 16) 8 fr, gA cI (a 17) 2048 le, gA cI (a 18) 41 lg, gA cI (a 19) 112 g_173]) [12, 0, 1, 2, 3, 4, 5, 6, 7, 8, 9, 10, 11, 13] rfl rfl ?_
                  refine g_iconst (pc := 176) X dX9_most_176 ?_
                  refine g_istore (pc := 177) X (lv' := [(0, .ref q), (1, gi t), (2, gi m), (3, gi n), (4, gi k), (5, gi c), (6, gi 0)]) dX9_most_177 rfl rfl ?_
                  have L179 : ∀ (n179 : Nat) (i : Int) (f : Int → Int), (0 ≤ i ∧ i ≤ n) → (okB f) → (nv f 0 = nv e 0) → (nv f 1 = tn (sTot A t 0) i) → (n - i).toNat < n179 → V 0 0 [oM q a (sTt A t 0 (-1) 0) at_ st so va fa pl sg su, gA cI (a 0) 1140 A, gA cZ (a 1) 2 kp, gA cI (a 2) 3 rf, gA cI (a 3) 6 g_48, gA cI (a 5) 60 sh, gA cI (a 12) 8 pi, gA cI (a 13) 8 th, gA cI (a 14) 8 fl, gA cI (a 15) 8 so_, gA cI (a 16) 8 fr, gA cI (a 17) 2048 le, gA cI (a 18) 41 lg, gA cI (a 19) 112 f] 179 [(0, .ref q), (1, gi t), (2, gi m), (3, gi n), (4, gi k), (5, gi c), (6, gi i)] [] := by
                    intro n179
                    induction n179 with
                    | zero => intro i f hi hF3 hf3 hf1 hn179; exact absurd hn179 (Nat.not_lt_zero _)
                    | succ n179 ih179 =>
                      intro i f hi hF3 hf3 hf1 hn179
                      have htn := tn_b (T := (sTot A t 0)) (i := i) (by omega) (by omega)
                      rw [← hf1] at htn
                      refine g_iload (pc := 179) X dX9_most_179 6 rfl ?_
                      refine g_iload_n (pc := 181) X dX9_most_181 3 rfl ?_
                      refine g_icmpge (pc := 182) X 200 dX9_most_182 (by decide) (by omega) (by omega) (fun h182 => ?_) (fun h182 => ?_)
                      · refine g_aload_n (pc := 200) X dX9_most_200 0 rfl ?_
                        refine gc_Vxv (pc := 201) X (wr := [gA cI (a 0) 1140 A, gA cZ (a 1) 2 kp, gA cI (a 2) 3 rf, gA cI (a 3) 6 g_48, gA cI (a 5) 60 sh, gA cI (a 12) 8 pi, gA cI (a 13) 8 th, gA cI (a 14) 8 fl, gA cI (a 15) 8 so_, gA cI (a 16) 8 fr, gA cI (a 17) 2048 le, gA cI (a 18) 41 lg]) (c_X9_tell l D cI cZ q a (sTt A t 0 (-1) 0) at_ st so va fa pl sg su f (by first | assumption | exact wr_o (by assumption)) (by omega)) lm_X9_97 dX9_most_201 [0, 13] [1, 2, 3, 4, 5, 6, 7, 8, 9, 10, 11, 12] rfl rfl rfl rfl (by decide) rfl rfl rfl rfl rfl rfl (fun x201 hx201 => ?_)
                        generalize x201 = g_201 at hx201 ⊢
                        obtain ⟨hok_201, h0_201, h1_201⟩ : (okB g_201) ∧ (nv g_201 0 = nv f 0 / gc (nv f 0) (nv f 1)) ∧ (nv g_201 1 = nv f 1 / gc (nv f 0) (nv f 1)) := hx201
                        refine g_pick (cn := 0) (sl := 0) (st := []) X (ws' := [oM q a (sTt A t 0 (-1) 0) at_ st so va fa pl (if nv f 0 = 0 then (0 : Int) else 1) su, gA cI (a 0) 1140 A, gA cZ (a 1) 2 kp, gA cI (a 2) 3 rf, gA cI (a 3) 6 g_48, gA cI (a 5) 60 sh, gA cI (a 12) 8 pi, gA cI (a 13) 8 th, gA cI (a 14) 8 fl, gA cI (a 15) 8 so_, gA cI (a 16) 8 fr, gA cI (a 17) 2048 le, gA cI (a 18) 41 lg, gA cI (a 19) 112 g_201]) [12, 0, 1, 2, 3, 4, 5, 6, 7, 8, 9, 10, 11, 13] rfl rfl ?_
                        refine g_iconst (pc := 204) X dX9_most_204 ?_
                        have hfr := frM_t (f := f) (P := mP n k (sLike A t m 0) (sTot A t 0) (n + 1)) (Q := tn (sTot A t 0) n) hok_201 (by rw [show n + 1 = j by omega]; exact hpb.1) (by rw [show n = i by omega, ← hf1]; omega) (by rw [hf3, hs, show j = n + 1 by omega]) (by rw [hf1, show i = n by omega]) h0_201 h1_201
                        exact ret _ _ _ _ _ _ dX9_most_205 rfl rfl (fun h => by cases h) (gPxi_e (_, _, _) (by rw [(show o_most A t m n k fP fQ = (1, -1, redP (mP n k (sLike A t m 0) (sTot A t 0) (n + 1)) (tn (sTot A t 0) n), redQ (mP n k (sLike A t m 0) (sTot A t 0) (n + 1)) (tn (sTot A t 0) n)) from (if_pos (by omega)).trans (if_neg (by omega)))]) (by rw [(show o_most A t m n k fP fQ = (1, -1, redP (mP n k (sLike A t m 0) (sTot A t 0) (n + 1)) (tn (sTot A t 0) n), redQ (mP n k (sLike A t m 0) (sTot A t 0) (n + 1)) (tn (sTot A t 0) n)) from (if_pos (by omega)).trans (if_neg (by omega))), hfr.2.2.1]; rfl) (by rw [(show o_most A t m n k fP fQ = (1, -1, redP (mP n k (sLike A t m 0) (sTot A t 0) (n + 1)) (tn (sTot A t 0) n), redQ (mP n k (sLike A t m 0) (sTot A t 0) (n + 1)) (tn (sTot A t 0) n)) from (if_pos (by omega)).trans (if_neg (by omega)))]; exact ⟨hfr.1, hfr.2.1, rfl, hfr.2.2.2⟩))
                      · refine g_aload_n (pc := 185) X dX9_most_185 0 rfl ?_
                        refine g_iconst (pc := 186) X dX9_most_186 ?_
                        refine g_aload_n (pc := 187) X dX9_most_187 0 rfl ?_
                        refine g_get (pc := 188) X fl_X9_85 dX9_most_188 0 (v := gi (sTt A t 0 (-1) 0)) rfl rfl ?_
                        refine g_top (b := sTot A t 0) sTt_0 ?_
                        have hmt := mulb (a := nv f 1) (b := sTot A t 0) (A := 8192 ^ 9) (B := 8192) (by omega) (by omega)
                        refine gc_Vxv (pc := 191) X (wr := [gA cI (a 0) 1140 A, gA cZ (a 1) 2 kp, gA cI (a 2) 3 rf, gA cI (a 3) 6 g_48, gA cI (a 5) 60 sh, gA cI (a 12) 8 pi, gA cI (a 13) 8 th, gA cI (a 14) 8 fl, gA cI (a 15) 8 so_, gA cI (a 16) 8 fr, gA cI (a 17) 2048 le, gA cI (a 18) 41 lg]) (c_X9_times l D cI cZ q a (sTt A t 0 (-1) 0) at_ st so va fa pl sg su f 1 (sTot A t 0) (by first | assumption | exact wr_o (by assumption)) (by omega) (by omega) (by have := BB_2; omega)) lm_X9_100 dX9_most_191 [0, 13] [1, 2, 3, 4, 5, 6, 7, 8, 9, 10, 11, 12] rfl rfl rfl rfl (by decide) rfl rfl rfl rfl rfl rfl (fun x191 hx191 => ?_)
                        generalize x191 = g_191 at hx191 ⊢
                        have hw_191 : wrote 1 (nv f 1 * (sTot A t 0)) f g_191 := hx191
                        refine g_pick (cn := 0) (sl := 0) (st := []) X (ws' := [oM q a (sTt A t 0 (-1) 0) at_ st so va fa pl sg su, gA cI (a 0) 1140 A, gA cZ (a 1) 2 kp, gA cI (a 2) 3 rf, gA cI (a 3) 6 g_48, gA cI (a 5) 60 sh, gA cI (a 12) 8 pi, gA cI (a 13) 8 th, gA cI (a 14) 8 fl, gA cI (a 15) 8 so_, gA cI (a 16) 8 fr, gA cI (a 17) 2048 le, gA cI (a 18) 41 lg, gA cI (a 19) 112 g_191]) [12, 0, 1, 2, 3, 4, 5, 6, 7, 8, 9, 10, 11, 13] rfl rfl ?_
                        refine g_iinc (pc := 194) X (lv' := [(0, .ref q), (1, gi t), (2, gi m), (3, gi n), (4, gi k), (5, gi c), (6, gi (i + 1))]) dX9_most_194 6 rfl rfl rfl ?_
                        refine g_goto (pc := 197) X 179 dX9_most_197 (by decide) ?_
                        exact ih179 _ _ (by omega) (wr_o hw_191) ((wr_n hw_191 (by decide)).trans hf3) (by rw [wr_k hw_191, hf1, tn_s hi.1]) (by omega)
                  exact L179 _ _ _ (by omega) (wr_o hw_173) (wr_n hw_173 (by decide)) (wr_k hw_173) (Nat.lt_succ_self _)
                · refine g_iload (pc := 83) X dX9_most_83 6 rfl ?_
                  refine g_iload (pc := 85) X dX9_most_85 4 rfl ?_
                  refine g_icmplt (pc := 87) X 150 dX9_most_87 (by decide) (by omega) (by omega) (fun h87 => ?_) (fun h87 => ?_)
                  · have hmc := mulb (a := c) (b := n - j) (A := 126) (B := 9) hwb (by omega)
                    refine g_iload (pc := 150) X dX9_most_150 5 rfl ?_
                    refine g_iload_n (pc := 152) X dX9_most_152 3 rfl ?_
                    refine g_iload (pc := 153) X dX9_most_153 6 rfl ?_
                    refine g_isub (pc := 155) X dX9_most_155 ?_
                    refine g_imul (pc := 156) X dX9_most_156 ?_
                    refine g_iload (pc := 157) X dX9_most_157 6 rfl ?_
                    refine g_iconst (pc := 159) X dX9_most_159 ?_
                    refine g_iadd (pc := 160) X dX9_most_160 ?_
                    refine g_idiv (pc := 161) X dX9_most_161 (by omega) (by omega) ?_
                    refine g_istore (pc := 162) X (lv' := [(0, .ref q), (1, gi t), (2, gi m), (3, gi n), (4, gi k), (5, gi (c * (n - j) / (j + 1))), (6, gi j)]) dX9_most_162 rfl rfl ?_
                    refine g_iinc (pc := 164) X (lv' := [(0, .ref q), (1, gi t), (2, gi m), (3, gi n), (4, gi k), (5, gi (c * (n - j) / (j + 1))), (6, gi (j + 1))]) dX9_most_164 6 rfl rfl rfl ?_
                    refine g_goto (pc := 167) X 77 dX9_most_167 (by decide) ?_
                    exact ih77 _ _ _ (by omega) (by rw [wy_s hj.1, ← hc]) hE (by rw [mP_s hj.1, if_neg (by omega)]; exact hs) (by omega)
                  · refine g_aload_n (pc := 90) X dX9_most_90 0 rfl ?_
                    refine g_iconst (pc := 91) X dX9_most_91 ?_
                    refine g_iload (pc := 92) X dX9_most_92 5 rfl ?_
                    refine gc_Vxv (pc := 94) X (wr := [gA cI (a 0) 1140 A, gA cZ (a 1) 2 kp, gA cI (a 2) 3 rf, gA cI (a 3) 6 g_48, gA cI (a 5) 60 sh, gA cI (a 12) 8 pi, gA cI (a 13) 8 th, gA cI (a 14) 8 fl, gA cI (a 15) 8 so_, gA cI (a 16) 8 fr, gA cI (a 17) 2048 le, gA cI (a 18) 41 lg]) (c_X9_set l D cI cZ q a (sTt A t 0 (-1) 0) at_ st so va fa pl sg su e 2 c (by first | assumption | exact wr_o (by assumption)) (by omega) (by omega)) lm_X9_93 dX9_most_94 [0, 13] [1, 2, 3, 4, 5, 6, 7, 8, 9, 10, 11, 12] rfl rfl rfl rfl (by decide) rfl rfl rfl rfl rfl rfl (fun x94 hx94 => ?_)
                    generalize x94 = g_94 at hx94 ⊢
                    have hw_94 : wrote 2 (c) e g_94 := hx94
                    refine g_pick (cn := 0) (sl := 0) (st := []) X (ws' := [oM q a (sTt A t 0 (-1) 0) at_ st so va fa pl sg su, gA cI (a 0) 1140 A, gA cZ (a 1) 2 kp, gA cI (a 2) 3 rf, gA cI (a 3) 6 g_48, gA cI (a 5) 60 sh, gA cI (a 12) 8 pi, gA cI (a 13) 8 th, gA cI (a 14) 8 fl, gA cI (a 15) 8 so_, gA cI (a 16) 8 fr, gA cI (a 17) 2048 le, gA cI (a 18) 41 lg, gA cI (a 19) 112 g_94]) [12, 0, 1, 2, 3, 4, 5, 6, 7, 8, 9, 10, 11, 13] rfl rfl ?_
                    refine g_iconst (pc := 97) X dX9_most_97 ?_
                    refine g_istore (pc := 98) X (lv' := [(0, .ref q), (1, gi t), (2, gi m), (3, gi n), (4, gi k), (5, gi c), (6, gi j), (7, gi 0)]) dX9_most_98 rfl rfl ?_
                    have L100 : ∀ (n100 : Nat) (h2 : Int) (f : Int → Int), (0 ≤ h2 ∧ h2 ≤ n) → (okB f) → (nv f 0 = nv e 0) → (nv f 2 = mt c (sLike A t m 0) ((sTot A t 0) - (sLike A t m 0)) j h2) → (n - h2).toNat < n100 → V 0 0 [oM q a (sTt A t 0 (-1) 0) at_ st so va fa pl sg su, gA cI (a 0) 1140 A, gA cZ (a 1) 2 kp, gA cI (a 2) 3 rf, gA cI (a 3) 6 g_48, gA cI (a 5) 60 sh, gA cI (a 12) 8 pi, gA cI (a 13) 8 th, gA cI (a 14) 8 fl, gA cI (a 15) 8 so_, gA cI (a 16) 8 fr, gA cI (a 17) 2048 le, gA cI (a 18) 41 lg, gA cI (a 19) 112 f] 100 [(0, .ref q), (1, gi t), (2, gi m), (3, gi n), (4, gi k), (5, gi c), (6, gi j), (7, gi h2)] [] := by
                      intro n100
                      induction n100 with
                      | zero => intro h2 f hh hF2 hf0 hf2 hn100; exact absurd hn100 (Nat.not_lt_zero _)
                      | succ n100 ih100 =>
                        intro h2 f hh hF2 hf0 hf2 hn100
                        have hmb := mt_b (c := c) (C := 126) (L := (sLike A t m 0)) (M := (sTot A t 0) - (sLike A t m 0)) (j := j) (h := h2) hwb (by omega) (by omega) (by omega)
                        rw [← hf2] at hmb
                        refine g_iload (pc := 100) X dX9_most_100 7 rfl ?_
                        refine g_iload_n (pc := 102) X dX9_most_102 3 rfl ?_
                        refine g_icmpge (pc := 103) X 144 dX9_most_103 (by decide) (by omega) (by omega) (fun h103 => ?_) (fun h103 => ?_)
                        · refine g_aload_n (pc := 144) X dX9_most_144 0 rfl ?_
                          refine g_iconst (pc := 145) X dX9_most_145 ?_
                          refine g_iconst (pc := 146) X dX9_most_146 ?_
                          refine gc_Vxv (pc := 147) X (wr := [gA cI (a 0) 1140 A, gA cZ (a 1) 2 kp, gA cI (a 2) 3 rf, gA cI (a 3) 6 g_48, gA cI (a 5) 60 sh, gA cI (a 12) 8 pi, gA cI (a 13) 8 th, gA cI (a 14) 8 fl, gA cI (a 15) 8 so_, gA cI (a 16) 8 fr, gA cI (a 17) 2048 le, gA cI (a 18) 41 lg]) (c_X9_add l D cI cZ q a (sTt A t 0 (-1) 0) at_ st so va fa pl sg su f 0 2 (by first | assumption | exact wr_o (by assumption)) (by omega) (by omega) (by omega) (by have := BB_2; rw [hf0, hs]; omega)) lm_X9_103 dX9_most_147 [0, 13] [1, 2, 3, 4, 5, 6, 7, 8, 9, 10, 11, 12] rfl rfl rfl rfl (by decide) rfl rfl rfl rfl rfl rfl (fun x147 hx147 => ?_)
                          generalize x147 = g_147 at hx147 ⊢
                          have hw_147 : wrote 0 (nv f 0 + nv f 2) f g_147 := hx147
                          refine g_pick (cn := 0) (sl := 0) (st := []) X (ws' := [oM q a (sTt A t 0 (-1) 0) at_ st so va fa pl sg su, gA cI (a 0) 1140 A, gA cZ (a 1) 2 kp, gA cI (a 2) 3 rf, gA cI (a 3) 6 g_48, gA cI (a 5) 60 sh, gA cI (a 12) 8 pi, gA cI (a 13) 8 th, gA cI (a 14) 8 fl, gA cI (a 15) 8 so_, gA cI (a 16) 8 fr, gA cI (a 17) 2048 le, gA cI (a 18) 41 lg, gA cI (a 19) 112 g_147]) [12, 0, 1, 2, 3, 4, 5, 6, 7, 8, 9, 10, 11, 13] rfl rfl ?_
                          have hmc := mulb (a := c) (b := n - j) (A := 126) (B := 9) hwb (by omega)
                          refine g_iload (pc := 150) X dX9_most_150 5 rfl ?_
                          refine g_iload_n (pc := 152) X dX9_most_152 3 rfl ?_
                          refine g_iload (pc := 153) X dX9_most_153 6 rfl ?_
                          refine g_isub (pc := 155) X dX9_most_155 ?_
                          refine g_imul (pc := 156) X dX9_most_156 ?_
                          refine g_iload (pc := 157) X dX9_most_157 6 rfl ?_
                          refine g_iconst (pc := 159) X dX9_most_159 ?_
                          refine g_iadd (pc := 160) X dX9_most_160 ?_
                          refine g_idiv (pc := 161) X dX9_most_161 (by omega) (by omega) ?_
                          refine g_istore (pc := 162) X (lv' := [(0, .ref q), (1, gi t), (2, gi m), (3, gi n), (4, gi k), (5, gi (c * (n - j) / (j + 1))), (6, gi j), (7, gi h2)]) dX9_most_162 rfl rfl ?_
                          refine g_iinc (pc := 164) X (lv' := [(0, .ref q), (1, gi t), (2, gi m), (3, gi n), (4, gi k), (5, gi (c * (n - j) / (j + 1))), (6, gi (j + 1)), (7, gi h2)]) dX9_most_164 6 rfl rfl rfl ?_
                          refine g_goto (pc := 167) X 77 dX9_most_167 (by decide) ?_
                          refine g_lsub X [0, 1, 2, 3, 4, 5, 6] rfl ?_
                          exact ih77 _ _ _ (by omega) (by rw [wy_s hj.1, ← hc]) (wr_o hw_147) (by rw [mP_s hj.1, if_pos (by omega), wr_k hw_147, hf0, hs, hf2, hc, show h2 = n by omega]) (by omega)
                        · refine g_aload_n (pc := 106) X dX9_most_106 0 rfl ?_
                          refine g_iconst (pc := 107) X dX9_most_107 ?_
                          refine g_iload (pc := 108) X dX9_most_108 7 rfl ?_
                          refine g_iload (pc := 110) X dX9_most_110 6 rfl ?_
                          refine g_icmpge (pc := 112) X 124 dX9_most_112 (by decide) (by omega) (by omega) (fun h112 => ?_) (fun h112 => ?_)
                          · refine g_aload_n (pc := 124) X dX9_most_124 0 rfl ?_
                            refine g_get (pc := 125) X fl_X9_85 dX9_most_125 0 (v := gi (sTt A t 0 (-1) 0)) rfl rfl ?_
                            refine g_top (b := sTot A t 0) sTt_0 ?_
                            refine g_aload_n (pc := 128) X dX9_most_128 0 rfl ?_
                            refine g_get (pc := 129) X fl_X9_20 dX9_most_129 0 (v := .ref (a 3)) rfl rfl ?_
                            refine g_iload_n (pc := 132) X dX9_most_132 2 rfl ?_
                            refine g_iald (pc := 133) X dX9_most_133 4 rfl (by omega) rfl ?_
                            refine g_top (b := sLike A t m 0) (hw48 m (by omega) (by omega)) ?_
                            refine g_isub (pc := 134) X dX9_most_134 ?_
                            have hmu := mulb (a := nv f 2) (b := sTot A t 0 - sLike A t m 0) (A := 126 * 8192 ^ 9) (B := 8192) hmb (by omega)
                            refine gc_Vxv (pc := 135) X (wr := [gA cI (a 0) 1140 A, gA cZ (a 1) 2 kp, gA cI (a 2) 3 rf, gA cI (a 3) 6 g_48, gA cI (a 5) 60 sh, gA cI (a 12) 8 pi, gA cI (a 13) 8 th, gA cI (a 14) 8 fl, gA cI (a 15) 8 so_, gA cI (a 16) 8 fr, gA cI (a 17) 2048 le, gA cI (a 18) 41 lg]) (c_X9_times l D cI cZ q a (sTt A t 0 (-1) 0) at_ st so va fa pl sg su f 2 (sTot A t 0 - sLike A t m 0) (by first | assumption | exact wr_o (by assumption)) (by omega) (by omega) (by have := BB_2; omega)) lm_X9_100 dX9_most_135 [0, 13] [1, 2, 3, 4, 5, 6, 7, 8, 9, 10, 11, 12] rfl rfl rfl rfl (by decide) rfl rfl rfl rfl rfl rfl (fun x135 hx135 => ?_)
                            generalize x135 = g_135 at hx135 ⊢
                            have hw_135 : wrote 2 (nv f 2 * (sTot A t 0 - sLike A t m 0)) f g_135 := hx135
                            refine g_pick (cn := 0) (sl := 0) (st := []) X (ws' := [oM q a (sTt A t 0 (-1) 0) at_ st so va fa pl sg su, gA cI (a 0) 1140 A, gA cZ (a 1) 2 kp, gA cI (a 2) 3 rf, gA cI (a 3) 6 g_48, gA cI (a 5) 60 sh, gA cI (a 12) 8 pi, gA cI (a 13) 8 th, gA cI (a 14) 8 fl, gA cI (a 15) 8 so_, gA cI (a 16) 8 fr, gA cI (a 17) 2048 le, gA cI (a 18) 41 lg, gA cI (a 19) 112 g_135]) [12, 0, 1, 2, 3, 4, 5, 6, 7, 8, 9, 10, 11, 13] rfl rfl ?_
                            refine g_iinc (pc := 138) X (lv' := [(0, .ref q), (1, gi t), (2, gi m), (3, gi n), (4, gi k), (5, gi c), (6, gi j), (7, gi (h2 + 1))]) dX9_most_138 7 rfl rfl rfl ?_
                            refine g_goto (pc := 141) X 100 dX9_most_141 (by decide) ?_
                            exact ih100 _ _ (by omega) (wr_o hw_135) ((wr_n hw_135 (by decide)).trans hf0) (by rw [wr_k hw_135, hf2, mt_s hh.1]; first | rw [if_pos (by omega)] | rw [if_neg (by omega)]) (by omega)
                          · refine g_aload_n (pc := 115) X dX9_most_115 0 rfl ?_
                            refine g_get (pc := 116) X fl_X9_20 dX9_most_116 0 (v := .ref (a 3)) rfl rfl ?_
                            refine g_iload_n (pc := 119) X dX9_most_119 2 rfl ?_
                            refine g_iald (pc := 120) X dX9_most_120 4 rfl (by omega) rfl ?_
                            refine g_top (b := sLike A t m 0) (hw48 m (by omega) (by omega)) ?_
                            refine g_goto (pc := 121) X 135 dX9_most_121 (by decide) ?_
                            have hmu := mulb (a := nv f 2) (b := sLike A t m 0) (A := 126 * 8192 ^ 9) (B := 8192) hmb (by omega)
                            refine gc_Vxv (pc := 135) X (wr := [gA cI (a 0) 1140 A, gA cZ (a 1) 2 kp, gA cI (a 2) 3 rf, gA cI (a 3) 6 g_48, gA cI (a 5) 60 sh, gA cI (a 12) 8 pi, gA cI (a 13) 8 th, gA cI (a 14) 8 fl, gA cI (a 15) 8 so_, gA cI (a 16) 8 fr, gA cI (a 17) 2048 le, gA cI (a 18) 41 lg]) (c_X9_times l D cI cZ q a (sTt A t 0 (-1) 0) at_ st so va fa pl sg su f 2 (sLike A t m 0) (by first | assumption | exact wr_o (by assumption)) (by omega) (by omega) (by have := BB_2; omega)) lm_X9_100 dX9_most_135 [0, 13] [1, 2, 3, 4, 5, 6, 7, 8, 9, 10, 11, 12] rfl rfl rfl rfl (by decide) rfl rfl rfl rfl rfl rfl (fun x135 hx135 => ?_)
                            generalize x135 = g_135 at hx135 ⊢
                            have hw_135 : wrote 2 (nv f 2 * (sLike A t m 0)) f g_135 := hx135
                            refine g_pick (cn := 0) (sl := 0) (st := []) X (ws' := [oM q a (sTt A t 0 (-1) 0) at_ st so va fa pl sg su, gA cI (a 0) 1140 A, gA cZ (a 1) 2 kp, gA cI (a 2) 3 rf, gA cI (a 3) 6 g_48, gA cI (a 5) 60 sh, gA cI (a 12) 8 pi, gA cI (a 13) 8 th, gA cI (a 14) 8 fl, gA cI (a 15) 8 so_, gA cI (a 16) 8 fr, gA cI (a 17) 2048 le, gA cI (a 18) 41 lg, gA cI (a 19) 112 g_135]) [12, 0, 1, 2, 3, 4, 5, 6, 7, 8, 9, 10, 11, 13] rfl rfl ?_
                            refine g_iinc (pc := 138) X (lv' := [(0, .ref q), (1, gi t), (2, gi m), (3, gi n), (4, gi k), (5, gi c), (6, gi j), (7, gi (h2 + 1))]) dX9_most_138 7 rfl rfl rfl ?_
                            refine g_goto (pc := 141) X 100 dX9_most_141 (by decide) ?_
                            exact ih100 _ _ (by omega) (wr_o hw_135) ((wr_n hw_135 (by decide)).trans hf0) (by rw [wr_k hw_135, hf2, mt_s hh.1]; first | rw [if_pos (by omega)] | rw [if_neg (by omega)]) (by omega)
                    exact L100 _ _ _ (by omega) (wr_o hw_94) (wr_n hw_94 (by decide)) (wr_k hw_94) (Nat.lt_succ_self _)
            exact L77 _ _ _ _ (by omega) (by rfl) (wr_o hw_68) (wr_k hw_68) (Nat.lt_succ_self _)
          · refine g_aload_n (pc := 58) X dX9_most_58 0 rfl ?_
            refine g_bipush (pc := 59) X dX9_most_59 (by decide +kernel) ?_
            refine gc_Vxi (pc := 61) X (wr := [gA cI (a 0) 1140 A, gA cZ (a 1) 2 kp, gA cI (a 3) 6 g_48, gA cI (a 5) 60 sh, gA cI (a 12) 8 pi, gA cI (a 13) 8 th, gA cI (a 14) 8 fl, gA cI (a 15) 8 so_, gA cI (a 16) 8 fr, gA cI (a 17) 2048 le, gA cI (a 18) 41 lg, gA cI (a 19) 112 bg]) (c_X9_refuse l D cI cZ q a (sTt A t 0 (-1) 0) at_ st so va fa pl sg su rf (-3) (by omega)) lm_X9_54 dX9_most_61 [0, 3] [1, 2, 4, 5, 6, 7, 8, 9, 10, 11, 12, 13] rfl rfl rfl rfl (by decide) rfl rfl rfl rfl rfl rfl (fun x61 hx61 => ?_)
            refine g_pick (cn := 0) (sl := 0) (st := gi (-3) :: []) X (ws' := [oM q a (sTt A t 0 (-1) 0) at_ st so va fa pl sg su, gA cI (a 0) 1140 A, gA cZ (a 1) 2 kp, gA cI (a 2) 3 (gupd rf (-2 - (-3)) (rf (-2 - (-3)) + 1)), gA cI (a 3) 6 g_48, gA cI (a 5) 60 sh, gA cI (a 12) 8 pi, gA cI (a 13) 8 th, gA cI (a 14) 8 fl, gA cI (a 15) 8 so_, gA cI (a 16) 8 fr, gA cI (a 17) 2048 le, gA cI (a 18) 41 lg, gA cI (a 19) 112 bg]) [12, 0, 1, 13, 2, 3, 4, 5, 6, 7, 8, 9, 10, 11] rfl rfl ?_
            exact ret _ _ _ _ _ _ dX9_most_64 rfl rfl (fun h => by cases h) (gPxi_e (_, _, bg) (by rw [(show o_most A t m n k fP fQ = (-3, 1, fP, fQ) from (if_pos (by omega)).trans (if_pos h55))]) (by rw [(show o_most A t m n k fP fQ = (-3, 1, fP, fQ) from (if_pos (by omega)).trans (if_pos h55)), hF.2.2.1]; rfl) (by rw [(show o_most A t m n k fP fQ = (-3, 1, fP, fQ) from (if_pos (by omega)).trans (if_pos h55))]; exact ⟨hF.1, hF.2.1, rfl, hF.2.2.2⟩))
        · refine g_aload_n (pc := 36) X dX9_most_36 0 rfl ?_
          refine g_bipush (pc := 37) X dX9_most_37 (by decide +kernel) ?_
          refine gc_Vxi (pc := 39) X (wr := [gA cI (a 0) 1140 A, gA cZ (a 1) 2 kp, gA cI (a 3) 6 lk_, gA cI (a 5) 60 sh, gA cI (a 12) 8 pi, gA cI (a 13) 8 th, gA cI (a 14) 8 fl, gA cI (a 15) 8 so_, gA cI (a 16) 8 fr, gA cI (a 17) 2048 le, gA cI (a 18) 41 lg, gA cI (a 19) 112 bg]) (c_X9_refuse l D cI cZ q a al at_ st so va fa pl sg su rf (-2) (by omega)) lm_X9_54 dX9_most_39 [0, 3] [1, 2, 4, 5, 6, 7, 8, 9, 10, 11, 12, 13] rfl rfl rfl rfl (by decide) rfl rfl rfl rfl rfl rfl (fun x39 hx39 => ?_)
          refine g_pick (cn := 0) (sl := 0) (st := gi (-2) :: []) X (ws' := [oM q a al at_ st so va fa pl sg su, gA cI (a 0) 1140 A, gA cZ (a 1) 2 kp, gA cI (a 2) 3 (gupd rf (-2 - (-2)) (rf (-2 - (-2)) + 1)), gA cI (a 3) 6 lk_, gA cI (a 5) 60 sh, gA cI (a 12) 8 pi, gA cI (a 13) 8 th, gA cI (a 14) 8 fl, gA cI (a 15) 8 so_, gA cI (a 16) 8 fr, gA cI (a 17) 2048 le, gA cI (a 18) 41 lg, gA cI (a 19) 112 bg]) [12, 0, 1, 13, 2, 3, 4, 5, 6, 7, 8, 9, 10, 11] rfl rfl ?_
          exact ret _ _ _ _ _ _ dX9_most_42 rfl rfl (fun h => by cases h) (gPxi_e (_, _, bg) (by rw [(show o_most A t m n k fP fQ = (-2, 0, fP, fQ) from if_neg (by omega))]) (by rw [(show o_most A t m n k fP fQ = (-2, 0, fP, fQ) from if_neg (by omega)), hF.2.2.1]; rfl) (by rw [(show o_most A t m n k fP fQ = (-2, 0, fP, fQ) from if_neg (by omega))]; exact ⟨hF.1, hF.2.1, rfl, hF.2.2.2⟩))

set_option maxHeartbeats 4000000 in
set_option maxRecDepth 100000 in
theorem c_X9_habitsOf (l : Launch) (D : va_G) (cI cZ : ClassId) (q : Nat) (a : Nat → Nat) (al : Int) (at_ : Int) (st : Int) (so : Int) (va : Int) (fa : Int) (pl : Int) (sg : Int) (su : Int) (A : Int → Int) (g : Int) (hA : okA A) (hg : 0 ≤ g ∧ g < 4) : GM l D cI cZ yX9_habitsOf cX9_habitsOf 4 (some .int) ({ frames := 0, cells := 0, slots := 0, locals := 0 }) 0 0 true [.ref q, gi g] [oM q a al at_ st so va fa pl sg su, gA cI (a 0) 1140 A] (gPi (hsm A g)) := by
  refine g_enterI (z := false) (lv0 := [(0, .ref q), (1, gi g)]) _ rfl (by decide) rfl rfl (fun V X ret => ?_)
  refine g_iconst (pc := 0) X dX9_habitsOf_0 ?_
  refine g_istore_n (pc := 1) X (lv' := [(0, .ref q), (1, gi g), (2, gi 0)]) dX9_habitsOf_1 rfl rfl ?_
  refine g_iconst (pc := 2) X dX9_habitsOf_2 ?_
  refine g_istore_n (pc := 3) X (lv' := [(0, .ref q), (1, gi g), (2, gi 0), (3, gi 0)]) dX9_habitsOf_3 rfl rfl ?_
  have L4 : ∀ (n4 : Nat) (x : Int) (i : Int), (0 ≤ i ∧ i ≤ 10) → (0 ≤ x ∧ x ≤ 9 * i) → (x = sm (fun i => A (332 + 10 * g + i)) i) → (10 - i).toNat < n4 → V 0 0 [oM q a al at_ st so va fa pl sg su, gA cI (a 0) 1140 A] 4 [(0, .ref q), (1, gi g), (2, gi x), (3, gi i)] [] := by
    intro n4
    induction n4 with
    | zero => intro x i hi hxb hx hn4; exact absurd hn4 (Nat.not_lt_zero _)
    | succ n4 ih4 =>
      intro x i hi hxb hx hn4
      refine g_iload_n (pc := 4) X dX9_habitsOf_4 3 rfl ?_
      refine g_bipush (pc := 5) X dX9_habitsOf_5 (by decide +kernel) ?_
      refine g_icmpge (pc := 7) X 34 dX9_habitsOf_7 (by decide) (by omega) (by omega) (fun h7 => ?_) (fun h7 => ?_)
      · refine g_iload_n (pc := 34) X dX9_habitsOf_34 2 rfl ?_
        exact ret _ _ _ _ _ _ dX9_habitsOf_35 rfl rfl (fun h => by cases h) (gPi_e (by rw [hx, show i = 10 by omega]; rfl))
      · refine g_iload_n (pc := 10) X dX9_habitsOf_10 2 rfl ?_
        refine g_aload_n (pc := 11) X dX9_habitsOf_11 0 rfl ?_
        refine g_get (pc := 12) X fl_X9_7 dX9_habitsOf_12 0 (v := .ref (a 0)) rfl rfl ?_
        refine g_sipush (pc := 15) X dX9_habitsOf_15 (by decide +kernel) ?_
        refine g_bipush (pc := 18) X dX9_habitsOf_18 (by decide +kernel) ?_
        refine g_iload_n (pc := 20) X dX9_habitsOf_20 1 rfl ?_
        refine g_imul (pc := 21) X dX9_habitsOf_21 ?_
        refine g_iadd (pc := 22) X dX9_habitsOf_22 ?_
        refine g_iload_n (pc := 23) X dX9_habitsOf_23 3 rfl ?_
        refine g_iadd (pc := 24) X dX9_habitsOf_24 ?_
        refine g_iald (pc := 25) X dX9_habitsOf_25 1 rfl (by omega) rfl ?_
        have hha := okA_ha hA (j := 10 * g + i) (by omega)
        rw [show 332 + (10 * g + i) = 332 + 10 * g + i by omega] at hha
        refine g_iadd (pc := 26) X dX9_habitsOf_26 ?_
        refine g_istore_n (pc := 27) X (lv' := [(0, .ref q), (1, gi g), (2, gi (x + A (332 + 10 * g + i))), (3, gi i)]) dX9_habitsOf_27 rfl rfl ?_
        refine g_iinc (pc := 28) X (lv' := [(0, .ref q), (1, gi g), (2, gi (x + A (332 + 10 * g + i))), (3, gi (i + 1))]) dX9_habitsOf_28 3 rfl rfl rfl ?_
        refine g_goto (pc := 31) X 4 dX9_habitsOf_31 (by decide) ?_
        exact ih4 _ _ (by omega) (by omega) (by rw [sm_s hi.1, ← hx]) (by omega)
  exact L4 _ _ _ (by omega) (by omega) (by rfl) (Nat.lt_succ_self _)

set_option maxHeartbeats 4000000 in
set_option maxRecDepth 100000 in
theorem c_X9_likelyTo (l : Launch) (D : va_G) (cI cZ : ClassId) (q : Nat) (a : Nat → Nat) (al : Int) (at_ : Int) (st : Int) (so : Int) (va : Int) (fa : Int) (pl : Int) (sg : Int) (su : Int) (A : Int → Int) (bg : Int → Int) (r : Int) (h : Int) (hA : okA A) (hB : okB bg) (hr : 0 ≤ r ∧ r ≤ 6) (hh : 0 ≤ h ∧ h < A 3) : GM l D cI cZ yX9_likelyTo cX9_likelyTo 6 none ({ frames := 1, cells := 0, slots := 0, locals := 27 }) 0 0 false [.ref q, gi r, gi h] [oM q a al at_ st so va fa pl sg su, gA cI (a 0) 1140 A, gA cI (a 19) 112 bg] (gPxv (fun xo : (Int → Int) => [oM q a al at_ st so va fa pl sg su, gA cI (a 0) 1140 A, gA cI (a 19) 112 xo]) (fun xo : (Int → Int) => (wrote r (lkT A h (A 4)) bg xo))) := by
  refine g_enterV (lv0 := [(0, .ref q), (1, gi r), (2, gi h)]) (by decide) rfl rfl (fun V X ret => ?_)
  have hA3 := okA_3 hA
  have hA4 := okA_4 hA
  refine g_aload_n (pc := 0) X dX9_likelyTo_0 0 rfl ?_
  refine g_iload_n (pc := 1) X dX9_likelyTo_1 1 rfl ?_
  refine g_iconst (pc := 2) X dX9_likelyTo_2 ?_
  refine gc_Vxv (pc := 3) X (wr := [gA cI (a 0) 1140 A]) (c_X9_set l D cI cZ q a al at_ st so va fa pl sg su bg r 1 (by first | assumption | exact wr_o (by assumption)) (by omega) (by omega)) lm_X9_93 dX9_likelyTo_3 [0, 2] [1] rfl rfl rfl rfl (by decide) rfl rfl rfl rfl rfl rfl (fun x3 hx3 => ?_)
  generalize x3 = g_3 at hx3 ⊢
  have hw_3 : wrote r (1) bg g_3 := hx3
  refine g_pick (cn := 0) (sl := 0) (st := []) X (ws' := [oM q a al at_ st so va fa pl sg su, gA cI (a 0) 1140 A, gA cI (a 19) 112 g_3]) [1, 0, 2] rfl rfl ?_
  refine g_iconst (pc := 6) X dX9_likelyTo_6 ?_
  refine g_istore_n (pc := 7) X (lv' := [(0, .ref q), (1, gi r), (2, gi h), (3, gi 0)]) dX9_likelyTo_7 rfl rfl ?_
  have L8 : ∀ (n8 : Nat) (k : Int) (e : Int → Int), (0 ≤ k ∧ k ≤ A 4) → (wrote r (lkT A h k) bg e) → (A 4 - k).toNat < n8 → V 0 0 [oM q a al at_ st so va fa pl sg su, gA cI (a 0) 1140 A, gA cI (a 19) 112 e] 8 [(0, .ref q), (1, gi r), (2, gi h), (3, gi k)] [] := by
    intro n8
    induction n8 with
    | zero => intro k e hk hw hn8; exact absurd hn8 (Nat.not_lt_zero _)
    | succ n8 ih8 =>
      intro k e hk hw hn8
      have hlb := lkT_b hA (h := h) (k := k) (by omega) (by omega)
      refine g_iload_n (pc := 8) X dX9_likelyTo_8 3 rfl ?_
      refine g_aload_n (pc := 9) X dX9_likelyTo_9 0 rfl ?_
      refine g_get (pc := 10) X fl_X9_7 dX9_likelyTo_10 0 (v := .ref (a 0)) rfl rfl ?_
      refine g_iconst (pc := 13) X dX9_likelyTo_13 ?_
      refine g_iald (pc := 14) X dX9_likelyTo_14 1 rfl (by omega) rfl ?_
      refine g_icmpge (pc := 15) X 103 dX9_likelyTo_15 (by decide) (by omega) (by omega) (fun h15 => ?_) (fun h15 => ?_)
      · exact ret _ _ _ _ _ dX9_likelyTo_103 rfl rfl (gPxv_e e rfl (by rw [show k = A 4 by omega] at hw; exact hw))
      · refine g_aload_n (pc := 18) X dX9_likelyTo_18 0 rfl ?_
        refine g_iload_n (pc := 19) X dX9_likelyTo_19 1 rfl ?_
        refine g_aload_n (pc := 20) X dX9_likelyTo_20 0 rfl ?_
        refine g_get (pc := 21) X fl_X9_7 dX9_likelyTo_21 0 (v := .ref (a 0)) rfl rfl ?_
        refine g_sipush (pc := 24) X dX9_likelyTo_24 (by decide +kernel) ?_
        refine g_bipush (pc := 27) X dX9_likelyTo_27 (by decide +kernel) ?_
        refine g_iload_n (pc := 29) X dX9_likelyTo_29 2 rfl ?_
        refine g_imul (pc := 30) X dX9_likelyTo_30 ?_
        refine g_iadd (pc := 31) X dX9_likelyTo_31 ?_
        refine g_aload_n (pc := 32) X dX9_likelyTo_32 0 rfl ?_
        refine g_get (pc := 33) X fl_X9_7 dX9_likelyTo_33 0 (v := .ref (a 0)) rfl rfl ?_
        refine g_sipush (pc := 36) X dX9_likelyTo_36 (by decide +kernel) ?_
        refine g_iload_n (pc := 39) X dX9_likelyTo_39 3 rfl ?_
        refine g_iadd (pc := 40) X dX9_likelyTo_40 ?_
        have hse := okA_se hA (j := k) (by omega)
        refine g_iald (pc := 41) X dX9_likelyTo_41 1 rfl (by omega) rfl ?_
        refine g_iadd (pc := 42) X dX9_likelyTo_42 ?_
        have hha := okA_ha hA (j := 10 * h + A (372 + k)) (by omega)
        rw [show 332 + (10 * h + A (372 + k)) = 332 + 10 * h + A (372 + k) by omega] at hha
        have hmu := mulb (a := lkT A h k) (b := A (332 + 10 * h + A (372 + k))) (A := 590490000 ^ 8) (B := 9) hlb hha
        refine g_iald (pc := 43) X dX9_likelyTo_43 1 rfl (by omega) rfl ?_
        refine gc_Vxv (pc := 44) X (wr := [gA cI (a 0) 1140 A]) (c_X9_times l D cI cZ q a al at_ st so va fa pl sg su e r (A (332 + 10 * h + A (372 + k))) (by first | assumption | exact wr_o (by assumption)) (by omega) (by omega) (by rw [wr_k hw]; have := BB_1; omega)) lm_X9_100 dX9_likelyTo_44 [0, 2] [1] rfl rfl rfl rfl (by decide) rfl rfl rfl rfl rfl rfl (fun x44 hx44 => ?_)
        generalize x44 = g_44 at hx44 ⊢
        have hw_44 : wrote r (nv e r * (A (332 + 10 * h + A (372 + k)))) e g_44 := hx44
        refine g_pick (cn := 0) (sl := 0) (st := []) X (ws' := [oM q a al at_ st so va fa pl sg su, gA cI (a 0) 1140 A, gA cI (a 19) 112 g_44]) [1, 0, 2] rfl rfl ?_
        refine g_iconst (pc := 47) X dX9_likelyTo_47 ?_
        refine g_istore (pc := 48) X (lv' := [(0, .ref q), (1, gi r), (2, gi h), (3, gi k), (4, gi 0)]) dX9_likelyTo_48 rfl rfl ?_
        have L50 : ∀ (n50 : Nat) (y : Int) (f : Int → Int), (0 ≤ y ∧ y ≤ A 3) → (wrote r (lkI A h k y (lkT A h k)) bg f) → (A 3 - y).toNat < n50 → V 0 0 [oM q a al at_ st so va fa pl sg su, gA cI (a 0) 1140 A, gA cI (a 19) 112 f] 50 [(0, .ref q), (1, gi r), (2, gi h), (3, gi k), (4, gi y)] [] := by
          intro n50
          induction n50 with
          | zero => intro y f hy hw5 hn50; exact absurd hn50 (Nat.not_lt_zero _)
          | succ n50 ih50 =>
            intro y f hy hw5 hn50
            have hib := lkI_b hA (h := h) (k := k) (g := y) (x := lkT A h k) (by omega) (by omega) (by omega) hlb
            refine g_iload (pc := 50) X dX9_likelyTo_50 4 rfl ?_
            refine g_aload_n (pc := 52) X dX9_likelyTo_52 0 rfl ?_
            refine g_get (pc := 53) X fl_X9_7 dX9_likelyTo_53 0 (v := .ref (a 0)) rfl rfl ?_
            refine g_iconst (pc := 56) X dX9_likelyTo_56 ?_
            refine g_iald (pc := 57) X dX9_likelyTo_57 1 rfl (by omega) rfl ?_
            refine g_icmpge (pc := 58) X 97 dX9_likelyTo_58 (by decide) (by omega) (by omega) (fun h58 => ?_) (fun h58 => ?_)
            · refine g_iinc (pc := 97) X (lv' := [(0, .ref q), (1, gi r), (2, gi h), (3, gi (k + 1)), (4, gi y)]) dX9_likelyTo_97 3 rfl rfl rfl ?_
              refine g_goto (pc := 100) X 8 dX9_likelyTo_100 (by decide) ?_
              refine g_lsub X [0, 1, 2, 3] rfl ?_
              exact ih8 _ _ (by omega) (by rw [lkT_s hk.1, show A 3 = y by omega]; exact hw5) (by omega)
            · refine g_aload_n (pc := 61) X dX9_likelyTo_61 0 rfl ?_
              refine g_iload (pc := 62) X dX9_likelyTo_62 4 rfl ?_
              refine gc_Vi (pc := 64) X (c_X9_habitsOf l D cI cZ q a al at_ st so va fa pl sg su A y hA (by omega)) lm_X9_191 dX9_likelyTo_64 [0, 1] rfl rfl rfl rfl rfl rfl rfl rfl ?_
              have hsb := hsm_b hA (g := y) (by omega)
              have hmv := mulb (a := lkI A h k y (lkT A h k)) (b := hsm A y) (A := 590490000 ^ 8 * 590490000) (B := 90) hib hsb
              refine g_istore (pc := 67) X (lv' := [(0, .ref q), (1, gi r), (2, gi h), (3, gi k), (4, gi y), (5, gi (hsm A y))]) dX9_likelyTo_67 rfl rfl ?_
              refine g_aload_n (pc := 69) X dX9_likelyTo_69 0 rfl ?_
              refine g_iload_n (pc := 70) X dX9_likelyTo_70 1 rfl ?_
              refine g_iload (pc := 71) X dX9_likelyTo_71 4 rfl ?_
              refine g_iload_n (pc := 73) X dX9_likelyTo_73 2 rfl ?_
              refine g_icmpeq (pc := 74) X 82 dX9_likelyTo_74 (by decide) (by omega) (by omega) (fun h74 => ?_) (fun h74 => ?_)
              · refine g_iconst (pc := 82) X dX9_likelyTo_82 ?_
                refine g_goto (pc := 83) X 88 dX9_likelyTo_83 (by decide) ?_
                refine gc_Vxv (pc := 88) X (wr := [gA cI (a 0) 1140 A]) (c_X9_times l D cI cZ q a al at_ st so va fa pl sg su f r 1 (by first | assumption | exact wr_o (by assumption)) (by omega) (by omega) (by rw [wr_k hw5]; have := BB_3; omega)) lm_X9_100 dX9_likelyTo_88 [0, 2] [1] rfl rfl rfl rfl (by decide) rfl rfl rfl rfl rfl rfl (fun x88 hx88 => ?_)
                generalize x88 = g_88 at hx88 ⊢
                have hw_88 : wrote r (nv f r * 1) f g_88 := hx88
                refine g_pick (cn := 0) (sl := 0) (st := []) X (ws' := [oM q a al at_ st so va fa pl sg su, gA cI (a 0) 1140 A, gA cI (a 19) 112 g_88]) [1, 0, 2] rfl rfl ?_
                refine g_iinc (pc := 91) X (lv' := [(0, .ref q), (1, gi r), (2, gi h), (3, gi k), (4, gi (y + 1)), (5, gi (hsm A y))]) dX9_likelyTo_91 4 rfl rfl rfl ?_
                refine g_goto (pc := 94) X 50 dX9_likelyTo_94 (by decide) ?_
                refine g_lsub X [0, 1, 2, 3, 4] rfl ?_
                exact ih50 _ _ (by omega) (by rw [lkI_s hy.1]; have q := wr_tr hw5 hw_88; rw [wr_k hw5] at q; unfold fac; first | (rw [if_pos (by omega)]; exact q) | (rw [if_neg (by omega)]; exact q)) (by omega)
              · refine g_iload (pc := 77) X dX9_likelyTo_77 5 rfl ?_
                refine g_ifne (pc := 79) X 86 dX9_likelyTo_79 (by decide) (by omega) (fun h79 => ?_) (fun h79 => ?_)
                · refine g_iload (pc := 86) X dX9_likelyTo_86 5 rfl ?_
                  refine gc_Vxv (pc := 88) X (wr := [gA cI (a 0) 1140 A]) (c_X9_times l D cI cZ q a al at_ st so va fa pl sg su f r (hsm A y) (by first | assumption | exact wr_o (by assumption)) (by omega) (by omega) (by rw [wr_k hw5]; have := BB_3; omega)) lm_X9_100 dX9_likelyTo_88 [0, 2] [1] rfl rfl rfl rfl (by decide) rfl rfl rfl rfl rfl rfl (fun x88 hx88 => ?_)
                  generalize x88 = g_88 at hx88 ⊢
                  have hw_88 : wrote r (nv f r * (hsm A y)) f g_88 := hx88
                  refine g_pick (cn := 0) (sl := 0) (st := []) X (ws' := [oM q a al at_ st so va fa pl sg su, gA cI (a 0) 1140 A, gA cI (a 19) 112 g_88]) [1, 0, 2] rfl rfl ?_
                  refine g_iinc (pc := 91) X (lv' := [(0, .ref q), (1, gi r), (2, gi h), (3, gi k), (4, gi (y + 1)), (5, gi (hsm A y))]) dX9_likelyTo_91 4 rfl rfl rfl ?_
                  refine g_goto (pc := 94) X 50 dX9_likelyTo_94 (by decide) ?_
                  refine g_lsub X [0, 1, 2, 3, 4] rfl ?_
                  exact ih50 _ _ (by omega) (by rw [lkI_s hy.1]; have q := wr_tr hw5 hw_88; rw [wr_k hw5] at q; unfold fac; first | (rw [if_pos (by omega)]; exact q) | (rw [if_neg (by omega)]; exact q)) (by omega)
                · refine g_iconst (pc := 82) X dX9_likelyTo_82 ?_
                  refine g_goto (pc := 83) X 88 dX9_likelyTo_83 (by decide) ?_
                  refine gc_Vxv (pc := 88) X (wr := [gA cI (a 0) 1140 A]) (c_X9_times l D cI cZ q a al at_ st so va fa pl sg su f r 1 (by first | assumption | exact wr_o (by assumption)) (by omega) (by omega) (by rw [wr_k hw5]; have := BB_3; omega)) lm_X9_100 dX9_likelyTo_88 [0, 2] [1] rfl rfl rfl rfl (by decide) rfl rfl rfl rfl rfl rfl (fun x88 hx88 => ?_)
                  generalize x88 = g_88 at hx88 ⊢
                  have hw_88 : wrote r (nv f r * 1) f g_88 := hx88
                  refine g_pick (cn := 0) (sl := 0) (st := []) X (ws' := [oM q a al at_ st so va fa pl sg su, gA cI (a 0) 1140 A, gA cI (a 19) 112 g_88]) [1, 0, 2] rfl rfl ?_
                  refine g_iinc (pc := 91) X (lv' := [(0, .ref q), (1, gi r), (2, gi h), (3, gi k), (4, gi (y + 1)), (5, gi (hsm A y))]) dX9_likelyTo_91 4 rfl rfl rfl ?_
                  refine g_goto (pc := 94) X 50 dX9_likelyTo_94 (by decide) ?_
                  refine g_lsub X [0, 1, 2, 3, 4] rfl ?_
                  exact ih50 _ _ (by omega) (by rw [lkI_s hy.1]; have q := wr_tr hw5 hw_88; rw [wr_k hw5] at q; unfold fac; first | (rw [if_pos (by omega)]; exact q) | (rw [if_neg (by omega)]; exact q)) (by omega)
        exact L50 _ _ _ (by omega) (by have q := wr_tr hw hw_44; rw [wr_k hw] at q; exact q) (Nat.lt_succ_self _)
  exact L8 _ _ _ (by omega) (by exact hw_3) (Nat.lt_succ_self _)

set_option maxHeartbeats 4000000 in
set_option maxRecDepth 100000 in
theorem c_X9_whose (l : Launch) (D : va_G) (cI cZ : ClassId) (q : Nat) (a : Nat → Nat) (al : Int) (at_ : Int) (st : Int) (so : Int) (va : Int) (fa : Int) (pl : Int) (sg : Int) (su : Int) (A : Int → Int) (kp : Int → Int) (rf : Int → Int) (lk_ : Int → Int) (sh : Int → Int) (pi : Int → Int) (th : Int → Int) (fl : Int → Int) (so_ : Int → Int) (fr : Int → Int) (le : Int → Int) (lg : Int → Int) (bg : Int → Int) (fP : Int) (fQ : Int) (h : Int) (hA : okA A) (hF : frM bg sg fP fQ) (hh : -2147483648 ≤ h ∧ h < 2147483648) : GM l D cI cZ yX9_whose cX9_whose 3 (some .int) ({ frames := 3, cells := 0, slots := 0, locals := 69 }) 0 0 false [.ref q, gi h] [oM q a al at_ st so va fa pl sg su, gA cI (a 0) 1140 A, gA cZ (a 1) 2 kp, gA cI (a 2) 3 rf, gA cI (a 3) 6 lk_, gA cI (a 5) 60 sh, gA cI (a 12) 8 pi, gA cI (a 13) 8 th, gA cI (a 14) 8 fl, gA cI (a 15) 8 so_, gA cI (a 16) 8 fr, gA cI (a 17) 2048 le, gA cI (a 18) 41 lg, gA cI (a 19) 112 bg] (gPxi (fun xo : (Int → Int) => (o_whose A h fP fQ).1) (fun xo : (Int → Int) => [oM q a al at_ st so va fa pl (sgn (o_whose A h fP fQ).2.2.1) su, gA cI (a 0) 1140 A, gA cZ (a 1) 2 kp, gA cI (a 2) 3 (bump (o_whose A h fP fQ).2.1 rf), gA cI (a 3) 6 lk_, gA cI (a 5) 60 sh, gA cI (a 12) 8 pi, gA cI (a 13) 8 th, gA cI (a 14) 8 fl, gA cI (a 15) 8 so_, gA cI (a 16) 8 fr, gA cI (a 17) 2048 le, gA cI (a 18) 41 lg, gA cI (a 19) 112 xo]) (fun xo : (Int → Int) => (frM xo (sgn (o_whose A h fP fQ).2.2.1) (o_whose A h fP fQ).2.2.1 (o_whose A h fP fQ).2.2.2))) := by
  refine g_enterI (z := false) (lv0 := [(0, .ref q), (1, gi h)]) _ rfl (by decide) rfl rfl (fun V X ret => ?_)
  have hA1 := okA_1 hA
  have hA0 := okA_0 hA
  have hpu := okA_pu hA
  have hB := hF.1
  have hA3 := okA_3 hA
  have hA4 := okA_4 hA
  refine g_aload_n (pc := 0) X dX9_whose_0 0 rfl ?_
  refine g_iload_n (pc := 1) X dX9_whose_1 1 rfl ?_
  refine gc_Vi (pc := 2) X (c_X9_isHouse l D cI cZ q a al at_ st so va fa pl sg su A h hA (by omega)) lm_X9_188 dX9_whose_2 [0, 1] rfl rfl rfl rfl rfl rfl rfl rfl ?_
  refine g_ifneB (pc := 5) X 15 dX9_whose_5 (by decide) (fun h5 => ?_) (fun h5 => ?_)
  · refine g_aload_n (pc := 15) X dX9_whose_15 0 rfl ?_
    refine g_iconst (pc := 16) X dX9_whose_16 ?_
    refine g_iconst (pc := 17) X dX9_whose_17 ?_
    refine gc_Vxv (pc := 18) X (wr := [gA cI (a 0) 1140 A, gA cZ (a 1) 2 kp, gA cI (a 2) 3 rf, gA cI (a 3) 6 lk_, gA cI (a 5) 60 sh, gA cI (a 12) 8 pi, gA cI (a 13) 8 th, gA cI (a 14) 8 fl, gA cI (a 15) 8 so_, gA cI (a 16) 8 fr, gA cI (a 17) 2048 le, gA cI (a 18) 41 lg]) (c_X9_set l D cI cZ q a al at_ st so va fa pl sg su bg 3 0 (by first | assumption | exact wr_o (by assumption)) (by omega) (by omega)) lm_X9_93 dX9_whose_18 [0, 13] [1, 2, 3, 4, 5, 6, 7, 8, 9, 10, 11, 12] rfl rfl rfl rfl (by decide) rfl rfl rfl rfl rfl rfl (fun x18 hx18 => ?_)
    generalize x18 = g_18 at hx18 ⊢
    have hw_18 : wrote 3 (0) bg g_18 := hx18
    refine g_pick (cn := 0) (sl := 0) (st := []) X (ws' := [oM q a al at_ st so va fa pl sg su, gA cI (a 0) 1140 A, gA cZ (a 1) 2 kp, gA cI (a 2) 3 rf, gA cI (a 3) 6 lk_, gA cI (a 5) 60 sh, gA cI (a 12) 8 pi, gA cI (a 13) 8 th, gA cI (a 14) 8 fl, gA cI (a 15) 8 so_, gA cI (a 16) 8 fr, gA cI (a 17) 2048 le, gA cI (a 18) 41 lg, gA cI (a 19) 112 g_18]) [12, 0, 1, 2, 3, 4, 5, 6, 7, 8, 9, 10, 11, 13] rfl rfl ?_
    refine g_iconst (pc := 21) X dX9_whose_21 ?_
    refine g_istore_n (pc := 22) X (lv' := [(0, .ref q), (1, gi h), (2, gi 0)]) dX9_whose_22 rfl rfl ?_
    have L23 : ∀ (n23 : Nat) (i : Int) (e : Int → Int), (0 ≤ i ∧ i ≤ A 3) → (okB e) → (nv e 0 = nv bg 0 ∧ nv e 1 = nv bg 1) → (nv e 3 = hT A i) → (A 3 - i).toNat < n23 → V 0 0 [oM q a al at_ st so va fa pl sg su, gA cI (a 0) 1140 A, gA cZ (a 1) 2 kp, gA cI (a 2) 3 rf, gA cI (a 3) 6 lk_, gA cI (a 5) 60 sh, gA cI (a 12) 8 pi, gA cI (a 13) 8 th, gA cI (a 14) 8 fl, gA cI (a 15) 8 so_, gA cI (a 16) 8 fr, gA cI (a 17) 2048 le, gA cI (a 18) 41 lg, gA cI (a 19) 112 e] 23 [(0, .ref q), (1, gi h), (2, gi i)] [] := by
      intro n23
      induction n23 with
      | zero => intro i e hi hE hk hs hn23; exact absurd hn23 (Nat.not_lt_zero _)
      | succ n23 ih23 =>
        intro i e hi hE hk hs hn23
        have htb := hT_b hA hi
        refine g_iload_n (pc := 23) X dX9_whose_23 2 rfl ?_
        refine g_aload_n (pc := 24) X dX9_whose_24 0 rfl ?_
        refine g_get (pc := 25) X fl_X9_7 dX9_whose_25 0 (v := .ref (a 0)) rfl rfl ?_
        refine g_iconst (pc := 28) X dX9_whose_28 ?_
        refine g_iald (pc := 29) X dX9_whose_29 1 rfl (by omega) rfl ?_
        refine g_icmpge (pc := 30) X 51 dX9_whose_30 (by decide) (by omega) (by omega) (fun h30 => ?_) (fun h30 => ?_)
        · refine g_aload_n (pc := 51) X dX9_whose_51 0 rfl ?_
          refine g_iconst (pc := 52) X dX9_whose_52 ?_
          refine gc_Vi (pc := 53) X (c_X9_isNought l D cI cZ q a al at_ st so va fa pl sg su e 3 (by first | assumption | exact wr_o (by assumption)) (by omega)) lm_X9_197 dX9_whose_53 [0, 13] rfl rfl rfl rfl rfl rfl rfl rfl ?_
          refine g_ifeqB (pc := 56) X 66 dX9_whose_56 (by decide) (fun h56 => ?_) (fun h56 => ?_)
          · have hz0 : ¬ hT A (A 3) = 0 := by rw [show A 3 = i by omega, ← hs]; exact h56
            have hlh := lkT_b hA (h := h) (k := A 4) (by omega) hA4
            have hq3 : nv e 3 = hT A (A 3) := by rw [hs]; exact congrArg _ (by omega)
            refine g_aload_n (pc := 66) X dX9_whose_66 0 rfl ?_
            refine g_iconst (pc := 67) X dX9_whose_67 ?_
            refine g_iload_n (pc := 68) X dX9_whose_68 1 rfl ?_
            refine gc_Vxv (pc := 69) X (wr := [gA cZ (a 1) 2 kp, gA cI (a 2) 3 rf, gA cI (a 3) 6 lk_, gA cI (a 5) 60 sh, gA cI (a 12) 8 pi, gA cI (a 13) 8 th, gA cI (a 14) 8 fl, gA cI (a 15) 8 so_, gA cI (a 16) 8 fr, gA cI (a 17) 2048 le, gA cI (a 18) 41 lg]) (c_X9_likelyTo l D cI cZ q a al at_ st so va fa pl sg su A e 0 h hA (by first | assumption | exact wr_o (by assumption)) (by omega) (by omega)) lm_X9_194 dX9_whose_69 [0, 1, 13] [2, 3, 4, 5, 6, 7, 8, 9, 10, 11, 12] rfl rfl rfl rfl (by decide) rfl rfl rfl rfl rfl rfl (fun x69 hx69 => ?_)
            generalize x69 = g_69 at hx69 ⊢
            have hw_69 : wrote 0 (lkT A h (A 4)) e g_69 := hx69
            refine g_pick (cn := 0) (sl := 0) (st := []) X (ws' := [oM q a al at_ st so va fa pl sg su, gA cI (a 0) 1140 A, gA cZ (a 1) 2 kp, gA cI (a 2) 3 rf, gA cI (a 3) 6 lk_, gA cI (a 5) 60 sh, gA cI (a 12) 8 pi, gA cI (a 13) 8 th, gA cI (a 14) 8 fl, gA cI (a 15) 8 so_, gA cI (a 16) 8 fr, gA cI (a 17) 2048 le, gA cI (a 18) 41 lg, gA cI (a 19) 112 g_69]) [11, 12, 0, 1, 2, 3, 4, 5, 6, 7, 8, 9, 10, 13] rfl rfl ?_
            refine g_aload_n (pc := 72) X dX9_whose_72 0 rfl ?_
            refine g_iconst (pc := 73) X dX9_whose_73 ?_
            refine g_iconst (pc := 74) X dX9_whose_74 ?_
            refine gc_Vxv (pc := 75) X (wr := [gA cI (a 0) 1140 A, gA cZ (a 1) 2 kp, gA cI (a 2) 3 rf, gA cI (a 3) 6 lk_, gA cI (a 5) 60 sh, gA cI (a 12) 8 pi, gA cI (a 13) 8 th, gA cI (a 14) 8 fl, gA cI (a 15) 8 so_, gA cI (a 16) 8 fr, gA cI (a 17) 2048 le, gA cI (a 18) 41 lg]) (c_X9_copy l D cI cZ q a al at_ st so va fa pl sg su g_69 3 1 (by first | assumption | exact wr_o (by assumption)) (by omega) (by omega) (by omega)) lm_X9_200 dX9_whose_75 [0, 13] [1, 2, 3, 4, 5, 6, 7, 8, 9, 10, 11, 12] rfl rfl rfl rfl (by decide) rfl rfl rfl rfl rfl rfl (fun x75 hx75 => ?_)
            generalize x75 = g_75 at hx75 ⊢
            have hw_75 : wrote 1 (nv g_69 3) g_69 g_75 := hx75
            refine g_pick (cn := 0) (sl := 0) (st := []) X (ws' := [oM q a al at_ st so va fa pl sg su, gA cI (a 0) 1140 A, gA cZ (a 1) 2 kp, gA cI (a 2) 3 rf, gA cI (a 3) 6 lk_, gA cI (a 5) 60 sh, gA cI (a 12) 8 pi, gA cI (a 13) 8 th, gA cI (a 14) 8 fl, gA cI (a 15) 8 so_, gA cI (a 16) 8 fr, gA cI (a 17) 2048 le, gA cI (a 18) 41 lg, gA cI (a 19) 112 g_75]) [12, 0, 1, 2, 3, 4, 5, 6, 7, 8, 9, 10, 11, 13] rfl rfl ?_
            have e1 : nv g_75 1 = hT A (A 3) := (wr_k hw_75).trans ((wr_n hw_69 (by decide)).trans hq3)
            refine g_aload_n (pc := 78) X dX9_whose_78 0 rfl ?_
            refine gc_Vxv (pc := 79) X (wr := [gA cI (a 0) 1140 A, gA cZ (a 1) 2 kp, gA cI (a 2) 3 rf, gA cI (a 3) 6 lk_, gA cI (a 5) 60 sh, gA cI (a 12) 8 pi, gA cI (a 13) 8 th, gA cI (a 14) 8 fl, gA cI (a 15) 8 so_, gA cI (a 16) 8 fr, gA cI (a 17) 2048 le, gA cI (a 18) 41 lg]) (c_X9_tell l D cI cZ q a al at_ st so va fa pl sg su g_75 (by first | assumption | exact wr_o (by assumption)) (by rw [e1]; omega)) lm_X9_97 dX9_whose_79 [0, 13] [1, 2, 3, 4, 5, 6, 7, 8, 9, 10, 11, 12] rfl rfl rfl rfl (by decide) rfl rfl rfl rfl rfl rfl (fun x79 hx79 => ?_)
            generalize x79 = g_79 at hx79 ⊢
            obtain ⟨hok_79, h0_79, h1_79⟩ : (okB g_79) ∧ (nv g_79 0 = nv g_75 0 / gc (nv g_75 0) (nv g_75 1)) ∧ (nv g_79 1 = nv g_75 1 / gc (nv g_75 0) (nv g_75 1)) := hx79
            refine g_pick (cn := 0) (sl := 0) (st := []) X (ws' := [oM q a al at_ st so va fa pl (if nv g_75 0 = 0 then (0 : Int) else 1) su, gA cI (a 0) 1140 A, gA cZ (a 1) 2 kp, gA cI (a 2) 3 rf, gA cI (a 3) 6 lk_, gA cI (a 5) 60 sh, gA cI (a 12) 8 pi, gA cI (a 13) 8 th, gA cI (a 14) 8 fl, gA cI (a 15) 8 so_, gA cI (a 16) 8 fr, gA cI (a 17) 2048 le, gA cI (a 18) 41 lg, gA cI (a 19) 112 g_79]) [12, 0, 1, 2, 3, 4, 5, 6, 7, 8, 9, 10, 11, 13] rfl rfl ?_
            refine g_iconst (pc := 82) X dX9_whose_82 ?_
            have hfr := frM_t (f := g_75) (P := lkT A h (A 4)) (Q := hT A (A 3)) hok_79 hlh.1 (by omega) ((wr_n hw_75 (by decide)).trans (wr_k hw_69)) e1 h0_79 h1_79
            exact ret _ _ _ _ _ _ dX9_whose_83 rfl rfl (fun h => by cases h) (gPxi_e g_79 (by rw [(show o_whose A h fP fQ = (1, -1, redP (lkT A h (A 4)) (hT A (A 3)), redQ (lkT A h (A 4)) (hT A (A 3))) from (if_pos (by omega)).trans (if_neg hz0))]) (by rw [(show o_whose A h fP fQ = (1, -1, redP (lkT A h (A 4)) (hT A (A 3)), redQ (lkT A h (A 4)) (hT A (A 3))) from (if_pos (by omega)).trans (if_neg hz0)), hfr.2.2.1]; rfl) (by rw [(show o_whose A h fP fQ = (1, -1, redP (lkT A h (A 4)) (hT A (A 3)), redQ (lkT A h (A 4)) (hT A (A 3))) from (if_pos (by omega)).trans (if_neg hz0))]; exact ⟨hfr.1, hfr.2.1, rfl, hfr.2.2.2⟩))
          · have hz0 : hT A (A 3) = 0 := by rw [show A 3 = i by omega, ← hs]; exact h56
            refine g_aload_n (pc := 59) X dX9_whose_59 0 rfl ?_
            refine g_bipush (pc := 60) X dX9_whose_60 (by decide +kernel) ?_
            refine gc_Vxi (pc := 62) X (wr := [gA cI (a 0) 1140 A, gA cZ (a 1) 2 kp, gA cI (a 3) 6 lk_, gA cI (a 5) 60 sh, gA cI (a 12) 8 pi, gA cI (a 13) 8 th, gA cI (a 14) 8 fl, gA cI (a 15) 8 so_, gA cI (a 16) 8 fr, gA cI (a 17) 2048 le, gA cI (a 18) 41 lg, gA cI (a 19) 112 e]) (c_X9_refuse l D cI cZ q a al at_ st so va fa pl sg su rf (-3) (by omega)) lm_X9_54 dX9_whose_62 [0, 3] [1, 2, 4, 5, 6, 7, 8, 9, 10, 11, 12, 13] rfl rfl rfl rfl (by decide) rfl rfl rfl rfl rfl rfl (fun x62 hx62 => ?_)
            refine g_pick (cn := 0) (sl := 0) (st := gi (-3) :: []) X (ws' := [oM q a al at_ st so va fa pl sg su, gA cI (a 0) 1140 A, gA cZ (a 1) 2 kp, gA cI (a 2) 3 (gupd rf (-2 - (-3)) (rf (-2 - (-3)) + 1)), gA cI (a 3) 6 lk_, gA cI (a 5) 60 sh, gA cI (a 12) 8 pi, gA cI (a 13) 8 th, gA cI (a 14) 8 fl, gA cI (a 15) 8 so_, gA cI (a 16) 8 fr, gA cI (a 17) 2048 le, gA cI (a 18) 41 lg, gA cI (a 19) 112 e]) [12, 0, 1, 13, 2, 3, 4, 5, 6, 7, 8, 9, 10, 11] rfl rfl ?_
            exact ret _ _ _ _ _ _ dX9_whose_65 rfl rfl (fun h => by cases h) (gPxi_e e (by rw [(show o_whose A h fP fQ = (-3, 1, fP, fQ) from (if_pos (by omega)).trans (if_pos hz0))]) (by rw [(show o_whose A h fP fQ = (-3, 1, fP, fQ) from (if_pos (by omega)).trans (if_pos hz0)), hF.2.2.1]; rfl) (by rw [(show o_whose A h fP fQ = (-3, 1, fP, fQ) from (if_pos (by omega)).trans (if_pos hz0))]; exact ⟨hE, ⟨hk.1.trans hF.2.1.1, hk.2.trans hF.2.1.2⟩, rfl, hF.2.2.2⟩))
        · refine g_aload_n (pc := 33) X dX9_whose_33 0 rfl ?_
          refine g_iconst (pc := 34) X dX9_whose_34 ?_
          refine g_iload_n (pc := 35) X dX9_whose_35 2 rfl ?_
          have hlb := lkT_b hA (h := i) (k := A 4) (by omega) hA4
          refine gc_Vxv (pc := 36) X (wr := [gA cZ (a 1) 2 kp, gA cI (a 2) 3 rf, gA cI (a 3) 6 lk_, gA cI (a 5) 60 sh, gA cI (a 12) 8 pi, gA cI (a 13) 8 th, gA cI (a 14) 8 fl, gA cI (a 15) 8 so_, gA cI (a 16) 8 fr, gA cI (a 17) 2048 le, gA cI (a 18) 41 lg]) (c_X9_likelyTo l D cI cZ q a al at_ st so va fa pl sg su A e 2 i hA (by first | assumption | exact wr_o (by assumption)) (by omega) (by omega)) lm_X9_194 dX9_whose_36 [0, 1, 13] [2, 3, 4, 5, 6, 7, 8, 9, 10, 11, 12] rfl rfl rfl rfl (by decide) rfl rfl rfl rfl rfl rfl (fun x36 hx36 => ?_)
          generalize x36 = g_36 at hx36 ⊢
          have hw_36 : wrote 2 (lkT A i (A 4)) e g_36 := hx36
          refine g_pick (cn := 0) (sl := 0) (st := []) X (ws' := [oM q a al at_ st so va fa pl sg su, gA cI (a 0) 1140 A, gA cZ (a 1) 2 kp, gA cI (a 2) 3 rf, gA cI (a 3) 6 lk_, gA cI (a 5) 60 sh, gA cI (a 12) 8 pi, gA cI (a 13) 8 th, gA cI (a 14) 8 fl, gA cI (a 15) 8 so_, gA cI (a 16) 8 fr, gA cI (a 17) 2048 le, gA cI (a 18) 41 lg, gA cI (a 19) 112 g_36]) [11, 12, 0, 1, 2, 3, 4, 5, 6, 7, 8, 9, 10, 13] rfl rfl ?_
          refine g_aload_n (pc := 39) X dX9_whose_39 0 rfl ?_
          refine g_iconst (pc := 40) X dX9_whose_40 ?_
          refine g_iconst (pc := 41) X dX9_whose_41 ?_
          refine gc_Vxv (pc := 42) X (wr := [gA cI (a 0) 1140 A, gA cZ (a 1) 2 kp, gA cI (a 2) 3 rf, gA cI (a 3) 6 lk_, gA cI (a 5) 60 sh, gA cI (a 12) 8 pi, gA cI (a 13) 8 th, gA cI (a 14) 8 fl, gA cI (a 15) 8 so_, gA cI (a 16) 8 fr, gA cI (a 17) 2048 le, gA cI (a 18) 41 lg]) (c_X9_add l D cI cZ q a al at_ st so va fa pl sg su g_36 3 2 (by first | assumption | exact wr_o (by assumption)) (by omega) (by omega) (by omega) (by rw [wr_n hw_36 (show (3 : Int) ≠ 2 by decide), wr_k hw_36, hs]; have := BB_1; omega)) lm_X9_103 dX9_whose_42 [0, 13] [1, 2, 3, 4, 5, 6, 7, 8, 9, 10, 11, 12] rfl rfl rfl rfl (by decide) rfl rfl rfl rfl rfl rfl (fun x42 hx42 => ?_)
          generalize x42 = g_42 at hx42 ⊢
          have hw_42 : wrote 3 (nv g_36 3 + nv g_36 2) g_36 g_42 := hx42
          refine g_pick (cn := 0) (sl := 0) (st := []) X (ws' := [oM q a al at_ st so va fa pl sg su, gA cI (a 0) 1140 A, gA cZ (a 1) 2 kp, gA cI (a 2) 3 rf, gA cI (a 3) 6 lk_, gA cI (a 5) 60 sh, gA cI (a 12) 8 pi, gA cI (a 13) 8 th, gA cI (a 14) 8 fl, gA cI (a 15) 8 so_, gA cI (a 16) 8 fr, gA cI (a 17) 2048 le, gA cI (a 18) 41 lg, gA cI (a 19) 112 g_42]) [12, 0, 1, 2, 3, 4, 5, 6, 7, 8, 9, 10, 11, 13] rfl rfl ?_
          refine g_iinc (pc := 45) X (lv' := [(0, .ref q), (1, gi h), (2, gi (i + 1))]) dX9_whose_45 2 rfl rfl rfl ?_
          refine g_goto (pc := 48) X 23 dX9_whose_48 (by decide) ?_
          exact ih23 _ _ (by omega) (wr_o hw_42) ⟨(wr_n hw_42 (by decide)).trans ((wr_n hw_36 (by decide)).trans hk.1), (wr_n hw_42 (by decide)).trans ((wr_n hw_36 (by decide)).trans hk.2)⟩ (by rw [wr_k hw_42, wr_n hw_36 (show (3 : Int) ≠ 2 by decide), wr_k hw_36, hs]; exact (sm_s hi.1).symm) (by omega)
    exact L23 _ _ _ (by omega) (wr_o hw_18) ⟨wr_n hw_18 (by decide), wr_n hw_18 (by decide)⟩ (by exact wr_k hw_18) (Nat.lt_succ_self _)
  · refine g_aload_n (pc := 8) X dX9_whose_8 0 rfl ?_
    refine g_bipush (pc := 9) X dX9_whose_9 (by decide +kernel) ?_
    refine gc_Vxi (pc := 11) X (wr := [gA cI (a 0) 1140 A, gA cZ (a 1) 2 kp, gA cI (a 3) 6 lk_, gA cI (a 5) 60 sh, gA cI (a 12) 8 pi, gA cI (a 13) 8 th, gA cI (a 14) 8 fl, gA cI (a 15) 8 so_, gA cI (a 16) 8 fr, gA cI (a 17) 2048 le, gA cI (a 18) 41 lg, gA cI (a 19) 112 bg]) (c_X9_refuse l D cI cZ q a al at_ st so va fa pl sg su rf (-2) (by omega)) lm_X9_54 dX9_whose_11 [0, 3] [1, 2, 4, 5, 6, 7, 8, 9, 10, 11, 12, 13] rfl rfl rfl rfl (by decide) rfl rfl rfl rfl rfl rfl (fun x11 hx11 => ?_)
    refine g_pick (cn := 0) (sl := 0) (st := gi (-2) :: []) X (ws' := [oM q a al at_ st so va fa pl sg su, gA cI (a 0) 1140 A, gA cZ (a 1) 2 kp, gA cI (a 2) 3 (gupd rf (-2 - (-2)) (rf (-2 - (-2)) + 1)), gA cI (a 3) 6 lk_, gA cI (a 5) 60 sh, gA cI (a 12) 8 pi, gA cI (a 13) 8 th, gA cI (a 14) 8 fl, gA cI (a 15) 8 so_, gA cI (a 16) 8 fr, gA cI (a 17) 2048 le, gA cI (a 18) 41 lg, gA cI (a 19) 112 bg]) [12, 0, 1, 13, 2, 3, 4, 5, 6, 7, 8, 9, 10, 11] rfl rfl ?_
    exact ret _ _ _ _ _ _ dX9_whose_14 rfl rfl (fun h => by cases h) (gPxi_e bg (by rw [(show o_whose A h fP fQ = (-2, 0, fP, fQ) from if_neg (by omega))]) (by rw [(show o_whose A h fP fQ = (-2, 0, fP, fQ) from if_neg (by omega)), hF.2.2.1]; rfl) (by rw [(show o_whose A h fP fQ = (-2, 0, fP, fQ) from if_neg (by omega))]; exact ⟨hF.1, hF.2.1, rfl, hF.2.2.2⟩))
