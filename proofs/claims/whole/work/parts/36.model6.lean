/-! the model: BEAST, houses, walkers, images -/
set_option maxHeartbeats 4000000 in
set_option maxRecDepth 100000 in
theorem c_X9_beast (l : Launch) (D : va_G) (cI cZ : ClassId) (q : Nat) (a : Nat → Nat) (al : Int) (at_ : Int) (st : Int) (so : Int) (va : Int) (fa : Int) (pl : Int) (sg : Int) (su : Int) (A : Int → Int) (kp : Int → Int) (rf : Int → Int) (lk_ : Int → Int) (sh : Int → Int) (pi : Int → Int) (th : Int → Int) (fl : Int → Int) (so_ : Int → Int) (fr : Int → Int) (le : Int → Int) (lg : Int → Int) (bg : Int → Int) (m : Int) (hA : okA A) (hm : -2147483648 ≤ m ∧ m < 2147483648) : GM l D cI cZ yX9_beast cX9_beast 12 (some .int) ({ frames := 5, cells := 0, slots := 0, locals := 123 }) 0 0 false [.ref q, gi m] [oM q a al at_ st so va fa pl sg su, gA cI (a 0) 1140 A, gA cZ (a 1) 2 kp, gA cI (a 2) 3 rf, gA cI (a 3) 6 lk_, gA cI (a 5) 60 sh, gA cI (a 12) 8 pi, gA cI (a 13) 8 th, gA cI (a 14) 8 fl, gA cI (a 15) 8 so_, gA cI (a 16) 8 fr, gA cI (a 17) 2048 le, gA cI (a 18) 41 lg, gA cI (a 19) 112 bg] (gPxi (fun xo : Unit => (o_beast A m).1) (fun xo : Unit => [oM q a al at_ st so va fa pl sg su, gA cI (a 0) 1140 A, gA cZ (a 1) 2 kp, gA cI (a 2) 3 (bump ((o_beast A m).2) rf), gA cI (a 3) 6 lk_, gA cI (a 5) 60 sh, gA cI (a 12) 8 pi, gA cI (a 13) 8 th, gA cI (a 14) 8 fl, gA cI (a 15) 8 so_, gA cI (a 16) 8 fr, gA cI (a 17) 2048 le, gA cI (a 18) 41 lg, gA cI (a 19) 112 bg]) (fun xo : Unit => True)) := by
  refine g_enterI (z := false) (lv0 := [(0, .ref q), (1, gi m)]) _ rfl (by decide) rfl rfl (fun V X ret => ?_)
  have hA1 := okA_1 hA
  have hA0 := okA_0 hA
  have hpu := okA_pu hA
  refine g_aload_n (pc := 0) X dX9_beast_0 0 rfl ?_
  refine g_iload_n (pc := 1) X dX9_beast_1 1 rfl ?_
  refine gc_Vi (pc := 2) X (c_X9_isMeaning l D cI cZ q a al at_ st so va fa pl sg su A m hA (by omega)) lm_X9_62 dX9_beast_2 [0, 1] rfl rfl rfl rfl rfl rfl rfl rfl ?_
  refine g_ifeqB (pc := 5) X 18 dX9_beast_5 (by decide) (fun h5 => ?_) (fun h5 => ?_)
  · refine g_aload_n (pc := 18) X dX9_beast_18 0 rfl ?_
    refine g_aload_n (pc := 19) X dX9_beast_19 0 rfl ?_
    refine g_iload_n (pc := 20) X dX9_beast_20 1 rfl ?_
    refine gc_Vi (pc := 21) X (c_X9_isMeaning l D cI cZ q a al at_ st so va fa pl sg su A m hA (by omega)) lm_X9_62 dX9_beast_21 [0, 1] rfl rfl rfl rfl rfl rfl rfl rfl ?_
    refine g_ifeqB (pc := 24) X 32 dX9_beast_24 (by decide) (fun h24 => ?_) (fun h24 => ?_)
    · refine g_bipush (pc := 32) X dX9_beast_32 (by decide +kernel) ?_
      refine gc_Vxi (pc := 34) X (wr := [gA cI (a 0) 1140 A, gA cZ (a 1) 2 kp, gA cI (a 3) 6 lk_, gA cI (a 5) 60 sh, gA cI (a 12) 8 pi, gA cI (a 13) 8 th, gA cI (a 14) 8 fl, gA cI (a 15) 8 so_, gA cI (a 16) 8 fr, gA cI (a 17) 2048 le, gA cI (a 18) 41 lg, gA cI (a 19) 112 bg]) (c_X9_refuse l D cI cZ q a al at_ st so va fa pl sg su rf (-2) (by omega)) lm_X9_54 dX9_beast_34 [0, 3] [1, 2, 4, 5, 6, 7, 8, 9, 10, 11, 12, 13] rfl rfl rfl rfl (by decide) rfl rfl rfl rfl rfl rfl (fun x34 hx34 => ?_)
      refine g_pick (cn := 0) (sl := 0) (st := gi (-2) :: []) X (ws' := [oM q a al at_ st so va fa pl sg su, gA cI (a 0) 1140 A, gA cZ (a 1) 2 kp, gA cI (a 2) 3 (gupd rf (-2 - (-2)) (rf (-2 - (-2)) + 1)), gA cI (a 3) 6 lk_, gA cI (a 5) 60 sh, gA cI (a 12) 8 pi, gA cI (a 13) 8 th, gA cI (a 14) 8 fl, gA cI (a 15) 8 so_, gA cI (a 16) 8 fr, gA cI (a 17) 2048 le, gA cI (a 18) 41 lg, gA cI (a 19) 112 bg]) [12, 0, 1, 13, 2, 3, 4, 5, 6, 7, 8, 9, 10, 11] rfl rfl ?_
      exact ret _ _ _ _ _ _ dX9_beast_37 rfl rfl (fun h => by cases h) (gPxi_e () (by rw [(show o_beast A m = (-2, 0) from if_neg (by omega))]) (by rw [(show o_beast A m = (-2, 0) from if_neg (by omega))]; rfl) trivial)
    · refine g_bipush (pc := 27) X dX9_beast_27 (by decide +kernel) ?_
      refine g_goto (pc := 29) X 34 dX9_beast_29 (by decide) ?_
      refine gc_Vxi (pc := 34) X (wr := [gA cI (a 0) 1140 A, gA cZ (a 1) 2 kp, gA cI (a 3) 6 lk_, gA cI (a 5) 60 sh, gA cI (a 12) 8 pi, gA cI (a 13) 8 th, gA cI (a 14) 8 fl, gA cI (a 15) 8 so_, gA cI (a 16) 8 fr, gA cI (a 17) 2048 le, gA cI (a 18) 41 lg, gA cI (a 19) 112 bg]) (c_X9_refuse l D cI cZ q a al at_ st so va fa pl sg su rf (-3) (by omega)) lm_X9_54 dX9_beast_34 [0, 3] [1, 2, 4, 5, 6, 7, 8, 9, 10, 11, 12, 13] rfl rfl rfl rfl (by decide) rfl rfl rfl rfl rfl rfl (fun x34 hx34 => ?_)
      refine g_pick (cn := 0) (sl := 0) (st := gi (-3) :: []) X (ws' := [oM q a al at_ st so va fa pl sg su, gA cI (a 0) 1140 A, gA cZ (a 1) 2 kp, gA cI (a 2) 3 (gupd rf (-2 - (-3)) (rf (-2 - (-3)) + 1)), gA cI (a 3) 6 lk_, gA cI (a 5) 60 sh, gA cI (a 12) 8 pi, gA cI (a 13) 8 th, gA cI (a 14) 8 fl, gA cI (a 15) 8 so_, gA cI (a 16) 8 fr, gA cI (a 17) 2048 le, gA cI (a 18) 41 lg, gA cI (a 19) 112 bg]) [12, 0, 1, 13, 2, 3, 4, 5, 6, 7, 8, 9, 10, 11] rfl rfl ?_
      exact ret _ _ _ _ _ _ dX9_beast_37 rfl rfl (fun h => by cases h) (gPxi_e () (by rw [(show o_beast A m = (-3, 1) from (if_pos (by omega)).trans (if_pos (by omega)))]) (by rw [(show o_beast A m = (-3, 1) from (if_pos (by omega)).trans (if_pos (by omega)))]; rfl) trivial)
  · refine g_aload_n (pc := 8) X dX9_beast_8 0 rfl ?_
    refine g_get (pc := 9) X fl_X9_7 dX9_beast_9 0 (v := .ref (a 0)) rfl rfl ?_
    refine g_iconst (pc := 12) X dX9_beast_12 ?_
    refine g_iald (pc := 13) X dX9_beast_13 1 rfl (by omega) rfl ?_
    refine g_iconst (pc := 14) X dX9_beast_14 ?_
    refine g_icmpge (pc := 15) X 38 dX9_beast_15 (by decide) (by omega) (by omega) (fun h15 => ?_) (fun h15 => ?_)
    · refine g_iconst (pc := 38) X dX9_beast_38 ?_
      refine g_istore_n (pc := 39) X (lv' := [(0, .ref q), (1, gi m), (2, gi 0)]) dX9_beast_39 rfl rfl ?_
      refine g_ldc (pc := 40) X dX9_beast_40 kc_X9_122 ?_
      refine g_istore_n (pc := 42) X (lv' := [(0, .ref q), (1, gi m), (2, gi 0), (3, gi 10000000)]) dX9_beast_42 rfl rfl ?_
      refine g_iconst (pc := 43) X dX9_beast_43 ?_
      refine g_istore (pc := 44) X (lv' := [(0, .ref q), (1, gi m), (2, gi 0), (3, gi 10000000), (4, gi 0)]) dX9_beast_44 rfl rfl ?_
      have L46 : ∀ (n46 : Nat) (x : Int) (y : Int) (c : Int), (0 ≤ c ∧ c ≤ 1000) → (0 ≤ y ∧ y ≤ 10000000) → (b4 A m x y c) → (1000 - c).toNat < n46 → V 0 0 [oM q a al at_ st so va fa pl sg su, gA cI (a 0) 1140 A, gA cZ (a 1) 2 kp, gA cI (a 2) 3 rf, gA cI (a 3) 6 lk_, gA cI (a 5) 60 sh, gA cI (a 12) 8 pi, gA cI (a 13) 8 th, gA cI (a 14) 8 fl, gA cI (a 15) 8 so_, gA cI (a 16) 8 fr, gA cI (a 17) 2048 le, gA cI (a 18) 41 lg, gA cI (a 19) 112 bg] 46 [(0, .ref q), (1, gi m), (2, gi x), (3, gi y), (4, gi c)] [] := by
        intro n46
        induction n46 with
        | zero => intro x y c hc hyb hy hn46; exact absurd hn46 (Nat.not_lt_zero _)
        | succ n46 ih46 =>
          intro x y c hc hyb hy hn46
          refine g_iload (pc := 46) X dX9_beast_46 4 rfl ?_
          refine g_sipush (pc := 48) X dX9_beast_48 (by decide +kernel) ?_
          refine g_icmpge (pc := 51) X 237 dX9_beast_51 (by decide) (by omega) (by omega) (fun h51 => ?_) (fun h51 => ?_)
          · refine g_iload_n (pc := 237) X dX9_beast_237 2 rfl ?_
            exact ret _ _ _ _ _ _ dX9_beast_238 rfl rfl (fun h => by cases h) (gPxi_e () (by rw [(show o_beast A m = (sBeast A m, -1) from (if_pos (by omega)).trans (if_neg (by omega)))]; unfold sBeast; rw [show (1000 : Int) = c by omega]; exact hy.1) (by rw [(show o_beast A m = (sBeast A m, -1) from (if_pos (by omega)).trans (if_neg (by omega)))]; rfl) trivial)
          · refine g_iload (pc := 54) X dX9_beast_54 4 rfl ?_
            refine g_bipush (pc := 56) X dX9_beast_56 (by decide +kernel) ?_
            refine g_idiv (pc := 58) X dX9_beast_58 (by omega) (by omega) ?_
            obtain ⟨i, hi⟩ : ∃ z : Int, z = c / 100 := ⟨_, rfl⟩
            refine g_top (b := i) hi.symm ?_
            refine g_istore (pc := 59) X (lv' := [(0, .ref q), (1, gi m), (2, gi x), (3, gi y), (4, gi c), (5, gi i)]) dX9_beast_59 rfl rfl ?_
            refine g_iload (pc := 61) X dX9_beast_61 4 rfl ?_
            refine g_bipush (pc := 63) X dX9_beast_63 (by decide +kernel) ?_
            refine g_idiv (pc := 65) X dX9_beast_65 (by omega) (by omega) ?_
            refine g_bipush (pc := 66) X dX9_beast_66 (by decide +kernel) ?_
            refine g_irem (pc := 68) X dX9_beast_68 (by omega) (by omega) ?_
            obtain ⟨j, hj⟩ : ∃ z : Int, z = c / 10 % 10 := ⟨_, rfl⟩
            refine g_top (b := j) hj.symm ?_
            refine g_istore (pc := 69) X (lv' := [(0, .ref q), (1, gi m), (2, gi x), (3, gi y), (4, gi c), (5, gi i), (6, gi j)]) dX9_beast_69 rfl rfl ?_
            refine g_iload (pc := 71) X dX9_beast_71 4 rfl ?_
            refine g_bipush (pc := 73) X dX9_beast_73 (by decide +kernel) ?_
            refine g_irem (pc := 75) X dX9_beast_75 (by omega) (by omega) ?_
            obtain ⟨k, hk⟩ : ∃ z : Int, z = c % 10 := ⟨_, rfl⟩
            refine g_top (b := k) hk.symm ?_
            refine g_istore (pc := 76) X (lv' := [(0, .ref q), (1, gi m), (2, gi x), (3, gi y), (4, gi c), (5, gi i), (6, gi j), (7, gi k)]) dX9_beast_76 rfl rfl ?_
            refine g_iload (pc := 78) X dX9_beast_78 5 rfl ?_
            refine g_iload (pc := 80) X dX9_beast_80 6 rfl ?_
            refine g_icmpge (pc := 82) X 231 dX9_beast_82 (by decide) (by omega) (by omega) (fun h82 => ?_) (fun h82 => ?_)
            · refine g_iinc (pc := 231) X (lv' := [(0, .ref q), (1, gi m), (2, gi x), (3, gi y), (4, gi (c + 1)), (5, gi i), (6, gi j), (7, gi k)]) dX9_beast_231 4 rfl rfl rfl ?_
              refine g_goto (pc := 234) X 46 dX9_beast_234 (by decide) ?_
              refine g_lsub X [0, 1, 2, 3, 4] rfl ?_
              exact ih46 _ _ _ (by omega) (by omega) (b4_out hy hi hj hk hc.1 (by omega)) (by omega)
            · refine g_iload (pc := 85) X dX9_beast_85 6 rfl ?_
              refine g_iload (pc := 87) X dX9_beast_87 7 rfl ?_
              refine g_icmpge (pc := 89) X 231 dX9_beast_89 (by decide) (by omega) (by omega) (fun h89 => ?_) (fun h89 => ?_)
              · refine g_iinc (pc := 231) X (lv' := [(0, .ref q), (1, gi m), (2, gi x), (3, gi y), (4, gi (c + 1)), (5, gi i), (6, gi j), (7, gi k)]) dX9_beast_231 4 rfl rfl rfl ?_
                refine g_goto (pc := 234) X 46 dX9_beast_234 (by decide) ?_
                refine g_lsub X [0, 1, 2, 3, 4] rfl ?_
                exact ih46 _ _ _ (by omega) (by omega) (b4_out hy hi hj hk hc.1 (by omega)) (by omega)
              · refine g_iload (pc := 92) X dX9_beast_92 7 rfl ?_
                refine g_aload_n (pc := 94) X dX9_beast_94 0 rfl ?_
                refine g_get (pc := 95) X fl_X9_7 dX9_beast_95 0 (v := .ref (a 0)) rfl rfl ?_
                refine g_iconst (pc := 98) X dX9_beast_98 ?_
                refine g_iald (pc := 99) X dX9_beast_99 1 rfl (by omega) rfl ?_
                refine g_icmpge (pc := 100) X 231 dX9_beast_100 (by decide) (by omega) (by omega) (fun h100 => ?_) (fun h100 => ?_)
                · refine g_iinc (pc := 231) X (lv' := [(0, .ref q), (1, gi m), (2, gi x), (3, gi y), (4, gi (c + 1)), (5, gi i), (6, gi j), (7, gi k)]) dX9_beast_231 4 rfl rfl rfl ?_
                  refine g_goto (pc := 234) X 46 dX9_beast_234 (by decide) ?_
                  refine g_lsub X [0, 1, 2, 3, 4] rfl ?_
                  exact ih46 _ _ _ (by omega) (by omega) (b4_out hy hi hj hk hc.1 (by omega)) (by omega)
                · refine g_iconst (pc := 103) X dX9_beast_103 ?_
                  refine g_istore (pc := 104) X (lv' := [(0, .ref q), (1, gi m), (2, gi x), (3, gi y), (4, gi c), (5, gi i), (6, gi j), (7, gi k), (8, gi 0)]) dX9_beast_104 rfl rfl ?_
                  refine g_iconst (pc := 106) X dX9_beast_106 ?_
                  refine g_istore (pc := 107) X (lv' := [(0, .ref q), (1, gi m), (2, gi x), (3, gi y), (4, gi c), (5, gi i), (6, gi j), (7, gi k), (8, gi 0), (9, gi 0)]) dX9_beast_107 rfl rfl ?_
                  have L109 : ∀ (n109 : Nat) (w : Int) (b : Int), (0 ≤ b ∧ b ≤ 6) → (w = sm (fun b => gabs (gmin 799 (sLoud A i b 0 + sLoud A j b 0 + sLoud A k b 0) - A (91 + 6 * m + b))) b) → (0 ≤ w ∧ w ≤ b * 799) → (6 - b).toNat < n109 → V 0 0 [oM q a al at_ st so va fa pl sg su, gA cI (a 0) 1140 A, gA cZ (a 1) 2 kp, gA cI (a 2) 3 rf, gA cI (a 3) 6 lk_, gA cI (a 5) 60 sh, gA cI (a 12) 8 pi, gA cI (a 13) 8 th, gA cI (a 14) 8 fl, gA cI (a 15) 8 so_, gA cI (a 16) 8 fr, gA cI (a 17) 2048 le, gA cI (a 18) 41 lg, gA cI (a 19) 112 bg] 109 [(0, .ref q), (1, gi m), (2, gi x), (3, gi y), (4, gi c), (5, gi i), (6, gi j), (7, gi k), (8, gi w), (9, gi b)] [] := by
                    intro n109
                    induction n109 with
                    | zero => intro w b hb hw hwb hn109; exact absurd hn109 (Nat.not_lt_zero _)
                    | succ n109 ih109 =>
                      intro w b hb hw hwb hn109
                      refine g_iload (pc := 109) X dX9_beast_109 9 rfl ?_
                      refine g_bipush (pc := 111) X dX9_beast_111 (by decide +kernel) ?_
                      refine g_icmpge (pc := 113) X 205 dX9_beast_113 (by decide) (by omega) (by omega) (fun h113 => ?_) (fun h113 => ?_)
                      · have hoff : w = sFar3 A i j k m := by rw [hw, show b = 6 by omega]; rfl
                        have hfb := sFar3_b hA (i := i) (j := j) (k := k) (m := m) (by omega) (by omega) (by omega) (by omega)
                        refine g_iload (pc := 205) X dX9_beast_205 8 rfl ?_
                        refine g_iload_n (pc := 207) X dX9_beast_207 3 rfl ?_
                        refine g_icmpge (pc := 208) X 216 dX9_beast_208 (by decide) (by omega) (by omega) (fun h208 => ?_) (fun h208 => ?_)
                        · refine g_iload_n (pc := 216) X dX9_beast_216 2 rfl ?_
                          refine g_istore_n (pc := 217) X (lv' := [(0, .ref q), (1, gi m), (2, gi x), (3, gi y), (4, gi c), (5, gi i), (6, gi j), (7, gi k), (8, gi w), (9, gi b)]) dX9_beast_217 rfl rfl ?_
                          refine g_iload (pc := 218) X dX9_beast_218 8 rfl ?_
                          refine g_iload_n (pc := 220) X dX9_beast_220 3 rfl ?_
                          refine g_icmpge (pc := 221) X 229 dX9_beast_221 (by decide) (by omega) (by omega) (fun h221 => ?_) (fun h221 => absurd h221 (by omega))
                          refine g_iload_n (pc := 229) X dX9_beast_229 3 rfl ?_
                          refine g_istore_n (pc := 230) X (lv' := [(0, .ref q), (1, gi m), (2, gi x), (3, gi y), (4, gi c), (5, gi i), (6, gi j), (7, gi k), (8, gi w), (9, gi b)]) dX9_beast_230 rfl rfl ?_
                          refine g_iinc (pc := 231) X (lv' := [(0, .ref q), (1, gi m), (2, gi x), (3, gi y), (4, gi (c + 1)), (5, gi i), (6, gi j), (7, gi k), (8, gi w), (9, gi b)]) dX9_beast_231 4 rfl rfl rfl ?_
                          refine g_goto (pc := 234) X 46 dX9_beast_234 (by decide) ?_
                          refine g_lsub X [0, 1, 2, 3, 4] rfl ?_
                          exact ih46 _ _ _ (by omega) (by omega) (b4_no hy hi hj hk hc.1 h82 h89 h100 hfb hoff h208) (by omega)
                        · refine g_iload (pc := 211) X dX9_beast_211 4 rfl ?_
                          refine g_goto (pc := 213) X 217 dX9_beast_213 (by decide) ?_
                          refine g_istore_n (pc := 217) X (lv' := [(0, .ref q), (1, gi m), (2, gi c), (3, gi y), (4, gi c), (5, gi i), (6, gi j), (7, gi k), (8, gi w), (9, gi b)]) dX9_beast_217 rfl rfl ?_
                          refine g_iload (pc := 218) X dX9_beast_218 8 rfl ?_
                          refine g_iload_n (pc := 220) X dX9_beast_220 3 rfl ?_
                          refine g_icmpge (pc := 221) X 229 dX9_beast_221 (by decide) (by omega) (by omega) (fun h221 => absurd h221 (by omega)) (fun h221 => ?_)
                          refine g_iload (pc := 224) X dX9_beast_224 8 rfl ?_
                          refine g_goto (pc := 226) X 230 dX9_beast_226 (by decide) ?_
                          refine g_istore_n (pc := 230) X (lv' := [(0, .ref q), (1, gi m), (2, gi c), (3, gi w), (4, gi c), (5, gi i), (6, gi j), (7, gi k), (8, gi w), (9, gi b)]) dX9_beast_230 rfl rfl ?_
                          refine g_iinc (pc := 231) X (lv' := [(0, .ref q), (1, gi m), (2, gi c), (3, gi w), (4, gi (c + 1)), (5, gi i), (6, gi j), (7, gi k), (8, gi w), (9, gi b)]) dX9_beast_231 4 rfl rfl rfl ?_
                          refine g_goto (pc := 234) X 46 dX9_beast_234 (by decide) ?_
                          refine g_lsub X [0, 1, 2, 3, 4] rfl ?_
                          exact ih46 _ _ _ (by omega) (by omega) (b4_yes hy hi hj hk hc.1 h82 h89 h100 hfb hoff h208) (by omega)
                      · have ht3 := sFar3_t hA (i := i) (j := j) (k := k) (m := m) (b := b) (by omega) (by omega) (by omega) (by omega) (by omega)
                        have l1 := sLoud_b hA (t := i) (b := b) (far := 0) (by omega) (by omega) (by omega)
                        have l2 := sLoud_b hA (t := j) (b := b) (far := 0) (by omega) (by omega) (by omega)
                        have l3 := sLoud_b hA (t := k) (b := b) (far := 0) (by omega) (by omega) (by omega)
                        refine g_aload_n (pc := 116) X dX9_beast_116 0 rfl ?_
                        refine g_iload (pc := 117) X dX9_beast_117 5 rfl ?_
                        refine g_iload (pc := 119) X dX9_beast_119 9 rfl ?_
                        refine g_iconst (pc := 121) X dX9_beast_121 ?_
                        refine gc_Vi (pc := 122) X (c_X9_loudOf l D cI cZ q a al at_ st so va fa pl sg su A i b 0 hA (by omega) (by omega) (by omega)) lm_X9_79 dX9_beast_122 [0, 1] rfl rfl rfl rfl rfl rfl rfl rfl ?_
                        refine g_aload_n (pc := 125) X dX9_beast_125 0 rfl ?_
                        refine g_iload (pc := 126) X dX9_beast_126 6 rfl ?_
                        refine g_iload (pc := 128) X dX9_beast_128 9 rfl ?_
                        refine g_iconst (pc := 130) X dX9_beast_130 ?_
                        refine gc_Vi (pc := 131) X (c_X9_loudOf l D cI cZ q a al at_ st so va fa pl sg su A j b 0 hA (by omega) (by omega) (by omega)) lm_X9_79 dX9_beast_131 [0, 1] rfl rfl rfl rfl rfl rfl rfl rfl ?_
                        refine g_iadd (pc := 134) X dX9_beast_134 ?_
                        refine g_aload_n (pc := 135) X dX9_beast_135 0 rfl ?_
                        refine g_iload (pc := 136) X dX9_beast_136 7 rfl ?_
                        refine g_iload (pc := 138) X dX9_beast_138 9 rfl ?_
                        refine g_iconst (pc := 140) X dX9_beast_140 ?_
                        refine gc_Vi (pc := 141) X (c_X9_loudOf l D cI cZ q a al at_ st so va fa pl sg su A k b 0 hA (by omega) (by omega) (by omega)) lm_X9_79 dX9_beast_141 [0, 1] rfl rfl rfl rfl rfl rfl rfl rfl ?_
                        refine g_iadd (pc := 144) X dX9_beast_144 ?_
                        refine g_istore (pc := 145) X (lv' := [(0, .ref q), (1, gi m), (2, gi x), (3, gi y), (4, gi c), (5, gi i), (6, gi j), (7, gi k), (8, gi w), (9, gi b), (10, gi (sLoud A i b 0 + sLoud A j b 0 + sLoud A k b 0))]) dX9_beast_145 rfl rfl ?_
                        refine g_iload (pc := 147) X dX9_beast_147 10 rfl ?_
                        refine g_sipush (pc := 149) X dX9_beast_149 (by decide +kernel) ?_
                        refine g_icmple (pc := 152) X 161 dX9_beast_152 (by decide) (by omega) (by omega) (fun h152 => ?_) (fun h152 => ?_)
                        · refine g_iload (pc := 161) X dX9_beast_161 10 rfl ?_
                          refine g_aload_n (pc := 163) X dX9_beast_163 0 rfl ?_
                          refine g_get (pc := 164) X fl_X9_7 dX9_beast_164 0 (v := .ref (a 0)) rfl rfl ?_
                          refine g_bipush (pc := 167) X dX9_beast_167 (by decide +kernel) ?_
                          refine g_bipush (pc := 169) X dX9_beast_169 (by decide +kernel) ?_
                          refine g_iload_n (pc := 171) X dX9_beast_171 1 rfl ?_
                          refine g_imul (pc := 172) X dX9_beast_172 ?_
                          refine g_iadd (pc := 173) X dX9_beast_173 ?_
                          refine g_iload (pc := 174) X dX9_beast_174 9 rfl ?_
                          refine g_iadd (pc := 176) X dX9_beast_176 ?_
                          refine g_iald (pc := 177) X dX9_beast_177 1 rfl (by omega) rfl ?_
                          refine g_isub (pc := 178) X dX9_beast_178 ?_
                          refine g_istore (pc := 179) X (lv' := [(0, .ref q), (1, gi m), (2, gi x), (3, gi y), (4, gi c), (5, gi i), (6, gi j), (7, gi k), (8, gi w), (9, gi b), (10, gi (sLoud A i b 0 + sLoud A j b 0 + sLoud A k b 0)), (11, gi (sLoud A i b 0 + sLoud A j b 0 + sLoud A k b 0 - A (91 + 6 * m + b)))]) dX9_beast_179 rfl rfl ?_
                          refine g_iload (pc := 181) X dX9_beast_181 8 rfl ?_
                          refine g_iload (pc := 183) X dX9_beast_183 11 rfl ?_
                          refine g_ifge (pc := 185) X 194 dX9_beast_185 (by decide) (by omega) (fun h185 => ?_) (fun h185 => ?_)
                          · refine g_iload (pc := 194) X dX9_beast_194 11 rfl ?_
                            refine g_iadd (pc := 196) X dX9_beast_196 ?_
                            refine g_istore (pc := 197) X (lv' := [(0, .ref q), (1, gi m), (2, gi x), (3, gi y), (4, gi c), (5, gi i), (6, gi j), (7, gi k), (8, gi (w + (sLoud A i b 0 + sLoud A j b 0 + sLoud A k b 0 - A (91 + 6 * m + b)))), (9, gi b), (10, gi (sLoud A i b 0 + sLoud A j b 0 + sLoud A k b 0)), (11, gi (sLoud A i b 0 + sLoud A j b 0 + sLoud A k b 0 - A (91 + 6 * m + b)))]) dX9_beast_197 rfl rfl ?_
                            refine g_iinc (pc := 199) X (lv' := [(0, .ref q), (1, gi m), (2, gi x), (3, gi y), (4, gi c), (5, gi i), (6, gi j), (7, gi k), (8, gi (w + (sLoud A i b 0 + sLoud A j b 0 + sLoud A k b 0 - A (91 + 6 * m + b)))), (9, gi (b + 1)), (10, gi (sLoud A i b 0 + sLoud A j b 0 + sLoud A k b 0)), (11, gi (sLoud A i b 0 + sLoud A j b 0 + sLoud A k b 0 - A (91 + 6 * m + b)))]) dX9_beast_199 9 rfl rfl rfl ?_
                            refine g_goto (pc := 202) X 109 dX9_beast_202 (by decide) ?_
                            refine g_lsub X [0, 1, 2, 3, 4, 5, 6, 7, 8, 9] rfl ?_
                            exact ih109 _ _ (by omega) (by rw [hw, sm_s hb.1]; unfold gabs gmin; (try dsimp only); first | (rw [if_pos (by omega)]; split <;> omega) | (rw [if_neg (by omega)]; split <;> omega)) (by omega) (by omega)
                          · refine g_iload (pc := 188) X dX9_beast_188 11 rfl ?_
                            refine g_ineg (pc := 190) X dX9_beast_190 ?_
                            refine g_goto (pc := 191) X 196 dX9_beast_191 (by decide) ?_
                            refine g_iadd (pc := 196) X dX9_beast_196 ?_
                            refine g_istore (pc := 197) X (lv' := [(0, .ref q), (1, gi m), (2, gi x), (3, gi y), (4, gi c), (5, gi i), (6, gi j), (7, gi k), (8, gi (w + (-(sLoud A i b 0 + sLoud A j b 0 + sLoud A k b 0 - A (91 + 6 * m + b))))), (9, gi b), (10, gi (sLoud A i b 0 + sLoud A j b 0 + sLoud A k b 0)), (11, gi (sLoud A i b 0 + sLoud A j b 0 + sLoud A k b 0 - A (91 + 6 * m + b)))]) dX9_beast_197 rfl rfl ?_
                            refine g_iinc (pc := 199) X (lv' := [(0, .ref q), (1, gi m), (2, gi x), (3, gi y), (4, gi c), (5, gi i), (6, gi j), (7, gi k), (8, gi (w + (-(sLoud A i b 0 + sLoud A j b 0 + sLoud A k b 0 - A (91 + 6 * m + b))))), (9, gi (b + 1)), (10, gi (sLoud A i b 0 + sLoud A j b 0 + sLoud A k b 0)), (11, gi (sLoud A i b 0 + sLoud A j b 0 + sLoud A k b 0 - A (91 + 6 * m + b)))]) dX9_beast_199 9 rfl rfl rfl ?_
                            refine g_goto (pc := 202) X 109 dX9_beast_202 (by decide) ?_
                            refine g_lsub X [0, 1, 2, 3, 4, 5, 6, 7, 8, 9] rfl ?_
                            exact ih109 _ _ (by omega) (by rw [hw, sm_s hb.1]; unfold gabs gmin; (try dsimp only); first | (rw [if_pos (by omega)]; split <;> omega) | (rw [if_neg (by omega)]; split <;> omega)) (by omega) (by omega)
                        · refine g_sipush (pc := 155) X dX9_beast_155 (by decide +kernel) ?_
                          refine g_goto (pc := 158) X 163 dX9_beast_158 (by decide) ?_
                          refine g_aload_n (pc := 163) X dX9_beast_163 0 rfl ?_
                          refine g_get (pc := 164) X fl_X9_7 dX9_beast_164 0 (v := .ref (a 0)) rfl rfl ?_
                          refine g_bipush (pc := 167) X dX9_beast_167 (by decide +kernel) ?_
                          refine g_bipush (pc := 169) X dX9_beast_169 (by decide +kernel) ?_
                          refine g_iload_n (pc := 171) X dX9_beast_171 1 rfl ?_
                          refine g_imul (pc := 172) X dX9_beast_172 ?_
                          refine g_iadd (pc := 173) X dX9_beast_173 ?_
                          refine g_iload (pc := 174) X dX9_beast_174 9 rfl ?_
                          refine g_iadd (pc := 176) X dX9_beast_176 ?_
                          refine g_iald (pc := 177) X dX9_beast_177 1 rfl (by omega) rfl ?_
                          refine g_isub (pc := 178) X dX9_beast_178 ?_
                          refine g_istore (pc := 179) X (lv' := [(0, .ref q), (1, gi m), (2, gi x), (3, gi y), (4, gi c), (5, gi i), (6, gi j), (7, gi k), (8, gi w), (9, gi b), (10, gi (sLoud A i b 0 + sLoud A j b 0 + sLoud A k b 0)), (11, gi (799 - A (91 + 6 * m + b)))]) dX9_beast_179 rfl rfl ?_
                          refine g_iload (pc := 181) X dX9_beast_181 8 rfl ?_
                          refine g_iload (pc := 183) X dX9_beast_183 11 rfl ?_
                          refine g_ifge (pc := 185) X 194 dX9_beast_185 (by decide) (by omega) (fun h185 => ?_) (fun h185 => ?_)
                          · refine g_iload (pc := 194) X dX9_beast_194 11 rfl ?_
                            refine g_iadd (pc := 196) X dX9_beast_196 ?_
                            refine g_istore (pc := 197) X (lv' := [(0, .ref q), (1, gi m), (2, gi x), (3, gi y), (4, gi c), (5, gi i), (6, gi j), (7, gi k), (8, gi (w + (799 - A (91 + 6 * m + b)))), (9, gi b), (10, gi (sLoud A i b 0 + sLoud A j b 0 + sLoud A k b 0)), (11, gi (799 - A (91 + 6 * m + b)))]) dX9_beast_197 rfl rfl ?_
                            refine g_iinc (pc := 199) X (lv' := [(0, .ref q), (1, gi m), (2, gi x), (3, gi y), (4, gi c), (5, gi i), (6, gi j), (7, gi k), (8, gi (w + (799 - A (91 + 6 * m + b)))), (9, gi (b + 1)), (10, gi (sLoud A i b 0 + sLoud A j b 0 + sLoud A k b 0)), (11, gi (799 - A (91 + 6 * m + b)))]) dX9_beast_199 9 rfl rfl rfl ?_
                            refine g_goto (pc := 202) X 109 dX9_beast_202 (by decide) ?_
                            refine g_lsub X [0, 1, 2, 3, 4, 5, 6, 7, 8, 9] rfl ?_
                            exact ih109 _ _ (by omega) (by rw [hw, sm_s hb.1]; unfold gabs gmin; (try dsimp only); first | (rw [if_pos (by omega)]; split <;> omega) | (rw [if_neg (by omega)]; split <;> omega)) (by omega) (by omega)
                          · refine g_iload (pc := 188) X dX9_beast_188 11 rfl ?_
                            refine g_ineg (pc := 190) X dX9_beast_190 ?_
                            refine g_goto (pc := 191) X 196 dX9_beast_191 (by decide) ?_
                            refine g_iadd (pc := 196) X dX9_beast_196 ?_
                            refine g_istore (pc := 197) X (lv' := [(0, .ref q), (1, gi m), (2, gi x), (3, gi y), (4, gi c), (5, gi i), (6, gi j), (7, gi k), (8, gi (w + (-(799 - A (91 + 6 * m + b))))), (9, gi b), (10, gi (sLoud A i b 0 + sLoud A j b 0 + sLoud A k b 0)), (11, gi (799 - A (91 + 6 * m + b)))]) dX9_beast_197 rfl rfl ?_
                            refine g_iinc (pc := 199) X (lv' := [(0, .ref q), (1, gi m), (2, gi x), (3, gi y), (4, gi c), (5, gi i), (6, gi j), (7, gi k), (8, gi (w + (-(799 - A (91 + 6 * m + b))))), (9, gi (b + 1)), (10, gi (sLoud A i b 0 + sLoud A j b 0 + sLoud A k b 0)), (11, gi (799 - A (91 + 6 * m + b)))]) dX9_beast_199 9 rfl rfl rfl ?_
                            refine g_goto (pc := 202) X 109 dX9_beast_202 (by decide) ?_
                            refine g_lsub X [0, 1, 2, 3, 4, 5, 6, 7, 8, 9] rfl ?_
                            exact ih109 _ _ (by omega) (by rw [hw, sm_s hb.1]; unfold gabs gmin; (try dsimp only); first | (rw [if_pos (by omega)]; split <;> omega) | (rw [if_neg (by omega)]; split <;> omega)) (by omega) (by omega)
                  exact L109 _ _ _ (by omega) (by rfl) (by omega) (Nat.lt_succ_self _)
      exact L46 _ _ _ _ (by omega) (by omega) b4_0 (Nat.lt_succ_self _)
    · refine g_aload_n (pc := 18) X dX9_beast_18 0 rfl ?_
      refine g_aload_n (pc := 19) X dX9_beast_19 0 rfl ?_
      refine g_iload_n (pc := 20) X dX9_beast_20 1 rfl ?_
      refine gc_Vi (pc := 21) X (c_X9_isMeaning l D cI cZ q a al at_ st so va fa pl sg su A m hA (by omega)) lm_X9_62 dX9_beast_21 [0, 1] rfl rfl rfl rfl rfl rfl rfl rfl ?_
      refine g_ifeqB (pc := 24) X 32 dX9_beast_24 (by decide) (fun h24 => ?_) (fun h24 => ?_)
      · refine g_bipush (pc := 32) X dX9_beast_32 (by decide +kernel) ?_
        refine gc_Vxi (pc := 34) X (wr := [gA cI (a 0) 1140 A, gA cZ (a 1) 2 kp, gA cI (a 3) 6 lk_, gA cI (a 5) 60 sh, gA cI (a 12) 8 pi, gA cI (a 13) 8 th, gA cI (a 14) 8 fl, gA cI (a 15) 8 so_, gA cI (a 16) 8 fr, gA cI (a 17) 2048 le, gA cI (a 18) 41 lg, gA cI (a 19) 112 bg]) (c_X9_refuse l D cI cZ q a al at_ st so va fa pl sg su rf (-2) (by omega)) lm_X9_54 dX9_beast_34 [0, 3] [1, 2, 4, 5, 6, 7, 8, 9, 10, 11, 12, 13] rfl rfl rfl rfl (by decide) rfl rfl rfl rfl rfl rfl (fun x34 hx34 => ?_)
        refine g_pick (cn := 0) (sl := 0) (st := gi (-2) :: []) X (ws' := [oM q a al at_ st so va fa pl sg su, gA cI (a 0) 1140 A, gA cZ (a 1) 2 kp, gA cI (a 2) 3 (gupd rf (-2 - (-2)) (rf (-2 - (-2)) + 1)), gA cI (a 3) 6 lk_, gA cI (a 5) 60 sh, gA cI (a 12) 8 pi, gA cI (a 13) 8 th, gA cI (a 14) 8 fl, gA cI (a 15) 8 so_, gA cI (a 16) 8 fr, gA cI (a 17) 2048 le, gA cI (a 18) 41 lg, gA cI (a 19) 112 bg]) [12, 0, 1, 13, 2, 3, 4, 5, 6, 7, 8, 9, 10, 11] rfl rfl ?_
        exact ret _ _ _ _ _ _ dX9_beast_37 rfl rfl (fun h => by cases h) (gPxi_e () (by rw [(show o_beast A m = (-2, 0) from if_neg (by omega))]) (by rw [(show o_beast A m = (-2, 0) from if_neg (by omega))]; rfl) trivial)
      · refine g_bipush (pc := 27) X dX9_beast_27 (by decide +kernel) ?_
        refine g_goto (pc := 29) X 34 dX9_beast_29 (by decide) ?_
        refine gc_Vxi (pc := 34) X (wr := [gA cI (a 0) 1140 A, gA cZ (a 1) 2 kp, gA cI (a 3) 6 lk_, gA cI (a 5) 60 sh, gA cI (a 12) 8 pi, gA cI (a 13) 8 th, gA cI (a 14) 8 fl, gA cI (a 15) 8 so_, gA cI (a 16) 8 fr, gA cI (a 17) 2048 le, gA cI (a 18) 41 lg, gA cI (a 19) 112 bg]) (c_X9_refuse l D cI cZ q a al at_ st so va fa pl sg su rf (-3) (by omega)) lm_X9_54 dX9_beast_34 [0, 3] [1, 2, 4, 5, 6, 7, 8, 9, 10, 11, 12, 13] rfl rfl rfl rfl (by decide) rfl rfl rfl rfl rfl rfl (fun x34 hx34 => ?_)
        refine g_pick (cn := 0) (sl := 0) (st := gi (-3) :: []) X (ws' := [oM q a al at_ st so va fa pl sg su, gA cI (a 0) 1140 A, gA cZ (a 1) 2 kp, gA cI (a 2) 3 (gupd rf (-2 - (-3)) (rf (-2 - (-3)) + 1)), gA cI (a 3) 6 lk_, gA cI (a 5) 60 sh, gA cI (a 12) 8 pi, gA cI (a 13) 8 th, gA cI (a 14) 8 fl, gA cI (a 15) 8 so_, gA cI (a 16) 8 fr, gA cI (a 17) 2048 le, gA cI (a 18) 41 lg, gA cI (a 19) 112 bg]) [12, 0, 1, 13, 2, 3, 4, 5, 6, 7, 8, 9, 10, 11] rfl rfl ?_
        exact ret _ _ _ _ _ _ dX9_beast_37 rfl rfl (fun h => by cases h) (gPxi_e () (by rw [(show o_beast A m = (-3, 1) from (if_pos (by omega)).trans (if_pos (by omega)))]) (by rw [(show o_beast A m = (-3, 1) from (if_pos (by omega)).trans (if_pos (by omega)))]; rfl) trivial)

set_option maxHeartbeats 4000000 in
set_option maxRecDepth 100000 in
theorem c_X9_house (l : Launch) (D : va_G) (cI cZ : ClassId) (q : Nat) (a : Nat → Nat) (al : Int) (at_ : Int) (st : Int) (so : Int) (va : Int) (fa : Int) (pl : Int) (sg : Int) (su : Int) (A : Int → Int) (kp : Int → Int) (rf : Int → Int) (lk_ : Int → Int) (sh : Int → Int) (pi : Int → Int) (th : Int → Int) (fl : Int → Int) (so_ : Int → Int) (fr : Int → Int) (le : Int → Int) (lg : Int → Int) (bg : Int → Int) (hA : okA A) : GM l D cI cZ yX9_house cX9_house 3 (some .int) ({ frames := 1, cells := 0, slots := 0, locals := 21 }) 0 0 false [.ref q] [oM q a al at_ st so va fa pl sg su, gA cI (a 0) 1140 A, gA cZ (a 1) 2 kp, gA cI (a 2) 3 rf, gA cI (a 3) 6 lk_, gA cI (a 5) 60 sh, gA cI (a 12) 8 pi, gA cI (a 13) 8 th, gA cI (a 14) 8 fl, gA cI (a 15) 8 so_, gA cI (a 16) 8 fr, gA cI (a 17) 2048 le, gA cI (a 18) 41 lg, gA cI (a 19) 112 bg] (gPxi (fun xo : Unit => (o_house A).1) (fun xo : Unit => [oM q a al at_ st so va fa pl sg su, gA cI (a 0) 1140 ((o_house A).2.2), gA cZ (a 1) 2 kp, gA cI (a 2) 3 (bump ((o_house A).2.1) rf), gA cI (a 3) 6 lk_, gA cI (a 5) 60 sh, gA cI (a 12) 8 pi, gA cI (a 13) 8 th, gA cI (a 14) 8 fl, gA cI (a 15) 8 so_, gA cI (a 16) 8 fr, gA cI (a 17) 2048 le, gA cI (a 18) 41 lg, gA cI (a 19) 112 bg]) (fun xo : Unit => True)) := by
  refine g_enterI (z := false) (lv0 := [(0, .ref q)]) _ rfl (by decide) rfl rfl (fun V X ret => ?_)
  have hA1 := okA_1 hA
  have hA0 := okA_0 hA
  have hpu := okA_pu hA
  have hA3 := okA_3 hA
  refine g_aload_n (pc := 0) X dX9_house_0 0 rfl ?_
  refine g_get (pc := 1) X fl_X9_7 dX9_house_1 0 (v := .ref (a 0)) rfl rfl ?_
  refine g_iconst (pc := 4) X dX9_house_4 ?_
  refine g_iald (pc := 5) X dX9_house_5 1 rfl (by omega) rfl ?_
  refine g_istore_n (pc := 6) X (lv' := [(0, .ref q), (1, gi (A 3))]) dX9_house_6 rfl rfl ?_
  refine g_iload_n (pc := 7) X dX9_house_7 1 rfl ?_
  refine g_iconst (pc := 8) X dX9_house_8 ?_
  refine g_icmpne (pc := 9) X 19 dX9_house_9 (by decide) (by omega) (by omega) (fun h9 => ?_) (fun h9 => ?_)
  · refine g_iconst (pc := 19) X dX9_house_19 ?_
    refine g_istore_n (pc := 20) X (lv' := [(0, .ref q), (1, gi (A 3)), (2, gi 0)]) dX9_house_20 rfl rfl ?_
    have L21 : ∀ (n21 : Nat) (i : Int) (g : Int → Int), (0 ≤ i ∧ i ≤ 10) → (fil (332 + 10 * A 3) 10 i (fun _ => 1) A g) → (10 - i).toNat < n21 → V 0 0 [oM q a al at_ st so va fa pl sg su, gA cI (a 0) 1140 g, gA cZ (a 1) 2 kp, gA cI (a 2) 3 rf, gA cI (a 3) 6 lk_, gA cI (a 5) 60 sh, gA cI (a 12) 8 pi, gA cI (a 13) 8 th, gA cI (a 14) 8 fl, gA cI (a 15) 8 so_, gA cI (a 16) 8 fr, gA cI (a 17) 2048 le, gA cI (a 18) 41 lg, gA cI (a 19) 112 bg] 21 [(0, .ref q), (1, gi (A 3)), (2, gi i)] [] := by
      intro n21
      induction n21 with
      | zero => intro i g hi hg hn21; exact absurd hn21 (Nat.not_lt_zero _)
      | succ n21 ih21 =>
        intro i g hi hg hn21
        refine g_iload_n (pc := 21) X dX9_house_21 2 rfl ?_
        refine g_bipush (pc := 22) X dX9_house_22 (by decide +kernel) ?_
        refine g_icmpge (pc := 24) X 49 dX9_house_24 (by decide) (by omega) (by omega) (fun h24 => ?_) (fun h24 => ?_)
        · refine g_aload_n (pc := 49) X dX9_house_49 0 rfl ?_
          refine g_get (pc := 50) X fl_X9_7 dX9_house_50 0 (v := .ref (a 0)) rfl rfl ?_
          refine g_iconst (pc := 53) X dX9_house_53 ?_
          refine g_dup2 (pc := 54) X dX9_house_54 rfl rfl ?_
          refine g_iald (pc := 55) X dX9_house_55 1 rfl (by omega) rfl ?_
          refine g_top (b := A 3) (hg.2 3 (by omega)) ?_
          refine g_iconst (pc := 56) X dX9_house_56 ?_
          refine g_iadd (pc := 57) X dX9_house_57 ?_
          refine g_iast (pc := 58) X (ws' := [oM q a al at_ st so va fa pl sg su, gA cI (a 0) 1140 (gupd g 3 (A 3 + 1)), gA cZ (a 1) 2 kp, gA cI (a 2) 3 rf, gA cI (a 3) 6 lk_, gA cI (a 5) 60 sh, gA cI (a 12) 8 pi, gA cI (a 13) 8 th, gA cI (a 14) 8 fl, gA cI (a 15) 8 so_, gA cI (a 16) 8 fr, gA cI (a 17) 2048 le, gA cI (a 18) 41 lg, gA cI (a 19) 112 bg]) dX9_house_58 1 rfl (by omega) rfl rfl ?_
          refine g_iload_n (pc := 59) X dX9_house_59 1 rfl ?_
          exact ret _ _ _ _ _ _ dX9_house_60 rfl rfl (fun h => by cases h) (gPxi_e () (by rw [(show (o_house A).1 = A 3 from by unfold o_house; rw [if_neg h9])]) (by unfold o_house; rw [if_neg h9]; rw [← house_eq (by omega) (by rw [show i = 10 by omega] at hg; exact hg)]; rfl) trivial)
        · refine g_aload_n (pc := 27) X dX9_house_27 0 rfl ?_
          refine g_get (pc := 28) X fl_X9_7 dX9_house_28 0 (v := .ref (a 0)) rfl rfl ?_
          refine g_sipush (pc := 31) X dX9_house_31 (by decide +kernel) ?_
          refine g_bipush (pc := 34) X dX9_house_34 (by decide +kernel) ?_
          refine g_iload_n (pc := 36) X dX9_house_36 1 rfl ?_
          refine g_imul (pc := 37) X dX9_house_37 ?_
          refine g_iadd (pc := 38) X dX9_house_38 ?_
          refine g_iload_n (pc := 39) X dX9_house_39 2 rfl ?_
          refine g_iadd (pc := 40) X dX9_house_40 ?_
          refine g_iconst (pc := 41) X dX9_house_41 ?_
          refine g_iast (pc := 42) X (ws' := [oM q a al at_ st so va fa pl sg su, gA cI (a 0) 1140 (gupd g (332 + 10 * (A 3) + i) 1), gA cZ (a 1) 2 kp, gA cI (a 2) 3 rf, gA cI (a 3) 6 lk_, gA cI (a 5) 60 sh, gA cI (a 12) 8 pi, gA cI (a 13) 8 th, gA cI (a 14) 8 fl, gA cI (a 15) 8 so_, gA cI (a 16) 8 fr, gA cI (a 17) 2048 le, gA cI (a 18) 41 lg, gA cI (a 19) 112 bg]) dX9_house_42 1 rfl (by omega) rfl rfl ?_
          refine g_iinc (pc := 43) X (lv' := [(0, .ref q), (1, gi (A 3)), (2, gi (i + 1))]) dX9_house_43 2 rfl rfl rfl ?_
          refine g_goto (pc := 46) X 21 dX9_house_46 (by decide) ?_
          exact ih21 _ _ (by omega) (fil_s hg (by omega) (by omega) rfl) (by omega)
    exact L21 _ _ _ (by omega) fil_0 (Nat.lt_succ_self _)
  · refine g_aload_n (pc := 12) X dX9_house_12 0 rfl ?_
    refine g_bipush (pc := 13) X dX9_house_13 (by decide +kernel) ?_
    refine gc_Vxi (pc := 15) X (wr := [gA cI (a 0) 1140 A, gA cZ (a 1) 2 kp, gA cI (a 3) 6 lk_, gA cI (a 5) 60 sh, gA cI (a 12) 8 pi, gA cI (a 13) 8 th, gA cI (a 14) 8 fl, gA cI (a 15) 8 so_, gA cI (a 16) 8 fr, gA cI (a 17) 2048 le, gA cI (a 18) 41 lg, gA cI (a 19) 112 bg]) (c_X9_refuse l D cI cZ q a al at_ st so va fa pl sg su rf (-4) (by omega)) lm_X9_54 dX9_house_15 [0, 3] [1, 2, 4, 5, 6, 7, 8, 9, 10, 11, 12, 13] rfl rfl rfl rfl (by decide) rfl rfl rfl rfl rfl rfl (fun x15 hx15 => ?_)
    refine g_pick (cn := 0) (sl := 0) (st := gi (-4) :: []) X (ws' := [oM q a al at_ st so va fa pl sg su, gA cI (a 0) 1140 A, gA cZ (a 1) 2 kp, gA cI (a 2) 3 (gupd rf (-2 - (-4)) (rf (-2 - (-4)) + 1)), gA cI (a 3) 6 lk_, gA cI (a 5) 60 sh, gA cI (a 12) 8 pi, gA cI (a 13) 8 th, gA cI (a 14) 8 fl, gA cI (a 15) 8 so_, gA cI (a 16) 8 fr, gA cI (a 17) 2048 le, gA cI (a 18) 41 lg, gA cI (a 19) 112 bg]) [12, 0, 1, 13, 2, 3, 4, 5, 6, 7, 8, 9, 10, 11] rfl rfl ?_
    exact ret _ _ _ _ _ _ dX9_house_18 rfl rfl (fun h => by cases h) (gPxi_e () (by rw [(show o_house A = (-4, 2, A) from if_pos h9)]) (by rw [(show o_house A = (-4, 2, A) from if_pos h9)]; rfl) trivial)

set_option maxHeartbeats 4000000 in
set_option maxRecDepth 100000 in
theorem c_X9_habit (l : Launch) (D : va_G) (cI cZ : ClassId) (q : Nat) (a : Nat → Nat) (al : Int) (at_ : Int) (st : Int) (so : Int) (va : Int) (fa : Int) (pl : Int) (sg : Int) (su : Int) (A : Int → Int) (kp : Int → Int) (rf : Int → Int) (lk_ : Int → Int) (sh : Int → Int) (pi : Int → Int) (th : Int → Int) (fl : Int → Int) (so_ : Int → Int) (fr : Int → Int) (le : Int → Int) (lg : Int → Int) (bg : Int → Int) (h : Int) (t : Int) (v : Int) (hA : okA A) (hh : -2147483648 ≤ h ∧ h < 2147483648) (ht : -2147483648 ≤ t ∧ t < 2147483648) (hv : -2147483648 ≤ v ∧ v < 2147483648) : GM l D cI cZ yX9_habit cX9_habit 5 (some .int) ({ frames := 2, cells := 0, slots := 0, locals := 43 }) 0 0 false [.ref q, gi h, gi t, gi v] [oM q a al at_ st so va fa pl sg su, gA cI (a 0) 1140 A, gA cZ (a 1) 2 kp, gA cI (a 2) 3 rf, gA cI (a 3) 6 lk_, gA cI (a 5) 60 sh, gA cI (a 12) 8 pi, gA cI (a 13) 8 th, gA cI (a 14) 8 fl, gA cI (a 15) 8 so_, gA cI (a 16) 8 fr, gA cI (a 17) 2048 le, gA cI (a 18) 41 lg, gA cI (a 19) 112 bg] (gPxi (fun xo : Unit => (o_habit A h t v).1) (fun xo : Unit => [oM q a al at_ st so va fa pl sg su, gA cI (a 0) 1140 ((o_habit A h t v).2.2), gA cZ (a 1) 2 kp, gA cI (a 2) 3 (bump ((o_habit A h t v).2.1) rf), gA cI (a 3) 6 lk_, gA cI (a 5) 60 sh, gA cI (a 12) 8 pi, gA cI (a 13) 8 th, gA cI (a 14) 8 fl, gA cI (a 15) 8 so_, gA cI (a 16) 8 fr, gA cI (a 17) 2048 le, gA cI (a 18) 41 lg, gA cI (a 19) 112 bg]) (fun xo : Unit => True)) := by
  refine g_enterI (z := false) (lv0 := [(0, .ref q), (1, gi h), (2, gi t), (3, gi v)]) _ rfl (by decide) rfl rfl (fun V X ret => ?_)
  have hA1 := okA_1 hA
  have hA0 := okA_0 hA
  have hpu := okA_pu hA
  have hA3 := okA_3 hA
  refine g_aload_n (pc := 0) X dX9_habit_0 0 rfl ?_
  refine g_iload_n (pc := 1) X dX9_habit_1 1 rfl ?_
  refine gc_Vi (pc := 2) X (c_X9_isHouse l D cI cZ q a al at_ st so va fa pl sg su A h hA (by omega)) lm_X9_188 dX9_habit_2 [0, 1] rfl rfl rfl rfl rfl rfl rfl rfl ?_
  refine g_ifeqB (pc := 5) X 28 dX9_habit_5 (by decide) (fun h5 => ?_) (fun h5 => ?_)
  · refine g_aload_n (pc := 28) X dX9_habit_28 0 rfl ?_
    refine g_bipush (pc := 29) X dX9_habit_29 (by decide +kernel) ?_
    refine gc_Vxi (pc := 31) X (wr := [gA cI (a 0) 1140 A, gA cZ (a 1) 2 kp, gA cI (a 3) 6 lk_, gA cI (a 5) 60 sh, gA cI (a 12) 8 pi, gA cI (a 13) 8 th, gA cI (a 14) 8 fl, gA cI (a 15) 8 so_, gA cI (a 16) 8 fr, gA cI (a 17) 2048 le, gA cI (a 18) 41 lg, gA cI (a 19) 112 bg]) (c_X9_refuse l D cI cZ q a al at_ st so va fa pl sg su rf (-2) (by omega)) lm_X9_54 dX9_habit_31 [0, 3] [1, 2, 4, 5, 6, 7, 8, 9, 10, 11, 12, 13] rfl rfl rfl rfl (by decide) rfl rfl rfl rfl rfl rfl (fun x31 hx31 => ?_)
    refine g_pick (cn := 0) (sl := 0) (st := gi (-2) :: []) X (ws' := [oM q a al at_ st so va fa pl sg su, gA cI (a 0) 1140 A, gA cZ (a 1) 2 kp, gA cI (a 2) 3 (gupd rf (-2 - (-2)) (rf (-2 - (-2)) + 1)), gA cI (a 3) 6 lk_, gA cI (a 5) 60 sh, gA cI (a 12) 8 pi, gA cI (a 13) 8 th, gA cI (a 14) 8 fl, gA cI (a 15) 8 so_, gA cI (a 16) 8 fr, gA cI (a 17) 2048 le, gA cI (a 18) 41 lg, gA cI (a 19) 112 bg]) [12, 0, 1, 13, 2, 3, 4, 5, 6, 7, 8, 9, 10, 11] rfl rfl ?_
    exact ret _ _ _ _ _ _ dX9_habit_34 rfl rfl (fun h => by cases h) (gPxi_e () (by rw [(show o_habit A h t v = (-2, 0, A) from if_neg (by omega))]) (by rw [(show o_habit A h t v = (-2, 0, A) from if_neg (by omega))]; rfl) trivial)
  · refine g_iload_n (pc := 8) X dX9_habit_8 2 rfl ?_
    refine g_iconst (pc := 9) X dX9_habit_9 ?_
    refine g_bipush (pc := 10) X dX9_habit_10 (by decide +kernel) ?_
    refine gc_Si (pc := 12) X (c_X9_in l D cI cZ t 0 9 (by omega) (by omega) (by omega)) lm_X9_50 dX9_habit_12 [] rfl rfl rfl rfl rfl rfl ?_
    refine g_ifeqB (pc := 15) X 28 dX9_habit_15 (by decide) (fun h15 => ?_) (fun h15 => ?_)
    · refine g_aload_n (pc := 28) X dX9_habit_28 0 rfl ?_
      refine g_bipush (pc := 29) X dX9_habit_29 (by decide +kernel) ?_
      refine gc_Vxi (pc := 31) X (wr := [gA cI (a 0) 1140 A, gA cZ (a 1) 2 kp, gA cI (a 3) 6 lk_, gA cI (a 5) 60 sh, gA cI (a 12) 8 pi, gA cI (a 13) 8 th, gA cI (a 14) 8 fl, gA cI (a 15) 8 so_, gA cI (a 16) 8 fr, gA cI (a 17) 2048 le, gA cI (a 18) 41 lg, gA cI (a 19) 112 bg]) (c_X9_refuse l D cI cZ q a al at_ st so va fa pl sg su rf (-2) (by omega)) lm_X9_54 dX9_habit_31 [0, 3] [1, 2, 4, 5, 6, 7, 8, 9, 10, 11, 12, 13] rfl rfl rfl rfl (by decide) rfl rfl rfl rfl rfl rfl (fun x31 hx31 => ?_)
      refine g_pick (cn := 0) (sl := 0) (st := gi (-2) :: []) X (ws' := [oM q a al at_ st so va fa pl sg su, gA cI (a 0) 1140 A, gA cZ (a 1) 2 kp, gA cI (a 2) 3 (gupd rf (-2 - (-2)) (rf (-2 - (-2)) + 1)), gA cI (a 3) 6 lk_, gA cI (a 5) 60 sh, gA cI (a 12) 8 pi, gA cI (a 13) 8 th, gA cI (a 14) 8 fl, gA cI (a 15) 8 so_, gA cI (a 16) 8 fr, gA cI (a 17) 2048 le, gA cI (a 18) 41 lg, gA cI (a 19) 112 bg]) [12, 0, 1, 13, 2, 3, 4, 5, 6, 7, 8, 9, 10, 11] rfl rfl ?_
      exact ret _ _ _ _ _ _ dX9_habit_34 rfl rfl (fun h => by cases h) (gPxi_e () (by rw [(show o_habit A h t v = (-2, 0, A) from if_neg (by omega))]) (by rw [(show o_habit A h t v = (-2, 0, A) from if_neg (by omega))]; rfl) trivial)
    · refine g_iload_n (pc := 18) X dX9_habit_18 3 rfl ?_
      refine g_iconst (pc := 19) X dX9_habit_19 ?_
      refine g_bipush (pc := 20) X dX9_habit_20 (by decide +kernel) ?_
      refine gc_Si (pc := 22) X (c_X9_in l D cI cZ v 0 9 (by omega) (by omega) (by omega)) lm_X9_50 dX9_habit_22 [] rfl rfl rfl rfl rfl rfl ?_
      refine g_ifneB (pc := 25) X 35 dX9_habit_25 (by decide) (fun h25 => ?_) (fun h25 => ?_)
      · refine g_aload_n (pc := 35) X dX9_habit_35 0 rfl ?_
        refine g_get (pc := 36) X fl_X9_7 dX9_habit_36 0 (v := .ref (a 0)) rfl rfl ?_
        refine g_sipush (pc := 39) X dX9_habit_39 (by decide +kernel) ?_
        refine g_bipush (pc := 42) X dX9_habit_42 (by decide +kernel) ?_
        refine g_iload_n (pc := 44) X dX9_habit_44 1 rfl ?_
        refine g_imul (pc := 45) X dX9_habit_45 ?_
        refine g_iadd (pc := 46) X dX9_habit_46 ?_
        refine g_iload_n (pc := 47) X dX9_habit_47 2 rfl ?_
        refine g_iadd (pc := 48) X dX9_habit_48 ?_
        refine g_iald (pc := 49) X dX9_habit_49 1 rfl (by omega) rfl ?_
        refine g_istore (pc := 50) X (lv' := [(0, .ref q), (1, gi h), (2, gi t), (3, gi v), (4, gi (A (332 + 10 * h + t)))]) dX9_habit_50 rfl rfl ?_
        refine g_aload_n (pc := 52) X dX9_habit_52 0 rfl ?_
        refine g_get (pc := 53) X fl_X9_7 dX9_habit_53 0 (v := .ref (a 0)) rfl rfl ?_
        refine g_sipush (pc := 56) X dX9_habit_56 (by decide +kernel) ?_
        refine g_bipush (pc := 59) X dX9_habit_59 (by decide +kernel) ?_
        refine g_iload_n (pc := 61) X dX9_habit_61 1 rfl ?_
        refine g_imul (pc := 62) X dX9_habit_62 ?_
        refine g_iadd (pc := 63) X dX9_habit_63 ?_
        refine g_iload_n (pc := 64) X dX9_habit_64 2 rfl ?_
        refine g_iadd (pc := 65) X dX9_habit_65 ?_
        refine g_iload_n (pc := 66) X dX9_habit_66 3 rfl ?_
        refine g_iast (pc := 67) X (ws' := [oM q a al at_ st so va fa pl sg su, gA cI (a 0) 1140 (gupd A (332 + 10 * h + t) v), gA cZ (a 1) 2 kp, gA cI (a 2) 3 rf, gA cI (a 3) 6 lk_, gA cI (a 5) 60 sh, gA cI (a 12) 8 pi, gA cI (a 13) 8 th, gA cI (a 14) 8 fl, gA cI (a 15) 8 so_, gA cI (a 16) 8 fr, gA cI (a 17) 2048 le, gA cI (a 18) 41 lg, gA cI (a 19) 112 bg]) dX9_habit_67 1 rfl (by omega) rfl rfl ?_
        refine g_iload (pc := 68) X dX9_habit_68 4 rfl ?_
        exact ret _ _ _ _ _ _ dX9_habit_70 rfl rfl (fun h => by cases h) (gPxi_e () (by rw [(show o_habit A h t v = (A (332 + 10 * h + t), -1, gupd A (332 + 10 * h + t) v) from if_pos (by omega))]) (by rw [(show o_habit A h t v = (A (332 + 10 * h + t), -1, gupd A (332 + 10 * h + t) v) from if_pos (by omega))]; rfl) trivial)
      · refine g_aload_n (pc := 28) X dX9_habit_28 0 rfl ?_
        refine g_bipush (pc := 29) X dX9_habit_29 (by decide +kernel) ?_
        refine gc_Vxi (pc := 31) X (wr := [gA cI (a 0) 1140 A, gA cZ (a 1) 2 kp, gA cI (a 3) 6 lk_, gA cI (a 5) 60 sh, gA cI (a 12) 8 pi, gA cI (a 13) 8 th, gA cI (a 14) 8 fl, gA cI (a 15) 8 so_, gA cI (a 16) 8 fr, gA cI (a 17) 2048 le, gA cI (a 18) 41 lg, gA cI (a 19) 112 bg]) (c_X9_refuse l D cI cZ q a al at_ st so va fa pl sg su rf (-2) (by omega)) lm_X9_54 dX9_habit_31 [0, 3] [1, 2, 4, 5, 6, 7, 8, 9, 10, 11, 12, 13] rfl rfl rfl rfl (by decide) rfl rfl rfl rfl rfl rfl (fun x31 hx31 => ?_)
        refine g_pick (cn := 0) (sl := 0) (st := gi (-2) :: []) X (ws' := [oM q a al at_ st so va fa pl sg su, gA cI (a 0) 1140 A, gA cZ (a 1) 2 kp, gA cI (a 2) 3 (gupd rf (-2 - (-2)) (rf (-2 - (-2)) + 1)), gA cI (a 3) 6 lk_, gA cI (a 5) 60 sh, gA cI (a 12) 8 pi, gA cI (a 13) 8 th, gA cI (a 14) 8 fl, gA cI (a 15) 8 so_, gA cI (a 16) 8 fr, gA cI (a 17) 2048 le, gA cI (a 18) 41 lg, gA cI (a 19) 112 bg]) [12, 0, 1, 13, 2, 3, 4, 5, 6, 7, 8, 9, 10, 11] rfl rfl ?_
        exact ret _ _ _ _ _ _ dX9_habit_34 rfl rfl (fun h => by cases h) (gPxi_e () (by rw [(show o_habit A h t v = (-2, 0, A) from if_neg (by omega))]) (by rw [(show o_habit A h t v = (-2, 0, A) from if_neg (by omega))]; rfl) trivial)

set_option maxHeartbeats 4000000 in
set_option maxRecDepth 100000 in
theorem c_X9_see (l : Launch) (D : va_G) (cI cZ : ClassId) (q : Nat) (a : Nat → Nat) (al : Int) (at_ : Int) (st : Int) (so : Int) (va : Int) (fa : Int) (pl : Int) (sg : Int) (su : Int) (A : Int → Int) (kp : Int → Int) (rf : Int → Int) (lk_ : Int → Int) (sh : Int → Int) (pi : Int → Int) (th : Int → Int) (fl : Int → Int) (so_ : Int → Int) (fr : Int → Int) (le : Int → Int) (lg : Int → Int) (bg : Int → Int) (t : Int) (hA : okA A) (ht : -2147483648 ≤ t ∧ t < 2147483648) : GM l D cI cZ yX9_see cX9_see 2 (some .int) ({ frames := 1, cells := 0, slots := 0, locals := 22 }) 0 0 false [.ref q, gi t] [oM q a al at_ st so va fa pl sg su, gA cI (a 0) 1140 A, gA cZ (a 1) 2 kp, gA cI (a 2) 3 rf, gA cI (a 3) 6 lk_, gA cI (a 5) 60 sh, gA cI (a 12) 8 pi, gA cI (a 13) 8 th, gA cI (a 14) 8 fl, gA cI (a 15) 8 so_, gA cI (a 16) 8 fr, gA cI (a 17) 2048 le, gA cI (a 18) 41 lg, gA cI (a 19) 112 bg] (gPxi (fun xo : Unit => (o_see A t).1) (fun xo : Unit => [oM q a al at_ st so va fa pl sg su, gA cI (a 0) 1140 ((o_see A t).2.2), gA cZ (a 1) 2 kp, gA cI (a 2) 3 (bump ((o_see A t).2.1) rf), gA cI (a 3) 6 lk_, gA cI (a 5) 60 sh, gA cI (a 12) 8 pi, gA cI (a 13) 8 th, gA cI (a 14) 8 fl, gA cI (a 15) 8 so_, gA cI (a 16) 8 fr, gA cI (a 17) 2048 le, gA cI (a 18) 41 lg, gA cI (a 19) 112 bg]) (fun xo : Unit => True)) := by
  refine g_enterI (z := false) (lv0 := [(0, .ref q), (1, gi t)]) _ rfl (by decide) rfl rfl (fun V X ret => ?_)
  have hA1 := okA_1 hA
  have hA0 := okA_0 hA
  have hpu := okA_pu hA
  have hA4 := okA_4 hA
  refine g_iload_n (pc := 0) X dX9_see_0 1 rfl ?_
  refine g_iconst (pc := 1) X dX9_see_1 ?_
  refine g_bipush (pc := 2) X dX9_see_2 (by decide +kernel) ?_
  refine gc_Si (pc := 4) X (c_X9_in l D cI cZ t 0 9 (by omega) (by omega) (by omega)) lm_X9_50 dX9_see_4 [] rfl rfl rfl rfl rfl rfl ?_
  refine g_ifneB (pc := 7) X 17 dX9_see_7 (by decide) (fun h7 => ?_) (fun h7 => ?_)
  · refine g_aload_n (pc := 17) X dX9_see_17 0 rfl ?_
    refine g_get (pc := 18) X fl_X9_7 dX9_see_18 0 (v := .ref (a 0)) rfl rfl ?_
    refine g_iconst (pc := 21) X dX9_see_21 ?_
    refine g_iald (pc := 22) X dX9_see_22 1 rfl (by omega) rfl ?_
    refine g_bipush (pc := 23) X dX9_see_23 (by decide +kernel) ?_
    refine g_icmpne (pc := 25) X 35 dX9_see_25 (by decide) (by omega) (by omega) (fun h25 => ?_) (fun h25 => ?_)
    · refine g_aload_n (pc := 35) X dX9_see_35 0 rfl ?_
      refine g_get (pc := 36) X fl_X9_7 dX9_see_36 0 (v := .ref (a 0)) rfl rfl ?_
      refine g_sipush (pc := 39) X dX9_see_39 (by decide +kernel) ?_
      refine g_aload_n (pc := 42) X dX9_see_42 0 rfl ?_
      refine g_get (pc := 43) X fl_X9_7 dX9_see_43 0 (v := .ref (a 0)) rfl rfl ?_
      refine g_iconst (pc := 46) X dX9_see_46 ?_
      refine g_iald (pc := 47) X dX9_see_47 1 rfl (by omega) rfl ?_
      refine g_iadd (pc := 48) X dX9_see_48 ?_
      refine g_iload_n (pc := 49) X dX9_see_49 1 rfl ?_
      refine g_iast (pc := 50) X (ws' := [oM q a al at_ st so va fa pl sg su, gA cI (a 0) 1140 (gupd A (372 + A 4) t), gA cZ (a 1) 2 kp, gA cI (a 2) 3 rf, gA cI (a 3) 6 lk_, gA cI (a 5) 60 sh, gA cI (a 12) 8 pi, gA cI (a 13) 8 th, gA cI (a 14) 8 fl, gA cI (a 15) 8 so_, gA cI (a 16) 8 fr, gA cI (a 17) 2048 le, gA cI (a 18) 41 lg, gA cI (a 19) 112 bg]) dX9_see_50 1 rfl (by omega) rfl rfl ?_
      refine g_aload_n (pc := 51) X dX9_see_51 0 rfl ?_
      refine g_get (pc := 52) X fl_X9_7 dX9_see_52 0 (v := .ref (a 0)) rfl rfl ?_
      refine g_iconst (pc := 55) X dX9_see_55 ?_
      refine g_dup2 (pc := 56) X dX9_see_56 rfl rfl ?_
      refine g_iald (pc := 57) X dX9_see_57 1 rfl (by omega) rfl ?_
      refine g_top (b := A 4) (gupd_n (by omega)) ?_
      refine g_iconst (pc := 58) X dX9_see_58 ?_
      refine g_iadd (pc := 59) X dX9_see_59 ?_
      refine g_iast (pc := 60) X (ws' := [oM q a al at_ st so va fa pl sg su, gA cI (a 0) 1140 (gupd (gupd A (372 + A 4) t) 4 (A 4 + 1)), gA cZ (a 1) 2 kp, gA cI (a 2) 3 rf, gA cI (a 3) 6 lk_, gA cI (a 5) 60 sh, gA cI (a 12) 8 pi, gA cI (a 13) 8 th, gA cI (a 14) 8 fl, gA cI (a 15) 8 so_, gA cI (a 16) 8 fr, gA cI (a 17) 2048 le, gA cI (a 18) 41 lg, gA cI (a 19) 112 bg]) dX9_see_60 1 rfl (by omega) rfl rfl ?_
      refine g_aload_n (pc := 61) X dX9_see_61 0 rfl ?_
      refine g_get (pc := 62) X fl_X9_7 dX9_see_62 0 (v := .ref (a 0)) rfl rfl ?_
      refine g_iconst (pc := 65) X dX9_see_65 ?_
      refine g_iald (pc := 66) X dX9_see_66 1 rfl (by omega) rfl ?_
      refine g_top (b := A 4 + 1) gupd_s ?_
      exact ret _ _ _ _ _ _ dX9_see_67 rfl rfl (fun h => by cases h) (gPxi_e () (by rw [(show o_see A t = (A 4 + 1, -1, gupd (gupd A (372 + A 4) t) 4 (A 4 + 1)) from (if_pos (by omega)).trans (if_neg h25))]) (by rw [(show o_see A t = (A 4 + 1, -1, gupd (gupd A (372 + A 4) t) 4 (A 4 + 1)) from (if_pos (by omega)).trans (if_neg h25))]; rfl) trivial)
    · refine g_aload_n (pc := 28) X dX9_see_28 0 rfl ?_
      refine g_bipush (pc := 29) X dX9_see_29 (by decide +kernel) ?_
      refine gc_Vxi (pc := 31) X (wr := [gA cI (a 0) 1140 A, gA cZ (a 1) 2 kp, gA cI (a 3) 6 lk_, gA cI (a 5) 60 sh, gA cI (a 12) 8 pi, gA cI (a 13) 8 th, gA cI (a 14) 8 fl, gA cI (a 15) 8 so_, gA cI (a 16) 8 fr, gA cI (a 17) 2048 le, gA cI (a 18) 41 lg, gA cI (a 19) 112 bg]) (c_X9_refuse l D cI cZ q a al at_ st so va fa pl sg su rf (-4) (by omega)) lm_X9_54 dX9_see_31 [0, 3] [1, 2, 4, 5, 6, 7, 8, 9, 10, 11, 12, 13] rfl rfl rfl rfl (by decide) rfl rfl rfl rfl rfl rfl (fun x31 hx31 => ?_)
      refine g_pick (cn := 0) (sl := 0) (st := gi (-4) :: []) X (ws' := [oM q a al at_ st so va fa pl sg su, gA cI (a 0) 1140 A, gA cZ (a 1) 2 kp, gA cI (a 2) 3 (gupd rf (-2 - (-4)) (rf (-2 - (-4)) + 1)), gA cI (a 3) 6 lk_, gA cI (a 5) 60 sh, gA cI (a 12) 8 pi, gA cI (a 13) 8 th, gA cI (a 14) 8 fl, gA cI (a 15) 8 so_, gA cI (a 16) 8 fr, gA cI (a 17) 2048 le, gA cI (a 18) 41 lg, gA cI (a 19) 112 bg]) [12, 0, 1, 13, 2, 3, 4, 5, 6, 7, 8, 9, 10, 11] rfl rfl ?_
      exact ret _ _ _ _ _ _ dX9_see_34 rfl rfl (fun h => by cases h) (gPxi_e () (by rw [(show o_see A t = (-4, 2, A) from (if_pos (by omega)).trans (if_pos h25))]) (by rw [(show o_see A t = (-4, 2, A) from (if_pos (by omega)).trans (if_pos h25))]; rfl) trivial)
  · refine g_aload_n (pc := 10) X dX9_see_10 0 rfl ?_
    refine g_bipush (pc := 11) X dX9_see_11 (by decide +kernel) ?_
    refine gc_Vxi (pc := 13) X (wr := [gA cI (a 0) 1140 A, gA cZ (a 1) 2 kp, gA cI (a 3) 6 lk_, gA cI (a 5) 60 sh, gA cI (a 12) 8 pi, gA cI (a 13) 8 th, gA cI (a 14) 8 fl, gA cI (a 15) 8 so_, gA cI (a 16) 8 fr, gA cI (a 17) 2048 le, gA cI (a 18) 41 lg, gA cI (a 19) 112 bg]) (c_X9_refuse l D cI cZ q a al at_ st so va fa pl sg su rf (-2) (by omega)) lm_X9_54 dX9_see_13 [0, 3] [1, 2, 4, 5, 6, 7, 8, 9, 10, 11, 12, 13] rfl rfl rfl rfl (by decide) rfl rfl rfl rfl rfl rfl (fun x13 hx13 => ?_)
    refine g_pick (cn := 0) (sl := 0) (st := gi (-2) :: []) X (ws' := [oM q a al at_ st so va fa pl sg su, gA cI (a 0) 1140 A, gA cZ (a 1) 2 kp, gA cI (a 2) 3 (gupd rf (-2 - (-2)) (rf (-2 - (-2)) + 1)), gA cI (a 3) 6 lk_, gA cI (a 5) 60 sh, gA cI (a 12) 8 pi, gA cI (a 13) 8 th, gA cI (a 14) 8 fl, gA cI (a 15) 8 so_, gA cI (a 16) 8 fr, gA cI (a 17) 2048 le, gA cI (a 18) 41 lg, gA cI (a 19) 112 bg]) [12, 0, 1, 13, 2, 3, 4, 5, 6, 7, 8, 9, 10, 11] rfl rfl ?_
    exact ret _ _ _ _ _ _ dX9_see_16 rfl rfl (fun h => by cases h) (gPxi_e () (by rw [(show o_see A t = (-2, 0, A) from if_neg (by omega))]) (by rw [(show o_see A t = (-2, 0, A) from if_neg (by omega))]; rfl) trivial)

set_option maxHeartbeats 4000000 in
set_option maxRecDepth 100000 in
theorem c_X9_forget (l : Launch) (D : va_G) (cI cZ : ClassId) (q : Nat) (a : Nat → Nat) (al : Int) (at_ : Int) (st : Int) (so : Int) (va : Int) (fa : Int) (pl : Int) (sg : Int) (su : Int) (A : Int → Int) (kp : Int → Int) (rf : Int → Int) (lk_ : Int → Int) (sh : Int → Int) (pi : Int → Int) (th : Int → Int) (fl : Int → Int) (so_ : Int → Int) (fr : Int → Int) (le : Int → Int) (lg : Int → Int) (bg : Int → Int) (hA : okA A) : GM l D cI cZ yX9_forget cX9_forget 2 (some .int) ({ frames := 0, cells := 0, slots := 0, locals := 0 }) 0 0 false [.ref q] [oM q a al at_ st so va fa pl sg su, gA cI (a 0) 1140 A, gA cZ (a 1) 2 kp, gA cI (a 2) 3 rf, gA cI (a 3) 6 lk_, gA cI (a 5) 60 sh, gA cI (a 12) 8 pi, gA cI (a 13) 8 th, gA cI (a 14) 8 fl, gA cI (a 15) 8 so_, gA cI (a 16) 8 fr, gA cI (a 17) 2048 le, gA cI (a 18) 41 lg, gA cI (a 19) 112 bg] (gPxi (fun xo : Unit => ((A 4, (-1 : Int), gupd A 4 0)).1) (fun xo : Unit => [oM q a al at_ st so va fa pl sg su, gA cI (a 0) 1140 (((A 4, (-1 : Int), gupd A 4 0)).2.2), gA cZ (a 1) 2 kp, gA cI (a 2) 3 (bump (((A 4, (-1 : Int), gupd A 4 0)).2.1) rf), gA cI (a 3) 6 lk_, gA cI (a 5) 60 sh, gA cI (a 12) 8 pi, gA cI (a 13) 8 th, gA cI (a 14) 8 fl, gA cI (a 15) 8 so_, gA cI (a 16) 8 fr, gA cI (a 17) 2048 le, gA cI (a 18) 41 lg, gA cI (a 19) 112 bg]) (fun xo : Unit => True)) := by
  refine g_enterI (z := false) (lv0 := [(0, .ref q)]) _ rfl (by decide) rfl rfl (fun V X ret => ?_)
  have hA1 := okA_1 hA
  have hA0 := okA_0 hA
  have hpu := okA_pu hA
  refine g_aload_n (pc := 0) X dX9_forget_0 0 rfl ?_
  refine g_get (pc := 1) X fl_X9_7 dX9_forget_1 0 (v := .ref (a 0)) rfl rfl ?_
  refine g_iconst (pc := 4) X dX9_forget_4 ?_
  refine g_iald (pc := 5) X dX9_forget_5 1 rfl (by omega) rfl ?_
  refine g_istore_n (pc := 6) X (lv' := [(0, .ref q), (1, gi (A 4))]) dX9_forget_6 rfl rfl ?_
  refine g_aload_n (pc := 7) X dX9_forget_7 0 rfl ?_
  refine g_get (pc := 8) X fl_X9_7 dX9_forget_8 0 (v := .ref (a 0)) rfl rfl ?_
  refine g_iconst (pc := 11) X dX9_forget_11 ?_
  refine g_iconst (pc := 12) X dX9_forget_12 ?_
  refine g_iast (pc := 13) X (ws' := [oM q a al at_ st so va fa pl sg su, gA cI (a 0) 1140 (gupd A 4 0), gA cZ (a 1) 2 kp, gA cI (a 2) 3 rf, gA cI (a 3) 6 lk_, gA cI (a 5) 60 sh, gA cI (a 12) 8 pi, gA cI (a 13) 8 th, gA cI (a 14) 8 fl, gA cI (a 15) 8 so_, gA cI (a 16) 8 fr, gA cI (a 17) 2048 le, gA cI (a 18) 41 lg, gA cI (a 19) 112 bg]) dX9_forget_13 1 rfl (by omega) rfl rfl ?_
  refine g_iload_n (pc := 14) X dX9_forget_14 1 rfl ?_
  exact ret _ _ _ _ _ _ dX9_forget_15 rfl rfl (fun h => by cases h) (gPxi_e () rfl rfl trivial)

set_option maxHeartbeats 4000000 in
set_option maxRecDepth 100000 in
theorem c_X9_clear (l : Launch) (D : va_G) (cI cZ : ClassId) (q : Nat) (a : Nat → Nat) (al : Int) (at_ : Int) (st : Int) (so : Int) (va : Int) (fa : Int) (pl : Int) (sg : Int) (su : Int) (A : Int → Int) (kp : Int → Int) (rf : Int → Int) (lk_ : Int → Int) (sh : Int → Int) (pi : Int → Int) (th : Int → Int) (fl : Int → Int) (so_ : Int → Int) (fr : Int → Int) (le : Int → Int) (lg : Int → Int) (bg : Int → Int) (hA : okA A) : GM l D cI cZ yX9_clear cX9_clear 2 (some .int) ({ frames := 0, cells := 0, slots := 0, locals := 0 }) 0 0 false [.ref q] [oM q a al at_ st so va fa pl sg su, gA cI (a 0) 1140 A, gA cZ (a 1) 2 kp, gA cI (a 2) 3 rf, gA cI (a 3) 6 lk_, gA cI (a 5) 60 sh, gA cI (a 12) 8 pi, gA cI (a 13) 8 th, gA cI (a 14) 8 fl, gA cI (a 15) 8 so_, gA cI (a 16) 8 fr, gA cI (a 17) 2048 le, gA cI (a 18) 41 lg, gA cI (a 19) 112 bg] (gPxi (fun xo : Unit => ((A 2, (-1 : Int), gupd A 2 0)).1) (fun xo : Unit => [oM q a al at_ st so va fa pl sg su, gA cI (a 0) 1140 (((A 2, (-1 : Int), gupd A 2 0)).2.2), gA cZ (a 1) 2 kp, gA cI (a 2) 3 (bump (((A 2, (-1 : Int), gupd A 2 0)).2.1) rf), gA cI (a 3) 6 lk_, gA cI (a 5) 60 sh, gA cI (a 12) 8 pi, gA cI (a 13) 8 th, gA cI (a 14) 8 fl, gA cI (a 15) 8 so_, gA cI (a 16) 8 fr, gA cI (a 17) 2048 le, gA cI (a 18) 41 lg, gA cI (a 19) 112 bg]) (fun xo : Unit => True)) := by
  refine g_enterI (z := false) (lv0 := [(0, .ref q)]) _ rfl (by decide) rfl rfl (fun V X ret => ?_)
  have hA1 := okA_1 hA
  have hA0 := okA_0 hA
  have hpu := okA_pu hA
  refine g_aload_n (pc := 0) X dX9_clear_0 0 rfl ?_
  refine g_get (pc := 1) X fl_X9_7 dX9_clear_1 0 (v := .ref (a 0)) rfl rfl ?_
  refine g_iconst (pc := 4) X dX9_clear_4 ?_
  refine g_iald (pc := 5) X dX9_clear_5 1 rfl (by omega) rfl ?_
  refine g_istore_n (pc := 6) X (lv' := [(0, .ref q), (1, gi (A 2))]) dX9_clear_6 rfl rfl ?_
  refine g_aload_n (pc := 7) X dX9_clear_7 0 rfl ?_
  refine g_get (pc := 8) X fl_X9_7 dX9_clear_8 0 (v := .ref (a 0)) rfl rfl ?_
  refine g_iconst (pc := 11) X dX9_clear_11 ?_
  refine g_iconst (pc := 12) X dX9_clear_12 ?_
  refine g_iast (pc := 13) X (ws' := [oM q a al at_ st so va fa pl sg su, gA cI (a 0) 1140 (gupd A 2 0), gA cZ (a 1) 2 kp, gA cI (a 2) 3 rf, gA cI (a 3) 6 lk_, gA cI (a 5) 60 sh, gA cI (a 12) 8 pi, gA cI (a 13) 8 th, gA cI (a 14) 8 fl, gA cI (a 15) 8 so_, gA cI (a 16) 8 fr, gA cI (a 17) 2048 le, gA cI (a 18) 41 lg, gA cI (a 19) 112 bg]) dX9_clear_13 1 rfl (by omega) rfl rfl ?_
  refine g_iload_n (pc := 14) X dX9_clear_14 1 rfl ?_
  exact ret _ _ _ _ _ _ dX9_clear_15 rfl rfl (fun h => by cases h) (gPxi_e () rfl rfl trivial)

set_option maxHeartbeats 4000000 in
set_option maxRecDepth 100000 in
theorem c_X9_isWalker (l : Launch) (D : va_G) (cI cZ : ClassId) (q : Nat) (a : Nat → Nat) (al : Int) (at_ : Int) (st : Int) (so : Int) (va : Int) (fa : Int) (pl : Int) (sg : Int) (su : Int) (f : Int) (lr : Int) (b : Int) (s : Int) (hf : -2147483648 ≤ f ∧ f < 2147483648) (hlr : -2147483648 ≤ lr ∧ lr < 2147483648) (hb : -2147483648 ≤ b ∧ b < 2147483648) (hs : -2147483648 ≤ s ∧ s < 2147483648) : GM l D cI cZ yX9_isWalker cX9_isWalker 5 (some .boolean) ({ frames := 1, cells := 0, slots := 0, locals := 22 }) 0 0 true [.ref q, gi f, gi lr, gi b, gi s] [oM q a al at_ st so va fa pl sg su] (gPi (gB ((0 ≤ f ∧ f ≤ 99) ∧ (1 ≤ lr ∧ lr ≤ 9) ∧ (1 ≤ b ∧ b ≤ 9) ∧ 0 ≤ s ∧ s ≤ 20))) := by
  refine g_enterI (z := true) (lv0 := [(0, .ref q), (1, gi f), (2, gi lr), (3, gi b), (4, gi s)]) _ rfl (by decide) rfl rfl (fun V X ret => ?_)
  refine g_iload_n (pc := 0) X dX9_isWalker_0 1 rfl ?_
  refine g_iconst (pc := 1) X dX9_isWalker_1 ?_
  refine g_bipush (pc := 2) X dX9_isWalker_2 (by decide +kernel) ?_
  refine gc_Si (pc := 4) X (c_X9_in l D cI cZ f 0 99 (by omega) (by omega) (by omega)) lm_X9_50 dX9_isWalker_4 [] rfl rfl rfl rfl rfl rfl ?_
  refine g_ifeqB (pc := 7) X 45 dX9_isWalker_7 (by decide) (fun h7 => ?_) (fun h7 => ?_)
  · refine g_iconst (pc := 45) X dX9_isWalker_45 ?_
    exact ret _ _ _ _ _ _ dX9_isWalker_46 rfl rfl (fun _ => Or.inl rfl) (gPi_e (gB_f (by omega)).symm)
  · refine g_iload_n (pc := 10) X dX9_isWalker_10 2 rfl ?_
    refine g_iconst (pc := 11) X dX9_isWalker_11 ?_
    refine g_bipush (pc := 12) X dX9_isWalker_12 (by decide +kernel) ?_
    refine gc_Si (pc := 14) X (c_X9_in l D cI cZ lr 1 9 (by omega) (by omega) (by omega)) lm_X9_50 dX9_isWalker_14 [] rfl rfl rfl rfl rfl rfl ?_
    refine g_ifeqB (pc := 17) X 45 dX9_isWalker_17 (by decide) (fun h17 => ?_) (fun h17 => ?_)
    · refine g_iconst (pc := 45) X dX9_isWalker_45 ?_
      exact ret _ _ _ _ _ _ dX9_isWalker_46 rfl rfl (fun _ => Or.inl rfl) (gPi_e (gB_f (by omega)).symm)
    · refine g_iload_n (pc := 20) X dX9_isWalker_20 3 rfl ?_
      refine g_iconst (pc := 21) X dX9_isWalker_21 ?_
      refine g_bipush (pc := 22) X dX9_isWalker_22 (by decide +kernel) ?_
      refine gc_Si (pc := 24) X (c_X9_in l D cI cZ b 1 9 (by omega) (by omega) (by omega)) lm_X9_50 dX9_isWalker_24 [] rfl rfl rfl rfl rfl rfl ?_
      refine g_ifeqB (pc := 27) X 45 dX9_isWalker_27 (by decide) (fun h27 => ?_) (fun h27 => ?_)
      · refine g_iconst (pc := 45) X dX9_isWalker_45 ?_
        exact ret _ _ _ _ _ _ dX9_isWalker_46 rfl rfl (fun _ => Or.inl rfl) (gPi_e (gB_f (by omega)).symm)
      · refine g_iload (pc := 30) X dX9_isWalker_30 4 rfl ?_
        refine g_iconst (pc := 32) X dX9_isWalker_32 ?_
        refine g_bipush (pc := 33) X dX9_isWalker_33 (by decide +kernel) ?_
        refine gc_Si (pc := 35) X (c_X9_in l D cI cZ s 0 20 (by omega) (by omega) (by omega)) lm_X9_50 dX9_isWalker_35 [] rfl rfl rfl rfl rfl rfl ?_
        refine g_ifeqB (pc := 38) X 45 dX9_isWalker_38 (by decide) (fun h38 => ?_) (fun h38 => ?_)
        · refine g_iconst (pc := 45) X dX9_isWalker_45 ?_
          exact ret _ _ _ _ _ _ dX9_isWalker_46 rfl rfl (fun _ => Or.inl rfl) (gPi_e (gB_f (by omega)).symm)
        · refine g_iconst (pc := 41) X dX9_isWalker_41 ?_
          refine g_goto (pc := 42) X 46 dX9_isWalker_42 (by decide) ?_
          exact ret _ _ _ _ _ _ dX9_isWalker_46 rfl rfl (fun _ => Or.inr rfl) (gPi_e (gB_t (by omega)).symm)

set_option maxHeartbeats 4000000 in
set_option maxRecDepth 100000 in
theorem c_X9_walk (l : Launch) (D : va_G) (cI cZ : ClassId) (q : Nat) (a : Nat → Nat) (al : Int) (at_ : Int) (st : Int) (so : Int) (va : Int) (fa : Int) (pl : Int) (sg : Int) (su : Int) (lg : Int → Int) (f : Int) (lr : Int) (b : Int) (s : Int) (hw : (0 ≤ f ∧ f ≤ 99) ∧ (1 ≤ lr ∧ lr ≤ 9) ∧ (1 ≤ b ∧ b ≤ 9) ∧ 0 ≤ s ∧ s ≤ 20) : GM l D cI cZ yX9_walk cX9_walk 6 none ({ frames := 0, cells := 0, slots := 0, locals := 0 }) 0 0 false [.ref q, gi f, gi lr, gi b, gi s] [oM q a al at_ st so va fa pl sg su, gA cI (a 18) 41 lg] (gPxv (fun xo : (Int → Int) => [oM q a al at_ st so va fa pl sg su, gA cI (a 18) 41 xo]) (fun xo : (Int → Int) => (∀ kk, 0 ≤ kk → kk < 41 → xo kk = sLag f lr b s kk))) := by
  refine g_enterV (lv0 := [(0, .ref q), (1, gi f), (2, gi lr), (3, gi b), (4, gi s)]) (by decide) rfl rfl (fun V X ret => ?_)
  refine g_aload_n (pc := 0) X dX9_walk_0 0 rfl ?_
  refine g_get (pc := 1) X fl_X9_44 dX9_walk_1 0 (v := .ref (a 18)) rfl rfl ?_
  refine g_iconst (pc := 4) X dX9_walk_4 ?_
  refine g_iload_n (pc := 5) X dX9_walk_5 1 rfl ?_
  refine g_iast (pc := 6) X (ws' := [oM q a al at_ st so va fa pl sg su, gA cI (a 18) 41 (gupd lg 0 f)]) dX9_walk_6 1 rfl (by omega) rfl rfl ?_
  refine g_iconst (pc := 7) X dX9_walk_7 ?_
  refine g_istore (pc := 8) X (lv' := [(0, .ref q), (1, gi f), (2, gi lr), (3, gi b), (4, gi s), (5, gi 0)]) dX9_walk_8 rfl rfl ?_
  have L10 : ∀ (n10 : Nat) (i : Int) (e : Int → Int), (0 ≤ i ∧ i ≤ 40) → (∀ kk, 0 ≤ kk → kk < i + 1 → e kk = sLag f lr b s kk) → (40 - i).toNat < n10 → V 0 0 [oM q a al at_ st so va fa pl sg su, gA cI (a 18) 41 e] 10 [(0, .ref q), (1, gi f), (2, gi lr), (3, gi b), (4, gi s), (5, gi i)] [] := by
    intro n10
    induction n10 with
    | zero => intro i e hi he hn10; exact absurd hn10 (Nat.not_lt_zero _)
    | succ n10 ih10 =>
      intro i e hi he hn10
      have hbb := sLag_b (l := lr) (b := b) hw.1 hw.2.1 hw.2.2.2 hi.1
      refine g_iload (pc := 10) X dX9_walk_10 5 rfl ?_
      refine g_bipush (pc := 12) X dX9_walk_12 (by decide +kernel) ?_
      refine g_icmpge (pc := 14) X 63 dX9_walk_14 (by decide) (by omega) (by omega) (fun h14 => ?_) (fun h14 => ?_)
      · exact ret _ _ _ _ _ dX9_walk_63 rfl rfl (gPxv_e e rfl (fun kk k0 k1 => he kk k0 (by omega)))
      · refine g_aload_n (pc := 17) X dX9_walk_17 0 rfl ?_
        refine g_get (pc := 18) X fl_X9_44 dX9_walk_18 0 (v := .ref (a 18)) rfl rfl ?_
        refine g_iload (pc := 21) X dX9_walk_21 5 rfl ?_
        refine g_iconst (pc := 23) X dX9_walk_23 ?_
        refine g_iadd (pc := 24) X dX9_walk_24 ?_
        refine g_aload_n (pc := 25) X dX9_walk_25 0 rfl ?_
        refine g_get (pc := 26) X fl_X9_44 dX9_walk_26 0 (v := .ref (a 18)) rfl rfl ?_
        refine g_iload (pc := 29) X dX9_walk_29 5 rfl ?_
        refine g_iald (pc := 31) X dX9_walk_31 1 rfl (by omega) rfl ?_
        refine g_top (b := sLag f lr b s i) (he i hi.1 (by omega)) ?_
        refine g_aload_n (pc := 32) X dX9_walk_32 0 rfl ?_
        refine g_get (pc := 33) X fl_X9_44 dX9_walk_33 0 (v := .ref (a 18)) rfl rfl ?_
        refine g_iload (pc := 36) X dX9_walk_36 5 rfl ?_
        refine g_iald (pc := 38) X dX9_walk_38 1 rfl (by omega) rfl ?_
        refine g_top (b := sLag f lr b s i) (he i hi.1 (by omega)) ?_
        refine g_iload_n (pc := 39) X dX9_walk_39 2 rfl ?_
        refine g_idiv (pc := 40) X dX9_walk_40 (by omega) (by omega) ?_
        refine g_isub (pc := 41) X dX9_walk_41 ?_
        refine g_iload (pc := 42) X dX9_walk_42 5 rfl ?_
        refine g_iload_n (pc := 44) X dX9_walk_44 3 rfl ?_
        refine g_irem (pc := 45) X dX9_walk_45 (by omega) (by omega) ?_
        have hm1 := Int.emod_nonneg i (show b ≠ 0 by omega)
        have hm2 := Int.emod_lt_of_pos i (show 0 < b by omega)
        refine g_ifne (pc := 46) X 54 dX9_walk_46 (by decide) (by omega) (fun h46 => ?_) (fun h46 => ?_)
        · refine g_iconst (pc := 54) X dX9_walk_54 ?_
          refine g_iadd (pc := 55) X dX9_walk_55 ?_
          refine g_iast (pc := 56) X (ws' := [oM q a al at_ st so va fa pl sg su, gA cI (a 18) 41 (gupd e (i + 1) ((sLag f lr b s i) - (sLag f lr b s i) / lr + 0))]) dX9_walk_56 1 rfl (by omega) rfl rfl ?_
          refine g_iinc (pc := 57) X (lv' := [(0, .ref q), (1, gi f), (2, gi lr), (3, gi b), (4, gi s), (5, gi (i + 1))]) dX9_walk_57 5 rfl rfl rfl ?_
          refine g_goto (pc := 60) X 10 dX9_walk_60 (by decide) ?_
          exact ih10 _ _ (by omega) (all_s (fun kk k0 k1 => by rw [gupd_n (by omega)]; exact he kk k0 k1) (by rw [gupd_s, sLag_s hi.1]; first | rw [if_pos h46] | rw [if_neg h46])) (by omega)
        · refine g_iload (pc := 49) X dX9_walk_49 4 rfl ?_
          refine g_goto (pc := 51) X 55 dX9_walk_51 (by decide) ?_
          refine g_iadd (pc := 55) X dX9_walk_55 ?_
          refine g_iast (pc := 56) X (ws' := [oM q a al at_ st so va fa pl sg su, gA cI (a 18) 41 (gupd e (i + 1) ((sLag f lr b s i) - (sLag f lr b s i) / lr + s))]) dX9_walk_56 1 rfl (by omega) rfl rfl ?_
          refine g_iinc (pc := 57) X (lv' := [(0, .ref q), (1, gi f), (2, gi lr), (3, gi b), (4, gi s), (5, gi (i + 1))]) dX9_walk_57 5 rfl rfl rfl ?_
          refine g_goto (pc := 60) X 10 dX9_walk_60 (by decide) ?_
          exact ih10 _ _ (by omega) (all_s (fun kk k0 k1 => by rw [gupd_n (by omega)]; exact he kk k0 k1) (by rw [gupd_s, sLag_s hi.1]; first | rw [if_pos h46] | rw [if_neg h46])) (by omega)
  exact L10 _ _ _ (by omega) (fun kk k0 k1 => by rw [show kk = 0 by omega, gupd_s]; rfl) (Nat.lt_succ_self _)

set_option maxHeartbeats 4000000 in
set_option maxRecDepth 100000 in
theorem c_X9_lag (l : Launch) (D : va_G) (cI cZ : ClassId) (q : Nat) (a : Nat → Nat) (al : Int) (at_ : Int) (st : Int) (so : Int) (va : Int) (fa : Int) (pl : Int) (sg : Int) (su : Int) (A : Int → Int) (kp : Int → Int) (rf : Int → Int) (lk_ : Int → Int) (sh : Int → Int) (pi : Int → Int) (th : Int → Int) (fl : Int → Int) (so_ : Int → Int) (fr : Int → Int) (le : Int → Int) (lg : Int → Int) (bg : Int → Int) (f : Int) (lr : Int) (b : Int) (s : Int) (n : Int) (hA : okA A) (hf : -2147483648 ≤ f ∧ f < 2147483648) (hlr : -2147483648 ≤ lr ∧ lr < 2147483648) (hb : -2147483648 ≤ b ∧ b < 2147483648) (hs : -2147483648 ≤ s ∧ s < 2147483648) (hn : -2147483648 ≤ n ∧ n < 2147483648) : GM l D cI cZ yX9_lag cX9_lag 6 (some .int) ({ frames := 2, cells := 0, slots := 0, locals := 46 }) 0 0 false [.ref q, gi f, gi lr, gi b, gi s, gi n] [oM q a al at_ st so va fa pl sg su, gA cI (a 0) 1140 A, gA cZ (a 1) 2 kp, gA cI (a 2) 3 rf, gA cI (a 3) 6 lk_, gA cI (a 5) 60 sh, gA cI (a 12) 8 pi, gA cI (a 13) 8 th, gA cI (a 14) 8 fl, gA cI (a 15) 8 so_, gA cI (a 16) 8 fr, gA cI (a 17) 2048 le, gA cI (a 18) 41 lg, gA cI (a 19) 112 bg] (gPxi (fun xo : (Int → Int) => (o_lag f lr b s n).1) (fun xo : (Int → Int) => [oM q a al at_ st so va fa pl sg su, gA cI (a 0) 1140 A, gA cZ (a 1) 2 kp, gA cI (a 2) 3 (bump ((o_lag f lr b s n).2) rf), gA cI (a 3) 6 lk_, gA cI (a 5) 60 sh, gA cI (a 12) 8 pi, gA cI (a 13) 8 th, gA cI (a 14) 8 fl, gA cI (a 15) 8 so_, gA cI (a 16) 8 fr, gA cI (a 17) 2048 le, gA cI (a 18) 41 xo, gA cI (a 19) 112 bg]) (fun xo : (Int → Int) => True)) := by
  refine g_enterI (z := false) (lv0 := [(0, .ref q), (1, gi f), (2, gi lr), (3, gi b), (4, gi s), (5, gi n)]) _ rfl (by decide) rfl rfl (fun V X ret => ?_)
  have hA1 := okA_1 hA
  have hA0 := okA_0 hA
  have hpu := okA_pu hA
  refine g_aload_n (pc := 0) X dX9_lag_0 0 rfl ?_
  refine g_iload_n (pc := 1) X dX9_lag_1 1 rfl ?_
  refine g_iload_n (pc := 2) X dX9_lag_2 2 rfl ?_
  refine g_iload_n (pc := 3) X dX9_lag_3 3 rfl ?_
  refine g_iload (pc := 4) X dX9_lag_4 4 rfl ?_
  refine gc_Vi (pc := 6) X (c_X9_isWalker l D cI cZ q a al at_ st so va fa pl sg su f lr b s (by omega) (by omega) (by omega) (by omega)) lm_X9_181 dX9_lag_6 [0] rfl rfl rfl rfl rfl rfl rfl rfl ?_
  refine g_ifeqB (pc := 9) X 23 dX9_lag_9 (by decide) (fun h9 => ?_) (fun h9 => ?_)
  · refine g_aload_n (pc := 23) X dX9_lag_23 0 rfl ?_
    refine g_bipush (pc := 24) X dX9_lag_24 (by decide +kernel) ?_
    refine gc_Vxi (pc := 26) X (wr := [gA cI (a 0) 1140 A, gA cZ (a 1) 2 kp, gA cI (a 3) 6 lk_, gA cI (a 5) 60 sh, gA cI (a 12) 8 pi, gA cI (a 13) 8 th, gA cI (a 14) 8 fl, gA cI (a 15) 8 so_, gA cI (a 16) 8 fr, gA cI (a 17) 2048 le, gA cI (a 18) 41 lg, gA cI (a 19) 112 bg]) (c_X9_refuse l D cI cZ q a al at_ st so va fa pl sg su rf (-2) (by omega)) lm_X9_54 dX9_lag_26 [0, 3] [1, 2, 4, 5, 6, 7, 8, 9, 10, 11, 12, 13] rfl rfl rfl rfl (by decide) rfl rfl rfl rfl rfl rfl (fun x26 hx26 => ?_)
    refine g_pick (cn := 0) (sl := 0) (st := gi (-2) :: []) X (ws' := [oM q a al at_ st so va fa pl sg su, gA cI (a 0) 1140 A, gA cZ (a 1) 2 kp, gA cI (a 2) 3 (gupd rf (-2 - (-2)) (rf (-2 - (-2)) + 1)), gA cI (a 3) 6 lk_, gA cI (a 5) 60 sh, gA cI (a 12) 8 pi, gA cI (a 13) 8 th, gA cI (a 14) 8 fl, gA cI (a 15) 8 so_, gA cI (a 16) 8 fr, gA cI (a 17) 2048 le, gA cI (a 18) 41 lg, gA cI (a 19) 112 bg]) [12, 0, 1, 13, 2, 3, 4, 5, 6, 7, 8, 9, 10, 11] rfl rfl ?_
    exact ret _ _ _ _ _ _ dX9_lag_29 rfl rfl (fun h => by cases h) (gPxi_e _ (by rw [(show o_lag f lr b s n = (-2, 0) from if_neg (by omega))]) (by rw [(show o_lag f lr b s n = (-2, 0) from if_neg (by omega))]; rfl) trivial)
  · refine g_iload (pc := 12) X dX9_lag_12 5 rfl ?_
    refine g_iconst (pc := 14) X dX9_lag_14 ?_
    refine g_bipush (pc := 15) X dX9_lag_15 (by decide +kernel) ?_
    refine gc_Si (pc := 17) X (c_X9_in l D cI cZ n 0 39 (by omega) (by omega) (by omega)) lm_X9_50 dX9_lag_17 [] rfl rfl rfl rfl rfl rfl ?_
    refine g_ifneB (pc := 20) X 30 dX9_lag_20 (by decide) (fun h20 => ?_) (fun h20 => ?_)
    · refine g_aload_n (pc := 30) X dX9_lag_30 0 rfl ?_
      refine g_iload_n (pc := 31) X dX9_lag_31 1 rfl ?_
      refine g_iload_n (pc := 32) X dX9_lag_32 2 rfl ?_
      refine g_iload_n (pc := 33) X dX9_lag_33 3 rfl ?_
      refine g_iload (pc := 34) X dX9_lag_34 4 rfl ?_
      refine gc_Vxv (pc := 36) X (wr := [gA cI (a 0) 1140 A, gA cZ (a 1) 2 kp, gA cI (a 2) 3 rf, gA cI (a 3) 6 lk_, gA cI (a 5) 60 sh, gA cI (a 12) 8 pi, gA cI (a 13) 8 th, gA cI (a 14) 8 fl, gA cI (a 15) 8 so_, gA cI (a 16) 8 fr, gA cI (a 17) 2048 le, gA cI (a 19) 112 bg]) (c_X9_walk l D cI cZ q a al at_ st so va fa pl sg su lg f lr b s (by omega)) lm_X9_185 dX9_lag_36 [0, 12] [1, 2, 3, 4, 5, 6, 7, 8, 9, 10, 11, 13] rfl rfl rfl rfl (by decide) rfl rfl rfl rfl rfl rfl (fun x36 hx36 => ?_)
      generalize x36 = g_36 at hx36 ⊢
      have hg_36 : ∀ kk, 0 ≤ kk → kk < 41 → g_36 kk = sLag f lr b s kk := hx36
      refine g_pick (cn := 0) (sl := 0) (st := []) X (ws' := [oM q a al at_ st so va fa pl sg su, gA cI (a 0) 1140 A, gA cZ (a 1) 2 kp, gA cI (a 2) 3 rf, gA cI (a 3) 6 lk_, gA cI (a 5) 60 sh, gA cI (a 12) 8 pi, gA cI (a 13) 8 th, gA cI (a 14) 8 fl, gA cI (a 15) 8 so_, gA cI (a 16) 8 fr, gA cI (a 17) 2048 le, gA cI (a 18) 41 g_36, gA cI (a 19) 112 bg]) [12, 0, 1, 2, 3, 4, 5, 6, 7, 8, 9, 10, 13, 11] rfl rfl ?_
      refine g_aload_n (pc := 39) X dX9_lag_39 0 rfl ?_
      refine g_get (pc := 40) X fl_X9_44 dX9_lag_40 0 (v := .ref (a 18)) rfl rfl ?_
      refine g_iload (pc := 43) X dX9_lag_43 5 rfl ?_
      refine g_iald (pc := 45) X dX9_lag_45 12 rfl (by omega) rfl ?_
      exact ret _ _ _ _ _ _ dX9_lag_46 rfl rfl (fun h => by cases h) (gPxi_e _ (by rw [(show o_lag f lr b s n = (sLag f lr b s n, -1) from if_pos (by omega))]; exact hg_36 n (by omega) (by omega)) (by rw [(show o_lag f lr b s n = (sLag f lr b s n, -1) from if_pos (by omega))]; rfl) trivial)
    · refine g_aload_n (pc := 23) X dX9_lag_23 0 rfl ?_
      refine g_bipush (pc := 24) X dX9_lag_24 (by decide +kernel) ?_
      refine gc_Vxi (pc := 26) X (wr := [gA cI (a 0) 1140 A, gA cZ (a 1) 2 kp, gA cI (a 3) 6 lk_, gA cI (a 5) 60 sh, gA cI (a 12) 8 pi, gA cI (a 13) 8 th, gA cI (a 14) 8 fl, gA cI (a 15) 8 so_, gA cI (a 16) 8 fr, gA cI (a 17) 2048 le, gA cI (a 18) 41 lg, gA cI (a 19) 112 bg]) (c_X9_refuse l D cI cZ q a al at_ st so va fa pl sg su rf (-2) (by omega)) lm_X9_54 dX9_lag_26 [0, 3] [1, 2, 4, 5, 6, 7, 8, 9, 10, 11, 12, 13] rfl rfl rfl rfl (by decide) rfl rfl rfl rfl rfl rfl (fun x26 hx26 => ?_)
      refine g_pick (cn := 0) (sl := 0) (st := gi (-2) :: []) X (ws' := [oM q a al at_ st so va fa pl sg su, gA cI (a 0) 1140 A, gA cZ (a 1) 2 kp, gA cI (a 2) 3 (gupd rf (-2 - (-2)) (rf (-2 - (-2)) + 1)), gA cI (a 3) 6 lk_, gA cI (a 5) 60 sh, gA cI (a 12) 8 pi, gA cI (a 13) 8 th, gA cI (a 14) 8 fl, gA cI (a 15) 8 so_, gA cI (a 16) 8 fr, gA cI (a 17) 2048 le, gA cI (a 18) 41 lg, gA cI (a 19) 112 bg]) [12, 0, 1, 13, 2, 3, 4, 5, 6, 7, 8, 9, 10, 11] rfl rfl ?_
      exact ret _ _ _ _ _ _ dX9_lag_29 rfl rfl (fun h => by cases h) (gPxi_e _ (by rw [(show o_lag f lr b s n = (-2, 0) from if_neg (by omega))]) (by rw [(show o_lag f lr b s n = (-2, 0) from if_neg (by omega))]; rfl) trivial)

set_option maxHeartbeats 4000000 in
set_option maxRecDepth 100000 in
theorem c_X9_mended (l : Launch) (D : va_G) (cI cZ : ClassId) (q : Nat) (a : Nat → Nat) (al : Int) (at_ : Int) (st : Int) (so : Int) (va : Int) (fa : Int) (pl : Int) (sg : Int) (su : Int) (A : Int → Int) (kp : Int → Int) (rf : Int → Int) (lk_ : Int → Int) (sh : Int → Int) (pi : Int → Int) (th : Int → Int) (fl : Int → Int) (so_ : Int → Int) (fr : Int → Int) (le : Int → Int) (lg : Int → Int) (bg : Int → Int) (f : Int) (lr : Int) (b : Int) (s : Int) (n : Int) (t : Int) (hA : okA A) (hf : -2147483648 ≤ f ∧ f < 2147483648) (hlr : -2147483648 ≤ lr ∧ lr < 2147483648) (hb : -2147483648 ≤ b ∧ b < 2147483648) (hs : -2147483648 ≤ s ∧ s < 2147483648) (hn : -2147483648 ≤ n ∧ n < 2147483648) (ht : -2147483648 ≤ t ∧ t < 2147483648) : GM l D cI cZ yX9_mended cX9_mended 9 (some .int) ({ frames := 2, cells := 0, slots := 0, locals := 46 }) 0 0 false [.ref q, gi f, gi lr, gi b, gi s, gi n, gi t] [oM q a al at_ st so va fa pl sg su, gA cI (a 0) 1140 A, gA cZ (a 1) 2 kp, gA cI (a 2) 3 rf, gA cI (a 3) 6 lk_, gA cI (a 5) 60 sh, gA cI (a 12) 8 pi, gA cI (a 13) 8 th, gA cI (a 14) 8 fl, gA cI (a 15) 8 so_, gA cI (a 16) 8 fr, gA cI (a 17) 2048 le, gA cI (a 18) 41 lg, gA cI (a 19) 112 bg] (gPxi (fun xo : (Int → Int) => (o_mend f lr b s n t).1) (fun xo : (Int → Int) => [oM q a al at_ st so va fa pl sg su, gA cI (a 0) 1140 A, gA cZ (a 1) 2 kp, gA cI (a 2) 3 (bump ((o_mend f lr b s n t).2) rf), gA cI (a 3) 6 lk_, gA cI (a 5) 60 sh, gA cI (a 12) 8 pi, gA cI (a 13) 8 th, gA cI (a 14) 8 fl, gA cI (a 15) 8 so_, gA cI (a 16) 8 fr, gA cI (a 17) 2048 le, gA cI (a 18) 41 xo, gA cI (a 19) 112 bg]) (fun xo : (Int → Int) => True)) := by
  refine g_enterI (z := false) (lv0 := [(0, .ref q), (1, gi f), (2, gi lr), (3, gi b), (4, gi s), (5, gi n), (6, gi t)]) _ rfl (by decide) rfl rfl (fun V X ret => ?_)
  have hA1 := okA_1 hA
  have hA0 := okA_0 hA
  have hpu := okA_pu hA
  refine g_aload_n (pc := 0) X dX9_mended_0 0 rfl ?_
  refine g_iload_n (pc := 1) X dX9_mended_1 1 rfl ?_
  refine g_iload_n (pc := 2) X dX9_mended_2 2 rfl ?_
  refine g_iload_n (pc := 3) X dX9_mended_3 3 rfl ?_
  refine g_iload (pc := 4) X dX9_mended_4 4 rfl ?_
  refine gc_Vi (pc := 6) X (c_X9_isWalker l D cI cZ q a al at_ st so va fa pl sg su f lr b s (by omega) (by omega) (by omega) (by omega)) lm_X9_181 dX9_mended_6 [0] rfl rfl rfl rfl rfl rfl rfl rfl ?_
  refine g_ifeqB (pc := 9) X 34 dX9_mended_9 (by decide) (fun h9 => ?_) (fun h9 => ?_)
  · refine g_aload_n (pc := 34) X dX9_mended_34 0 rfl ?_
    refine g_bipush (pc := 35) X dX9_mended_35 (by decide +kernel) ?_
    refine gc_Vxi (pc := 37) X (wr := [gA cI (a 0) 1140 A, gA cZ (a 1) 2 kp, gA cI (a 3) 6 lk_, gA cI (a 5) 60 sh, gA cI (a 12) 8 pi, gA cI (a 13) 8 th, gA cI (a 14) 8 fl, gA cI (a 15) 8 so_, gA cI (a 16) 8 fr, gA cI (a 17) 2048 le, gA cI (a 18) 41 lg, gA cI (a 19) 112 bg]) (c_X9_refuse l D cI cZ q a al at_ st so va fa pl sg su rf (-2) (by omega)) lm_X9_54 dX9_mended_37 [0, 3] [1, 2, 4, 5, 6, 7, 8, 9, 10, 11, 12, 13] rfl rfl rfl rfl (by decide) rfl rfl rfl rfl rfl rfl (fun x37 hx37 => ?_)
    refine g_pick (cn := 0) (sl := 0) (st := gi (-2) :: []) X (ws' := [oM q a al at_ st so va fa pl sg su, gA cI (a 0) 1140 A, gA cZ (a 1) 2 kp, gA cI (a 2) 3 (gupd rf (-2 - (-2)) (rf (-2 - (-2)) + 1)), gA cI (a 3) 6 lk_, gA cI (a 5) 60 sh, gA cI (a 12) 8 pi, gA cI (a 13) 8 th, gA cI (a 14) 8 fl, gA cI (a 15) 8 so_, gA cI (a 16) 8 fr, gA cI (a 17) 2048 le, gA cI (a 18) 41 lg, gA cI (a 19) 112 bg]) [12, 0, 1, 13, 2, 3, 4, 5, 6, 7, 8, 9, 10, 11] rfl rfl ?_
    exact ret _ _ _ _ _ _ dX9_mended_40 rfl rfl (fun h => by cases h) (gPxi_e _ (by rw [(show o_mend f lr b s n t = (-2, 0) from if_neg (by omega))]) (by rw [(show o_mend f lr b s n t = (-2, 0) from if_neg (by omega))]; rfl) trivial)
  · refine g_iload (pc := 12) X dX9_mended_12 5 rfl ?_
    refine g_iconst (pc := 14) X dX9_mended_14 ?_
    refine g_bipush (pc := 15) X dX9_mended_15 (by decide +kernel) ?_
    refine gc_Si (pc := 17) X (c_X9_in l D cI cZ n 1 40 (by omega) (by omega) (by omega)) lm_X9_50 dX9_mended_17 [] rfl rfl rfl rfl rfl rfl ?_
    refine g_ifeqB (pc := 20) X 34 dX9_mended_20 (by decide) (fun h20 => ?_) (fun h20 => ?_)
    · refine g_aload_n (pc := 34) X dX9_mended_34 0 rfl ?_
      refine g_bipush (pc := 35) X dX9_mended_35 (by decide +kernel) ?_
      refine gc_Vxi (pc := 37) X (wr := [gA cI (a 0) 1140 A, gA cZ (a 1) 2 kp, gA cI (a 3) 6 lk_, gA cI (a 5) 60 sh, gA cI (a 12) 8 pi, gA cI (a 13) 8 th, gA cI (a 14) 8 fl, gA cI (a 15) 8 so_, gA cI (a 16) 8 fr, gA cI (a 17) 2048 le, gA cI (a 18) 41 lg, gA cI (a 19) 112 bg]) (c_X9_refuse l D cI cZ q a al at_ st so va fa pl sg su rf (-2) (by omega)) lm_X9_54 dX9_mended_37 [0, 3] [1, 2, 4, 5, 6, 7, 8, 9, 10, 11, 12, 13] rfl rfl rfl rfl (by decide) rfl rfl rfl rfl rfl rfl (fun x37 hx37 => ?_)
      refine g_pick (cn := 0) (sl := 0) (st := gi (-2) :: []) X (ws' := [oM q a al at_ st so va fa pl sg su, gA cI (a 0) 1140 A, gA cZ (a 1) 2 kp, gA cI (a 2) 3 (gupd rf (-2 - (-2)) (rf (-2 - (-2)) + 1)), gA cI (a 3) 6 lk_, gA cI (a 5) 60 sh, gA cI (a 12) 8 pi, gA cI (a 13) 8 th, gA cI (a 14) 8 fl, gA cI (a 15) 8 so_, gA cI (a 16) 8 fr, gA cI (a 17) 2048 le, gA cI (a 18) 41 lg, gA cI (a 19) 112 bg]) [12, 0, 1, 13, 2, 3, 4, 5, 6, 7, 8, 9, 10, 11] rfl rfl ?_
      exact ret _ _ _ _ _ _ dX9_mended_40 rfl rfl (fun h => by cases h) (gPxi_e _ (by rw [(show o_mend f lr b s n t = (-2, 0) from if_neg (by omega))]) (by rw [(show o_mend f lr b s n t = (-2, 0) from if_neg (by omega))]; rfl) trivial)
    · refine g_iload (pc := 23) X dX9_mended_23 6 rfl ?_
      refine g_iconst (pc := 25) X dX9_mended_25 ?_
      refine g_bipush (pc := 26) X dX9_mended_26 (by decide +kernel) ?_
      refine gc_Si (pc := 28) X (c_X9_in l D cI cZ t 0 99 (by omega) (by omega) (by omega)) lm_X9_50 dX9_mended_28 [] rfl rfl rfl rfl rfl rfl ?_
      refine g_ifneB (pc := 31) X 41 dX9_mended_31 (by decide) (fun h31 => ?_) (fun h31 => ?_)
      · refine g_aload_n (pc := 41) X dX9_mended_41 0 rfl ?_
        refine g_iload_n (pc := 42) X dX9_mended_42 1 rfl ?_
        refine g_iload_n (pc := 43) X dX9_mended_43 2 rfl ?_
        refine g_iload_n (pc := 44) X dX9_mended_44 3 rfl ?_
        refine g_iload (pc := 45) X dX9_mended_45 4 rfl ?_
        refine gc_Vxv (pc := 47) X (wr := [gA cI (a 0) 1140 A, gA cZ (a 1) 2 kp, gA cI (a 2) 3 rf, gA cI (a 3) 6 lk_, gA cI (a 5) 60 sh, gA cI (a 12) 8 pi, gA cI (a 13) 8 th, gA cI (a 14) 8 fl, gA cI (a 15) 8 so_, gA cI (a 16) 8 fr, gA cI (a 17) 2048 le, gA cI (a 19) 112 bg]) (c_X9_walk l D cI cZ q a al at_ st so va fa pl sg su lg f lr b s (by omega)) lm_X9_185 dX9_mended_47 [0, 12] [1, 2, 3, 4, 5, 6, 7, 8, 9, 10, 11, 13] rfl rfl rfl rfl (by decide) rfl rfl rfl rfl rfl rfl (fun x47 hx47 => ?_)
        generalize x47 = g_47 at hx47 ⊢
        have hg_47 : ∀ kk, 0 ≤ kk → kk < 41 → g_47 kk = sLag f lr b s kk := hx47
        refine g_pick (cn := 0) (sl := 0) (st := []) X (ws' := [oM q a al at_ st so va fa pl sg su, gA cI (a 0) 1140 A, gA cZ (a 1) 2 kp, gA cI (a 2) 3 rf, gA cI (a 3) 6 lk_, gA cI (a 5) 60 sh, gA cI (a 12) 8 pi, gA cI (a 13) 8 th, gA cI (a 14) 8 fl, gA cI (a 15) 8 so_, gA cI (a 16) 8 fr, gA cI (a 17) 2048 le, gA cI (a 18) 41 g_47, gA cI (a 19) 112 bg]) [12, 0, 1, 2, 3, 4, 5, 6, 7, 8, 9, 10, 13, 11] rfl rfl ?_
        refine g_iconst (pc := 50) X dX9_mended_50 ?_
        refine g_istore (pc := 51) X (lv' := [(0, .ref q), (1, gi f), (2, gi lr), (3, gi b), (4, gi s), (5, gi n), (6, gi t), (7, gi 0)]) dX9_mended_51 rfl rfl ?_
        refine g_iconst (pc := 53) X dX9_mended_53 ?_
        refine g_istore (pc := 54) X (lv' := [(0, .ref q), (1, gi f), (2, gi lr), (3, gi b), (4, gi s), (5, gi n), (6, gi t), (7, gi 0), (8, gi 0)]) dX9_mended_54 rfl rfl ?_
        have L56 : ∀ (n56 : Nat) (x : Int) (i : Int), (0 ≤ i ∧ i ≤ n) → (x = sm (fun k => if t < sLag f lr b s k then 1 else 0) i) → (n - i).toNat < n56 → V 0 0 [oM q a al at_ st so va fa pl sg su, gA cI (a 0) 1140 A, gA cZ (a 1) 2 kp, gA cI (a 2) 3 rf, gA cI (a 3) 6 lk_, gA cI (a 5) 60 sh, gA cI (a 12) 8 pi, gA cI (a 13) 8 th, gA cI (a 14) 8 fl, gA cI (a 15) 8 so_, gA cI (a 16) 8 fr, gA cI (a 17) 2048 le, gA cI (a 18) 41 g_47, gA cI (a 19) 112 bg] 56 [(0, .ref q), (1, gi f), (2, gi lr), (3, gi b), (4, gi s), (5, gi n), (6, gi t), (7, gi x), (8, gi i)] [] := by
          intro n56
          induction n56 with
          | zero => intro x i hi hx hn56; exact absurd hn56 (Nat.not_lt_zero _)
          | succ n56 ih56 =>
            intro x i hi hx hn56
            refine g_iload (pc := 56) X dX9_mended_56 8 rfl ?_
            refine g_iload (pc := 58) X dX9_mended_58 5 rfl ?_
            refine g_icmpge (pc := 60) X 91 dX9_mended_60 (by decide) (by omega) (by omega) (fun h60 => ?_) (fun h60 => ?_)
            · refine g_iload (pc := 91) X dX9_mended_91 7 rfl ?_
              exact ret _ _ _ _ _ _ dX9_mended_93 rfl rfl (fun h => by cases h) (gPxi_e _ (by rw [(show o_mend f lr b s n t = (sMend f lr b s n t, -1) from if_pos (by omega))]; rw [hx, show i = n by omega]; rfl) (by rw [(show o_mend f lr b s n t = (sMend f lr b s n t, -1) from if_pos (by omega))]; rfl) trivial)
            · refine g_iload (pc := 63) X dX9_mended_63 7 rfl ?_
              refine g_aload_n (pc := 65) X dX9_mended_65 0 rfl ?_
              refine g_get (pc := 66) X fl_X9_44 dX9_mended_66 0 (v := .ref (a 18)) rfl rfl ?_
              refine g_iload (pc := 69) X dX9_mended_69 8 rfl ?_
              refine g_iald (pc := 71) X dX9_mended_71 12 rfl (by omega) rfl ?_
              refine g_top (b := sLag f lr b s i) (hg_47 i hi.1 (by omega)) ?_
              have hbb := sLag_b (f := f) (l := lr) (b := b) (s := s) (n := i) (by omega) (by omega) (by omega) hi.1
              refine g_iload (pc := 72) X dX9_mended_72 6 rfl ?_
              refine g_icmple (pc := 74) X 81 dX9_mended_74 (by decide) (by omega) (by omega) (fun h74 => ?_) (fun h74 => ?_)
              · refine g_iconst (pc := 81) X dX9_mended_81 ?_
                refine g_iadd (pc := 82) X dX9_mended_82 ?_
                refine g_istore (pc := 83) X (lv' := [(0, .ref q), (1, gi f), (2, gi lr), (3, gi b), (4, gi s), (5, gi n), (6, gi t), (7, gi (x + 0)), (8, gi i)]) dX9_mended_83 rfl rfl ?_
                refine g_iinc (pc := 85) X (lv' := [(0, .ref q), (1, gi f), (2, gi lr), (3, gi b), (4, gi s), (5, gi n), (6, gi t), (7, gi (x + 0)), (8, gi (i + 1))]) dX9_mended_85 8 rfl rfl rfl ?_
                refine g_goto (pc := 88) X 56 dX9_mended_88 (by decide) ?_
                exact ih56 _ _ (by omega) (by rw [hx, sm_s hi.1]; (try dsimp only); first | rw [if_pos (by omega)] | rw [if_neg (by omega)]) (by omega)
              · refine g_iconst (pc := 77) X dX9_mended_77 ?_
                refine g_goto (pc := 78) X 82 dX9_mended_78 (by decide) ?_
                refine g_iadd (pc := 82) X dX9_mended_82 ?_
                refine g_istore (pc := 83) X (lv' := [(0, .ref q), (1, gi f), (2, gi lr), (3, gi b), (4, gi s), (5, gi n), (6, gi t), (7, gi (x + 1)), (8, gi i)]) dX9_mended_83 rfl rfl ?_
                refine g_iinc (pc := 85) X (lv' := [(0, .ref q), (1, gi f), (2, gi lr), (3, gi b), (4, gi s), (5, gi n), (6, gi t), (7, gi (x + 1)), (8, gi (i + 1))]) dX9_mended_85 8 rfl rfl rfl ?_
                refine g_goto (pc := 88) X 56 dX9_mended_88 (by decide) ?_
                exact ih56 _ _ (by omega) (by rw [hx, sm_s hi.1]; (try dsimp only); first | rw [if_pos (by omega)] | rw [if_neg (by omega)]) (by omega)
        exact L56 _ _ _ (by omega) (by rfl) (Nat.lt_succ_self _)
      · refine g_aload_n (pc := 34) X dX9_mended_34 0 rfl ?_
        refine g_bipush (pc := 35) X dX9_mended_35 (by decide +kernel) ?_
        refine gc_Vxi (pc := 37) X (wr := [gA cI (a 0) 1140 A, gA cZ (a 1) 2 kp, gA cI (a 3) 6 lk_, gA cI (a 5) 60 sh, gA cI (a 12) 8 pi, gA cI (a 13) 8 th, gA cI (a 14) 8 fl, gA cI (a 15) 8 so_, gA cI (a 16) 8 fr, gA cI (a 17) 2048 le, gA cI (a 18) 41 lg, gA cI (a 19) 112 bg]) (c_X9_refuse l D cI cZ q a al at_ st so va fa pl sg su rf (-2) (by omega)) lm_X9_54 dX9_mended_37 [0, 3] [1, 2, 4, 5, 6, 7, 8, 9, 10, 11, 12, 13] rfl rfl rfl rfl (by decide) rfl rfl rfl rfl rfl rfl (fun x37 hx37 => ?_)
        refine g_pick (cn := 0) (sl := 0) (st := gi (-2) :: []) X (ws' := [oM q a al at_ st so va fa pl sg su, gA cI (a 0) 1140 A, gA cZ (a 1) 2 kp, gA cI (a 2) 3 (gupd rf (-2 - (-2)) (rf (-2 - (-2)) + 1)), gA cI (a 3) 6 lk_, gA cI (a 5) 60 sh, gA cI (a 12) 8 pi, gA cI (a 13) 8 th, gA cI (a 14) 8 fl, gA cI (a 15) 8 so_, gA cI (a 16) 8 fr, gA cI (a 17) 2048 le, gA cI (a 18) 41 lg, gA cI (a 19) 112 bg]) [12, 0, 1, 13, 2, 3, 4, 5, 6, 7, 8, 9, 10, 11] rfl rfl ?_
        exact ret _ _ _ _ _ _ dX9_mended_40 rfl rfl (fun h => by cases h) (gPxi_e _ (by rw [(show o_mend f lr b s n t = (-2, 0) from if_neg (by omega))]) (by rw [(show o_mend f lr b s n t = (-2, 0) from if_neg (by omega))]; rfl) trivial)

set_option maxHeartbeats 4000000 in
set_option maxRecDepth 100000 in
theorem c_X9_steady (l : Launch) (D : va_G) (cI cZ : ClassId) (q : Nat) (a : Nat → Nat) (al : Int) (at_ : Int) (st : Int) (so : Int) (va : Int) (fa : Int) (pl : Int) (sg : Int) (su : Int) (A : Int → Int) (kp : Int → Int) (rf : Int → Int) (lk_ : Int → Int) (sh : Int → Int) (pi : Int → Int) (th : Int → Int) (fl : Int → Int) (so_ : Int → Int) (fr : Int → Int) (le : Int → Int) (lg : Int → Int) (bg : Int → Int) (f : Int) (lr : Int) (b : Int) (s : Int) (t : Int) (hA : okA A) (hf : -2147483648 ≤ f ∧ f < 2147483648) (hlr : -2147483648 ≤ lr ∧ lr < 2147483648) (hb : -2147483648 ≤ b ∧ b < 2147483648) (hs : -2147483648 ≤ s ∧ s < 2147483648) (ht : -2147483648 ≤ t ∧ t < 2147483648) : GM l D cI cZ yX9_steady cX9_steady 8 (some .int) ({ frames := 2, cells := 0, slots := 0, locals := 46 }) 0 0 false [.ref q, gi f, gi lr, gi b, gi s, gi t] [oM q a al at_ st so va fa pl sg su, gA cI (a 0) 1140 A, gA cZ (a 1) 2 kp, gA cI (a 2) 3 rf, gA cI (a 3) 6 lk_, gA cI (a 5) 60 sh, gA cI (a 12) 8 pi, gA cI (a 13) 8 th, gA cI (a 14) 8 fl, gA cI (a 15) 8 so_, gA cI (a 16) 8 fr, gA cI (a 17) 2048 le, gA cI (a 18) 41 lg, gA cI (a 19) 112 bg] (gPxi (fun xo : (Int → Int) => (o_steady f lr b s t).1) (fun xo : (Int → Int) => [oM q a al at_ st so va fa pl sg su, gA cI (a 0) 1140 A, gA cZ (a 1) 2 kp, gA cI (a 2) 3 (bump ((o_steady f lr b s t).2) rf), gA cI (a 3) 6 lk_, gA cI (a 5) 60 sh, gA cI (a 12) 8 pi, gA cI (a 13) 8 th, gA cI (a 14) 8 fl, gA cI (a 15) 8 so_, gA cI (a 16) 8 fr, gA cI (a 17) 2048 le, gA cI (a 18) 41 xo, gA cI (a 19) 112 bg]) (fun xo : (Int → Int) => True)) := by
  refine g_enterI (z := false) (lv0 := [(0, .ref q), (1, gi f), (2, gi lr), (3, gi b), (4, gi s), (5, gi t)]) _ rfl (by decide) rfl rfl (fun V X ret => ?_)
  have hA1 := okA_1 hA
  have hA0 := okA_0 hA
  have hpu := okA_pu hA
  refine g_aload_n (pc := 0) X dX9_steady_0 0 rfl ?_
  refine g_iload_n (pc := 1) X dX9_steady_1 1 rfl ?_
  refine g_iload_n (pc := 2) X dX9_steady_2 2 rfl ?_
  refine g_iload_n (pc := 3) X dX9_steady_3 3 rfl ?_
  refine g_iload (pc := 4) X dX9_steady_4 4 rfl ?_
  refine gc_Vi (pc := 6) X (c_X9_isWalker l D cI cZ q a al at_ st so va fa pl sg su f lr b s (by omega) (by omega) (by omega) (by omega)) lm_X9_181 dX9_steady_6 [0] rfl rfl rfl rfl rfl rfl rfl rfl ?_
  refine g_ifeqB (pc := 9) X 23 dX9_steady_9 (by decide) (fun h9 => ?_) (fun h9 => ?_)
  · refine g_aload_n (pc := 23) X dX9_steady_23 0 rfl ?_
    refine g_bipush (pc := 24) X dX9_steady_24 (by decide +kernel) ?_
    refine gc_Vxi (pc := 26) X (wr := [gA cI (a 0) 1140 A, gA cZ (a 1) 2 kp, gA cI (a 3) 6 lk_, gA cI (a 5) 60 sh, gA cI (a 12) 8 pi, gA cI (a 13) 8 th, gA cI (a 14) 8 fl, gA cI (a 15) 8 so_, gA cI (a 16) 8 fr, gA cI (a 17) 2048 le, gA cI (a 18) 41 lg, gA cI (a 19) 112 bg]) (c_X9_refuse l D cI cZ q a al at_ st so va fa pl sg su rf (-2) (by omega)) lm_X9_54 dX9_steady_26 [0, 3] [1, 2, 4, 5, 6, 7, 8, 9, 10, 11, 12, 13] rfl rfl rfl rfl (by decide) rfl rfl rfl rfl rfl rfl (fun x26 hx26 => ?_)
    refine g_pick (cn := 0) (sl := 0) (st := gi (-2) :: []) X (ws' := [oM q a al at_ st so va fa pl sg su, gA cI (a 0) 1140 A, gA cZ (a 1) 2 kp, gA cI (a 2) 3 (gupd rf (-2 - (-2)) (rf (-2 - (-2)) + 1)), gA cI (a 3) 6 lk_, gA cI (a 5) 60 sh, gA cI (a 12) 8 pi, gA cI (a 13) 8 th, gA cI (a 14) 8 fl, gA cI (a 15) 8 so_, gA cI (a 16) 8 fr, gA cI (a 17) 2048 le, gA cI (a 18) 41 lg, gA cI (a 19) 112 bg]) [12, 0, 1, 13, 2, 3, 4, 5, 6, 7, 8, 9, 10, 11] rfl rfl ?_
    exact ret _ _ _ _ _ _ dX9_steady_29 rfl rfl (fun h => by cases h) (gPxi_e _ (by rw [(show o_steady f lr b s t = (-2, 0) from if_neg (by omega))]) (by rw [(show o_steady f lr b s t = (-2, 0) from if_neg (by omega))]; rfl) trivial)
  · refine g_iload (pc := 12) X dX9_steady_12 5 rfl ?_
    refine g_iconst (pc := 14) X dX9_steady_14 ?_
    refine g_bipush (pc := 15) X dX9_steady_15 (by decide +kernel) ?_
    refine gc_Si (pc := 17) X (c_X9_in l D cI cZ t 0 99 (by omega) (by omega) (by omega)) lm_X9_50 dX9_steady_17 [] rfl rfl rfl rfl rfl rfl ?_
    refine g_ifneB (pc := 20) X 30 dX9_steady_20 (by decide) (fun h20 => ?_) (fun h20 => ?_)
    · refine g_aload_n (pc := 30) X dX9_steady_30 0 rfl ?_
      refine g_iload_n (pc := 31) X dX9_steady_31 1 rfl ?_
      refine g_iload_n (pc := 32) X dX9_steady_32 2 rfl ?_
      refine g_iload_n (pc := 33) X dX9_steady_33 3 rfl ?_
      refine g_iload (pc := 34) X dX9_steady_34 4 rfl ?_
      refine gc_Vxv (pc := 36) X (wr := [gA cI (a 0) 1140 A, gA cZ (a 1) 2 kp, gA cI (a 2) 3 rf, gA cI (a 3) 6 lk_, gA cI (a 5) 60 sh, gA cI (a 12) 8 pi, gA cI (a 13) 8 th, gA cI (a 14) 8 fl, gA cI (a 15) 8 so_, gA cI (a 16) 8 fr, gA cI (a 17) 2048 le, gA cI (a 19) 112 bg]) (c_X9_walk l D cI cZ q a al at_ st so va fa pl sg su lg f lr b s (by omega)) lm_X9_185 dX9_steady_36 [0, 12] [1, 2, 3, 4, 5, 6, 7, 8, 9, 10, 11, 13] rfl rfl rfl rfl (by decide) rfl rfl rfl rfl rfl rfl (fun x36 hx36 => ?_)
      generalize x36 = g_36 at hx36 ⊢
      have hg_36 : ∀ kk, 0 ≤ kk → kk < 41 → g_36 kk = sLag f lr b s kk := hx36
      refine g_pick (cn := 0) (sl := 0) (st := []) X (ws' := [oM q a al at_ st so va fa pl sg su, gA cI (a 0) 1140 A, gA cZ (a 1) 2 kp, gA cI (a 2) 3 rf, gA cI (a 3) 6 lk_, gA cI (a 5) 60 sh, gA cI (a 12) 8 pi, gA cI (a 13) 8 th, gA cI (a 14) 8 fl, gA cI (a 15) 8 so_, gA cI (a 16) 8 fr, gA cI (a 17) 2048 le, gA cI (a 18) 41 g_36, gA cI (a 19) 112 bg]) [12, 0, 1, 2, 3, 4, 5, 6, 7, 8, 9, 10, 13, 11] rfl rfl ?_
      refine g_iconst (pc := 39) X dX9_steady_39 ?_
      refine g_istore (pc := 40) X (lv' := [(0, .ref q), (1, gi f), (2, gi lr), (3, gi b), (4, gi s), (5, gi t), (6, gi (-1))]) dX9_steady_40 rfl rfl ?_
      refine g_bipush (pc := 42) X dX9_steady_42 (by decide +kernel) ?_
      refine g_istore (pc := 44) X (lv' := [(0, .ref q), (1, gi f), (2, gi lr), (3, gi b), (4, gi s), (5, gi t), (6, gi (-1)), (7, gi 39)]) dX9_steady_44 rfl rfl ?_
      have L46 : ∀ (n46 : Nat) (x : Int) (i : Int), (-1 ≤ i ∧ i ≤ 39) → ((i = 39 ∧ x = -1) ∨ (i < 39 ∧ x = i + 1)) → (sFrom f lr b s t 40 = sFrom f lr b s t (i + 1)) → (i + 1).toNat < n46 → V 0 0 [oM q a al at_ st so va fa pl sg su, gA cI (a 0) 1140 A, gA cZ (a 1) 2 kp, gA cI (a 2) 3 rf, gA cI (a 3) 6 lk_, gA cI (a 5) 60 sh, gA cI (a 12) 8 pi, gA cI (a 13) 8 th, gA cI (a 14) 8 fl, gA cI (a 15) 8 so_, gA cI (a 16) 8 fr, gA cI (a 17) 2048 le, gA cI (a 18) 41 g_36, gA cI (a 19) 112 bg] 46 [(0, .ref q), (1, gi f), (2, gi lr), (3, gi b), (4, gi s), (5, gi t), (6, gi x), (7, gi i)] [] := by
        intro n46
        induction n46 with
        | zero => intro x i hi hxi hx hn46; exact absurd hn46 (Nat.not_lt_zero _)
        | succ n46 ih46 =>
          intro x i hi hxi hx hn46
          refine g_iload (pc := 46) X dX9_steady_46 7 rfl ?_
          refine g_iflt (pc := 48) X 73 dX9_steady_48 (by decide) (by omega) (fun h48 => ?_) (fun h48 => ?_)
          · refine g_iload (pc := 73) X dX9_steady_73 6 rfl ?_
            exact ret _ _ _ _ _ _ dX9_steady_75 rfl rfl (fun h => by cases h) (gPxi_e _ (by (have hz : sFrom f lr b s t 40 = i + 1 := (by rw [hx]; first | rw [sFrom_s (by omega), if_pos h60] | (rw [show i + 1 = 0 by omega]; exact sFrom_0))); rw [(show o_steady f lr b s t = (if sFrom f lr b s t 40 < 40 then sFrom f lr b s t 40 else -1, -1) from if_pos (by omega))]; (try dsimp only); rw [hz]; split <;> omega) (by rw [(show o_steady f lr b s t = (if sFrom f lr b s t 40 < 40 then sFrom f lr b s t 40 else -1, -1) from if_pos (by omega))]; rfl) trivial)
          · refine g_aload_n (pc := 51) X dX9_steady_51 0 rfl ?_
            refine g_get (pc := 52) X fl_X9_44 dX9_steady_52 0 (v := .ref (a 18)) rfl rfl ?_
            refine g_iload (pc := 55) X dX9_steady_55 7 rfl ?_
            refine g_iald (pc := 57) X dX9_steady_57 12 rfl (by omega) rfl ?_
            refine g_top (b := sLag f lr b s i) (hg_36 i (by omega) (by omega)) ?_
            have hbb := sLag_b (f := f) (l := lr) (b := b) (s := s) (n := i) (by omega) (by omega) (by omega) (by omega)
            refine g_iload (pc := 58) X dX9_steady_58 5 rfl ?_
            refine g_icmpgt (pc := 60) X 73 dX9_steady_60 (by decide) (by omega) (by omega) (fun h60 => ?_) (fun h60 => ?_)
            · refine g_iload (pc := 73) X dX9_steady_73 6 rfl ?_
              exact ret _ _ _ _ _ _ dX9_steady_75 rfl rfl (fun h => by cases h) (gPxi_e _ (by (have hz : sFrom f lr b s t 40 = i + 1 := (by rw [hx]; first | rw [sFrom_s (by omega), if_pos h60] | (rw [show i + 1 = 0 by omega]; exact sFrom_0))); rw [(show o_steady f lr b s t = (if sFrom f lr b s t 40 < 40 then sFrom f lr b s t 40 else -1, -1) from if_pos (by omega))]; (try dsimp only); rw [hz]; split <;> omega) (by rw [(show o_steady f lr b s t = (if sFrom f lr b s t 40 < 40 then sFrom f lr b s t 40 else -1, -1) from if_pos (by omega))]; rfl) trivial)
            · refine g_iload (pc := 63) X dX9_steady_63 7 rfl ?_
              refine g_istore (pc := 65) X (lv' := [(0, .ref q), (1, gi f), (2, gi lr), (3, gi b), (4, gi s), (5, gi t), (6, gi i), (7, gi i)]) dX9_steady_65 rfl rfl ?_
              refine g_iinc (pc := 67) X (lv' := [(0, .ref q), (1, gi f), (2, gi lr), (3, gi b), (4, gi s), (5, gi t), (6, gi i), (7, gi (i + (-1)))]) dX9_steady_67 7 rfl rfl rfl ?_
              refine g_goto (pc := 70) X 46 dX9_steady_70 (by decide) ?_
              exact ih46 _ _ (by omega) (by omega) (by rw [hx, sFrom_s (by omega), if_neg (by omega)]; exact congrArg _ (by omega)) (by omega)
      exact L46 _ _ _ (by omega) (by omega) (by rfl) (Nat.lt_succ_self _)
    · refine g_aload_n (pc := 23) X dX9_steady_23 0 rfl ?_
      refine g_bipush (pc := 24) X dX9_steady_24 (by decide +kernel) ?_
      refine gc_Vxi (pc := 26) X (wr := [gA cI (a 0) 1140 A, gA cZ (a 1) 2 kp, gA cI (a 3) 6 lk_, gA cI (a 5) 60 sh, gA cI (a 12) 8 pi, gA cI (a 13) 8 th, gA cI (a 14) 8 fl, gA cI (a 15) 8 so_, gA cI (a 16) 8 fr, gA cI (a 17) 2048 le, gA cI (a 18) 41 lg, gA cI (a 19) 112 bg]) (c_X9_refuse l D cI cZ q a al at_ st so va fa pl sg su rf (-2) (by omega)) lm_X9_54 dX9_steady_26 [0, 3] [1, 2, 4, 5, 6, 7, 8, 9, 10, 11, 12, 13] rfl rfl rfl rfl (by decide) rfl rfl rfl rfl rfl rfl (fun x26 hx26 => ?_)
      refine g_pick (cn := 0) (sl := 0) (st := gi (-2) :: []) X (ws' := [oM q a al at_ st so va fa pl sg su, gA cI (a 0) 1140 A, gA cZ (a 1) 2 kp, gA cI (a 2) 3 (gupd rf (-2 - (-2)) (rf (-2 - (-2)) + 1)), gA cI (a 3) 6 lk_, gA cI (a 5) 60 sh, gA cI (a 12) 8 pi, gA cI (a 13) 8 th, gA cI (a 14) 8 fl, gA cI (a 15) 8 so_, gA cI (a 16) 8 fr, gA cI (a 17) 2048 le, gA cI (a 18) 41 lg, gA cI (a 19) 112 bg]) [12, 0, 1, 13, 2, 3, 4, 5, 6, 7, 8, 9, 10, 11] rfl rfl ?_
      exact ret _ _ _ _ _ _ dX9_steady_29 rfl rfl (fun h => by cases h) (gPxi_e _ (by rw [(show o_steady f lr b s t = (-2, 0) from if_neg (by omega))]) (by rw [(show o_steady f lr b s t = (-2, 0) from if_neg (by omega))]; rfl) trivial)

set_option maxHeartbeats 4000000 in
set_option maxRecDepth 100000 in
theorem c_X9_copyAll (l : Launch) (D : va_G) (cI cZ : ClassId) (q : Nat) (a : Nat → Nat) (al : Int) (at_ : Int) (st : Int) (so : Int) (va : Int) (fa : Int) (pl : Int) (sg : Int) (su : Int) (A : Int → Int) (f : Int) (t : Int) (hf : 0 ≤ f ∧ f ≤ 2) (ht : 0 ≤ t ∧ t ≤ 2) (hft : f ≠ t) : GM l D cI cZ yX9_copyAll cX9_copyAll 4 none ({ frames := 0, cells := 0, slots := 0, locals := 0 }) 0 0 false [.ref q, gi f, gi t] [oM q a al at_ st so va fa pl sg su, gA cI (a 0) 1140 A] (gPxv (fun xo : Unit => [oM q a al at_ st so va fa pl sg su, gA cI (a 0) 1140 (cpA A f t)]) (fun xo : Unit => True)) := by
  refine g_enterV (lv0 := [(0, .ref q), (1, gi f), (2, gi t)]) (by decide) rfl rfl (fun V X ret => ?_)
  refine g_iconst (pc := 0) X dX9_copyAll_0 ?_
  refine g_istore_n (pc := 1) X (lv' := [(0, .ref q), (1, gi f), (2, gi t), (3, gi 0)]) dX9_copyAll_1 rfl rfl ?_
  have L2 : ∀ (n2 : Nat) (i : Int) (g : Int → Int), (0 ≤ i ∧ i ≤ 380) → (fil (380 * t) 380 i (fun z => A (380 * f + z)) A g) → (380 - i).toNat < n2 → V 0 0 [oM q a al at_ st so va fa pl sg su, gA cI (a 0) 1140 g] 2 [(0, .ref q), (1, gi f), (2, gi t), (3, gi i)] [] := by
    intro n2
    induction n2 with
    | zero => intro i g hi hg hn2; exact absurd hn2 (Nat.not_lt_zero _)
    | succ n2 ih2 =>
      intro i g hi hg hn2
      refine g_iload_n (pc := 2) X dX9_copyAll_2 3 rfl ?_
      refine g_sipush (pc := 3) X dX9_copyAll_3 (by decide +kernel) ?_
      refine g_icmpge (pc := 6) X 39 dX9_copyAll_6 (by decide) (by omega) (by omega) (fun h6 => ?_) (fun h6 => ?_)
      · exact ret _ _ _ _ _ dX9_copyAll_39 rfl rfl (gPxv_e () (by rw [show i = 380 by omega] at hg; rw [fil_fun hg]; rfl) trivial)
      · refine g_aload_n (pc := 9) X dX9_copyAll_9 0 rfl ?_
        refine g_get (pc := 10) X fl_X9_7 dX9_copyAll_10 0 (v := .ref (a 0)) rfl rfl ?_
        refine g_sipush (pc := 13) X dX9_copyAll_13 (by decide +kernel) ?_
        refine g_iload_n (pc := 16) X dX9_copyAll_16 2 rfl ?_
        refine g_imul (pc := 17) X dX9_copyAll_17 ?_
        refine g_iload_n (pc := 18) X dX9_copyAll_18 3 rfl ?_
        refine g_iadd (pc := 19) X dX9_copyAll_19 ?_
        refine g_aload_n (pc := 20) X dX9_copyAll_20 0 rfl ?_
        refine g_get (pc := 21) X fl_X9_7 dX9_copyAll_21 0 (v := .ref (a 0)) rfl rfl ?_
        refine g_sipush (pc := 24) X dX9_copyAll_24 (by decide +kernel) ?_
        refine g_iload_n (pc := 27) X dX9_copyAll_27 1 rfl ?_
        refine g_imul (pc := 28) X dX9_copyAll_28 ?_
        refine g_iload_n (pc := 29) X dX9_copyAll_29 3 rfl ?_
        refine g_iadd (pc := 30) X dX9_copyAll_30 ?_
        refine g_iald (pc := 31) X dX9_copyAll_31 1 rfl (by omega) rfl ?_
        refine g_top (b := A (380 * f + i)) (hg.2 _ (by omega)) ?_
        refine g_iast (pc := 32) X (ws' := [oM q a al at_ st so va fa pl sg su, gA cI (a 0) 1140 (gupd g (380 * t + i) (A (380 * f + i)))]) dX9_copyAll_32 1 rfl (by omega) rfl rfl ?_
        refine g_iinc (pc := 33) X (lv' := [(0, .ref q), (1, gi f), (2, gi t), (3, gi (i + 1))]) dX9_copyAll_33 3 rfl rfl rfl ?_
        refine g_goto (pc := 36) X 2 dX9_copyAll_36 (by decide) ?_
        exact ih2 _ _ (by omega) (fil_s hg (by omega) (by omega) rfl) (by omega)
  exact L2 _ _ _ (by omega) fil_0 (Nat.lt_succ_self _)

set_option maxHeartbeats 4000000 in
set_option maxRecDepth 100000 in
theorem c_X9_image (l : Launch) (D : va_G) (cI cZ : ClassId) (q : Nat) (a : Nat → Nat) (al : Int) (at_ : Int) (st : Int) (so : Int) (va : Int) (fa : Int) (pl : Int) (sg : Int) (su : Int) (A : Int → Int) (kp : Int → Int) (rf : Int → Int) (lk_ : Int → Int) (sh : Int → Int) (pi : Int → Int) (th : Int → Int) (fl : Int → Int) (so_ : Int → Int) (fr : Int → Int) (le : Int → Int) (lg : Int → Int) (bg : Int → Int) (i : Int) (hA : okA A) (hi : -2147483648 ≤ i ∧ i < 2147483648) : GM l D cI cZ yX9_image cX9_image 2 (some .int) ({ frames := 1, cells := 0, slots := 0, locals := 23 }) 0 0 false [.ref q, gi i] [oM q a al at_ st so va fa pl sg su, gA cI (a 0) 1140 A, gA cZ (a 1) 2 kp, gA cI (a 2) 3 rf, gA cI (a 3) 6 lk_, gA cI (a 5) 60 sh, gA cI (a 12) 8 pi, gA cI (a 13) 8 th, gA cI (a 14) 8 fl, gA cI (a 15) 8 so_, gA cI (a 16) 8 fr, gA cI (a 17) 2048 le, gA cI (a 18) 41 lg, gA cI (a 19) 112 bg] (gPxi (fun xo : Unit => (o_image A kp i).1) (fun xo : Unit => [oM q a al at_ st so va fa pl sg su, gA cI (a 0) 1140 ((o_image A kp i).2.2.1), gA cZ (a 1) 2 ((o_image A kp i).2.2.2), gA cI (a 2) 3 (bump (o_image A kp i).2.1 rf), gA cI (a 3) 6 lk_, gA cI (a 5) 60 sh, gA cI (a 12) 8 pi, gA cI (a 13) 8 th, gA cI (a 14) 8 fl, gA cI (a 15) 8 so_, gA cI (a 16) 8 fr, gA cI (a 17) 2048 le, gA cI (a 18) 41 lg, gA cI (a 19) 112 bg]) (fun xo : Unit => True)) := by
  refine g_enterI (z := false) (lv0 := [(0, .ref q), (1, gi i)]) _ rfl (by decide) rfl rfl (fun V X ret => ?_)
  have hA1 := okA_1 hA
  have hA0 := okA_0 hA
  have hpu := okA_pu hA
  refine g_iload_n (pc := 0) X dX9_image_0 1 rfl ?_
  refine g_iconst (pc := 1) X dX9_image_1 ?_
  refine g_iconst (pc := 2) X dX9_image_2 ?_
  refine gc_Si (pc := 3) X (c_X9_in l D cI cZ i 0 1 (by omega) (by omega) (by omega)) lm_X9_50 dX9_image_3 [] rfl rfl rfl rfl rfl rfl ?_
  refine g_ifneB (pc := 6) X 16 dX9_image_6 (by decide) (fun h6 => ?_) (fun h6 => ?_)
  · refine g_aload_n (pc := 16) X dX9_image_16 0 rfl ?_
    refine g_iconst (pc := 17) X dX9_image_17 ?_
    refine g_iconst (pc := 18) X dX9_image_18 ?_
    refine g_iload_n (pc := 19) X dX9_image_19 1 rfl ?_
    refine g_iadd (pc := 20) X dX9_image_20 ?_
    refine gc_Vxv (pc := 21) X (wr := [gA cZ (a 1) 2 kp, gA cI (a 2) 3 rf, gA cI (a 3) 6 lk_, gA cI (a 5) 60 sh, gA cI (a 12) 8 pi, gA cI (a 13) 8 th, gA cI (a 14) 8 fl, gA cI (a 15) 8 so_, gA cI (a 16) 8 fr, gA cI (a 17) 2048 le, gA cI (a 18) 41 lg, gA cI (a 19) 112 bg]) (c_X9_copyAll l D cI cZ q a al at_ st so va fa pl sg su A 0 (1 + i) (by omega) (by omega) (by omega)) lm_X9_232 dX9_image_21 [0, 1] [2, 3, 4, 5, 6, 7, 8, 9, 10, 11, 12, 13] rfl rfl rfl rfl (by decide) rfl rfl rfl rfl rfl rfl (fun x21 hx21 => ?_)
    refine g_pick (cn := 0) (sl := 0) (st := []) X (ws' := [oM q a al at_ st so va fa pl sg su, gA cI (a 0) 1140 (cpA A 0 (1 + i)), gA cZ (a 1) 2 kp, gA cI (a 2) 3 rf, gA cI (a 3) 6 lk_, gA cI (a 5) 60 sh, gA cI (a 12) 8 pi, gA cI (a 13) 8 th, gA cI (a 14) 8 fl, gA cI (a 15) 8 so_, gA cI (a 16) 8 fr, gA cI (a 17) 2048 le, gA cI (a 18) 41 lg, gA cI (a 19) 112 bg]) [12, 13, 0, 1, 2, 3, 4, 5, 6, 7, 8, 9, 10, 11] rfl rfl ?_
    refine g_aload_n (pc := 24) X dX9_image_24 0 rfl ?_
    refine g_get (pc := 25) X fl_X9_13 dX9_image_25 0 (v := .ref (a 1)) rfl rfl ?_
    refine g_iload_n (pc := 28) X dX9_image_28 1 rfl ?_
    refine g_iconst (pc := 29) X dX9_image_29 ?_
    refine g_zast (pc := 30) X (ws' := [oM q a al at_ st so va fa pl sg su, gA cI (a 0) 1140 (cpA A 0 (1 + i)), gA cZ (a 1) 2 (gupd kp i 1), gA cI (a 2) 3 rf, gA cI (a 3) 6 lk_, gA cI (a 5) 60 sh, gA cI (a 12) 8 pi, gA cI (a 13) 8 th, gA cI (a 14) 8 fl, gA cI (a 15) 8 so_, gA cI (a 16) 8 fr, gA cI (a 17) 2048 le, gA cI (a 18) 41 lg, gA cI (a 19) 112 bg]) dX9_image_30 2 rfl (by omega) rfl rfl rfl ?_
    refine g_iconst (pc := 31) X dX9_image_31 ?_
    exact ret _ _ _ _ _ _ dX9_image_32 rfl rfl (fun h => by cases h) (gPxi_e () (by rw [(show o_image A kp i = (1, -1, cpA A 0 (1 + i), gupd kp i 1) from if_pos (by omega))]) (by rw [(show o_image A kp i = (1, -1, cpA A 0 (1 + i), gupd kp i 1) from if_pos (by omega))]; rfl) trivial)
  · refine g_aload_n (pc := 9) X dX9_image_9 0 rfl ?_
    refine g_bipush (pc := 10) X dX9_image_10 (by decide +kernel) ?_
    refine gc_Vxi (pc := 12) X (wr := [gA cI (a 0) 1140 A, gA cZ (a 1) 2 kp, gA cI (a 3) 6 lk_, gA cI (a 5) 60 sh, gA cI (a 12) 8 pi, gA cI (a 13) 8 th, gA cI (a 14) 8 fl, gA cI (a 15) 8 so_, gA cI (a 16) 8 fr, gA cI (a 17) 2048 le, gA cI (a 18) 41 lg, gA cI (a 19) 112 bg]) (c_X9_refuse l D cI cZ q a al at_ st so va fa pl sg su rf (-2) (by omega)) lm_X9_54 dX9_image_12 [0, 3] [1, 2, 4, 5, 6, 7, 8, 9, 10, 11, 12, 13] rfl rfl rfl rfl (by decide) rfl rfl rfl rfl rfl rfl (fun x12 hx12 => ?_)
    refine g_pick (cn := 0) (sl := 0) (st := gi (-2) :: []) X (ws' := [oM q a al at_ st so va fa pl sg su, gA cI (a 0) 1140 A, gA cZ (a 1) 2 kp, gA cI (a 2) 3 (gupd rf (-2 - (-2)) (rf (-2 - (-2)) + 1)), gA cI (a 3) 6 lk_, gA cI (a 5) 60 sh, gA cI (a 12) 8 pi, gA cI (a 13) 8 th, gA cI (a 14) 8 fl, gA cI (a 15) 8 so_, gA cI (a 16) 8 fr, gA cI (a 17) 2048 le, gA cI (a 18) 41 lg, gA cI (a 19) 112 bg]) [12, 0, 1, 13, 2, 3, 4, 5, 6, 7, 8, 9, 10, 11] rfl rfl ?_
    exact ret _ _ _ _ _ _ dX9_image_15 rfl rfl (fun h => by cases h) (gPxi_e () (by rw [(show o_image A kp i = (-2, 0, A, kp) from if_neg (by omega))]) (by rw [(show o_image A kp i = (-2, 0, A, kp) from if_neg (by omega))]; rfl) trivial)

set_option maxHeartbeats 4000000 in
set_option maxRecDepth 100000 in
theorem c_X9_from (l : Launch) (D : va_G) (cI cZ : ClassId) (q : Nat) (a : Nat → Nat) (al : Int) (at_ : Int) (st : Int) (so : Int) (va : Int) (fa : Int) (pl : Int) (sg : Int) (su : Int) (A : Int → Int) (kp : Int → Int) (rf : Int → Int) (lk_ : Int → Int) (sh : Int → Int) (pi : Int → Int) (th : Int → Int) (fl : Int → Int) (so_ : Int → Int) (fr : Int → Int) (le : Int → Int) (lg : Int → Int) (bg : Int → Int) (i : Int) (hA : okA A) (hi : -2147483648 ≤ i ∧ i < 2147483648) (hkp : ∀ j, 0 ≤ j → j < 2 → kp j = 0 ∨ kp j = 1) : GM l D cI cZ yX9_from cX9_from 2 (some .int) ({ frames := 1, cells := 0, slots := 0, locals := 23 }) 0 0 false [.ref q, gi i] [oM q a al at_ st so va fa pl sg su, gA cI (a 0) 1140 A, gA cZ (a 1) 2 kp, gA cI (a 2) 3 rf, gA cI (a 3) 6 lk_, gA cI (a 5) 60 sh, gA cI (a 12) 8 pi, gA cI (a 13) 8 th, gA cI (a 14) 8 fl, gA cI (a 15) 8 so_, gA cI (a 16) 8 fr, gA cI (a 17) 2048 le, gA cI (a 18) 41 lg, gA cI (a 19) 112 bg] (gPxi (fun xo : Unit => (o_from A kp i).1) (fun xo : Unit => [oM q a al at_ st so va fa pl sg su, gA cI (a 0) 1140 ((o_from A kp i).2.2), gA cZ (a 1) 2 kp, gA cI (a 2) 3 (bump (o_from A kp i).2.1 rf), gA cI (a 3) 6 lk_, gA cI (a 5) 60 sh, gA cI (a 12) 8 pi, gA cI (a 13) 8 th, gA cI (a 14) 8 fl, gA cI (a 15) 8 so_, gA cI (a 16) 8 fr, gA cI (a 17) 2048 le, gA cI (a 18) 41 lg, gA cI (a 19) 112 bg]) (fun xo : Unit => True)) := by
  refine g_enterI (z := false) (lv0 := [(0, .ref q), (1, gi i)]) _ rfl (by decide) rfl rfl (fun V X ret => ?_)
  have hA1 := okA_1 hA
  have hA0 := okA_0 hA
  have hpu := okA_pu hA
  refine g_iload_n (pc := 0) X dX9_from_0 1 rfl ?_
  refine g_iconst (pc := 1) X dX9_from_1 ?_
  refine g_iconst (pc := 2) X dX9_from_2 ?_
  refine gc_Si (pc := 3) X (c_X9_in l D cI cZ i 0 1 (by omega) (by omega) (by omega)) lm_X9_50 dX9_from_3 [] rfl rfl rfl rfl rfl rfl ?_
  refine g_ifeqB (pc := 6) X 18 dX9_from_6 (by decide) (fun h6 => ?_) (fun h6 => ?_)
  · refine g_aload_n (pc := 18) X dX9_from_18 0 rfl ?_
    refine g_iload_n (pc := 19) X dX9_from_19 1 rfl ?_
    refine g_iconst (pc := 20) X dX9_from_20 ?_
    refine g_iconst (pc := 21) X dX9_from_21 ?_
    refine gc_Si (pc := 22) X (c_X9_in l D cI cZ i 0 1 (by omega) (by omega) (by omega)) lm_X9_50 dX9_from_22 [] rfl rfl rfl rfl rfl rfl ?_
    refine g_ifeqB (pc := 25) X 33 dX9_from_25 (by decide) (fun h25 => ?_) (fun h25 => absurd h25 (by omega))
    refine g_bipush (pc := 33) X dX9_from_33 (by decide +kernel) ?_
    refine gc_Vxi (pc := 35) X (wr := [gA cI (a 0) 1140 A, gA cZ (a 1) 2 kp, gA cI (a 3) 6 lk_, gA cI (a 5) 60 sh, gA cI (a 12) 8 pi, gA cI (a 13) 8 th, gA cI (a 14) 8 fl, gA cI (a 15) 8 so_, gA cI (a 16) 8 fr, gA cI (a 17) 2048 le, gA cI (a 18) 41 lg, gA cI (a 19) 112 bg]) (c_X9_refuse l D cI cZ q a al at_ st so va fa pl sg su rf (-2) (by omega)) lm_X9_54 dX9_from_35 [0, 3] [1, 2, 4, 5, 6, 7, 8, 9, 10, 11, 12, 13] rfl rfl rfl rfl (by decide) rfl rfl rfl rfl rfl rfl (fun x35 hx35 => ?_)
    refine g_pick (cn := 0) (sl := 0) (st := gi (-2) :: []) X (ws' := [oM q a al at_ st so va fa pl sg su, gA cI (a 0) 1140 A, gA cZ (a 1) 2 kp, gA cI (a 2) 3 (gupd rf (-2 - (-2)) (rf (-2 - (-2)) + 1)), gA cI (a 3) 6 lk_, gA cI (a 5) 60 sh, gA cI (a 12) 8 pi, gA cI (a 13) 8 th, gA cI (a 14) 8 fl, gA cI (a 15) 8 so_, gA cI (a 16) 8 fr, gA cI (a 17) 2048 le, gA cI (a 18) 41 lg, gA cI (a 19) 112 bg]) [12, 0, 1, 13, 2, 3, 4, 5, 6, 7, 8, 9, 10, 11] rfl rfl ?_
    exact ret _ _ _ _ _ _ dX9_from_38 rfl rfl (fun h => by cases h) (gPxi_e () (by rw [(show o_from A kp i = (-2, 0, A) from if_neg (by omega))]) (by rw [(show o_from A kp i = (-2, 0, A) from if_neg (by omega))]; rfl) trivial)
  · refine g_aload_n (pc := 9) X dX9_from_9 0 rfl ?_
    refine g_get (pc := 10) X fl_X9_13 dX9_from_10 0 (v := .ref (a 1)) rfl rfl ?_
    refine g_iload_n (pc := 13) X dX9_from_13 1 rfl ?_
    refine g_zald (pc := 14) X dX9_from_14 2 rfl (by omega) rfl ?_
    have hk := hkp i (by omega) (by omega)
    refine g_ifne (pc := 15) X 39 dX9_from_15 (by decide) (by omega) (fun h15 => ?_) (fun h15 => ?_)
    · refine g_aload_n (pc := 39) X dX9_from_39 0 rfl ?_
      refine g_iconst (pc := 40) X dX9_from_40 ?_
      refine g_iload_n (pc := 41) X dX9_from_41 1 rfl ?_
      refine g_iadd (pc := 42) X dX9_from_42 ?_
      refine g_iconst (pc := 43) X dX9_from_43 ?_
      refine gc_Vxv (pc := 44) X (wr := [gA cZ (a 1) 2 kp, gA cI (a 2) 3 rf, gA cI (a 3) 6 lk_, gA cI (a 5) 60 sh, gA cI (a 12) 8 pi, gA cI (a 13) 8 th, gA cI (a 14) 8 fl, gA cI (a 15) 8 so_, gA cI (a 16) 8 fr, gA cI (a 17) 2048 le, gA cI (a 18) 41 lg, gA cI (a 19) 112 bg]) (c_X9_copyAll l D cI cZ q a al at_ st so va fa pl sg su A (1 + i) 0 (by omega) (by omega) (by omega)) lm_X9_232 dX9_from_44 [0, 1] [2, 3, 4, 5, 6, 7, 8, 9, 10, 11, 12, 13] rfl rfl rfl rfl (by decide) rfl rfl rfl rfl rfl rfl (fun x44 hx44 => ?_)
      refine g_pick (cn := 0) (sl := 0) (st := []) X (ws' := [oM q a al at_ st so va fa pl sg su, gA cI (a 0) 1140 (cpA A (1 + i) 0), gA cZ (a 1) 2 kp, gA cI (a 2) 3 rf, gA cI (a 3) 6 lk_, gA cI (a 5) 60 sh, gA cI (a 12) 8 pi, gA cI (a 13) 8 th, gA cI (a 14) 8 fl, gA cI (a 15) 8 so_, gA cI (a 16) 8 fr, gA cI (a 17) 2048 le, gA cI (a 18) 41 lg, gA cI (a 19) 112 bg]) [12, 13, 0, 1, 2, 3, 4, 5, 6, 7, 8, 9, 10, 11] rfl rfl ?_
      refine g_iconst (pc := 47) X dX9_from_47 ?_
      exact ret _ _ _ _ _ _ dX9_from_48 rfl rfl (fun h => by cases h) (gPxi_e () (by rw [(show o_from A kp i = (1, -1, cpA A (1 + i) 0) from (if_pos (by omega)).trans (if_neg h15))]) (by rw [(show o_from A kp i = (1, -1, cpA A (1 + i) 0) from (if_pos (by omega)).trans (if_neg h15))]; rfl) trivial)
    · refine g_aload_n (pc := 18) X dX9_from_18 0 rfl ?_
      refine g_iload_n (pc := 19) X dX9_from_19 1 rfl ?_
      refine g_iconst (pc := 20) X dX9_from_20 ?_
      refine g_iconst (pc := 21) X dX9_from_21 ?_
      refine gc_Si (pc := 22) X (c_X9_in l D cI cZ i 0 1 (by omega) (by omega) (by omega)) lm_X9_50 dX9_from_22 [] rfl rfl rfl rfl rfl rfl ?_
      refine g_ifeqB (pc := 25) X 33 dX9_from_25 (by decide) (fun h25 => absurd h25 (by omega)) (fun h25 => ?_)
      refine g_bipush (pc := 28) X dX9_from_28 (by decide +kernel) ?_
      refine g_goto (pc := 30) X 35 dX9_from_30 (by decide) ?_
      refine gc_Vxi (pc := 35) X (wr := [gA cI (a 0) 1140 A, gA cZ (a 1) 2 kp, gA cI (a 3) 6 lk_, gA cI (a 5) 60 sh, gA cI (a 12) 8 pi, gA cI (a 13) 8 th, gA cI (a 14) 8 fl, gA cI (a 15) 8 so_, gA cI (a 16) 8 fr, gA cI (a 17) 2048 le, gA cI (a 18) 41 lg, gA cI (a 19) 112 bg]) (c_X9_refuse l D cI cZ q a al at_ st so va fa pl sg su rf (-3) (by omega)) lm_X9_54 dX9_from_35 [0, 3] [1, 2, 4, 5, 6, 7, 8, 9, 10, 11, 12, 13] rfl rfl rfl rfl (by decide) rfl rfl rfl rfl rfl rfl (fun x35 hx35 => ?_)
      refine g_pick (cn := 0) (sl := 0) (st := gi (-3) :: []) X (ws' := [oM q a al at_ st so va fa pl sg su, gA cI (a 0) 1140 A, gA cZ (a 1) 2 kp, gA cI (a 2) 3 (gupd rf (-2 - (-3)) (rf (-2 - (-3)) + 1)), gA cI (a 3) 6 lk_, gA cI (a 5) 60 sh, gA cI (a 12) 8 pi, gA cI (a 13) 8 th, gA cI (a 14) 8 fl, gA cI (a 15) 8 so_, gA cI (a 16) 8 fr, gA cI (a 17) 2048 le, gA cI (a 18) 41 lg, gA cI (a 19) 112 bg]) [12, 0, 1, 13, 2, 3, 4, 5, 6, 7, 8, 9, 10, 11] rfl rfl ?_
      exact ret _ _ _ _ _ _ dX9_from_38 rfl rfl (fun h => by cases h) (gPxi_e () (by rw [(show o_from A kp i = (-3, 1, A) from (if_pos (by omega)).trans (if_pos h15))]) (by rw [(show o_from A kp i = (-3, 1, A) from (if_pos (by omega)).trans (if_pos h15))]; rfl) trivial)
