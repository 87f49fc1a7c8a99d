/-! the model: WORDS, BEAST, houses, walkers, images -/
set_option maxHeartbeats 4000000 in
set_option maxRecDepth 100000 in
theorem c_X9_words (l : Launch) (D : va_G) (cI cZ : ClassId) (q : Nat) (a : Nat → Nat) (al : Int) (at_ : Int) (st : Int) (so : Int) (va : Int) (fa : Int) (pl : Int) (sg : Int) (su : Int) (A : Int → Int) (kp : Int → Int) (rf : Int → Int) (lk_ : Int → Int) (sh : Int → Int) (pi : Int → Int) (th : Int → Int) (fl : Int → Int) (so_ : Int → Int) (fr : Int → Int) (le : Int → Int) (lg : Int → Int) (bg : Int → Int) (hA : okA A) : GM l D cI cZ yX9_words cX9_words 6 (some .int) ({ frames := 9, cells := 0, slots := 0, locals := 223 }) 0 0 false [.ref q] [oM q a al at_ st so va fa pl sg su, gA cI (a 0) 1140 A, gA cZ (a 1) 2 kp, gA cI (a 2) 3 rf, gA cI (a 3) 6 lk_, gA cI (a 5) 60 sh, gA cI (a 12) 8 pi, gA cI (a 13) 8 th, gA cI (a 14) 8 fl, gA cI (a 15) 8 so_, gA cI (a 16) 8 fr, gA cI (a 17) 2048 le, gA cI (a 18) 41 lg, gA cI (a 19) 112 bg] (gPxi (fun xo : (Int → Int) × (Int) => ((sWords A, (-1 : Int))).1) (fun xo : (Int → Int) × (Int) => [oM q a xo.2 at_ st so va fa pl sg su, gA cI (a 0) 1140 A, gA cZ (a 1) 2 kp, gA cI (a 2) 3 (bump (((sWords A, (-1 : Int))).2) rf), gA cI (a 3) 6 xo.1, gA cI (a 5) 60 sh, gA cI (a 12) 8 pi, gA cI (a 13) 8 th, gA cI (a 14) 8 fl, gA cI (a 15) 8 so_, gA cI (a 16) 8 fr, gA cI (a 17) 2048 le, gA cI (a 18) 41 lg, gA cI (a 19) 112 bg]) (fun xo : (Int → Int) × (Int) => True)) := by
  refine g_enterI (z := false) (lv0 := [(0, .ref q)]) _ rfl (by decide) rfl rfl (fun V X ret => ?_)
  have hA1 := okA_1 hA
  have hA0 := okA_0 hA
  have hpu := okA_pu hA
  refine g_iconst (pc := 0) X dX9_words_0 ?_
  refine g_istore_n (pc := 1) X (lv' := [(0, .ref q), (1, gi 0)]) dX9_words_1 rfl rfl ?_
  refine g_iconst (pc := 2) X dX9_words_2 ?_
  refine g_istore_n (pc := 3) X (lv' := [(0, .ref q), (1, gi 0), (2, gi 0)]) dX9_words_3 rfl rfl ?_
  have L4 : ∀ (n4 : Nat) (x : Int) (m : Int) (z : Int) (e : Int → Int), (0 ≤ m ∧ m ≤ A 1) → (0 ≤ x ∧ x < 2 ^ m.toNat) → (x = sm (fun m => if sClr A m = 1 then 0 else 2 ^ m.toNat) m) → (A 1 - m).toNat < n4 → V 0 0 [oM q a z at_ st so va fa pl sg su, gA cI (a 0) 1140 A, gA cZ (a 1) 2 kp, gA cI (a 2) 3 rf, gA cI (a 3) 6 e, gA cI (a 5) 60 sh, gA cI (a 12) 8 pi, gA cI (a 13) 8 th, gA cI (a 14) 8 fl, gA cI (a 15) 8 so_, gA cI (a 16) 8 fr, gA cI (a 17) 2048 le, gA cI (a 18) 41 lg, gA cI (a 19) 112 bg] 4 [(0, .ref q), (1, gi x), (2, gi m)] [] := by
    intro n4
    induction n4 with
    | zero => intro x m z e hm hxb hx hn4; exact absurd hn4 (Nat.not_lt_zero _)
    | succ n4 ih4 =>
      intro x m z e hm hxb hx hn4
      have hpw := pw_b (k := m) (c := 6) (C := 64) rfl (by omega)
      refine g_iload_n (pc := 4) X dX9_words_4 2 rfl ?_
      refine g_aload_n (pc := 5) X dX9_words_5 0 rfl ?_
      refine g_get (pc := 6) X fl_X9_7 dX9_words_6 0 (v := .ref (a 0)) rfl rfl ?_
      refine g_iconst (pc := 9) X dX9_words_9 ?_
      refine g_iald (pc := 10) X dX9_words_10 1 rfl (by omega) rfl ?_
      refine g_icmpge (pc := 11) X 134 dX9_words_11 (by decide) (by omega) (by omega) (fun h11 => ?_) (fun h11 => ?_)
      · refine g_iload_n (pc := 134) X dX9_words_134 1 rfl ?_
        exact ret _ _ _ _ _ _ dX9_words_135 rfl rfl (fun h => by cases h) (gPxi_e (_, _) (by rw [hx, show m = A 1 by omega]; rfl) rfl trivial)
      · refine g_aload_n (pc := 14) X dX9_words_14 0 rfl ?_
        refine g_iload_n (pc := 15) X dX9_words_15 2 rfl ?_
        refine gc_Vxi (pc := 16) X (wr := [gA cZ (a 1) 2 kp, gA cI (a 2) 3 rf, gA cI (a 5) 60 sh, gA cI (a 12) 8 pi, gA cI (a 13) 8 th, gA cI (a 14) 8 fl, gA cI (a 15) 8 so_, gA cI (a 16) 8 fr, gA cI (a 17) 2048 le, gA cI (a 18) 41 lg, gA cI (a 19) 112 bg]) (c_X9_bestOf l D cI cZ q a z at_ st so va fa pl sg su A e m hA (by omega)) lm_X9_109 dX9_words_16 [0, 1, 4] [2, 3, 5, 6, 7, 8, 9, 10, 11, 12, 13] rfl rfl rfl rfl (by decide) rfl rfl rfl rfl rfl rfl (fun x16 hx16 => ?_)
        obtain ⟨g_16, al2_16⟩ := x16
        refine g_pick (cn := 0) (sl := 0) (st := gi (sBest A m) :: []) X (ws' := [oM q a al2_16 at_ st so va fa pl sg su, gA cI (a 0) 1140 A, gA cZ (a 1) 2 kp, gA cI (a 2) 3 rf, gA cI (a 3) 6 g_16, gA cI (a 5) 60 sh, gA cI (a 12) 8 pi, gA cI (a 13) 8 th, gA cI (a 14) 8 fl, gA cI (a 15) 8 so_, gA cI (a 16) 8 fr, gA cI (a 17) 2048 le, gA cI (a 18) 41 lg, gA cI (a 19) 112 bg]) [11, 12, 0, 1, 13, 2, 3, 4, 5, 6, 7, 8, 9, 10] rfl rfl ?_
        obtain ⟨f, hf⟩ : ∃ z : Int, z = sBest A m := ⟨_, rfl⟩
        refine g_top (b := f) hf.symm ?_
        have hfq : -1 ≤ f ∧ f < 10 := by (have q := sBest_b (A := A) (m := m) hA0.1); (rw [hf]; unfold sBest; omega)
        refine g_istore_n (pc := 19) X (lv' := [(0, .ref q), (1, gi x), (2, gi m), (3, gi f)]) dX9_words_19 rfl rfl ?_
        refine g_iload_n (pc := 20) X dX9_words_20 3 rfl ?_
        refine g_iconst (pc := 21) X dX9_words_21 ?_
        refine g_icmpne (pc := 22) X 29 dX9_words_22 (by decide) (by omega) (by omega) (fun h22 => ?_) (fun h22 => ?_)
        · refine g_iconst (pc := 29) X dX9_words_29 ?_
          refine g_istore (pc := 30) X (lv' := [(0, .ref q), (1, gi x), (2, gi m), (3, gi f), (4, gi 0)]) dX9_words_30 rfl rfl ?_
          refine g_iload_n (pc := 32) X dX9_words_32 3 rfl ?_
          refine g_iconst (pc := 33) X dX9_words_33 ?_
          refine g_icmpeq (pc := 34) X 113 dX9_words_34 (by decide) (by omega) (by omega) (fun h34 => absurd h34 (by omega)) (fun h34 => ?_)
          have hfb := sBest_f hA hf h34
          refine g_aload_n (pc := 37) X dX9_words_37 0 rfl ?_
          refine g_iload_n (pc := 38) X dX9_words_38 3 rfl ?_
          refine g_iconst (pc := 39) X dX9_words_39 ?_
          refine g_iconst (pc := 40) X dX9_words_40 ?_
          refine g_iconst (pc := 41) X dX9_words_41 ?_
          refine gc_Vxv (pc := 42) X (wr := [gA cZ (a 1) 2 kp, gA cI (a 2) 3 rf, gA cI (a 5) 60 sh, gA cI (a 12) 8 pi, gA cI (a 13) 8 th, gA cI (a 14) 8 fl, gA cI (a 15) 8 so_, gA cI (a 16) 8 fr, gA cI (a 17) 2048 le, gA cI (a 18) 41 lg, gA cI (a 19) 112 bg]) (c_X9_weigh l D cI cZ q a al2_16 at_ st so va fa pl sg su A g_16 f 0 (-1) 0 hA (by omega) (by omega) (by omega) (by omega)) lm_X9_89 dX9_words_42 [0, 1, 4] [2, 3, 5, 6, 7, 8, 9, 10, 11, 12, 13] rfl rfl rfl rfl (by decide) rfl rfl rfl rfl rfl rfl (fun x42 hx42 => ?_)
          generalize x42 = g_42 at hx42 ⊢
          have hg_42 : ∀ mm, 0 ≤ mm → mm < A 1 → g_42 mm = sLk A f mm 0 (-1) 0 := hx42
          refine g_pick (cn := 0) (sl := 0) (st := []) X (ws' := [oM q a (sTt A f 0 (-1) 0) at_ st so va fa pl sg su, gA cI (a 0) 1140 A, gA cZ (a 1) 2 kp, gA cI (a 2) 3 rf, gA cI (a 3) 6 g_42, gA cI (a 5) 60 sh, gA cI (a 12) 8 pi, gA cI (a 13) 8 th, gA cI (a 14) 8 fl, gA cI (a 15) 8 so_, gA cI (a 16) 8 fr, gA cI (a 17) 2048 le, gA cI (a 18) 41 lg, gA cI (a 19) 112 bg]) [11, 12, 0, 1, 13, 2, 3, 4, 5, 6, 7, 8, 9, 10] rfl rfl ?_
          refine g_aload_n (pc := 45) X dX9_words_45 0 rfl ?_
          refine g_get (pc := 46) X fl_X9_85 dX9_words_46 0 (v := gi (sTt A f 0 (-1) 0)) rfl rfl ?_
          refine g_top (b := sTot A f 0) sTt_0 ?_
          have hto := sTot_b hA (t := f) (far := 0) (by omega) (by omega)
          have hlm := sLike_b hA (t := f) (m := m) (far := 0) (by omega) (by omega) (by omega)
          have hw42 : ∀ mm, 0 ≤ mm → mm < A 1 → g_42 mm = sLike A f mm 0 := fun mm m0 m1 => by rw [hg_42 mm m0 m1, sLk_0 m0]
          refine g_ifne (pc := 49) X 56 dX9_words_49 (by decide) (by omega) (fun h49 => ?_) (fun h49 => ?_)
          · refine g_iconst (pc := 56) X dX9_words_56 ?_
            refine g_istore (pc := 57) X (lv' := [(0, .ref q), (1, gi x), (2, gi m), (3, gi f), (4, gi 0)]) dX9_words_57 rfl rfl ?_
            refine g_iconst (pc := 59) X dX9_words_59 ?_
            refine g_istore (pc := 60) X (lv' := [(0, .ref q), (1, gi x), (2, gi m), (3, gi f), (4, gi 0), (5, gi 0)]) dX9_words_60 rfl rfl ?_
            have L62 : ∀ (n62 : Nat) (w : Int) (j : Int), (0 ≤ j ∧ j ≤ A 1) → (0 ≤ w ∧ w ≤ 1) → (wfl A f m j w) → (A 1 - j).toNat < n62 → V 0 0 [oM q a (sTt A f 0 (-1) 0) at_ st so va fa pl sg su, gA cI (a 0) 1140 A, gA cZ (a 1) 2 kp, gA cI (a 2) 3 rf, gA cI (a 3) 6 g_42, gA cI (a 5) 60 sh, gA cI (a 12) 8 pi, gA cI (a 13) 8 th, gA cI (a 14) 8 fl, gA cI (a 15) 8 so_, gA cI (a 16) 8 fr, gA cI (a 17) 2048 le, gA cI (a 18) 41 lg, gA cI (a 19) 112 bg] 62 [(0, .ref q), (1, gi x), (2, gi m), (3, gi f), (4, gi w), (5, gi j)] [] := by
              intro n62
              induction n62 with
              | zero => intro w j hj hw hwi hn62; exact absurd hn62 (Nat.not_lt_zero _)
              | succ n62 ih62 =>
                intro w j hj hw hwi hn62
                refine g_iload (pc := 62) X dX9_words_62 5 rfl ?_
                refine g_aload_n (pc := 64) X dX9_words_64 0 rfl ?_
                refine g_get (pc := 65) X fl_X9_7 dX9_words_65 0 (v := .ref (a 0)) rfl rfl ?_
                refine g_iconst (pc := 68) X dX9_words_68 ?_
                refine g_iald (pc := 69) X dX9_words_69 1 rfl (by omega) rfl ?_
                refine g_icmpge (pc := 70) X 113 dX9_words_70 (by decide) (by omega) (by omega) (fun h70 => ?_) (fun h70 => ?_)
                · have hcl := wfl_c hf h34 (by rw [show j = A 1 by omega] at hwi; exact hwi)
                  have hcm := sClr_n A m
                  have hcl2 : (w = 0 ∧ sClr A m = 1) ∨ (w ≠ 0 ∧ sClr A m = 0) := by rcases hcm with h | h <;> rw [h] at hcl ⊢ <;> omega
                  clear hcl
                  refine g_iload_n (pc := 113) X dX9_words_113 1 rfl ?_
                  refine g_iload (pc := 114) X dX9_words_114 4 rfl ?_
                  refine g_ifeq (pc := 116) X 125 dX9_words_116 (by decide) (by omega) (fun h116 => ?_) (fun h116 => ?_)
                  · refine g_iconst (pc := 125) X dX9_words_125 ?_
                    refine g_ior (pc := 126) X (r := x) dX9_words_126 (by rw [show iI 0 = (0 : Int32) from rfl]; exact Int32.or_zero) ?_
                    refine g_istore_n (pc := 127) X (lv' := [(0, .ref q), (1, gi x), (2, gi m), (3, gi f), (4, gi w), (5, gi j)]) dX9_words_127 rfl rfl ?_
                    refine g_iinc (pc := 128) X (lv' := [(0, .ref q), (1, gi x), (2, gi (m + 1)), (3, gi f), (4, gi w), (5, gi j)]) dX9_words_128 2 rfl rfl rfl ?_
                    refine g_goto (pc := 131) X 4 dX9_words_131 (by decide) ?_
                    refine g_lsub X [0, 1, 2] rfl ?_
                    exact ih4 _ _ _ _ (by omega) (by rw [pw_s hm.1]; omega) (by rw [hx, sm_s hm.1]; (try dsimp only); first | rw [if_pos (by omega), Int.add_zero] | rw [if_neg (by omega)]) (by omega)
                  · refine g_iconst (pc := 119) X dX9_words_119 ?_
                    refine g_iload_n (pc := 120) X dX9_words_120 2 rfl ?_
                    refine g_ishl (pc := 121) X dX9_words_121 (by omega) (by omega) (by omega) ?_
                    refine g_goto (pc := 122) X 126 dX9_words_122 (by decide) ?_
                    refine g_ior (pc := 126) X (r := x + (2 ^ m.toNat)) dX9_words_126 (iI_orp hxb) ?_
                    refine g_istore_n (pc := 127) X (lv' := [(0, .ref q), (1, gi (x + (2 ^ m.toNat))), (2, gi m), (3, gi f), (4, gi w), (5, gi j)]) dX9_words_127 rfl rfl ?_
                    refine g_iinc (pc := 128) X (lv' := [(0, .ref q), (1, gi (x + (2 ^ m.toNat))), (2, gi (m + 1)), (3, gi f), (4, gi w), (5, gi j)]) dX9_words_128 2 rfl rfl rfl ?_
                    refine g_goto (pc := 131) X 4 dX9_words_131 (by decide) ?_
                    refine g_lsub X [0, 1, 2] rfl ?_
                    exact ih4 _ _ _ _ (by omega) (by rw [pw_s hm.1]; omega) (by rw [hx, sm_s hm.1]; (try dsimp only); first | rw [if_pos (by omega), Int.add_zero] | rw [if_neg (by omega)]) (by omega)
                · refine g_iload (pc := 73) X dX9_words_73 4 rfl ?_
                  refine g_ifne (pc := 75) X 100 dX9_words_75 (by decide) (by omega) (fun h75 => ?_) (fun h75 => ?_)
                  · refine g_iconst (pc := 100) X dX9_words_100 ?_
                    refine g_goto (pc := 101) X 105 dX9_words_101 (by decide) ?_
                    refine g_istore (pc := 105) X (lv' := [(0, .ref q), (1, gi x), (2, gi m), (3, gi f), (4, gi 1), (5, gi j)]) dX9_words_105 rfl rfl ?_
                    refine g_iinc (pc := 107) X (lv' := [(0, .ref q), (1, gi x), (2, gi m), (3, gi f), (4, gi 1), (5, gi (j + 1))]) dX9_words_107 5 rfl rfl rfl ?_
                    refine g_goto (pc := 110) X 62 dX9_words_110 (by decide) ?_
                    exact ih62 _ _ (by omega) (by omega) (by first | exact wfl_up hwi h75 hj.1 | exact wfl_no hj.1 h81 h97) (by omega)
                  · refine g_iload (pc := 78) X dX9_words_78 5 rfl ?_
                    refine g_iload_n (pc := 80) X dX9_words_80 2 rfl ?_
                    refine g_icmpeq (pc := 81) X 104 dX9_words_81 (by decide) (by omega) (by omega) (fun h81 => ?_) (fun h81 => ?_)
                    · refine g_iconst (pc := 104) X dX9_words_104 ?_
                      refine g_istore (pc := 105) X (lv' := [(0, .ref q), (1, gi x), (2, gi m), (3, gi f), (4, gi 0), (5, gi j)]) dX9_words_105 rfl rfl ?_
                      refine g_iinc (pc := 107) X (lv' := [(0, .ref q), (1, gi x), (2, gi m), (3, gi f), (4, gi 0), (5, gi (j + 1))]) dX9_words_107 5 rfl rfl rfl ?_
                      refine g_goto (pc := 110) X 62 dX9_words_110 (by decide) ?_
                      exact ih62 _ _ (by omega) (by omega) (by first | exact wfl_eq hwi (by omega) hj.1 (Or.inl h81) | exact wfl_eq hwi (by omega) hj.1 (Or.inr h97)) (by omega)
                    · refine g_aload_n (pc := 84) X dX9_words_84 0 rfl ?_
                      refine g_get (pc := 85) X fl_X9_20 dX9_words_85 0 (v := .ref (a 3)) rfl rfl ?_
                      refine g_iload (pc := 88) X dX9_words_88 5 rfl ?_
                      refine g_iald (pc := 90) X dX9_words_90 4 rfl (by omega) rfl ?_
                      refine g_top (b := sLike A f j 0) (hw42 j (by omega) (by omega)) ?_
                      have hlj := sLike_b hA (t := f) (m := j) (far := 0) (by omega) (by omega) (by omega)
                      refine g_aload_n (pc := 91) X dX9_words_91 0 rfl ?_
                      refine g_get (pc := 92) X fl_X9_20 dX9_words_92 0 (v := .ref (a 3)) rfl rfl ?_
                      refine g_iload_n (pc := 95) X dX9_words_95 2 rfl ?_
                      refine g_iald (pc := 96) X dX9_words_96 4 rfl (by omega) rfl ?_
                      refine g_top (b := sLike A f m 0) (hw42 m (by omega) (by omega)) ?_
                      refine g_icmplt (pc := 97) X 104 dX9_words_97 (by decide) (by omega) (by omega) (fun h97 => ?_) (fun h97 => ?_)
                      · refine g_iconst (pc := 104) X dX9_words_104 ?_
                        refine g_istore (pc := 105) X (lv' := [(0, .ref q), (1, gi x), (2, gi m), (3, gi f), (4, gi 0), (5, gi j)]) dX9_words_105 rfl rfl ?_
                        refine g_iinc (pc := 107) X (lv' := [(0, .ref q), (1, gi x), (2, gi m), (3, gi f), (4, gi 0), (5, gi (j + 1))]) dX9_words_107 5 rfl rfl rfl ?_
                        refine g_goto (pc := 110) X 62 dX9_words_110 (by decide) ?_
                        exact ih62 _ _ (by omega) (by omega) (by first | exact wfl_eq hwi (by omega) hj.1 (Or.inl h81) | exact wfl_eq hwi (by omega) hj.1 (Or.inr h97)) (by omega)
                      · refine g_iconst (pc := 100) X dX9_words_100 ?_
                        refine g_goto (pc := 101) X 105 dX9_words_101 (by decide) ?_
                        refine g_istore (pc := 105) X (lv' := [(0, .ref q), (1, gi x), (2, gi m), (3, gi f), (4, gi 1), (5, gi j)]) dX9_words_105 rfl rfl ?_
                        refine g_iinc (pc := 107) X (lv' := [(0, .ref q), (1, gi x), (2, gi m), (3, gi f), (4, gi 1), (5, gi (j + 1))]) dX9_words_107 5 rfl rfl rfl ?_
                        refine g_goto (pc := 110) X 62 dX9_words_110 (by decide) ?_
                        exact ih62 _ _ (by omega) (by omega) (by first | exact wfl_up hwi h75 hj.1 | exact wfl_no hj.1 h81 h97) (by omega)
            exact L62 _ _ _ (by omega) (by omega) (wfl_0 h49 hto.1) (Nat.lt_succ_self _)
          · refine g_iconst (pc := 52) X dX9_words_52 ?_
            refine g_goto (pc := 53) X 57 dX9_words_53 (by decide) ?_
            refine g_istore (pc := 57) X (lv' := [(0, .ref q), (1, gi x), (2, gi m), (3, gi f), (4, gi 1)]) dX9_words_57 rfl rfl ?_
            refine g_iconst (pc := 59) X dX9_words_59 ?_
            refine g_istore (pc := 60) X (lv' := [(0, .ref q), (1, gi x), (2, gi m), (3, gi f), (4, gi 1), (5, gi 0)]) dX9_words_60 rfl rfl ?_
            have L62 : ∀ (n62 : Nat) (w : Int) (j : Int), (0 ≤ j ∧ j ≤ A 1) → (0 ≤ w ∧ w ≤ 1) → (wfl A f m j w) → (A 1 - j).toNat < n62 → V 0 0 [oM q a (sTt A f 0 (-1) 0) at_ st so va fa pl sg su, gA cI (a 0) 1140 A, gA cZ (a 1) 2 kp, gA cI (a 2) 3 rf, gA cI (a 3) 6 g_42, gA cI (a 5) 60 sh, gA cI (a 12) 8 pi, gA cI (a 13) 8 th, gA cI (a 14) 8 fl, gA cI (a 15) 8 so_, gA cI (a 16) 8 fr, gA cI (a 17) 2048 le, gA cI (a 18) 41 lg, gA cI (a 19) 112 bg] 62 [(0, .ref q), (1, gi x), (2, gi m), (3, gi f), (4, gi w), (5, gi j)] [] := by
              intro n62
              induction n62 with
              | zero => intro w j hj hw hwi hn62; exact absurd hn62 (Nat.not_lt_zero _)
              | succ n62 ih62 =>
                intro w j hj hw hwi hn62
                refine g_iload (pc := 62) X dX9_words_62 5 rfl ?_
                refine g_aload_n (pc := 64) X dX9_words_64 0 rfl ?_
                refine g_get (pc := 65) X fl_X9_7 dX9_words_65 0 (v := .ref (a 0)) rfl rfl ?_
                refine g_iconst (pc := 68) X dX9_words_68 ?_
                refine g_iald (pc := 69) X dX9_words_69 1 rfl (by omega) rfl ?_
                refine g_icmpge (pc := 70) X 113 dX9_words_70 (by decide) (by omega) (by omega) (fun h70 => ?_) (fun h70 => ?_)
                · have hcl := wfl_c hf h34 (by rw [show j = A 1 by omega] at hwi; exact hwi)
                  have hcm := sClr_n A m
                  have hcl2 : (w = 0 ∧ sClr A m = 1) ∨ (w ≠ 0 ∧ sClr A m = 0) := by rcases hcm with h | h <;> rw [h] at hcl ⊢ <;> omega
                  clear hcl
                  refine g_iload_n (pc := 113) X dX9_words_113 1 rfl ?_
                  refine g_iload (pc := 114) X dX9_words_114 4 rfl ?_
                  refine g_ifeq (pc := 116) X 125 dX9_words_116 (by decide) (by omega) (fun h116 => ?_) (fun h116 => ?_)
                  · refine g_iconst (pc := 125) X dX9_words_125 ?_
                    refine g_ior (pc := 126) X (r := x) dX9_words_126 (by rw [show iI 0 = (0 : Int32) from rfl]; exact Int32.or_zero) ?_
                    refine g_istore_n (pc := 127) X (lv' := [(0, .ref q), (1, gi x), (2, gi m), (3, gi f), (4, gi w), (5, gi j)]) dX9_words_127 rfl rfl ?_
                    refine g_iinc (pc := 128) X (lv' := [(0, .ref q), (1, gi x), (2, gi (m + 1)), (3, gi f), (4, gi w), (5, gi j)]) dX9_words_128 2 rfl rfl rfl ?_
                    refine g_goto (pc := 131) X 4 dX9_words_131 (by decide) ?_
                    refine g_lsub X [0, 1, 2] rfl ?_
                    exact ih4 _ _ _ _ (by omega) (by rw [pw_s hm.1]; omega) (by rw [hx, sm_s hm.1]; (try dsimp only); first | rw [if_pos (by omega), Int.add_zero] | rw [if_neg (by omega)]) (by omega)
                  · refine g_iconst (pc := 119) X dX9_words_119 ?_
                    refine g_iload_n (pc := 120) X dX9_words_120 2 rfl ?_
                    refine g_ishl (pc := 121) X dX9_words_121 (by omega) (by omega) (by omega) ?_
                    refine g_goto (pc := 122) X 126 dX9_words_122 (by decide) ?_
                    refine g_ior (pc := 126) X (r := x + (2 ^ m.toNat)) dX9_words_126 (iI_orp hxb) ?_
                    refine g_istore_n (pc := 127) X (lv' := [(0, .ref q), (1, gi (x + (2 ^ m.toNat))), (2, gi m), (3, gi f), (4, gi w), (5, gi j)]) dX9_words_127 rfl rfl ?_
                    refine g_iinc (pc := 128) X (lv' := [(0, .ref q), (1, gi (x + (2 ^ m.toNat))), (2, gi (m + 1)), (3, gi f), (4, gi w), (5, gi j)]) dX9_words_128 2 rfl rfl rfl ?_
                    refine g_goto (pc := 131) X 4 dX9_words_131 (by decide) ?_
                    refine g_lsub X [0, 1, 2] rfl ?_
                    exact ih4 _ _ _ _ (by omega) (by rw [pw_s hm.1]; omega) (by rw [hx, sm_s hm.1]; (try dsimp only); first | rw [if_pos (by omega), Int.add_zero] | rw [if_neg (by omega)]) (by omega)
                · refine g_iload (pc := 73) X dX9_words_73 4 rfl ?_
                  refine g_ifne (pc := 75) X 100 dX9_words_75 (by decide) (by omega) (fun h75 => ?_) (fun h75 => ?_)
                  · refine g_iconst (pc := 100) X dX9_words_100 ?_
                    refine g_goto (pc := 101) X 105 dX9_words_101 (by decide) ?_
                    refine g_istore (pc := 105) X (lv' := [(0, .ref q), (1, gi x), (2, gi m), (3, gi f), (4, gi 1), (5, gi j)]) dX9_words_105 rfl rfl ?_
                    refine g_iinc (pc := 107) X (lv' := [(0, .ref q), (1, gi x), (2, gi m), (3, gi f), (4, gi 1), (5, gi (j + 1))]) dX9_words_107 5 rfl rfl rfl ?_
                    refine g_goto (pc := 110) X 62 dX9_words_110 (by decide) ?_
                    exact ih62 _ _ (by omega) (by omega) (by first | exact wfl_up hwi h75 hj.1 | exact wfl_no hj.1 h81 h97) (by omega)
                  · refine g_iload (pc := 78) X dX9_words_78 5 rfl ?_
                    refine g_iload_n (pc := 80) X dX9_words_80 2 rfl ?_
                    refine g_icmpeq (pc := 81) X 104 dX9_words_81 (by decide) (by omega) (by omega) (fun h81 => ?_) (fun h81 => ?_)
                    · refine g_iconst (pc := 104) X dX9_words_104 ?_
                      refine g_istore (pc := 105) X (lv' := [(0, .ref q), (1, gi x), (2, gi m), (3, gi f), (4, gi 0), (5, gi j)]) dX9_words_105 rfl rfl ?_
                      refine g_iinc (pc := 107) X (lv' := [(0, .ref q), (1, gi x), (2, gi m), (3, gi f), (4, gi 0), (5, gi (j + 1))]) dX9_words_107 5 rfl rfl rfl ?_
                      refine g_goto (pc := 110) X 62 dX9_words_110 (by decide) ?_
                      exact ih62 _ _ (by omega) (by omega) (by first | exact wfl_eq hwi (by omega) hj.1 (Or.inl h81) | exact wfl_eq hwi (by omega) hj.1 (Or.inr h97)) (by omega)
                    · refine g_aload_n (pc := 84) X dX9_words_84 0 rfl ?_
                      refine g_get (pc := 85) X fl_X9_20 dX9_words_85 0 (v := .ref (a 3)) rfl rfl ?_
                      refine g_iload (pc := 88) X dX9_words_88 5 rfl ?_
                      refine g_iald (pc := 90) X dX9_words_90 4 rfl (by omega) rfl ?_
                      refine g_top (b := sLike A f j 0) (hw42 j (by omega) (by omega)) ?_
                      have hlj := sLike_b hA (t := f) (m := j) (far := 0) (by omega) (by omega) (by omega)
                      refine g_aload_n (pc := 91) X dX9_words_91 0 rfl ?_
                      refine g_get (pc := 92) X fl_X9_20 dX9_words_92 0 (v := .ref (a 3)) rfl rfl ?_
                      refine g_iload_n (pc := 95) X dX9_words_95 2 rfl ?_
                      refine g_iald (pc := 96) X dX9_words_96 4 rfl (by omega) rfl ?_
                      refine g_top (b := sLike A f m 0) (hw42 m (by omega) (by omega)) ?_
                      refine g_icmplt (pc := 97) X 104 dX9_words_97 (by decide) (by omega) (by omega) (fun h97 => ?_) (fun h97 => ?_)
                      · refine g_iconst (pc := 104) X dX9_words_104 ?_
                        refine g_istore (pc := 105) X (lv' := [(0, .ref q), (1, gi x), (2, gi m), (3, gi f), (4, gi 0), (5, gi j)]) dX9_words_105 rfl rfl ?_
                        refine g_iinc (pc := 107) X (lv' := [(0, .ref q), (1, gi x), (2, gi m), (3, gi f), (4, gi 0), (5, gi (j + 1))]) dX9_words_107 5 rfl rfl rfl ?_
                        refine g_goto (pc := 110) X 62 dX9_words_110 (by decide) ?_
                        exact ih62 _ _ (by omega) (by omega) (by first | exact wfl_eq hwi (by omega) hj.1 (Or.inl h81) | exact wfl_eq hwi (by omega) hj.1 (Or.inr h97)) (by omega)
                      · refine g_iconst (pc := 100) X dX9_words_100 ?_
                        refine g_goto (pc := 101) X 105 dX9_words_101 (by decide) ?_
                        refine g_istore (pc := 105) X (lv' := [(0, .ref q), (1, gi x), (2, gi m), (3, gi f), (4, gi 1), (5, gi j)]) dX9_words_105 rfl rfl ?_
                        refine g_iinc (pc := 107) X (lv' := [(0, .ref q), (1, gi x), (2, gi m), (3, gi f), (4, gi 1), (5, gi (j + 1))]) dX9_words_107 5 rfl rfl rfl ?_
                        refine g_goto (pc := 110) X 62 dX9_words_110 (by decide) ?_
                        exact ih62 _ _ (by omega) (by omega) (by first | exact wfl_up hwi h75 hj.1 | exact wfl_no hj.1 h81 h97) (by omega)
            exact L62 _ _ _ (by omega) (by omega) (wfl_1 h49) (Nat.lt_succ_self _)
        · refine g_iconst (pc := 25) X dX9_words_25 ?_
          refine g_goto (pc := 26) X 30 dX9_words_26 (by decide) ?_
          refine g_istore (pc := 30) X (lv' := [(0, .ref q), (1, gi x), (2, gi m), (3, gi f), (4, gi 1)]) dX9_words_30 rfl rfl ?_
          refine g_iload_n (pc := 32) X dX9_words_32 3 rfl ?_
          refine g_iconst (pc := 33) X dX9_words_33 ?_
          refine g_icmpeq (pc := 34) X 113 dX9_words_34 (by decide) (by omega) (by omega) (fun h34 => ?_) (fun h34 => absurd h34 (by omega))
          have hcl : sClr A m = 0 := wfl_n (by rw [← hf]; omega)
          refine g_iload_n (pc := 113) X dX9_words_113 1 rfl ?_
          refine g_iload (pc := 114) X dX9_words_114 4 rfl ?_
          refine g_ifeq (pc := 116) X 125 dX9_words_116 (by decide) (by omega) (fun h116 => absurd h116 (by omega)) (fun h116 => ?_)
          refine g_iconst (pc := 119) X dX9_words_119 ?_
          refine g_iload_n (pc := 120) X dX9_words_120 2 rfl ?_
          refine g_ishl (pc := 121) X dX9_words_121 (by omega) (by omega) (by omega) ?_
          refine g_goto (pc := 122) X 126 dX9_words_122 (by decide) ?_
          refine g_ior (pc := 126) X (r := x + (2 ^ m.toNat)) dX9_words_126 (iI_orp hxb) ?_
          refine g_istore_n (pc := 127) X (lv' := [(0, .ref q), (1, gi (x + (2 ^ m.toNat))), (2, gi m), (3, gi f), (4, gi 1)]) dX9_words_127 rfl rfl ?_
          refine g_iinc (pc := 128) X (lv' := [(0, .ref q), (1, gi (x + (2 ^ m.toNat))), (2, gi (m + 1)), (3, gi f), (4, gi 1)]) dX9_words_128 2 rfl rfl rfl ?_
          refine g_goto (pc := 131) X 4 dX9_words_131 (by decide) ?_
          refine g_lsub X [0, 1, 2] rfl ?_
          exact ih4 _ _ _ _ (by omega) (by rw [pw_s hm.1]; omega) (by rw [hx, sm_s hm.1]; (try dsimp only); first | rw [if_pos (by omega), Int.add_zero] | rw [if_neg (by omega)]) (by omega)
  exact L4 _ _ _ _ _ (by omega) (by decide) (by rfl) (Nat.lt_succ_self _)
