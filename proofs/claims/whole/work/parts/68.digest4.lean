/-! the model's digest -/

set_option maxHeartbeats 4000000 in
set_option maxRecDepth 100000 in
theorem c_X9_digest (l : Launch) (D : va_G) (cI cZ : ClassId) (q : Nat) (a : Nat → Nat) (al : Int) (at_ : Int) (st : Int) (so : Int) (va : Int) (fa : Int) (pl : Int) (sg : Int) (su : Int) (A : Int → Int) (kp : Int → Int) (rf : Int → Int) (lk_ : Int → Int) (sh : Int → Int) (pi : Int → Int) (th : Int → Int) (fl : Int → Int) (so_ : Int → Int) (fr : Int → Int) (le : Int → Int) (lg : Int → Int) (bg : Int → Int) (fP : Int) (fQ : Int) (hA : okA A) (hF : frM bg sg fP fQ) : GM l D cI cZ yX9_digest cX9_digest 2 (some .long) ({ frames := 2, cells := 0, slots := 0, locals := 44 }) 0 0 false [.ref q] [oM q a al at_ st so va fa pl sg su, gA cI (a 0) 1140 A, gA cZ (a 1) 2 kp, gA cI (a 2) 3 rf, gA cI (a 3) 6 lk_, gA cI (a 5) 60 sh, gA cI (a 12) 8 pi, gA cI (a 13) 8 th, gA cI (a 14) 8 fl, gA cI (a 15) 8 so_, gA cI (a 16) 8 fr, gA cI (a 17) 2048 le, gA cI (a 18) 41 lg, gA cI (a 19) 112 bg] (gPxl (fun xo : Unit => dgP (dgF A 593) fP fQ) (fun xo : Unit => [oM q a al at_ st so va fa pl sg (dgP (dgF A 593) fP fQ), gA cI (a 0) 1140 A, gA cZ (a 1) 2 kp, gA cI (a 2) 3 rf, gA cI (a 3) 6 lk_, gA cI (a 5) 60 sh, gA cI (a 12) 8 pi, gA cI (a 13) 8 th, gA cI (a 14) 8 fl, gA cI (a 15) 8 so_, gA cI (a 16) 8 fr, gA cI (a 17) 2048 le, gA cI (a 18) 41 lg, gA cI (a 19) 112 bg]) (fun xo : Unit => True)) := by
  refine g_enterL (lv0 := [(0, .ref q)]) (by decide) rfl rfl (fun V X ret => ?_)
  have hA1 := okA_1 hA
  have hA0 := okA_0 hA
  have hpu := okA_pu hA
  have h2_ := okA_2 hA
  have h3_ := okA_3 hA
  have h4_ := okA_4 hA
  have hB := hF.1
  have e0 := hF.2.1.1
  have e1 := hF.2.1.2
  have es := hF.2.2.1
  have hsg : 0 ≤ sg ∧ sg ≤ 1 := by rw [es]; unfold sgn; split <;> omega
  have lb0 := lims_b fP
  have lb1 := lims_b fQ
  refine g_aload_n (pc := 0) X dX9_digest_0 0 rfl ?_
  refine g_ldc2 (pc := 1) X dX9_digest_1 kc_X9_244 ?_
  refine g_put (pc := 4) X (ws' := [oM q a al at_ st so va fa pl sg 593, gA cI (a 0) 1140 A, gA cZ (a 1) 2 kp, gA cI (a 2) 3 rf, gA cI (a 3) 6 lk_, gA cI (a 5) 60 sh, gA cI (a 12) 8 pi, gA cI (a 13) 8 th, gA cI (a 14) 8 fl, gA cI (a 15) 8 so_, gA cI (a 16) 8 fr, gA cI (a 17) 2048 le, gA cI (a 18) 41 lg, gA cI (a 19) 112 bg]) fp_X9_237 dX9_digest_4 0 rfl rfl rfl rfl rfl ?_
  refine g_aload_n (pc := 7) X dX9_digest_7 0 rfl ?_
  refine g_iconst (pc := 8) X dX9_digest_8 ?_
  refine g_iconst (pc := 9) X dX9_digest_9 ?_
  refine gc_Vxv (pc := 10) X (wr := [gA cZ (a 1) 2 kp, gA cI (a 2) 3 rf, gA cI (a 3) 6 lk_, gA cI (a 5) 60 sh, gA cI (a 12) 8 pi, gA cI (a 13) 8 th, gA cI (a 14) 8 fl, gA cI (a 15) 8 so_, gA cI (a 16) 8 fr, gA cI (a 17) 2048 le, gA cI (a 18) 41 lg, gA cI (a 19) 112 bg]) (c_X9_mixRow l D cI cZ q a al at_ st so va fa pl sg 593 A 0 5 (by omega) (fun jj j0 j1 => by have q := okA_r hA (j := jj) (by omega); omega)) lm_X9_246 dX9_digest_10 [0, 1] [2, 3, 4, 5, 6, 7, 8, 9, 10, 11, 12, 13] rfl rfl rfl rfl (by decide) rfl rfl rfl rfl rfl rfl (fun x10 hx10 => ?_)
  refine g_pick (cn := 0) (sl := 0) (st := []) X (ws' := [oM q a al at_ st so va fa pl sg (dgr A 0 593 5), gA cI (a 0) 1140 A, gA cZ (a 1) 2 kp, gA cI (a 2) 3 rf, gA cI (a 3) 6 lk_, gA cI (a 5) 60 sh, gA cI (a 12) 8 pi, gA cI (a 13) 8 th, gA cI (a 14) 8 fl, gA cI (a 15) 8 so_, gA cI (a 16) 8 fr, gA cI (a 17) 2048 le, gA cI (a 18) 41 lg, gA cI (a 19) 112 bg]) [12, 13, 0, 1, 2, 3, 4, 5, 6, 7, 8, 9, 10, 11] rfl rfl ?_
  refine g_iconst (pc := 13) X dX9_digest_13 ?_
  refine g_istore_n (pc := 14) X (lv' := [(0, .ref q), (1, gi 0)]) dX9_digest_14 rfl rfl ?_
  have L15 : ∀ (n15 : Nat) (i : Int) (x : Int), (0 ≤ i ∧ i ≤ A 0) → (x = itr (dgT A) (dgr A 0 593 5) i) → (A 0 - i).toNat < n15 → V 0 0 [oM q a al at_ st so va fa pl sg x, gA cI (a 0) 1140 A, gA cZ (a 1) 2 kp, gA cI (a 2) 3 rf, gA cI (a 3) 6 lk_, gA cI (a 5) 60 sh, gA cI (a 12) 8 pi, gA cI (a 13) 8 th, gA cI (a 14) 8 fl, gA cI (a 15) 8 so_, gA cI (a 16) 8 fr, gA cI (a 17) 2048 le, gA cI (a 18) 41 lg, gA cI (a 19) 112 bg] 15 [(0, .ref q), (1, gi i)] [] := by
    intro n15
    induction n15 with
    | zero => intro i x hi hx hn15; exact absurd hn15 (Nat.not_lt_zero _)
    | succ n15 ih15 =>
      intro i x hi hx hn15
      refine g_iload_n (pc := 15) X dX9_digest_15 1 rfl ?_
      refine g_aload_n (pc := 16) X dX9_digest_16 0 rfl ?_
      refine g_get (pc := 17) X fl_X9_7 dX9_digest_17 0 (v := .ref (a 0)) rfl rfl ?_
      refine g_iconst (pc := 20) X dX9_digest_20 ?_
      refine g_iald (pc := 21) X dX9_digest_21 1 rfl (by omega) rfl ?_
      refine g_icmpge (pc := 22) X 69 dX9_digest_22 (by decide) (by omega) (by omega) (fun h22 => ?_) (fun h22 => ?_)
      · refine g_iconst (pc := 69) X dX9_digest_69 ?_
        refine g_istore_n (pc := 70) X (lv' := [(0, .ref q), (1, gi 0)]) dX9_digest_70 rfl rfl ?_
        have L71 : ∀ (n71 : Nat) (i2 : Int) (y : Int), (0 ≤ i2 ∧ i2 ≤ A 1) → (y = itr (dgM A) (itr (dgT A) (dgr A 0 593 5) (A 0)) i2) → (A 1 - i2).toNat < n71 → V 0 0 [oM q a al at_ st so va fa pl sg y, gA cI (a 0) 1140 A, gA cZ (a 1) 2 kp, gA cI (a 2) 3 rf, gA cI (a 3) 6 lk_, gA cI (a 5) 60 sh, gA cI (a 12) 8 pi, gA cI (a 13) 8 th, gA cI (a 14) 8 fl, gA cI (a 15) 8 so_, gA cI (a 16) 8 fr, gA cI (a 17) 2048 le, gA cI (a 18) 41 lg, gA cI (a 19) 112 bg] 71 [(0, .ref q), (1, gi i2)] [] := by
          intro n71
          induction n71 with
          | zero => intro i2 y hi2 hy hn71; exact absurd hn71 (Nat.not_lt_zero _)
          | succ n71 ih71 =>
            intro i2 y hi2 hy hn71
            refine g_iload_n (pc := 71) X dX9_digest_71 1 rfl ?_
            refine g_aload_n (pc := 72) X dX9_digest_72 0 rfl ?_
            refine g_get (pc := 73) X fl_X9_7 dX9_digest_73 0 (v := .ref (a 0)) rfl rfl ?_
            refine g_iconst (pc := 76) X dX9_digest_76 ?_
            refine g_iald (pc := 77) X dX9_digest_77 1 rfl (by omega) rfl ?_
            refine g_icmpge (pc := 78) X 113 dX9_digest_78 (by decide) (by omega) (by omega) (fun h78 => ?_) (fun h78 => ?_)
            · refine g_aload_n (pc := 113) X dX9_digest_113 0 rfl ?_
              refine g_bipush (pc := 114) X dX9_digest_114 (by decide +kernel) ?_
              refine g_iconst (pc := 116) X dX9_digest_116 ?_
              refine gc_Vxv (pc := 117) X (wr := [gA cZ (a 1) 2 kp, gA cI (a 2) 3 rf, gA cI (a 3) 6 lk_, gA cI (a 5) 60 sh, gA cI (a 12) 8 pi, gA cI (a 13) 8 th, gA cI (a 14) 8 fl, gA cI (a 15) 8 so_, gA cI (a 16) 8 fr, gA cI (a 17) 2048 le, gA cI (a 18) 41 lg, gA cI (a 19) 112 bg]) (c_X9_mixRow l D cI cZ q a al at_ st so va fa pl sg y A 127 5 (by omega) (fun jj j0 j1 => by have q := okA_r hA (j := jj) (by omega); omega)) lm_X9_246 dX9_digest_117 [0, 1] [2, 3, 4, 5, 6, 7, 8, 9, 10, 11, 12, 13] rfl rfl rfl rfl (by decide) rfl rfl rfl rfl rfl rfl (fun x117 hx117 => ?_)
              refine g_pick (cn := 0) (sl := 0) (st := []) X (ws' := [oM q a al at_ st so va fa pl sg (dgr A 127 y 5), gA cI (a 0) 1140 A, gA cZ (a 1) 2 kp, gA cI (a 2) 3 rf, gA cI (a 3) 6 lk_, gA cI (a 5) 60 sh, gA cI (a 12) 8 pi, gA cI (a 13) 8 th, gA cI (a 14) 8 fl, gA cI (a 15) 8 so_, gA cI (a 16) 8 fr, gA cI (a 17) 2048 le, gA cI (a 18) 41 lg, gA cI (a 19) 112 bg]) [12, 13, 0, 1, 2, 3, 4, 5, 6, 7, 8, 9, 10, 11] rfl rfl ?_
              refine g_aload_n (pc := 120) X dX9_digest_120 0 rfl ?_
              refine g_sipush (pc := 121) X dX9_digest_121 (by decide +kernel) ?_
              refine g_aload_n (pc := 124) X dX9_digest_124 0 rfl ?_
              refine g_get (pc := 125) X fl_X9_7 dX9_digest_125 0 (v := .ref (a 0)) rfl rfl ?_
              refine g_iconst (pc := 128) X dX9_digest_128 ?_
              refine g_iald (pc := 129) X dX9_digest_129 1 rfl (by omega) rfl ?_
              refine gc_Vxv (pc := 130) X (wr := [gA cZ (a 1) 2 kp, gA cI (a 2) 3 rf, gA cI (a 3) 6 lk_, gA cI (a 5) 60 sh, gA cI (a 12) 8 pi, gA cI (a 13) 8 th, gA cI (a 14) 8 fl, gA cI (a 15) 8 so_, gA cI (a 16) 8 fr, gA cI (a 17) 2048 le, gA cI (a 18) 41 lg, gA cI (a 19) 112 bg]) (c_X9_mixRow l D cI cZ q a al at_ st so va fa pl sg (dgr A 127 y 5) A 132 (A 2) (by omega) (fun jj j0 j1 => by have q := okA_r hA (j := jj) (by omega); omega)) lm_X9_246 dX9_digest_130 [0, 1] [2, 3, 4, 5, 6, 7, 8, 9, 10, 11, 12, 13] rfl rfl rfl rfl (by decide) rfl rfl rfl rfl rfl rfl (fun x130 hx130 => ?_)
              refine g_pick (cn := 0) (sl := 0) (st := []) X (ws' := [oM q a al at_ st so va fa pl sg (dgr A 132 (dgr A 127 y 5) (A 2)), gA cI (a 0) 1140 A, gA cZ (a 1) 2 kp, gA cI (a 2) 3 rf, gA cI (a 3) 6 lk_, gA cI (a 5) 60 sh, gA cI (a 12) 8 pi, gA cI (a 13) 8 th, gA cI (a 14) 8 fl, gA cI (a 15) 8 so_, gA cI (a 16) 8 fr, gA cI (a 17) 2048 le, gA cI (a 18) 41 lg, gA cI (a 19) 112 bg]) [12, 13, 0, 1, 2, 3, 4, 5, 6, 7, 8, 9, 10, 11] rfl rfl ?_
              refine g_aload_n (pc := 133) X dX9_digest_133 0 rfl ?_
              refine g_sipush (pc := 134) X dX9_digest_134 (by decide +kernel) ?_
              refine g_bipush (pc := 137) X dX9_digest_137 (by decide +kernel) ?_
              refine g_aload_n (pc := 139) X dX9_digest_139 0 rfl ?_
              refine g_get (pc := 140) X fl_X9_7 dX9_digest_140 0 (v := .ref (a 0)) rfl rfl ?_
              refine g_iconst (pc := 143) X dX9_digest_143 ?_
              refine g_iald (pc := 144) X dX9_digest_144 1 rfl (by omega) rfl ?_
              refine g_imul (pc := 145) X dX9_digest_145 ?_
              refine gc_Vxv (pc := 146) X (wr := [gA cZ (a 1) 2 kp, gA cI (a 2) 3 rf, gA cI (a 3) 6 lk_, gA cI (a 5) 60 sh, gA cI (a 12) 8 pi, gA cI (a 13) 8 th, gA cI (a 14) 8 fl, gA cI (a 15) 8 so_, gA cI (a 16) 8 fr, gA cI (a 17) 2048 le, gA cI (a 18) 41 lg, gA cI (a 19) 112 bg]) (c_X9_mixRow l D cI cZ q a al at_ st so va fa pl sg (dgr A 132 (dgr A 127 y 5) (A 2)) A 332 (10 * (A 3)) (by omega) (fun jj j0 j1 => by have q := okA_r hA (j := jj) (by omega); omega)) lm_X9_246 dX9_digest_146 [0, 1] [2, 3, 4, 5, 6, 7, 8, 9, 10, 11, 12, 13] rfl rfl rfl rfl (by decide) rfl rfl rfl rfl rfl rfl (fun x146 hx146 => ?_)
              refine g_pick (cn := 0) (sl := 0) (st := []) X (ws' := [oM q a al at_ st so va fa pl sg (dgr A 332 (dgr A 132 (dgr A 127 y 5) (A 2)) (10 * (A 3))), gA cI (a 0) 1140 A, gA cZ (a 1) 2 kp, gA cI (a 2) 3 rf, gA cI (a 3) 6 lk_, gA cI (a 5) 60 sh, gA cI (a 12) 8 pi, gA cI (a 13) 8 th, gA cI (a 14) 8 fl, gA cI (a 15) 8 so_, gA cI (a 16) 8 fr, gA cI (a 17) 2048 le, gA cI (a 18) 41 lg, gA cI (a 19) 112 bg]) [12, 13, 0, 1, 2, 3, 4, 5, 6, 7, 8, 9, 10, 11] rfl rfl ?_
              refine g_aload_n (pc := 149) X dX9_digest_149 0 rfl ?_
              refine g_sipush (pc := 150) X dX9_digest_150 (by decide +kernel) ?_
              refine g_aload_n (pc := 153) X dX9_digest_153 0 rfl ?_
              refine g_get (pc := 154) X fl_X9_7 dX9_digest_154 0 (v := .ref (a 0)) rfl rfl ?_
              refine g_iconst (pc := 157) X dX9_digest_157 ?_
              refine g_iald (pc := 158) X dX9_digest_158 1 rfl (by omega) rfl ?_
              refine gc_Vxv (pc := 159) X (wr := [gA cZ (a 1) 2 kp, gA cI (a 2) 3 rf, gA cI (a 3) 6 lk_, gA cI (a 5) 60 sh, gA cI (a 12) 8 pi, gA cI (a 13) 8 th, gA cI (a 14) 8 fl, gA cI (a 15) 8 so_, gA cI (a 16) 8 fr, gA cI (a 17) 2048 le, gA cI (a 18) 41 lg, gA cI (a 19) 112 bg]) (c_X9_mixRow l D cI cZ q a al at_ st so va fa pl sg (dgr A 332 (dgr A 132 (dgr A 127 y 5) (A 2)) (10 * (A 3))) A 372 (A 4) (by omega) (fun jj j0 j1 => by have q := okA_r hA (j := jj) (by omega); omega)) lm_X9_246 dX9_digest_159 [0, 1] [2, 3, 4, 5, 6, 7, 8, 9, 10, 11, 12, 13] rfl rfl rfl rfl (by decide) rfl rfl rfl rfl rfl rfl (fun x159 hx159 => ?_)
              refine g_pick (cn := 0) (sl := 0) (st := []) X (ws' := [oM q a al at_ st so va fa pl sg (dgr A 372 (dgr A 332 (dgr A 132 (dgr A 127 y 5) (A 2)) (10 * (A 3))) (A 4)), gA cI (a 0) 1140 A, gA cZ (a 1) 2 kp, gA cI (a 2) 3 rf, gA cI (a 3) 6 lk_, gA cI (a 5) 60 sh, gA cI (a 12) 8 pi, gA cI (a 13) 8 th, gA cI (a 14) 8 fl, gA cI (a 15) 8 so_, gA cI (a 16) 8 fr, gA cI (a 17) 2048 le, gA cI (a 18) 41 lg, gA cI (a 19) 112 bg]) [12, 13, 0, 1, 2, 3, 4, 5, 6, 7, 8, 9, 10, 11] rfl rfl ?_
              have hF3 : dgF A 593 = (dgr A 372 (dgr A 332 (dgr A 132 (dgr A 127 y 5) (A 2)) (10 * (A 3))) (A 4)) := by unfold dgF; rw [← show i2 = A 1 by omega, ← hy]
              refine g_aload_n (pc := 162) X dX9_digest_162 0 rfl ?_
              refine g_aload_n (pc := 163) X dX9_digest_163 0 rfl ?_
              refine g_get (pc := 164) X fl_X9_220 dX9_digest_164 0 (v := gi sg) rfl rfl ?_
              refine gc_Vxv (pc := 167) X (wr := [gA cI (a 0) 1140 A, gA cZ (a 1) 2 kp, gA cI (a 2) 3 rf, gA cI (a 3) 6 lk_, gA cI (a 5) 60 sh, gA cI (a 12) 8 pi, gA cI (a 13) 8 th, gA cI (a 14) 8 fl, gA cI (a 15) 8 so_, gA cI (a 16) 8 fr, gA cI (a 17) 2048 le, gA cI (a 18) 41 lg, gA cI (a 19) 112 bg]) (c_X9_mix l D cI cZ q a al at_ st so va fa pl sg (dgr A 372 (dgr A 332 (dgr A 132 (dgr A 127 y 5) (A 2)) (10 * (A 3))) (A 4)) sg (by omega)) lm_X9_241 dX9_digest_167 [0] [1, 2, 3, 4, 5, 6, 7, 8, 9, 10, 11, 12, 13] rfl rfl rfl rfl (by decide) rfl rfl rfl rfl rfl rfl (fun x167 hx167 => ?_)
              refine g_pick (cn := 0) (sl := 0) (st := []) X (ws' := [oM q a al at_ st so va fa pl sg (31 * (dgr A 372 (dgr A 332 (dgr A 132 (dgr A 127 y 5) (A 2)) (10 * (A 3))) (A 4)) + sg), gA cI (a 0) 1140 A, gA cZ (a 1) 2 kp, gA cI (a 2) 3 rf, gA cI (a 3) 6 lk_, gA cI (a 5) 60 sh, gA cI (a 12) 8 pi, gA cI (a 13) 8 th, gA cI (a 14) 8 fl, gA cI (a 15) 8 so_, gA cI (a 16) 8 fr, gA cI (a 17) 2048 le, gA cI (a 18) 41 lg, gA cI (a 19) 112 bg]) [13, 0, 1, 2, 3, 4, 5, 6, 7, 8, 9, 10, 11, 12] rfl rfl ?_
              refine g_aload_n (pc := 170) X dX9_digest_170 0 rfl ?_
              refine g_aload_n (pc := 171) X dX9_digest_171 0 rfl ?_
              refine g_iconst (pc := 172) X dX9_digest_172 ?_
              refine gc_Vi (pc := 173) X (c_X9_limbsOf l D cI cZ q a al at_ st so va fa pl sg (31 * (dgr A 372 (dgr A 332 (dgr A 132 (dgr A 127 y 5) (A 2)) (10 * (A 3))) (A 4)) + sg) bg 0 (by first | assumption | exact wr_o (by assumption)) (by omega)) lm_X9_229 dX9_digest_173 [0, 13] rfl rfl rfl rfl rfl rfl rfl rfl ?_
              refine g_top (b := (lims fP)) (by rw [e0]) ?_
              refine gc_Vxv (pc := 176) X (wr := [gA cI (a 0) 1140 A, gA cZ (a 1) 2 kp, gA cI (a 2) 3 rf, gA cI (a 3) 6 lk_, gA cI (a 5) 60 sh, gA cI (a 12) 8 pi, gA cI (a 13) 8 th, gA cI (a 14) 8 fl, gA cI (a 15) 8 so_, gA cI (a 16) 8 fr, gA cI (a 17) 2048 le, gA cI (a 18) 41 lg, gA cI (a 19) 112 bg]) (c_X9_mix l D cI cZ q a al at_ st so va fa pl sg (31 * (dgr A 372 (dgr A 332 (dgr A 132 (dgr A 127 y 5) (A 2)) (10 * (A 3))) (A 4)) + sg) (lims fP) (by omega)) lm_X9_241 dX9_digest_176 [0] [1, 2, 3, 4, 5, 6, 7, 8, 9, 10, 11, 12, 13] rfl rfl rfl rfl (by decide) rfl rfl rfl rfl rfl rfl (fun x176 hx176 => ?_)
              refine g_pick (cn := 0) (sl := 0) (st := []) X (ws' := [oM q a al at_ st so va fa pl sg (31 * (31 * (dgr A 372 (dgr A 332 (dgr A 132 (dgr A 127 y 5) (A 2)) (10 * (A 3))) (A 4)) + sg) + (lims fP)), gA cI (a 0) 1140 A, gA cZ (a 1) 2 kp, gA cI (a 2) 3 rf, gA cI (a 3) 6 lk_, gA cI (a 5) 60 sh, gA cI (a 12) 8 pi, gA cI (a 13) 8 th, gA cI (a 14) 8 fl, gA cI (a 15) 8 so_, gA cI (a 16) 8 fr, gA cI (a 17) 2048 le, gA cI (a 18) 41 lg, gA cI (a 19) 112 bg]) [13, 0, 1, 2, 3, 4, 5, 6, 7, 8, 9, 10, 11, 12] rfl rfl ?_
              refine g_aload_n (pc := 179) X dX9_digest_179 0 rfl ?_
              refine g_aload_n (pc := 180) X dX9_digest_180 0 rfl ?_
              refine g_iconst (pc := 181) X dX9_digest_181 ?_
              refine gc_Vi (pc := 182) X (c_X9_limbsOf l D cI cZ q a al at_ st so va fa pl sg (31 * (31 * (dgr A 372 (dgr A 332 (dgr A 132 (dgr A 127 y 5) (A 2)) (10 * (A 3))) (A 4)) + sg) + (lims fP)) bg 1 (by first | assumption | exact wr_o (by assumption)) (by omega)) lm_X9_229 dX9_digest_182 [0, 13] rfl rfl rfl rfl rfl rfl rfl rfl ?_
              refine g_top (b := (lims fQ)) (by rw [e1]) ?_
              refine gc_Vxv (pc := 185) X (wr := [gA cI (a 0) 1140 A, gA cZ (a 1) 2 kp, gA cI (a 2) 3 rf, gA cI (a 3) 6 lk_, gA cI (a 5) 60 sh, gA cI (a 12) 8 pi, gA cI (a 13) 8 th, gA cI (a 14) 8 fl, gA cI (a 15) 8 so_, gA cI (a 16) 8 fr, gA cI (a 17) 2048 le, gA cI (a 18) 41 lg, gA cI (a 19) 112 bg]) (c_X9_mix l D cI cZ q a al at_ st so va fa pl sg (31 * (31 * (dgr A 372 (dgr A 332 (dgr A 132 (dgr A 127 y 5) (A 2)) (10 * (A 3))) (A 4)) + sg) + (lims fP)) (lims fQ) (by omega)) lm_X9_241 dX9_digest_185 [0] [1, 2, 3, 4, 5, 6, 7, 8, 9, 10, 11, 12, 13] rfl rfl rfl rfl (by decide) rfl rfl rfl rfl rfl rfl (fun x185 hx185 => ?_)
              refine g_pick (cn := 0) (sl := 0) (st := []) X (ws' := [oM q a al at_ st so va fa pl sg (31 * (31 * (31 * (dgr A 372 (dgr A 332 (dgr A 132 (dgr A 127 y 5) (A 2)) (10 * (A 3))) (A 4)) + sg) + (lims fP)) + (lims fQ)), gA cI (a 0) 1140 A, gA cZ (a 1) 2 kp, gA cI (a 2) 3 rf, gA cI (a 3) 6 lk_, gA cI (a 5) 60 sh, gA cI (a 12) 8 pi, gA cI (a 13) 8 th, gA cI (a 14) 8 fl, gA cI (a 15) 8 so_, gA cI (a 16) 8 fr, gA cI (a 17) 2048 le, gA cI (a 18) 41 lg, gA cI (a 19) 112 bg]) [13, 0, 1, 2, 3, 4, 5, 6, 7, 8, 9, 10, 11, 12] rfl rfl ?_
              refine g_iconst (pc := 188) X dX9_digest_188 ?_
              refine g_istore_n (pc := 189) X (lv' := [(0, .ref q), (1, gi 0)]) dX9_digest_189 rfl rfl ?_
              have L190 : ∀ (n190 : Nat) (i3 : Int) (z : Int), (0 ≤ i3 ∧ i3 ≤ lims fP) → (z = dgr (dig fP) 0 (31 * (31 * (31 * dgF A 593 + sgn fP) + lims fP) + lims fQ) i3) → (lims fP - i3).toNat < n190 → V 0 0 [oM q a al at_ st so va fa pl sg z, gA cI (a 0) 1140 A, gA cZ (a 1) 2 kp, gA cI (a 2) 3 rf, gA cI (a 3) 6 lk_, gA cI (a 5) 60 sh, gA cI (a 12) 8 pi, gA cI (a 13) 8 th, gA cI (a 14) 8 fl, gA cI (a 15) 8 so_, gA cI (a 16) 8 fr, gA cI (a 17) 2048 le, gA cI (a 18) 41 lg, gA cI (a 19) 112 bg] 190 [(0, .ref q), (1, gi i3)] [] := by
                intro n190
                induction n190 with
                | zero => intro i3 z hi3 hz hn190; exact absurd hn190 (Nat.not_lt_zero _)
                | succ n190 ih190 =>
                  intro i3 z hi3 hz hn190
                  refine g_iload_n (pc := 190) X dX9_digest_190 1 rfl ?_
                  refine g_aload_n (pc := 191) X dX9_digest_191 0 rfl ?_
                  refine g_iconst (pc := 192) X dX9_digest_192 ?_
                  refine gc_Vi (pc := 193) X (c_X9_limbsOf l D cI cZ q a al at_ st so va fa pl sg z bg 0 (by first | assumption | exact wr_o (by assumption)) (by omega)) lm_X9_229 dX9_digest_193 [0, 13] rfl rfl rfl rfl rfl rfl rfl rfl ?_
                  refine g_top (b := (lims fP)) (by rw [e0]) ?_
                  refine g_icmpge (pc := 196) X 217 dX9_digest_196 (by decide) (by omega) (by omega) (fun h196 => ?_) (fun h196 => ?_)
                  · refine g_iconst (pc := 217) X dX9_digest_217 ?_
                    refine g_istore_n (pc := 218) X (lv' := [(0, .ref q), (1, gi 0)]) dX9_digest_218 rfl rfl ?_
                    have L219 : ∀ (n219 : Nat) (i4 : Int) (u : Int), (0 ≤ i4 ∧ i4 ≤ lims fQ) → (u = dgr (dig fQ) 0 (dgr (dig fP) 0 (31 * (31 * (31 * dgF A 593 + sgn fP) + lims fP) + lims fQ) (lims fP)) i4) → (lims fQ - i4).toNat < n219 → V 0 0 [oM q a al at_ st so va fa pl sg u, gA cI (a 0) 1140 A, gA cZ (a 1) 2 kp, gA cI (a 2) 3 rf, gA cI (a 3) 6 lk_, gA cI (a 5) 60 sh, gA cI (a 12) 8 pi, gA cI (a 13) 8 th, gA cI (a 14) 8 fl, gA cI (a 15) 8 so_, gA cI (a 16) 8 fr, gA cI (a 17) 2048 le, gA cI (a 18) 41 lg, gA cI (a 19) 112 bg] 219 [(0, .ref q), (1, gi i4)] [] := by
                      intro n219
                      induction n219 with
                      | zero => intro i4 u hi4 hu hn219; exact absurd hn219 (Nat.not_lt_zero _)
                      | succ n219 ih219 =>
                        intro i4 u hi4 hu hn219
                        refine g_iload_n (pc := 219) X dX9_digest_219 1 rfl ?_
                        refine g_aload_n (pc := 220) X dX9_digest_220 0 rfl ?_
                        refine g_iconst (pc := 221) X dX9_digest_221 ?_
                        refine gc_Vi (pc := 222) X (c_X9_limbsOf l D cI cZ q a al at_ st so va fa pl sg u bg 1 (by first | assumption | exact wr_o (by assumption)) (by omega)) lm_X9_229 dX9_digest_222 [0, 13] rfl rfl rfl rfl rfl rfl rfl rfl ?_
                        refine g_top (b := (lims fQ)) (by rw [e1]) ?_
                        refine g_icmpge (pc := 225) X 247 dX9_digest_225 (by decide) (by omega) (by omega) (fun h225 => ?_) (fun h225 => ?_)
                        · refine g_aload_n (pc := 247) X dX9_digest_247 0 rfl ?_
                          refine g_get (pc := 248) X fl_X9_237 dX9_digest_248 0 (v := gl u) rfl rfl ?_
                          exact ret _ _ _ _ _ _ dX9_digest_251 rfl rfl (gPxl_e () (by rw [hu, show i4 = lims fQ by omega]; rfl) (by rw [hu, show i4 = lims fQ by omega]; rfl) trivial)
                        · refine g_aload_n (pc := 228) X dX9_digest_228 0 rfl ?_
                          refine g_aload_n (pc := 229) X dX9_digest_229 0 rfl ?_
                          refine g_get (pc := 230) X fl_X9_47 dX9_digest_230 0 (v := .ref (a 19)) rfl rfl ?_
                          refine g_bipush (pc := 233) X dX9_digest_233 (by decide +kernel) ?_
                          refine g_iload_n (pc := 235) X dX9_digest_235 1 rfl ?_
                          refine g_iadd (pc := 236) X dX9_digest_236 ?_
                          refine g_iald (pc := 237) X dX9_digest_237 13 rfl (by omega) rfl ?_
                          refine g_top (b := (dig fQ i4)) (by rw [← e1, ← nv_dig hB (show (0 : Int) ≤ 1 ∧ (1 : Int) ≤ 6 by omega) (by omega)]; exact congrArg bg (by omega)) ?_
                          have hdb : 0 ≤ dig fQ i4 ∧ dig fQ i4 < 1073741824 := by unfold dig; omega
                          refine gc_Vxv (pc := 238) X (wr := [gA cI (a 0) 1140 A, gA cZ (a 1) 2 kp, gA cI (a 2) 3 rf, gA cI (a 3) 6 lk_, gA cI (a 5) 60 sh, gA cI (a 12) 8 pi, gA cI (a 13) 8 th, gA cI (a 14) 8 fl, gA cI (a 15) 8 so_, gA cI (a 16) 8 fr, gA cI (a 17) 2048 le, gA cI (a 18) 41 lg, gA cI (a 19) 112 bg]) (c_X9_mix l D cI cZ q a al at_ st so va fa pl sg u (dig fQ i4) (by omega)) lm_X9_241 dX9_digest_238 [0] [1, 2, 3, 4, 5, 6, 7, 8, 9, 10, 11, 12, 13] rfl rfl rfl rfl (by decide) rfl rfl rfl rfl rfl rfl (fun x238 hx238 => ?_)
                          refine g_pick (cn := 0) (sl := 0) (st := []) X (ws' := [oM q a al at_ st so va fa pl sg (31 * u + (dig fQ i4)), gA cI (a 0) 1140 A, gA cZ (a 1) 2 kp, gA cI (a 2) 3 rf, gA cI (a 3) 6 lk_, gA cI (a 5) 60 sh, gA cI (a 12) 8 pi, gA cI (a 13) 8 th, gA cI (a 14) 8 fl, gA cI (a 15) 8 so_, gA cI (a 16) 8 fr, gA cI (a 17) 2048 le, gA cI (a 18) 41 lg, gA cI (a 19) 112 bg]) [13, 0, 1, 2, 3, 4, 5, 6, 7, 8, 9, 10, 11, 12] rfl rfl ?_
                          refine g_iinc (pc := 241) X (lv' := [(0, .ref q), (1, gi (i4 + 1))]) dX9_digest_241 1 rfl rfl rfl ?_
                          refine g_goto (pc := 244) X 219 dX9_digest_244 (by decide) ?_
                          exact ih219 _ _ (by omega) (by rw [dgr_s hi4.1, ← hu, Int.zero_add]) (by omega)
                    exact L219 _ _ _ (by omega) (by rw [hz, show i3 = lims fP by omega]; rfl) (Nat.lt_succ_self _)
                  · refine g_aload_n (pc := 199) X dX9_digest_199 0 rfl ?_
                    refine g_aload_n (pc := 200) X dX9_digest_200 0 rfl ?_
                    refine g_get (pc := 201) X fl_X9_47 dX9_digest_201 0 (v := .ref (a 19)) rfl rfl ?_
                    refine g_iconst (pc := 204) X dX9_digest_204 ?_
                    refine g_iload_n (pc := 205) X dX9_digest_205 1 rfl ?_
                    refine g_iadd (pc := 206) X dX9_digest_206 ?_
                    refine g_iald (pc := 207) X dX9_digest_207 13 rfl (by omega) rfl ?_
                    refine g_top (b := bg i3) (congrArg bg (by omega)) ?_
                    refine g_top (b := (dig fP i3)) (by rw [← e0, ← nv_dig hB (show (0 : Int) ≤ 0 ∧ (0 : Int) ≤ 6 by omega) (by omega)]; exact congrArg bg (by omega)) ?_
                    have hdb : 0 ≤ dig fP i3 ∧ dig fP i3 < 1073741824 := by unfold dig; omega
                    refine gc_Vxv (pc := 208) X (wr := [gA cI (a 0) 1140 A, gA cZ (a 1) 2 kp, gA cI (a 2) 3 rf, gA cI (a 3) 6 lk_, gA cI (a 5) 60 sh, gA cI (a 12) 8 pi, gA cI (a 13) 8 th, gA cI (a 14) 8 fl, gA cI (a 15) 8 so_, gA cI (a 16) 8 fr, gA cI (a 17) 2048 le, gA cI (a 18) 41 lg, gA cI (a 19) 112 bg]) (c_X9_mix l D cI cZ q a al at_ st so va fa pl sg z (dig fP i3) (by omega)) lm_X9_241 dX9_digest_208 [0] [1, 2, 3, 4, 5, 6, 7, 8, 9, 10, 11, 12, 13] rfl rfl rfl rfl (by decide) rfl rfl rfl rfl rfl rfl (fun x208 hx208 => ?_)
                    refine g_pick (cn := 0) (sl := 0) (st := []) X (ws' := [oM q a al at_ st so va fa pl sg (31 * z + (dig fP i3)), gA cI (a 0) 1140 A, gA cZ (a 1) 2 kp, gA cI (a 2) 3 rf, gA cI (a 3) 6 lk_, gA cI (a 5) 60 sh, gA cI (a 12) 8 pi, gA cI (a 13) 8 th, gA cI (a 14) 8 fl, gA cI (a 15) 8 so_, gA cI (a 16) 8 fr, gA cI (a 17) 2048 le, gA cI (a 18) 41 lg, gA cI (a 19) 112 bg]) [13, 0, 1, 2, 3, 4, 5, 6, 7, 8, 9, 10, 11, 12] rfl rfl ?_
                    refine g_iinc (pc := 211) X (lv' := [(0, .ref q), (1, gi (i3 + 1))]) dX9_digest_211 1 rfl rfl rfl ?_
                    refine g_goto (pc := 214) X 190 dX9_digest_214 (by decide) ?_
                    exact ih190 _ _ (by omega) (by rw [dgr_s hi3.1, ← hz, Int.zero_add]) (by omega)
              exact L190 _ _ _ (by omega) (by rw [← hF3, es]; rfl) (Nat.lt_succ_self _)
            · refine g_aload_n (pc := 81) X dX9_digest_81 0 rfl ?_
              refine g_aload_n (pc := 82) X dX9_digest_82 0 rfl ?_
              refine g_get (pc := 83) X fl_X9_7 dX9_digest_83 0 (v := .ref (a 0)) rfl rfl ?_
              refine g_bipush (pc := 86) X dX9_digest_86 (by decide +kernel) ?_
              refine g_iload_n (pc := 88) X dX9_digest_88 1 rfl ?_
              refine g_iadd (pc := 89) X dX9_digest_89 ?_
              refine g_iald (pc := 90) X dX9_digest_90 1 rfl (by omega) rfl ?_
              have hwo := okA_wo hA (j := i2) (by omega)
              refine gc_Vxv (pc := 91) X (wr := [gA cI (a 0) 1140 A, gA cZ (a 1) 2 kp, gA cI (a 2) 3 rf, gA cI (a 3) 6 lk_, gA cI (a 5) 60 sh, gA cI (a 12) 8 pi, gA cI (a 13) 8 th, gA cI (a 14) 8 fl, gA cI (a 15) 8 so_, gA cI (a 16) 8 fr, gA cI (a 17) 2048 le, gA cI (a 18) 41 lg, gA cI (a 19) 112 bg]) (c_X9_mix l D cI cZ q a al at_ st so va fa pl sg y (A (85 + i2)) (by omega)) lm_X9_241 dX9_digest_91 [0] [1, 2, 3, 4, 5, 6, 7, 8, 9, 10, 11, 12, 13] rfl rfl rfl rfl (by decide) rfl rfl rfl rfl rfl rfl (fun x91 hx91 => ?_)
              refine g_pick (cn := 0) (sl := 0) (st := []) X (ws' := [oM q a al at_ st so va fa pl sg (31 * y + (A (85 + i2))), gA cI (a 0) 1140 A, gA cZ (a 1) 2 kp, gA cI (a 2) 3 rf, gA cI (a 3) 6 lk_, gA cI (a 5) 60 sh, gA cI (a 12) 8 pi, gA cI (a 13) 8 th, gA cI (a 14) 8 fl, gA cI (a 15) 8 so_, gA cI (a 16) 8 fr, gA cI (a 17) 2048 le, gA cI (a 18) 41 lg, gA cI (a 19) 112 bg]) [13, 0, 1, 2, 3, 4, 5, 6, 7, 8, 9, 10, 11, 12] rfl rfl ?_
              refine g_aload_n (pc := 94) X dX9_digest_94 0 rfl ?_
              refine g_bipush (pc := 95) X dX9_digest_95 (by decide +kernel) ?_
              refine g_bipush (pc := 97) X dX9_digest_97 (by decide +kernel) ?_
              refine g_iload_n (pc := 99) X dX9_digest_99 1 rfl ?_
              refine g_imul (pc := 100) X dX9_digest_100 ?_
              refine g_iadd (pc := 101) X dX9_digest_101 ?_
              refine g_bipush (pc := 102) X dX9_digest_102 (by decide +kernel) ?_
              refine gc_Vxv (pc := 104) X (wr := [gA cZ (a 1) 2 kp, gA cI (a 2) 3 rf, gA cI (a 3) 6 lk_, gA cI (a 5) 60 sh, gA cI (a 12) 8 pi, gA cI (a 13) 8 th, gA cI (a 14) 8 fl, gA cI (a 15) 8 so_, gA cI (a 16) 8 fr, gA cI (a 17) 2048 le, gA cI (a 18) 41 lg, gA cI (a 19) 112 bg]) (c_X9_mixRow l D cI cZ q a al at_ st so va fa pl sg (31 * y + (A (85 + i2))) A (91 + 6 * i2) 6 (by omega) (fun jj j0 j1 => by have q := okA_r hA (j := jj) (by omega); omega)) lm_X9_246 dX9_digest_104 [0, 1] [2, 3, 4, 5, 6, 7, 8, 9, 10, 11, 12, 13] rfl rfl rfl rfl (by decide) rfl rfl rfl rfl rfl rfl (fun x104 hx104 => ?_)
              refine g_pick (cn := 0) (sl := 0) (st := []) X (ws' := [oM q a al at_ st so va fa pl sg (dgr A (91 + 6 * i2) (31 * y + (A (85 + i2))) 6), gA cI (a 0) 1140 A, gA cZ (a 1) 2 kp, gA cI (a 2) 3 rf, gA cI (a 3) 6 lk_, gA cI (a 5) 60 sh, gA cI (a 12) 8 pi, gA cI (a 13) 8 th, gA cI (a 14) 8 fl, gA cI (a 15) 8 so_, gA cI (a 16) 8 fr, gA cI (a 17) 2048 le, gA cI (a 18) 41 lg, gA cI (a 19) 112 bg]) [12, 13, 0, 1, 2, 3, 4, 5, 6, 7, 8, 9, 10, 11] rfl rfl ?_
              refine g_iinc (pc := 107) X (lv' := [(0, .ref q), (1, gi (i2 + 1))]) dX9_digest_107 1 rfl rfl rfl ?_
              refine g_goto (pc := 110) X 71 dX9_digest_110 (by decide) ?_
              exact ih71 _ _ (by omega) (by rw [itr_s hi2.1, ← hy]; rfl) (by omega)
        exact L71 _ _ _ (by omega) (by rw [hx, show i = A 0 by omega]; rfl) (Nat.lt_succ_self _)
      · refine g_aload_n (pc := 25) X dX9_digest_25 0 rfl ?_
        refine g_aload_n (pc := 26) X dX9_digest_26 0 rfl ?_
        refine g_get (pc := 27) X fl_X9_7 dX9_digest_27 0 (v := .ref (a 0)) rfl rfl ?_
        refine g_iconst (pc := 30) X dX9_digest_30 ?_
        refine g_iload_n (pc := 31) X dX9_digest_31 1 rfl ?_
        refine g_iadd (pc := 32) X dX9_digest_32 ?_
        refine g_iald (pc := 33) X dX9_digest_33 1 rfl (by omega) rfl ?_
        have hcl := okA_cl hA (j := i) (by omega)
        refine gc_Vxv (pc := 34) X (wr := [gA cI (a 0) 1140 A, gA cZ (a 1) 2 kp, gA cI (a 2) 3 rf, gA cI (a 3) 6 lk_, gA cI (a 5) 60 sh, gA cI (a 12) 8 pi, gA cI (a 13) 8 th, gA cI (a 14) 8 fl, gA cI (a 15) 8 so_, gA cI (a 16) 8 fr, gA cI (a 17) 2048 le, gA cI (a 18) 41 lg, gA cI (a 19) 112 bg]) (c_X9_mix l D cI cZ q a al at_ st so va fa pl sg x (A (5 + i)) (by omega)) lm_X9_241 dX9_digest_34 [0] [1, 2, 3, 4, 5, 6, 7, 8, 9, 10, 11, 12, 13] rfl rfl rfl rfl (by decide) rfl rfl rfl rfl rfl rfl (fun x34 hx34 => ?_)
        refine g_pick (cn := 0) (sl := 0) (st := []) X (ws' := [oM q a al at_ st so va fa pl sg (31 * x + (A (5 + i))), gA cI (a 0) 1140 A, gA cZ (a 1) 2 kp, gA cI (a 2) 3 rf, gA cI (a 3) 6 lk_, gA cI (a 5) 60 sh, gA cI (a 12) 8 pi, gA cI (a 13) 8 th, gA cI (a 14) 8 fl, gA cI (a 15) 8 so_, gA cI (a 16) 8 fr, gA cI (a 17) 2048 le, gA cI (a 18) 41 lg, gA cI (a 19) 112 bg]) [13, 0, 1, 2, 3, 4, 5, 6, 7, 8, 9, 10, 11, 12] rfl rfl ?_
        refine g_aload_n (pc := 37) X dX9_digest_37 0 rfl ?_
        refine g_aload_n (pc := 38) X dX9_digest_38 0 rfl ?_
        refine g_get (pc := 39) X fl_X9_7 dX9_digest_39 0 (v := .ref (a 0)) rfl rfl ?_
        refine g_bipush (pc := 42) X dX9_digest_42 (by decide +kernel) ?_
        refine g_iload_n (pc := 44) X dX9_digest_44 1 rfl ?_
        refine g_iadd (pc := 45) X dX9_digest_45 ?_
        refine g_iald (pc := 46) X dX9_digest_46 1 rfl (by omega) rfl ?_
        have hfa := okA_fa hA (j := i) (by omega)
        refine gc_Vxv (pc := 47) X (wr := [gA cI (a 0) 1140 A, gA cZ (a 1) 2 kp, gA cI (a 2) 3 rf, gA cI (a 3) 6 lk_, gA cI (a 5) 60 sh, gA cI (a 12) 8 pi, gA cI (a 13) 8 th, gA cI (a 14) 8 fl, gA cI (a 15) 8 so_, gA cI (a 16) 8 fr, gA cI (a 17) 2048 le, gA cI (a 18) 41 lg, gA cI (a 19) 112 bg]) (c_X9_mix l D cI cZ q a al at_ st so va fa pl sg (31 * x + (A (5 + i))) (A (15 + i)) (by omega)) lm_X9_241 dX9_digest_47 [0] [1, 2, 3, 4, 5, 6, 7, 8, 9, 10, 11, 12, 13] rfl rfl rfl rfl (by decide) rfl rfl rfl rfl rfl rfl (fun x47 hx47 => ?_)
        refine g_pick (cn := 0) (sl := 0) (st := []) X (ws' := [oM q a al at_ st so va fa pl sg (31 * (31 * x + (A (5 + i))) + (A (15 + i))), gA cI (a 0) 1140 A, gA cZ (a 1) 2 kp, gA cI (a 2) 3 rf, gA cI (a 3) 6 lk_, gA cI (a 5) 60 sh, gA cI (a 12) 8 pi, gA cI (a 13) 8 th, gA cI (a 14) 8 fl, gA cI (a 15) 8 so_, gA cI (a 16) 8 fr, gA cI (a 17) 2048 le, gA cI (a 18) 41 lg, gA cI (a 19) 112 bg]) [13, 0, 1, 2, 3, 4, 5, 6, 7, 8, 9, 10, 11, 12] rfl rfl ?_
        refine g_aload_n (pc := 50) X dX9_digest_50 0 rfl ?_
        refine g_bipush (pc := 51) X dX9_digest_51 (by decide +kernel) ?_
        refine g_bipush (pc := 53) X dX9_digest_53 (by decide +kernel) ?_
        refine g_iload_n (pc := 55) X dX9_digest_55 1 rfl ?_
        refine g_imul (pc := 56) X dX9_digest_56 ?_
        refine g_iadd (pc := 57) X dX9_digest_57 ?_
        refine g_bipush (pc := 58) X dX9_digest_58 (by decide +kernel) ?_
        refine gc_Vxv (pc := 60) X (wr := [gA cZ (a 1) 2 kp, gA cI (a 2) 3 rf, gA cI (a 3) 6 lk_, gA cI (a 5) 60 sh, gA cI (a 12) 8 pi, gA cI (a 13) 8 th, gA cI (a 14) 8 fl, gA cI (a 15) 8 so_, gA cI (a 16) 8 fr, gA cI (a 17) 2048 le, gA cI (a 18) 41 lg, gA cI (a 19) 112 bg]) (c_X9_mixRow l D cI cZ q a al at_ st so va fa pl sg (31 * (31 * x + (A (5 + i))) + (A (15 + i))) A (25 + 6 * i) 6 (by omega) (fun jj j0 j1 => by have q := okA_r hA (j := jj) (by omega); omega)) lm_X9_246 dX9_digest_60 [0, 1] [2, 3, 4, 5, 6, 7, 8, 9, 10, 11, 12, 13] rfl rfl rfl rfl (by decide) rfl rfl rfl rfl rfl rfl (fun x60 hx60 => ?_)
        refine g_pick (cn := 0) (sl := 0) (st := []) X (ws' := [oM q a al at_ st so va fa pl sg (dgr A (25 + 6 * i) (31 * (31 * x + (A (5 + i))) + (A (15 + i))) 6), gA cI (a 0) 1140 A, gA cZ (a 1) 2 kp, gA cI (a 2) 3 rf, gA cI (a 3) 6 lk_, gA cI (a 5) 60 sh, gA cI (a 12) 8 pi, gA cI (a 13) 8 th, gA cI (a 14) 8 fl, gA cI (a 15) 8 so_, gA cI (a 16) 8 fr, gA cI (a 17) 2048 le, gA cI (a 18) 41 lg, gA cI (a 19) 112 bg]) [12, 13, 0, 1, 2, 3, 4, 5, 6, 7, 8, 9, 10, 11] rfl rfl ?_
        refine g_iinc (pc := 63) X (lv' := [(0, .ref q), (1, gi (i + 1))]) dX9_digest_63 1 rfl rfl rfl ?_
        refine g_goto (pc := 66) X 15 dX9_digest_66 (by decide) ?_
        exact ih15 _ _ (by omega) (by rw [itr_s hi.1, ← hx]; rfl) (by omega)
  exact L15 _ _ _ (by omega) (by rfl) (Nat.lt_succ_self _)
