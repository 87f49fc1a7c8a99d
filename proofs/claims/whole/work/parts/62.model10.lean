/-! the model: sign, limb -/
theorem lims_b (P : Int) : 0 ≤ lims P ∧ lims P ≤ 16 := by
  have q := sm_b (f := fun k => if 1073741824 ^ k.toNat ≤ P then 1 else 0) (n := 16) (c := 1) (by decide) (fun i _ _ => by (try dsimp only); split <;> omega)
  unfold lims; omega

set_option maxHeartbeats 4000000 in
set_option maxRecDepth 100000 in
theorem c_X9_sign (l : Launch) (D : va_G) (cI cZ : ClassId) (q : Nat) (a : Nat → Nat) (al : Int) (at_ : Int) (st : Int) (so : Int) (va : Int) (fa : Int) (pl : Int) (sg : Int) (su : Int) (A : Int → Int) (kp : Int → Int) (rf : Int → Int) (lk_ : Int → Int) (sh : Int → Int) (pi : Int → Int) (th : Int → Int) (fl : Int → Int) (so_ : Int → Int) (fr : Int → Int) (le : Int → Int) (lg : Int → Int) (bg : Int → Int) (fP : Int) (fQ : Int) (w : Int) (hF : frM bg sg fP fQ) (hw : -2147483648 ≤ w ∧ w < 2147483648) : GM l D cI cZ yX9_sign cX9_sign 2 (some .int) ({ frames := 1, cells := 0, slots := 0, locals := 22 }) 0 0 false [.ref q, gi w] [oM q a al at_ st so va fa pl sg su, gA cI (a 0) 1140 A, gA cZ (a 1) 2 kp, gA cI (a 2) 3 rf, gA cI (a 3) 6 lk_, gA cI (a 5) 60 sh, gA cI (a 12) 8 pi, gA cI (a 13) 8 th, gA cI (a 14) 8 fl, gA cI (a 15) 8 so_, gA cI (a 16) 8 fr, gA cI (a 17) 2048 le, gA cI (a 18) 41 lg, gA cI (a 19) 112 bg] (gPxi (fun xo : Unit => (o_sign fP fQ w).1) (fun xo : Unit => [oM q a al at_ st so va fa pl sg su, gA cI (a 0) 1140 A, gA cZ (a 1) 2 kp, gA cI (a 2) 3 (bump (o_sign fP fQ w).2 rf), gA cI (a 3) 6 lk_, gA cI (a 5) 60 sh, gA cI (a 12) 8 pi, gA cI (a 13) 8 th, gA cI (a 14) 8 fl, gA cI (a 15) 8 so_, gA cI (a 16) 8 fr, gA cI (a 17) 2048 le, gA cI (a 18) 41 lg, gA cI (a 19) 112 bg]) (fun xo : Unit => True)) := by
  refine g_enterI (z := false) (lv0 := [(0, .ref q), (1, gi w)]) _ rfl (by decide) rfl rfl (fun V X ret => ?_)
  have hB := hF.1
  have e0 := hF.2.1.1
  have e1 := hF.2.1.2
  have es := hF.2.2.1
  have hsg : 0 ≤ sg ∧ sg ≤ 1 := by rw [es]; unfold sgn; split <;> omega
  have lb0 := lims_b (nv bg 0)
  have lb1 := lims_b (nv bg 1)
  refine g_iload_n (pc := 0) X dX9_sign_0 1 rfl ?_
  refine g_iconst (pc := 1) X dX9_sign_1 ?_
  refine g_iconst (pc := 2) X dX9_sign_2 ?_
  refine gc_Si (pc := 3) X (c_X9_in l D cI cZ w 0 2 (by omega) (by omega) (by omega)) lm_X9_50 dX9_sign_3 [] rfl rfl rfl rfl rfl rfl ?_
  refine g_ifeqB (pc := 6) X 37 dX9_sign_6 (by decide) (fun h6 => ?_) (fun h6 => ?_)
  · refine g_aload_n (pc := 37) X dX9_sign_37 0 rfl ?_
    refine g_bipush (pc := 38) X dX9_sign_38 (by decide +kernel) ?_
    refine gc_Vxi (pc := 40) X (wr := [gA cI (a 0) 1140 A, gA cZ (a 1) 2 kp, gA cI (a 3) 6 lk_, gA cI (a 5) 60 sh, gA cI (a 12) 8 pi, gA cI (a 13) 8 th, gA cI (a 14) 8 fl, gA cI (a 15) 8 so_, gA cI (a 16) 8 fr, gA cI (a 17) 2048 le, gA cI (a 18) 41 lg, gA cI (a 19) 112 bg]) (c_X9_refuse l D cI cZ q a al at_ st so va fa pl sg su rf (-2) (by omega)) lm_X9_54 dX9_sign_40 [0, 3] [1, 2, 4, 5, 6, 7, 8, 9, 10, 11, 12, 13] rfl rfl rfl rfl (by decide) rfl rfl rfl rfl rfl rfl (fun x40 hx40 => ?_)
    refine g_pick (cn := 0) (sl := 0) (st := gi (-2) :: []) X (ws' := [oM q a al at_ st so va fa pl sg su, gA cI (a 0) 1140 A, gA cZ (a 1) 2 kp, gA cI (a 2) 3 (gupd rf (-2 - (-2)) (rf (-2 - (-2)) + 1)), gA cI (a 3) 6 lk_, gA cI (a 5) 60 sh, gA cI (a 12) 8 pi, gA cI (a 13) 8 th, gA cI (a 14) 8 fl, gA cI (a 15) 8 so_, gA cI (a 16) 8 fr, gA cI (a 17) 2048 le, gA cI (a 18) 41 lg, gA cI (a 19) 112 bg]) [12, 0, 1, 13, 2, 3, 4, 5, 6, 7, 8, 9, 10, 11] rfl rfl ?_
    exact ret _ _ _ _ _ _ dX9_sign_43 rfl rfl (fun h => by cases h) (gPxi_e () (by rw [(show o_sign fP fQ w = (-2, 0) from if_neg (by omega))]) (by rw [(show o_sign fP fQ w = (-2, 0) from if_neg (by omega))]; rfl) trivial)
  · refine g_iload_n (pc := 9) X dX9_sign_9 1 rfl ?_
    refine g_ifne (pc := 10) X 20 dX9_sign_10 (by decide) (by omega) (fun h10 => ?_) (fun h10 => ?_)
    · refine g_aload_n (pc := 20) X dX9_sign_20 0 rfl ?_
      refine g_iload_n (pc := 21) X dX9_sign_21 1 rfl ?_
      refine g_iconst (pc := 22) X dX9_sign_22 ?_
      refine g_icmpne (pc := 23) X 30 dX9_sign_23 (by decide) (by omega) (by omega) (fun h23 => ?_) (fun h23 => ?_)
      · refine g_iconst (pc := 30) X dX9_sign_30 ?_
        refine gc_Vi (pc := 31) X (c_X9_limbsOf l D cI cZ q a al at_ st so va fa pl sg su bg 1 (by first | assumption | exact wr_o (by assumption)) (by omega)) lm_X9_229 dX9_sign_31 [0, 13] rfl rfl rfl rfl rfl rfl rfl rfl ?_
        refine g_goto (pc := 34) X 43 dX9_sign_34 (by decide) ?_
        exact ret _ _ _ _ _ _ dX9_sign_43 rfl rfl (fun h => by cases h) (gPxi_e () (by rw [(show o_sign fP fQ w = (if w = 0 then sgn fP else if w = 1 then lims fP else lims fQ, -1) from if_pos (by omega))]; show lims (nv bg 1) = (if w = 0 then sgn fP else if w = 1 then lims fP else lims fQ); exact (by rw [if_neg (by omega), if_neg (by omega), e1])) (by rw [(show o_sign fP fQ w = (if w = 0 then sgn fP else if w = 1 then lims fP else lims fQ, -1) from if_pos (by omega))]; rfl) trivial)
      · refine g_iconst (pc := 26) X dX9_sign_26 ?_
        refine g_goto (pc := 27) X 31 dX9_sign_27 (by decide) ?_
        refine gc_Vi (pc := 31) X (c_X9_limbsOf l D cI cZ q a al at_ st so va fa pl sg su bg 0 (by first | assumption | exact wr_o (by assumption)) (by omega)) lm_X9_229 dX9_sign_31 [0, 13] rfl rfl rfl rfl rfl rfl rfl rfl ?_
        refine g_goto (pc := 34) X 43 dX9_sign_34 (by decide) ?_
        exact ret _ _ _ _ _ _ dX9_sign_43 rfl rfl (fun h => by cases h) (gPxi_e () (by rw [(show o_sign fP fQ w = (if w = 0 then sgn fP else if w = 1 then lims fP else lims fQ, -1) from if_pos (by omega))]; show lims (nv bg 0) = (if w = 0 then sgn fP else if w = 1 then lims fP else lims fQ); exact (by rw [if_neg (by omega), if_pos (by omega), e0])) (by rw [(show o_sign fP fQ w = (if w = 0 then sgn fP else if w = 1 then lims fP else lims fQ, -1) from if_pos (by omega))]; rfl) trivial)
    · refine g_aload_n (pc := 13) X dX9_sign_13 0 rfl ?_
      refine g_get (pc := 14) X fl_X9_220 dX9_sign_14 0 (v := gi sg) rfl rfl ?_
      refine g_goto (pc := 17) X 43 dX9_sign_17 (by decide) ?_
      exact ret _ _ _ _ _ _ dX9_sign_43 rfl rfl (fun h => by cases h) (gPxi_e () (by rw [(show o_sign fP fQ w = (if w = 0 then sgn fP else if w = 1 then lims fP else lims fQ, -1) from if_pos (by omega))]; show sg = (if w = 0 then sgn fP else if w = 1 then lims fP else lims fQ); exact (by rw [if_pos (by omega)]; exact es)) (by rw [(show o_sign fP fQ w = (if w = 0 then sgn fP else if w = 1 then lims fP else lims fQ, -1) from if_pos (by omega))]; rfl) trivial)

set_option maxHeartbeats 4000000 in
set_option maxRecDepth 100000 in
theorem c_X9_limb (l : Launch) (D : va_G) (cI cZ : ClassId) (q : Nat) (a : Nat → Nat) (al : Int) (at_ : Int) (st : Int) (so : Int) (va : Int) (fa : Int) (pl : Int) (sg : Int) (su : Int) (A : Int → Int) (kp : Int → Int) (rf : Int → Int) (lk_ : Int → Int) (sh : Int → Int) (pi : Int → Int) (th : Int → Int) (fl : Int → Int) (so_ : Int → Int) (fr : Int → Int) (le : Int → Int) (lg : Int → Int) (bg : Int → Int) (fP : Int) (fQ : Int) (w : Int) (i : Int) (hF : frM bg sg fP fQ) (hw : -2147483648 ≤ w ∧ w < 2147483648) (hi : -2147483648 ≤ i ∧ i < 2147483648) : GM l D cI cZ yX9_limb cX9_limb 3 (some .int) ({ frames := 1, cells := 0, slots := 0, locals := 22 }) 0 0 false [.ref q, gi w, gi i] [oM q a al at_ st so va fa pl sg su, gA cI (a 0) 1140 A, gA cZ (a 1) 2 kp, gA cI (a 2) 3 rf, gA cI (a 3) 6 lk_, gA cI (a 5) 60 sh, gA cI (a 12) 8 pi, gA cI (a 13) 8 th, gA cI (a 14) 8 fl, gA cI (a 15) 8 so_, gA cI (a 16) 8 fr, gA cI (a 17) 2048 le, gA cI (a 18) 41 lg, gA cI (a 19) 112 bg] (gPxi (fun xo : Unit => (o_limb fP fQ w i).1) (fun xo : Unit => [oM q a al at_ st so va fa pl sg su, gA cI (a 0) 1140 A, gA cZ (a 1) 2 kp, gA cI (a 2) 3 (bump (o_limb fP fQ w i).2 rf), gA cI (a 3) 6 lk_, gA cI (a 5) 60 sh, gA cI (a 12) 8 pi, gA cI (a 13) 8 th, gA cI (a 14) 8 fl, gA cI (a 15) 8 so_, gA cI (a 16) 8 fr, gA cI (a 17) 2048 le, gA cI (a 18) 41 lg, gA cI (a 19) 112 bg]) (fun xo : Unit => True)) := by
  refine g_enterI (z := false) (lv0 := [(0, .ref q), (1, gi w), (2, gi i)]) _ rfl (by decide) rfl rfl (fun V X ret => ?_)
  have hB := hF.1
  have e0 := hF.2.1.1
  have e1 := hF.2.1.2
  have es := hF.2.2.1
  have hsg : 0 ≤ sg ∧ sg ≤ 1 := by rw [es]; unfold sgn; split <;> omega
  have lb0 := lims_b (nv bg 0)
  have lb1 := lims_b (nv bg 1)
  refine g_iload_n (pc := 0) X dX9_limb_0 1 rfl ?_
  refine g_iconst (pc := 1) X dX9_limb_1 ?_
  refine g_iconst (pc := 2) X dX9_limb_2 ?_
  refine gc_Si (pc := 3) X (c_X9_in l D cI cZ w 0 1 (by omega) (by omega) (by omega)) lm_X9_50 dX9_limb_3 [] rfl rfl rfl rfl rfl rfl ?_
  refine g_ifeqB (pc := 6) X 13 dX9_limb_6 (by decide) (fun h6 => ?_) (fun h6 => ?_)
  · refine g_aload_n (pc := 13) X dX9_limb_13 0 rfl ?_
    refine g_bipush (pc := 14) X dX9_limb_14 (by decide +kernel) ?_
    refine gc_Vxi (pc := 16) X (wr := [gA cI (a 0) 1140 A, gA cZ (a 1) 2 kp, gA cI (a 3) 6 lk_, gA cI (a 5) 60 sh, gA cI (a 12) 8 pi, gA cI (a 13) 8 th, gA cI (a 14) 8 fl, gA cI (a 15) 8 so_, gA cI (a 16) 8 fr, gA cI (a 17) 2048 le, gA cI (a 18) 41 lg, gA cI (a 19) 112 bg]) (c_X9_refuse l D cI cZ q a al at_ st so va fa pl sg su rf (-2) (by omega)) lm_X9_54 dX9_limb_16 [0, 3] [1, 2, 4, 5, 6, 7, 8, 9, 10, 11, 12, 13] rfl rfl rfl rfl (by decide) rfl rfl rfl rfl rfl rfl (fun x16 hx16 => ?_)
    refine g_pick (cn := 0) (sl := 0) (st := gi (-2) :: []) X (ws' := [oM q a al at_ st so va fa pl sg su, gA cI (a 0) 1140 A, gA cZ (a 1) 2 kp, gA cI (a 2) 3 (gupd rf (-2 - (-2)) (rf (-2 - (-2)) + 1)), gA cI (a 3) 6 lk_, gA cI (a 5) 60 sh, gA cI (a 12) 8 pi, gA cI (a 13) 8 th, gA cI (a 14) 8 fl, gA cI (a 15) 8 so_, gA cI (a 16) 8 fr, gA cI (a 17) 2048 le, gA cI (a 18) 41 lg, gA cI (a 19) 112 bg]) [12, 0, 1, 13, 2, 3, 4, 5, 6, 7, 8, 9, 10, 11] rfl rfl ?_
    exact ret _ _ _ _ _ _ dX9_limb_19 rfl rfl (fun h => by cases h) (gPxi_e () (by rw [(show o_limb fP fQ w i = (-2, 0) from if_neg (by omega))]) (by rw [(show o_limb fP fQ w i = (-2, 0) from if_neg (by omega))]; rfl) trivial)
  · refine g_iload_n (pc := 9) X dX9_limb_9 2 rfl ?_
    refine g_ifge (pc := 10) X 20 dX9_limb_10 (by decide) (by omega) (fun h10 => ?_) (fun h10 => ?_)
    · have hwv : nv bg w = (if w = 0 then fP else fQ) := by rcases (show w = 0 ∨ w = 1 by omega) with rfl | rfl; rw [if_pos rfl]; exact e0; rw [if_neg (by decide)]; exact e1
      have hwl : lims (nv bg w) = (if w = 0 then lims fP else lims fQ) := by rw [hwv]; split <;> rfl
      have lbw := lims_b (nv bg w)
      refine g_iload_n (pc := 20) X dX9_limb_20 2 rfl ?_
      refine g_aload_n (pc := 21) X dX9_limb_21 0 rfl ?_
      refine g_iload_n (pc := 22) X dX9_limb_22 1 rfl ?_
      refine gc_Vi (pc := 23) X (c_X9_limbsOf l D cI cZ q a al at_ st so va fa pl sg su bg w (by first | assumption | exact wr_o (by assumption)) (by omega)) lm_X9_229 dX9_limb_23 [0, 13] rfl rfl rfl rfl rfl rfl rfl rfl ?_
      refine g_icmpge (pc := 26) X 43 dX9_limb_26 (by decide) (by omega) (by omega) (fun h26 => ?_) (fun h26 => ?_)
      · refine g_iconst (pc := 43) X dX9_limb_43 ?_
        exact ret _ _ _ _ _ _ dX9_limb_44 rfl rfl (fun h => by cases h) (gPxi_e () (by rw [(show o_limb fP fQ w i = (if i < (if w = 0 then lims fP else lims fQ) then dig (if w = 0 then fP else fQ) i else -1, -1) from if_pos (by omega))]; show (-1) = (if i < (if w = 0 then lims fP else lims fQ) then dig (if w = 0 then fP else fQ) i else -1); rw [← hwl, ← hwv]; rw [if_neg (by omega)]) (by rw [(show o_limb fP fQ w i = (if i < (if w = 0 then lims fP else lims fQ) then dig (if w = 0 then fP else fQ) i else -1, -1) from if_pos (by omega))]; rfl) trivial)
      · have hdg := nv_dig (i := i) hB (show 0 ≤ w ∧ w ≤ 6 by omega) (by omega)
        refine g_aload_n (pc := 29) X dX9_limb_29 0 rfl ?_
        refine g_get (pc := 30) X fl_X9_47 dX9_limb_30 0 (v := .ref (a 19)) rfl rfl ?_
        refine g_bipush (pc := 33) X dX9_limb_33 (by decide +kernel) ?_
        refine g_iload_n (pc := 35) X dX9_limb_35 1 rfl ?_
        refine g_imul (pc := 36) X dX9_limb_36 ?_
        refine g_iload_n (pc := 37) X dX9_limb_37 2 rfl ?_
        refine g_iadd (pc := 38) X dX9_limb_38 ?_
        refine g_iald (pc := 39) X dX9_limb_39 13 rfl (by omega) rfl ?_
        refine g_goto (pc := 40) X 44 dX9_limb_40 (by decide) ?_
        exact ret _ _ _ _ _ _ dX9_limb_44 rfl rfl (fun h => by cases h) (gPxi_e () (by rw [(show o_limb fP fQ w i = (if i < (if w = 0 then lims fP else lims fQ) then dig (if w = 0 then fP else fQ) i else -1, -1) from if_pos (by omega))]; show bg (16 * w + i) = (if i < (if w = 0 then lims fP else lims fQ) then dig (if w = 0 then fP else fQ) i else -1); rw [← hwl, ← hwv]; rw [if_pos (by omega)]; exact hdg) (by rw [(show o_limb fP fQ w i = (if i < (if w = 0 then lims fP else lims fQ) then dig (if w = 0 then fP else fQ) i else -1, -1) from if_pos (by omega))]; rfl) trivial)
    · refine g_aload_n (pc := 13) X dX9_limb_13 0 rfl ?_
      refine g_bipush (pc := 14) X dX9_limb_14 (by decide +kernel) ?_
      refine gc_Vxi (pc := 16) X (wr := [gA cI (a 0) 1140 A, gA cZ (a 1) 2 kp, gA cI (a 3) 6 lk_, gA cI (a 5) 60 sh, gA cI (a 12) 8 pi, gA cI (a 13) 8 th, gA cI (a 14) 8 fl, gA cI (a 15) 8 so_, gA cI (a 16) 8 fr, gA cI (a 17) 2048 le, gA cI (a 18) 41 lg, gA cI (a 19) 112 bg]) (c_X9_refuse l D cI cZ q a al at_ st so va fa pl sg su rf (-2) (by omega)) lm_X9_54 dX9_limb_16 [0, 3] [1, 2, 4, 5, 6, 7, 8, 9, 10, 11, 12, 13] rfl rfl rfl rfl (by decide) rfl rfl rfl rfl rfl rfl (fun x16 hx16 => ?_)
      refine g_pick (cn := 0) (sl := 0) (st := gi (-2) :: []) X (ws' := [oM q a al at_ st so va fa pl sg su, gA cI (a 0) 1140 A, gA cZ (a 1) 2 kp, gA cI (a 2) 3 (gupd rf (-2 - (-2)) (rf (-2 - (-2)) + 1)), gA cI (a 3) 6 lk_, gA cI (a 5) 60 sh, gA cI (a 12) 8 pi, gA cI (a 13) 8 th, gA cI (a 14) 8 fl, gA cI (a 15) 8 so_, gA cI (a 16) 8 fr, gA cI (a 17) 2048 le, gA cI (a 18) 41 lg, gA cI (a 19) 112 bg]) [12, 0, 1, 13, 2, 3, 4, 5, 6, 7, 8, 9, 10, 11] rfl rfl ?_
      exact ret _ _ _ _ _ _ dX9_limb_19 rfl rfl (fun h => by cases h) (gPxi_e () (by rw [(show o_limb fP fQ w i = (-2, 0) from if_neg (by omega))]) (by rw [(show o_limb fP fQ w i = (-2, 0) from if_neg (by omega))]; rfl) trivial)
