/-! the reel: numbers, tokens, the whole text -/
theorem tkE_s {A : Int → Int} {a : Int} (h : A (132 + a) = 32) : tkE A a = a + 1 := by
  have := rcl_c (A (132 + a))
  unfold tkE tkF; rw [if_neg (by omega), if_neg (by omega)]

set_option maxHeartbeats 4000000 in
set_option maxRecDepth 100000 in
theorem c_X5_takesPart (l : Launch) (D : va_G) (cI cZ : ClassId) (q : Nat) (a : Nat → Nat) (f : Int) (n : Int) (w : Int) (r : Int) (q3 : Nat) (g : Int → Int) (v : Int) (lo : Int) (hi_ : Int) (hn : 0 ≤ n ∧ n < 8) (hw : 0 ≤ w ∧ w ≤ 6) (hv : -2147483648 ≤ v ∧ v < 2147483648) (hlo : -2147483648 ≤ lo ∧ lo < 2147483648) (hhi : -2147483648 ≤ hi_ ∧ hi_ < 2147483648) : GM l D cI cZ yX5_takesPart cX5_takesPart 5 (some .boolean) ({ frames := 1, cells := 0, slots := 0, locals := 22 }) 0 0 false [.ref q, .ref q3, gi v, gi lo, gi hi_] [oR q a f n w r, gA cI q3 8 g] (gPxi (fun xo : Unit => gB (lo ≤ v ∧ v ≤ hi_)) (fun xo : Unit => [oR q a f n (w + 1) r, gA cI q3 8 (gupd g n v)]) (fun xo : Unit => True)) := by
  refine g_enterI (z := true) (lv0 := [(0, .ref q), (1, .ref q3), (2, gi v), (3, gi lo), (4, gi hi_)]) _ rfl (by decide) rfl rfl (fun V X ret => ?_)
  refine g_aload_n (pc := 0) X dX5_takesPart_0 1 rfl ?_
  refine g_aload_n (pc := 1) X dX5_takesPart_1 0 rfl ?_
  refine g_get (pc := 2) X fl_X5_31 dX5_takesPart_2 0 (v := gi n) rfl rfl ?_
  refine g_iload_n (pc := 5) X dX5_takesPart_5 2 rfl ?_
  refine gc_Nxv (pc := 6) X (wr := [oR q a f n w r]) (c_X8_lay l D cI cZ q3 8 g n v (by omega) rfl) lm_X5_101 dX5_takesPart_6 [1] [0] rfl rfl rfl rfl (by decide) rfl rfl rfl rfl (fun x6 hx6 => ?_)
  refine g_pick (cn := 0) (sl := 0) (st := []) X (ws' := [oR q a f n w r, gA cI q3 8 (ly 8 g n v)]) [0, 1] rfl rfl ?_
  rw [ly_in (n := 8) (f := g) (i := n) (v := v) (by omega)]
  refine g_aload_n (pc := 9) X dX5_takesPart_9 0 rfl ?_
  refine g_dup (pc := 10) X dX5_takesPart_10 rfl ?_
  refine g_get (pc := 11) X fl_X5_34 dX5_takesPart_11 0 (v := gi w) rfl rfl ?_
  refine g_iconst (pc := 14) X dX5_takesPart_14 ?_
  refine g_iadd (pc := 15) X dX5_takesPart_15 ?_
  refine g_put (pc := 16) X (ws' := [oR q a f n (w + 1) r, gA cI q3 8 (gupd g n v)]) fp_X5_34 dX5_takesPart_16 0 rfl rfl rfl rfl rfl ?_
  refine g_iload_n (pc := 19) X dX5_takesPart_19 2 rfl ?_
  refine g_iload_n (pc := 20) X dX5_takesPart_20 3 rfl ?_
  refine g_iload (pc := 21) X dX5_takesPart_21 4 rfl ?_
  refine gc_Ni (pc := 23) X (c_X8_fits l D cI cZ v lo hi_ (by omega) (by omega) (by omega)) lm_X5_73 dX5_takesPart_23 [] rfl rfl rfl rfl rfl rfl ?_
  exact ret _ _ _ _ _ _ dX5_takesPart_26 rfl rfl (fun _ => gB_iI) (gPxi_e () rfl rfl trivial)

set_option maxHeartbeats 4000000 in
set_option maxRecDepth 100000 in
theorem c_X5_takesNumber (l : Launch) (D : va_G) (cI cZ : ClassId) (q : Nat) (a : Nat → Nat) (f : Int) (n : Int) (w : Int) (r : Int) (P : Int → Int) (q2 : Nat) (a2 : Nat → Nat) (A : Int → Int) (v : Int) (hA : okA A) (hO : okR (A 0) w r n P) (hv : 0 ≤ v ∧ v ≤ 999) : GM l D cI cZ yX5_takesNumber cX5_takesNumber 3 (some .boolean) ({ frames := 2, cells := 0, slots := 0, locals := 46 }) 0 0 false [.ref q, .ref q2, gi v] [oR q a f n w r, gA cI (a 2) 8 (fun j => P (0 + j)), gA cI (a 3) 8 (fun j => P (8 + j)), gA cI (a 4) 8 (fun j => P (16 + j)), gA cI (a 5) 8 (fun j => P (24 + j)), gA cI (a 6) 8 (fun j => P (32 + j)), oF q2 a2 (A 0) (A 1) (A 2) (A 3) (A 4)] (gPxi (fun xo : Unit => gB ((tkM (A 0) w r n P v).1 = 1)) (fun xo : Unit => [oR q a f ((tkM (A 0) w r n P v).2.2.2.1) ((tkM (A 0) w r n P v).2.1) ((tkM (A 0) w r n P v).2.2.1), gA cI (a 2) 8 (fun j => (tkM (A 0) w r n P v).2.2.2.2 (0 + j)), gA cI (a 3) 8 (fun j => (tkM (A 0) w r n P v).2.2.2.2 (8 + j)), gA cI (a 4) 8 (fun j => (tkM (A 0) w r n P v).2.2.2.2 (16 + j)), gA cI (a 5) 8 (fun j => (tkM (A 0) w r n P v).2.2.2.2 (24 + j)), gA cI (a 6) 8 (fun j => (tkM (A 0) w r n P v).2.2.2.2 (32 + j)), oF q2 a2 (A 0) (A 1) (A 2) (A 3) (A 4)]) (fun xo : Unit => True)) := by
  refine g_enterI (z := true) (lv0 := [(0, .ref q), (1, .ref q2), (2, gi v)]) _ rfl (by decide) rfl rfl (fun V X ret => ?_)
  have h0_ := okA_0 hA
  have hw := hO.1.1
  have hn := hO.1.2.1
  have hr := hO.1.2.2.1
  refine g_aload_n (pc := 0) X dX5_takesNumber_0 0 rfl ?_
  refine g_get (pc := 1) X fl_X5_34 dX5_takesNumber_1 0 (v := gi w) rfl rfl ?_
  rcases (show w = 1 ∨ w = 2 ∨ w = 3 ∨ w = 4 ∨ w = 5 ∨ (w < 1 ∨ 5 < w) by omega) with h4 | h4 | h4 | h4 | h4 | h4
  · refine g_tableIn (pc := 4) X 40 dX5_takesNumber_4 (by omega) (by omega) (off := 36) (by rw [h4]; rfl) (by decide) ?_
    have hn4 := hO.1.2.2.2 (by omega) (by omega)
    refine g_aload_n (pc := 40) X dX5_takesNumber_40 0 rfl ?_
    refine g_aload_n (pc := 41) X dX5_takesNumber_41 0 rfl ?_
    refine g_get (pc := 42) X fl_X5_9 dX5_takesNumber_42 0 (v := .ref (a 2)) rfl rfl ?_
    refine g_iload_n (pc := 45) X dX5_takesNumber_45 2 rfl ?_
    refine g_aload_n (pc := 46) X dX5_takesNumber_46 0 rfl ?_
    refine g_get (pc := 47) X fl_X5_9 dX5_takesNumber_47 0 (v := .ref (a 2)) rfl rfl ?_
    refine g_aload_n (pc := 50) X dX5_takesNumber_50 0 rfl ?_
    refine g_get (pc := 51) X fl_X5_31 dX5_takesNumber_51 0 (v := gi n) rfl rfl ?_
    refine g_iconst (pc := 54) X dX5_takesNumber_54 ?_
    refine g_isub (pc := 55) X dX5_takesNumber_55 ?_
    refine gc_Ni (pc := 56) X (c_X8_look l D cI cZ (a 2) 8 (fun j => P (0 + j)) (n - 1) (by omega) rfl) lm_X5_58 dX5_takesNumber_56 [1] rfl rfl rfl rfl rfl rfl ?_
    refine g_top (b := (if n = 0 then 0 else P (n - 1))) (by rcases Classical.em (n = 0) with z | z; (rw [if_pos z]; exact lk_out (by omega)); (rw [if_neg z]; exact (lk_in (by omega)).trans (congrArg P (by omega)))) ?_
    have hlst : 0 ≤ (if n = 0 then 0 else P (n - 1)) ∧ (if n = 0 then 0 else P (n - 1)) ≤ 999 := by rcases Classical.em (n = 0) with z | z; (rw [if_pos z]; decide); (rw [if_neg z]; exact (hO.2.1 (n - 1) (by omega) (by omega)).1)
    refine g_sipush (pc := 59) X dX5_takesNumber_59 (by decide +kernel) ?_
    refine gc_Vxi (pc := 62) X (wr := [gA cI (a 3) 8 (fun j => P (8 + j)), gA cI (a 4) 8 (fun j => P (16 + j)), gA cI (a 5) 8 (fun j => P (24 + j)), gA cI (a 6) 8 (fun j => P (32 + j)), oF q2 a2 (A 0) (A 1) (A 2) (A 3) (A 4)]) (c_X5_takesPart l D cI cZ q a f n w r (a 2) (fun j => P (0 + j)) v (if n = 0 then 0 else P (n - 1)) 999 (by omega) (by omega) (by omega) (by omega) (by omega)) lm_X5_94 dX5_takesNumber_62 [0, 1] [2, 3, 4, 5, 6] rfl rfl rfl rfl (by decide) rfl rfl rfl rfl rfl rfl (fun x62 hx62 => ?_)
    refine g_pick (cn := 0) (sl := 0) (st := gi (gB ((if n = 0 then 0 else P (n - 1)) ≤ v ∧ v ≤ 999)) :: []) X (ws' := [oR q a f n (w + 1) r, gA cI (a 2) 8 (gupd (fun j => P (0 + j)) n v), gA cI (a 3) 8 (fun j => P (8 + j)), gA cI (a 4) 8 (fun j => P (16 + j)), gA cI (a 5) 8 (fun j => P (24 + j)), gA cI (a 6) 8 (fun j => P (32 + j)), oF q2 a2 (A 0) (A 1) (A 2) (A 3) (A 4)]) [5, 6, 0, 1, 2, 3, 4] rfl rfl ?_
    refine g_ws (ws' := [oR q a f n (w + 1) r, gA cI (a 2) 8 (fun j => (gupd P n v) (0 + j)), gA cI (a 3) 8 (fun j => (gupd P n v) (8 + j)), gA cI (a 4) 8 (fun j => (gupd P n v) (16 + j)), gA cI (a 5) 8 (fun j => (gupd P n v) (24 + j)), gA cI (a 6) 8 (fun j => (gupd P n v) (32 + j)), oF q2 a2 (A 0) (A 1) (A 2) (A 3) (A 4)]) (by rw [(show gA cI (a 2) 8 (gupd (fun j => P (0 + j)) n v) = gA cI (a 2) 8 (fun j => (gupd P n v) (0 + j)) from gA_ext (fun j j0 j1 => (by unfold gupd; (try dsimp only); (repeat' split) <;> first | rfl | (exfalso; omega)))), (show gA cI (a 3) 8 (fun j => P (8 + j)) = gA cI (a 3) 8 (fun j => (gupd P n v) (8 + j)) from gA_ext (fun j j0 j1 => (by unfold gupd; (try dsimp only); (repeat' split) <;> first | rfl | (exfalso; omega)))), (show gA cI (a 4) 8 (fun j => P (16 + j)) = gA cI (a 4) 8 (fun j => (gupd P n v) (16 + j)) from gA_ext (fun j j0 j1 => (by unfold gupd; (try dsimp only); (repeat' split) <;> first | rfl | (exfalso; omega)))), (show gA cI (a 5) 8 (fun j => P (24 + j)) = gA cI (a 5) 8 (fun j => (gupd P n v) (24 + j)) from gA_ext (fun j j0 j1 => (by unfold gupd; (try dsimp only); (repeat' split) <;> first | rfl | (exfalso; omega)))), (show gA cI (a 6) 8 (fun j => P (32 + j)) = gA cI (a 6) 8 (fun j => (gupd P n v) (32 + j)) from gA_ext (fun j j0 j1 => (by unfold gupd; (try dsimp only); (repeat' split) <;> first | rfl | (exfalso; omega))))]) ?_
    exact ret _ _ _ _ _ _ dX5_takesNumber_65 rfl rfl (fun _ => gB_iI) (gPxi_e () (by rw [(show tkM (A 0) w r n P v = (gB ((if n = 0 then 0 else P (n - 1)) ≤ v ∧ v ≤ 999), 2, r, n, gupd P n v) from if_pos (by omega))]; exact gB_1) (by rw [(show tkM (A 0) w r n P v = (gB ((if n = 0 then 0 else P (n - 1)) ≤ v ∧ v ≤ 999), 2, r, n, gupd P n v) from if_pos (by omega)), show w + 1 = 2 by omega]) trivial)
  · refine g_tableIn (pc := 4) X 66 dX5_takesNumber_4 (by omega) (by omega) (off := 62) (by rw [h4]; rfl) (by decide) ?_
    have hn4 := hO.1.2.2.2 (by omega) (by omega)
    refine g_aload_n (pc := 66) X dX5_takesNumber_66 0 rfl ?_
    refine g_aload_n (pc := 67) X dX5_takesNumber_67 0 rfl ?_
    refine g_get (pc := 68) X fl_X5_15 dX5_takesNumber_68 0 (v := .ref (a 3)) rfl rfl ?_
    refine g_iload_n (pc := 71) X dX5_takesNumber_71 2 rfl ?_
    refine g_iconst (pc := 72) X dX5_takesNumber_72 ?_
    refine g_aload_n (pc := 73) X dX5_takesNumber_73 1 rfl ?_
    refine g_get (pc := 74) X fl_X5_98 dX5_takesNumber_74 6 (v := gi (A 0)) rfl rfl ?_
    refine g_iconst (pc := 77) X dX5_takesNumber_77 ?_
    refine g_isub (pc := 78) X dX5_takesNumber_78 ?_
    refine gc_Vxi (pc := 79) X (wr := [gA cI (a 2) 8 (fun j => P (0 + j)), gA cI (a 4) 8 (fun j => P (16 + j)), gA cI (a 5) 8 (fun j => P (24 + j)), gA cI (a 6) 8 (fun j => P (32 + j)), oF q2 a2 (A 0) (A 1) (A 2) (A 3) (A 4)]) (c_X5_takesPart l D cI cZ q a f n w r (a 3) (fun j => P (8 + j)) v 0 (A 0 - 1) (by omega) (by omega) (by omega) (by omega) (by omega)) lm_X5_94 dX5_takesNumber_79 [0, 2] [1, 3, 4, 5, 6] rfl rfl rfl rfl (by decide) rfl rfl rfl rfl rfl rfl (fun x79 hx79 => ?_)
    refine g_pick (cn := 0) (sl := 0) (st := gi (gB (0 ≤ v ∧ v ≤ (A 0 - 1))) :: []) X (ws' := [oR q a f n (w + 1) r, gA cI (a 2) 8 (fun j => P (0 + j)), gA cI (a 3) 8 (gupd (fun j => P (8 + j)) n v), gA cI (a 4) 8 (fun j => P (16 + j)), gA cI (a 5) 8 (fun j => P (24 + j)), gA cI (a 6) 8 (fun j => P (32 + j)), oF q2 a2 (A 0) (A 1) (A 2) (A 3) (A 4)]) [5, 0, 6, 1, 2, 3, 4] rfl rfl ?_
    refine g_ws (ws' := [oR q a f n (w + 1) r, gA cI (a 2) 8 (fun j => (gupd P (8 + n) v) (0 + j)), gA cI (a 3) 8 (fun j => (gupd P (8 + n) v) (8 + j)), gA cI (a 4) 8 (fun j => (gupd P (8 + n) v) (16 + j)), gA cI (a 5) 8 (fun j => (gupd P (8 + n) v) (24 + j)), gA cI (a 6) 8 (fun j => (gupd P (8 + n) v) (32 + j)), oF q2 a2 (A 0) (A 1) (A 2) (A 3) (A 4)]) (by rw [(show gA cI (a 2) 8 (fun j => P (0 + j)) = gA cI (a 2) 8 (fun j => (gupd P (8 + n) v) (0 + j)) from gA_ext (fun j j0 j1 => (by unfold gupd; (try dsimp only); (repeat' split) <;> first | rfl | (exfalso; omega)))), (show gA cI (a 3) 8 (gupd (fun j => P (8 + j)) n v) = gA cI (a 3) 8 (fun j => (gupd P (8 + n) v) (8 + j)) from gA_ext (fun j j0 j1 => (by unfold gupd; (try dsimp only); (repeat' split) <;> first | rfl | (exfalso; omega)))), (show gA cI (a 4) 8 (fun j => P (16 + j)) = gA cI (a 4) 8 (fun j => (gupd P (8 + n) v) (16 + j)) from gA_ext (fun j j0 j1 => (by unfold gupd; (try dsimp only); (repeat' split) <;> first | rfl | (exfalso; omega)))), (show gA cI (a 5) 8 (fun j => P (24 + j)) = gA cI (a 5) 8 (fun j => (gupd P (8 + n) v) (24 + j)) from gA_ext (fun j j0 j1 => (by unfold gupd; (try dsimp only); (repeat' split) <;> first | rfl | (exfalso; omega)))), (show gA cI (a 6) 8 (fun j => P (32 + j)) = gA cI (a 6) 8 (fun j => (gupd P (8 + n) v) (32 + j)) from gA_ext (fun j j0 j1 => (by unfold gupd; (try dsimp only); (repeat' split) <;> first | rfl | (exfalso; omega))))]) ?_
    exact ret _ _ _ _ _ _ dX5_takesNumber_82 rfl rfl (fun _ => gB_iI) (gPxi_e () (by rw [(show tkM (A 0) w r n P v = (gB (0 ≤ v ∧ v ≤ A 0 - 1), 3, r, n, gupd P (8 + n) v) from (if_neg (by omega)).trans (if_pos (by omega)))]; exact gB_1) (by rw [(show tkM (A 0) w r n P v = (gB (0 ≤ v ∧ v ≤ A 0 - 1), 3, r, n, gupd P (8 + n) v) from (if_neg (by omega)).trans (if_pos (by omega))), show w + 1 = 3 by omega]) trivial)
  · refine g_tableIn (pc := 4) X 83 dX5_takesNumber_4 (by omega) (by omega) (off := 79) (by rw [h4]; rfl) (by decide) ?_
    have hn4 := hO.1.2.2.2 (by omega) (by omega)
    refine g_aload_n (pc := 83) X dX5_takesNumber_83 0 rfl ?_
    refine g_aload_n (pc := 84) X dX5_takesNumber_84 0 rfl ?_
    refine g_get (pc := 85) X fl_X5_18 dX5_takesNumber_85 0 (v := .ref (a 4)) rfl rfl ?_
    refine g_iload_n (pc := 88) X dX5_takesNumber_88 2 rfl ?_
    refine g_iconst (pc := 89) X dX5_takesNumber_89 ?_
    refine g_bipush (pc := 90) X dX5_takesNumber_90 (by decide +kernel) ?_
    refine gc_Vxi (pc := 92) X (wr := [gA cI (a 2) 8 (fun j => P (0 + j)), gA cI (a 3) 8 (fun j => P (8 + j)), gA cI (a 5) 8 (fun j => P (24 + j)), gA cI (a 6) 8 (fun j => P (32 + j)), oF q2 a2 (A 0) (A 1) (A 2) (A 3) (A 4)]) (c_X5_takesPart l D cI cZ q a f n w r (a 4) (fun j => P (16 + j)) v 0 9 (by omega) (by omega) (by omega) (by omega) (by omega)) lm_X5_94 dX5_takesNumber_92 [0, 3] [1, 2, 4, 5, 6] rfl rfl rfl rfl (by decide) rfl rfl rfl rfl rfl rfl (fun x92 hx92 => ?_)
    refine g_pick (cn := 0) (sl := 0) (st := gi (gB (0 ≤ v ∧ v ≤ 9)) :: []) X (ws' := [oR q a f n (w + 1) r, gA cI (a 2) 8 (fun j => P (0 + j)), gA cI (a 3) 8 (fun j => P (8 + j)), gA cI (a 4) 8 (gupd (fun j => P (16 + j)) n v), gA cI (a 5) 8 (fun j => P (24 + j)), gA cI (a 6) 8 (fun j => P (32 + j)), oF q2 a2 (A 0) (A 1) (A 2) (A 3) (A 4)]) [5, 0, 1, 6, 2, 3, 4] rfl rfl ?_
    refine g_ws (ws' := [oR q a f n (w + 1) r, gA cI (a 2) 8 (fun j => (gupd P (16 + n) v) (0 + j)), gA cI (a 3) 8 (fun j => (gupd P (16 + n) v) (8 + j)), gA cI (a 4) 8 (fun j => (gupd P (16 + n) v) (16 + j)), gA cI (a 5) 8 (fun j => (gupd P (16 + n) v) (24 + j)), gA cI (a 6) 8 (fun j => (gupd P (16 + n) v) (32 + j)), oF q2 a2 (A 0) (A 1) (A 2) (A 3) (A 4)]) (by rw [(show gA cI (a 2) 8 (fun j => P (0 + j)) = gA cI (a 2) 8 (fun j => (gupd P (16 + n) v) (0 + j)) from gA_ext (fun j j0 j1 => (by unfold gupd; (try dsimp only); (repeat' split) <;> first | rfl | (exfalso; omega)))), (show gA cI (a 3) 8 (fun j => P (8 + j)) = gA cI (a 3) 8 (fun j => (gupd P (16 + n) v) (8 + j)) from gA_ext (fun j j0 j1 => (by unfold gupd; (try dsimp only); (repeat' split) <;> first | rfl | (exfalso; omega)))), (show gA cI (a 4) 8 (gupd (fun j => P (16 + j)) n v) = gA cI (a 4) 8 (fun j => (gupd P (16 + n) v) (16 + j)) from gA_ext (fun j j0 j1 => (by unfold gupd; (try dsimp only); (repeat' split) <;> first | rfl | (exfalso; omega)))), (show gA cI (a 5) 8 (fun j => P (24 + j)) = gA cI (a 5) 8 (fun j => (gupd P (16 + n) v) (24 + j)) from gA_ext (fun j j0 j1 => (by unfold gupd; (try dsimp only); (repeat' split) <;> first | rfl | (exfalso; omega)))), (show gA cI (a 6) 8 (fun j => P (32 + j)) = gA cI (a 6) 8 (fun j => (gupd P (16 + n) v) (32 + j)) from gA_ext (fun j j0 j1 => (by unfold gupd; (try dsimp only); (repeat' split) <;> first | rfl | (exfalso; omega))))]) ?_
    exact ret _ _ _ _ _ _ dX5_takesNumber_95 rfl rfl (fun _ => gB_iI) (gPxi_e () (by rw [(show tkM (A 0) w r n P v = (gB (0 ≤ v ∧ v ≤ 9), 4, r, n, gupd P (16 + n) v) from (if_neg (by omega)).trans ((if_neg (by omega)).trans (if_pos (by omega))))]; exact gB_1) (by rw [(show tkM (A 0) w r n P v = (gB (0 ≤ v ∧ v ≤ 9), 4, r, n, gupd P (16 + n) v) from (if_neg (by omega)).trans ((if_neg (by omega)).trans (if_pos (by omega)))), show w + 1 = 4 by omega]) trivial)
  · refine g_tableIn (pc := 4) X 96 dX5_takesNumber_4 (by omega) (by omega) (off := 92) (by rw [h4]; rfl) (by decide) ?_
    have hn4 := hO.1.2.2.2 (by omega) (by omega)
    refine g_aload_n (pc := 96) X dX5_takesNumber_96 0 rfl ?_
    refine g_aload_n (pc := 97) X dX5_takesNumber_97 0 rfl ?_
    refine g_get (pc := 98) X fl_X5_21 dX5_takesNumber_98 0 (v := .ref (a 5)) rfl rfl ?_
    refine g_iload_n (pc := 101) X dX5_takesNumber_101 2 rfl ?_
    refine g_iconst (pc := 102) X dX5_takesNumber_102 ?_
    refine g_bipush (pc := 103) X dX5_takesNumber_103 (by decide +kernel) ?_
    refine gc_Vxi (pc := 105) X (wr := [gA cI (a 2) 8 (fun j => P (0 + j)), gA cI (a 3) 8 (fun j => P (8 + j)), gA cI (a 4) 8 (fun j => P (16 + j)), gA cI (a 6) 8 (fun j => P (32 + j)), oF q2 a2 (A 0) (A 1) (A 2) (A 3) (A 4)]) (c_X5_takesPart l D cI cZ q a f n w r (a 5) (fun j => P (24 + j)) v 0 9 (by omega) (by omega) (by omega) (by omega) (by omega)) lm_X5_94 dX5_takesNumber_105 [0, 4] [1, 2, 3, 5, 6] rfl rfl rfl rfl (by decide) rfl rfl rfl rfl rfl rfl (fun x105 hx105 => ?_)
    refine g_pick (cn := 0) (sl := 0) (st := gi (gB (0 ≤ v ∧ v ≤ 9)) :: []) X (ws' := [oR q a f n (w + 1) r, gA cI (a 2) 8 (fun j => P (0 + j)), gA cI (a 3) 8 (fun j => P (8 + j)), gA cI (a 4) 8 (fun j => P (16 + j)), gA cI (a 5) 8 (gupd (fun j => P (24 + j)) n v), gA cI (a 6) 8 (fun j => P (32 + j)), oF q2 a2 (A 0) (A 1) (A 2) (A 3) (A 4)]) [5, 0, 1, 2, 6, 3, 4] rfl rfl ?_
    refine g_ifneB (pc := 108) X 113 dX5_takesNumber_108 (by decide) (fun h108 => ?_) (fun h108 => ?_)
    · refine g_aload_n (pc := 113) X dX5_takesNumber_113 0 rfl ?_
      refine g_get (pc := 114) X fl_X5_24 dX5_takesNumber_114 0 (v := .ref (a 6)) rfl rfl ?_
      refine g_aload_n (pc := 117) X dX5_takesNumber_117 0 rfl ?_
      refine g_dup (pc := 118) X dX5_takesNumber_118 rfl ?_
      refine g_get (pc := 119) X fl_X5_31 dX5_takesNumber_119 0 (v := gi n) rfl rfl ?_
      refine g_dup_x1 (pc := 122) X dX5_takesNumber_122 rfl rfl ?_
      refine g_iconst (pc := 123) X dX5_takesNumber_123 ?_
      refine g_iadd (pc := 124) X dX5_takesNumber_124 ?_
      refine g_put (pc := 125) X (ws' := [oR q a f (n + 1) (w + 1) r, gA cI (a 2) 8 (fun j => P (0 + j)), gA cI (a 3) 8 (fun j => P (8 + j)), gA cI (a 4) 8 (fun j => P (16 + j)), gA cI (a 5) 8 (gupd (fun j => P (24 + j)) n v), gA cI (a 6) 8 (fun j => P (32 + j)), oF q2 a2 (A 0) (A 1) (A 2) (A 3) (A 4)]) fp_X5_31 dX5_takesNumber_125 0 rfl rfl rfl rfl rfl ?_
      refine g_aload_n (pc := 128) X dX5_takesNumber_128 0 rfl ?_
      refine g_get (pc := 129) X fl_X5_37 dX5_takesNumber_129 0 (v := gi r) rfl rfl ?_
      refine gc_Nxv (pc := 132) X (wr := [oR q a f (n + 1) (w + 1) r, gA cI (a 2) 8 (fun j => P (0 + j)), gA cI (a 3) 8 (fun j => P (8 + j)), gA cI (a 4) 8 (fun j => P (16 + j)), gA cI (a 5) 8 (gupd (fun j => P (24 + j)) n v), oF q2 a2 (A 0) (A 1) (A 2) (A 3) (A 4)]) (c_X8_lay l D cI cZ (a 6) 8 (fun j => P (32 + j)) n r (by omega) rfl) lm_X5_101 dX5_takesNumber_132 [5] [0, 1, 2, 3, 4, 6] rfl rfl rfl rfl (by decide) rfl rfl rfl rfl (fun x132 hx132 => ?_)
      refine g_pick (cn := 0) (sl := 0) (st := []) X (ws' := [oR q a f (n + 1) (w + 1) r, gA cI (a 2) 8 (fun j => P (0 + j)), gA cI (a 3) 8 (fun j => P (8 + j)), gA cI (a 4) 8 (fun j => P (16 + j)), gA cI (a 5) 8 (gupd (fun j => P (24 + j)) n v), gA cI (a 6) 8 (ly 8 (fun j => P (32 + j)) n r), oF q2 a2 (A 0) (A 1) (A 2) (A 3) (A 4)]) [0, 1, 2, 3, 4, 6, 5] rfl rfl ?_
      rw [ly_in (n := 8) (f := fun j => P (32 + j)) (i := n) (v := r) (by omega)]
      refine g_aload_n (pc := 135) X dX5_takesNumber_135 0 rfl ?_
      refine g_bipush (pc := 136) X dX5_takesNumber_136 (by decide +kernel) ?_
      refine g_put (pc := 138) X (ws' := [oR q a f (n + 1) 6 r, gA cI (a 2) 8 (fun j => P (0 + j)), gA cI (a 3) 8 (fun j => P (8 + j)), gA cI (a 4) 8 (fun j => P (16 + j)), gA cI (a 5) 8 (gupd (fun j => P (24 + j)) n v), gA cI (a 6) 8 (gupd (fun j => P (32 + j)) n r), oF q2 a2 (A 0) (A 1) (A 2) (A 3) (A 4)]) fp_X5_34 dX5_takesNumber_138 0 rfl rfl rfl rfl rfl ?_
      refine g_iconst (pc := 141) X dX5_takesNumber_141 ?_
      refine g_ws (ws' := [oR q a f (n + 1) 6 r, gA cI (a 2) 8 (fun j => (gupd (gupd P (24 + n) v) (32 + n) r) (0 + j)), gA cI (a 3) 8 (fun j => (gupd (gupd P (24 + n) v) (32 + n) r) (8 + j)), gA cI (a 4) 8 (fun j => (gupd (gupd P (24 + n) v) (32 + n) r) (16 + j)), gA cI (a 5) 8 (fun j => (gupd (gupd P (24 + n) v) (32 + n) r) (24 + j)), gA cI (a 6) 8 (fun j => (gupd (gupd P (24 + n) v) (32 + n) r) (32 + j)), oF q2 a2 (A 0) (A 1) (A 2) (A 3) (A 4)]) (by rw [(show gA cI (a 2) 8 (fun j => P (0 + j)) = gA cI (a 2) 8 (fun j => (gupd (gupd P (24 + n) v) (32 + n) r) (0 + j)) from gA_ext (fun j j0 j1 => (by unfold gupd; (try dsimp only); (repeat' split) <;> first | rfl | (exfalso; omega)))), (show gA cI (a 3) 8 (fun j => P (8 + j)) = gA cI (a 3) 8 (fun j => (gupd (gupd P (24 + n) v) (32 + n) r) (8 + j)) from gA_ext (fun j j0 j1 => (by unfold gupd; (try dsimp only); (repeat' split) <;> first | rfl | (exfalso; omega)))), (show gA cI (a 4) 8 (fun j => P (16 + j)) = gA cI (a 4) 8 (fun j => (gupd (gupd P (24 + n) v) (32 + n) r) (16 + j)) from gA_ext (fun j j0 j1 => (by unfold gupd; (try dsimp only); (repeat' split) <;> first | rfl | (exfalso; omega)))), (show gA cI (a 5) 8 (gupd (fun j => P (24 + j)) n v) = gA cI (a 5) 8 (fun j => (gupd (gupd P (24 + n) v) (32 + n) r) (24 + j)) from gA_ext (fun j j0 j1 => (by unfold gupd; (try dsimp only); (repeat' split) <;> first | rfl | (exfalso; omega)))), (show gA cI (a 6) 8 (gupd (fun j => P (32 + j)) n r) = gA cI (a 6) 8 (fun j => (gupd (gupd P (24 + n) v) (32 + n) r) (32 + j)) from gA_ext (fun j j0 j1 => (by unfold gupd; (try dsimp only); (repeat' split) <;> first | rfl | (exfalso; omega))))]) ?_
      exact ret _ _ _ _ _ _ dX5_takesNumber_142 rfl rfl (fun _ => Or.inr rfl) (gPxi_e () (by rw [(show tkM (A 0) w r n P v = (1, 6, r, n + 1, gupd (gupd P (24 + n) v) (32 + n) r) from (if_neg (by omega)).trans ((if_neg (by omega)).trans ((if_neg (by omega)).trans ((if_pos (by omega)).trans (if_pos (by omega))))))]; rfl) (by rw [(show tkM (A 0) w r n P v = (1, 6, r, n + 1, gupd (gupd P (24 + n) v) (32 + n) r) from (if_neg (by omega)).trans ((if_neg (by omega)).trans ((if_neg (by omega)).trans ((if_pos (by omega)).trans (if_pos (by omega))))))]) trivial)
    · refine g_iconst (pc := 111) X dX5_takesNumber_111 ?_
      refine g_ws (ws' := [oR q a f n (w + 1) r, gA cI (a 2) 8 (fun j => (gupd P (24 + n) v) (0 + j)), gA cI (a 3) 8 (fun j => (gupd P (24 + n) v) (8 + j)), gA cI (a 4) 8 (fun j => (gupd P (24 + n) v) (16 + j)), gA cI (a 5) 8 (fun j => (gupd P (24 + n) v) (24 + j)), gA cI (a 6) 8 (fun j => (gupd P (24 + n) v) (32 + j)), oF q2 a2 (A 0) (A 1) (A 2) (A 3) (A 4)]) (by rw [(show gA cI (a 2) 8 (fun j => P (0 + j)) = gA cI (a 2) 8 (fun j => (gupd P (24 + n) v) (0 + j)) from gA_ext (fun j j0 j1 => (by unfold gupd; (try dsimp only); (repeat' split) <;> first | rfl | (exfalso; omega)))), (show gA cI (a 3) 8 (fun j => P (8 + j)) = gA cI (a 3) 8 (fun j => (gupd P (24 + n) v) (8 + j)) from gA_ext (fun j j0 j1 => (by unfold gupd; (try dsimp only); (repeat' split) <;> first | rfl | (exfalso; omega)))), (show gA cI (a 4) 8 (fun j => P (16 + j)) = gA cI (a 4) 8 (fun j => (gupd P (24 + n) v) (16 + j)) from gA_ext (fun j j0 j1 => (by unfold gupd; (try dsimp only); (repeat' split) <;> first | rfl | (exfalso; omega)))), (show gA cI (a 5) 8 (gupd (fun j => P (24 + j)) n v) = gA cI (a 5) 8 (fun j => (gupd P (24 + n) v) (24 + j)) from gA_ext (fun j j0 j1 => (by unfold gupd; (try dsimp only); (repeat' split) <;> first | rfl | (exfalso; omega)))), (show gA cI (a 6) 8 (fun j => P (32 + j)) = gA cI (a 6) 8 (fun j => (gupd P (24 + n) v) (32 + j)) from gA_ext (fun j j0 j1 => (by unfold gupd; (try dsimp only); (repeat' split) <;> first | rfl | (exfalso; omega))))]) ?_
      exact ret _ _ _ _ _ _ dX5_takesNumber_112 rfl rfl (fun _ => Or.inl rfl) (gPxi_e () (by rw [(show tkM (A 0) w r n P v = (0, 5, r, n, gupd P (24 + n) v) from (if_neg (by omega)).trans ((if_neg (by omega)).trans ((if_neg (by omega)).trans ((if_pos (by omega)).trans (if_neg (by omega))))))]; rfl) (by rw [(show tkM (A 0) w r n P v = (0, 5, r, n, gupd P (24 + n) v) from (if_neg (by omega)).trans ((if_neg (by omega)).trans ((if_neg (by omega)).trans ((if_pos (by omega)).trans (if_neg (by omega)))))), show w + 1 = 5 by omega]) trivial)
  · refine g_tableIn (pc := 4) X 143 dX5_takesNumber_4 (by omega) (by omega) (off := 139) (by rw [h4]; rfl) (by decide) ?_
    refine g_aload_n (pc := 143) X dX5_takesNumber_143 0 rfl ?_
    refine g_iload_n (pc := 144) X dX5_takesNumber_144 2 rfl ?_
    refine g_put (pc := 145) X (ws' := [oR q a f n w v, gA cI (a 2) 8 (fun j => P (0 + j)), gA cI (a 3) 8 (fun j => P (8 + j)), gA cI (a 4) 8 (fun j => P (16 + j)), gA cI (a 5) 8 (fun j => P (24 + j)), gA cI (a 6) 8 (fun j => P (32 + j)), oF q2 a2 (A 0) (A 1) (A 2) (A 3) (A 4)]) fp_X5_37 dX5_takesNumber_145 0 rfl rfl rfl rfl rfl ?_
    refine g_aload_n (pc := 148) X dX5_takesNumber_148 0 rfl ?_
    refine g_bipush (pc := 149) X dX5_takesNumber_149 (by decide +kernel) ?_
    refine g_put (pc := 151) X (ws' := [oR q a f n 6 v, gA cI (a 2) 8 (fun j => P (0 + j)), gA cI (a 3) 8 (fun j => P (8 + j)), gA cI (a 4) 8 (fun j => P (16 + j)), gA cI (a 5) 8 (fun j => P (24 + j)), gA cI (a 6) 8 (fun j => P (32 + j)), oF q2 a2 (A 0) (A 1) (A 2) (A 3) (A 4)]) fp_X5_34 dX5_takesNumber_151 0 rfl rfl rfl rfl rfl ?_
    refine g_iload_n (pc := 154) X dX5_takesNumber_154 2 rfl ?_
    refine g_bipush (pc := 155) X dX5_takesNumber_155 (by decide +kernel) ?_
    refine g_icmpgt (pc := 157) X 164 dX5_takesNumber_157 (by decide) (by omega) (by omega) (fun h157 => ?_) (fun h157 => ?_)
    · refine g_iconst (pc := 164) X dX5_takesNumber_164 ?_
      exact ret _ _ _ _ _ _ dX5_takesNumber_165 rfl rfl (fun _ => Or.inl rfl) (gPxi_e () (by rw [(show tkM (A 0) w r n P v = (gB (v ≤ 9), 6, v, n, P) from (if_neg (by omega)).trans ((if_neg (by omega)).trans ((if_neg (by omega)).trans ((if_neg (by omega)).trans (if_pos (by omega))))))]; exact (gB_f (by rw [gB_10]; omega)).symm) (by rw [(show tkM (A 0) w r n P v = (gB (v ≤ 9), 6, v, n, P) from (if_neg (by omega)).trans ((if_neg (by omega)).trans ((if_neg (by omega)).trans ((if_neg (by omega)).trans (if_pos (by omega))))))]) trivial)
    · refine g_iconst (pc := 160) X dX5_takesNumber_160 ?_
      refine g_goto (pc := 161) X 165 dX5_takesNumber_161 (by decide) ?_
      exact ret _ _ _ _ _ _ dX5_takesNumber_165 rfl rfl (fun _ => Or.inr rfl) (gPxi_e () (by rw [(show tkM (A 0) w r n P v = (gB (v ≤ 9), 6, v, n, P) from (if_neg (by omega)).trans ((if_neg (by omega)).trans ((if_neg (by omega)).trans ((if_neg (by omega)).trans (if_pos (by omega))))))]; exact (gB_t (by rw [gB_10]; omega)).symm) (by rw [(show tkM (A 0) w r n P v = (gB (v ≤ 9), 6, v, n, P) from (if_neg (by omega)).trans ((if_neg (by omega)).trans ((if_neg (by omega)).trans ((if_neg (by omega)).trans (if_pos (by omega))))))]) trivial)
  · refine g_tableOut (pc := 4) X 166 dX5_takesNumber_4 (by omega) (by omega) (by decide) ?_
    refine g_iconst (pc := 166) X dX5_takesNumber_166 ?_
    exact ret _ _ _ _ _ _ dX5_takesNumber_167 rfl rfl (fun _ => Or.inl rfl) (gPxi_e () (by rw [(show tkM (A 0) w r n P v = (0, w, r, n, P) from (if_neg (by omega)).trans ((if_neg (by omega)).trans ((if_neg (by omega)).trans ((if_neg (by omega)).trans (if_neg (by omega))))))]; rfl) (by rw [(show tkM (A 0) w r n P v = (0, w, r, n, P) from (if_neg (by omega)).trans ((if_neg (by omega)).trans ((if_neg (by omega)).trans ((if_neg (by omega)).trans (if_neg (by omega))))))]) trivial)

set_option maxHeartbeats 4000000 in
set_option maxRecDepth 100000 in
theorem c_X5_takes (l : Launch) (D : va_G) (cI cZ : ClassId) (q : Nat) (a : Nat → Nat) (f : Int) (n : Int) (w : Int) (r : Int) (P : Int → Int) (q2 : Nat) (a2 : Nat → Nat) (A : Int → Int) (t : Int) (e : Int) (hA : okA A) (hO : okR (A 0) w r n P) (ht : 0 ≤ t ∧ t < A 2) (he : e = tkE A t) : GM l D cI cZ yX5_takes cX5_takes 5 (some .boolean) ({ frames := 3, cells := 0, slots := 0, locals := 68 }) 0 0 false [.ref q, .ref q2, gi t, gi e] [oR q a f n w r, gA cI (a 2) 8 (fun j => P (0 + j)), gA cI (a 3) 8 (fun j => P (8 + j)), gA cI (a 4) 8 (fun j => P (16 + j)), gA cI (a 5) 8 (fun j => P (24 + j)), gA cI (a 6) 8 (fun j => P (32 + j)), oF q2 a2 (A 0) (A 1) (A 2) (A 3) (A 4), gA cI (a2 9) 200 (fun j => A (132 + j))] (gPxi (fun xo : Unit => gB ((tkA A t e w r n P).1 = 1)) (fun xo : Unit => [oR q a f ((tkA A t e w r n P).2.2.2.1) ((tkA A t e w r n P).2.1) ((tkA A t e w r n P).2.2.1), gA cI (a 2) 8 (fun j => (tkA A t e w r n P).2.2.2.2 (0 + j)), gA cI (a 3) 8 (fun j => (tkA A t e w r n P).2.2.2.2 (8 + j)), gA cI (a 4) 8 (fun j => (tkA A t e w r n P).2.2.2.2 (16 + j)), gA cI (a 5) 8 (fun j => (tkA A t e w r n P).2.2.2.2 (24 + j)), gA cI (a 6) 8 (fun j => (tkA A t e w r n P).2.2.2.2 (32 + j)), oF q2 a2 (A 0) (A 1) (A 2) (A 3) (A 4), gA cI (a2 9) 200 (fun j => A (132 + j))]) (fun xo : Unit => True)) := by
  refine g_enterI (z := true) (lv0 := [(0, .ref q), (1, .ref q2), (2, gi t), (3, gi e)]) _ rfl (by decide) rfl rfl (fun V X ret => ?_)
  have h0_ := okA_0 hA
  have hA2 := okA_2 hA
  have hw := hO.1.1
  have hn := hO.1.2.1
  have hr := hO.1.2.2.1
  have h132_ := okA_r hA (j := 132 + t) (by omega)
  have hcc := rcl_c (A (132 + t))
  have heb := tkE_b ht.2
  rw [← he] at heb
  refine g_aload_n (pc := 0) X dX5_takes_0 1 rfl ?_
  refine g_get (pc := 1) X fl_X5_55 dX5_takes_1 6 (v := .ref (a2 9)) rfl rfl ?_
  refine g_iload_n (pc := 4) X dX5_takes_4 2 rfl ?_
  refine gc_Ni (pc := 5) X (c_X8_look l D cI cZ (a2 9) 200 (fun j => A (132 + j)) t (by omega) rfl) lm_X5_58 dX5_takes_5 [7] rfl rfl rfl rfl rfl rfl ?_
  refine g_top (b := A (132 + t)) (lk_in (by omega)) ?_
  refine g_istore (pc := 8) X (lv' := [(0, .ref q), (1, .ref q2), (2, gi t), (3, gi e), (4, gi (A (132 + t)))]) dX5_takes_8 rfl rfl ?_
  refine g_iload (pc := 10) X dX5_takes_10 4 rfl ?_
  refine gc_Si (pc := 12) X (c_X5_isLetter l D cI cZ (A (132 + t)) (by omega)) lm_X5_66 dX5_takes_12 [] rfl rfl rfl rfl rfl rfl ?_
  refine g_ifeqB (pc := 15) X 26 dX5_takes_15 (by decide) (fun h15 => ?_) (fun h15 => ?_)
  · refine g_iload (pc := 26) X dX5_takes_26 4 rfl ?_
    refine gc_Si (pc := 28) X (c_X5_isFigure l D cI cZ (A (132 + t)) (by omega)) lm_X5_70 dX5_takes_28 [] rfl rfl rfl rfl rfl rfl ?_
    refine g_ifeqB (pc := 31) X 61 dX5_takes_31 (by decide) (fun h31 => ?_) (fun h31 => ?_)
    · refine g_iload (pc := 61) X dX5_takes_61 4 rfl ?_
      refine g_bipush (pc := 63) X dX5_takes_63 (by decide +kernel) ?_
      refine g_icmpne (pc := 65) X 77 dX5_takes_65 (by decide) (by omega) (by omega) (fun h65 => ?_) (fun h65 => ?_)
      · refine g_iconst (pc := 77) X dX5_takes_77 ?_
        exact ret _ _ _ _ _ _ dX5_takes_78 rfl rfl (fun _ => Or.inl rfl) (gPxi_e () (by rw [(show tkA A t e w r n P = (0, w, r, n, P) from (if_neg (by omega)).trans ((if_neg (by omega)).trans (if_neg (by omega))))]; rfl) (by rw [(show tkA A t e w r n P = (0, w, r, n, P) from (if_neg (by omega)).trans ((if_neg (by omega)).trans (if_neg (by omega))))]) trivial)
      · refine g_aload_n (pc := 68) X dX5_takes_68 0 rfl ?_
        refine g_get (pc := 69) X fl_X5_34 dX5_takes_69 0 (v := gi w) rfl rfl ?_
        refine g_bipush (pc := 72) X dX5_takes_72 (by decide +kernel) ?_
        refine g_icmpeq (pc := 74) X 79 dX5_takes_74 (by decide) (by omega) (by omega) (fun h74 => ?_) (fun h74 => ?_)
        · refine g_aload_n (pc := 79) X dX5_takes_79 0 rfl ?_
          refine g_iconst (pc := 80) X dX5_takes_80 ?_
          refine g_put (pc := 81) X (ws' := [oR q a f n 0 r, gA cI (a 2) 8 (fun j => P (0 + j)), gA cI (a 3) 8 (fun j => P (8 + j)), gA cI (a 4) 8 (fun j => P (16 + j)), gA cI (a 5) 8 (fun j => P (24 + j)), gA cI (a 6) 8 (fun j => P (32 + j)), oF q2 a2 (A 0) (A 1) (A 2) (A 3) (A 4), gA cI (a2 9) 200 (fun j => A (132 + j))]) fp_X5_34 dX5_takes_81 0 rfl rfl rfl rfl rfl ?_
          refine g_iconst (pc := 84) X dX5_takes_84 ?_
          exact ret _ _ _ _ _ _ dX5_takes_85 rfl rfl (fun _ => Or.inr rfl) (gPxi_e () (by rw [(show tkA A t e w r n P = (1, 0, r, n, P) from (if_neg (by omega)).trans ((if_neg (by omega)).trans (if_pos (by omega))))]; rfl) (by rw [(show tkA A t e w r n P = (1, 0, r, n, P) from (if_neg (by omega)).trans ((if_neg (by omega)).trans (if_pos (by omega))))]) trivial)
        · refine g_iconst (pc := 77) X dX5_takes_77 ?_
          exact ret _ _ _ _ _ _ dX5_takes_78 rfl rfl (fun _ => Or.inl rfl) (gPxi_e () (by rw [(show tkA A t e w r n P = (0, w, r, n, P) from (if_neg (by omega)).trans ((if_neg (by omega)).trans (if_neg (by omega))))]; rfl) (by rw [(show tkA A t e w r n P = (0, w, r, n, P) from (if_neg (by omega)).trans ((if_neg (by omega)).trans (if_neg (by omega))))]) trivial)
    · refine g_iload_n (pc := 34) X dX5_takes_34 3 rfl ?_
      refine g_iload_n (pc := 35) X dX5_takes_35 2 rfl ?_
      refine g_isub (pc := 36) X dX5_takes_36 ?_
      refine g_iconst (pc := 37) X dX5_takes_37 ?_
      refine g_icmpgt (pc := 38) X 59 dX5_takes_38 (by decide) (by omega) (by omega) (fun h38 => ?_) (fun h38 => ?_)
      · refine g_iconst (pc := 59) X dX5_takes_59 ?_
        exact ret _ _ _ _ _ _ dX5_takes_60 rfl rfl (fun _ => Or.inl rfl) (gPxi_e () (by rw [(show tkA A t e w r n P = (0, w, r, n, P) from (if_neg (by omega)).trans ((if_pos (by omega)).trans (if_neg (by omega))))]; rfl) (by rw [(show tkA A t e w r n P = (0, w, r, n, P) from (if_neg (by omega)).trans ((if_pos (by omega)).trans (if_neg (by omega))))]) trivial)
      · have hfig : ∀ j, t ≤ j → j < e → 48 ≤ A (132 + j) ∧ A (132 + j) ≤ 57 := by rw [he]; exact tkE_2 (by omega)
        refine g_aload_n (pc := 41) X dX5_takes_41 0 rfl ?_
        refine g_aload_n (pc := 42) X dX5_takes_42 1 rfl ?_
        refine g_aload_n (pc := 43) X dX5_takes_43 1 rfl ?_
        refine g_iload_n (pc := 44) X dX5_takes_44 2 rfl ?_
        refine g_iload_n (pc := 45) X dX5_takes_45 3 rfl ?_
        refine gc_Si (pc := 46) X (c_X5_numberOf l D cI cZ q2 a2 A t e hA (by omega) (by omega) (by omega) hfig) lm_X5_80 dX5_takes_46 [6, 7] rfl rfl rfl rfl rfl rfl ?_
        have hnb := nmv_b hfig (by omega)
        refine gc_Vxi (pc := 49) X (wr := [gA cI (a2 9) 200 (fun j => A (132 + j))]) (c_X5_takesNumber l D cI cZ q a f n w r P q2 a2 _ (nmv A t e) hA (by omega) (by omega)) lm_X5_84 dX5_takes_49 [0, 1, 2, 3, 4, 5, 6] [7] rfl rfl rfl rfl (by decide) rfl rfl rfl rfl rfl rfl (fun x49 hx49 => ?_)
        refine g_pick (cn := 0) (sl := 0) (st := gi (gB ((tkM (A 0) w r n P (nmv A t e)).1 = 1)) :: []) X (ws' := [oR q a f ((tkM (A 0) w r n P (nmv A t e)).2.2.2.1) ((tkM (A 0) w r n P (nmv A t e)).2.1) ((tkM (A 0) w r n P (nmv A t e)).2.2.1), gA cI (a 2) 8 (fun j => (tkM (A 0) w r n P (nmv A t e)).2.2.2.2 (0 + j)), gA cI (a 3) 8 (fun j => (tkM (A 0) w r n P (nmv A t e)).2.2.2.2 (8 + j)), gA cI (a 4) 8 (fun j => (tkM (A 0) w r n P (nmv A t e)).2.2.2.2 (16 + j)), gA cI (a 5) 8 (fun j => (tkM (A 0) w r n P (nmv A t e)).2.2.2.2 (24 + j)), gA cI (a 6) 8 (fun j => (tkM (A 0) w r n P (nmv A t e)).2.2.2.2 (32 + j)), oF q2 a2 (A 0) (A 1) (A 2) (A 3) (A 4), gA cI (a2 9) 200 (fun j => A (132 + j))]) [1, 2, 3, 4, 5, 6, 7, 0] rfl rfl ?_
        refine g_ifeqB (pc := 52) X 59 dX5_takes_52 (by decide) (fun h52 => ?_) (fun h52 => ?_)
        · refine g_iconst (pc := 59) X dX5_takes_59 ?_
          exact ret _ _ _ _ _ _ dX5_takes_60 rfl rfl (fun _ => Or.inl rfl) (gPxi_e () (by rw [(show tkA A t e w r n P = tkM (A 0) w r n P (nmv A t e) from (if_neg (by omega)).trans ((if_pos (by omega)).trans (if_pos (by omega))))]; exact (gB_f h52).symm) (by rw [(show tkA A t e w r n P = tkM (A 0) w r n P (nmv A t e) from (if_neg (by omega)).trans ((if_pos (by omega)).trans (if_pos (by omega))))]) trivial)
        · refine g_iconst (pc := 55) X dX5_takes_55 ?_
          refine g_goto (pc := 56) X 60 dX5_takes_56 (by decide) ?_
          exact ret _ _ _ _ _ _ dX5_takes_60 rfl rfl (fun _ => Or.inr rfl) (gPxi_e () (by rw [(show tkA A t e w r n P = tkM (A 0) w r n P (nmv A t e) from (if_neg (by omega)).trans ((if_pos (by omega)).trans (if_pos (by omega))))]; exact (gB_t h52).symm) (by rw [(show tkA A t e w r n P = tkM (A 0) w r n P (nmv A t e) from (if_neg (by omega)).trans ((if_pos (by omega)).trans (if_pos (by omega))))]) trivial)
  · refine g_aload_n (pc := 18) X dX5_takes_18 0 rfl ?_
    refine g_aload_n (pc := 19) X dX5_takes_19 1 rfl ?_
    refine g_iload_n (pc := 20) X dX5_takes_20 2 rfl ?_
    refine g_iload_n (pc := 21) X dX5_takes_21 3 rfl ?_
    refine gc_Vxi (pc := 22) X (wr := [gA cI (a 2) 8 (fun j => P (0 + j)), gA cI (a 3) 8 (fun j => P (8 + j)), gA cI (a 4) 8 (fun j => P (16 + j)), gA cI (a 5) 8 (fun j => P (24 + j)), gA cI (a 6) 8 (fun j => P (32 + j))]) (c_X5_takesWord l D cI cZ q a f n w r q2 a2 A t e hA (by omega) (by omega) (by omega) (by omega)) lm_X5_77 dX5_takes_22 [0, 6, 7] [1, 2, 3, 4, 5] rfl rfl rfl rfl (by decide) rfl rfl rfl rfl rfl rfl (fun x22 hx22 => ?_)
    refine g_pick (cn := 0) (sl := 0) (st := gi (gB (wkB A t e w n = 1)) :: []) X (ws' := [oR q a f n (wkW A t e w) r, gA cI (a 2) 8 (fun j => P (0 + j)), gA cI (a 3) 8 (fun j => P (8 + j)), gA cI (a 4) 8 (fun j => P (16 + j)), gA cI (a 5) 8 (fun j => P (24 + j)), gA cI (a 6) 8 (fun j => P (32 + j)), oF q2 a2 (A 0) (A 1) (A 2) (A 3) (A 4), gA cI (a2 9) 200 (fun j => A (132 + j))]) [5, 0, 1, 2, 3, 4, 6, 7] rfl rfl ?_
    exact ret _ _ _ _ _ _ dX5_takes_25 rfl rfl (fun _ => gB_iI) (gPxi_e () (by rw [(show tkA A t e w r n P = (wkB A t e w n, wkW A t e w, r, n, P) from if_pos (by omega))]) (by rw [(show tkA A t e w r n P = (wkB A t e w n, wkW A t e w, r, n, P) from if_pos (by omega))]) trivial)

set_option maxHeartbeats 4000000 in
set_option maxRecDepth 100000 in
theorem c_X5_read (l : Launch) (D : va_G) (cI cZ : ClassId) (q : Nat) (a : Nat → Nat) (f : Int) (n : Int) (w : Int) (r : Int) (P : Int → Int) (q2 : Nat) (a2 : Nat → Nat) (A : Int → Int) (hA : okA A) : GM l D cI cZ yX5_read cX5_read 4 none ({ frames := 4, cells := 0, slots := 0, locals := 92 }) 0 0 false [.ref q, .ref q2] [oR q a f n w r, gA cI (a 2) 8 (fun j => P (0 + j)), gA cI (a 3) 8 (fun j => P (8 + j)), gA cI (a 4) 8 (fun j => P (16 + j)), gA cI (a 5) 8 (fun j => P (24 + j)), gA cI (a 6) 8 (fun j => P (32 + j)), oF q2 a2 (A 0) (A 1) (A 2) (A 3) (A 4), gA cI (a2 9) 200 (fun j => A (132 + j))] (gPxv (fun xo : (Int) × (Int) × (Int) × (Int) × (Int → Int) => [oR q a xo.1 xo.2.1 xo.2.2.1 xo.2.2.2.1, gA cI (a 2) 8 (fun j => xo.2.2.2.2 (0 + j)), gA cI (a 3) 8 (fun j => xo.2.2.2.2 (8 + j)), gA cI (a 4) 8 (fun j => xo.2.2.2.2 (16 + j)), gA cI (a 5) 8 (fun j => xo.2.2.2.2 (24 + j)), gA cI (a 6) 8 (fun j => xo.2.2.2.2 (32 + j)), oF q2 a2 (A 0) (A 1) (A 2) (A 3) (A 4), gA cI (a2 9) 200 (fun j => A (132 + j))]) (fun xo : (Int) × (Int) × (Int) × (Int) × (Int → Int) => (rdS A xo.1 xo.2.1 xo.2.2.2.2))) := by
  refine g_enterV (lv0 := [(0, .ref q), (1, .ref q2)]) (by decide) rfl rfl (fun V X ret => ?_)
  have hA2 := okA_2 hA
  obtain ⟨R, hR⟩ : ∃ z, z = rd A 0 0 0 0 P := ⟨_, rfl⟩
  refine g_aload_n (pc := 0) X dX5_read_0 0 rfl ?_
  refine g_iconst (pc := 1) X dX5_read_1 ?_
  refine g_put (pc := 2) X (ws' := [oR q a (-1) n w r, gA cI (a 2) 8 (fun j => P (0 + j)), gA cI (a 3) 8 (fun j => P (8 + j)), gA cI (a 4) 8 (fun j => P (16 + j)), gA cI (a 5) 8 (fun j => P (24 + j)), gA cI (a 6) 8 (fun j => P (32 + j)), oF q2 a2 (A 0) (A 1) (A 2) (A 3) (A 4), gA cI (a2 9) 200 (fun j => A (132 + j))]) fp_X5_27 dX5_read_2 0 rfl rfl rfl rfl rfl ?_
  refine g_aload_n (pc := 5) X dX5_read_5 0 rfl ?_
  refine g_iconst (pc := 6) X dX5_read_6 ?_
  refine g_put (pc := 7) X (ws' := [oR q a (-1) 0 w r, gA cI (a 2) 8 (fun j => P (0 + j)), gA cI (a 3) 8 (fun j => P (8 + j)), gA cI (a 4) 8 (fun j => P (16 + j)), gA cI (a 5) 8 (fun j => P (24 + j)), gA cI (a 6) 8 (fun j => P (32 + j)), oF q2 a2 (A 0) (A 1) (A 2) (A 3) (A 4), gA cI (a2 9) 200 (fun j => A (132 + j))]) fp_X5_31 dX5_read_7 0 rfl rfl rfl rfl rfl ?_
  refine g_aload_n (pc := 10) X dX5_read_10 0 rfl ?_
  refine g_iconst (pc := 11) X dX5_read_11 ?_
  refine g_put (pc := 12) X (ws' := [oR q a (-1) 0 0 r, gA cI (a 2) 8 (fun j => P (0 + j)), gA cI (a 3) 8 (fun j => P (8 + j)), gA cI (a 4) 8 (fun j => P (16 + j)), gA cI (a 5) 8 (fun j => P (24 + j)), gA cI (a 6) 8 (fun j => P (32 + j)), oF q2 a2 (A 0) (A 1) (A 2) (A 3) (A 4), gA cI (a2 9) 200 (fun j => A (132 + j))]) fp_X5_34 dX5_read_12 0 rfl rfl rfl rfl rfl ?_
  refine g_aload_n (pc := 15) X dX5_read_15 0 rfl ?_
  refine g_iconst (pc := 16) X dX5_read_16 ?_
  refine g_put (pc := 17) X (ws' := [oR q a (-1) 0 0 0, gA cI (a 2) 8 (fun j => P (0 + j)), gA cI (a 3) 8 (fun j => P (8 + j)), gA cI (a 4) 8 (fun j => P (16 + j)), gA cI (a 5) 8 (fun j => P (24 + j)), gA cI (a 6) 8 (fun j => P (32 + j)), oF q2 a2 (A 0) (A 1) (A 2) (A 3) (A 4), gA cI (a2 9) 200 (fun j => A (132 + j))]) fp_X5_37 dX5_read_17 0 rfl rfl rfl rfl rfl ?_
  refine g_iconst (pc := 20) X dX5_read_20 ?_
  refine g_istore_n (pc := 21) X (lv' := [(0, .ref q), (1, .ref q2), (2, gi 0)]) dX5_read_21 rfl rfl ?_
  refine g_iconst (pc := 22) X dX5_read_22 ?_
  refine g_istore_n (pc := 23) X (lv' := [(0, .ref q), (1, .ref q2), (2, gi 0), (3, gi 0)]) dX5_read_23 rfl rfl ?_
  have L24 : ∀ (n24 : Nat) (t : Int) (e : Int) (f : Int) (n : Int) (w : Int) (r : Int) (P2 : Int → Int), (0 ≤ t ∧ t ≤ A 2) → (-1 ≤ f ∧ f ≤ A 2) → (hid ((f = -1 ∧ okR (A 0) w r n P2 ∧ R = rd A t w r n P2) ∨ (0 ≤ f ∧ f ≤ A 2 ∧ R.1 = f))) → (A 2 - t).toNat < n24 → V 0 0 [oR q a f n w r, gA cI (a 2) 8 (fun j => P2 (0 + j)), gA cI (a 3) 8 (fun j => P2 (8 + j)), gA cI (a 4) 8 (fun j => P2 (16 + j)), gA cI (a 5) 8 (fun j => P2 (24 + j)), gA cI (a 6) 8 (fun j => P2 (32 + j)), oF q2 a2 (A 0) (A 1) (A 2) (A 3) (A 4), gA cI (a2 9) 200 (fun j => A (132 + j))] 24 [(0, .ref q), (1, .ref q2), (2, gi e), (3, gi t)] [] := by
    intro n24
    induction n24 with
    | zero => intro t e f n w r P2 ht hfr hi hn24; exact absurd hn24 (Nat.not_lt_zero _)
    | succ n24 ih24 =>
      intro t e f n w r P2 ht hfr hi hn24
      refine g_iload_n (pc := 24) X dX5_read_24 3 rfl ?_
      refine g_aload_n (pc := 25) X dX5_read_25 1 rfl ?_
      refine g_get (pc := 26) X fl_X5_40 dX5_read_26 6 (v := gi (A 2)) rfl rfl ?_
      refine g_icmpge (pc := 29) X 85 dX5_read_29 (by decide) (by omega) (by omega) (fun h29 => ?_) (fun h29 => ?_)
      · refine g_aload_n (pc := 85) X dX5_read_85 0 rfl ?_
        refine g_get (pc := 86) X fl_X5_27 dX5_read_86 0 (v := gi f) rfl rfl ?_
        refine g_iconst (pc := 89) X dX5_read_89 ?_
        refine g_icmpne (pc := 90) X 108 dX5_read_90 (by decide) (by omega) (by omega) (fun h90 => ?_) (fun h90 => ?_)
        · exact ret _ _ _ _ _ dX5_read_108 rfl rfl (gPxv_e (_, _, _, _, _) rfl (by have c := rdS_c (A := A) (by omega) P; rw [← hR] at c; have hi2 : 0 ≤ f ∧ R.1 = f := (by rcases hi with hi | hi; omega; exact ⟨hi.1, hi.2.2⟩); exact ⟨hi2.2.symm.trans c.1, fun z => absurd (c.1.symm.trans hi2.2) (by rw [z]; omega)⟩))
        · have hi1 : okR (A 0) w r n P2 ∧ R = rd A t w r n P2 := by rcases hi with hi | hi; exact hi.2; omega
          have hwb := hi1.1.1.1
          have hRe : R = (if w = 0 then -1 else A 2, n, P2) := by rw [hi1.2]; exact rd_e (by omega)
          refine g_aload_n (pc := 93) X dX5_read_93 0 rfl ?_
          refine g_get (pc := 94) X fl_X5_34 dX5_read_94 0 (v := gi w) rfl rfl ?_
          refine g_ifeq (pc := 97) X 108 dX5_read_97 (by decide) (by omega) (fun h97 => ?_) (fun h97 => ?_)
          · exact ret _ _ _ _ _ dX5_read_108 rfl rfl (gPxv_e (_, _, _, _, _) rfl (by have c := rdS_c (A := A) (by omega) P; rw [← hR, hRe] at c; have c2 : rdS A (if w = 0 then -1 else A 2) n P2 := c; rw [if_pos (by omega)] at c2; rw [h90]; exact c2))
          · refine g_aload_n (pc := 100) X dX5_read_100 0 rfl ?_
            refine g_aload_n (pc := 101) X dX5_read_101 1 rfl ?_
            refine g_get (pc := 102) X fl_X5_40 dX5_read_102 6 (v := gi (A 2)) rfl rfl ?_
            refine g_put (pc := 105) X (ws' := [oR q a (A 2) n w r, gA cI (a 2) 8 (fun j => P2 (0 + j)), gA cI (a 3) 8 (fun j => P2 (8 + j)), gA cI (a 4) 8 (fun j => P2 (16 + j)), gA cI (a 5) 8 (fun j => P2 (24 + j)), gA cI (a 6) 8 (fun j => P2 (32 + j)), oF q2 a2 (A 0) (A 1) (A 2) (A 3) (A 4), gA cI (a2 9) 200 (fun j => A (132 + j))]) fp_X5_27 dX5_read_105 0 rfl rfl rfl rfl rfl ?_
            exact ret _ _ _ _ _ dX5_read_108 rfl rfl (gPxv_e (_, _, _, _, _) rfl (by have c := rdS_c (A := A) (by omega) P; rw [← hR, hRe] at c; have c2 : rdS A (if w = 0 then -1 else A 2) n P2 := c; rw [if_neg (by omega)] at c2; exact c2))
      · refine g_aload_n (pc := 32) X dX5_read_32 0 rfl ?_
        refine g_get (pc := 33) X fl_X5_27 dX5_read_33 0 (v := gi f) rfl rfl ?_
        refine g_iconst (pc := 36) X dX5_read_36 ?_
        refine g_icmpne (pc := 37) X 85 dX5_read_37 (by decide) (by omega) (by omega) (fun h37 => ?_) (fun h37 => ?_)
        · refine g_aload_n (pc := 85) X dX5_read_85 0 rfl ?_
          refine g_get (pc := 86) X fl_X5_27 dX5_read_86 0 (v := gi f) rfl rfl ?_
          refine g_iconst (pc := 89) X dX5_read_89 ?_
          refine g_icmpne (pc := 90) X 108 dX5_read_90 (by decide) (by omega) (by omega) (fun h90 => ?_) (fun h90 => ?_)
          · exact ret _ _ _ _ _ dX5_read_108 rfl rfl (gPxv_e (_, _, _, _, _) rfl (by have c := rdS_c (A := A) (by omega) P; rw [← hR] at c; have hi2 : 0 ≤ f ∧ R.1 = f := (by rcases hi with hi | hi; omega; exact ⟨hi.1, hi.2.2⟩); exact ⟨hi2.2.symm.trans c.1, fun z => absurd (c.1.symm.trans hi2.2) (by rw [z]; omega)⟩))
          · have hi1 : okR (A 0) w r n P2 ∧ R = rd A t w r n P2 := by rcases hi with hi | hi; exact hi.2; omega
            have hwb := hi1.1.1.1
            have hRe : R = (if w = 0 then -1 else A 2, n, P2) := by rw [hi1.2]; exact rd_e (by omega)
            refine g_aload_n (pc := 93) X dX5_read_93 0 rfl ?_
            refine g_get (pc := 94) X fl_X5_34 dX5_read_94 0 (v := gi w) rfl rfl ?_
            refine g_ifeq (pc := 97) X 108 dX5_read_97 (by decide) (by omega) (fun h97 => ?_) (fun h97 => ?_)
            · exact ret _ _ _ _ _ dX5_read_108 rfl rfl (gPxv_e (_, _, _, _, _) rfl (by have c := rdS_c (A := A) (by omega) P; rw [← hR, hRe] at c; have c2 : rdS A (if w = 0 then -1 else A 2) n P2 := c; rw [if_pos (by omega)] at c2; rw [h90]; exact c2))
            · refine g_aload_n (pc := 100) X dX5_read_100 0 rfl ?_
              refine g_aload_n (pc := 101) X dX5_read_101 1 rfl ?_
              refine g_get (pc := 102) X fl_X5_40 dX5_read_102 6 (v := gi (A 2)) rfl rfl ?_
              refine g_put (pc := 105) X (ws' := [oR q a (A 2) n w r, gA cI (a 2) 8 (fun j => P2 (0 + j)), gA cI (a 3) 8 (fun j => P2 (8 + j)), gA cI (a 4) 8 (fun j => P2 (16 + j)), gA cI (a 5) 8 (fun j => P2 (24 + j)), gA cI (a 6) 8 (fun j => P2 (32 + j)), oF q2 a2 (A 0) (A 1) (A 2) (A 3) (A 4), gA cI (a2 9) 200 (fun j => A (132 + j))]) fp_X5_27 dX5_read_105 0 rfl rfl rfl rfl rfl ?_
              exact ret _ _ _ _ _ dX5_read_108 rfl rfl (gPxv_e (_, _, _, _, _) rfl (by have c := rdS_c (A := A) (by omega) P; rw [← hR, hRe] at c; have c2 : rdS A (if w = 0 then -1 else A 2) n P2 := c; rw [if_neg (by omega)] at c2; exact c2))
        · have hi0 : okR (A 0) w r n P2 ∧ R = rd A t w r n P2 := by rcases hi with hi | hi; exact hi.2; omega
          have hO := hi0.1
          have hRt := hi0.2
          have heb := tkE_b (A := A) (a := t) (by omega)
          have h132_ := okA_r hA (j := 132 + t) (by omega)
          refine g_iload_n (pc := 40) X dX5_read_40 3 rfl ?_
          refine g_iconst (pc := 41) X dX5_read_41 ?_
          refine g_iadd (pc := 42) X dX5_read_42 ?_
          refine g_aload_n (pc := 43) X dX5_read_43 1 rfl ?_
          refine g_iload_n (pc := 44) X dX5_read_44 3 rfl ?_
          refine gc_Si (pc := 45) X (c_X5_tokenEnd l D cI cZ q2 a2 A t hA (by omega)) lm_X5_45 dX5_read_45 [6, 7] rfl rfl rfl rfl rfl rfl ?_
          refine g_max (pc := 48) X lm_X5_49 dX5_read_48 (by omega) (by omega) rfl ?_
          refine g_top (b := tkE A t) (by unfold gmax; split <;> omega) ?_
          refine g_istore_n (pc := 51) X (lv' := [(0, .ref q), (1, .ref q2), (2, gi (tkE A t)), (3, gi t)]) dX5_read_51 rfl rfl ?_
          refine g_aload_n (pc := 52) X dX5_read_52 1 rfl ?_
          refine g_get (pc := 53) X fl_X5_55 dX5_read_53 6 (v := .ref (a2 9)) rfl rfl ?_
          refine g_iload_n (pc := 56) X dX5_read_56 3 rfl ?_
          refine gc_Ni (pc := 57) X (c_X8_look l D cI cZ (a2 9) 200 (fun j => A (132 + j)) t (by omega) rfl) lm_X5_58 dX5_read_57 [7] rfl rfl rfl rfl rfl rfl ?_
          refine g_top (b := A (132 + t)) (lk_in (by omega)) ?_
          refine g_bipush (pc := 60) X dX5_read_60 (by decide +kernel) ?_
          refine g_icmpeq (pc := 62) X 80 dX5_read_62 (by decide) (by omega) (by omega) (fun h62 => ?_) (fun h62 => ?_)
          · refine g_iload_n (pc := 80) X dX5_read_80 2 rfl ?_
            refine g_istore_n (pc := 81) X (lv' := [(0, .ref q), (1, .ref q2), (2, gi (tkE A t)), (3, gi (tkE A t))]) dX5_read_81 rfl rfl ?_
            refine g_goto (pc := 82) X 24 dX5_read_82 (by decide) ?_
            exact ih24 _ _ _ _ _ _ _ (by omega) (by omega) (Or.inl ⟨by omega, hO, hRt.trans (by rw [tkE_s h62]; exact rd_b (by omega) h62)⟩) (by omega)
          · refine g_aload_n (pc := 65) X dX5_read_65 0 rfl ?_
            refine g_aload_n (pc := 66) X dX5_read_66 1 rfl ?_
            refine g_iload_n (pc := 67) X dX5_read_67 3 rfl ?_
            refine g_iload_n (pc := 68) X dX5_read_68 2 rfl ?_
            refine gc_Vxi (pc := 69) X (wr := []) (c_X5_takes l D cI cZ q a f n w r P2 q2 a2 A t (tkE A t) hA hO (by omega) rfl) lm_X5_62 dX5_read_69 [0, 1, 2, 3, 4, 5, 6, 7] [] rfl rfl rfl rfl (by decide) rfl rfl rfl rfl rfl rfl (fun x69 hx69 => ?_)
            refine g_pick (cn := 0) (sl := 0) (st := gi (gB ((tkA A t (tkE A t) w r n P2).1 = 1)) :: []) X (ws' := [oR q a f ((tkA A t (tkE A t) w r n P2).2.2.2.1) ((tkA A t (tkE A t) w r n P2).2.1) ((tkA A t (tkE A t) w r n P2).2.2.1), gA cI (a 2) 8 (fun j => (tkA A t (tkE A t) w r n P2).2.2.2.2 (0 + j)), gA cI (a 3) 8 (fun j => (tkA A t (tkE A t) w r n P2).2.2.2.2 (8 + j)), gA cI (a 4) 8 (fun j => (tkA A t (tkE A t) w r n P2).2.2.2.2 (16 + j)), gA cI (a 5) 8 (fun j => (tkA A t (tkE A t) w r n P2).2.2.2.2 (24 + j)), gA cI (a 6) 8 (fun j => (tkA A t (tkE A t) w r n P2).2.2.2.2 (32 + j)), oF q2 a2 (A 0) (A 1) (A 2) (A 3) (A 4), gA cI (a2 9) 200 (fun j => A (132 + j))]) [0, 1, 2, 3, 4, 5, 6, 7] rfl rfl ?_
            refine g_ifneB (pc := 72) X 80 dX5_read_72 (by decide) (fun h72 => ?_) (fun h72 => ?_)
            · refine g_iload_n (pc := 80) X dX5_read_80 2 rfl ?_
              refine g_istore_n (pc := 81) X (lv' := [(0, .ref q), (1, .ref q2), (2, gi (tkE A t)), (3, gi (tkE A t))]) dX5_read_81 rfl rfl ?_
              refine g_goto (pc := 82) X 24 dX5_read_82 (by decide) ?_
              exact ih24 _ _ _ _ _ _ _ (by omega) (by omega) (Or.inl ⟨by omega, okR_A hO h72, hRt.trans (rd_y (by omega) h62 h72)⟩) (by omega)
            · refine g_aload_n (pc := 75) X dX5_read_75 0 rfl ?_
              refine g_iload_n (pc := 76) X dX5_read_76 3 rfl ?_
              refine g_put (pc := 77) X (ws' := [oR q a t ((tkA A t (tkE A t) w r n P2).2.2.2.1) ((tkA A t (tkE A t) w r n P2).2.1) ((tkA A t (tkE A t) w r n P2).2.2.1), gA cI (a 2) 8 (fun j => (tkA A t (tkE A t) w r n P2).2.2.2.2 (0 + j)), gA cI (a 3) 8 (fun j => (tkA A t (tkE A t) w r n P2).2.2.2.2 (8 + j)), gA cI (a 4) 8 (fun j => (tkA A t (tkE A t) w r n P2).2.2.2.2 (16 + j)), gA cI (a 5) 8 (fun j => (tkA A t (tkE A t) w r n P2).2.2.2.2 (24 + j)), gA cI (a 6) 8 (fun j => (tkA A t (tkE A t) w r n P2).2.2.2.2 (32 + j)), oF q2 a2 (A 0) (A 1) (A 2) (A 3) (A 4), gA cI (a2 9) 200 (fun j => A (132 + j))]) fp_X5_27 dX5_read_77 0 rfl rfl rfl rfl rfl ?_
              refine g_iload_n (pc := 80) X dX5_read_80 2 rfl ?_
              refine g_istore_n (pc := 81) X (lv' := [(0, .ref q), (1, .ref q2), (2, gi (tkE A t)), (3, gi (tkE A t))]) dX5_read_81 rfl rfl ?_
              refine g_goto (pc := 82) X 24 dX5_read_82 (by decide) ?_
              exact ih24 _ _ _ _ _ _ _ (by omega) (by omega) (Or.inr ⟨by omega, by omega, by rw [hRt, rd_n (by omega) h62 h72]⟩) (by omega)
  exact L24 _ _ _ _ _ _ _ _ (by omega) (by omega) (Or.inl ⟨rfl, okR_0 _ _, hR⟩) (Nat.lt_succ_self _)
