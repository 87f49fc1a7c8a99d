/-! what is made: the constructors -/
/-- addresses by a list -/
def gAd (l : List Nat) : Nat → Nat := fun k => l.getD k 0
def A0 : Int → Int := fun z => if z = 127 then 500 else if z = 128 ∨ z = 129 then 3 else if z = 130 then 20 else if z = 131 then 30 else 0
theorem A0_z {z : Int} (h : z < 127 ∨ 131 < z) : A0 z = 0 := by unfold A0; rw [if_neg (by omega), if_neg (by omega), if_neg (by omega), if_neg (by omega)]
theorem lm_zero : lm (fun _ => 0) 0 0 := ⟨⟨fun j _ _ => by (try dsimp only); omega, by decide, by decide +kernel⟩, Or.inl rfl⟩

set_option maxHeartbeats 4000000 in
set_option maxRecDepth 100000 in
theorem c_X0_init (l : Launch) (D : va_G) (cI cZ : ClassId) (q : Nat)  : GM l D cI cZ yX0_init cX0_init 1 none ({ frames := 1, cells := 3, slots := 130, locals := 20 }) 3 130 false [.ref q] [gO q 0 [.null, .null, .null]] (gPxv (fun xo : (Nat → Nat) => [oE q xo, gA cI (xo 0) 60 (fun _ => 0), gA cI (xo 1) 60 (fun _ => 0), gA cI (xo 2) 10 (fun _ => 0)]) (fun xo : (Nat → Nat) => True)) := by
  refine g_enterV (lv0 := [(0, .ref q)]) (by decide) rfl rfl (fun V X ret => ?_)
  refine g_aload_n (pc := 0) X dX0_init_0 0 rfl ?_
  refine g_objInit (pc := 1) X lm_X0_3 oi_1 oi_2 dX0_init_1 rfl rfl ?_
  refine g_aload_n (pc := 4) X dX0_init_4 0 rfl ?_
  refine g_bipush (pc := 5) X dX0_init_5 (by decide +kernel) ?_
  refine g_newa (pc := 7) X dX0_init_7 ac_I 60 rfl rfl rfl rfl (fun q7 => ?_)
  refine g_pick (cn := 1) (sl := 60) (st := .ref q7 :: .ref q :: []) X (ws' := [gO q 0 [.null, .null, .null], gA cI q7 60 (fun _ => 0)]) [0, 1] rfl rfl ?_
  refine g_putF (pc := 9) X (ws' := [gO q 0 [.ref q7, .null, .null], gA cI q7 60 (fun _ => 0)]) fp_X0_9 rfl dX0_init_9 0 rfl rfl rfl rfl rfl ?_
  refine g_aload_n (pc := 12) X dX0_init_12 0 rfl ?_
  refine g_bipush (pc := 13) X dX0_init_13 (by decide +kernel) ?_
  refine g_newa (pc := 15) X dX0_init_15 ac_I 60 rfl rfl rfl rfl (fun q15 => ?_)
  refine g_pick (cn := 2) (sl := 120) (st := .ref q15 :: .ref q :: []) X (ws' := [gO q 0 [.ref q7, .null, .null], gA cI q7 60 (fun _ => 0), gA cI q15 60 (fun _ => 0)]) [0, 1, 2] rfl rfl ?_
  refine g_putF (pc := 17) X (ws' := [gO q 0 [.ref q7, .ref q15, .null], gA cI q7 60 (fun _ => 0), gA cI q15 60 (fun _ => 0)]) fp_X0_15 rfl dX0_init_17 0 rfl rfl rfl rfl rfl ?_
  refine g_aload_n (pc := 20) X dX0_init_20 0 rfl ?_
  refine g_bipush (pc := 21) X dX0_init_21 (by decide +kernel) ?_
  refine g_newa (pc := 23) X dX0_init_23 ac_I 10 rfl rfl rfl rfl (fun q23 => ?_)
  refine g_pick (cn := 3) (sl := 130) (st := .ref q23 :: .ref q :: []) X (ws' := [gO q 0 [.ref q7, .ref q15, .null], gA cI q7 60 (fun _ => 0), gA cI q15 60 (fun _ => 0), gA cI q23 10 (fun _ => 0)]) [0, 1, 2, 3] rfl rfl ?_
  refine g_putF (pc := 25) X (ws' := [gO q 0 [.ref q7, .ref q15, .ref q23], gA cI q7 60 (fun _ => 0), gA cI q15 60 (fun _ => 0), gA cI q23 10 (fun _ => 0)]) fp_X0_18 rfl dX0_init_25 0 rfl rfl rfl rfl rfl ?_
  exact ret _ _ _ _ _ dX0_init_28 rfl rfl (gPxv_e (gAd [q7, q15, q23]) rfl trivial)

set_option maxHeartbeats 4000000 in
set_option maxRecDepth 100000 in
theorem c_X3_init (l : Launch) (D : va_G) (cI cZ : ClassId) (q : Nat)  : GM l D cI cZ yX3_init cX3_init 1 none ({ frames := 1, cells := 2, slots := 392, locals := 20 }) 2 392 false [.ref q] [gO q 3 [.null, .null, gi 0, gi 0]] (gPxv (fun xo : (Nat → Nat) => [oH q xo 0 0, gA cI (xo 0) 384 (fun _ => 0), gA cI (xo 1) 8 (fun _ => 0)]) (fun xo : (Nat → Nat) => True)) := by
  refine g_enterV (lv0 := [(0, .ref q)]) (by decide) rfl rfl (fun V X ret => ?_)
  refine g_aload_n (pc := 0) X dX3_init_0 0 rfl ?_
  refine g_objInit (pc := 1) X lm_X3_3 oi_1 oi_2 dX3_init_1 rfl rfl ?_
  refine g_aload_n (pc := 4) X dX3_init_4 0 rfl ?_
  refine g_sipush (pc := 5) X dX3_init_5 (by decide +kernel) ?_
  refine g_newa (pc := 8) X dX3_init_8 ac_I 384 rfl rfl rfl rfl (fun q8 => ?_)
  refine g_pick (cn := 1) (sl := 384) (st := .ref q8 :: .ref q :: []) X (ws' := [gO q 3 [.null, .null, gi 0, gi 0], gA cI q8 384 (fun _ => 0)]) [0, 1] rfl rfl ?_
  refine g_putF (pc := 10) X (ws' := [gO q 3 [.ref q8, .null, gi 0, gi 0], gA cI q8 384 (fun _ => 0)]) fp_X3_9 rfl dX3_init_10 0 rfl rfl rfl rfl rfl ?_
  refine g_aload_n (pc := 13) X dX3_init_13 0 rfl ?_
  refine g_bipush (pc := 14) X dX3_init_14 (by decide +kernel) ?_
  refine g_newa (pc := 16) X dX3_init_16 ac_I 8 rfl rfl rfl rfl (fun q16 => ?_)
  refine g_pick (cn := 2) (sl := 392) (st := .ref q16 :: .ref q :: []) X (ws' := [gO q 3 [.ref q8, .null, gi 0, gi 0], gA cI q8 384 (fun _ => 0), gA cI q16 8 (fun _ => 0)]) [0, 1, 2] rfl rfl ?_
  refine g_putF (pc := 18) X (ws' := [gO q 3 [.ref q8, .ref q16, gi 0, gi 0], gA cI q8 384 (fun _ => 0), gA cI q16 8 (fun _ => 0)]) fp_X3_15 rfl dX3_init_18 0 rfl rfl rfl rfl rfl ?_
  exact ret _ _ _ _ _ dX3_init_21 rfl rfl (gPxv_e (gAd [q8, q16, 0, 0]) rfl trivial)

set_option maxHeartbeats 4000000 in
set_option maxRecDepth 100000 in
theorem c_X4_init (l : Launch) (D : va_G) (cI cZ : ClassId) (q : Nat)  : GM l D cI cZ yX4_init cX4_init 1 none ({ frames := 1, cells := 1, slots := 8, locals := 20 }) 1 8 false [.ref q] [gO q 4 [.null, gi 0]] (gPxv (fun xo : (Nat → Nat) => [oL q xo 0, gA cI (xo 0) 8 (fun _ => 0)]) (fun xo : (Nat → Nat) => True)) := by
  refine g_enterV (lv0 := [(0, .ref q)]) (by decide) rfl rfl (fun V X ret => ?_)
  refine g_aload_n (pc := 0) X dX4_init_0 0 rfl ?_
  refine g_objInit (pc := 1) X lm_X4_3 oi_1 oi_2 dX4_init_1 rfl rfl ?_
  refine g_aload_n (pc := 4) X dX4_init_4 0 rfl ?_
  refine g_bipush (pc := 5) X dX4_init_5 (by decide +kernel) ?_
  refine g_newa (pc := 7) X dX4_init_7 ac_I 8 rfl rfl rfl rfl (fun q7 => ?_)
  refine g_pick (cn := 1) (sl := 8) (st := .ref q7 :: .ref q :: []) X (ws' := [gO q 4 [.null, gi 0], gA cI q7 8 (fun _ => 0)]) [0, 1] rfl rfl ?_
  refine g_putF (pc := 9) X (ws' := [gO q 4 [.ref q7, gi 0], gA cI q7 8 (fun _ => 0)]) fp_X4_9 rfl dX4_init_9 0 rfl rfl rfl rfl rfl ?_
  exact ret _ _ _ _ _ dX4_init_12 rfl rfl (gPxv_e (gAd [q7, 0]) rfl trivial)

set_option maxHeartbeats 4000000 in
set_option maxRecDepth 100000 in
theorem c_X5_init (l : Launch) (D : va_G) (cI cZ : ClassId) (q : Nat)  : GM l D cI cZ yX5_init cX5_init 1 none ({ frames := 1, cells := 5, slots := 40, locals := 20 }) 5 40 false [.ref q] [gO q 5 [gi 0, gi 0, .null, .null, .null, .null, .null, gi 0, gi 0]] (gPxv (fun xo : (Nat → Nat) => [oR q xo 0 0 0 0, gA cI (xo 2) 8 (fun _ => 0), gA cI (xo 3) 8 (fun _ => 0), gA cI (xo 4) 8 (fun _ => 0), gA cI (xo 5) 8 (fun _ => 0), gA cI (xo 6) 8 (fun _ => 0)]) (fun xo : (Nat → Nat) => True)) := by
  refine g_enterV (lv0 := [(0, .ref q)]) (by decide) rfl rfl (fun V X ret => ?_)
  refine g_aload_n (pc := 0) X dX5_init_0 0 rfl ?_
  refine g_objInit (pc := 1) X lm_X5_3 oi_1 oi_2 dX5_init_1 rfl rfl ?_
  refine g_aload_n (pc := 4) X dX5_init_4 0 rfl ?_
  refine g_bipush (pc := 5) X dX5_init_5 (by decide +kernel) ?_
  refine g_newa (pc := 7) X dX5_init_7 ac_I 8 rfl rfl rfl rfl (fun q7 => ?_)
  refine g_pick (cn := 1) (sl := 8) (st := .ref q7 :: .ref q :: []) X (ws' := [gO q 5 [gi 0, gi 0, .null, .null, .null, .null, .null, gi 0, gi 0], gA cI q7 8 (fun _ => 0)]) [0, 1] rfl rfl ?_
  refine g_putF (pc := 9) X (ws' := [gO q 5 [gi 0, gi 0, .ref q7, .null, .null, .null, .null, gi 0, gi 0], gA cI q7 8 (fun _ => 0)]) fp_X5_9 rfl dX5_init_9 0 rfl rfl rfl rfl rfl ?_
  refine g_aload_n (pc := 12) X dX5_init_12 0 rfl ?_
  refine g_bipush (pc := 13) X dX5_init_13 (by decide +kernel) ?_
  refine g_newa (pc := 15) X dX5_init_15 ac_I 8 rfl rfl rfl rfl (fun q15 => ?_)
  refine g_pick (cn := 2) (sl := 16) (st := .ref q15 :: .ref q :: []) X (ws' := [gO q 5 [gi 0, gi 0, .ref q7, .null, .null, .null, .null, gi 0, gi 0], gA cI q7 8 (fun _ => 0), gA cI q15 8 (fun _ => 0)]) [0, 1, 2] rfl rfl ?_
  refine g_putF (pc := 17) X (ws' := [gO q 5 [gi 0, gi 0, .ref q7, .ref q15, .null, .null, .null, gi 0, gi 0], gA cI q7 8 (fun _ => 0), gA cI q15 8 (fun _ => 0)]) fp_X5_15 rfl dX5_init_17 0 rfl rfl rfl rfl rfl ?_
  refine g_aload_n (pc := 20) X dX5_init_20 0 rfl ?_
  refine g_bipush (pc := 21) X dX5_init_21 (by decide +kernel) ?_
  refine g_newa (pc := 23) X dX5_init_23 ac_I 8 rfl rfl rfl rfl (fun q23 => ?_)
  refine g_pick (cn := 3) (sl := 24) (st := .ref q23 :: .ref q :: []) X (ws' := [gO q 5 [gi 0, gi 0, .ref q7, .ref q15, .null, .null, .null, gi 0, gi 0], gA cI q7 8 (fun _ => 0), gA cI q15 8 (fun _ => 0), gA cI q23 8 (fun _ => 0)]) [0, 1, 2, 3] rfl rfl ?_
  refine g_putF (pc := 25) X (ws' := [gO q 5 [gi 0, gi 0, .ref q7, .ref q15, .ref q23, .null, .null, gi 0, gi 0], gA cI q7 8 (fun _ => 0), gA cI q15 8 (fun _ => 0), gA cI q23 8 (fun _ => 0)]) fp_X5_18 rfl dX5_init_25 0 rfl rfl rfl rfl rfl ?_
  refine g_aload_n (pc := 28) X dX5_init_28 0 rfl ?_
  refine g_bipush (pc := 29) X dX5_init_29 (by decide +kernel) ?_
  refine g_newa (pc := 31) X dX5_init_31 ac_I 8 rfl rfl rfl rfl (fun q31 => ?_)
  refine g_pick (cn := 4) (sl := 32) (st := .ref q31 :: .ref q :: []) X (ws' := [gO q 5 [gi 0, gi 0, .ref q7, .ref q15, .ref q23, .null, .null, gi 0, gi 0], gA cI q7 8 (fun _ => 0), gA cI q15 8 (fun _ => 0), gA cI q23 8 (fun _ => 0), gA cI q31 8 (fun _ => 0)]) [0, 1, 2, 3, 4] rfl rfl ?_
  refine g_putF (pc := 33) X (ws' := [gO q 5 [gi 0, gi 0, .ref q7, .ref q15, .ref q23, .ref q31, .null, gi 0, gi 0], gA cI q7 8 (fun _ => 0), gA cI q15 8 (fun _ => 0), gA cI q23 8 (fun _ => 0), gA cI q31 8 (fun _ => 0)]) fp_X5_21 rfl dX5_init_33 0 rfl rfl rfl rfl rfl ?_
  refine g_aload_n (pc := 36) X dX5_init_36 0 rfl ?_
  refine g_bipush (pc := 37) X dX5_init_37 (by decide +kernel) ?_
  refine g_newa (pc := 39) X dX5_init_39 ac_I 8 rfl rfl rfl rfl (fun q39 => ?_)
  refine g_pick (cn := 5) (sl := 40) (st := .ref q39 :: .ref q :: []) X (ws' := [gO q 5 [gi 0, gi 0, .ref q7, .ref q15, .ref q23, .ref q31, .null, gi 0, gi 0], gA cI q7 8 (fun _ => 0), gA cI q15 8 (fun _ => 0), gA cI q23 8 (fun _ => 0), gA cI q31 8 (fun _ => 0), gA cI q39 8 (fun _ => 0)]) [0, 1, 2, 3, 4, 5] rfl rfl ?_
  refine g_putF (pc := 41) X (ws' := [gO q 5 [gi 0, gi 0, .ref q7, .ref q15, .ref q23, .ref q31, .ref q39, gi 0, gi 0], gA cI q7 8 (fun _ => 0), gA cI q15 8 (fun _ => 0), gA cI q23 8 (fun _ => 0), gA cI q31 8 (fun _ => 0), gA cI q39 8 (fun _ => 0)]) fp_X5_24 rfl dX5_init_41 0 rfl rfl rfl rfl rfl ?_
  exact ret _ _ _ _ _ dX5_init_44 rfl rfl (gPxv_e (gAd [0, 0, q7, q15, q23, q31, q39, 0, 0]) rfl trivial)

set_option maxHeartbeats 4000000 in
set_option maxRecDepth 100000 in
theorem c_X7_init (l : Launch) (D : va_G) (cI cZ : ClassId) (q : Nat)  : GM l D cI cZ yX7_init cX7_init 1 none ({ frames := 1, cells := 2, slots := 2112, locals := 20 }) 2 2112 false [.ref q] [gO q 6 [.null, .null, gi 0]] (gPxv (fun xo : (Nat → Nat) => [oT q xo 0, gA cI (xo 0) 64 (fun _ => 0), gA cI (xo 1) 2048 (fun _ => 0)]) (fun xo : (Nat → Nat) => True)) := by
  refine g_enterV (lv0 := [(0, .ref q)]) (by decide) rfl rfl (fun V X ret => ?_)
  refine g_aload_n (pc := 0) X dX7_init_0 0 rfl ?_
  refine g_objInit (pc := 1) X lm_X7_3 oi_1 oi_2 dX7_init_1 rfl rfl ?_
  refine g_aload_n (pc := 4) X dX7_init_4 0 rfl ?_
  refine g_bipush (pc := 5) X dX7_init_5 (by decide +kernel) ?_
  refine g_newa (pc := 7) X dX7_init_7 ac_I 64 rfl rfl rfl rfl (fun q7 => ?_)
  refine g_pick (cn := 1) (sl := 64) (st := .ref q7 :: .ref q :: []) X (ws' := [gO q 6 [.null, .null, gi 0], gA cI q7 64 (fun _ => 0)]) [0, 1] rfl rfl ?_
  refine g_putF (pc := 9) X (ws' := [gO q 6 [.ref q7, .null, gi 0], gA cI q7 64 (fun _ => 0)]) fp_X7_9 rfl dX7_init_9 0 rfl rfl rfl rfl rfl ?_
  refine g_aload_n (pc := 12) X dX7_init_12 0 rfl ?_
  refine g_sipush (pc := 13) X dX7_init_13 (by decide +kernel) ?_
  refine g_newa (pc := 16) X dX7_init_16 ac_I 2048 rfl rfl rfl rfl (fun q16 => ?_)
  refine g_pick (cn := 2) (sl := 2112) (st := .ref q16 :: .ref q :: []) X (ws' := [gO q 6 [.ref q7, .null, gi 0], gA cI q7 64 (fun _ => 0), gA cI q16 2048 (fun _ => 0)]) [0, 1, 2] rfl rfl ?_
  refine g_putF (pc := 18) X (ws' := [gO q 6 [.ref q7, .ref q16, gi 0], gA cI q7 64 (fun _ => 0), gA cI q16 2048 (fun _ => 0)]) fp_X7_15 rfl dX7_init_18 0 rfl rfl rfl rfl rfl ?_
  exact ret _ _ _ _ _ dX7_init_21 rfl rfl (gPxv_e (gAd [q7, q16, 0]) rfl trivial)

set_option maxHeartbeats 4000000 in
set_option maxRecDepth 100000 in
theorem c_X1_init (l : Launch) (D : va_G) (cI cZ : ClassId) (q : Nat)  : GM l D cI cZ yX1_init cX1_init 1 none ({ frames := 1, cells := 9, slots := 375, locals := 20 }) 9 375 false [.ref q] [gO q 1 [gi 0, .null, .null, .null, gi 0, .null, .null, .null, gi 0, .null, gi 0, .null, gi 0, .null]] (gPxv (fun xo : (Nat → Nat) => [oF q xo (A0 0) (A0 1) (A0 2) (A0 3) (A0 4), gA cI (xo 1) 10 (fun j => A0 (5 + j)), gA cI (xo 2) 10 (fun j => A0 (15 + j)), gA cI (xo 3) 60 (fun j => A0 (25 + j)), gA cI (xo 5) 6 (fun j => A0 (85 + j)), gA cI (xo 6) 36 (fun j => A0 (91 + j)), gA cI (xo 7) 5 (fun j => A0 (127 + j)), gA cI (xo 9) 200 (fun j => A0 (132 + j)), gA cI (xo 11) 40 (fun j => A0 (332 + j)), gA cI (xo 13) 8 (fun j => A0 (372 + j))]) (fun xo : (Nat → Nat) => True)) := by
  refine g_enterV (lv0 := [(0, .ref q)]) (by decide) rfl rfl (fun V X ret => ?_)
  refine g_aload_n (pc := 0) X dX1_init_0 0 rfl ?_
  refine g_objInit (pc := 1) X lm_X1_3 oi_1 oi_2 dX1_init_1 rfl rfl ?_
  refine g_aload_n (pc := 4) X dX1_init_4 0 rfl ?_
  refine g_bipush (pc := 5) X dX1_init_5 (by decide +kernel) ?_
  refine g_newa (pc := 7) X dX1_init_7 ac_I 10 rfl rfl rfl rfl (fun q7 => ?_)
  refine g_pick (cn := 1) (sl := 10) (st := .ref q7 :: .ref q :: []) X (ws' := [gO q 1 [gi 0, .null, .null, .null, gi 0, .null, .null, .null, gi 0, .null, gi 0, .null, gi 0, .null], gA cI q7 10 (fun _ => 0)]) [0, 1] rfl rfl ?_
  refine g_putF (pc := 9) X (ws' := [gO q 1 [gi 0, .ref q7, .null, .null, gi 0, .null, .null, .null, gi 0, .null, gi 0, .null, gi 0, .null], gA cI q7 10 (fun _ => 0)]) fp_X1_9 rfl dX1_init_9 0 rfl rfl rfl rfl rfl ?_
  refine g_aload_n (pc := 12) X dX1_init_12 0 rfl ?_
  refine g_bipush (pc := 13) X dX1_init_13 (by decide +kernel) ?_
  refine g_newa (pc := 15) X dX1_init_15 ac_I 10 rfl rfl rfl rfl (fun q15 => ?_)
  refine g_pick (cn := 2) (sl := 20) (st := .ref q15 :: .ref q :: []) X (ws' := [gO q 1 [gi 0, .ref q7, .null, .null, gi 0, .null, .null, .null, gi 0, .null, gi 0, .null, gi 0, .null], gA cI q7 10 (fun _ => 0), gA cI q15 10 (fun _ => 0)]) [0, 1, 2] rfl rfl ?_
  refine g_putF (pc := 17) X (ws' := [gO q 1 [gi 0, .ref q7, .ref q15, .null, gi 0, .null, .null, .null, gi 0, .null, gi 0, .null, gi 0, .null], gA cI q7 10 (fun _ => 0), gA cI q15 10 (fun _ => 0)]) fp_X1_15 rfl dX1_init_17 0 rfl rfl rfl rfl rfl ?_
  refine g_aload_n (pc := 20) X dX1_init_20 0 rfl ?_
  refine g_bipush (pc := 21) X dX1_init_21 (by decide +kernel) ?_
  refine g_newa (pc := 23) X dX1_init_23 ac_I 60 rfl rfl rfl rfl (fun q23 => ?_)
  refine g_pick (cn := 3) (sl := 80) (st := .ref q23 :: .ref q :: []) X (ws' := [gO q 1 [gi 0, .ref q7, .ref q15, .null, gi 0, .null, .null, .null, gi 0, .null, gi 0, .null, gi 0, .null], gA cI q7 10 (fun _ => 0), gA cI q15 10 (fun _ => 0), gA cI q23 60 (fun _ => 0)]) [0, 1, 2, 3] rfl rfl ?_
  refine g_putF (pc := 25) X (ws' := [gO q 1 [gi 0, .ref q7, .ref q15, .ref q23, gi 0, .null, .null, .null, gi 0, .null, gi 0, .null, gi 0, .null], gA cI q7 10 (fun _ => 0), gA cI q15 10 (fun _ => 0), gA cI q23 60 (fun _ => 0)]) fp_X1_18 rfl dX1_init_25 0 rfl rfl rfl rfl rfl ?_
  refine g_aload_n (pc := 28) X dX1_init_28 0 rfl ?_
  refine g_bipush (pc := 29) X dX1_init_29 (by decide +kernel) ?_
  refine g_newa (pc := 31) X dX1_init_31 ac_I 6 rfl rfl rfl rfl (fun q31 => ?_)
  refine g_pick (cn := 4) (sl := 86) (st := .ref q31 :: .ref q :: []) X (ws' := [gO q 1 [gi 0, .ref q7, .ref q15, .ref q23, gi 0, .null, .null, .null, gi 0, .null, gi 0, .null, gi 0, .null], gA cI q7 10 (fun _ => 0), gA cI q15 10 (fun _ => 0), gA cI q23 60 (fun _ => 0), gA cI q31 6 (fun _ => 0)]) [0, 1, 2, 3, 4] rfl rfl ?_
  refine g_putF (pc := 33) X (ws' := [gO q 1 [gi 0, .ref q7, .ref q15, .ref q23, gi 0, .ref q31, .null, .null, gi 0, .null, gi 0, .null, gi 0, .null], gA cI q7 10 (fun _ => 0), gA cI q15 10 (fun _ => 0), gA cI q23 60 (fun _ => 0), gA cI q31 6 (fun _ => 0)]) fp_X1_21 rfl dX1_init_33 0 rfl rfl rfl rfl rfl ?_
  refine g_aload_n (pc := 36) X dX1_init_36 0 rfl ?_
  refine g_bipush (pc := 37) X dX1_init_37 (by decide +kernel) ?_
  refine g_newa (pc := 39) X dX1_init_39 ac_I 36 rfl rfl rfl rfl (fun q39 => ?_)
  refine g_pick (cn := 5) (sl := 122) (st := .ref q39 :: .ref q :: []) X (ws' := [gO q 1 [gi 0, .ref q7, .ref q15, .ref q23, gi 0, .ref q31, .null, .null, gi 0, .null, gi 0, .null, gi 0, .null], gA cI q7 10 (fun _ => 0), gA cI q15 10 (fun _ => 0), gA cI q23 60 (fun _ => 0), gA cI q31 6 (fun _ => 0), gA cI q39 36 (fun _ => 0)]) [0, 1, 2, 3, 4, 5] rfl rfl ?_
  refine g_putF (pc := 41) X (ws' := [gO q 1 [gi 0, .ref q7, .ref q15, .ref q23, gi 0, .ref q31, .ref q39, .null, gi 0, .null, gi 0, .null, gi 0, .null], gA cI q7 10 (fun _ => 0), gA cI q15 10 (fun _ => 0), gA cI q23 60 (fun _ => 0), gA cI q31 6 (fun _ => 0), gA cI q39 36 (fun _ => 0)]) fp_X1_24 rfl dX1_init_41 0 rfl rfl rfl rfl rfl ?_
  refine g_aload_n (pc := 44) X dX1_init_44 0 rfl ?_
  refine g_iconst (pc := 45) X dX1_init_45 ?_
  refine g_newa (pc := 46) X dX1_init_46 ac_I 5 rfl rfl rfl rfl (fun q46 => ?_)
  refine g_pick (cn := 6) (sl := 127) (st := .ref q46 :: .ref q :: []) X (ws' := [gO q 1 [gi 0, .ref q7, .ref q15, .ref q23, gi 0, .ref q31, .ref q39, .null, gi 0, .null, gi 0, .null, gi 0, .null], gA cI q7 10 (fun _ => 0), gA cI q15 10 (fun _ => 0), gA cI q23 60 (fun _ => 0), gA cI q31 6 (fun _ => 0), gA cI q39 36 (fun _ => 0), gA cI q46 5 (fun _ => 0)]) [0, 1, 2, 3, 4, 5, 6] rfl rfl ?_
  refine g_dup (pc := 48) X dX1_init_48 rfl ?_
  refine g_iconst (pc := 49) X dX1_init_49 ?_
  refine g_sipush (pc := 50) X dX1_init_50 (by decide +kernel) ?_
  refine g_iast (pc := 53) X (ws' := [gO q 1 [gi 0, .ref q7, .ref q15, .ref q23, gi 0, .ref q31, .ref q39, .null, gi 0, .null, gi 0, .null, gi 0, .null], gA cI q7 10 (fun _ => 0), gA cI q15 10 (fun _ => 0), gA cI q23 60 (fun _ => 0), gA cI q31 6 (fun _ => 0), gA cI q39 36 (fun _ => 0), gA cI q46 5 (gupd (fun _ => 0) 0 500)]) dX1_init_53 6 rfl (by omega) rfl rfl ?_
  refine g_dup (pc := 54) X dX1_init_54 rfl ?_
  refine g_iconst (pc := 55) X dX1_init_55 ?_
  refine g_iconst (pc := 56) X dX1_init_56 ?_
  refine g_iast (pc := 57) X (ws' := [gO q 1 [gi 0, .ref q7, .ref q15, .ref q23, gi 0, .ref q31, .ref q39, .null, gi 0, .null, gi 0, .null, gi 0, .null], gA cI q7 10 (fun _ => 0), gA cI q15 10 (fun _ => 0), gA cI q23 60 (fun _ => 0), gA cI q31 6 (fun _ => 0), gA cI q39 36 (fun _ => 0), gA cI q46 5 (gupd (gupd (fun _ => 0) 0 500) 1 3)]) dX1_init_57 6 rfl (by omega) rfl rfl ?_
  refine g_dup (pc := 58) X dX1_init_58 rfl ?_
  refine g_iconst (pc := 59) X dX1_init_59 ?_
  refine g_iconst (pc := 60) X dX1_init_60 ?_
  refine g_iast (pc := 61) X (ws' := [gO q 1 [gi 0, .ref q7, .ref q15, .ref q23, gi 0, .ref q31, .ref q39, .null, gi 0, .null, gi 0, .null, gi 0, .null], gA cI q7 10 (fun _ => 0), gA cI q15 10 (fun _ => 0), gA cI q23 60 (fun _ => 0), gA cI q31 6 (fun _ => 0), gA cI q39 36 (fun _ => 0), gA cI q46 5 (gupd (gupd (gupd (fun _ => 0) 0 500) 1 3) 2 3)]) dX1_init_61 6 rfl (by omega) rfl rfl ?_
  refine g_dup (pc := 62) X dX1_init_62 rfl ?_
  refine g_iconst (pc := 63) X dX1_init_63 ?_
  refine g_bipush (pc := 64) X dX1_init_64 (by decide +kernel) ?_
  refine g_iast (pc := 66) X (ws' := [gO q 1 [gi 0, .ref q7, .ref q15, .ref q23, gi 0, .ref q31, .ref q39, .null, gi 0, .null, gi 0, .null, gi 0, .null], gA cI q7 10 (fun _ => 0), gA cI q15 10 (fun _ => 0), gA cI q23 60 (fun _ => 0), gA cI q31 6 (fun _ => 0), gA cI q39 36 (fun _ => 0), gA cI q46 5 (gupd (gupd (gupd (gupd (fun _ => 0) 0 500) 1 3) 2 3) 3 20)]) dX1_init_66 6 rfl (by omega) rfl rfl ?_
  refine g_dup (pc := 67) X dX1_init_67 rfl ?_
  refine g_iconst (pc := 68) X dX1_init_68 ?_
  refine g_bipush (pc := 69) X dX1_init_69 (by decide +kernel) ?_
  refine g_iast (pc := 71) X (ws' := [gO q 1 [gi 0, .ref q7, .ref q15, .ref q23, gi 0, .ref q31, .ref q39, .null, gi 0, .null, gi 0, .null, gi 0, .null], gA cI q7 10 (fun _ => 0), gA cI q15 10 (fun _ => 0), gA cI q23 60 (fun _ => 0), gA cI q31 6 (fun _ => 0), gA cI q39 36 (fun _ => 0), gA cI q46 5 (gupd (gupd (gupd (gupd (gupd (fun _ => 0) 0 500) 1 3) 2 3) 3 20) 4 30)]) dX1_init_71 6 rfl (by omega) rfl rfl ?_
  refine g_putF (pc := 72) X (ws' := [gO q 1 [gi 0, .ref q7, .ref q15, .ref q23, gi 0, .ref q31, .ref q39, .ref q46, gi 0, .null, gi 0, .null, gi 0, .null], gA cI q7 10 (fun _ => 0), gA cI q15 10 (fun _ => 0), gA cI q23 60 (fun _ => 0), gA cI q31 6 (fun _ => 0), gA cI q39 36 (fun _ => 0), gA cI q46 5 (gupd (gupd (gupd (gupd (gupd (fun _ => 0) 0 500) 1 3) 2 3) 3 20) 4 30)]) fp_X1_27 rfl dX1_init_72 0 rfl rfl rfl rfl rfl ?_
  refine g_aload_n (pc := 75) X dX1_init_75 0 rfl ?_
  refine g_sipush (pc := 76) X dX1_init_76 (by decide +kernel) ?_
  refine g_newa (pc := 79) X dX1_init_79 ac_I 200 rfl rfl rfl rfl (fun q79 => ?_)
  refine g_pick (cn := 7) (sl := 327) (st := .ref q79 :: .ref q :: []) X (ws' := [gO q 1 [gi 0, .ref q7, .ref q15, .ref q23, gi 0, .ref q31, .ref q39, .ref q46, gi 0, .null, gi 0, .null, gi 0, .null], gA cI q7 10 (fun _ => 0), gA cI q15 10 (fun _ => 0), gA cI q23 60 (fun _ => 0), gA cI q31 6 (fun _ => 0), gA cI q39 36 (fun _ => 0), gA cI q46 5 (gupd (gupd (gupd (gupd (gupd (fun _ => 0) 0 500) 1 3) 2 3) 3 20) 4 30), gA cI q79 200 (fun _ => 0)]) [0, 1, 2, 3, 4, 5, 6, 7] rfl rfl ?_
  refine g_putF (pc := 81) X (ws' := [gO q 1 [gi 0, .ref q7, .ref q15, .ref q23, gi 0, .ref q31, .ref q39, .ref q46, gi 0, .ref q79, gi 0, .null, gi 0, .null], gA cI q7 10 (fun _ => 0), gA cI q15 10 (fun _ => 0), gA cI q23 60 (fun _ => 0), gA cI q31 6 (fun _ => 0), gA cI q39 36 (fun _ => 0), gA cI q46 5 (gupd (gupd (gupd (gupd (gupd (fun _ => 0) 0 500) 1 3) 2 3) 3 20) 4 30), gA cI q79 200 (fun _ => 0)]) fp_X1_30 rfl dX1_init_81 0 rfl rfl rfl rfl rfl ?_
  refine g_aload_n (pc := 84) X dX1_init_84 0 rfl ?_
  refine g_bipush (pc := 85) X dX1_init_85 (by decide +kernel) ?_
  refine g_newa (pc := 87) X dX1_init_87 ac_I 40 rfl rfl rfl rfl (fun q87 => ?_)
  refine g_pick (cn := 8) (sl := 367) (st := .ref q87 :: .ref q :: []) X (ws' := [gO q 1 [gi 0, .ref q7, .ref q15, .ref q23, gi 0, .ref q31, .ref q39, .ref q46, gi 0, .ref q79, gi 0, .null, gi 0, .null], gA cI q7 10 (fun _ => 0), gA cI q15 10 (fun _ => 0), gA cI q23 60 (fun _ => 0), gA cI q31 6 (fun _ => 0), gA cI q39 36 (fun _ => 0), gA cI q46 5 (gupd (gupd (gupd (gupd (gupd (fun _ => 0) 0 500) 1 3) 2 3) 3 20) 4 30), gA cI q79 200 (fun _ => 0), gA cI q87 40 (fun _ => 0)]) [0, 1, 2, 3, 4, 5, 6, 7, 8] rfl rfl ?_
  refine g_putF (pc := 89) X (ws' := [gO q 1 [gi 0, .ref q7, .ref q15, .ref q23, gi 0, .ref q31, .ref q39, .ref q46, gi 0, .ref q79, gi 0, .ref q87, gi 0, .null], gA cI q7 10 (fun _ => 0), gA cI q15 10 (fun _ => 0), gA cI q23 60 (fun _ => 0), gA cI q31 6 (fun _ => 0), gA cI q39 36 (fun _ => 0), gA cI q46 5 (gupd (gupd (gupd (gupd (gupd (fun _ => 0) 0 500) 1 3) 2 3) 3 20) 4 30), gA cI q79 200 (fun _ => 0), gA cI q87 40 (fun _ => 0)]) fp_X1_33 rfl dX1_init_89 0 rfl rfl rfl rfl rfl ?_
  refine g_aload_n (pc := 92) X dX1_init_92 0 rfl ?_
  refine g_bipush (pc := 93) X dX1_init_93 (by decide +kernel) ?_
  refine g_newa (pc := 95) X dX1_init_95 ac_I 8 rfl rfl rfl rfl (fun q95 => ?_)
  refine g_pick (cn := 9) (sl := 375) (st := .ref q95 :: .ref q :: []) X (ws' := [gO q 1 [gi 0, .ref q7, .ref q15, .ref q23, gi 0, .ref q31, .ref q39, .ref q46, gi 0, .ref q79, gi 0, .ref q87, gi 0, .null], gA cI q7 10 (fun _ => 0), gA cI q15 10 (fun _ => 0), gA cI q23 60 (fun _ => 0), gA cI q31 6 (fun _ => 0), gA cI q39 36 (fun _ => 0), gA cI q46 5 (gupd (gupd (gupd (gupd (gupd (fun _ => 0) 0 500) 1 3) 2 3) 3 20) 4 30), gA cI q79 200 (fun _ => 0), gA cI q87 40 (fun _ => 0), gA cI q95 8 (fun _ => 0)]) [0, 1, 2, 3, 4, 5, 6, 7, 8, 9] rfl rfl ?_
  refine g_putF (pc := 97) X (ws' := [gO q 1 [gi 0, .ref q7, .ref q15, .ref q23, gi 0, .ref q31, .ref q39, .ref q46, gi 0, .ref q79, gi 0, .ref q87, gi 0, .ref q95], gA cI q7 10 (fun _ => 0), gA cI q15 10 (fun _ => 0), gA cI q23 60 (fun _ => 0), gA cI q31 6 (fun _ => 0), gA cI q39 36 (fun _ => 0), gA cI q46 5 (gupd (gupd (gupd (gupd (gupd (fun _ => 0) 0 500) 1 3) 2 3) 3 20) 4 30), gA cI q79 200 (fun _ => 0), gA cI q87 40 (fun _ => 0), gA cI q95 8 (fun _ => 0)]) fp_X1_36 rfl dX1_init_97 0 rfl rfl rfl rfl rfl ?_
  refine g_ws (ws' := [oF q (gAd [0, q7, q15, q23, 0, q31, q39, q46, 0, q79, 0, q87, 0, q95]) 0 0 0 0 0, gA cI q7 10 (fun _ => 0), gA cI q15 10 (fun _ => 0), gA cI q23 60 (fun _ => 0), gA cI q31 6 (fun _ => 0), gA cI q39 36 (fun _ => 0), gA cI q46 5 (gupd (gupd (gupd (gupd (gupd (fun _ => 0) 0 500) 1 3) 2 3) 3 20) 4 30), gA cI q79 200 (fun _ => 0), gA cI q87 40 (fun _ => 0), gA cI q95 8 (fun _ => 0)]) rfl ?_
  refine g_ws (ws' := [oF q (gAd [0, q7, q15, q23, 0, q31, q39, q46, 0, q79, 0, q87, 0, q95]) (A0 0) (A0 1) (A0 2) (A0 3) (A0 4), gA cI q7 10 (fun j => A0 (5 + j)), gA cI q15 10 (fun j => A0 (15 + j)), gA cI q23 60 (fun j => A0 (25 + j)), gA cI q31 6 (fun j => A0 (85 + j)), gA cI q39 36 (fun j => A0 (91 + j)), gA cI q46 5 (fun j => A0 (127 + j)), gA cI q79 200 (fun j => A0 (132 + j)), gA cI q87 40 (fun j => A0 (332 + j)), gA cI q95 8 (fun j => A0 (372 + j))]) (by rw [(show oF q (gAd [0, q7, q15, q23, 0, q31, q39, q46, 0, q79, 0, q87, 0, q95]) 0 0 0 0 0 = oF q (gAd [0, q7, q15, q23, 0, q31, q39, q46, 0, q79, 0, q87, 0, q95]) (A0 0) (A0 1) (A0 2) (A0 3) (A0 4) from oF_ext (A0_z (by omega)).symm (A0_z (by omega)).symm (A0_z (by omega)).symm (A0_z (by omega)).symm (A0_z (by omega)).symm), (show gA cI q7 10 (fun _ => 0) = gA cI q7 10 (fun j => A0 (5 + j)) from gA_ext (fun j j0 j1 => (A0_z (by omega)).symm)), (show gA cI q15 10 (fun _ => 0) = gA cI q15 10 (fun j => A0 (15 + j)) from gA_ext (fun j j0 j1 => (A0_z (by omega)).symm)), (show gA cI q23 60 (fun _ => 0) = gA cI q23 60 (fun j => A0 (25 + j)) from gA_ext (fun j j0 j1 => (A0_z (by omega)).symm)), (show gA cI q31 6 (fun _ => 0) = gA cI q31 6 (fun j => A0 (85 + j)) from gA_ext (fun j j0 j1 => (A0_z (by omega)).symm)), (show gA cI q39 36 (fun _ => 0) = gA cI q39 36 (fun j => A0 (91 + j)) from gA_ext (fun j j0 j1 => (A0_z (by omega)).symm)), (show gA cI q46 5 (gupd (gupd (gupd (gupd (gupd (fun _ => 0) 0 500) 1 3) 2 3) 3 20) 4 30) = gA cI q46 5 (fun j => A0 (127 + j)) from gA_ext (fun j j0 j1 => (by unfold gupd A0; (try dsimp only); (repeat' split) <;> first | rfl | (exfalso; omega)))), (show gA cI q79 200 (fun _ => 0) = gA cI q79 200 (fun j => A0 (132 + j)) from gA_ext (fun j j0 j1 => (A0_z (by omega)).symm)), (show gA cI q87 40 (fun _ => 0) = gA cI q87 40 (fun j => A0 (332 + j)) from gA_ext (fun j j0 j1 => (A0_z (by omega)).symm)), (show gA cI q95 8 (fun _ => 0) = gA cI q95 8 (fun j => A0 (372 + j)) from gA_ext (fun j j0 j1 => (A0_z (by omega)).symm))]) ?_
  exact ret _ _ _ _ _ dX1_init_100 rfl rfl (gPxv_e (gAd [0, q7, q15, q23, 0, q31, q39, q46, 0, q79, 0, q87, 0, q95]) rfl trivial)

set_option maxHeartbeats 4000000 in
set_option maxRecDepth 100000 in
theorem c_X2_init (l : Launch) (D : va_G) (cI cZ : ClassId) (q : Nat)  : GM l D cI cZ yX2_init cX2_init 1 none ({ frames := 3, cells := 6, slots := 30, locals := 65 }) 6 30 false [.ref q] [gO q 2 [.null, .null, .null]] (gPxv (fun xo : (Nat → Nat) × (Nat → Nat) × (Nat → Nat) × (Nat → Nat) × (Int → Int) × (Int) => [oC q xo.1, oL (xo.1 0) xo.2.1 0, gA cI (xo.2.1 0) 8 (fun _ => 0), oL (xo.1 1) xo.2.2.1 xo.2.2.2.2.2, gA cI (xo.2.2.1 0) 8 xo.2.2.2.2.1, oL (xo.1 2) xo.2.2.2.1 0, gA cI (xo.2.2.2.1 0) 8 (fun _ => 0)]) (fun xo : (Nat → Nat) × (Nat → Nat) × (Nat → Nat) × (Nat → Nat) × (Int → Int) × (Int) => (lm xo.2.2.2.2.1 xo.2.2.2.2.2 1))) := by
  refine g_enterV (lv0 := [(0, .ref q)]) (by decide) rfl rfl (fun V X ret => ?_)
  refine g_aload_n (pc := 0) X dX2_init_0 0 rfl ?_
  refine g_objInit (pc := 1) X lm_X2_3 oi_1 oi_2 dX2_init_1 rfl rfl ?_
  refine g_aload_n (pc := 4) X dX2_init_4 0 rfl ?_
  refine g_new (pc := 5) X (ci := 4) (fs := [.null, gi 0]) tyX4 tyX4_ok cwX4 rfl cl_X2_9 ci_X4 cn_X4 (fun j hj => by rcases (show j = 0 ∨ j = 1 by omega) with rfl | rfl <;> rfl) dX2_init_5 rfl rfl (fun q5 => ?_)
  refine g_pick (cn := 1) (sl := 2) (st := .ref q5 :: .ref q :: []) X (ws' := [gO q 2 [.null, .null, .null], gO q5 4 [.null, gi 0]]) [0, 1] rfl rfl ?_
  refine g_dup (pc := 8) X dX2_init_8 rfl ?_
  refine gc_INxv (pc := 9) X (wr := [gO q 2 [.null, .null, .null]]) (c_X4_init l D cI cZ q5) lm_X2_11 dX2_init_9 [1] [0] rfl rfl rfl rfl (by decide) rfl rfl rfl rfl (fun x9 hx9 => ?_)
  generalize x9 = aa_9 at hx9 ⊢
  refine g_pick (cn := 2) (sl := 10) (st := .ref q5 :: .ref q :: []) X (ws' := [gO q 2 [.null, .null, .null], oL q5 aa_9 0, gA cI (aa_9 0) 8 (fun _ => 0)]) [0, 1, 2] rfl rfl ?_
  refine g_putF (pc := 12) X (ws' := [gO q 2 [.ref q5, .null, .null], oL q5 aa_9 0, gA cI (aa_9 0) 8 (fun _ => 0)]) fp_X2_12 rfl dX2_init_12 0 rfl rfl rfl rfl rfl ?_
  refine g_aload_n (pc := 15) X dX2_init_15 0 rfl ?_
  refine g_new (pc := 16) X (ci := 4) (fs := [.null, gi 0]) tyX4 tyX4_ok cwX4 rfl cl_X2_9 ci_X4 cn_X4 (fun j hj => by rcases (show j = 0 ∨ j = 1 by omega) with rfl | rfl <;> rfl) dX2_init_16 rfl rfl (fun q16 => ?_)
  refine g_pick (cn := 3) (sl := 12) (st := .ref q16 :: .ref q :: []) X (ws' := [gO q 2 [.ref q5, .null, .null], oL q5 aa_9 0, gA cI (aa_9 0) 8 (fun _ => 0), gO q16 4 [.null, gi 0]]) [0, 1, 2, 3] rfl rfl ?_
  refine g_dup (pc := 19) X dX2_init_19 rfl ?_
  refine gc_INxv (pc := 20) X (wr := [gO q 2 [.ref q5, .null, .null], oL q5 aa_9 0, gA cI (aa_9 0) 8 (fun _ => 0)]) (c_X4_init l D cI cZ q16) lm_X2_11 dX2_init_20 [3] [0, 1, 2] rfl rfl rfl rfl (by decide) rfl rfl rfl rfl (fun x20 hx20 => ?_)
  generalize x20 = aa_20 at hx20 ⊢
  refine g_pick (cn := 4) (sl := 20) (st := .ref q16 :: .ref q :: []) X (ws' := [gO q 2 [.ref q5, .null, .null], oL q5 aa_9 0, gA cI (aa_9 0) 8 (fun _ => 0), oL q16 aa_20 0, gA cI (aa_20 0) 8 (fun _ => 0)]) [0, 1, 2, 3, 4] rfl rfl ?_
  refine g_putF (pc := 23) X (ws' := [gO q 2 [.ref q5, .ref q16, .null], oL q5 aa_9 0, gA cI (aa_9 0) 8 (fun _ => 0), oL q16 aa_20 0, gA cI (aa_20 0) 8 (fun _ => 0)]) fp_X2_18 rfl dX2_init_23 0 rfl rfl rfl rfl rfl ?_
  refine g_aload_n (pc := 26) X dX2_init_26 0 rfl ?_
  refine g_new (pc := 27) X (ci := 4) (fs := [.null, gi 0]) tyX4 tyX4_ok cwX4 rfl cl_X2_9 ci_X4 cn_X4 (fun j hj => by rcases (show j = 0 ∨ j = 1 by omega) with rfl | rfl <;> rfl) dX2_init_27 rfl rfl (fun q27 => ?_)
  refine g_pick (cn := 5) (sl := 22) (st := .ref q27 :: .ref q :: []) X (ws' := [gO q 2 [.ref q5, .ref q16, .null], oL q5 aa_9 0, gA cI (aa_9 0) 8 (fun _ => 0), oL q16 aa_20 0, gA cI (aa_20 0) 8 (fun _ => 0), gO q27 4 [.null, gi 0]]) [0, 1, 2, 3, 4, 5] rfl rfl ?_
  refine g_dup (pc := 30) X dX2_init_30 rfl ?_
  refine gc_INxv (pc := 31) X (wr := [gO q 2 [.ref q5, .ref q16, .null], oL q5 aa_9 0, gA cI (aa_9 0) 8 (fun _ => 0), oL q16 aa_20 0, gA cI (aa_20 0) 8 (fun _ => 0)]) (c_X4_init l D cI cZ q27) lm_X2_11 dX2_init_31 [5] [0, 1, 2, 3, 4] rfl rfl rfl rfl (by decide) rfl rfl rfl rfl (fun x31 hx31 => ?_)
  generalize x31 = aa_31 at hx31 ⊢
  refine g_pick (cn := 6) (sl := 30) (st := .ref q27 :: .ref q :: []) X (ws' := [gO q 2 [.ref q5, .ref q16, .null], oL q5 aa_9 0, gA cI (aa_9 0) 8 (fun _ => 0), oL q16 aa_20 0, gA cI (aa_20 0) 8 (fun _ => 0), oL q27 aa_31 0, gA cI (aa_31 0) 8 (fun _ => 0)]) [0, 1, 2, 3, 4, 5, 6] rfl rfl ?_
  refine g_putF (pc := 34) X (ws' := [gO q 2 [.ref q5, .ref q16, .ref q27], oL q5 aa_9 0, gA cI (aa_9 0) 8 (fun _ => 0), oL q16 aa_20 0, gA cI (aa_20 0) 8 (fun _ => 0), oL q27 aa_31 0, gA cI (aa_31 0) 8 (fun _ => 0)]) fp_X2_21 rfl dX2_init_34 0 rfl rfl rfl rfl rfl ?_
  refine g_aload_n (pc := 37) X dX2_init_37 0 rfl ?_
  refine g_get (pc := 38) X fl_X2_18 dX2_init_38 0 (v := .ref q16) rfl rfl ?_
  refine g_iconst (pc := 41) X dX2_init_41 ?_
  refine gc_Vxv (pc := 42) X (wr := [gO q 2 [.ref q5, .ref q16, .ref q27], oL q5 aa_9 0, gA cI (aa_9 0) 8 (fun _ => 0), oL q27 aa_31 0, gA cI (aa_31 0) 8 (fun _ => 0)]) (c_X4_become l D cI cZ q16 aa_20 0 (fun _ => 0) 1 (fun jj _ _ => by (try dsimp only); omega) (by omega)) lm_X2_24 dX2_init_42 [3, 4] [0, 1, 2, 5, 6] rfl rfl rfl rfl (by decide) rfl rfl rfl rfl rfl rfl (fun x42 hx42 => ?_)
  obtain ⟨g_42, m_42⟩ := x42
  have ht_42 : lm g_42 m_42 1 := hx42
  refine g_pick (cn := 6) (sl := 30) (st := []) X (ws' := [gO q 2 [.ref q5, .ref q16, .ref q27], oL q5 aa_9 0, gA cI (aa_9 0) 8 (fun _ => 0), oL q16 aa_20 m_42, gA cI (aa_20 0) 8 g_42, oL q27 aa_31 0, gA cI (aa_31 0) 8 (fun _ => 0)]) [0, 1, 2, 5, 6, 3, 4] rfl rfl ?_
  exact ret _ _ _ _ _ dX2_init_45 rfl rfl (gPxv_e ((gAd [q5, q16, q27]), _, _, _, _, _) rfl ht_42)
