set_option maxHeartbeats 4000000 in
set_option maxRecDepth 100000 in
theorem c_X8_fits (l : Launch) (D : va_G) (cI cZ : ClassId) (v : Int) (a : Int) (b : Int) (hv : -2147483648 ≤ v ∧ v < 2147483648) (ha : -2147483648 ≤ a ∧ a < 2147483648) (hb : -2147483648 ≤ b ∧ b < 2147483648) : GM l D cI cZ yX8_fits cX8_fits 3 (some .boolean) ({ frames := 0, cells := 0, slots := 0, locals := 0 }) 0 0 true [gi v, gi a, gi b] [] (gPi (gB (a ≤ v ∧ v ≤ b))) := by
  refine g_enterI (z := true) (lv0 := [(0, gi v), (1, gi a), (2, gi b)]) _ rfl (by decide) rfl rfl (fun V X ret => ?_)
  refine g_iload_n (pc := 0) X dX8_fits_0 0 rfl ?_
  refine g_iload_n (pc := 1) X dX8_fits_1 1 rfl ?_
  refine g_icmplt (pc := 2) X 14 dX8_fits_2 (by decide) (by omega) (by omega) (fun h2 => ?_) (fun h2 => ?_)
  · refine g_iconst (pc := 14) X dX8_fits_14 ?_
    exact ret _ _ _ _ _ _ dX8_fits_15 rfl rfl (fun _ => Or.inl rfl) (gPi_e (gB_f (by omega)).symm)
  · refine g_iload_n (pc := 5) X dX8_fits_5 0 rfl ?_
    refine g_iload_n (pc := 6) X dX8_fits_6 2 rfl ?_
    refine g_icmpgt (pc := 7) X 14 dX8_fits_7 (by decide) (by omega) (by omega) (fun h7 => ?_) (fun h7 => ?_)
    · refine g_iconst (pc := 14) X dX8_fits_14 ?_
      exact ret _ _ _ _ _ _ dX8_fits_15 rfl rfl (fun _ => Or.inl rfl) (gPi_e (gB_f (by omega)).symm)
    · refine g_iconst (pc := 10) X dX8_fits_10 ?_
      refine g_goto (pc := 11) X 15 dX8_fits_11 (by decide) ?_
      exact ret _ _ _ _ _ _ dX8_fits_15 rfl rfl (fun _ => Or.inr rfl) (gPi_e (gB_t (by omega)).symm)

set_option maxHeartbeats 4000000 in
set_option maxRecDepth 100000 in
theorem c_X9_in (l : Launch) (D : va_G) (cI cZ : ClassId) (v : Int) (a : Int) (b : Int) (hv : -2147483648 ≤ v ∧ v < 2147483648) (ha : -2147483648 ≤ a ∧ a < 2147483648) (hb : -2147483648 ≤ b ∧ b < 2147483648) : GM l D cI cZ yX9_in cX9_in 3 (some .boolean) ({ frames := 0, cells := 0, slots := 0, locals := 0 }) 0 0 true [gi v, gi a, gi b] [] (gPi (gB (a ≤ v ∧ v ≤ b))) := by
  refine g_enterI (z := true) (lv0 := [(0, gi v), (1, gi a), (2, gi b)]) _ rfl (by decide) rfl rfl (fun V X ret => ?_)
  refine g_iload_n (pc := 0) X dX9_in_0 0 rfl ?_
  refine g_iload_n (pc := 1) X dX9_in_1 1 rfl ?_
  refine g_icmplt (pc := 2) X 14 dX9_in_2 (by decide) (by omega) (by omega) (fun h2 => ?_) (fun h2 => ?_)
  · refine g_iconst (pc := 14) X dX9_in_14 ?_
    exact ret _ _ _ _ _ _ dX9_in_15 rfl rfl (fun _ => Or.inl rfl) (gPi_e (gB_f (by omega)).symm)
  · refine g_iload_n (pc := 5) X dX9_in_5 0 rfl ?_
    refine g_iload_n (pc := 6) X dX9_in_6 2 rfl ?_
    refine g_icmpgt (pc := 7) X 14 dX9_in_7 (by decide) (by omega) (by omega) (fun h7 => ?_) (fun h7 => ?_)
    · refine g_iconst (pc := 14) X dX9_in_14 ?_
      exact ret _ _ _ _ _ _ dX9_in_15 rfl rfl (fun _ => Or.inl rfl) (gPi_e (gB_f (by omega)).symm)
    · refine g_iconst (pc := 10) X dX9_in_10 ?_
      refine g_goto (pc := 11) X 15 dX9_in_11 (by decide) ?_
      exact ret _ _ _ _ _ _ dX9_in_15 rfl rfl (fun _ => Or.inr rfl) (gPi_e (gB_t (by omega)).symm)

set_option maxHeartbeats 4000000 in
set_option maxRecDepth 100000 in
theorem c_X8_look (l : Launch) (D : va_G) (cI cZ : ClassId) (q : Nat) (n : Nat) (f : Int → Int) (i : Int) (hi : -2147483648 ≤ i ∧ i < 2147483648) (hn : Nat.blt n 2147483648 = true) : GM l D cI cZ yX8_look cX8_look 2 (some .int) ({ frames := 0, cells := 0, slots := 0, locals := 0 }) 0 0 true [.ref q, gi i] [gA cI q n f] (gPi (lk n f i)) := by
  refine g_enterI (z := false) (lv0 := [(0, .ref q), (1, gi i)]) _ rfl (by decide) rfl rfl (fun V X ret => ?_)
  have hn2 := Nat.le_of_ble_eq_true hn
  refine g_iload_n (pc := 0) X dX8_look_0 1 rfl ?_
  refine g_iflt (pc := 1) X 16 dX8_look_1 (by decide) (by omega) (fun h1 => ?_) (fun h1 => ?_)
  · refine g_iconst (pc := 16) X dX8_look_16 ?_
    exact ret _ _ _ _ _ _ dX8_look_17 rfl rfl (fun h => by cases h) (gPi_e (by unfold lk; rw [if_neg (by omega)]))
  · refine g_iload_n (pc := 4) X dX8_look_4 1 rfl ?_
    refine g_aload_n (pc := 5) X dX8_look_5 0 rfl ?_
    refine g_alen (pc := 6) X dX8_look_6 0 rfl ?_
    refine g_icmpge (pc := 7) X 16 dX8_look_7 (by decide) (by omega) (by omega) (fun h7 => ?_) (fun h7 => ?_)
    · refine g_iconst (pc := 16) X dX8_look_16 ?_
      exact ret _ _ _ _ _ _ dX8_look_17 rfl rfl (fun h => by cases h) (gPi_e (by unfold lk; rw [if_neg (by omega)]))
    · refine g_aload_n (pc := 10) X dX8_look_10 0 rfl ?_
      refine g_iload_n (pc := 11) X dX8_look_11 1 rfl ?_
      refine g_iald (pc := 12) X dX8_look_12 0 rfl (by omega) hn ?_
      refine g_goto (pc := 13) X 17 dX8_look_13 (by decide) ?_
      exact ret _ _ _ _ _ _ dX8_look_17 rfl rfl (fun h => by cases h) (gPi_e (by unfold lk; rw [if_pos (by omega)]))

set_option maxHeartbeats 4000000 in
set_option maxRecDepth 100000 in
theorem c_X8_lay (l : Launch) (D : va_G) (cI cZ : ClassId) (q : Nat) (n : Nat) (f : Int → Int) (i : Int) (v : Int) (hi : -2147483648 ≤ i ∧ i < 2147483648) (hn : Nat.blt n 2147483648 = true) : GM l D cI cZ yX8_lay cX8_lay 3 none ({ frames := 0, cells := 0, slots := 0, locals := 0 }) 0 0 false [.ref q, gi i, gi v] [gA cI q n f] (gPxv (fun xo : Unit => [gA cI q n (ly n f i v)]) (fun xo : Unit => True)) := by
  refine g_enterV (lv0 := [(0, .ref q), (1, gi i), (2, gi v)]) (by decide) rfl rfl (fun V X ret => ?_)
  have hn2 := Nat.le_of_ble_eq_true hn
  refine g_iload_n (pc := 0) X dX8_lay_0 1 rfl ?_
  refine g_iflt (pc := 1) X 14 dX8_lay_1 (by decide) (by omega) (fun h1 => ?_) (fun h1 => ?_)
  · exact ret _ _ _ _ _ dX8_lay_14 rfl rfl (gPxv_e () (by unfold ly; rw [if_neg (by omega)]) trivial)
  · refine g_iload_n (pc := 4) X dX8_lay_4 1 rfl ?_
    refine g_aload_n (pc := 5) X dX8_lay_5 0 rfl ?_
    refine g_alen (pc := 6) X dX8_lay_6 0 rfl ?_
    refine g_icmpge (pc := 7) X 14 dX8_lay_7 (by decide) (by omega) (by omega) (fun h7 => ?_) (fun h7 => ?_)
    · exact ret _ _ _ _ _ dX8_lay_14 rfl rfl (gPxv_e () (by unfold ly; rw [if_neg (by omega)]) trivial)
    · refine g_aload_n (pc := 10) X dX8_lay_10 0 rfl ?_
      refine g_iload_n (pc := 11) X dX8_lay_11 1 rfl ?_
      refine g_iload_n (pc := 12) X dX8_lay_12 2 rfl ?_
      refine g_iast (pc := 13) X (ws' := [gA cI q n (gupd f i v)]) dX8_lay_13 0 rfl (by omega) hn rfl ?_
      exact ret _ _ _ _ _ dX8_lay_14 rfl rfl (gPxv_e () (by unfold ly; rw [if_pos (by omega)]) trivial)

set_option maxHeartbeats 4000000 in
set_option maxRecDepth 100000 in
theorem c_X8_exchange (l : Launch) (D : va_G) (cI cZ : ClassId) (q : Nat) (n : Nat) (f : Int → Int) (i : Int) (v : Int) (hi : 0 ≤ i ∧ i < (n : Int)) (hn : Nat.blt n 2147483648 = true) : GM l D cI cZ yX8_exchange cX8_exchange 4 (some .int) ({ frames := 1, cells := 0, slots := 0, locals := 22 }) 0 0 false [.ref q, gi i, gi v] [gA cI q n f] (gPxi (fun xo : Unit => f i) (fun xo : Unit => [gA cI q n (gupd f i v)]) (fun xo : Unit => True)) := by
  refine g_enterI (z := false) (lv0 := [(0, .ref q), (1, gi i), (2, gi v)]) _ rfl (by decide) rfl rfl (fun V X ret => ?_)
  have hn2 := Nat.le_of_ble_eq_true hn
  refine g_aload_n (pc := 0) X dX8_exchange_0 0 rfl ?_
  refine g_iload_n (pc := 1) X dX8_exchange_1 1 rfl ?_
  refine gc_Si (pc := 2) X (c_X8_look l D cI cZ q n f i (by omega) hn) lm_X8_281 dX8_exchange_2 [0] rfl rfl rfl rfl rfl rfl ?_
  refine g_top (b := f i) (lk_in (by omega)) ?_
  refine g_istore_n (pc := 5) X (lv' := [(0, .ref q), (1, gi i), (2, gi v), (3, gi (f i))]) dX8_exchange_5 rfl rfl ?_
  refine g_aload_n (pc := 6) X dX8_exchange_6 0 rfl ?_
  refine g_iload_n (pc := 7) X dX8_exchange_7 1 rfl ?_
  refine g_iload_n (pc := 8) X dX8_exchange_8 2 rfl ?_
  refine gc_Sxv (pc := 9) X (wr := []) (c_X8_lay l D cI cZ q n f i v (by omega) hn) lm_X8_311 dX8_exchange_9 [0] [] rfl rfl rfl rfl (by decide) rfl rfl rfl rfl (fun x9 hx9 => ?_)
  refine g_pick (cn := 0) (sl := 0) (st := []) X (ws' := [gA cI q n (ly n f i v)]) [0] rfl rfl ?_
  rw [ly_in (n := n) (f := f) (i := i) (v := v) (by omega)]
  refine g_iload_n (pc := 12) X dX8_exchange_12 3 rfl ?_
  exact ret _ _ _ _ _ _ dX8_exchange_13 rfl rfl (fun h => by cases h) (gPxi_e () rfl rfl trivial)
