/-! the class: refusals, ranges, what a film keeps -/
set_option maxHeartbeats 4000000 in
set_option maxRecDepth 100000 in
theorem c_X8_refuseBad (l : Launch) (D : va_G) (cI cZ : ClassId) (q : Nat) (a : Nat → Nat) (k0 : Int) (k1 : Int) (b : Int) (n : Int) (f : Int)  : GM l D cI cZ yX8_refuseBad cX8_refuseBad 1 (some .int) ({ frames := 0, cells := 0, slots := 0, locals := 0 }) 0 0 false [.ref q] [oX q a k0 k1 b n f] (gPxi (fun xo : Unit => (-2)) (fun xo : Unit => [oX q a k0 k1 (b + 1) n f]) (fun xo : Unit => True)) := by
  refine g_enterI (z := false) (lv0 := [(0, .ref q)]) _ rfl (by decide) rfl rfl (fun V X ret => ?_)
  refine g_aload_n (pc := 0) X dX8_refuseBad_0 0 rfl ?_
  refine g_dup (pc := 1) X dX8_refuseBad_1 rfl ?_
  refine g_get (pc := 2) X fl_X8_295 dX8_refuseBad_2 0 (v := gi b) rfl rfl ?_
  refine g_iconst (pc := 5) X dX8_refuseBad_5 ?_
  refine g_iadd (pc := 6) X dX8_refuseBad_6 ?_
  refine g_put (pc := 7) X (ws' := [oX q a k0 k1 (b + 1) n f]) fp_X8_295 dX8_refuseBad_7 0 rfl rfl rfl rfl rfl ?_
  refine g_bipush (pc := 10) X dX8_refuseBad_10 (by decide +kernel) ?_
  exact ret _ _ _ _ _ _ dX8_refuseBad_12 rfl rfl (fun h => by cases h) (gPxi_e () rfl rfl trivial)

set_option maxHeartbeats 4000000 in
set_option maxRecDepth 100000 in
theorem c_X8_refuseNo (l : Launch) (D : va_G) (cI cZ : ClassId) (q : Nat) (a : Nat → Nat) (k0 : Int) (k1 : Int) (b : Int) (n : Int) (f : Int)  : GM l D cI cZ yX8_refuseNo cX8_refuseNo 1 (some .int) ({ frames := 0, cells := 0, slots := 0, locals := 0 }) 0 0 false [.ref q] [oX q a k0 k1 b n f] (gPxi (fun xo : Unit => (-3)) (fun xo : Unit => [oX q a k0 k1 b (n + 1) f]) (fun xo : Unit => True)) := by
  refine g_enterI (z := false) (lv0 := [(0, .ref q)]) _ rfl (by decide) rfl rfl (fun V X ret => ?_)
  refine g_aload_n (pc := 0) X dX8_refuseNo_0 0 rfl ?_
  refine g_dup (pc := 1) X dX8_refuseNo_1 rfl ?_
  refine g_get (pc := 2) X fl_X8_298 dX8_refuseNo_2 0 (v := gi n) rfl rfl ?_
  refine g_iconst (pc := 5) X dX8_refuseNo_5 ?_
  refine g_iadd (pc := 6) X dX8_refuseNo_6 ?_
  refine g_put (pc := 7) X (ws' := [oX q a k0 k1 b (n + 1) f]) fp_X8_298 dX8_refuseNo_7 0 rfl rfl rfl rfl rfl ?_
  refine g_bipush (pc := 10) X dX8_refuseNo_10 (by decide +kernel) ?_
  exact ret _ _ _ _ _ _ dX8_refuseNo_12 rfl rfl (fun h => by cases h) (gPxi_e () rfl rfl trivial)

set_option maxHeartbeats 4000000 in
set_option maxRecDepth 100000 in
theorem c_X8_refuseFull (l : Launch) (D : va_G) (cI cZ : ClassId) (q : Nat) (a : Nat → Nat) (k0 : Int) (k1 : Int) (b : Int) (n : Int) (f : Int)  : GM l D cI cZ yX8_refuseFull cX8_refuseFull 1 (some .int) ({ frames := 0, cells := 0, slots := 0, locals := 0 }) 0 0 false [.ref q] [oX q a k0 k1 b n f] (gPxi (fun xo : Unit => (-4)) (fun xo : Unit => [oX q a k0 k1 b n (f + 1)]) (fun xo : Unit => True)) := by
  refine g_enterI (z := false) (lv0 := [(0, .ref q)]) _ rfl (by decide) rfl rfl (fun V X ret => ?_)
  refine g_aload_n (pc := 0) X dX8_refuseFull_0 0 rfl ?_
  refine g_dup (pc := 1) X dX8_refuseFull_1 rfl ?_
  refine g_get (pc := 2) X fl_X8_301 dX8_refuseFull_2 0 (v := gi f) rfl rfl ?_
  refine g_iconst (pc := 5) X dX8_refuseFull_5 ?_
  refine g_iadd (pc := 6) X dX8_refuseFull_6 ?_
  refine g_put (pc := 7) X (ws' := [oX q a k0 k1 b n (f + 1)]) fp_X8_301 dX8_refuseFull_7 0 rfl rfl rfl rfl rfl ?_
  refine g_bipush (pc := 10) X dX8_refuseFull_10 (by decide +kernel) ?_
  exact ret _ _ _ _ _ _ dX8_refuseFull_12 rfl rfl (fun h => by cases h) (gPxi_e () rfl rfl trivial)

set_option maxHeartbeats 4000000 in
set_option maxRecDepth 100000 in
theorem c_X8_isThing (l : Launch) (D : va_G) (cI cZ : ClassId) (q : Nat) (a : Nat → Nat) (k0 : Int) (k1 : Int) (b : Int) (n : Int) (f : Int) (aF : Nat → Nat) (t : Int) (m : Int) (bt : Int) (hc : Int) (sc : Int) (i : Int) (hi : -2147483648 ≤ i ∧ i < 2147483648) (hx : 0 ≤ t ∧ t ≤ 10) : GM l D cI cZ yX8_isThing cX8_isThing 2 (some .boolean) ({ frames := 1, cells := 0, slots := 0, locals := 22 }) 0 0 true [.ref q, gi i] [oX q a k0 k1 b n f, oF (a 0) aF t m bt hc sc] (gPi (gB (0 ≤ i ∧ i ≤ t - 1))) := by
  refine g_enterI (z := true) (lv0 := [(0, .ref q), (1, gi i)]) _ rfl (by decide) rfl rfl (fun V X ret => ?_)
  refine g_iload_n (pc := 0) X dX8_isThing_0 1 rfl ?_
  refine g_iconst (pc := 1) X dX8_isThing_1 ?_
  refine g_aload_n (pc := 2) X dX8_isThing_2 0 rfl ?_
  refine g_get (pc := 3) X fl_X8_10 dX8_isThing_3 0 (v := .ref (a 0)) rfl rfl ?_
  refine g_get (pc := 6) X fl_X8_65 dX8_isThing_6 1 (v := gi t) rfl rfl ?_
  refine g_iconst (pc := 9) X dX8_isThing_9 ?_
  refine g_isub (pc := 10) X dX8_isThing_10 ?_
  refine gc_Si (pc := 11) X (c_X8_fits l D cI cZ i 0 (t - 1) (by omega) (by omega) (by omega)) lm_X8_57 dX8_isThing_11 [] rfl rfl rfl rfl rfl rfl ?_
  exact ret _ _ _ _ _ _ dX8_isThing_14 rfl rfl (fun _ => gB_iI) (gPi_e rfl)

set_option maxHeartbeats 4000000 in
set_option maxRecDepth 100000 in
theorem c_X8_isMeaning (l : Launch) (D : va_G) (cI cZ : ClassId) (q : Nat) (a : Nat → Nat) (k0 : Int) (k1 : Int) (b : Int) (n : Int) (f : Int) (aF : Nat → Nat) (t : Int) (m : Int) (bt : Int) (hc : Int) (sc : Int) (i : Int) (hi : -2147483648 ≤ i ∧ i < 2147483648) (hx : 0 ≤ m ∧ m ≤ 10) : GM l D cI cZ yX8_isMeaning cX8_isMeaning 2 (some .boolean) ({ frames := 1, cells := 0, slots := 0, locals := 22 }) 0 0 true [.ref q, gi i] [oX q a k0 k1 b n f, oF (a 0) aF t m bt hc sc] (gPi (gB (0 ≤ i ∧ i ≤ m - 1))) := by
  refine g_enterI (z := true) (lv0 := [(0, .ref q), (1, gi i)]) _ rfl (by decide) rfl rfl (fun V X ret => ?_)
  refine g_iload_n (pc := 0) X dX8_isMeaning_0 1 rfl ?_
  refine g_iconst (pc := 1) X dX8_isMeaning_1 ?_
  refine g_aload_n (pc := 2) X dX8_isMeaning_2 0 rfl ?_
  refine g_get (pc := 3) X fl_X8_10 dX8_isMeaning_3 0 (v := .ref (a 0)) rfl rfl ?_
  refine g_get (pc := 6) X fl_X8_91 dX8_isMeaning_6 1 (v := gi m) rfl rfl ?_
  refine g_iconst (pc := 9) X dX8_isMeaning_9 ?_
  refine g_isub (pc := 10) X dX8_isMeaning_10 ?_
  refine gc_Si (pc := 11) X (c_X8_fits l D cI cZ i 0 (m - 1) (by omega) (by omega) (by omega)) lm_X8_57 dX8_isMeaning_11 [] rfl rfl rfl rfl rfl rfl ?_
  exact ret _ _ _ _ _ _ dX8_isMeaning_14 rfl rfl (fun _ => gB_iI) (gPi_e rfl)

set_option maxHeartbeats 4000000 in
set_option maxRecDepth 100000 in
theorem c_X8_isHouse (l : Launch) (D : va_G) (cI cZ : ClassId) (q : Nat) (a : Nat → Nat) (k0 : Int) (k1 : Int) (b : Int) (n : Int) (f : Int) (aF : Nat → Nat) (t : Int) (m : Int) (bt : Int) (hc : Int) (sc : Int) (i : Int) (hi : -2147483648 ≤ i ∧ i < 2147483648) (hx : 0 ≤ hc ∧ hc ≤ 10) : GM l D cI cZ yX8_isHouse cX8_isHouse 2 (some .boolean) ({ frames := 1, cells := 0, slots := 0, locals := 22 }) 0 0 true [.ref q, gi i] [oX q a k0 k1 b n f, oF (a 0) aF t m bt hc sc] (gPi (gB (0 ≤ i ∧ i ≤ hc - 1))) := by
  refine g_enterI (z := true) (lv0 := [(0, .ref q), (1, gi i)]) _ rfl (by decide) rfl rfl (fun V X ret => ?_)
  refine g_iload_n (pc := 0) X dX8_isHouse_0 1 rfl ?_
  refine g_iconst (pc := 1) X dX8_isHouse_1 ?_
  refine g_aload_n (pc := 2) X dX8_isHouse_2 0 rfl ?_
  refine g_get (pc := 3) X fl_X8_10 dX8_isHouse_3 0 (v := .ref (a 0)) rfl rfl ?_
  refine g_get (pc := 6) X fl_X8_241 dX8_isHouse_6 1 (v := gi hc) rfl rfl ?_
  refine g_iconst (pc := 9) X dX8_isHouse_9 ?_
  refine g_isub (pc := 10) X dX8_isHouse_10 ?_
  refine gc_Si (pc := 11) X (c_X8_fits l D cI cZ i 0 (hc - 1) (by omega) (by omega) (by omega)) lm_X8_57 dX8_isHouse_11 [] rfl rfl rfl rfl rfl rfl ?_
  exact ret _ _ _ _ _ _ dX8_isHouse_14 rfl rfl (fun _ => gB_iI) (gPi_e rfl)

set_option maxHeartbeats 4000000 in
set_option maxRecDepth 100000 in
theorem c_X8_isBand (l : Launch) (D : va_G) (cI cZ : ClassId) (i : Int) (hi : -2147483648 ≤ i ∧ i < 2147483648) : GM l D cI cZ yX8_isBand cX8_isBand 1 (some .boolean) ({ frames := 1, cells := 0, slots := 0, locals := 22 }) 0 0 true [gi i] [] (gPi (gB (0 ≤ i ∧ i ≤ 5))) := by
  refine g_enterI (z := true) (lv0 := [(0, gi i)]) _ rfl (by decide) rfl rfl (fun V X ret => ?_)
  refine g_iload_n (pc := 0) X dX8_isBand_0 0 rfl ?_
  refine g_iconst (pc := 1) X dX8_isBand_1 ?_
  refine g_iconst (pc := 2) X dX8_isBand_2 ?_
  refine gc_Si (pc := 3) X (c_X8_fits l D cI cZ i 0 5 (by omega) (by omega) (by omega)) lm_X8_57 dX8_isBand_3 [] rfl rfl rfl rfl rfl rfl ?_
  exact ret _ _ _ _ _ _ dX8_isBand_6 rfl rfl (fun _ => gB_iI) (gPi_e rfl)

set_option maxHeartbeats 4000000 in
set_option maxRecDepth 100000 in
theorem c_X8_areBits (l : Launch) (D : va_G) (cI cZ : ClassId) (s : Int) (c : Int) (hs : -2147483648 ≤ s ∧ s < 2147483648) (hc : 0 ≤ c ∧ c ≤ 10) : GM l D cI cZ yX8_areBits cX8_areBits 2 (some .boolean) ({ frames := 0, cells := 0, slots := 0, locals := 0 }) 0 0 true [gi s, gi c] [] (gPi (gB (0 ≤ s ∧ s ≤ 1 * 2 ^ c.toNat - 1))) := by
  refine g_enterI (z := true) (lv0 := [(0, gi s), (1, gi c)]) _ rfl (by decide) rfl rfl (fun V X ret => ?_)
  have hpw := pw_b (k := c) (c := 10) (C := 1024) rfl (by omega)
  refine g_iload_n (pc := 0) X dX8_areBits_0 0 rfl ?_
  refine g_iflt (pc := 1) X 15 dX8_areBits_1 (by decide) (by omega) (fun h1 => ?_) (fun h1 => ?_)
  · refine g_iconst (pc := 15) X dX8_areBits_15 ?_
    exact ret _ _ _ _ _ _ dX8_areBits_16 rfl rfl (fun _ => Or.inl rfl) (gPi_e (gB_f (by omega)).symm)
  · refine g_iload_n (pc := 4) X dX8_areBits_4 0 rfl ?_
    refine g_iconst (pc := 5) X dX8_areBits_5 ?_
    refine g_iload_n (pc := 6) X dX8_areBits_6 1 rfl ?_
    refine g_ishl (pc := 7) X dX8_areBits_7 (by omega) (by omega) (by omega) ?_
    refine g_icmpge (pc := 8) X 15 dX8_areBits_8 (by decide) (by omega) (by omega) (fun h8 => ?_) (fun h8 => ?_)
    · refine g_iconst (pc := 15) X dX8_areBits_15 ?_
      exact ret _ _ _ _ _ _ dX8_areBits_16 rfl rfl (fun _ => Or.inl rfl) (gPi_e (gB_f (by omega)).symm)
    · refine g_iconst (pc := 11) X dX8_areBits_11 ?_
      refine g_goto (pc := 12) X 16 dX8_areBits_12 (by decide) ?_
      exact ret _ _ _ _ _ _ dX8_areBits_16 rfl rfl (fun _ => Or.inr rfl) (gPi_e (gB_t (by omega)).symm)

set_option maxHeartbeats 4000000 in
set_option maxRecDepth 100000 in
theorem c_X8_leastPut (l : Launch) (D : va_G) (cI cZ : ClassId) (w : Int) (hw : -2147483648 ≤ w ∧ w < 2147483648) : GM l D cI cZ yX8_leastPut cX8_leastPut 1 (some .int) ({ frames := 0, cells := 0, slots := 0, locals := 0 }) 0 0 true [gi w] [] (gPi (putLo w)) := by
  refine g_enterI (z := false) (lv0 := [(0, gi w)]) _ rfl (by decide) rfl rfl (fun V X ret => ?_)
  refine g_iload_n (pc := 0) X dX8_leastPut_0 0 rfl ?_
  refine g_iconst (pc := 1) X dX8_leastPut_1 ?_
  refine g_icmpeq (pc := 2) X 10 dX8_leastPut_2 (by decide) (by omega) (by omega) (fun h2 => ?_) (fun h2 => ?_)
  · refine g_iconst (pc := 10) X dX8_leastPut_10 ?_
    refine g_goto (pc := 11) X 15 dX8_leastPut_11 (by decide) ?_
    exact ret _ _ _ _ _ _ dX8_leastPut_15 rfl rfl (fun h => by cases h) (gPi_e (by unfold putLo; first | rw [if_pos (by omega)] | rw [if_neg (by omega)]))
  · refine g_iload_n (pc := 5) X dX8_leastPut_5 0 rfl ?_
    refine g_iconst (pc := 6) X dX8_leastPut_6 ?_
    refine g_icmpne (pc := 7) X 14 dX8_leastPut_7 (by decide) (by omega) (by omega) (fun h7 => ?_) (fun h7 => ?_)
    · refine g_iconst (pc := 14) X dX8_leastPut_14 ?_
      exact ret _ _ _ _ _ _ dX8_leastPut_15 rfl rfl (fun h => by cases h) (gPi_e (by unfold putLo; first | rw [if_pos (by omega)] | rw [if_neg (by omega)]))
    · refine g_iconst (pc := 10) X dX8_leastPut_10 ?_
      refine g_goto (pc := 11) X 15 dX8_leastPut_11 (by decide) ?_
      exact ret _ _ _ _ _ _ dX8_leastPut_15 rfl rfl (fun h => by cases h) (gPi_e (by unfold putLo; first | rw [if_pos (by omega)] | rw [if_neg (by omega)]))

set_option maxHeartbeats 4000000 in
set_option maxRecDepth 100000 in
theorem c_X8_greatestPut (l : Launch) (D : va_G) (cI cZ : ClassId) (w : Int) (hw : -2147483648 ≤ w ∧ w < 2147483648) : GM l D cI cZ yX8_greatestPut cX8_greatestPut 1 (some .int) ({ frames := 0, cells := 0, slots := 0, locals := 0 }) 0 0 true [gi w] [] (gPi (putHi w)) := by
  refine g_enterI (z := false) (lv0 := [(0, gi w)]) _ rfl (by decide) rfl rfl (fun V X ret => ?_)
  refine g_iload_n (pc := 0) X dX8_greatestPut_0 0 rfl ?_
  refine g_ifne (pc := 1) X 8 dX8_greatestPut_1 (by decide) (by omega) (fun h1 => ?_) (fun h1 => ?_)
  · refine g_iload_n (pc := 8) X dX8_greatestPut_8 0 rfl ?_
    refine g_iconst (pc := 9) X dX8_greatestPut_9 ?_
    refine g_icmpeq (pc := 10) X 18 dX8_greatestPut_10 (by decide) (by omega) (by omega) (fun h10 => ?_) (fun h10 => ?_)
    · refine g_bipush (pc := 18) X dX8_greatestPut_18 (by decide +kernel) ?_
      refine g_goto (pc := 20) X 25 dX8_greatestPut_20 (by decide) ?_
      exact ret _ _ _ _ _ _ dX8_greatestPut_25 rfl rfl (fun h => by cases h) (gPi_e (by unfold putHi; first | rw [if_pos (by omega)] | rw [if_neg (by omega), if_pos (by omega)] | rw [if_neg (by omega), if_neg (by omega)]))
    · refine g_iload_n (pc := 13) X dX8_greatestPut_13 0 rfl ?_
      refine g_iconst (pc := 14) X dX8_greatestPut_14 ?_
      refine g_icmpne (pc := 15) X 23 dX8_greatestPut_15 (by decide) (by omega) (by omega) (fun h15 => ?_) (fun h15 => ?_)
      · refine g_bipush (pc := 23) X dX8_greatestPut_23 (by decide +kernel) ?_
        exact ret _ _ _ _ _ _ dX8_greatestPut_25 rfl rfl (fun h => by cases h) (gPi_e (by unfold putHi; first | rw [if_pos (by omega)] | rw [if_neg (by omega), if_pos (by omega)] | rw [if_neg (by omega), if_neg (by omega)]))
      · refine g_bipush (pc := 18) X dX8_greatestPut_18 (by decide +kernel) ?_
        refine g_goto (pc := 20) X 25 dX8_greatestPut_20 (by decide) ?_
        exact ret _ _ _ _ _ _ dX8_greatestPut_25 rfl rfl (fun h => by cases h) (gPi_e (by unfold putHi; first | rw [if_pos (by omega)] | rw [if_neg (by omega), if_pos (by omega)] | rw [if_neg (by omega), if_neg (by omega)]))
  · refine g_sipush (pc := 4) X dX8_greatestPut_4 (by decide +kernel) ?_
    exact ret _ _ _ _ _ _ dX8_greatestPut_7 rfl rfl (fun h => by cases h) (gPi_e (by unfold putHi; first | rw [if_pos (by omega)] | rw [if_neg (by omega), if_pos (by omega)] | rw [if_neg (by omega), if_neg (by omega)]))

set_option maxHeartbeats 4000000 in
set_option maxRecDepth 100000 in
theorem c_X8_isWalker (l : Launch) (D : va_G) (cI cZ : ClassId) (f : Int) (lr : Int) (b : Int) (s : Int) (hf : -2147483648 ≤ f ∧ f < 2147483648) (hlr : -2147483648 ≤ lr ∧ lr < 2147483648) (hb : -2147483648 ≤ b ∧ b < 2147483648) (hs : -2147483648 ≤ s ∧ s < 2147483648) : GM l D cI cZ yX8_isWalker cX8_isWalker 4 (some .boolean) ({ frames := 1, cells := 0, slots := 0, locals := 22 }) 0 0 true [gi f, gi lr, gi b, gi s] [] (gPi (gB ((0 ≤ f ∧ f ≤ 99) ∧ (1 ≤ lr ∧ lr ≤ 9) ∧ (1 ≤ b ∧ b ≤ 9) ∧ 0 ≤ s ∧ s ≤ 20))) := by
  refine g_enterI (z := true) (lv0 := [(0, gi f), (1, gi lr), (2, gi b), (3, gi s)]) _ rfl (by decide) rfl rfl (fun V X ret => ?_)
  refine g_iload_n (pc := 0) X dX8_isWalker_0 0 rfl ?_
  refine g_iconst (pc := 1) X dX8_isWalker_1 ?_
  refine g_bipush (pc := 2) X dX8_isWalker_2 (by decide +kernel) ?_
  refine gc_Si (pc := 4) X (c_X8_fits l D cI cZ f 0 99 (by omega) (by omega) (by omega)) lm_X8_57 dX8_isWalker_4 [] rfl rfl rfl rfl rfl rfl ?_
  refine g_ifeqB (pc := 7) X 44 dX8_isWalker_7 (by decide) (fun h7 => ?_) (fun h7 => ?_)
  · refine g_iconst (pc := 44) X dX8_isWalker_44 ?_
    exact ret _ _ _ _ _ _ dX8_isWalker_45 rfl rfl (fun _ => Or.inl rfl) (gPi_e (gB_f (by omega)).symm)
  · refine g_iload_n (pc := 10) X dX8_isWalker_10 1 rfl ?_
    refine g_iconst (pc := 11) X dX8_isWalker_11 ?_
    refine g_bipush (pc := 12) X dX8_isWalker_12 (by decide +kernel) ?_
    refine gc_Si (pc := 14) X (c_X8_fits l D cI cZ lr 1 9 (by omega) (by omega) (by omega)) lm_X8_57 dX8_isWalker_14 [] rfl rfl rfl rfl rfl rfl ?_
    refine g_ifeqB (pc := 17) X 44 dX8_isWalker_17 (by decide) (fun h17 => ?_) (fun h17 => ?_)
    · refine g_iconst (pc := 44) X dX8_isWalker_44 ?_
      exact ret _ _ _ _ _ _ dX8_isWalker_45 rfl rfl (fun _ => Or.inl rfl) (gPi_e (gB_f (by omega)).symm)
    · refine g_iload_n (pc := 20) X dX8_isWalker_20 2 rfl ?_
      refine g_iconst (pc := 21) X dX8_isWalker_21 ?_
      refine g_bipush (pc := 22) X dX8_isWalker_22 (by decide +kernel) ?_
      refine gc_Si (pc := 24) X (c_X8_fits l D cI cZ b 1 9 (by omega) (by omega) (by omega)) lm_X8_57 dX8_isWalker_24 [] rfl rfl rfl rfl rfl rfl ?_
      refine g_ifeqB (pc := 27) X 44 dX8_isWalker_27 (by decide) (fun h27 => ?_) (fun h27 => ?_)
      · refine g_iconst (pc := 44) X dX8_isWalker_44 ?_
        exact ret _ _ _ _ _ _ dX8_isWalker_45 rfl rfl (fun _ => Or.inl rfl) (gPi_e (gB_f (by omega)).symm)
      · refine g_iload_n (pc := 30) X dX8_isWalker_30 3 rfl ?_
        refine g_iconst (pc := 31) X dX8_isWalker_31 ?_
        refine g_bipush (pc := 32) X dX8_isWalker_32 (by decide +kernel) ?_
        refine gc_Si (pc := 34) X (c_X8_fits l D cI cZ s 0 20 (by omega) (by omega) (by omega)) lm_X8_57 dX8_isWalker_34 [] rfl rfl rfl rfl rfl rfl ?_
        refine g_ifeqB (pc := 37) X 44 dX8_isWalker_37 (by decide) (fun h37 => ?_) (fun h37 => ?_)
        · refine g_iconst (pc := 44) X dX8_isWalker_44 ?_
          exact ret _ _ _ _ _ _ dX8_isWalker_45 rfl rfl (fun _ => Or.inl rfl) (gPi_e (gB_f (by omega)).symm)
        · refine g_iconst (pc := 40) X dX8_isWalker_40 ?_
          refine g_goto (pc := 41) X 45 dX8_isWalker_41 (by decide) ?_
          exact ret _ _ _ _ _ _ dX8_isWalker_45 rfl rfl (fun _ => Or.inr rfl) (gPi_e (gB_t (by omega)).symm)

set_option maxHeartbeats 4000000 in
set_option maxRecDepth 100000 in
theorem c_X8_lagBehind (l : Launch) (D : va_G) (cI cZ : ClassId) (x : Int) (lr : Int) (b : Int) (s : Int) (k : Int) (hx : 0 ≤ x ∧ x < 10000) (hl : 1 ≤ lr ∧ lr ≤ 9) (hb : 1 ≤ b ∧ b ≤ 9) (hs : 0 ≤ s ∧ s ≤ 20) (hk : 0 ≤ k ∧ k ≤ 40) : GM l D cI cZ yX8_lagBehind cX8_lagBehind 5 (some .int) ({ frames := 0, cells := 0, slots := 0, locals := 0 }) 0 0 true [gi x, gi lr, gi b, gi s, gi k] [] (gPi (x - x / lr + (if k % b = 0 then s else 0))) := by
  refine g_enterI (z := false) (lv0 := [(0, gi x), (1, gi lr), (2, gi b), (3, gi s), (4, gi k)]) _ rfl (by decide) rfl rfl (fun V X ret => ?_)
  refine g_iload_n (pc := 0) X dX8_lagBehind_0 1 rfl ?_
  refine g_iconst (pc := 1) X dX8_lagBehind_1 ?_
  refine g_icmplt (pc := 2) X 10 dX8_lagBehind_2 (by decide) (by omega) (by omega) (fun h2 => absurd h2 (by omega)) (fun h2 => ?_)
  refine g_iload_n (pc := 5) X dX8_lagBehind_5 2 rfl ?_
  refine g_iconst (pc := 6) X dX8_lagBehind_6 ?_
  refine g_icmpge (pc := 7) X 12 dX8_lagBehind_7 (by decide) (by omega) (by omega) (fun h7 => ?_) (fun h7 => absurd h7 (by omega))
  refine g_iload_n (pc := 12) X dX8_lagBehind_12 0 rfl ?_
  refine g_iload_n (pc := 13) X dX8_lagBehind_13 0 rfl ?_
  refine g_iload_n (pc := 14) X dX8_lagBehind_14 1 rfl ?_
  refine g_idiv (pc := 15) X dX8_lagBehind_15 (by omega) (by omega) ?_
  refine g_isub (pc := 16) X dX8_lagBehind_16 ?_
  refine g_iload (pc := 17) X dX8_lagBehind_17 4 rfl ?_
  refine g_iload_n (pc := 19) X dX8_lagBehind_19 2 rfl ?_
  refine g_irem (pc := 20) X dX8_lagBehind_20 (by omega) (by omega) ?_
  have hm1 := Int.emod_nonneg k (show b ≠ 0 by omega)
  have hm2 := Int.emod_lt_of_pos k (show 0 < b by omega)
  refine g_ifne (pc := 21) X 28 dX8_lagBehind_21 (by decide) (by omega) (fun h21 => ?_) (fun h21 => ?_)
  · refine g_iconst (pc := 28) X dX8_lagBehind_28 ?_
    refine g_iadd (pc := 29) X dX8_lagBehind_29 ?_
    exact ret _ _ _ _ _ _ dX8_lagBehind_30 rfl rfl (fun h => by cases h) (gPi_e (by first | rw [if_pos (by omega)] | rw [if_neg (by omega)]))
  · refine g_iload_n (pc := 24) X dX8_lagBehind_24 3 rfl ?_
    refine g_goto (pc := 25) X 29 dX8_lagBehind_25 (by decide) ?_
    refine g_iadd (pc := 29) X dX8_lagBehind_29 ?_
    exact ret _ _ _ _ _ _ dX8_lagBehind_30 rfl rfl (fun h => by cases h) (gPi_e (by first | rw [if_pos (by omega)] | rw [if_neg (by omega)]))

set_option maxHeartbeats 4000000 in
set_option maxRecDepth 100000 in
theorem c_X8_copyRow (l : Launch) (D : va_G) (cI cZ : ClassId) (q : Nat) (p : Nat) (n : Nat) (f : Int → Int) (g : Int → Int) (hn : Nat.blt n 2147483648 = true) : GM l D cI cZ yX8_copyRow cX8_copyRow 3 none ({ frames := 0, cells := 0, slots := 0, locals := 0 }) 0 0 false [.ref q, .ref p] [gA cI q n f, gA cI p n g] (gPxv (fun xo : Unit => [gA cI q n f, gA cI p n f]) (fun xo : Unit => True)) := by
  refine g_enterV (lv0 := [(0, .ref q), (1, .ref p)]) (by decide) rfl rfl (fun V X ret => ?_)
  have hn2 := Nat.le_of_ble_eq_true hn
  refine g_iconst (pc := 0) X dX8_copyRow_0 ?_
  refine g_istore_n (pc := 1) X (lv' := [(0, .ref q), (1, .ref p), (2, gi 0)]) dX8_copyRow_1 rfl rfl ?_
  have L2 : ∀ (n2 : Nat) (i : Int) (e : Int → Int), (0 ≤ i ∧ i ≤ (n : Int)) → (∀ j, 0 ≤ j → j < i → e j = f j) → ((n : Int) - i).toNat < n2 → V 0 0 [gA cI q n f, gA cI p n e] 2 [(0, .ref q), (1, .ref p), (2, gi i)] [] := by
    intro n2
    induction n2 with
    | zero => intro i e hi he hn2; exact absurd hn2 (Nat.not_lt_zero _)
    | succ n2 ih2 =>
      intro i e hi he hn2
      refine g_iload_n (pc := 2) X dX8_copyRow_2 2 rfl ?_
      refine g_aload_n (pc := 3) X dX8_copyRow_3 0 rfl ?_
      refine g_alen (pc := 4) X dX8_copyRow_4 0 rfl ?_
      refine g_icmpge (pc := 5) X 26 dX8_copyRow_5 (by decide) (by omega) (by omega) (fun h5 => ?_) (fun h5 => ?_)
      · exact ret _ _ _ _ _ dX8_copyRow_26 rfl rfl (gPxv_e () (by rw [show gA cI p n e = gA cI p n f from gA_ext (fun j j0 j1 => he j j0 (by omega))]) trivial)
      · refine g_iload_n (pc := 8) X dX8_copyRow_8 2 rfl ?_
        refine g_aload_n (pc := 9) X dX8_copyRow_9 1 rfl ?_
        refine g_alen (pc := 10) X dX8_copyRow_10 1 rfl ?_
        refine g_icmpge (pc := 11) X 26 dX8_copyRow_11 (by decide) (by omega) (by omega) (fun h11 => absurd h11 (by omega)) (fun h11 => ?_)
        refine g_aload_n (pc := 14) X dX8_copyRow_14 1 rfl ?_
        refine g_iload_n (pc := 15) X dX8_copyRow_15 2 rfl ?_
        refine g_aload_n (pc := 16) X dX8_copyRow_16 0 rfl ?_
        refine g_iload_n (pc := 17) X dX8_copyRow_17 2 rfl ?_
        refine g_iald (pc := 18) X dX8_copyRow_18 0 rfl (by omega) hn ?_
        refine g_iast (pc := 19) X (ws' := [gA cI q n f, gA cI p n (gupd e i (f i))]) dX8_copyRow_19 1 rfl (by omega) hn rfl ?_
        refine g_iinc (pc := 20) X (lv' := [(0, .ref q), (1, .ref p), (2, gi (i + 1))]) dX8_copyRow_20 2 rfl rfl rfl ?_
        refine g_goto (pc := 23) X 2 dX8_copyRow_23 (by decide) ?_
        exact ih2 _ _ (by omega) (all_s (fun j j0 j1 => by rw [gupd_n (by omega)]; exact he j j0 j1) gupd_s) (by omega)
  exact L2 _ _ _ (by omega) all_0 (Nat.lt_succ_self _)

set_option maxHeartbeats 4000000 in
set_option maxRecDepth 100000 in
theorem c_X1_addThing (l : Launch) (D : va_G) (cI cZ : ClassId) (q : Nat) (a : Nat → Nat) (t : Int) (m : Int) (bt : Int) (hc : Int) (sc : Int) (c : Int → Int) (d : Int → Int) (ty : Int) (fd : Int) (ht : 0 ≤ t ∧ t < 10) : GM l D cI cZ yX1_addThing cX1_addThing 3 (some .int) ({ frames := 1, cells := 0, slots := 0, locals := 22 }) 0 0 false [.ref q, gi ty, gi fd] [oF q a t m bt hc sc, gA cI (a 1) 10 c, gA cI (a 2) 10 d] (gPxi (fun xo : Unit => t) (fun xo : Unit => [oF q a (t + 1) m bt hc sc, gA cI (a 1) 10 (gupd c t ty), gA cI (a 2) 10 (gupd d t fd)]) (fun xo : Unit => True)) := by
  refine g_enterI (z := false) (lv0 := [(0, .ref q), (1, gi ty), (2, gi fd)]) _ rfl (by decide) rfl rfl (fun V X ret => ?_)
  refine g_aload_n (pc := 0) X dX1_addThing_0 0 rfl ?_
  refine g_get (pc := 1) X fl_X1_9 dX1_addThing_1 0 (v := .ref (a 1)) rfl rfl ?_
  refine g_aload_n (pc := 4) X dX1_addThing_4 0 rfl ?_
  refine g_get (pc := 5) X fl_X1_39 dX1_addThing_5 0 (v := gi t) rfl rfl ?_
  refine g_iload_n (pc := 8) X dX1_addThing_8 1 rfl ?_
  refine gc_Nxv (pc := 9) X (wr := [oF q a t m bt hc sc, gA cI (a 2) 10 d]) (c_X8_lay l D cI cZ (a 1) 10 c t ty (by omega) rfl) lm_X1_43 dX1_addThing_9 [1] [0, 2] rfl rfl rfl rfl (by decide) rfl rfl rfl rfl (fun x9 hx9 => ?_)
  refine g_pick (cn := 0) (sl := 0) (st := []) X (ws' := [oF q a t m bt hc sc, gA cI (a 1) 10 (ly 10 c t ty), gA cI (a 2) 10 d]) [0, 2, 1] rfl rfl ?_
  rw [ly_in (n := 10) (f := c) (i := t) (v := ty) (by omega)]
  refine g_aload_n (pc := 12) X dX1_addThing_12 0 rfl ?_
  refine g_get (pc := 13) X fl_X1_15 dX1_addThing_13 0 (v := .ref (a 2)) rfl rfl ?_
  refine g_aload_n (pc := 16) X dX1_addThing_16 0 rfl ?_
  refine g_get (pc := 17) X fl_X1_39 dX1_addThing_17 0 (v := gi t) rfl rfl ?_
  refine g_iload_n (pc := 20) X dX1_addThing_20 2 rfl ?_
  refine gc_Nxv (pc := 21) X (wr := [oF q a t m bt hc sc, gA cI (a 1) 10 (gupd c t ty)]) (c_X8_lay l D cI cZ (a 2) 10 d t fd (by omega) rfl) lm_X1_43 dX1_addThing_21 [2] [0, 1] rfl rfl rfl rfl (by decide) rfl rfl rfl rfl (fun x21 hx21 => ?_)
  refine g_pick (cn := 0) (sl := 0) (st := []) X (ws' := [oF q a t m bt hc sc, gA cI (a 1) 10 (gupd c t ty), gA cI (a 2) 10 (ly 10 d t fd)]) [0, 1, 2] rfl rfl ?_
  rw [ly_in (n := 10) (f := d) (i := t) (v := fd) (by omega)]
  refine g_aload_n (pc := 24) X dX1_addThing_24 0 rfl ?_
  refine g_dup (pc := 25) X dX1_addThing_25 rfl ?_
  refine g_get (pc := 26) X fl_X1_39 dX1_addThing_26 0 (v := gi t) rfl rfl ?_
  refine g_dup_x1 (pc := 29) X dX1_addThing_29 rfl rfl ?_
  refine g_iconst (pc := 30) X dX1_addThing_30 ?_
  refine g_iadd (pc := 31) X dX1_addThing_31 ?_
  refine g_put (pc := 32) X (ws' := [oF q a (t + 1) m bt hc sc, gA cI (a 1) 10 (gupd c t ty), gA cI (a 2) 10 (gupd d t fd)]) fp_X1_39 dX1_addThing_32 0 rfl rfl rfl rfl rfl ?_
  exact ret _ _ _ _ _ _ dX1_addThing_35 rfl rfl (fun h => by cases h) (gPxi_e () rfl rfl trivial)

set_option maxHeartbeats 4000000 in
set_option maxRecDepth 100000 in
theorem c_X1_addMeaning (l : Launch) (D : va_G) (cI cZ : ClassId) (q : Nat) (a : Nat → Nat) (t : Int) (m : Int) (bt : Int) (hc : Int) (sc : Int) (c : Int → Int) (w : Int) (hm : 0 ≤ m ∧ m < 6) : GM l D cI cZ yX1_addMeaning cX1_addMeaning 2 (some .int) ({ frames := 1, cells := 0, slots := 0, locals := 22 }) 0 0 false [.ref q, gi w] [oF q a t m bt hc sc, gA cI (a 5) 6 c] (gPxi (fun xo : Unit => m) (fun xo : Unit => [oF q a t (m + 1) bt hc sc, gA cI (a 5) 6 (gupd c m w)]) (fun xo : Unit => True)) := by
  refine g_enterI (z := false) (lv0 := [(0, .ref q), (1, gi w)]) _ rfl (by decide) rfl rfl (fun V X ret => ?_)
  refine g_aload_n (pc := 0) X dX1_addMeaning_0 0 rfl ?_
  refine g_get (pc := 1) X fl_X1_21 dX1_addMeaning_1 0 (v := .ref (a 5)) rfl rfl ?_
  refine g_aload_n (pc := 4) X dX1_addMeaning_4 0 rfl ?_
  refine g_get (pc := 5) X fl_X1_47 dX1_addMeaning_5 0 (v := gi m) rfl rfl ?_
  refine g_iload_n (pc := 8) X dX1_addMeaning_8 1 rfl ?_
  refine gc_Nxv (pc := 9) X (wr := [oF q a t m bt hc sc]) (c_X8_lay l D cI cZ (a 5) 6 c m w (by omega) rfl) lm_X1_43 dX1_addMeaning_9 [1] [0] rfl rfl rfl rfl (by decide) rfl rfl rfl rfl (fun x9 hx9 => ?_)
  refine g_pick (cn := 0) (sl := 0) (st := []) X (ws' := [oF q a t m bt hc sc, gA cI (a 5) 6 (ly 6 c m w)]) [0, 1] rfl rfl ?_
  rw [ly_in (n := 6) (f := c) (i := m) (v := w) (by omega)]
  refine g_aload_n (pc := 12) X dX1_addMeaning_12 0 rfl ?_
  refine g_dup (pc := 13) X dX1_addMeaning_13 rfl ?_
  refine g_get (pc := 14) X fl_X1_47 dX1_addMeaning_14 0 (v := gi m) rfl rfl ?_
  refine g_dup_x1 (pc := 17) X dX1_addMeaning_17 rfl rfl ?_
  refine g_iconst (pc := 18) X dX1_addMeaning_18 ?_
  refine g_iadd (pc := 19) X dX1_addMeaning_19 ?_
  refine g_put (pc := 20) X (ws' := [oF q a t (m + 1) bt hc sc, gA cI (a 5) 6 (gupd c m w)]) fp_X1_47 dX1_addMeaning_20 0 rfl rfl rfl rfl rfl ?_
  exact ret _ _ _ _ _ _ dX1_addMeaning_23 rfl rfl (fun h => by cases h) (gPxi_e () rfl rfl trivial)

set_option maxHeartbeats 4000000 in
set_option maxRecDepth 100000 in
theorem c_X1_addSeen (l : Launch) (D : va_G) (cI cZ : ClassId) (q : Nat) (a : Nat → Nat) (t : Int) (m : Int) (bt : Int) (hc : Int) (sc : Int) (c : Int → Int) (w : Int) (hs : 0 ≤ sc ∧ sc < 8) : GM l D cI cZ yX1_addSeen cX1_addSeen 2 (some .int) ({ frames := 1, cells := 0, slots := 0, locals := 22 }) 0 0 false [.ref q, gi w] [oF q a t m bt hc sc, gA cI (a 13) 8 c] (gPxi (fun xo : Unit => (sc + 1)) (fun xo : Unit => [oF q a t m bt hc (sc + 1), gA cI (a 13) 8 (gupd c sc w)]) (fun xo : Unit => True)) := by
  refine g_enterI (z := false) (lv0 := [(0, .ref q), (1, gi w)]) _ rfl (by decide) rfl rfl (fun V X ret => ?_)
  refine g_aload_n (pc := 0) X dX1_addSeen_0 0 rfl ?_
  refine g_get (pc := 1) X fl_X1_36 dX1_addSeen_1 0 (v := .ref (a 13)) rfl rfl ?_
  refine g_aload_n (pc := 4) X dX1_addSeen_4 0 rfl ?_
  refine g_dup (pc := 5) X dX1_addSeen_5 rfl ?_
  refine g_get (pc := 6) X fl_X1_56 dX1_addSeen_6 0 (v := gi sc) rfl rfl ?_
  refine g_dup_x1 (pc := 9) X dX1_addSeen_9 rfl rfl ?_
  refine g_iconst (pc := 10) X dX1_addSeen_10 ?_
  refine g_iadd (pc := 11) X dX1_addSeen_11 ?_
  refine g_put (pc := 12) X (ws' := [oF q a t m bt hc (sc + 1), gA cI (a 13) 8 c]) fp_X1_56 dX1_addSeen_12 0 rfl rfl rfl rfl rfl ?_
  refine g_iload_n (pc := 15) X dX1_addSeen_15 1 rfl ?_
  refine gc_Nxv (pc := 16) X (wr := [oF q a t m bt hc (sc + 1)]) (c_X8_lay l D cI cZ (a 13) 8 c sc w (by omega) rfl) lm_X1_43 dX1_addSeen_16 [1] [0] rfl rfl rfl rfl (by decide) rfl rfl rfl rfl (fun x16 hx16 => ?_)
  refine g_pick (cn := 0) (sl := 0) (st := []) X (ws' := [oF q a t m bt hc (sc + 1), gA cI (a 13) 8 (ly 8 c sc w)]) [0, 1] rfl rfl ?_
  rw [ly_in (n := 8) (f := c) (i := sc) (v := w) (by omega)]
  refine g_aload_n (pc := 19) X dX1_addSeen_19 0 rfl ?_
  refine g_get (pc := 20) X fl_X1_56 dX1_addSeen_20 0 (v := gi (sc + 1)) rfl rfl ?_
  exact ret _ _ _ _ _ _ dX1_addSeen_23 rfl rfl (fun h => by cases h) (gPxi_e () rfl rfl trivial)

set_option maxHeartbeats 4000000 in
set_option maxRecDepth 100000 in
theorem c_X1_addHouse (l : Launch) (D : va_G) (cI cZ : ClassId) (q : Nat) (a : Nat → Nat) (t : Int) (m : Int) (bt : Int) (hc : Int) (sc : Int) (c : Int → Int) (hh : 0 ≤ hc ∧ hc < 4) : GM l D cI cZ yX1_addHouse cX1_addHouse 2 (some .int) ({ frames := 1, cells := 0, slots := 0, locals := 22 }) 0 0 false [.ref q] [oF q a t m bt hc sc, gA cI (a 11) 40 c] (gPxi (fun xo : (Int → Int) => hc) (fun xo : (Int → Int) => [oF q a t m bt (hc + 1) sc, gA cI (a 11) 40 xo]) (fun xo : (Int → Int) => (fil (10 * hc) 10 10 (fun _ => 1) c xo))) := by
  refine g_enterI (z := false) (lv0 := [(0, .ref q)]) _ rfl (by decide) rfl rfl (fun V X ret => ?_)
  refine g_iconst (pc := 0) X dX1_addHouse_0 ?_
  refine g_istore_n (pc := 1) X (lv' := [(0, .ref q), (1, gi 0)]) dX1_addHouse_1 rfl rfl ?_
  have L2 : ∀ (n2 : Nat) (i : Int) (g : Int → Int), (0 ≤ i ∧ i ≤ 10) → (fil (10 * hc) 10 i (fun _ => 1) c g) → (10 - i).toNat < n2 → V 0 0 [oF q a t m bt hc sc, gA cI (a 11) 40 g] 2 [(0, .ref q), (1, gi i)] [] := by
    intro n2
    induction n2 with
    | zero => intro i g hi hg hn2; exact absurd hn2 (Nat.not_lt_zero _)
    | succ n2 ih2 =>
      intro i g hi hg hn2
      refine g_iload_n (pc := 2) X dX1_addHouse_2 1 rfl ?_
      refine g_bipush (pc := 3) X dX1_addHouse_3 (by decide +kernel) ?_
      refine g_icmpge (pc := 5) X 31 dX1_addHouse_5 (by decide) (by omega) (by omega) (fun h5 => ?_) (fun h5 => ?_)
      · refine g_aload_n (pc := 31) X dX1_addHouse_31 0 rfl ?_
        refine g_dup (pc := 32) X dX1_addHouse_32 rfl ?_
        refine g_get (pc := 33) X fl_X1_53 dX1_addHouse_33 0 (v := gi hc) rfl rfl ?_
        refine g_dup_x1 (pc := 36) X dX1_addHouse_36 rfl rfl ?_
        refine g_iconst (pc := 37) X dX1_addHouse_37 ?_
        refine g_iadd (pc := 38) X dX1_addHouse_38 ?_
        refine g_put (pc := 39) X (ws' := [oF q a t m bt (hc + 1) sc, gA cI (a 11) 40 g]) fp_X1_53 dX1_addHouse_39 0 rfl rfl rfl rfl rfl ?_
        exact ret _ _ _ _ _ _ dX1_addHouse_42 rfl rfl (fun h => by cases h) (gPxi_e g rfl rfl (by rw [show i = 10 by omega] at hg; exact hg))
      · refine g_aload_n (pc := 8) X dX1_addHouse_8 0 rfl ?_
        refine g_get (pc := 9) X fl_X1_33 dX1_addHouse_9 0 (v := .ref (a 11)) rfl rfl ?_
        refine g_aload_n (pc := 12) X dX1_addHouse_12 0 rfl ?_
        refine g_get (pc := 13) X fl_X1_53 dX1_addHouse_13 0 (v := gi hc) rfl rfl ?_
        refine g_bipush (pc := 16) X dX1_addHouse_16 (by decide +kernel) ?_
        refine g_imul (pc := 18) X dX1_addHouse_18 ?_
        refine g_iload_n (pc := 19) X dX1_addHouse_19 1 rfl ?_
        refine g_iadd (pc := 20) X dX1_addHouse_20 ?_
        refine g_iconst (pc := 21) X dX1_addHouse_21 ?_
        refine gc_Nxv (pc := 22) X (wr := [oF q a t m bt hc sc]) (c_X8_lay l D cI cZ (a 11) 40 g (hc * 10 + i) 1 (by omega) rfl) lm_X1_43 dX1_addHouse_22 [1] [0] rfl rfl rfl rfl (by decide) rfl rfl rfl rfl (fun x22 hx22 => ?_)
        refine g_pick (cn := 0) (sl := 0) (st := []) X (ws' := [oF q a t m bt hc sc, gA cI (a 11) 40 (ly 40 g (hc * 10 + i) 1)]) [0, 1] rfl rfl ?_
        rw [ly_in (n := 40) (f := g) (i := hc * 10 + i) (v := 1) (by omega)]
        refine g_iinc (pc := 25) X (lv' := [(0, .ref q), (1, gi (i + 1))]) dX1_addHouse_25 1 rfl rfl rfl ?_
        refine g_goto (pc := 28) X 2 dX1_addHouse_28 (by decide) ?_
        exact ih2 _ _ (by omega) (fil_s hg (by omega) (by omega) rfl) (by omega)
  exact L2 _ _ _ (by omega) fil_0 (Nat.lt_succ_self _)

set_option maxHeartbeats 4000000 in
set_option maxRecDepth 100000 in
theorem c_X1_become (l : Launch) (D : va_G) (cI cZ : ClassId) (q : Nat) (a : Nat → Nat) (A : Int → Int) (q2 : Nat) (a2 : Nat → Nat) (B : Int → Int)  : GM l D cI cZ yX1_become cX1_become 2 none ({ frames := 1, cells := 0, slots := 0, locals := 22 }) 0 0 false [.ref q, .ref q2] [oF q a (A 0) (A 1) (A 2) (A 3) (A 4), gA cI (a 1) 10 (fun j => A (5 + j)), gA cI (a 2) 10 (fun j => A (15 + j)), gA cI (a 3) 60 (fun j => A (25 + j)), gA cI (a 5) 6 (fun j => A (85 + j)), gA cI (a 6) 36 (fun j => A (91 + j)), gA cI (a 7) 5 (fun j => A (127 + j)), gA cI (a 9) 200 (fun j => A (132 + j)), gA cI (a 11) 40 (fun j => A (332 + j)), gA cI (a 13) 8 (fun j => A (372 + j)), oF q2 a2 (B 0) (B 1) (B 2) (B 3) (B 4), gA cI (a2 1) 10 (fun j => B (5 + j)), gA cI (a2 2) 10 (fun j => B (15 + j)), gA cI (a2 3) 60 (fun j => B (25 + j)), gA cI (a2 5) 6 (fun j => B (85 + j)), gA cI (a2 6) 36 (fun j => B (91 + j)), gA cI (a2 7) 5 (fun j => B (127 + j)), gA cI (a2 9) 200 (fun j => B (132 + j)), gA cI (a2 11) 40 (fun j => B (332 + j)), gA cI (a2 13) 8 (fun j => B (372 + j))] (gPxv (fun xo : Unit => [oF q a (B 0) (B 1) (B 2) (B 3) (B 4), gA cI (a 1) 10 (fun j => B (5 + j)), gA cI (a 2) 10 (fun j => B (15 + j)), gA cI (a 3) 60 (fun j => B (25 + j)), gA cI (a 5) 6 (fun j => B (85 + j)), gA cI (a 6) 36 (fun j => B (91 + j)), gA cI (a 7) 5 (fun j => B (127 + j)), gA cI (a 9) 200 (fun j => B (132 + j)), gA cI (a 11) 40 (fun j => B (332 + j)), gA cI (a 13) 8 (fun j => B (372 + j)), oF q2 a2 (B 0) (B 1) (B 2) (B 3) (B 4), gA cI (a2 1) 10 (fun j => B (5 + j)), gA cI (a2 2) 10 (fun j => B (15 + j)), gA cI (a2 3) 60 (fun j => B (25 + j)), gA cI (a2 5) 6 (fun j => B (85 + j)), gA cI (a2 6) 36 (fun j => B (91 + j)), gA cI (a2 7) 5 (fun j => B (127 + j)), gA cI (a2 9) 200 (fun j => B (132 + j)), gA cI (a2 11) 40 (fun j => B (332 + j)), gA cI (a2 13) 8 (fun j => B (372 + j))]) (fun xo : Unit => True)) := by
  refine g_enterV (lv0 := [(0, .ref q), (1, .ref q2)]) (by decide) rfl rfl (fun V X ret => ?_)
  refine g_aload_n (pc := 0) X dX1_become_0 0 rfl ?_
  refine g_aload_n (pc := 1) X dX1_become_1 1 rfl ?_
  refine g_get (pc := 2) X fl_X1_39 dX1_become_2 10 (v := gi (B 0)) rfl rfl ?_
  refine g_put (pc := 5) X (ws' := [oF q a (B 0) (A 1) (A 2) (A 3) (A 4), gA cI (a 1) 10 (fun j => A (5 + j)), gA cI (a 2) 10 (fun j => A (15 + j)), gA cI (a 3) 60 (fun j => A (25 + j)), gA cI (a 5) 6 (fun j => A (85 + j)), gA cI (a 6) 36 (fun j => A (91 + j)), gA cI (a 7) 5 (fun j => A (127 + j)), gA cI (a 9) 200 (fun j => A (132 + j)), gA cI (a 11) 40 (fun j => A (332 + j)), gA cI (a 13) 8 (fun j => A (372 + j)), oF q2 a2 (B 0) (B 1) (B 2) (B 3) (B 4), gA cI (a2 1) 10 (fun j => B (5 + j)), gA cI (a2 2) 10 (fun j => B (15 + j)), gA cI (a2 3) 60 (fun j => B (25 + j)), gA cI (a2 5) 6 (fun j => B (85 + j)), gA cI (a2 6) 36 (fun j => B (91 + j)), gA cI (a2 7) 5 (fun j => B (127 + j)), gA cI (a2 9) 200 (fun j => B (132 + j)), gA cI (a2 11) 40 (fun j => B (332 + j)), gA cI (a2 13) 8 (fun j => B (372 + j))]) fp_X1_39 dX1_become_5 0 rfl rfl rfl rfl rfl ?_
  refine g_aload_n (pc := 8) X dX1_become_8 1 rfl ?_
  refine g_get (pc := 9) X fl_X1_9 dX1_become_9 10 (v := .ref (a2 1)) rfl rfl ?_
  refine g_aload_n (pc := 12) X dX1_become_12 0 rfl ?_
  refine g_get (pc := 13) X fl_X1_9 dX1_become_13 0 (v := .ref (a 1)) rfl rfl ?_
  refine gc_Nxv (pc := 16) X (wr := [oF q a (B 0) (A 1) (A 2) (A 3) (A 4), gA cI (a 2) 10 (fun j => A (15 + j)), gA cI (a 3) 60 (fun j => A (25 + j)), gA cI (a 5) 6 (fun j => A (85 + j)), gA cI (a 6) 36 (fun j => A (91 + j)), gA cI (a 7) 5 (fun j => A (127 + j)), gA cI (a 9) 200 (fun j => A (132 + j)), gA cI (a 11) 40 (fun j => A (332 + j)), gA cI (a 13) 8 (fun j => A (372 + j)), oF q2 a2 (B 0) (B 1) (B 2) (B 3) (B 4), gA cI (a2 2) 10 (fun j => B (15 + j)), gA cI (a2 3) 60 (fun j => B (25 + j)), gA cI (a2 5) 6 (fun j => B (85 + j)), gA cI (a2 6) 36 (fun j => B (91 + j)), gA cI (a2 7) 5 (fun j => B (127 + j)), gA cI (a2 9) 200 (fun j => B (132 + j)), gA cI (a2 11) 40 (fun j => B (332 + j)), gA cI (a2 13) 8 (fun j => B (372 + j))]) (c_X8_copyRow l D cI cZ (a2 1) (a 1) 10 (fun j => B (5 + j)) (fun j => A (5 + j)) rfl) lm_X1_71 dX1_become_16 [11, 1] [0, 2, 3, 4, 5, 6, 7, 8, 9, 10, 12, 13, 14, 15, 16, 17, 18, 19] rfl rfl rfl rfl (by decide) rfl rfl rfl rfl (fun x16 hx16 => ?_)
  refine g_pick (cn := 0) (sl := 0) (st := []) X (ws' := [oF q a (B 0) (A 1) (A 2) (A 3) (A 4), gA cI (a 1) 10 (fun j => B (5 + j)), gA cI (a 2) 10 (fun j => A (15 + j)), gA cI (a 3) 60 (fun j => A (25 + j)), gA cI (a 5) 6 (fun j => A (85 + j)), gA cI (a 6) 36 (fun j => A (91 + j)), gA cI (a 7) 5 (fun j => A (127 + j)), gA cI (a 9) 200 (fun j => A (132 + j)), gA cI (a 11) 40 (fun j => A (332 + j)), gA cI (a 13) 8 (fun j => A (372 + j)), oF q2 a2 (B 0) (B 1) (B 2) (B 3) (B 4), gA cI (a2 1) 10 (fun j => B (5 + j)), gA cI (a2 2) 10 (fun j => B (15 + j)), gA cI (a2 3) 60 (fun j => B (25 + j)), gA cI (a2 5) 6 (fun j => B (85 + j)), gA cI (a2 6) 36 (fun j => B (91 + j)), gA cI (a2 7) 5 (fun j => B (127 + j)), gA cI (a2 9) 200 (fun j => B (132 + j)), gA cI (a2 11) 40 (fun j => B (332 + j)), gA cI (a2 13) 8 (fun j => B (372 + j))]) [0, 19, 1, 2, 3, 4, 5, 6, 7, 8, 9, 18, 10, 11, 12, 13, 14, 15, 16, 17] rfl rfl ?_
  refine g_aload_n (pc := 19) X dX1_become_19 1 rfl ?_
  refine g_get (pc := 20) X fl_X1_15 dX1_become_20 10 (v := .ref (a2 2)) rfl rfl ?_
  refine g_aload_n (pc := 23) X dX1_become_23 0 rfl ?_
  refine g_get (pc := 24) X fl_X1_15 dX1_become_24 0 (v := .ref (a 2)) rfl rfl ?_
  refine gc_Nxv (pc := 27) X (wr := [oF q a (B 0) (A 1) (A 2) (A 3) (A 4), gA cI (a 1) 10 (fun j => B (5 + j)), gA cI (a 3) 60 (fun j => A (25 + j)), gA cI (a 5) 6 (fun j => A (85 + j)), gA cI (a 6) 36 (fun j => A (91 + j)), gA cI (a 7) 5 (fun j => A (127 + j)), gA cI (a 9) 200 (fun j => A (132 + j)), gA cI (a 11) 40 (fun j => A (332 + j)), gA cI (a 13) 8 (fun j => A (372 + j)), oF q2 a2 (B 0) (B 1) (B 2) (B 3) (B 4), gA cI (a2 1) 10 (fun j => B (5 + j)), gA cI (a2 3) 60 (fun j => B (25 + j)), gA cI (a2 5) 6 (fun j => B (85 + j)), gA cI (a2 6) 36 (fun j => B (91 + j)), gA cI (a2 7) 5 (fun j => B (127 + j)), gA cI (a2 9) 200 (fun j => B (132 + j)), gA cI (a2 11) 40 (fun j => B (332 + j)), gA cI (a2 13) 8 (fun j => B (372 + j))]) (c_X8_copyRow l D cI cZ (a2 2) (a 2) 10 (fun j => B (15 + j)) (fun j => A (15 + j)) rfl) lm_X1_71 dX1_become_27 [12, 2] [0, 1, 3, 4, 5, 6, 7, 8, 9, 10, 11, 13, 14, 15, 16, 17, 18, 19] rfl rfl rfl rfl (by decide) rfl rfl rfl rfl (fun x27 hx27 => ?_)
  refine g_pick (cn := 0) (sl := 0) (st := []) X (ws' := [oF q a (B 0) (A 1) (A 2) (A 3) (A 4), gA cI (a 1) 10 (fun j => B (5 + j)), gA cI (a 2) 10 (fun j => B (15 + j)), gA cI (a 3) 60 (fun j => A (25 + j)), gA cI (a 5) 6 (fun j => A (85 + j)), gA cI (a 6) 36 (fun j => A (91 + j)), gA cI (a 7) 5 (fun j => A (127 + j)), gA cI (a 9) 200 (fun j => A (132 + j)), gA cI (a 11) 40 (fun j => A (332 + j)), gA cI (a 13) 8 (fun j => A (372 + j)), oF q2 a2 (B 0) (B 1) (B 2) (B 3) (B 4), gA cI (a2 1) 10 (fun j => B (5 + j)), gA cI (a2 2) 10 (fun j => B (15 + j)), gA cI (a2 3) 60 (fun j => B (25 + j)), gA cI (a2 5) 6 (fun j => B (85 + j)), gA cI (a2 6) 36 (fun j => B (91 + j)), gA cI (a2 7) 5 (fun j => B (127 + j)), gA cI (a2 9) 200 (fun j => B (132 + j)), gA cI (a2 11) 40 (fun j => B (332 + j)), gA cI (a2 13) 8 (fun j => B (372 + j))]) [0, 1, 19, 2, 3, 4, 5, 6, 7, 8, 9, 10, 18, 11, 12, 13, 14, 15, 16, 17] rfl rfl ?_
  refine g_aload_n (pc := 30) X dX1_become_30 1 rfl ?_
  refine g_get (pc := 31) X fl_X1_18 dX1_become_31 10 (v := .ref (a2 3)) rfl rfl ?_
  refine g_aload_n (pc := 34) X dX1_become_34 0 rfl ?_
  refine g_get (pc := 35) X fl_X1_18 dX1_become_35 0 (v := .ref (a 3)) rfl rfl ?_
  refine gc_Nxv (pc := 38) X (wr := [oF q a (B 0) (A 1) (A 2) (A 3) (A 4), gA cI (a 1) 10 (fun j => B (5 + j)), gA cI (a 2) 10 (fun j => B (15 + j)), gA cI (a 5) 6 (fun j => A (85 + j)), gA cI (a 6) 36 (fun j => A (91 + j)), gA cI (a 7) 5 (fun j => A (127 + j)), gA cI (a 9) 200 (fun j => A (132 + j)), gA cI (a 11) 40 (fun j => A (332 + j)), gA cI (a 13) 8 (fun j => A (372 + j)), oF q2 a2 (B 0) (B 1) (B 2) (B 3) (B 4), gA cI (a2 1) 10 (fun j => B (5 + j)), gA cI (a2 2) 10 (fun j => B (15 + j)), gA cI (a2 5) 6 (fun j => B (85 + j)), gA cI (a2 6) 36 (fun j => B (91 + j)), gA cI (a2 7) 5 (fun j => B (127 + j)), gA cI (a2 9) 200 (fun j => B (132 + j)), gA cI (a2 11) 40 (fun j => B (332 + j)), gA cI (a2 13) 8 (fun j => B (372 + j))]) (c_X8_copyRow l D cI cZ (a2 3) (a 3) 60 (fun j => B (25 + j)) (fun j => A (25 + j)) rfl) lm_X1_71 dX1_become_38 [13, 3] [0, 1, 2, 4, 5, 6, 7, 8, 9, 10, 11, 12, 14, 15, 16, 17, 18, 19] rfl rfl rfl rfl (by decide) rfl rfl rfl rfl (fun x38 hx38 => ?_)
  refine g_pick (cn := 0) (sl := 0) (st := []) X (ws' := [oF q a (B 0) (A 1) (A 2) (A 3) (A 4), gA cI (a 1) 10 (fun j => B (5 + j)), gA cI (a 2) 10 (fun j => B (15 + j)), gA cI (a 3) 60 (fun j => B (25 + j)), gA cI (a 5) 6 (fun j => A (85 + j)), gA cI (a 6) 36 (fun j => A (91 + j)), gA cI (a 7) 5 (fun j => A (127 + j)), gA cI (a 9) 200 (fun j => A (132 + j)), gA cI (a 11) 40 (fun j => A (332 + j)), gA cI (a 13) 8 (fun j => A (372 + j)), oF q2 a2 (B 0) (B 1) (B 2) (B 3) (B 4), gA cI (a2 1) 10 (fun j => B (5 + j)), gA cI (a2 2) 10 (fun j => B (15 + j)), gA cI (a2 3) 60 (fun j => B (25 + j)), gA cI (a2 5) 6 (fun j => B (85 + j)), gA cI (a2 6) 36 (fun j => B (91 + j)), gA cI (a2 7) 5 (fun j => B (127 + j)), gA cI (a2 9) 200 (fun j => B (132 + j)), gA cI (a2 11) 40 (fun j => B (332 + j)), gA cI (a2 13) 8 (fun j => B (372 + j))]) [0, 1, 2, 19, 3, 4, 5, 6, 7, 8, 9, 10, 11, 18, 12, 13, 14, 15, 16, 17] rfl rfl ?_
  refine g_aload_n (pc := 41) X dX1_become_41 0 rfl ?_
  refine g_aload_n (pc := 42) X dX1_become_42 1 rfl ?_
  refine g_get (pc := 43) X fl_X1_47 dX1_become_43 10 (v := gi (B 1)) rfl rfl ?_
  refine g_put (pc := 46) X (ws' := [oF q a (B 0) (B 1) (A 2) (A 3) (A 4), gA cI (a 1) 10 (fun j => B (5 + j)), gA cI (a 2) 10 (fun j => B (15 + j)), gA cI (a 3) 60 (fun j => B (25 + j)), gA cI (a 5) 6 (fun j => A (85 + j)), gA cI (a 6) 36 (fun j => A (91 + j)), gA cI (a 7) 5 (fun j => A (127 + j)), gA cI (a 9) 200 (fun j => A (132 + j)), gA cI (a 11) 40 (fun j => A (332 + j)), gA cI (a 13) 8 (fun j => A (372 + j)), oF q2 a2 (B 0) (B 1) (B 2) (B 3) (B 4), gA cI (a2 1) 10 (fun j => B (5 + j)), gA cI (a2 2) 10 (fun j => B (15 + j)), gA cI (a2 3) 60 (fun j => B (25 + j)), gA cI (a2 5) 6 (fun j => B (85 + j)), gA cI (a2 6) 36 (fun j => B (91 + j)), gA cI (a2 7) 5 (fun j => B (127 + j)), gA cI (a2 9) 200 (fun j => B (132 + j)), gA cI (a2 11) 40 (fun j => B (332 + j)), gA cI (a2 13) 8 (fun j => B (372 + j))]) fp_X1_47 dX1_become_46 0 rfl rfl rfl rfl rfl ?_
  refine g_aload_n (pc := 49) X dX1_become_49 1 rfl ?_
  refine g_get (pc := 50) X fl_X1_21 dX1_become_50 10 (v := .ref (a2 5)) rfl rfl ?_
  refine g_aload_n (pc := 53) X dX1_become_53 0 rfl ?_
  refine g_get (pc := 54) X fl_X1_21 dX1_become_54 0 (v := .ref (a 5)) rfl rfl ?_
  refine gc_Nxv (pc := 57) X (wr := [oF q a (B 0) (B 1) (A 2) (A 3) (A 4), gA cI (a 1) 10 (fun j => B (5 + j)), gA cI (a 2) 10 (fun j => B (15 + j)), gA cI (a 3) 60 (fun j => B (25 + j)), gA cI (a 6) 36 (fun j => A (91 + j)), gA cI (a 7) 5 (fun j => A (127 + j)), gA cI (a 9) 200 (fun j => A (132 + j)), gA cI (a 11) 40 (fun j => A (332 + j)), gA cI (a 13) 8 (fun j => A (372 + j)), oF q2 a2 (B 0) (B 1) (B 2) (B 3) (B 4), gA cI (a2 1) 10 (fun j => B (5 + j)), gA cI (a2 2) 10 (fun j => B (15 + j)), gA cI (a2 3) 60 (fun j => B (25 + j)), gA cI (a2 6) 36 (fun j => B (91 + j)), gA cI (a2 7) 5 (fun j => B (127 + j)), gA cI (a2 9) 200 (fun j => B (132 + j)), gA cI (a2 11) 40 (fun j => B (332 + j)), gA cI (a2 13) 8 (fun j => B (372 + j))]) (c_X8_copyRow l D cI cZ (a2 5) (a 5) 6 (fun j => B (85 + j)) (fun j => A (85 + j)) rfl) lm_X1_71 dX1_become_57 [14, 4] [0, 1, 2, 3, 5, 6, 7, 8, 9, 10, 11, 12, 13, 15, 16, 17, 18, 19] rfl rfl rfl rfl (by decide) rfl rfl rfl rfl (fun x57 hx57 => ?_)
  refine g_pick (cn := 0) (sl := 0) (st := []) X (ws' := [oF q a (B 0) (B 1) (A 2) (A 3) (A 4), gA cI (a 1) 10 (fun j => B (5 + j)), gA cI (a 2) 10 (fun j => B (15 + j)), gA cI (a 3) 60 (fun j => B (25 + j)), gA cI (a 5) 6 (fun j => B (85 + j)), gA cI (a 6) 36 (fun j => A (91 + j)), gA cI (a 7) 5 (fun j => A (127 + j)), gA cI (a 9) 200 (fun j => A (132 + j)), gA cI (a 11) 40 (fun j => A (332 + j)), gA cI (a 13) 8 (fun j => A (372 + j)), oF q2 a2 (B 0) (B 1) (B 2) (B 3) (B 4), gA cI (a2 1) 10 (fun j => B (5 + j)), gA cI (a2 2) 10 (fun j => B (15 + j)), gA cI (a2 3) 60 (fun j => B (25 + j)), gA cI (a2 5) 6 (fun j => B (85 + j)), gA cI (a2 6) 36 (fun j => B (91 + j)), gA cI (a2 7) 5 (fun j => B (127 + j)), gA cI (a2 9) 200 (fun j => B (132 + j)), gA cI (a2 11) 40 (fun j => B (332 + j)), gA cI (a2 13) 8 (fun j => B (372 + j))]) [0, 1, 2, 3, 19, 4, 5, 6, 7, 8, 9, 10, 11, 12, 18, 13, 14, 15, 16, 17] rfl rfl ?_
  refine g_aload_n (pc := 60) X dX1_become_60 1 rfl ?_
  refine g_get (pc := 61) X fl_X1_24 dX1_become_61 10 (v := .ref (a2 6)) rfl rfl ?_
  refine g_aload_n (pc := 64) X dX1_become_64 0 rfl ?_
  refine g_get (pc := 65) X fl_X1_24 dX1_become_65 0 (v := .ref (a 6)) rfl rfl ?_
  refine gc_Nxv (pc := 68) X (wr := [oF q a (B 0) (B 1) (A 2) (A 3) (A 4), gA cI (a 1) 10 (fun j => B (5 + j)), gA cI (a 2) 10 (fun j => B (15 + j)), gA cI (a 3) 60 (fun j => B (25 + j)), gA cI (a 5) 6 (fun j => B (85 + j)), gA cI (a 7) 5 (fun j => A (127 + j)), gA cI (a 9) 200 (fun j => A (132 + j)), gA cI (a 11) 40 (fun j => A (332 + j)), gA cI (a 13) 8 (fun j => A (372 + j)), oF q2 a2 (B 0) (B 1) (B 2) (B 3) (B 4), gA cI (a2 1) 10 (fun j => B (5 + j)), gA cI (a2 2) 10 (fun j => B (15 + j)), gA cI (a2 3) 60 (fun j => B (25 + j)), gA cI (a2 5) 6 (fun j => B (85 + j)), gA cI (a2 7) 5 (fun j => B (127 + j)), gA cI (a2 9) 200 (fun j => B (132 + j)), gA cI (a2 11) 40 (fun j => B (332 + j)), gA cI (a2 13) 8 (fun j => B (372 + j))]) (c_X8_copyRow l D cI cZ (a2 6) (a 6) 36 (fun j => B (91 + j)) (fun j => A (91 + j)) rfl) lm_X1_71 dX1_become_68 [15, 5] [0, 1, 2, 3, 4, 6, 7, 8, 9, 10, 11, 12, 13, 14, 16, 17, 18, 19] rfl rfl rfl rfl (by decide) rfl rfl rfl rfl (fun x68 hx68 => ?_)
  refine g_pick (cn := 0) (sl := 0) (st := []) X (ws' := [oF q a (B 0) (B 1) (A 2) (A 3) (A 4), gA cI (a 1) 10 (fun j => B (5 + j)), gA cI (a 2) 10 (fun j => B (15 + j)), gA cI (a 3) 60 (fun j => B (25 + j)), gA cI (a 5) 6 (fun j => B (85 + j)), gA cI (a 6) 36 (fun j => B (91 + j)), gA cI (a 7) 5 (fun j => A (127 + j)), gA cI (a 9) 200 (fun j => A (132 + j)), gA cI (a 11) 40 (fun j => A (332 + j)), gA cI (a 13) 8 (fun j => A (372 + j)), oF q2 a2 (B 0) (B 1) (B 2) (B 3) (B 4), gA cI (a2 1) 10 (fun j => B (5 + j)), gA cI (a2 2) 10 (fun j => B (15 + j)), gA cI (a2 3) 60 (fun j => B (25 + j)), gA cI (a2 5) 6 (fun j => B (85 + j)), gA cI (a2 6) 36 (fun j => B (91 + j)), gA cI (a2 7) 5 (fun j => B (127 + j)), gA cI (a2 9) 200 (fun j => B (132 + j)), gA cI (a2 11) 40 (fun j => B (332 + j)), gA cI (a2 13) 8 (fun j => B (372 + j))]) [0, 1, 2, 3, 4, 19, 5, 6, 7, 8, 9, 10, 11, 12, 13, 18, 14, 15, 16, 17] rfl rfl ?_
  refine g_aload_n (pc := 71) X dX1_become_71 1 rfl ?_
  refine g_get (pc := 72) X fl_X1_27 dX1_become_72 10 (v := .ref (a2 7)) rfl rfl ?_
  refine g_aload_n (pc := 75) X dX1_become_75 0 rfl ?_
  refine g_get (pc := 76) X fl_X1_27 dX1_become_76 0 (v := .ref (a 7)) rfl rfl ?_
  refine gc_Nxv (pc := 79) X (wr := [oF q a (B 0) (B 1) (A 2) (A 3) (A 4), gA cI (a 1) 10 (fun j => B (5 + j)), gA cI (a 2) 10 (fun j => B (15 + j)), gA cI (a 3) 60 (fun j => B (25 + j)), gA cI (a 5) 6 (fun j => B (85 + j)), gA cI (a 6) 36 (fun j => B (91 + j)), gA cI (a 9) 200 (fun j => A (132 + j)), gA cI (a 11) 40 (fun j => A (332 + j)), gA cI (a 13) 8 (fun j => A (372 + j)), oF q2 a2 (B 0) (B 1) (B 2) (B 3) (B 4), gA cI (a2 1) 10 (fun j => B (5 + j)), gA cI (a2 2) 10 (fun j => B (15 + j)), gA cI (a2 3) 60 (fun j => B (25 + j)), gA cI (a2 5) 6 (fun j => B (85 + j)), gA cI (a2 6) 36 (fun j => B (91 + j)), gA cI (a2 9) 200 (fun j => B (132 + j)), gA cI (a2 11) 40 (fun j => B (332 + j)), gA cI (a2 13) 8 (fun j => B (372 + j))]) (c_X8_copyRow l D cI cZ (a2 7) (a 7) 5 (fun j => B (127 + j)) (fun j => A (127 + j)) rfl) lm_X1_71 dX1_become_79 [16, 6] [0, 1, 2, 3, 4, 5, 7, 8, 9, 10, 11, 12, 13, 14, 15, 17, 18, 19] rfl rfl rfl rfl (by decide) rfl rfl rfl rfl (fun x79 hx79 => ?_)
  refine g_pick (cn := 0) (sl := 0) (st := []) X (ws' := [oF q a (B 0) (B 1) (A 2) (A 3) (A 4), gA cI (a 1) 10 (fun j => B (5 + j)), gA cI (a 2) 10 (fun j => B (15 + j)), gA cI (a 3) 60 (fun j => B (25 + j)), gA cI (a 5) 6 (fun j => B (85 + j)), gA cI (a 6) 36 (fun j => B (91 + j)), gA cI (a 7) 5 (fun j => B (127 + j)), gA cI (a 9) 200 (fun j => A (132 + j)), gA cI (a 11) 40 (fun j => A (332 + j)), gA cI (a 13) 8 (fun j => A (372 + j)), oF q2 a2 (B 0) (B 1) (B 2) (B 3) (B 4), gA cI (a2 1) 10 (fun j => B (5 + j)), gA cI (a2 2) 10 (fun j => B (15 + j)), gA cI (a2 3) 60 (fun j => B (25 + j)), gA cI (a2 5) 6 (fun j => B (85 + j)), gA cI (a2 6) 36 (fun j => B (91 + j)), gA cI (a2 7) 5 (fun j => B (127 + j)), gA cI (a2 9) 200 (fun j => B (132 + j)), gA cI (a2 11) 40 (fun j => B (332 + j)), gA cI (a2 13) 8 (fun j => B (372 + j))]) [0, 1, 2, 3, 4, 5, 19, 6, 7, 8, 9, 10, 11, 12, 13, 14, 18, 15, 16, 17] rfl rfl ?_
  refine g_aload_n (pc := 82) X dX1_become_82 0 rfl ?_
  refine g_aload_n (pc := 83) X dX1_become_83 1 rfl ?_
  refine g_get (pc := 84) X fl_X1_50 dX1_become_84 10 (v := gi (B 2)) rfl rfl ?_
  refine g_put (pc := 87) X (ws' := [oF q a (B 0) (B 1) (B 2) (A 3) (A 4), gA cI (a 1) 10 (fun j => B (5 + j)), gA cI (a 2) 10 (fun j => B (15 + j)), gA cI (a 3) 60 (fun j => B (25 + j)), gA cI (a 5) 6 (fun j => B (85 + j)), gA cI (a 6) 36 (fun j => B (91 + j)), gA cI (a 7) 5 (fun j => B (127 + j)), gA cI (a 9) 200 (fun j => A (132 + j)), gA cI (a 11) 40 (fun j => A (332 + j)), gA cI (a 13) 8 (fun j => A (372 + j)), oF q2 a2 (B 0) (B 1) (B 2) (B 3) (B 4), gA cI (a2 1) 10 (fun j => B (5 + j)), gA cI (a2 2) 10 (fun j => B (15 + j)), gA cI (a2 3) 60 (fun j => B (25 + j)), gA cI (a2 5) 6 (fun j => B (85 + j)), gA cI (a2 6) 36 (fun j => B (91 + j)), gA cI (a2 7) 5 (fun j => B (127 + j)), gA cI (a2 9) 200 (fun j => B (132 + j)), gA cI (a2 11) 40 (fun j => B (332 + j)), gA cI (a2 13) 8 (fun j => B (372 + j))]) fp_X1_50 dX1_become_87 0 rfl rfl rfl rfl rfl ?_
  refine g_aload_n (pc := 90) X dX1_become_90 1 rfl ?_
  refine g_get (pc := 91) X fl_X1_30 dX1_become_91 10 (v := .ref (a2 9)) rfl rfl ?_
  refine g_aload_n (pc := 94) X dX1_become_94 0 rfl ?_
  refine g_get (pc := 95) X fl_X1_30 dX1_become_95 0 (v := .ref (a 9)) rfl rfl ?_
  refine gc_Nxv (pc := 98) X (wr := [oF q a (B 0) (B 1) (B 2) (A 3) (A 4), gA cI (a 1) 10 (fun j => B (5 + j)), gA cI (a 2) 10 (fun j => B (15 + j)), gA cI (a 3) 60 (fun j => B (25 + j)), gA cI (a 5) 6 (fun j => B (85 + j)), gA cI (a 6) 36 (fun j => B (91 + j)), gA cI (a 7) 5 (fun j => B (127 + j)), gA cI (a 11) 40 (fun j => A (332 + j)), gA cI (a 13) 8 (fun j => A (372 + j)), oF q2 a2 (B 0) (B 1) (B 2) (B 3) (B 4), gA cI (a2 1) 10 (fun j => B (5 + j)), gA cI (a2 2) 10 (fun j => B (15 + j)), gA cI (a2 3) 60 (fun j => B (25 + j)), gA cI (a2 5) 6 (fun j => B (85 + j)), gA cI (a2 6) 36 (fun j => B (91 + j)), gA cI (a2 7) 5 (fun j => B (127 + j)), gA cI (a2 11) 40 (fun j => B (332 + j)), gA cI (a2 13) 8 (fun j => B (372 + j))]) (c_X8_copyRow l D cI cZ (a2 9) (a 9) 200 (fun j => B (132 + j)) (fun j => A (132 + j)) rfl) lm_X1_71 dX1_become_98 [17, 7] [0, 1, 2, 3, 4, 5, 6, 8, 9, 10, 11, 12, 13, 14, 15, 16, 18, 19] rfl rfl rfl rfl (by decide) rfl rfl rfl rfl (fun x98 hx98 => ?_)
  refine g_pick (cn := 0) (sl := 0) (st := []) X (ws' := [oF q a (B 0) (B 1) (B 2) (A 3) (A 4), gA cI (a 1) 10 (fun j => B (5 + j)), gA cI (a 2) 10 (fun j => B (15 + j)), gA cI (a 3) 60 (fun j => B (25 + j)), gA cI (a 5) 6 (fun j => B (85 + j)), gA cI (a 6) 36 (fun j => B (91 + j)), gA cI (a 7) 5 (fun j => B (127 + j)), gA cI (a 9) 200 (fun j => B (132 + j)), gA cI (a 11) 40 (fun j => A (332 + j)), gA cI (a 13) 8 (fun j => A (372 + j)), oF q2 a2 (B 0) (B 1) (B 2) (B 3) (B 4), gA cI (a2 1) 10 (fun j => B (5 + j)), gA cI (a2 2) 10 (fun j => B (15 + j)), gA cI (a2 3) 60 (fun j => B (25 + j)), gA cI (a2 5) 6 (fun j => B (85 + j)), gA cI (a2 6) 36 (fun j => B (91 + j)), gA cI (a2 7) 5 (fun j => B (127 + j)), gA cI (a2 9) 200 (fun j => B (132 + j)), gA cI (a2 11) 40 (fun j => B (332 + j)), gA cI (a2 13) 8 (fun j => B (372 + j))]) [0, 1, 2, 3, 4, 5, 6, 19, 7, 8, 9, 10, 11, 12, 13, 14, 15, 18, 16, 17] rfl rfl ?_
  refine g_aload_n (pc := 101) X dX1_become_101 0 rfl ?_
  refine g_aload_n (pc := 102) X dX1_become_102 1 rfl ?_
  refine g_get (pc := 103) X fl_X1_53 dX1_become_103 10 (v := gi (B 3)) rfl rfl ?_
  refine g_put (pc := 106) X (ws' := [oF q a (B 0) (B 1) (B 2) (B 3) (A 4), gA cI (a 1) 10 (fun j => B (5 + j)), gA cI (a 2) 10 (fun j => B (15 + j)), gA cI (a 3) 60 (fun j => B (25 + j)), gA cI (a 5) 6 (fun j => B (85 + j)), gA cI (a 6) 36 (fun j => B (91 + j)), gA cI (a 7) 5 (fun j => B (127 + j)), gA cI (a 9) 200 (fun j => B (132 + j)), gA cI (a 11) 40 (fun j => A (332 + j)), gA cI (a 13) 8 (fun j => A (372 + j)), oF q2 a2 (B 0) (B 1) (B 2) (B 3) (B 4), gA cI (a2 1) 10 (fun j => B (5 + j)), gA cI (a2 2) 10 (fun j => B (15 + j)), gA cI (a2 3) 60 (fun j => B (25 + j)), gA cI (a2 5) 6 (fun j => B (85 + j)), gA cI (a2 6) 36 (fun j => B (91 + j)), gA cI (a2 7) 5 (fun j => B (127 + j)), gA cI (a2 9) 200 (fun j => B (132 + j)), gA cI (a2 11) 40 (fun j => B (332 + j)), gA cI (a2 13) 8 (fun j => B (372 + j))]) fp_X1_53 dX1_become_106 0 rfl rfl rfl rfl rfl ?_
  refine g_aload_n (pc := 109) X dX1_become_109 1 rfl ?_
  refine g_get (pc := 110) X fl_X1_33 dX1_become_110 10 (v := .ref (a2 11)) rfl rfl ?_
  refine g_aload_n (pc := 113) X dX1_become_113 0 rfl ?_
  refine g_get (pc := 114) X fl_X1_33 dX1_become_114 0 (v := .ref (a 11)) rfl rfl ?_
  refine gc_Nxv (pc := 117) X (wr := [oF q a (B 0) (B 1) (B 2) (B 3) (A 4), gA cI (a 1) 10 (fun j => B (5 + j)), gA cI (a 2) 10 (fun j => B (15 + j)), gA cI (a 3) 60 (fun j => B (25 + j)), gA cI (a 5) 6 (fun j => B (85 + j)), gA cI (a 6) 36 (fun j => B (91 + j)), gA cI (a 7) 5 (fun j => B (127 + j)), gA cI (a 9) 200 (fun j => B (132 + j)), gA cI (a 13) 8 (fun j => A (372 + j)), oF q2 a2 (B 0) (B 1) (B 2) (B 3) (B 4), gA cI (a2 1) 10 (fun j => B (5 + j)), gA cI (a2 2) 10 (fun j => B (15 + j)), gA cI (a2 3) 60 (fun j => B (25 + j)), gA cI (a2 5) 6 (fun j => B (85 + j)), gA cI (a2 6) 36 (fun j => B (91 + j)), gA cI (a2 7) 5 (fun j => B (127 + j)), gA cI (a2 9) 200 (fun j => B (132 + j)), gA cI (a2 13) 8 (fun j => B (372 + j))]) (c_X8_copyRow l D cI cZ (a2 11) (a 11) 40 (fun j => B (332 + j)) (fun j => A (332 + j)) rfl) lm_X1_71 dX1_become_117 [18, 8] [0, 1, 2, 3, 4, 5, 6, 7, 9, 10, 11, 12, 13, 14, 15, 16, 17, 19] rfl rfl rfl rfl (by decide) rfl rfl rfl rfl (fun x117 hx117 => ?_)
  refine g_pick (cn := 0) (sl := 0) (st := []) X (ws' := [oF q a (B 0) (B 1) (B 2) (B 3) (A 4), gA cI (a 1) 10 (fun j => B (5 + j)), gA cI (a 2) 10 (fun j => B (15 + j)), gA cI (a 3) 60 (fun j => B (25 + j)), gA cI (a 5) 6 (fun j => B (85 + j)), gA cI (a 6) 36 (fun j => B (91 + j)), gA cI (a 7) 5 (fun j => B (127 + j)), gA cI (a 9) 200 (fun j => B (132 + j)), gA cI (a 11) 40 (fun j => B (332 + j)), gA cI (a 13) 8 (fun j => A (372 + j)), oF q2 a2 (B 0) (B 1) (B 2) (B 3) (B 4), gA cI (a2 1) 10 (fun j => B (5 + j)), gA cI (a2 2) 10 (fun j => B (15 + j)), gA cI (a2 3) 60 (fun j => B (25 + j)), gA cI (a2 5) 6 (fun j => B (85 + j)), gA cI (a2 6) 36 (fun j => B (91 + j)), gA cI (a2 7) 5 (fun j => B (127 + j)), gA cI (a2 9) 200 (fun j => B (132 + j)), gA cI (a2 11) 40 (fun j => B (332 + j)), gA cI (a2 13) 8 (fun j => B (372 + j))]) [0, 1, 2, 3, 4, 5, 6, 7, 19, 8, 9, 10, 11, 12, 13, 14, 15, 16, 18, 17] rfl rfl ?_
  refine g_aload_n (pc := 120) X dX1_become_120 0 rfl ?_
  refine g_aload_n (pc := 121) X dX1_become_121 1 rfl ?_
  refine g_get (pc := 122) X fl_X1_56 dX1_become_122 10 (v := gi (B 4)) rfl rfl ?_
  refine g_put (pc := 125) X (ws' := [oF q a (B 0) (B 1) (B 2) (B 3) (B 4), gA cI (a 1) 10 (fun j => B (5 + j)), gA cI (a 2) 10 (fun j => B (15 + j)), gA cI (a 3) 60 (fun j => B (25 + j)), gA cI (a 5) 6 (fun j => B (85 + j)), gA cI (a 6) 36 (fun j => B (91 + j)), gA cI (a 7) 5 (fun j => B (127 + j)), gA cI (a 9) 200 (fun j => B (132 + j)), gA cI (a 11) 40 (fun j => B (332 + j)), gA cI (a 13) 8 (fun j => A (372 + j)), oF q2 a2 (B 0) (B 1) (B 2) (B 3) (B 4), gA cI (a2 1) 10 (fun j => B (5 + j)), gA cI (a2 2) 10 (fun j => B (15 + j)), gA cI (a2 3) 60 (fun j => B (25 + j)), gA cI (a2 5) 6 (fun j => B (85 + j)), gA cI (a2 6) 36 (fun j => B (91 + j)), gA cI (a2 7) 5 (fun j => B (127 + j)), gA cI (a2 9) 200 (fun j => B (132 + j)), gA cI (a2 11) 40 (fun j => B (332 + j)), gA cI (a2 13) 8 (fun j => B (372 + j))]) fp_X1_56 dX1_become_125 0 rfl rfl rfl rfl rfl ?_
  refine g_aload_n (pc := 128) X dX1_become_128 1 rfl ?_
  refine g_get (pc := 129) X fl_X1_36 dX1_become_129 10 (v := .ref (a2 13)) rfl rfl ?_
  refine g_aload_n (pc := 132) X dX1_become_132 0 rfl ?_
  refine g_get (pc := 133) X fl_X1_36 dX1_become_133 0 (v := .ref (a 13)) rfl rfl ?_
  refine gc_Nxv (pc := 136) X (wr := [oF q a (B 0) (B 1) (B 2) (B 3) (B 4), gA cI (a 1) 10 (fun j => B (5 + j)), gA cI (a 2) 10 (fun j => B (15 + j)), gA cI (a 3) 60 (fun j => B (25 + j)), gA cI (a 5) 6 (fun j => B (85 + j)), gA cI (a 6) 36 (fun j => B (91 + j)), gA cI (a 7) 5 (fun j => B (127 + j)), gA cI (a 9) 200 (fun j => B (132 + j)), gA cI (a 11) 40 (fun j => B (332 + j)), oF q2 a2 (B 0) (B 1) (B 2) (B 3) (B 4), gA cI (a2 1) 10 (fun j => B (5 + j)), gA cI (a2 2) 10 (fun j => B (15 + j)), gA cI (a2 3) 60 (fun j => B (25 + j)), gA cI (a2 5) 6 (fun j => B (85 + j)), gA cI (a2 6) 36 (fun j => B (91 + j)), gA cI (a2 7) 5 (fun j => B (127 + j)), gA cI (a2 9) 200 (fun j => B (132 + j)), gA cI (a2 11) 40 (fun j => B (332 + j))]) (c_X8_copyRow l D cI cZ (a2 13) (a 13) 8 (fun j => B (372 + j)) (fun j => A (372 + j)) rfl) lm_X1_71 dX1_become_136 [19, 9] [0, 1, 2, 3, 4, 5, 6, 7, 8, 10, 11, 12, 13, 14, 15, 16, 17, 18] rfl rfl rfl rfl (by decide) rfl rfl rfl rfl (fun x136 hx136 => ?_)
  refine g_pick (cn := 0) (sl := 0) (st := []) X (ws' := [oF q a (B 0) (B 1) (B 2) (B 3) (B 4), gA cI (a 1) 10 (fun j => B (5 + j)), gA cI (a 2) 10 (fun j => B (15 + j)), gA cI (a 3) 60 (fun j => B (25 + j)), gA cI (a 5) 6 (fun j => B (85 + j)), gA cI (a 6) 36 (fun j => B (91 + j)), gA cI (a 7) 5 (fun j => B (127 + j)), gA cI (a 9) 200 (fun j => B (132 + j)), gA cI (a 11) 40 (fun j => B (332 + j)), gA cI (a 13) 8 (fun j => B (372 + j)), oF q2 a2 (B 0) (B 1) (B 2) (B 3) (B 4), gA cI (a2 1) 10 (fun j => B (5 + j)), gA cI (a2 2) 10 (fun j => B (15 + j)), gA cI (a2 3) 60 (fun j => B (25 + j)), gA cI (a2 5) 6 (fun j => B (85 + j)), gA cI (a2 6) 36 (fun j => B (91 + j)), gA cI (a2 7) 5 (fun j => B (127 + j)), gA cI (a2 9) 200 (fun j => B (132 + j)), gA cI (a2 11) 40 (fun j => B (332 + j)), gA cI (a2 13) 8 (fun j => B (372 + j))]) [0, 1, 2, 3, 4, 5, 6, 7, 8, 19, 9, 10, 11, 12, 13, 14, 15, 16, 17, 18] rfl rfl ?_
  exact ret _ _ _ _ _ dX1_become_139 rfl rfl (gPxv_e () rfl trivial)
