/-! the model: refusals, ranges, things and meanings -/
set_option maxHeartbeats 4000000 in
set_option maxRecDepth 100000 in
theorem c_X9_refuse (l : Launch) (D : va_G) (cI cZ : ClassId) (q : Nat) (a : Nat → Nat) (al : Int) (at_ : Int) (st : Int) (so : Int) (va : Int) (fa : Int) (pl : Int) (sg : Int) (su : Int) (rf : Int → Int) (c : Int) (hc : -4 ≤ c ∧ c ≤ -2) : GM l D cI cZ yX9_refuse cX9_refuse 2 (some .int) ({ frames := 0, cells := 0, slots := 0, locals := 0 }) 0 0 false [.ref q, gi c] [oM q a al at_ st so va fa pl sg su, gA cI (a 2) 3 rf] (gPxi (fun xo : Unit => c) (fun xo : Unit => [oM q a al at_ st so va fa pl sg su, gA cI (a 2) 3 (gupd rf (-2 - c) (rf (-2 - c) + 1))]) (fun xo : Unit => True)) := by
  refine g_enterI (z := false) (lv0 := [(0, .ref q), (1, gi c)]) _ rfl (by decide) rfl rfl (fun V X ret => ?_)
  refine g_aload_n (pc := 0) X dX9_refuse_0 0 rfl ?_
  refine g_get (pc := 1) X fl_X9_17 dX9_refuse_1 0 (v := .ref (a 2)) rfl rfl ?_
  refine g_bipush (pc := 4) X dX9_refuse_4 (by decide +kernel) ?_
  refine g_iload_n (pc := 6) X dX9_refuse_6 1 rfl ?_
  refine g_isub (pc := 7) X dX9_refuse_7 ?_
  refine g_dup2 (pc := 8) X dX9_refuse_8 rfl rfl ?_
  refine g_iald (pc := 9) X dX9_refuse_9 1 rfl (by omega) rfl ?_
  refine g_iconst (pc := 10) X dX9_refuse_10 ?_
  refine g_iadd (pc := 11) X dX9_refuse_11 ?_
  refine g_iast (pc := 12) X (ws' := [oM q a al at_ st so va fa pl sg su, gA cI (a 2) 3 (gupd rf ((-2) - c) (rf ((-2) - c) + 1))]) dX9_refuse_12 1 rfl (by omega) rfl rfl ?_
  refine g_iload_n (pc := 13) X dX9_refuse_13 1 rfl ?_
  exact ret _ _ _ _ _ _ dX9_refuse_14 rfl rfl (fun h => by cases h) (gPxi_e () rfl rfl trivial)

set_option maxHeartbeats 4000000 in
set_option maxRecDepth 100000 in
theorem c_X9_isThing (l : Launch) (D : va_G) (cI cZ : ClassId) (q : Nat) (a : Nat → Nat) (al : Int) (at_ : Int) (st : Int) (so : Int) (va : Int) (fa : Int) (pl : Int) (sg : Int) (su : Int) (A : Int → Int) (i : Int) (hA : okA A) (hi : -2147483648 ≤ i ∧ i < 2147483648) : GM l D cI cZ yX9_isThing cX9_isThing 2 (some .boolean) ({ frames := 1, cells := 0, slots := 0, locals := 22 }) 0 0 true [.ref q, gi i] [oM q a al at_ st so va fa pl sg su, gA cI (a 0) 1140 A] (gPi (gB (0 ≤ i ∧ i ≤ A 0 - 1))) := by
  refine g_enterI (z := true) (lv0 := [(0, .ref q), (1, gi i)]) _ rfl (by decide) rfl rfl (fun V X ret => ?_)
  have hA0 := okA_0 hA
  refine g_iload_n (pc := 0) X dX9_isThing_0 1 rfl ?_
  refine g_iconst (pc := 1) X dX9_isThing_1 ?_
  refine g_aload_n (pc := 2) X dX9_isThing_2 0 rfl ?_
  refine g_get (pc := 3) X fl_X9_7 dX9_isThing_3 0 (v := .ref (a 0)) rfl rfl ?_
  refine g_iconst (pc := 6) X dX9_isThing_6 ?_
  refine g_iald (pc := 7) X dX9_isThing_7 1 rfl (by omega) rfl ?_
  refine g_iconst (pc := 8) X dX9_isThing_8 ?_
  refine g_isub (pc := 9) X dX9_isThing_9 ?_
  refine gc_Si (pc := 10) X (c_X9_in l D cI cZ i 0 (A 0 - 1) (by omega) (by omega) (by omega)) lm_X9_50 dX9_isThing_10 [] rfl rfl rfl rfl rfl rfl ?_
  exact ret _ _ _ _ _ _ dX9_isThing_13 rfl rfl (fun _ => gB_iI) (gPi_e rfl)

set_option maxHeartbeats 4000000 in
set_option maxRecDepth 100000 in
theorem c_X9_isMeaning (l : Launch) (D : va_G) (cI cZ : ClassId) (q : Nat) (a : Nat → Nat) (al : Int) (at_ : Int) (st : Int) (so : Int) (va : Int) (fa : Int) (pl : Int) (sg : Int) (su : Int) (A : Int → Int) (i : Int) (hA : okA A) (hi : -2147483648 ≤ i ∧ i < 2147483648) : GM l D cI cZ yX9_isMeaning cX9_isMeaning 2 (some .boolean) ({ frames := 1, cells := 0, slots := 0, locals := 22 }) 0 0 true [.ref q, gi i] [oM q a al at_ st so va fa pl sg su, gA cI (a 0) 1140 A] (gPi (gB (0 ≤ i ∧ i ≤ A 1 - 1))) := by
  refine g_enterI (z := true) (lv0 := [(0, .ref q), (1, gi i)]) _ rfl (by decide) rfl rfl (fun V X ret => ?_)
  have hA1 := okA_1 hA
  refine g_iload_n (pc := 0) X dX9_isMeaning_0 1 rfl ?_
  refine g_iconst (pc := 1) X dX9_isMeaning_1 ?_
  refine g_aload_n (pc := 2) X dX9_isMeaning_2 0 rfl ?_
  refine g_get (pc := 3) X fl_X9_7 dX9_isMeaning_3 0 (v := .ref (a 0)) rfl rfl ?_
  refine g_iconst (pc := 6) X dX9_isMeaning_6 ?_
  refine g_iald (pc := 7) X dX9_isMeaning_7 1 rfl (by omega) rfl ?_
  refine g_iconst (pc := 8) X dX9_isMeaning_8 ?_
  refine g_isub (pc := 9) X dX9_isMeaning_9 ?_
  refine gc_Si (pc := 10) X (c_X9_in l D cI cZ i 0 (A 1 - 1) (by omega) (by omega) (by omega)) lm_X9_50 dX9_isMeaning_10 [] rfl rfl rfl rfl rfl rfl ?_
  exact ret _ _ _ _ _ _ dX9_isMeaning_13 rfl rfl (fun _ => gB_iI) (gPi_e rfl)

set_option maxHeartbeats 4000000 in
set_option maxRecDepth 100000 in
theorem c_X9_isHouse (l : Launch) (D : va_G) (cI cZ : ClassId) (q : Nat) (a : Nat → Nat) (al : Int) (at_ : Int) (st : Int) (so : Int) (va : Int) (fa : Int) (pl : Int) (sg : Int) (su : Int) (A : Int → Int) (i : Int) (hA : okA A) (hi : -2147483648 ≤ i ∧ i < 2147483648) : GM l D cI cZ yX9_isHouse cX9_isHouse 2 (some .boolean) ({ frames := 1, cells := 0, slots := 0, locals := 22 }) 0 0 true [.ref q, gi i] [oM q a al at_ st so va fa pl sg su, gA cI (a 0) 1140 A] (gPi (gB (0 ≤ i ∧ i ≤ A 3 - 1))) := by
  refine g_enterI (z := true) (lv0 := [(0, .ref q), (1, gi i)]) _ rfl (by decide) rfl rfl (fun V X ret => ?_)
  have hA3 := okA_3 hA
  refine g_iload_n (pc := 0) X dX9_isHouse_0 1 rfl ?_
  refine g_iconst (pc := 1) X dX9_isHouse_1 ?_
  refine g_aload_n (pc := 2) X dX9_isHouse_2 0 rfl ?_
  refine g_get (pc := 3) X fl_X9_7 dX9_isHouse_3 0 (v := .ref (a 0)) rfl rfl ?_
  refine g_iconst (pc := 6) X dX9_isHouse_6 ?_
  refine g_iald (pc := 7) X dX9_isHouse_7 1 rfl (by omega) rfl ?_
  refine g_iconst (pc := 8) X dX9_isHouse_8 ?_
  refine g_isub (pc := 9) X dX9_isHouse_9 ?_
  refine gc_Si (pc := 10) X (c_X9_in l D cI cZ i 0 (A 3 - 1) (by omega) (by omega) (by omega)) lm_X9_50 dX9_isHouse_10 [] rfl rfl rfl rfl rfl rfl ?_
  exact ret _ _ _ _ _ _ dX9_isHouse_13 rfl rfl (fun _ => gB_iI) (gPi_e rfl)

set_option maxHeartbeats 4000000 in
set_option maxRecDepth 100000 in
theorem c_X9_thing (l : Launch) (D : va_G) (cI cZ : ClassId) (q : Nat) (a : Nat → Nat) (al : Int) (at_ : Int) (st : Int) (so : Int) (va : Int) (fa : Int) (pl : Int) (sg : Int) (su : Int) (A : Int → Int) (kp : Int → Int) (rf : Int → Int) (lk_ : Int → Int) (sh : Int → Int) (pi : Int → Int) (th : Int → Int) (fl : Int → Int) (so_ : Int → Int) (fr : Int → Int) (le : Int → Int) (lg : Int → Int) (bg : Int → Int) (ty : Int) (fd : Int) (hA : okA A) (hZ : okZ A) (hty : -2147483648 ≤ ty ∧ ty < 2147483648) (hfd : -2147483648 ≤ fd ∧ fd < 2147483648) : GM l D cI cZ yX9_thing cX9_thing 5 (some .int) ({ frames := 1, cells := 0, slots := 0, locals := 22 }) 0 0 false [.ref q, gi ty, gi fd] [oM q a al at_ st so va fa pl sg su, gA cI (a 0) 1140 A, gA cZ (a 1) 2 kp, gA cI (a 2) 3 rf, gA cI (a 3) 6 lk_, gA cI (a 5) 60 sh, gA cI (a 12) 8 pi, gA cI (a 13) 8 th, gA cI (a 14) 8 fl, gA cI (a 15) 8 so_, gA cI (a 16) 8 fr, gA cI (a 17) 2048 le, gA cI (a 18) 41 lg, gA cI (a 19) 112 bg] (gPxi (fun xo : Unit => (o_thing A ty fd).1) (fun xo : Unit => [oM q a al at_ st so va fa pl sg su, gA cI (a 0) 1140 ((o_thing A ty fd).2.2), gA cZ (a 1) 2 kp, gA cI (a 2) 3 (bump ((o_thing A ty fd).2.1) rf), gA cI (a 3) 6 lk_, gA cI (a 5) 60 sh, gA cI (a 12) 8 pi, gA cI (a 13) 8 th, gA cI (a 14) 8 fl, gA cI (a 15) 8 so_, gA cI (a 16) 8 fr, gA cI (a 17) 2048 le, gA cI (a 18) 41 lg, gA cI (a 19) 112 bg]) (fun xo : Unit => True)) := by
  refine g_enterI (z := false) (lv0 := [(0, .ref q), (1, gi ty), (2, gi fd)]) _ rfl (by decide) rfl rfl (fun V X ret => ?_)
  have hA1 := okA_1 hA
  have hA0 := okA_0 hA
  have hpu := okA_pu hA
  refine g_iload_n (pc := 0) X dX9_thing_0 1 rfl ?_
  refine g_iconst (pc := 1) X dX9_thing_1 ?_
  refine g_iconst (pc := 2) X dX9_thing_2 ?_
  refine gc_Si (pc := 3) X (c_X9_in l D cI cZ ty 0 4 (by omega) (by omega) (by omega)) lm_X9_50 dX9_thing_3 [] rfl rfl rfl rfl rfl rfl ?_
  refine g_ifeqB (pc := 6) X 19 dX9_thing_6 (by decide) (fun h6 => ?_) (fun h6 => ?_)
  · refine g_aload_n (pc := 19) X dX9_thing_19 0 rfl ?_
    refine g_bipush (pc := 20) X dX9_thing_20 (by decide +kernel) ?_
    refine gc_Vxi (pc := 22) X (wr := [gA cI (a 0) 1140 A, gA cZ (a 1) 2 kp, gA cI (a 3) 6 lk_, gA cI (a 5) 60 sh, gA cI (a 12) 8 pi, gA cI (a 13) 8 th, gA cI (a 14) 8 fl, gA cI (a 15) 8 so_, gA cI (a 16) 8 fr, gA cI (a 17) 2048 le, gA cI (a 18) 41 lg, gA cI (a 19) 112 bg]) (c_X9_refuse l D cI cZ q a al at_ st so va fa pl sg su rf (-2) (by omega)) lm_X9_54 dX9_thing_22 [0, 3] [1, 2, 4, 5, 6, 7, 8, 9, 10, 11, 12, 13] rfl rfl rfl rfl (by decide) rfl rfl rfl rfl rfl rfl (fun x22 hx22 => ?_)
    refine g_pick (cn := 0) (sl := 0) (st := gi (-2) :: []) X (ws' := [oM q a al at_ st so va fa pl sg su, gA cI (a 0) 1140 A, gA cZ (a 1) 2 kp, gA cI (a 2) 3 (gupd rf (-2 - (-2)) (rf (-2 - (-2)) + 1)), gA cI (a 3) 6 lk_, gA cI (a 5) 60 sh, gA cI (a 12) 8 pi, gA cI (a 13) 8 th, gA cI (a 14) 8 fl, gA cI (a 15) 8 so_, gA cI (a 16) 8 fr, gA cI (a 17) 2048 le, gA cI (a 18) 41 lg, gA cI (a 19) 112 bg]) [12, 0, 1, 13, 2, 3, 4, 5, 6, 7, 8, 9, 10, 11] rfl rfl ?_
    exact ret _ _ _ _ _ _ dX9_thing_25 rfl rfl (fun h => by cases h) (gPxi_e () (by rw [(show o_thing A ty fd = (-2, 0, A) from if_neg (by omega))]) (by rw [(show o_thing A ty fd = (-2, 0, A) from if_neg (by omega))]; rfl) trivial)
  · refine g_iload_n (pc := 9) X dX9_thing_9 2 rfl ?_
    refine g_iconst (pc := 10) X dX9_thing_10 ?_
    refine g_bipush (pc := 11) X dX9_thing_11 (by decide +kernel) ?_
    refine gc_Si (pc := 13) X (c_X9_in l D cI cZ fd 0 9 (by omega) (by omega) (by omega)) lm_X9_50 dX9_thing_13 [] rfl rfl rfl rfl rfl rfl ?_
    refine g_ifneB (pc := 16) X 26 dX9_thing_16 (by decide) (fun h16 => ?_) (fun h16 => ?_)
    · refine g_aload_n (pc := 26) X dX9_thing_26 0 rfl ?_
      refine g_get (pc := 27) X fl_X9_7 dX9_thing_27 0 (v := .ref (a 0)) rfl rfl ?_
      refine g_iconst (pc := 30) X dX9_thing_30 ?_
      refine g_iald (pc := 31) X dX9_thing_31 1 rfl (by omega) rfl ?_
      refine g_istore_n (pc := 32) X (lv' := [(0, .ref q), (1, gi ty), (2, gi fd), (3, gi (A 0))]) dX9_thing_32 rfl rfl ?_
      refine g_iload_n (pc := 33) X dX9_thing_33 3 rfl ?_
      refine g_bipush (pc := 34) X dX9_thing_34 (by decide +kernel) ?_
      refine g_icmpne (pc := 36) X 46 dX9_thing_36 (by decide) (by omega) (by omega) (fun h36 => ?_) (fun h36 => ?_)
      · refine g_aload_n (pc := 46) X dX9_thing_46 0 rfl ?_
        refine g_get (pc := 47) X fl_X9_7 dX9_thing_47 0 (v := .ref (a 0)) rfl rfl ?_
        refine g_iconst (pc := 50) X dX9_thing_50 ?_
        refine g_iload_n (pc := 51) X dX9_thing_51 3 rfl ?_
        refine g_iadd (pc := 52) X dX9_thing_52 ?_
        refine g_iload_n (pc := 53) X dX9_thing_53 1 rfl ?_
        refine g_iast (pc := 54) X (ws' := [oM q a al at_ st so va fa pl sg su, gA cI (a 0) 1140 (gupd A (5 + A 0) ty), gA cZ (a 1) 2 kp, gA cI (a 2) 3 rf, gA cI (a 3) 6 lk_, gA cI (a 5) 60 sh, gA cI (a 12) 8 pi, gA cI (a 13) 8 th, gA cI (a 14) 8 fl, gA cI (a 15) 8 so_, gA cI (a 16) 8 fr, gA cI (a 17) 2048 le, gA cI (a 18) 41 lg, gA cI (a 19) 112 bg]) dX9_thing_54 1 rfl (by omega) rfl rfl ?_
        refine g_aload_n (pc := 55) X dX9_thing_55 0 rfl ?_
        refine g_get (pc := 56) X fl_X9_7 dX9_thing_56 0 (v := .ref (a 0)) rfl rfl ?_
        refine g_bipush (pc := 59) X dX9_thing_59 (by decide +kernel) ?_
        refine g_iload_n (pc := 61) X dX9_thing_61 3 rfl ?_
        refine g_iadd (pc := 62) X dX9_thing_62 ?_
        refine g_iload_n (pc := 63) X dX9_thing_63 2 rfl ?_
        refine g_iast (pc := 64) X (ws' := [oM q a al at_ st so va fa pl sg su, gA cI (a 0) 1140 (gupd (gupd A (5 + A 0) ty) (15 + A 0) fd), gA cZ (a 1) 2 kp, gA cI (a 2) 3 rf, gA cI (a 3) 6 lk_, gA cI (a 5) 60 sh, gA cI (a 12) 8 pi, gA cI (a 13) 8 th, gA cI (a 14) 8 fl, gA cI (a 15) 8 so_, gA cI (a 16) 8 fr, gA cI (a 17) 2048 le, gA cI (a 18) 41 lg, gA cI (a 19) 112 bg]) dX9_thing_64 1 rfl (by omega) rfl rfl ?_
        refine g_iconst (pc := 65) X dX9_thing_65 ?_
        refine g_istore (pc := 66) X (lv' := [(0, .ref q), (1, gi ty), (2, gi fd), (3, gi (A 0)), (4, gi 0)]) dX9_thing_66 rfl rfl ?_
        have L68 : ∀ (n68 : Nat) (b : Int), (0 ≤ b ∧ b ≤ 6) → (6 - b).toNat < n68 → V 0 0 [oM q a al at_ st so va fa pl sg su, gA cI (a 0) 1140 (gupd (gupd A (5 + A 0) ty) (15 + A 0) fd), gA cZ (a 1) 2 kp, gA cI (a 2) 3 rf, gA cI (a 3) 6 lk_, gA cI (a 5) 60 sh, gA cI (a 12) 8 pi, gA cI (a 13) 8 th, gA cI (a 14) 8 fl, gA cI (a 15) 8 so_, gA cI (a 16) 8 fr, gA cI (a 17) 2048 le, gA cI (a 18) 41 lg, gA cI (a 19) 112 bg] 68 [(0, .ref q), (1, gi ty), (2, gi fd), (3, gi (A 0)), (4, gi b)] [] := by
          intro n68
          induction n68 with
          | zero => intro b hb hn68; exact absurd hn68 (Nat.not_lt_zero _)
          | succ n68 ih68 =>
            intro b hb hn68
            refine g_iload (pc := 68) X dX9_thing_68 4 rfl ?_
            refine g_bipush (pc := 70) X dX9_thing_70 (by decide +kernel) ?_
            refine g_icmpge (pc := 72) X 97 dX9_thing_72 (by decide) (by omega) (by omega) (fun h72 => ?_) (fun h72 => ?_)
            · refine g_aload_n (pc := 97) X dX9_thing_97 0 rfl ?_
              refine g_get (pc := 98) X fl_X9_7 dX9_thing_98 0 (v := .ref (a 0)) rfl rfl ?_
              refine g_iconst (pc := 101) X dX9_thing_101 ?_
              refine g_dup2 (pc := 102) X dX9_thing_102 rfl rfl ?_
              refine g_iald (pc := 103) X dX9_thing_103 1 rfl (by omega) rfl ?_
              refine g_top (b := A 0) (by rw [gupd_n (by omega), gupd_n (by omega)]) ?_
              refine g_iconst (pc := 104) X dX9_thing_104 ?_
              refine g_iadd (pc := 105) X dX9_thing_105 ?_
              refine g_iast (pc := 106) X (ws' := [oM q a al at_ st so va fa pl sg su, gA cI (a 0) 1140 (gupd (gupd (gupd A (5 + A 0) ty) (15 + A 0) fd) 0 (A 0 + 1)), gA cZ (a 1) 2 kp, gA cI (a 2) 3 rf, gA cI (a 3) 6 lk_, gA cI (a 5) 60 sh, gA cI (a 12) 8 pi, gA cI (a 13) 8 th, gA cI (a 14) 8 fl, gA cI (a 15) 8 so_, gA cI (a 16) 8 fr, gA cI (a 17) 2048 le, gA cI (a 18) 41 lg, gA cI (a 19) 112 bg]) dX9_thing_106 1 rfl (by omega) rfl rfl ?_
              refine g_iload_n (pc := 107) X dX9_thing_107 3 rfl ?_
              exact ret _ _ _ _ _ _ dX9_thing_108 rfl rfl (fun h => by cases h) (gPxi_e () (by rw [(show o_thing A ty fd = (A 0, -1, gupd (gupd (gupd A (5 + A 0) ty) (15 + A 0) fd) 0 (A 0 + 1)) from (if_pos (by omega)).trans (if_neg h36))]) (by rw [(show o_thing A ty fd = (A 0, -1, gupd (gupd (gupd A (5 + A 0) ty) (15 + A 0) fd) 0 (A 0 + 1)) from (if_pos (by omega)).trans (if_neg h36))]; rfl) trivial)
            · refine g_aload_n (pc := 75) X dX9_thing_75 0 rfl ?_
              refine g_get (pc := 76) X fl_X9_7 dX9_thing_76 0 (v := .ref (a 0)) rfl rfl ?_
              refine g_bipush (pc := 79) X dX9_thing_79 (by decide +kernel) ?_
              refine g_bipush (pc := 81) X dX9_thing_81 (by decide +kernel) ?_
              refine g_iload_n (pc := 83) X dX9_thing_83 3 rfl ?_
              refine g_imul (pc := 84) X dX9_thing_84 ?_
              refine g_iadd (pc := 85) X dX9_thing_85 ?_
              refine g_iload (pc := 86) X dX9_thing_86 4 rfl ?_
              refine g_iadd (pc := 88) X dX9_thing_88 ?_
              refine g_iconst (pc := 89) X dX9_thing_89 ?_
              refine g_iast (pc := 90) X (ws' := [oM q a al at_ st so va fa pl sg su, gA cI (a 0) 1140 (gupd (gupd (gupd A (5 + A 0) ty) (15 + A 0) fd) (25 + 6 * (A 0) + b) 0), gA cZ (a 1) 2 kp, gA cI (a 2) 3 rf, gA cI (a 3) 6 lk_, gA cI (a 5) 60 sh, gA cI (a 12) 8 pi, gA cI (a 13) 8 th, gA cI (a 14) 8 fl, gA cI (a 15) 8 so_, gA cI (a 16) 8 fr, gA cI (a 17) 2048 le, gA cI (a 18) 41 lg, gA cI (a 19) 112 bg]) dX9_thing_90 1 rfl (by omega) rfl rfl ?_
              refine g_ws (ws' := [oM q a al at_ st so va fa pl sg su, gA cI (a 0) 1140 (gupd (gupd A (5 + A 0) ty) (15 + A 0) fd), gA cZ (a 1) 2 kp, gA cI (a 2) 3 rf, gA cI (a 3) 6 lk_, gA cI (a 5) 60 sh, gA cI (a 12) 8 pi, gA cI (a 13) 8 th, gA cI (a 14) 8 fl, gA cI (a 15) 8 so_, gA cI (a 16) 8 fr, gA cI (a 17) 2048 le, gA cI (a 18) 41 lg, gA cI (a 19) 112 bg]) (by rw [gupd_id (A := gupd (gupd A (5 + A 0) ty) (15 + A 0) fd) (by rw [gupd_n (by omega), gupd_n (by omega)]; exact Eq.trans (congrArg A (by omega)) (hZ.1 (6 * A 0 + b) (by omega) (by omega)))]) ?_
              refine g_iinc (pc := 91) X (lv' := [(0, .ref q), (1, gi ty), (2, gi fd), (3, gi (A 0)), (4, gi (b + 1))]) dX9_thing_91 4 rfl rfl rfl ?_
              refine g_goto (pc := 94) X 68 dX9_thing_94 (by decide) ?_
              exact ih68 _ (by omega) (by omega)
        exact L68 _ _ (by omega) (Nat.lt_succ_self _)
      · refine g_aload_n (pc := 39) X dX9_thing_39 0 rfl ?_
        refine g_bipush (pc := 40) X dX9_thing_40 (by decide +kernel) ?_
        refine gc_Vxi (pc := 42) X (wr := [gA cI (a 0) 1140 A, gA cZ (a 1) 2 kp, gA cI (a 3) 6 lk_, gA cI (a 5) 60 sh, gA cI (a 12) 8 pi, gA cI (a 13) 8 th, gA cI (a 14) 8 fl, gA cI (a 15) 8 so_, gA cI (a 16) 8 fr, gA cI (a 17) 2048 le, gA cI (a 18) 41 lg, gA cI (a 19) 112 bg]) (c_X9_refuse l D cI cZ q a al at_ st so va fa pl sg su rf (-4) (by omega)) lm_X9_54 dX9_thing_42 [0, 3] [1, 2, 4, 5, 6, 7, 8, 9, 10, 11, 12, 13] rfl rfl rfl rfl (by decide) rfl rfl rfl rfl rfl rfl (fun x42 hx42 => ?_)
        refine g_pick (cn := 0) (sl := 0) (st := gi (-4) :: []) X (ws' := [oM q a al at_ st so va fa pl sg su, gA cI (a 0) 1140 A, gA cZ (a 1) 2 kp, gA cI (a 2) 3 (gupd rf (-2 - (-4)) (rf (-2 - (-4)) + 1)), gA cI (a 3) 6 lk_, gA cI (a 5) 60 sh, gA cI (a 12) 8 pi, gA cI (a 13) 8 th, gA cI (a 14) 8 fl, gA cI (a 15) 8 so_, gA cI (a 16) 8 fr, gA cI (a 17) 2048 le, gA cI (a 18) 41 lg, gA cI (a 19) 112 bg]) [12, 0, 1, 13, 2, 3, 4, 5, 6, 7, 8, 9, 10, 11] rfl rfl ?_
        exact ret _ _ _ _ _ _ dX9_thing_45 rfl rfl (fun h => by cases h) (gPxi_e () (by rw [(show o_thing A ty fd = (-4, 2, A) from (if_pos (by omega)).trans (if_pos h36))]) (by rw [(show o_thing A ty fd = (-4, 2, A) from (if_pos (by omega)).trans (if_pos h36))]; rfl) trivial)
    · refine g_aload_n (pc := 19) X dX9_thing_19 0 rfl ?_
      refine g_bipush (pc := 20) X dX9_thing_20 (by decide +kernel) ?_
      refine gc_Vxi (pc := 22) X (wr := [gA cI (a 0) 1140 A, gA cZ (a 1) 2 kp, gA cI (a 3) 6 lk_, gA cI (a 5) 60 sh, gA cI (a 12) 8 pi, gA cI (a 13) 8 th, gA cI (a 14) 8 fl, gA cI (a 15) 8 so_, gA cI (a 16) 8 fr, gA cI (a 17) 2048 le, gA cI (a 18) 41 lg, gA cI (a 19) 112 bg]) (c_X9_refuse l D cI cZ q a al at_ st so va fa pl sg su rf (-2) (by omega)) lm_X9_54 dX9_thing_22 [0, 3] [1, 2, 4, 5, 6, 7, 8, 9, 10, 11, 12, 13] rfl rfl rfl rfl (by decide) rfl rfl rfl rfl rfl rfl (fun x22 hx22 => ?_)
      refine g_pick (cn := 0) (sl := 0) (st := gi (-2) :: []) X (ws' := [oM q a al at_ st so va fa pl sg su, gA cI (a 0) 1140 A, gA cZ (a 1) 2 kp, gA cI (a 2) 3 (gupd rf (-2 - (-2)) (rf (-2 - (-2)) + 1)), gA cI (a 3) 6 lk_, gA cI (a 5) 60 sh, gA cI (a 12) 8 pi, gA cI (a 13) 8 th, gA cI (a 14) 8 fl, gA cI (a 15) 8 so_, gA cI (a 16) 8 fr, gA cI (a 17) 2048 le, gA cI (a 18) 41 lg, gA cI (a 19) 112 bg]) [12, 0, 1, 13, 2, 3, 4, 5, 6, 7, 8, 9, 10, 11] rfl rfl ?_
      exact ret _ _ _ _ _ _ dX9_thing_25 rfl rfl (fun h => by cases h) (gPxi_e () (by rw [(show o_thing A ty fd = (-2, 0, A) from if_neg (by omega))]) (by rw [(show o_thing A ty fd = (-2, 0, A) from if_neg (by omega))]; rfl) trivial)

set_option maxHeartbeats 4000000 in
set_option maxRecDepth 100000 in
theorem c_X9_level (l : Launch) (D : va_G) (cI cZ : ClassId) (q : Nat) (a : Nat → Nat) (al : Int) (at_ : Int) (st : Int) (so : Int) (va : Int) (fa : Int) (pl : Int) (sg : Int) (su : Int) (A : Int → Int) (kp : Int → Int) (rf : Int → Int) (lk_ : Int → Int) (sh : Int → Int) (pi : Int → Int) (th : Int → Int) (fl : Int → Int) (so_ : Int → Int) (fr : Int → Int) (le : Int → Int) (lg : Int → Int) (bg : Int → Int) (t : Int) (b : Int) (v : Int) (hA : okA A) (ht : -2147483648 ≤ t ∧ t < 2147483648) (hb : -2147483648 ≤ b ∧ b < 2147483648) (hv : -2147483648 ≤ v ∧ v < 2147483648) : GM l D cI cZ yX9_level cX9_level 5 (some .int) ({ frames := 2, cells := 0, slots := 0, locals := 43 }) 0 0 false [.ref q, gi t, gi b, gi v] [oM q a al at_ st so va fa pl sg su, gA cI (a 0) 1140 A, gA cZ (a 1) 2 kp, gA cI (a 2) 3 rf, gA cI (a 3) 6 lk_, gA cI (a 5) 60 sh, gA cI (a 12) 8 pi, gA cI (a 13) 8 th, gA cI (a 14) 8 fl, gA cI (a 15) 8 so_, gA cI (a 16) 8 fr, gA cI (a 17) 2048 le, gA cI (a 18) 41 lg, gA cI (a 19) 112 bg] (gPxi (fun xo : Unit => (o_level A t b v).1) (fun xo : Unit => [oM q a al at_ st so va fa pl sg su, gA cI (a 0) 1140 ((o_level A t b v).2.2), gA cZ (a 1) 2 kp, gA cI (a 2) 3 (bump ((o_level A t b v).2.1) rf), gA cI (a 3) 6 lk_, gA cI (a 5) 60 sh, gA cI (a 12) 8 pi, gA cI (a 13) 8 th, gA cI (a 14) 8 fl, gA cI (a 15) 8 so_, gA cI (a 16) 8 fr, gA cI (a 17) 2048 le, gA cI (a 18) 41 lg, gA cI (a 19) 112 bg]) (fun xo : Unit => True)) := by
  refine g_enterI (z := false) (lv0 := [(0, .ref q), (1, gi t), (2, gi b), (3, gi v)]) _ rfl (by decide) rfl rfl (fun V X ret => ?_)
  have hA1 := okA_1 hA
  have hA0 := okA_0 hA
  have hpu := okA_pu hA
  refine g_aload_n (pc := 0) X dX9_level_0 0 rfl ?_
  refine g_iload_n (pc := 1) X dX9_level_1 1 rfl ?_
  refine gc_Vi (pc := 2) X (c_X9_isThing l D cI cZ q a al at_ st so va fa pl sg su A t hA (by omega)) lm_X9_58 dX9_level_2 [0, 1] rfl rfl rfl rfl rfl rfl rfl rfl ?_
  refine g_ifeqB (pc := 5) X 27 dX9_level_5 (by decide) (fun h5 => ?_) (fun h5 => ?_)
  · refine g_aload_n (pc := 27) X dX9_level_27 0 rfl ?_
    refine g_bipush (pc := 28) X dX9_level_28 (by decide +kernel) ?_
    refine gc_Vxi (pc := 30) X (wr := [gA cI (a 0) 1140 A, gA cZ (a 1) 2 kp, gA cI (a 3) 6 lk_, gA cI (a 5) 60 sh, gA cI (a 12) 8 pi, gA cI (a 13) 8 th, gA cI (a 14) 8 fl, gA cI (a 15) 8 so_, gA cI (a 16) 8 fr, gA cI (a 17) 2048 le, gA cI (a 18) 41 lg, gA cI (a 19) 112 bg]) (c_X9_refuse l D cI cZ q a al at_ st so va fa pl sg su rf (-2) (by omega)) lm_X9_54 dX9_level_30 [0, 3] [1, 2, 4, 5, 6, 7, 8, 9, 10, 11, 12, 13] rfl rfl rfl rfl (by decide) rfl rfl rfl rfl rfl rfl (fun x30 hx30 => ?_)
    refine g_pick (cn := 0) (sl := 0) (st := gi (-2) :: []) X (ws' := [oM q a al at_ st so va fa pl sg su, gA cI (a 0) 1140 A, gA cZ (a 1) 2 kp, gA cI (a 2) 3 (gupd rf (-2 - (-2)) (rf (-2 - (-2)) + 1)), gA cI (a 3) 6 lk_, gA cI (a 5) 60 sh, gA cI (a 12) 8 pi, gA cI (a 13) 8 th, gA cI (a 14) 8 fl, gA cI (a 15) 8 so_, gA cI (a 16) 8 fr, gA cI (a 17) 2048 le, gA cI (a 18) 41 lg, gA cI (a 19) 112 bg]) [12, 0, 1, 13, 2, 3, 4, 5, 6, 7, 8, 9, 10, 11] rfl rfl ?_
    exact ret _ _ _ _ _ _ dX9_level_33 rfl rfl (fun h => by cases h) (gPxi_e () (by rw [(show o_level A t b v = (-2, 0, A) from if_neg (by omega))]) (by rw [(show o_level A t b v = (-2, 0, A) from if_neg (by omega))]; rfl) trivial)
  · refine g_iload_n (pc := 8) X dX9_level_8 2 rfl ?_
    refine g_iconst (pc := 9) X dX9_level_9 ?_
    refine g_iconst (pc := 10) X dX9_level_10 ?_
    refine gc_Si (pc := 11) X (c_X9_in l D cI cZ b 0 5 (by omega) (by omega) (by omega)) lm_X9_50 dX9_level_11 [] rfl rfl rfl rfl rfl rfl ?_
    refine g_ifeqB (pc := 14) X 27 dX9_level_14 (by decide) (fun h14 => ?_) (fun h14 => ?_)
    · refine g_aload_n (pc := 27) X dX9_level_27 0 rfl ?_
      refine g_bipush (pc := 28) X dX9_level_28 (by decide +kernel) ?_
      refine gc_Vxi (pc := 30) X (wr := [gA cI (a 0) 1140 A, gA cZ (a 1) 2 kp, gA cI (a 3) 6 lk_, gA cI (a 5) 60 sh, gA cI (a 12) 8 pi, gA cI (a 13) 8 th, gA cI (a 14) 8 fl, gA cI (a 15) 8 so_, gA cI (a 16) 8 fr, gA cI (a 17) 2048 le, gA cI (a 18) 41 lg, gA cI (a 19) 112 bg]) (c_X9_refuse l D cI cZ q a al at_ st so va fa pl sg su rf (-2) (by omega)) lm_X9_54 dX9_level_30 [0, 3] [1, 2, 4, 5, 6, 7, 8, 9, 10, 11, 12, 13] rfl rfl rfl rfl (by decide) rfl rfl rfl rfl rfl rfl (fun x30 hx30 => ?_)
      refine g_pick (cn := 0) (sl := 0) (st := gi (-2) :: []) X (ws' := [oM q a al at_ st so va fa pl sg su, gA cI (a 0) 1140 A, gA cZ (a 1) 2 kp, gA cI (a 2) 3 (gupd rf (-2 - (-2)) (rf (-2 - (-2)) + 1)), gA cI (a 3) 6 lk_, gA cI (a 5) 60 sh, gA cI (a 12) 8 pi, gA cI (a 13) 8 th, gA cI (a 14) 8 fl, gA cI (a 15) 8 so_, gA cI (a 16) 8 fr, gA cI (a 17) 2048 le, gA cI (a 18) 41 lg, gA cI (a 19) 112 bg]) [12, 0, 1, 13, 2, 3, 4, 5, 6, 7, 8, 9, 10, 11] rfl rfl ?_
      exact ret _ _ _ _ _ _ dX9_level_33 rfl rfl (fun h => by cases h) (gPxi_e () (by rw [(show o_level A t b v = (-2, 0, A) from if_neg (by omega))]) (by rw [(show o_level A t b v = (-2, 0, A) from if_neg (by omega))]; rfl) trivial)
    · refine g_iload_n (pc := 17) X dX9_level_17 3 rfl ?_
      refine g_iconst (pc := 18) X dX9_level_18 ?_
      refine g_bipush (pc := 19) X dX9_level_19 (by decide +kernel) ?_
      refine gc_Si (pc := 21) X (c_X9_in l D cI cZ v 0 99 (by omega) (by omega) (by omega)) lm_X9_50 dX9_level_21 [] rfl rfl rfl rfl rfl rfl ?_
      refine g_ifneB (pc := 24) X 34 dX9_level_24 (by decide) (fun h24 => ?_) (fun h24 => ?_)
      · refine g_aload_n (pc := 34) X dX9_level_34 0 rfl ?_
        refine g_get (pc := 35) X fl_X9_7 dX9_level_35 0 (v := .ref (a 0)) rfl rfl ?_
        refine g_bipush (pc := 38) X dX9_level_38 (by decide +kernel) ?_
        refine g_bipush (pc := 40) X dX9_level_40 (by decide +kernel) ?_
        refine g_iload_n (pc := 42) X dX9_level_42 1 rfl ?_
        refine g_imul (pc := 43) X dX9_level_43 ?_
        refine g_iadd (pc := 44) X dX9_level_44 ?_
        refine g_iload_n (pc := 45) X dX9_level_45 2 rfl ?_
        refine g_iadd (pc := 46) X dX9_level_46 ?_
        refine g_iald (pc := 47) X dX9_level_47 1 rfl (by omega) rfl ?_
        refine g_istore (pc := 48) X (lv' := [(0, .ref q), (1, gi t), (2, gi b), (3, gi v), (4, gi (A (25 + 6 * t + b)))]) dX9_level_48 rfl rfl ?_
        refine g_aload_n (pc := 50) X dX9_level_50 0 rfl ?_
        refine g_get (pc := 51) X fl_X9_7 dX9_level_51 0 (v := .ref (a 0)) rfl rfl ?_
        refine g_bipush (pc := 54) X dX9_level_54 (by decide +kernel) ?_
        refine g_bipush (pc := 56) X dX9_level_56 (by decide +kernel) ?_
        refine g_iload_n (pc := 58) X dX9_level_58 1 rfl ?_
        refine g_imul (pc := 59) X dX9_level_59 ?_
        refine g_iadd (pc := 60) X dX9_level_60 ?_
        refine g_iload_n (pc := 61) X dX9_level_61 2 rfl ?_
        refine g_iadd (pc := 62) X dX9_level_62 ?_
        refine g_iload_n (pc := 63) X dX9_level_63 3 rfl ?_
        refine g_iast (pc := 64) X (ws' := [oM q a al at_ st so va fa pl sg su, gA cI (a 0) 1140 (gupd A (25 + 6 * t + b) v), gA cZ (a 1) 2 kp, gA cI (a 2) 3 rf, gA cI (a 3) 6 lk_, gA cI (a 5) 60 sh, gA cI (a 12) 8 pi, gA cI (a 13) 8 th, gA cI (a 14) 8 fl, gA cI (a 15) 8 so_, gA cI (a 16) 8 fr, gA cI (a 17) 2048 le, gA cI (a 18) 41 lg, gA cI (a 19) 112 bg]) dX9_level_64 1 rfl (by omega) rfl rfl ?_
        refine g_iload (pc := 65) X dX9_level_65 4 rfl ?_
        exact ret _ _ _ _ _ _ dX9_level_67 rfl rfl (fun h => by cases h) (gPxi_e () (by rw [(show o_level A t b v = (A (25 + 6 * t + b), -1, gupd A (25 + 6 * t + b) v) from if_pos (by omega))]) (by rw [(show o_level A t b v = (A (25 + 6 * t + b), -1, gupd A (25 + 6 * t + b) v) from if_pos (by omega))]; rfl) trivial)
      · refine g_aload_n (pc := 27) X dX9_level_27 0 rfl ?_
        refine g_bipush (pc := 28) X dX9_level_28 (by decide +kernel) ?_
        refine gc_Vxi (pc := 30) X (wr := [gA cI (a 0) 1140 A, gA cZ (a 1) 2 kp, gA cI (a 3) 6 lk_, gA cI (a 5) 60 sh, gA cI (a 12) 8 pi, gA cI (a 13) 8 th, gA cI (a 14) 8 fl, gA cI (a 15) 8 so_, gA cI (a 16) 8 fr, gA cI (a 17) 2048 le, gA cI (a 18) 41 lg, gA cI (a 19) 112 bg]) (c_X9_refuse l D cI cZ q a al at_ st so va fa pl sg su rf (-2) (by omega)) lm_X9_54 dX9_level_30 [0, 3] [1, 2, 4, 5, 6, 7, 8, 9, 10, 11, 12, 13] rfl rfl rfl rfl (by decide) rfl rfl rfl rfl rfl rfl (fun x30 hx30 => ?_)
        refine g_pick (cn := 0) (sl := 0) (st := gi (-2) :: []) X (ws' := [oM q a al at_ st so va fa pl sg su, gA cI (a 0) 1140 A, gA cZ (a 1) 2 kp, gA cI (a 2) 3 (gupd rf (-2 - (-2)) (rf (-2 - (-2)) + 1)), gA cI (a 3) 6 lk_, gA cI (a 5) 60 sh, gA cI (a 12) 8 pi, gA cI (a 13) 8 th, gA cI (a 14) 8 fl, gA cI (a 15) 8 so_, gA cI (a 16) 8 fr, gA cI (a 17) 2048 le, gA cI (a 18) 41 lg, gA cI (a 19) 112 bg]) [12, 0, 1, 13, 2, 3, 4, 5, 6, 7, 8, 9, 10, 11] rfl rfl ?_
        exact ret _ _ _ _ _ _ dX9_level_33 rfl rfl (fun h => by cases h) (gPxi_e () (by rw [(show o_level A t b v = (-2, 0, A) from if_neg (by omega))]) (by rw [(show o_level A t b v = (-2, 0, A) from if_neg (by omega))]; rfl) trivial)

set_option maxHeartbeats 4000000 in
set_option maxRecDepth 100000 in
theorem c_X9_meaning (l : Launch) (D : va_G) (cI cZ : ClassId) (q : Nat) (a : Nat → Nat) (al : Int) (at_ : Int) (st : Int) (so : Int) (va : Int) (fa : Int) (pl : Int) (sg : Int) (su : Int) (A : Int → Int) (kp : Int → Int) (rf : Int → Int) (lk_ : Int → Int) (sh : Int → Int) (pi : Int → Int) (th : Int → Int) (fl : Int → Int) (so_ : Int → Int) (fr : Int → Int) (le : Int → Int) (lg : Int → Int) (bg : Int → Int) (w : Int) (hA : okA A) (hZ : okZ A) (hw : -2147483648 ≤ w ∧ w < 2147483648) : GM l D cI cZ yX9_meaning cX9_meaning 4 (some .int) ({ frames := 1, cells := 0, slots := 0, locals := 22 }) 0 0 false [.ref q, gi w] [oM q a al at_ st so va fa pl sg su, gA cI (a 0) 1140 A, gA cZ (a 1) 2 kp, gA cI (a 2) 3 rf, gA cI (a 3) 6 lk_, gA cI (a 5) 60 sh, gA cI (a 12) 8 pi, gA cI (a 13) 8 th, gA cI (a 14) 8 fl, gA cI (a 15) 8 so_, gA cI (a 16) 8 fr, gA cI (a 17) 2048 le, gA cI (a 18) 41 lg, gA cI (a 19) 112 bg] (gPxi (fun xo : Unit => (o_meaning A w).1) (fun xo : Unit => [oM q a al at_ st so va fa pl sg su, gA cI (a 0) 1140 ((o_meaning A w).2.2), gA cZ (a 1) 2 kp, gA cI (a 2) 3 (bump ((o_meaning A w).2.1) rf), gA cI (a 3) 6 lk_, gA cI (a 5) 60 sh, gA cI (a 12) 8 pi, gA cI (a 13) 8 th, gA cI (a 14) 8 fl, gA cI (a 15) 8 so_, gA cI (a 16) 8 fr, gA cI (a 17) 2048 le, gA cI (a 18) 41 lg, gA cI (a 19) 112 bg]) (fun xo : Unit => True)) := by
  refine g_enterI (z := false) (lv0 := [(0, .ref q), (1, gi w)]) _ rfl (by decide) rfl rfl (fun V X ret => ?_)
  have hA1 := okA_1 hA
  have hA0 := okA_0 hA
  have hpu := okA_pu hA
  refine g_iload_n (pc := 0) X dX9_meaning_0 1 rfl ?_
  refine g_iconst (pc := 1) X dX9_meaning_1 ?_
  refine g_bipush (pc := 2) X dX9_meaning_2 (by decide +kernel) ?_
  refine gc_Si (pc := 4) X (c_X9_in l D cI cZ w 0 99 (by omega) (by omega) (by omega)) lm_X9_50 dX9_meaning_4 [] rfl rfl rfl rfl rfl rfl ?_
  refine g_ifneB (pc := 7) X 17 dX9_meaning_7 (by decide) (fun h7 => ?_) (fun h7 => ?_)
  · refine g_aload_n (pc := 17) X dX9_meaning_17 0 rfl ?_
    refine g_get (pc := 18) X fl_X9_7 dX9_meaning_18 0 (v := .ref (a 0)) rfl rfl ?_
    refine g_iconst (pc := 21) X dX9_meaning_21 ?_
    refine g_iald (pc := 22) X dX9_meaning_22 1 rfl (by omega) rfl ?_
    refine g_istore_n (pc := 23) X (lv' := [(0, .ref q), (1, gi w), (2, gi (A 1))]) dX9_meaning_23 rfl rfl ?_
    refine g_iload_n (pc := 24) X dX9_meaning_24 2 rfl ?_
    refine g_bipush (pc := 25) X dX9_meaning_25 (by decide +kernel) ?_
    refine g_icmpne (pc := 27) X 37 dX9_meaning_27 (by decide) (by omega) (by omega) (fun h27 => ?_) (fun h27 => ?_)
    · refine g_aload_n (pc := 37) X dX9_meaning_37 0 rfl ?_
      refine g_get (pc := 38) X fl_X9_7 dX9_meaning_38 0 (v := .ref (a 0)) rfl rfl ?_
      refine g_bipush (pc := 41) X dX9_meaning_41 (by decide +kernel) ?_
      refine g_iload_n (pc := 43) X dX9_meaning_43 2 rfl ?_
      refine g_iadd (pc := 44) X dX9_meaning_44 ?_
      refine g_iload_n (pc := 45) X dX9_meaning_45 1 rfl ?_
      refine g_iast (pc := 46) X (ws' := [oM q a al at_ st so va fa pl sg su, gA cI (a 0) 1140 (gupd A (85 + A 1) w), gA cZ (a 1) 2 kp, gA cI (a 2) 3 rf, gA cI (a 3) 6 lk_, gA cI (a 5) 60 sh, gA cI (a 12) 8 pi, gA cI (a 13) 8 th, gA cI (a 14) 8 fl, gA cI (a 15) 8 so_, gA cI (a 16) 8 fr, gA cI (a 17) 2048 le, gA cI (a 18) 41 lg, gA cI (a 19) 112 bg]) dX9_meaning_46 1 rfl (by omega) rfl rfl ?_
      refine g_iconst (pc := 47) X dX9_meaning_47 ?_
      refine g_istore_n (pc := 48) X (lv' := [(0, .ref q), (1, gi w), (2, gi (A 1)), (3, gi 0)]) dX9_meaning_48 rfl rfl ?_
      have L49 : ∀ (n49 : Nat) (b : Int), (0 ≤ b ∧ b ≤ 6) → (6 - b).toNat < n49 → V 0 0 [oM q a al at_ st so va fa pl sg su, gA cI (a 0) 1140 (gupd A (85 + A 1) w), gA cZ (a 1) 2 kp, gA cI (a 2) 3 rf, gA cI (a 3) 6 lk_, gA cI (a 5) 60 sh, gA cI (a 12) 8 pi, gA cI (a 13) 8 th, gA cI (a 14) 8 fl, gA cI (a 15) 8 so_, gA cI (a 16) 8 fr, gA cI (a 17) 2048 le, gA cI (a 18) 41 lg, gA cI (a 19) 112 bg] 49 [(0, .ref q), (1, gi w), (2, gi (A 1)), (3, gi b)] [] := by
        intro n49
        induction n49 with
        | zero => intro b hb hn49; exact absurd hn49 (Nat.not_lt_zero _)
        | succ n49 ih49 =>
          intro b hb hn49
          refine g_iload_n (pc := 49) X dX9_meaning_49 3 rfl ?_
          refine g_bipush (pc := 50) X dX9_meaning_50 (by decide +kernel) ?_
          refine g_icmpge (pc := 52) X 76 dX9_meaning_52 (by decide) (by omega) (by omega) (fun h52 => ?_) (fun h52 => ?_)
          · refine g_aload_n (pc := 76) X dX9_meaning_76 0 rfl ?_
            refine g_get (pc := 77) X fl_X9_7 dX9_meaning_77 0 (v := .ref (a 0)) rfl rfl ?_
            refine g_iconst (pc := 80) X dX9_meaning_80 ?_
            refine g_dup2 (pc := 81) X dX9_meaning_81 rfl rfl ?_
            refine g_iald (pc := 82) X dX9_meaning_82 1 rfl (by omega) rfl ?_
            refine g_top (b := A 1) (by rw [gupd_n (by omega)]) ?_
            refine g_iconst (pc := 83) X dX9_meaning_83 ?_
            refine g_iadd (pc := 84) X dX9_meaning_84 ?_
            refine g_iast (pc := 85) X (ws' := [oM q a al at_ st so va fa pl sg su, gA cI (a 0) 1140 (gupd (gupd A (85 + A 1) w) 1 (A 1 + 1)), gA cZ (a 1) 2 kp, gA cI (a 2) 3 rf, gA cI (a 3) 6 lk_, gA cI (a 5) 60 sh, gA cI (a 12) 8 pi, gA cI (a 13) 8 th, gA cI (a 14) 8 fl, gA cI (a 15) 8 so_, gA cI (a 16) 8 fr, gA cI (a 17) 2048 le, gA cI (a 18) 41 lg, gA cI (a 19) 112 bg]) dX9_meaning_85 1 rfl (by omega) rfl rfl ?_
            refine g_iload_n (pc := 86) X dX9_meaning_86 2 rfl ?_
            exact ret _ _ _ _ _ _ dX9_meaning_87 rfl rfl (fun h => by cases h) (gPxi_e () (by rw [(show o_meaning A w = (A 1, -1, gupd (gupd A (85 + A 1) w) 1 (A 1 + 1)) from (if_pos (by omega)).trans (if_neg h27))]) (by rw [(show o_meaning A w = (A 1, -1, gupd (gupd A (85 + A 1) w) 1 (A 1 + 1)) from (if_pos (by omega)).trans (if_neg h27))]; rfl) trivial)
          · refine g_aload_n (pc := 55) X dX9_meaning_55 0 rfl ?_
            refine g_get (pc := 56) X fl_X9_7 dX9_meaning_56 0 (v := .ref (a 0)) rfl rfl ?_
            refine g_bipush (pc := 59) X dX9_meaning_59 (by decide +kernel) ?_
            refine g_bipush (pc := 61) X dX9_meaning_61 (by decide +kernel) ?_
            refine g_iload_n (pc := 63) X dX9_meaning_63 2 rfl ?_
            refine g_imul (pc := 64) X dX9_meaning_64 ?_
            refine g_iadd (pc := 65) X dX9_meaning_65 ?_
            refine g_iload_n (pc := 66) X dX9_meaning_66 3 rfl ?_
            refine g_iadd (pc := 67) X dX9_meaning_67 ?_
            refine g_iconst (pc := 68) X dX9_meaning_68 ?_
            refine g_iast (pc := 69) X (ws' := [oM q a al at_ st so va fa pl sg su, gA cI (a 0) 1140 (gupd (gupd A (85 + A 1) w) (91 + 6 * (A 1) + b) 0), gA cZ (a 1) 2 kp, gA cI (a 2) 3 rf, gA cI (a 3) 6 lk_, gA cI (a 5) 60 sh, gA cI (a 12) 8 pi, gA cI (a 13) 8 th, gA cI (a 14) 8 fl, gA cI (a 15) 8 so_, gA cI (a 16) 8 fr, gA cI (a 17) 2048 le, gA cI (a 18) 41 lg, gA cI (a 19) 112 bg]) dX9_meaning_69 1 rfl (by omega) rfl rfl ?_
            refine g_ws (ws' := [oM q a al at_ st so va fa pl sg su, gA cI (a 0) 1140 (gupd A (85 + A 1) w), gA cZ (a 1) 2 kp, gA cI (a 2) 3 rf, gA cI (a 3) 6 lk_, gA cI (a 5) 60 sh, gA cI (a 12) 8 pi, gA cI (a 13) 8 th, gA cI (a 14) 8 fl, gA cI (a 15) 8 so_, gA cI (a 16) 8 fr, gA cI (a 17) 2048 le, gA cI (a 18) 41 lg, gA cI (a 19) 112 bg]) (by rw [gupd_id (A := gupd A (85 + A 1) w) (by rw [gupd_n (by omega)]; exact Eq.trans (congrArg A (by omega)) (hZ.2 (6 * A 1 + b) (by omega) (by omega)))]) ?_
            refine g_iinc (pc := 70) X (lv' := [(0, .ref q), (1, gi w), (2, gi (A 1)), (3, gi (b + 1))]) dX9_meaning_70 3 rfl rfl rfl ?_
            refine g_goto (pc := 73) X 49 dX9_meaning_73 (by decide) ?_
            exact ih49 _ (by omega) (by omega)
      exact L49 _ _ (by omega) (Nat.lt_succ_self _)
    · refine g_aload_n (pc := 30) X dX9_meaning_30 0 rfl ?_
      refine g_bipush (pc := 31) X dX9_meaning_31 (by decide +kernel) ?_
      refine gc_Vxi (pc := 33) X (wr := [gA cI (a 0) 1140 A, gA cZ (a 1) 2 kp, gA cI (a 3) 6 lk_, gA cI (a 5) 60 sh, gA cI (a 12) 8 pi, gA cI (a 13) 8 th, gA cI (a 14) 8 fl, gA cI (a 15) 8 so_, gA cI (a 16) 8 fr, gA cI (a 17) 2048 le, gA cI (a 18) 41 lg, gA cI (a 19) 112 bg]) (c_X9_refuse l D cI cZ q a al at_ st so va fa pl sg su rf (-4) (by omega)) lm_X9_54 dX9_meaning_33 [0, 3] [1, 2, 4, 5, 6, 7, 8, 9, 10, 11, 12, 13] rfl rfl rfl rfl (by decide) rfl rfl rfl rfl rfl rfl (fun x33 hx33 => ?_)
      refine g_pick (cn := 0) (sl := 0) (st := gi (-4) :: []) X (ws' := [oM q a al at_ st so va fa pl sg su, gA cI (a 0) 1140 A, gA cZ (a 1) 2 kp, gA cI (a 2) 3 (gupd rf (-2 - (-4)) (rf (-2 - (-4)) + 1)), gA cI (a 3) 6 lk_, gA cI (a 5) 60 sh, gA cI (a 12) 8 pi, gA cI (a 13) 8 th, gA cI (a 14) 8 fl, gA cI (a 15) 8 so_, gA cI (a 16) 8 fr, gA cI (a 17) 2048 le, gA cI (a 18) 41 lg, gA cI (a 19) 112 bg]) [12, 0, 1, 13, 2, 3, 4, 5, 6, 7, 8, 9, 10, 11] rfl rfl ?_
      exact ret _ _ _ _ _ _ dX9_meaning_36 rfl rfl (fun h => by cases h) (gPxi_e () (by rw [(show o_meaning A w = (-4, 2, A) from (if_pos (by omega)).trans (if_pos h27))]) (by rw [(show o_meaning A w = (-4, 2, A) from (if_pos (by omega)).trans (if_pos h27))]; rfl) trivial)
  · refine g_aload_n (pc := 10) X dX9_meaning_10 0 rfl ?_
    refine g_bipush (pc := 11) X dX9_meaning_11 (by decide +kernel) ?_
    refine gc_Vxi (pc := 13) X (wr := [gA cI (a 0) 1140 A, gA cZ (a 1) 2 kp, gA cI (a 3) 6 lk_, gA cI (a 5) 60 sh, gA cI (a 12) 8 pi, gA cI (a 13) 8 th, gA cI (a 14) 8 fl, gA cI (a 15) 8 so_, gA cI (a 16) 8 fr, gA cI (a 17) 2048 le, gA cI (a 18) 41 lg, gA cI (a 19) 112 bg]) (c_X9_refuse l D cI cZ q a al at_ st so va fa pl sg su rf (-2) (by omega)) lm_X9_54 dX9_meaning_13 [0, 3] [1, 2, 4, 5, 6, 7, 8, 9, 10, 11, 12, 13] rfl rfl rfl rfl (by decide) rfl rfl rfl rfl rfl rfl (fun x13 hx13 => ?_)
    refine g_pick (cn := 0) (sl := 0) (st := gi (-2) :: []) X (ws' := [oM q a al at_ st so va fa pl sg su, gA cI (a 0) 1140 A, gA cZ (a 1) 2 kp, gA cI (a 2) 3 (gupd rf (-2 - (-2)) (rf (-2 - (-2)) + 1)), gA cI (a 3) 6 lk_, gA cI (a 5) 60 sh, gA cI (a 12) 8 pi, gA cI (a 13) 8 th, gA cI (a 14) 8 fl, gA cI (a 15) 8 so_, gA cI (a 16) 8 fr, gA cI (a 17) 2048 le, gA cI (a 18) 41 lg, gA cI (a 19) 112 bg]) [12, 0, 1, 13, 2, 3, 4, 5, 6, 7, 8, 9, 10, 11] rfl rfl ?_
    exact ret _ _ _ _ _ _ dX9_meaning_16 rfl rfl (fun h => by cases h) (gPxi_e () (by rw [(show o_meaning A w = (-2, 0, A) from if_neg (by omega))]) (by rw [(show o_meaning A w = (-2, 0, A) from if_neg (by omega))]; rfl) trivial)

set_option maxHeartbeats 4000000 in
set_option maxRecDepth 100000 in
theorem c_X9_want (l : Launch) (D : va_G) (cI cZ : ClassId) (q : Nat) (a : Nat → Nat) (al : Int) (at_ : Int) (st : Int) (so : Int) (va : Int) (fa : Int) (pl : Int) (sg : Int) (su : Int) (A : Int → Int) (kp : Int → Int) (rf : Int → Int) (lk_ : Int → Int) (sh : Int → Int) (pi : Int → Int) (th : Int → Int) (fl : Int → Int) (so_ : Int → Int) (fr : Int → Int) (le : Int → Int) (lg : Int → Int) (bg : Int → Int) (m : Int) (b : Int) (v : Int) (hA : okA A) (hm : -2147483648 ≤ m ∧ m < 2147483648) (hb : -2147483648 ≤ b ∧ b < 2147483648) (hv : -2147483648 ≤ v ∧ v < 2147483648) : GM l D cI cZ yX9_want cX9_want 5 (some .int) ({ frames := 2, cells := 0, slots := 0, locals := 43 }) 0 0 false [.ref q, gi m, gi b, gi v] [oM q a al at_ st so va fa pl sg su, gA cI (a 0) 1140 A, gA cZ (a 1) 2 kp, gA cI (a 2) 3 rf, gA cI (a 3) 6 lk_, gA cI (a 5) 60 sh, gA cI (a 12) 8 pi, gA cI (a 13) 8 th, gA cI (a 14) 8 fl, gA cI (a 15) 8 so_, gA cI (a 16) 8 fr, gA cI (a 17) 2048 le, gA cI (a 18) 41 lg, gA cI (a 19) 112 bg] (gPxi (fun xo : Unit => (o_want A m b v).1) (fun xo : Unit => [oM q a al at_ st so va fa pl sg su, gA cI (a 0) 1140 ((o_want A m b v).2.2), gA cZ (a 1) 2 kp, gA cI (a 2) 3 (bump ((o_want A m b v).2.1) rf), gA cI (a 3) 6 lk_, gA cI (a 5) 60 sh, gA cI (a 12) 8 pi, gA cI (a 13) 8 th, gA cI (a 14) 8 fl, gA cI (a 15) 8 so_, gA cI (a 16) 8 fr, gA cI (a 17) 2048 le, gA cI (a 18) 41 lg, gA cI (a 19) 112 bg]) (fun xo : Unit => True)) := by
  refine g_enterI (z := false) (lv0 := [(0, .ref q), (1, gi m), (2, gi b), (3, gi v)]) _ rfl (by decide) rfl rfl (fun V X ret => ?_)
  have hA1 := okA_1 hA
  have hA0 := okA_0 hA
  have hpu := okA_pu hA
  refine g_aload_n (pc := 0) X dX9_want_0 0 rfl ?_
  refine g_iload_n (pc := 1) X dX9_want_1 1 rfl ?_
  refine gc_Vi (pc := 2) X (c_X9_isMeaning l D cI cZ q a al at_ st so va fa pl sg su A m hA (by omega)) lm_X9_62 dX9_want_2 [0, 1] rfl rfl rfl rfl rfl rfl rfl rfl ?_
  refine g_ifeqB (pc := 5) X 28 dX9_want_5 (by decide) (fun h5 => ?_) (fun h5 => ?_)
  · refine g_aload_n (pc := 28) X dX9_want_28 0 rfl ?_
    refine g_bipush (pc := 29) X dX9_want_29 (by decide +kernel) ?_
    refine gc_Vxi (pc := 31) X (wr := [gA cI (a 0) 1140 A, gA cZ (a 1) 2 kp, gA cI (a 3) 6 lk_, gA cI (a 5) 60 sh, gA cI (a 12) 8 pi, gA cI (a 13) 8 th, gA cI (a 14) 8 fl, gA cI (a 15) 8 so_, gA cI (a 16) 8 fr, gA cI (a 17) 2048 le, gA cI (a 18) 41 lg, gA cI (a 19) 112 bg]) (c_X9_refuse l D cI cZ q a al at_ st so va fa pl sg su rf (-2) (by omega)) lm_X9_54 dX9_want_31 [0, 3] [1, 2, 4, 5, 6, 7, 8, 9, 10, 11, 12, 13] rfl rfl rfl rfl (by decide) rfl rfl rfl rfl rfl rfl (fun x31 hx31 => ?_)
    refine g_pick (cn := 0) (sl := 0) (st := gi (-2) :: []) X (ws' := [oM q a al at_ st so va fa pl sg su, gA cI (a 0) 1140 A, gA cZ (a 1) 2 kp, gA cI (a 2) 3 (gupd rf (-2 - (-2)) (rf (-2 - (-2)) + 1)), gA cI (a 3) 6 lk_, gA cI (a 5) 60 sh, gA cI (a 12) 8 pi, gA cI (a 13) 8 th, gA cI (a 14) 8 fl, gA cI (a 15) 8 so_, gA cI (a 16) 8 fr, gA cI (a 17) 2048 le, gA cI (a 18) 41 lg, gA cI (a 19) 112 bg]) [12, 0, 1, 13, 2, 3, 4, 5, 6, 7, 8, 9, 10, 11] rfl rfl ?_
    exact ret _ _ _ _ _ _ dX9_want_34 rfl rfl (fun h => by cases h) (gPxi_e () (by rw [(show o_want A m b v = (-2, 0, A) from if_neg (by omega))]) (by rw [(show o_want A m b v = (-2, 0, A) from if_neg (by omega))]; rfl) trivial)
  · refine g_iload_n (pc := 8) X dX9_want_8 2 rfl ?_
    refine g_iconst (pc := 9) X dX9_want_9 ?_
    refine g_iconst (pc := 10) X dX9_want_10 ?_
    refine gc_Si (pc := 11) X (c_X9_in l D cI cZ b 0 5 (by omega) (by omega) (by omega)) lm_X9_50 dX9_want_11 [] rfl rfl rfl rfl rfl rfl ?_
    refine g_ifeqB (pc := 14) X 28 dX9_want_14 (by decide) (fun h14 => ?_) (fun h14 => ?_)
    · refine g_aload_n (pc := 28) X dX9_want_28 0 rfl ?_
      refine g_bipush (pc := 29) X dX9_want_29 (by decide +kernel) ?_
      refine gc_Vxi (pc := 31) X (wr := [gA cI (a 0) 1140 A, gA cZ (a 1) 2 kp, gA cI (a 3) 6 lk_, gA cI (a 5) 60 sh, gA cI (a 12) 8 pi, gA cI (a 13) 8 th, gA cI (a 14) 8 fl, gA cI (a 15) 8 so_, gA cI (a 16) 8 fr, gA cI (a 17) 2048 le, gA cI (a 18) 41 lg, gA cI (a 19) 112 bg]) (c_X9_refuse l D cI cZ q a al at_ st so va fa pl sg su rf (-2) (by omega)) lm_X9_54 dX9_want_31 [0, 3] [1, 2, 4, 5, 6, 7, 8, 9, 10, 11, 12, 13] rfl rfl rfl rfl (by decide) rfl rfl rfl rfl rfl rfl (fun x31 hx31 => ?_)
      refine g_pick (cn := 0) (sl := 0) (st := gi (-2) :: []) X (ws' := [oM q a al at_ st so va fa pl sg su, gA cI (a 0) 1140 A, gA cZ (a 1) 2 kp, gA cI (a 2) 3 (gupd rf (-2 - (-2)) (rf (-2 - (-2)) + 1)), gA cI (a 3) 6 lk_, gA cI (a 5) 60 sh, gA cI (a 12) 8 pi, gA cI (a 13) 8 th, gA cI (a 14) 8 fl, gA cI (a 15) 8 so_, gA cI (a 16) 8 fr, gA cI (a 17) 2048 le, gA cI (a 18) 41 lg, gA cI (a 19) 112 bg]) [12, 0, 1, 13, 2, 3, 4, 5, 6, 7, 8, 9, 10, 11] rfl rfl ?_
      exact ret _ _ _ _ _ _ dX9_want_34 rfl rfl (fun h => by cases h) (gPxi_e () (by rw [(show o_want A m b v = (-2, 0, A) from if_neg (by omega))]) (by rw [(show o_want A m b v = (-2, 0, A) from if_neg (by omega))]; rfl) trivial)
    · refine g_iload_n (pc := 17) X dX9_want_17 3 rfl ?_
      refine g_iconst (pc := 18) X dX9_want_18 ?_
      refine g_sipush (pc := 19) X dX9_want_19 (by decide +kernel) ?_
      refine gc_Si (pc := 22) X (c_X9_in l D cI cZ v 0 799 (by omega) (by omega) (by omega)) lm_X9_50 dX9_want_22 [] rfl rfl rfl rfl rfl rfl ?_
      refine g_ifneB (pc := 25) X 35 dX9_want_25 (by decide) (fun h25 => ?_) (fun h25 => ?_)
      · refine g_aload_n (pc := 35) X dX9_want_35 0 rfl ?_
        refine g_get (pc := 36) X fl_X9_7 dX9_want_36 0 (v := .ref (a 0)) rfl rfl ?_
        refine g_bipush (pc := 39) X dX9_want_39 (by decide +kernel) ?_
        refine g_bipush (pc := 41) X dX9_want_41 (by decide +kernel) ?_
        refine g_iload_n (pc := 43) X dX9_want_43 1 rfl ?_
        refine g_imul (pc := 44) X dX9_want_44 ?_
        refine g_iadd (pc := 45) X dX9_want_45 ?_
        refine g_iload_n (pc := 46) X dX9_want_46 2 rfl ?_
        refine g_iadd (pc := 47) X dX9_want_47 ?_
        refine g_iald (pc := 48) X dX9_want_48 1 rfl (by omega) rfl ?_
        refine g_istore (pc := 49) X (lv' := [(0, .ref q), (1, gi m), (2, gi b), (3, gi v), (4, gi (A (91 + 6 * m + b)))]) dX9_want_49 rfl rfl ?_
        refine g_aload_n (pc := 51) X dX9_want_51 0 rfl ?_
        refine g_get (pc := 52) X fl_X9_7 dX9_want_52 0 (v := .ref (a 0)) rfl rfl ?_
        refine g_bipush (pc := 55) X dX9_want_55 (by decide +kernel) ?_
        refine g_bipush (pc := 57) X dX9_want_57 (by decide +kernel) ?_
        refine g_iload_n (pc := 59) X dX9_want_59 1 rfl ?_
        refine g_imul (pc := 60) X dX9_want_60 ?_
        refine g_iadd (pc := 61) X dX9_want_61 ?_
        refine g_iload_n (pc := 62) X dX9_want_62 2 rfl ?_
        refine g_iadd (pc := 63) X dX9_want_63 ?_
        refine g_iload_n (pc := 64) X dX9_want_64 3 rfl ?_
        refine g_iast (pc := 65) X (ws' := [oM q a al at_ st so va fa pl sg su, gA cI (a 0) 1140 (gupd A (91 + 6 * m + b) v), gA cZ (a 1) 2 kp, gA cI (a 2) 3 rf, gA cI (a 3) 6 lk_, gA cI (a 5) 60 sh, gA cI (a 12) 8 pi, gA cI (a 13) 8 th, gA cI (a 14) 8 fl, gA cI (a 15) 8 so_, gA cI (a 16) 8 fr, gA cI (a 17) 2048 le, gA cI (a 18) 41 lg, gA cI (a 19) 112 bg]) dX9_want_65 1 rfl (by omega) rfl rfl ?_
        refine g_iload (pc := 66) X dX9_want_66 4 rfl ?_
        exact ret _ _ _ _ _ _ dX9_want_68 rfl rfl (fun h => by cases h) (gPxi_e () (by rw [(show o_want A m b v = (A (91 + 6 * m + b), -1, gupd A (91 + 6 * m + b) v) from if_pos (by omega))]) (by rw [(show o_want A m b v = (A (91 + 6 * m + b), -1, gupd A (91 + 6 * m + b) v) from if_pos (by omega))]; rfl) trivial)
      · refine g_aload_n (pc := 28) X dX9_want_28 0 rfl ?_
        refine g_bipush (pc := 29) X dX9_want_29 (by decide +kernel) ?_
        refine gc_Vxi (pc := 31) X (wr := [gA cI (a 0) 1140 A, gA cZ (a 1) 2 kp, gA cI (a 3) 6 lk_, gA cI (a 5) 60 sh, gA cI (a 12) 8 pi, gA cI (a 13) 8 th, gA cI (a 14) 8 fl, gA cI (a 15) 8 so_, gA cI (a 16) 8 fr, gA cI (a 17) 2048 le, gA cI (a 18) 41 lg, gA cI (a 19) 112 bg]) (c_X9_refuse l D cI cZ q a al at_ st so va fa pl sg su rf (-2) (by omega)) lm_X9_54 dX9_want_31 [0, 3] [1, 2, 4, 5, 6, 7, 8, 9, 10, 11, 12, 13] rfl rfl rfl rfl (by decide) rfl rfl rfl rfl rfl rfl (fun x31 hx31 => ?_)
        refine g_pick (cn := 0) (sl := 0) (st := gi (-2) :: []) X (ws' := [oM q a al at_ st so va fa pl sg su, gA cI (a 0) 1140 A, gA cZ (a 1) 2 kp, gA cI (a 2) 3 (gupd rf (-2 - (-2)) (rf (-2 - (-2)) + 1)), gA cI (a 3) 6 lk_, gA cI (a 5) 60 sh, gA cI (a 12) 8 pi, gA cI (a 13) 8 th, gA cI (a 14) 8 fl, gA cI (a 15) 8 so_, gA cI (a 16) 8 fr, gA cI (a 17) 2048 le, gA cI (a 18) 41 lg, gA cI (a 19) 112 bg]) [12, 0, 1, 13, 2, 3, 4, 5, 6, 7, 8, 9, 10, 11] rfl rfl ?_
        exact ret _ _ _ _ _ _ dX9_want_34 rfl rfl (fun h => by cases h) (gPxi_e () (by rw [(show o_want A m b v = (-2, 0, A) from if_neg (by omega))]) (by rw [(show o_want A m b v = (-2, 0, A) from if_neg (by omega))]; rfl) trivial)

set_option maxHeartbeats 4000000 in
set_option maxRecDepth 100000 in
theorem c_X9_put (l : Launch) (D : va_G) (cI cZ : ClassId) (q : Nat) (a : Nat → Nat) (al : Int) (at_ : Int) (st : Int) (so : Int) (va : Int) (fa : Int) (pl : Int) (sg : Int) (su : Int) (A : Int → Int) (kp : Int → Int) (rf : Int → Int) (lk_ : Int → Int) (sh : Int → Int) (pi : Int → Int) (th : Int → Int) (fl : Int → Int) (so_ : Int → Int) (fr : Int → Int) (le : Int → Int) (lg : Int → Int) (bg : Int → Int) (w : Int) (v : Int) (hA : okA A) (hw : -2147483648 ≤ w ∧ w < 2147483648) (hv : -2147483648 ≤ v ∧ v < 2147483648) : GM l D cI cZ yX9_put cX9_put 6 (some .int) ({ frames := 1, cells := 0, slots := 0, locals := 22 }) 0 0 false [.ref q, gi w, gi v] [oM q a al at_ st so va fa pl sg su, gA cI (a 0) 1140 A, gA cZ (a 1) 2 kp, gA cI (a 2) 3 rf, gA cI (a 3) 6 lk_, gA cI (a 5) 60 sh, gA cI (a 12) 8 pi, gA cI (a 13) 8 th, gA cI (a 14) 8 fl, gA cI (a 15) 8 so_, gA cI (a 16) 8 fr, gA cI (a 17) 2048 le, gA cI (a 18) 41 lg, gA cI (a 19) 112 bg] (gPxi (fun xo : Unit => (o_put A w v).1) (fun xo : Unit => [oM q a al at_ st so va fa pl sg su, gA cI (a 0) 1140 ((o_put A w v).2.2), gA cZ (a 1) 2 kp, gA cI (a 2) 3 (bump ((o_put A w v).2.1) rf), gA cI (a 3) 6 lk_, gA cI (a 5) 60 sh, gA cI (a 12) 8 pi, gA cI (a 13) 8 th, gA cI (a 14) 8 fl, gA cI (a 15) 8 so_, gA cI (a 16) 8 fr, gA cI (a 17) 2048 le, gA cI (a 18) 41 lg, gA cI (a 19) 112 bg]) (fun xo : Unit => True)) := by
  refine g_enterI (z := false) (lv0 := [(0, .ref q), (1, gi w), (2, gi v)]) _ rfl (by decide) rfl rfl (fun V X ret => ?_)
  have hA1 := okA_1 hA
  have hA0 := okA_0 hA
  have hpu := okA_pu hA
  refine g_iload_n (pc := 0) X dX9_put_0 1 rfl ?_
  refine g_iconst (pc := 1) X dX9_put_1 ?_
  refine g_icmpeq (pc := 2) X 10 dX9_put_2 (by decide) (by omega) (by omega) (fun h2 => ?_) (fun h2 => ?_)
  · refine g_iconst (pc := 10) X dX9_put_10 ?_
    refine g_goto (pc := 11) X 15 dX9_put_11 (by decide) ?_
    refine g_istore_n (pc := 15) X (lv' := [(0, .ref q), (1, gi w), (2, gi v), (3, gi 1)]) dX9_put_15 rfl rfl ?_
    refine g_iload_n (pc := 16) X dX9_put_16 1 rfl ?_
    refine g_ifne (pc := 17) X 26 dX9_put_17 (by decide) (by omega) (fun h17 => ?_) (fun h17 => ?_)
    · refine g_iload_n (pc := 26) X dX9_put_26 1 rfl ?_
      refine g_iconst (pc := 27) X dX9_put_27 ?_
      refine g_icmpge (pc := 28) X 36 dX9_put_28 (by decide) (by omega) (by omega) (fun h28 => ?_) (fun h28 => ?_)
      · refine g_bipush (pc := 36) X dX9_put_36 (by decide +kernel) ?_
        refine g_istore (pc := 38) X (lv' := [(0, .ref q), (1, gi w), (2, gi v), (3, gi 1), (4, gi 99)]) dX9_put_38 rfl rfl ?_
        refine g_iload_n (pc := 40) X dX9_put_40 1 rfl ?_
        refine g_iconst (pc := 41) X dX9_put_41 ?_
        refine g_iconst (pc := 42) X dX9_put_42 ?_
        refine gc_Si (pc := 43) X (c_X9_in l D cI cZ w 0 4 (by omega) (by omega) (by omega)) lm_X9_50 dX9_put_43 [] rfl rfl rfl rfl rfl rfl ?_
        refine g_ifeqB (pc := 46) X 59 dX9_put_46 (by decide) (fun h46 => ?_) (fun h46 => ?_)
        · refine g_aload_n (pc := 59) X dX9_put_59 0 rfl ?_
          refine g_bipush (pc := 60) X dX9_put_60 (by decide +kernel) ?_
          refine gc_Vxi (pc := 62) X (wr := [gA cI (a 0) 1140 A, gA cZ (a 1) 2 kp, gA cI (a 3) 6 lk_, gA cI (a 5) 60 sh, gA cI (a 12) 8 pi, gA cI (a 13) 8 th, gA cI (a 14) 8 fl, gA cI (a 15) 8 so_, gA cI (a 16) 8 fr, gA cI (a 17) 2048 le, gA cI (a 18) 41 lg, gA cI (a 19) 112 bg]) (c_X9_refuse l D cI cZ q a al at_ st so va fa pl sg su rf (-2) (by omega)) lm_X9_54 dX9_put_62 [0, 3] [1, 2, 4, 5, 6, 7, 8, 9, 10, 11, 12, 13] rfl rfl rfl rfl (by decide) rfl rfl rfl rfl rfl rfl (fun x62 hx62 => ?_)
          refine g_pick (cn := 0) (sl := 0) (st := gi (-2) :: []) X (ws' := [oM q a al at_ st so va fa pl sg su, gA cI (a 0) 1140 A, gA cZ (a 1) 2 kp, gA cI (a 2) 3 (gupd rf (-2 - (-2)) (rf (-2 - (-2)) + 1)), gA cI (a 3) 6 lk_, gA cI (a 5) 60 sh, gA cI (a 12) 8 pi, gA cI (a 13) 8 th, gA cI (a 14) 8 fl, gA cI (a 15) 8 so_, gA cI (a 16) 8 fr, gA cI (a 17) 2048 le, gA cI (a 18) 41 lg, gA cI (a 19) 112 bg]) [12, 0, 1, 13, 2, 3, 4, 5, 6, 7, 8, 9, 10, 11] rfl rfl ?_
          exact ret _ _ _ _ _ _ dX9_put_65 rfl rfl (fun h => by cases h) (gPxi_e () (by rw [(show o_put A w v = (-2, 0, A) from (by unfold o_put putLo putHi; rw [if_neg (by (repeat' split) <;> omega)]))]) (by rw [(show o_put A w v = (-2, 0, A) from (by unfold o_put putLo putHi; rw [if_neg (by (repeat' split) <;> omega)]))]; rfl) trivial)
        · refine g_iload_n (pc := 49) X dX9_put_49 2 rfl ?_
          refine g_iload_n (pc := 50) X dX9_put_50 3 rfl ?_
          refine g_iload (pc := 51) X dX9_put_51 4 rfl ?_
          refine gc_Si (pc := 53) X (c_X9_in l D cI cZ v 1 99 (by omega) (by omega) (by omega)) lm_X9_50 dX9_put_53 [] rfl rfl rfl rfl rfl rfl ?_
          refine g_ifneB (pc := 56) X 66 dX9_put_56 (by decide) (fun h56 => ?_) (fun h56 => ?_)
          · refine g_aload_n (pc := 66) X dX9_put_66 0 rfl ?_
            refine g_get (pc := 67) X fl_X9_7 dX9_put_67 0 (v := .ref (a 0)) rfl rfl ?_
            refine g_bipush (pc := 70) X dX9_put_70 (by decide +kernel) ?_
            refine g_iload_n (pc := 72) X dX9_put_72 1 rfl ?_
            refine g_iadd (pc := 73) X dX9_put_73 ?_
            refine g_iald (pc := 74) X dX9_put_74 1 rfl (by omega) rfl ?_
            refine g_istore (pc := 75) X (lv' := [(0, .ref q), (1, gi w), (2, gi v), (3, gi 1), (4, gi 99), (5, gi (A (127 + w)))]) dX9_put_75 rfl rfl ?_
            refine g_aload_n (pc := 77) X dX9_put_77 0 rfl ?_
            refine g_get (pc := 78) X fl_X9_7 dX9_put_78 0 (v := .ref (a 0)) rfl rfl ?_
            refine g_bipush (pc := 81) X dX9_put_81 (by decide +kernel) ?_
            refine g_iload_n (pc := 83) X dX9_put_83 1 rfl ?_
            refine g_iadd (pc := 84) X dX9_put_84 ?_
            refine g_iload_n (pc := 85) X dX9_put_85 2 rfl ?_
            refine g_iast (pc := 86) X (ws' := [oM q a al at_ st so va fa pl sg su, gA cI (a 0) 1140 (gupd A (127 + w) v), gA cZ (a 1) 2 kp, gA cI (a 2) 3 rf, gA cI (a 3) 6 lk_, gA cI (a 5) 60 sh, gA cI (a 12) 8 pi, gA cI (a 13) 8 th, gA cI (a 14) 8 fl, gA cI (a 15) 8 so_, gA cI (a 16) 8 fr, gA cI (a 17) 2048 le, gA cI (a 18) 41 lg, gA cI (a 19) 112 bg]) dX9_put_86 1 rfl (by omega) rfl rfl ?_
            refine g_iload (pc := 87) X dX9_put_87 5 rfl ?_
            exact ret _ _ _ _ _ _ dX9_put_89 rfl rfl (fun h => by cases h) (gPxi_e () (by rw [(show o_put A w v = (A (127 + w), -1, gupd A (127 + w) v) from (by unfold o_put putLo putHi; rw [if_pos (by (repeat' split) <;> omega)]))]) (by rw [(show o_put A w v = (A (127 + w), -1, gupd A (127 + w) v) from (by unfold o_put putLo putHi; rw [if_pos (by (repeat' split) <;> omega)]))]; rfl) trivial)
          · refine g_aload_n (pc := 59) X dX9_put_59 0 rfl ?_
            refine g_bipush (pc := 60) X dX9_put_60 (by decide +kernel) ?_
            refine gc_Vxi (pc := 62) X (wr := [gA cI (a 0) 1140 A, gA cZ (a 1) 2 kp, gA cI (a 3) 6 lk_, gA cI (a 5) 60 sh, gA cI (a 12) 8 pi, gA cI (a 13) 8 th, gA cI (a 14) 8 fl, gA cI (a 15) 8 so_, gA cI (a 16) 8 fr, gA cI (a 17) 2048 le, gA cI (a 18) 41 lg, gA cI (a 19) 112 bg]) (c_X9_refuse l D cI cZ q a al at_ st so va fa pl sg su rf (-2) (by omega)) lm_X9_54 dX9_put_62 [0, 3] [1, 2, 4, 5, 6, 7, 8, 9, 10, 11, 12, 13] rfl rfl rfl rfl (by decide) rfl rfl rfl rfl rfl rfl (fun x62 hx62 => ?_)
            refine g_pick (cn := 0) (sl := 0) (st := gi (-2) :: []) X (ws' := [oM q a al at_ st so va fa pl sg su, gA cI (a 0) 1140 A, gA cZ (a 1) 2 kp, gA cI (a 2) 3 (gupd rf (-2 - (-2)) (rf (-2 - (-2)) + 1)), gA cI (a 3) 6 lk_, gA cI (a 5) 60 sh, gA cI (a 12) 8 pi, gA cI (a 13) 8 th, gA cI (a 14) 8 fl, gA cI (a 15) 8 so_, gA cI (a 16) 8 fr, gA cI (a 17) 2048 le, gA cI (a 18) 41 lg, gA cI (a 19) 112 bg]) [12, 0, 1, 13, 2, 3, 4, 5, 6, 7, 8, 9, 10, 11] rfl rfl ?_
            exact ret _ _ _ _ _ _ dX9_put_65 rfl rfl (fun h => by cases h) (gPxi_e () (by rw [(show o_put A w v = (-2, 0, A) from (by unfold o_put putLo putHi; rw [if_neg (by (repeat' split) <;> omega)]))]) (by rw [(show o_put A w v = (-2, 0, A) from (by unfold o_put putLo putHi; rw [if_neg (by (repeat' split) <;> omega)]))]; rfl) trivial)
      · refine g_bipush (pc := 31) X dX9_put_31 (by decide +kernel) ?_
        refine g_goto (pc := 33) X 38 dX9_put_33 (by decide) ?_
        refine g_istore (pc := 38) X (lv' := [(0, .ref q), (1, gi w), (2, gi v), (3, gi 1), (4, gi 9)]) dX9_put_38 rfl rfl ?_
        refine g_iload_n (pc := 40) X dX9_put_40 1 rfl ?_
        refine g_iconst (pc := 41) X dX9_put_41 ?_
        refine g_iconst (pc := 42) X dX9_put_42 ?_
        refine gc_Si (pc := 43) X (c_X9_in l D cI cZ w 0 4 (by omega) (by omega) (by omega)) lm_X9_50 dX9_put_43 [] rfl rfl rfl rfl rfl rfl ?_
        refine g_ifeqB (pc := 46) X 59 dX9_put_46 (by decide) (fun h46 => ?_) (fun h46 => ?_)
        · refine g_aload_n (pc := 59) X dX9_put_59 0 rfl ?_
          refine g_bipush (pc := 60) X dX9_put_60 (by decide +kernel) ?_
          refine gc_Vxi (pc := 62) X (wr := [gA cI (a 0) 1140 A, gA cZ (a 1) 2 kp, gA cI (a 3) 6 lk_, gA cI (a 5) 60 sh, gA cI (a 12) 8 pi, gA cI (a 13) 8 th, gA cI (a 14) 8 fl, gA cI (a 15) 8 so_, gA cI (a 16) 8 fr, gA cI (a 17) 2048 le, gA cI (a 18) 41 lg, gA cI (a 19) 112 bg]) (c_X9_refuse l D cI cZ q a al at_ st so va fa pl sg su rf (-2) (by omega)) lm_X9_54 dX9_put_62 [0, 3] [1, 2, 4, 5, 6, 7, 8, 9, 10, 11, 12, 13] rfl rfl rfl rfl (by decide) rfl rfl rfl rfl rfl rfl (fun x62 hx62 => ?_)
          refine g_pick (cn := 0) (sl := 0) (st := gi (-2) :: []) X (ws' := [oM q a al at_ st so va fa pl sg su, gA cI (a 0) 1140 A, gA cZ (a 1) 2 kp, gA cI (a 2) 3 (gupd rf (-2 - (-2)) (rf (-2 - (-2)) + 1)), gA cI (a 3) 6 lk_, gA cI (a 5) 60 sh, gA cI (a 12) 8 pi, gA cI (a 13) 8 th, gA cI (a 14) 8 fl, gA cI (a 15) 8 so_, gA cI (a 16) 8 fr, gA cI (a 17) 2048 le, gA cI (a 18) 41 lg, gA cI (a 19) 112 bg]) [12, 0, 1, 13, 2, 3, 4, 5, 6, 7, 8, 9, 10, 11] rfl rfl ?_
          exact ret _ _ _ _ _ _ dX9_put_65 rfl rfl (fun h => by cases h) (gPxi_e () (by rw [(show o_put A w v = (-2, 0, A) from (by unfold o_put putLo putHi; rw [if_neg (by (repeat' split) <;> omega)]))]) (by rw [(show o_put A w v = (-2, 0, A) from (by unfold o_put putLo putHi; rw [if_neg (by (repeat' split) <;> omega)]))]; rfl) trivial)
        · refine g_iload_n (pc := 49) X dX9_put_49 2 rfl ?_
          refine g_iload_n (pc := 50) X dX9_put_50 3 rfl ?_
          refine g_iload (pc := 51) X dX9_put_51 4 rfl ?_
          refine gc_Si (pc := 53) X (c_X9_in l D cI cZ v 1 9 (by omega) (by omega) (by omega)) lm_X9_50 dX9_put_53 [] rfl rfl rfl rfl rfl rfl ?_
          refine g_ifneB (pc := 56) X 66 dX9_put_56 (by decide) (fun h56 => ?_) (fun h56 => ?_)
          · refine g_aload_n (pc := 66) X dX9_put_66 0 rfl ?_
            refine g_get (pc := 67) X fl_X9_7 dX9_put_67 0 (v := .ref (a 0)) rfl rfl ?_
            refine g_bipush (pc := 70) X dX9_put_70 (by decide +kernel) ?_
            refine g_iload_n (pc := 72) X dX9_put_72 1 rfl ?_
            refine g_iadd (pc := 73) X dX9_put_73 ?_
            refine g_iald (pc := 74) X dX9_put_74 1 rfl (by omega) rfl ?_
            refine g_istore (pc := 75) X (lv' := [(0, .ref q), (1, gi w), (2, gi v), (3, gi 1), (4, gi 9), (5, gi (A (127 + w)))]) dX9_put_75 rfl rfl ?_
            refine g_aload_n (pc := 77) X dX9_put_77 0 rfl ?_
            refine g_get (pc := 78) X fl_X9_7 dX9_put_78 0 (v := .ref (a 0)) rfl rfl ?_
            refine g_bipush (pc := 81) X dX9_put_81 (by decide +kernel) ?_
            refine g_iload_n (pc := 83) X dX9_put_83 1 rfl ?_
            refine g_iadd (pc := 84) X dX9_put_84 ?_
            refine g_iload_n (pc := 85) X dX9_put_85 2 rfl ?_
            refine g_iast (pc := 86) X (ws' := [oM q a al at_ st so va fa pl sg su, gA cI (a 0) 1140 (gupd A (127 + w) v), gA cZ (a 1) 2 kp, gA cI (a 2) 3 rf, gA cI (a 3) 6 lk_, gA cI (a 5) 60 sh, gA cI (a 12) 8 pi, gA cI (a 13) 8 th, gA cI (a 14) 8 fl, gA cI (a 15) 8 so_, gA cI (a 16) 8 fr, gA cI (a 17) 2048 le, gA cI (a 18) 41 lg, gA cI (a 19) 112 bg]) dX9_put_86 1 rfl (by omega) rfl rfl ?_
            refine g_iload (pc := 87) X dX9_put_87 5 rfl ?_
            exact ret _ _ _ _ _ _ dX9_put_89 rfl rfl (fun h => by cases h) (gPxi_e () (by rw [(show o_put A w v = (A (127 + w), -1, gupd A (127 + w) v) from (by unfold o_put putLo putHi; rw [if_pos (by (repeat' split) <;> omega)]))]) (by rw [(show o_put A w v = (A (127 + w), -1, gupd A (127 + w) v) from (by unfold o_put putLo putHi; rw [if_pos (by (repeat' split) <;> omega)]))]; rfl) trivial)
          · refine g_aload_n (pc := 59) X dX9_put_59 0 rfl ?_
            refine g_bipush (pc := 60) X dX9_put_60 (by decide +kernel) ?_
            refine gc_Vxi (pc := 62) X (wr := [gA cI (a 0) 1140 A, gA cZ (a 1) 2 kp, gA cI (a 3) 6 lk_, gA cI (a 5) 60 sh, gA cI (a 12) 8 pi, gA cI (a 13) 8 th, gA cI (a 14) 8 fl, gA cI (a 15) 8 so_, gA cI (a 16) 8 fr, gA cI (a 17) 2048 le, gA cI (a 18) 41 lg, gA cI (a 19) 112 bg]) (c_X9_refuse l D cI cZ q a al at_ st so va fa pl sg su rf (-2) (by omega)) lm_X9_54 dX9_put_62 [0, 3] [1, 2, 4, 5, 6, 7, 8, 9, 10, 11, 12, 13] rfl rfl rfl rfl (by decide) rfl rfl rfl rfl rfl rfl (fun x62 hx62 => ?_)
            refine g_pick (cn := 0) (sl := 0) (st := gi (-2) :: []) X (ws' := [oM q a al at_ st so va fa pl sg su, gA cI (a 0) 1140 A, gA cZ (a 1) 2 kp, gA cI (a 2) 3 (gupd rf (-2 - (-2)) (rf (-2 - (-2)) + 1)), gA cI (a 3) 6 lk_, gA cI (a 5) 60 sh, gA cI (a 12) 8 pi, gA cI (a 13) 8 th, gA cI (a 14) 8 fl, gA cI (a 15) 8 so_, gA cI (a 16) 8 fr, gA cI (a 17) 2048 le, gA cI (a 18) 41 lg, gA cI (a 19) 112 bg]) [12, 0, 1, 13, 2, 3, 4, 5, 6, 7, 8, 9, 10, 11] rfl rfl ?_
            exact ret _ _ _ _ _ _ dX9_put_65 rfl rfl (fun h => by cases h) (gPxi_e () (by rw [(show o_put A w v = (-2, 0, A) from (by unfold o_put putLo putHi; rw [if_neg (by (repeat' split) <;> omega)]))]) (by rw [(show o_put A w v = (-2, 0, A) from (by unfold o_put putLo putHi; rw [if_neg (by (repeat' split) <;> omega)]))]; rfl) trivial)
    · refine g_sipush (pc := 20) X dX9_put_20 (by decide +kernel) ?_
      refine g_goto (pc := 23) X 38 dX9_put_23 (by decide) ?_
      refine g_istore (pc := 38) X (lv' := [(0, .ref q), (1, gi w), (2, gi v), (3, gi 1), (4, gi 2000)]) dX9_put_38 rfl rfl ?_
      refine g_iload_n (pc := 40) X dX9_put_40 1 rfl ?_
      refine g_iconst (pc := 41) X dX9_put_41 ?_
      refine g_iconst (pc := 42) X dX9_put_42 ?_
      refine gc_Si (pc := 43) X (c_X9_in l D cI cZ w 0 4 (by omega) (by omega) (by omega)) lm_X9_50 dX9_put_43 [] rfl rfl rfl rfl rfl rfl ?_
      refine g_ifeqB (pc := 46) X 59 dX9_put_46 (by decide) (fun h46 => ?_) (fun h46 => ?_)
      · refine g_aload_n (pc := 59) X dX9_put_59 0 rfl ?_
        refine g_bipush (pc := 60) X dX9_put_60 (by decide +kernel) ?_
        refine gc_Vxi (pc := 62) X (wr := [gA cI (a 0) 1140 A, gA cZ (a 1) 2 kp, gA cI (a 3) 6 lk_, gA cI (a 5) 60 sh, gA cI (a 12) 8 pi, gA cI (a 13) 8 th, gA cI (a 14) 8 fl, gA cI (a 15) 8 so_, gA cI (a 16) 8 fr, gA cI (a 17) 2048 le, gA cI (a 18) 41 lg, gA cI (a 19) 112 bg]) (c_X9_refuse l D cI cZ q a al at_ st so va fa pl sg su rf (-2) (by omega)) lm_X9_54 dX9_put_62 [0, 3] [1, 2, 4, 5, 6, 7, 8, 9, 10, 11, 12, 13] rfl rfl rfl rfl (by decide) rfl rfl rfl rfl rfl rfl (fun x62 hx62 => ?_)
        refine g_pick (cn := 0) (sl := 0) (st := gi (-2) :: []) X (ws' := [oM q a al at_ st so va fa pl sg su, gA cI (a 0) 1140 A, gA cZ (a 1) 2 kp, gA cI (a 2) 3 (gupd rf (-2 - (-2)) (rf (-2 - (-2)) + 1)), gA cI (a 3) 6 lk_, gA cI (a 5) 60 sh, gA cI (a 12) 8 pi, gA cI (a 13) 8 th, gA cI (a 14) 8 fl, gA cI (a 15) 8 so_, gA cI (a 16) 8 fr, gA cI (a 17) 2048 le, gA cI (a 18) 41 lg, gA cI (a 19) 112 bg]) [12, 0, 1, 13, 2, 3, 4, 5, 6, 7, 8, 9, 10, 11] rfl rfl ?_
        exact ret _ _ _ _ _ _ dX9_put_65 rfl rfl (fun h => by cases h) (gPxi_e () (by rw [(show o_put A w v = (-2, 0, A) from (by unfold o_put putLo putHi; rw [if_neg (by (repeat' split) <;> omega)]))]) (by rw [(show o_put A w v = (-2, 0, A) from (by unfold o_put putLo putHi; rw [if_neg (by (repeat' split) <;> omega)]))]; rfl) trivial)
      · refine g_iload_n (pc := 49) X dX9_put_49 2 rfl ?_
        refine g_iload_n (pc := 50) X dX9_put_50 3 rfl ?_
        refine g_iload (pc := 51) X dX9_put_51 4 rfl ?_
        refine gc_Si (pc := 53) X (c_X9_in l D cI cZ v 1 2000 (by omega) (by omega) (by omega)) lm_X9_50 dX9_put_53 [] rfl rfl rfl rfl rfl rfl ?_
        refine g_ifneB (pc := 56) X 66 dX9_put_56 (by decide) (fun h56 => ?_) (fun h56 => ?_)
        · refine g_aload_n (pc := 66) X dX9_put_66 0 rfl ?_
          refine g_get (pc := 67) X fl_X9_7 dX9_put_67 0 (v := .ref (a 0)) rfl rfl ?_
          refine g_bipush (pc := 70) X dX9_put_70 (by decide +kernel) ?_
          refine g_iload_n (pc := 72) X dX9_put_72 1 rfl ?_
          refine g_iadd (pc := 73) X dX9_put_73 ?_
          refine g_iald (pc := 74) X dX9_put_74 1 rfl (by omega) rfl ?_
          refine g_istore (pc := 75) X (lv' := [(0, .ref q), (1, gi w), (2, gi v), (3, gi 1), (4, gi 2000), (5, gi (A (127 + w)))]) dX9_put_75 rfl rfl ?_
          refine g_aload_n (pc := 77) X dX9_put_77 0 rfl ?_
          refine g_get (pc := 78) X fl_X9_7 dX9_put_78 0 (v := .ref (a 0)) rfl rfl ?_
          refine g_bipush (pc := 81) X dX9_put_81 (by decide +kernel) ?_
          refine g_iload_n (pc := 83) X dX9_put_83 1 rfl ?_
          refine g_iadd (pc := 84) X dX9_put_84 ?_
          refine g_iload_n (pc := 85) X dX9_put_85 2 rfl ?_
          refine g_iast (pc := 86) X (ws' := [oM q a al at_ st so va fa pl sg su, gA cI (a 0) 1140 (gupd A (127 + w) v), gA cZ (a 1) 2 kp, gA cI (a 2) 3 rf, gA cI (a 3) 6 lk_, gA cI (a 5) 60 sh, gA cI (a 12) 8 pi, gA cI (a 13) 8 th, gA cI (a 14) 8 fl, gA cI (a 15) 8 so_, gA cI (a 16) 8 fr, gA cI (a 17) 2048 le, gA cI (a 18) 41 lg, gA cI (a 19) 112 bg]) dX9_put_86 1 rfl (by omega) rfl rfl ?_
          refine g_iload (pc := 87) X dX9_put_87 5 rfl ?_
          exact ret _ _ _ _ _ _ dX9_put_89 rfl rfl (fun h => by cases h) (gPxi_e () (by rw [(show o_put A w v = (A (127 + w), -1, gupd A (127 + w) v) from (by unfold o_put putLo putHi; rw [if_pos (by (repeat' split) <;> omega)]))]) (by rw [(show o_put A w v = (A (127 + w), -1, gupd A (127 + w) v) from (by unfold o_put putLo putHi; rw [if_pos (by (repeat' split) <;> omega)]))]; rfl) trivial)
        · refine g_aload_n (pc := 59) X dX9_put_59 0 rfl ?_
          refine g_bipush (pc := 60) X dX9_put_60 (by decide +kernel) ?_
          refine gc_Vxi (pc := 62) X (wr := [gA cI (a 0) 1140 A, gA cZ (a 1) 2 kp, gA cI (a 3) 6 lk_, gA cI (a 5) 60 sh, gA cI (a 12) 8 pi, gA cI (a 13) 8 th, gA cI (a 14) 8 fl, gA cI (a 15) 8 so_, gA cI (a 16) 8 fr, gA cI (a 17) 2048 le, gA cI (a 18) 41 lg, gA cI (a 19) 112 bg]) (c_X9_refuse l D cI cZ q a al at_ st so va fa pl sg su rf (-2) (by omega)) lm_X9_54 dX9_put_62 [0, 3] [1, 2, 4, 5, 6, 7, 8, 9, 10, 11, 12, 13] rfl rfl rfl rfl (by decide) rfl rfl rfl rfl rfl rfl (fun x62 hx62 => ?_)
          refine g_pick (cn := 0) (sl := 0) (st := gi (-2) :: []) X (ws' := [oM q a al at_ st so va fa pl sg su, gA cI (a 0) 1140 A, gA cZ (a 1) 2 kp, gA cI (a 2) 3 (gupd rf (-2 - (-2)) (rf (-2 - (-2)) + 1)), gA cI (a 3) 6 lk_, gA cI (a 5) 60 sh, gA cI (a 12) 8 pi, gA cI (a 13) 8 th, gA cI (a 14) 8 fl, gA cI (a 15) 8 so_, gA cI (a 16) 8 fr, gA cI (a 17) 2048 le, gA cI (a 18) 41 lg, gA cI (a 19) 112 bg]) [12, 0, 1, 13, 2, 3, 4, 5, 6, 7, 8, 9, 10, 11] rfl rfl ?_
          exact ret _ _ _ _ _ _ dX9_put_65 rfl rfl (fun h => by cases h) (gPxi_e () (by rw [(show o_put A w v = (-2, 0, A) from (by unfold o_put putLo putHi; rw [if_neg (by (repeat' split) <;> omega)]))]) (by rw [(show o_put A w v = (-2, 0, A) from (by unfold o_put putLo putHi; rw [if_neg (by (repeat' split) <;> omega)]))]; rfl) trivial)
  · refine g_iload_n (pc := 5) X dX9_put_5 1 rfl ?_
    refine g_iconst (pc := 6) X dX9_put_6 ?_
    refine g_icmpne (pc := 7) X 14 dX9_put_7 (by decide) (by omega) (by omega) (fun h7 => ?_) (fun h7 => ?_)
    · refine g_iconst (pc := 14) X dX9_put_14 ?_
      refine g_istore_n (pc := 15) X (lv' := [(0, .ref q), (1, gi w), (2, gi v), (3, gi 0)]) dX9_put_15 rfl rfl ?_
      refine g_iload_n (pc := 16) X dX9_put_16 1 rfl ?_
      refine g_ifne (pc := 17) X 26 dX9_put_17 (by decide) (by omega) (fun h17 => ?_) (fun h17 => ?_)
      · refine g_iload_n (pc := 26) X dX9_put_26 1 rfl ?_
        refine g_iconst (pc := 27) X dX9_put_27 ?_
        refine g_icmpge (pc := 28) X 36 dX9_put_28 (by decide) (by omega) (by omega) (fun h28 => ?_) (fun h28 => ?_)
        · refine g_bipush (pc := 36) X dX9_put_36 (by decide +kernel) ?_
          refine g_istore (pc := 38) X (lv' := [(0, .ref q), (1, gi w), (2, gi v), (3, gi 0), (4, gi 99)]) dX9_put_38 rfl rfl ?_
          refine g_iload_n (pc := 40) X dX9_put_40 1 rfl ?_
          refine g_iconst (pc := 41) X dX9_put_41 ?_
          refine g_iconst (pc := 42) X dX9_put_42 ?_
          refine gc_Si (pc := 43) X (c_X9_in l D cI cZ w 0 4 (by omega) (by omega) (by omega)) lm_X9_50 dX9_put_43 [] rfl rfl rfl rfl rfl rfl ?_
          refine g_ifeqB (pc := 46) X 59 dX9_put_46 (by decide) (fun h46 => ?_) (fun h46 => ?_)
          · refine g_aload_n (pc := 59) X dX9_put_59 0 rfl ?_
            refine g_bipush (pc := 60) X dX9_put_60 (by decide +kernel) ?_
            refine gc_Vxi (pc := 62) X (wr := [gA cI (a 0) 1140 A, gA cZ (a 1) 2 kp, gA cI (a 3) 6 lk_, gA cI (a 5) 60 sh, gA cI (a 12) 8 pi, gA cI (a 13) 8 th, gA cI (a 14) 8 fl, gA cI (a 15) 8 so_, gA cI (a 16) 8 fr, gA cI (a 17) 2048 le, gA cI (a 18) 41 lg, gA cI (a 19) 112 bg]) (c_X9_refuse l D cI cZ q a al at_ st so va fa pl sg su rf (-2) (by omega)) lm_X9_54 dX9_put_62 [0, 3] [1, 2, 4, 5, 6, 7, 8, 9, 10, 11, 12, 13] rfl rfl rfl rfl (by decide) rfl rfl rfl rfl rfl rfl (fun x62 hx62 => ?_)
            refine g_pick (cn := 0) (sl := 0) (st := gi (-2) :: []) X (ws' := [oM q a al at_ st so va fa pl sg su, gA cI (a 0) 1140 A, gA cZ (a 1) 2 kp, gA cI (a 2) 3 (gupd rf (-2 - (-2)) (rf (-2 - (-2)) + 1)), gA cI (a 3) 6 lk_, gA cI (a 5) 60 sh, gA cI (a 12) 8 pi, gA cI (a 13) 8 th, gA cI (a 14) 8 fl, gA cI (a 15) 8 so_, gA cI (a 16) 8 fr, gA cI (a 17) 2048 le, gA cI (a 18) 41 lg, gA cI (a 19) 112 bg]) [12, 0, 1, 13, 2, 3, 4, 5, 6, 7, 8, 9, 10, 11] rfl rfl ?_
            exact ret _ _ _ _ _ _ dX9_put_65 rfl rfl (fun h => by cases h) (gPxi_e () (by rw [(show o_put A w v = (-2, 0, A) from (by unfold o_put putLo putHi; rw [if_neg (by (repeat' split) <;> omega)]))]) (by rw [(show o_put A w v = (-2, 0, A) from (by unfold o_put putLo putHi; rw [if_neg (by (repeat' split) <;> omega)]))]; rfl) trivial)
          · refine g_iload_n (pc := 49) X dX9_put_49 2 rfl ?_
            refine g_iload_n (pc := 50) X dX9_put_50 3 rfl ?_
            refine g_iload (pc := 51) X dX9_put_51 4 rfl ?_
            refine gc_Si (pc := 53) X (c_X9_in l D cI cZ v 0 99 (by omega) (by omega) (by omega)) lm_X9_50 dX9_put_53 [] rfl rfl rfl rfl rfl rfl ?_
            refine g_ifneB (pc := 56) X 66 dX9_put_56 (by decide) (fun h56 => ?_) (fun h56 => ?_)
            · refine g_aload_n (pc := 66) X dX9_put_66 0 rfl ?_
              refine g_get (pc := 67) X fl_X9_7 dX9_put_67 0 (v := .ref (a 0)) rfl rfl ?_
              refine g_bipush (pc := 70) X dX9_put_70 (by decide +kernel) ?_
              refine g_iload_n (pc := 72) X dX9_put_72 1 rfl ?_
              refine g_iadd (pc := 73) X dX9_put_73 ?_
              refine g_iald (pc := 74) X dX9_put_74 1 rfl (by omega) rfl ?_
              refine g_istore (pc := 75) X (lv' := [(0, .ref q), (1, gi w), (2, gi v), (3, gi 0), (4, gi 99), (5, gi (A (127 + w)))]) dX9_put_75 rfl rfl ?_
              refine g_aload_n (pc := 77) X dX9_put_77 0 rfl ?_
              refine g_get (pc := 78) X fl_X9_7 dX9_put_78 0 (v := .ref (a 0)) rfl rfl ?_
              refine g_bipush (pc := 81) X dX9_put_81 (by decide +kernel) ?_
              refine g_iload_n (pc := 83) X dX9_put_83 1 rfl ?_
              refine g_iadd (pc := 84) X dX9_put_84 ?_
              refine g_iload_n (pc := 85) X dX9_put_85 2 rfl ?_
              refine g_iast (pc := 86) X (ws' := [oM q a al at_ st so va fa pl sg su, gA cI (a 0) 1140 (gupd A (127 + w) v), gA cZ (a 1) 2 kp, gA cI (a 2) 3 rf, gA cI (a 3) 6 lk_, gA cI (a 5) 60 sh, gA cI (a 12) 8 pi, gA cI (a 13) 8 th, gA cI (a 14) 8 fl, gA cI (a 15) 8 so_, gA cI (a 16) 8 fr, gA cI (a 17) 2048 le, gA cI (a 18) 41 lg, gA cI (a 19) 112 bg]) dX9_put_86 1 rfl (by omega) rfl rfl ?_
              refine g_iload (pc := 87) X dX9_put_87 5 rfl ?_
              exact ret _ _ _ _ _ _ dX9_put_89 rfl rfl (fun h => by cases h) (gPxi_e () (by rw [(show o_put A w v = (A (127 + w), -1, gupd A (127 + w) v) from (by unfold o_put putLo putHi; rw [if_pos (by (repeat' split) <;> omega)]))]) (by rw [(show o_put A w v = (A (127 + w), -1, gupd A (127 + w) v) from (by unfold o_put putLo putHi; rw [if_pos (by (repeat' split) <;> omega)]))]; rfl) trivial)
            · refine g_aload_n (pc := 59) X dX9_put_59 0 rfl ?_
              refine g_bipush (pc := 60) X dX9_put_60 (by decide +kernel) ?_
              refine gc_Vxi (pc := 62) X (wr := [gA cI (a 0) 1140 A, gA cZ (a 1) 2 kp, gA cI (a 3) 6 lk_, gA cI (a 5) 60 sh, gA cI (a 12) 8 pi, gA cI (a 13) 8 th, gA cI (a 14) 8 fl, gA cI (a 15) 8 so_, gA cI (a 16) 8 fr, gA cI (a 17) 2048 le, gA cI (a 18) 41 lg, gA cI (a 19) 112 bg]) (c_X9_refuse l D cI cZ q a al at_ st so va fa pl sg su rf (-2) (by omega)) lm_X9_54 dX9_put_62 [0, 3] [1, 2, 4, 5, 6, 7, 8, 9, 10, 11, 12, 13] rfl rfl rfl rfl (by decide) rfl rfl rfl rfl rfl rfl (fun x62 hx62 => ?_)
              refine g_pick (cn := 0) (sl := 0) (st := gi (-2) :: []) X (ws' := [oM q a al at_ st so va fa pl sg su, gA cI (a 0) 1140 A, gA cZ (a 1) 2 kp, gA cI (a 2) 3 (gupd rf (-2 - (-2)) (rf (-2 - (-2)) + 1)), gA cI (a 3) 6 lk_, gA cI (a 5) 60 sh, gA cI (a 12) 8 pi, gA cI (a 13) 8 th, gA cI (a 14) 8 fl, gA cI (a 15) 8 so_, gA cI (a 16) 8 fr, gA cI (a 17) 2048 le, gA cI (a 18) 41 lg, gA cI (a 19) 112 bg]) [12, 0, 1, 13, 2, 3, 4, 5, 6, 7, 8, 9, 10, 11] rfl rfl ?_
              exact ret _ _ _ _ _ _ dX9_put_65 rfl rfl (fun h => by cases h) (gPxi_e () (by rw [(show o_put A w v = (-2, 0, A) from (by unfold o_put putLo putHi; rw [if_neg (by (repeat' split) <;> omega)]))]) (by rw [(show o_put A w v = (-2, 0, A) from (by unfold o_put putLo putHi; rw [if_neg (by (repeat' split) <;> omega)]))]; rfl) trivial)
        · refine g_bipush (pc := 31) X dX9_put_31 (by decide +kernel) ?_
          refine g_goto (pc := 33) X 38 dX9_put_33 (by decide) ?_
          refine g_istore (pc := 38) X (lv' := [(0, .ref q), (1, gi w), (2, gi v), (3, gi 0), (4, gi 9)]) dX9_put_38 rfl rfl ?_
          refine g_iload_n (pc := 40) X dX9_put_40 1 rfl ?_
          refine g_iconst (pc := 41) X dX9_put_41 ?_
          refine g_iconst (pc := 42) X dX9_put_42 ?_
          refine gc_Si (pc := 43) X (c_X9_in l D cI cZ w 0 4 (by omega) (by omega) (by omega)) lm_X9_50 dX9_put_43 [] rfl rfl rfl rfl rfl rfl ?_
          refine g_ifeqB (pc := 46) X 59 dX9_put_46 (by decide) (fun h46 => ?_) (fun h46 => ?_)
          · refine g_aload_n (pc := 59) X dX9_put_59 0 rfl ?_
            refine g_bipush (pc := 60) X dX9_put_60 (by decide +kernel) ?_
            refine gc_Vxi (pc := 62) X (wr := [gA cI (a 0) 1140 A, gA cZ (a 1) 2 kp, gA cI (a 3) 6 lk_, gA cI (a 5) 60 sh, gA cI (a 12) 8 pi, gA cI (a 13) 8 th, gA cI (a 14) 8 fl, gA cI (a 15) 8 so_, gA cI (a 16) 8 fr, gA cI (a 17) 2048 le, gA cI (a 18) 41 lg, gA cI (a 19) 112 bg]) (c_X9_refuse l D cI cZ q a al at_ st so va fa pl sg su rf (-2) (by omega)) lm_X9_54 dX9_put_62 [0, 3] [1, 2, 4, 5, 6, 7, 8, 9, 10, 11, 12, 13] rfl rfl rfl rfl (by decide) rfl rfl rfl rfl rfl rfl (fun x62 hx62 => ?_)
            refine g_pick (cn := 0) (sl := 0) (st := gi (-2) :: []) X (ws' := [oM q a al at_ st so va fa pl sg su, gA cI (a 0) 1140 A, gA cZ (a 1) 2 kp, gA cI (a 2) 3 (gupd rf (-2 - (-2)) (rf (-2 - (-2)) + 1)), gA cI (a 3) 6 lk_, gA cI (a 5) 60 sh, gA cI (a 12) 8 pi, gA cI (a 13) 8 th, gA cI (a 14) 8 fl, gA cI (a 15) 8 so_, gA cI (a 16) 8 fr, gA cI (a 17) 2048 le, gA cI (a 18) 41 lg, gA cI (a 19) 112 bg]) [12, 0, 1, 13, 2, 3, 4, 5, 6, 7, 8, 9, 10, 11] rfl rfl ?_
            exact ret _ _ _ _ _ _ dX9_put_65 rfl rfl (fun h => by cases h) (gPxi_e () (by rw [(show o_put A w v = (-2, 0, A) from (by unfold o_put putLo putHi; rw [if_neg (by (repeat' split) <;> omega)]))]) (by rw [(show o_put A w v = (-2, 0, A) from (by unfold o_put putLo putHi; rw [if_neg (by (repeat' split) <;> omega)]))]; rfl) trivial)
          · refine g_iload_n (pc := 49) X dX9_put_49 2 rfl ?_
            refine g_iload_n (pc := 50) X dX9_put_50 3 rfl ?_
            refine g_iload (pc := 51) X dX9_put_51 4 rfl ?_
            refine gc_Si (pc := 53) X (c_X9_in l D cI cZ v 0 9 (by omega) (by omega) (by omega)) lm_X9_50 dX9_put_53 [] rfl rfl rfl rfl rfl rfl ?_
            refine g_ifneB (pc := 56) X 66 dX9_put_56 (by decide) (fun h56 => ?_) (fun h56 => ?_)
            · refine g_aload_n (pc := 66) X dX9_put_66 0 rfl ?_
              refine g_get (pc := 67) X fl_X9_7 dX9_put_67 0 (v := .ref (a 0)) rfl rfl ?_
              refine g_bipush (pc := 70) X dX9_put_70 (by decide +kernel) ?_
              refine g_iload_n (pc := 72) X dX9_put_72 1 rfl ?_
              refine g_iadd (pc := 73) X dX9_put_73 ?_
              refine g_iald (pc := 74) X dX9_put_74 1 rfl (by omega) rfl ?_
              refine g_istore (pc := 75) X (lv' := [(0, .ref q), (1, gi w), (2, gi v), (3, gi 0), (4, gi 9), (5, gi (A (127 + w)))]) dX9_put_75 rfl rfl ?_
              refine g_aload_n (pc := 77) X dX9_put_77 0 rfl ?_
              refine g_get (pc := 78) X fl_X9_7 dX9_put_78 0 (v := .ref (a 0)) rfl rfl ?_
              refine g_bipush (pc := 81) X dX9_put_81 (by decide +kernel) ?_
              refine g_iload_n (pc := 83) X dX9_put_83 1 rfl ?_
              refine g_iadd (pc := 84) X dX9_put_84 ?_
              refine g_iload_n (pc := 85) X dX9_put_85 2 rfl ?_
              refine g_iast (pc := 86) X (ws' := [oM q a al at_ st so va fa pl sg su, gA cI (a 0) 1140 (gupd A (127 + w) v), gA cZ (a 1) 2 kp, gA cI (a 2) 3 rf, gA cI (a 3) 6 lk_, gA cI (a 5) 60 sh, gA cI (a 12) 8 pi, gA cI (a 13) 8 th, gA cI (a 14) 8 fl, gA cI (a 15) 8 so_, gA cI (a 16) 8 fr, gA cI (a 17) 2048 le, gA cI (a 18) 41 lg, gA cI (a 19) 112 bg]) dX9_put_86 1 rfl (by omega) rfl rfl ?_
              refine g_iload (pc := 87) X dX9_put_87 5 rfl ?_
              exact ret _ _ _ _ _ _ dX9_put_89 rfl rfl (fun h => by cases h) (gPxi_e () (by rw [(show o_put A w v = (A (127 + w), -1, gupd A (127 + w) v) from (by unfold o_put putLo putHi; rw [if_pos (by (repeat' split) <;> omega)]))]) (by rw [(show o_put A w v = (A (127 + w), -1, gupd A (127 + w) v) from (by unfold o_put putLo putHi; rw [if_pos (by (repeat' split) <;> omega)]))]; rfl) trivial)
            · refine g_aload_n (pc := 59) X dX9_put_59 0 rfl ?_
              refine g_bipush (pc := 60) X dX9_put_60 (by decide +kernel) ?_
              refine gc_Vxi (pc := 62) X (wr := [gA cI (a 0) 1140 A, gA cZ (a 1) 2 kp, gA cI (a 3) 6 lk_, gA cI (a 5) 60 sh, gA cI (a 12) 8 pi, gA cI (a 13) 8 th, gA cI (a 14) 8 fl, gA cI (a 15) 8 so_, gA cI (a 16) 8 fr, gA cI (a 17) 2048 le, gA cI (a 18) 41 lg, gA cI (a 19) 112 bg]) (c_X9_refuse l D cI cZ q a al at_ st so va fa pl sg su rf (-2) (by omega)) lm_X9_54 dX9_put_62 [0, 3] [1, 2, 4, 5, 6, 7, 8, 9, 10, 11, 12, 13] rfl rfl rfl rfl (by decide) rfl rfl rfl rfl rfl rfl (fun x62 hx62 => ?_)
              refine g_pick (cn := 0) (sl := 0) (st := gi (-2) :: []) X (ws' := [oM q a al at_ st so va fa pl sg su, gA cI (a 0) 1140 A, gA cZ (a 1) 2 kp, gA cI (a 2) 3 (gupd rf (-2 - (-2)) (rf (-2 - (-2)) + 1)), gA cI (a 3) 6 lk_, gA cI (a 5) 60 sh, gA cI (a 12) 8 pi, gA cI (a 13) 8 th, gA cI (a 14) 8 fl, gA cI (a 15) 8 so_, gA cI (a 16) 8 fr, gA cI (a 17) 2048 le, gA cI (a 18) 41 lg, gA cI (a 19) 112 bg]) [12, 0, 1, 13, 2, 3, 4, 5, 6, 7, 8, 9, 10, 11] rfl rfl ?_
              exact ret _ _ _ _ _ _ dX9_put_65 rfl rfl (fun h => by cases h) (gPxi_e () (by rw [(show o_put A w v = (-2, 0, A) from (by unfold o_put putLo putHi; rw [if_neg (by (repeat' split) <;> omega)]))]) (by rw [(show o_put A w v = (-2, 0, A) from (by unfold o_put putLo putHi; rw [if_neg (by (repeat' split) <;> omega)]))]; rfl) trivial)
      · refine g_sipush (pc := 20) X dX9_put_20 (by decide +kernel) ?_
        refine g_goto (pc := 23) X 38 dX9_put_23 (by decide) ?_
        refine g_istore (pc := 38) X (lv' := [(0, .ref q), (1, gi w), (2, gi v), (3, gi 0), (4, gi 2000)]) dX9_put_38 rfl rfl ?_
        refine g_iload_n (pc := 40) X dX9_put_40 1 rfl ?_
        refine g_iconst (pc := 41) X dX9_put_41 ?_
        refine g_iconst (pc := 42) X dX9_put_42 ?_
        refine gc_Si (pc := 43) X (c_X9_in l D cI cZ w 0 4 (by omega) (by omega) (by omega)) lm_X9_50 dX9_put_43 [] rfl rfl rfl rfl rfl rfl ?_
        refine g_ifeqB (pc := 46) X 59 dX9_put_46 (by decide) (fun h46 => ?_) (fun h46 => ?_)
        · refine g_aload_n (pc := 59) X dX9_put_59 0 rfl ?_
          refine g_bipush (pc := 60) X dX9_put_60 (by decide +kernel) ?_
          refine gc_Vxi (pc := 62) X (wr := [gA cI (a 0) 1140 A, gA cZ (a 1) 2 kp, gA cI (a 3) 6 lk_, gA cI (a 5) 60 sh, gA cI (a 12) 8 pi, gA cI (a 13) 8 th, gA cI (a 14) 8 fl, gA cI (a 15) 8 so_, gA cI (a 16) 8 fr, gA cI (a 17) 2048 le, gA cI (a 18) 41 lg, gA cI (a 19) 112 bg]) (c_X9_refuse l D cI cZ q a al at_ st so va fa pl sg su rf (-2) (by omega)) lm_X9_54 dX9_put_62 [0, 3] [1, 2, 4, 5, 6, 7, 8, 9, 10, 11, 12, 13] rfl rfl rfl rfl (by decide) rfl rfl rfl rfl rfl rfl (fun x62 hx62 => ?_)
          refine g_pick (cn := 0) (sl := 0) (st := gi (-2) :: []) X (ws' := [oM q a al at_ st so va fa pl sg su, gA cI (a 0) 1140 A, gA cZ (a 1) 2 kp, gA cI (a 2) 3 (gupd rf (-2 - (-2)) (rf (-2 - (-2)) + 1)), gA cI (a 3) 6 lk_, gA cI (a 5) 60 sh, gA cI (a 12) 8 pi, gA cI (a 13) 8 th, gA cI (a 14) 8 fl, gA cI (a 15) 8 so_, gA cI (a 16) 8 fr, gA cI (a 17) 2048 le, gA cI (a 18) 41 lg, gA cI (a 19) 112 bg]) [12, 0, 1, 13, 2, 3, 4, 5, 6, 7, 8, 9, 10, 11] rfl rfl ?_
          exact ret _ _ _ _ _ _ dX9_put_65 rfl rfl (fun h => by cases h) (gPxi_e () (by rw [(show o_put A w v = (-2, 0, A) from (by unfold o_put putLo putHi; rw [if_neg (by (repeat' split) <;> omega)]))]) (by rw [(show o_put A w v = (-2, 0, A) from (by unfold o_put putLo putHi; rw [if_neg (by (repeat' split) <;> omega)]))]; rfl) trivial)
        · refine g_iload_n (pc := 49) X dX9_put_49 2 rfl ?_
          refine g_iload_n (pc := 50) X dX9_put_50 3 rfl ?_
          refine g_iload (pc := 51) X dX9_put_51 4 rfl ?_
          refine gc_Si (pc := 53) X (c_X9_in l D cI cZ v 0 2000 (by omega) (by omega) (by omega)) lm_X9_50 dX9_put_53 [] rfl rfl rfl rfl rfl rfl ?_
          refine g_ifneB (pc := 56) X 66 dX9_put_56 (by decide) (fun h56 => ?_) (fun h56 => ?_)
          · refine g_aload_n (pc := 66) X dX9_put_66 0 rfl ?_
            refine g_get (pc := 67) X fl_X9_7 dX9_put_67 0 (v := .ref (a 0)) rfl rfl ?_
            refine g_bipush (pc := 70) X dX9_put_70 (by decide +kernel) ?_
            refine g_iload_n (pc := 72) X dX9_put_72 1 rfl ?_
            refine g_iadd (pc := 73) X dX9_put_73 ?_
            refine g_iald (pc := 74) X dX9_put_74 1 rfl (by omega) rfl ?_
            refine g_istore (pc := 75) X (lv' := [(0, .ref q), (1, gi w), (2, gi v), (3, gi 0), (4, gi 2000), (5, gi (A (127 + w)))]) dX9_put_75 rfl rfl ?_
            refine g_aload_n (pc := 77) X dX9_put_77 0 rfl ?_
            refine g_get (pc := 78) X fl_X9_7 dX9_put_78 0 (v := .ref (a 0)) rfl rfl ?_
            refine g_bipush (pc := 81) X dX9_put_81 (by decide +kernel) ?_
            refine g_iload_n (pc := 83) X dX9_put_83 1 rfl ?_
            refine g_iadd (pc := 84) X dX9_put_84 ?_
            refine g_iload_n (pc := 85) X dX9_put_85 2 rfl ?_
            refine g_iast (pc := 86) X (ws' := [oM q a al at_ st so va fa pl sg su, gA cI (a 0) 1140 (gupd A (127 + w) v), gA cZ (a 1) 2 kp, gA cI (a 2) 3 rf, gA cI (a 3) 6 lk_, gA cI (a 5) 60 sh, gA cI (a 12) 8 pi, gA cI (a 13) 8 th, gA cI (a 14) 8 fl, gA cI (a 15) 8 so_, gA cI (a 16) 8 fr, gA cI (a 17) 2048 le, gA cI (a 18) 41 lg, gA cI (a 19) 112 bg]) dX9_put_86 1 rfl (by omega) rfl rfl ?_
            refine g_iload (pc := 87) X dX9_put_87 5 rfl ?_
            exact ret _ _ _ _ _ _ dX9_put_89 rfl rfl (fun h => by cases h) (gPxi_e () (by rw [(show o_put A w v = (A (127 + w), -1, gupd A (127 + w) v) from (by unfold o_put putLo putHi; rw [if_pos (by (repeat' split) <;> omega)]))]) (by rw [(show o_put A w v = (A (127 + w), -1, gupd A (127 + w) v) from (by unfold o_put putLo putHi; rw [if_pos (by (repeat' split) <;> omega)]))]; rfl) trivial)
          · refine g_aload_n (pc := 59) X dX9_put_59 0 rfl ?_
            refine g_bipush (pc := 60) X dX9_put_60 (by decide +kernel) ?_
            refine gc_Vxi (pc := 62) X (wr := [gA cI (a 0) 1140 A, gA cZ (a 1) 2 kp, gA cI (a 3) 6 lk_, gA cI (a 5) 60 sh, gA cI (a 12) 8 pi, gA cI (a 13) 8 th, gA cI (a 14) 8 fl, gA cI (a 15) 8 so_, gA cI (a 16) 8 fr, gA cI (a 17) 2048 le, gA cI (a 18) 41 lg, gA cI (a 19) 112 bg]) (c_X9_refuse l D cI cZ q a al at_ st so va fa pl sg su rf (-2) (by omega)) lm_X9_54 dX9_put_62 [0, 3] [1, 2, 4, 5, 6, 7, 8, 9, 10, 11, 12, 13] rfl rfl rfl rfl (by decide) rfl rfl rfl rfl rfl rfl (fun x62 hx62 => ?_)
            refine g_pick (cn := 0) (sl := 0) (st := gi (-2) :: []) X (ws' := [oM q a al at_ st so va fa pl sg su, gA cI (a 0) 1140 A, gA cZ (a 1) 2 kp, gA cI (a 2) 3 (gupd rf (-2 - (-2)) (rf (-2 - (-2)) + 1)), gA cI (a 3) 6 lk_, gA cI (a 5) 60 sh, gA cI (a 12) 8 pi, gA cI (a 13) 8 th, gA cI (a 14) 8 fl, gA cI (a 15) 8 so_, gA cI (a 16) 8 fr, gA cI (a 17) 2048 le, gA cI (a 18) 41 lg, gA cI (a 19) 112 bg]) [12, 0, 1, 13, 2, 3, 4, 5, 6, 7, 8, 9, 10, 11] rfl rfl ?_
            exact ret _ _ _ _ _ _ dX9_put_65 rfl rfl (fun h => by cases h) (gPxi_e () (by rw [(show o_put A w v = (-2, 0, A) from (by unfold o_put putLo putHi; rw [if_neg (by (repeat' split) <;> omega)]))]) (by rw [(show o_put A w v = (-2, 0, A) from (by unfold o_put putLo putHi; rw [if_neg (by (repeat' split) <;> omega)]))]; rfl) trivial)
    · refine g_iconst (pc := 10) X dX9_put_10 ?_
      refine g_goto (pc := 11) X 15 dX9_put_11 (by decide) ?_
      refine g_istore_n (pc := 15) X (lv' := [(0, .ref q), (1, gi w), (2, gi v), (3, gi 1)]) dX9_put_15 rfl rfl ?_
      refine g_iload_n (pc := 16) X dX9_put_16 1 rfl ?_
      refine g_ifne (pc := 17) X 26 dX9_put_17 (by decide) (by omega) (fun h17 => ?_) (fun h17 => ?_)
      · refine g_iload_n (pc := 26) X dX9_put_26 1 rfl ?_
        refine g_iconst (pc := 27) X dX9_put_27 ?_
        refine g_icmpge (pc := 28) X 36 dX9_put_28 (by decide) (by omega) (by omega) (fun h28 => ?_) (fun h28 => ?_)
        · refine g_bipush (pc := 36) X dX9_put_36 (by decide +kernel) ?_
          refine g_istore (pc := 38) X (lv' := [(0, .ref q), (1, gi w), (2, gi v), (3, gi 1), (4, gi 99)]) dX9_put_38 rfl rfl ?_
          refine g_iload_n (pc := 40) X dX9_put_40 1 rfl ?_
          refine g_iconst (pc := 41) X dX9_put_41 ?_
          refine g_iconst (pc := 42) X dX9_put_42 ?_
          refine gc_Si (pc := 43) X (c_X9_in l D cI cZ w 0 4 (by omega) (by omega) (by omega)) lm_X9_50 dX9_put_43 [] rfl rfl rfl rfl rfl rfl ?_
          refine g_ifeqB (pc := 46) X 59 dX9_put_46 (by decide) (fun h46 => ?_) (fun h46 => ?_)
          · refine g_aload_n (pc := 59) X dX9_put_59 0 rfl ?_
            refine g_bipush (pc := 60) X dX9_put_60 (by decide +kernel) ?_
            refine gc_Vxi (pc := 62) X (wr := [gA cI (a 0) 1140 A, gA cZ (a 1) 2 kp, gA cI (a 3) 6 lk_, gA cI (a 5) 60 sh, gA cI (a 12) 8 pi, gA cI (a 13) 8 th, gA cI (a 14) 8 fl, gA cI (a 15) 8 so_, gA cI (a 16) 8 fr, gA cI (a 17) 2048 le, gA cI (a 18) 41 lg, gA cI (a 19) 112 bg]) (c_X9_refuse l D cI cZ q a al at_ st so va fa pl sg su rf (-2) (by omega)) lm_X9_54 dX9_put_62 [0, 3] [1, 2, 4, 5, 6, 7, 8, 9, 10, 11, 12, 13] rfl rfl rfl rfl (by decide) rfl rfl rfl rfl rfl rfl (fun x62 hx62 => ?_)
            refine g_pick (cn := 0) (sl := 0) (st := gi (-2) :: []) X (ws' := [oM q a al at_ st so va fa pl sg su, gA cI (a 0) 1140 A, gA cZ (a 1) 2 kp, gA cI (a 2) 3 (gupd rf (-2 - (-2)) (rf (-2 - (-2)) + 1)), gA cI (a 3) 6 lk_, gA cI (a 5) 60 sh, gA cI (a 12) 8 pi, gA cI (a 13) 8 th, gA cI (a 14) 8 fl, gA cI (a 15) 8 so_, gA cI (a 16) 8 fr, gA cI (a 17) 2048 le, gA cI (a 18) 41 lg, gA cI (a 19) 112 bg]) [12, 0, 1, 13, 2, 3, 4, 5, 6, 7, 8, 9, 10, 11] rfl rfl ?_
            exact ret _ _ _ _ _ _ dX9_put_65 rfl rfl (fun h => by cases h) (gPxi_e () (by rw [(show o_put A w v = (-2, 0, A) from (by unfold o_put putLo putHi; rw [if_neg (by (repeat' split) <;> omega)]))]) (by rw [(show o_put A w v = (-2, 0, A) from (by unfold o_put putLo putHi; rw [if_neg (by (repeat' split) <;> omega)]))]; rfl) trivial)
          · refine g_iload_n (pc := 49) X dX9_put_49 2 rfl ?_
            refine g_iload_n (pc := 50) X dX9_put_50 3 rfl ?_
            refine g_iload (pc := 51) X dX9_put_51 4 rfl ?_
            refine gc_Si (pc := 53) X (c_X9_in l D cI cZ v 1 99 (by omega) (by omega) (by omega)) lm_X9_50 dX9_put_53 [] rfl rfl rfl rfl rfl rfl ?_
            refine g_ifneB (pc := 56) X 66 dX9_put_56 (by decide) (fun h56 => ?_) (fun h56 => ?_)
            · refine g_aload_n (pc := 66) X dX9_put_66 0 rfl ?_
              refine g_get (pc := 67) X fl_X9_7 dX9_put_67 0 (v := .ref (a 0)) rfl rfl ?_
              refine g_bipush (pc := 70) X dX9_put_70 (by decide +kernel) ?_
              refine g_iload_n (pc := 72) X dX9_put_72 1 rfl ?_
              refine g_iadd (pc := 73) X dX9_put_73 ?_
              refine g_iald (pc := 74) X dX9_put_74 1 rfl (by omega) rfl ?_
              refine g_istore (pc := 75) X (lv' := [(0, .ref q), (1, gi w), (2, gi v), (3, gi 1), (4, gi 99), (5, gi (A (127 + w)))]) dX9_put_75 rfl rfl ?_
              refine g_aload_n (pc := 77) X dX9_put_77 0 rfl ?_
              refine g_get (pc := 78) X fl_X9_7 dX9_put_78 0 (v := .ref (a 0)) rfl rfl ?_
              refine g_bipush (pc := 81) X dX9_put_81 (by decide +kernel) ?_
              refine g_iload_n (pc := 83) X dX9_put_83 1 rfl ?_
              refine g_iadd (pc := 84) X dX9_put_84 ?_
              refine g_iload_n (pc := 85) X dX9_put_85 2 rfl ?_
              refine g_iast (pc := 86) X (ws' := [oM q a al at_ st so va fa pl sg su, gA cI (a 0) 1140 (gupd A (127 + w) v), gA cZ (a 1) 2 kp, gA cI (a 2) 3 rf, gA cI (a 3) 6 lk_, gA cI (a 5) 60 sh, gA cI (a 12) 8 pi, gA cI (a 13) 8 th, gA cI (a 14) 8 fl, gA cI (a 15) 8 so_, gA cI (a 16) 8 fr, gA cI (a 17) 2048 le, gA cI (a 18) 41 lg, gA cI (a 19) 112 bg]) dX9_put_86 1 rfl (by omega) rfl rfl ?_
              refine g_iload (pc := 87) X dX9_put_87 5 rfl ?_
              exact ret _ _ _ _ _ _ dX9_put_89 rfl rfl (fun h => by cases h) (gPxi_e () (by rw [(show o_put A w v = (A (127 + w), -1, gupd A (127 + w) v) from (by unfold o_put putLo putHi; rw [if_pos (by (repeat' split) <;> omega)]))]) (by rw [(show o_put A w v = (A (127 + w), -1, gupd A (127 + w) v) from (by unfold o_put putLo putHi; rw [if_pos (by (repeat' split) <;> omega)]))]; rfl) trivial)
            · refine g_aload_n (pc := 59) X dX9_put_59 0 rfl ?_
              refine g_bipush (pc := 60) X dX9_put_60 (by decide +kernel) ?_
              refine gc_Vxi (pc := 62) X (wr := [gA cI (a 0) 1140 A, gA cZ (a 1) 2 kp, gA cI (a 3) 6 lk_, gA cI (a 5) 60 sh, gA cI (a 12) 8 pi, gA cI (a 13) 8 th, gA cI (a 14) 8 fl, gA cI (a 15) 8 so_, gA cI (a 16) 8 fr, gA cI (a 17) 2048 le, gA cI (a 18) 41 lg, gA cI (a 19) 112 bg]) (c_X9_refuse l D cI cZ q a al at_ st so va fa pl sg su rf (-2) (by omega)) lm_X9_54 dX9_put_62 [0, 3] [1, 2, 4, 5, 6, 7, 8, 9, 10, 11, 12, 13] rfl rfl rfl rfl (by decide) rfl rfl rfl rfl rfl rfl (fun x62 hx62 => ?_)
              refine g_pick (cn := 0) (sl := 0) (st := gi (-2) :: []) X (ws' := [oM q a al at_ st so va fa pl sg su, gA cI (a 0) 1140 A, gA cZ (a 1) 2 kp, gA cI (a 2) 3 (gupd rf (-2 - (-2)) (rf (-2 - (-2)) + 1)), gA cI (a 3) 6 lk_, gA cI (a 5) 60 sh, gA cI (a 12) 8 pi, gA cI (a 13) 8 th, gA cI (a 14) 8 fl, gA cI (a 15) 8 so_, gA cI (a 16) 8 fr, gA cI (a 17) 2048 le, gA cI (a 18) 41 lg, gA cI (a 19) 112 bg]) [12, 0, 1, 13, 2, 3, 4, 5, 6, 7, 8, 9, 10, 11] rfl rfl ?_
              exact ret _ _ _ _ _ _ dX9_put_65 rfl rfl (fun h => by cases h) (gPxi_e () (by rw [(show o_put A w v = (-2, 0, A) from (by unfold o_put putLo putHi; rw [if_neg (by (repeat' split) <;> omega)]))]) (by rw [(show o_put A w v = (-2, 0, A) from (by unfold o_put putLo putHi; rw [if_neg (by (repeat' split) <;> omega)]))]; rfl) trivial)
        · refine g_bipush (pc := 31) X dX9_put_31 (by decide +kernel) ?_
          refine g_goto (pc := 33) X 38 dX9_put_33 (by decide) ?_
          refine g_istore (pc := 38) X (lv' := [(0, .ref q), (1, gi w), (2, gi v), (3, gi 1), (4, gi 9)]) dX9_put_38 rfl rfl ?_
          refine g_iload_n (pc := 40) X dX9_put_40 1 rfl ?_
          refine g_iconst (pc := 41) X dX9_put_41 ?_
          refine g_iconst (pc := 42) X dX9_put_42 ?_
          refine gc_Si (pc := 43) X (c_X9_in l D cI cZ w 0 4 (by omega) (by omega) (by omega)) lm_X9_50 dX9_put_43 [] rfl rfl rfl rfl rfl rfl ?_
          refine g_ifeqB (pc := 46) X 59 dX9_put_46 (by decide) (fun h46 => ?_) (fun h46 => ?_)
          · refine g_aload_n (pc := 59) X dX9_put_59 0 rfl ?_
            refine g_bipush (pc := 60) X dX9_put_60 (by decide +kernel) ?_
            refine gc_Vxi (pc := 62) X (wr := [gA cI (a 0) 1140 A, gA cZ (a 1) 2 kp, gA cI (a 3) 6 lk_, gA cI (a 5) 60 sh, gA cI (a 12) 8 pi, gA cI (a 13) 8 th, gA cI (a 14) 8 fl, gA cI (a 15) 8 so_, gA cI (a 16) 8 fr, gA cI (a 17) 2048 le, gA cI (a 18) 41 lg, gA cI (a 19) 112 bg]) (c_X9_refuse l D cI cZ q a al at_ st so va fa pl sg su rf (-2) (by omega)) lm_X9_54 dX9_put_62 [0, 3] [1, 2, 4, 5, 6, 7, 8, 9, 10, 11, 12, 13] rfl rfl rfl rfl (by decide) rfl rfl rfl rfl rfl rfl (fun x62 hx62 => ?_)
            refine g_pick (cn := 0) (sl := 0) (st := gi (-2) :: []) X (ws' := [oM q a al at_ st so va fa pl sg su, gA cI (a 0) 1140 A, gA cZ (a 1) 2 kp, gA cI (a 2) 3 (gupd rf (-2 - (-2)) (rf (-2 - (-2)) + 1)), gA cI (a 3) 6 lk_, gA cI (a 5) 60 sh, gA cI (a 12) 8 pi, gA cI (a 13) 8 th, gA cI (a 14) 8 fl, gA cI (a 15) 8 so_, gA cI (a 16) 8 fr, gA cI (a 17) 2048 le, gA cI (a 18) 41 lg, gA cI (a 19) 112 bg]) [12, 0, 1, 13, 2, 3, 4, 5, 6, 7, 8, 9, 10, 11] rfl rfl ?_
            exact ret _ _ _ _ _ _ dX9_put_65 rfl rfl (fun h => by cases h) (gPxi_e () (by rw [(show o_put A w v = (-2, 0, A) from (by unfold o_put putLo putHi; rw [if_neg (by (repeat' split) <;> omega)]))]) (by rw [(show o_put A w v = (-2, 0, A) from (by unfold o_put putLo putHi; rw [if_neg (by (repeat' split) <;> omega)]))]; rfl) trivial)
          · refine g_iload_n (pc := 49) X dX9_put_49 2 rfl ?_
            refine g_iload_n (pc := 50) X dX9_put_50 3 rfl ?_
            refine g_iload (pc := 51) X dX9_put_51 4 rfl ?_
            refine gc_Si (pc := 53) X (c_X9_in l D cI cZ v 1 9 (by omega) (by omega) (by omega)) lm_X9_50 dX9_put_53 [] rfl rfl rfl rfl rfl rfl ?_
            refine g_ifneB (pc := 56) X 66 dX9_put_56 (by decide) (fun h56 => ?_) (fun h56 => ?_)
            · refine g_aload_n (pc := 66) X dX9_put_66 0 rfl ?_
              refine g_get (pc := 67) X fl_X9_7 dX9_put_67 0 (v := .ref (a 0)) rfl rfl ?_
              refine g_bipush (pc := 70) X dX9_put_70 (by decide +kernel) ?_
              refine g_iload_n (pc := 72) X dX9_put_72 1 rfl ?_
              refine g_iadd (pc := 73) X dX9_put_73 ?_
              refine g_iald (pc := 74) X dX9_put_74 1 rfl (by omega) rfl ?_
              refine g_istore (pc := 75) X (lv' := [(0, .ref q), (1, gi w), (2, gi v), (3, gi 1), (4, gi 9), (5, gi (A (127 + w)))]) dX9_put_75 rfl rfl ?_
              refine g_aload_n (pc := 77) X dX9_put_77 0 rfl ?_
              refine g_get (pc := 78) X fl_X9_7 dX9_put_78 0 (v := .ref (a 0)) rfl rfl ?_
              refine g_bipush (pc := 81) X dX9_put_81 (by decide +kernel) ?_
              refine g_iload_n (pc := 83) X dX9_put_83 1 rfl ?_
              refine g_iadd (pc := 84) X dX9_put_84 ?_
              refine g_iload_n (pc := 85) X dX9_put_85 2 rfl ?_
              refine g_iast (pc := 86) X (ws' := [oM q a al at_ st so va fa pl sg su, gA cI (a 0) 1140 (gupd A (127 + w) v), gA cZ (a 1) 2 kp, gA cI (a 2) 3 rf, gA cI (a 3) 6 lk_, gA cI (a 5) 60 sh, gA cI (a 12) 8 pi, gA cI (a 13) 8 th, gA cI (a 14) 8 fl, gA cI (a 15) 8 so_, gA cI (a 16) 8 fr, gA cI (a 17) 2048 le, gA cI (a 18) 41 lg, gA cI (a 19) 112 bg]) dX9_put_86 1 rfl (by omega) rfl rfl ?_
              refine g_iload (pc := 87) X dX9_put_87 5 rfl ?_
              exact ret _ _ _ _ _ _ dX9_put_89 rfl rfl (fun h => by cases h) (gPxi_e () (by rw [(show o_put A w v = (A (127 + w), -1, gupd A (127 + w) v) from (by unfold o_put putLo putHi; rw [if_pos (by (repeat' split) <;> omega)]))]) (by rw [(show o_put A w v = (A (127 + w), -1, gupd A (127 + w) v) from (by unfold o_put putLo putHi; rw [if_pos (by (repeat' split) <;> omega)]))]; rfl) trivial)
            · refine g_aload_n (pc := 59) X dX9_put_59 0 rfl ?_
              refine g_bipush (pc := 60) X dX9_put_60 (by decide +kernel) ?_
              refine gc_Vxi (pc := 62) X (wr := [gA cI (a 0) 1140 A, gA cZ (a 1) 2 kp, gA cI (a 3) 6 lk_, gA cI (a 5) 60 sh, gA cI (a 12) 8 pi, gA cI (a 13) 8 th, gA cI (a 14) 8 fl, gA cI (a 15) 8 so_, gA cI (a 16) 8 fr, gA cI (a 17) 2048 le, gA cI (a 18) 41 lg, gA cI (a 19) 112 bg]) (c_X9_refuse l D cI cZ q a al at_ st so va fa pl sg su rf (-2) (by omega)) lm_X9_54 dX9_put_62 [0, 3] [1, 2, 4, 5, 6, 7, 8, 9, 10, 11, 12, 13] rfl rfl rfl rfl (by decide) rfl rfl rfl rfl rfl rfl (fun x62 hx62 => ?_)
              refine g_pick (cn := 0) (sl := 0) (st := gi (-2) :: []) X (ws' := [oM q a al at_ st so va fa pl sg su, gA cI (a 0) 1140 A, gA cZ (a 1) 2 kp, gA cI (a 2) 3 (gupd rf (-2 - (-2)) (rf (-2 - (-2)) + 1)), gA cI (a 3) 6 lk_, gA cI (a 5) 60 sh, gA cI (a 12) 8 pi, gA cI (a 13) 8 th, gA cI (a 14) 8 fl, gA cI (a 15) 8 so_, gA cI (a 16) 8 fr, gA cI (a 17) 2048 le, gA cI (a 18) 41 lg, gA cI (a 19) 112 bg]) [12, 0, 1, 13, 2, 3, 4, 5, 6, 7, 8, 9, 10, 11] rfl rfl ?_
              exact ret _ _ _ _ _ _ dX9_put_65 rfl rfl (fun h => by cases h) (gPxi_e () (by rw [(show o_put A w v = (-2, 0, A) from (by unfold o_put putLo putHi; rw [if_neg (by (repeat' split) <;> omega)]))]) (by rw [(show o_put A w v = (-2, 0, A) from (by unfold o_put putLo putHi; rw [if_neg (by (repeat' split) <;> omega)]))]; rfl) trivial)
      · refine g_sipush (pc := 20) X dX9_put_20 (by decide +kernel) ?_
        refine g_goto (pc := 23) X 38 dX9_put_23 (by decide) ?_
        refine g_istore (pc := 38) X (lv' := [(0, .ref q), (1, gi w), (2, gi v), (3, gi 1), (4, gi 2000)]) dX9_put_38 rfl rfl ?_
        refine g_iload_n (pc := 40) X dX9_put_40 1 rfl ?_
        refine g_iconst (pc := 41) X dX9_put_41 ?_
        refine g_iconst (pc := 42) X dX9_put_42 ?_
        refine gc_Si (pc := 43) X (c_X9_in l D cI cZ w 0 4 (by omega) (by omega) (by omega)) lm_X9_50 dX9_put_43 [] rfl rfl rfl rfl rfl rfl ?_
        refine g_ifeqB (pc := 46) X 59 dX9_put_46 (by decide) (fun h46 => ?_) (fun h46 => ?_)
        · refine g_aload_n (pc := 59) X dX9_put_59 0 rfl ?_
          refine g_bipush (pc := 60) X dX9_put_60 (by decide +kernel) ?_
          refine gc_Vxi (pc := 62) X (wr := [gA cI (a 0) 1140 A, gA cZ (a 1) 2 kp, gA cI (a 3) 6 lk_, gA cI (a 5) 60 sh, gA cI (a 12) 8 pi, gA cI (a 13) 8 th, gA cI (a 14) 8 fl, gA cI (a 15) 8 so_, gA cI (a 16) 8 fr, gA cI (a 17) 2048 le, gA cI (a 18) 41 lg, gA cI (a 19) 112 bg]) (c_X9_refuse l D cI cZ q a al at_ st so va fa pl sg su rf (-2) (by omega)) lm_X9_54 dX9_put_62 [0, 3] [1, 2, 4, 5, 6, 7, 8, 9, 10, 11, 12, 13] rfl rfl rfl rfl (by decide) rfl rfl rfl rfl rfl rfl (fun x62 hx62 => ?_)
          refine g_pick (cn := 0) (sl := 0) (st := gi (-2) :: []) X (ws' := [oM q a al at_ st so va fa pl sg su, gA cI (a 0) 1140 A, gA cZ (a 1) 2 kp, gA cI (a 2) 3 (gupd rf (-2 - (-2)) (rf (-2 - (-2)) + 1)), gA cI (a 3) 6 lk_, gA cI (a 5) 60 sh, gA cI (a 12) 8 pi, gA cI (a 13) 8 th, gA cI (a 14) 8 fl, gA cI (a 15) 8 so_, gA cI (a 16) 8 fr, gA cI (a 17) 2048 le, gA cI (a 18) 41 lg, gA cI (a 19) 112 bg]) [12, 0, 1, 13, 2, 3, 4, 5, 6, 7, 8, 9, 10, 11] rfl rfl ?_
          exact ret _ _ _ _ _ _ dX9_put_65 rfl rfl (fun h => by cases h) (gPxi_e () (by rw [(show o_put A w v = (-2, 0, A) from (by unfold o_put putLo putHi; rw [if_neg (by (repeat' split) <;> omega)]))]) (by rw [(show o_put A w v = (-2, 0, A) from (by unfold o_put putLo putHi; rw [if_neg (by (repeat' split) <;> omega)]))]; rfl) trivial)
        · refine g_iload_n (pc := 49) X dX9_put_49 2 rfl ?_
          refine g_iload_n (pc := 50) X dX9_put_50 3 rfl ?_
          refine g_iload (pc := 51) X dX9_put_51 4 rfl ?_
          refine gc_Si (pc := 53) X (c_X9_in l D cI cZ v 1 2000 (by omega) (by omega) (by omega)) lm_X9_50 dX9_put_53 [] rfl rfl rfl rfl rfl rfl ?_
          refine g_ifneB (pc := 56) X 66 dX9_put_56 (by decide) (fun h56 => ?_) (fun h56 => ?_)
          · refine g_aload_n (pc := 66) X dX9_put_66 0 rfl ?_
            refine g_get (pc := 67) X fl_X9_7 dX9_put_67 0 (v := .ref (a 0)) rfl rfl ?_
            refine g_bipush (pc := 70) X dX9_put_70 (by decide +kernel) ?_
            refine g_iload_n (pc := 72) X dX9_put_72 1 rfl ?_
            refine g_iadd (pc := 73) X dX9_put_73 ?_
            refine g_iald (pc := 74) X dX9_put_74 1 rfl (by omega) rfl ?_
            refine g_istore (pc := 75) X (lv' := [(0, .ref q), (1, gi w), (2, gi v), (3, gi 1), (4, gi 2000), (5, gi (A (127 + w)))]) dX9_put_75 rfl rfl ?_
            refine g_aload_n (pc := 77) X dX9_put_77 0 rfl ?_
            refine g_get (pc := 78) X fl_X9_7 dX9_put_78 0 (v := .ref (a 0)) rfl rfl ?_
            refine g_bipush (pc := 81) X dX9_put_81 (by decide +kernel) ?_
            refine g_iload_n (pc := 83) X dX9_put_83 1 rfl ?_
            refine g_iadd (pc := 84) X dX9_put_84 ?_
            refine g_iload_n (pc := 85) X dX9_put_85 2 rfl ?_
            refine g_iast (pc := 86) X (ws' := [oM q a al at_ st so va fa pl sg su, gA cI (a 0) 1140 (gupd A (127 + w) v), gA cZ (a 1) 2 kp, gA cI (a 2) 3 rf, gA cI (a 3) 6 lk_, gA cI (a 5) 60 sh, gA cI (a 12) 8 pi, gA cI (a 13) 8 th, gA cI (a 14) 8 fl, gA cI (a 15) 8 so_, gA cI (a 16) 8 fr, gA cI (a 17) 2048 le, gA cI (a 18) 41 lg, gA cI (a 19) 112 bg]) dX9_put_86 1 rfl (by omega) rfl rfl ?_
            refine g_iload (pc := 87) X dX9_put_87 5 rfl ?_
            exact ret _ _ _ _ _ _ dX9_put_89 rfl rfl (fun h => by cases h) (gPxi_e () (by rw [(show o_put A w v = (A (127 + w), -1, gupd A (127 + w) v) from (by unfold o_put putLo putHi; rw [if_pos (by (repeat' split) <;> omega)]))]) (by rw [(show o_put A w v = (A (127 + w), -1, gupd A (127 + w) v) from (by unfold o_put putLo putHi; rw [if_pos (by (repeat' split) <;> omega)]))]; rfl) trivial)
          · refine g_aload_n (pc := 59) X dX9_put_59 0 rfl ?_
            refine g_bipush (pc := 60) X dX9_put_60 (by decide +kernel) ?_
            refine gc_Vxi (pc := 62) X (wr := [gA cI (a 0) 1140 A, gA cZ (a 1) 2 kp, gA cI (a 3) 6 lk_, gA cI (a 5) 60 sh, gA cI (a 12) 8 pi, gA cI (a 13) 8 th, gA cI (a 14) 8 fl, gA cI (a 15) 8 so_, gA cI (a 16) 8 fr, gA cI (a 17) 2048 le, gA cI (a 18) 41 lg, gA cI (a 19) 112 bg]) (c_X9_refuse l D cI cZ q a al at_ st so va fa pl sg su rf (-2) (by omega)) lm_X9_54 dX9_put_62 [0, 3] [1, 2, 4, 5, 6, 7, 8, 9, 10, 11, 12, 13] rfl rfl rfl rfl (by decide) rfl rfl rfl rfl rfl rfl (fun x62 hx62 => ?_)
            refine g_pick (cn := 0) (sl := 0) (st := gi (-2) :: []) X (ws' := [oM q a al at_ st so va fa pl sg su, gA cI (a 0) 1140 A, gA cZ (a 1) 2 kp, gA cI (a 2) 3 (gupd rf (-2 - (-2)) (rf (-2 - (-2)) + 1)), gA cI (a 3) 6 lk_, gA cI (a 5) 60 sh, gA cI (a 12) 8 pi, gA cI (a 13) 8 th, gA cI (a 14) 8 fl, gA cI (a 15) 8 so_, gA cI (a 16) 8 fr, gA cI (a 17) 2048 le, gA cI (a 18) 41 lg, gA cI (a 19) 112 bg]) [12, 0, 1, 13, 2, 3, 4, 5, 6, 7, 8, 9, 10, 11] rfl rfl ?_
            exact ret _ _ _ _ _ _ dX9_put_65 rfl rfl (fun h => by cases h) (gPxi_e () (by rw [(show o_put A w v = (-2, 0, A) from (by unfold o_put putLo putHi; rw [if_neg (by (repeat' split) <;> omega)]))]) (by rw [(show o_put A w v = (-2, 0, A) from (by unfold o_put putLo putHi; rw [if_neg (by (repeat' split) <;> omega)]))]; rfl) trivial)

set_option maxHeartbeats 4000000 in
set_option maxRecDepth 100000 in
theorem c_X9_value (l : Launch) (D : va_G) (cI cZ : ClassId) (q : Nat) (a : Nat → Nat) (al : Int) (at_ : Int) (st : Int) (so : Int) (va : Int) (fa : Int) (pl : Int) (sg : Int) (su : Int) (A : Int → Int) (kp : Int → Int) (rf : Int → Int) (lk_ : Int → Int) (sh : Int → Int) (pi : Int → Int) (th : Int → Int) (fl : Int → Int) (so_ : Int → Int) (fr : Int → Int) (le : Int → Int) (lg : Int → Int) (bg : Int → Int) (t : Int) (b : Int) (n : Int) (f : Int) (hA : okA A) (ht : -2147483648 ≤ t ∧ t < 2147483648) (hb : -2147483648 ≤ b ∧ b < 2147483648) (hn : -2147483648 ≤ n ∧ n < 2147483648) (hf : -2147483648 ≤ f ∧ f < 2147483648) : GM l D cI cZ yX9_value cX9_value 5 (some .int) ({ frames := 4, cells := 0, slots := 0, locals := 98 }) 0 0 false [.ref q, gi t, gi b, gi n, gi f] [oM q a al at_ st so va fa pl sg su, gA cI (a 0) 1140 A, gA cZ (a 1) 2 kp, gA cI (a 2) 3 rf, gA cI (a 3) 6 lk_, gA cI (a 5) 60 sh, gA cI (a 12) 8 pi, gA cI (a 13) 8 th, gA cI (a 14) 8 fl, gA cI (a 15) 8 so_, gA cI (a 16) 8 fr, gA cI (a 17) 2048 le, gA cI (a 18) 41 lg, gA cI (a 19) 112 bg] (gPxi (fun xo : Unit => (o_value A t b n f).1) (fun xo : Unit => [oM q a al at_ st so va fa pl sg su, gA cI (a 0) 1140 A, gA cZ (a 1) 2 kp, gA cI (a 2) 3 (bump ((o_value A t b n f).2) rf), gA cI (a 3) 6 lk_, gA cI (a 5) 60 sh, gA cI (a 12) 8 pi, gA cI (a 13) 8 th, gA cI (a 14) 8 fl, gA cI (a 15) 8 so_, gA cI (a 16) 8 fr, gA cI (a 17) 2048 le, gA cI (a 18) 41 lg, gA cI (a 19) 112 bg]) (fun xo : Unit => True)) := by
  refine g_enterI (z := false) (lv0 := [(0, .ref q), (1, gi t), (2, gi b), (3, gi n), (4, gi f)]) _ rfl (by decide) rfl rfl (fun V X ret => ?_)
  have hA1 := okA_1 hA
  have hA0 := okA_0 hA
  have hpu := okA_pu hA
  refine g_aload_n (pc := 0) X dX9_value_0 0 rfl ?_
  refine g_iload_n (pc := 1) X dX9_value_1 1 rfl ?_
  refine gc_Vi (pc := 2) X (c_X9_isThing l D cI cZ q a al at_ st so va fa pl sg su A t hA (by omega)) lm_X9_58 dX9_value_2 [0, 1] rfl rfl rfl rfl rfl rfl rfl rfl ?_
  refine g_ifeqB (pc := 5) X 50 dX9_value_5 (by decide) (fun h5 => ?_) (fun h5 => ?_)
  · refine g_aload_n (pc := 50) X dX9_value_50 0 rfl ?_
    refine g_bipush (pc := 51) X dX9_value_51 (by decide +kernel) ?_
    refine gc_Vxi (pc := 53) X (wr := [gA cI (a 0) 1140 A, gA cZ (a 1) 2 kp, gA cI (a 3) 6 lk_, gA cI (a 5) 60 sh, gA cI (a 12) 8 pi, gA cI (a 13) 8 th, gA cI (a 14) 8 fl, gA cI (a 15) 8 so_, gA cI (a 16) 8 fr, gA cI (a 17) 2048 le, gA cI (a 18) 41 lg, gA cI (a 19) 112 bg]) (c_X9_refuse l D cI cZ q a al at_ st so va fa pl sg su rf (-2) (by omega)) lm_X9_54 dX9_value_53 [0, 3] [1, 2, 4, 5, 6, 7, 8, 9, 10, 11, 12, 13] rfl rfl rfl rfl (by decide) rfl rfl rfl rfl rfl rfl (fun x53 hx53 => ?_)
    refine g_pick (cn := 0) (sl := 0) (st := gi (-2) :: []) X (ws' := [oM q a al at_ st so va fa pl sg su, gA cI (a 0) 1140 A, gA cZ (a 1) 2 kp, gA cI (a 2) 3 (gupd rf (-2 - (-2)) (rf (-2 - (-2)) + 1)), gA cI (a 3) 6 lk_, gA cI (a 5) 60 sh, gA cI (a 12) 8 pi, gA cI (a 13) 8 th, gA cI (a 14) 8 fl, gA cI (a 15) 8 so_, gA cI (a 16) 8 fr, gA cI (a 17) 2048 le, gA cI (a 18) 41 lg, gA cI (a 19) 112 bg]) [12, 0, 1, 13, 2, 3, 4, 5, 6, 7, 8, 9, 10, 11] rfl rfl ?_
    exact ret _ _ _ _ _ _ dX9_value_56 rfl rfl (fun h => by cases h) (gPxi_e () (by rw [(show o_value A t b n f = (-2, 0) from if_neg (by omega))]) (by rw [(show o_value A t b n f = (-2, 0) from if_neg (by omega))]; rfl) trivial)
  · refine g_iload_n (pc := 8) X dX9_value_8 2 rfl ?_
    refine g_iconst (pc := 9) X dX9_value_9 ?_
    refine g_iconst (pc := 10) X dX9_value_10 ?_
    refine gc_Si (pc := 11) X (c_X9_in l D cI cZ b 0 5 (by omega) (by omega) (by omega)) lm_X9_50 dX9_value_11 [] rfl rfl rfl rfl rfl rfl ?_
    refine g_ifeqB (pc := 14) X 50 dX9_value_14 (by decide) (fun h14 => ?_) (fun h14 => ?_)
    · refine g_aload_n (pc := 50) X dX9_value_50 0 rfl ?_
      refine g_bipush (pc := 51) X dX9_value_51 (by decide +kernel) ?_
      refine gc_Vxi (pc := 53) X (wr := [gA cI (a 0) 1140 A, gA cZ (a 1) 2 kp, gA cI (a 3) 6 lk_, gA cI (a 5) 60 sh, gA cI (a 12) 8 pi, gA cI (a 13) 8 th, gA cI (a 14) 8 fl, gA cI (a 15) 8 so_, gA cI (a 16) 8 fr, gA cI (a 17) 2048 le, gA cI (a 18) 41 lg, gA cI (a 19) 112 bg]) (c_X9_refuse l D cI cZ q a al at_ st so va fa pl sg su rf (-2) (by omega)) lm_X9_54 dX9_value_53 [0, 3] [1, 2, 4, 5, 6, 7, 8, 9, 10, 11, 12, 13] rfl rfl rfl rfl (by decide) rfl rfl rfl rfl rfl rfl (fun x53 hx53 => ?_)
      refine g_pick (cn := 0) (sl := 0) (st := gi (-2) :: []) X (ws' := [oM q a al at_ st so va fa pl sg su, gA cI (a 0) 1140 A, gA cZ (a 1) 2 kp, gA cI (a 2) 3 (gupd rf (-2 - (-2)) (rf (-2 - (-2)) + 1)), gA cI (a 3) 6 lk_, gA cI (a 5) 60 sh, gA cI (a 12) 8 pi, gA cI (a 13) 8 th, gA cI (a 14) 8 fl, gA cI (a 15) 8 so_, gA cI (a 16) 8 fr, gA cI (a 17) 2048 le, gA cI (a 18) 41 lg, gA cI (a 19) 112 bg]) [12, 0, 1, 13, 2, 3, 4, 5, 6, 7, 8, 9, 10, 11] rfl rfl ?_
      exact ret _ _ _ _ _ _ dX9_value_56 rfl rfl (fun h => by cases h) (gPxi_e () (by rw [(show o_value A t b n f = (-2, 0) from if_neg (by omega))]) (by rw [(show o_value A t b n f = (-2, 0) from if_neg (by omega))]; rfl) trivial)
    · refine g_iload_n (pc := 17) X dX9_value_17 3 rfl ?_
      refine g_iconst (pc := 18) X dX9_value_18 ?_
      refine g_bipush (pc := 19) X dX9_value_19 (by decide +kernel) ?_
      refine gc_Si (pc := 21) X (c_X9_in l D cI cZ n 0 7 (by omega) (by omega) (by omega)) lm_X9_50 dX9_value_21 [] rfl rfl rfl rfl rfl rfl ?_
      refine g_ifeqB (pc := 24) X 50 dX9_value_24 (by decide) (fun h24 => ?_) (fun h24 => ?_)
      · refine g_aload_n (pc := 50) X dX9_value_50 0 rfl ?_
        refine g_bipush (pc := 51) X dX9_value_51 (by decide +kernel) ?_
        refine gc_Vxi (pc := 53) X (wr := [gA cI (a 0) 1140 A, gA cZ (a 1) 2 kp, gA cI (a 3) 6 lk_, gA cI (a 5) 60 sh, gA cI (a 12) 8 pi, gA cI (a 13) 8 th, gA cI (a 14) 8 fl, gA cI (a 15) 8 so_, gA cI (a 16) 8 fr, gA cI (a 17) 2048 le, gA cI (a 18) 41 lg, gA cI (a 19) 112 bg]) (c_X9_refuse l D cI cZ q a al at_ st so va fa pl sg su rf (-2) (by omega)) lm_X9_54 dX9_value_53 [0, 3] [1, 2, 4, 5, 6, 7, 8, 9, 10, 11, 12, 13] rfl rfl rfl rfl (by decide) rfl rfl rfl rfl rfl rfl (fun x53 hx53 => ?_)
        refine g_pick (cn := 0) (sl := 0) (st := gi (-2) :: []) X (ws' := [oM q a al at_ st so va fa pl sg su, gA cI (a 0) 1140 A, gA cZ (a 1) 2 kp, gA cI (a 2) 3 (gupd rf (-2 - (-2)) (rf (-2 - (-2)) + 1)), gA cI (a 3) 6 lk_, gA cI (a 5) 60 sh, gA cI (a 12) 8 pi, gA cI (a 13) 8 th, gA cI (a 14) 8 fl, gA cI (a 15) 8 so_, gA cI (a 16) 8 fr, gA cI (a 17) 2048 le, gA cI (a 18) 41 lg, gA cI (a 19) 112 bg]) [12, 0, 1, 13, 2, 3, 4, 5, 6, 7, 8, 9, 10, 11] rfl rfl ?_
        exact ret _ _ _ _ _ _ dX9_value_56 rfl rfl (fun h => by cases h) (gPxi_e () (by rw [(show o_value A t b n f = (-2, 0) from if_neg (by omega))]) (by rw [(show o_value A t b n f = (-2, 0) from if_neg (by omega))]; rfl) trivial)
      · refine g_iload (pc := 27) X dX9_value_27 4 rfl ?_
        refine g_iconst (pc := 29) X dX9_value_29 ?_
        refine g_bipush (pc := 30) X dX9_value_30 (by decide +kernel) ?_
        refine gc_Si (pc := 32) X (c_X9_in l D cI cZ f 0 9 (by omega) (by omega) (by omega)) lm_X9_50 dX9_value_32 [] rfl rfl rfl rfl rfl rfl ?_
        refine g_ifeqB (pc := 35) X 50 dX9_value_35 (by decide) (fun h35 => ?_) (fun h35 => ?_)
        · refine g_aload_n (pc := 50) X dX9_value_50 0 rfl ?_
          refine g_bipush (pc := 51) X dX9_value_51 (by decide +kernel) ?_
          refine gc_Vxi (pc := 53) X (wr := [gA cI (a 0) 1140 A, gA cZ (a 1) 2 kp, gA cI (a 3) 6 lk_, gA cI (a 5) 60 sh, gA cI (a 12) 8 pi, gA cI (a 13) 8 th, gA cI (a 14) 8 fl, gA cI (a 15) 8 so_, gA cI (a 16) 8 fr, gA cI (a 17) 2048 le, gA cI (a 18) 41 lg, gA cI (a 19) 112 bg]) (c_X9_refuse l D cI cZ q a al at_ st so va fa pl sg su rf (-2) (by omega)) lm_X9_54 dX9_value_53 [0, 3] [1, 2, 4, 5, 6, 7, 8, 9, 10, 11, 12, 13] rfl rfl rfl rfl (by decide) rfl rfl rfl rfl rfl rfl (fun x53 hx53 => ?_)
          refine g_pick (cn := 0) (sl := 0) (st := gi (-2) :: []) X (ws' := [oM q a al at_ st so va fa pl sg su, gA cI (a 0) 1140 A, gA cZ (a 1) 2 kp, gA cI (a 2) 3 (gupd rf (-2 - (-2)) (rf (-2 - (-2)) + 1)), gA cI (a 3) 6 lk_, gA cI (a 5) 60 sh, gA cI (a 12) 8 pi, gA cI (a 13) 8 th, gA cI (a 14) 8 fl, gA cI (a 15) 8 so_, gA cI (a 16) 8 fr, gA cI (a 17) 2048 le, gA cI (a 18) 41 lg, gA cI (a 19) 112 bg]) [12, 0, 1, 13, 2, 3, 4, 5, 6, 7, 8, 9, 10, 11] rfl rfl ?_
          exact ret _ _ _ _ _ _ dX9_value_56 rfl rfl (fun h => by cases h) (gPxi_e () (by rw [(show o_value A t b n f = (-2, 0) from if_neg (by omega))]) (by rw [(show o_value A t b n f = (-2, 0) from if_neg (by omega))]; rfl) trivial)
        · refine g_aload_n (pc := 38) X dX9_value_38 0 rfl ?_
          refine g_iload_n (pc := 39) X dX9_value_39 1 rfl ?_
          refine g_iload_n (pc := 40) X dX9_value_40 2 rfl ?_
          refine g_iload_n (pc := 41) X dX9_value_41 3 rfl ?_
          refine g_iload (pc := 42) X dX9_value_42 4 rfl ?_
          refine gc_Vi (pc := 44) X (c_X9_valueOf l D cI cZ q a al at_ st so va fa pl sg su A t b n f hA (by omega) (by omega) (by omega) (by omega)) lm_X9_75 dX9_value_44 [0, 1] rfl rfl rfl rfl rfl rfl rfl rfl ?_
          refine g_goto (pc := 47) X 56 dX9_value_47 (by decide) ?_
          exact ret _ _ _ _ _ _ dX9_value_56 rfl rfl (fun h => by cases h) (gPxi_e () (by rw [(show o_value A t b n f = (sVal A t b n f, -1) from if_pos (by omega))]) (by rw [(show o_value A t b n f = (sVal A t b n f, -1) from if_pos (by omega))]; rfl) trivial)

set_option maxHeartbeats 4000000 in
set_option maxRecDepth 100000 in
theorem c_X9_loud (l : Launch) (D : va_G) (cI cZ : ClassId) (q : Nat) (a : Nat → Nat) (al : Int) (at_ : Int) (st : Int) (so : Int) (va : Int) (fa : Int) (pl : Int) (sg : Int) (su : Int) (A : Int → Int) (kp : Int → Int) (rf : Int → Int) (lk_ : Int → Int) (sh : Int → Int) (pi : Int → Int) (th : Int → Int) (fl : Int → Int) (so_ : Int → Int) (fr : Int → Int) (le : Int → Int) (lg : Int → Int) (bg : Int → Int) (t : Int) (b : Int) (f : Int) (hA : okA A) (ht : -2147483648 ≤ t ∧ t < 2147483648) (hb : -2147483648 ≤ b ∧ b < 2147483648) (hf : -2147483648 ≤ f ∧ f < 2147483648) : GM l D cI cZ yX9_loud cX9_loud 4 (some .int) ({ frames := 5, cells := 0, slots := 0, locals := 123 }) 0 0 false [.ref q, gi t, gi b, gi f] [oM q a al at_ st so va fa pl sg su, gA cI (a 0) 1140 A, gA cZ (a 1) 2 kp, gA cI (a 2) 3 rf, gA cI (a 3) 6 lk_, gA cI (a 5) 60 sh, gA cI (a 12) 8 pi, gA cI (a 13) 8 th, gA cI (a 14) 8 fl, gA cI (a 15) 8 so_, gA cI (a 16) 8 fr, gA cI (a 17) 2048 le, gA cI (a 18) 41 lg, gA cI (a 19) 112 bg] (gPxi (fun xo : Unit => (o_loud A t b f).1) (fun xo : Unit => [oM q a al at_ st so va fa pl sg su, gA cI (a 0) 1140 A, gA cZ (a 1) 2 kp, gA cI (a 2) 3 (bump ((o_loud A t b f).2) rf), gA cI (a 3) 6 lk_, gA cI (a 5) 60 sh, gA cI (a 12) 8 pi, gA cI (a 13) 8 th, gA cI (a 14) 8 fl, gA cI (a 15) 8 so_, gA cI (a 16) 8 fr, gA cI (a 17) 2048 le, gA cI (a 18) 41 lg, gA cI (a 19) 112 bg]) (fun xo : Unit => True)) := by
  refine g_enterI (z := false) (lv0 := [(0, .ref q), (1, gi t), (2, gi b), (3, gi f)]) _ rfl (by decide) rfl rfl (fun V X ret => ?_)
  have hA1 := okA_1 hA
  have hA0 := okA_0 hA
  have hpu := okA_pu hA
  refine g_aload_n (pc := 0) X dX9_loud_0 0 rfl ?_
  refine g_iload_n (pc := 1) X dX9_loud_1 1 rfl ?_
  refine gc_Vi (pc := 2) X (c_X9_isThing l D cI cZ q a al at_ st so va fa pl sg su A t hA (by omega)) lm_X9_58 dX9_loud_2 [0, 1] rfl rfl rfl rfl rfl rfl rfl rfl ?_
  refine g_ifeqB (pc := 5) X 37 dX9_loud_5 (by decide) (fun h5 => ?_) (fun h5 => ?_)
  · refine g_aload_n (pc := 37) X dX9_loud_37 0 rfl ?_
    refine g_bipush (pc := 38) X dX9_loud_38 (by decide +kernel) ?_
    refine gc_Vxi (pc := 40) X (wr := [gA cI (a 0) 1140 A, gA cZ (a 1) 2 kp, gA cI (a 3) 6 lk_, gA cI (a 5) 60 sh, gA cI (a 12) 8 pi, gA cI (a 13) 8 th, gA cI (a 14) 8 fl, gA cI (a 15) 8 so_, gA cI (a 16) 8 fr, gA cI (a 17) 2048 le, gA cI (a 18) 41 lg, gA cI (a 19) 112 bg]) (c_X9_refuse l D cI cZ q a al at_ st so va fa pl sg su rf (-2) (by omega)) lm_X9_54 dX9_loud_40 [0, 3] [1, 2, 4, 5, 6, 7, 8, 9, 10, 11, 12, 13] rfl rfl rfl rfl (by decide) rfl rfl rfl rfl rfl rfl (fun x40 hx40 => ?_)
    refine g_pick (cn := 0) (sl := 0) (st := gi (-2) :: []) X (ws' := [oM q a al at_ st so va fa pl sg su, gA cI (a 0) 1140 A, gA cZ (a 1) 2 kp, gA cI (a 2) 3 (gupd rf (-2 - (-2)) (rf (-2 - (-2)) + 1)), gA cI (a 3) 6 lk_, gA cI (a 5) 60 sh, gA cI (a 12) 8 pi, gA cI (a 13) 8 th, gA cI (a 14) 8 fl, gA cI (a 15) 8 so_, gA cI (a 16) 8 fr, gA cI (a 17) 2048 le, gA cI (a 18) 41 lg, gA cI (a 19) 112 bg]) [12, 0, 1, 13, 2, 3, 4, 5, 6, 7, 8, 9, 10, 11] rfl rfl ?_
    exact ret _ _ _ _ _ _ dX9_loud_43 rfl rfl (fun h => by cases h) (gPxi_e () (by rw [(show o_loud A t b f = (-2, 0) from if_neg (by omega))]) (by rw [(show o_loud A t b f = (-2, 0) from if_neg (by omega))]; rfl) trivial)
  · refine g_iload_n (pc := 8) X dX9_loud_8 2 rfl ?_
    refine g_iconst (pc := 9) X dX9_loud_9 ?_
    refine g_iconst (pc := 10) X dX9_loud_10 ?_
    refine gc_Si (pc := 11) X (c_X9_in l D cI cZ b 0 5 (by omega) (by omega) (by omega)) lm_X9_50 dX9_loud_11 [] rfl rfl rfl rfl rfl rfl ?_
    refine g_ifeqB (pc := 14) X 37 dX9_loud_14 (by decide) (fun h14 => ?_) (fun h14 => ?_)
    · refine g_aload_n (pc := 37) X dX9_loud_37 0 rfl ?_
      refine g_bipush (pc := 38) X dX9_loud_38 (by decide +kernel) ?_
      refine gc_Vxi (pc := 40) X (wr := [gA cI (a 0) 1140 A, gA cZ (a 1) 2 kp, gA cI (a 3) 6 lk_, gA cI (a 5) 60 sh, gA cI (a 12) 8 pi, gA cI (a 13) 8 th, gA cI (a 14) 8 fl, gA cI (a 15) 8 so_, gA cI (a 16) 8 fr, gA cI (a 17) 2048 le, gA cI (a 18) 41 lg, gA cI (a 19) 112 bg]) (c_X9_refuse l D cI cZ q a al at_ st so va fa pl sg su rf (-2) (by omega)) lm_X9_54 dX9_loud_40 [0, 3] [1, 2, 4, 5, 6, 7, 8, 9, 10, 11, 12, 13] rfl rfl rfl rfl (by decide) rfl rfl rfl rfl rfl rfl (fun x40 hx40 => ?_)
      refine g_pick (cn := 0) (sl := 0) (st := gi (-2) :: []) X (ws' := [oM q a al at_ st so va fa pl sg su, gA cI (a 0) 1140 A, gA cZ (a 1) 2 kp, gA cI (a 2) 3 (gupd rf (-2 - (-2)) (rf (-2 - (-2)) + 1)), gA cI (a 3) 6 lk_, gA cI (a 5) 60 sh, gA cI (a 12) 8 pi, gA cI (a 13) 8 th, gA cI (a 14) 8 fl, gA cI (a 15) 8 so_, gA cI (a 16) 8 fr, gA cI (a 17) 2048 le, gA cI (a 18) 41 lg, gA cI (a 19) 112 bg]) [12, 0, 1, 13, 2, 3, 4, 5, 6, 7, 8, 9, 10, 11] rfl rfl ?_
      exact ret _ _ _ _ _ _ dX9_loud_43 rfl rfl (fun h => by cases h) (gPxi_e () (by rw [(show o_loud A t b f = (-2, 0) from if_neg (by omega))]) (by rw [(show o_loud A t b f = (-2, 0) from if_neg (by omega))]; rfl) trivial)
    · refine g_iload_n (pc := 17) X dX9_loud_17 3 rfl ?_
      refine g_iconst (pc := 18) X dX9_loud_18 ?_
      refine g_bipush (pc := 19) X dX9_loud_19 (by decide +kernel) ?_
      refine gc_Si (pc := 21) X (c_X9_in l D cI cZ f 0 9 (by omega) (by omega) (by omega)) lm_X9_50 dX9_loud_21 [] rfl rfl rfl rfl rfl rfl ?_
      refine g_ifeqB (pc := 24) X 37 dX9_loud_24 (by decide) (fun h24 => ?_) (fun h24 => ?_)
      · refine g_aload_n (pc := 37) X dX9_loud_37 0 rfl ?_
        refine g_bipush (pc := 38) X dX9_loud_38 (by decide +kernel) ?_
        refine gc_Vxi (pc := 40) X (wr := [gA cI (a 0) 1140 A, gA cZ (a 1) 2 kp, gA cI (a 3) 6 lk_, gA cI (a 5) 60 sh, gA cI (a 12) 8 pi, gA cI (a 13) 8 th, gA cI (a 14) 8 fl, gA cI (a 15) 8 so_, gA cI (a 16) 8 fr, gA cI (a 17) 2048 le, gA cI (a 18) 41 lg, gA cI (a 19) 112 bg]) (c_X9_refuse l D cI cZ q a al at_ st so va fa pl sg su rf (-2) (by omega)) lm_X9_54 dX9_loud_40 [0, 3] [1, 2, 4, 5, 6, 7, 8, 9, 10, 11, 12, 13] rfl rfl rfl rfl (by decide) rfl rfl rfl rfl rfl rfl (fun x40 hx40 => ?_)
        refine g_pick (cn := 0) (sl := 0) (st := gi (-2) :: []) X (ws' := [oM q a al at_ st so va fa pl sg su, gA cI (a 0) 1140 A, gA cZ (a 1) 2 kp, gA cI (a 2) 3 (gupd rf (-2 - (-2)) (rf (-2 - (-2)) + 1)), gA cI (a 3) 6 lk_, gA cI (a 5) 60 sh, gA cI (a 12) 8 pi, gA cI (a 13) 8 th, gA cI (a 14) 8 fl, gA cI (a 15) 8 so_, gA cI (a 16) 8 fr, gA cI (a 17) 2048 le, gA cI (a 18) 41 lg, gA cI (a 19) 112 bg]) [12, 0, 1, 13, 2, 3, 4, 5, 6, 7, 8, 9, 10, 11] rfl rfl ?_
        exact ret _ _ _ _ _ _ dX9_loud_43 rfl rfl (fun h => by cases h) (gPxi_e () (by rw [(show o_loud A t b f = (-2, 0) from if_neg (by omega))]) (by rw [(show o_loud A t b f = (-2, 0) from if_neg (by omega))]; rfl) trivial)
      · refine g_aload_n (pc := 27) X dX9_loud_27 0 rfl ?_
        refine g_iload_n (pc := 28) X dX9_loud_28 1 rfl ?_
        refine g_iload_n (pc := 29) X dX9_loud_29 2 rfl ?_
        refine g_iload_n (pc := 30) X dX9_loud_30 3 rfl ?_
        refine gc_Vi (pc := 31) X (c_X9_loudOf l D cI cZ q a al at_ st so va fa pl sg su A t b f hA (by omega) (by omega) (by omega)) lm_X9_79 dX9_loud_31 [0, 1] rfl rfl rfl rfl rfl rfl rfl rfl ?_
        refine g_goto (pc := 34) X 43 dX9_loud_34 (by decide) ?_
        exact ret _ _ _ _ _ _ dX9_loud_43 rfl rfl (fun h => by cases h) (gPxi_e () (by rw [(show o_loud A t b f = (sLoud A t b f, -1) from if_pos (by omega))]) (by rw [(show o_loud A t b f = (sLoud A t b f, -1) from if_pos (by omega))]; rfl) trivial)

set_option maxHeartbeats 4000000 in
set_option maxRecDepth 100000 in
theorem c_X9_likeness (l : Launch) (D : va_G) (cI cZ : ClassId) (q : Nat) (a : Nat → Nat) (al : Int) (at_ : Int) (st : Int) (so : Int) (va : Int) (fa : Int) (pl : Int) (sg : Int) (su : Int) (A : Int → Int) (kp : Int → Int) (rf : Int → Int) (lk_ : Int → Int) (sh : Int → Int) (pi : Int → Int) (th : Int → Int) (fl : Int → Int) (so_ : Int → Int) (fr : Int → Int) (le : Int → Int) (lg : Int → Int) (bg : Int → Int) (t : Int) (m : Int) (f : Int) (hA : okA A) (ht : -2147483648 ≤ t ∧ t < 2147483648) (hm : -2147483648 ≤ m ∧ m < 2147483648) (hf : -2147483648 ≤ f ∧ f < 2147483648) : GM l D cI cZ yX9_likeness cX9_likeness 4 (some .int) ({ frames := 6, cells := 0, slots := 0, locals := 149 }) 0 0 false [.ref q, gi t, gi m, gi f] [oM q a al at_ st so va fa pl sg su, gA cI (a 0) 1140 A, gA cZ (a 1) 2 kp, gA cI (a 2) 3 rf, gA cI (a 3) 6 lk_, gA cI (a 5) 60 sh, gA cI (a 12) 8 pi, gA cI (a 13) 8 th, gA cI (a 14) 8 fl, gA cI (a 15) 8 so_, gA cI (a 16) 8 fr, gA cI (a 17) 2048 le, gA cI (a 18) 41 lg, gA cI (a 19) 112 bg] (gPxi (fun xo : Unit => (o_like A t m f).1) (fun xo : Unit => [oM q a al at_ st so va fa pl sg su, gA cI (a 0) 1140 A, gA cZ (a 1) 2 kp, gA cI (a 2) 3 (bump ((o_like A t m f).2) rf), gA cI (a 3) 6 lk_, gA cI (a 5) 60 sh, gA cI (a 12) 8 pi, gA cI (a 13) 8 th, gA cI (a 14) 8 fl, gA cI (a 15) 8 so_, gA cI (a 16) 8 fr, gA cI (a 17) 2048 le, gA cI (a 18) 41 lg, gA cI (a 19) 112 bg]) (fun xo : Unit => True)) := by
  refine g_enterI (z := false) (lv0 := [(0, .ref q), (1, gi t), (2, gi m), (3, gi f)]) _ rfl (by decide) rfl rfl (fun V X ret => ?_)
  have hA1 := okA_1 hA
  have hA0 := okA_0 hA
  have hpu := okA_pu hA
  refine g_aload_n (pc := 0) X dX9_likeness_0 0 rfl ?_
  refine g_iload_n (pc := 1) X dX9_likeness_1 1 rfl ?_
  refine gc_Vi (pc := 2) X (c_X9_isThing l D cI cZ q a al at_ st so va fa pl sg su A t hA (by omega)) lm_X9_58 dX9_likeness_2 [0, 1] rfl rfl rfl rfl rfl rfl rfl rfl ?_
  refine g_ifeqB (pc := 5) X 36 dX9_likeness_5 (by decide) (fun h5 => ?_) (fun h5 => ?_)
  · refine g_aload_n (pc := 36) X dX9_likeness_36 0 rfl ?_
    refine g_bipush (pc := 37) X dX9_likeness_37 (by decide +kernel) ?_
    refine gc_Vxi (pc := 39) X (wr := [gA cI (a 0) 1140 A, gA cZ (a 1) 2 kp, gA cI (a 3) 6 lk_, gA cI (a 5) 60 sh, gA cI (a 12) 8 pi, gA cI (a 13) 8 th, gA cI (a 14) 8 fl, gA cI (a 15) 8 so_, gA cI (a 16) 8 fr, gA cI (a 17) 2048 le, gA cI (a 18) 41 lg, gA cI (a 19) 112 bg]) (c_X9_refuse l D cI cZ q a al at_ st so va fa pl sg su rf (-2) (by omega)) lm_X9_54 dX9_likeness_39 [0, 3] [1, 2, 4, 5, 6, 7, 8, 9, 10, 11, 12, 13] rfl rfl rfl rfl (by decide) rfl rfl rfl rfl rfl rfl (fun x39 hx39 => ?_)
    refine g_pick (cn := 0) (sl := 0) (st := gi (-2) :: []) X (ws' := [oM q a al at_ st so va fa pl sg su, gA cI (a 0) 1140 A, gA cZ (a 1) 2 kp, gA cI (a 2) 3 (gupd rf (-2 - (-2)) (rf (-2 - (-2)) + 1)), gA cI (a 3) 6 lk_, gA cI (a 5) 60 sh, gA cI (a 12) 8 pi, gA cI (a 13) 8 th, gA cI (a 14) 8 fl, gA cI (a 15) 8 so_, gA cI (a 16) 8 fr, gA cI (a 17) 2048 le, gA cI (a 18) 41 lg, gA cI (a 19) 112 bg]) [12, 0, 1, 13, 2, 3, 4, 5, 6, 7, 8, 9, 10, 11] rfl rfl ?_
    exact ret _ _ _ _ _ _ dX9_likeness_42 rfl rfl (fun h => by cases h) (gPxi_e () (by rw [(show o_like A t m f = (-2, 0) from if_neg (by omega))]) (by rw [(show o_like A t m f = (-2, 0) from if_neg (by omega))]; rfl) trivial)
  · refine g_aload_n (pc := 8) X dX9_likeness_8 0 rfl ?_
    refine g_iload_n (pc := 9) X dX9_likeness_9 2 rfl ?_
    refine gc_Vi (pc := 10) X (c_X9_isMeaning l D cI cZ q a al at_ st so va fa pl sg su A m hA (by omega)) lm_X9_62 dX9_likeness_10 [0, 1] rfl rfl rfl rfl rfl rfl rfl rfl ?_
    refine g_ifeqB (pc := 13) X 36 dX9_likeness_13 (by decide) (fun h13 => ?_) (fun h13 => ?_)
    · refine g_aload_n (pc := 36) X dX9_likeness_36 0 rfl ?_
      refine g_bipush (pc := 37) X dX9_likeness_37 (by decide +kernel) ?_
      refine gc_Vxi (pc := 39) X (wr := [gA cI (a 0) 1140 A, gA cZ (a 1) 2 kp, gA cI (a 3) 6 lk_, gA cI (a 5) 60 sh, gA cI (a 12) 8 pi, gA cI (a 13) 8 th, gA cI (a 14) 8 fl, gA cI (a 15) 8 so_, gA cI (a 16) 8 fr, gA cI (a 17) 2048 le, gA cI (a 18) 41 lg, gA cI (a 19) 112 bg]) (c_X9_refuse l D cI cZ q a al at_ st so va fa pl sg su rf (-2) (by omega)) lm_X9_54 dX9_likeness_39 [0, 3] [1, 2, 4, 5, 6, 7, 8, 9, 10, 11, 12, 13] rfl rfl rfl rfl (by decide) rfl rfl rfl rfl rfl rfl (fun x39 hx39 => ?_)
      refine g_pick (cn := 0) (sl := 0) (st := gi (-2) :: []) X (ws' := [oM q a al at_ st so va fa pl sg su, gA cI (a 0) 1140 A, gA cZ (a 1) 2 kp, gA cI (a 2) 3 (gupd rf (-2 - (-2)) (rf (-2 - (-2)) + 1)), gA cI (a 3) 6 lk_, gA cI (a 5) 60 sh, gA cI (a 12) 8 pi, gA cI (a 13) 8 th, gA cI (a 14) 8 fl, gA cI (a 15) 8 so_, gA cI (a 16) 8 fr, gA cI (a 17) 2048 le, gA cI (a 18) 41 lg, gA cI (a 19) 112 bg]) [12, 0, 1, 13, 2, 3, 4, 5, 6, 7, 8, 9, 10, 11] rfl rfl ?_
      exact ret _ _ _ _ _ _ dX9_likeness_42 rfl rfl (fun h => by cases h) (gPxi_e () (by rw [(show o_like A t m f = (-2, 0) from if_neg (by omega))]) (by rw [(show o_like A t m f = (-2, 0) from if_neg (by omega))]; rfl) trivial)
    · refine g_iload_n (pc := 16) X dX9_likeness_16 3 rfl ?_
      refine g_iconst (pc := 17) X dX9_likeness_17 ?_
      refine g_bipush (pc := 18) X dX9_likeness_18 (by decide +kernel) ?_
      refine gc_Si (pc := 20) X (c_X9_in l D cI cZ f 0 9 (by omega) (by omega) (by omega)) lm_X9_50 dX9_likeness_20 [] rfl rfl rfl rfl rfl rfl ?_
      refine g_ifeqB (pc := 23) X 36 dX9_likeness_23 (by decide) (fun h23 => ?_) (fun h23 => ?_)
      · refine g_aload_n (pc := 36) X dX9_likeness_36 0 rfl ?_
        refine g_bipush (pc := 37) X dX9_likeness_37 (by decide +kernel) ?_
        refine gc_Vxi (pc := 39) X (wr := [gA cI (a 0) 1140 A, gA cZ (a 1) 2 kp, gA cI (a 3) 6 lk_, gA cI (a 5) 60 sh, gA cI (a 12) 8 pi, gA cI (a 13) 8 th, gA cI (a 14) 8 fl, gA cI (a 15) 8 so_, gA cI (a 16) 8 fr, gA cI (a 17) 2048 le, gA cI (a 18) 41 lg, gA cI (a 19) 112 bg]) (c_X9_refuse l D cI cZ q a al at_ st so va fa pl sg su rf (-2) (by omega)) lm_X9_54 dX9_likeness_39 [0, 3] [1, 2, 4, 5, 6, 7, 8, 9, 10, 11, 12, 13] rfl rfl rfl rfl (by decide) rfl rfl rfl rfl rfl rfl (fun x39 hx39 => ?_)
        refine g_pick (cn := 0) (sl := 0) (st := gi (-2) :: []) X (ws' := [oM q a al at_ st so va fa pl sg su, gA cI (a 0) 1140 A, gA cZ (a 1) 2 kp, gA cI (a 2) 3 (gupd rf (-2 - (-2)) (rf (-2 - (-2)) + 1)), gA cI (a 3) 6 lk_, gA cI (a 5) 60 sh, gA cI (a 12) 8 pi, gA cI (a 13) 8 th, gA cI (a 14) 8 fl, gA cI (a 15) 8 so_, gA cI (a 16) 8 fr, gA cI (a 17) 2048 le, gA cI (a 18) 41 lg, gA cI (a 19) 112 bg]) [12, 0, 1, 13, 2, 3, 4, 5, 6, 7, 8, 9, 10, 11] rfl rfl ?_
        exact ret _ _ _ _ _ _ dX9_likeness_42 rfl rfl (fun h => by cases h) (gPxi_e () (by rw [(show o_like A t m f = (-2, 0) from if_neg (by omega))]) (by rw [(show o_like A t m f = (-2, 0) from if_neg (by omega))]; rfl) trivial)
      · refine g_aload_n (pc := 26) X dX9_likeness_26 0 rfl ?_
        refine g_iload_n (pc := 27) X dX9_likeness_27 1 rfl ?_
        refine g_iload_n (pc := 28) X dX9_likeness_28 2 rfl ?_
        refine g_iload_n (pc := 29) X dX9_likeness_29 3 rfl ?_
        refine gc_Vi (pc := 30) X (c_X9_likenessOf l D cI cZ q a al at_ st so va fa pl sg su A t m f hA (by omega) (by omega) (by omega)) lm_X9_82 dX9_likeness_30 [0, 1] rfl rfl rfl rfl rfl rfl rfl rfl ?_
        refine g_goto (pc := 33) X 42 dX9_likeness_33 (by decide) ?_
        exact ret _ _ _ _ _ _ dX9_likeness_42 rfl rfl (fun h => by cases h) (gPxi_e () (by rw [(show o_like A t m f = (sLike A t m f, -1) from if_pos (by omega))]) (by rw [(show o_like A t m f = (sLike A t m f, -1) from if_pos (by omega))]; rfl) trivial)

set_option maxHeartbeats 4000000 in
set_option maxRecDepth 100000 in
theorem c_X9_count (l : Launch) (D : va_G) (cI cZ : ClassId) (q : Nat) (a : Nat → Nat) (al : Int) (at_ : Int) (st : Int) (so : Int) (va : Int) (fa : Int) (pl : Int) (sg : Int) (su : Int) (A : Int → Int) (kp : Int → Int) (rf : Int → Int) (lk_ : Int → Int) (sh : Int → Int) (pi : Int → Int) (th : Int → Int) (fl : Int → Int) (so_ : Int → Int) (fr : Int → Int) (le : Int → Int) (lg : Int → Int) (bg : Int → Int) (w : Int) (hA : okA A) (hw : -2147483648 ≤ w ∧ w < 2147483648) : GM l D cI cZ yX9_count cX9_count 2 (some .int) ({ frames := 1, cells := 0, slots := 0, locals := 22 }) 0 0 false [.ref q, gi w] [oM q a al at_ st so va fa pl sg su, gA cI (a 0) 1140 A, gA cZ (a 1) 2 kp, gA cI (a 2) 3 rf, gA cI (a 3) 6 lk_, gA cI (a 5) 60 sh, gA cI (a 12) 8 pi, gA cI (a 13) 8 th, gA cI (a 14) 8 fl, gA cI (a 15) 8 so_, gA cI (a 16) 8 fr, gA cI (a 17) 2048 le, gA cI (a 18) 41 lg, gA cI (a 19) 112 bg] (gPxi (fun xo : Unit => (o_count A w).1) (fun xo : Unit => [oM q a al at_ st so va fa pl sg su, gA cI (a 0) 1140 A, gA cZ (a 1) 2 kp, gA cI (a 2) 3 (bump ((o_count A w).2) rf), gA cI (a 3) 6 lk_, gA cI (a 5) 60 sh, gA cI (a 12) 8 pi, gA cI (a 13) 8 th, gA cI (a 14) 8 fl, gA cI (a 15) 8 so_, gA cI (a 16) 8 fr, gA cI (a 17) 2048 le, gA cI (a 18) 41 lg, gA cI (a 19) 112 bg]) (fun xo : Unit => True)) := by
  refine g_enterI (z := false) (lv0 := [(0, .ref q), (1, gi w)]) _ rfl (by decide) rfl rfl (fun V X ret => ?_)
  have hA1 := okA_1 hA
  have hA0 := okA_0 hA
  have hpu := okA_pu hA
  refine g_iload_n (pc := 0) X dX9_count_0 1 rfl ?_
  refine g_iconst (pc := 1) X dX9_count_1 ?_
  refine g_iconst (pc := 2) X dX9_count_2 ?_
  refine gc_Si (pc := 3) X (c_X9_in l D cI cZ w 0 4 (by omega) (by omega) (by omega)) lm_X9_50 dX9_count_3 [] rfl rfl rfl rfl rfl rfl ?_
  refine g_ifeqB (pc := 6) X 18 dX9_count_6 (by decide) (fun h6 => ?_) (fun h6 => ?_)
  · refine g_aload_n (pc := 18) X dX9_count_18 0 rfl ?_
    refine g_bipush (pc := 19) X dX9_count_19 (by decide +kernel) ?_
    refine gc_Vxi (pc := 21) X (wr := [gA cI (a 0) 1140 A, gA cZ (a 1) 2 kp, gA cI (a 3) 6 lk_, gA cI (a 5) 60 sh, gA cI (a 12) 8 pi, gA cI (a 13) 8 th, gA cI (a 14) 8 fl, gA cI (a 15) 8 so_, gA cI (a 16) 8 fr, gA cI (a 17) 2048 le, gA cI (a 18) 41 lg, gA cI (a 19) 112 bg]) (c_X9_refuse l D cI cZ q a al at_ st so va fa pl sg su rf (-2) (by omega)) lm_X9_54 dX9_count_21 [0, 3] [1, 2, 4, 5, 6, 7, 8, 9, 10, 11, 12, 13] rfl rfl rfl rfl (by decide) rfl rfl rfl rfl rfl rfl (fun x21 hx21 => ?_)
    refine g_pick (cn := 0) (sl := 0) (st := gi (-2) :: []) X (ws' := [oM q a al at_ st so va fa pl sg su, gA cI (a 0) 1140 A, gA cZ (a 1) 2 kp, gA cI (a 2) 3 (gupd rf (-2 - (-2)) (rf (-2 - (-2)) + 1)), gA cI (a 3) 6 lk_, gA cI (a 5) 60 sh, gA cI (a 12) 8 pi, gA cI (a 13) 8 th, gA cI (a 14) 8 fl, gA cI (a 15) 8 so_, gA cI (a 16) 8 fr, gA cI (a 17) 2048 le, gA cI (a 18) 41 lg, gA cI (a 19) 112 bg]) [12, 0, 1, 13, 2, 3, 4, 5, 6, 7, 8, 9, 10, 11] rfl rfl ?_
    exact ret _ _ _ _ _ _ dX9_count_24 rfl rfl (fun h => by cases h) (gPxi_e () (by rw [(show o_count A w = (-2, 0) from if_neg (by omega))]) (by rw [(show o_count A w = (-2, 0) from if_neg (by omega))]; rfl) trivial)
  · refine g_aload_n (pc := 9) X dX9_count_9 0 rfl ?_
    refine g_get (pc := 10) X fl_X9_7 dX9_count_10 0 (v := .ref (a 0)) rfl rfl ?_
    refine g_iload_n (pc := 13) X dX9_count_13 1 rfl ?_
    refine g_iald (pc := 14) X dX9_count_14 1 rfl (by omega) rfl ?_
    refine g_goto (pc := 15) X 24 dX9_count_15 (by decide) ?_
    exact ret _ _ _ _ _ _ dX9_count_24 rfl rfl (fun h => by cases h) (gPxi_e () (by rw [(show o_count A w = (A w, -1) from if_pos (by omega))]) (by rw [(show o_count A w = (A w, -1) from if_pos (by omega))]; rfl) trivial)

set_option maxHeartbeats 4000000 in
set_option maxRecDepth 100000 in
theorem c_X9_status (l : Launch) (D : va_G) (cI cZ : ClassId) (q : Nat) (a : Nat → Nat) (al : Int) (at_ : Int) (st : Int) (so : Int) (va : Int) (fa : Int) (pl : Int) (sg : Int) (su : Int) (A : Int → Int) (kp : Int → Int) (rf : Int → Int) (lk_ : Int → Int) (sh : Int → Int) (pi : Int → Int) (th : Int → Int) (fl : Int → Int) (so_ : Int → Int) (fr : Int → Int) (le : Int → Int) (lg : Int → Int) (bg : Int → Int) (w : Int) (hA : okA A) (hw : -2147483648 ≤ w ∧ w < 2147483648) : GM l D cI cZ yX9_status cX9_status 2 (some .int) ({ frames := 1, cells := 0, slots := 0, locals := 22 }) 0 0 false [.ref q, gi w] [oM q a al at_ st so va fa pl sg su, gA cI (a 0) 1140 A, gA cZ (a 1) 2 kp, gA cI (a 2) 3 rf, gA cI (a 3) 6 lk_, gA cI (a 5) 60 sh, gA cI (a 12) 8 pi, gA cI (a 13) 8 th, gA cI (a 14) 8 fl, gA cI (a 15) 8 so_, gA cI (a 16) 8 fr, gA cI (a 17) 2048 le, gA cI (a 18) 41 lg, gA cI (a 19) 112 bg] (gPxi (fun xo : Unit => (o_status rf w).1) (fun xo : Unit => [oM q a al at_ st so va fa pl sg su, gA cI (a 0) 1140 A, gA cZ (a 1) 2 kp, gA cI (a 2) 3 (bump ((o_status rf w).2) rf), gA cI (a 3) 6 lk_, gA cI (a 5) 60 sh, gA cI (a 12) 8 pi, gA cI (a 13) 8 th, gA cI (a 14) 8 fl, gA cI (a 15) 8 so_, gA cI (a 16) 8 fr, gA cI (a 17) 2048 le, gA cI (a 18) 41 lg, gA cI (a 19) 112 bg]) (fun xo : Unit => True)) := by
  refine g_enterI (z := false) (lv0 := [(0, .ref q), (1, gi w)]) _ rfl (by decide) rfl rfl (fun V X ret => ?_)
  have hA1 := okA_1 hA
  have hA0 := okA_0 hA
  have hpu := okA_pu hA
  refine g_iload_n (pc := 0) X dX9_status_0 1 rfl ?_
  refine g_iconst (pc := 1) X dX9_status_1 ?_
  refine g_iconst (pc := 2) X dX9_status_2 ?_
  refine gc_Si (pc := 3) X (c_X9_in l D cI cZ w 0 2 (by omega) (by omega) (by omega)) lm_X9_50 dX9_status_3 [] rfl rfl rfl rfl rfl rfl ?_
  refine g_ifneB (pc := 6) X 18 dX9_status_6 (by decide) (fun h6 => ?_) (fun h6 => ?_)
  · refine g_aload_n (pc := 18) X dX9_status_18 0 rfl ?_
    refine g_get (pc := 19) X fl_X9_17 dX9_status_19 0 (v := .ref (a 2)) rfl rfl ?_
    refine g_iload_n (pc := 22) X dX9_status_22 1 rfl ?_
    refine g_iald (pc := 23) X dX9_status_23 3 rfl (by omega) rfl ?_
    exact ret _ _ _ _ _ _ dX9_status_24 rfl rfl (fun h => by cases h) (gPxi_e () (by rw [(show o_status rf w = (rf w, -1) from if_pos (by omega))]) (by rw [(show o_status rf w = (rf w, -1) from if_pos (by omega))]; rfl) trivial)
  · refine g_aload_n (pc := 9) X dX9_status_9 0 rfl ?_
    refine g_bipush (pc := 10) X dX9_status_10 (by decide +kernel) ?_
    refine gc_Vxi (pc := 12) X (wr := [gA cI (a 0) 1140 A, gA cZ (a 1) 2 kp, gA cI (a 3) 6 lk_, gA cI (a 5) 60 sh, gA cI (a 12) 8 pi, gA cI (a 13) 8 th, gA cI (a 14) 8 fl, gA cI (a 15) 8 so_, gA cI (a 16) 8 fr, gA cI (a 17) 2048 le, gA cI (a 18) 41 lg, gA cI (a 19) 112 bg]) (c_X9_refuse l D cI cZ q a al at_ st so va fa pl sg su rf (-2) (by omega)) lm_X9_54 dX9_status_12 [0, 3] [1, 2, 4, 5, 6, 7, 8, 9, 10, 11, 12, 13] rfl rfl rfl rfl (by decide) rfl rfl rfl rfl rfl rfl (fun x12 hx12 => ?_)
    refine g_pick (cn := 0) (sl := 0) (st := gi (-2) :: []) X (ws' := [oM q a al at_ st so va fa pl sg su, gA cI (a 0) 1140 A, gA cZ (a 1) 2 kp, gA cI (a 2) 3 (gupd rf (-2 - (-2)) (rf (-2 - (-2)) + 1)), gA cI (a 3) 6 lk_, gA cI (a 5) 60 sh, gA cI (a 12) 8 pi, gA cI (a 13) 8 th, gA cI (a 14) 8 fl, gA cI (a 15) 8 so_, gA cI (a 16) 8 fr, gA cI (a 17) 2048 le, gA cI (a 18) 41 lg, gA cI (a 19) 112 bg]) [12, 0, 1, 13, 2, 3, 4, 5, 6, 7, 8, 9, 10, 11] rfl rfl ?_
    refine g_pop (pc := 15) X dX9_status_15 rfl ?_
    refine g_iconst (pc := 16) X dX9_status_16 ?_
    exact ret _ _ _ _ _ _ dX9_status_17 rfl rfl (fun h => by cases h) (gPxi_e () (by rw [(show o_status rf w = (-1, 0) from if_neg (by omega))]) (by rw [(show o_status rf w = (-1, 0) from if_neg (by omega))]; rfl) trivial)
