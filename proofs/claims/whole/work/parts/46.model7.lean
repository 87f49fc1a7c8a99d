/-! the model: numbers -/
set_option maxHeartbeats 4000000 in
set_option maxRecDepth 100000 in
theorem c_X9_set (l : Launch) (D : va_G) (cI cZ : ClassId) (q : Nat) (a : Nat → Nat) (al : Int) (at_ : Int) (st : Int) (so : Int) (va : Int) (fa : Int) (pl : Int) (sg : Int) (su : Int) (bg : Int → Int) (r : Int) (v : Int) (hB : okB bg) (hr : 0 ≤ r ∧ r ≤ 6) (hv : 0 ≤ v ∧ v < 1073741824) : GM l D cI cZ yX9_set cX9_set 4 none ({ frames := 0, cells := 0, slots := 0, locals := 0 }) 0 0 false [.ref q, gi r, gi v] [oM q a al at_ st so va fa pl sg su, gA cI (a 19) 112 bg] (gPxv (fun xo : (Int → Int) => [oM q a al at_ st so va fa pl sg su, gA cI (a 19) 112 xo]) (fun xo : (Int → Int) => (wrote r (v) bg xo))) := by
  refine g_enterV (lv0 := [(0, .ref q), (1, gi r), (2, gi v)]) (by decide) rfl rfl (fun V X ret => ?_)
  refine g_iconst (pc := 0) X dX9_set_0 ?_
  refine g_istore_n (pc := 1) X (lv' := [(0, .ref q), (1, gi r), (2, gi v), (3, gi 0)]) dX9_set_1 rfl rfl ?_
  have L2 : ∀ (n2 : Nat) (i : Int) (e : Int → Int), (0 ≤ i ∧ i ≤ 16) → (fup (16 * r) i (F_set v) bg e) → (16 - i).toNat < n2 → V 0 0 [oM q a al at_ st so va fa pl sg su, gA cI (a 19) 112 e] 2 [(0, .ref q), (1, gi r), (2, gi v), (3, gi i)] [] := by
    intro n2
    induction n2 with
    | zero => intro i e hi he hn2; exact absurd hn2 (Nat.not_lt_zero _)
    | succ n2 ih2 =>
      intro i e hi he hn2
      refine g_iload_n (pc := 2) X dX9_set_2 3 rfl ?_
      refine g_bipush (pc := 3) X dX9_set_3 (by decide +kernel) ?_
      refine g_icmpge (pc := 5) X 34 dX9_set_5 (by decide) (by omega) (by omega) (fun h5 => ?_) (fun h5 => ?_)
      · exact ret _ _ _ _ _ dX9_set_34 rfl rfl (gPxv_e e rfl (by rw [show i = 16 by omega] at he; exact wr_set hB hr hv he))
      · refine g_aload_n (pc := 8) X dX9_set_8 0 rfl ?_
        refine g_get (pc := 9) X fl_X9_47 dX9_set_9 0 (v := .ref (a 19)) rfl rfl ?_
        refine g_bipush (pc := 12) X dX9_set_12 (by decide +kernel) ?_
        refine g_iload_n (pc := 14) X dX9_set_14 1 rfl ?_
        refine g_imul (pc := 15) X dX9_set_15 ?_
        refine g_iload_n (pc := 16) X dX9_set_16 3 rfl ?_
        refine g_iadd (pc := 17) X dX9_set_17 ?_
        refine g_iload_n (pc := 18) X dX9_set_18 3 rfl ?_
        refine g_ifne (pc := 19) X 26 dX9_set_19 (by decide) (by omega) (fun h19 => ?_) (fun h19 => ?_)
        · refine g_iconst (pc := 26) X dX9_set_26 ?_
          refine g_iast (pc := 27) X (ws' := [oM q a al at_ st so va fa pl sg su, gA cI (a 19) 112 (gupd e (16 * r + i) 0)]) dX9_set_27 1 rfl (by omega) rfl rfl ?_
          refine g_iinc (pc := 28) X (lv' := [(0, .ref q), (1, gi r), (2, gi v), (3, gi (i + 1))]) dX9_set_28 3 rfl rfl rfl ?_
          refine g_goto (pc := 31) X 2 dX9_set_31 (by decide) ?_
          exact ih2 _ _ (by omega) (fup_s he hi.1 rfl (by unfold F_set; first | rw [if_pos (by omega)] | rw [if_neg (by omega)])) (by omega)
        · refine g_iload_n (pc := 22) X dX9_set_22 2 rfl ?_
          refine g_goto (pc := 23) X 27 dX9_set_23 (by decide) ?_
          refine g_iast (pc := 27) X (ws' := [oM q a al at_ st so va fa pl sg su, gA cI (a 19) 112 (gupd e (16 * r + i) v)]) dX9_set_27 1 rfl (by omega) rfl rfl ?_
          refine g_iinc (pc := 28) X (lv' := [(0, .ref q), (1, gi r), (2, gi v), (3, gi (i + 1))]) dX9_set_28 3 rfl rfl rfl ?_
          refine g_goto (pc := 31) X 2 dX9_set_31 (by decide) ?_
          exact ih2 _ _ (by omega) (fup_s he hi.1 rfl (by unfold F_set; first | rw [if_pos (by omega)] | rw [if_neg (by omega)])) (by omega)
  exact L2 _ _ _ (by omega) fup_0 (Nat.lt_succ_self _)

set_option maxHeartbeats 4000000 in
set_option maxRecDepth 100000 in
theorem c_X9_copy (l : Launch) (D : va_G) (cI cZ : ClassId) (q : Nat) (a : Nat → Nat) (al : Int) (at_ : Int) (st : Int) (so : Int) (va : Int) (fa : Int) (pl : Int) (sg : Int) (su : Int) (bg : Int → Int) (s : Int) (r : Int) (hB : okB bg) (hs : 0 ≤ s ∧ s ≤ 6) (hr : 0 ≤ r ∧ r ≤ 6) (hsr : s ≠ r) : GM l D cI cZ yX9_copy cX9_copy 4 none ({ frames := 0, cells := 0, slots := 0, locals := 0 }) 0 0 false [.ref q, gi s, gi r] [oM q a al at_ st so va fa pl sg su, gA cI (a 19) 112 bg] (gPxv (fun xo : (Int → Int) => [oM q a al at_ st so va fa pl sg su, gA cI (a 19) 112 xo]) (fun xo : (Int → Int) => (wrote r (nv bg s) bg xo))) := by
  refine g_enterV (lv0 := [(0, .ref q), (1, gi s), (2, gi r)]) (by decide) rfl rfl (fun V X ret => ?_)
  refine g_iconst (pc := 0) X dX9_copy_0 ?_
  refine g_istore_n (pc := 1) X (lv' := [(0, .ref q), (1, gi s), (2, gi r), (3, gi 0)]) dX9_copy_1 rfl rfl ?_
  have L2 : ∀ (n2 : Nat) (i : Int) (e : Int → Int), (0 ≤ i ∧ i ≤ 16) → (fup (16 * r) i (fun k => bg (16 * s + k)) bg e) → (16 - i).toNat < n2 → V 0 0 [oM q a al at_ st so va fa pl sg su, gA cI (a 19) 112 e] 2 [(0, .ref q), (1, gi s), (2, gi r), (3, gi i)] [] := by
    intro n2
    induction n2 with
    | zero => intro i e hi he hn2; exact absurd hn2 (Nat.not_lt_zero _)
    | succ n2 ih2 =>
      intro i e hi he hn2
      refine g_iload_n (pc := 2) X dX9_copy_2 3 rfl ?_
      refine g_bipush (pc := 3) X dX9_copy_3 (by decide +kernel) ?_
      refine g_icmpge (pc := 5) X 36 dX9_copy_5 (by decide) (by omega) (by omega) (fun h5 => ?_) (fun h5 => ?_)
      · exact ret _ _ _ _ _ dX9_copy_36 rfl rfl (gPxv_e e rfl (by rw [show i = 16 by omega] at he; exact wr_copy hB hr hs he))
      · refine g_aload_n (pc := 8) X dX9_copy_8 0 rfl ?_
        refine g_get (pc := 9) X fl_X9_47 dX9_copy_9 0 (v := .ref (a 19)) rfl rfl ?_
        refine g_bipush (pc := 12) X dX9_copy_12 (by decide +kernel) ?_
        refine g_iload_n (pc := 14) X dX9_copy_14 2 rfl ?_
        refine g_imul (pc := 15) X dX9_copy_15 ?_
        refine g_iload_n (pc := 16) X dX9_copy_16 3 rfl ?_
        refine g_iadd (pc := 17) X dX9_copy_17 ?_
        refine g_aload_n (pc := 18) X dX9_copy_18 0 rfl ?_
        refine g_get (pc := 19) X fl_X9_47 dX9_copy_19 0 (v := .ref (a 19)) rfl rfl ?_
        refine g_bipush (pc := 22) X dX9_copy_22 (by decide +kernel) ?_
        refine g_iload_n (pc := 24) X dX9_copy_24 1 rfl ?_
        refine g_imul (pc := 25) X dX9_copy_25 ?_
        refine g_iload_n (pc := 26) X dX9_copy_26 3 rfl ?_
        refine g_iadd (pc := 27) X dX9_copy_27 ?_
        refine g_iald (pc := 28) X dX9_copy_28 1 rfl (by omega) rfl ?_
        refine g_top (b := bg (16 * s + i)) (he.2 _ (by omega)) ?_
        refine g_iast (pc := 29) X (ws' := [oM q a al at_ st so va fa pl sg su, gA cI (a 19) 112 (gupd e (16 * r + i) (bg (16 * s + i)))]) dX9_copy_29 1 rfl (by omega) rfl rfl ?_
        refine g_iinc (pc := 30) X (lv' := [(0, .ref q), (1, gi s), (2, gi r), (3, gi (i + 1))]) dX9_copy_30 3 rfl rfl rfl ?_
        refine g_goto (pc := 33) X 2 dX9_copy_33 (by decide) ?_
        exact ih2 _ _ (by omega) (fup_s he hi.1 rfl rfl) (by omega)
  exact L2 _ _ _ (by omega) fup_0 (Nat.lt_succ_self _)

set_option maxHeartbeats 4000000 in
set_option maxRecDepth 100000 in
theorem c_X9_times (l : Launch) (D : va_G) (cI cZ : ClassId) (q : Nat) (a : Nat → Nat) (al : Int) (at_ : Int) (st : Int) (so : Int) (va : Int) (fa : Int) (pl : Int) (sg : Int) (su : Int) (bg : Int → Int) (r : Int) (v : Int) (hB : okB bg) (hr : 0 ≤ r ∧ r ≤ 6) (hv : 0 ≤ v ∧ v < 1073741824) (hP : nv bg r * v < BB) : GM l D cI cZ yX9_times cX9_times 8 none ({ frames := 0, cells := 0, slots := 0, locals := 0 }) 0 0 false [.ref q, gi r, gi v] [oM q a al at_ st so va fa pl sg su, gA cI (a 19) 112 bg] (gPxv (fun xo : (Int → Int) => [oM q a al at_ st so va fa pl sg su, gA cI (a 19) 112 xo]) (fun xo : (Int → Int) => (wrote r (nv bg r * v) bg xo))) := by
  refine g_enterV (lv0 := [(0, .ref q), (1, gi r), (2, gi v)]) (by decide) rfl rfl (fun V X ret => ?_)
  refine g_lconst (z := 0) (pc := 0) X dX9_times_0 (by decide +kernel) ?_
  refine g_lstore_n (pc := 1) X (lv' := [(0, .ref q), (1, gi r), (2, gi v), (3, gl 0)]) dX9_times_1 rfl rfl ?_
  refine g_iconst (pc := 2) X dX9_times_2 ?_
  refine g_istore (pc := 3) X (lv' := [(0, .ref q), (1, gi r), (2, gi v), (3, gl 0), (5, gi 0)]) dX9_times_3 rfl rfl ?_
  have L5 : ∀ (n5 : Nat) (x : Int) (i : Int) (e : Int → Int), (0 ≤ i ∧ i ≤ 16) → (0 ≤ x ∧ x < 1073741824) → (x = cyc (X_mul bg r v) i) → (fup (16 * r) i (F_cy (X_mul bg r v)) bg e) → (16 - i).toNat < n5 → V 0 0 [oM q a al at_ st so va fa pl sg su, gA cI (a 19) 112 e] 5 [(0, .ref q), (1, gi r), (2, gi v), (3, gl x), (5, gi i)] [] := by
    intro n5
    induction n5 with
    | zero => intro x i e hi hxb hx he hn5; exact absurd hn5 (Nat.not_lt_zero _)
    | succ n5 ih5 =>
      intro x i e hi hxb hx he hn5
      refine g_iload (pc := 5) X dX9_times_5 4 rfl ?_
      refine g_bipush (pc := 7) X dX9_times_7 (by decide +kernel) ?_
      refine g_icmpge (pc := 9) X 64 dX9_times_9 (by decide) (by omega) (by omega) (fun h9 => ?_) (fun h9 => ?_)
      · exact ret _ _ _ _ _ dX9_times_64 rfl rfl (gPxv_e e rfl (by rw [show i = 16 by omega] at he; exact wr_cy hB hr X_mul_v ⟨Int.mul_nonneg (nv_b hB hr).1 hv.1, hP⟩ he))
      · refine g_aload_n (pc := 12) X dX9_times_12 0 rfl ?_
        refine g_get (pc := 13) X fl_X9_47 dX9_times_13 0 (v := .ref (a 19)) rfl rfl ?_
        refine g_bipush (pc := 16) X dX9_times_16 (by decide +kernel) ?_
        refine g_iload_n (pc := 18) X dX9_times_18 1 rfl ?_
        refine g_imul (pc := 19) X dX9_times_19 ?_
        refine g_iload (pc := 20) X dX9_times_20 4 rfl ?_
        refine g_iadd (pc := 22) X dX9_times_22 ?_
        refine g_iald (pc := 23) X dX9_times_23 1 rfl (by omega) rfl ?_
        refine g_top (b := bg (16 * r + i)) (he.2 _ (by omega)) ?_
        have hd := hB (16 * r + i) (by omega) (by omega)
        have hm := mulb (a := bg (16 * r + i)) (b := v) (A := 1073741823) (B := 1073741823) (by omega) (by omega)
        refine g_i2l (pc := 24) X dX9_times_24 (by omega) ?_
        refine g_iload_n (pc := 25) X dX9_times_25 2 rfl ?_
        refine g_i2l (pc := 26) X dX9_times_26 (by omega) ?_
        refine g_lmul (pc := 27) X dX9_times_27 ?_
        refine g_lload_n (pc := 28) X dX9_times_28 3 rfl ?_
        refine g_ladd (pc := 29) X dX9_times_29 ?_
        refine g_lstore (pc := 30) X (lv' := [(0, .ref q), (1, gi r), (2, gi v), (3, gl x), (5, gi i), (6, gl ((bg (16 * r + i)) * v + x))]) dX9_times_30 rfl rfl ?_
        refine g_aload_n (pc := 32) X dX9_times_32 0 rfl ?_
        refine g_get (pc := 33) X fl_X9_47 dX9_times_33 0 (v := .ref (a 19)) rfl rfl ?_
        refine g_bipush (pc := 36) X dX9_times_36 (by decide +kernel) ?_
        refine g_iload_n (pc := 38) X dX9_times_38 1 rfl ?_
        refine g_imul (pc := 39) X dX9_times_39 ?_
        refine g_iload (pc := 40) X dX9_times_40 4 rfl ?_
        refine g_iadd (pc := 42) X dX9_times_42 ?_
        refine g_lload (pc := 43) X dX9_times_43 5 rfl ?_
        refine g_ldc2 (pc := 45) X dX9_times_45 kc_X9_203 ?_
        refine g_lrem (pc := 48) X dX9_times_48 (by omega) (by omega) ?_
        refine g_l2i (pc := 49) X dX9_times_49 ?_
        refine g_iast (pc := 50) X (ws' := [oM q a al at_ st so va fa pl sg su, gA cI (a 19) 112 (gupd e (16 * r + i) (((bg (16 * r + i)) * v + x) % 1073741824))]) dX9_times_50 1 rfl (by omega) rfl rfl ?_
        refine g_lload (pc := 51) X dX9_times_51 5 rfl ?_
        refine g_ldc2 (pc := 53) X dX9_times_53 kc_X9_203 ?_
        refine g_ldiv (pc := 56) X dX9_times_56 (by omega) (by omega) ?_
        refine g_lstore_n (pc := 57) X (lv' := [(0, .ref q), (1, gi r), (2, gi v), (3, gl (((bg (16 * r + i)) * v + x) / 1073741824)), (5, gi i), (6, gl ((bg (16 * r + i)) * v + x))]) dX9_times_57 rfl rfl ?_
        refine g_iinc (pc := 58) X (lv' := [(0, .ref q), (1, gi r), (2, gi v), (3, gl (((bg (16 * r + i)) * v + x) / 1073741824)), (5, gi (i + 1)), (6, gl ((bg (16 * r + i)) * v + x))]) dX9_times_58 4 rfl rfl rfl ?_
        refine g_goto (pc := 61) X 5 dX9_times_61 (by decide) ?_
        refine g_lsub X [0, 1, 2, 3, 4] rfl ?_
        exact ih5 _ _ _ (by omega) (by omega) (by rw [cyc_s hi.1, ← hx]; rfl) (fup_s he hi.1 rfl (by unfold F_cy; rw [← hx]; rfl)) (by omega)
  exact L5 _ _ _ _ (by omega) (by omega) (by rfl) fup_0 (Nat.lt_succ_self _)

set_option maxHeartbeats 4000000 in
set_option maxRecDepth 100000 in
theorem c_X9_add (l : Launch) (D : va_G) (cI cZ : ClassId) (q : Nat) (a : Nat → Nat) (al : Int) (at_ : Int) (st : Int) (so : Int) (va : Int) (fa : Int) (pl : Int) (sg : Int) (su : Int) (bg : Int → Int) (r : Int) (s : Int) (hB : okB bg) (hr : 0 ≤ r ∧ r ≤ 6) (hs : 0 ≤ s ∧ s ≤ 6) (hsr : r ≠ s) (hP : nv bg r + nv bg s < BB) : GM l D cI cZ yX9_add cX9_add 7 none ({ frames := 0, cells := 0, slots := 0, locals := 0 }) 0 0 false [.ref q, gi r, gi s] [oM q a al at_ st so va fa pl sg su, gA cI (a 19) 112 bg] (gPxv (fun xo : (Int → Int) => [oM q a al at_ st so va fa pl sg su, gA cI (a 19) 112 xo]) (fun xo : (Int → Int) => (wrote r (nv bg r + nv bg s) bg xo))) := by
  refine g_enterV (lv0 := [(0, .ref q), (1, gi r), (2, gi s)]) (by decide) rfl rfl (fun V X ret => ?_)
  refine g_iconst (pc := 0) X dX9_add_0 ?_
  refine g_istore_n (pc := 1) X (lv' := [(0, .ref q), (1, gi r), (2, gi s), (3, gi 0)]) dX9_add_1 rfl rfl ?_
  refine g_iconst (pc := 2) X dX9_add_2 ?_
  refine g_istore (pc := 3) X (lv' := [(0, .ref q), (1, gi r), (2, gi s), (3, gi 0), (4, gi 0)]) dX9_add_3 rfl rfl ?_
  have L5 : ∀ (n5 : Nat) (x : Int) (i : Int) (e : Int → Int), (0 ≤ i ∧ i ≤ 16) → (0 ≤ x ∧ x ≤ 1) → (x = cyc (X_add bg r s) i) → (fup (16 * r) i (F_cy (X_add bg r s)) bg e) → (16 - i).toNat < n5 → V 0 0 [oM q a al at_ st so va fa pl sg su, gA cI (a 19) 112 e] 5 [(0, .ref q), (1, gi r), (2, gi s), (3, gi x), (4, gi i)] [] := by
    intro n5
    induction n5 with
    | zero => intro x i e hi hxb hx he hn5; exact absurd hn5 (Nat.not_lt_zero _)
    | succ n5 ih5 =>
      intro x i e hi hxb hx he hn5
      refine g_iload (pc := 5) X dX9_add_5 4 rfl ?_
      refine g_bipush (pc := 7) X dX9_add_7 (by decide +kernel) ?_
      refine g_icmpge (pc := 9) X 77 dX9_add_9 (by decide) (by omega) (by omega) (fun h9 => ?_) (fun h9 => ?_)
      · exact ret _ _ _ _ _ dX9_add_77 rfl rfl (gPxv_e e rfl (by rw [show i = 16 by omega] at he; have n1 := nv_b hB hr; have n2 := nv_b hB hs; exact wr_cy hB hr X_add_v ⟨by omega, hP⟩ he))
      · refine g_aload_n (pc := 12) X dX9_add_12 0 rfl ?_
        refine g_get (pc := 13) X fl_X9_47 dX9_add_13 0 (v := .ref (a 19)) rfl rfl ?_
        refine g_bipush (pc := 16) X dX9_add_16 (by decide +kernel) ?_
        refine g_iload_n (pc := 18) X dX9_add_18 1 rfl ?_
        refine g_imul (pc := 19) X dX9_add_19 ?_
        refine g_iload (pc := 20) X dX9_add_20 4 rfl ?_
        refine g_iadd (pc := 22) X dX9_add_22 ?_
        refine g_iald (pc := 23) X dX9_add_23 1 rfl (by omega) rfl ?_
        refine g_top (b := bg (16 * r + i)) (he.2 _ (by omega)) ?_
        have hd := hB (16 * r + i) (by omega) (by omega)
        refine g_i2l (pc := 24) X dX9_add_24 (by omega) ?_
        refine g_aload_n (pc := 25) X dX9_add_25 0 rfl ?_
        refine g_get (pc := 26) X fl_X9_47 dX9_add_26 0 (v := .ref (a 19)) rfl rfl ?_
        refine g_bipush (pc := 29) X dX9_add_29 (by decide +kernel) ?_
        refine g_iload_n (pc := 31) X dX9_add_31 2 rfl ?_
        refine g_imul (pc := 32) X dX9_add_32 ?_
        refine g_iload (pc := 33) X dX9_add_33 4 rfl ?_
        refine g_iadd (pc := 35) X dX9_add_35 ?_
        refine g_iald (pc := 36) X dX9_add_36 1 rfl (by omega) rfl ?_
        refine g_top (b := bg (16 * s + i)) (he.2 _ (by omega)) ?_
        have hd2 := hB (16 * s + i) (by omega) (by omega)
        refine g_i2l (pc := 37) X dX9_add_37 (by omega) ?_
        refine g_ladd (pc := 38) X dX9_add_38 ?_
        refine g_iload_n (pc := 39) X dX9_add_39 3 rfl ?_
        refine g_i2l (pc := 40) X dX9_add_40 (by omega) ?_
        refine g_ladd (pc := 41) X dX9_add_41 ?_
        refine g_lstore (pc := 42) X (lv' := [(0, .ref q), (1, gi r), (2, gi s), (3, gi x), (4, gi i), (5, gl ((bg (16 * r + i)) + (bg (16 * s + i)) + x))]) dX9_add_42 rfl rfl ?_
        refine g_aload_n (pc := 44) X dX9_add_44 0 rfl ?_
        refine g_get (pc := 45) X fl_X9_47 dX9_add_45 0 (v := .ref (a 19)) rfl rfl ?_
        refine g_bipush (pc := 48) X dX9_add_48 (by decide +kernel) ?_
        refine g_iload_n (pc := 50) X dX9_add_50 1 rfl ?_
        refine g_imul (pc := 51) X dX9_add_51 ?_
        refine g_iload (pc := 52) X dX9_add_52 4 rfl ?_
        refine g_iadd (pc := 54) X dX9_add_54 ?_
        refine g_lload (pc := 55) X dX9_add_55 5 rfl ?_
        refine g_ldc2 (pc := 57) X dX9_add_57 kc_X9_203 ?_
        refine g_lrem (pc := 60) X dX9_add_60 (by omega) (by omega) ?_
        refine g_l2i (pc := 61) X dX9_add_61 ?_
        refine g_iast (pc := 62) X (ws' := [oM q a al at_ st so va fa pl sg su, gA cI (a 19) 112 (gupd e (16 * r + i) (((bg (16 * r + i)) + (bg (16 * s + i)) + x) % 1073741824))]) dX9_add_62 1 rfl (by omega) rfl rfl ?_
        refine g_lload (pc := 63) X dX9_add_63 5 rfl ?_
        refine g_ldc2 (pc := 65) X dX9_add_65 kc_X9_203 ?_
        refine g_ldiv (pc := 68) X dX9_add_68 (by omega) (by omega) ?_
        refine g_l2i (pc := 69) X dX9_add_69 ?_
        refine g_istore_n (pc := 70) X (lv' := [(0, .ref q), (1, gi r), (2, gi s), (3, gi (((bg (16 * r + i)) + (bg (16 * s + i)) + x) / 1073741824)), (4, gi i), (5, gl ((bg (16 * r + i)) + (bg (16 * s + i)) + x))]) dX9_add_70 rfl rfl ?_
        refine g_iinc (pc := 71) X (lv' := [(0, .ref q), (1, gi r), (2, gi s), (3, gi (((bg (16 * r + i)) + (bg (16 * s + i)) + x) / 1073741824)), (4, gi (i + 1)), (5, gl ((bg (16 * r + i)) + (bg (16 * s + i)) + x))]) dX9_add_71 4 rfl rfl rfl ?_
        refine g_goto (pc := 74) X 5 dX9_add_74 (by decide) ?_
        refine g_lsub X [0, 1, 2, 3, 4] rfl ?_
        exact ih5 _ _ _ (by omega) (by omega) (by rw [cyc_s hi.1, ← hx]; rfl) (fup_s he hi.1 rfl (by unfold F_cy; rw [← hx]; rfl)) (by omega)
  exact L5 _ _ _ _ (by omega) (by omega) (by rfl) fup_0 (Nat.lt_succ_self _)

set_option maxHeartbeats 4000000 in
set_option maxRecDepth 100000 in
theorem c_X9_less (l : Launch) (D : va_G) (cI cZ : ClassId) (q : Nat) (a : Nat → Nat) (al : Int) (at_ : Int) (st : Int) (so : Int) (va : Int) (fa : Int) (pl : Int) (sg : Int) (su : Int) (bg : Int → Int) (r : Int) (s : Int) (hB : okB bg) (hr : 0 ≤ r ∧ r ≤ 6) (hs : 0 ≤ s ∧ s ≤ 6) (hsr : r ≠ s) (hP : nv bg s ≤ nv bg r) : GM l D cI cZ yX9_less cX9_less 6 none ({ frames := 0, cells := 0, slots := 0, locals := 0 }) 0 0 false [.ref q, gi r, gi s] [oM q a al at_ st so va fa pl sg su, gA cI (a 19) 112 bg] (gPxv (fun xo : (Int → Int) => [oM q a al at_ st so va fa pl sg su, gA cI (a 19) 112 xo]) (fun xo : (Int → Int) => (wrote r (nv bg r - nv bg s) bg xo))) := by
  refine g_enterV (lv0 := [(0, .ref q), (1, gi r), (2, gi s)]) (by decide) rfl rfl (fun V X ret => ?_)
  refine g_iconst (pc := 0) X dX9_less_0 ?_
  refine g_istore_n (pc := 1) X (lv' := [(0, .ref q), (1, gi r), (2, gi s), (3, gi 0)]) dX9_less_1 rfl rfl ?_
  refine g_iconst (pc := 2) X dX9_less_2 ?_
  refine g_istore (pc := 3) X (lv' := [(0, .ref q), (1, gi r), (2, gi s), (3, gi 0), (4, gi 0)]) dX9_less_3 rfl rfl ?_
  have L5 : ∀ (n5 : Nat) (x : Int) (i : Int) (e : Int → Int), (0 ≤ i ∧ i ≤ 16) → (0 ≤ x ∧ x ≤ 1) → (-x = cyc (X_sub bg r s) i) → (fup (16 * r) i (F_cy (X_sub bg r s)) bg e) → (16 - i).toNat < n5 → V 0 0 [oM q a al at_ st so va fa pl sg su, gA cI (a 19) 112 e] 5 [(0, .ref q), (1, gi r), (2, gi s), (3, gi x), (4, gi i)] [] := by
    intro n5
    induction n5 with
    | zero => intro x i e hi hxb hx he hn5; exact absurd hn5 (Nat.not_lt_zero _)
    | succ n5 ih5 =>
      intro x i e hi hxb hx he hn5
      refine g_iload (pc := 5) X dX9_less_5 4 rfl ?_
      refine g_bipush (pc := 7) X dX9_less_7 (by decide +kernel) ?_
      refine g_icmpge (pc := 9) X 85 dX9_less_9 (by decide) (by omega) (by omega) (fun h9 => ?_) (fun h9 => ?_)
      · exact ret _ _ _ _ _ dX9_less_85 rfl rfl (gPxv_e e rfl (by rw [show i = 16 by omega] at he; have n1 := nv_b hB hr; have n2 := nv_b hB hs; exact wr_cy hB hr X_sub_v ⟨by omega, by omega⟩ he))
      · refine g_aload_n (pc := 12) X dX9_less_12 0 rfl ?_
        refine g_get (pc := 13) X fl_X9_47 dX9_less_13 0 (v := .ref (a 19)) rfl rfl ?_
        refine g_bipush (pc := 16) X dX9_less_16 (by decide +kernel) ?_
        refine g_iload_n (pc := 18) X dX9_less_18 1 rfl ?_
        refine g_imul (pc := 19) X dX9_less_19 ?_
        refine g_iload (pc := 20) X dX9_less_20 4 rfl ?_
        refine g_iadd (pc := 22) X dX9_less_22 ?_
        refine g_iald (pc := 23) X dX9_less_23 1 rfl (by omega) rfl ?_
        refine g_top (b := bg (16 * r + i)) (he.2 _ (by omega)) ?_
        have hd := hB (16 * r + i) (by omega) (by omega)
        refine g_aload_n (pc := 24) X dX9_less_24 0 rfl ?_
        refine g_get (pc := 25) X fl_X9_47 dX9_less_25 0 (v := .ref (a 19)) rfl rfl ?_
        refine g_bipush (pc := 28) X dX9_less_28 (by decide +kernel) ?_
        refine g_iload_n (pc := 30) X dX9_less_30 2 rfl ?_
        refine g_imul (pc := 31) X dX9_less_31 ?_
        refine g_iload (pc := 32) X dX9_less_32 4 rfl ?_
        refine g_iadd (pc := 34) X dX9_less_34 ?_
        refine g_iald (pc := 35) X dX9_less_35 1 rfl (by omega) rfl ?_
        refine g_top (b := bg (16 * s + i)) (he.2 _ (by omega)) ?_
        have hd2 := hB (16 * s + i) (by omega) (by omega)
        refine g_isub (pc := 36) X dX9_less_36 ?_
        refine g_iload_n (pc := 37) X dX9_less_37 3 rfl ?_
        refine g_isub (pc := 38) X dX9_less_38 ?_
        refine g_istore (pc := 39) X (lv' := [(0, .ref q), (1, gi r), (2, gi s), (3, gi x), (4, gi i), (5, gi ((bg (16 * r + i)) - (bg (16 * s + i)) - x))]) dX9_less_39 rfl rfl ?_
        refine g_iload (pc := 41) X dX9_less_41 5 rfl ?_
        refine g_ifge (pc := 43) X 50 dX9_less_43 (by decide) (by omega) (fun h43 => ?_) (fun h43 => ?_)
        · refine g_iconst (pc := 50) X dX9_less_50 ?_
          refine g_istore_n (pc := 51) X (lv' := [(0, .ref q), (1, gi r), (2, gi s), (3, gi 0), (4, gi i), (5, gi ((bg (16 * r + i)) - (bg (16 * s + i)) - x))]) dX9_less_51 rfl rfl ?_
          refine g_aload_n (pc := 52) X dX9_less_52 0 rfl ?_
          refine g_get (pc := 53) X fl_X9_47 dX9_less_53 0 (v := .ref (a 19)) rfl rfl ?_
          refine g_bipush (pc := 56) X dX9_less_56 (by decide +kernel) ?_
          refine g_iload_n (pc := 58) X dX9_less_58 1 rfl ?_
          refine g_imul (pc := 59) X dX9_less_59 ?_
          refine g_iload (pc := 60) X dX9_less_60 4 rfl ?_
          refine g_iadd (pc := 62) X dX9_less_62 ?_
          refine g_iload (pc := 63) X dX9_less_63 5 rfl ?_
          refine g_ifge (pc := 65) X 76 dX9_less_65 (by decide) (by omega) (fun h65 => ?_) (fun h65 => absurd h65 (by omega))
          refine g_iload (pc := 76) X dX9_less_76 5 rfl ?_
          refine g_iast (pc := 78) X (ws' := [oM q a al at_ st so va fa pl sg su, gA cI (a 19) 112 (gupd e (16 * r + i) ((bg (16 * r + i)) - (bg (16 * s + i)) - x))]) dX9_less_78 1 rfl (by omega) rfl rfl ?_
          refine g_iinc (pc := 79) X (lv' := [(0, .ref q), (1, gi r), (2, gi s), (3, gi 0), (4, gi (i + 1)), (5, gi ((bg (16 * r + i)) - (bg (16 * s + i)) - x))]) dX9_less_79 4 rfl rfl rfl ?_
          refine g_goto (pc := 82) X 5 dX9_less_82 (by decide) ?_
          refine g_lsub X [0, 1, 2, 3, 4] rfl ?_
          exact ih5 _ _ _ (by omega) (by omega) (by rw [cyc_s hi.1, ← hx]; unfold X_sub; omega) (fup_s he hi.1 rfl (by unfold F_cy; rw [← hx]; unfold X_sub; omega)) (by omega)
        · refine g_iconst (pc := 46) X dX9_less_46 ?_
          refine g_goto (pc := 47) X 51 dX9_less_47 (by decide) ?_
          refine g_istore_n (pc := 51) X (lv' := [(0, .ref q), (1, gi r), (2, gi s), (3, gi 1), (4, gi i), (5, gi ((bg (16 * r + i)) - (bg (16 * s + i)) - x))]) dX9_less_51 rfl rfl ?_
          refine g_aload_n (pc := 52) X dX9_less_52 0 rfl ?_
          refine g_get (pc := 53) X fl_X9_47 dX9_less_53 0 (v := .ref (a 19)) rfl rfl ?_
          refine g_bipush (pc := 56) X dX9_less_56 (by decide +kernel) ?_
          refine g_iload_n (pc := 58) X dX9_less_58 1 rfl ?_
          refine g_imul (pc := 59) X dX9_less_59 ?_
          refine g_iload (pc := 60) X dX9_less_60 4 rfl ?_
          refine g_iadd (pc := 62) X dX9_less_62 ?_
          refine g_iload (pc := 63) X dX9_less_63 5 rfl ?_
          refine g_ifge (pc := 65) X 76 dX9_less_65 (by decide) (by omega) (fun h65 => absurd h65 (by omega)) (fun h65 => ?_)
          refine g_iload (pc := 68) X dX9_less_68 5 rfl ?_
          refine g_ldc (pc := 70) X dX9_less_70 kc_X9_205 ?_
          refine g_iadd (pc := 72) X dX9_less_72 ?_
          refine g_goto (pc := 73) X 78 dX9_less_73 (by decide) ?_
          refine g_iast (pc := 78) X (ws' := [oM q a al at_ st so va fa pl sg su, gA cI (a 19) 112 (gupd e (16 * r + i) ((bg (16 * r + i)) - (bg (16 * s + i)) - x + 1073741824))]) dX9_less_78 1 rfl (by omega) rfl rfl ?_
          refine g_iinc (pc := 79) X (lv' := [(0, .ref q), (1, gi r), (2, gi s), (3, gi 1), (4, gi (i + 1)), (5, gi ((bg (16 * r + i)) - (bg (16 * s + i)) - x))]) dX9_less_79 4 rfl rfl rfl ?_
          refine g_goto (pc := 82) X 5 dX9_less_82 (by decide) ?_
          refine g_lsub X [0, 1, 2, 3, 4] rfl ?_
          exact ih5 _ _ _ (by omega) (by omega) (by rw [cyc_s hi.1, ← hx]; unfold X_sub; omega) (fup_s he hi.1 rfl (by unfold F_cy; rw [← hx]; unfold X_sub; omega)) (by omega)
  exact L5 _ _ _ _ (by omega) (by omega) (by rfl) fup_0 (Nat.lt_succ_self _)

set_option maxHeartbeats 4000000 in
set_option maxRecDepth 100000 in
theorem c_X9_compare (l : Launch) (D : va_G) (cI cZ : ClassId) (q : Nat) (a : Nat → Nat) (al : Int) (at_ : Int) (st : Int) (so : Int) (va : Int) (fa : Int) (pl : Int) (sg : Int) (su : Int) (bg : Int → Int) (r : Int) (s : Int) (hB : okB bg) (hr : 0 ≤ r ∧ r ≤ 6) (hs : 0 ≤ s ∧ s ≤ 6) : GM l D cI cZ yX9_compare cX9_compare 6 (some .int) ({ frames := 0, cells := 0, slots := 0, locals := 0 }) 0 0 true [.ref q, gi r, gi s] [oM q a al at_ st so va fa pl sg su, gA cI (a 19) 112 bg] (gPi (gcmp (nv bg r) (nv bg s))) := by
  refine g_enterI (z := false) (lv0 := [(0, .ref q), (1, gi r), (2, gi s)]) _ rfl (by decide) rfl rfl (fun V X ret => ?_)
  refine g_bipush (pc := 0) X dX9_compare_0 (by decide +kernel) ?_
  refine g_istore_n (pc := 2) X (lv' := [(0, .ref q), (1, gi r), (2, gi s), (3, gi 15)]) dX9_compare_2 rfl rfl ?_
  have L3 : ∀ (n3 : Nat) (i : Int), (-1 ≤ i ∧ i ≤ 15) → (∀ b, i < b → b < 16 → bg (16 * r + b) = bg (16 * s + b)) → (i + 1).toNat < n3 → V 0 0 [oM q a al at_ st so va fa pl sg su, gA cI (a 19) 112 bg] 3 [(0, .ref q), (1, gi r), (2, gi s), (3, gi i)] [] := by
    intro n3
    induction n3 with
    | zero => intro i hi he hn3; exact absurd hn3 (Nat.not_lt_zero _)
    | succ n3 ih3 =>
      intro i hi he hn3
      refine g_iload_n (pc := 3) X dX9_compare_3 3 rfl ?_
      refine g_iflt (pc := 4) X 59 dX9_compare_4 (by decide) (by omega) (fun h4 => ?_) (fun h4 => ?_)
      · refine g_iconst (pc := 59) X dX9_compare_59 ?_
        exact ret _ _ _ _ _ _ dX9_compare_60 rfl rfl (fun h => by cases h) (gPi_e (by have hc := nv_eq (f := bg) (r := r) (s := s) (fun b b0 b1 => he b (by omega) b1); unfold gcmp; rw [if_neg (by omega), if_pos (by omega)]))
      · refine g_aload_n (pc := 7) X dX9_compare_7 0 rfl ?_
        refine g_get (pc := 8) X fl_X9_47 dX9_compare_8 0 (v := .ref (a 19)) rfl rfl ?_
        refine g_bipush (pc := 11) X dX9_compare_11 (by decide +kernel) ?_
        refine g_iload_n (pc := 13) X dX9_compare_13 1 rfl ?_
        refine g_imul (pc := 14) X dX9_compare_14 ?_
        refine g_iload_n (pc := 15) X dX9_compare_15 3 rfl ?_
        refine g_iadd (pc := 16) X dX9_compare_16 ?_
        refine g_iald (pc := 17) X dX9_compare_17 1 rfl (by omega) rfl ?_
        have hd := hB (16 * r + i) (by omega) (by omega)
        refine g_istore (pc := 18) X (lv' := [(0, .ref q), (1, gi r), (2, gi s), (3, gi i), (4, gi (bg (16 * r + i)))]) dX9_compare_18 rfl rfl ?_
        refine g_aload_n (pc := 20) X dX9_compare_20 0 rfl ?_
        refine g_get (pc := 21) X fl_X9_47 dX9_compare_21 0 (v := .ref (a 19)) rfl rfl ?_
        refine g_bipush (pc := 24) X dX9_compare_24 (by decide +kernel) ?_
        refine g_iload_n (pc := 26) X dX9_compare_26 2 rfl ?_
        refine g_imul (pc := 27) X dX9_compare_27 ?_
        refine g_iload_n (pc := 28) X dX9_compare_28 3 rfl ?_
        refine g_iadd (pc := 29) X dX9_compare_29 ?_
        refine g_iald (pc := 30) X dX9_compare_30 1 rfl (by omega) rfl ?_
        have hd2 := hB (16 * s + i) (by omega) (by omega)
        refine g_istore (pc := 31) X (lv' := [(0, .ref q), (1, gi r), (2, gi s), (3, gi i), (4, gi (bg (16 * r + i))), (5, gi (bg (16 * s + i)))]) dX9_compare_31 rfl rfl ?_
        refine g_iload (pc := 33) X dX9_compare_33 4 rfl ?_
        refine g_iload (pc := 35) X dX9_compare_35 5 rfl ?_
        refine g_icmpeq (pc := 37) X 53 dX9_compare_37 (by decide) (by omega) (by omega) (fun h37 => ?_) (fun h37 => ?_)
        · refine g_iinc (pc := 53) X (lv' := [(0, .ref q), (1, gi r), (2, gi s), (3, gi (i + (-1))), (4, gi (bg (16 * r + i))), (5, gi (bg (16 * s + i)))]) dX9_compare_53 3 rfl rfl rfl ?_
          refine g_goto (pc := 56) X 3 dX9_compare_56 (by decide) ?_
          refine g_lsub X [0, 1, 2, 3] rfl ?_
          exact ih3 _ (by omega) (fun b b0 b1 => by rcases Int.lt_or_le i b with qq | qq; exact he b qq b1; rw [show b = i by omega]; exact h37) (by omega)
        · refine g_iload (pc := 40) X dX9_compare_40 4 rfl ?_
          refine g_iload (pc := 42) X dX9_compare_42 5 rfl ?_
          refine g_icmpge (pc := 44) X 51 dX9_compare_44 (by decide) (by omega) (by omega) (fun h44 => ?_) (fun h44 => ?_)
          · refine g_iconst (pc := 51) X dX9_compare_51 ?_
            exact ret _ _ _ _ _ _ dX9_compare_52 rfl rfl (fun h => by cases h) (gPi_e (by have hc := nv_cmp hB hs hr (show 0 ≤ i ∧ i < 16 by omega) (fun b b0 b1 => (he b b0 b1).symm) (by omega); unfold gcmp; rw [if_pos (by omega)]))
          · refine g_iconst (pc := 47) X dX9_compare_47 ?_
            refine g_goto (pc := 48) X 52 dX9_compare_48 (by decide) ?_
            exact ret _ _ _ _ _ _ dX9_compare_52 rfl rfl (fun h => by cases h) (gPi_e (by have hc := nv_cmp hB hr hs (show 0 ≤ i ∧ i < 16 by omega) he (by omega); unfold gcmp; rw [if_neg (by omega), if_neg (by omega)]))
  exact L3 _ _ (by omega) (fun b b0 b1 => by omega) (Nat.lt_succ_self _)

set_option maxHeartbeats 4000000 in
set_option maxRecDepth 100000 in
theorem c_X9_isNought (l : Launch) (D : va_G) (cI cZ : ClassId) (q : Nat) (a : Nat → Nat) (al : Int) (at_ : Int) (st : Int) (so : Int) (va : Int) (fa : Int) (pl : Int) (sg : Int) (su : Int) (bg : Int → Int) (r : Int) (hB : okB bg) (hr : 0 ≤ r ∧ r ≤ 6) : GM l D cI cZ yX9_isNought cX9_isNought 4 (some .boolean) ({ frames := 0, cells := 0, slots := 0, locals := 0 }) 0 0 true [.ref q, gi r] [oM q a al at_ st so va fa pl sg su, gA cI (a 19) 112 bg] (gPi (gB (nv bg r = 0))) := by
  refine g_enterI (z := true) (lv0 := [(0, .ref q), (1, gi r)]) _ rfl (by decide) rfl rfl (fun V X ret => ?_)
  refine g_iconst (pc := 0) X dX9_isNought_0 ?_
  refine g_istore_n (pc := 1) X (lv' := [(0, .ref q), (1, gi r), (2, gi 1)]) dX9_isNought_1 rfl rfl ?_
  refine g_iconst (pc := 2) X dX9_isNought_2 ?_
  refine g_istore_n (pc := 3) X (lv' := [(0, .ref q), (1, gi r), (2, gi 1), (3, gi 0)]) dX9_isNought_3 rfl rfl ?_
  have L4 : ∀ (n4 : Nat) (x : Int) (i : Int), (0 ≤ i ∧ i ≤ 16) → (nzs bg (16 * r) i x) → (16 - i).toNat < n4 → V 0 0 [oM q a al at_ st so va fa pl sg su, gA cI (a 19) 112 bg] 4 [(0, .ref q), (1, gi r), (2, gi x), (3, gi i)] [] := by
    intro n4
    induction n4 with
    | zero => intro x i hi hx hn4; exact absurd hn4 (Nat.not_lt_zero _)
    | succ n4 ih4 =>
      intro x i hi hx hn4
      have hxb := nzs_b hx
      refine g_iload_n (pc := 4) X dX9_isNought_4 3 rfl ?_
      refine g_bipush (pc := 5) X dX9_isNought_5 (by decide +kernel) ?_
      refine g_icmpge (pc := 7) X 40 dX9_isNought_7 (by decide) (by omega) (by omega) (fun h7 => ?_) (fun h7 => ?_)
      · refine g_iload_n (pc := 40) X dX9_isNought_40 2 rfl ?_
        refine g_top (b := gB (nv bg r = 0)) (by rw [show i = 16 by omega] at hx; exact nzs_r hB hr hx) ?_
        exact ret _ _ _ _ _ _ dX9_isNought_41 rfl rfl (fun _ => gB_iI) (gPi_e rfl)
      · refine g_iload_n (pc := 10) X dX9_isNought_10 2 rfl ?_
        refine g_ifeq (pc := 11) X 32 dX9_isNought_11 (by decide) (by omega) (fun h11 => ?_) (fun h11 => ?_)
        · refine g_iconst (pc := 32) X dX9_isNought_32 ?_
          refine g_istore_n (pc := 33) X (lv' := [(0, .ref q), (1, gi r), (2, gi 0), (3, gi i)]) dX9_isNought_33 rfl rfl ?_
          refine g_iinc (pc := 34) X (lv' := [(0, .ref q), (1, gi r), (2, gi 0), (3, gi (i + 1))]) dX9_isNought_34 3 rfl rfl rfl ?_
          refine g_goto (pc := 37) X 4 dX9_isNought_37 (by decide) ?_
          exact ih4 _ _ (by omega) (nzs_n hi.1 hx (by omega)) (by omega)
        · refine g_aload_n (pc := 14) X dX9_isNought_14 0 rfl ?_
          refine g_get (pc := 15) X fl_X9_47 dX9_isNought_15 0 (v := .ref (a 19)) rfl rfl ?_
          refine g_bipush (pc := 18) X dX9_isNought_18 (by decide +kernel) ?_
          refine g_iload_n (pc := 20) X dX9_isNought_20 1 rfl ?_
          refine g_imul (pc := 21) X dX9_isNought_21 ?_
          refine g_iload_n (pc := 22) X dX9_isNought_22 3 rfl ?_
          refine g_iadd (pc := 23) X dX9_isNought_23 ?_
          refine g_iald (pc := 24) X dX9_isNought_24 1 rfl (by omega) rfl ?_
          have hd := hB (16 * r + i) (by omega) (by omega)
          refine g_ifne (pc := 25) X 32 dX9_isNought_25 (by decide) (by omega) (fun h25 => ?_) (fun h25 => ?_)
          · refine g_iconst (pc := 32) X dX9_isNought_32 ?_
            refine g_istore_n (pc := 33) X (lv' := [(0, .ref q), (1, gi r), (2, gi 0), (3, gi i)]) dX9_isNought_33 rfl rfl ?_
            refine g_iinc (pc := 34) X (lv' := [(0, .ref q), (1, gi r), (2, gi 0), (3, gi (i + 1))]) dX9_isNought_34 3 rfl rfl rfl ?_
            refine g_goto (pc := 37) X 4 dX9_isNought_37 (by decide) ?_
            exact ih4 _ _ (by omega) (nzs_n hi.1 hx (by omega)) (by omega)
          · refine g_iconst (pc := 28) X dX9_isNought_28 ?_
            refine g_goto (pc := 29) X 33 dX9_isNought_29 (by decide) ?_
            refine g_istore_n (pc := 33) X (lv' := [(0, .ref q), (1, gi r), (2, gi 1), (3, gi i)]) dX9_isNought_33 rfl rfl ?_
            refine g_iinc (pc := 34) X (lv' := [(0, .ref q), (1, gi r), (2, gi 1), (3, gi (i + 1))]) dX9_isNought_34 3 rfl rfl rfl ?_
            refine g_goto (pc := 37) X 4 dX9_isNought_37 (by decide) ?_
            exact ih4 _ _ (by omega) (nzs_y hx (by omega) h25) (by omega)
  exact L4 _ _ _ (by omega) nzs_0 (Nat.lt_succ_self _)

set_option maxHeartbeats 4000000 in
set_option maxRecDepth 100000 in
theorem c_X9_isOdd (l : Launch) (D : va_G) (cI cZ : ClassId) (q : Nat) (a : Nat → Nat) (al : Int) (at_ : Int) (st : Int) (so : Int) (va : Int) (fa : Int) (pl : Int) (sg : Int) (su : Int) (bg : Int → Int) (r : Int) (hB : okB bg) (hr : 0 ≤ r ∧ r ≤ 6) : GM l D cI cZ yX9_isOdd cX9_isOdd 2 (some .boolean) ({ frames := 0, cells := 0, slots := 0, locals := 0 }) 0 0 true [.ref q, gi r] [oM q a al at_ st so va fa pl sg su, gA cI (a 19) 112 bg] (gPi (gB (nv bg r % 2 = 1))) := by
  refine g_enterI (z := true) (lv0 := [(0, .ref q), (1, gi r)]) _ rfl (by decide) rfl rfl (fun V X ret => ?_)
  refine g_aload_n (pc := 0) X dX9_isOdd_0 0 rfl ?_
  refine g_get (pc := 1) X fl_X9_47 dX9_isOdd_1 0 (v := .ref (a 19)) rfl rfl ?_
  refine g_bipush (pc := 4) X dX9_isOdd_4 (by decide +kernel) ?_
  refine g_iload_n (pc := 6) X dX9_isOdd_6 1 rfl ?_
  refine g_imul (pc := 7) X dX9_isOdd_7 ?_
  refine g_iald (pc := 8) X dX9_isOdd_8 1 rfl (by omega) rfl ?_
  have hd := hB (16 * r) (by omega) (by omega)
  have h2 := nv_2 (f := bg) (r := r)
  refine g_iconst (pc := 9) X dX9_isOdd_9 ?_
  refine g_irem (pc := 10) X dX9_isOdd_10 (by omega) (by omega) ?_
  refine g_iconst (pc := 11) X dX9_isOdd_11 ?_
  refine g_icmpne (pc := 12) X 19 dX9_isOdd_12 (by decide) (by omega) (by omega) (fun h12 => ?_) (fun h12 => ?_)
  · refine g_iconst (pc := 19) X dX9_isOdd_19 ?_
    exact ret _ _ _ _ _ _ dX9_isOdd_20 rfl rfl (fun _ => Or.inl rfl) (gPi_e (gB_f (by omega)).symm)
  · refine g_iconst (pc := 15) X dX9_isOdd_15 ?_
    refine g_goto (pc := 16) X 20 dX9_isOdd_16 (by decide) ?_
    exact ret _ _ _ _ _ _ dX9_isOdd_20 rfl rfl (fun _ => Or.inr rfl) (gPi_e (gB_t (by omega)).symm)

set_option maxHeartbeats 4000000 in
set_option maxRecDepth 100000 in
theorem c_X9_halve (l : Launch) (D : va_G) (cI cZ : ClassId) (q : Nat) (a : Nat → Nat) (al : Int) (at_ : Int) (st : Int) (so : Int) (va : Int) (fa : Int) (pl : Int) (sg : Int) (su : Int) (bg : Int → Int) (r : Int) (hB : okB bg) (hr : 0 ≤ r ∧ r ≤ 6) : GM l D cI cZ yX9_halve cX9_halve 5 none ({ frames := 0, cells := 0, slots := 0, locals := 0 }) 0 0 false [.ref q, gi r] [oM q a al at_ st so va fa pl sg su, gA cI (a 19) 112 bg] (gPxv (fun xo : (Int → Int) => [oM q a al at_ st so va fa pl sg su, gA cI (a 19) 112 xo]) (fun xo : (Int → Int) => (wrote r (nv bg r / 2) bg xo))) := by
  refine g_enterV (lv0 := [(0, .ref q), (1, gi r)]) (by decide) rfl rfl (fun V X ret => ?_)
  refine g_iconst (pc := 0) X dX9_halve_0 ?_
  refine g_istore_n (pc := 1) X (lv' := [(0, .ref q), (1, gi r), (2, gi 0)]) dX9_halve_1 rfl rfl ?_
  refine g_bipush (pc := 2) X dX9_halve_2 (by decide +kernel) ?_
  refine g_istore_n (pc := 4) X (lv' := [(0, .ref q), (1, gi r), (2, gi 0), (3, gi 15)]) dX9_halve_4 rfl rfl ?_
  have L5 : ∀ (n5 : Nat) (x : Int) (i : Int) (e : Int → Int), (-1 ≤ i ∧ i ≤ 15) → (x = R_half bg r (i + 1)) → (fdn (16 * r) i 16 (F_half bg r) bg e) → (i + 1).toNat < n5 → V 0 0 [oM q a al at_ st so va fa pl sg su, gA cI (a 19) 112 e] 5 [(0, .ref q), (1, gi r), (2, gi x), (3, gi i)] [] := by
    intro n5
    induction n5 with
    | zero => intro x i e hi hx he hn5; exact absurd hn5 (Nat.not_lt_zero _)
    | succ n5 ih5 =>
      intro x i e hi hx he hn5
      have hxb := R_half_b (f := bg) (r := r) (k := i + 1)
      rw [← hx] at hxb
      refine g_iload_n (pc := 5) X dX9_halve_5 3 rfl ?_
      refine g_iflt (pc := 6) X 60 dX9_halve_6 (by decide) (by omega) (fun h6 => ?_) (fun h6 => ?_)
      · exact ret _ _ _ _ _ dX9_halve_60 rfl rfl (gPxv_e e rfl (by rw [show i = -1 by omega] at he; exact wr_half hB hr he))
      · refine g_aload_n (pc := 9) X dX9_halve_9 0 rfl ?_
        refine g_get (pc := 10) X fl_X9_47 dX9_halve_10 0 (v := .ref (a 19)) rfl rfl ?_
        refine g_bipush (pc := 13) X dX9_halve_13 (by decide +kernel) ?_
        refine g_iload_n (pc := 15) X dX9_halve_15 1 rfl ?_
        refine g_imul (pc := 16) X dX9_halve_16 ?_
        refine g_iload_n (pc := 17) X dX9_halve_17 3 rfl ?_
        refine g_iadd (pc := 18) X dX9_halve_18 ?_
        refine g_iald (pc := 19) X dX9_halve_19 1 rfl (by omega) rfl ?_
        refine g_top (b := bg (16 * r + i)) (he.2 _ (by omega)) ?_
        have hd := hB (16 * r + i) (by omega) (by omega)
        refine g_istore (pc := 20) X (lv' := [(0, .ref q), (1, gi r), (2, gi x), (3, gi i), (4, gi (bg (16 * r + i)))]) dX9_halve_20 rfl rfl ?_
        refine g_aload_n (pc := 22) X dX9_halve_22 0 rfl ?_
        refine g_get (pc := 23) X fl_X9_47 dX9_halve_23 0 (v := .ref (a 19)) rfl rfl ?_
        refine g_bipush (pc := 26) X dX9_halve_26 (by decide +kernel) ?_
        refine g_iload_n (pc := 28) X dX9_halve_28 1 rfl ?_
        refine g_imul (pc := 29) X dX9_halve_29 ?_
        refine g_iload_n (pc := 30) X dX9_halve_30 3 rfl ?_
        refine g_iadd (pc := 31) X dX9_halve_31 ?_
        refine g_iload (pc := 32) X dX9_halve_32 4 rfl ?_
        refine g_iconst (pc := 34) X dX9_halve_34 ?_
        refine g_idiv (pc := 35) X dX9_halve_35 (by omega) (by omega) ?_
        refine g_iload_n (pc := 36) X dX9_halve_36 2 rfl ?_
        refine g_iconst (pc := 37) X dX9_halve_37 ?_
        refine g_icmpne (pc := 38) X 46 dX9_halve_38 (by decide) (by omega) (by omega) (fun h38 => ?_) (fun h38 => ?_)
        · refine g_iconst (pc := 46) X dX9_halve_46 ?_
          refine g_iadd (pc := 47) X dX9_halve_47 ?_
          refine g_iast (pc := 48) X (ws' := [oM q a al at_ st so va fa pl sg su, gA cI (a 19) 112 (gupd e (16 * r + i) ((bg (16 * r + i)) / 2 + 0))]) dX9_halve_48 1 rfl (by omega) rfl rfl ?_
          refine g_iload (pc := 49) X dX9_halve_49 4 rfl ?_
          refine g_iconst (pc := 51) X dX9_halve_51 ?_
          refine g_irem (pc := 52) X dX9_halve_52 (by omega) (by omega) ?_
          refine g_istore_n (pc := 53) X (lv' := [(0, .ref q), (1, gi r), (2, gi ((bg (16 * r + i)) % 2)), (3, gi i), (4, gi (bg (16 * r + i)))]) dX9_halve_53 rfl rfl ?_
          refine g_iinc (pc := 54) X (lv' := [(0, .ref q), (1, gi r), (2, gi ((bg (16 * r + i)) % 2)), (3, gi (i + (-1))), (4, gi (bg (16 * r + i)))]) dX9_halve_54 3 rfl rfl rfl ?_
          refine g_goto (pc := 57) X 5 dX9_halve_57 (by decide) ?_
          refine g_lsub X [0, 1, 2, 3] rfl ?_
          exact ih5 _ _ _ (by omega) (by rw [show i + -1 + 1 = i by omega]; exact (if_neg (by omega)).symm) (fdn_s he (by omega) rfl (by unfold F_half; rw [← hx]; omega)) (by omega)
        · refine g_ldc (pc := 41) X dX9_halve_41 kc_X9_206 ?_
          refine g_goto (pc := 43) X 47 dX9_halve_43 (by decide) ?_
          refine g_iadd (pc := 47) X dX9_halve_47 ?_
          refine g_iast (pc := 48) X (ws' := [oM q a al at_ st so va fa pl sg su, gA cI (a 19) 112 (gupd e (16 * r + i) ((bg (16 * r + i)) / 2 + 536870912))]) dX9_halve_48 1 rfl (by omega) rfl rfl ?_
          refine g_iload (pc := 49) X dX9_halve_49 4 rfl ?_
          refine g_iconst (pc := 51) X dX9_halve_51 ?_
          refine g_irem (pc := 52) X dX9_halve_52 (by omega) (by omega) ?_
          refine g_istore_n (pc := 53) X (lv' := [(0, .ref q), (1, gi r), (2, gi ((bg (16 * r + i)) % 2)), (3, gi i), (4, gi (bg (16 * r + i)))]) dX9_halve_53 rfl rfl ?_
          refine g_iinc (pc := 54) X (lv' := [(0, .ref q), (1, gi r), (2, gi ((bg (16 * r + i)) % 2)), (3, gi (i + (-1))), (4, gi (bg (16 * r + i)))]) dX9_halve_54 3 rfl rfl rfl ?_
          refine g_goto (pc := 57) X 5 dX9_halve_57 (by decide) ?_
          refine g_lsub X [0, 1, 2, 3] rfl ?_
          exact ih5 _ _ _ (by omega) (by rw [show i + -1 + 1 = i by omega]; exact (if_neg (by omega)).symm) (fdn_s he (by omega) rfl (by unfold F_half; rw [← hx]; omega)) (by omega)
  exact L5 _ _ _ _ (by omega) (by rfl) (fdn_0 (by omega)) (Nat.lt_succ_self _)

set_option maxHeartbeats 4000000 in
set_option maxRecDepth 100000 in
theorem c_X9_limbsOf (l : Launch) (D : va_G) (cI cZ : ClassId) (q : Nat) (a : Nat → Nat) (al : Int) (at_ : Int) (st : Int) (so : Int) (va : Int) (fa : Int) (pl : Int) (sg : Int) (su : Int) (bg : Int → Int) (r : Int) (hB : okB bg) (hr : 0 ≤ r ∧ r ≤ 6) : GM l D cI cZ yX9_limbsOf cX9_limbsOf 3 (some .int) ({ frames := 0, cells := 0, slots := 0, locals := 0 }) 0 0 true [.ref q, gi r] [oM q a al at_ st so va fa pl sg su, gA cI (a 19) 112 bg] (gPi (lims (nv bg r))) := by
  refine g_enterI (z := false) (lv0 := [(0, .ref q), (1, gi r)]) _ rfl (by decide) rfl rfl (fun V X ret => ?_)
  refine g_bipush (pc := 0) X dX9_limbsOf_0 (by decide +kernel) ?_
  refine g_istore_n (pc := 2) X (lv' := [(0, .ref q), (1, gi r), (2, gi 16)]) dX9_limbsOf_2 rfl rfl ?_
  have L3 : ∀ (n3 : Nat) (n : Int), (0 ≤ n ∧ n ≤ 16) → (∀ b, n ≤ b → b < 16 → bg (16 * r + b) = 0) → n.toNat < n3 → V 0 0 [oM q a al at_ st so va fa pl sg su, gA cI (a 19) 112 bg] 3 [(0, .ref q), (1, gi r), (2, gi n)] [] := by
    intro n3
    induction n3 with
    | zero => intro n hn he hn3; exact absurd hn3 (Nat.not_lt_zero _)
    | succ n3 ih3 =>
      intro n hn he hn3
      refine g_iload_n (pc := 3) X dX9_limbsOf_3 2 rfl ?_
      refine g_ifle (pc := 4) X 29 dX9_limbsOf_4 (by decide) (by omega) (fun h4 => ?_) (fun h4 => ?_)
      · refine g_iload_n (pc := 29) X dX9_limbsOf_29 2 rfl ?_
        exact ret _ _ _ _ _ _ dX9_limbsOf_30 rfl rfl (fun h => by cases h) (gPi_e (lims_nv hB hr hn he (Or.inl (by omega))))
      · refine g_aload_n (pc := 7) X dX9_limbsOf_7 0 rfl ?_
        refine g_get (pc := 8) X fl_X9_47 dX9_limbsOf_8 0 (v := .ref (a 19)) rfl rfl ?_
        refine g_bipush (pc := 11) X dX9_limbsOf_11 (by decide +kernel) ?_
        refine g_iload_n (pc := 13) X dX9_limbsOf_13 1 rfl ?_
        refine g_imul (pc := 14) X dX9_limbsOf_14 ?_
        refine g_iload_n (pc := 15) X dX9_limbsOf_15 2 rfl ?_
        refine g_iadd (pc := 16) X dX9_limbsOf_16 ?_
        refine g_iconst (pc := 17) X dX9_limbsOf_17 ?_
        refine g_isub (pc := 18) X dX9_limbsOf_18 ?_
        refine g_iald (pc := 19) X dX9_limbsOf_19 1 rfl (by omega) rfl ?_
        refine g_top (b := bg ((-1) + 16 * r + n)) (congrArg bg (by omega)) ?_
        have hd := hB (-1 + 16 * r + n) (by omega) (by omega)
        refine g_ifne (pc := 20) X 29 dX9_limbsOf_20 (by decide) (by omega) (fun h20 => ?_) (fun h20 => ?_)
        · refine g_iload_n (pc := 29) X dX9_limbsOf_29 2 rfl ?_
          exact ret _ _ _ _ _ _ dX9_limbsOf_30 rfl rfl (fun h => by cases h) (gPi_e (lims_nv hB hr hn he (Or.inr (by rw [show 16 * r + n - 1 = -1 + 16 * r + n by omega]; exact h20))))
        · refine g_iinc (pc := 23) X (lv' := [(0, .ref q), (1, gi r), (2, gi (n + (-1)))]) dX9_limbsOf_23 2 rfl rfl rfl ?_
          refine g_goto (pc := 26) X 3 dX9_limbsOf_26 (by decide) ?_
          exact ih3 _ (by omega) (fun b b0 b1 => by rcases Int.lt_or_le b n with qq | qq; rw [show 16 * r + b = -1 + 16 * r + n by omega]; exact h20; exact he b qq b1) (by omega)
  exact L3 _ _ (by omega) (fun b b0 b1 => by omega) (Nat.lt_succ_self _)
