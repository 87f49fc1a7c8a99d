/-! the model: order, hands -/

set_option maxHeartbeats 4000000 in
set_option maxRecDepth 100000 in
theorem c_X9_change (l : Launch) (D : va_G) (cI cZ : ClassId) (q : Nat) (a : Nat → Nat) (al : Int) (at_ : Int) (st : Int) (so : Int) (va : Int) (fa : Int) (pl : Int) (sg : Int) (su : Int) (A : Int → Int) (P : Int → Int) (p : Int) (t : Int) (hA : okA A) (hpl : 0 ≤ pl ∧ pl ≤ 8) (hR : ∀ j, 0 ≤ j → j < pl → rgR (A 0) P j) (hp : 0 ≤ p ∧ p < pl) (ht : 0 ≤ t ∧ t < pl) : GM l D cI cZ yX9_change cX9_change 3 (some .int) ({ frames := 0, cells := 0, slots := 0, locals := 0 }) 0 0 true [.ref q, gi p, gi t] [oM q a al at_ st so va fa pl sg su, gA cI (a 0) 1140 A, gA cI (a 14) 8 (fun j => P (16 + j)), gA cI (a 15) 8 (fun j => P (24 + j))] (gPi (chg A P p t)) := by
  refine g_enterI (z := false) (lv0 := [(0, .ref q), (1, gi p), (2, gi t)]) _ rfl (by decide) rfl rfl (fun V X ret => ?_)
  have hpu := okA_pu hA
  have hgi := hR p hp.1 hp.2
  have hgj := hR t ht.1 ht.2
  obtain ⟨i1, i2, i3, i4, i5⟩ := hgi
  obtain ⟨j1, j2, j3, j4, j5⟩ := hgj
  refine g_aload_n (pc := 0) X dX9_change_0 0 rfl ?_
  refine g_get (pc := 1) X fl_X9_32 dX9_change_1 0 (v := .ref (a 14)) rfl rfl ?_
  refine g_iload_n (pc := 4) X dX9_change_4 1 rfl ?_
  refine g_iald (pc := 5) X dX9_change_5 2 rfl (by omega) rfl ?_
  refine g_aload_n (pc := 6) X dX9_change_6 0 rfl ?_
  refine g_get (pc := 7) X fl_X9_32 dX9_change_7 0 (v := .ref (a 14)) rfl rfl ?_
  refine g_iload_n (pc := 10) X dX9_change_10 2 rfl ?_
  refine g_iald (pc := 11) X dX9_change_11 2 rfl (by omega) rfl ?_
  refine g_icmpne (pc := 12) X 19 dX9_change_12 (by decide) (by omega) (by omega) (fun h12 => ?_) (fun h12 => ?_)
  · refine g_aload_n (pc := 19) X dX9_change_19 0 rfl ?_
    refine g_get (pc := 20) X fl_X9_7 dX9_change_20 0 (v := .ref (a 0)) rfl rfl ?_
    refine g_sipush (pc := 23) X dX9_change_23 (by decide +kernel) ?_
    refine g_iald (pc := 26) X dX9_change_26 1 rfl (by omega) rfl ?_
    refine g_aload_n (pc := 27) X dX9_change_27 0 rfl ?_
    refine g_get (pc := 28) X fl_X9_35 dX9_change_28 0 (v := .ref (a 15)) rfl rfl ?_
    refine g_iload_n (pc := 31) X dX9_change_31 1 rfl ?_
    refine g_iald (pc := 32) X dX9_change_32 3 rfl (by omega) rfl ?_
    refine g_aload_n (pc := 33) X dX9_change_33 0 rfl ?_
    refine g_get (pc := 34) X fl_X9_35 dX9_change_34 0 (v := .ref (a 15)) rfl rfl ?_
    refine g_iload_n (pc := 37) X dX9_change_37 2 rfl ?_
    refine g_iald (pc := 38) X dX9_change_38 3 rfl (by omega) rfl ?_
    refine g_icmpne (pc := 39) X 46 dX9_change_39 (by decide) (by omega) (by omega) (fun h39 => ?_) (fun h39 => ?_)
    · refine g_aload_n (pc := 46) X dX9_change_46 0 rfl ?_
      refine g_get (pc := 47) X fl_X9_7 dX9_change_47 0 (v := .ref (a 0)) rfl rfl ?_
      refine g_sipush (pc := 50) X dX9_change_50 (by decide +kernel) ?_
      refine g_iald (pc := 53) X dX9_change_53 1 rfl (by omega) rfl ?_
      refine g_iadd (pc := 54) X dX9_change_54 ?_
      exact ret _ _ _ _ _ _ dX9_change_55 rfl rfl (fun h => by cases h) (gPi_e (by unfold chg; rw [if_neg (by omega), if_neg (by omega)]))
    · refine g_iconst (pc := 42) X dX9_change_42 ?_
      refine g_goto (pc := 43) X 54 dX9_change_43 (by decide) ?_
      refine g_iadd (pc := 54) X dX9_change_54 ?_
      exact ret _ _ _ _ _ _ dX9_change_55 rfl rfl (fun h => by cases h) (gPi_e (by unfold chg; rw [if_neg (by omega), if_pos (by omega)]))
  · refine g_iconst (pc := 15) X dX9_change_15 ?_
    refine g_goto (pc := 16) X 27 dX9_change_16 (by decide) ?_
    refine g_aload_n (pc := 27) X dX9_change_27 0 rfl ?_
    refine g_get (pc := 28) X fl_X9_35 dX9_change_28 0 (v := .ref (a 15)) rfl rfl ?_
    refine g_iload_n (pc := 31) X dX9_change_31 1 rfl ?_
    refine g_iald (pc := 32) X dX9_change_32 3 rfl (by omega) rfl ?_
    refine g_aload_n (pc := 33) X dX9_change_33 0 rfl ?_
    refine g_get (pc := 34) X fl_X9_35 dX9_change_34 0 (v := .ref (a 15)) rfl rfl ?_
    refine g_iload_n (pc := 37) X dX9_change_37 2 rfl ?_
    refine g_iald (pc := 38) X dX9_change_38 3 rfl (by omega) rfl ?_
    refine g_icmpne (pc := 39) X 46 dX9_change_39 (by decide) (by omega) (by omega) (fun h39 => ?_) (fun h39 => ?_)
    · refine g_aload_n (pc := 46) X dX9_change_46 0 rfl ?_
      refine g_get (pc := 47) X fl_X9_7 dX9_change_47 0 (v := .ref (a 0)) rfl rfl ?_
      refine g_sipush (pc := 50) X dX9_change_50 (by decide +kernel) ?_
      refine g_iald (pc := 53) X dX9_change_53 1 rfl (by omega) rfl ?_
      refine g_iadd (pc := 54) X dX9_change_54 ?_
      exact ret _ _ _ _ _ _ dX9_change_55 rfl rfl (fun h => by cases h) (gPi_e (by unfold chg; rw [if_pos (by omega), if_neg (by omega)]))
    · refine g_iconst (pc := 42) X dX9_change_42 ?_
      refine g_goto (pc := 43) X 54 dX9_change_43 (by decide) ?_
      refine g_iadd (pc := 54) X dX9_change_54 ?_
      exact ret _ _ _ _ _ _ dX9_change_55 rfl rfl (fun h => by cases h) (gPi_e (by unfold chg; rw [if_pos (by omega), if_pos (by omega)]))

set_option maxHeartbeats 4000000 in
set_option maxRecDepth 100000 in
theorem c_X9_findLeast (l : Launch) (D : va_G) (cI cZ : ClassId) (q : Nat) (a : Nat → Nat) (al : Int) (at_ : Int) (st : Int) (so : Int) (va : Int) (fa : Int) (pl : Int) (sg : Int) (su : Int) (A : Int → Int) (P : Int → Int) (le : Int → Int) (hA : okA A) (hpl : 0 ≤ pl ∧ pl ≤ 8) (hR : ∀ j, 0 ≤ j → j < pl → rgR (A 0) P j) : GM l D cI cZ yX9_findLeast cX9_findLeast 6 none ({ frames := 1, cells := 0, slots := 0, locals := 22 }) 0 0 false [.ref q] [oM q a al at_ st so va fa pl sg su, gA cI (a 0) 1140 A, gA cI (a 14) 8 (fun j => P (16 + j)), gA cI (a 15) 8 (fun j => P (24 + j)), gA cI (a 17) 2048 le] (gPxv (fun xo : (Int → Int) => [oM q a al at_ st so va fa pl sg su, gA cI (a 0) 1140 A, gA cI (a 14) 8 (fun j => P (16 + j)), gA cI (a 15) 8 (fun j => P (24 + j)), gA cI (a 17) 2048 xo]) (fun xo : (Int → Int) => (rtT A P pl (1 * 2 ^ pl.toNat) xo))) := by
  refine g_enterV (lv0 := [(0, .ref q)]) (by decide) rfl rfl (fun V X ret => ?_)
  have hpw := pw_b (k := pl) (c := 8) (C := 256) rfl (by omega)
  refine g_iconst (pc := 0) X dX9_findLeast_0 ?_
  refine g_istore_n (pc := 1) X (lv' := [(0, .ref q), (1, gi 0)]) dX9_findLeast_1 rfl rfl ?_
  have L2 : ∀ (n2 : Nat) (c : Int) (gz : Int → Int), (0 ≤ c ∧ c ≤ 1 * 2 ^ pl.toNat) → (rtT A P pl c gz) → (1 * 2 ^ pl.toNat - c).toNat < n2 → V 0 0 [oM q a al at_ st so va fa pl sg su, gA cI (a 0) 1140 A, gA cI (a 14) 8 (fun j => P (16 + j)), gA cI (a 15) 8 (fun j => P (24 + j)), gA cI (a 17) 2048 gz] 2 [(0, .ref q), (1, gi c)] [] := by
    intro n2
    induction n2 with
    | zero => intro c gz hc hr hn2; exact absurd hn2 (Nat.not_lt_zero _)
    | succ n2 ih2 =>
      intro c gz hc hr hn2
      refine g_iload_n (pc := 2) X dX9_findLeast_2 1 rfl ?_
      refine g_aload_n (pc := 3) X dX9_findLeast_3 0 rfl ?_
      refine gc_Vi (pc := 4) X (c_X9_allPlaces l D cI cZ q a al at_ st so va fa pl sg su (by omega)) lm_X9_164 dX9_findLeast_4 [0] rfl rfl rfl rfl rfl rfl rfl rfl ?_
      refine g_icmpgt (pc := 7) X 125 dX9_findLeast_7 (by decide) (by omega) (by omega) (fun h7 => ?_) (fun h7 => ?_)
      · exact ret _ _ _ _ _ dX9_findLeast_125 rfl rfl (gPxv_e gz rfl (fun s s0 s1 => hr s s0 (by omega)))
      · refine g_iconst (pc := 10) X dX9_findLeast_10 ?_
        refine g_istore_n (pc := 11) X (lv' := [(0, .ref q), (1, gi c), (2, gi 0)]) dX9_findLeast_11 rfl rfl ?_
        have L12 : ∀ (n12 : Nat) (j : Int) (g2 : Int → Int), (0 ≤ j ∧ j ≤ pl) → (rtT A P pl c g2) → (∀ q, 0 ≤ q → q < j → g2 (8 * c + q) = rs A P pl c q) → (pl - j).toNat < n12 → V 0 0 [oM q a al at_ st so va fa pl sg su, gA cI (a 0) 1140 A, gA cI (a 14) 8 (fun j => P (16 + j)), gA cI (a 15) 8 (fun j => P (24 + j)), gA cI (a 17) 2048 g2] 12 [(0, .ref q), (1, gi c), (2, gi j)] [] := by
          intro n12
          induction n12 with
          | zero => intro j g2 hj hr2 hb2 hn12; exact absurd hn12 (Nat.not_lt_zero _)
          | succ n12 ih12 =>
            intro j g2 hj hr2 hb2 hn12
            refine g_iload_n (pc := 12) X dX9_findLeast_12 2 rfl ?_
            refine g_aload_n (pc := 13) X dX9_findLeast_13 0 rfl ?_
            refine g_get (pc := 14) X fl_X9_151 dX9_findLeast_14 0 (v := gi pl) rfl rfl ?_
            refine g_icmpge (pc := 17) X 119 dX9_findLeast_17 (by decide) (by omega) (by omega) (fun h17 => ?_) (fun h17 => ?_)
            · refine g_iinc (pc := 119) X (lv' := [(0, .ref q), (1, gi (c + 1)), (2, gi j)]) dX9_findLeast_119 1 rfl rfl rfl ?_
              refine g_goto (pc := 122) X 2 dX9_findLeast_122 (by decide) ?_
              refine g_lsub X [0, 1] rfl ?_
              exact ih2 _ _ (by omega) (all_s (P := fun s => ∀ q, 0 ≤ q → q < pl → g2 (8 * s + q) = rs A P pl s q) hr2 (fun q q0 q1 => hb2 q q0 (by omega))) (by omega)
            · refine g_iload_n (pc := 20) X dX9_findLeast_20 1 rfl ?_
              refine g_ifne (pc := 21) X 28 dX9_findLeast_21 (by decide) (by omega) (fun h21 => ?_) (fun h21 => ?_)
              · refine g_ldc (pc := 28) X dX9_findLeast_28 kc_X9_171 ?_
                refine g_istore_n (pc := 30) X (lv' := [(0, .ref q), (1, gi c), (2, gi j), (3, gi 1000000)]) dX9_findLeast_30 rfl rfl ?_
                refine g_iconst (pc := 31) X dX9_findLeast_31 ?_
                refine g_istore (pc := 32) X (lv' := [(0, .ref q), (1, gi c), (2, gi j), (3, gi 1000000), (4, gi 0)]) dX9_findLeast_32 rfl rfl ?_
                have L34 : ∀ (n34 : Nat) (x : Int) (i : Int), (0 ≤ i ∧ i ≤ pl) → (x = mn A P pl c j i) → (pl - i).toNat < n34 → V 0 0 [oM q a al at_ st so va fa pl sg su, gA cI (a 0) 1140 A, gA cI (a 14) 8 (fun j => P (16 + j)), gA cI (a 15) 8 (fun j => P (24 + j)), gA cI (a 17) 2048 g2] 34 [(0, .ref q), (1, gi c), (2, gi j), (3, gi x), (4, gi i)] [] := by
                  intro n34
                  induction n34 with
                  | zero => intro x i hi hx hn34; exact absurd hn34 (Nat.not_lt_zero _)
                  | succ n34 ih34 =>
                    intro x i hi hx hn34
                    have hmb := mn_b (Q := P) hA (n := pl) (s := c) (p := j) hi.1
                    rw [← hx] at hmb
                    have hbt := bit_b c i
                    refine g_iload (pc := 34) X dX9_findLeast_34 4 rfl ?_
                    refine g_aload_n (pc := 36) X dX9_findLeast_36 0 rfl ?_
                    refine g_get (pc := 37) X fl_X9_151 dX9_findLeast_37 0 (v := gi pl) rfl rfl ?_
                    refine g_icmpge (pc := 40) X 101 dX9_findLeast_40 (by decide) (by omega) (by omega) (fun h40 => ?_) (fun h40 => ?_)
                    · refine g_aload_n (pc := 101) X dX9_findLeast_101 0 rfl ?_
                      refine g_get (pc := 102) X fl_X9_41 dX9_findLeast_102 0 (v := .ref (a 17)) rfl rfl ?_
                      refine g_bipush (pc := 105) X dX9_findLeast_105 (by decide +kernel) ?_
                      refine g_iload_n (pc := 107) X dX9_findLeast_107 1 rfl ?_
                      refine g_imul (pc := 108) X dX9_findLeast_108 ?_
                      refine g_iload_n (pc := 109) X dX9_findLeast_109 2 rfl ?_
                      refine g_iadd (pc := 110) X dX9_findLeast_110 ?_
                      refine g_iload_n (pc := 111) X dX9_findLeast_111 3 rfl ?_
                      refine g_iast (pc := 112) X (ws' := [oM q a al at_ st so va fa pl sg su, gA cI (a 0) 1140 A, gA cI (a 14) 8 (fun j => P (16 + j)), gA cI (a 15) 8 (fun j => P (24 + j)), gA cI (a 17) 2048 (gupd g2 (8 * c + j) x)]) dX9_findLeast_112 4 rfl (by omega) rfl rfl ?_
                      refine g_iinc (pc := 113) X (lv' := [(0, .ref q), (1, gi c), (2, gi (j + 1)), (3, gi x), (4, gi i)]) dX9_findLeast_113 2 rfl rfl rfl ?_
                      refine g_goto (pc := 116) X 12 dX9_findLeast_116 (by decide) ?_
                      refine g_lsub X [0, 1, 2] rfl ?_
                      exact ih12 _ _ (by omega) (fun s s0 s1 q q0 q1 => by rw [gupd_n (by omega)]; exact hr2 s s0 s1 q q0 q1) (all_s (fun q q0 q1 => by rw [gupd_n (by omega)]; exact hb2 q q0 q1) (by rw [gupd_s, hx, rs_e hpl.2 (by omega), show i = pl by omega])) (by omega)
                    · refine g_iload_n (pc := 43) X dX9_findLeast_43 1 rfl ?_
                      refine g_iload (pc := 44) X dX9_findLeast_44 4 rfl ?_
                      refine g_ishr (pc := 46) X dX9_findLeast_46 (by omega) (by omega) ?_
                      refine g_iconst (pc := 47) X dX9_findLeast_47 ?_
                      refine g_iand (pc := 48) X (r := bit c i) dX9_findLeast_48 (iI_bit (by omega)) ?_
                      refine g_iconst (pc := 49) X dX9_findLeast_49 ?_
                      refine g_icmpne (pc := 50) X 95 dX9_findLeast_50 (by decide) (by omega) (by omega) (fun h50 => ?_) (fun h50 => ?_)
                      · refine g_iinc (pc := 95) X (lv' := [(0, .ref q), (1, gi c), (2, gi j), (3, gi x), (4, gi (i + 1))]) dX9_findLeast_95 4 rfl rfl rfl ?_
                        refine g_goto (pc := 98) X 34 dX9_findLeast_98 (by decide) ?_
                        exact ih34 _ _ (by omega) (by rw [mn_s hi.1, ← hx]; first | (exfalso; omega) | (rw [if_pos (by omega)]; unfold gmin; rw [hsq]; first | rw [if_pos (by omega)] | rw [if_neg (by omega)]) | rw [if_neg (by omega)]) (by omega)
                      · have hby := bdel_y h50
                        have hdb := bdel_b (s := c) (k := i) (by omega) (by omega)
                        have hrb := rs_b (Q := P) hA pl (bdel c i) i
                        have hcb := chg_b (Q := P) hA j i
                        have hsq : stp A P j i = chg A P j i := if_neg (by omega)
                        have hpi := pw_b (k := i) (c := 8) (C := 256) rfl (by omega)
                        refine g_aload_n (pc := 53) X dX9_findLeast_53 0 rfl ?_
                        refine g_iload_n (pc := 54) X dX9_findLeast_54 2 rfl ?_
                        refine g_iload (pc := 55) X dX9_findLeast_55 4 rfl ?_
                        refine gc_Vi (pc := 57) X (c_X9_change l D cI cZ q a al at_ st so va fa pl sg su A P j i hA (by omega) hR (by omega) (by omega)) lm_X9_172 dX9_findLeast_57 [0, 1, 2, 3] rfl rfl rfl rfl rfl rfl rfl rfl ?_
                        refine g_aload_n (pc := 60) X dX9_findLeast_60 0 rfl ?_
                        refine g_get (pc := 61) X fl_X9_41 dX9_findLeast_61 0 (v := .ref (a 17)) rfl rfl ?_
                        refine g_bipush (pc := 64) X dX9_findLeast_64 (by decide +kernel) ?_
                        refine g_iload_n (pc := 66) X dX9_findLeast_66 1 rfl ?_
                        refine g_iconst (pc := 67) X dX9_findLeast_67 ?_
                        refine g_iload (pc := 68) X dX9_findLeast_68 4 rfl ?_
                        refine g_ishl (pc := 70) X dX9_findLeast_70 (by omega) (by omega) (by omega) ?_
                        refine g_iconst (pc := 71) X dX9_findLeast_71 ?_
                        refine g_ixor (pc := 72) X (r := ((iI (1 * 2 ^ i.toNat) ^^^ iI (-1)).toInt)) dX9_findLeast_72 iI_xm ?_
                        refine g_iand (pc := 73) X (r := (bdel c i)) dX9_findLeast_73 (iI_del (by omega) (by omega)) ?_
                        refine g_imul (pc := 74) X dX9_findLeast_74 ?_
                        refine g_iload (pc := 75) X dX9_findLeast_75 4 rfl ?_
                        refine g_iadd (pc := 77) X dX9_findLeast_77 ?_
                        refine g_iald (pc := 78) X dX9_findLeast_78 4 rfl (by omega) rfl ?_
                        refine g_top (b := (rs A P pl (bdel c i) i)) (hr2 (bdel c i) hdb.1 hby i hi.1 (by omega)) ?_
                        refine g_iadd (pc := 79) X dX9_findLeast_79 ?_
                        refine g_istore (pc := 80) X (lv' := [(0, .ref q), (1, gi c), (2, gi j), (3, gi x), (4, gi i), (5, gi ((chg A P j i) + (rs A P pl (bdel c i) i)))]) dX9_findLeast_80 rfl rfl ?_
                        refine g_iload (pc := 82) X dX9_findLeast_82 5 rfl ?_
                        refine g_iload_n (pc := 84) X dX9_findLeast_84 3 rfl ?_
                        refine g_icmpge (pc := 85) X 93 dX9_findLeast_85 (by decide) (by omega) (by omega) (fun h85 => ?_) (fun h85 => ?_)
                        · refine g_iload_n (pc := 93) X dX9_findLeast_93 3 rfl ?_
                          refine g_istore_n (pc := 94) X (lv' := [(0, .ref q), (1, gi c), (2, gi j), (3, gi x), (4, gi i), (5, gi ((chg A P j i) + (rs A P pl (bdel c i) i)))]) dX9_findLeast_94 rfl rfl ?_
                          refine g_iinc (pc := 95) X (lv' := [(0, .ref q), (1, gi c), (2, gi j), (3, gi x), (4, gi (i + 1)), (5, gi ((chg A P j i) + (rs A P pl (bdel c i) i)))]) dX9_findLeast_95 4 rfl rfl rfl ?_
                          refine g_goto (pc := 98) X 34 dX9_findLeast_98 (by decide) ?_
                          refine g_lsub X [0, 1, 2, 3, 4] rfl ?_
                          exact ih34 _ _ (by omega) (by rw [mn_s hi.1, ← hx]; first | (exfalso; omega) | (rw [if_pos (by omega)]; unfold gmin; rw [hsq]; first | rw [if_pos (by omega)] | rw [if_neg (by omega)]) | rw [if_neg (by omega)]) (by omega)
                        · refine g_iload (pc := 88) X dX9_findLeast_88 5 rfl ?_
                          refine g_goto (pc := 90) X 94 dX9_findLeast_90 (by decide) ?_
                          refine g_istore_n (pc := 94) X (lv' := [(0, .ref q), (1, gi c), (2, gi j), (3, gi ((chg A P j i) + (rs A P pl (bdel c i) i))), (4, gi i), (5, gi ((chg A P j i) + (rs A P pl (bdel c i) i)))]) dX9_findLeast_94 rfl rfl ?_
                          refine g_iinc (pc := 95) X (lv' := [(0, .ref q), (1, gi c), (2, gi j), (3, gi ((chg A P j i) + (rs A P pl (bdel c i) i))), (4, gi (i + 1)), (5, gi ((chg A P j i) + (rs A P pl (bdel c i) i)))]) dX9_findLeast_95 4 rfl rfl rfl ?_
                          refine g_goto (pc := 98) X 34 dX9_findLeast_98 (by decide) ?_
                          refine g_lsub X [0, 1, 2, 3, 4] rfl ?_
                          exact ih34 _ _ (by omega) (by rw [mn_s hi.1, ← hx]; first | (exfalso; omega) | (rw [if_pos (by omega)]; unfold gmin; rw [hsq]; first | rw [if_pos (by omega)] | rw [if_neg (by omega)]) | rw [if_neg (by omega)]) (by omega)
                exact L34 _ _ _ (by omega) (by show _ = ini c; unfold ini; first | rw [if_pos (by omega)] | rw [if_neg (by omega)]) (Nat.lt_succ_self _)
              · refine g_iconst (pc := 24) X dX9_findLeast_24 ?_
                refine g_goto (pc := 25) X 30 dX9_findLeast_25 (by decide) ?_
                refine g_istore_n (pc := 30) X (lv' := [(0, .ref q), (1, gi c), (2, gi j), (3, gi 0)]) dX9_findLeast_30 rfl rfl ?_
                refine g_iconst (pc := 31) X dX9_findLeast_31 ?_
                refine g_istore (pc := 32) X (lv' := [(0, .ref q), (1, gi c), (2, gi j), (3, gi 0), (4, gi 0)]) dX9_findLeast_32 rfl rfl ?_
                have L34 : ∀ (n34 : Nat) (x : Int) (i : Int), (0 ≤ i ∧ i ≤ pl) → (x = mn A P pl c j i) → (pl - i).toNat < n34 → V 0 0 [oM q a al at_ st so va fa pl sg su, gA cI (a 0) 1140 A, gA cI (a 14) 8 (fun j => P (16 + j)), gA cI (a 15) 8 (fun j => P (24 + j)), gA cI (a 17) 2048 g2] 34 [(0, .ref q), (1, gi c), (2, gi j), (3, gi x), (4, gi i)] [] := by
                  intro n34
                  induction n34 with
                  | zero => intro x i hi hx hn34; exact absurd hn34 (Nat.not_lt_zero _)
                  | succ n34 ih34 =>
                    intro x i hi hx hn34
                    have hmb := mn_b (Q := P) hA (n := pl) (s := c) (p := j) hi.1
                    rw [← hx] at hmb
                    have hbt := bit_b c i
                    refine g_iload (pc := 34) X dX9_findLeast_34 4 rfl ?_
                    refine g_aload_n (pc := 36) X dX9_findLeast_36 0 rfl ?_
                    refine g_get (pc := 37) X fl_X9_151 dX9_findLeast_37 0 (v := gi pl) rfl rfl ?_
                    refine g_icmpge (pc := 40) X 101 dX9_findLeast_40 (by decide) (by omega) (by omega) (fun h40 => ?_) (fun h40 => ?_)
                    · refine g_aload_n (pc := 101) X dX9_findLeast_101 0 rfl ?_
                      refine g_get (pc := 102) X fl_X9_41 dX9_findLeast_102 0 (v := .ref (a 17)) rfl rfl ?_
                      refine g_bipush (pc := 105) X dX9_findLeast_105 (by decide +kernel) ?_
                      refine g_iload_n (pc := 107) X dX9_findLeast_107 1 rfl ?_
                      refine g_imul (pc := 108) X dX9_findLeast_108 ?_
                      refine g_iload_n (pc := 109) X dX9_findLeast_109 2 rfl ?_
                      refine g_iadd (pc := 110) X dX9_findLeast_110 ?_
                      refine g_iload_n (pc := 111) X dX9_findLeast_111 3 rfl ?_
                      refine g_iast (pc := 112) X (ws' := [oM q a al at_ st so va fa pl sg su, gA cI (a 0) 1140 A, gA cI (a 14) 8 (fun j => P (16 + j)), gA cI (a 15) 8 (fun j => P (24 + j)), gA cI (a 17) 2048 (gupd g2 (8 * c + j) x)]) dX9_findLeast_112 4 rfl (by omega) rfl rfl ?_
                      refine g_iinc (pc := 113) X (lv' := [(0, .ref q), (1, gi c), (2, gi (j + 1)), (3, gi x), (4, gi i)]) dX9_findLeast_113 2 rfl rfl rfl ?_
                      refine g_goto (pc := 116) X 12 dX9_findLeast_116 (by decide) ?_
                      refine g_lsub X [0, 1, 2] rfl ?_
                      exact ih12 _ _ (by omega) (fun s s0 s1 q q0 q1 => by rw [gupd_n (by omega)]; exact hr2 s s0 s1 q q0 q1) (all_s (fun q q0 q1 => by rw [gupd_n (by omega)]; exact hb2 q q0 q1) (by rw [gupd_s, hx, rs_e hpl.2 (by omega), show i = pl by omega])) (by omega)
                    · refine g_iload_n (pc := 43) X dX9_findLeast_43 1 rfl ?_
                      refine g_iload (pc := 44) X dX9_findLeast_44 4 rfl ?_
                      refine g_ishr (pc := 46) X dX9_findLeast_46 (by omega) (by omega) ?_
                      refine g_iconst (pc := 47) X dX9_findLeast_47 ?_
                      refine g_iand (pc := 48) X (r := bit c i) dX9_findLeast_48 (iI_bit (by omega)) ?_
                      refine g_iconst (pc := 49) X dX9_findLeast_49 ?_
                      refine g_icmpne (pc := 50) X 95 dX9_findLeast_50 (by decide) (by omega) (by omega) (fun h50 => ?_) (fun h50 => ?_)
                      · refine g_iinc (pc := 95) X (lv' := [(0, .ref q), (1, gi c), (2, gi j), (3, gi x), (4, gi (i + 1))]) dX9_findLeast_95 4 rfl rfl rfl ?_
                        refine g_goto (pc := 98) X 34 dX9_findLeast_98 (by decide) ?_
                        exact ih34 _ _ (by omega) (by rw [mn_s hi.1, ← hx]; first | (exfalso; omega) | (rw [if_pos (by omega)]; unfold gmin; rw [hsq]; first | rw [if_pos (by omega)] | rw [if_neg (by omega)]) | rw [if_neg (by omega)]) (by omega)
                      · have hby := bdel_y h50
                        have hdb := bdel_b (s := c) (k := i) (by omega) (by omega)
                        have hrb := rs_b (Q := P) hA pl (bdel c i) i
                        have hcb := chg_b (Q := P) hA j i
                        have hsq : stp A P j i = chg A P j i := if_neg (by omega)
                        have hpi := pw_b (k := i) (c := 8) (C := 256) rfl (by omega)
                        refine g_aload_n (pc := 53) X dX9_findLeast_53 0 rfl ?_
                        refine g_iload_n (pc := 54) X dX9_findLeast_54 2 rfl ?_
                        refine g_iload (pc := 55) X dX9_findLeast_55 4 rfl ?_
                        refine gc_Vi (pc := 57) X (c_X9_change l D cI cZ q a al at_ st so va fa pl sg su A P j i hA (by omega) hR (by omega) (by omega)) lm_X9_172 dX9_findLeast_57 [0, 1, 2, 3] rfl rfl rfl rfl rfl rfl rfl rfl ?_
                        refine g_aload_n (pc := 60) X dX9_findLeast_60 0 rfl ?_
                        refine g_get (pc := 61) X fl_X9_41 dX9_findLeast_61 0 (v := .ref (a 17)) rfl rfl ?_
                        refine g_bipush (pc := 64) X dX9_findLeast_64 (by decide +kernel) ?_
                        refine g_iload_n (pc := 66) X dX9_findLeast_66 1 rfl ?_
                        refine g_iconst (pc := 67) X dX9_findLeast_67 ?_
                        refine g_iload (pc := 68) X dX9_findLeast_68 4 rfl ?_
                        refine g_ishl (pc := 70) X dX9_findLeast_70 (by omega) (by omega) (by omega) ?_
                        refine g_iconst (pc := 71) X dX9_findLeast_71 ?_
                        refine g_ixor (pc := 72) X (r := ((iI (1 * 2 ^ i.toNat) ^^^ iI (-1)).toInt)) dX9_findLeast_72 iI_xm ?_
                        refine g_iand (pc := 73) X (r := (bdel c i)) dX9_findLeast_73 (iI_del (by omega) (by omega)) ?_
                        refine g_imul (pc := 74) X dX9_findLeast_74 ?_
                        refine g_iload (pc := 75) X dX9_findLeast_75 4 rfl ?_
                        refine g_iadd (pc := 77) X dX9_findLeast_77 ?_
                        refine g_iald (pc := 78) X dX9_findLeast_78 4 rfl (by omega) rfl ?_
                        refine g_top (b := (rs A P pl (bdel c i) i)) (hr2 (bdel c i) hdb.1 hby i hi.1 (by omega)) ?_
                        refine g_iadd (pc := 79) X dX9_findLeast_79 ?_
                        refine g_istore (pc := 80) X (lv' := [(0, .ref q), (1, gi c), (2, gi j), (3, gi x), (4, gi i), (5, gi ((chg A P j i) + (rs A P pl (bdel c i) i)))]) dX9_findLeast_80 rfl rfl ?_
                        refine g_iload (pc := 82) X dX9_findLeast_82 5 rfl ?_
                        refine g_iload_n (pc := 84) X dX9_findLeast_84 3 rfl ?_
                        refine g_icmpge (pc := 85) X 93 dX9_findLeast_85 (by decide) (by omega) (by omega) (fun h85 => ?_) (fun h85 => ?_)
                        · refine g_iload_n (pc := 93) X dX9_findLeast_93 3 rfl ?_
                          refine g_istore_n (pc := 94) X (lv' := [(0, .ref q), (1, gi c), (2, gi j), (3, gi x), (4, gi i), (5, gi ((chg A P j i) + (rs A P pl (bdel c i) i)))]) dX9_findLeast_94 rfl rfl ?_
                          refine g_iinc (pc := 95) X (lv' := [(0, .ref q), (1, gi c), (2, gi j), (3, gi x), (4, gi (i + 1)), (5, gi ((chg A P j i) + (rs A P pl (bdel c i) i)))]) dX9_findLeast_95 4 rfl rfl rfl ?_
                          refine g_goto (pc := 98) X 34 dX9_findLeast_98 (by decide) ?_
                          refine g_lsub X [0, 1, 2, 3, 4] rfl ?_
                          exact ih34 _ _ (by omega) (by rw [mn_s hi.1, ← hx]; first | (exfalso; omega) | (rw [if_pos (by omega)]; unfold gmin; rw [hsq]; first | rw [if_pos (by omega)] | rw [if_neg (by omega)]) | rw [if_neg (by omega)]) (by omega)
                        · refine g_iload (pc := 88) X dX9_findLeast_88 5 rfl ?_
                          refine g_goto (pc := 90) X 94 dX9_findLeast_90 (by decide) ?_
                          refine g_istore_n (pc := 94) X (lv' := [(0, .ref q), (1, gi c), (2, gi j), (3, gi ((chg A P j i) + (rs A P pl (bdel c i) i))), (4, gi i), (5, gi ((chg A P j i) + (rs A P pl (bdel c i) i)))]) dX9_findLeast_94 rfl rfl ?_
                          refine g_iinc (pc := 95) X (lv' := [(0, .ref q), (1, gi c), (2, gi j), (3, gi ((chg A P j i) + (rs A P pl (bdel c i) i))), (4, gi (i + 1)), (5, gi ((chg A P j i) + (rs A P pl (bdel c i) i)))]) dX9_findLeast_95 4 rfl rfl rfl ?_
                          refine g_goto (pc := 98) X 34 dX9_findLeast_98 (by decide) ?_
                          refine g_lsub X [0, 1, 2, 3, 4] rfl ?_
                          exact ih34 _ _ (by omega) (by rw [mn_s hi.1, ← hx]; first | (exfalso; omega) | (rw [if_pos (by omega)]; unfold gmin; rw [hsq]; first | rw [if_pos (by omega)] | rw [if_neg (by omega)]) | rw [if_neg (by omega)]) (by omega)
                exact L34 _ _ _ (by omega) (by show _ = ini c; unfold ini; first | rw [if_pos (by omega)] | rw [if_neg (by omega)]) (Nat.lt_succ_self _)
        exact L12 _ _ _ (by omega) hr (fun q q0 q1 => by omega) (Nat.lt_succ_self _)
  exact L2 _ _ _ (by omega) (fun s s0 s1 => by omega) (Nat.lt_succ_self _)

set_option maxHeartbeats 4000000 in
set_option maxRecDepth 100000 in
theorem c_X9_leastOf (l : Launch) (D : va_G) (cI cZ : ClassId) (q : Nat) (a : Nat → Nat) (al : Int) (at_ : Int) (st : Int) (so : Int) (va : Int) (fa : Int) (pl : Int) (sg : Int) (su : Int) (le : Int → Int) (A : Int → Int) (Q : Int → Int) (s : Int) (hA : okA A) (hpl : 0 ≤ pl ∧ pl ≤ 8) (hs : 0 ≤ s ∧ s < 256) (hv : rtT A Q pl s le) : GM l D cI cZ yX9_leastOf cX9_leastOf 5 (some .int) ({ frames := 0, cells := 0, slots := 0, locals := 0 }) 0 0 true [.ref q, gi s] [oM q a al at_ st so va fa pl sg su, gA cI (a 17) 2048 le] (gPi (rs A Q pl s (-1))) := by
  refine g_enterI (z := false) (lv0 := [(0, .ref q), (1, gi s)]) _ rfl (by decide) rfl rfl (fun V X ret => ?_)
  refine g_iload_n (pc := 0) X dX9_leastOf_0 1 rfl ?_
  refine g_ifne (pc := 1) X 8 dX9_leastOf_1 (by decide) (by omega) (fun h1 => ?_) (fun h1 => ?_)
  · refine g_ldc (pc := 8) X dX9_leastOf_8 kc_X9_171 ?_
    refine g_istore_n (pc := 10) X (lv' := [(0, .ref q), (1, gi s), (2, gi 1000000)]) dX9_leastOf_10 rfl rfl ?_
    refine g_iconst (pc := 11) X dX9_leastOf_11 ?_
    refine g_istore_n (pc := 12) X (lv' := [(0, .ref q), (1, gi s), (2, gi 1000000), (3, gi 0)]) dX9_leastOf_12 rfl rfl ?_
    have L13 : ∀ (n13 : Nat) (x : Int) (i : Int), (0 ≤ i ∧ i ≤ pl) → (x = mn A Q pl s (-1) i) → (pl - i).toNat < n13 → V 0 0 [oM q a al at_ st so va fa pl sg su, gA cI (a 17) 2048 le] 13 [(0, .ref q), (1, gi s), (2, gi x), (3, gi i)] [] := by
      intro n13
      induction n13 with
      | zero => intro x i hi hx hn13; exact absurd hn13 (Nat.not_lt_zero _)
      | succ n13 ih13 =>
        intro x i hi hx hn13
        have hmb := mn_b (Q := Q) hA (n := pl) (s := s) (p := -1) hi.1
        rw [← hx] at hmb
        have hbt := bit_b s i
        have hrb := rs_b (Q := Q) hA pl (bdel s i) i
        refine g_iload_n (pc := 13) X dX9_leastOf_13 3 rfl ?_
        refine g_aload_n (pc := 14) X dX9_leastOf_14 0 rfl ?_
        refine g_get (pc := 15) X fl_X9_151 dX9_leastOf_15 0 (v := gi pl) rfl rfl ?_
        refine g_icmpge (pc := 18) X 73 dX9_leastOf_18 (by decide) (by omega) (by omega) (fun h18 => ?_) (fun h18 => ?_)
        · refine g_iload_n (pc := 73) X dX9_leastOf_73 2 rfl ?_
          exact ret _ _ _ _ _ _ dX9_leastOf_74 rfl rfl (fun h => by cases h) (gPi_e (by rw [hx, rs_e hpl.2 hs, show i = pl by omega]))
        · refine g_iload_n (pc := 21) X dX9_leastOf_21 1 rfl ?_
          refine g_iload_n (pc := 22) X dX9_leastOf_22 3 rfl ?_
          refine g_ishr (pc := 23) X dX9_leastOf_23 (by omega) (by omega) ?_
          refine g_iconst (pc := 24) X dX9_leastOf_24 ?_
          refine g_iand (pc := 25) X (r := bit s i) dX9_leastOf_25 (iI_bit (by omega)) ?_
          refine g_iconst (pc := 26) X dX9_leastOf_26 ?_
          refine g_icmpne (pc := 27) X 50 dX9_leastOf_27 (by decide) (by omega) (by omega) (fun h27 => ?_) (fun h27 => ?_)
          · refine g_ldc (pc := 50) X dX9_leastOf_50 kc_X9_171 ?_
            refine g_istore (pc := 52) X (lv' := [(0, .ref q), (1, gi s), (2, gi x), (3, gi i), (4, gi 1000000)]) dX9_leastOf_52 rfl rfl ?_
            refine g_iload (pc := 54) X dX9_leastOf_54 4 rfl ?_
            refine g_iload_n (pc := 56) X dX9_leastOf_56 2 rfl ?_
            refine g_icmpge (pc := 57) X 65 dX9_leastOf_57 (by decide) (by omega) (by omega) (fun h57 => ?_) (fun h57 => ?_)
            · refine g_iload_n (pc := 65) X dX9_leastOf_65 2 rfl ?_
              refine g_istore_n (pc := 66) X (lv' := [(0, .ref q), (1, gi s), (2, gi x), (3, gi i), (4, gi 1000000)]) dX9_leastOf_66 rfl rfl ?_
              refine g_iinc (pc := 67) X (lv' := [(0, .ref q), (1, gi s), (2, gi x), (3, gi (i + 1)), (4, gi 1000000)]) dX9_leastOf_67 3 rfl rfl rfl ?_
              refine g_goto (pc := 70) X 13 dX9_leastOf_70 (by decide) ?_
              refine g_lsub X [0, 1, 2, 3] rfl ?_
              exact ih13 _ _ (by omega) (by rw [mn_s hi.1, ← hx]; first | (exfalso; omega) | (rw [if_pos (by omega)]; unfold gmin; rw [stp_m, Int.zero_add]; first | rw [if_pos (by omega)] | rw [if_neg (by omega)]) | rw [if_neg (by omega)]) (by omega)
            · refine g_iload (pc := 60) X dX9_leastOf_60 4 rfl ?_
              refine g_goto (pc := 62) X 66 dX9_leastOf_62 (by decide) ?_
              refine g_istore_n (pc := 66) X (lv' := [(0, .ref q), (1, gi s), (2, gi 1000000), (3, gi i), (4, gi 1000000)]) dX9_leastOf_66 rfl rfl ?_
              refine g_iinc (pc := 67) X (lv' := [(0, .ref q), (1, gi s), (2, gi 1000000), (3, gi (i + 1)), (4, gi 1000000)]) dX9_leastOf_67 3 rfl rfl rfl ?_
              refine g_goto (pc := 70) X 13 dX9_leastOf_70 (by decide) ?_
              refine g_lsub X [0, 1, 2, 3] rfl ?_
              exact ih13 _ _ (by omega) (by rw [mn_s hi.1, ← hx]; first | (exfalso; omega) | (rw [if_pos (by omega)]; unfold gmin; rw [stp_m, Int.zero_add]; first | rw [if_pos (by omega)] | rw [if_neg (by omega)]) | rw [if_neg (by omega)]) (by omega)
          · have hby := bdel_y h27
            have hdb := bdel_b (s := s) (k := i) (by omega) (by omega)
            have hpi := pw_b (k := i) (c := 8) (C := 256) rfl (by omega)
            refine g_aload_n (pc := 30) X dX9_leastOf_30 0 rfl ?_
            refine g_get (pc := 31) X fl_X9_41 dX9_leastOf_31 0 (v := .ref (a 17)) rfl rfl ?_
            refine g_bipush (pc := 34) X dX9_leastOf_34 (by decide +kernel) ?_
            refine g_iload_n (pc := 36) X dX9_leastOf_36 1 rfl ?_
            refine g_iconst (pc := 37) X dX9_leastOf_37 ?_
            refine g_iload_n (pc := 38) X dX9_leastOf_38 3 rfl ?_
            refine g_ishl (pc := 39) X dX9_leastOf_39 (by omega) (by omega) (by omega) ?_
            refine g_iconst (pc := 40) X dX9_leastOf_40 ?_
            refine g_ixor (pc := 41) X (r := ((iI (1 * 2 ^ i.toNat) ^^^ iI (-1)).toInt)) dX9_leastOf_41 iI_xm ?_
            refine g_iand (pc := 42) X (r := (bdel s i)) dX9_leastOf_42 (iI_del (by omega) (by omega)) ?_
            refine g_imul (pc := 43) X dX9_leastOf_43 ?_
            refine g_iload_n (pc := 44) X dX9_leastOf_44 3 rfl ?_
            refine g_iadd (pc := 45) X dX9_leastOf_45 ?_
            refine g_iald (pc := 46) X dX9_leastOf_46 1 rfl (by omega) rfl ?_
            refine g_top (b := (rs A Q pl (bdel s i) i)) (hv (bdel s i) hdb.1 hby i hi.1 (by omega)) ?_
            refine g_goto (pc := 47) X 52 dX9_leastOf_47 (by decide) ?_
            refine g_istore (pc := 52) X (lv' := [(0, .ref q), (1, gi s), (2, gi x), (3, gi i), (4, gi (rs A Q pl (bdel s i) i))]) dX9_leastOf_52 rfl rfl ?_
            refine g_iload (pc := 54) X dX9_leastOf_54 4 rfl ?_
            refine g_iload_n (pc := 56) X dX9_leastOf_56 2 rfl ?_
            refine g_icmpge (pc := 57) X 65 dX9_leastOf_57 (by decide) (by omega) (by omega) (fun h57 => ?_) (fun h57 => ?_)
            · refine g_iload_n (pc := 65) X dX9_leastOf_65 2 rfl ?_
              refine g_istore_n (pc := 66) X (lv' := [(0, .ref q), (1, gi s), (2, gi x), (3, gi i), (4, gi (rs A Q pl (bdel s i) i))]) dX9_leastOf_66 rfl rfl ?_
              refine g_iinc (pc := 67) X (lv' := [(0, .ref q), (1, gi s), (2, gi x), (3, gi (i + 1)), (4, gi (rs A Q pl (bdel s i) i))]) dX9_leastOf_67 3 rfl rfl rfl ?_
              refine g_goto (pc := 70) X 13 dX9_leastOf_70 (by decide) ?_
              refine g_lsub X [0, 1, 2, 3] rfl ?_
              exact ih13 _ _ (by omega) (by rw [mn_s hi.1, ← hx]; first | (exfalso; omega) | (rw [if_pos (by omega)]; unfold gmin; rw [stp_m, Int.zero_add]; first | rw [if_pos (by omega)] | rw [if_neg (by omega)]) | rw [if_neg (by omega)]) (by omega)
            · refine g_iload (pc := 60) X dX9_leastOf_60 4 rfl ?_
              refine g_goto (pc := 62) X 66 dX9_leastOf_62 (by decide) ?_
              refine g_istore_n (pc := 66) X (lv' := [(0, .ref q), (1, gi s), (2, gi (rs A Q pl (bdel s i) i)), (3, gi i), (4, gi (rs A Q pl (bdel s i) i))]) dX9_leastOf_66 rfl rfl ?_
              refine g_iinc (pc := 67) X (lv' := [(0, .ref q), (1, gi s), (2, gi (rs A Q pl (bdel s i) i)), (3, gi (i + 1)), (4, gi (rs A Q pl (bdel s i) i))]) dX9_leastOf_67 3 rfl rfl rfl ?_
              refine g_goto (pc := 70) X 13 dX9_leastOf_70 (by decide) ?_
              refine g_lsub X [0, 1, 2, 3] rfl ?_
              exact ih13 _ _ (by omega) (by rw [mn_s hi.1, ← hx]; first | (exfalso; omega) | (rw [if_pos (by omega)]; unfold gmin; rw [stp_m, Int.zero_add]; first | rw [if_pos (by omega)] | rw [if_neg (by omega)]) | rw [if_neg (by omega)]) (by omega)
    exact L13 _ _ _ (by omega) (by show _ = ini s; unfold ini; first | rw [if_pos (by omega)] | rw [if_neg (by omega)]) (Nat.lt_succ_self _)
  · refine g_iconst (pc := 4) X dX9_leastOf_4 ?_
    refine g_goto (pc := 5) X 10 dX9_leastOf_5 (by decide) ?_
    refine g_istore_n (pc := 10) X (lv' := [(0, .ref q), (1, gi s), (2, gi 0)]) dX9_leastOf_10 rfl rfl ?_
    refine g_iconst (pc := 11) X dX9_leastOf_11 ?_
    refine g_istore_n (pc := 12) X (lv' := [(0, .ref q), (1, gi s), (2, gi 0), (3, gi 0)]) dX9_leastOf_12 rfl rfl ?_
    have L13 : ∀ (n13 : Nat) (x : Int) (i : Int), (0 ≤ i ∧ i ≤ pl) → (x = mn A Q pl s (-1) i) → (pl - i).toNat < n13 → V 0 0 [oM q a al at_ st so va fa pl sg su, gA cI (a 17) 2048 le] 13 [(0, .ref q), (1, gi s), (2, gi x), (3, gi i)] [] := by
      intro n13
      induction n13 with
      | zero => intro x i hi hx hn13; exact absurd hn13 (Nat.not_lt_zero _)
      | succ n13 ih13 =>
        intro x i hi hx hn13
        have hmb := mn_b (Q := Q) hA (n := pl) (s := s) (p := -1) hi.1
        rw [← hx] at hmb
        have hbt := bit_b s i
        have hrb := rs_b (Q := Q) hA pl (bdel s i) i
        refine g_iload_n (pc := 13) X dX9_leastOf_13 3 rfl ?_
        refine g_aload_n (pc := 14) X dX9_leastOf_14 0 rfl ?_
        refine g_get (pc := 15) X fl_X9_151 dX9_leastOf_15 0 (v := gi pl) rfl rfl ?_
        refine g_icmpge (pc := 18) X 73 dX9_leastOf_18 (by decide) (by omega) (by omega) (fun h18 => ?_) (fun h18 => ?_)
        · refine g_iload_n (pc := 73) X dX9_leastOf_73 2 rfl ?_
          exact ret _ _ _ _ _ _ dX9_leastOf_74 rfl rfl (fun h => by cases h) (gPi_e (by rw [hx, rs_e hpl.2 hs, show i = pl by omega]))
        · refine g_iload_n (pc := 21) X dX9_leastOf_21 1 rfl ?_
          refine g_iload_n (pc := 22) X dX9_leastOf_22 3 rfl ?_
          refine g_ishr (pc := 23) X dX9_leastOf_23 (by omega) (by omega) ?_
          refine g_iconst (pc := 24) X dX9_leastOf_24 ?_
          refine g_iand (pc := 25) X (r := bit s i) dX9_leastOf_25 (iI_bit (by omega)) ?_
          refine g_iconst (pc := 26) X dX9_leastOf_26 ?_
          refine g_icmpne (pc := 27) X 50 dX9_leastOf_27 (by decide) (by omega) (by omega) (fun h27 => ?_) (fun h27 => ?_)
          · refine g_ldc (pc := 50) X dX9_leastOf_50 kc_X9_171 ?_
            refine g_istore (pc := 52) X (lv' := [(0, .ref q), (1, gi s), (2, gi x), (3, gi i), (4, gi 1000000)]) dX9_leastOf_52 rfl rfl ?_
            refine g_iload (pc := 54) X dX9_leastOf_54 4 rfl ?_
            refine g_iload_n (pc := 56) X dX9_leastOf_56 2 rfl ?_
            refine g_icmpge (pc := 57) X 65 dX9_leastOf_57 (by decide) (by omega) (by omega) (fun h57 => ?_) (fun h57 => ?_)
            · refine g_iload_n (pc := 65) X dX9_leastOf_65 2 rfl ?_
              refine g_istore_n (pc := 66) X (lv' := [(0, .ref q), (1, gi s), (2, gi x), (3, gi i), (4, gi 1000000)]) dX9_leastOf_66 rfl rfl ?_
              refine g_iinc (pc := 67) X (lv' := [(0, .ref q), (1, gi s), (2, gi x), (3, gi (i + 1)), (4, gi 1000000)]) dX9_leastOf_67 3 rfl rfl rfl ?_
              refine g_goto (pc := 70) X 13 dX9_leastOf_70 (by decide) ?_
              refine g_lsub X [0, 1, 2, 3] rfl ?_
              exact ih13 _ _ (by omega) (by rw [mn_s hi.1, ← hx]; first | (exfalso; omega) | (rw [if_pos (by omega)]; unfold gmin; rw [stp_m, Int.zero_add]; first | rw [if_pos (by omega)] | rw [if_neg (by omega)]) | rw [if_neg (by omega)]) (by omega)
            · refine g_iload (pc := 60) X dX9_leastOf_60 4 rfl ?_
              refine g_goto (pc := 62) X 66 dX9_leastOf_62 (by decide) ?_
              refine g_istore_n (pc := 66) X (lv' := [(0, .ref q), (1, gi s), (2, gi 1000000), (3, gi i), (4, gi 1000000)]) dX9_leastOf_66 rfl rfl ?_
              refine g_iinc (pc := 67) X (lv' := [(0, .ref q), (1, gi s), (2, gi 1000000), (3, gi (i + 1)), (4, gi 1000000)]) dX9_leastOf_67 3 rfl rfl rfl ?_
              refine g_goto (pc := 70) X 13 dX9_leastOf_70 (by decide) ?_
              refine g_lsub X [0, 1, 2, 3] rfl ?_
              exact ih13 _ _ (by omega) (by rw [mn_s hi.1, ← hx]; first | (exfalso; omega) | (rw [if_pos (by omega)]; unfold gmin; rw [stp_m, Int.zero_add]; first | rw [if_pos (by omega)] | rw [if_neg (by omega)]) | rw [if_neg (by omega)]) (by omega)
          · have hby := bdel_y h27
            have hdb := bdel_b (s := s) (k := i) (by omega) (by omega)
            have hpi := pw_b (k := i) (c := 8) (C := 256) rfl (by omega)
            refine g_aload_n (pc := 30) X dX9_leastOf_30 0 rfl ?_
            refine g_get (pc := 31) X fl_X9_41 dX9_leastOf_31 0 (v := .ref (a 17)) rfl rfl ?_
            refine g_bipush (pc := 34) X dX9_leastOf_34 (by decide +kernel) ?_
            refine g_iload_n (pc := 36) X dX9_leastOf_36 1 rfl ?_
            refine g_iconst (pc := 37) X dX9_leastOf_37 ?_
            refine g_iload_n (pc := 38) X dX9_leastOf_38 3 rfl ?_
            refine g_ishl (pc := 39) X dX9_leastOf_39 (by omega) (by omega) (by omega) ?_
            refine g_iconst (pc := 40) X dX9_leastOf_40 ?_
            refine g_ixor (pc := 41) X (r := ((iI (1 * 2 ^ i.toNat) ^^^ iI (-1)).toInt)) dX9_leastOf_41 iI_xm ?_
            refine g_iand (pc := 42) X (r := (bdel s i)) dX9_leastOf_42 (iI_del (by omega) (by omega)) ?_
            refine g_imul (pc := 43) X dX9_leastOf_43 ?_
            refine g_iload_n (pc := 44) X dX9_leastOf_44 3 rfl ?_
            refine g_iadd (pc := 45) X dX9_leastOf_45 ?_
            refine g_iald (pc := 46) X dX9_leastOf_46 1 rfl (by omega) rfl ?_
            refine g_top (b := (rs A Q pl (bdel s i) i)) (hv (bdel s i) hdb.1 hby i hi.1 (by omega)) ?_
            refine g_goto (pc := 47) X 52 dX9_leastOf_47 (by decide) ?_
            refine g_istore (pc := 52) X (lv' := [(0, .ref q), (1, gi s), (2, gi x), (3, gi i), (4, gi (rs A Q pl (bdel s i) i))]) dX9_leastOf_52 rfl rfl ?_
            refine g_iload (pc := 54) X dX9_leastOf_54 4 rfl ?_
            refine g_iload_n (pc := 56) X dX9_leastOf_56 2 rfl ?_
            refine g_icmpge (pc := 57) X 65 dX9_leastOf_57 (by decide) (by omega) (by omega) (fun h57 => ?_) (fun h57 => ?_)
            · refine g_iload_n (pc := 65) X dX9_leastOf_65 2 rfl ?_
              refine g_istore_n (pc := 66) X (lv' := [(0, .ref q), (1, gi s), (2, gi x), (3, gi i), (4, gi (rs A Q pl (bdel s i) i))]) dX9_leastOf_66 rfl rfl ?_
              refine g_iinc (pc := 67) X (lv' := [(0, .ref q), (1, gi s), (2, gi x), (3, gi (i + 1)), (4, gi (rs A Q pl (bdel s i) i))]) dX9_leastOf_67 3 rfl rfl rfl ?_
              refine g_goto (pc := 70) X 13 dX9_leastOf_70 (by decide) ?_
              refine g_lsub X [0, 1, 2, 3] rfl ?_
              exact ih13 _ _ (by omega) (by rw [mn_s hi.1, ← hx]; first | (exfalso; omega) | (rw [if_pos (by omega)]; unfold gmin; rw [stp_m, Int.zero_add]; first | rw [if_pos (by omega)] | rw [if_neg (by omega)]) | rw [if_neg (by omega)]) (by omega)
            · refine g_iload (pc := 60) X dX9_leastOf_60 4 rfl ?_
              refine g_goto (pc := 62) X 66 dX9_leastOf_62 (by decide) ?_
              refine g_istore_n (pc := 66) X (lv' := [(0, .ref q), (1, gi s), (2, gi (rs A Q pl (bdel s i) i)), (3, gi i), (4, gi (rs A Q pl (bdel s i) i))]) dX9_leastOf_66 rfl rfl ?_
              refine g_iinc (pc := 67) X (lv' := [(0, .ref q), (1, gi s), (2, gi (rs A Q pl (bdel s i) i)), (3, gi (i + 1)), (4, gi (rs A Q pl (bdel s i) i))]) dX9_leastOf_67 3 rfl rfl rfl ?_
              refine g_goto (pc := 70) X 13 dX9_leastOf_70 (by decide) ?_
              refine g_lsub X [0, 1, 2, 3] rfl ?_
              exact ih13 _ _ (by omega) (by rw [mn_s hi.1, ← hx]; first | (exfalso; omega) | (rw [if_pos (by omega)]; unfold gmin; rw [stp_m, Int.zero_add]; first | rw [if_pos (by omega)] | rw [if_neg (by omega)]) | rw [if_neg (by omega)]) (by omega)
    exact L13 _ _ _ (by omega) (by show _ = ini s; unfold ini; first | rw [if_pos (by omega)] | rw [if_neg (by omega)]) (Nat.lt_succ_self _)

set_option maxHeartbeats 4000000 in
set_option maxRecDepth 100000 in
theorem c_X9_order (l : Launch) (D : va_G) (cI cZ : ClassId) (q : Nat) (a : Nat → Nat) (al : Int) (at_ : Int) (st : Int) (so : Int) (va : Int) (fa : Int) (pl : Int) (sg : Int) (su : Int) (A : Int → Int) (kp : Int → Int) (rf : Int → Int) (lk_ : Int → Int) (sh : Int → Int) (pi : Int → Int) (th : Int → Int) (fl : Int → Int) (so_ : Int → Int) (fr : Int → Int) (le : Int → Int) (lg : Int → Int) (bg : Int → Int) (i : Int) (hA : okA A) (hi : -2147483648 ≤ i ∧ i < 2147483648) : GM l D cI cZ yX9_order cX9_order 8 (some .int) ({ frames := 5, cells := 0, slots := 0, locals := 111 }) 0 0 false [.ref q, gi i] [oM q a al at_ st so va fa pl sg su, gA cI (a 0) 1140 A, gA cZ (a 1) 2 kp, gA cI (a 2) 3 rf, gA cI (a 3) 6 lk_, gA cI (a 5) 60 sh, gA cI (a 12) 8 pi, gA cI (a 13) 8 th, gA cI (a 14) 8 fl, gA cI (a 15) 8 so_, gA cI (a 16) 8 fr, gA cI (a 17) 2048 le, gA cI (a 18) 41 lg, gA cI (a 19) 112 bg] (gPxi (fun xo : (Int) × (Int) × (Int) × (Int) × (Int) × (Int) × (Int → Int) × (Int → Int) => (o_order A i).1) (fun xo : (Int) × (Int) × (Int) × (Int) × (Int) × (Int) × (Int → Int) × (Int → Int) => [oM q a al xo.1 xo.2.1 xo.2.2.1 xo.2.2.2.1 xo.2.2.2.2.1 xo.2.2.2.2.2.1 sg su, gA cI (a 0) 1140 A, gA cZ (a 1) 2 kp, gA cI (a 2) 3 (bump ((o_order A i).2) rf), gA cI (a 3) 6 lk_, gA cI (a 5) 60 sh, gA cI (a 12) 8 (fun j => xo.2.2.2.2.2.2.1 (0 + j)), gA cI (a 13) 8 (fun j => xo.2.2.2.2.2.2.1 (8 + j)), gA cI (a 14) 8 (fun j => xo.2.2.2.2.2.2.1 (16 + j)), gA cI (a 15) 8 (fun j => xo.2.2.2.2.2.2.1 (24 + j)), gA cI (a 16) 8 (fun j => xo.2.2.2.2.2.2.1 (32 + j)), gA cI (a 17) 2048 xo.2.2.2.2.2.2.2, gA cI (a 18) 41 lg, gA cI (a 19) 112 bg]) (fun xo : (Int) × (Int) × (Int) × (Int) × (Int) × (Int) × (Int → Int) × (Int → Int) => True)) := by
  refine g_enterI (z := false) (lv0 := [(0, .ref q), (1, gi i)]) _ rfl (by decide) rfl rfl (fun V X ret => ?_)
  have hA1 := okA_1 hA
  have hA0 := okA_0 hA
  have hpu := okA_pu hA
  have hA2 := okA_2 hA
  refine g_ws (ws' := [oM q a al at_ st so va fa pl sg su, gA cI (a 0) 1140 A, gA cZ (a 1) 2 kp, gA cI (a 2) 3 rf, gA cI (a 3) 6 lk_, gA cI (a 5) 60 sh, gA cI (a 12) 8 (fun j => (pk5 pi th fl so_ fr) (0 + j)), gA cI (a 13) 8 (fun j => (pk5 pi th fl so_ fr) (8 + j)), gA cI (a 14) 8 (fun j => (pk5 pi th fl so_ fr) (16 + j)), gA cI (a 15) 8 (fun j => (pk5 pi th fl so_ fr) (24 + j)), gA cI (a 16) 8 (fun j => (pk5 pi th fl so_ fr) (32 + j)), gA cI (a 17) 2048 le, gA cI (a 18) 41 lg, gA cI (a 19) 112 bg]) (by rw [(show gA cI (a 12) 8 (pi) = gA cI (a 12) 8 (fun j => (pk5 pi th fl so_ fr) (0 + j)) from gA_ext (fun j j0 j1 => (by unfold pk5; (try dsimp only); (repeat' split) <;> first | exact congrArg _ (by omega) | (exfalso; omega)))), (show gA cI (a 13) 8 (th) = gA cI (a 13) 8 (fun j => (pk5 pi th fl so_ fr) (8 + j)) from gA_ext (fun j j0 j1 => (by unfold pk5; (try dsimp only); (repeat' split) <;> first | exact congrArg _ (by omega) | (exfalso; omega)))), (show gA cI (a 14) 8 (fl) = gA cI (a 14) 8 (fun j => (pk5 pi th fl so_ fr) (16 + j)) from gA_ext (fun j j0 j1 => (by unfold pk5; (try dsimp only); (repeat' split) <;> first | exact congrArg _ (by omega) | (exfalso; omega)))), (show gA cI (a 15) 8 (so_) = gA cI (a 15) 8 (fun j => (pk5 pi th fl so_ fr) (24 + j)) from gA_ext (fun j j0 j1 => (by unfold pk5; (try dsimp only); (repeat' split) <;> first | exact congrArg _ (by omega) | (exfalso; omega)))), (show gA cI (a 16) 8 (fr) = gA cI (a 16) 8 (fun j => (pk5 pi th fl so_ fr) (32 + j)) from gA_ext (fun j j0 j1 => (by unfold pk5; (try dsimp only); (repeat' split) <;> first | exact congrArg _ (by omega) | (exfalso; omega))))]) ?_
  refine g_aload_n (pc := 0) X dX9_order_0 0 rfl ?_
  refine gc_Vxi (pc := 1) X (wr := [gA cZ (a 1) 2 kp, gA cI (a 2) 3 rf, gA cI (a 3) 6 lk_, gA cI (a 5) 60 sh, gA cI (a 17) 2048 le, gA cI (a 18) 41 lg, gA cI (a 19) 112 bg]) (c_X9_readReel l D cI cZ q a al at_ st so va fa pl sg su A (pk5 pi th fl so_ fr) hA) lm_X9_157 dX9_order_1 [0, 1, 6, 7, 8, 9, 10] [2, 3, 4, 5, 11, 12, 13] rfl rfl rfl rfl (by decide) rfl rfl rfl rfl rfl rfl (fun x1 hx1 => ?_)
  obtain ⟨at3_1, st3_1, so3_1, va3_1, fa3_1, pl3_1, P3_1⟩ := x1
  have hr_1 : rdS A fa3_1 pl3_1 P3_1 := hx1
  refine g_pick (cn := 0) (sl := 0) (st := gi (gB (rF A = -1)) :: []) X (ws' := [oM q a al at3_1 st3_1 so3_1 va3_1 fa3_1 pl3_1 sg su, gA cI (a 0) 1140 A, gA cZ (a 1) 2 kp, gA cI (a 2) 3 rf, gA cI (a 3) 6 lk_, gA cI (a 5) 60 sh, gA cI (a 12) 8 (fun j => P3_1 (0 + j)), gA cI (a 13) 8 (fun j => P3_1 (8 + j)), gA cI (a 14) 8 (fun j => P3_1 (16 + j)), gA cI (a 15) 8 (fun j => P3_1 (24 + j)), gA cI (a 16) 8 (fun j => P3_1 (32 + j)), gA cI (a 17) 2048 le, gA cI (a 18) 41 lg, gA cI (a 19) 112 bg]) [7, 8, 0, 1, 2, 3, 9, 10, 11, 12, 13, 4, 5, 6] rfl rfl ?_
  refine g_ifneB (pc := 4) X 14 dX9_order_4 (by decide) (fun h4 => ?_) (fun h4 => ?_)
  · have hrd := hr_1.2 h4
    have hn1 := hrd.1
    have hpb := rP_b hA2.1 h4
    have hrg : ∀ j, 0 ≤ j → j < rP A → rgR (A 0) P3_1 j := fun j j0 j1 => rgR_c (hrd.2 j j0 j1) (rR_b hA2.1 h4 ⟨j0, j1⟩)
    have hpw := pw_b (k := rP A) (c := 8) (C := 256) rfl (by omega)
    refine g_ws (ws' := [oM q a al at3_1 st3_1 so3_1 va3_1 fa3_1 (rP A) sg su, gA cI (a 0) 1140 A, gA cZ (a 1) 2 kp, gA cI (a 2) 3 rf, gA cI (a 3) 6 lk_, gA cI (a 5) 60 sh, gA cI (a 12) 8 (fun j => P3_1 (0 + j)), gA cI (a 13) 8 (fun j => P3_1 (8 + j)), gA cI (a 14) 8 (fun j => P3_1 (16 + j)), gA cI (a 15) 8 (fun j => P3_1 (24 + j)), gA cI (a 16) 8 (fun j => P3_1 (32 + j)), gA cI (a 17) 2048 le, gA cI (a 18) 41 lg, gA cI (a 19) 112 bg]) (by rw [hn1]) ?_
    refine g_iload_n (pc := 14) X dX9_order_14 1 rfl ?_
    refine g_iconst (pc := 15) X dX9_order_15 ?_
    refine g_icmpge (pc := 16) X 26 dX9_order_16 (by decide) (by omega) (by omega) (fun h16 => ?_) (fun h16 => ?_)
    · refine g_aload_n (pc := 26) X dX9_order_26 0 rfl ?_
      refine gc_Vxv (pc := 27) X (wr := [gA cZ (a 1) 2 kp, gA cI (a 2) 3 rf, gA cI (a 3) 6 lk_, gA cI (a 5) 60 sh, gA cI (a 12) 8 (fun j => P3_1 (0 + j)), gA cI (a 13) 8 (fun j => P3_1 (8 + j)), gA cI (a 16) 8 (fun j => P3_1 (32 + j)), gA cI (a 18) 41 lg, gA cI (a 19) 112 bg]) (c_X9_findLeast l D cI cZ q a al at3_1 st3_1 so3_1 va3_1 fa3_1 (rP A) sg su A P3_1 le hA (by omega) hrg) lm_X9_175 dX9_order_27 [0, 1, 8, 9, 11] [2, 3, 4, 5, 6, 7, 10, 12, 13] rfl rfl rfl rfl (by decide) rfl rfl rfl rfl rfl rfl (fun x27 hx27 => ?_)
      generalize x27 = g_27 at hx27 ⊢
      have hv_27 : rtT A P3_1 (rP A) (1 * 2 ^ (rP A).toNat) g_27 := hx27
      refine g_pick (cn := 0) (sl := 0) (st := []) X (ws' := [oM q a al at3_1 st3_1 so3_1 va3_1 fa3_1 (rP A) sg su, gA cI (a 0) 1140 A, gA cZ (a 1) 2 kp, gA cI (a 2) 3 rf, gA cI (a 3) 6 lk_, gA cI (a 5) 60 sh, gA cI (a 12) 8 (fun j => P3_1 (0 + j)), gA cI (a 13) 8 (fun j => P3_1 (8 + j)), gA cI (a 14) 8 (fun j => P3_1 (16 + j)), gA cI (a 15) 8 (fun j => P3_1 (24 + j)), gA cI (a 16) 8 (fun j => P3_1 (32 + j)), gA cI (a 17) 2048 g_27, gA cI (a 18) 41 lg, gA cI (a 19) 112 bg]) [9, 10, 0, 1, 2, 3, 4, 5, 11, 12, 6, 13, 7, 8] rfl rfl ?_
      have hvq := rtT_c (by omega) hrd.2 hv_27
      refine g_aload_n (pc := 30) X dX9_order_30 0 rfl ?_
      refine g_aload_n (pc := 31) X dX9_order_31 0 rfl ?_
      refine gc_Vi (pc := 32) X (c_X9_allPlaces l D cI cZ q a al at3_1 st3_1 so3_1 va3_1 fa3_1 (rP A) sg su (by omega)) lm_X9_164 dX9_order_32 [0] rfl rfl rfl rfl rfl rfl rfl rfl ?_
      refine gc_Vi (pc := 35) X (c_X9_leastOf l D cI cZ q a al at3_1 st3_1 so3_1 va3_1 fa3_1 (rP A) sg su g_27 _ (rR A) (1 * 2 ^ (rP A).toNat - 1) hA (by omega) (by omega) (fun l_ l0 l1 => hvq l_ l0 (by omega))) lm_X9_178 dX9_order_35 [0, 11] rfl rfl rfl rfl rfl rfl rfl rfl ?_
      refine g_istore_n (pc := 38) X (lv' := [(0, .ref q), (1, gi i), (2, gi (rs A (rR A) (rP A) (1 * 2 ^ (rP A).toNat - 1) (-1)))]) dX9_order_38 rfl rfl ?_
      refine g_iload_n (pc := 39) X dX9_order_39 1 rfl ?_
      refine g_iconst (pc := 40) X dX9_order_40 ?_
      refine g_icmpne (pc := 41) X 46 dX9_order_41 (by decide) (by omega) (by omega) (fun h41 => ?_) (fun h41 => ?_)
      · refine g_iload_n (pc := 46) X dX9_order_46 1 rfl ?_
        refine g_aload_n (pc := 47) X dX9_order_47 0 rfl ?_
        refine g_get (pc := 48) X fl_X9_151 dX9_order_48 0 (v := gi (rP A)) rfl rfl ?_
        refine g_icmplt (pc := 51) X 57 dX9_order_51 (by decide) (by omega) (by omega) (fun h51 => ?_) (fun h51 => ?_)
        · refine g_aload_n (pc := 57) X dX9_order_57 0 rfl ?_
          refine gc_Vi (pc := 58) X (c_X9_allPlaces l D cI cZ q a al at3_1 st3_1 so3_1 va3_1 fa3_1 (rP A) sg su (by omega)) lm_X9_164 dX9_order_58 [0] rfl rfl rfl rfl rfl rfl rfl rfl ?_
          refine g_istore_n (pc := 61) X (lv' := [(0, .ref q), (1, gi i), (2, gi (rs A (rR A) (rP A) (1 * 2 ^ (rP A).toNat - 1) (-1))), (3, gi (1 * 2 ^ (rP A).toNat - 1))]) dX9_order_61 rfl rfl ?_
          refine g_iconst (pc := 62) X dX9_order_62 ?_
          refine g_istore (pc := 63) X (lv' := [(0, .ref q), (1, gi i), (2, gi (rs A (rR A) (rP A) (1 * 2 ^ (rP A).toNat - 1) (-1))), (3, gi (1 * 2 ^ (rP A).toNat - 1)), (4, gi (-1))]) dX9_order_63 rfl rfl ?_
          refine g_iload_n (pc := 65) X dX9_order_65 2 rfl ?_
          refine g_istore (pc := 66) X (lv' := [(0, .ref q), (1, gi i), (2, gi (rs A (rR A) (rP A) (1 * 2 ^ (rP A).toNat - 1) (-1))), (3, gi (1 * 2 ^ (rP A).toNat - 1)), (4, gi (-1)), (5, gi (rs A (rR A) (rP A) (1 * 2 ^ (rP A).toNat - 1) (-1)))]) dX9_order_66 rfl rfl ?_
          refine g_iconst (pc := 68) X dX9_order_68 ?_
          refine g_istore (pc := 69) X (lv' := [(0, .ref q), (1, gi i), (2, gi (rs A (rR A) (rP A) (1 * 2 ^ (rP A).toNat - 1) (-1))), (3, gi (1 * 2 ^ (rP A).toNat - 1)), (4, gi (-1)), (5, gi (rs A (rR A) (rP A) (1 * 2 ^ (rP A).toNat - 1) (-1))), (6, gi 0)]) dX9_order_69 rfl rfl ?_
          have L71 : ∀ (n71 : Nat) (s : Int) (p : Int) (d : Int) (k : Int), (0 ≤ k ∧ k ≤ i + 1) → (ord A (rR A) (rP A) k = (s, p)) → (bitc s = rP A - k) → (0 ≤ s ∧ s < 1 * 2 ^ (rP A).toNat) → (-1 ≤ p ∧ p < rP A) → (d = rs A (rR A) (rP A) s p) → (i + 1 - k).toNat < n71 → V 0 0 [oM q a al at3_1 st3_1 so3_1 va3_1 fa3_1 (rP A) sg su, gA cI (a 0) 1140 A, gA cZ (a 1) 2 kp, gA cI (a 2) 3 rf, gA cI (a 3) 6 lk_, gA cI (a 5) 60 sh, gA cI (a 12) 8 (fun j => P3_1 (0 + j)), gA cI (a 13) 8 (fun j => P3_1 (8 + j)), gA cI (a 14) 8 (fun j => P3_1 (16 + j)), gA cI (a 15) 8 (fun j => P3_1 (24 + j)), gA cI (a 16) 8 (fun j => P3_1 (32 + j)), gA cI (a 17) 2048 g_27, gA cI (a 18) 41 lg, gA cI (a 19) 112 bg] 71 [(0, .ref q), (1, gi i), (2, gi (rs A (rR A) (rP A) (1 * 2 ^ (rP A).toNat - 1) (-1))), (3, gi s), (4, gi p), (5, gi d), (6, gi k)] [] := by
            intro n71
            induction n71 with
            | zero => intro s p d k hk hst hbc hsr hpr hd hn71; exact absurd hn71 (Nat.not_lt_zero _)
            | succ n71 ih71 =>
              intro s p d k hk hst hbc hsr hpr hd hn71
              have hrd0 := rs_b (Q := rR A) hA (rP A) s p
              rw [← hd] at hrd0
              refine g_iload (pc := 71) X dX9_order_71 6 rfl ?_
              refine g_iload_n (pc := 73) X dX9_order_73 1 rfl ?_
              refine g_icmpgt (pc := 74) X 180 dX9_order_74 (by decide) (by omega) (by omega) (fun h74 => ?_) (fun h74 => ?_)
              · refine g_iload (pc := 180) X dX9_order_180 4 rfl ?_
                exact ret _ _ _ _ _ _ dX9_order_182 rfl rfl (fun h => by cases h) (gPxi_e (at3_1, st3_1, so3_1, va3_1, fa3_1, rP A, P3_1, _) (by rw [(show o_order A i = ((ord A (rR A) (rP A) (i + 1)).2, -1) from (if_pos h4).trans ((if_neg (by omega)).trans ((if_neg (by omega)).trans (if_neg (by omega)))))]; (try dsimp only); rw [show i + 1 = k by omega, hst]) (by rw [(show o_order A i = ((ord A (rR A) (rP A) (i + 1)).2, -1) from (if_pos h4).trans ((if_neg (by omega)).trans ((if_neg (by omega)).trans (if_neg (by omega)))))]; rfl) trivial)
              · have hs0 : s ≠ 0 := by intro z0; rw [z0, bc_0] at hbc; omega
                obtain ⟨z, hz1, hz2⟩ := rs_x (Q := rR A) hA hpb (s := s) (by omega) p
                refine g_iconst (pc := 77) X dX9_order_77 ?_
                refine g_istore (pc := 78) X (lv' := [(0, .ref q), (1, gi i), (2, gi (rs A (rR A) (rP A) (1 * 2 ^ (rP A).toNat - 1) (-1))), (3, gi s), (4, gi p), (5, gi d), (6, gi k), (7, gi 0)]) dX9_order_78 rfl rfl ?_
                have L80 : ∀ (n80 : Nat) (f : Int), (0 ≤ f ∧ f ≤ z) → (∀ y, 0 ≤ y → y < f → ¬ nxP A (rR A) (rP A) s p y) → (z - f).toNat < n80 → V 0 0 [oM q a al at3_1 st3_1 so3_1 va3_1 fa3_1 (rP A) sg su, gA cI (a 0) 1140 A, gA cZ (a 1) 2 kp, gA cI (a 2) 3 rf, gA cI (a 3) 6 lk_, gA cI (a 5) 60 sh, gA cI (a 12) 8 (fun j => P3_1 (0 + j)), gA cI (a 13) 8 (fun j => P3_1 (8 + j)), gA cI (a 14) 8 (fun j => P3_1 (16 + j)), gA cI (a 15) 8 (fun j => P3_1 (24 + j)), gA cI (a 16) 8 (fun j => P3_1 (32 + j)), gA cI (a 17) 2048 g_27, gA cI (a 18) 41 lg, gA cI (a 19) 112 bg] 80 [(0, .ref q), (1, gi i), (2, gi (rs A (rR A) (rP A) (1 * 2 ^ (rP A).toNat - 1) (-1))), (3, gi s), (4, gi p), (5, gi d), (6, gi k), (7, gi f)] [] := by
                  intro n80
                  induction n80 with
                  | zero => intro f hf hx hn80; exact absurd hn80 (Nat.not_lt_zero _)
                  | succ n80 ih80 =>
                    intro f hf hx hn80
                    have hbt := bit_b s f
                    have hsb := stp_b (Q := rR A) hA p f
                    have hrb := rs_b (Q := rR A) hA (rP A) (bdel s f) f
                    have hcb := chg_b (Q := rR A) hA p f
                    refine g_iload_n (pc := 80) X dX9_order_80 3 rfl ?_
                    refine g_iload (pc := 81) X dX9_order_81 7 rfl ?_
                    refine g_ishr (pc := 83) X dX9_order_83 (by omega) (by omega) ?_
                    refine g_iconst (pc := 84) X dX9_order_84 ?_
                    refine g_iand (pc := 85) X (r := bit s f) dX9_order_85 (iI_bit (by omega)) ?_
                    refine g_ifeq (pc := 86) X 132 dX9_order_86 (by decide) (by omega) (fun h86 => ?_) (fun h86 => ?_)
                    · have hnf : ¬ nxP A (rR A) (rP A) s p f := fun cc => by have c1 := cc.1; have c2 := cc.2; omega
                      have hfz : f ≠ z := fun e => hnf (by rw [e]; exact hz2)
                      refine g_iinc (pc := 132) X (lv' := [(0, .ref q), (1, gi i), (2, gi (rs A (rR A) (rP A) (1 * 2 ^ (rP A).toNat - 1) (-1))), (3, gi s), (4, gi p), (5, gi d), (6, gi k), (7, gi (f + 1))]) dX9_order_132 7 rfl rfl rfl ?_
                      refine g_goto (pc := 135) X 80 dX9_order_135 (by decide) ?_
                      exact ih80 _ (by omega) (all_s (P := fun y => ¬ nxP A (rR A) (rP A) s p y) hx hnf) (by omega)
                    · have hb1 : bit s f = 1 := by omega
                      have hdb := bdel_b (s := s) (k := f) (by omega) (by omega)
                      have hby := bdel_y hb1
                      have hpf := pw_b (k := f) (c := 8) (C := 256) rfl (by omega)
                      refine g_iload (pc := 89) X dX9_order_89 4 rfl ?_
                      refine g_iconst (pc := 91) X dX9_order_91 ?_
                      refine g_icmpne (pc := 92) X 99 dX9_order_92 (by decide) (by omega) (by omega) (fun h92 => ?_) (fun h92 => ?_)
                      · have hsp : stp A (rR A) p f = chg A (rR A) p f := if_neg (by omega)
                        refine g_aload_n (pc := 99) X dX9_order_99 0 rfl ?_
                        refine g_iload (pc := 100) X dX9_order_100 4 rfl ?_
                        refine g_iload (pc := 102) X dX9_order_102 7 rfl ?_
                        refine gc_Vi (pc := 104) X (c_X9_change l D cI cZ q a al at3_1 st3_1 so3_1 va3_1 fa3_1 (rP A) sg su A P3_1 p f hA (by omega) hrg (by omega) (by omega)) lm_X9_172 dX9_order_104 [0, 1, 8, 9] rfl rfl rfl rfl rfl rfl rfl rfl ?_
                        refine g_top (b := (chg A (rR A) p f)) (chg_c (hrd.2 p (by omega) (by omega)) (hrd.2 f (by omega) (by omega))) ?_
                        refine g_aload_n (pc := 107) X dX9_order_107 0 rfl ?_
                        refine g_get (pc := 108) X fl_X9_41 dX9_order_108 0 (v := .ref (a 17)) rfl rfl ?_
                        refine g_bipush (pc := 111) X dX9_order_111 (by decide +kernel) ?_
                        refine g_iload_n (pc := 113) X dX9_order_113 3 rfl ?_
                        refine g_iconst (pc := 114) X dX9_order_114 ?_
                        refine g_iload (pc := 115) X dX9_order_115 7 rfl ?_
                        refine g_ishl (pc := 117) X dX9_order_117 (by omega) (by omega) (by omega) ?_
                        refine g_iconst (pc := 118) X dX9_order_118 ?_
                        refine g_ixor (pc := 119) X (r := ((iI (1 * 2 ^ f.toNat) ^^^ iI (-1)).toInt)) dX9_order_119 iI_xm ?_
                        refine g_iand (pc := 120) X (r := (bdel s f)) dX9_order_120 (iI_del (by omega) (by omega)) ?_
                        refine g_imul (pc := 121) X dX9_order_121 ?_
                        refine g_iload (pc := 122) X dX9_order_122 7 rfl ?_
                        refine g_iadd (pc := 124) X dX9_order_124 ?_
                        refine g_iald (pc := 125) X dX9_order_125 11 rfl (by omega) rfl ?_
                        refine g_top (b := (rs A (rR A) (rP A) (bdel s f) f)) (hvq (bdel s f) hdb.1 (by omega) f hf.1 (by omega)) ?_
                        refine g_iadd (pc := 126) X dX9_order_126 ?_
                        refine g_iload (pc := 127) X dX9_order_127 5 rfl ?_
                        refine g_icmpeq (pc := 129) X 138 dX9_order_129 (by decide) (by omega) (by omega) (fun h129 => ?_) (fun h129 => ?_)
                        · have hyf : nxP A (rR A) (rP A) s p f := ⟨hb1, by omega⟩
                          have hfn := fN_is ⟨hf.1, by omega⟩ hyf hx
                          refine g_iload (pc := 138) X dX9_order_138 5 rfl ?_
                          refine g_iload (pc := 140) X dX9_order_140 4 rfl ?_
                          refine g_iconst (pc := 142) X dX9_order_142 ?_
                          refine g_icmpne (pc := 143) X 150 dX9_order_143 (by decide) (by omega) (by omega) (fun h143 => ?_) (fun h143 => absurd h143 (by omega))
                          refine g_aload_n (pc := 150) X dX9_order_150 0 rfl ?_
                          refine g_iload (pc := 151) X dX9_order_151 4 rfl ?_
                          refine g_iload (pc := 153) X dX9_order_153 7 rfl ?_
                          refine gc_Vi (pc := 155) X (c_X9_change l D cI cZ q a al at3_1 st3_1 so3_1 va3_1 fa3_1 (rP A) sg su A P3_1 p f hA (by omega) hrg (by omega) (by omega)) lm_X9_172 dX9_order_155 [0, 1, 8, 9] rfl rfl rfl rfl rfl rfl rfl rfl ?_
                          refine g_top (b := (chg A (rR A) p f)) (chg_c (hrd.2 p (by omega) (by omega)) (hrd.2 f (by omega) (by omega))) ?_
                          refine g_isub (pc := 158) X dX9_order_158 ?_
                          refine g_istore (pc := 159) X (lv' := [(0, .ref q), (1, gi i), (2, gi (rs A (rR A) (rP A) (1 * 2 ^ (rP A).toNat - 1) (-1))), (3, gi s), (4, gi p), (5, gi (d - (chg A (rR A) p f))), (6, gi k), (7, gi f)]) dX9_order_159 rfl rfl ?_
                          refine g_iload_n (pc := 161) X dX9_order_161 3 rfl ?_
                          refine g_iconst (pc := 162) X dX9_order_162 ?_
                          refine g_iload (pc := 163) X dX9_order_163 7 rfl ?_
                          refine g_ishl (pc := 165) X dX9_order_165 (by omega) (by omega) (by omega) ?_
                          refine g_iconst (pc := 166) X dX9_order_166 ?_
                          refine g_ixor (pc := 167) X (r := ((iI (1 * 2 ^ f.toNat) ^^^ iI (-1)).toInt)) dX9_order_167 iI_xm ?_
                          refine g_iand (pc := 168) X (r := (bdel s f)) dX9_order_168 (iI_del (by omega) (by omega)) ?_
                          refine g_istore_n (pc := 169) X (lv' := [(0, .ref q), (1, gi i), (2, gi (rs A (rR A) (rP A) (1 * 2 ^ (rP A).toNat - 1) (-1))), (3, gi (bdel s f)), (4, gi p), (5, gi (d - (chg A (rR A) p f))), (6, gi k), (7, gi f)]) dX9_order_169 rfl rfl ?_
                          refine g_iload (pc := 170) X dX9_order_170 7 rfl ?_
                          refine g_istore (pc := 172) X (lv' := [(0, .ref q), (1, gi i), (2, gi (rs A (rR A) (rP A) (1 * 2 ^ (rP A).toNat - 1) (-1))), (3, gi (bdel s f)), (4, gi f), (5, gi (d - (chg A (rR A) p f))), (6, gi k), (7, gi f)]) dX9_order_172 rfl rfl ?_
                          refine g_iinc (pc := 174) X (lv' := [(0, .ref q), (1, gi i), (2, gi (rs A (rR A) (rP A) (1 * 2 ^ (rP A).toNat - 1) (-1))), (3, gi (bdel s f)), (4, gi f), (5, gi (d - (chg A (rR A) p f))), (6, gi (k + 1)), (7, gi f)]) dX9_order_174 6 rfl rfl rfl ?_
                          refine g_goto (pc := 177) X 71 dX9_order_177 (by decide) ?_
                          refine g_lsub X [0, 1, 2, 3, 4, 5, 6] rfl ?_
                          exact ih71 _ _ _ _ (by omega) (by rw [ord_s hk.1, hst]; show (bdel s (fN A (rR A) (rP A) s p), fN A (rR A) (rP A) s p) = (bdel s f, f); rw [hfn]) (by rw [bc_d (by omega) (by omega) hyf.1, hbc]; omega) (by omega) (by omega) (by have c2 := hyf.2; omega) (by omega)
                        · have hnf : ¬ nxP A (rR A) (rP A) s p f := fun cc => by have c1 := cc.1; have c2 := cc.2; omega
                          have hfz : f ≠ z := fun e => hnf (by rw [e]; exact hz2)
                          refine g_iinc (pc := 132) X (lv' := [(0, .ref q), (1, gi i), (2, gi (rs A (rR A) (rP A) (1 * 2 ^ (rP A).toNat - 1) (-1))), (3, gi s), (4, gi p), (5, gi d), (6, gi k), (7, gi (f + 1))]) dX9_order_132 7 rfl rfl rfl ?_
                          refine g_goto (pc := 135) X 80 dX9_order_135 (by decide) ?_
                          exact ih80 _ (by omega) (all_s (P := fun y => ¬ nxP A (rR A) (rP A) s p y) hx hnf) (by omega)
                      · have hsp : stp A (rR A) p f = 0 := if_pos (by omega)
                        refine g_iconst (pc := 95) X dX9_order_95 ?_
                        refine g_goto (pc := 96) X 107 dX9_order_96 (by decide) ?_
                        refine g_aload_n (pc := 107) X dX9_order_107 0 rfl ?_
                        refine g_get (pc := 108) X fl_X9_41 dX9_order_108 0 (v := .ref (a 17)) rfl rfl ?_
                        refine g_bipush (pc := 111) X dX9_order_111 (by decide +kernel) ?_
                        refine g_iload_n (pc := 113) X dX9_order_113 3 rfl ?_
                        refine g_iconst (pc := 114) X dX9_order_114 ?_
                        refine g_iload (pc := 115) X dX9_order_115 7 rfl ?_
                        refine g_ishl (pc := 117) X dX9_order_117 (by omega) (by omega) (by omega) ?_
                        refine g_iconst (pc := 118) X dX9_order_118 ?_
                        refine g_ixor (pc := 119) X (r := ((iI (1 * 2 ^ f.toNat) ^^^ iI (-1)).toInt)) dX9_order_119 iI_xm ?_
                        refine g_iand (pc := 120) X (r := (bdel s f)) dX9_order_120 (iI_del (by omega) (by omega)) ?_
                        refine g_imul (pc := 121) X dX9_order_121 ?_
                        refine g_iload (pc := 122) X dX9_order_122 7 rfl ?_
                        refine g_iadd (pc := 124) X dX9_order_124 ?_
                        refine g_iald (pc := 125) X dX9_order_125 11 rfl (by omega) rfl ?_
                        refine g_top (b := (rs A (rR A) (rP A) (bdel s f) f)) (hvq (bdel s f) hdb.1 (by omega) f hf.1 (by omega)) ?_
                        refine g_iadd (pc := 126) X dX9_order_126 ?_
                        refine g_iload (pc := 127) X dX9_order_127 5 rfl ?_
                        refine g_icmpeq (pc := 129) X 138 dX9_order_129 (by decide) (by omega) (by omega) (fun h129 => ?_) (fun h129 => ?_)
                        · have hyf : nxP A (rR A) (rP A) s p f := ⟨hb1, by omega⟩
                          have hfn := fN_is ⟨hf.1, by omega⟩ hyf hx
                          refine g_iload (pc := 138) X dX9_order_138 5 rfl ?_
                          refine g_iload (pc := 140) X dX9_order_140 4 rfl ?_
                          refine g_iconst (pc := 142) X dX9_order_142 ?_
                          refine g_icmpne (pc := 143) X 150 dX9_order_143 (by decide) (by omega) (by omega) (fun h143 => absurd h143 (by omega)) (fun h143 => ?_)
                          refine g_iconst (pc := 146) X dX9_order_146 ?_
                          refine g_goto (pc := 147) X 158 dX9_order_147 (by decide) ?_
                          refine g_isub (pc := 158) X dX9_order_158 ?_
                          refine g_istore (pc := 159) X (lv' := [(0, .ref q), (1, gi i), (2, gi (rs A (rR A) (rP A) (1 * 2 ^ (rP A).toNat - 1) (-1))), (3, gi s), (4, gi p), (5, gi (d - 0)), (6, gi k), (7, gi f)]) dX9_order_159 rfl rfl ?_
                          refine g_iload_n (pc := 161) X dX9_order_161 3 rfl ?_
                          refine g_iconst (pc := 162) X dX9_order_162 ?_
                          refine g_iload (pc := 163) X dX9_order_163 7 rfl ?_
                          refine g_ishl (pc := 165) X dX9_order_165 (by omega) (by omega) (by omega) ?_
                          refine g_iconst (pc := 166) X dX9_order_166 ?_
                          refine g_ixor (pc := 167) X (r := ((iI (1 * 2 ^ f.toNat) ^^^ iI (-1)).toInt)) dX9_order_167 iI_xm ?_
                          refine g_iand (pc := 168) X (r := (bdel s f)) dX9_order_168 (iI_del (by omega) (by omega)) ?_
                          refine g_istore_n (pc := 169) X (lv' := [(0, .ref q), (1, gi i), (2, gi (rs A (rR A) (rP A) (1 * 2 ^ (rP A).toNat - 1) (-1))), (3, gi (bdel s f)), (4, gi p), (5, gi (d - 0)), (6, gi k), (7, gi f)]) dX9_order_169 rfl rfl ?_
                          refine g_iload (pc := 170) X dX9_order_170 7 rfl ?_
                          refine g_istore (pc := 172) X (lv' := [(0, .ref q), (1, gi i), (2, gi (rs A (rR A) (rP A) (1 * 2 ^ (rP A).toNat - 1) (-1))), (3, gi (bdel s f)), (4, gi f), (5, gi (d - 0)), (6, gi k), (7, gi f)]) dX9_order_172 rfl rfl ?_
                          refine g_iinc (pc := 174) X (lv' := [(0, .ref q), (1, gi i), (2, gi (rs A (rR A) (rP A) (1 * 2 ^ (rP A).toNat - 1) (-1))), (3, gi (bdel s f)), (4, gi f), (5, gi (d - 0)), (6, gi (k + 1)), (7, gi f)]) dX9_order_174 6 rfl rfl rfl ?_
                          refine g_goto (pc := 177) X 71 dX9_order_177 (by decide) ?_
                          refine g_lsub X [0, 1, 2, 3, 4, 5, 6] rfl ?_
                          exact ih71 _ _ _ _ (by omega) (by rw [ord_s hk.1, hst]; show (bdel s (fN A (rR A) (rP A) s p), fN A (rR A) (rP A) s p) = (bdel s f, f); rw [hfn]) (by rw [bc_d (by omega) (by omega) hyf.1, hbc]; omega) (by omega) (by omega) (by have c2 := hyf.2; omega) (by omega)
                        · have hnf : ¬ nxP A (rR A) (rP A) s p f := fun cc => by have c1 := cc.1; have c2 := cc.2; omega
                          have hfz : f ≠ z := fun e => hnf (by rw [e]; exact hz2)
                          refine g_iinc (pc := 132) X (lv' := [(0, .ref q), (1, gi i), (2, gi (rs A (rR A) (rP A) (1 * 2 ^ (rP A).toNat - 1) (-1))), (3, gi s), (4, gi p), (5, gi d), (6, gi k), (7, gi (f + 1))]) dX9_order_132 7 rfl rfl rfl ?_
                          refine g_goto (pc := 135) X 80 dX9_order_135 (by decide) ?_
                          exact ih80 _ (by omega) (all_s (P := fun y => ¬ nxP A (rR A) (rP A) s p y) hx hnf) (by omega)
                exact L80 _ _ (by omega) (fun y y0 y1 => by omega) (Nat.lt_succ_self _)
          exact L71 _ _ _ _ _ (by omega) (by rfl) (by rw [bc_a hpb]; omega) (by omega) (by omega) (by rfl) (Nat.lt_succ_self _)
        · refine g_bipush (pc := 54) X dX9_order_54 (by decide +kernel) ?_
          exact ret _ _ _ _ _ _ dX9_order_56 rfl rfl (fun h => by cases h) (gPxi_e (at3_1, st3_1, so3_1, va3_1, fa3_1, rP A, P3_1, _) (by rw [(show o_order A i = (-5, -1) from (if_pos h4).trans ((if_neg (by omega)).trans (if_pos (by omega))))]) (by rw [(show o_order A i = (-5, -1) from (if_pos h4).trans ((if_neg (by omega)).trans (if_pos (by omega))))]; rfl) trivial)
      · refine g_iload_n (pc := 44) X dX9_order_44 2 rfl ?_
        exact ret _ _ _ _ _ _ dX9_order_45 rfl rfl (fun h => by cases h) (gPxi_e (at3_1, st3_1, so3_1, va3_1, fa3_1, rP A, P3_1, _) (by rw [(show o_order A i = (rs A (rR A) (rP A) (1 * 2 ^ (rP A).toNat - 1) (-1), -1) from (if_pos h4).trans ((if_neg (by omega)).trans ((if_neg (by omega)).trans (if_pos (by omega)))))]) (by rw [(show o_order A i = (rs A (rR A) (rP A) (1 * 2 ^ (rP A).toNat - 1) (-1), -1) from (if_pos h4).trans ((if_neg (by omega)).trans ((if_neg (by omega)).trans (if_pos (by omega)))))]; rfl) trivial)
    · refine g_aload_n (pc := 19) X dX9_order_19 0 rfl ?_
      refine g_bipush (pc := 20) X dX9_order_20 (by decide +kernel) ?_
      refine gc_Vxi (pc := 22) X (wr := [gA cI (a 0) 1140 A, gA cZ (a 1) 2 kp, gA cI (a 3) 6 lk_, gA cI (a 5) 60 sh, gA cI (a 12) 8 (fun j => P3_1 (0 + j)), gA cI (a 13) 8 (fun j => P3_1 (8 + j)), gA cI (a 14) 8 (fun j => P3_1 (16 + j)), gA cI (a 15) 8 (fun j => P3_1 (24 + j)), gA cI (a 16) 8 (fun j => P3_1 (32 + j)), gA cI (a 17) 2048 le, gA cI (a 18) 41 lg, gA cI (a 19) 112 bg]) (c_X9_refuse l D cI cZ q a al at3_1 st3_1 so3_1 va3_1 fa3_1 (rP A) sg su rf (-2) (by omega)) lm_X9_54 dX9_order_22 [0, 3] [1, 2, 4, 5, 6, 7, 8, 9, 10, 11, 12, 13] rfl rfl rfl rfl (by decide) rfl rfl rfl rfl rfl rfl (fun x22 hx22 => ?_)
      refine g_pick (cn := 0) (sl := 0) (st := gi (-2) :: []) X (ws' := [oM q a al at3_1 st3_1 so3_1 va3_1 fa3_1 (rP A) sg su, gA cI (a 0) 1140 A, gA cZ (a 1) 2 kp, gA cI (a 2) 3 (gupd rf (-2 - (-2)) (rf (-2 - (-2)) + 1)), gA cI (a 3) 6 lk_, gA cI (a 5) 60 sh, gA cI (a 12) 8 (fun j => P3_1 (0 + j)), gA cI (a 13) 8 (fun j => P3_1 (8 + j)), gA cI (a 14) 8 (fun j => P3_1 (16 + j)), gA cI (a 15) 8 (fun j => P3_1 (24 + j)), gA cI (a 16) 8 (fun j => P3_1 (32 + j)), gA cI (a 17) 2048 le, gA cI (a 18) 41 lg, gA cI (a 19) 112 bg]) [12, 0, 1, 13, 2, 3, 4, 5, 6, 7, 8, 9, 10, 11] rfl rfl ?_
      exact ret _ _ _ _ _ _ dX9_order_25 rfl rfl (fun h => by cases h) (gPxi_e (at3_1, st3_1, so3_1, va3_1, fa3_1, rP A, P3_1, _) (by rw [(show o_order A i = (-2, 0) from (if_pos h4).trans (if_pos (by omega)))]) (by rw [(show o_order A i = (-2, 0) from (if_pos h4).trans (if_pos (by omega)))]; rfl) trivial)
  · refine g_aload_n (pc := 7) X dX9_order_7 0 rfl ?_
    refine g_bipush (pc := 8) X dX9_order_8 (by decide +kernel) ?_
    refine gc_Vxi (pc := 10) X (wr := [gA cI (a 0) 1140 A, gA cZ (a 1) 2 kp, gA cI (a 3) 6 lk_, gA cI (a 5) 60 sh, gA cI (a 12) 8 (fun j => P3_1 (0 + j)), gA cI (a 13) 8 (fun j => P3_1 (8 + j)), gA cI (a 14) 8 (fun j => P3_1 (16 + j)), gA cI (a 15) 8 (fun j => P3_1 (24 + j)), gA cI (a 16) 8 (fun j => P3_1 (32 + j)), gA cI (a 17) 2048 le, gA cI (a 18) 41 lg, gA cI (a 19) 112 bg]) (c_X9_refuse l D cI cZ q a al at3_1 st3_1 so3_1 va3_1 fa3_1 pl3_1 sg su rf (-3) (by omega)) lm_X9_54 dX9_order_10 [0, 3] [1, 2, 4, 5, 6, 7, 8, 9, 10, 11, 12, 13] rfl rfl rfl rfl (by decide) rfl rfl rfl rfl rfl rfl (fun x10 hx10 => ?_)
    refine g_pick (cn := 0) (sl := 0) (st := gi (-3) :: []) X (ws' := [oM q a al at3_1 st3_1 so3_1 va3_1 fa3_1 pl3_1 sg su, gA cI (a 0) 1140 A, gA cZ (a 1) 2 kp, gA cI (a 2) 3 (gupd rf (-2 - (-3)) (rf (-2 - (-3)) + 1)), gA cI (a 3) 6 lk_, gA cI (a 5) 60 sh, gA cI (a 12) 8 (fun j => P3_1 (0 + j)), gA cI (a 13) 8 (fun j => P3_1 (8 + j)), gA cI (a 14) 8 (fun j => P3_1 (16 + j)), gA cI (a 15) 8 (fun j => P3_1 (24 + j)), gA cI (a 16) 8 (fun j => P3_1 (32 + j)), gA cI (a 17) 2048 le, gA cI (a 18) 41 lg, gA cI (a 19) 112 bg]) [12, 0, 1, 13, 2, 3, 4, 5, 6, 7, 8, 9, 10, 11] rfl rfl ?_
    exact ret _ _ _ _ _ _ dX9_order_13 rfl rfl (fun h => by cases h) (gPxi_e (_, _, _, _, _, _, _, _) (by rw [(show o_order A i = (-3, 1) from if_neg h4)]) (by rw [(show o_order A i = (-3, 1) from if_neg h4)]; rfl) trivial)

set_option maxHeartbeats 4000000 in
set_option maxRecDepth 100000 in
theorem c_X9_hands (l : Launch) (D : va_G) (cI cZ : ClassId) (q : Nat) (a : Nat → Nat) (al : Int) (at_ : Int) (st : Int) (so : Int) (va : Int) (fa : Int) (pl : Int) (sg : Int) (su : Int) (A : Int → Int) (kp : Int → Int) (rf : Int → Int) (lk_ : Int → Int) (sh : Int → Int) (pi : Int → Int) (th : Int → Int) (fl : Int → Int) (so_ : Int → Int) (fr : Int → Int) (le : Int → Int) (lg : Int → Int) (bg : Int → Int) (w : Int) (hA : okA A) (hw : -2147483648 ≤ w ∧ w < 2147483648) : GM l D cI cZ yX9_hands cX9_hands 8 (some .int) ({ frames := 5, cells := 0, slots := 0, locals := 111 }) 0 0 false [.ref q, gi w] [oM q a al at_ st so va fa pl sg su, gA cI (a 0) 1140 A, gA cZ (a 1) 2 kp, gA cI (a 2) 3 rf, gA cI (a 3) 6 lk_, gA cI (a 5) 60 sh, gA cI (a 12) 8 pi, gA cI (a 13) 8 th, gA cI (a 14) 8 fl, gA cI (a 15) 8 so_, gA cI (a 16) 8 fr, gA cI (a 17) 2048 le, gA cI (a 18) 41 lg, gA cI (a 19) 112 bg] (gPxi (fun xo : (Int) × (Int) × (Int) × (Int) × (Int) × (Int) × (Int → Int) × (Int → Int) => (o_hands A w).1) (fun xo : (Int) × (Int) × (Int) × (Int) × (Int) × (Int) × (Int → Int) × (Int → Int) => [oM q a al xo.1 xo.2.1 xo.2.2.1 xo.2.2.2.1 xo.2.2.2.2.1 xo.2.2.2.2.2.1 sg su, gA cI (a 0) 1140 A, gA cZ (a 1) 2 kp, gA cI (a 2) 3 (bump ((o_hands A w).2) rf), gA cI (a 3) 6 lk_, gA cI (a 5) 60 sh, gA cI (a 12) 8 (fun j => xo.2.2.2.2.2.2.1 (0 + j)), gA cI (a 13) 8 (fun j => xo.2.2.2.2.2.2.1 (8 + j)), gA cI (a 14) 8 (fun j => xo.2.2.2.2.2.2.1 (16 + j)), gA cI (a 15) 8 (fun j => xo.2.2.2.2.2.2.1 (24 + j)), gA cI (a 16) 8 (fun j => xo.2.2.2.2.2.2.1 (32 + j)), gA cI (a 17) 2048 xo.2.2.2.2.2.2.2, gA cI (a 18) 41 lg, gA cI (a 19) 112 bg]) (fun xo : (Int) × (Int) × (Int) × (Int) × (Int) × (Int) × (Int → Int) × (Int → Int) => True)) := by
  refine g_enterI (z := false) (lv0 := [(0, .ref q), (1, gi w)]) _ rfl (by decide) rfl rfl (fun V X ret => ?_)
  have hA1 := okA_1 hA
  have hA0 := okA_0 hA
  have hpu := okA_pu hA
  have hA2 := okA_2 hA
  refine g_ws (ws' := [oM q a al at_ st so va fa pl sg su, gA cI (a 0) 1140 A, gA cZ (a 1) 2 kp, gA cI (a 2) 3 rf, gA cI (a 3) 6 lk_, gA cI (a 5) 60 sh, gA cI (a 12) 8 (fun j => (pk5 pi th fl so_ fr) (0 + j)), gA cI (a 13) 8 (fun j => (pk5 pi th fl so_ fr) (8 + j)), gA cI (a 14) 8 (fun j => (pk5 pi th fl so_ fr) (16 + j)), gA cI (a 15) 8 (fun j => (pk5 pi th fl so_ fr) (24 + j)), gA cI (a 16) 8 (fun j => (pk5 pi th fl so_ fr) (32 + j)), gA cI (a 17) 2048 le, gA cI (a 18) 41 lg, gA cI (a 19) 112 bg]) (by rw [(show gA cI (a 12) 8 (pi) = gA cI (a 12) 8 (fun j => (pk5 pi th fl so_ fr) (0 + j)) from gA_ext (fun j j0 j1 => (by unfold pk5; (try dsimp only); (repeat' split) <;> first | exact congrArg _ (by omega) | (exfalso; omega)))), (show gA cI (a 13) 8 (th) = gA cI (a 13) 8 (fun j => (pk5 pi th fl so_ fr) (8 + j)) from gA_ext (fun j j0 j1 => (by unfold pk5; (try dsimp only); (repeat' split) <;> first | exact congrArg _ (by omega) | (exfalso; omega)))), (show gA cI (a 14) 8 (fl) = gA cI (a 14) 8 (fun j => (pk5 pi th fl so_ fr) (16 + j)) from gA_ext (fun j j0 j1 => (by unfold pk5; (try dsimp only); (repeat' split) <;> first | exact congrArg _ (by omega) | (exfalso; omega)))), (show gA cI (a 15) 8 (so_) = gA cI (a 15) 8 (fun j => (pk5 pi th fl so_ fr) (24 + j)) from gA_ext (fun j j0 j1 => (by unfold pk5; (try dsimp only); (repeat' split) <;> first | exact congrArg _ (by omega) | (exfalso; omega)))), (show gA cI (a 16) 8 (fr) = gA cI (a 16) 8 (fun j => (pk5 pi th fl so_ fr) (32 + j)) from gA_ext (fun j j0 j1 => (by unfold pk5; (try dsimp only); (repeat' split) <;> first | exact congrArg _ (by omega) | (exfalso; omega))))]) ?_
  refine g_aload_n (pc := 0) X dX9_hands_0 0 rfl ?_
  refine gc_Vxi (pc := 1) X (wr := [gA cZ (a 1) 2 kp, gA cI (a 2) 3 rf, gA cI (a 3) 6 lk_, gA cI (a 5) 60 sh, gA cI (a 17) 2048 le, gA cI (a 18) 41 lg, gA cI (a 19) 112 bg]) (c_X9_readReel l D cI cZ q a al at_ st so va fa pl sg su A (pk5 pi th fl so_ fr) hA) lm_X9_157 dX9_hands_1 [0, 1, 6, 7, 8, 9, 10] [2, 3, 4, 5, 11, 12, 13] rfl rfl rfl rfl (by decide) rfl rfl rfl rfl rfl rfl (fun x1 hx1 => ?_)
  obtain ⟨at3_1, st3_1, so3_1, va3_1, fa3_1, pl3_1, P3_1⟩ := x1
  have hr_1 : rdS A fa3_1 pl3_1 P3_1 := hx1
  refine g_pick (cn := 0) (sl := 0) (st := gi (gB (rF A = -1)) :: []) X (ws' := [oM q a al at3_1 st3_1 so3_1 va3_1 fa3_1 pl3_1 sg su, gA cI (a 0) 1140 A, gA cZ (a 1) 2 kp, gA cI (a 2) 3 rf, gA cI (a 3) 6 lk_, gA cI (a 5) 60 sh, gA cI (a 12) 8 (fun j => P3_1 (0 + j)), gA cI (a 13) 8 (fun j => P3_1 (8 + j)), gA cI (a 14) 8 (fun j => P3_1 (16 + j)), gA cI (a 15) 8 (fun j => P3_1 (24 + j)), gA cI (a 16) 8 (fun j => P3_1 (32 + j)), gA cI (a 17) 2048 le, gA cI (a 18) 41 lg, gA cI (a 19) 112 bg]) [7, 8, 0, 1, 2, 3, 9, 10, 11, 12, 13, 4, 5, 6] rfl rfl ?_
  refine g_ifneB (pc := 4) X 14 dX9_hands_4 (by decide) (fun h4 => ?_) (fun h4 => ?_)
  · have hrd := hr_1.2 h4
    have hn1 := hrd.1
    have hpb := rP_b hA2.1 h4
    have hrg : ∀ j, 0 ≤ j → j < rP A → rgR (A 0) P3_1 j := fun j j0 j1 => rgR_c (hrd.2 j j0 j1) (rR_b hA2.1 h4 ⟨j0, j1⟩)
    have hpw := pw_b (k := rP A) (c := 8) (C := 256) rfl (by omega)
    refine g_ws (ws' := [oM q a al at3_1 st3_1 so3_1 va3_1 fa3_1 (rP A) sg su, gA cI (a 0) 1140 A, gA cZ (a 1) 2 kp, gA cI (a 2) 3 rf, gA cI (a 3) 6 lk_, gA cI (a 5) 60 sh, gA cI (a 12) 8 (fun j => P3_1 (0 + j)), gA cI (a 13) 8 (fun j => P3_1 (8 + j)), gA cI (a 14) 8 (fun j => P3_1 (16 + j)), gA cI (a 15) 8 (fun j => P3_1 (24 + j)), gA cI (a 16) 8 (fun j => P3_1 (32 + j)), gA cI (a 17) 2048 le, gA cI (a 18) 41 lg, gA cI (a 19) 112 bg]) (by rw [hn1]) ?_
    refine g_iload_n (pc := 14) X dX9_hands_14 1 rfl ?_
    refine g_iconst (pc := 15) X dX9_hands_15 ?_
    refine g_iconst (pc := 16) X dX9_hands_16 ?_
    refine gc_Si (pc := 17) X (c_X9_in l D cI cZ w 0 1 (by omega) (by omega) (by omega)) lm_X9_50 dX9_hands_17 [] rfl rfl rfl rfl rfl rfl ?_
    refine g_ifneB (pc := 20) X 30 dX9_hands_20 (by decide) (fun h20 => ?_) (fun h20 => ?_)
    · refine g_aload_n (pc := 30) X dX9_hands_30 0 rfl ?_
      refine gc_Vxv (pc := 31) X (wr := [gA cZ (a 1) 2 kp, gA cI (a 2) 3 rf, gA cI (a 3) 6 lk_, gA cI (a 5) 60 sh, gA cI (a 12) 8 (fun j => P3_1 (0 + j)), gA cI (a 13) 8 (fun j => P3_1 (8 + j)), gA cI (a 16) 8 (fun j => P3_1 (32 + j)), gA cI (a 18) 41 lg, gA cI (a 19) 112 bg]) (c_X9_findLeast l D cI cZ q a al at3_1 st3_1 so3_1 va3_1 fa3_1 (rP A) sg su A P3_1 le hA (by omega) hrg) lm_X9_175 dX9_hands_31 [0, 1, 8, 9, 11] [2, 3, 4, 5, 6, 7, 10, 12, 13] rfl rfl rfl rfl (by decide) rfl rfl rfl rfl rfl rfl (fun x31 hx31 => ?_)
      generalize x31 = g_31 at hx31 ⊢
      have hv_31 : rtT A P3_1 (rP A) (1 * 2 ^ (rP A).toNat) g_31 := hx31
      refine g_pick (cn := 0) (sl := 0) (st := []) X (ws' := [oM q a al at3_1 st3_1 so3_1 va3_1 fa3_1 (rP A) sg su, gA cI (a 0) 1140 A, gA cZ (a 1) 2 kp, gA cI (a 2) 3 rf, gA cI (a 3) 6 lk_, gA cI (a 5) 60 sh, gA cI (a 12) 8 (fun j => P3_1 (0 + j)), gA cI (a 13) 8 (fun j => P3_1 (8 + j)), gA cI (a 14) 8 (fun j => P3_1 (16 + j)), gA cI (a 15) 8 (fun j => P3_1 (24 + j)), gA cI (a 16) 8 (fun j => P3_1 (32 + j)), gA cI (a 17) 2048 g_31, gA cI (a 18) 41 lg, gA cI (a 19) 112 bg]) [9, 10, 0, 1, 2, 3, 4, 5, 11, 12, 6, 13, 7, 8] rfl rfl ?_
      have hvq := rtT_c (by omega) hrd.2 hv_31
      refine g_iconst (pc := 34) X dX9_hands_34 ?_
      refine g_istore_n (pc := 35) X (lv' := [(0, .ref q), (1, gi w), (2, gi 0)]) dX9_hands_35 rfl rfl ?_
      refine g_ldc (pc := 36) X dX9_hands_36 kc_X9_171 ?_
      refine g_istore_n (pc := 38) X (lv' := [(0, .ref q), (1, gi w), (2, gi 0), (3, gi 1000000)]) dX9_hands_38 rfl rfl ?_
      refine g_iconst (pc := 39) X dX9_hands_39 ?_
      refine g_istore (pc := 40) X (lv' := [(0, .ref q), (1, gi w), (2, gi 0), (3, gi 1000000), (4, gi 0)]) dX9_hands_40 rfl rfl ?_
      have L42 : ∀ (n42 : Nat) (x : Int) (sc : Int) (c : Int), (0 ≤ c ∧ c ≤ 1 * 2 ^ (rP A).toNat) → (spl A (rR A) (rP A) c = (x, sc)) → (0 ≤ sc ∧ sc ≤ 1000000) → (0 ≤ x ∧ x ≤ 1000000) → (1 * 2 ^ (rP A).toNat - c).toNat < n42 → V 0 0 [oM q a al at3_1 st3_1 so3_1 va3_1 fa3_1 (rP A) sg su, gA cI (a 0) 1140 A, gA cZ (a 1) 2 kp, gA cI (a 2) 3 rf, gA cI (a 3) 6 lk_, gA cI (a 5) 60 sh, gA cI (a 12) 8 (fun j => P3_1 (0 + j)), gA cI (a 13) 8 (fun j => P3_1 (8 + j)), gA cI (a 14) 8 (fun j => P3_1 (16 + j)), gA cI (a 15) 8 (fun j => P3_1 (24 + j)), gA cI (a 16) 8 (fun j => P3_1 (32 + j)), gA cI (a 17) 2048 g_31, gA cI (a 18) 41 lg, gA cI (a 19) 112 bg] 42 [(0, .ref q), (1, gi w), (2, gi x), (3, gi sc), (4, gi c)] [] := by
        intro n42
        induction n42 with
        | zero => intro x sc c hc hst hsc hxb hn42; exact absurd hn42 (Nat.not_lt_zero _)
        | succ n42 ih42 =>
          intro x sc c hc hst hsc hxb hn42
          refine g_iload (pc := 42) X dX9_hands_42 4 rfl ?_
          refine g_aload_n (pc := 44) X dX9_hands_44 0 rfl ?_
          refine gc_Vi (pc := 45) X (c_X9_allPlaces l D cI cZ q a al at3_1 st3_1 so3_1 va3_1 fa3_1 (rP A) sg su (by omega)) lm_X9_164 dX9_hands_45 [0] rfl rfl rfl rfl rfl rfl rfl rfl ?_
          refine g_icmpgt (pc := 48) X 122 dX9_hands_48 (by decide) (by omega) (by omega) (fun h48 => ?_) (fun h48 => ?_)
          · have hsg := spl_g (Q := rR A) hA hpb (i := 1 * 2 ^ (rP A).toNat) (by omega)
            refine g_iload_n (pc := 122) X dX9_hands_122 1 rfl ?_
            refine g_ifne (pc := 123) X 130 dX9_hands_123 (by decide) (by omega) (fun h123 => ?_) (fun h123 => ?_)
            · refine g_iload_n (pc := 130) X dX9_hands_130 2 rfl ?_
              exact ret _ _ _ _ _ _ dX9_hands_131 rfl rfl (fun h => by cases h) (gPxi_e (at3_1, st3_1, so3_1, va3_1, fa3_1, rP A, P3_1, _) (by rw [(show o_hands A w = (if w = 1 then (spl A (rR A) (rP A) (1 * 2 ^ (rP A).toNat)).1 else gr2 A (rR A) (rP A) (spl A (rR A) (rP A) (1 * 2 ^ (rP A).toNat)).1, -1) from (if_pos h4).trans (if_pos (by omega)))]; (try dsimp only); rw [if_pos (by omega), show 1 * 2 ^ (rP A).toNat = c by omega, hst]) (by rw [(show o_hands A w = (if w = 1 then (spl A (rR A) (rP A) (1 * 2 ^ (rP A).toNat)).1 else gr2 A (rR A) (rP A) (spl A (rR A) (rP A) (1 * 2 ^ (rP A).toNat)).1, -1) from (if_pos h4).trans (if_pos (by omega)))]; rfl) trivial)
            · refine g_iload_n (pc := 126) X dX9_hands_126 3 rfl ?_
              refine g_goto (pc := 127) X 131 dX9_hands_127 (by decide) ?_
              exact ret _ _ _ _ _ _ dX9_hands_131 rfl rfl (fun h => by cases h) (gPxi_e (at3_1, st3_1, so3_1, va3_1, fa3_1, rP A, P3_1, _) (by rw [(show o_hands A w = (if w = 1 then (spl A (rR A) (rP A) (1 * 2 ^ (rP A).toNat)).1 else gr2 A (rR A) (rP A) (spl A (rR A) (rP A) (1 * 2 ^ (rP A).toNat)).1, -1) from (if_pos h4).trans (if_pos (by omega)))]; (try dsimp only); rw [if_neg (by omega), ← hsg.2, show 1 * 2 ^ (rP A).toNat = c by omega, hst]) (by rw [(show o_hands A w = (if w = 1 then (spl A (rR A) (rP A) (1 * 2 ^ (rP A).toNat)).1 else gr2 A (rR A) (rP A) (spl A (rR A) (rP A) (1 * 2 ^ (rP A).toNat)).1, -1) from (if_pos h4).trans (if_pos (by omega)))]; rfl) trivial)
          · have hgc := gr2_m (Q := rR A) hA hpb (s := c) (by omega)
            have hr1 := rs_b (Q := rR A) hA (rP A) c (-1)
            have hr2 := rs_b (Q := rR A) hA (rP A) (1 * 2 ^ (rP A).toNat - 1 - c) (-1)
            refine g_aload_n (pc := 51) X dX9_hands_51 0 rfl ?_
            refine g_aload_n (pc := 52) X dX9_hands_52 0 rfl ?_
            refine gc_Vi (pc := 53) X (c_X9_allPlaces l D cI cZ q a al at3_1 st3_1 so3_1 va3_1 fa3_1 (rP A) sg su (by omega)) lm_X9_164 dX9_hands_53 [0] rfl rfl rfl rfl rfl rfl rfl rfl ?_
            refine g_iload (pc := 56) X dX9_hands_56 4 rfl ?_
            refine g_iconst (pc := 58) X dX9_hands_58 ?_
            refine g_ixor (pc := 59) X (r := ((iI c ^^^ iI (-1)).toInt)) dX9_hands_59 iI_xm ?_
            refine g_iand (pc := 60) X (r := (1 * 2 ^ (rP A).toNat - 1 - c)) dX9_hands_60 (iI_nt hpb (by omega)) ?_
            refine gc_Vi (pc := 61) X (c_X9_leastOf l D cI cZ q a al at3_1 st3_1 so3_1 va3_1 fa3_1 (rP A) sg su g_31 _ (rR A) (1 * 2 ^ (rP A).toNat - 1 - c) hA (by omega) (by omega) (fun l_ l0 l1 => hvq l_ l0 (by omega))) lm_X9_178 dX9_hands_61 [0, 11] rfl rfl rfl rfl rfl rfl rfl rfl ?_
            refine g_istore (pc := 64) X (lv' := [(0, .ref q), (1, gi w), (2, gi x), (3, gi sc), (4, gi c), (5, gi (rs A (rR A) (rP A) (1 * 2 ^ (rP A).toNat - 1 - c) (-1)))]) dX9_hands_64 rfl rfl ?_
            refine g_aload_n (pc := 66) X dX9_hands_66 0 rfl ?_
            refine g_iload (pc := 67) X dX9_hands_67 4 rfl ?_
            refine gc_Vi (pc := 69) X (c_X9_leastOf l D cI cZ q a al at3_1 st3_1 so3_1 va3_1 fa3_1 (rP A) sg su g_31 _ (rR A) c hA (by omega) (by omega) (fun l_ l0 l1 => hvq l_ l0 (by omega))) lm_X9_178 dX9_hands_69 [0, 11] rfl rfl rfl rfl rfl rfl rfl rfl ?_
            refine g_istore (pc := 72) X (lv' := [(0, .ref q), (1, gi w), (2, gi x), (3, gi sc), (4, gi c), (5, gi (rs A (rR A) (rP A) (1 * 2 ^ (rP A).toNat - 1 - c) (-1))), (6, gi (rs A (rR A) (rP A) c (-1)))]) dX9_hands_72 rfl rfl ?_
            refine g_iload (pc := 74) X dX9_hands_74 5 rfl ?_
            refine g_iload (pc := 76) X dX9_hands_76 6 rfl ?_
            refine g_icmple (pc := 78) X 86 dX9_hands_78 (by decide) (by omega) (by omega) (fun h78 => ?_) (fun h78 => ?_)
            · refine g_iload (pc := 86) X dX9_hands_86 6 rfl ?_
              refine g_top (b := (gr2 A (rR A) (rP A) c)) (by unfold gr2 gmax; first | rw [if_pos (by omega)] | rw [if_neg (by omega)]) ?_
              refine g_istore (pc := 88) X (lv' := [(0, .ref q), (1, gi w), (2, gi x), (3, gi sc), (4, gi c), (5, gi (rs A (rR A) (rP A) (1 * 2 ^ (rP A).toNat - 1 - c) (-1))), (6, gi (rs A (rR A) (rP A) c (-1))), (7, gi (gr2 A (rR A) (rP A) c))]) dX9_hands_88 rfl rfl ?_
              refine g_iload (pc := 90) X dX9_hands_90 7 rfl ?_
              refine g_iload_n (pc := 92) X dX9_hands_92 3 rfl ?_
              refine g_icmpge (pc := 93) X 101 dX9_hands_93 (by decide) (by omega) (by omega) (fun h93 => ?_) (fun h93 => ?_)
              · refine g_iload_n (pc := 101) X dX9_hands_101 2 rfl ?_
                refine g_istore_n (pc := 102) X (lv' := [(0, .ref q), (1, gi w), (2, gi x), (3, gi sc), (4, gi c), (5, gi (rs A (rR A) (rP A) (1 * 2 ^ (rP A).toNat - 1 - c) (-1))), (6, gi (rs A (rR A) (rP A) c (-1))), (7, gi (gr2 A (rR A) (rP A) c))]) dX9_hands_102 rfl rfl ?_
                refine g_iload (pc := 103) X dX9_hands_103 7 rfl ?_
                refine g_iload_n (pc := 105) X dX9_hands_105 3 rfl ?_
                refine g_icmpge (pc := 106) X 114 dX9_hands_106 (by decide) (by omega) (by omega) (fun h106 => ?_) (fun h106 => ?_)
                · refine g_iload_n (pc := 114) X dX9_hands_114 3 rfl ?_
                  refine g_istore_n (pc := 115) X (lv' := [(0, .ref q), (1, gi w), (2, gi x), (3, gi sc), (4, gi c), (5, gi (rs A (rR A) (rP A) (1 * 2 ^ (rP A).toNat - 1 - c) (-1))), (6, gi (rs A (rR A) (rP A) c (-1))), (7, gi (gr2 A (rR A) (rP A) c))]) dX9_hands_115 rfl rfl ?_
                  refine g_iinc (pc := 116) X (lv' := [(0, .ref q), (1, gi w), (2, gi x), (3, gi sc), (4, gi (c + 1)), (5, gi (rs A (rR A) (rP A) (1 * 2 ^ (rP A).toNat - 1 - c) (-1))), (6, gi (rs A (rR A) (rP A) c (-1))), (7, gi (gr2 A (rR A) (rP A) c))]) dX9_hands_116 4 rfl rfl rfl ?_
                  refine g_goto (pc := 119) X 42 dX9_hands_119 (by decide) ?_
                  refine g_lsub X [0, 1, 2, 3, 4] rfl ?_
                  exact ih42 _ _ _ (by omega) (by rw [spl_s hc.1, hst]; (try dsimp only); first | (exfalso; omega) | rw [if_pos (by omega)] | rw [if_neg (by omega)]) (by omega) (by omega) (by omega)
                · refine g_iload (pc := 109) X dX9_hands_109 7 rfl ?_
                  refine g_goto (pc := 111) X 115 dX9_hands_111 (by decide) ?_
                  refine g_istore_n (pc := 115) X (lv' := [(0, .ref q), (1, gi w), (2, gi x), (3, gi (gr2 A (rR A) (rP A) c)), (4, gi c), (5, gi (rs A (rR A) (rP A) (1 * 2 ^ (rP A).toNat - 1 - c) (-1))), (6, gi (rs A (rR A) (rP A) c (-1))), (7, gi (gr2 A (rR A) (rP A) c))]) dX9_hands_115 rfl rfl ?_
                  refine g_iinc (pc := 116) X (lv' := [(0, .ref q), (1, gi w), (2, gi x), (3, gi (gr2 A (rR A) (rP A) c)), (4, gi (c + 1)), (5, gi (rs A (rR A) (rP A) (1 * 2 ^ (rP A).toNat - 1 - c) (-1))), (6, gi (rs A (rR A) (rP A) c (-1))), (7, gi (gr2 A (rR A) (rP A) c))]) dX9_hands_116 4 rfl rfl rfl ?_
                  refine g_goto (pc := 119) X 42 dX9_hands_119 (by decide) ?_
                  refine g_lsub X [0, 1, 2, 3, 4] rfl ?_
                  exact ih42 _ _ _ (by omega) (by rw [spl_s hc.1, hst]; (try dsimp only); first | (exfalso; omega) | rw [if_pos (by omega)] | rw [if_neg (by omega)]) (by omega) (by omega) (by omega)
              · refine g_iload (pc := 96) X dX9_hands_96 4 rfl ?_
                refine g_goto (pc := 98) X 102 dX9_hands_98 (by decide) ?_
                refine g_istore_n (pc := 102) X (lv' := [(0, .ref q), (1, gi w), (2, gi c), (3, gi sc), (4, gi c), (5, gi (rs A (rR A) (rP A) (1 * 2 ^ (rP A).toNat - 1 - c) (-1))), (6, gi (rs A (rR A) (rP A) c (-1))), (7, gi (gr2 A (rR A) (rP A) c))]) dX9_hands_102 rfl rfl ?_
                refine g_iload (pc := 103) X dX9_hands_103 7 rfl ?_
                refine g_iload_n (pc := 105) X dX9_hands_105 3 rfl ?_
                refine g_icmpge (pc := 106) X 114 dX9_hands_106 (by decide) (by omega) (by omega) (fun h106 => ?_) (fun h106 => ?_)
                · refine g_iload_n (pc := 114) X dX9_hands_114 3 rfl ?_
                  refine g_istore_n (pc := 115) X (lv' := [(0, .ref q), (1, gi w), (2, gi c), (3, gi sc), (4, gi c), (5, gi (rs A (rR A) (rP A) (1 * 2 ^ (rP A).toNat - 1 - c) (-1))), (6, gi (rs A (rR A) (rP A) c (-1))), (7, gi (gr2 A (rR A) (rP A) c))]) dX9_hands_115 rfl rfl ?_
                  refine g_iinc (pc := 116) X (lv' := [(0, .ref q), (1, gi w), (2, gi c), (3, gi sc), (4, gi (c + 1)), (5, gi (rs A (rR A) (rP A) (1 * 2 ^ (rP A).toNat - 1 - c) (-1))), (6, gi (rs A (rR A) (rP A) c (-1))), (7, gi (gr2 A (rR A) (rP A) c))]) dX9_hands_116 4 rfl rfl rfl ?_
                  refine g_goto (pc := 119) X 42 dX9_hands_119 (by decide) ?_
                  refine g_lsub X [0, 1, 2, 3, 4] rfl ?_
                  exact ih42 _ _ _ (by omega) (by rw [spl_s hc.1, hst]; (try dsimp only); first | (exfalso; omega) | rw [if_pos (by omega)] | rw [if_neg (by omega)]) (by omega) (by omega) (by omega)
                · refine g_iload (pc := 109) X dX9_hands_109 7 rfl ?_
                  refine g_goto (pc := 111) X 115 dX9_hands_111 (by decide) ?_
                  refine g_istore_n (pc := 115) X (lv' := [(0, .ref q), (1, gi w), (2, gi c), (3, gi (gr2 A (rR A) (rP A) c)), (4, gi c), (5, gi (rs A (rR A) (rP A) (1 * 2 ^ (rP A).toNat - 1 - c) (-1))), (6, gi (rs A (rR A) (rP A) c (-1))), (7, gi (gr2 A (rR A) (rP A) c))]) dX9_hands_115 rfl rfl ?_
                  refine g_iinc (pc := 116) X (lv' := [(0, .ref q), (1, gi w), (2, gi c), (3, gi (gr2 A (rR A) (rP A) c)), (4, gi (c + 1)), (5, gi (rs A (rR A) (rP A) (1 * 2 ^ (rP A).toNat - 1 - c) (-1))), (6, gi (rs A (rR A) (rP A) c (-1))), (7, gi (gr2 A (rR A) (rP A) c))]) dX9_hands_116 4 rfl rfl rfl ?_
                  refine g_goto (pc := 119) X 42 dX9_hands_119 (by decide) ?_
                  refine g_lsub X [0, 1, 2, 3, 4] rfl ?_
                  exact ih42 _ _ _ (by omega) (by rw [spl_s hc.1, hst]; (try dsimp only); first | (exfalso; omega) | rw [if_pos (by omega)] | rw [if_neg (by omega)]) (by omega) (by omega) (by omega)
            · refine g_iload (pc := 81) X dX9_hands_81 5 rfl ?_
              refine g_goto (pc := 83) X 88 dX9_hands_83 (by decide) ?_
              refine g_top (b := (gr2 A (rR A) (rP A) c)) (by unfold gr2 gmax; first | rw [if_pos (by omega)] | rw [if_neg (by omega)]) ?_
              refine g_istore (pc := 88) X (lv' := [(0, .ref q), (1, gi w), (2, gi x), (3, gi sc), (4, gi c), (5, gi (rs A (rR A) (rP A) (1 * 2 ^ (rP A).toNat - 1 - c) (-1))), (6, gi (rs A (rR A) (rP A) c (-1))), (7, gi (gr2 A (rR A) (rP A) c))]) dX9_hands_88 rfl rfl ?_
              refine g_iload (pc := 90) X dX9_hands_90 7 rfl ?_
              refine g_iload_n (pc := 92) X dX9_hands_92 3 rfl ?_
              refine g_icmpge (pc := 93) X 101 dX9_hands_93 (by decide) (by omega) (by omega) (fun h93 => ?_) (fun h93 => ?_)
              · refine g_iload_n (pc := 101) X dX9_hands_101 2 rfl ?_
                refine g_istore_n (pc := 102) X (lv' := [(0, .ref q), (1, gi w), (2, gi x), (3, gi sc), (4, gi c), (5, gi (rs A (rR A) (rP A) (1 * 2 ^ (rP A).toNat - 1 - c) (-1))), (6, gi (rs A (rR A) (rP A) c (-1))), (7, gi (gr2 A (rR A) (rP A) c))]) dX9_hands_102 rfl rfl ?_
                refine g_iload (pc := 103) X dX9_hands_103 7 rfl ?_
                refine g_iload_n (pc := 105) X dX9_hands_105 3 rfl ?_
                refine g_icmpge (pc := 106) X 114 dX9_hands_106 (by decide) (by omega) (by omega) (fun h106 => ?_) (fun h106 => ?_)
                · refine g_iload_n (pc := 114) X dX9_hands_114 3 rfl ?_
                  refine g_istore_n (pc := 115) X (lv' := [(0, .ref q), (1, gi w), (2, gi x), (3, gi sc), (4, gi c), (5, gi (rs A (rR A) (rP A) (1 * 2 ^ (rP A).toNat - 1 - c) (-1))), (6, gi (rs A (rR A) (rP A) c (-1))), (7, gi (gr2 A (rR A) (rP A) c))]) dX9_hands_115 rfl rfl ?_
                  refine g_iinc (pc := 116) X (lv' := [(0, .ref q), (1, gi w), (2, gi x), (3, gi sc), (4, gi (c + 1)), (5, gi (rs A (rR A) (rP A) (1 * 2 ^ (rP A).toNat - 1 - c) (-1))), (6, gi (rs A (rR A) (rP A) c (-1))), (7, gi (gr2 A (rR A) (rP A) c))]) dX9_hands_116 4 rfl rfl rfl ?_
                  refine g_goto (pc := 119) X 42 dX9_hands_119 (by decide) ?_
                  refine g_lsub X [0, 1, 2, 3, 4] rfl ?_
                  exact ih42 _ _ _ (by omega) (by rw [spl_s hc.1, hst]; (try dsimp only); first | (exfalso; omega) | rw [if_pos (by omega)] | rw [if_neg (by omega)]) (by omega) (by omega) (by omega)
                · refine g_iload (pc := 109) X dX9_hands_109 7 rfl ?_
                  refine g_goto (pc := 111) X 115 dX9_hands_111 (by decide) ?_
                  refine g_istore_n (pc := 115) X (lv' := [(0, .ref q), (1, gi w), (2, gi x), (3, gi (gr2 A (rR A) (rP A) c)), (4, gi c), (5, gi (rs A (rR A) (rP A) (1 * 2 ^ (rP A).toNat - 1 - c) (-1))), (6, gi (rs A (rR A) (rP A) c (-1))), (7, gi (gr2 A (rR A) (rP A) c))]) dX9_hands_115 rfl rfl ?_
                  refine g_iinc (pc := 116) X (lv' := [(0, .ref q), (1, gi w), (2, gi x), (3, gi (gr2 A (rR A) (rP A) c)), (4, gi (c + 1)), (5, gi (rs A (rR A) (rP A) (1 * 2 ^ (rP A).toNat - 1 - c) (-1))), (6, gi (rs A (rR A) (rP A) c (-1))), (7, gi (gr2 A (rR A) (rP A) c))]) dX9_hands_116 4 rfl rfl rfl ?_
                  refine g_goto (pc := 119) X 42 dX9_hands_119 (by decide) ?_
                  refine g_lsub X [0, 1, 2, 3, 4] rfl ?_
                  exact ih42 _ _ _ (by omega) (by rw [spl_s hc.1, hst]; (try dsimp only); first | (exfalso; omega) | rw [if_pos (by omega)] | rw [if_neg (by omega)]) (by omega) (by omega) (by omega)
              · refine g_iload (pc := 96) X dX9_hands_96 4 rfl ?_
                refine g_goto (pc := 98) X 102 dX9_hands_98 (by decide) ?_
                refine g_istore_n (pc := 102) X (lv' := [(0, .ref q), (1, gi w), (2, gi c), (3, gi sc), (4, gi c), (5, gi (rs A (rR A) (rP A) (1 * 2 ^ (rP A).toNat - 1 - c) (-1))), (6, gi (rs A (rR A) (rP A) c (-1))), (7, gi (gr2 A (rR A) (rP A) c))]) dX9_hands_102 rfl rfl ?_
                refine g_iload (pc := 103) X dX9_hands_103 7 rfl ?_
                refine g_iload_n (pc := 105) X dX9_hands_105 3 rfl ?_
                refine g_icmpge (pc := 106) X 114 dX9_hands_106 (by decide) (by omega) (by omega) (fun h106 => ?_) (fun h106 => ?_)
                · refine g_iload_n (pc := 114) X dX9_hands_114 3 rfl ?_
                  refine g_istore_n (pc := 115) X (lv' := [(0, .ref q), (1, gi w), (2, gi c), (3, gi sc), (4, gi c), (5, gi (rs A (rR A) (rP A) (1 * 2 ^ (rP A).toNat - 1 - c) (-1))), (6, gi (rs A (rR A) (rP A) c (-1))), (7, gi (gr2 A (rR A) (rP A) c))]) dX9_hands_115 rfl rfl ?_
                  refine g_iinc (pc := 116) X (lv' := [(0, .ref q), (1, gi w), (2, gi c), (3, gi sc), (4, gi (c + 1)), (5, gi (rs A (rR A) (rP A) (1 * 2 ^ (rP A).toNat - 1 - c) (-1))), (6, gi (rs A (rR A) (rP A) c (-1))), (7, gi (gr2 A (rR A) (rP A) c))]) dX9_hands_116 4 rfl rfl rfl ?_
                  refine g_goto (pc := 119) X 42 dX9_hands_119 (by decide) ?_
                  refine g_lsub X [0, 1, 2, 3, 4] rfl ?_
                  exact ih42 _ _ _ (by omega) (by rw [spl_s hc.1, hst]; (try dsimp only); first | (exfalso; omega) | rw [if_pos (by omega)] | rw [if_neg (by omega)]) (by omega) (by omega) (by omega)
                · refine g_iload (pc := 109) X dX9_hands_109 7 rfl ?_
                  refine g_goto (pc := 111) X 115 dX9_hands_111 (by decide) ?_
                  refine g_istore_n (pc := 115) X (lv' := [(0, .ref q), (1, gi w), (2, gi c), (3, gi (gr2 A (rR A) (rP A) c)), (4, gi c), (5, gi (rs A (rR A) (rP A) (1 * 2 ^ (rP A).toNat - 1 - c) (-1))), (6, gi (rs A (rR A) (rP A) c (-1))), (7, gi (gr2 A (rR A) (rP A) c))]) dX9_hands_115 rfl rfl ?_
                  refine g_iinc (pc := 116) X (lv' := [(0, .ref q), (1, gi w), (2, gi c), (3, gi (gr2 A (rR A) (rP A) c)), (4, gi (c + 1)), (5, gi (rs A (rR A) (rP A) (1 * 2 ^ (rP A).toNat - 1 - c) (-1))), (6, gi (rs A (rR A) (rP A) c (-1))), (7, gi (gr2 A (rR A) (rP A) c))]) dX9_hands_116 4 rfl rfl rfl ?_
                  refine g_goto (pc := 119) X 42 dX9_hands_119 (by decide) ?_
                  refine g_lsub X [0, 1, 2, 3, 4] rfl ?_
                  exact ih42 _ _ _ (by omega) (by rw [spl_s hc.1, hst]; (try dsimp only); first | (exfalso; omega) | rw [if_pos (by omega)] | rw [if_neg (by omega)]) (by omega) (by omega) (by omega)
      exact L42 _ _ _ _ (by omega) (by rfl) (by omega) (by omega) (Nat.lt_succ_self _)
    · refine g_aload_n (pc := 23) X dX9_hands_23 0 rfl ?_
      refine g_bipush (pc := 24) X dX9_hands_24 (by decide +kernel) ?_
      refine gc_Vxi (pc := 26) X (wr := [gA cI (a 0) 1140 A, gA cZ (a 1) 2 kp, gA cI (a 3) 6 lk_, gA cI (a 5) 60 sh, gA cI (a 12) 8 (fun j => P3_1 (0 + j)), gA cI (a 13) 8 (fun j => P3_1 (8 + j)), gA cI (a 14) 8 (fun j => P3_1 (16 + j)), gA cI (a 15) 8 (fun j => P3_1 (24 + j)), gA cI (a 16) 8 (fun j => P3_1 (32 + j)), gA cI (a 17) 2048 le, gA cI (a 18) 41 lg, gA cI (a 19) 112 bg]) (c_X9_refuse l D cI cZ q a al at3_1 st3_1 so3_1 va3_1 fa3_1 (rP A) sg su rf (-2) (by omega)) lm_X9_54 dX9_hands_26 [0, 3] [1, 2, 4, 5, 6, 7, 8, 9, 10, 11, 12, 13] rfl rfl rfl rfl (by decide) rfl rfl rfl rfl rfl rfl (fun x26 hx26 => ?_)
      refine g_pick (cn := 0) (sl := 0) (st := gi (-2) :: []) X (ws' := [oM q a al at3_1 st3_1 so3_1 va3_1 fa3_1 (rP A) sg su, gA cI (a 0) 1140 A, gA cZ (a 1) 2 kp, gA cI (a 2) 3 (gupd rf (-2 - (-2)) (rf (-2 - (-2)) + 1)), gA cI (a 3) 6 lk_, gA cI (a 5) 60 sh, gA cI (a 12) 8 (fun j => P3_1 (0 + j)), gA cI (a 13) 8 (fun j => P3_1 (8 + j)), gA cI (a 14) 8 (fun j => P3_1 (16 + j)), gA cI (a 15) 8 (fun j => P3_1 (24 + j)), gA cI (a 16) 8 (fun j => P3_1 (32 + j)), gA cI (a 17) 2048 le, gA cI (a 18) 41 lg, gA cI (a 19) 112 bg]) [12, 0, 1, 13, 2, 3, 4, 5, 6, 7, 8, 9, 10, 11] rfl rfl ?_
      exact ret _ _ _ _ _ _ dX9_hands_29 rfl rfl (fun h => by cases h) (gPxi_e (at3_1, st3_1, so3_1, va3_1, fa3_1, rP A, P3_1, _) (by rw [(show o_hands A w = (-2, 0) from (if_pos h4).trans (if_neg (by omega)))]) (by rw [(show o_hands A w = (-2, 0) from (if_pos h4).trans (if_neg (by omega)))]; rfl) trivial)
  · refine g_aload_n (pc := 7) X dX9_hands_7 0 rfl ?_
    refine g_bipush (pc := 8) X dX9_hands_8 (by decide +kernel) ?_
    refine gc_Vxi (pc := 10) X (wr := [gA cI (a 0) 1140 A, gA cZ (a 1) 2 kp, gA cI (a 3) 6 lk_, gA cI (a 5) 60 sh, gA cI (a 12) 8 (fun j => P3_1 (0 + j)), gA cI (a 13) 8 (fun j => P3_1 (8 + j)), gA cI (a 14) 8 (fun j => P3_1 (16 + j)), gA cI (a 15) 8 (fun j => P3_1 (24 + j)), gA cI (a 16) 8 (fun j => P3_1 (32 + j)), gA cI (a 17) 2048 le, gA cI (a 18) 41 lg, gA cI (a 19) 112 bg]) (c_X9_refuse l D cI cZ q a al at3_1 st3_1 so3_1 va3_1 fa3_1 pl3_1 sg su rf (-3) (by omega)) lm_X9_54 dX9_hands_10 [0, 3] [1, 2, 4, 5, 6, 7, 8, 9, 10, 11, 12, 13] rfl rfl rfl rfl (by decide) rfl rfl rfl rfl rfl rfl (fun x10 hx10 => ?_)
    refine g_pick (cn := 0) (sl := 0) (st := gi (-3) :: []) X (ws' := [oM q a al at3_1 st3_1 so3_1 va3_1 fa3_1 pl3_1 sg su, gA cI (a 0) 1140 A, gA cZ (a 1) 2 kp, gA cI (a 2) 3 (gupd rf (-2 - (-3)) (rf (-2 - (-3)) + 1)), gA cI (a 3) 6 lk_, gA cI (a 5) 60 sh, gA cI (a 12) 8 (fun j => P3_1 (0 + j)), gA cI (a 13) 8 (fun j => P3_1 (8 + j)), gA cI (a 14) 8 (fun j => P3_1 (16 + j)), gA cI (a 15) 8 (fun j => P3_1 (24 + j)), gA cI (a 16) 8 (fun j => P3_1 (32 + j)), gA cI (a 17) 2048 le, gA cI (a 18) 41 lg, gA cI (a 19) 112 bg]) [12, 0, 1, 13, 2, 3, 4, 5, 6, 7, 8, 9, 10, 11] rfl rfl ?_
    exact ret _ _ _ _ _ _ dX9_hands_13 rfl rfl (fun h => by cases h) (gPxi_e (_, _, _, _, _, _, _, _) (by rw [(show o_hands A w = (-3, 1) from if_neg h4)]) (by rw [(show o_hands A w = (-3, 1) from if_neg h4)]; rfl) trivial)
