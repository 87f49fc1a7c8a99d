/-! orders and hands: the code of Trips -/

set_option maxHeartbeats 4000000 in
set_option maxRecDepth 100000 in
theorem c_X7_secondsBetween (l : Launch) (D : va_G) (cI cZ : ClassId) (q2 : Nat) (a2 : Nat → Nat) (A : Int → Int) (q3 : Nat) (a3 : Nat → Nat) (rf1 : Int) (m : Int) (rw1 : Int) (rz1 : Int) (P : Int → Int) (i : Int) (j : Int) (hA : okA A) (hi : 0 ≤ i ∧ i < m) (hj : 0 ≤ j ∧ j < m) (hm : m ≤ 8) (hR : ∀ j, 0 ≤ j → j < m → rgR (A 0) P j) : GM l D cI cZ yX7_secondsBetween cX7_secondsBetween 6 (some .int) ({ frames := 1, cells := 0, slots := 0, locals := 21 }) 0 0 true [.ref q2, .ref q3, gi i, gi j] [oF q2 a2 (A 0) (A 1) (A 2) (A 3) (A 4), gA cI (a2 7) 5 (fun j => A (127 + j)), oR q3 a3 rf1 m rw1 rz1, gA cI (a3 4) 8 (fun j => P (16 + j)), gA cI (a3 5) 8 (fun j => P (24 + j))] (gPi (chg A P i j)) := by
  refine g_enterI (z := false) (lv0 := [(0, .ref q2), (1, .ref q3), (2, gi i), (3, gi j)]) _ rfl (by decide) rfl rfl (fun V X ret => ?_)
  have hpu := okA_pu hA
  have hgi := hR i hi.1 hi.2
  have hgj := hR j hj.1 hj.2
  obtain ⟨i1, i2, i3, i4, i5⟩ := hgi
  obtain ⟨j1, j2, j3, j4, j5⟩ := hgj
  refine g_aload_n (pc := 0) X dX7_secondsBetween_0 1 rfl ?_
  refine g_get (pc := 1) X fl_X7_41 dX7_secondsBetween_1 2 (v := .ref (a3 4)) rfl rfl ?_
  refine g_iload_n (pc := 4) X dX7_secondsBetween_4 2 rfl ?_
  refine gc_Ni (pc := 5) X (c_X8_look l D cI cZ (a3 4) 8 (fun j => P (16 + j)) i (by omega) rfl) lm_X7_44 dX7_secondsBetween_5 [3] rfl rfl rfl rfl rfl rfl ?_
  refine g_top (b := P (16 + i)) (lk_in (by omega)) ?_
  refine g_aload_n (pc := 8) X dX7_secondsBetween_8 1 rfl ?_
  refine g_get (pc := 9) X fl_X7_41 dX7_secondsBetween_9 2 (v := .ref (a3 4)) rfl rfl ?_
  refine g_iload_n (pc := 12) X dX7_secondsBetween_12 3 rfl ?_
  refine gc_Ni (pc := 13) X (c_X8_look l D cI cZ (a3 4) 8 (fun j => P (16 + j)) j (by omega) rfl) lm_X7_44 dX7_secondsBetween_13 [3] rfl rfl rfl rfl rfl rfl ?_
  refine g_top (b := P (16 + j)) (lk_in (by omega)) ?_
  refine g_icmpne (pc := 16) X 23 dX7_secondsBetween_16 (by decide) (by omega) (by omega) (fun h16 => ?_) (fun h16 => ?_)
  · refine g_aload_n (pc := 23) X dX7_secondsBetween_23 0 rfl ?_
    refine g_get (pc := 24) X fl_X7_48 dX7_secondsBetween_24 0 (v := .ref (a2 7)) rfl rfl ?_
    refine g_iconst (pc := 27) X dX7_secondsBetween_27 ?_
    refine gc_Ni (pc := 28) X (c_X8_look l D cI cZ (a2 7) 5 (fun j => A (127 + j)) 3 (by omega) rfl) lm_X7_44 dX7_secondsBetween_28 [1] rfl rfl rfl rfl rfl rfl ?_
    refine g_top (b := A 130) (Eq.trans (lk_in (by omega)) (congrArg A (by omega))) ?_
    refine g_istore (pc := 31) X (lv' := [(0, .ref q2), (1, .ref q3), (2, gi i), (3, gi j), (4, gi (A 130))]) dX7_secondsBetween_31 rfl rfl ?_
    refine g_aload_n (pc := 33) X dX7_secondsBetween_33 1 rfl ?_
    refine g_get (pc := 34) X fl_X7_53 dX7_secondsBetween_34 2 (v := .ref (a3 5)) rfl rfl ?_
    refine g_iload_n (pc := 37) X dX7_secondsBetween_37 2 rfl ?_
    refine gc_Ni (pc := 38) X (c_X8_look l D cI cZ (a3 5) 8 (fun j => P (24 + j)) i (by omega) rfl) lm_X7_44 dX7_secondsBetween_38 [4] rfl rfl rfl rfl rfl rfl ?_
    refine g_top (b := P (24 + i)) (lk_in (by omega)) ?_
    refine g_aload_n (pc := 41) X dX7_secondsBetween_41 1 rfl ?_
    refine g_get (pc := 42) X fl_X7_53 dX7_secondsBetween_42 2 (v := .ref (a3 5)) rfl rfl ?_
    refine g_iload_n (pc := 45) X dX7_secondsBetween_45 3 rfl ?_
    refine gc_Ni (pc := 46) X (c_X8_look l D cI cZ (a3 5) 8 (fun j => P (24 + j)) j (by omega) rfl) lm_X7_44 dX7_secondsBetween_46 [4] rfl rfl rfl rfl rfl rfl ?_
    refine g_top (b := P (24 + j)) (lk_in (by omega)) ?_
    refine g_icmpne (pc := 49) X 56 dX7_secondsBetween_49 (by decide) (by omega) (by omega) (fun h49 => ?_) (fun h49 => ?_)
    · refine g_aload_n (pc := 56) X dX7_secondsBetween_56 0 rfl ?_
      refine g_get (pc := 57) X fl_X7_48 dX7_secondsBetween_57 0 (v := .ref (a2 7)) rfl rfl ?_
      refine g_iconst (pc := 60) X dX7_secondsBetween_60 ?_
      refine gc_Ni (pc := 61) X (c_X8_look l D cI cZ (a2 7) 5 (fun j => A (127 + j)) 4 (by omega) rfl) lm_X7_44 dX7_secondsBetween_61 [1] rfl rfl rfl rfl rfl rfl ?_
      refine g_top (b := A 131) (Eq.trans (lk_in (by omega)) (congrArg A (by omega))) ?_
      refine g_istore (pc := 64) X (lv' := [(0, .ref q2), (1, .ref q3), (2, gi i), (3, gi j), (4, gi (A 130)), (5, gi (A 131))]) dX7_secondsBetween_64 rfl rfl ?_
      refine g_iload (pc := 66) X dX7_secondsBetween_66 4 rfl ?_
      refine g_iload (pc := 68) X dX7_secondsBetween_68 5 rfl ?_
      refine g_iadd (pc := 70) X dX7_secondsBetween_70 ?_
      exact ret _ _ _ _ _ _ dX7_secondsBetween_71 rfl rfl (fun h => by cases h) (gPi_e (by unfold chg; rw [if_neg (by omega), if_neg (by omega)]))
    · refine g_iconst (pc := 52) X dX7_secondsBetween_52 ?_
      refine g_goto (pc := 53) X 64 dX7_secondsBetween_53 (by decide) ?_
      refine g_istore (pc := 64) X (lv' := [(0, .ref q2), (1, .ref q3), (2, gi i), (3, gi j), (4, gi (A 130)), (5, gi 0)]) dX7_secondsBetween_64 rfl rfl ?_
      refine g_iload (pc := 66) X dX7_secondsBetween_66 4 rfl ?_
      refine g_iload (pc := 68) X dX7_secondsBetween_68 5 rfl ?_
      refine g_iadd (pc := 70) X dX7_secondsBetween_70 ?_
      exact ret _ _ _ _ _ _ dX7_secondsBetween_71 rfl rfl (fun h => by cases h) (gPi_e (by unfold chg; rw [if_neg (by omega), if_pos (by omega)]))
  · refine g_iconst (pc := 19) X dX7_secondsBetween_19 ?_
    refine g_goto (pc := 20) X 31 dX7_secondsBetween_20 (by decide) ?_
    refine g_istore (pc := 31) X (lv' := [(0, .ref q2), (1, .ref q3), (2, gi i), (3, gi j), (4, gi 0)]) dX7_secondsBetween_31 rfl rfl ?_
    refine g_aload_n (pc := 33) X dX7_secondsBetween_33 1 rfl ?_
    refine g_get (pc := 34) X fl_X7_53 dX7_secondsBetween_34 2 (v := .ref (a3 5)) rfl rfl ?_
    refine g_iload_n (pc := 37) X dX7_secondsBetween_37 2 rfl ?_
    refine gc_Ni (pc := 38) X (c_X8_look l D cI cZ (a3 5) 8 (fun j => P (24 + j)) i (by omega) rfl) lm_X7_44 dX7_secondsBetween_38 [4] rfl rfl rfl rfl rfl rfl ?_
    refine g_top (b := P (24 + i)) (lk_in (by omega)) ?_
    refine g_aload_n (pc := 41) X dX7_secondsBetween_41 1 rfl ?_
    refine g_get (pc := 42) X fl_X7_53 dX7_secondsBetween_42 2 (v := .ref (a3 5)) rfl rfl ?_
    refine g_iload_n (pc := 45) X dX7_secondsBetween_45 3 rfl ?_
    refine gc_Ni (pc := 46) X (c_X8_look l D cI cZ (a3 5) 8 (fun j => P (24 + j)) j (by omega) rfl) lm_X7_44 dX7_secondsBetween_46 [4] rfl rfl rfl rfl rfl rfl ?_
    refine g_top (b := P (24 + j)) (lk_in (by omega)) ?_
    refine g_icmpne (pc := 49) X 56 dX7_secondsBetween_49 (by decide) (by omega) (by omega) (fun h49 => ?_) (fun h49 => ?_)
    · refine g_aload_n (pc := 56) X dX7_secondsBetween_56 0 rfl ?_
      refine g_get (pc := 57) X fl_X7_48 dX7_secondsBetween_57 0 (v := .ref (a2 7)) rfl rfl ?_
      refine g_iconst (pc := 60) X dX7_secondsBetween_60 ?_
      refine gc_Ni (pc := 61) X (c_X8_look l D cI cZ (a2 7) 5 (fun j => A (127 + j)) 4 (by omega) rfl) lm_X7_44 dX7_secondsBetween_61 [1] rfl rfl rfl rfl rfl rfl ?_
      refine g_top (b := A 131) (Eq.trans (lk_in (by omega)) (congrArg A (by omega))) ?_
      refine g_istore (pc := 64) X (lv' := [(0, .ref q2), (1, .ref q3), (2, gi i), (3, gi j), (4, gi 0), (5, gi (A 131))]) dX7_secondsBetween_64 rfl rfl ?_
      refine g_iload (pc := 66) X dX7_secondsBetween_66 4 rfl ?_
      refine g_iload (pc := 68) X dX7_secondsBetween_68 5 rfl ?_
      refine g_iadd (pc := 70) X dX7_secondsBetween_70 ?_
      exact ret _ _ _ _ _ _ dX7_secondsBetween_71 rfl rfl (fun h => by cases h) (gPi_e (by unfold chg; rw [if_pos (by omega), if_neg (by omega)]))
    · refine g_iconst (pc := 52) X dX7_secondsBetween_52 ?_
      refine g_goto (pc := 53) X 64 dX7_secondsBetween_53 (by decide) ?_
      refine g_istore (pc := 64) X (lv' := [(0, .ref q2), (1, .ref q3), (2, gi i), (3, gi j), (4, gi 0), (5, gi 0)]) dX7_secondsBetween_64 rfl rfl ?_
      refine g_iload (pc := 66) X dX7_secondsBetween_66 4 rfl ?_
      refine g_iload (pc := 68) X dX7_secondsBetween_68 5 rfl ?_
      refine g_iadd (pc := 70) X dX7_secondsBetween_70 ?_
      exact ret _ _ _ _ _ _ dX7_secondsBetween_71 rfl rfl (fun h => by cases h) (gPi_e (by unfold chg; rw [if_pos (by omega), if_pos (by omega)]))

set_option maxHeartbeats 4000000 in
set_option maxRecDepth 100000 in
theorem c_X7_all (l : Launch) (D : va_G) (cI cZ : ClassId) (q : Nat) (a : Nat → Nat) (n : Int) (hn : 0 ≤ n ∧ n ≤ 8) : GM l D cI cZ yX7_all cX7_all 1 (some .int) ({ frames := 0, cells := 0, slots := 0, locals := 0 }) 0 0 true [.ref q] [oT q a n] (gPi (1 * 2 ^ n.toNat - 1)) := by
  refine g_enterI (z := false) (lv0 := [(0, .ref q)]) _ rfl (by decide) rfl rfl (fun V X ret => ?_)
  have hpw := pw_b (k := n) (c := 8) (C := 256) rfl (by omega)
  refine g_iconst (pc := 0) X dX7_all_0 ?_
  refine g_aload_n (pc := 1) X dX7_all_1 0 rfl ?_
  refine g_get (pc := 2) X fl_X7_24 dX7_all_2 0 (v := gi n) rfl rfl ?_
  refine g_ishl (pc := 5) X dX7_all_5 (by omega) (by omega) (by omega) ?_
  refine g_iconst (pc := 6) X dX7_all_6 ?_
  refine g_isub (pc := 7) X dX7_all_7 ?_
  exact ret _ _ _ _ _ _ dX7_all_8 rfl rfl (fun h => by cases h) (gPi_e rfl)

set_option maxHeartbeats 4000000 in
set_option maxRecDepth 100000 in
theorem c_X7_secondsBy (l : Launch) (D : va_G) (cI cZ : ClassId) (q : Nat) (a : Nat → Nat) (n : Int) (zs : Int → Int) (zr : Int → Int) (A : Int → Int) (Q : Int → Int) (s : Int) (p : Int) (t : Int) (hA : okA A) (hn : 0 ≤ n ∧ n ≤ 8) (hs : 0 ≤ s ∧ s < 256) (hp : -1 ≤ p ∧ p < n) (ht : 0 ≤ t ∧ t < n) (hT : stT A Q n zs) (hv : zr (8 * bdel s t + t) = rs A Q n (bdel s t) t) : GM l D cI cZ yX7_secondsBy cX7_secondsBy 5 (some .int) ({ frames := 1, cells := 0, slots := 0, locals := 21 }) 0 0 true [.ref q, gi s, gi p, gi t] [oT q a n, gA cI (a 0) 64 zs, gA cI (a 1) 2048 zr] (gPi (stp A Q p t + rs A Q n (bdel s t) t)) := by
  refine g_enterI (z := false) (lv0 := [(0, .ref q), (1, gi s), (2, gi p), (3, gi t)]) _ rfl (by decide) rfl rfl (fun V X ret => ?_)
  have hdb := bdel_b (s := s) (k := t) hs (by omega)
  have hrb := rs_b (Q := Q) hA n (bdel s t) t
  have hcb := chg_b (Q := Q) hA p t
  have hpt := pw_b (k := t) (c := 8) (C := 256) rfl (by omega)
  refine g_iload_n (pc := 0) X dX7_secondsBy_0 2 rfl ?_
  refine g_iconst (pc := 1) X dX7_secondsBy_1 ?_
  refine g_icmpne (pc := 2) X 9 dX7_secondsBy_2 (by decide) (by omega) (by omega) (fun h2 => ?_) (fun h2 => ?_)
  · refine g_aload_n (pc := 9) X dX7_secondsBy_9 0 rfl ?_
    refine g_get (pc := 10) X fl_X7_9 dX7_secondsBy_10 0 (v := .ref (a 0)) rfl rfl ?_
    refine g_iload_n (pc := 13) X dX7_secondsBy_13 2 rfl ?_
    refine g_bipush (pc := 14) X dX7_secondsBy_14 (by decide +kernel) ?_
    refine g_imul (pc := 16) X dX7_secondsBy_16 ?_
    refine g_iload_n (pc := 17) X dX7_secondsBy_17 3 rfl ?_
    refine g_iadd (pc := 18) X dX7_secondsBy_18 ?_
    refine gc_Ni (pc := 19) X (c_X8_look l D cI cZ (a 0) 64 zs (p * 8 + t) (by omega) rfl) lm_X7_44 dX7_secondsBy_19 [1] rfl rfl rfl rfl rfl rfl ?_
    refine g_top (b := zs (8 * p + t)) (Eq.trans (lk_in (by omega)) (congrArg zs (by omega))) ?_
    refine g_top (b := (chg A Q p t)) (hT p (by omega) hp.2 t ht.1 ht.2) ?_
    refine g_istore (pc := 22) X (lv' := [(0, .ref q), (1, gi s), (2, gi p), (3, gi t), (4, gi (chg A Q p t))]) dX7_secondsBy_22 rfl rfl ?_
    refine g_iload (pc := 24) X dX7_secondsBy_24 4 rfl ?_
    refine g_aload_n (pc := 26) X dX7_secondsBy_26 0 rfl ?_
    refine g_get (pc := 27) X fl_X7_15 dX7_secondsBy_27 0 (v := .ref (a 1)) rfl rfl ?_
    refine g_iload_n (pc := 30) X dX7_secondsBy_30 1 rfl ?_
    refine g_iconst (pc := 31) X dX7_secondsBy_31 ?_
    refine g_iload_n (pc := 32) X dX7_secondsBy_32 3 rfl ?_
    refine g_ishl (pc := 33) X dX7_secondsBy_33 (by omega) (by omega) (by omega) ?_
    refine g_iconst (pc := 34) X dX7_secondsBy_34 ?_
    refine g_ixor (pc := 35) X (r := ((iI (1 * 2 ^ t.toNat) ^^^ iI (-1)).toInt)) dX7_secondsBy_35 iI_xm ?_
    refine g_iand (pc := 36) X (r := (bdel s t)) dX7_secondsBy_36 (iI_del hs (by omega)) ?_
    refine g_bipush (pc := 37) X dX7_secondsBy_37 (by decide +kernel) ?_
    refine g_imul (pc := 39) X dX7_secondsBy_39 ?_
    refine g_iload_n (pc := 40) X dX7_secondsBy_40 3 rfl ?_
    refine g_iadd (pc := 41) X dX7_secondsBy_41 ?_
    refine gc_Ni (pc := 42) X (c_X8_look l D cI cZ (a 1) 2048 zr ((bdel s t) * 8 + t) (by omega) rfl) lm_X7_44 dX7_secondsBy_42 [2] rfl rfl rfl rfl rfl rfl ?_
    refine g_top (b := zr (8 * (bdel s t) + t)) (Eq.trans (lk_in (by omega)) (congrArg zr (by omega))) ?_
    refine g_top (b := (rs A Q n (bdel s t) t)) hv ?_
    refine g_iadd (pc := 45) X dX7_secondsBy_45 ?_
    exact ret _ _ _ _ _ _ dX7_secondsBy_46 rfl rfl (fun h => by cases h) (gPi_e (by unfold stp; rw [if_neg (by omega)]))
  · refine g_iconst (pc := 5) X dX7_secondsBy_5 ?_
    refine g_goto (pc := 6) X 22 dX7_secondsBy_6 (by decide) ?_
    refine g_istore (pc := 22) X (lv' := [(0, .ref q), (1, gi s), (2, gi p), (3, gi t), (4, gi 0)]) dX7_secondsBy_22 rfl rfl ?_
    refine g_iload (pc := 24) X dX7_secondsBy_24 4 rfl ?_
    refine g_aload_n (pc := 26) X dX7_secondsBy_26 0 rfl ?_
    refine g_get (pc := 27) X fl_X7_15 dX7_secondsBy_27 0 (v := .ref (a 1)) rfl rfl ?_
    refine g_iload_n (pc := 30) X dX7_secondsBy_30 1 rfl ?_
    refine g_iconst (pc := 31) X dX7_secondsBy_31 ?_
    refine g_iload_n (pc := 32) X dX7_secondsBy_32 3 rfl ?_
    refine g_ishl (pc := 33) X dX7_secondsBy_33 (by omega) (by omega) (by omega) ?_
    refine g_iconst (pc := 34) X dX7_secondsBy_34 ?_
    refine g_ixor (pc := 35) X (r := ((iI (1 * 2 ^ t.toNat) ^^^ iI (-1)).toInt)) dX7_secondsBy_35 iI_xm ?_
    refine g_iand (pc := 36) X (r := (bdel s t)) dX7_secondsBy_36 (iI_del hs (by omega)) ?_
    refine g_bipush (pc := 37) X dX7_secondsBy_37 (by decide +kernel) ?_
    refine g_imul (pc := 39) X dX7_secondsBy_39 ?_
    refine g_iload_n (pc := 40) X dX7_secondsBy_40 3 rfl ?_
    refine g_iadd (pc := 41) X dX7_secondsBy_41 ?_
    refine gc_Ni (pc := 42) X (c_X8_look l D cI cZ (a 1) 2048 zr ((bdel s t) * 8 + t) (by omega) rfl) lm_X7_44 dX7_secondsBy_42 [2] rfl rfl rfl rfl rfl rfl ?_
    refine g_top (b := zr (8 * (bdel s t) + t)) (Eq.trans (lk_in (by omega)) (congrArg zr (by omega))) ?_
    refine g_top (b := (rs A Q n (bdel s t) t)) hv ?_
    refine g_iadd (pc := 45) X dX7_secondsBy_45 ?_
    exact ret _ _ _ _ _ _ dX7_secondsBy_46 rfl rfl (fun h => by cases h) (gPi_e (by rw [show p = -1 by omega, stp_m]))

set_option maxHeartbeats 4000000 in
set_option maxRecDepth 100000 in
theorem c_X7_leastFrom (l : Launch) (D : va_G) (cI cZ : ClassId) (q : Nat) (a : Nat → Nat) (n : Int) (zs : Int → Int) (zr : Int → Int) (A : Int → Int) (Q : Int → Int) (s : Int) (p : Int) (hA : okA A) (hn : 0 ≤ n ∧ n ≤ 8) (hs : 0 ≤ s ∧ s < 256) (hp : -1 ≤ p ∧ p < n) (hT : stT A Q n zs) (hv : rtT A Q n s zr) : GM l D cI cZ yX7_leastFrom cX7_leastFrom 5 (some .int) ({ frames := 2, cells := 0, slots := 0, locals := 45 }) 0 0 true [.ref q, gi s, gi p] [oT q a n, gA cI (a 0) 64 zs, gA cI (a 1) 2048 zr] (gPi (rs A Q n s p)) := by
  refine g_enterI (z := false) (lv0 := [(0, .ref q), (1, gi s), (2, gi p)]) _ rfl (by decide) rfl rfl (fun V X ret => ?_)
  refine g_iload_n (pc := 0) X dX7_leastFrom_0 1 rfl ?_
  refine g_ifne (pc := 1) X 8 dX7_leastFrom_1 (by decide) (by omega) (fun h1 => ?_) (fun h1 => ?_)
  · refine g_ldc (pc := 8) X dX7_leastFrom_8 kc_X7_56 ?_
    refine g_istore_n (pc := 10) X (lv' := [(0, .ref q), (1, gi s), (2, gi p), (3, gi 1000000)]) dX7_leastFrom_10 rfl rfl ?_
    refine g_iconst (pc := 11) X dX7_leastFrom_11 ?_
    refine g_istore (pc := 12) X (lv' := [(0, .ref q), (1, gi s), (2, gi p), (3, gi 1000000), (4, gi 0)]) dX7_leastFrom_12 rfl rfl ?_
    have L14 : ∀ (n14 : Nat) (x : Int) (i : Int), (0 ≤ i ∧ i ≤ n) → (x = mn A Q n s p i) → (n - i).toNat < n14 → V 0 0 [oT q a n, gA cI (a 0) 64 zs, gA cI (a 1) 2048 zr] 14 [(0, .ref q), (1, gi s), (2, gi p), (3, gi x), (4, gi i)] [] := by
      intro n14
      induction n14 with
      | zero => intro x i hi hx hn14; exact absurd hn14 (Nat.not_lt_zero _)
      | succ n14 ih14 =>
        intro x i hi hx hn14
        have hmb := mn_b (Q := Q) hA (n := n) (s := s) (p := p) hi.1
        rw [← hx] at hmb
        have hbt := bit_b s i
        refine g_iload (pc := 14) X dX7_leastFrom_14 4 rfl ?_
        refine g_aload_n (pc := 16) X dX7_leastFrom_16 0 rfl ?_
        refine g_get (pc := 17) X fl_X7_24 dX7_leastFrom_17 0 (v := gi n) rfl rfl ?_
        refine g_icmpge (pc := 20) X 52 dX7_leastFrom_20 (by decide) (by omega) (by omega) (fun h20 => ?_) (fun h20 => ?_)
        · refine g_iload_n (pc := 52) X dX7_leastFrom_52 3 rfl ?_
          exact ret _ _ _ _ _ _ dX7_leastFrom_53 rfl rfl (fun h => by cases h) (gPi_e (by rw [hx, rs_e hn.2 hs, show i = n by omega]))
        · refine g_iload_n (pc := 23) X dX7_leastFrom_23 1 rfl ?_
          refine g_iload (pc := 24) X dX7_leastFrom_24 4 rfl ?_
          refine g_ishr (pc := 26) X dX7_leastFrom_26 (by omega) (by omega) ?_
          refine g_iconst (pc := 27) X dX7_leastFrom_27 ?_
          refine g_iand (pc := 28) X (r := bit s i) dX7_leastFrom_28 (iI_bit hs.1) ?_
          refine g_iconst (pc := 29) X dX7_leastFrom_29 ?_
          refine g_icmpne (pc := 30) X 46 dX7_leastFrom_30 (by decide) (by omega) (by omega) (fun h30 => ?_) (fun h30 => ?_)
          · refine g_iinc (pc := 46) X (lv' := [(0, .ref q), (1, gi s), (2, gi p), (3, gi x), (4, gi (i + 1))]) dX7_leastFrom_46 4 rfl rfl rfl ?_
            refine g_goto (pc := 49) X 14 dX7_leastFrom_49 (by decide) ?_
            exact ih14 _ _ (by omega) (by rw [mn_s hi.1, ← hx]; first | rw [if_pos (by omega)] | rw [if_neg (by omega)]) (by omega)
          · have hby := bdel_y h30
            have hdb := bdel_b (s := s) (k := i) hs (by omega)
            have hrb := rs_b (Q := Q) hA n (bdel s i) i
            have hsb := stp_b (Q := Q) hA p i
            refine g_iload_n (pc := 33) X dX7_leastFrom_33 3 rfl ?_
            refine g_aload_n (pc := 34) X dX7_leastFrom_34 0 rfl ?_
            refine g_iload_n (pc := 35) X dX7_leastFrom_35 1 rfl ?_
            refine g_iload_n (pc := 36) X dX7_leastFrom_36 2 rfl ?_
            refine g_iload (pc := 37) X dX7_leastFrom_37 4 rfl ?_
            refine gc_Vi (pc := 39) X (c_X7_secondsBy l D cI cZ q a n zs zr _ Q s p i hA (by omega) (by omega) (by omega) (by omega) hT (hv (bdel s i) hdb.1 hby i hi.1 (by omega))) lm_X7_57 dX7_leastFrom_39 [0, 1, 2] rfl rfl rfl rfl rfl rfl rfl rfl ?_
            refine g_min (pc := 42) X lm_X7_61 dX7_leastFrom_42 (by omega) (by omega) rfl ?_
            refine g_istore_n (pc := 45) X (lv' := [(0, .ref q), (1, gi s), (2, gi p), (3, gi (gmin x (stp A Q p i + rs A Q n (bdel s i) i))), (4, gi i)]) dX7_leastFrom_45 rfl rfl ?_
            refine g_iinc (pc := 46) X (lv' := [(0, .ref q), (1, gi s), (2, gi p), (3, gi (gmin x (stp A Q p i + rs A Q n (bdel s i) i))), (4, gi (i + 1))]) dX7_leastFrom_46 4 rfl rfl rfl ?_
            refine g_goto (pc := 49) X 14 dX7_leastFrom_49 (by decide) ?_
            exact ih14 _ _ (by omega) (by rw [mn_s hi.1, ← hx]; first | rw [if_pos (by omega)] | rw [if_neg (by omega)]) (by omega)
    exact L14 _ _ _ (by omega) (by show _ = ini s; unfold ini; first | rw [if_pos (by omega)] | rw [if_neg (by omega)]) (Nat.lt_succ_self _)
  · refine g_iconst (pc := 4) X dX7_leastFrom_4 ?_
    refine g_goto (pc := 5) X 10 dX7_leastFrom_5 (by decide) ?_
    refine g_istore_n (pc := 10) X (lv' := [(0, .ref q), (1, gi s), (2, gi p), (3, gi 0)]) dX7_leastFrom_10 rfl rfl ?_
    refine g_iconst (pc := 11) X dX7_leastFrom_11 ?_
    refine g_istore (pc := 12) X (lv' := [(0, .ref q), (1, gi s), (2, gi p), (3, gi 0), (4, gi 0)]) dX7_leastFrom_12 rfl rfl ?_
    have L14 : ∀ (n14 : Nat) (x : Int) (i : Int), (0 ≤ i ∧ i ≤ n) → (x = mn A Q n s p i) → (n - i).toNat < n14 → V 0 0 [oT q a n, gA cI (a 0) 64 zs, gA cI (a 1) 2048 zr] 14 [(0, .ref q), (1, gi s), (2, gi p), (3, gi x), (4, gi i)] [] := by
      intro n14
      induction n14 with
      | zero => intro x i hi hx hn14; exact absurd hn14 (Nat.not_lt_zero _)
      | succ n14 ih14 =>
        intro x i hi hx hn14
        have hmb := mn_b (Q := Q) hA (n := n) (s := s) (p := p) hi.1
        rw [← hx] at hmb
        have hbt := bit_b s i
        refine g_iload (pc := 14) X dX7_leastFrom_14 4 rfl ?_
        refine g_aload_n (pc := 16) X dX7_leastFrom_16 0 rfl ?_
        refine g_get (pc := 17) X fl_X7_24 dX7_leastFrom_17 0 (v := gi n) rfl rfl ?_
        refine g_icmpge (pc := 20) X 52 dX7_leastFrom_20 (by decide) (by omega) (by omega) (fun h20 => ?_) (fun h20 => ?_)
        · refine g_iload_n (pc := 52) X dX7_leastFrom_52 3 rfl ?_
          exact ret _ _ _ _ _ _ dX7_leastFrom_53 rfl rfl (fun h => by cases h) (gPi_e (by rw [hx, rs_e hn.2 hs, show i = n by omega]))
        · refine g_iload_n (pc := 23) X dX7_leastFrom_23 1 rfl ?_
          refine g_iload (pc := 24) X dX7_leastFrom_24 4 rfl ?_
          refine g_ishr (pc := 26) X dX7_leastFrom_26 (by omega) (by omega) ?_
          refine g_iconst (pc := 27) X dX7_leastFrom_27 ?_
          refine g_iand (pc := 28) X (r := bit s i) dX7_leastFrom_28 (iI_bit hs.1) ?_
          refine g_iconst (pc := 29) X dX7_leastFrom_29 ?_
          refine g_icmpne (pc := 30) X 46 dX7_leastFrom_30 (by decide) (by omega) (by omega) (fun h30 => ?_) (fun h30 => ?_)
          · refine g_iinc (pc := 46) X (lv' := [(0, .ref q), (1, gi s), (2, gi p), (3, gi x), (4, gi (i + 1))]) dX7_leastFrom_46 4 rfl rfl rfl ?_
            refine g_goto (pc := 49) X 14 dX7_leastFrom_49 (by decide) ?_
            exact ih14 _ _ (by omega) (by rw [mn_s hi.1, ← hx]; first | rw [if_pos (by omega)] | rw [if_neg (by omega)]) (by omega)
          · have hby := bdel_y h30
            have hdb := bdel_b (s := s) (k := i) hs (by omega)
            have hrb := rs_b (Q := Q) hA n (bdel s i) i
            have hsb := stp_b (Q := Q) hA p i
            refine g_iload_n (pc := 33) X dX7_leastFrom_33 3 rfl ?_
            refine g_aload_n (pc := 34) X dX7_leastFrom_34 0 rfl ?_
            refine g_iload_n (pc := 35) X dX7_leastFrom_35 1 rfl ?_
            refine g_iload_n (pc := 36) X dX7_leastFrom_36 2 rfl ?_
            refine g_iload (pc := 37) X dX7_leastFrom_37 4 rfl ?_
            refine gc_Vi (pc := 39) X (c_X7_secondsBy l D cI cZ q a n zs zr _ Q s p i hA (by omega) (by omega) (by omega) (by omega) hT (hv (bdel s i) hdb.1 hby i hi.1 (by omega))) lm_X7_57 dX7_leastFrom_39 [0, 1, 2] rfl rfl rfl rfl rfl rfl rfl rfl ?_
            refine g_min (pc := 42) X lm_X7_61 dX7_leastFrom_42 (by omega) (by omega) rfl ?_
            refine g_istore_n (pc := 45) X (lv' := [(0, .ref q), (1, gi s), (2, gi p), (3, gi (gmin x (stp A Q p i + rs A Q n (bdel s i) i))), (4, gi i)]) dX7_leastFrom_45 rfl rfl ?_
            refine g_iinc (pc := 46) X (lv' := [(0, .ref q), (1, gi s), (2, gi p), (3, gi (gmin x (stp A Q p i + rs A Q n (bdel s i) i))), (4, gi (i + 1))]) dX7_leastFrom_46 4 rfl rfl rfl ?_
            refine g_goto (pc := 49) X 14 dX7_leastFrom_49 (by decide) ?_
            exact ih14 _ _ (by omega) (by rw [mn_s hi.1, ← hx]; first | rw [if_pos (by omega)] | rw [if_neg (by omega)]) (by omega)
    exact L14 _ _ _ (by omega) (by show _ = ini s; unfold ini; first | rw [if_pos (by omega)] | rw [if_neg (by omega)]) (Nat.lt_succ_self _)

set_option maxHeartbeats 4000000 in
set_option maxRecDepth 100000 in
theorem c_X7_seconds (l : Launch) (D : va_G) (cI cZ : ClassId) (q : Nat) (a : Nat → Nat) (n : Int) (zs : Int → Int) (zr : Int → Int) (A : Int → Int) (Q : Int → Int) (s : Int) (hA : okA A) (hn : 0 ≤ n ∧ n ≤ 8) (hs : 0 ≤ s ∧ s < 256) (hT : stT A Q n zs) (hv : rtT A Q n s zr) : GM l D cI cZ yX7_seconds cX7_seconds 2 (some .int) ({ frames := 3, cells := 0, slots := 0, locals := 69 }) 0 0 true [.ref q, gi s] [oT q a n, gA cI (a 0) 64 zs, gA cI (a 1) 2048 zr] (gPi (rs A Q n s (-1))) := by
  refine g_enterI (z := false) (lv0 := [(0, .ref q), (1, gi s)]) _ rfl (by decide) rfl rfl (fun V X ret => ?_)
  refine g_aload_n (pc := 0) X dX7_seconds_0 0 rfl ?_
  refine g_iload_n (pc := 1) X dX7_seconds_1 1 rfl ?_
  refine g_iconst (pc := 2) X dX7_seconds_2 ?_
  refine gc_Vi (pc := 3) X (c_X7_leastFrom l D cI cZ q a n zs zr _ Q s (-1) hA (by omega) (by omega) (by omega) hT hv) lm_X7_37 dX7_seconds_3 [0, 1, 2] rfl rfl rfl rfl rfl rfl rfl rfl ?_
  exact ret _ _ _ _ _ _ dX7_seconds_6 rfl rfl (fun h => by cases h) (gPi_e rfl)

set_option maxHeartbeats 4000000 in
set_option maxRecDepth 100000 in
theorem c_X7_plan (l : Launch) (D : va_G) (cI cZ : ClassId) (q : Nat) (a : Nat → Nat) (n : Int) (zs : Int → Int) (zr : Int → Int) (q2 : Nat) (a2 : Nat → Nat) (A : Int → Int) (q3 : Nat) (a3 : Nat → Nat) (rf1 : Int) (m : Int) (rw1 : Int) (rz1 : Int) (P : Int → Int) (hA : okA A) (hm : 0 ≤ m ∧ m ≤ 8) (hR : ∀ j, 0 ≤ j → j < m → rgR (A 0) P j) : GM l D cI cZ yX7_plan cX7_plan 5 none ({ frames := 3, cells := 0, slots := 0, locals := 69 }) 0 0 false [.ref q, .ref q2, .ref q3] [oT q a n, gA cI (a 0) 64 zs, gA cI (a 1) 2048 zr, oF q2 a2 (A 0) (A 1) (A 2) (A 3) (A 4), gA cI (a2 7) 5 (fun j => A (127 + j)), oR q3 a3 rf1 m rw1 rz1, gA cI (a3 4) 8 (fun j => P (16 + j)), gA cI (a3 5) 8 (fun j => P (24 + j))] (gPxv (fun xo : (Int → Int) × (Int → Int) => [oT q a m, gA cI (a 0) 64 xo.1, gA cI (a 1) 2048 xo.2, oF q2 a2 (A 0) (A 1) (A 2) (A 3) (A 4), gA cI (a2 7) 5 (fun j => A (127 + j)), oR q3 a3 rf1 m rw1 rz1, gA cI (a3 4) 8 (fun j => P (16 + j)), gA cI (a3 5) 8 (fun j => P (24 + j))]) (fun xo : (Int → Int) × (Int → Int) => (stT A P m xo.1) ∧ (rtT A P m (1 * 2 ^ m.toNat) xo.2))) := by
  refine g_enterV (lv0 := [(0, .ref q), (1, .ref q2), (2, .ref q3)]) (by decide) rfl rfl (fun V X ret => ?_)
  have hpw := pw_b (k := m) (c := 8) (C := 256) rfl (by omega)
  refine g_aload_n (pc := 0) X dX7_plan_0 0 rfl ?_
  refine g_aload_n (pc := 1) X dX7_plan_1 2 rfl ?_
  refine g_get (pc := 2) X fl_X7_18 dX7_plan_2 5 (v := gi m) rfl rfl ?_
  refine g_put (pc := 5) X (ws' := [oT q a m, gA cI (a 0) 64 zs, gA cI (a 1) 2048 zr, oF q2 a2 (A 0) (A 1) (A 2) (A 3) (A 4), gA cI (a2 7) 5 (fun j => A (127 + j)), oR q3 a3 rf1 m rw1 rz1, gA cI (a3 4) 8 (fun j => P (16 + j)), gA cI (a3 5) 8 (fun j => P (24 + j))]) fp_X7_24 dX7_plan_5 0 rfl rfl rfl rfl rfl ?_
  refine g_iconst (pc := 8) X dX7_plan_8 ?_
  refine g_istore_n (pc := 9) X (lv' := [(0, .ref q), (1, .ref q2), (2, .ref q3), (3, gi 0)]) dX7_plan_9 rfl rfl ?_
  have L10 : ∀ (n10 : Nat) (i : Int) (g : Int → Int), (0 ≤ i ∧ i ≤ m) → (∀ p, 0 ≤ p → p < i → ∀ q, 0 ≤ q → q < m → g (8 * p + q) = chg A P p q) → (m - i).toNat < n10 → V 0 0 [oT q a m, gA cI (a 0) 64 g, gA cI (a 1) 2048 zr, oF q2 a2 (A 0) (A 1) (A 2) (A 3) (A 4), gA cI (a2 7) 5 (fun j => A (127 + j)), oR q3 a3 rf1 m rw1 rz1, gA cI (a3 4) 8 (fun j => P (16 + j)), gA cI (a3 5) 8 (fun j => P (24 + j))] 10 [(0, .ref q), (1, .ref q2), (2, .ref q3), (3, gi i)] [] := by
    intro n10
    induction n10 with
    | zero => intro i g hi ha hn10; exact absurd hn10 (Nat.not_lt_zero _)
    | succ n10 ih10 =>
      intro i g hi ha hn10
      refine g_iload_n (pc := 10) X dX7_plan_10 3 rfl ?_
      refine g_aload_n (pc := 11) X dX7_plan_11 0 rfl ?_
      refine g_get (pc := 12) X fl_X7_24 dX7_plan_12 0 (v := gi m) rfl rfl ?_
      refine g_icmpge (pc := 15) X 64 dX7_plan_15 (by decide) (by omega) (by omega) (fun h15 => ?_) (fun h15 => ?_)
      · have hT : stT A P m g := fun p p0 p1 => ha p p0 (by omega)
        refine g_iconst (pc := 64) X dX7_plan_64 ?_
        refine g_istore_n (pc := 65) X (lv' := [(0, .ref q), (1, .ref q2), (2, .ref q3), (3, gi 0)]) dX7_plan_65 rfl rfl ?_
        have L66 : ∀ (n66 : Nat) (c : Int) (gz : Int → Int), (0 ≤ c ∧ c ≤ 1 * 2 ^ m.toNat) → (rtT A P m c gz) → (1 * 2 ^ m.toNat - c).toNat < n66 → V 0 0 [oT q a m, gA cI (a 0) 64 g, gA cI (a 1) 2048 gz, oF q2 a2 (A 0) (A 1) (A 2) (A 3) (A 4), gA cI (a2 7) 5 (fun j => A (127 + j)), oR q3 a3 rf1 m rw1 rz1, gA cI (a3 4) 8 (fun j => P (16 + j)), gA cI (a3 5) 8 (fun j => P (24 + j))] 66 [(0, .ref q), (1, .ref q2), (2, .ref q3), (3, gi c)] [] := by
          intro n66
          induction n66 with
          | zero => intro c gz hc hr hn66; exact absurd hn66 (Nat.not_lt_zero _)
          | succ n66 ih66 =>
            intro c gz hc hr hn66
            refine g_iload_n (pc := 66) X dX7_plan_66 3 rfl ?_
            refine g_aload_n (pc := 67) X dX7_plan_67 0 rfl ?_
            refine gc_Vi (pc := 68) X (c_X7_all l D cI cZ q a m (by omega)) lm_X7_33 dX7_plan_68 [0] rfl rfl rfl rfl rfl rfl rfl rfl ?_
            refine g_icmpgt (pc := 71) X 119 dX7_plan_71 (by decide) (by omega) (by omega) (fun h71 => ?_) (fun h71 => ?_)
            · exact ret _ _ _ _ _ dX7_plan_119 rfl rfl (gPxv_e (_, _) rfl ⟨hT, fun s s0 s1 => hr s s0 (by omega)⟩)
            · refine g_iconst (pc := 74) X dX7_plan_74 ?_
              refine g_istore (pc := 75) X (lv' := [(0, .ref q), (1, .ref q2), (2, .ref q3), (3, gi c), (4, gi 0)]) dX7_plan_75 rfl rfl ?_
              have L77 : ∀ (n77 : Nat) (j : Int) (g2 : Int → Int), (0 ≤ j ∧ j ≤ m) → (rtT A P m c g2) → (∀ q, 0 ≤ q → q < j → g2 (8 * c + q) = rs A P m c q) → (m - j).toNat < n77 → V 0 0 [oT q a m, gA cI (a 0) 64 g, gA cI (a 1) 2048 g2, oF q2 a2 (A 0) (A 1) (A 2) (A 3) (A 4), gA cI (a2 7) 5 (fun j => A (127 + j)), oR q3 a3 rf1 m rw1 rz1, gA cI (a3 4) 8 (fun j => P (16 + j)), gA cI (a3 5) 8 (fun j => P (24 + j))] 77 [(0, .ref q), (1, .ref q2), (2, .ref q3), (3, gi c), (4, gi j)] [] := by
                intro n77
                induction n77 with
                | zero => intro j g2 hj hr2 hb2 hn77; exact absurd hn77 (Nat.not_lt_zero _)
                | succ n77 ih77 =>
                  intro j g2 hj hr2 hb2 hn77
                  refine g_iload (pc := 77) X dX7_plan_77 4 rfl ?_
                  refine g_aload_n (pc := 79) X dX7_plan_79 0 rfl ?_
                  refine g_get (pc := 80) X fl_X7_24 dX7_plan_80 0 (v := gi m) rfl rfl ?_
                  refine g_icmpge (pc := 83) X 113 dX7_plan_83 (by decide) (by omega) (by omega) (fun h83 => ?_) (fun h83 => ?_)
                  · refine g_iinc (pc := 113) X (lv' := [(0, .ref q), (1, .ref q2), (2, .ref q3), (3, gi (c + 1)), (4, gi j)]) dX7_plan_113 3 rfl rfl rfl ?_
                    refine g_goto (pc := 116) X 66 dX7_plan_116 (by decide) ?_
                    refine g_lsub X [0, 1, 2, 3] rfl ?_
                    exact ih66 _ _ (by omega) (all_s (P := fun s => ∀ q, 0 ≤ q → q < m → g2 (8 * s + q) = rs A P m s q) hr2 (fun q q0 q1 => hb2 q q0 (by omega))) (by omega)
                  · refine g_aload_n (pc := 86) X dX7_plan_86 0 rfl ?_
                    refine g_get (pc := 87) X fl_X7_15 dX7_plan_87 0 (v := .ref (a 1)) rfl rfl ?_
                    refine g_iload_n (pc := 90) X dX7_plan_90 3 rfl ?_
                    refine g_bipush (pc := 91) X dX7_plan_91 (by decide +kernel) ?_
                    refine g_imul (pc := 93) X dX7_plan_93 ?_
                    refine g_iload (pc := 94) X dX7_plan_94 4 rfl ?_
                    refine g_iadd (pc := 96) X dX7_plan_96 ?_
                    refine g_aload_n (pc := 97) X dX7_plan_97 0 rfl ?_
                    refine g_iload_n (pc := 98) X dX7_plan_98 3 rfl ?_
                    refine g_iload (pc := 99) X dX7_plan_99 4 rfl ?_
                    refine gc_Vi (pc := 101) X (c_X7_leastFrom l D cI cZ q a m g g2 _ P c j hA (by omega) (by omega) (by omega) hT hr2) lm_X7_37 dX7_plan_101 [0, 1, 2] rfl rfl rfl rfl rfl rfl rfl rfl ?_
                    have hrb := rs_b (Q := P) hA m c j
                    refine gc_Nxv (pc := 104) X (wr := [oT q a m, gA cI (a 0) 64 g, oF q2 a2 (A 0) (A 1) (A 2) (A 3) (A 4), gA cI (a2 7) 5 (fun j => A (127 + j)), oR q3 a3 rf1 m rw1 rz1, gA cI (a3 4) 8 (fun j => P (16 + j)), gA cI (a3 5) 8 (fun j => P (24 + j))]) (c_X8_lay l D cI cZ (a 1) 2048 g2 (c * 8 + j) (rs A P m c j) (by omega) rfl) lm_X7_29 dX7_plan_104 [2] [0, 1, 3, 4, 5, 6, 7] rfl rfl rfl rfl (by decide) rfl rfl rfl rfl (fun x104 hx104 => ?_)
                    refine g_pick (cn := 0) (sl := 0) (st := []) X (ws' := [oT q a m, gA cI (a 0) 64 g, gA cI (a 1) 2048 (ly 2048 g2 (c * 8 + j) (rs A P m c j)), oF q2 a2 (A 0) (A 1) (A 2) (A 3) (A 4), gA cI (a2 7) 5 (fun j => A (127 + j)), oR q3 a3 rf1 m rw1 rz1, gA cI (a3 4) 8 (fun j => P (16 + j)), gA cI (a3 5) 8 (fun j => P (24 + j))]) [0, 1, 7, 2, 3, 4, 5, 6] rfl rfl ?_
                    rw [ly_in (n := 2048) (f := g2) (i := c * 8 + j) (v := (rs A P m c j)) (by omega)]
                    refine g_iinc (pc := 107) X (lv' := [(0, .ref q), (1, .ref q2), (2, .ref q3), (3, gi c), (4, gi (j + 1))]) dX7_plan_107 4 rfl rfl rfl ?_
                    refine g_goto (pc := 110) X 77 dX7_plan_110 (by decide) ?_
                    exact ih77 _ _ (by omega) (fun s s0 s1 q q0 q1 => by rw [gupd_n (by omega)]; exact hr2 s s0 s1 q q0 q1) (all_s (fun q q0 q1 => by rw [gupd_n (by omega)]; exact hb2 q q0 q1) (by rw [show 8 * c + j = c * 8 + j by omega, gupd_s])) (by omega)
              exact L77 _ _ _ (by omega) hr (fun q q0 q1 => by omega) (Nat.lt_succ_self _)
        exact L66 _ _ _ (by omega) (fun s s0 s1 => by omega) (Nat.lt_succ_self _)
      · refine g_iconst (pc := 18) X dX7_plan_18 ?_
        refine g_istore (pc := 19) X (lv' := [(0, .ref q), (1, .ref q2), (2, .ref q3), (3, gi i), (4, gi 0)]) dX7_plan_19 rfl rfl ?_
        have L21 : ∀ (n21 : Nat) (j : Int) (g1 : Int → Int), (0 ≤ j ∧ j ≤ m) → (∀ p, 0 ≤ p → p < i → ∀ q, 0 ≤ q → q < m → g1 (8 * p + q) = chg A P p q) → (∀ q, 0 ≤ q → q < j → g1 (8 * i + q) = chg A P i q) → (m - j).toNat < n21 → V 0 0 [oT q a m, gA cI (a 0) 64 g1, gA cI (a 1) 2048 zr, oF q2 a2 (A 0) (A 1) (A 2) (A 3) (A 4), gA cI (a2 7) 5 (fun j => A (127 + j)), oR q3 a3 rf1 m rw1 rz1, gA cI (a3 4) 8 (fun j => P (16 + j)), gA cI (a3 5) 8 (fun j => P (24 + j))] 21 [(0, .ref q), (1, .ref q2), (2, .ref q3), (3, gi i), (4, gi j)] [] := by
          intro n21
          induction n21 with
          | zero => intro j g1 hj ha1 hb1 hn21; exact absurd hn21 (Nat.not_lt_zero _)
          | succ n21 ih21 =>
            intro j g1 hj ha1 hb1 hn21
            refine g_iload (pc := 21) X dX7_plan_21 4 rfl ?_
            refine g_aload_n (pc := 23) X dX7_plan_23 0 rfl ?_
            refine g_get (pc := 24) X fl_X7_24 dX7_plan_24 0 (v := gi m) rfl rfl ?_
            refine g_icmpge (pc := 27) X 58 dX7_plan_27 (by decide) (by omega) (by omega) (fun h27 => ?_) (fun h27 => ?_)
            · refine g_iinc (pc := 58) X (lv' := [(0, .ref q), (1, .ref q2), (2, .ref q3), (3, gi (i + 1)), (4, gi j)]) dX7_plan_58 3 rfl rfl rfl ?_
              refine g_goto (pc := 61) X 10 dX7_plan_61 (by decide) ?_
              refine g_lsub X [0, 1, 2, 3] rfl ?_
              exact ih10 _ _ (by omega) (all_s (P := fun p => ∀ q, 0 ≤ q → q < m → g1 (8 * p + q) = chg A P p q) ha1 (fun q q0 q1 => hb1 q q0 (by omega))) (by omega)
            · refine g_aload_n (pc := 30) X dX7_plan_30 0 rfl ?_
              refine g_get (pc := 31) X fl_X7_9 dX7_plan_31 0 (v := .ref (a 0)) rfl rfl ?_
              refine g_iload_n (pc := 34) X dX7_plan_34 3 rfl ?_
              refine g_bipush (pc := 35) X dX7_plan_35 (by decide +kernel) ?_
              refine g_imul (pc := 37) X dX7_plan_37 ?_
              refine g_iload (pc := 38) X dX7_plan_38 4 rfl ?_
              refine g_iadd (pc := 40) X dX7_plan_40 ?_
              refine g_aload_n (pc := 41) X dX7_plan_41 1 rfl ?_
              refine g_aload_n (pc := 42) X dX7_plan_42 2 rfl ?_
              refine g_iload_n (pc := 43) X dX7_plan_43 3 rfl ?_
              refine g_iload (pc := 44) X dX7_plan_44 4 rfl ?_
              refine gc_Si (pc := 46) X (c_X7_secondsBetween l D cI cZ q2 a2 A q3 a3 rf1 m rw1 rz1 P i j hA (by omega) (by omega) (by omega) (by omega)) lm_X7_25 dX7_plan_46 [3, 4, 5, 6, 7] rfl rfl rfl rfl rfl rfl ?_
              have hcb := chg_b (Q := P) hA i j
              refine gc_Nxv (pc := 49) X (wr := [oT q a m, gA cI (a 1) 2048 zr, oF q2 a2 (A 0) (A 1) (A 2) (A 3) (A 4), gA cI (a2 7) 5 (fun j => A (127 + j)), oR q3 a3 rf1 m rw1 rz1, gA cI (a3 4) 8 (fun j => P (16 + j)), gA cI (a3 5) 8 (fun j => P (24 + j))]) (c_X8_lay l D cI cZ (a 0) 64 g1 (i * 8 + j) (chg A P i j) (by omega) rfl) lm_X7_29 dX7_plan_49 [1] [0, 2, 3, 4, 5, 6, 7] rfl rfl rfl rfl (by decide) rfl rfl rfl rfl (fun x49 hx49 => ?_)
              refine g_pick (cn := 0) (sl := 0) (st := []) X (ws' := [oT q a m, gA cI (a 0) 64 (ly 64 g1 (i * 8 + j) (chg A P i j)), gA cI (a 1) 2048 zr, oF q2 a2 (A 0) (A 1) (A 2) (A 3) (A 4), gA cI (a2 7) 5 (fun j => A (127 + j)), oR q3 a3 rf1 m rw1 rz1, gA cI (a3 4) 8 (fun j => P (16 + j)), gA cI (a3 5) 8 (fun j => P (24 + j))]) [0, 7, 1, 2, 3, 4, 5, 6] rfl rfl ?_
              rw [ly_in (n := 64) (f := g1) (i := i * 8 + j) (v := (chg A P i j)) (by omega)]
              refine g_iinc (pc := 52) X (lv' := [(0, .ref q), (1, .ref q2), (2, .ref q3), (3, gi i), (4, gi (j + 1))]) dX7_plan_52 4 rfl rfl rfl ?_
              refine g_goto (pc := 55) X 21 dX7_plan_55 (by decide) ?_
              exact ih21 _ _ (by omega) (fun p p0 p1 q q0 q1 => by rw [gupd_n (by omega)]; exact ha1 p p0 p1 q q0 q1) (all_s (fun q q0 q1 => by rw [gupd_n (by omega)]; exact hb1 q q0 q1) (by rw [show 8 * i + j = i * 8 + j by omega, gupd_s])) (by omega)
        exact L21 _ _ _ (by omega) ha (fun q q0 q1 => by omega) (Nat.lt_succ_self _)
  exact L10 _ _ _ (by omega) (fun p p0 p1 => by omega) (Nat.lt_succ_self _)
