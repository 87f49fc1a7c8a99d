/-! LIKENESS and what follows, in the class -/
set_option maxHeartbeats 4000000 in
set_option maxRecDepth 100000 in
theorem c_X0_loudOf (l : Launch) (D : va_G) (cI cZ : ClassId) (q2 : Nat) (a2 : Nat → Nat) (e0 : Int → Int) (t : Int) (b : Int) (ht : 0 ≤ t ∧ t < 10) (hb : 0 ≤ b ∧ b < 6) : GM l D cI cZ yX0_loudOf cX0_loudOf 3 (some .int) ({ frames := 1, cells := 0, slots := 0, locals := 21 }) 0 0 true [.ref q2, gi t, gi b] [oE q2 a2, gA cI (a2 0) 60 e0] (gPi (e0 (6 * t + b))) := by
  refine g_enterI (z := false) (lv0 := [(0, .ref q2), (1, gi t), (2, gi b)]) _ rfl (by decide) rfl rfl (fun V X ret => ?_)
  refine g_aload_n (pc := 0) X dX0_loudOf_0 0 rfl ?_
  refine g_get (pc := 1) X fl_X0_9 dX0_loudOf_1 0 (v := .ref (a2 0)) rfl rfl ?_
  refine g_iload_n (pc := 4) X dX0_loudOf_4 1 rfl ?_
  refine g_bipush (pc := 5) X dX0_loudOf_5 (by decide +kernel) ?_
  refine g_imul (pc := 7) X dX0_loudOf_7 ?_
  refine g_iload_n (pc := 8) X dX0_loudOf_8 2 rfl ?_
  refine g_iadd (pc := 9) X dX0_loudOf_9 ?_
  refine gc_Ni (pc := 10) X (c_X8_look l D cI cZ (a2 0) 60 e0 (t * 6 + b) (by omega) rfl) lm_X0_55 dX0_loudOf_10 [1] rfl rfl rfl rfl rfl rfl ?_
  refine g_top (b := e0 (6 * t + b)) (Eq.trans (lk_in (by omega)) (congrArg e0 (by omega))) ?_
  exact ret _ _ _ _ _ _ dX0_loudOf_13 rfl rfl (fun h => by cases h) (gPi_e rfl)

set_option maxHeartbeats 4000000 in
set_option maxRecDepth 100000 in
theorem c_X0_like (l : Launch) (D : va_G) (cI cZ : ClassId) (q2 : Nat) (a2 : Nat → Nat) (e1 : Int → Int) (t : Int) (m : Int) (ht : 0 ≤ t ∧ t < 10) (hm : 0 ≤ m ∧ m < 6) : GM l D cI cZ yX0_like cX0_like 3 (some .int) ({ frames := 1, cells := 0, slots := 0, locals := 21 }) 0 0 true [.ref q2, gi t, gi m] [oE q2 a2, gA cI (a2 1) 60 e1] (gPi (e1 (6 * t + m))) := by
  refine g_enterI (z := false) (lv0 := [(0, .ref q2), (1, gi t), (2, gi m)]) _ rfl (by decide) rfl rfl (fun V X ret => ?_)
  refine g_aload_n (pc := 0) X dX0_like_0 0 rfl ?_
  refine g_get (pc := 1) X fl_X0_15 dX0_like_1 0 (v := .ref (a2 1)) rfl rfl ?_
  refine g_iload_n (pc := 4) X dX0_like_4 1 rfl ?_
  refine g_bipush (pc := 5) X dX0_like_5 (by decide +kernel) ?_
  refine g_imul (pc := 7) X dX0_like_7 ?_
  refine g_iload_n (pc := 8) X dX0_like_8 2 rfl ?_
  refine g_iadd (pc := 9) X dX0_like_9 ?_
  refine gc_Ni (pc := 10) X (c_X8_look l D cI cZ (a2 1) 60 e1 (t * 6 + m) (by omega) rfl) lm_X0_55 dX0_like_10 [1] rfl rfl rfl rfl rfl rfl ?_
  refine g_top (b := e1 (6 * t + m)) (Eq.trans (lk_in (by omega)) (congrArg e1 (by omega))) ?_
  exact ret _ _ _ _ _ _ dX0_like_13 rfl rfl (fun h => by cases h) (gPi_e rfl)

set_option maxHeartbeats 4000000 in
set_option maxRecDepth 100000 in
theorem c_X0_total (l : Launch) (D : va_G) (cI cZ : ClassId) (q2 : Nat) (a2 : Nat → Nat) (e2 : Int → Int) (t : Int) (ht : 0 ≤ t ∧ t < 10) : GM l D cI cZ yX0_total cX0_total 2 (some .int) ({ frames := 1, cells := 0, slots := 0, locals := 21 }) 0 0 true [.ref q2, gi t] [oE q2 a2, gA cI (a2 2) 10 e2] (gPi (e2 t)) := by
  refine g_enterI (z := false) (lv0 := [(0, .ref q2), (1, gi t)]) _ rfl (by decide) rfl rfl (fun V X ret => ?_)
  refine g_aload_n (pc := 0) X dX0_total_0 0 rfl ?_
  refine g_get (pc := 1) X fl_X0_18 dX0_total_1 0 (v := .ref (a2 2)) rfl rfl ?_
  refine g_iload_n (pc := 4) X dX0_total_4 1 rfl ?_
  refine gc_Ni (pc := 5) X (c_X8_look l D cI cZ (a2 2) 10 e2 t (by omega) rfl) lm_X0_55 dX0_total_5 [1] rfl rfl rfl rfl rfl rfl ?_
  refine g_top (b := e2 t) (lk_in (by omega)) ?_
  exact ret _ _ _ _ _ _ dX0_total_8 rfl rfl (fun h => by cases h) (gPi_e rfl)

set_option maxHeartbeats 4000000 in
set_option maxRecDepth 100000 in
theorem c_X0_likenessOf (l : Launch) (D : va_G) (cI cZ : ClassId) (q2 : Nat) (a2 : Nat → Nat) (e0 : Int → Int) (q : Nat) (a : Nat → Nat) (A : Int → Int) (t : Int) (m : Int) (far : Int) (hA : okA A) (ht : 0 ≤ t ∧ t < 10) (hm : 0 ≤ m ∧ m < 6) (hf : 0 ≤ far ∧ far ≤ 9) (hl : ∀ b, 0 ≤ b → b < 6 → e0 (6 * t + b) = sLoud A t b far) : GM l D cI cZ yX0_likenessOf cX0_likenessOf 6 (some .int) ({ frames := 2, cells := 0, slots := 0, locals := 43 }) 0 0 true [.ref q2, .ref q, gi t, gi m] [oE q2 a2, gA cI (a2 0) 60 e0, oF q a (A 0) (A 1) (A 2) (A 3) (A 4), gA cI (a 6) 36 (fun j => A (91 + j))] (gPi (sLike A t m far)) := by
  refine g_enterI (z := false) (lv0 := [(0, .ref q2), (1, .ref q), (2, gi t), (3, gi m)]) _ rfl (by decide) rfl rfl (fun V X ret => ?_)
  refine g_iconst (pc := 0) X dX0_likenessOf_0 ?_
  refine g_istore (pc := 1) X (lv' := [(0, .ref q2), (1, .ref q), (2, gi t), (3, gi m), (4, gi 0)]) dX0_likenessOf_1 rfl rfl ?_
  refine g_iconst (pc := 3) X dX0_likenessOf_3 ?_
  refine g_istore (pc := 4) X (lv' := [(0, .ref q2), (1, .ref q), (2, gi t), (3, gi m), (4, gi 0), (5, gi 0)]) dX0_likenessOf_4 rfl rfl ?_
  have L6 : ∀ (n6 : Nat) (x : Int) (i : Int), (0 ≤ i ∧ i ≤ 6) → (x = sm (fun b => gabs (sLoud A t b far - A (91 + 6 * m + b))) i) → (0 ≤ x ∧ x ≤ i * 799) → (6 - i).toNat < n6 → V 0 0 [oE q2 a2, gA cI (a2 0) 60 e0, oF q a (A 0) (A 1) (A 2) (A 3) (A 4), gA cI (a 6) 36 (fun j => A (91 + j))] 6 [(0, .ref q2), (1, .ref q), (2, gi t), (3, gi m), (4, gi x), (5, gi i)] [] := by
    intro n6
    induction n6 with
    | zero => intro x i hi hx hxb hn6; exact absurd hn6 (Nat.not_lt_zero _)
    | succ n6 ih6 =>
      intro x i hi hx hxb hn6
      refine g_iload (pc := 6) X dX0_likenessOf_6 5 rfl ?_
      refine g_bipush (pc := 8) X dX0_likenessOf_8 (by decide +kernel) ?_
      refine g_icmpge (pc := 10) X 49 dX0_likenessOf_10 (by decide) (by omega) (by omega) (fun h10 => ?_) (fun h10 => ?_)
      · refine g_iconst (pc := 49) X dX0_likenessOf_49 ?_
        refine g_sipush (pc := 50) X dX0_likenessOf_50 (by decide +kernel) ?_
        refine g_iload (pc := 53) X dX0_likenessOf_53 4 rfl ?_
        refine g_isub (pc := 55) X dX0_likenessOf_55 ?_
        refine g_max (pc := 56) X lm_X0_65 dX0_likenessOf_56 (by omega) (by omega) rfl ?_
        exact ret _ _ _ _ _ _ dX0_likenessOf_59 rfl rfl (fun h => by cases h) (gPi_e (by rw [hx, show i = 6 by omega]; rfl))
      · refine g_iload (pc := 13) X dX0_likenessOf_13 4 rfl ?_
        refine g_aload_n (pc := 15) X dX0_likenessOf_15 0 rfl ?_
        refine g_iload_n (pc := 16) X dX0_likenessOf_16 2 rfl ?_
        refine g_iload (pc := 17) X dX0_likenessOf_17 5 rfl ?_
        refine gc_Vi (pc := 19) X (c_X0_loudOf l D cI cZ q2 a2 e0 t i (by omega) (by omega)) lm_X0_48 dX0_likenessOf_19 [0, 1] rfl rfl rfl rfl rfl rfl rfl rfl ?_
        refine g_top (b := sLoud A t i far) (hl i hi.1 (by omega)) ?_
        have hlo := sLoud_b hA ht (b := i) (by omega) hf
        have hwa := okA_wa hA (j := 6 * m + i) (by omega)
        rw [show 91 + (6 * m + i) = 91 + 6 * m + i by omega] at hwa
        refine g_aload_n (pc := 22) X dX0_likenessOf_22 1 rfl ?_
        refine g_get (pc := 23) X fl_X0_52 dX0_likenessOf_23 2 (v := .ref (a 6)) rfl rfl ?_
        refine g_iload_n (pc := 26) X dX0_likenessOf_26 3 rfl ?_
        refine g_bipush (pc := 27) X dX0_likenessOf_27 (by decide +kernel) ?_
        refine g_imul (pc := 29) X dX0_likenessOf_29 ?_
        refine g_iload (pc := 30) X dX0_likenessOf_30 5 rfl ?_
        refine g_iadd (pc := 32) X dX0_likenessOf_32 ?_
        refine gc_Ni (pc := 33) X (c_X8_look l D cI cZ (a 6) 36 (fun j => A (91 + j)) (m * 6 + i) (by omega) rfl) lm_X0_55 dX0_likenessOf_33 [3] rfl rfl rfl rfl rfl rfl ?_
        refine g_top (b := A (91 + 6 * m + i)) (Eq.trans (lk_in (by omega)) (congrArg A (by omega))) ?_
        refine g_isub (pc := 36) X dX0_likenessOf_36 ?_
        refine g_abs (pc := 37) X lm_X0_59 dX0_likenessOf_37 (by omega) rfl ?_
        refine g_iadd (pc := 40) X dX0_likenessOf_40 ?_
        refine g_istore (pc := 41) X (lv' := [(0, .ref q2), (1, .ref q), (2, gi t), (3, gi m), (4, gi (x + gabs (sLoud A t i far - A (91 + 6 * m + i)))), (5, gi i)]) dX0_likenessOf_41 rfl rfl ?_
        refine g_iinc (pc := 43) X (lv' := [(0, .ref q2), (1, .ref q), (2, gi t), (3, gi m), (4, gi (x + gabs (sLoud A t i far - A (91 + 6 * m + i)))), (5, gi (i + 1))]) dX0_likenessOf_43 5 rfl rfl rfl ?_
        refine g_goto (pc := 46) X 6 dX0_likenessOf_46 (by decide) ?_
        exact ih6 _ _ (by omega) (by rw [hx, sm_s hi.1]) (by have q9 := gabs_b (x := sLoud A t i far - A (91 + 6 * m + i)) (c := 799) (by omega); omega) (by omega)
  exact L6 _ _ _ (by omega) rfl (by omega) (Nat.lt_succ_self _)

set_option maxHeartbeats 4000000 in
set_option maxRecDepth 100000 in
theorem c_X0_hear (l : Launch) (D : va_G) (cI cZ : ClassId) (q2 : Nat) (a2 : Nat → Nat) (e0 : Int → Int) (e1 : Int → Int) (e2 : Int → Int) (q : Nat) (a : Nat → Nat) (A : Int → Int) (t : Int) (far : Int) (hA : okA A) (ht : 0 ≤ t ∧ t < 10) (hf : 0 ≤ far ∧ far ≤ 9) : GM l D cI cZ yX0_hear cX0_hear 7 none ({ frames := 4, cells := 0, slots := 0, locals := 97 }) 0 0 false [.ref q2, .ref q, gi t, gi far] [oE q2 a2, gA cI (a2 0) 60 e0, gA cI (a2 1) 60 e1, gA cI (a2 2) 10 e2, oF q a (A 0) (A 1) (A 2) (A 3) (A 4), gA cI (a 1) 10 (fun j => A (5 + j)), gA cI (a 2) 10 (fun j => A (15 + j)), gA cI (a 3) 60 (fun j => A (25 + j)), gA cI (a 6) 36 (fun j => A (91 + j))] (gPxv (fun xo : (Int → Int) × (Int → Int) => [oE q2 a2, gA cI (a2 0) 60 xo.1, gA cI (a2 1) 60 xo.2, gA cI (a2 2) 10 (gupd e2 t (sTot A t far)), oF q a (A 0) (A 1) (A 2) (A 3) (A 4), gA cI (a 1) 10 (fun j => A (5 + j)), gA cI (a 2) 10 (fun j => A (15 + j)), gA cI (a 3) 60 (fun j => A (25 + j)), gA cI (a 6) 36 (fun j => A (91 + j))]) (fun xo : (Int → Int) × (Int → Int) => (fil (6 * t) 6 6 (fun b => sLoud A t b far) e0 xo.1) ∧ (fil (6 * t) 6 (A 1) (fun m => sLike A t m far) e1 xo.2))) := by
  refine g_enterV (lv0 := [(0, .ref q2), (1, .ref q), (2, gi t), (3, gi far)]) (by decide) rfl rfl (fun V X ret => ?_)
  have hA1 := okA_1 hA
  have hA0 := okA_0 hA
  refine g_iconst (pc := 0) X dX0_hear_0 ?_
  refine g_istore (pc := 1) X (lv' := [(0, .ref q2), (1, .ref q), (2, gi t), (3, gi far), (4, gi 0)]) dX0_hear_1 rfl rfl ?_
  have L3 : ∀ (n3 : Nat) (i : Int) (g0 : Int → Int), (0 ≤ i ∧ i ≤ 6) → (fil (6 * t) 6 i (fun b => sLoud A t b far) e0 g0) → (6 - i).toNat < n3 → V 0 0 [oE q2 a2, gA cI (a2 0) 60 g0, gA cI (a2 1) 60 e1, gA cI (a2 2) 10 e2, oF q a (A 0) (A 1) (A 2) (A 3) (A 4), gA cI (a 1) 10 (fun j => A (5 + j)), gA cI (a 2) 10 (fun j => A (15 + j)), gA cI (a 3) 60 (fun j => A (25 + j)), gA cI (a 6) 36 (fun j => A (91 + j))] 3 [(0, .ref q2), (1, .ref q), (2, gi t), (3, gi far), (4, gi i)] [] := by
    intro n3
    induction n3 with
    | zero => intro i g0 hi hg hn3; exact absurd hn3 (Nat.not_lt_zero _)
    | succ n3 ih3 =>
      intro i g0 hi hg hn3
      refine g_iload (pc := 3) X dX0_hear_3 4 rfl ?_
      refine g_bipush (pc := 5) X dX0_hear_5 (by decide +kernel) ?_
      refine g_icmpge (pc := 7) X 38 dX0_hear_7 (by decide) (by omega) (by omega) (fun h7 => ?_) (fun h7 => ?_)
      · refine g_iconst (pc := 38) X dX0_hear_38 ?_
        refine g_istore (pc := 39) X (lv' := [(0, .ref q2), (1, .ref q), (2, gi t), (3, gi far), (4, gi 0)]) dX0_hear_39 rfl rfl ?_
        refine g_iconst (pc := 41) X dX0_hear_41 ?_
        refine g_istore (pc := 42) X (lv' := [(0, .ref q2), (1, .ref q), (2, gi t), (3, gi far), (4, gi 0), (5, gi 0)]) dX0_hear_42 rfl rfl ?_
        have L44 : ∀ (n44 : Nat) (x : Int) (k : Int) (g1 : Int → Int), (0 ≤ k ∧ k ≤ A 1) → (x = sm (fun m => sLike A t m far) k) → (fil (6 * t) 6 k (fun m => sLike A t m far) e1 g1) → (A 1 - k).toNat < n44 → V 0 0 [oE q2 a2, gA cI (a2 0) 60 g0, gA cI (a2 1) 60 g1, gA cI (a2 2) 10 e2, oF q a (A 0) (A 1) (A 2) (A 3) (A 4), gA cI (a 1) 10 (fun j => A (5 + j)), gA cI (a 2) 10 (fun j => A (15 + j)), gA cI (a 3) 60 (fun j => A (25 + j)), gA cI (a 6) 36 (fun j => A (91 + j))] 44 [(0, .ref q2), (1, .ref q), (2, gi t), (3, gi far), (4, gi x), (5, gi k)] [] := by
          intro n44
          induction n44 with
          | zero => intro x k g1 hk hx hh hn44; exact absurd hn44 (Nat.not_lt_zero _)
          | succ n44 ih44 =>
            intro x k g1 hk hx hh hn44
            have hz : i = 6 := by omega
            refine g_iload (pc := 44) X dX0_hear_44 5 rfl ?_
            refine g_aload_n (pc := 46) X dX0_hear_46 1 rfl ?_
            refine g_get (pc := 47) X fl_X0_41 dX0_hear_47 4 (v := gi (A 1)) rfl rfl ?_
            refine g_icmpge (pc := 50) X 92 dX0_hear_50 (by decide) (by omega) (by omega) (fun h50 => ?_) (fun h50 => ?_)
            · refine g_aload_n (pc := 92) X dX0_hear_92 0 rfl ?_
              refine g_get (pc := 93) X fl_X0_18 dX0_hear_93 0 (v := .ref (a2 2)) rfl rfl ?_
              refine g_iload_n (pc := 96) X dX0_hear_96 2 rfl ?_
              refine g_iload (pc := 97) X dX0_hear_97 4 rfl ?_
              refine gc_Nxv (pc := 99) X (wr := [oE q2 a2, gA cI (a2 0) 60 g0, gA cI (a2 1) 60 g1, oF q a (A 0) (A 1) (A 2) (A 3) (A 4), gA cI (a 1) 10 (fun j => A (5 + j)), gA cI (a 2) 10 (fun j => A (15 + j)), gA cI (a 3) 60 (fun j => A (25 + j)), gA cI (a 6) 36 (fun j => A (91 + j))]) (c_X8_lay l D cI cZ (a2 2) 10 e2 t x (by omega) rfl) lm_X0_37 dX0_hear_99 [3] [0, 1, 2, 4, 5, 6, 7, 8] rfl rfl rfl rfl (by decide) rfl rfl rfl rfl (fun x99 hx99 => ?_)
              refine g_pick (cn := 0) (sl := 0) (st := []) X (ws' := [oE q2 a2, gA cI (a2 0) 60 g0, gA cI (a2 1) 60 g1, gA cI (a2 2) 10 (ly 10 e2 t x), oF q a (A 0) (A 1) (A 2) (A 3) (A 4), gA cI (a 1) 10 (fun j => A (5 + j)), gA cI (a 2) 10 (fun j => A (15 + j)), gA cI (a 3) 60 (fun j => A (25 + j)), gA cI (a 6) 36 (fun j => A (91 + j))]) [0, 1, 2, 8, 3, 4, 5, 6, 7] rfl rfl ?_
              rw [ly_in (n := 10) (f := e2) (i := t) (v := x) (by omega)]
              exact ret _ _ _ _ _ dX0_hear_102 rfl rfl (gPxv_e (g0, g1) (by rw [hx, show k = A 1 by omega]; rfl) ⟨by rw [hz] at hg; exact hg, by rw [show k = A 1 by omega] at hh; exact hh⟩)
            · refine g_aload_n (pc := 53) X dX0_hear_53 0 rfl ?_
              refine g_aload_n (pc := 54) X dX0_hear_54 1 rfl ?_
              refine g_iload_n (pc := 55) X dX0_hear_55 2 rfl ?_
              refine g_iload (pc := 56) X dX0_hear_56 5 rfl ?_
              refine gc_Vi (pc := 58) X (c_X0_likenessOf l D cI cZ q2 a2 g0 q a A t k far hA (by omega) (by omega) (by omega) (by rw [hz] at hg; exact hg.1)) lm_X0_44 dX0_hear_58 [0, 1, 4, 8] rfl rfl rfl rfl rfl rfl rfl rfl ?_
              refine g_istore (pc := 61) X (lv' := [(0, .ref q2), (1, .ref q), (2, gi t), (3, gi far), (4, gi x), (5, gi k), (6, gi (sLike A t k far))]) dX0_hear_61 rfl rfl ?_
              refine g_aload_n (pc := 63) X dX0_hear_63 0 rfl ?_
              refine g_get (pc := 64) X fl_X0_15 dX0_hear_64 0 (v := .ref (a2 1)) rfl rfl ?_
              refine g_iload_n (pc := 67) X dX0_hear_67 2 rfl ?_
              refine g_bipush (pc := 68) X dX0_hear_68 (by decide +kernel) ?_
              refine g_imul (pc := 70) X dX0_hear_70 ?_
              refine g_iload (pc := 71) X dX0_hear_71 5 rfl ?_
              refine g_iadd (pc := 73) X dX0_hear_73 ?_
              refine g_iload (pc := 74) X dX0_hear_74 6 rfl ?_
              refine gc_Nxv (pc := 76) X (wr := [oE q2 a2, gA cI (a2 0) 60 g0, gA cI (a2 2) 10 e2, oF q a (A 0) (A 1) (A 2) (A 3) (A 4), gA cI (a 1) 10 (fun j => A (5 + j)), gA cI (a 2) 10 (fun j => A (15 + j)), gA cI (a 3) 60 (fun j => A (25 + j)), gA cI (a 6) 36 (fun j => A (91 + j))]) (c_X8_lay l D cI cZ (a2 1) 60 g1 (t * 6 + k) (sLike A t k far) (by omega) rfl) lm_X0_37 dX0_hear_76 [2] [0, 1, 3, 4, 5, 6, 7, 8] rfl rfl rfl rfl (by decide) rfl rfl rfl rfl (fun x76 hx76 => ?_)
              refine g_pick (cn := 0) (sl := 0) (st := []) X (ws' := [oE q2 a2, gA cI (a2 0) 60 g0, gA cI (a2 1) 60 (ly 60 g1 (t * 6 + k) (sLike A t k far)), gA cI (a2 2) 10 e2, oF q a (A 0) (A 1) (A 2) (A 3) (A 4), gA cI (a 1) 10 (fun j => A (5 + j)), gA cI (a 2) 10 (fun j => A (15 + j)), gA cI (a 3) 60 (fun j => A (25 + j)), gA cI (a 6) 36 (fun j => A (91 + j))]) [0, 1, 8, 2, 3, 4, 5, 6, 7] rfl rfl ?_
              rw [ly_in (n := 60) (f := g1) (i := t * 6 + k) (v := sLike A t k far) (by omega)]
              refine g_iload (pc := 79) X dX0_hear_79 4 rfl ?_
              refine g_iload (pc := 81) X dX0_hear_81 6 rfl ?_
              refine g_iadd (pc := 83) X dX0_hear_83 ?_
              refine g_istore (pc := 84) X (lv' := [(0, .ref q2), (1, .ref q), (2, gi t), (3, gi far), (4, gi (x + sLike A t k far)), (5, gi k), (6, gi (sLike A t k far))]) dX0_hear_84 rfl rfl ?_
              refine g_iinc (pc := 86) X (lv' := [(0, .ref q2), (1, .ref q), (2, gi t), (3, gi far), (4, gi (x + sLike A t k far)), (5, gi (k + 1)), (6, gi (sLike A t k far))]) dX0_hear_86 5 rfl rfl rfl ?_
              refine g_goto (pc := 89) X 44 dX0_hear_89 (by decide) ?_
              refine g_lsub X [0, 1, 2, 3, 4, 5] rfl ?_
              exact ih44 _ _ _ (by omega) (by rw [hx, sm_s hk.1]) (fil_s hh (by omega) (by omega) rfl) (by omega)
        exact L44 _ _ _ _ (by omega) rfl fil_0 (Nat.lt_succ_self _)
      · refine g_aload_n (pc := 10) X dX0_hear_10 0 rfl ?_
        refine g_get (pc := 11) X fl_X0_9 dX0_hear_11 0 (v := .ref (a2 0)) rfl rfl ?_
        refine g_iload_n (pc := 14) X dX0_hear_14 2 rfl ?_
        refine g_bipush (pc := 15) X dX0_hear_15 (by decide +kernel) ?_
        refine g_imul (pc := 17) X dX0_hear_17 ?_
        refine g_iload (pc := 18) X dX0_hear_18 4 rfl ?_
        refine g_iadd (pc := 20) X dX0_hear_20 ?_
        refine g_aload_n (pc := 21) X dX0_hear_21 1 rfl ?_
        refine g_iload_n (pc := 22) X dX0_hear_22 2 rfl ?_
        refine g_iload (pc := 23) X dX0_hear_23 4 rfl ?_
        refine g_iload_n (pc := 25) X dX0_hear_25 3 rfl ?_
        refine gc_Si (pc := 26) X (c_X6_together l D cI cZ q a A t i far hA (by omega) (by omega) (by omega)) lm_X0_31 dX0_hear_26 [4, 5, 6, 7] rfl rfl rfl rfl rfl rfl ?_
        refine gc_Nxv (pc := 29) X (wr := [oE q2 a2, gA cI (a2 1) 60 e1, gA cI (a2 2) 10 e2, oF q a (A 0) (A 1) (A 2) (A 3) (A 4), gA cI (a 1) 10 (fun j => A (5 + j)), gA cI (a 2) 10 (fun j => A (15 + j)), gA cI (a 3) 60 (fun j => A (25 + j)), gA cI (a 6) 36 (fun j => A (91 + j))]) (c_X8_lay l D cI cZ (a2 0) 60 g0 (t * 6 + i) (sLoud A t i far) (by omega) rfl) lm_X0_37 dX0_hear_29 [1] [0, 2, 3, 4, 5, 6, 7, 8] rfl rfl rfl rfl (by decide) rfl rfl rfl rfl (fun x29 hx29 => ?_)
        refine g_pick (cn := 0) (sl := 0) (st := []) X (ws' := [oE q2 a2, gA cI (a2 0) 60 (ly 60 g0 (t * 6 + i) (sLoud A t i far)), gA cI (a2 1) 60 e1, gA cI (a2 2) 10 e2, oF q a (A 0) (A 1) (A 2) (A 3) (A 4), gA cI (a 1) 10 (fun j => A (5 + j)), gA cI (a 2) 10 (fun j => A (15 + j)), gA cI (a 3) 60 (fun j => A (25 + j)), gA cI (a 6) 36 (fun j => A (91 + j))]) [0, 8, 1, 2, 3, 4, 5, 6, 7] rfl rfl ?_
        rw [ly_in (n := 60) (f := g0) (i := t * 6 + i) (v := sLoud A t i far) (by omega)]
        refine g_iinc (pc := 32) X (lv' := [(0, .ref q2), (1, .ref q), (2, gi t), (3, gi far), (4, gi (i + 1))]) dX0_hear_32 4 rfl rfl rfl ?_
        refine g_goto (pc := 35) X 3 dX0_hear_35 (by decide) ?_
        exact ih3 _ _ (by omega) (fil_s hg (by omega) (by omega) rfl) (by omega)
  exact L3 _ _ _ (by omega) fil_0 (Nat.lt_succ_self _)

set_option maxHeartbeats 4000000 in
set_option maxRecDepth 100000 in
theorem c_X0_hearAll (l : Launch) (D : va_G) (cI cZ : ClassId) (q2 : Nat) (a2 : Nat → Nat) (e0 : Int → Int) (e1 : Int → Int) (e2 : Int → Int) (q : Nat) (a : Nat → Nat) (A : Int → Int) (hA : okA A) : GM l D cI cZ yX0_hearAll cX0_hearAll 3 none ({ frames := 5, cells := 0, slots := 0, locals := 123 }) 0 0 false [.ref q2, .ref q] [oE q2 a2, gA cI (a2 0) 60 e0, gA cI (a2 1) 60 e1, gA cI (a2 2) 10 e2, oF q a (A 0) (A 1) (A 2) (A 3) (A 4), gA cI (a 1) 10 (fun j => A (5 + j)), gA cI (a 2) 10 (fun j => A (15 + j)), gA cI (a 3) 60 (fun j => A (25 + j)), gA cI (a 6) 36 (fun j => A (91 + j))] (gPxv (fun xo : (Int → Int) × (Int → Int) × (Int → Int) => [oE q2 a2, gA cI (a2 0) 60 xo.1, gA cI (a2 1) 60 xo.2.1, gA cI (a2 2) 10 xo.2.2, oF q a (A 0) (A 1) (A 2) (A 3) (A 4), gA cI (a 1) 10 (fun j => A (5 + j)), gA cI (a 2) 10 (fun j => A (15 + j)), gA cI (a 3) 60 (fun j => A (25 + j)), gA cI (a 6) 36 (fun j => A (91 + j))]) (fun xo : (Int → Int) × (Int → Int) × (Int → Int) => (hrdA A (A 0) xo.1 xo.2.1 xo.2.2))) := by
  refine g_enterV (lv0 := [(0, .ref q2), (1, .ref q)]) (by decide) rfl rfl (fun V X ret => ?_)
  have hA1 := okA_1 hA
  have hA0 := okA_0 hA
  refine g_iconst (pc := 0) X dX0_hearAll_0 ?_
  refine g_istore_n (pc := 1) X (lv' := [(0, .ref q2), (1, .ref q), (2, gi 0)]) dX0_hearAll_1 rfl rfl ?_
  have L2 : ∀ (n2 : Nat) (i : Int) (g0 : Int → Int) (g1 : Int → Int) (g2 : Int → Int), (0 ≤ i ∧ i ≤ A 0) → (hrdA A i g0 g1 g2) → (A 0 - i).toNat < n2 → V 0 0 [oE q2 a2, gA cI (a2 0) 60 g0, gA cI (a2 1) 60 g1, gA cI (a2 2) 10 g2, oF q a (A 0) (A 1) (A 2) (A 3) (A 4), gA cI (a 1) 10 (fun j => A (5 + j)), gA cI (a 2) 10 (fun j => A (15 + j)), gA cI (a 3) 60 (fun j => A (25 + j)), gA cI (a 6) 36 (fun j => A (91 + j))] 2 [(0, .ref q2), (1, .ref q), (2, gi i)] [] := by
    intro n2
    induction n2 with
    | zero => intro i g0 g1 g2 hi hh hn2; exact absurd hn2 (Nat.not_lt_zero _)
    | succ n2 ih2 =>
      intro i g0 g1 g2 hi hh hn2
      refine g_iload_n (pc := 2) X dX0_hearAll_2 2 rfl ?_
      refine g_aload_n (pc := 3) X dX0_hearAll_3 1 rfl ?_
      refine g_get (pc := 4) X fl_X0_21 dX0_hearAll_4 4 (v := gi (A 0)) rfl rfl ?_
      refine g_icmpge (pc := 7) X 23 dX0_hearAll_7 (by decide) (by omega) (by omega) (fun h7 => ?_) (fun h7 => ?_)
      · exact ret _ _ _ _ _ dX0_hearAll_23 rfl rfl (gPxv_e (g0, g1, g2) rfl (by rw [show i = A 0 by omega] at hh; exact hh))
      · refine g_aload_n (pc := 10) X dX0_hearAll_10 0 rfl ?_
        refine g_aload_n (pc := 11) X dX0_hearAll_11 1 rfl ?_
        refine g_iload_n (pc := 12) X dX0_hearAll_12 2 rfl ?_
        refine g_iconst (pc := 13) X dX0_hearAll_13 ?_
        refine gc_Vxv (pc := 14) X (wr := []) (c_X0_hear l D cI cZ q2 a2 g0 g1 g2 q a A i 0 hA (by omega) (by omega)) lm_X0_27 dX0_hearAll_14 [0, 1, 2, 3, 4, 5, 6, 7, 8] [] rfl rfl rfl rfl (by decide) rfl rfl rfl rfl rfl rfl (fun x14 hx14 => ?_)
        obtain ⟨f0_14, f1_14⟩ := x14
        obtain ⟨hg0_14, hg1_14⟩ : (fil (6 * i) 6 6 (fun b => sLoud A i b 0) g0 f0_14) ∧ (fil (6 * i) 6 (A 1) (fun m => sLike A i m 0) g1 f1_14) := hx14
        refine g_pick (cn := 0) (sl := 0) (st := []) X (ws' := [oE q2 a2, gA cI (a2 0) 60 f0_14, gA cI (a2 1) 60 f1_14, gA cI (a2 2) 10 (gupd g2 i (sTot A i 0)), oF q a (A 0) (A 1) (A 2) (A 3) (A 4), gA cI (a 1) 10 (fun j => A (5 + j)), gA cI (a 2) 10 (fun j => A (15 + j)), gA cI (a 3) 60 (fun j => A (25 + j)), gA cI (a 6) 36 (fun j => A (91 + j))]) [0, 1, 2, 3, 4, 5, 6, 7, 8] rfl rfl ?_
        refine g_iinc (pc := 17) X (lv' := [(0, .ref q2), (1, .ref q), (2, gi (i + 1))]) dX0_hearAll_17 2 rfl rfl rfl ?_
        refine g_goto (pc := 20) X 2 dX0_hearAll_20 (by decide) ?_
        exact ih2 _ _ _ _ (by omega) (hrdA_s hi.1 hA1.2 hh hg0_14 hg1_14) (by omega)
  exact L2 _ _ _ _ _ (by omega) (fun t h0 h1 => by omega) (Nat.lt_succ_self _)

set_option maxHeartbeats 4000000 in
set_option maxRecDepth 100000 in
theorem c_X0_bonus (l : Launch) (D : va_G) (cI cZ : ClassId) (q : Nat) (a : Nat → Nat) (A : Int → Int) (l0 : Int) (hA : okA A) (hl : -2147483648 ≤ l0 ∧ l0 < 2147483648) : GM l D cI cZ yX0_bonus cX0_bonus 3 (some .int) ({ frames := 1, cells := 0, slots := 0, locals := 21 }) 0 0 true [.ref q, gi l0] [oF q a (A 0) (A 1) (A 2) (A 3) (A 4), gA cI (a 7) 5 (fun j => A (127 + j))] (gPi (sBon A l0)) := by
  refine g_enterI (z := false) (lv0 := [(0, .ref q), (1, gi l0)]) _ rfl (by decide) rfl rfl (fun V X ret => ?_)
  have hp := okA_pu hA
  refine g_aload_n (pc := 0) X dX0_bonus_0 0 rfl ?_
  refine g_get (pc := 1) X fl_X0_68 dX0_bonus_1 0 (v := .ref (a 7)) rfl rfl ?_
  refine g_iconst (pc := 4) X dX0_bonus_4 ?_
  refine gc_Ni (pc := 5) X (c_X8_look l D cI cZ (a 7) 5 (fun j => A (127 + j)) 1 (by omega) rfl) lm_X0_55 dX0_bonus_5 [1] rfl rfl rfl rfl rfl rfl ?_
  refine g_top (b := A 128) (Eq.trans (lk_in (by omega)) (congrArg A (by omega))) ?_
  refine g_istore_n (pc := 8) X (lv' := [(0, .ref q), (1, gi l0), (2, gi (A 128))]) dX0_bonus_8 rfl rfl ?_
  refine g_iload_n (pc := 9) X dX0_bonus_9 2 rfl ?_
  refine g_iconst (pc := 10) X dX0_bonus_10 ?_
  refine g_icmplt (pc := 11) X 23 dX0_bonus_11 (by decide) (by omega) (by omega) (fun h11 => ?_) (fun h11 => ?_)
  · refine g_iconst (pc := 23) X dX0_bonus_23 ?_
    exact ret _ _ _ _ _ _ dX0_bonus_24 rfl rfl (fun h => by cases h) (gPi_e (by unfold sBon; rw [if_pos (by omega)]))
  · refine g_iload_n (pc := 14) X dX0_bonus_14 1 rfl ?_
    refine g_iflt (pc := 15) X 23 dX0_bonus_15 (by decide) (by omega) (fun h15 => ?_) (fun h15 => ?_)
    · refine g_iconst (pc := 23) X dX0_bonus_23 ?_
      exact ret _ _ _ _ _ _ dX0_bonus_24 rfl rfl (fun h => by cases h) (gPi_e (by unfold sBon; rw [if_pos (by omega)]))
    · refine g_iload_n (pc := 18) X dX0_bonus_18 1 rfl ?_
      refine g_iload_n (pc := 19) X dX0_bonus_19 2 rfl ?_
      refine g_icmplt (pc := 20) X 25 dX0_bonus_20 (by decide) (by omega) (by omega) (fun h20 => ?_) (fun h20 => ?_)
      · refine g_aload_n (pc := 25) X dX0_bonus_25 0 rfl ?_
        refine g_get (pc := 26) X fl_X0_68 dX0_bonus_26 0 (v := .ref (a 7)) rfl rfl ?_
        refine g_iconst (pc := 29) X dX0_bonus_29 ?_
        refine gc_Ni (pc := 30) X (c_X8_look l D cI cZ (a 7) 5 (fun j => A (127 + j)) 0 (by omega) rfl) lm_X0_55 dX0_bonus_30 [1] rfl rfl rfl rfl rfl rfl ?_
        refine g_top (b := A 127) (Eq.trans (lk_in (by omega)) (congrArg A (by omega))) ?_
        refine g_iload_n (pc := 33) X dX0_bonus_33 2 rfl ?_
        refine g_iload_n (pc := 34) X dX0_bonus_34 1 rfl ?_
        refine g_isub (pc := 35) X dX0_bonus_35 ?_
        have hm := sBon_m hA (l := l0) (by omega)
        refine g_imul (pc := 36) X dX0_bonus_36 ?_
        refine g_iload_n (pc := 37) X dX0_bonus_37 2 rfl ?_
        refine g_idiv (pc := 38) X dX0_bonus_38 (by omega) (by omega) ?_
        exact ret _ _ _ _ _ _ dX0_bonus_39 rfl rfl (fun h => by cases h) (gPi_e (by unfold sBon; rw [if_neg (by omega)]))
      · refine g_iconst (pc := 23) X dX0_bonus_23 ?_
        exact ret _ _ _ _ _ _ dX0_bonus_24 rfl rfl (fun h => by cases h) (gPi_e (by unfold sBon; rw [if_pos (by omega)]))
