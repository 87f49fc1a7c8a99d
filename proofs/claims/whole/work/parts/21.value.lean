/-! VALUE and LOUD, on both sides -/
set_option maxHeartbeats 4000000 in
set_option maxRecDepth 100000 in
theorem c_X6_fading (l : Launch) (D : va_G) (cI cZ : ClassId) (v : Int) (d : Int) (n : Int) (hv : 0 ≤ v ∧ v ≤ 99) (hd : 0 ≤ d ∧ d ≤ 9) (hn : 0 ≤ n ∧ n ≤ 7) : GM l D cI cZ yX6_fading cX6_fading 5 (some .int) ({ frames := 0, cells := 0, slots := 0, locals := 0 }) 0 0 true [gi v, gi d, gi n] [] (gPi (fade v d n)) := by
  refine g_enterI (z := false) (lv0 := [(0, gi v), (1, gi d), (2, gi n)]) _ rfl (by decide) rfl rfl (fun V X ret => ?_)
  refine g_iload_n (pc := 0) X dX6_fading_0 0 rfl ?_
  refine g_istore_n (pc := 1) X (lv' := [(0, gi v), (1, gi d), (2, gi n), (3, gi v)]) dX6_fading_1 rfl rfl ?_
  refine g_iconst (pc := 2) X dX6_fading_2 ?_
  refine g_istore (pc := 3) X (lv' := [(0, gi v), (1, gi d), (2, gi n), (3, gi v), (4, gi 0)]) dX6_fading_3 rfl rfl ?_
  have L5 : ∀ (n5 : Nat) (x : Int) (i : Int), (0 ≤ i ∧ i ≤ n) → (x = fade v d i) → (n - i).toNat < n5 → V 0 0 [] 5 [(0, gi v), (1, gi d), (2, gi n), (3, gi x), (4, gi i)] [] := by
    intro n5
    induction n5 with
    | zero => intro x i hi hx hn5; exact absurd hn5 (Nat.not_lt_zero _)
    | succ n5 ih5 =>
      intro x i hi hx hn5
      have hb := fade_b hv hd hi.1
      rw [← hx] at hb
      have hq := mulb (a := x) (b := 10 - d) (A := 99) (B := 10) hb (by omega)
      refine g_iload (pc := 5) X dX6_fading_5 4 rfl ?_
      refine g_iload_n (pc := 7) X dX6_fading_7 2 rfl ?_
      refine g_icmpge (pc := 8) X 27 dX6_fading_8 (by decide) (by omega) (by omega) (fun h8 => ?_) (fun h8 => ?_)
      · refine g_iload_n (pc := 27) X dX6_fading_27 3 rfl ?_
        exact ret _ _ _ _ _ _ dX6_fading_28 rfl rfl (fun h => by cases h) (gPi_e (by rw [hx, show i = n by omega]))
      · refine g_iload_n (pc := 11) X dX6_fading_11 3 rfl ?_
        refine g_bipush (pc := 12) X dX6_fading_12 (by decide +kernel) ?_
        refine g_iload_n (pc := 14) X dX6_fading_14 1 rfl ?_
        refine g_isub (pc := 15) X dX6_fading_15 ?_
        refine g_imul (pc := 16) X dX6_fading_16 ?_
        refine g_bipush (pc := 17) X dX6_fading_17 (by decide +kernel) ?_
        refine g_idiv (pc := 19) X dX6_fading_19 (by omega) (by omega) ?_
        refine g_istore_n (pc := 20) X (lv' := [(0, gi v), (1, gi d), (2, gi n), (3, gi (x * (10 - d) / 10)), (4, gi i)]) dX6_fading_20 rfl rfl ?_
        refine g_iinc (pc := 21) X (lv' := [(0, gi v), (1, gi d), (2, gi n), (3, gi (x * (10 - d) / 10)), (4, gi (i + 1))]) dX6_fading_21 4 rfl rfl rfl ?_
        refine g_goto (pc := 24) X 5 dX6_fading_24 (by decide) ?_
        exact ih5 _ _ (by omega) (by rw [hx]; exact (fade_s hi.1).symm) (by omega)
  exact L5 _ _ _ (by omega) rfl (Nat.lt_succ_self _)

set_option maxHeartbeats 4000000 in
set_option maxRecDepth 100000 in
theorem c_X6_ofClass (l : Launch) (D : va_G) (cI cZ : ClassId) (k : Int) (v : Int) (b : Int) (n : Int) (hk : 0 ≤ k ∧ k ≤ 4) (hv : 0 ≤ v ∧ v ≤ 99) (hb : 0 ≤ b ∧ b < 6) (hn : 0 ≤ n ∧ n < 8) : GM l D cI cZ yX6_ofClass cX6_ofClass 4 (some .int) ({ frames := 1, cells := 0, slots := 0, locals := 21 }) 0 0 true [gi k, gi v, gi b, gi n] [] (gPi (sOf k v b n)) := by
  refine g_enterI (z := false) (lv0 := [(0, gi k), (1, gi v), (2, gi b), (3, gi n)]) _ rfl (by decide) rfl rfl (fun V X ret => ?_)
  have hm := mulb (a := b) (b := v) (A := 5) (B := 99) (by omega) hv
  refine g_iload_n (pc := 0) X dX6_ofClass_0 0 rfl ?_
  rcases (show k = 1 ∨ k = 2 ∨ k = 3 ∨ k = 4 ∨ (k < 1 ∨ 4 < k) by omega) with h1 | h1 | h1 | h1 | h1
  · refine g_tableIn (pc := 1) X 32 dX6_ofClass_1 (by omega) (by omega) (off := 31) (by rw [h1]; rfl) (by decide) ?_
    refine g_bipush (pc := 32) X dX6_ofClass_32 (by decide +kernel) ?_
    refine g_iload_n (pc := 34) X dX6_ofClass_34 1 rfl ?_
    refine g_iconst (pc := 35) X dX6_ofClass_35 ?_
    refine g_iload_n (pc := 36) X dX6_ofClass_36 3 rfl ?_
    refine g_iconst (pc := 37) X dX6_ofClass_37 ?_
    refine g_irem (pc := 38) X dX6_ofClass_38 (by omega) (by omega) ?_
    refine g_imul (pc := 39) X dX6_ofClass_39 ?_
    refine g_iadd (pc := 40) X dX6_ofClass_40 ?_
    refine g_min (pc := 41) X lm_X6_41 dX6_ofClass_41 (by omega) (by omega) rfl ?_
    exact ret _ _ _ _ _ _ dX6_ofClass_44 rfl rfl (fun h => by cases h) (gPi_e (by unfold sOf; rw [if_pos (by omega)]))
  · refine g_tableIn (pc := 1) X 32 dX6_ofClass_1 (by omega) (by omega) (off := 31) (by rw [h1]; rfl) (by decide) ?_
    refine g_bipush (pc := 32) X dX6_ofClass_32 (by decide +kernel) ?_
    refine g_iload_n (pc := 34) X dX6_ofClass_34 1 rfl ?_
    refine g_iconst (pc := 35) X dX6_ofClass_35 ?_
    refine g_iload_n (pc := 36) X dX6_ofClass_36 3 rfl ?_
    refine g_iconst (pc := 37) X dX6_ofClass_37 ?_
    refine g_irem (pc := 38) X dX6_ofClass_38 (by omega) (by omega) ?_
    refine g_imul (pc := 39) X dX6_ofClass_39 ?_
    refine g_iadd (pc := 40) X dX6_ofClass_40 ?_
    refine g_min (pc := 41) X lm_X6_41 dX6_ofClass_41 (by omega) (by omega) rfl ?_
    exact ret _ _ _ _ _ _ dX6_ofClass_44 rfl rfl (fun h => by cases h) (gPi_e (by unfold sOf; rw [if_pos (by omega)]))
  · refine g_tableIn (pc := 1) X 45 dX6_ofClass_1 (by omega) (by omega) (off := 44) (by rw [h1]; rfl) (by decide) ?_
    refine g_bipush (pc := 45) X dX6_ofClass_45 (by decide +kernel) ?_
    refine g_iconst (pc := 47) X dX6_ofClass_47 ?_
    refine g_iload_n (pc := 48) X dX6_ofClass_48 1 rfl ?_
    refine g_imul (pc := 49) X dX6_ofClass_49 ?_
    refine g_min (pc := 50) X lm_X6_41 dX6_ofClass_50 (by omega) (by omega) rfl ?_
    exact ret _ _ _ _ _ _ dX6_ofClass_53 rfl rfl (fun h => by cases h) (gPi_e (by unfold sOf; rw [if_neg (by omega), if_pos (by omega)]))
  · refine g_tableIn (pc := 1) X 54 dX6_ofClass_1 (by omega) (by omega) (off := 53) (by rw [h1]; rfl) (by decide) ?_
    refine g_iload_n (pc := 54) X dX6_ofClass_54 1 rfl ?_
    refine g_iload_n (pc := 55) X dX6_ofClass_55 2 rfl ?_
    refine g_iload_n (pc := 56) X dX6_ofClass_56 1 rfl ?_
    refine g_imul (pc := 57) X dX6_ofClass_57 ?_
    refine g_bipush (pc := 58) X dX6_ofClass_58 (by decide +kernel) ?_
    refine g_idiv (pc := 60) X dX6_ofClass_60 (by omega) (by omega) ?_
    refine g_isub (pc := 61) X dX6_ofClass_61 ?_
    exact ret _ _ _ _ _ _ dX6_ofClass_62 rfl rfl (fun h => by cases h) (gPi_e (by unfold sOf; rw [if_neg (by omega), if_neg (by omega), if_pos (by omega)]))
  · refine g_tableOut (pc := 1) X 63 dX6_ofClass_1 (by omega) (by omega) (by decide) ?_
    refine g_iload_n (pc := 63) X dX6_ofClass_63 1 rfl ?_
    exact ret _ _ _ _ _ _ dX6_ofClass_64 rfl rfl (fun h => by cases h) (gPi_e (by unfold sOf; rw [if_neg (by omega), if_neg (by omega), if_neg (by omega)]))

set_option maxHeartbeats 4000000 in
set_option maxRecDepth 100000 in
theorem c_X6_heard (l : Launch) (D : va_G) (cI cZ : ClassId) (q : Nat) (a : Nat → Nat) (A : Int → Int) (t : Int) (b : Int) (n : Int) (far : Int) (hA : okA A) (ht : 0 ≤ t ∧ t < 10) (hb : 0 ≤ b ∧ b < 6) (hn : 0 ≤ n ∧ n < 8) (hf : 0 ≤ far ∧ far ≤ 9) : GM l D cI cZ yX6_heard cX6_heard 9 (some .int) ({ frames := 2, cells := 0, slots := 0, locals := 44 }) 0 0 true [.ref q, gi t, gi b, gi n, gi far] [oF q a (A 0) (A 1) (A 2) (A 3) (A 4), gA cI (a 1) 10 (fun j => A (5 + j)), gA cI (a 2) 10 (fun j => A (15 + j)), gA cI (a 3) 60 (fun j => A (25 + j))] (gPi (sVal A t b n far)) := by
  refine g_enterI (z := false) (lv0 := [(0, .ref q), (1, gi t), (2, gi b), (3, gi n), (4, gi far)]) _ rfl (by decide) rfl rfl (fun V X ret => ?_)
  have hk := okA_cl hA ht
  have hfa := okA_fa hA ht
  have hle := okA_le hA (j := 6 * t + b) (by omega)
  rw [show 25 + (6 * t + b) = 25 + 6 * t + b by omega] at hle
  have hm := mulb (a := far) (b := b + 1) (A := 9) (B := 6) hf (by omega)
  refine g_aload_n (pc := 0) X dX6_heard_0 0 rfl ?_
  refine g_get (pc := 1) X fl_X6_9 dX6_heard_1 0 (v := .ref (a 1)) rfl rfl ?_
  refine g_iload_n (pc := 4) X dX6_heard_4 1 rfl ?_
  refine gc_Ni (pc := 5) X (c_X8_look l D cI cZ (a 1) 10 (fun j => A (5 + j)) t (by omega) rfl) lm_X6_15 dX6_heard_5 [1] rfl rfl rfl rfl rfl rfl ?_
  refine g_top (b := A (5 + t)) (lk_in (by omega)) ?_
  refine g_istore (pc := 8) X (lv' := [(0, .ref q), (1, gi t), (2, gi b), (3, gi n), (4, gi far), (5, gi (A (5 + t)))]) dX6_heard_8 rfl rfl ?_
  refine g_iload (pc := 10) X dX6_heard_10 5 rfl ?_
  refine g_iconst (pc := 12) X dX6_heard_12 ?_
  refine g_icmpne (pc := 13) X 23 dX6_heard_13 (by decide) (by omega) (by omega) (fun h13 => ?_) (fun h13 => ?_)
  · refine g_iload_n (pc := 23) X dX6_heard_23 3 rfl ?_
    refine g_istore (pc := 24) X (lv' := [(0, .ref q), (1, gi t), (2, gi b), (3, gi n), (4, gi far), (5, gi (A (5 + t))), (6, gi n)]) dX6_heard_24 rfl rfl ?_
    refine g_aload_n (pc := 26) X dX6_heard_26 0 rfl ?_
    refine g_get (pc := 27) X fl_X6_21 dX6_heard_27 0 (v := .ref (a 3)) rfl rfl ?_
    refine g_iload_n (pc := 30) X dX6_heard_30 1 rfl ?_
    refine g_bipush (pc := 31) X dX6_heard_31 (by decide +kernel) ?_
    refine g_imul (pc := 33) X dX6_heard_33 ?_
    refine g_iload_n (pc := 34) X dX6_heard_34 2 rfl ?_
    refine g_iadd (pc := 35) X dX6_heard_35 ?_
    refine gc_Ni (pc := 36) X (c_X8_look l D cI cZ (a 3) 60 (fun j => A (25 + j)) (t * 6 + b) (by omega) rfl) lm_X6_15 dX6_heard_36 [3] rfl rfl rfl rfl rfl rfl ?_
    refine g_top (b := A (25 + 6 * t + b)) (Eq.trans (lk_in (by omega)) (congrArg A (by omega))) ?_
    refine g_istore (pc := 39) X (lv' := [(0, .ref q), (1, gi t), (2, gi b), (3, gi n), (4, gi far), (5, gi (A (5 + t))), (6, gi n), (7, gi (A (25 + 6 * t + b)))]) dX6_heard_39 rfl rfl ?_
    refine g_iload (pc := 41) X dX6_heard_41 7 rfl ?_
    refine g_aload_n (pc := 43) X dX6_heard_43 0 rfl ?_
    refine g_get (pc := 44) X fl_X6_24 dX6_heard_44 0 (v := .ref (a 2)) rfl rfl ?_
    refine g_iload_n (pc := 47) X dX6_heard_47 1 rfl ?_
    refine gc_Ni (pc := 48) X (c_X8_look l D cI cZ (a 2) 10 (fun j => A (15 + j)) t (by omega) rfl) lm_X6_15 dX6_heard_48 [2] rfl rfl rfl rfl rfl rfl ?_
    refine g_top (b := A (15 + t)) (lk_in (by omega)) ?_
    refine g_iload (pc := 51) X dX6_heard_51 6 rfl ?_
    refine gc_Si (pc := 53) X (c_X6_fading l D cI cZ (A (25 + 6 * t + b)) (A (15 + t)) n (by omega) (by omega) (by omega)) lm_X6_27 dX6_heard_53 [] rfl rfl rfl rfl rfl rfl ?_
    have hfb := fade_b (n := n) hle hfa (by omega)
    refine g_istore (pc := 56) X (lv' := [(0, .ref q), (1, gi t), (2, gi b), (3, gi n), (4, gi far), (5, gi (A (5 + t))), (6, gi n), (7, gi (A (25 + 6 * t + b))), (8, gi (fade (A (25 + 6 * t + b)) (A (15 + t)) n))]) dX6_heard_56 rfl rfl ?_
    refine g_iconst (pc := 58) X dX6_heard_58 ?_
    refine g_iload (pc := 59) X dX6_heard_59 5 rfl ?_
    refine g_iload (pc := 61) X dX6_heard_61 8 rfl ?_
    refine g_iload_n (pc := 63) X dX6_heard_63 2 rfl ?_
    refine g_iload (pc := 64) X dX6_heard_64 6 rfl ?_
    refine gc_Si (pc := 66) X (c_X6_ofClass l D cI cZ (A (5 + t)) (fade (A (25 + 6 * t + b)) (A (15 + t)) n) b n (by omega) (by omega) (by omega) (by omega)) lm_X6_31 dX6_heard_66 [] rfl rfl rfl rfl rfl rfl ?_
    refine g_iload (pc := 69) X dX6_heard_69 4 rfl ?_
    refine g_iload_n (pc := 71) X dX6_heard_71 2 rfl ?_
    refine g_iconst (pc := 72) X dX6_heard_72 ?_
    refine g_iadd (pc := 73) X dX6_heard_73 ?_
    refine g_imul (pc := 74) X dX6_heard_74 ?_
    refine g_isub (pc := 75) X dX6_heard_75 ?_
    have hob : -100 ≤ sOf (A (5 + t)) (fade (A (25 + 6 * t + b)) (A (15 + t)) n) b n ∧ sOf (A (5 + t)) (fade (A (25 + 6 * t + b)) (A (15 + t)) n) b n ≤ 100 := by
      have q5 := mulb (a := b) (b := fade (A (25 + 6 * t + b)) (A (15 + t)) n) (A := 5) (B := 99) (by omega) hfb
      have q6 : b * (fade (A (25 + 6 * t + b)) (A (15 + t)) n) ≤ 5 * (fade (A (25 + 6 * t + b)) (A (15 + t)) n) := Int.mul_le_mul_of_nonneg_right (by omega) hfb.1
      unfold sOf gmin; repeat' split
      all_goals omega
    refine g_max (pc := 76) X lm_X6_35 dX6_heard_76 (by omega) (by omega) rfl ?_
    exact ret _ _ _ _ _ _ dX6_heard_79 rfl rfl (fun h => by cases h) (gPi_e (sVal_n hk h13))
  · refine g_bipush (pc := 16) X dX6_heard_16 (by decide +kernel) ?_
    refine g_iload_n (pc := 18) X dX6_heard_18 3 rfl ?_
    refine g_isub (pc := 19) X dX6_heard_19 ?_
    refine g_goto (pc := 20) X 24 dX6_heard_20 (by decide) ?_
    refine g_istore (pc := 24) X (lv' := [(0, .ref q), (1, gi t), (2, gi b), (3, gi n), (4, gi far), (5, gi (A (5 + t))), (6, gi (7 - n))]) dX6_heard_24 rfl rfl ?_
    refine g_aload_n (pc := 26) X dX6_heard_26 0 rfl ?_
    refine g_get (pc := 27) X fl_X6_21 dX6_heard_27 0 (v := .ref (a 3)) rfl rfl ?_
    refine g_iload_n (pc := 30) X dX6_heard_30 1 rfl ?_
    refine g_bipush (pc := 31) X dX6_heard_31 (by decide +kernel) ?_
    refine g_imul (pc := 33) X dX6_heard_33 ?_
    refine g_iload_n (pc := 34) X dX6_heard_34 2 rfl ?_
    refine g_iadd (pc := 35) X dX6_heard_35 ?_
    refine gc_Ni (pc := 36) X (c_X8_look l D cI cZ (a 3) 60 (fun j => A (25 + j)) (t * 6 + b) (by omega) rfl) lm_X6_15 dX6_heard_36 [3] rfl rfl rfl rfl rfl rfl ?_
    refine g_top (b := A (25 + 6 * t + b)) (Eq.trans (lk_in (by omega)) (congrArg A (by omega))) ?_
    refine g_istore (pc := 39) X (lv' := [(0, .ref q), (1, gi t), (2, gi b), (3, gi n), (4, gi far), (5, gi (A (5 + t))), (6, gi (7 - n)), (7, gi (A (25 + 6 * t + b)))]) dX6_heard_39 rfl rfl ?_
    refine g_iload (pc := 41) X dX6_heard_41 7 rfl ?_
    refine g_aload_n (pc := 43) X dX6_heard_43 0 rfl ?_
    refine g_get (pc := 44) X fl_X6_24 dX6_heard_44 0 (v := .ref (a 2)) rfl rfl ?_
    refine g_iload_n (pc := 47) X dX6_heard_47 1 rfl ?_
    refine gc_Ni (pc := 48) X (c_X8_look l D cI cZ (a 2) 10 (fun j => A (15 + j)) t (by omega) rfl) lm_X6_15 dX6_heard_48 [2] rfl rfl rfl rfl rfl rfl ?_
    refine g_top (b := A (15 + t)) (lk_in (by omega)) ?_
    refine g_iload (pc := 51) X dX6_heard_51 6 rfl ?_
    refine gc_Si (pc := 53) X (c_X6_fading l D cI cZ (A (25 + 6 * t + b)) (A (15 + t)) (7 - n) (by omega) (by omega) (by omega)) lm_X6_27 dX6_heard_53 [] rfl rfl rfl rfl rfl rfl ?_
    have hfb := fade_b (n := 7 - n) hle hfa (by omega)
    refine g_istore (pc := 56) X (lv' := [(0, .ref q), (1, gi t), (2, gi b), (3, gi n), (4, gi far), (5, gi (A (5 + t))), (6, gi (7 - n)), (7, gi (A (25 + 6 * t + b))), (8, gi (fade (A (25 + 6 * t + b)) (A (15 + t)) (7 - n)))]) dX6_heard_56 rfl rfl ?_
    refine g_iconst (pc := 58) X dX6_heard_58 ?_
    refine g_iload (pc := 59) X dX6_heard_59 5 rfl ?_
    refine g_iload (pc := 61) X dX6_heard_61 8 rfl ?_
    refine g_iload_n (pc := 63) X dX6_heard_63 2 rfl ?_
    refine g_iload (pc := 64) X dX6_heard_64 6 rfl ?_
    refine gc_Si (pc := 66) X (c_X6_ofClass l D cI cZ (A (5 + t)) (fade (A (25 + 6 * t + b)) (A (15 + t)) (7 - n)) b (7 - n) (by omega) (by omega) (by omega) (by omega)) lm_X6_31 dX6_heard_66 [] rfl rfl rfl rfl rfl rfl ?_
    refine g_iload (pc := 69) X dX6_heard_69 4 rfl ?_
    refine g_iload_n (pc := 71) X dX6_heard_71 2 rfl ?_
    refine g_iconst (pc := 72) X dX6_heard_72 ?_
    refine g_iadd (pc := 73) X dX6_heard_73 ?_
    refine g_imul (pc := 74) X dX6_heard_74 ?_
    refine g_isub (pc := 75) X dX6_heard_75 ?_
    have hob : -100 ≤ sOf (A (5 + t)) (fade (A (25 + 6 * t + b)) (A (15 + t)) (7 - n)) b (7 - n) ∧ sOf (A (5 + t)) (fade (A (25 + 6 * t + b)) (A (15 + t)) (7 - n)) b (7 - n) ≤ 100 := by
      have q5 := mulb (a := b) (b := fade (A (25 + 6 * t + b)) (A (15 + t)) (7 - n)) (A := 5) (B := 99) (by omega) hfb
      have q6 : b * (fade (A (25 + 6 * t + b)) (A (15 + t)) (7 - n)) ≤ 5 * (fade (A (25 + 6 * t + b)) (A (15 + t)) (7 - n)) := Int.mul_le_mul_of_nonneg_right (by omega) hfb.1
      unfold sOf gmin; repeat' split
      all_goals omega
    refine g_max (pc := 76) X lm_X6_35 dX6_heard_76 (by omega) (by omega) rfl ?_
    exact ret _ _ _ _ _ _ dX6_heard_79 rfl rfl (fun h => by cases h) (gPi_e (sVal_2 h13))

set_option maxHeartbeats 4000000 in
set_option maxRecDepth 100000 in
theorem c_X6_together (l : Launch) (D : va_G) (cI cZ : ClassId) (q : Nat) (a : Nat → Nat) (A : Int → Int) (t : Int) (b : Int) (far : Int) (hA : okA A) (ht : 0 ≤ t ∧ t < 10) (hb : 0 ≤ b ∧ b < 6) (hf : 0 ≤ far ∧ far ≤ 9) : GM l D cI cZ yX6_together cX6_together 6 (some .int) ({ frames := 3, cells := 0, slots := 0, locals := 72 }) 0 0 true [.ref q, gi t, gi b, gi far] [oF q a (A 0) (A 1) (A 2) (A 3) (A 4), gA cI (a 1) 10 (fun j => A (5 + j)), gA cI (a 2) 10 (fun j => A (15 + j)), gA cI (a 3) 60 (fun j => A (25 + j))] (gPi (sLoud A t b far)) := by
  refine g_enterI (z := false) (lv0 := [(0, .ref q), (1, gi t), (2, gi b), (3, gi far)]) _ rfl (by decide) rfl rfl (fun V X ret => ?_)
  refine g_iconst (pc := 0) X dX6_together_0 ?_
  refine g_istore (pc := 1) X (lv' := [(0, .ref q), (1, gi t), (2, gi b), (3, gi far), (4, gi 0)]) dX6_together_1 rfl rfl ?_
  refine g_iconst (pc := 3) X dX6_together_3 ?_
  refine g_istore (pc := 4) X (lv' := [(0, .ref q), (1, gi t), (2, gi b), (3, gi far), (4, gi 0), (5, gi 0)]) dX6_together_4 rfl rfl ?_
  have L6 : ∀ (n6 : Nat) (x : Int) (i : Int), (0 ≤ i ∧ i ≤ 8) → (x = sm (fun n => sVal A t b n far) i) → (8 - i).toNat < n6 → V 0 0 [oF q a (A 0) (A 1) (A 2) (A 3) (A 4), gA cI (a 1) 10 (fun j => A (5 + j)), gA cI (a 2) 10 (fun j => A (15 + j)), gA cI (a 3) 60 (fun j => A (25 + j))] 6 [(0, .ref q), (1, gi t), (2, gi b), (3, gi far), (4, gi x), (5, gi i)] [] := by
    intro n6
    induction n6 with
    | zero => intro x i hi hx hn6; exact absurd hn6 (Nat.not_lt_zero _)
    | succ n6 ih6 =>
      intro x i hi hx hn6
      refine g_iload (pc := 6) X dX6_together_6 5 rfl ?_
      refine g_bipush (pc := 8) X dX6_together_8 (by decide +kernel) ?_
      refine g_icmpge (pc := 10) X 33 dX6_together_10 (by decide) (by omega) (by omega) (fun h10 => ?_) (fun h10 => ?_)
      · refine g_iload (pc := 33) X dX6_together_33 4 rfl ?_
        exact ret _ _ _ _ _ _ dX6_together_35 rfl rfl (fun h => by cases h) (gPi_e (by rw [hx, show i = 8 by omega]; rfl))
      · refine g_iload (pc := 13) X dX6_together_13 4 rfl ?_
        refine g_aload_n (pc := 15) X dX6_together_15 0 rfl ?_
        refine g_iload_n (pc := 16) X dX6_together_16 1 rfl ?_
        refine g_iload_n (pc := 17) X dX6_together_17 2 rfl ?_
        refine g_iload (pc := 18) X dX6_together_18 5 rfl ?_
        refine g_iload_n (pc := 20) X dX6_together_20 3 rfl ?_
        refine gc_Si (pc := 21) X (c_X6_heard l D cI cZ q a A t b i far hA (by omega) (by omega) (by omega) (by omega)) lm_X6_44 dX6_together_21 [0, 1, 2, 3] rfl rfl rfl rfl rfl rfl ?_
        refine g_iadd (pc := 24) X dX6_together_24 ?_
        refine g_istore (pc := 25) X (lv' := [(0, .ref q), (1, gi t), (2, gi b), (3, gi far), (4, gi (x + sVal A t b i far)), (5, gi i)]) dX6_together_25 rfl rfl ?_
        refine g_iinc (pc := 27) X (lv' := [(0, .ref q), (1, gi t), (2, gi b), (3, gi far), (4, gi (x + sVal A t b i far)), (5, gi (i + 1))]) dX6_together_27 5 rfl rfl rfl ?_
        refine g_goto (pc := 30) X 6 dX6_together_30 (by decide) ?_
        exact ih6 _ _ (by omega) (by rw [hx, sm_s hi.1]) (by omega)
  exact L6 _ _ _ (by omega) rfl (Nat.lt_succ_self _)

set_option maxHeartbeats 4000000 in
set_option maxRecDepth 100000 in
theorem c_X9_trueOf (l : Launch) (D : va_G) (cI cZ : ClassId) (q : Nat) (a : Nat → Nat) (al : Int) (at_ : Int) (st : Int) (so : Int) (va : Int) (fa : Int) (pl : Int) (sg : Int) (su : Int) (A : Int → Int) (t : Int) (b : Int) (n : Int) (hA : okA A) (ht : 0 ≤ t ∧ t < 10) (hb : 0 ≤ b ∧ b < 6) (hn : 0 ≤ n ∧ n ≤ 7) : GM l D cI cZ yX9_trueOf cX9_trueOf 6 (some .int) ({ frames := 0, cells := 0, slots := 0, locals := 0 }) 0 0 true [.ref q, gi t, gi b, gi n] [oM q a al at_ st so va fa pl sg su, gA cI (a 0) 1140 A] (gPi (sTrue A t b n)) := by
  refine g_enterI (z := false) (lv0 := [(0, .ref q), (1, gi t), (2, gi b), (3, gi n)]) _ rfl (by decide) rfl rfl (fun V X ret => ?_)
  have hfa := okA_fa hA ht
  have hle := okA_le hA (j := 6 * t + b) (by omega)
  rw [show 25 + (6 * t + b) = 25 + 6 * t + b by omega] at hle
  refine g_aload_n (pc := 0) X dX9_trueOf_0 0 rfl ?_
  refine g_get (pc := 1) X fl_X9_7 dX9_trueOf_1 0 (v := .ref (a 0)) rfl rfl ?_
  refine g_bipush (pc := 4) X dX9_trueOf_4 (by decide +kernel) ?_
  refine g_bipush (pc := 6) X dX9_trueOf_6 (by decide +kernel) ?_
  refine g_iload_n (pc := 8) X dX9_trueOf_8 1 rfl ?_
  refine g_imul (pc := 9) X dX9_trueOf_9 ?_
  refine g_iadd (pc := 10) X dX9_trueOf_10 ?_
  refine g_iload_n (pc := 11) X dX9_trueOf_11 2 rfl ?_
  refine g_iadd (pc := 12) X dX9_trueOf_12 ?_
  refine g_iald (pc := 13) X dX9_trueOf_13 1 rfl (by omega) rfl ?_
  refine g_istore (pc := 14) X (lv' := [(0, .ref q), (1, gi t), (2, gi b), (3, gi n), (4, gi (A (25 + 6 * t + b)))]) dX9_trueOf_14 rfl rfl ?_
  refine g_iconst (pc := 16) X dX9_trueOf_16 ?_
  refine g_istore (pc := 17) X (lv' := [(0, .ref q), (1, gi t), (2, gi b), (3, gi n), (4, gi (A (25 + 6 * t + b))), (5, gi 0)]) dX9_trueOf_17 rfl rfl ?_
  have L19 : ∀ (n19 : Nat) (x : Int) (i : Int), (0 ≤ i ∧ i ≤ n) → (x = fade (A (25 + 6 * t + b)) (A (15 + t)) i) → (n - i).toNat < n19 → V 0 0 [oM q a al at_ st so va fa pl sg su, gA cI (a 0) 1140 A] 19 [(0, .ref q), (1, gi t), (2, gi b), (3, gi n), (4, gi x), (5, gi i)] [] := by
    intro n19
    induction n19 with
    | zero => intro x i hi hx hn19; exact absurd hn19 (Nat.not_lt_zero _)
    | succ n19 ih19 =>
      intro x i hi hx hn19
      have hbb := fade_b hle hfa hi.1
      rw [← hx] at hbb
      have hq := mulb (a := x) (b := 10 - A (15 + t)) (A := 99) (B := 10) hbb (by omega)
      refine g_iload (pc := 19) X dX9_trueOf_19 5 rfl ?_
      refine g_iload_n (pc := 21) X dX9_trueOf_21 3 rfl ?_
      refine g_icmpge (pc := 22) X 51 dX9_trueOf_22 (by decide) (by omega) (by omega) (fun h22 => ?_) (fun h22 => ?_)
      · refine g_iload (pc := 51) X dX9_trueOf_51 4 rfl ?_
        exact ret _ _ _ _ _ _ dX9_trueOf_53 rfl rfl (fun h => by cases h) (gPi_e (by rw [hx, show i = n by omega]; rfl))
      · refine g_iload (pc := 25) X dX9_trueOf_25 4 rfl ?_
        refine g_bipush (pc := 27) X dX9_trueOf_27 (by decide +kernel) ?_
        refine g_aload_n (pc := 29) X dX9_trueOf_29 0 rfl ?_
        refine g_get (pc := 30) X fl_X9_7 dX9_trueOf_30 0 (v := .ref (a 0)) rfl rfl ?_
        refine g_bipush (pc := 33) X dX9_trueOf_33 (by decide +kernel) ?_
        refine g_iload_n (pc := 35) X dX9_trueOf_35 1 rfl ?_
        refine g_iadd (pc := 36) X dX9_trueOf_36 ?_
        refine g_iald (pc := 37) X dX9_trueOf_37 1 rfl (by omega) rfl ?_
        refine g_isub (pc := 38) X dX9_trueOf_38 ?_
        refine g_imul (pc := 39) X dX9_trueOf_39 ?_
        refine g_bipush (pc := 40) X dX9_trueOf_40 (by decide +kernel) ?_
        refine g_idiv (pc := 42) X dX9_trueOf_42 (by omega) (by omega) ?_
        refine g_istore (pc := 43) X (lv' := [(0, .ref q), (1, gi t), (2, gi b), (3, gi n), (4, gi (x * (10 - A (15 + t)) / 10)), (5, gi i)]) dX9_trueOf_43 rfl rfl ?_
        refine g_iinc (pc := 45) X (lv' := [(0, .ref q), (1, gi t), (2, gi b), (3, gi n), (4, gi (x * (10 - A (15 + t)) / 10)), (5, gi (i + 1))]) dX9_trueOf_45 5 rfl rfl rfl ?_
        refine g_goto (pc := 48) X 19 dX9_trueOf_48 (by decide) ?_
        exact ih19 _ _ (by omega) (by rw [hx]; exact (fade_s hi.1).symm) (by omega)
  exact L19 _ _ _ (by omega) rfl (Nat.lt_succ_self _)

set_option maxHeartbeats 4000000 in
set_option maxRecDepth 100000 in
theorem c_X9_stoodOf (l : Launch) (D : va_G) (cI cZ : ClassId) (q : Nat) (a : Nat → Nat) (al : Int) (at_ : Int) (st : Int) (so : Int) (va : Int) (fa : Int) (pl : Int) (sg : Int) (su : Int) (A : Int → Int) (t : Int) (b : Int) (n : Int) (hA : okA A) (ht : 0 ≤ t ∧ t < 10) (hb : 0 ≤ b ∧ b < 6) (hn : 0 ≤ n ∧ n ≤ 7) : GM l D cI cZ yX9_stoodOf cX9_stoodOf 5 (some .int) ({ frames := 1, cells := 0, slots := 0, locals := 25 }) 0 0 true [.ref q, gi t, gi b, gi n] [oM q a al at_ st so va fa pl sg su, gA cI (a 0) 1140 A] (gPi (sStood A t b n)) := by
  refine g_enterI (z := false) (lv0 := [(0, .ref q), (1, gi t), (2, gi b), (3, gi n)]) _ rfl (by decide) rfl rfl (fun V X ret => ?_)
  have hbb := sTrue_b hA ht hb hn.1
  refine g_aload_n (pc := 0) X dX9_stoodOf_0 0 rfl ?_
  refine g_iload_n (pc := 1) X dX9_stoodOf_1 1 rfl ?_
  refine g_iload_n (pc := 2) X dX9_stoodOf_2 2 rfl ?_
  refine g_iload_n (pc := 3) X dX9_stoodOf_3 3 rfl ?_
  refine gc_Vi (pc := 4) X (c_X9_trueOf l D cI cZ q a al at_ st so va fa pl sg su A t b n hA (by omega) (by omega) (by omega)) lm_X9_65 dX9_stoodOf_4 [0, 1] rfl rfl rfl rfl rfl rfl rfl rfl ?_
  refine g_iload_n (pc := 7) X dX9_stoodOf_7 3 rfl ?_
  refine g_iconst (pc := 8) X dX9_stoodOf_8 ?_
  refine g_irem (pc := 9) X dX9_stoodOf_9 (by omega) (by omega) ?_
  refine g_iconst (pc := 10) X dX9_stoodOf_10 ?_
  refine g_icmpne (pc := 11) X 18 dX9_stoodOf_11 (by decide) (by omega) (by omega) (fun h11 => ?_) (fun h11 => ?_)
  · refine g_iconst (pc := 18) X dX9_stoodOf_18 ?_
    refine g_iadd (pc := 19) X dX9_stoodOf_19 ?_
    refine g_istore (pc := 20) X (lv' := [(0, .ref q), (1, gi t), (2, gi b), (3, gi n), (4, gi (sTrue A t b n + 0))]) dX9_stoodOf_20 rfl rfl ?_
    refine g_iload (pc := 22) X dX9_stoodOf_22 4 rfl ?_
    refine g_bipush (pc := 24) X dX9_stoodOf_24 (by decide +kernel) ?_
    refine g_icmple (pc := 26) X 34 dX9_stoodOf_26 (by decide) (by omega) (by omega) (fun h26 => ?_) (fun h26 => ?_)
    · refine g_iload (pc := 34) X dX9_stoodOf_34 4 rfl ?_
      exact ret _ _ _ _ _ _ dX9_stoodOf_36 rfl rfl (fun h => by cases h) (gPi_e (by unfold sStood gmin; split <;> omega))
    · refine g_bipush (pc := 29) X dX9_stoodOf_29 (by decide +kernel) ?_
      refine g_goto (pc := 31) X 36 dX9_stoodOf_31 (by decide) ?_
      exact ret _ _ _ _ _ _ dX9_stoodOf_36 rfl rfl (fun h => by cases h) (gPi_e (by unfold sStood gmin; split <;> omega))
  · refine g_iconst (pc := 14) X dX9_stoodOf_14 ?_
    refine g_goto (pc := 15) X 19 dX9_stoodOf_15 (by decide) ?_
    refine g_iadd (pc := 19) X dX9_stoodOf_19 ?_
    refine g_istore (pc := 20) X (lv' := [(0, .ref q), (1, gi t), (2, gi b), (3, gi n), (4, gi (sTrue A t b n + 3))]) dX9_stoodOf_20 rfl rfl ?_
    refine g_iload (pc := 22) X dX9_stoodOf_22 4 rfl ?_
    refine g_bipush (pc := 24) X dX9_stoodOf_24 (by decide +kernel) ?_
    refine g_icmple (pc := 26) X 34 dX9_stoodOf_26 (by decide) (by omega) (by omega) (fun h26 => ?_) (fun h26 => ?_)
    · refine g_iload (pc := 34) X dX9_stoodOf_34 4 rfl ?_
      exact ret _ _ _ _ _ _ dX9_stoodOf_36 rfl rfl (fun h => by cases h) (gPi_e (by unfold sStood gmin; split <;> omega))
    · refine g_bipush (pc := 29) X dX9_stoodOf_29 (by decide +kernel) ?_
      refine g_goto (pc := 31) X 36 dX9_stoodOf_31 (by decide) ?_
      exact ret _ _ _ _ _ _ dX9_stoodOf_36 rfl rfl (fun h => by cases h) (gPi_e (by unfold sStood gmin; split <;> omega))

set_option maxHeartbeats 4000000 in
set_option maxRecDepth 100000 in
theorem c_X9_classOf (l : Launch) (D : va_G) (cI cZ : ClassId) (q : Nat) (a : Nat → Nat) (al : Int) (at_ : Int) (st : Int) (so : Int) (va : Int) (fa : Int) (pl : Int) (sg : Int) (su : Int) (A : Int → Int) (t : Int) (b : Int) (n : Int) (hA : okA A) (ht : 0 ≤ t ∧ t < 10) (hb : 0 ≤ b ∧ b < 6) (hn : 0 ≤ n ∧ n ≤ 7) : GM l D cI cZ yX9_classOf cX9_classOf 5 (some .int) ({ frames := 2, cells := 0, slots := 0, locals := 49 }) 0 0 true [.ref q, gi t, gi b, gi n] [oM q a al at_ st so va fa pl sg su, gA cI (a 0) 1140 A] (gPi (sCls A t b n)) := by
  refine g_enterI (z := false) (lv0 := [(0, .ref q), (1, gi t), (2, gi b), (3, gi n)]) _ rfl (by decide) rfl rfl (fun V X ret => ?_)
  have hk := okA_cl hA ht
  have hbb := sTrue_b hA ht hb hn.1
  have hm := mulb (a := sTrue A t b n) (b := b) (A := 99) (B := 5) hbb (by omega)
  refine g_aload_n (pc := 0) X dX9_classOf_0 0 rfl ?_
  refine g_iload_n (pc := 1) X dX9_classOf_1 1 rfl ?_
  refine g_iload_n (pc := 2) X dX9_classOf_2 2 rfl ?_
  refine g_iload_n (pc := 3) X dX9_classOf_3 3 rfl ?_
  refine gc_Vi (pc := 4) X (c_X9_trueOf l D cI cZ q a al at_ st so va fa pl sg su A t b n hA (by omega) (by omega) (by omega)) lm_X9_65 dX9_classOf_4 [0, 1] rfl rfl rfl rfl rfl rfl rfl rfl ?_
  refine g_istore (pc := 7) X (lv' := [(0, .ref q), (1, gi t), (2, gi b), (3, gi n), (4, gi (sTrue A t b n))]) dX9_classOf_7 rfl rfl ?_
  refine g_aload_n (pc := 9) X dX9_classOf_9 0 rfl ?_
  refine g_get (pc := 10) X fl_X9_7 dX9_classOf_10 0 (v := .ref (a 0)) rfl rfl ?_
  refine g_iconst (pc := 13) X dX9_classOf_13 ?_
  refine g_iload_n (pc := 14) X dX9_classOf_14 1 rfl ?_
  refine g_iadd (pc := 15) X dX9_classOf_15 ?_
  refine g_iald (pc := 16) X dX9_classOf_16 1 rfl (by omega) rfl ?_
  rcases (show A (5 + t) = 0 ∨ A (5 + t) = 1 ∨ A (5 + t) = 2 ∨ A (5 + t) = 3 ∨ (A (5 + t) < 0 ∨ 3 < A (5 + t)) by omega) with h17 | h17 | h17 | h17 | h17
  · refine g_tableIn (pc := 17) X 48 dX9_classOf_17 (by omega) (by omega) (off := 31) (by rw [h17]; rfl) (by decide) ?_
    refine g_iload (pc := 48) X dX9_classOf_48 4 rfl ?_
    exact ret _ _ _ _ _ _ dX9_classOf_50 rfl rfl (fun h => by cases h) (gPi_e (by unfold sCls; rw [if_pos h17]))
  · refine g_tableIn (pc := 17) X 51 dX9_classOf_17 (by omega) (by omega) (off := 34) (by rw [h17]; rfl) (by decide) ?_
    refine g_aload_n (pc := 51) X dX9_classOf_51 0 rfl ?_
    refine g_iload_n (pc := 52) X dX9_classOf_52 1 rfl ?_
    refine g_iload_n (pc := 53) X dX9_classOf_53 2 rfl ?_
    refine g_iload_n (pc := 54) X dX9_classOf_54 3 rfl ?_
    refine gc_Vi (pc := 55) X (c_X9_stoodOf l D cI cZ q a al at_ st so va fa pl sg su A t b n hA (by omega) (by omega) (by omega)) lm_X9_69 dX9_classOf_55 [0, 1] rfl rfl rfl rfl rfl rfl rfl rfl ?_
    exact ret _ _ _ _ _ _ dX9_classOf_58 rfl rfl (fun h => by cases h) (gPi_e (by unfold sCls; rw [if_neg (by omega), if_pos h17]))
  · refine g_tableIn (pc := 17) X 59 dX9_classOf_17 (by omega) (by omega) (off := 42) (by rw [h17]; rfl) (by decide) ?_
    refine g_aload_n (pc := 59) X dX9_classOf_59 0 rfl ?_
    refine g_iload_n (pc := 60) X dX9_classOf_60 1 rfl ?_
    refine g_iload_n (pc := 61) X dX9_classOf_61 2 rfl ?_
    refine g_bipush (pc := 62) X dX9_classOf_62 (by decide +kernel) ?_
    refine g_iload_n (pc := 64) X dX9_classOf_64 3 rfl ?_
    refine g_isub (pc := 65) X dX9_classOf_65 ?_
    refine gc_Vi (pc := 66) X (c_X9_stoodOf l D cI cZ q a al at_ st so va fa pl sg su A t b (7 - n) hA (by omega) (by omega) (by omega)) lm_X9_69 dX9_classOf_66 [0, 1] rfl rfl rfl rfl rfl rfl rfl rfl ?_
    exact ret _ _ _ _ _ _ dX9_classOf_69 rfl rfl (fun h => by cases h) (gPi_e (by unfold sCls; rw [if_neg (by omega), if_neg (by omega), if_pos h17]))
  · refine g_tableIn (pc := 17) X 70 dX9_classOf_17 (by omega) (by omega) (off := 53) (by rw [h17]; rfl) (by decide) ?_
    refine g_iload (pc := 70) X dX9_classOf_70 4 rfl ?_
    refine g_bipush (pc := 72) X dX9_classOf_72 (by decide +kernel) ?_
    refine g_icmple (pc := 74) X 82 dX9_classOf_74 (by decide) (by omega) (by omega) (fun h74 => ?_) (fun h74 => ?_)
    · refine g_iconst (pc := 82) X dX9_classOf_82 ?_
      refine g_iload (pc := 83) X dX9_classOf_83 4 rfl ?_
      refine g_imul (pc := 85) X dX9_classOf_85 ?_
      exact ret _ _ _ _ _ _ dX9_classOf_86 rfl rfl (fun h => by cases h) (gPi_e (by unfold sCls gmin; rw [if_neg (by omega), if_neg (by omega), if_neg (by omega), if_pos h17]; split <;> omega))
    · refine g_bipush (pc := 77) X dX9_classOf_77 (by decide +kernel) ?_
      refine g_goto (pc := 79) X 86 dX9_classOf_79 (by decide) ?_
      exact ret _ _ _ _ _ _ dX9_classOf_86 rfl rfl (fun h => by cases h) (gPi_e (by unfold sCls gmin; rw [if_neg (by omega), if_neg (by omega), if_neg (by omega), if_pos h17]; split <;> omega))
  · refine g_tableOut (pc := 17) X 87 dX9_classOf_17 (by omega) (by omega) (by decide) ?_
    refine g_iload (pc := 87) X dX9_classOf_87 4 rfl ?_
    refine g_iload (pc := 89) X dX9_classOf_89 4 rfl ?_
    refine g_iload_n (pc := 91) X dX9_classOf_91 2 rfl ?_
    refine g_imul (pc := 92) X dX9_classOf_92 ?_
    refine g_bipush (pc := 93) X dX9_classOf_93 (by decide +kernel) ?_
    refine g_idiv (pc := 95) X dX9_classOf_95 (by omega) (by omega) ?_
    refine g_isub (pc := 96) X dX9_classOf_96 ?_
    exact ret _ _ _ _ _ _ dX9_classOf_97 rfl rfl (fun h => by cases h) (gPi_e (by unfold sCls; rw [if_neg (by omega), if_neg (by omega), if_neg (by omega), if_neg (by omega), Int.mul_comm b]))

set_option maxHeartbeats 4000000 in
set_option maxRecDepth 100000 in
theorem c_X9_valueOf (l : Launch) (D : va_G) (cI cZ : ClassId) (q : Nat) (a : Nat → Nat) (al : Int) (at_ : Int) (st : Int) (so : Int) (va : Int) (fa : Int) (pl : Int) (sg : Int) (su : Int) (A : Int → Int) (t : Int) (b : Int) (n : Int) (far : Int) (hA : okA A) (ht : 0 ≤ t ∧ t < 10) (hb : 0 ≤ b ∧ b < 6) (hn : 0 ≤ n ∧ n < 8) (hf : 0 ≤ far ∧ far ≤ 9) : GM l D cI cZ yX9_valueOf cX9_valueOf 6 (some .int) ({ frames := 3, cells := 0, slots := 0, locals := 73 }) 0 0 true [.ref q, gi t, gi b, gi n, gi far] [oM q a al at_ st so va fa pl sg su, gA cI (a 0) 1140 A] (gPi (sVal A t b n far)) := by
  refine g_enterI (z := false) (lv0 := [(0, .ref q), (1, gi t), (2, gi b), (3, gi n), (4, gi far)]) _ rfl (by decide) rfl rfl (fun V X ret => ?_)
  have hbb := sCls_b hA ht hb hn
  have hm := mulb (a := far) (b := b + 1) (A := 9) (B := 6) hf (by omega)
  refine g_aload_n (pc := 0) X dX9_valueOf_0 0 rfl ?_
  refine g_iload_n (pc := 1) X dX9_valueOf_1 1 rfl ?_
  refine g_iload_n (pc := 2) X dX9_valueOf_2 2 rfl ?_
  refine g_iload_n (pc := 3) X dX9_valueOf_3 3 rfl ?_
  refine gc_Vi (pc := 4) X (c_X9_classOf l D cI cZ q a al at_ st so va fa pl sg su A t b n hA (by omega) (by omega) (by omega)) lm_X9_72 dX9_valueOf_4 [0, 1] rfl rfl rfl rfl rfl rfl rfl rfl ?_
  refine g_iload (pc := 7) X dX9_valueOf_7 4 rfl ?_
  refine g_iload_n (pc := 9) X dX9_valueOf_9 2 rfl ?_
  refine g_iconst (pc := 10) X dX9_valueOf_10 ?_
  refine g_iadd (pc := 11) X dX9_valueOf_11 ?_
  refine g_imul (pc := 12) X dX9_valueOf_12 ?_
  refine g_isub (pc := 13) X dX9_valueOf_13 ?_
  refine g_istore (pc := 14) X (lv' := [(0, .ref q), (1, gi t), (2, gi b), (3, gi n), (4, gi far), (5, gi (sCls A t b n - far * (b + 1)))]) dX9_valueOf_14 rfl rfl ?_
  refine g_iload (pc := 16) X dX9_valueOf_16 5 rfl ?_
  refine g_ifge (pc := 18) X 25 dX9_valueOf_18 (by decide) (by omega) (fun h18 => ?_) (fun h18 => ?_)
  · refine g_iload (pc := 25) X dX9_valueOf_25 5 rfl ?_
    exact ret _ _ _ _ _ _ dX9_valueOf_27 rfl rfl (fun h => by cases h) (gPi_e (by unfold sVal gmax; split <;> omega))
  · refine g_iconst (pc := 21) X dX9_valueOf_21 ?_
    refine g_goto (pc := 22) X 27 dX9_valueOf_22 (by decide) ?_
    exact ret _ _ _ _ _ _ dX9_valueOf_27 rfl rfl (fun h => by cases h) (gPi_e (by unfold sVal gmax; split <;> omega))

set_option maxHeartbeats 4000000 in
set_option maxRecDepth 100000 in
theorem c_X9_loudOf (l : Launch) (D : va_G) (cI cZ : ClassId) (q : Nat) (a : Nat → Nat) (al : Int) (at_ : Int) (st : Int) (so : Int) (va : Int) (fa : Int) (pl : Int) (sg : Int) (su : Int) (A : Int → Int) (t : Int) (b : Int) (far : Int) (hA : okA A) (ht : 0 ≤ t ∧ t < 10) (hb : 0 ≤ b ∧ b < 6) (hf : 0 ≤ far ∧ far ≤ 9) : GM l D cI cZ yX9_loudOf cX9_loudOf 6 (some .int) ({ frames := 4, cells := 0, slots := 0, locals := 98 }) 0 0 true [.ref q, gi t, gi b, gi far] [oM q a al at_ st so va fa pl sg su, gA cI (a 0) 1140 A] (gPi (sLoud A t b far)) := by
  refine g_enterI (z := false) (lv0 := [(0, .ref q), (1, gi t), (2, gi b), (3, gi far)]) _ rfl (by decide) rfl rfl (fun V X ret => ?_)
  refine g_iconst (pc := 0) X dX9_loudOf_0 ?_
  refine g_istore (pc := 1) X (lv' := [(0, .ref q), (1, gi t), (2, gi b), (3, gi far), (4, gi 0)]) dX9_loudOf_1 rfl rfl ?_
  refine g_iconst (pc := 3) X dX9_loudOf_3 ?_
  refine g_istore (pc := 4) X (lv' := [(0, .ref q), (1, gi t), (2, gi b), (3, gi far), (4, gi 0), (5, gi 0)]) dX9_loudOf_4 rfl rfl ?_
  have L6 : ∀ (n6 : Nat) (x : Int) (i : Int), (0 ≤ i ∧ i ≤ 8) → (x = sm (fun n => sVal A t b n far) i) → (8 - i).toNat < n6 → V 0 0 [oM q a al at_ st so va fa pl sg su, gA cI (a 0) 1140 A] 6 [(0, .ref q), (1, gi t), (2, gi b), (3, gi far), (4, gi x), (5, gi i)] [] := by
    intro n6
    induction n6 with
    | zero => intro x i hi hx hn6; exact absurd hn6 (Nat.not_lt_zero _)
    | succ n6 ih6 =>
      intro x i hi hx hn6
      refine g_iload (pc := 6) X dX9_loudOf_6 5 rfl ?_
      refine g_bipush (pc := 8) X dX9_loudOf_8 (by decide +kernel) ?_
      refine g_icmpge (pc := 10) X 33 dX9_loudOf_10 (by decide) (by omega) (by omega) (fun h10 => ?_) (fun h10 => ?_)
      · refine g_iload (pc := 33) X dX9_loudOf_33 4 rfl ?_
        exact ret _ _ _ _ _ _ dX9_loudOf_35 rfl rfl (fun h => by cases h) (gPi_e (by rw [hx, show i = 8 by omega]; rfl))
      · refine g_iload (pc := 13) X dX9_loudOf_13 4 rfl ?_
        refine g_aload_n (pc := 15) X dX9_loudOf_15 0 rfl ?_
        refine g_iload_n (pc := 16) X dX9_loudOf_16 1 rfl ?_
        refine g_iload_n (pc := 17) X dX9_loudOf_17 2 rfl ?_
        refine g_iload (pc := 18) X dX9_loudOf_18 5 rfl ?_
        refine g_iload_n (pc := 20) X dX9_loudOf_20 3 rfl ?_
        refine gc_Vi (pc := 21) X (c_X9_valueOf l D cI cZ q a al at_ st so va fa pl sg su A t b i far hA (by omega) (by omega) (by omega) (by omega)) lm_X9_75 dX9_loudOf_21 [0, 1] rfl rfl rfl rfl rfl rfl rfl rfl ?_
        refine g_iadd (pc := 24) X dX9_loudOf_24 ?_
        refine g_istore (pc := 25) X (lv' := [(0, .ref q), (1, gi t), (2, gi b), (3, gi far), (4, gi (x + sVal A t b i far)), (5, gi i)]) dX9_loudOf_25 rfl rfl ?_
        refine g_iinc (pc := 27) X (lv' := [(0, .ref q), (1, gi t), (2, gi b), (3, gi far), (4, gi (x + sVal A t b i far)), (5, gi (i + 1))]) dX9_loudOf_27 5 rfl rfl rfl ?_
        refine g_goto (pc := 30) X 6 dX9_loudOf_30 (by decide) ?_
        exact ih6 _ _ (by omega) (by rw [hx, sm_s hi.1]) (by omega)
  exact L6 _ _ _ (by omega) rfl (Nat.lt_succ_self _)

set_option maxHeartbeats 4000000 in
set_option maxRecDepth 100000 in
theorem c_X9_likenessOf (l : Launch) (D : va_G) (cI cZ : ClassId) (q : Nat) (a : Nat → Nat) (al : Int) (at_ : Int) (st : Int) (so : Int) (va : Int) (fa : Int) (pl : Int) (sg : Int) (su : Int) (A : Int → Int) (t : Int) (m : Int) (far : Int) (hA : okA A) (ht : 0 ≤ t ∧ t < 10) (hm : 0 ≤ m ∧ m < 6) (hf : 0 ≤ far ∧ far ≤ 9) : GM l D cI cZ yX9_likenessOf cX9_likenessOf 7 (some .int) ({ frames := 5, cells := 0, slots := 0, locals := 123 }) 0 0 true [.ref q, gi t, gi m, gi far] [oM q a al at_ st so va fa pl sg su, gA cI (a 0) 1140 A] (gPi (sLike A t m far)) := by
  refine g_enterI (z := false) (lv0 := [(0, .ref q), (1, gi t), (2, gi m), (3, gi far)]) _ rfl (by decide) rfl rfl (fun V X ret => ?_)
  refine g_iconst (pc := 0) X dX9_likenessOf_0 ?_
  refine g_istore (pc := 1) X (lv' := [(0, .ref q), (1, gi t), (2, gi m), (3, gi far), (4, gi 0)]) dX9_likenessOf_1 rfl rfl ?_
  refine g_iconst (pc := 3) X dX9_likenessOf_3 ?_
  refine g_istore (pc := 4) X (lv' := [(0, .ref q), (1, gi t), (2, gi m), (3, gi far), (4, gi 0), (5, gi 0)]) dX9_likenessOf_4 rfl rfl ?_
  have L6 : ∀ (n6 : Nat) (x : Int) (i : Int), (0 ≤ i ∧ i ≤ 6) → (x = sm (fun b => gabs (sLoud A t b far - A (91 + 6 * m + b))) i) → (0 ≤ x ∧ x ≤ i * 799) → (6 - i).toNat < n6 → V 0 0 [oM q a al at_ st so va fa pl sg su, gA cI (a 0) 1140 A] 6 [(0, .ref q), (1, gi t), (2, gi m), (3, gi far), (4, gi x), (5, gi i)] [] := by
    intro n6
    induction n6 with
    | zero => intro x i hi hx hxb hn6; exact absurd hn6 (Nat.not_lt_zero _)
    | succ n6 ih6 =>
      intro x i hi hx hxb hn6
      refine g_iload (pc := 6) X dX9_likenessOf_6 5 rfl ?_
      refine g_bipush (pc := 8) X dX9_likenessOf_8 (by decide +kernel) ?_
      refine g_icmpge (pc := 10) X 63 dX9_likenessOf_10 (by decide) (by omega) (by omega) (fun h10 => ?_) (fun h10 => ?_)
      · refine g_iload (pc := 63) X dX9_likenessOf_63 4 rfl ?_
        refine g_sipush (pc := 65) X dX9_likenessOf_65 (by decide +kernel) ?_
        refine g_icmple (pc := 68) X 75 dX9_likenessOf_68 (by decide) (by omega) (by omega) (fun h68 => ?_) (fun h68 => ?_)
        · refine g_sipush (pc := 75) X dX9_likenessOf_75 (by decide +kernel) ?_
          refine g_iload (pc := 78) X dX9_likenessOf_78 4 rfl ?_
          refine g_isub (pc := 80) X dX9_likenessOf_80 ?_
          exact ret _ _ _ _ _ _ dX9_likenessOf_81 rfl rfl (fun h => by cases h) (gPi_e (by rw [show i = 6 by omega] at hx; unfold sLike sOff gmax; rw [← hx]; split <;> omega))
        · refine g_iconst (pc := 71) X dX9_likenessOf_71 ?_
          refine g_goto (pc := 72) X 81 dX9_likenessOf_72 (by decide) ?_
          exact ret _ _ _ _ _ _ dX9_likenessOf_81 rfl rfl (fun h => by cases h) (gPi_e (by rw [show i = 6 by omega] at hx; unfold sLike sOff gmax; rw [← hx]; split <;> omega))
      · refine g_aload_n (pc := 13) X dX9_likenessOf_13 0 rfl ?_
        refine g_iload_n (pc := 14) X dX9_likenessOf_14 1 rfl ?_
        refine g_iload (pc := 15) X dX9_likenessOf_15 5 rfl ?_
        refine g_iload_n (pc := 17) X dX9_likenessOf_17 3 rfl ?_
        refine gc_Vi (pc := 18) X (c_X9_loudOf l D cI cZ q a al at_ st so va fa pl sg su A t i far hA (by omega) (by omega) (by omega)) lm_X9_79 dX9_likenessOf_18 [0, 1] rfl rfl rfl rfl rfl rfl rfl rfl ?_
        refine g_aload_n (pc := 21) X dX9_likenessOf_21 0 rfl ?_
        refine g_get (pc := 22) X fl_X9_7 dX9_likenessOf_22 0 (v := .ref (a 0)) rfl rfl ?_
        refine g_bipush (pc := 25) X dX9_likenessOf_25 (by decide +kernel) ?_
        refine g_bipush (pc := 27) X dX9_likenessOf_27 (by decide +kernel) ?_
        refine g_iload_n (pc := 29) X dX9_likenessOf_29 2 rfl ?_
        refine g_imul (pc := 30) X dX9_likenessOf_30 ?_
        refine g_iadd (pc := 31) X dX9_likenessOf_31 ?_
        refine g_iload (pc := 32) X dX9_likenessOf_32 5 rfl ?_
        refine g_iadd (pc := 34) X dX9_likenessOf_34 ?_
        refine g_iald (pc := 35) X dX9_likenessOf_35 1 rfl (by omega) rfl ?_
        refine g_isub (pc := 36) X dX9_likenessOf_36 ?_
        have hlo := sLoud_b hA ht (b := i) (by omega) hf
        have hwa := okA_wa hA (j := 6 * m + i) (by omega)
        rw [show 91 + (6 * m + i) = 91 + 6 * m + i by omega] at hwa
        refine g_istore (pc := 37) X (lv' := [(0, .ref q), (1, gi t), (2, gi m), (3, gi far), (4, gi x), (5, gi i), (6, gi (sLoud A t i far - A (91 + 6 * m + i)))]) dX9_likenessOf_37 rfl rfl ?_
        refine g_iload (pc := 39) X dX9_likenessOf_39 4 rfl ?_
        refine g_iload (pc := 41) X dX9_likenessOf_41 6 rfl ?_
        refine g_ifge (pc := 43) X 52 dX9_likenessOf_43 (by decide) (by omega) (fun h43 => ?_) (fun h43 => ?_)
        · refine g_iload (pc := 52) X dX9_likenessOf_52 6 rfl ?_
          refine g_iadd (pc := 54) X dX9_likenessOf_54 ?_
          refine g_istore (pc := 55) X (lv' := [(0, .ref q), (1, gi t), (2, gi m), (3, gi far), (4, gi (x + (sLoud A t i far - A (91 + 6 * m + i)))), (5, gi i), (6, gi (sLoud A t i far - A (91 + 6 * m + i)))]) dX9_likenessOf_55 rfl rfl ?_
          refine g_iinc (pc := 57) X (lv' := [(0, .ref q), (1, gi t), (2, gi m), (3, gi far), (4, gi (x + (sLoud A t i far - A (91 + 6 * m + i)))), (5, gi (i + 1)), (6, gi (sLoud A t i far - A (91 + 6 * m + i)))]) dX9_likenessOf_57 5 rfl rfl rfl ?_
          refine g_goto (pc := 60) X 6 dX9_likenessOf_60 (by decide) ?_
          refine g_lsub X [0, 1, 2, 3, 4, 5] rfl ?_
          exact ih6 _ _ (by omega) (by rw [hx, sm_s hi.1]; unfold gabs; split <;> omega) (by omega) (by omega)
        · refine g_iload (pc := 46) X dX9_likenessOf_46 6 rfl ?_
          refine g_ineg (pc := 48) X dX9_likenessOf_48 ?_
          refine g_goto (pc := 49) X 54 dX9_likenessOf_49 (by decide) ?_
          refine g_iadd (pc := 54) X dX9_likenessOf_54 ?_
          refine g_istore (pc := 55) X (lv' := [(0, .ref q), (1, gi t), (2, gi m), (3, gi far), (4, gi (x + (-(sLoud A t i far - A (91 + 6 * m + i))))), (5, gi i), (6, gi (sLoud A t i far - A (91 + 6 * m + i)))]) dX9_likenessOf_55 rfl rfl ?_
          refine g_iinc (pc := 57) X (lv' := [(0, .ref q), (1, gi t), (2, gi m), (3, gi far), (4, gi (x + (-(sLoud A t i far - A (91 + 6 * m + i))))), (5, gi (i + 1)), (6, gi (sLoud A t i far - A (91 + 6 * m + i)))]) dX9_likenessOf_57 5 rfl rfl rfl ?_
          refine g_goto (pc := 60) X 6 dX9_likenessOf_60 (by decide) ?_
          refine g_lsub X [0, 1, 2, 3, 4, 5] rfl ?_
          exact ih6 _ _ (by omega) (by rw [hx, sm_s hi.1]; unfold gabs; split <;> omega) (by omega) (by omega)
  exact L6 _ _ _ (by omega) rfl (by omega) (Nat.lt_succ_self _)
