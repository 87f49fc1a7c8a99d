/-! the reel: tokens -/

set_option maxHeartbeats 4000000 in
set_option maxRecDepth 100000 in
theorem c_X5_isLetter (l : Launch) (D : va_G) (cI cZ : ClassId) (c : Int) (hc : -2147483648 ≤ c ∧ c < 2147483648) : GM l D cI cZ yX5_isLetter cX5_isLetter 1 (some .boolean) ({ frames := 1, cells := 0, slots := 0, locals := 22 }) 0 0 true [gi c] [] (gPi (gB (97 ≤ c ∧ c ≤ 122))) := by
  refine g_enterI (z := true) (lv0 := [(0, gi c)]) _ rfl (by decide) rfl rfl (fun V X ret => ?_)
  refine g_iload_n (pc := 0) X dX5_isLetter_0 0 rfl ?_
  refine g_bipush (pc := 1) X dX5_isLetter_1 (by decide +kernel) ?_
  refine g_bipush (pc := 3) X dX5_isLetter_3 (by decide +kernel) ?_
  refine gc_Ni (pc := 5) X (c_X8_fits l D cI cZ c 97 122 (by omega) (by omega) (by omega)) lm_X5_73 dX5_isLetter_5 [] rfl rfl rfl rfl rfl rfl ?_
  exact ret _ _ _ _ _ _ dX5_isLetter_8 rfl rfl (fun _ => gB_iI) (gPi_e rfl)

set_option maxHeartbeats 4000000 in
set_option maxRecDepth 100000 in
theorem c_X5_isFigure (l : Launch) (D : va_G) (cI cZ : ClassId) (c : Int) (hc : -2147483648 ≤ c ∧ c < 2147483648) : GM l D cI cZ yX5_isFigure cX5_isFigure 1 (some .boolean) ({ frames := 1, cells := 0, slots := 0, locals := 22 }) 0 0 true [gi c] [] (gPi (gB (48 ≤ c ∧ c ≤ 57))) := by
  refine g_enterI (z := true) (lv0 := [(0, gi c)]) _ rfl (by decide) rfl rfl (fun V X ret => ?_)
  refine g_iload_n (pc := 0) X dX5_isFigure_0 0 rfl ?_
  refine g_bipush (pc := 1) X dX5_isFigure_1 (by decide +kernel) ?_
  refine g_bipush (pc := 3) X dX5_isFigure_3 (by decide +kernel) ?_
  refine gc_Ni (pc := 5) X (c_X8_fits l D cI cZ c 48 57 (by omega) (by omega) (by omega)) lm_X5_73 dX5_isFigure_5 [] rfl rfl rfl rfl rfl rfl ?_
  exact ret _ _ _ _ _ _ dX5_isFigure_8 rfl rfl (fun _ => gB_iI) (gPi_e rfl)

set_option maxHeartbeats 4000000 in
set_option maxRecDepth 100000 in
theorem c_X5_isAt (l : Launch) (D : va_G) (cI cZ : ClassId) (q2 : Nat) (a2 : Nat → Nat) (A : Int → Int) (t : Int) (e : Int) (hA : okA A) (ht : 0 ≤ t ∧ t < A 2) (he : t + 1 ≤ e ∧ e ≤ A 2) : GM l D cI cZ yX5_isAt cX5_isAt 3 (some .boolean) ({ frames := 1, cells := 0, slots := 0, locals := 21 }) 0 0 true [.ref q2, gi t, gi e] [oF q2 a2 (A 0) (A 1) (A 2) (A 3) (A 4), gA cI (a2 9) 200 (fun j => A (132 + j))] (gPi (atB A t e)) := by
  refine g_enterI (z := true) (lv0 := [(0, .ref q2), (1, gi t), (2, gi e)]) _ rfl (by decide) rfl rfl (fun V X ret => ?_)
  have hA2 := okA_2 hA
  refine g_iload_n (pc := 0) X dX5_isAt_0 2 rfl ?_
  refine g_iload_n (pc := 1) X dX5_isAt_1 1 rfl ?_
  refine g_isub (pc := 2) X dX5_isAt_2 ?_
  refine g_iconst (pc := 3) X dX5_isAt_3 ?_
  refine g_icmpne (pc := 4) X 39 dX5_isAt_4 (by decide) (by omega) (by omega) (fun h4 => ?_) (fun h4 => ?_)
  · refine g_iconst (pc := 39) X dX5_isAt_39 ?_
    exact ret _ _ _ _ _ _ dX5_isAt_40 rfl rfl (fun _ => Or.inl rfl) (gPi_e (by unfold atB; exact (gB_f (by omega)).symm))
  · have h132_ := okA_r hA (j := 132 + t) (by omega)
    refine g_aload_n (pc := 7) X dX5_isAt_7 0 rfl ?_
    refine g_get (pc := 8) X fl_X5_55 dX5_isAt_8 0 (v := .ref (a2 9)) rfl rfl ?_
    refine g_iload_n (pc := 11) X dX5_isAt_11 1 rfl ?_
    refine gc_Ni (pc := 12) X (c_X8_look l D cI cZ (a2 9) 200 (fun j => A (132 + j)) t (by omega) rfl) lm_X5_58 dX5_isAt_12 [1] rfl rfl rfl rfl rfl rfl ?_
    refine g_top (b := A (132 + t)) (lk_in (by omega)) ?_
    refine g_bipush (pc := 15) X dX5_isAt_15 (by decide +kernel) ?_
    refine g_icmpne (pc := 17) X 39 dX5_isAt_17 (by decide) (by omega) (by omega) (fun h17 => ?_) (fun h17 => ?_)
    · refine g_iconst (pc := 39) X dX5_isAt_39 ?_
      exact ret _ _ _ _ _ _ dX5_isAt_40 rfl rfl (fun _ => Or.inl rfl) (gPi_e (by unfold atB; exact (gB_f (by omega)).symm))
    · have h133_ := okA_r hA (j := 133 + t) (by omega)
      refine g_aload_n (pc := 20) X dX5_isAt_20 0 rfl ?_
      refine g_get (pc := 21) X fl_X5_55 dX5_isAt_21 0 (v := .ref (a2 9)) rfl rfl ?_
      refine g_iload_n (pc := 24) X dX5_isAt_24 1 rfl ?_
      refine g_iconst (pc := 25) X dX5_isAt_25 ?_
      refine g_iadd (pc := 26) X dX5_isAt_26 ?_
      refine gc_Ni (pc := 27) X (c_X8_look l D cI cZ (a2 9) 200 (fun j => A (132 + j)) (t + 1) (by omega) rfl) lm_X5_58 dX5_isAt_27 [1] rfl rfl rfl rfl rfl rfl ?_
      refine g_top (b := A (133 + t)) (Eq.trans (lk_in (by omega)) (congrArg A (by omega))) ?_
      refine g_bipush (pc := 30) X dX5_isAt_30 (by decide +kernel) ?_
      refine g_icmpne (pc := 32) X 39 dX5_isAt_32 (by decide) (by omega) (by omega) (fun h32 => ?_) (fun h32 => ?_)
      · refine g_iconst (pc := 39) X dX5_isAt_39 ?_
        exact ret _ _ _ _ _ _ dX5_isAt_40 rfl rfl (fun _ => Or.inl rfl) (gPi_e (by unfold atB; exact (gB_f (by omega)).symm))
      · refine g_iconst (pc := 35) X dX5_isAt_35 ?_
        refine g_goto (pc := 36) X 40 dX5_isAt_36 (by decide) ?_
        exact ret _ _ _ _ _ _ dX5_isAt_40 rfl rfl (fun _ => Or.inr rfl) (gPi_e (by unfold atB; exact (gB_t (by omega)).symm))

set_option maxHeartbeats 4000000 in
set_option maxRecDepth 100000 in
theorem c_X5_isFar (l : Launch) (D : va_G) (cI cZ : ClassId) (q2 : Nat) (a2 : Nat → Nat) (A : Int → Int) (t : Int) (e : Int) (hA : okA A) (ht : 0 ≤ t ∧ t < A 2) (he : t + 1 ≤ e ∧ e ≤ A 2) : GM l D cI cZ yX5_isFar cX5_isFar 3 (some .boolean) ({ frames := 1, cells := 0, slots := 0, locals := 21 }) 0 0 true [.ref q2, gi t, gi e] [oF q2 a2 (A 0) (A 1) (A 2) (A 3) (A 4), gA cI (a2 9) 200 (fun j => A (132 + j))] (gPi (farB A t e)) := by
  refine g_enterI (z := true) (lv0 := [(0, .ref q2), (1, gi t), (2, gi e)]) _ rfl (by decide) rfl rfl (fun V X ret => ?_)
  have hA2 := okA_2 hA
  refine g_iload_n (pc := 0) X dX5_isFar_0 2 rfl ?_
  refine g_iload_n (pc := 1) X dX5_isFar_1 1 rfl ?_
  refine g_isub (pc := 2) X dX5_isFar_2 ?_
  refine g_iconst (pc := 3) X dX5_isFar_3 ?_
  refine g_icmpne (pc := 4) X 54 dX5_isFar_4 (by decide) (by omega) (by omega) (fun h4 => ?_) (fun h4 => ?_)
  · refine g_iconst (pc := 54) X dX5_isFar_54 ?_
    exact ret _ _ _ _ _ _ dX5_isFar_55 rfl rfl (fun _ => Or.inl rfl) (gPi_e (by unfold farB; exact (gB_f (by omega)).symm))
  · have h132_ := okA_r hA (j := 132 + t) (by omega)
    refine g_aload_n (pc := 7) X dX5_isFar_7 0 rfl ?_
    refine g_get (pc := 8) X fl_X5_55 dX5_isFar_8 0 (v := .ref (a2 9)) rfl rfl ?_
    refine g_iload_n (pc := 11) X dX5_isFar_11 1 rfl ?_
    refine gc_Ni (pc := 12) X (c_X8_look l D cI cZ (a2 9) 200 (fun j => A (132 + j)) t (by omega) rfl) lm_X5_58 dX5_isFar_12 [1] rfl rfl rfl rfl rfl rfl ?_
    refine g_top (b := A (132 + t)) (lk_in (by omega)) ?_
    refine g_bipush (pc := 15) X dX5_isFar_15 (by decide +kernel) ?_
    refine g_icmpne (pc := 17) X 54 dX5_isFar_17 (by decide) (by omega) (by omega) (fun h17 => ?_) (fun h17 => ?_)
    · refine g_iconst (pc := 54) X dX5_isFar_54 ?_
      exact ret _ _ _ _ _ _ dX5_isFar_55 rfl rfl (fun _ => Or.inl rfl) (gPi_e (by unfold farB; exact (gB_f (by omega)).symm))
    · have h133_ := okA_r hA (j := 133 + t) (by omega)
      refine g_aload_n (pc := 20) X dX5_isFar_20 0 rfl ?_
      refine g_get (pc := 21) X fl_X5_55 dX5_isFar_21 0 (v := .ref (a2 9)) rfl rfl ?_
      refine g_iload_n (pc := 24) X dX5_isFar_24 1 rfl ?_
      refine g_iconst (pc := 25) X dX5_isFar_25 ?_
      refine g_iadd (pc := 26) X dX5_isFar_26 ?_
      refine gc_Ni (pc := 27) X (c_X8_look l D cI cZ (a2 9) 200 (fun j => A (132 + j)) (t + 1) (by omega) rfl) lm_X5_58 dX5_isFar_27 [1] rfl rfl rfl rfl rfl rfl ?_
      refine g_top (b := A (133 + t)) (Eq.trans (lk_in (by omega)) (congrArg A (by omega))) ?_
      refine g_bipush (pc := 30) X dX5_isFar_30 (by decide +kernel) ?_
      refine g_icmpne (pc := 32) X 54 dX5_isFar_32 (by decide) (by omega) (by omega) (fun h32 => ?_) (fun h32 => ?_)
      · refine g_iconst (pc := 54) X dX5_isFar_54 ?_
        exact ret _ _ _ _ _ _ dX5_isFar_55 rfl rfl (fun _ => Or.inl rfl) (gPi_e (by unfold farB; exact (gB_f (by omega)).symm))
      · have h134_ := okA_r hA (j := 134 + t) (by omega)
        refine g_aload_n (pc := 35) X dX5_isFar_35 0 rfl ?_
        refine g_get (pc := 36) X fl_X5_55 dX5_isFar_36 0 (v := .ref (a2 9)) rfl rfl ?_
        refine g_iload_n (pc := 39) X dX5_isFar_39 1 rfl ?_
        refine g_iconst (pc := 40) X dX5_isFar_40 ?_
        refine g_iadd (pc := 41) X dX5_isFar_41 ?_
        refine gc_Ni (pc := 42) X (c_X8_look l D cI cZ (a2 9) 200 (fun j => A (132 + j)) (t + 2) (by omega) rfl) lm_X5_58 dX5_isFar_42 [1] rfl rfl rfl rfl rfl rfl ?_
        refine g_top (b := A (134 + t)) (Eq.trans (lk_in (by omega)) (congrArg A (by omega))) ?_
        refine g_bipush (pc := 45) X dX5_isFar_45 (by decide +kernel) ?_
        refine g_icmpne (pc := 47) X 54 dX5_isFar_47 (by decide) (by omega) (by omega) (fun h47 => ?_) (fun h47 => ?_)
        · refine g_iconst (pc := 54) X dX5_isFar_54 ?_
          exact ret _ _ _ _ _ _ dX5_isFar_55 rfl rfl (fun _ => Or.inl rfl) (gPi_e (by unfold farB; exact (gB_f (by omega)).symm))
        · refine g_iconst (pc := 50) X dX5_isFar_50 ?_
          refine g_goto (pc := 51) X 55 dX5_isFar_51 (by decide) ?_
          exact ret _ _ _ _ _ _ dX5_isFar_55 rfl rfl (fun _ => Or.inr rfl) (gPi_e (by unfold farB; exact (gB_t (by omega)).symm))

set_option maxHeartbeats 4000000 in
set_option maxRecDepth 100000 in
theorem c_X5_numberOf (l : Launch) (D : va_G) (cI cZ : ClassId) (q2 : Nat) (a2 : Nat → Nat) (A : Int → Int) (t : Int) (e : Int) (hA : okA A) (ht : 0 ≤ t ∧ t < A 2) (he : t + 1 ≤ e ∧ e ≤ t + 3) (he2 : e ≤ A 2) (hd : ∀ j, t ≤ j → j < e → 48 ≤ A (132 + j) ∧ A (132 + j) ≤ 57) : GM l D cI cZ yX5_numberOf cX5_numberOf 5 (some .int) ({ frames := 1, cells := 0, slots := 0, locals := 21 }) 0 0 true [.ref q2, gi t, gi e] [oF q2 a2 (A 0) (A 1) (A 2) (A 3) (A 4), gA cI (a2 9) 200 (fun j => A (132 + j))] (gPi (nmv A t e)) := by
  refine g_enterI (z := false) (lv0 := [(0, .ref q2), (1, gi t), (2, gi e)]) _ rfl (by decide) rfl rfl (fun V X ret => ?_)
  have hA2 := okA_2 hA
  refine g_iconst (pc := 0) X dX5_numberOf_0 ?_
  refine g_istore_n (pc := 1) X (lv' := [(0, .ref q2), (1, gi t), (2, gi e), (3, gi 0)]) dX5_numberOf_1 rfl rfl ?_
  refine g_iload_n (pc := 2) X dX5_numberOf_2 1 rfl ?_
  refine g_istore (pc := 3) X (lv' := [(0, .ref q2), (1, gi t), (2, gi e), (3, gi 0), (4, gi t)]) dX5_numberOf_3 rfl rfl ?_
  have L5 : ∀ (n5 : Nat) (x : Int) (i : Int), (t ≤ i ∧ i ≤ e) → (x = nmv A t i) → (e - i).toNat < n5 → V 0 0 [oF q2 a2 (A 0) (A 1) (A 2) (A 3) (A 4), gA cI (a2 9) 200 (fun j => A (132 + j))] 5 [(0, .ref q2), (1, gi t), (2, gi e), (3, gi x), (4, gi i)] [] := by
    intro n5
    induction n5 with
    | zero => intro x i hi hx hn5; exact absurd hn5 (Nat.not_lt_zero _)
    | succ n5 ih5 =>
      intro x i hi hx hn5
      have hb := nmv_b (A := A) (a := t) (e := i) (fun j j0 j1 => hd j j0 (by omega)) (by omega)
      rw [← hx] at hb
      refine g_iload (pc := 5) X dX5_numberOf_5 4 rfl ?_
      refine g_iload_n (pc := 7) X dX5_numberOf_7 2 rfl ?_
      refine g_icmpge (pc := 8) X 35 dX5_numberOf_8 (by decide) (by omega) (by omega) (fun h8 => ?_) (fun h8 => ?_)
      · refine g_iload_n (pc := 35) X dX5_numberOf_35 3 rfl ?_
        exact ret _ _ _ _ _ _ dX5_numberOf_36 rfl rfl (fun h => by cases h) (gPi_e (by rw [hx, show e = i by omega]))
      · refine g_bipush (pc := 11) X dX5_numberOf_11 (by decide +kernel) ?_
        refine g_iload_n (pc := 13) X dX5_numberOf_13 3 rfl ?_
        refine g_imul (pc := 14) X dX5_numberOf_14 ?_
        have hdi := hd i hi.1 (by omega)
        refine g_aload_n (pc := 15) X dX5_numberOf_15 0 rfl ?_
        refine g_get (pc := 16) X fl_X5_55 dX5_numberOf_16 0 (v := .ref (a2 9)) rfl rfl ?_
        refine g_iload (pc := 19) X dX5_numberOf_19 4 rfl ?_
        refine gc_Ni (pc := 21) X (c_X8_look l D cI cZ (a2 9) 200 (fun j => A (132 + j)) i (by omega) rfl) lm_X5_58 dX5_numberOf_21 [1] rfl rfl rfl rfl rfl rfl ?_
        refine g_top (b := A (132 + i)) (lk_in (by omega)) ?_
        refine g_iadd (pc := 24) X dX5_numberOf_24 ?_
        refine g_bipush (pc := 25) X dX5_numberOf_25 (by decide +kernel) ?_
        refine g_isub (pc := 27) X dX5_numberOf_27 ?_
        refine g_istore_n (pc := 28) X (lv' := [(0, .ref q2), (1, gi t), (2, gi e), (3, gi (10 * x + A (132 + i) - 48)), (4, gi i)]) dX5_numberOf_28 rfl rfl ?_
        refine g_iinc (pc := 29) X (lv' := [(0, .ref q2), (1, gi t), (2, gi e), (3, gi (10 * x + A (132 + i) - 48)), (4, gi (i + 1))]) dX5_numberOf_29 4 rfl rfl rfl ?_
        refine g_goto (pc := 32) X 5 dX5_numberOf_32 (by decide) ?_
        exact ih5 _ _ (by omega) (by rw [nmv_s hi.1, ← hx]) (by omega)
  exact L5 _ _ _ (by omega) nmv_0.symm (Nat.lt_succ_self _)

set_option maxHeartbeats 4000000 in
set_option maxRecDepth 100000 in
theorem c_X5_tokenEnd (l : Launch) (D : va_G) (cI cZ : ClassId) (q2 : Nat) (a2 : Nat → Nat) (A : Int → Int) (t : Int) (hA : okA A) (ht : 0 ≤ t ∧ t < A 2) : GM l D cI cZ yX5_tokenEnd cX5_tokenEnd 7 (some .int) ({ frames := 2, cells := 0, slots := 0, locals := 42 }) 0 0 true [.ref q2, gi t] [oF q2 a2 (A 0) (A 1) (A 2) (A 3) (A 4), gA cI (a2 9) 200 (fun j => A (132 + j))] (gPi (tkE A t)) := by
  refine g_enterI (z := false) (lv0 := [(0, .ref q2), (1, gi t)]) _ rfl (by decide) rfl rfl (fun V X ret => ?_)
  have hA2 := okA_2 hA
  have h132_ := okA_r hA (j := 132 + t) (by omega)
  have hcc := rcl_c (A (132 + t))
  refine g_aload_n (pc := 0) X dX5_tokenEnd_0 0 rfl ?_
  refine g_get (pc := 1) X fl_X5_55 dX5_tokenEnd_1 0 (v := .ref (a2 9)) rfl rfl ?_
  refine g_iload_n (pc := 4) X dX5_tokenEnd_4 1 rfl ?_
  refine gc_Ni (pc := 5) X (c_X8_look l D cI cZ (a2 9) 200 (fun j => A (132 + j)) t (by omega) rfl) lm_X5_58 dX5_tokenEnd_5 [1] rfl rfl rfl rfl rfl rfl ?_
  refine g_top (b := A (132 + t)) (lk_in (by omega)) ?_
  refine gc_Si (pc := 8) X (c_X5_isLetter l D cI cZ (A (132 + t)) (by omega)) lm_X5_66 dX5_tokenEnd_8 [] rfl rfl rfl rfl rfl rfl ?_
  refine g_istore_n (pc := 11) X (lv' := [(0, .ref q2), (1, gi t), (2, gi (gB (97 ≤ (A (132 + t)) ∧ (A (132 + t)) ≤ 122)))]) dX5_tokenEnd_11 rfl rfl ?_
  refine g_aload_n (pc := 12) X dX5_tokenEnd_12 0 rfl ?_
  refine g_get (pc := 13) X fl_X5_55 dX5_tokenEnd_13 0 (v := .ref (a2 9)) rfl rfl ?_
  refine g_iload_n (pc := 16) X dX5_tokenEnd_16 1 rfl ?_
  refine gc_Ni (pc := 17) X (c_X8_look l D cI cZ (a2 9) 200 (fun j => A (132 + j)) t (by omega) rfl) lm_X5_58 dX5_tokenEnd_17 [1] rfl rfl rfl rfl rfl rfl ?_
  refine g_top (b := A (132 + t)) (lk_in (by omega)) ?_
  refine gc_Si (pc := 20) X (c_X5_isFigure l D cI cZ (A (132 + t)) (by omega)) lm_X5_70 dX5_tokenEnd_20 [] rfl rfl rfl rfl rfl rfl ?_
  refine g_istore_n (pc := 23) X (lv' := [(0, .ref q2), (1, gi t), (2, gi (gB (97 ≤ (A (132 + t)) ∧ (A (132 + t)) ≤ 122))), (3, gi (gB (48 ≤ (A (132 + t)) ∧ (A (132 + t)) ≤ 57)))]) dX5_tokenEnd_23 rfl rfl ?_
  refine g_iload_n (pc := 24) X dX5_tokenEnd_24 1 rfl ?_
  refine g_iconst (pc := 25) X dX5_tokenEnd_25 ?_
  refine g_iadd (pc := 26) X dX5_tokenEnd_26 ?_
  refine g_istore (pc := 27) X (lv' := [(0, .ref q2), (1, gi t), (2, gi (gB (97 ≤ (A (132 + t)) ∧ (A (132 + t)) ≤ 122))), (3, gi (gB (48 ≤ (A (132 + t)) ∧ (A (132 + t)) ≤ 57))), (4, gi (t + 1))]) dX5_tokenEnd_27 rfl rfl ?_
  refine g_iload_n (pc := 29) X dX5_tokenEnd_29 1 rfl ?_
  refine g_iconst (pc := 30) X dX5_tokenEnd_30 ?_
  refine g_iadd (pc := 31) X dX5_tokenEnd_31 ?_
  refine g_istore (pc := 32) X (lv' := [(0, .ref q2), (1, gi t), (2, gi (gB (97 ≤ (A (132 + t)) ∧ (A (132 + t)) ≤ 122))), (3, gi (gB (48 ≤ (A (132 + t)) ∧ (A (132 + t)) ≤ 57))), (4, gi (t + 1)), (5, gi (t + 1))]) dX5_tokenEnd_32 rfl rfl ?_
  have L34 : ∀ (n34 : Nat) (i : Int) (e : Int), (t + 1 ≤ i ∧ i ≤ A 2) → (t + 1 ≤ e ∧ e ≤ i) → ((e = i ∧ tkE A t = tkF A t i) ∨ (e < i ∧ e = tkE A t)) → (A 2 - i).toNat < n34 → V 0 0 [oF q2 a2 (A 0) (A 1) (A 2) (A 3) (A 4), gA cI (a2 9) 200 (fun j => A (132 + j))] 34 [(0, .ref q2), (1, gi t), (2, gi (gB (97 ≤ (A (132 + t)) ∧ (A (132 + t)) ≤ 122))), (3, gi (gB (48 ≤ (A (132 + t)) ∧ (A (132 + t)) ≤ 57))), (4, gi e), (5, gi i)] [] := by
    intro n34
    induction n34 with
    | zero => intro i e hi hb he hn34; exact absurd hn34 (Nat.not_lt_zero _)
    | succ n34 ih34 =>
      intro i e hi hb he hn34
      refine g_iload (pc := 34) X dX5_tokenEnd_34 5 rfl ?_
      refine g_aload_n (pc := 36) X dX5_tokenEnd_36 0 rfl ?_
      refine g_get (pc := 37) X fl_X5_40 dX5_tokenEnd_37 0 (v := gi (A 2)) rfl rfl ?_
      refine g_icmpge (pc := 40) X 97 dX5_tokenEnd_40 (by decide) (by omega) (by omega) (fun h40 => ?_) (fun h40 => ?_)
      · refine g_iload (pc := 97) X dX5_tokenEnd_97 4 rfl ?_
        exact ret _ _ _ _ _ _ dX5_tokenEnd_99 rfl rfl (fun h => by cases h) (gPi_e (by rcases he with he | he; (rw [he.2, tkF_n (fun _ => by omega)]; omega); exact he.2))
      · refine g_iload (pc := 43) X dX5_tokenEnd_43 5 rfl ?_
        refine g_iload (pc := 45) X dX5_tokenEnd_45 4 rfl ?_
        refine g_icmpne (pc := 47) X 97 dX5_tokenEnd_47 (by decide) (by omega) (by omega) (fun h47 => ?_) (fun h47 => ?_)
        · refine g_iload (pc := 97) X dX5_tokenEnd_97 4 rfl ?_
          exact ret _ _ _ _ _ _ dX5_tokenEnd_99 rfl rfl (fun h => by cases h) (gPi_e (by rcases he with he | he; (rw [he.2, tkF_n (fun _ => by omega)]; omega); exact he.2))
        · have hE : tkE A t = tkF A t i := by omega
          have hi_ := okA_r hA (j := 132 + i) (by omega)
          have hci := rcl_c (A (132 + i))
          refine g_aload_n (pc := 50) X dX5_tokenEnd_50 0 rfl ?_
          refine g_get (pc := 51) X fl_X5_55 dX5_tokenEnd_51 0 (v := .ref (a2 9)) rfl rfl ?_
          refine g_iload (pc := 54) X dX5_tokenEnd_54 5 rfl ?_
          refine gc_Ni (pc := 56) X (c_X8_look l D cI cZ (a2 9) 200 (fun j => A (132 + j)) i (by omega) rfl) lm_X5_58 dX5_tokenEnd_56 [1] rfl rfl rfl rfl rfl rfl ?_
          refine g_top (b := A (132 + i)) (lk_in (by omega)) ?_
          refine g_istore (pc := 59) X (lv' := [(0, .ref q2), (1, gi t), (2, gi (gB (97 ≤ (A (132 + t)) ∧ (A (132 + t)) ≤ 122))), (3, gi (gB (48 ≤ (A (132 + t)) ∧ (A (132 + t)) ≤ 57))), (4, gi e), (5, gi i), (6, gi (A (132 + i)))]) dX5_tokenEnd_59 rfl rfl ?_
          refine g_iload_n (pc := 61) X dX5_tokenEnd_61 2 rfl ?_
          refine g_ifeqB (pc := 62) X 73 dX5_tokenEnd_62 (by decide) (fun h62 => ?_) (fun h62 => ?_)
          · refine g_iload_n (pc := 73) X dX5_tokenEnd_73 3 rfl ?_
            refine g_ifeqB (pc := 74) X 91 dX5_tokenEnd_74 (by decide) (fun h74 => ?_) (fun h74 => ?_)
            · refine g_iinc (pc := 91) X (lv' := [(0, .ref q2), (1, gi t), (2, gi (gB (97 ≤ (A (132 + t)) ∧ (A (132 + t)) ≤ 122))), (3, gi (gB (48 ≤ (A (132 + t)) ∧ (A (132 + t)) ≤ 57))), (4, gi e), (5, gi (i + 1)), (6, gi (A (132 + i)))]) dX5_tokenEnd_91 5 rfl rfl rfl ?_
              refine g_goto (pc := 94) X 34 dX5_tokenEnd_94 (by decide) ?_
              refine g_lsub X [0, 1, 2, 3, 4, 5] rfl ?_
              exact ih34 _ _ (by omega) (by omega) (Or.inr ⟨by omega, by rw [hE, tkF_n (fun _ => by omega)]; omega⟩) (by omega)
            · refine g_iload (pc := 77) X dX5_tokenEnd_77 6 rfl ?_
              refine gc_Si (pc := 79) X (c_X5_isFigure l D cI cZ (A (132 + i)) (by omega)) lm_X5_70 dX5_tokenEnd_79 [] rfl rfl rfl rfl rfl rfl ?_
              refine g_ifeqB (pc := 82) X 91 dX5_tokenEnd_82 (by decide) (fun h82 => ?_) (fun h82 => ?_)
              · refine g_iinc (pc := 91) X (lv' := [(0, .ref q2), (1, gi t), (2, gi (gB (97 ≤ (A (132 + t)) ∧ (A (132 + t)) ≤ 122))), (3, gi (gB (48 ≤ (A (132 + t)) ∧ (A (132 + t)) ≤ 57))), (4, gi e), (5, gi (i + 1)), (6, gi (A (132 + i)))]) dX5_tokenEnd_91 5 rfl rfl rfl ?_
                refine g_goto (pc := 94) X 34 dX5_tokenEnd_94 (by decide) ?_
                refine g_lsub X [0, 1, 2, 3, 4, 5] rfl ?_
                exact ih34 _ _ (by omega) (by omega) (Or.inr ⟨by omega, by rw [hE, tkF_n (fun _ => by omega)]; omega⟩) (by omega)
              · refine g_iload (pc := 85) X dX5_tokenEnd_85 5 rfl ?_
                refine g_iconst (pc := 87) X dX5_tokenEnd_87 ?_
                refine g_iadd (pc := 88) X dX5_tokenEnd_88 ?_
                refine g_istore (pc := 89) X (lv' := [(0, .ref q2), (1, gi t), (2, gi (gB (97 ≤ (A (132 + t)) ∧ (A (132 + t)) ≤ 122))), (3, gi (gB (48 ≤ (A (132 + t)) ∧ (A (132 + t)) ≤ 57))), (4, gi (i + 1)), (5, gi i), (6, gi (A (132 + i)))]) dX5_tokenEnd_89 rfl rfl ?_
                refine g_iinc (pc := 91) X (lv' := [(0, .ref q2), (1, gi t), (2, gi (gB (97 ≤ (A (132 + t)) ∧ (A (132 + t)) ≤ 122))), (3, gi (gB (48 ≤ (A (132 + t)) ∧ (A (132 + t)) ≤ 57))), (4, gi (i + 1)), (5, gi (i + 1)), (6, gi (A (132 + i)))]) dX5_tokenEnd_91 5 rfl rfl rfl ?_
                refine g_goto (pc := 94) X 34 dX5_tokenEnd_94 (by decide) ?_
                refine g_lsub X [0, 1, 2, 3, 4, 5] rfl ?_
                exact ih34 _ _ (by omega) (by omega) (Or.inl ⟨rfl, hE.trans (tkF_y (by omega) (by omega))⟩) (by omega)
          · refine g_iload (pc := 65) X dX5_tokenEnd_65 6 rfl ?_
            refine gc_Si (pc := 67) X (c_X5_isLetter l D cI cZ (A (132 + i)) (by omega)) lm_X5_66 dX5_tokenEnd_67 [] rfl rfl rfl rfl rfl rfl ?_
            refine g_ifneB (pc := 70) X 85 dX5_tokenEnd_70 (by decide) (fun h70 => ?_) (fun h70 => ?_)
            · refine g_iload (pc := 85) X dX5_tokenEnd_85 5 rfl ?_
              refine g_iconst (pc := 87) X dX5_tokenEnd_87 ?_
              refine g_iadd (pc := 88) X dX5_tokenEnd_88 ?_
              refine g_istore (pc := 89) X (lv' := [(0, .ref q2), (1, gi t), (2, gi (gB (97 ≤ (A (132 + t)) ∧ (A (132 + t)) ≤ 122))), (3, gi (gB (48 ≤ (A (132 + t)) ∧ (A (132 + t)) ≤ 57))), (4, gi (i + 1)), (5, gi i), (6, gi (A (132 + i)))]) dX5_tokenEnd_89 rfl rfl ?_
              refine g_iinc (pc := 91) X (lv' := [(0, .ref q2), (1, gi t), (2, gi (gB (97 ≤ (A (132 + t)) ∧ (A (132 + t)) ≤ 122))), (3, gi (gB (48 ≤ (A (132 + t)) ∧ (A (132 + t)) ≤ 57))), (4, gi (i + 1)), (5, gi (i + 1)), (6, gi (A (132 + i)))]) dX5_tokenEnd_91 5 rfl rfl rfl ?_
              refine g_goto (pc := 94) X 34 dX5_tokenEnd_94 (by decide) ?_
              refine g_lsub X [0, 1, 2, 3, 4, 5] rfl ?_
              exact ih34 _ _ (by omega) (by omega) (Or.inl ⟨rfl, hE.trans (tkF_y (by omega) (by omega))⟩) (by omega)
            · refine g_iload_n (pc := 73) X dX5_tokenEnd_73 3 rfl ?_
              refine g_ifeqB (pc := 74) X 91 dX5_tokenEnd_74 (by decide) (fun h74 => ?_) (fun h74 => ?_)
              · refine g_iinc (pc := 91) X (lv' := [(0, .ref q2), (1, gi t), (2, gi (gB (97 ≤ (A (132 + t)) ∧ (A (132 + t)) ≤ 122))), (3, gi (gB (48 ≤ (A (132 + t)) ∧ (A (132 + t)) ≤ 57))), (4, gi e), (5, gi (i + 1)), (6, gi (A (132 + i)))]) dX5_tokenEnd_91 5 rfl rfl rfl ?_
                refine g_goto (pc := 94) X 34 dX5_tokenEnd_94 (by decide) ?_
                refine g_lsub X [0, 1, 2, 3, 4, 5] rfl ?_
                exact ih34 _ _ (by omega) (by omega) (Or.inr ⟨by omega, by rw [hE, tkF_n (fun _ => by omega)]; omega⟩) (by omega)
              · refine g_iload (pc := 77) X dX5_tokenEnd_77 6 rfl ?_
                refine gc_Si (pc := 79) X (c_X5_isFigure l D cI cZ (A (132 + i)) (by omega)) lm_X5_70 dX5_tokenEnd_79 [] rfl rfl rfl rfl rfl rfl ?_
                refine g_ifeqB (pc := 82) X 91 dX5_tokenEnd_82 (by decide) (fun h82 => ?_) (fun h82 => ?_)
                · refine g_iinc (pc := 91) X (lv' := [(0, .ref q2), (1, gi t), (2, gi (gB (97 ≤ (A (132 + t)) ∧ (A (132 + t)) ≤ 122))), (3, gi (gB (48 ≤ (A (132 + t)) ∧ (A (132 + t)) ≤ 57))), (4, gi e), (5, gi (i + 1)), (6, gi (A (132 + i)))]) dX5_tokenEnd_91 5 rfl rfl rfl ?_
                  refine g_goto (pc := 94) X 34 dX5_tokenEnd_94 (by decide) ?_
                  refine g_lsub X [0, 1, 2, 3, 4, 5] rfl ?_
                  exact ih34 _ _ (by omega) (by omega) (Or.inr ⟨by omega, by rw [hE, tkF_n (fun _ => by omega)]; omega⟩) (by omega)
                · refine g_iload (pc := 85) X dX5_tokenEnd_85 5 rfl ?_
                  refine g_iconst (pc := 87) X dX5_tokenEnd_87 ?_
                  refine g_iadd (pc := 88) X dX5_tokenEnd_88 ?_
                  refine g_istore (pc := 89) X (lv' := [(0, .ref q2), (1, gi t), (2, gi (gB (97 ≤ (A (132 + t)) ∧ (A (132 + t)) ≤ 122))), (3, gi (gB (48 ≤ (A (132 + t)) ∧ (A (132 + t)) ≤ 57))), (4, gi (i + 1)), (5, gi i), (6, gi (A (132 + i)))]) dX5_tokenEnd_89 rfl rfl ?_
                  refine g_iinc (pc := 91) X (lv' := [(0, .ref q2), (1, gi t), (2, gi (gB (97 ≤ (A (132 + t)) ∧ (A (132 + t)) ≤ 122))), (3, gi (gB (48 ≤ (A (132 + t)) ∧ (A (132 + t)) ≤ 57))), (4, gi (i + 1)), (5, gi (i + 1)), (6, gi (A (132 + i)))]) dX5_tokenEnd_91 5 rfl rfl rfl ?_
                  refine g_goto (pc := 94) X 34 dX5_tokenEnd_94 (by decide) ?_
                  refine g_lsub X [0, 1, 2, 3, 4, 5] rfl ?_
                  exact ih34 _ _ (by omega) (by omega) (Or.inl ⟨rfl, hE.trans (tkF_y (by omega) (by omega))⟩) (by omega)
  exact L34 _ _ _ (by omega) (by omega) (Or.inl ⟨rfl, rfl⟩) (Nat.lt_succ_self _)

set_option maxHeartbeats 4000000 in
set_option maxRecDepth 100000 in
theorem c_X5_takesWord (l : Launch) (D : va_G) (cI cZ : ClassId) (q : Nat) (a : Nat → Nat) (f : Int) (n : Int) (w : Int) (r : Int) (q2 : Nat) (a2 : Nat → Nat) (A : Int → Int) (t : Int) (e : Int) (hA : okA A) (ht : 0 ≤ t ∧ t < A 2) (he : t + 1 ≤ e ∧ e ≤ A 2) (hw : 0 ≤ w ∧ w ≤ 6) (hn : 0 ≤ n ∧ n ≤ 8) : GM l D cI cZ yX5_takesWord cX5_takesWord 4 (some .boolean) ({ frames := 2, cells := 0, slots := 0, locals := 43 }) 0 0 false [.ref q, .ref q2, gi t, gi e] [oR q a f n w r, oF q2 a2 (A 0) (A 1) (A 2) (A 3) (A 4), gA cI (a2 9) 200 (fun j => A (132 + j))] (gPxi (fun xo : Unit => gB (wkB A t e w n = 1)) (fun xo : Unit => [oR q a f n (wkW A t e w) r, oF q2 a2 (A 0) (A 1) (A 2) (A 3) (A 4), gA cI (a2 9) 200 (fun j => A (132 + j))]) (fun xo : Unit => True)) := by
  refine g_enterI (z := true) (lv0 := [(0, .ref q), (1, .ref q2), (2, gi t), (3, gi e)]) _ rfl (by decide) rfl rfl (fun V X ret => ?_)
  have hab : atB A t e = 0 ∨ atB A t e = 1 := gB_n
  have hfb : farB A t e = 0 ∨ farB A t e = 1 := gB_n
  refine g_aload_n (pc := 0) X dX5_takesWord_0 0 rfl ?_
  refine g_get (pc := 1) X fl_X5_34 dX5_takesWord_1 0 (v := gi w) rfl rfl ?_
  refine g_ifeq (pc := 4) X 9 dX5_takesWord_4 (by decide) (by omega) (fun h4 => ?_) (fun h4 => ?_)
  · refine g_aload_n (pc := 9) X dX5_takesWord_9 1 rfl ?_
    refine g_iload_n (pc := 10) X dX5_takesWord_10 2 rfl ?_
    refine g_iload_n (pc := 11) X dX5_takesWord_11 3 rfl ?_
    refine gc_Si (pc := 12) X (c_X5_isAt l D cI cZ q2 a2 A t e hA (by omega) (by omega)) lm_X5_88 dX5_takesWord_12 [1, 2] rfl rfl rfl rfl rfl rfl ?_
    refine g_ifeq (pc := 15) X 38 dX5_takesWord_15 (by decide) (by omega) (fun h15 => ?_) (fun h15 => ?_)
    · refine g_aload_n (pc := 38) X dX5_takesWord_38 0 rfl ?_
      refine g_iconst (pc := 39) X dX5_takesWord_39 ?_
      refine g_put (pc := 40) X (ws' := [oR q a f n 5 r, oF q2 a2 (A 0) (A 1) (A 2) (A 3) (A 4), gA cI (a2 9) 200 (fun j => A (132 + j))]) fp_X5_34 dX5_takesWord_40 0 rfl rfl rfl rfl rfl ?_
      refine g_aload_n (pc := 43) X dX5_takesWord_43 1 rfl ?_
      refine g_iload_n (pc := 44) X dX5_takesWord_44 2 rfl ?_
      refine g_iload_n (pc := 45) X dX5_takesWord_45 3 rfl ?_
      refine gc_Si (pc := 46) X (c_X5_isFar l D cI cZ q2 a2 A t e hA (by omega) (by omega)) lm_X5_91 dX5_takesWord_46 [1, 2] rfl rfl rfl rfl rfl rfl ?_
      exact ret _ _ _ _ _ _ dX5_takesWord_49 rfl rfl (fun _ => gB_iI) (gPxi_e () (by unfold wkB; rw [if_pos (by omega), if_neg (by omega)]; unfold farB; exact gB_1) (by unfold wkW; rw [if_pos (by omega), if_neg (by omega)]) trivial)
    · refine g_aload_n (pc := 18) X dX5_takesWord_18 0 rfl ?_
      refine g_iconst (pc := 19) X dX5_takesWord_19 ?_
      refine g_put (pc := 20) X (ws' := [oR q a f n 1 r, oF q2 a2 (A 0) (A 1) (A 2) (A 3) (A 4), gA cI (a2 9) 200 (fun j => A (132 + j))]) fp_X5_34 dX5_takesWord_20 0 rfl rfl rfl rfl rfl ?_
      refine g_aload_n (pc := 23) X dX5_takesWord_23 0 rfl ?_
      refine g_get (pc := 24) X fl_X5_31 dX5_takesWord_24 0 (v := gi n) rfl rfl ?_
      refine g_bipush (pc := 27) X dX5_takesWord_27 (by decide +kernel) ?_
      refine g_icmpge (pc := 29) X 36 dX5_takesWord_29 (by decide) (by omega) (by omega) (fun h29 => ?_) (fun h29 => ?_)
      · refine g_iconst (pc := 36) X dX5_takesWord_36 ?_
        exact ret _ _ _ _ _ _ dX5_takesWord_37 rfl rfl (fun _ => Or.inl rfl) (gPxi_e () (by unfold wkB; rw [if_pos (by omega), if_pos (by omega), ← gB_1]; exact (gB_f (by omega)).symm) (by unfold wkW; rw [if_pos (by omega), if_pos (by omega)]) trivial)
      · refine g_iconst (pc := 32) X dX5_takesWord_32 ?_
        refine g_goto (pc := 33) X 37 dX5_takesWord_33 (by decide) ?_
        exact ret _ _ _ _ _ _ dX5_takesWord_37 rfl rfl (fun _ => Or.inr rfl) (gPxi_e () (by unfold wkB; rw [if_pos (by omega), if_pos (by omega), ← gB_1]; exact (gB_t (by omega)).symm) (by unfold wkW; rw [if_pos (by omega), if_pos (by omega)]) trivial)
  · refine g_iconst (pc := 7) X dX5_takesWord_7 ?_
    exact ret _ _ _ _ _ _ dX5_takesWord_8 rfl rfl (fun _ => Or.inl rfl) (gPxi_e () (by unfold wkB; rw [if_neg (by omega)]; rfl) (by unfold wkW; rw [if_neg (by omega)]) trivial)
