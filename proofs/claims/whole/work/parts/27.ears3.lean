/-! counts, CUPBOARD, WORDS, BEAST in the class -/
set_option maxHeartbeats 4000000 in
set_option maxRecDepth 100000 in
theorem c_J6_bitCount_0f7a4 (l : Launch) (D : va_G) (cI cZ : ClassId) (s : Int) (hs : 0 ≤ s ∧ s < 1024) : GM l D cI cZ yJ6_bitCount_0f7a4 cJ6_bitCount_0f7a4 1 (some .int) ({ frames := 0, cells := 0, slots := 0, locals := 0 }) 0 0 true [gi s] [] (gPi (bitc s)) := by
  refine g_enterI (z := false) (lv0 := [(0, gi s)]) _ rfl (by decide) rfl rfl (fun V X ret => ?_)
  refine g_iload_n (pc := 0) X dJ6_bitCount_0f7a4_0 0 rfl ?_
  refine g_iload_n (pc := 1) X dJ6_bitCount_0f7a4_1 0 rfl ?_
  refine g_iconst (pc := 2) X dJ6_bitCount_0f7a4_2 ?_
  refine g_iushr (pc := 3) X (r := shr s 1) dJ6_bitCount_0f7a4_3 (shr_h _ _) ?_
  refine g_ldcw (pc := 4) X dJ6_bitCount_0f7a4_4 kc_J6_265 ?_
  refine g_iand (pc := 7) X (r := and32 (shr s 1) 1431655765) dJ6_bitCount_0f7a4_7 (and32_h _ _) ?_
  refine g_isub (pc := 8) X dJ6_bitCount_0f7a4_8 ?_
  obtain ⟨s1, hs1⟩ : ∃ z : Int, z = pc1 s := ⟨_, rfl⟩
  refine g_top (b := s1) hs1.symm ?_
  refine g_istore_n (pc := 9) X (lv' := [(0, gi s1)]) dJ6_bitCount_0f7a4_9 rfl rfl ?_
  refine g_iload_n (pc := 10) X dJ6_bitCount_0f7a4_10 0 rfl ?_
  refine g_ldcw (pc := 11) X dJ6_bitCount_0f7a4_11 kc_J6_266 ?_
  refine g_iand (pc := 14) X (r := and32 s1 858993459) dJ6_bitCount_0f7a4_14 (and32_h _ _) ?_
  refine g_iload_n (pc := 15) X dJ6_bitCount_0f7a4_15 0 rfl ?_
  refine g_iconst (pc := 16) X dJ6_bitCount_0f7a4_16 ?_
  refine g_iushr (pc := 17) X (r := shr s1 2) dJ6_bitCount_0f7a4_17 (shr_h _ _) ?_
  refine g_ldcw (pc := 18) X dJ6_bitCount_0f7a4_18 kc_J6_266 ?_
  refine g_iand (pc := 21) X (r := and32 (shr s1 2) 858993459) dJ6_bitCount_0f7a4_21 (and32_h _ _) ?_
  refine g_iadd (pc := 22) X dJ6_bitCount_0f7a4_22 ?_
  obtain ⟨s2, hs2⟩ : ∃ z : Int, z = pc2 s1 := ⟨_, rfl⟩
  refine g_top (b := s2) hs2.symm ?_
  refine g_istore_n (pc := 23) X (lv' := [(0, gi s2)]) dJ6_bitCount_0f7a4_23 rfl rfl ?_
  refine g_iload_n (pc := 24) X dJ6_bitCount_0f7a4_24 0 rfl ?_
  refine g_iload_n (pc := 25) X dJ6_bitCount_0f7a4_25 0 rfl ?_
  refine g_iconst (pc := 26) X dJ6_bitCount_0f7a4_26 ?_
  refine g_iushr (pc := 27) X (r := shr s2 4) dJ6_bitCount_0f7a4_27 (shr_h _ _) ?_
  refine g_iadd (pc := 28) X dJ6_bitCount_0f7a4_28 ?_
  refine g_ldcw (pc := 29) X dJ6_bitCount_0f7a4_29 kc_J6_267 ?_
  refine g_iand (pc := 32) X (r := and32 (s2 + shr s2 4) 252645135) dJ6_bitCount_0f7a4_32 (and32_h _ _) ?_
  obtain ⟨s3, hs3⟩ : ∃ z : Int, z = pc3 s2 := ⟨_, rfl⟩
  refine g_top (b := s3) hs3.symm ?_
  refine g_istore_n (pc := 33) X (lv' := [(0, gi s3)]) dJ6_bitCount_0f7a4_33 rfl rfl ?_
  refine g_iload_n (pc := 34) X dJ6_bitCount_0f7a4_34 0 rfl ?_
  refine g_iload_n (pc := 35) X dJ6_bitCount_0f7a4_35 0 rfl ?_
  refine g_bipush (pc := 36) X dJ6_bitCount_0f7a4_36 (by decide +kernel) ?_
  refine g_iushr (pc := 38) X (r := shr s3 8) dJ6_bitCount_0f7a4_38 (shr_h _ _) ?_
  refine g_iadd (pc := 39) X dJ6_bitCount_0f7a4_39 ?_
  obtain ⟨s4, hs4⟩ : ∃ z : Int, z = pc4 s3 := ⟨_, rfl⟩
  refine g_top (b := s4) hs4.symm ?_
  refine g_istore_n (pc := 40) X (lv' := [(0, gi s4)]) dJ6_bitCount_0f7a4_40 rfl rfl ?_
  refine g_iload_n (pc := 41) X dJ6_bitCount_0f7a4_41 0 rfl ?_
  refine g_iload_n (pc := 42) X dJ6_bitCount_0f7a4_42 0 rfl ?_
  refine g_bipush (pc := 43) X dJ6_bitCount_0f7a4_43 (by decide +kernel) ?_
  refine g_iushr (pc := 45) X (r := shr s4 16) dJ6_bitCount_0f7a4_45 (shr_h _ _) ?_
  refine g_iadd (pc := 46) X dJ6_bitCount_0f7a4_46 ?_
  obtain ⟨s5, hs5⟩ : ∃ z : Int, z = pc5 s4 := ⟨_, rfl⟩
  refine g_top (b := s5) hs5.symm ?_
  refine g_istore_n (pc := 47) X (lv' := [(0, gi s5)]) dJ6_bitCount_0f7a4_47 rfl rfl ?_
  refine g_iload_n (pc := 48) X dJ6_bitCount_0f7a4_48 0 rfl ?_
  refine g_bipush (pc := 49) X dJ6_bitCount_0f7a4_49 (by decide +kernel) ?_
  refine g_iand (pc := 51) X (r := and32 s5 63) dJ6_bitCount_0f7a4_51 (and32_h _ _) ?_
  exact ret _ _ _ _ _ _ dJ6_bitCount_0f7a4_52 rfl rfl (fun h => by cases h) (gPi_e (by rw [hs5, hs4, hs3, hs2, hs1]; exact bc_eq hs))

set_option maxHeartbeats 4000000 in
set_option maxRecDepth 100000 in
theorem c_X0_worthiest (l : Launch) (D : va_G) (cI cZ : ClassId) (q2 : Nat) (a2 : Nat → Nat) (e1 : Int → Int) (e2 : Int → Int) (q : Nat) (a : Nat → Nat) (A : Int → Int) (k : Int) (hA : okA A) (hk : -2147483648 ≤ k ∧ k < 2147483648) (hh : ∀ t, 0 ≤ t → t < A 0 → hrd A t 0 e1 e2) : GM l D cI cZ yX0_worthiest cX0_worthiest 7 (some .int) ({ frames := 5, cells := 0, slots := 0, locals := 115 }) 0 0 true [.ref q2, .ref q, gi k] [oE q2 a2, gA cI (a2 1) 60 e1, gA cI (a2 2) 10 e2, oF q a (A 0) (A 1) (A 2) (A 3) (A 4), gA cI (a 5) 6 (fun j => A (85 + j))] (gPi (sCup A k)) := by
  refine g_enterI (z := false) (lv0 := [(0, .ref q2), (1, .ref q), (2, gi k)]) _ rfl (by decide) rfl rfl (fun V X ret => ?_)
  have hA1 := okA_1 hA
  have hA0 := okA_0 hA
  have hpw := pw_b (k := A 0) (c := 10) (C := 1024) rfl (by omega)
  refine g_iconst (pc := 0) X dX0_worthiest_0 ?_
  refine g_istore_n (pc := 1) X (lv' := [(0, .ref q2), (1, .ref q), (2, gi k), (3, gi 0)]) dX0_worthiest_1 rfl rfl ?_
  refine g_iconst (pc := 2) X dX0_worthiest_2 ?_
  refine g_istore (pc := 3) X (lv' := [(0, .ref q2), (1, .ref q), (2, gi k), (3, gi 0), (4, gi (-1))]) dX0_worthiest_3 rfl rfl ?_
  refine g_iconst (pc := 5) X dX0_worthiest_5 ?_
  refine g_istore (pc := 6) X (lv' := [(0, .ref q2), (1, .ref q), (2, gi k), (3, gi 0), (4, gi (-1)), (5, gi 0)]) dX0_worthiest_6 rfl rfl ?_
  have L8 : ∀ (n8 : Nat) (x : Int) (y : Int) (i : Int), (0 ≤ i ∧ i ≤ 2 ^ (A 0).toNat) → (-1 ≤ y ∧ y ≤ 594000) → ((x, y) = itr (fun s (p : Int × Int) => if bitc s = k then (if p.2 < sWorth A s then (s, sWorth A s) else p) else p) (0, -1) i) → (2 ^ (A 0).toNat - i).toNat < n8 → V 0 0 [oE q2 a2, gA cI (a2 1) 60 e1, gA cI (a2 2) 10 e2, oF q a (A 0) (A 1) (A 2) (A 3) (A 4), gA cI (a 5) 6 (fun j => A (85 + j))] 8 [(0, .ref q2), (1, .ref q), (2, gi k), (3, gi x), (4, gi y), (5, gi i)] [] := by
    intro n8
    induction n8 with
    | zero => intro x y i hi hy hx hn8; exact absurd hn8 (Nat.not_lt_zero _)
    | succ n8 ih8 =>
      intro x y i hi hy hx hn8
      refine g_iload (pc := 8) X dX0_worthiest_8 5 rfl ?_
      refine g_iconst (pc := 10) X dX0_worthiest_10 ?_
      refine g_aload_n (pc := 11) X dX0_worthiest_11 1 rfl ?_
      refine g_get (pc := 12) X fl_X0_21 dX0_worthiest_12 3 (v := gi (A 0)) rfl rfl ?_
      refine g_ishl (pc := 15) X dX0_worthiest_15 (by omega) (by omega) (by omega) ?_
      refine g_icmpge (pc := 16) X 57 dX0_worthiest_16 (by decide) (by omega) (by omega) (fun h16 => ?_) (fun h16 => ?_)
      · refine g_iload_n (pc := 57) X dX0_worthiest_57 3 rfl ?_
        exact ret _ _ _ _ _ _ dX0_worthiest_58 rfl rfl (fun h => by cases h) (gPi_e (by unfold sCup; rw [show (2 : Int) ^ (A 0).toNat = i by omega, ← hx]))
      · refine g_iload (pc := 19) X dX0_worthiest_19 5 rfl ?_
        refine gc_Si (pc := 21) X (c_J6_bitCount_0f7a4 l D cI cZ i (by omega)) lm_X0_88 dX0_worthiest_21 [] rfl rfl rfl rfl rfl rfl ?_
        have hbc := bitc_b i
        refine g_iload_n (pc := 24) X dX0_worthiest_24 2 rfl ?_
        refine g_icmpne (pc := 25) X 51 dX0_worthiest_25 (by decide) (by omega) (by omega) (fun h25 => ?_) (fun h25 => ?_)
        · refine g_iinc (pc := 51) X (lv' := [(0, .ref q2), (1, .ref q), (2, gi k), (3, gi x), (4, gi y), (5, gi (i + 1))]) dX0_worthiest_51 5 rfl rfl rfl ?_
          refine g_goto (pc := 54) X 8 dX0_worthiest_54 (by decide) ?_
          exact ih8 _ _ _ (by omega) (by omega) (by rw [itr_s hi.1, ← hx]; (try dsimp only); first | rw [if_pos (by omega), if_pos (by omega)] | rw [if_pos (by omega), if_neg (by omega)] | rw [if_neg (by omega)]) (by omega)
        · refine g_aload_n (pc := 28) X dX0_worthiest_28 0 rfl ?_
          refine g_aload_n (pc := 29) X dX0_worthiest_29 1 rfl ?_
          refine g_iload (pc := 30) X dX0_worthiest_30 5 rfl ?_
          refine gc_Vi (pc := 32) X (c_X0_worthOf l D cI cZ q2 a2 e1 e2 q a A i hA (by omega) hh) lm_X0_93 dX0_worthiest_32 [0, 1, 2, 3, 4] rfl rfl rfl rfl rfl rfl rfl rfl ?_
          refine g_istore (pc := 35) X (lv' := [(0, .ref q2), (1, .ref q), (2, gi k), (3, gi x), (4, gi y), (5, gi i), (6, gi (sWorth A i))]) dX0_worthiest_35 rfl rfl ?_
          have hwb := sWorth_c hA i
          refine g_iload (pc := 37) X dX0_worthiest_37 6 rfl ?_
          refine g_iload (pc := 39) X dX0_worthiest_39 4 rfl ?_
          refine g_icmple (pc := 41) X 51 dX0_worthiest_41 (by decide) (by omega) (by omega) (fun h41 => ?_) (fun h41 => ?_)
          · refine g_iinc (pc := 51) X (lv' := [(0, .ref q2), (1, .ref q), (2, gi k), (3, gi x), (4, gi y), (5, gi (i + 1)), (6, gi (sWorth A i))]) dX0_worthiest_51 5 rfl rfl rfl ?_
            refine g_goto (pc := 54) X 8 dX0_worthiest_54 (by decide) ?_
            refine g_lsub X [0, 1, 2, 3, 4, 5] rfl ?_
            exact ih8 _ _ _ (by omega) (by omega) (by rw [itr_s hi.1, ← hx]; (try dsimp only); first | rw [if_pos (by omega), if_pos (by omega)] | rw [if_pos (by omega), if_neg (by omega)] | rw [if_neg (by omega)]) (by omega)
          · refine g_iload (pc := 44) X dX0_worthiest_44 5 rfl ?_
            refine g_istore_n (pc := 46) X (lv' := [(0, .ref q2), (1, .ref q), (2, gi k), (3, gi i), (4, gi y), (5, gi i), (6, gi (sWorth A i))]) dX0_worthiest_46 rfl rfl ?_
            refine g_iload (pc := 47) X dX0_worthiest_47 6 rfl ?_
            refine g_istore (pc := 49) X (lv' := [(0, .ref q2), (1, .ref q), (2, gi k), (3, gi i), (4, gi (sWorth A i)), (5, gi i), (6, gi (sWorth A i))]) dX0_worthiest_49 rfl rfl ?_
            refine g_iinc (pc := 51) X (lv' := [(0, .ref q2), (1, .ref q), (2, gi k), (3, gi i), (4, gi (sWorth A i)), (5, gi (i + 1)), (6, gi (sWorth A i))]) dX0_worthiest_51 5 rfl rfl rfl ?_
            refine g_goto (pc := 54) X 8 dX0_worthiest_54 (by decide) ?_
            refine g_lsub X [0, 1, 2, 3, 4, 5] rfl ?_
            exact ih8 _ _ _ (by omega) (by omega) (by rw [itr_s hi.1, ← hx]; (try dsimp only); first | rw [if_pos (by omega), if_pos (by omega)] | rw [if_pos (by omega), if_neg (by omega)] | rw [if_neg (by omega)]) (by omega)
  exact L8 _ _ _ _ (by omega) (by omega) rfl (Nat.lt_succ_self _)

set_option maxHeartbeats 4000000 in
set_option maxRecDepth 100000 in
theorem c_X0_isClear (l : Launch) (D : va_G) (cI cZ : ClassId) (q2 : Nat) (a2 : Nat → Nat) (e1 : Int → Int) (e2 : Int → Int) (q : Nat) (a : Nat → Nat) (A : Int → Int) (m : Int) (hA : okA A) (hm : 0 ≤ m ∧ m < A 1) (hh : ∀ t, 0 ≤ t → t < A 0 → hrd A t 0 e1 e2) : GM l D cI cZ yX0_isClear cX0_isClear 5 (some .boolean) ({ frames := 4, cells := 0, slots := 0, locals := 90 }) 0 0 true [.ref q2, .ref q, gi m] [oE q2 a2, gA cI (a2 1) 60 e1, gA cI (a2 2) 10 e2, oF q a (A 0) (A 1) (A 2) (A 3) (A 4)] (gPi (sClr A m)) := by
  refine g_enterI (z := true) (lv0 := [(0, .ref q2), (1, .ref q), (2, gi m)]) _ rfl (by decide) rfl rfl (fun V X ret => ?_)
  have hA1 := okA_1 hA
  have hA0 := okA_0 hA
  have hbb := sBest_b (A := A) (m := m) hA0.1
  refine g_aload_n (pc := 0) X dX0_isClear_0 0 rfl ?_
  refine g_aload_n (pc := 1) X dX0_isClear_1 1 rfl ?_
  refine g_iload_n (pc := 2) X dX0_isClear_2 2 rfl ?_
  refine gc_Vi (pc := 3) X (c_X0_bestFor l D cI cZ q2 a2 e1 e2 q a _ m hA (by omega) (by omega)) lm_X0_106 dX0_isClear_3 [0, 1, 2, 3] rfl rfl rfl rfl rfl rfl rfl rfl ?_
  obtain ⟨f, hf⟩ : ∃ z : Int, z = sBest A m := ⟨_, rfl⟩
  refine g_top (b := f) hf.symm ?_
  have hfb : -1 ≤ f ∧ f < max (A 0) 1 ∧ (0 < A 0 → 0 ≤ f ∧ f < A 0) := by rw [hf]; exact hbb
  have hf0 : A 0 = 0 → f = -1 := by intro h; rw [hf]; unfold sBest; rw [h]; rfl
  refine g_istore_n (pc := 6) X (lv' := [(0, .ref q2), (1, .ref q), (2, gi m), (3, gi f)]) dX0_isClear_6 rfl rfl ?_
  refine g_iload_n (pc := 7) X dX0_isClear_7 3 rfl ?_
  refine g_iconst (pc := 8) X dX0_isClear_8 ?_
  refine g_icmpeq (pc := 9) X 21 dX0_isClear_9 (by decide) (by omega) (by omega) (fun h9 => ?_) (fun h9 => ?_)
  · refine g_iconst (pc := 21) X dX0_isClear_21 ?_
    exact ret _ _ _ _ _ _ dX0_isClear_22 rfl rfl (fun _ => Or.inl rfl) (gPi_e (by refine (sClr_f (fun c => ?_)).symm; unfold clearP at c; rw [← hf] at c; omega))
  · have hft := sTot_b hA (t := f) (far := 0) (by omega) (by omega)
    refine g_aload_n (pc := 12) X dX0_isClear_12 0 rfl ?_
    refine g_iload_n (pc := 13) X dX0_isClear_13 3 rfl ?_
    refine gc_Vi (pc := 14) X (c_X0_total l D cI cZ q2 a2 e2 f (by omega)) lm_X0_78 dX0_isClear_14 [0, 2] rfl rfl rfl rfl rfl rfl rfl rfl ?_
    refine g_top (b := sTot A f 0) (hh f (by omega) (by omega)).2 ?_
    refine g_iconst (pc := 17) X dX0_isClear_17 ?_
    refine g_icmpge (pc := 18) X 23 dX0_isClear_18 (by decide) (by omega) (by omega) (fun h18 => ?_) (fun h18 => ?_)
    · refine g_iconst (pc := 23) X dX0_isClear_23 ?_
      refine g_istore (pc := 24) X (lv' := [(0, .ref q2), (1, .ref q), (2, gi m), (3, gi f), (4, gi 0)]) dX0_isClear_24 rfl rfl ?_
      have hlm := sLike_b hA (t := f) (m := m) (far := 0) (by omega) (by omega) (by omega)
      have L26 : ∀ (n26 : Nat) (j : Int), (0 ≤ j ∧ j ≤ A 1) → (∀ q, 0 ≤ q → q < j → q ≠ m → sLike A f q 0 < sLike A f m 0) → (A 1 - j).toNat < n26 → V 0 0 [oE q2 a2, gA cI (a2 1) 60 e1, gA cI (a2 2) 10 e2, oF q a (A 0) (A 1) (A 2) (A 3) (A 4)] 26 [(0, .ref q2), (1, .ref q), (2, gi m), (3, gi f), (4, gi j)] [] := by
        intro n26
        induction n26 with
        | zero => intro j hj hc hn26; exact absurd hn26 (Nat.not_lt_zero _)
        | succ n26 ih26 =>
          intro j hj hc hn26
          have hlm := sLike_b hA (t := f) (m := m) (far := 0) (by omega) (by omega) (by omega)
          refine g_iload (pc := 26) X dX0_isClear_26 4 rfl ?_
          refine g_aload_n (pc := 28) X dX0_isClear_28 1 rfl ?_
          refine g_get (pc := 29) X fl_X0_41 dX0_isClear_29 3 (v := gi (A 1)) rfl rfl ?_
          refine g_icmpge (pc := 32) X 65 dX0_isClear_32 (by decide) (by omega) (by omega) (fun h32 => ?_) (fun h32 => ?_)
          · refine g_iconst (pc := 65) X dX0_isClear_65 ?_
            exact ret _ _ _ _ _ _ dX0_isClear_66 rfl rfl (fun _ => Or.inr rfl) (gPi_e (by refine (sClr_t ?_).symm; unfold clearP; rw [← hf]; exact ⟨by omega, by omega, fun q h0 h1 => hc q h0 (by omega)⟩))
          · refine g_iload (pc := 35) X dX0_isClear_35 4 rfl ?_
            refine g_iload_n (pc := 37) X dX0_isClear_37 2 rfl ?_
            refine g_icmpeq (pc := 38) X 59 dX0_isClear_38 (by decide) (by omega) (by omega) (fun h38 => ?_) (fun h38 => ?_)
            · refine g_iinc (pc := 59) X (lv' := [(0, .ref q2), (1, .ref q), (2, gi m), (3, gi f), (4, gi (j + 1))]) dX0_isClear_59 4 rfl rfl rfl ?_
              refine g_goto (pc := 62) X 26 dX0_isClear_62 (by decide) ?_
              have hlm := sLike_b hA (t := f) (m := m) (far := 0) (by omega) (by omega) (by omega)
              exact ih26 _ (by omega) (all_s (P := fun q => q ≠ m → sLike A f q 0 < sLike A f m 0) hc (fun hne => by omega)) (by omega)
            · have hlj := sLike_b hA (t := f) (m := j) (far := 0) (by omega) (by omega) (by omega)
              refine g_aload_n (pc := 41) X dX0_isClear_41 0 rfl ?_
              refine g_iload_n (pc := 42) X dX0_isClear_42 3 rfl ?_
              refine g_iload (pc := 43) X dX0_isClear_43 4 rfl ?_
              refine gc_Vi (pc := 45) X (c_X0_like l D cI cZ q2 a2 e1 f j (by omega) (by omega)) lm_X0_75 dX0_isClear_45 [0, 1] rfl rfl rfl rfl rfl rfl rfl rfl ?_
              refine g_top (b := sLike A f j 0) ((hh f (by omega) (by omega)).1 j hj.1 (by omega)) ?_
              refine g_aload_n (pc := 48) X dX0_isClear_48 0 rfl ?_
              refine g_iload_n (pc := 49) X dX0_isClear_49 3 rfl ?_
              refine g_iload_n (pc := 50) X dX0_isClear_50 2 rfl ?_
              refine gc_Vi (pc := 51) X (c_X0_like l D cI cZ q2 a2 e1 f m (by omega) (by omega)) lm_X0_75 dX0_isClear_51 [0, 1] rfl rfl rfl rfl rfl rfl rfl rfl ?_
              refine g_top (b := sLike A f m 0) ((hh f (by omega) (by omega)).1 m hm.1 hm.2) ?_
              refine g_icmplt (pc := 54) X 59 dX0_isClear_54 (by decide) (by omega) (by omega) (fun h54 => ?_) (fun h54 => ?_)
              · refine g_iinc (pc := 59) X (lv' := [(0, .ref q2), (1, .ref q), (2, gi m), (3, gi f), (4, gi (j + 1))]) dX0_isClear_59 4 rfl rfl rfl ?_
                refine g_goto (pc := 62) X 26 dX0_isClear_62 (by decide) ?_
                have hlm := sLike_b hA (t := f) (m := m) (far := 0) (by omega) (by omega) (by omega)
                exact ih26 _ (by omega) (all_s (P := fun q => q ≠ m → sLike A f q 0 < sLike A f m 0) hc (fun hne => by omega)) (by omega)
              · refine g_iconst (pc := 57) X dX0_isClear_57 ?_
                exact ret _ _ _ _ _ _ dX0_isClear_58 rfl rfl (fun _ => Or.inl rfl) (gPi_e (by refine (sClr_f (fun c => ?_)).symm; unfold clearP at c; rw [← hf] at c; have := c.2.2 j (by omega) (by omega) (by omega); omega))
      exact L26 _ _ (by omega) all_0 (Nat.lt_succ_self _)
    · refine g_iconst (pc := 21) X dX0_isClear_21 ?_
      exact ret _ _ _ _ _ _ dX0_isClear_22 rfl rfl (fun _ => Or.inl rfl) (gPi_e (by refine (sClr_f (fun c => ?_)).symm; unfold clearP at c; rw [← hf] at c; omega))

set_option maxHeartbeats 4000000 in
set_option maxRecDepth 100000 in
theorem c_X0_unclear (l : Launch) (D : va_G) (cI cZ : ClassId) (q2 : Nat) (a2 : Nat → Nat) (e1 : Int → Int) (e2 : Int → Int) (q : Nat) (a : Nat → Nat) (A : Int → Int) (hA : okA A) (hh : ∀ t, 0 ≤ t → t < A 0 → hrd A t 0 e1 e2) : GM l D cI cZ yX0_unclear cX0_unclear 4 (some .int) ({ frames := 5, cells := 0, slots := 0, locals := 114 }) 0 0 true [.ref q2, .ref q] [oE q2 a2, gA cI (a2 1) 60 e1, gA cI (a2 2) 10 e2, oF q a (A 0) (A 1) (A 2) (A 3) (A 4)] (gPi (sWords A)) := by
  refine g_enterI (z := false) (lv0 := [(0, .ref q2), (1, .ref q)]) _ rfl (by decide) rfl rfl (fun V X ret => ?_)
  have hA1 := okA_1 hA
  have hA0 := okA_0 hA
  refine g_iconst (pc := 0) X dX0_unclear_0 ?_
  refine g_istore_n (pc := 1) X (lv' := [(0, .ref q2), (1, .ref q), (2, gi 0)]) dX0_unclear_1 rfl rfl ?_
  refine g_iconst (pc := 2) X dX0_unclear_2 ?_
  refine g_istore_n (pc := 3) X (lv' := [(0, .ref q2), (1, .ref q), (2, gi 0), (3, gi 0)]) dX0_unclear_3 rfl rfl ?_
  have L4 : ∀ (n4 : Nat) (x : Int) (i : Int), (0 ≤ i ∧ i ≤ A 1) → (0 ≤ x ∧ x < 2 ^ i.toNat) → (x = sm (fun m => if sClr A m = 1 then 0 else 2 ^ m.toNat) i) → (A 1 - i).toNat < n4 → V 0 0 [oE q2 a2, gA cI (a2 1) 60 e1, gA cI (a2 2) 10 e2, oF q a (A 0) (A 1) (A 2) (A 3) (A 4)] 4 [(0, .ref q2), (1, .ref q), (2, gi x), (3, gi i)] [] := by
    intro n4
    induction n4 with
    | zero => intro x i hi hxb hx hn4; exact absurd hn4 (Nat.not_lt_zero _)
    | succ n4 ih4 =>
      intro x i hi hxb hx hn4
      have hpw := pw_b (k := i) (c := 6) (C := 64) rfl (by omega)
      have hcl := sClr_n A i
      refine g_iload_n (pc := 4) X dX0_unclear_4 3 rfl ?_
      refine g_aload_n (pc := 5) X dX0_unclear_5 1 rfl ?_
      refine g_get (pc := 6) X fl_X0_41 dX0_unclear_6 3 (v := gi (A 1)) rfl rfl ?_
      refine g_icmpge (pc := 9) X 33 dX0_unclear_9 (by decide) (by omega) (by omega) (fun h9 => ?_) (fun h9 => ?_)
      · refine g_iload_n (pc := 33) X dX0_unclear_33 2 rfl ?_
        exact ret _ _ _ _ _ _ dX0_unclear_34 rfl rfl (fun h => by cases h) (gPi_e (by rw [hx, show i = A 1 by omega]; rfl))
      · refine g_aload_n (pc := 12) X dX0_unclear_12 0 rfl ?_
        refine g_aload_n (pc := 13) X dX0_unclear_13 1 rfl ?_
        refine g_iload_n (pc := 14) X dX0_unclear_14 3 rfl ?_
        refine gc_Vi (pc := 15) X (c_X0_isClear l D cI cZ q2 a2 e1 e2 q a _ i hA (by omega) (by omega)) lm_X0_102 dX0_unclear_15 [0, 1, 2, 3] rfl rfl rfl rfl rfl rfl rfl rfl ?_
        refine g_ifne (pc := 18) X 27 dX0_unclear_18 (by decide) (by omega) (fun h18 => ?_) (fun h18 => ?_)
        · refine g_iinc (pc := 27) X (lv' := [(0, .ref q2), (1, .ref q), (2, gi x), (3, gi (i + 1))]) dX0_unclear_27 3 rfl rfl rfl ?_
          refine g_goto (pc := 30) X 4 dX0_unclear_30 (by decide) ?_
          exact ih4 _ _ (by omega) (by rw [pw_s hi.1]; omega) (by rw [hx, sm_s hi.1]; (try dsimp only); first | rw [if_pos (by omega), Int.add_zero] | rw [if_neg (by omega)]) (by omega)
        · refine g_iload_n (pc := 21) X dX0_unclear_21 2 rfl ?_
          refine g_iconst (pc := 22) X dX0_unclear_22 ?_
          refine g_iload_n (pc := 23) X dX0_unclear_23 3 rfl ?_
          refine g_ishl (pc := 24) X dX0_unclear_24 (by omega) (by omega) (by omega) ?_
          refine g_ior (pc := 25) X (r := x + (2 ^ i.toNat)) dX0_unclear_25 (iI_orp hxb) ?_
          refine g_istore_n (pc := 26) X (lv' := [(0, .ref q2), (1, .ref q), (2, gi (x + (2 ^ i.toNat))), (3, gi i)]) dX0_unclear_26 rfl rfl ?_
          refine g_iinc (pc := 27) X (lv' := [(0, .ref q2), (1, .ref q), (2, gi (x + (2 ^ i.toNat))), (3, gi (i + 1))]) dX0_unclear_27 3 rfl rfl rfl ?_
          refine g_goto (pc := 30) X 4 dX0_unclear_30 (by decide) ?_
          exact ih4 _ _ (by omega) (by rw [pw_s hi.1]; omega) (by rw [hx, sm_s hi.1]; (try dsimp only); first | rw [if_pos (by omega), Int.add_zero] | rw [if_neg (by omega)]) (by omega)
  exact L4 _ _ _ (by omega) (by decide) rfl (Nat.lt_succ_self _)

set_option maxHeartbeats 4000000 in
set_option maxRecDepth 100000 in
theorem c_X0_farOfThree (l : Launch) (D : va_G) (cI cZ : ClassId) (q2 : Nat) (a2 : Nat → Nat) (e0 : Int → Int) (q : Nat) (a : Nat → Nat) (A : Int → Int) (i : Int) (j : Int) (k : Int) (m : Int) (hA : okA A) (hi : 0 ≤ i ∧ i < A 0) (hj : 0 ≤ j ∧ j < A 0) (hk : 0 ≤ k ∧ k < A 0) (hm : 0 ≤ m ∧ m < A 1) (hl : ∀ t, 0 ≤ t → t < A 0 → ∀ b, 0 ≤ b → b < 6 → e0 (6 * t + b) = sLoud A t b 0) : GM l D cI cZ yX0_farOfThree cX0_farOfThree 9 (some .int) ({ frames := 2, cells := 0, slots := 0, locals := 43 }) 0 0 true [.ref q2, .ref q, gi i, gi j, gi k, gi m] [oE q2 a2, gA cI (a2 0) 60 e0, oF q a (A 0) (A 1) (A 2) (A 3) (A 4), gA cI (a 6) 36 (fun j => A (91 + j))] (gPi (sFar3 A i j k m)) := by
  refine g_enterI (z := false) (lv0 := [(0, .ref q2), (1, .ref q), (2, gi i), (3, gi j), (4, gi k), (5, gi m)]) _ rfl (by decide) rfl rfl (fun V X ret => ?_)
  have hA1 := okA_1 hA
  have hA0 := okA_0 hA
  refine g_iconst (pc := 0) X dX0_farOfThree_0 ?_
  refine g_istore (pc := 1) X (lv' := [(0, .ref q2), (1, .ref q), (2, gi i), (3, gi j), (4, gi k), (5, gi m), (6, gi 0)]) dX0_farOfThree_1 rfl rfl ?_
  refine g_iconst (pc := 3) X dX0_farOfThree_3 ?_
  refine g_istore (pc := 4) X (lv' := [(0, .ref q2), (1, .ref q), (2, gi i), (3, gi j), (4, gi k), (5, gi m), (6, gi 0), (7, gi 0)]) dX0_farOfThree_4 rfl rfl ?_
  have L6 : ∀ (n6 : Nat) (x : Int) (b : Int), (0 ≤ b ∧ b ≤ 6) → (x = sm (fun b => gabs (gmin 799 (sLoud A i b 0 + sLoud A j b 0 + sLoud A k b 0) - A (91 + 6 * m + b))) b) → (0 ≤ x ∧ x ≤ b * 799) → (6 - b).toNat < n6 → V 0 0 [oE q2 a2, gA cI (a2 0) 60 e0, oF q a (A 0) (A 1) (A 2) (A 3) (A 4), gA cI (a 6) 36 (fun j => A (91 + j))] 6 [(0, .ref q2), (1, .ref q), (2, gi i), (3, gi j), (4, gi k), (5, gi m), (6, gi x), (7, gi b)] [] := by
    intro n6
    induction n6 with
    | zero => intro x b hb hx hxb hn6; exact absurd hn6 (Nat.not_lt_zero _)
    | succ n6 ih6 =>
      intro x b hb hx hxb hn6
      refine g_iload (pc := 6) X dX0_farOfThree_6 7 rfl ?_
      refine g_bipush (pc := 8) X dX0_farOfThree_8 (by decide +kernel) ?_
      refine g_icmpge (pc := 10) X 77 dX0_farOfThree_10 (by decide) (by omega) (by omega) (fun h10 => ?_) (fun h10 => ?_)
      · refine g_iload (pc := 77) X dX0_farOfThree_77 6 rfl ?_
        exact ret _ _ _ _ _ _ dX0_farOfThree_79 rfl rfl (fun h => by cases h) (gPi_e (by rw [hx, show b = 6 by omega]; rfl))
      · have ht3 := sFar3_t hA (i := i) (j := j) (k := k) (m := m) (b := b) (by omega) (by omega) (by omega) (by omega) (by omega)
        refine g_aload_n (pc := 13) X dX0_farOfThree_13 0 rfl ?_
        refine g_iload_n (pc := 14) X dX0_farOfThree_14 2 rfl ?_
        refine g_iload (pc := 15) X dX0_farOfThree_15 7 rfl ?_
        refine gc_Vi (pc := 17) X (c_X0_loudOf l D cI cZ q2 a2 e0 i b (by omega) (by omega)) lm_X0_48 dX0_farOfThree_17 [0, 1] rfl rfl rfl rfl rfl rfl rfl rfl ?_
        refine g_top (b := sLoud A i b 0) (hl i hi.1 hi.2 b hb.1 (by omega)) ?_
        refine g_aload_n (pc := 20) X dX0_farOfThree_20 0 rfl ?_
        refine g_iload_n (pc := 21) X dX0_farOfThree_21 3 rfl ?_
        refine g_iload (pc := 22) X dX0_farOfThree_22 7 rfl ?_
        refine gc_Vi (pc := 24) X (c_X0_loudOf l D cI cZ q2 a2 e0 j b (by omega) (by omega)) lm_X0_48 dX0_farOfThree_24 [0, 1] rfl rfl rfl rfl rfl rfl rfl rfl ?_
        refine g_top (b := sLoud A j b 0) (hl j hj.1 hj.2 b hb.1 (by omega)) ?_
        refine g_iadd (pc := 27) X dX0_farOfThree_27 ?_
        refine g_aload_n (pc := 28) X dX0_farOfThree_28 0 rfl ?_
        refine g_iload (pc := 29) X dX0_farOfThree_29 4 rfl ?_
        refine g_iload (pc := 31) X dX0_farOfThree_31 7 rfl ?_
        refine gc_Vi (pc := 33) X (c_X0_loudOf l D cI cZ q2 a2 e0 k b (by omega) (by omega)) lm_X0_48 dX0_farOfThree_33 [0, 1] rfl rfl rfl rfl rfl rfl rfl rfl ?_
        refine g_top (b := sLoud A k b 0) (hl k hk.1 hk.2 b hb.1 (by omega)) ?_
        refine g_iadd (pc := 36) X dX0_farOfThree_36 ?_
        refine g_istore (pc := 37) X (lv' := [(0, .ref q2), (1, .ref q), (2, gi i), (3, gi j), (4, gi k), (5, gi m), (6, gi x), (7, gi b), (8, gi (sLoud A i b 0 + sLoud A j b 0 + sLoud A k b 0))]) dX0_farOfThree_37 rfl rfl ?_
        refine g_iload (pc := 39) X dX0_farOfThree_39 6 rfl ?_
        refine g_sipush (pc := 41) X dX0_farOfThree_41 (by decide +kernel) ?_
        refine g_iload (pc := 44) X dX0_farOfThree_44 8 rfl ?_
        refine g_min (pc := 46) X lm_X0_114 dX0_farOfThree_46 (by omega) (by omega) rfl ?_
        refine g_aload_n (pc := 49) X dX0_farOfThree_49 1 rfl ?_
        refine g_get (pc := 50) X fl_X0_52 dX0_farOfThree_50 2 (v := .ref (a 6)) rfl rfl ?_
        refine g_iload (pc := 53) X dX0_farOfThree_53 5 rfl ?_
        refine g_bipush (pc := 55) X dX0_farOfThree_55 (by decide +kernel) ?_
        refine g_imul (pc := 57) X dX0_farOfThree_57 ?_
        refine g_iload (pc := 58) X dX0_farOfThree_58 7 rfl ?_
        refine g_iadd (pc := 60) X dX0_farOfThree_60 ?_
        refine gc_Ni (pc := 61) X (c_X8_look l D cI cZ (a 6) 36 (fun j => A (91 + j)) (m * 6 + b) (by omega) rfl) lm_X0_55 dX0_farOfThree_61 [3] rfl rfl rfl rfl rfl rfl ?_
        refine g_top (b := A (91 + 6 * m + b)) (Eq.trans (lk_in (by omega)) (congrArg A (by omega))) ?_
        refine g_isub (pc := 64) X dX0_farOfThree_64 ?_
        refine g_abs (pc := 65) X lm_X0_59 dX0_farOfThree_65 (by omega) rfl ?_
        refine g_iadd (pc := 68) X dX0_farOfThree_68 ?_
        refine g_istore (pc := 69) X (lv' := [(0, .ref q2), (1, .ref q), (2, gi i), (3, gi j), (4, gi k), (5, gi m), (6, gi (x + gabs (gmin 799 (sLoud A i b 0 + sLoud A j b 0 + sLoud A k b 0) - A (91 + 6 * m + b)))), (7, gi b), (8, gi (sLoud A i b 0 + sLoud A j b 0 + sLoud A k b 0))]) dX0_farOfThree_69 rfl rfl ?_
        refine g_iinc (pc := 71) X (lv' := [(0, .ref q2), (1, .ref q), (2, gi i), (3, gi j), (4, gi k), (5, gi m), (6, gi (x + gabs (gmin 799 (sLoud A i b 0 + sLoud A j b 0 + sLoud A k b 0) - A (91 + 6 * m + b)))), (7, gi (b + 1)), (8, gi (sLoud A i b 0 + sLoud A j b 0 + sLoud A k b 0))]) dX0_farOfThree_71 7 rfl rfl rfl ?_
        refine g_goto (pc := 74) X 6 dX0_farOfThree_74 (by decide) ?_
        refine g_lsub X [0, 1, 2, 3, 4, 5, 6, 7] rfl ?_
        exact ih6 _ _ (by omega) (by rw [hx, sm_s hb.1]) (by omega) (by omega)
  exact L6 _ _ _ (by omega) rfl (by omega) (Nat.lt_succ_self _)

set_option maxHeartbeats 4000000 in
set_option maxRecDepth 100000 in
theorem c_X0_nearestThree (l : Launch) (D : va_G) (cI cZ : ClassId) (q2 : Nat) (a2 : Nat → Nat) (e0 : Int → Int) (q : Nat) (a : Nat → Nat) (A : Int → Int) (m : Int) (hA : okA A) (hm : 0 ≤ m ∧ m < A 1) (hl : ∀ t, 0 ≤ t → t < A 0 → ∀ b, 0 ≤ b → b < 6 → e0 (6 * t + b) = sLoud A t b 0) : GM l D cI cZ yX0_nearestThree cX0_nearestThree 9 (some .int) ({ frames := 3, cells := 0, slots := 0, locals := 71 }) 0 0 true [.ref q2, .ref q, gi m] [oE q2 a2, gA cI (a2 0) 60 e0, oF q a (A 0) (A 1) (A 2) (A 3) (A 4), gA cI (a 6) 36 (fun j => A (91 + j))] (gPi (sBeast A m)) := by
  refine g_enterI (z := false) (lv0 := [(0, .ref q2), (1, .ref q), (2, gi m)]) _ rfl (by decide) rfl rfl (fun V X ret => ?_)
  have hA1 := okA_1 hA
  have hA0 := okA_0 hA
  refine g_iconst (pc := 0) X dX0_nearestThree_0 ?_
  refine g_istore_n (pc := 1) X (lv' := [(0, .ref q2), (1, .ref q), (2, gi m), (3, gi 0)]) dX0_nearestThree_1 rfl rfl ?_
  refine g_ldc (pc := 2) X dX0_nearestThree_2 kc_X0_109 ?_
  refine g_istore (pc := 4) X (lv' := [(0, .ref q2), (1, .ref q), (2, gi m), (3, gi 0), (4, gi 1000000)]) dX0_nearestThree_4 rfl rfl ?_
  refine g_iconst (pc := 6) X dX0_nearestThree_6 ?_
  refine g_istore (pc := 7) X (lv' := [(0, .ref q2), (1, .ref q), (2, gi m), (3, gi 0), (4, gi 1000000), (5, gi 0)]) dX0_nearestThree_7 rfl rfl ?_
  have L9 : ∀ (n9 : Nat) (x : Int) (y : Int) (i : Int), (0 ≤ i ∧ i ≤ A 0) → (0 ≤ y ∧ y ≤ 1000000) → ((x, y) = itr (sB3 A m) (0, 1000000) (100 * i)) → (A 0 - i).toNat < n9 → V 0 0 [oE q2 a2, gA cI (a2 0) 60 e0, oF q a (A 0) (A 1) (A 2) (A 3) (A 4), gA cI (a 6) 36 (fun j => A (91 + j))] 9 [(0, .ref q2), (1, .ref q), (2, gi m), (3, gi x), (4, gi y), (5, gi i)] [] := by
    intro n9
    induction n9 with
    | zero => intro x y i hi hy hx hn9; exact absurd hn9 (Nat.not_lt_zero _)
    | succ n9 ih9 =>
      intro x y i hi hy hx hn9
      refine g_iload (pc := 9) X dX0_nearestThree_9 5 rfl ?_
      refine g_aload_n (pc := 11) X dX0_nearestThree_11 1 rfl ?_
      refine g_get (pc := 12) X fl_X0_21 dX0_nearestThree_12 2 (v := gi (A 0)) rfl rfl ?_
      refine g_icmpge (pc := 15) X 106 dX0_nearestThree_15 (by decide) (by omega) (by omega) (fun h15 => ?_) (fun h15 => ?_)
      · refine g_iload_n (pc := 106) X dX0_nearestThree_106 3 rfl ?_
        exact ret _ _ _ _ _ _ dX0_nearestThree_107 rfl rfl (fun h => by cases h) (gPi_e (by unfold sBeast; have hz := b3_skip2 (A := A) (m := m) (c := 100 * i) (c' := 1000) (by omega) (by omega) (fun s t u d0 d1 d2 d3 d4 d5 d6 d7 d8 => by omega); rw [← hz, ← hx]))
      · refine g_iload (pc := 18) X dX0_nearestThree_18 5 rfl ?_
        refine g_iconst (pc := 20) X dX0_nearestThree_20 ?_
        refine g_iadd (pc := 21) X dX0_nearestThree_21 ?_
        refine g_istore (pc := 22) X (lv' := [(0, .ref q2), (1, .ref q), (2, gi m), (3, gi x), (4, gi y), (5, gi i), (6, gi (i + 1))]) dX0_nearestThree_22 rfl rfl ?_
        have L24 : ∀ (n24 : Nat) (x : Int) (y : Int) (j : Int), (i < j ∧ j ≤ A 0) → (0 ≤ y ∧ y ≤ 1000000) → ((x, y) = itr (sB3 A m) (0, 1000000) (100 * i + 10 * j)) → (A 0 - j).toNat < n24 → V 0 0 [oE q2 a2, gA cI (a2 0) 60 e0, oF q a (A 0) (A 1) (A 2) (A 3) (A 4), gA cI (a 6) 36 (fun j => A (91 + j))] 24 [(0, .ref q2), (1, .ref q), (2, gi m), (3, gi x), (4, gi y), (5, gi i), (6, gi j)] [] := by
          intro n24
          induction n24 with
          | zero => intro x y j hj hy_24 hx_24 hn24; exact absurd hn24 (Nat.not_lt_zero _)
          | succ n24 ih24 =>
            intro x y j hj hy_24 hx_24 hn24
            refine g_iload (pc := 24) X dX0_nearestThree_24 6 rfl ?_
            refine g_aload_n (pc := 26) X dX0_nearestThree_26 1 rfl ?_
            refine g_get (pc := 27) X fl_X0_21 dX0_nearestThree_27 2 (v := gi (A 0)) rfl rfl ?_
            refine g_icmpge (pc := 30) X 100 dX0_nearestThree_30 (by decide) (by omega) (by omega) (fun h30 => ?_) (fun h30 => ?_)
            · refine g_iinc (pc := 100) X (lv' := [(0, .ref q2), (1, .ref q), (2, gi m), (3, gi x), (4, gi y), (5, gi (i + 1)), (6, gi j)]) dX0_nearestThree_100 5 rfl rfl rfl ?_
              refine g_goto (pc := 103) X 9 dX0_nearestThree_103 (by decide) ?_
              refine g_lsub X [0, 1, 2, 3, 4, 5] rfl ?_
              exact ih9 _ _ _ (by omega) (by omega) (by rw [hx_24]; exact b3_skip2 (by omega) (by omega) (fun s t u d0 d1 d2 d3 d4 d5 d6 d7 d8 => by (have q1 : s ≤ i := (by omega)); (have q2 : i ≤ s := (by omega)); omega)) (by omega)
            · refine g_iload (pc := 33) X dX0_nearestThree_33 6 rfl ?_
              refine g_iconst (pc := 35) X dX0_nearestThree_35 ?_
              refine g_iadd (pc := 36) X dX0_nearestThree_36 ?_
              refine g_istore (pc := 37) X (lv' := [(0, .ref q2), (1, .ref q), (2, gi m), (3, gi x), (4, gi y), (5, gi i), (6, gi j), (7, gi (j + 1))]) dX0_nearestThree_37 rfl rfl ?_
              have L39 : ∀ (n39 : Nat) (x : Int) (y : Int) (k : Int), (j < k ∧ k ≤ A 0) → (0 ≤ y ∧ y ≤ 1000000) → ((x, y) = itr (sB3 A m) (0, 1000000) (100 * i + 10 * j + k)) → (A 0 - k).toNat < n39 → V 0 0 [oE q2 a2, gA cI (a2 0) 60 e0, oF q a (A 0) (A 1) (A 2) (A 3) (A 4), gA cI (a 6) 36 (fun j => A (91 + j))] 39 [(0, .ref q2), (1, .ref q), (2, gi m), (3, gi x), (4, gi y), (5, gi i), (6, gi j), (7, gi k)] [] := by
                intro n39
                induction n39 with
                | zero => intro x y k hk hy_39 hx_39 hn39; exact absurd hn39 (Nat.not_lt_zero _)
                | succ n39 ih39 =>
                  intro x y k hk hy_39 hx_39 hn39
                  refine g_iload (pc := 39) X dX0_nearestThree_39 7 rfl ?_
                  refine g_aload_n (pc := 41) X dX0_nearestThree_41 1 rfl ?_
                  refine g_get (pc := 42) X fl_X0_21 dX0_nearestThree_42 2 (v := gi (A 0)) rfl rfl ?_
                  refine g_icmpge (pc := 45) X 94 dX0_nearestThree_45 (by decide) (by omega) (by omega) (fun h45 => ?_) (fun h45 => ?_)
                  · refine g_iinc (pc := 94) X (lv' := [(0, .ref q2), (1, .ref q), (2, gi m), (3, gi x), (4, gi y), (5, gi i), (6, gi (j + 1)), (7, gi k)]) dX0_nearestThree_94 6 rfl rfl rfl ?_
                    refine g_goto (pc := 97) X 24 dX0_nearestThree_97 (by decide) ?_
                    refine g_lsub X [0, 1, 2, 3, 4, 5, 6] rfl ?_
                    exact ih24 _ _ _ (by omega) (by omega) (by rw [hx_39]; exact b3_skip2 (by omega) (by omega) (fun s t u d0 d1 d2 d3 d4 d5 d6 d7 d8 => by omega)) (by omega)
                  · refine g_aload_n (pc := 48) X dX0_nearestThree_48 0 rfl ?_
                    refine g_aload_n (pc := 49) X dX0_nearestThree_49 1 rfl ?_
                    refine g_iload (pc := 50) X dX0_nearestThree_50 5 rfl ?_
                    refine g_iload (pc := 52) X dX0_nearestThree_52 6 rfl ?_
                    refine g_iload (pc := 54) X dX0_nearestThree_54 7 rfl ?_
                    refine g_iload_n (pc := 56) X dX0_nearestThree_56 2 rfl ?_
                    refine gc_Vi (pc := 57) X (c_X0_farOfThree l D cI cZ q2 a2 e0 q a A i j k m hA (by omega) (by omega) (by omega) (by omega) hl) lm_X0_110 dX0_nearestThree_57 [0, 1, 2, 3] rfl rfl rfl rfl rfl rfl rfl rfl ?_
                    refine g_istore (pc := 60) X (lv' := [(0, .ref q2), (1, .ref q), (2, gi m), (3, gi x), (4, gi y), (5, gi i), (6, gi j), (7, gi k), (8, gi (sFar3 A i j k m))]) dX0_nearestThree_60 rfl rfl ?_
                    have hfb := sFar3_b hA (i := i) (j := j) (k := k) (m := m) (by omega) (by omega) (by omega) (by omega)
                    refine g_iload (pc := 62) X dX0_nearestThree_62 8 rfl ?_
                    refine g_iload (pc := 64) X dX0_nearestThree_64 4 rfl ?_
                    refine g_icmpge (pc := 66) X 88 dX0_nearestThree_66 (by decide) (by omega) (by omega) (fun h66 => ?_) (fun h66 => ?_)
                    · refine g_iinc (pc := 88) X (lv' := [(0, .ref q2), (1, .ref q), (2, gi m), (3, gi x), (4, gi y), (5, gi i), (6, gi j), (7, gi (k + 1)), (8, gi (sFar3 A i j k m))]) dX0_nearestThree_88 7 rfl rfl rfl ?_
                      refine g_goto (pc := 91) X 39 dX0_nearestThree_91 (by decide) ?_
                      refine g_lsub X [0, 1, 2, 3, 4, 5, 6, 7] rfl ?_
                      exact ih39 _ _ _ (by omega) (by omega) (by rw [show 100 * i + 10 * j + (k + 1) = (100 * i + 10 * j + k) + 1 by omega, itr_s (by omega), ← hx_39, b3_step hi.1 hj.1 hk.1 (by omega) hA0.2]; (try dsimp only); first | rw [if_pos (by omega)] | rw [if_neg (by omega)]) (by omega)
                    · refine g_iload (pc := 69) X dX0_nearestThree_69 8 rfl ?_
                      refine g_istore (pc := 71) X (lv' := [(0, .ref q2), (1, .ref q), (2, gi m), (3, gi x), (4, gi (sFar3 A i j k m)), (5, gi i), (6, gi j), (7, gi k), (8, gi (sFar3 A i j k m))]) dX0_nearestThree_71 rfl rfl ?_
                      refine g_bipush (pc := 73) X dX0_nearestThree_73 (by decide +kernel) ?_
                      refine g_iload (pc := 75) X dX0_nearestThree_75 5 rfl ?_
                      refine g_imul (pc := 77) X dX0_nearestThree_77 ?_
                      refine g_bipush (pc := 78) X dX0_nearestThree_78 (by decide +kernel) ?_
                      refine g_iload (pc := 80) X dX0_nearestThree_80 6 rfl ?_
                      refine g_imul (pc := 82) X dX0_nearestThree_82 ?_
                      refine g_iadd (pc := 83) X dX0_nearestThree_83 ?_
                      refine g_iload (pc := 84) X dX0_nearestThree_84 7 rfl ?_
                      refine g_iadd (pc := 86) X dX0_nearestThree_86 ?_
                      refine g_istore_n (pc := 87) X (lv' := [(0, .ref q2), (1, .ref q), (2, gi m), (3, gi (100 * i + 10 * j + k)), (4, gi (sFar3 A i j k m)), (5, gi i), (6, gi j), (7, gi k), (8, gi (sFar3 A i j k m))]) dX0_nearestThree_87 rfl rfl ?_
                      refine g_iinc (pc := 88) X (lv' := [(0, .ref q2), (1, .ref q), (2, gi m), (3, gi (100 * i + 10 * j + k)), (4, gi (sFar3 A i j k m)), (5, gi i), (6, gi j), (7, gi (k + 1)), (8, gi (sFar3 A i j k m))]) dX0_nearestThree_88 7 rfl rfl rfl ?_
                      refine g_goto (pc := 91) X 39 dX0_nearestThree_91 (by decide) ?_
                      refine g_lsub X [0, 1, 2, 3, 4, 5, 6, 7] rfl ?_
                      exact ih39 _ _ _ (by omega) (by omega) (by rw [show 100 * i + 10 * j + (k + 1) = (100 * i + 10 * j + k) + 1 by omega, itr_s (by omega), ← hx_39, b3_step hi.1 hj.1 hk.1 (by omega) hA0.2]; (try dsimp only); first | rw [if_pos (by omega)] | rw [if_neg (by omega)]) (by omega)
              exact L39 _ _ _ _ (by omega) hy_24 (by rw [hx_24]; exact b3_skip2 (by omega) (by omega) (fun s t u d0 d1 d2 d3 d4 d5 d6 d7 d8 => by omega)) (Nat.lt_succ_self _)
        exact L24 _ _ _ _ (by omega) hy (by rw [hx]; exact b3_skip2 (by omega) (by omega) (fun s t u d0 d1 d2 d3 d4 d5 d6 d7 d8 => by omega)) (Nat.lt_succ_self _)
  exact L9 _ _ _ _ (by omega) (by omega) rfl (Nat.lt_succ_self _)
