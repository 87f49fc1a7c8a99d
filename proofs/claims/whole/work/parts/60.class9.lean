/-! the class: houses' chances -/
set_option maxHeartbeats 4000000 in
set_option maxRecDepth 100000 in
theorem c_X1_habitOf (l : Launch) (D : va_G) (cI cZ : ClassId) (q2 : Nat) (a2 : Nat → Nat) (A : Int → Int) (h : Int) (t : Int) (hh : 0 ≤ h ∧ h < 4) (ht : 0 ≤ t ∧ t < 10) : GM l D cI cZ yX1_habitOf cX1_habitOf 3 (some .int) ({ frames := 1, cells := 0, slots := 0, locals := 21 }) 0 0 true [.ref q2, gi h, gi t] [oF q2 a2 (A 0) (A 1) (A 2) (A 3) (A 4), gA cI (a2 11) 40 (fun j => A (332 + j))] (gPi (A (332 + 10 * h + t))) := by
  refine g_enterI (z := false) (lv0 := [(0, .ref q2), (1, gi h), (2, gi t)]) _ rfl (by decide) rfl rfl (fun V X ret => ?_)
  refine g_aload_n (pc := 0) X dX1_habitOf_0 0 rfl ?_
  refine g_get (pc := 1) X fl_X1_33 dX1_habitOf_1 0 (v := .ref (a2 11)) rfl rfl ?_
  refine g_iload_n (pc := 4) X dX1_habitOf_4 1 rfl ?_
  refine g_bipush (pc := 5) X dX1_habitOf_5 (by decide +kernel) ?_
  refine g_imul (pc := 7) X dX1_habitOf_7 ?_
  refine g_iload_n (pc := 8) X dX1_habitOf_8 2 rfl ?_
  refine g_iadd (pc := 9) X dX1_habitOf_9 ?_
  refine gc_Ni (pc := 10) X (c_X8_look l D cI cZ (a2 11) 40 (fun j => A (332 + j)) (h * 10 + t) (by omega) rfl) lm_X1_59 dX1_habitOf_10 [1] rfl rfl rfl rfl rfl rfl ?_
  refine g_top (b := A (332 + 10 * h + t)) (Eq.trans (lk_in (by omega)) (congrArg A (by omega))) ?_
  exact ret _ _ _ _ _ _ dX1_habitOf_13 rfl rfl (fun h => by cases h) (gPi_e rfl)

set_option maxHeartbeats 4000000 in
set_option maxRecDepth 100000 in
theorem c_X1_habitsOf (l : Launch) (D : va_G) (cI cZ : ClassId) (q2 : Nat) (a2 : Nat → Nat) (A : Int → Int) (h : Int) (hA : okA A) (hh : 0 ≤ h ∧ h < 4) : GM l D cI cZ yX1_habitsOf cX1_habitsOf 4 (some .int) ({ frames := 2, cells := 0, slots := 0, locals := 43 }) 0 0 true [.ref q2, gi h] [oF q2 a2 (A 0) (A 1) (A 2) (A 3) (A 4), gA cI (a2 11) 40 (fun j => A (332 + j))] (gPi (hsm A h)) := by
  refine g_enterI (z := false) (lv0 := [(0, .ref q2), (1, gi h)]) _ rfl (by decide) rfl rfl (fun V X ret => ?_)
  refine g_iconst (pc := 0) X dX1_habitsOf_0 ?_
  refine g_istore_n (pc := 1) X (lv' := [(0, .ref q2), (1, gi h), (2, gi 0)]) dX1_habitsOf_1 rfl rfl ?_
  refine g_iconst (pc := 2) X dX1_habitsOf_2 ?_
  refine g_istore_n (pc := 3) X (lv' := [(0, .ref q2), (1, gi h), (2, gi 0), (3, gi 0)]) dX1_habitsOf_3 rfl rfl ?_
  have L4 : ∀ (n4 : Nat) (x : Int) (i : Int), (0 ≤ i ∧ i ≤ 10) → (0 ≤ x ∧ x ≤ 9 * i) → (x = sm (fun i => A (332 + 10 * h + i)) i) → (10 - i).toNat < n4 → V 0 0 [oF q2 a2 (A 0) (A 1) (A 2) (A 3) (A 4), gA cI (a2 11) 40 (fun j => A (332 + j))] 4 [(0, .ref q2), (1, gi h), (2, gi x), (3, gi i)] [] := by
    intro n4
    induction n4 with
    | zero => intro x i hi hxb hx hn4; exact absurd hn4 (Nat.not_lt_zero _)
    | succ n4 ih4 =>
      intro x i hi hxb hx hn4
      refine g_iload_n (pc := 4) X dX1_habitsOf_4 3 rfl ?_
      refine g_bipush (pc := 5) X dX1_habitsOf_5 (by decide +kernel) ?_
      refine g_icmpge (pc := 7) X 25 dX1_habitsOf_7 (by decide) (by omega) (by omega) (fun h7 => ?_) (fun h7 => ?_)
      · refine g_iload_n (pc := 25) X dX1_habitsOf_25 2 rfl ?_
        exact ret _ _ _ _ _ _ dX1_habitsOf_26 rfl rfl (fun h => by cases h) (gPi_e (by rw [hx, show i = 10 by omega]; rfl))
      · have hha := okA_ha hA (j := 10 * h + i) (by omega)
        rw [show 332 + (10 * h + i) = 332 + 10 * h + i by omega] at hha
        refine g_iload_n (pc := 10) X dX1_habitsOf_10 2 rfl ?_
        refine g_aload_n (pc := 11) X dX1_habitsOf_11 0 rfl ?_
        refine g_iload_n (pc := 12) X dX1_habitsOf_12 1 rfl ?_
        refine g_iload_n (pc := 13) X dX1_habitsOf_13 3 rfl ?_
        refine gc_Vi (pc := 14) X (c_X1_habitOf l D cI cZ q2 a2 A h i (by omega) (by omega)) lm_X1_63 dX1_habitsOf_14 [0, 1] rfl rfl rfl rfl rfl rfl rfl rfl ?_
        refine g_iadd (pc := 17) X dX1_habitsOf_17 ?_
        refine g_istore_n (pc := 18) X (lv' := [(0, .ref q2), (1, gi h), (2, gi (x + (A (332 + 10 * h + i)))), (3, gi i)]) dX1_habitsOf_18 rfl rfl ?_
        refine g_iinc (pc := 19) X (lv' := [(0, .ref q2), (1, gi h), (2, gi (x + (A (332 + 10 * h + i)))), (3, gi (i + 1))]) dX1_habitsOf_19 3 rfl rfl rfl ?_
        refine g_goto (pc := 22) X 4 dX1_habitsOf_22 (by decide) ?_
        exact ih4 _ _ (by omega) (by omega) (by rw [sm_s hi.1, ← hx]) (by omega)
  exact L4 _ _ _ (by omega) (by omega) (by rfl) (Nat.lt_succ_self _)

set_option maxHeartbeats 4000000 in
set_option maxRecDepth 100000 in
theorem c_X2_weigh (l : Launch) (D : va_G) (cI cZ : ClassId) (q : Nat) (a : Nat → Nat) (b2 : Nat → Nat) (n2 : Int) (d2 : Int → Int) (q2 : Nat) (a2 : Nat → Nat) (A : Int → Int) (h : Int) (hA : okA A) (k2 : ∀ jj, 0 ≤ jj → jj < 8 → 0 ≤ d2 jj ∧ d2 jj < 1073741824) (hh : 0 ≤ h ∧ h < A 3) : GM l D cI cZ yX2_weigh cX2_weigh 5 none ({ frames := 4, cells := 0, slots := 0, locals := 91 }) 0 0 false [.ref q, .ref q2, gi h] [oC q a, oL (a 2) b2 n2, gA cI (b2 0) 8 d2, oF q2 a2 (A 0) (A 1) (A 2) (A 3) (A 4), gA cI (a2 11) 40 (fun j => A (332 + j)), gA cI (a2 13) 8 (fun j => A (372 + j))] (gPxv (fun xo : (Int → Int) × (Int) => [oC q a, oL (a 2) b2 xo.2, gA cI (b2 0) 8 xo.1, oF q2 a2 (A 0) (A 1) (A 2) (A 3) (A 4), gA cI (a2 11) 40 (fun j => A (332 + j)), gA cI (a2 13) 8 (fun j => A (372 + j))]) (fun xo : (Int → Int) × (Int) => (lm xo.1 xo.2 (lkT A h (A 4))))) := by
  refine g_enterV (lv0 := [(0, .ref q), (1, .ref q2), (2, gi h)]) (by decide) rfl rfl (fun V X ret => ?_)
  have hA3 := okA_3 hA
  have hA4 := okA_4 hA
  refine g_aload_n (pc := 0) X dX2_weigh_0 0 rfl ?_
  refine g_get (pc := 1) X fl_X2_21 dX2_weigh_1 0 (v := .ref (a 2)) rfl rfl ?_
  refine g_iconst (pc := 4) X dX2_weigh_4 ?_
  refine gc_Vxv (pc := 5) X (wr := [oC q a, oF q2 a2 (A 0) (A 1) (A 2) (A 3) (A 4), gA cI (a2 11) 40 (fun j => A (332 + j)), gA cI (a2 13) 8 (fun j => A (372 + j))]) (c_X4_become l D cI cZ (a 2) b2 n2 d2 1 k2 (by omega)) lm_X2_24 dX2_weigh_5 [1, 2] [0, 3, 4, 5] rfl rfl rfl rfl (by decide) rfl rfl rfl rfl rfl rfl (fun x5 hx5 => ?_)
  obtain ⟨g_5, m_5⟩ := x5
  have ht_5 : lm g_5 m_5 1 := hx5
  refine g_pick (cn := 0) (sl := 0) (st := []) X (ws' := [oC q a, oL (a 2) b2 m_5, gA cI (b2 0) 8 g_5, oF q2 a2 (A 0) (A 1) (A 2) (A 3) (A 4), gA cI (a2 11) 40 (fun j => A (332 + j)), gA cI (a2 13) 8 (fun j => A (372 + j))]) [0, 4, 5, 1, 2, 3] rfl rfl ?_
  refine g_iconst (pc := 8) X dX2_weigh_8 ?_
  refine g_istore_n (pc := 9) X (lv' := [(0, .ref q), (1, .ref q2), (2, gi h), (3, gi 0)]) dX2_weigh_9 rfl rfl ?_
  have L10 : ∀ (n10 : Nat) (k : Int) (m : Int) (e : Int → Int), (0 ≤ k ∧ k ≤ A 4) → (lm e m (hbP A h k)) → (A 4 - k).toNat < n10 → V 0 0 [oC q a, oL (a 2) b2 m, gA cI (b2 0) 8 e, oF q2 a2 (A 0) (A 1) (A 2) (A 3) (A 4), gA cI (a2 11) 40 (fun j => A (332 + j)), gA cI (a2 13) 8 (fun j => A (372 + j))] 10 [(0, .ref q), (1, .ref q2), (2, gi h), (3, gi k)] [] := by
    intro n10
    induction n10 with
    | zero => intro k m e hk he hn10; exact absurd hn10 (Nat.not_lt_zero _)
    | succ n10 ih10 =>
      intro k m e hk he hn10
      have hbb := hbP_b hA (h := h) (k := k) (by omega) (by omega)
      refine g_iload_n (pc := 10) X dX2_weigh_10 3 rfl ?_
      refine g_aload_n (pc := 11) X dX2_weigh_11 1 rfl ?_
      refine g_get (pc := 12) X fl_X2_73 dX2_weigh_12 3 (v := gi (A 4)) rfl rfl ?_
      refine g_icmpge (pc := 15) X 44 dX2_weigh_15 (by decide) (by omega) (by omega) (fun h15 => ?_) (fun h15 => ?_)
      · have hone : tn 1 (A 4) = 1 := by have q := fcP_m (A := fun _ => 0) (h := 0) (n := A 4) hA4.1 (g := 0) (by omega); exact q.symm
        refine g_iconst (pc := 44) X dX2_weigh_44 ?_
        refine g_istore_n (pc := 45) X (lv' := [(0, .ref q), (1, .ref q2), (2, gi h), (3, gi 0)]) dX2_weigh_45 rfl rfl ?_
        have L46 : ∀ (n46 : Nat) (g : Int) (m : Int) (e : Int → Int), (0 ≤ g ∧ g ≤ A 3) → (lm e m (hbP A h (A 4) * fcP A h (A 4) g)) → (A 3 - g).toNat < n46 → V 0 0 [oC q a, oL (a 2) b2 m, gA cI (b2 0) 8 e, oF q2 a2 (A 0) (A 1) (A 2) (A 3) (A 4), gA cI (a2 11) 40 (fun j => A (332 + j)), gA cI (a2 13) 8 (fun j => A (372 + j))] 46 [(0, .ref q), (1, .ref q2), (2, gi h), (3, gi g)] [] := by
          intro n46
          induction n46 with
          | zero => intro g m e hg he hn46; exact absurd hn46 (Nat.not_lt_zero _)
          | succ n46 ih46 =>
            intro g m e hg he hn46
            refine g_iload_n (pc := 46) X dX2_weigh_46 3 rfl ?_
            refine g_aload_n (pc := 47) X dX2_weigh_47 1 rfl ?_
            refine g_get (pc := 48) X fl_X2_57 dX2_weigh_48 3 (v := gi (A 3)) rfl rfl ?_
            refine g_icmpge (pc := 51) X 87 dX2_weigh_51 (by decide) (by omega) (by omega) (fun h51 => ?_) (fun h51 => ?_)
            · exact ret _ _ _ _ _ dX2_weigh_87 rfl rfl (gPxv_e (_, _) rfl (by rw [← lkT_c hA3.1 hA4.1, show A 3 = g by omega]; exact he))
            · refine g_aload_n (pc := 54) X dX2_weigh_54 1 rfl ?_
              refine g_iload_n (pc := 55) X dX2_weigh_55 3 rfl ?_
              refine gc_Vi (pc := 56) X (c_X1_habitsOf l D cI cZ q2 a2 A g hA (by omega)) lm_X2_87 dX2_weigh_56 [3, 4] rfl rfl rfl rfl rfl rfl rfl rfl ?_
              have hsb := hsm_b hA (g := g) (by omega)
              refine g_istore (pc := 59) X (lv' := [(0, .ref q), (1, .ref q2), (2, gi h), (3, gi g), (4, gi (hsm A g))]) dX2_weigh_59 rfl rfl ?_
              refine g_iload_n (pc := 61) X dX2_weigh_61 3 rfl ?_
              refine g_iload_n (pc := 62) X dX2_weigh_62 2 rfl ?_
              refine g_icmpeq (pc := 63) X 81 dX2_weigh_63 (by decide) (by omega) (by omega) (fun h63 => ?_) (fun h63 => ?_)
              · refine g_iinc (pc := 81) X (lv' := [(0, .ref q), (1, .ref q2), (2, gi h), (3, gi (g + 1)), (4, gi (hsm A g))]) dX2_weigh_81 3 rfl rfl rfl ?_
                refine g_goto (pc := 84) X 46 dX2_weigh_84 (by decide) ?_
                refine g_lsub X [0, 1, 2, 3] rfl ?_
                exact ih46 _ _ _ (by omega) (by rw [fcP_s hg.1, show fac A h g = 1 from if_pos (by omega), hone, Int.mul_one]; exact he) (by omega)
              · refine g_iload (pc := 66) X dX2_weigh_66 4 rfl ?_
                refine g_ifle (pc := 68) X 81 dX2_weigh_68 (by decide) (by omega) (fun h68 => ?_) (fun h68 => ?_)
                · refine g_iinc (pc := 81) X (lv' := [(0, .ref q), (1, .ref q2), (2, gi h), (3, gi (g + 1)), (4, gi (hsm A g))]) dX2_weigh_81 3 rfl rfl rfl ?_
                  refine g_goto (pc := 84) X 46 dX2_weigh_84 (by decide) ?_
                  refine g_lsub X [0, 1, 2, 3] rfl ?_
                  exact ih46 _ _ _ (by omega) (by rw [fcP_s hg.1, show fac A h g = 1 from if_pos (by omega), hone, Int.mul_one]; exact he) (by omega)
                · refine g_aload_n (pc := 71) X dX2_weigh_71 0 rfl ?_
                  refine g_iload (pc := 72) X dX2_weigh_72 4 rfl ?_
                  refine g_aload_n (pc := 74) X dX2_weigh_74 1 rfl ?_
                  refine g_get (pc := 75) X fl_X2_73 dX2_weigh_75 3 (v := gi (A 4)) rfl rfl ?_
                  refine gc_Vxv (pc := 78) X (wr := [oF q2 a2 (A 0) (A 1) (A 2) (A 3) (A 4), gA cI (a2 11) 40 (fun j => A (332 + j)), gA cI (a2 13) 8 (fun j => A (372 + j))]) (c_X2_multiplyTerm l D cI cZ q a b2 m e (hbP A h (A 4) * fcP A h (A 4) g) (hsm A g) (A 4) he (by omega) (by omega) (fun kk q0 q1 => wg_B8 hA (by omega) (by omega) (by omega) (by omega) (by omega))) lm_X2_40 dX2_weigh_78 [0, 1, 2] [3, 4, 5] rfl rfl rfl rfl (by decide) rfl rfl rfl rfl rfl rfl (fun x78 hx78 => ?_)
                  obtain ⟨g_78, m_78⟩ := x78
                  have ht_78 : lm g_78 m_78 ((hbP A h (A 4) * fcP A h (A 4) g) * tn (hsm A g) (A 4)) := hx78
                  refine g_pick (cn := 0) (sl := 0) (st := []) X (ws' := [oC q a, oL (a 2) b2 m_78, gA cI (b2 0) 8 g_78, oF q2 a2 (A 0) (A 1) (A 2) (A 3) (A 4), gA cI (a2 11) 40 (fun j => A (332 + j)), gA cI (a2 13) 8 (fun j => A (372 + j))]) [3, 4, 5, 0, 1, 2] rfl rfl ?_
                  refine g_iinc (pc := 81) X (lv' := [(0, .ref q), (1, .ref q2), (2, gi h), (3, gi (g + 1)), (4, gi (hsm A g))]) dX2_weigh_81 3 rfl rfl rfl ?_
                  refine g_goto (pc := 84) X 46 dX2_weigh_84 (by decide) ?_
                  refine g_lsub X [0, 1, 2, 3] rfl ?_
                  exact ih46 _ _ _ (by omega) (by rw [fcP_s hg.1, show fac A h g = hsm A g from if_neg (by omega), ← Int.mul_assoc]; exact ht_78) (by omega)
        exact L46 _ _ _ _ (by omega) (by rw [show fcP A h (A 4) 0 = 1 from rfl, Int.mul_one, show A 4 = k by omega]; exact he) (Nat.lt_succ_self _)
      · refine g_aload_n (pc := 18) X dX2_weigh_18 0 rfl ?_
        refine g_get (pc := 19) X fl_X2_21 dX2_weigh_19 0 (v := .ref (a 2)) rfl rfl ?_
        refine g_aload_n (pc := 22) X dX2_weigh_22 1 rfl ?_
        refine g_iload_n (pc := 23) X dX2_weigh_23 2 rfl ?_
        refine g_aload_n (pc := 24) X dX2_weigh_24 1 rfl ?_
        refine g_get (pc := 25) X fl_X2_76 dX2_weigh_25 3 (v := .ref (a2 13)) rfl rfl ?_
        refine g_iload_n (pc := 28) X dX2_weigh_28 3 rfl ?_
        refine gc_Ni (pc := 29) X (c_X8_look l D cI cZ (a2 13) 8 (fun j => A (372 + j)) k (by omega) rfl) lm_X2_80 dX2_weigh_29 [5] rfl rfl rfl rfl rfl rfl ?_
        refine g_top (b := A (372 + k)) (lk_in (by omega)) ?_
        have hse := okA_se hA (j := k) (by omega)
        refine gc_Vi (pc := 32) X (c_X1_habitOf l D cI cZ q2 a2 A h (A (372 + k)) (by omega) (by omega)) lm_X2_84 dX2_weigh_32 [3, 4] rfl rfl rfl rfl rfl rfl rfl rfl ?_
        refine g_top (b := A (332 + 10 * h + A (372 + k))) rfl ?_
        have hha := hab_b hA (h := h) (k := k) (by omega) (by omega)
        have hmu := mulb hbb hha
        unfold hab at hha hmu
        refine gc_Vxv (pc := 35) X (wr := [oC q a, oF q2 a2 (A 0) (A 1) (A 2) (A 3) (A 4), gA cI (a2 11) 40 (fun j => A (332 + j)), gA cI (a2 13) 8 (fun j => A (372 + j))]) (c_X4_multiply l D cI cZ (a 2) b2 m e (hbP A h k) (A (332 + 10 * h + A (372 + k))) he (by omega) (by have zz : (9 : Int) ^ 8 * 9 < B8 := (by unfold B8; decide); omega)) lm_X2_54 dX2_weigh_35 [1, 2] [0, 3, 4, 5] rfl rfl rfl rfl (by decide) rfl rfl rfl rfl rfl rfl (fun x35 hx35 => ?_)
        obtain ⟨g_35, m_35⟩ := x35
        have ht_35 : lm g_35 m_35 ((hbP A h k) * (A (332 + 10 * h + A (372 + k)))) := hx35
        refine g_pick (cn := 0) (sl := 0) (st := []) X (ws' := [oC q a, oL (a 2) b2 m_35, gA cI (b2 0) 8 g_35, oF q2 a2 (A 0) (A 1) (A 2) (A 3) (A 4), gA cI (a2 11) 40 (fun j => A (332 + j)), gA cI (a2 13) 8 (fun j => A (372 + j))]) [0, 4, 5, 1, 2, 3] rfl rfl ?_
        refine g_iinc (pc := 38) X (lv' := [(0, .ref q), (1, .ref q2), (2, gi h), (3, gi (k + 1))]) dX2_weigh_38 3 rfl rfl rfl ?_
        refine g_goto (pc := 41) X 10 dX2_weigh_41 (by decide) ?_
        exact ih10 _ _ _ (by omega) (by rw [hbP_s hk.1]; exact ht_35) (by omega)
  exact L10 _ _ _ _ (by omega) (by exact ht_5) (Nat.lt_succ_self _)

set_option maxHeartbeats 4000000 in
set_option maxRecDepth 100000 in
theorem c_X2_becomeHouse (l : Launch) (D : va_G) (cI cZ : ClassId) (q : Nat) (a : Nat → Nat) (b0 : Nat → Nat) (b1 : Nat → Nat) (b2 : Nat → Nat) (n0 : Int) (n1 : Int) (n2 : Int) (d0 : Int → Int) (d1 : Int → Int) (d2 : Int → Int) (q2 : Nat) (a2 : Nat → Nat) (A : Int → Int) (h : Int) (hA : okA A) (k0 : ∀ jj, 0 ≤ jj → jj < 8 → 0 ≤ d0 jj ∧ d0 jj < 1073741824) (k1 : ∀ jj, 0 ≤ jj → jj < 8 → 0 ≤ d1 jj ∧ d1 jj < 1073741824) (k2 : ∀ jj, 0 ≤ jj → jj < 8 → 0 ≤ d2 jj ∧ d2 jj < 1073741824) (hh : 0 ≤ h ∧ h < A 3) (hz : hT A (A 3) ≠ 0) : GM l D cI cZ yX2_becomeHouse cX2_becomeHouse 4 none ({ frames := 5, cells := 0, slots := 0, locals := 115 }) 0 0 false [.ref q, .ref q2, gi h] [oC q a, oL (a 0) b0 n0, gA cI (b0 0) 8 d0, oL (a 1) b1 n1, gA cI (b1 0) 8 d1, oL (a 2) b2 n2, gA cI (b2 0) 8 d2, oF q2 a2 (A 0) (A 1) (A 2) (A 3) (A 4), gA cI (a2 11) 40 (fun j => A (332 + j)), gA cI (a2 13) 8 (fun j => A (372 + j))] (gPxv (fun xo : (Int → Int) × (Int) × (Int → Int) × (Int) × (Int → Int) × (Int) => [oC q a, oL (a 0) b0 xo.2.1, gA cI (b0 0) 8 xo.1, oL (a 1) b1 xo.2.2.2.1, gA cI (b1 0) 8 xo.2.2.1, oL (a 2) b2 xo.2.2.2.2.2, gA cI (b2 0) 8 xo.2.2.2.2.1, oF q2 a2 (A 0) (A 1) (A 2) (A 3) (A 4), gA cI (a2 11) 40 (fun j => A (332 + j)), gA cI (a2 13) 8 (fun j => A (372 + j))]) (fun xo : (Int → Int) × (Int) × (Int → Int) × (Int) × (Int → Int) × (Int) => (lm xo.1 xo.2.1 (redP (lkT A h (A 4)) (hT A (A 3)))) ∧ (lm xo.2.2.1 xo.2.2.2.1 (redQ (lkT A h (A 4)) (hT A (A 3)))) ∧ (∀ jj, 0 ≤ jj → jj < 8 → 0 ≤ xo.2.2.2.2.1 jj ∧ xo.2.2.2.2.1 jj < 1073741824))) := by
  refine g_enterV (lv0 := [(0, .ref q), (1, .ref q2), (2, gi h)]) (by decide) rfl rfl (fun V X ret => ?_)
  have hA3 := okA_3 hA
  have hA4 := okA_4 hA
  refine g_aload_n (pc := 0) X dX2_becomeHouse_0 0 rfl ?_
  refine g_get (pc := 1) X fl_X2_18 dX2_becomeHouse_1 0 (v := .ref (a 1)) rfl rfl ?_
  refine g_iconst (pc := 4) X dX2_becomeHouse_4 ?_
  refine gc_Vxv (pc := 5) X (wr := [oC q a, oL (a 0) b0 n0, gA cI (b0 0) 8 d0, oL (a 2) b2 n2, gA cI (b2 0) 8 d2, oF q2 a2 (A 0) (A 1) (A 2) (A 3) (A 4), gA cI (a2 11) 40 (fun j => A (332 + j)), gA cI (a2 13) 8 (fun j => A (372 + j))]) (c_X4_become l D cI cZ (a 1) b1 n1 d1 0 k1 (by omega)) lm_X2_24 dX2_becomeHouse_5 [3, 4] [0, 1, 2, 5, 6, 7, 8, 9] rfl rfl rfl rfl (by decide) rfl rfl rfl rfl rfl rfl (fun x5 hx5 => ?_)
  obtain ⟨g_5, m_5⟩ := x5
  have ht_5 : lm g_5 m_5 0 := hx5
  refine g_pick (cn := 0) (sl := 0) (st := []) X (ws' := [oC q a, oL (a 0) b0 n0, gA cI (b0 0) 8 d0, oL (a 1) b1 m_5, gA cI (b1 0) 8 g_5, oL (a 2) b2 n2, gA cI (b2 0) 8 d2, oF q2 a2 (A 0) (A 1) (A 2) (A 3) (A 4), gA cI (a2 11) 40 (fun j => A (332 + j)), gA cI (a2 13) 8 (fun j => A (372 + j))]) [0, 1, 2, 8, 9, 3, 4, 5, 6, 7] rfl rfl ?_
  refine g_iconst (pc := 8) X dX2_becomeHouse_8 ?_
  refine g_istore_n (pc := 9) X (lv' := [(0, .ref q), (1, .ref q2), (2, gi h), (3, gi 0)]) dX2_becomeHouse_9 rfl rfl ?_
  have L10 : ∀ (n10 : Nat) (g : Int) (m0 : Int) (e0 : Int → Int) (m1 : Int) (e1 : Int → Int) (m2 : Int) (e2 : Int → Int), (0 ≤ g ∧ g ≤ A 3) → (∀ jj, 0 ≤ jj → jj < 8 → 0 ≤ e0 jj ∧ e0 jj < 1073741824) → (lm e1 m1 (hT A g)) → (∀ jj, 0 ≤ jj → jj < 8 → 0 ≤ e2 jj ∧ e2 jj < 1073741824) → (h < g → lm e0 m0 (lkT A h (A 4))) → (A 3 - g).toNat < n10 → V 0 0 [oC q a, oL (a 0) b0 m0, gA cI (b0 0) 8 e0, oL (a 1) b1 m1, gA cI (b1 0) 8 e1, oL (a 2) b2 m2, gA cI (b2 0) 8 e2, oF q2 a2 (A 0) (A 1) (A 2) (A 3) (A 4), gA cI (a2 11) 40 (fun j => A (332 + j)), gA cI (a2 13) 8 (fun j => A (372 + j))] 10 [(0, .ref q), (1, .ref q2), (2, gi h), (3, gi g)] [] := by
    intro n10
    induction n10 with
    | zero => intro g m0 e0 m1 e1 m2 e2 hg j0 j1 j2 j3 hn10; exact absurd hn10 (Nat.not_lt_zero _)
    | succ n10 ih10 =>
      intro g m0 e0 m1 e1 m2 e2 hg j0 j1 j2 j3 hn10
      have htb := hT_b hA hg
      refine g_iload_n (pc := 10) X dX2_becomeHouse_10 3 rfl ?_
      refine g_aload_n (pc := 11) X dX2_becomeHouse_11 1 rfl ?_
      refine g_get (pc := 12) X fl_X2_57 dX2_becomeHouse_12 7 (v := gi (A 3)) rfl rfl ?_
      refine g_icmpge (pc := 15) X 57 dX2_becomeHouse_15 (by decide) (by omega) (by omega) (fun h15 => ?_) (fun h15 => ?_)
      · refine g_iconst (pc := 57) X dX2_becomeHouse_57 ?_
        refine g_istore_n (pc := 58) X (lv' := [(0, .ref q), (1, .ref q2), (2, gi h), (3, gi 2)]) dX2_becomeHouse_58 rfl rfl ?_
        have L59 : ∀ (n59 : Nat) (f : Int) (m0 : Int) (e0 : Int → Int) (m1 : Int) (e1 : Int → Int) (u : Int) (w : Int), (2 ≤ f ∧ f ≤ 91) → (lm e0 m0 u) → (lm e1 m1 w) → (0 < w) → (com (lkT A h (A 4)) (hT A (A 3)) u w) → (trh (lkT A h (A 4)) u w f) → (91 - f).toNat < n59 → V 0 0 [oC q a, oL (a 0) b0 m0, gA cI (b0 0) 8 e0, oL (a 1) b1 m1, gA cI (b1 0) 8 e1, oL (a 2) b2 m2, gA cI (b2 0) 8 e2, oF q2 a2 (A 0) (A 1) (A 2) (A 3) (A 4), gA cI (a2 11) 40 (fun j => A (332 + j)), gA cI (a2 13) 8 (fun j => A (372 + j))] 59 [(0, .ref q), (1, .ref q2), (2, gi h), (3, gi f)] [] := by
          intro n59
          induction n59 with
          | zero => intro f m0 e0 m1 e1 u w hf l0 l1 hw hc ht hn59; exact absurd hn59 (Nat.not_lt_zero _)
          | succ n59 ih59 =>
            intro f m0 e0 m1 e1 u w hf l0 l1 hw hc ht hn59
            refine g_iload_n (pc := 59) X dX2_becomeHouse_59 3 rfl ?_
            refine g_bipush (pc := 60) X dX2_becomeHouse_60 (by decide +kernel) ?_
            refine g_icmpgt (pc := 62) X 76 dX2_becomeHouse_62 (by decide) (by omega) (by omega) (fun h62 => ?_) (fun h62 => ?_)
            · have hQ : 0 < hT A (A 3) := by have qb := (hT_b hA (n := A 3) (by omega)).1; omega
              have hend := trh_e hA hh hQ (by rw [show (91 : Int) = f by omega]; exact ht) hc hw
              refine g_aload_n (pc := 76) X dX2_becomeHouse_76 0 rfl ?_
              refine gc_Vxv (pc := 77) X (wr := [oL (a 2) b2 m2, gA cI (b2 0) 8 e2, oF q2 a2 (A 0) (A 1) (A 2) (A 3) (A 4), gA cI (a2 11) 40 (fun j => A (332 + j)), gA cI (a2 13) 8 (fun j => A (372 + j))]) (c_X2_closeZero l D cI cZ q a b0 b1 m0 m1 e0 e1 u w l0 l1) lm_X2_70 dX2_becomeHouse_77 [0, 1, 2, 3, 4] [5, 6, 7, 8, 9] rfl rfl rfl rfl (by decide) rfl rfl rfl rfl rfl rfl (fun x77 hx77 => ?_)
              obtain ⟨g_77, m_77⟩ := x77
              have h1_77 : lm g_77 m_77 (if u = 0 then 1 else w) := hx77
              refine g_pick (cn := 0) (sl := 0) (st := []) X (ws' := [oC q a, oL (a 0) b0 m0, gA cI (b0 0) 8 e0, oL (a 1) b1 m_77, gA cI (b1 0) 8 g_77, oL (a 2) b2 m2, gA cI (b2 0) 8 e2, oF q2 a2 (A 0) (A 1) (A 2) (A 3) (A 4), gA cI (a2 11) 40 (fun j => A (332 + j)), gA cI (a2 13) 8 (fun j => A (372 + j))]) [5, 6, 7, 8, 9, 0, 1, 2, 3, 4] rfl rfl ?_
              exact ret _ _ _ _ _ dX2_becomeHouse_80 rfl rfl (gPxv_e (_, _, _, _, _, _) rfl ⟨by rw [← hend.1]; exact l0, by rw [← hend.2]; exact h1_77, j2⟩)
            · refine g_aload_n (pc := 65) X dX2_becomeHouse_65 0 rfl ?_
              refine g_iload_n (pc := 66) X dX2_becomeHouse_66 3 rfl ?_
              refine gc_Vxv (pc := 67) X (wr := [oL (a 2) b2 m2, gA cI (b2 0) 8 e2, oF q2 a2 (A 0) (A 1) (A 2) (A 3) (A 4), gA cI (a2 11) 40 (fun j => A (332 + j)), gA cI (a2 13) 8 (fun j => A (372 + j))]) (c_X2_lowerBy l D cI cZ q a b0 b1 m0 m1 e0 e1 u w f l0 l1 (by omega) hw) lm_X2_67 dX2_becomeHouse_67 [0, 1, 2, 3, 4] [5, 6, 7, 8, 9] rfl rfl rfl rfl (by decide) rfl rfl rfl rfl rfl rfl (fun x67 hx67 => ?_)
              obtain ⟨g0_67, m0_67, g1_67, m1_67, u_67, w_67⟩ := x67
              obtain ⟨h0_67, h1_67, hc_67, hw_67, hn_67⟩ : (lm g0_67 m0_67 u_67) ∧ (lm g1_67 m1_67 w_67) ∧ (com u w u_67 w_67) ∧ (0 < w_67) ∧ (u = 0 ∨ (0 < u_67 ∧ ¬ bth f u_67 w_67)) := hx67
              refine g_pick (cn := 0) (sl := 0) (st := []) X (ws' := [oC q a, oL (a 0) b0 m0_67, gA cI (b0 0) 8 g0_67, oL (a 1) b1 m1_67, gA cI (b1 0) 8 g1_67, oL (a 2) b2 m2, gA cI (b2 0) 8 e2, oF q2 a2 (A 0) (A 1) (A 2) (A 3) (A 4), gA cI (a2 11) 40 (fun j => A (332 + j)), gA cI (a2 13) 8 (fun j => A (372 + j))]) [5, 6, 7, 8, 9, 0, 1, 2, 3, 4] rfl rfl ?_
              refine g_iinc (pc := 70) X (lv' := [(0, .ref q), (1, .ref q2), (2, gi h), (3, gi (f + 1))]) dX2_becomeHouse_70 3 rfl rfl rfl ?_
              refine g_goto (pc := 73) X 59 dX2_becomeHouse_73 (by decide) ?_
              exact ih59 _ _ _ _ _ _ _ (by omega) h0_67 h1_67 hw_67 (com_t hc hc_67) (trh_s ht hc_67 hn_67) (by omega)
        exact L59 _ _ _ _ _ _ _ _ (by omega) (j3 (by omega)) j1 (by have qz : hT A g ≠ 0 := (by rw [show g = A 3 by omega]; exact hz); omega) (by rw [show A 3 = g by omega]; exact com_0) (trh_0 (by have qb := lkT_b hA (h := h) (k := A 4) (by omega) hA4; omega)) (Nat.lt_succ_self _)
      · refine g_aload_n (pc := 18) X dX2_becomeHouse_18 0 rfl ?_
        refine g_aload_n (pc := 19) X dX2_becomeHouse_19 1 rfl ?_
        refine g_iload_n (pc := 20) X dX2_becomeHouse_20 3 rfl ?_
        refine gc_Vxv (pc := 21) X (wr := [oL (a 0) b0 m0, gA cI (b0 0) 8 e0, oL (a 1) b1 m1, gA cI (b1 0) 8 e1]) (c_X2_weigh l D cI cZ q a b2 m2 e2 q2 a2 A g hA j2 (by omega)) lm_X2_63 dX2_becomeHouse_21 [0, 5, 6, 7, 8, 9] [1, 2, 3, 4] rfl rfl rfl rfl (by decide) rfl rfl rfl rfl rfl rfl (fun x21 hx21 => ?_)
        obtain ⟨g_21, m_21⟩ := x21
        have ht_21 : lm g_21 m_21 (lkT A g (A 4)) := hx21
        refine g_pick (cn := 0) (sl := 0) (st := []) X (ws' := [oC q a, oL (a 0) b0 m0, gA cI (b0 0) 8 e0, oL (a 1) b1 m1, gA cI (b1 0) 8 e1, oL (a 2) b2 m_21, gA cI (b2 0) 8 g_21, oF q2 a2 (A 0) (A 1) (A 2) (A 3) (A 4), gA cI (a2 11) 40 (fun j => A (332 + j)), gA cI (a2 13) 8 (fun j => A (372 + j))]) [4, 0, 1, 2, 3, 5, 6, 7, 8, 9] rfl rfl ?_
        have hlb := lkT_b hA (h := g) (k := A 4) (by omega) hA4
        refine g_aload_n (pc := 24) X dX2_becomeHouse_24 0 rfl ?_
        refine g_get (pc := 25) X fl_X2_18 dX2_becomeHouse_25 0 (v := .ref (a 1)) rfl rfl ?_
        refine g_aload_n (pc := 28) X dX2_becomeHouse_28 0 rfl ?_
        refine g_get (pc := 29) X fl_X2_21 dX2_becomeHouse_29 0 (v := .ref (a 2)) rfl rfl ?_
        refine gc_Vxv (pc := 32) X (wr := [oC q a, oL (a 0) b0 m0, gA cI (b0 0) 8 e0, oF q2 a2 (A 0) (A 1) (A 2) (A 3) (A 4), gA cI (a2 11) 40 (fun j => A (332 + j)), gA cI (a2 13) 8 (fun j => A (372 + j))]) (c_X4_add l D cI cZ (a 1) b1 m1 e1 (a 2) b2 m_21 g_21 (hT A g) (lkT A g (A 4)) j1 ht_21 (by have zz : (10 : Int) * 590490000 ^ 8 < B8 * 1000 := (by unfold B8; decide); have z2 : (5 : Int) * 590490000 ^ 8 < B8 := (by unfold B8; decide); have z3 : 0 ≤ (590490000 : Int) ^ 8 := (by decide); have z4 := Int.mul_le_mul_of_nonneg_right (show g ≤ 4 by omega) z3; omega)) lm_X2_44 dX2_becomeHouse_32 [3, 4, 5, 6] [0, 1, 2, 7, 8, 9] rfl rfl rfl rfl (by decide) rfl rfl rfl rfl rfl rfl (fun x32 hx32 => ?_)
        obtain ⟨g_32, z_32⟩ := x32
        have ht_32 : lm g_32 z_32 ((hT A g) + (lkT A g (A 4))) := hx32
        refine g_pick (cn := 0) (sl := 0) (st := []) X (ws' := [oC q a, oL (a 0) b0 m0, gA cI (b0 0) 8 e0, oL (a 1) b1 z_32, gA cI (b1 0) 8 g_32, oL (a 2) b2 m_21, gA cI (b2 0) 8 g_21, oF q2 a2 (A 0) (A 1) (A 2) (A 3) (A 4), gA cI (a2 11) 40 (fun j => A (332 + j)), gA cI (a2 13) 8 (fun j => A (372 + j))]) [0, 1, 2, 6, 7, 8, 9, 3, 4, 5] rfl rfl ?_
        refine g_iload_n (pc := 35) X dX2_becomeHouse_35 3 rfl ?_
        refine g_iload_n (pc := 36) X dX2_becomeHouse_36 2 rfl ?_
        refine g_icmpne (pc := 37) X 51 dX2_becomeHouse_37 (by decide) (by omega) (by omega) (fun h37 => ?_) (fun h37 => ?_)
        · refine g_iinc (pc := 51) X (lv' := [(0, .ref q), (1, .ref q2), (2, gi h), (3, gi (g + 1))]) dX2_becomeHouse_51 3 rfl rfl rfl ?_
          refine g_goto (pc := 54) X 10 dX2_becomeHouse_54 (by decide) ?_
          exact ih10 _ _ _ _ _ _ _ (by omega) j0 (by rw [show hT A (g + 1) = hT A g + lkT A g (A 4) from sm_s hg.1]; exact ht_32) ht_21.1.1 (fun qq => j3 (by omega)) (by omega)
        · refine g_aload_n (pc := 40) X dX2_becomeHouse_40 0 rfl ?_
          refine g_get (pc := 41) X fl_X2_12 dX2_becomeHouse_41 0 (v := .ref (a 0)) rfl rfl ?_
          refine g_aload_n (pc := 44) X dX2_becomeHouse_44 0 rfl ?_
          refine g_get (pc := 45) X fl_X2_21 dX2_becomeHouse_45 0 (v := .ref (a 2)) rfl rfl ?_
          refine gc_Vxv (pc := 48) X (wr := [oC q a, oL (a 1) b1 z_32, gA cI (b1 0) 8 g_32, oF q2 a2 (A 0) (A 1) (A 2) (A 3) (A 4), gA cI (a2 11) 40 (fun j => A (332 + j)), gA cI (a2 13) 8 (fun j => A (372 + j))]) (c_X4_becomeCopy l D cI cZ (a 0) b0 m0 e0 (a 2) b2 m_21 g_21) lm_X2_48 dX2_becomeHouse_48 [1, 2, 5, 6] [0, 3, 4, 7, 8, 9] rfl rfl rfl rfl (by decide) rfl rfl rfl rfl rfl rfl (fun x48 hx48 => ?_)
          refine g_pick (cn := 0) (sl := 0) (st := []) X (ws' := [oC q a, oL (a 0) b0 m_21, gA cI (b0 0) 8 g_21, oL (a 1) b1 z_32, gA cI (b1 0) 8 g_32, oL (a 2) b2 m_21, gA cI (b2 0) 8 g_21, oF q2 a2 (A 0) (A 1) (A 2) (A 3) (A 4), gA cI (a2 11) 40 (fun j => A (332 + j)), gA cI (a2 13) 8 (fun j => A (372 + j))]) [0, 6, 7, 1, 2, 8, 9, 3, 4, 5] rfl rfl ?_
          refine g_iinc (pc := 51) X (lv' := [(0, .ref q), (1, .ref q2), (2, gi h), (3, gi (g + 1))]) dX2_becomeHouse_51 3 rfl rfl rfl ?_
          refine g_goto (pc := 54) X 10 dX2_becomeHouse_54 (by decide) ?_
          exact ih10 _ _ _ _ _ _ _ (by omega) ht_21.1.1 (by rw [show hT A (g + 1) = hT A g + lkT A g (A 4) from sm_s hg.1]; exact ht_32) ht_21.1.1 (fun _ => by rw [show h = g by omega]; exact ht_21) (by omega)
  exact L10 _ _ _ _ _ _ _ _ (by omega) k0 (by exact ht_5) k2 (fun qq => by omega) (Nat.lt_succ_self _)
