/-! the class: THE FRACTION, 2 -/
set_option maxHeartbeats 4000000 in
set_option maxRecDepth 100000 in
theorem c_X2_without (l : Launch) (D : va_G) (cI cZ : ClassId) (x : Int) (f : Int) (hx : 1 ≤ x ∧ x ≤ 32768) (hf : 2 ≤ f ∧ f ≤ 32768) : GM l D cI cZ yX2_without cX2_without 4 (some .int) ({ frames := 0, cells := 0, slots := 0, locals := 0 }) 0 0 false [gi x, gi f] [] (gPxi (fun xo : (Int) => xo) (fun xo : (Int) => []) (fun xo : (Int) => (wof x f xo) ∧ (¬ xo % f = 0))) := by
  refine g_enterI (z := false) (lv0 := [(0, gi x), (1, gi f)]) _ rfl (by decide) rfl rfl (fun V X ret => ?_)
  refine g_iload_n (pc := 0) X dX2_without_0 0 rfl ?_
  refine g_istore_n (pc := 1) X (lv' := [(0, gi x), (1, gi f), (2, gi x)]) dX2_without_1 rfl rfl ?_
  refine g_iconst (pc := 2) X dX2_without_2 ?_
  refine g_istore_n (pc := 3) X (lv' := [(0, gi x), (1, gi f), (2, gi x), (3, gi 0)]) dX2_without_3 rfl rfl ?_
  have L4 : ∀ (n4 : Nat) (r : Int) (i : Int), (0 ≤ i ∧ i ≤ 32) → (wof x f r) → (hlf x r i) → (32 - i).toNat < n4 → V 0 0 [] 4 [(0, gi x), (1, gi f), (2, gi r), (3, gi i)] [] := by
    intro n4
    induction n4 with
    | zero => intro r i hi hwo hh hn4; exact absurd hn4 (Nat.not_lt_zero _)
    | succ n4 ih4 =>
      intro r i hi hwo hh hn4
      have hr := hwo.1
      refine g_iload_n (pc := 4) X dX2_without_4 3 rfl ?_
      refine g_bipush (pc := 5) X dX2_without_5 (by decide +kernel) ?_
      refine g_icmpge (pc := 7) X 31 dX2_without_7 (by decide) (by omega) (by omega) (fun h7 => ?_) (fun h7 => ?_)
      · refine g_iload_n (pc := 31) X dX2_without_31 2 rfl ?_
        exact ret _ _ _ _ _ _ dX2_without_32 rfl rfl (fun h => by cases h) (gPxi_e r rfl rfl (hlf_32 hx.2 hr.1 (by rw [show (32 : Int) = i by omega]; exact hh)).elim)
      · refine g_iload_n (pc := 10) X dX2_without_10 1 rfl ?_
        refine g_iconst (pc := 11) X dX2_without_11 ?_
        refine g_icmple (pc := 12) X 31 dX2_without_12 (by decide) (by omega) (by omega) (fun h12 => absurd h12 (by omega)) (fun h12 => ?_)
        refine g_iload_n (pc := 15) X dX2_without_15 2 rfl ?_
        refine g_iload_n (pc := 16) X dX2_without_16 1 rfl ?_
        refine g_irem (pc := 17) X dX2_without_17 (by omega) (by omega) ?_
        have m1 := Int.emod_nonneg r (show f ≠ 0 by omega)
        have m2 := Int.emod_lt_of_pos r (show 0 < f by omega)
        refine g_ifne (pc := 18) X 31 dX2_without_18 (by decide) (by omega) (fun h18 => ?_) (fun h18 => ?_)
        · refine g_iload_n (pc := 31) X dX2_without_31 2 rfl ?_
          exact ret _ _ _ _ _ _ dX2_without_32 rfl rfl (fun h => by cases h) (gPxi_e r rfl rfl ⟨hwo, h18⟩)
        · refine g_iload_n (pc := 21) X dX2_without_21 2 rfl ?_
          refine g_iload_n (pc := 22) X dX2_without_22 1 rfl ?_
          refine g_idiv (pc := 23) X dX2_without_23 (by omega) (by omega) ?_
          refine g_istore_n (pc := 24) X (lv' := [(0, gi x), (1, gi f), (2, gi (r / f)), (3, gi i)]) dX2_without_24 rfl rfl ?_
          refine g_iinc (pc := 25) X (lv' := [(0, gi x), (1, gi f), (2, gi (r / f)), (3, gi (i + 1))]) dX2_without_25 3 rfl rfl rfl ?_
          refine g_goto (pc := 28) X 4 dX2_without_28 (by decide) ?_
          exact ih4 _ _ (by omega) (wof_s hf.1 hwo h18) (hlf_s hi.1 (by omega) hf.1 hh) (by omega)
  exact L4 _ _ _ (by omega) (wof_0 hx.1) (by unfold hlf; rw [show (0 : Int).toNat = 0 from rfl, Int.pow_zero, Int.mul_one]; exact Int.le_refl _) (Nat.lt_succ_self _)

set_option maxHeartbeats 4000000 in
set_option maxRecDepth 100000 in
theorem c_X2_lowerByFactorsOf (l : Launch) (D : va_G) (cI cZ : ClassId) (q : Nat) (a : Nat → Nat) (b0 : Nat → Nat) (b1 : Nat → Nat) (n0 : Int) (n1 : Int) (d0 : Int → Int) (d1 : Int → Int) (P : Int) (Q : Int) (N : Int) (h0 : lm d0 n0 P) (h1 : lm d1 n1 Q) (hQ : 0 < Q) (hNr : 1 ≤ N ∧ N ≤ 32768) (hN : ∀ p : Nat, prm p → (p : Int) ∣ Q → (p : Int) ∣ N) : GM l D cI cZ yX2_lowerByFactorsOf cX2_lowerByFactorsOf 4 none ({ frames := 4, cells := 0, slots := 0, locals := 88 }) 0 0 false [.ref q, gi N] [oC q a, oL (a 0) b0 n0, gA cI (b0 0) 8 d0, oL (a 1) b1 n1, gA cI (b1 0) 8 d1] (gPxv (fun xo : (Int → Int) × (Int) × (Int → Int) × (Int) => [oC q a, oL (a 0) b0 xo.2.1, gA cI (b0 0) 8 xo.1, oL (a 1) b1 xo.2.2.2, gA cI (b1 0) 8 xo.2.2.1]) (fun xo : (Int → Int) × (Int) × (Int → Int) × (Int) => (lm xo.1 xo.2.1 (redP P Q)) ∧ (lm xo.2.2.1 xo.2.2.2 (redQ P Q)))) := by
  refine g_enterV (lv0 := [(0, .ref q), (1, gi N)]) (by decide) rfl rfl (fun V X ret => ?_)
  have hP := (lm_b h0).1
  refine g_iload_n (pc := 0) X dX2_lowerByFactorsOf_0 1 rfl ?_
  refine g_istore_n (pc := 1) X (lv' := [(0, .ref q), (1, gi N), (2, gi N)]) dX2_lowerByFactorsOf_1 rfl rfl ?_
  refine g_iconst (pc := 2) X dX2_lowerByFactorsOf_2 ?_
  refine g_istore_n (pc := 3) X (lv' := [(0, .ref q), (1, gi N), (2, gi N), (3, gi 2)]) dX2_lowerByFactorsOf_3 rfl rfl ?_
  have L4 : ∀ (n4 : Nat) (R : Int) (f : Int) (m0 : Int) (e0 : Int → Int) (m1 : Int) (e1 : Int → Int) (u : Int) (w : Int), (1 ≤ R ∧ R ≤ N) → (2 ≤ f ∧ f ≤ 32769) → (lm e0 m0 u) → (lm e1 m1 w) → (com P Q u w) → (0 < w) → (P = 0 ∨ 0 < u) → (nod R f) → (trd N R P u w) → (32770 - f).toNat < n4 → V 0 0 [oC q a, oL (a 0) b0 m0, gA cI (b0 0) 8 e0, oL (a 1) b1 m1, gA cI (b1 0) 8 e1] 4 [(0, .ref q), (1, gi N), (2, gi R), (3, gi f)] [] := by
    intro n4
    induction n4 with
    | zero => intro R f m0 e0 m1 e1 u w hR hf l0 l1 hc hw hu hn ht hn4; exact absurd hn4 (Nat.not_lt_zero _)
    | succ n4 ih4 =>
      intro R f m0 e0 m1 e1 u w hR hf l0 l1 hc hw hu hn ht hn4
      refine g_iload_n (pc := 4) X dX2_lowerByFactorsOf_4 3 rfl ?_
      refine g_iload_n (pc := 5) X dX2_lowerByFactorsOf_5 2 rfl ?_
      refine g_iload_n (pc := 6) X dX2_lowerByFactorsOf_6 3 rfl ?_
      refine g_idiv (pc := 7) X dX2_lowerByFactorsOf_7 (by omega) (by omega) ?_
      have q1 : 0 ≤ R / f ∧ R / f ≤ R := ⟨Int.ediv_nonneg (by omega) (by omega), Int.ediv_le_self _ (by omega)⟩
      refine g_icmpgt (pc := 8) X 34 dX2_lowerByFactorsOf_8 (by decide) (by omega) (by omega) (fun h8 => ?_) (fun h8 => ?_)
      · refine g_iload_n (pc := 34) X dX2_lowerByFactorsOf_34 2 rfl ?_
        refine g_iconst (pc := 35) X dX2_lowerByFactorsOf_35 ?_
        refine g_icmple (pc := 36) X 44 dX2_lowerByFactorsOf_36 (by decide) (by omega) (by omega) (fun h36 => ?_) (fun h36 => ?_)
        · refine g_aload_n (pc := 44) X dX2_lowerByFactorsOf_44 0 rfl ?_
          refine gc_Vxv (pc := 45) X (wr := []) (c_X2_closeZero l D cI cZ q a b0 b1 m0 m1 e0 e1 u w (by first | exact h0_41 | exact l0) (by first | exact h1_41 | exact l1)) lm_X2_70 dX2_lowerByFactorsOf_45 [0, 1, 2, 3, 4] [] rfl rfl rfl rfl (by decide) rfl rfl rfl rfl rfl rfl (fun x45 hx45 => ?_)
          obtain ⟨g_45, m_45⟩ := x45
          have h1_45 : lm g_45 m_45 (if u = 0 then 1 else w) := hx45
          refine g_pick (cn := 0) (sl := 0) (st := []) X (ws' := [oC q a, oL (a 0) b0 m0, gA cI (b0 0) 8 e0, oL (a 1) b1 m_45, gA cI (b1 0) 8 g_45]) [0, 1, 2, 3, 4] rfl rfl ?_
          exact ret _ _ _ _ _ dX2_lowerByFactorsOf_48 rfl rfl (gPxv_e (_, _, _, _) rfl (by have e := low_f hP hQ hc hw (trd_1 hR.1 (by omega) hN ht hc hu); rw [← e.1, ← e.2]; exact ⟨l0, h1_45⟩))
        · refine g_aload_n (pc := 39) X dX2_lowerByFactorsOf_39 0 rfl ?_
          refine g_iload_n (pc := 40) X dX2_lowerByFactorsOf_40 2 rfl ?_
          refine gc_Vxv (pc := 41) X (wr := []) (c_X2_lowerBy l D cI cZ q a b0 b1 m0 m1 e0 e1 u w R l0 l1 (by omega) hw) lm_X2_67 dX2_lowerByFactorsOf_41 [0, 1, 2, 3, 4] [] rfl rfl rfl rfl (by decide) rfl rfl rfl rfl rfl rfl (fun x41 hx41 => ?_)
          obtain ⟨g0_41, m0_41, g1_41, m1_41, u_41, w_41⟩ := x41
          obtain ⟨h0_41, h1_41, hc_41, hw_41, hn_41⟩ : (lm g0_41 m0_41 u_41) ∧ (lm g1_41 m1_41 w_41) ∧ (com u w u_41 w_41) ∧ (0 < w_41) ∧ (u = 0 ∨ (0 < u_41 ∧ ¬ bth R u_41 w_41)) := hx41
          refine g_pick (cn := 0) (sl := 0) (st := []) X (ws' := [oC q a, oL (a 0) b0 m0_41, gA cI (b0 0) 8 g0_41, oL (a 1) b1 m1_41, gA cI (b1 0) 8 g1_41]) [0, 1, 2, 3, 4] rfl rfl ?_
          refine g_aload_n (pc := 44) X dX2_lowerByFactorsOf_44 0 rfl ?_
          refine gc_Vxv (pc := 45) X (wr := []) (c_X2_closeZero l D cI cZ q a b0 b1 m0_41 m1_41 g0_41 g1_41 u_41 w_41 (by first | exact h0_41 | exact l0) (by first | exact h1_41 | exact l1)) lm_X2_70 dX2_lowerByFactorsOf_45 [0, 1, 2, 3, 4] [] rfl rfl rfl rfl (by decide) rfl rfl rfl rfl rfl rfl (fun x45 hx45 => ?_)
          obtain ⟨g_45, m_45⟩ := x45
          have h1_45 : lm g_45 m_45 (if u_41 = 0 then 1 else w_41) := hx45
          refine g_pick (cn := 0) (sl := 0) (st := []) X (ws' := [oC q a, oL (a 0) b0 m0_41, gA cI (b0 0) 8 g0_41, oL (a 1) b1 m_45, gA cI (b1 0) 8 g_45]) [0, 1, 2, 3, 4] rfl rfl ?_
          exact ret _ _ _ _ _ dX2_lowerByFactorsOf_48 rfl rfl (gPxv_e (_, _, _, _) rfl (by have e := low_f hP hQ (com_t hc hc_41) hw_41 (trd_e (by omega) hf.1 hN ht hn (by omega) hc hc_41 hu hn_41); rw [← e.1, ← e.2]; exact ⟨h0_41, h1_45⟩))
      · refine g_iload_n (pc := 11) X dX2_lowerByFactorsOf_11 2 rfl ?_
        refine g_iload_n (pc := 12) X dX2_lowerByFactorsOf_12 3 rfl ?_
        refine g_irem (pc := 13) X dX2_lowerByFactorsOf_13 (by omega) (by omega) ?_
        have rm1 := Int.emod_nonneg R (show f ≠ 0 by omega)
        have rm2 := Int.emod_lt_of_pos R (show 0 < f by omega)
        refine g_ifne (pc := 14) X 28 dX2_lowerByFactorsOf_14 (by decide) (by omega) (fun h14 => ?_) (fun h14 => ?_)
        · refine g_iinc (pc := 28) X (lv' := [(0, .ref q), (1, gi N), (2, gi R), (3, gi (f + 1))]) dX2_lowerByFactorsOf_28 3 rfl rfl rfl ?_
          refine g_goto (pc := 31) X 4 dX2_lowerByFactorsOf_31 (by decide) ?_
          exact ih4 _ _ _ _ _ _ _ _ (by omega) (by omega) l0 l1 hc hw hu (nod_n hn h14) ht (by omega)
        · refine g_aload_n (pc := 17) X dX2_lowerByFactorsOf_17 0 rfl ?_
          refine g_iload_n (pc := 18) X dX2_lowerByFactorsOf_18 3 rfl ?_
          refine gc_Vxv (pc := 19) X (wr := []) (c_X2_lowerBy l D cI cZ q a b0 b1 m0 m1 e0 e1 u w f l0 l1 (by omega) hw) lm_X2_67 dX2_lowerByFactorsOf_19 [0, 1, 2, 3, 4] [] rfl rfl rfl rfl (by decide) rfl rfl rfl rfl rfl rfl (fun x19 hx19 => ?_)
          obtain ⟨g0_19, m0_19, g1_19, m1_19, u_19, w_19⟩ := x19
          obtain ⟨h0_19, h1_19, hc_19, hw_19, hn_19⟩ : (lm g0_19 m0_19 u_19) ∧ (lm g1_19 m1_19 w_19) ∧ (com u w u_19 w_19) ∧ (0 < w_19) ∧ (u = 0 ∨ (0 < u_19 ∧ ¬ bth f u_19 w_19)) := hx19
          refine g_pick (cn := 0) (sl := 0) (st := []) X (ws' := [oC q a, oL (a 0) b0 m0_19, gA cI (b0 0) 8 g0_19, oL (a 1) b1 m1_19, gA cI (b1 0) 8 g1_19]) [0, 1, 2, 3, 4] rfl rfl ?_
          refine g_iload_n (pc := 22) X dX2_lowerByFactorsOf_22 2 rfl ?_
          refine g_iload_n (pc := 23) X dX2_lowerByFactorsOf_23 3 rfl ?_
          refine gc_Sxi (pc := 24) X (wr := [oC q a, oL (a 0) b0 m0_19, gA cI (b0 0) 8 g0_19, oL (a 1) b1 m1_19, gA cI (b1 0) 8 g1_19]) (c_X2_without l D cI cZ R f (by omega) (by omega)) lm_X2_91 dX2_lowerByFactorsOf_24 [] [0, 1, 2, 3, 4] rfl rfl rfl rfl (by decide) rfl rfl rfl rfl (fun x24 hx24 => ?_)
          generalize x24 = z_24 at hx24 ⊢
          obtain ⟨hz_24, hn_24⟩ : (wof R f z_24) ∧ (¬ z_24 % f = 0) := hx24
          refine g_pick (cn := 0) (sl := 0) (st := gi z_24 :: []) X (ws' := [oC q a, oL (a 0) b0 m0_19, gA cI (b0 0) 8 g0_19, oL (a 1) b1 m1_19, gA cI (b1 0) 8 g1_19]) [0, 1, 2, 3, 4] rfl rfl ?_
          have hz1 := hz_24.1
          refine g_istore_n (pc := 27) X (lv' := [(0, .ref q), (1, gi N), (2, gi z_24), (3, gi f)]) dX2_lowerByFactorsOf_27 rfl rfl ?_
          refine g_iinc (pc := 28) X (lv' := [(0, .ref q), (1, gi N), (2, gi z_24), (3, gi (f + 1))]) dX2_lowerByFactorsOf_28 3 rfl rfl rfl ?_
          refine g_goto (pc := 31) X 4 dX2_lowerByFactorsOf_31 (by decide) ?_
          exact ih4 _ _ _ _ _ _ _ _ (by omega) (by omega) h0_19 h1_19 (com_t hc hc_19) hw_19 (by rcases hu with hu | hu; exact Or.inl hu; rcases hn_19 with hb | hb; omega; exact Or.inr hb.1) (nod_y hn hz_24.2.1 hn_24) (trd_y hf.1 ht hn h14 hz_24 hc_19 hu hn_19) (by omega)
  exact L4 _ _ _ _ _ _ _ _ _ (by omega) (by omega) h0 h1 com_0 hQ (by omega) nod_0 trd_0 (Nat.lt_succ_self _)
