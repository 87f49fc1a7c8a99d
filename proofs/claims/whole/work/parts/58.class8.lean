/-! the class: THE FRACTION, 3 -/
set_option maxHeartbeats 4000000 in
set_option maxRecDepth 100000 in
theorem c_X2_becomeMost (l : Launch) (D : va_G) (cI cZ : ClassId) (q : Nat) (a : Nat → Nat) (b0 : Nat → Nat) (b1 : Nat → Nat) (b2 : Nat → Nat) (n0 : Int) (n1 : Int) (n2 : Int) (d0 : Int → Int) (d1 : Int → Int) (d2 : Int → Int) (p : Int) (w : Int) (n : Int) (k : Int) (k0 : ∀ jj, 0 ≤ jj → jj < 8 → 0 ≤ d0 jj ∧ d0 jj < 1073741824) (k2 : ∀ jj, 0 ≤ jj → jj < 8 → 0 ≤ d2 jj ∧ d2 jj < 1073741824) (hp : 0 ≤ p ∧ p ≤ w) (hw : 1 ≤ w ∧ w ≤ 8192) (hn : 1 ≤ n ∧ n ≤ 9) (hk : 0 ≤ k ∧ k ≤ n) : GM l D cI cZ yX2_becomeMost cX2_becomeMost 9 none ({ frames := 5, cells := 0, slots := 0, locals := 111 }) 0 0 false [.ref q, gi p, gi w, gi n, gi k] [oC q a, oL (a 0) b0 n0, gA cI (b0 0) 8 d0, oL (a 1) b1 n1, gA cI (b1 0) 8 d1, oL (a 2) b2 n2, gA cI (b2 0) 8 d2] (gPxv (fun xo : (Int → Int) × (Int) × (Int → Int) × (Int) × (Int → Int) × (Int) => [oC q a, oL (a 0) b0 xo.2.1, gA cI (b0 0) 8 xo.1, oL (a 1) b1 xo.2.2.2.1, gA cI (b1 0) 8 xo.2.2.1, oL (a 2) b2 xo.2.2.2.2.2, gA cI (b2 0) 8 xo.2.2.2.2.1]) (fun xo : (Int → Int) × (Int) × (Int → Int) × (Int) × (Int → Int) × (Int) => (lm xo.1 xo.2.1 (redP (mP n k p w (n + 1)) (tn w n))) ∧ (lm xo.2.2.1 xo.2.2.2.1 (redQ (mP n k p w (n + 1)) (tn w n))) ∧ (∀ jj, 0 ≤ jj → jj < 8 → 0 ≤ xo.2.2.2.2.1 jj ∧ xo.2.2.2.2.1 jj < 1073741824))) := by
  refine g_enterV (lv0 := [(0, .ref q), (1, gi p), (2, gi w), (3, gi n), (4, gi k)]) (by decide) rfl rfl (fun V X ret => ?_)
  have hgp := gc_pos2 (a := p) (b := w) (by omega)
  have hgl := gc_le (a := p) (b := w) (by omega)
  refine g_iload_n (pc := 0) X dX2_becomeMost_0 1 rfl ?_
  refine g_iload_n (pc := 1) X dX2_becomeMost_1 2 rfl ?_
  refine gc_Si (pc := 2) X (c_X2_commonDivisor l D cI cZ p w (by omega) (by omega)) lm_X2_28 dX2_becomeMost_2 [] rfl rfl rfl rfl rfl rfl ?_
  refine g_top (b := gc p w) (by unfold gmax; split <;> omega) ?_
  refine g_istore (pc := 5) X (lv' := [(0, .ref q), (1, gi p), (2, gi w), (3, gi n), (4, gi k), (5, gi (gc p w))]) dX2_becomeMost_5 rfl rfl ?_
  refine g_iload_n (pc := 7) X dX2_becomeMost_7 1 rfl ?_
  refine g_iload (pc := 8) X dX2_becomeMost_8 5 rfl ?_
  refine g_idiv (pc := 10) X dX2_becomeMost_10 (by omega) (by omega) ?_
  obtain ⟨Y, hY⟩ : ∃ z : Int, z = p / gc p w := ⟨_, rfl⟩
  refine g_top (b := Y) hY.symm ?_
  refine g_istore (pc := 11) X (lv' := [(0, .ref q), (1, gi p), (2, gi w), (3, gi n), (4, gi k), (5, gi (gc p w)), (6, gi Y)]) dX2_becomeMost_11 rfl rfl ?_
  refine g_iload_n (pc := 13) X dX2_becomeMost_13 2 rfl ?_
  refine g_iload (pc := 14) X dX2_becomeMost_14 5 rfl ?_
  refine g_idiv (pc := 16) X dX2_becomeMost_16 (by omega) (by omega) ?_
  obtain ⟨T, hT⟩ : ∃ z : Int, z = w / gc p w := ⟨_, rfl⟩
  refine g_top (b := T) hT.symm ?_
  have hY0 : 0 ≤ Y := by rw [hY]; exact Int.ediv_nonneg hp.1 (by omega)
  have hYT : Y ≤ T := by rw [hY, hT]; exact Int.ediv_le_ediv hgp hp.2
  have hT1 : 1 ≤ T := by have := redQ_1 (P := p) (Q := w) (by omega); unfold redQ at this; rw [hT]; exact this
  have hT2 : T ≤ 8192 := by rw [hT]; exact Int.le_trans (Int.ediv_le_self _ (by omega)) hw.2
  refine g_istore (pc := 17) X (lv' := [(0, .ref q), (1, gi p), (2, gi w), (3, gi n), (4, gi k), (5, gi (gc p w)), (6, gi Y), (7, gi T)]) dX2_becomeMost_17 rfl rfl ?_
  refine g_aload_n (pc := 19) X dX2_becomeMost_19 0 rfl ?_
  refine g_get (pc := 20) X fl_X2_12 dX2_becomeMost_20 0 (v := .ref (a 0)) rfl rfl ?_
  refine g_iconst (pc := 23) X dX2_becomeMost_23 ?_
  refine gc_Vxv (pc := 24) X (wr := [oC q a, oL (a 1) b1 n1, gA cI (b1 0) 8 d1, oL (a 2) b2 n2, gA cI (b2 0) 8 d2]) (c_X4_become l D cI cZ (a 0) b0 n0 d0 0 k0 (by omega)) lm_X2_24 dX2_becomeMost_24 [1, 2] [0, 3, 4, 5, 6] rfl rfl rfl rfl (by decide) rfl rfl rfl rfl rfl rfl (fun x24 hx24 => ?_)
  obtain ⟨g_24, m_24⟩ := x24
  have ht_24 : lm g_24 m_24 0 := hx24
  refine g_pick (cn := 0) (sl := 0) (st := []) X (ws' := [oC q a, oL (a 0) b0 m_24, gA cI (b0 0) 8 g_24, oL (a 1) b1 n1, gA cI (b1 0) 8 d1, oL (a 2) b2 n2, gA cI (b2 0) 8 d2]) [0, 5, 6, 1, 2, 3, 4] rfl rfl ?_
  refine g_iload (pc := 27) X dX2_becomeMost_27 4 rfl ?_
  refine g_istore (pc := 29) X (lv' := [(0, .ref q), (1, gi p), (2, gi w), (3, gi n), (4, gi k), (5, gi (gc p w)), (6, gi Y), (7, gi T), (8, gi k)]) dX2_becomeMost_29 rfl rfl ?_
  have L31 : ∀ (n31 : Nat) (j : Int) (v0 : Int) (e0 : Int → Int) (v2 : Int) (e2 : Int → Int), (k ≤ j ∧ j ≤ n + 1) → (lm e0 v0 (mP n k Y T j)) → (∀ jj, 0 ≤ jj → jj < 8 → 0 ≤ e2 jj ∧ e2 jj < 1073741824) → (n + 1 - j).toNat < n31 → V 0 0 [oC q a, oL (a 0) b0 v0, gA cI (b0 0) 8 e0, oL (a 1) b1 n1, gA cI (b1 0) 8 d1, oL (a 2) b2 v2, gA cI (b2 0) 8 e2] 31 [(0, .ref q), (1, gi p), (2, gi w), (3, gi n), (4, gi k), (5, gi (gc p w)), (6, gi Y), (7, gi T), (8, gi j)] [] := by
    intro n31
    induction n31 with
    | zero => intro j v0 e0 v2 e2 hj hm h2 hn31; exact absurd hn31 (Nat.not_lt_zero _)
    | succ n31 ih31 =>
      intro j v0 e0 v2 e2 hj hm h2 hn31
      refine g_iload (pc := 31) X dX2_becomeMost_31 8 rfl ?_
      refine g_iload_n (pc := 33) X dX2_becomeMost_33 3 rfl ?_
      refine g_icmpgt (pc := 34) X 88 dX2_becomeMost_34 (by decide) (by omega) (by omega) (fun h34 => ?_) (fun h34 => ?_)
      · refine g_aload_n (pc := 88) X dX2_becomeMost_88 0 rfl ?_
        refine g_get (pc := 89) X fl_X2_21 dX2_becomeMost_89 0 (v := .ref (a 2)) rfl rfl ?_
        refine g_iconst (pc := 92) X dX2_becomeMost_92 ?_
        refine gc_Vxv (pc := 93) X (wr := [oC q a, oL (a 0) b0 v0, gA cI (b0 0) 8 e0, oL (a 1) b1 n1, gA cI (b1 0) 8 d1]) (c_X4_become l D cI cZ (a 2) b2 v2 e2 1 h2 (by omega)) lm_X2_24 dX2_becomeMost_93 [5, 6] [0, 1, 2, 3, 4] rfl rfl rfl rfl (by decide) rfl rfl rfl rfl rfl rfl (fun x93 hx93 => ?_)
        obtain ⟨g_93, m_93⟩ := x93
        have ht_93 : lm g_93 m_93 1 := hx93
        refine g_pick (cn := 0) (sl := 0) (st := []) X (ws' := [oC q a, oL (a 0) b0 v0, gA cI (b0 0) 8 e0, oL (a 1) b1 n1, gA cI (b1 0) 8 d1, oL (a 2) b2 m_93, gA cI (b2 0) 8 g_93]) [0, 1, 2, 3, 4, 5, 6] rfl rfl ?_
        refine g_aload_n (pc := 96) X dX2_becomeMost_96 0 rfl ?_
        refine g_iload (pc := 97) X dX2_becomeMost_97 7 rfl ?_
        refine g_iload_n (pc := 99) X dX2_becomeMost_99 3 rfl ?_
        refine gc_Vxv (pc := 100) X (wr := [oL (a 0) b0 v0, gA cI (b0 0) 8 e0, oL (a 1) b1 n1, gA cI (b1 0) 8 d1]) (c_X2_multiplyTerm l D cI cZ q a b2 m_93 g_93 1 T n ht_93 (by omega) (by omega) (fun kk q0 q1 => tn_B8b hn (by omega) (by omega))) lm_X2_40 dX2_becomeMost_100 [0, 5, 6] [1, 2, 3, 4] rfl rfl rfl rfl (by decide) rfl rfl rfl rfl rfl rfl (fun x100 hx100 => ?_)
        obtain ⟨g_100, m_100⟩ := x100
        have ht_100 : lm g_100 m_100 (1 * tn T n) := hx100
        refine g_pick (cn := 0) (sl := 0) (st := []) X (ws' := [oC q a, oL (a 0) b0 v0, gA cI (b0 0) 8 e0, oL (a 1) b1 n1, gA cI (b1 0) 8 d1, oL (a 2) b2 m_100, gA cI (b2 0) 8 g_100]) [4, 0, 1, 2, 3, 5, 6] rfl rfl ?_
        have htn := tn_1 (f := T) (k := n) hT1 (by omega)
        rw [Int.one_mul] at ht_100
        refine g_aload_n (pc := 103) X dX2_becomeMost_103 0 rfl ?_
        refine g_get (pc := 104) X fl_X2_18 dX2_becomeMost_104 0 (v := .ref (a 1)) rfl rfl ?_
        refine g_aload_n (pc := 107) X dX2_becomeMost_107 0 rfl ?_
        refine g_get (pc := 108) X fl_X2_21 dX2_becomeMost_108 0 (v := .ref (a 2)) rfl rfl ?_
        refine gc_Vxv (pc := 111) X (wr := [oC q a, oL (a 0) b0 v0, gA cI (b0 0) 8 e0]) (c_X4_becomeCopy l D cI cZ (a 1) b1 n1 d1 (a 2) b2 m_100 g_100) lm_X2_48 dX2_becomeMost_111 [3, 4, 5, 6] [0, 1, 2] rfl rfl rfl rfl (by decide) rfl rfl rfl rfl rfl rfl (fun x111 hx111 => ?_)
        refine g_pick (cn := 0) (sl := 0) (st := []) X (ws' := [oC q a, oL (a 0) b0 v0, gA cI (b0 0) 8 e0, oL (a 1) b1 m_100, gA cI (b1 0) 8 g_100, oL (a 2) b2 m_100, gA cI (b2 0) 8 g_100]) [0, 1, 2, 3, 4, 5, 6] rfl rfl ?_
        refine g_aload_n (pc := 114) X dX2_becomeMost_114 0 rfl ?_
        refine g_iload (pc := 115) X dX2_becomeMost_115 7 rfl ?_
        refine gc_Vxv (pc := 117) X (wr := [oL (a 2) b2 m_100, gA cI (b2 0) 8 g_100]) (c_X2_lowerByFactorsOf l D cI cZ q a b0 b1 v0 m_100 e0 g_100 (mP n k Y T (n + 1)) (tn T n) T (by rw [show n + 1 = j by omega]; exact hm) ht_100 (by omega) (by omega) (fun pp hpp hd => prm_tn hpp (by omega) hd)) lm_X2_51 dX2_becomeMost_117 [0, 1, 2, 3, 4] [5, 6] rfl rfl rfl rfl (by decide) rfl rfl rfl rfl rfl rfl (fun x117 hx117 => ?_)
        obtain ⟨g0_117, m0_117, g1_117, m1_117⟩ := x117
        obtain ⟨h0_117, h1_117⟩ : (lm g0_117 m0_117 (redP (mP n k Y T (n + 1)) (tn T n))) ∧ (lm g1_117 m1_117 (redQ (mP n k Y T (n + 1)) (tn T n))) := hx117
        refine g_pick (cn := 0) (sl := 0) (st := []) X (ws' := [oC q a, oL (a 0) b0 m0_117, gA cI (b0 0) 8 g0_117, oL (a 1) b1 m1_117, gA cI (b1 0) 8 g1_117, oL (a 2) b2 m_100, gA cI (b2 0) 8 g_100]) [2, 3, 4, 5, 6, 0, 1] rfl rfl ?_
        have hmn := (lm_b hm).1
        rw [show j = n + 1 by omega] at hmn
        have hmr := most_r (n := n) (k := k) (p := p) (w := w) (by omega) hp hw.1 (by rw [← hY, ← hT]; exact hmn) (by rw [← hT]; omega)
        rw [← hY, ← hT] at hmr
        exact ret _ _ _ _ _ dX2_becomeMost_120 rfl rfl (gPxv_e (_, _, _, _, _, _) rfl ⟨by rw [hmr.1]; exact h0_117, by rw [hmr.2]; exact h1_117, ht_100.1.1⟩)
      · refine g_aload_n (pc := 37) X dX2_becomeMost_37 0 rfl ?_
        refine g_get (pc := 38) X fl_X2_21 dX2_becomeMost_38 0 (v := .ref (a 2)) rfl rfl ?_
        refine g_iload_n (pc := 41) X dX2_becomeMost_41 3 rfl ?_
        refine g_iload (pc := 42) X dX2_becomeMost_42 8 rfl ?_
        refine gc_Si (pc := 44) X (c_X2_ways l D cI cZ n j (by omega) (by omega)) lm_X2_37 dX2_becomeMost_44 [] rfl rfl rfl rfl rfl rfl ?_
        have hwb := wy_b (n := n) (j := j) (by omega) (by omega)
        refine gc_Vxv (pc := 47) X (wr := [oC q a, oL (a 0) b0 v0, gA cI (b0 0) 8 e0, oL (a 1) b1 n1, gA cI (b1 0) 8 d1]) (c_X4_become l D cI cZ (a 2) b2 v2 e2 (wy n j) h2 (by omega)) lm_X2_24 dX2_becomeMost_47 [5, 6] [0, 1, 2, 3, 4] rfl rfl rfl rfl (by decide) rfl rfl rfl rfl rfl rfl (fun x47 hx47 => ?_)
        obtain ⟨g_47, m_47⟩ := x47
        have ht_47 : lm g_47 m_47 (wy n j) := hx47
        refine g_pick (cn := 0) (sl := 0) (st := []) X (ws' := [oC q a, oL (a 0) b0 v0, gA cI (b0 0) 8 e0, oL (a 1) b1 n1, gA cI (b1 0) 8 d1, oL (a 2) b2 m_47, gA cI (b2 0) 8 g_47]) [0, 1, 2, 3, 4, 5, 6] rfl rfl ?_
        refine g_aload_n (pc := 50) X dX2_becomeMost_50 0 rfl ?_
        refine g_iload (pc := 51) X dX2_becomeMost_51 6 rfl ?_
        refine g_iload (pc := 53) X dX2_becomeMost_53 8 rfl ?_
        refine gc_Vxv (pc := 55) X (wr := [oL (a 0) b0 v0, gA cI (b0 0) 8 e0, oL (a 1) b1 n1, gA cI (b1 0) 8 d1]) (c_X2_multiplyTerm l D cI cZ q a b2 m_47 g_47 (wy n j) Y j ht_47 (by omega) (by omega) (fun kk q0 q1 => tn_B8a hn (by omega) (by omega) (by omega))) lm_X2_40 dX2_becomeMost_55 [0, 5, 6] [1, 2, 3, 4] rfl rfl rfl rfl (by decide) rfl rfl rfl rfl rfl rfl (fun x55 hx55 => ?_)
        obtain ⟨g_55, m_55⟩ := x55
        have ht_55 : lm g_55 m_55 ((wy n j) * tn Y j) := hx55
        refine g_pick (cn := 0) (sl := 0) (st := []) X (ws' := [oC q a, oL (a 0) b0 v0, gA cI (b0 0) 8 e0, oL (a 1) b1 n1, gA cI (b1 0) 8 d1, oL (a 2) b2 m_55, gA cI (b2 0) 8 g_55]) [4, 0, 1, 2, 3, 5, 6] rfl rfl ?_
        refine g_aload_n (pc := 58) X dX2_becomeMost_58 0 rfl ?_
        refine g_iload (pc := 59) X dX2_becomeMost_59 7 rfl ?_
        refine g_iload (pc := 61) X dX2_becomeMost_61 6 rfl ?_
        refine g_isub (pc := 63) X dX2_becomeMost_63 ?_
        refine g_iload_n (pc := 64) X dX2_becomeMost_64 3 rfl ?_
        refine g_iload (pc := 65) X dX2_becomeMost_65 8 rfl ?_
        refine g_isub (pc := 67) X dX2_becomeMost_67 ?_
        refine gc_Vxv (pc := 68) X (wr := [oL (a 0) b0 v0, gA cI (b0 0) 8 e0, oL (a 1) b1 n1, gA cI (b1 0) 8 d1]) (c_X2_multiplyTerm l D cI cZ q a b2 m_55 g_55 (wy n j * tn Y j) (T - Y) (n - j) ht_55 (by omega) (by omega) (fun kk q0 q1 => tn_B8 hn (by omega) (by omega) (by omega) (by omega))) lm_X2_40 dX2_becomeMost_68 [0, 5, 6] [1, 2, 3, 4] rfl rfl rfl rfl (by decide) rfl rfl rfl rfl rfl rfl (fun x68 hx68 => ?_)
        obtain ⟨g_68, m_68⟩ := x68
        have ht_68 : lm g_68 m_68 ((wy n j * tn Y j) * tn (T - Y) (n - j)) := hx68
        refine g_pick (cn := 0) (sl := 0) (st := []) X (ws' := [oC q a, oL (a 0) b0 v0, gA cI (b0 0) 8 e0, oL (a 1) b1 n1, gA cI (b1 0) 8 d1, oL (a 2) b2 m_68, gA cI (b2 0) 8 g_68]) [4, 0, 1, 2, 3, 5, 6] rfl rfl ?_
        refine g_aload_n (pc := 71) X dX2_becomeMost_71 0 rfl ?_
        refine g_get (pc := 72) X fl_X2_12 dX2_becomeMost_72 0 (v := .ref (a 0)) rfl rfl ?_
        have hjs : mP n k Y T (j + 1) = mP n k Y T j + wy n j * tn Y j * tn (T - Y) (n - j) := by rw [mP_s (by omega), if_pos (by omega), ← mt_hi (by omega) (by omega), show j + (n - j) = n by omega]
        have hb8 := mP_B8 (n := n) (k := k) (L := Y) (T := T) (i := j + 1) (by omega) (by omega) (by omega) (by omega)
        refine g_aload_n (pc := 75) X dX2_becomeMost_75 0 rfl ?_
        refine g_get (pc := 76) X fl_X2_21 dX2_becomeMost_76 0 (v := .ref (a 2)) rfl rfl ?_
        refine gc_Vxv (pc := 79) X (wr := [oC q a, oL (a 1) b1 n1, gA cI (b1 0) 8 d1]) (c_X4_add l D cI cZ (a 0) b0 v0 e0 (a 2) b2 m_68 g_68 (mP n k Y T j) (wy n j * tn Y j * tn (T - Y) (n - j)) hm ht_68 (by rw [← hjs]; exact hb8)) lm_X2_44 dX2_becomeMost_79 [1, 2, 5, 6] [0, 3, 4] rfl rfl rfl rfl (by decide) rfl rfl rfl rfl rfl rfl (fun x79 hx79 => ?_)
        obtain ⟨g_79, z_79⟩ := x79
        have ht_79 : lm g_79 z_79 ((mP n k Y T j) + (wy n j * tn Y j * tn (T - Y) (n - j))) := hx79
        refine g_pick (cn := 0) (sl := 0) (st := []) X (ws' := [oC q a, oL (a 0) b0 z_79, gA cI (b0 0) 8 g_79, oL (a 1) b1 n1, gA cI (b1 0) 8 d1, oL (a 2) b2 m_68, gA cI (b2 0) 8 g_68]) [0, 3, 4, 1, 2, 5, 6] rfl rfl ?_
        refine g_iinc (pc := 82) X (lv' := [(0, .ref q), (1, gi p), (2, gi w), (3, gi n), (4, gi k), (5, gi (gc p w)), (6, gi Y), (7, gi T), (8, gi (j + 1))]) dX2_becomeMost_82 8 rfl rfl rfl ?_
        refine g_goto (pc := 85) X 31 dX2_becomeMost_85 (by decide) ?_
        exact ih31 _ _ _ _ _ (by omega) (by rw [hjs]; exact ht_79) ht_68.1.1 (by omega)
  exact L31 _ _ _ _ _ _ (by omega) (by rw [mP_0 (by omega) (by omega)]; exact ht_24) k2 (Nat.lt_succ_self _)
