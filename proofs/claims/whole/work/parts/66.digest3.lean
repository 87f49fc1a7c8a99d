/-! digest, 3: the class -/
def dgP (h P Q : Int) : Int := dgr (dig Q) 0 (dgr (dig P) 0 (31 * (31 * (31 * h + sgn P) + lims P) + lims Q) (lims P)) (lims Q)
theorem dgr_lm {d : Int → Int} {n P x : Int} (h : lm d n P) : dgr d 0 x n = dgr (dig P) 0 x n := dgr_c (fun i i0 i1 => by rw [Int.zero_add]; exact lm_dig h ⟨i0, i1⟩)

set_option maxHeartbeats 4000000 in
set_option maxRecDepth 100000 in
theorem c_X2_digestOn (l : Launch) (D : va_G) (cI cZ : ClassId) (q : Nat) (a : Nat → Nat) (b0 : Nat → Nat) (b1 : Nat → Nat) (n0 : Int) (n1 : Int) (d0 : Int → Int) (d1 : Int → Int) (P : Int) (Q : Int) (h : Int) (h0 : lm d0 n0 P) (h1 : lm d1 n1 Q) : GM l D cI cZ yX2_digestOn cX2_digestOn 5 (some .long) ({ frames := 3, cells := 0, slots := 0, locals := 70 }) 0 0 true [.ref q, gl h] [oC q a, oL (a 0) b0 n0, gA cI (b0 0) 8 d0, oL (a 1) b1 n1, gA cI (b1 0) 8 d1] (gPl (dgP h P Q)) := by
  refine g_enterL (lv0 := [(0, .ref q), (1, gl h)]) (by decide) rfl rfl (fun V X ret => ?_)
  have z0 := lm_n h0
  have z1 := lm_n h1
  have zp := lm_p h0
  have y0 := h0.1.2.1
  have y1 := h1.1.2.1
  refine g_ldc2 (pc := 0) X dX2_digestOn_0 kc_X2_104 ?_
  refine g_lload_n (pc := 3) X dX2_digestOn_3 1 rfl ?_
  refine g_lmul (pc := 4) X dX2_digestOn_4 ?_
  refine g_aload_n (pc := 5) X dX2_digestOn_5 0 rfl ?_
  refine g_get (pc := 6) X fl_X2_12 dX2_digestOn_6 0 (v := .ref (a 0)) rfl rfl ?_
  refine g_get (pc := 9) X fl_X2_94 dX2_digestOn_9 1 (v := gi n0) rfl rfl ?_
  refine g_ifle (pc := 12) X 19 dX2_digestOn_12 (by decide) (by omega) (fun h12 => ?_) (fun h12 => ?_)
  · refine g_iconst (pc := 19) X dX2_digestOn_19 ?_
    refine g_i2l (pc := 20) X dX2_digestOn_20 (by omega) ?_
    refine g_ladd (pc := 21) X dX2_digestOn_21 ?_
    refine g_lstore_n (pc := 22) X (lv' := [(0, .ref q), (1, gl h), (3, gl (31 * h + 0))]) dX2_digestOn_22 rfl rfl ?_
    refine g_ldc2 (pc := 23) X dX2_digestOn_23 kc_X2_104 ?_
    refine g_lload_n (pc := 26) X dX2_digestOn_26 2 rfl ?_
    refine g_lmul (pc := 27) X dX2_digestOn_27 ?_
    refine g_aload_n (pc := 28) X dX2_digestOn_28 0 rfl ?_
    refine g_get (pc := 29) X fl_X2_12 dX2_digestOn_29 0 (v := .ref (a 0)) rfl rfl ?_
    refine g_get (pc := 32) X fl_X2_94 dX2_digestOn_32 1 (v := gi n0) rfl rfl ?_
    refine g_i2l (pc := 35) X dX2_digestOn_35 (by omega) ?_
    refine g_ladd (pc := 36) X dX2_digestOn_36 ?_
    refine g_lstore_n (pc := 37) X (lv' := [(0, .ref q), (1, gl h), (3, gl (31 * (31 * h + 0) + n0))]) dX2_digestOn_37 rfl rfl ?_
    refine g_ldc2 (pc := 38) X dX2_digestOn_38 kc_X2_104 ?_
    refine g_lload_n (pc := 41) X dX2_digestOn_41 2 rfl ?_
    refine g_lmul (pc := 42) X dX2_digestOn_42 ?_
    refine g_aload_n (pc := 43) X dX2_digestOn_43 0 rfl ?_
    refine g_get (pc := 44) X fl_X2_18 dX2_digestOn_44 0 (v := .ref (a 1)) rfl rfl ?_
    refine g_get (pc := 47) X fl_X2_94 dX2_digestOn_47 3 (v := gi n1) rfl rfl ?_
    refine g_i2l (pc := 50) X dX2_digestOn_50 (by omega) ?_
    refine g_ladd (pc := 51) X dX2_digestOn_51 ?_
    refine g_lstore_n (pc := 52) X (lv' := [(0, .ref q), (1, gl h), (3, gl (31 * (31 * (31 * h + 0) + n0) + n1))]) dX2_digestOn_52 rfl rfl ?_
    refine g_aload_n (pc := 53) X dX2_digestOn_53 0 rfl ?_
    refine g_get (pc := 54) X fl_X2_18 dX2_digestOn_54 0 (v := .ref (a 1)) rfl rfl ?_
    refine g_aload_n (pc := 57) X dX2_digestOn_57 0 rfl ?_
    refine g_get (pc := 58) X fl_X2_12 dX2_digestOn_58 0 (v := .ref (a 0)) rfl rfl ?_
    refine g_lload_n (pc := 61) X dX2_digestOn_61 2 rfl ?_
    refine gc_Vl (pc := 62) X (c_X4_digestOn l D cI cZ (a 0) b0 n0 d0 (31 * (31 * (31 * h + 0) + n0) + n1) h0.1.1 (by omega)) lm_X2_106 dX2_digestOn_62 [1, 2] rfl rfl rfl rfl rfl rfl rfl rfl ?_
    refine gc_Vl (pc := 65) X (c_X4_digestOn l D cI cZ (a 1) b1 n1 d1 (dgr d0 0 (31 * (31 * (31 * h + 0) + n0) + n1) n0) h1.1.1 (by omega)) lm_X2_106 dX2_digestOn_65 [3, 4] rfl rfl rfl rfl rfl rfl rfl rfl ?_
    exact ret _ _ _ _ _ _ dX2_digestOn_68 rfl rfl (gPl_e (by unfold dgP; rw [show sgn P = 0 from if_pos (zp.mp (by omega)), ← z0, ← z1, ← dgr_lm h0, ← dgr_lm h1]))
  · refine g_iconst (pc := 15) X dX2_digestOn_15 ?_
    refine g_goto (pc := 16) X 20 dX2_digestOn_16 (by decide) ?_
    refine g_i2l (pc := 20) X dX2_digestOn_20 (by omega) ?_
    refine g_ladd (pc := 21) X dX2_digestOn_21 ?_
    refine g_lstore_n (pc := 22) X (lv' := [(0, .ref q), (1, gl h), (3, gl (31 * h + 1))]) dX2_digestOn_22 rfl rfl ?_
    refine g_ldc2 (pc := 23) X dX2_digestOn_23 kc_X2_104 ?_
    refine g_lload_n (pc := 26) X dX2_digestOn_26 2 rfl ?_
    refine g_lmul (pc := 27) X dX2_digestOn_27 ?_
    refine g_aload_n (pc := 28) X dX2_digestOn_28 0 rfl ?_
    refine g_get (pc := 29) X fl_X2_12 dX2_digestOn_29 0 (v := .ref (a 0)) rfl rfl ?_
    refine g_get (pc := 32) X fl_X2_94 dX2_digestOn_32 1 (v := gi n0) rfl rfl ?_
    refine g_i2l (pc := 35) X dX2_digestOn_35 (by omega) ?_
    refine g_ladd (pc := 36) X dX2_digestOn_36 ?_
    refine g_lstore_n (pc := 37) X (lv' := [(0, .ref q), (1, gl h), (3, gl (31 * (31 * h + 1) + n0))]) dX2_digestOn_37 rfl rfl ?_
    refine g_ldc2 (pc := 38) X dX2_digestOn_38 kc_X2_104 ?_
    refine g_lload_n (pc := 41) X dX2_digestOn_41 2 rfl ?_
    refine g_lmul (pc := 42) X dX2_digestOn_42 ?_
    refine g_aload_n (pc := 43) X dX2_digestOn_43 0 rfl ?_
    refine g_get (pc := 44) X fl_X2_18 dX2_digestOn_44 0 (v := .ref (a 1)) rfl rfl ?_
    refine g_get (pc := 47) X fl_X2_94 dX2_digestOn_47 3 (v := gi n1) rfl rfl ?_
    refine g_i2l (pc := 50) X dX2_digestOn_50 (by omega) ?_
    refine g_ladd (pc := 51) X dX2_digestOn_51 ?_
    refine g_lstore_n (pc := 52) X (lv' := [(0, .ref q), (1, gl h), (3, gl (31 * (31 * (31 * h + 1) + n0) + n1))]) dX2_digestOn_52 rfl rfl ?_
    refine g_aload_n (pc := 53) X dX2_digestOn_53 0 rfl ?_
    refine g_get (pc := 54) X fl_X2_18 dX2_digestOn_54 0 (v := .ref (a 1)) rfl rfl ?_
    refine g_aload_n (pc := 57) X dX2_digestOn_57 0 rfl ?_
    refine g_get (pc := 58) X fl_X2_12 dX2_digestOn_58 0 (v := .ref (a 0)) rfl rfl ?_
    refine g_lload_n (pc := 61) X dX2_digestOn_61 2 rfl ?_
    refine gc_Vl (pc := 62) X (c_X4_digestOn l D cI cZ (a 0) b0 n0 d0 (31 * (31 * (31 * h + 1) + n0) + n1) h0.1.1 (by omega)) lm_X2_106 dX2_digestOn_62 [1, 2] rfl rfl rfl rfl rfl rfl rfl rfl ?_
    refine gc_Vl (pc := 65) X (c_X4_digestOn l D cI cZ (a 1) b1 n1 d1 (dgr d0 0 (31 * (31 * (31 * h + 1) + n0) + n1) n0) h1.1.1 (by omega)) lm_X2_106 dX2_digestOn_65 [3, 4] rfl rfl rfl rfl rfl rfl rfl rfl ?_
    exact ret _ _ _ _ _ _ dX2_digestOn_68 rfl rfl (gPl_e (by unfold dgP; rw [show sgn P = 1 from if_neg (fun cc => by have := zp.mpr cc; omega), ← z0, ← z1, ← dgr_lm h0, ← dgr_lm h1]))

set_option maxHeartbeats 4000000 in
set_option maxRecDepth 100000 in
theorem c_X8_digest (l : Launch) (D : va_G) (cI cZ : ClassId) (q : Nat) (a : Nat → Nat) (aF : Nat → Nat) (aG : Nat → Nat) (aH : Nat → Nat) (aC : Nat → Nat) (aL : Nat → Nat) (aM : Nat → Nat) (aN : Nat → Nat) (aE : Nat → Nat) (aR : Nat → Nat) (aI : Nat → Nat) (aT : Nat → Nat) (A : Int → Int) (C1 : Int → Int) (C2 : Int → Int) (kp : Int → Int) (rf : Int → Int) (d0 : Int → Int) (d1 : Int → Int) (d2 : Int → Int) (e0 : Int → Int) (e1 : Int → Int) (e2 : Int → Int) (p0 : Int → Int) (p1 : Int → Int) (p2 : Int → Int) (p3 : Int → Int) (p4 : Int → Int) (yv : Int → Int) (yp : Int → Int) (zs : Int → Int) (zr : Int → Int) (n0 : Int) (n1 : Int) (n2 : Int) (r1 : Int) (r2 : Int) (r3 : Int) (r4 : Int) (yn : Int) (yk : Int) (zn : Int) (fP : Int) (fQ : Int) (hA : okA A) (hF : frX d0 d1 d2 n0 n1 fP fQ) : GM l D cI cZ yX8_digest cX8_digest 1 (some .long) ({ frames := 4, cells := 0, slots := 0, locals := 94 }) 0 0 true [.ref q] [oX q a (kp 0) (kp 1) (rf 0) (rf 1) (rf 2), oF (a 0) aF (A 0) (A 1) (A 2) (A 3) (A 4), gA cI (aF 1) 10 (fun j => A (5 + j)), gA cI (aF 2) 10 (fun j => A (15 + j)), gA cI (aF 3) 60 (fun j => A (25 + j)), gA cI (aF 5) 6 (fun j => A (85 + j)), gA cI (aF 6) 36 (fun j => A (91 + j)), gA cI (aF 7) 5 (fun j => A (127 + j)), gA cI (aF 9) 200 (fun j => A (132 + j)), gA cI (aF 11) 40 (fun j => A (332 + j)), gA cI (aF 13) 8 (fun j => A (372 + j)), oF (a 1) aG (C1 0) (C1 1) (C1 2) (C1 3) (C1 4), gA cI (aG 1) 10 (fun j => C1 (5 + j)), gA cI (aG 2) 10 (fun j => C1 (15 + j)), gA cI (aG 3) 60 (fun j => C1 (25 + j)), gA cI (aG 5) 6 (fun j => C1 (85 + j)), gA cI (aG 6) 36 (fun j => C1 (91 + j)), gA cI (aG 7) 5 (fun j => C1 (127 + j)), gA cI (aG 9) 200 (fun j => C1 (132 + j)), gA cI (aG 11) 40 (fun j => C1 (332 + j)), gA cI (aG 13) 8 (fun j => C1 (372 + j)), oF (a 2) aH (C2 0) (C2 1) (C2 2) (C2 3) (C2 4), gA cI (aH 1) 10 (fun j => C2 (5 + j)), gA cI (aH 2) 10 (fun j => C2 (15 + j)), gA cI (aH 3) 60 (fun j => C2 (25 + j)), gA cI (aH 5) 6 (fun j => C2 (85 + j)), gA cI (aH 6) 36 (fun j => C2 (91 + j)), gA cI (aH 7) 5 (fun j => C2 (127 + j)), gA cI (aH 9) 200 (fun j => C2 (132 + j)), gA cI (aH 11) 40 (fun j => C2 (332 + j)), gA cI (aH 13) 8 (fun j => C2 (372 + j)), oC (a 5) aC, oL (aC 0) aL n0, gA cI (aL 0) 8 d0, oL (aC 1) aM n1, gA cI (aM 0) 8 d1, oL (aC 2) aN n2, gA cI (aN 0) 8 d2, oE (a 6) aE, gA cI (aE 0) 60 e0, gA cI (aE 1) 60 e1, gA cI (aE 2) 10 e2, oR (a 7) aR r1 r2 r3 r4, gA cI (aR 2) 8 p0, gA cI (aR 3) 8 p1, gA cI (aR 4) 8 p2, gA cI (aR 5) 8 p3, gA cI (aR 6) 8 p4, oH (a 8) aI yn yk, gA cI (aI 0) 384 yv, gA cI (aI 1) 8 yp, oT (a 9) aT zn, gA cI (aT 0) 64 zs, gA cI (aT 1) 2048 zr] (gPl (dgP (dgF A 593) fP fQ)) := by
  refine g_enterL (lv0 := [(0, .ref q)]) (by decide) rfl rfl (fun V X ret => ?_)
  refine g_aload_n (pc := 0) X dX8_digest_0 0 rfl ?_
  refine g_get (pc := 1) X fl_X8_25 dX8_digest_1 0 (v := .ref (a 5)) rfl rfl ?_
  refine g_aload_n (pc := 4) X dX8_digest_4 0 rfl ?_
  refine g_get (pc := 5) X fl_X8_10 dX8_digest_5 0 (v := .ref (a 0)) rfl rfl ?_
  refine g_ldc2 (pc := 8) X dX8_digest_8 kc_X8_304 ?_
  refine gc_Vl (pc := 11) X (c_X1_digestOn l D cI cZ (a 0) aF A 593 hA) lm_X8_306 dX8_digest_11 [1, 2, 3, 4, 5, 6, 7, 8, 9, 10] rfl rfl rfl rfl rfl rfl rfl rfl ?_
  refine gc_Vl (pc := 14) X (c_X2_digestOn l D cI cZ (a 5) aC aL aM n0 n1 d0 d1 fP fQ (dgF A 593) hF.1 hF.2.1) lm_X8_310 dX8_digest_14 [31, 32, 33, 34, 35] rfl rfl rfl rfl rfl rfl rfl rfl ?_
  exact ret _ _ _ _ _ _ dX8_digest_17 rfl rfl (gPl_e rfl)
