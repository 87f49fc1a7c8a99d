/-! the model: lowest terms -/
theorem gcmp_3 (a b : Int) : (gcmp a b = -1 ∧ a < b) ∨ (gcmp a b = 0 ∧ a = b) ∨ (gcmp a b = 1 ∧ b < a) := by unfold gcmp; (repeat' split) <;> omega

set_option maxHeartbeats 4000000 in
set_option maxRecDepth 100000 in
theorem c_X9_divide (l : Launch) (D : va_G) (cI cZ : ClassId) (q : Nat) (a : Nat → Nat) (al : Int) (at_ : Int) (st : Int) (so : Int) (va : Int) (fa : Int) (pl : Int) (sg : Int) (su : Int) (bg : Int → Int) (r : Int) (hB : okB bg) (hr : 0 ≤ r ∧ r ≤ 1) (hA : 0 < nv bg 4) : GM l D cI cZ yX9_divide cX9_divide 3 none ({ frames := 1, cells := 0, slots := 0, locals := 27 }) 0 0 false [.ref q, gi r] [oM q a al at_ st so va fa pl sg su, gA cI (a 19) 112 bg] (gPxv (fun xo : (Int → Int) => [oM q a al at_ st so va fa pl sg su, gA cI (a 19) 112 xo]) (fun xo : (Int → Int) => (okB xo) ∧ (nv xo r = nv bg r / nv bg 4) ∧ (∀ ss, ss ≠ 2 → ss ≠ 5 → ss ≠ r → nv xo ss = nv bg ss))) := by
  refine g_enterV (lv0 := [(0, .ref q), (1, gi r)]) (by decide) rfl rfl (fun V X ret => ?_)
  have hN := nv_b hB (r := r) (by omega)
  refine g_aload_n (pc := 0) X dX9_divide_0 0 rfl ?_
  refine g_iconst (pc := 1) X dX9_divide_1 ?_
  refine g_iconst (pc := 2) X dX9_divide_2 ?_
  refine gc_Vxv (pc := 3) X (wr := []) (c_X9_set l D cI cZ q a al at_ st so va fa pl sg su bg 5 0 (by first | assumption | exact wr_o (by assumption)) (by omega) (by omega)) lm_X9_93 dX9_divide_3 [0, 1] [] rfl rfl rfl rfl (by decide) rfl rfl rfl rfl rfl rfl (fun x3 hx3 => ?_)
  generalize x3 = g_3 at hx3 ⊢
  have hw_3 : wrote 5 (0) bg g_3 := hx3
  refine g_pick (cn := 0) (sl := 0) (st := []) X (ws' := [oM q a al at_ st so va fa pl sg su, gA cI (a 19) 112 g_3]) [0, 1] rfl rfl ?_
  refine g_aload_n (pc := 6) X dX9_divide_6 0 rfl ?_
  refine g_iconst (pc := 7) X dX9_divide_7 ?_
  refine g_iconst (pc := 8) X dX9_divide_8 ?_
  refine gc_Vxv (pc := 9) X (wr := []) (c_X9_set l D cI cZ q a al at_ st so va fa pl sg su g_3 2 0 (by first | assumption | exact wr_o (by assumption)) (by omega) (by omega)) lm_X9_93 dX9_divide_9 [0, 1] [] rfl rfl rfl rfl (by decide) rfl rfl rfl rfl rfl rfl (fun x9 hx9 => ?_)
  generalize x9 = g_9 at hx9 ⊢
  have hw_9 : wrote 2 (0) g_3 g_9 := hx9
  refine g_pick (cn := 0) (sl := 0) (st := []) X (ws' := [oM q a al at_ st so va fa pl sg su, gA cI (a 19) 112 g_9]) [0, 1] rfl rfl ?_
  refine g_sipush (pc := 12) X dX9_divide_12 (by decide +kernel) ?_
  refine g_istore_n (pc := 15) X (lv' := [(0, .ref q), (1, gi r), (2, gi 479)]) dX9_divide_15 rfl rfl ?_
  have L16 : ∀ (n16 : Nat) (i : Int) (e : Int → Int), (-1 ≤ i ∧ i ≤ 479) → (okB e) → (ldv (nv bg r) (nv bg 4) (nv e 2) (nv e 5) i) → (∀ ss, ss ≠ 2 → ss ≠ 5 → nv e ss = nv bg ss) → (i + 1).toNat < n16 → V 0 0 [oM q a al at_ st so va fa pl sg su, gA cI (a 19) 112 e] 16 [(0, .ref q), (1, gi r), (2, gi i)] [] := by
    intro n16
    induction n16 with
    | zero => intro i e hi hE hl hf hn16; exact absurd hn16 (Nat.not_lt_zero _)
    | succ n16 ih16 =>
      intro i e hi hE hl hf hn16
      refine g_iload_n (pc := 16) X dX9_divide_16 2 rfl ?_
      refine g_iflt (pc := 17) X 95 dX9_divide_17 (by decide) (by omega) (fun h17 => ?_) (fun h17 => ?_)
      · have hO : nv e 2 = nv bg r / nv bg 4 := by rw [show i = -1 by omega] at hl; exact ldv_e hl
        refine g_aload_n (pc := 95) X dX9_divide_95 0 rfl ?_
        refine g_iconst (pc := 96) X dX9_divide_96 ?_
        refine g_iload_n (pc := 97) X dX9_divide_97 1 rfl ?_
        refine gc_Vxv (pc := 98) X (wr := []) (c_X9_copy l D cI cZ q a al at_ st so va fa pl sg su e 2 r (by first | assumption | exact wr_o (by assumption)) (by omega) (by omega) (by omega)) lm_X9_200 dX9_divide_98 [0, 1] [] rfl rfl rfl rfl (by decide) rfl rfl rfl rfl rfl rfl (fun x98 hx98 => ?_)
        generalize x98 = g_98 at hx98 ⊢
        have hw_98 : wrote r (nv e 2) e g_98 := hx98
        refine g_pick (cn := 0) (sl := 0) (st := []) X (ws' := [oM q a al at_ st so va fa pl sg su, gA cI (a 19) 112 g_98]) [0, 1] rfl rfl ?_
        exact ret _ _ _ _ _ dX9_divide_101 rfl rfl (gPxv_e g_98 rfl ⟨wr_o hw_98, (wr_k hw_98).trans hO, fun ss s2 s5 sr => (wr_n hw_98 sr).trans (hf ss s2 s5)⟩)
      · have hq := ldv_b hN (by omega) hl
        have hq1 := hq.1
        refine g_aload_n (pc := 20) X dX9_divide_20 0 rfl ?_
        refine g_iconst (pc := 21) X dX9_divide_21 ?_
        refine g_iconst (pc := 22) X dX9_divide_22 ?_
        refine gc_Vxv (pc := 23) X (wr := []) (c_X9_times l D cI cZ q a al at_ st so va fa pl sg su e 5 2 (by first | assumption | exact wr_o (by assumption)) (by omega) (by omega) (by omega)) lm_X9_100 dX9_divide_23 [0, 1] [] rfl rfl rfl rfl (by decide) rfl rfl rfl rfl rfl rfl (fun x23 hx23 => ?_)
        generalize x23 = g_23 at hx23 ⊢
        have hw_23 : wrote 5 (nv e 5 * 2) e g_23 := hx23
        refine g_pick (cn := 0) (sl := 0) (st := []) X (ws' := [oM q a al at_ st so va fa pl sg su, gA cI (a 19) 112 g_23]) [0, 1] rfl rfl ?_
        refine g_aload_n (pc := 26) X dX9_divide_26 0 rfl ?_
        refine g_get (pc := 27) X fl_X9_47 dX9_divide_27 0 (v := .ref (a 19)) rfl rfl ?_
        refine g_bipush (pc := 30) X dX9_divide_30 (by decide +kernel) ?_
        refine g_dup2 (pc := 32) X dX9_divide_32 rfl rfl ?_
        have hd23 := wr_o hw_23 80 (by omega) (by omega)
        refine g_iald (pc := 33) X dX9_divide_33 1 rfl (by omega) rfl ?_
        refine g_aload_n (pc := 34) X dX9_divide_34 0 rfl ?_
        refine g_get (pc := 35) X fl_X9_47 dX9_divide_35 0 (v := .ref (a 19)) rfl rfl ?_
        refine g_bipush (pc := 38) X dX9_divide_38 (by decide +kernel) ?_
        refine g_iload_n (pc := 40) X dX9_divide_40 1 rfl ?_
        refine g_imul (pc := 41) X dX9_divide_41 ?_
        refine g_iload_n (pc := 42) X dX9_divide_42 2 rfl ?_
        refine g_bipush (pc := 43) X dX9_divide_43 (by decide +kernel) ?_
        refine g_idiv (pc := 45) X dX9_divide_45 (by omega) (by omega) ?_
        refine g_iadd (pc := 46) X dX9_divide_46 ?_
        refine g_iald (pc := 47) X dX9_divide_47 1 rfl (by omega) rfl ?_
        have hd := wr_o hw_23 (16 * r + i / 30) (by omega) (by omega)
        refine g_iload_n (pc := 48) X dX9_divide_48 2 rfl ?_
        refine g_bipush (pc := 49) X dX9_divide_49 (by decide +kernel) ?_
        refine g_irem (pc := 51) X dX9_divide_51 (by omega) (by omega) ?_
        refine g_ishr (pc := 52) X dX9_divide_52 (by omega) (by omega) ?_
        refine g_iconst (pc := 53) X dX9_divide_53 ?_
        refine g_iand (pc := 54) X (r := bit (g_23 (16 * r + i / 30)) (i % 30)) dX9_divide_54 (iI_bit hd.1) ?_
        obtain ⟨t, ht⟩ : ∃ z : Int, z = nv bg r / 2 ^ i.toNat % 2 := ⟨_, rfl⟩
        refine g_top (b := t) ((nv_bit (wr_o hw_23) (by omega) (by omega)).trans (by rw [wr_n hw_23 (by omega), hf r (by omega) (by omega)]; exact ht.symm)) ?_
        have htb : 0 ≤ t ∧ t ≤ 1 := by omega
        refine g_iadd (pc := 55) X dX9_divide_55 ?_
        refine g_iast (pc := 56) X (ws' := [oM q a al at_ st so va fa pl sg su, gA cI (a 19) 112 (gupd g_23 80 (g_23 80 + t))]) dX9_divide_56 1 rfl (by omega) rfl rfl ?_
        have hw57 : wrote 5 (nv g_23 5 + t) g_23 (gupd g_23 80 (g_23 80 + t)) := wr_inc (wr_o hw_23) (by omega) (by rw [wr_k hw_23]; omega) htb rfl
        have q2 : nv (gupd g_23 80 (g_23 80 + t)) 2 = nv e 2 := (wr_n hw57 (by decide)).trans (wr_n hw_23 (by decide))
        refine g_aload_n (pc := 57) X dX9_divide_57 0 rfl ?_
        refine g_iconst (pc := 58) X dX9_divide_58 ?_
        refine g_iconst (pc := 59) X dX9_divide_59 ?_
        refine gc_Vxv (pc := 60) X (wr := []) (c_X9_times l D cI cZ q a al at_ st so va fa pl sg su (gupd g_23 80 (g_23 80 + t)) 2 2 (by first | assumption | exact wr_o (by assumption)) (by omega) (by omega) (by omega)) lm_X9_100 dX9_divide_60 [0, 1] [] rfl rfl rfl rfl (by decide) rfl rfl rfl rfl rfl rfl (fun x60 hx60 => ?_)
        generalize x60 = g_60 at hx60 ⊢
        have hw_60 : wrote 2 (nv (gupd g_23 80 (g_23 80 + t)) 2 * 2) (gupd g_23 80 (g_23 80 + t)) g_60 := hx60
        refine g_pick (cn := 0) (sl := 0) (st := []) X (ws' := [oM q a al at_ st so va fa pl sg su, gA cI (a 19) 112 g_60]) [0, 1] rfl rfl ?_
        refine g_aload_n (pc := 63) X dX9_divide_63 0 rfl ?_
        refine g_iconst (pc := 64) X dX9_divide_64 ?_
        refine g_iconst (pc := 65) X dX9_divide_65 ?_
        refine gc_Vi (pc := 66) X (c_X9_compare l D cI cZ q a al at_ st so va fa pl sg su g_60 5 4 (by first | assumption | exact wr_o (by assumption)) (by omega) (by omega)) lm_X9_214 dX9_divide_66 [0, 1] rfl rfl rfl rfl rfl rfl rfl rfl ?_
        have c5 : nv g_60 5 = 2 * nv e 5 + t := (wr_n hw_60 (by decide)).trans ((wr_k hw57).trans (by rw [wr_k hw_23]; omega))
        have c4 : nv g_60 4 = nv bg 4 := (wr_n hw_60 (by decide)).trans ((wr_n hw57 (by decide)).trans ((wr_n hw_23 (by decide)).trans (hf 4 (by decide) (by decide))))
        have c2 : nv g_60 2 = 2 * nv e 2 := (wr_k hw_60).trans (by rw [q2]; omega)
        have hgc := gcmp_3 (nv g_60 5) (nv g_60 4)
        refine g_iflt (pc := 69) X 89 dX9_divide_69 (by decide) (by omega) (fun h69 => ?_) (fun h69 => ?_)
        · refine g_iinc (pc := 89) X (lv' := [(0, .ref q), (1, gi r), (2, gi (i + (-1)))]) dX9_divide_89 2 rfl rfl rfl ?_
          refine g_goto (pc := 92) X 16 dX9_divide_92 (by decide) ?_
          exact ih16 _ _ (by omega) (wr_o hw_60) (by rw [c5, c2, ht]; exact ldv_n hN (by omega) hl (by rw [← ht]; omega)) (fun ss s2 s5 => (wr_n hw_60 s2).trans ((wr_n hw57 s5).trans ((wr_n hw_23 s5).trans (hf ss s2 s5)))) (by omega)
        · refine g_aload_n (pc := 72) X dX9_divide_72 0 rfl ?_
          refine g_iconst (pc := 73) X dX9_divide_73 ?_
          refine g_iconst (pc := 74) X dX9_divide_74 ?_
          refine gc_Vxv (pc := 75) X (wr := []) (c_X9_less l D cI cZ q a al at_ st so va fa pl sg su g_60 5 4 (by first | assumption | exact wr_o (by assumption)) (by omega) (by omega) (by omega) (by omega)) lm_X9_217 dX9_divide_75 [0, 1] [] rfl rfl rfl rfl (by decide) rfl rfl rfl rfl rfl rfl (fun x75 hx75 => ?_)
          generalize x75 = g_75 at hx75 ⊢
          have hw_75 : wrote 5 (nv g_60 5 - nv g_60 4) g_60 g_75 := hx75
          refine g_pick (cn := 0) (sl := 0) (st := []) X (ws' := [oM q a al at_ st so va fa pl sg su, gA cI (a 19) 112 g_75]) [0, 1] rfl rfl ?_
          refine g_aload_n (pc := 78) X dX9_divide_78 0 rfl ?_
          refine g_get (pc := 79) X fl_X9_47 dX9_divide_79 0 (v := .ref (a 19)) rfl rfl ?_
          have hd75 := wr_o hw_75 32 (by omega) (by omega)
          refine g_bipush (pc := 82) X dX9_divide_82 (by decide +kernel) ?_
          refine g_dup2 (pc := 84) X dX9_divide_84 rfl rfl ?_
          refine g_iald (pc := 85) X dX9_divide_85 1 rfl (by omega) rfl ?_
          refine g_iconst (pc := 86) X dX9_divide_86 ?_
          refine g_iadd (pc := 87) X dX9_divide_87 ?_
          refine g_iast (pc := 88) X (ws' := [oM q a al at_ st so va fa pl sg su, gA cI (a 19) 112 (gupd g_75 32 (g_75 32 + 1))]) dX9_divide_88 1 rfl (by omega) rfl rfl ?_
          have hw89 : wrote 2 (nv g_75 2 + 1) g_75 (gupd g_75 32 (g_75 32 + 1)) := wr_inc (wr_o hw_75) (by omega) (by rw [wr_n hw_75 (by decide)]; omega) (by omega) rfl
          have d2 : nv (gupd g_75 32 (g_75 32 + 1)) 2 = 2 * nv e 2 + 1 := (wr_k hw89).trans (by rw [wr_n hw_75 (by decide), c2])
          have d5 : nv (gupd g_75 32 (g_75 32 + 1)) 5 = 2 * nv e 5 + t - nv bg 4 := (wr_n hw89 (by decide)).trans ((wr_k hw_75).trans (by rw [c5, c4]))
          refine g_iinc (pc := 89) X (lv' := [(0, .ref q), (1, gi r), (2, gi (i + (-1)))]) dX9_divide_89 2 rfl rfl rfl ?_
          refine g_goto (pc := 92) X 16 dX9_divide_92 (by decide) ?_
          exact ih16 _ _ (by omega) (wr_o hw89) (by rw [d5, d2, ht]; exact ldv_y hN (by omega) hl (by rw [← ht]; omega)) (fun ss s2 s5 => (wr_n hw89 s2).trans ((wr_n hw_75 s5).trans ((wr_n hw_60 s2).trans ((wr_n hw57 s5).trans ((wr_n hw_23 s5).trans (hf ss s2 s5)))))) (by omega)
  exact L16 _ _ _ (by omega) (wr_o hw_9) (by rw [wr_k hw_9, wr_n hw_9 (show (5 : Int) ≠ 2 by decide), wr_k hw_3]; exact ldv_0 hN hA) (fun ss s2 s5 => (wr_n hw_9 s2).trans (wr_n hw_3 s5)) (Nat.lt_succ_self _)

set_option maxHeartbeats 4000000 in
set_option maxRecDepth 100000 in
theorem c_X9_findCommon (l : Launch) (D : va_G) (cI cZ : ClassId) (q : Nat) (a : Nat → Nat) (al : Int) (at_ : Int) (st : Int) (so : Int) (va : Int) (fa : Int) (pl : Int) (sg : Int) (su : Int) (bg : Int → Int) (hB : okB bg) (hP : 0 < nv bg 0) (hQ : 0 < nv bg 1) : GM l D cI cZ yX9_findCommon cX9_findCommon 3 none ({ frames := 1, cells := 0, slots := 0, locals := 25 }) 0 0 false [.ref q] [oM q a al at_ st so va fa pl sg su, gA cI (a 19) 112 bg] (gPxv (fun xo : (Int → Int) => [oM q a al at_ st so va fa pl sg su, gA cI (a 19) 112 xo]) (fun xo : (Int → Int) => (okB xo) ∧ (com (nv bg 0) (nv bg 1) (nv xo 0) (nv xo 1)) ∧ (0 < nv xo 0 ∧ 0 < nv xo 1) ∧ (nv xo 4 = gc (nv xo 0) (nv xo 1)))) := by
  refine g_enterV (lv0 := [(0, .ref q)]) (by decide) rfl rfl (fun V X ret => ?_)
  have L0 : ∀ (n0 : Nat) (e : Int → Int), (okB e) → (com (nv bg 0) (nv bg 1) (nv e 0) (nv e 1)) → (0 < nv e 0) → (0 < nv e 1) → (nv e 0).toNat < n0 → V 0 0 [oM q a al at_ st so va fa pl sg su, gA cI (a 19) 112 e] 0 [(0, .ref q)] [] := by
    intro n0
    induction n0 with
    | zero => intro e hE hc hU hW hn0; exact absurd hn0 (Nat.not_lt_zero _)
    | succ n0 ih0 =>
      intro e hE hc hU hW hn0
      refine g_aload_n (pc := 0) X dX9_findCommon_0 0 rfl ?_
      refine g_iconst (pc := 1) X dX9_findCommon_1 ?_
      refine gc_Vi (pc := 2) X (c_X9_isOdd l D cI cZ q a al at_ st so va fa pl sg su e 0 (by first | assumption | exact wr_o (by assumption)) (by omega)) lm_X9_207 dX9_findCommon_2 [0, 1] rfl rfl rfl rfl rfl rfl rfl rfl ?_
      refine g_ifneB (pc := 5) X 29 dX9_findCommon_5 (by decide) (fun h5 => ?_) (fun h5 => ?_)
      · have hG : gc (nv e 0) (nv e 1) % 2 = 1 := gc_odd (by omega) h5
        refine g_aload_n (pc := 29) X dX9_findCommon_29 0 rfl ?_
        refine g_iconst (pc := 30) X dX9_findCommon_30 ?_
        refine g_iconst (pc := 31) X dX9_findCommon_31 ?_
        refine gc_Vxv (pc := 32) X (wr := []) (c_X9_copy l D cI cZ q a al at_ st so va fa pl sg su e 0 4 (by first | assumption | exact wr_o (by assumption)) (by omega) (by omega) (by omega)) lm_X9_200 dX9_findCommon_32 [0, 1] [] rfl rfl rfl rfl (by decide) rfl rfl rfl rfl rfl rfl (fun x32 hx32 => ?_)
        generalize x32 = g_32 at hx32 ⊢
        have hw_32 : wrote 4 (nv e 0) e g_32 := hx32
        refine g_pick (cn := 0) (sl := 0) (st := []) X (ws' := [oM q a al at_ st so va fa pl sg su, gA cI (a 19) 112 g_32]) [0, 1] rfl rfl ?_
        refine g_aload_n (pc := 35) X dX9_findCommon_35 0 rfl ?_
        refine g_iconst (pc := 36) X dX9_findCommon_36 ?_
        refine g_iconst (pc := 37) X dX9_findCommon_37 ?_
        refine gc_Vxv (pc := 38) X (wr := []) (c_X9_copy l D cI cZ q a al at_ st so va fa pl sg su g_32 1 5 (by first | assumption | exact wr_o (by assumption)) (by omega) (by omega) (by omega)) lm_X9_200 dX9_findCommon_38 [0, 1] [] rfl rfl rfl rfl (by decide) rfl rfl rfl rfl rfl rfl (fun x38 hx38 => ?_)
        generalize x38 = g_38 at hx38 ⊢
        have hw_38 : wrote 5 (nv g_32 1) g_32 g_38 := hx38
        refine g_pick (cn := 0) (sl := 0) (st := []) X (ws' := [oM q a al at_ st so va fa pl sg su, gA cI (a 19) 112 g_38]) [0, 1] rfl rfl ?_
        have a4 : nv g_38 4 = nv e 0 := (wr_n hw_38 (by decide)).trans (wr_k hw_32)
        have a5 : nv g_38 5 = nv e 1 := (wr_k hw_38).trans (wr_n hw_32 (by decide))
        have L41 : ∀ (n41 : Nat) (f : Int → Int), (okB f) → (nv f 0 = nv e 0 ∧ nv f 1 = nv e 1) → (gst (gc (nv e 0) (nv e 1)) (nv f 4) (nv f 5)) → (nv f 4).toNat < n41 → V 0 0 [oM q a al at_ st so va fa pl sg su, gA cI (a 19) 112 f] 41 [(0, .ref q)] [] := by
          intro n41
          induction n41 with
          | zero => intro f hF kf hs hn41; exact absurd hn41 (Nat.not_lt_zero _)
          | succ n41 ih41 =>
            intro f hF kf hs hn41
            have hs1 := hs.2.1
            refine g_aload_n (pc := 41) X dX9_findCommon_41 0 rfl ?_
            refine g_iconst (pc := 42) X dX9_findCommon_42 ?_
            refine gc_Vi (pc := 43) X (c_X9_isOdd l D cI cZ q a al at_ st so va fa pl sg su f 4 (by first | assumption | exact wr_o (by assumption)) (by omega)) lm_X9_207 dX9_findCommon_43 [0, 1] rfl rfl rfl rfl rfl rfl rfl rfl ?_
            refine g_ifneB (pc := 46) X 57 dX9_findCommon_46 (by decide) (fun h46 => ?_) (fun h46 => ?_)
            · have L57 : ∀ (n57 : Nat) (f2 : Int → Int), (okB f2) → (nv f2 0 = nv e 0 ∧ nv f2 1 = nv e 1) → (nv f2 4 % 2 = 1) → (gst (gc (nv e 0) (nv e 1)) (nv f2 4) (nv f2 5)) → (nv f2 5).toNat < n57 → V 0 0 [oM q a al at_ st so va fa pl sg su, gA cI (a 19) 112 f2] 57 [(0, .ref q)] [] := by
                intro n57
                induction n57 with
                | zero => intro f2 hF2 kf2 o4 hs2 hn57; exact absurd hn57 (Nat.not_lt_zero _)
                | succ n57 ih57 =>
                  intro f2 hF2 kf2 o4 hs2 hn57
                  have hs21 := hs2.2.2
                  refine g_aload_n (pc := 57) X dX9_findCommon_57 0 rfl ?_
                  refine g_iconst (pc := 58) X dX9_findCommon_58 ?_
                  refine gc_Vi (pc := 59) X (c_X9_isOdd l D cI cZ q a al at_ st so va fa pl sg su f2 5 (by first | assumption | exact wr_o (by assumption)) (by omega)) lm_X9_207 dX9_findCommon_59 [0, 1] rfl rfl rfl rfl rfl rfl rfl rfl ?_
                  refine g_ifneB (pc := 62) X 73 dX9_findCommon_62 (by decide) (fun h62 => ?_) (fun h62 => ?_)
                  · refine g_aload_n (pc := 73) X dX9_findCommon_73 0 rfl ?_
                    refine g_iconst (pc := 74) X dX9_findCommon_74 ?_
                    refine g_iconst (pc := 75) X dX9_findCommon_75 ?_
                    refine gc_Vi (pc := 76) X (c_X9_compare l D cI cZ q a al at_ st so va fa pl sg su f2 4 5 (by first | assumption | exact wr_o (by assumption)) (by omega) (by omega)) lm_X9_214 dX9_findCommon_76 [0, 1] rfl rfl rfl rfl rfl rfl rfl rfl ?_
                    refine g_istore_n (pc := 79) X (lv' := [(0, .ref q), (1, gi (gcmp (nv f2 4) (nv f2 5)))]) dX9_findCommon_79 rfl rfl ?_
                    have L80 : ∀ (n80 : Nat) (f3 : Int → Int), (okB f3) → (nv f3 0 = nv e 0 ∧ nv f3 1 = nv e 1) → (nv f3 4 % 2 = 1) → (nv f3 5 % 2 = 1) → (gst (gc (nv e 0) (nv e 1)) (nv f3 4) (nv f3 5)) → (nv f3 4 + nv f3 5).toNat < n80 → V 0 0 [oM q a al at_ st so va fa pl sg su, gA cI (a 19) 112 f3] 80 [(0, .ref q), (1, gi (gcmp (nv f3 4) (nv f3 5)))] [] := by
                      intro n80
                      induction n80 with
                      | zero => intro f3 hF3 kf3 p4 p5 hs3 hn80; exact absurd hn80 (Nat.not_lt_zero _)
                      | succ n80 ih80 =>
                        intro f3 hF3 kf3 p4 p5 hs3 hn80
                        have hg3 := gcmp_3 (nv f3 4) (nv f3 5)
                        refine g_iload_n (pc := 80) X dX9_findCommon_80 1 rfl ?_
                        refine g_ifeq (pc := 81) X 134 dX9_findCommon_81 (by decide) (by omega) (fun h81 => ?_) (fun h81 => ?_)
                        · exact ret _ _ _ _ _ dX9_findCommon_134 rfl rfl (gPxv_e f3 rfl ⟨hF3, by rw [kf3.1, kf3.2]; exact hc, by omega, by rw [kf3.1, kf3.2]; exact gst_e hs3 (by omega)⟩)
                        · refine g_iload_n (pc := 84) X dX9_findCommon_84 1 rfl ?_
                          refine g_ifle (pc := 85) X 92 dX9_findCommon_85 (by decide) (by omega) (fun h85 => ?_) (fun h85 => ?_)
                          · refine g_iconst (pc := 92) X dX9_findCommon_92 ?_
                            refine g_istore_n (pc := 93) X (lv' := [(0, .ref q), (1, gi (gcmp (nv f3 4) (nv f3 5))), (2, gi 5)]) dX9_findCommon_93 rfl rfl ?_
                            have hx3 := hs3.2.1
                            have hx4 := hs3.2.2
                            refine g_aload_n (pc := 94) X dX9_findCommon_94 0 rfl ?_
                            refine g_iload_n (pc := 95) X dX9_findCommon_95 2 rfl ?_
                            refine g_iload_n (pc := 96) X dX9_findCommon_96 1 rfl ?_
                            refine g_ifle (pc := 97) X 104 dX9_findCommon_97 (by decide) (by omega) (fun h97 => ?_) (fun h97 => absurd h97 (by omega))
                            refine g_iconst (pc := 104) X dX9_findCommon_104 ?_
                            refine gc_Vxv (pc := 105) X (wr := []) (c_X9_less l D cI cZ q a al at_ st so va fa pl sg su f3 5 4 (by first | assumption | exact wr_o (by assumption)) (by omega) (by omega) (by omega) (by omega)) lm_X9_217 dX9_findCommon_105 [0, 1] [] rfl rfl rfl rfl (by decide) rfl rfl rfl rfl rfl rfl (fun x105 hx105 => ?_)
                            generalize x105 = g_105 at hx105 ⊢
                            have hw_105 : wrote 5 (nv f3 5 - nv f3 4) f3 g_105 := hx105
                            refine g_pick (cn := 0) (sl := 0) (st := []) X (ws' := [oM q a al at_ st so va fa pl sg su, gA cI (a 19) 112 g_105]) [0, 1] rfl rfl ?_
                            have L108 : ∀ (n108 : Nat) (f4 : Int → Int) (h : Int), (h = 4 ∨ h = 5) → (okB f4) → (nv f4 0 = nv f3 0 ∧ nv f4 1 = nv f3 1) → (nv f4 (9 - h) % 2 = 1) → (gst (gc (nv e 0) (nv e 1)) (nv f4 h) (nv f4 (9 - h))) → (nv f4 h + nv f4 (9 - h) < nv f3 4 + nv f3 5) → (nv f4 h).toNat < n108 → V 0 0 [oM q a al at_ st so va fa pl sg su, gA cI (a 19) 112 f4] 108 [(0, .ref q), (2, gi h)] [] := by
                              intro n108
                              induction n108 with
                              | zero => intro f4 h hh hF4 kf4 lo4 hs4 hd4 hn108; exact absurd hn108 (Nat.not_lt_zero _)
                              | succ n108 ih108 =>
                                intro f4 h hh hF4 kf4 lo4 hs4 hd4 hn108
                                have hs41 := hs4.2.1
                                refine g_aload_n (pc := 108) X dX9_findCommon_108 0 rfl ?_
                                refine g_iload_n (pc := 109) X dX9_findCommon_109 1 rfl ?_
                                refine gc_Vi (pc := 110) X (c_X9_isOdd l D cI cZ q a al at_ st so va fa pl sg su f4 h (by first | assumption | exact wr_o (by assumption)) (by omega)) lm_X9_207 dX9_findCommon_110 [0, 1] rfl rfl rfl rfl rfl rfl rfl rfl ?_
                                refine g_ifneB (pc := 113) X 124 dX9_findCommon_113 (by decide) (fun h113 => ?_) (fun h113 => ?_)
                                · refine g_aload_n (pc := 124) X dX9_findCommon_124 0 rfl ?_
                                  refine g_iconst (pc := 125) X dX9_findCommon_125 ?_
                                  refine g_iconst (pc := 126) X dX9_findCommon_126 ?_
                                  refine gc_Vi (pc := 127) X (c_X9_compare l D cI cZ q a al at_ st so va fa pl sg su f4 4 5 (by first | assumption | exact wr_o (by assumption)) (by omega) (by omega)) lm_X9_214 dX9_findCommon_127 [0, 1] rfl rfl rfl rfl rfl rfl rfl rfl ?_
                                  refine g_istore_n (pc := 130) X (lv' := [(0, .ref q), (1, gi (gcmp (nv f4 4) (nv f4 5))), (2, gi h)]) dX9_findCommon_130 rfl rfl ?_
                                  refine g_goto (pc := 131) X 80 dX9_findCommon_131 (by decide) ?_
                                  refine g_lsub X [0, 1] rfl ?_
                                  exact ih80 _ hF4 ⟨kf4.1.trans kf3.1, kf4.2.trans kf3.2⟩ (by rcases hh with hz | hz; rw [hz] at h113; exact h113; rw [hz] at lo4; exact lo4) (by rcases hh with hz | hz; rw [hz] at lo4; exact lo4; rw [hz] at h113; exact h113) (by rcases hh with hz | hz; rw [hz] at hs4; exact hs4; rw [hz] at hs4; exact gst_c hs4) (by have hx4 := hs4.2.1; have hx5 := hs4.2.2; rcases hh with hz | hz; (rw [hz] at hd4 hx4 hx5; have hd5 : nv f4 4 + nv f4 5 < nv f3 4 + nv f3 5 := hd4; have hx6 : 0 < nv f4 5 := hx5; omega); (rw [hz] at hd4 hx4 hx5; have hd5 : nv f4 5 + nv f4 4 < nv f3 4 + nv f3 5 := hd4; have hx6 : 0 < nv f4 4 := hx5; omega))
                                · refine g_aload_n (pc := 116) X dX9_findCommon_116 0 rfl ?_
                                  refine g_iload_n (pc := 117) X dX9_findCommon_117 1 rfl ?_
                                  refine gc_Vxv (pc := 118) X (wr := []) (c_X9_halve l D cI cZ q a al at_ st so va fa pl sg su f4 h (by first | assumption | exact wr_o (by assumption)) (by omega)) lm_X9_210 dX9_findCommon_118 [0, 1] [] rfl rfl rfl rfl (by decide) rfl rfl rfl rfl rfl rfl (fun x118 hx118 => ?_)
                                  generalize x118 = g_118 at hx118 ⊢
                                  have hw_118 : wrote h (nv f4 h / 2) f4 g_118 := hx118
                                  refine g_pick (cn := 0) (sl := 0) (st := []) X (ws' := [oM q a al at_ st so va fa pl sg su, gA cI (a 19) 112 g_118]) [0, 1] rfl rfl ?_
                                  have u6 := wr_k hw_118
                                  refine g_goto (pc := 121) X 108 dX9_findCommon_121 (by decide) ?_
                                  exact ih108 _ _ hh (wr_o hw_118) ⟨(wr_n hw_118 (by omega)).trans kf4.1, (wr_n hw_118 (by omega)).trans kf4.2⟩ (by rw [wr_n hw_118 (by omega)]; exact lo4) (by rw [u6, wr_n hw_118 (show 9 - h ≠ h by omega)]; exact gst_h hG hs4 (by omega)) (by rw [u6, wr_n hw_118 (show 9 - h ≠ h by omega)]; omega) (by omega)
                            refine g_lsub X [0, 2] rfl ?_
                            exact L108 _ _ _ (by omega) (wr_o hw_105) ⟨wr_n hw_105 (by decide), wr_n hw_105 (by decide)⟩ (by show nv g_105 4 % 2 = 1; rw [wr_n hw_105 (by decide)]; exact p4) (by show gst _ (nv g_105 5) (nv g_105 4); rw [wr_k hw_105, wr_n hw_105 (show (4 : Int) ≠ 5 by decide)]; exact gst_s (gst_c hs3) (by omega)) (by show nv g_105 5 + nv g_105 4 < _; rw [wr_k hw_105, wr_n hw_105 (show (4 : Int) ≠ 5 by decide)]; omega) (Nat.lt_succ_self _)
                          · refine g_iconst (pc := 88) X dX9_findCommon_88 ?_
                            refine g_goto (pc := 89) X 93 dX9_findCommon_89 (by decide) ?_
                            refine g_istore_n (pc := 93) X (lv' := [(0, .ref q), (1, gi (gcmp (nv f3 4) (nv f3 5))), (2, gi 4)]) dX9_findCommon_93 rfl rfl ?_
                            have hx3 := hs3.2.1
                            have hx4 := hs3.2.2
                            refine g_aload_n (pc := 94) X dX9_findCommon_94 0 rfl ?_
                            refine g_iload_n (pc := 95) X dX9_findCommon_95 2 rfl ?_
                            refine g_iload_n (pc := 96) X dX9_findCommon_96 1 rfl ?_
                            refine g_ifle (pc := 97) X 104 dX9_findCommon_97 (by decide) (by omega) (fun h97 => absurd h97 (by omega)) (fun h97 => ?_)
                            refine g_iconst (pc := 100) X dX9_findCommon_100 ?_
                            refine g_goto (pc := 101) X 105 dX9_findCommon_101 (by decide) ?_
                            refine gc_Vxv (pc := 105) X (wr := []) (c_X9_less l D cI cZ q a al at_ st so va fa pl sg su f3 4 5 (by first | assumption | exact wr_o (by assumption)) (by omega) (by omega) (by omega) (by omega)) lm_X9_217 dX9_findCommon_105 [0, 1] [] rfl rfl rfl rfl (by decide) rfl rfl rfl rfl rfl rfl (fun x105 hx105 => ?_)
                            generalize x105 = g_105 at hx105 ⊢
                            have hw_105 : wrote 4 (nv f3 4 - nv f3 5) f3 g_105 := hx105
                            refine g_pick (cn := 0) (sl := 0) (st := []) X (ws' := [oM q a al at_ st so va fa pl sg su, gA cI (a 19) 112 g_105]) [0, 1] rfl rfl ?_
                            have L108 : ∀ (n108 : Nat) (f4 : Int → Int) (h : Int), (h = 4 ∨ h = 5) → (okB f4) → (nv f4 0 = nv f3 0 ∧ nv f4 1 = nv f3 1) → (nv f4 (9 - h) % 2 = 1) → (gst (gc (nv e 0) (nv e 1)) (nv f4 h) (nv f4 (9 - h))) → (nv f4 h + nv f4 (9 - h) < nv f3 4 + nv f3 5) → (nv f4 h).toNat < n108 → V 0 0 [oM q a al at_ st so va fa pl sg su, gA cI (a 19) 112 f4] 108 [(0, .ref q), (2, gi h)] [] := by
                              intro n108
                              induction n108 with
                              | zero => intro f4 h hh hF4 kf4 lo4 hs4 hd4 hn108; exact absurd hn108 (Nat.not_lt_zero _)
                              | succ n108 ih108 =>
                                intro f4 h hh hF4 kf4 lo4 hs4 hd4 hn108
                                have hs41 := hs4.2.1
                                refine g_aload_n (pc := 108) X dX9_findCommon_108 0 rfl ?_
                                refine g_iload_n (pc := 109) X dX9_findCommon_109 1 rfl ?_
                                refine gc_Vi (pc := 110) X (c_X9_isOdd l D cI cZ q a al at_ st so va fa pl sg su f4 h (by first | assumption | exact wr_o (by assumption)) (by omega)) lm_X9_207 dX9_findCommon_110 [0, 1] rfl rfl rfl rfl rfl rfl rfl rfl ?_
                                refine g_ifneB (pc := 113) X 124 dX9_findCommon_113 (by decide) (fun h113 => ?_) (fun h113 => ?_)
                                · refine g_aload_n (pc := 124) X dX9_findCommon_124 0 rfl ?_
                                  refine g_iconst (pc := 125) X dX9_findCommon_125 ?_
                                  refine g_iconst (pc := 126) X dX9_findCommon_126 ?_
                                  refine gc_Vi (pc := 127) X (c_X9_compare l D cI cZ q a al at_ st so va fa pl sg su f4 4 5 (by first | assumption | exact wr_o (by assumption)) (by omega) (by omega)) lm_X9_214 dX9_findCommon_127 [0, 1] rfl rfl rfl rfl rfl rfl rfl rfl ?_
                                  refine g_istore_n (pc := 130) X (lv' := [(0, .ref q), (1, gi (gcmp (nv f4 4) (nv f4 5))), (2, gi h)]) dX9_findCommon_130 rfl rfl ?_
                                  refine g_goto (pc := 131) X 80 dX9_findCommon_131 (by decide) ?_
                                  refine g_lsub X [0, 1] rfl ?_
                                  exact ih80 _ hF4 ⟨kf4.1.trans kf3.1, kf4.2.trans kf3.2⟩ (by rcases hh with hz | hz; rw [hz] at h113; exact h113; rw [hz] at lo4; exact lo4) (by rcases hh with hz | hz; rw [hz] at lo4; exact lo4; rw [hz] at h113; exact h113) (by rcases hh with hz | hz; rw [hz] at hs4; exact hs4; rw [hz] at hs4; exact gst_c hs4) (by have hx4 := hs4.2.1; have hx5 := hs4.2.2; rcases hh with hz | hz; (rw [hz] at hd4 hx4 hx5; have hd5 : nv f4 4 + nv f4 5 < nv f3 4 + nv f3 5 := hd4; have hx6 : 0 < nv f4 5 := hx5; omega); (rw [hz] at hd4 hx4 hx5; have hd5 : nv f4 5 + nv f4 4 < nv f3 4 + nv f3 5 := hd4; have hx6 : 0 < nv f4 4 := hx5; omega))
                                · refine g_aload_n (pc := 116) X dX9_findCommon_116 0 rfl ?_
                                  refine g_iload_n (pc := 117) X dX9_findCommon_117 1 rfl ?_
                                  refine gc_Vxv (pc := 118) X (wr := []) (c_X9_halve l D cI cZ q a al at_ st so va fa pl sg su f4 h (by first | assumption | exact wr_o (by assumption)) (by omega)) lm_X9_210 dX9_findCommon_118 [0, 1] [] rfl rfl rfl rfl (by decide) rfl rfl rfl rfl rfl rfl (fun x118 hx118 => ?_)
                                  generalize x118 = g_118 at hx118 ⊢
                                  have hw_118 : wrote h (nv f4 h / 2) f4 g_118 := hx118
                                  refine g_pick (cn := 0) (sl := 0) (st := []) X (ws' := [oM q a al at_ st so va fa pl sg su, gA cI (a 19) 112 g_118]) [0, 1] rfl rfl ?_
                                  have u6 := wr_k hw_118
                                  refine g_goto (pc := 121) X 108 dX9_findCommon_121 (by decide) ?_
                                  exact ih108 _ _ hh (wr_o hw_118) ⟨(wr_n hw_118 (by omega)).trans kf4.1, (wr_n hw_118 (by omega)).trans kf4.2⟩ (by rw [wr_n hw_118 (by omega)]; exact lo4) (by rw [u6, wr_n hw_118 (show 9 - h ≠ h by omega)]; exact gst_h hG hs4 (by omega)) (by rw [u6, wr_n hw_118 (show 9 - h ≠ h by omega)]; omega) (by omega)
                            refine g_lsub X [0, 2] rfl ?_
                            exact L108 _ _ _ (by omega) (wr_o hw_105) ⟨wr_n hw_105 (by decide), wr_n hw_105 (by decide)⟩ (by show nv g_105 5 % 2 = 1; rw [wr_n hw_105 (by decide)]; exact p5) (by show gst _ (nv g_105 4) (nv g_105 5); rw [wr_k hw_105, wr_n hw_105 (show (5 : Int) ≠ 4 by decide)]; exact gst_s hs3 (by omega)) (by show nv g_105 4 + nv g_105 5 < _; rw [wr_k hw_105, wr_n hw_105 (show (5 : Int) ≠ 4 by decide)]; omega) (Nat.lt_succ_self _)
                    exact L80 _ _ hF2 kf2 o4 h62 hs2 (Nat.lt_succ_self _)
                  · refine g_aload_n (pc := 65) X dX9_findCommon_65 0 rfl ?_
                    refine g_iconst (pc := 66) X dX9_findCommon_66 ?_
                    refine gc_Vxv (pc := 67) X (wr := []) (c_X9_halve l D cI cZ q a al at_ st so va fa pl sg su f2 5 (by first | assumption | exact wr_o (by assumption)) (by omega)) lm_X9_210 dX9_findCommon_67 [0, 1] [] rfl rfl rfl rfl (by decide) rfl rfl rfl rfl rfl rfl (fun x67 hx67 => ?_)
                    generalize x67 = g_67 at hx67 ⊢
                    have hw_67 : wrote 5 (nv f2 5 / 2) f2 g_67 := hx67
                    refine g_pick (cn := 0) (sl := 0) (st := []) X (ws' := [oM q a al at_ st so va fa pl sg su, gA cI (a 19) 112 g_67]) [0, 1] rfl rfl ?_
                    have u5 := wr_k hw_67
                    refine g_goto (pc := 70) X 57 dX9_findCommon_70 (by decide) ?_
                    exact ih57 _ (wr_o hw_67) ⟨(wr_n hw_67 (by decide)).trans kf2.1, (wr_n hw_67 (by decide)).trans kf2.2⟩ (by rw [wr_n hw_67 (by decide)]; exact o4) (by rw [u5, wr_n hw_67 (show (4 : Int) ≠ 5 by decide)]; exact gst_c (gst_h hG (gst_c hs2) (by omega))) (by omega)
              exact L57 _ _ hF kf h46 hs (Nat.lt_succ_self _)
            · refine g_aload_n (pc := 49) X dX9_findCommon_49 0 rfl ?_
              refine g_iconst (pc := 50) X dX9_findCommon_50 ?_
              refine gc_Vxv (pc := 51) X (wr := []) (c_X9_halve l D cI cZ q a al at_ st so va fa pl sg su f 4 (by first | assumption | exact wr_o (by assumption)) (by omega)) lm_X9_210 dX9_findCommon_51 [0, 1] [] rfl rfl rfl rfl (by decide) rfl rfl rfl rfl rfl rfl (fun x51 hx51 => ?_)
              generalize x51 = g_51 at hx51 ⊢
              have hw_51 : wrote 4 (nv f 4 / 2) f g_51 := hx51
              refine g_pick (cn := 0) (sl := 0) (st := []) X (ws' := [oM q a al at_ st so va fa pl sg su, gA cI (a 19) 112 g_51]) [0, 1] rfl rfl ?_
              have u4 := wr_k hw_51
              refine g_goto (pc := 54) X 41 dX9_findCommon_54 (by decide) ?_
              exact ih41 _ (wr_o hw_51) ⟨(wr_n hw_51 (by decide)).trans kf.1, (wr_n hw_51 (by decide)).trans kf.2⟩ (by rw [u4, wr_n hw_51 (show (5 : Int) ≠ 4 by decide)]; exact gst_h hG hs (by omega)) (by omega)
        exact L41 _ _ (wr_o hw_38) ⟨(wr_n hw_38 (by decide)).trans (wr_n hw_32 (by decide)), (wr_n hw_38 (by decide)).trans (wr_n hw_32 (by decide))⟩ (by rw [a4, a5]; exact ⟨rfl, hU, hW⟩) (Nat.lt_succ_self _)
      · refine g_aload_n (pc := 8) X dX9_findCommon_8 0 rfl ?_
        refine g_iconst (pc := 9) X dX9_findCommon_9 ?_
        refine gc_Vi (pc := 10) X (c_X9_isOdd l D cI cZ q a al at_ st so va fa pl sg su e 1 (by first | assumption | exact wr_o (by assumption)) (by omega)) lm_X9_207 dX9_findCommon_10 [0, 1] rfl rfl rfl rfl rfl rfl rfl rfl ?_
        refine g_ifneB (pc := 13) X 29 dX9_findCommon_13 (by decide) (fun h13 => ?_) (fun h13 => ?_)
        · have hG : gc (nv e 0) (nv e 1) % 2 = 1 := by rw [gc_comm]; exact gc_odd (by omega) h13
          refine g_aload_n (pc := 29) X dX9_findCommon_29 0 rfl ?_
          refine g_iconst (pc := 30) X dX9_findCommon_30 ?_
          refine g_iconst (pc := 31) X dX9_findCommon_31 ?_
          refine gc_Vxv (pc := 32) X (wr := []) (c_X9_copy l D cI cZ q a al at_ st so va fa pl sg su e 0 4 (by first | assumption | exact wr_o (by assumption)) (by omega) (by omega) (by omega)) lm_X9_200 dX9_findCommon_32 [0, 1] [] rfl rfl rfl rfl (by decide) rfl rfl rfl rfl rfl rfl (fun x32 hx32 => ?_)
          generalize x32 = g_32 at hx32 ⊢
          have hw_32 : wrote 4 (nv e 0) e g_32 := hx32
          refine g_pick (cn := 0) (sl := 0) (st := []) X (ws' := [oM q a al at_ st so va fa pl sg su, gA cI (a 19) 112 g_32]) [0, 1] rfl rfl ?_
          refine g_aload_n (pc := 35) X dX9_findCommon_35 0 rfl ?_
          refine g_iconst (pc := 36) X dX9_findCommon_36 ?_
          refine g_iconst (pc := 37) X dX9_findCommon_37 ?_
          refine gc_Vxv (pc := 38) X (wr := []) (c_X9_copy l D cI cZ q a al at_ st so va fa pl sg su g_32 1 5 (by first | assumption | exact wr_o (by assumption)) (by omega) (by omega) (by omega)) lm_X9_200 dX9_findCommon_38 [0, 1] [] rfl rfl rfl rfl (by decide) rfl rfl rfl rfl rfl rfl (fun x38 hx38 => ?_)
          generalize x38 = g_38 at hx38 ⊢
          have hw_38 : wrote 5 (nv g_32 1) g_32 g_38 := hx38
          refine g_pick (cn := 0) (sl := 0) (st := []) X (ws' := [oM q a al at_ st so va fa pl sg su, gA cI (a 19) 112 g_38]) [0, 1] rfl rfl ?_
          have a4 : nv g_38 4 = nv e 0 := (wr_n hw_38 (by decide)).trans (wr_k hw_32)
          have a5 : nv g_38 5 = nv e 1 := (wr_k hw_38).trans (wr_n hw_32 (by decide))
          have L41 : ∀ (n41 : Nat) (f : Int → Int), (okB f) → (nv f 0 = nv e 0 ∧ nv f 1 = nv e 1) → (gst (gc (nv e 0) (nv e 1)) (nv f 4) (nv f 5)) → (nv f 4).toNat < n41 → V 0 0 [oM q a al at_ st so va fa pl sg su, gA cI (a 19) 112 f] 41 [(0, .ref q)] [] := by
            intro n41
            induction n41 with
            | zero => intro f hF kf hs hn41; exact absurd hn41 (Nat.not_lt_zero _)
            | succ n41 ih41 =>
              intro f hF kf hs hn41
              have hs1 := hs.2.1
              refine g_aload_n (pc := 41) X dX9_findCommon_41 0 rfl ?_
              refine g_iconst (pc := 42) X dX9_findCommon_42 ?_
              refine gc_Vi (pc := 43) X (c_X9_isOdd l D cI cZ q a al at_ st so va fa pl sg su f 4 (by first | assumption | exact wr_o (by assumption)) (by omega)) lm_X9_207 dX9_findCommon_43 [0, 1] rfl rfl rfl rfl rfl rfl rfl rfl ?_
              refine g_ifneB (pc := 46) X 57 dX9_findCommon_46 (by decide) (fun h46 => ?_) (fun h46 => ?_)
              · have L57 : ∀ (n57 : Nat) (f2 : Int → Int), (okB f2) → (nv f2 0 = nv e 0 ∧ nv f2 1 = nv e 1) → (nv f2 4 % 2 = 1) → (gst (gc (nv e 0) (nv e 1)) (nv f2 4) (nv f2 5)) → (nv f2 5).toNat < n57 → V 0 0 [oM q a al at_ st so va fa pl sg su, gA cI (a 19) 112 f2] 57 [(0, .ref q)] [] := by
                  intro n57
                  induction n57 with
                  | zero => intro f2 hF2 kf2 o4 hs2 hn57; exact absurd hn57 (Nat.not_lt_zero _)
                  | succ n57 ih57 =>
                    intro f2 hF2 kf2 o4 hs2 hn57
                    have hs21 := hs2.2.2
                    refine g_aload_n (pc := 57) X dX9_findCommon_57 0 rfl ?_
                    refine g_iconst (pc := 58) X dX9_findCommon_58 ?_
                    refine gc_Vi (pc := 59) X (c_X9_isOdd l D cI cZ q a al at_ st so va fa pl sg su f2 5 (by first | assumption | exact wr_o (by assumption)) (by omega)) lm_X9_207 dX9_findCommon_59 [0, 1] rfl rfl rfl rfl rfl rfl rfl rfl ?_
                    refine g_ifneB (pc := 62) X 73 dX9_findCommon_62 (by decide) (fun h62 => ?_) (fun h62 => ?_)
                    · refine g_aload_n (pc := 73) X dX9_findCommon_73 0 rfl ?_
                      refine g_iconst (pc := 74) X dX9_findCommon_74 ?_
                      refine g_iconst (pc := 75) X dX9_findCommon_75 ?_
                      refine gc_Vi (pc := 76) X (c_X9_compare l D cI cZ q a al at_ st so va fa pl sg su f2 4 5 (by first | assumption | exact wr_o (by assumption)) (by omega) (by omega)) lm_X9_214 dX9_findCommon_76 [0, 1] rfl rfl rfl rfl rfl rfl rfl rfl ?_
                      refine g_istore_n (pc := 79) X (lv' := [(0, .ref q), (1, gi (gcmp (nv f2 4) (nv f2 5)))]) dX9_findCommon_79 rfl rfl ?_
                      have L80 : ∀ (n80 : Nat) (f3 : Int → Int), (okB f3) → (nv f3 0 = nv e 0 ∧ nv f3 1 = nv e 1) → (nv f3 4 % 2 = 1) → (nv f3 5 % 2 = 1) → (gst (gc (nv e 0) (nv e 1)) (nv f3 4) (nv f3 5)) → (nv f3 4 + nv f3 5).toNat < n80 → V 0 0 [oM q a al at_ st so va fa pl sg su, gA cI (a 19) 112 f3] 80 [(0, .ref q), (1, gi (gcmp (nv f3 4) (nv f3 5)))] [] := by
                        intro n80
                        induction n80 with
                        | zero => intro f3 hF3 kf3 p4 p5 hs3 hn80; exact absurd hn80 (Nat.not_lt_zero _)
                        | succ n80 ih80 =>
                          intro f3 hF3 kf3 p4 p5 hs3 hn80
                          have hg3 := gcmp_3 (nv f3 4) (nv f3 5)
                          refine g_iload_n (pc := 80) X dX9_findCommon_80 1 rfl ?_
                          refine g_ifeq (pc := 81) X 134 dX9_findCommon_81 (by decide) (by omega) (fun h81 => ?_) (fun h81 => ?_)
                          · exact ret _ _ _ _ _ dX9_findCommon_134 rfl rfl (gPxv_e f3 rfl ⟨hF3, by rw [kf3.1, kf3.2]; exact hc, by omega, by rw [kf3.1, kf3.2]; exact gst_e hs3 (by omega)⟩)
                          · refine g_iload_n (pc := 84) X dX9_findCommon_84 1 rfl ?_
                            refine g_ifle (pc := 85) X 92 dX9_findCommon_85 (by decide) (by omega) (fun h85 => ?_) (fun h85 => ?_)
                            · refine g_iconst (pc := 92) X dX9_findCommon_92 ?_
                              refine g_istore_n (pc := 93) X (lv' := [(0, .ref q), (1, gi (gcmp (nv f3 4) (nv f3 5))), (2, gi 5)]) dX9_findCommon_93 rfl rfl ?_
                              have hx3 := hs3.2.1
                              have hx4 := hs3.2.2
                              refine g_aload_n (pc := 94) X dX9_findCommon_94 0 rfl ?_
                              refine g_iload_n (pc := 95) X dX9_findCommon_95 2 rfl ?_
                              refine g_iload_n (pc := 96) X dX9_findCommon_96 1 rfl ?_
                              refine g_ifle (pc := 97) X 104 dX9_findCommon_97 (by decide) (by omega) (fun h97 => ?_) (fun h97 => absurd h97 (by omega))
                              refine g_iconst (pc := 104) X dX9_findCommon_104 ?_
                              refine gc_Vxv (pc := 105) X (wr := []) (c_X9_less l D cI cZ q a al at_ st so va fa pl sg su f3 5 4 (by first | assumption | exact wr_o (by assumption)) (by omega) (by omega) (by omega) (by omega)) lm_X9_217 dX9_findCommon_105 [0, 1] [] rfl rfl rfl rfl (by decide) rfl rfl rfl rfl rfl rfl (fun x105 hx105 => ?_)
                              generalize x105 = g_105 at hx105 ⊢
                              have hw_105 : wrote 5 (nv f3 5 - nv f3 4) f3 g_105 := hx105
                              refine g_pick (cn := 0) (sl := 0) (st := []) X (ws' := [oM q a al at_ st so va fa pl sg su, gA cI (a 19) 112 g_105]) [0, 1] rfl rfl ?_
                              have L108 : ∀ (n108 : Nat) (f4 : Int → Int) (h : Int), (h = 4 ∨ h = 5) → (okB f4) → (nv f4 0 = nv f3 0 ∧ nv f4 1 = nv f3 1) → (nv f4 (9 - h) % 2 = 1) → (gst (gc (nv e 0) (nv e 1)) (nv f4 h) (nv f4 (9 - h))) → (nv f4 h + nv f4 (9 - h) < nv f3 4 + nv f3 5) → (nv f4 h).toNat < n108 → V 0 0 [oM q a al at_ st so va fa pl sg su, gA cI (a 19) 112 f4] 108 [(0, .ref q), (2, gi h)] [] := by
                                intro n108
                                induction n108 with
                                | zero => intro f4 h hh hF4 kf4 lo4 hs4 hd4 hn108; exact absurd hn108 (Nat.not_lt_zero _)
                                | succ n108 ih108 =>
                                  intro f4 h hh hF4 kf4 lo4 hs4 hd4 hn108
                                  have hs41 := hs4.2.1
                                  refine g_aload_n (pc := 108) X dX9_findCommon_108 0 rfl ?_
                                  refine g_iload_n (pc := 109) X dX9_findCommon_109 1 rfl ?_
                                  refine gc_Vi (pc := 110) X (c_X9_isOdd l D cI cZ q a al at_ st so va fa pl sg su f4 h (by first | assumption | exact wr_o (by assumption)) (by omega)) lm_X9_207 dX9_findCommon_110 [0, 1] rfl rfl rfl rfl rfl rfl rfl rfl ?_
                                  refine g_ifneB (pc := 113) X 124 dX9_findCommon_113 (by decide) (fun h113 => ?_) (fun h113 => ?_)
                                  · refine g_aload_n (pc := 124) X dX9_findCommon_124 0 rfl ?_
                                    refine g_iconst (pc := 125) X dX9_findCommon_125 ?_
                                    refine g_iconst (pc := 126) X dX9_findCommon_126 ?_
                                    refine gc_Vi (pc := 127) X (c_X9_compare l D cI cZ q a al at_ st so va fa pl sg su f4 4 5 (by first | assumption | exact wr_o (by assumption)) (by omega) (by omega)) lm_X9_214 dX9_findCommon_127 [0, 1] rfl rfl rfl rfl rfl rfl rfl rfl ?_
                                    refine g_istore_n (pc := 130) X (lv' := [(0, .ref q), (1, gi (gcmp (nv f4 4) (nv f4 5))), (2, gi h)]) dX9_findCommon_130 rfl rfl ?_
                                    refine g_goto (pc := 131) X 80 dX9_findCommon_131 (by decide) ?_
                                    refine g_lsub X [0, 1] rfl ?_
                                    exact ih80 _ hF4 ⟨kf4.1.trans kf3.1, kf4.2.trans kf3.2⟩ (by rcases hh with hz | hz; rw [hz] at h113; exact h113; rw [hz] at lo4; exact lo4) (by rcases hh with hz | hz; rw [hz] at lo4; exact lo4; rw [hz] at h113; exact h113) (by rcases hh with hz | hz; rw [hz] at hs4; exact hs4; rw [hz] at hs4; exact gst_c hs4) (by have hx4 := hs4.2.1; have hx5 := hs4.2.2; rcases hh with hz | hz; (rw [hz] at hd4 hx4 hx5; have hd5 : nv f4 4 + nv f4 5 < nv f3 4 + nv f3 5 := hd4; have hx6 : 0 < nv f4 5 := hx5; omega); (rw [hz] at hd4 hx4 hx5; have hd5 : nv f4 5 + nv f4 4 < nv f3 4 + nv f3 5 := hd4; have hx6 : 0 < nv f4 4 := hx5; omega))
                                  · refine g_aload_n (pc := 116) X dX9_findCommon_116 0 rfl ?_
                                    refine g_iload_n (pc := 117) X dX9_findCommon_117 1 rfl ?_
                                    refine gc_Vxv (pc := 118) X (wr := []) (c_X9_halve l D cI cZ q a al at_ st so va fa pl sg su f4 h (by first | assumption | exact wr_o (by assumption)) (by omega)) lm_X9_210 dX9_findCommon_118 [0, 1] [] rfl rfl rfl rfl (by decide) rfl rfl rfl rfl rfl rfl (fun x118 hx118 => ?_)
                                    generalize x118 = g_118 at hx118 ⊢
                                    have hw_118 : wrote h (nv f4 h / 2) f4 g_118 := hx118
                                    refine g_pick (cn := 0) (sl := 0) (st := []) X (ws' := [oM q a al at_ st so va fa pl sg su, gA cI (a 19) 112 g_118]) [0, 1] rfl rfl ?_
                                    have u6 := wr_k hw_118
                                    refine g_goto (pc := 121) X 108 dX9_findCommon_121 (by decide) ?_
                                    exact ih108 _ _ hh (wr_o hw_118) ⟨(wr_n hw_118 (by omega)).trans kf4.1, (wr_n hw_118 (by omega)).trans kf4.2⟩ (by rw [wr_n hw_118 (by omega)]; exact lo4) (by rw [u6, wr_n hw_118 (show 9 - h ≠ h by omega)]; exact gst_h hG hs4 (by omega)) (by rw [u6, wr_n hw_118 (show 9 - h ≠ h by omega)]; omega) (by omega)
                              refine g_lsub X [0, 2] rfl ?_
                              exact L108 _ _ _ (by omega) (wr_o hw_105) ⟨wr_n hw_105 (by decide), wr_n hw_105 (by decide)⟩ (by show nv g_105 4 % 2 = 1; rw [wr_n hw_105 (by decide)]; exact p4) (by show gst _ (nv g_105 5) (nv g_105 4); rw [wr_k hw_105, wr_n hw_105 (show (4 : Int) ≠ 5 by decide)]; exact gst_s (gst_c hs3) (by omega)) (by show nv g_105 5 + nv g_105 4 < _; rw [wr_k hw_105, wr_n hw_105 (show (4 : Int) ≠ 5 by decide)]; omega) (Nat.lt_succ_self _)
                            · refine g_iconst (pc := 88) X dX9_findCommon_88 ?_
                              refine g_goto (pc := 89) X 93 dX9_findCommon_89 (by decide) ?_
                              refine g_istore_n (pc := 93) X (lv' := [(0, .ref q), (1, gi (gcmp (nv f3 4) (nv f3 5))), (2, gi 4)]) dX9_findCommon_93 rfl rfl ?_
                              have hx3 := hs3.2.1
                              have hx4 := hs3.2.2
                              refine g_aload_n (pc := 94) X dX9_findCommon_94 0 rfl ?_
                              refine g_iload_n (pc := 95) X dX9_findCommon_95 2 rfl ?_
                              refine g_iload_n (pc := 96) X dX9_findCommon_96 1 rfl ?_
                              refine g_ifle (pc := 97) X 104 dX9_findCommon_97 (by decide) (by omega) (fun h97 => absurd h97 (by omega)) (fun h97 => ?_)
                              refine g_iconst (pc := 100) X dX9_findCommon_100 ?_
                              refine g_goto (pc := 101) X 105 dX9_findCommon_101 (by decide) ?_
                              refine gc_Vxv (pc := 105) X (wr := []) (c_X9_less l D cI cZ q a al at_ st so va fa pl sg su f3 4 5 (by first | assumption | exact wr_o (by assumption)) (by omega) (by omega) (by omega) (by omega)) lm_X9_217 dX9_findCommon_105 [0, 1] [] rfl rfl rfl rfl (by decide) rfl rfl rfl rfl rfl rfl (fun x105 hx105 => ?_)
                              generalize x105 = g_105 at hx105 ⊢
                              have hw_105 : wrote 4 (nv f3 4 - nv f3 5) f3 g_105 := hx105
                              refine g_pick (cn := 0) (sl := 0) (st := []) X (ws' := [oM q a al at_ st so va fa pl sg su, gA cI (a 19) 112 g_105]) [0, 1] rfl rfl ?_
                              have L108 : ∀ (n108 : Nat) (f4 : Int → Int) (h : Int), (h = 4 ∨ h = 5) → (okB f4) → (nv f4 0 = nv f3 0 ∧ nv f4 1 = nv f3 1) → (nv f4 (9 - h) % 2 = 1) → (gst (gc (nv e 0) (nv e 1)) (nv f4 h) (nv f4 (9 - h))) → (nv f4 h + nv f4 (9 - h) < nv f3 4 + nv f3 5) → (nv f4 h).toNat < n108 → V 0 0 [oM q a al at_ st so va fa pl sg su, gA cI (a 19) 112 f4] 108 [(0, .ref q), (2, gi h)] [] := by
                                intro n108
                                induction n108 with
                                | zero => intro f4 h hh hF4 kf4 lo4 hs4 hd4 hn108; exact absurd hn108 (Nat.not_lt_zero _)
                                | succ n108 ih108 =>
                                  intro f4 h hh hF4 kf4 lo4 hs4 hd4 hn108
                                  have hs41 := hs4.2.1
                                  refine g_aload_n (pc := 108) X dX9_findCommon_108 0 rfl ?_
                                  refine g_iload_n (pc := 109) X dX9_findCommon_109 1 rfl ?_
                                  refine gc_Vi (pc := 110) X (c_X9_isOdd l D cI cZ q a al at_ st so va fa pl sg su f4 h (by first | assumption | exact wr_o (by assumption)) (by omega)) lm_X9_207 dX9_findCommon_110 [0, 1] rfl rfl rfl rfl rfl rfl rfl rfl ?_
                                  refine g_ifneB (pc := 113) X 124 dX9_findCommon_113 (by decide) (fun h113 => ?_) (fun h113 => ?_)
                                  · refine g_aload_n (pc := 124) X dX9_findCommon_124 0 rfl ?_
                                    refine g_iconst (pc := 125) X dX9_findCommon_125 ?_
                                    refine g_iconst (pc := 126) X dX9_findCommon_126 ?_
                                    refine gc_Vi (pc := 127) X (c_X9_compare l D cI cZ q a al at_ st so va fa pl sg su f4 4 5 (by first | assumption | exact wr_o (by assumption)) (by omega) (by omega)) lm_X9_214 dX9_findCommon_127 [0, 1] rfl rfl rfl rfl rfl rfl rfl rfl ?_
                                    refine g_istore_n (pc := 130) X (lv' := [(0, .ref q), (1, gi (gcmp (nv f4 4) (nv f4 5))), (2, gi h)]) dX9_findCommon_130 rfl rfl ?_
                                    refine g_goto (pc := 131) X 80 dX9_findCommon_131 (by decide) ?_
                                    refine g_lsub X [0, 1] rfl ?_
                                    exact ih80 _ hF4 ⟨kf4.1.trans kf3.1, kf4.2.trans kf3.2⟩ (by rcases hh with hz | hz; rw [hz] at h113; exact h113; rw [hz] at lo4; exact lo4) (by rcases hh with hz | hz; rw [hz] at lo4; exact lo4; rw [hz] at h113; exact h113) (by rcases hh with hz | hz; rw [hz] at hs4; exact hs4; rw [hz] at hs4; exact gst_c hs4) (by have hx4 := hs4.2.1; have hx5 := hs4.2.2; rcases hh with hz | hz; (rw [hz] at hd4 hx4 hx5; have hd5 : nv f4 4 + nv f4 5 < nv f3 4 + nv f3 5 := hd4; have hx6 : 0 < nv f4 5 := hx5; omega); (rw [hz] at hd4 hx4 hx5; have hd5 : nv f4 5 + nv f4 4 < nv f3 4 + nv f3 5 := hd4; have hx6 : 0 < nv f4 4 := hx5; omega))
                                  · refine g_aload_n (pc := 116) X dX9_findCommon_116 0 rfl ?_
                                    refine g_iload_n (pc := 117) X dX9_findCommon_117 1 rfl ?_
                                    refine gc_Vxv (pc := 118) X (wr := []) (c_X9_halve l D cI cZ q a al at_ st so va fa pl sg su f4 h (by first | assumption | exact wr_o (by assumption)) (by omega)) lm_X9_210 dX9_findCommon_118 [0, 1] [] rfl rfl rfl rfl (by decide) rfl rfl rfl rfl rfl rfl (fun x118 hx118 => ?_)
                                    generalize x118 = g_118 at hx118 ⊢
                                    have hw_118 : wrote h (nv f4 h / 2) f4 g_118 := hx118
                                    refine g_pick (cn := 0) (sl := 0) (st := []) X (ws' := [oM q a al at_ st so va fa pl sg su, gA cI (a 19) 112 g_118]) [0, 1] rfl rfl ?_
                                    have u6 := wr_k hw_118
                                    refine g_goto (pc := 121) X 108 dX9_findCommon_121 (by decide) ?_
                                    exact ih108 _ _ hh (wr_o hw_118) ⟨(wr_n hw_118 (by omega)).trans kf4.1, (wr_n hw_118 (by omega)).trans kf4.2⟩ (by rw [wr_n hw_118 (by omega)]; exact lo4) (by rw [u6, wr_n hw_118 (show 9 - h ≠ h by omega)]; exact gst_h hG hs4 (by omega)) (by rw [u6, wr_n hw_118 (show 9 - h ≠ h by omega)]; omega) (by omega)
                              refine g_lsub X [0, 2] rfl ?_
                              exact L108 _ _ _ (by omega) (wr_o hw_105) ⟨wr_n hw_105 (by decide), wr_n hw_105 (by decide)⟩ (by show nv g_105 5 % 2 = 1; rw [wr_n hw_105 (by decide)]; exact p5) (by show gst _ (nv g_105 4) (nv g_105 5); rw [wr_k hw_105, wr_n hw_105 (show (5 : Int) ≠ 4 by decide)]; exact gst_s hs3 (by omega)) (by show nv g_105 4 + nv g_105 5 < _; rw [wr_k hw_105, wr_n hw_105 (show (5 : Int) ≠ 4 by decide)]; omega) (Nat.lt_succ_self _)
                      exact L80 _ _ hF2 kf2 o4 h62 hs2 (Nat.lt_succ_self _)
                    · refine g_aload_n (pc := 65) X dX9_findCommon_65 0 rfl ?_
                      refine g_iconst (pc := 66) X dX9_findCommon_66 ?_
                      refine gc_Vxv (pc := 67) X (wr := []) (c_X9_halve l D cI cZ q a al at_ st so va fa pl sg su f2 5 (by first | assumption | exact wr_o (by assumption)) (by omega)) lm_X9_210 dX9_findCommon_67 [0, 1] [] rfl rfl rfl rfl (by decide) rfl rfl rfl rfl rfl rfl (fun x67 hx67 => ?_)
                      generalize x67 = g_67 at hx67 ⊢
                      have hw_67 : wrote 5 (nv f2 5 / 2) f2 g_67 := hx67
                      refine g_pick (cn := 0) (sl := 0) (st := []) X (ws' := [oM q a al at_ st so va fa pl sg su, gA cI (a 19) 112 g_67]) [0, 1] rfl rfl ?_
                      have u5 := wr_k hw_67
                      refine g_goto (pc := 70) X 57 dX9_findCommon_70 (by decide) ?_
                      exact ih57 _ (wr_o hw_67) ⟨(wr_n hw_67 (by decide)).trans kf2.1, (wr_n hw_67 (by decide)).trans kf2.2⟩ (by rw [wr_n hw_67 (by decide)]; exact o4) (by rw [u5, wr_n hw_67 (show (4 : Int) ≠ 5 by decide)]; exact gst_c (gst_h hG (gst_c hs2) (by omega))) (by omega)
                exact L57 _ _ hF kf h46 hs (Nat.lt_succ_self _)
              · refine g_aload_n (pc := 49) X dX9_findCommon_49 0 rfl ?_
                refine g_iconst (pc := 50) X dX9_findCommon_50 ?_
                refine gc_Vxv (pc := 51) X (wr := []) (c_X9_halve l D cI cZ q a al at_ st so va fa pl sg su f 4 (by first | assumption | exact wr_o (by assumption)) (by omega)) lm_X9_210 dX9_findCommon_51 [0, 1] [] rfl rfl rfl rfl (by decide) rfl rfl rfl rfl rfl rfl (fun x51 hx51 => ?_)
                generalize x51 = g_51 at hx51 ⊢
                have hw_51 : wrote 4 (nv f 4 / 2) f g_51 := hx51
                refine g_pick (cn := 0) (sl := 0) (st := []) X (ws' := [oM q a al at_ st so va fa pl sg su, gA cI (a 19) 112 g_51]) [0, 1] rfl rfl ?_
                have u4 := wr_k hw_51
                refine g_goto (pc := 54) X 41 dX9_findCommon_54 (by decide) ?_
                exact ih41 _ (wr_o hw_51) ⟨(wr_n hw_51 (by decide)).trans kf.1, (wr_n hw_51 (by decide)).trans kf.2⟩ (by rw [u4, wr_n hw_51 (show (5 : Int) ≠ 4 by decide)]; exact gst_h hG hs (by omega)) (by omega)
          exact L41 _ _ (wr_o hw_38) ⟨(wr_n hw_38 (by decide)).trans (wr_n hw_32 (by decide)), (wr_n hw_38 (by decide)).trans (wr_n hw_32 (by decide))⟩ (by rw [a4, a5]; exact ⟨rfl, hU, hW⟩) (Nat.lt_succ_self _)
        · refine g_aload_n (pc := 16) X dX9_findCommon_16 0 rfl ?_
          refine g_iconst (pc := 17) X dX9_findCommon_17 ?_
          refine gc_Vxv (pc := 18) X (wr := []) (c_X9_halve l D cI cZ q a al at_ st so va fa pl sg su e 0 (by first | assumption | exact wr_o (by assumption)) (by omega)) lm_X9_210 dX9_findCommon_18 [0, 1] [] rfl rfl rfl rfl (by decide) rfl rfl rfl rfl rfl rfl (fun x18 hx18 => ?_)
          generalize x18 = g_18 at hx18 ⊢
          have hw_18 : wrote 0 (nv e 0 / 2) e g_18 := hx18
          refine g_pick (cn := 0) (sl := 0) (st := []) X (ws' := [oM q a al at_ st so va fa pl sg su, gA cI (a 19) 112 g_18]) [0, 1] rfl rfl ?_
          refine g_aload_n (pc := 21) X dX9_findCommon_21 0 rfl ?_
          refine g_iconst (pc := 22) X dX9_findCommon_22 ?_
          refine gc_Vxv (pc := 23) X (wr := []) (c_X9_halve l D cI cZ q a al at_ st so va fa pl sg su g_18 1 (by first | assumption | exact wr_o (by assumption)) (by omega)) lm_X9_210 dX9_findCommon_23 [0, 1] [] rfl rfl rfl rfl (by decide) rfl rfl rfl rfl rfl rfl (fun x23 hx23 => ?_)
          generalize x23 = g_23 at hx23 ⊢
          have hw_23 : wrote 1 (nv g_18 1 / 2) g_18 g_23 := hx23
          refine g_pick (cn := 0) (sl := 0) (st := []) X (ws' := [oM q a al at_ st so va fa pl sg su, gA cI (a 19) 112 g_23]) [0, 1] rfl rfl ?_
          have u0 : nv g_23 0 = nv e 0 / 2 := (wr_n hw_23 (by decide)).trans (wr_k hw_18)
          have u1 : nv g_23 1 = nv e 1 / 2 := (wr_k hw_23).trans (by rw [wr_n hw_18 (by decide)])
          refine g_goto (pc := 26) X 0 dX9_findCommon_26 (by decide) ?_
          exact ih0 _ (wr_o hw_23) (by rw [u0, u1]; exact com_s hc (by omega) (by omega)) (by omega) (by omega) (by omega)
  exact L0 _ _ hB com_0 (by omega) (by omega) (Nat.lt_succ_self _)

set_option maxHeartbeats 4000000 in
set_option maxRecDepth 100000 in
theorem c_X9_tell (l : Launch) (D : va_G) (cI cZ : ClassId) (q : Nat) (a : Nat → Nat) (al : Int) (at_ : Int) (st : Int) (so : Int) (va : Int) (fa : Int) (pl : Int) (sg : Int) (su : Int) (bg : Int → Int) (hB : okB bg) (hQ : 0 < nv bg 1) : GM l D cI cZ yX9_tell cX9_tell 1 none ({ frames := 2, cells := 0, slots := 0, locals := 49 }) 0 0 false [.ref q] [oM q a al at_ st so va fa pl sg su, gA cI (a 19) 112 bg] (gPxv (fun xo : (Int → Int) => [oM q a al at_ st so va fa pl (if nv bg 0 = 0 then (0 : Int) else 1) su, gA cI (a 19) 112 xo]) (fun xo : (Int → Int) => (okB xo) ∧ (nv xo 0 = nv bg 0 / gc (nv bg 0) (nv bg 1)) ∧ (nv xo 1 = nv bg 1 / gc (nv bg 0) (nv bg 1)))) := by
  refine g_enterV (lv0 := [(0, .ref q)]) (by decide) rfl rfl (fun V X ret => ?_)
  refine g_aload_n (pc := 0) X dX9_tell_0 0 rfl ?_
  refine g_aload_n (pc := 1) X dX9_tell_1 0 rfl ?_
  refine g_iconst (pc := 2) X dX9_tell_2 ?_
  refine gc_Vi (pc := 3) X (c_X9_isNought l D cI cZ q a al at_ st so va fa pl sg su bg 0 (by first | assumption | exact wr_o (by assumption)) (by omega)) lm_X9_197 dX9_tell_3 [0, 1] rfl rfl rfl rfl rfl rfl rfl rfl ?_
  refine g_ifeqB (pc := 6) X 13 dX9_tell_6 (by decide) (fun h6 => ?_) (fun h6 => ?_)
  · refine g_iconst (pc := 13) X dX9_tell_13 ?_
    refine g_put (pc := 14) X (ws' := [oM q a al at_ st so va fa pl 1 su, gA cI (a 19) 112 bg]) fp_X9_220 dX9_tell_14 0 rfl rfl rfl rfl rfl ?_
    refine g_aload_n (pc := 17) X dX9_tell_17 0 rfl ?_
    refine g_get (pc := 18) X fl_X9_220 dX9_tell_18 0 (v := gi 1) rfl rfl ?_
    refine g_ifne (pc := 21) X 31 dX9_tell_21 (by decide) (by omega) (fun h21 => ?_) (fun h21 => absurd h21 (by omega))
    refine g_aload_n (pc := 31) X dX9_tell_31 0 rfl ?_
    refine gc_Vxv (pc := 32) X (wr := []) (c_X9_findCommon l D cI cZ q a al at_ st so va fa pl 1 su bg (by first | assumption | exact wr_o (by assumption)) (by have q := nv_b hB (r := 0) (by omega); omega) hQ) lm_X9_223 dX9_tell_32 [0, 1] [] rfl rfl rfl rfl (by decide) rfl rfl rfl rfl rfl rfl (fun x32 hx32 => ?_)
    generalize x32 = g_32 at hx32 ⊢
    obtain ⟨hok_32, hc_32, hp_32, hg_32⟩ : (okB g_32) ∧ (com (nv bg 0) (nv bg 1) (nv g_32 0) (nv g_32 1)) ∧ (0 < nv g_32 0 ∧ 0 < nv g_32 1) ∧ (nv g_32 4 = gc (nv g_32 0) (nv g_32 1)) := hx32
    refine g_pick (cn := 0) (sl := 0) (st := []) X (ws' := [oM q a al at_ st so va fa pl 1 su, gA cI (a 19) 112 g_32]) [0, 1] rfl rfl ?_
    refine g_aload_n (pc := 35) X dX9_tell_35 0 rfl ?_
    refine g_iconst (pc := 36) X dX9_tell_36 ?_
    refine gc_Vxv (pc := 37) X (wr := []) (c_X9_divide l D cI cZ q a al at_ st so va fa pl 1 su g_32 0 hok_32 (by omega) (by rw [hg_32]; exact gc_pos hp_32.1)) lm_X9_226 dX9_tell_37 [0, 1] [] rfl rfl rfl rfl (by decide) rfl rfl rfl rfl rfl rfl (fun x37 hx37 => ?_)
    generalize x37 = g_37 at hx37 ⊢
    obtain ⟨hok_37, hv_37, ho_37⟩ : (okB g_37) ∧ (nv g_37 0 = nv g_32 0 / nv g_32 4) ∧ (∀ ss, ss ≠ 2 → ss ≠ 5 → ss ≠ 0 → nv g_37 ss = nv g_32 ss) := hx37
    refine g_pick (cn := 0) (sl := 0) (st := []) X (ws' := [oM q a al at_ st so va fa pl 1 su, gA cI (a 19) 112 g_37]) [0, 1] rfl rfl ?_
    have e0 : nv g_37 0 = nv g_32 0 / gc (nv g_32 0) (nv g_32 1) := by rw [hv_37, hg_32]
    have hcl := com_l hc_32 hp_32.1 hp_32.2
    refine g_aload_n (pc := 40) X dX9_tell_40 0 rfl ?_
    refine g_iconst (pc := 41) X dX9_tell_41 ?_
    refine gc_Vxv (pc := 42) X (wr := []) (c_X9_divide l D cI cZ q a al at_ st so va fa pl 1 su g_37 1 hok_37 (by omega) (by rw [ho_37 4 (by decide) (by decide) (by decide), hg_32]; exact gc_pos hp_32.1)) lm_X9_226 dX9_tell_42 [0, 1] [] rfl rfl rfl rfl (by decide) rfl rfl rfl rfl rfl rfl (fun x42 hx42 => ?_)
    generalize x42 = g_42 at hx42 ⊢
    obtain ⟨hok_42, hv_42, ho_42⟩ : (okB g_42) ∧ (nv g_42 1 = nv g_37 1 / nv g_37 4) ∧ (∀ ss, ss ≠ 2 → ss ≠ 5 → ss ≠ 1 → nv g_42 ss = nv g_37 ss) := hx42
    refine g_pick (cn := 0) (sl := 0) (st := []) X (ws' := [oM q a al at_ st so va fa pl 1 su, gA cI (a 19) 112 g_42]) [0, 1] rfl rfl ?_
    exact ret _ _ _ _ _ dX9_tell_45 rfl rfl (gPxv_e g_42 (by rw [if_neg h6]) ⟨hok_42, (ho_42 0 (by decide) (by decide) (by decide)).trans (e0.trans hcl.1), by rw [hv_42, ho_37 1 (by decide) (by decide) (by decide), ho_37 4 (by decide) (by decide) (by decide), hg_32]; exact hcl.2⟩)
  · refine g_iconst (pc := 9) X dX9_tell_9 ?_
    refine g_goto (pc := 10) X 14 dX9_tell_10 (by decide) ?_
    refine g_put (pc := 14) X (ws' := [oM q a al at_ st so va fa pl 0 su, gA cI (a 19) 112 bg]) fp_X9_220 dX9_tell_14 0 rfl rfl rfl rfl rfl ?_
    refine g_aload_n (pc := 17) X dX9_tell_17 0 rfl ?_
    refine g_get (pc := 18) X fl_X9_220 dX9_tell_18 0 (v := gi 0) rfl rfl ?_
    refine g_ifne (pc := 21) X 31 dX9_tell_21 (by decide) (by omega) (fun h21 => absurd h21 (by omega)) (fun h21 => ?_)
    refine g_aload_n (pc := 24) X dX9_tell_24 0 rfl ?_
    refine g_iconst (pc := 25) X dX9_tell_25 ?_
    refine g_iconst (pc := 26) X dX9_tell_26 ?_
    refine gc_Vxv (pc := 27) X (wr := []) (c_X9_set l D cI cZ q a al at_ st so va fa pl 0 su bg 1 1 (by first | assumption | exact wr_o (by assumption)) (by omega) (by omega)) lm_X9_93 dX9_tell_27 [0, 1] [] rfl rfl rfl rfl (by decide) rfl rfl rfl rfl rfl rfl (fun x27 hx27 => ?_)
    generalize x27 = g_27 at hx27 ⊢
    have hw_27 : wrote 1 (1) bg g_27 := hx27
    refine g_pick (cn := 0) (sl := 0) (st := []) X (ws' := [oM q a al at_ st so va fa pl 0 su, gA cI (a 19) 112 g_27]) [0, 1] rfl rfl ?_
    exact ret _ _ _ _ _ dX9_tell_30 rfl rfl (gPxv_e g_27 (by rw [if_pos h6]) ⟨wr_o hw_27, by rw [wr_n hw_27 (by decide), h6, gc_0 (by omega), Int.zero_ediv], by rw [wr_k hw_27, h6, gc_0 (by omega), Int.ediv_self (by omega)]⟩)
