/-! what is hidden: the code of Hiding -/

set_option maxHeartbeats 4000000 in
set_option maxRecDepth 100000 in
theorem c_X3_index (l : Launch) (D : va_G) (cI cZ : ClassId) (p : Int) (t : Int) (b : Int) (hp : 0 ≤ p ∧ p < 8) (ht : 0 ≤ t ∧ t < 8) (hb : 0 ≤ b ∧ b < 6) : GM l D cI cZ yX3_index cX3_index 3 (some .int) ({ frames := 0, cells := 0, slots := 0, locals := 0 }) 0 0 true [gi p, gi t, gi b] [] (gPi (48 * p + 6 * t + b)) := by
  refine g_enterI (z := false) (lv0 := [(0, gi p), (1, gi t), (2, gi b)]) _ rfl (by decide) rfl rfl (fun V X ret => ?_)
  refine g_iload_n (pc := 0) X dX3_index_0 0 rfl ?_
  refine g_bipush (pc := 1) X dX3_index_1 (by decide +kernel) ?_
  refine g_imul (pc := 3) X dX3_index_3 ?_
  refine g_iload_n (pc := 4) X dX3_index_4 1 rfl ?_
  refine g_iadd (pc := 5) X dX3_index_5 ?_
  refine g_bipush (pc := 6) X dX3_index_6 (by decide +kernel) ?_
  refine g_imul (pc := 8) X dX3_index_8 ?_
  refine g_iload_n (pc := 9) X dX3_index_9 2 rfl ?_
  refine g_iadd (pc := 10) X dX3_index_10 ?_
  exact ret _ _ _ _ _ _ dX3_index_11 rfl rfl (fun h => by cases h) (gPi_e (by omega))

set_option maxHeartbeats 4000000 in
set_option maxRecDepth 100000 in
theorem c_X3_listen (l : Launch) (D : va_G) (cI cZ : ClassId) (q : Nat) (a : Nat → Nat) (n : Int) (k : Int) (yv : Int → Int) (yp : Int → Int) (q2 : Nat) (a2 : Nat → Nat) (A : Int → Int) (q3 : Nat) (a3 : Nat → Nat) (rf1 : Int) (m : Int) (rw1 : Int) (rz1 : Int) (P : Int → Int) (hA : okA A) (hm : 0 ≤ m ∧ m ≤ 8) (hR : ∀ j, 0 ≤ j → j < m → rgR (A 0) P j) : GM l D cI cZ yX3_listen cX3_listen 8 none ({ frames := 3, cells := 0, slots := 0, locals := 72 }) 0 0 false [.ref q, .ref q2, .ref q3] [oH q a n k, gA cI (a 0) 384 yv, gA cI (a 1) 8 yp, oF q2 a2 (A 0) (A 1) (A 2) (A 3) (A 4), gA cI (a2 1) 10 (fun j => A (5 + j)), gA cI (a2 2) 10 (fun j => A (15 + j)), gA cI (a2 3) 60 (fun j => A (25 + j)), gA cI (a2 7) 5 (fun j => A (127 + j)), oR q3 a3 rf1 m rw1 rz1, gA cI (a3 2) 8 (fun j => P (0 + j)), gA cI (a3 3) 8 (fun j => P (8 + j)), gA cI (a3 6) 8 (fun j => P (32 + j))] (gPxv (fun xo : (Int → Int) => [oH q a m (A 129), gA cI (a 0) 384 xo, gA cI (a 1) 8 (fun j => P (0 + j)), oF q2 a2 (A 0) (A 1) (A 2) (A 3) (A 4), gA cI (a2 1) 10 (fun j => A (5 + j)), gA cI (a2 2) 10 (fun j => A (15 + j)), gA cI (a2 3) 60 (fun j => A (25 + j)), gA cI (a2 7) 5 (fun j => A (127 + j)), oR q3 a3 rf1 m rw1 rz1, gA cI (a3 2) 8 (fun j => P (0 + j)), gA cI (a3 3) 8 (fun j => P (8 + j)), gA cI (a3 6) 8 (fun j => P (32 + j))]) (fun xo : (Int → Int) => (lsn A P m xo (fun j => P (0 + j))))) := by
  refine g_enterV (lv0 := [(0, .ref q), (1, .ref q2), (2, .ref q3)]) (by decide) rfl rfl (fun V X ret => ?_)
  have h0_ := okA_0 hA
  have hpu := okA_pu hA
  refine g_aload_n (pc := 0) X dX3_listen_0 0 rfl ?_
  refine g_aload_n (pc := 1) X dX3_listen_1 2 rfl ?_
  refine g_get (pc := 2) X fl_X3_18 dX3_listen_2 8 (v := gi m) rfl rfl ?_
  refine g_put (pc := 5) X (ws' := [oH q a m k, gA cI (a 0) 384 yv, gA cI (a 1) 8 yp, oF q2 a2 (A 0) (A 1) (A 2) (A 3) (A 4), gA cI (a2 1) 10 (fun j => A (5 + j)), gA cI (a2 2) 10 (fun j => A (15 + j)), gA cI (a2 3) 60 (fun j => A (25 + j)), gA cI (a2 7) 5 (fun j => A (127 + j)), oR q3 a3 rf1 m rw1 rz1, gA cI (a3 2) 8 (fun j => P (0 + j)), gA cI (a3 3) 8 (fun j => P (8 + j)), gA cI (a3 6) 8 (fun j => P (32 + j))]) fp_X3_24 dX3_listen_5 0 rfl rfl rfl rfl rfl ?_
  refine g_aload_n (pc := 8) X dX3_listen_8 0 rfl ?_
  refine g_aload_n (pc := 9) X dX3_listen_9 1 rfl ?_
  refine g_get (pc := 10) X fl_X3_25 dX3_listen_10 3 (v := .ref (a2 7)) rfl rfl ?_
  refine g_iconst (pc := 13) X dX3_listen_13 ?_
  refine gc_Ni (pc := 14) X (c_X8_look l D cI cZ (a2 7) 5 (fun j => A (127 + j)) 2 (by omega) rfl) lm_X3_30 dX3_listen_14 [7] rfl rfl rfl rfl rfl rfl ?_
  refine g_top (b := A 129) (Eq.trans (lk_in (by omega)) (congrArg A (by omega))) ?_
  refine g_put (pc := 17) X (ws' := [oH q a m (A 129), gA cI (a 0) 384 yv, gA cI (a 1) 8 yp, oF q2 a2 (A 0) (A 1) (A 2) (A 3) (A 4), gA cI (a2 1) 10 (fun j => A (5 + j)), gA cI (a2 2) 10 (fun j => A (15 + j)), gA cI (a2 3) 60 (fun j => A (25 + j)), gA cI (a2 7) 5 (fun j => A (127 + j)), oR q3 a3 rf1 m rw1 rz1, gA cI (a3 2) 8 (fun j => P (0 + j)), gA cI (a3 3) 8 (fun j => P (8 + j)), gA cI (a3 6) 8 (fun j => P (32 + j))]) fp_X3_34 dX3_listen_17 0 rfl rfl rfl rfl rfl ?_
  refine g_aload_n (pc := 20) X dX3_listen_20 2 rfl ?_
  refine g_get (pc := 21) X fl_X3_37 dX3_listen_21 8 (v := .ref (a3 2)) rfl rfl ?_
  refine g_aload_n (pc := 24) X dX3_listen_24 0 rfl ?_
  refine g_get (pc := 25) X fl_X3_15 dX3_listen_25 0 (v := .ref (a 1)) rfl rfl ?_
  refine gc_Nxv (pc := 28) X (wr := [oH q a m (A 129), gA cI (a 0) 384 yv, oF q2 a2 (A 0) (A 1) (A 2) (A 3) (A 4), gA cI (a2 1) 10 (fun j => A (5 + j)), gA cI (a2 2) 10 (fun j => A (15 + j)), gA cI (a2 3) 60 (fun j => A (25 + j)), gA cI (a2 7) 5 (fun j => A (127 + j)), oR q3 a3 rf1 m rw1 rz1, gA cI (a3 3) 8 (fun j => P (8 + j)), gA cI (a3 6) 8 (fun j => P (32 + j))]) (c_X8_copyRow l D cI cZ (a3 2) (a 1) 8 (fun j => P (0 + j)) yp rfl) lm_X3_38 dX3_listen_28 [9, 2] [0, 1, 3, 4, 5, 6, 7, 8, 10, 11] rfl rfl rfl rfl (by decide) rfl rfl rfl rfl (fun x28 hx28 => ?_)
  refine g_pick (cn := 0) (sl := 0) (st := []) X (ws' := [oH q a m (A 129), gA cI (a 0) 384 yv, gA cI (a 1) 8 (fun j => P (0 + j)), oF q2 a2 (A 0) (A 1) (A 2) (A 3) (A 4), gA cI (a2 1) 10 (fun j => A (5 + j)), gA cI (a2 2) 10 (fun j => A (15 + j)), gA cI (a2 3) 60 (fun j => A (25 + j)), gA cI (a2 7) 5 (fun j => A (127 + j)), oR q3 a3 rf1 m rw1 rz1, gA cI (a3 2) 8 (fun j => P (0 + j)), gA cI (a3 3) 8 (fun j => P (8 + j)), gA cI (a3 6) 8 (fun j => P (32 + j))]) [0, 1, 11, 2, 3, 4, 5, 6, 7, 10, 8, 9] rfl rfl ?_
  refine g_iconst (pc := 31) X dX3_listen_31 ?_
  refine g_istore_n (pc := 32) X (lv' := [(0, .ref q), (1, .ref q2), (2, .ref q3), (3, gi 0)]) dX3_listen_32 rfl rfl ?_
  have L33 : ∀ (n33 : Nat) (i : Int) (g : Int → Int), (0 ≤ i ∧ i ≤ m) → (∀ z, 0 ≤ z → z < 48 * i → g z = VV A P z) → (m - i).toNat < n33 → V 0 0 [oH q a m (A 129), gA cI (a 0) 384 g, gA cI (a 1) 8 (fun j => P (0 + j)), oF q2 a2 (A 0) (A 1) (A 2) (A 3) (A 4), gA cI (a2 1) 10 (fun j => A (5 + j)), gA cI (a2 2) 10 (fun j => A (15 + j)), gA cI (a2 3) 60 (fun j => A (25 + j)), gA cI (a2 7) 5 (fun j => A (127 + j)), oR q3 a3 rf1 m rw1 rz1, gA cI (a3 2) 8 (fun j => P (0 + j)), gA cI (a3 3) 8 (fun j => P (8 + j)), gA cI (a3 6) 8 (fun j => P (32 + j))] 33 [(0, .ref q), (1, .ref q2), (2, .ref q3), (3, gi i)] [] := by
    intro n33
    induction n33 with
    | zero => intro i g hi hv hn33; exact absurd hn33 (Nat.not_lt_zero _)
    | succ n33 ih33 =>
      intro i g hi hv hn33
      refine g_iload_n (pc := 33) X dX3_listen_33 3 rfl ?_
      refine g_aload_n (pc := 34) X dX3_listen_34 0 rfl ?_
      refine g_get (pc := 35) X fl_X3_24 dX3_listen_35 0 (v := gi m) rfl rfl ?_
      refine g_icmpge (pc := 38) X 126 dX3_listen_38 (by decide) (by omega) (by omega) (fun h38 => ?_) (fun h38 => ?_)
      · exact ret _ _ _ _ _ dX3_listen_126 rfl rfl (gPxv_e g rfl ⟨fun z z0 z1 => hv z z0 (by omega), fun j j0 j1 => congrArg P (by omega)⟩)
      · have hrg := hR i (by omega) (by omega)
        obtain ⟨hr1, hr2, hr3, hr4, hr5⟩ := hrg
        refine g_aload_n (pc := 41) X dX3_listen_41 2 rfl ?_
        refine g_get (pc := 42) X fl_X3_42 dX3_listen_42 8 (v := .ref (a3 3)) rfl rfl ?_
        refine g_iload_n (pc := 45) X dX3_listen_45 3 rfl ?_
        refine gc_Ni (pc := 46) X (c_X8_look l D cI cZ (a3 3) 8 (fun j => P (8 + j)) i (by omega) rfl) lm_X3_30 dX3_listen_46 [10] rfl rfl rfl rfl rfl rfl ?_
        refine g_top (b := P (8 + i)) (lk_in (by omega)) ?_
        refine g_istore (pc := 49) X (lv' := [(0, .ref q), (1, .ref q2), (2, .ref q3), (3, gi i), (4, gi (P (8 + i)))]) dX3_listen_49 rfl rfl ?_
        refine g_aload_n (pc := 51) X dX3_listen_51 2 rfl ?_
        refine g_get (pc := 52) X fl_X3_45 dX3_listen_52 8 (v := .ref (a3 6)) rfl rfl ?_
        refine g_iload_n (pc := 55) X dX3_listen_55 3 rfl ?_
        refine gc_Ni (pc := 56) X (c_X8_look l D cI cZ (a3 6) 8 (fun j => P (32 + j)) i (by omega) rfl) lm_X3_30 dX3_listen_56 [11] rfl rfl rfl rfl rfl rfl ?_
        refine g_top (b := P (32 + i)) (lk_in (by omega)) ?_
        refine g_istore (pc := 59) X (lv' := [(0, .ref q), (1, .ref q2), (2, .ref q3), (3, gi i), (4, gi (P (8 + i))), (5, gi (P (32 + i)))]) dX3_listen_59 rfl rfl ?_
        refine g_iconst (pc := 61) X dX3_listen_61 ?_
        refine g_istore (pc := 62) X (lv' := [(0, .ref q), (1, .ref q2), (2, .ref q3), (3, gi i), (4, gi (P (8 + i))), (5, gi (P (32 + i))), (6, gi 0)]) dX3_listen_62 rfl rfl ?_
        have L64 : ∀ (n64 : Nat) (t : Int) (g1 : Int → Int), (0 ≤ t ∧ t ≤ 8) → (∀ z, 0 ≤ z → z < 48 * i + 6 * t → g1 z = VV A P z) → (8 - t).toNat < n64 → V 0 0 [oH q a m (A 129), gA cI (a 0) 384 g1, gA cI (a 1) 8 (fun j => P (0 + j)), oF q2 a2 (A 0) (A 1) (A 2) (A 3) (A 4), gA cI (a2 1) 10 (fun j => A (5 + j)), gA cI (a2 2) 10 (fun j => A (15 + j)), gA cI (a2 3) 60 (fun j => A (25 + j)), gA cI (a2 7) 5 (fun j => A (127 + j)), oR q3 a3 rf1 m rw1 rz1, gA cI (a3 2) 8 (fun j => P (0 + j)), gA cI (a3 3) 8 (fun j => P (8 + j)), gA cI (a3 6) 8 (fun j => P (32 + j))] 64 [(0, .ref q), (1, .ref q2), (2, .ref q3), (3, gi i), (4, gi (P (8 + i))), (5, gi (P (32 + i))), (6, gi t)] [] := by
          intro n64
          induction n64 with
          | zero => intro t g1 ht hv1 hn64; exact absurd hn64 (Nat.not_lt_zero _)
          | succ n64 ih64 =>
            intro t g1 ht hv1 hn64
            refine g_iload (pc := 64) X dX3_listen_64 6 rfl ?_
            refine g_bipush (pc := 66) X dX3_listen_66 (by decide +kernel) ?_
            refine g_icmpge (pc := 68) X 120 dX3_listen_68 (by decide) (by omega) (by omega) (fun h68 => ?_) (fun h68 => ?_)
            · refine g_iinc (pc := 120) X (lv' := [(0, .ref q), (1, .ref q2), (2, .ref q3), (3, gi (i + 1)), (4, gi (P (8 + i))), (5, gi (P (32 + i))), (6, gi t)]) dX3_listen_120 3 rfl rfl rfl ?_
              refine g_goto (pc := 123) X 33 dX3_listen_123 (by decide) ?_
              refine g_lsub X [0, 1, 2, 3] rfl ?_
              exact ih33 _ _ (by omega) (fun z z0 z1 => hv1 z z0 (by omega)) (by omega)
            · refine g_iconst (pc := 71) X dX3_listen_71 ?_
              refine g_istore (pc := 72) X (lv' := [(0, .ref q), (1, .ref q2), (2, .ref q3), (3, gi i), (4, gi (P (8 + i))), (5, gi (P (32 + i))), (6, gi t), (7, gi 0)]) dX3_listen_72 rfl rfl ?_
              have L74 : ∀ (n74 : Nat) (b : Int) (g2 : Int → Int), (0 ≤ b ∧ b ≤ 6) → (∀ z, 0 ≤ z → z < 48 * i + 6 * t + b → g2 z = VV A P z) → (6 - b).toNat < n74 → V 0 0 [oH q a m (A 129), gA cI (a 0) 384 g2, gA cI (a 1) 8 (fun j => P (0 + j)), oF q2 a2 (A 0) (A 1) (A 2) (A 3) (A 4), gA cI (a2 1) 10 (fun j => A (5 + j)), gA cI (a2 2) 10 (fun j => A (15 + j)), gA cI (a2 3) 60 (fun j => A (25 + j)), gA cI (a2 7) 5 (fun j => A (127 + j)), oR q3 a3 rf1 m rw1 rz1, gA cI (a3 2) 8 (fun j => P (0 + j)), gA cI (a3 3) 8 (fun j => P (8 + j)), gA cI (a3 6) 8 (fun j => P (32 + j))] 74 [(0, .ref q), (1, .ref q2), (2, .ref q3), (3, gi i), (4, gi (P (8 + i))), (5, gi (P (32 + i))), (6, gi t), (7, gi b)] [] := by
                intro n74
                induction n74 with
                | zero => intro b g2 hb hv2 hn74; exact absurd hn74 (Nat.not_lt_zero _)
                | succ n74 ih74 =>
                  intro b g2 hb hv2 hn74
                  refine g_iload (pc := 74) X dX3_listen_74 7 rfl ?_
                  refine g_bipush (pc := 76) X dX3_listen_76 (by decide +kernel) ?_
                  refine g_icmpge (pc := 78) X 114 dX3_listen_78 (by decide) (by omega) (by omega) (fun h78 => ?_) (fun h78 => ?_)
                  · refine g_iinc (pc := 114) X (lv' := [(0, .ref q), (1, .ref q2), (2, .ref q3), (3, gi i), (4, gi (P (8 + i))), (5, gi (P (32 + i))), (6, gi (t + 1)), (7, gi b)]) dX3_listen_114 6 rfl rfl rfl ?_
                    refine g_goto (pc := 117) X 64 dX3_listen_117 (by decide) ?_
                    refine g_lsub X [0, 1, 2, 3, 4, 5, 6] rfl ?_
                    exact ih64 _ _ (by omega) (fun z z0 z1 => hv2 z z0 (by omega)) (by omega)
                  · refine g_aload_n (pc := 81) X dX3_listen_81 0 rfl ?_
                    refine g_get (pc := 82) X fl_X3_9 dX3_listen_82 0 (v := .ref (a 0)) rfl rfl ?_
                    refine g_iload_n (pc := 85) X dX3_listen_85 3 rfl ?_
                    refine g_iload (pc := 86) X dX3_listen_86 6 rfl ?_
                    refine g_iload (pc := 88) X dX3_listen_88 7 rfl ?_
                    refine gc_Si (pc := 90) X (c_X3_index l D cI cZ i t b (by omega) (by omega) (by omega)) lm_X3_48 dX3_listen_90 [] rfl rfl rfl rfl rfl rfl ?_
                    refine g_aload_n (pc := 93) X dX3_listen_93 1 rfl ?_
                    refine g_iload (pc := 94) X dX3_listen_94 4 rfl ?_
                    refine g_iload (pc := 96) X dX3_listen_96 7 rfl ?_
                    refine g_iload (pc := 98) X dX3_listen_98 6 rfl ?_
                    refine g_iload (pc := 100) X dX3_listen_100 5 rfl ?_
                    refine gc_Si (pc := 102) X (c_X6_heard l D cI cZ q2 a2 A (P (8 + i)) b t (P (32 + i)) hA (by omega) (by omega) (by omega) (by omega)) lm_X3_52 dX3_listen_102 [3, 4, 5, 6] rfl rfl rfl rfl rfl rfl ?_
                    have hvb := sVal_b hA (t := P (8 + i)) (b := b) (n := t) (far := P (32 + i)) (by omega) (by omega) (by omega) hr5
                    refine gc_Nxv (pc := 105) X (wr := [oH q a m (A 129), gA cI (a 1) 8 (fun j => P (0 + j)), oF q2 a2 (A 0) (A 1) (A 2) (A 3) (A 4), gA cI (a2 1) 10 (fun j => A (5 + j)), gA cI (a2 2) 10 (fun j => A (15 + j)), gA cI (a2 3) 60 (fun j => A (25 + j)), gA cI (a2 7) 5 (fun j => A (127 + j)), oR q3 a3 rf1 m rw1 rz1, gA cI (a3 2) 8 (fun j => P (0 + j)), gA cI (a3 3) 8 (fun j => P (8 + j)), gA cI (a3 6) 8 (fun j => P (32 + j))]) (c_X8_lay l D cI cZ (a 0) 384 g2 (48 * i + 6 * t + b) (sVal A (P (8 + i)) b t (P (32 + i))) (by omega) rfl) lm_X3_58 dX3_listen_105 [1] [0, 2, 3, 4, 5, 6, 7, 8, 9, 10, 11] rfl rfl rfl rfl (by decide) rfl rfl rfl rfl (fun x105 hx105 => ?_)
                    refine g_pick (cn := 0) (sl := 0) (st := []) X (ws' := [oH q a m (A 129), gA cI (a 0) 384 (ly 384 g2 (48 * i + 6 * t + b) (sVal A (P (8 + i)) b t (P (32 + i)))), gA cI (a 1) 8 (fun j => P (0 + j)), oF q2 a2 (A 0) (A 1) (A 2) (A 3) (A 4), gA cI (a2 1) 10 (fun j => A (5 + j)), gA cI (a2 2) 10 (fun j => A (15 + j)), gA cI (a2 3) 60 (fun j => A (25 + j)), gA cI (a2 7) 5 (fun j => A (127 + j)), oR q3 a3 rf1 m rw1 rz1, gA cI (a3 2) 8 (fun j => P (0 + j)), gA cI (a3 3) 8 (fun j => P (8 + j)), gA cI (a3 6) 8 (fun j => P (32 + j))]) [0, 11, 1, 2, 3, 4, 5, 6, 7, 8, 9, 10] rfl rfl ?_
                    rw [ly_in (n := 384) (f := g2) (i := (48 * i + 6 * t + b)) (v := sVal A (P (8 + i)) b t (P (32 + i))) (by omega)]
                    refine g_iinc (pc := 108) X (lv' := [(0, .ref q), (1, .ref q2), (2, .ref q3), (3, gi i), (4, gi (P (8 + i))), (5, gi (P (32 + i))), (6, gi t), (7, gi (b + 1))]) dX3_listen_108 7 rfl rfl rfl ?_
                    refine g_goto (pc := 111) X 74 dX3_listen_111 (by decide) ?_
                    exact ih74 _ _ (by omega) (fun z z0 z1 => by rcases Int.lt_or_le z (48 * i + 6 * t + b) with zz | zz; (rw [gupd_n (by omega)]; exact hv2 z z0 zz); (rw [show z = 48 * i + 6 * t + b by omega, gupd_s]; exact (VV_e (by omega) (by omega)).symm)) (by omega)
              exact L74 _ _ _ (by omega) (fun z z0 z1 => hv1 z z0 (by omega)) (Nat.lt_succ_self _)
        exact L64 _ _ _ (by omega) (fun z z0 z1 => hv z z0 (by omega)) (Nat.lt_succ_self _)
  exact L33 _ _ _ (by omega) (fun z z0 z1 => by omega) (Nat.lt_succ_self _)

set_option maxHeartbeats 4000000 in
set_option maxRecDepth 100000 in
theorem c_X3_together (l : Launch) (D : va_G) (cI cZ : ClassId) (q : Nat) (a : Nat → Nat) (n : Int) (k : Int) (yv : Int → Int) (yp : Int → Int) (A : Int → Int) (Q : Int → Int) (s : Int) (pic : Int) (b : Int) (hA : okA A) (hn : 0 ≤ n ∧ n ≤ 8) (hR : ∀ j, 0 ≤ j → j < n → rgR (A 0) Q j) (hL : lsn A Q n yv yp) (hs : 0 ≤ s ∧ s < 256) (hpic : 0 ≤ pic ∧ pic ≤ 2000) (hb : 0 ≤ b ∧ b < 6) : GM l D cI cZ yX3_together cX3_together 7 (some .int) ({ frames := 1, cells := 0, slots := 0, locals := 22 }) 0 0 true [.ref q, gi s, gi pic, gi b] [oH q a n k, gA cI (a 0) 384 yv, gA cI (a 1) 8 yp] (gPi (tog A Q n s pic b)) := by
  refine g_enterI (z := false) (lv0 := [(0, .ref q), (1, gi s), (2, gi pic), (3, gi b)]) _ rfl (by decide) rfl rfl (fun V X ret => ?_)
  refine g_iconst (pc := 0) X dX3_together_0 ?_
  refine g_istore (pc := 1) X (lv' := [(0, .ref q), (1, gi s), (2, gi pic), (3, gi b), (4, gi 0)]) dX3_together_1 rfl rfl ?_
  refine g_iconst (pc := 3) X dX3_together_3 ?_
  refine g_istore (pc := 4) X (lv' := [(0, .ref q), (1, gi s), (2, gi pic), (3, gi b), (4, gi 0), (5, gi 0)]) dX3_together_4 rfl rfl ?_
  have L6 : ∀ (n6 : Nat) (x : Int) (p : Int), (0 ≤ p ∧ p ≤ n) → (x = tog A Q p s pic b) → (n - p).toNat < n6 → V 0 0 [oH q a n k, gA cI (a 0) 384 yv, gA cI (a 1) 8 yp] 6 [(0, .ref q), (1, gi s), (2, gi pic), (3, gi b), (4, gi x), (5, gi p)] [] := by
    intro n6
    induction n6 with
    | zero => intro x p hp hx hn6; exact absurd hn6 (Nat.not_lt_zero _)
    | succ n6 ih6 =>
      intro x p hp hx hn6
      have htb := tog_b hA (Q := Q) (s := s) (pic := pic) hn hR hb hp
      rw [← hx] at htb
      have hbt := bit_b s p
      refine g_iload_n (pc := 6) X dX3_together_6 1 rfl ?_
      refine g_iload (pc := 7) X dX3_together_7 5 rfl ?_
      refine g_ishr (pc := 9) X dX3_together_9 (by omega) (by omega) ?_
      refine g_ifle (pc := 10) X 83 dX3_together_10 (by decide) (by have := pw_d (s := s) (k := p) hs.1; omega) (fun h10 => ?_) (fun h10 => ?_)
      · refine g_iload (pc := 83) X dX3_together_83 4 rfl ?_
        exact ret _ _ _ _ _ _ dX3_together_85 rfl rfl (fun h => by cases h) (gPi_e (by rw [hx]; exact (sm_z hp.1 hp.2 (fun kk k0 k1 => if_neg (by rw [bit_z hs hp.1 (by omega) (by omega)]; decide))).symm))
      · refine g_iload (pc := 13) X dX3_together_13 5 rfl ?_
        refine g_aload_n (pc := 15) X dX3_together_15 0 rfl ?_
        refine g_get (pc := 16) X fl_X3_24 dX3_together_16 0 (v := gi n) rfl rfl ?_
        refine g_icmpge (pc := 19) X 83 dX3_together_19 (by decide) (by omega) (by omega) (fun h19 => ?_) (fun h19 => ?_)
        · refine g_iload (pc := 83) X dX3_together_83 4 rfl ?_
          exact ret _ _ _ _ _ _ dX3_together_85 rfl rfl (fun h => by cases h) (gPi_e (by rw [hx]; exact (sm_z hp.1 hp.2 (fun kk k0 k1 => if_neg (by rw [bit_z hs hp.1 (by omega) (by omega)]; decide))).symm))
        · refine g_iload_n (pc := 22) X dX3_together_22 1 rfl ?_
          refine g_iload (pc := 23) X dX3_together_23 5 rfl ?_
          refine g_ishr (pc := 25) X dX3_together_25 (by omega) (by omega) ?_
          refine g_iconst (pc := 26) X dX3_together_26 ?_
          refine g_iand (pc := 27) X (r := bit s p) dX3_together_27 (iI_bit hs.1) ?_
          refine g_iconst (pc := 28) X dX3_together_28 ?_
          refine g_icmpne (pc := 29) X 77 dX3_together_29 (by decide) (by omega) (by omega) (fun h29 => ?_) (fun h29 => ?_)
          · refine g_iinc (pc := 77) X (lv' := [(0, .ref q), (1, gi s), (2, gi pic), (3, gi b), (4, gi x), (5, gi (p + 1))]) dX3_together_77 5 rfl rfl rfl ?_
            refine g_goto (pc := 80) X 6 dX3_together_80 (by decide) ?_
            exact ih6 _ _ (by omega) (by rw [show tog A Q (p + 1) s pic b = tog A Q p s pic b + (if bit s p = 1 then vin A Q p pic b else 0) from sm_s hp.1, ← hx]; rw [if_neg (by omega)]; omega) (by omega)
          · have hrg := hR p hp.1 (by omega)
            obtain ⟨hr1, hr2, hr3, hr4, hr5⟩ := hrg
            refine g_iload_n (pc := 32) X dX3_together_32 2 rfl ?_
            refine g_aload_n (pc := 33) X dX3_together_33 0 rfl ?_
            refine g_get (pc := 34) X fl_X3_15 dX3_together_34 0 (v := .ref (a 1)) rfl rfl ?_
            refine g_iload (pc := 37) X dX3_together_37 5 rfl ?_
            refine gc_Ni (pc := 39) X (c_X8_look l D cI cZ (a 1) 8 yp p (by omega) rfl) lm_X3_30 dX3_together_39 [2] rfl rfl rfl rfl rfl rfl ?_
            refine g_top (b := yp p) (lk_in (by omega)) ?_
            refine g_top (b := (Q p)) (hL.2 p hp.1 (by omega)) ?_
            refine g_isub (pc := 42) X dX3_together_42 ?_
            refine g_istore (pc := 43) X (lv' := [(0, .ref q), (1, gi s), (2, gi pic), (3, gi b), (4, gi x), (5, gi p), (6, gi (pic - (Q p)))]) dX3_together_43 rfl rfl ?_
            refine g_iload (pc := 45) X dX3_together_45 6 rfl ?_
            refine g_iflt (pc := 47) X 77 dX3_together_47 (by decide) (by omega) (fun h47 => ?_) (fun h47 => ?_)
            · refine g_iinc (pc := 77) X (lv' := [(0, .ref q), (1, gi s), (2, gi pic), (3, gi b), (4, gi x), (5, gi (p + 1)), (6, gi (pic - (Q p)))]) dX3_together_77 5 rfl rfl rfl ?_
              refine g_goto (pc := 80) X 6 dX3_together_80 (by decide) ?_
              refine g_lsub X [0, 1, 2, 3, 4, 5] rfl ?_
              exact ih6 _ _ (by omega) (by rw [show tog A Q (p + 1) s pic b = tog A Q p s pic b + (if bit s p = 1 then vin A Q p pic b else 0) from sm_s hp.1, ← hx]; rw [if_pos (by omega)]; unfold vin; rw [if_neg (by omega)]; omega) (by omega)
            · refine g_iload (pc := 50) X dX3_together_50 6 rfl ?_
              refine g_bipush (pc := 52) X dX3_together_52 (by decide +kernel) ?_
              refine g_icmpge (pc := 54) X 77 dX3_together_54 (by decide) (by omega) (by omega) (fun h54 => ?_) (fun h54 => ?_)
              · refine g_iinc (pc := 77) X (lv' := [(0, .ref q), (1, gi s), (2, gi pic), (3, gi b), (4, gi x), (5, gi (p + 1)), (6, gi (pic - (Q p)))]) dX3_together_77 5 rfl rfl rfl ?_
                refine g_goto (pc := 80) X 6 dX3_together_80 (by decide) ?_
                refine g_lsub X [0, 1, 2, 3, 4, 5] rfl ?_
                exact ih6 _ _ (by omega) (by rw [show tog A Q (p + 1) s pic b = tog A Q p s pic b + (if bit s p = 1 then vin A Q p pic b else 0) from sm_s hp.1, ← hx]; rw [if_pos (by omega)]; unfold vin; rw [if_neg (by omega)]; omega) (by omega)
              · refine g_iload (pc := 57) X dX3_together_57 4 rfl ?_
                refine g_aload_n (pc := 59) X dX3_together_59 0 rfl ?_
                refine g_get (pc := 60) X fl_X3_9 dX3_together_60 0 (v := .ref (a 0)) rfl rfl ?_
                refine g_iload (pc := 63) X dX3_together_63 5 rfl ?_
                refine g_iload (pc := 65) X dX3_together_65 6 rfl ?_
                refine g_iload_n (pc := 67) X dX3_together_67 3 rfl ?_
                refine gc_Si (pc := 68) X (c_X3_index l D cI cZ p (pic - (Q p)) b (by omega) (by omega) (by omega)) lm_X3_48 dX3_together_68 [] rfl rfl rfl rfl rfl rfl ?_
                refine gc_Ni (pc := 71) X (c_X8_look l D cI cZ (a 0) 384 yv (48 * p + 6 * (pic - (Q p)) + b) (by omega) rfl) lm_X3_30 dX3_together_71 [1] rfl rfl rfl rfl rfl rfl ?_
                refine g_top (b := yv (48 * p + 6 * (pic - (Q p)) + b)) (lk_in (by omega)) ?_
                refine g_top (b := (sVal A (Q (8 + p)) b (pic - Q p) (Q (32 + p)))) (lsn_v hL (by omega) (by omega) hb) ?_
                have hvb := sVal_b hA (t := Q (8 + p)) (b := b) (n := pic - Q p) (far := Q (32 + p)) (by have := okA_0 hA; omega) hb (by omega) hr5
                refine g_iadd (pc := 74) X dX3_together_74 ?_
                refine g_istore (pc := 75) X (lv' := [(0, .ref q), (1, gi s), (2, gi pic), (3, gi b), (4, gi (x + (sVal A (Q (8 + p)) b (pic - Q p) (Q (32 + p))))), (5, gi p), (6, gi (pic - (Q p)))]) dX3_together_75 rfl rfl ?_
                refine g_iinc (pc := 77) X (lv' := [(0, .ref q), (1, gi s), (2, gi pic), (3, gi b), (4, gi (x + (sVal A (Q (8 + p)) b (pic - Q p) (Q (32 + p))))), (5, gi (p + 1)), (6, gi (pic - (Q p)))]) dX3_together_77 5 rfl rfl rfl ?_
                refine g_goto (pc := 80) X 6 dX3_together_80 (by decide) ?_
                refine g_lsub X [0, 1, 2, 3, 4, 5] rfl ?_
                exact ih6 _ _ (by omega) (by rw [show tog A Q (p + 1) s pic b = tog A Q p s pic b + (if bit s p = 1 then vin A Q p pic b else 0) from sm_s hp.1, ← hx]; rw [if_pos (by omega)]; unfold vin; rw [if_pos (by omega)]) (by omega)
  exact L6 _ _ _ (by omega) (by rfl) (Nat.lt_succ_self _)

set_option maxHeartbeats 4000000 in
set_option maxRecDepth 100000 in
theorem c_X3_isHidden (l : Launch) (D : va_G) (cI cZ : ClassId) (q : Nat) (a : Nat → Nat) (n : Int) (k : Int) (yv : Int → Int) (yp : Int → Int) (A : Int → Int) (Q : Int → Int) (pl : Int) (s : Int) (hA : okA A) (hn : 0 ≤ n ∧ n ≤ 8) (hR : ∀ j, 0 ≤ j → j < n → rgR (A 0) Q j) (hL : lsn A Q n yv yp) (hpl : 0 ≤ pl ∧ pl < n) (hs : 0 ≤ s ∧ s < 256) (hk : k = A 129) : GM l D cI cZ yX3_isHidden cX3_isHidden 8 (some .boolean) ({ frames := 2, cells := 0, slots := 0, locals := 48 }) 0 0 true [.ref q, gi pl, gi s] [oH q a n k, gA cI (a 0) 384 yv, gA cI (a 1) 8 yp] (gPi (hidB A Q n pl s)) := by
  refine g_enterI (z := true) (lv0 := [(0, .ref q), (1, gi pl), (2, gi s)]) _ rfl (by decide) rfl rfl (fun V X ret => ?_)
  have hpu := okA_pu hA
  have h0_ := okA_0 hA
  have hrg := hR pl hpl.1 hpl.2
  obtain ⟨hr1, hr2, hr3, hr4, hr5⟩ := hrg
  have hdb := bdel_b (s := s) (k := pl) hs (by omega)
  refine g_iload_n (pc := 0) X dX3_isHidden_0 2 rfl ?_
  refine g_iconst (pc := 1) X dX3_isHidden_1 ?_
  refine g_iload_n (pc := 2) X dX3_isHidden_2 1 rfl ?_
  refine g_ishl (pc := 3) X dX3_isHidden_3 (by omega) (by omega) (by have := pw_b (k := pl) (c := 8) (C := 256) rfl (by omega); omega) ?_
  refine g_iconst (pc := 4) X dX3_isHidden_4 ?_
  refine g_ixor (pc := 5) X (r := ((iI (1 * 2 ^ pl.toNat) ^^^ iI (-1)).toInt)) dX3_isHidden_5 iI_xm ?_
  refine g_iand (pc := 6) X (r := (bdel s pl)) dX3_isHidden_6 (iI_del hs (by omega)) ?_
  refine g_istore_n (pc := 7) X (lv' := [(0, .ref q), (1, gi pl), (2, gi s), (3, gi (bdel s pl))]) dX3_isHidden_7 rfl rfl ?_
  refine g_iconst (pc := 8) X dX3_isHidden_8 ?_
  refine g_istore (pc := 9) X (lv' := [(0, .ref q), (1, gi pl), (2, gi s), (3, gi (bdel s pl)), (4, gi 0)]) dX3_isHidden_9 rfl rfl ?_
  have L11 : ∀ (n11 : Nat) (t : Int), (0 ≤ t ∧ t ≤ 8) → (∀ t2, 0 ≤ t2 → t2 < t → ∀ b2, 0 ≤ b2 → b2 < 6 → hid1 A Q n pl s t2 b2) → (8 - t).toNat < n11 → V 0 0 [oH q a n k, gA cI (a 0) 384 yv, gA cI (a 1) 8 yp] 11 [(0, .ref q), (1, gi pl), (2, gi s), (3, gi (bdel s pl)), (4, gi t)] [] := by
    intro n11
    induction n11 with
    | zero => intro t ht hi hn11; exact absurd hn11 (Nat.not_lt_zero _)
    | succ n11 ih11 =>
      intro t ht hi hn11
      refine g_iload (pc := 11) X dX3_isHidden_11 4 rfl ?_
      refine g_bipush (pc := 13) X dX3_isHidden_13 (by decide +kernel) ?_
      refine g_icmpge (pc := 15) X 96 dX3_isHidden_15 (by decide) (by omega) (by omega) (fun h15 => ?_) (fun h15 => ?_)
      · refine g_iconst (pc := 96) X dX3_isHidden_96 ?_
        exact ret _ _ _ _ _ _ dX3_isHidden_97 rfl rfl (fun _ => Or.inr rfl) (gPi_e (hidB_t (fun t2 t0 t1 => hi t2 t0 (by omega))).symm)
      · refine g_aload_n (pc := 18) X dX3_isHidden_18 0 rfl ?_
        refine g_get (pc := 19) X fl_X3_15 dX3_isHidden_19 0 (v := .ref (a 1)) rfl rfl ?_
        refine g_iload_n (pc := 22) X dX3_isHidden_22 1 rfl ?_
        refine gc_Ni (pc := 23) X (c_X8_look l D cI cZ (a 1) 8 yp pl (by omega) rfl) lm_X3_30 dX3_isHidden_23 [2] rfl rfl rfl rfl rfl rfl ?_
        refine g_top (b := yp pl) (lk_in (by omega)) ?_
        refine g_top (b := (Q pl)) (hL.2 pl hpl.1 hpl.2) ?_
        refine g_iload (pc := 26) X dX3_isHidden_26 4 rfl ?_
        refine g_iadd (pc := 28) X dX3_isHidden_28 ?_
        refine g_istore (pc := 29) X (lv' := [(0, .ref q), (1, gi pl), (2, gi s), (3, gi (bdel s pl)), (4, gi t), (5, gi ((Q pl) + t))]) dX3_isHidden_29 rfl rfl ?_
        refine g_iconst (pc := 31) X dX3_isHidden_31 ?_
        refine g_istore (pc := 32) X (lv' := [(0, .ref q), (1, gi pl), (2, gi s), (3, gi (bdel s pl)), (4, gi t), (5, gi ((Q pl) + t)), (6, gi 0)]) dX3_isHidden_32 rfl rfl ?_
        have L34 : ∀ (n34 : Nat) (b : Int), (0 ≤ b ∧ b ≤ 6) → (∀ b2, 0 ≤ b2 → b2 < b → hid1 A Q n pl s t b2) → (6 - b).toNat < n34 → V 0 0 [oH q a n k, gA cI (a 0) 384 yv, gA cI (a 1) 8 yp] 34 [(0, .ref q), (1, gi pl), (2, gi s), (3, gi (bdel s pl)), (4, gi t), (5, gi ((Q pl) + t)), (6, gi b)] [] := by
          intro n34
          induction n34 with
          | zero => intro b hb hj hn34; exact absurd hn34 (Nat.not_lt_zero _)
          | succ n34 ih34 =>
            intro b hb hj hn34
            have hvb := fun hb6 : b < 6 => sVal_b hA (t := Q (8 + pl)) (b := b) (n := t) (far := Q (32 + pl)) (by omega) ⟨hb.1, hb6⟩ (by omega) hr5
            refine g_iload (pc := 34) X dX3_isHidden_34 6 rfl ?_
            refine g_bipush (pc := 36) X dX3_isHidden_36 (by decide +kernel) ?_
            refine g_icmpge (pc := 38) X 90 dX3_isHidden_38 (by decide) (by omega) (by omega) (fun h38 => ?_) (fun h38 => ?_)
            · refine g_iinc (pc := 90) X (lv' := [(0, .ref q), (1, gi pl), (2, gi s), (3, gi (bdel s pl)), (4, gi (t + 1)), (5, gi ((Q pl) + t)), (6, gi b)]) dX3_isHidden_90 4 rfl rfl rfl ?_
              refine g_goto (pc := 93) X 11 dX3_isHidden_93 (by decide) ?_
              refine g_lsub X [0, 1, 2, 3, 4] rfl ?_
              exact ih11 _ (by omega) (all_s (P := fun t2 => ∀ b2, 0 ≤ b2 → b2 < 6 → hid1 A Q n pl s t2 b2) hi (fun b2 b0 b1 => hj b2 b0 (by omega))) (by omega)
            · have hvb2 := hvb (by omega)
              refine g_aload_n (pc := 41) X dX3_isHidden_41 0 rfl ?_
              refine g_get (pc := 42) X fl_X3_9 dX3_isHidden_42 0 (v := .ref (a 0)) rfl rfl ?_
              refine g_iload_n (pc := 45) X dX3_isHidden_45 1 rfl ?_
              refine g_iload (pc := 46) X dX3_isHidden_46 4 rfl ?_
              refine g_iload (pc := 48) X dX3_isHidden_48 6 rfl ?_
              refine gc_Si (pc := 50) X (c_X3_index l D cI cZ pl t b (by omega) (by omega) (by omega)) lm_X3_48 dX3_isHidden_50 [] rfl rfl rfl rfl rfl rfl ?_
              refine gc_Ni (pc := 53) X (c_X8_look l D cI cZ (a 0) 384 yv (48 * pl + 6 * t + b) (by omega) rfl) lm_X3_30 dX3_isHidden_53 [1] rfl rfl rfl rfl rfl rfl ?_
              refine g_top (b := yv (48 * pl + 6 * t + b)) (lk_in (by omega)) ?_
              refine g_top (b := (sVal A (Q (8 + pl)) b t (Q (32 + pl)))) (lsn_v hL hpl (by omega) (by omega)) ?_
              refine g_istore (pc := 56) X (lv' := [(0, .ref q), (1, gi pl), (2, gi s), (3, gi (bdel s pl)), (4, gi t), (5, gi ((Q pl) + t)), (6, gi b), (7, gi (sVal A (Q (8 + pl)) b t (Q (32 + pl))))]) dX3_isHidden_56 rfl rfl ?_
              refine g_iload (pc := 58) X dX3_isHidden_58 7 rfl ?_
              refine g_ifle (pc := 60) X 84 dX3_isHidden_60 (by decide) (by omega) (fun h60 => ?_) (fun h60 => ?_)
              · refine g_iinc (pc := 84) X (lv' := [(0, .ref q), (1, gi pl), (2, gi s), (3, gi (bdel s pl)), (4, gi t), (5, gi ((Q pl) + t)), (6, gi (b + 1)), (7, gi (sVal A (Q (8 + pl)) b t (Q (32 + pl))))]) dX3_isHidden_84 6 rfl rfl rfl ?_
                refine g_goto (pc := 87) X 34 dX3_isHidden_87 (by decide) ?_
                refine g_lsub X [0, 1, 2, 3, 4, 5, 6] rfl ?_
                exact ih34 _ (by omega) (all_s hj (fun cc => by omega)) (by omega)
              · refine g_iload (pc := 63) X dX3_isHidden_63 7 rfl ?_
                refine g_aload_n (pc := 65) X dX3_isHidden_65 0 rfl ?_
                refine g_get (pc := 66) X fl_X3_34 dX3_isHidden_66 0 (v := gi k) rfl rfl ?_
                refine g_imul (pc := 69) X dX3_isHidden_69 ?_
                have hmm := mulb (a := sVal A (Q (8 + pl)) b t (Q (32 + pl))) (b := k) (A := 99) (B := 9) (by omega) (by omega)
                have htb := tog_b hA (Q := Q) (s := bdel s pl) (pic := Q pl + t) (b := b) hn hR (by omega) (i := n) (by omega)
                refine g_aload_n (pc := 70) X dX3_isHidden_70 0 rfl ?_
                refine g_iload_n (pc := 71) X dX3_isHidden_71 3 rfl ?_
                refine g_iload (pc := 72) X dX3_isHidden_72 5 rfl ?_
                refine g_iload (pc := 74) X dX3_isHidden_74 6 rfl ?_
                refine gc_Vi (pc := 76) X (c_X3_together l D cI cZ q a n k yv yp _ Q (bdel s pl) ((Q pl) + t) b hA (by omega) hR hL (by omega) (by omega) (by omega)) lm_X3_62 dX3_isHidden_76 [0, 1, 2] rfl rfl rfl rfl rfl rfl rfl rfl ?_
                have htg : tog A Q n (bdel s pl) (Q pl + t) b = oth A Q n pl s (Q pl + t) b := tog_o hs (by omega) hn.2
                have hk2 : sVal A (Q (8 + pl)) b t (Q (32 + pl)) * k = sVal A (Q (8 + pl)) b t (Q (32 + pl)) * A 129 := by rw [hk]
                refine g_icmple (pc := 79) X 84 dX3_isHidden_79 (by decide) (by omega) (by omega) (fun h79 => ?_) (fun h79 => ?_)
                · refine g_iinc (pc := 84) X (lv' := [(0, .ref q), (1, gi pl), (2, gi s), (3, gi (bdel s pl)), (4, gi t), (5, gi ((Q pl) + t)), (6, gi (b + 1)), (7, gi (sVal A (Q (8 + pl)) b t (Q (32 + pl))))]) dX3_isHidden_84 6 rfl rfl rfl ?_
                  refine g_goto (pc := 87) X 34 dX3_isHidden_87 (by decide) ?_
                  refine g_lsub X [0, 1, 2, 3, 4, 5, 6] rfl ?_
                  exact ih34 _ (by omega) (all_s hj (fun cc => by rw [← htg]; omega)) (by omega)
                · refine g_iconst (pc := 82) X dX3_isHidden_82 ?_
                  exact ret _ _ _ _ _ _ dX3_isHidden_83 rfl rfl (fun _ => Or.inl rfl) (gPi_e (hidB_f (fun cc => by have c2 := cc t ht.1 (by omega) b hb.1 (by omega) (by omega); rw [← htg] at c2; omega)).symm)
        exact L34 _ _ (by omega) (fun b2 b0 b1 => by omega) (Nat.lt_succ_self _)
  exact L11 _ _ (by omega) (fun t2 t0 t1 => by omega) (Nat.lt_succ_self _)
