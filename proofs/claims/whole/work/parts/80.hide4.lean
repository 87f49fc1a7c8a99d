/-! the model: hidden, unheard, kept -/
theorem kp_1 {A Q : Int → Int} {n s : Int} (h : ahB A Q n s = 1) : ahP A Q n s := by
  rcases Classical.em (ahP A Q n s) with c | c
  · exact c
  · rw [ahB_f c] at h; omega

set_option maxHeartbeats 4000000 in
set_option maxRecDepth 100000 in
theorem c_X9_valueIn (l : Launch) (D : va_G) (cI cZ : ClassId) (q : Nat) (a : Nat → Nat) (al : Int) (at_ : Int) (st : Int) (so : Int) (va : Int) (fa : Int) (pl : Int) (sg : Int) (su : Int) (A : Int → Int) (P : Int → Int) (p : Int) (pic : Int) (b : Int) (hA : okA A) (hp : 0 ≤ p ∧ p < 8) (hR : rgR (A 0) P p) (hpic : 0 ≤ pic ∧ pic ≤ 2000) (hb : 0 ≤ b ∧ b < 6) : GM l D cI cZ yX9_valueIn cX9_valueIn 5 (some .int) ({ frames := 4, cells := 0, slots := 0, locals := 98 }) 0 0 true [.ref q, gi p, gi pic, gi b] [oM q a al at_ st so va fa pl sg su, gA cI (a 0) 1140 A, gA cI (a 12) 8 (fun j => P (0 + j)), gA cI (a 13) 8 (fun j => P (8 + j)), gA cI (a 16) 8 (fun j => P (32 + j))] (gPi (vin A P p pic b)) := by
  refine g_enterI (z := false) (lv0 := [(0, .ref q), (1, gi p), (2, gi pic), (3, gi b)]) _ rfl (by decide) rfl rfl (fun V X ret => ?_)
  have h0_ := okA_0 hA
  obtain ⟨hr1, hr2, hr3, hr4, hr5⟩ := hR
  refine g_iload_n (pc := 0) X dX9_valueIn_0 2 rfl ?_
  refine g_aload_n (pc := 1) X dX9_valueIn_1 0 rfl ?_
  refine g_get (pc := 2) X fl_X9_26 dX9_valueIn_2 0 (v := .ref (a 12)) rfl rfl ?_
  refine g_iload_n (pc := 5) X dX9_valueIn_5 1 rfl ?_
  refine g_iald (pc := 6) X dX9_valueIn_6 2 rfl (by omega) rfl ?_
  refine g_top (b := P p) (congrArg P (by omega)) ?_
  refine g_isub (pc := 7) X dX9_valueIn_7 ?_
  refine g_istore (pc := 8) X (lv' := [(0, .ref q), (1, gi p), (2, gi pic), (3, gi b), (4, gi (pic - P p))]) dX9_valueIn_8 rfl rfl ?_
  refine g_iload (pc := 10) X dX9_valueIn_10 4 rfl ?_
  refine g_iconst (pc := 12) X dX9_valueIn_12 ?_
  refine g_bipush (pc := 13) X dX9_valueIn_13 (by decide +kernel) ?_
  refine gc_Si (pc := 15) X (c_X9_in l D cI cZ (pic - P p) 0 7 (by omega) (by omega) (by omega)) lm_X9_50 dX9_valueIn_15 [] rfl rfl rfl rfl rfl rfl ?_
  refine g_ifeqB (pc := 18) X 43 dX9_valueIn_18 (by decide) (fun h18 => ?_) (fun h18 => ?_)
  · refine g_iconst (pc := 43) X dX9_valueIn_43 ?_
    exact ret _ _ _ _ _ _ dX9_valueIn_44 rfl rfl (fun h => by cases h) (gPi_e (by unfold vin; rw [if_neg (by omega)]))
  · refine g_aload_n (pc := 21) X dX9_valueIn_21 0 rfl ?_
    refine g_aload_n (pc := 22) X dX9_valueIn_22 0 rfl ?_
    refine g_get (pc := 23) X fl_X9_29 dX9_valueIn_23 0 (v := .ref (a 13)) rfl rfl ?_
    refine g_iload_n (pc := 26) X dX9_valueIn_26 1 rfl ?_
    refine g_iald (pc := 27) X dX9_valueIn_27 3 rfl (by omega) rfl ?_
    refine g_iload_n (pc := 28) X dX9_valueIn_28 3 rfl ?_
    refine g_iload (pc := 29) X dX9_valueIn_29 4 rfl ?_
    refine g_aload_n (pc := 31) X dX9_valueIn_31 0 rfl ?_
    refine g_get (pc := 32) X fl_X9_38 dX9_valueIn_32 0 (v := .ref (a 16)) rfl rfl ?_
    refine g_iload_n (pc := 35) X dX9_valueIn_35 1 rfl ?_
    refine g_iald (pc := 36) X dX9_valueIn_36 4 rfl (by omega) rfl ?_
    refine gc_Vi (pc := 37) X (c_X9_valueOf l D cI cZ q a al at_ st so va fa pl sg su A (P (8 + p)) b (pic - P p) (P (32 + p)) hA (by omega) (by omega) (by omega) (by omega)) lm_X9_75 dX9_valueIn_37 [0, 1] rfl rfl rfl rfl rfl rfl rfl rfl ?_
    refine g_goto (pc := 40) X 44 dX9_valueIn_40 (by decide) ?_
    exact ret _ _ _ _ _ _ dX9_valueIn_44 rfl rfl (fun h => by cases h) (gPi_e (by unfold vin; rw [if_pos (by omega)]))

set_option maxHeartbeats 4000000 in
set_option maxRecDepth 100000 in
theorem c_X9_allPlaces (l : Launch) (D : va_G) (cI cZ : ClassId) (q : Nat) (a : Nat → Nat) (al : Int) (at_ : Int) (st : Int) (so : Int) (va : Int) (fa : Int) (pl : Int) (sg : Int) (su : Int) (hpl : 0 ≤ pl ∧ pl ≤ 8) : GM l D cI cZ yX9_allPlaces cX9_allPlaces 1 (some .int) ({ frames := 0, cells := 0, slots := 0, locals := 0 }) 0 0 true [.ref q] [oM q a al at_ st so va fa pl sg su] (gPi (1 * 2 ^ pl.toNat - 1)) := by
  refine g_enterI (z := false) (lv0 := [(0, .ref q)]) _ rfl (by decide) rfl rfl (fun V X ret => ?_)
  have hpw := pw_b (k := pl) (c := 8) (C := 256) rfl (by omega)
  refine g_iconst (pc := 0) X dX9_allPlaces_0 ?_
  refine g_aload_n (pc := 1) X dX9_allPlaces_1 0 rfl ?_
  refine g_get (pc := 2) X fl_X9_151 dX9_allPlaces_2 0 (v := gi pl) rfl rfl ?_
  refine g_ishl (pc := 5) X dX9_allPlaces_5 (by omega) (by omega) (by omega) ?_
  refine g_iconst (pc := 6) X dX9_allPlaces_6 ?_
  refine g_isub (pc := 7) X dX9_allPlaces_7 ?_
  exact ret _ _ _ _ _ _ dX9_allPlaces_8 rfl rfl (fun h => by cases h) (gPi_e rfl)

set_option maxHeartbeats 4000000 in
set_option maxRecDepth 100000 in
theorem c_X9_isHidden (l : Launch) (D : va_G) (cI cZ : ClassId) (q : Nat) (a : Nat → Nat) (al : Int) (at_ : Int) (st : Int) (so : Int) (va : Int) (fa : Int) (pl : Int) (sg : Int) (su : Int) (A : Int → Int) (P : Int → Int) (p : Int) (s : Int) (hA : okA A) (hpl : 0 ≤ pl ∧ pl ≤ 8) (hR : ∀ j, 0 ≤ j → j < pl → rgR (A 0) P j) (hp : 0 ≤ p ∧ p < pl) (hs : 0 ≤ s ∧ s < 256) : GM l D cI cZ yX9_isHidden cX9_isHidden 9 (some .boolean) ({ frames := 5, cells := 0, slots := 0, locals := 122 }) 0 0 true [.ref q, gi p, gi s] [oM q a al at_ st so va fa pl sg su, gA cI (a 0) 1140 A, gA cI (a 12) 8 (fun j => P (0 + j)), gA cI (a 13) 8 (fun j => P (8 + j)), gA cI (a 16) 8 (fun j => P (32 + j))] (gPi (hidB A P pl p s)) := by
  refine g_enterI (z := true) (lv0 := [(0, .ref q), (1, gi p), (2, gi s)]) _ rfl (by decide) rfl rfl (fun V X ret => ?_)
  have hpu := okA_pu hA
  have h0_ := okA_0 hA
  have hrg := hR p hp.1 hp.2
  have hrg_ := hrg
  obtain ⟨hr1, hr2, hr3, hr4, hr5⟩ := hrg_
  refine g_iconst (pc := 0) X dX9_isHidden_0 ?_
  refine g_istore_n (pc := 1) X (lv' := [(0, .ref q), (1, gi p), (2, gi s), (3, gi 0)]) dX9_isHidden_1 rfl rfl ?_
  have L2 : ∀ (n2 : Nat) (t : Int), (0 ≤ t ∧ t ≤ 8) → (∀ t2, 0 ≤ t2 → t2 < t → ∀ b2, 0 ≤ b2 → b2 < 6 → hid1 A P pl p s t2 b2) → (8 - t).toNat < n2 → V 0 0 [oM q a al at_ st so va fa pl sg su, gA cI (a 0) 1140 A, gA cI (a 12) 8 (fun j => P (0 + j)), gA cI (a 13) 8 (fun j => P (8 + j)), gA cI (a 16) 8 (fun j => P (32 + j))] 2 [(0, .ref q), (1, gi p), (2, gi s), (3, gi t)] [] := by
    intro n2
    induction n2 with
    | zero => intro t ht hi hn2; exact absurd hn2 (Nat.not_lt_zero _)
    | succ n2 ih2 =>
      intro t ht hi hn2
      refine g_iload_n (pc := 2) X dX9_isHidden_2 3 rfl ?_
      refine g_bipush (pc := 3) X dX9_isHidden_3 (by decide +kernel) ?_
      refine g_icmpge (pc := 5) X 130 dX9_isHidden_5 (by decide) (by omega) (by omega) (fun h5 => ?_) (fun h5 => ?_)
      · refine g_iconst (pc := 130) X dX9_isHidden_130 ?_
        exact ret _ _ _ _ _ _ dX9_isHidden_131 rfl rfl (fun _ => Or.inr rfl) (gPi_e (hidB_t (fun t2 t0 t1 => hi t2 t0 (by omega))).symm)
      · refine g_aload_n (pc := 8) X dX9_isHidden_8 0 rfl ?_
        refine g_get (pc := 9) X fl_X9_26 dX9_isHidden_9 0 (v := .ref (a 12)) rfl rfl ?_
        refine g_iload_n (pc := 12) X dX9_isHidden_12 1 rfl ?_
        refine g_iald (pc := 13) X dX9_isHidden_13 2 rfl (by omega) rfl ?_
        refine g_top (b := P p) (congrArg P (by omega)) ?_
        refine g_iload_n (pc := 14) X dX9_isHidden_14 3 rfl ?_
        refine g_iadd (pc := 15) X dX9_isHidden_15 ?_
        refine g_istore (pc := 16) X (lv' := [(0, .ref q), (1, gi p), (2, gi s), (3, gi t), (4, gi (P p + t))]) dX9_isHidden_16 rfl rfl ?_
        refine g_iconst (pc := 18) X dX9_isHidden_18 ?_
        refine g_istore (pc := 19) X (lv' := [(0, .ref q), (1, gi p), (2, gi s), (3, gi t), (4, gi (P p + t)), (5, gi 0)]) dX9_isHidden_19 rfl rfl ?_
        have L21 : ∀ (n21 : Nat) (b : Int), (0 ≤ b ∧ b ≤ 6) → (∀ b2, 0 ≤ b2 → b2 < b → hid1 A P pl p s t b2) → (6 - b).toNat < n21 → V 0 0 [oM q a al at_ st so va fa pl sg su, gA cI (a 0) 1140 A, gA cI (a 12) 8 (fun j => P (0 + j)), gA cI (a 13) 8 (fun j => P (8 + j)), gA cI (a 16) 8 (fun j => P (32 + j))] 21 [(0, .ref q), (1, gi p), (2, gi s), (3, gi t), (4, gi (P p + t)), (5, gi b)] [] := by
          intro n21
          induction n21 with
          | zero => intro b hb hj hn21; exact absurd hn21 (Nat.not_lt_zero _)
          | succ n21 ih21 =>
            intro b hb hj hn21
            refine g_iload (pc := 21) X dX9_isHidden_21 5 rfl ?_
            refine g_bipush (pc := 23) X dX9_isHidden_23 (by decide +kernel) ?_
            refine g_icmpge (pc := 25) X 124 dX9_isHidden_25 (by decide) (by omega) (by omega) (fun h25 => ?_) (fun h25 => ?_)
            · refine g_iinc (pc := 124) X (lv' := [(0, .ref q), (1, gi p), (2, gi s), (3, gi (t + 1)), (4, gi (P p + t)), (5, gi b)]) dX9_isHidden_124 3 rfl rfl rfl ?_
              refine g_goto (pc := 127) X 2 dX9_isHidden_127 (by decide) ?_
              refine g_lsub X [0, 1, 2, 3] rfl ?_
              exact ih2 _ (by omega) (all_s (P := fun t2 => ∀ b2, 0 ≤ b2 → b2 < 6 → hid1 A P pl p s t2 b2) hi (fun b2 b0 b1 => hj b2 b0 (by omega))) (by omega)
            · refine g_aload_n (pc := 28) X dX9_isHidden_28 0 rfl ?_
              refine g_iload_n (pc := 29) X dX9_isHidden_29 1 rfl ?_
              refine g_iload (pc := 30) X dX9_isHidden_30 4 rfl ?_
              refine g_iload (pc := 32) X dX9_isHidden_32 5 rfl ?_
              refine gc_Vi (pc := 34) X (c_X9_valueIn l D cI cZ q a al at_ st so va fa pl sg su A P p (P p + t) b hA (by omega) hrg (by omega) (by omega)) lm_X9_161 dX9_isHidden_34 [0, 1, 2, 3, 4] rfl rfl rfl rfl rfl rfl rfl rfl ?_
              refine g_top (b := (sVal A (P (8 + p)) b t (P (32 + p)))) (vin_t (by omega)) ?_
              have hvb := sVal_b hA (t := P (8 + p)) (b := b) (n := t) (far := P (32 + p)) (by omega) (by omega) (by omega) hr5
              refine g_istore (pc := 37) X (lv' := [(0, .ref q), (1, gi p), (2, gi s), (3, gi t), (4, gi (P p + t)), (5, gi b), (6, gi (sVal A (P (8 + p)) b t (P (32 + p))))]) dX9_isHidden_37 rfl rfl ?_
              refine g_iconst (pc := 39) X dX9_isHidden_39 ?_
              refine g_istore (pc := 40) X (lv' := [(0, .ref q), (1, gi p), (2, gi s), (3, gi t), (4, gi (P p + t)), (5, gi b), (6, gi (sVal A (P (8 + p)) b t (P (32 + p)))), (7, gi 0)]) dX9_isHidden_40 rfl rfl ?_
              refine g_iconst (pc := 42) X dX9_isHidden_42 ?_
              refine g_istore (pc := 43) X (lv' := [(0, .ref q), (1, gi p), (2, gi s), (3, gi t), (4, gi (P p + t)), (5, gi b), (6, gi (sVal A (P (8 + p)) b t (P (32 + p)))), (7, gi 0), (8, gi 0)]) dX9_isHidden_43 rfl rfl ?_
              have L45 : ∀ (n45 : Nat) (x : Int) (p2 : Int), (0 ≤ p2 ∧ p2 ≤ pl) → (x = oth A P p2 p s (P p + t) b) → (pl - p2).toNat < n45 → V 0 0 [oM q a al at_ st so va fa pl sg su, gA cI (a 0) 1140 A, gA cI (a 12) 8 (fun j => P (0 + j)), gA cI (a 13) 8 (fun j => P (8 + j)), gA cI (a 16) 8 (fun j => P (32 + j))] 45 [(0, .ref q), (1, gi p), (2, gi s), (3, gi t), (4, gi (P p + t)), (5, gi b), (6, gi (sVal A (P (8 + p)) b t (P (32 + p)))), (7, gi x), (8, gi p2)] [] := by
                intro n45
                induction n45 with
                | zero => intro x p2 hp2 hx hn45; exact absurd hn45 (Nat.not_lt_zero _)
                | succ n45 ih45 =>
                  intro x p2 hp2 hx hn45
                  have hob := oth_b hA (Q := P) (pl := p) (s := s) (pic := P p + t) (b := b) hpl hR (by omega) hp2
                  rw [← hx] at hob
                  have hbt := bit_b s p2
                  refine g_iload (pc := 45) X dX9_isHidden_45 8 rfl ?_
                  refine g_aload_n (pc := 47) X dX9_isHidden_47 0 rfl ?_
                  refine g_get (pc := 48) X fl_X9_151 dX9_isHidden_48 0 (v := gi pl) rfl rfl ?_
                  refine g_icmpge (pc := 51) X 95 dX9_isHidden_51 (by decide) (by omega) (by omega) (fun h51 => ?_) (fun h51 => ?_)
                  · refine g_iload (pc := 95) X dX9_isHidden_95 6 rfl ?_
                    refine g_ifle (pc := 97) X 118 dX9_isHidden_97 (by decide) (by omega) (fun h97 => ?_) (fun h97 => ?_)
                    · refine g_iinc (pc := 118) X (lv' := [(0, .ref q), (1, gi p), (2, gi s), (3, gi t), (4, gi (P p + t)), (5, gi (b + 1)), (6, gi (sVal A (P (8 + p)) b t (P (32 + p)))), (7, gi x), (8, gi p2)]) dX9_isHidden_118 5 rfl rfl rfl ?_
                      refine g_goto (pc := 121) X 21 dX9_isHidden_121 (by decide) ?_
                      refine g_lsub X [0, 1, 2, 3, 4, 5] rfl ?_
                      exact ih21 _ (by omega) (all_s hj (fun cc => by rw [show oth A P pl p s (P p + t) b = x by rw [hx, show p2 = pl by omega]]; omega)) (by omega)
                    · refine g_iload (pc := 100) X dX9_isHidden_100 6 rfl ?_
                      refine g_aload_n (pc := 102) X dX9_isHidden_102 0 rfl ?_
                      refine g_get (pc := 103) X fl_X9_7 dX9_isHidden_103 0 (v := .ref (a 0)) rfl rfl ?_
                      refine g_sipush (pc := 106) X dX9_isHidden_106 (by decide +kernel) ?_
                      refine g_iald (pc := 109) X dX9_isHidden_109 1 rfl (by omega) rfl ?_
                      have hmm := mulb (a := sVal A (P (8 + p)) b t (P (32 + p))) (b := A 129) (A := 99) (B := 9) (by omega) (by omega)
                      refine g_imul (pc := 110) X dX9_isHidden_110 ?_
                      refine g_iload (pc := 111) X dX9_isHidden_111 7 rfl ?_
                      refine g_icmple (pc := 113) X 118 dX9_isHidden_113 (by decide) (by omega) (by omega) (fun h113 => ?_) (fun h113 => ?_)
                      · refine g_iinc (pc := 118) X (lv' := [(0, .ref q), (1, gi p), (2, gi s), (3, gi t), (4, gi (P p + t)), (5, gi (b + 1)), (6, gi (sVal A (P (8 + p)) b t (P (32 + p)))), (7, gi x), (8, gi p2)]) dX9_isHidden_118 5 rfl rfl rfl ?_
                        refine g_goto (pc := 121) X 21 dX9_isHidden_121 (by decide) ?_
                        refine g_lsub X [0, 1, 2, 3, 4, 5] rfl ?_
                        exact ih21 _ (by omega) (all_s hj (fun cc => by rw [show oth A P pl p s (P p + t) b = x by rw [hx, show p2 = pl by omega]]; omega)) (by omega)
                      · refine g_iconst (pc := 116) X dX9_isHidden_116 ?_
                        exact ret _ _ _ _ _ _ dX9_isHidden_117 rfl rfl (fun _ => Or.inl rfl) (gPi_e (hidB_f (fun cc => by have c2 := cc t ht.1 (by omega) b hb.1 (by omega) (by omega); rw [show oth A P pl p s (P p + t) b = x by rw [hx, show p2 = pl by omega]] at c2; omega)).symm)
                  · refine g_iload (pc := 54) X dX9_isHidden_54 7 rfl ?_
                    refine g_iload (pc := 56) X dX9_isHidden_56 8 rfl ?_
                    refine g_iload_n (pc := 58) X dX9_isHidden_58 1 rfl ?_
                    refine g_icmpeq (pc := 59) X 85 dX9_isHidden_59 (by decide) (by omega) (by omega) (fun h59 => ?_) (fun h59 => ?_)
                    · refine g_iconst (pc := 85) X dX9_isHidden_85 ?_
                      refine g_iadd (pc := 86) X dX9_isHidden_86 ?_
                      refine g_istore (pc := 87) X (lv' := [(0, .ref q), (1, gi p), (2, gi s), (3, gi t), (4, gi (P p + t)), (5, gi b), (6, gi (sVal A (P (8 + p)) b t (P (32 + p)))), (7, gi (x + 0)), (8, gi p2)]) dX9_isHidden_87 rfl rfl ?_
                      refine g_iinc (pc := 89) X (lv' := [(0, .ref q), (1, gi p), (2, gi s), (3, gi t), (4, gi (P p + t)), (5, gi b), (6, gi (sVal A (P (8 + p)) b t (P (32 + p)))), (7, gi (x + 0)), (8, gi (p2 + 1))]) dX9_isHidden_89 8 rfl rfl rfl ?_
                      refine g_goto (pc := 92) X 45 dX9_isHidden_92 (by decide) ?_
                      exact ih45 _ _ (by omega) (by rw [show oth A P (p2 + 1) p s (P p + t) b = oth A P p2 p s (P p + t) b + (if p2 ≠ p ∧ bit s p2 = 1 then vin A P p2 (P p + t) b else 0) from sm_s hp2.1, ← hx]; first | rw [if_pos ⟨by omega, by omega⟩] | rw [if_neg (by omega)]) (by omega)
                    · refine g_iload_n (pc := 62) X dX9_isHidden_62 2 rfl ?_
                      refine g_iload (pc := 63) X dX9_isHidden_63 8 rfl ?_
                      refine g_ishr (pc := 65) X dX9_isHidden_65 (by omega) (by omega) ?_
                      refine g_iconst (pc := 66) X dX9_isHidden_66 ?_
                      refine g_iand (pc := 67) X (r := bit s p2) dX9_isHidden_67 (iI_bit hs.1) ?_
                      refine g_iconst (pc := 68) X dX9_isHidden_68 ?_
                      refine g_icmpne (pc := 69) X 85 dX9_isHidden_69 (by decide) (by omega) (by omega) (fun h69 => ?_) (fun h69 => ?_)
                      · refine g_iconst (pc := 85) X dX9_isHidden_85 ?_
                        refine g_iadd (pc := 86) X dX9_isHidden_86 ?_
                        refine g_istore (pc := 87) X (lv' := [(0, .ref q), (1, gi p), (2, gi s), (3, gi t), (4, gi (P p + t)), (5, gi b), (6, gi (sVal A (P (8 + p)) b t (P (32 + p)))), (7, gi (x + 0)), (8, gi p2)]) dX9_isHidden_87 rfl rfl ?_
                        refine g_iinc (pc := 89) X (lv' := [(0, .ref q), (1, gi p), (2, gi s), (3, gi t), (4, gi (P p + t)), (5, gi b), (6, gi (sVal A (P (8 + p)) b t (P (32 + p)))), (7, gi (x + 0)), (8, gi (p2 + 1))]) dX9_isHidden_89 8 rfl rfl rfl ?_
                        refine g_goto (pc := 92) X 45 dX9_isHidden_92 (by decide) ?_
                        exact ih45 _ _ (by omega) (by rw [show oth A P (p2 + 1) p s (P p + t) b = oth A P p2 p s (P p + t) b + (if p2 ≠ p ∧ bit s p2 = 1 then vin A P p2 (P p + t) b else 0) from sm_s hp2.1, ← hx]; first | rw [if_pos ⟨by omega, by omega⟩] | rw [if_neg (by omega)]) (by omega)
                      · refine g_aload_n (pc := 72) X dX9_isHidden_72 0 rfl ?_
                        refine g_iload (pc := 73) X dX9_isHidden_73 8 rfl ?_
                        refine g_iload (pc := 75) X dX9_isHidden_75 4 rfl ?_
                        refine g_iload (pc := 77) X dX9_isHidden_77 5 rfl ?_
                        have hrp2 := hR p2 hp2.1 (by omega)
                        refine gc_Vi (pc := 79) X (c_X9_valueIn l D cI cZ q a al at_ st so va fa pl sg su A P p2 (P p + t) b hA (by omega) hrp2 (by omega) (by omega)) lm_X9_161 dX9_isHidden_79 [0, 1, 2, 3, 4] rfl rfl rfl rfl rfl rfl rfl rfl ?_
                        have hv2 := vin_b hA (pic := P p + t) (b := b) hrp2 (by omega)
                        refine g_goto (pc := 82) X 86 dX9_isHidden_82 (by decide) ?_
                        refine g_iadd (pc := 86) X dX9_isHidden_86 ?_
                        refine g_istore (pc := 87) X (lv' := [(0, .ref q), (1, gi p), (2, gi s), (3, gi t), (4, gi (P p + t)), (5, gi b), (6, gi (sVal A (P (8 + p)) b t (P (32 + p)))), (7, gi (x + (vin A P p2 (P p + t) b))), (8, gi p2)]) dX9_isHidden_87 rfl rfl ?_
                        refine g_iinc (pc := 89) X (lv' := [(0, .ref q), (1, gi p), (2, gi s), (3, gi t), (4, gi (P p + t)), (5, gi b), (6, gi (sVal A (P (8 + p)) b t (P (32 + p)))), (7, gi (x + (vin A P p2 (P p + t) b))), (8, gi (p2 + 1))]) dX9_isHidden_89 8 rfl rfl rfl ?_
                        refine g_goto (pc := 92) X 45 dX9_isHidden_92 (by decide) ?_
                        exact ih45 _ _ (by omega) (by rw [show oth A P (p2 + 1) p s (P p + t) b = oth A P p2 p s (P p + t) b + (if p2 ≠ p ∧ bit s p2 = 1 then vin A P p2 (P p + t) b else 0) from sm_s hp2.1, ← hx]; first | rw [if_pos ⟨by omega, by omega⟩] | rw [if_neg (by omega)]) (by omega)
              exact L45 _ _ _ (by omega) (by rfl) (Nat.lt_succ_self _)
        exact L21 _ _ (by omega) (fun b2 b0 b1 => by omega) (Nat.lt_succ_self _)
  exact L2 _ _ (by omega) (fun t2 t0 t1 => by omega) (Nat.lt_succ_self _)

set_option maxHeartbeats 4000000 in
set_option maxRecDepth 100000 in
theorem c_X9_hidden (l : Launch) (D : va_G) (cI cZ : ClassId) (q : Nat) (a : Nat → Nat) (al : Int) (at_ : Int) (st : Int) (so : Int) (va : Int) (fa : Int) (pl : Int) (sg : Int) (su : Int) (A : Int → Int) (kp : Int → Int) (rf : Int → Int) (lk_ : Int → Int) (sh : Int → Int) (pi : Int → Int) (th : Int → Int) (fl : Int → Int) (so_ : Int → Int) (fr : Int → Int) (le : Int → Int) (lg : Int → Int) (bg : Int → Int) (p : Int) (s : Int) (hA : okA A) (hp : -2147483648 ≤ p ∧ p < 2147483648) (hs : -2147483648 ≤ s ∧ s < 2147483648) : GM l D cI cZ yX9_hidden cX9_hidden 3 (some .int) ({ frames := 6, cells := 0, slots := 0, locals := 150 }) 0 0 false [.ref q, gi p, gi s] [oM q a al at_ st so va fa pl sg su, gA cI (a 0) 1140 A, gA cZ (a 1) 2 kp, gA cI (a 2) 3 rf, gA cI (a 3) 6 lk_, gA cI (a 5) 60 sh, gA cI (a 12) 8 pi, gA cI (a 13) 8 th, gA cI (a 14) 8 fl, gA cI (a 15) 8 so_, gA cI (a 16) 8 fr, gA cI (a 17) 2048 le, gA cI (a 18) 41 lg, gA cI (a 19) 112 bg] (gPxi (fun xo : (Int) × (Int) × (Int) × (Int) × (Int) × (Int) × (Int → Int) => (o_hidden A p s).1) (fun xo : (Int) × (Int) × (Int) × (Int) × (Int) × (Int) × (Int → Int) => [oM q a al xo.1 xo.2.1 xo.2.2.1 xo.2.2.2.1 xo.2.2.2.2.1 xo.2.2.2.2.2.1 sg su, gA cI (a 0) 1140 A, gA cZ (a 1) 2 kp, gA cI (a 2) 3 (bump ((o_hidden A p s).2) rf), gA cI (a 3) 6 lk_, gA cI (a 5) 60 sh, gA cI (a 12) 8 (fun j => xo.2.2.2.2.2.2 (0 + j)), gA cI (a 13) 8 (fun j => xo.2.2.2.2.2.2 (8 + j)), gA cI (a 14) 8 (fun j => xo.2.2.2.2.2.2 (16 + j)), gA cI (a 15) 8 (fun j => xo.2.2.2.2.2.2 (24 + j)), gA cI (a 16) 8 (fun j => xo.2.2.2.2.2.2 (32 + j)), gA cI (a 17) 2048 le, gA cI (a 18) 41 lg, gA cI (a 19) 112 bg]) (fun xo : (Int) × (Int) × (Int) × (Int) × (Int) × (Int) × (Int → Int) => True)) := by
  refine g_enterI (z := false) (lv0 := [(0, .ref q), (1, gi p), (2, gi s)]) _ rfl (by decide) rfl rfl (fun V X ret => ?_)
  have hA1 := okA_1 hA
  have hA0 := okA_0 hA
  have hpu := okA_pu hA
  have hA2 := okA_2 hA
  refine g_ws (ws' := [oM q a al at_ st so va fa pl sg su, gA cI (a 0) 1140 A, gA cZ (a 1) 2 kp, gA cI (a 2) 3 rf, gA cI (a 3) 6 lk_, gA cI (a 5) 60 sh, gA cI (a 12) 8 (fun j => (pk5 pi th fl so_ fr) (0 + j)), gA cI (a 13) 8 (fun j => (pk5 pi th fl so_ fr) (8 + j)), gA cI (a 14) 8 (fun j => (pk5 pi th fl so_ fr) (16 + j)), gA cI (a 15) 8 (fun j => (pk5 pi th fl so_ fr) (24 + j)), gA cI (a 16) 8 (fun j => (pk5 pi th fl so_ fr) (32 + j)), gA cI (a 17) 2048 le, gA cI (a 18) 41 lg, gA cI (a 19) 112 bg]) (by rw [(show gA cI (a 12) 8 (pi) = gA cI (a 12) 8 (fun j => (pk5 pi th fl so_ fr) (0 + j)) from gA_ext (fun j j0 j1 => (by unfold pk5; (try dsimp only); (repeat' split) <;> first | exact congrArg _ (by omega) | (exfalso; omega)))), (show gA cI (a 13) 8 (th) = gA cI (a 13) 8 (fun j => (pk5 pi th fl so_ fr) (8 + j)) from gA_ext (fun j j0 j1 => (by unfold pk5; (try dsimp only); (repeat' split) <;> first | exact congrArg _ (by omega) | (exfalso; omega)))), (show gA cI (a 14) 8 (fl) = gA cI (a 14) 8 (fun j => (pk5 pi th fl so_ fr) (16 + j)) from gA_ext (fun j j0 j1 => (by unfold pk5; (try dsimp only); (repeat' split) <;> first | exact congrArg _ (by omega) | (exfalso; omega)))), (show gA cI (a 15) 8 (so_) = gA cI (a 15) 8 (fun j => (pk5 pi th fl so_ fr) (24 + j)) from gA_ext (fun j j0 j1 => (by unfold pk5; (try dsimp only); (repeat' split) <;> first | exact congrArg _ (by omega) | (exfalso; omega)))), (show gA cI (a 16) 8 (fr) = gA cI (a 16) 8 (fun j => (pk5 pi th fl so_ fr) (32 + j)) from gA_ext (fun j j0 j1 => (by unfold pk5; (try dsimp only); (repeat' split) <;> first | exact congrArg _ (by omega) | (exfalso; omega))))]) ?_
  refine g_aload_n (pc := 0) X dX9_hidden_0 0 rfl ?_
  refine gc_Vxi (pc := 1) X (wr := [gA cZ (a 1) 2 kp, gA cI (a 2) 3 rf, gA cI (a 3) 6 lk_, gA cI (a 5) 60 sh, gA cI (a 17) 2048 le, gA cI (a 18) 41 lg, gA cI (a 19) 112 bg]) (c_X9_readReel l D cI cZ q a al at_ st so va fa pl sg su A (pk5 pi th fl so_ fr) hA) lm_X9_157 dX9_hidden_1 [0, 1, 6, 7, 8, 9, 10] [2, 3, 4, 5, 11, 12, 13] rfl rfl rfl rfl (by decide) rfl rfl rfl rfl rfl rfl (fun x1 hx1 => ?_)
  obtain ⟨at3_1, st3_1, so3_1, va3_1, fa3_1, pl3_1, P3_1⟩ := x1
  have hr_1 : rdS A fa3_1 pl3_1 P3_1 := hx1
  refine g_pick (cn := 0) (sl := 0) (st := gi (gB (rF A = -1)) :: []) X (ws' := [oM q a al at3_1 st3_1 so3_1 va3_1 fa3_1 pl3_1 sg su, gA cI (a 0) 1140 A, gA cZ (a 1) 2 kp, gA cI (a 2) 3 rf, gA cI (a 3) 6 lk_, gA cI (a 5) 60 sh, gA cI (a 12) 8 (fun j => P3_1 (0 + j)), gA cI (a 13) 8 (fun j => P3_1 (8 + j)), gA cI (a 14) 8 (fun j => P3_1 (16 + j)), gA cI (a 15) 8 (fun j => P3_1 (24 + j)), gA cI (a 16) 8 (fun j => P3_1 (32 + j)), gA cI (a 17) 2048 le, gA cI (a 18) 41 lg, gA cI (a 19) 112 bg]) [7, 8, 0, 1, 2, 3, 9, 10, 11, 12, 13, 4, 5, 6] rfl rfl ?_
  refine g_ifneB (pc := 4) X 14 dX9_hidden_4 (by decide) (fun h4 => ?_) (fun h4 => ?_)
  · have hrd := hr_1.2 h4
    have hn1 := hrd.1
    have hpb := rP_b hA2.1 h4
    have hrg : ∀ j, 0 ≤ j → j < rP A → rgR (A 0) P3_1 j := fun j j0 j1 => rgR_c (hrd.2 j j0 j1) (rR_b hA2.1 h4 ⟨j0, j1⟩)
    have hpw := pw_b (k := rP A) (c := 8) (C := 256) rfl (by omega)
    refine g_ws (ws' := [oM q a al at3_1 st3_1 so3_1 va3_1 fa3_1 (rP A) sg su, gA cI (a 0) 1140 A, gA cZ (a 1) 2 kp, gA cI (a 2) 3 rf, gA cI (a 3) 6 lk_, gA cI (a 5) 60 sh, gA cI (a 12) 8 (fun j => P3_1 (0 + j)), gA cI (a 13) 8 (fun j => P3_1 (8 + j)), gA cI (a 14) 8 (fun j => P3_1 (16 + j)), gA cI (a 15) 8 (fun j => P3_1 (24 + j)), gA cI (a 16) 8 (fun j => P3_1 (32 + j)), gA cI (a 17) 2048 le, gA cI (a 18) 41 lg, gA cI (a 19) 112 bg]) (by rw [hn1]) ?_
    refine g_iload_n (pc := 14) X dX9_hidden_14 1 rfl ?_
    refine g_iconst (pc := 15) X dX9_hidden_15 ?_
    refine g_aload_n (pc := 16) X dX9_hidden_16 0 rfl ?_
    refine g_get (pc := 17) X fl_X9_151 dX9_hidden_17 0 (v := gi (rP A)) rfl rfl ?_
    refine g_iconst (pc := 20) X dX9_hidden_20 ?_
    refine g_isub (pc := 21) X dX9_hidden_21 ?_
    refine gc_Si (pc := 22) X (c_X9_in l D cI cZ p 0 ((rP A) - 1) (by omega) (by omega) (by omega)) lm_X9_50 dX9_hidden_22 [] rfl rfl rfl rfl rfl rfl ?_
    refine g_ifeqB (pc := 25) X 40 dX9_hidden_25 (by decide) (fun h25 => ?_) (fun h25 => ?_)
    · refine g_aload_n (pc := 40) X dX9_hidden_40 0 rfl ?_
      refine g_bipush (pc := 41) X dX9_hidden_41 (by decide +kernel) ?_
      refine gc_Vxi (pc := 43) X (wr := [gA cI (a 0) 1140 A, gA cZ (a 1) 2 kp, gA cI (a 3) 6 lk_, gA cI (a 5) 60 sh, gA cI (a 12) 8 (fun j => P3_1 (0 + j)), gA cI (a 13) 8 (fun j => P3_1 (8 + j)), gA cI (a 14) 8 (fun j => P3_1 (16 + j)), gA cI (a 15) 8 (fun j => P3_1 (24 + j)), gA cI (a 16) 8 (fun j => P3_1 (32 + j)), gA cI (a 17) 2048 le, gA cI (a 18) 41 lg, gA cI (a 19) 112 bg]) (c_X9_refuse l D cI cZ q a al at3_1 st3_1 so3_1 va3_1 fa3_1 (rP A) sg su rf (-2) (by omega)) lm_X9_54 dX9_hidden_43 [0, 3] [1, 2, 4, 5, 6, 7, 8, 9, 10, 11, 12, 13] rfl rfl rfl rfl (by decide) rfl rfl rfl rfl rfl rfl (fun x43 hx43 => ?_)
      refine g_pick (cn := 0) (sl := 0) (st := gi (-2) :: []) X (ws' := [oM q a al at3_1 st3_1 so3_1 va3_1 fa3_1 (rP A) sg su, gA cI (a 0) 1140 A, gA cZ (a 1) 2 kp, gA cI (a 2) 3 (gupd rf (-2 - (-2)) (rf (-2 - (-2)) + 1)), gA cI (a 3) 6 lk_, gA cI (a 5) 60 sh, gA cI (a 12) 8 (fun j => P3_1 (0 + j)), gA cI (a 13) 8 (fun j => P3_1 (8 + j)), gA cI (a 14) 8 (fun j => P3_1 (16 + j)), gA cI (a 15) 8 (fun j => P3_1 (24 + j)), gA cI (a 16) 8 (fun j => P3_1 (32 + j)), gA cI (a 17) 2048 le, gA cI (a 18) 41 lg, gA cI (a 19) 112 bg]) [12, 0, 1, 13, 2, 3, 4, 5, 6, 7, 8, 9, 10, 11] rfl rfl ?_
      exact ret _ _ _ _ _ _ dX9_hidden_46 rfl rfl (fun h => by cases h) (gPxi_e (at3_1, st3_1, so3_1, va3_1, fa3_1, rP A, P3_1) (by rw [(show o_hidden A p s = (-2, 0) from (if_pos h4).trans (if_neg (by omega)))]) (by rw [(show o_hidden A p s = (-2, 0) from (if_pos h4).trans (if_neg (by omega)))]; rfl) trivial)
    · refine g_iload_n (pc := 28) X dX9_hidden_28 2 rfl ?_
      refine g_iconst (pc := 29) X dX9_hidden_29 ?_
      refine g_aload_n (pc := 30) X dX9_hidden_30 0 rfl ?_
      refine gc_Vi (pc := 31) X (c_X9_allPlaces l D cI cZ q a al at3_1 st3_1 so3_1 va3_1 fa3_1 (rP A) sg su (by omega)) lm_X9_164 dX9_hidden_31 [0] rfl rfl rfl rfl rfl rfl rfl rfl ?_
      refine gc_Si (pc := 34) X (c_X9_in l D cI cZ s 0 (1 * 2 ^ (rP A).toNat - 1) (by omega) (by omega) (by omega)) lm_X9_50 dX9_hidden_34 [] rfl rfl rfl rfl rfl rfl ?_
      refine g_ifneB (pc := 37) X 47 dX9_hidden_37 (by decide) (fun h37 => ?_) (fun h37 => ?_)
      · refine g_aload_n (pc := 47) X dX9_hidden_47 0 rfl ?_
        refine g_iload_n (pc := 48) X dX9_hidden_48 1 rfl ?_
        refine g_iload_n (pc := 49) X dX9_hidden_49 2 rfl ?_
        refine gc_Vi (pc := 50) X (c_X9_isHidden l D cI cZ q a al at3_1 st3_1 so3_1 va3_1 fa3_1 (rP A) sg su A P3_1 p s hA (by omega) hrg (by omega) (by omega)) lm_X9_167 dX9_hidden_50 [0, 1, 6, 7, 10] rfl rfl rfl rfl rfl rfl rfl rfl ?_
        refine g_ifeq (pc := 53) X 60 dX9_hidden_53 (by decide) (by have := hidB_n A P3_1 (rP A) p s; omega) (fun h53 => ?_) (fun h53 => ?_)
        · refine g_iconst (pc := 60) X dX9_hidden_60 ?_
          exact ret _ _ _ _ _ _ dX9_hidden_61 rfl rfl (fun h => by cases h) (gPxi_e (at3_1, st3_1, so3_1, va3_1, fa3_1, rP A, P3_1) (by rw [(show o_hidden A p s = (hidB A (rR A) (rP A) p s, -1) from (if_pos h4).trans (if_pos (by omega)))]; have hq := hidB_n A P3_1 (rP A) p s; rw [← hidB_c hrd.2 (by omega)]; (try dsimp only); omega) (by rw [(show o_hidden A p s = (hidB A (rR A) (rP A) p s, -1) from (if_pos h4).trans (if_pos (by omega)))]; rfl) trivial)
        · refine g_iconst (pc := 56) X dX9_hidden_56 ?_
          refine g_goto (pc := 57) X 61 dX9_hidden_57 (by decide) ?_
          exact ret _ _ _ _ _ _ dX9_hidden_61 rfl rfl (fun h => by cases h) (gPxi_e (at3_1, st3_1, so3_1, va3_1, fa3_1, rP A, P3_1) (by rw [(show o_hidden A p s = (hidB A (rR A) (rP A) p s, -1) from (if_pos h4).trans (if_pos (by omega)))]; have hq := hidB_n A P3_1 (rP A) p s; rw [← hidB_c hrd.2 (by omega)]; (try dsimp only); omega) (by rw [(show o_hidden A p s = (hidB A (rR A) (rP A) p s, -1) from (if_pos h4).trans (if_pos (by omega)))]; rfl) trivial)
      · refine g_aload_n (pc := 40) X dX9_hidden_40 0 rfl ?_
        refine g_bipush (pc := 41) X dX9_hidden_41 (by decide +kernel) ?_
        refine gc_Vxi (pc := 43) X (wr := [gA cI (a 0) 1140 A, gA cZ (a 1) 2 kp, gA cI (a 3) 6 lk_, gA cI (a 5) 60 sh, gA cI (a 12) 8 (fun j => P3_1 (0 + j)), gA cI (a 13) 8 (fun j => P3_1 (8 + j)), gA cI (a 14) 8 (fun j => P3_1 (16 + j)), gA cI (a 15) 8 (fun j => P3_1 (24 + j)), gA cI (a 16) 8 (fun j => P3_1 (32 + j)), gA cI (a 17) 2048 le, gA cI (a 18) 41 lg, gA cI (a 19) 112 bg]) (c_X9_refuse l D cI cZ q a al at3_1 st3_1 so3_1 va3_1 fa3_1 (rP A) sg su rf (-2) (by omega)) lm_X9_54 dX9_hidden_43 [0, 3] [1, 2, 4, 5, 6, 7, 8, 9, 10, 11, 12, 13] rfl rfl rfl rfl (by decide) rfl rfl rfl rfl rfl rfl (fun x43 hx43 => ?_)
        refine g_pick (cn := 0) (sl := 0) (st := gi (-2) :: []) X (ws' := [oM q a al at3_1 st3_1 so3_1 va3_1 fa3_1 (rP A) sg su, gA cI (a 0) 1140 A, gA cZ (a 1) 2 kp, gA cI (a 2) 3 (gupd rf (-2 - (-2)) (rf (-2 - (-2)) + 1)), gA cI (a 3) 6 lk_, gA cI (a 5) 60 sh, gA cI (a 12) 8 (fun j => P3_1 (0 + j)), gA cI (a 13) 8 (fun j => P3_1 (8 + j)), gA cI (a 14) 8 (fun j => P3_1 (16 + j)), gA cI (a 15) 8 (fun j => P3_1 (24 + j)), gA cI (a 16) 8 (fun j => P3_1 (32 + j)), gA cI (a 17) 2048 le, gA cI (a 18) 41 lg, gA cI (a 19) 112 bg]) [12, 0, 1, 13, 2, 3, 4, 5, 6, 7, 8, 9, 10, 11] rfl rfl ?_
        exact ret _ _ _ _ _ _ dX9_hidden_46 rfl rfl (fun h => by cases h) (gPxi_e (at3_1, st3_1, so3_1, va3_1, fa3_1, rP A, P3_1) (by rw [(show o_hidden A p s = (-2, 0) from (if_pos h4).trans (if_neg (by omega)))]) (by rw [(show o_hidden A p s = (-2, 0) from (if_pos h4).trans (if_neg (by omega)))]; rfl) trivial)
  · refine g_aload_n (pc := 7) X dX9_hidden_7 0 rfl ?_
    refine g_bipush (pc := 8) X dX9_hidden_8 (by decide +kernel) ?_
    refine gc_Vxi (pc := 10) X (wr := [gA cI (a 0) 1140 A, gA cZ (a 1) 2 kp, gA cI (a 3) 6 lk_, gA cI (a 5) 60 sh, gA cI (a 12) 8 (fun j => P3_1 (0 + j)), gA cI (a 13) 8 (fun j => P3_1 (8 + j)), gA cI (a 14) 8 (fun j => P3_1 (16 + j)), gA cI (a 15) 8 (fun j => P3_1 (24 + j)), gA cI (a 16) 8 (fun j => P3_1 (32 + j)), gA cI (a 17) 2048 le, gA cI (a 18) 41 lg, gA cI (a 19) 112 bg]) (c_X9_refuse l D cI cZ q a al at3_1 st3_1 so3_1 va3_1 fa3_1 pl3_1 sg su rf (-3) (by omega)) lm_X9_54 dX9_hidden_10 [0, 3] [1, 2, 4, 5, 6, 7, 8, 9, 10, 11, 12, 13] rfl rfl rfl rfl (by decide) rfl rfl rfl rfl rfl rfl (fun x10 hx10 => ?_)
    refine g_pick (cn := 0) (sl := 0) (st := gi (-3) :: []) X (ws' := [oM q a al at3_1 st3_1 so3_1 va3_1 fa3_1 pl3_1 sg su, gA cI (a 0) 1140 A, gA cZ (a 1) 2 kp, gA cI (a 2) 3 (gupd rf (-2 - (-3)) (rf (-2 - (-3)) + 1)), gA cI (a 3) 6 lk_, gA cI (a 5) 60 sh, gA cI (a 12) 8 (fun j => P3_1 (0 + j)), gA cI (a 13) 8 (fun j => P3_1 (8 + j)), gA cI (a 14) 8 (fun j => P3_1 (16 + j)), gA cI (a 15) 8 (fun j => P3_1 (24 + j)), gA cI (a 16) 8 (fun j => P3_1 (32 + j)), gA cI (a 17) 2048 le, gA cI (a 18) 41 lg, gA cI (a 19) 112 bg]) [12, 0, 1, 13, 2, 3, 4, 5, 6, 7, 8, 9, 10, 11] rfl rfl ?_
    exact ret _ _ _ _ _ _ dX9_hidden_13 rfl rfl (fun h => by cases h) (gPxi_e (_, _, _, _, _, _, _) (by rw [(show o_hidden A p s = (-3, 1) from if_neg h4)]) (by rw [(show o_hidden A p s = (-3, 1) from if_neg h4)]; rfl) trivial)

set_option maxHeartbeats 4000000 in
set_option maxRecDepth 100000 in
theorem c_X9_unheard (l : Launch) (D : va_G) (cI cZ : ClassId) (q : Nat) (a : Nat → Nat) (al : Int) (at_ : Int) (st : Int) (so : Int) (va : Int) (fa : Int) (pl : Int) (sg : Int) (su : Int) (A : Int → Int) (kp : Int → Int) (rf : Int → Int) (lk_ : Int → Int) (sh : Int → Int) (pi : Int → Int) (th : Int → Int) (fl : Int → Int) (so_ : Int → Int) (fr : Int → Int) (le : Int → Int) (lg : Int → Int) (bg : Int → Int) (hA : okA A) : GM l D cI cZ yX9_unheard cX9_unheard 3 (some .int) ({ frames := 6, cells := 0, slots := 0, locals := 150 }) 0 0 false [.ref q] [oM q a al at_ st so va fa pl sg su, gA cI (a 0) 1140 A, gA cZ (a 1) 2 kp, gA cI (a 2) 3 rf, gA cI (a 3) 6 lk_, gA cI (a 5) 60 sh, gA cI (a 12) 8 pi, gA cI (a 13) 8 th, gA cI (a 14) 8 fl, gA cI (a 15) 8 so_, gA cI (a 16) 8 fr, gA cI (a 17) 2048 le, gA cI (a 18) 41 lg, gA cI (a 19) 112 bg] (gPxi (fun xo : (Int) × (Int) × (Int) × (Int) × (Int) × (Int) × (Int → Int) => (o_unh A).1) (fun xo : (Int) × (Int) × (Int) × (Int) × (Int) × (Int) × (Int → Int) => [oM q a al xo.1 xo.2.1 xo.2.2.1 xo.2.2.2.1 xo.2.2.2.2.1 xo.2.2.2.2.2.1 sg su, gA cI (a 0) 1140 A, gA cZ (a 1) 2 kp, gA cI (a 2) 3 (bump ((o_unh A).2) rf), gA cI (a 3) 6 lk_, gA cI (a 5) 60 sh, gA cI (a 12) 8 (fun j => xo.2.2.2.2.2.2 (0 + j)), gA cI (a 13) 8 (fun j => xo.2.2.2.2.2.2 (8 + j)), gA cI (a 14) 8 (fun j => xo.2.2.2.2.2.2 (16 + j)), gA cI (a 15) 8 (fun j => xo.2.2.2.2.2.2 (24 + j)), gA cI (a 16) 8 (fun j => xo.2.2.2.2.2.2 (32 + j)), gA cI (a 17) 2048 le, gA cI (a 18) 41 lg, gA cI (a 19) 112 bg]) (fun xo : (Int) × (Int) × (Int) × (Int) × (Int) × (Int) × (Int → Int) => True)) := by
  refine g_enterI (z := false) (lv0 := [(0, .ref q)]) _ rfl (by decide) rfl rfl (fun V X ret => ?_)
  have hA1 := okA_1 hA
  have hA0 := okA_0 hA
  have hpu := okA_pu hA
  have hA2 := okA_2 hA
  refine g_ws (ws' := [oM q a al at_ st so va fa pl sg su, gA cI (a 0) 1140 A, gA cZ (a 1) 2 kp, gA cI (a 2) 3 rf, gA cI (a 3) 6 lk_, gA cI (a 5) 60 sh, gA cI (a 12) 8 (fun j => (pk5 pi th fl so_ fr) (0 + j)), gA cI (a 13) 8 (fun j => (pk5 pi th fl so_ fr) (8 + j)), gA cI (a 14) 8 (fun j => (pk5 pi th fl so_ fr) (16 + j)), gA cI (a 15) 8 (fun j => (pk5 pi th fl so_ fr) (24 + j)), gA cI (a 16) 8 (fun j => (pk5 pi th fl so_ fr) (32 + j)), gA cI (a 17) 2048 le, gA cI (a 18) 41 lg, gA cI (a 19) 112 bg]) (by rw [(show gA cI (a 12) 8 (pi) = gA cI (a 12) 8 (fun j => (pk5 pi th fl so_ fr) (0 + j)) from gA_ext (fun j j0 j1 => (by unfold pk5; (try dsimp only); (repeat' split) <;> first | exact congrArg _ (by omega) | (exfalso; omega)))), (show gA cI (a 13) 8 (th) = gA cI (a 13) 8 (fun j => (pk5 pi th fl so_ fr) (8 + j)) from gA_ext (fun j j0 j1 => (by unfold pk5; (try dsimp only); (repeat' split) <;> first | exact congrArg _ (by omega) | (exfalso; omega)))), (show gA cI (a 14) 8 (fl) = gA cI (a 14) 8 (fun j => (pk5 pi th fl so_ fr) (16 + j)) from gA_ext (fun j j0 j1 => (by unfold pk5; (try dsimp only); (repeat' split) <;> first | exact congrArg _ (by omega) | (exfalso; omega)))), (show gA cI (a 15) 8 (so_) = gA cI (a 15) 8 (fun j => (pk5 pi th fl so_ fr) (24 + j)) from gA_ext (fun j j0 j1 => (by unfold pk5; (try dsimp only); (repeat' split) <;> first | exact congrArg _ (by omega) | (exfalso; omega)))), (show gA cI (a 16) 8 (fr) = gA cI (a 16) 8 (fun j => (pk5 pi th fl so_ fr) (32 + j)) from gA_ext (fun j j0 j1 => (by unfold pk5; (try dsimp only); (repeat' split) <;> first | exact congrArg _ (by omega) | (exfalso; omega))))]) ?_
  refine g_aload_n (pc := 0) X dX9_unheard_0 0 rfl ?_
  refine gc_Vxi (pc := 1) X (wr := [gA cZ (a 1) 2 kp, gA cI (a 2) 3 rf, gA cI (a 3) 6 lk_, gA cI (a 5) 60 sh, gA cI (a 17) 2048 le, gA cI (a 18) 41 lg, gA cI (a 19) 112 bg]) (c_X9_readReel l D cI cZ q a al at_ st so va fa pl sg su A (pk5 pi th fl so_ fr) hA) lm_X9_157 dX9_unheard_1 [0, 1, 6, 7, 8, 9, 10] [2, 3, 4, 5, 11, 12, 13] rfl rfl rfl rfl (by decide) rfl rfl rfl rfl rfl rfl (fun x1 hx1 => ?_)
  obtain ⟨at3_1, st3_1, so3_1, va3_1, fa3_1, pl3_1, P3_1⟩ := x1
  have hr_1 : rdS A fa3_1 pl3_1 P3_1 := hx1
  refine g_pick (cn := 0) (sl := 0) (st := gi (gB (rF A = -1)) :: []) X (ws' := [oM q a al at3_1 st3_1 so3_1 va3_1 fa3_1 pl3_1 sg su, gA cI (a 0) 1140 A, gA cZ (a 1) 2 kp, gA cI (a 2) 3 rf, gA cI (a 3) 6 lk_, gA cI (a 5) 60 sh, gA cI (a 12) 8 (fun j => P3_1 (0 + j)), gA cI (a 13) 8 (fun j => P3_1 (8 + j)), gA cI (a 14) 8 (fun j => P3_1 (16 + j)), gA cI (a 15) 8 (fun j => P3_1 (24 + j)), gA cI (a 16) 8 (fun j => P3_1 (32 + j)), gA cI (a 17) 2048 le, gA cI (a 18) 41 lg, gA cI (a 19) 112 bg]) [7, 8, 0, 1, 2, 3, 9, 10, 11, 12, 13, 4, 5, 6] rfl rfl ?_
  refine g_ifneB (pc := 4) X 14 dX9_unheard_4 (by decide) (fun h4 => ?_) (fun h4 => ?_)
  · have hrd := hr_1.2 h4
    have hn1 := hrd.1
    have hpb := rP_b hA2.1 h4
    have hrg : ∀ j, 0 ≤ j → j < rP A → rgR (A 0) P3_1 j := fun j j0 j1 => rgR_c (hrd.2 j j0 j1) (rR_b hA2.1 h4 ⟨j0, j1⟩)
    have hpw := pw_b (k := rP A) (c := 8) (C := 256) rfl (by omega)
    refine g_ws (ws' := [oM q a al at3_1 st3_1 so3_1 va3_1 fa3_1 (rP A) sg su, gA cI (a 0) 1140 A, gA cZ (a 1) 2 kp, gA cI (a 2) 3 rf, gA cI (a 3) 6 lk_, gA cI (a 5) 60 sh, gA cI (a 12) 8 (fun j => P3_1 (0 + j)), gA cI (a 13) 8 (fun j => P3_1 (8 + j)), gA cI (a 14) 8 (fun j => P3_1 (16 + j)), gA cI (a 15) 8 (fun j => P3_1 (24 + j)), gA cI (a 16) 8 (fun j => P3_1 (32 + j)), gA cI (a 17) 2048 le, gA cI (a 18) 41 lg, gA cI (a 19) 112 bg]) (by rw [hn1]) ?_
    refine g_iconst (pc := 14) X dX9_unheard_14 ?_
    refine g_istore_n (pc := 15) X (lv' := [(0, .ref q), (1, gi 0)]) dX9_unheard_15 rfl rfl ?_
    refine g_iconst (pc := 16) X dX9_unheard_16 ?_
    refine g_istore_n (pc := 17) X (lv' := [(0, .ref q), (1, gi 0), (2, gi 0)]) dX9_unheard_17 rfl rfl ?_
    have L18 : ∀ (n18 : Nat) (x : Int) (p : Int), (0 ≤ p ∧ p ≤ rP A) → (0 ≤ x ∧ x < 2 ^ p.toNat) → (x = unh A P3_1 (rP A) p) → (rP A - p).toNat < n18 → V 0 0 [oM q a al at3_1 st3_1 so3_1 va3_1 fa3_1 (rP A) sg su, gA cI (a 0) 1140 A, gA cZ (a 1) 2 kp, gA cI (a 2) 3 rf, gA cI (a 3) 6 lk_, gA cI (a 5) 60 sh, gA cI (a 12) 8 (fun j => P3_1 (0 + j)), gA cI (a 13) 8 (fun j => P3_1 (8 + j)), gA cI (a 14) 8 (fun j => P3_1 (16 + j)), gA cI (a 15) 8 (fun j => P3_1 (24 + j)), gA cI (a 16) 8 (fun j => P3_1 (32 + j)), gA cI (a 17) 2048 le, gA cI (a 18) 41 lg, gA cI (a 19) 112 bg] 18 [(0, .ref q), (1, gi x), (2, gi p)] [] := by
      intro n18
      induction n18 with
      | zero => intro x p hp hxb hx hn18; exact absurd hn18 (Nat.not_lt_zero _)
      | succ n18 ih18 =>
        intro x p hp hxb hx hn18
        have hpp := pw_b (k := p) (c := 8) (C := 256) rfl (by omega)
        have hbn := hidB_n A P3_1 (rP A) p (1 * 2 ^ (rP A).toNat - 1)
        refine g_iload_n (pc := 18) X dX9_unheard_18 2 rfl ?_
        refine g_aload_n (pc := 19) X dX9_unheard_19 0 rfl ?_
        refine g_get (pc := 20) X fl_X9_151 dX9_unheard_20 0 (v := gi (rP A)) rfl rfl ?_
        refine g_icmpge (pc := 23) X 54 dX9_unheard_23 (by decide) (by omega) (by omega) (fun h23 => ?_) (fun h23 => ?_)
        · refine g_iload_n (pc := 54) X dX9_unheard_54 1 rfl ?_
          exact ret _ _ _ _ _ _ dX9_unheard_55 rfl rfl (fun h => by cases h) (gPxi_e (at3_1, st3_1, so3_1, va3_1, fa3_1, rP A, P3_1) (by rw [(show o_unh A = (unh A (rR A) (rP A) (rP A), -1) from if_pos h4)]; rw [hx, show p = rP A by omega, unh_c hrd.2 (Int.le_refl _)]) (by rw [(show o_unh A = (unh A (rR A) (rP A) (rP A), -1) from if_pos h4)]; rfl) trivial)
        · refine g_iload_n (pc := 26) X dX9_unheard_26 1 rfl ?_
          refine g_aload_n (pc := 27) X dX9_unheard_27 0 rfl ?_
          refine g_iload_n (pc := 28) X dX9_unheard_28 2 rfl ?_
          refine g_aload_n (pc := 29) X dX9_unheard_29 0 rfl ?_
          refine gc_Vi (pc := 30) X (c_X9_allPlaces l D cI cZ q a al at3_1 st3_1 so3_1 va3_1 fa3_1 (rP A) sg su (by omega)) lm_X9_164 dX9_unheard_30 [0] rfl rfl rfl rfl rfl rfl rfl rfl ?_
          refine gc_Vi (pc := 33) X (c_X9_isHidden l D cI cZ q a al at3_1 st3_1 so3_1 va3_1 fa3_1 (rP A) sg su A P3_1 p (1 * 2 ^ (rP A).toNat - 1) hA (by omega) hrg (by omega) (by omega)) lm_X9_167 dX9_unheard_33 [0, 1, 6, 7, 10] rfl rfl rfl rfl rfl rfl rfl rfl ?_
          refine g_ifeq (pc := 36) X 45 dX9_unheard_36 (by decide) (by omega) (fun h36 => ?_) (fun h36 => ?_)
          · refine g_iconst (pc := 45) X dX9_unheard_45 ?_
            refine g_ior (pc := 46) X (r := x) dX9_unheard_46 (by rw [show iI 0 = (0 : Int32) from rfl]; exact Int32.or_zero) ?_
            refine g_istore_n (pc := 47) X (lv' := [(0, .ref q), (1, gi x), (2, gi p)]) dX9_unheard_47 rfl rfl ?_
            refine g_iinc (pc := 48) X (lv' := [(0, .ref q), (1, gi x), (2, gi (p + 1))]) dX9_unheard_48 2 rfl rfl rfl ?_
            refine g_goto (pc := 51) X 18 dX9_unheard_51 (by decide) ?_
            exact ih18 _ _ (by omega) (by rw [pw_s hp.1]; omega) (by rw [unh_s hp.1, ← hx]; first | rw [if_pos (by omega)] | rw [if_neg (by omega), Int.add_zero]) (by omega)
          · refine g_iconst (pc := 39) X dX9_unheard_39 ?_
            refine g_iload_n (pc := 40) X dX9_unheard_40 2 rfl ?_
            refine g_ishl (pc := 41) X dX9_unheard_41 (by omega) (by omega) (by omega) ?_
            refine g_goto (pc := 42) X 46 dX9_unheard_42 (by decide) ?_
            refine g_ior (pc := 46) X (r := x + (2 ^ p.toNat)) dX9_unheard_46 (iI_orp hxb) ?_
            refine g_istore_n (pc := 47) X (lv' := [(0, .ref q), (1, gi (x + (2 ^ p.toNat))), (2, gi p)]) dX9_unheard_47 rfl rfl ?_
            refine g_iinc (pc := 48) X (lv' := [(0, .ref q), (1, gi (x + (2 ^ p.toNat))), (2, gi (p + 1))]) dX9_unheard_48 2 rfl rfl rfl ?_
            refine g_goto (pc := 51) X 18 dX9_unheard_51 (by decide) ?_
            exact ih18 _ _ (by omega) (by rw [pw_s hp.1]; omega) (by rw [unh_s hp.1, ← hx]; first | rw [if_pos (by omega)] | rw [if_neg (by omega), Int.add_zero]) (by omega)
    exact L18 _ _ _ (by omega) (by decide) (by rfl) (Nat.lt_succ_self _)
  · refine g_aload_n (pc := 7) X dX9_unheard_7 0 rfl ?_
    refine g_bipush (pc := 8) X dX9_unheard_8 (by decide +kernel) ?_
    refine gc_Vxi (pc := 10) X (wr := [gA cI (a 0) 1140 A, gA cZ (a 1) 2 kp, gA cI (a 3) 6 lk_, gA cI (a 5) 60 sh, gA cI (a 12) 8 (fun j => P3_1 (0 + j)), gA cI (a 13) 8 (fun j => P3_1 (8 + j)), gA cI (a 14) 8 (fun j => P3_1 (16 + j)), gA cI (a 15) 8 (fun j => P3_1 (24 + j)), gA cI (a 16) 8 (fun j => P3_1 (32 + j)), gA cI (a 17) 2048 le, gA cI (a 18) 41 lg, gA cI (a 19) 112 bg]) (c_X9_refuse l D cI cZ q a al at3_1 st3_1 so3_1 va3_1 fa3_1 pl3_1 sg su rf (-3) (by omega)) lm_X9_54 dX9_unheard_10 [0, 3] [1, 2, 4, 5, 6, 7, 8, 9, 10, 11, 12, 13] rfl rfl rfl rfl (by decide) rfl rfl rfl rfl rfl rfl (fun x10 hx10 => ?_)
    refine g_pick (cn := 0) (sl := 0) (st := gi (-3) :: []) X (ws' := [oM q a al at3_1 st3_1 so3_1 va3_1 fa3_1 pl3_1 sg su, gA cI (a 0) 1140 A, gA cZ (a 1) 2 kp, gA cI (a 2) 3 (gupd rf (-2 - (-3)) (rf (-2 - (-3)) + 1)), gA cI (a 3) 6 lk_, gA cI (a 5) 60 sh, gA cI (a 12) 8 (fun j => P3_1 (0 + j)), gA cI (a 13) 8 (fun j => P3_1 (8 + j)), gA cI (a 14) 8 (fun j => P3_1 (16 + j)), gA cI (a 15) 8 (fun j => P3_1 (24 + j)), gA cI (a 16) 8 (fun j => P3_1 (32 + j)), gA cI (a 17) 2048 le, gA cI (a 18) 41 lg, gA cI (a 19) 112 bg]) [12, 0, 1, 13, 2, 3, 4, 5, 6, 7, 8, 9, 10, 11] rfl rfl ?_
    exact ret _ _ _ _ _ _ dX9_unheard_13 rfl rfl (fun h => by cases h) (gPxi_e (_, _, _, _, _, _, _) (by rw [(show o_unh A = (-3, 1) from if_neg h4)]) (by rw [(show o_unh A = (-3, 1) from if_neg h4)]; rfl) trivial)

set_option maxHeartbeats 4000000 in
set_option maxRecDepth 100000 in
theorem c_X9_kept (l : Launch) (D : va_G) (cI cZ : ClassId) (q : Nat) (a : Nat → Nat) (al : Int) (at_ : Int) (st : Int) (so : Int) (va : Int) (fa : Int) (pl : Int) (sg : Int) (su : Int) (A : Int → Int) (kp : Int → Int) (rf : Int → Int) (lk_ : Int → Int) (sh : Int → Int) (pi : Int → Int) (th : Int → Int) (fl : Int → Int) (so_ : Int → Int) (fr : Int → Int) (le : Int → Int) (lg : Int → Int) (bg : Int → Int) (hA : okA A) : GM l D cI cZ yX9_kept cX9_kept 5 (some .int) ({ frames := 6, cells := 0, slots := 0, locals := 150 }) 0 0 false [.ref q] [oM q a al at_ st so va fa pl sg su, gA cI (a 0) 1140 A, gA cZ (a 1) 2 kp, gA cI (a 2) 3 rf, gA cI (a 3) 6 lk_, gA cI (a 5) 60 sh, gA cI (a 12) 8 pi, gA cI (a 13) 8 th, gA cI (a 14) 8 fl, gA cI (a 15) 8 so_, gA cI (a 16) 8 fr, gA cI (a 17) 2048 le, gA cI (a 18) 41 lg, gA cI (a 19) 112 bg] (gPxi (fun xo : (Int) × (Int) × (Int) × (Int) × (Int) × (Int) × (Int → Int) => (o_kept A).1) (fun xo : (Int) × (Int) × (Int) × (Int) × (Int) × (Int) × (Int → Int) => [oM q a al xo.1 xo.2.1 xo.2.2.1 xo.2.2.2.1 xo.2.2.2.2.1 xo.2.2.2.2.2.1 sg su, gA cI (a 0) 1140 A, gA cZ (a 1) 2 kp, gA cI (a 2) 3 (bump ((o_kept A).2) rf), gA cI (a 3) 6 lk_, gA cI (a 5) 60 sh, gA cI (a 12) 8 (fun j => xo.2.2.2.2.2.2 (0 + j)), gA cI (a 13) 8 (fun j => xo.2.2.2.2.2.2 (8 + j)), gA cI (a 14) 8 (fun j => xo.2.2.2.2.2.2 (16 + j)), gA cI (a 15) 8 (fun j => xo.2.2.2.2.2.2 (24 + j)), gA cI (a 16) 8 (fun j => xo.2.2.2.2.2.2 (32 + j)), gA cI (a 17) 2048 le, gA cI (a 18) 41 lg, gA cI (a 19) 112 bg]) (fun xo : (Int) × (Int) × (Int) × (Int) × (Int) × (Int) × (Int → Int) => True)) := by
  refine g_enterI (z := false) (lv0 := [(0, .ref q)]) _ rfl (by decide) rfl rfl (fun V X ret => ?_)
  have hA1 := okA_1 hA
  have hA0 := okA_0 hA
  have hpu := okA_pu hA
  have hA2 := okA_2 hA
  refine g_ws (ws' := [oM q a al at_ st so va fa pl sg su, gA cI (a 0) 1140 A, gA cZ (a 1) 2 kp, gA cI (a 2) 3 rf, gA cI (a 3) 6 lk_, gA cI (a 5) 60 sh, gA cI (a 12) 8 (fun j => (pk5 pi th fl so_ fr) (0 + j)), gA cI (a 13) 8 (fun j => (pk5 pi th fl so_ fr) (8 + j)), gA cI (a 14) 8 (fun j => (pk5 pi th fl so_ fr) (16 + j)), gA cI (a 15) 8 (fun j => (pk5 pi th fl so_ fr) (24 + j)), gA cI (a 16) 8 (fun j => (pk5 pi th fl so_ fr) (32 + j)), gA cI (a 17) 2048 le, gA cI (a 18) 41 lg, gA cI (a 19) 112 bg]) (by rw [(show gA cI (a 12) 8 (pi) = gA cI (a 12) 8 (fun j => (pk5 pi th fl so_ fr) (0 + j)) from gA_ext (fun j j0 j1 => (by unfold pk5; (try dsimp only); (repeat' split) <;> first | exact congrArg _ (by omega) | (exfalso; omega)))), (show gA cI (a 13) 8 (th) = gA cI (a 13) 8 (fun j => (pk5 pi th fl so_ fr) (8 + j)) from gA_ext (fun j j0 j1 => (by unfold pk5; (try dsimp only); (repeat' split) <;> first | exact congrArg _ (by omega) | (exfalso; omega)))), (show gA cI (a 14) 8 (fl) = gA cI (a 14) 8 (fun j => (pk5 pi th fl so_ fr) (16 + j)) from gA_ext (fun j j0 j1 => (by unfold pk5; (try dsimp only); (repeat' split) <;> first | exact congrArg _ (by omega) | (exfalso; omega)))), (show gA cI (a 15) 8 (so_) = gA cI (a 15) 8 (fun j => (pk5 pi th fl so_ fr) (24 + j)) from gA_ext (fun j j0 j1 => (by unfold pk5; (try dsimp only); (repeat' split) <;> first | exact congrArg _ (by omega) | (exfalso; omega)))), (show gA cI (a 16) 8 (fr) = gA cI (a 16) 8 (fun j => (pk5 pi th fl so_ fr) (32 + j)) from gA_ext (fun j j0 j1 => (by unfold pk5; (try dsimp only); (repeat' split) <;> first | exact congrArg _ (by omega) | (exfalso; omega))))]) ?_
  refine g_aload_n (pc := 0) X dX9_kept_0 0 rfl ?_
  refine gc_Vxi (pc := 1) X (wr := [gA cZ (a 1) 2 kp, gA cI (a 2) 3 rf, gA cI (a 3) 6 lk_, gA cI (a 5) 60 sh, gA cI (a 17) 2048 le, gA cI (a 18) 41 lg, gA cI (a 19) 112 bg]) (c_X9_readReel l D cI cZ q a al at_ st so va fa pl sg su A (pk5 pi th fl so_ fr) hA) lm_X9_157 dX9_kept_1 [0, 1, 6, 7, 8, 9, 10] [2, 3, 4, 5, 11, 12, 13] rfl rfl rfl rfl (by decide) rfl rfl rfl rfl rfl rfl (fun x1 hx1 => ?_)
  obtain ⟨at3_1, st3_1, so3_1, va3_1, fa3_1, pl3_1, P3_1⟩ := x1
  have hr_1 : rdS A fa3_1 pl3_1 P3_1 := hx1
  refine g_pick (cn := 0) (sl := 0) (st := gi (gB (rF A = -1)) :: []) X (ws' := [oM q a al at3_1 st3_1 so3_1 va3_1 fa3_1 pl3_1 sg su, gA cI (a 0) 1140 A, gA cZ (a 1) 2 kp, gA cI (a 2) 3 rf, gA cI (a 3) 6 lk_, gA cI (a 5) 60 sh, gA cI (a 12) 8 (fun j => P3_1 (0 + j)), gA cI (a 13) 8 (fun j => P3_1 (8 + j)), gA cI (a 14) 8 (fun j => P3_1 (16 + j)), gA cI (a 15) 8 (fun j => P3_1 (24 + j)), gA cI (a 16) 8 (fun j => P3_1 (32 + j)), gA cI (a 17) 2048 le, gA cI (a 18) 41 lg, gA cI (a 19) 112 bg]) [7, 8, 0, 1, 2, 3, 9, 10, 11, 12, 13, 4, 5, 6] rfl rfl ?_
  refine g_ifneB (pc := 4) X 14 dX9_kept_4 (by decide) (fun h4 => ?_) (fun h4 => ?_)
  · have hrd := hr_1.2 h4
    have hn1 := hrd.1
    have hpb := rP_b hA2.1 h4
    have hrg : ∀ j, 0 ≤ j → j < rP A → rgR (A 0) P3_1 j := fun j j0 j1 => rgR_c (hrd.2 j j0 j1) (rR_b hA2.1 h4 ⟨j0, j1⟩)
    have hpw := pw_b (k := rP A) (c := 8) (C := 256) rfl (by omega)
    refine g_ws (ws' := [oM q a al at3_1 st3_1 so3_1 va3_1 fa3_1 (rP A) sg su, gA cI (a 0) 1140 A, gA cZ (a 1) 2 kp, gA cI (a 2) 3 rf, gA cI (a 3) 6 lk_, gA cI (a 5) 60 sh, gA cI (a 12) 8 (fun j => P3_1 (0 + j)), gA cI (a 13) 8 (fun j => P3_1 (8 + j)), gA cI (a 14) 8 (fun j => P3_1 (16 + j)), gA cI (a 15) 8 (fun j => P3_1 (24 + j)), gA cI (a 16) 8 (fun j => P3_1 (32 + j)), gA cI (a 17) 2048 le, gA cI (a 18) 41 lg, gA cI (a 19) 112 bg]) (by rw [hn1]) ?_
    refine g_aload_n (pc := 14) X dX9_kept_14 0 rfl ?_
    refine gc_Vi (pc := 15) X (c_X9_allPlaces l D cI cZ q a al at3_1 st3_1 so3_1 va3_1 fa3_1 (rP A) sg su (by omega)) lm_X9_164 dX9_kept_15 [0] rfl rfl rfl rfl rfl rfl rfl rfl ?_
    refine g_istore_n (pc := 18) X (lv' := [(0, .ref q), (1, gi (1 * 2 ^ (rP A).toNat - 1))]) dX9_kept_18 rfl rfl ?_
    refine g_iconst (pc := 19) X dX9_kept_19 ?_
    refine g_istore_n (pc := 20) X (lv' := [(0, .ref q), (1, gi (1 * 2 ^ (rP A).toNat - 1)), (2, gi 0)]) dX9_kept_20 rfl rfl ?_
    have L21 : ∀ (n21 : Nat) (x : Int) (c : Int), (0 ≤ c ∧ c ≤ 1 * 2 ^ (rP A).toNat) → (x = kpt A P3_1 (rP A) c) → (1 * 2 ^ (rP A).toNat - c).toNat < n21 → V 0 0 [oM q a al at3_1 st3_1 so3_1 va3_1 fa3_1 (rP A) sg su, gA cI (a 0) 1140 A, gA cZ (a 1) 2 kp, gA cI (a 2) 3 rf, gA cI (a 3) 6 lk_, gA cI (a 5) 60 sh, gA cI (a 12) 8 (fun j => P3_1 (0 + j)), gA cI (a 13) 8 (fun j => P3_1 (8 + j)), gA cI (a 14) 8 (fun j => P3_1 (16 + j)), gA cI (a 15) 8 (fun j => P3_1 (24 + j)), gA cI (a 16) 8 (fun j => P3_1 (32 + j)), gA cI (a 17) 2048 le, gA cI (a 18) 41 lg, gA cI (a 19) 112 bg] 21 [(0, .ref q), (1, gi x), (2, gi c)] [] := by
      intro n21
      induction n21 with
      | zero => intro x c hc hx hn21; exact absurd hn21 (Nat.not_lt_zero _)
      | succ n21 ih21 =>
        intro x c hc hx hn21
        have hxb := kpt_b (A := A) (Q := P3_1) hpb hc
        rw [← hx] at hxb
        have hb1 := bitc_b c
        have hb2 := bitc_b x
        have han := ahB_n A P3_1 (rP A) c
        refine g_iload_n (pc := 21) X dX9_kept_21 2 rfl ?_
        refine g_aload_n (pc := 22) X dX9_kept_22 0 rfl ?_
        refine gc_Vi (pc := 23) X (c_X9_allPlaces l D cI cZ q a al at3_1 st3_1 so3_1 va3_1 fa3_1 (rP A) sg su (by omega)) lm_X9_164 dX9_kept_23 [0] rfl rfl rfl rfl rfl rfl rfl rfl ?_
        refine g_icmpgt (pc := 26) X 110 dX9_kept_26 (by decide) (by omega) (by omega) (fun h26 => ?_) (fun h26 => ?_)
        · refine g_iload_n (pc := 110) X dX9_kept_110 1 rfl ?_
          exact ret _ _ _ _ _ _ dX9_kept_111 rfl rfl (fun h => by cases h) (gPxi_e (at3_1, st3_1, so3_1, va3_1, fa3_1, rP A, P3_1) (by rw [(show o_kept A = (kpt A (rR A) (rP A) (1 * 2 ^ (rP A).toNat), -1) from if_pos h4)]; rw [hx, show c = 1 * 2 ^ (rP A).toNat by omega, kpt_c hrd.2]) (by rw [(show o_kept A = (kpt A (rR A) (rP A) (1 * 2 ^ (rP A).toNat), -1) from if_pos h4)]; rfl) trivial)
        · refine g_iload_n (pc := 29) X dX9_kept_29 2 rfl ?_
          refine gc_Si (pc := 30) X (c_X9_bitsIn l D cI cZ c (by omega)) lm_X9_116 dX9_kept_30 [] rfl rfl rfl rfl rfl rfl ?_
          refine g_iload_n (pc := 33) X dX9_kept_33 1 rfl ?_
          refine gc_Si (pc := 34) X (c_X9_bitsIn l D cI cZ x (by omega)) lm_X9_116 dX9_kept_34 [] rfl rfl rfl rfl rfl rfl ?_
          refine g_icmpge (pc := 37) X 44 dX9_kept_37 (by decide) (by omega) (by omega) (fun h37 => ?_) (fun h37 => ?_)
          · refine g_iconst (pc := 44) X dX9_kept_44 ?_
            refine g_istore_n (pc := 45) X (lv' := [(0, .ref q), (1, gi x), (2, gi c), (3, gi 0)]) dX9_kept_45 rfl rfl ?_
            refine g_iconst (pc := 46) X dX9_kept_46 ?_
            refine g_istore (pc := 47) X (lv' := [(0, .ref q), (1, gi x), (2, gi c), (3, gi 0), (4, gi 0)]) dX9_kept_47 rfl rfl ?_
            have L49 : ∀ (n49 : Nat) (w : Int) (p : Int), (0 ≤ p ∧ p ≤ rP A) → ((w = 0 ∧ ¬ (bitc c < bitc x ∧ ahB A P3_1 (rP A) c = 1)) ∨ (w = 1 ∧ bitc c < bitc x ∧ ∀ p2, 0 ≤ p2 → p2 < p → bit c p2 = 1 ∨ hidB A P3_1 (rP A) p2 c = 1)) → (rP A - p).toNat < n49 → V 0 0 [oM q a al at3_1 st3_1 so3_1 va3_1 fa3_1 (rP A) sg su, gA cI (a 0) 1140 A, gA cZ (a 1) 2 kp, gA cI (a 2) 3 rf, gA cI (a 3) 6 lk_, gA cI (a 5) 60 sh, gA cI (a 12) 8 (fun j => P3_1 (0 + j)), gA cI (a 13) 8 (fun j => P3_1 (8 + j)), gA cI (a 14) 8 (fun j => P3_1 (16 + j)), gA cI (a 15) 8 (fun j => P3_1 (24 + j)), gA cI (a 16) 8 (fun j => P3_1 (32 + j)), gA cI (a 17) 2048 le, gA cI (a 18) 41 lg, gA cI (a 19) 112 bg] 49 [(0, .ref q), (1, gi x), (2, gi c), (3, gi w), (4, gi p)] [] := by
              intro n49
              induction n49 with
              | zero => intro w p hp hw hn49; exact absurd hn49 (Nat.not_lt_zero _)
              | succ n49 ih49 =>
                intro w p hp hw hn49
                have hbn := hidB_n A P3_1 (rP A) p c
                have hbt := bit_b c p
                refine g_iload (pc := 49) X dX9_kept_49 4 rfl ?_
                refine g_aload_n (pc := 51) X dX9_kept_51 0 rfl ?_
                refine g_get (pc := 52) X fl_X9_151 dX9_kept_52 0 (v := gi (rP A)) rfl rfl ?_
                refine g_icmpge (pc := 55) X 94 dX9_kept_55 (by decide) (by omega) (by omega) (fun h55 => ?_) (fun h55 => ?_)
                · have hwt : (w = 0 ∧ ¬ (bitc c < bitc x ∧ ahB A P3_1 (rP A) c = 1)) ∨ (w = 1 ∧ bitc c < bitc x ∧ ahB A P3_1 (rP A) c = 1) := by rcases hw with hw | hw; exact Or.inl hw; exact Or.inr ⟨hw.1, hw.2.1, ahB_t (fun p2 p0 p1 => hw.2.2 p2 p0 (by omega))⟩
                  refine g_iload_n (pc := 94) X dX9_kept_94 3 rfl ?_
                  refine g_ifeq (pc := 95) X 102 dX9_kept_95 (by decide) (by omega) (fun h95 => ?_) (fun h95 => ?_)
                  · refine g_iload_n (pc := 102) X dX9_kept_102 1 rfl ?_
                    refine g_istore_n (pc := 103) X (lv' := [(0, .ref q), (1, gi x), (2, gi c), (3, gi w), (4, gi p)]) dX9_kept_103 rfl rfl ?_
                    refine g_iinc (pc := 104) X (lv' := [(0, .ref q), (1, gi x), (2, gi (c + 1)), (3, gi w), (4, gi p)]) dX9_kept_104 2 rfl rfl rfl ?_
                    refine g_goto (pc := 107) X 21 dX9_kept_107 (by decide) ?_
                    refine g_lsub X [0, 1, 2] rfl ?_
                    exact ih21 _ _ (by omega) (by rw [kpt_s hc.1, ← hx]; rw [if_neg (fun cc => by have := hwt; omega)]) (by omega)
                  · refine g_iload_n (pc := 98) X dX9_kept_98 2 rfl ?_
                    refine g_goto (pc := 99) X 103 dX9_kept_99 (by decide) ?_
                    refine g_istore_n (pc := 103) X (lv' := [(0, .ref q), (1, gi c), (2, gi c), (3, gi w), (4, gi p)]) dX9_kept_103 rfl rfl ?_
                    refine g_iinc (pc := 104) X (lv' := [(0, .ref q), (1, gi c), (2, gi (c + 1)), (3, gi w), (4, gi p)]) dX9_kept_104 2 rfl rfl rfl ?_
                    refine g_goto (pc := 107) X 21 dX9_kept_107 (by decide) ?_
                    refine g_lsub X [0, 1, 2] rfl ?_
                    exact ih21 _ _ (by omega) (by rw [kpt_s hc.1, ← hx]; rw [if_pos (by have := hwt; omega)]) (by omega)
                · refine g_iload_n (pc := 58) X dX9_kept_58 3 rfl ?_
                  refine g_ifeq (pc := 59) X 94 dX9_kept_59 (by decide) (by omega) (fun h59 => ?_) (fun h59 => ?_)
                  · have hwt : (w = 0 ∧ ¬ (bitc c < bitc x ∧ ahB A P3_1 (rP A) c = 1)) ∨ (w = 1 ∧ bitc c < bitc x ∧ ahB A P3_1 (rP A) c = 1) := by rcases hw with hw | hw; exact Or.inl hw; omega
                    refine g_iload_n (pc := 94) X dX9_kept_94 3 rfl ?_
                    refine g_ifeq (pc := 95) X 102 dX9_kept_95 (by decide) (by omega) (fun h95 => ?_) (fun h95 => ?_)
                    · refine g_iload_n (pc := 102) X dX9_kept_102 1 rfl ?_
                      refine g_istore_n (pc := 103) X (lv' := [(0, .ref q), (1, gi x), (2, gi c), (3, gi w), (4, gi p)]) dX9_kept_103 rfl rfl ?_
                      refine g_iinc (pc := 104) X (lv' := [(0, .ref q), (1, gi x), (2, gi (c + 1)), (3, gi w), (4, gi p)]) dX9_kept_104 2 rfl rfl rfl ?_
                      refine g_goto (pc := 107) X 21 dX9_kept_107 (by decide) ?_
                      refine g_lsub X [0, 1, 2] rfl ?_
                      exact ih21 _ _ (by omega) (by rw [kpt_s hc.1, ← hx]; rw [if_neg (fun cc => by have := hwt; omega)]) (by omega)
                    · refine g_iload_n (pc := 98) X dX9_kept_98 2 rfl ?_
                      refine g_goto (pc := 99) X 103 dX9_kept_99 (by decide) ?_
                      refine g_istore_n (pc := 103) X (lv' := [(0, .ref q), (1, gi c), (2, gi c), (3, gi w), (4, gi p)]) dX9_kept_103 rfl rfl ?_
                      refine g_iinc (pc := 104) X (lv' := [(0, .ref q), (1, gi c), (2, gi (c + 1)), (3, gi w), (4, gi p)]) dX9_kept_104 2 rfl rfl rfl ?_
                      refine g_goto (pc := 107) X 21 dX9_kept_107 (by decide) ?_
                      refine g_lsub X [0, 1, 2] rfl ?_
                      exact ih21 _ _ (by omega) (by rw [kpt_s hc.1, ← hx]; rw [if_pos (by have := hwt; omega)]) (by omega)
                  · have hw1 : bitc c < bitc x ∧ ∀ p2, 0 ≤ p2 → p2 < p → bit c p2 = 1 ∨ hidB A P3_1 (rP A) p2 c = 1 := by rcases hw with hw | hw; omega; exact hw.2
                    refine g_iload_n (pc := 62) X dX9_kept_62 2 rfl ?_
                    refine g_iload (pc := 63) X dX9_kept_63 4 rfl ?_
                    refine g_ishr (pc := 65) X dX9_kept_65 (by omega) (by omega) ?_
                    refine g_iconst (pc := 66) X dX9_kept_66 ?_
                    refine g_iand (pc := 67) X (r := bit c p) dX9_kept_67 (iI_bit hc.1) ?_
                    refine g_iconst (pc := 68) X dX9_kept_68 ?_
                    refine g_icmpeq (pc := 69) X 82 dX9_kept_69 (by decide) (by omega) (by omega) (fun h69 => ?_) (fun h69 => ?_)
                    · refine g_iconst (pc := 82) X dX9_kept_82 ?_
                      refine g_goto (pc := 83) X 87 dX9_kept_83 (by decide) ?_
                      refine g_istore_n (pc := 87) X (lv' := [(0, .ref q), (1, gi x), (2, gi c), (3, gi 1), (4, gi p)]) dX9_kept_87 rfl rfl ?_
                      refine g_iinc (pc := 88) X (lv' := [(0, .ref q), (1, gi x), (2, gi c), (3, gi 1), (4, gi (p + 1))]) dX9_kept_88 4 rfl rfl rfl ?_
                      refine g_goto (pc := 91) X 49 dX9_kept_91 (by decide) ?_
                      exact ih49 _ _ (by omega) (Or.inr ⟨rfl, hw1.1, all_s (P := fun p2 => bit c p2 = 1 ∨ hidB A P3_1 (rP A) p2 c = 1) hw1.2 (by omega)⟩) (by omega)
                    · refine g_aload_n (pc := 72) X dX9_kept_72 0 rfl ?_
                      refine g_iload (pc := 73) X dX9_kept_73 4 rfl ?_
                      refine g_iload_n (pc := 75) X dX9_kept_75 2 rfl ?_
                      refine gc_Vi (pc := 76) X (c_X9_isHidden l D cI cZ q a al at3_1 st3_1 so3_1 va3_1 fa3_1 (rP A) sg su A P3_1 p c hA (by omega) hrg (by omega) (by omega)) lm_X9_167 dX9_kept_76 [0, 1, 6, 7, 10] rfl rfl rfl rfl rfl rfl rfl rfl ?_
                      refine g_ifeq (pc := 79) X 86 dX9_kept_79 (by decide) (by omega) (fun h79 => ?_) (fun h79 => ?_)
                      · refine g_iconst (pc := 86) X dX9_kept_86 ?_
                        refine g_istore_n (pc := 87) X (lv' := [(0, .ref q), (1, gi x), (2, gi c), (3, gi 0), (4, gi p)]) dX9_kept_87 rfl rfl ?_
                        refine g_iinc (pc := 88) X (lv' := [(0, .ref q), (1, gi x), (2, gi c), (3, gi 0), (4, gi (p + 1))]) dX9_kept_88 4 rfl rfl rfl ?_
                        refine g_goto (pc := 91) X 49 dX9_kept_91 (by decide) ?_
                        exact ih49 _ _ (by omega) (Or.inl ⟨rfl, fun cc => by have c1 := kp_1 cc.2 p hp.1 (by omega); omega⟩) (by omega)
                      · refine g_iconst (pc := 82) X dX9_kept_82 ?_
                        refine g_goto (pc := 83) X 87 dX9_kept_83 (by decide) ?_
                        refine g_istore_n (pc := 87) X (lv' := [(0, .ref q), (1, gi x), (2, gi c), (3, gi 1), (4, gi p)]) dX9_kept_87 rfl rfl ?_
                        refine g_iinc (pc := 88) X (lv' := [(0, .ref q), (1, gi x), (2, gi c), (3, gi 1), (4, gi (p + 1))]) dX9_kept_88 4 rfl rfl rfl ?_
                        refine g_goto (pc := 91) X 49 dX9_kept_91 (by decide) ?_
                        exact ih49 _ _ (by omega) (Or.inr ⟨rfl, hw1.1, all_s (P := fun p2 => bit c p2 = 1 ∨ hidB A P3_1 (rP A) p2 c = 1) hw1.2 (by omega)⟩) (by omega)
            exact L49 _ _ _ (by omega) (Or.inl ⟨rfl, fun cc => by omega⟩) (Nat.lt_succ_self _)
          · refine g_iconst (pc := 40) X dX9_kept_40 ?_
            refine g_goto (pc := 41) X 45 dX9_kept_41 (by decide) ?_
            refine g_istore_n (pc := 45) X (lv' := [(0, .ref q), (1, gi x), (2, gi c), (3, gi 1)]) dX9_kept_45 rfl rfl ?_
            refine g_iconst (pc := 46) X dX9_kept_46 ?_
            refine g_istore (pc := 47) X (lv' := [(0, .ref q), (1, gi x), (2, gi c), (3, gi 1), (4, gi 0)]) dX9_kept_47 rfl rfl ?_
            have L49 : ∀ (n49 : Nat) (w : Int) (p : Int), (0 ≤ p ∧ p ≤ rP A) → ((w = 0 ∧ ¬ (bitc c < bitc x ∧ ahB A P3_1 (rP A) c = 1)) ∨ (w = 1 ∧ bitc c < bitc x ∧ ∀ p2, 0 ≤ p2 → p2 < p → bit c p2 = 1 ∨ hidB A P3_1 (rP A) p2 c = 1)) → (rP A - p).toNat < n49 → V 0 0 [oM q a al at3_1 st3_1 so3_1 va3_1 fa3_1 (rP A) sg su, gA cI (a 0) 1140 A, gA cZ (a 1) 2 kp, gA cI (a 2) 3 rf, gA cI (a 3) 6 lk_, gA cI (a 5) 60 sh, gA cI (a 12) 8 (fun j => P3_1 (0 + j)), gA cI (a 13) 8 (fun j => P3_1 (8 + j)), gA cI (a 14) 8 (fun j => P3_1 (16 + j)), gA cI (a 15) 8 (fun j => P3_1 (24 + j)), gA cI (a 16) 8 (fun j => P3_1 (32 + j)), gA cI (a 17) 2048 le, gA cI (a 18) 41 lg, gA cI (a 19) 112 bg] 49 [(0, .ref q), (1, gi x), (2, gi c), (3, gi w), (4, gi p)] [] := by
              intro n49
              induction n49 with
              | zero => intro w p hp hw hn49; exact absurd hn49 (Nat.not_lt_zero _)
              | succ n49 ih49 =>
                intro w p hp hw hn49
                have hbn := hidB_n A P3_1 (rP A) p c
                have hbt := bit_b c p
                refine g_iload (pc := 49) X dX9_kept_49 4 rfl ?_
                refine g_aload_n (pc := 51) X dX9_kept_51 0 rfl ?_
                refine g_get (pc := 52) X fl_X9_151 dX9_kept_52 0 (v := gi (rP A)) rfl rfl ?_
                refine g_icmpge (pc := 55) X 94 dX9_kept_55 (by decide) (by omega) (by omega) (fun h55 => ?_) (fun h55 => ?_)
                · have hwt : (w = 0 ∧ ¬ (bitc c < bitc x ∧ ahB A P3_1 (rP A) c = 1)) ∨ (w = 1 ∧ bitc c < bitc x ∧ ahB A P3_1 (rP A) c = 1) := by rcases hw with hw | hw; exact Or.inl hw; exact Or.inr ⟨hw.1, hw.2.1, ahB_t (fun p2 p0 p1 => hw.2.2 p2 p0 (by omega))⟩
                  refine g_iload_n (pc := 94) X dX9_kept_94 3 rfl ?_
                  refine g_ifeq (pc := 95) X 102 dX9_kept_95 (by decide) (by omega) (fun h95 => ?_) (fun h95 => ?_)
                  · refine g_iload_n (pc := 102) X dX9_kept_102 1 rfl ?_
                    refine g_istore_n (pc := 103) X (lv' := [(0, .ref q), (1, gi x), (2, gi c), (3, gi w), (4, gi p)]) dX9_kept_103 rfl rfl ?_
                    refine g_iinc (pc := 104) X (lv' := [(0, .ref q), (1, gi x), (2, gi (c + 1)), (3, gi w), (4, gi p)]) dX9_kept_104 2 rfl rfl rfl ?_
                    refine g_goto (pc := 107) X 21 dX9_kept_107 (by decide) ?_
                    refine g_lsub X [0, 1, 2] rfl ?_
                    exact ih21 _ _ (by omega) (by rw [kpt_s hc.1, ← hx]; rw [if_neg (fun cc => by have := hwt; omega)]) (by omega)
                  · refine g_iload_n (pc := 98) X dX9_kept_98 2 rfl ?_
                    refine g_goto (pc := 99) X 103 dX9_kept_99 (by decide) ?_
                    refine g_istore_n (pc := 103) X (lv' := [(0, .ref q), (1, gi c), (2, gi c), (3, gi w), (4, gi p)]) dX9_kept_103 rfl rfl ?_
                    refine g_iinc (pc := 104) X (lv' := [(0, .ref q), (1, gi c), (2, gi (c + 1)), (3, gi w), (4, gi p)]) dX9_kept_104 2 rfl rfl rfl ?_
                    refine g_goto (pc := 107) X 21 dX9_kept_107 (by decide) ?_
                    refine g_lsub X [0, 1, 2] rfl ?_
                    exact ih21 _ _ (by omega) (by rw [kpt_s hc.1, ← hx]; rw [if_pos (by have := hwt; omega)]) (by omega)
                · refine g_iload_n (pc := 58) X dX9_kept_58 3 rfl ?_
                  refine g_ifeq (pc := 59) X 94 dX9_kept_59 (by decide) (by omega) (fun h59 => ?_) (fun h59 => ?_)
                  · have hwt : (w = 0 ∧ ¬ (bitc c < bitc x ∧ ahB A P3_1 (rP A) c = 1)) ∨ (w = 1 ∧ bitc c < bitc x ∧ ahB A P3_1 (rP A) c = 1) := by rcases hw with hw | hw; exact Or.inl hw; omega
                    refine g_iload_n (pc := 94) X dX9_kept_94 3 rfl ?_
                    refine g_ifeq (pc := 95) X 102 dX9_kept_95 (by decide) (by omega) (fun h95 => ?_) (fun h95 => ?_)
                    · refine g_iload_n (pc := 102) X dX9_kept_102 1 rfl ?_
                      refine g_istore_n (pc := 103) X (lv' := [(0, .ref q), (1, gi x), (2, gi c), (3, gi w), (4, gi p)]) dX9_kept_103 rfl rfl ?_
                      refine g_iinc (pc := 104) X (lv' := [(0, .ref q), (1, gi x), (2, gi (c + 1)), (3, gi w), (4, gi p)]) dX9_kept_104 2 rfl rfl rfl ?_
                      refine g_goto (pc := 107) X 21 dX9_kept_107 (by decide) ?_
                      refine g_lsub X [0, 1, 2] rfl ?_
                      exact ih21 _ _ (by omega) (by rw [kpt_s hc.1, ← hx]; rw [if_neg (fun cc => by have := hwt; omega)]) (by omega)
                    · refine g_iload_n (pc := 98) X dX9_kept_98 2 rfl ?_
                      refine g_goto (pc := 99) X 103 dX9_kept_99 (by decide) ?_
                      refine g_istore_n (pc := 103) X (lv' := [(0, .ref q), (1, gi c), (2, gi c), (3, gi w), (4, gi p)]) dX9_kept_103 rfl rfl ?_
                      refine g_iinc (pc := 104) X (lv' := [(0, .ref q), (1, gi c), (2, gi (c + 1)), (3, gi w), (4, gi p)]) dX9_kept_104 2 rfl rfl rfl ?_
                      refine g_goto (pc := 107) X 21 dX9_kept_107 (by decide) ?_
                      refine g_lsub X [0, 1, 2] rfl ?_
                      exact ih21 _ _ (by omega) (by rw [kpt_s hc.1, ← hx]; rw [if_pos (by have := hwt; omega)]) (by omega)
                  · have hw1 : bitc c < bitc x ∧ ∀ p2, 0 ≤ p2 → p2 < p → bit c p2 = 1 ∨ hidB A P3_1 (rP A) p2 c = 1 := by rcases hw with hw | hw; omega; exact hw.2
                    refine g_iload_n (pc := 62) X dX9_kept_62 2 rfl ?_
                    refine g_iload (pc := 63) X dX9_kept_63 4 rfl ?_
                    refine g_ishr (pc := 65) X dX9_kept_65 (by omega) (by omega) ?_
                    refine g_iconst (pc := 66) X dX9_kept_66 ?_
                    refine g_iand (pc := 67) X (r := bit c p) dX9_kept_67 (iI_bit hc.1) ?_
                    refine g_iconst (pc := 68) X dX9_kept_68 ?_
                    refine g_icmpeq (pc := 69) X 82 dX9_kept_69 (by decide) (by omega) (by omega) (fun h69 => ?_) (fun h69 => ?_)
                    · refine g_iconst (pc := 82) X dX9_kept_82 ?_
                      refine g_goto (pc := 83) X 87 dX9_kept_83 (by decide) ?_
                      refine g_istore_n (pc := 87) X (lv' := [(0, .ref q), (1, gi x), (2, gi c), (3, gi 1), (4, gi p)]) dX9_kept_87 rfl rfl ?_
                      refine g_iinc (pc := 88) X (lv' := [(0, .ref q), (1, gi x), (2, gi c), (3, gi 1), (4, gi (p + 1))]) dX9_kept_88 4 rfl rfl rfl ?_
                      refine g_goto (pc := 91) X 49 dX9_kept_91 (by decide) ?_
                      exact ih49 _ _ (by omega) (Or.inr ⟨rfl, hw1.1, all_s (P := fun p2 => bit c p2 = 1 ∨ hidB A P3_1 (rP A) p2 c = 1) hw1.2 (by omega)⟩) (by omega)
                    · refine g_aload_n (pc := 72) X dX9_kept_72 0 rfl ?_
                      refine g_iload (pc := 73) X dX9_kept_73 4 rfl ?_
                      refine g_iload_n (pc := 75) X dX9_kept_75 2 rfl ?_
                      refine gc_Vi (pc := 76) X (c_X9_isHidden l D cI cZ q a al at3_1 st3_1 so3_1 va3_1 fa3_1 (rP A) sg su A P3_1 p c hA (by omega) hrg (by omega) (by omega)) lm_X9_167 dX9_kept_76 [0, 1, 6, 7, 10] rfl rfl rfl rfl rfl rfl rfl rfl ?_
                      refine g_ifeq (pc := 79) X 86 dX9_kept_79 (by decide) (by omega) (fun h79 => ?_) (fun h79 => ?_)
                      · refine g_iconst (pc := 86) X dX9_kept_86 ?_
                        refine g_istore_n (pc := 87) X (lv' := [(0, .ref q), (1, gi x), (2, gi c), (3, gi 0), (4, gi p)]) dX9_kept_87 rfl rfl ?_
                        refine g_iinc (pc := 88) X (lv' := [(0, .ref q), (1, gi x), (2, gi c), (3, gi 0), (4, gi (p + 1))]) dX9_kept_88 4 rfl rfl rfl ?_
                        refine g_goto (pc := 91) X 49 dX9_kept_91 (by decide) ?_
                        exact ih49 _ _ (by omega) (Or.inl ⟨rfl, fun cc => by have c1 := kp_1 cc.2 p hp.1 (by omega); omega⟩) (by omega)
                      · refine g_iconst (pc := 82) X dX9_kept_82 ?_
                        refine g_goto (pc := 83) X 87 dX9_kept_83 (by decide) ?_
                        refine g_istore_n (pc := 87) X (lv' := [(0, .ref q), (1, gi x), (2, gi c), (3, gi 1), (4, gi p)]) dX9_kept_87 rfl rfl ?_
                        refine g_iinc (pc := 88) X (lv' := [(0, .ref q), (1, gi x), (2, gi c), (3, gi 1), (4, gi (p + 1))]) dX9_kept_88 4 rfl rfl rfl ?_
                        refine g_goto (pc := 91) X 49 dX9_kept_91 (by decide) ?_
                        exact ih49 _ _ (by omega) (Or.inr ⟨rfl, hw1.1, all_s (P := fun p2 => bit c p2 = 1 ∨ hidB A P3_1 (rP A) p2 c = 1) hw1.2 (by omega)⟩) (by omega)
            exact L49 _ _ _ (by omega) (Or.inr ⟨rfl, h37, fun p2 p0 p1 => by omega⟩) (Nat.lt_succ_self _)
    exact L21 _ _ _ (by omega) (by rfl) (Nat.lt_succ_self _)
  · refine g_aload_n (pc := 7) X dX9_kept_7 0 rfl ?_
    refine g_bipush (pc := 8) X dX9_kept_8 (by decide +kernel) ?_
    refine gc_Vxi (pc := 10) X (wr := [gA cI (a 0) 1140 A, gA cZ (a 1) 2 kp, gA cI (a 3) 6 lk_, gA cI (a 5) 60 sh, gA cI (a 12) 8 (fun j => P3_1 (0 + j)), gA cI (a 13) 8 (fun j => P3_1 (8 + j)), gA cI (a 14) 8 (fun j => P3_1 (16 + j)), gA cI (a 15) 8 (fun j => P3_1 (24 + j)), gA cI (a 16) 8 (fun j => P3_1 (32 + j)), gA cI (a 17) 2048 le, gA cI (a 18) 41 lg, gA cI (a 19) 112 bg]) (c_X9_refuse l D cI cZ q a al at3_1 st3_1 so3_1 va3_1 fa3_1 pl3_1 sg su rf (-3) (by omega)) lm_X9_54 dX9_kept_10 [0, 3] [1, 2, 4, 5, 6, 7, 8, 9, 10, 11, 12, 13] rfl rfl rfl rfl (by decide) rfl rfl rfl rfl rfl rfl (fun x10 hx10 => ?_)
    refine g_pick (cn := 0) (sl := 0) (st := gi (-3) :: []) X (ws' := [oM q a al at3_1 st3_1 so3_1 va3_1 fa3_1 pl3_1 sg su, gA cI (a 0) 1140 A, gA cZ (a 1) 2 kp, gA cI (a 2) 3 (gupd rf (-2 - (-3)) (rf (-2 - (-3)) + 1)), gA cI (a 3) 6 lk_, gA cI (a 5) 60 sh, gA cI (a 12) 8 (fun j => P3_1 (0 + j)), gA cI (a 13) 8 (fun j => P3_1 (8 + j)), gA cI (a 14) 8 (fun j => P3_1 (16 + j)), gA cI (a 15) 8 (fun j => P3_1 (24 + j)), gA cI (a 16) 8 (fun j => P3_1 (32 + j)), gA cI (a 17) 2048 le, gA cI (a 18) 41 lg, gA cI (a 19) 112 bg]) [12, 0, 1, 13, 2, 3, 4, 5, 6, 7, 8, 9, 10, 11] rfl rfl ?_
    exact ret _ _ _ _ _ _ dX9_kept_13 rfl rfl (fun h => by cases h) (gPxi_e (_, _, _, _, _, _, _) (by rw [(show o_kept A = (-3, 1) from if_neg h4)]) (by rw [(show o_kept A = (-3, 1) from if_neg h4)]; rfl) trivial)
