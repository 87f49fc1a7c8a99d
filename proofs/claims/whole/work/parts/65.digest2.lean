/-! digest, 2: the class -/
def dgT (A : Int → Int) (i x : Int) : Int := dgr A (25 + 6 * i) (31 * (31 * x + A (5 + i)) + A (15 + i)) 6
def dgM (A : Int → Int) (i x : Int) : Int := dgr A (91 + 6 * i) (31 * x + A (85 + i)) 6
def dgF (A : Int → Int) (h : Int) : Int := dgr A 372 (dgr A 332 (dgr A 132 (dgr A 127 (itr (dgM A) (itr (dgT A) (dgr A 0 h 5) (A 0)) (A 1)) 5) (A 2)) (10 * A 3)) (A 4)
theorem dgr_off {A : Int → Int} {k s h n : Int} : dgr (fun j => A (k + j)) s h n = dgr A (k + s) h n := dgr_c (fun i _ _ => by (try dsimp only); exact congrArg A (by omega))
theorem okA_p5 {A : Int → Int} (hA : okA A) {j : Int} (h : 0 ≤ j ∧ j < 5) : 0 ≤ A (127 + j) ∧ A (127 + j) ≤ 2000 := by
  have p := okA_pu hA
  rcases (show j = 0 ∨ j = 1 ∨ j = 2 ∨ j = 3 ∨ j = 4 by omega) with e | e | e | e | e
  · rw [show 127 + j = 127 by omega]; omega
  · rw [show 127 + j = 128 by omega]; omega
  · rw [show 127 + j = 129 by omega]; omega
  · rw [show 127 + j = 130 by omega]; omega
  · rw [show 127 + j = 131 by omega]; omega
theorem dgr_5 {A : Int → Int} {h : Int} : 31 * (31 * (31 * (31 * (31 * h + A 0) + A 1) + A 2) + A 3) + A 4 = dgr A 0 h 5 := rfl

set_option maxHeartbeats 4000000 in
set_option maxRecDepth 100000 in
theorem c_X1_digestOn (l : Launch) (D : va_G) (cI cZ : ClassId) (q : Nat) (a : Nat → Nat) (A : Int → Int) (h : Int) (hA : okA A) : GM l D cI cZ yX1_digestOn cX1_digestOn 6 (some .long) ({ frames := 2, cells := 0, slots := 0, locals := 48 }) 0 0 true [.ref q, gl h] [oF q a (A 0) (A 1) (A 2) (A 3) (A 4), gA cI (a 1) 10 (fun j => A (5 + j)), gA cI (a 2) 10 (fun j => A (15 + j)), gA cI (a 3) 60 (fun j => A (25 + j)), gA cI (a 5) 6 (fun j => A (85 + j)), gA cI (a 6) 36 (fun j => A (91 + j)), gA cI (a 7) 5 (fun j => A (127 + j)), gA cI (a 9) 200 (fun j => A (132 + j)), gA cI (a 11) 40 (fun j => A (332 + j)), gA cI (a 13) 8 (fun j => A (372 + j))] (gPl (dgF A h)) := by
  refine g_enterL (lv0 := [(0, .ref q), (1, gl h)]) (by decide) rfl rfl (fun V X ret => ?_)
  have h0_ := okA_0 hA
  have h1_ := okA_1 hA
  have h2_ := okA_2 hA
  have h3_ := okA_3 hA
  have h4_ := okA_4 hA
  have hpu := okA_pu hA
  refine g_lload_n (pc := 0) X dX1_digestOn_0 1 rfl ?_
  refine g_lstore_n (pc := 1) X (lv' := [(0, .ref q), (1, gl h), (3, gl h)]) dX1_digestOn_1 rfl rfl ?_
  refine g_ldc2 (pc := 2) X dX1_digestOn_2 kc_X1_75 ?_
  refine g_lload_n (pc := 5) X dX1_digestOn_5 2 rfl ?_
  refine g_lmul (pc := 6) X dX1_digestOn_6 ?_
  refine g_aload_n (pc := 7) X dX1_digestOn_7 0 rfl ?_
  refine g_get (pc := 8) X fl_X1_39 dX1_digestOn_8 0 (v := gi (A 0)) rfl rfl ?_
  refine g_i2l (pc := 11) X dX1_digestOn_11 (by omega) ?_
  refine g_ladd (pc := 12) X dX1_digestOn_12 ?_
  refine g_lstore_n (pc := 13) X (lv' := [(0, .ref q), (1, gl h), (3, gl (31 * h + A 0))]) dX1_digestOn_13 rfl rfl ?_
  refine g_ldc2 (pc := 14) X dX1_digestOn_14 kc_X1_75 ?_
  refine g_lload_n (pc := 17) X dX1_digestOn_17 2 rfl ?_
  refine g_lmul (pc := 18) X dX1_digestOn_18 ?_
  refine g_aload_n (pc := 19) X dX1_digestOn_19 0 rfl ?_
  refine g_get (pc := 20) X fl_X1_47 dX1_digestOn_20 0 (v := gi (A 1)) rfl rfl ?_
  refine g_i2l (pc := 23) X dX1_digestOn_23 (by omega) ?_
  refine g_ladd (pc := 24) X dX1_digestOn_24 ?_
  refine g_lstore_n (pc := 25) X (lv' := [(0, .ref q), (1, gl h), (3, gl (31 * (31 * h + A 0) + A 1))]) dX1_digestOn_25 rfl rfl ?_
  refine g_ldc2 (pc := 26) X dX1_digestOn_26 kc_X1_75 ?_
  refine g_lload_n (pc := 29) X dX1_digestOn_29 2 rfl ?_
  refine g_lmul (pc := 30) X dX1_digestOn_30 ?_
  refine g_aload_n (pc := 31) X dX1_digestOn_31 0 rfl ?_
  refine g_get (pc := 32) X fl_X1_50 dX1_digestOn_32 0 (v := gi (A 2)) rfl rfl ?_
  refine g_i2l (pc := 35) X dX1_digestOn_35 (by omega) ?_
  refine g_ladd (pc := 36) X dX1_digestOn_36 ?_
  refine g_lstore_n (pc := 37) X (lv' := [(0, .ref q), (1, gl h), (3, gl (31 * (31 * (31 * h + A 0) + A 1) + A 2))]) dX1_digestOn_37 rfl rfl ?_
  refine g_ldc2 (pc := 38) X dX1_digestOn_38 kc_X1_75 ?_
  refine g_lload_n (pc := 41) X dX1_digestOn_41 2 rfl ?_
  refine g_lmul (pc := 42) X dX1_digestOn_42 ?_
  refine g_aload_n (pc := 43) X dX1_digestOn_43 0 rfl ?_
  refine g_get (pc := 44) X fl_X1_53 dX1_digestOn_44 0 (v := gi (A 3)) rfl rfl ?_
  refine g_i2l (pc := 47) X dX1_digestOn_47 (by omega) ?_
  refine g_ladd (pc := 48) X dX1_digestOn_48 ?_
  refine g_lstore_n (pc := 49) X (lv' := [(0, .ref q), (1, gl h), (3, gl (31 * (31 * (31 * (31 * h + A 0) + A 1) + A 2) + A 3))]) dX1_digestOn_49 rfl rfl ?_
  refine g_ldc2 (pc := 50) X dX1_digestOn_50 kc_X1_75 ?_
  refine g_lload_n (pc := 53) X dX1_digestOn_53 2 rfl ?_
  refine g_lmul (pc := 54) X dX1_digestOn_54 ?_
  refine g_aload_n (pc := 55) X dX1_digestOn_55 0 rfl ?_
  refine g_get (pc := 56) X fl_X1_56 dX1_digestOn_56 0 (v := gi (A 4)) rfl rfl ?_
  refine g_i2l (pc := 59) X dX1_digestOn_59 (by omega) ?_
  refine g_ladd (pc := 60) X dX1_digestOn_60 ?_
  refine g_lstore_n (pc := 61) X (lv' := [(0, .ref q), (1, gl h), (3, gl (31 * (31 * (31 * (31 * (31 * h + A 0) + A 1) + A 2) + A 3) + A 4))]) dX1_digestOn_61 rfl rfl ?_
  refine g_iconst (pc := 62) X dX1_digestOn_62 ?_
  refine g_istore (pc := 63) X (lv' := [(0, .ref q), (1, gl h), (3, gl (31 * (31 * (31 * (31 * (31 * h + A 0) + A 1) + A 2) + A 3) + A 4)), (5, gi 0)]) dX1_digestOn_63 rfl rfl ?_
  have L65 : ∀ (n65 : Nat) (i : Int) (x : Int), (0 ≤ i ∧ i ≤ A 0) → (x = itr (dgT A) (dgr A 0 h 5) i) → (A 0 - i).toNat < n65 → V 0 0 [oF q a (A 0) (A 1) (A 2) (A 3) (A 4), gA cI (a 1) 10 (fun j => A (5 + j)), gA cI (a 2) 10 (fun j => A (15 + j)), gA cI (a 3) 60 (fun j => A (25 + j)), gA cI (a 5) 6 (fun j => A (85 + j)), gA cI (a 6) 36 (fun j => A (91 + j)), gA cI (a 7) 5 (fun j => A (127 + j)), gA cI (a 9) 200 (fun j => A (132 + j)), gA cI (a 11) 40 (fun j => A (332 + j)), gA cI (a 13) 8 (fun j => A (372 + j))] 65 [(0, .ref q), (1, gl h), (3, gl x), (5, gi i)] [] := by
    intro n65
    induction n65 with
    | zero => intro i x hi hx hn65; exact absurd hn65 (Nat.not_lt_zero _)
    | succ n65 ih65 =>
      intro i x hi hx hn65
      refine g_iload (pc := 65) X dX1_digestOn_65 3 rfl ?_
      refine g_aload_n (pc := 67) X dX1_digestOn_67 0 rfl ?_
      refine g_get (pc := 68) X fl_X1_39 dX1_digestOn_68 0 (v := gi (A 0)) rfl rfl ?_
      refine g_icmpge (pc := 71) X 130 dX1_digestOn_71 (by decide) (by omega) (by omega) (fun h71 => ?_) (fun h71 => ?_)
      · refine g_iconst (pc := 130) X dX1_digestOn_130 ?_
        refine g_istore (pc := 131) X (lv' := [(0, .ref q), (1, gl h), (3, gl x), (5, gi 0)]) dX1_digestOn_131 rfl rfl ?_
        have L133 : ∀ (n133 : Nat) (i2 : Int) (y : Int), (0 ≤ i2 ∧ i2 ≤ A 1) → (y = itr (dgM A) (itr (dgT A) (dgr A 0 h 5) (A 0)) i2) → (A 1 - i2).toNat < n133 → V 0 0 [oF q a (A 0) (A 1) (A 2) (A 3) (A 4), gA cI (a 1) 10 (fun j => A (5 + j)), gA cI (a 2) 10 (fun j => A (15 + j)), gA cI (a 3) 60 (fun j => A (25 + j)), gA cI (a 5) 6 (fun j => A (85 + j)), gA cI (a 6) 36 (fun j => A (91 + j)), gA cI (a 7) 5 (fun j => A (127 + j)), gA cI (a 9) 200 (fun j => A (132 + j)), gA cI (a 11) 40 (fun j => A (332 + j)), gA cI (a 13) 8 (fun j => A (372 + j))] 133 [(0, .ref q), (1, gl h), (3, gl y), (5, gi i2)] [] := by
          intro n133
          induction n133 with
          | zero => intro i2 y hi2 hy hn133; exact absurd hn133 (Nat.not_lt_zero _)
          | succ n133 ih133 =>
            intro i2 y hi2 hy hn133
            refine g_iload (pc := 133) X dX1_digestOn_133 3 rfl ?_
            refine g_aload_n (pc := 135) X dX1_digestOn_135 0 rfl ?_
            refine g_get (pc := 136) X fl_X1_47 dX1_digestOn_136 0 (v := gi (A 1)) rfl rfl ?_
            refine g_icmpge (pc := 139) X 181 dX1_digestOn_139 (by decide) (by omega) (by omega) (fun h139 => ?_) (fun h139 => ?_)
            · refine g_lload_n (pc := 181) X dX1_digestOn_181 2 rfl ?_
              refine g_aload_n (pc := 182) X dX1_digestOn_182 0 rfl ?_
              refine g_get (pc := 183) X fl_X1_27 dX1_digestOn_183 0 (v := .ref (a 7)) rfl rfl ?_
              refine g_iconst (pc := 186) X dX1_digestOn_186 ?_
              refine g_iconst (pc := 187) X dX1_digestOn_187 ?_
              refine gc_Nl (pc := 188) X (c_X8_digestRow l D cI cZ (a 7) 5 (fun j => A (127 + j)) y 0 5 (by omega) (fun jj j0 j1 => by (try dsimp only); have := okA_p5 hA (j := jj) (by omega); omega) rfl) lm_X1_77 dX1_digestOn_188 [6] rfl rfl rfl rfl rfl rfl ?_
              refine g_lstore_n (pc := 191) X (lv' := [(0, .ref q), (1, gl h), (3, gl (dgr (fun j => A (127 + j)) 0 y 5)), (5, gi i2)]) dX1_digestOn_191 rfl rfl ?_
              refine g_lload_n (pc := 192) X dX1_digestOn_192 2 rfl ?_
              refine g_aload_n (pc := 193) X dX1_digestOn_193 0 rfl ?_
              refine g_get (pc := 194) X fl_X1_30 dX1_digestOn_194 0 (v := .ref (a 9)) rfl rfl ?_
              refine g_iconst (pc := 197) X dX1_digestOn_197 ?_
              refine g_aload_n (pc := 198) X dX1_digestOn_198 0 rfl ?_
              refine g_get (pc := 199) X fl_X1_50 dX1_digestOn_199 0 (v := gi (A 2)) rfl rfl ?_
              refine gc_Nl (pc := 202) X (c_X8_digestRow l D cI cZ (a 9) 200 (fun j => A (132 + j)) (dgr (fun j => A (127 + j)) 0 y 5) 0 (A 2) (by omega) (fun jj j0 j1 => by (try dsimp only); have := okA_te hA (j := jj) (by omega); omega) rfl) lm_X1_77 dX1_digestOn_202 [7] rfl rfl rfl rfl rfl rfl ?_
              refine g_lstore_n (pc := 205) X (lv' := [(0, .ref q), (1, gl h), (3, gl (dgr (fun j => A (132 + j)) 0 (dgr (fun j => A (127 + j)) 0 y 5) (A 2))), (5, gi i2)]) dX1_digestOn_205 rfl rfl ?_
              refine g_lload_n (pc := 206) X dX1_digestOn_206 2 rfl ?_
              refine g_aload_n (pc := 207) X dX1_digestOn_207 0 rfl ?_
              refine g_get (pc := 208) X fl_X1_33 dX1_digestOn_208 0 (v := .ref (a 11)) rfl rfl ?_
              refine g_iconst (pc := 211) X dX1_digestOn_211 ?_
              refine g_aload_n (pc := 212) X dX1_digestOn_212 0 rfl ?_
              refine g_get (pc := 213) X fl_X1_53 dX1_digestOn_213 0 (v := gi (A 3)) rfl rfl ?_
              refine g_bipush (pc := 216) X dX1_digestOn_216 (by decide +kernel) ?_
              refine g_imul (pc := 218) X dX1_digestOn_218 ?_
              refine gc_Nl (pc := 219) X (c_X8_digestRow l D cI cZ (a 11) 40 (fun j => A (332 + j)) (dgr (fun j => A (132 + j)) 0 (dgr (fun j => A (127 + j)) 0 y 5) (A 2)) 0 (A 3 * 10) (by omega) (fun jj j0 j1 => by (try dsimp only); have := okA_ha hA (j := jj) (by omega); omega) rfl) lm_X1_77 dX1_digestOn_219 [8] rfl rfl rfl rfl rfl rfl ?_
              refine g_lstore_n (pc := 222) X (lv' := [(0, .ref q), (1, gl h), (3, gl (dgr (fun j => A (332 + j)) 0 (dgr (fun j => A (132 + j)) 0 (dgr (fun j => A (127 + j)) 0 y 5) (A 2)) (A 3 * 10))), (5, gi i2)]) dX1_digestOn_222 rfl rfl ?_
              refine g_lload_n (pc := 223) X dX1_digestOn_223 2 rfl ?_
              refine g_aload_n (pc := 224) X dX1_digestOn_224 0 rfl ?_
              refine g_get (pc := 225) X fl_X1_36 dX1_digestOn_225 0 (v := .ref (a 13)) rfl rfl ?_
              refine g_iconst (pc := 228) X dX1_digestOn_228 ?_
              refine g_aload_n (pc := 229) X dX1_digestOn_229 0 rfl ?_
              refine g_get (pc := 230) X fl_X1_56 dX1_digestOn_230 0 (v := gi (A 4)) rfl rfl ?_
              refine gc_Nl (pc := 233) X (c_X8_digestRow l D cI cZ (a 13) 8 (fun j => A (372 + j)) (dgr (fun j => A (332 + j)) 0 (dgr (fun j => A (132 + j)) 0 (dgr (fun j => A (127 + j)) 0 y 5) (A 2)) (A 3 * 10)) 0 (A 4) (by omega) (fun jj j0 j1 => by (try dsimp only); have := okA_se hA (j := jj) (by omega); omega) rfl) lm_X1_77 dX1_digestOn_233 [9] rfl rfl rfl rfl rfl rfl ?_
              exact ret _ _ _ _ _ _ dX1_digestOn_236 rfl rfl (gPl_e (by unfold dgF; rw [dgr_off, dgr_off, dgr_off, dgr_off, hy, show i2 = A 1 by omega, Int.mul_comm (A 3) 10]; rfl))
            · refine g_ldc2 (pc := 142) X dX1_digestOn_142 kc_X1_75 ?_
              refine g_lload_n (pc := 145) X dX1_digestOn_145 2 rfl ?_
              refine g_lmul (pc := 146) X dX1_digestOn_146 ?_
              refine g_aload_n (pc := 147) X dX1_digestOn_147 0 rfl ?_
              refine g_get (pc := 148) X fl_X1_21 dX1_digestOn_148 0 (v := .ref (a 5)) rfl rfl ?_
              refine g_iload (pc := 151) X dX1_digestOn_151 3 rfl ?_
              refine gc_Ni (pc := 153) X (c_X8_look l D cI cZ (a 5) 6 (fun j => A (85 + j)) i2 (by omega) rfl) lm_X1_59 dX1_digestOn_153 [4] rfl rfl rfl rfl rfl rfl ?_
              refine g_top (b := A (85 + i2)) (lk_in (by omega)) ?_
              have hwo := okA_wo hA (j := i2) (by omega)
              refine g_i2l (pc := 156) X dX1_digestOn_156 (by omega) ?_
              refine g_ladd (pc := 157) X dX1_digestOn_157 ?_
              refine g_lstore_n (pc := 158) X (lv' := [(0, .ref q), (1, gl h), (3, gl (31 * y + A (85 + i2))), (5, gi i2)]) dX1_digestOn_158 rfl rfl ?_
              refine g_lload_n (pc := 159) X dX1_digestOn_159 2 rfl ?_
              refine g_aload_n (pc := 160) X dX1_digestOn_160 0 rfl ?_
              refine g_get (pc := 161) X fl_X1_24 dX1_digestOn_161 0 (v := .ref (a 6)) rfl rfl ?_
              refine g_iload (pc := 164) X dX1_digestOn_164 3 rfl ?_
              refine g_bipush (pc := 166) X dX1_digestOn_166 (by decide +kernel) ?_
              refine g_imul (pc := 168) X dX1_digestOn_168 ?_
              refine g_bipush (pc := 169) X dX1_digestOn_169 (by decide +kernel) ?_
              refine gc_Nl (pc := 171) X (c_X8_digestRow l D cI cZ (a 6) 36 (fun j => A (91 + j)) (31 * y + A (85 + i2)) (i2 * 6) 6 (by omega) (fun jj j0 j1 => by (try dsimp only); have := okA_wa hA (j := jj) (by omega); omega) rfl) lm_X1_77 dX1_digestOn_171 [5] rfl rfl rfl rfl rfl rfl ?_
              refine g_lstore_n (pc := 174) X (lv' := [(0, .ref q), (1, gl h), (3, gl (dgr (fun j => A (91 + j)) (i2 * 6) (31 * y + A (85 + i2)) 6)), (5, gi i2)]) dX1_digestOn_174 rfl rfl ?_
              refine g_iinc (pc := 175) X (lv' := [(0, .ref q), (1, gl h), (3, gl (dgr (fun j => A (91 + j)) (i2 * 6) (31 * y + A (85 + i2)) 6)), (5, gi (i2 + 1))]) dX1_digestOn_175 3 rfl rfl rfl ?_
              refine g_goto (pc := 178) X 133 dX1_digestOn_178 (by decide) ?_
              exact ih133 _ _ (by omega) (by rw [itr_s hi2.1, ← hy]; unfold dgM; exact dgr_off.trans (by rw [show 91 + i2 * 6 = 91 + 6 * i2 by omega])) (by omega)
        exact L133 _ _ _ (by omega) (by rw [hx, show i = A 0 by omega]; rfl) (Nat.lt_succ_self _)
      · refine g_ldc2 (pc := 74) X dX1_digestOn_74 kc_X1_75 ?_
        refine g_lload_n (pc := 77) X dX1_digestOn_77 2 rfl ?_
        refine g_lmul (pc := 78) X dX1_digestOn_78 ?_
        refine g_aload_n (pc := 79) X dX1_digestOn_79 0 rfl ?_
        refine g_get (pc := 80) X fl_X1_9 dX1_digestOn_80 0 (v := .ref (a 1)) rfl rfl ?_
        refine g_iload (pc := 83) X dX1_digestOn_83 3 rfl ?_
        refine gc_Ni (pc := 85) X (c_X8_look l D cI cZ (a 1) 10 (fun j => A (5 + j)) i (by omega) rfl) lm_X1_59 dX1_digestOn_85 [1] rfl rfl rfl rfl rfl rfl ?_
        refine g_top (b := A (5 + i)) (lk_in (by omega)) ?_
        have hcl := okA_cl hA (j := i) (by omega)
        refine g_i2l (pc := 88) X dX1_digestOn_88 (by omega) ?_
        refine g_ladd (pc := 89) X dX1_digestOn_89 ?_
        refine g_lstore_n (pc := 90) X (lv' := [(0, .ref q), (1, gl h), (3, gl (31 * x + A (5 + i))), (5, gi i)]) dX1_digestOn_90 rfl rfl ?_
        refine g_ldc2 (pc := 91) X dX1_digestOn_91 kc_X1_75 ?_
        refine g_lload_n (pc := 94) X dX1_digestOn_94 2 rfl ?_
        refine g_lmul (pc := 95) X dX1_digestOn_95 ?_
        refine g_aload_n (pc := 96) X dX1_digestOn_96 0 rfl ?_
        refine g_get (pc := 97) X fl_X1_15 dX1_digestOn_97 0 (v := .ref (a 2)) rfl rfl ?_
        refine g_iload (pc := 100) X dX1_digestOn_100 3 rfl ?_
        refine gc_Ni (pc := 102) X (c_X8_look l D cI cZ (a 2) 10 (fun j => A (15 + j)) i (by omega) rfl) lm_X1_59 dX1_digestOn_102 [2] rfl rfl rfl rfl rfl rfl ?_
        refine g_top (b := A (15 + i)) (lk_in (by omega)) ?_
        have hfa := okA_fa hA (j := i) (by omega)
        refine g_i2l (pc := 105) X dX1_digestOn_105 (by omega) ?_
        refine g_ladd (pc := 106) X dX1_digestOn_106 ?_
        refine g_lstore_n (pc := 107) X (lv' := [(0, .ref q), (1, gl h), (3, gl (31 * (31 * x + A (5 + i)) + A (15 + i))), (5, gi i)]) dX1_digestOn_107 rfl rfl ?_
        refine g_lload_n (pc := 108) X dX1_digestOn_108 2 rfl ?_
        refine g_aload_n (pc := 109) X dX1_digestOn_109 0 rfl ?_
        refine g_get (pc := 110) X fl_X1_18 dX1_digestOn_110 0 (v := .ref (a 3)) rfl rfl ?_
        refine g_iload (pc := 113) X dX1_digestOn_113 3 rfl ?_
        refine g_bipush (pc := 115) X dX1_digestOn_115 (by decide +kernel) ?_
        refine g_imul (pc := 117) X dX1_digestOn_117 ?_
        refine g_bipush (pc := 118) X dX1_digestOn_118 (by decide +kernel) ?_
        refine gc_Nl (pc := 120) X (c_X8_digestRow l D cI cZ (a 3) 60 (fun j => A (25 + j)) (31 * (31 * x + A (5 + i)) + A (15 + i)) (i * 6) 6 (by omega) (fun jj j0 j1 => by (try dsimp only); have := okA_le hA (j := jj) (by omega); omega) rfl) lm_X1_77 dX1_digestOn_120 [3] rfl rfl rfl rfl rfl rfl ?_
        refine g_lstore_n (pc := 123) X (lv' := [(0, .ref q), (1, gl h), (3, gl (dgr (fun j => A (25 + j)) (i * 6) (31 * (31 * x + A (5 + i)) + A (15 + i)) 6)), (5, gi i)]) dX1_digestOn_123 rfl rfl ?_
        refine g_iinc (pc := 124) X (lv' := [(0, .ref q), (1, gl h), (3, gl (dgr (fun j => A (25 + j)) (i * 6) (31 * (31 * x + A (5 + i)) + A (15 + i)) 6)), (5, gi (i + 1))]) dX1_digestOn_124 3 rfl rfl rfl ?_
        refine g_goto (pc := 127) X 65 dX1_digestOn_127 (by decide) ?_
        exact ih65 _ _ (by omega) (by rw [itr_s hi.1, ← hx]; unfold dgT; exact dgr_off.trans (by rw [show 25 + i * 6 = 25 + 6 * i by omega])) (by omega)
  exact L65 _ _ _ (by omega) (by exact dgr_5) (Nat.lt_succ_self _)
