/-! the model's reel: walks -/

set_option maxHeartbeats 4000000 in
set_option maxRecDepth 100000 in
theorem c_X9_here (l : Launch) (D : va_G) (cI cZ : ClassId) (q : Nat) (a : Nat → Nat) (al : Int) (at_ : Int) (st : Int) (so : Int) (va : Int) (fa : Int) (pl : Int) (sg : Int) (su : Int) (A : Int → Int) (hA : okA A) (ha : 0 ≤ at_ ∧ at_ ≤ A 2) : GM l D cI cZ yX9_here cX9_here 1 (some .int) ({ frames := 0, cells := 0, slots := 0, locals := 0 }) 0 0 true [.ref q] [oM q a al at_ st so va fa pl sg su, gA cI (a 0) 1140 A] (gPi (hr A at_)) := by
  refine g_enterI (z := false) (lv0 := [(0, .ref q)]) _ rfl (by decide) rfl rfl (fun V X ret => ?_)
  have hA2 := okA_2 hA
  refine g_aload_n (pc := 0) X dX9_here_0 0 rfl ?_
  refine g_get (pc := 1) X fl_X9_125 dX9_here_1 0 (v := gi at_) rfl rfl ?_
  refine g_aload_n (pc := 4) X dX9_here_4 0 rfl ?_
  refine g_get (pc := 5) X fl_X9_7 dX9_here_5 0 (v := .ref (a 0)) rfl rfl ?_
  refine g_iconst (pc := 8) X dX9_here_8 ?_
  refine g_iald (pc := 9) X dX9_here_9 1 rfl (by omega) rfl ?_
  refine g_icmpge (pc := 10) X 29 dX9_here_10 (by decide) (by omega) (by omega) (fun h10 => ?_) (fun h10 => ?_)
  · refine g_iconst (pc := 29) X dX9_here_29 ?_
    exact ret _ _ _ _ _ _ dX9_here_30 rfl rfl (fun h => by cases h) (gPi_e (by unfold hr; rw [if_neg (by omega)]))
  · refine g_aload_n (pc := 13) X dX9_here_13 0 rfl ?_
    refine g_get (pc := 14) X fl_X9_7 dX9_here_14 0 (v := .ref (a 0)) rfl rfl ?_
    refine g_sipush (pc := 17) X dX9_here_17 (by decide +kernel) ?_
    refine g_aload_n (pc := 20) X dX9_here_20 0 rfl ?_
    refine g_get (pc := 21) X fl_X9_125 dX9_here_21 0 (v := gi at_) rfl rfl ?_
    refine g_iadd (pc := 24) X dX9_here_24 ?_
    have hte := okA_te hA (j := at_) (by omega)
    refine g_iald (pc := 25) X dX9_here_25 1 rfl (by omega) rfl ?_
    refine g_goto (pc := 26) X 30 dX9_here_26 (by decide) ?_
    exact ret _ _ _ _ _ _ dX9_here_30 rfl rfl (fun h => by cases h) (gPi_e (by unfold hr; rw [if_pos (by omega)]))

set_option maxHeartbeats 4000000 in
set_option maxRecDepth 100000 in
theorem c_X9_next (l : Launch) (D : va_G) (cI cZ : ClassId) (q : Nat) (a : Nat → Nat) (al : Int) (at_ : Int) (st : Int) (so : Int) (va : Int) (fa : Int) (pl : Int) (sg : Int) (su : Int) (A : Int → Int) (hA : okA A) (ha : 0 ≤ at_ ∧ at_ ≤ A 2) : GM l D cI cZ yX9_next cX9_next 3 none ({ frames := 1, cells := 0, slots := 0, locals := 22 }) 0 0 false [.ref q] [oM q a al at_ st so va fa pl sg su, gA cI (a 0) 1140 A] (gPxv (fun xo : Unit => [oM q a al (toE A (rnE A 4 at_)) (rnE A 4 at_) (toK A (rnE A 4 at_)) (toV A (rnE A 4 at_)) fa pl sg su, gA cI (a 0) 1140 A]) (fun xo : Unit => True)) := by
  refine g_enterV (lv0 := [(0, .ref q)]) (by decide) rfl rfl (fun V X ret => ?_)
  have hA2 := okA_2 hA
  have L0 : ∀ (n0 : Nat) (b : Int), (0 ≤ b ∧ b ≤ A 2) → (rnE A 4 at_ = rnE A 4 b) → (A 2 - b).toNat < n0 → V 0 0 [oM q a al b st so va fa pl sg su, gA cI (a 0) 1140 A] 0 [(0, .ref q)] [] := by
    intro n0
    induction n0 with
    | zero => intro b hb hs hn0; exact absurd hn0 (Nat.not_lt_zero _)
    | succ n0 ih0 =>
      intro b hb hs hn0
      have hhb := hr_c hA (a := b) (by omega)
      have hcb := rcl_c (A (132 + b))
      refine g_aload_n (pc := 0) X dX9_next_0 0 rfl ?_
      refine gc_Vi (pc := 1) X (c_X9_here l D cI cZ q a al b st so va fa pl sg su A hA (by omega)) lm_X9_128 dX9_next_1 [0, 1] rfl rfl rfl rfl rfl rfl rfl rfl ?_
      refine g_bipush (pc := 4) X dX9_next_4 (by decide +kernel) ?_
      refine g_icmpne (pc := 6) X 22 dX9_next_6 (by decide) (by omega) (by omega) (fun h6 => ?_) (fun h6 => ?_)
      · have hS : rnE A 4 at_ = b := hs.trans (rnE_n (fun _ => by omega))
        refine g_aload_n (pc := 22) X dX9_next_22 0 rfl ?_
        refine g_aload_n (pc := 23) X dX9_next_23 0 rfl ?_
        refine g_get (pc := 24) X fl_X9_125 dX9_next_24 0 (v := gi b) rfl rfl ?_
        refine g_put (pc := 27) X (ws' := [oM q a al b b so va fa pl sg su, gA cI (a 0) 1140 A]) fp_X9_132 dX9_next_27 0 rfl rfl rfl rfl rfl ?_
        refine g_aload_n (pc := 30) X dX9_next_30 0 rfl ?_
        refine g_iconst (pc := 31) X dX9_next_31 ?_
        refine g_put (pc := 32) X (ws' := [oM q a al b b so 0 fa pl sg su, gA cI (a 0) 1140 A]) fp_X9_135 dX9_next_32 0 rfl rfl rfl rfl rfl ?_
        refine g_aload_n (pc := 35) X dX9_next_35 0 rfl ?_
        refine gc_Vi (pc := 36) X (c_X9_here l D cI cZ q a al b b so 0 fa pl sg su A hA (by omega)) lm_X9_128 dX9_next_36 [0, 1] rfl rfl rfl rfl rfl rfl rfl rfl ?_
        refine g_istore_n (pc := 39) X (lv' := [(0, .ref q), (1, gi (hr A b))]) dX9_next_39 rfl rfl ?_
        refine g_iload_n (pc := 40) X dX9_next_40 1 rfl ?_
        refine g_ifge (pc := 41) X 52 dX9_next_41 (by decide) (by omega) (fun h41 => ?_) (fun h41 => ?_)
        · refine g_iload_n (pc := 52) X dX9_next_52 1 rfl ?_
          refine g_bipush (pc := 53) X dX9_next_53 (by decide +kernel) ?_
          refine g_bipush (pc := 55) X dX9_next_55 (by decide +kernel) ?_
          refine gc_Si (pc := 57) X (c_X9_in l D cI cZ (hr A b) 97 122 (by omega) (by omega) (by omega)) lm_X9_50 dX9_next_57 [] rfl rfl rfl rfl rfl rfl ?_
          refine g_ifeqB (pc := 60) X 151 dX9_next_60 (by decide) (fun h60 => ?_) (fun h60 => ?_)
          · refine g_iload_n (pc := 151) X dX9_next_151 1 rfl ?_
            refine g_bipush (pc := 152) X dX9_next_152 (by decide +kernel) ?_
            refine g_bipush (pc := 154) X dX9_next_154 (by decide +kernel) ?_
            refine gc_Si (pc := 156) X (c_X9_in l D cI cZ (hr A b) 48 57 (by omega) (by omega) (by omega)) lm_X9_50 dX9_next_156 [] rfl rfl rfl rfl rfl rfl ?_
            refine g_ifeqB (pc := 159) X 253 dX9_next_159 (by decide) (fun h159 => ?_) (fun h159 => ?_)
            · refine g_aload_n (pc := 253) X dX9_next_253 0 rfl ?_
              refine g_dup (pc := 254) X dX9_next_254 rfl ?_
              refine g_get (pc := 255) X fl_X9_125 dX9_next_255 0 (v := gi b) rfl rfl ?_
              refine g_iconst (pc := 258) X dX9_next_258 ?_
              refine g_iadd (pc := 259) X dX9_next_259 ?_
              refine g_put (pc := 260) X (ws' := [oM q a al (b + 1) b so 0 fa pl sg su, gA cI (a 0) 1140 A]) fp_X9_125 dX9_next_260 0 rfl rfl rfl rfl rfl ?_
              refine g_aload_n (pc := 263) X dX9_next_263 0 rfl ?_
              refine g_iload_n (pc := 264) X dX9_next_264 1 rfl ?_
              refine g_bipush (pc := 265) X dX9_next_265 (by decide +kernel) ?_
              refine g_icmpne (pc := 267) X 274 dX9_next_267 (by decide) (by omega) (by omega) (fun h267 => ?_) (fun h267 => ?_)
              · refine g_iconst (pc := 274) X dX9_next_274 ?_
                refine g_put (pc := 275) X (ws' := [oM q a al (b + 1) b 5 0 fa pl sg su, gA cI (a 0) 1140 A]) fp_X9_138 dX9_next_275 0 rfl rfl rfl rfl rfl ?_
                have hE : toE A b = b + 1 := (if_pos (by omega)).trans (tkE_o (by omega) (by omega))
                have hK : toK A b = 5 := (if_pos (by omega)).trans ((tkK_o (by omega) (by omega)).trans (if_neg (by omega)))
                have hV : toV A b = 0 := if_neg (by omega)
                exact ret _ _ _ _ _ dX9_next_278 rfl rfl (gPxv_e () (by rw [hS, hE, hK, hV]) trivial)
              · refine g_iconst (pc := 270) X dX9_next_270 ?_
                refine g_goto (pc := 271) X 275 dX9_next_271 (by decide) ?_
                refine g_put (pc := 275) X (ws' := [oM q a al (b + 1) b 4 0 fa pl sg su, gA cI (a 0) 1140 A]) fp_X9_138 dX9_next_275 0 rfl rfl rfl rfl rfl ?_
                have hE : toE A b = b + 1 := (if_pos (by omega)).trans (tkE_o (by omega) (by omega))
                have hK : toK A b = 4 := (if_pos (by omega)).trans ((tkK_o (by omega) (by omega)).trans (if_pos (by omega)))
                have hV : toV A b = 0 := if_neg (by omega)
                exact ret _ _ _ _ _ dX9_next_278 rfl rfl (gPxv_e () (by rw [hS, hE, hK, hV]) trivial)
            · have L162 : ∀ (n162 : Nat) (b3 : Int) (x : Int), (b ≤ b3 ∧ b3 ≤ A 2) → (tkF A b b3 = tkE A b) → (∀ j, b ≤ j → j < b3 → 48 ≤ A (132 + j) ∧ A (132 + j) ≤ 57) → (x = nmc A b b3) → (A 2 - b3).toNat < n162 → V 0 0 [oM q a al b3 b so x fa pl sg su, gA cI (a 0) 1140 A] 162 [(0, .ref q), (1, gi (hr A b))] [] := by
                intro n162
                induction n162 with
                | zero => intro b3 x hb3 hE3 hl3 hx hn162; exact absurd hn162 (Nat.not_lt_zero _)
                | succ n162 ih162 =>
                  intro b3 x hb3 hE3 hl3 hx hn162
                  have hhb3 := hr_c hA (a := b3) (by omega)
                  have hcb3 := rcl_c (A (132 + b3))
                  have hxb := nmc_b hl3
                  rw [← hx] at hxb
                  refine g_aload_n (pc := 162) X dX9_next_162 0 rfl ?_
                  refine gc_Vi (pc := 163) X (c_X9_here l D cI cZ q a al b3 b so x fa pl sg su A hA (by omega)) lm_X9_128 dX9_next_163 [0, 1] rfl rfl rfl rfl rfl rfl rfl rfl ?_
                  refine g_bipush (pc := 166) X dX9_next_166 (by decide +kernel) ?_
                  refine g_bipush (pc := 168) X dX9_next_168 (by decide +kernel) ?_
                  refine gc_Si (pc := 170) X (c_X9_in l D cI cZ (hr A b3) 48 57 (by omega) (by omega) (by omega)) lm_X9_50 dX9_next_170 [] rfl rfl rfl rfl rfl rfl ?_
                  refine g_ifeqB (pc := 173) X 228 dX9_next_173 (by decide) (fun h173 => ?_) (fun h173 => ?_)
                  · have hEnd : tkE A b = b3 := hE3.symm.trans (tkF_n (fun _ => by omega))
                    have heb := tkE_b (A := A) (a := b) (by omega)
                    refine g_aload_n (pc := 228) X dX9_next_228 0 rfl ?_
                    refine g_aload_n (pc := 229) X dX9_next_229 0 rfl ?_
                    refine g_get (pc := 230) X fl_X9_125 dX9_next_230 0 (v := gi b3) rfl rfl ?_
                    refine g_aload_n (pc := 233) X dX9_next_233 0 rfl ?_
                    refine g_get (pc := 234) X fl_X9_132 dX9_next_234 0 (v := gi b) rfl rfl ?_
                    refine g_isub (pc := 237) X dX9_next_237 ?_
                    refine g_iconst (pc := 238) X dX9_next_238 ?_
                    refine g_icmple (pc := 239) X 246 dX9_next_239 (by decide) (by omega) (by omega) (fun h239 => ?_) (fun h239 => ?_)
                    · refine g_iconst (pc := 246) X dX9_next_246 ?_
                      refine g_put (pc := 247) X (ws' := [oM q a al b3 b 3 x fa pl sg su, gA cI (a 0) 1140 A]) fp_X9_138 dX9_next_247 0 rfl rfl rfl rfl rfl ?_
                      refine g_goto (pc := 250) X 278 dX9_next_250 (by decide) ?_
                      have hE : toE A b = b3 := (if_pos (by omega)).trans hEnd
                      have hK : toK A b = 3 := (if_pos (by omega)).trans ((tkK_f (by omega)).trans (by rw [hEnd]; exact if_neg (by omega)))
                      have hV : toV A b = x := (if_pos (by omega)).trans (by rw [hEnd]; exact hx.symm)
                      exact ret _ _ _ _ _ dX9_next_278 rfl rfl (gPxv_e () (by rw [hS, hE, hK, hV]) trivial)
                    · refine g_iconst (pc := 242) X dX9_next_242 ?_
                      refine g_goto (pc := 243) X 247 dX9_next_243 (by decide) ?_
                      refine g_put (pc := 247) X (ws' := [oM q a al b3 b 5 x fa pl sg su, gA cI (a 0) 1140 A]) fp_X9_138 dX9_next_247 0 rfl rfl rfl rfl rfl ?_
                      refine g_goto (pc := 250) X 278 dX9_next_250 (by decide) ?_
                      have hE : toE A b = b3 := (if_pos (by omega)).trans hEnd
                      have hK : toK A b = 5 := (if_pos (by omega)).trans ((tkK_f (by omega)).trans (by rw [hEnd]; exact if_pos (by omega)))
                      have hV : toV A b = x := (if_pos (by omega)).trans (by rw [hEnd]; exact hx.symm)
                      exact ret _ _ _ _ _ dX9_next_278 rfl rfl (gPxv_e () (by rw [hS, hE, hK, hV]) trivial)
                  · refine g_aload_n (pc := 176) X dX9_next_176 0 rfl ?_
                    refine g_aload_n (pc := 177) X dX9_next_177 0 rfl ?_
                    refine g_get (pc := 178) X fl_X9_125 dX9_next_178 0 (v := gi b3) rfl rfl ?_
                    refine g_aload_n (pc := 181) X dX9_next_181 0 rfl ?_
                    refine g_get (pc := 182) X fl_X9_132 dX9_next_182 0 (v := gi b) rfl rfl ?_
                    refine g_isub (pc := 185) X dX9_next_185 ?_
                    refine g_iconst (pc := 186) X dX9_next_186 ?_
                    refine g_icmpge (pc := 187) X 208 dX9_next_187 (by decide) (by omega) (by omega) (fun h187 => ?_) (fun h187 => ?_)
                    · refine g_aload_n (pc := 208) X dX9_next_208 0 rfl ?_
                      refine g_get (pc := 209) X fl_X9_135 dX9_next_209 0 (v := gi x) rfl rfl ?_
                      refine g_put (pc := 212) X (ws' := [oM q a al b3 b so x fa pl sg su, gA cI (a 0) 1140 A]) fp_X9_135 dX9_next_212 0 rfl rfl rfl rfl rfl ?_
                      refine g_aload_n (pc := 215) X dX9_next_215 0 rfl ?_
                      refine g_dup (pc := 216) X dX9_next_216 rfl ?_
                      refine g_get (pc := 217) X fl_X9_125 dX9_next_217 0 (v := gi b3) rfl rfl ?_
                      refine g_iconst (pc := 220) X dX9_next_220 ?_
                      refine g_iadd (pc := 221) X dX9_next_221 ?_
                      refine g_put (pc := 222) X (ws' := [oM q a al (b3 + 1) b so x fa pl sg su, gA cI (a 0) 1140 A]) fp_X9_125 dX9_next_222 0 rfl rfl rfl rfl rfl ?_
                      refine g_goto (pc := 225) X 162 dX9_next_225 (by decide) ?_
                      exact ih162 _ _ (by omega) ((tkF_y (by omega) (by omega)).symm.trans hE3) (fun j j0 j1 => by rcases Int.lt_or_le j b3 with z | z; exact hl3 j j0 z; rw [show j = b3 by omega]; omega) (by rw [nmc_9 (by omega)]; exact hx) (by omega)
                    · refine g_bipush (pc := 190) X dX9_next_190 (by decide +kernel) ?_
                      refine g_aload_n (pc := 192) X dX9_next_192 0 rfl ?_
                      refine g_get (pc := 193) X fl_X9_135 dX9_next_193 0 (v := gi x) rfl rfl ?_
                      refine g_imul (pc := 196) X dX9_next_196 ?_
                      refine g_aload_n (pc := 197) X dX9_next_197 0 rfl ?_
                      refine gc_Vi (pc := 198) X (c_X9_here l D cI cZ q a al b3 b so x fa pl sg su A hA (by omega)) lm_X9_128 dX9_next_198 [0, 1] rfl rfl rfl rfl rfl rfl rfl rfl ?_
                      refine g_iadd (pc := 201) X dX9_next_201 ?_
                      refine g_bipush (pc := 202) X dX9_next_202 (by decide +kernel) ?_
                      refine g_isub (pc := 204) X dX9_next_204 ?_
                      refine g_goto (pc := 205) X 212 dX9_next_205 (by decide) ?_
                      refine g_put (pc := 212) X (ws' := [oM q a al b3 b so (10 * x + hr A b3 - 48) fa pl sg su, gA cI (a 0) 1140 A]) fp_X9_135 dX9_next_212 0 rfl rfl rfl rfl rfl ?_
                      refine g_aload_n (pc := 215) X dX9_next_215 0 rfl ?_
                      refine g_dup (pc := 216) X dX9_next_216 rfl ?_
                      refine g_get (pc := 217) X fl_X9_125 dX9_next_217 0 (v := gi b3) rfl rfl ?_
                      refine g_iconst (pc := 220) X dX9_next_220 ?_
                      refine g_iadd (pc := 221) X dX9_next_221 ?_
                      refine g_put (pc := 222) X (ws' := [oM q a al (b3 + 1) b so (10 * x + hr A b3 - 48) fa pl sg su, gA cI (a 0) 1140 A]) fp_X9_125 dX9_next_222 0 rfl rfl rfl rfl rfl ?_
                      refine g_goto (pc := 225) X 162 dX9_next_225 (by decide) ?_
                      exact ih162 _ _ (by omega) ((tkF_y (by omega) (by omega)).symm.trans hE3) (fun j j0 j1 => by rcases Int.lt_or_le j b3 with z | z; exact hl3 j j0 z; rw [show j = b3 by omega]; omega) (by rw [nmc_s (by omega) (by omega), ← hx]; omega) (by omega)
              exact L162 _ _ _ (by omega) (tkF_y (by omega) (by omega)) (fun j j0 j1 => by omega) nmc_0.symm (Nat.lt_succ_self _)
          · refine g_iconst (pc := 63) X dX9_next_63 ?_
            refine g_istore_n (pc := 64) X (lv' := [(0, .ref q), (1, gi (hr A b)), (2, gi 0)]) dX9_next_64 rfl rfl ?_
            have L65 : ∀ (n65 : Nat) (b2 : Int) (w : Int), (b ≤ b2 ∧ b2 ≤ A 2) → (tkF A b b2 = tkE A b) → (∀ j, b ≤ j → j < b2 → rcl (A (132 + j)) = 1) → (w = wcd A b b2) → (A 2 - b2).toNat < n65 → V 0 0 [oM q a al b2 b so 0 fa pl sg su, gA cI (a 0) 1140 A] 65 [(0, .ref q), (1, gi (hr A b)), (2, gi w)] [] := by
              intro n65
              induction n65 with
              | zero => intro b2 w hb2 hE1 hl hw hn65; exact absurd hn65 (Nat.not_lt_zero _)
              | succ n65 ih65 =>
                intro b2 w hb2 hE1 hl hw hn65
                have hhb2 := hr_c hA (a := b2) (by omega)
                have hcb2 := rcl_c (A (132 + b2))
                have hwk := wcd_k hl hb2.1
                rw [← hw] at hwk
                refine g_aload_n (pc := 65) X dX9_next_65 0 rfl ?_
                refine gc_Vi (pc := 66) X (c_X9_here l D cI cZ q a al b2 b so 0 fa pl sg su A hA (by omega)) lm_X9_128 dX9_next_66 [0, 1] rfl rfl rfl rfl rfl rfl rfl rfl ?_
                refine g_bipush (pc := 69) X dX9_next_69 (by decide +kernel) ?_
                refine g_bipush (pc := 71) X dX9_next_71 (by decide +kernel) ?_
                refine gc_Si (pc := 73) X (c_X9_in l D cI cZ (hr A b2) 97 122 (by omega) (by omega) (by omega)) lm_X9_50 dX9_next_73 [] rfl rfl rfl rfl rfl rfl ?_
                refine g_ifeqB (pc := 76) X 122 dX9_next_76 (by decide) (fun h76 => ?_) (fun h76 => ?_)
                · have hEnd : tkE A b = b2 := hE1.symm.trans (tkF_n (fun _ => by omega))
                  have heb := tkE_b (A := A) (a := b) (by omega)
                  refine g_aload_n (pc := 122) X dX9_next_122 0 rfl ?_
                  refine g_iload_n (pc := 123) X dX9_next_123 2 rfl ?_
                  refine g_bipush (pc := 124) X dX9_next_124 (by decide +kernel) ?_
                  refine g_icmpne (pc := 126) X 133 dX9_next_126 (by decide) (by omega) (by omega) (fun h126 => ?_) (fun h126 => ?_)
                  · refine g_iload_n (pc := 133) X dX9_next_133 2 rfl ?_
                    refine g_sipush (pc := 134) X dX9_next_134 (by decide +kernel) ?_
                    refine g_icmpne (pc := 137) X 144 dX9_next_137 (by decide) (by omega) (by omega) (fun h137 => ?_) (fun h137 => ?_)
                    · refine g_iconst (pc := 144) X dX9_next_144 ?_
                      refine g_put (pc := 145) X (ws' := [oM q a al b2 b 5 0 fa pl sg su, gA cI (a 0) 1140 A]) fp_X9_138 dX9_next_145 0 rfl rfl rfl rfl rfl ?_
                      refine g_goto (pc := 148) X 278 dX9_next_148 (by decide) ?_
                      have hE : toE A b = b2 := (if_pos (by omega)).trans hEnd
                      have hK : toK A b = 5 := (if_pos (by omega)).trans ((tkK_w (by omega)).trans (by rw [hEnd]; rw [if_neg (fun cc => by have := hwk.2.1.mpr cc; omega)]; exact if_neg (fun cc => by have := hwk.2.2.mpr cc; omega)))
                      have hV : toV A b = 0 := if_neg (by omega)
                      exact ret _ _ _ _ _ dX9_next_278 rfl rfl (gPxv_e () (by rw [hS, hE, hK, hV]) trivial)
                    · refine g_iconst (pc := 140) X dX9_next_140 ?_
                      refine g_goto (pc := 141) X 145 dX9_next_141 (by decide) ?_
                      refine g_put (pc := 145) X (ws' := [oM q a al b2 b 2 0 fa pl sg su, gA cI (a 0) 1140 A]) fp_X9_138 dX9_next_145 0 rfl rfl rfl rfl rfl ?_
                      refine g_goto (pc := 148) X 278 dX9_next_148 (by decide) ?_
                      have hE : toE A b = b2 := (if_pos (by omega)).trans hEnd
                      have hK : toK A b = 2 := (if_pos (by omega)).trans ((tkK_w (by omega)).trans (by rw [hEnd]; rw [if_neg (fun cc => by have := hwk.2.1.mpr cc; omega)]; exact if_pos (hwk.2.2.mp (by omega))))
                      have hV : toV A b = 0 := if_neg (by omega)
                      exact ret _ _ _ _ _ dX9_next_278 rfl rfl (gPxv_e () (by rw [hS, hE, hK, hV]) trivial)
                  · refine g_iconst (pc := 129) X dX9_next_129 ?_
                    refine g_goto (pc := 130) X 145 dX9_next_130 (by decide) ?_
                    refine g_put (pc := 145) X (ws' := [oM q a al b2 b 1 0 fa pl sg su, gA cI (a 0) 1140 A]) fp_X9_138 dX9_next_145 0 rfl rfl rfl rfl rfl ?_
                    refine g_goto (pc := 148) X 278 dX9_next_148 (by decide) ?_
                    have hE : toE A b = b2 := (if_pos (by omega)).trans hEnd
                    have hK : toK A b = 1 := (if_pos (by omega)).trans ((tkK_w (by omega)).trans (by rw [hEnd]; exact if_pos (hwk.2.1.mp (by omega))))
                    have hV : toV A b = 0 := if_neg (by omega)
                    exact ret _ _ _ _ _ dX9_next_278 rfl rfl (gPxv_e () (by rw [hS, hE, hK, hV]) trivial)
                · refine g_aload_n (pc := 79) X dX9_next_79 0 rfl ?_
                  refine g_get (pc := 80) X fl_X9_125 dX9_next_80 0 (v := gi b2) rfl rfl ?_
                  refine g_aload_n (pc := 83) X dX9_next_83 0 rfl ?_
                  refine g_get (pc := 84) X fl_X9_132 dX9_next_84 0 (v := gi b) rfl rfl ?_
                  refine g_isub (pc := 87) X dX9_next_87 ?_
                  refine g_iconst (pc := 88) X dX9_next_88 ?_
                  refine g_icmpge (pc := 89) X 107 dX9_next_89 (by decide) (by omega) (by omega) (fun h89 => ?_) (fun h89 => ?_)
                  · refine g_iconst (pc := 107) X dX9_next_107 ?_
                    refine g_istore_n (pc := 108) X (lv' := [(0, .ref q), (1, gi (hr A b)), (2, gi (-1))]) dX9_next_108 rfl rfl ?_
                    refine g_aload_n (pc := 109) X dX9_next_109 0 rfl ?_
                    refine g_dup (pc := 110) X dX9_next_110 rfl ?_
                    refine g_get (pc := 111) X fl_X9_125 dX9_next_111 0 (v := gi b2) rfl rfl ?_
                    refine g_iconst (pc := 114) X dX9_next_114 ?_
                    refine g_iadd (pc := 115) X dX9_next_115 ?_
                    refine g_put (pc := 116) X (ws' := [oM q a al (b2 + 1) b so 0 fa pl sg su, gA cI (a 0) 1140 A]) fp_X9_125 dX9_next_116 0 rfl rfl rfl rfl rfl ?_
                    refine g_goto (pc := 119) X 65 dX9_next_119 (by decide) ?_
                    exact ih65 _ _ (by omega) ((tkF_y (by omega) (by omega)).symm.trans hE1) (fun j j0 j1 => by rcases Int.lt_or_le j b2 with z | z; exact hl j j0 z; rw [show j = b2 by omega]; omega) (by rw [wcd_9 (by omega)]) (by omega)
                  · refine g_bipush (pc := 92) X dX9_next_92 (by decide +kernel) ?_
                    refine g_iload_n (pc := 94) X dX9_next_94 2 rfl ?_
                    refine g_imul (pc := 95) X dX9_next_95 ?_
                    refine g_aload_n (pc := 96) X dX9_next_96 0 rfl ?_
                    refine gc_Vi (pc := 97) X (c_X9_here l D cI cZ q a al b2 b so 0 fa pl sg su A hA (by omega)) lm_X9_128 dX9_next_97 [0, 1] rfl rfl rfl rfl rfl rfl rfl rfl ?_
                    refine g_iadd (pc := 100) X dX9_next_100 ?_
                    refine g_bipush (pc := 101) X dX9_next_101 (by decide +kernel) ?_
                    refine g_isub (pc := 103) X dX9_next_103 ?_
                    refine g_goto (pc := 104) X 108 dX9_next_104 (by decide) ?_
                    refine g_istore_n (pc := 108) X (lv' := [(0, .ref q), (1, gi (hr A b)), (2, gi (27 * w + hr A b2 - 96))]) dX9_next_108 rfl rfl ?_
                    refine g_aload_n (pc := 109) X dX9_next_109 0 rfl ?_
                    refine g_dup (pc := 110) X dX9_next_110 rfl ?_
                    refine g_get (pc := 111) X fl_X9_125 dX9_next_111 0 (v := gi b2) rfl rfl ?_
                    refine g_iconst (pc := 114) X dX9_next_114 ?_
                    refine g_iadd (pc := 115) X dX9_next_115 ?_
                    refine g_put (pc := 116) X (ws' := [oM q a al (b2 + 1) b so 0 fa pl sg su, gA cI (a 0) 1140 A]) fp_X9_125 dX9_next_116 0 rfl rfl rfl rfl rfl ?_
                    refine g_goto (pc := 119) X 65 dX9_next_119 (by decide) ?_
                    exact ih65 _ _ (by omega) ((tkF_y (by omega) (by omega)).symm.trans hE1) (fun j j0 j1 => by rcases Int.lt_or_le j b2 with z | z; exact hl j j0 z; rw [show j = b2 by omega]; omega) (by rw [wcd_s (by omega) (by omega), ← hw]; omega) (by omega)
            exact L65 _ _ _ (by omega) (tkF_y (by omega) (by omega)) (fun j j0 j1 => by omega) wcd_0.symm (Nat.lt_succ_self _)
        · refine g_aload_n (pc := 44) X dX9_next_44 0 rfl ?_
          refine g_iconst (pc := 45) X dX9_next_45 ?_
          refine g_put (pc := 46) X (ws' := [oM q a al b b 0 0 fa pl sg su, gA cI (a 0) 1140 A]) fp_X9_138 dX9_next_46 0 rfl rfl rfl rfl rfl ?_
          refine g_goto (pc := 49) X 278 dX9_next_49 (by decide) ?_
          have hE : toE A b = b := if_neg (by omega)
          have hK : toK A b = 0 := if_neg (by omega)
          have hV : toV A b = 0 := if_neg (by omega)
          exact ret _ _ _ _ _ dX9_next_278 rfl rfl (gPxv_e () (by rw [hS, hE, hK, hV]) trivial)
      · refine g_aload_n (pc := 9) X dX9_next_9 0 rfl ?_
        refine g_dup (pc := 10) X dX9_next_10 rfl ?_
        refine g_get (pc := 11) X fl_X9_125 dX9_next_11 0 (v := gi b) rfl rfl ?_
        refine g_iconst (pc := 14) X dX9_next_14 ?_
        refine g_iadd (pc := 15) X dX9_next_15 ?_
        refine g_put (pc := 16) X (ws' := [oM q a al (b + 1) st so va fa pl sg su, gA cI (a 0) 1140 A]) fp_X9_125 dX9_next_16 0 rfl rfl rfl rfl rfl ?_
        refine g_goto (pc := 19) X 0 dX9_next_19 (by decide) ?_
        exact ih0 _ (by omega) (hs.trans (rnE_y (by omega) (by omega))) (by omega)
  exact L0 _ _ (by omega) rfl (Nat.lt_succ_self _)

set_option maxHeartbeats 4000000 in
set_option maxRecDepth 100000 in
theorem c_X9_due (l : Launch) (D : va_G) (cI cZ : ClassId) (q : Nat) (a : Nat → Nat) (al : Int) (at_ : Int) (st : Int) (so : Int) (va : Int) (fa : Int) (pl : Int) (sg : Int) (su : Int) (A : Int → Int) (z : Int) (hA : okA A) (ha : 0 ≤ at_ ∧ at_ ≤ A 2) (hz : z = 0 ∨ z = 1) (hst : 0 ≤ st ∧ st ≤ A 2) (hfa : -2147483648 ≤ fa ∧ fa < 2147483648) : GM l D cI cZ yX9_due cX9_due 3 (some .int) ({ frames := 2, cells := 0, slots := 0, locals := 44 }) 0 0 false [.ref q, gi z] [oM q a al at_ st so va fa pl sg su, gA cI (a 0) 1140 A] (gPxi (fun xo : (Int) × (Int) × (Int) × (Int) × (Int) => va) (fun xo : (Int) × (Int) × (Int) × (Int) × (Int) => [oM q a al xo.1 xo.2.1 xo.2.2.1 xo.2.2.2.1 xo.2.2.2.2 pl sg su, gA cI (a 0) 1140 A]) (fun xo : (Int) × (Int) × (Int) × (Int) × (Int) => (dun A fa z at_ st so va xo.1 xo.2.1 xo.2.2.1 xo.2.2.2.1 xo.2.2.2.2))) := by
  refine g_enterI (z := false) (lv0 := [(0, .ref q), (1, gi z)]) _ rfl (by decide) rfl rfl (fun V X ret => ?_)
  refine g_aload_n (pc := 0) X dX9_due_0 0 rfl ?_
  refine g_get (pc := 1) X fl_X9_135 dX9_due_1 0 (v := gi va) rfl rfl ?_
  refine g_istore_n (pc := 4) X (lv' := [(0, .ref q), (1, gi z), (2, gi va)]) dX9_due_4 rfl rfl ?_
  refine g_aload_n (pc := 5) X dX9_due_5 0 rfl ?_
  refine g_get (pc := 6) X fl_X9_141 dX9_due_6 0 (v := gi fa) rfl rfl ?_
  refine g_iconst (pc := 9) X dX9_due_9 ?_
  refine g_icmpne (pc := 10) X 32 dX9_due_10 (by decide) (by omega) (by omega) (fun h10 => ?_) (fun h10 => ?_)
  · refine g_iload_n (pc := 32) X dX9_due_32 2 rfl ?_
    exact ret _ _ _ _ _ _ dX9_due_33 rfl rfl (fun h => by cases h) (gPxi_e (_, _, _, _, _) rfl rfl ⟨fun c => absurd c h10, fun c => absurd c h10, fun _ => ⟨rfl, rfl, rfl, rfl, rfl⟩⟩)
  · refine g_iload_n (pc := 13) X dX9_due_13 1 rfl ?_
    refine g_ifeq (pc := 14) X 24 dX9_due_14 (by decide) (by omega) (fun h14 => ?_) (fun h14 => ?_)
    · have h14 : z ≠ 1 := by omega
      refine g_aload_n (pc := 24) X dX9_due_24 0 rfl ?_
      refine g_aload_n (pc := 25) X dX9_due_25 0 rfl ?_
      refine g_get (pc := 26) X fl_X9_132 dX9_due_26 0 (v := gi st) rfl rfl ?_
      refine g_put (pc := 29) X (ws' := [oM q a al at_ st so va st pl sg su, gA cI (a 0) 1140 A]) fp_X9_141 dX9_due_29 0 rfl rfl rfl rfl rfl ?_
      refine g_iload_n (pc := 32) X dX9_due_32 2 rfl ?_
      exact ret _ _ _ _ _ _ dX9_due_33 rfl rfl (fun h => by cases h) (gPxi_e (_, _, _, _, _) rfl rfl ⟨fun _ c => absurd c h14, fun _ _ => ⟨rfl, rfl, rfl, rfl, rfl⟩, fun c => absurd h10 c⟩)
    · have h14 : z = 1 := by omega
      refine g_aload_n (pc := 17) X dX9_due_17 0 rfl ?_
      refine gc_Vxv (pc := 18) X (wr := []) (c_X9_next l D cI cZ q a al at_ st so va fa pl sg su A hA (by omega)) lm_X9_144 dX9_due_18 [0, 1] [] rfl rfl rfl rfl (by decide) rfl rfl rfl rfl rfl rfl (fun x18 hx18 => ?_)
      refine g_pick (cn := 0) (sl := 0) (st := []) X (ws' := [oM q a al (toE A (rnE A 4 at_)) (rnE A 4 at_) (toK A (rnE A 4 at_)) (toV A (rnE A 4 at_)) fa pl sg su, gA cI (a 0) 1140 A]) [0, 1] rfl rfl ?_
      refine g_goto (pc := 21) X 32 dX9_due_21 (by decide) ?_
      refine g_iload_n (pc := 32) X dX9_due_32 2 rfl ?_
      exact ret _ _ _ _ _ _ dX9_due_33 rfl rfl (fun h => by cases h) (gPxi_e (_, _, _, _, _) rfl rfl ⟨fun _ _ => ⟨rfl, rfl, rfl, rfl, h10⟩, fun _ c => absurd h14 c, fun c => absurd h10 c⟩)

set_option maxHeartbeats 4000000 in
set_option maxRecDepth 100000 in
theorem c_X9_number (l : Launch) (D : va_G) (cI cZ : ClassId) (q : Nat) (a : Nat → Nat) (al : Int) (at_ : Int) (st : Int) (so : Int) (va : Int) (fa : Int) (pl : Int) (sg : Int) (su : Int) (A : Int → Int) (lo : Int) (hi_ : Int) (hA : okA A) (ha : 0 ≤ at_ ∧ at_ ≤ A 2) (hst : 0 ≤ st ∧ st ≤ A 2) (hso : 0 ≤ so ∧ so ≤ 5) (hva : 0 ≤ va ∧ va ≤ 999) (hlo : -2147483648 ≤ lo ∧ lo < 2147483648) (hhi : -2147483648 ≤ hi_ ∧ hi_ < 2147483648) (hfa : -2147483648 ≤ fa ∧ fa < 2147483648) : GM l D cI cZ yX9_number cX9_number 3 (some .int) ({ frames := 3, cells := 0, slots := 0, locals := 66 }) 0 0 false [.ref q, gi lo, gi hi_] [oM q a al at_ st so va fa pl sg su, gA cI (a 0) 1140 A] (gPxi (fun xo : (Int) × (Int) × (Int) × (Int) × (Int) => va) (fun xo : (Int) × (Int) × (Int) × (Int) × (Int) => [oM q a al xo.1 xo.2.1 xo.2.2.1 xo.2.2.2.1 xo.2.2.2.2 pl sg su, gA cI (a 0) 1140 A]) (fun xo : (Int) × (Int) × (Int) × (Int) × (Int) => (dun A fa (nmZ so va lo hi_) at_ st so va xo.1 xo.2.1 xo.2.2.1 xo.2.2.2.1 xo.2.2.2.2))) := by
  refine g_enterI (z := false) (lv0 := [(0, .ref q), (1, gi lo), (2, gi hi_)]) _ rfl (by decide) rfl rfl (fun V X ret => ?_)
  refine g_aload_n (pc := 0) X dX9_number_0 0 rfl ?_
  refine g_aload_n (pc := 1) X dX9_number_1 0 rfl ?_
  refine g_get (pc := 2) X fl_X9_138 dX9_number_2 0 (v := gi so) rfl rfl ?_
  refine g_iconst (pc := 5) X dX9_number_5 ?_
  refine g_icmpne (pc := 6) X 25 dX9_number_6 (by decide) (by omega) (by omega) (fun h6 => ?_) (fun h6 => ?_)
  · refine g_iconst (pc := 25) X dX9_number_25 ?_
    refine gc_Vxi (pc := 26) X (wr := []) (c_X9_due l D cI cZ q a al at_ st so va fa pl sg su A 0 hA (by omega) (by omega) (by omega) (by omega)) lm_X9_147 dX9_number_26 [0, 1] [] rfl rfl rfl rfl (by decide) rfl rfl rfl rfl rfl rfl (fun x26 hx26 => ?_)
    obtain ⟨at2_26, st2_26, so2_26, va2_26, fa2_26⟩ := x26
    have hd_26 : dun A fa 0 at_ st so va at2_26 st2_26 so2_26 va2_26 fa2_26 := hx26
    refine g_pick (cn := 0) (sl := 0) (st := gi va :: []) X (ws' := [oM q a al at2_26 st2_26 so2_26 va2_26 fa2_26 pl sg su, gA cI (a 0) 1140 A]) [0, 1] rfl rfl ?_
    exact ret _ _ _ _ _ _ dX9_number_29 rfl rfl (fun h => by cases h) (gPxi_e (_, _, _, _, _) rfl rfl (by rw [show nmZ so va lo hi_ = 0 from gB_f (by omega)]; exact hd_26))
  · refine g_aload_n (pc := 9) X dX9_number_9 0 rfl ?_
    refine g_get (pc := 10) X fl_X9_135 dX9_number_10 0 (v := gi va) rfl rfl ?_
    refine g_iload_n (pc := 13) X dX9_number_13 1 rfl ?_
    refine g_iload_n (pc := 14) X dX9_number_14 2 rfl ?_
    refine gc_Si (pc := 15) X (c_X9_in l D cI cZ va lo hi_ (by omega) (by omega) (by omega)) lm_X9_50 dX9_number_15 [] rfl rfl rfl rfl rfl rfl ?_
    refine g_ifeqB (pc := 18) X 25 dX9_number_18 (by decide) (fun h18 => ?_) (fun h18 => ?_)
    · refine g_iconst (pc := 25) X dX9_number_25 ?_
      refine gc_Vxi (pc := 26) X (wr := []) (c_X9_due l D cI cZ q a al at_ st so va fa pl sg su A 0 hA (by omega) (by omega) (by omega) (by omega)) lm_X9_147 dX9_number_26 [0, 1] [] rfl rfl rfl rfl (by decide) rfl rfl rfl rfl rfl rfl (fun x26 hx26 => ?_)
      obtain ⟨at2_26, st2_26, so2_26, va2_26, fa2_26⟩ := x26
      have hd_26 : dun A fa 0 at_ st so va at2_26 st2_26 so2_26 va2_26 fa2_26 := hx26
      refine g_pick (cn := 0) (sl := 0) (st := gi va :: []) X (ws' := [oM q a al at2_26 st2_26 so2_26 va2_26 fa2_26 pl sg su, gA cI (a 0) 1140 A]) [0, 1] rfl rfl ?_
      exact ret _ _ _ _ _ _ dX9_number_29 rfl rfl (fun h => by cases h) (gPxi_e (_, _, _, _, _) rfl rfl (by rw [show nmZ so va lo hi_ = 0 from gB_f (by omega)]; exact hd_26))
    · refine g_iconst (pc := 21) X dX9_number_21 ?_
      refine g_goto (pc := 22) X 26 dX9_number_22 (by decide) ?_
      refine gc_Vxi (pc := 26) X (wr := []) (c_X9_due l D cI cZ q a al at_ st so va fa pl sg su A 1 hA (by omega) (by omega) (by omega) (by omega)) lm_X9_147 dX9_number_26 [0, 1] [] rfl rfl rfl rfl (by decide) rfl rfl rfl rfl rfl rfl (fun x26 hx26 => ?_)
      obtain ⟨at2_26, st2_26, so2_26, va2_26, fa2_26⟩ := x26
      have hd_26 : dun A fa 1 at_ st so va at2_26 st2_26 so2_26 va2_26 fa2_26 := hx26
      refine g_pick (cn := 0) (sl := 0) (st := gi va :: []) X (ws' := [oM q a al at2_26 st2_26 so2_26 va2_26 fa2_26 pl sg su, gA cI (a 0) 1140 A]) [0, 1] rfl rfl ?_
      exact ret _ _ _ _ _ _ dX9_number_29 rfl rfl (fun h => by cases h) (gPxi_e (_, _, _, _, _) rfl rfl (by rw [show nmZ so va lo hi_ = 1 from gB_t (by omega)]; exact hd_26))
