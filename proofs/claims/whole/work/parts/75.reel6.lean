/-! the model's reel: read -/
theorem mst_z {A : Int → Int} {R : Int × Int × (Int → Int)} {L a st so va fa aw far pc : Int} {P : Int → Int} (h : mst A R L a st so va fa aw far pc P) (f : fa = -1) : okR (A 0) aw far pc P ∧ L ≤ st ∧ R = rd A st aw far pc P ∧ so = toK A st := by
  rcases h.2 with ⟨f1, f2, f3, f4, f5, f6⟩ | ⟨f1, f2⟩
  · exact ⟨f5, f2, f6, f3.1⟩
  · exact absurd f f1
theorem mst_w {A : Int → Int} {R : Int × Int × (Int → Int)} {L a st so va fa aw far pc : Int} {P : Int → Int} (hL : 0 ≤ L) (h : mst A R L a st so va fa aw far pc P) : mst A R 0 a st so va fa aw far pc P := by
  refine ⟨h.1, ?_⟩
  rcases h.2 with ⟨f1, f2, f3⟩ | f
  · exact Or.inl ⟨f1, by omega, f3⟩
  · exact Or.inr f
theorem mst_f {A : Int → Int} {R : Int × Int × (Int → Int)} {L a st so va fa aw far pc : Int} {P : Int → Int} (h : mst A R L a st so va fa aw far pc P) (f : fa ≠ -1) : R.1 = fa := by
  rcases h.2 with ⟨f1, f2⟩ | ⟨f1, f2⟩
  · exact absurd f1 f
  · exact f2
theorem mst_y {A : Int → Int} {R : Int × Int × (Int → Int)} {L a st so va fa far pc : Int} {P : Int → Int} (h : mst A R L a st so va fa 0 far pc P) (f : fa = -1) (hs : so = 0) : R = (-1, pc, P) := by
  have q := mst_z h f
  have k := (toK_b A st).2.2 (by omega)
  rw [q.2.2.1, rd_e k]; rfl

set_option maxHeartbeats 4000000 in
set_option maxRecDepth 100000 in
theorem c_X9_readReel (l : Launch) (D : va_G) (cI cZ : ClassId) (q : Nat) (a : Nat → Nat) (al : Int) (at_ : Int) (st : Int) (so : Int) (va : Int) (fa : Int) (pl : Int) (sg : Int) (su : Int) (A : Int → Int) (P : Int → Int) (hA : okA A) : GM l D cI cZ yX9_readReel cX9_readReel 4 (some .boolean) ({ frames := 4, cells := 0, slots := 0, locals := 88 }) 0 0 false [.ref q] [oM q a al at_ st so va fa pl sg su, gA cI (a 0) 1140 A, gA cI (a 12) 8 (fun j => P (0 + j)), gA cI (a 13) 8 (fun j => P (8 + j)), gA cI (a 14) 8 (fun j => P (16 + j)), gA cI (a 15) 8 (fun j => P (24 + j)), gA cI (a 16) 8 (fun j => P (32 + j))] (gPxi (fun xo : (Int) × (Int) × (Int) × (Int) × (Int) × (Int) × (Int → Int) => gB (rF A = -1)) (fun xo : (Int) × (Int) × (Int) × (Int) × (Int) × (Int) × (Int → Int) => [oM q a al xo.1 xo.2.1 xo.2.2.1 xo.2.2.2.1 xo.2.2.2.2.1 xo.2.2.2.2.2.1 sg su, gA cI (a 0) 1140 A, gA cI (a 12) 8 (fun j => xo.2.2.2.2.2.2 (0 + j)), gA cI (a 13) 8 (fun j => xo.2.2.2.2.2.2 (8 + j)), gA cI (a 14) 8 (fun j => xo.2.2.2.2.2.2 (16 + j)), gA cI (a 15) 8 (fun j => xo.2.2.2.2.2.2 (24 + j)), gA cI (a 16) 8 (fun j => xo.2.2.2.2.2.2 (32 + j))]) (fun xo : (Int) × (Int) × (Int) × (Int) × (Int) × (Int) × (Int → Int) => (rdS A xo.2.2.2.2.1 xo.2.2.2.2.2.1 xo.2.2.2.2.2.2))) := by
  refine g_enterI (z := true) (lv0 := [(0, .ref q)]) _ rfl (by decide) rfl rfl (fun V X ret => ?_)
  have hA2 := okA_2 hA
  have hA0 := okA_0 hA
  obtain ⟨R, hR⟩ : ∃ z, z = rd A 0 0 0 0 P := ⟨_, rfl⟩
  have hC := rdS_c (A := A) (by omega) P
  rw [← hR] at hC
  refine g_aload_n (pc := 0) X dX9_readReel_0 0 rfl ?_
  refine g_iconst (pc := 1) X dX9_readReel_1 ?_
  refine g_put (pc := 2) X (ws' := [oM q a al 0 st so va fa pl sg su, gA cI (a 0) 1140 A, gA cI (a 12) 8 (fun j => P (0 + j)), gA cI (a 13) 8 (fun j => P (8 + j)), gA cI (a 14) 8 (fun j => P (16 + j)), gA cI (a 15) 8 (fun j => P (24 + j)), gA cI (a 16) 8 (fun j => P (32 + j))]) fp_X9_125 dX9_readReel_2 0 rfl rfl rfl rfl rfl ?_
  refine g_aload_n (pc := 5) X dX9_readReel_5 0 rfl ?_
  refine g_iconst (pc := 6) X dX9_readReel_6 ?_
  refine g_put (pc := 7) X (ws' := [oM q a al 0 st so va (-1) pl sg su, gA cI (a 0) 1140 A, gA cI (a 12) 8 (fun j => P (0 + j)), gA cI (a 13) 8 (fun j => P (8 + j)), gA cI (a 14) 8 (fun j => P (16 + j)), gA cI (a 15) 8 (fun j => P (24 + j)), gA cI (a 16) 8 (fun j => P (32 + j))]) fp_X9_141 dX9_readReel_7 0 rfl rfl rfl rfl rfl ?_
  refine g_aload_n (pc := 10) X dX9_readReel_10 0 rfl ?_
  refine g_iconst (pc := 11) X dX9_readReel_11 ?_
  refine g_put (pc := 12) X (ws' := [oM q a al 0 st so va (-1) 0 sg su, gA cI (a 0) 1140 A, gA cI (a 12) 8 (fun j => P (0 + j)), gA cI (a 13) 8 (fun j => P (8 + j)), gA cI (a 14) 8 (fun j => P (16 + j)), gA cI (a 15) 8 (fun j => P (24 + j)), gA cI (a 16) 8 (fun j => P (32 + j))]) fp_X9_151 dX9_readReel_12 0 rfl rfl rfl rfl rfl ?_
  refine g_iconst (pc := 15) X dX9_readReel_15 ?_
  refine g_istore_n (pc := 16) X (lv' := [(0, .ref q), (1, gi 0)]) dX9_readReel_16 rfl rfl ?_
  refine g_iconst (pc := 17) X dX9_readReel_17 ?_
  refine g_istore_n (pc := 18) X (lv' := [(0, .ref q), (1, gi 0), (2, gi 0)]) dX9_readReel_18 rfl rfl ?_
  refine g_aload_n (pc := 19) X dX9_readReel_19 0 rfl ?_
  refine gc_Vxv (pc := 20) X (wr := [gA cI (a 12) 8 (fun j => P (0 + j)), gA cI (a 13) 8 (fun j => P (8 + j)), gA cI (a 14) 8 (fun j => P (16 + j)), gA cI (a 15) 8 (fun j => P (24 + j)), gA cI (a 16) 8 (fun j => P (32 + j))]) (c_X9_next l D cI cZ q a al 0 st so va (-1) 0 sg su A hA (by omega)) lm_X9_144 dX9_readReel_20 [0, 1] [2, 3, 4, 5, 6] rfl rfl rfl rfl (by decide) rfl rfl rfl rfl rfl rfl (fun x20 hx20 => ?_)
  refine g_pick (cn := 0) (sl := 0) (st := []) X (ws' := [oM q a al (toE A (rnE A 4 0)) (rnE A 4 0) (toK A (rnE A 4 0)) (toV A (rnE A 4 0)) (-1) 0 sg su, gA cI (a 0) 1140 A, gA cI (a 12) 8 (fun j => P (0 + j)), gA cI (a 13) 8 (fun j => P (8 + j)), gA cI (a 14) 8 (fun j => P (16 + j)), gA cI (a 15) 8 (fun j => P (24 + j)), gA cI (a 16) 8 (fun j => P (32 + j))]) [5, 6, 0, 1, 2, 3, 4] rfl rfl ?_
  have L23 : ∀ (n23 : Nat) (at_ : Int) (st : Int) (so : Int) (va : Int) (fa : Int) (pl : Int) (f : Int) (ls : Int) (P2 : Int → Int), (mst A R 0 at_ st so va fa 0 f pl P2) → ((0 ≤ pl ∧ pl ≤ 8) ∧ (0 ≤ f ∧ f ≤ 999) ∧ 0 ≤ ls ∧ ls ≤ 999) → (fa = -1 → ls = (if pl = 0 then 0 else P2 (pl - 1))) → (if fa = -1 then (A 2 + 1 - st).toNat else 0) < n23 → V 0 0 [oM q a al at_ st so va fa pl sg su, gA cI (a 0) 1140 A, gA cI (a 12) 8 (fun j => P2 (0 + j)), gA cI (a 13) 8 (fun j => P2 (8 + j)), gA cI (a 14) 8 (fun j => P2 (16 + j)), gA cI (a 15) 8 (fun j => P2 (24 + j)), gA cI (a 16) 8 (fun j => P2 (32 + j))] 23 [(0, .ref q), (1, gi f), (2, gi ls)] [] := by
    intro n23
    induction n23 with
    | zero => intro at_ st so va fa pl f ls P2 hm hb hl hn23; exact absurd hn23 (Nat.not_lt_zero _)
    | succ n23 ih23 =>
      intro at_ st so va fa pl f ls P2 hm hb hl hn23
      have hmb := hm.1
      refine g_aload_n (pc := 23) X dX9_readReel_23 0 rfl ?_
      refine g_get (pc := 24) X fl_X9_141 dX9_readReel_24 0 (v := gi fa) rfl rfl ?_
      refine g_iconst (pc := 27) X dX9_readReel_27 ?_
      refine g_icmpne (pc := 28) X 226 dX9_readReel_28 (by decide) (by omega) (by omega) (fun h28 => ?_) (fun h28 => ?_)
      · refine g_aload_n (pc := 226) X dX9_readReel_226 0 rfl ?_
        refine g_get (pc := 227) X fl_X9_141 dX9_readReel_227 0 (v := gi fa) rfl rfl ?_
        refine g_iconst (pc := 230) X dX9_readReel_230 ?_
        refine g_icmpne (pc := 231) X 238 dX9_readReel_231 (by decide) (by omega) (by omega) (fun h231 => ?_) (fun h231 => absurd h231 (by omega))
        refine g_iconst (pc := 238) X dX9_readReel_238 ?_
        exact ret _ _ _ _ _ _ dX9_readReel_239 rfl rfl (fun _ => Or.inl rfl) (gPxi_e (_, _, _, _, _, _, _) (by exact (gB_f (fun c => by have c2 := mst_f hm (by omega); have c3 := hC.1; omega)).symm) rfl (by have c2 := mst_f hm (by omega); exact ⟨c2.symm.trans hC.1, fun z => by have c3 := hC.1; omega⟩))
      · refine g_aload_n (pc := 31) X dX9_readReel_31 0 rfl ?_
        refine g_get (pc := 32) X fl_X9_138 dX9_readReel_32 0 (v := gi so) rfl rfl ?_
        refine g_ifeq (pc := 35) X 226 dX9_readReel_35 (by decide) (by omega) (fun h35 => ?_) (fun h35 => ?_)
        · refine g_aload_n (pc := 226) X dX9_readReel_226 0 rfl ?_
          refine g_get (pc := 227) X fl_X9_141 dX9_readReel_227 0 (v := gi fa) rfl rfl ?_
          refine g_iconst (pc := 230) X dX9_readReel_230 ?_
          refine g_icmpne (pc := 231) X 238 dX9_readReel_231 (by decide) (by omega) (by omega) (fun h231 => absurd h231 (by omega)) (fun h231 => ?_)
          refine g_iconst (pc := 234) X dX9_readReel_234 ?_
          refine g_goto (pc := 235) X 239 dX9_readReel_235 (by decide) ?_
          exact ret _ _ _ _ _ _ dX9_readReel_239 rfl rfl (fun _ => Or.inr rfl) (gPxi_e (_, _, _, _, _, _, _) (by exact (gB_t (hC.1.symm.trans (by rw [mst_y hm (by omega) (by omega)]))).symm) rfl (by have c := hC; rw [mst_y hm (by omega) (by omega)] at c; rw [show fa = -1 by omega]; exact c))
        · refine g_aload_n (pc := 38) X dX9_readReel_38 0 rfl ?_
          refine g_get (pc := 39) X fl_X9_138 dX9_readReel_39 0 (v := gi so) rfl rfl ?_
          refine g_istore_n (pc := 42) X (lv' := [(0, .ref q), (1, gi f), (2, gi ls), (3, gi so)]) dX9_readReel_42 rfl rfl ?_
          refine g_aload_n (pc := 43) X dX9_readReel_43 0 rfl ?_
          refine g_iload_n (pc := 44) X dX9_readReel_44 3 rfl ?_
          refine g_iconst (pc := 45) X dX9_readReel_45 ?_
          refine g_icmpeq (pc := 46) X 63 dX9_readReel_46 (by decide) (by omega) (by omega) (fun h46 => ?_) (fun h46 => ?_)
          · refine g_iconst (pc := 63) X dX9_readReel_63 ?_
            refine g_goto (pc := 64) X 68 dX9_readReel_64 (by decide) ?_
            refine gc_Vxi (pc := 68) X (wr := [gA cI (a 12) 8 (fun j => P2 (0 + j)), gA cI (a 13) 8 (fun j => P2 (8 + j)), gA cI (a 14) 8 (fun j => P2 (16 + j)), gA cI (a 15) 8 (fun j => P2 (24 + j)), gA cI (a 16) 8 (fun j => P2 (32 + j))]) (c_X9_due l D cI cZ q a al at_ st so va fa pl sg su A 1 hA (by omega) (by omega) (by omega) (by omega)) lm_X9_147 dX9_readReel_68 [0, 1] [2, 3, 4, 5, 6] rfl rfl rfl rfl (by decide) rfl rfl rfl rfl rfl rfl (fun x68 hx68 => ?_)
            obtain ⟨at2_68, st2_68, so2_68, va2_68, fa2_68⟩ := x68
            have hd_68 : dun A fa 1 at_ st so va at2_68 st2_68 so2_68 va2_68 fa2_68 := hx68
            refine g_pick (cn := 0) (sl := 0) (st := gi va :: []) X (ws' := [oM q a al at2_68 st2_68 so2_68 va2_68 fa2_68 pl sg su, gA cI (a 0) 1140 A, gA cI (a 12) 8 (fun j => P2 (0 + j)), gA cI (a 13) 8 (fun j => P2 (8 + j)), gA cI (a 14) 8 (fun j => P2 (16 + j)), gA cI (a 15) 8 (fun j => P2 (24 + j)), gA cI (a 16) 8 (fun j => P2 (32 + j))]) [5, 6, 0, 1, 2, 3, 4] rfl rfl ?_
            have hm1 : mst A R (st + 1) at2_68 st2_68 so2_68 va2_68 fa2_68 5 f (pl) P2 := mst_far hm hd_68 (by omega)
            have hf1 : fa2_68 = -1 := ((hd_68.1 (by omega) rfl).2.2.2.2)
            have hm1b := hm1.1
            refine g_pop (pc := 71) X dX9_readReel_71 rfl ?_
            refine g_aload_n (pc := 72) X dX9_readReel_72 0 rfl ?_
            refine g_get (pc := 73) X fl_X9_141 dX9_readReel_73 0 (v := gi fa2_68) rfl rfl ?_
            refine g_iconst (pc := 76) X dX9_readReel_76 ?_
            refine g_icmpne (pc := 77) X 96 dX9_readReel_77 (by decide) (by omega) (by omega) (fun h77 => absurd h77 (by omega)) (fun h77 => ?_)
            refine g_iload_n (pc := 80) X dX9_readReel_80 3 rfl ?_
            refine g_iconst (pc := 81) X dX9_readReel_81 ?_
            refine g_icmpne (pc := 82) X 96 dX9_readReel_82 (by decide) (by omega) (by omega) (fun h82 => absurd h82 (by omega)) (fun h82 => ?_)
            refine g_aload_n (pc := 85) X dX9_readReel_85 0 rfl ?_
            refine g_iconst (pc := 86) X dX9_readReel_86 ?_
            refine g_bipush (pc := 87) X dX9_readReel_87 (by decide +kernel) ?_
            refine gc_Vxi (pc := 89) X (wr := [gA cI (a 12) 8 (fun j => P2 (0 + j)), gA cI (a 13) 8 (fun j => P2 (8 + j)), gA cI (a 14) 8 (fun j => P2 (16 + j)), gA cI (a 15) 8 (fun j => P2 (24 + j)), gA cI (a 16) 8 (fun j => P2 (32 + j))]) (c_X9_number l D cI cZ q a al at2_68 st2_68 so2_68 va2_68 fa2_68 pl sg su A 0 9 hA (by omega) (by omega) (by omega) (by omega) (by omega) (by omega) (by omega)) lm_X9_154 dX9_readReel_89 [0, 1] [2, 3, 4, 5, 6] rfl rfl rfl rfl (by decide) rfl rfl rfl rfl rfl rfl (fun x89 hx89 => ?_)
            obtain ⟨at2_89, st2_89, so2_89, va2_89, fa2_89⟩ := x89
            have hd_89 : dun A fa2_68 (nmZ so2_68 va2_68 0 9) at2_68 st2_68 so2_68 va2_68 at2_89 st2_89 so2_89 va2_89 fa2_89 := hx89
            refine g_pick (cn := 0) (sl := 0) (st := gi va2_68 :: []) X (ws' := [oM q a al at2_89 st2_89 so2_89 va2_89 fa2_89 pl sg su, gA cI (a 0) 1140 A, gA cI (a 12) 8 (fun j => P2 (0 + j)), gA cI (a 13) 8 (fun j => P2 (8 + j)), gA cI (a 14) 8 (fun j => P2 (16 + j)), gA cI (a 15) 8 (fun j => P2 (24 + j)), gA cI (a 16) 8 (fun j => P2 (32 + j))]) [5, 6, 0, 1, 2, 3, 4] rfl rfl ?_
            have hm2 : mst A R (st + 1) at2_89 st2_89 so2_89 va2_89 fa2_89 6 va2_68 (pl) P2 := mst_num hm1 hd_89 (by decide) (fun c1 c2 => by unfold tkM; rw [if_neg (by decide), if_neg (by decide), if_neg (by decide), if_neg (by decide), if_pos rfl, gB_t c2]) (fun c => ⟨hm1b.2.2.1.1, by unfold tkM at c; rw [if_neg (by decide), if_neg (by decide), if_neg (by decide), if_neg (by decide), if_pos rfl] at c; exact gB_10.mp c⟩)
            have hm2b := hm2.1
            refine g_istore_n (pc := 92) X (lv' := [(0, .ref q), (1, gi va2_68), (2, gi ls), (3, gi so)]) dX9_readReel_92 rfl rfl ?_
            refine g_goto (pc := 93) X 205 dX9_readReel_93 (by decide) ?_
            refine g_aload_n (pc := 205) X dX9_readReel_205 0 rfl ?_
            refine g_aload_n (pc := 206) X dX9_readReel_206 0 rfl ?_
            refine g_get (pc := 207) X fl_X9_138 dX9_readReel_207 0 (v := gi so2_89) rfl rfl ?_
            refine g_iconst (pc := 210) X dX9_readReel_210 ?_
            refine g_icmpne (pc := 211) X 218 dX9_readReel_211 (by decide) (by omega) (by omega) (fun h211 => ?_) (fun h211 => ?_)
            · refine g_iconst (pc := 218) X dX9_readReel_218 ?_
              refine gc_Vxi (pc := 219) X (wr := [gA cI (a 12) 8 (fun j => P2 (0 + j)), gA cI (a 13) 8 (fun j => P2 (8 + j)), gA cI (a 14) 8 (fun j => P2 (16 + j)), gA cI (a 15) 8 (fun j => P2 (24 + j)), gA cI (a 16) 8 (fun j => P2 (32 + j))]) (c_X9_due l D cI cZ q a al at2_89 st2_89 so2_89 va2_89 fa2_89 pl sg su A 0 hA (by omega) (by omega) (by omega) (by omega)) lm_X9_147 dX9_readReel_219 [0, 1] [2, 3, 4, 5, 6] rfl rfl rfl rfl (by decide) rfl rfl rfl rfl rfl rfl (fun x219 hx219 => ?_)
              obtain ⟨at2_219, st2_219, so2_219, va2_219, fa2_219⟩ := x219
              have hd_219 : dun A fa2_89 0 at2_89 st2_89 so2_89 va2_89 at2_219 st2_219 so2_219 va2_219 fa2_219 := hx219
              refine g_pick (cn := 0) (sl := 0) (st := gi va2_89 :: []) X (ws' := [oM q a al at2_219 st2_219 so2_219 va2_219 fa2_219 pl sg su, gA cI (a 0) 1140 A, gA cI (a 12) 8 (fun j => P2 (0 + j)), gA cI (a 13) 8 (fun j => P2 (8 + j)), gA cI (a 14) 8 (fun j => P2 (16 + j)), gA cI (a 15) 8 (fun j => P2 (24 + j)), gA cI (a 16) 8 (fun j => P2 (32 + j))]) [5, 6, 0, 1, 2, 3, 4] rfl rfl ?_
              have hmz : mst A R (st + 1) at2_219 st2_219 so2_219 va2_219 fa2_219 0 (va2_68) (pl) P2 := mst_stop0 hm2 hd_219 (by omega)
              have hmzb := hmz.1
              refine g_pop (pc := 222) X dX9_readReel_222 rfl ?_
              refine g_goto (pc := 223) X 23 dX9_readReel_223 (by decide) ?_
              refine g_lsub X [0, 1, 2] rfl ?_
              exact ih23 _ _ _ _ _ _ _ _ _ (mst_w (by omega) hmz) (by omega) (fun c => hl (by omega)) (by rw [if_pos (show fa = -1 by omega)] at hn23; split; (rename_i cz; have := (mst_z hmz cz).2.1; omega); omega)
            · refine g_iconst (pc := 214) X dX9_readReel_214 ?_
              refine g_goto (pc := 215) X 219 dX9_readReel_215 (by decide) ?_
              refine gc_Vxi (pc := 219) X (wr := [gA cI (a 12) 8 (fun j => P2 (0 + j)), gA cI (a 13) 8 (fun j => P2 (8 + j)), gA cI (a 14) 8 (fun j => P2 (16 + j)), gA cI (a 15) 8 (fun j => P2 (24 + j)), gA cI (a 16) 8 (fun j => P2 (32 + j))]) (c_X9_due l D cI cZ q a al at2_89 st2_89 so2_89 va2_89 fa2_89 pl sg su A 1 hA (by omega) (by omega) (by omega) (by omega)) lm_X9_147 dX9_readReel_219 [0, 1] [2, 3, 4, 5, 6] rfl rfl rfl rfl (by decide) rfl rfl rfl rfl rfl rfl (fun x219 hx219 => ?_)
              obtain ⟨at2_219, st2_219, so2_219, va2_219, fa2_219⟩ := x219
              have hd_219 : dun A fa2_89 1 at2_89 st2_89 so2_89 va2_89 at2_219 st2_219 so2_219 va2_219 fa2_219 := hx219
              refine g_pick (cn := 0) (sl := 0) (st := gi va2_89 :: []) X (ws' := [oM q a al at2_219 st2_219 so2_219 va2_219 fa2_219 pl sg su, gA cI (a 0) 1140 A, gA cI (a 12) 8 (fun j => P2 (0 + j)), gA cI (a 13) 8 (fun j => P2 (8 + j)), gA cI (a 14) 8 (fun j => P2 (16 + j)), gA cI (a 15) 8 (fun j => P2 (24 + j)), gA cI (a 16) 8 (fun j => P2 (32 + j))]) [5, 6, 0, 1, 2, 3, 4] rfl rfl ?_
              have hmz : mst A R (st + 1) at2_219 st2_219 so2_219 va2_219 fa2_219 0 (va2_68) (pl) P2 := mst_stop1 hm2 hd_219 (by omega)
              have hmzb := hmz.1
              refine g_pop (pc := 222) X dX9_readReel_222 rfl ?_
              refine g_goto (pc := 223) X 23 dX9_readReel_223 (by decide) ?_
              refine g_lsub X [0, 1, 2] rfl ?_
              exact ih23 _ _ _ _ _ _ _ _ _ (mst_w (by omega) hmz) (by omega) (fun c => hl (by omega)) (by rw [if_pos (show fa = -1 by omega)] at hn23; split; (rename_i cz; have := (mst_z hmz cz).2.1; omega); omega)
          · refine g_iload_n (pc := 49) X dX9_readReel_49 3 rfl ?_
            refine g_iconst (pc := 50) X dX9_readReel_50 ?_
            refine g_icmpne (pc := 51) X 67 dX9_readReel_51 (by decide) (by omega) (by omega) (fun h51 => ?_) (fun h51 => ?_)
            · refine g_iconst (pc := 67) X dX9_readReel_67 ?_
              refine gc_Vxi (pc := 68) X (wr := [gA cI (a 12) 8 (fun j => P2 (0 + j)), gA cI (a 13) 8 (fun j => P2 (8 + j)), gA cI (a 14) 8 (fun j => P2 (16 + j)), gA cI (a 15) 8 (fun j => P2 (24 + j)), gA cI (a 16) 8 (fun j => P2 (32 + j))]) (c_X9_due l D cI cZ q a al at_ st so va fa pl sg su A 0 hA (by omega) (by omega) (by omega) (by omega)) lm_X9_147 dX9_readReel_68 [0, 1] [2, 3, 4, 5, 6] rfl rfl rfl rfl (by decide) rfl rfl rfl rfl rfl rfl (fun x68 hx68 => ?_)
              obtain ⟨at2_68, st2_68, so2_68, va2_68, fa2_68⟩ := x68
              have hd_68 : dun A fa 0 at_ st so va at2_68 st2_68 so2_68 va2_68 fa2_68 := hx68
              refine g_pick (cn := 0) (sl := 0) (st := gi va :: []) X (ws' := [oM q a al at2_68 st2_68 so2_68 va2_68 fa2_68 pl sg su, gA cI (a 0) 1140 A, gA cI (a 12) 8 (fun j => P2 (0 + j)), gA cI (a 13) 8 (fun j => P2 (8 + j)), gA cI (a 14) 8 (fun j => P2 (16 + j)), gA cI (a 15) 8 (fun j => P2 (24 + j)), gA cI (a 16) 8 (fun j => P2 (32 + j))]) [5, 6, 0, 1, 2, 3, 4] rfl rfl ?_
              have hm1 : mst A R (st + 1) at2_68 st2_68 so2_68 va2_68 fa2_68 6 f (pl) P2 := mst_no hm hd_68 ⟨by omega, by omega, by omega⟩
              have hf1 : fa2_68 = st := ((hd_68.2.1 (by omega) (by decide)).1)
              have hm1b := hm1.1
              refine g_pop (pc := 71) X dX9_readReel_71 rfl ?_
              refine g_aload_n (pc := 72) X dX9_readReel_72 0 rfl ?_
              refine g_get (pc := 73) X fl_X9_141 dX9_readReel_73 0 (v := gi fa2_68) rfl rfl ?_
              refine g_iconst (pc := 76) X dX9_readReel_76 ?_
              refine g_icmpne (pc := 77) X 96 dX9_readReel_77 (by decide) (by omega) (by omega) (fun h77 => ?_) (fun h77 => absurd h77 (by omega))
              refine g_aload_n (pc := 96) X dX9_readReel_96 0 rfl ?_
              refine g_get (pc := 97) X fl_X9_141 dX9_readReel_97 0 (v := gi fa2_68) rfl rfl ?_
              refine g_iconst (pc := 100) X dX9_readReel_100 ?_
              refine g_icmpne (pc := 101) X 205 dX9_readReel_101 (by decide) (by omega) (by omega) (fun h101 => ?_) (fun h101 => absurd h101 (by omega))
              refine g_aload_n (pc := 205) X dX9_readReel_205 0 rfl ?_
              refine g_aload_n (pc := 206) X dX9_readReel_206 0 rfl ?_
              refine g_get (pc := 207) X fl_X9_138 dX9_readReel_207 0 (v := gi so2_68) rfl rfl ?_
              refine g_iconst (pc := 210) X dX9_readReel_210 ?_
              refine g_icmpne (pc := 211) X 218 dX9_readReel_211 (by decide) (by omega) (by omega) (fun h211 => ?_) (fun h211 => ?_)
              · refine g_iconst (pc := 218) X dX9_readReel_218 ?_
                refine gc_Vxi (pc := 219) X (wr := [gA cI (a 12) 8 (fun j => P2 (0 + j)), gA cI (a 13) 8 (fun j => P2 (8 + j)), gA cI (a 14) 8 (fun j => P2 (16 + j)), gA cI (a 15) 8 (fun j => P2 (24 + j)), gA cI (a 16) 8 (fun j => P2 (32 + j))]) (c_X9_due l D cI cZ q a al at2_68 st2_68 so2_68 va2_68 fa2_68 pl sg su A 0 hA (by omega) (by omega) (by omega) (by omega)) lm_X9_147 dX9_readReel_219 [0, 1] [2, 3, 4, 5, 6] rfl rfl rfl rfl (by decide) rfl rfl rfl rfl rfl rfl (fun x219 hx219 => ?_)
                obtain ⟨at2_219, st2_219, so2_219, va2_219, fa2_219⟩ := x219
                have hd_219 : dun A fa2_68 0 at2_68 st2_68 so2_68 va2_68 at2_219 st2_219 so2_219 va2_219 fa2_219 := hx219
                refine g_pick (cn := 0) (sl := 0) (st := gi va2_68 :: []) X (ws' := [oM q a al at2_219 st2_219 so2_219 va2_219 fa2_219 pl sg su, gA cI (a 0) 1140 A, gA cI (a 12) 8 (fun j => P2 (0 + j)), gA cI (a 13) 8 (fun j => P2 (8 + j)), gA cI (a 14) 8 (fun j => P2 (16 + j)), gA cI (a 15) 8 (fun j => P2 (24 + j)), gA cI (a 16) 8 (fun j => P2 (32 + j))]) [5, 6, 0, 1, 2, 3, 4] rfl rfl ?_
                have hmz : mst A R (st + 1) at2_219 st2_219 so2_219 va2_219 fa2_219 0 (f) (pl) P2 := mst_stop0 hm1 hd_219 (by omega)
                have hmzb := hmz.1
                refine g_pop (pc := 222) X dX9_readReel_222 rfl ?_
                refine g_goto (pc := 223) X 23 dX9_readReel_223 (by decide) ?_
                refine g_lsub X [0, 1, 2] rfl ?_
                exact ih23 _ _ _ _ _ _ _ _ _ (mst_w (by omega) hmz) (by omega) (fun c => hl (by omega)) (by rw [if_pos (show fa = -1 by omega)] at hn23; split; (rename_i cz; have := (mst_z hmz cz).2.1; omega); omega)
              · refine g_iconst (pc := 214) X dX9_readReel_214 ?_
                refine g_goto (pc := 215) X 219 dX9_readReel_215 (by decide) ?_
                refine gc_Vxi (pc := 219) X (wr := [gA cI (a 12) 8 (fun j => P2 (0 + j)), gA cI (a 13) 8 (fun j => P2 (8 + j)), gA cI (a 14) 8 (fun j => P2 (16 + j)), gA cI (a 15) 8 (fun j => P2 (24 + j)), gA cI (a 16) 8 (fun j => P2 (32 + j))]) (c_X9_due l D cI cZ q a al at2_68 st2_68 so2_68 va2_68 fa2_68 pl sg su A 1 hA (by omega) (by omega) (by omega) (by omega)) lm_X9_147 dX9_readReel_219 [0, 1] [2, 3, 4, 5, 6] rfl rfl rfl rfl (by decide) rfl rfl rfl rfl rfl rfl (fun x219 hx219 => ?_)
                obtain ⟨at2_219, st2_219, so2_219, va2_219, fa2_219⟩ := x219
                have hd_219 : dun A fa2_68 1 at2_68 st2_68 so2_68 va2_68 at2_219 st2_219 so2_219 va2_219 fa2_219 := hx219
                refine g_pick (cn := 0) (sl := 0) (st := gi va2_68 :: []) X (ws' := [oM q a al at2_219 st2_219 so2_219 va2_219 fa2_219 pl sg su, gA cI (a 0) 1140 A, gA cI (a 12) 8 (fun j => P2 (0 + j)), gA cI (a 13) 8 (fun j => P2 (8 + j)), gA cI (a 14) 8 (fun j => P2 (16 + j)), gA cI (a 15) 8 (fun j => P2 (24 + j)), gA cI (a 16) 8 (fun j => P2 (32 + j))]) [5, 6, 0, 1, 2, 3, 4] rfl rfl ?_
                have hmz : mst A R (st + 1) at2_219 st2_219 so2_219 va2_219 fa2_219 0 (f) (pl) P2 := mst_stop1 hm1 hd_219 (by omega)
                have hmzb := hmz.1
                refine g_pop (pc := 222) X dX9_readReel_222 rfl ?_
                refine g_goto (pc := 223) X 23 dX9_readReel_223 (by decide) ?_
                refine g_lsub X [0, 1, 2] rfl ?_
                exact ih23 _ _ _ _ _ _ _ _ _ (mst_w (by omega) hmz) (by omega) (fun c => hl (by omega)) (by rw [if_pos (show fa = -1 by omega)] at hn23; split; (rename_i cz; have := (mst_z hmz cz).2.1; omega); omega)
            · refine g_aload_n (pc := 54) X dX9_readReel_54 0 rfl ?_
              refine g_get (pc := 55) X fl_X9_151 dX9_readReel_55 0 (v := gi pl) rfl rfl ?_
              refine g_bipush (pc := 58) X dX9_readReel_58 (by decide +kernel) ?_
              refine g_icmpge (pc := 60) X 67 dX9_readReel_60 (by decide) (by omega) (by omega) (fun h60 => ?_) (fun h60 => ?_)
              · refine g_iconst (pc := 67) X dX9_readReel_67 ?_
                refine gc_Vxi (pc := 68) X (wr := [gA cI (a 12) 8 (fun j => P2 (0 + j)), gA cI (a 13) 8 (fun j => P2 (8 + j)), gA cI (a 14) 8 (fun j => P2 (16 + j)), gA cI (a 15) 8 (fun j => P2 (24 + j)), gA cI (a 16) 8 (fun j => P2 (32 + j))]) (c_X9_due l D cI cZ q a al at_ st so va fa pl sg su A 0 hA (by omega) (by omega) (by omega) (by omega)) lm_X9_147 dX9_readReel_68 [0, 1] [2, 3, 4, 5, 6] rfl rfl rfl rfl (by decide) rfl rfl rfl rfl rfl rfl (fun x68 hx68 => ?_)
                obtain ⟨at2_68, st2_68, so2_68, va2_68, fa2_68⟩ := x68
                have hd_68 : dun A fa 0 at_ st so va at2_68 st2_68 so2_68 va2_68 fa2_68 := hx68
                refine g_pick (cn := 0) (sl := 0) (st := gi va :: []) X (ws' := [oM q a al at2_68 st2_68 so2_68 va2_68 fa2_68 pl sg su, gA cI (a 0) 1140 A, gA cI (a 12) 8 (fun j => P2 (0 + j)), gA cI (a 13) 8 (fun j => P2 (8 + j)), gA cI (a 14) 8 (fun j => P2 (16 + j)), gA cI (a 15) 8 (fun j => P2 (24 + j)), gA cI (a 16) 8 (fun j => P2 (32 + j))]) [5, 6, 0, 1, 2, 3, 4] rfl rfl ?_
                have hm1 : mst A R (st + 1) at2_68 st2_68 so2_68 va2_68 fa2_68 6 f (pl) P2 := mst_no hm hd_68 ⟨by omega, by omega, by omega⟩
                have hf1 : fa2_68 = st := ((hd_68.2.1 (by omega) (by decide)).1)
                have hm1b := hm1.1
                refine g_pop (pc := 71) X dX9_readReel_71 rfl ?_
                refine g_aload_n (pc := 72) X dX9_readReel_72 0 rfl ?_
                refine g_get (pc := 73) X fl_X9_141 dX9_readReel_73 0 (v := gi fa2_68) rfl rfl ?_
                refine g_iconst (pc := 76) X dX9_readReel_76 ?_
                refine g_icmpne (pc := 77) X 96 dX9_readReel_77 (by decide) (by omega) (by omega) (fun h77 => ?_) (fun h77 => absurd h77 (by omega))
                refine g_aload_n (pc := 96) X dX9_readReel_96 0 rfl ?_
                refine g_get (pc := 97) X fl_X9_141 dX9_readReel_97 0 (v := gi fa2_68) rfl rfl ?_
                refine g_iconst (pc := 100) X dX9_readReel_100 ?_
                refine g_icmpne (pc := 101) X 205 dX9_readReel_101 (by decide) (by omega) (by omega) (fun h101 => ?_) (fun h101 => absurd h101 (by omega))
                refine g_aload_n (pc := 205) X dX9_readReel_205 0 rfl ?_
                refine g_aload_n (pc := 206) X dX9_readReel_206 0 rfl ?_
                refine g_get (pc := 207) X fl_X9_138 dX9_readReel_207 0 (v := gi so2_68) rfl rfl ?_
                refine g_iconst (pc := 210) X dX9_readReel_210 ?_
                refine g_icmpne (pc := 211) X 218 dX9_readReel_211 (by decide) (by omega) (by omega) (fun h211 => ?_) (fun h211 => ?_)
                · refine g_iconst (pc := 218) X dX9_readReel_218 ?_
                  refine gc_Vxi (pc := 219) X (wr := [gA cI (a 12) 8 (fun j => P2 (0 + j)), gA cI (a 13) 8 (fun j => P2 (8 + j)), gA cI (a 14) 8 (fun j => P2 (16 + j)), gA cI (a 15) 8 (fun j => P2 (24 + j)), gA cI (a 16) 8 (fun j => P2 (32 + j))]) (c_X9_due l D cI cZ q a al at2_68 st2_68 so2_68 va2_68 fa2_68 pl sg su A 0 hA (by omega) (by omega) (by omega) (by omega)) lm_X9_147 dX9_readReel_219 [0, 1] [2, 3, 4, 5, 6] rfl rfl rfl rfl (by decide) rfl rfl rfl rfl rfl rfl (fun x219 hx219 => ?_)
                  obtain ⟨at2_219, st2_219, so2_219, va2_219, fa2_219⟩ := x219
                  have hd_219 : dun A fa2_68 0 at2_68 st2_68 so2_68 va2_68 at2_219 st2_219 so2_219 va2_219 fa2_219 := hx219
                  refine g_pick (cn := 0) (sl := 0) (st := gi va2_68 :: []) X (ws' := [oM q a al at2_219 st2_219 so2_219 va2_219 fa2_219 pl sg su, gA cI (a 0) 1140 A, gA cI (a 12) 8 (fun j => P2 (0 + j)), gA cI (a 13) 8 (fun j => P2 (8 + j)), gA cI (a 14) 8 (fun j => P2 (16 + j)), gA cI (a 15) 8 (fun j => P2 (24 + j)), gA cI (a 16) 8 (fun j => P2 (32 + j))]) [5, 6, 0, 1, 2, 3, 4] rfl rfl ?_
                  have hmz : mst A R (st + 1) at2_219 st2_219 so2_219 va2_219 fa2_219 0 (f) (pl) P2 := mst_stop0 hm1 hd_219 (by omega)
                  have hmzb := hmz.1
                  refine g_pop (pc := 222) X dX9_readReel_222 rfl ?_
                  refine g_goto (pc := 223) X 23 dX9_readReel_223 (by decide) ?_
                  refine g_lsub X [0, 1, 2] rfl ?_
                  exact ih23 _ _ _ _ _ _ _ _ _ (mst_w (by omega) hmz) (by omega) (fun c => hl (by omega)) (by rw [if_pos (show fa = -1 by omega)] at hn23; split; (rename_i cz; have := (mst_z hmz cz).2.1; omega); omega)
                · refine g_iconst (pc := 214) X dX9_readReel_214 ?_
                  refine g_goto (pc := 215) X 219 dX9_readReel_215 (by decide) ?_
                  refine gc_Vxi (pc := 219) X (wr := [gA cI (a 12) 8 (fun j => P2 (0 + j)), gA cI (a 13) 8 (fun j => P2 (8 + j)), gA cI (a 14) 8 (fun j => P2 (16 + j)), gA cI (a 15) 8 (fun j => P2 (24 + j)), gA cI (a 16) 8 (fun j => P2 (32 + j))]) (c_X9_due l D cI cZ q a al at2_68 st2_68 so2_68 va2_68 fa2_68 pl sg su A 1 hA (by omega) (by omega) (by omega) (by omega)) lm_X9_147 dX9_readReel_219 [0, 1] [2, 3, 4, 5, 6] rfl rfl rfl rfl (by decide) rfl rfl rfl rfl rfl rfl (fun x219 hx219 => ?_)
                  obtain ⟨at2_219, st2_219, so2_219, va2_219, fa2_219⟩ := x219
                  have hd_219 : dun A fa2_68 1 at2_68 st2_68 so2_68 va2_68 at2_219 st2_219 so2_219 va2_219 fa2_219 := hx219
                  refine g_pick (cn := 0) (sl := 0) (st := gi va2_68 :: []) X (ws' := [oM q a al at2_219 st2_219 so2_219 va2_219 fa2_219 pl sg su, gA cI (a 0) 1140 A, gA cI (a 12) 8 (fun j => P2 (0 + j)), gA cI (a 13) 8 (fun j => P2 (8 + j)), gA cI (a 14) 8 (fun j => P2 (16 + j)), gA cI (a 15) 8 (fun j => P2 (24 + j)), gA cI (a 16) 8 (fun j => P2 (32 + j))]) [5, 6, 0, 1, 2, 3, 4] rfl rfl ?_
                  have hmz : mst A R (st + 1) at2_219 st2_219 so2_219 va2_219 fa2_219 0 (f) (pl) P2 := mst_stop1 hm1 hd_219 (by omega)
                  have hmzb := hmz.1
                  refine g_pop (pc := 222) X dX9_readReel_222 rfl ?_
                  refine g_goto (pc := 223) X 23 dX9_readReel_223 (by decide) ?_
                  refine g_lsub X [0, 1, 2] rfl ?_
                  exact ih23 _ _ _ _ _ _ _ _ _ (mst_w (by omega) hmz) (by omega) (fun c => hl (by omega)) (by rw [if_pos (show fa = -1 by omega)] at hn23; split; (rename_i cz; have := (mst_z hmz cz).2.1; omega); omega)
              · refine g_iconst (pc := 63) X dX9_readReel_63 ?_
                refine g_goto (pc := 64) X 68 dX9_readReel_64 (by decide) ?_
                refine gc_Vxi (pc := 68) X (wr := [gA cI (a 12) 8 (fun j => P2 (0 + j)), gA cI (a 13) 8 (fun j => P2 (8 + j)), gA cI (a 14) 8 (fun j => P2 (16 + j)), gA cI (a 15) 8 (fun j => P2 (24 + j)), gA cI (a 16) 8 (fun j => P2 (32 + j))]) (c_X9_due l D cI cZ q a al at_ st so va fa pl sg su A 1 hA (by omega) (by omega) (by omega) (by omega)) lm_X9_147 dX9_readReel_68 [0, 1] [2, 3, 4, 5, 6] rfl rfl rfl rfl (by decide) rfl rfl rfl rfl rfl rfl (fun x68 hx68 => ?_)
                obtain ⟨at2_68, st2_68, so2_68, va2_68, fa2_68⟩ := x68
                have hd_68 : dun A fa 1 at_ st so va at2_68 st2_68 so2_68 va2_68 fa2_68 := hx68
                refine g_pick (cn := 0) (sl := 0) (st := gi va :: []) X (ws' := [oM q a al at2_68 st2_68 so2_68 va2_68 fa2_68 pl sg su, gA cI (a 0) 1140 A, gA cI (a 12) 8 (fun j => P2 (0 + j)), gA cI (a 13) 8 (fun j => P2 (8 + j)), gA cI (a 14) 8 (fun j => P2 (16 + j)), gA cI (a 15) 8 (fun j => P2 (24 + j)), gA cI (a 16) 8 (fun j => P2 (32 + j))]) [5, 6, 0, 1, 2, 3, 4] rfl rfl ?_
                have hm1 : mst A R (st + 1) at2_68 st2_68 so2_68 va2_68 fa2_68 1 f (pl) P2 := mst_at hm hd_68 (by omega) (by omega)
                have hf1 : fa2_68 = -1 := ((hd_68.1 (by omega) rfl).2.2.2.2)
                have hm1b := hm1.1
                refine g_pop (pc := 71) X dX9_readReel_71 rfl ?_
                refine g_aload_n (pc := 72) X dX9_readReel_72 0 rfl ?_
                refine g_get (pc := 73) X fl_X9_141 dX9_readReel_73 0 (v := gi fa2_68) rfl rfl ?_
                refine g_iconst (pc := 76) X dX9_readReel_76 ?_
                refine g_icmpne (pc := 77) X 96 dX9_readReel_77 (by decide) (by omega) (by omega) (fun h77 => absurd h77 (by omega)) (fun h77 => ?_)
                refine g_iload_n (pc := 80) X dX9_readReel_80 3 rfl ?_
                refine g_iconst (pc := 81) X dX9_readReel_81 ?_
                refine g_icmpne (pc := 82) X 96 dX9_readReel_82 (by decide) (by omega) (by omega) (fun h82 => ?_) (fun h82 => absurd h82 (by omega))
                refine g_aload_n (pc := 96) X dX9_readReel_96 0 rfl ?_
                refine g_get (pc := 97) X fl_X9_141 dX9_readReel_97 0 (v := gi fa2_68) rfl rfl ?_
                refine g_iconst (pc := 100) X dX9_readReel_100 ?_
                refine g_icmpne (pc := 101) X 205 dX9_readReel_101 (by decide) (by omega) (by omega) (fun h101 => absurd h101 (by omega)) (fun h101 => ?_)
                have hlp := hl (by omega)
                refine g_aload_n (pc := 104) X dX9_readReel_104 0 rfl ?_
                refine g_get (pc := 105) X fl_X9_26 dX9_readReel_105 0 (v := .ref (a 12)) rfl rfl ?_
                refine g_aload_n (pc := 108) X dX9_readReel_108 0 rfl ?_
                refine g_get (pc := 109) X fl_X9_151 dX9_readReel_109 0 (v := gi pl) rfl rfl ?_
                refine g_aload_n (pc := 112) X dX9_readReel_112 0 rfl ?_
                refine g_iload_n (pc := 113) X dX9_readReel_113 2 rfl ?_
                refine g_sipush (pc := 114) X dX9_readReel_114 (by decide +kernel) ?_
                refine gc_Vxi (pc := 117) X (wr := [gA cI (a 12) 8 (fun j => P2 (0 + j)), gA cI (a 13) 8 (fun j => P2 (8 + j)), gA cI (a 14) 8 (fun j => P2 (16 + j)), gA cI (a 15) 8 (fun j => P2 (24 + j)), gA cI (a 16) 8 (fun j => P2 (32 + j))]) (c_X9_number l D cI cZ q a al at2_68 st2_68 so2_68 va2_68 fa2_68 pl sg su A ls 999 hA (by omega) (by omega) (by omega) (by omega) (by omega) (by omega) (by omega)) lm_X9_154 dX9_readReel_117 [0, 1] [2, 3, 4, 5, 6] rfl rfl rfl rfl (by decide) rfl rfl rfl rfl rfl rfl (fun x117 hx117 => ?_)
                obtain ⟨at2_117, st2_117, so2_117, va2_117, fa2_117⟩ := x117
                have hd_117 : dun A fa2_68 (nmZ so2_68 va2_68 ls 999) at2_68 st2_68 so2_68 va2_68 at2_117 st2_117 so2_117 va2_117 fa2_117 := hx117
                refine g_pick (cn := 0) (sl := 0) (st := gi va2_68 :: gi pl :: .ref (a 12) :: []) X (ws' := [oM q a al at2_117 st2_117 so2_117 va2_117 fa2_117 pl sg su, gA cI (a 0) 1140 A, gA cI (a 12) 8 (fun j => P2 (0 + j)), gA cI (a 13) 8 (fun j => P2 (8 + j)), gA cI (a 14) 8 (fun j => P2 (16 + j)), gA cI (a 15) 8 (fun j => P2 (24 + j)), gA cI (a 16) 8 (fun j => P2 (32 + j))]) [5, 6, 0, 1, 2, 3, 4] rfl rfl ?_
                have hm2 : mst A R (st + 1) at2_117 st2_117 so2_117 va2_117 fa2_117 2 f (pl) (gupd P2 pl va2_68) := mst_num hm1 hd_117 (by decide) (fun c1 c2 => by unfold tkM; rw [if_pos rfl, gB_t (by rw [← hlp]; exact ⟨c1, c2⟩)]) (fun c => by unfold tkM at c; rw [if_pos rfl] at c; have c3 := gB_10.mp c; rw [← hlp] at c3; exact c3)
                have hm2b := hm2.1
                refine g_iast (pc := 120) X (ws' := [oM q a al at2_117 st2_117 so2_117 va2_117 fa2_117 pl sg su, gA cI (a 0) 1140 A, gA cI (a 12) 8 (gupd (fun j => P2 (0 + j)) pl va2_68), gA cI (a 13) 8 (fun j => P2 (8 + j)), gA cI (a 14) 8 (fun j => P2 (16 + j)), gA cI (a 15) 8 (fun j => P2 (24 + j)), gA cI (a 16) 8 (fun j => P2 (32 + j))]) dX9_readReel_120 2 rfl (by omega) rfl rfl ?_
                refine g_ws (ws' := [oM q a al at2_117 st2_117 so2_117 va2_117 fa2_117 pl sg su, gA cI (a 0) 1140 A, gA cI (a 12) 8 (fun j => (gupd P2 pl va2_68) (0 + j)), gA cI (a 13) 8 (fun j => (gupd P2 pl va2_68) (8 + j)), gA cI (a 14) 8 (fun j => (gupd P2 pl va2_68) (16 + j)), gA cI (a 15) 8 (fun j => (gupd P2 pl va2_68) (24 + j)), gA cI (a 16) 8 (fun j => (gupd P2 pl va2_68) (32 + j))]) (by rw [(show gA cI (a 12) 8 (gupd (fun j => P2 (0 + j)) pl va2_68) = gA cI (a 12) 8 (fun j => (gupd P2 pl va2_68) (0 + j)) from gA_ext (fun j j0 j1 => (by unfold gupd; (try dsimp only); (repeat' split) <;> first | rfl | (exfalso; omega)))), (show gA cI (a 13) 8 (fun j => P2 (8 + j)) = gA cI (a 13) 8 (fun j => (gupd P2 pl va2_68) (8 + j)) from gA_ext (fun j j0 j1 => (by unfold gupd; (try dsimp only); (repeat' split) <;> first | rfl | (exfalso; omega)))), (show gA cI (a 14) 8 (fun j => P2 (16 + j)) = gA cI (a 14) 8 (fun j => (gupd P2 pl va2_68) (16 + j)) from gA_ext (fun j j0 j1 => (by unfold gupd; (try dsimp only); (repeat' split) <;> first | rfl | (exfalso; omega)))), (show gA cI (a 15) 8 (fun j => P2 (24 + j)) = gA cI (a 15) 8 (fun j => (gupd P2 pl va2_68) (24 + j)) from gA_ext (fun j j0 j1 => (by unfold gupd; (try dsimp only); (repeat' split) <;> first | rfl | (exfalso; omega)))), (show gA cI (a 16) 8 (fun j => P2 (32 + j)) = gA cI (a 16) 8 (fun j => (gupd P2 pl va2_68) (32 + j)) from gA_ext (fun j j0 j1 => (by unfold gupd; (try dsimp only); (repeat' split) <;> first | rfl | (exfalso; omega))))]) ?_
                refine g_aload_n (pc := 121) X dX9_readReel_121 0 rfl ?_
                refine g_get (pc := 122) X fl_X9_29 dX9_readReel_122 0 (v := .ref (a 13)) rfl rfl ?_
                refine g_aload_n (pc := 125) X dX9_readReel_125 0 rfl ?_
                refine g_get (pc := 126) X fl_X9_151 dX9_readReel_126 0 (v := gi pl) rfl rfl ?_
                refine g_aload_n (pc := 129) X dX9_readReel_129 0 rfl ?_
                refine g_iconst (pc := 130) X dX9_readReel_130 ?_
                refine g_aload_n (pc := 131) X dX9_readReel_131 0 rfl ?_
                refine g_get (pc := 132) X fl_X9_7 dX9_readReel_132 0 (v := .ref (a 0)) rfl rfl ?_
                refine g_iconst (pc := 135) X dX9_readReel_135 ?_
                refine g_iald (pc := 136) X dX9_readReel_136 1 rfl (by omega) rfl ?_
                refine g_iconst (pc := 137) X dX9_readReel_137 ?_
                refine g_isub (pc := 138) X dX9_readReel_138 ?_
                refine gc_Vxi (pc := 139) X (wr := [gA cI (a 12) 8 (fun j => (gupd P2 pl va2_68) (0 + j)), gA cI (a 13) 8 (fun j => (gupd P2 pl va2_68) (8 + j)), gA cI (a 14) 8 (fun j => (gupd P2 pl va2_68) (16 + j)), gA cI (a 15) 8 (fun j => (gupd P2 pl va2_68) (24 + j)), gA cI (a 16) 8 (fun j => (gupd P2 pl va2_68) (32 + j))]) (c_X9_number l D cI cZ q a al at2_117 st2_117 so2_117 va2_117 fa2_117 pl sg su A 0 (A 0 - 1) hA (by omega) (by omega) (by omega) (by omega) (by omega) (by omega) (by omega)) lm_X9_154 dX9_readReel_139 [0, 1] [2, 3, 4, 5, 6] rfl rfl rfl rfl (by decide) rfl rfl rfl rfl rfl rfl (fun x139 hx139 => ?_)
                obtain ⟨at2_139, st2_139, so2_139, va2_139, fa2_139⟩ := x139
                have hd_139 : dun A fa2_117 (nmZ so2_117 va2_117 0 (A 0 - 1)) at2_117 st2_117 so2_117 va2_117 at2_139 st2_139 so2_139 va2_139 fa2_139 := hx139
                refine g_pick (cn := 0) (sl := 0) (st := gi va2_117 :: gi pl :: .ref (a 13) :: []) X (ws' := [oM q a al at2_139 st2_139 so2_139 va2_139 fa2_139 pl sg su, gA cI (a 0) 1140 A, gA cI (a 12) 8 (fun j => (gupd P2 pl va2_68) (0 + j)), gA cI (a 13) 8 (fun j => (gupd P2 pl va2_68) (8 + j)), gA cI (a 14) 8 (fun j => (gupd P2 pl va2_68) (16 + j)), gA cI (a 15) 8 (fun j => (gupd P2 pl va2_68) (24 + j)), gA cI (a 16) 8 (fun j => (gupd P2 pl va2_68) (32 + j))]) [5, 6, 0, 1, 2, 3, 4] rfl rfl ?_
                have hm3 : mst A R (st + 1) at2_139 st2_139 so2_139 va2_139 fa2_139 3 f (pl) (gupd (gupd P2 pl va2_68) (8 + pl) va2_117) := mst_num hm2 hd_139 (by decide) (fun c1 c2 => by unfold tkM; rw [if_neg (by decide), if_pos rfl, gB_t (⟨c1, c2⟩)]) (fun c => by unfold tkM at c; rw [if_neg (by decide), if_pos rfl] at c; have c3 := gB_10.mp c; exact c3)
                have hm3b := hm3.1
                refine g_iast (pc := 142) X (ws' := [oM q a al at2_139 st2_139 so2_139 va2_139 fa2_139 pl sg su, gA cI (a 0) 1140 A, gA cI (a 12) 8 (fun j => (gupd P2 pl va2_68) (0 + j)), gA cI (a 13) 8 (gupd (fun j => (gupd P2 pl va2_68) (8 + j)) pl va2_117), gA cI (a 14) 8 (fun j => (gupd P2 pl va2_68) (16 + j)), gA cI (a 15) 8 (fun j => (gupd P2 pl va2_68) (24 + j)), gA cI (a 16) 8 (fun j => (gupd P2 pl va2_68) (32 + j))]) dX9_readReel_142 3 rfl (by omega) rfl rfl ?_
                refine g_ws (ws' := [oM q a al at2_139 st2_139 so2_139 va2_139 fa2_139 pl sg su, gA cI (a 0) 1140 A, gA cI (a 12) 8 (fun j => (gupd (gupd P2 pl va2_68) (8 + pl) va2_117) (0 + j)), gA cI (a 13) 8 (fun j => (gupd (gupd P2 pl va2_68) (8 + pl) va2_117) (8 + j)), gA cI (a 14) 8 (fun j => (gupd (gupd P2 pl va2_68) (8 + pl) va2_117) (16 + j)), gA cI (a 15) 8 (fun j => (gupd (gupd P2 pl va2_68) (8 + pl) va2_117) (24 + j)), gA cI (a 16) 8 (fun j => (gupd (gupd P2 pl va2_68) (8 + pl) va2_117) (32 + j))]) (by rw [(show gA cI (a 12) 8 (fun j => (gupd P2 pl va2_68) (0 + j)) = gA cI (a 12) 8 (fun j => (gupd (gupd P2 pl va2_68) (8 + pl) va2_117) (0 + j)) from gA_ext (fun j j0 j1 => (by unfold gupd; (try dsimp only); (repeat' split) <;> first | rfl | (exfalso; omega)))), (show gA cI (a 13) 8 (gupd (fun j => (gupd P2 pl va2_68) (8 + j)) pl va2_117) = gA cI (a 13) 8 (fun j => (gupd (gupd P2 pl va2_68) (8 + pl) va2_117) (8 + j)) from gA_ext (fun j j0 j1 => (by unfold gupd; (try dsimp only); (repeat' split) <;> first | rfl | (exfalso; omega)))), (show gA cI (a 14) 8 (fun j => (gupd P2 pl va2_68) (16 + j)) = gA cI (a 14) 8 (fun j => (gupd (gupd P2 pl va2_68) (8 + pl) va2_117) (16 + j)) from gA_ext (fun j j0 j1 => (by unfold gupd; (try dsimp only); (repeat' split) <;> first | rfl | (exfalso; omega)))), (show gA cI (a 15) 8 (fun j => (gupd P2 pl va2_68) (24 + j)) = gA cI (a 15) 8 (fun j => (gupd (gupd P2 pl va2_68) (8 + pl) va2_117) (24 + j)) from gA_ext (fun j j0 j1 => (by unfold gupd; (try dsimp only); (repeat' split) <;> first | rfl | (exfalso; omega)))), (show gA cI (a 16) 8 (fun j => (gupd P2 pl va2_68) (32 + j)) = gA cI (a 16) 8 (fun j => (gupd (gupd P2 pl va2_68) (8 + pl) va2_117) (32 + j)) from gA_ext (fun j j0 j1 => (by unfold gupd; (try dsimp only); (repeat' split) <;> first | rfl | (exfalso; omega))))]) ?_
                refine g_aload_n (pc := 143) X dX9_readReel_143 0 rfl ?_
                refine g_get (pc := 144) X fl_X9_32 dX9_readReel_144 0 (v := .ref (a 14)) rfl rfl ?_
                refine g_aload_n (pc := 147) X dX9_readReel_147 0 rfl ?_
                refine g_get (pc := 148) X fl_X9_151 dX9_readReel_148 0 (v := gi pl) rfl rfl ?_
                refine g_aload_n (pc := 151) X dX9_readReel_151 0 rfl ?_
                refine g_iconst (pc := 152) X dX9_readReel_152 ?_
                refine g_bipush (pc := 153) X dX9_readReel_153 (by decide +kernel) ?_
                refine gc_Vxi (pc := 155) X (wr := [gA cI (a 12) 8 (fun j => (gupd (gupd P2 pl va2_68) (8 + pl) va2_117) (0 + j)), gA cI (a 13) 8 (fun j => (gupd (gupd P2 pl va2_68) (8 + pl) va2_117) (8 + j)), gA cI (a 14) 8 (fun j => (gupd (gupd P2 pl va2_68) (8 + pl) va2_117) (16 + j)), gA cI (a 15) 8 (fun j => (gupd (gupd P2 pl va2_68) (8 + pl) va2_117) (24 + j)), gA cI (a 16) 8 (fun j => (gupd (gupd P2 pl va2_68) (8 + pl) va2_117) (32 + j))]) (c_X9_number l D cI cZ q a al at2_139 st2_139 so2_139 va2_139 fa2_139 pl sg su A 0 9 hA (by omega) (by omega) (by omega) (by omega) (by omega) (by omega) (by omega)) lm_X9_154 dX9_readReel_155 [0, 1] [2, 3, 4, 5, 6] rfl rfl rfl rfl (by decide) rfl rfl rfl rfl rfl rfl (fun x155 hx155 => ?_)
                obtain ⟨at2_155, st2_155, so2_155, va2_155, fa2_155⟩ := x155
                have hd_155 : dun A fa2_139 (nmZ so2_139 va2_139 0 9) at2_139 st2_139 so2_139 va2_139 at2_155 st2_155 so2_155 va2_155 fa2_155 := hx155
                refine g_pick (cn := 0) (sl := 0) (st := gi va2_139 :: gi pl :: .ref (a 14) :: []) X (ws' := [oM q a al at2_155 st2_155 so2_155 va2_155 fa2_155 pl sg su, gA cI (a 0) 1140 A, gA cI (a 12) 8 (fun j => (gupd (gupd P2 pl va2_68) (8 + pl) va2_117) (0 + j)), gA cI (a 13) 8 (fun j => (gupd (gupd P2 pl va2_68) (8 + pl) va2_117) (8 + j)), gA cI (a 14) 8 (fun j => (gupd (gupd P2 pl va2_68) (8 + pl) va2_117) (16 + j)), gA cI (a 15) 8 (fun j => (gupd (gupd P2 pl va2_68) (8 + pl) va2_117) (24 + j)), gA cI (a 16) 8 (fun j => (gupd (gupd P2 pl va2_68) (8 + pl) va2_117) (32 + j))]) [5, 6, 0, 1, 2, 3, 4] rfl rfl ?_
                have hm4 : mst A R (st + 1) at2_155 st2_155 so2_155 va2_155 fa2_155 4 f (pl) (gupd (gupd (gupd P2 pl va2_68) (8 + pl) va2_117) (16 + pl) va2_139) := mst_num hm3 hd_155 (by decide) (fun c1 c2 => by unfold tkM; rw [if_neg (by decide), if_neg (by decide), if_pos rfl, gB_t (⟨c1, c2⟩)]) (fun c => by unfold tkM at c; rw [if_neg (by decide), if_neg (by decide), if_pos rfl] at c; have c3 := gB_10.mp c; exact c3)
                have hm4b := hm4.1
                refine g_iast (pc := 158) X (ws' := [oM q a al at2_155 st2_155 so2_155 va2_155 fa2_155 pl sg su, gA cI (a 0) 1140 A, gA cI (a 12) 8 (fun j => (gupd (gupd P2 pl va2_68) (8 + pl) va2_117) (0 + j)), gA cI (a 13) 8 (fun j => (gupd (gupd P2 pl va2_68) (8 + pl) va2_117) (8 + j)), gA cI (a 14) 8 (gupd (fun j => (gupd (gupd P2 pl va2_68) (8 + pl) va2_117) (16 + j)) pl va2_139), gA cI (a 15) 8 (fun j => (gupd (gupd P2 pl va2_68) (8 + pl) va2_117) (24 + j)), gA cI (a 16) 8 (fun j => (gupd (gupd P2 pl va2_68) (8 + pl) va2_117) (32 + j))]) dX9_readReel_158 4 rfl (by omega) rfl rfl ?_
                refine g_ws (ws' := [oM q a al at2_155 st2_155 so2_155 va2_155 fa2_155 pl sg su, gA cI (a 0) 1140 A, gA cI (a 12) 8 (fun j => (gupd (gupd (gupd P2 pl va2_68) (8 + pl) va2_117) (16 + pl) va2_139) (0 + j)), gA cI (a 13) 8 (fun j => (gupd (gupd (gupd P2 pl va2_68) (8 + pl) va2_117) (16 + pl) va2_139) (8 + j)), gA cI (a 14) 8 (fun j => (gupd (gupd (gupd P2 pl va2_68) (8 + pl) va2_117) (16 + pl) va2_139) (16 + j)), gA cI (a 15) 8 (fun j => (gupd (gupd (gupd P2 pl va2_68) (8 + pl) va2_117) (16 + pl) va2_139) (24 + j)), gA cI (a 16) 8 (fun j => (gupd (gupd (gupd P2 pl va2_68) (8 + pl) va2_117) (16 + pl) va2_139) (32 + j))]) (by rw [(show gA cI (a 12) 8 (fun j => (gupd (gupd P2 pl va2_68) (8 + pl) va2_117) (0 + j)) = gA cI (a 12) 8 (fun j => (gupd (gupd (gupd P2 pl va2_68) (8 + pl) va2_117) (16 + pl) va2_139) (0 + j)) from gA_ext (fun j j0 j1 => (by unfold gupd; (try dsimp only); (repeat' split) <;> first | rfl | (exfalso; omega)))), (show gA cI (a 13) 8 (fun j => (gupd (gupd P2 pl va2_68) (8 + pl) va2_117) (8 + j)) = gA cI (a 13) 8 (fun j => (gupd (gupd (gupd P2 pl va2_68) (8 + pl) va2_117) (16 + pl) va2_139) (8 + j)) from gA_ext (fun j j0 j1 => (by unfold gupd; (try dsimp only); (repeat' split) <;> first | rfl | (exfalso; omega)))), (show gA cI (a 14) 8 (gupd (fun j => (gupd (gupd P2 pl va2_68) (8 + pl) va2_117) (16 + j)) pl va2_139) = gA cI (a 14) 8 (fun j => (gupd (gupd (gupd P2 pl va2_68) (8 + pl) va2_117) (16 + pl) va2_139) (16 + j)) from gA_ext (fun j j0 j1 => (by unfold gupd; (try dsimp only); (repeat' split) <;> first | rfl | (exfalso; omega)))), (show gA cI (a 15) 8 (fun j => (gupd (gupd P2 pl va2_68) (8 + pl) va2_117) (24 + j)) = gA cI (a 15) 8 (fun j => (gupd (gupd (gupd P2 pl va2_68) (8 + pl) va2_117) (16 + pl) va2_139) (24 + j)) from gA_ext (fun j j0 j1 => (by unfold gupd; (try dsimp only); (repeat' split) <;> first | rfl | (exfalso; omega)))), (show gA cI (a 16) 8 (fun j => (gupd (gupd P2 pl va2_68) (8 + pl) va2_117) (32 + j)) = gA cI (a 16) 8 (fun j => (gupd (gupd (gupd P2 pl va2_68) (8 + pl) va2_117) (16 + pl) va2_139) (32 + j)) from gA_ext (fun j j0 j1 => (by unfold gupd; (try dsimp only); (repeat' split) <;> first | rfl | (exfalso; omega))))]) ?_
                refine g_aload_n (pc := 159) X dX9_readReel_159 0 rfl ?_
                refine g_get (pc := 160) X fl_X9_35 dX9_readReel_160 0 (v := .ref (a 15)) rfl rfl ?_
                refine g_aload_n (pc := 163) X dX9_readReel_163 0 rfl ?_
                refine g_get (pc := 164) X fl_X9_151 dX9_readReel_164 0 (v := gi pl) rfl rfl ?_
                refine g_aload_n (pc := 167) X dX9_readReel_167 0 rfl ?_
                refine g_iconst (pc := 168) X dX9_readReel_168 ?_
                refine g_bipush (pc := 169) X dX9_readReel_169 (by decide +kernel) ?_
                refine gc_Vxi (pc := 171) X (wr := [gA cI (a 12) 8 (fun j => (gupd (gupd (gupd P2 pl va2_68) (8 + pl) va2_117) (16 + pl) va2_139) (0 + j)), gA cI (a 13) 8 (fun j => (gupd (gupd (gupd P2 pl va2_68) (8 + pl) va2_117) (16 + pl) va2_139) (8 + j)), gA cI (a 14) 8 (fun j => (gupd (gupd (gupd P2 pl va2_68) (8 + pl) va2_117) (16 + pl) va2_139) (16 + j)), gA cI (a 15) 8 (fun j => (gupd (gupd (gupd P2 pl va2_68) (8 + pl) va2_117) (16 + pl) va2_139) (24 + j)), gA cI (a 16) 8 (fun j => (gupd (gupd (gupd P2 pl va2_68) (8 + pl) va2_117) (16 + pl) va2_139) (32 + j))]) (c_X9_number l D cI cZ q a al at2_155 st2_155 so2_155 va2_155 fa2_155 pl sg su A 0 9 hA (by omega) (by omega) (by omega) (by omega) (by omega) (by omega) (by omega)) lm_X9_154 dX9_readReel_171 [0, 1] [2, 3, 4, 5, 6] rfl rfl rfl rfl (by decide) rfl rfl rfl rfl rfl rfl (fun x171 hx171 => ?_)
                obtain ⟨at2_171, st2_171, so2_171, va2_171, fa2_171⟩ := x171
                have hd_171 : dun A fa2_155 (nmZ so2_155 va2_155 0 9) at2_155 st2_155 so2_155 va2_155 at2_171 st2_171 so2_171 va2_171 fa2_171 := hx171
                refine g_pick (cn := 0) (sl := 0) (st := gi va2_155 :: gi pl :: .ref (a 15) :: []) X (ws' := [oM q a al at2_171 st2_171 so2_171 va2_171 fa2_171 pl sg su, gA cI (a 0) 1140 A, gA cI (a 12) 8 (fun j => (gupd (gupd (gupd P2 pl va2_68) (8 + pl) va2_117) (16 + pl) va2_139) (0 + j)), gA cI (a 13) 8 (fun j => (gupd (gupd (gupd P2 pl va2_68) (8 + pl) va2_117) (16 + pl) va2_139) (8 + j)), gA cI (a 14) 8 (fun j => (gupd (gupd (gupd P2 pl va2_68) (8 + pl) va2_117) (16 + pl) va2_139) (16 + j)), gA cI (a 15) 8 (fun j => (gupd (gupd (gupd P2 pl va2_68) (8 + pl) va2_117) (16 + pl) va2_139) (24 + j)), gA cI (a 16) 8 (fun j => (gupd (gupd (gupd P2 pl va2_68) (8 + pl) va2_117) (16 + pl) va2_139) (32 + j))]) [5, 6, 0, 1, 2, 3, 4] rfl rfl ?_
                have hm5 : mst A R (st + 1) at2_171 st2_171 so2_171 va2_171 fa2_171 6 f (pl + 1) (gupd (gupd (gupd (gupd (gupd P2 pl va2_68) (8 + pl) va2_117) (16 + pl) va2_139) (24 + pl) va2_155) (32 + pl) f) := mst_num hm4 hd_171 (by decide) (fun c1 c2 => by unfold tkM; rw [if_neg (by decide), if_neg (by decide), if_neg (by decide), if_pos rfl, if_pos ⟨c1, c2⟩]) (fun c => by unfold tkM at c; rw [if_neg (by decide), if_neg (by decide), if_neg (by decide), if_pos rfl] at c; rcases Classical.em (0 ≤ va2_155 ∧ va2_155 ≤ 9) with z | z; exact z; rw [if_neg z] at c; (try dsimp only at c); omega)
                have hm5b := hm5.1
                refine g_iast (pc := 174) X (ws' := [oM q a al at2_171 st2_171 so2_171 va2_171 fa2_171 pl sg su, gA cI (a 0) 1140 A, gA cI (a 12) 8 (fun j => (gupd (gupd (gupd P2 pl va2_68) (8 + pl) va2_117) (16 + pl) va2_139) (0 + j)), gA cI (a 13) 8 (fun j => (gupd (gupd (gupd P2 pl va2_68) (8 + pl) va2_117) (16 + pl) va2_139) (8 + j)), gA cI (a 14) 8 (fun j => (gupd (gupd (gupd P2 pl va2_68) (8 + pl) va2_117) (16 + pl) va2_139) (16 + j)), gA cI (a 15) 8 (gupd (fun j => (gupd (gupd (gupd P2 pl va2_68) (8 + pl) va2_117) (16 + pl) va2_139) (24 + j)) pl va2_155), gA cI (a 16) 8 (fun j => (gupd (gupd (gupd P2 pl va2_68) (8 + pl) va2_117) (16 + pl) va2_139) (32 + j))]) dX9_readReel_174 5 rfl (by omega) rfl rfl ?_
                refine g_ws (ws' := [oM q a al at2_171 st2_171 so2_171 va2_171 fa2_171 pl sg su, gA cI (a 0) 1140 A, gA cI (a 12) 8 (fun j => (gupd (gupd (gupd (gupd P2 pl va2_68) (8 + pl) va2_117) (16 + pl) va2_139) (24 + pl) va2_155) (0 + j)), gA cI (a 13) 8 (fun j => (gupd (gupd (gupd (gupd P2 pl va2_68) (8 + pl) va2_117) (16 + pl) va2_139) (24 + pl) va2_155) (8 + j)), gA cI (a 14) 8 (fun j => (gupd (gupd (gupd (gupd P2 pl va2_68) (8 + pl) va2_117) (16 + pl) va2_139) (24 + pl) va2_155) (16 + j)), gA cI (a 15) 8 (fun j => (gupd (gupd (gupd (gupd P2 pl va2_68) (8 + pl) va2_117) (16 + pl) va2_139) (24 + pl) va2_155) (24 + j)), gA cI (a 16) 8 (fun j => (gupd (gupd (gupd (gupd P2 pl va2_68) (8 + pl) va2_117) (16 + pl) va2_139) (24 + pl) va2_155) (32 + j))]) (by rw [(show gA cI (a 12) 8 (fun j => (gupd (gupd (gupd P2 pl va2_68) (8 + pl) va2_117) (16 + pl) va2_139) (0 + j)) = gA cI (a 12) 8 (fun j => (gupd (gupd (gupd (gupd P2 pl va2_68) (8 + pl) va2_117) (16 + pl) va2_139) (24 + pl) va2_155) (0 + j)) from gA_ext (fun j j0 j1 => (by unfold gupd; (try dsimp only); (repeat' split) <;> first | rfl | (exfalso; omega)))), (show gA cI (a 13) 8 (fun j => (gupd (gupd (gupd P2 pl va2_68) (8 + pl) va2_117) (16 + pl) va2_139) (8 + j)) = gA cI (a 13) 8 (fun j => (gupd (gupd (gupd (gupd P2 pl va2_68) (8 + pl) va2_117) (16 + pl) va2_139) (24 + pl) va2_155) (8 + j)) from gA_ext (fun j j0 j1 => (by unfold gupd; (try dsimp only); (repeat' split) <;> first | rfl | (exfalso; omega)))), (show gA cI (a 14) 8 (fun j => (gupd (gupd (gupd P2 pl va2_68) (8 + pl) va2_117) (16 + pl) va2_139) (16 + j)) = gA cI (a 14) 8 (fun j => (gupd (gupd (gupd (gupd P2 pl va2_68) (8 + pl) va2_117) (16 + pl) va2_139) (24 + pl) va2_155) (16 + j)) from gA_ext (fun j j0 j1 => (by unfold gupd; (try dsimp only); (repeat' split) <;> first | rfl | (exfalso; omega)))), (show gA cI (a 15) 8 (gupd (fun j => (gupd (gupd (gupd P2 pl va2_68) (8 + pl) va2_117) (16 + pl) va2_139) (24 + j)) pl va2_155) = gA cI (a 15) 8 (fun j => (gupd (gupd (gupd (gupd P2 pl va2_68) (8 + pl) va2_117) (16 + pl) va2_139) (24 + pl) va2_155) (24 + j)) from gA_ext (fun j j0 j1 => (by unfold gupd; (try dsimp only); (repeat' split) <;> first | rfl | (exfalso; omega)))), (show gA cI (a 16) 8 (fun j => (gupd (gupd (gupd P2 pl va2_68) (8 + pl) va2_117) (16 + pl) va2_139) (32 + j)) = gA cI (a 16) 8 (fun j => (gupd (gupd (gupd (gupd P2 pl va2_68) (8 + pl) va2_117) (16 + pl) va2_139) (24 + pl) va2_155) (32 + j)) from gA_ext (fun j j0 j1 => (by unfold gupd; (try dsimp only); (repeat' split) <;> first | rfl | (exfalso; omega))))]) ?_
                refine g_aload_n (pc := 175) X dX9_readReel_175 0 rfl ?_
                refine g_get (pc := 176) X fl_X9_38 dX9_readReel_176 0 (v := .ref (a 16)) rfl rfl ?_
                refine g_aload_n (pc := 179) X dX9_readReel_179 0 rfl ?_
                refine g_get (pc := 180) X fl_X9_151 dX9_readReel_180 0 (v := gi pl) rfl rfl ?_
                refine g_iload_n (pc := 183) X dX9_readReel_183 1 rfl ?_
                refine g_iast (pc := 184) X (ws' := [oM q a al at2_171 st2_171 so2_171 va2_171 fa2_171 pl sg su, gA cI (a 0) 1140 A, gA cI (a 12) 8 (fun j => (gupd (gupd (gupd (gupd P2 pl va2_68) (8 + pl) va2_117) (16 + pl) va2_139) (24 + pl) va2_155) (0 + j)), gA cI (a 13) 8 (fun j => (gupd (gupd (gupd (gupd P2 pl va2_68) (8 + pl) va2_117) (16 + pl) va2_139) (24 + pl) va2_155) (8 + j)), gA cI (a 14) 8 (fun j => (gupd (gupd (gupd (gupd P2 pl va2_68) (8 + pl) va2_117) (16 + pl) va2_139) (24 + pl) va2_155) (16 + j)), gA cI (a 15) 8 (fun j => (gupd (gupd (gupd (gupd P2 pl va2_68) (8 + pl) va2_117) (16 + pl) va2_139) (24 + pl) va2_155) (24 + j)), gA cI (a 16) 8 (gupd (fun j => (gupd (gupd (gupd (gupd P2 pl va2_68) (8 + pl) va2_117) (16 + pl) va2_139) (24 + pl) va2_155) (32 + j)) pl f)]) dX9_readReel_184 6 rfl (by omega) rfl rfl ?_
                refine g_ws (ws' := [oM q a al at2_171 st2_171 so2_171 va2_171 fa2_171 pl sg su, gA cI (a 0) 1140 A, gA cI (a 12) 8 (fun j => (gupd (gupd (gupd (gupd (gupd P2 pl va2_68) (8 + pl) va2_117) (16 + pl) va2_139) (24 + pl) va2_155) (32 + pl) f) (0 + j)), gA cI (a 13) 8 (fun j => (gupd (gupd (gupd (gupd (gupd P2 pl va2_68) (8 + pl) va2_117) (16 + pl) va2_139) (24 + pl) va2_155) (32 + pl) f) (8 + j)), gA cI (a 14) 8 (fun j => (gupd (gupd (gupd (gupd (gupd P2 pl va2_68) (8 + pl) va2_117) (16 + pl) va2_139) (24 + pl) va2_155) (32 + pl) f) (16 + j)), gA cI (a 15) 8 (fun j => (gupd (gupd (gupd (gupd (gupd P2 pl va2_68) (8 + pl) va2_117) (16 + pl) va2_139) (24 + pl) va2_155) (32 + pl) f) (24 + j)), gA cI (a 16) 8 (fun j => (gupd (gupd (gupd (gupd (gupd P2 pl va2_68) (8 + pl) va2_117) (16 + pl) va2_139) (24 + pl) va2_155) (32 + pl) f) (32 + j))]) (by rw [(show gA cI (a 12) 8 (fun j => (gupd (gupd (gupd (gupd P2 pl va2_68) (8 + pl) va2_117) (16 + pl) va2_139) (24 + pl) va2_155) (0 + j)) = gA cI (a 12) 8 (fun j => (gupd (gupd (gupd (gupd (gupd P2 pl va2_68) (8 + pl) va2_117) (16 + pl) va2_139) (24 + pl) va2_155) (32 + pl) f) (0 + j)) from gA_ext (fun j j0 j1 => (by unfold gupd; (try dsimp only); (repeat' split) <;> first | rfl | (exfalso; omega)))), (show gA cI (a 13) 8 (fun j => (gupd (gupd (gupd (gupd P2 pl va2_68) (8 + pl) va2_117) (16 + pl) va2_139) (24 + pl) va2_155) (8 + j)) = gA cI (a 13) 8 (fun j => (gupd (gupd (gupd (gupd (gupd P2 pl va2_68) (8 + pl) va2_117) (16 + pl) va2_139) (24 + pl) va2_155) (32 + pl) f) (8 + j)) from gA_ext (fun j j0 j1 => (by unfold gupd; (try dsimp only); (repeat' split) <;> first | rfl | (exfalso; omega)))), (show gA cI (a 14) 8 (fun j => (gupd (gupd (gupd (gupd P2 pl va2_68) (8 + pl) va2_117) (16 + pl) va2_139) (24 + pl) va2_155) (16 + j)) = gA cI (a 14) 8 (fun j => (gupd (gupd (gupd (gupd (gupd P2 pl va2_68) (8 + pl) va2_117) (16 + pl) va2_139) (24 + pl) va2_155) (32 + pl) f) (16 + j)) from gA_ext (fun j j0 j1 => (by unfold gupd; (try dsimp only); (repeat' split) <;> first | rfl | (exfalso; omega)))), (show gA cI (a 15) 8 (fun j => (gupd (gupd (gupd (gupd P2 pl va2_68) (8 + pl) va2_117) (16 + pl) va2_139) (24 + pl) va2_155) (24 + j)) = gA cI (a 15) 8 (fun j => (gupd (gupd (gupd (gupd (gupd P2 pl va2_68) (8 + pl) va2_117) (16 + pl) va2_139) (24 + pl) va2_155) (32 + pl) f) (24 + j)) from gA_ext (fun j j0 j1 => (by unfold gupd; (try dsimp only); (repeat' split) <;> first | rfl | (exfalso; omega)))), (show gA cI (a 16) 8 (gupd (fun j => (gupd (gupd (gupd (gupd P2 pl va2_68) (8 + pl) va2_117) (16 + pl) va2_139) (24 + pl) va2_155) (32 + j)) pl f) = gA cI (a 16) 8 (fun j => (gupd (gupd (gupd (gupd (gupd P2 pl va2_68) (8 + pl) va2_117) (16 + pl) va2_139) (24 + pl) va2_155) (32 + pl) f) (32 + j)) from gA_ext (fun j j0 j1 => (by unfold gupd; (try dsimp only); (repeat' split) <;> first | rfl | (exfalso; omega))))]) ?_
                refine g_aload_n (pc := 185) X dX9_readReel_185 0 rfl ?_
                refine g_get (pc := 186) X fl_X9_26 dX9_readReel_186 0 (v := .ref (a 12)) rfl rfl ?_
                refine g_aload_n (pc := 189) X dX9_readReel_189 0 rfl ?_
                refine g_get (pc := 190) X fl_X9_151 dX9_readReel_190 0 (v := gi pl) rfl rfl ?_
                refine g_iald (pc := 193) X dX9_readReel_193 2 rfl (by omega) rfl ?_
                refine g_top (b := (gupd (gupd (gupd (gupd (gupd P2 pl va2_68) (8 + pl) va2_117) (16 + pl) va2_139) (24 + pl) va2_155) (32 + pl) f) pl) (congrArg (gupd (gupd (gupd (gupd (gupd P2 pl va2_68) (8 + pl) va2_117) (16 + pl) va2_139) (24 + pl) va2_155) (32 + pl) f) (by omega)) ?_
                refine g_top (b := va2_68) (by rw [gupd_n (by omega), gupd_n (by omega), gupd_n (by omega), gupd_n (by omega), gupd_s]) ?_
                refine g_istore_n (pc := 194) X (lv' := [(0, .ref q), (1, gi f), (2, gi va2_68), (3, gi so)]) dX9_readReel_194 rfl rfl ?_
                refine g_aload_n (pc := 195) X dX9_readReel_195 0 rfl ?_
                refine g_dup (pc := 196) X dX9_readReel_196 rfl ?_
                refine g_get (pc := 197) X fl_X9_151 dX9_readReel_197 0 (v := gi pl) rfl rfl ?_
                refine g_iconst (pc := 200) X dX9_readReel_200 ?_
                refine g_iadd (pc := 201) X dX9_readReel_201 ?_
                refine g_put (pc := 202) X (ws' := [oM q a al at2_171 st2_171 so2_171 va2_171 fa2_171 (pl + 1) sg su, gA cI (a 0) 1140 A, gA cI (a 12) 8 (fun j => (gupd (gupd (gupd (gupd (gupd P2 pl va2_68) (8 + pl) va2_117) (16 + pl) va2_139) (24 + pl) va2_155) (32 + pl) f) (0 + j)), gA cI (a 13) 8 (fun j => (gupd (gupd (gupd (gupd (gupd P2 pl va2_68) (8 + pl) va2_117) (16 + pl) va2_139) (24 + pl) va2_155) (32 + pl) f) (8 + j)), gA cI (a 14) 8 (fun j => (gupd (gupd (gupd (gupd (gupd P2 pl va2_68) (8 + pl) va2_117) (16 + pl) va2_139) (24 + pl) va2_155) (32 + pl) f) (16 + j)), gA cI (a 15) 8 (fun j => (gupd (gupd (gupd (gupd (gupd P2 pl va2_68) (8 + pl) va2_117) (16 + pl) va2_139) (24 + pl) va2_155) (32 + pl) f) (24 + j)), gA cI (a 16) 8 (fun j => (gupd (gupd (gupd (gupd (gupd P2 pl va2_68) (8 + pl) va2_117) (16 + pl) va2_139) (24 + pl) va2_155) (32 + pl) f) (32 + j))]) fp_X9_151 dX9_readReel_202 0 rfl rfl rfl rfl rfl ?_
                refine g_aload_n (pc := 205) X dX9_readReel_205 0 rfl ?_
                refine g_aload_n (pc := 206) X dX9_readReel_206 0 rfl ?_
                refine g_get (pc := 207) X fl_X9_138 dX9_readReel_207 0 (v := gi so2_171) rfl rfl ?_
                refine g_iconst (pc := 210) X dX9_readReel_210 ?_
                refine g_icmpne (pc := 211) X 218 dX9_readReel_211 (by decide) (by omega) (by omega) (fun h211 => ?_) (fun h211 => ?_)
                · refine g_iconst (pc := 218) X dX9_readReel_218 ?_
                  refine gc_Vxi (pc := 219) X (wr := [gA cI (a 12) 8 (fun j => (gupd (gupd (gupd (gupd (gupd P2 pl va2_68) (8 + pl) va2_117) (16 + pl) va2_139) (24 + pl) va2_155) (32 + pl) f) (0 + j)), gA cI (a 13) 8 (fun j => (gupd (gupd (gupd (gupd (gupd P2 pl va2_68) (8 + pl) va2_117) (16 + pl) va2_139) (24 + pl) va2_155) (32 + pl) f) (8 + j)), gA cI (a 14) 8 (fun j => (gupd (gupd (gupd (gupd (gupd P2 pl va2_68) (8 + pl) va2_117) (16 + pl) va2_139) (24 + pl) va2_155) (32 + pl) f) (16 + j)), gA cI (a 15) 8 (fun j => (gupd (gupd (gupd (gupd (gupd P2 pl va2_68) (8 + pl) va2_117) (16 + pl) va2_139) (24 + pl) va2_155) (32 + pl) f) (24 + j)), gA cI (a 16) 8 (fun j => (gupd (gupd (gupd (gupd (gupd P2 pl va2_68) (8 + pl) va2_117) (16 + pl) va2_139) (24 + pl) va2_155) (32 + pl) f) (32 + j))]) (c_X9_due l D cI cZ q a al at2_171 st2_171 so2_171 va2_171 fa2_171 (pl + 1) sg su A 0 hA (by omega) (by omega) (by omega) (by omega)) lm_X9_147 dX9_readReel_219 [0, 1] [2, 3, 4, 5, 6] rfl rfl rfl rfl (by decide) rfl rfl rfl rfl rfl rfl (fun x219 hx219 => ?_)
                  obtain ⟨at2_219, st2_219, so2_219, va2_219, fa2_219⟩ := x219
                  have hd_219 : dun A fa2_171 0 at2_171 st2_171 so2_171 va2_171 at2_219 st2_219 so2_219 va2_219 fa2_219 := hx219
                  refine g_pick (cn := 0) (sl := 0) (st := gi va2_171 :: []) X (ws' := [oM q a al at2_219 st2_219 so2_219 va2_219 fa2_219 (pl + 1) sg su, gA cI (a 0) 1140 A, gA cI (a 12) 8 (fun j => (gupd (gupd (gupd (gupd (gupd P2 pl va2_68) (8 + pl) va2_117) (16 + pl) va2_139) (24 + pl) va2_155) (32 + pl) f) (0 + j)), gA cI (a 13) 8 (fun j => (gupd (gupd (gupd (gupd (gupd P2 pl va2_68) (8 + pl) va2_117) (16 + pl) va2_139) (24 + pl) va2_155) (32 + pl) f) (8 + j)), gA cI (a 14) 8 (fun j => (gupd (gupd (gupd (gupd (gupd P2 pl va2_68) (8 + pl) va2_117) (16 + pl) va2_139) (24 + pl) va2_155) (32 + pl) f) (16 + j)), gA cI (a 15) 8 (fun j => (gupd (gupd (gupd (gupd (gupd P2 pl va2_68) (8 + pl) va2_117) (16 + pl) va2_139) (24 + pl) va2_155) (32 + pl) f) (24 + j)), gA cI (a 16) 8 (fun j => (gupd (gupd (gupd (gupd (gupd P2 pl va2_68) (8 + pl) va2_117) (16 + pl) va2_139) (24 + pl) va2_155) (32 + pl) f) (32 + j))]) [5, 6, 0, 1, 2, 3, 4] rfl rfl ?_
                  have hmz : mst A R (st + 1) at2_219 st2_219 so2_219 va2_219 fa2_219 0 (f) (pl + 1) (gupd (gupd (gupd (gupd (gupd P2 pl va2_68) (8 + pl) va2_117) (16 + pl) va2_139) (24 + pl) va2_155) (32 + pl) f) := mst_stop0 hm5 hd_219 (by omega)
                  have hmzb := hmz.1
                  refine g_pop (pc := 222) X dX9_readReel_222 rfl ?_
                  refine g_goto (pc := 223) X 23 dX9_readReel_223 (by decide) ?_
                  refine g_lsub X [0, 1, 2] rfl ?_
                  exact ih23 _ _ _ _ _ _ _ _ _ (mst_w (by omega) hmz) (by omega) (fun c => by rw [if_neg (by omega), show pl + 1 - 1 = pl by omega, gupd_n (by omega), gupd_n (by omega), gupd_n (by omega), gupd_n (by omega), gupd_s]) (by rw [if_pos (show fa = -1 by omega)] at hn23; split; (rename_i cz; have := (mst_z hmz cz).2.1; omega); omega)
                · refine g_iconst (pc := 214) X dX9_readReel_214 ?_
                  refine g_goto (pc := 215) X 219 dX9_readReel_215 (by decide) ?_
                  refine gc_Vxi (pc := 219) X (wr := [gA cI (a 12) 8 (fun j => (gupd (gupd (gupd (gupd (gupd P2 pl va2_68) (8 + pl) va2_117) (16 + pl) va2_139) (24 + pl) va2_155) (32 + pl) f) (0 + j)), gA cI (a 13) 8 (fun j => (gupd (gupd (gupd (gupd (gupd P2 pl va2_68) (8 + pl) va2_117) (16 + pl) va2_139) (24 + pl) va2_155) (32 + pl) f) (8 + j)), gA cI (a 14) 8 (fun j => (gupd (gupd (gupd (gupd (gupd P2 pl va2_68) (8 + pl) va2_117) (16 + pl) va2_139) (24 + pl) va2_155) (32 + pl) f) (16 + j)), gA cI (a 15) 8 (fun j => (gupd (gupd (gupd (gupd (gupd P2 pl va2_68) (8 + pl) va2_117) (16 + pl) va2_139) (24 + pl) va2_155) (32 + pl) f) (24 + j)), gA cI (a 16) 8 (fun j => (gupd (gupd (gupd (gupd (gupd P2 pl va2_68) (8 + pl) va2_117) (16 + pl) va2_139) (24 + pl) va2_155) (32 + pl) f) (32 + j))]) (c_X9_due l D cI cZ q a al at2_171 st2_171 so2_171 va2_171 fa2_171 (pl + 1) sg su A 1 hA (by omega) (by omega) (by omega) (by omega)) lm_X9_147 dX9_readReel_219 [0, 1] [2, 3, 4, 5, 6] rfl rfl rfl rfl (by decide) rfl rfl rfl rfl rfl rfl (fun x219 hx219 => ?_)
                  obtain ⟨at2_219, st2_219, so2_219, va2_219, fa2_219⟩ := x219
                  have hd_219 : dun A fa2_171 1 at2_171 st2_171 so2_171 va2_171 at2_219 st2_219 so2_219 va2_219 fa2_219 := hx219
                  refine g_pick (cn := 0) (sl := 0) (st := gi va2_171 :: []) X (ws' := [oM q a al at2_219 st2_219 so2_219 va2_219 fa2_219 (pl + 1) sg su, gA cI (a 0) 1140 A, gA cI (a 12) 8 (fun j => (gupd (gupd (gupd (gupd (gupd P2 pl va2_68) (8 + pl) va2_117) (16 + pl) va2_139) (24 + pl) va2_155) (32 + pl) f) (0 + j)), gA cI (a 13) 8 (fun j => (gupd (gupd (gupd (gupd (gupd P2 pl va2_68) (8 + pl) va2_117) (16 + pl) va2_139) (24 + pl) va2_155) (32 + pl) f) (8 + j)), gA cI (a 14) 8 (fun j => (gupd (gupd (gupd (gupd (gupd P2 pl va2_68) (8 + pl) va2_117) (16 + pl) va2_139) (24 + pl) va2_155) (32 + pl) f) (16 + j)), gA cI (a 15) 8 (fun j => (gupd (gupd (gupd (gupd (gupd P2 pl va2_68) (8 + pl) va2_117) (16 + pl) va2_139) (24 + pl) va2_155) (32 + pl) f) (24 + j)), gA cI (a 16) 8 (fun j => (gupd (gupd (gupd (gupd (gupd P2 pl va2_68) (8 + pl) va2_117) (16 + pl) va2_139) (24 + pl) va2_155) (32 + pl) f) (32 + j))]) [5, 6, 0, 1, 2, 3, 4] rfl rfl ?_
                  have hmz : mst A R (st + 1) at2_219 st2_219 so2_219 va2_219 fa2_219 0 (f) (pl + 1) (gupd (gupd (gupd (gupd (gupd P2 pl va2_68) (8 + pl) va2_117) (16 + pl) va2_139) (24 + pl) va2_155) (32 + pl) f) := mst_stop1 hm5 hd_219 (by omega)
                  have hmzb := hmz.1
                  refine g_pop (pc := 222) X dX9_readReel_222 rfl ?_
                  refine g_goto (pc := 223) X 23 dX9_readReel_223 (by decide) ?_
                  refine g_lsub X [0, 1, 2] rfl ?_
                  exact ih23 _ _ _ _ _ _ _ _ _ (mst_w (by omega) hmz) (by omega) (fun c => by rw [if_neg (by omega), show pl + 1 - 1 = pl by omega, gupd_n (by omega), gupd_n (by omega), gupd_n (by omega), gupd_n (by omega), gupd_s]) (by rw [if_pos (show fa = -1 by omega)] at hn23; split; (rename_i cz; have := (mst_z hmz cz).2.1; omega); omega)
  exact L23 _ _ _ _ _ _ _ _ _ _ (by rw [hR]; exact mst_0 (by omega)) (by omega) (fun _ => by rw [if_pos rfl]) (Nat.lt_succ_self _)
