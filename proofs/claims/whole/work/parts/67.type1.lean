/-! type; the model's digest -/
def gPxl {T : Type} (r : T → Int) (w1 : T → va_W) (P : T → Prop) : Option Value → va_W → Prop := fun v w' => ∃ x : T, v = some (gl (r x)) ∧ w' = w1 x ∧ P x
theorem gPxl_e {T : Type} {r : T → Int} {w1 : T → va_W} {P : T → Prop} (x : T) {a : Int} {w' : va_W} (h : a = r x) (hw : w' = w1 x) (hp : P x) : gPxl r w1 P (some (gl a)) w' := ⟨x, by rw [h], hw, hp⟩
theorem okA_r {A : Int → Int} (h : okA A) {j : Int} (q : 0 ≤ j ∧ j < 380) : 0 ≤ A j ∧ A j ≤ 2000 := by
  by_cases c0 : j < 5
  · have p0 := okA_0 h
    have p1 := okA_1 h
    have p2 := okA_2 h
    have p3 := okA_3 h
    have p4 := okA_4 h
    rcases (show j = 0 ∨ j = 1 ∨ j = 2 ∨ j = 3 ∨ j = 4 by omega) with e | e | e | e | e <;> rw [e] <;> omega
  by_cases c15 : j < 15
  · have p := okA_cl h (j := j - 5) (by omega)
    rw [show (5 : Int) + (j - 5) = j by omega] at p
    omega
  by_cases c25 : j < 25
  · have p := okA_fa h (j := j - 15) (by omega)
    rw [show (15 : Int) + (j - 15) = j by omega] at p
    omega
  by_cases c85 : j < 85
  · have p := okA_le h (j := j - 25) (by omega)
    rw [show (25 : Int) + (j - 25) = j by omega] at p
    omega
  by_cases c91 : j < 91
  · have p := okA_wo h (j := j - 85) (by omega)
    rw [show (85 : Int) + (j - 85) = j by omega] at p
    omega
  by_cases c127 : j < 127
  · have p := okA_wa h (j := j - 91) (by omega)
    rw [show (91 : Int) + (j - 91) = j by omega] at p
    omega
  by_cases c132 : j < 132
  · have p := okA_p5 h (j := j - 127) (by omega)
    rw [show (127 : Int) + (j - 127) = j by omega] at p
    omega
  by_cases c332 : j < 332
  · have p := okA_te h (j := j - 132) (by omega)
    rw [show (132 : Int) + (j - 132) = j by omega] at p
    omega
  by_cases c372 : j < 372
  · have p := okA_ha h (j := j - 332) (by omega)
    rw [show (332 : Int) + (j - 332) = j by omega] at p
    omega
  by_cases c380 : j < 380
  · have p := okA_se h (j := j - 372) (by omega)
    rw [show (372 : Int) + (j - 372) = j by omega] at p
    omega
  omega
def byt (v i : Int) : Int := v / 2 ^ (8 * i).toNat % 256
theorem byt_b (v i : Int) : 0 ≤ byt v i ∧ byt v i ≤ 255 := by unfold byt; omega
def ushr (a b : Int) : Int := (((lL a).toUInt64 >>> ((iI b).toInt64.toUInt64 &&& Int64.toUInt64 63)).toInt64).toInt
theorem ushr_h (a b : Int) : ((lL a).toUInt64 >>> ((iI b).toInt64.toUInt64 &&& Int64.toUInt64 63)).toInt64 = lL (ushr a b) := (Int64.ofInt_toInt _).symm
theorem byt_n {v i : Int} (hi : 0 ≤ i ∧ i < 8) : (v % 18446744073709551616).toNat >>> (8 * i).toNat % 256 = (byt v i).toNat := by
  unfold byt
  rcases (show i = 0 ∨ i = 1 ∨ i = 2 ∨ i = 3 ∨ i = 4 ∨ i = 5 ∨ i = 6 ∨ i = 7 by omega) with e | e | e | e | e | e | e | e <;> rw [e, Nat.shiftRight_eq_div_pow]
  · show (v % 18446744073709551616).toNat / 2 ^ 0 % 256 = (v / 2 ^ 0 % 256).toNat
    rw [show (2 : Nat) ^ 0 = 1 from rfl, show (2 : Int) ^ 0 = 1 from rfl]
    omega
  · show (v % 18446744073709551616).toNat / 2 ^ 8 % 256 = (v / 2 ^ 8 % 256).toNat
    rw [show (2 : Nat) ^ 8 = 256 from rfl, show (2 : Int) ^ 8 = 256 from rfl]
    omega
  · show (v % 18446744073709551616).toNat / 2 ^ 16 % 256 = (v / 2 ^ 16 % 256).toNat
    rw [show (2 : Nat) ^ 16 = 65536 from rfl, show (2 : Int) ^ 16 = 65536 from rfl]
    omega
  · show (v % 18446744073709551616).toNat / 2 ^ 24 % 256 = (v / 2 ^ 24 % 256).toNat
    rw [show (2 : Nat) ^ 24 = 16777216 from rfl, show (2 : Int) ^ 24 = 16777216 from rfl]
    omega
  · show (v % 18446744073709551616).toNat / 2 ^ 32 % 256 = (v / 2 ^ 32 % 256).toNat
    rw [show (2 : Nat) ^ 32 = 4294967296 from rfl, show (2 : Int) ^ 32 = 4294967296 from rfl]
    omega
  · show (v % 18446744073709551616).toNat / 2 ^ 40 % 256 = (v / 2 ^ 40 % 256).toNat
    rw [show (2 : Nat) ^ 40 = 1099511627776 from rfl, show (2 : Int) ^ 40 = 1099511627776 from rfl]
    omega
  · show (v % 18446744073709551616).toNat / 2 ^ 48 % 256 = (v / 2 ^ 48 % 256).toNat
    rw [show (2 : Nat) ^ 48 = 281474976710656 from rfl, show (2 : Int) ^ 48 = 281474976710656 from rfl]
    omega
  · show (v % 18446744073709551616).toNat / 2 ^ 56 % 256 = (v / 2 ^ 56 % 256).toNat
    rw [show (2 : Nat) ^ 56 = 72057594037927936 from rfl, show (2 : Int) ^ 56 = 72057594037927936 from rfl]
    omega
theorem sh_am {i : Int} (hi : 0 ≤ i ∧ i < 8) : (((iI (8 * i)).toInt64.toUInt64 &&& Int64.toUInt64 63).toNat % 64 = (8 * i).toNat) ∧ ((iI (8 * i)).toInt64 &&& 63).toBitVec.smod 64 = BitVec.ofNat 64 (8 * i).toNat := by
  rcases (show i = 0 ∨ i = 1 ∨ i = 2 ∨ i = 3 ∨ i = 4 ∨ i = 5 ∨ i = 6 ∨ i = 7 by omega) with e | e | e | e | e | e | e | e <;> rw [e] <;> decide +kernel
theorem lL_bv (v : Int) : (lL v).toBitVec.toNat = (v % 18446744073709551616).toNat := by
  show (BitVec.ofInt 64 v).toNat = _
  rw [BitVec.toNat_ofInt]; rfl
theorem byt_c {v i : Int} (hi : 0 ≤ i ∧ i < 8) : iI (ushr v (8 * i)) &&& iI 255 = iI (byt v i) := by
  have hb := byt_b v i
  rw [iI_nat hb.1, ← byt_n hi]
  apply Int32.toBitVec_inj.mp
  apply BitVec.eq_of_toNat_eq
  show ((iI (ushr v (8 * i))).toBitVec &&& BitVec.ofNat 32 255).toNat = (BitVec.ofNat 32 _).toNat
  have e : (iI (ushr v (8 * i))).toBitVec.toNat = (v % 18446744073709551616).toNat >>> (8 * i).toNat % 2 ^ 32 := by
    rw [show iI (ushr v (8 * i)) = (lL (ushr v (8 * i))).toInt32 from (iI_l _).symm, ← ushr_h]
    show (((((lL v).toUInt64 >>> ((iI (8 * i)).toInt64.toUInt64 &&& Int64.toUInt64 63)).toBitVec).signExtend 32)).toNat = _
    rw [BitVec.signExtend_eq_setWidth_of_le _ (by decide), BitVec.toNat_setWidth]
    show ((lL v).toUInt64 >>> ((iI (8 * i)).toInt64.toUInt64 &&& Int64.toUInt64 63)).toNat % 2 ^ 32 = _
    rw [UInt64.toNat_shiftRight, (sh_am hi).1]
    show (lL v).toBitVec.toNat >>> _ % 2 ^ 32 = _
    rw [lL_bv]
  rw [BitVec.toNat_and, e, BitVec.toNat_ofNat, BitVec.toNat_ofNat, show 255 % 2 ^ 32 = 2 ^ 8 - 1 from rfl, Nat.and_two_pow_sub_one_eq_mod]
  omega
theorem lL_sh8 {v i : Int} (hv : -9223372036854775808 ≤ v ∧ v < 9223372036854775808) (hi : 0 ≤ i ∧ i < 8) : lL v >>> ((iI (8 * i)).toInt64 &&& 63) = lL (v / 2 ^ (8 * i).toNat) := by
  have e : (lL v >>> ((iI (8 * i)).toInt64 &&& 63)).toInt = (lL v).toInt >>> (8 * i).toNat := by
    show ((lL v).toBitVec.sshiftRight (((iI (8 * i)).toInt64 &&& 63).toBitVec.smod 64).toNat).toInt = _
    rw [(sh_am hi).2, BitVec.toInt_sshiftRight, show (BitVec.ofNat 64 (8 * i).toNat).toNat = (8 * i).toNat by rw [BitVec.toNat_ofNat]; omega]; rfl
  rw [show lL v >>> ((iI (8 * i)).toInt64 &&& 63) = lL ((lL v >>> ((iI (8 * i)).toInt64 &&& 63)).toInt) from (Int64.ofInt_toInt _).symm, e, lL_t hv, Int.shiftRight_eq_div_pow]
  exact congrArg lL (by simp)
theorem lL_255 (x : Int) : lL x &&& lL 255 = lL (x % 256) := by
  apply Int64.toBitVec_inj.mp
  apply BitVec.eq_of_toNat_eq
  show ((lL x).toBitVec &&& BitVec.ofNat 64 255).toNat = (lL (x % 256)).toBitVec.toNat
  rw [BitVec.toNat_and, lL_bv, lL_bv, BitVec.toNat_ofNat, show 255 % 2 ^ 64 = 2 ^ 8 - 1 from rfl, Nat.and_two_pow_sub_one_eq_mod]
  omega
/-- bytes put behind one another, the highest first -/
def abK (c : Int → Int) (o v n k : Int) : Int → Int := fun z => if o ≤ z ∧ z < o + k then byt v (n - 1 - (z - o)) else c z
theorem abK_0 {c : Int → Int} {o v n : Int} : abK c o v n 0 = c := by funext z; exact if_neg (by omega)
theorem abK_s {c : Int → Int} {o v n k z b : Int} (hk : 0 ≤ k) (hz : z = o + k) (hb : b = byt v (n - 1 - k)) : gupd (abK c o v n k) z b = abK c o v n (k + 1) := by
  subst hz; subst hb; funext j; unfold gupd abK
  by_cases q : j = o + k
  · rw [if_pos q, if_pos (by omega)]; exact congrArg (byt v) (by omega)
  · rw [if_neg q]; (repeat' split) <;> first | rfl | (exfalso; omega)
def tyK (A : Int → Int) (v n k : Int) : Int → Int := fun z => if 132 + A 2 ≤ z ∧ z < 132 + A 2 + k then byt v (n - 1 - (z - 132 - A 2)) else if z = 2 then A 2 + k else A z
theorem tyK_0 {A : Int → Int} {v n : Int} : tyK A v n 0 = A := by funext z; unfold tyK; rw [if_neg (by omega)]; by_cases h : z = 2; (rw [if_pos h, h]; omega); rw [if_neg h]
theorem tyK_2 {A : Int → Int} (hA : okA A) {v n k : Int} : tyK A v n k 2 = A 2 + k := by have := okA_2 hA; unfold tyK; rw [if_neg (by omega), if_pos rfl]
theorem tyK_s {A : Int → Int} (hA : okA A) {v n k k2 z b x : Int} (hk : 0 ≤ k) (h2 : k2 = k + 1) (hz : z = 132 + (A 2 + k)) (hb : b = byt v (n - 1 - k)) (hx : x = A 2 + k + 1) : gupd (gupd (tyK A v n k) z b) 2 x = tyK A v n k2 := by
  have := okA_2 hA
  subst h2; subst hz; subst hb; subst hx; funext j; unfold gupd tyK
  by_cases q : j = 2
  · rw [if_pos q, if_neg (by omega), if_pos q]; omega
  · rw [if_neg q]
    by_cases q2 : j = 132 + (A 2 + k)
    · rw [if_pos q2, if_pos (by omega)]; exact congrArg (byt v) (by omega)
    · rw [if_neg q2]; (repeat' split) <;> first | rfl | (exfalso; omega)
def o_type (A : Int → Int) (v n : Int) : Int × Int × (Int → Int) := if 1 ≤ n ∧ n ≤ 8 then (if 200 < A 2 + n then (-4, 2, A) else (A 2 + n, -1, tyK A v n n)) else (-2, 0, A)

set_option maxHeartbeats 4000000 in
set_option maxRecDepth 100000 in
theorem c_X1_addBytes (l : Launch) (D : va_G) (cI cZ : ClassId) (q : Nat) (a : Nat → Nat) (t : Int) (m : Int) (bt : Int) (hc : Int) (sc : Int) (c : Int → Int) (v : Int) (n : Int) (hn : 1 ≤ n ∧ n ≤ 8) (hb : 0 ≤ bt ∧ bt + n ≤ 200) : GM l D cI cZ yX1_addBytes cX1_addBytes 5 (some .int) ({ frames := 1, cells := 0, slots := 0, locals := 22 }) 0 0 false [.ref q, gl v, gi n] [oF q a t m bt hc sc, gA cI (a 9) 200 c] (gPxi (fun xo : Unit => (bt + n)) (fun xo : Unit => [oF q a t m (bt + n) hc sc, gA cI (a 9) 200 (abK c bt v n n)]) (fun xo : Unit => True)) := by
  refine g_enterI (z := false) (lv0 := [(0, .ref q), (1, gl v), (3, gi n)]) _ rfl (by decide) rfl rfl (fun V X ret => ?_)
  refine g_iload_n (pc := 0) X dX1_addBytes_0 2 rfl ?_
  refine g_iconst (pc := 1) X dX1_addBytes_1 ?_
  refine g_isub (pc := 2) X dX1_addBytes_2 ?_
  refine g_istore (pc := 3) X (lv' := [(0, .ref q), (1, gl v), (3, gi n), (4, gi (n - 1))]) dX1_addBytes_3 rfl rfl ?_
  have L5 : ∀ (n5 : Nat) (i : Int) (k : Int) (w : Int) (g : Int → Int), (i = n - 1 - k ∧ 0 ≤ k ∧ k ≤ n) → (w = bt + k) → (g = abK c bt v n k) → (i + 1).toNat < n5 → V 0 0 [oF q a t m w hc sc, gA cI (a 9) 200 g] 5 [(0, .ref q), (1, gl v), (3, gi n), (4, gi i)] [] := by
    intro n5
    induction n5 with
    | zero => intro i k w g hi hw hg hn5; exact absurd hn5 (Nat.not_lt_zero _)
    | succ n5 ih5 =>
      intro i k w g hi hw hg hn5
      refine g_iload (pc := 5) X dX1_addBytes_5 3 rfl ?_
      refine g_iflt (pc := 7) X 46 dX1_addBytes_7 (by decide) (by omega) (fun h7 => ?_) (fun h7 => ?_)
      · refine g_aload_n (pc := 46) X dX1_addBytes_46 0 rfl ?_
        refine g_get (pc := 47) X fl_X1_50 dX1_addBytes_47 0 (v := gi w) rfl rfl ?_
        exact ret _ _ _ _ _ _ dX1_addBytes_50 rfl rfl (fun h => by cases h) (gPxi_e () (by omega) (by rw [hg, hw, show k = n by omega]) trivial)
      · refine g_aload_n (pc := 10) X dX1_addBytes_10 0 rfl ?_
        refine g_get (pc := 11) X fl_X1_30 dX1_addBytes_11 0 (v := .ref (a 9)) rfl rfl ?_
        refine g_aload_n (pc := 14) X dX1_addBytes_14 0 rfl ?_
        refine g_dup (pc := 15) X dX1_addBytes_15 rfl ?_
        refine g_get (pc := 16) X fl_X1_50 dX1_addBytes_16 0 (v := gi w) rfl rfl ?_
        refine g_dup_x1 (pc := 19) X dX1_addBytes_19 rfl rfl ?_
        refine g_iconst (pc := 20) X dX1_addBytes_20 ?_
        refine g_iadd (pc := 21) X dX1_addBytes_21 ?_
        refine g_put (pc := 22) X (ws' := [oF q a t m (w + 1) hc sc, gA cI (a 9) 200 g]) fp_X1_50 dX1_addBytes_22 0 rfl rfl rfl rfl rfl ?_
        refine g_lload_n (pc := 25) X dX1_addBytes_25 1 rfl ?_
        refine g_bipush (pc := 26) X dX1_addBytes_26 (by decide +kernel) ?_
        refine g_iload (pc := 28) X dX1_addBytes_28 3 rfl ?_
        refine g_imul (pc := 30) X dX1_addBytes_30 ?_
        refine g_lushr (pc := 31) X (r := ushr v (8 * i)) dX1_addBytes_31 (ushr_h _ _) ?_
        refine g_l2i (pc := 32) X dX1_addBytes_32 ?_
        refine g_sipush (pc := 33) X dX1_addBytes_33 (by decide +kernel) ?_
        refine g_iand (pc := 36) X (r := byt v i) dX1_addBytes_36 (byt_c (by omega)) ?_
        have hbb := byt_b v i
        refine gc_Nxv (pc := 37) X (wr := [oF q a t m (w + 1) hc sc]) (c_X8_lay l D cI cZ (a 9) 200 g w (byt v i) (by omega) rfl) lm_X1_43 dX1_addBytes_37 [1] [0] rfl rfl rfl rfl (by decide) rfl rfl rfl rfl (fun x37 hx37 => ?_)
        refine g_pick (cn := 0) (sl := 0) (st := []) X (ws' := [oF q a t m (w + 1) hc sc, gA cI (a 9) 200 (ly 200 g w (byt v i))]) [0, 1] rfl rfl ?_
        rw [ly_in (n := 200) (f := g) (i := w) (v := byt v i) (by omega)]
        refine g_iinc (pc := 40) X (lv' := [(0, .ref q), (1, gl v), (3, gi n), (4, gi (i + (-1)))]) dX1_addBytes_40 3 rfl rfl rfl ?_
        refine g_goto (pc := 43) X 5 dX1_addBytes_43 (by decide) ?_
        exact ih5 _ (k + 1) _ _ (by omega) (by omega) (by rw [hg]; exact abK_s hi.2.1 hw (by rw [← hi.1])) (by omega)
  exact L5 _ _ 0 _ _ (by omega) (by omega) abK_0.symm (Nat.lt_succ_self _)

set_option maxHeartbeats 4000000 in
set_option maxRecDepth 100000 in
theorem c_X8_type (l : Launch) (D : va_G) (cI cZ : ClassId) (q : Nat) (a : Nat → Nat) (aF : Nat → Nat) (aG : Nat → Nat) (aH : Nat → Nat) (aC : Nat → Nat) (aL : Nat → Nat) (aM : Nat → Nat) (aN : Nat → Nat) (aE : Nat → Nat) (aR : Nat → Nat) (aI : Nat → Nat) (aT : Nat → Nat) (A : Int → Int) (C1 : Int → Int) (C2 : Int → Int) (kp : Int → Int) (rf : Int → Int) (d0 : Int → Int) (d1 : Int → Int) (d2 : Int → Int) (e0 : Int → Int) (e1 : Int → Int) (e2 : Int → Int) (p0 : Int → Int) (p1 : Int → Int) (p2 : Int → Int) (p3 : Int → Int) (p4 : Int → Int) (yv : Int → Int) (yp : Int → Int) (zs : Int → Int) (zr : Int → Int) (n0 : Int) (n1 : Int) (n2 : Int) (r1 : Int) (r2 : Int) (r3 : Int) (r4 : Int) (yn : Int) (yk : Int) (zn : Int) (v : Int) (n : Int) (hA : okA A) (hn : -2147483648 ≤ n ∧ n < 2147483648) : GM l D cI cZ yX8_type cX8_type 4 (some .int) ({ frames := 2, cells := 0, slots := 0, locals := 46 }) 0 0 false [.ref q, gl v, gi n] [oX q a (kp 0) (kp 1) (rf 0) (rf 1) (rf 2), oF (a 0) aF (A 0) (A 1) (A 2) (A 3) (A 4), gA cI (aF 1) 10 (fun j => A (5 + j)), gA cI (aF 2) 10 (fun j => A (15 + j)), gA cI (aF 3) 60 (fun j => A (25 + j)), gA cI (aF 5) 6 (fun j => A (85 + j)), gA cI (aF 6) 36 (fun j => A (91 + j)), gA cI (aF 7) 5 (fun j => A (127 + j)), gA cI (aF 9) 200 (fun j => A (132 + j)), gA cI (aF 11) 40 (fun j => A (332 + j)), gA cI (aF 13) 8 (fun j => A (372 + j)), oF (a 1) aG (C1 0) (C1 1) (C1 2) (C1 3) (C1 4), gA cI (aG 1) 10 (fun j => C1 (5 + j)), gA cI (aG 2) 10 (fun j => C1 (15 + j)), gA cI (aG 3) 60 (fun j => C1 (25 + j)), gA cI (aG 5) 6 (fun j => C1 (85 + j)), gA cI (aG 6) 36 (fun j => C1 (91 + j)), gA cI (aG 7) 5 (fun j => C1 (127 + j)), gA cI (aG 9) 200 (fun j => C1 (132 + j)), gA cI (aG 11) 40 (fun j => C1 (332 + j)), gA cI (aG 13) 8 (fun j => C1 (372 + j)), oF (a 2) aH (C2 0) (C2 1) (C2 2) (C2 3) (C2 4), gA cI (aH 1) 10 (fun j => C2 (5 + j)), gA cI (aH 2) 10 (fun j => C2 (15 + j)), gA cI (aH 3) 60 (fun j => C2 (25 + j)), gA cI (aH 5) 6 (fun j => C2 (85 + j)), gA cI (aH 6) 36 (fun j => C2 (91 + j)), gA cI (aH 7) 5 (fun j => C2 (127 + j)), gA cI (aH 9) 200 (fun j => C2 (132 + j)), gA cI (aH 11) 40 (fun j => C2 (332 + j)), gA cI (aH 13) 8 (fun j => C2 (372 + j)), oC (a 5) aC, oL (aC 0) aL n0, gA cI (aL 0) 8 d0, oL (aC 1) aM n1, gA cI (aM 0) 8 d1, oL (aC 2) aN n2, gA cI (aN 0) 8 d2, oE (a 6) aE, gA cI (aE 0) 60 e0, gA cI (aE 1) 60 e1, gA cI (aE 2) 10 e2, oR (a 7) aR r1 r2 r3 r4, gA cI (aR 2) 8 p0, gA cI (aR 3) 8 p1, gA cI (aR 4) 8 p2, gA cI (aR 5) 8 p3, gA cI (aR 6) 8 p4, oH (a 8) aI yn yk, gA cI (aI 0) 384 yv, gA cI (aI 1) 8 yp, oT (a 9) aT zn, gA cI (aT 0) 64 zs, gA cI (aT 1) 2048 zr] (gPxi (fun xo : Unit => (o_type A v n).1) (fun xo : Unit => [oX q a (kp 0) (kp 1) ((bump ((o_type A v n).2.1) rf) 0) ((bump ((o_type A v n).2.1) rf) 1) ((bump ((o_type A v n).2.1) rf) 2), oF (a 0) aF (((o_type A v n).2.2) 0) (((o_type A v n).2.2) 1) (((o_type A v n).2.2) 2) (((o_type A v n).2.2) 3) (((o_type A v n).2.2) 4), gA cI (aF 1) 10 (fun j => ((o_type A v n).2.2) (5 + j)), gA cI (aF 2) 10 (fun j => ((o_type A v n).2.2) (15 + j)), gA cI (aF 3) 60 (fun j => ((o_type A v n).2.2) (25 + j)), gA cI (aF 5) 6 (fun j => ((o_type A v n).2.2) (85 + j)), gA cI (aF 6) 36 (fun j => ((o_type A v n).2.2) (91 + j)), gA cI (aF 7) 5 (fun j => ((o_type A v n).2.2) (127 + j)), gA cI (aF 9) 200 (fun j => ((o_type A v n).2.2) (132 + j)), gA cI (aF 11) 40 (fun j => ((o_type A v n).2.2) (332 + j)), gA cI (aF 13) 8 (fun j => ((o_type A v n).2.2) (372 + j)), oF (a 1) aG (C1 0) (C1 1) (C1 2) (C1 3) (C1 4), gA cI (aG 1) 10 (fun j => C1 (5 + j)), gA cI (aG 2) 10 (fun j => C1 (15 + j)), gA cI (aG 3) 60 (fun j => C1 (25 + j)), gA cI (aG 5) 6 (fun j => C1 (85 + j)), gA cI (aG 6) 36 (fun j => C1 (91 + j)), gA cI (aG 7) 5 (fun j => C1 (127 + j)), gA cI (aG 9) 200 (fun j => C1 (132 + j)), gA cI (aG 11) 40 (fun j => C1 (332 + j)), gA cI (aG 13) 8 (fun j => C1 (372 + j)), oF (a 2) aH (C2 0) (C2 1) (C2 2) (C2 3) (C2 4), gA cI (aH 1) 10 (fun j => C2 (5 + j)), gA cI (aH 2) 10 (fun j => C2 (15 + j)), gA cI (aH 3) 60 (fun j => C2 (25 + j)), gA cI (aH 5) 6 (fun j => C2 (85 + j)), gA cI (aH 6) 36 (fun j => C2 (91 + j)), gA cI (aH 7) 5 (fun j => C2 (127 + j)), gA cI (aH 9) 200 (fun j => C2 (132 + j)), gA cI (aH 11) 40 (fun j => C2 (332 + j)), gA cI (aH 13) 8 (fun j => C2 (372 + j)), oC (a 5) aC, oL (aC 0) aL n0, gA cI (aL 0) 8 d0, oL (aC 1) aM n1, gA cI (aM 0) 8 d1, oL (aC 2) aN n2, gA cI (aN 0) 8 d2, oE (a 6) aE, gA cI (aE 0) 60 e0, gA cI (aE 1) 60 e1, gA cI (aE 2) 10 e2, oR (a 7) aR r1 r2 r3 r4, gA cI (aR 2) 8 p0, gA cI (aR 3) 8 p1, gA cI (aR 4) 8 p2, gA cI (aR 5) 8 p3, gA cI (aR 6) 8 p4, oH (a 8) aI yn yk, gA cI (aI 0) 384 yv, gA cI (aI 1) 8 yp, oT (a 9) aT zn, gA cI (aT 0) 64 zs, gA cI (aT 1) 2048 zr]) (fun xo : Unit => True)) := by
  refine g_enterI (z := false) (lv0 := [(0, .ref q), (1, gl v), (3, gi n)]) _ rfl (by decide) rfl rfl (fun V X ret => ?_)
  have hA1 := okA_1 hA
  have hA0 := okA_0 hA
  have hpu := okA_pu hA
  have hA2 := okA_2 hA
  refine g_iload_n (pc := 0) X dX8_type_0 2 rfl ?_
  refine g_iconst (pc := 1) X dX8_type_1 ?_
  refine g_bipush (pc := 2) X dX8_type_2 (by decide +kernel) ?_
  refine gc_Si (pc := 4) X (c_X8_fits l D cI cZ n 1 8 (by omega) (by omega) (by omega)) lm_X8_57 dX8_type_4 [] rfl rfl rfl rfl rfl rfl ?_
  refine g_ifneB (pc := 7) X 15 dX8_type_7 (by decide) (fun h7 => ?_) (fun h7 => ?_)
  · refine g_aload_n (pc := 15) X dX8_type_15 0 rfl ?_
    refine g_get (pc := 16) X fl_X8_10 dX8_type_16 0 (v := .ref (a 0)) rfl rfl ?_
    refine g_get (pc := 19) X fl_X8_182 dX8_type_19 1 (v := gi (A 2)) rfl rfl ?_
    refine g_iload_n (pc := 22) X dX8_type_22 2 rfl ?_
    refine g_iadd (pc := 23) X dX8_type_23 ?_
    refine g_sipush (pc := 24) X dX8_type_24 (by decide +kernel) ?_
    refine g_icmple (pc := 27) X 35 dX8_type_27 (by decide) (by omega) (by omega) (fun h27 => ?_) (fun h27 => ?_)
    · refine g_aload_n (pc := 35) X dX8_type_35 0 rfl ?_
      refine g_get (pc := 36) X fl_X8_10 dX8_type_36 0 (v := .ref (a 0)) rfl rfl ?_
      refine g_lload_n (pc := 39) X dX8_type_39 1 rfl ?_
      refine g_iload_n (pc := 40) X dX8_type_40 2 rfl ?_
      refine gc_Vxi (pc := 41) X (wr := [oX q a (kp 0) (kp 1) (rf 0) (rf 1) (rf 2), gA cI (aF 1) 10 (fun j => A (5 + j)), gA cI (aF 2) 10 (fun j => A (15 + j)), gA cI (aF 3) 60 (fun j => A (25 + j)), gA cI (aF 5) 6 (fun j => A (85 + j)), gA cI (aF 6) 36 (fun j => A (91 + j)), gA cI (aF 7) 5 (fun j => A (127 + j)), gA cI (aF 11) 40 (fun j => A (332 + j)), gA cI (aF 13) 8 (fun j => A (372 + j)), oF (a 1) aG (C1 0) (C1 1) (C1 2) (C1 3) (C1 4), gA cI (aG 1) 10 (fun j => C1 (5 + j)), gA cI (aG 2) 10 (fun j => C1 (15 + j)), gA cI (aG 3) 60 (fun j => C1 (25 + j)), gA cI (aG 5) 6 (fun j => C1 (85 + j)), gA cI (aG 6) 36 (fun j => C1 (91 + j)), gA cI (aG 7) 5 (fun j => C1 (127 + j)), gA cI (aG 9) 200 (fun j => C1 (132 + j)), gA cI (aG 11) 40 (fun j => C1 (332 + j)), gA cI (aG 13) 8 (fun j => C1 (372 + j)), oF (a 2) aH (C2 0) (C2 1) (C2 2) (C2 3) (C2 4), gA cI (aH 1) 10 (fun j => C2 (5 + j)), gA cI (aH 2) 10 (fun j => C2 (15 + j)), gA cI (aH 3) 60 (fun j => C2 (25 + j)), gA cI (aH 5) 6 (fun j => C2 (85 + j)), gA cI (aH 6) 36 (fun j => C2 (91 + j)), gA cI (aH 7) 5 (fun j => C2 (127 + j)), gA cI (aH 9) 200 (fun j => C2 (132 + j)), gA cI (aH 11) 40 (fun j => C2 (332 + j)), gA cI (aH 13) 8 (fun j => C2 (372 + j)), oC (a 5) aC, oL (aC 0) aL n0, gA cI (aL 0) 8 d0, oL (aC 1) aM n1, gA cI (aM 0) 8 d1, oL (aC 2) aN n2, gA cI (aN 0) 8 d2, oE (a 6) aE, gA cI (aE 0) 60 e0, gA cI (aE 1) 60 e1, gA cI (aE 2) 10 e2, oR (a 7) aR r1 r2 r3 r4, gA cI (aR 2) 8 p0, gA cI (aR 3) 8 p1, gA cI (aR 4) 8 p2, gA cI (aR 5) 8 p3, gA cI (aR 6) 8 p4, oH (a 8) aI yn yk, gA cI (aI 0) 384 yv, gA cI (aI 1) 8 yp, oT (a 9) aT zn, gA cI (aT 0) 64 zs, gA cI (aT 1) 2048 zr]) (c_X1_addBytes l D cI cZ (a 0) aF (A 0) (A 1) (A 2) (A 3) (A 4) (fun j => A (132 + j)) v n (by omega) (by omega)) lm_X8_185 dX8_type_41 [1, 8] [0, 2, 3, 4, 5, 6, 7, 9, 10, 11, 12, 13, 14, 15, 16, 17, 18, 19, 20, 21, 22, 23, 24, 25, 26, 27, 28, 29, 30, 31, 32, 33, 34, 35, 36, 37, 38, 39, 40, 41, 42, 43, 44, 45, 46, 47, 48, 49, 50, 51, 52, 53] rfl rfl rfl rfl (by decide) rfl rfl rfl rfl rfl rfl (fun x41 hx41 => ?_)
      refine g_pick (cn := 0) (sl := 0) (st := gi ((A 2) + n) :: []) X (ws' := [oX q a (kp 0) (kp 1) (rf 0) (rf 1) (rf 2), oF (a 0) aF (A 0) (A 1) ((A 2) + n) (A 3) (A 4), gA cI (aF 1) 10 (fun j => A (5 + j)), gA cI (aF 2) 10 (fun j => A (15 + j)), gA cI (aF 3) 60 (fun j => A (25 + j)), gA cI (aF 5) 6 (fun j => A (85 + j)), gA cI (aF 6) 36 (fun j => A (91 + j)), gA cI (aF 7) 5 (fun j => A (127 + j)), gA cI (aF 9) 200 (abK (fun j => A (132 + j)) (A 2) v n n), gA cI (aF 11) 40 (fun j => A (332 + j)), gA cI (aF 13) 8 (fun j => A (372 + j)), oF (a 1) aG (C1 0) (C1 1) (C1 2) (C1 3) (C1 4), gA cI (aG 1) 10 (fun j => C1 (5 + j)), gA cI (aG 2) 10 (fun j => C1 (15 + j)), gA cI (aG 3) 60 (fun j => C1 (25 + j)), gA cI (aG 5) 6 (fun j => C1 (85 + j)), gA cI (aG 6) 36 (fun j => C1 (91 + j)), gA cI (aG 7) 5 (fun j => C1 (127 + j)), gA cI (aG 9) 200 (fun j => C1 (132 + j)), gA cI (aG 11) 40 (fun j => C1 (332 + j)), gA cI (aG 13) 8 (fun j => C1 (372 + j)), oF (a 2) aH (C2 0) (C2 1) (C2 2) (C2 3) (C2 4), gA cI (aH 1) 10 (fun j => C2 (5 + j)), gA cI (aH 2) 10 (fun j => C2 (15 + j)), gA cI (aH 3) 60 (fun j => C2 (25 + j)), gA cI (aH 5) 6 (fun j => C2 (85 + j)), gA cI (aH 6) 36 (fun j => C2 (91 + j)), gA cI (aH 7) 5 (fun j => C2 (127 + j)), gA cI (aH 9) 200 (fun j => C2 (132 + j)), gA cI (aH 11) 40 (fun j => C2 (332 + j)), gA cI (aH 13) 8 (fun j => C2 (372 + j)), oC (a 5) aC, oL (aC 0) aL n0, gA cI (aL 0) 8 d0, oL (aC 1) aM n1, gA cI (aM 0) 8 d1, oL (aC 2) aN n2, gA cI (aN 0) 8 d2, oE (a 6) aE, gA cI (aE 0) 60 e0, gA cI (aE 1) 60 e1, gA cI (aE 2) 10 e2, oR (a 7) aR r1 r2 r3 r4, gA cI (aR 2) 8 p0, gA cI (aR 3) 8 p1, gA cI (aR 4) 8 p2, gA cI (aR 5) 8 p3, gA cI (aR 6) 8 p4, oH (a 8) aI yn yk, gA cI (aI 0) 384 yv, gA cI (aI 1) 8 yp, oT (a 9) aT zn, gA cI (aT 0) 64 zs, gA cI (aT 1) 2048 zr]) [0, 52, 1, 2, 3, 4, 5, 6, 53, 7, 8, 9, 10, 11, 12, 13, 14, 15, 16, 17, 18, 19, 20, 21, 22, 23, 24, 25, 26, 27, 28, 29, 30, 31, 32, 33, 34, 35, 36, 37, 38, 39, 40, 41, 42, 43, 44, 45, 46, 47, 48, 49, 50, 51] rfl rfl ?_
      refine g_ws (ws' := [oX q a (kp 0) (kp 1) (rf 0) (rf 1) (rf 2), oF (a 0) aF ((tyK A v n n) 0) ((tyK A v n n) 1) ((tyK A v n n) 2) ((tyK A v n n) 3) ((tyK A v n n) 4), gA cI (aF 1) 10 (fun j => (tyK A v n n) (5 + j)), gA cI (aF 2) 10 (fun j => (tyK A v n n) (15 + j)), gA cI (aF 3) 60 (fun j => (tyK A v n n) (25 + j)), gA cI (aF 5) 6 (fun j => (tyK A v n n) (85 + j)), gA cI (aF 6) 36 (fun j => (tyK A v n n) (91 + j)), gA cI (aF 7) 5 (fun j => (tyK A v n n) (127 + j)), gA cI (aF 9) 200 (fun j => (tyK A v n n) (132 + j)), gA cI (aF 11) 40 (fun j => (tyK A v n n) (332 + j)), gA cI (aF 13) 8 (fun j => (tyK A v n n) (372 + j)), oF (a 1) aG (C1 0) (C1 1) (C1 2) (C1 3) (C1 4), gA cI (aG 1) 10 (fun j => C1 (5 + j)), gA cI (aG 2) 10 (fun j => C1 (15 + j)), gA cI (aG 3) 60 (fun j => C1 (25 + j)), gA cI (aG 5) 6 (fun j => C1 (85 + j)), gA cI (aG 6) 36 (fun j => C1 (91 + j)), gA cI (aG 7) 5 (fun j => C1 (127 + j)), gA cI (aG 9) 200 (fun j => C1 (132 + j)), gA cI (aG 11) 40 (fun j => C1 (332 + j)), gA cI (aG 13) 8 (fun j => C1 (372 + j)), oF (a 2) aH (C2 0) (C2 1) (C2 2) (C2 3) (C2 4), gA cI (aH 1) 10 (fun j => C2 (5 + j)), gA cI (aH 2) 10 (fun j => C2 (15 + j)), gA cI (aH 3) 60 (fun j => C2 (25 + j)), gA cI (aH 5) 6 (fun j => C2 (85 + j)), gA cI (aH 6) 36 (fun j => C2 (91 + j)), gA cI (aH 7) 5 (fun j => C2 (127 + j)), gA cI (aH 9) 200 (fun j => C2 (132 + j)), gA cI (aH 11) 40 (fun j => C2 (332 + j)), gA cI (aH 13) 8 (fun j => C2 (372 + j)), oC (a 5) aC, oL (aC 0) aL n0, gA cI (aL 0) 8 d0, oL (aC 1) aM n1, gA cI (aM 0) 8 d1, oL (aC 2) aN n2, gA cI (aN 0) 8 d2, oE (a 6) aE, gA cI (aE 0) 60 e0, gA cI (aE 1) 60 e1, gA cI (aE 2) 10 e2, oR (a 7) aR r1 r2 r3 r4, gA cI (aR 2) 8 p0, gA cI (aR 3) 8 p1, gA cI (aR 4) 8 p2, gA cI (aR 5) 8 p3, gA cI (aR 6) 8 p4, oH (a 8) aI yn yk, gA cI (aI 0) 384 yv, gA cI (aI 1) 8 yp, oT (a 9) aT zn, gA cI (aT 0) 64 zs, gA cI (aT 1) 2048 zr]) (by rw [(show oF (a 0) aF (A 0) (A 1) ((A 2) + n) (A 3) (A 4) = oF (a 0) aF ((tyK A v n n) 0) ((tyK A v n n) 1) ((tyK A v n n) 2) ((tyK A v n n) 3) ((tyK A v n n) 4) from oF_ext (by (try unfold abK); unfold tyK; (try dsimp only); (repeat' split) <;> first | rfl | (exfalso; omega) | exact congrArg (byt v) (by omega)) (by (try unfold abK); unfold tyK; (try dsimp only); (repeat' split) <;> first | rfl | (exfalso; omega) | exact congrArg (byt v) (by omega)) (by (try unfold abK); unfold tyK; (try dsimp only); (repeat' split) <;> first | rfl | (exfalso; omega) | exact congrArg (byt v) (by omega)) (by (try unfold abK); unfold tyK; (try dsimp only); (repeat' split) <;> first | rfl | (exfalso; omega) | exact congrArg (byt v) (by omega)) (by (try unfold abK); unfold tyK; (try dsimp only); (repeat' split) <;> first | rfl | (exfalso; omega) | exact congrArg (byt v) (by omega))), (show gA cI (aF 1) 10 (fun j => A (5 + j)) = gA cI (aF 1) 10 (fun j => (tyK A v n n) (5 + j)) from gA_ext (fun j j0 j1 => (by (try unfold abK); unfold tyK; (try dsimp only); (repeat' split) <;> first | rfl | (exfalso; omega) | exact congrArg (byt v) (by omega)))), (show gA cI (aF 2) 10 (fun j => A (15 + j)) = gA cI (aF 2) 10 (fun j => (tyK A v n n) (15 + j)) from gA_ext (fun j j0 j1 => (by (try unfold abK); unfold tyK; (try dsimp only); (repeat' split) <;> first | rfl | (exfalso; omega) | exact congrArg (byt v) (by omega)))), (show gA cI (aF 3) 60 (fun j => A (25 + j)) = gA cI (aF 3) 60 (fun j => (tyK A v n n) (25 + j)) from gA_ext (fun j j0 j1 => (by (try unfold abK); unfold tyK; (try dsimp only); (repeat' split) <;> first | rfl | (exfalso; omega) | exact congrArg (byt v) (by omega)))), (show gA cI (aF 5) 6 (fun j => A (85 + j)) = gA cI (aF 5) 6 (fun j => (tyK A v n n) (85 + j)) from gA_ext (fun j j0 j1 => (by (try unfold abK); unfold tyK; (try dsimp only); (repeat' split) <;> first | rfl | (exfalso; omega) | exact congrArg (byt v) (by omega)))), (show gA cI (aF 6) 36 (fun j => A (91 + j)) = gA cI (aF 6) 36 (fun j => (tyK A v n n) (91 + j)) from gA_ext (fun j j0 j1 => (by (try unfold abK); unfold tyK; (try dsimp only); (repeat' split) <;> first | rfl | (exfalso; omega) | exact congrArg (byt v) (by omega)))), (show gA cI (aF 7) 5 (fun j => A (127 + j)) = gA cI (aF 7) 5 (fun j => (tyK A v n n) (127 + j)) from gA_ext (fun j j0 j1 => (by (try unfold abK); unfold tyK; (try dsimp only); (repeat' split) <;> first | rfl | (exfalso; omega) | exact congrArg (byt v) (by omega)))), (show gA cI (aF 9) 200 (abK (fun j => A (132 + j)) (A 2) v n n) = gA cI (aF 9) 200 (fun j => (tyK A v n n) (132 + j)) from gA_ext (fun j j0 j1 => (by (try unfold abK); unfold tyK; (try dsimp only); (repeat' split) <;> first | rfl | (exfalso; omega) | exact congrArg (byt v) (by omega)))), (show gA cI (aF 11) 40 (fun j => A (332 + j)) = gA cI (aF 11) 40 (fun j => (tyK A v n n) (332 + j)) from gA_ext (fun j j0 j1 => (by (try unfold abK); unfold tyK; (try dsimp only); (repeat' split) <;> first | rfl | (exfalso; omega) | exact congrArg (byt v) (by omega)))), (show gA cI (aF 13) 8 (fun j => A (372 + j)) = gA cI (aF 13) 8 (fun j => (tyK A v n n) (372 + j)) from gA_ext (fun j j0 j1 => (by (try unfold abK); unfold tyK; (try dsimp only); (repeat' split) <;> first | rfl | (exfalso; omega) | exact congrArg (byt v) (by omega))))]) ?_
      exact ret _ _ _ _ _ _ dX8_type_44 rfl rfl (fun h => by cases h) (gPxi_e () (by rw [(show o_type A v n = (A 2 + n, -1, tyK A v n n) from (if_pos (by omega)).trans (if_neg (by omega)))]) (by rw [(show o_type A v n = (A 2 + n, -1, tyK A v n n) from (if_pos (by omega)).trans (if_neg (by omega)))]; rfl) trivial)
    · refine g_aload_n (pc := 30) X dX8_type_30 0 rfl ?_
      refine gc_Vxi (pc := 31) X (wr := [oF (a 0) aF (A 0) (A 1) (A 2) (A 3) (A 4), gA cI (aF 1) 10 (fun j => A (5 + j)), gA cI (aF 2) 10 (fun j => A (15 + j)), gA cI (aF 3) 60 (fun j => A (25 + j)), gA cI (aF 5) 6 (fun j => A (85 + j)), gA cI (aF 6) 36 (fun j => A (91 + j)), gA cI (aF 7) 5 (fun j => A (127 + j)), gA cI (aF 9) 200 (fun j => A (132 + j)), gA cI (aF 11) 40 (fun j => A (332 + j)), gA cI (aF 13) 8 (fun j => A (372 + j)), oF (a 1) aG (C1 0) (C1 1) (C1 2) (C1 3) (C1 4), gA cI (aG 1) 10 (fun j => C1 (5 + j)), gA cI (aG 2) 10 (fun j => C1 (15 + j)), gA cI (aG 3) 60 (fun j => C1 (25 + j)), gA cI (aG 5) 6 (fun j => C1 (85 + j)), gA cI (aG 6) 36 (fun j => C1 (91 + j)), gA cI (aG 7) 5 (fun j => C1 (127 + j)), gA cI (aG 9) 200 (fun j => C1 (132 + j)), gA cI (aG 11) 40 (fun j => C1 (332 + j)), gA cI (aG 13) 8 (fun j => C1 (372 + j)), oF (a 2) aH (C2 0) (C2 1) (C2 2) (C2 3) (C2 4), gA cI (aH 1) 10 (fun j => C2 (5 + j)), gA cI (aH 2) 10 (fun j => C2 (15 + j)), gA cI (aH 3) 60 (fun j => C2 (25 + j)), gA cI (aH 5) 6 (fun j => C2 (85 + j)), gA cI (aH 6) 36 (fun j => C2 (91 + j)), gA cI (aH 7) 5 (fun j => C2 (127 + j)), gA cI (aH 9) 200 (fun j => C2 (132 + j)), gA cI (aH 11) 40 (fun j => C2 (332 + j)), gA cI (aH 13) 8 (fun j => C2 (372 + j)), oC (a 5) aC, oL (aC 0) aL n0, gA cI (aL 0) 8 d0, oL (aC 1) aM n1, gA cI (aM 0) 8 d1, oL (aC 2) aN n2, gA cI (aN 0) 8 d2, oE (a 6) aE, gA cI (aE 0) 60 e0, gA cI (aE 1) 60 e1, gA cI (aE 2) 10 e2, oR (a 7) aR r1 r2 r3 r4, gA cI (aR 2) 8 p0, gA cI (aR 3) 8 p1, gA cI (aR 4) 8 p2, gA cI (aR 5) 8 p3, gA cI (aR 6) 8 p4, oH (a 8) aI yn yk, gA cI (aI 0) 384 yv, gA cI (aI 1) 8 yp, oT (a 9) aT zn, gA cI (aT 0) 64 zs, gA cI (aT 1) 2048 zr]) (c_X8_refuseFull l D cI cZ q a (kp 0) (kp 1) (rf 0) (rf 1) (rf 2)) lm_X8_69 dX8_type_31 [0] [1, 2, 3, 4, 5, 6, 7, 8, 9, 10, 11, 12, 13, 14, 15, 16, 17, 18, 19, 20, 21, 22, 23, 24, 25, 26, 27, 28, 29, 30, 31, 32, 33, 34, 35, 36, 37, 38, 39, 40, 41, 42, 43, 44, 45, 46, 47, 48, 49, 50, 51, 52, 53] rfl rfl rfl rfl (by decide) rfl rfl rfl rfl rfl rfl (fun x31 hx31 => ?_)
      refine g_pick (cn := 0) (sl := 0) (st := gi (-4) :: []) X (ws' := [oX q a (kp 0) (kp 1) (rf 0) (rf 1) ((rf 2) + 1), oF (a 0) aF (A 0) (A 1) (A 2) (A 3) (A 4), gA cI (aF 1) 10 (fun j => A (5 + j)), gA cI (aF 2) 10 (fun j => A (15 + j)), gA cI (aF 3) 60 (fun j => A (25 + j)), gA cI (aF 5) 6 (fun j => A (85 + j)), gA cI (aF 6) 36 (fun j => A (91 + j)), gA cI (aF 7) 5 (fun j => A (127 + j)), gA cI (aF 9) 200 (fun j => A (132 + j)), gA cI (aF 11) 40 (fun j => A (332 + j)), gA cI (aF 13) 8 (fun j => A (372 + j)), oF (a 1) aG (C1 0) (C1 1) (C1 2) (C1 3) (C1 4), gA cI (aG 1) 10 (fun j => C1 (5 + j)), gA cI (aG 2) 10 (fun j => C1 (15 + j)), gA cI (aG 3) 60 (fun j => C1 (25 + j)), gA cI (aG 5) 6 (fun j => C1 (85 + j)), gA cI (aG 6) 36 (fun j => C1 (91 + j)), gA cI (aG 7) 5 (fun j => C1 (127 + j)), gA cI (aG 9) 200 (fun j => C1 (132 + j)), gA cI (aG 11) 40 (fun j => C1 (332 + j)), gA cI (aG 13) 8 (fun j => C1 (372 + j)), oF (a 2) aH (C2 0) (C2 1) (C2 2) (C2 3) (C2 4), gA cI (aH 1) 10 (fun j => C2 (5 + j)), gA cI (aH 2) 10 (fun j => C2 (15 + j)), gA cI (aH 3) 60 (fun j => C2 (25 + j)), gA cI (aH 5) 6 (fun j => C2 (85 + j)), gA cI (aH 6) 36 (fun j => C2 (91 + j)), gA cI (aH 7) 5 (fun j => C2 (127 + j)), gA cI (aH 9) 200 (fun j => C2 (132 + j)), gA cI (aH 11) 40 (fun j => C2 (332 + j)), gA cI (aH 13) 8 (fun j => C2 (372 + j)), oC (a 5) aC, oL (aC 0) aL n0, gA cI (aL 0) 8 d0, oL (aC 1) aM n1, gA cI (aM 0) 8 d1, oL (aC 2) aN n2, gA cI (aN 0) 8 d2, oE (a 6) aE, gA cI (aE 0) 60 e0, gA cI (aE 1) 60 e1, gA cI (aE 2) 10 e2, oR (a 7) aR r1 r2 r3 r4, gA cI (aR 2) 8 p0, gA cI (aR 3) 8 p1, gA cI (aR 4) 8 p2, gA cI (aR 5) 8 p3, gA cI (aR 6) 8 p4, oH (a 8) aI yn yk, gA cI (aI 0) 384 yv, gA cI (aI 1) 8 yp, oT (a 9) aT zn, gA cI (aT 0) 64 zs, gA cI (aT 1) 2048 zr]) [53, 0, 1, 2, 3, 4, 5, 6, 7, 8, 9, 10, 11, 12, 13, 14, 15, 16, 17, 18, 19, 20, 21, 22, 23, 24, 25, 26, 27, 28, 29, 30, 31, 32, 33, 34, 35, 36, 37, 38, 39, 40, 41, 42, 43, 44, 45, 46, 47, 48, 49, 50, 51, 52] rfl rfl ?_
      exact ret _ _ _ _ _ _ dX8_type_34 rfl rfl (fun h => by cases h) (gPxi_e () (by rw [(show o_type A v n = (-4, 2, A) from (if_pos (by omega)).trans (if_pos (by omega)))]) (by rw [(show o_type A v n = (-4, 2, A) from (if_pos (by omega)).trans (if_pos (by omega)))]; rfl) trivial)
  · refine g_aload_n (pc := 10) X dX8_type_10 0 rfl ?_
    refine gc_Vxi (pc := 11) X (wr := [oF (a 0) aF (A 0) (A 1) (A 2) (A 3) (A 4), gA cI (aF 1) 10 (fun j => A (5 + j)), gA cI (aF 2) 10 (fun j => A (15 + j)), gA cI (aF 3) 60 (fun j => A (25 + j)), gA cI (aF 5) 6 (fun j => A (85 + j)), gA cI (aF 6) 36 (fun j => A (91 + j)), gA cI (aF 7) 5 (fun j => A (127 + j)), gA cI (aF 9) 200 (fun j => A (132 + j)), gA cI (aF 11) 40 (fun j => A (332 + j)), gA cI (aF 13) 8 (fun j => A (372 + j)), oF (a 1) aG (C1 0) (C1 1) (C1 2) (C1 3) (C1 4), gA cI (aG 1) 10 (fun j => C1 (5 + j)), gA cI (aG 2) 10 (fun j => C1 (15 + j)), gA cI (aG 3) 60 (fun j => C1 (25 + j)), gA cI (aG 5) 6 (fun j => C1 (85 + j)), gA cI (aG 6) 36 (fun j => C1 (91 + j)), gA cI (aG 7) 5 (fun j => C1 (127 + j)), gA cI (aG 9) 200 (fun j => C1 (132 + j)), gA cI (aG 11) 40 (fun j => C1 (332 + j)), gA cI (aG 13) 8 (fun j => C1 (372 + j)), oF (a 2) aH (C2 0) (C2 1) (C2 2) (C2 3) (C2 4), gA cI (aH 1) 10 (fun j => C2 (5 + j)), gA cI (aH 2) 10 (fun j => C2 (15 + j)), gA cI (aH 3) 60 (fun j => C2 (25 + j)), gA cI (aH 5) 6 (fun j => C2 (85 + j)), gA cI (aH 6) 36 (fun j => C2 (91 + j)), gA cI (aH 7) 5 (fun j => C2 (127 + j)), gA cI (aH 9) 200 (fun j => C2 (132 + j)), gA cI (aH 11) 40 (fun j => C2 (332 + j)), gA cI (aH 13) 8 (fun j => C2 (372 + j)), oC (a 5) aC, oL (aC 0) aL n0, gA cI (aL 0) 8 d0, oL (aC 1) aM n1, gA cI (aM 0) 8 d1, oL (aC 2) aN n2, gA cI (aN 0) 8 d2, oE (a 6) aE, gA cI (aE 0) 60 e0, gA cI (aE 1) 60 e1, gA cI (aE 2) 10 e2, oR (a 7) aR r1 r2 r3 r4, gA cI (aR 2) 8 p0, gA cI (aR 3) 8 p1, gA cI (aR 4) 8 p2, gA cI (aR 5) 8 p3, gA cI (aR 6) 8 p4, oH (a 8) aI yn yk, gA cI (aI 0) 384 yv, gA cI (aI 1) 8 yp, oT (a 9) aT zn, gA cI (aT 0) 64 zs, gA cI (aT 1) 2048 zr]) (c_X8_refuseBad l D cI cZ q a (kp 0) (kp 1) (rf 0) (rf 1) (rf 2)) lm_X8_61 dX8_type_11 [0] [1, 2, 3, 4, 5, 6, 7, 8, 9, 10, 11, 12, 13, 14, 15, 16, 17, 18, 19, 20, 21, 22, 23, 24, 25, 26, 27, 28, 29, 30, 31, 32, 33, 34, 35, 36, 37, 38, 39, 40, 41, 42, 43, 44, 45, 46, 47, 48, 49, 50, 51, 52, 53] rfl rfl rfl rfl (by decide) rfl rfl rfl rfl rfl rfl (fun x11 hx11 => ?_)
    refine g_pick (cn := 0) (sl := 0) (st := gi (-2) :: []) X (ws' := [oX q a (kp 0) (kp 1) ((rf 0) + 1) (rf 1) (rf 2), oF (a 0) aF (A 0) (A 1) (A 2) (A 3) (A 4), gA cI (aF 1) 10 (fun j => A (5 + j)), gA cI (aF 2) 10 (fun j => A (15 + j)), gA cI (aF 3) 60 (fun j => A (25 + j)), gA cI (aF 5) 6 (fun j => A (85 + j)), gA cI (aF 6) 36 (fun j => A (91 + j)), gA cI (aF 7) 5 (fun j => A (127 + j)), gA cI (aF 9) 200 (fun j => A (132 + j)), gA cI (aF 11) 40 (fun j => A (332 + j)), gA cI (aF 13) 8 (fun j => A (372 + j)), oF (a 1) aG (C1 0) (C1 1) (C1 2) (C1 3) (C1 4), gA cI (aG 1) 10 (fun j => C1 (5 + j)), gA cI (aG 2) 10 (fun j => C1 (15 + j)), gA cI (aG 3) 60 (fun j => C1 (25 + j)), gA cI (aG 5) 6 (fun j => C1 (85 + j)), gA cI (aG 6) 36 (fun j => C1 (91 + j)), gA cI (aG 7) 5 (fun j => C1 (127 + j)), gA cI (aG 9) 200 (fun j => C1 (132 + j)), gA cI (aG 11) 40 (fun j => C1 (332 + j)), gA cI (aG 13) 8 (fun j => C1 (372 + j)), oF (a 2) aH (C2 0) (C2 1) (C2 2) (C2 3) (C2 4), gA cI (aH 1) 10 (fun j => C2 (5 + j)), gA cI (aH 2) 10 (fun j => C2 (15 + j)), gA cI (aH 3) 60 (fun j => C2 (25 + j)), gA cI (aH 5) 6 (fun j => C2 (85 + j)), gA cI (aH 6) 36 (fun j => C2 (91 + j)), gA cI (aH 7) 5 (fun j => C2 (127 + j)), gA cI (aH 9) 200 (fun j => C2 (132 + j)), gA cI (aH 11) 40 (fun j => C2 (332 + j)), gA cI (aH 13) 8 (fun j => C2 (372 + j)), oC (a 5) aC, oL (aC 0) aL n0, gA cI (aL 0) 8 d0, oL (aC 1) aM n1, gA cI (aM 0) 8 d1, oL (aC 2) aN n2, gA cI (aN 0) 8 d2, oE (a 6) aE, gA cI (aE 0) 60 e0, gA cI (aE 1) 60 e1, gA cI (aE 2) 10 e2, oR (a 7) aR r1 r2 r3 r4, gA cI (aR 2) 8 p0, gA cI (aR 3) 8 p1, gA cI (aR 4) 8 p2, gA cI (aR 5) 8 p3, gA cI (aR 6) 8 p4, oH (a 8) aI yn yk, gA cI (aI 0) 384 yv, gA cI (aI 1) 8 yp, oT (a 9) aT zn, gA cI (aT 0) 64 zs, gA cI (aT 1) 2048 zr]) [53, 0, 1, 2, 3, 4, 5, 6, 7, 8, 9, 10, 11, 12, 13, 14, 15, 16, 17, 18, 19, 20, 21, 22, 23, 24, 25, 26, 27, 28, 29, 30, 31, 32, 33, 34, 35, 36, 37, 38, 39, 40, 41, 42, 43, 44, 45, 46, 47, 48, 49, 50, 51, 52] rfl rfl ?_
    exact ret _ _ _ _ _ _ dX8_type_14 rfl rfl (fun h => by cases h) (gPxi_e () (by rw [(show o_type A v n = (-2, 0, A) from if_neg (by omega))]) (by rw [(show o_type A v n = (-2, 0, A) from if_neg (by omega))]; rfl) trivial)

set_option maxHeartbeats 4000000 in
set_option maxRecDepth 100000 in
theorem c_X9_type (l : Launch) (D : va_G) (cI cZ : ClassId) (q : Nat) (a : Nat → Nat) (al : Int) (at_ : Int) (st : Int) (so : Int) (va : Int) (fa : Int) (pl : Int) (sg : Int) (su : Int) (A : Int → Int) (kp : Int → Int) (rf : Int → Int) (lk_ : Int → Int) (sh : Int → Int) (pi : Int → Int) (th : Int → Int) (fl : Int → Int) (so_ : Int → Int) (fr : Int → Int) (le : Int → Int) (lg : Int → Int) (bg : Int → Int) (v : Int) (n : Int) (hA : okA A) (hv : -9223372036854775808 ≤ v ∧ v < 9223372036854775808) (hn : -2147483648 ≤ n ∧ n < 2147483648) : GM l D cI cZ yX9_type cX9_type 5 (some .int) ({ frames := 1, cells := 0, slots := 0, locals := 22 }) 0 0 false [.ref q, gl v, gi n] [oM q a al at_ st so va fa pl sg su, gA cI (a 0) 1140 A, gA cZ (a 1) 2 kp, gA cI (a 2) 3 rf, gA cI (a 3) 6 lk_, gA cI (a 5) 60 sh, gA cI (a 12) 8 pi, gA cI (a 13) 8 th, gA cI (a 14) 8 fl, gA cI (a 15) 8 so_, gA cI (a 16) 8 fr, gA cI (a 17) 2048 le, gA cI (a 18) 41 lg, gA cI (a 19) 112 bg] (gPxi (fun xo : Unit => (o_type A v n).1) (fun xo : Unit => [oM q a al at_ st so va fa pl sg su, gA cI (a 0) 1140 ((o_type A v n).2.2), gA cZ (a 1) 2 kp, gA cI (a 2) 3 (bump (o_type A v n).2.1 rf), gA cI (a 3) 6 lk_, gA cI (a 5) 60 sh, gA cI (a 12) 8 pi, gA cI (a 13) 8 th, gA cI (a 14) 8 fl, gA cI (a 15) 8 so_, gA cI (a 16) 8 fr, gA cI (a 17) 2048 le, gA cI (a 18) 41 lg, gA cI (a 19) 112 bg]) (fun xo : Unit => True)) := by
  refine g_enterI (z := false) (lv0 := [(0, .ref q), (1, gl v), (3, gi n)]) _ rfl (by decide) rfl rfl (fun V X ret => ?_)
  have hA1 := okA_1 hA
  have hA0 := okA_0 hA
  have hpu := okA_pu hA
  have hA2 := okA_2 hA
  refine g_iload_n (pc := 0) X dX9_type_0 2 rfl ?_
  refine g_iconst (pc := 1) X dX9_type_1 ?_
  refine g_bipush (pc := 2) X dX9_type_2 (by decide +kernel) ?_
  refine gc_Si (pc := 4) X (c_X9_in l D cI cZ n 1 8 (by omega) (by omega) (by omega)) lm_X9_50 dX9_type_4 [] rfl rfl rfl rfl rfl rfl ?_
  refine g_ifneB (pc := 7) X 17 dX9_type_7 (by decide) (fun h7 => ?_) (fun h7 => ?_)
  · refine g_aload_n (pc := 17) X dX9_type_17 0 rfl ?_
    refine g_get (pc := 18) X fl_X9_7 dX9_type_18 0 (v := .ref (a 0)) rfl rfl ?_
    refine g_iconst (pc := 21) X dX9_type_21 ?_
    refine g_iald (pc := 22) X dX9_type_22 1 rfl (by omega) rfl ?_
    refine g_iload_n (pc := 23) X dX9_type_23 2 rfl ?_
    refine g_iadd (pc := 24) X dX9_type_24 ?_
    refine g_sipush (pc := 25) X dX9_type_25 (by decide +kernel) ?_
    refine g_icmple (pc := 28) X 38 dX9_type_28 (by decide) (by omega) (by omega) (fun h28 => ?_) (fun h28 => ?_)
    · refine g_iload_n (pc := 38) X dX9_type_38 2 rfl ?_
      refine g_iconst (pc := 39) X dX9_type_39 ?_
      refine g_isub (pc := 40) X dX9_type_40 ?_
      refine g_istore (pc := 41) X (lv' := [(0, .ref q), (1, gl v), (3, gi n), (4, gi (n - 1))]) dX9_type_41 rfl rfl ?_
      have L43 : ∀ (n43 : Nat) (i : Int) (k : Int) (g : Int → Int), (i = n - 1 - k ∧ 0 ≤ k ∧ k ≤ n) → (g = tyK A v n k) → (i + 1).toNat < n43 → V 0 0 [oM q a al at_ st so va fa pl sg su, gA cI (a 0) 1140 g, gA cZ (a 1) 2 kp, gA cI (a 2) 3 rf, gA cI (a 3) 6 lk_, gA cI (a 5) 60 sh, gA cI (a 12) 8 pi, gA cI (a 13) 8 th, gA cI (a 14) 8 fl, gA cI (a 15) 8 so_, gA cI (a 16) 8 fr, gA cI (a 17) 2048 le, gA cI (a 18) 41 lg, gA cI (a 19) 112 bg] 43 [(0, .ref q), (1, gl v), (3, gi n), (4, gi i)] [] := by
        intro n43
        induction n43 with
        | zero => intro i k g hi hg hn43; exact absurd hn43 (Nat.not_lt_zero _)
        | succ n43 ih43 =>
          intro i k g hi hg hn43
          have hg2 : g 2 = A 2 + k := by rw [hg]; exact tyK_2 hA
          refine g_iload (pc := 43) X dX9_type_43 3 rfl ?_
          refine g_iflt (pc := 45) X 91 dX9_type_45 (by decide) (by omega) (fun h45 => ?_) (fun h45 => ?_)
          · refine g_aload_n (pc := 91) X dX9_type_91 0 rfl ?_
            refine g_get (pc := 92) X fl_X9_7 dX9_type_92 0 (v := .ref (a 0)) rfl rfl ?_
            refine g_iconst (pc := 95) X dX9_type_95 ?_
            refine g_iald (pc := 96) X dX9_type_96 1 rfl (by omega) rfl ?_
            exact ret _ _ _ _ _ _ dX9_type_97 rfl rfl (fun h => by cases h) (gPxi_e () (by rw [(show o_type A v n = (A 2 + n, -1, tyK A v n n) from (if_pos (by omega)).trans (if_neg (by omega))), hg2]; exact congrArg (A 2 + ·) (by omega)) (by rw [(show o_type A v n = (A 2 + n, -1, tyK A v n n) from (if_pos (by omega)).trans (if_neg (by omega))), hg, show k = n by omega]; rfl) trivial)
          · refine g_aload_n (pc := 48) X dX9_type_48 0 rfl ?_
            refine g_get (pc := 49) X fl_X9_7 dX9_type_49 0 (v := .ref (a 0)) rfl rfl ?_
            refine g_sipush (pc := 52) X dX9_type_52 (by decide +kernel) ?_
            refine g_aload_n (pc := 55) X dX9_type_55 0 rfl ?_
            refine g_get (pc := 56) X fl_X9_7 dX9_type_56 0 (v := .ref (a 0)) rfl rfl ?_
            refine g_iconst (pc := 59) X dX9_type_59 ?_
            refine g_iald (pc := 60) X dX9_type_60 1 rfl (by omega) rfl ?_
            refine g_top (b := (A 2 + k)) hg2 ?_
            refine g_iadd (pc := 61) X dX9_type_61 ?_
            refine g_lload_n (pc := 62) X dX9_type_62 1 rfl ?_
            refine g_bipush (pc := 63) X dX9_type_63 (by decide +kernel) ?_
            refine g_iload (pc := 65) X dX9_type_65 3 rfl ?_
            refine g_imul (pc := 67) X dX9_type_67 ?_
            refine g_lshr (pc := 68) X (r := (v / 2 ^ (8 * i).toNat)) dX9_type_68 (lL_sh8 hv (by omega)) ?_
            refine g_ldc2 (pc := 69) X dX9_type_69 kc_X9_123 ?_
            refine g_land (pc := 72) X (r := byt v i) dX9_type_72 (lL_255 _) ?_
            refine g_l2i (pc := 73) X dX9_type_73 ?_
            refine g_iast (pc := 74) X (ws' := [oM q a al at_ st so va fa pl sg su, gA cI (a 0) 1140 (gupd g (132 + (A 2 + k)) (byt v i)), gA cZ (a 1) 2 kp, gA cI (a 2) 3 rf, gA cI (a 3) 6 lk_, gA cI (a 5) 60 sh, gA cI (a 12) 8 pi, gA cI (a 13) 8 th, gA cI (a 14) 8 fl, gA cI (a 15) 8 so_, gA cI (a 16) 8 fr, gA cI (a 17) 2048 le, gA cI (a 18) 41 lg, gA cI (a 19) 112 bg]) dX9_type_74 1 rfl (by omega) rfl rfl ?_
            refine g_aload_n (pc := 75) X dX9_type_75 0 rfl ?_
            refine g_get (pc := 76) X fl_X9_7 dX9_type_76 0 (v := .ref (a 0)) rfl rfl ?_
            refine g_iconst (pc := 79) X dX9_type_79 ?_
            refine g_dup2 (pc := 80) X dX9_type_80 rfl rfl ?_
            refine g_iald (pc := 81) X dX9_type_81 1 rfl (by omega) rfl ?_
            refine g_top (b := (A 2 + k)) (by rw [gupd_n (by omega)]; exact hg2) ?_
            refine g_iconst (pc := 82) X dX9_type_82 ?_
            refine g_iadd (pc := 83) X dX9_type_83 ?_
            refine g_iast (pc := 84) X (ws' := [oM q a al at_ st so va fa pl sg su, gA cI (a 0) 1140 (gupd (gupd g (132 + (A 2 + k)) (byt v i)) 2 ((A 2 + k) + 1)), gA cZ (a 1) 2 kp, gA cI (a 2) 3 rf, gA cI (a 3) 6 lk_, gA cI (a 5) 60 sh, gA cI (a 12) 8 pi, gA cI (a 13) 8 th, gA cI (a 14) 8 fl, gA cI (a 15) 8 so_, gA cI (a 16) 8 fr, gA cI (a 17) 2048 le, gA cI (a 18) 41 lg, gA cI (a 19) 112 bg]) dX9_type_84 1 rfl (by omega) rfl rfl ?_
            refine g_iinc (pc := 85) X (lv' := [(0, .ref q), (1, gl v), (3, gi n), (4, gi (i + (-1)))]) dX9_type_85 3 rfl rfl rfl ?_
            refine g_goto (pc := 88) X 43 dX9_type_88 (by decide) ?_
            exact ih43 _ (k + 1) _ (by omega) (by rw [hg]; exact tyK_s hA hi.2.1 rfl rfl (by rw [← hi.1]) rfl) (by omega)
      exact L43 _ _ 0 _ (by omega) tyK_0.symm (Nat.lt_succ_self _)
    · refine g_aload_n (pc := 31) X dX9_type_31 0 rfl ?_
      refine g_bipush (pc := 32) X dX9_type_32 (by decide +kernel) ?_
      refine gc_Vxi (pc := 34) X (wr := [gA cI (a 0) 1140 A, gA cZ (a 1) 2 kp, gA cI (a 3) 6 lk_, gA cI (a 5) 60 sh, gA cI (a 12) 8 pi, gA cI (a 13) 8 th, gA cI (a 14) 8 fl, gA cI (a 15) 8 so_, gA cI (a 16) 8 fr, gA cI (a 17) 2048 le, gA cI (a 18) 41 lg, gA cI (a 19) 112 bg]) (c_X9_refuse l D cI cZ q a al at_ st so va fa pl sg su rf (-4) (by omega)) lm_X9_54 dX9_type_34 [0, 3] [1, 2, 4, 5, 6, 7, 8, 9, 10, 11, 12, 13] rfl rfl rfl rfl (by decide) rfl rfl rfl rfl rfl rfl (fun x34 hx34 => ?_)
      refine g_pick (cn := 0) (sl := 0) (st := gi (-4) :: []) X (ws' := [oM q a al at_ st so va fa pl sg su, gA cI (a 0) 1140 A, gA cZ (a 1) 2 kp, gA cI (a 2) 3 (gupd rf (-2 - (-4)) (rf (-2 - (-4)) + 1)), gA cI (a 3) 6 lk_, gA cI (a 5) 60 sh, gA cI (a 12) 8 pi, gA cI (a 13) 8 th, gA cI (a 14) 8 fl, gA cI (a 15) 8 so_, gA cI (a 16) 8 fr, gA cI (a 17) 2048 le, gA cI (a 18) 41 lg, gA cI (a 19) 112 bg]) [12, 0, 1, 13, 2, 3, 4, 5, 6, 7, 8, 9, 10, 11] rfl rfl ?_
      exact ret _ _ _ _ _ _ dX9_type_37 rfl rfl (fun h => by cases h) (gPxi_e () (by rw [(show o_type A v n = (-4, 2, A) from (if_pos (by omega)).trans (if_pos (by omega)))]) (by rw [(show o_type A v n = (-4, 2, A) from (if_pos (by omega)).trans (if_pos (by omega)))]; rfl) trivial)
  · refine g_aload_n (pc := 10) X dX9_type_10 0 rfl ?_
    refine g_bipush (pc := 11) X dX9_type_11 (by decide +kernel) ?_
    refine gc_Vxi (pc := 13) X (wr := [gA cI (a 0) 1140 A, gA cZ (a 1) 2 kp, gA cI (a 3) 6 lk_, gA cI (a 5) 60 sh, gA cI (a 12) 8 pi, gA cI (a 13) 8 th, gA cI (a 14) 8 fl, gA cI (a 15) 8 so_, gA cI (a 16) 8 fr, gA cI (a 17) 2048 le, gA cI (a 18) 41 lg, gA cI (a 19) 112 bg]) (c_X9_refuse l D cI cZ q a al at_ st so va fa pl sg su rf (-2) (by omega)) lm_X9_54 dX9_type_13 [0, 3] [1, 2, 4, 5, 6, 7, 8, 9, 10, 11, 12, 13] rfl rfl rfl rfl (by decide) rfl rfl rfl rfl rfl rfl (fun x13 hx13 => ?_)
    refine g_pick (cn := 0) (sl := 0) (st := gi (-2) :: []) X (ws' := [oM q a al at_ st so va fa pl sg su, gA cI (a 0) 1140 A, gA cZ (a 1) 2 kp, gA cI (a 2) 3 (gupd rf (-2 - (-2)) (rf (-2 - (-2)) + 1)), gA cI (a 3) 6 lk_, gA cI (a 5) 60 sh, gA cI (a 12) 8 pi, gA cI (a 13) 8 th, gA cI (a 14) 8 fl, gA cI (a 15) 8 so_, gA cI (a 16) 8 fr, gA cI (a 17) 2048 le, gA cI (a 18) 41 lg, gA cI (a 19) 112 bg]) [12, 0, 1, 13, 2, 3, 4, 5, 6, 7, 8, 9, 10, 11] rfl rfl ?_
    exact ret _ _ _ _ _ _ dX9_type_16 rfl rfl (fun h => by cases h) (gPxi_e () (by rw [(show o_type A v n = (-2, 0, A) from if_neg (by omega))]) (by rw [(show o_type A v n = (-2, 0, A) from if_neg (by omega))]; rfl) trivial)
