/-! what the calls of chances answer, and THE FRACTION behind them -/
def redP (P Q : Int) : Int := P / gc P Q
def redQ (P Q : Int) : Int := Q / gc P Q
theorem gc_pos2 {a b : Int} (h : 0 < b) : 0 < gc a b := by rw [gc_comm]; exact gc_pos h
theorem gc_le {a b : Int} (h : 0 < b) : gc a b ≤ b := by
  have q := Nat.le_of_dvd (show 0 < b.toNat by omega) (Nat.gcd_dvd_right a.toNat b.toNat)
  unfold gc; omega
theorem redP_0 {P Q : Int} (hP : 0 ≤ P) (hQ : 0 < Q) : redP P Q = 0 ↔ P = 0 := by
  have h := gc_dvd (b := Q) hP
  constructor
  · intro e
    unfold redP at e
    rw [e, Int.mul_zero] at h
    exact h.symm
  · intro e; unfold redP; rw [e, Int.zero_ediv]
theorem redQ_1 {P Q : Int} (hQ : 0 < Q) : 0 < redQ P Q := by
  have h := gc_dvd (a := Q) (b := P) (by omega)
  rw [gc_comm] at h
  have p := gc_pos2 (a := P) hQ
  unfold redQ
  rcases Int.lt_or_le 0 (Q / gc P Q) with q | q
  · exact q
  · have : gc P Q * (Q / gc P Q) ≤ 0 := Int.mul_nonpos_of_nonneg_of_nonpos (by omega) q
    omega
theorem redP_n {P Q : Int} (hP : 0 ≤ P) (hQ : 0 < Q) : 0 ≤ redP P Q ∧ redP P Q ≤ P := by
  have p := gc_pos2 (a := P) hQ
  exact ⟨Int.ediv_nonneg hP (by omega), Int.ediv_le_self _ hP⟩
def sgn (P : Int) : Int := if P = 0 then 0 else 1
def frM (f : Int → Int) (s P Q : Int) : Prop := okB f ∧ (nv f 0 = P ∧ nv f 1 = Q) ∧ s = sgn P ∧ 0 ≤ P ∧ 0 < Q
theorem frM_t {f g : Int → Int} {P Q : Int} (hg : okB g) (hP : 0 ≤ P) (hQ : 0 < Q) (e0 : nv f 0 = P) (e1 : nv f 1 = Q) (h0 : nv g 0 = nv f 0 / gc (nv f 0) (nv f 1)) (h1 : nv g 1 = nv f 1 / gc (nv f 0) (nv f 1)) : frM g (if nv f 0 = 0 then (0 : Int) else 1) (redP P Q) (redQ P Q) := by
  subst e0; subst e1
  refine ⟨hg, ⟨h0, h1⟩, ?_, (redP_n hP hQ).1, redQ_1 hQ⟩
  unfold sgn
  by_cases c : nv f 0 = 0
  · rw [if_pos c, if_pos ((redP_0 hP hQ).mpr c)]
  · rw [if_neg c, if_neg (fun q => c ((redP_0 hP hQ).mp q))]
noncomputable def o_taken (A : Int → Int) (t m f se la P Q : Int) : Int × Int × Int × Int := if (0 ≤ t ∧ t ≤ A 0 - 1) ∧ (0 ≤ m ∧ m ≤ A 1 - 1) ∧ (0 ≤ f ∧ f ≤ 9) ∧ ((se = -1 ∧ la = 0) ∨ (se ≠ -1 ∧ (0 ≤ se ∧ se ≤ A 1 - 1) ∧ -9 ≤ la ∧ la ≤ 9)) then (if sTt A t f se la = 0 then (-3, 1, P, Q) else (1, -1, redP (sLk A t m f se la) (sTt A t f se la), redQ (sLk A t m f se la) (sTt A t f se la))) else (-2, 0, P, Q)
/-- how many sets -/
def wy (n j : Int) : Int := itr (fun i c => c * (n - i) / (i + 1)) 1 j
theorem wy_s {n j : Int} (h : 0 ≤ j) : wy n (j + 1) = wy n j * (n - j) / (j + 1) := itr_s h
theorem wy_bN : ∀ n : Fin 10, ∀ j : Fin 11, 0 ≤ wy (n.val : Int) (j.val : Int) ∧ wy (n.val : Int) (j.val : Int) ≤ 126 := by decide +kernel
theorem wy_b {n j : Int} (hn : 0 ≤ n ∧ n ≤ 9) (hj : 0 ≤ j ∧ j ≤ 10) : 0 ≤ wy n j ∧ wy n j ≤ 126 := by
  have q := wy_bN ⟨n.toNat, by omega⟩ ⟨j.toNat, by omega⟩
  rw [show ((⟨n.toNat, by omega⟩ : Fin 10).val : Int) = n from by show (n.toNat : Int) = n; omega, show ((⟨j.toNat, by omega⟩ : Fin 11).val : Int) = j from by show (j.toNat : Int) = j; omega] at q
  exact q
/-- n factors, the first j of them L, the others M -/
def mt (c L M j h : Int) : Int := itr (fun h x => x * (if h < j then L else M)) c h
theorem mt_s {c L M j h : Int} (hh : 0 ≤ h) : mt c L M j (h + 1) = mt c L M j h * (if h < j then L else M) := itr_s hh
theorem mt_b {c L M j h C : Int} (hc : 0 ≤ c ∧ c ≤ C) (hL : 0 ≤ L ∧ L ≤ 8192) (hM : 0 ≤ M ∧ M ≤ 8192) (hh : 0 ≤ h ∧ h ≤ 9) : 0 ≤ mt c L M j h ∧ mt c L M j h ≤ C * 8192 ^ 9 := by
  have e : ∀ k : Nat, 0 ≤ mt c L M j (k : Int) ∧ mt c L M j (k : Int) ≤ C * 8192 ^ k := by
    intro k
    induction k with
    | zero => exact ⟨hc.1, by rw [Int.pow_zero, Int.mul_one]; exact hc.2⟩
    | succ k ih =>
      rw [show ((k + 1 : Nat) : Int) = (k : Int) + 1 by omega, mt_s (by omega)]
      have q := mulb (a := mt c L M j (k : Int)) (b := if (k : Int) < j then L else M) (A := C * 8192 ^ k) (B := 8192) ih (by split <;> omega)
      rw [Int.pow_succ, ← Int.mul_assoc]; exact q
  obtain ⟨k, rfl⟩ := Int.eq_ofNat_of_zero_le hh.1
  have q := e k
  obtain ⟨d, hd⟩ := Nat.le.dest (show k ≤ 9 by omega)
  have p1 : 0 < (8192 : Int) ^ d := Int.pow_pos (by decide)
  have p2 : 0 < (8192 : Int) ^ k := Int.pow_pos (by decide)
  have m := Int.mul_le_mul_of_nonneg_left (show 1 ≤ (8192 : Int) ^ d by omega) (show 0 ≤ C * 8192 ^ k from Int.mul_nonneg (by omega) (Int.le_of_lt p2))
  rw [Int.mul_one, Int.mul_assoc, ← Int.pow_add, hd] at m
  omega
/-- at least k of n: what stands above T ^ n -/
def mP (n k L T i : Int) : Int := itr (fun j x => if k ≤ j then x + mt (wy n j) L (T - L) j n else x) 0 i
theorem mP_s {n k L T j : Int} (h : 0 ≤ j) : mP n k L T (j + 1) = if k ≤ j then mP n k L T j + mt (wy n j) L (T - L) j n else mP n k L T j := itr_s h
theorem mP_b {n k L T i : Int} (hn : 1 ≤ n ∧ n ≤ 9) (hL : 0 ≤ L ∧ L ≤ T) (hT : T ≤ 8192) (hi : 0 ≤ i ∧ i ≤ n + 1) : 0 ≤ mP n k L T i ∧ mP n k L T i ≤ i * (126 * 8192 ^ 9) := by
  refine itr_i (P := fun i x => 0 ≤ x ∧ x ≤ i * (126 * 8192 ^ 9)) (by simp) (n := n + 1) (fun j x h0 h1 hx => ?_) hi.1 hi.2
  have w := wy_b (n := n) (j := j) (by omega) (by omega)
  have q := mt_b (j := j) (h := n) (C := 126) w ⟨hL.1, by omega⟩ (show 0 ≤ T - L ∧ T - L ≤ 8192 by omega) (by omega)
  have a : (j + 1) * (126 * 8192 ^ 9) = j * (126 * 8192 ^ 9) + 126 * (8192 : Int) ^ 9 := by rw [Int.add_mul, Int.one_mul]
  (try dsimp only)
  rw [a]
  split <;> omega
def tn (T i : Int) : Int := itr (fun _ x => x * T) 1 i
theorem tn_s {T i : Int} (h : 0 ≤ i) : tn T (i + 1) = tn T i * T := itr_s h
theorem tn_b {T i : Int} (hT : 1 ≤ T ∧ T ≤ 8192) (hi : 0 ≤ i ∧ i ≤ 9) : 1 ≤ tn T i ∧ tn T i ≤ 8192 ^ 9 := by
  have e : tn T i = mt 1 T T i i := itr_c (fun j x h0 h1 => by rw [if_pos h1])
  have q := mt_b (c := 1) (C := 1) (j := i) (h := i) (L := T) (M := T) (by omega) (by omega) (by omega) hi
  rw [← e, Int.one_mul] at q
  refine ⟨?_, q.2⟩
  exact itr_i (P := fun _ x => 1 ≤ x) (by decide) (n := i) (fun j x h0 h1 hx => by
    have m := Int.mul_le_mul_of_nonneg_left (show 1 ≤ T by omega) (show 0 ≤ x by omega)
    rw [Int.mul_one] at m; (try dsimp only); omega) hi.1 (Int.le_refl _)
noncomputable def o_most (A : Int → Int) (t m n k P Q : Int) : Int × Int × Int × Int := if (0 ≤ t ∧ t ≤ A 0 - 1) ∧ (0 ≤ m ∧ m ≤ A 1 - 1) ∧ (1 ≤ n ∧ n ≤ 9) ∧ 0 ≤ k ∧ k ≤ n then (if sTot A t 0 = 0 then (-3, 1, P, Q) else (1, -1, redP (mP n k (sLike A t m 0) (sTot A t 0) (n + 1)) (tn (sTot A t 0) n), redQ (mP n k (sLike A t m 0) (sTot A t 0) (n + 1)) (tn (sTot A t 0) n))) else (-2, 0, P, Q)
/-- houses -/
def hsm (A : Int → Int) (g : Int) : Int := sm (fun i => A (332 + 10 * g + i)) 10
def fac (A : Int → Int) (h g : Int) : Int := if g = h ∨ hsm A g = 0 then 1 else hsm A g
def lkI (A : Int → Int) (h k g x : Int) : Int := itr (fun g y => y * fac A h g) (x * A (332 + 10 * h + A (372 + k))) g
def lkT (A : Int → Int) (h k : Int) : Int := itr (fun k x => lkI A h k (A 3) x) 1 k
def hT (A : Int → Int) (n : Int) : Int := sm (fun g => lkT A g (A 4)) n
theorem lkI_s {A : Int → Int} {h k g x : Int} (hg : 0 ≤ g) : lkI A h k (g + 1) x = lkI A h k g x * fac A h g := itr_s hg
theorem lkT_s {A : Int → Int} {h k : Int} (hk : 0 ≤ k) : lkT A h (k + 1) = lkI A h k (A 3) (lkT A h k) := itr_s hk
theorem hsm_b {A : Int → Int} (hA : okA A) {g : Int} (hg : 0 ≤ g ∧ g < 4) : 0 ≤ hsm A g ∧ hsm A g ≤ 90 := by
  have q := sm_b (f := fun i => A (332 + 10 * g + i)) (n := 10) (c := 9) (by decide) (fun i h0 h1 => by
    have p := okA_ha hA (j := 10 * g + i) (by omega)
    rw [show 332 + (10 * g + i) = 332 + 10 * g + i by omega] at p; exact p)
  unfold hsm; omega
theorem fac_b {A : Int → Int} (hA : okA A) {h g : Int} (hg : 0 ≤ g ∧ g < 4) : 1 ≤ fac A h g ∧ fac A h g ≤ 90 := by
  have q := hsm_b hA hg
  unfold fac; split <;> omega
theorem pw90 {g : Int} (hg : 0 ≤ g ∧ g ≤ 4) : (90 : Int) ^ g.toNat ≤ 65610000 := by
  have : g = 0 ∨ g = 1 ∨ g = 2 ∨ g = 3 ∨ g = 4 := by omega
  rcases this with r | r | r | r | r <;> rw [r] <;> decide
theorem lkI_b {A : Int → Int} (hA : okA A) {h k g x C : Int} (hh : 0 ≤ h ∧ h < 4) (hk : 0 ≤ k ∧ k < 8) (hg : 0 ≤ g ∧ g ≤ 4) (hx : 0 ≤ x ∧ x ≤ C) : 0 ≤ lkI A h k g x ∧ lkI A h k g x ≤ C * 590490000 := by
  have s := okA_se hA hk
  have a := okA_ha hA (j := 10 * h + A (372 + k)) (by omega)
  rw [show 332 + (10 * h + A (372 + k)) = 332 + 10 * h + A (372 + k) by omega] at a
  have e : 0 ≤ lkI A h k g x ∧ lkI A h k g x ≤ C * 9 * 90 ^ g.toNat := by
    refine itr_i (P := fun i y => 0 ≤ y ∧ y ≤ C * 9 * 90 ^ i.toNat) ?_ (n := 4) (fun i y h0 h1 hy => ?_) hg.1 hg.2
    · have m := mulb hx a
      rw [show (0 : Int).toNat = 0 from rfl, Int.pow_zero, Int.mul_one]; exact m
    · have m := mulb (b := fac A h i) (B := 90) hy (by have := fac_b hA (h := h) (g := i) ⟨h0, h1⟩; omega)
      rw [show (i + 1).toNat = i.toNat + 1 by omega, Int.pow_succ, ← Int.mul_assoc]; exact m
  have p := Int.mul_le_mul_of_nonneg_left (pw90 hg) (show 0 ≤ C * 9 by omega)
  omega
theorem lkT_b {A : Int → Int} (hA : okA A) {h k : Int} (hh : 0 ≤ h ∧ h < 4) (hk : 0 ≤ k ∧ k ≤ 8) : 0 ≤ lkT A h k ∧ lkT A h k ≤ 590490000 ^ 8 := by
  have h3 := okA_3 hA
  have e : 0 ≤ lkT A h k ∧ lkT A h k ≤ 590490000 ^ k.toNat := by
    refine itr_i (P := fun i y => 0 ≤ y ∧ y ≤ 590490000 ^ i.toNat) ⟨by decide, by decide⟩ (n := 8) (fun i y h0 h1 hy => ?_) hk.1 hk.2
    have m := lkI_b hA (h := h) (k := i) (g := A 3) hh ⟨h0, h1⟩ (by omega) hy
    rw [show (i + 1).toNat = i.toNat + 1 by omega, Int.pow_succ]; exact m
  obtain ⟨n, rfl⟩ := Int.eq_ofNat_of_zero_le hk.1
  rw [Int.toNat_natCast] at e
  obtain ⟨d, hd⟩ := Nat.le.dest (show n ≤ 8 by omega)
  have p1 : 0 < (590490000 : Int) ^ d := Int.pow_pos (by decide)
  have p2 : 0 < (590490000 : Int) ^ n := Int.pow_pos (by decide)
  have m := Int.mul_le_mul_of_nonneg_left (show 1 ≤ (590490000 : Int) ^ d by omega) (Int.le_of_lt p2)
  rw [Int.mul_one, ← Int.pow_add, hd] at m
  omega
theorem hT_b {A : Int → Int} (hA : okA A) {n : Int} (hn : 0 ≤ n ∧ n ≤ A 3) : 0 ≤ hT A n ∧ hT A n ≤ n * 590490000 ^ 8 := by
  have h3 := okA_3 hA
  have h4 := okA_4 hA
  exact sm_b hn.1 (fun g g0 g1 => lkT_b hA (by omega) h4)
theorem BB_1 : (10 : Int) * 590490000 ^ 8 * 1000 < BB := by unfold BB; decide
theorem BB_2 : (10 : Int) * (126 * 8192 ^ 9) * 10000 < BB := by unfold BB; decide
noncomputable def o_whose (A : Int → Int) (h P Q : Int) : Int × Int × Int × Int := if 0 ≤ h ∧ h ≤ A 3 - 1 then (if hT A (A 3) = 0 then (-3, 1, P, Q) else (1, -1, redP (lkT A h (A 4)) (hT A (A 3)), redQ (lkT A h (A 4)) (hT A (A 3)))) else (-2, 0, P, Q)
def o_sign (P Q w : Int) : Int × Int := if 0 ≤ w ∧ w ≤ 2 then (if w = 0 then sgn P else if w = 1 then lims P else lims Q, -1) else (-2, 0)
def o_limb (P Q w i : Int) : Int × Int := if (0 ≤ w ∧ w ≤ 1) ∧ 0 ≤ i then (if i < (if w = 0 then lims P else lims Q) then dig (if w = 0 then P else Q) i else -1, -1) else (-2, 0)
