/-! own kit, 1: ints and longs named by integers -/
def iI (z : Int) : Int32 := Int32.ofInt z
def lL (z : Int) : Int64 := Int64.ofInt z
abbrev gi (z : Int) : Value := .int (iI z)
abbrev gl (z : Int) : Value := .long (lL z)
def gB (P : Prop) [Decidable P] : Int := if P then 1 else 0
theorem gB_t {P : Prop} [Decidable P] (h : P) : gB P = 1 := if_pos h
theorem gB_f {P : Prop} [Decidable P] (h : ¬ P) : gB P = 0 := if_neg h
theorem gB_c {P Q : Prop} [Decidable P] [Decidable Q] (h : P ↔ Q) : gB P = gB Q := by
  unfold gB; by_cases p : P
  · rw [if_pos p, if_pos (h.mp p)]
  · rw [if_neg p, if_neg (fun q => p (h.mpr q))]
theorem gB_n {P : Prop} [Decidable P] : gB P = 0 ∨ gB P = 1 := by
  unfold gB; by_cases p : P
  · rw [if_pos p]; exact Or.inr rfl
  · rw [if_neg p]; exact Or.inl rfl
def gabs (z : Int) : Int := if z < 0 then -z else z
def gmax (a b : Int) : Int := if a < b then b else a
def gmin (a b : Int) : Int := if b < a then b else a
def gupd (f : Int → Int) (k v : Int) : Int → Int := fun j => if j = k then v else f j
theorem gupd_s {f : Int → Int} {k v : Int} : gupd f k v k = v := if_pos rfl
theorem gupd_n {f : Int → Int} {k v j : Int} (h : j ≠ k) : gupd f k v j = f j := if_neg h
theorem iI_t {z : Int} (h : -2147483648 ≤ z ∧ z < 2147483648) : (iI z).toInt = z := by
  have q : z.bmod (2 ^ 32) = z := by rw [Int.bmod_eq_of_le (by omega) (by omega)]
  unfold iI; rw [Int32.toInt_ofInt]; exact q
theorem lL_t {z : Int} (h : -9223372036854775808 ≤ z ∧ z < 9223372036854775808) : (lL z).toInt = z := by
  have q : z.bmod (2 ^ 64) = z := by rw [Int.bmod_eq_of_le (by omega) (by omega)]
  unfold lL; rw [Int64.toInt_ofInt]; exact q
theorem iI_o (x : Int32) : ∃ z : Int, -2147483648 ≤ z ∧ z < 2147483648 ∧ x = iI z := ⟨x.toInt, Int32.le_toInt x, Int32.toInt_lt x, (Int32.ofInt_toInt x).symm⟩
theorem iI_add (a b : Int) : iI a + iI b = iI (a + b) := (Int32.ofInt_add a b).symm
theorem iI_sub (a b : Int) : iI a - iI b = iI (a - b) := (Int32.ofInt_sub a b).symm
theorem iI_mul (a b : Int) : iI a * iI b = iI (a * b) := (Int32.ofInt_mul a b).symm
theorem iI_neg (a : Int) : - iI a = iI (-a) := (Int32.ofInt_neg a).symm
theorem lL_add (a b : Int) : lL a + lL b = lL (a + b) := (Int64.ofInt_add a b).symm
theorem lL_sub (a b : Int) : lL a - lL b = lL (a - b) := (Int64.ofInt_sub a b).symm
theorem lL_mul (a b : Int) : lL a * lL b = lL (a * b) := (Int64.ofInt_mul a b).symm
theorem iI_lt {a b : Int} (ha : -2147483648 ≤ a ∧ a < 2147483648) (hb : -2147483648 ≤ b ∧ b < 2147483648) : iI a < iI b ↔ a < b := by
  rw [Int32.lt_iff_toInt_lt, iI_t ha, iI_t hb]
theorem iI_le {a b : Int} (ha : -2147483648 ≤ a ∧ a < 2147483648) (hb : -2147483648 ≤ b ∧ b < 2147483648) : iI a ≤ iI b ↔ a ≤ b := by
  rw [Int32.le_iff_toInt_le, iI_t ha, iI_t hb]
theorem iI_eq {a b : Int} (ha : -2147483648 ≤ a ∧ a < 2147483648) (hb : -2147483648 ≤ b ∧ b < 2147483648) : iI a = iI b ↔ a = b := by
  rw [← Int32.toInt_inj, iI_t ha, iI_t hb]
theorem lL_lt {a b : Int} (ha : -9223372036854775808 ≤ a ∧ a < 9223372036854775808) (hb : -9223372036854775808 ≤ b ∧ b < 9223372036854775808) : lL a < lL b ↔ a < b := by
  rw [Int64.lt_iff_toInt_lt, lL_t ha, lL_t hb]
theorem lL_eq {a b : Int} (ha : -9223372036854775808 ≤ a ∧ a < 9223372036854775808) (hb : -9223372036854775808 ≤ b ∧ b < 9223372036854775808) : lL a = lL b ↔ a = b := by
  rw [← Int64.toInt_inj, lL_t ha, lL_t hb]
theorem iI_z : iI 0 = 0 := rfl
theorem iI_N {n : Nat} : iI (n : Int) = nI n := by
  show Int32.ofInt n = Int32.ofNat n
  exact Int32.ofInt_eq_ofNat
theorem iI_ne {b : Int} (h : b ≠ 0) (hb : -2147483648 ≤ b ∧ b < 2147483648) : ¬ iI b = 0 := by
  rw [← iI_z, iI_eq hb (by omega)]; exact h
theorem lL_ne {b : Int} (h : b ≠ 0) (hb : -9223372036854775808 ≤ b ∧ b < 9223372036854775808) : ¬ lL b = 0 := by
  rw [show (0 : Int64) = lL 0 from rfl, lL_eq hb (by omega)]; exact h
theorem iI_div {a b : Int} (ha : 0 ≤ a ∧ a < 2147483648) (hb : 0 < b ∧ b < 2147483648) : iI a / iI b = iI (a / b) := by
  have h1 : 0 ≤ a / b := Int.ediv_nonneg ha.1 (by omega)
  have h2 : a / b ≤ a := Int.ediv_le_self b ha.1
  apply Int32.toInt_inj.mp
  rw [lg_idiv_nonneg (by rw [iI_t (by omega)]; omega) (by rw [iI_t (by omega)]; omega), iI_t (by omega), iI_t (by omega), iI_t (by omega)]
theorem iI_rem {a b : Int} (ha : 0 ≤ a ∧ a < 2147483648) (hb : 0 < b ∧ b < 2147483648) : iI a - iI a / iI b * iI b = iI (a % b) := by
  rw [iI_div ha hb, iI_mul, iI_sub, Int.emod_def, Int.mul_comm b]
theorem lL_div {a b : Int} (ha : 0 ≤ a ∧ a < 9223372036854775808) (hb : 0 < b ∧ b < 9223372036854775808) : lL a / lL b = lL (a / b) := by
  have h1 : 0 ≤ a / b := Int.ediv_nonneg ha.1 (by omega)
  have h2 : a / b ≤ a := Int.ediv_le_self b ha.1
  apply Int64.toInt_inj.mp
  rw [Int64.toInt_div_of_ne_right _ _ (by intro h; have h3 := congrArg Int64.toInt h; rw [lL_t (by omega), show (-1 : Int64).toInt = -1 by decide] at h3; omega), lL_t (by omega), lL_t (by omega), lL_t (by omega)]
  exact Int.tdiv_eq_ediv_of_nonneg ha.1
theorem lL_rem {a b : Int} (ha : 0 ≤ a ∧ a < 9223372036854775808) (hb : 0 < b ∧ b < 9223372036854775808) : lL a - lL a / lL b * lL b = lL (a % b) := by
  rw [lL_div ha hb, lL_mul, lL_sub, Int.emod_def, Int.mul_comm b]
theorem iI_nat {a : Int} (h : 0 ≤ a) : iI a = nI a.toNat := by
  rw [← iI_N]; exact congrArg iI (Int.toNat_of_nonneg h).symm
theorem iI_shl {a n : Int} (ha : 0 ≤ a) (hn : 0 ≤ n ∧ n < 32) (h : a * 2 ^ n.toNat < 4294967296) : iI a <<< (iI n &&& 31) = iI (a * 2 ^ n.toNat) := by
  have hk : ∀ k : Nat, k < 32 → ((nI k &&& 31).toBitVec.smod 32).toNat = k := by decide +kernel
  obtain ⟨x, rfl⟩ := Int.eq_ofNat_of_zero_le ha
  obtain ⟨k, rfl⟩ := Int.eq_ofNat_of_zero_le hn.1
  have h2 : ((x : Int) * 2 ^ (k : Int).toNat) = ((x * 2 ^ k : Nat) : Int) := by rw [Int.toNat_natCast]; simp
  rw [h2] at h ⊢
  rw [iI_N, iI_N, iI_N, pk_shlN _ k (hk k (by omega)) (by omega)]
theorem iI_shr {a n : Int} (ha : 0 ≤ a ∧ a < 2147483648) (hn : 0 ≤ n ∧ n < 32) : iI a >>> (iI n &&& 31) = iI (a / 2 ^ n.toNat) := by
  have hk : ∀ k : Nat, k < 32 → ((nI k &&& 31).toBitVec.smod 32).toNat = k := by decide +kernel
  obtain ⟨x, rfl⟩ := Int.eq_ofNat_of_zero_le ha.1
  obtain ⟨k, rfl⟩ := Int.eq_ofNat_of_zero_le hn.1
  have h2 : ((x : Int) / 2 ^ (k : Int).toNat) = ((x / 2 ^ k : Nat) : Int) := by rw [Int.toNat_natCast]; simp
  rw [h2]
  rw [iI_N, iI_N, iI_N, pk_shrN (by omega) _ k (hk k (by omega))]
theorem iI_and {a b : Int} (ha : 0 ≤ a) (hb : 0 ≤ b) : iI a &&& iI b = iI ((a.toNat &&& b.toNat : Nat) : Int) := by
  rw [iI_nat ha, iI_nat hb, iI_N]
  apply Int32.toBitVec_inj.mp
  show BitVec.ofNat 32 _ &&& BitVec.ofNat 32 _ = BitVec.ofNat 32 _
  rw [BitVec.ofNat_and]
theorem iI_or {a b : Int} (ha : 0 ≤ a) (hb : 0 ≤ b) : iI a ||| iI b = iI ((a.toNat ||| b.toNat : Nat) : Int) := by
  rw [iI_nat ha, iI_nat hb, iI_N]
  apply Int32.toBitVec_inj.mp
  show BitVec.ofNat 32 _ ||| BitVec.ofNat 32 _ = BitVec.ofNat 32 _
  rw [BitVec.ofNat_or]
theorem iI_tc {z : Int} (h : 0 ≤ z ∧ z < 2147483648) : (iI z).toNatClampNeg = z.toNat := by
  show (iI z).toInt.toNat = _
  rw [iI_t (by omega)]
theorem iI_in {z : Int} {n : Nat} (h : 0 ≤ z ∧ z < (n : Int)) (hn : n < 2147483648) : vp_in (iI z) n := vp_in_iff.mpr (by rw [iI_t (by omega)]; exact h)
theorem iI_abs {a : Int} (h : -2147483648 < a ∧ a < 2147483648) : (if iI a < 0 then -iI a else iI a) = iI (gabs a) := by
  rw [← iI_z]
  unfold gabs
  by_cases p : a < 0
  · rw [if_pos p, if_pos ((iI_lt (by omega) (by omega)).mpr p), iI_neg]
  · rw [if_neg p, if_neg (fun q => p ((iI_lt (by omega) (by omega)).mp q))]
theorem iI_max {a b : Int} (ha : -2147483648 ≤ a ∧ a < 2147483648) (hb : -2147483648 ≤ b ∧ b < 2147483648) : (if iI a < iI b then iI b else iI a) = iI (gmax a b) := by
  unfold gmax
  by_cases p : a < b
  · rw [if_pos p, if_pos ((iI_lt ha hb).mpr p)]
  · rw [if_neg p, if_neg (fun q => p ((iI_lt ha hb).mp q))]
theorem iI_min {a b : Int} (ha : -2147483648 ≤ a ∧ a < 2147483648) (hb : -2147483648 ≤ b ∧ b < 2147483648) : (if iI b < iI a then iI b else iI a) = iI (gmin a b) := by
  unfold gmin
  by_cases p : b < a
  · rw [if_pos p, if_pos ((iI_lt hb ha).mpr p)]
  · rw [if_neg p, if_neg (fun q => p ((iI_lt hb ha).mp q))]
