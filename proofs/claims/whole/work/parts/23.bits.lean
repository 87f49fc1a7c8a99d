/-! bits by numbers -/
theorem pw_b {k : Int} {c : Nat} {C : Int} (hC : (2 : Int) ^ c = C) (h : 0 ≤ k ∧ k ≤ (c : Int)) : (1 : Int) ≤ 2 ^ k.toNat ∧ (2 : Int) ^ k.toNat ≤ C := by
  obtain ⟨n, rfl⟩ := Int.eq_ofNat_of_zero_le h.1
  rw [Int.toNat_natCast, ← hC]
  have h2 : n ≤ c := by omega
  have h3 : (1 : Nat) ≤ 2 ^ n := Nat.one_le_two_pow
  have h4 : 2 ^ n ≤ 2 ^ c := Nat.pow_le_pow_right (by omega) h2
  have e1 : ((2 ^ n : Nat) : Int) = (2 : Int) ^ n := by simp
  have e2 : ((2 ^ c : Nat) : Int) = (2 : Int) ^ c := by simp
  rw [← e1, ← e2]
  omega
theorem pw_s {k : Int} (h : 0 ≤ k) : (2 : Int) ^ (k + 1).toNat = 2 * 2 ^ k.toNat := by
  rw [show (k + 1).toNat = k.toNat + 1 by omega, Int.pow_succ, Int.mul_comm]
theorem pw_d {s k : Int} (h : 0 ≤ s) : 0 ≤ s / 2 ^ k.toNat ∧ s / 2 ^ k.toNat ≤ s := by
  have e1 : ((2 ^ k.toNat : Nat) : Int) = (2 : Int) ^ k.toNat := by simp
  rw [← e1]
  exact ⟨Int.ediv_nonneg h (Int.natCast_nonneg _), Int.ediv_le_self _ h⟩
theorem iI_and1 {a : Int} (h : 0 ≤ a) : iI a &&& iI 1 = iI (a % 2) := by
  rw [iI_and h (by omega)]
  apply congrArg iI
  rw [show ((1 : Int).toNat) = 1 from rfl, Nat.and_one_is_mod]
  omega
theorem iI_bit {s i : Int} (h : 0 ≤ s) : iI (s / 2 ^ i.toNat) &&& iI 1 = iI (bit s i) := iI_and1 (pw_d h).1
theorem iI_orp {a k : Int} (ha : 0 ≤ a ∧ a < 2 ^ k.toNat) : iI a ||| iI (1 * 2 ^ k.toNat) = iI (a + 2 ^ k.toNat) := by
  obtain ⟨n, rfl⟩ := Int.eq_ofNat_of_zero_le ha.1
  have e1 : ((2 ^ k.toNat : Nat) : Int) = (2 : Int) ^ k.toNat := by simp
  rw [← e1] at ha ⊢
  rw [Int.one_mul, iI_or (by omega) (by omega)]
  apply congrArg iI
  rw [show ((n : Int).toNat) = n by omega, show (((2 ^ k.toNat : Nat) : Int).toNat) = 2 ^ k.toNat by omega]
  have h3 := Nat.two_pow_add_eq_or_of_lt (i := k.toNat) (b := n) (by omega) 1
  rw [Nat.mul_one, Nat.or_comm] at h3
  rw [← h3]
  omega
theorem iI_nots : ∀ s, s < 256 → ∀ k, k < 8 → nI s &&& (nI (2 ^ k) ^^^ (-1)) = nI (if s / 2 ^ k % 2 = 1 then s - 2 ^ k else s) := by decide +kernel
theorem iI_xm {a : Int} : iI a ^^^ iI (-1) = iI ((iI a ^^^ iI (-1)).toInt) := (Int32.ofInt_toInt _).symm
theorem iI_ti (x : Int32) : x = iI x.toInt := (Int32.ofInt_toInt _).symm
/-- a place taken out of a set -/
def bdel (s k : Int) : Int := if bit s k = 1 then s - 2 ^ k.toNat else s
theorem iI_del {s k : Int} (hs : 0 ≤ s ∧ s < 256) (hk : 0 ≤ k ∧ k < 8) : iI s &&& iI ((iI (1 * 2 ^ k.toNat) ^^^ iI (-1)).toInt) = iI (bdel s k) := by
  obtain ⟨n, rfl⟩ := Int.eq_ofNat_of_zero_le hs.1
  obtain ⟨j, rfl⟩ := Int.eq_ofNat_of_zero_le hk.1
  have h := iI_nots n (by omega) j (by omega)
  rw [← iI_ti, Int.one_mul, Int.toNat_natCast]
  have e1 : ((2 ^ j : Nat) : Int) = (2 : Int) ^ j := by simp
  have e2 : ((n / 2 ^ j % 2 : Nat) : Int) = (n : Int) / ((2 ^ j : Nat) : Int) % 2 := by simp
  rw [← e1, iI_N, iI_N, show iI (-1) = (-1 : Int32) from rfl, h, ← iI_N]
  apply congrArg iI
  unfold bdel bit
  rw [Int.toNat_natCast, ← e1]
  by_cases q : n / 2 ^ j % 2 = 1
  · rw [if_pos q, if_pos (by rw [← e2, q]; rfl)]
    have h1 : 2 ^ j ≤ n := by
      rcases Nat.lt_or_ge n (2 ^ j) with z | z
      · rw [Nat.div_eq_of_lt z] at q; omega
      · exact z
    omega
  · rw [if_neg q, if_neg (by rw [← e2]; omega)]
theorem bitc_b (s : Int) : 0 ≤ bitc s ∧ bitc s ≤ 10 := sm_b (n := 10) (c := 1) (by omega) (fun i _ _ => by rcases bit_b s i with h | h <;> omega)
