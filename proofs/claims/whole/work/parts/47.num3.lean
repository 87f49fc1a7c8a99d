/-! greatest common divisors, by halves and differences -/
def gc (a b : Int) : Int := ((Nat.gcd a.toNat b.toNat : Nat) : Int)
theorem gc_N {x y : Nat} : gc (x : Int) (y : Int) = ((Nat.gcd x y : Nat) : Int) := by unfold gc; rw [Int.toNat_natCast, Int.toNat_natCast]
theorem gc_comm {a b : Int} : gc a b = gc b a := by unfold gc; rw [Nat.gcd_comm]
theorem gc_self {a : Int} (h : 0 ≤ a) : gc a a = a := by unfold gc; rw [Nat.gcd_self]; omega
theorem gc_0 {a : Int} (h : 0 ≤ a) : gc 0 a = a := by unfold gc; rw [show (0 : Int).toNat = 0 from rfl, Nat.gcd_zero_left]; omega
theorem gc_pos {a b : Int} (h : 0 < a) : 0 < gc a b := by
  have q := Nat.gcd_pos_of_pos_left (b.toNat) (show 0 < a.toNat by omega)
  unfold gc; omega
theorem gc_dvd {a b : Int} (ha : 0 ≤ a) : gc a b * (a / gc a b) = a := by
  obtain ⟨x, rfl⟩ := Int.eq_ofNat_of_zero_le ha
  unfold gc
  rw [Int.toNat_natCast]
  have h := Nat.gcd_dvd_left x b.toNat
  exact Int.mul_ediv_cancel' (Int.natCast_dvd_natCast.mpr h)
theorem gc_odd {a b : Int} (ha : 0 ≤ a) (h : a % 2 = 1) : gc a b % 2 = 1 := by
  have q := gc_dvd (a := a) (b := b) ha
  have p : 0 ≤ gc a b := Int.natCast_nonneg _
  rcases Int.emod_two_eq (gc a b) with r | r
  · exfalso
    have e : gc a b * (a / gc a b) % 2 = 0 := by rw [Int.mul_emod, r, Int.zero_mul]; rfl
    rw [q] at e; omega
  · exact r
theorem gc_half {a b : Int} (ha : 0 ≤ a) (h : a % 2 = 0) (hg : gc a b % 2 = 1) : gc (a / 2) b = gc a b := by
  obtain ⟨x, rfl⟩ := Int.eq_ofNat_of_zero_le ha
  unfold gc at hg ⊢
  rw [Int.toNat_natCast] at hg ⊢
  rw [show ((x : Int) / 2).toNat = x / 2 by omega]
  have hx : x = 2 * (x / 2) := by omega
  have ho : Nat.gcd x b.toNat % 2 = 1 := by omega
  have hc : Nat.Coprime (Nat.gcd x b.toNat) 2 := by
    have d1 := Nat.gcd_dvd_left (Nat.gcd x b.toNat) 2
    have d2 := Nat.gcd_dvd_right (Nat.gcd x b.toNat) 2
    have l := Nat.le_of_dvd (by decide) d2
    unfold Nat.Coprime
    have : Nat.gcd (Nat.gcd x b.toNat) 2 = 0 ∨ Nat.gcd (Nat.gcd x b.toNat) 2 = 1 ∨ Nat.gcd (Nat.gcd x b.toNat) 2 = 2 := by omega
    rcases this with t | t | t
    · rw [t] at d2; omega
    · exact t
    · rw [t] at d1; omega
  have e : Nat.gcd (x / 2) b.toNat = Nat.gcd x b.toNat := by
    apply Nat.dvd_antisymm
    · apply Nat.dvd_gcd
      · have t := Nat.gcd_dvd_left (x / 2) b.toNat
        have u := Nat.dvd_mul_left_of_dvd t 2
        rw [← hx] at u; exact u
      · exact Nat.gcd_dvd_right _ _
    · apply Nat.dvd_gcd
      · refine Nat.Coprime.dvd_of_dvd_mul_left hc ?_
        rw [← hx]; exact Nat.gcd_dvd_left _ _
      · exact Nat.gcd_dvd_right _ _
  rw [e]
theorem gc_sub {a b : Int} (hb : 0 ≤ b) (h : b ≤ a) : gc (a - b) b = gc a b := by
  obtain ⟨y, rfl⟩ := Int.eq_ofNat_of_zero_le hb
  obtain ⟨z, hz⟩ := Int.eq_ofNat_of_zero_le (show 0 ≤ a - y by omega)
  rw [hz, show a = ((z + y : Nat) : Int) by omega, gc_N, gc_N, Nat.gcd_add_self_left]
theorem gc_mul {s a b : Int} (hs : 0 ≤ s) (ha : 0 ≤ a) (hb : 0 ≤ b) : gc (s * a) (s * b) = s * gc a b := by
  obtain ⟨n, rfl⟩ := Int.eq_ofNat_of_zero_le hs
  obtain ⟨x, rfl⟩ := Int.eq_ofNat_of_zero_le ha
  obtain ⟨y, rfl⟩ := Int.eq_ofNat_of_zero_le hb
  rw [← Int.natCast_mul, ← Int.natCast_mul, gc_N, gc_N, Nat.gcd_mul_left, Int.natCast_mul]
/-- both over the same -/
def com (P Q U W : Int) : Prop := ∃ s : Int, 0 < s ∧ P = s * U ∧ Q = s * W
theorem com_0 {P Q : Int} : com P Q P Q := ⟨1, by decide, (Int.one_mul P).symm, (Int.one_mul Q).symm⟩
theorem com_s {P Q U W : Int} (h : com P Q U W) (hu : U % 2 = 0) (hw : W % 2 = 0) : com P Q (U / 2) (W / 2) := by
  obtain ⟨s, h0, h1, h2⟩ := h
  refine ⟨s * 2, by omega, ?_, ?_⟩
  · rw [h1, Int.mul_assoc]; exact congrArg (s * ·) (by omega)
  · rw [h2, Int.mul_assoc]; exact congrArg (s * ·) (by omega)
theorem com_l {P Q U W : Int} (h : com P Q U W) (hu : 0 < U) (hw : 0 < W) : U / gc U W = P / gc P Q ∧ W / gc U W = Q / gc P Q := by
  obtain ⟨s, h0, h1, h2⟩ := h
  rw [h1, h2, gc_mul (by omega) (by omega) (by omega)]
  exact ⟨(Int.mul_ediv_mul_of_pos _ _ h0).symm, (Int.mul_ediv_mul_of_pos _ _ h0).symm⟩
/-- two odd numbers on the way to what they have in common -/
def gst (G a b : Int) : Prop := gc a b = G ∧ 0 < a ∧ 0 < b
theorem gst_c {G a b : Int} (h : gst G a b) : gst G b a := ⟨gc_comm.trans h.1, h.2.2, h.2.1⟩
theorem gst_h {G a b : Int} (hG : G % 2 = 1) (h : gst G a b) (ha : a % 2 = 0) : gst G (a / 2) b := ⟨(gc_half (by have := h.2.1; omega) ha (by rw [h.1]; exact hG)).trans h.1, by have := h.2.1; omega, h.2.2⟩
theorem gst_s {G a b : Int} (h : gst G a b) (hl : b < a) : gst G (a - b) b := ⟨(gc_sub (by have := h.2.2; omega) (by omega)).trans h.1, by omega, h.2.2⟩
theorem gst_e {G a b : Int} (h : gst G a b) (e : a = b) : a = G := by
  have q := h.1; rw [← e, gc_self (by have := h.2.1; omega)] at q; exact q
/-- a digit's least bit -/
theorem wr_inc {r v b : Int} {f : Int → Int} (hf : okB f) (hr : 0 ≤ r ∧ r ≤ 6) (he : nv f r % 2 = 0) (hb : 0 ≤ b ∧ b ≤ 1) (hvv : v = f (16 * r) + b) : wrote r (nv f r + b) f (gupd f (16 * r) v) := by
  have h2 := nv_2 (f := f) (r := r)
  have hd := hf (16 * r) (by omega) (by omega)
  refine ⟨fun j j0 j1 => ?_, ?_, fun j hj => gupd_n (by omega)⟩
  · unfold gupd; split
    · omega
    · exact hf j j0 j1
  · have e : hv (gupd f (16 * r) v) (16 * r + 1) 15 = hv f (16 * r + 1) 15 := hv_c (fun k h0 h1 => gupd_n (by omega))
    show gupd f (16 * r) v (16 * r) + 1073741824 * hv (gupd f (16 * r) v) (16 * r + 1) 15 = (f (16 * r) + 1073741824 * hv f (16 * r + 1) 15) + b
    rw [e, gupd_s]; omega
theorem wr_tr {r P R : Int} {f g h : Int → Int} (h1 : wrote r P f g) (h2 : wrote r R g h) : wrote r R f h := ⟨h2.1, h2.2.1, fun j hj => (h2.2.2 j hj).trans (h1.2.2 j hj)⟩
/-- bits of a number -/
theorem pw30 {n : Nat} : (1073741824 : Int) ^ n = 2 ^ (30 * n) := by rw [Int.pow_mul]; rfl
theorem nv_bit {f : Int → Int} {r i : Int} (hf : okB f) (hr : 0 ≤ r ∧ r ≤ 6) (hi : 0 ≤ i ∧ i < 480) : bit (f (16 * r + i / 30)) (i % 30) = nv f r / 2 ^ i.toNat % 2 := by
  rw [nv_dig hf hr (by omega)]
  obtain ⟨N, hN⟩ := Int.eq_ofNat_of_zero_le (nv_b hf hr).1
  obtain ⟨k, rfl⟩ := Int.eq_ofNat_of_zero_le hi.1
  unfold bit dig
  rw [hN, pw30, show ((k : Int) / 30).toNat = k / 30 by omega, show ((k : Int) % 30).toNat = k % 30 by omega, Int.toNat_natCast]
  have c1 : (N : Int) / 2 ^ (30 * (k / 30)) % 1073741824 / 2 ^ (k % 30) % 2 = ((N / 2 ^ (30 * (k / 30)) % 2 ^ 30 / 2 ^ (k % 30) % 2 : Nat) : Int) := by simp
  have c2 : (N : Int) / 2 ^ k % 2 = ((N / 2 ^ k % 2 : Nat) : Int) := by simp
  rw [c1, c2]
  have t : ∀ x m : Nat, x / 2 ^ m % 2 = if x.testBit m then 1 else 0 := fun x m => by
    rw [Nat.testBit_eq_decide_div_mod_eq]
    by_cases q : x / 2 ^ m % 2 = 1
    · rw [q]; simp
    · rw [show x / 2 ^ m % 2 = 0 by omega]; simp
  rw [t, t, Nat.testBit_mod_two_pow, Nat.testBit_div_two_pow]
  rw [show (decide (k % 30 < 30)) = true from decide_eq_true (by omega), Bool.true_and, show k % 30 + 30 * (k / 30) = k by omega]
/-- long division, bit by bit -/
def ldv (N A O b i : Int) : Prop := N / 2 ^ (i + 1).toNat = O * A + b ∧ 0 ≤ b ∧ b < A ∧ 0 ≤ O
theorem ldv_0 {N A : Int} (hN : 0 ≤ N ∧ N < BB) (hA : 0 < A) : ldv N A 0 0 479 := by
  refine ⟨?_, Int.le_refl _, hA, Int.le_refl _⟩
  rw [Int.zero_mul, Int.add_zero, show ((479 : Int) + 1).toNat = 480 from rfl, show (2 : Int) ^ 480 = BB from rfl]
  exact Int.ediv_eq_zero_of_lt hN.1 hN.2
theorem ldv_h {N i : Int} (hN : 0 ≤ N) (hi : 0 ≤ i) : N / 2 ^ i.toNat = 2 * (N / 2 ^ (i + 1).toNat) + N / 2 ^ i.toNat % 2 := by
  have e : N / 2 ^ (i + 1).toNat = N / 2 ^ i.toNat / 2 := by
    rw [pw_s hi, Int.mul_comm, Int.ediv_ediv_of_nonneg (Int.le_of_lt (Int.pow_pos (by decide)))]
  rw [e]; omega
theorem ldv_b {N A O b i : Int} (hN : 0 ≤ N ∧ N < BB) (hi : 0 ≤ i) (h : ldv N A O b i) : (2 * b < BB ∧ 2 * O < BB) ∧ 2 * O * A + (2 * b + N / 2 ^ i.toNat % 2) = N / 2 ^ i.toNat ∧ O * A ≤ N := by
  have e := ldv_h hN.1 hi
  rw [h.1] at e
  have q : N / 2 ^ i.toNat ≤ N := Int.ediv_le_self _ hN.1
  have p : 0 ≤ O * A := Int.mul_nonneg h.2.2.2 (by have := h.2.1; have := h.2.2.1; omega)
  have m := Int.mul_le_mul_of_nonneg_left (show 1 ≤ A by have := h.2.1; have := h.2.2.1; omega) h.2.2.2
  rw [Int.mul_one] at m
  have a : 2 * O * A = 2 * (O * A) := Int.mul_assoc 2 O A
  have h1 := h.2.1
  refine ⟨⟨by omega, by omega⟩, by omega, by omega⟩
theorem ldv_n {N A O b i : Int} (hN : 0 ≤ N ∧ N < BB) (hi : 0 ≤ i) (h : ldv N A O b i) (hl : 2 * b + N / 2 ^ i.toNat % 2 < A) : ldv N A (2 * O) (2 * b + N / 2 ^ i.toNat % 2) (i + -1) := by
  have q := ldv_b hN hi h
  have h1 := h.2.1
  have h2 := h.2.2.2
  exact ⟨by rw [show i + -1 + 1 = i by omega]; exact q.2.1.symm, by omega, hl, by omega⟩
theorem ldv_y {N A O b i : Int} (hN : 0 ≤ N ∧ N < BB) (hi : 0 ≤ i) (h : ldv N A O b i) (hl : A ≤ 2 * b + N / 2 ^ i.toNat % 2) : ldv N A (2 * O + 1) (2 * b + N / 2 ^ i.toNat % 2 - A) (i + -1) := by
  have q := ldv_b hN hi h
  have h1 := h.2.1
  have h2 := h.2.2.2
  have h3 := h.2.2.1
  have a : (2 * O + 1) * A = 2 * O * A + A := by rw [Int.add_mul, Int.one_mul]
  exact ⟨by rw [show i + -1 + 1 = i by omega, a]; omega, by omega, by omega, by omega⟩
theorem ldv_e {N A O b : Int} (h : ldv N A O b (-1)) : O = N / A := by
  have e := h.1
  rw [show (-1 + 1 : Int).toNat = 0 from rfl, Int.pow_zero, Int.ediv_one] at e
  rw [e, Int.add_comm, Int.mul_comm, Int.add_mul_ediv_left _ _ (by have := h.2.1; have := h.2.2.1; omega), Int.ediv_eq_zero_of_lt h.2.1 h.2.2.1, Int.zero_add]
