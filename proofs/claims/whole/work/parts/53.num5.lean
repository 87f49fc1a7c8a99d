/-! lowest terms by factors; Euclid's steps -/
theorem gc_mod {a b : Int} (ha : 0 ≤ a) (hb : 0 < b) : gc b (a % b) = gc a b := by
  obtain ⟨x, rfl⟩ := Int.eq_ofNat_of_zero_le ha
  obtain ⟨y, rfl⟩ := Int.eq_ofNat_of_zero_le (Int.le_of_lt hb)
  rw [← Int.natCast_emod, gc_N, gc_N, Nat.gcd_comm x y, Nat.gcd_rec y x, Nat.gcd_comm]
theorem gc_z {a : Int} (h : 0 ≤ a) : gc a 0 = a := by rw [gc_comm]; exact gc_0 h
/-- no number but 1 and itself goes into it -/
def prm (p : Nat) : Prop := 2 ≤ p ∧ ∀ d, d ∣ p → d = 1 ∨ d = p
theorem prm_ex : ∀ n g : Nat, g ≤ n → 2 ≤ g → ∃ p, prm p ∧ p ∣ g := by
  intro n
  induction n with
  | zero => intro g h0 h1; omega
  | succ n ih =>
    intro g h0 h1
    by_cases c : ∀ d, d ∣ g → d = 1 ∨ d = g
    · exact ⟨g, ⟨h1, c⟩, Nat.dvd_refl g⟩
    · obtain ⟨d, hd⟩ := Classical.not_forall.mp c
      obtain ⟨h2, h3⟩ := Classical.not_imp.mp hd
      have l := Nat.le_of_dvd (by omega) h2
      have z : d ≠ 0 := fun e => by rw [e] at h2; have := Nat.eq_zero_of_zero_dvd h2; omega
      have n1 : d ≠ 1 := fun e => h3 (Or.inl e)
      have n2 : d ≠ g := fun e => h3 (Or.inr e)
      obtain ⟨p, hp, hq⟩ := ih d (by omega) (by omega)
      exact ⟨p, hp, Nat.dvd_trans hq h2⟩
theorem prm_mul {p a b : Nat} (hp : prm p) (h : p ∣ a * b) : p ∣ a ∨ p ∣ b := by
  by_cases c : p ∣ a
  · exact Or.inl c
  · right
    refine Nat.Coprime.dvd_of_dvd_mul_left (m := a) ?_ h
    rcases hp.2 (Nat.gcd p a) (Nat.gcd_dvd_left p a) with e | e
    · exact e
    · exact absurd (e ▸ Nat.gcd_dvd_right p a) c
/-- both have it -/
def bth (f P Q : Int) : Prop := P % f = 0 ∧ Q % f = 0
theorem com_d {P Q f : Int} (hf : 2 ≤ f) (h : bth f P Q) : com P Q (P / f) (Q / f) := by
  refine ⟨f, by omega, ?_, ?_⟩
  · have := Int.emod_add_mul_ediv P f; rw [h.1] at this; omega
  · have := Int.emod_add_mul_ediv Q f; rw [h.2] at this; omega
theorem com_t {P Q P1 Q1 P2 Q2 : Int} (h1 : com P Q P1 Q1) (h2 : com P1 Q1 P2 Q2) : com P Q P2 Q2 := by
  obtain ⟨s, s0, s1, s2⟩ := h1
  obtain ⟨t, t0, t1, t2⟩ := h2
  refine ⟨s * t, Int.mul_pos s0 t0, ?_, ?_⟩
  · rw [Int.mul_assoc, ← t1]; exact s1
  · rw [Int.mul_assoc, ← t2]; exact s2
theorem com_k {P Q U W f : Int} (h : com P Q U W) (hn : ¬ bth f P Q) : ¬ bth f U W := by
  obtain ⟨s, _, s1, s2⟩ := h
  intro c
  refine hn ⟨?_, ?_⟩
  · rw [s1, Int.mul_emod, c.1, Int.mul_zero, Int.zero_emod]
  · rw [s2, Int.mul_emod, c.2, Int.mul_zero, Int.zero_emod]
/-- once no such number is left that both have, they are least -/
theorem low_e {P Q U W : Int} (h : com P Q U W) (hU : 0 < U) (hW : 0 < W) (hn : ∀ p : Nat, prm p → ((p : Int) ∣ U) → ((p : Int) ∣ W) → ¬ bth (p : Int) U W) : U = redP P Q ∧ W = redQ P Q := by
  have e := com_l h hU hW
  have g1 : gc U W = 1 := by
    have p := gc_pos (b := W) hU
    rcases Int.lt_or_le 1 (gc U W) with q | q
    · exfalso
      obtain ⟨p, hp, hd⟩ := prm_ex (Nat.gcd U.toNat W.toNat) (Nat.gcd U.toNat W.toNat) (Nat.le_refl _) (by unfold gc at q; omega)
      have d1 : (p : Int) ∣ U := by
        have := Int.natCast_dvd_natCast.mpr (Nat.dvd_trans hd (Nat.gcd_dvd_left U.toNat W.toNat))
        rw [Int.toNat_of_nonneg (by omega)] at this; exact this
      have d2 : (p : Int) ∣ W := by
        have := Int.natCast_dvd_natCast.mpr (Nat.dvd_trans hd (Nat.gcd_dvd_right U.toNat W.toNat))
        rw [Int.toNat_of_nonneg (by omega)] at this; exact this
      exact hn p hp d1 d2 ⟨Int.emod_eq_zero_of_dvd d1, Int.emod_eq_zero_of_dvd d2⟩
    · omega
  rw [g1, Int.ediv_one, Int.ediv_one] at e
  exact e
theorem red_c {P Q U W s : Int} (hs : 0 < s) (hU : 0 ≤ U) (hW : 0 < W) (h1 : P = s * U) (h2 : Q = s * W) : redP P Q = redP U W ∧ redQ P Q = redQ U W := by
  unfold redP redQ
  rw [h1, h2, gc_mul (by omega) hU (by omega)]
  exact ⟨Int.mul_ediv_mul_of_pos _ _ hs, Int.mul_ediv_mul_of_pos _ _ hs⟩
/-- Euclid's steps are few: what the two make together is halved by each -/
def euc (a b i : Int) : Prop := (i = 0 ∧ a ≤ 32768 ∧ b ≤ 32768) ∨ (1 ≤ i ∧ b < a ∧ a * b * 2 ^ i.toNat ≤ 2147483648)
theorem euc_s {a b i : Int} (ha : 0 ≤ a) (hb : 0 < b) (hi : 0 ≤ i) (h : euc a b i) : euc b (a % b) (i + 1) := by
  have m1 := Int.emod_nonneg a (show b ≠ 0 by omega)
  have m2 := Int.emod_lt_of_pos a hb
  refine Or.inr ⟨by omega, m2, ?_⟩
  rcases h with ⟨h0, h1, h2⟩ | ⟨h0, h1, h2⟩
  · subst h0
    rw [show ((0 : Int) + 1).toNat = 1 from rfl, Int.pow_one]
    have m := mulb (a := b) (b := a % b) (A := 32768) (B := 32768) (by omega) (by omega)
    omega
  · have d : 2 * (a % b) ≤ a := by
      have e := Int.emod_add_mul_ediv a b
      have q : 1 ≤ a / b := by
        rcases Int.lt_or_le 0 (a / b) with q | q
        · exact q
        · have : b * (a / b) ≤ 0 := Int.mul_nonpos_of_nonneg_of_nonpos (by omega) q
          omega
      have m := Int.mul_le_mul_of_nonneg_left q (show 0 ≤ b by omega)
      rw [Int.mul_one] at m
      omega
    have m := Int.mul_le_mul_of_nonneg_right d (show 0 ≤ b by omega)
    have pp : 0 ≤ (2 : Int) ^ i.toNat := Int.le_of_lt (Int.pow_pos (by decide))
    have m3 := Int.mul_le_mul_of_nonneg_right m pp
    have e : b * (a % b) * 2 ^ (i + 1).toNat = 2 * (a % b) * b * 2 ^ i.toNat := by
      rw [show (i + 1).toNat = i.toNat + 1 by omega, Int.pow_succ, ← Int.mul_assoc, Int.mul_comm b, Int.mul_assoc 2, Int.mul_comm 2 (a % b * b), Int.mul_assoc (a % b * b), Int.mul_assoc (a % b * b), Int.mul_comm (2 ^ i.toNat) 2]
    omega
theorem euc_e {a b : Int} (hb : 0 < b) (h : euc a b 100) : False := by
  rcases h with ⟨h0, _⟩ | ⟨_, h1, h2⟩
  · omega
  · have m := mulb (a := 1) (b := 1) (A := a) (B := b) (by omega) (by omega)
    have pp : (2 : Int) ^ (100 : Int).toNat = 1267650600228229401496703205376 := by decide
    rw [pp] at h2
    have := m.2
    omega
theorem tn_1 {f k : Int} (hf : 1 ≤ f) (hk : 0 ≤ k) : 1 ≤ tn f k := by
  refine itr_i (P := fun _ x => 1 ≤ x) (by decide) (n := k) (fun j x h0 h1 hx => ?_) hk (Int.le_refl _)
  have m := Int.mul_le_mul_of_nonneg_left hf (show 0 ≤ x by omega)
  rw [Int.mul_one] at m; (try dsimp only); omega
/-- what is halved so often is small -/
def hlf (P U i : Int) : Prop := U * 2 ^ i.toNat ≤ P
theorem hlf_s {P U i f : Int} (hi : 0 ≤ i) (hU : 0 ≤ U) (hf : 2 ≤ f) (h : hlf P U i) : hlf P (U / f) (i + 1) := by
  unfold hlf at h ⊢
  have q : U / f * 2 ≤ U := by
    have e := Int.emod_add_mul_ediv U f
    have r := Int.emod_nonneg U (show f ≠ 0 by omega)
    have p : 0 ≤ U / f := Int.ediv_nonneg hU (by omega)
    have m := Int.mul_le_mul_of_nonneg_right hf p
    omega
  have pp : 0 ≤ (2 : Int) ^ i.toNat := Int.le_of_lt (Int.pow_pos (by decide))
  have m := Int.mul_le_mul_of_nonneg_right q pp
  rw [show (i + 1).toNat = i.toNat + 1 by omega, Int.pow_succ, Int.mul_comm (2 ^ i.toNat) 2, ← Int.mul_assoc]
  omega
theorem hlf_e {P U : Int} (hP : P < B8) (hU : 0 < U) (h : hlf P U 300) : False := by
  unfold hlf at h
  have m := Int.mul_le_mul_of_nonneg_right (show 1 ≤ U by omega) (show (0 : Int) ≤ 2 ^ (300 : Int).toNat from Int.le_of_lt (Int.pow_pos (by decide)))
  have c : B8 ≤ 1 * 2 ^ (300 : Int).toNat := by unfold B8; decide
  omega
