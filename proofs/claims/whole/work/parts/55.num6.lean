/-! factors that were tried -/
theorem prm_mulI {p : Nat} {a b : Int} (hp : prm p) (h : (p : Int) ∣ a * b) : (p : Int) ∣ a ∨ (p : Int) ∣ b := by
  rw [Int.ofNat_dvd_left, Int.natAbs_mul] at h
  rcases prm_mul hp h with q | q
  · exact Or.inl (Int.ofNat_dvd_left.mpr q)
  · exact Or.inr (Int.ofNat_dvd_left.mpr q)
theorem dvd_m {a b : Int} (h : b % a = 0) : a ∣ b := Int.dvd_of_emod_eq_zero h
def wof (N f z : Int) : Prop := (1 ≤ z ∧ z ≤ N) ∧ z ∣ N ∧ ∀ p : Nat, prm p → (p : Int) ∣ N → (p : Int) ∣ z ∨ (p : Int) ∣ f
theorem wof_0 {N f : Int} (hN : 1 ≤ N) : wof N f N := ⟨⟨hN, Int.le_refl _⟩, Int.dvd_refl N, fun _ _ h => Or.inl h⟩
theorem wof_s {N f z : Int} (hf : 2 ≤ f) (h : wof N f z) (hz : z % f = 0) : wof N f (z / f) := by
  have e := Int.emod_add_mul_ediv z f
  rw [hz, Int.zero_add] at e
  have p := dv_pos (show 0 < z by have := h.1.1; omega) hf hz
  have d : z / f ∣ z := ⟨f, by rw [Int.mul_comm]; exact e.symm⟩
  refine ⟨⟨by omega, Int.le_trans (Int.ediv_le_self _ (by have := h.1.1; omega)) h.1.2⟩, Int.dvd_trans d h.2.1, fun q hq hd => ?_⟩
  rcases h.2.2 q hq hd with r | r
  · rw [← e] at r
    rcases prm_mulI hq r with t | t
    · exact Or.inr t
    · exact Or.inl t
  · exact Or.inr r
theorem hlf_32 {N z : Int} (hN : N ≤ 32768) (hz : 1 ≤ z) (h : hlf N z 32) : False := by
  unfold hlf at h
  have c : (2 : Int) ^ (32 : Int).toNat = 4294967296 := by decide
  rw [c] at h
  omega
def trd (N R P u w : Int) : Prop := P = 0 ∨ ∀ p : Nat, prm p → (p : Int) ∣ N → (p : Int) ∣ R ∨ ¬ bth (p : Int) u w
def nod (R f : Int) : Prop := ∀ d : Nat, 2 ≤ d → (d : Int) < f → ¬ (d : Int) ∣ R
theorem trd_0 {N P u w : Int} : trd N N P u w := Or.inr (fun _ _ h => Or.inl h)
theorem nod_0 {R : Int} : nod R 2 := fun d h0 h1 => by omega
theorem nod_n {R f : Int} (h : nod R f) (hR : ¬ R % f = 0) : nod R (f + 1) := fun d h0 h1 c => by
  by_cases e : (d : Int) = f
  · rw [e] at c; exact hR (Int.emod_eq_zero_of_dvd c)
  · exact h d h0 (by omega) c
theorem nod_y {R f z : Int} (h : nod R f) (hz : z ∣ R) (hn : ¬ z % f = 0) : nod z (f + 1) := fun d h0 h1 c => by
  by_cases e : (d : Int) = f
  · rw [e] at c; exact hn (Int.emod_eq_zero_of_dvd c)
  · exact h d h0 (by omega) (Int.dvd_trans c hz)
theorem nod_p {R f : Int} {p : Nat} (h : nod R f) (hp : prm p) (hd : (p : Int) ∣ R) : f ≤ (p : Int) := by
  rcases Int.lt_or_le (p : Int) f with q | q
  · exact absurd hd (h p hp.1 q)
  · exact q
theorem trd_y {N R P u w u2 w2 f z : Int} (hf : 2 ≤ f) (ht : trd N R P u w) (hn : nod R f) (hR : R % f = 0) (hz : wof R f z) (hc : com u w u2 w2) (hu : P = 0 ∨ 0 < u) (hb : u = 0 ∨ (0 < u2 ∧ ¬ bth f u2 w2)) : trd N z P u2 w2 := by
  rcases ht with ht | ht
  · exact Or.inl ht
  rcases hu with hu | hu
  · exact Or.inl hu
  refine Or.inr (fun p hp hd => ?_)
  have hb2 : ¬ bth f u2 w2 := by rcases hb with b | b; omega; exact b.2
  rcases ht p hp hd with q | q
  · rcases hz.2.2 p hp q with r | r
    · exact Or.inl r
    · right
      have l := nod_p hn hp (Int.dvd_trans r (dvd_m hR))
      have l2 := Int.le_of_dvd (by omega) r
      rw [show (p : Int) = f by omega]; exact hb2
  · exact Or.inr (com_k hc q)
theorem sq_p {R f : Int} {p : Nat} (hR : 1 ≤ R) (hf : 2 ≤ f) (hn : nod R f) (hl : R / f < f) (hp : prm p) (hd : (p : Int) ∣ R) : (p : Int) = R := by
  obtain ⟨q, hq⟩ := hd
  have l := nod_p hn hp ⟨q, hq⟩
  have q0 : 0 < q := by
    rcases Int.lt_or_le 0 q with r | r
    · exact r
    · have : (p : Int) * q ≤ 0 := Int.mul_nonpos_of_nonneg_of_nonpos (by omega) r
      omega
  rcases Int.lt_or_le 1 q with r | r
  · exfalso
    obtain ⟨t, ht, htd⟩ := prm_ex q.toNat q.toNat (Nat.le_refl _) (by omega)
    have td : (t : Int) ∣ q := by
      have := Int.natCast_dvd_natCast.mpr htd
      rw [Int.toNat_of_nonneg (by omega)] at this; exact this
    have l2 := nod_p hn ht (Int.dvd_trans td ⟨(p : Int), by rw [Int.mul_comm]; exact hq⟩)
    have l3 := Int.le_of_dvd q0 td
    have m := mulb (a := f) (b := f) (A := (p : Int)) (B := q) (by omega) (by omega)
    have e := Int.emod_add_mul_ediv R f
    have e2 := Int.emod_lt_of_pos R (show 0 < f by omega)
    have m2 := Int.mul_le_mul_of_nonneg_left (show R / f ≤ f - 1 by omega) (show 0 ≤ f by omega)
    rw [Int.mul_sub, Int.mul_one] at m2
    omega
  · rw [show q = 1 by omega, Int.mul_one] at hq; exact hq.symm
theorem low_f {P Q u w : Int} (hP : 0 ≤ P) (hQ : 0 < Q) (hc : com P Q u w) (hw : 0 < w) (hu : P = 0 ∨ (0 < u ∧ ∀ p : Nat, prm p → (p : Int) ∣ u → (p : Int) ∣ w → ¬ bth (p : Int) u w)) : u = redP P Q ∧ (if u = 0 then 1 else w) = redQ P Q := by
  rcases hu with hu | hu
  · obtain ⟨s, s0, s1, _⟩ := hc
    have u0 : u = 0 := by
      rcases Int.mul_eq_zero.mp (s1.symm.trans hu) with q | q
      · omega
      · exact q
    subst hu
    rw [u0, if_pos rfl]
    refine ⟨((redP_0 hP hQ).mpr rfl).symm, ?_⟩
    unfold redQ; rw [gc_0 (by omega), Int.ediv_self (by omega)]
  · have e := low_e hc hu.1 hw hu.2
    rw [if_neg (by omega)]
    exact e
theorem com_0P {P Q u w : Int} (hc : com P Q u w) (h : P = 0) : u = 0 := by
  obtain ⟨s, s0, s1, _⟩ := hc
  rcases Int.mul_eq_zero.mp (s1.symm.trans h) with q | q
  · omega
  · exact q
theorem com_dQ {P Q u w : Int} (hc : com P Q u w) : w ∣ Q ∧ u ∣ P := by
  obtain ⟨s, s0, s1, s2⟩ := hc
  exact ⟨⟨s, by rw [Int.mul_comm]; exact s2⟩, ⟨s, by rw [Int.mul_comm]; exact s1⟩⟩
theorem trd_e {N R P Q u w u2 w2 f : Int} (hR : 1 < R) (hf : 2 ≤ f) (hN : ∀ p : Nat, prm p → (p : Int) ∣ Q → (p : Int) ∣ N) (ht : trd N R P u w) (hn : nod R f) (hl : R / f < f) (hc0 : com P Q u w) (hc : com u w u2 w2) (hu : P = 0 ∨ 0 < u) (hb : u = 0 ∨ (0 < u2 ∧ ¬ bth R u2 w2)) : P = 0 ∨ (0 < u2 ∧ ∀ p : Nat, prm p → (p : Int) ∣ u2 → (p : Int) ∣ w2 → ¬ bth (p : Int) u2 w2) := by
  rcases ht with ht | ht
  · exact Or.inl ht
  rcases hu with hu | hu
  · exact Or.inl hu
  rcases hb with hb | hb
  · omega
  refine Or.inr ⟨hb.1, fun p hp _ hw => ?_⟩
  rcases ht p hp (hN p hp (Int.dvd_trans hw (com_dQ (com_t hc0 hc)).1)) with q | q
  · rw [sq_p (by omega) hf hn hl hp q]; exact hb.2
  · exact com_k hc q
theorem trd_1 {N R P Q u w : Int} (hR : 1 ≤ R) (hR1 : R ≤ 1) (hN : ∀ p : Nat, prm p → (p : Int) ∣ Q → (p : Int) ∣ N) (ht : trd N R P u w) (hc0 : com P Q u w) (hu : P = 0 ∨ 0 < u) : P = 0 ∨ (0 < u ∧ ∀ p : Nat, prm p → (p : Int) ∣ u → (p : Int) ∣ w → ¬ bth (p : Int) u w) := by
  rcases ht with ht | ht
  · exact Or.inl ht
  rcases hu with hu | hu
  · exact Or.inl hu
  refine Or.inr ⟨hu, fun p hp _ hw => ?_⟩
  rcases ht p hp (hN p hp (Int.dvd_trans hw (com_dQ hc0).1)) with q | q
  · have l := Int.le_of_dvd (by omega) q
    have := hp.1; omega
  · exact q
