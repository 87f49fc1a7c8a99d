/-! houses: the class's order of factors -/
def hab (A : Int → Int) (h k : Int) : Int := A (332 + 10 * h + A (372 + k))
def hbP (A : Int → Int) (h k : Int) : Int := itr (fun k x => x * hab A h k) 1 k
def fcT (A : Int → Int) (h g : Int) : Int := itr (fun g x => x * fac A h g) 1 g
def fcP (A : Int → Int) (h n g : Int) : Int := itr (fun g x => x * tn (fac A h g) n) 1 g
theorem hbP_s {A : Int → Int} {h k : Int} (hk : 0 ≤ k) : hbP A h (k + 1) = hbP A h k * hab A h k := itr_s hk
theorem fcT_s {A : Int → Int} {h g : Int} (hg : 0 ≤ g) : fcT A h (g + 1) = fcT A h g * fac A h g := itr_s hg
theorem fcP_s {A : Int → Int} {h n g : Int} (hg : 0 ≤ g) : fcP A h n (g + 1) = fcP A h n g * tn (fac A h g) n := itr_s hg
theorem lkI_m {A : Int → Int} {h k x : Int} : ∀ {g : Int}, 0 ≤ g → lkI A h k g x = x * hab A h k * fcT A h g := by
  intro g hg
  obtain ⟨n, rfl⟩ := Int.eq_ofNat_of_zero_le hg
  clear hg
  induction n with
  | zero => show x * hab A h k = x * hab A h k * 1; rw [Int.mul_one]
  | succ n ih => rw [show ((n + 1 : Nat) : Int) = (n : Int) + 1 by omega, lkI_s (by omega), fcT_s (by omega), ih, Int.mul_assoc]
theorem lkT_m {A : Int → Int} {h : Int} (h3 : 0 ≤ A 3) : ∀ {k : Int}, 0 ≤ k → lkT A h k = hbP A h k * tn (fcT A h (A 3)) k := by
  intro k hk
  obtain ⟨n, rfl⟩ := Int.eq_ofNat_of_zero_le hk
  clear hk
  induction n with
  | zero => show (1 : Int) = 1 * 1; rfl
  | succ n ih =>
    rw [show ((n + 1 : Nat) : Int) = (n : Int) + 1 by omega, lkT_s (by omega), hbP_s (by omega), tn_s (by omega), lkI_m h3, ih]
    rw [Int.mul_assoc, Int.mul_assoc, Int.mul_assoc, Int.mul_left_comm (tn (fcT A h (A 3)) n)]
theorem fcP_m {A : Int → Int} {h n : Int} (hn : 0 ≤ n) : ∀ {g : Int}, 0 ≤ g → fcP A h n g = tn (fcT A h g) n := by
  intro g hg
  obtain ⟨m, rfl⟩ := Int.eq_ofNat_of_zero_le hg
  clear hg
  induction m with
  | zero =>
    show (1 : Int) = tn 1 n
    obtain ⟨j, rfl⟩ := Int.eq_ofNat_of_zero_le hn
    clear hn
    induction j with
    | zero => rfl
    | succ j ih => rw [show ((j + 1 : Nat) : Int) = (j : Int) + 1 by omega, tn_s (by omega), ← ih]; rfl
  | succ m ih => rw [show ((m + 1 : Nat) : Int) = (m : Int) + 1 by omega, fcP_s (by omega), fcT_s (by omega), ih, tn_mul hn]
theorem lkT_c {A : Int → Int} {h : Int} (h3 : 0 ≤ A 3) (h4 : 0 ≤ A 4) : hbP A h (A 4) * fcP A h (A 4) (A 3) = lkT A h (A 4) := by rw [lkT_m h3 h4, fcP_m h4 h3]
theorem hab_b {A : Int → Int} (hA : okA A) {h k : Int} (hh : 0 ≤ h ∧ h < 4) (hk : 0 ≤ k ∧ k < 8) : 0 ≤ hab A h k ∧ hab A h k ≤ 9 := by
  have s := okA_se hA hk
  have a := okA_ha hA (j := 10 * h + A (372 + k)) (by omega)
  rw [show 332 + (10 * h + A (372 + k)) = 332 + 10 * h + A (372 + k) by omega] at a
  exact a
theorem up_n {C : Int} {k n : Nat} (hC : 1 ≤ C) (h : k ≤ n) : C ^ k ≤ C ^ n := by
  obtain ⟨d, rfl⟩ := Nat.le.dest h
  have p1 : 0 < C ^ d := Int.pow_pos (by omega)
  have p2 : 0 < C ^ k := Int.pow_pos (by omega)
  have m := Int.mul_le_mul_of_nonneg_left (show 1 ≤ C ^ d by omega) (Int.le_of_lt p2)
  rw [Int.mul_one, ← Int.pow_add] at m
  exact m
theorem hbP_b {A : Int → Int} (hA : okA A) {h k : Int} (hh : 0 ≤ h ∧ h < 4) (hk : 0 ≤ k ∧ k ≤ 8) : 0 ≤ hbP A h k ∧ hbP A h k ≤ 9 ^ 8 := by
  have e : 0 ≤ hbP A h k ∧ hbP A h k ≤ 9 ^ k.toNat := by
    refine itr_i (P := fun i x => 0 ≤ x ∧ x ≤ 9 ^ i.toNat) ⟨by decide, by decide⟩ (n := 8) (fun i x h0 h1 hx => ?_) hk.1 hk.2
    have m := mulb hx (hab_b hA (h := h) (k := i) hh ⟨h0, h1⟩)
    rw [show (i + 1).toNat = i.toNat + 1 by omega, Int.pow_succ]; exact m
  have u := up_n (C := 9) (k := k.toNat) (n := 8) (by decide) (by omega)
  omega
theorem tn_90 {T i : Int} (hT : 1 ≤ T ∧ T ≤ 90) (hi : 0 ≤ i ∧ i ≤ 8) : 1 ≤ tn T i ∧ tn T i ≤ 90 ^ 8 := by
  have e : 0 ≤ tn T i ∧ tn T i ≤ 90 ^ i.toNat := by
    refine itr_i (P := fun i x => 0 ≤ x ∧ x ≤ 90 ^ i.toNat) ⟨by decide, by decide⟩ (n := 8) (fun i x h0 h1 hx => ?_) hi.1 hi.2
    have m := mulb hx (show 0 ≤ T ∧ T ≤ 90 by omega)
    rw [show (i + 1).toNat = i.toNat + 1 by omega, Int.pow_succ]; exact m
  have u := up_n (C := 90) (k := i.toNat) (n := 8) (by decide) (by omega)
  have l := tn_1 hT.1 hi.1
  omega
theorem fcP_b {A : Int → Int} (hA : okA A) {h n g : Int} (hn : 0 ≤ n ∧ n ≤ 8) (hg : 0 ≤ g ∧ g ≤ 4) : 1 ≤ fcP A h n g ∧ fcP A h n g ≤ (90 ^ 8) ^ g.toNat := by
  refine itr_i (P := fun i x => 1 ≤ x ∧ x ≤ (90 ^ 8) ^ i.toNat) ⟨by decide, by decide⟩ (n := 4) (fun i x h0 h1 hx => ?_) hg.1 hg.2
  have t := tn_90 (i := n) (fac_b hA (h := h) (g := i) ⟨h0, h1⟩) hn
  have m := mulb (a := x) (b := tn (fac A h i) n) (A := (90 ^ 8) ^ i.toNat) (B := 90 ^ 8) (by omega) (by omega)
  have m2 := Int.mul_le_mul_of_nonneg_left t.1 (show 0 ≤ x by omega)
  rw [Int.mul_one] at m2
  rw [show (i + 1).toNat = i.toNat + 1 by omega, Int.pow_succ]
  (try dsimp only)
  exact ⟨by omega, m.2⟩
theorem wg_B8 {A : Int → Int} (hA : okA A) {h g n kk f : Int} (hh : 0 ≤ h ∧ h < 4) (hn : 0 ≤ n ∧ n ≤ 8) (hg : 0 ≤ g ∧ g < 4) (hk : 0 ≤ kk ∧ kk ≤ 8) (hf : 1 ≤ f ∧ f ≤ 90) : hbP A h n * fcP A h n g * tn f kk < B8 := by
  have a := hbP_b hA hh hn
  have b := fcP_b hA (h := h) hn (g := g) (by omega)
  have c := tn_90 hf hk
  have u := up_n (C := 90 ^ 8) (k := g.toNat) (n := 3) (by decide) (by omega)
  have m := mulb a (b := fcP A h n g) (B := (90 ^ 8) ^ 3) (by omega)
  have m2 := mulb m (b := tn f kk) (B := 90 ^ 8) (by omega)
  have z : (9 : Int) ^ 8 * (90 ^ 8) ^ 3 * 90 ^ 8 < B8 := by unfold B8; decide
  omega
theorem lkT_p {A : Int → Int} (hA : okA A) {p : Nat} (hp : prm p) {h : Int} (hh : 0 ≤ h ∧ h < 4) : ∀ {k : Int}, 0 ≤ k → k ≤ 8 → lkT A h k ≠ 0 → (p : Int) ∣ lkT A h k → p ≤ 90 := by
  have h3 := okA_3 hA
  intro k hk
  obtain ⟨n, rfl⟩ := Int.eq_ofNat_of_zero_le hk
  clear hk
  induction n with
  | zero =>
    intro _ _ hd
    have l := Int.le_of_dvd (by decide) (show (p : Int) ∣ 1 from hd)
    omega
  | succ n ih =>
    intro h1 h0 hd
    rw [show ((n + 1 : Nat) : Int) = (n : Int) + 1 by omega, lkT_s (by omega), lkI_m h3.1] at h0 hd
    have hb := hab_b hA (h := h) (k := (n : Int)) hh ⟨by omega, by omega⟩
    have n1 : lkT A h (n : Int) ≠ 0 := fun e => h0 (by rw [e, Int.zero_mul, Int.zero_mul])
    have n2 : hab A h (n : Int) ≠ 0 := fun e => h0 (by rw [e, Int.mul_zero, Int.zero_mul])
    rcases prm_mulI hp hd with q | q
    · rcases prm_mulI hp q with r | r
      · exact ih (by omega) n1 r
      · have l := Int.le_of_dvd (by omega) r
        omega
    · have f : ∀ m : Nat, (m : Int) ≤ A 3 → (p : Int) ∣ fcT A h (m : Int) → p ≤ 90 := by
        intro m
        induction m with
        | zero =>
          intro _ hz
          have l := Int.le_of_dvd (by decide) (show (p : Int) ∣ 1 from hz)
          omega
        | succ m im =>
          intro hm hz
          rw [show ((m + 1 : Nat) : Int) = (m : Int) + 1 by omega, fcT_s (by omega)] at hz
          rcases prm_mulI hp hz with t | t
          · exact im (by omega) t
          · have b := fac_b hA (h := h) (g := (m : Int)) ⟨by omega, by omega⟩
            have l := Int.le_of_dvd (by omega) t
            omega
      exact f (A 3).toNat (by omega) (by rw [Int.toNat_of_nonneg h3.1]; exact q)
/-- factors 2 .. 90 tried -/
def trh (P u w f : Int) : Prop := P = 0 ∨ (0 < u ∧ ∀ d : Int, 2 ≤ d → d < f → ¬ bth d u w)
theorem trh_0 {P u w : Int} (h : P = 0 ∨ 0 < u) : trh P u w 2 := h.elim Or.inl (fun q => Or.inr ⟨q, fun d h0 h1 => by omega⟩)
theorem trh_s {P u w u2 w2 f : Int} (h : trh P u w f) (hc : com u w u2 w2) (hn : u = 0 ∨ (0 < u2 ∧ ¬ bth f u2 w2)) : trh P u2 w2 (f + 1) := by
  rcases h with h | h
  · exact Or.inl h
  · rcases hn with hn | hn
    · have := h.1; omega
    · refine Or.inr ⟨hn.1, fun d h0 h1 => ?_⟩
      by_cases e : d = f
      · rw [e]; exact hn.2
      · exact com_k hc (h.2 d h0 (by omega))
theorem trh_e {A : Int → Int} (hA : okA A) {h Q u w : Int} (hh : 0 ≤ h ∧ h < A 3) (hQ : 0 < Q) (ht : trh (lkT A h (A 4)) u w 91) (hc : com (lkT A h (A 4)) Q u w) (hw : 0 < w) : u = redP (lkT A h (A 4)) Q ∧ (if u = 0 then 1 else w) = redQ (lkT A h (A 4)) Q := by
  have h3 := okA_3 hA
  have h4 := okA_4 hA
  refine low_f (lkT_b hA (by omega) h4).1 hQ hc hw ?_
  rcases ht with ht | ht
  · exact Or.inl ht
  · refine Or.inr ⟨ht.1, fun p hp hu _ => ?_⟩
    by_cases z : lkT A h (A 4) = 0
    · have := com_0P hc z; have := ht.1; omega
    · have l := lkT_p hA hp (h := h) (by omega) h4.1 h4.2 z (Int.dvd_trans hu (com_dQ hc).2)
      exact ht.2 p (by have := hp.1; omega) (by omega)
