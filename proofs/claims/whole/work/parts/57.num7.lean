/-! MOST: what its terms are, and what they are over less -/
theorem tn_0 {T : Int} : tn T 0 = 1 := rfl
theorem tn_bb {T i : Int} (hT : 0 ≤ T ∧ T ≤ 8192) (hi : 0 ≤ i ∧ i ≤ 9) : 0 ≤ tn T i ∧ tn T i ≤ 8192 ^ 9 := by
  have e : tn T i = mt 1 T T i i := itr_c (fun j x h0 h1 => by rw [if_pos h1])
  have q := mt_b (c := 1) (C := 1) (j := i) (h := i) (L := T) (M := T) (by omega) hT hT hi
  rw [← e, Int.one_mul] at q
  exact q
theorem tn_mul {D Y : Int} : ∀ {i : Int}, 0 ≤ i → tn (D * Y) i = tn D i * tn Y i := by
  intro i hi
  obtain ⟨n, rfl⟩ := Int.eq_ofNat_of_zero_le hi
  clear hi
  induction n with
  | zero => rfl
  | succ n ih =>
    rw [show ((n + 1 : Nat) : Int) = (n : Int) + 1 by omega, tn_s (by omega), tn_s (by omega), tn_s (by omega), ih]
    rw [Int.mul_assoc, Int.mul_assoc, Int.mul_left_comm (tn Y n) D Y]
theorem mt_mul {c D L M j : Int} : ∀ {h : Int}, 0 ≤ h → mt c (D * L) (D * M) j h = tn D h * mt c L M j h := by
  intro h hh
  obtain ⟨n, rfl⟩ := Int.eq_ofNat_of_zero_le hh
  clear hh
  induction n with
  | zero => show c = 1 * c; rw [Int.one_mul]
  | succ n ih =>
    rw [show ((n + 1 : Nat) : Int) = (n : Int) + 1 by omega, mt_s (by omega), mt_s (by omega), tn_s (by omega), ih]
    split
    · rw [Int.mul_assoc, Int.mul_assoc, Int.mul_left_comm (mt c L M j n) D L]
    · rw [Int.mul_assoc, Int.mul_assoc, Int.mul_left_comm (mt c L M j n) D M]
theorem mP_mul {n k D L T : Int} (hn : 0 ≤ n) : ∀ {i : Int}, 0 ≤ i → mP n k (D * L) (D * T) i = tn D n * mP n k L T i := by
  intro i hi
  obtain ⟨m, rfl⟩ := Int.eq_ofNat_of_zero_le hi
  clear hi
  induction m with
  | zero => show (0 : Int) = tn D n * 0; rw [Int.mul_zero]
  | succ m ih =>
    rw [show ((m + 1 : Nat) : Int) = (m : Int) + 1 by omega, mP_s (by omega), mP_s (by omega), ih, ← Int.mul_sub, mt_mul hn]
    split
    · rw [Int.mul_add]
    · rfl
theorem mt_lo {c L M j : Int} : ∀ {h : Int}, 0 ≤ h → h ≤ j → mt c L M j h = c * tn L h := by
  intro h hh
  obtain ⟨n, rfl⟩ := Int.eq_ofNat_of_zero_le hh
  clear hh
  induction n with
  | zero => intro _; show c = c * 1; rw [Int.mul_one]
  | succ n ih =>
    intro hj
    rw [show ((n + 1 : Nat) : Int) = (n : Int) + 1 by omega, mt_s (by omega), tn_s (by omega), ih (by omega), if_pos (by omega), Int.mul_assoc]
theorem mt_hi {c L M j : Int} (hj : 0 ≤ j) : ∀ {d : Int}, 0 ≤ d → mt c L M j (j + d) = c * tn L j * tn M d := by
  intro d hd
  obtain ⟨n, rfl⟩ := Int.eq_ofNat_of_zero_le hd
  clear hd
  induction n with
  | zero => rw [Int.natCast_zero, Int.add_zero, mt_lo hj (Int.le_refl _), tn_0, Int.mul_one]
  | succ n ih =>
    rw [show j + ((n + 1 : Nat) : Int) = (j + (n : Int)) + 1 by omega, mt_s (by omega), ih, if_neg (by omega), show ((n + 1 : Nat) : Int) = (n : Int) + 1 by omega, tn_s (by omega), Int.mul_assoc (c * tn L j)]
theorem mP_0 {n k L T : Int} : ∀ {i : Int}, 0 ≤ i → i ≤ k → mP n k L T i = 0 := by
  intro i hi
  obtain ⟨m, rfl⟩ := Int.eq_ofNat_of_zero_le hi
  clear hi
  induction m with
  | zero => intro _; rfl
  | succ m ih =>
    intro h
    rw [show ((m + 1 : Nat) : Int) = (m : Int) + 1 by omega, mP_s (by omega), if_neg (by omega)]
    exact ih (by omega)
theorem tn_B8 {n j L M kk : Int} (hn : 1 ≤ n ∧ n ≤ 9) (hj : 0 ≤ j ∧ j ≤ n) (hL : 0 ≤ L ∧ L ≤ 8192) (hM : 0 ≤ M ∧ M ≤ 8192) (hk : 0 ≤ kk ∧ kk ≤ n - j) : wy n j * tn L j * tn M kk < B8 := by
  have w := wy_b (n := n) (j := j) (by omega) (by omega)
  have q := mt_b (c := wy n j) (C := 126) (j := j) (h := j + kk) (L := L) (M := M) w hL hM (by omega)
  rw [mt_hi hj.1 hk.1] at q
  have c : (126 : Int) * 8192 ^ 9 < B8 := by unfold B8; decide
  omega
theorem tn_B8a {n j L kk : Int} (hn : 1 ≤ n ∧ n ≤ 9) (hj : 0 ≤ j ∧ j ≤ n) (hL : 0 ≤ L ∧ L ≤ 8192) (hk : 0 ≤ kk ∧ kk ≤ j) : wy n j * tn L kk < B8 := by
  have w := wy_b (n := n) (j := j) (by omega) (by omega)
  have t := tn_bb hL (i := kk) (by omega)
  have m := mulb w t
  have c : (126 : Int) * 8192 ^ 9 < B8 := by unfold B8; decide
  omega
theorem tn_B8b {T n kk : Int} (hn : 1 ≤ n ∧ n ≤ 9) (hT : 0 ≤ T ∧ T ≤ 8192) (hk : 0 ≤ kk ∧ kk ≤ n) : 1 * tn T kk < B8 := by
  have t := tn_bb hT (i := kk) (by omega)
  have c : (8192 : Int) ^ 9 < B8 := by unfold B8; decide
  omega
theorem mP_B8 {n k L T i : Int} (hn : 1 ≤ n ∧ n ≤ 9) (hL : 0 ≤ L ∧ L ≤ T) (hT : T ≤ 8192) (hi : 0 ≤ i ∧ i ≤ n + 1) : mP n k L T i < B8 := by
  have q := mP_b (k := k) hn hL hT hi
  have c : (10 : Int) * (126 * 8192 ^ 9) < B8 := by unfold B8; decide
  have m := Int.mul_le_mul_of_nonneg_right (show i ≤ 10 by omega) (show (0 : Int) ≤ 126 * 8192 ^ 9 by decide)
  omega
theorem prm_tn {p : Nat} {T : Int} (hp : prm p) : ∀ {i : Int}, 0 ≤ i → (p : Int) ∣ tn T i → (p : Int) ∣ T := by
  intro i hi
  obtain ⟨n, rfl⟩ := Int.eq_ofNat_of_zero_le hi
  clear hi
  induction n with
  | zero =>
    intro h
    have l := Int.le_of_dvd (by decide) (show (p : Int) ∣ 1 from h)
    have := hp.1; omega
  | succ n ih =>
    intro h
    rw [show ((n + 1 : Nat) : Int) = (n : Int) + 1 by omega, tn_s (by omega)] at h
    rcases prm_mulI hp h with q | q
    · exact ih q
    · exact q
theorem most_r {n k p w : Int} (hn : 1 ≤ n) (hp : 0 ≤ p ∧ p ≤ w) (hw : 1 ≤ w) (hm : 0 ≤ mP n k (p / gc p w) (w / gc p w) (n + 1)) (ht : 0 < tn (w / gc p w) n) : redP (mP n k p w (n + 1)) (tn w n) = redP (mP n k (p / gc p w) (w / gc p w) (n + 1)) (tn (w / gc p w) n) ∧ redQ (mP n k p w (n + 1)) (tn w n) = redQ (mP n k (p / gc p w) (w / gc p w) (n + 1)) (tn (w / gc p w) n) := by
  have g := gc_pos2 (a := p) (b := w) (by omega)
  have e1 := gc_dvd (a := p) (b := w) hp.1
  have e2 := gc_dvd (a := w) (b := p) (by omega)
  rw [gc_comm] at e2
  have a1 := mP_mul (n := n) (k := k) (D := gc p w) (L := p / gc p w) (T := w / gc p w) (by omega) (i := n + 1) (by omega)
  have a2 := tn_mul (D := gc p w) (Y := w / gc p w) (i := n) (by omega)
  rw [e1, e2] at a1
  rw [e2] at a2
  exact red_c (tn_1 (show 1 ≤ gc p w by omega) (show 0 ≤ n by omega)) hm ht a1 a2
