/-! numbers by digits to the base 2^30: values, carries, rests -/
def hv (f : Int → Int) (o : Int) : Nat → Int
  | 0 => 0
  | n + 1 => f o + 1073741824 * hv f (o + 1) n
def dgs (f : Int → Int) (o : Int) (n : Nat) : Prop := ∀ k, o ≤ k → k < o + (n : Int) → 0 ≤ f k ∧ f k < 1073741824
theorem dgs_s {f : Int → Int} {o : Int} {n : Nat} (h : dgs f o (n + 1)) : (0 ≤ f o ∧ f o < 1073741824) ∧ dgs f (o + 1) n := ⟨h o (by omega) (by omega), fun k h0 h1 => h k (by omega) (by omega)⟩
theorem hv_b : ∀ {n : Nat} {f : Int → Int} {o : Int}, dgs f o n → 0 ≤ hv f o n ∧ hv f o n < 1073741824 ^ n := by
  intro n
  induction n with
  | zero => intro f o _; exact ⟨Int.le_refl _, (by rw [Int.pow_zero]; exact Int.zero_lt_one)⟩
  | succ n ih =>
    intro f o h
    have h2 := ih (dgs_s h).2
    have h1 := (dgs_s h).1
    have hp : (1073741824 : Int) ^ (n + 1) = 1073741824 * 1073741824 ^ n := by rw [Int.pow_succ, Int.mul_comm]
    show 0 ≤ f o + 1073741824 * hv f (o + 1) n ∧ f o + 1073741824 * hv f (o + 1) n < 1073741824 ^ (n + 1)
    rw [hp]
    omega
theorem hv_c : ∀ {n : Nat} {f g : Int → Int} {o p : Int}, (∀ k, 0 ≤ k → k < (n : Int) → f (o + k) = g (p + k)) → hv f o n = hv g p n := by
  intro n
  induction n with
  | zero => intro f g o p _; rfl
  | succ n ih =>
    intro f g o p h
    have h0 := h 0 (by omega) (by omega)
    rw [Int.add_zero, Int.add_zero] at h0
    have h2 : hv f (o + 1) n = hv g (p + 1) n := ih (fun k k0 k1 => by
      have q := h (k + 1) (by omega) (by omega)
      rw [show o + 1 + k = o + (k + 1) by omega, show p + 1 + k = p + (k + 1) by omega]; exact q)
    show f o + 1073741824 * hv f (o + 1) n = g p + 1073741824 * hv g (p + 1) n
    rw [h0, h2]
theorem hv_inj : ∀ {n : Nat} {f g : Int → Int} {o p : Int}, dgs f o n → dgs g p n → hv f o n = hv g p n → ∀ k, 0 ≤ k → k < (n : Int) → f (o + k) = g (p + k) := by
  intro n
  induction n with
  | zero => intro f g o p _ _ _ k h0 h1; omega
  | succ n ih =>
    intro f g o p hf hg h k h0 h1
    have h' : f o + 1073741824 * hv f (o + 1) n = g p + 1073741824 * hv g (p + 1) n := h
    have d1 := (dgs_s hf).1
    have d2 := (dgs_s hg).1
    have e : hv f (o + 1) n = hv g (p + 1) n := by omega
    have e0 : f o = g p := by omega
    rcases Int.lt_or_le 0 k with q | q
    · have r := ih (dgs_s hf).2 (dgs_s hg).2 e (k - 1) (by omega) (by omega)
      rw [show o + 1 + (k - 1) = o + k by omega, show p + 1 + (k - 1) = p + k by omega] at r
      exact r
    · rw [show k = 0 by omega, Int.add_zero, Int.add_zero]; exact e0
/-- carries, from below: X the columns, c what is carried into each -/
theorem hv_cy : ∀ {n : Nat} {g X c : Int → Int} {s : Int}, (∀ b, s ≤ b → b < s + (n : Int) → g b + 1073741824 * c (b + 1) = X b + c b) → hv g s n + 1073741824 ^ n * c (s + (n : Int)) = hv X s n + c s := by
  intro n
  induction n with
  | zero => intro g X c s _; show (0 : Int) + 1 * c (s + 0) = 0 + c s; rw [Int.add_zero, Int.one_mul]
  | succ n ih =>
    intro g X c s h
    have h1 := h s (by omega) (by omega)
    have h2 := ih (s := s + 1) (fun b b0 b1 => h b (by omega) (by omega))
    rw [show s + 1 + (n : Int) = s + ((n + 1 : Nat) : Int) by omega] at h2
    have hp : (1073741824 : Int) ^ (n + 1) * c (s + ((n + 1 : Nat) : Int)) = 1073741824 * (1073741824 ^ n * c (s + ((n + 1 : Nat) : Int))) := by rw [Int.pow_succ, Int.mul_comm (1073741824 ^ n), Int.mul_assoc]
    show g s + 1073741824 * hv g (s + 1) n + 1073741824 ^ (n + 1) * c (s + ((n + 1 : Nat) : Int)) = X s + 1073741824 * hv X (s + 1) n + c s
    rw [hp]
    omega
/-- rests, from above: r the rest that comes down to each digit from above it -/
theorem hv_dv : ∀ {n : Nat} {g f r : Int → Int} {d s : Int}, (∀ b, s ≤ b → b < s + (n : Int) → g b * d + r b = r (b + 1) * 1073741824 + f b) → hv g s n * d + r s = hv f s n + 1073741824 ^ n * r (s + (n : Int)) := by
  intro n
  induction n with
  | zero => intro g f r d s _; show (0 : Int) * d + r s = 0 + 1 * r (s + 0); rw [Int.add_zero, Int.one_mul, Int.zero_mul]
  | succ n ih =>
    intro g f r d s h
    have h1 := h s (by omega) (by omega)
    have h2 := ih (s := s + 1) (fun b b0 b1 => h b (by omega) (by omega))
    rw [show s + 1 + (n : Int) = s + ((n + 1 : Nat) : Int) by omega] at h2
    have hp : (1073741824 : Int) ^ (n + 1) * r (s + ((n + 1 : Nat) : Int)) = 1073741824 * (1073741824 ^ n * r (s + ((n + 1 : Nat) : Int))) := by rw [Int.pow_succ, Int.mul_comm (1073741824 ^ n), Int.mul_assoc]
    have hm : (g s + 1073741824 * hv g (s + 1) n) * d = g s * d + 1073741824 * (hv g (s + 1) n * d) := by rw [Int.add_mul, Int.mul_assoc]
    show (g s + 1073741824 * hv g (s + 1) n) * d + r s = f s + 1073741824 * hv f (s + 1) n + 1073741824 ^ (n + 1) * r (s + ((n + 1 : Nat) : Int))
    rw [hp, hm]
    omega
theorem hv_mul : ∀ {n : Nat} {f : Int → Int} {v s : Int}, hv (fun b => f b * v) s n = hv f s n * v := by
  intro n
  induction n with
  | zero => intro f v s; exact (Int.zero_mul v).symm
  | succ n ih =>
    intro f v s
    show f s * v + 1073741824 * hv (fun b => f b * v) (s + 1) n = (f s + 1073741824 * hv f (s + 1) n) * v
    rw [ih, Int.add_mul, Int.mul_assoc]
theorem hv_add : ∀ {n : Nat} {f g : Int → Int} {s p : Int}, hv (fun b => f b + g (p + b)) s n = hv f s n + hv g (p + s) n := by
  intro n
  induction n with
  | zero => intro f g s p; rfl
  | succ n ih =>
    intro f g s p
    have h := ih (f := f) (g := g) (s := s + 1) (p := p)
    rw [show p + (s + 1) = p + s + 1 by omega] at h
    show f s + g (p + s) + 1073741824 * hv (fun b => f b + g (p + b)) (s + 1) n = f s + 1073741824 * hv f (s + 1) n + (g (p + s) + 1073741824 * hv g (p + s + 1) n)
    rw [h]; omega
theorem hv_sub : ∀ {n : Nat} {f g : Int → Int} {s p : Int}, hv (fun b => f b - g (p + b)) s n = hv f s n - hv g (p + s) n := by
  intro n
  induction n with
  | zero => intro f g s p; rfl
  | succ n ih =>
    intro f g s p
    have h := ih (f := f) (g := g) (s := s + 1) (p := p)
    rw [show p + (s + 1) = p + s + 1 by omega] at h
    show f s - g (p + s) + 1073741824 * hv (fun b => f b - g (p + b)) (s + 1) n = f s + 1073741824 * hv f (s + 1) n - (g (p + s) + 1073741824 * hv g (p + s + 1) n)
    rw [h]; omega
theorem hv_0 : ∀ {n : Nat} {f : Int → Int} {s : Int}, (∀ b, s ≤ b → b < s + (n : Int) → f b = 0) → hv f s n = 0 := by
  intro n
  induction n with
  | zero => intro f s _; rfl
  | succ n ih =>
    intro f s h
    have h1 := h s (by omega) (by omega)
    have h2 := ih (f := f) (s := s + 1) (fun b b0 b1 => h b (by omega) (by omega))
    show f s + 1073741824 * hv f (s + 1) n = 0
    rw [h1, h2]; rfl
theorem hv_00 : ∀ {n : Nat} {f : Int → Int} {s : Int}, dgs f s n → hv f s n = 0 → ∀ b, s ≤ b → b < s + (n : Int) → f b = 0 := by
  intro n f s h h0 b b0 b1
  have q := hv_inj (g := fun _ => 0) (p := 0) h (fun k _ _ => ⟨Int.le_refl _, (show (0 : Int) < 1073741824 by decide)⟩) (h0.trans (hv_0 (fun _ _ _ => rfl)).symm) (b - s) (by omega) (by omega)
  rw [show s + (b - s) = b by omega] at q
  exact q
/-- nothing stands above -/
theorem hv_top : ∀ {n m : Nat} {f : Int → Int} {s : Int}, (∀ b, s + (n : Int) ≤ b → b < s + (n : Int) + (m : Int) → f b = 0) → hv f s (n + m) = hv f s n := by
  intro n
  induction n with
  | zero => intro m f s h; rw [Nat.zero_add]; exact hv_0 (fun b b0 b1 => h b (by omega) (by omega))
  | succ n ih =>
    intro m f s h
    have q := ih (m := m) (f := f) (s := s + 1) (fun b b0 b1 => h b (by omega) (by omega))
    rw [show n + 1 + m = (n + m) + 1 by omega]
    show f s + 1073741824 * hv f (s + 1) (n + m) = f s + 1073741824 * hv f (s + 1) n
    rw [q]
/-- the highest digit in which they differ -/
theorem hv_lt : ∀ {n : Nat} {f g : Int → Int} {s p k : Int}, dgs f s n → dgs g p n → 0 ≤ k → k < (n : Int) → f (s + k) < g (p + k) → (∀ b, k < b → b < (n : Int) → f (s + b) = g (p + b)) → hv f s n < hv g p n := by
  intro n
  induction n with
  | zero => intro f g s p k _ _ h0 h1; omega
  | succ n ih =>
    intro f g s p k hf hg h0 h1 hl he
    have d1 := (dgs_s hf).1
    have d2 := (dgs_s hg).1
    show f s + 1073741824 * hv f (s + 1) n < g p + 1073741824 * hv g (p + 1) n
    rcases Int.lt_or_le 0 k with q | q
    · have r := ih (s := s + 1) (p := p + 1) (k := k - 1) (dgs_s hf).2 (dgs_s hg).2 (by omega) (by omega) (by rw [show s + 1 + (k - 1) = s + k by omega, show p + 1 + (k - 1) = p + k by omega]; exact hl) (fun b b0 b1 => by
        rw [show s + 1 + b = s + (b + 1) by omega, show p + 1 + b = p + (b + 1) by omega]; exact he (b + 1) (by omega) (by omega))
      omega
    · have e : hv f (s + 1) n = hv g (p + 1) n := hv_c (fun b b0 b1 => by
        rw [show s + 1 + b = s + (b + 1) by omega, show p + 1 + b = p + (b + 1) by omega]; exact he (b + 1) (by omega) (by omega))
      rw [show k = 0 by omega, Int.add_zero, Int.add_zero] at hl
      omega
/-- filled so far, from below; from above -/
def fup (o i : Int) (F e g : Int → Int) : Prop := (∀ b, 0 ≤ b → b < i → g (o + b) = F b) ∧ ∀ j, (j < o ∨ o + i ≤ j) → g j = e j
theorem fup_0 {o : Int} {F e : Int → Int} : fup o 0 F e e := ⟨fun b h0 h1 => by omega, fun _ _ => rfl⟩
theorem fup_s {o i z v : Int} {F e g : Int → Int} (h : fup o i F e g) (hi : 0 ≤ i) (hz : z = o + i) (hv : v = F i) : fup o (i + 1) F e (gupd g z v) := by
  subst hz; subst hv
  refine ⟨fun b h0 h1 => ?_, fun j hj => ?_⟩
  · rcases Int.lt_or_le b i with q | q
    · rw [gupd_n (by omega)]; exact h.1 b h0 q
    · rw [show b = i by omega, gupd_s]
  · rw [gupd_n (by omega)]; exact h.2 j (by omega)
def fdn (o k n : Int) (F e g : Int → Int) : Prop := (∀ b, k < b → b < n → g (o + b) = F b) ∧ ∀ j, (j ≤ o + k ∨ o + n ≤ j) → g j = e j
theorem fdn_0 {o k n : Int} {F e : Int → Int} (h : k + 1 = n) : fdn o k n F e e := ⟨fun b h0 h1 => by omega, fun _ _ => rfl⟩
theorem fdn_s {o k n z v : Int} {F e g : Int → Int} (h : fdn o k n F e g) (hk : k < n) (hz : z = o + k) (hv : v = F k) : fdn o (k + -1) n F e (gupd g z v) := by
  subst hz; subst hv
  refine ⟨fun b h0 h1 => ?_, fun j hj => ?_⟩
  · rcases Int.lt_or_le k b with q | q
    · rw [gupd_n (by omega)]; exact h.1 b q h1
    · rw [show b = k by omega, gupd_s]
  · rw [gupd_n (by omega)]; exact h.2 j (by omega)
