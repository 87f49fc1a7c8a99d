/-! what each call answers: the answer, the refusal (-1: none; 0 BAD, 1 NO, 2 FULL), the row behind it -/
def bump (k : Int) (rf : Int → Int) : Int → Int := if k < 0 then rf else gupd rf k (rf k + 1)
theorem bump_n {rf : Int → Int} : bump (-1) rf = rf := rfl
theorem bump_k {rf : Int → Int} {k : Int} (h : 0 ≤ k) : bump k rf = gupd rf k (rf k + 1) := if_neg (by omega)
def o_thing (A : Int → Int) (ty fa : Int) : Int × Int × (Int → Int) := if (0 ≤ ty ∧ ty ≤ 4) ∧ 0 ≤ fa ∧ fa ≤ 9 then (if A 0 = 10 then (-4, 2, A) else (A 0, -1, gupd (gupd (gupd A (5 + A 0) ty) (15 + A 0) fa) 0 (A 0 + 1))) else (-2, 0, A)
def o_level (A : Int → Int) (t b v : Int) : Int × Int × (Int → Int) := if (0 ≤ t ∧ t ≤ A 0 - 1) ∧ (0 ≤ b ∧ b ≤ 5) ∧ 0 ≤ v ∧ v ≤ 99 then (A (25 + 6 * t + b), -1, gupd A (25 + 6 * t + b) v) else (-2, 0, A)
def o_meaning (A : Int → Int) (w : Int) : Int × Int × (Int → Int) := if 0 ≤ w ∧ w ≤ 99 then (if A 1 = 6 then (-4, 2, A) else (A 1, -1, gupd (gupd A (85 + A 1) w) 1 (A 1 + 1))) else (-2, 0, A)
def o_want (A : Int → Int) (m b v : Int) : Int × Int × (Int → Int) := if (0 ≤ m ∧ m ≤ A 1 - 1) ∧ (0 ≤ b ∧ b ≤ 5) ∧ 0 ≤ v ∧ v ≤ 799 then (A (91 + 6 * m + b), -1, gupd A (91 + 6 * m + b) v) else (-2, 0, A)
def putLo (w : Int) : Int := if w = 1 ∨ w = 2 then 1 else 0
def putHi (w : Int) : Int := if w = 0 then 2000 else if w = 1 ∨ w = 2 then 9 else 99
def o_put (A : Int → Int) (w v : Int) : Int × Int × (Int → Int) := if (0 ≤ w ∧ w ≤ 4) ∧ putLo w ≤ v ∧ v ≤ putHi w then (A (127 + w), -1, gupd A (127 + w) v) else (-2, 0, A)
def o_value (A : Int → Int) (t b n f : Int) : Int × Int := if (0 ≤ t ∧ t ≤ A 0 - 1) ∧ (0 ≤ b ∧ b ≤ 5) ∧ (0 ≤ n ∧ n ≤ 7) ∧ 0 ≤ f ∧ f ≤ 9 then (sVal A t b n f, -1) else (-2, 0)
def o_loud (A : Int → Int) (t b f : Int) : Int × Int := if (0 ≤ t ∧ t ≤ A 0 - 1) ∧ (0 ≤ b ∧ b ≤ 5) ∧ 0 ≤ f ∧ f ≤ 9 then (sLoud A t b f, -1) else (-2, 0)
def o_like (A : Int → Int) (t m f : Int) : Int × Int := if (0 ≤ t ∧ t ≤ A 0 - 1) ∧ (0 ≤ m ∧ m ≤ A 1 - 1) ∧ 0 ≤ f ∧ f ≤ 9 then (sLike A t m f, -1) else (-2, 0)
noncomputable def o_may (A : Int → Int) (t m a b : Int) : Int × Int := if (0 ≤ t ∧ t ≤ A 0 - 1) ∧ (0 ≤ m ∧ m ≤ A 1 - 1) ∧ (1 ≤ b ∧ b ≤ 99) ∧ 1 ≤ a ∧ a ≤ b then (if sTot A t 0 = 0 then (-20, 1) else (sMay A t m a b, -1)) else (-10, 0)
def o_best (A : Int → Int) (m : Int) : Int × Int := if 0 ≤ m ∧ m ≤ A 1 - 1 then (sBest A m, -1) else (-2, 0)
def o_truer (A : Int → Int) (m x y : Int) : Int × Int := if (0 ≤ m ∧ m ≤ A 1 - 1) ∧ (0 ≤ x ∧ x ≤ A 0 - 1) ∧ (0 ≤ y ∧ y ≤ A 0 - 1) ∧ x ≠ y then (if sMoreB A m y x = 1 then y else x, -1) else (-2, 0)
def o_serves (A : Int → Int) (s m : Int) : Int × Int := if (0 ≤ s ∧ s ≤ 1 * 2 ^ (A 0).toNat - 1) ∧ 0 ≤ m ∧ m ≤ A 1 - 1 then (sServ A s m, -1) else (-2, 0)
def o_cup (A : Int → Int) (k : Int) : Int × Int := if 0 ≤ k ∧ k ≤ A 0 then (sCup A k, -1) else (-2, 0)
def o_beast (A : Int → Int) (m : Int) : Int × Int := if 0 ≤ m ∧ m ≤ A 1 - 1 then (if A 0 < 3 then (-3, 1) else (sBeast A m, -1)) else (-2, 0)
def o_house (A : Int → Int) : Int × Int × (Int → Int) := if A 3 = 4 then (-4, 2, A) else (A 3, -1, fun z => if 332 + 10 * A 3 ≤ z ∧ z < 342 + 10 * A 3 then 1 else gupd A 3 (A 3 + 1) z)
def o_habit (A : Int → Int) (h t v : Int) : Int × Int × (Int → Int) := if (0 ≤ h ∧ h ≤ A 3 - 1) ∧ (0 ≤ t ∧ t ≤ 9) ∧ 0 ≤ v ∧ v ≤ 9 then (A (332 + 10 * h + t), -1, gupd A (332 + 10 * h + t) v) else (-2, 0, A)
def o_see (A : Int → Int) (t : Int) : Int × Int × (Int → Int) := if 0 ≤ t ∧ t ≤ 9 then (if A 4 = 8 then (-4, 2, A) else (A 4 + 1, -1, gupd (gupd A (372 + A 4) t) 4 (A 4 + 1))) else (-2, 0, A)
def o_status (rf : Int → Int) (w : Int) : Int × Int := if 0 ≤ w ∧ w ≤ 2 then (rf w, -1) else (-1, 0)
def o_count (A : Int → Int) (w : Int) : Int × Int := if 0 ≤ w ∧ w ≤ 4 then (A w, -1) else (-2, 0)
/-- walkers -/
def walkP (f l b s : Int) : Prop := (0 ≤ f ∧ f ≤ 99) ∧ (1 ≤ l ∧ l ≤ 9) ∧ (1 ≤ b ∧ b ≤ 9) ∧ 0 ≤ s ∧ s ≤ 20
def sLag (f l b s n : Int) : Int := itr (fun k x => x - x / l + (if k % b = 0 then s else 0)) f n
def sMend (f l b s n t : Int) : Int := sm (fun k => if t < sLag f l b s k then 1 else 0) n
/-- the step behind the last one that lags more; 40: none does not -/
def sFrom (f l b s t n : Int) : Int := itr (fun k x => if t < sLag f l b s k then k + 1 else x) 0 n
def o_lag (f l b s n : Int) : Int × Int := if ((0 ≤ f ∧ f ≤ 99) ∧ (1 ≤ l ∧ l ≤ 9) ∧ (1 ≤ b ∧ b ≤ 9) ∧ 0 ≤ s ∧ s ≤ 20) ∧ 0 ≤ n ∧ n ≤ 39 then (sLag f l b s n, -1) else (-2, 0)
def o_mend (f l b s n t : Int) : Int × Int := if ((0 ≤ f ∧ f ≤ 99) ∧ (1 ≤ l ∧ l ≤ 9) ∧ (1 ≤ b ∧ b ≤ 9) ∧ 0 ≤ s ∧ s ≤ 20) ∧ (1 ≤ n ∧ n ≤ 40) ∧ 0 ≤ t ∧ t ≤ 99 then (sMend f l b s n t, -1) else (-2, 0)
def o_steady (f l b s t : Int) : Int × Int := if ((0 ≤ f ∧ f ≤ 99) ∧ (1 ≤ l ∧ l ≤ 9) ∧ (1 ≤ b ∧ b ≤ 9) ∧ 0 ≤ s ∧ s ≤ 20) ∧ 0 ≤ t ∧ t ≤ 99 then (if sFrom f l b s t 40 < 40 then sFrom f l b s t 40 else -1, -1) else (-2, 0)
theorem sLag_s {f l b s n : Int} (h : 0 ≤ n) : sLag f l b s (n + 1) = sLag f l b s n - sLag f l b s n / l + (if n % b = 0 then s else 0) := itr_s h
theorem sLag_b {f l b s n : Int} (hf : 0 ≤ f ∧ f ≤ 99) (hl : 1 ≤ l ∧ l ≤ 9) (hs : 0 ≤ s ∧ s ≤ 20) (hn : 0 ≤ n) : 0 ≤ sLag f l b s n ∧ sLag f l b s n ≤ 99 + 20 * n := by
  refine itr_i (P := fun k x => 0 ≤ x ∧ x ≤ 99 + 20 * k) (by omega) (n := n) (fun i x h0 h1 hx => ?_) hn (Int.le_refl _)
  have q1 : 0 ≤ x / l := Int.ediv_nonneg hx.1 (by omega)
  have q2 : x / l ≤ x := Int.ediv_le_self _ hx.1
  try dsimp only
  split <;> omega
/-- nothing beyond the things and meanings that are there -/
def okZ (A : Int → Int) : Prop := (∀ j, 6 * A 0 ≤ j → j < 60 → A (25 + j) = 0) ∧ ∀ j, 6 * A 1 ≤ j → j < 36 → A (91 + j) = 0
theorem gupd_id {A : Int → Int} {z v : Int} (h : A z = v) : gupd A z v = A := by
  funext j
  unfold gupd
  split
  · rename_i e; rw [e, h]
  · rfl
theorem gB_iI {P : Prop} [Decidable P] : iI (gB P) = iI 0 ∨ iI (gB P) = iI 1 := by
  rcases gB_n (P := P) with h | h
  · rw [h]; exact Or.inl rfl
  · rw [h]; exact Or.inr rfl
