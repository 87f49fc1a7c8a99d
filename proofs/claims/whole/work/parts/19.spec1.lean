/-! what the methods answer, in plain words: iteration, sums, things and meanings -/
/-- a row's entry, 0 where there is none -/
def lk (n : Nat) (f : Int → Int) (i : Int) : Int := if 0 ≤ i ∧ i < (n : Int) then f i else 0
/-- a row with an entry put, if there is such a place -/
def ly (n : Nat) (f : Int → Int) (i v : Int) : Int → Int := if 0 ≤ i ∧ i < (n : Int) then gupd f i v else f
theorem lk_in {n : Nat} {f : Int → Int} {i : Int} (h : 0 ≤ i ∧ i < (n : Int)) : lk n f i = f i := if_pos h
theorem lk_out {n : Nat} {f : Int → Int} {i : Int} (h : i < 0 ∨ (n : Int) ≤ i) : lk n f i = 0 := if_neg (by omega)
theorem ly_in {n : Nat} {f : Int → Int} {i v : Int} (h : 0 ≤ i ∧ i < (n : Int)) : ly n f i v = gupd f i v := if_pos h
theorem ly_out {n : Nat} {f : Int → Int} {i v : Int} (h : i < 0 ∨ (n : Int) ≤ i) : ly n f i v = f := if_neg (by omega)
/-- a step done for 0, 1 .. -/
def itrN {α : Type} (st : Int → α → α) (a : α) : Nat → α
  | 0 => a
  | n + 1 => st (n : Int) (itrN st a n)
def itr {α : Type} (st : Int → α → α) (a : α) (i : Int) : α := itrN st a i.toNat
theorem itr_0 {α : Type} {st : Int → α → α} {a : α} : itr st a 0 = a := rfl
theorem itr_s {α : Type} {st : Int → α → α} {a : α} {i : Int} (h : 0 ≤ i) : itr st a (i + 1) = st i (itr st a i) := by
  obtain ⟨n, rfl⟩ := Int.eq_ofNat_of_zero_le h
  show itrN st a (((n : Int) + 1).toNat) = st n (itrN st a (n : Int).toNat)
  rw [show ((n : Int) + 1).toNat = n + 1 by omega, show (n : Int).toNat = n by omega]
  rfl
theorem itr_i {α : Type} {st : Int → α → α} {a : α} (P : Int → α → Prop) (h0 : P 0 a) {n : Int} (hs : ∀ i x, 0 ≤ i → i < n → P i x → P (i + 1) (st i x)) : ∀ {k : Int}, 0 ≤ k → k ≤ n → P k (itr st a k) := by
  intro k hk
  obtain ⟨m, rfl⟩ := Int.eq_ofNat_of_zero_le hk
  clear hk
  induction m with
  | zero => intro _; exact h0
  | succ m ih =>
    intro hm
    have h := hs (m : Int) _ (by omega) (by omega) (ih (by omega))
    rw [show ((m + 1 : Nat) : Int) = (m : Int) + 1 by omega, itr_s (i := (m : Int)) (by omega)]
    exact h
theorem itr_c {α : Type} {st st' : Int → α → α} {a : α} {n : Int} (hs : ∀ i x, 0 ≤ i → i < n → st i x = st' i x) : itr st a n = itr st' a n := by
  rcases Int.lt_or_le n 0 with h | h
  · unfold itr; rw [show n.toNat = 0 by omega]; rfl
  · exact itr_i (st := st) (a := a) (P := fun k x => x = itr st' a k) rfl (n := n) (fun i x h0 h1 hx => by rw [itr_s h0, ← hx]; exact hs i x h0 h1) h (Int.le_refl _)
/-- sums -/
def sm (f : Int → Int) (n : Int) : Int := itr (fun i a => a + f i) 0 n
theorem sm_0 {f : Int → Int} : sm f 0 = 0 := rfl
theorem sm_s {f : Int → Int} {i : Int} (h : 0 ≤ i) : sm f (i + 1) = sm f i + f i := itr_s h
theorem sm_c {f g : Int → Int} {n : Int} (h : ∀ i, 0 ≤ i → i < n → f i = g i) : sm f n = sm g n := itr_c (fun i x h0 h1 => by rw [h i h0 h1])
theorem sm_b {f : Int → Int} {n c : Int} (hn : 0 ≤ n) (h : ∀ i, 0 ≤ i → i < n → 0 ≤ f i ∧ f i ≤ c) : 0 ≤ sm f n ∧ sm f n ≤ n * c := by
  refine itr_i (P := fun k x => 0 ≤ x ∧ x ≤ k * c) (by simp) (n := n) (fun i x h0 h1 hx => ?_) hn (Int.le_refl _)
  have q := h i h0 h1
  rw [Int.add_mul]
  omega
theorem mulb {a b A B : Int} (ha : 0 ≤ a ∧ a ≤ A) (hb : 0 ≤ b ∧ b ≤ B) : 0 ≤ a * b ∧ a * b ≤ A * B := ⟨Int.mul_nonneg ha.1 hb.1, Int.mul_le_mul ha.2 hb.2 hb.1 (by omega)⟩
/-- what all numbers that are kept lie between -/
def okA (A : Int → Int) : Prop := (0 ≤ A 0 ∧ A 0 ≤ 10) ∧ (0 ≤ A 1 ∧ A 1 ≤ 6) ∧ (0 ≤ A 2 ∧ A 2 ≤ 200) ∧ (0 ≤ A 3 ∧ A 3 ≤ 4) ∧ (0 ≤ A 4 ∧ A 4 ≤ 8) ∧
  (∀ j, 0 ≤ j → j < 10 → 0 ≤ A (5 + j) ∧ A (5 + j) ≤ 4) ∧ (∀ j, 0 ≤ j → j < 10 → 0 ≤ A (15 + j) ∧ A (15 + j) ≤ 9) ∧ (∀ j, 0 ≤ j → j < 60 → 0 ≤ A (25 + j) ∧ A (25 + j) ≤ 99) ∧
  (∀ j, 0 ≤ j → j < 6 → 0 ≤ A (85 + j) ∧ A (85 + j) ≤ 99) ∧ (∀ j, 0 ≤ j → j < 36 → 0 ≤ A (91 + j) ∧ A (91 + j) ≤ 799) ∧
  (0 ≤ A 127 ∧ A 127 ≤ 2000) ∧ (1 ≤ A 128 ∧ A 128 ≤ 9) ∧ (1 ≤ A 129 ∧ A 129 ≤ 9) ∧ (0 ≤ A 130 ∧ A 130 ≤ 99) ∧ (0 ≤ A 131 ∧ A 131 ≤ 99) ∧
  (∀ j, 0 ≤ j → j < 200 → 0 ≤ A (132 + j) ∧ A (132 + j) ≤ 255) ∧ (∀ j, 0 ≤ j → j < 40 → 0 ≤ A (332 + j) ∧ A (332 + j) ≤ 9) ∧ (∀ j, 0 ≤ j → j < 8 → 0 ≤ A (372 + j) ∧ A (372 + j) ≤ 9)
section OKA
variable {A : Int → Int}
theorem okA_0 (h : okA A) : 0 ≤ A 0 ∧ A 0 ≤ 10 := h.1
theorem okA_1 (h : okA A) : 0 ≤ A 1 ∧ A 1 ≤ 6 := h.2.1
theorem okA_2 (h : okA A) : 0 ≤ A 2 ∧ A 2 ≤ 200 := h.2.2.1
theorem okA_3 (h : okA A) : 0 ≤ A 3 ∧ A 3 ≤ 4 := h.2.2.2.1
theorem okA_4 (h : okA A) : 0 ≤ A 4 ∧ A 4 ≤ 8 := h.2.2.2.2.1
theorem okA_cl (h : okA A) {j : Int} (q : 0 ≤ j ∧ j < 10) : 0 ≤ A (5 + j) ∧ A (5 + j) ≤ 4 := h.2.2.2.2.2.1 j q.1 q.2
theorem okA_fa (h : okA A) {j : Int} (q : 0 ≤ j ∧ j < 10) : 0 ≤ A (15 + j) ∧ A (15 + j) ≤ 9 := h.2.2.2.2.2.2.1 j q.1 q.2
theorem okA_le (h : okA A) {j : Int} (q : 0 ≤ j ∧ j < 60) : 0 ≤ A (25 + j) ∧ A (25 + j) ≤ 99 := h.2.2.2.2.2.2.2.1 j q.1 q.2
theorem okA_wo (h : okA A) {j : Int} (q : 0 ≤ j ∧ j < 6) : 0 ≤ A (85 + j) ∧ A (85 + j) ≤ 99 := h.2.2.2.2.2.2.2.2.1 j q.1 q.2
theorem okA_wa (h : okA A) {j : Int} (q : 0 ≤ j ∧ j < 36) : 0 ≤ A (91 + j) ∧ A (91 + j) ≤ 799 := h.2.2.2.2.2.2.2.2.2.1 j q.1 q.2
theorem okA_pu (h : okA A) : (0 ≤ A 127 ∧ A 127 ≤ 2000) ∧ (1 ≤ A 128 ∧ A 128 ≤ 9) ∧ (1 ≤ A 129 ∧ A 129 ≤ 9) ∧ (0 ≤ A 130 ∧ A 130 ≤ 99) ∧ (0 ≤ A 131 ∧ A 131 ≤ 99) := ⟨h.2.2.2.2.2.2.2.2.2.2.1, h.2.2.2.2.2.2.2.2.2.2.2.1, h.2.2.2.2.2.2.2.2.2.2.2.2.1, h.2.2.2.2.2.2.2.2.2.2.2.2.2.1, h.2.2.2.2.2.2.2.2.2.2.2.2.2.2.1⟩
theorem okA_te (h : okA A) {j : Int} (q : 0 ≤ j ∧ j < 200) : 0 ≤ A (132 + j) ∧ A (132 + j) ≤ 255 := h.2.2.2.2.2.2.2.2.2.2.2.2.2.2.2.1 j q.1 q.2
theorem okA_ha (h : okA A) {j : Int} (q : 0 ≤ j ∧ j < 40) : 0 ≤ A (332 + j) ∧ A (332 + j) ≤ 9 := h.2.2.2.2.2.2.2.2.2.2.2.2.2.2.2.2.1 j q.1 q.2
theorem okA_se (h : okA A) {j : Int} (q : 0 ≤ j ∧ j < 8) : 0 ≤ A (372 + j) ∧ A (372 + j) ≤ 9 := h.2.2.2.2.2.2.2.2.2.2.2.2.2.2.2.2.2 j q.1 q.2
end OKA
/-- VALUE -/
def fade (v d n : Int) : Int := itr (fun _ x => x * (10 - d) / 10) v n
theorem fade_b {v d n : Int} (hv : 0 ≤ v ∧ v ≤ 99) (hd : 0 ≤ d ∧ d ≤ 9) (hn : 0 ≤ n) : 0 ≤ fade v d n ∧ fade v d n ≤ 99 :=
  itr_i (P := fun _ x => 0 ≤ x ∧ x ≤ 99) hv (n := n) (fun i x _ _ hx => by
    have q := mulb (a := x) (b := 10 - d) (A := 99) (B := 10) hx (by omega)
    omega) hn (Int.le_refl _)
def sTrue (A : Int → Int) (t b n : Int) : Int := fade (A (25 + 6 * t + b)) (A (15 + t)) n
theorem sTrue_b {A : Int → Int} (h : okA A) {t b n : Int} (ht : 0 ≤ t ∧ t < 10) (hb : 0 ≤ b ∧ b < 6) (hn : 0 ≤ n) : 0 ≤ sTrue A t b n ∧ sTrue A t b n ≤ 99 := by
  have q := okA_le h (j := 6 * t + b) (by omega)
  rw [show 25 + (6 * t + b) = 25 + 6 * t + b by omega] at q
  exact fade_b q (okA_fa h ht) hn
def sStood (A : Int → Int) (t b n : Int) : Int := gmin 99 (sTrue A t b n + 3 * (n % 2))
def sCls (A : Int → Int) (t b n : Int) : Int := if A (5 + t) = 0 then sTrue A t b n else if A (5 + t) = 1 then sStood A t b n else if A (5 + t) = 2 then sStood A t b (7 - n) else if A (5 + t) = 3 then gmin 99 (2 * sTrue A t b n) else sTrue A t b n - b * sTrue A t b n / 8
theorem sStood_b {A : Int → Int} (h : okA A) {t b n : Int} (ht : 0 ≤ t ∧ t < 10) (hb : 0 ≤ b ∧ b < 6) (hn : 0 ≤ n) : 0 ≤ sStood A t b n ∧ sStood A t b n ≤ 99 := by
  have q := sTrue_b h ht hb hn
  unfold sStood gmin
  split <;> omega
theorem sCls_b {A : Int → Int} (h : okA A) {t b n : Int} (ht : 0 ≤ t ∧ t < 10) (hb : 0 ≤ b ∧ b < 6) (hn : 0 ≤ n ∧ n < 8) : 0 ≤ sCls A t b n ∧ sCls A t b n ≤ 99 := by
  have q := sTrue_b h ht hb hn.1
  have q1 := sStood_b h ht hb hn.1
  have q2 := sStood_b h ht hb (n := 7 - n) (by omega)
  have q3 := mulb (a := b) (b := sTrue A t b n) (A := 5) (B := 99) (by omega) q
  unfold sCls gmin
  have q4 : b * sTrue A t b n ≤ 5 * sTrue A t b n := Int.mul_le_mul_of_nonneg_right (by omega) q.1
  repeat' split
  all_goals omega
def sVal (A : Int → Int) (t b n far : Int) : Int := gmax 0 (sCls A t b n - far * (b + 1))
theorem sVal_b {A : Int → Int} (h : okA A) {t b n far : Int} (ht : 0 ≤ t ∧ t < 10) (hb : 0 ≤ b ∧ b < 6) (hn : 0 ≤ n ∧ n < 8) (hf : 0 ≤ far ∧ far ≤ 9) : 0 ≤ sVal A t b n far ∧ sVal A t b n far ≤ 99 := by
  have q := sCls_b h ht hb hn
  have q3 := mulb (a := far) (b := b + 1) (A := 9) (B := 6) hf (by omega)
  unfold sVal gmax
  split <;> omega
/-- LOUD -/
def sLoud (A : Int → Int) (t b far : Int) : Int := sm (fun n => sVal A t b n far) 8
theorem sLoud_b {A : Int → Int} (h : okA A) {t b far : Int} (ht : 0 ≤ t ∧ t < 10) (hb : 0 ≤ b ∧ b < 6) (hf : 0 ≤ far ∧ far ≤ 9) : 0 ≤ sLoud A t b far ∧ sLoud A t b far ≤ 792 :=
  sm_b (n := 8) (c := 99) (by omega) (fun i h0 h1 => sVal_b h ht hb ⟨h0, h1⟩ hf)
/-- LIKENESS -/
def sOff (A : Int → Int) (t m far : Int) : Int := sm (fun b => gabs (sLoud A t b far - A (91 + 6 * m + b))) 6
def sLike (A : Int → Int) (t m far : Int) : Int := gmax 0 (1000 - sOff A t m far)
theorem gabs_b {x c : Int} (h : -c ≤ x ∧ x ≤ c) : 0 ≤ gabs x ∧ gabs x ≤ c := by
  unfold gabs; split <;> omega
theorem sOff_b {A : Int → Int} (h : okA A) {t m far : Int} (ht : 0 ≤ t ∧ t < 10) (hm : 0 ≤ m ∧ m < 6) (hf : 0 ≤ far ∧ far ≤ 9) : 0 ≤ sOff A t m far ∧ sOff A t m far ≤ 4794 :=
  sm_b (n := 6) (c := 799) (by omega) (fun i h0 h1 => by
    have q := sLoud_b h (b := i) ht (by omega) hf
    have q1 := okA_wa h (j := 6 * m + i) (by omega)
    rw [show 91 + (6 * m + i) = 91 + 6 * m + i by omega] at q1
    exact gabs_b (by omega))
theorem sLike_b {A : Int → Int} (h : okA A) {t m far : Int} (ht : 0 ≤ t ∧ t < 10) (hm : 0 ≤ m ∧ m < 6) (hf : 0 ≤ far ∧ far ≤ 9) : 0 ≤ sLike A t m far ∧ sLike A t m far ≤ 1000 := by
  have q := sOff_b h ht hm hf
  unfold sLike gmax
  split <;> omega
/-- of all meanings together -/
def sTot (A : Int → Int) (t far : Int) : Int := sm (fun m => sLike A t m far) (A 1)
theorem sTot_b {A : Int → Int} (h : okA A) {t far : Int} (ht : 0 ≤ t ∧ t < 10) (hf : 0 ≤ far ∧ far ≤ 9) : 0 ≤ sTot A t far ∧ sTot A t far ≤ 6000 := by
  have q := okA_1 h
  have q1 := sm_b (f := fun m => sLike A t m far) (n := A 1) (c := 1000) q.1 (fun i h0 h1 => sLike_b h ht ⟨h0, by omega⟩ hf)
  unfold sTot
  omega
/-- the class's own road to a VALUE -/
def sOf (k v b n : Int) : Int := if k = 1 ∨ k = 2 then gmin 99 (v + 3 * (n % 2)) else if k = 3 then gmin 99 (2 * v) else if k = 4 then v - b * v / 8 else v
theorem sVal_2 {A : Int → Int} {t b n far : Int} (h : A (5 + t) = 2) : gmax 0 (sOf (A (5 + t)) (fade (A (25 + 6 * t + b)) (A (15 + t)) (7 - n)) b (7 - n) - far * (b + 1)) = sVal A t b n far := by
  unfold sVal sCls sStood sTrue sOf
  rw [h]; rfl
theorem sVal_n {A : Int → Int} {t b n far : Int} (hk : 0 ≤ A (5 + t) ∧ A (5 + t) ≤ 4) (h : A (5 + t) ≠ 2) : gmax 0 (sOf (A (5 + t)) (fade (A (25 + 6 * t + b)) (A (15 + t)) n) b n - far * (b + 1)) = sVal A t b n far := by
  unfold sVal sCls sStood sTrue sOf
  rcases (show A (5 + t) = 0 ∨ A (5 + t) = 1 ∨ A (5 + t) = 3 ∨ A (5 + t) = 4 by omega) with e | e | e | e <;> rw [e] <;> rfl
theorem fade_s {v d i : Int} (h : 0 ≤ i) : fade v d (i + 1) = fade v d i * (10 - d) / 10 := itr_s h
