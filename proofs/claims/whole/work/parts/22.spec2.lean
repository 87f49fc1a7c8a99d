/-! what follows of likenesses -/
/-- rows that are filled from a place o on, i of c places so far; beside them they are as before -/
def fil (o c i : Int) (F e g : Int → Int) : Prop := (∀ b, 0 ≤ b → b < i → g (o + b) = F b) ∧ ∀ j, (j < o ∨ o + c ≤ j) → g j = e j
theorem fil_0 {o c : Int} {F e : Int → Int} : fil o c 0 F e e := ⟨fun b h0 h1 => by omega, fun _ _ => rfl⟩
theorem fil_s {o c i z v : Int} {F e g : Int → Int} (h : fil o c i F e g) (hi : 0 ≤ i ∧ i < c) (hz : z = o + i) (hv : v = F i) : fil o c (i + 1) F e (gupd g z v) := by
  refine ⟨fun b h0 h1 => ?_, fun j hj => ?_⟩
  · by_cases q : b = i
    · rw [q, hz, hv]; exact gupd_s
    · rw [gupd_n (by omega)]; exact h.1 b h0 (by omega)
  · rw [gupd_n (by omega)]; exact h.2 j hj
/-- likenesses and their sum of a thing stand in the rows -/
def hrd (A : Int → Int) (t far : Int) (e1 e2 : Int → Int) : Prop := (∀ m, 0 ≤ m → m < A 1 → e1 (6 * t + m) = sLike A t m far) ∧ e2 t = sTot A t far
/-- of all things, FAR 0, with what is LOUD -/
def hrdA (A : Int → Int) (n : Int) (e0 e1 e2 : Int → Int) : Prop := ∀ t, 0 ≤ t → t < n → hrd A t 0 e1 e2 ∧ ∀ b, 0 ≤ b → b < 6 → e0 (6 * t + b) = sLoud A t b 0
theorem hrdA_s {A : Int → Int} {n : Int} {e0 e1 e2 f0 f1 : Int → Int} (hn : 0 ≤ n) (h1 : A 1 ≤ 6) (h : hrdA A n e0 e1 e2) (g0 : fil (6 * n) 6 6 (fun b => sLoud A n b 0) e0 f0) (g1 : fil (6 * n) 6 (A 1) (fun m => sLike A n m 0) e1 f1) : hrdA A (n + 1) f0 f1 (gupd e2 n (sTot A n 0)) := by
  intro t h0 ht
  by_cases q : t = n
  · rw [q]; exact ⟨⟨fun m m0 m1 => g1.1 m m0 m1, gupd_s⟩, fun b b0 b1 => g0.1 b b0 b1⟩
  · obtain ⟨⟨a1, a2⟩, a3⟩ := h t h0 (by omega)
    exact ⟨⟨fun m m0 m1 => by rw [g1.2 _ (by omega)]; exact a1 m m0 m1, by rw [gupd_n q]; exact a2⟩, fun b b0 b1 => by rw [g0.2 _ (by omega)]; exact a3 b b0 b1⟩
theorem hrd_keep {A : Int → Int} {t n far : Int} {e1 e2 f1 : Int → Int} {F : Int → Int} {v : Int} (h : hrd A t far e1 e2) (h1 : A 1 ≤ 6) (q : t ≠ n) (g1 : fil (6 * n) 6 (A 1) F e1 f1) : hrd A t far f1 (gupd e2 n v) := ⟨fun m m0 m1 => by rw [g1.2 _ (by omega)]; exact h.1 m m0 m1, by rw [gupd_n q]; exact h.2⟩
theorem hrd_new {A : Int → Int} {n far : Int} {e1 e2 f1 : Int → Int} (g1 : fil (6 * n) 6 (A 1) (fun m => sLike A n m far) e1 f1) : hrd A n far f1 (gupd e2 n (sTot A n far)) := ⟨fun m m0 m1 => g1.1 m m0 m1, gupd_s⟩
/-- what seeing adds -/
def sBon (A : Int → Int) (l : Int) : Int := if l < 0 ∨ A 128 ≤ l then 0 else A 127 * (A 128 - l) / A 128
theorem sBon_m {A : Int → Int} (h : okA A) {l : Int} (hl : 0 ≤ l ∧ l < A 128) : 0 ≤ A 127 * (A 128 - l) ∧ A 127 * (A 128 - l) ≤ 18000 := by
  have q := okA_pu h
  exact mulb (A := 2000) (B := 9) q.1 (by omega)
theorem sBon_b {A : Int → Int} (h : okA A) (l : Int) : 0 ≤ sBon A l ∧ sBon A l ≤ 2000 := by
  have q := okA_pu h
  unfold sBon
  split
  · omega
  · rename_i c
    refine ⟨Int.ediv_nonneg (sBon_m h (by omega)).1 (by omega), ?_⟩
    have h1 : A 127 * (A 128 - l) ≤ 2000 * A 128 := Int.mul_le_mul q.1.2 (by omega) (by omega) (by omega)
    exact Int.ediv_le_of_le_mul (by omega) h1
/-- the greatest of 0 .. n - 1 of which it holds; -1: none -/
noncomputable def gtst (p : Int → Prop) (n : Int) : Int := itr (fun i r => @ite _ (p i) (Classical.propDecidable _) i r) (-1) n
theorem gtst_s {p : Int → Prop} {n : Int} (h : 0 ≤ n) (q : p n) : gtst p (n + 1) = n := by
  unfold gtst; rw [itr_s h]; exact @if_pos _ (Classical.propDecidable _) q _ _ _
theorem gtst_n {p : Int → Prop} {n : Int} (h : 0 ≤ n) (q : ¬ p n) : gtst p (n + 1) = gtst p n := by
  unfold gtst; rw [itr_s h]; exact @if_neg _ (Classical.propDecidable _) q _ _ _
theorem gtst_0 {p : Int → Prop} : gtst p 0 = -1 := rfl
/-- MAY -/
noncomputable def sMay (A : Int → Int) (t m a b : Int) : Int := gtst (fun l => a * (sTot A t 0 + sBon A l) ≤ (sLike A t m 0 + sBon A l) * b) 10
/-- TRUER -/
def sMore (A : Int → Int) (m i o : Int) : Prop := sLike A o m 0 * gmax 1 (sTot A i 0) < sLike A i m 0 * gmax 1 (sTot A o 0)
def sMoreB (A : Int → Int) (m i o : Int) : Int := gB (sLike A o m 0 * gmax 1 (sTot A i 0) < sLike A i m 0 * gmax 1 (sTot A o 0))
/-- THE BEST THING -/
def sBest (A : Int → Int) (m : Int) : Int := itr (fun i f => if f = -1 then i else if sMoreB A m i f = 1 then i else f) (-1) (A 0)
theorem sBest_b {A : Int → Int} {m n : Int} (h : 0 ≤ n) : -1 ≤ itr (fun i f => if f = -1 then i else if sMoreB A m i f = 1 then i else f) (-1) n ∧ itr (fun i f => if f = -1 then i else if sMoreB A m i f = 1 then i else f) (-1) n < max n 1 ∧ (0 < n → 0 ≤ itr (fun i f => if f = -1 then i else if sMoreB A m i f = 1 then i else f) (-1) n ∧ itr (fun i f => if f = -1 then i else if sMoreB A m i f = 1 then i else f) (-1) n < n) := by
  refine itr_i (P := fun k x => -1 ≤ x ∧ x < max k 1 ∧ (0 < k → 0 ≤ x ∧ x < k)) (by omega) (n := n) (fun i x h0 h1 hx => ?_) h (Int.le_refl _)
  try dsimp only
  split
  · omega
  · split <;> omega
/-- SERVES -/
def sThou (A : Int → Int) (t m : Int) : Int := if sTot A t 0 < 1 then 0 else 1000 * sLike A t m 0 / sTot A t 0
def bit (s i : Int) : Int := s / 2 ^ i.toNat % 2
theorem bit_b (s i : Int) : bit s i = 0 ∨ bit s i = 1 := by unfold bit; omega
def sServ (A : Int → Int) (s m : Int) : Int := itr (fun i x => if bit s i = 1 then gmax x (sThou A i m) else x) 0 (A 0)
/-- CUPBOARD -/
def sWorth (A : Int → Int) (s : Int) : Int := sm (fun m => A (85 + m) * sServ A s m) (A 1)
def bitc (s : Int) : Int := sm (fun k => bit s k) 10
def sCup (A : Int → Int) (k : Int) : Int := (itr (fun s (p : Int × Int) => if bitc s = k then (if p.2 < sWorth A s then (s, sWorth A s) else p) else p) (0, -1) (2 ^ (A 0).toNat)).1
/-- which meanings need a word -/
def clearP (A : Int → Int) (m : Int) : Prop := sBest A m ≠ -1 ∧ 1 ≤ sTot A (sBest A m) 0 ∧ ∀ q, 0 ≤ q → q < A 1 → q ≠ m → sLike A (sBest A m) q 0 < sLike A (sBest A m) m 0
noncomputable def sClr (A : Int → Int) (m : Int) : Int := @gB (clearP A m) (Classical.propDecidable _)
theorem sClr_t {A : Int → Int} {m : Int} (h : clearP A m) : sClr A m = 1 := @gB_t _ (Classical.propDecidable _) h
theorem sClr_f {A : Int → Int} {m : Int} (h : ¬ clearP A m) : sClr A m = 0 := @gB_f _ (Classical.propDecidable _) h
theorem sClr_n (A : Int → Int) (m : Int) : sClr A m = 0 ∨ sClr A m = 1 := @gB_n _ (Classical.propDecidable _)
noncomputable def sWords (A : Int → Int) : Int := sm (fun m => if sClr A m = 1 then 0 else 2 ^ m.toNat) (A 1)
/-- BEAST -/
def sFar3 (A : Int → Int) (i j k m : Int) : Int := sm (fun b => gabs (gmin 799 (sLoud A i b 0 + sLoud A j b 0 + sLoud A k b 0) - A (91 + 6 * m + b))) 6
def b3ok (A : Int → Int) (c : Int) : Prop := c / 100 < c / 10 % 10 ∧ c / 10 % 10 < c % 10 ∧ c % 10 < A 0
def sB3 (A : Int → Int) (m c : Int) (p : Int × Int) : Int × Int := if c / 100 < c / 10 % 10 ∧ c / 10 % 10 < c % 10 ∧ c % 10 < A 0 then (if sFar3 A (c / 100) (c / 10 % 10) (c % 10) m < p.2 then (c, sFar3 A (c / 100) (c / 10 % 10) (c % 10) m) else p) else p
def sBeast (A : Int → Int) (m : Int) : Int := (itr (sB3 A m) (0, 1000000) 1000).1
theorem sThou_b {A : Int → Int} (h : okA A) {t m : Int} (ht : 0 ≤ t ∧ t < 10) (hm : 0 ≤ m ∧ m < 6) : 0 ≤ sThou A t m ∧ sThou A t m ≤ 1000000 := by
  have q := sLike_b h (far := 0) ht hm (by omega)
  unfold sThou
  split
  · omega
  · refine ⟨Int.ediv_nonneg (by omega) (by omega), Int.le_trans (Int.ediv_le_self _ (by omega)) (by omega)⟩
theorem sThou_k {A : Int → Int} (h : okA A) {t m : Int} (ht : 0 ≤ t ∧ t < 10) (hm : 0 ≤ m ∧ m < A 1) : sThou A t m ≤ 1000 := by
  have h1 := okA_1 h
  have q := sLike_b h (far := 0) ht (m := m) (by omega) (by omega)
  unfold sThou
  split
  · omega
  · refine Int.ediv_le_of_le_mul (by omega) ?_
    have h3 : sLike A t m 0 ≤ sTot A t 0 := by
      unfold sTot
      have : ∀ {k : Int}, 0 ≤ k → k ≤ A 1 → 0 ≤ sm (fun m => sLike A t m 0) k ∧ (m < k → sLike A t m 0 ≤ sm (fun m => sLike A t m 0) k) := by
        refine itr_i (P := fun k x => 0 ≤ x ∧ (m < k → sLike A t m 0 ≤ x)) (by omega) (n := A 1) (fun i x h0 h1 hx => ?_)
        show 0 ≤ x + sLike A t i 0 ∧ (m < i + 1 → sLike A t m 0 ≤ x + sLike A t i 0)
        have q2 := sLike_b h (far := 0) ht (m := i) (by omega) (by omega)
        by_cases e : m = i
        · rw [e] at hx ⊢; omega
        · omega
      exact (this h1.1 (Int.le_refl _)).2 hm.2
    omega
theorem sServ_b {A : Int → Int} (h : okA A) {s m : Int} (hm : 0 ≤ m ∧ m < A 1) {n : Int} (hn : 0 ≤ n ∧ n ≤ A 0) : 0 ≤ itr (fun i x => if bit s i = 1 then gmax x (sThou A i m) else x) 0 n ∧ itr (fun i x => if bit s i = 1 then gmax x (sThou A i m) else x) 0 n ≤ 1000 := by
  have h0 := okA_0 h
  have h1 := okA_1 h
  refine itr_i (P := fun k x => 0 ≤ x ∧ x ≤ 1000) (by omega) (n := n) (fun i x i0 i1 hx => ?_) hn.1 (Int.le_refl _)
  have q := sThou_b h (t := i) (m := m) (by omega) (by omega)
  have q1 := sThou_k h (t := i) (m := m) (by omega) hm
  try dsimp only
  unfold gmax
  repeat' split
  all_goals omega
theorem sWorth_b {A : Int → Int} (h : okA A) {s n : Int} (hn : 0 ≤ n ∧ n ≤ A 1) : 0 ≤ sm (fun m => A (85 + m) * sServ A s m) n ∧ sm (fun m => A (85 + m) * sServ A s m) n ≤ n * 99000 := by
  have h0 := okA_0 h
  have h1 := okA_1 h
  exact sm_b (c := 99000) hn.1 (fun i i0 i1 => mulb (A := 99) (B := 1000) (okA_wo h (by omega)) (sServ_b h ⟨i0, by omega⟩ ⟨h0.1, Int.le_refl _⟩))
