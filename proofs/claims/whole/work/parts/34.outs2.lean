/-! more of what each call answers -/
theorem fil_fun {o c : Int} {F e g : Int → Int} (h : fil o c c F e g) : g = fun z => if o ≤ z ∧ z < o + c then F (z - o) else e z := by
  funext z
  by_cases q : o ≤ z ∧ z < o + c
  · rw [if_pos q]
    have := h.1 (z - o) (by omega) (by omega)
    rw [show o + (z - o) = z by omega] at this
    exact this
  · rw [if_neg q]; exact h.2 z (by omega)
theorem house_eq {A g : Int → Int} (hA : 0 ≤ A 3) (h : fil (332 + 10 * A 3) 10 10 (fun _ => 1) A g) : gupd g 3 (A 3 + 1) = fun z => if 332 + 10 * A 3 ≤ z ∧ z < 342 + 10 * A 3 then 1 else gupd A 3 (A 3 + 1) z := by
  rw [fil_fun h]
  funext z
  unfold gupd
  by_cases q : z = 3
  · rw [if_pos q, if_neg (by omega), if_pos q]
  · rw [if_neg q, if_neg q]
    dsimp only
    by_cases q2 : 332 + 10 * A 3 ≤ z ∧ z < 332 + 10 * A 3 + 10
    · rw [if_pos q2, if_pos (by omega)]
    · rw [if_neg q2, if_neg (by omega)]
/-- a film copied over another one -/
def cpA (A : Int → Int) (f t : Int) : Int → Int := fun z => if 380 * t ≤ z ∧ z < 380 * t + 380 then A (380 * f + (z - 380 * t)) else A z
def o_image (A kp : Int → Int) (i : Int) : Int × Int × (Int → Int) × (Int → Int) := if 0 ≤ i ∧ i ≤ 1 then (1, -1, cpA A 0 (1 + i), gupd kp i 1) else (-2, 0, A, kp)
def o_from (A kp : Int → Int) (i : Int) : Int × Int × (Int → Int) := if 0 ≤ i ∧ i ≤ 1 then (if kp i = 0 then (-3, 1, A) else (1, -1, cpA A (1 + i) 0)) else (-2, 0, A)
theorem sFrom_s {f l b s t n : Int} (h : 0 ≤ n) : sFrom f l b s t (n + 1) = if t < sLag f l b s n then n + 1 else sFrom f l b s t n := itr_s h
theorem sFrom_0 {f l b s t : Int} : sFrom f l b s t 0 = 0 := rfl
/-- a fact that arithmetic needn't look into -/
def hid (P : Prop) : Prop := P
theorem sBest_f {A : Int → Int} (h : okA A) {m f : Int} (hf : f = sBest A m) (h1 : f ≠ -1) : 0 ≤ f ∧ f < A 0 := by
  have h0 := okA_0 h
  have q := sBest_b (A := A) (m := m) h0.1
  have q2 : A 0 = 0 → f = -1 := by intro z; rw [hf]; unfold sBest; rw [z]; rfl
  have q3 : -1 ≤ f ∧ f < max (A 0) 1 ∧ (0 < A 0 → 0 ≤ f ∧ f < A 0) := by rw [hf]; exact q
  omega
/-- the flag of WORDS, so far -/
def wfl (A : Int → Int) (f m j w : Int) : Prop := w = 0 ↔ 1 ≤ sTot A f 0 ∧ ∀ q, 0 ≤ q → q < j → q ≠ m → sLike A f q 0 < sLike A f m 0
theorem wfl_0 {A : Int → Int} {f m : Int} (h : sTot A f 0 ≠ 0) (h0 : 0 ≤ sTot A f 0) : wfl A f m 0 0 := ⟨fun _ => ⟨by omega, all_0⟩, fun _ => rfl⟩
theorem wfl_1 {A : Int → Int} {f m : Int} (h : sTot A f 0 = 0) : wfl A f m 0 1 := ⟨fun h1 => by omega, fun h1 => by omega⟩
theorem wfl_up {A : Int → Int} {f m j w : Int} (h : wfl A f m j w) (hw : w ≠ 0) (hj : 0 ≤ j) : wfl A f m (j + 1) 1 := ⟨fun h1 => by omega, fun h1 => absurd (h.mpr ⟨h1.1, fun q q0 q1 => h1.2 q q0 (by omega)⟩) hw⟩
theorem wfl_eq {A : Int → Int} {f m j w : Int} (h : wfl A f m j w) (hw : w = 0) (hj : 0 ≤ j) (q : j = m ∨ sLike A f j 0 < sLike A f m 0) : wfl A f m (j + 1) 0 := by
  have h1 := h.mp hw
  exact ⟨fun _ => ⟨h1.1, all_s (P := fun q => q ≠ m → sLike A f q 0 < sLike A f m 0) h1.2 (fun hne => q.elim (fun e => absurd e hne) id)⟩, fun _ => rfl⟩
theorem wfl_no {A : Int → Int} {f m j : Int} (hj : 0 ≤ j) (q : j ≠ m) (q2 : sLike A f m 0 ≤ sLike A f j 0) : wfl A f m (j + 1) 1 := ⟨fun h1 => by omega, fun h1 => by have := h1.2 j hj (by omega) q; omega⟩
theorem wfl_c {A : Int → Int} {f m w : Int} (hf : f = sBest A m) (h1 : f ≠ -1) (h : wfl A f m (A 1) w) : w = 0 ↔ sClr A m = 1 := by
  have e : clearP A m ↔ w = 0 := by
    unfold clearP
    rw [← hf]
    exact ⟨fun c => h.mpr c.2, fun c => ⟨h1, h.mp c⟩⟩
  rcases Classical.em (clearP A m) with c | c
  · rw [sClr_t c]; exact ⟨fun _ => rfl, fun _ => e.mp c⟩
  · rw [sClr_f c]; exact ⟨fun z => absurd (e.mpr z) c, fun z => by omega⟩
theorem wfl_n {A : Int → Int} {m : Int} (h : sBest A m = -1) : sClr A m = 0 := sClr_f (fun c => c.1 h)
/-- the best of three so far, with the model's own first least -/
def b4 (A : Int → Int) (m x y c : Int) : Prop := x = (itr (sB3 A m) (0, 1000000) c).1 ∧ (y = (itr (sB3 A m) (0, 1000000) c).2 ∨ ((itr (sB3 A m) (0, 1000000) c).2 = 1000000 ∧ y = 10000000))
theorem b4_0 {A : Int → Int} {m : Int} : b4 A m 0 10000000 0 := ⟨rfl, Or.inr ⟨rfl, rfl⟩⟩
theorem b4_yes {A : Int → Int} {m x y c i j k w : Int} (h : b4 A m x y c) (hi : i = c / 100) (hj : j = c / 10 % 10) (hk : k = c % 10) (hc : 0 ≤ c) (q1 : i < j) (q2 : j < k) (q3 : k < A 0) (hf : 0 ≤ sFar3 A i j k m ∧ sFar3 A i j k m ≤ 4794) (hw : w = sFar3 A i j k m) (hwy : w < y) : b4 A m c w (c + 1) := by
  unfold b4 at h ⊢
  rw [itr_s hc]
  generalize itr (sB3 A m) (0, 1000000) c = P at h ⊢
  have e : sB3 A m c P = (c, w) := by
    unfold sB3
    rw [← hi, ← hj, ← hk, if_pos ⟨q1, q2, q3⟩, ← hw]
    refine if_pos ?_
    rcases h.2 with z | z
    · rw [← z]; exact hwy
    · rw [z.1]; omega
  rw [e]
  exact ⟨rfl, Or.inl rfl⟩
theorem b4_no {A : Int → Int} {m x y c i j k w : Int} (h : b4 A m x y c) (hi : i = c / 100) (hj : j = c / 10 % 10) (hk : k = c % 10) (hc : 0 ≤ c) (q1 : i < j) (q2 : j < k) (q3 : k < A 0) (hf : 0 ≤ sFar3 A i j k m ∧ sFar3 A i j k m ≤ 4794) (hw : w = sFar3 A i j k m) (hwy : y ≤ w) : b4 A m x y (c + 1) := by
  unfold b4 at h ⊢
  rw [itr_s hc]
  generalize itr (sB3 A m) (0, 1000000) c = P at h ⊢
  have hy : y = P.2 := h.2.elim id (fun z => by omega)
  have e : sB3 A m c P = P := by
    unfold sB3
    rw [← hi, ← hj, ← hk, if_pos ⟨q1, q2, q3⟩, ← hw]
    exact if_neg (by rw [← hy]; omega)
  rw [e]
  exact h
theorem b4_out {A : Int → Int} {m x y c i j k : Int} (h : b4 A m x y c) (hi : i = c / 100) (hj : j = c / 10 % 10) (hk : k = c % 10) (hc : 0 ≤ c) (q : j ≤ i ∨ k ≤ j ∨ A 0 ≤ k) : b4 A m x y (c + 1) := by
  unfold b4 at h ⊢
  rw [itr_s hc]
  generalize itr (sB3 A m) (0, 1000000) c = P at h ⊢
  have e : sB3 A m c P = P := by
    unfold sB3
    exact if_neg (by rw [← hi, ← hj, ← hk]; omega)
  rw [e]
  exact h
