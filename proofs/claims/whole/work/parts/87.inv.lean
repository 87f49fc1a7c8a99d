/-! what stays true of the rows that are kept -/
def loB (z : Int) : Int := if z = 128 ∨ z = 129 then 1 else 0
def hiB (z : Int) : Int := if z < 1 then 10 else if z < 2 then 6 else if z < 3 then 200 else if z < 4 then 4 else if z < 5 then 8 else if z < 15 then 4 else if z < 25 then 9 else if z < 91 then 99 else if z < 127 then 799 else if z < 128 then 2000 else if z < 130 then 9 else if z < 132 then 99 else if z < 332 then 255 else 9
theorem hiB_c (z : Int) : (z < 1 → hiB z = 10) ∧ (1 ≤ z → z < 2 → hiB z = 6) ∧ (2 ≤ z → z < 3 → hiB z = 200) ∧ (3 ≤ z → z < 4 → hiB z = 4) ∧ (4 ≤ z → z < 5 → hiB z = 8) ∧ (5 ≤ z → z < 15 → hiB z = 4) ∧ (15 ≤ z → z < 25 → hiB z = 9) ∧ (25 ≤ z → z < 91 → hiB z = 99) ∧ (91 ≤ z → z < 127 → hiB z = 799) ∧ (127 ≤ z → z < 128 → hiB z = 2000) ∧ (128 ≤ z → z < 130 → hiB z = 9) ∧ (130 ≤ z → z < 132 → hiB z = 99) ∧ (132 ≤ z → z < 332 → hiB z = 255) ∧ (332 ≤ z → hiB z = 9) := by
  unfold hiB
  (repeat' split) <;> omega
theorem loB_c (z : Int) : ((z = 128 ∨ z = 129) → loB z = 1) ∧ (¬ (z = 128 ∨ z = 129) → loB z = 0) := by
  unfold loB; split <;> omega
theorem okA_1i {A : Int → Int} (h : okA A) {z : Int} (q : 0 ≤ z ∧ z < 380) : loB z ≤ A z ∧ A z ≤ hiB z := by
  have b := hiB_c z
  have a := loB_c z
  have pu := okA_pu h
  by_cases c0 : z < 5
  · have p0 := okA_0 h
    have p1 := okA_1 h
    have p2 := okA_2 h
    have p3 := okA_3 h
    have p4 := okA_4 h
    rcases (show z = 0 ∨ z = 1 ∨ z = 2 ∨ z = 3 ∨ z = 4 by omega) with e | e | e | e | e <;> subst e <;> omega
  by_cases c15 : z < 15
  · have p := okA_cl h (j := z - 5) (by omega)
    rw [show (5 : Int) + (z - 5) = z by omega] at p
    omega
  by_cases c25 : z < 25
  · have p := okA_fa h (j := z - 15) (by omega)
    rw [show (15 : Int) + (z - 15) = z by omega] at p
    omega
  by_cases c85 : z < 85
  · have p := okA_le h (j := z - 25) (by omega)
    rw [show (25 : Int) + (z - 25) = z by omega] at p
    omega
  by_cases c91 : z < 91
  · have p := okA_wo h (j := z - 85) (by omega)
    rw [show (85 : Int) + (z - 85) = z by omega] at p
    omega
  by_cases c127 : z < 127
  · have p := okA_wa h (j := z - 91) (by omega)
    rw [show (91 : Int) + (z - 91) = z by omega] at p
    omega
  by_cases c132 : z < 132
  · rcases (show z = 127 ∨ z = 128 ∨ z = 129 ∨ z = 130 ∨ z = 131 by omega) with e | e | e | e | e <;> subst e <;> omega
  by_cases c332 : z < 332
  · have p := okA_te h (j := z - 132) (by omega)
    rw [show (132 : Int) + (z - 132) = z by omega] at p
    omega
  by_cases c372 : z < 372
  · have p := okA_ha h (j := z - 332) (by omega)
    rw [show (332 : Int) + (z - 332) = z by omega] at p
    omega
  by_cases c380 : z < 380
  · have p := okA_se h (j := z - 372) (by omega)
    rw [show (372 : Int) + (z - 372) = z by omega] at p
    omega
  omega
theorem okA_2i {A : Int → Int} (h : ∀ z, 0 ≤ z → z < 380 → loB z ≤ A z ∧ A z ≤ hiB z) : okA A := by
  have g : ∀ z, 0 ≤ z → z < 380 → (loB z ≤ A z ∧ A z ≤ hiB z) ∧ (((z = 128 ∨ z = 129) → loB z = 1) ∧ (¬ (z = 128 ∨ z = 129) → loB z = 0)) := fun z z0 z1 => ⟨h z z0 z1, loB_c z⟩
  refine ⟨?_, ?_, ?_, ?_, ?_, fun j j0 j1 => ?_, fun j j0 j1 => ?_, fun j j0 j1 => ?_, fun j j0 j1 => ?_, fun j j0 j1 => ?_, ?_, ?_, ?_, ?_, ?_, fun j j0 j1 => ?_, fun j j0 j1 => ?_, fun j j0 j1 => ?_⟩
  · have a := g 0 (by omega) (by omega); have b := hiB_c 0; omega
  · have a := g 1 (by omega) (by omega); have b := hiB_c 1; omega
  · have a := g 2 (by omega) (by omega); have b := hiB_c 2; omega
  · have a := g 3 (by omega) (by omega); have b := hiB_c 3; omega
  · have a := g 4 (by omega) (by omega); have b := hiB_c 4; omega
  · have a := g (5 + j) (by omega) (by omega); have b := hiB_c (5 + j); omega
  · have a := g (15 + j) (by omega) (by omega); have b := hiB_c (15 + j); omega
  · have a := g (25 + j) (by omega) (by omega); have b := hiB_c (25 + j); omega
  · have a := g (85 + j) (by omega) (by omega); have b := hiB_c (85 + j); omega
  · have a := g (91 + j) (by omega) (by omega); have b := hiB_c (91 + j); omega
  · have a := g 127 (by omega) (by omega); have b := hiB_c 127; omega
  · have a := g 128 (by omega) (by omega); have b := hiB_c 128; omega
  · have a := g 129 (by omega) (by omega); have b := hiB_c 129; omega
  · have a := g 130 (by omega) (by omega); have b := hiB_c 130; omega
  · have a := g 131 (by omega) (by omega); have b := hiB_c 131; omega
  · have a := g (132 + j) (by omega) (by omega); have b := hiB_c (132 + j); omega
  · have a := g (332 + j) (by omega) (by omega); have b := hiB_c (332 + j); omega
  · have a := g (372 + j) (by omega) (by omega); have b := hiB_c (372 + j); omega
theorem okA_u {B : Int → Int} (h : okA B) {k v : Int} (hv : 0 ≤ k → k < 380 → loB k ≤ v ∧ v ≤ hiB k) : okA (gupd B k v) := okA_2i (fun z z0 z1 => by
  unfold gupd
  by_cases c : z = k
  · rw [if_pos c, c]; exact hv (by omega) (by omega)
  · rw [if_neg c]; exact okA_1i h ⟨z0, z1⟩)
def okY (B : Int → Int) : Prop := okZ B ∧ 0 ≤ B 0 ∧ 0 ≤ B 1
theorem okY_i {A : Int → Int} (hA : okA A) (hZ : okZ A) : okY A := ⟨hZ, (okA_0 hA).1, (okA_1 hA).1⟩
theorem okZ_n {B : Int → Int} (h : okY B) {k v : Int} (q : 2 ≤ k ∧ (k < 25 ∨ 127 ≤ k)) : okY (gupd B k v) := by
  obtain ⟨h, p0, p1⟩ := h
  have e0 : gupd B k v 0 = B 0 := gupd_n (by omega)
  have e1 : gupd B k v 1 = B 1 := gupd_n (by omega)
  refine ⟨⟨fun j j0 j1 => ?_, fun j j0 j1 => ?_⟩, by rw [e0]; exact p0, by rw [e1]; exact p1⟩
  · rw [e0] at j0; rw [gupd_n (by omega)]; exact h.1 j j0 j1
  · rw [e1] at j0; rw [gupd_n (by omega)]; exact h.2 j j0 j1
theorem okZ_w {B : Int → Int} (h : okY B) {k v : Int} (q : 85 ≤ k ∧ k < 91) : okY (gupd B k v) := by
  obtain ⟨h, p0, p1⟩ := h
  have e0 : gupd B k v 0 = B 0 := gupd_n (by omega)
  have e1 : gupd B k v 1 = B 1 := gupd_n (by omega)
  refine ⟨⟨fun j j0 j1 => ?_, fun j j0 j1 => ?_⟩, by rw [e0]; exact p0, by rw [e1]; exact p1⟩
  · rw [e0] at j0; rw [gupd_n (by omega)]; exact h.1 j j0 j1
  · rw [e1] at j0; rw [gupd_n (by omega)]; exact h.2 j j0 j1
theorem okZ_0 {B : Int → Int} (h : okY B) {v : Int} (q : B 0 ≤ v) : okY (gupd B 0 v) := by
  obtain ⟨h, p0, p1⟩ := h
  have e0 : gupd B 0 v 0 = v := gupd_s
  have e1 : gupd B 0 v 1 = B 1 := gupd_n (by omega)
  refine ⟨⟨fun j j0 j1 => ?_, fun j j0 j1 => ?_⟩, by rw [e0]; omega, by rw [e1]; exact p1⟩
  · rw [e0] at j0; rw [gupd_n (by omega)]; exact h.1 j (by omega) j1
  · rw [e1] at j0; rw [gupd_n (by omega)]; exact h.2 j j0 j1
theorem okZ_1 {B : Int → Int} (h : okY B) {v : Int} (q : B 1 ≤ v) : okY (gupd B 1 v) := by
  obtain ⟨h, p0, p1⟩ := h
  have e0 : gupd B 1 v 0 = B 0 := gupd_n (by omega)
  have e1 : gupd B 1 v 1 = v := gupd_s
  refine ⟨⟨fun j j0 j1 => ?_, fun j j0 j1 => ?_⟩, by rw [e0]; exact p0, by rw [e1]; omega⟩
  · rw [e0] at j0; rw [gupd_n (by omega)]; exact h.1 j j0 j1
  · rw [e1] at j0; rw [gupd_n (by omega)]; exact h.2 j (by omega) j1
theorem okZ_l {B : Int → Int} (h : okY B) {x v : Int} (q : 0 ≤ x ∧ x < 6 * B 0) (h0 : B 0 ≤ 10) : okY (gupd B (25 + x) v) := by
  obtain ⟨h, p0, p1⟩ := h
  have e0 : gupd B (25 + x) v 0 = B 0 := gupd_n (by omega)
  have e1 : gupd B (25 + x) v 1 = B 1 := gupd_n (by omega)
  refine ⟨⟨fun j j0 j1 => ?_, fun j j0 j1 => ?_⟩, by rw [e0]; exact p0, by rw [e1]; exact p1⟩
  · rw [e0] at j0; rw [gupd_n (by omega)]; exact h.1 j j0 j1
  · rw [e1] at j0; rw [gupd_n (by omega)]; exact h.2 j j0 j1
theorem okZ_a {B : Int → Int} (h : okY B) {x v : Int} (q : 0 ≤ x ∧ x < 6 * B 1) : okY (gupd B (91 + x) v) := by
  obtain ⟨h, p0, p1⟩ := h
  have e0 : gupd B (91 + x) v 0 = B 0 := gupd_n (by omega)
  have e1 : gupd B (91 + x) v 1 = B 1 := gupd_n (by omega)
  refine ⟨⟨fun j j0 j1 => ?_, fun j j0 j1 => ?_⟩, by rw [e0]; exact p0, by rw [e1]; exact p1⟩
  · rw [e0] at j0
    by_cases c : 25 + j = 91 + x
    · exfalso; omega
    · rw [gupd_n c]; exact h.1 j j0 j1
  · rw [e1] at j0; rw [gupd_n (by omega)]; exact h.2 j j0 j1
/-- a next row, the images as they were -/
def nxS (A B : Int → Int) : Prop := okA B ∧ okZ B ∧ ∀ z, 380 ≤ z → B z = A z
theorem nxS_r {A : Int → Int} (hA : okA A) (hZ : okZ A) : nxS A A := ⟨hA, hZ, fun _ _ => rfl⟩
theorem hi_u {A B : Int → Int} {k v : Int} (h : ∀ z, 380 ≤ z → B z = A z) (q : k < 380) : ∀ z, 380 ≤ z → gupd B k v z = A z := fun z z0 => by rw [gupd_n (by omega)]; exact h z z0
theorem nx_thing {A : Int → Int} (hA : okA A) (hZ : okZ A) (ty fa : Int) : nxS A (o_thing A ty fa).2.2 := by
  have h0 := okA_0 hA
  unfold o_thing
  split
  · rename_i c
    split
    · exact nxS_r hA hZ
    · rename_i d
      refine ⟨okA_u (okA_u (okA_u hA (fun _ _ => ?_)) (fun _ _ => ?_)) (fun _ _ => ?_), (okZ_0 (okZ_n (okZ_n (okY_i hA hZ) (by omega)) (by omega)) (by rw [gupd_n (by omega), gupd_n (by omega)]; omega)).1, hi_u (hi_u (hi_u (fun _ _ => rfl) (by omega)) (by omega)) (by decide)⟩
      · have hb_ := hiB_c (5 + A 0); have la_ := loB_c (5 + A 0); omega
      · have hb_ := hiB_c (15 + A 0); have la_ := loB_c (15 + A 0); omega
      · have hb_ := hiB_c 0; have la_ := loB_c 0; omega
  · exact nxS_r hA hZ
theorem nx_level {A : Int → Int} (hA : okA A) (hZ : okZ A) (t b v : Int) : nxS A (o_level A t b v).2.2 := by
  have h0 := okA_0 hA
  unfold o_level
  split
  · rename_i c
    refine ⟨okA_u hA (fun _ _ => ?_), ?_, hi_u (fun _ _ => rfl) (by omega)⟩
    · have hb_ := hiB_c (25 + 6 * t + b); have la_ := loB_c (25 + 6 * t + b); omega
    · have q := (okZ_l (okY_i hA hZ) (x := 6 * t + b) (v := v) (by omega) (by omega)).1
      rw [show 25 + (6 * t + b) = 25 + 6 * t + b by omega] at q; exact q
  · exact nxS_r hA hZ
theorem nx_meaning {A : Int → Int} (hA : okA A) (hZ : okZ A) (w : Int) : nxS A (o_meaning A w).2.2 := by
  have h0 := okA_0 hA
  have h1 := okA_1 hA
  unfold o_meaning
  split
  · rename_i c
    split
    · exact nxS_r hA hZ
    · rename_i d
      refine ⟨okA_u (okA_u hA (fun _ _ => ?_)) (fun _ _ => ?_), (okZ_1 (okZ_w (okY_i hA hZ) (by omega)) (by rw [gupd_n (by omega)]; omega)).1, hi_u (hi_u (fun _ _ => rfl) (by omega)) (by decide)⟩
      · have hb_ := hiB_c (85 + A 1); have la_ := loB_c (85 + A 1); omega
      · have hb_ := hiB_c 1; have la_ := loB_c 1; omega
  · exact nxS_r hA hZ
theorem nx_want {A : Int → Int} (hA : okA A) (hZ : okZ A) (m b v : Int) : nxS A (o_want A m b v).2.2 := by
  have h0 := okA_0 hA
  have h1 := okA_1 hA
  unfold o_want
  split
  · rename_i c
    refine ⟨okA_u hA (fun _ _ => ?_), ?_, hi_u (fun _ _ => rfl) (by omega)⟩
    · have hb_ := hiB_c (91 + 6 * m + b); have la_ := loB_c (91 + 6 * m + b); omega
    · have q := (okZ_a (okY_i hA hZ) (x := 6 * m + b) (v := v) (by omega)).1
      rw [show 91 + (6 * m + b) = 91 + 6 * m + b by omega] at q; exact q
  · exact nxS_r hA hZ
theorem nx_put {A : Int → Int} (hA : okA A) (hZ : okZ A) (w v : Int) : nxS A (o_put A w v).2.2 := by
  unfold o_put
  split
  · rename_i c
    refine ⟨okA_u hA (fun _ _ => ?_), (okZ_n (okY_i hA hZ) (by omega)).1, hi_u (fun _ _ => rfl) (by omega)⟩
    have hb_ := hiB_c (127 + w); have la_ := loB_c (127 + w)
    have l : (w = 1 ∨ w = 2 → putLo w = 1 ∧ putHi w = 9) ∧ (w = 0 → putLo w = 0 ∧ putHi w = 2000) ∧ (3 ≤ w → putLo w = 0 ∧ putHi w = 99) := by unfold putLo putHi; (repeat' split) <;> omega
    omega
  · exact nxS_r hA hZ
theorem nx_clear {A : Int → Int} (hA : okA A) (hZ : okZ A) : nxS A (gupd A 2 0) := ⟨okA_u hA (fun _ _ => by have hb_ := hiB_c 2; have la_ := loB_c 2; omega), (okZ_n (okY_i hA hZ) (by decide)).1, hi_u (fun _ _ => rfl) (by decide)⟩
theorem nx_forget {A : Int → Int} (hA : okA A) (hZ : okZ A) : nxS A (gupd A 4 0) := ⟨okA_u hA (fun _ _ => by have hb_ := hiB_c 4; have la_ := loB_c 4; omega), (okZ_n (okY_i hA hZ) (by decide)).1, hi_u (fun _ _ => rfl) (by decide)⟩
theorem nx_type {A : Int → Int} (hA : okA A) (hZ : okZ A) (v n : Int) : nxS A (o_type A v n).2.2 := by
  have h2 := okA_2 hA
  unfold o_type
  split
  · split
    · exact nxS_r hA hZ
    · show nxS A (tyK A v n n)
      refine ⟨okA_2i (fun z z0 z1 => ?_), ⟨fun j j0 j1 => ?_, fun j j0 j1 => ?_⟩, fun z z0 => ?_⟩
      · have hb_ := hiB_c z
        have la_ := loB_c z
        have q := okA_1i hA ⟨z0, z1⟩
        have y := byt_b v (n - 1 - (z - 132 - A 2))
        unfold tyK
        split
        · omega
        · split <;> omega
      · have e : ∀ z, z < 132 → z ≠ 2 → tyK A v n n z = A z := fun z y1 y2 => by unfold tyK; rw [if_neg (by omega), if_neg y2]
        (try dsimp only at j0 ⊢)
        rw [e 0 (by decide) (by decide)] at j0
        rw [e (25 + j) (by omega) (by have := okA_0 hA; omega)]; exact hZ.1 j j0 j1
      · have e : ∀ z, z < 132 → z ≠ 2 → tyK A v n n z = A z := fun z y1 y2 => by unfold tyK; rw [if_neg (by omega), if_neg y2]
        (try dsimp only at j0 ⊢)
        rw [e 1 (by decide) (by decide)] at j0
        rw [e (91 + j) (by omega) (by have := okA_1 hA; omega)]; exact hZ.2 j j0 j1
      · unfold tyK; rw [if_neg (by omega), if_neg (by omega)]
  · exact nxS_r hA hZ
theorem nx_house {A : Int → Int} (hA : okA A) (hZ : okZ A) : nxS A (o_house A).2.2 := by
  have h3 := okA_3 hA
  unfold o_house
  split
  · exact nxS_r hA hZ
  · have e : ∀ z, z < 332 → z ≠ 3 → (fun z => if 332 + 10 * A 3 ≤ z ∧ z < 342 + 10 * A 3 then 1 else gupd A 3 (A 3 + 1) z) z = A z := fun z y1 y2 => by dsimp only; rw [if_neg (by omega), gupd_n y2]
    show nxS A (fun z => if 332 + 10 * A 3 ≤ z ∧ z < 342 + 10 * A 3 then 1 else gupd A 3 (A 3 + 1) z)
    refine ⟨okA_2i (fun z z0 z1 => ?_), ⟨fun j j0 j1 => ?_, fun j j0 j1 => ?_⟩, fun z z0 => ?_⟩
    · have hb_ := hiB_c z
      have la_ := loB_c z
      have q := okA_1i hA ⟨z0, z1⟩
      (try dsimp only)
      unfold gupd
      split
      · omega
      · split <;> omega
    · rw [e 0 (by decide) (by decide)] at j0
      rw [e (25 + j) (by omega) (by have := okA_0 hA; omega)]; exact hZ.1 j j0 j1
    · rw [e 1 (by decide) (by decide)] at j0
      rw [e (91 + j) (by omega) (by have := okA_1 hA; omega)]; exact hZ.2 j j0 j1
    · (try dsimp only); rw [if_neg (by omega), gupd_n (by omega)]
theorem nx_habit {A : Int → Int} (hA : okA A) (hZ : okZ A) (h t v : Int) : nxS A (o_habit A h t v).2.2 := by
  have h3 := okA_3 hA
  unfold o_habit
  split
  · rename_i c
    exact ⟨okA_u hA (fun _ _ => by have hb_ := hiB_c (332 + 10 * h + t); have la_ := loB_c (332 + 10 * h + t); omega), (okZ_n (okY_i hA hZ) (by omega)).1, hi_u (fun _ _ => rfl) (by omega)⟩
  · exact nxS_r hA hZ
theorem nx_see {A : Int → Int} (hA : okA A) (hZ : okZ A) (t : Int) : nxS A (o_see A t).2.2 := by
  have h4 := okA_4 hA
  unfold o_see
  split
  · rename_i c
    split
    · exact nxS_r hA hZ
    · rename_i d
      exact ⟨okA_u (okA_u hA (fun _ _ => by have hb_ := hiB_c (372 + A 4); have la_ := loB_c (372 + A 4); omega)) (fun _ _ => by have hb_ := hiB_c 4; have la_ := loB_c 4; omega), (okZ_n (okZ_n (okY_i hA hZ) (by omega)) (by decide)).1, hi_u (hi_u (fun _ _ => rfl) (by omega)) (by decide)⟩
  · exact nxS_r hA hZ
/-- the rows and the images -/
def lwI (A C1 C2 kp : Int → Int) : Prop := okA A ∧ okZ A ∧ (∀ j, 0 ≤ j → j < 2 → kp j = 0 ∨ kp j = 1) ∧ (kp 0 = 1 → okA (fun z => A (380 + z)) ∧ okZ (fun z => A (380 + z)) ∧ ∀ z, 0 ≤ z → z < 380 → C1 z = A (380 + z)) ∧ (kp 1 = 1 → okA (fun z => A (760 + z)) ∧ okZ (fun z => A (760 + z)) ∧ ∀ z, 0 ≤ z → z < 380 → C2 z = A (760 + z))
theorem okA_c {A B : Int → Int} (h : okA A) (e : ∀ z, 0 ≤ z → z < 380 → B z = A z) : okA B := okA_2i (fun z z0 z1 => by rw [e z z0 z1]; exact okA_1i h ⟨z0, z1⟩)
theorem okZ_c {A B : Int → Int} (hA : okA A) (h : okZ A) (e : ∀ z, 0 ≤ z → z < 380 → B z = A z) : okZ B := ⟨fun j j0 j1 => by
  have := okA_0 hA
  rw [e 0 (by decide) (by decide)] at j0
  rw [e (25 + j) (by omega) (by omega)]; exact h.1 j j0 j1, fun j j0 j1 => by
  have := okA_1 hA
  rw [e 1 (by decide) (by decide)] at j0
  rw [e (91 + j) (by omega) (by omega)]; exact h.2 j j0 j1⟩
theorem lwI_n {A B C1 C2 kp : Int → Int} (h : lwI A C1 C2 kp) (n : nxS A B) : lwI B C1 C2 kp := by
  obtain ⟨h1, h2, h3, h4, h5⟩ := h
  obtain ⟨n1, n2, n3⟩ := n
  refine ⟨n1, n2, h3, fun k => ?_, fun k => ?_⟩
  · obtain ⟨a, b, c⟩ := h4 k
    exact ⟨okA_c a (fun z z0 z1 => n3 _ (by omega)), okZ_c a b (fun z z0 z1 => n3 _ (by omega)), fun z z0 z1 => by rw [c z z0 z1, n3 _ (by omega)]⟩
  · obtain ⟨a, b, c⟩ := h5 k
    exact ⟨okA_c a (fun z z0 z1 => n3 _ (by omega)), okZ_c a b (fun z z0 z1 => n3 _ (by omega)), fun z z0 z1 => by rw [c z z0 z1, n3 _ (by omega)]⟩
theorem img_lo {A kp : Int → Int} {i : Int} : ∀ z, 0 ≤ z → z < 380 → (o_image A kp i).2.2.1 z = A z := fun z z0 z1 => by
  unfold o_image
  split
  · rename_i c; show cpA A 0 (1 + i) z = A z; unfold cpA; rw [if_neg (by omega)]
  · rfl
theorem lwI_i {A C1 C2 kp : Int → Int} (h : lwI A C1 C2 kp) (i : Int) : lwI (o_image A kp i).2.2.1 (x_img A C1 0 i) (x_img A C2 1 i) (o_image A kp i).2.2.2 := by
  have lo := img_lo (A := A) (kp := kp) (i := i)
  obtain ⟨h1, h2, h3, h4, h5⟩ := h
  refine ⟨okA_c h1 lo, okZ_c h1 h2 lo, ?_, ?_, ?_⟩
  · intro j j0 j1
    unfold o_image
    split
    · show gupd kp i 1 j = 0 ∨ gupd kp i 1 j = 1
      by_cases c : j = i
      · rw [c, gupd_s]; exact Or.inr rfl
      · rw [gupd_n c]; exact h3 j j0 j1
    · exact h3 j j0 j1
  · by_cases c : i = 0
    · subst c
      intro _
      rw [show o_image A kp 0 = (1, -1, cpA A 0 (1 + 0), gupd kp 0 1) from if_pos (by decide)]
      have e : ∀ z, 0 ≤ z → z < 380 → cpA A 0 (1 + 0) (380 + z) = A z := fun z z0 z1 => by unfold cpA; rw [if_pos (by omega)]; exact congrArg A (by omega)
      exact ⟨okA_c h1 e, okZ_c h1 h2 e, fun z z0 z1 => by show x_img A C1 0 0 z = cpA A 0 (1 + 0) (380 + z); rw [e z z0 z1]; unfold x_img; rw [if_pos rfl]⟩
    · intro k
      have k2 : kp 0 = 1 := by
        unfold o_image at k
        split at k
        · have k : gupd kp i 1 0 = 1 := k
          rw [gupd_n (fun e => c e.symm)] at k; exact k
        · exact k
      have e : ∀ z, 0 ≤ z → z < 380 → (o_image A kp i).2.2.1 (380 + z) = A (380 + z) := fun z z0 z1 => by
        unfold o_image
        split
        · show cpA A 0 (1 + i) (380 + z) = _; unfold cpA; rw [if_neg (by omega)]
        · rfl
      obtain ⟨a, b, d⟩ := h4 k2
      exact ⟨okA_c a e, okZ_c a b e, fun z z0 z1 => by rw [e z z0 z1]; unfold x_img; rw [if_neg c]; exact d z z0 z1⟩
  · by_cases c : i = 1
    · subst c
      intro _
      rw [show o_image A kp 1 = (1, -1, cpA A 0 (1 + 1), gupd kp 1 1) from if_pos (by decide)]
      have e : ∀ z, 0 ≤ z → z < 380 → cpA A 0 (1 + 1) (760 + z) = A z := fun z z0 z1 => by unfold cpA; rw [if_pos (by omega)]; exact congrArg A (by omega)
      exact ⟨okA_c h1 e, okZ_c h1 h2 e, fun z z0 z1 => by show x_img A C2 1 1 z = cpA A 0 (1 + 1) (760 + z); rw [e z z0 z1]; unfold x_img; rw [if_pos rfl]⟩
    · intro k
      have k2 : kp 1 = 1 := by
        unfold o_image at k
        split at k
        · have k : gupd kp i 1 1 = 1 := k
          rw [gupd_n (fun e => c e.symm)] at k; exact k
        · exact k
      have e : ∀ z, 0 ≤ z → z < 380 → (o_image A kp i).2.2.1 (760 + z) = A (760 + z) := fun z z0 z1 => by
        unfold o_image
        split
        · show cpA A 0 (1 + i) (760 + z) = _; unfold cpA; rw [if_neg (by omega)]
        · rfl
      obtain ⟨a, b, d⟩ := h5 k2
      exact ⟨okA_c a e, okZ_c a b e, fun z z0 z1 => by rw [e z z0 z1]; unfold x_img; rw [if_neg c]; exact d z z0 z1⟩
theorem from_lo {A C1 C2 kp : Int → Int} (h : lwI A C1 C2 kp) {i : Int} : ∀ z, 0 ≤ z → z < 380 → x_from A C1 C2 kp i z = (o_from A kp i).2.2 z := fun z z0 z1 => by
  obtain ⟨h1, h2, h3, h4, h5⟩ := h
  have k0 := h3 0 (by decide) (by decide)
  have k1 := h3 1 (by decide) (by decide)
  by_cases c : 0 ≤ i ∧ i ≤ 1
  · rcases (show i = 0 ∨ i = 1 by omega) with e | e
    · subst e
      by_cases k : kp 0 = 1
      · rw [show o_from A kp 0 = (1, -1, cpA A (1 + 0) 0) from (if_pos (by decide)).trans (if_neg (by omega))]
        unfold x_from cpA
        rw [if_pos ⟨rfl, k⟩, (h4 k).2.2 z z0 z1]
        show _ = if _ then _ else _
        rw [if_pos (by omega)]; exact congrArg A (by omega)
      · rw [show o_from A kp 0 = (-3, 1, A) from (if_pos (by decide)).trans (if_pos (by omega))]
        unfold x_from; rw [if_neg (by omega), if_neg (by omega)]
    · subst e
      by_cases k : kp 1 = 1
      · rw [show o_from A kp 1 = (1, -1, cpA A (1 + 1) 0) from (if_pos (by decide)).trans (if_neg (by omega))]
        unfold x_from cpA
        rw [if_neg (by omega), if_pos ⟨rfl, k⟩, (h5 k).2.2 z z0 z1]
        show _ = if _ then _ else _
        rw [if_pos (by omega)]; exact congrArg A (by omega)
      · rw [show o_from A kp 1 = (-3, 1, A) from (if_pos (by decide)).trans (if_pos (by omega))]
        unfold x_from; rw [if_neg (by omega), if_neg (by omega)]
  · rw [show o_from A kp i = (-2, 0, A) from if_neg c]
    unfold x_from; rw [if_neg (by omega), if_neg (by omega)]
theorem nx_from {A C1 C2 kp : Int → Int} (h : lwI A C1 C2 kp) (i : Int) : nxS A (o_from A kp i).2.2 := by
  have lo := from_lo h (i := i)
  obtain ⟨h1, h2, h3, h4, h5⟩ := h
  have hiz : ∀ z, 380 ≤ z → (o_from A kp i).2.2 z = A z := fun z z0 => by
    unfold o_from
    split
    · split
      · rfl
      · show cpA A (1 + i) 0 z = A z; unfold cpA; rw [if_neg (by omega)]
    · rfl
  by_cases c0 : i = 0 ∧ kp 0 = 1
  · obtain ⟨a, b, d⟩ := h4 c0.2
    have e : ∀ z, 0 ≤ z → z < 380 → (o_from A kp i).2.2 z = A (380 + z) := fun z z0 z1 => by rw [← lo z z0 z1]; unfold x_from; rw [if_pos c0]; exact d z z0 z1
    exact ⟨okA_c a e, okZ_c a b e, hiz⟩
  · by_cases c1 : i = 1 ∧ kp 1 = 1
    · obtain ⟨a, b, d⟩ := h5 c1.2
      have e : ∀ z, 0 ≤ z → z < 380 → (o_from A kp i).2.2 z = A (760 + z) := fun z z0 z1 => by rw [← lo z z0 z1]; unfold x_from; rw [if_neg c0, if_pos c1]; exact d z z0 z1
      exact ⟨okA_c a e, okZ_c a b e, hiz⟩
    · have e : ∀ z, 0 ≤ z → z < 380 → (o_from A kp i).2.2 z = A z := fun z z0 z1 => by rw [← lo z z0 z1]; unfold x_from; rw [if_neg c0, if_neg c1]
      exact ⟨okA_c h1 e, okZ_c h1 h2 e, hiz⟩
theorem A0_c (z : Int) : (z = 127 → A0 z = 500) ∧ (z = 128 ∨ z = 129 → A0 z = 3) ∧ (z = 130 → A0 z = 20) ∧ (z = 131 → A0 z = 30) ∧ (z < 127 ∨ 131 < z → A0 z = 0) := by
  unfold A0; (repeat' split) <;> omega
theorem okA_A0 : okA A0 := okA_2i (fun z z0 z1 => by
  have c := A0_c z
  have hb_ := hiB_c z
  have la_ := loB_c z
  omega)
theorem okZ_A0 : okZ A0 := ⟨fun j j0 j1 => by
  have a := A0_c 0
  have b := A0_c (25 + j)
  omega, fun j j0 j1 => by
  have a := A0_c 1
  have b := A0_c (91 + j)
  omega⟩
theorem lwI_0 : lwI A0 A0 A0 Z0 := ⟨okA_A0, okZ_A0, fun j _ _ => Or.inl rfl, fun c => absurd c (by decide), fun c => absurd c (by decide)⟩
