/-! the reel: its text, token by token -/
def rcl (c : Int) : Int := if c = 32 then 4 else if 97 ≤ c ∧ c ≤ 122 then 1 else if 48 ≤ c ∧ c ≤ 57 then 2 else 3
theorem rcl_c (c : Int) : (c = 32 ∧ rcl c = 4) ∨ ((97 ≤ c ∧ c ≤ 122) ∧ rcl c = 1) ∨ ((48 ≤ c ∧ c ≤ 57) ∧ rcl c = 2) ∨ ((c ≠ 32 ∧ (c < 97 ∨ 122 < c) ∧ (c < 48 ∨ 57 < c)) ∧ rcl c = 3) := by
  unfold rcl; (repeat' split) <;> omega
/-- the first place from a on that is of another kind, or the text's end -/
def rnN (A : Int → Int) (k : Int) : Nat → Int → Int
  | 0, a => a
  | m + 1, a => if a < A 2 ∧ rcl (A (132 + a)) = k then rnN A k m (a + 1) else a
def rnE (A : Int → Int) (k a : Int) : Int := rnN A k (A 2 - a).toNat a
theorem rnE_y {A : Int → Int} {k a : Int} (h : a < A 2) (q : rcl (A (132 + a)) = k) : rnE A k a = rnE A k (a + 1) := by
  unfold rnE
  rw [show (A 2 - a).toNat = (A 2 - (a + 1)).toNat + 1 by omega]
  exact if_pos ⟨h, q⟩
theorem rnE_n {A : Int → Int} {k a : Int} (h : a < A 2 → rcl (A (132 + a)) ≠ k) : rnE A k a = a := by
  unfold rnE
  cases (A 2 - a).toNat with
  | zero => rfl
  | succ m => exact if_neg (fun c => h c.1 c.2)
theorem rnN_b {A : Int → Int} {k : Int} : ∀ (m : Nat) (a : Int), a ≤ A 2 → a ≤ rnN A k m a ∧ rnN A k m a ≤ A 2 := by
  intro m
  induction m with
  | zero => intro a h; exact ⟨Int.le_refl _, h⟩
  | succ m ih =>
    intro a h
    unfold rnN
    split
    · rename_i c
      have := ih (a + 1) (by omega)
      omega
    · omega
theorem rnE_b {A : Int → Int} {k a : Int} (h : a ≤ A 2) : a ≤ rnE A k a ∧ rnE A k a ≤ A 2 := rnN_b _ a h
/-- behind a token's last byte -/
def tkF (A : Int → Int) (a i : Int) : Int := if rcl (A (132 + a)) = 1 then rnE A 1 i else if rcl (A (132 + a)) = 2 then rnE A 2 i else i
def tkE (A : Int → Int) (a : Int) : Int := tkF A a (a + 1)
theorem tkF_y {A : Int → Int} {a i : Int} (h : i < A 2) (m : (rcl (A (132 + a)) = 1 ∧ rcl (A (132 + i)) = 1) ∨ (rcl (A (132 + a)) = 2 ∧ rcl (A (132 + i)) = 2)) : tkF A a i = tkF A a (i + 1) := by
  unfold tkF
  rcases m with m | m
  · rw [if_pos m.1, if_pos m.1]; exact rnE_y h m.2
  · have z : ¬ rcl (A (132 + a)) = 1 := by omega
    rw [if_neg z, if_neg z, if_pos m.1, if_pos m.1]; exact rnE_y h m.2
theorem tkF_n {A : Int → Int} {a i : Int} (m : i < A 2 → ¬ ((rcl (A (132 + a)) = 1 ∧ rcl (A (132 + i)) = 1) ∨ (rcl (A (132 + a)) = 2 ∧ rcl (A (132 + i)) = 2))) : tkF A a i = i := by
  unfold tkF
  split
  · rename_i c; exact rnE_n (fun h d => m h (Or.inl ⟨c, d⟩))
  · split
    · rename_i c; exact rnE_n (fun h d => m h (Or.inr ⟨c, d⟩))
    · rfl
theorem tkE_b {A : Int → Int} {a : Int} (h : a < A 2) : a + 1 ≤ tkE A a ∧ tkE A a ≤ A 2 := by
  have p := rnE_b (A := A) (k := 1) (a := a + 1) (by omega)
  have q := rnE_b (A := A) (k := 2) (a := a + 1) (by omega)
  unfold tkE tkF; (repeat' split) <;> omega
def atB (A : Int → Int) (a e : Int) : Int := gB (e - a = 2 ∧ A (132 + a) = 97 ∧ A (133 + a) = 116)
def farB (A : Int → Int) (a e : Int) : Int := gB (e - a = 3 ∧ A (132 + a) = 102 ∧ A (133 + a) = 97 ∧ A (134 + a) = 114)
def nmv (A : Int → Int) (a e : Int) : Int := itr (fun j x => 10 * x + A (132 + (a + j)) - 48) 0 (e - a)
theorem nmv_s {A : Int → Int} {a e : Int} (h : a ≤ e) : nmv A a (e + 1) = 10 * nmv A a e + A (132 + e) - 48 := by
  unfold nmv
  rw [show e + 1 - a = e - a + 1 by omega, itr_s (by omega)]
  (try dsimp only)
  rw [show a + (e - a) = e by omega]
theorem nmv_0 {A : Int → Int} {a : Int} : nmv A a a = 0 := by unfold nmv; rw [show a - a = 0 by omega]; rfl
theorem gB_1 {P : Prop} [Decidable P] : gB P = gB (gB P = 1) := by
  by_cases h : P
  · rw [gB_t h]; rfl
  · rw [gB_f h]; rfl
theorem gB_10 {P : Prop} [Decidable P] : gB P = 1 ↔ P := by
  by_cases h : P
  · rw [gB_t h]; exact ⟨fun _ => h, fun _ => rfl⟩
  · rw [gB_f h]; exact ⟨fun c => absurd c (by decide), fun c => absurd c h⟩
/-- a number is read: whether it can stand here, what is awaited then, how far, how many places, the places -/
def tkM (th aw far pc : Int) (P : Int → Int) (v : Int) : Int × Int × Int × Int × (Int → Int) :=
  if aw = 1 then (gB ((if pc = 0 then 0 else P (pc - 1)) ≤ v ∧ v ≤ 999), 2, far, pc, gupd P pc v)
  else if aw = 2 then (gB (0 ≤ v ∧ v ≤ th - 1), 3, far, pc, gupd P (8 + pc) v)
  else if aw = 3 then (gB (0 ≤ v ∧ v ≤ 9), 4, far, pc, gupd P (16 + pc) v)
  else if aw = 4 then (if 0 ≤ v ∧ v ≤ 9 then (1, 6, far, pc + 1, gupd (gupd P (24 + pc) v) (32 + pc) far) else (0, 5, far, pc, gupd P (24 + pc) v))
  else if aw = 5 then (gB (v ≤ 9), 6, v, pc, P)
  else (0, aw, far, pc, P)
/-- a word -/
def wkB (A : Int → Int) (a e aw pc : Int) : Int := if aw = 0 then (if atB A a e = 1 then gB (pc < 8) else farB A a e) else 0
def wkW (A : Int → Int) (a e aw : Int) : Int := if aw = 0 then (if atB A a e = 1 then 1 else 5) else aw
/-- a token -/
def tkA (A : Int → Int) (a e aw far pc : Int) (P : Int → Int) : Int × Int × Int × Int × (Int → Int) :=
  if rcl (A (132 + a)) = 1 then (wkB A a e aw pc, wkW A a e aw, far, pc, P)
  else if rcl (A (132 + a)) = 2 then (if e - a ≤ 3 then tkM (A 0) aw far pc P (nmv A a e) else (0, aw, far, pc, P))
  else if A (132 + a) = 59 ∧ aw = 6 then (1, 0, far, pc, P) else (0, aw, far, pc, P)
/-- the text from a place on: where it is at fault (-1: nowhere), how many places, the places -/
def rdN (A : Int → Int) : Nat → Int → Int → Int → Int → (Int → Int) → Int × Int × (Int → Int)
  | 0, _, aw, _, pc, P => (if aw = 0 then -1 else A 2, pc, P)
  | m + 1, a, aw, far, pc, P => if a < A 2 then (if A (132 + a) = 32 then rdN A m (a + 1) aw far pc P else (if (tkA A a (tkE A a) aw far pc P).1 = 1 then rdN A m (tkE A a) (tkA A a (tkE A a) aw far pc P).2.1 (tkA A a (tkE A a) aw far pc P).2.2.1 (tkA A a (tkE A a) aw far pc P).2.2.2.1 (tkA A a (tkE A a) aw far pc P).2.2.2.2 else (a, (tkA A a (tkE A a) aw far pc P).2.2.2.1, (tkA A a (tkE A a) aw far pc P).2.2.2.2))) else (if aw = 0 then -1 else A 2, pc, P)
theorem rdN_f {A : Int → Int} : ∀ (m k : Nat) (a aw far pc : Int) (P : Int → Int), A 2 - a ≤ m → A 2 - a ≤ k → rdN A m a aw far pc P = rdN A k a aw far pc P := by
  intro m
  induction m with
  | zero =>
    intro k a aw far pc P h0 h1
    cases k with
    | zero => rfl
    | succ k => exact (if_neg (by omega)).symm
  | succ m ih =>
    intro k a aw far pc P h0 h1
    cases k with
    | zero => exact if_neg (by omega)
    | succ k =>
      unfold rdN
      by_cases c : a < A 2
      · rw [if_pos c, if_pos c]
        by_cases b : A (132 + a) = 32
        · rw [if_pos b, if_pos b]; exact ih k _ _ _ _ _ (by omega) (by omega)
        · rw [if_neg b, if_neg b]
          have q := tkE_b c
          by_cases d : (tkA A a (tkE A a) aw far pc P).1 = 1
          · rw [if_pos d, if_pos d]; exact ih k _ _ _ _ _ (by omega) (by omega)
          · rw [if_neg d, if_neg d]
      · rw [if_neg c, if_neg c]
def rd (A : Int → Int) (a aw far pc : Int) (P : Int → Int) : Int × Int × (Int → Int) := rdN A (A 2 - a).toNat a aw far pc P
theorem rd_1 {A : Int → Int} {a aw far pc : Int} {P : Int → Int} (c : a < A 2) : rd A a aw far pc P = rdN A ((A 2 - a - 1).toNat + 1) a aw far pc P := rdN_f _ _ _ _ _ _ _ (by omega) (by omega)
theorem rd_e {A : Int → Int} {a aw far pc : Int} {P : Int → Int} (c : A 2 ≤ a) : rd A a aw far pc P = (if aw = 0 then -1 else A 2, pc, P) := by
  unfold rd; rw [show (A 2 - a).toNat = 0 by omega]; rfl
theorem rd_b {A : Int → Int} {a aw far pc : Int} {P : Int → Int} (c : a < A 2) (b : A (132 + a) = 32) : rd A a aw far pc P = rd A (a + 1) aw far pc P := by
  rw [rd_1 c]; unfold rdN; rw [if_pos c, if_pos b]; exact rdN_f _ _ _ _ _ _ _ (by omega) (by omega)
theorem rd_y {A : Int → Int} {a aw far pc : Int} {P : Int → Int} (c : a < A 2) (b : A (132 + a) ≠ 32) (d : (tkA A a (tkE A a) aw far pc P).1 = 1) : rd A a aw far pc P = rd A (tkE A a) (tkA A a (tkE A a) aw far pc P).2.1 (tkA A a (tkE A a) aw far pc P).2.2.1 (tkA A a (tkE A a) aw far pc P).2.2.2.1 (tkA A a (tkE A a) aw far pc P).2.2.2.2 := by
  rw [rd_1 c]; unfold rdN; rw [if_pos c, if_neg b, if_pos d]
  have q := tkE_b c
  exact rdN_f _ _ _ _ _ _ _ (by omega) (by omega)
theorem rd_n {A : Int → Int} {a aw far pc : Int} {P : Int → Int} (c : a < A 2) (b : A (132 + a) ≠ 32) (d : (tkA A a (tkE A a) aw far pc P).1 ≠ 1) : rd A a aw far pc P = (a, (tkA A a (tkE A a) aw far pc P).2.2.2.1, (tkA A a (tkE A a) aw far pc P).2.2.2.2) := by
  rw [rd_1 c]; unfold rdN; rw [if_pos c, if_neg b, if_neg d]
/-- a place's numbers lie where they may -/
def rgR (th : Int) (P : Int → Int) (j : Int) : Prop := (0 ≤ P j ∧ P j ≤ 999) ∧ (0 ≤ P (8 + j) ∧ P (8 + j) < th) ∧ (0 ≤ P (16 + j) ∧ P (16 + j) ≤ 9) ∧ (0 ≤ P (24 + j) ∧ P (24 + j) ≤ 9) ∧ 0 ≤ P (32 + j) ∧ P (32 + j) ≤ 9
def okR (th aw far pc : Int) (P : Int → Int) : Prop := ((0 ≤ aw ∧ aw ≤ 6) ∧ (0 ≤ pc ∧ pc ≤ 8) ∧ (0 ≤ far ∧ far ≤ 9) ∧ (1 ≤ aw → aw ≤ 4 → pc < 8)) ∧ (∀ j, 0 ≤ j → j < pc → rgR th P j) ∧ (2 ≤ aw → aw ≤ 4 → 0 ≤ P pc ∧ P pc ≤ 999) ∧ (3 ≤ aw → aw ≤ 4 → 0 ≤ P (8 + pc) ∧ P (8 + pc) < th) ∧ (4 ≤ aw → aw ≤ 4 → 0 ≤ P (16 + pc) ∧ P (16 + pc) ≤ 9)
theorem rgR_u {th : Int} {P : Int → Int} {j k v : Int} (h : rgR th P j) (q : k ≠ j ∧ k ≠ 8 + j ∧ k ≠ 16 + j ∧ k ≠ 24 + j ∧ k ≠ 32 + j) : rgR th (gupd P k v) j := by
  unfold rgR at h ⊢
  rw [gupd_n (by omega), gupd_n (by omega), gupd_n (by omega), gupd_n (by omega), gupd_n (by omega)]
  exact h
theorem okR_M {th aw far pc v : Int} {P : Int → Int} (h : okR th aw far pc P) (hv : 0 ≤ v) (d : (tkM th aw far pc P v).1 = 1) : okR th (tkM th aw far pc P v).2.1 (tkM th aw far pc P v).2.2.1 (tkM th aw far pc P v).2.2.2.1 (tkM th aw far pc P v).2.2.2.2 := by
  obtain ⟨⟨h1, h2, h3, h4⟩, h5, h6, h7, h8⟩ := h
  unfold tkM at d ⊢
  by_cases c1 : aw = 1
  · rw [if_pos c1] at d ⊢
    have d := gB_10.mp d
    have hp : 0 ≤ (if pc = 0 then 0 else P (pc - 1)) := by
      split
      · omega
      · exact (h5 (pc - 1) (by omega) (by omega)).1.1
    show okR th 2 far pc (gupd P pc v)
    exact ⟨⟨by decide, h2, h3, fun _ _ => h4 (by omega) (by omega)⟩, fun j j0 j1 => rgR_u (h5 j j0 j1) (by have := h4 (by omega) (by omega); omega), fun _ _ => by rw [gupd_s]; omega, fun c _ => absurd c (by decide), fun c _ => absurd c (by decide)⟩
  · rw [if_neg c1] at d ⊢
    by_cases c2 : aw = 2
    · rw [if_pos c2] at d ⊢
      have d := gB_10.mp d
      have h4 := h4 (by omega) (by omega)
      show okR th 3 far pc (gupd P (8 + pc) v)
      exact ⟨⟨by decide, h2, h3, fun _ _ => h4⟩, fun j j0 j1 => rgR_u (h5 j j0 j1) (by omega), fun _ _ => by rw [gupd_n (by omega)]; exact h6 (by omega) (by omega), fun _ _ => by rw [gupd_s]; omega, fun c _ => absurd c (by decide)⟩
    · rw [if_neg c2] at d ⊢
      by_cases c3 : aw = 3
      · rw [if_pos c3] at d ⊢
        have d := gB_10.mp d
        have h4 := h4 (by omega) (by omega)
        show okR th 4 far pc (gupd P (16 + pc) v)
        exact ⟨⟨by decide, h2, h3, fun _ _ => h4⟩, fun j j0 j1 => rgR_u (h5 j j0 j1) (by omega), fun _ _ => by rw [gupd_n (by omega)]; exact h6 (by omega) (by omega), fun _ _ => by rw [gupd_n (by omega)]; exact h7 (by omega) (by omega), fun _ _ => by rw [gupd_s]; omega⟩
      · rw [if_neg c3] at d ⊢
        by_cases c4 : aw = 4
        · rw [if_pos c4] at d ⊢
          have h4 := h4 (by omega) (by omega)
          by_cases c : 0 ≤ v ∧ v ≤ 9
          · rw [if_pos c]
            show okR th 6 far (pc + 1) (gupd (gupd P (24 + pc) v) (32 + pc) far)
            refine ⟨⟨by decide, by omega, h3, fun _ c => absurd c (by decide)⟩, fun j j0 j1 => ?_, fun _ c => absurd c (by decide), fun _ c => absurd c (by decide), fun _ c => absurd c (by decide)⟩
            rcases Int.lt_or_le j pc with z | z
            · exact rgR_u (rgR_u (h5 j j0 z) (by omega)) (by omega)
            · have e : j = pc := by omega
              subst e
              have a1 := h6 (by omega) (by omega)
              have a2 := h7 (by omega) (by omega)
              have a3 := h8 (by omega) (by omega)
              unfold rgR
              rw [gupd_n (by omega), gupd_n (by omega), gupd_n (by omega), gupd_n (by omega), gupd_n (by omega), gupd_n (by omega), gupd_n (k := 32 + j) (j := 24 + j) (by omega), gupd_s, gupd_s]
              exact ⟨a1, a2, a3, c, h3⟩
          · rw [if_neg c] at d; (try dsimp only at d); omega
        · rw [if_neg c4] at d ⊢
          by_cases c5 : aw = 5
          · rw [if_pos c5] at d ⊢
            have d := gB_10.mp d
            show okR th 6 v pc P
            exact ⟨⟨by decide, h2, by omega, fun _ c => absurd c (by decide)⟩, h5, fun _ c => absurd c (by decide), fun _ c => absurd c (by decide), fun _ c => absurd c (by decide)⟩
          · rw [if_neg c5] at d; (try dsimp only at d); omega
theorem nmv_b {A : Int → Int} {a e : Int} (h : ∀ j, a ≤ j → j < e → 48 ≤ A (132 + j) ∧ A (132 + j) ≤ 57) (he : e ≤ a + 3) : 0 ≤ nmv A a e ∧ nmv A a e ≤ 999 := by
  rcases Int.lt_or_le e (a + 1) with z | z
  · have : nmv A a e = 0 := by unfold nmv itr; rw [show (e - a).toNat = 0 by omega]; rfl
    omega
  · have h0 := h a (by omega) (by omega)
    have e1 := nmv_s (A := A) (a := a) (e := a) (by omega)
    rw [nmv_0] at e1
    rcases Int.lt_or_le e (a + 2) with z1 | z1
    · rw [show e = a + 1 by omega, e1]; omega
    · have h1 := h (a + 1) (by omega) (by omega)
      have e2 := nmv_s (A := A) (a := a) (e := a + 1) (by omega)
      rcases Int.lt_or_le e (a + 3) with z2 | z2
      · rw [show e = a + 1 + 1 by omega, e2, e1]; omega
      · have h2 := h (a + 1 + 1) (by omega) (by omega)
        have e3 := nmv_s (A := A) (a := a) (e := a + 1 + 1) (by omega)
        rw [show e = a + 1 + 1 + 1 by omega, e3, e2, e1]; omega
theorem rnN_k {A : Int → Int} {k : Int} : ∀ (m : Nat) (a : Int), ∀ j, a ≤ j → j < rnN A k m a → rcl (A (132 + j)) = k := by
  intro m
  induction m with
  | zero => intro a j h0 h1; exact absurd h1 (by show ¬ j < a; omega)
  | succ m ih =>
    intro a j h0 h1
    unfold rnN at h1
    split at h1
    · rename_i c
      rcases Int.lt_or_le a j with z | z
      · exact ih (a + 1) j (by omega) h1
      · rw [show j = a by omega]; exact c.2
    · omega
theorem tkE_2 {A : Int → Int} {a : Int} (h : rcl (A (132 + a)) = 2) : ∀ j, a ≤ j → j < tkE A a → 48 ≤ A (132 + j) ∧ A (132 + j) ≤ 57 := by
  intro j h0 h1
  unfold tkE tkF at h1
  rw [if_neg (by omega), if_pos h] at h1
  have e : rcl (A (132 + j)) = 2 := by
    rcases Int.lt_or_le a j with z | z
    · exact rnN_k _ (a + 1) j (by omega) h1
    · rw [show j = a by omega]; exact h
  have := rcl_c (A (132 + j))
  omega
theorem okR_A {A : Int → Int} {a aw far pc : Int} {P : Int → Int} (h : okR (A 0) aw far pc P) (d : (tkA A a (tkE A a) aw far pc P).1 = 1) : okR (A 0) (tkA A a (tkE A a) aw far pc P).2.1 (tkA A a (tkE A a) aw far pc P).2.2.1 (tkA A a (tkE A a) aw far pc P).2.2.2.1 (tkA A a (tkE A a) aw far pc P).2.2.2.2 := by
  have hh := h
  obtain ⟨⟨h1, h2, h3, h4⟩, h5, h6, h7, h8⟩ := h
  unfold tkA at d ⊢
  by_cases c1 : rcl (A (132 + a)) = 1
  · rw [if_pos c1] at d ⊢
    unfold wkB at d
    unfold wkW
    dsimp only at d
    by_cases c : aw = 0
    · rw [if_pos c] at d ⊢
      by_cases e : atB A a (tkE A a) = 1
      · rw [if_pos e] at d ⊢
        have d := gB_10.mp d
        show okR (A 0) 1 far pc P
        exact ⟨⟨by decide, h2, h3, fun _ _ => d⟩, h5, fun c _ => absurd c (by decide), fun c _ => absurd c (by decide), fun c _ => absurd c (by decide)⟩
      · rw [if_neg e] at d ⊢
        show okR (A 0) 5 far pc P
        exact ⟨⟨by decide, h2, h3, fun _ c => absurd c (by decide)⟩, h5, fun _ c => absurd c (by decide), fun _ c => absurd c (by decide), fun _ c => absurd c (by decide)⟩
    · rw [if_neg c] at d; (try dsimp only at d); omega
  · rw [if_neg c1] at d ⊢
    by_cases c2 : rcl (A (132 + a)) = 2
    · rw [if_pos c2] at d ⊢
      by_cases e : tkE A a - a ≤ 3
      · rw [if_pos e] at d ⊢
        exact okR_M hh (nmv_b (tkE_2 c2) (by omega)).1 d
      · rw [if_neg e] at d; (try dsimp only at d); omega
    · rw [if_neg c2] at d ⊢
      by_cases c : A (132 + a) = 59 ∧ aw = 6
      · rw [if_pos c] at d ⊢
        show okR (A 0) 0 far pc P
        exact ⟨⟨by decide, h2, h3, fun c _ => absurd c (by decide)⟩, h5, fun c _ => absurd c (by decide), fun c _ => absurd c (by decide), fun c _ => absurd c (by decide)⟩
      · rw [if_neg c] at d; (try dsimp only at d); omega
/-- two rows agree on a place -/
def ag5 (P Q : Int → Int) (j : Int) : Prop := P j = Q j ∧ P (8 + j) = Q (8 + j) ∧ P (16 + j) = Q (16 + j) ∧ P (24 + j) = Q (24 + j) ∧ P (32 + j) = Q (32 + j)
theorem gupd_ag {P Q : Int → Int} {k v x : Int} (h : P x = Q x) : gupd P k v x = gupd Q k v x := by
  unfold gupd; split
  · rfl
  · exact h
theorem gupd_as {P Q : Int → Int} {k v x : Int} (h : k = x) : gupd P k v x = gupd Q k v x := by rw [h, gupd_s, gupd_s]
theorem ag5_u {P Q : Int → Int} {k v j : Int} (h : ag5 P Q j) : ag5 (gupd P k v) (gupd Q k v) j := ⟨gupd_ag h.1, gupd_ag h.2.1, gupd_ag h.2.2.1, gupd_ag h.2.2.2.1, gupd_ag h.2.2.2.2⟩
def agR (aw pc : Int) (P Q : Int → Int) : Prop := (∀ j, 0 ≤ j → j < pc → ag5 P Q j) ∧ (2 ≤ aw → aw ≤ 4 → P pc = Q pc) ∧ (3 ≤ aw → aw ≤ 4 → P (8 + pc) = Q (8 + pc)) ∧ (4 ≤ aw → aw ≤ 4 → P (16 + pc) = Q (16 + pc))
def agT (S T : Int × Int × Int × Int × (Int → Int)) : Prop := S.1 = T.1 ∧ (S.1 = 1 → S.2.1 = T.2.1 ∧ S.2.2.1 = T.2.2.1 ∧ S.2.2.2.1 = T.2.2.2.1 ∧ agR S.2.1 S.2.2.2.1 S.2.2.2.2 T.2.2.2.2)
theorem agT_M {th aw far pc v : Int} {P Q : Int → Int} (h : 0 ≤ pc) (g : agR aw pc P Q) : agT (tkM th aw far pc P v) (tkM th aw far pc Q v) := by
  obtain ⟨g1, g2, g3, g4⟩ := g
  unfold tkM
  by_cases c1 : aw = 1
  · rw [if_pos c1, if_pos c1]
    have e : (if pc = 0 then 0 else P (pc - 1)) = (if pc = 0 then 0 else Q (pc - 1)) := by
      by_cases z : pc = 0
      · rw [if_pos z, if_pos z]
      · rw [if_neg z, if_neg z]; exact (g1 (pc - 1) (by omega) (by omega)).1
    refine ⟨by dsimp only; rw [e], fun _ => ⟨rfl, rfl, rfl, fun j j0 j1 => ag5_u (g1 j j0 j1), fun _ _ => gupd_as rfl, fun c _ => (by (try dsimp only at c); omega), fun c _ => (by (try dsimp only at c); omega)⟩⟩
  · rw [if_neg c1, if_neg c1]
    by_cases c2 : aw = 2
    · rw [if_pos c2, if_pos c2]
      exact ⟨rfl, fun _ => ⟨rfl, rfl, rfl, fun j j0 j1 => ag5_u (g1 j j0 j1), fun _ _ => gupd_ag (g2 (by omega) (by omega)), fun _ _ => gupd_as rfl, fun c _ => (by (try dsimp only at c); omega)⟩⟩
    · rw [if_neg c2, if_neg c2]
      by_cases c3 : aw = 3
      · rw [if_pos c3, if_pos c3]
        exact ⟨rfl, fun _ => ⟨rfl, rfl, rfl, fun j j0 j1 => ag5_u (g1 j j0 j1), fun _ _ => gupd_ag (g2 (by omega) (by omega)), fun _ _ => gupd_ag (g3 (by omega) (by omega)), fun _ _ => gupd_as rfl⟩⟩
      · rw [if_neg c3, if_neg c3]
        by_cases c4 : aw = 4
        · rw [if_pos c4, if_pos c4]
          by_cases c : 0 ≤ v ∧ v ≤ 9
          · rw [if_pos c, if_pos c]
            refine ⟨rfl, fun _ => ⟨rfl, rfl, rfl, fun j j0 j1 => ?_, fun _ c => (by (try dsimp only at c); omega), fun _ c => (by (try dsimp only at c); omega), fun _ c => (by (try dsimp only at c); omega)⟩⟩
            dsimp only at j1 ⊢
            rcases Int.lt_or_le j pc with z | z
            · exact ag5_u (ag5_u (g1 j j0 z))
            · have e : j = pc := by omega
              subst e
              exact ⟨gupd_ag (gupd_ag (g2 (by omega) (by omega))), gupd_ag (gupd_ag (g3 (by omega) (by omega))), gupd_ag (gupd_ag (g4 (by omega) (by omega))), gupd_ag (gupd_as rfl), gupd_as rfl⟩
          · rw [if_neg c, if_neg c]
            exact ⟨rfl, fun c => (by (try dsimp only at c); omega)⟩
        · rw [if_neg c4, if_neg c4]
          by_cases c5 : aw = 5
          · rw [if_pos c5, if_pos c5]
            exact ⟨rfl, fun _ => ⟨rfl, rfl, rfl, g1, fun _ c => (by (try dsimp only at c); omega), fun _ c => (by (try dsimp only at c); omega), fun _ c => (by (try dsimp only at c); omega)⟩⟩
          · rw [if_neg c5, if_neg c5]
            exact ⟨rfl, fun c => (by (try dsimp only at c); omega)⟩
theorem agT_A {A : Int → Int} {a e aw far pc : Int} {P Q : Int → Int} (h : 0 ≤ pc) (g : agR aw pc P Q) : agT (tkA A a e aw far pc P) (tkA A a e aw far pc Q) := by
  unfold tkA
  by_cases c1 : rcl (A (132 + a)) = 1
  · rw [if_pos c1, if_pos c1]
    refine ⟨rfl, fun d => ⟨rfl, rfl, rfl, ?_⟩⟩
    dsimp only at d ⊢
    unfold wkB at d
    unfold wkW
    by_cases c : aw = 0
    · rw [if_pos c] at d ⊢
      split
      · exact ⟨g.1, fun c _ => (by (try dsimp only at c); omega), fun c _ => (by (try dsimp only at c); omega), fun c _ => (by (try dsimp only at c); omega)⟩
      · exact ⟨g.1, fun _ c => (by (try dsimp only at c); omega), fun _ c => (by (try dsimp only at c); omega), fun _ c => (by (try dsimp only at c); omega)⟩
    · rw [if_neg c] at d; (try dsimp only at d); omega
  · rw [if_neg c1, if_neg c1]
    by_cases c2 : rcl (A (132 + a)) = 2
    · rw [if_pos c2, if_pos c2]
      by_cases z : e - a ≤ 3
      · rw [if_pos z, if_pos z]; exact agT_M h g
      · rw [if_neg z, if_neg z]; exact ⟨rfl, fun c => (by (try dsimp only at c); omega)⟩
    · rw [if_neg c2, if_neg c2]
      by_cases c : A (132 + a) = 59 ∧ aw = 6
      · rw [if_pos c, if_pos c]
        exact ⟨rfl, fun _ => ⟨rfl, rfl, rfl, g.1, fun c _ => (by (try dsimp only at c); omega), fun c _ => (by (try dsimp only at c); omega), fun c _ => (by (try dsimp only at c); omega)⟩⟩
      · rw [if_neg c, if_neg c]; exact ⟨rfl, fun c => (by (try dsimp only at c); omega)⟩
theorem ag_rd {A : Int → Int} (h2 : 0 ≤ A 2) : ∀ (m : Nat) (a aw far pc : Int) (P Q : Int → Int), 0 ≤ a → okR (A 0) aw far pc P → agR aw pc P Q → ((rdN A m a aw far pc P).1 = (rdN A m a aw far pc Q).1 ∧ -1 ≤ (rdN A m a aw far pc P).1 ∧ (rdN A m a aw far pc P).1 ≤ A 2) ∧ ((rdN A m a aw far pc P).1 = -1 → (rdN A m a aw far pc P).2.1 = (rdN A m a aw far pc Q).2.1 ∧ (0 ≤ (rdN A m a aw far pc P).2.1 ∧ (rdN A m a aw far pc P).2.1 ≤ 8) ∧ ∀ j, 0 ≤ j → j < (rdN A m a aw far pc P).2.1 → ag5 (rdN A m a aw far pc P).2.2 (rdN A m a aw far pc Q).2.2 j ∧ rgR (A 0) (rdN A m a aw far pc P).2.2 j) := by
  intro m
  induction m with
  | zero =>
    intro a aw far pc P Q ha hO hG
    refine ⟨⟨rfl, ?_⟩, fun _ => ⟨rfl, hO.1.2.1, fun j j0 j1 => ⟨hG.1 j j0 j1, hO.2.1 j j0 j1⟩⟩⟩
    unfold rdN; dsimp only; split <;> omega
  | succ m ih =>
    intro a aw far pc P Q ha hO hG
    unfold rdN
    by_cases c : a < A 2
    · rw [if_pos c, if_pos c]
      by_cases b : A (132 + a) = 32
      · rw [if_pos b, if_pos b]; exact ih _ _ _ _ _ _ (by omega) hO hG
      · rw [if_neg b, if_neg b]
        have q := tkE_b c
        have g := agT_A (A := A) (a := a) (e := tkE A a) (far := far) hO.1.2.1.1 hG
        by_cases d : (tkA A a (tkE A a) aw far pc P).1 = 1
        · rw [if_pos d, if_pos (g.1 ▸ d)]
          obtain ⟨g1, g2, g3, g4⟩ := g.2 d
          have o := okR_A hO d
          rw [← g1, ← g2, ← g3]
          exact ih _ _ _ _ _ _ (by omega) o g4
        · rw [if_neg d, if_neg (g.1 ▸ d)]
          exact ⟨⟨rfl, by dsimp only; omega⟩, fun z => by dsimp only at z; omega⟩
    · rw [if_neg c, if_neg c]
      refine ⟨⟨rfl, ?_⟩, fun _ => ⟨rfl, hO.1.2.1, fun j j0 j1 => ⟨hG.1 j j0 j1, hO.2.1 j j0 j1⟩⟩⟩
      dsimp only; split <;> omega
def rF (A : Int → Int) : Int := (rd A 0 0 0 0 (fun _ => 0)).1
def rP (A : Int → Int) : Int := (rd A 0 0 0 0 (fun _ => 0)).2.1
def rR (A : Int → Int) : Int → Int := (rd A 0 0 0 0 (fun _ => 0)).2.2
theorem okR_0 (th : Int) (P : Int → Int) : okR th 0 0 0 P := ⟨⟨by decide, by decide, by decide, fun c _ => (by (try dsimp only at c); omega)⟩, fun j j0 j1 => by omega, fun c _ => (by (try dsimp only at c); omega), fun c _ => (by (try dsimp only at c); omega), fun c _ => (by (try dsimp only at c); omega)⟩
theorem agR_0 (P Q : Int → Int) : agR 0 0 P Q := ⟨fun j j0 j1 => by omega, fun c _ => (by (try dsimp only at c); omega), fun c _ => (by (try dsimp only at c); omega), fun c _ => (by (try dsimp only at c); omega)⟩
def rdS (A : Int → Int) (f n : Int) (P : Int → Int) : Prop := f = rF A ∧ (rF A = -1 → n = rP A ∧ ∀ j, 0 ≤ j → j < rP A → ag5 P (rR A) j)
theorem rdS_c {A : Int → Int} (h2 : 0 ≤ A 2) (P : Int → Int) : rdS A (rd A 0 0 0 0 P).1 (rd A 0 0 0 0 P).2.1 (rd A 0 0 0 0 P).2.2 := by
  have q := ag_rd h2 (A 2 - 0).toNat 0 0 0 0 P (fun _ => 0) (by decide) (okR_0 _ _) (agR_0 _ _)
  refine ⟨q.1.1, fun z => ?_⟩
  have q2 := q.2 (q.1.1.trans z)
  exact ⟨q2.1, fun j j0 j1 => (q2.2.2 j j0 (by rw [q2.1]; exact j1)).1⟩
theorem rF_b {A : Int → Int} (h2 : 0 ≤ A 2) : -1 ≤ rF A ∧ rF A ≤ A 2 := (ag_rd h2 (A 2 - 0).toNat 0 0 0 0 (fun _ => 0) (fun _ => 0) (by decide) (okR_0 _ _) (agR_0 _ _)).1.2
theorem rP_b {A : Int → Int} (h2 : 0 ≤ A 2) (z : rF A = -1) : 0 ≤ rP A ∧ rP A ≤ 8 := ((ag_rd h2 (A 2 - 0).toNat 0 0 0 0 (fun _ => 0) (fun _ => 0) (by decide) (okR_0 _ _) (agR_0 _ _)).2 z).2.1
theorem rR_b {A : Int → Int} (h2 : 0 ≤ A 2) (z : rF A = -1) {j : Int} (hj : 0 ≤ j ∧ j < rP A) : rgR (A 0) (rR A) j := (((ag_rd h2 (A 2 - 0).toNat 0 0 0 0 (fun _ => 0) (fun _ => 0) (by decide) (okR_0 _ _) (agR_0 _ _)).2 z).2.2 j hj.1 hj.2).2
