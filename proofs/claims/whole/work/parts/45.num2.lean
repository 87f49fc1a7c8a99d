/-! the model's numbers: a number r lies at 16 r .. 16 r + 15 -/
def BB : Int := 1073741824 ^ 16
def okB (f : Int → Int) : Prop := ∀ j, 0 ≤ j → j < 112 → 0 ≤ f j ∧ f j < 1073741824
def nv (f : Int → Int) (r : Int) : Int := hv f (16 * r) 16
def wrote (r P : Int) (f g : Int → Int) : Prop := okB g ∧ nv g r = P ∧ ∀ j, (j < 16 * r ∨ 16 * r + 16 ≤ j) → g j = f j
theorem okB_d {f : Int → Int} {r : Int} (h : okB f) (hr : 0 ≤ r ∧ r ≤ 6) : dgs f (16 * r) 16 := fun k h0 h1 => h k (by omega) (by omega)
theorem nv_b {f : Int → Int} {r : Int} (h : okB f) (hr : 0 ≤ r ∧ r ≤ 6) : 0 ≤ nv f r ∧ nv f r < BB := hv_b (okB_d h hr)
theorem wr_n {r P s : Int} {f g : Int → Int} (h : wrote r P f g) (hs : s ≠ r) : nv g s = nv f s := hv_c (fun k h0 h1 => h.2.2 _ (by omega))
theorem wr_k {r P : Int} {f g : Int → Int} (h : wrote r P f g) : nv g r = P := h.2.1
theorem wr_o {r P : Int} {f g : Int → Int} (h : wrote r P f g) : okB g := h.1
theorem top0 {N x y c : Int} (hx : 0 ≤ x ∧ x < N) (hy : 0 ≤ y ∧ y < N) (h : x + N * c = y) : x = y := by
  have e : (x + N * c) % N = x % N := Int.add_mul_emod_self_left x N c
  rw [h, Int.emod_eq_of_lt hy.1 hy.2, Int.emod_eq_of_lt hx.1 hx.2] at e
  exact e.symm
theorem wr_of {r P : Int} {f g F : Int → Int} (hf : okB f) (hr : 0 ≤ r ∧ r ≤ 6) (h : fup (16 * r) 16 F f g) (hF : ∀ k, 0 ≤ k → k < 16 → 0 ≤ F k ∧ F k < 1073741824) (hP : hv F 0 16 = P) : wrote r P f g := by
  refine ⟨fun j j0 j1 => ?_, ?_, fun j hj => h.2 j hj⟩
  · rcases Int.lt_or_le j (16 * r) with q | q
    · rw [h.2 j (Or.inl q)]; exact hf j j0 j1
    · rcases Int.lt_or_le j (16 * r + 16) with p | p
      · have e := h.1 (j - 16 * r) (by omega) (by omega)
        rw [show 16 * r + (j - 16 * r) = j by omega] at e
        rw [e]; exact hF _ (by omega) (by omega)
      · rw [h.2 j (Or.inr p)]; exact hf j j0 j1
  · rw [← hP]
    exact hv_c (fun k h0 h1 => by rw [Int.zero_add]; exact h.1 k h0 (by omega))
def F_set (v : Int) : Int → Int := fun k => if k = 0 then v else 0
theorem wr_set {r v : Int} {f g : Int → Int} (hf : okB f) (hr : 0 ≤ r ∧ r ≤ 6) (hv' : 0 ≤ v ∧ v < 1073741824) (h : fup (16 * r) 16 (F_set v) f g) : wrote r v f g := by
  refine wr_of hf hr h (fun k h0 h1 => ?_) ?_
  · unfold F_set; split <;> omega
  · have q := hv_top (n := 1) (m := 15) (f := F_set v) (s := 0) (fun b b0 b1 => if_neg (by omega))
    rw [show (16 : Nat) = 1 + 15 from rfl, q]
    show F_set v 0 + 1073741824 * 0 = v
    unfold F_set; rw [if_pos rfl]; omega
theorem wr_copy {r s : Int} {f g : Int → Int} (hf : okB f) (hr : 0 ≤ r ∧ r ≤ 6) (hs : 0 ≤ s ∧ s ≤ 6) (h : fup (16 * r) 16 (fun k => f (16 * s + k)) f g) : wrote r (nv f s) f g :=
  wr_of hf hr h (fun k h0 h1 => hf _ (by omega) (by omega)) (hv_c (fun k h0 h1 => by rw [Int.zero_add]))
/-- columns X, carried from below -/
def cyc (X : Int → Int) : Int → Int := itr (fun k c => (X k + c) / 1073741824) 0
def F_cy (X : Int → Int) : Int → Int := fun k => (X k + cyc X k) % 1073741824
theorem cyc_s {X : Int → Int} {k : Int} (h : 0 ≤ k) : cyc X (k + 1) = (X k + cyc X k) / 1073741824 := itr_s h
theorem wr_cy {r P : Int} {f g X : Int → Int} (hf : okB f) (hr : 0 ≤ r ∧ r ≤ 6) (hX : hv X 0 16 = P) (hP : 0 ≤ P ∧ P < BB) (h : fup (16 * r) 16 (F_cy X) f g) : wrote r P f g := by
  have hd : ∀ k, 0 ≤ F_cy X k ∧ F_cy X k < 1073741824 := fun k => ⟨Int.emod_nonneg _ (by decide), Int.emod_lt_of_pos _ (by decide)⟩
  refine wr_of hf hr h (fun k h0 h1 => hd k) ?_
  have e := hv_cy (n := 16) (g := F_cy X) (X := X) (c := cyc X) (s := 0) (fun b b0 b1 => by rw [cyc_s b0]; unfold F_cy; omega)
  rw [show cyc X 0 = 0 from rfl, Int.add_zero, hX] at e
  exact top0 (hv_b (n := 16) (fun k _ _ => hd k)) hP e
def X_mul (f : Int → Int) (r v : Int) : Int → Int := fun k => f (16 * r + k) * v
theorem X_mul_v {f : Int → Int} {r v : Int} : hv (X_mul f r v) 0 16 = nv f r * v := by
  unfold X_mul
  rw [hv_mul (f := fun k => f (16 * r + k))]
  exact congrArg (· * v) (hv_c (fun k h0 h1 => by rw [Int.zero_add]))
def X_add (f : Int → Int) (r s : Int) : Int → Int := fun k => f (16 * r + k) + f (16 * s + k)
theorem X_add_v {f : Int → Int} {r s : Int} : hv (X_add f r s) 0 16 = nv f r + nv f s := by
  unfold X_add
  rw [hv_add (f := fun k => f (16 * r + k)) (g := f) (p := 16 * s), Int.add_zero]
  exact congrArg (· + nv f s) (hv_c (fun k h0 h1 => by rw [Int.zero_add]))
def X_sub (f : Int → Int) (r s : Int) : Int → Int := fun k => f (16 * r + k) - f (16 * s + k)
theorem X_sub_v {f : Int → Int} {r s : Int} : hv (X_sub f r s) 0 16 = nv f r - nv f s := by
  unfold X_sub
  rw [hv_sub (f := fun k => f (16 * r + k)) (g := f) (p := 16 * s), Int.add_zero]
  exact congrArg (· - nv f s) (hv_c (fun k h0 h1 => by rw [Int.zero_add]))
/-- half, from above -/
def R_half (f : Int → Int) (r : Int) : Int → Int := fun k => if 16 ≤ k then 0 else f (16 * r + k) % 2
def F_half (f : Int → Int) (r : Int) : Int → Int := fun k => f (16 * r + k) / 2 + 536870912 * R_half f r (k + 1)
theorem R_half_b {f : Int → Int} {r k : Int} : 0 ≤ R_half f r k ∧ R_half f r k ≤ 1 := by unfold R_half; split <;> omega
theorem wr_half {r : Int} {f g : Int → Int} (hf : okB f) (hr : 0 ≤ r ∧ r ≤ 6) (h : fdn (16 * r) (-1) 16 (F_half f r) f g) : wrote r (nv f r / 2) f g := by
  have h' : fup (16 * r) 16 (F_half f r) f g := ⟨fun b b0 b1 => h.1 b (by omega) b1, fun j hj => h.2 j (by omega)⟩
  refine wr_of hf hr h' (fun k h0 h1 => ?_) ?_
  · have q := R_half_b (f := f) (r := r) (k := k + 1)
    have p := hf (16 * r + k) (by omega) (by omega)
    unfold F_half; omega
  · have e := hv_dv (n := 16) (g := F_half f r) (f := fun k => f (16 * r + k)) (r := R_half f r) (d := 2) (s := 0) (fun b b0 b1 => by
      have q : R_half f r b = f (16 * r + b) % 2 := if_neg (by omega)
      unfold F_half; rw [q]; omega)
    have e2 : hv (fun k => f (16 * r + k)) 0 16 = nv f r := hv_c (fun k h0 h1 => by rw [Int.zero_add])
    rw [e2, show R_half f r (0 + ((16 : Nat) : Int)) = 0 from rfl, Int.mul_zero, Int.add_zero] at e
    have q := R_half_b (f := f) (r := r) (k := 0)
    omega
theorem nv_2 {f : Int → Int} {r : Int} : nv f r % 2 = f (16 * r) % 2 := by
  show (f (16 * r) + 1073741824 * hv f (16 * r + 1) 15) % 2 = _
  omega
/-- what is there of them is 0 so far -/
def nzs (f : Int → Int) (o i x : Int) : Prop := (x = 1 ∧ ∀ b, o ≤ b → b < o + i → f b = 0) ∨ (x = 0 ∧ ∃ b, o ≤ b ∧ b < o + i ∧ f b ≠ 0)
theorem nzs_0 {f : Int → Int} {o : Int} : nzs f o 0 1 := Or.inl ⟨rfl, fun b h0 h1 => by omega⟩
theorem nzs_y {f : Int → Int} {o i x : Int} (h : nzs f o i x) (hx : x ≠ 0) (hf : f (o + i) = 0) : nzs f o (i + 1) 1 := by
  rcases h with ⟨_, h⟩ | ⟨h, _⟩
  · refine Or.inl ⟨rfl, fun b h0 h1 => ?_⟩
    rcases Int.lt_or_le b (o + i) with q | q
    · exact h b h0 q
    · rw [show b = o + i by omega]; exact hf
  · exact absurd h hx
theorem nzs_n {f : Int → Int} {o i x : Int} (hi : 0 ≤ i) (h : nzs f o i x) (hf : x = 0 ∨ f (o + i) ≠ 0) : nzs f o (i + 1) 0 := by
  refine Or.inr ⟨rfl, ?_⟩
  rcases hf with q | q
  · rcases h with ⟨p, _⟩ | ⟨_, b, b0, b1, hb⟩
    · omega
    · exact ⟨b, b0, by omega, hb⟩
  · exact ⟨o + i, by omega, by omega, q⟩
theorem nzs_b {f : Int → Int} {o i x : Int} (h : nzs f o i x) : 0 ≤ x ∧ x ≤ 1 := by rcases h with ⟨h, _⟩ | ⟨h, _⟩ <;> omega
theorem nzs_r {f : Int → Int} {r x : Int} (hf : okB f) (hr : 0 ≤ r ∧ r ≤ 6) (h : nzs f (16 * r) 16 x) : x = gB (nv f r = 0) := by
  rcases h with ⟨h, q⟩ | ⟨h, b, b0, b1, q⟩
  · rw [h, gB_t]; exact hv_0 q
  · rw [h, gB_f]; exact fun c => q (hv_00 (okB_d hf hr) c b b0 b1)
theorem nv_cmp {f : Int → Int} {r s k : Int} (hf : okB f) (hr : 0 ≤ r ∧ r ≤ 6) (hs : 0 ≤ s ∧ s ≤ 6) (hk : 0 ≤ k ∧ k < 16) (h : ∀ b, k < b → b < 16 → f (16 * r + b) = f (16 * s + b)) (hl : f (16 * r + k) < f (16 * s + k)) : nv f r < nv f s :=
  hv_lt (okB_d hf hr) (okB_d hf hs) hk.1 (by omega) hl (fun b b0 b1 => h b b0 (by omega))
theorem nv_eq {f : Int → Int} {r s : Int} (h : ∀ b, 0 ≤ b → b < 16 → f (16 * r + b) = f (16 * s + b)) : nv f r = nv f s := hv_c (fun k h0 h1 => h k h0 (by omega))
/-- how many limbs, and which -/
def lims (P : Int) : Int := sm (fun k => if 1073741824 ^ k.toNat ≤ P then 1 else 0) 16
def dig (P i : Int) : Int := P / 1073741824 ^ i.toNat % 1073741824
theorem hv_ge : ∀ {n : Nat} {f : Int → Int} {s : Int}, dgs f s (n + 1) → 1073741824 ^ n * f (s + (n : Int)) ≤ hv f s (n + 1) := by
  intro n
  induction n with
  | zero => intro f s h; show 1 * f (s + 0) ≤ f s + 1073741824 * 0; rw [Int.add_zero, Int.one_mul]; omega
  | succ n ih =>
    intro f s h
    have d := (dgs_s h).1
    have q := ih (dgs_s h).2
    rw [show s + 1 + (n : Int) = s + ((n + 1 : Nat) : Int) by omega] at q
    have hp : (1073741824 : Int) ^ (n + 1) * f (s + ((n + 1 : Nat) : Int)) = 1073741824 * (1073741824 ^ n * f (s + ((n + 1 : Nat) : Int))) := by rw [Int.pow_succ, Int.mul_comm (1073741824 ^ n), Int.mul_assoc]
    show _ ≤ f s + 1073741824 * hv f (s + 1) (n + 1)
    rw [hp]; omega
theorem pwB {a b : Nat} (h : a ≤ b) : (1073741824 : Int) ^ a ≤ 1073741824 ^ b := by
  obtain ⟨c, rfl⟩ := Nat.le.dest h
  rw [Int.pow_add]
  have p : 0 < (1073741824 : Int) ^ a := Int.pow_pos (by decide)
  have q : 0 < (1073741824 : Int) ^ c := Int.pow_pos (by decide)
  have m := Int.mul_le_mul_of_nonneg_left (show 1 ≤ (1073741824 : Int) ^ c by omega) (Int.le_of_lt p)
  rw [Int.mul_one] at m
  exact m
theorem lims_is {P n : Int} (hn : 0 ≤ n ∧ n ≤ 16) (h0 : n = 0 ∨ 1073741824 ^ (n - 1).toNat ≤ P) (h1 : P < 1073741824 ^ n.toNat) : lims P = n := by
  have hc : lims P = sm (fun k => if k < n then 1 else 0) 16 := sm_c (fun k k0 k1 => by
    rcases Int.lt_or_le k n with q | q
    · have p := pwB (a := k.toNat) (b := (n - 1).toNat) (by omega)
      rw [if_pos q, if_pos (by omega)]
    · have p := pwB (a := n.toNat) (b := k.toNat) (by omega)
      rw [if_neg (by omega), if_neg (by omega)])
  have hg : ∀ m : Nat, sm (fun k => if k < n then (1 : Int) else 0) (m : Int) = if (m : Int) ≤ n then (m : Int) else n := by
    intro m
    induction m with
    | zero => rw [if_pos (by omega)]; rfl
    | succ m ih =>
      rw [show ((m + 1 : Nat) : Int) = (m : Int) + 1 by omega, sm_s (by omega), ih]
      (repeat' split) <;> omega
  rw [hc, show (16 : Int) = ((16 : Nat) : Int) from rfl, hg 16]
  split <;> omega
theorem lims_nv {f : Int → Int} {r n : Int} (hf : okB f) (hr : 0 ≤ r ∧ r ≤ 6) (hn : 0 ≤ n ∧ n ≤ 16) (h0 : ∀ b, n ≤ b → b < 16 → f (16 * r + b) = 0) (h1 : n = 0 ∨ f (16 * r + n - 1) ≠ 0) : n = lims (nv f r) := by
  obtain ⟨m, rfl⟩ := Int.eq_ofNat_of_zero_le hn.1
  obtain ⟨k, hk⟩ := Nat.le.dest (show m ≤ 16 by omega)
  have e : nv f r = hv f (16 * r) m := by
    unfold nv; rw [← hk]
    exact hv_top (fun b b0 b1 => by have q := h0 (b - 16 * r) (by omega) (by omega); rw [show 16 * r + (b - 16 * r) = b by omega] at q; exact q)
  have d : dgs f (16 * r) m := fun k k0 k1 => okB_d hf hr k k0 (by omega)
  refine (lims_is hn ?_ ?_).symm
  · cases m with
    | zero => exact Or.inl rfl
    | succ m =>
      right
      have g := hv_ge d
      have q := hf (16 * r + (m : Int)) (by omega) (by omega)
      have p : f (16 * r + (m : Int)) ≠ 0 := by
        rcases h1 with h1 | h1
        · omega
        · rw [show 16 * r + ((m + 1 : Nat) : Int) - 1 = 16 * r + (m : Int) by omega] at h1; exact h1
      have pp : 0 < (1073741824 : Int) ^ m := Int.pow_pos (by decide)
      have mm := Int.mul_le_mul_of_nonneg_left (show 1 ≤ f (16 * r + (m : Int)) by omega) (Int.le_of_lt pp)
      rw [Int.mul_one] at mm
      rw [e, show (((m + 1 : Nat) : Int) - 1).toNat = m by omega]
      omega
  · rw [e, Int.toNat_natCast]; exact (hv_b d).2
theorem hv_dig : ∀ {n : Nat} {f : Int → Int} {s : Int} {i : Nat}, dgs f s n → i < n → f (s + (i : Int)) = hv f s n / 1073741824 ^ i % 1073741824 := by
  intro n
  induction n with
  | zero => intro f s i _ h; omega
  | succ n ih =>
    intro f s i h hi
    have d := (dgs_s h).1
    cases i with
    | zero =>
      show f (s + 0) = (f s + 1073741824 * hv f (s + 1) n) / 1 % 1073741824
      rw [Int.add_zero, Int.ediv_one]; omega
    | succ i =>
      have q := ih (i := i) (dgs_s h).2 (by omega)
      rw [show s + 1 + (i : Int) = s + ((i + 1 : Nat) : Int) by omega] at q
      rw [q]
      show _ = (f s + 1073741824 * hv f (s + 1) n) / 1073741824 ^ (i + 1) % 1073741824
      rw [Int.pow_succ, Int.mul_comm (1073741824 ^ i), ← Int.ediv_ediv_of_nonneg (by decide), show (f s + 1073741824 * hv f (s + 1) n) / 1073741824 = hv f (s + 1) n by omega]
theorem nv_dig {f : Int → Int} {r i : Int} (hf : okB f) (hr : 0 ≤ r ∧ r ≤ 6) (hi : 0 ≤ i ∧ i < 16) : f (16 * r + i) = dig (nv f r) i := by
  have q := hv_dig (i := i.toNat) (okB_d hf hr) (by omega)
  rw [Int.toNat_of_nonneg hi.1] at q
  exact q
