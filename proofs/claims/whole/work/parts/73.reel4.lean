/-! the model's reel, pure -/
def hr (A : Int → Int) (a : Int) : Int := if a < A 2 then A (132 + a) else -1
theorem hr_c {A : Int → Int} (hA : okA A) {a : Int} (ha : 0 ≤ a) : (a < A 2 ∧ hr A a = A (132 + a) ∧ 0 ≤ A (132 + a) ∧ A (132 + a) ≤ 255) ∨ (A 2 ≤ a ∧ hr A a = -1) := by
  have h2 := okA_2 hA
  unfold hr
  rcases Int.lt_or_le a (A 2) with h | h
  · have := okA_te hA (j := a) (by omega)
    rw [if_pos h]; omega
  · rw [if_neg (by omega)]; omega
theorem rnE_st {A : Int → Int} {k : Int} : ∀ (m : Nat) (a : Int), A 2 - a ≤ m → rnN A k m a < A 2 → rcl (A (132 + rnN A k m a)) ≠ k := by
  intro m
  induction m with
  | zero => intro a h0 h1; exact absurd h1 (by show ¬ a < A 2; omega)
  | succ m ih =>
    intro a h0 h1
    unfold rnN at h1 ⊢
    by_cases c : a < A 2 ∧ rcl (A (132 + a)) = k
    · rw [if_pos c] at h1 ⊢; exact ih _ (by omega) h1
    · rw [if_neg c] at h1 ⊢; exact fun e => c ⟨h1, e⟩
theorem rnE_32 {A : Int → Int} {a : Int} (h : rnE A 4 a < A 2) : A (132 + rnE A 4 a) ≠ 32 := by
  have q := rnE_st (A := A) (k := 4) (A 2 - a).toNat a (by omega) h
  intro e
  have := rcl_c (A (132 + rnE A 4 a))
  exact q (by show rcl (A (132 + rnE A 4 a)) = 4; omega)
theorem rd_sk {A : Int → Int} {aw far pc : Int} {P : Int → Int} : ∀ (m : Nat) (a : Int), A 2 - a ≤ m → rd A a aw far pc P = rd A (rnE A 4 a) aw far pc P := by
  intro m
  induction m with
  | zero => intro a h; rw [rnE_n (fun c => by omega)]
  | succ m ih =>
    intro a h
    have q := rcl_c (A (132 + a))
    by_cases c : a < A 2 ∧ rcl (A (132 + a)) = 4
    · rw [rnE_y c.1 c.2, rd_b c.1 (by omega)]; exact ih _ (by omega)
    · rw [rnE_n (fun d e => c ⟨d, e⟩)]
def tkK (A : Int → Int) (s : Int) : Int := if rcl (A (132 + s)) = 1 then (if atB A s (tkE A s) = 1 then 1 else if farB A s (tkE A s) = 1 then 2 else 5) else if rcl (A (132 + s)) = 2 then (if 3 < tkE A s - s then 5 else 3) else if A (132 + s) = 59 then 4 else 5
theorem tkK_b (A : Int → Int) (s : Int) : 1 ≤ tkK A s ∧ tkK A s ≤ 5 := by unfold tkK; (repeat' split) <;> omega
def nmc (A : Int → Int) (s b : Int) : Int := nmv A s (if b ≤ s + 3 then b else s + 3)
theorem nmc_s {A : Int → Int} {s b : Int} (h : s ≤ b) (h3 : b - s < 3) : nmc A s (b + 1) = 10 * nmc A s b + A (132 + b) - 48 := by
  unfold nmc; rw [if_pos (by omega), if_pos (by omega), nmv_s h]
theorem nmc_9 {A : Int → Int} {s b : Int} (h3 : 3 ≤ b - s) : nmc A s (b + 1) = nmc A s b := by
  unfold nmc; rw [if_neg (by omega)]; split
  · rw [show b = s + 3 by omega]
  · rfl
theorem nmc_0 {A : Int → Int} {s : Int} : nmc A s s = 0 := by unfold nmc; rw [if_pos (by omega)]; exact nmv_0
theorem nmc_b {A : Int → Int} {s b : Int} (h : ∀ j, s ≤ j → j < b → 48 ≤ A (132 + j) ∧ A (132 + j) ≤ 57) : 0 ≤ nmc A s b ∧ nmc A s b ≤ 999 := by
  unfold nmc
  split
  · exact nmv_b h (by omega)
  · exact nmv_b (fun j j0 j1 => h j j0 (by omega)) (by omega)
def wcd (A : Int → Int) (s b : Int) : Int := if b - s = 0 then 0 else if b - s = 1 then A (132 + s) - 96 else if b - s = 2 then 27 * (A (132 + s) - 96) + A (133 + s) - 96 else if b - s = 3 then 27 * (27 * (A (132 + s) - 96) + A (133 + s) - 96) + A (134 + s) - 96 else -1
theorem wcd_0 {A : Int → Int} {s : Int} : wcd A s s = 0 := if_pos (by omega)
theorem wcd_s {A : Int → Int} {s b : Int} (h : s ≤ b) (h3 : b - s < 3) : wcd A s (b + 1) = 27 * wcd A s b + A (132 + b) - 96 := by
  unfold wcd
  rcases (show b = s ∨ b = s + 1 ∨ b = s + 2 by omega) with e | e | e
  · subst e; rw [if_neg (by omega), if_pos (by omega), if_pos (by omega)]; omega
  · subst e; rw [if_neg (by omega), if_neg (by omega), if_pos (by omega), if_neg (by omega), if_pos (by omega), show 132 + (s + 1) = 133 + s by omega]
  · subst e; rw [if_neg (by omega), if_neg (by omega), if_neg (by omega), if_pos (by omega), if_neg (by omega), if_neg (by omega), if_pos (by omega), show 132 + (s + 2) = 134 + s by omega]
theorem wcd_9 {A : Int → Int} {s b : Int} (h3 : 3 ≤ b - s) : wcd A s (b + 1) = -1 := by
  unfold wcd; rw [if_neg (by omega), if_neg (by omega), if_neg (by omega), if_neg (by omega)]
theorem wl_ {A : Int → Int} {s b : Int} (h : ∀ j, s ≤ j → j < b → rcl (A (132 + j)) = 1) {k : Int} (hk : 0 ≤ k ∧ s + k < b) : 97 ≤ A (132 + k + s) ∧ A (132 + k + s) ≤ 122 := by
  have q := h (s + k) (by omega) hk.2
  rw [show 132 + (s + k) = 132 + k + s by omega] at q
  have := rcl_c (A (132 + k + s))
  omega
theorem wcd_k {A : Int → Int} {s b : Int} (h : ∀ j, s ≤ j → j < b → rcl (A (132 + j)) = 1) (hb : s ≤ b) : (-1 ≤ wcd A s b ∧ wcd A s b ≤ 20000) ∧ (wcd A s b = 47 ↔ atB A s b = 1) ∧ (wcd A s b = 4419 ↔ farB A s b = 1) := by
  unfold atB farB
  rw [gB_10, gB_10]
  unfold wcd
  rcases (show b = s ∨ s < b by omega) with e | e
  · rw [if_pos (by omega)]; omega
  · have q0 := wl_ h (k := 0) (by omega)
    rw [show 132 + 0 + s = 132 + s by omega] at q0
    rw [if_neg (by omega)]
    rcases (show b = s + 1 ∨ s + 1 < b by omega) with e1 | e1
    · rw [if_pos (by omega)]; omega
    · have q1 := wl_ h (k := 1) (by omega)
      rw [show (132 : Int) + 1 + s = 133 + s by omega] at q1
      rw [if_neg (by omega)]
      rcases (show b = s + 2 ∨ s + 2 < b by omega) with e2 | e2
      · rw [if_pos (by omega)]; omega
      · have q2 := wl_ h (k := 2) (by omega)
        rw [show (132 : Int) + 2 + s = 134 + s by omega] at q2
        rw [if_neg (by omega)]
        rcases (show b = s + 3 ∨ s + 3 < b by omega) with e3 | e3
        · rw [if_pos (by omega)]; omega
        · rw [if_neg (by omega)]; omega
def toK (A : Int → Int) (s : Int) : Int := if s < A 2 then tkK A s else 0
def toE (A : Int → Int) (s : Int) : Int := if s < A 2 then tkE A s else s
def toV (A : Int → Int) (s : Int) : Int := if s < A 2 ∧ rcl (A (132 + s)) = 2 then nmc A s (tkE A s) else 0
theorem toV_b (A : Int → Int) (s : Int) : 0 ≤ toV A s ∧ toV A s ≤ 999 := by
  unfold toV
  split
  · rename_i h; exact nmc_b (tkE_2 h.2)
  · omega
theorem toK_b (A : Int → Int) (s : Int) : 0 ≤ toK A s ∧ toK A s ≤ 5 ∧ (toK A s = 0 → A 2 ≤ s) := by
  have := tkK_b A s
  unfold toK; split <;> omega
theorem toE_b {A : Int → Int} {s : Int} (h : s ≤ A 2) : s ≤ toE A s ∧ toE A s ≤ A 2 ∧ (s < A 2 → s + 1 ≤ toE A s) := by
  unfold toE
  split
  · rename_i c; have := tkE_b c; omega
  · omega
theorem tkK_w {A : Int → Int} {s : Int} (h : rcl (A (132 + s)) = 1) : tkK A s = if atB A s (tkE A s) = 1 then 1 else if farB A s (tkE A s) = 1 then 2 else 5 := if_pos h
theorem tkK_f {A : Int → Int} {s : Int} (h : rcl (A (132 + s)) = 2) : tkK A s = if 3 < tkE A s - s then 5 else 3 := (if_neg (by omega)).trans (if_pos h)
theorem tkK_o {A : Int → Int} {s : Int} (h : rcl (A (132 + s)) ≠ 1) (h2 : rcl (A (132 + s)) ≠ 2) : tkK A s = if A (132 + s) = 59 then 4 else 5 := (if_neg h).trans (if_neg h2)
theorem tkE_o {A : Int → Int} {s : Int} (h : rcl (A (132 + s)) ≠ 1) (h2 : rcl (A (132 + s)) ≠ 2) : tkE A s = s + 1 := (if_neg h).trans (if_neg h2)
/-- the token that is due, or not -/
def dun (A : Int → Int) (fa z a st so va a2 st2 so2 va2 fa2 : Int) : Prop := (fa = -1 → z = 1 → st2 = rnE A 4 a ∧ so2 = toK A st2 ∧ va2 = toV A st2 ∧ a2 = toE A st2 ∧ fa2 = -1) ∧ (fa = -1 → z ≠ 1 → fa2 = st ∧ st2 = st ∧ so2 = so ∧ va2 = va ∧ a2 = a) ∧ (fa ≠ -1 → fa2 = fa ∧ st2 = st ∧ so2 = so ∧ va2 = va ∧ a2 = a)
def nmZ (so va lo h : Int) : Int := gB (so = 3 ∧ lo ≤ va ∧ va ≤ h)
def mst (A : Int → Int) (R : Int × Int × (Int → Int)) (L a st so va fa aw far pc : Int) (P : Int → Int) : Prop := ((0 ≤ a ∧ a ≤ A 2) ∧ (0 ≤ st ∧ st ≤ A 2) ∧ (0 ≤ va ∧ va ≤ 999) ∧ (0 ≤ so ∧ so ≤ 5) ∧ -1 ≤ fa ∧ fa ≤ A 2) ∧ ((fa = -1 ∧ L ≤ st ∧ (so = toK A st ∧ va = toV A st ∧ a = toE A st) ∧ (st < A 2 → A (132 + st) ≠ 32) ∧ okR (A 0) aw far pc P ∧ R = rd A st aw far pc P) ∨ (fa ≠ -1 ∧ R.1 = fa))
theorem mst_0 {A : Int → Int} (h2 : 0 ≤ A 2) {P : Int → Int} : mst A (rd A 0 0 0 0 P) 0 (toE A (rnE A 4 0)) (rnE A 4 0) (toK A (rnE A 4 0)) (toV A (rnE A 4 0)) (-1) 0 0 0 P := by
  have b := rnE_b (A := A) (k := 4) h2
  have e := toE_b b.2
  have k := toK_b A (rnE A 4 0)
  exact ⟨⟨by omega, b, toV_b _ _, by omega, by omega⟩, Or.inl ⟨rfl, b.1, ⟨rfl, rfl, rfl⟩, rnE_32, okR_0 _ _, rd_sk (A 2 - 0).toNat 0 (by omega)⟩⟩
theorem mst_d {A : Int → Int} {R : Int × Int × (Int → Int)} {L a st so va fa aw far pc : Int} {P : Int → Int} {z a2 st2 so2 va2 fa2 aw2 far2 pc2 : Int} {P2 : Int → Int} (h : mst A R L a st so va fa aw far pc P) (d : dun A fa z a st so va a2 st2 so2 va2 fa2)
    (hy : fa = -1 → z = 1 → so = toK A st → va = toV A st → st < A 2 ∧ tkA A st (tkE A st) aw far pc P = (1, aw2, far2, pc2, P2)) (hn : fa = -1 → z ≠ 1 → so = toK A st → va = toV A st → (st < A 2 → (tkA A st (tkE A st) aw far pc P).1 ≠ 1) ∧ (A 2 ≤ st → aw ≠ 0)) : mst A R L a2 st2 so2 va2 fa2 aw2 far2 pc2 P2 := by
  obtain ⟨⟨h1, h2, h3, h4, h5⟩, h6⟩ := h
  rcases h6 with ⟨f1, f2, ⟨f3, f4, f5⟩, f6, f7, f8⟩ | ⟨f1, f2⟩
  · by_cases c : z = 1
    · obtain ⟨e1, e2⟩ := hy f1 c f3 f4
      obtain ⟨d1, d2, d3, d4, d5⟩ := d.1 f1 c
      have b := rnE_b (A := A) (k := 4) (a := a) h1.2
      have be := toE_b (A := A) (s := st) h2.2
      have bk := toK_b A st2
      have bv := toV_b A st2
      have b2 := toE_b (A := A) (s := st2) (by omega)
      have k1 : (tkA A st (tkE A st) aw far pc P).1 = 1 := by rw [e2]
      have ok := okR_A f7 k1
      have r := rd_y e1 (f6 e1) k1
      rw [e2] at ok r
      refine ⟨⟨by omega, by omega, by omega, by omega, by omega⟩, Or.inl ⟨d5, by omega, ⟨d2, d3, d4⟩, fun q => by rw [d1] at q ⊢; exact rnE_32 q, ok, ?_⟩⟩
      rw [f8, r, d1, f5, show toE A st = tkE A st from if_pos e1]
      exact rd_sk (A 2 - tkE A st).toNat _ (by omega)
    · obtain ⟨d1, d2, d3, d4, d5⟩ := d.2.1 f1 c
      obtain ⟨e1, e2⟩ := hn f1 c f3 f4
      refine ⟨⟨by omega, by omega, by omega, by omega, by omega⟩, Or.inr ⟨by omega, ?_⟩⟩
      rw [d1, f8]
      rcases Int.lt_or_le st (A 2) with q | q
      · rw [rd_n q (f6 q) (e1 q)]
      · rw [rd_e q]; dsimp only; rw [if_neg (e2 q)]; omega
  · obtain ⟨d1, d2, d3, d4, d5⟩ := d.2.2 f1
    exact ⟨⟨by omega, by omega, by omega, by omega, by omega⟩, Or.inr ⟨by omega, by omega⟩⟩
theorem tkK_n {A : Int → Int} {s : Int} {k : Int} (h : toK A s = k) (hk : k ≠ 0) : s < A 2 ∧ tkK A s = k := by
  unfold toK at h
  split at h
  · rename_i c; exact ⟨c, h⟩
  · omega
/-- which tokens can stand where -/
theorem tkA_1 {A : Int → Int} {s far pc : Int} {P : Int → Int} (h : tkK A s = 1) : tkA A s (tkE A s) 0 far pc P = (gB (pc < 8), 1, far, pc, P) := by
  unfold tkK at h
  split at h
  · rename_i c
    by_cases d : atB A s (tkE A s) = 1
    · unfold tkA wkB wkW; rw [if_pos c, if_pos rfl, if_pos rfl, if_pos d, if_pos d]
    · rw [if_neg d] at h; split at h <;> omega
  · split at h
    · split at h <;> omega
    · split at h <;> omega
theorem tkA_2 {A : Int → Int} {s far pc : Int} {P : Int → Int} (h : tkK A s = 2) : tkA A s (tkE A s) 0 far pc P = (1, 5, far, pc, P) := by
  unfold tkK at h
  split at h
  · rename_i c
    by_cases d : atB A s (tkE A s) = 1
    · rw [if_pos d] at h; omega
    · rw [if_neg d] at h
      by_cases e : farB A s (tkE A s) = 1
      · unfold tkA wkB wkW; rw [if_pos c, if_pos rfl, if_pos rfl, if_neg d, if_neg d, e]
      · rw [if_neg e] at h; omega
  · split at h
    · split at h <;> omega
    · split at h <;> omega
theorem tkA_3 {A : Int → Int} {s aw far pc : Int} {P : Int → Int} (hs : s < A 2) (h : tkK A s = 3) : tkA A s (tkE A s) aw far pc P = tkM (A 0) aw far pc P (toV A s) := by
  unfold tkK at h
  split at h
  · split at h
    · omega
    · split at h <;> omega
  · rename_i c1
    split at h
    · rename_i c2
      have c3 : ¬ 3 < tkE A s - s := fun q => by rw [if_pos q] at h; omega
      unfold tkA toV nmc
      rw [if_neg c1, if_pos c2, if_pos (by omega), if_pos ⟨hs, c2⟩, if_pos (by omega)]
    · split at h <;> omega
theorem tkA_4 {A : Int → Int} {s far pc : Int} {P : Int → Int} (h : tkK A s = 4) : tkA A s (tkE A s) 6 far pc P = (1, 0, far, pc, P) := by
  unfold tkK at h
  split at h
  · split at h
    · omega
    · split at h <;> omega
  · rename_i c1
    split at h
    · split at h <;> omega
    · rename_i c2
      split at h
      · rename_i c3; unfold tkA; rw [if_neg c1, if_neg c2, if_pos ⟨c3, rfl⟩]
      · omega
theorem tkA_n {A : Int → Int} {s aw far pc : Int} {P : Int → Int} (hs : s < A 2) (h : (aw = 0 ∧ tkK A s ≠ 1 ∧ tkK A s ≠ 2) ∨ (1 ≤ aw ∧ aw ≤ 5 ∧ tkK A s ≠ 3) ∨ (aw = 6 ∧ tkK A s ≠ 4)) : (tkA A s (tkE A s) aw far pc P).1 ≠ 1 := by
  by_cases k3 : tkK A s = 3
  · rw [tkA_3 hs k3]
    unfold tkM
    rw [if_neg (by omega), if_neg (by omega), if_neg (by omega), if_neg (by omega), if_neg (by omega)]
    exact (by decide : (0 : Int) ≠ 1)
  · unfold tkA
    by_cases c1 : rcl (A (132 + s)) = 1
    · rw [if_pos c1]
      show wkB A s (tkE A s) aw pc ≠ 1
      unfold wkB
      rw [tkK_w c1] at h k3
      by_cases c : aw = 0
      · rw [if_pos c]
        by_cases d : atB A s (tkE A s) = 1
        · rw [if_pos d] at h; omega
        · rw [if_neg d] at h ⊢
          intro e
          rw [if_pos e] at h; omega
      · rw [if_neg c]; omega
    · rw [if_neg c1]
      by_cases c2 : rcl (A (132 + s)) = 2
      · rw [if_pos c2]
        by_cases c : tkE A s - s ≤ 3
        · exact absurd (by rw [tkK_f c2, if_neg (by omega)]) k3
        · rw [if_neg c]; exact (by decide : (0 : Int) ≠ 1)
      · rw [if_neg c2]
        rw [tkK_o c1 c2] at h
        by_cases c : A (132 + s) = 59 ∧ aw = 6
        · rw [if_pos c.1] at h; omega
        · rw [if_neg c]; exact (by decide : (0 : Int) ≠ 1)
section MS
variable {A : Int → Int} {R : Int × Int × (Int → Int)} {L a st so va fa far pc : Int} {P : Int → Int} {z a2 st2 so2 va2 fa2 : Int}
/-- at an item's head -/
theorem mst_L (h : mst A R L a st so va fa 0 far pc P) (hs : so ≠ 0) {aw2 far2 pc2 : Int} {P2 : Int → Int} (d : dun A fa z a st so va a2 st2 so2 va2 fa2) (g : mst A R L a2 st2 so2 va2 fa2 aw2 far2 pc2 P2) : mst A R (st + 1) a2 st2 so2 va2 fa2 aw2 far2 pc2 P2 := by
  refine ⟨g.1, ?_⟩
  rcases g.2 with ⟨f1, f2, f3, f4, f5, f6⟩ | f
  · refine Or.inl ⟨f1, ?_, f3, f4, f5, f6⟩
    rcases h.2 with ⟨e1, e2, ⟨e3, e4, e5⟩, e6⟩ | ⟨e1, e2⟩
    · have k := toK_b A st
      have b := rnE_b (A := A) (k := 4) (a := a) h.1.1.2
      have t := toE_b (A := A) (s := st) h.1.2.1.2
      by_cases c : z = 1
      · have := d.1 e1 c
        rcases Int.lt_or_le st (A 2) with q | q
        · omega
        · exact absurd (show toK A st = 0 from if_neg (by omega)) (by omega)
      · have := d.2.1 e1 c
        have := h.1.2.1
        omega
    · have := d.2.2 e1
      omega
  · exact Or.inr f
theorem mst_far (h : mst A R L a st so va fa 0 far pc P) (d : dun A fa 1 a st so va a2 st2 so2 va2 fa2) (hs : so = 2) : mst A R (st + 1) a2 st2 so2 va2 fa2 5 far pc P :=
  mst_L h (by omega) d (mst_d h d (fun _ _ e _ => by have k := tkK_n (e.symm.trans hs) (by decide); exact ⟨k.1, tkA_2 k.2⟩) (fun _ c => absurd rfl c))
theorem mst_at (h : mst A R L a st so va fa 0 far pc P) (d : dun A fa 1 a st so va a2 st2 so2 va2 fa2) (hs : so = 1) (hp : pc < 8) : mst A R (st + 1) a2 st2 so2 va2 fa2 1 far pc P :=
  mst_L h (by omega) d (mst_d h d (fun _ _ e _ => by have k := tkK_n (e.symm.trans hs) (by decide); exact ⟨k.1, by rw [tkA_1 k.2, gB_t hp]⟩) (fun _ c => absurd rfl c))
theorem mst_no (h : mst A R L a st so va fa 0 far pc P) (d : dun A fa 0 a st so va a2 st2 so2 va2 fa2) (hs : so ≠ 0 ∧ so ≠ 2 ∧ (so ≠ 1 ∨ 8 ≤ pc)) : mst A R (st + 1) a2 st2 so2 va2 fa2 6 far pc P :=
  mst_L h hs.1 d (mst_d h d (fun _ c => absurd c (by decide)) (fun _ _ e _ => by
    have k := tkK_n e.symm hs.1
    refine ⟨fun q => ?_, fun q => by omega⟩
    by_cases c : so = 1
    · rw [tkA_1 (k.2.trans c), gB_f (by omega)]; exact (by decide : (0 : Int) ≠ 1)
    · exact tkA_n q (Or.inl ⟨rfl, by omega, by omega⟩)))
/-- a number -/
theorem mst_num {aw lo hi aw2 far2 pc2 : Int} {P2 : Int → Int} (h : mst A R L a st so va fa aw far pc P) (d : dun A fa (nmZ so va lo hi) a st so va a2 st2 so2 va2 fa2) (haw : 1 ≤ aw ∧ aw ≤ 5) (hT : lo ≤ va → va ≤ hi → tkM (A 0) aw far pc P va = (1, aw2, far2, pc2, P2)) (hF : (tkM (A 0) aw far pc P va).1 = 1 → lo ≤ va ∧ va ≤ hi) : mst A R L a2 st2 so2 va2 fa2 aw2 far2 pc2 P2 := by
  refine mst_d h d (fun _ c e v => ?_) (fun _ c e v => ⟨fun q => ?_, fun _ => by omega⟩)
  · have c := gB_10.mp c
    have k := tkK_n (e.symm.trans c.1) (by decide)
    exact ⟨k.1, by rw [tkA_3 k.1 k.2, ← v]; exact hT c.2.1 c.2.2⟩
  · by_cases s3 : so = 3
    · have k := tkK_n (e.symm.trans s3) (by decide)
      rw [tkA_3 k.1 k.2, ← v]
      exact fun t => c (gB_t ⟨s3, hF t⟩)
    · have k : tkK A st ≠ 3 := fun t => s3 (by rw [e]; exact (if_pos q).trans t)
      exact tkA_n q (Or.inr (Or.inl ⟨haw.1, haw.2, k⟩))
theorem mst_stop1 (h : mst A R L a st so va fa 6 far pc P) (d : dun A fa 1 a st so va a2 st2 so2 va2 fa2) (hs : so = 4) : mst A R L a2 st2 so2 va2 fa2 0 far pc P :=
  mst_d h d (fun _ _ e _ => by have k := tkK_n (e.symm.trans hs) (by decide); exact ⟨k.1, tkA_4 k.2⟩) (fun _ c => absurd rfl c)
theorem mst_stop0 (h : mst A R L a st so va fa 6 far pc P) (d : dun A fa 0 a st so va a2 st2 so2 va2 fa2) (hs : so ≠ 4) : mst A R L a2 st2 so2 va2 fa2 0 far pc P :=
  mst_d h d (fun _ c => absurd c (by decide)) (fun _ _ e _ => ⟨fun q => tkA_n q (Or.inr (Or.inr ⟨rfl, fun t => hs (by rw [e]; exact (if_pos q).trans t)⟩)), fun _ => by decide⟩)
end MS
