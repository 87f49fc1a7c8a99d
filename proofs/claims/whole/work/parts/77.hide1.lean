/-! what is hidden beneath what, pure -/
def vin (A Q : Int → Int) (p pic b : Int) : Int := if 0 ≤ pic - Q p ∧ pic - Q p ≤ 7 then sVal A (Q (8 + p)) b (pic - Q p) (Q (32 + p)) else 0
def tog (A Q : Int → Int) (n s pic b : Int) : Int := sm (fun p => if bit s p = 1 then vin A Q p pic b else 0) n
def oth (A Q : Int → Int) (n pl s pic b : Int) : Int := sm (fun p => if p ≠ pl ∧ bit s p = 1 then vin A Q p pic b else 0) n
def hid1 (A Q : Int → Int) (n pl s t b : Int) : Prop := 0 < sVal A (Q (8 + pl)) b t (Q (32 + pl)) → sVal A (Q (8 + pl)) b t (Q (32 + pl)) * A 129 ≤ oth A Q n pl s (Q pl + t) b
def hidP (A Q : Int → Int) (n pl s : Int) : Prop := ∀ t, 0 ≤ t → t < 8 → ∀ b, 0 ≤ b → b < 6 → hid1 A Q n pl s t b
noncomputable def hidB (A Q : Int → Int) (n pl s : Int) : Int := @gB (hidP A Q n pl s) (Classical.propDecidable _)
theorem hidB_t {A Q : Int → Int} {n pl s : Int} (h : hidP A Q n pl s) : hidB A Q n pl s = 1 := @gB_t _ (Classical.propDecidable _) h
theorem hidB_f {A Q : Int → Int} {n pl s : Int} (h : ¬ hidP A Q n pl s) : hidB A Q n pl s = 0 := @gB_f _ (Classical.propDecidable _) h
theorem hidB_n (A Q : Int → Int) (n pl s : Int) : hidB A Q n pl s = 0 ∨ hidB A Q n pl s = 1 := @gB_n _ (Classical.propDecidable _)
theorem hidB_1 {A Q : Int → Int} {n pl s : Int} : hidB A Q n pl s = 1 ↔ hidP A Q n pl s := by
  rcases Classical.em (hidP A Q n pl s) with h | h
  · exact ⟨fun _ => h, fun _ => hidB_t h⟩
  · exact ⟨fun c => by rw [hidB_f h] at c; exact absurd c (by decide), fun c => absurd c h⟩
theorem vin_b {A Q : Int → Int} (hA : okA A) {p pic b : Int} (hR : rgR (A 0) Q p) (hb : 0 ≤ b ∧ b < 6) : 0 ≤ vin A Q p pic b ∧ vin A Q p pic b ≤ 99 := by
  have h0 := okA_0 hA
  obtain ⟨r1, r2, r3, r4, r5⟩ := hR
  unfold vin
  split
  · rename_i c; exact sVal_b hA (by omega) hb (by omega) r5
  · omega
theorem vin_t {A Q : Int → Int} {p t b : Int} (ht : 0 ≤ t ∧ t < 8) : vin A Q p (Q p + t) b = sVal A (Q (8 + p)) b t (Q (32 + p)) := by
  unfold vin; rw [if_pos (by omega), show Q p + t - Q p = t by omega]
theorem bdel_all : ∀ s : Fin 256, ∀ k : Fin 8, (0 ≤ bdel (s.val : Int) (k.val : Int) ∧ bdel (s.val : Int) (k.val : Int) ≤ (s.val : Int)) ∧ ∀ p : Fin 8, bit (bdel (s.val : Int) (k.val : Int)) (p.val : Int) = if p = k then 0 else bit (s.val : Int) (p.val : Int) := by decide +kernel
theorem bdel_b {s k : Int} (hs : 0 ≤ s ∧ s < 256) (hk : 0 ≤ k ∧ k < 8) : 0 ≤ bdel s k ∧ bdel s k ≤ s := by
  have q := (bdel_all ⟨s.toNat, by omega⟩ ⟨k.toNat, by omega⟩).1
  rw [show (((⟨s.toNat, by omega⟩ : Fin 256).val : Nat) : Int) = s from by show (s.toNat : Int) = s; omega, show (((⟨k.toNat, by omega⟩ : Fin 8).val : Nat) : Int) = k from by show (k.toNat : Int) = k; omega] at q
  exact q
theorem bdel_i {s k p : Int} (hs : 0 ≤ s ∧ s < 256) (hk : 0 ≤ k ∧ k < 8) (hp : 0 ≤ p ∧ p < 8) : bit (bdel s k) p = if p = k then 0 else bit s p := by
  have q := (bdel_all ⟨s.toNat, by omega⟩ ⟨k.toNat, by omega⟩).2 ⟨p.toNat, by omega⟩
  rw [show (((⟨s.toNat, by omega⟩ : Fin 256).val : Nat) : Int) = s from by show (s.toNat : Int) = s; omega, show (((⟨k.toNat, by omega⟩ : Fin 8).val : Nat) : Int) = k from by show (k.toNat : Int) = k; omega, show (((⟨p.toNat, by omega⟩ : Fin 8).val : Nat) : Int) = p from by show (p.toNat : Int) = p; omega] at q
  rw [q]
  by_cases c : p = k
  · rw [if_pos c, if_pos (by subst c; rfl)]
  · rw [if_neg c, if_neg (fun e => c (by have := congrArg (fun x : Fin 8 => x.val) e; dsimp only at this; omega))]
theorem bit_zall : ∀ s : Fin 256, ∀ p q : Fin 8, p ≤ q → (s.val : Int) / 2 ^ ((p.val : Int)).toNat ≤ 0 → bit (s.val : Int) (q.val : Int) = 0 := by decide +kernel
theorem bit_z {s p q : Int} (hs : 0 ≤ s ∧ s < 256) (hp : 0 ≤ p) (hq : p ≤ q ∧ q < 8) (h : s / 2 ^ p.toNat ≤ 0) : bit s q = 0 := by
  have z := bit_zall ⟨s.toNat, by omega⟩ ⟨p.toNat, by omega⟩ ⟨q.toNat, by omega⟩ (by show p.toNat ≤ q.toNat; omega)
  rw [show (((⟨s.toNat, by omega⟩ : Fin 256).val : Nat) : Int) = s from by show (s.toNat : Int) = s; omega, show (((⟨p.toNat, by omega⟩ : Fin 8).val : Nat) : Int) = p from by show (p.toNat : Int) = p; omega, show (((⟨q.toNat, by omega⟩ : Fin 8).val : Nat) : Int) = q from by show (q.toNat : Int) = q; omega] at z
  exact z h
theorem sm_z {f : Int → Int} {i n : Int} (hi : 0 ≤ i) (hn : i ≤ n) (h : ∀ k, i ≤ k → k < n → f k = 0) : sm f n = sm f i := by
  obtain ⟨m, hm⟩ := Int.eq_ofNat_of_zero_le (show 0 ≤ n - i by omega)
  have e : ∀ m : Nat, i + m ≤ n → sm f (i + (m : Int)) = sm f i := by
    intro m
    induction m with
    | zero => intro _; rw [show i + ((0 : Nat) : Int) = i by omega]
    | succ m ih =>
      intro q
      rw [show i + ((m + 1 : Nat) : Int) = i + (m : Int) + 1 by omega, sm_s (by omega), ih (by omega), h _ (by omega) (by omega)]; omega
  have q := e m (by omega)
  rw [show i + (m : Int) = n by omega] at q
  exact q
theorem tog_o {A Q : Int → Int} {n pl s pic b : Int} (hs : 0 ≤ s ∧ s < 256) (hpl : 0 ≤ pl ∧ pl < 8) (hn : n ≤ 8) : tog A Q n (bdel s pl) pic b = oth A Q n pl s pic b := by
  refine sm_c (fun p p0 p1 => ?_)
  rw [bdel_i hs hpl (by omega)]
  by_cases c : p = pl
  · rw [if_pos c, if_neg (by decide), if_neg (by omega)]
  · rw [if_neg c]
    by_cases d : bit s p = 1
    · rw [if_pos d, if_pos ⟨c, d⟩]
    · rw [if_neg d, if_neg (fun e => d e.2)]
theorem oth_b {A Q : Int → Int} (hA : okA A) {n pl s pic b : Int} (hn : 0 ≤ n ∧ n ≤ 8) (hR : ∀ j, 0 ≤ j → j < n → rgR (A 0) Q j) (hb : 0 ≤ b ∧ b < 6) {i : Int} (hi : 0 ≤ i ∧ i ≤ n) : 0 ≤ oth A Q i pl s pic b ∧ oth A Q i pl s pic b ≤ i * 99 :=
  sm_b hi.1 (fun p p0 p1 => by
    have := vin_b hA (pic := pic) (hR p p0 (by omega)) hb
    (try dsimp only); split <;> omega)
theorem tog_b {A Q : Int → Int} (hA : okA A) {n s pic b : Int} (hn : 0 ≤ n ∧ n ≤ 8) (hR : ∀ j, 0 ≤ j → j < n → rgR (A 0) Q j) (hb : 0 ≤ b ∧ b < 6) {i : Int} (hi : 0 ≤ i ∧ i ≤ n) : 0 ≤ tog A Q i s pic b ∧ tog A Q i s pic b ≤ i * 99 :=
  sm_b hi.1 (fun p p0 p1 => by
    have := vin_b hA (pic := pic) (hR p p0 (by omega)) hb
    (try dsimp only); split <;> omega)
/-- what listening lays down -/
def VV (A Q : Int → Int) (z : Int) : Int := sVal A (Q (8 + z / 48)) (z % 6) (z / 6 % 8) (Q (32 + z / 48))
theorem VV_e {A Q : Int → Int} {p t b : Int} (ht : 0 ≤ t ∧ t < 8) (hb : 0 ≤ b ∧ b < 6) : VV A Q (48 * p + 6 * t + b) = sVal A (Q (8 + p)) b t (Q (32 + p)) := by
  unfold VV
  rw [show (48 * p + 6 * t + b) / 48 = p by omega, show (48 * p + 6 * t + b) % 6 = b by omega, show (48 * p + 6 * t + b) / 6 % 8 = t by omega]
def lsn (A Q : Int → Int) (n : Int) (yv yp : Int → Int) : Prop := (∀ z, 0 ≤ z → z < 48 * n → yv z = VV A Q z) ∧ ∀ j, 0 ≤ j → j < n → yp j = Q j
theorem lsn_v {A Q : Int → Int} {n : Int} {yv yp : Int → Int} (h : lsn A Q n yv yp) {p t b : Int} (hp : 0 ≤ p ∧ p < n) (ht : 0 ≤ t ∧ t < 8) (hb : 0 ≤ b ∧ b < 6) : yv (48 * p + 6 * t + b) = sVal A (Q (8 + p)) b t (Q (32 + p)) := by
  rw [h.1 _ (by omega) (by omega), VV_e ht hb]
theorem lsn_c {A P Q : Int → Int} {n : Int} {yv yp : Int → Int} (h : lsn A P n yv yp) (g : ∀ j, 0 ≤ j → j < n → ag5 P Q j) : lsn A Q n yv yp :=
  ⟨fun z z0 z1 => by
    have q := g (z / 48) (by omega) (by omega)
    rw [h.1 z z0 z1]; unfold VV; rw [q.2.1, q.2.2.2.2], fun j j0 j1 => by rw [h.2 j j0 j1]; exact (g j j0 j1).1⟩
theorem vin_c {A P Q : Int → Int} {p pic b : Int} (g : ag5 P Q p) : vin A P p pic b = vin A Q p pic b := by
  unfold vin; rw [g.1, g.2.1, g.2.2.2.2]
theorem oth_c {A P Q : Int → Int} {n pl s pic b : Int} (g : ∀ j, 0 ≤ j → j < n → ag5 P Q j) : oth A P n pl s pic b = oth A Q n pl s pic b := sm_c (fun p p0 p1 => by rw [vin_c (g p p0 p1)])
theorem hidP_c {A P Q : Int → Int} {n pl s : Int} (g : ∀ j, 0 ≤ j → j < n → ag5 P Q j) (hp : 0 ≤ pl ∧ pl < n) : hidP A P n pl s ↔ hidP A Q n pl s := by
  have q := g pl hp.1 hp.2
  unfold hidP hid1
  rw [q.1, q.2.1, q.2.2.2.2]
  constructor
  · intro h t t0 t1 b b0 b1 c; rw [← oth_c g]; exact h t t0 t1 b b0 b1 c
  · intro h t t0 t1 b b0 b1 c; rw [oth_c g]; exact h t t0 t1 b b0 b1 c
theorem hidB_c {A P Q : Int → Int} {n pl s : Int} (g : ∀ j, 0 ≤ j → j < n → ag5 P Q j) (hp : 0 ≤ pl ∧ pl < n) : hidB A P n pl s = hidB A Q n pl s := by
  rcases Classical.em (hidP A P n pl s) with h | h
  · rw [hidB_t h, hidB_t ((hidP_c g hp).mp h)]
  · rw [hidB_f h, hidB_f (fun c => h ((hidP_c g hp).mpr c))]
noncomputable def unh (A Q : Int → Int) (n i : Int) : Int := sm (fun p => if hidB A Q n p (1 * 2 ^ n.toNat - 1) = 1 then 2 ^ p.toNat else 0) i
theorem unh_c {A P Q : Int → Int} {n i : Int} (g : ∀ j, 0 ≤ j → j < n → ag5 P Q j) (hi : i ≤ n) : unh A P n i = unh A Q n i := sm_c (fun p p0 p1 => by rw [hidB_c g ⟨p0, by omega⟩])
theorem unh_s {A Q : Int → Int} {n i : Int} (h : 0 ≤ i) : unh A Q n (i + 1) = unh A Q n i + (if hidB A Q n i (1 * 2 ^ n.toNat - 1) = 1 then 2 ^ i.toNat else 0) := sm_s h
def ahP (A Q : Int → Int) (n s : Int) : Prop := ∀ p, 0 ≤ p → p < n → bit s p = 1 ∨ hidB A Q n p s = 1
noncomputable def ahB (A Q : Int → Int) (n s : Int) : Int := @gB (ahP A Q n s) (Classical.propDecidable _)
theorem ahB_t {A Q : Int → Int} {n s : Int} (h : ahP A Q n s) : ahB A Q n s = 1 := @gB_t _ (Classical.propDecidable _) h
theorem ahB_f {A Q : Int → Int} {n s : Int} (h : ¬ ahP A Q n s) : ahB A Q n s = 0 := @gB_f _ (Classical.propDecidable _) h
theorem ahB_n (A Q : Int → Int) (n s : Int) : ahB A Q n s = 0 ∨ ahB A Q n s = 1 := @gB_n _ (Classical.propDecidable _)
theorem ahB_c {A P Q : Int → Int} {n s : Int} (g : ∀ j, 0 ≤ j → j < n → ag5 P Q j) : ahB A P n s = ahB A Q n s := by
  rcases Classical.em (ahP A P n s) with h | h
  · rw [ahB_t h, ahB_t (fun p p0 p1 => by rw [← hidB_c g ⟨p0, p1⟩]; exact h p p0 p1)]
  · rw [ahB_f h, ahB_f (fun c => h (fun p p0 p1 => by rw [hidB_c g ⟨p0, p1⟩]; exact c p p0 p1))]
noncomputable def kpt (A Q : Int → Int) (n i : Int) : Int := itr (fun s x => if bitc s < bitc x ∧ ahB A Q n s = 1 then s else x) (1 * 2 ^ n.toNat - 1) i
theorem kpt_s {A Q : Int → Int} {n i : Int} (h : 0 ≤ i) : kpt A Q n (i + 1) = if bitc i < bitc (kpt A Q n i) ∧ ahB A Q n i = 1 then i else kpt A Q n i := itr_s h
theorem kpt_c {A P Q : Int → Int} {n i : Int} (g : ∀ j, 0 ≤ j → j < n → ag5 P Q j) : kpt A P n i = kpt A Q n i := itr_c (fun s x _ _ => by rw [ahB_c g])
theorem kpt_b {A Q : Int → Int} {n : Int} (hn : 0 ≤ n ∧ n ≤ 8) {i : Int} (hi : 0 ≤ i ∧ i ≤ 1 * 2 ^ n.toNat) : 0 ≤ kpt A Q n i ∧ kpt A Q n i ≤ 255 := by
  have hpw := pw_b (k := n) (c := 8) (C := 256) rfl (by omega)
  refine itr_i (P := fun _ x => 0 ≤ x ∧ x ≤ 255) (by omega) (n := 1 * 2 ^ n.toNat) (fun s x h0 h1 hx => ?_) hi.1 hi.2
  (try dsimp only)
  split <;> omega
noncomputable def o_hidden (A : Int → Int) (p s : Int) : Int × Int := if rF A = -1 then (if (0 ≤ p ∧ p ≤ rP A - 1) ∧ 0 ≤ s ∧ s ≤ 1 * 2 ^ (rP A).toNat - 1 then (hidB A (rR A) (rP A) p s, -1) else (-2, 0)) else (-3, 1)
noncomputable def o_unh (A : Int → Int) : Int × Int := if rF A = -1 then (unh A (rR A) (rP A) (rP A), -1) else (-3, 1)
noncomputable def o_kept (A : Int → Int) : Int × Int := if rF A = -1 then (kpt A (rR A) (rP A) (1 * 2 ^ (rP A).toNat), -1) else (-3, 1)
