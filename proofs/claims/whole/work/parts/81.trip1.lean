/-! orders and hands, pure -/
theorem finI {N : Nat} {P : Int → Prop} (h : ∀ s : Fin N, P (s.val : Int)) {s : Int} (hs : 0 ≤ s ∧ s < (N : Int)) : P s := by
  have q := h ⟨s.toNat, by omega⟩
  have e : (((⟨s.toNat, by omega⟩ : Fin N).val : Nat) : Int) = s := by show (s.toNat : Int) = s; omega
  rw [e] at q
  exact q
def chg (A Q : Int → Int) (p q : Int) : Int := (if Q (16 + p) = Q (16 + q) then 0 else A 130) + (if Q (24 + p) = Q (24 + q) then 0 else A 131)
theorem chg_b {A Q : Int → Int} (hA : okA A) (p q : Int) : 0 ≤ chg A Q p q ∧ chg A Q p q ≤ 198 := by
  have := okA_pu hA
  unfold chg; (repeat' split) <;> omega
def stp (A Q : Int → Int) (p q : Int) : Int := if p = -1 then 0 else chg A Q p q
theorem stp_b {A Q : Int → Int} (hA : okA A) (p q : Int) : 0 ≤ stp A Q p q ∧ stp A Q p q ≤ 198 := by
  have := chg_b (Q := Q) hA p q
  unfold stp; split <;> omega
theorem stp_m {A Q : Int → Int} {q : Int} : stp A Q (-1) q = 0 := if_pos rfl
def ini (s : Int) : Int := if s = 0 then 0 else 1000000
/-- the least seconds from the place made last, what is left to be made being told -/
def rsN (A Q : Int → Int) (n : Int) : Nat → Int → Int → Int
  | 0, s, _ => ini s
  | k + 1, s, p => itr (fun q x => if bit s q = 1 then gmin x (stp A Q p q + rsN A Q n k (bdel s q) q) else x) (ini s) n
theorem bdel_y {s k : Int} (h : bit s k = 1) : bdel s k < s := by
  unfold bdel
  rw [if_pos h]
  have : 0 < (2 : Int) ^ k.toNat := Int.pow_pos (by decide)
  omega
theorem bit_0 (q : Int) : bit 0 q = 0 := by unfold bit; rw [Int.zero_ediv]; rfl
theorem rsN_0 {A Q : Int → Int} {n : Int} : ∀ (k : Nat) (p : Int), rsN A Q n k 0 p = 0 := by
  intro k
  cases k with
  | zero => intro p; rfl
  | succ k =>
    intro p
    rcases Int.lt_or_le n 0 with h | h
    · unfold rsN itr; rw [show n.toNat = 0 by omega]; rfl
    · exact itr_i (P := fun _ x => x = 0) rfl (n := n) (fun i x _ _ hx => by (try dsimp only); rw [bit_0, if_neg (by decide)]; exact hx) h (Int.le_refl _)
theorem rsN_f {A Q : Int → Int} {n : Int} (hn : n ≤ 8) : ∀ (k m : Nat) (s p : Int), 0 ≤ s → s < 256 → s ≤ k → s ≤ m → rsN A Q n k s p = rsN A Q n m s p := by
  intro k
  induction k with
  | zero => intro m s p h0 h1 h2 h3; rw [show s = 0 by omega, rsN_0, rsN_0]
  | succ k ih =>
    intro m s p h0 h1 h2 h3
    cases m with
    | zero => rw [show s = 0 by omega, rsN_0, rsN_0]
    | succ m =>
      unfold rsN
      refine itr_c (fun q x q0 q1 => ?_)
      by_cases c : bit s q = 1
      · rw [if_pos c, if_pos c]
        have d := bdel_y c
        have b := bdel_b (s := s) (k := q) ⟨h0, h1⟩ (by omega)
        rw [ih m _ _ b.1 (by omega) (by omega) (by omega)]
      · rw [if_neg c, if_neg c]
def rs (A Q : Int → Int) (n s p : Int) : Int := rsN A Q n s.toNat s p
def mn (A Q : Int → Int) (n s p i : Int) : Int := itr (fun q x => if bit s q = 1 then gmin x (stp A Q p q + rs A Q n (bdel s q) q) else x) (ini s) i
theorem rs_e {A Q : Int → Int} {n s p : Int} (hn : n ≤ 8) (hs : 0 ≤ s ∧ s < 256) : rs A Q n s p = mn A Q n s p n := by
  unfold rs
  rw [rsN_f hn s.toNat (s.toNat + 1) s p hs.1 hs.2 (by omega) (by omega)]
  unfold rsN mn
  refine itr_c (fun q x q0 q1 => ?_)
  by_cases c : bit s q = 1
  · rw [if_pos c, if_pos c]
    have d := bdel_y c
    have b := bdel_b (s := s) (k := q) hs (by omega)
    unfold rs
    rw [rsN_f hn s.toNat (bdel s q).toNat _ _ b.1 (by omega) (by omega) (by omega)]
  · rw [if_neg c, if_neg c]
theorem mn_s {A Q : Int → Int} {n s p i : Int} (h : 0 ≤ i) : mn A Q n s p (i + 1) = if bit s i = 1 then gmin (mn A Q n s p i) (stp A Q p i + rs A Q n (bdel s i) i) else mn A Q n s p i := itr_s h
theorem ini_b (s : Int) : 0 ≤ ini s ∧ ini s ≤ 1000000 := by unfold ini; split <;> omega
theorem rsN_b {A Q : Int → Int} (hA : okA A) {n : Int} : ∀ (k : Nat) (s p : Int), 0 ≤ rsN A Q n k s p ∧ rsN A Q n k s p ≤ 1000000 := by
  intro k
  induction k with
  | zero => intro s p; exact ini_b s
  | succ k ih =>
    intro s p
    rcases Int.lt_or_le n 0 with h | h
    · unfold rsN itr; rw [show n.toNat = 0 by omega]; exact ini_b s
    · refine itr_i (P := fun _ x => 0 ≤ x ∧ x ≤ 1000000) (ini_b s) (n := n) (fun i x _ _ hx => ?_) h (Int.le_refl _)
      have a := stp_b (Q := Q) hA p i
      have b := ih (bdel s i) i
      (try dsimp only)
      unfold gmin
      (repeat' split) <;> omega
theorem rs_b {A Q : Int → Int} (hA : okA A) (n s p : Int) : 0 ≤ rs A Q n s p ∧ rs A Q n s p ≤ 1000000 := rsN_b hA _ s p
theorem mn_b {A Q : Int → Int} (hA : okA A) {n s p i : Int} (hi : 0 ≤ i) : 0 ≤ mn A Q n s p i ∧ mn A Q n s p i ≤ 1000000 := by
  refine itr_i (P := fun _ x => 0 ≤ x ∧ x ≤ 1000000) (ini_b s) (n := i) (fun j x _ _ hx => ?_) hi (Int.le_refl _)
  have a := stp_b (Q := Q) hA p j
  have b := rs_b (Q := Q) hA n (bdel s j) j
  (try dsimp only)
  unfold gmin
  (repeat' split) <;> omega
theorem mn_l {A Q : Int → Int} {n s p i q : Int} (hq : 0 ≤ q ∧ q < i) (hb : bit s q = 1) : mn A Q n s p i ≤ stp A Q p q + rs A Q n (bdel s q) q := by
  have e : q < i → mn A Q n s p i ≤ stp A Q p q + rs A Q n (bdel s q) q := itr_i (P := fun k x => q < k → x ≤ stp A Q p q + rs A Q n (bdel s q) q) (fun c => by omega) (n := i) (fun k x k0 k1 hx c => by
    (try dsimp only)
    rcases Int.lt_or_le q k with z | z
    · have := hx z
      unfold gmin; (repeat' split) <;> omega
    · rw [show k = q by omega, if_pos hb]
      unfold gmin; (repeat' split) <;> omega) (by omega) (Int.le_refl i)
  exact e hq.2
theorem mn_a {A Q : Int → Int} {n s p i : Int} (hi : 0 ≤ i) : mn A Q n s p i = ini s ∨ ∃ q, (0 ≤ q ∧ q < i) ∧ bit s q = 1 ∧ stp A Q p q + rs A Q n (bdel s q) q = mn A Q n s p i := by
  refine itr_i (P := fun k x => x = ini s ∨ ∃ q, (0 ≤ q ∧ q < k) ∧ bit s q = 1 ∧ stp A Q p q + rs A Q n (bdel s q) q = x) (Or.inl rfl) (n := i) (fun k x k0 k1 hx => ?_) hi (Int.le_refl _)
  (try dsimp only)
  by_cases c : bit s k = 1
  · rw [if_pos c]
    by_cases d : stp A Q p k + rs A Q n (bdel s k) k < x
    · unfold gmin; rw [if_pos d]; exact Or.inr ⟨k, by omega, c, rfl⟩
    · unfold gmin; rw [if_neg d]
      rcases hx with h | ⟨q, h1, h2⟩
      · exact Or.inl h
      · exact Or.inr ⟨q, by omega, h2⟩
  · rw [if_neg c]
    rcases hx with h | ⟨q, h1, h2⟩
    · exact Or.inl h
    · exact Or.inr ⟨q, by omega, h2⟩
theorem bx_all : ∀ n : Fin 9, ∀ s : Fin 256, s.val < 2 ^ n.val → s.val ≠ 0 → ∃ q : Fin 8, q.val < n.val ∧ bit (s.val : Int) (q.val : Int) = 1 := by decide +kernel
theorem bx {n s : Int} (hn : 0 ≤ n ∧ n ≤ 8) (hs : 0 < s ∧ s < 1 * 2 ^ n.toNat) : ∃ q, (0 ≤ q ∧ q < n) ∧ bit s q = 1 := by
  have pw := pw_b (k := n) (c := 8) (C := 256) rfl (by omega)
  have e1 : ((2 ^ n.toNat : Nat) : Int) = (2 : Int) ^ n.toNat := by simp
  obtain ⟨q, h1, h2⟩ := bx_all ⟨n.toNat, by omega⟩ ⟨s.toNat, by omega⟩ (by show s.toNat < 2 ^ n.toNat; omega) (by show s.toNat ≠ 0; omega)
  have h1 : q.val < n.toNat := h1
  have h2 : bit ((s.toNat : Nat) : Int) (q.val : Int) = 1 := h2
  rw [show ((s.toNat : Nat) : Int) = s by omega] at h2
  exact ⟨(q.val : Int), by omega, h2⟩
theorem bc_dall : ∀ s : Fin 256, ∀ k : Fin 8, bit (s.val : Int) (k.val : Int) = 1 → bitc (bdel (s.val : Int) (k.val : Int)) = bitc (s.val : Int) - 1 := by decide +kernel
theorem bc_d {s k : Int} (hs : 0 ≤ s ∧ s < 256) (hk : 0 ≤ k ∧ k < 8) (h : bit s k = 1) : bitc (bdel s k) = bitc s - 1 :=
  finI (N := 8) (P := fun k => bit s k = 1 → bitc (bdel s k) = bitc s - 1) (fun k => finI (N := 256) (P := fun s => bit s (k.val : Int) = 1 → bitc (bdel s (k.val : Int)) = bitc s - 1) (fun s => bc_dall s k) hs) hk h
theorem bc_a {n : Int} (hn : 0 ≤ n ∧ n ≤ 8) : bitc (1 * 2 ^ n.toNat - 1) = n :=
  finI (N := 9) (P := fun n => bitc (1 * 2 ^ n.toNat - 1) = n) (by decide +kernel) (by omega)
theorem bc_1 {s : Int} (hs : 0 ≤ s ∧ s < 256) (h : s ≠ 0) : 1 ≤ bitc s :=
  finI (N := 256) (P := fun s => s ≠ 0 → 1 ≤ bitc s) (by decide +kernel) hs h
theorem bc_0 : bitc 0 = 0 := by decide +kernel
theorem rs_s {A Q : Int → Int} (hA : okA A) {n : Int} (hn : 0 ≤ n ∧ n ≤ 8) : ∀ (k : Nat) (s p : Int), 0 ≤ s → s < 1 * 2 ^ n.toNat → s ≤ k → rs A Q n s p ≤ 198 * bitc s := by
  have pw := pw_b (k := n) (c := 8) (C := 256) rfl (by omega)
  intro k
  induction k with
  | zero => intro s p h0 h1 h2; rw [show s = 0 by omega, bc_0]; exact Int.le_of_eq (rsN_0 _ _)
  | succ k ih =>
    intro s p h0 h1 h2
    by_cases z : s = 0
    · rw [z, bc_0]; exact Int.le_of_eq (rsN_0 _ _)
    · obtain ⟨q, hq, hb⟩ := bx hn (s := s) (by omega)
      rw [rs_e hn.2 (by omega)]
      have l := mn_l (A := A) (Q := Q) (n := n) (p := p) hq hb
      have d := bdel_y hb
      have b := bdel_b (s := s) (k := q) (by omega) (by omega)
      have r := ih (bdel s q) q b.1 (by omega) (by omega)
      have c := bc_d (s := s) (k := q) (by omega) (by omega) hb
      have t := stp_b (Q := Q) hA p q
      rw [c] at r
      omega
theorem rs_m {A Q : Int → Int} (hA : okA A) {n s : Int} (hn : 0 ≤ n ∧ n ≤ 8) (hs : 0 ≤ s ∧ s < 1 * 2 ^ n.toNat) (p : Int) : rs A Q n s p ≤ 1980 := by
  have := rs_s (Q := Q) hA hn s.toNat s p hs.1 hs.2 (by omega)
  have := bitc_b s
  omega
/-- some next place goes with the least -/
theorem rs_x {A Q : Int → Int} (hA : okA A) {n s : Int} (hn : 0 ≤ n ∧ n ≤ 8) (hs : 0 < s ∧ s < 1 * 2 ^ n.toNat) (p : Int) : ∃ q, (0 ≤ q ∧ q < n) ∧ bit s q = 1 ∧ stp A Q p q + rs A Q n (bdel s q) q = rs A Q n s p := by
  have pw := pw_b (k := n) (c := 8) (C := 256) rfl (by omega)
  have m := rs_m (Q := Q) hA hn (s := s) (by omega) p
  rw [rs_e hn.2 (by omega)] at m ⊢
  rcases mn_a (A := A) (Q := Q) (n := n) (s := s) (p := p) hn.1 with h | h
  · rw [h] at m; unfold ini at m; rw [if_neg (by omega)] at m; omega
  · exact h
def nxP (A Q : Int → Int) (n s p q : Int) : Prop := bit s q = 1 ∧ stp A Q p q + rs A Q n (bdel s q) q = rs A Q n s p
def fN (A Q : Int → Int) (n s p : Int) : Int := itr (fun q x => if x = -1 then (if bit s q = 1 ∧ stp A Q p q + rs A Q n (bdel s q) q = rs A Q n s p then q else -1) else x) (-1) n
theorem fN_is {A Q : Int → Int} {n s p z : Int} (hz : 0 ≤ z ∧ z < n) (h : nxP A Q n s p z) (h0 : ∀ q, 0 ≤ q → q < z → ¬ nxP A Q n s p q) : fN A Q n s p = z := by
  have e : (n ≤ z → fN A Q n s p = -1) ∧ (z < n → fN A Q n s p = z) := itr_i (P := fun k x => (k ≤ z → x = -1) ∧ (z < k → x = z)) ⟨fun _ => rfl, fun c => by omega⟩ (n := n) (fun k x k0 k1 hx => by
    (try dsimp only)
    rcases Int.lt_trichotomy k z with c | c | c
    · rw [hx.1 (by omega), if_pos rfl, if_neg (show ¬ (bit s k = 1 ∧ stp A Q p k + rs A Q n (bdel s k) k = rs A Q n s p) from h0 k k0 c)]; exact ⟨fun _ => rfl, fun d => by omega⟩
    · rw [hx.1 (by omega), if_pos rfl, c, if_pos (show bit s z = 1 ∧ stp A Q p z + rs A Q n (bdel s z) z = rs A Q n s p from h)]; exact ⟨fun d => by omega, fun _ => rfl⟩
    · rw [hx.2 c, if_neg (by omega)]; exact ⟨fun d => by omega, fun _ => rfl⟩) (by omega) (Int.le_refl n)
  exact e.2 hz.2
/-- what is left and the place made last, behind k places -/
def ord (A Q : Int → Int) (n k : Int) : Int × Int := itr (fun _ (t : Int × Int) => (bdel t.1 (fN A Q n t.1 t.2), fN A Q n t.1 t.2)) (1 * 2 ^ n.toNat - 1, -1) k
theorem ord_s {A Q : Int → Int} {n k : Int} (h : 0 ≤ k) : ord A Q n (k + 1) = (bdel (ord A Q n k).1 (fN A Q n (ord A Q n k).1 (ord A Q n k).2), fN A Q n (ord A Q n k).1 (ord A Q n k).2) := itr_s h
def all1 (n : Int) : Int := 1 * 2 ^ n.toNat - 1
def gr2 (A Q : Int → Int) (n s : Int) : Int := gmax (rs A Q n s (-1)) (rs A Q n (1 * 2 ^ n.toNat - 1 - s) (-1))
theorem gr2_m {A Q : Int → Int} (hA : okA A) {n s : Int} (hn : 0 ≤ n ∧ n ≤ 8) (hs : 0 ≤ s ∧ s < 1 * 2 ^ n.toNat) : 0 ≤ gr2 A Q n s ∧ gr2 A Q n s ≤ 1980 := by
  have a := rs_m (Q := Q) hA hn hs (-1)
  have b := rs_m (Q := Q) hA hn (s := 1 * 2 ^ n.toNat - 1 - s) (by omega) (-1)
  have c := rs_b (Q := Q) hA n s (-1)
  have d := rs_b (Q := Q) hA n (1 * 2 ^ n.toNat - 1 - s) (-1)
  unfold gr2 gmax; split <;> omega
def spl (A Q : Int → Int) (n i : Int) : Int × Int := itr (fun s (t : Int × Int) => if gr2 A Q n s < t.2 then (s, gr2 A Q n s) else t) (0, 1000000) i
theorem spl_s {A Q : Int → Int} {n i : Int} (h : 0 ≤ i) : spl A Q n (i + 1) = if gr2 A Q n i < (spl A Q n i).2 then (i, gr2 A Q n i) else spl A Q n i := itr_s h
theorem spl_1 {A Q : Int → Int} (hA : okA A) {n : Int} (hn : 0 ≤ n ∧ n ≤ 8) : spl A Q n 1 = (0, gr2 A Q n 0) := by
  have pw := pw_b (k := n) (c := 8) (C := 256) rfl (by omega)
  have g := gr2_m (Q := Q) hA hn (s := 0) (by omega)
  have e := spl_s (A := A) (Q := Q) (n := n) (i := 0) (by decide)
  rw [show (0 : Int) + 1 = 1 from rfl] at e
  rw [e]
  exact if_pos (by show gr2 A Q n 0 < 1000000; omega)
theorem spl_g {A Q : Int → Int} (hA : okA A) {n : Int} (hn : 0 ≤ n ∧ n ≤ 8) {i : Int} (hi : 1 ≤ i ∧ i ≤ 1 * 2 ^ n.toNat) : (0 ≤ (spl A Q n i).1 ∧ (spl A Q n i).1 < i) ∧ (spl A Q n i).2 = gr2 A Q n (spl A Q n i).1 := by
  obtain ⟨m, hm⟩ := Int.eq_ofNat_of_zero_le (show 0 ≤ i - 1 by omega)
  have e : ∀ m : Nat, (0 ≤ (spl A Q n ((m : Int) + 1)).1 ∧ (spl A Q n ((m : Int) + 1)).1 < (m : Int) + 1) ∧ (spl A Q n ((m : Int) + 1)).2 = gr2 A Q n (spl A Q n ((m : Int) + 1)).1 := by
    intro m
    induction m with
    | zero => rw [show ((0 : Nat) : Int) + 1 = 1 from rfl, spl_1 hA hn]; exact ⟨by dsimp only; omega, rfl⟩
    | succ m ih =>
      rw [show ((m + 1 : Nat) : Int) + 1 = ((m : Int) + 1) + 1 by omega, spl_s (by omega)]
      split
      · exact ⟨by dsimp only; omega, rfl⟩
      · exact ⟨by omega, ih.2⟩
  have q := e m
  rw [show (m : Int) + 1 = i by omega] at q
  exact q
/-- the tables -/
def stT (A Q : Int → Int) (n : Int) (zs : Int → Int) : Prop := ∀ p, 0 ≤ p → p < n → ∀ q, 0 ≤ q → q < n → zs (8 * p + q) = chg A Q p q
def rtT (A Q : Int → Int) (n L : Int) (zr : Int → Int) : Prop := ∀ s, 0 ≤ s → s < L → ∀ q, 0 ≤ q → q < n → zr (8 * s + q) = rs A Q n s q
theorem chg_c {A P Q : Int → Int} {p q : Int} (gp : ag5 P Q p) (gq : ag5 P Q q) : chg A P p q = chg A Q p q := by
  unfold chg; rw [gp.2.2.1, gp.2.2.2.1, gq.2.2.1, gq.2.2.2.1]
theorem rsN_c {A P Q : Int → Int} {n : Int} (hn : n ≤ 8) (g : ∀ j, 0 ≤ j → j < n → ag5 P Q j) : ∀ (k : Nat) (s p : Int), -1 ≤ p → p < n → rsN A P n k s p = rsN A Q n k s p := by
  intro k
  induction k with
  | zero => intro s p h0 h1; rfl
  | succ k ih =>
    intro s p h0 h1
    unfold rsN
    refine itr_c (fun q x q0 q1 => ?_)
    have e : stp A P p q = stp A Q p q := by
      unfold stp
      by_cases c : p = -1
      · rw [if_pos c, if_pos c]
      · rw [if_neg c, if_neg c]; exact chg_c (g p (by omega) h1) (g q q0 q1)
    rw [e, ih (bdel s q) q (by omega) q1]
theorem rs_c {A P Q : Int → Int} {n s p : Int} (hn : n ≤ 8) (g : ∀ j, 0 ≤ j → j < n → ag5 P Q j) (hp : -1 ≤ p ∧ p < n) : rs A P n s p = rs A Q n s p := rsN_c hn g _ _ _ hp.1 hp.2
theorem stT_c {A P Q : Int → Int} {n : Int} {zs : Int → Int} (g : ∀ j, 0 ≤ j → j < n → ag5 P Q j) (h : stT A P n zs) : stT A Q n zs := fun p p0 p1 q q0 q1 => by rw [h p p0 p1 q q0 q1, chg_c (g p p0 p1) (g q q0 q1)]
theorem rtT_c {A P Q : Int → Int} {n L : Int} {zr : Int → Int} (hn : n ≤ 8) (g : ∀ j, 0 ≤ j → j < n → ag5 P Q j) (h : rtT A P n L zr) : rtT A Q n L zr := fun s s0 s1 q q0 q1 => by rw [h s s0 s1 q q0 q1, rs_c hn g ⟨by omega, q1⟩]
theorem iI_nall : ∀ n : Fin 9, ∀ s : Fin 256, s.val < 2 ^ n.val → iI (1 * 2 ^ ((n.val : Int)).toNat - 1) &&& iI ((iI (s.val : Int) ^^^ iI (-1)).toInt) = iI (1 * 2 ^ ((n.val : Int)).toNat - 1 - (s.val : Int)) := by decide +kernel
theorem iI_nt {n s : Int} (hn : 0 ≤ n ∧ n ≤ 8) (hs : 0 ≤ s ∧ s < 1 * 2 ^ n.toNat) : iI (1 * 2 ^ n.toNat - 1) &&& iI ((iI s ^^^ iI (-1)).toInt) = iI (1 * 2 ^ n.toNat - 1 - s) := by
  have pw := pw_b (k := n) (c := 8) (C := 256) rfl (by omega)
  have e1 : ((2 ^ n.toNat : Nat) : Int) = (2 : Int) ^ n.toNat := by simp
  have q := iI_nall ⟨n.toNat, by omega⟩ ⟨s.toNat, by omega⟩ (by show s.toNat < 2 ^ n.toNat; omega)
  have q : iI (1 * 2 ^ ((n.toNat : Nat) : Int).toNat - 1) &&& iI ((iI ((s.toNat : Nat) : Int) ^^^ iI (-1)).toInt) = iI (1 * 2 ^ ((n.toNat : Nat) : Int).toNat - 1 - ((s.toNat : Nat) : Int)) := q
  rw [show ((n.toNat : Nat) : Int) = n by omega, show ((s.toNat : Nat) : Int) = s by omega] at q
  exact q
def o_order (A : Int → Int) (i : Int) : Int × Int := if rF A = -1 then (if i < -1 then (-2, 0) else if rP A ≤ i then (-5, -1) else if i = -1 then (rs A (rR A) (rP A) (1 * 2 ^ (rP A).toNat - 1) (-1), -1) else ((ord A (rR A) (rP A) (i + 1)).2, -1)) else (-3, 1)
def o_hands (A : Int → Int) (w : Int) : Int × Int := if rF A = -1 then (if 0 ≤ w ∧ w ≤ 1 then (if w = 1 then (spl A (rR A) (rP A) (1 * 2 ^ (rP A).toNat)).1 else gr2 A (rR A) (rP A) (spl A (rR A) (rP A) (1 * 2 ^ (rP A).toNat)).1, -1) else (-2, 0)) else (-3, 1)
