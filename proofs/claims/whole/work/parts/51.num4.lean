/-! the class's numbers: n digits, the highest one not 0 -/
theorem lL_nat {a : Int} (h : 0 ≤ a) : lL a = Int64.ofNat a.toNat := by
  have e : lL ((a.toNat : Nat) : Int) = Int64.ofNat a.toNat := Int64.ofInt_eq_ofNat
  rw [← e]; exact congrArg lL (Int.toNat_of_nonneg h).symm
theorem lL_and {a b : Int} (ha : 0 ≤ a) (hb : 0 ≤ b) : lL a &&& lL b = lL ((a.toNat &&& b.toNat : Nat) : Int) := by
  rw [lL_nat ha, lL_nat hb, lL_nat (Int.natCast_nonneg _), Int.toNat_natCast]
  apply Int64.toBitVec_inj.mp
  show BitVec.ofNat 64 _ &&& BitVec.ofNat 64 _ = BitVec.ofNat 64 _
  rw [BitVec.ofNat_and]
theorem lL_low {a : Int} (ha : 0 ≤ a) : lL a &&& lL 1073741823 = lL (a % 1073741824) := by
  rw [lL_and ha (by decide)]
  obtain ⟨x, rfl⟩ := Int.eq_ofNat_of_zero_le ha
  rw [Int.toNat_natCast, show (1073741823 : Int).toNat = 2 ^ 30 - 1 from rfl, Nat.and_two_pow_sub_one_eq_mod]
  exact congrArg lL (by omega)
theorem lL_am : ((iI 30).toInt64 &&& 63).toBitVec.smod 64 = BitVec.ofNat 64 30 := by decide +kernel
theorem lL_shr {a : Int} (ha : 0 ≤ a ∧ a < 9223372036854775808) : lL a >>> ((iI 30).toInt64 &&& 63) = lL (a / 1073741824) := by
  apply Int64.toInt_inj.mp
  have e : (lL a >>> ((iI 30).toInt64 &&& 63)).toInt = (lL a).toInt >>> 30 := by
    show ((lL a).toBitVec.sshiftRight (((iI 30).toInt64 &&& 63).toBitVec.smod 64).toNat).toInt = _
    rw [lL_am, BitVec.toInt_sshiftRight]; rfl
  rw [e, lL_t (by omega), lL_t (by omega), Int.shiftRight_eq_div_pow]; rfl
theorem lL_shl {a : Int} (ha : 0 ≤ a) : lL a <<< ((iI 30).toInt64 &&& 63) = lL (a * 1073741824) := by
  rw [lL_nat ha, lL_nat (Int.mul_nonneg ha (by decide))]
  apply Int64.toBitVec_inj.mp
  show (BitVec.ofNat 64 a.toNat) <<< (((iI 30).toInt64 &&& 63).toBitVec.smod 64).toNat = BitVec.ofNat 64 (a * 1073741824).toNat
  rw [lL_am]
  apply BitVec.eq_of_toNat_eq
  rw [show (BitVec.ofNat 64 30).toNat = 30 from rfl, BitVec.toNat_shiftLeft, BitVec.toNat_ofNat, BitVec.toNat_ofNat, Nat.shiftLeft_eq, Nat.mod_mul_mod]
  exact congrArg (· % 2 ^ 64) (by omega)
def lm0 (d : Int → Int) (n P : Int) : Prop := (∀ j, 0 ≤ j → j < 8 → 0 ≤ d j ∧ d j < 1073741824) ∧ (0 ≤ n ∧ n ≤ 8) ∧ hv d 0 n.toNat = P
def lm (d : Int → Int) (n P : Int) : Prop := lm0 d n P ∧ (n = 0 ∨ d (n - 1) ≠ 0)
def B8 : Int := 1073741824 ^ 8
theorem lm0_b {d : Int → Int} {n P : Int} (h : lm0 d n P) : 0 ≤ P ∧ P < 1073741824 ^ n.toNat := by
  rw [← h.2.2]; exact hv_b (fun k k0 k1 => h.1 k k0 (by have := h.2.1; omega))
theorem lm_b {d : Int → Int} {n P : Int} (h : lm d n P) : 0 ≤ P ∧ P < B8 := by
  have q := lm0_b h.1
  have p := pwB (a := n.toNat) (b := 8) (by have := h.1.2.1; omega)
  unfold B8; omega
def pD (d : Int → Int) (n c : Int) : Int → Int := if 0 < c ∧ n < 8 then gupd d n c else d
def pN (n c : Int) : Int := if 0 < c ∧ n < 8 then n + 1 else n
theorem hv_snoc : ∀ {n : Nat} {f : Int → Int} {s : Int}, hv f s (n + 1) = hv f s n + 1073741824 ^ n * f (s + (n : Int)) := by
  intro n
  induction n with
  | zero => intro f s; show f s + 1073741824 * 0 = 0 + 1 * f (s + 0); rw [Int.add_zero]; omega
  | succ n ih =>
    intro f s
    have q := ih (f := f) (s := s + 1)
    rw [show s + 1 + (n : Int) = s + ((n + 1 : Nat) : Int) by omega] at q
    show f s + 1073741824 * hv f (s + 1) (n + 1) = f s + 1073741824 * hv f (s + 1) n + 1073741824 ^ (n + 1) * f (s + ((n + 1 : Nat) : Int))
    rw [q, Int.pow_succ, Int.mul_comm (1073741824 ^ n) 1073741824, Int.mul_assoc]; omega
theorem lm_push {d : Int → Int} {n P c : Int} (h : lm0 d n P) (hc : 0 ≤ c ∧ c < 1073741824) (hP : P + 1073741824 ^ n.toNat * c < B8) : lm0 (pD d n c) (pN n c) (P + 1073741824 ^ n.toNat * c) ∧ (c ≠ 0 → lm (pD d n c) (pN n c) (P + 1073741824 ^ n.toNat * c)) := by
  have hb := lm0_b h
  have h1 := h.2.1
  have pp : 0 < (1073741824 : Int) ^ n.toNat := Int.pow_pos (by decide)
  rcases Int.lt_or_le 0 c with q | q
  · have m := Int.mul_le_mul_of_nonneg_left (show 1 ≤ c by omega) (Int.le_of_lt pp)
    rw [Int.mul_one] at m
    have hn : n < 8 := by
      rcases Int.lt_or_le n 8 with r | r
      · exact r
      · exfalso
        have : n.toNat = 8 := by omega
        rw [this] at m hP
        unfold B8 at hP
        omega
    have e1 : pD d n c = gupd d n c := if_pos ⟨q, hn⟩
    have e2 : pN n c = n + 1 := if_pos ⟨q, hn⟩
    have l : lm (gupd d n c) (n + 1) (P + 1073741824 ^ n.toNat * c) := by
      refine ⟨⟨fun j j0 j1 => ?_, by omega, ?_⟩, Or.inr ?_⟩
      · unfold gupd; split
        · omega
        · exact h.1 j j0 j1
      · have a : hv (gupd d n c) 0 n.toNat = hv d 0 n.toNat := hv_c (fun k k0 k1 => gupd_n (by omega))
        rw [show (n + 1).toNat = n.toNat + 1 by omega, hv_snoc, a, h.2.2, show (0 : Int) + ((n.toNat : Nat) : Int) = n by omega, gupd_s]
      · rw [show n + 1 - 1 = n by omega, gupd_s]; omega
    rw [e1, e2]
    exact ⟨l.1, fun _ => l⟩
  · have z : c = 0 := by omega
    subst z
    rw [show pD d n 0 = d from if_neg (by omega), show pN n 0 = n from if_neg (by omega), Int.mul_zero, Int.add_zero]
    exact ⟨h, fun x => absurd rfl x⟩
theorem lm_drop {d : Int → Int} {n P : Int} (h : lm0 d n P) (hn : 1 ≤ n) (hd : d (n - 1) = 0) : lm0 d (n - 1) P := by
  have h1 := h.2.1
  refine ⟨h.1, by omega, ?_⟩
  rw [← h.2.2, show n.toNat = (n - 1).toNat + 1 by omega, hv_snoc, show (0 : Int) + (((n - 1).toNat : Nat) : Int) = n - 1 by omega, hd, Int.mul_zero, Int.add_zero]
theorem lm_ge {d : Int → Int} {n P : Int} (h : lm d n P) (hn : 1 ≤ n) : 1073741824 ^ (n - 1).toNat ≤ P := by
  have h1 := h.1.2.1
  have d1 : dgs d 0 ((n - 1).toNat + 1) := fun k k0 k1 => h.1.1 k k0 (by omega)
  have g := hv_ge d1
  rw [show (n - 1).toNat + 1 = n.toNat by omega, h.1.2.2, show (0 : Int) + (((n - 1).toNat : Nat) : Int) = n - 1 by omega] at g
  have q := h.1.1 (n - 1) (by omega) (by omega)
  have p := h.2
  have pp : 0 < (1073741824 : Int) ^ (n - 1).toNat := Int.pow_pos (by decide)
  have m := Int.mul_le_mul_of_nonneg_left (show 1 ≤ d (n - 1) by omega) (Int.le_of_lt pp)
  rw [Int.mul_one] at m
  omega
theorem lm_n {d : Int → Int} {n P : Int} (h : lm d n P) : n = lims P := by
  have h1 := h.1.2.1
  refine (lims_is (by omega) ?_ (lm0_b h.1).2).symm
  rcases Int.lt_or_le 0 n with q | q
  · exact Or.inr (lm_ge h (by omega))
  · exact Or.inl (by omega)
theorem lm_dig {d : Int → Int} {n P i : Int} (h : lm d n P) (hi : 0 ≤ i ∧ i < n) : d i = dig P i := by
  have h1 := h.1.2.1
  have q := hv_dig (n := n.toNat) (f := d) (s := 0) (i := i.toNat) (fun k k0 k1 => h.1.1 k k0 (by omega)) (by omega)
  rw [h.1.2.2, show (0 : Int) + ((i.toNat : Nat) : Int) = i by omega] at q
  exact q
theorem lm_0 {d : Int → Int} {n : Int} (h : lm d n 0) : n = 0 := by
  rcases Int.lt_or_le 0 n with q | q
  · have g := lm_ge h (by omega)
    have pp : 0 < (1073741824 : Int) ^ (n - 1).toNat := Int.pow_pos (by decide)
    omega
  · have := h.1.2.1; omega
theorem lm_p {d : Int → Int} {n P : Int} (h : lm d n P) : n = 0 ↔ P = 0 := by
  constructor
  · intro e; rw [← h.1.2.2, e]; rfl
  · intro e; rw [e] at h; exact lm_0 h
/-- times -/
def Y_mul (d : Int → Int) (v : Int) : Int → Int := fun k => d k * v
theorem lm_cy {d g X : Int → Int} {n P c : Int} (hd : ∀ j, 0 ≤ j → j < 8 → 0 ≤ d j ∧ d j < 1073741824) (hn : 0 ≤ n ∧ n ≤ 8) (hX : hv X 0 n.toNat = P) (h : fup 0 n (F_cy X) d g) (hc : c = cyc X n) : ∃ R, lm0 g n R ∧ R + 1073741824 ^ n.toNat * c = P := by
  have hF : ∀ k, 0 ≤ F_cy X k ∧ F_cy X k < 1073741824 := fun k => ⟨Int.emod_nonneg _ (by decide), Int.emod_lt_of_pos _ (by decide)⟩
  refine ⟨hv g 0 n.toNat, ⟨fun j j0 j1 => ?_, hn, rfl⟩, ?_⟩
  · rcases Int.lt_or_le j n with q | q
    · have e := h.1 j j0 q; rw [Int.zero_add] at e; rw [e]; exact hF j
    · rw [h.2 j (Or.inr (by omega))]; exact hd j j0 j1
  · have e := hv_cy (n := n.toNat) (g := g) (X := X) (c := cyc X) (s := 0) (fun b b0 b1 => by
      have q := h.1 b b0 (by omega)
      rw [Int.zero_add] at q
      rw [q, cyc_s b0]; unfold F_cy; omega)
    rw [show (0 : Int) + ((n.toNat : Nat) : Int) = n by omega, ← hc, hX, show cyc X 0 = 0 from rfl, Int.add_zero] at e
    exact e
/-- digits, 0 beyond -/
def dgt (d : Int → Int) (n k : Int) : Int := if k < n then d k else 0
theorem dgt_v {d : Int → Int} {n L P : Int} (h : lm0 d n P) (hL : n ≤ L ∧ L ≤ 8) : hv (dgt d n) 0 L.toNat = P := by
  have h1 := h.2.1
  obtain ⟨m, hm⟩ := Nat.le.dest (show n.toNat ≤ L.toNat by omega)
  rw [← hm, hv_top (f := dgt d n) (fun b b0 b1 => if_neg (by omega)), ← h.2.2]
  exact hv_c (fun k k0 k1 => by rw [Int.zero_add]; exact if_pos (by omega))
theorem dgt_b {d : Int → Int} {n P k : Int} (h : lm0 d n P) (hk : 0 ≤ k ∧ k < 8) : 0 ≤ dgt d n k ∧ dgt d n k < 1073741824 := by
  have := h.1 k hk.1 hk.2
  unfold dgt; split <;> omega
def Y_add (d e : Int → Int) (n m : Int) : Int → Int := fun k => dgt d n k + dgt e m k
theorem Y_add_v {d e : Int → Int} {n m L P Q : Int} (h1 : lm0 d n P) (h2 : lm0 e m Q) (hn : n ≤ L) (hm : m ≤ L) (hL : L ≤ 8) : hv (Y_add d e n m) 0 L.toNat = P + Q := by
  have q := hv_add (n := L.toNat) (f := dgt d n) (g := dgt e m) (s := 0) (p := 0)
  rw [Int.add_zero, dgt_v h1 ⟨hn, hL⟩, dgt_v h2 ⟨hm, hL⟩] at q
  rw [← q]
  exact hv_c (fun k k0 k1 => by show dgt d n (0 + k) + dgt e m (0 + k) = dgt d n (0 + k) + dgt e m (0 + (0 + k)); rw [Int.zero_add, Int.zero_add])
/-- rests, from above -/
def rst (d : Int → Int) (n v k : Int) : Int := hv d k (n - k).toNat % v
def F_dv (d : Int → Int) (n v : Int) : Int → Int := fun k => (rst d n v (k + 1) * 1073741824 + d k) / v
theorem rst_s {d : Int → Int} {n v k : Int} (hk : k < n) : (rst d n v (k + 1) * 1073741824 + d k) % v = rst d n v k := by
  unfold rst
  rw [show (n - k).toNat = (n - (k + 1)).toNat + 1 by omega]
  show _ = (d k + 1073741824 * hv d (k + 1) (n - (k + 1)).toNat) % v
  rw [Int.add_comm (d k), Int.mul_comm 1073741824, Int.add_emod, Int.mul_emod, Int.emod_emod, ← Int.mul_emod, ← Int.add_emod]
theorem rst_n {d : Int → Int} {n v : Int} : rst d n v n = 0 := by unfold rst; rw [show (n - n).toNat = 0 by omega]; exact Int.zero_emod v
theorem rst_0 {d : Int → Int} {n v P : Int} (h : lm0 d n P) : rst d n v 0 = P % v := by unfold rst; rw [show n - 0 = n by omega, h.2.2]
theorem rst_b {d : Int → Int} {n v k : Int} (hv' : 1 ≤ v) : 0 ≤ rst d n v k ∧ rst d n v k < v := ⟨Int.emod_nonneg _ (by omega), Int.emod_lt_of_pos _ (by omega)⟩
theorem lm_dv {d g : Int → Int} {n v P : Int} (h : lm0 d n P) (hv' : 1 ≤ v) (hg : fdn 0 (-1) n (F_dv d n v) d g) : lm0 g n (P / v) := by
  have h1 := h.2.1
  refine ⟨fun j j0 j1 => ?_, h1, ?_⟩
  · rcases Int.lt_or_le j n with q | q
    · have e := hg.1 j (by omega) q
      have r := rst_b (d := d) (n := n) (k := j + 1) hv'
      have b := h.1 j j0 j1
      rw [Int.zero_add] at e
      rw [e]
      unfold F_dv
      refine ⟨Int.ediv_nonneg (by omega) (by omega), Int.ediv_lt_of_lt_mul (by omega) ?_⟩
      have m := Int.mul_le_mul_of_nonneg_right (show rst d n v (j + 1) ≤ v - 1 by omega) (show (0 : Int) ≤ 1073741824 by decide)
      rw [Int.sub_mul] at m
      rw [Int.mul_comm]
      omega
    · rw [hg.2 j (Or.inr (by omega))]; exact h.1 j j0 j1
  · have e := hv_dv (n := n.toNat) (g := g) (f := d) (r := rst d n v) (d := v) (s := 0) (fun b b0 b1 => by
      have q := hg.1 b (by omega) (by omega)
      rw [Int.zero_add] at q
      rw [q, ← rst_s (d := d) (n := n) (v := v) (k := b) (by omega)]
      unfold F_dv
      rw [Int.mul_comm]; exact Int.mul_ediv_add_emod _ _)
    rw [show (0 : Int) + ((n.toNat : Nat) : Int) = n by omega, rst_n, Int.mul_zero, Int.add_zero, h.2.2, rst_0 h] at e
    have e2 : hv g 0 n.toNat * v = P - P % v := by omega
    have e3 := Int.emod_add_mul_ediv P v
    have e4 : hv g 0 n.toNat * v = (P / v) * v := by rw [e2, Int.mul_comm (P / v)]; omega
    exact Int.eq_of_mul_eq_mul_right (by omega) e4
