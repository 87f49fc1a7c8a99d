/-! counts of bits, the best of three -/
def shr (a b : Int) : Int := ((iI a).toUInt32 >>> ((iI b).toUInt32 &&& Int32.toUInt32 31)).toInt32.toInt
def and32 (a b : Int) : Int := (iI a &&& iI b).toInt
theorem shr_h (a b : Int) : ((iI a).toUInt32 >>> ((iI b).toUInt32 &&& Int32.toUInt32 31)).toInt32 = iI (shr a b) := iI_ti _
theorem and32_h (a b : Int) : iI a &&& iI b = iI (and32 a b) := iI_ti _
def pc1 (s : Int) : Int := s - and32 (shr s 1) 1431655765
def pc2 (x : Int) : Int := and32 x 858993459 + and32 (shr x 2) 858993459
def pc3 (x : Int) : Int := and32 (x + shr x 4) 252645135
def pc4 (x : Int) : Int := x + shr x 8
def pc5 (x : Int) : Int := x + shr x 16
theorem bc_all : ∀ n : Nat, n < 1024 → and32 (pc5 (pc4 (pc3 (pc2 (pc1 (n : Int)))))) 63 = bitc (n : Int) := by decide +kernel
theorem bc_eq {s : Int} (h : 0 ≤ s ∧ s < 1024) : and32 (pc5 (pc4 (pc3 (pc2 (pc1 s))))) 63 = bitc s := by
  obtain ⟨n, rfl⟩ := Int.eq_ofNat_of_zero_le h.1
  exact bc_all n (by omega)
theorem sWorth_c {A : Int → Int} (h : okA A) (s : Int) : 0 ≤ sWorth A s ∧ sWorth A s ≤ 594000 := by
  have h1 := okA_1 h
  have q := sWorth_b h (s := s) (n := A 1) ⟨h1.1, Int.le_refl _⟩
  unfold sWorth
  omega
theorem gabs_n (x : Int) : 0 ≤ gabs x := by unfold gabs; split <;> omega
theorem sFar3_t {A : Int → Int} (h : okA A) {i j k m b : Int} (hi : 0 ≤ i ∧ i < 10) (hj : 0 ≤ j ∧ j < 10) (hk : 0 ≤ k ∧ k < 10) (hm : 0 ≤ m ∧ m < 6) (hb : 0 ≤ b ∧ b < 6) : 0 ≤ sLoud A i b 0 + sLoud A j b 0 + sLoud A k b 0 ∧ sLoud A i b 0 + sLoud A j b 0 + sLoud A k b 0 ≤ 2376 ∧ (0 ≤ gmin 799 (sLoud A i b 0 + sLoud A j b 0 + sLoud A k b 0) ∧ gmin 799 (sLoud A i b 0 + sLoud A j b 0 + sLoud A k b 0) ≤ 799) ∧ (0 ≤ A (91 + 6 * m + b) ∧ A (91 + 6 * m + b) ≤ 799) ∧ 0 ≤ gabs (gmin 799 (sLoud A i b 0 + sLoud A j b 0 + sLoud A k b 0) - A (91 + 6 * m + b)) ∧ gabs (gmin 799 (sLoud A i b 0 + sLoud A j b 0 + sLoud A k b 0) - A (91 + 6 * m + b)) ≤ 799 := by
  have q1 := sLoud_b h (far := 0) hi hb (by omega)
  have q2 := sLoud_b h (far := 0) hj hb (by omega)
  have q3 := sLoud_b h (far := 0) hk hb (by omega)
  have q4 := okA_wa h (j := 6 * m + b) (by omega)
  rw [show 91 + (6 * m + b) = 91 + 6 * m + b by omega] at q4
  have q5 : 0 ≤ gmin 799 (sLoud A i b 0 + sLoud A j b 0 + sLoud A k b 0) ∧ gmin 799 (sLoud A i b 0 + sLoud A j b 0 + sLoud A k b 0) ≤ 799 := by unfold gmin; split <;> omega
  exact ⟨by omega, by omega, q5, q4, gabs_b (by omega)⟩
theorem sFar3_b {A : Int → Int} (h : okA A) {i j k m : Int} (hi : 0 ≤ i ∧ i < 10) (hj : 0 ≤ j ∧ j < 10) (hk : 0 ≤ k ∧ k < 10) (hm : 0 ≤ m ∧ m < 6) : 0 ≤ sFar3 A i j k m ∧ sFar3 A i j k m ≤ 4794 :=
  sm_b (n := 6) (c := 799) (by omega) (fun b h0 h1 => (sFar3_t h hi hj hk hm ⟨h0, h1⟩).2.2.2.2)
theorem b3_skip {A : Int → Int} {m c c' : Int} (h0 : 0 ≤ c) (h : c ≤ c') (hs : ∀ e, c ≤ e → e < c' → ¬ (e / 100 < e / 10 % 10 ∧ e / 10 % 10 < e % 10 ∧ e % 10 < A 0)) : itr (sB3 A m) (0, 1000000) c = itr (sB3 A m) (0, 1000000) c' := by
  obtain ⟨n, rfl⟩ : ∃ n : Nat, c' = c + n := ⟨(c' - c).toNat, by omega⟩
  induction n with
  | zero => rw [show c + ((0 : Nat) : Int) = c by omega]
  | succ n ih =>
    rw [ih (by omega) (fun e e0 e1 => hs e e0 (by omega)), show c + ((n + 1 : Nat) : Int) = (c + (n : Int)) + 1 by omega, itr_s (i := c + (n : Int)) (by omega)]
    exact (if_neg (hs (c + (n : Int)) (by omega) (by omega))).symm
theorem b3_step {A : Int → Int} {m i j k : Int} {p : Int × Int} (hi : 0 ≤ i) (hij : i < j) (hjk : j < k) (hk : k < A 0) (h10 : A 0 ≤ 10) : sB3 A m (100 * i + 10 * j + k) p = if sFar3 A i j k m < p.2 then (100 * i + 10 * j + k, sFar3 A i j k m) else p := by
  have e1 : (100 * i + 10 * j + k) / 100 = i := by omega
  have e2 : (100 * i + 10 * j + k) / 10 % 10 = j := by omega
  have e3 : (100 * i + 10 * j + k) % 10 = k := by omega
  unfold sB3
  rw [e1, e2, e3, if_pos (by omega)]
theorem wj_265 : (Jvm.Cond.constant "java/lang/Integer" (265 : Nat) (1431655765 : Int32)) ∈ gAL := gAL_go (i := 598) (by decide +kernel) rfl
theorem kc_J6_265 : Cond.constant RJ6 265 (iI (1431655765)) ∈ gAL := wj_265
theorem wj_266 : (Jvm.Cond.constant "java/lang/Integer" (266 : Nat) (858993459 : Int32)) ∈ gAL := gAL_go (i := 599) (by decide +kernel) rfl
theorem kc_J6_266 : Cond.constant RJ6 266 (iI (858993459)) ∈ gAL := wj_266
theorem wj_267 : (Jvm.Cond.constant "java/lang/Integer" (267 : Nat) (252645135 : Int32)) ∈ gAL := gAL_go (i := 600) (by decide +kernel) rfl
theorem kc_J6_267 : Cond.constant RJ6 267 (iI (252645135)) ∈ gAL := wj_267
theorem all_s {P : Int → Prop} {j : Int} (h : ∀ q, 0 ≤ q → q < j → P q) (hj : P j) : ∀ q, 0 ≤ q → q < j + 1 → P q := fun q h0 h1 => by
  by_cases e : q = j
  · rw [e]; exact hj
  · exact h q h0 (by omega)
theorem all_0 {P : Int → Prop} : ∀ q : Int, 0 ≤ q → q < 0 → P q := fun q h0 h1 => by omega
theorem b3_skip2 {A : Int → Int} {m c c' : Int} (h0 : 0 ≤ c) (h : c ≤ c') (hs : ∀ s t u, c ≤ 100 * s + 10 * t + u → 100 * s + 10 * t + u < c' → 0 ≤ t → t ≤ 9 → 0 ≤ u → u ≤ 9 → s < t → t < u → u < A 0 → False) : itr (sB3 A m) (0, 1000000) c = itr (sB3 A m) (0, 1000000) c' :=
  b3_skip h0 h (fun e e0 e1 q => hs (e / 100) (e / 10 % 10) (e % 10) (by omega) (by omega) (by omega) (by omega) (by omega) (by omega) q.1 q.2.1 q.2.2)
