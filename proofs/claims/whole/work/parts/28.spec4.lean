/-! the model's roads to the same -/
def sLk (A : Int → Int) (t m far seen late : Int) : Int := sLike A t m far + (if m = seen then sBon A late else 0)
def sTt (A : Int → Int) (t far seen late : Int) : Int := sm (fun m => sLk A t m far seen late) (A 1)
theorem sLk_b {A : Int → Int} (h : okA A) {t m far seen late : Int} (ht : 0 ≤ t ∧ t < 10) (hm : 0 ≤ m ∧ m < 6) (hf : 0 ≤ far ∧ far ≤ 9) : 0 ≤ sLk A t m far seen late ∧ sLk A t m far seen late ≤ 3000 := by
  have q := sLike_b h ht hm hf
  have q1 := sBon_b h late
  unfold sLk
  split <;> omega
theorem sTt_k {A : Int → Int} (h : okA A) {t far seen late n : Int} (ht : 0 ≤ t ∧ t < 10) (hf : 0 ≤ far ∧ far ≤ 9) (hn : 0 ≤ n ∧ n ≤ A 1) : 0 ≤ sm (fun m => sLk A t m far seen late) n ∧ sm (fun m => sLk A t m far seen late) n ≤ n * 3000 := by
  have q := okA_1 h
  exact sm_b (c := 3000) hn.1 (fun i h0 h1 => sLk_b h ht ⟨h0, by omega⟩ hf)
theorem sTt_b {A : Int → Int} (h : okA A) {t far seen late : Int} (ht : 0 ≤ t ∧ t < 10) (hf : 0 ≤ far ∧ far ≤ 9) : 0 ≤ sTt A t far seen late ∧ sTt A t far seen late ≤ 18000 := by
  have q := okA_1 h
  have q1 := sTt_k h (seen := seen) (late := late) (n := A 1) ht hf ⟨q.1, Int.le_refl _⟩
  unfold sTt
  omega
theorem sLk_0 {A : Int → Int} {t m far late : Int} (hm : 0 ≤ m) : sLk A t m far (-1) late = sLike A t m far := by
  unfold sLk; rw [if_neg (by omega), Int.add_zero]
theorem sTt_0 {A : Int → Int} {t far late : Int} : sTt A t far (-1) late = sTot A t far := sm_c (fun i h0 _ => sLk_0 h0)
theorem sTt_s {A : Int → Int} {t far seen late : Int} (h1 : 0 ≤ A 1) (hs : 0 ≤ seen ∧ seen < A 1) : sTt A t far seen late = sTot A t far + sBon A late := by
  have key : ∀ {k : Int}, 0 ≤ k → k ≤ A 1 → sm (fun m => sLk A t m far seen late) k = sm (fun m => sLike A t m far) k + (if seen < k then sBon A late else 0) := by
    refine itr_i (P := fun k x => x = sm (fun m => sLike A t m far) k + (if seen < k then sBon A late else 0)) ?_ (n := A 1) (fun i x h0 h2 hx => ?_)
    · rw [if_neg (by omega)]; rfl
    · show x + sLk A t i far seen late = _
      rw [hx, sm_s h0]
      unfold sLk
      by_cases e : i = seen
      · rw [if_pos e, if_neg (by omega), if_pos (by omega)]; omega
      · rw [if_neg e]
        by_cases e2 : seen < i
        · rw [if_pos e2, if_pos (by omega)]; omega
        · rw [if_neg e2, if_neg (by omega)]; omega
  have q := key h1 (Int.le_refl _)
  rw [if_pos hs.2] at q
  exact q
theorem bit_p {i t : Int} (hi : 0 ≤ i ∧ i < 10) (ht : 0 ≤ t ∧ t < 10) : bit (1 * 2 ^ i.toNat) t = if t = i then 1 else 0 := by
  have h : ∀ a : Nat, a < 10 → ∀ b : Nat, b < 10 → bit (1 * 2 ^ (a : Int).toNat) (b : Int) = if (b : Int) = (a : Int) then 1 else 0 := by decide +kernel
  obtain ⟨a, rfl⟩ := Int.eq_ofNat_of_zero_le hi.1
  obtain ⟨b, rfl⟩ := Int.eq_ofNat_of_zero_le ht.1
  exact h a (by omega) b (by omega)
theorem sServ_p {A : Int → Int} (h : okA A) {i m : Int} (hi : 0 ≤ i ∧ i < A 0) (hm : 0 ≤ m ∧ m < A 1) : sServ A (1 * 2 ^ i.toNat) m = sThou A i m := by
  have h0 := okA_0 h
  have h1 := okA_1 h
  have q := sThou_b h (t := i) (m := m) (by omega) (by omega)
  have key : ∀ {k : Int}, 0 ≤ k → k ≤ A 0 → itr (fun t x => if bit (1 * 2 ^ i.toNat) t = 1 then gmax x (sThou A t m) else x) 0 k = if i < k then sThou A i m else 0 := by
    refine itr_i (P := fun k x => x = if i < k then sThou A i m else 0) ?_ (n := A 0) (fun t x t0 t1 hx => ?_)
    · rw [if_neg (by omega)]
    · show (if bit (1 * 2 ^ i.toNat) t = 1 then gmax x (sThou A t m) else x) = _
      rw [bit_p (by omega) (by omega)]
      by_cases e : t = i
      · rw [if_pos e, if_pos rfl, if_pos (by omega), hx, if_neg (by omega), e]
        unfold gmax; split <;> omega
      · rw [if_neg e, if_neg (by omega), hx]
        by_cases e2 : i < t
        · rw [if_pos e2, if_pos (by omega)]
        · rw [if_neg e2, if_neg (by omega)]
  have q2 := key h0.1 (Int.le_refl _)
  rw [if_pos hi.2] at q2
  exact q2
theorem sMoreB_n (A : Int → Int) (m i o : Int) : sMoreB A m i o = 0 ∨ sMoreB A m i o = 1 := gB_n
