/-! own kit, 4: calls, the entry and the end of a method -/
theorem g_preS {D : va_G} {cI cZ : ClassId} {s : State} {H : Heap} {A : Nat → Prop} {As : List Value} {ws w : va_W} (hE : gE D cI cZ s) (hP : va_P D vwCl ws H) (hD : va_D A ws) (isC : List Nat) (hC : isC.map (fun i => ws[i]?) = w.map some) (hn : va_nd isC = true) : PreS s H (gPc D cI cZ As H.size w) As :=
  ⟨gPc_blind, fun U hU hW => ⟨rfl, by rw [hU], by rw [hU]; exact hP.sub isC (g_fm hC), hE.warm hW, (hD.sub isC hn hC).weaken (fun _ _ _ _ => trivial)⟩⟩
section GK3
variable {l : Launch} {D : va_G} {cI cZ : ClassId} {cc : ByteArray} {nL : Nat} {own nm : String} {R : Room} {ro : Bool} {V : Nat → Nat → va_W → Nat → List (Nat × Value) → List Value → Prop}
variable {cn sl pc : Nat} {ws wr w : va_W} {lv : List (Nat × Value)} {st stk : List Value}
variable {y : MethodName} {bytes : ByteArray} {maxL n idx mc ms : Nat} {ret : Option FieldType} {rm : Room} {As : List Value} {Post : Option Value → va_W → Prop}
theorem g_callVr (X : GK l D cI cZ cc nL own nm R ro V) {b ci q0 : Nat} {fs : List Value} (M : GM l D cI cZ y bytes maxL ret rm 0 0 true (.ref b :: As) w Post) (L : gLkV own idx y bytes maxL ret n) (d : decode cc pc = .ok (.invokevirtual idx, 3)) (isC : List Nat) (hC : isC.map (fun i => ws[i]?) = w.map some) (hn : va_nd isC = true) (hq : w[q0]? = some (b, .inr (ci, fs))) (hcl : (vwCl[ci]?).map (fun q => q.1) = some y.cls) (hlen : Nat.beq As.length n = true) (hst : stk = As.reverse ++ .ref b :: st) (hW : Nat.ble (st.map fun v => v.category).sum 8 = true) (hr : gRo rm R 0 0 cn sl maxL = true) (kk : ∀ (v : Option Value) (w' : va_W), Post v w' → V cn sl ws (pc + 3) lv (v.toList ++ st)) : V cn sl ws pc lv stk := by
  obtain ⟨p, e, s, m, args, below, meth, c, A, Q, hx, hb, hml, hown, hts, hE, hA, hnm, rfl⟩ := X
  subst hst
  obtain ⟨r1, r2, r3, r4⟩ := gRo_s hr
  obtain ⟨⟨k1, k2, k3, k4, k5⟩, L1, L2, L3⟩ := L
  refine fun H locs ls hl hP hD hS hro => ?_
  obtain ⟨qc, hqc⟩ : ∃ qc, vwCl[ci]? = some qc := by
    cases h : vwCl[ci]? with
    | none => rw [h] at hcl; cases hcl
    | some qc => exact ⟨qc, rfl⟩
  have hqn : qc.1 = y.cls := by rw [hqc] at hcl; exact Option.some.inj hcl
  have hrec := va_recv hE.1 (hP.sub isC (g_fm hC)) hqc hq
  rw [hqn] at hrec
  refine g_roW (va_runV (rest := st) (Ts := gAL) (own := own) (C := y.cls) ⟨hx, hb, hml, hown, hts⟩ (M H.size) ⟨callB_of n hts (gGood k1) rfl r1 r2 (hts _ k2) (hts _ L1) ⟨k3, k4, k5⟩ r3, hts _ L2, hts _ L3⟩ ⟨gPc_blind, hrec, (g_preS hE hP hD isC hC hn).2⟩ rfl (Nat.eq_of_beq_eq_true hlen) hl.1 rfl (lv_room (Nat.le_of_ble_eq_true hW)) d r4) (fun v w' hp => kk v w' hp H locs ls hl hP hD hS hro)
theorem g_callSr (X : GK l D cI cZ cc nL own nm R ro V) (M : GM l D cI cZ y bytes maxL ret rm 0 0 true As w Post) (L : gLkS own idx y bytes maxL ret n) (d : decode cc pc = .ok (.invokestatic idx, 3)) (isC : List Nat) (hC : isC.map (fun i => ws[i]?) = w.map some) (hn : va_nd isC = true) (hlen : Nat.beq As.length n = true) (hst : stk = As.reverse ++ st) (hW : Nat.ble (st.map fun v => v.category).sum 8 = true) (hr : gRo rm R 0 0 cn sl maxL = true) (kk : ∀ (v : Option Value) (w' : va_W), Post v w' → V cn sl ws (pc + 3) lv (v.toList ++ st)) : V cn sl ws pc lv stk := by
  obtain ⟨p, e, s, m, args, below, meth, c, A, Q, hx, hb, hml, hown, hts, hE, hA, hnm, rfl⟩ := X
  subst hst
  obtain ⟨r1, r2, r3, r4⟩ := gRo_s hr
  obtain ⟨⟨k1, k2, k3, k4, k5⟩, L1, L2⟩ := L
  exact fun H locs ls hl hP hD hS hro => g_roW (va_runS (rest := st) (Ts := gAL) (own := own) ⟨hx, hb, hml, hown, hts⟩ (M H.size) ⟨callB_of n hts (gGood k1) rfl r1 r2 (hts _ k2) (hts _ L1) ⟨k3, k4, k5⟩ r3, hts _ L2⟩ (g_preS hE hP hD isC hC hn) rfl (Nat.eq_of_beq_eq_true hlen) hl.1 rfl (lv_room (Nat.le_of_ble_eq_true hW)) d r4) (fun v w' hp => kk v w' hp H locs ls hl hP hD hS hro)
theorem g_callSNr (X : GK l D cI cZ cc nL own nm R ro V) (M : GM l D cI cZ y bytes maxL ret rm 0 0 true As w Post) (L : gLkSN own idx y bytes maxL ret n) (d : decode cc pc = .ok (.invokestatic idx, 3)) (isC : List Nat) (hC : isC.map (fun i => ws[i]?) = w.map some) (hn : va_nd isC = true) (hlen : Nat.beq As.length n = true) (hst : stk = As.reverse ++ st) (hW : Nat.ble (st.map fun v => v.category).sum 8 = true) (hr : gRo rm R 0 0 cn sl maxL = true) (kk : ∀ (v : Option Value) (w' : va_W), Post v w' → V cn sl ws (pc + 3) lv (v.toList ++ st)) : V cn sl ws pc lv stk := by
  obtain ⟨p, e, s, m, args, below, meth, c, A, Q, hx, hb, hml, hown, hts, hE, hA, hnm, rfl⟩ := X
  subst hst
  obtain ⟨r1, r2, r3, r4⟩ := gRo_s hr
  obtain ⟨⟨k1, k2, k3, k4, k5⟩, L1, L2⟩ := L
  exact fun H locs ls hl hP hD hS hro => g_roW (va_runSN (rest := st) (Ts := gAL) (own := own) ⟨hx, hb, hml, hown, hts⟩ (M H.size) ⟨va_cnB n hts (gGood k1) rfl r1 r2 (hE.2 _ L1) (hts _ k2) ⟨k3, k4, k5⟩ r3, hts _ L2, trivial⟩ (g_preS hE hP hD isC hC hn) rfl (Nat.eq_of_beq_eq_true hlen) hl.1 rfl (lv_room (Nat.le_of_ble_eq_true hW)) d r4) (fun v w' hp => kk v w' hp H locs ls hl hP hD hS hro)
/-- behind a call that may write: the callee's cells, then the rest -/
theorem g_wrV {p : Program} {e : Env} {s : State} {m : MethodId} {args : Array Value} {below : List Frame} {meth : Method} {c : Code} {A : Nat → Prop} {Q : State → Prop} {H : Heap} {locs : List Loc} {ls : Array Slot} {a : Array Value} (hA : ∀ q : Nat, s.heap.size ≤ q → A q) (hP : va_P D vwCl ws H) (hD : va_D A ws) (hS : va_S A s.heap H locs) (isC isR : List Nat) (hC : isC.map (fun i => ws[i]?) = w.map some) (hR : isR.map (fun i => ws[i]?) = wr.map some) (hnr : va_nd isR = true) (hdis : ∀ i ∈ isR, i ∉ isC) (hr : va_Run p l e R s m args below meth c H locs cn sl mc ms (F0 m pc ls stk) st (gQ (va_A w H.size) false D Post a) (gFr false (va_A w H.size)))
    (kk : ∀ (v : Option Value) (w' : va_W), Post v w' → ∀ (H1 : Heap) (locs1 : List Loc), va_P D vwCl (wr ++ w') H1 → va_D A (wr ++ w') → va_S A s.heap H1 locs1 → W p l e R s m args below meth c H1 locs1 (cn + mc) (sl + ms) Q (F0 m (pc + 3) ls (v.toList ++ st))) : W p l e R s m args below meth c H locs cn sl Q (F0 m pc ls stk) := by
  have hF := va_free hD hS hA isC hC
  refine g_wrW hr hS hF (fun v w' H1 locs1 hp hP1 hD1 hk1 hS1 => ?_)
  obtain ⟨hP2, hD2⟩ := va_join hP hD isC isR hC hR hnr hdis hk1 hF hP1 hD1
  exact kk v w' hp H1 locs1 hP2 hD2 hS1
theorem g_callVw (X : GK l D cI cZ cc nL own nm R false V) {b ci q0 : Nat} {fs : List Value} (M : GM l D cI cZ y bytes maxL ret rm mc ms false (.ref b :: As) w Post) (L : gLkV own idx y bytes maxL ret n) (d : decode cc pc = .ok (.invokevirtual idx, 3)) (isC isR : List Nat) (hC : isC.map (fun i => ws[i]?) = w.map some) (hn : va_nd isC = true) (hR : isR.map (fun i => ws[i]?) = wr.map some) (hnr : va_nd isR = true) (hdis : ∀ i ∈ isR, i ∉ isC) (hq : w[q0]? = some (b, .inr (ci, fs))) (hcl : (vwCl[ci]?).map (fun q => q.1) = some y.cls) (hlen : Nat.beq As.length n = true) (hst : stk = As.reverse ++ .ref b :: st) (hW : Nat.ble (st.map fun v => v.category).sum 8 = true) (hr : gRo rm R mc ms cn sl maxL = true) (kk : ∀ (v : Option Value) (w' : va_W), Post v w' → V (cn + mc) (sl + ms) (wr ++ w') (pc + 3) lv (v.toList ++ st)) : V cn sl ws pc lv stk := by
  obtain ⟨p, e, s, m, args, below, meth, c, A, Q, hx, hb, hml, hown, hts, hE, hA, hnm, rfl⟩ := X
  subst hst
  obtain ⟨r1, r2, r3, r4⟩ := gRo_s hr
  obtain ⟨⟨k1, k2, k3, k4, k5⟩, L1, L2, L3⟩ := L
  refine fun H locs ls hl hP hD hS hro => ?_
  obtain ⟨qc, hqc⟩ : ∃ qc, vwCl[ci]? = some qc := by
    cases h : vwCl[ci]? with
    | none => rw [h] at hcl; cases hcl
    | some qc => exact ⟨qc, rfl⟩
  have hqn : qc.1 = y.cls := by rw [hqc] at hcl; exact Option.some.inj hcl
  have hrec := va_recv hE.1 (hP.sub isC (g_fm hC)) hqc hq
  rw [hqn] at hrec
  exact g_wrV hA hP hD hS isC isR hC hR hnr hdis (va_runV (rest := st) (Ts := gAL) (own := own) (C := y.cls) ⟨hx, hb, hml, hown, hts⟩ (M H.size) ⟨callB_of n hts (gGood k1) rfl r1 r2 (hts _ k2) (hts _ L1) ⟨k3, k4, k5⟩ r3, hts _ L2, hts _ L3⟩ ⟨gPc_blind, hrec, (g_preS hE hP hD isC hC hn).2⟩ rfl (Nat.eq_of_beq_eq_true hlen) hl.1 rfl (lv_room (Nat.le_of_ble_eq_true hW)) d r4) (fun v w' hp H1 locs1 hP1 hD1 hS1 => kk v w' hp H1 locs1 ls hl hP1 hD1 hS1 (fun h => by cases h))
theorem g_callSw (X : GK l D cI cZ cc nL own nm R false V) (M : GM l D cI cZ y bytes maxL ret rm mc ms false As w Post) (L : gLkS own idx y bytes maxL ret n) (d : decode cc pc = .ok (.invokestatic idx, 3)) (isC isR : List Nat) (hC : isC.map (fun i => ws[i]?) = w.map some) (hn : va_nd isC = true) (hR : isR.map (fun i => ws[i]?) = wr.map some) (hnr : va_nd isR = true) (hdis : ∀ i ∈ isR, i ∉ isC) (hlen : Nat.beq As.length n = true) (hst : stk = As.reverse ++ st) (hW : Nat.ble (st.map fun v => v.category).sum 8 = true) (hr : gRo rm R mc ms cn sl maxL = true) (kk : ∀ (v : Option Value) (w' : va_W), Post v w' → V (cn + mc) (sl + ms) (wr ++ w') (pc + 3) lv (v.toList ++ st)) : V cn sl ws pc lv stk := by
  obtain ⟨p, e, s, m, args, below, meth, c, A, Q, hx, hb, hml, hown, hts, hE, hA, hnm, rfl⟩ := X
  subst hst
  obtain ⟨r1, r2, r3, r4⟩ := gRo_s hr
  obtain ⟨⟨k1, k2, k3, k4, k5⟩, L1, L2⟩ := L
  exact fun H locs ls hl hP hD hS hro => g_wrV hA hP hD hS isC isR hC hR hnr hdis (va_runS (rest := st) (Ts := gAL) (own := own) ⟨hx, hb, hml, hown, hts⟩ (M H.size) ⟨callB_of n hts (gGood k1) rfl r1 r2 (hts _ k2) (hts _ L1) ⟨k3, k4, k5⟩ r3, hts _ L2⟩ (g_preS hE hP hD isC hC hn) rfl (Nat.eq_of_beq_eq_true hlen) hl.1 rfl (lv_room (Nat.le_of_ble_eq_true hW)) d r4) (fun v w' hp H1 locs1 hP1 hD1 hS1 => kk v w' hp H1 locs1 ls hl hP1 hD1 hS1 (fun h => by cases h))
theorem g_callSNw (X : GK l D cI cZ cc nL own nm R false V) (M : GM l D cI cZ y bytes maxL ret rm mc ms false As w Post) (L : gLkSN own idx y bytes maxL ret n) (d : decode cc pc = .ok (.invokestatic idx, 3)) (isC isR : List Nat) (hC : isC.map (fun i => ws[i]?) = w.map some) (hn : va_nd isC = true) (hR : isR.map (fun i => ws[i]?) = wr.map some) (hnr : va_nd isR = true) (hdis : ∀ i ∈ isR, i ∉ isC) (hlen : Nat.beq As.length n = true) (hst : stk = As.reverse ++ st) (hW : Nat.ble (st.map fun v => v.category).sum 8 = true) (hr : gRo rm R mc ms cn sl maxL = true) (kk : ∀ (v : Option Value) (w' : va_W), Post v w' → V (cn + mc) (sl + ms) (wr ++ w') (pc + 3) lv (v.toList ++ st)) : V cn sl ws pc lv stk := by
  obtain ⟨p, e, s, m, args, below, meth, c, A, Q, hx, hb, hml, hown, hts, hE, hA, hnm, rfl⟩ := X
  subst hst
  obtain ⟨r1, r2, r3, r4⟩ := gRo_s hr
  obtain ⟨⟨k1, k2, k3, k4, k5⟩, L1, L2⟩ := L
  exact fun H locs ls hl hP hD hS hro => g_wrV hA hP hD hS isC isR hC hR hnr hdis (va_runSN (rest := st) (Ts := gAL) (own := own) ⟨hx, hb, hml, hown, hts⟩ (M H.size) ⟨va_cnB n hts (gGood k1) rfl r1 r2 (hE.2 _ L1) (hts _ k2) ⟨k3, k4, k5⟩ r3, hts _ L2, trivial⟩ (g_preS hE hP hD isC hC hn) rfl (Nat.eq_of_beq_eq_true hlen) hl.1 rfl (lv_room (Nat.le_of_ble_eq_true hW)) d r4) (fun v w' hp H1 locs1 hP1 hD1 hS1 => kk v w' hp H1 locs1 ls hl hP1 hD1 hS1 (fun h => by cases h))
theorem g_callIw (X : GK l D cI cZ cc nL own nm R false V) {b : Nat} (M : GM l D cI cZ y bytes maxL none rm mc ms false (.ref b :: As) w Post) (L : gLkI own idx y bytes maxL n) (d : decode cc pc = .ok (.invokespecial idx, 3)) (isC isR : List Nat) (hC : isC.map (fun i => ws[i]?) = w.map some) (hn : va_nd isC = true) (hR : isR.map (fun i => ws[i]?) = wr.map some) (hnr : va_nd isR = true) (hdis : ∀ i ∈ isR, i ∉ isC) (hlen : Nat.beq As.length n = true) (hst : stk = As.reverse ++ .ref b :: st) (hW : Nat.ble (st.map fun v => v.category).sum 8 = true) (hr : gRo rm R mc ms cn sl maxL = true) (kk : ∀ (v : Option Value) (w' : va_W), Post v w' → V (cn + mc) (sl + ms) (wr ++ w') (pc + 3) lv (v.toList ++ st)) : V cn sl ws pc lv stk := by
  obtain ⟨p, e, s, m, args, below, meth, c, A, Q, hx, hb, hml, hown, hts, hE, hA, hnm, rfl⟩ := X
  subst hst
  obtain ⟨r1, r2, r3, r4⟩ := gRo_s hr
  obtain ⟨⟨k1, k2, k3, k4, k5⟩, L1, L2, L3⟩ := L
  exact fun H locs ls hl hP hD hS hro => g_wrV hA hP hD hS isC isR hC hR hnr hdis (va_runI (rest := st) (Ts := gAL) (own := own) ⟨hx, hb, hml, hown, hts⟩ (M H.size) ⟨callB_of n hts (gGood k1) rfl r1 r2 (hts _ k2) (hts _ L1) ⟨k3, k4, k5⟩ r3, L3, hts _ L2⟩ (g_preS hE hP hD isC hC hn) rfl (Nat.eq_of_beq_eq_true hlen) hl.1 rfl (lv_room (Nat.le_of_ble_eq_true hW)) d r4) (fun v w' hp H1 locs1 hP1 hD1 hS1 => kk v w' hp H1 locs1 ls hl hP1 hD1 hS1 (fun h => by cases h))
theorem g_callINw (X : GK l D cI cZ cc nL own nm R false V) {b : Nat} (M : GM l D cI cZ y bytes maxL none rm mc ms false (.ref b :: As) w Post) (L : gLkIN own idx y bytes maxL n) (d : decode cc pc = .ok (.invokespecial idx, 3)) (isC isR : List Nat) (hC : isC.map (fun i => ws[i]?) = w.map some) (hn : va_nd isC = true) (hR : isR.map (fun i => ws[i]?) = wr.map some) (hnr : va_nd isR = true) (hdis : ∀ i ∈ isR, i ∉ isC) (hlen : Nat.beq As.length n = true) (hst : stk = As.reverse ++ .ref b :: st) (hW : Nat.ble (st.map fun v => v.category).sum 8 = true) (hr : gRo rm R mc ms cn sl maxL = true) (kk : ∀ (v : Option Value) (w' : va_W), Post v w' → V (cn + mc) (sl + ms) (wr ++ w') (pc + 3) lv (v.toList ++ st)) : V cn sl ws pc lv stk := by
  obtain ⟨p, e, s, m, args, below, meth, c, A, Q, hx, hb, hml, hown, hts, hE, hA, hnm, rfl⟩ := X
  subst hst
  obtain ⟨r1, r2, r3, r4⟩ := gRo_s hr
  obtain ⟨⟨k1, k2, k3, k4, k5⟩, L1, L2, L3⟩ := L
  exact fun H locs ls hl hP hD hS hro => g_wrV hA hP hD hS isC isR hC hR hnr hdis (va_runIN (rest := st) (Ts := gAL) (own := own) ⟨hx, hb, hml, hown, hts⟩ (M H.size) ⟨va_cnB n hts (gGood k1) rfl r1 r2 (hE.2 _ L1) (hts _ k2) ⟨k3, k4, k5⟩ r3, L3, hts _ L2⟩ (g_preS hE hP hD isC hC hn) rfl (Nat.eq_of_beq_eq_true hlen) hl.1 rfl (lv_room (Nat.le_of_ble_eq_true hW)) d r4) (fun v w' hp H1 locs1 hP1 hD1 hS1 => kk v w' hp H1 locs1 ls hl hP1 hD1 hS1 (fun h => by cases h))
end GK3
/-- the ends: an int or a boolean, a long, nothing -/
def gRi (cc : ByteArray) (mc ms : Nat) (z : Bool) (Post : Option Value → va_W → Prop) (V : Nat → Nat → va_W → Nat → List (Nat × Value) → List Value → Prop) : Prop := ∀ (pc : Nat) (x : Int32) (cn sl : Nat) (ws : va_W) (lv : List (Nat × Value)), decode cc pc = .ok (.ireturn, 1) → Nat.ble cn mc = true → Nat.ble sl ms = true → (z = true → x = iI 0 ∨ x = iI 1) → Post (some (.int x)) ws → V cn sl ws pc lv [.int x]
def gRl (cc : ByteArray) (mc ms : Nat) (Post : Option Value → va_W → Prop) (V : Nat → Nat → va_W → Nat → List (Nat × Value) → List Value → Prop) : Prop := ∀ (pc : Nat) (x : Int64) (cn sl : Nat) (ws : va_W) (lv : List (Nat × Value)), decode cc pc = .ok (.lreturn, 1) → Nat.ble cn mc = true → Nat.ble sl ms = true → Post (some (.long x)) ws → V cn sl ws pc lv [.long x]
def gRv (cc : ByteArray) (mc ms : Nat) (Post : Option Value → va_W → Prop) (V : Nat → Nat → va_W → Nat → List (Nat × Value) → List Value → Prop) : Prop := ∀ (pc : Nat) (cn sl : Nat) (ws : va_W) (lv : List (Nat × Value)), decode cc pc = .ok (.return_, 1) → Nat.ble cn mc = true → Nat.ble sl ms = true → Post none ws → V cn sl ws pc lv []
section GK4
variable {l : Launch} {D : va_G} {cI cZ : ClassId} {cc : ByteArray} {maxL : Nat} {ro : Bool} {w : va_W} {y : MethodName} {mc ms : Nat} {rm : Room} {As : List Value} {lv0 : List (Nat × Value)} {Post : Option Value → va_W → Prop}
theorem g_fin {s : State} {A : Nat → Prop} {H : Heap} {locs : List Loc} {ws : va_W} {v : Option Value} {args : Array Value} (hro : ro = true → H = s.heap ∧ locs = []) (hP : va_P D vwCl ws H) (hD : va_D A ws) (hS : va_S A s.heap H locs) (hp : Post v ws) : (∀ t : State, t.heap = H → gQ A ro D Post args s (.returned v) t) ∧ ∀ q ∈ locs, gFr ro A q.base := by
  refine ⟨fun t ht => ⟨⟨v, ws, rfl, hp, by rw [ht]; exact hP, hD⟩, hS.F ht, fun h => by rw [ht]; exact (hro h).1⟩, fun q hq => ?_⟩
  cases h : ro with
  | true =>
    rw [(hro h).2] at hq
    cases hq
  | false => exact ⟨rfl, hS.2.2 q hq⟩
theorem g_enterI {z : Bool} (ret : Option FieldType) (hret : ret = some (if z then .boolean else .int)) (hy : plainName y.cls = true) (hlen : Nat.ble (lg_sl As).length maxL = true) (hlv : lv_args 0 As = lv0) (body : ∀ V : Nat → Nat → va_W → Nat → List (Nat × Value) → List Value → Prop, GK l D cI cZ cc maxL y.cls y.name rm ro V → gRi cc mc ms z Post V → V 0 0 w 0 lv0 []) : GM l D cI cZ y cc maxL ret rm mc ms ro As w Post := by
  intro sz
  refine Met.ofW (cc := cc) (maxL := maxL) (ret := ret) hy rfl ?_
  intro p e s m args below meth c s₁ B hml hv
  obtain ⟨rfl, hsz, hP, hE, hD0⟩ := hv
  have hts := atoms_spec (ws := .code y cc maxL ret :: gAL) B.pre
  subst hsz
  have hA : ∀ q : Nat, s.heap.size ≤ q → va_A w s.heap.size q := fun q h => Or.inr h
  rw [lg_entry_eq]
  have hl := lv_entry As (n := maxL) (Nat.le_of_ble_eq_true hlen)
  rw [hlv] at hl
  refine body (fun cn sl ws pc lv st => ∀ (H : Heap) (locs : List Loc) (ls : Array Slot), lv_has ls maxL lv → va_P D vwCl ws H → va_D (va_A w s.heap.size) ws → va_S (va_A w s.heap.size) s.heap H locs → (ro = true → H = s.heap ∧ locs = []) → W p l e rm s m As.toArray below meth c H locs cn sl (MQ below (gQ (va_A w s.heap.size) ro D Post) As.toArray s mc ms (gFr ro (va_A w s.heap.size))) (F0 m pc ls st)) ⟨p, e, s, m, As.toArray, below, meth, c, va_A w s.heap.size, _, B.exec, B.bytes, hml, findClass_of_methodNamed B.named, fun q hq => hts q (List.mem_cons_of_mem _ hq), hE, hA, Or.inr (name_of_methodNamed B.named B.method).1, rfl⟩ ?_ s.heap [] _ hl hP hD0.self va_S.rf (fun _ => ⟨rfl, rfl⟩)
  intro pc x cn sl ws lv d hcn hsl hz hp H locs ls hl hP hD hS hro
  refine W.widen (Nat.le_of_ble_eq_true hcn) (Nat.le_of_ble_eq_true hsl) ?_
  obtain ⟨f1, f2⟩ := g_fin (args := As.toArray) hro hP hD hS hp
  cases z with
  | false => exact W.iret B.exec B.bytes (by rw [B.returns, hret]; rfl) (fun t ht _ => f1 t ht) f2 d B.notSynchronized
  | true => exact W.zret (ty := .boolean) B.exec B.bytes (by rw [B.returns, hret]; rfl) (by rcases hz rfl with h | h <;> rw [h] <;> rfl) (fun t ht _ => f1 t ht) f2 d B.notSynchronized
theorem g_enterL (hy : plainName y.cls = true) (hlen : Nat.ble (lg_sl As).length maxL = true) (hlv : lv_args 0 As = lv0) (body : ∀ V : Nat → Nat → va_W → Nat → List (Nat × Value) → List Value → Prop, GK l D cI cZ cc maxL y.cls y.name rm ro V → gRl cc mc ms Post V → V 0 0 w 0 lv0 []) : GM l D cI cZ y cc maxL (some .long) rm mc ms ro As w Post := by
  intro sz
  refine Met.ofW (cc := cc) (maxL := maxL) (ret := some .long) hy rfl ?_
  intro p e s m args below meth c s₁ B hml hv
  obtain ⟨rfl, hsz, hP, hE, hD0⟩ := hv
  have hts := atoms_spec (ws := .code y cc maxL (some .long) :: gAL) B.pre
  subst hsz
  have hA : ∀ q : Nat, s.heap.size ≤ q → va_A w s.heap.size q := fun q h => Or.inr h
  rw [lg_entry_eq]
  have hl := lv_entry As (n := maxL) (Nat.le_of_ble_eq_true hlen)
  rw [hlv] at hl
  refine body (fun cn sl ws pc lv st => ∀ (H : Heap) (locs : List Loc) (ls : Array Slot), lv_has ls maxL lv → va_P D vwCl ws H → va_D (va_A w s.heap.size) ws → va_S (va_A w s.heap.size) s.heap H locs → (ro = true → H = s.heap ∧ locs = []) → W p l e rm s m As.toArray below meth c H locs cn sl (MQ below (gQ (va_A w s.heap.size) ro D Post) As.toArray s mc ms (gFr ro (va_A w s.heap.size))) (F0 m pc ls st)) ⟨p, e, s, m, As.toArray, below, meth, c, va_A w s.heap.size, _, B.exec, B.bytes, hml, findClass_of_methodNamed B.named, fun q hq => hts q (List.mem_cons_of_mem _ hq), hE, hA, Or.inr (name_of_methodNamed B.named B.method).1, rfl⟩ ?_ s.heap [] _ hl hP hD0.self va_S.rf (fun _ => ⟨rfl, rfl⟩)
  intro pc x cn sl ws lv d hcn hsl hp H locs ls hl hP hD hS hro
  refine W.widen (Nat.le_of_ble_eq_true hcn) (Nat.le_of_ble_eq_true hsl) ?_
  obtain ⟨f1, f2⟩ := g_fin (args := As.toArray) hro hP hD hS hp
  exact W.lret B.exec B.bytes B.returns (fun t ht _ => f1 t ht) f2 d B.notSynchronized
theorem g_enterV (hy : plainName y.cls = true) (hlen : Nat.ble (lg_sl As).length maxL = true) (hlv : lv_args 0 As = lv0) (body : ∀ V : Nat → Nat → va_W → Nat → List (Nat × Value) → List Value → Prop, GK l D cI cZ cc maxL y.cls y.name rm ro V → gRv cc mc ms Post V → V 0 0 w 0 lv0 []) : GM l D cI cZ y cc maxL none rm mc ms ro As w Post := by
  intro sz
  refine Met.ofW (cc := cc) (maxL := maxL) (ret := none) hy rfl ?_
  intro p e s m args below meth c s₁ B hml hv
  obtain ⟨rfl, hsz, hP, hE, hD0⟩ := hv
  have hts := atoms_spec (ws := .code y cc maxL none :: gAL) B.pre
  subst hsz
  have hA : ∀ q : Nat, s.heap.size ≤ q → va_A w s.heap.size q := fun q h => Or.inr h
  rw [lg_entry_eq]
  have hl := lv_entry As (n := maxL) (Nat.le_of_ble_eq_true hlen)
  rw [hlv] at hl
  refine body (fun cn sl ws pc lv st => ∀ (H : Heap) (locs : List Loc) (ls : Array Slot), lv_has ls maxL lv → va_P D vwCl ws H → va_D (va_A w s.heap.size) ws → va_S (va_A w s.heap.size) s.heap H locs → (ro = true → H = s.heap ∧ locs = []) → W p l e rm s m As.toArray below meth c H locs cn sl (MQ below (gQ (va_A w s.heap.size) ro D Post) As.toArray s mc ms (gFr ro (va_A w s.heap.size))) (F0 m pc ls st)) ⟨p, e, s, m, As.toArray, below, meth, c, va_A w s.heap.size, _, B.exec, B.bytes, hml, findClass_of_methodNamed B.named, fun q hq => hts q (List.mem_cons_of_mem _ hq), hE, hA, Or.inr (name_of_methodNamed B.named B.method).1, rfl⟩ ?_ s.heap [] _ hl hP hD0.self va_S.rf (fun _ => ⟨rfl, rfl⟩)
  intro pc cn sl ws lv d hcn hsl hp H locs ls hl hP hD hS hro
  refine W.widen (Nat.le_of_ble_eq_true hcn) (Nat.le_of_ble_eq_true hsl) ?_
  obtain ⟨f1, f2⟩ := g_fin (args := As.toArray) hro hP hD hS hp
  exact W.vret B.exec B.bytes B.returns (fun t ht _ => f1 t ht) f2 d B.notSynchronized
end GK4
/-! results that are told: an int, a long; or cells and facts over what the method leaves open (x) -/
def gPi (r : Int) : Option Value → va_W → Prop := fun v _ => v = some (gi r)
def gPl (r : Int) : Option Value → va_W → Prop := fun v _ => v = some (gl r)
def gPxi {T : Type} (r : T → Int) (w1 : T → va_W) (P : T → Prop) : Option Value → va_W → Prop := fun v w' => ∃ x : T, v = some (gi (r x)) ∧ w' = w1 x ∧ P x
def gPxv {T : Type} (w1 : T → va_W) (P : T → Prop) : Option Value → va_W → Prop := fun v w' => ∃ x : T, v = none ∧ w' = w1 x ∧ P x
theorem gPi_e {a b : Int} {w' : va_W} (h : a = b) : gPi b (some (gi a)) w' := by rw [h]; rfl
theorem gPl_e {a b : Int} {w' : va_W} (h : a = b) : gPl b (some (gl a)) w' := by rw [h]; rfl
theorem gPxi_e {T : Type} {r : T → Int} {w1 : T → va_W} {P : T → Prop} (x : T) {a : Int} {w' : va_W} (h : a = r x) (hw : w' = w1 x) (hp : P x) : gPxi r w1 P (some (gi a)) w' := ⟨x, by rw [h], hw, hp⟩
theorem gPxv_e {T : Type} {w1 : T → va_W} {P : T → Prop} (x : T) {w' : va_W} (hw : w' = w1 x) (hp : P x) : gPxv w1 P none w' := ⟨x, rfl, hw, hp⟩
section GK5
variable {l : Launch} {D : va_G} {cI cZ : ClassId} {cc : ByteArray} {nL : Nat} {own nm : String} {R : Room} {ro : Bool} {V : Nat → Nat → va_W → Nat → List (Nat × Value) → List Value → Prop}
variable {cn sl pc : Nat} {ws wr w ws' : va_W} {lv : List (Nat × Value)} {st stk : List Value}
variable {y : MethodName} {bytes : ByteArray} {maxL n idx mc ms : Nat} {ret : Option FieldType} {rm : Room} {As : List Value} {r : Int}
theorem gc_Vi (X : GK l D cI cZ cc nL own nm R ro V) {b ci : Nat} {fs : List Value} (M : GM l D cI cZ y bytes maxL ret rm 0 0 true (.ref b :: As) w (gPi r)) (L : gLkV own idx y bytes maxL ret n) (d : decode cc pc = .ok (.invokevirtual idx, 3)) (isC : List Nat) (hC : isC.map (fun i => ws[i]?) = w.map some) (hn : va_nd isC = true) (hq : w[0]? = some (b, .inr (ci, fs))) (hcl : (vwCl[ci]?).map (fun q => q.1) = some y.cls) (hlen : Nat.beq As.length n = true) (hst : stk = As.reverse ++ .ref b :: st) (hW : Nat.ble (st.map fun v => v.category).sum 8 = true) (hr : gRo rm R 0 0 cn sl maxL = true) (kk : V cn sl ws (pc + 3) lv (gi r :: st)) : V cn sl ws pc lv stk :=
  g_callVr X M L d isC hC hn hq hcl hlen hst hW hr (fun v w' h => by rw [show v = some (gi r) from h]; exact kk)
theorem gc_Si (X : GK l D cI cZ cc nL own nm R ro V) (M : GM l D cI cZ y bytes maxL ret rm 0 0 true As w (gPi r)) (L : gLkS own idx y bytes maxL ret n) (d : decode cc pc = .ok (.invokestatic idx, 3)) (isC : List Nat) (hC : isC.map (fun i => ws[i]?) = w.map some) (hn : va_nd isC = true) (hlen : Nat.beq As.length n = true) (hst : stk = As.reverse ++ st) (hW : Nat.ble (st.map fun v => v.category).sum 8 = true) (hr : gRo rm R 0 0 cn sl maxL = true) (kk : V cn sl ws (pc + 3) lv (gi r :: st)) : V cn sl ws pc lv stk :=
  g_callSr X M L d isC hC hn hlen hst hW hr (fun v w' h => by rw [show v = some (gi r) from h]; exact kk)
theorem gc_Ni (X : GK l D cI cZ cc nL own nm R ro V) (M : GM l D cI cZ y bytes maxL ret rm 0 0 true As w (gPi r)) (L : gLkSN own idx y bytes maxL ret n) (d : decode cc pc = .ok (.invokestatic idx, 3)) (isC : List Nat) (hC : isC.map (fun i => ws[i]?) = w.map some) (hn : va_nd isC = true) (hlen : Nat.beq As.length n = true) (hst : stk = As.reverse ++ st) (hW : Nat.ble (st.map fun v => v.category).sum 8 = true) (hr : gRo rm R 0 0 cn sl maxL = true) (kk : V cn sl ws (pc + 3) lv (gi r :: st)) : V cn sl ws pc lv stk :=
  g_callSNr X M L d isC hC hn hlen hst hW hr (fun v w' h => by rw [show v = some (gi r) from h]; exact kk)
theorem gc_Vl (X : GK l D cI cZ cc nL own nm R ro V) {b ci : Nat} {fs : List Value} (M : GM l D cI cZ y bytes maxL ret rm 0 0 true (.ref b :: As) w (gPl r)) (L : gLkV own idx y bytes maxL ret n) (d : decode cc pc = .ok (.invokevirtual idx, 3)) (isC : List Nat) (hC : isC.map (fun i => ws[i]?) = w.map some) (hn : va_nd isC = true) (hq : w[0]? = some (b, .inr (ci, fs))) (hcl : (vwCl[ci]?).map (fun q => q.1) = some y.cls) (hlen : Nat.beq As.length n = true) (hst : stk = As.reverse ++ .ref b :: st) (hW : Nat.ble (st.map fun v => v.category).sum 8 = true) (hr : gRo rm R 0 0 cn sl maxL = true) (kk : V cn sl ws (pc + 3) lv (gl r :: st)) : V cn sl ws pc lv stk :=
  g_callVr X M L d isC hC hn hq hcl hlen hst hW hr (fun v w' h => by rw [show v = some (gl r) from h]; exact kk)
theorem gc_Sl (X : GK l D cI cZ cc nL own nm R ro V) (M : GM l D cI cZ y bytes maxL ret rm 0 0 true As w (gPl r)) (L : gLkS own idx y bytes maxL ret n) (d : decode cc pc = .ok (.invokestatic idx, 3)) (isC : List Nat) (hC : isC.map (fun i => ws[i]?) = w.map some) (hn : va_nd isC = true) (hlen : Nat.beq As.length n = true) (hst : stk = As.reverse ++ st) (hW : Nat.ble (st.map fun v => v.category).sum 8 = true) (hr : gRo rm R 0 0 cn sl maxL = true) (kk : V cn sl ws (pc + 3) lv (gl r :: st)) : V cn sl ws pc lv stk :=
  g_callSr X M L d isC hC hn hlen hst hW hr (fun v w' h => by rw [show v = some (gl r) from h]; exact kk)
theorem gc_Nl (X : GK l D cI cZ cc nL own nm R ro V) (M : GM l D cI cZ y bytes maxL ret rm 0 0 true As w (gPl r)) (L : gLkSN own idx y bytes maxL ret n) (d : decode cc pc = .ok (.invokestatic idx, 3)) (isC : List Nat) (hC : isC.map (fun i => ws[i]?) = w.map some) (hn : va_nd isC = true) (hlen : Nat.beq As.length n = true) (hst : stk = As.reverse ++ st) (hW : Nat.ble (st.map fun v => v.category).sum 8 = true) (hr : gRo rm R 0 0 cn sl maxL = true) (kk : V cn sl ws (pc + 3) lv (gl r :: st)) : V cn sl ws pc lv stk :=
  g_callSNr X M L d isC hC hn hlen hst hW hr (fun v w' h => by rw [show v = some (gl r) from h]; exact kk)
variable {T : Type} {rx : T → Int} {w1 : T → va_W} {P : T → Prop}
theorem gc_Vxi (X : GK l D cI cZ cc nL own nm R false V) {b ci : Nat} {fs : List Value} (M : GM l D cI cZ y bytes maxL ret rm mc ms false (.ref b :: As) w (gPxi rx w1 P)) (L : gLkV own idx y bytes maxL ret n) (d : decode cc pc = .ok (.invokevirtual idx, 3)) (isC isR : List Nat) (hC : isC.map (fun i => ws[i]?) = w.map some) (hn : va_nd isC = true) (hR : isR.map (fun i => ws[i]?) = wr.map some) (hnr : va_nd isR = true) (hdis : ∀ i ∈ isR, i ∉ isC) (hq : w[0]? = some (b, .inr (ci, fs))) (hcl : (vwCl[ci]?).map (fun q => q.1) = some y.cls) (hlen : Nat.beq As.length n = true) (hst : stk = As.reverse ++ .ref b :: st) (hW : Nat.ble (st.map fun v => v.category).sum 8 = true) (hr : gRo rm R mc ms cn sl maxL = true) (kk : ∀ x : T, P x → V (cn + mc) (sl + ms) (wr ++ w1 x) (pc + 3) lv (gi (rx x) :: st)) : V cn sl ws pc lv stk :=
  g_callVw X M L d isC isR hC hn hR hnr hdis hq hcl hlen hst hW hr (fun v w' h => by obtain ⟨x, h1, h2, h3⟩ := h; rw [h1, h2]; exact kk x h3)
theorem gc_Vxv (X : GK l D cI cZ cc nL own nm R false V) {b ci : Nat} {fs : List Value} (M : GM l D cI cZ y bytes maxL ret rm mc ms false (.ref b :: As) w (gPxv w1 P)) (L : gLkV own idx y bytes maxL ret n) (d : decode cc pc = .ok (.invokevirtual idx, 3)) (isC isR : List Nat) (hC : isC.map (fun i => ws[i]?) = w.map some) (hn : va_nd isC = true) (hR : isR.map (fun i => ws[i]?) = wr.map some) (hnr : va_nd isR = true) (hdis : ∀ i ∈ isR, i ∉ isC) (hq : w[0]? = some (b, .inr (ci, fs))) (hcl : (vwCl[ci]?).map (fun q => q.1) = some y.cls) (hlen : Nat.beq As.length n = true) (hst : stk = As.reverse ++ .ref b :: st) (hW : Nat.ble (st.map fun v => v.category).sum 8 = true) (hr : gRo rm R mc ms cn sl maxL = true) (kk : ∀ x : T, P x → V (cn + mc) (sl + ms) (wr ++ w1 x) (pc + 3) lv st) : V cn sl ws pc lv stk :=
  g_callVw X M L d isC isR hC hn hR hnr hdis hq hcl hlen hst hW hr (fun v w' h => by obtain ⟨x, h1, h2, h3⟩ := h; rw [h1, h2]; exact kk x h3)
theorem gc_Sxi (X : GK l D cI cZ cc nL own nm R false V) (M : GM l D cI cZ y bytes maxL ret rm mc ms false As w (gPxi rx w1 P)) (L : gLkS own idx y bytes maxL ret n) (d : decode cc pc = .ok (.invokestatic idx, 3)) (isC isR : List Nat) (hC : isC.map (fun i => ws[i]?) = w.map some) (hn : va_nd isC = true) (hR : isR.map (fun i => ws[i]?) = wr.map some) (hnr : va_nd isR = true) (hdis : ∀ i ∈ isR, i ∉ isC) (hlen : Nat.beq As.length n = true) (hst : stk = As.reverse ++ st) (hW : Nat.ble (st.map fun v => v.category).sum 8 = true) (hr : gRo rm R mc ms cn sl maxL = true) (kk : ∀ x : T, P x → V (cn + mc) (sl + ms) (wr ++ w1 x) (pc + 3) lv (gi (rx x) :: st)) : V cn sl ws pc lv stk :=
  g_callSw X M L d isC isR hC hn hR hnr hdis hlen hst hW hr (fun v w' h => by obtain ⟨x, h1, h2, h3⟩ := h; rw [h1, h2]; exact kk x h3)
theorem gc_Sxv (X : GK l D cI cZ cc nL own nm R false V) (M : GM l D cI cZ y bytes maxL ret rm mc ms false As w (gPxv w1 P)) (L : gLkS own idx y bytes maxL ret n) (d : decode cc pc = .ok (.invokestatic idx, 3)) (isC isR : List Nat) (hC : isC.map (fun i => ws[i]?) = w.map some) (hn : va_nd isC = true) (hR : isR.map (fun i => ws[i]?) = wr.map some) (hnr : va_nd isR = true) (hdis : ∀ i ∈ isR, i ∉ isC) (hlen : Nat.beq As.length n = true) (hst : stk = As.reverse ++ st) (hW : Nat.ble (st.map fun v => v.category).sum 8 = true) (hr : gRo rm R mc ms cn sl maxL = true) (kk : ∀ x : T, P x → V (cn + mc) (sl + ms) (wr ++ w1 x) (pc + 3) lv st) : V cn sl ws pc lv stk :=
  g_callSw X M L d isC isR hC hn hR hnr hdis hlen hst hW hr (fun v w' h => by obtain ⟨x, h1, h2, h3⟩ := h; rw [h1, h2]; exact kk x h3)
theorem gc_Nxv (X : GK l D cI cZ cc nL own nm R false V) (M : GM l D cI cZ y bytes maxL ret rm mc ms false As w (gPxv w1 P)) (L : gLkSN own idx y bytes maxL ret n) (d : decode cc pc = .ok (.invokestatic idx, 3)) (isC isR : List Nat) (hC : isC.map (fun i => ws[i]?) = w.map some) (hn : va_nd isC = true) (hR : isR.map (fun i => ws[i]?) = wr.map some) (hnr : va_nd isR = true) (hdis : ∀ i ∈ isR, i ∉ isC) (hlen : Nat.beq As.length n = true) (hst : stk = As.reverse ++ st) (hW : Nat.ble (st.map fun v => v.category).sum 8 = true) (hr : gRo rm R mc ms cn sl maxL = true) (kk : ∀ x : T, P x → V (cn + mc) (sl + ms) (wr ++ w1 x) (pc + 3) lv st) : V cn sl ws pc lv stk :=
  g_callSNw X M L d isC isR hC hn hR hnr hdis hlen hst hW hr (fun v w' h => by obtain ⟨x, h1, h2, h3⟩ := h; rw [h1, h2]; exact kk x h3)
theorem gc_Ixv (X : GK l D cI cZ cc nL own nm R false V) {b : Nat} (M : GM l D cI cZ y bytes maxL none rm mc ms false (.ref b :: As) w (gPxv w1 P)) (L : gLkI own idx y bytes maxL n) (d : decode cc pc = .ok (.invokespecial idx, 3)) (isC isR : List Nat) (hC : isC.map (fun i => ws[i]?) = w.map some) (hn : va_nd isC = true) (hR : isR.map (fun i => ws[i]?) = wr.map some) (hnr : va_nd isR = true) (hdis : ∀ i ∈ isR, i ∉ isC) (hlen : Nat.beq As.length n = true) (hst : stk = As.reverse ++ .ref b :: st) (hW : Nat.ble (st.map fun v => v.category).sum 8 = true) (hr : gRo rm R mc ms cn sl maxL = true) (kk : ∀ x : T, P x → V (cn + mc) (sl + ms) (wr ++ w1 x) (pc + 3) lv st) : V cn sl ws pc lv stk :=
  g_callIw X M L d isC isR hC hn hR hnr hdis hlen hst hW hr (fun v w' h => by obtain ⟨x, h1, h2, h3⟩ := h; rw [h1, h2]; exact kk x h3)
theorem gc_INxv (X : GK l D cI cZ cc nL own nm R false V) {b : Nat} (M : GM l D cI cZ y bytes maxL none rm mc ms false (.ref b :: As) w (gPxv w1 P)) (L : gLkIN own idx y bytes maxL n) (d : decode cc pc = .ok (.invokespecial idx, 3)) (isC isR : List Nat) (hC : isC.map (fun i => ws[i]?) = w.map some) (hn : va_nd isC = true) (hR : isR.map (fun i => ws[i]?) = wr.map some) (hnr : va_nd isR = true) (hdis : ∀ i ∈ isR, i ∉ isC) (hlen : Nat.beq As.length n = true) (hst : stk = As.reverse ++ .ref b :: st) (hW : Nat.ble (st.map fun v => v.category).sum 8 = true) (hr : gRo rm R mc ms cn sl maxL = true) (kk : ∀ x : T, P x → V (cn + mc) (sl + ms) (wr ++ w1 x) (pc + 3) lv st) : V cn sl ws pc lv stk :=
  g_callINw X M L d isC isR hC hn hR hnr hdis hlen hst hW hr (fun v w' h => by obtain ⟨x, h1, h2, h3⟩ := h; rw [h1, h2]; exact kk x h3)
end GK5
/-- the objects, by the addresses of what they hold -/
abbrev oE (q : Nat) (a : Nat → Nat) : Nat × va_E := gO q 0 [.ref (a 0), .ref (a 1), .ref (a 2)]
abbrev oF (q : Nat) (a : Nat → Nat) (t m b h s : Int) : Nat × va_E := gO q 1 [gi t, .ref (a 1), .ref (a 2), .ref (a 3), gi m, .ref (a 5), .ref (a 6), .ref (a 7), gi b, .ref (a 9), gi h, .ref (a 11), gi s, .ref (a 13)]
abbrev oC (q : Nat) (a : Nat → Nat) : Nat × va_E := gO q 2 [.ref (a 0), .ref (a 1), .ref (a 2)]
abbrev oH (q : Nat) (a : Nat → Nat) (n k : Int) : Nat × va_E := gO q 3 [.ref (a 0), .ref (a 1), gi n, gi k]
abbrev oL (q : Nat) (a : Nat → Nat) (n : Int) : Nat × va_E := gO q 4 [.ref (a 0), gi n]
abbrev oR (q : Nat) (a : Nat → Nat) (f n w r : Int) : Nat × va_E := gO q 5 [gi f, gi n, .ref (a 2), .ref (a 3), .ref (a 4), .ref (a 5), .ref (a 6), gi w, gi r]
abbrev oT (q : Nat) (a : Nat → Nat) (n : Int) : Nat × va_E := gO q 6 [.ref (a 0), .ref (a 1), gi n]
abbrev oX (q : Nat) (a : Nat → Nat) (k0 k1 b n f : Int) : Nat × va_E := gO q 7 [.ref (a 0), .ref (a 1), .ref (a 2), gi k0, gi k1, .ref (a 5), .ref (a 6), .ref (a 7), .ref (a 8), .ref (a 9), gi b, gi n, gi f]
abbrev oM (q : Nat) (a : Nat → Nat) (al at_ st so va fa pl sg sm : Int) : Nat × va_E := gO q 8 [.ref (a 0), .ref (a 1), .ref (a 2), .ref (a 3), gi al, .ref (a 5), gi at_, gi st, gi so, gi va, gi fa, gi pl, .ref (a 12), .ref (a 13), .ref (a 14), .ref (a 15), .ref (a 16), .ref (a 17), .ref (a 18), .ref (a 19), gi sg, gl sm]
