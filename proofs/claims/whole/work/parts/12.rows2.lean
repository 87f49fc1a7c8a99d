/-! own kit, 3: fields, arrays, longs, Math, calls, the entry and the end of a method -/
def gFl (own : String) (idx ci k : Nat) (C : String) (T : u_T) (N : Nat) : Prop := (∀ w ∈ u_ws C T N, w ∈ gAL) ∧ vwCl[ci]? = some (C, T, N) ∧ k < N ∧ Cond.fieldLink own idx (T k).1 (T k).2.1 (T k).2.2.1 ∈ gAL
def gFp (own : String) (idx ci k : Nat) (C : String) (T : u_T) (N : Nat) (fin : Bool) (ty : FieldType) : Prop := gFl own idx ci k C T N ∧ (∃ ty0 : Nat → FieldType, ∀ k, k < N → parseFieldDescriptor (T k).2.2.1 = some (ty0 k)) ∧ (∀ a, a < N → ∀ b, b < N → a ≠ b → (T a).2.1 ≠ (T b).2.1) ∧ (T k).2.2.2 = fin ∧ parseFieldDescriptor (T k).2.2.1 = some ty
theorem lL_i {a : Int} (h : -2147483648 ≤ a ∧ a < 2147483648) : (iI a).toInt64 = lL a := by
  apply Int64.toInt_inj.mp
  rw [Int32.toInt_toInt64, iI_t h, lL_t (by omega)]
theorem iI_l (a : Int) : (lL a).toInt32 = iI a := Int64.toInt32_ofInt
def gcmp (a b : Int) : Int := if b < a then 1 else if a = b then 0 else -1
theorem lL_cmp {a b : Int} (ha : -9223372036854775808 ≤ a ∧ a < 9223372036854775808) (hb : -9223372036854775808 ≤ b ∧ b < 9223372036854775808) : lg_cmp (lL a) (lL b) = iI (gcmp a b) := by
  unfold lg_cmp gcmp
  by_cases h : b < a
  · rw [if_pos h, if_pos (show lL a > lL b from (lL_lt hb ha).mpr h)]; rfl
  · rw [if_neg h, if_neg (show ¬ lL a > lL b from fun q => h ((lL_lt hb ha).mp q))]
    by_cases h2 : a = b
    · rw [if_pos h2, if_pos ((lL_eq ha hb).mpr h2)]; rfl
    · rw [if_neg h2, if_neg (fun q => h2 ((lL_eq ha hb).mp q))]; rfl
theorem iI_abs2 {a : Int} (h : -2147483648 < a ∧ a < 2147483648) : (if 0 ≤ iI a then iI a else 0 - iI a) = iI (gabs a) := by
  rw [← iI_z]
  unfold gabs
  by_cases p : a < 0
  · rw [if_pos p, if_neg (fun q => Int.not_le.mpr p ((iI_le (by omega) (by omega)).mp q)), iI_sub, Int.zero_sub]
  · rw [if_neg p, if_pos ((iI_le (by omega) (by omega)).mpr (by omega))]
theorem gupd_f {cI : ClassId} {f : Int → Int} {n : Nat} {z v : Int} (hz : 0 ≤ z ∧ z < (n : Int)) (hn : n < 2147483648) : upd (fun i : Nat => iI (gclip n f i)) (iI z).toNatClampNeg (iI v) = fun i : Nat => iI (gclip n (gupd f z v) i) := by
  funext i
  rw [iI_tc (by omega)]
  unfold upd gclip gupd
  by_cases h : (i : Int) = z
  · rw [if_pos (show i = z.toNat by omega), if_pos (show i < n by omega), if_pos h]
  · rw [if_neg (show ¬ i = z.toNat by omega), if_neg h]
def gLk (y : MethodName) (cc : ByteArray) (maxL : Nat) (ret : Option FieldType) (n : Nat) : Prop := Cond.code y cc maxL ret ∈ gAL ∧ Cond.initialized y.cls ∈ gAL ∧ y.cls ≠ "java/lang/invoke/MethodHandle" ∧ y.cls ≠ "java/lang/invoke/VarHandle" ∧ (parseMethodDescriptor y.desc).map (fun d => d.parameters.length) = some n
def gLkV (own : String) (idx : Nat) (y : MethodName) (cc : ByteArray) (maxL : Nat) (ret : Option FieldType) (n : Nat) : Prop := gLk y cc maxL ret n ∧ Cond.methodLink own idx y ∈ gAL ∧ Cond.instanceMethod y ∈ gAL ∧ Cond.selects y.cls y y ∈ gAL
def gLkS (own : String) (idx : Nat) (y : MethodName) (cc : ByteArray) (maxL : Nat) (ret : Option FieldType) (n : Nat) : Prop := gLk y cc maxL ret n ∧ Cond.methodLink own idx y ∈ gAL ∧ Cond.static y ∈ gAL
def gLkSN (own : String) (idx : Nat) (y : MethodName) (cc : ByteArray) (maxL : Nat) (ret : Option FieldType) (n : Nat) : Prop := gLk y cc maxL ret n ∧ (own, idx, y) ∈ gNl ∧ Cond.static y ∈ gAL
def gLkI (own : String) (idx : Nat) (y : MethodName) (cc : ByteArray) (maxL : Nat) (n : Nat) : Prop := gLk y cc maxL none n ∧ Cond.methodLink own idx y ∈ gAL ∧ Cond.instanceMethod y ∈ gAL ∧ y.name = "<init>"
def gLkIN (own : String) (idx : Nat) (y : MethodName) (cc : ByteArray) (maxL : Nat) (n : Nat) : Prop := gLk y cc maxL none n ∧ (own, idx, y) ∈ gNl ∧ Cond.instanceMethod y ∈ gAL ∧ y.name = "<init>"
theorem gGood {w : Cond} (h : w ∈ gAL) : GoodIn gAL (w :: gAL) := fun q hq => by
  rcases List.mem_cons.mp hq with e | e
  · rw [e]; exact ⟨h, gAL_good _ h⟩
  · exact ⟨e, gAL_good _ e⟩
/-- the numbers of a call: its room -/
def gRo (rm R : Room) (mc ms cn sl maxL : Nat) : Bool := Nat.beq rm.cells mc && Nat.beq rm.slots ms && Nat.ble (rm.frames + 1) R.frames && Nat.ble (8 + (maxL + 11) + rm.locals) R.locals && Nat.ble (cn + mc) R.cells && Nat.ble (sl + ms) R.slots
theorem gRo_s {rm R : Room} {mc ms cn sl maxL : Nat} (h : gRo rm R mc ms cn sl maxL = true) : rm.cells = mc ∧ rm.slots = ms ∧ (rm.frames + 1 ≤ R.frames ∧ 8 + (maxL + 11) + rm.locals ≤ R.locals) ∧ cn + mc ≤ R.cells ∧ sl + ms ≤ R.slots := by
  unfold gRo at h
  simp only [Bool.and_eq_true, Nat.ble_eq] at h
  exact ⟨Nat.eq_of_beq_eq_true h.1.1.1.1.1, Nat.eq_of_beq_eq_true h.1.1.1.1.2, ⟨h.1.1.1.2, h.1.1.2⟩, h.1.2, h.2⟩
section GW
variable {p : Program} {l : Launch} {e : Env} {R : Room} {s : State} {m : MethodId} {args : Array Value} {below : List Frame} {meth : Method} {c : Code} {H : Heap} {locs : List Loc} {cn sl : Nat} {Q : State → Prop}
variable {pc : Nat} {ls : Array Slot} {rest st0 : List Value} {a : Array Value} {A0 A1 : Nat → Prop} {H0 : Heap} {mc ms : Nat} {D : va_G} {Post : Option Value → va_W → Prop}
theorem g_roW (hr : va_Run p l e R s m args below meth c H locs cn sl 0 0 (F0 m pc ls st0) rest (gQ A1 true D Post a) (gFr true A1)) (kk : ∀ (v : Option Value) (w' : va_W), Post v w' → W p l e R s m args below meth c H locs cn sl Q (F0 m (pc + 3) ls (v.toList ++ rest))) : W p l e R s m args below meth c H locs cn sl Q (F0 m pc ls st0) := by
  intro T hT X
  obtain ⟨v, st₀, t, T', L, h0, X', hL, e1, e2, ⟨⟨v', w', hv, hp, -, -⟩, -, hro⟩, stp⟩ := hr T hT X
  cases hv
  obtain ⟨t2, a1, b1⟩ := kk v w' hp T' (by rw [e1, hro rfl, h0]) (Stand.forget X' (fun q h => absurd (hL q h).1 (by decide)))
  exact ⟨t2, stp t2 a1, b1⟩
theorem g_wrW (hr : va_Run p l e R s m args below meth c H locs cn sl mc ms (F0 m pc ls st0) rest (gQ A1 false D Post a) (gFr false A1)) (hS : va_S A0 H0 H locs) (hA : ∀ q, A1 q → A0 q)
    (kk : ∀ (v : Option Value) (w' : va_W) (H1 : Heap) (locs1 : List Loc), Post v w' → va_P D vwCl w' H1 → va_D A1 w' → (∀ q : Nat, q < H.size → ¬ A1 q → H1[q]? = H[q]?) → va_S A0 H0 H1 locs1 → W p l e R s m args below meth c H1 locs1 (cn + mc) (sl + ms) Q (F0 m (pc + 3) ls (v.toList ++ rest))) : W p l e R s m args below meth c H locs cn sl Q (F0 m pc ls st0) := by
  intro T hT X
  obtain ⟨v, st₀, t, T', L, h0, X', hL, e1, e2, ⟨⟨v', w', hv, hp, hP, hD⟩, ⟨hz, hk⟩, -⟩, stp⟩ := hr T hT X
  cases hv
  rw [h0] at hz hk
  obtain ⟨t2, a1, b1⟩ := kk v w' T'.heap (locs ++ L) hp (by rw [e1]; exact hP) hD (fun q h1 h2 => by rw [e1]; exact hk q h1 h2)
    ⟨Nat.le_trans hS.1 (by rw [e1]; exact hz), fun q h1 h2 => by rw [e1, hk q (Nat.lt_of_lt_of_le h1 hS.1) (fun z => h2 (hA q z))]; exact hS.2.1 q h1 h2, fun q hq => by
      rcases List.mem_append.mp hq with h | h
      · exact hS.2.2 q h
      · exact hA _ (hL q h).2⟩ T' rfl X'
  exact ⟨t2, stp t2 a1, b1⟩
end GW
section GK2
variable {l : Launch} {D : va_G} {cI cZ : ClassId} {cc : ByteArray} {nL : Nat} {own nm : String} {R : Room} {ro : Bool} {V : Nat → Nat → va_W → Nat → List (Nat × Value) → List Value → Prop}
variable {cn sl pc : Nat} {ws ws' : va_W} {lv lv' : List (Nat × Value)} {st : List Value}
theorem g_get (X : GK l D cI cZ cc nL own nm R ro V) {idx ci k N : Nat} {C : String} {T : u_T} (F : gFl own idx ci k C T N) (d : decode cc pc = .ok (.getfield idx, 3)) (q0 : Nat) {a : Nat} {fs : List Value} {v : Value} (he : ws[q0]? = some (a, .inr (ci, fs))) (hv : fs[k]? = some v) (kk : V cn sl ws (pc + 3) lv (v :: st)) : V cn sl ws pc lv (.ref a :: st) := by
  obtain ⟨p, e, s, m, args, below, meth, c, A, Q, hx, hb, hml, hown, hts, hE, hA, hnm, rfl⟩ := X
  obtain ⟨f1, f2, f3, f4⟩ := F
  exact fun H locs ls hl hP hD hS hro => va_get hx hb hts f1 hown hE.1 hP q0 he f2 k f3 (hts _ f4) (fun _ h => h) hv d (kk H locs ls hl hP hD hS hro)
theorem g_put (X : GK l D cI cZ cc nL own nm R false V) {idx ci k N : Nat} {C : String} {T : u_T} {ty : FieldType} (F : gFp own idx ci k C T N false ty) (d : decode cc pc = .ok (.putfield idx, 3)) (q0 : Nat) {a : Nat} {fs : List Value} {v : Value} (he : ws[q0]? = some (a, .inr (ci, fs))) (hn : narrow ty v = v) (hf : fits ty v = true) (hlen : Nat.blt k fs.length = true) (hws : ws.set q0 (a, .inr (ci, fs.set k v)) = ws') (kk : V cn sl ws' (pc + 3) lv st) : V cn sl ws pc lv (v :: .ref a :: st) := by
  obtain ⟨p, e, s, m, args, below, meth, c, A, Q, hx, hb, hml, hown, hts, hE, hA, hnm, rfl⟩ := X
  obtain ⟨⟨f1, f2, f3, f4⟩, ⟨ty0, f5⟩, f6, f7, f8⟩ := F
  subst hws
  exact fun H locs ls hl hP hD hS hro => va_put hx hb hts f1 ty0 f5 f6 hown hE.1 hP hD hS q0 he f2 k f3 (hts _ f4) (fun _ h => h) f7 f8 hn hf (Nat.le_of_ble_eq_true hlen) d (fun H1 locs1 hP1 hD1 hS1 => kk H1 locs1 ls hl hP1 hD1 hS1 (fun h => by cases h))
theorem g_putF (X : GK l D cI cZ cc nL own "<init>" R false V) {idx ci k N : Nat} {C : String} {T : u_T} {ty : FieldType} (F : gFp own idx ci k C T N true ty) (hdecl : (T k).1 = own) (d : decode cc pc = .ok (.putfield idx, 3)) (q0 : Nat) {a : Nat} {fs : List Value} {v : Value} (he : ws[q0]? = some (a, .inr (ci, fs))) (hn : narrow ty v = v) (hf : fits ty v = true) (hlen : Nat.blt k fs.length = true) (hws : ws.set q0 (a, .inr (ci, fs.set k v)) = ws') (kk : V cn sl ws' (pc + 3) lv st) : V cn sl ws pc lv (v :: .ref a :: st) := by
  obtain ⟨p, e, s, m, args, below, meth, c, A, Q, hx, hb, hml, hown, hts, hE, hA, hnm, rfl⟩ := X
  obtain ⟨⟨f1, f2, f3, f4⟩, ⟨ty0, f5⟩, f6, f7, f8⟩ := F
  subst hws
  have hnm : meth.name = "<init>" := hnm.elim (fun h => absurd h (by decide)) id
  exact fun H locs ls hl hP hD hS hro => va_putF hx hb hts f1 ty0 f5 f6 hown hE.1 hP hD hS q0 he f2 k f3 (hts _ f4) (fun _ h => h) f7 hnm hdecl f8 hn hf (Nat.le_of_ble_eq_true hlen) d (fun H1 locs1 hP1 hD1 hS1 => kk H1 locs1 ls hl hP1 hD1 hS1 (fun h => by cases h))
theorem g_iald (X : GK l D cI cZ cc nL own nm R ro V) (d : decode cc pc = .ok (.iaload, 1)) (q0 : Nat) {a n : Nat} {f : Int → Int} {z : Int} (he : ws[q0]? = some (gA cI a n f)) (hz : 0 ≤ z ∧ z < (n : Int)) (hn : Nat.blt n 2147483648 = true) (kk : V cn sl ws (pc + 1) lv (gi (f z) :: st)) : V cn sl ws pc lv (gi z :: .ref a :: st) := by
  obtain ⟨p, e, s, m, args, below, meth, c, A, Q, hx, hb, hml, hown, hts, hE, hA, hnm, rfl⟩ := X
  have hn := Nat.le_of_ble_eq_true hn
  refine fun H locs ls hl hP hD hS hro => va_iald hx hb hE.1 hP q0 0 he rfl (iI_in hz (by omega)) d ?_
  have h : iI (gclip n f (iI z).toNatClampNeg) = iI (f z) := by
    unfold gclip
    rw [iI_tc (by omega), if_pos (by omega), Int.toNat_of_nonneg hz.1]
  rw [h]
  exact kk H locs ls hl hP hD hS hro
theorem g_zald (X : GK l D cI cZ cc nL own nm R ro V) (d : decode cc pc = .ok (.baload, 1)) (q0 : Nat) {a n : Nat} {f : Int → Int} {z : Int} (he : ws[q0]? = some (gA cZ a n f)) (hz : 0 ≤ z ∧ z < (n : Int)) (hn : Nat.blt n 2147483648 = true) (kk : V cn sl ws (pc + 1) lv (gi (f z) :: st)) : V cn sl ws pc lv (gi z :: .ref a :: st) := by
  obtain ⟨p, e, s, m, args, below, meth, c, A, Q, hx, hb, hml, hown, hts, hE, hA, hnm, rfl⟩ := X
  have hn := Nat.le_of_ble_eq_true hn
  refine fun H locs ls hl hP hD hS hro => va_zald hx hb hE.1 hP q0 1 he rfl (iI_in hz (by omega)) d ?_
  have h : iI (gclip n f (iI z).toNatClampNeg) = iI (f z) := by
    unfold gclip
    rw [iI_tc (by omega), if_pos (by omega), Int.toNat_of_nonneg hz.1]
  rw [h]
  exact kk H locs ls hl hP hD hS hro
theorem g_iast (X : GK l D cI cZ cc nL own nm R false V) (d : decode cc pc = .ok (.iastore, 1)) (q0 : Nat) {a n : Nat} {f : Int → Int} {z v : Int} (he : ws[q0]? = some (gA cI a n f)) (hz : 0 ≤ z ∧ z < (n : Int)) (hn : Nat.blt n 2147483648 = true) (hws : ws.set q0 (gA cI a n (gupd f z v)) = ws') (kk : V cn sl ws' (pc + 1) lv st) : V cn sl ws pc lv (gi v :: gi z :: .ref a :: st) := by
  obtain ⟨p, e, s, m, args, below, meth, c, A, Q, hx, hb, hml, hown, hts, hE, hA, hnm, rfl⟩ := X
  have hn := Nat.le_of_ble_eq_true hn
  subst hws
  refine fun H locs ls hl hP hD hS hro => va_iast hx hb hE.1 hP hD hS q0 0 he rfl (iI_in hz (by omega)) d (fun H1 locs1 hP1 hD1 hS1 => ?_)
  rw [gupd_f (cI := cI) hz (by omega)] at hP1 hD1
  exact kk H1 locs1 ls hl hP1 hD1 hS1 (fun h => by cases h)
theorem g_zast (X : GK l D cI cZ cc nL own nm R false V) (d : decode cc pc = .ok (.bastore, 1)) (q0 : Nat) {a n : Nat} {f : Int → Int} {z v : Int} (he : ws[q0]? = some (gA cZ a n f)) (hz : 0 ≤ z ∧ z < (n : Int)) (hn : Nat.blt n 2147483648 = true) (hv : vp_nar .boolean (iI v) = iI v) (hws : ws.set q0 (gA cZ a n (gupd f z v)) = ws') (kk : V cn sl ws' (pc + 1) lv st) : V cn sl ws pc lv (gi v :: gi z :: .ref a :: st) := by
  obtain ⟨p, e, s, m, args, below, meth, c, A, Q, hx, hb, hml, hown, hts, hE, hA, hnm, rfl⟩ := X
  have hn := Nat.le_of_ble_eq_true hn
  subst hws
  refine fun H locs ls hl hP hD hS hro => va_zast hx hb hE.1 hP hD hS q0 1 he rfl (iI_in hz (by omega)) d (fun H1 locs1 hP1 hD1 hS1 => ?_)
  rw [hv, gupd_f (cI := cZ) hz (by omega)] at hP1 hD1
  exact kk H1 locs1 ls hl hP1 hD1 hS1 (fun h => by cases h)
theorem g_ws (h : ws = ws') (kk : V cn sl ws' pc lv st) : V cn sl ws pc lv st := by rw [h]; exact kk
theorem g_alen (X : GK l D cI cZ cc nL own nm R ro V) (d : decode cc pc = .ok (.arraylength, 1)) (q0 : Nat) {a n : Nat} {f : Int → Int} (he : ws[q0]? = some (gA cI a n f)) (kk : V cn sl ws (pc + 1) lv (gi (n : Int) :: st)) : V cn sl ws pc lv (.ref a :: st) := by
  obtain ⟨p, e, s, m, args, below, meth, c, A, Q, hx, hb, hml, hown, hts, hE, hA, hnm, rfl⟩ := X
  exact fun H locs ls hl hP hD hS hro => va_alen hx hb hE.1 hP q0 0 he (ty := .int) rfl (iI_N.symm) d (kk H locs ls hl hP hD hS hro)
theorem g_newa (X : GK l D cI cZ cc nL own nm R false V) (d : decode cc pc = .ok (.newarray .int, 2)) (hw : Cond.arrayClass .int ∈ gAL) {n : Int} (N : Nat) (hnN : n = (N : Int)) (hN : Nat.ble N 100000 = true) (hcn : Nat.ble (cn + 1) R.cells = true) (hsl : Nat.ble (sl + N) R.slots = true) (kk : ∀ q : Nat, V (cn + 1) (sl + N) (ws ++ [gA cI q N (fun _ => 0)]) (pc + 2) lv (.ref q :: st)) : V cn sl ws pc lv (gi n :: st) := by
  obtain ⟨p, e, s, m, args, below, meth, c, A, Q, hx, hb, hml, hown, hts, hE, hA, hnm, rfl⟩ := X
  have hN := Nat.le_of_ble_eq_true hN
  subst hnN
  refine fun H locs ls hl hP hD hS hro => va_newa (atype := .int) (ty := .int) (N' := N) (a0 := (N, .inl (fun i : Nat => iI (gclip N (fun _ => 0) i)))) hx hb (hts _ hw) rfl hE.1 hP hD hS hA (fun cA => by rw [show (fun i : Nat => iI (gclip N (fun _ => 0) i)) = fun _ => iI 0 from funext fun i => by unfold gclip; split <;> rfl]; rfl) (by rw [iI_N]; exact nI_pos (by omega)) (by rw [iI_N]; exact nI_clamp (by omega)) (by show N * 4 ≤ _; omega) (Nat.le_of_ble_eq_true hcn) (Nat.le_of_ble_eq_true hsl) d (fun q cA H1 hK1 hP1 hD1 hS1 => ?_)
  have h1 : s.vm.findClass ("[" ++ (FieldType.int).toString) = some cA := (hK1.2 2 _ rfl).2
  have h2 : s.vm.findClass ("[" ++ (FieldType.int).toString) = some cI := (hE.1.2 0 _ rfl).2
  have h3 : cA = cI := Option.some.inj (h1.symm.trans h2)
  subst h3
  exact kk q H1 locs ls hl hP1 hD1 hS1 (fun h => by cases h)
theorem g_newz (X : GK l D cI cZ cc nL own nm R false V) (d : decode cc pc = .ok (.newarray .boolean, 2)) (hw : Cond.arrayClass .boolean ∈ gAL) {n : Int} (N : Nat) (hnN : n = (N : Int)) (hN : Nat.ble N 100000 = true) (hcn : Nat.ble (cn + 1) R.cells = true) (hsl : Nat.ble (sl + N) R.slots = true) (kk : ∀ q : Nat, V (cn + 1) (sl + N) (ws ++ [gA cZ q N (fun _ => 0)]) (pc + 2) lv (.ref q :: st)) : V cn sl ws pc lv (gi n :: st) := by
  obtain ⟨p, e, s, m, args, below, meth, c, A, Q, hx, hb, hml, hown, hts, hE, hA, hnm, rfl⟩ := X
  have hN := Nat.le_of_ble_eq_true hN
  subst hnN
  refine fun H locs ls hl hP hD hS hro => va_newa (atype := .boolean) (ty := .boolean) (N' := N) (a0 := (N, .inl (fun i : Nat => iI (gclip N (fun _ => 0) i)))) hx hb (hts _ hw) rfl hE.1 hP hD hS hA (fun cA => by rw [show (fun i : Nat => iI (gclip N (fun _ => 0) i)) = fun _ => iI 0 from funext fun i => by unfold gclip; split <;> rfl]; rfl) (by rw [iI_N]; exact nI_pos (by omega)) (by rw [iI_N]; exact nI_clamp (by omega)) (by show N * 1 ≤ _; omega) (Nat.le_of_ble_eq_true hcn) (Nat.le_of_ble_eq_true hsl) d (fun q cA H1 hK1 hP1 hD1 hS1 => ?_)
  have h1 : s.vm.findClass ("[" ++ (FieldType.boolean).toString) = some cA := (hK1.2 2 _ rfl).2
  have h2 : s.vm.findClass ("[" ++ (FieldType.boolean).toString) = some cZ := (hE.1.2 1 _ rfl).2
  have h3 : cA = cZ := Option.some.inj (h1.symm.trans h2)
  subst h3
  exact kk q H1 locs ls hl hP1 hD1 hS1 (fun h => by cases h)
theorem g_new (X : GK l D cI cZ cc nL own nm R false V) {idx ci N : Nat} {C : String} {T : u_T} (ty0 : Nat → FieldType) (hty : ∀ k, k < N → parseFieldDescriptor (T k).2.2.1 = some (ty0 k)) (hin : ∀ w ∈ u_ws C T N, w ∈ gAL) (hc : vwCl[ci]? = some (C, T, N)) (hcl : Cond.classLink own idx C ∈ gAL) (hinst : Cond.instantiable C N ∈ gAL) (hini : Cond.initialized C ∈ gAL) {fs : List Value} (hfs : ∀ j, j < N → defaultValue (ty0 j) = vp_V fs j) (d : decode cc pc = .ok (.new idx, 3)) (hcn : Nat.ble (cn + 1) R.cells = true) (hsl : Nat.ble (sl + N) R.slots = true) (kk : ∀ q : Nat, V (cn + 1) (sl + N) (ws ++ [(q, .inr (ci, fs))]) (pc + 3) lv (.ref q :: st)) : V cn sl ws pc lv st := by
  obtain ⟨p, e, s, m, args, below, meth, c, A, Q, hx, hb, hml, hown, hts, hE, hA, hnm, rfl⟩ := X
  exact fun H locs ls hl hP hD hS hro => va_new hx hb hts hin ty0 hty hown (hts _ hcl) (hts _ hinst) (hts _ hini) hE.1 hP hD hS hA hc hfs (Nat.le_of_ble_eq_true hcn) (Nat.le_of_ble_eq_true hsl) d (fun q H1 hP1 hD1 hS1 => kk q H1 locs ls hl hP1 hD1 hS1 (fun h => by cases h))
theorem g_objInit (X : GK l D cI cZ cc nL own nm R ro V) {idx : Nat} (h1 : Cond.methodLink own idx objectInit ∈ gAL) (h2 : Cond.instanceMethod objectInit ∈ gAL) (h3 : Cond.code objectInit ⟨#[0xb1]⟩ 1 none ∈ gAL) (d : decode cc pc = .ok (.invokespecial idx, 3)) {a : Nat} (hf : Nat.ble 1 R.frames = true) (hl0 : Nat.ble ((st.map fun v => v.category).sum + 12) R.locals = true) (kk : V cn sl ws (pc + 3) lv st) : V cn sl ws pc lv (.ref a :: st) := by
  obtain ⟨p, e, s, m, args, below, meth, c, A, Q, hx, hb, hml, hown, hts, hE, hA, hnm, rfl⟩ := X
  refine fun H locs ls hl hP hD hS hro => W.objInit hx hb hown (hts _ h1) (hts _ h2) (hts _ h3) rfl (by rw [hml]; exact hl.1) rfl d (Nat.le_of_ble_eq_true hf) ?_ ?_
  · have := Nat.le_of_ble_eq_true hl0
    show 2 * 0 + _ + 12 ≤ _
    omega
  · exact kk H locs ls hl hP hD hS hro
theorem g_ladd (X : GK l D cI cZ cc nL own nm R ro V) {a b : Int} (d : decode cc pc = .ok (.ladd, 1)) (kk : V cn sl ws (pc + 1) lv (gl (a + b) :: st)) : V cn sl ws pc lv (gl b :: gl a :: st) := by
  obtain ⟨p, e, s, m, args, below, meth, c, A, Q, hx, hb, hml, hown, hts, hE, hA, hnm, rfl⟩ := X
  exact fun H locs ls hl hP hD hS hro => lv_ladd hx hb d (by rw [lL_add]; exact kk H locs ls hl hP hD hS hro)
theorem g_lmul (X : GK l D cI cZ cc nL own nm R ro V) {a b : Int} (d : decode cc pc = .ok (.lmul, 1)) (kk : V cn sl ws (pc + 1) lv (gl (a * b) :: st)) : V cn sl ws pc lv (gl b :: gl a :: st) := by
  obtain ⟨p, e, s, m, args, below, meth, c, A, Q, hx, hb, hml, hown, hts, hE, hA, hnm, rfl⟩ := X
  exact fun H locs ls hl hP hD hS hro => lv_lmul hx hb d (by rw [lL_mul]; exact kk H locs ls hl hP hD hS hro)
theorem g_ldiv (X : GK l D cI cZ cc nL own nm R ro V) {a b : Int} (d : decode cc pc = .ok (.ldiv, 1)) (ha : 0 ≤ a ∧ a < 9223372036854775808) (hb0 : 0 < b ∧ b < 9223372036854775808) (kk : V cn sl ws (pc + 1) lv (gl (a / b) :: st)) : V cn sl ws pc lv (gl b :: gl a :: st) := by
  obtain ⟨p, e, s, m, args, below, meth, c, A, Q, hx, hb, hml, hown, hts, hE, hA, hnm, rfl⟩ := X
  exact fun H locs ls hl hP hD hS hro => lv_ldiv hx hb d (lL_ne (by omega) (by omega)) (by rw [lL_div ha hb0]; exact kk H locs ls hl hP hD hS hro)
theorem g_lrem (X : GK l D cI cZ cc nL own nm R ro V) {a b : Int} (d : decode cc pc = .ok (.lrem, 1)) (ha : 0 ≤ a ∧ a < 9223372036854775808) (hb0 : 0 < b ∧ b < 9223372036854775808) (kk : V cn sl ws (pc + 1) lv (gl (a % b) :: st)) : V cn sl ws pc lv (gl b :: gl a :: st) := by
  obtain ⟨p, e, s, m, args, below, meth, c, A, Q, hx, hb, hml, hown, hts, hE, hA, hnm, rfl⟩ := X
  exact fun H locs ls hl hP hD hS hro => lv_lrem hx hb d (lL_ne (by omega) (by omega)) (by rw [lL_rem ha hb0]; exact kk H locs ls hl hP hD hS hro)
theorem g_land (X : GK l D cI cZ cc nL own nm R ro V) {a b r : Int} (d : decode cc pc = .ok (.land, 1)) (h : lL a &&& lL b = lL r) (kk : V cn sl ws (pc + 1) lv (gl r :: st)) : V cn sl ws pc lv (gl b :: gl a :: st) := by
  obtain ⟨p, e, s, m, args, below, meth, c, A, Q, hx, hb, hml, hown, hts, hE, hA, hnm, rfl⟩ := X
  exact fun H locs ls hl hP hD hS hro => lv_land hx hb d (by rw [h]; exact kk H locs ls hl hP hD hS hro)
theorem g_lor (X : GK l D cI cZ cc nL own nm R ro V) {a b r : Int} (d : decode cc pc = .ok (.lor, 1)) (h : lL a ||| lL b = lL r) (kk : V cn sl ws (pc + 1) lv (gl r :: st)) : V cn sl ws pc lv (gl b :: gl a :: st) := by
  obtain ⟨p, e, s, m, args, below, meth, c, A, Q, hx, hb, hml, hown, hts, hE, hA, hnm, rfl⟩ := X
  exact fun H locs ls hl hP hD hS hro => lv_lor hx hb d (by rw [h]; exact kk H locs ls hl hP hD hS hro)
theorem g_lshl (X : GK l D cI cZ cc nL own nm R ro V) {a b r : Int} (d : decode cc pc = .ok (.lshl, 1)) (h : lL a <<< ((iI b).toInt64 &&& 63) = lL r) (kk : V cn sl ws (pc + 1) lv (gl r :: st)) : V cn sl ws pc lv (gi b :: gl a :: st) := by
  obtain ⟨p, e, s, m, args, below, meth, c, A, Q, hx, hb, hml, hown, hts, hE, hA, hnm, rfl⟩ := X
  exact fun H locs ls hl hP hD hS hro => lv_lshl hx hb d h (kk H locs ls hl hP hD hS hro)
theorem g_lshr (X : GK l D cI cZ cc nL own nm R ro V) {a b r : Int} (d : decode cc pc = .ok (.lshr, 1)) (h : lL a >>> ((iI b).toInt64 &&& 63) = lL r) (kk : V cn sl ws (pc + 1) lv (gl r :: st)) : V cn sl ws pc lv (gi b :: gl a :: st) := by
  obtain ⟨p, e, s, m, args, below, meth, c, A, Q, hx, hb, hml, hown, hts, hE, hA, hnm, rfl⟩ := X
  exact fun H locs ls hl hP hD hS hro => lv_lshr hx hb d h (kk H locs ls hl hP hD hS hro)
theorem g_lushr (X : GK l D cI cZ cc nL own nm R ro V) {a b r : Int} (d : decode cc pc = .ok (.lushr, 1)) (h : ((lL a).toUInt64 >>> ((iI b).toInt64.toUInt64 &&& Int64.toUInt64 63)).toInt64 = lL r) (kk : V cn sl ws (pc + 1) lv (gl r :: st)) : V cn sl ws pc lv (gi b :: gl a :: st) := by
  obtain ⟨p, e, s, m, args, below, meth, c, A, Q, hx, hb, hml, hown, hts, hE, hA, hnm, rfl⟩ := X
  exact fun H locs ls hl hP hD hS hro => lv_lushr hx hb d h (kk H locs ls hl hP hD hS hro)
theorem g_iushr (X : GK l D cI cZ cc nL own nm R ro V) {a b r : Int} (d : decode cc pc = .ok (.iushr, 1)) (h : ((iI a).toUInt32 >>> ((iI b).toUInt32 &&& Int32.toUInt32 31)).toInt32 = iI r) (kk : V cn sl ws (pc + 1) lv (gi r :: st)) : V cn sl ws pc lv (gi b :: gi a :: st) := by
  obtain ⟨p, e, s, m, args, below, meth, c, A, Q, hx, hb, hml, hown, hts, hE, hA, hnm, rfl⟩ := X
  exact fun H locs ls hl hP hD hS hro => lv_iushr hx hb d h (kk H locs ls hl hP hD hS hro)
theorem g_i2l (X : GK l D cI cZ cc nL own nm R ro V) {a : Int} (d : decode cc pc = .ok (.i2l, 1)) (ha : -2147483648 ≤ a ∧ a < 2147483648) (kk : V cn sl ws (pc + 1) lv (gl a :: st)) : V cn sl ws pc lv (gi a :: st) := by
  obtain ⟨p, e, s, m, args, below, meth, c, A, Q, hx, hb, hml, hown, hts, hE, hA, hnm, rfl⟩ := X
  exact fun H locs ls hl hP hD hS hro => lv_i2l hx hb d (lL_i ha) (kk H locs ls hl hP hD hS hro)
theorem g_l2i (X : GK l D cI cZ cc nL own nm R ro V) {a : Int} (d : decode cc pc = .ok (.l2i, 1)) (kk : V cn sl ws (pc + 1) lv (gi a :: st)) : V cn sl ws pc lv (gl a :: st) := by
  obtain ⟨p, e, s, m, args, below, meth, c, A, Q, hx, hb, hml, hown, hts, hE, hA, hnm, rfl⟩ := X
  exact fun H locs ls hl hP hD hS hro => lv_l2i hx hb d (iI_l a) (kk H locs ls hl hP hD hS hro)
theorem g_lcmp (X : GK l D cI cZ cc nL own nm R ro V) {a b : Int} (d : decode cc pc = .ok (.lcmp, 1)) (ha : -9223372036854775808 ≤ a ∧ a < 9223372036854775808) (hb0 : -9223372036854775808 ≤ b ∧ b < 9223372036854775808) (kk : V cn sl ws (pc + 1) lv (gi (gcmp a b) :: st)) : V cn sl ws pc lv (gl b :: gl a :: st) := by
  obtain ⟨p, e, s, m, args, below, meth, c, A, Q, hx, hb, hml, hown, hts, hE, hA, hnm, rfl⟩ := X
  exact fun H locs ls hl hP hD hS hro => W.lcmp hx hb d (by rw [lL_cmp ha hb0]; exact kk H locs ls hl hP hD hS hro)
def gMa (own : String) (idx : Nat) (y : MethodName) (cc : ByteArray) (maxL : Nat) : Prop := Cond.methodLink own idx y ∈ gAL ∧ Cond.static y ∈ gAL ∧ Cond.initialized "java/lang/Math" ∈ gAL ∧ Cond.code y cc maxL (some .int) ∈ gAL
def gRm (R : Room) (cn sl k : Nat) : Bool := Nat.ble 1 R.frames && Nat.ble (k + 13) R.locals && Nat.ble cn R.cells && Nat.ble sl R.slots
theorem gRm_s {R : Room} {cn sl k : Nat} (h : gRm R cn sl k = true) : 1 ≤ R.frames ∧ k + 13 ≤ R.locals ∧ cn ≤ R.cells ∧ sl ≤ R.slots := by
  unfold gRm at h
  simp only [Bool.and_eq_true, Nat.ble_eq] at h
  exact ⟨h.1.1.1, h.1.1.2, h.1.2, h.2⟩
theorem g_max (X : GK l D cI cZ cc nL own nm R ro V) {idx : Nat} (L : gMa own idx Lib.Math.max.name Lib.Math.max.code 2) {a b : Int} (d : decode cc pc = .ok (.invokestatic idx, 3)) (ha : -2147483648 ≤ a ∧ a < 2147483648) (hb0 : -2147483648 ≤ b ∧ b < 2147483648) (hr : gRm R cn sl (st.map fun v => v.category).sum = true) (kk : V cn sl ws (pc + 3) lv (gi (gmax a b) :: st)) : V cn sl ws pc lv (gi b :: gi a :: st) := by
  obtain ⟨p, e, s, m, args, below, meth, c, A, Q, hx, hb, hml, hown, hts, hE, hA, hnm, rfl⟩ := X
  obtain ⟨r1, r2, r3, r4⟩ := gRm_s hr
  exact fun H locs ls hl hP hD hS hro => va_mmax hx hb (hml.trans hl.1.symm) hown (hts _ L.1) (hts _ L.2.1) (hts _ L.2.2.1) (hts _ L.2.2.2) r1 r2 r3 r4 d (by rw [iI_max ha hb0]; exact kk H locs ls hl hP hD hS hro)
theorem g_min (X : GK l D cI cZ cc nL own nm R ro V) {idx : Nat} (L : gMa own idx Lib.Math.min.name Lib.Math.min.code 2) {a b : Int} (d : decode cc pc = .ok (.invokestatic idx, 3)) (ha : -2147483648 ≤ a ∧ a < 2147483648) (hb0 : -2147483648 ≤ b ∧ b < 2147483648) (hr : gRm R cn sl (st.map fun v => v.category).sum = true) (kk : V cn sl ws (pc + 3) lv (gi (gmin a b) :: st)) : V cn sl ws pc lv (gi b :: gi a :: st) := by
  obtain ⟨p, e, s, m, args, below, meth, c, A, Q, hx, hb, hml, hown, hts, hE, hA, hnm, rfl⟩ := X
  obtain ⟨r1, r2, r3, r4⟩ := gRm_s hr
  exact fun H locs ls hl hP hD hS hro => va_mmin hx hb (hml.trans hl.1.symm) hown (hts _ L.1) (hts _ L.2.1) (hts _ L.2.2.1) (hts _ L.2.2.2) r1 r2 r3 r4 d (by rw [iI_min ha hb0]; exact kk H locs ls hl hP hD hS hro)
theorem g_abs (X : GK l D cI cZ cc nL own nm R ro V) {idx : Nat} (L : gMa own idx Lib.Math.abs.name Lib.Math.abs.code 1) {a : Int} (d : decode cc pc = .ok (.invokestatic idx, 3)) (ha : -2147483648 < a ∧ a < 2147483648) (hr : gRm R cn sl (st.map fun v => v.category).sum = true) (kk : V cn sl ws (pc + 3) lv (gi (gabs a) :: st)) : V cn sl ws pc lv (gi a :: st) := by
  obtain ⟨p, e, s, m, args, below, meth, c, A, Q, hx, hb, hml, hown, hts, hE, hA, hnm, rfl⟩ := X
  obtain ⟨r1, r2, r3, r4⟩ := gRm_s hr
  exact fun H locs ls hl hP hD hS hro => va_mabs hx hb (hml.trans hl.1.symm) hown (hts _ L.1) (hts _ L.2.1) (hts _ L.2.2.1) (hts _ L.2.2.2) r1 r2 r3 r4 d (by rw [iI_abs2 ha]; exact kk H locs ls hl hP hD hS hro)
end GK2
