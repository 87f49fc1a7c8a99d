/-! own kit, 2: a method's walk over its picture (the cells, the place, the locals, the stack) -/
/-- private members of a nest mate: caller, entry, method; the host is RX8 -/
def gNl : List (String × Nat × MethodName) := [(RX8, 31, yX0_init), (RX8, 38, yX5_init), (RX8, 45, yX3_init), (RX8, 52, yX7_init), (RX8, 9, yX1_init), (RX0, 37, yX8_lay), (RX0, 55, yX8_look), (RX1, 43, yX8_lay), (RX1, 59, yX8_look), (RX1, 71, yX8_copyRow), (RX1, 77, yX8_digestRow), (RX2, 11, yX4_init), (RX2, 80, yX8_look), (RX3, 30, yX8_look), (RX3, 38, yX8_copyRow), (RX3, 58, yX8_lay), (RX4, 21, yX8_copyRow), (RX4, 27, yX8_lay), (RX4, 31, yX8_look), (RX4, 50, yX8_digestRow), (RX5, 101, yX8_lay), (RX5, 58, yX8_look), (RX5, 73, yX8_fits), (RX6, 15, yX8_look), (RX7, 29, yX8_lay), (RX7, 44, yX8_look)]
def gNw (U : State) : Prop := ∀ q ∈ gNl, va_Nw (.methodLinkNest q.1 q.2.1 q.2.2 RX8) U
theorem gNw.warm {s U : State} (hW : s.WarmedH U.vm) (h : gNw s) : gNw U := fun q hq => va_Nw.warmM hW (h q hq)
/-- what a method takes of the tables: the classes, the arrays of ints and of booleans, the private members of nest mates -/
def gE (D : va_G) (cI cZ : ClassId) (U : State) : Prop := va_K D vwCl [(cI, .int), (cZ, .boolean)] U ∧ gNw U
theorem gE.warm {D : va_G} {cI cZ : ClassId} {s U : State} (hW : s.WarmedH U.vm) (h : gE D cI cZ s) : gE D cI cZ U := ⟨va_K.moved hW.alike h.1, h.2.warm hW⟩
/-- cells -/
def gclip (n : Nat) (f : Int → Int) (i : Nat) : Int := if i < n then f (i : Int) else 0
abbrev gA (cI : ClassId) (q n : Nat) (f : Int → Int) : Nat × va_E := (q, .inl (cI, (n, .inl (fun i : Nat => iI (gclip n f i)))))
theorem gclip_ext {n : Nat} {f g : Int → Int} (h : ∀ j : Int, 0 ≤ j → j < (n : Int) → f j = g j) : gclip n f = gclip n g := by
  funext i
  unfold gclip
  by_cases q : i < n
  · rw [if_pos q, if_pos q, h i (by omega) (by omega)]
  · rw [if_neg q, if_neg q]
theorem gA_ext {cI : ClassId} {q n : Nat} {f g : Int → Int} (h : ∀ j : Int, 0 ≤ j → j < (n : Int) → f j = g j) : gA cI q n f = gA cI q n g := by
  show (q, _) = (q, _)
  rw [gclip_ext h]
abbrev gO (q ci : Nat) (fs : List Value) : Nat × va_E := (q, .inr (ci, fs))
def gPc (D : va_G) (cI cZ : ClassId) (As : List Value) (sz : Nat) (w : va_W) : Array Value → State → Prop := va_Pc As (fun U => U.heap.size = sz ∧ va_P D vwCl w U.heap ∧ gE D cI cZ U ∧ va_D (fun _ => True) w)
def gQ (A : Nat → Prop) (ro : Bool) (D : va_G) (Post : Option Value → va_W → Prop) : Array Value → State → Outcome → State → Prop := fun _ st o t => (∃ (v : Option Value) (w' : va_W), o = .returned v ∧ Post v w' ∧ va_P D vwCl w' t.heap ∧ va_D A w') ∧ va_F A st t ∧ (ro = true → t.heap = st.heap)
def gFr (ro : Bool) (A : Nat → Prop) : Addr → Prop := fun q => ro = false ∧ A q
/-- a method's contract: from the cells w it comes to an answer and cells of which Post holds; 'ro': the heap stays as it is -/
def GM (l : Launch) (D : va_G) (cI cZ : ClassId) (y : MethodName) (cc : ByteArray) (maxL : Nat) (ret : Option FieldType) (rm : Room) (mc ms : Nat) (ro : Bool) (As : List Value) (w : va_W) (Post : Option Value → va_W → Prop) : Prop :=
  ∀ sz : Nat, Met l y (.code y cc maxL ret :: gAL) rm (gPc D cI cZ As sz w) (gQ (va_A w sz) ro D Post) mc ms (gFr ro (va_A w sz))
theorem gPc_blind {D : va_G} {cI cZ : ClassId} {As : List Value} {sz : Nat} {w : va_W} : FrameBlind (gPc D cI cZ As sz w) := fun a U g mk q => by
  obtain ⟨q0, q1, qP, qK, qD⟩ := q
  exact ⟨q0, q1, qP, ⟨va_K.moved (u := U) (U := U.calling g mk a) (Vm.Alike.refl U.vm) qK.1, fun z hz => va_Nw.same rfl (u := U) (U := U.calling g mk a) rfl (qK.2 z hz)⟩, qD⟩
/-- the judgement: from the place pc with the cells ws, the locals lv, the stack st, the machine comes to the end that is meant -/
def GK (l : Launch) (D : va_G) (cI cZ : ClassId) (cc : ByteArray) (nL : Nat) (own nm : String) (R : Room) (ro : Bool) (V : Nat → Nat → va_W → Nat → List (Nat × Value) → List Value → Prop) : Prop :=
  ∃ (p : Program) (e : Env) (s : State) (m : MethodId) (args : Array Value) (below : List Frame) (meth : Method) (c : Code) (A : Nat → Prop) (Q : State → Prop),
    p.tables.exec = Jvm.exec ∧ c.code = cc ∧ c.maxLocals = nL ∧ s.vm.findClass own = some m.cls ∧ (∀ w ∈ gAL, w.before args s = true) ∧ gE D cI cZ s ∧ (∀ q : Nat, s.heap.size ≤ q → A q) ∧ (nm = "" ∨ meth.name = nm) ∧
    V = fun cn sl ws pc lv st => ∀ (H : Heap) (locs : List Loc) (ls : Array Slot), lv_has ls nL lv → va_P D vwCl ws H → va_D A ws → va_S A s.heap H locs → (ro = true → H = s.heap ∧ locs = []) → W p l e R s m args below meth c H locs cn sl Q (F0 m pc ls st)
/-- locals by their places: a value is put -/
def gkeep (i w : Nat) (q : Nat × Value) : Bool := !(q.1 == i) && (!(w == 2 && q.1 == i + 1) && !(q.1 + 1 == i && q.2.category == 2))
def gset : List (Nat × Value) → Nat → Nat → Value → List (Nat × Value)
  | [], i, _, v => [(i, v)]
  | q :: l, i, w, v => match Nat.blt q.1 i with
    | true => (match gkeep i w q with
      | true => q :: gset l i w v
      | false => gset l i w v)
    | false => (i, v) :: (q :: l).filter (gkeep i w)
theorem gset_mem {i w : Nat} {v : Value} {x : Nat × Value} : ∀ {lv : List (Nat × Value)}, x ∈ gset lv i w v → x = (i, v) ∨ (x ∈ lv ∧ gkeep i w x = true)
  | [], h => by
    unfold gset at h
    exact Or.inl (List.mem_singleton.mp h)
  | q :: l, h => by
    unfold gset at h
    split at h
    · split at h
      · rename_i hk
        rcases List.mem_cons.mp h with h | h
        · exact Or.inr ⟨by rw [h]; exact List.mem_cons_self, by rw [h]; exact hk⟩
        · rcases gset_mem h with h | h
          · exact Or.inl h
          · exact Or.inr ⟨List.mem_cons_of_mem _ h.1, h.2⟩
      · rcases gset_mem h with h | h
        · exact Or.inl h
        · exact Or.inr ⟨List.mem_cons_of_mem _ h.1, h.2⟩
    · rcases List.mem_cons.mp h with h | h
      · exact Or.inl h
      · exact Or.inr (List.mem_filter.mp h)
theorem gset_1 {ls : Array Slot} {nL i : Nat} {v : Value} {lv : List (Nat × Value)} (h : lv_has ls nL ((i, v) :: lv.filter (fun q => !(q.1 == i) && !(q.1 + 1 == i && q.2.category == 2)))) : lv_has ls nL (gset lv i 1 v) := by
  refine ⟨h.1, h.2.1, fun q hq => h.2.2 q ?_⟩
  rcases gset_mem hq with e | ⟨e1, e2⟩
  · rw [e]; exact List.mem_cons_self
  · refine List.mem_cons_of_mem _ (List.mem_filter.mpr ⟨e1, ?_⟩)
    unfold gkeep at e2
    simpa using e2
theorem gset_2 {ls : Array Slot} {nL i : Nat} {v : Value} {lv : List (Nat × Value)} (h : lv_has ls nL ((i, v) :: lv.filter (fun q => !(q.1 == i) && (!(q.1 == i + 1) && !(q.1 + 1 == i && q.2.category == 2))))) : lv_has ls nL (gset lv i 2 v) := by
  refine ⟨h.1, h.2.1, fun q hq => h.2.2 q ?_⟩
  rcases gset_mem hq with e | ⟨e1, e2⟩
  · rw [e]; exact List.mem_cons_self
  · refine List.mem_cons_of_mem _ (List.mem_filter.mpr ⟨e1, ?_⟩)
    unfold gkeep at e2
    simpa using e2
theorem g_fm {α : Type} {is : List Nat} {ws ws' : List α} (h : is.map (fun i => ws[i]?) = ws'.map some) : is.filterMap (fun i => ws[i]?) = ws' := by
  have : is.filterMap (fun i => ws[i]?) = (is.map (fun i => ws[i]?)).filterMap id := by rw [List.filterMap_map]; rfl
  rw [this, h, List.filterMap_map]
  simp
section GK1
variable {l : Launch} {D : va_G} {cI cZ : ClassId} {cc : ByteArray} {nL : Nat} {own nm : String} {R : Room} {ro : Bool} {V : Nat → Nat → va_W → Nat → List (Nat × Value) → List Value → Prop}
variable {cn sl pc : Nat} {ws : va_W} {lv lv' : List (Nat × Value)} {st : List Value}
theorem g_iconst (X : GK l D cI cZ cc nL own nm R ro V) {n : Int} (d : decode cc pc = .ok (.iconst n, 1)) (k : V cn sl ws (pc + 1) lv (gi n :: st)) : V cn sl ws pc lv st := by
  obtain ⟨p, e, s, m, args, below, meth, c, A, Q, hx, hb, hml, hown, hts, hE, hA, hn, rfl⟩ := X
  exact fun H locs ls hl hP hD hS hro => lv_iconst hx hb d rfl (k H locs ls hl hP hD hS hro)
theorem g_bipush (X : GK l D cI cZ cc nL own nm R ro V) {n : Int} (d : decode cc pc = .ok (.bipush n, 2)) (hn : (Int8.ofInt n).toInt32 = iI n) (k : V cn sl ws (pc + 2) lv (gi n :: st)) : V cn sl ws pc lv st := by
  obtain ⟨p, e, s, m, args, below, meth, c, A, Q, hx, hb, hml, hown, hts, hE, hA, hnm, rfl⟩ := X
  exact fun H locs ls hl hP hD hS hro => lv_bipush hx hb d hn (k H locs ls hl hP hD hS hro)
theorem g_sipush (X : GK l D cI cZ cc nL own nm R ro V) {n : Int} (d : decode cc pc = .ok (.sipush n, 3)) (hn : (Int16.ofInt n).toInt32 = iI n) (k : V cn sl ws (pc + 3) lv (gi n :: st)) : V cn sl ws pc lv st := by
  obtain ⟨p, e, s, m, args, below, meth, c, A, Q, hx, hb, hml, hown, hts, hE, hA, hnm, rfl⟩ := X
  exact fun H locs ls hl hP hD hS hro => lv_sipush hx hb d hn (k H locs ls hl hP hD hS hro)
theorem g_ldc (X : GK l D cI cZ cc nL own nm R ro V) {index : Nat} {n : Int} (d : decode cc pc = .ok (.ldc index, 2)) (hw : Cond.constant own index (iI n) ∈ gAL) (k : V cn sl ws (pc + 2) lv (gi n :: st)) : V cn sl ws pc lv st := by
  obtain ⟨p, e, s, m, args, below, meth, c, A, Q, hx, hb, hml, hown, hts, hE, hA, hnm, rfl⟩ := X
  exact fun H locs ls hl hP hD hS hro => lv_ldc hx hb hown (hts _ hw) d (k H locs ls hl hP hD hS hro)
theorem g_ldcw (X : GK l D cI cZ cc nL own nm R ro V) {index : Nat} {n : Int} (d : decode cc pc = .ok (.ldc_w index, 3)) (hw : Cond.constant own index (iI n) ∈ gAL) (k : V cn sl ws (pc + 3) lv (gi n :: st)) : V cn sl ws pc lv st := by
  obtain ⟨p, e, s, m, args, below, meth, c, A, Q, hx, hb, hml, hown, hts, hE, hA, hnm, rfl⟩ := X
  exact fun H locs ls hl hP hD hS hro => lv_ldcw hx hb hown (hts _ hw) d (k H locs ls hl hP hD hS hro)
theorem g_ldc2 (X : GK l D cI cZ cc nL own nm R ro V) {index : Nat} {n : Int} (d : decode cc pc = .ok (.ldc2_w index, 3)) (hw : Cond.constantLong own index (lL n) ∈ gAL) (k : V cn sl ws (pc + 3) lv (gl n :: st)) : V cn sl ws pc lv st := by
  obtain ⟨p, e, s, m, args, below, meth, c, A, Q, hx, hb, hml, hown, hts, hE, hA, hnm, rfl⟩ := X
  exact fun H locs ls hl hP hD hS hro => lv_ldc2 hx hb hown (hts _ hw) d (k H locs ls hl hP hD hS hro)
theorem g_lconst (X : GK l D cI cZ cc nL own nm R ro V) {n : Fin 2} {z : Int} (d : decode cc pc = .ok (.lconst n, 1)) (hz : Int64.ofNat (n : Nat) = lL z) (k : V cn sl ws (pc + 1) lv (gl z :: st)) : V cn sl ws pc lv st := by
  obtain ⟨p, e, s, m, args, below, meth, c, A, Q, hx, hb, hml, hown, hts, hE, hA, hnm, rfl⟩ := X
  exact fun H locs ls hl hP hD hS hro => lv_lconst hx hb d hz (k H locs ls hl hP hD hS hro)
theorem g_iload_n (X : GK l D cI cZ cc nL own nm R ro V) {k : Fin 4} {x : Int32} (d : decode cc pc = .ok (.iload_n k, 1)) (j : Nat) (hj : lv[j]? = some ((k : Nat), .int x)) (kk : V cn sl ws (pc + 1) lv (.int x :: st)) : V cn sl ws pc lv st := by
  obtain ⟨p, e, s, m, args, below, meth, c, A, Q, hx, hb, hml, hown, hts, hE, hA, hnm, rfl⟩ := X
  exact fun H locs ls hl hP hD hS hro => lv_iload_n hx hb d rfl (lv_at hl j hj) (kk H locs ls hl hP hD hS hro)
theorem g_iload (X : GK l D cI cZ cc nL own nm R ro V) {i : Nat} {x : Int32} (d : decode cc pc = .ok (.iload i, 2)) (j : Nat) (hj : lv[j]? = some (i, .int x)) (kk : V cn sl ws (pc + 2) lv (.int x :: st)) : V cn sl ws pc lv st := by
  obtain ⟨p, e, s, m, args, below, meth, c, A, Q, hx, hb, hml, hown, hts, hE, hA, hnm, rfl⟩ := X
  exact fun H locs ls hl hP hD hS hro => lv_iload hx hb d (lv_at hl j hj) (kk H locs ls hl hP hD hS hro)
theorem g_aload_n (X : GK l D cI cZ cc nL own nm R ro V) {k : Fin 4} {x : Nat} (d : decode cc pc = .ok (.aload_n k, 1)) (j : Nat) (hj : lv[j]? = some ((k : Nat), .ref x)) (kk : V cn sl ws (pc + 1) lv (.ref x :: st)) : V cn sl ws pc lv st := by
  obtain ⟨p, e, s, m, args, below, meth, c, A, Q, hx, hb, hml, hown, hts, hE, hA, hnm, rfl⟩ := X
  exact fun H locs ls hl hP hD hS hro => lv_aload_n hx hb d rfl (lv_at hl j hj) (kk H locs ls hl hP hD hS hro)
theorem g_aload (X : GK l D cI cZ cc nL own nm R ro V) {i : Nat} {x : Nat} (d : decode cc pc = .ok (.aload i, 2)) (j : Nat) (hj : lv[j]? = some (i, .ref x)) (kk : V cn sl ws (pc + 2) lv (.ref x :: st)) : V cn sl ws pc lv st := by
  obtain ⟨p, e, s, m, args, below, meth, c, A, Q, hx, hb, hml, hown, hts, hE, hA, hnm, rfl⟩ := X
  exact fun H locs ls hl hP hD hS hro => lv_aload hx hb d (lv_at hl j hj) (kk H locs ls hl hP hD hS hro)
theorem g_lload_n (X : GK l D cI cZ cc nL own nm R ro V) {k : Fin 4} {x : Int64} (d : decode cc pc = .ok (.lload_n k, 1)) (j : Nat) (hj : lv[j]? = some ((k : Nat), .long x)) (kk : V cn sl ws (pc + 1) lv (.long x :: st)) : V cn sl ws pc lv st := by
  obtain ⟨p, e, s, m, args, below, meth, c, A, Q, hx, hb, hml, hown, hts, hE, hA, hnm, rfl⟩ := X
  exact fun H locs ls hl hP hD hS hro => lv_lload_n hx hb d rfl (lv_at hl j hj) (kk H locs ls hl hP hD hS hro)
theorem g_lload (X : GK l D cI cZ cc nL own nm R ro V) {i : Nat} {x : Int64} (d : decode cc pc = .ok (.lload i, 2)) (j : Nat) (hj : lv[j]? = some (i, .long x)) (kk : V cn sl ws (pc + 2) lv (.long x :: st)) : V cn sl ws pc lv st := by
  obtain ⟨p, e, s, m, args, below, meth, c, A, Q, hx, hb, hml, hown, hts, hE, hA, hnm, rfl⟩ := X
  exact fun H locs ls hl hP hD hS hro => lv_lload hx hb d (lv_at hl j hj) (kk H locs ls hl hP hD hS hro)
theorem g_istore_n (X : GK l D cI cZ cc nL own nm R ro V) {k : Fin 4} {x : Int32} (d : decode cc pc = .ok (.istore_n k, 1)) (hi : Nat.blt (k : Nat) nL = true) (hl' : gset lv (k : Nat) 1 (.int x) = lv') (kk : V cn sl ws (pc + 1) lv' st) : V cn sl ws pc lv (.int x :: st) := by
  obtain ⟨p, e, s, m, args, below, meth, c, A, Q, hx, hb, hml, hown, hts, hE, hA, hnm, rfl⟩ := X
  subst hl'
  exact fun H locs ls hl hP hD hS hro => lv_istore_n hx hb d rfl hl (Nat.le_of_ble_eq_true hi) rfl (fun ls' h' => kk H locs ls' (gset_1 h') hP hD hS hro)
theorem g_istore (X : GK l D cI cZ cc nL own nm R ro V) {i : Nat} {x : Int32} (d : decode cc pc = .ok (.istore i, 2)) (hi : Nat.blt i nL = true) (hl' : gset lv i 1 (.int x) = lv') (kk : V cn sl ws (pc + 2) lv' st) : V cn sl ws pc lv (.int x :: st) := by
  obtain ⟨p, e, s, m, args, below, meth, c, A, Q, hx, hb, hml, hown, hts, hE, hA, hnm, rfl⟩ := X
  subst hl'
  exact fun H locs ls hl hP hD hS hro => lv_istore hx hb d hl (Nat.le_of_ble_eq_true hi) rfl (fun ls' h' => kk H locs ls' (gset_1 h') hP hD hS hro)
theorem g_astore_n (X : GK l D cI cZ cc nL own nm R ro V) {k : Fin 4} {x : Nat} (d : decode cc pc = .ok (.astore_n k, 1)) (hi : Nat.blt (k : Nat) nL = true) (hl' : gset lv (k : Nat) 1 (.ref x) = lv') (kk : V cn sl ws (pc + 1) lv' st) : V cn sl ws pc lv (.ref x :: st) := by
  obtain ⟨p, e, s, m, args, below, meth, c, A, Q, hx, hb, hml, hown, hts, hE, hA, hnm, rfl⟩ := X
  subst hl'
  exact fun H locs ls hl hP hD hS hro => lv_astore_n hx hb d rfl hl (Nat.le_of_ble_eq_true hi) rfl (fun ls' h' => kk H locs ls' (gset_1 h') hP hD hS hro)
theorem g_lstore_n (X : GK l D cI cZ cc nL own nm R ro V) {k : Fin 4} {x : Int64} (d : decode cc pc = .ok (.lstore_n k, 1)) (hi : Nat.blt ((k : Nat) + 1) nL = true) (hl' : gset lv (k : Nat) 2 (.long x) = lv') (kk : V cn sl ws (pc + 1) lv' st) : V cn sl ws pc lv (.long x :: st) := by
  obtain ⟨p, e, s, m, args, below, meth, c, A, Q, hx, hb, hml, hown, hts, hE, hA, hnm, rfl⟩ := X
  subst hl'
  exact fun H locs ls hl hP hD hS hro => lv_lstore_n hx hb d rfl hl (Nat.le_of_ble_eq_true hi) rfl (fun ls' h' => kk H locs ls' (gset_2 h') hP hD hS hro)
theorem g_lstore (X : GK l D cI cZ cc nL own nm R ro V) {i : Nat} {x : Int64} (d : decode cc pc = .ok (.lstore i, 2)) (hi : Nat.blt (i + 1) nL = true) (hl' : gset lv i 2 (.long x) = lv') (kk : V cn sl ws (pc + 2) lv' st) : V cn sl ws pc lv (.long x :: st) := by
  obtain ⟨p, e, s, m, args, below, meth, c, A, Q, hx, hb, hml, hown, hts, hE, hA, hnm, rfl⟩ := X
  subst hl'
  exact fun H locs ls hl hP hD hS hro => lv_lstore hx hb d hl (Nat.le_of_ble_eq_true hi) rfl (fun ls' h' => kk H locs ls' (gset_2 h') hP hD hS hro)
theorem g_iinc (X : GK l D cI cZ cc nL own nm R ro V) {i : Nat} {n x : Int} (d : decode cc pc = .ok (.iinc i n, 3)) (j : Nat) (hj : lv[j]? = some (i, gi x)) (hi : Nat.blt i nL = true) (hl' : gset lv i 1 (gi (x + n)) = lv') (kk : V cn sl ws (pc + 3) lv' st) : V cn sl ws pc lv st := by
  obtain ⟨p, e, s, m, args, below, meth, c, A, Q, hx, hb, hml, hown, hts, hE, hA, hnm, rfl⟩ := X
  subst hl'
  exact fun H locs ls hl hP hD hS hro => lv_iinc hx hb d hl hj (iI_add x n) (Nat.le_of_ble_eq_true hi) rfl (fun ls' h' => kk H locs ls' (gset_1 h') hP hD hS hro)
theorem g_lsub (X : GK l D cI cZ cc nL own nm R ro V) (is : List Nat) (h : lv_pick lv is = lv') (kk : V cn sl ws pc lv' st) : V cn sl ws pc lv st := by
  obtain ⟨p, e, s, m, args, below, meth, c, A, Q, hx, hb, hml, hown, hts, hE, hA, hnm, rfl⟩ := X
  exact fun H locs ls hl hP hD hS hro => kk H locs ls (lv_sub hl is h) hP hD hS hro
theorem g_pick (X : GK l D cI cZ cc nL own nm R ro V) {ws' : va_W} (is : List Nat) (h : is.map (fun i => ws[i]?) = ws'.map some) (hn : va_nd is = true) (kk : V cn sl ws' pc lv st) : V cn sl ws pc lv st := by
  obtain ⟨p, e, s, m, args, below, meth, c, A, Q, hx, hb, hml, hown, hts, hE, hA, hnm, rfl⟩ := X
  exact fun H locs ls hl hP hD hS hro => kk H locs ls hl (hP.sub is (g_fm h)) (hD.sub is hn h) hS hro
theorem g_top {a b : Int} (h : a = b) (kk : V cn sl ws pc lv (gi b :: st)) : V cn sl ws pc lv (gi a :: st) := by rw [h]; exact kk
theorem g_top2 {a b c d : Int} (h : a = b) (h2 : c = d) (kk : V cn sl ws pc lv (gi b :: gi d :: st)) : V cn sl ws pc lv (gi a :: gi c :: st) := by rw [h, h2]; exact kk
theorem g_topl {a b : Int} (h : a = b) (kk : V cn sl ws pc lv (gl b :: st)) : V cn sl ws pc lv (gl a :: st) := by rw [h]; exact kk
theorem g_dup (X : GK l D cI cZ cc nL own nm R ro V) {x : Value} (d : decode cc pc = .ok (.dup, 1)) (h : x.category = 1) (kk : V cn sl ws (pc + 1) lv (x :: x :: st)) : V cn sl ws pc lv (x :: st) := by
  obtain ⟨p, e, s, m, args, below, meth, c, A, Q, hx, hb, hml, hown, hts, hE, hA, hnm, rfl⟩ := X
  exact fun H locs ls hl hP hD hS hro => lv_dup hx hb d h (kk H locs ls hl hP hD hS hro)
theorem g_dup2 (X : GK l D cI cZ cc nL own nm R ro V) {x y : Value} (d : decode cc pc = .ok (.dup2, 1)) (h : x.category = 1) (h2 : y.category = 1) (kk : V cn sl ws (pc + 1) lv (x :: y :: x :: y :: st)) : V cn sl ws pc lv (x :: y :: st) := by
  obtain ⟨p, e, s, m, args, below, meth, c, A, Q, hx, hb, hml, hown, hts, hE, hA, hnm, rfl⟩ := X
  exact fun H locs ls hl hP hD hS hro => lv_dup2_11 hx hb d h h2 (kk H locs ls hl hP hD hS hro)
theorem g_dup_x1 (X : GK l D cI cZ cc nL own nm R ro V) {x y : Value} (d : decode cc pc = .ok (.dup_x1, 1)) (h : x.category = 1) (h2 : y.category = 1) (kk : V cn sl ws (pc + 1) lv (x :: y :: x :: st)) : V cn sl ws pc lv (x :: y :: st) := by
  obtain ⟨p, e, s, m, args, below, meth, c, A, Q, hx, hb, hml, hown, hts, hE, hA, hnm, rfl⟩ := X
  exact fun H locs ls hl hP hD hS hro => lv_dup_x1 hx hb d h h2 (kk H locs ls hl hP hD hS hro)
theorem g_pop (X : GK l D cI cZ cc nL own nm R ro V) {x : Value} (d : decode cc pc = .ok (.pop, 1)) (h : x.category = 1) (kk : V cn sl ws (pc + 1) lv st) : V cn sl ws pc lv (x :: st) := by
  obtain ⟨p, e, s, m, args, below, meth, c, A, Q, hx, hb, hml, hown, hts, hE, hA, hnm, rfl⟩ := X
  exact fun H locs ls hl hP hD hS hro => lv_pop hx hb d h (kk H locs ls hl hP hD hS hro)
theorem g_iadd (X : GK l D cI cZ cc nL own nm R ro V) {a b : Int} (d : decode cc pc = .ok (.iadd, 1)) (kk : V cn sl ws (pc + 1) lv (gi (a + b) :: st)) : V cn sl ws pc lv (gi b :: gi a :: st) := by
  obtain ⟨p, e, s, m, args, below, meth, c, A, Q, hx, hb, hml, hown, hts, hE, hA, hnm, rfl⟩ := X
  exact fun H locs ls hl hP hD hS hro => lv_iadd hx hb d (by rw [iI_add]; exact kk H locs ls hl hP hD hS hro)
theorem g_isub (X : GK l D cI cZ cc nL own nm R ro V) {a b : Int} (d : decode cc pc = .ok (.isub, 1)) (kk : V cn sl ws (pc + 1) lv (gi (a - b) :: st)) : V cn sl ws pc lv (gi b :: gi a :: st) := by
  obtain ⟨p, e, s, m, args, below, meth, c, A, Q, hx, hb, hml, hown, hts, hE, hA, hnm, rfl⟩ := X
  exact fun H locs ls hl hP hD hS hro => lv_isub hx hb d (by rw [iI_sub]; exact kk H locs ls hl hP hD hS hro)
theorem g_imul (X : GK l D cI cZ cc nL own nm R ro V) {a b : Int} (d : decode cc pc = .ok (.imul, 1)) (kk : V cn sl ws (pc + 1) lv (gi (a * b) :: st)) : V cn sl ws pc lv (gi b :: gi a :: st) := by
  obtain ⟨p, e, s, m, args, below, meth, c, A, Q, hx, hb, hml, hown, hts, hE, hA, hnm, rfl⟩ := X
  exact fun H locs ls hl hP hD hS hro => lv_imul hx hb d (by rw [iI_mul]; exact kk H locs ls hl hP hD hS hro)
theorem g_ineg (X : GK l D cI cZ cc nL own nm R ro V) {a : Int} (d : decode cc pc = .ok (.ineg, 1)) (kk : V cn sl ws (pc + 1) lv (gi (-a) :: st)) : V cn sl ws pc lv (gi a :: st) := by
  obtain ⟨p, e, s, m, args, below, meth, c, A, Q, hx, hb, hml, hown, hts, hE, hA, hnm, rfl⟩ := X
  exact fun H locs ls hl hP hD hS hro => lv_ineg hx hb d (by rw [iI_neg]; exact kk H locs ls hl hP hD hS hro)
theorem g_idiv (X : GK l D cI cZ cc nL own nm R ro V) {a b : Int} (d : decode cc pc = .ok (.idiv, 1)) (ha : 0 ≤ a ∧ a < 2147483648) (hb0 : 0 < b ∧ b < 2147483648) (kk : V cn sl ws (pc + 1) lv (gi (a / b) :: st)) : V cn sl ws pc lv (gi b :: gi a :: st) := by
  obtain ⟨p, e, s, m, args, below, meth, c, A, Q, hx, hb, hml, hown, hts, hE, hA, hnm, rfl⟩ := X
  exact fun H locs ls hl hP hD hS hro => lv_idiv hx hb d (iI_ne (by omega) (by omega)) (by rw [iI_div ha hb0]; exact kk H locs ls hl hP hD hS hro)
theorem g_irem (X : GK l D cI cZ cc nL own nm R ro V) {a b : Int} (d : decode cc pc = .ok (.irem, 1)) (ha : 0 ≤ a ∧ a < 2147483648) (hb0 : 0 < b ∧ b < 2147483648) (kk : V cn sl ws (pc + 1) lv (gi (a % b) :: st)) : V cn sl ws pc lv (gi b :: gi a :: st) := by
  obtain ⟨p, e, s, m, args, below, meth, c, A, Q, hx, hb, hml, hown, hts, hE, hA, hnm, rfl⟩ := X
  exact fun H locs ls hl hP hD hS hro => lv_irem hx hb d (iI_ne (by omega) (by omega)) (by rw [iI_rem ha hb0]; exact kk H locs ls hl hP hD hS hro)
theorem g_ishl (X : GK l D cI cZ cc nL own nm R ro V) {a b : Int} (d : decode cc pc = .ok (.ishl, 1)) (ha : 0 ≤ a) (hb0 : 0 ≤ b ∧ b < 32) (h : a * 2 ^ b.toNat < 4294967296) (kk : V cn sl ws (pc + 1) lv (gi (a * 2 ^ b.toNat) :: st)) : V cn sl ws pc lv (gi b :: gi a :: st) := by
  obtain ⟨p, e, s, m, args, below, meth, c, A, Q, hx, hb, hml, hown, hts, hE, hA, hnm, rfl⟩ := X
  exact fun H locs ls hl hP hD hS hro => lv_ishl hx hb d (by rw [iI_shl ha hb0 h]; exact kk H locs ls hl hP hD hS hro)
theorem g_ishr (X : GK l D cI cZ cc nL own nm R ro V) {a b : Int} (d : decode cc pc = .ok (.ishr, 1)) (ha : 0 ≤ a ∧ a < 2147483648) (hb0 : 0 ≤ b ∧ b < 32) (kk : V cn sl ws (pc + 1) lv (gi (a / 2 ^ b.toNat) :: st)) : V cn sl ws pc lv (gi b :: gi a :: st) := by
  obtain ⟨p, e, s, m, args, below, meth, c, A, Q, hx, hb, hml, hown, hts, hE, hA, hnm, rfl⟩ := X
  exact fun H locs ls hl hP hD hS hro => lv_ishr hx hb d (by rw [iI_shr ha hb0]; exact kk H locs ls hl hP hD hS hro)
theorem g_iand (X : GK l D cI cZ cc nL own nm R ro V) {a b r : Int} (d : decode cc pc = .ok (.iand, 1)) (h : iI a &&& iI b = iI r) (kk : V cn sl ws (pc + 1) lv (gi r :: st)) : V cn sl ws pc lv (gi b :: gi a :: st) := by
  obtain ⟨p, e, s, m, args, below, meth, c, A, Q, hx, hb, hml, hown, hts, hE, hA, hnm, rfl⟩ := X
  exact fun H locs ls hl hP hD hS hro => lv_iand hx hb d (by rw [h]; exact kk H locs ls hl hP hD hS hro)
theorem g_ior (X : GK l D cI cZ cc nL own nm R ro V) {a b r : Int} (d : decode cc pc = .ok (.ior, 1)) (h : iI a ||| iI b = iI r) (kk : V cn sl ws (pc + 1) lv (gi r :: st)) : V cn sl ws pc lv (gi b :: gi a :: st) := by
  obtain ⟨p, e, s, m, args, below, meth, c, A, Q, hx, hb, hml, hown, hts, hE, hA, hnm, rfl⟩ := X
  exact fun H locs ls hl hP hD hS hro => lv_ior hx hb d (by rw [h]; exact kk H locs ls hl hP hD hS hro)
theorem g_ixor (X : GK l D cI cZ cc nL own nm R ro V) {a b r : Int} (d : decode cc pc = .ok (.ixor, 1)) (h : iI a ^^^ iI b = iI r) (kk : V cn sl ws (pc + 1) lv (gi r :: st)) : V cn sl ws pc lv (gi b :: gi a :: st) := by
  obtain ⟨p, e, s, m, args, below, meth, c, A, Q, hx, hb, hml, hown, hts, hE, hA, hnm, rfl⟩ := X
  exact fun H locs ls hl hP hD hS hro => lv_ixor hx hb d (by rw [h]; exact kk H locs ls hl hP hD hS hro)
theorem g_goto (X : GK l D cI cZ cc nL own nm R ro V) {off : Int} (tgt : Nat) (d : decode cc pc = .ok (.goto off, 3)) (ht : (pc : Int) + off = (tgt : Int)) (kk : V cn sl ws tgt lv st) : V cn sl ws pc lv st := by
  obtain ⟨p, e, s, m, args, below, meth, c, A, Q, hx, hb, hml, hown, hts, hE, hA, hnm, rfl⟩ := X
  exact fun H locs ls hl hP hD hS hro => lv_goto hx hb d ht (kk H locs ls hl hP hD hS hro)
theorem g_iflt (X : GK l D cI cZ cc nL own nm R ro V) {a : Int} {off : Int} (tgt : Nat) (d : decode cc pc = .ok (.ifCond .lt off, 3)) (ht : (pc : Int) + off = (tgt : Int)) (ha : -2147483648 ≤ a ∧ a < 2147483648) (kt : a < 0 → V cn sl ws tgt lv st) (kf : 0 ≤ a → V cn sl ws (pc + 3) lv st) : V cn sl ws pc lv (gi a :: st) := by
  obtain ⟨p, e, s, m, args, below, meth, c, A, Q, hx, hb, hml, hown, hts, hE, hA, hnm, rfl⟩ := X
  exact fun H locs ls hl hP hD hS hro => lv_if_lt hx hb d ht (fun h => kt ((iI_lt ha (by omega)).mp h) H locs ls hl hP hD hS hro) (fun h => kf (Int.not_lt.mp fun q => h ((iI_lt (b := 0) ha (by omega)).mpr q)) H locs ls hl hP hD hS hro)
theorem g_ifge (X : GK l D cI cZ cc nL own nm R ro V) {a : Int} {off : Int} (tgt : Nat) (d : decode cc pc = .ok (.ifCond .ge off, 3)) (ht : (pc : Int) + off = (tgt : Int)) (ha : -2147483648 ≤ a ∧ a < 2147483648) (kt : 0 ≤ a → V cn sl ws tgt lv st) (kf : a < 0 → V cn sl ws (pc + 3) lv st) : V cn sl ws pc lv (gi a :: st) := by
  obtain ⟨p, e, s, m, args, below, meth, c, A, Q, hx, hb, hml, hown, hts, hE, hA, hnm, rfl⟩ := X
  exact fun H locs ls hl hP hD hS hro => lv_if_ge hx hb d ht (fun h => kt ((iI_le (a := 0) (by omega) ha).mp h) H locs ls hl hP hD hS hro) (fun h => kf (Int.not_le.mp fun q => h ((iI_le (a := 0) (by omega) ha).mpr q)) H locs ls hl hP hD hS hro)
theorem g_ifgt (X : GK l D cI cZ cc nL own nm R ro V) {a : Int} {off : Int} (tgt : Nat) (d : decode cc pc = .ok (.ifCond .gt off, 3)) (ht : (pc : Int) + off = (tgt : Int)) (ha : -2147483648 ≤ a ∧ a < 2147483648) (kt : 0 < a → V cn sl ws tgt lv st) (kf : a ≤ 0 → V cn sl ws (pc + 3) lv st) : V cn sl ws pc lv (gi a :: st) := by
  obtain ⟨p, e, s, m, args, below, meth, c, A, Q, hx, hb, hml, hown, hts, hE, hA, hnm, rfl⟩ := X
  exact fun H locs ls hl hP hD hS hro => lv_if_gt hx hb d ht (fun h => kt ((iI_lt (a := 0) (by omega) ha).mp h) H locs ls hl hP hD hS hro) (fun h => kf (Int.not_lt.mp fun q => h ((iI_lt (a := 0) (by omega) ha).mpr q)) H locs ls hl hP hD hS hro)
theorem g_ifle (X : GK l D cI cZ cc nL own nm R ro V) {a : Int} {off : Int} (tgt : Nat) (d : decode cc pc = .ok (.ifCond .le off, 3)) (ht : (pc : Int) + off = (tgt : Int)) (ha : -2147483648 ≤ a ∧ a < 2147483648) (kt : a ≤ 0 → V cn sl ws tgt lv st) (kf : 0 < a → V cn sl ws (pc + 3) lv st) : V cn sl ws pc lv (gi a :: st) := by
  obtain ⟨p, e, s, m, args, below, meth, c, A, Q, hx, hb, hml, hown, hts, hE, hA, hnm, rfl⟩ := X
  exact fun H locs ls hl hP hD hS hro => lv_if_le hx hb d ht (fun h => kt ((iI_le (b := 0) ha (by omega)).mp h) H locs ls hl hP hD hS hro) (fun h => kf (Int.not_le.mp fun q => h ((iI_le (b := 0) ha (by omega)).mpr q)) H locs ls hl hP hD hS hro)
theorem g_ifeq (X : GK l D cI cZ cc nL own nm R ro V) {a : Int} {off : Int} (tgt : Nat) (d : decode cc pc = .ok (.ifCond .eq off, 3)) (ht : (pc : Int) + off = (tgt : Int)) (ha : -2147483648 ≤ a ∧ a < 2147483648) (kt : a = 0 → V cn sl ws tgt lv st) (kf : a ≠ 0 → V cn sl ws (pc + 3) lv st) : V cn sl ws pc lv (gi a :: st) := by
  obtain ⟨p, e, s, m, args, below, meth, c, A, Q, hx, hb, hml, hown, hts, hE, hA, hnm, rfl⟩ := X
  exact fun H locs ls hl hP hD hS hro => lv_if_eq hx hb d ht (fun h => kt ((iI_eq (b := 0) ha (by omega)).mp h) H locs ls hl hP hD hS hro) (fun h => kf (fun q => h ((iI_eq (b := 0) ha (by omega)).mpr q)) H locs ls hl hP hD hS hro)
theorem g_ifne (X : GK l D cI cZ cc nL own nm R ro V) {a : Int} {off : Int} (tgt : Nat) (d : decode cc pc = .ok (.ifCond .ne off, 3)) (ht : (pc : Int) + off = (tgt : Int)) (ha : -2147483648 ≤ a ∧ a < 2147483648) (kt : a ≠ 0 → V cn sl ws tgt lv st) (kf : a = 0 → V cn sl ws (pc + 3) lv st) : V cn sl ws pc lv (gi a :: st) := by
  obtain ⟨p, e, s, m, args, below, meth, c, A, Q, hx, hb, hml, hown, hts, hE, hA, hnm, rfl⟩ := X
  exact fun H locs ls hl hP hD hS hro => lv_if_ne hx hb d ht (fun h => kt (fun q => h ((iI_eq (b := 0) ha (by omega)).mpr q)) H locs ls hl hP hD hS hro) (fun h => kf ((iI_eq (b := 0) ha (by omega)).mp h) H locs ls hl hP hD hS hro)
theorem g_ifeqB (X : GK l D cI cZ cc nL own nm R ro V) {P : Prop} [Decidable P] {off : Int} (tgt : Nat) (d : decode cc pc = .ok (.ifCond .eq off, 3)) (ht : (pc : Int) + off = (tgt : Int)) (kt : ¬ P → V cn sl ws tgt lv st) (kf : P → V cn sl ws (pc + 3) lv st) : V cn sl ws pc lv (gi (gB P) :: st) :=
  g_ifeq X tgt d ht (by rcases gB_n (P := P) with h | h <;> omega) (fun h => kt (fun p => by rw [gB_t p] at h; omega)) (fun h => kf (Classical.byContradiction fun p => h (gB_f p)))
theorem g_ifneB (X : GK l D cI cZ cc nL own nm R ro V) {P : Prop} [Decidable P] {off : Int} (tgt : Nat) (d : decode cc pc = .ok (.ifCond .ne off, 3)) (ht : (pc : Int) + off = (tgt : Int)) (kt : P → V cn sl ws tgt lv st) (kf : ¬ P → V cn sl ws (pc + 3) lv st) : V cn sl ws pc lv (gi (gB P) :: st) :=
  g_ifne X tgt d ht (by rcases gB_n (P := P) with h | h <;> omega) (fun h => kt (Classical.byContradiction fun p => h (gB_f p))) (fun h => kf (fun p => by rw [gB_t p] at h; omega))
theorem g_icmplt (X : GK l D cI cZ cc nL own nm R ro V) {a b : Int} {off : Int} (tgt : Nat) (d : decode cc pc = .ok (.if_icmp .lt off, 3)) (ht : (pc : Int) + off = (tgt : Int)) (ha : -2147483648 ≤ a ∧ a < 2147483648) (hb0 : -2147483648 ≤ b ∧ b < 2147483648) (kt : a < b → V cn sl ws tgt lv st) (kf : b ≤ a → V cn sl ws (pc + 3) lv st) : V cn sl ws pc lv (gi b :: gi a :: st) := by
  obtain ⟨p, e, s, m, args, below, meth, c, A, Q, hx, hb, hml, hown, hts, hE, hA, hnm, rfl⟩ := X
  exact fun H locs ls hl hP hD hS hro => lv_icmp_lt hx hb d ht (fun h => kt ((iI_lt ha hb0).mp h) H locs ls hl hP hD hS hro) (fun h => kf (Int.not_lt.mp fun q => h ((iI_lt ha hb0).mpr q)) H locs ls hl hP hD hS hro)
theorem g_icmpge (X : GK l D cI cZ cc nL own nm R ro V) {a b : Int} {off : Int} (tgt : Nat) (d : decode cc pc = .ok (.if_icmp .ge off, 3)) (ht : (pc : Int) + off = (tgt : Int)) (ha : -2147483648 ≤ a ∧ a < 2147483648) (hb0 : -2147483648 ≤ b ∧ b < 2147483648) (kt : b ≤ a → V cn sl ws tgt lv st) (kf : a < b → V cn sl ws (pc + 3) lv st) : V cn sl ws pc lv (gi b :: gi a :: st) := by
  obtain ⟨p, e, s, m, args, below, meth, c, A, Q, hx, hb, hml, hown, hts, hE, hA, hnm, rfl⟩ := X
  exact fun H locs ls hl hP hD hS hro => lv_icmp_ge hx hb d ht (fun h => kt ((iI_le hb0 ha).mp h) H locs ls hl hP hD hS hro) (fun h => kf (Int.not_le.mp fun q => h ((iI_le hb0 ha).mpr q)) H locs ls hl hP hD hS hro)
theorem g_icmpgt (X : GK l D cI cZ cc nL own nm R ro V) {a b : Int} {off : Int} (tgt : Nat) (d : decode cc pc = .ok (.if_icmp .gt off, 3)) (ht : (pc : Int) + off = (tgt : Int)) (ha : -2147483648 ≤ a ∧ a < 2147483648) (hb0 : -2147483648 ≤ b ∧ b < 2147483648) (kt : b < a → V cn sl ws tgt lv st) (kf : a ≤ b → V cn sl ws (pc + 3) lv st) : V cn sl ws pc lv (gi b :: gi a :: st) := by
  obtain ⟨p, e, s, m, args, below, meth, c, A, Q, hx, hb, hml, hown, hts, hE, hA, hnm, rfl⟩ := X
  exact fun H locs ls hl hP hD hS hro => lv_icmp_gt hx hb d ht (fun h => kt ((iI_lt hb0 ha).mp h) H locs ls hl hP hD hS hro) (fun h => kf (Int.not_lt.mp fun q => h ((iI_lt hb0 ha).mpr q)) H locs ls hl hP hD hS hro)
theorem g_icmple (X : GK l D cI cZ cc nL own nm R ro V) {a b : Int} {off : Int} (tgt : Nat) (d : decode cc pc = .ok (.if_icmp .le off, 3)) (ht : (pc : Int) + off = (tgt : Int)) (ha : -2147483648 ≤ a ∧ a < 2147483648) (hb0 : -2147483648 ≤ b ∧ b < 2147483648) (kt : a ≤ b → V cn sl ws tgt lv st) (kf : b < a → V cn sl ws (pc + 3) lv st) : V cn sl ws pc lv (gi b :: gi a :: st) := by
  obtain ⟨p, e, s, m, args, below, meth, c, A, Q, hx, hb, hml, hown, hts, hE, hA, hnm, rfl⟩ := X
  exact fun H locs ls hl hP hD hS hro => lv_icmp_le hx hb d ht (fun h => kt ((iI_le ha hb0).mp h) H locs ls hl hP hD hS hro) (fun h => kf (Int.not_le.mp fun q => h ((iI_le ha hb0).mpr q)) H locs ls hl hP hD hS hro)
theorem g_icmpeq (X : GK l D cI cZ cc nL own nm R ro V) {a b : Int} {off : Int} (tgt : Nat) (d : decode cc pc = .ok (.if_icmp .eq off, 3)) (ht : (pc : Int) + off = (tgt : Int)) (ha : -2147483648 ≤ a ∧ a < 2147483648) (hb0 : -2147483648 ≤ b ∧ b < 2147483648) (kt : a = b → V cn sl ws tgt lv st) (kf : a ≠ b → V cn sl ws (pc + 3) lv st) : V cn sl ws pc lv (gi b :: gi a :: st) := by
  obtain ⟨p, e, s, m, args, below, meth, c, A, Q, hx, hb, hml, hown, hts, hE, hA, hnm, rfl⟩ := X
  exact fun H locs ls hl hP hD hS hro => lv_icmp_eq hx hb d ht (fun h => kt ((iI_eq ha hb0).mp h) H locs ls hl hP hD hS hro) (fun h => kf (fun q => h ((iI_eq ha hb0).mpr q)) H locs ls hl hP hD hS hro)
theorem g_icmpne (X : GK l D cI cZ cc nL own nm R ro V) {a b : Int} {off : Int} (tgt : Nat) (d : decode cc pc = .ok (.if_icmp .ne off, 3)) (ht : (pc : Int) + off = (tgt : Int)) (ha : -2147483648 ≤ a ∧ a < 2147483648) (hb0 : -2147483648 ≤ b ∧ b < 2147483648) (kt : a ≠ b → V cn sl ws tgt lv st) (kf : a = b → V cn sl ws (pc + 3) lv st) : V cn sl ws pc lv (gi b :: gi a :: st) := by
  obtain ⟨p, e, s, m, args, below, meth, c, A, Q, hx, hb, hml, hown, hts, hE, hA, hnm, rfl⟩ := X
  exact fun H locs ls hl hP hD hS hro => lv_icmp_ne hx hb d ht (fun h => kt (fun q => h ((iI_eq ha hb0).mpr q)) H locs ls hl hP hD hS hro) (fun h => kf ((iI_eq ha hb0).mp h) H locs ls hl hP hD hS hro)
theorem g_tableIn (X : GK l D cI cZ cc nL own nm R ro V) {dflt lo hi off : Int} {offs : Array Int} {len : Nat} {a : Int} (tgt : Nat) (d : decode cc pc = .ok (.tableswitch dflt lo hi offs, len)) (ha : -2147483648 ≤ a ∧ a < 2147483648) (h : lo ≤ a ∧ a ≤ hi) (ho : offs[(a - lo).toNat]? = some off) (ht : (pc : Int) + off = (tgt : Int)) (kk : V cn sl ws tgt lv st) : V cn sl ws pc lv (gi a :: st) := by
  obtain ⟨p, e, s, m, args, below, meth, c, A, Q, hx, hb, hml, hown, hts, hE, hA, hnm, rfl⟩ := X
  exact fun H locs ls hl hP hD hS hro => lv_tableIn hx hb d (by rw [iI_t ha]; omega) (by rw [iI_t ha]; omega) (by rw [iI_t ha]; exact ho) ht (kk H locs ls hl hP hD hS hro)
theorem g_tableOut (X : GK l D cI cZ cc nL own nm R ro V) {dflt lo hi : Int} {offs : Array Int} {len : Nat} {a : Int} (tgt : Nat) (d : decode cc pc = .ok (.tableswitch dflt lo hi offs, len)) (ha : -2147483648 ≤ a ∧ a < 2147483648) (h : a < lo ∨ hi < a) (ht : (pc : Int) + dflt = (tgt : Int)) (kk : V cn sl ws tgt lv st) : V cn sl ws pc lv (gi a :: st) := by
  obtain ⟨p, e, s, m, args, below, meth, c, A, Q, hx, hb, hml, hown, hts, hE, hA, hnm, rfl⟩ := X
  exact fun H locs ls hl hP hD hS hro => lv_tableOut hx hb d (by rw [iI_t ha]; exact h) ht (kk H locs ls hl hP hD hS hro)
end GK1
