/-! the layer: a method's contract and triple over a world that is a function of places -/
abbrev zGT := Launch × State × va_G × (Nat → ClassId) × (Nat → Nat) × Nat
def zl (g : zGT) : Launch := g.1
def zs (g : zGT) : State := g.2.1
def zD (g : zGT) : va_G := g.2.2.1
def zc (g : zGT) : Nat → ClassId := g.2.2.2.1
def za (g : zGT) : Nat → Nat := g.2.2.2.2.1
def zn (g : zGT) : Nat := g.2.2.2.2.2
def zA (g : zGT) : Nat → Prop := fun q => (zs g).heap.size ≤ q
def ztys (g : zGT) : List (ClassId × FieldType) := [(zc g 0, .int), (zc g 1, .char), (zc g 2, .long), (zc g 3, .double), (zc g 4, .object "RailTimeline$State"), (zc g 5, .object "RailTimeline$Command")]
abbrev zW := Nat → va_E
def zL (g : zGT) (w : zW) : va_W := (List.range (zn g)).map (fun k => (za g k, w k))
theorem zL_get {g : zGT} {w : zW} {k : Nat} (h : k < zn g) : (zL g w)[k]? = some (za g k, w k) := by
  simp [zL, h]
theorem zL_set {g : zGT} {w : zW} {k : Nat} {c : va_E} (h : k < zn g) : (zL g w).set k (za g k, c) = zL g (va_up w k c) := by
  apply List.ext_getElem?
  intro j
  by_cases hj : j < zn g
  · rw [zL_get hj]
    by_cases e : k = j
    · subst e
      rw [List.getElem?_set_self (by simpa [zL] using h)]
      simp [va_up]
    · rw [List.getElem?_set_ne e, zL_get hj]
      simp [va_up, Ne.symm e]
  · have h1 : (zL g w).length ≤ j := by simp [zL]; omega
    rw [List.getElem?_eq_none (by simpa using h1), List.getElem?_eq_none (by simp [zL]; omega)]
def ztb : List Cond := lw_tbl.filter goodWord
theorem ztb_of {w : Cond} (h : w ∈ lw_tbl) (g : goodWord w = true) : w ∈ ztb := List.mem_filter.mpr ⟨h, g⟩
theorem ztb_good {X : List Cond} (h : ∀ w ∈ X, w ∈ ztb) : GoodIn ztb X := fun w hw => ⟨h w hw, good_of_word (List.mem_filter.mp (h w hw)).2⟩
/-- the state U is at a launch that began at zs g: nothing of the start's heap has changed -/
def zGI (g : zGT) (U : State) : Prop := (zs g).WarmedH U.vm ∧ (zs g).heap.size ≤ U.heap.size ∧ ∀ q, q < (zs g).heap.size → U.heap[q]? = (zs g).heap[q]?
def zG0 (g : zGT) : Prop := va_K (zD g) vwCl (ztys g) (zs g) ∧ (∀ i j, i < zn g → j < zn g → za g i = za g j → i = j) ∧ (∀ i, i < zn g → (zs g).heap.size ≤ za g i) ∧ ∀ w ∈ lw_tbl, w.onTables = true → va_Nw w (zs g)
theorem zD_ok {g : zGT} (h : zG0 g) (w : zW) : va_D (zA g) (zL g w) := by
  have key : ∀ (k : Nat) (q : Nat × va_E), (zL g w)[k]? = some q → k < zn g ∧ q.1 = za g k := by
    intro k q hk
    have hk' : k < zn g := by
      have := (List.getElem?_eq_some_iff.mp hk).1
      simpa [zL] using this
    rw [zL_get hk'] at hk
    cases hk
    exact ⟨hk', rfl⟩
  refine ⟨fun i j p q hi hj e => ?_, fun k q hk => ?_⟩
  · obtain ⟨h1, h2⟩ := key i p hi
    obtain ⟨h3, h4⟩ := key j q hj
    exact h.2.1 i j h1 h3 (by rw [← h2, ← h4]; exact e)
  · obtain ⟨h1, h2⟩ := key k q hk
    show (zs g).heap.size ≤ q.1
    rw [h2]
    exact h.2.2.1 k h1
abbrev zMD := MethodName × ByteArray × Nat × Option FieldType
abbrev zP := Option Value ⊕ String → zW → Prop
def zQc (g : zGT) (Post : zP) : Array Value → State → Outcome → State → Prop := fun _ st o t => (∃ v w', o = .returned v ∧ Post (.inl v) w' ∧ va_P (zD g) vwCl (zL g w') t.heap) ∧ va_F (zA g) st t
def zXc (g : zGT) (Post : zP) : String → State → State → Prop := fun E st t => ∃ w', Post (.inr E) w' ∧ va_P (zD g) vwCl (zL g w') t.heap ∧ va_F (zA g) st t
def zPc (g : zGT) (As : List Value) (w : zW) : Array Value → State → Prop := fun v U => v = As.toArray ∧ zGI g U ∧ va_P (zD g) vwCl (zL g w) U.heap
def zCt (g : zGT) (M : zMD) (R : Room) (As : List Value) (w : zW) (Post : zP) : Prop := vx_Met (zl g) M.1 (.code M.1 M.2.1 M.2.2.1 M.2.2.2 :: ztb) R (zPc g As w) (zQc g Post) (zXc g Post) R.cells R.slots (zA g)
def zCx (g : zGT) (M : zMD) (p : Program) (s : State) (m : MethodId) (args : Array Value) (meth : Method) (c : Code) : Prop :=
  p.tables.exec = Jvm.exec ∧ c.code = M.2.1 ∧ c.maxLocals = M.2.2.1 ∧ s.vm.findClass M.1.cls = some m.cls ∧ (∀ w ∈ ztb, w.before args s = true) ∧ meth.sig.returnType = M.2.2.2 ∧ meth.locks = false ∧ (∀ x ∈ c.exceptionTable.toList, False) ∧ zGI g s ∧ zG0 g
def zTr (g : zGT) (M : zMD) (R : Room) (ce sl pc : Nat) (lv : List (Nat × Value)) (st : List Value) (w : zW) (Post : zP) : Prop :=
  ∀ (p : Program) (e : Env) (s : State) (m : MethodId) (args : Array Value) (below : List Frame) (meth : Method) (c : Code) (H : Heap) (locs : List Loc) (ls : Array Slot),
    zCx g M p s m args meth c → va_P (zD g) vwCl (zL g w) H → va_S (zA g) s.heap H locs → lv_has ls M.2.2.1 lv →
    W p (zl g) e R s m args below meth c H locs ce sl (vx_MQ below (zQc g Post) (zXc g Post) args s R.cells R.slots (zA g)) (F0 m pc ls st)
theorem zCt_of {g : zGT} {M : zMD} {R : Room} {As : List Value} {w : zW} {Post : zP} (hp : plainName M.1.cls = true) (h0 : zG0 g) (lv : List (Nat × Value)) (hlv : lv_args 0 As = lv) (hn : (lg_sl As).length ≤ M.2.2.1)
    (k : zTr g M R 0 0 0 lv [] w Post) : zCt g M R As w Post := by
  subst hlv
  refine vx_ofW hp rfl ?_
  intro p e s m args below meth c s₁ B hml ht hP
  obtain ⟨rfl, hGI, hW⟩ := hP
  rw [lg_entry_eq]
  exact k p e s m _ below meth c s.heap [] _ ⟨B.exec, B.bytes, hml, findClass_of_methodNamed B.named, fun w hw => atoms_spec (ws := .code M.1 M.2.1 M.2.2.1 M.2.2.2 :: ztb) B.pre _ (List.mem_cons_of_mem _ hw), B.returns, B.notSynchronized, ht, hGI, h0⟩ hW va_S.rf (lv_entry As hn)
theorem zCt_mono {g : zGT} {M : zMD} {R : Room} {As : List Value} {w : zW} {P Q : zP} (h : zCt g M R As w P) (hpq : ∀ o w', P o w' → Q o w') : zCt g M R As w Q := by
  intro p e ha hc hk s m args below hf happ hpc _
  obtain ⟨k, o, h1, h2, h3, hQ⟩ := h p e ha hc hk s m args below hf happ hpc trivial
  refine ⟨k, o, h1, h2, h3, ?_⟩
  rcases hQ with ⟨⟨⟨v, w', e1, e2, e3⟩, e4⟩, e5⟩ | ⟨q, e1, E, ce, L, ⟨w', e2, e3, e4⟩, e5⟩
  · exact Or.inl ⟨⟨⟨v, w', e1, hpq _ _ e2, e3⟩, e4⟩, e5⟩
  · exact Or.inr ⟨q, e1, E, ce, L, ⟨w', hpq _ _ e2, e3, e4⟩, e5⟩
theorem lv_lk : ∀ {l : List (Nat × Value)} {i : Nat} {v : Value}, l.lookup i = some v → (i, v) ∈ l
  | [], _, _, h => by simp at h
  | (j, u) :: r, i, v, h => by
    rw [List.lookup_cons] at h
    by_cases e : i = j
    · subst e
      simp at h
      subst h
      exact List.mem_cons_self
    · rw [beq_eq_false_iff_ne.mpr e] at h
      exact List.mem_cons_of_mem _ (lv_lk h)
theorem lv_get {ls : Array Slot} {n : Nat} {l : List (Nat × Value)} (h : lv_has ls n l) {i : Nat} {v : Value} (hk : l.lookup i = some v) : ls[i]? = some (.val v) := h.2.2 (i, v) (lv_lk hk)
/-- the locals behind a store, kept in the order of their places -/
def lv_ins (x : Nat × Value) : List (Nat × Value) → List (Nat × Value)
  | [] => [x]
  | y :: r => if x.1 < y.1 then x :: y :: r else y :: lv_ins x r
theorem lv_ins_mem {x q : Nat × Value} : ∀ {l : List (Nat × Value)}, q ∈ lv_ins x l → q = x ∨ q ∈ l
  | [], h => by simp [lv_ins] at h; exact Or.inl h
  | y :: r, h => by
    unfold lv_ins at h
    split at h
    · rcases List.mem_cons.mp h with h | h
      · exact Or.inl h
      · exact Or.inr h
    · rcases List.mem_cons.mp h with h | h
      · exact Or.inr (by rw [h]; exact List.mem_cons_self)
      · rcases lv_ins_mem h with h | h
        · exact Or.inl h
        · exact Or.inr (List.mem_cons_of_mem _ h)
def lv_sto (lv : List (Nat × Value)) (i : Nat) (v : Value) : List (Nat × Value) := lv_ins (i, v) (lv.filter (fun q => !(q.1 == i) && !(q.1 + 1 == i && q.2.category == 2)))
def lv_sto2 (lv : List (Nat × Value)) (i : Nat) (v : Value) : List (Nat × Value) := lv_ins (i, v) (lv.filter (fun q => !(q.1 == i) && (!(q.1 == i + 1) && !(q.1 + 1 == i && q.2.category == 2))))
theorem lv_re {ls : Array Slot} {n : Nat} {l l' : List (Nat × Value)} {x : Nat × Value} (h : lv_has ls n (x :: l)) (e : lv_ins x l = l') : lv_has ls n l' := by
  subst e
  refine ⟨h.1, h.2.1, fun q hq => h.2.2 q ?_⟩
  rcases lv_ins_mem hq with e | e
  · rw [e]; exact List.mem_cons_self
  · exact List.mem_cons_of_mem _ e
section ZR
variable {g : zGT} {M : zMD} {R : Room} {ce sl pc : Nat} {lv lv' : List (Nat × Value)} {st rest : List Value} {w : zW} {Post : zP}
theorem z_eq {pc' : Nat} {st' : List Value} (h1 : pc = pc') (h2 : st = st') (h3 : lv = lv') (k : zTr g M R ce sl pc' lv' st' w Post) : zTr g M R ce sl pc lv st w Post := by
  subst h1; subst h2; subst h3; exact k
theorem z_wid {ce' sl' : Nat} (h1 : ce ≤ ce') (h2 : sl ≤ sl') (k : zTr g M R ce' sl' pc lv st w Post) : zTr g M R ce sl pc lv st w Post :=
  fun p e s m args below meth c H locs ls C hW hS hl => W.widen h1 h2 (k p e s m args below meth c H locs ls C hW hS hl)
theorem z_post {P : zP} (k : zTr g M R ce sl pc lv st w P) (h : ∀ o w', P o w' → Post o w') : zTr g M R ce sl pc lv st w Post := by
  intro p e s m args below meth c H locs ls C hW hS hl T hT X
  obtain ⟨t, a1, o, b1, b2, hQ⟩ := k p e s m args below meth c H locs ls C hW hS hl T hT X
  refine ⟨t, a1, o, b1, b2, ?_⟩
  rcases hQ with ⟨⟨⟨v, w', e1, e2, e3⟩, e4⟩, e5⟩ | ⟨q, e1, E, cl, L, ⟨w', e2, e3, e4⟩, e5⟩
  · exact Or.inl ⟨⟨⟨v, w', e1, h _ _ e2, e3⟩, e4⟩, e5⟩
  · exact Or.inr ⟨q, e1, E, cl, L, ⟨w', h _ _ e2, e3, e4⟩, e5⟩
theorem z_sub (ks : List Nat) (e : lv_pick lv ks = lv') (k : zTr g M R ce sl pc lv' st w Post) : zTr g M R ce sl pc lv st w Post :=
  fun p e' s m args below meth c H locs ls C hW hS hl => k p e' s m args below meth c H locs ls C hW hS (lv_sub hl ks e)
theorem z_iconst {n : Int} {v : Int32} (d : decode M.2.1 pc = .ok (.iconst n, 1)) (hv : Int32.ofInt n = v) (k : zTr g M R ce sl (pc + 1) lv (.int v :: rest) w Post) : zTr g M R ce sl pc lv (rest) w Post :=
  fun p e s m args below meth c H locs ls C hW hS hl => lv_iconst C.1 C.2.1 d hv (k p e s m args below meth c H locs ls C hW hS hl)
theorem z_bipush {n : Int} {v : Int32} (d : decode M.2.1 pc = .ok (.bipush n, 2)) (hv : (Int8.ofInt n).toInt32 = v) (k : zTr g M R ce sl (pc + 2) lv (.int v :: rest) w Post) : zTr g M R ce sl pc lv (rest) w Post :=
  fun p e s m args below meth c H locs ls C hW hS hl => lv_bipush C.1 C.2.1 d hv (k p e s m args below meth c H locs ls C hW hS hl)
theorem z_sipush {n : Int} {v : Int32} (d : decode M.2.1 pc = .ok (.sipush n, 3)) (hv : (Int16.ofInt n).toInt32 = v) (k : zTr g M R ce sl (pc + 3) lv (.int v :: rest) w Post) : zTr g M R ce sl pc lv (rest) w Post :=
  fun p e s m args below meth c H locs ls C hW hS hl => lv_sipush C.1 C.2.1 d hv (k p e s m args below meth c H locs ls C hW hS hl)
theorem z_lconst {n : Fin 2} {v : Int64} (d : decode M.2.1 pc = .ok (.lconst n, 1)) (hv : Int64.ofNat (n : Nat) = v) (k : zTr g M R ce sl (pc + 1) lv (.long v :: rest) w Post) : zTr g M R ce sl pc lv (rest) w Post :=
  fun p e s m args below meth c H locs ls C hW hS hl => lv_lconst C.1 C.2.1 d hv (k p e s m args below meth c H locs ls C hW hS hl)
theorem z_fconst0  (d : decode M.2.1 pc = .ok (.fconst 0, 1)) (k : zTr g M R ce sl (pc + 1) lv (.float FP.fconst0 :: rest) w Post) : zTr g M R ce sl pc lv (rest) w Post :=
  fun p e s m args below meth c H locs ls C hW hS hl => lv_fconst0 C.1 C.2.1 d (k p e s m args below meth c H locs ls C hW hS hl)
theorem z_dconst0  (d : decode M.2.1 pc = .ok (.dconst 0, 1)) (k : zTr g M R ce sl (pc + 1) lv (.double FP.dconst0 :: rest) w Post) : zTr g M R ce sl pc lv (rest) w Post :=
  fun p e s m args below meth c H locs ls C hW hS hl => lv_dconst0 C.1 C.2.1 d (k p e s m args below meth c H locs ls C hW hS hl)
theorem z_null  (d : decode M.2.1 pc = .ok (.aconst_null, 1)) (k : zTr g M R ce sl (pc + 1) lv (.null :: rest) w Post) : zTr g M R ce sl pc lv (rest) w Post :=
  fun p e s m args below meth c H locs ls C hW hS hl => lv_null C.1 C.2.1 d (k p e s m args below meth c H locs ls C hW hS hl)
theorem z_iload_n {k4 : Fin 4} {x : Int32} (d : decode M.2.1 pc = .ok (.iload_n k4, 1)) (hx : lv.lookup (k4 : Nat) = some (.int x)) (k : zTr g M R ce sl (pc + 1) lv (.int x :: rest) w Post) : zTr g M R ce sl pc lv (rest) w Post :=
  fun p e s m args below meth c H locs ls C hW hS hl => lv_iload_n C.1 C.2.1 d rfl (lv_get hl hx) (k p e s m args below meth c H locs ls C hW hS hl)
theorem z_iload {i : Nat} {x : Int32} (d : decode M.2.1 pc = .ok (.iload i, 2)) (hx : lv.lookup i = some (.int x)) (k : zTr g M R ce sl (pc + 2) lv (.int x :: rest) w Post) : zTr g M R ce sl pc lv (rest) w Post :=
  fun p e s m args below meth c H locs ls C hW hS hl => lv_iload C.1 C.2.1 d (lv_get hl hx) (k p e s m args below meth c H locs ls C hW hS hl)
theorem z_istore_n {k4 : Fin 4} {x : Int32} (d : decode M.2.1 pc = .ok (.istore_n k4, 1)) (hn : (k4 : Nat) < M.2.2.1) (hlv : lv_sto lv (k4 : Nat) (.int x) = lv') (k : zTr g M R ce sl (pc + 1) lv' rest w Post) : zTr g M R ce sl pc lv (.int x :: rest) w Post :=
  fun p e s m args below meth c H locs ls C hW hS hl => lv_istore_n C.1 C.2.1 d rfl hl hn rfl (fun ls1 hl1 => k p e s m args below meth c H locs ls1 C hW hS (lv_re hl1 hlv))
theorem z_istore {i : Nat} {x : Int32} (d : decode M.2.1 pc = .ok (.istore i, 2)) (hn : i < M.2.2.1) (hlv : lv_sto lv i (.int x) = lv') (k : zTr g M R ce sl (pc + 2) lv' rest w Post) : zTr g M R ce sl pc lv (.int x :: rest) w Post :=
  fun p e s m args below meth c H locs ls C hW hS hl => lv_istore C.1 C.2.1 d hl hn rfl (fun ls1 hl1 => k p e s m args below meth c H locs ls1 C hW hS (lv_re hl1 hlv))
theorem z_lload_n {k4 : Fin 4} {x : Int64} (d : decode M.2.1 pc = .ok (.lload_n k4, 1)) (hx : lv.lookup (k4 : Nat) = some (.long x)) (k : zTr g M R ce sl (pc + 1) lv (.long x :: rest) w Post) : zTr g M R ce sl pc lv (rest) w Post :=
  fun p e s m args below meth c H locs ls C hW hS hl => lv_lload_n C.1 C.2.1 d rfl (lv_get hl hx) (k p e s m args below meth c H locs ls C hW hS hl)
theorem z_lload {i : Nat} {x : Int64} (d : decode M.2.1 pc = .ok (.lload i, 2)) (hx : lv.lookup i = some (.long x)) (k : zTr g M R ce sl (pc + 2) lv (.long x :: rest) w Post) : zTr g M R ce sl pc lv (rest) w Post :=
  fun p e s m args below meth c H locs ls C hW hS hl => lv_lload C.1 C.2.1 d (lv_get hl hx) (k p e s m args below meth c H locs ls C hW hS hl)
theorem z_lstore_n {k4 : Fin 4} {x : Int64} (d : decode M.2.1 pc = .ok (.lstore_n k4, 1)) (hn : (k4 : Nat) + 1 < M.2.2.1) (hlv : lv_sto2 lv (k4 : Nat) (.long x) = lv') (k : zTr g M R ce sl (pc + 1) lv' rest w Post) : zTr g M R ce sl pc lv (.long x :: rest) w Post :=
  fun p e s m args below meth c H locs ls C hW hS hl => lv_lstore_n C.1 C.2.1 d rfl hl hn rfl (fun ls1 hl1 => k p e s m args below meth c H locs ls1 C hW hS (lv_re hl1 hlv))
theorem z_lstore {i : Nat} {x : Int64} (d : decode M.2.1 pc = .ok (.lstore i, 2)) (hn : i + 1 < M.2.2.1) (hlv : lv_sto2 lv i (.long x) = lv') (k : zTr g M R ce sl (pc + 2) lv' rest w Post) : zTr g M R ce sl pc lv (.long x :: rest) w Post :=
  fun p e s m args below meth c H locs ls C hW hS hl => lv_lstore C.1 C.2.1 d hl hn rfl (fun ls1 hl1 => k p e s m args below meth c H locs ls1 C hW hS (lv_re hl1 hlv))
theorem z_aload_n {k4 : Fin 4} {x : Nat} (d : decode M.2.1 pc = .ok (.aload_n k4, 1)) (hx : lv.lookup (k4 : Nat) = some (.ref x)) (k : zTr g M R ce sl (pc + 1) lv (.ref x :: rest) w Post) : zTr g M R ce sl pc lv (rest) w Post :=
  fun p e s m args below meth c H locs ls C hW hS hl => lv_aload_n C.1 C.2.1 d rfl (lv_get hl hx) (k p e s m args below meth c H locs ls C hW hS hl)
theorem z_aload {i : Nat} {x : Nat} (d : decode M.2.1 pc = .ok (.aload i, 2)) (hx : lv.lookup i = some (.ref x)) (k : zTr g M R ce sl (pc + 2) lv (.ref x :: rest) w Post) : zTr g M R ce sl pc lv (rest) w Post :=
  fun p e s m args below meth c H locs ls C hW hS hl => lv_aload C.1 C.2.1 d (lv_get hl hx) (k p e s m args below meth c H locs ls C hW hS hl)
theorem z_astore_n {k4 : Fin 4} {x : Nat} (d : decode M.2.1 pc = .ok (.astore_n k4, 1)) (hn : (k4 : Nat) < M.2.2.1) (hlv : lv_sto lv (k4 : Nat) (.ref x) = lv') (k : zTr g M R ce sl (pc + 1) lv' rest w Post) : zTr g M R ce sl pc lv (.ref x :: rest) w Post :=
  fun p e s m args below meth c H locs ls C hW hS hl => lv_astore_n C.1 C.2.1 d rfl hl hn rfl (fun ls1 hl1 => k p e s m args below meth c H locs ls1 C hW hS (lv_re hl1 hlv))
theorem z_astore {i : Nat} {x : Nat} (d : decode M.2.1 pc = .ok (.astore i, 2)) (hn : i < M.2.2.1) (hlv : lv_sto lv i (.ref x) = lv') (k : zTr g M R ce sl (pc + 2) lv' rest w Post) : zTr g M R ce sl pc lv (.ref x :: rest) w Post :=
  fun p e s m args below meth c H locs ls C hW hS hl => lv_astore C.1 C.2.1 d hl hn rfl (fun ls1 hl1 => k p e s m args below meth c H locs ls1 C hW hS (lv_re hl1 hlv))
theorem z_fload_n {k4 : Fin 4} {x : UInt32} (d : decode M.2.1 pc = .ok (.fload_n k4, 1)) (hx : lv.lookup (k4 : Nat) = some (.float x)) (k : zTr g M R ce sl (pc + 1) lv (.float x :: rest) w Post) : zTr g M R ce sl pc lv (rest) w Post :=
  fun p e s m args below meth c H locs ls C hW hS hl => lv_fload_n C.1 C.2.1 d rfl (lv_get hl hx) (k p e s m args below meth c H locs ls C hW hS hl)
theorem z_fload {i : Nat} {x : UInt32} (d : decode M.2.1 pc = .ok (.fload i, 2)) (hx : lv.lookup i = some (.float x)) (k : zTr g M R ce sl (pc + 2) lv (.float x :: rest) w Post) : zTr g M R ce sl pc lv (rest) w Post :=
  fun p e s m args below meth c H locs ls C hW hS hl => lv_fload C.1 C.2.1 d (lv_get hl hx) (k p e s m args below meth c H locs ls C hW hS hl)
theorem z_fstore_n {k4 : Fin 4} {x : UInt32} (d : decode M.2.1 pc = .ok (.fstore_n k4, 1)) (hn : (k4 : Nat) < M.2.2.1) (hlv : lv_sto lv (k4 : Nat) (.float x) = lv') (k : zTr g M R ce sl (pc + 1) lv' rest w Post) : zTr g M R ce sl pc lv (.float x :: rest) w Post :=
  fun p e s m args below meth c H locs ls C hW hS hl => lv_fstore_n C.1 C.2.1 d rfl hl hn rfl (fun ls1 hl1 => k p e s m args below meth c H locs ls1 C hW hS (lv_re hl1 hlv))
theorem z_fstore {i : Nat} {x : UInt32} (d : decode M.2.1 pc = .ok (.fstore i, 2)) (hn : i < M.2.2.1) (hlv : lv_sto lv i (.float x) = lv') (k : zTr g M R ce sl (pc + 2) lv' rest w Post) : zTr g M R ce sl pc lv (.float x :: rest) w Post :=
  fun p e s m args below meth c H locs ls C hW hS hl => lv_fstore C.1 C.2.1 d hl hn rfl (fun ls1 hl1 => k p e s m args below meth c H locs ls1 C hW hS (lv_re hl1 hlv))
theorem z_dload_n {k4 : Fin 4} {x : UInt64} (d : decode M.2.1 pc = .ok (.dload_n k4, 1)) (hx : lv.lookup (k4 : Nat) = some (.double x)) (k : zTr g M R ce sl (pc + 1) lv (.double x :: rest) w Post) : zTr g M R ce sl pc lv (rest) w Post :=
  fun p e s m args below meth c H locs ls C hW hS hl => lv_dload_n C.1 C.2.1 d rfl (lv_get hl hx) (k p e s m args below meth c H locs ls C hW hS hl)
theorem z_dload {i : Nat} {x : UInt64} (d : decode M.2.1 pc = .ok (.dload i, 2)) (hx : lv.lookup i = some (.double x)) (k : zTr g M R ce sl (pc + 2) lv (.double x :: rest) w Post) : zTr g M R ce sl pc lv (rest) w Post :=
  fun p e s m args below meth c H locs ls C hW hS hl => lv_dload C.1 C.2.1 d (lv_get hl hx) (k p e s m args below meth c H locs ls C hW hS hl)
theorem z_dstore_n {k4 : Fin 4} {x : UInt64} (d : decode M.2.1 pc = .ok (.dstore_n k4, 1)) (hn : (k4 : Nat) + 1 < M.2.2.1) (hlv : lv_sto2 lv (k4 : Nat) (.double x) = lv') (k : zTr g M R ce sl (pc + 1) lv' rest w Post) : zTr g M R ce sl pc lv (.double x :: rest) w Post :=
  fun p e s m args below meth c H locs ls C hW hS hl => lv_dstore_n C.1 C.2.1 d rfl hl hn rfl (fun ls1 hl1 => k p e s m args below meth c H locs ls1 C hW hS (lv_re hl1 hlv))
theorem z_dstore {i : Nat} {x : UInt64} (d : decode M.2.1 pc = .ok (.dstore i, 2)) (hn : i + 1 < M.2.2.1) (hlv : lv_sto2 lv i (.double x) = lv') (k : zTr g M R ce sl (pc + 2) lv' rest w Post) : zTr g M R ce sl pc lv (.double x :: rest) w Post :=
  fun p e s m args below meth c H locs ls C hW hS hl => lv_dstore C.1 C.2.1 d hl hn rfl (fun ls1 hl1 => k p e s m args below meth c H locs ls1 C hW hS (lv_re hl1 hlv))
theorem lv_plc : ∀ {l : List (Nat × Value)} {i : Nat} {v : Value}, l.lookup i = some v → ∃ k : Nat, l[k]? = some (i, v) := fun h => List.getElem?_of_mem (lv_lk h)
theorem z_iinc {i : Nat} {n : Int} {x v : Int32} (d : decode M.2.1 pc = .ok (.iinc i n, 3)) (hx : lv.lookup i = some (.int x)) (hv : x + Int32.ofInt n = v) (hn : i < M.2.2.1) (hlv : lv_sto lv i (.int v) = lv') (k : zTr g M R ce sl (pc + 3) lv' rest w Post) : zTr g M R ce sl pc lv rest w Post :=
  fun p e s m args below meth c H locs ls C hW hS hl => by
    obtain ⟨k0, hk0⟩ := lv_plc hx
    exact lv_iinc C.1 C.2.1 d hl hk0 hv hn rfl (fun ls1 hl1 => k p e s m args below meth c H locs ls1 C hW hS (lv_re hl1 hlv))
theorem z_iadd {x y : Int32} (d : decode M.2.1 pc = .ok (.iadd, 1)) (k : zTr g M R ce sl (pc + 1) lv (.int (x + y) :: rest) w Post) : zTr g M R ce sl pc lv (.int y :: .int x :: rest) w Post :=
  fun p e s m args below meth c H locs ls C hW hS hl => lv_iadd C.1 C.2.1 d (k p e s m args below meth c H locs ls C hW hS hl)
theorem z_isub {x y : Int32} (d : decode M.2.1 pc = .ok (.isub, 1)) (k : zTr g M R ce sl (pc + 1) lv (.int (x - y) :: rest) w Post) : zTr g M R ce sl pc lv (.int y :: .int x :: rest) w Post :=
  fun p e s m args below meth c H locs ls C hW hS hl => lv_isub C.1 C.2.1 d (k p e s m args below meth c H locs ls C hW hS hl)
theorem z_imul {x y : Int32} (d : decode M.2.1 pc = .ok (.imul, 1)) (k : zTr g M R ce sl (pc + 1) lv (.int (x * y) :: rest) w Post) : zTr g M R ce sl pc lv (.int y :: .int x :: rest) w Post :=
  fun p e s m args below meth c H locs ls C hW hS hl => lv_imul C.1 C.2.1 d (k p e s m args below meth c H locs ls C hW hS hl)
theorem z_iand {x y : Int32} (d : decode M.2.1 pc = .ok (.iand, 1)) (k : zTr g M R ce sl (pc + 1) lv (.int (x &&& y) :: rest) w Post) : zTr g M R ce sl pc lv (.int y :: .int x :: rest) w Post :=
  fun p e s m args below meth c H locs ls C hW hS hl => lv_iand C.1 C.2.1 d (k p e s m args below meth c H locs ls C hW hS hl)
theorem z_ior {x y : Int32} (d : decode M.2.1 pc = .ok (.ior, 1)) (k : zTr g M R ce sl (pc + 1) lv (.int (x ||| y) :: rest) w Post) : zTr g M R ce sl pc lv (.int y :: .int x :: rest) w Post :=
  fun p e s m args below meth c H locs ls C hW hS hl => lv_ior C.1 C.2.1 d (k p e s m args below meth c H locs ls C hW hS hl)
theorem z_idiv {x y : Int32} (d : decode M.2.1 pc = .ok (.idiv, 1)) (hne : ¬ y = 0) (k : zTr g M R ce sl (pc + 1) lv (.int (x / y) :: rest) w Post) : zTr g M R ce sl pc lv (.int y :: .int x :: rest) w Post :=
  fun p e s m args below meth c H locs ls C hW hS hl => lv_idiv C.1 C.2.1 d hne (k p e s m args below meth c H locs ls C hW hS hl)
theorem z_irem {x y : Int32} (d : decode M.2.1 pc = .ok (.irem, 1)) (hne : ¬ y = 0) (k : zTr g M R ce sl (pc + 1) lv (.int (x - x / y * y) :: rest) w Post) : zTr g M R ce sl pc lv (.int y :: .int x :: rest) w Post :=
  fun p e s m args below meth c H locs ls C hW hS hl => lv_irem C.1 C.2.1 d hne (k p e s m args below meth c H locs ls C hW hS hl)
theorem z_ineg {x : Int32} (d : decode M.2.1 pc = .ok (.ineg, 1)) (k : zTr g M R ce sl (pc + 1) lv (.int (-x) :: rest) w Post) : zTr g M R ce sl pc lv (.int x :: rest) w Post :=
  fun p e s m args below meth c H locs ls C hW hS hl => lv_ineg C.1 C.2.1 d (k p e s m args below meth c H locs ls C hW hS hl)
theorem z_ladd {x y : Int64} (d : decode M.2.1 pc = .ok (.ladd, 1)) (k : zTr g M R ce sl (pc + 1) lv (.long (x + y) :: rest) w Post) : zTr g M R ce sl pc lv (.long y :: .long x :: rest) w Post :=
  fun p e s m args below meth c H locs ls C hW hS hl => lv_ladd C.1 C.2.1 d (k p e s m args below meth c H locs ls C hW hS hl)
theorem z_lmul {x y : Int64} (d : decode M.2.1 pc = .ok (.lmul, 1)) (k : zTr g M R ce sl (pc + 1) lv (.long (x * y) :: rest) w Post) : zTr g M R ce sl pc lv (.long y :: .long x :: rest) w Post :=
  fun p e s m args below meth c H locs ls C hW hS hl => lv_lmul C.1 C.2.1 d (k p e s m args below meth c H locs ls C hW hS hl)
theorem z_lcmp {x y : Int64} (d : decode M.2.1 pc = .ok (.lcmp, 1)) (k : zTr g M R ce sl (pc + 1) lv (.int (lg_cmp x y) :: rest) w Post) : zTr g M R ce sl pc lv (.long y :: .long x :: rest) w Post :=
  fun p e s m args below meth c H locs ls C hW hS hl => W.lcmp C.1 C.2.1 d (k p e s m args below meth c H locs ls C hW hS hl)
theorem z_i2l {x : Int32} (d : decode M.2.1 pc = .ok (.i2l, 1)) (k : zTr g M R ce sl (pc + 1) lv (.long x.toInt64 :: rest) w Post) : zTr g M R ce sl pc lv (.int x :: rest) w Post :=
  fun p e s m args below meth c H locs ls C hW hS hl => lv_i2l C.1 C.2.1 d rfl (k p e s m args below meth c H locs ls C hW hS hl)
theorem z_i2c {x : Int32} (d : decode M.2.1 pc = .ok (.i2c, 1)) (k : zTr g M R ce sl (pc + 1) lv (.int (x.toUInt32 % 65536).toInt32 :: rest) w Post) : zTr g M R ce sl pc lv (.int x :: rest) w Post :=
  fun p e s m args below meth c H locs ls C hW hS hl => lv_i2c C.1 C.2.1 d rfl (k p e s m args below meth c H locs ls C hW hS hl)
theorem z_i2f {x : Int32} (d : decode M.2.1 pc = .ok (.i2f, 1)) (k : zTr g M R ce sl (pc + 1) lv (.float (FP.i2f x) :: rest) w Post) : zTr g M R ce sl pc lv (.int x :: rest) w Post :=
  fun p e s m args below meth c H locs ls C hW hS hl => lv_i2f C.1 C.2.1 d (k p e s m args below meth c H locs ls C hW hS hl)
theorem z_i2d {x : Int32} (d : decode M.2.1 pc = .ok (.i2d, 1)) (k : zTr g M R ce sl (pc + 1) lv (.double (FP.i2d x) :: rest) w Post) : zTr g M R ce sl pc lv (.int x :: rest) w Post :=
  fun p e s m args below meth c H locs ls C hW hS hl => lv_i2d C.1 C.2.1 d (k p e s m args below meth c H locs ls C hW hS hl)
theorem z_l2d {x : Int64} (d : decode M.2.1 pc = .ok (.l2d, 1)) (k : zTr g M R ce sl (pc + 1) lv (.double (FP.l2d x) :: rest) w Post) : zTr g M R ce sl pc lv (.long x :: rest) w Post :=
  fun p e s m args below meth c H locs ls C hW hS hl => lv_l2d C.1 C.2.1 d (k p e s m args below meth c H locs ls C hW hS hl)
theorem z_f2d {x : UInt32} (d : decode M.2.1 pc = .ok (.f2d, 1)) (hne : vf_n64 (FP.f2d x)) (k : zTr g M R ce sl (pc + 1) lv (.double (FP.f2d x) :: rest) w Post) : zTr g M R ce sl pc lv (.float x :: rest) w Post :=
  fun p e s m args below meth c H locs ls C hW hS hl => lv_f2d C.1 C.2.1 d hne (k p e s m args below meth c H locs ls C hW hS hl)
theorem z_fdiv {x y : UInt32} (d : decode M.2.1 pc = .ok (.fdiv, 1)) (hne : vf_n32 (FP.fdiv x y)) (k : zTr g M R ce sl (pc + 1) lv (.float (FP.fdiv x y) :: rest) w Post) : zTr g M R ce sl pc lv (.float y :: .float x :: rest) w Post :=
  fun p e s m args below meth c H locs ls C hW hS hl => lv_fdiv C.1 C.2.1 d hne (k p e s m args below meth c H locs ls C hW hS hl)
theorem z_ddiv {x y : UInt64} (d : decode M.2.1 pc = .ok (.ddiv, 1)) (hne : vf_n64 (FP.ddiv x y)) (k : zTr g M R ce sl (pc + 1) lv (.double (FP.ddiv x y) :: rest) w Post) : zTr g M R ce sl pc lv (.double y :: .double x :: rest) w Post :=
  fun p e s m args below meth c H locs ls C hW hS hl => lv_ddiv C.1 C.2.1 d hne (k p e s m args below meth c H locs ls C hW hS hl)
theorem z_dcmp {x y : UInt64} {op : CmpOp} (d : decode M.2.1 pc = .ok (.dcmp op, 1)) (k : zTr g M R ce sl (pc + 1) lv (.int (Op.cmpValue (FP.dcmp x y) op) :: rest) w Post) : zTr g M R ce sl pc lv (.double y :: .double x :: rest) w Post :=
  fun p e s m args below meth c H locs ls C hW hS hl => lv_dcmp C.1 C.2.1 d (k p e s m args below meth c H locs ls C hW hS hl)
theorem z_fcmp {x y : UInt32} {op : CmpOp} (d : decode M.2.1 pc = .ok (.fcmp op, 1)) (k : zTr g M R ce sl (pc + 1) lv (.int (Op.cmpValue (FP.fcmp x y) op) :: rest) w Post) : zTr g M R ce sl pc lv (.float y :: .float x :: rest) w Post :=
  fun p e s m args below meth c H locs ls C hW hS hl => lv_fcmp C.1 C.2.1 d (k p e s m args below meth c H locs ls C hW hS hl)
theorem z_dup {va : Value} (d : decode M.2.1 pc = .ok (.dup, 1)) (hva : va.category = 1) (k : zTr g M R ce sl (pc + 1) lv (va :: va :: rest) w Post) : zTr g M R ce sl pc lv (va :: rest) w Post :=
  fun p e s m args below meth c H locs ls C hW hS hl => lv_dup C.1 C.2.1 d hva (k p e s m args below meth c H locs ls C hW hS hl)
theorem z_pop {va : Value} (d : decode M.2.1 pc = .ok (.pop, 1)) (hva : va.category = 1) (k : zTr g M R ce sl (pc + 1) lv (rest) w Post) : zTr g M R ce sl pc lv (va :: rest) w Post :=
  fun p e s m args below meth c H locs ls C hW hS hl => lv_pop C.1 C.2.1 d hva (k p e s m args below meth c H locs ls C hW hS hl)
theorem z_dup2 {va vb : Value} (d : decode M.2.1 pc = .ok (.dup2, 1)) (hva : va.category = 1) (hvb : vb.category = 1) (k : zTr g M R ce sl (pc + 1) lv (va :: vb :: va :: vb :: rest) w Post) : zTr g M R ce sl pc lv (va :: vb :: rest) w Post :=
  fun p e s m args below meth c H locs ls C hW hS hl => lv_dup2_11 C.1 C.2.1 d hva hvb (k p e s m args below meth c H locs ls C hW hS hl)
theorem z_goto {off : Int} {tgt : Nat} (d : decode M.2.1 pc = .ok (.goto off, 3)) (ht : (pc : Int) + off = (tgt : Int)) (k : zTr g M R ce sl (tgt) lv (rest) w Post) : zTr g M R ce sl pc lv (rest) w Post :=
  fun p e s m args below meth c H locs ls C hW hS hl => lv_goto C.1 C.2.1 d ht (k p e s m args below meth c H locs ls C hW hS hl)
theorem z_if_eq {x : Int32} {off : Int} {tgt : Nat} (d : decode M.2.1 pc = .ok (.ifCond .eq off, 3)) (ht : (pc : Int) + off = (tgt : Int)) (kt : x = 0 → zTr g M R ce sl tgt lv rest w Post) (kf : ¬ x = 0 → zTr g M R ce sl (pc + 3) lv rest w Post) : zTr g M R ce sl pc lv (.int x :: rest) w Post :=
  fun p e s m args below meth c H locs ls C hW hS hl => lv_if_eq C.1 C.2.1 d ht (fun h => kt h p e s m args below meth c H locs ls C hW hS hl) (fun h => kf h p e s m args below meth c H locs ls C hW hS hl)
theorem z_icmp_eq {x y : Int32} {off : Int} {tgt : Nat} (d : decode M.2.1 pc = .ok (.if_icmp .eq off, 3)) (ht : (pc : Int) + off = (tgt : Int)) (kt : x = y → zTr g M R ce sl tgt lv rest w Post) (kf : ¬ x = y → zTr g M R ce sl (pc + 3) lv rest w Post) : zTr g M R ce sl pc lv (.int y :: .int x :: rest) w Post :=
  fun p e s m args below meth c H locs ls C hW hS hl => lv_icmp_eq C.1 C.2.1 d ht (fun h => kt h p e s m args below meth c H locs ls C hW hS hl) (fun h => kf h p e s m args below meth c H locs ls C hW hS hl)
theorem z_if_ne {x : Int32} {off : Int} {tgt : Nat} (d : decode M.2.1 pc = .ok (.ifCond .ne off, 3)) (ht : (pc : Int) + off = (tgt : Int)) (kt : ¬ x = 0 → zTr g M R ce sl tgt lv rest w Post) (kf : x = 0 → zTr g M R ce sl (pc + 3) lv rest w Post) : zTr g M R ce sl pc lv (.int x :: rest) w Post :=
  fun p e s m args below meth c H locs ls C hW hS hl => lv_if_ne C.1 C.2.1 d ht (fun h => kt h p e s m args below meth c H locs ls C hW hS hl) (fun h => kf h p e s m args below meth c H locs ls C hW hS hl)
theorem z_icmp_ne {x y : Int32} {off : Int} {tgt : Nat} (d : decode M.2.1 pc = .ok (.if_icmp .ne off, 3)) (ht : (pc : Int) + off = (tgt : Int)) (kt : ¬ x = y → zTr g M R ce sl tgt lv rest w Post) (kf : x = y → zTr g M R ce sl (pc + 3) lv rest w Post) : zTr g M R ce sl pc lv (.int y :: .int x :: rest) w Post :=
  fun p e s m args below meth c H locs ls C hW hS hl => lv_icmp_ne C.1 C.2.1 d ht (fun h => kt h p e s m args below meth c H locs ls C hW hS hl) (fun h => kf h p e s m args below meth c H locs ls C hW hS hl)
theorem z_if_lt {x : Int32} {off : Int} {tgt : Nat} (d : decode M.2.1 pc = .ok (.ifCond .lt off, 3)) (ht : (pc : Int) + off = (tgt : Int)) (kt : x < 0 → zTr g M R ce sl tgt lv rest w Post) (kf : ¬ x < 0 → zTr g M R ce sl (pc + 3) lv rest w Post) : zTr g M R ce sl pc lv (.int x :: rest) w Post :=
  fun p e s m args below meth c H locs ls C hW hS hl => lv_if_lt C.1 C.2.1 d ht (fun h => kt h p e s m args below meth c H locs ls C hW hS hl) (fun h => kf h p e s m args below meth c H locs ls C hW hS hl)
theorem z_icmp_lt {x y : Int32} {off : Int} {tgt : Nat} (d : decode M.2.1 pc = .ok (.if_icmp .lt off, 3)) (ht : (pc : Int) + off = (tgt : Int)) (kt : x < y → zTr g M R ce sl tgt lv rest w Post) (kf : ¬ x < y → zTr g M R ce sl (pc + 3) lv rest w Post) : zTr g M R ce sl pc lv (.int y :: .int x :: rest) w Post :=
  fun p e s m args below meth c H locs ls C hW hS hl => lv_icmp_lt C.1 C.2.1 d ht (fun h => kt h p e s m args below meth c H locs ls C hW hS hl) (fun h => kf h p e s m args below meth c H locs ls C hW hS hl)
theorem z_if_ge {x : Int32} {off : Int} {tgt : Nat} (d : decode M.2.1 pc = .ok (.ifCond .ge off, 3)) (ht : (pc : Int) + off = (tgt : Int)) (kt : 0 ≤ x → zTr g M R ce sl tgt lv rest w Post) (kf : ¬ 0 ≤ x → zTr g M R ce sl (pc + 3) lv rest w Post) : zTr g M R ce sl pc lv (.int x :: rest) w Post :=
  fun p e s m args below meth c H locs ls C hW hS hl => lv_if_ge C.1 C.2.1 d ht (fun h => kt h p e s m args below meth c H locs ls C hW hS hl) (fun h => kf h p e s m args below meth c H locs ls C hW hS hl)
theorem z_icmp_ge {x y : Int32} {off : Int} {tgt : Nat} (d : decode M.2.1 pc = .ok (.if_icmp .ge off, 3)) (ht : (pc : Int) + off = (tgt : Int)) (kt : y ≤ x → zTr g M R ce sl tgt lv rest w Post) (kf : ¬ y ≤ x → zTr g M R ce sl (pc + 3) lv rest w Post) : zTr g M R ce sl pc lv (.int y :: .int x :: rest) w Post :=
  fun p e s m args below meth c H locs ls C hW hS hl => lv_icmp_ge C.1 C.2.1 d ht (fun h => kt h p e s m args below meth c H locs ls C hW hS hl) (fun h => kf h p e s m args below meth c H locs ls C hW hS hl)
theorem z_if_gt {x : Int32} {off : Int} {tgt : Nat} (d : decode M.2.1 pc = .ok (.ifCond .gt off, 3)) (ht : (pc : Int) + off = (tgt : Int)) (kt : 0 < x → zTr g M R ce sl tgt lv rest w Post) (kf : ¬ 0 < x → zTr g M R ce sl (pc + 3) lv rest w Post) : zTr g M R ce sl pc lv (.int x :: rest) w Post :=
  fun p e s m args below meth c H locs ls C hW hS hl => lv_if_gt C.1 C.2.1 d ht (fun h => kt h p e s m args below meth c H locs ls C hW hS hl) (fun h => kf h p e s m args below meth c H locs ls C hW hS hl)
theorem z_icmp_gt {x y : Int32} {off : Int} {tgt : Nat} (d : decode M.2.1 pc = .ok (.if_icmp .gt off, 3)) (ht : (pc : Int) + off = (tgt : Int)) (kt : y < x → zTr g M R ce sl tgt lv rest w Post) (kf : ¬ y < x → zTr g M R ce sl (pc + 3) lv rest w Post) : zTr g M R ce sl pc lv (.int y :: .int x :: rest) w Post :=
  fun p e s m args below meth c H locs ls C hW hS hl => lv_icmp_gt C.1 C.2.1 d ht (fun h => kt h p e s m args below meth c H locs ls C hW hS hl) (fun h => kf h p e s m args below meth c H locs ls C hW hS hl)
theorem z_if_le {x : Int32} {off : Int} {tgt : Nat} (d : decode M.2.1 pc = .ok (.ifCond .le off, 3)) (ht : (pc : Int) + off = (tgt : Int)) (kt : x ≤ 0 → zTr g M R ce sl tgt lv rest w Post) (kf : ¬ x ≤ 0 → zTr g M R ce sl (pc + 3) lv rest w Post) : zTr g M R ce sl pc lv (.int x :: rest) w Post :=
  fun p e s m args below meth c H locs ls C hW hS hl => lv_if_le C.1 C.2.1 d ht (fun h => kt h p e s m args below meth c H locs ls C hW hS hl) (fun h => kf h p e s m args below meth c H locs ls C hW hS hl)
theorem z_icmp_le {x y : Int32} {off : Int} {tgt : Nat} (d : decode M.2.1 pc = .ok (.if_icmp .le off, 3)) (ht : (pc : Int) + off = (tgt : Int)) (kt : x ≤ y → zTr g M R ce sl tgt lv rest w Post) (kf : ¬ x ≤ y → zTr g M R ce sl (pc + 3) lv rest w Post) : zTr g M R ce sl pc lv (.int y :: .int x :: rest) w Post :=
  fun p e s m args below meth c H locs ls C hW hS hl => lv_icmp_le C.1 C.2.1 d ht (fun h => kt h p e s m args below meth c H locs ls C hW hS hl) (fun h => kf h p e s m args below meth c H locs ls C hW hS hl)
theorem z_acmp_eq {rx ry : Option Nat} {off : Int} {tgt : Nat} (d : decode M.2.1 pc = .ok (.if_acmp .eq off, 3)) (ht : (pc : Int) + off = (tgt : Int)) (kt : rx = ry → zTr g M R ce sl tgt lv rest w Post) (kf : ¬ rx = ry → zTr g M R ce sl (pc + 3) lv rest w Post) : zTr g M R ce sl pc lv (va_rf ry :: va_rf rx :: rest) w Post :=
  fun p e s m args below meth c H locs ls C hW hS hl => lv_acmp_eq C.1 C.2.1 d ht (fun h => kt h p e s m args below meth c H locs ls C hW hS hl) (fun h => kf h p e s m args below meth c H locs ls C hW hS hl)
theorem z_acmp_ne {rx ry : Option Nat} {off : Int} {tgt : Nat} (d : decode M.2.1 pc = .ok (.if_acmp .ne off, 3)) (ht : (pc : Int) + off = (tgt : Int)) (kt : ¬ rx = ry → zTr g M R ce sl tgt lv rest w Post) (kf : rx = ry → zTr g M R ce sl (pc + 3) lv rest w Post) : zTr g M R ce sl pc lv (va_rf ry :: va_rf rx :: rest) w Post :=
  fun p e s m args below meth c H locs ls C hW hS hl => lv_acmp_ne C.1 C.2.1 d ht (fun h => kt h p e s m args below meth c H locs ls C hW hS hl) (fun h => kf h p e s m args below meth c H locs ls C hW hS hl)
theorem z_ifnonnull {x : Nat} {off : Int} {tgt : Nat} (d : decode M.2.1 pc = .ok (.ifnonnull off, 3)) (ht : (pc : Int) + off = (tgt : Int)) (k : zTr g M R ce sl (tgt) lv (rest) w Post) : zTr g M R ce sl pc lv (.ref x :: rest) w Post :=
  fun p e s m args below meth c H locs ls C hW hS hl => lv_ifnonnull C.1 C.2.1 d ht (k p e s m args below meth c H locs ls C hW hS hl)
theorem z_ifnull {x : Nat} {off : Int} (d : decode M.2.1 pc = .ok (.ifnull off, 3)) (k : zTr g M R ce sl (pc + 3) lv (rest) w Post) : zTr g M R ce sl pc lv (.ref x :: rest) w Post :=
  fun p e s m args below meth c H locs ls C hW hS hl => lv_ifnull C.1 C.2.1 d (k p e s m args below meth c H locs ls C hW hS hl)
theorem z_ifnonnullN {off : Int} (d : decode M.2.1 pc = .ok (.ifnonnull off, 3)) (k : zTr g M R ce sl (pc + 3) lv (rest) w Post) : zTr g M R ce sl pc lv (.null :: rest) w Post :=
  fun p e s m args below meth c H locs ls C hW hS hl => lv_ifnonnullN C.1 C.2.1 d (k p e s m args below meth c H locs ls C hW hS hl)
theorem z_ifnullN {off : Int} {tgt : Nat} (d : decode M.2.1 pc = .ok (.ifnull off, 3)) (ht : (pc : Int) + off = (tgt : Int)) (k : zTr g M R ce sl (tgt) lv (rest) w Post) : zTr g M R ce sl pc lv (.null :: rest) w Post :=
  fun p e s m args below meth c H locs ls C hW hS hl => lv_ifnullN C.1 C.2.1 d ht (k p e s m args below meth c H locs ls C hW hS hl)
theorem z_tableIn {dflt lo hi : Int} {offs : Array Int} {len : Nat} {x : Int32} {off : Int} {tgt : Nat} (d : decode M.2.1 pc = .ok (.tableswitch dflt lo hi offs, len)) (h1 : ¬ x.toInt < lo) (h2 : ¬ hi < x.toInt) (ho : offs[(x.toInt - lo).toNat]? = some off) (ht : (pc : Int) + off = (tgt : Int)) (k : zTr g M R ce sl (tgt) lv (rest) w Post) : zTr g M R ce sl pc lv (.int x :: rest) w Post :=
  fun p e s m args below meth c H locs ls C hW hS hl => lv_tableIn C.1 C.2.1 d h1 h2 ho ht (k p e s m args below meth c H locs ls C hW hS hl)
theorem z_tableOut {dflt lo hi : Int} {offs : Array Int} {len : Nat} {x : Int32} {tgt : Nat} (d : decode M.2.1 pc = .ok (.tableswitch dflt lo hi offs, len)) (h : x.toInt < lo ∨ hi < x.toInt) (ht : (pc : Int) + dflt = (tgt : Int)) (k : zTr g M R ce sl (tgt) lv (rest) w Post) : zTr g M R ce sl pc lv (.int x :: rest) w Post :=
  fun p e s m args below meth c H locs ls C hW hS hl => lv_tableOut C.1 C.2.1 d h ht (k p e s m args below meth c H locs ls C hW hS hl)
theorem z_vret  (d : decode M.2.1 pc = .ok (.return_, 1)) (hr : M.2.2.2 = none) (hc : ce ≤ R.cells) (hs : sl ≤ R.slots) (hP : Post (.inl (none)) w) : zTr g M R ce sl pc lv [] w Post :=
  fun p e s m args below meth c H locs ls C hW hS hl => vx_ret (W.widen hc hs (W.vret C.1 C.2.1 (C.2.2.2.2.2.1.trans hr) (fun t ht _ => ⟨⟨_, w, rfl, hP, by rw [ht]; exact hW⟩, hS.F ht⟩) hS.2.2 d C.2.2.2.2.2.2.1))
theorem z_iret {v : Int32} (d : decode M.2.1 pc = .ok (.ireturn, 1)) (hr : M.2.2.2 = some .int) (hc : ce ≤ R.cells) (hs : sl ≤ R.slots) (hP : Post (.inl (some (.int v))) w) : zTr g M R ce sl pc lv [.int v] w Post :=
  fun p e s m args below meth c H locs ls C hW hS hl => vx_ret (W.widen hc hs (W.iret C.1 C.2.1 (C.2.2.2.2.2.1.trans hr) (fun t ht _ => ⟨⟨_, w, rfl, hP, by rw [ht]; exact hW⟩, hS.F ht⟩) hS.2.2 d C.2.2.2.2.2.2.1))
theorem z_zret {v : Int32} {ty : FieldType} (d : decode M.2.1 pc = .ok (.ireturn, 1)) (hr : M.2.2.2 = some ty) (hc : ce ≤ R.cells) (hs : sl ≤ R.slots) (hn : narrow ty (.int v) = .int v) (hP : Post (.inl (some (.int v))) w) : zTr g M R ce sl pc lv [.int v] w Post :=
  fun p e s m args below meth c H locs ls C hW hS hl => vx_ret (W.widen hc hs (W.zret C.1 C.2.1 (C.2.2.2.2.2.1.trans hr) hn (fun t ht _ => ⟨⟨_, w, rfl, hP, by rw [ht]; exact hW⟩, hS.F ht⟩) hS.2.2 d C.2.2.2.2.2.2.1))
theorem z_lret {v : Int64} (d : decode M.2.1 pc = .ok (.lreturn, 1)) (hr : M.2.2.2 = some .long) (hc : ce ≤ R.cells) (hs : sl ≤ R.slots) (hP : Post (.inl (some (.long v))) w) : zTr g M R ce sl pc lv [.long v] w Post :=
  fun p e s m args below meth c H locs ls C hW hS hl => vx_ret (W.widen hc hs (W.lret C.1 C.2.1 (C.2.2.2.2.2.1.trans hr) (fun t ht _ => ⟨⟨_, w, rfl, hP, by rw [ht]; exact hW⟩, hS.F ht⟩) hS.2.2 d C.2.2.2.2.2.2.1))
theorem z_dret {v : UInt64} (d : decode M.2.1 pc = .ok (.dreturn, 1)) (hr : M.2.2.2 = some .double) (hc : ce ≤ R.cells) (hs : sl ≤ R.slots) (hP : Post (.inl (some (.double v))) w) : zTr g M R ce sl pc lv [.double v] w Post :=
  fun p e s m args below meth c H locs ls C hW hS hl => vx_ret (W.widen hc hs (W.dret C.1 C.2.1 (C.2.2.2.2.2.1.trans hr) (fun t ht _ => ⟨⟨_, w, rfl, hP, by rw [ht]; exact hW⟩, hS.F ht⟩) hS.2.2 d C.2.2.2.2.2.2.1))
theorem z_fret {v : UInt32} (d : decode M.2.1 pc = .ok (.freturn, 1)) (hr : M.2.2.2 = some .float) (hc : ce ≤ R.cells) (hs : sl ≤ R.slots) (hP : Post (.inl (some (.float v))) w) : zTr g M R ce sl pc lv [.float v] w Post :=
  fun p e s m args below meth c H locs ls C hW hS hl => vx_ret (W.widen hc hs (W.fret C.1 C.2.1 (C.2.2.2.2.2.1.trans hr) (fun t ht _ => ⟨⟨_, w, rfl, hP, by rw [ht]; exact hW⟩, hS.F ht⟩) hS.2.2 d C.2.2.2.2.2.2.1))
theorem z_aret {v : Value} {rt : FieldType} (d : decode M.2.1 pc = .ok (.areturn, 1)) (hr : M.2.2.2 = some rt) (hc : ce ≤ R.cells) (hs : sl ≤ R.slots) (hrt : (∃ n, rt = .object n) ∨ ∃ t, rt = .array t) (hv : v = .null ∨ ∃ a, v = .ref a) (hP : Post (.inl (some v)) w) : zTr g M R ce sl pc lv [v] w Post :=
  fun p e s m args below meth c H locs ls C hW hS hl => vx_ret (W.widen hc hs (W.aret C.1 C.2.1 (C.2.2.2.2.2.1.trans hr) hrt hv (fun t ht _ => ⟨⟨_, w, rfl, hP, by rw [ht]; exact hW⟩, hS.F ht⟩) hS.2.2 d C.2.2.2.2.2.2.1))
/-- a field's link: the class by its place in vwCl, the field by its place there -/
def zFL (own : String) (idx ci k : Nat) : Prop := ∃ (C : String) (T : u_T) (N : Nat), vwCl[ci]? = some (C, T, N) ∧ k < N ∧ (∀ w ∈ u_ws C T N, w ∈ ztb) ∧ Cond.fieldLink own idx (T k).1 (T k).2.1 (T k).2.2.1 ∈ ztb
def zFLN (own : String) (idx ci k : Nat) : Prop := ∃ (C : String) (T : u_T) (N : Nat) (host : String), vwCl[ci]? = some (C, T, N) ∧ k < N ∧ (∀ w ∈ u_ws C T N, w ∈ ztb) ∧ Cond.fieldLinkNest own idx (T k).1 (T k).2.1 (T k).2.2.1 host ∈ lw_tbl
def zFT (ci k : Nat) (ty : FieldType) : Prop := ∃ (C : String) (T : u_T) (N : Nat) (ty0 : Nat → FieldType), vwCl[ci]? = some (C, T, N) ∧ (∀ k, k < N → parseFieldDescriptor (T k).2.2.1 = some (ty0 k)) ∧ (∀ a, a < N → ∀ b, b < N → a ≠ b → (T a).2.1 ≠ (T b).2.1) ∧ (T k).2.2.2 = false ∧ parseFieldDescriptor (T k).2.2.1 = some ty
theorem z_getf {own : String} {idx ci k j : Nat} {fs : List Value} {v : Value} (d : decode M.2.1 pc = .ok (.getfield idx, 3)) (L : zFL own idx ci k) (ho : own = M.1.cls) (hj : j < zn g) (hw : w j = .inr (ci, fs)) (hv : fs[k]? = some v)
    (kk : zTr g M R ce sl (pc + 3) lv (v :: rest) w Post) : zTr g M R ce sl pc lv (.ref (za g j) :: rest) w Post := by
  intro p e s m args below meth c H locs ls C hW hS hl
  obtain ⟨CC, T, N, hc, hk, hin, hlk⟩ := L
  subst ho
  refine va_get C.1 C.2.1 C.2.2.2.2.1 hin C.2.2.2.1 (C.2.2.2.2.2.2.2.2.2.1.moved C.2.2.2.2.2.2.2.2.1.1.alike) hW j (by rw [zL_get hj, hw]) hc k hk (C.2.2.2.2.1 _ hlk) (fun x h => h) hv d (kk p e s m args below meth c H locs ls C hW hS hl)
theorem z_getfN {own : String} {idx ci k j : Nat} {fs : List Value} {v : Value} (d : decode M.2.1 pc = .ok (.getfield idx, 3)) (L : zFLN own idx ci k) (ho : own = M.1.cls) (hj : j < zn g) (hw : w j = .inr (ci, fs)) (hv : fs[k]? = some v)
    (kk : zTr g M R ce sl (pc + 3) lv (v :: rest) w Post) : zTr g M R ce sl pc lv (.ref (za g j) :: rest) w Post := by
  intro p e s m args below meth c H locs ls C hW hS hl
  obtain ⟨CC, T, N, host, hc, hk, hin, hlk⟩ := L
  subst ho
  refine va_getN C.1 C.2.1 C.2.2.2.2.1 hin C.2.2.2.1 (C.2.2.2.2.2.2.2.2.2.1.moved C.2.2.2.2.2.2.2.2.1.1.alike) hW j (by rw [zL_get hj, hw]) hc k hk (va_Nw.use rfl (va_Nw.warmF C.2.2.2.2.2.2.2.2.1.1 (C.2.2.2.2.2.2.2.2.2.2.2.2 _ hlk rfl))) (fun x h => h) hv d (kk p e s m args below meth c H locs ls C hW hS hl)
theorem z_putf {own : String} {idx ci k j : Nat} {fs : List Value} {v : Value} {ty : FieldType} (d : decode M.2.1 pc = .ok (.putfield idx, 3)) (L : zFL own idx ci k) (F : zFT ci k ty) (ho : own = M.1.cls) (hj : j < zn g) (hw : w j = .inr (ci, fs)) (hn : narrow ty v = v) (hfit : fits ty v = true) (hlen : k < fs.length)
    (kk : zTr g M R ce sl (pc + 3) lv rest (va_up w j (.inr (ci, fs.set k v))) Post) : zTr g M R ce sl pc lv (v :: .ref (za g j) :: rest) w Post := by
  intro p e s m args below meth c H locs ls C hW hS hl
  obtain ⟨CC, T, N, hc, hk, hin, hlk⟩ := L
  obtain ⟨CC2, T2, N2, ty0, hc2, hty, hnm, hfin, hd⟩ := F
  cases Option.some.inj (hc.symm.trans hc2)
  subst ho
  refine va_put C.1 C.2.1 C.2.2.2.2.1 hin ty0 hty hnm C.2.2.2.1 (C.2.2.2.2.2.2.2.2.2.1.moved C.2.2.2.2.2.2.2.2.1.1.alike) hW (zD_ok C.2.2.2.2.2.2.2.2.2 w) hS j (by rw [zL_get hj, hw]) hc k hk (C.2.2.2.2.1 _ hlk) (fun x h => h) hfin hd hn hfit hlen d (fun H1 locs1 hP1 _ hS1 => ?_)
  rw [zL_set hj] at hP1
  exact kk p e s m args below meth c H1 locs1 ls C hP1 hS1 hl
theorem z_putfN {own : String} {idx ci k j : Nat} {fs : List Value} {v : Value} {ty : FieldType} (d : decode M.2.1 pc = .ok (.putfield idx, 3)) (L : zFLN own idx ci k) (F : zFT ci k ty) (ho : own = M.1.cls) (hj : j < zn g) (hw : w j = .inr (ci, fs)) (hn : narrow ty v = v) (hfit : fits ty v = true) (hlen : k < fs.length)
    (kk : zTr g M R ce sl (pc + 3) lv rest (va_up w j (.inr (ci, fs.set k v))) Post) : zTr g M R ce sl pc lv (v :: .ref (za g j) :: rest) w Post := by
  intro p e s m args below meth c H locs ls C hW hS hl
  obtain ⟨CC, T, N, host, hc, hk, hin, hlk⟩ := L
  obtain ⟨CC2, T2, N2, ty0, hc2, hty, hnm, hfin, hd⟩ := F
  cases Option.some.inj (hc.symm.trans hc2)
  subst ho
  refine va_putN C.1 C.2.1 C.2.2.2.2.1 hin ty0 hty hnm C.2.2.2.1 (C.2.2.2.2.2.2.2.2.2.1.moved C.2.2.2.2.2.2.2.2.1.1.alike) hW (zD_ok C.2.2.2.2.2.2.2.2.2 w) hS j (by rw [zL_get hj, hw]) hc k hk (va_Nw.use rfl (va_Nw.warmF C.2.2.2.2.2.2.2.2.1.1 (C.2.2.2.2.2.2.2.2.2.2.2.2 _ hlk rfl))) (fun x h => h) hfin hd hn hfit hlen d (fun H1 locs1 hP1 _ hS1 => ?_)
  rw [zL_set hj] at hP1
  exact kk p e s m args below meth c H1 locs1 ls C hP1 hS1 hl
theorem z_iald {j N : Nat} {f : Nat → Int32} {i : Int32} (d : decode M.2.1 pc = .ok (.iaload, 1)) (hj : j < zn g) (hw : w j = .inl (zc g 0, N, .inl f)) (hin : vp_in i N)
    (kk : zTr g M R ce sl (pc + 1) lv (.int (f i.toNatClampNeg) :: rest) w Post) : zTr g M R ce sl pc lv (.int i :: .ref (za g j) :: rest) w Post :=
  fun p e s m args below meth c H locs ls C hW hS hl => va_iald C.1 C.2.1 (C.2.2.2.2.2.2.2.2.2.1.moved C.2.2.2.2.2.2.2.2.1.1.alike) hW j 0 (by rw [zL_get hj, hw]) rfl hin d (kk p e s m args below meth c H locs ls C hW hS hl)
theorem z_cald {j N : Nat} {f : Nat → Int32} {i : Int32} (d : decode M.2.1 pc = .ok (.caload, 1)) (hj : j < zn g) (hw : w j = .inl (zc g 1, N, .inl f)) (hin : vp_in i N)
    (kk : zTr g M R ce sl (pc + 1) lv (.int (f i.toNatClampNeg) :: rest) w Post) : zTr g M R ce sl pc lv (.int i :: .ref (za g j) :: rest) w Post :=
  fun p e s m args below meth c H locs ls C hW hS hl => va_cald C.1 C.2.1 (C.2.2.2.2.2.2.2.2.2.1.moved C.2.2.2.2.2.2.2.2.1.1.alike) hW j 1 (by rw [zL_get hj, hw]) rfl hin d (kk p e s m args below meth c H locs ls C hW hS hl)
theorem z_lald {j N : Nat} {f : Nat → Int64} {i : Int32} (d : decode M.2.1 pc = .ok (.laload, 1)) (hj : j < zn g) (hw : w j = .inl (zc g 2, N, .inr (.inl f))) (hin : vp_in i N)
    (kk : zTr g M R ce sl (pc + 1) lv (.long (f i.toNatClampNeg) :: rest) w Post) : zTr g M R ce sl pc lv (.int i :: .ref (za g j) :: rest) w Post :=
  fun p e s m args below meth c H locs ls C hW hS hl => va_lald C.1 C.2.1 (C.2.2.2.2.2.2.2.2.2.1.moved C.2.2.2.2.2.2.2.2.1.1.alike) hW j 2 (by rw [zL_get hj, hw]) rfl hin d (kk p e s m args below meth c H locs ls C hW hS hl)
theorem z_dald {j N : Nat} {f : Nat → UInt64} {i : Int32} (d : decode M.2.1 pc = .ok (.daload, 1)) (hj : j < zn g) (hw : w j = .inl (zc g 3, N, .inr (.inr (.inr (.inl f))))) (hin : vp_in i N)
    (kk : zTr g M R ce sl (pc + 1) lv (.double (f i.toNatClampNeg) :: rest) w Post) : zTr g M R ce sl pc lv (.int i :: .ref (za g j) :: rest) w Post :=
  fun p e s m args below meth c H locs ls C hW hS hl => va_dald C.1 C.2.1 (C.2.2.2.2.2.2.2.2.2.1.moved C.2.2.2.2.2.2.2.2.1.1.alike) hW j 3 (by rw [zL_get hj, hw]) rfl hin d (kk p e s m args below meth c H locs ls C hW hS hl)
theorem z_aald {j N t0 : Nat} {Cn : String} {cA : ClassId} {f : Nat → Option Nat} {i : Int32} (d : decode M.2.1 pc = .ok (.aaload, 1)) (hj : j < zn g) (ht : (ztys g)[t0]? = some (cA, .object Cn)) (hw : w j = .inl (cA, N, .inr (.inr (.inr (.inr f))))) (hin : vp_in i N)
    (kk : zTr g M R ce sl (pc + 1) lv (va_rf (f i.toNatClampNeg) :: rest) w Post) : zTr g M R ce sl pc lv (.int i :: .ref (za g j) :: rest) w Post :=
  fun p e s m args below meth c H locs ls C hW hS hl => va_aldq C.1 C.2.1 (C.2.2.2.2.2.2.2.2.2.1.moved C.2.2.2.2.2.2.2.2.1.1.alike) hW j t0 (by rw [zL_get hj, hw]) ht hin d (kk p e s m args below meth c H locs ls C hW hS hl)
theorem z_iast {j N : Nat} {f : Nat → Int32} {i x : Int32} (d : decode M.2.1 pc = .ok (.iastore, 1)) (hj : j < zn g) (hw : w j = .inl (zc g 0, N, .inl f)) (hin : vp_in i N)
    (kk : zTr g M R ce sl (pc + 1) lv rest (va_up w j (.inl (zc g 0, N, .inl (upd f i.toNatClampNeg x)))) Post) : zTr g M R ce sl pc lv (.int x :: .int i :: .ref (za g j) :: rest) w Post := by
  intro p e s m args below meth c H locs ls C hW hS hl
  refine va_iast C.1 C.2.1 (C.2.2.2.2.2.2.2.2.2.1.moved C.2.2.2.2.2.2.2.2.1.1.alike) hW (zD_ok C.2.2.2.2.2.2.2.2.2 w) hS j 0 (by rw [zL_get hj, hw]) rfl hin d (fun H1 locs1 hP1 _ hS1 => ?_)
  rw [zL_set hj] at hP1
  exact kk p e s m args below meth c H1 locs1 ls C hP1 hS1 hl
theorem z_cast {j N : Nat} {f : Nat → Int32} {i x : Int32} (d : decode M.2.1 pc = .ok (.castore, 1)) (hj : j < zn g) (hw : w j = .inl (zc g 1, N, .inl f)) (hin : vp_in i N)
    (kk : zTr g M R ce sl (pc + 1) lv rest (va_up w j (.inl (zc g 1, N, .inl (upd f i.toNatClampNeg (vp_nar .char x))))) Post) : zTr g M R ce sl pc lv (.int x :: .int i :: .ref (za g j) :: rest) w Post := by
  intro p e s m args below meth c H locs ls C hW hS hl
  refine va_cast C.1 C.2.1 (C.2.2.2.2.2.2.2.2.2.1.moved C.2.2.2.2.2.2.2.2.1.1.alike) hW (zD_ok C.2.2.2.2.2.2.2.2.2 w) hS j 1 (by rw [zL_get hj, hw]) rfl hin d (fun H1 locs1 hP1 _ hS1 => ?_)
  rw [zL_set hj] at hP1
  exact kk p e s m args below meth c H1 locs1 ls C hP1 hS1 hl
theorem z_last {j N : Nat} {f : Nat → Int64} {i : Int32} {x : Int64} (d : decode M.2.1 pc = .ok (.lastore, 1)) (hj : j < zn g) (hw : w j = .inl (zc g 2, N, .inr (.inl f))) (hin : vp_in i N)
    (kk : zTr g M R ce sl (pc + 1) lv rest (va_up w j (.inl (zc g 2, N, .inr (.inl (vp_updL f i.toNatClampNeg x))))) Post) : zTr g M R ce sl pc lv (.long x :: .int i :: .ref (za g j) :: rest) w Post := by
  intro p e s m args below meth c H locs ls C hW hS hl
  refine va_last C.1 C.2.1 (C.2.2.2.2.2.2.2.2.2.1.moved C.2.2.2.2.2.2.2.2.1.1.alike) hW (zD_ok C.2.2.2.2.2.2.2.2.2 w) hS j 2 (by rw [zL_get hj, hw]) rfl hin d (fun H1 locs1 hP1 _ hS1 => ?_)
  rw [zL_set hj] at hP1
  exact kk p e s m args below meth c H1 locs1 ls C hP1 hS1 hl
theorem z_dast {j N : Nat} {f : Nat → UInt64} {i : Int32} {x : UInt64} (d : decode M.2.1 pc = .ok (.dastore, 1)) (hj : j < zn g) (hw : w j = .inl (zc g 3, N, .inr (.inr (.inr (.inl f))))) (hin : vp_in i N)
    (kk : zTr g M R ce sl (pc + 1) lv rest (va_up w j (.inl (zc g 3, N, .inr (.inr (.inr (.inl (vf_upd f i.toNatClampNeg x))))))) Post) : zTr g M R ce sl pc lv (.double x :: .int i :: .ref (za g j) :: rest) w Post := by
  intro p e s m args below meth c H locs ls C hW hS hl
  refine va_dast C.1 C.2.1 (C.2.2.2.2.2.2.2.2.2.1.moved C.2.2.2.2.2.2.2.2.1.1.alike) hW (zD_ok C.2.2.2.2.2.2.2.2.2 w) hS j 3 (by rw [zL_get hj, hw]) rfl hin d (fun H1 locs1 hP1 _ hS1 => ?_)
  rw [zL_set hj] at hP1
  exact kk p e s m args below meth c H1 locs1 ls C hP1 hS1 hl
theorem z_alen {j t0 : Nat} {cA : ClassId} {x : vp_A} {ty : FieldType} {v : Int32} (d : decode M.2.1 pc = .ok (.arraylength, 1)) (hj : j < zn g) (ht : (ztys g)[t0]? = some (cA, ty)) (hw : w j = .inl (cA, x)) (hv : Int32.ofNat x.1 = v)
    (kk : zTr g M R ce sl (pc + 1) lv (.int v :: rest) w Post) : zTr g M R ce sl pc lv (.ref (za g j) :: rest) w Post :=
  fun p e s m args below meth c H locs ls C hW hS hl => va_alen C.1 C.2.1 (C.2.2.2.2.2.2.2.2.2.1.moved C.2.2.2.2.2.2.2.2.1.1.alike) hW j t0 (by rw [zL_get hj, hw]) ht hv d (kk p e s m args below meth c H locs ls C hW hS hl)
/-- what a method's entry has of the start, put at the method's own start -/
theorem zGI_A {g : zGT} {s : State} (h : zGI g s) : ∀ a : Nat, a < (zs g).heap.size → ¬ zA g a → s.heap[a]? = (zs g).heap[a]? := fun a ha _ => h.2.2 a ha
theorem z_gets {own C n ds : String} {idx : Nat} {v : Value} (d : decode M.2.1 pc = .ok (.getstatic idx, 3)) (hl : Cond.fieldLink own idx C n ds ∈ ztb) (ho : own = M.1.cls) (hZ : va_Z C n ds v (zA g) (zs g) (zs g).heap)
    (kk : zTr g M R ce sl (pc + 3) lv (v :: rest) w Post) : zTr g M R ce sl pc lv rest w Post := by
  intro p e s m args below meth c H locs ls C' hW hS hl'
  subst ho
  exact va_gets C'.1 C'.2.1 ((va_Z.moved C'.2.2.2.2.2.2.2.2.1.1.alike hZ).kept (zGI_A C'.2.2.2.2.2.2.2.2.1)) hS C'.2.2.2.1 (C'.2.2.2.2.1 _ hl) (fun x h => h) d (kk p e s m args below meth c H locs ls C' hW hS hl')
theorem z_getsN {own C n ds host : String} {idx : Nat} {v : Value} (d : decode M.2.1 pc = .ok (.getstatic idx, 3)) (hl : Cond.fieldLinkNest own idx C n ds host ∈ lw_tbl) (ho : own = M.1.cls) (hZ : va_Z C n ds v (zA g) (zs g) (zs g).heap)
    (kk : zTr g M R ce sl (pc + 3) lv (v :: rest) w Post) : zTr g M R ce sl pc lv rest w Post := by
  intro p e s m args below meth c H locs ls C' hW hS hl'
  subst ho
  exact va_getsN C'.1 C'.2.1 ((va_Z.moved C'.2.2.2.2.2.2.2.2.1.1.alike hZ).kept (zGI_A C'.2.2.2.2.2.2.2.2.1)) hS C'.2.2.2.1 (va_Nw.use rfl (va_Nw.warmF C'.2.2.2.2.2.2.2.2.1.1 (C'.2.2.2.2.2.2.2.2.2.2.2.2 _ hl rfl))) (fun x h => h) d (kk p e s m args below meth c H locs ls C' hW hS hl')
theorem zPc_blind {g : zGT} {As : List Value} {w : zW} : FrameBlind (zPc g As w) := fun _ _ _ _ h => h
theorem zGI_on {g : zGT} {s U : State} {H : Heap} {locs : List Loc} (h : zGI g s) (hS : va_S (zA g) s.heap H locs) (hU : U.heap = H) (hW : s.WarmedH U.vm) : zGI g U := by
  refine ⟨State.WarmedH.trans h.1 hW, ?_, fun q hq => ?_⟩
  · rw [hU]; exact Nat.le_trans h.2.1 hS.1
  · rw [hU, hS.2.1 q (Nat.lt_of_lt_of_le hq h.2.1) (fun z => Nat.lt_irrefl _ (Nat.lt_of_lt_of_le hq z))]
    exact h.2.2 q hq
/-- a call site: the callee's link and its code among the words -/
def zLV (own : String) (idx : Nat) (M2 : zMD) (n : Nat) : Prop := (∀ w ∈ wsV own idx M2.1.cls M2.1 [.code M2.1 M2.2.1 M2.2.2.1 M2.2.2.2], w ∈ ztb) ∧ (M2.1.cls ≠ "java/lang/invoke/MethodHandle" ∧ M2.1.cls ≠ "java/lang/invoke/VarHandle" ∧ (parseMethodDescriptor M2.1.desc).map (fun d => d.parameters.length) = some n)
def zLS (own : String) (idx : Nat) (M2 : zMD) (n : Nat) : Prop := (∀ w ∈ wsS own idx M2.1 [.code M2.1 M2.2.1 M2.2.2.1 M2.2.2.2], w ∈ ztb) ∧ (M2.1.cls ≠ "java/lang/invoke/MethodHandle" ∧ M2.1.cls ≠ "java/lang/invoke/VarHandle" ∧ (parseMethodDescriptor M2.1.desc).map (fun d => d.parameters.length) = some n)
theorem zLV_in {own : String} {idx n : Nat} {M2 : zMD} (L : zLV own idx M2 n) : GoodIn ztb (wsV own idx M2.1.cls M2.1 (.code M2.1 M2.2.1 M2.2.2.1 M2.2.2.2 :: ztb)) := ztb_good (fun w h => by
  unfold wsV at h
  rcases List.mem_append.mp h with h | h
  · exact L.1 w (by unfold wsV; exact List.mem_append_left _ h)
  · rcases List.mem_cons.mp h with h | h
    · exact L.1 w (by unfold wsV; exact List.mem_append_right _ (by rw [h]; exact List.mem_cons_self))
    · exact h)
theorem zLS_in {own : String} {idx n : Nat} {M2 : zMD} (L : zLS own idx M2 n) : GoodIn ztb (wsS own idx M2.1 (.code M2.1 M2.2.1 M2.2.2.1 M2.2.2.2 :: ztb)) := ztb_good (fun w h => by
  unfold wsS at h
  rcases List.mem_append.mp h with h | h
  · exact L.1 w (by unfold wsS; exact List.mem_append_left _ h)
  · rcases List.mem_cons.mp h with h | h
    · exact L.1 w (by unfold wsS; exact List.mem_append_right _ (by rw [h]; exact List.mem_cons_self))
    · exact h)
theorem z_run {R2 : Room} {Post1 : zP} {a : Array Value} (kx : ∀ E w1, Post1 (.inr E) w1 → Post (.inr E) w1) (hce : ce + R2.cells ≤ R.cells) (hsl : sl + R2.slots ≤ R.slots)
    (kk : ∀ v w1, Post1 (.inl v) w1 → zTr g M R (ce + R2.cells) (sl + R2.slots) (pc + 3) lv (v.toList ++ rest) w1 Post)
    {p : Program} {e : Env} {s : State} {m : MethodId} {args : Array Value} {below : List Frame} {meth : Method} {c : Code} {H : Heap} {locs : List Loc} {ls : Array Slot}
    (C : zCx g M p s m args meth c) (hS : va_S (zA g) s.heap H locs) (hl : lv_has ls M.2.2.1 lv)
    (hr : vx_Run p (zl g) e R s m args below meth c H locs ce sl R2.cells R2.slots (F0 m pc ls st) rest (zQc g Post1 a) (zXc g Post1) (zA g)) :
    W p (zl g) e R s m args below meth c H locs ce sl (vx_MQ below (zQc g Post) (zXc g Post) args s R.cells R.slots (zA g)) (F0 m pc ls st) := by
  intro T hT X
  rcases hr T hT X with ⟨v, st₀, t, T', L, h0, X', hL, e1, e2, ⟨⟨v', w1, hv, hp1, hP1⟩, hF⟩, st1⟩ | ⟨q, st₀, t, T', L, E, cl, h0, X', hL, e1, e2, ⟨w1, hp1, hP1, hF⟩, hce1, hcv, hcl, st1⟩
  · cases hv
    obtain ⟨k1, k2, k3⟩ := vx_keep (A1 := zA g) h0 e1 hS (fun q _ h => h) (fun q h => h) hL hF
    obtain ⟨t2, a1, b1⟩ := kk v w1 hp1 p e s m args below meth c T'.heap (locs ++ L) ls C (by rw [e1]; exact hP1) k3 hl T' rfl X'
    exact ⟨t2, st1 t2 a1, b1⟩
  · obtain ⟨k1, k2, k3⟩ := vx_keep (A1 := zA g) h0 e1 hS (fun q _ h => h) (fun q h => h) hL hF
    have := vx_out (p := p) (l := zl g) (e := e) (R := R) (s := s) (m := m) (args := args) (below := below) (meth := meth) (c := c) (H := T'.heap) (locs := locs ++ L) (cells := ce + R2.cells) (slots := sl + R2.slots) (free := zA g) (ls := ls) (rest := rest) (Qc := zQc g Post) (XC := zXc g Post) (pc := pc) (E := E) (ce := cl) (q := q) (mc := R.cells) (ms := R.slots)
      (fun x hx => (C.2.2.2.2.2.2.2.1 x hx).elim) C.2.2.2.2.2.2.1 (by rw [e1]; exact hce1) hcv hcl (fun t9 ht9 _ => ⟨w1, kx E w1 hp1, by rw [ht9, e1]; exact hP1, va_S.F k3 ht9⟩) k3.2.2 hce hsl
    obtain ⟨t2, a1, b1⟩ := this T' rfl X'
    exact ⟨t2, st1.trans a1, b1⟩
theorem z_callV {M2 : zMD} {R2 : Room} {Post1 : zP} {As : List Value} {n idx b ci : Nat} {fs : List Value} {q : vw_C} {own : String} (d : decode M.2.1 pc = .ok (.invokevirtual idx, 3)) (L : zLV own idx M2 n) (ho : own = M.1.cls)
    (hR : (R2.frames + 1 ≤ R.frames ∧ 8 + (M2.2.2.1 + 11) + R2.locals ≤ R.locals) ∧ ce + R2.cells ≤ R.cells ∧ sl + R2.slots ≤ R.slots) (hb : b < zn g) (hw : w b = .inr (ci, fs)) (hcl : vwCl[ci]? = some q) (hq : q.1 = M2.1.cls) (hn : As.length = n)
    (hrest : (rest.map fun v => v.category).sum ≤ 8) (hst : st = As.reverse ++ .ref (za g b) :: rest) (hc : zCt g M2 R2 (.ref (za g b) :: As) w Post1) (kx : ∀ E w1, Post1 (.inr E) w1 → Post (.inr E) w1)
    (kk : ∀ v w1, Post1 (.inl v) w1 → zTr g M R (ce + R2.cells) (sl + R2.slots) (pc + 3) lv (v.toList ++ rest) w1 Post) : zTr g M R ce sl pc lv st w Post := by
  intro p e s m args below meth c H locs ls C hW hS hl
  subst ho
  refine z_run kx hR.2.1 hR.2.2 kk C hS hl (vx_runV (As := As) (b := za g b) ⟨C.1, C.2.1, C.2.2.1, C.2.2.2.1, C.2.2.2.2.1⟩ hc (cwV n C.2.2.2.2.1 (zLV_in L) rfl rfl rfl ⟨rfl, L.2⟩ hR.1) ⟨zPc_blind, ?_, fun U hU hWm => ⟨rfl, zGI_on C.2.2.2.2.2.2.2.2.1 hS hU hWm, by rw [hU]; exact hW⟩⟩ rfl hn hl.1 hst (by simpa using hrest) d hR.2)
  rw [← hq]
  exact va_recv (C.2.2.2.2.2.2.2.2.2.1.moved C.2.2.2.2.2.2.2.2.1.1.alike) hW hcl (by rw [zL_get hb, hw])
theorem z_callS {M2 : zMD} {R2 : Room} {Post1 : zP} {As : List Value} {n idx : Nat} {own : String} (d : decode M.2.1 pc = .ok (.invokestatic idx, 3)) (L : zLS own idx M2 n) (ho : own = M.1.cls) (ho2 : M2.1.cls = own)
    (hR : (R2.frames + 1 ≤ R.frames ∧ 8 + (M2.2.2.1 + 11) + R2.locals ≤ R.locals) ∧ ce + R2.cells ≤ R.cells ∧ sl + R2.slots ≤ R.slots) (hn : As.length = n)
    (hrest : (rest.map fun v => v.category).sum ≤ 8) (hst : st = As.reverse ++ rest) (hc : zCt g M2 R2 As w Post1) (kx : ∀ E w1, Post1 (.inr E) w1 → Post (.inr E) w1)
    (kk : ∀ v w1, Post1 (.inl v) w1 → zTr g M R (ce + R2.cells) (sl + R2.slots) (pc + 3) lv (v.toList ++ rest) w1 Post) : zTr g M R ce sl pc lv st w Post := by
  intro p e s m args below meth c H locs ls C hW hS hl
  subst ho
  exact z_run kx hR.2.1 hR.2.2 kk C hS hl (vx_runS (As := As) ⟨C.1, C.2.1, C.2.2.1, C.2.2.2.1, C.2.2.2.2.1⟩ hc (cwS n C.2.2.2.2.1 (zLS_in L) rfl rfl rfl ⟨ho2, L.2⟩ hR.1) ⟨zPc_blind, fun U hU hWm => ⟨rfl, zGI_on C.2.2.2.2.2.2.2.2.1 hS hU hWm, by rw [hU]; exact hW⟩⟩ rfl hn hl.1 hst (by simpa using hrest) d hR.2)
/-- a callee that returns one value, the world as it was or as told -/
theorem z_callV1 {M2 : zMD} {R2 : Room} {As : List Value} {n idx b ci : Nat} {fs : List Value} {q : vw_C} {own : String} {v : Option Value} {w1 : zW} (d : decode M.2.1 pc = .ok (.invokevirtual idx, 3)) (L : zLV own idx M2 n) (ho : own = M.1.cls)
    (hR : (R2.frames + 1 ≤ R.frames ∧ 8 + (M2.2.2.1 + 11) + R2.locals ≤ R.locals) ∧ ce + R2.cells ≤ R.cells ∧ sl + R2.slots ≤ R.slots) (hb : b < zn g) (hw : w b = .inr (ci, fs)) (hcl : vwCl[ci]? = some q) (hq : q.1 = M2.1.cls) (hn : As.length = n)
    (hrest : (rest.map fun v => v.category).sum ≤ 8) (hst : st = As.reverse ++ .ref (za g b) :: rest) (hc : zCt g M2 R2 (.ref (za g b) :: As) w (fun o w' => o = .inl v ∧ w' = w1))
    (kk : zTr g M R (ce + R2.cells) (sl + R2.slots) (pc + 3) lv (v.toList ++ rest) w1 Post) : zTr g M R ce sl pc lv st w Post :=
  z_callV d L ho hR hb hw hcl hq hn hrest hst hc (fun E w1 h => by cases h.1) (fun v' w' h => by obtain ⟨h1, h2⟩ := h; cases h1; subst h2; exact kk)
end ZR
/-- a method's room by its height in the calls; c throws of its own and its callees' -/
def zR (d c : Nat) : Room := { frames := 8 + d, locals := 200 + 40 * d, cells := c, slots := 6 * c }
abbrev zI (g : zGT) (N : Nat) (f : Nat → Int32) : va_E := .inl (zc g 0, (N, .inl f))
abbrev zO (c : Nat) (fs : List Value) : va_E := .inr (c, fs)
section ZN
variable {g : zGT} {M : zMD} {R : Room} {ce sl pc : Nat} {lv lv' : List (Nat × Value)} {st rest : List Value} {w : zW} {Post : zP}
theorem z_iadd_n {a b : Nat} (d : decode M.2.1 pc = .ok (.iadd, 1)) (k : zTr g M R ce sl (pc + 1) lv (.int (nI (a + b)) :: rest) w Post) : zTr g M R ce sl pc lv (.int (nI b) :: .int (nI a) :: rest) w Post :=
  z_iadd d (by rw [nI_add]; exact k)
theorem z_isub_n {a b : Nat} (d : decode M.2.1 pc = .ok (.isub, 1)) (h : b ≤ a) (k : zTr g M R ce sl (pc + 1) lv (.int (nI (a - b)) :: rest) w Post) : zTr g M R ce sl pc lv (.int (nI b) :: .int (nI a) :: rest) w Post :=
  z_isub d (by rw [pk_sub h]; exact k)
theorem z_imul_n {a b : Nat} (d : decode M.2.1 pc = .ok (.imul, 1)) (k : zTr g M R ce sl (pc + 1) lv (.int (nI (a * b)) :: rest) w Post) : zTr g M R ce sl pc lv (.int (nI b) :: .int (nI a) :: rest) w Post :=
  z_imul d (by rw [pk_mul]; exact k)
theorem z_idiv_n {a b : Nat} (d : decode M.2.1 pc = .ok (.idiv, 1)) (ha : a < 2 ^ 31) (h0 : 0 < b) (hb : b < 2 ^ 31) (k : zTr g M R ce sl (pc + 1) lv (.int (nI (a / b)) :: rest) w Post) : zTr g M R ce sl pc lv (.int (nI b) :: .int (nI a) :: rest) w Post :=
  z_idiv d (nI_ne0 h0 hb) (by rw [pk_div ha h0 hb]; exact k)
theorem z_irem_n {a b : Nat} (d : decode M.2.1 pc = .ok (.irem, 1)) (ha : a < 2 ^ 31) (h0 : 0 < b) (hb : b < 2 ^ 31) (k : zTr g M R ce sl (pc + 1) lv (.int (nI (a % b)) :: rest) w Post) : zTr g M R ce sl pc lv (.int (nI b) :: .int (nI a) :: rest) w Post :=
  z_irem d (nI_ne0 h0 hb) (by rw [pk_rem ha h0 hb]; exact k)
theorem z_iinc_n {i n a : Nat} (d : decode M.2.1 pc = .ok (.iinc i (n : Int), 3)) (hx : lv.lookup i = some (.int (nI a))) (hn : i < M.2.2.1) (hlv : lv_sto lv i (.int (nI (a + n))) = lv') (k : zTr g M R ce sl (pc + 3) lv' rest w Post) : zTr g M R ce sl pc lv rest w Post :=
  z_iinc d hx (by rw [← nI_add]; rfl) hn hlv k
theorem z_idec_n {i a : Nat} (d : decode M.2.1 pc = .ok (.iinc i (-1), 3)) (hx : lv.lookup i = some (.int (nI a))) (h : 1 ≤ a) (hn : i < M.2.2.1) (hlv : lv_sto lv i (.int (nI (a - 1))) = lv') (k : zTr g M R ce sl (pc + 3) lv' rest w Post) : zTr g M R ce sl pc lv rest w Post :=
  z_iinc d hx (by obtain ⟨c, rfl⟩ : ∃ c, a = c + 1 := ⟨a - 1, by omega⟩; exact pk_m1 c) hn hlv k
theorem z_icmp_eq_n {a b : Nat} {off : Int} {tgt : Nat} (d : decode M.2.1 pc = .ok (.if_icmp .eq off, 3)) (ht : (pc : Int) + off = (tgt : Int)) (ha : a < 2 ^ 31) (hb : b < 2 ^ 31) (kt : a = b → zTr g M R ce sl tgt lv rest w Post) (kf : a ≠ b → zTr g M R ce sl (pc + 3) lv rest w Post) : zTr g M R ce sl pc lv (.int (nI b) :: .int (nI a) :: rest) w Post :=
  z_icmp_eq d ht (fun h => kt (by first | exact (nI_eq ha hb).mp h | (have h2 := h; simp only [Int32.not_le, Int32.not_lt, ge_iff_le, gt_iff_lt] at h2; first | exact (nI_leI ha hb).mp h2 | exact (nI_leI hb ha).mp h2 | exact (nI_ltI ha hb).mp h2 | exact (nI_ltI hb ha).mp h2))) (fun h => kf (by first | exact fun z => h ((nI_eq ha hb).mpr z) | (have h2 := h; simp only [Int32.not_le, Int32.not_lt, ge_iff_le, gt_iff_lt] at h2; first | exact (nI_leI ha hb).mp h2 | exact (nI_leI hb ha).mp h2 | exact (nI_ltI ha hb).mp h2 | exact (nI_ltI hb ha).mp h2)))
theorem z_icmp_ne_n {a b : Nat} {off : Int} {tgt : Nat} (d : decode M.2.1 pc = .ok (.if_icmp .ne off, 3)) (ht : (pc : Int) + off = (tgt : Int)) (ha : a < 2 ^ 31) (hb : b < 2 ^ 31) (kt : a ≠ b → zTr g M R ce sl tgt lv rest w Post) (kf : a = b → zTr g M R ce sl (pc + 3) lv rest w Post) : zTr g M R ce sl pc lv (.int (nI b) :: .int (nI a) :: rest) w Post :=
  z_icmp_ne d ht (fun h => kt (by first | exact fun z => h ((nI_eq ha hb).mpr z) | (have h2 := h; simp only [Int32.not_le, Int32.not_lt, ge_iff_le, gt_iff_lt] at h2; first | exact (nI_leI ha hb).mp h2 | exact (nI_leI hb ha).mp h2 | exact (nI_ltI ha hb).mp h2 | exact (nI_ltI hb ha).mp h2))) (fun h => kf (by first | exact (nI_eq ha hb).mp h | (have h2 := h; simp only [Int32.not_le, Int32.not_lt, ge_iff_le, gt_iff_lt] at h2; first | exact (nI_leI ha hb).mp h2 | exact (nI_leI hb ha).mp h2 | exact (nI_ltI ha hb).mp h2 | exact (nI_ltI hb ha).mp h2)))
theorem z_icmp_lt_n {a b : Nat} {off : Int} {tgt : Nat} (d : decode M.2.1 pc = .ok (.if_icmp .lt off, 3)) (ht : (pc : Int) + off = (tgt : Int)) (ha : a < 2 ^ 31) (hb : b < 2 ^ 31) (kt : a < b → zTr g M R ce sl tgt lv rest w Post) (kf : b ≤ a → zTr g M R ce sl (pc + 3) lv rest w Post) : zTr g M R ce sl pc lv (.int (nI b) :: .int (nI a) :: rest) w Post :=
  z_icmp_lt d ht (fun h => kt (by first | exact (nI_ltI ha hb).mp h | (have h2 := h; simp only [Int32.not_le, Int32.not_lt, ge_iff_le, gt_iff_lt] at h2; first | exact (nI_leI ha hb).mp h2 | exact (nI_leI hb ha).mp h2 | exact (nI_ltI ha hb).mp h2 | exact (nI_ltI hb ha).mp h2))) (fun h => kf (by first | exact Nat.not_lt.mp (fun z => h ((nI_ltI ha hb).mpr z)) | (have h2 := h; simp only [Int32.not_le, Int32.not_lt, ge_iff_le, gt_iff_lt] at h2; first | exact (nI_leI ha hb).mp h2 | exact (nI_leI hb ha).mp h2 | exact (nI_ltI ha hb).mp h2 | exact (nI_ltI hb ha).mp h2)))
theorem z_icmp_ge_n {a b : Nat} {off : Int} {tgt : Nat} (d : decode M.2.1 pc = .ok (.if_icmp .ge off, 3)) (ht : (pc : Int) + off = (tgt : Int)) (ha : a < 2 ^ 31) (hb : b < 2 ^ 31) (kt : b ≤ a → zTr g M R ce sl tgt lv rest w Post) (kf : a < b → zTr g M R ce sl (pc + 3) lv rest w Post) : zTr g M R ce sl pc lv (.int (nI b) :: .int (nI a) :: rest) w Post :=
  z_icmp_ge d ht (fun h => kt (by first | exact (nI_leI hb ha).mp h | (have h2 := h; simp only [Int32.not_le, Int32.not_lt, ge_iff_le, gt_iff_lt] at h2; first | exact (nI_leI ha hb).mp h2 | exact (nI_leI hb ha).mp h2 | exact (nI_ltI ha hb).mp h2 | exact (nI_ltI hb ha).mp h2))) (fun h => kf (by first | exact Nat.not_le.mp (fun z => h ((nI_leI hb ha).mpr z)) | (have h2 := h; simp only [Int32.not_le, Int32.not_lt, ge_iff_le, gt_iff_lt] at h2; first | exact (nI_leI ha hb).mp h2 | exact (nI_leI hb ha).mp h2 | exact (nI_ltI ha hb).mp h2 | exact (nI_ltI hb ha).mp h2)))
theorem z_icmp_gt_n {a b : Nat} {off : Int} {tgt : Nat} (d : decode M.2.1 pc = .ok (.if_icmp .gt off, 3)) (ht : (pc : Int) + off = (tgt : Int)) (ha : a < 2 ^ 31) (hb : b < 2 ^ 31) (kt : b < a → zTr g M R ce sl tgt lv rest w Post) (kf : a ≤ b → zTr g M R ce sl (pc + 3) lv rest w Post) : zTr g M R ce sl pc lv (.int (nI b) :: .int (nI a) :: rest) w Post :=
  z_icmp_gt d ht (fun h => kt (by first | exact (nI_ltI hb ha).mp h | (have h2 := h; simp only [Int32.not_le, Int32.not_lt, ge_iff_le, gt_iff_lt] at h2; first | exact (nI_leI ha hb).mp h2 | exact (nI_leI hb ha).mp h2 | exact (nI_ltI ha hb).mp h2 | exact (nI_ltI hb ha).mp h2))) (fun h => kf (by first | exact Nat.not_lt.mp (fun z => h ((nI_ltI hb ha).mpr z)) | (have h2 := h; simp only [Int32.not_le, Int32.not_lt, ge_iff_le, gt_iff_lt] at h2; first | exact (nI_leI ha hb).mp h2 | exact (nI_leI hb ha).mp h2 | exact (nI_ltI ha hb).mp h2 | exact (nI_ltI hb ha).mp h2)))
theorem z_icmp_le_n {a b : Nat} {off : Int} {tgt : Nat} (d : decode M.2.1 pc = .ok (.if_icmp .le off, 3)) (ht : (pc : Int) + off = (tgt : Int)) (ha : a < 2 ^ 31) (hb : b < 2 ^ 31) (kt : a ≤ b → zTr g M R ce sl tgt lv rest w Post) (kf : b < a → zTr g M R ce sl (pc + 3) lv rest w Post) : zTr g M R ce sl pc lv (.int (nI b) :: .int (nI a) :: rest) w Post :=
  z_icmp_le d ht (fun h => kt (by first | exact (nI_leI ha hb).mp h | (have h2 := h; simp only [Int32.not_le, Int32.not_lt, ge_iff_le, gt_iff_lt] at h2; first | exact (nI_leI ha hb).mp h2 | exact (nI_leI hb ha).mp h2 | exact (nI_ltI ha hb).mp h2 | exact (nI_ltI hb ha).mp h2))) (fun h => kf (by first | exact Nat.not_le.mp (fun z => h ((nI_leI ha hb).mpr z)) | (have h2 := h; simp only [Int32.not_le, Int32.not_lt, ge_iff_le, gt_iff_lt] at h2; first | exact (nI_leI ha hb).mp h2 | exact (nI_leI hb ha).mp h2 | exact (nI_ltI ha hb).mp h2 | exact (nI_ltI hb ha).mp h2)))
theorem z_if_eq_n {a : Nat} {off : Int} {tgt : Nat} (d : decode M.2.1 pc = .ok (.ifCond .eq off, 3)) (ht : (pc : Int) + off = (tgt : Int)) (ha : a < 2 ^ 31) (kt : a = 0 → zTr g M R ce sl tgt lv rest w Post) (kf : a ≠ 0 → zTr g M R ce sl (pc + 3) lv rest w Post) : zTr g M R ce sl pc lv (.int (nI a) :: rest) w Post :=
  have h0 : (nI a).toInt = a := nI_toInt ha
  have z0 : (0 : Int32).toInt = 0 := rfl
  z_if_eq d ht (fun h => kt (by first | (rw [← Int32.toInt_inj] at h; omega) | (simp only [← Int32.toInt_inj, Int32.lt_iff_toInt_lt, Int32.le_iff_toInt_le, ge_iff_le, gt_iff_lt] at h; omega))) (fun h => kf (by first | (rw [← Int32.toInt_inj] at h; omega) | (simp only [← Int32.toInt_inj, Int32.lt_iff_toInt_lt, Int32.le_iff_toInt_le, ge_iff_le, gt_iff_lt] at h; omega)))
theorem z_if_ne_n {a : Nat} {off : Int} {tgt : Nat} (d : decode M.2.1 pc = .ok (.ifCond .ne off, 3)) (ht : (pc : Int) + off = (tgt : Int)) (ha : a < 2 ^ 31) (kt : a ≠ 0 → zTr g M R ce sl tgt lv rest w Post) (kf : a = 0 → zTr g M R ce sl (pc + 3) lv rest w Post) : zTr g M R ce sl pc lv (.int (nI a) :: rest) w Post :=
  have h0 : (nI a).toInt = a := nI_toInt ha
  have z0 : (0 : Int32).toInt = 0 := rfl
  z_if_ne d ht (fun h => kt (by first | (rw [← Int32.toInt_inj] at h; omega) | (simp only [← Int32.toInt_inj, Int32.lt_iff_toInt_lt, Int32.le_iff_toInt_le, ge_iff_le, gt_iff_lt] at h; omega))) (fun h => kf (by first | (rw [← Int32.toInt_inj] at h; omega) | (simp only [← Int32.toInt_inj, Int32.lt_iff_toInt_lt, Int32.le_iff_toInt_le, ge_iff_le, gt_iff_lt] at h; omega)))
theorem z_if_gt_n {a : Nat} {off : Int} {tgt : Nat} (d : decode M.2.1 pc = .ok (.ifCond .gt off, 3)) (ht : (pc : Int) + off = (tgt : Int)) (ha : a < 2 ^ 31) (kt : 0 < a → zTr g M R ce sl tgt lv rest w Post) (kf : a = 0 → zTr g M R ce sl (pc + 3) lv rest w Post) : zTr g M R ce sl pc lv (.int (nI a) :: rest) w Post :=
  have h0 : (nI a).toInt = a := nI_toInt ha
  have z0 : (0 : Int32).toInt = 0 := rfl
  z_if_gt d ht (fun h => kt (by first | (rw [← Int32.toInt_inj] at h; omega) | (simp only [← Int32.toInt_inj, Int32.lt_iff_toInt_lt, Int32.le_iff_toInt_le, ge_iff_le, gt_iff_lt] at h; omega))) (fun h => kf (by first | (rw [← Int32.toInt_inj] at h; omega) | (simp only [← Int32.toInt_inj, Int32.lt_iff_toInt_lt, Int32.le_iff_toInt_le, ge_iff_le, gt_iff_lt] at h; omega)))
theorem z_if_le_n {a : Nat} {off : Int} {tgt : Nat} (d : decode M.2.1 pc = .ok (.ifCond .le off, 3)) (ht : (pc : Int) + off = (tgt : Int)) (ha : a < 2 ^ 31) (kt : a = 0 → zTr g M R ce sl tgt lv rest w Post) (kf : 0 < a → zTr g M R ce sl (pc + 3) lv rest w Post) : zTr g M R ce sl pc lv (.int (nI a) :: rest) w Post :=
  have h0 : (nI a).toInt = a := nI_toInt ha
  have z0 : (0 : Int32).toInt = 0 := rfl
  z_if_le d ht (fun h => kt (by first | (rw [← Int32.toInt_inj] at h; omega) | (simp only [← Int32.toInt_inj, Int32.lt_iff_toInt_lt, Int32.le_iff_toInt_le, ge_iff_le, gt_iff_lt] at h; omega))) (fun h => kf (by first | (rw [← Int32.toInt_inj] at h; omega) | (simp only [← Int32.toInt_inj, Int32.lt_iff_toInt_lt, Int32.le_iff_toInt_le, ge_iff_le, gt_iff_lt] at h; omega)))
theorem z_if_lt_n {a : Nat} {off : Int} (d : decode M.2.1 pc = .ok (.ifCond .lt off, 3)) (tgt : Nat) (ht : (pc : Int) + off = (tgt : Int)) (ha : a < 2 ^ 31) (k : zTr g M R ce sl (pc + 3) lv rest w Post) : zTr g M R ce sl pc lv (.int (nI a) :: rest) w Post :=
  z_if_lt d ht (fun h => absurd h (nI_pos ha)) (fun _ => k)
theorem z_if_ge_n {a : Nat} {off : Int} (d : decode M.2.1 pc = .ok (.ifCond .ge off, 3)) (tgt : Nat) (ht : (pc : Int) + off = (tgt : Int)) (ha : a < 2 ^ 31) (k : zTr g M R ce sl tgt lv rest w Post) : zTr g M R ce sl pc lv (.int (nI a) :: rest) w Post :=
  z_if_ge d ht (fun _ => k) (fun h => absurd (nI_pos' ha) h)
theorem z_icmp_eq_z {x y : Int32} {off : Int} {tgt : Nat} (d : decode M.2.1 pc = .ok (.if_icmp .eq off, 3)) (ht : (pc : Int) + off = (tgt : Int)) (kt : x.toInt = y.toInt → zTr g M R ce sl tgt lv rest w Post) (kf : x.toInt ≠ y.toInt → zTr g M R ce sl (pc + 3) lv rest w Post) : zTr g M R ce sl pc lv (.int y :: .int x :: rest) w Post :=
  z_icmp_eq d ht (fun h => kt (by first | (simp only [← Int32.toInt_inj, Int32.lt_iff_toInt_lt, Int32.le_iff_toInt_le, ge_iff_le, gt_iff_lt] at h; omega) | exact h)) (fun h => kf (by first | (simp only [← Int32.toInt_inj, Int32.lt_iff_toInt_lt, Int32.le_iff_toInt_le, ge_iff_le, gt_iff_lt] at h; omega) | exact h))
theorem z_if_eq_z {x : Int32} {off : Int} {tgt : Nat} (d : decode M.2.1 pc = .ok (.ifCond .eq off, 3)) (ht : (pc : Int) + off = (tgt : Int)) (kt : x.toInt = 0 → zTr g M R ce sl tgt lv rest w Post) (kf : x.toInt ≠ 0 → zTr g M R ce sl (pc + 3) lv rest w Post) : zTr g M R ce sl pc lv (.int x :: rest) w Post :=
  have z0 : (0 : Int32).toInt = 0 := rfl
  z_if_eq d ht (fun h => kt (by first | (simp only [← Int32.toInt_inj, Int32.lt_iff_toInt_lt, Int32.le_iff_toInt_le, ge_iff_le, gt_iff_lt] at h; omega) | exact h)) (fun h => kf (by first | (simp only [← Int32.toInt_inj, Int32.lt_iff_toInt_lt, Int32.le_iff_toInt_le, ge_iff_le, gt_iff_lt] at h; omega) | exact h))
theorem z_icmp_ne_z {x y : Int32} {off : Int} {tgt : Nat} (d : decode M.2.1 pc = .ok (.if_icmp .ne off, 3)) (ht : (pc : Int) + off = (tgt : Int)) (kt : x.toInt ≠ y.toInt → zTr g M R ce sl tgt lv rest w Post) (kf : x.toInt = y.toInt → zTr g M R ce sl (pc + 3) lv rest w Post) : zTr g M R ce sl pc lv (.int y :: .int x :: rest) w Post :=
  z_icmp_ne d ht (fun h => kt (by first | (simp only [← Int32.toInt_inj, Int32.lt_iff_toInt_lt, Int32.le_iff_toInt_le, ge_iff_le, gt_iff_lt] at h; omega) | exact h)) (fun h => kf (by first | (simp only [← Int32.toInt_inj, Int32.lt_iff_toInt_lt, Int32.le_iff_toInt_le, ge_iff_le, gt_iff_lt] at h; omega) | exact h))
theorem z_if_ne_z {x : Int32} {off : Int} {tgt : Nat} (d : decode M.2.1 pc = .ok (.ifCond .ne off, 3)) (ht : (pc : Int) + off = (tgt : Int)) (kt : x.toInt ≠ 0 → zTr g M R ce sl tgt lv rest w Post) (kf : x.toInt = 0 → zTr g M R ce sl (pc + 3) lv rest w Post) : zTr g M R ce sl pc lv (.int x :: rest) w Post :=
  have z0 : (0 : Int32).toInt = 0 := rfl
  z_if_ne d ht (fun h => kt (by first | (simp only [← Int32.toInt_inj, Int32.lt_iff_toInt_lt, Int32.le_iff_toInt_le, ge_iff_le, gt_iff_lt] at h; omega) | exact h)) (fun h => kf (by first | (simp only [← Int32.toInt_inj, Int32.lt_iff_toInt_lt, Int32.le_iff_toInt_le, ge_iff_le, gt_iff_lt] at h; omega) | exact h))
theorem z_icmp_lt_z {x y : Int32} {off : Int} {tgt : Nat} (d : decode M.2.1 pc = .ok (.if_icmp .lt off, 3)) (ht : (pc : Int) + off = (tgt : Int)) (kt : x.toInt < y.toInt → zTr g M R ce sl tgt lv rest w Post) (kf : y.toInt ≤ x.toInt → zTr g M R ce sl (pc + 3) lv rest w Post) : zTr g M R ce sl pc lv (.int y :: .int x :: rest) w Post :=
  z_icmp_lt d ht (fun h => kt (by first | (simp only [← Int32.toInt_inj, Int32.lt_iff_toInt_lt, Int32.le_iff_toInt_le, ge_iff_le, gt_iff_lt] at h; omega) | exact h)) (fun h => kf (by first | (simp only [← Int32.toInt_inj, Int32.lt_iff_toInt_lt, Int32.le_iff_toInt_le, ge_iff_le, gt_iff_lt] at h; omega) | exact h))
theorem z_if_lt_z {x : Int32} {off : Int} {tgt : Nat} (d : decode M.2.1 pc = .ok (.ifCond .lt off, 3)) (ht : (pc : Int) + off = (tgt : Int)) (kt : x.toInt < 0 → zTr g M R ce sl tgt lv rest w Post) (kf : 0 ≤ x.toInt → zTr g M R ce sl (pc + 3) lv rest w Post) : zTr g M R ce sl pc lv (.int x :: rest) w Post :=
  have z0 : (0 : Int32).toInt = 0 := rfl
  z_if_lt d ht (fun h => kt (by first | (simp only [← Int32.toInt_inj, Int32.lt_iff_toInt_lt, Int32.le_iff_toInt_le, ge_iff_le, gt_iff_lt] at h; omega) | exact h)) (fun h => kf (by first | (simp only [← Int32.toInt_inj, Int32.lt_iff_toInt_lt, Int32.le_iff_toInt_le, ge_iff_le, gt_iff_lt] at h; omega) | exact h))
theorem z_icmp_ge_z {x y : Int32} {off : Int} {tgt : Nat} (d : decode M.2.1 pc = .ok (.if_icmp .ge off, 3)) (ht : (pc : Int) + off = (tgt : Int)) (kt : y.toInt ≤ x.toInt → zTr g M R ce sl tgt lv rest w Post) (kf : x.toInt < y.toInt → zTr g M R ce sl (pc + 3) lv rest w Post) : zTr g M R ce sl pc lv (.int y :: .int x :: rest) w Post :=
  z_icmp_ge d ht (fun h => kt (by first | (simp only [← Int32.toInt_inj, Int32.lt_iff_toInt_lt, Int32.le_iff_toInt_le, ge_iff_le, gt_iff_lt] at h; omega) | exact h)) (fun h => kf (by first | (simp only [← Int32.toInt_inj, Int32.lt_iff_toInt_lt, Int32.le_iff_toInt_le, ge_iff_le, gt_iff_lt] at h; omega) | exact h))
theorem z_if_ge_z {x : Int32} {off : Int} {tgt : Nat} (d : decode M.2.1 pc = .ok (.ifCond .ge off, 3)) (ht : (pc : Int) + off = (tgt : Int)) (kt : 0 ≤ x.toInt → zTr g M R ce sl tgt lv rest w Post) (kf : x.toInt < 0 → zTr g M R ce sl (pc + 3) lv rest w Post) : zTr g M R ce sl pc lv (.int x :: rest) w Post :=
  have z0 : (0 : Int32).toInt = 0 := rfl
  z_if_ge d ht (fun h => kt (by first | (simp only [← Int32.toInt_inj, Int32.lt_iff_toInt_lt, Int32.le_iff_toInt_le, ge_iff_le, gt_iff_lt] at h; omega) | exact h)) (fun h => kf (by first | (simp only [← Int32.toInt_inj, Int32.lt_iff_toInt_lt, Int32.le_iff_toInt_le, ge_iff_le, gt_iff_lt] at h; omega) | exact h))
theorem z_icmp_gt_z {x y : Int32} {off : Int} {tgt : Nat} (d : decode M.2.1 pc = .ok (.if_icmp .gt off, 3)) (ht : (pc : Int) + off = (tgt : Int)) (kt : y.toInt < x.toInt → zTr g M R ce sl tgt lv rest w Post) (kf : x.toInt ≤ y.toInt → zTr g M R ce sl (pc + 3) lv rest w Post) : zTr g M R ce sl pc lv (.int y :: .int x :: rest) w Post :=
  z_icmp_gt d ht (fun h => kt (by first | (simp only [← Int32.toInt_inj, Int32.lt_iff_toInt_lt, Int32.le_iff_toInt_le, ge_iff_le, gt_iff_lt] at h; omega) | exact h)) (fun h => kf (by first | (simp only [← Int32.toInt_inj, Int32.lt_iff_toInt_lt, Int32.le_iff_toInt_le, ge_iff_le, gt_iff_lt] at h; omega) | exact h))
theorem z_if_gt_z {x : Int32} {off : Int} {tgt : Nat} (d : decode M.2.1 pc = .ok (.ifCond .gt off, 3)) (ht : (pc : Int) + off = (tgt : Int)) (kt : 0 < x.toInt → zTr g M R ce sl tgt lv rest w Post) (kf : x.toInt ≤ 0 → zTr g M R ce sl (pc + 3) lv rest w Post) : zTr g M R ce sl pc lv (.int x :: rest) w Post :=
  have z0 : (0 : Int32).toInt = 0 := rfl
  z_if_gt d ht (fun h => kt (by first | (simp only [← Int32.toInt_inj, Int32.lt_iff_toInt_lt, Int32.le_iff_toInt_le, ge_iff_le, gt_iff_lt] at h; omega) | exact h)) (fun h => kf (by first | (simp only [← Int32.toInt_inj, Int32.lt_iff_toInt_lt, Int32.le_iff_toInt_le, ge_iff_le, gt_iff_lt] at h; omega) | exact h))
theorem z_icmp_le_z {x y : Int32} {off : Int} {tgt : Nat} (d : decode M.2.1 pc = .ok (.if_icmp .le off, 3)) (ht : (pc : Int) + off = (tgt : Int)) (kt : x.toInt ≤ y.toInt → zTr g M R ce sl tgt lv rest w Post) (kf : y.toInt < x.toInt → zTr g M R ce sl (pc + 3) lv rest w Post) : zTr g M R ce sl pc lv (.int y :: .int x :: rest) w Post :=
  z_icmp_le d ht (fun h => kt (by first | (simp only [← Int32.toInt_inj, Int32.lt_iff_toInt_lt, Int32.le_iff_toInt_le, ge_iff_le, gt_iff_lt] at h; omega) | exact h)) (fun h => kf (by first | (simp only [← Int32.toInt_inj, Int32.lt_iff_toInt_lt, Int32.le_iff_toInt_le, ge_iff_le, gt_iff_lt] at h; omega) | exact h))
theorem z_if_le_z {x : Int32} {off : Int} {tgt : Nat} (d : decode M.2.1 pc = .ok (.ifCond .le off, 3)) (ht : (pc : Int) + off = (tgt : Int)) (kt : x.toInt ≤ 0 → zTr g M R ce sl tgt lv rest w Post) (kf : 0 < x.toInt → zTr g M R ce sl (pc + 3) lv rest w Post) : zTr g M R ce sl pc lv (.int x :: rest) w Post :=
  have z0 : (0 : Int32).toInt = 0 := rfl
  z_if_le d ht (fun h => kt (by first | (simp only [← Int32.toInt_inj, Int32.lt_iff_toInt_lt, Int32.le_iff_toInt_le, ge_iff_le, gt_iff_lt] at h; omega) | exact h)) (fun h => kf (by first | (simp only [← Int32.toInt_inj, Int32.lt_iff_toInt_lt, Int32.le_iff_toInt_le, ge_iff_le, gt_iff_lt] at h; omega) | exact h))
theorem z_iald_n {j N a : Nat} {f : Nat → Int32} (d : decode M.2.1 pc = .ok (.iaload, 1)) (hj : j < zn g) (hw : w j = zI g N f) (ha : a < N) (hN : N < 2 ^ 31)
    (kk : zTr g M R ce sl (pc + 1) lv (.int (f a) :: rest) w Post) : zTr g M R ce sl pc lv (.int (nI a) :: .ref (za g j) :: rest) w Post :=
  z_iald d hj hw (vp_in_nI ha hN) (by rw [nI_clamp (Nat.lt_trans ha hN)]; exact kk)
theorem z_iast_n {j N a : Nat} {f : Nat → Int32} {x : Int32} (d : decode M.2.1 pc = .ok (.iastore, 1)) (hj : j < zn g) (hw : w j = zI g N f) (ha : a < N) (hN : N < 2 ^ 31)
    (kk : zTr g M R ce sl (pc + 1) lv rest (va_up w j (zI g N (upd f a x))) Post) : zTr g M R ce sl pc lv (.int x :: .int (nI a) :: .ref (za g j) :: rest) w Post :=
  z_iast d hj hw (vp_in_nI ha hN) (by rw [nI_clamp (Nat.lt_trans ha hN)]; exact kk)
theorem z_alen_n {j N : Nat} {f : Nat → Int32} (d : decode M.2.1 pc = .ok (.arraylength, 1)) (hj : j < zn g) (hw : w j = zI g N f)
    (kk : zTr g M R ce sl (pc + 1) lv (.int (nI N) :: rest) w Post) : zTr g M R ce sl pc lv (.ref (za g j) :: rest) w Post :=
  z_alen (t0 := 0) d hj rfl hw rfl kk
/-- a callee that returns r and never throws -/
theorem z_callR {M2 : zMD} {R2 : Room} {As : List Value} {n idx b ci : Nat} {fs : List Value} {q : vw_C} {own : String} {v : Option Value} {P : zW → Prop} (d : decode M.2.1 pc = .ok (.invokevirtual idx, 3)) (L : zLV own idx M2 n) (ho : own = M.1.cls)
    (hR : (R2.frames + 1 ≤ R.frames ∧ 8 + (M2.2.2.1 + 11) + R2.locals ≤ R.locals) ∧ ce + R2.cells ≤ R.cells ∧ sl + R2.slots ≤ R.slots) (hb : b < zn g) (hw : w b = .inr (ci, fs)) (hcl : vwCl[ci]? = some q) (hq : q.1 = M2.1.cls) (hn : As.length = n)
    (hrest : (rest.map fun v => v.category).sum ≤ 8) (hst : st = As.reverse ++ .ref (za g b) :: rest) (hc : zCt g M2 R2 (.ref (za g b) :: As) w (fun o w' => o = .inl v ∧ P w'))
    (kk : ∀ w1, P w1 → zTr g M R (ce + R2.cells) (sl + R2.slots) (pc + 3) lv (v.toList ++ rest) w1 Post) : zTr g M R ce sl pc lv st w Post :=
  z_callV d L ho hR hb hw hcl hq hn hrest hst hc (fun E w1 h => by cases h.1) (fun v' w' h => by obtain ⟨h1, h2⟩ := h; cases h1; exact kk w' h2)
theorem z_callSR {M2 : zMD} {R2 : Room} {As : List Value} {n idx : Nat} {own : String} {v : Option Value} {P : zW → Prop} (d : decode M.2.1 pc = .ok (.invokestatic idx, 3)) (L : zLS own idx M2 n) (ho : own = M.1.cls) (ho2 : M2.1.cls = own)
    (hR : (R2.frames + 1 ≤ R.frames ∧ 8 + (M2.2.2.1 + 11) + R2.locals ≤ R.locals) ∧ ce + R2.cells ≤ R.cells ∧ sl + R2.slots ≤ R.slots) (hn : As.length = n)
    (hrest : (rest.map fun v => v.category).sum ≤ 8) (hst : st = As.reverse ++ rest) (hc : zCt g M2 R2 As w (fun o w' => o = .inl v ∧ P w'))
    (kk : ∀ w1, P w1 → zTr g M R (ce + R2.cells) (sl + R2.slots) (pc + 3) lv (v.toList ++ rest) w1 Post) : zTr g M R ce sl pc lv st w Post :=
  z_callS d L ho ho2 hR hn hrest hst hc (fun E w1 h => by cases h.1) (fun v' w' h => by obtain ⟨h1, h2⟩ := h; cases h1; exact kk w' h2)
end ZN
def zFr (w w' : zW) (lo hi : Nat) : Prop := ∀ k, k < lo ∨ hi ≤ k → w' k = w k
theorem zFr.rf {w : zW} {lo hi : Nat} : zFr w w lo hi := fun _ _ => rfl
theorem zFr.tr {w w1 w2 : zW} {lo hi : Nat} (h1 : zFr w w1 lo hi) (h2 : zFr w1 w2 lo hi) : zFr w w2 lo hi := fun k hk => (h2 k hk).trans (h1 k hk)
theorem zFr.wk {w w1 : zW} {lo hi lo' hi' : Nat} (h : zFr w w1 lo hi) (h1 : lo' ≤ lo) (h2 : hi ≤ hi') : zFr w w1 lo' hi' := fun k hk => h k (by omega)
theorem zFr.up {w : zW} {lo hi k : Nat} {c : va_E} (h : lo ≤ k ∧ k < hi) : zFr w (va_up w k c) lo hi := fun j hj => va_up_ne _ _ (by omega)
theorem zup_s {w : zW} {k : Nat} {c : va_E} : va_up w k c k = c := by simp [va_up]
theorem zup_n {w : zW} {k j : Nat} {c : va_E} (h : j ≠ k) : va_up w k c j = w j := by simp [va_up, h]
section ZE
variable {g : zGT} {M : zMD} {R : Room} {ce sl pc : Nat} {lv lv' : List (Nat × Value)} {st rest : List Value} {w : zW} {Post : zP}
/-- a callee that returns v and leaves the world as it is -/
theorem z_callE {M2 : zMD} {R2 : Room} {As : List Value} {n idx b ci : Nat} {fs : List Value} {q : vw_C} {own : String} {v : Option Value} (d : decode M.2.1 pc = .ok (.invokevirtual idx, 3)) (L : zLV own idx M2 n) (ho : own = M.1.cls)
    (hR : (R2.frames + 1 ≤ R.frames ∧ 8 + (M2.2.2.1 + 11) + R2.locals ≤ R.locals) ∧ ce + R2.cells ≤ R.cells ∧ sl + R2.slots ≤ R.slots) (hb : b < zn g) (hw : w b = .inr (ci, fs)) (hcl : vwCl[ci]? = some q) (hq : q.1 = M2.1.cls) (hn : As.length = n)
    (hrest : (rest.map fun v => v.category).sum ≤ 8) (hst : st = As.reverse ++ .ref (za g b) :: rest) (hc : zCt g M2 R2 (.ref (za g b) :: As) w (fun o w' => o = .inl v ∧ w' = w))
    (kk : zTr g M R (ce + R2.cells) (sl + R2.slots) (pc + 3) lv (v.toList ++ rest) w Post) : zTr g M R ce sl pc lv st w Post :=
  z_callR d L ho hR hb hw hcl hq hn hrest hst hc (fun w1 h => by rw [h]; exact kk)
theorem z_callSE {M2 : zMD} {R2 : Room} {As : List Value} {n idx : Nat} {own : String} {v : Option Value} (d : decode M.2.1 pc = .ok (.invokestatic idx, 3)) (L : zLS own idx M2 n) (ho : own = M.1.cls) (ho2 : M2.1.cls = own)
    (hR : (R2.frames + 1 ≤ R.frames ∧ 8 + (M2.2.2.1 + 11) + R2.locals ≤ R.locals) ∧ ce + R2.cells ≤ R.cells ∧ sl + R2.slots ≤ R.slots) (hn : As.length = n)
    (hrest : (rest.map fun v => v.category).sum ≤ 8) (hst : st = As.reverse ++ rest) (hc : zCt g M2 R2 As w (fun o w' => o = .inl v ∧ w' = w))
    (kk : zTr g M R (ce + R2.cells) (sl + R2.slots) (pc + 3) lv (v.toList ++ rest) w Post) : zTr g M R ce sl pc lv st w Post :=
  z_callSR d L ho ho2 hR hn hrest hst hc (fun w1 h => by rw [h]; exact kk)
end ZE
