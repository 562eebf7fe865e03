/-! the law: methods with a table of handlers -/
abbrev zHH := List (Nat × Nat × Nat × Nat)
def zCtH (g : zGT) (M : zMD) (hh : zHH) (R : Room) (As : List Value) (w : zW) (Post : zP) : Prop := vx_Met (zl g) M.1 (.codeWith M.1 M.2.1 M.2.2.1 M.2.2.2 hh :: ztb) R (zPc g As w) (zQc g Post) (zXc g Post) R.cells R.slots (zA g)
def zCxH (g : zGT) (M : zMD) (hh : zHH) (p : Program) (s : State) (m : MethodId) (args : Array Value) (meth : Method) (c : Code) : Prop :=
  p.tables.exec = Jvm.exec ∧ c.code = M.2.1 ∧ c.maxLocals = M.2.2.1 ∧ s.vm.findClass M.1.cls = some m.cls ∧ (∀ w ∈ ztb, w.before args s = true) ∧ meth.sig.returnType = M.2.2.2 ∧ meth.locks = false ∧ (c.exceptionTable.toList.map (fun h => (h.startPc, h.endPc, h.handlerPc, h.catchType)) = hh) ∧ zGI g s ∧ zG0 g
def zTrH (g : zGT) (M : zMD) (hh : zHH) (R : Room) (ce sl pc : Nat) (lv : List (Nat × Value)) (st : List Value) (w : zW) (Post : zP) : Prop :=
  ∀ (p : Program) (e : Env) (s : State) (m : MethodId) (args : Array Value) (below : List Frame) (meth : Method) (c : Code) (H : Heap) (locs : List Loc) (ls : Array Slot),
    zCxH g M hh p s m args meth c → va_P (zD g) vwCl (zL g w) H → va_S (zA g) s.heap H locs → lv_has ls M.2.2.1 lv →
    W p (zl g) e R s m args below meth c H locs ce sl (vx_MQ below (zQc g Post) (zXc g Post) args s R.cells R.slots (zA g)) (F0 m pc ls st)
theorem zCtH_of {g : zGT} {M : zMD} {hh : zHH} {R : Room} {As : List Value} {w : zW} {Post : zP} (hp : plainName M.1.cls = true) (h0 : zG0 g) (lv : List (Nat × Value)) (hlv : lv_args 0 As = lv) (hn : (lg_sl As).length ≤ M.2.2.1)
    (k : zTrH g M hh R 0 0 0 lv [] w Post) : zCtH g M hh R As w Post := by
  subst hlv
  refine vx_ofWH hp rfl ?_
  intro p e s m args below meth c s₁ B hml hP
  obtain ⟨rfl, hGI, hW⟩ := hP
  rw [lg_entry_eq]
  have hcw := atoms_spec (ws := .codeWith M.1 M.2.1 M.2.2.1 M.2.2.2 hh :: ztb) B.pre _ List.mem_cons_self
  obtain ⟨m9, meth9, c9, hn9, h1, h2, h3, h4, h5, -⟩ := Cond.codeWith_spec hcw
  cases hn9.symm.trans B.named
  have hc1 : s.code? m = some c := by have q := B.here.code; rw [B.state] at q; exact q
  have hc2 : s.code? m = some c9 := by
    unfold State.code?
    unfold Vm.method? at h1
    cases hk : s.vm.classes[m.cls]? with
    | none => rw [hk] at h1; exact absurd h1 (by simp)
    | some k => rw [hk] at h1; have h9 : k.methods[m.idx]? = some meth9 := h1; simp [h9, h2]
  cases hc1.symm.trans hc2
  exact k p e s m _ below meth c s.heap [] _ ⟨B.exec, B.bytes, hml, findClass_of_methodNamed B.named, fun w hw => atoms_spec (ws := .codeWith M.1 M.2.1 M.2.2.1 M.2.2.2 hh :: ztb) B.pre _ (List.mem_cons_of_mem _ hw), B.returns, B.notSynchronized, h5, hGI, h0⟩ hW va_S.rf (lv_entry As hn)
section ZH
variable {g : zGT} {M : zMD} {hh : zHH} {R : Room} {ce sl pc : Nat} {lv lv' : List (Nat × Value)} {st rest : List Value} {w : zW} {Post : zP}
theorem zh_iconst {n : Int} {v : Int32} (d : decode M.2.1 pc = .ok (.iconst n, 1)) (hv : Int32.ofInt n = v) (k : zTrH g M hh R ce sl (pc + 1) lv (.int v :: rest) w Post) : zTrH g M hh R ce sl pc lv (rest) w Post :=
  fun p e s m args below meth c H locs ls C hW hS hl => lv_iconst C.1 C.2.1 d hv (k p e s m args below meth c H locs ls C hW hS hl)
theorem zh_lconst {n : Fin 2} {v : Int64} (d : decode M.2.1 pc = .ok (.lconst n, 1)) (hv : Int64.ofNat (n : Nat) = v) (k : zTrH g M hh R ce sl (pc + 1) lv (.long v :: rest) w Post) : zTrH g M hh R ce sl pc lv (rest) w Post :=
  fun p e s m args below meth c H locs ls C hW hS hl => lv_lconst C.1 C.2.1 d hv (k p e s m args below meth c H locs ls C hW hS hl)
theorem zh_iload_n {k4 : Fin 4} {x : Int32} (d : decode M.2.1 pc = .ok (.iload_n k4, 1)) (hx : lv.lookup (k4 : Nat) = some (.int x)) (k : zTrH g M hh R ce sl (pc + 1) lv (.int x :: rest) w Post) : zTrH g M hh R ce sl pc lv (rest) w Post :=
  fun p e s m args below meth c H locs ls C hW hS hl => lv_iload_n C.1 C.2.1 d rfl (lv_get hl hx) (k p e s m args below meth c H locs ls C hW hS hl)
theorem zh_iload {i : Nat} {x : Int32} (d : decode M.2.1 pc = .ok (.iload i, 2)) (hx : lv.lookup i = some (.int x)) (k : zTrH g M hh R ce sl (pc + 2) lv (.int x :: rest) w Post) : zTrH g M hh R ce sl pc lv (rest) w Post :=
  fun p e s m args below meth c H locs ls C hW hS hl => lv_iload C.1 C.2.1 d (lv_get hl hx) (k p e s m args below meth c H locs ls C hW hS hl)
theorem zh_aload_n {k4 : Fin 4} {x : Nat} (d : decode M.2.1 pc = .ok (.aload_n k4, 1)) (hx : lv.lookup (k4 : Nat) = some (.ref x)) (k : zTrH g M hh R ce sl (pc + 1) lv (.ref x :: rest) w Post) : zTrH g M hh R ce sl pc lv (rest) w Post :=
  fun p e s m args below meth c H locs ls C hW hS hl => lv_aload_n C.1 C.2.1 d rfl (lv_get hl hx) (k p e s m args below meth c H locs ls C hW hS hl)
theorem zh_aload {i : Nat} {x : Nat} (d : decode M.2.1 pc = .ok (.aload i, 2)) (hx : lv.lookup i = some (.ref x)) (k : zTrH g M hh R ce sl (pc + 2) lv (.ref x :: rest) w Post) : zTrH g M hh R ce sl pc lv (rest) w Post :=
  fun p e s m args below meth c H locs ls C hW hS hl => lv_aload C.1 C.2.1 d (lv_get hl hx) (k p e s m args below meth c H locs ls C hW hS hl)
theorem zh_astore_n {k4 : Fin 4} {x : Nat} (d : decode M.2.1 pc = .ok (.astore_n k4, 1)) (hn : (k4 : Nat) < M.2.2.1) (hlv : lv_sto lv (k4 : Nat) (.ref x) = lv') (k : zTrH g M hh R ce sl (pc + 1) lv' rest w Post) : zTrH g M hh R ce sl pc lv (.ref x :: rest) w Post :=
  fun p e s m args below meth c H locs ls C hW hS hl => lv_astore_n C.1 C.2.1 d rfl hl hn rfl (fun ls1 hl1 => k p e s m args below meth c H locs ls1 C hW hS (lv_re hl1 hlv))
theorem zh_astore {i : Nat} {x : Nat} (d : decode M.2.1 pc = .ok (.astore i, 2)) (hn : i < M.2.2.1) (hlv : lv_sto lv i (.ref x) = lv') (k : zTrH g M hh R ce sl (pc + 2) lv' rest w Post) : zTrH g M hh R ce sl pc lv (.ref x :: rest) w Post :=
  fun p e s m args below meth c H locs ls C hW hS hl => lv_astore C.1 C.2.1 d hl hn rfl (fun ls1 hl1 => k p e s m args below meth c H locs ls1 C hW hS (lv_re hl1 hlv))
theorem zh_i2l {x : Int32} (d : decode M.2.1 pc = .ok (.i2l, 1)) (k : zTrH g M hh R ce sl (pc + 1) lv (.long x.toInt64 :: rest) w Post) : zTrH g M hh R ce sl pc lv (.int x :: rest) w Post :=
  fun p e s m args below meth c H locs ls C hW hS hl => lv_i2l C.1 C.2.1 d rfl (k p e s m args below meth c H locs ls C hW hS hl)
theorem zh_f2d {x : UInt32} (d : decode M.2.1 pc = .ok (.f2d, 1)) (hne : vf_n64 (FP.f2d x)) (k : zTrH g M hh R ce sl (pc + 1) lv (.double (FP.f2d x) :: rest) w Post) : zTrH g M hh R ce sl pc lv (.float x :: rest) w Post :=
  fun p e s m args below meth c H locs ls C hW hS hl => lv_f2d C.1 C.2.1 d hne (k p e s m args below meth c H locs ls C hW hS hl)
theorem zh_goto {off : Int} {tgt : Nat} (d : decode M.2.1 pc = .ok (.goto off, 3)) (ht : (pc : Int) + off = (tgt : Int)) (k : zTrH g M hh R ce sl (tgt) lv (rest) w Post) : zTrH g M hh R ce sl pc lv (rest) w Post :=
  fun p e s m args below meth c H locs ls C hW hS hl => lv_goto C.1 C.2.1 d ht (k p e s m args below meth c H locs ls C hW hS hl)
theorem zh_if_eq {x : Int32} {off : Int} {tgt : Nat} (d : decode M.2.1 pc = .ok (.ifCond .eq off, 3)) (ht : (pc : Int) + off = (tgt : Int)) (kt : x = 0 → zTrH g M hh R ce sl tgt lv rest w Post) (kf : ¬ x = 0 → zTrH g M hh R ce sl (pc + 3) lv rest w Post) : zTrH g M hh R ce sl pc lv (.int x :: rest) w Post :=
  fun p e s m args below meth c H locs ls C hW hS hl => lv_if_eq C.1 C.2.1 d ht (fun h => kt h p e s m args below meth c H locs ls C hW hS hl) (fun h => kf h p e s m args below meth c H locs ls C hW hS hl)
theorem zh_iret {v : Int32} (d : decode M.2.1 pc = .ok (.ireturn, 1)) (hr : M.2.2.2 = some .int) (hc : ce ≤ R.cells) (hs : sl ≤ R.slots) (hP : Post (.inl (some (.int v))) w) : zTrH g M hh R ce sl pc lv [.int v] w Post :=
  fun p e s m args below meth c H locs ls C hW hS hl => vx_ret (W.widen hc hs (W.iret C.1 C.2.1 (C.2.2.2.2.2.1.trans hr) (fun t ht _ => ⟨⟨_, w, rfl, hP, by rw [ht]; exact hW⟩, hS.F ht⟩) hS.2.2 d C.2.2.2.2.2.2.1))
theorem zh_if_eq_n {a : Nat} {off : Int} {tgt : Nat} (d : decode M.2.1 pc = .ok (.ifCond .eq off, 3)) (ht : (pc : Int) + off = (tgt : Int)) (ha : a < 2 ^ 31) (kt : a = 0 → zTrH g M hh R ce sl tgt lv rest w Post) (kf : a ≠ 0 → zTrH g M hh R ce sl (pc + 3) lv rest w Post) : zTrH g M hh R ce sl pc lv (.int (nI a) :: rest) w Post :=
  have h0 : (nI a).toInt = a := nI_toInt ha
  have z0 : (0 : Int32).toInt = 0 := rfl
  zh_if_eq d ht (fun h => kt (by rw [← Int32.toInt_inj, h0, z0] at h; omega)) (fun h => kf (fun z => h (by rw [z]; rfl)))
theorem zh_last {j N : Nat} {f : Nat → Int64} {i : Int32} {x : Int64} (d : decode M.2.1 pc = .ok (.lastore, 1)) (hj : j < zn g) (hw : w j = .inl (zc g 2, N, .inr (.inl f))) (hin : vp_in i N)
    (kk : zTrH g M hh R ce sl (pc + 1) lv rest (va_up w j (.inl (zc g 2, N, .inr (.inl (vp_updL f i.toNatClampNeg x))))) Post) : zTrH g M hh R ce sl pc lv (.long x :: .int i :: .ref (za g j) :: rest) w Post := by
  intro p e s m args below meth c H locs ls C hW hS hl
  refine va_last C.1 C.2.1 (C.2.2.2.2.2.2.2.2.2.1.moved C.2.2.2.2.2.2.2.2.1.1.alike) hW (zD_ok C.2.2.2.2.2.2.2.2.2 w) hS j 2 (by rw [zL_get hj, hw]) rfl hin d (fun H1 locs1 hP1 _ hS1 => ?_)
  rw [zL_set hj] at hP1
  exact kk p e s m args below meth c H1 locs1 ls C hP1 hS1 hl
theorem zh_dast {j N : Nat} {f : Nat → UInt64} {i : Int32} {x : UInt64} (d : decode M.2.1 pc = .ok (.dastore, 1)) (hj : j < zn g) (hw : w j = .inl (zc g 3, N, .inr (.inr (.inr (.inl f))))) (hin : vp_in i N)
    (kk : zTrH g M hh R ce sl (pc + 1) lv rest (va_up w j (.inl (zc g 3, N, .inr (.inr (.inr (.inl (vf_upd f i.toNatClampNeg x))))))) Post) : zTrH g M hh R ce sl pc lv (.double x :: .int i :: .ref (za g j) :: rest) w Post := by
  intro p e s m args below meth c H locs ls C hW hS hl
  refine va_dast C.1 C.2.1 (C.2.2.2.2.2.2.2.2.2.1.moved C.2.2.2.2.2.2.2.2.1.1.alike) hW (zD_ok C.2.2.2.2.2.2.2.2.2 w) hS j 3 (by rw [zL_get hj, hw]) rfl hin d (fun H1 locs1 hP1 _ hS1 => ?_)
  rw [zL_set hj] at hP1
  exact kk p e s m args below meth c H1 locs1 ls C hP1 hS1 hl
/-- the row of the table that takes E at pc -/
def zRow (g : zGT) (own : String) (hh : zHH) (pc : Nat) (E : String) (tgt : Nat) : Prop := ∃ (i s9 e9 t9 : Nat) (nm : String), hh[i]? = some (s9, e9, tgt, t9) ∧ (s9 ≤ pc ∧ pc < e9) ∧ t9 ≠ 0 ∧ Cond.classLink own t9 nm ∈ ztb ∧ Cond.castable E nm ∈ lw_tbl ∧
  ∀ j, j < i → ∃ (a b c d : Nat) (n2 : String), hh[j]? = some (a, b, c, d) ∧ d ≠ 0 ∧ Cond.classLink own d n2 ∈ ztb ∧ va_Nc E n2 (zs g)
theorem zh_run {R2 : Room} {Post1 : zP} {a : Array Value} (kx : ∀ E w1, Post1 (.inr E) w1 → ∃ tgt, zRow g M.1.cls hh pc E tgt ∧ ∀ q : Nat, zTrH g M hh R (ce + R2.cells) (sl + R2.slots) tgt lv [.ref q] w1 Post)
    (kk : ∀ v w1, Post1 (.inl v) w1 → zTrH g M hh R (ce + R2.cells) (sl + R2.slots) (pc + 3) lv (v.toList ++ rest) w1 Post)
    {p : Program} {e : Env} {s : State} {m : MethodId} {args : Array Value} {below : List Frame} {meth : Method} {c : Code} {H : Heap} {locs : List Loc} {ls : Array Slot}
    (C : zCxH g M hh p s m args meth c) (hS : va_S (zA g) s.heap H locs) (hl : lv_has ls M.2.2.1 lv)
    (hr : vx_Run p (zl g) e R s m args below meth c H locs ce sl R2.cells R2.slots (F0 m pc ls st) rest (zQc g Post1 a) (zXc g Post1) (zA g)) :
    W p (zl g) e R s m args below meth c H locs ce sl (vx_MQ below (zQc g Post) (zXc g Post) args s R.cells R.slots (zA g)) (F0 m pc ls st) := by
  intro T hT X
  rcases hr T hT X with ⟨v, st₀, t, T', L, h0, X', hL, e1, e2, ⟨⟨v', w1, hv, hp1, hP1⟩, hF⟩, st1⟩ | ⟨q, st₀, t, T', L, E, cl, h0, X', hL, e1, e2, ⟨w1, hp1, hP1, hF⟩, hce1, hcv, hcl, st1⟩
  · cases hv
    obtain ⟨k1, k2, k3⟩ := vx_keep (A1 := zA g) h0 e1 hS (fun q _ h => h) (fun q h => h) hL hF
    obtain ⟨t2, a1, b1⟩ := kk v w1 hp1 p e s m args below meth c T'.heap (locs ++ L) ls C (by rw [e1]; exact hP1) k3 hl T' rfl X'
    exact ⟨t2, st1 t2 a1, b1⟩
  · obtain ⟨k1, k2, k3⟩ := vx_keep (A1 := zA g) h0 e1 hS (fun q _ h => h) (fun q h => h) hL hF
    obtain ⟨tgt, ⟨i, s9, e9, t9, nm, hi, hpc, ht9, hlk, hca, hpre⟩, kq⟩ := kx E w1 hp1
    have htb := C.2.2.2.2.2.2.2.1
    have hil : i < c.exceptionTable.toList.length := by
      have := (List.getElem?_eq_some_iff.mp hi).1
      rw [← htb, List.length_map] at this; exact this
    have hx : ((c.exceptionTable.toList[i]).startPc, (c.exceptionTable.toList[i]).endPc, (c.exceptionTable.toList[i]).handlerPc, (c.exceptionTable.toList[i]).catchType) = (s9, e9, tgt, t9) := by
      have h8 := hi
      rw [← htb, List.getElem?_map, List.getElem?_eq_getElem hil] at h8
      exact Option.some.inj h8
    have hsplit : c.exceptionTable.toList = c.exceptionTable.toList.take i ++ c.exceptionTable.toList[i] :: c.exceptionTable.toList.drop (i + 1) := by
      rw [← List.drop_eq_getElem_cons hil, List.take_append_drop]
    simp only [Prod.mk.injEq] at hx
    have := vx_catch (p := p) (l := zl g) (e := e) (R := R) (s := s) (m := m) (args := args) (below := below) (meth := meth) (c := c) (H := T'.heap) (locs := locs ++ L) (cells := ce + R2.cells) (slots := sl + R2.slots) (ls := ls) (rest := rest) (pc := pc) (own := M.1.cls) (name := nm) (E := E) (ce := cl) (q := q) (Q := vx_MQ below (zQc g Post) (zXc g Post) args s R.cells R.slots (zA g)) C.2.2.2.1 _ _ _ hsplit
      (fun z hz => by
        obtain ⟨j, hj, ej⟩ := List.getElem_of_mem hz
        rw [List.length_take] at hj
        rw [List.getElem_take] at ej
        obtain ⟨a9, b9, c9, d9, n2, h1, h2, h3, h4⟩ := hpre j (by omega)
        rw [← htb, List.getElem?_map, List.getElem?_eq_getElem (by omega)] at h1
        have h5 := Option.some.inj h1
        rw [ej] at h5
        simp only [Prod.mk.injEq] at h5
        refine Or.inr ⟨by rw [h5.2.2.2]; exact h2, n2, ?_, h4.moved C.2.2.2.2.2.2.2.2.1.1.alike⟩
        rw [h5.2.2.2]; exact C.2.2.2.2.1 _ h3)
      (by unfold covers; rw [hx.1, hx.2.1]; simp; omega) (by rw [hx.2.2.2]; exact ht9) (by rw [hx.2.2.2]; exact C.2.2.2.2.1 _ hlk) (va_Nw.use rfl (va_Nw.warmC C.2.2.2.2.2.2.2.2.1.1 (C.2.2.2.2.2.2.2.2.2.2.2.2 _ hca rfl))) (by rw [e1]; exact hce1) hcv hcl
      (by rw [hx.2.2.1]; exact kq q p e s m args below meth c T'.heap (locs ++ L) ls C (by rw [e1]; exact hP1) k3 hl)
    obtain ⟨t2, a1, b1⟩ := this T' rfl X'
    exact ⟨t2, st1.trans a1, b1⟩
theorem zh_callV {M2 : zMD} {R2 : Room} {Post1 : zP} {As : List Value} {n idx b ci : Nat} {fs : List Value} {q : vw_C} {own : String} (d : decode M.2.1 pc = .ok (.invokevirtual idx, 3)) (L : zLV own idx M2 n) (ho : own = M.1.cls)
    (hR : (R2.frames + 1 ≤ R.frames ∧ 8 + (M2.2.2.1 + 11) + R2.locals ≤ R.locals) ∧ ce + R2.cells ≤ R.cells ∧ sl + R2.slots ≤ R.slots) (hb : b < zn g) (hw : w b = .inr (ci, fs)) (hcl : vwCl[ci]? = some q) (hq : q.1 = M2.1.cls) (hn : As.length = n)
    (hrest : (rest.map fun v => v.category).sum ≤ 8) (hst : st = As.reverse ++ .ref (za g b) :: rest) (hc : zCt g M2 R2 (.ref (za g b) :: As) w Post1) (kx : ∀ E w1, Post1 (.inr E) w1 → ∃ tgt, zRow g M.1.cls hh pc E tgt ∧ ∀ q : Nat, zTrH g M hh R (ce + R2.cells) (sl + R2.slots) tgt lv [.ref q] w1 Post)
    (kk : ∀ v w1, Post1 (.inl v) w1 → zTrH g M hh R (ce + R2.cells) (sl + R2.slots) (pc + 3) lv (v.toList ++ rest) w1 Post) : zTrH g M hh R ce sl pc lv st w Post := by
  intro p e s m args below meth c H locs ls C hW hS hl
  subst ho
  refine zh_run kx kk C hS hl (vx_runV (As := As) (b := za g b) ⟨C.1, C.2.1, C.2.2.1, C.2.2.2.1, C.2.2.2.2.1⟩ hc (cwV n C.2.2.2.2.1 (zLV_in L) rfl rfl rfl ⟨rfl, L.2⟩ hR.1) ⟨zPc_blind, ?_, fun U hU hWm => ⟨rfl, zGI_on C.2.2.2.2.2.2.2.2.1 hS hU hWm, by rw [hU]; exact hW⟩⟩ rfl hn hl.1 hst (by simpa using hrest) d hR.2)
  rw [← hq]
  exact va_recv (C.2.2.2.2.2.2.2.2.2.1.moved C.2.2.2.2.2.2.2.2.1.1.alike) hW hcl (by rw [zL_get hb, hw])
end ZH
