/-! ===== BEGIN a constructor that throws (launches without stack traces) ===== -/
section VXIA
variable {p : Program} {l : Launch} {e : Env} {R : Room} {s : State} {m : MethodId} {args : Array Value} {below : List Frame} {meth : Method} {c : Code} {T : State} {locs : List Loc} {cells slots : Nat}
theorem vx_callI (X : Stand p l e R s m args below meth c T locs cells slots) (hexec : p.tables.exec = Jvm.exec) {own : String} {index : Nat} {y : MethodName} {bytes : ByteArray} {maxL : Nat}
    (hown : s.vm.findClass own = some m.cls) (hy1 : y.name = "<init>") (hlink : (Cond.methodLink own index y).before args s = true) (hinst : (Cond.instanceMethod y).before args s = true)
    (hcode : (Cond.code y bytes maxL none).before args s = true) (hy : y.cls ≠ "java/lang/invoke/MethodHandle" ∧ y.cls ≠ "java/lang/invoke/VarHandle")
    {W9 : Nat} {Pre : Pt → Array Value → Prop} {Post : Pt → Array Value → Option Value → Pt → Prop} {PostX : Pt → Array Value → Addr → Pt → Prop} (hK : vx_Back l R p e below s args y 3 W9 Pre Post PostX)
    {g : JFrame} (hg : g.method = m) (hsize : g.locals.size = c.maxLocals) {a : Addr} {argsL rest : List Value} (hlen : ∀ sig, parseMethodDescriptor y.desc = some sig → argsL.length = sig.parameters.length)
    (hstack : g.stack = argsL.reverse ++ .ref a :: rest) (hW : 2 * g.monitorRoom + (rest.map fun v => v.category).sum ≤ W9) (hdg : decode c.code g.pc = .ok (.invokespecial index, 3))
    (hpre : ∀ vm₁, s.WarmedH vm₁ → Pre ⟨T.setVm vm₁, locs, cells, slots⟩ (Value.ref a :: argsL).toArray) :
    (∃ (v : Option Value) (vm₁ : Vm) (B : Pt), s.WarmedH vm₁ ∧ Stand p l e R s m args below meth c B.U B.locs B.cells B.slots ∧ Post ⟨T.setVm vm₁, locs, cells, slots⟩ (Value.ref a :: argsL).toArray v B ∧
      ∀ target, Steps p.tables e below (B.U.setTop { g with pc := g.pc + 3, stack := v.toList ++ rest }) target → Steps p.tables e below (T.setTop g) target) ∨
    (∃ (q : Addr) (vm₁ : Vm) (B : Pt), s.WarmedH vm₁ ∧ Stand p l e R s m args below meth c B.U B.locs B.cells B.slots ∧ PostX ⟨T.setVm vm₁, locs, cells, slots⟩ (Value.ref a :: argsL).toArray q B ∧
      Steps p.tables e below (T.setTop g) ((B.U.setTop { g with stack := rest }).pushFrame (.throwing q))) := by
  subst hg
  have hpl : e.platform.magicAccessors = ({} : Platform).magicAccessors := by rw [X.admits.platform]
  obtain ⟨mk, methM, cM, kP, vm₁, hnamed, hmethM, hcodeM, -, hlocalsM, -, hkP, -, hW₁, hstep₁⟩ := Steps.initColdArgs (e := e) X.here hexec X.warmed hpl hown hy1 hy hlink hinst hcode (f := g) rfl hlen hstack hdg
  have X₁ := X.noted hW₁
  rcases hK g.method meth c ⟨T.setVm vm₁, locs, cells, slots⟩ { g with stack := rest } (.invokespecial index) mk (Value.ref a :: argsL).toArray X₁ rfl hsize hdg hW (X₁.named hnamed) (hpre vm₁ X₁.warmed) with ⟨v, B, X', hpost, hsteps⟩ | ⟨q, B, X', hpost, hsteps⟩
  · exact Or.inl ⟨v, vm₁, B, X₁.warmed, X', hpost, fun target h => hstep₁ _ fun acts => by rw [doInvoke_state]; exact hsteps.trans h⟩
  · exact Or.inr ⟨q, vm₁, B, X₁.warmed, X', hpost, hstep₁ _ fun acts => by rw [doInvoke_state]; exact hsteps⟩
end VXIA
section VXIB
variable {p : Program} {l : Launch} {e : Env} {R : Room} {s : State} {m : MethodId} {args : Array Value} {below : List Frame} {meth : Method} {c : Code} {H : Heap} {locs : List Loc} {cells slots : Nat}
variable {y : MethodName} {bytes cc : ByteArray} {maxL nL mc ms n index : Nat} {ret : Option FieldType} {ws : List Cond} {rm : Room} {Pc : Array Value → State → Prop} {Qc : Array Value → State → Outcome → State → Prop} {XC : String → State → State → Prop} {free : Addr → Prop} {Ts : List Cond} {own C : String} {b : Addr} {As rest : List Value} {g : JFrame}
theorem vx_runI (S : CallFix p m c cc nL s args Ts own) (hM : vx_Met l y ws rm Pc Qc XC mc ms free) (cw : CallB R s args own index y bytes maxL none ws rm mc ms n ∧ y.name = "<init>" ∧ (Cond.instanceMethod y).before args s = true) (hp : PreS s H Pc (.ref b :: As))
    (hg : g.method = m) (hn : As.length = n) (hsize : g.locals.size = nL) (hstack : g.stack = As.reverse ++ .ref b :: rest) (hW : 2 * g.monitorRoom + (rest.map fun v => v.category).sum ≤ 8) (hdg : decode cc g.pc = .ok (.invokespecial index, 3)) (hf : cells + mc ≤ R.cells ∧ slots + ms ≤ R.slots) :
    vx_Run p l e R s m args below meth c H locs cells slots mc ms g rest (Qc (Value.ref b :: As).toArray) XC free := by
  have hK : vx_Back l R p e below s args y 3 8 (PreOf R mc ms Pc) (PostOf Qc mc ms free) (vx_Post XC mc ms free) := vx_callBack cw.1 hM hp.1
  obtain ⟨⟨-, -, -, -, -, -, hcode, -, hy, hlen, hl⟩, hy1, hin⟩ := cw
  obtain ⟨hx, hb, hml, ho, -⟩ := S
  have hPc := hp.2
  intro T hT X
  rcases vx_callI X hx (bytes := bytes) (maxL := maxL) ho hy1 hl hin hcode hy hK hg (hsize.trans hml.symm) (a := b) (argsL := As) (rest := rest) (fun sig h => hn.trans (hlen sig h)) hstack hW (by rw [hb]; exact hdg)
    (fun vm₁ hW₁ => ⟨hf.1, hf.2, hPc (T.setVm vm₁) hT hW₁⟩) with ⟨v, vm₁, ⟨U', l2, c2, s2⟩, hW₁, X', ⟨g', mk, t, L, e1, e2, hq, h1, hL, h2, h3⟩, st⟩ | ⟨q, vm₁, ⟨U', l2, c2, s2⟩, hW₁, X', ⟨g', mk, t, L, E, ce, e1, e2, hq, hce, hcv, hcl, h1, hL, h2, h3⟩, st⟩
  · dsimp only [Pt.U, Pt.locs, Pt.cells, Pt.slots] at X' e1 e2 h1 h2 h3 st
    subst h1; subst h2; subst h3
    exact Or.inl ⟨v, (T.setVm vm₁).calling g' mk (Value.ref b :: As).toArray, t, U', L, hT, X', hL, e1, e2, hq, st⟩
  · dsimp only [Pt.U, Pt.locs, Pt.cells, Pt.slots] at X' e1 e2 h1 h2 h3 st hcl
    subst h1; subst h2; subst h3
    exact Or.inr ⟨q, (T.setVm vm₁).calling g' mk (Value.ref b :: As).toArray, t, U', L, E, ce, hT, X', hL, e1, e2, hq, hce, hcv, vx_cls hW₁ hcl, st⟩
end VXIB
/-! ===== END ===== -/
/-! ===== BEGIN a private constructor of a nest mate that throws ===== -/
section VXIC
variable {p : Program} {l : Launch} {e : Env} {R : Room} {s : State} {m : MethodId} {args : Array Value} {below : List Frame} {meth : Method} {c : Code} {T : State} {locs : List Loc} {cells slots : Nat}
theorem vx_callIN (X : Stand p l e R s m args below meth c T locs cells slots) (hexec : p.tables.exec = Jvm.exec) {own : String} {index : Nat} {host : String} {y : MethodName} {bytes : ByteArray} {maxL : Nat}
    (hown : s.vm.findClass own = some m.cls) (hy1 : y.name = "<init>") (hlink : (Cond.methodLinkNest own index y host).before args s = true) (hinst : (Cond.instanceMethod y).before args s = true)
    (hcode : (Cond.code y bytes maxL none).before args s = true) (hy : y.cls ≠ "java/lang/invoke/MethodHandle" ∧ y.cls ≠ "java/lang/invoke/VarHandle")
    {W9 : Nat} {Pre : Pt → Array Value → Prop} {Post : Pt → Array Value → Option Value → Pt → Prop} {PostX : Pt → Array Value → Addr → Pt → Prop} (hK : vx_Back l R p e below s args y 3 W9 Pre Post PostX)
    {g : JFrame} (hg : g.method = m) (hsize : g.locals.size = c.maxLocals) {a : Addr} {argsL rest : List Value} (hlen : ∀ sig, parseMethodDescriptor y.desc = some sig → argsL.length = sig.parameters.length)
    (hstack : g.stack = argsL.reverse ++ .ref a :: rest) (hW : 2 * g.monitorRoom + (rest.map fun v => v.category).sum ≤ W9) (hdg : decode c.code g.pc = .ok (.invokespecial index, 3))
    (hpre : ∀ vm₁, s.WarmedH vm₁ → Pre ⟨T.setVm vm₁, locs, cells, slots⟩ (Value.ref a :: argsL).toArray) :
    (∃ (v : Option Value) (vm₁ : Vm) (B : Pt), s.WarmedH vm₁ ∧ Stand p l e R s m args below meth c B.U B.locs B.cells B.slots ∧ Post ⟨T.setVm vm₁, locs, cells, slots⟩ (Value.ref a :: argsL).toArray v B ∧
      ∀ target, Steps p.tables e below (B.U.setTop { g with pc := g.pc + 3, stack := v.toList ++ rest }) target → Steps p.tables e below (T.setTop g) target) ∨
    (∃ (q : Addr) (vm₁ : Vm) (B : Pt), s.WarmedH vm₁ ∧ Stand p l e R s m args below meth c B.U B.locs B.cells B.slots ∧ PostX ⟨T.setVm vm₁, locs, cells, slots⟩ (Value.ref a :: argsL).toArray q B ∧
      Steps p.tables e below (T.setTop g) ((B.U.setTop { g with stack := rest }).pushFrame (.throwing q))) := by
  subst hg
  have hpl : e.platform.magicAccessors = ({} : Platform).magicAccessors := by rw [X.admits.platform]
  obtain ⟨mk, methM, cM, kP, vm₁, hnamed, hmethM, hcodeM, -, hlocalsM, -, hkP, -, hW₁, hstep₁⟩ := Steps.initColdArgsNest (e := e) X.here hexec X.warmed hpl hown hy1 hy hlink hinst hcode (f := g) rfl hlen hstack hdg
  have X₁ := X.noted hW₁
  rcases hK g.method meth c ⟨T.setVm vm₁, locs, cells, slots⟩ { g with stack := rest } (.invokespecial index) mk (Value.ref a :: argsL).toArray X₁ rfl hsize hdg hW (X₁.named hnamed) (hpre vm₁ X₁.warmed) with ⟨v, B, X', hpost, hsteps⟩ | ⟨q, B, X', hpost, hsteps⟩
  · exact Or.inl ⟨v, vm₁, B, X₁.warmed, X', hpost, fun target h => hstep₁ _ fun acts => by rw [doInvoke_state]; exact hsteps.trans h⟩
  · exact Or.inr ⟨q, vm₁, B, X₁.warmed, X', hpost, hstep₁ _ fun acts => by rw [doInvoke_state]; exact hsteps⟩
end VXIC
section VXID
variable {p : Program} {l : Launch} {e : Env} {R : Room} {s : State} {m : MethodId} {args : Array Value} {below : List Frame} {meth : Method} {c : Code} {H : Heap} {locs : List Loc} {cells slots : Nat}
theorem vx_runIN {y : MethodName} {bytes cc : ByteArray} {maxL nL mc ms n index : Nat} {ws : List Cond} {rm : Room} {Pc : Array Value → State → Prop} {Qc : Array Value → State → Outcome → State → Prop} {XC : String → State → State → Prop} {free : Addr → Prop} {Ts : List Cond} {own host : String} {b : Addr} {As rest : List Value} {g : JFrame}
    (S : CallFix p m c cc nL s args Ts own) (hM : vx_Met l y ws rm Pc Qc XC mc ms free) (cw : va_CN R s args own index y host bytes maxL none ws rm mc ms n ∧ y.name = "<init>" ∧ (Cond.instanceMethod y).before args s = true) (hp : PreS s H Pc (.ref b :: As))
    (hg : g.method = m) (hn : As.length = n) (hsize : g.locals.size = nL) (hstack : g.stack = As.reverse ++ .ref b :: rest) (hW : 2 * g.monitorRoom + (rest.map fun v => v.category).sum ≤ 8) (hdg : decode cc g.pc = .ok (.invokespecial index, 3)) (hf : cells + mc ≤ R.cells ∧ slots + ms ≤ R.slots) :
    vx_Run p l e R s m args below meth c H locs cells slots mc ms g rest (Qc (Value.ref b :: As).toArray) XC free := by
  obtain ⟨⟨⟨hrc, hrs, hfr, hlo, hws, hcw⟩, hcode, hini, hy, hlen, hl⟩, hx1, hx2⟩ := cw
  have hK : vx_Back l R p e below s args y 3 8 (PreOf R mc ms Pc) (PostOf Qc mc ms free) (vx_Post XC mc ms free) := vx_back (bytes := bytes) (maxL := maxL) (ret := none) hM hp.1 hrc hrs hfr hlo hws hcw (fun a' U hW => word_at hW (Or.inl (by first | rfl | simp [Cond.onTables, Cond.keeps, Cond.steady])) hini)
  obtain ⟨hx, hb, hml, ho, -⟩ := S
  have hPc := hp.2
  intro T hT X
  rcases vx_callIN X hx (bytes := bytes) (maxL := maxL) ho hx1 hl hx2 hcode hy hK hg (hsize.trans hml.symm) (a := b) (argsL := As) (rest := rest) (fun sig h => hn.trans (hlen sig h)) hstack hW (by rw [hb]; exact hdg)
    (fun vm₁ hW₁ => ⟨hf.1, hf.2, hPc (T.setVm vm₁) hT hW₁⟩) with ⟨v, vm₁, ⟨U', l2, c2, s2⟩, hW₁, X', ⟨g', mk, t, L, e1, e2, hq, h1, hL, h2, h3⟩, st⟩ | ⟨q, vm₁, ⟨U', l2, c2, s2⟩, hW₁, X', ⟨g', mk, t, L, E, ce, e1, e2, hq, hce, hcv, hcl, h1, hL, h2, h3⟩, st⟩
  · dsimp only [Pt.U, Pt.locs, Pt.cells, Pt.slots] at X' e1 e2 h1 h2 h3 st
    subst h1; subst h2; subst h3
    exact Or.inl ⟨v, (T.setVm vm₁).calling g' mk (Value.ref b :: As).toArray, t, U', L, hT, X', hL, e1, e2, hq, st⟩
  · dsimp only [Pt.U, Pt.locs, Pt.cells, Pt.slots] at X' e1 e2 h1 h2 h3 st hcl
    subst h1; subst h2; subst h3
    exact Or.inr ⟨q, (T.setVm vm₁).calling g' mk (Value.ref b :: As).toArray, t, U', L, E, ce, hT, X', hL, e1, e2, hq, hce, hcv, vx_cls hW₁ hcl, st⟩
end VXID
/-! ===== END ===== -/
/-! worlds in the making: the cells behind the start's heap, in the order of their making -/
def yG (g : zGT) (n : Nat) : zGT := (zl g, zs g, zD g, zc g, fun k => (zs g).heap.size + k, n)
def yOk (g : zGT) : Prop := va_K (zD g) vwCl (ztys g) (zs g) ∧ (∀ w ∈ lw_tbl, w.onTables = true → va_Nw w (zs g)) ∧ va_AO "RailTimeline$State" (zs g) ∧ va_AO "RailTimeline$Command" (zs g)
theorem yG0 {g : zGT} (h : yOk g) (n : Nat) : zG0 (yG g n) := ⟨h.1, fun _ _ _ _ e => Nat.add_left_cancel e, fun _ _ => Nat.le_add_right _ _, h.2.1⟩
theorem y_size {p : Program} {l : Launch} {e : Env} {R : Room} {s : State} {m : MethodId} {args : Array Value} {below : List Frame} {meth : Method} {c : Code} {H : Heap} {locs : List Loc} {ce sl : Nat} {Q : State → Prop} {j : JFrame}
    (k : H.size ≤ s.heap.size + ce → W p l e R s m args below meth c H locs ce sl Q j) : W p l e R s m args below meth c H locs ce sl Q j := by
  intro T hT X
  exact k (by rw [← hT]; exact X.heapSize) T hT X
theorem zL_push {g : zGT} {n : Nat} {w : zW} {c : va_E} : zL (yG g n) w ++ [((zs g).heap.size + n, c)] = zL (yG g (n + 1)) (va_up w n c) := by
  show (List.range n).map (fun k => ((zs g).heap.size + k, w k)) ++ [((zs g).heap.size + n, c)] = (List.range (n + 1)).map (fun k => ((zs g).heap.size + k, va_up w n c k))
  rw [List.range_succ, List.map_append]
  congr 1
  · apply List.map_congr_left
    intro k hk
    have h9 := List.mem_range.mp hk
    rw [va_up_ne _ _ (by omega)]
  · simp [va_up]
theorem zL_len {g : zGT} {w : zW} : (zL g w).length = zn g := by simp [zL]
theorem zL_ext {g : zGT} {w w' : zW} (h : ∀ k, k < zn g → w k = w' k) : zL g w = zL g w' := by
  apply List.map_congr_left
  intro k hk
  rw [h k (List.mem_range.mp hk)]
theorem y_addr {g : zGT} {n q : Nat} {w : zW} {c : va_E} {H : Heap} (hsz : H.size ≤ (zs g).heap.size + (n + 1)) (hP : va_P (zD g) vwCl (zL (yG g n) w ++ [(q, c)]) H) (hD : va_D (zA g) (zL (yG g n) w ++ [(q, c)])) : q = (zs g).heap.size + n := by
  have hl : (zL (yG g n) w).length = n := zL_len
  have hq : (zL (yG g n) w ++ [(q, c)])[n]? = some (q, c) := by
    rw [List.getElem?_append_right (by omega), hl]; simp
  have h1 : q < H.size := (hP n _ hq).lt
  have h2 : (zs g).heap.size ≤ q := hD.2 n _ hq
  by_cases h3 : q = (zs g).heap.size + n
  · exact h3
  · exfalso
    have h4 : q - (zs g).heap.size < n := by omega
    have h5 : (zL (yG g n) w ++ [(q, c)])[q - (zs g).heap.size]? = some ((zs g).heap.size + (q - (zs g).heap.size), w (q - (zs g).heap.size)) := by
      rw [List.getElem?_append_left (by omega)]
      exact zL_get (g := yG g n) h4
    have h6 := hD.1 _ _ _ _ h5 hq (by show (zs g).heap.size + (q - (zs g).heap.size) = q; omega)
    omega
theorem y_low {g : zGT} {n : Nat} {w : zW} {H : Heap} (hP : va_P (zD g) vwCl (zL (yG g n) w) H) (h0 : (zs g).heap.size ≤ H.size) : (zs g).heap.size + n ≤ H.size := by
  cases n with
  | zero => exact h0
  | succ k =>
    have h1 : (zs g).heap.size + k < H.size := (hP k _ (zL_get (g := yG g (k + 1)) (Nat.lt_succ_self k))).lt
    omega
theorem y_ra {U : State} {cA cB : ClassId} {ty : FieldType} (h1 : va_RA U cA ty) (h2 : va_RA U cB ty) : cA = cB := by
  cases ty with
  | object C =>
    obtain ⟨_, _, _, _, _, e1⟩ := h1
    obtain ⟨_, _, _, _, _, e2⟩ := h2
    exact Option.some.inj (e1.symm.trans e2)
  | _ =>
    have e1 : U.vm.findClass _ = some cA := h1
    have e2 : U.vm.findClass _ = some cB := h2
    exact Option.some.inj (e1.symm.trans e2)
/-- what holds all through a body in such a world -/
def yCx (g : zGT) (M : zMD) (p : Program) (s : State) (m : MethodId) (args : Array Value) (meth : Method) (c : Code) : Prop := zCx (yG g 0) M p s m args meth c ∧ (M.1.name = "<init>" → meth.name = "<init>") ∧ yOk g
theorem yCx.K {g : zGT} {M : zMD} {p : Program} {s : State} {m : MethodId} {args : Array Value} {meth : Method} {c : Code} (C : yCx g M p s m args meth c) : va_K (zD g) vwCl (ztys g) s := va_K.moved C.1.2.2.2.2.2.2.2.2.1.1.alike C.2.2.1
theorem yCx.I {g : zGT} {M : zMD} {p : Program} {s : State} {m : MethodId} {args : Array Value} {meth : Method} {c : Code} (C : yCx g M p s m args meth c) : zGI g s := C.1.2.2.2.2.2.2.2.2.1
theorem yCx.G {g : zGT} {M : zMD} {p : Program} {s : State} {m : MethodId} {args : Array Value} {meth : Method} {c : Code} (C : yCx g M p s m args meth c) (n : Nat) : zG0 (yG g n) := yG0 C.2.2 n
theorem yCx.A {g : zGT} {M : zMD} {p : Program} {s : State} {m : MethodId} {args : Array Value} {meth : Method} {c : Code} (C : yCx g M p s m args meth c) : ∀ q, s.heap.size ≤ q → zA g q := fun _ h => Nat.le_trans C.I.2.1 h
abbrev yQ := List Frame → Array Value → State → State → Prop
def yTr (g : zGT) (M : zMD) (R : Room) (Qf : yQ) (ce sl pc : Nat) (lv : List (Nat × Value)) (st : List Value) (n : Nat) (w : zW) : Prop :=
  ∀ (p : Program) (e : Env) (s : State) (m : MethodId) (args : Array Value) (below : List Frame) (meth : Method) (c : Code) (H : Heap) (locs : List Loc) (ls : Array Slot),
    yCx g M p s m args meth c → s.heap.size + ce ≤ (zs g).heap.size + n → va_P (zD g) vwCl (zL (yG g n) w) H → va_S (zA g) s.heap H locs → lv_has ls M.2.2.1 lv →
    W p (zl g) e R s m args below meth c H locs ce sl (Qf below args s) (F0 m pc ls st)
def yPc (g : zGT) (As : List Value) (n : Nat) (w : zW) : Array Value → State → Prop := fun v U => v = As.toArray ∧ zGI g U ∧ U.heap.size = (zs g).heap.size + n ∧ va_P (zD g) vwCl (zL (yG g n) w) U.heap
def yQc (g : zGT) (n : Nat) (w : zW) : Array Value → State → Outcome → State → Prop := fun _ st o t => (o = .returned none ∧ va_P (zD g) vwCl (zL (yG g n) w) t.heap) ∧ va_F (zA g) st t
def yXc : String → State → State → Prop := fun _ _ _ => False
def yCt (g : zGT) (y : MethodName) (b : ByteArray) (nl : Nat) (R : Room) (As : List Value) (n : Nat) (w w' : zW) : Prop := vx_Met (zl g) y (.code y b nl none :: ztb) R (yPc g As n w) (yQc g (n + R.cells) w') yXc R.cells R.slots (zA g)
def yE (g : zGT) (R : Room) (n : Nat) (w : zW) : yQ := fun below args s => vx_MQ below (yQc g n w) yXc args s R.cells R.slots (zA g)
theorem yPc_blind {g : zGT} {As : List Value} {n : Nat} {w : zW} : FrameBlind (yPc g As n w) := fun _ _ _ _ h => h
theorem yCt_of {g : zGT} {y : MethodName} {b : ByteArray} {nl : Nat} {R : Room} {As : List Value} {n : Nat} {w w' : zW} (hp : plainName y.cls = true) (h0 : yOk g) (lv : List (Nat × Value)) (hlv : lv_args 0 As = lv) (hn : (lg_sl As).length ≤ nl)
    (k : yTr g (y, b, nl, none) R (yE g R (n + R.cells) w') 0 0 0 lv [] n w) : yCt g y b nl R As n w w' := by
  subst hlv
  refine vx_ofW hp rfl ?_
  intro p e s m args below meth c s₁ B hml ht hP
  obtain ⟨rfl, hGI, hsz, hW⟩ := hP
  rw [lg_entry_eq]
  exact k p e s m _ below meth c s.heap [] _ ⟨⟨B.exec, B.bytes, hml, findClass_of_methodNamed B.named, fun w hw => atoms_spec (ws := .code y b nl none :: ztb) B.pre _ (List.mem_cons_of_mem _ hw), B.returns, B.notSynchronized, ht, hGI, yG0 h0 0⟩, fun h => ((name_of_methodNamed B.named B.method).1).trans h, h0⟩ (by omega) hW va_S.rf (lv_entry As hn)
section YR
variable {g : zGT} {M : zMD} {R : Room} {Qf : yQ} {ce sl pc : Nat} {lv lv' : List (Nat × Value)} {st rest : List Value} {n : Nat} {w : zW}
theorem y_weq {w' : zW} (h : ∀ k, k < n → w k = w' k) (k : yTr g M R Qf ce sl pc lv st n w') : yTr g M R Qf ce sl pc lv st n w :=
  fun p e s m args below meth c H locs ls C hz hW hS hl => k p e s m args below meth c H locs ls C hz (by rw [← zL_ext (g := yG g n) h]; exact hW) hS hl
theorem y_eq {pc' ce' sl' n' : Nat} {st' : List Value} (h1 : pc = pc') (h2 : st = st') (h3 : ce = ce') (h4 : sl = sl') (h5 : n = n') (k : yTr g M R Qf ce' sl' pc' lv st' n' w) : yTr g M R Qf ce sl pc lv st n w := by
  subst h1; subst h2; subst h3; subst h4; subst h5; exact k
theorem y_iconst {x : Int} {v : Int32} (d : decode M.2.1 pc = .ok (.iconst x, 1)) (hv : Int32.ofInt x = v) (k : yTr g M R Qf ce sl (pc + 1) lv (.int v :: rest) n w) : yTr g M R Qf ce sl pc lv rest n w :=
  fun p e s m args below meth c H locs ls C hz hW hS hl => lv_iconst C.1.1 C.1.2.1 d hv (k p e s m args below meth c H locs ls C hz hW hS hl)
theorem y_bipush {x : Int} {v : Int32} (d : decode M.2.1 pc = .ok (.bipush x, 2)) (hv : (Int8.ofInt x).toInt32 = v) (k : yTr g M R Qf ce sl (pc + 2) lv (.int v :: rest) n w) : yTr g M R Qf ce sl pc lv rest n w :=
  fun p e s m args below meth c H locs ls C hz hW hS hl => lv_bipush C.1.1 C.1.2.1 d hv (k p e s m args below meth c H locs ls C hz hW hS hl)
theorem y_sipush {x : Int} {v : Int32} (d : decode M.2.1 pc = .ok (.sipush x, 3)) (hv : (Int16.ofInt x).toInt32 = v) (k : yTr g M R Qf ce sl (pc + 3) lv (.int v :: rest) n w) : yTr g M R Qf ce sl pc lv rest n w :=
  fun p e s m args below meth c H locs ls C hz hW hS hl => lv_sipush C.1.1 C.1.2.1 d hv (k p e s m args below meth c H locs ls C hz hW hS hl)
theorem y_iload_n {k4 : Fin 4} {x : Int32} (d : decode M.2.1 pc = .ok (.iload_n k4, 1)) (hx : lv.lookup (k4 : Nat) = some (.int x)) (k : yTr g M R Qf ce sl (pc + 1) lv (.int x :: rest) n w) : yTr g M R Qf ce sl pc lv rest n w :=
  fun p e s m args below meth c H locs ls C hz hW hS hl => lv_iload_n C.1.1 C.1.2.1 d rfl (lv_get hl hx) (k p e s m args below meth c H locs ls C hz hW hS hl)
theorem y_aload_n {k4 : Fin 4} {x : Nat} (d : decode M.2.1 pc = .ok (.aload_n k4, 1)) (hx : lv.lookup (k4 : Nat) = some (.ref x)) (k : yTr g M R Qf ce sl (pc + 1) lv (.ref x :: rest) n w) : yTr g M R Qf ce sl pc lv rest n w :=
  fun p e s m args below meth c H locs ls C hz hW hS hl => lv_aload_n C.1.1 C.1.2.1 d rfl (lv_get hl hx) (k p e s m args below meth c H locs ls C hz hW hS hl)
theorem y_istore_n {k4 : Fin 4} {x : Int32} (d : decode M.2.1 pc = .ok (.istore_n k4, 1)) (hn : (k4 : Nat) < M.2.2.1) (hlv : lv_sto lv (k4 : Nat) (.int x) = lv') (k : yTr g M R Qf ce sl (pc + 1) lv' rest n w) : yTr g M R Qf ce sl pc lv (.int x :: rest) n w :=
  fun p e s m args below meth c H locs ls C hz hW hS hl => lv_istore_n C.1.1 C.1.2.1 d rfl hl hn rfl (fun ls1 hl1 => k p e s m args below meth c H locs ls1 C hz hW hS (lv_re hl1 hlv))
theorem y_istore {i : Nat} {x : Int32} (d : decode M.2.1 pc = .ok (.istore i, 2)) (hn : i < M.2.2.1) (hlv : lv_sto lv i (.int x) = lv') (k : yTr g M R Qf ce sl (pc + 2) lv' rest n w) : yTr g M R Qf ce sl pc lv (.int x :: rest) n w :=
  fun p e s m args below meth c H locs ls C hz hW hS hl => lv_istore C.1.1 C.1.2.1 d hl hn rfl (fun ls1 hl1 => k p e s m args below meth c H locs ls1 C hz hW hS (lv_re hl1 hlv))
theorem y_astore_n {k4 : Fin 4} {x : Nat} (d : decode M.2.1 pc = .ok (.astore_n k4, 1)) (hn : (k4 : Nat) < M.2.2.1) (hlv : lv_sto lv (k4 : Nat) (.ref x) = lv') (k : yTr g M R Qf ce sl (pc + 1) lv' rest n w) : yTr g M R Qf ce sl pc lv (.ref x :: rest) n w :=
  fun p e s m args below meth c H locs ls C hz hW hS hl => lv_astore_n C.1.1 C.1.2.1 d rfl hl hn rfl (fun ls1 hl1 => k p e s m args below meth c H locs ls1 C hz hW hS (lv_re hl1 hlv))
theorem y_astore {i : Nat} {x : Nat} (d : decode M.2.1 pc = .ok (.astore i, 2)) (hn : i < M.2.2.1) (hlv : lv_sto lv i (.ref x) = lv') (k : yTr g M R Qf ce sl (pc + 2) lv' rest n w) : yTr g M R Qf ce sl pc lv (.ref x :: rest) n w :=
  fun p e s m args below meth c H locs ls C hz hW hS hl => lv_astore C.1.1 C.1.2.1 d hl hn rfl (fun ls1 hl1 => k p e s m args below meth c H locs ls1 C hz hW hS (lv_re hl1 hlv))
theorem y_iinc_n {i x a : Nat} (d : decode M.2.1 pc = .ok (.iinc i (x : Int), 3)) (hx : lv.lookup i = some (.int (nI a))) (hn : i < M.2.2.1) (hlv : lv_sto lv i (.int (nI (a + x))) = lv') (k : yTr g M R Qf ce sl (pc + 3) lv' rest n w) : yTr g M R Qf ce sl pc lv rest n w :=
  fun p e s m args below meth c H locs ls C hz hW hS hl => by
    obtain ⟨k0, hk0⟩ := lv_plc hx
    exact lv_iinc C.1.1 C.1.2.1 d hl hk0 (v := nI (a + x)) (by rw [← nI_add]; rfl) hn rfl (fun ls1 hl1 => k p e s m args below meth c H locs ls1 C hz hW hS (lv_re hl1 hlv))
theorem y_dup {va : Value} (d : decode M.2.1 pc = .ok (.dup, 1)) (hva : va.category = 1) (k : yTr g M R Qf ce sl (pc + 1) lv (va :: va :: rest) n w) : yTr g M R Qf ce sl pc lv (va :: rest) n w :=
  fun p e s m args below meth c H locs ls C hz hW hS hl => lv_dup C.1.1 C.1.2.1 d hva (k p e s m args below meth c H locs ls C hz hW hS hl)
theorem y_goto {off : Int} {tgt : Nat} (d : decode M.2.1 pc = .ok (.goto off, 3)) (ht : (pc : Int) + off = (tgt : Int)) (k : yTr g M R Qf ce sl tgt lv rest n w) : yTr g M R Qf ce sl pc lv rest n w :=
  fun p e s m args below meth c H locs ls C hz hW hS hl => lv_goto C.1.1 C.1.2.1 d ht (k p e s m args below meth c H locs ls C hz hW hS hl)
theorem y_icmp_ge {x y : Int32} {off : Int} {tgt : Nat} (d : decode M.2.1 pc = .ok (.if_icmp .ge off, 3)) (ht : (pc : Int) + off = (tgt : Int)) (kt : y ≤ x → yTr g M R Qf ce sl tgt lv rest n w) (kf : ¬ y ≤ x → yTr g M R Qf ce sl (pc + 3) lv rest n w) : yTr g M R Qf ce sl pc lv (.int y :: .int x :: rest) n w :=
  fun p e s m args below meth c H locs ls C hz hW hS hl => lv_icmp_ge C.1.1 C.1.2.1 d ht (fun h => kt h p e s m args below meth c H locs ls C hz hW hS hl) (fun h => kf h p e s m args below meth c H locs ls C hz hW hS hl)
theorem y_icmp_ge_n {a b : Nat} {off : Int} {tgt : Nat} (d : decode M.2.1 pc = .ok (.if_icmp .ge off, 3)) (ht : (pc : Int) + off = (tgt : Int)) (ha : a < 2 ^ 31) (hb : b < 2 ^ 31) (kt : b ≤ a → yTr g M R Qf ce sl tgt lv rest n w) (kf : a < b → yTr g M R Qf ce sl (pc + 3) lv rest n w) : yTr g M R Qf ce sl pc lv (.int (nI b) :: .int (nI a) :: rest) n w :=
  y_icmp_ge d ht (fun h => kt ((nI_leI hb ha).mp h)) (fun h => kf (Nat.not_le.mp (fun z => h ((nI_leI hb ha).mpr z))))
theorem y_gets {own C ds nm : String} {idx : Nat} {v : Value} (d : decode M.2.1 pc = .ok (.getstatic idx, 3)) (hl : Cond.fieldLink own idx C nm ds ∈ ztb) (ho : own = M.1.cls) (hZ : va_Z C nm ds v (zA g) (zs g) (zs g).heap)
    (kk : yTr g M R Qf ce sl (pc + 3) lv (v :: rest) n w) : yTr g M R Qf ce sl pc lv rest n w := by
  intro p e s m args below meth c H locs ls C' hz hW hS hl'
  subst ho
  exact va_gets C'.1.1 C'.1.2.1 ((va_Z.moved C'.I.1.alike hZ).kept (zGI_A C'.I)) hS C'.1.2.2.2.1 (C'.1.2.2.2.2.1 _ hl) (fun x h => h) d (kk p e s m args below meth c H locs ls C' hz hW hS hl')
theorem y_getf {own : String} {idx ci k j a : Nat} {fs : List Value} {v : Value} (d : decode M.2.1 pc = .ok (.getfield idx, 3)) (L : zFL own idx ci k) (ho : own = M.1.cls) (hj : j < n) (ha : a = (zs g).heap.size + j) (hw : w j = .inr (ci, fs)) (hv : fs[k]? = some v)
    (kk : yTr g M R Qf ce sl (pc + 3) lv (v :: rest) n w) : yTr g M R Qf ce sl pc lv (.ref a :: rest) n w := by
  intro p e s m args below meth c H locs ls C hz hW hS hl
  obtain ⟨CC, T, N, hc, hk, hin, hlk⟩ := L
  subst ho; subst ha
  exact va_get C.1.1 C.1.2.1 C.1.2.2.2.2.1 hin C.1.2.2.2.1 C.K hW j (by rw [zL_get (g := yG g n) hj, hw]; rfl) hc k hk (C.1.2.2.2.2.1 _ hlk) (fun x h => h) hv d (kk p e s m args below meth c H locs ls C hz hW hS hl)
theorem y_putf {own : String} {idx ci k j a : Nat} {fs fs' : List Value} {v : Value} {ty : FieldType} (d : decode M.2.1 pc = .ok (.putfield idx, 3)) (L : zFL own idx ci k) (F : zFT ci k ty) (ho : own = M.1.cls) (hj : j < n) (ha : a = (zs g).heap.size + j) (hw : w j = .inr (ci, fs)) (hn : narrow ty v = v) (hfit : fits ty v = true) (hlen : k < fs.length) (he : fs.set k v = fs')
    (kk : yTr g M R Qf ce sl (pc + 3) lv rest n (va_up w j (.inr (ci, fs')))) : yTr g M R Qf ce sl pc lv (v :: .ref a :: rest) n w := by
  intro p e s m args below meth c H locs ls C hz hW hS hl
  obtain ⟨CC, T, N, hc, hk, hin, hlk⟩ := L
  obtain ⟨CC2, T2, N2, ty0, hc2, hty, hnm, hfin, hd⟩ := F
  cases Option.some.inj (hc.symm.trans hc2)
  subst ho; subst ha; subst he
  refine va_put C.1.1 C.1.2.1 C.1.2.2.2.2.1 hin ty0 hty hnm C.1.2.2.2.1 C.K hW (zD_ok (C.G n) w) hS j (by rw [zL_get (g := yG g n) hj, hw]; rfl) hc k hk (C.1.2.2.2.2.1 _ hlk) (fun x h => h) hfin hd hn hfit hlen d (fun H1 locs1 hP1 _ hS1 => ?_)
  have hP2 : va_P (zD g) vwCl ((zL (yG g n) w).set j (za (yG g n) j, .inr (ci, fs.set k v))) H1 := hP1
  rw [zL_set (g := yG g n) hj] at hP2
  exact kk p e s m args below meth c H1 locs1 ls C hz hP2 hS1 hl
/-- a final field, in its own constructor -/
def zFF (own : String) (ci k : Nat) (ty : FieldType) : Prop := ∃ (C : String) (T : u_T) (N : Nat) (ty0 : Nat → FieldType), vwCl[ci]? = some (C, T, N) ∧ (∀ k, k < N → parseFieldDescriptor (T k).2.2.1 = some (ty0 k)) ∧ (∀ a, a < N → ∀ b, b < N → a ≠ b → (T a).2.1 ≠ (T b).2.1) ∧ (T k).2.2.2 = true ∧ (T k).1 = own ∧ parseFieldDescriptor (T k).2.2.1 = some ty
theorem y_putF {own : String} {idx ci k j a : Nat} {fs fs' : List Value} {v : Value} {ty : FieldType} (d : decode M.2.1 pc = .ok (.putfield idx, 3)) (L : zFL own idx ci k) (F : zFF own ci k ty) (ho : own = M.1.cls) (hi : M.1.name = "<init>") (hj : j < n) (ha : a = (zs g).heap.size + j) (hw : w j = .inr (ci, fs)) (hn : narrow ty v = v) (hfit : fits ty v = true) (hlen : k < fs.length) (he : fs.set k v = fs')
    (kk : yTr g M R Qf ce sl (pc + 3) lv rest n (va_up w j (.inr (ci, fs')))) : yTr g M R Qf ce sl pc lv (v :: .ref a :: rest) n w := by
  intro p e s m args below meth c H locs ls C hz hW hS hl
  obtain ⟨CC, T, N, hc, hk, hin, hlk⟩ := L
  obtain ⟨CC2, T2, N2, ty0, hc2, hty, hnm, hfin, hdecl, hd⟩ := F
  cases Option.some.inj (hc.symm.trans hc2)
  subst ho; subst ha; subst he
  refine va_putF C.1.1 C.1.2.1 C.1.2.2.2.2.1 hin ty0 hty hnm C.1.2.2.2.1 C.K hW (zD_ok (C.G n) w) hS j (by rw [zL_get (g := yG g n) hj, hw]; rfl) hc k hk (C.1.2.2.2.2.1 _ hlk) (fun x h => h) hfin (C.2.1 hi) hdecl hd hn hfit hlen d (fun H1 locs1 hP1 _ hS1 => ?_)
  have hP2 : va_P (zD g) vwCl ((zL (yG g n) w).set j (za (yG g n) j, .inr (ci, fs.set k v))) H1 := hP1
  rw [zL_set (g := yG g n) hj] at hP2
  exact kk p e s m args below meth c H1 locs1 ls C hz hP2 hS1 hl
theorem y_iast {j N a i : Nat} {f : Nat → Int32} {x : Int32} (d : decode M.2.1 pc = .ok (.iastore, 1)) (hj : j < n) (ha : a = (zs g).heap.size + j) (hw : w j = zI g N f) (hi : i < N) (hN : N < 2 ^ 31)
    (kk : yTr g M R Qf ce sl (pc + 1) lv rest n (va_up w j (zI g N (upd f i x)))) : yTr g M R Qf ce sl pc lv (.int x :: .int (nI i) :: .ref a :: rest) n w := by
  intro p e s m args below meth c H locs ls C hz hW hS hl
  subst ha
  refine va_iast C.1.1 C.1.2.1 C.K hW (zD_ok (C.G n) w) hS j 0 (by rw [zL_get (g := yG g n) hj, hw]; rfl) rfl (vp_in_nI hi hN) d (fun H1 locs1 hP1 _ hS1 => ?_)
  rw [nI_clamp (Nat.lt_trans hi hN)] at hP1
  have hP2 : va_P (zD g) vwCl ((zL (yG g n) w).set j (za (yG g n) j, zI g N (upd f i x))) H1 := hP1
  rw [zL_set (g := yG g n) hj] at hP2
  exact kk p e s m args below meth c H1 locs1 ls C hz hP2 hS1 hl
theorem y_iast2 {j N a i : Nat} {f : Nat → Int32} {x : Int32} (d : decode M.2.1 pc = .ok (.iastore, 1)) (hj : j < n) (ha : a = (zs g).heap.size + j) (hi : i < N) (hN : N < 2 ^ 31)
    (kk : yTr g M R Qf ce sl (pc + 1) lv rest n (va_up w j (zI g N (upd f i x)))) : yTr g M R Qf ce sl pc lv (.int x :: .int (nI i) :: .ref a :: rest) n (va_up w j (zI g N f)) :=
  y_iast d hj ha (va_up_self _ _ _) hi hN (y_weq (w' := va_up w j (zI g N (upd f i x))) (fun k _ => by
    by_cases h : k = j
    · subst h; rw [va_up_self, va_up_self]
    · rw [va_up_ne _ _ h, va_up_ne _ _ h, va_up_ne _ _ h]) kk)
theorem y_alen {j t0 a : Nat} {cA : ClassId} {x : vp_A} {ty : FieldType} {v : Int32} (d : decode M.2.1 pc = .ok (.arraylength, 1)) (hj : j < n) (ha : a = (zs g).heap.size + j) (ht : (ztys g)[t0]? = some (cA, ty)) (hw : w j = .inl (cA, x)) (hv : Int32.ofNat x.1 = v)
    (kk : yTr g M R Qf ce sl (pc + 1) lv (.int v :: rest) n w) : yTr g M R Qf ce sl pc lv (.ref a :: rest) n w := by
  intro p e s m args below meth c H locs ls C hz hW hS hl
  subst ha
  exact va_alen C.1.1 C.1.2.1 C.K hW j t0 (by rw [zL_get (g := yG g n) hj, hw]; rfl) ht hv d (kk p e s m args below meth c H locs ls C hz hW hS hl)
theorem y_aast {j k t0 ci N i a q : Nat} {cA : ClassId} {r : vw_C} {vs : List Value} {f : Nat → Option Nat} (d : decode M.2.1 pc = .ok (.aastore, 1)) (hj : j < n) (ha : a = (zs g).heap.size + j) (hk : k < n) (hq : q = (zs g).heap.size + k) (ht : (ztys g)[t0]? = some (cA, .object r.1)) (hw : w j = .inl (cA, N, .inr (.inr (.inr (.inr f))))) (hv : w k = .inr (ci, vs)) (hc : vwCl[ci]? = some r) (hi : i < N) (hN : N < 2 ^ 31)
    (kk : yTr g M R Qf ce sl (pc + 1) lv rest n (va_up w j (.inl (cA, N, .inr (.inr (.inr (.inr (va_up f i (some ((zs g).heap.size + k)))))))))) : yTr g M R Qf ce sl pc lv (.ref q :: .int (nI i) :: .ref a :: rest) n w := by
  intro p e s m args below meth c H locs ls C hz hW hS hl
  subst ha; subst hq
  refine va_astq C.1.1 C.1.2.1 C.K hW (zD_ok (C.G n) w) hS j t0 k ci (by rw [zL_get (g := yG g n) hj, hw]; rfl) ht (by rw [zL_get (g := yG g n) hk, hv]; rfl) hc (vp_in_nI hi hN) d (fun H1 locs1 hP1 _ hS1 => ?_)
  rw [nI_clamp (Nat.lt_trans hi hN)] at hP1
  have hP2 : va_P (zD g) vwCl ((zL (yG g n) w).set j (za (yG g n) j, .inl (cA, N, .inr (.inr (.inr (.inr (va_up f i (some ((zs g).heap.size + k))))))))) H1 := hP1
  rw [zL_set (g := yG g n) hj] at hP2
  exact kk p e s m args below meth c H1 locs1 ls C hz hP2 hS1 hl
def yNL (own : String) (idx ci : Nat) (fs : List Value) : Prop := ∃ (C : String) (T : u_T) (ty0 : Nat → FieldType), vwCl[ci]? = some (C, T, fs.length) ∧ (∀ w ∈ u_ws C T fs.length, w ∈ ztb) ∧ (∀ k, k < fs.length → parseFieldDescriptor (T k).2.2.1 = some (ty0 k)) ∧ Cond.classLink own idx C ∈ ztb ∧ Cond.instantiable C fs.length ∈ ztb ∧ Cond.initialized C ∈ ztb ∧ ∀ j, j < fs.length → defaultValue (ty0 j) = vp_V fs j
theorem y_new {own : String} {idx ci : Nat} {fs : List Value} (d : decode M.2.1 pc = .ok (.new idx, 3)) (L : yNL own idx ci fs) (ho : own = M.1.cls) (hce : ce + 1 ≤ R.cells) (hsl : sl + fs.length ≤ R.slots)
    (kk : yTr g M R Qf (ce + 1) (sl + fs.length) (pc + 3) lv (.ref ((zs g).heap.size + n) :: rest) (n + 1) (va_up w n (.inr (ci, fs)))) : yTr g M R Qf ce sl pc lv rest n w := by
  intro p e s m args below meth c H locs ls C hz hW hS hl
  obtain ⟨CC, T, ty0, hc, hin, hty, h1, h2, h3, hfs⟩ := L
  subst ho
  refine va_new C.1.1 C.1.2.1 C.1.2.2.2.2.1 hin ty0 hty C.1.2.2.2.1 (C.1.2.2.2.2.1 _ h1) (C.1.2.2.2.2.1 _ h2) (C.1.2.2.2.2.1 _ h3) C.K hW (zD_ok (C.G n) w) hS C.A hc hfs hce hsl d (fun q H1 hP hD hS1 => y_size (fun hsz => ?_))
  have hq : q = (zs g).heap.size + n := y_addr (by omega) hP hD
  subst hq
  rw [zL_push] at hP
  exact kk p e s m args below meth c H1 locs ls C (by omega) hP hS1 hl
theorem y_newa {atype : ArrayType} {ty : FieldType} {t0 N : Nat} {cA0 : ClassId} {a0 : vp_A} (d : decode M.2.1 pc = .ok (.newarray atype, 2)) (hty : newarray.typeOf atype = ty) (harr : Cond.arrayClass (newarray.typeOf atype) ∈ ztb) (ht : (ztys g)[t0]? = some (cA0, ty))
    (ha : ∀ cA : ClassId, vp_cell cA a0 = arrV cA N (fun _ => defaultValue ty)) (hN : N < 2 ^ 31) (hb : N * componentBytes ty ≤ 536870912) (hce : ce + 1 ≤ R.cells) (hsl : sl + N ≤ R.slots)
    (kk : yTr g M R Qf (ce + 1) (sl + N) (pc + 2) lv (.ref ((zs g).heap.size + n) :: rest) (n + 1) (va_up w n (.inl (cA0, a0)))) : yTr g M R Qf ce sl pc lv (.int (nI N) :: rest) n w := by
  intro p e s m args below meth c H locs ls C hz hW hS hl
  refine va_newa C.1.1 C.1.2.1 (atype := atype) (C.1.2.2.2.2.1 _ harr) hty C.K hW (zD_ok (C.G n) w) hS C.A ha (nI_pos hN) (nI_clamp hN) hb hce hsl d (fun q cA H1 hK1 hP hD hS1 => y_size (fun hsz => ?_))
  have hq : q = (zs g).heap.size + n := y_addr (by omega) hP hD
  have hc : cA = cA0 := y_ra (hK1.2 (ztys g).length (cA, ty) (by simp)).2 (C.K.2 t0 _ ht).2
  subst hq; subst hc
  rw [zL_push] at hP
  exact kk p e s m args below meth c H1 locs ls C (by omega) hP hS1 hl
theorem y_newq {own CC : String} {idx t0 N : Nat} {cA0 : ClassId} (d : decode M.2.1 pc = .ok (.anewarray idx, 3)) (hl9 : Cond.classLink own idx CC ∈ ztb) (ho : own = M.1.cls) (hAO : yOk g → va_AO CC (zs g)) (ht : (ztys g)[t0]? = some (cA0, .object CC))
    (hN : N < 2 ^ 31) (hb : N * 4 ≤ 536870912) (hce : ce + 1 ≤ R.cells) (hsl : sl + N ≤ R.slots)
    (kk : yTr g M R Qf (ce + 1) (sl + N) (pc + 3) lv (.ref ((zs g).heap.size + n) :: rest) (n + 1) (va_up w n (.inl (cA0, N, .inr (.inr (.inr (.inr (fun _ => none)))))))) : yTr g M R Qf ce sl pc lv (.int (nI N) :: rest) n w := by
  intro p e s m args below meth c H locs ls C hz hW hS hl
  subst ho
  refine va_newq C.1.1 C.1.2.1 C.1.2.2.2.1 (C.1.2.2.2.2.1 _ hl9) ((hAO C.2.2).moved C.I.1.alike) C.K hW (zD_ok (C.G n) w) hS C.A (nI_pos hN) (nI_clamp hN) hb hce hsl d (fun q cA H1 hK1 hP hD hS1 => y_size (fun hsz => ?_))
  have hq : q = (zs g).heap.size + n := y_addr (by omega) hP hD
  have hc : cA = cA0 := y_ra (hK1.2 (ztys g).length (cA, .object CC) (by simp)).2 (C.K.2 t0 _ ht).2
  subst hq; subst hc
  rw [zL_push] at hP
  exact kk p e s m args below meth c H1 locs ls C (by omega) hP hS1 hl
theorem y_obj {own : String} {idx a : Nat} (d : decode M.2.1 pc = .ok (.invokespecial idx, 3)) (h1 : Cond.methodLink own idx Lib.objectInit ∈ ztb) (h2 : Cond.instanceMethod Lib.objectInit ∈ ztb) (h3 : Cond.code Lib.objectInit ⟨#[0xb1]⟩ 1 none ∈ ztb) (ho : own = M.1.cls) (hf : 1 ≤ R.frames) (hlo : (rest.map fun v => v.category).sum + 12 ≤ R.locals)
    (kk : yTr g M R Qf ce sl (pc + 3) lv rest n w) : yTr g M R Qf ce sl pc lv (.ref a :: rest) n w := by
  intro p e s m args below meth c H locs ls C hz hW hS hl
  subst ho
  exact W.objInit C.1.1 C.1.2.1 C.1.2.2.2.1 (C.1.2.2.2.2.1 _ h1) (C.1.2.2.2.2.1 _ h2) (C.1.2.2.2.2.1 _ h3) (g := F0 m pc ls (.ref a :: rest)) rfl (hl.1.trans C.1.2.2.1.symm) rfl d hf (by simpa using hlo) (kk p e s m args below meth c H locs ls C hz hW hS hl)
theorem y_vret {w' : zW} {n' : Nat} (d : decode M.2.1 pc = .ok (.return_, 1)) (hr : M.2.2.2 = none) (hc : ce ≤ R.cells) (hs : sl ≤ R.slots) (hn : n = n') (h : ∀ k, k < n → w k = w' k) : yTr g M R (yE g R n' w') ce sl pc lv [] n w := by
  subst hn
  intro p e s m args below meth c H locs ls C hz hW hS hl
  exact vx_ret (W.widen hc hs (W.vret C.1.1 C.1.2.1 (C.1.2.2.2.2.2.1.trans hr) (fun t ht _ => ⟨⟨rfl, by rw [ht, ← zL_ext (g := yG g n) h]; exact hW⟩, hS.F ht⟩) hS.2.2 d C.1.2.2.2.2.2.2.1))
theorem y_run {R2 : Room} {a : Array Value} {n2 : Nat} {w2 : zW} (hn2 : n2 = n + R2.cells) (kk : yTr g M R Qf (ce + R2.cells) (sl + R2.slots) (pc + 3) lv rest n2 w2)
    {p : Program} {e : Env} {s : State} {m : MethodId} {args : Array Value} {below : List Frame} {meth : Method} {c : Code} {H : Heap} {locs : List Loc} {ls : Array Slot}
    (C : yCx g M p s m args meth c) (hz : s.heap.size + ce ≤ (zs g).heap.size + n) (hS : va_S (zA g) s.heap H locs) (hl : lv_has ls M.2.2.1 lv)
    (hr : vx_Run p (zl g) e R s m args below meth c H locs ce sl R2.cells R2.slots (F0 m pc ls st) rest (yQc g n2 w2 a) yXc (zA g)) :
    W p (zl g) e R s m args below meth c H locs ce sl (Qf below args s) (F0 m pc ls st) := by
  intro T hT X
  rcases hr T hT X with ⟨v, st₀, t, T', L, h0, X', hL, e1, e2, ⟨⟨hv, hP1⟩, hF⟩, st1⟩ | ⟨q, st₀, t, T', L, E, cl, h0, X', hL, e1, e2, hf, hce1, hcv, hcl, st1⟩
  · cases hv
    obtain ⟨k1, k2, k3⟩ := vx_keep (A1 := zA g) h0 e1 hS (fun q _ h => h) (fun q h => h) hL hF
    obtain ⟨t2, a1, b1⟩ := kk p e s m args below meth c T'.heap (locs ++ L) ls C (by omega) (by rw [e1]; exact hP1) k3 hl T' rfl X'
    exact ⟨t2, st1 t2 a1, b1⟩
  · exact hf.elim
/-- what a call of a constructor needs of the words -/
def yLK (y : MethodName) (b : ByteArray) (nl : Nat) : Prop := Cond.code y b nl none ∈ ztb ∧ Cond.instanceMethod y ∈ ztb ∧ Cond.initialized y.cls ∈ ztb ∧ y.name = "<init>" ∧ (y.cls ≠ "java/lang/invoke/MethodHandle" ∧ y.cls ≠ "java/lang/invoke/VarHandle" ∧ (parseMethodDescriptor y.desc).map (fun d => d.parameters.length) = some 0)
theorem yLK.good {y : MethodName} {b : ByteArray} {nl : Nat} (L : yLK y b nl) : GoodIn ztb (.code y b nl none :: ztb) := ztb_good (fun w h => by
  rcases List.mem_cons.mp h with h | h
  · rw [h]; exact L.1
  · exact h)
theorem y_pre {y : zMD} {a : Nat} {p : Program} {s : State} {m : MethodId} {args : Array Value} {meth : Method} {c : Code} {H : Heap} {locs : List Loc} (C : yCx g y p s m args meth c) (hW : va_P (zD g) vwCl (zL (yG g n) w) H) (hS : va_S (zA g) s.heap H locs) (hsz : H.size ≤ (zs g).heap.size + n) : PreS s H (yPc g [.ref a] n w) (.ref a :: []) :=
  ⟨yPc_blind, fun U hU hWm => ⟨rfl, zGI_on C.I hS hU hWm, by
    have h1 := y_low hW (Nat.le_trans C.I.2.1 hS.1)
    rw [hU]; omega, by rw [hU]; exact hW⟩⟩
theorem y_callN {own host : String} {idx a nl : Nat} {y : MethodName} {b : ByteArray} {R2 : Room} {w2 : zW} (d : decode M.2.1 pc = .ok (.invokespecial idx, 3)) (L : yLK y b nl) (hk : Cond.methodLinkNest own idx y host ∈ lw_tbl) (ho : own = M.1.cls)
    (hR : (R2.frames + 1 ≤ R.frames ∧ 8 + (nl + 11) + R2.locals ≤ R.locals) ∧ ce + R2.cells ≤ R.cells ∧ sl + R2.slots ≤ R.slots) (hrest : (rest.map fun v => v.category).sum ≤ 8) (hc : yCt g y b nl R2 [.ref a] n w w2)
    (kk : yTr g M R Qf (ce + R2.cells) (sl + R2.slots) (pc + 3) lv rest (n + R2.cells) w2) : yTr g M R Qf ce sl pc lv (.ref a :: rest) n w := by
  intro p e s m args below meth c H locs ls C hz hW hS hl
  subst ho
  refine y_size (fun hsz => ?_)
  exact y_run rfl kk C hz hS hl (vx_runIN (As := []) (b := a) ⟨C.1.1, C.1.2.1, C.1.2.2.1, C.1.2.2.2.1, C.1.2.2.2.2.1⟩ hc ⟨va_cnB 0 C.1.2.2.2.2.1 L.good rfl rfl rfl (va_Nw.warmM C.I.1 (C.2.2.2.1 _ hk rfl)) (C.1.2.2.2.2.1 _ L.2.2.1) L.2.2.2.2 hR.1, L.2.2.2.1, C.1.2.2.2.2.1 _ L.2.1⟩ (y_pre C hW hS (by omega)) rfl rfl hl.1 rfl (by simpa using hrest) d hR.2)
theorem y_callI {own : String} {idx a nl : Nat} {y : MethodName} {b : ByteArray} {R2 : Room} {w2 : zW} (d : decode M.2.1 pc = .ok (.invokespecial idx, 3)) (L : yLK y b nl) (hk : Cond.methodLink own idx y ∈ ztb) (ho : own = M.1.cls)
    (hR : (R2.frames + 1 ≤ R.frames ∧ 8 + (nl + 11) + R2.locals ≤ R.locals) ∧ ce + R2.cells ≤ R.cells ∧ sl + R2.slots ≤ R.slots) (hrest : (rest.map fun v => v.category).sum ≤ 8) (hc : yCt g y b nl R2 [.ref a] n w w2)
    (kk : yTr g M R Qf (ce + R2.cells) (sl + R2.slots) (pc + 3) lv rest (n + R2.cells) w2) : yTr g M R Qf ce sl pc lv (.ref a :: rest) n w := by
  intro p e s m args below meth c H locs ls C hz hW hS hl
  subst ho
  refine y_size (fun hsz => ?_)
  exact y_run rfl kk C hz hS hl (vx_runI (As := []) (b := a) ⟨C.1.1, C.1.2.1, C.1.2.2.1, C.1.2.2.2.1, C.1.2.2.2.2.1⟩ hc (cwI 0 C.1.2.2.2.2.1 L.good rfl rfl rfl (C.1.2.2.2.2.1 _ L.2.2.1) (C.1.2.2.2.2.1 _ hk) (C.1.2.2.2.2.1 _ L.2.1) L.2.2.2.1 L.2.2.2.2 hR.1) (y_pre C hW hS (by omega)) rfl rfl hl.1 rfl (by simpa using hrest) d hR.2)
end YR
