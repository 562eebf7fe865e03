/-! objects that are there before the law begins: enums, their tables, the words' strings; calls of methods of other classes -/
def ze (g : zGT) (i : Nat) : Nat := za g (1000000 + i)
abbrev zfl : List String := ["NO_FAULT", "INDEX", "ARGUMENT", "STATE", "MISSING"]
abbrev zvn : List String := ["PASS", "REST", "REMOVE", "MUTE", "REVERSE", "COPY", "MODULATE", "REPEAT", "PASTE", "MARK", "UNMARK"]
abbrev zvf : List (String × String × String × List Int32) := [("java/lang/Enum", "ordinal", "I", [0, 1, 2, 3, 4, 5, 6, 7, 8, 9, 10]), ("RailTimeline$Verb", "numbers", "I", [3, 2, 2, 2, 2, 2, 3, 3, 1, 1, 1]), ("RailTimeline$Verb", "isThirdSigned", "Z", [0, 0, 0, 0, 0, 0, 1, 0, 0, 0, 0])]
abbrev zsw : List Int32 := [1, 2, 8, 9, 10, 11, 3, 4, 5, 6, 7]
def zwd (i : Nat) : List Nat := (["pass ", "rest ", "remove ", "mute ", "reverse ", "copy ", "modulate ", "repeat ", "paste ", "mark ", "unmark "].getD i "").toList.map Char.toNat
def zST (g : zGT) : Prop :=
  va_En "RailTimeline$Fault" "LRailTimeline$Fault;" zfl [] (fun i => ze g i) (zA g) (zs g) (zs g).heap ∧
  va_En "RailTimeline$Verb" "LRailTimeline$Verb;" zvn zvf (fun i => ze g (10 + i)) (zA g) (zs g) (zs g).heap ∧
  (va_Z "RailTimeline$1" "$SwitchMap$RailTimeline$Verb" "[I" (.ref (ze g 31)) (zA g) (zs g) (zs g).heap ∧ va_T .int (ze g 31) 11 (fun k => .int (zsw.getD k 0)) (zA g) (zs g) (zs g).heap) ∧
  (va_Z "RailTimeline" "VERBS" "[LRailTimeline$Verb;" (.ref (ze g 30)) (zA g) (zs g) (zs g).heap ∧ va_T (.object "RailTimeline$Verb") (ze g 30) 11 (fun k => .ref (ze g (10 + k))) (zA g) (zs g) (zs g).heap) ∧
  (va_Ef 11 "RailTimeline$Verb" "word" "Ljava/lang/String;" (fun i => .ref (ze g (40 + i))) (fun i => ze g (10 + i)) (zA g) (zs g) (zs g).heap ∧
   va_Ef 11 "java/lang/String" "value" "[B" (fun i => .ref (ze g (60 + i))) (fun i => ze g (40 + i)) (zA g) (zs g) (zs g).heap ∧
   va_Ef 11 "java/lang/String" "coder" "B" (fun _ => .int 0) (fun i => ze g (40 + i)) (zA g) (zs g) (zs g).heap ∧
   (∀ i, i < 11 → va_O "java/lang/String" (ze g (40 + i)) (zA g) (zs g) (zs g).heap) ∧
   (∀ i, i < 11 → va_T .byte (ze g (60 + i)) (zwd i).length (fun k => .int (nI ((zwd i).getD k 0))) (zA g) (zs g) (zs g).heap) ∧
   va_Z "java/lang/String" "COMPACT_STRINGS" "Z" (.int 1) (zA g) (zs g) (zs g).heap) ∧
  ((zl g).stackTraces = false ∧ vx_Zq Bundle.tN "UNASSIGNED_STACK" Bundle.steD (zA g) (zs g) (zs g).heap ∧ vx_Zq Bundle.tN "SUPPRESSED_SENTINEL" Bundle.listD (zA g) (zs g) (zs g).heap ∧
   vk_R RX12 138 "no such time, tick, interval or index" (ze g 80) (zs g) ∧ vk_R RX12 148 "an argument is outside its range" (ze g 81) (zs g) ∧ vk_R RX12 156 "not possible in this state" (ze g 82) (zs g) ∧ vk_R RX12 164 "there is none" (ze g 83) (zs g) ∧ vk_R RX12 262 "the timeline is empty" (ze g 84) (zs g)) ∧
  vx_Zq "jdk/internal/util/Preconditions" "SIOOBE_FORMATTER" "Ljava/util/function/BiFunction;" (zA g) (zs g) (zs g).heap
section ZST
variable {g : zGT} {M : zMD} {R : Room} {ce sl pc : Nat} {lv lv' : List (Nat × Value)} {st rest : List Value} {w : zW} {Post : zP}
/-- getfield of such an object -/
theorem z_getO {own ref n ds : String} {idx t : Nat} {v : Value} (d : decode M.2.1 pc = .ok (.getfield idx, 3)) (hl : Cond.fieldLink own idx ref n ds ∈ ztb) (ho : own = M.1.cls) (hO : va_OF ref n ds v t (zA g) (zs g) (zs g).heap)
    (kk : zTr g M R ce sl (pc + 3) lv (v :: rest) w Post) : zTr g M R ce sl pc lv (.ref t :: rest) w Post := by
  intro p e s m args below meth c H locs ls C' hW hS hl'
  subst ho
  obtain ⟨cf, k, fi, f, cell, h1, h2, h3, h4, h5, h6⟩ := ((va_OF.moved C'.2.2.2.2.2.2.2.2.1.1.alike hO).kept (zGI_A C'.2.2.2.2.2.2.2.2.1)).kept hS.2.1
  exact W.getf C'.1 C'.2.1 C'.2.2.2.1 (C'.2.2.2.2.1 _ hl) h1 h2 h3 h4 (v := v) h5 rfl rfl d (kk p e s m args below meth c H locs ls C' hW hS hl')
theorem z_getON {own ref n ds host : String} {idx t : Nat} {v : Value} (d : decode M.2.1 pc = .ok (.getfield idx, 3)) (hl : Cond.fieldLinkNest own idx ref n ds host ∈ lw_tbl) (ho : own = M.1.cls) (hO : va_OF ref n ds v t (zA g) (zs g) (zs g).heap)
    (kk : zTr g M R ce sl (pc + 3) lv (v :: rest) w Post) : zTr g M R ce sl pc lv (.ref t :: rest) w Post := by
  intro p e s m args below meth c H locs ls C' hW hS hl'
  subst ho
  obtain ⟨cf, k, fi, f, cell, h1, h2, h3, h4, h5, h6⟩ := ((va_OF.moved C'.2.2.2.2.2.2.2.2.1.1.alike hO).kept (zGI_A C'.2.2.2.2.2.2.2.2.1)).kept hS.2.1
  exact va_Wgetf C'.1 C'.2.1 C'.2.2.2.1 (va_Nw.use rfl (va_Nw.warmF C'.2.2.2.2.2.2.2.2.1.1 (C'.2.2.2.2.2.2.2.2.2.2.2.2 _ hl rfl))) h1 h2 h3 h4 (v := v) h5 rfl rfl d (kk p e s m args below meth c H locs ls C' hW hS hl')
/-- elements of such an array -/
theorem z_tabI {t N a : Nat} {f : Nat → Value} {v : Value} (d : decode M.2.1 pc = .ok (.iaload, 1)) (hT : va_T .int t N f (zA g) (zs g) (zs g).heap) (ha : a < N) (hN : N < 2 ^ 31) (hv : f a = v)
    (kk : zTr g M R ce sl (pc + 1) lv (v :: rest) w Post) : zTr g M R ce sl pc lv (.int (nI a) :: .ref t :: rest) w Post := by
  intro p e s m args below meth c H locs ls C' hW hS hl'
  exact va_ti C'.1 C'.2.1 ((va_T.moved C'.2.2.2.2.2.2.2.2.1.1.alike hT).kept (zGI_A C'.2.2.2.2.2.2.2.2.1)) hS (vp_in_nI ha hN) (by rw [nI_clamp (Nat.lt_trans ha hN)]; exact hv) d (kk p e s m args below meth c H locs ls C' hW hS hl')
theorem z_tabB {t N a : Nat} {f : Nat → Value} {v : Value} (d : decode M.2.1 pc = .ok (.baload, 1)) (hT : va_T .byte t N f (zA g) (zs g) (zs g).heap) (ha : a < N) (hN : N < 2 ^ 31) (hv : f a = v)
    (kk : zTr g M R ce sl (pc + 1) lv (v :: rest) w Post) : zTr g M R ce sl pc lv (.int (nI a) :: .ref t :: rest) w Post := by
  intro p e s m args below meth c H locs ls C' hW hS hl'
  exact va_tb C'.1 C'.2.1 ((va_T.moved C'.2.2.2.2.2.2.2.2.1.1.alike hT).kept (zGI_A C'.2.2.2.2.2.2.2.2.1)) hS (vp_in_nI ha hN) (by rw [nI_clamp (Nat.lt_trans ha hN)]; exact hv) d (kk p e s m args below meth c H locs ls C' hW hS hl')
theorem z_tabA {t N a : Nat} {C : String} {f : Nat → Value} {q : Nat} (d : decode M.2.1 pc = .ok (.aaload, 1)) (hT : va_T (.object C) t N f (zA g) (zs g) (zs g).heap) (ha : a < N) (hN : N < 2 ^ 31) (hv : f a = .ref q)
    (kk : zTr g M R ce sl (pc + 1) lv (.ref q :: rest) w Post) : zTr g M R ce sl pc lv (.int (nI a) :: .ref t :: rest) w Post := by
  intro p e s m args below meth c H locs ls C' hW hS hl'
  exact vb_tq C'.1 C'.2.1 ((va_T.moved C'.2.2.2.2.2.2.2.2.1.1.alike hT).kept (zGI_A C'.2.2.2.2.2.2.2.2.1)) hS (vp_in_nI ha hN) (by rw [nI_clamp (Nat.lt_trans ha hN)]; exact hv) d (kk p e s m args below meth c H locs ls C' hW hS hl')
theorem z_tabL {t N : Nat} {ty : FieldType} {f : Nat → Value} (d : decode M.2.1 pc = .ok (.arraylength, 1)) (hT : va_T ty t N f (zA g) (zs g) (zs g).heap)
    (kk : zTr g M R ce sl (pc + 1) lv (.int (nI N) :: rest) w Post) : zTr g M R ce sl pc lv (.ref t :: rest) w Post := by
  intro p e s m args below meth c H locs ls C' hW hS hl'
  exact va_tlen C'.1 C'.2.1 ((va_T.moved C'.2.2.2.2.2.2.2.2.1.1.alike hT).kept (zGI_A C'.2.2.2.2.2.2.2.2.1)) hS rfl d (kk p e s m args below meth c H locs ls C' hW hS hl')
end ZST
section
variable {p : Program} {l : Launch} {e : Env} {R : Room} {s : State} {m : MethodId} {args : Array Value} {below : List Frame} {meth : Method} {c : Code} {H : Heap} {locs : List Loc} {cells slots : Nat}
theorem vx_callVU {T : State} {locs : List Loc} {cells slots : Nat} (X : Stand p l e R s m args below meth c T locs cells slots) (hexec : p.tables.exec = Jvm.exec) {own C owner : String} {index : Nat} {x y : MethodName} {bytes : ByteArray} {maxL : Nat} {ret : Option FieldType}
    (hown : s.vm.findClass own = some m.cls) (hlink : (Cond.methodLink own index x).before args s = true) (hsame : (Cond.sameMethod x.cls owner x.name x.desc).before args s = true)
    (hd0 : va_Decl s ⟨owner, x.name, x.desc⟩) (howner : owner ≠ "java/lang/invoke/MethodHandle" ∧ owner ≠ "java/lang/invoke/VarHandle")
    (hsel : (Cond.selects C x y).before args s = true) (hinst : (Cond.instanceMethod y).before args s = true) (hcode : (Cond.code y bytes maxL ret).before args s = true)
    {W : Nat} {Pre : Pt → Array Value → Prop} {Post : Pt → Array Value → Option Value → Pt → Prop} {PostX : Pt → Array Value → Addr → Pt → Prop} (hK : vx_Back l R p e below s args y 3 W Pre Post PostX)
    {b : Addr} {cellB : Cell} (hcell : T.heap[b]? = some cellB) (hobj : cellB.vm.isStatics = false) (hcls : s.vm.findClass C = some cellB.cls)
    {g : JFrame} (hg : g.method = m) (hsize : g.locals.size = c.maxLocals) {argsL rest : List Value} (hlen : ∀ sig, parseMethodDescriptor x.desc = some sig → argsL.length = sig.parameters.length)
    (hstack : g.stack = argsL.reverse ++ .ref b :: rest) (hW : 2 * g.monitorRoom + (rest.map fun v => v.category).sum ≤ W) (hdg : decode c.code g.pc = .ok (.invokevirtual index, 3))
    (hpre : ∀ vm₁, s.WarmedH vm₁ → Pre ⟨T.setVm vm₁, locs, cells, slots⟩ (Value.ref b :: argsL).toArray) :
    (∃ (v : Option Value) (vm₁ : Vm) (B : Pt), s.WarmedH vm₁ ∧ Stand p l e R s m args below meth c B.U B.locs B.cells B.slots ∧ Post ⟨T.setVm vm₁, locs, cells, slots⟩ (Value.ref b :: argsL).toArray v B ∧
      ∀ target, Steps p.tables e below (B.U.setTop { g with pc := g.pc + 3, stack := v.toList ++ rest }) target → Steps p.tables e below (T.setTop g) target) ∨
    (∃ (q : Addr) (vm₁ : Vm) (B : Pt), s.WarmedH vm₁ ∧ Stand p l e R s m args below meth c B.U B.locs B.cells B.slots ∧ PostX ⟨T.setVm vm₁, locs, cells, slots⟩ (Value.ref b :: argsL).toArray q B ∧
      Steps p.tables e below (T.setTop g) ((B.U.setTop { g with stack := rest }).pushFrame (.throwing q))) := by
  obtain ⟨r0, r, hn, hrm, hstR, hsigR⟩ := hd0
  obtain ⟨cn, ck, r1, hcn, hck, hni, hf, hn1⟩ := Cond.sameMethod_found hsame
  cases hn.symm.trans hn1
  obtain ⟨mk, methM, hnamed, hmethM, -, habM⟩ := Cond.instanceMethod_spec hinst
  obtain ⟨c2, r2, m2, q1, q2, q3, q4, kP, hkP, hkPi⟩ := Cond.selects_spec hsel
  cases hcls.symm.trans q1
  cases hf.symm.trans q2
  cases hnamed.symm.trans q3
  have hselP : selectMethod e.platform s.vm cellB.cls r0 = .method mk := by rw [Launch.admits_selectMethod X.admits]; exact q4
  obtain ⟨vm₁, X₁, hstep₁⟩ := X.invokevirtualUp hexec hown hlink hsame howner hn hrm hstR (a := b) (cell := cellB) hcell
    (fun z h => by rw [h] at hobj; cases hobj) hselP hmethM habM hkP hkPi (g := g) hg (argsL := argsL) (rest := rest) (hlen _ hsigR) hstack hdg
  rcases hK m meth c ⟨T.setVm vm₁, locs, cells, slots⟩ { g with stack := rest } (.invokevirtual index) mk (Value.ref b :: argsL).toArray X₁ hg hsize hdg hW (X₁.named hnamed) (hpre vm₁ X₁.warmed) with ⟨v, B, X', hpost, hsteps⟩ | ⟨q, B, X', hpost, hsteps⟩
  · exact Or.inl ⟨v, vm₁, B, X₁.warmed, X', hpost, fun target h => hstep₁ _ fun acts => by rw [doInvoke_state]; exact hsteps.trans h⟩
  · exact Or.inr ⟨q, vm₁, B, X₁.warmed, X', hpost, hstep₁ _ fun acts => by rw [doInvoke_state]; exact hsteps⟩
theorem vx_runU {x y : MethodName} {bytes cc : ByteArray} {maxL nL mc ms n index : Nat} {ret : Option FieldType} {ws : List Cond} {rm : Room} {Pc : Array Value → State → Prop} {Qc : Array Value → State → Outcome → State → Prop} {XC : String → State → State → Prop} {free : Addr → Prop} {Ts : List Cond} {own C owner : String} {b : Addr} {As rest : List Value} {g : JFrame}
    (S : CallFix p m c cc nL s args Ts own) (hM : vx_Met l y ws rm Pc Qc XC mc ms free) (cw : va_CU R s args own C owner index x y bytes maxL ret ws rm mc ms n) (hp : PreV s H C b Pc As)
    (hg : g.method = m) (hn : As.length = n) (hsize : g.locals.size = nL) (hstack : g.stack = As.reverse ++ .ref b :: rest) (hW : 2 * g.monitorRoom + (rest.map fun v => v.category).sum ≤ 8) (hdg : decode cc g.pc = .ok (.invokevirtual index, 3)) (hf : cells + mc ≤ R.cells ∧ slots + ms ≤ R.slots) :
    vx_Run p l e R s m args below meth c H locs cells slots mc ms g rest (Qc (Value.ref b :: As).toArray) XC free := by
  obtain ⟨hrc, hrs, hfr, hlo, hws, hcw⟩ := cw.back
  have hini := cw.init
  have hK : vx_Back l R p e below s args y 3 8 (PreOf R mc ms Pc) (PostOf Qc mc ms free) (vx_Post XC mc ms free) := vx_back (bytes := bytes) (maxL := maxL) (ret := ret) hM hp.1 hrc hrs hfr hlo hws hcw (fun a' U hW => word_at hW (Or.inl (by first | rfl | simp [Cond.onTables, Cond.keeps, Cond.steady])) hini)
  obtain ⟨hx, hb, hml, ho, -⟩ := S
  obtain ⟨-, ⟨cellB, hcB, hoB, hclB⟩, hPc⟩ := hp
  intro T hT X
  rcases vx_callVU X hx (C := C) (owner := owner) (bytes := bytes) (maxL := maxL) (ret := ret) ho cw.link cw.same cw.decl cw.notMH cw.sel cw.inst cw.code hK (by rw [hT]; exact hcB) hoB hclB hg (hsize.trans hml.symm) (argsL := As) (rest := rest) (fun sig h => hn.trans (cw.len sig h)) hstack hW (by rw [hb]; exact hdg)
    (fun vm₁ hW₁ => ⟨hf.1, hf.2, hPc (T.setVm vm₁) hT hW₁⟩) with ⟨v, vm₁, ⟨U', l2, c2, s2⟩, hW₁, X', ⟨g', mk, t, L, e1, e2, hq, h1, hL, h2, h3⟩, st⟩ | ⟨q, vm₁, ⟨U', l2, c2, s2⟩, hW₁, X', ⟨g', mk, t, L, E, ce, e1, e2, hq, hce, hcv, hcl, h1, hL, h2, h3⟩, st⟩
  · dsimp only [Pt.U, Pt.locs, Pt.cells, Pt.slots] at X' e1 e2 h1 h2 h3 st
    subst h1; subst h2; subst h3
    exact Or.inl ⟨v, (T.setVm vm₁).calling g' mk (Value.ref b :: As).toArray, t, U', L, hT, X', hL, e1, e2, hq, st⟩
  · dsimp only [Pt.U, Pt.locs, Pt.cells, Pt.slots] at X' e1 e2 h1 h2 h3 st hcl
    subst h1; subst h2; subst h3
    exact Or.inr ⟨q, (T.setVm vm₁).calling g' mk (Value.ref b :: As).toArray, t, U', L, E, ce, hT, X', hL, e1, e2, hq, hce, hcv, vx_cls hW₁ hcl, st⟩
end
section ZSO
variable {g : zGT} {M : zMD} {R : Room} {ce sl pc : Nat} {lv lv' : List (Nat × Value)} {st rest : List Value} {w : zW} {Post : zP}
def zLSO (own : String) (idx : Nat) (M2 : zMD) (n : Nat) : Prop := (∀ w ∈ va_wsS own idx M2.1 [.code M2.1 M2.2.1 M2.2.2.1 M2.2.2.2], w ∈ ztb) ∧ (M2.1.cls ≠ "java/lang/invoke/MethodHandle" ∧ M2.1.cls ≠ "java/lang/invoke/VarHandle" ∧ (parseMethodDescriptor M2.1.desc).map (fun d => d.parameters.length) = some n)
theorem zLSO_in {own : String} {idx n : Nat} {M2 : zMD} (L : zLSO own idx M2 n) : GoodIn ztb (va_wsS own idx M2.1 (.code M2.1 M2.2.1 M2.2.2.1 M2.2.2.2 :: ztb)) := ztb_good (fun w h => by
  unfold va_wsS at h
  rcases List.mem_append.mp h with h | h
  · exact L.1 w (by unfold va_wsS; exact List.mem_append_left _ h)
  · rcases List.mem_cons.mp h with h | h
    · exact L.1 w (by unfold va_wsS; exact List.mem_append_right _ (by rw [h]; exact List.mem_cons_self))
    · exact h)
/-- a static method of another class -/
theorem z_callSO {M2 : zMD} {R2 : Room} {Post1 : zP} {As : List Value} {n idx : Nat} {own : String} (d : decode M.2.1 pc = .ok (.invokestatic idx, 3)) (L : zLSO own idx M2 n) (ho : own = M.1.cls)
    (hR : (R2.frames + 1 ≤ R.frames ∧ 8 + (M2.2.2.1 + 11) + R2.locals ≤ R.locals) ∧ ce + R2.cells ≤ R.cells ∧ sl + R2.slots ≤ R.slots) (hn : As.length = n)
    (hrest : (rest.map fun v => v.category).sum ≤ 8) (hst : st = As.reverse ++ rest) (hc : zCt g M2 R2 As w Post1) (kx : ∀ E w1, Post1 (.inr E) w1 → Post (.inr E) w1)
    (kk : ∀ v w1, Post1 (.inl v) w1 → zTr g M R (ce + R2.cells) (sl + R2.slots) (pc + 3) lv (v.toList ++ rest) w1 Post) : zTr g M R ce sl pc lv st w Post := by
  intro p e s m args below meth c H locs ls C hW hS hl
  subst ho
  exact z_run kx hR.2.1 hR.2.2 kk C hS hl (vx_runS (As := As) ⟨C.1, C.2.1, C.2.2.1, C.2.2.2.1, C.2.2.2.2.1⟩ hc (va_cwS n C.2.2.2.2.1 (zLSO_in L) rfl rfl rfl L.2 hR.1) ⟨zPc_blind, fun U hU hWm => ⟨rfl, zGI_on C.2.2.2.2.2.2.2.2.1 hS hU hWm, by rw [hU]; exact hW⟩⟩ rfl hn hl.1 hst (by simpa using hrest) d hR.2)
theorem z_callOE {M2 : zMD} {R2 : Room} {As : List Value} {n idx : Nat} {own : String} {v : Option Value} (d : decode M.2.1 pc = .ok (.invokestatic idx, 3)) (L : zLSO own idx M2 n) (ho : own = M.1.cls)
    (hR : (R2.frames + 1 ≤ R.frames ∧ 8 + (M2.2.2.1 + 11) + R2.locals ≤ R.locals) ∧ ce + R2.cells ≤ R.cells ∧ sl + R2.slots ≤ R.slots) (hn : As.length = n)
    (hrest : (rest.map fun v => v.category).sum ≤ 8) (hst : st = As.reverse ++ rest) (hc : zCt g M2 R2 As w (fun o w' => o = .inl v ∧ w' = w))
    (kk : zTr g M R (ce + R2.cells) (sl + R2.slots) (pc + 3) lv (v.toList ++ rest) w Post) : zTr g M R ce sl pc lv st w Post :=
  z_callSO d L ho hR hn hrest hst hc (fun E w1 h => by cases h.1) (fun v' w' h => by obtain ⟨h1, h2⟩ := h; cases h1; subst h2; exact kk)
theorem z_recvO {s : State} {H : Heap} {locs : List Loc} {C : String} {t : Nat} (hG : zGI g s) (hS : va_S (zA g) s.heap H locs) (hO : va_O C t (zA g) (zs g) (zs g).heap) : ∃ cell : Cell, H[t]? = some cell ∧ cell.vm.isStatics = false ∧ s.vm.findClass C = some cell.cls := by
  obtain ⟨cell, h1, h2, h3, -⟩ := ((va_O.moved hG.1.alike hO).kept (zGI_A hG)).kept hS.2.1
  exact ⟨cell, h1, h2, h3⟩
/-- an instance method of such an object -/
theorem z_callVO {M2 : zMD} {R2 : Room} {As : List Value} {n idx t : Nat} {own : String} {v : Option Value} (d : decode M.2.1 pc = .ok (.invokevirtual idx, 3)) (L : zLV own idx M2 n) (ho : own = M.1.cls)
    (hR : (R2.frames + 1 ≤ R.frames ∧ 8 + (M2.2.2.1 + 11) + R2.locals ≤ R.locals) ∧ ce + R2.cells ≤ R.cells ∧ sl + R2.slots ≤ R.slots) (hO : va_O M2.1.cls t (zA g) (zs g) (zs g).heap) (hn : As.length = n)
    (hrest : (rest.map fun v => v.category).sum ≤ 8) (hst : st = As.reverse ++ .ref t :: rest) (hc : zCt g M2 R2 (.ref t :: As) w (fun o w' => o = .inl v ∧ w' = w))
    (kk : zTr g M R (ce + R2.cells) (sl + R2.slots) (pc + 3) lv (v.toList ++ rest) w Post) : zTr g M R ce sl pc lv st w Post := by
  intro p e s m args below meth c H locs ls C hW hS hl
  subst ho
  refine z_run (Post1 := fun o w' => o = .inl v ∧ w' = w) (fun E w1 h => by cases h.1) hR.2.1 hR.2.2 (fun v' w' h => by obtain ⟨h1, h2⟩ := h; cases h1; subst h2; exact kk) C hS hl (vx_runV (As := As) (b := t) ⟨C.1, C.2.1, C.2.2.1, C.2.2.2.1, C.2.2.2.2.1⟩ hc (cwV n C.2.2.2.2.1 (zLV_in L) rfl rfl rfl ⟨rfl, L.2⟩ hR.1) ⟨zPc_blind, ?_, fun U hU hWm => ⟨rfl, zGI_on C.2.2.2.2.2.2.2.2.1 hS hU hWm, by rw [hU]; exact hW⟩⟩ rfl hn hl.1 hst (by simpa using hrest) d hR.2)
  exact z_recvO C.2.2.2.2.2.2.2.2.1 hS hO
def zLU (own : String) (idx : Nat) (C : String) (x : MethodName) (M2 : zMD) (n : Nat) : Prop := (∀ w ∈ va_wsU own idx C M2.1.cls x M2.1 [.code M2.1 M2.2.1 M2.2.2.1 M2.2.2.2], w ∈ ztb) ∧ M2.1 = ⟨M2.1.cls, x.name, x.desc⟩ ∧ (M2.1.cls ≠ "java/lang/invoke/MethodHandle" ∧ M2.1.cls ≠ "java/lang/invoke/VarHandle" ∧ (parseMethodDescriptor x.desc).map (fun d => d.parameters.length) = some n)
theorem zLU_in {own C : String} {x : MethodName} {idx n : Nat} {M2 : zMD} (L : zLU own idx C x M2 n) : GoodIn ztb (va_wsU own idx C M2.1.cls x M2.1 (.code M2.1 M2.2.1 M2.2.2.1 M2.2.2.2 :: ztb)) := ztb_good (fun w h => by
  unfold va_wsU at h
  rcases List.mem_append.mp h with h | h
  · exact L.1 w (by unfold va_wsU; exact List.mem_append_left _ h)
  · rcases List.mem_cons.mp h with h | h
    · exact L.1 w (by unfold va_wsU; exact List.mem_append_right _ (by rw [h]; exact List.mem_cons_self))
    · exact h)
/-- .. that its class inherits -/
theorem z_callUO {M2 : zMD} {R2 : Room} {As : List Value} {n idx t : Nat} {own C : String} {x : MethodName} {v : Option Value} (d : decode M.2.1 pc = .ok (.invokevirtual idx, 3)) (L : zLU own idx C x M2 n) (ho : own = M.1.cls)
    (hR : (R2.frames + 1 ≤ R.frames ∧ 8 + (M2.2.2.1 + 11) + R2.locals ≤ R.locals) ∧ ce + R2.cells ≤ R.cells ∧ sl + R2.slots ≤ R.slots) (hO : va_O C t (zA g) (zs g) (zs g).heap) (hn : As.length = n)
    (hrest : (rest.map fun v => v.category).sum ≤ 8) (hst : st = As.reverse ++ .ref t :: rest) (hc : zCt g M2 R2 (.ref t :: As) w (fun o w' => o = .inl v ∧ w' = w))
    (kk : zTr g M R (ce + R2.cells) (sl + R2.slots) (pc + 3) lv (v.toList ++ rest) w Post) : zTr g M R ce sl pc lv st w Post := by
  intro p e s m args below meth c H locs ls C' hW hS hl
  subst ho
  refine z_run (Post1 := fun o w' => o = .inl v ∧ w' = w) (fun E w1 h => by cases h.1) hR.2.1 hR.2.2 (fun v' w' h => by obtain ⟨h1, h2⟩ := h; cases h1; subst h2; exact kk) C' hS hl (vx_runU (As := As) (b := t) ⟨C'.1, C'.2.1, C'.2.2.1, C'.2.2.2.1, C'.2.2.2.2.1⟩ hc (va_cwU n C'.2.2.2.2.1 (zLU_in L) rfl rfl rfl L.2.1 L.2.2 hR.1) ⟨zPc_blind, ?_, fun U hU hWm => ⟨rfl, zGI_on C'.2.2.2.2.2.2.2.2.1 hS hU hWm, by rw [hU]; exact hW⟩⟩ rfl hn hl.1 hst (by simpa using hrest) d hR.2)
  exact z_recvO C'.2.2.2.2.2.2.2.2.1 hS hO
theorem z_words {X : List Cond} (h : ∀ w ∈ X, w ∈ lw_tbl ∧ vx_ot w = true) {p : Program} {s : State} {m : MethodId} {args : Array Value} {meth : Method} {c : Code} (C : zCx g M p s m args meth c) (hn : ∀ w ∈ X, goodWord w = true ∨ w ∈ ztb) : ∀ w ∈ X, w.before args s = true := fun w hw => by
  rcases hn w hw with q | q
  · exact C.2.2.2.2.1 w (ztb_of (h w hw).1 q)
  · exact C.2.2.2.2.1 w q
end ZSO
theorem kO_RX3_33 : zLSO RX3 33 mJ9_min_7cf53 2 := ⟨(List.forall_mem_cons.mpr ⟨(tb_3 (i := 23) (by decide +kernel) rfl), (List.forall_mem_cons.mpr ⟨(tb_3 (i := 24) (by decide +kernel) rfl), (List.forall_mem_cons.mpr ⟨ki_RJ9, (List.forall_mem_cons.mpr ⟨kc_mJ9_min_7cf53, (fun _ h => nomatch h)⟩)⟩)⟩)⟩), ⟨by decide +kernel, by decide +kernel, by decide +kernel⟩⟩
theorem kO_RX10_185 : zLSO RX10 185 mJ9_min_7cf53 2 := ⟨(List.forall_mem_cons.mpr ⟨(tb_3 (i := 91) (by decide +kernel) rfl), (List.forall_mem_cons.mpr ⟨(tb_3 (i := 24) (by decide +kernel) rfl), (List.forall_mem_cons.mpr ⟨ki_RJ9, (List.forall_mem_cons.mpr ⟨kc_mJ9_min_7cf53, (fun _ h => nomatch h)⟩)⟩)⟩)⟩), ⟨by decide +kernel, by decide +kernel, by decide +kernel⟩⟩
theorem kO_RX10_190 : zLSO RX10 190 mJ9_max_7cf53 2 := ⟨(List.forall_mem_cons.mpr ⟨(tb_3 (i := 92) (by decide +kernel) rfl), (List.forall_mem_cons.mpr ⟨(tb_3 (i := 93) (by decide +kernel) rfl), (List.forall_mem_cons.mpr ⟨ki_RJ9, (List.forall_mem_cons.mpr ⟨kc_mJ9_max_7cf53, (fun _ h => nomatch h)⟩)⟩)⟩)⟩), ⟨by decide +kernel, by decide +kernel, by decide +kernel⟩⟩
theorem kO_RX12_240 : zLSO RX12 240 mJ9_max_7cf53 2 := ⟨(List.forall_mem_cons.mpr ⟨(tb_3 (i := 199) (by decide +kernel) rfl), (List.forall_mem_cons.mpr ⟨(tb_3 (i := 93) (by decide +kernel) rfl), (List.forall_mem_cons.mpr ⟨ki_RJ9, (List.forall_mem_cons.mpr ⟨kc_mJ9_max_7cf53, (fun _ h => nomatch h)⟩)⟩)⟩)⟩), ⟨by decide +kernel, by decide +kernel, by decide +kernel⟩⟩
theorem kO_RX12_294 : zLSO RX12 294 mJ9_min_7cf53 2 := ⟨(List.forall_mem_cons.mpr ⟨(tb_4 (i := 59) (by decide +kernel) rfl), (List.forall_mem_cons.mpr ⟨(tb_3 (i := 24) (by decide +kernel) rfl), (List.forall_mem_cons.mpr ⟨ki_RJ9, (List.forall_mem_cons.mpr ⟨kc_mJ9_min_7cf53, (fun _ h => nomatch h)⟩)⟩)⟩)⟩), ⟨by decide +kernel, by decide +kernel, by decide +kernel⟩⟩
theorem kO_RJ0_495 : zLSO RJ0 495 mJ1_charAt_3b067 2 := ⟨(List.forall_mem_cons.mpr ⟨(tb_6 (i := 105) (by decide +kernel) rfl), (List.forall_mem_cons.mpr ⟨(tb_6 (i := 106) (by decide +kernel) rfl), (List.forall_mem_cons.mpr ⟨ki_RJ1, (List.forall_mem_cons.mpr ⟨kc_mJ1_charAt_3b067, (fun _ h => nomatch h)⟩)⟩)⟩)⟩), ⟨by decide +kernel, by decide +kernel, by decide +kernel⟩⟩
theorem kO_RJ1_9 : zLSO RJ1 9 mJ0_checkIndex_df160 2 := ⟨(List.forall_mem_cons.mpr ⟨(tb_6 (i := 108) (by decide +kernel) rfl), (List.forall_mem_cons.mpr ⟨(tb_6 (i := 109) (by decide +kernel) rfl), (List.forall_mem_cons.mpr ⟨ki_RJ0, (List.forall_mem_cons.mpr ⟨kc_mJ0_checkIndex_df160, (fun _ h => nomatch h)⟩)⟩)⟩)⟩), ⟨by decide +kernel, by decide +kernel, by decide +kernel⟩⟩
theorem kO_RJ0_1059 : zLSO RJ0 1059 mJ3_checkIndex_8e157 3 := ⟨(List.forall_mem_cons.mpr ⟨(tb_6 (i := 113) (by decide +kernel) rfl), (List.forall_mem_cons.mpr ⟨(tb_6 (i := 114) (by decide +kernel) rfl), (List.forall_mem_cons.mpr ⟨ki_RJ3, (List.forall_mem_cons.mpr ⟨kc_mJ3_checkIndex_8e157, (fun _ h => nomatch h)⟩)⟩)⟩)⟩), ⟨by decide +kernel, by decide +kernel, by decide +kernel⟩⟩
theorem kO_RJ0_498 : zLSO RJ0 498 mJ2_charAt_3b067 2 := ⟨(List.forall_mem_cons.mpr ⟨(tb_6 (i := 116) (by decide +kernel) rfl), (List.forall_mem_cons.mpr ⟨(tb_6 (i := 117) (by decide +kernel) rfl), (List.forall_mem_cons.mpr ⟨ki_RJ2, (List.forall_mem_cons.mpr ⟨kc_mJ2_charAt_3b067, (fun _ h => nomatch h)⟩)⟩)⟩)⟩), ⟨by decide +kernel, by decide +kernel, by decide +kernel⟩⟩
theorem kO_RJ2_414 : zLSO RJ2 414 mJ0_checkIndex_df160 2 := ⟨(List.forall_mem_cons.mpr ⟨(tb_6 (i := 125) (by decide +kernel) rfl), (List.forall_mem_cons.mpr ⟨(tb_6 (i := 109) (by decide +kernel) rfl), (List.forall_mem_cons.mpr ⟨ki_RJ0, (List.forall_mem_cons.mpr ⟨kc_mJ0_checkIndex_df160, (fun _ h => nomatch h)⟩)⟩)⟩)⟩), ⟨by decide +kernel, by decide +kernel, by decide +kernel⟩⟩
theorem kO_RX4_102 : zLSO RX4 102 mJ9_max_7cf53 2 := ⟨(List.forall_mem_cons.mpr ⟨(tb_6 (i := 135) (by decide +kernel) rfl), (List.forall_mem_cons.mpr ⟨(tb_3 (i := 93) (by decide +kernel) rfl), (List.forall_mem_cons.mpr ⟨ki_RJ9, (List.forall_mem_cons.mpr ⟨kc_mJ9_max_7cf53, (fun _ h => nomatch h)⟩)⟩)⟩)⟩), ⟨by decide +kernel, by decide +kernel, by decide +kernel⟩⟩
theorem kU_RX10_48 : zLU RX10 48 "RailTimeline$Verb" ⟨"RailTimeline$Verb", "ordinal", "()I"⟩ mJx29ce0_ordinal_8abf5 0 := ⟨(List.forall_mem_cons.mpr ⟨(tb_2 (i := 17) (by decide +kernel) rfl), (List.forall_mem_cons.mpr ⟨(tb_2 (i := 18) (by decide +kernel) rfl), (List.forall_mem_cons.mpr ⟨(tb_2 (i := 20) (by decide +kernel) rfl), (List.forall_mem_cons.mpr ⟨(tb_2 (i := 21) (by decide +kernel) rfl), (List.forall_mem_cons.mpr ⟨ki_RJx29ce0, (List.forall_mem_cons.mpr ⟨kc_mJx29ce0_ordinal_8abf5, (fun _ h => nomatch h)⟩)⟩)⟩)⟩)⟩)⟩), rfl, ⟨by decide +kernel, by decide +kernel, by decide +kernel⟩⟩
theorem zST.vb {g : zGT} (h : zST g) {i : Nat} (hi : i < 11) {q : String × String × String × List Int32} (hq : q ∈ zvf) : va_OF q.1 q.2.1 q.2.2.1 (.int (q.2.2.2.getD i 0)) (ze g (10 + i)) (zA g) (zs g) (zs g).heap := (h.2.1.1 i hi).2.2 q hq
theorem zST.fl {g : zGT} (h : zST g) {i : Nat} (hi : i < 5) : va_Z "RailTimeline$Fault" (zfl.getD i "") "LRailTimeline$Fault;" (.ref (ze g i)) (zA g) (zs g) (zs g).heap := (h.1.1 i hi).1
theorem zST.ve {g : zGT} (h : zST g) {i : Nat} (hi : i < 11) : va_Z "RailTimeline$Verb" (zvn.getD i "") "LRailTimeline$Verb;" (.ref (ze g (10 + i))) (zA g) (zs g) (zs g).heap := (h.2.1.1 i hi).1
theorem zST.fne {g : zGT} (h : zST g) {i j : Nat} (hi : i < 5) (hj : j < 5) : ze g i = ze g j ↔ i = j := ⟨h.1.2 i j hi hj, fun e => by rw [e]⟩
theorem c_ord {g : zGT} {w : zW} {i : Nat} (h0 : zG0 g) (h1 : zST g) (hi : i < 11) : zCt g mJx29ce0_ordinal_8abf5 (zR 0 0) [.ref (ze g (10 + i))] w (fun o w' => o = .inl (some (.int (nI i))) ∧ w' = w) := by
  refine zCt_of (by decide +kernel) h0 [(0, .ref (ze g (10 + i)))] rfl (Nat.le_of_ble_eq_true rfl) ?_
  refine z_aload_n dJx29ce0_ordinal_8abf5_0 rfl ?_
  refine z_getO dJx29ce0_ordinal_8abf5_1 kG_RJx29ce0_7 rfl (h1.vb hi (q := ("java/lang/Enum", "ordinal", "I", [0, 1, 2, 3, 4, 5, 6, 7, 8, 9, 10])) (by simp [zvf])) ?_
  refine z_iret dJx29ce0_ordinal_8abf5_4 rfl (by decide) (by decide) ?_
  refine ⟨?_, rfl⟩
  have e : ([0, 1, 2, 3, 4, 5, 6, 7, 8, 9, 10] : List Int32).getD i 0 = nI i := by
    rcases (show i = 0 ∨ i = 1 ∨ i = 2 ∨ i = 3 ∨ i = 4 ∨ i = 5 ∨ i = 6 ∨ i = 7 ∨ i = 8 ∨ i = 9 ∨ i = 10 by omega) with h | h | h | h | h | h | h | h | h | h | h <;> subst h <;> rfl
  rw [← e]
theorem z_max {g : zGT} {M : zMD} {R : Room} {ce sl pc : Nat} {lv : List (Nat × Value)} {rest : List Value} {w : zW} {Post : zP} {own : String} {idx : Nat} {x y : Int32} (d : decode M.2.1 pc = .ok (.invokestatic idx, 3)) (L : zLSO own idx mJ9_max_7cf53 2) (ho : own = M.1.cls)
    (hR : (1 ≤ R.frames ∧ (rest.map fun v => v.category).sum + 13 ≤ R.locals) ∧ ce ≤ R.cells ∧ sl ≤ R.slots)
    (kk : zTr g M R ce sl (pc + 3) lv (.int (if x.toInt < y.toInt then y else x) :: rest) w Post) : zTr g M R ce sl pc lv (.int y :: .int x :: rest) w Post := by
  intro p e s m args below meth c H locs ls C hW hS hl
  subst ho
  have h1 := C.2.2.2.2.1 _ (L.1 _ List.mem_cons_self)
  have h2 := C.2.2.2.2.1 _ (L.1 _ (List.mem_cons_of_mem _ List.mem_cons_self))
  have h3 := C.2.2.2.2.1 _ (L.1 _ (List.mem_cons_of_mem _ (List.mem_cons_of_mem _ List.mem_cons_self)))
  have h4 := C.2.2.2.2.1 _ (L.1 _ (List.mem_cons_of_mem _ (List.mem_cons_of_mem _ (List.mem_cons_of_mem _ List.mem_cons_self))))
  refine va_mmax C.1 C.2.1 (C.2.2.1.trans hl.1.symm) C.2.2.2.1 h1 h2 h3 h4 hR.1.1 hR.1.2 hR.2.1 hR.2.2 d ?_
  have e9 : (if x < y then y else x) = (if x.toInt < y.toInt then y else x) := by simp only [Int32.lt_iff_toInt_lt]
  rw [e9]
  exact kk p e s m args below meth c H locs ls C hW hS hl
theorem z_min {g : zGT} {M : zMD} {R : Room} {ce sl pc : Nat} {lv : List (Nat × Value)} {rest : List Value} {w : zW} {Post : zP} {own : String} {idx : Nat} {x y : Int32} (d : decode M.2.1 pc = .ok (.invokestatic idx, 3)) (L : zLSO own idx mJ9_min_7cf53 2) (ho : own = M.1.cls)
    (hR : (1 ≤ R.frames ∧ (rest.map fun v => v.category).sum + 13 ≤ R.locals) ∧ ce ≤ R.cells ∧ sl ≤ R.slots)
    (kk : zTr g M R ce sl (pc + 3) lv (.int (if y.toInt < x.toInt then y else x) :: rest) w Post) : zTr g M R ce sl pc lv (.int y :: .int x :: rest) w Post := by
  intro p e s m args below meth c H locs ls C hW hS hl
  subst ho
  have h1 := C.2.2.2.2.1 _ (L.1 _ List.mem_cons_self)
  have h2 := C.2.2.2.2.1 _ (L.1 _ (List.mem_cons_of_mem _ List.mem_cons_self))
  have h3 := C.2.2.2.2.1 _ (L.1 _ (List.mem_cons_of_mem _ (List.mem_cons_of_mem _ List.mem_cons_self)))
  have h4 := C.2.2.2.2.1 _ (L.1 _ (List.mem_cons_of_mem _ (List.mem_cons_of_mem _ (List.mem_cons_of_mem _ List.mem_cons_self))))
  refine va_mmin C.1 C.2.1 (C.2.2.1.trans hl.1.symm) C.2.2.2.1 h1 h2 h3 h4 hR.1.1 hR.1.2 hR.2.1 hR.2.2 d ?_
  have e9 : (if y < x then y else x) = (if y.toInt < x.toInt then y else x) := by simp only [Int32.lt_iff_toInt_lt]
  rw [e9]
  exact kk p e s m args below meth c H locs ls C hW hS hl
