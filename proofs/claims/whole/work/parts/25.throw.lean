/-! throws -/
def zok (w : Cond) : Bool := goodWord w || (match w with | .castable _ _ => true | .declares _ => true | _ => false)
theorem z_before {g : zGT} {M : zMD} {p : Program} {s : State} {m : MethodId} {args : Array Value} {meth : Method} {c : Code} (C : zCx g M p s m args meth c) {w : Cond} (h : w ∈ lw_tbl) (hz : zok w = true) : w.before args s = true := by
  unfold zok at hz
  rw [Bool.or_eq_true] at hz
  rcases hz with q | q
  · exact C.2.2.2.2.1 w (ztb_of h q)
  · cases w <;> first | (cases q; done) | exact va_Nw.use rfl (va_Nw.warmC C.2.2.2.2.2.2.2.2.1.1 (C.2.2.2.2.2.2.2.2.2.2.2.2 _ h rfl)) | exact va_Nw.use rfl (va_Nw.warmD C.2.2.2.2.2.2.2.2.1.1 (C.2.2.2.2.2.2.2.2.2.2.2.2 _ h rfl))
theorem z_throw {g : zGT} {M : zMD} {R : Room} {ce sl pc : Nat} {lv : List (Nat × Value)} {rest : List Value} {w : zW} {Post : zP} {own cls text : String} {names : List String} {ik is ic sa : Nat} (h1 : zST g) (ho : own = M.1.cls) (hcls : Bundle.fit cls = true) (hnames : ∀ n ∈ names, Bundle.fit n = true)
    (hk : (Cond.classLink own ik cls :: Cond.initialized cls :: vx_atS own ic cls names).all (fun w => decide (w ∈ lw_tbl) && (zok w && vx_ot w)) = true) (hstr : vk_R own is text sa (zs g))
    (d0 : decode M.2.1 pc = .ok (.new ik, 3)) (d3 : decode M.2.1 (pc + 3) = .ok (.dup, 1)) (d4 : decode M.2.1 (pc + 4) = .ok (.ldc is, 2)) (d6 : decode M.2.1 (pc + 6) = .ok (.invokespecial ic, 3)) (d9 : decode M.2.1 (pc + 9) = .ok (.athrow, 1))
    (hR : (names.length + 3 < R.frames ∧ (rest.map fun v => v.category).sum + (13 * (names.length + 1) + 43) ≤ R.locals) ∧ ce + 1 ≤ R.cells ∧ sl + 6 ≤ R.slots)
    (hP : Post (.inr cls) w) : zTr g M R ce sl pc lv rest w Post := by
  intro p e s m args below meth c H locs ls C hW hS hl
  subst ho
  have hk2 : ∀ w ∈ Cond.classLink M.1.cls ik cls :: Cond.initialized cls :: vx_atS M.1.cls ic cls names, w ∈ lw_tbl ∧ zok w = true ∧ vx_ot w = true := fun w hw => by
    have := List.all_eq_true.mp hk w hw
    simp only [Bool.and_eq_true, decide_eq_true_eq] at this
    exact this
  have hbf : ∀ w ∈ Cond.classLink M.1.cls ik cls :: Cond.initialized cls :: vx_atS M.1.cls ic cls names, w.before args s = true := fun w hw => z_before C (hk2 w hw).1 (hk2 w hw).2.1
  have hG := C.2.2.2.2.2.2.2.2.1
  have hU := (vx_Zq.moved hG.1.alike h1.2.2.2.2.2.1.2.1).kept (zGI_A hG)
  have hN := (vx_Zq.moved hG.1.alike h1.2.2.2.2.2.1.2.2.1).kept (zGI_A hG)
  refine vx_throwS (names := names) (A := zA g) C.1 C.2.1 h1.2.2.2.2.2.1.1 C.2.2.2.1 hcls hnames (hbf _ List.mem_cons_self) (hbf _ (List.mem_cons_of_mem _ List.mem_cons_self)) (vk_R.warm hG.1 hstr) (fun w hw => hbf w (List.mem_cons_of_mem _ (List.mem_cons_of_mem _ hw))) (fun w hw => (hk2 w hw).2.2) hU hN hS (hl.1.trans C.2.2.1.symm)
    d0 d3 d4 d6 d9 (fun x hx => (C.2.2.2.2.2.2.2.1 x hx).elim) hR.1.1 hR.1.2 hR.2.1 hR.2.2 C.2.2.2.2.2.2.1 (fun t _ hsz hq => ?_) hS.2.2 hR.2.1 hR.2.2
  refine ⟨w, hP, ?_, ?_⟩
  · exact va_P.kept hW (fun k q hk => hq _ (va_at.lt (hW k q hk)))
  · exact ⟨Nat.le_trans hS.1 hsz, fun q h9 h8 => by rw [hq q (Nat.lt_of_lt_of_le h9 hS.1)]; exact hS.2.1 q h9 h8⟩
