/-! the class RailTimeline: throws, the editing calls -/
abbrev exNm : List String := ["java/lang/RuntimeException", "java/lang/Exception"]
theorem z_throwW {g : zGT} {M : zMD} {R : Room} {ce sl pc : Nat} {lv : List (Nat × Value)} {rest : List Value} {w : zW} {Post : zP} {own cls text : String} {names : List String} {ik is ic sa : Nat} (h1 : zST g) (ho : own = M.1.cls) (hcls : Bundle.fit cls = true) (hnames : ∀ n ∈ names, Bundle.fit n = true)
    (hk : (Cond.classLink own ik cls :: Cond.initialized cls :: vx_atS own ic cls names).all (fun w => decide (w ∈ lw_tbl) && (zok w && vx_ot w)) = true) (hstr : vk_R own is text sa (zs g))
    (d0 : decode M.2.1 pc = .ok (.new ik, 3)) (d3 : decode M.2.1 (pc + 3) = .ok (.dup, 1)) (d4 : decode M.2.1 (pc + 4) = .ok (.ldc_w is, 3)) (d6 : decode M.2.1 (pc + 7) = .ok (.invokespecial ic, 3)) (d9 : decode M.2.1 (pc + 10) = .ok (.athrow, 1))
    (hR : (names.length + 3 < R.frames ∧ (rest.map fun v => v.category).sum + (13 * (names.length + 1) + 43) ≤ R.locals) ∧ ce + 1 ≤ R.cells ∧ sl + 6 ≤ R.slots)
    (hP : Post (.inr cls) w) : zTr g M R ce sl pc lv rest w Post := by
  intro p e s m args below meth c H locs ls C hW hS hl
  subst ho
  have hk2 : ∀ w ∈ Cond.classLink M.1.cls ik cls :: Cond.initialized cls :: vx_atS M.1.cls ic cls names, w ∈ lw_tbl ∧ zok w = true ∧ vx_ot w = true := fun w hw => by
    have := List.all_eq_true.mp hk w hw
    simp only [Bool.and_eq_true, decide_eq_true_eq] at this
    exact this
  have hbf : ∀ w ∈ Cond.classLink M.1.cls ik cls :: Cond.initialized cls :: vx_atS M.1.cls ic cls names, w.before args s = true := fun w hw => z_before C (hk2 w hw).1 (hk2 w hw).2.1
  have hG := C.2.2.2.2.2.2.2.2.1
  have hU := (vx_Zq.moved hG.1.alike h1.2.2.2.2.2.1.2.1).kept (zGI_A hG)
  have hN := (vx_Zq.moved hG.1.alike h1.2.2.2.2.2.1.2.2.1).kept (zGI_A hG)
  refine vx_throwSW (names := names) (A := zA g) C.1 C.2.1 h1.2.2.2.2.2.1.1 C.2.2.2.1 hcls hnames (hbf _ List.mem_cons_self) (hbf _ (List.mem_cons_of_mem _ List.mem_cons_self)) (vk_R.warm hG.1 hstr) (fun w hw => hbf w (List.mem_cons_of_mem _ (List.mem_cons_of_mem _ hw))) (fun w hw => (hk2 w hw).2.2) hU hN hS (hl.1.trans C.2.2.1.symm)
    d0 d3 d4 d6 d9 (fun x hx => (C.2.2.2.2.2.2.2.1 x hx).elim) hR.1.1 hR.1.2 hR.2.1 hR.2.2 C.2.2.2.2.2.2.1 (fun t _ hsz hq => ?_) hS.2.2 hR.2.1 hR.2.2
  refine ⟨w, hP, ?_, ?_⟩
  · exact va_P.kept hW (fun k q hk => hq _ (va_at.lt (hW k q hk)))
  · exact ⟨Nat.le_trans hS.1 hsz, fun q h9 h8 => by rw [hq q (Nat.lt_of_lt_of_le h9 hS.1)]; exact hS.2.1 q h9 h8⟩
/-- a static callee that throws the fault k, the world as it was -/
theorem z_callSX {g : zGT} {M : zMD} {R : Room} {ce sl pc : Nat} {lv : List (Nat × Value)} {st rest : List Value} {w : zW} {Post : zP} {M2 : zMD} {R2 : Room} {As : List Value} {n idx k : Nat} {own : String} (d : decode M.2.1 pc = .ok (.invokestatic idx, 3)) (L : zLS own idx M2 n) (ho : own = M.1.cls) (ho2 : M2.1.cls = own)
    (hR : (R2.frames + 1 ≤ R.frames ∧ 8 + (M2.2.2.1 + 11) + R2.locals ≤ R.locals) ∧ ce + R2.cells ≤ R.cells ∧ sl + R2.slots ≤ R.slots) (hn : As.length = n)
    (hrest : (rest.map fun v => v.category).sum ≤ 8) (hst : st = As.reverse ++ rest) (hc : zCt g M2 R2 As w (fun o w' => o = .inr (exN k) ∧ w' = w)) (kx : Post (.inr (exN k)) w) : zTr g M R ce sl pc lv st w Post :=
  z_callS d L ho ho2 hR hn hrest hst hc (fun E w1 h => by obtain ⟨h1, h2⟩ := h; cases h1; subst h2; exact kx) (fun v' w' h => by obtain ⟨h1, -⟩ := h; cases h1)
set_option maxRecDepth 100000 in
set_option maxHeartbeats 4000000 in
theorem c_X12_raise_0 {g : zGT} {w : zW}  (h0 : zG0 g) (h1 : zST g) : zCt g mX12_raise (zR 0 1) [.ref (ze g 0)] w (fun o w' => o = .inl none ∧ w' = w) := by
  refine zCt_of (by decide +kernel) h0 [(0, .ref (ze g 0))] rfl (Nat.le_of_ble_eq_true rfl) ?_
  refine z_aload_n dX12_raise_0 rfl ?_
  refine z_gets dX12_raise_1 kG_RX12_130 rfl (h1.fl (i := 1) (by decide)) ?_
  refine z_acmp_ne (rx := some (ze g 0)) (ry := some (ze g 1)) (tgt := 17) dX12_raise_4 (by decide) (fun h_4_1 => ?_) (fun h_4_1 => ?_)
  · refine z_aload_n dX12_raise_17 rfl ?_
    refine z_gets dX12_raise_18 kG_RX12_143 rfl (h1.fl (i := 2) (by decide)) ?_
    refine z_acmp_ne (rx := some (ze g 0)) (ry := some (ze g 2)) (tgt := 34) dX12_raise_21 (by decide) (fun h_21_2 => ?_) (fun h_21_2 => ?_)
    · refine z_aload_n dX12_raise_34 rfl ?_
      refine z_gets dX12_raise_35 kG_RX12_151 rfl (h1.fl (i := 3) (by decide)) ?_
      refine z_acmp_ne (rx := some (ze g 0)) (ry := some (ze g 3)) (tgt := 51) dX12_raise_38 (by decide) (fun h_38_3 => ?_) (fun h_38_3 => ?_)
      · refine z_aload_n dX12_raise_51 rfl ?_
        refine z_gets dX12_raise_52 kG_RX12_159 rfl (h1.fl (i := 4) (by decide)) ?_
        refine z_acmp_ne (rx := some (ze g 0)) (ry := some (ze g 4)) (tgt := 68) dX12_raise_55 (by decide) (fun h_55_4 => ?_) (fun h_55_4 => ?_)
        · refine z_vret dX12_raise_68 rfl (by decide) (by decide) ?_
          exact ⟨rfl, rfl⟩
        · exact absurd ((h1.fne (by decide) (by decide)).mp (Option.some.inj h_55_4)) (by decide)
      · exact absurd ((h1.fne (by decide) (by decide)).mp (Option.some.inj h_38_3)) (by decide)
    · exact absurd ((h1.fne (by decide) (by decide)).mp (Option.some.inj h_21_2)) (by decide)
  · exact absurd ((h1.fne (by decide) (by decide)).mp (Option.some.inj h_4_1)) (by decide)
set_option maxRecDepth 100000 in
set_option maxHeartbeats 4000000 in
theorem c_X12_raise_1 {g : zGT} {w : zW}  (h0 : zG0 g) (h1 : zST g) : zCt g mX12_raise (zR 0 1) [.ref (ze g 1)] w (fun o w' => o = .inr (exN 1) ∧ w' = w) := by
  refine zCt_of (by decide +kernel) h0 [(0, .ref (ze g 1))] rfl (Nat.le_of_ble_eq_true rfl) ?_
  refine z_aload_n dX12_raise_0 rfl ?_
  refine z_gets dX12_raise_1 kG_RX12_130 rfl (h1.fl (i := 1) (by decide)) ?_
  refine z_acmp_ne (rx := some (ze g 1)) (ry := some (ze g 1)) (tgt := 17) dX12_raise_4 (by decide) (fun h_4_1 => ?_) (fun h_4_1 => ?_)
  · exact absurd rfl h_4_1
  · exact z_throw (cls := exN 1) (names := exNm) h1 rfl (by decide +kernel) (by decide +kernel) (by decide +kernel) h1.2.2.2.2.2.1.2.2.2.1 dX12_raise_7 dX12_raise_10 dX12_raise_11 dX12_raise_13 dX12_raise_16 ⟨⟨by decide, by decide⟩, by decide, by decide⟩ ⟨rfl, rfl⟩
set_option maxRecDepth 100000 in
set_option maxHeartbeats 4000000 in
theorem c_X12_raise_2 {g : zGT} {w : zW}  (h0 : zG0 g) (h1 : zST g) : zCt g mX12_raise (zR 0 1) [.ref (ze g 2)] w (fun o w' => o = .inr (exN 2) ∧ w' = w) := by
  refine zCt_of (by decide +kernel) h0 [(0, .ref (ze g 2))] rfl (Nat.le_of_ble_eq_true rfl) ?_
  refine z_aload_n dX12_raise_0 rfl ?_
  refine z_gets dX12_raise_1 kG_RX12_130 rfl (h1.fl (i := 1) (by decide)) ?_
  refine z_acmp_ne (rx := some (ze g 2)) (ry := some (ze g 1)) (tgt := 17) dX12_raise_4 (by decide) (fun h_4_1 => ?_) (fun h_4_1 => ?_)
  · refine z_aload_n dX12_raise_17 rfl ?_
    refine z_gets dX12_raise_18 kG_RX12_143 rfl (h1.fl (i := 2) (by decide)) ?_
    refine z_acmp_ne (rx := some (ze g 2)) (ry := some (ze g 2)) (tgt := 34) dX12_raise_21 (by decide) (fun h_21_2 => ?_) (fun h_21_2 => ?_)
    · exact absurd rfl h_21_2
    · exact z_throw (cls := exN 2) (names := exNm) h1 rfl (by decide +kernel) (by decide +kernel) (by decide +kernel) h1.2.2.2.2.2.1.2.2.2.2.1 dX12_raise_24 dX12_raise_27 dX12_raise_28 dX12_raise_30 dX12_raise_33 ⟨⟨by decide, by decide⟩, by decide, by decide⟩ ⟨rfl, rfl⟩
  · exact absurd ((h1.fne (by decide) (by decide)).mp (Option.some.inj h_4_1)) (by decide)
set_option maxRecDepth 100000 in
set_option maxHeartbeats 4000000 in
theorem c_X12_raise_3 {g : zGT} {w : zW}  (h0 : zG0 g) (h1 : zST g) : zCt g mX12_raise (zR 0 1) [.ref (ze g 3)] w (fun o w' => o = .inr (exN 3) ∧ w' = w) := by
  refine zCt_of (by decide +kernel) h0 [(0, .ref (ze g 3))] rfl (Nat.le_of_ble_eq_true rfl) ?_
  refine z_aload_n dX12_raise_0 rfl ?_
  refine z_gets dX12_raise_1 kG_RX12_130 rfl (h1.fl (i := 1) (by decide)) ?_
  refine z_acmp_ne (rx := some (ze g 3)) (ry := some (ze g 1)) (tgt := 17) dX12_raise_4 (by decide) (fun h_4_1 => ?_) (fun h_4_1 => ?_)
  · refine z_aload_n dX12_raise_17 rfl ?_
    refine z_gets dX12_raise_18 kG_RX12_143 rfl (h1.fl (i := 2) (by decide)) ?_
    refine z_acmp_ne (rx := some (ze g 3)) (ry := some (ze g 2)) (tgt := 34) dX12_raise_21 (by decide) (fun h_21_2 => ?_) (fun h_21_2 => ?_)
    · refine z_aload_n dX12_raise_34 rfl ?_
      refine z_gets dX12_raise_35 kG_RX12_151 rfl (h1.fl (i := 3) (by decide)) ?_
      refine z_acmp_ne (rx := some (ze g 3)) (ry := some (ze g 3)) (tgt := 51) dX12_raise_38 (by decide) (fun h_38_3 => ?_) (fun h_38_3 => ?_)
      · exact absurd rfl h_38_3
      · exact z_throw (cls := exN 3) (names := exNm) h1 rfl (by decide +kernel) (by decide +kernel) (by decide +kernel) h1.2.2.2.2.2.1.2.2.2.2.2.1 dX12_raise_41 dX12_raise_44 dX12_raise_45 dX12_raise_47 dX12_raise_50 ⟨⟨by decide, by decide⟩, by decide, by decide⟩ ⟨rfl, rfl⟩
    · exact absurd ((h1.fne (by decide) (by decide)).mp (Option.some.inj h_21_2)) (by decide)
  · exact absurd ((h1.fne (by decide) (by decide)).mp (Option.some.inj h_4_1)) (by decide)
set_option maxRecDepth 100000 in
set_option maxHeartbeats 4000000 in
theorem c_X12_raise_4 {g : zGT} {w : zW}  (h0 : zG0 g) (h1 : zST g) : zCt g mX12_raise (zR 0 1) [.ref (ze g 4)] w (fun o w' => o = .inr (exN 4) ∧ w' = w) := by
  refine zCt_of (by decide +kernel) h0 [(0, .ref (ze g 4))] rfl (Nat.le_of_ble_eq_true rfl) ?_
  refine z_aload_n dX12_raise_0 rfl ?_
  refine z_gets dX12_raise_1 kG_RX12_130 rfl (h1.fl (i := 1) (by decide)) ?_
  refine z_acmp_ne (rx := some (ze g 4)) (ry := some (ze g 1)) (tgt := 17) dX12_raise_4 (by decide) (fun h_4_1 => ?_) (fun h_4_1 => ?_)
  · refine z_aload_n dX12_raise_17 rfl ?_
    refine z_gets dX12_raise_18 kG_RX12_143 rfl (h1.fl (i := 2) (by decide)) ?_
    refine z_acmp_ne (rx := some (ze g 4)) (ry := some (ze g 2)) (tgt := 34) dX12_raise_21 (by decide) (fun h_21_2 => ?_) (fun h_21_2 => ?_)
    · refine z_aload_n dX12_raise_34 rfl ?_
      refine z_gets dX12_raise_35 kG_RX12_151 rfl (h1.fl (i := 3) (by decide)) ?_
      refine z_acmp_ne (rx := some (ze g 4)) (ry := some (ze g 3)) (tgt := 51) dX12_raise_38 (by decide) (fun h_38_3 => ?_) (fun h_38_3 => ?_)
      · refine z_aload_n dX12_raise_51 rfl ?_
        refine z_gets dX12_raise_52 kG_RX12_159 rfl (h1.fl (i := 4) (by decide)) ?_
        refine z_acmp_ne (rx := some (ze g 4)) (ry := some (ze g 4)) (tgt := 68) dX12_raise_55 (by decide) (fun h_55_4 => ?_) (fun h_55_4 => ?_)
        · exact absurd rfl h_55_4
        · exact z_throwX (rx := prog_34_method_4_code) (ix := 13) (cls := exN 4) (Y9 := "java/lang/RuntimeException") (r9 := ["java/lang/Exception"]) (by decide +kernel) (by decide +kernel) (by decide +kernel) (by decide +kernel) h1 rfl (by decide +kernel) (by decide +kernel) (by decide +kernel) h1.2.2.2.2.2.1.2.2.2.2.2.2.1 dX12_raise_58 dX12_raise_61 dX12_raise_62 dX12_raise_64 dX12_raise_67 ⟨⟨by decide, by decide⟩, by decide, by decide⟩ ⟨rfl, rfl⟩
      · exact absurd ((h1.fne (by decide) (by decide)).mp (Option.some.inj h_38_3)) (by decide)
    · exact absurd ((h1.fne (by decide) (by decide)).mp (Option.some.inj h_21_2)) (by decide)
  · exact absurd ((h1.fne (by decide) (by decide)).mp (Option.some.inj h_4_1)) (by decide)
theorem c_X12_raise {g : zGT} {w : zW} {f : Nat} (h0 : zG0 g) (h1 : zST g) (hf : f ≤ 4) : zCt g mX12_raise (zR 0 1) [.ref (ze g f)] w (fun o w' => o = zAns f none ∧ w' = w) := by
  rcases (show f = 0 ∨ f = 1 ∨ f = 2 ∨ f = 3 ∨ f = 4 by omega) with h | h | h | h | h <;> subst h
  · exact c_X12_raise_0 h0 h1
  · exact c_X12_raise_1 h0 h1
  · exact c_X12_raise_2 h0 h1
  · exact c_X12_raise_3 h0 h1
  · exact c_X12_raise_4 h0 h1
set_option maxRecDepth 100000 in
set_option maxHeartbeats 4000000 in
theorem c_X12_raiseUnless_y {g : zGT} {w : zW} {t : Nat} (h0 : zG0 g) (h1 : zST g) : zCt g mX12_raiseUnless (zR 1 1) [.int (nI (1)), .ref (t)] w (fun o w' => o = .inl none ∧ w' = w) := by
  refine zCt_of (by decide +kernel) h0 [(0, .int (nI (1))), (1, .ref (t))] rfl (Nat.le_of_ble_eq_true rfl) ?_
  refine z_iload_n dX12_raiseUnless_0 rfl ?_
  refine z_if_ne_n (a := 1) (tgt := 8) dX12_raiseUnless_1 (by decide) (by omega) (fun h_1_1 => ?_) (fun h_1_1 => ?_)
  · refine z_vret dX12_raiseUnless_8 rfl (by decide) (by decide) ?_
    exact ⟨rfl, rfl⟩
  · exact absurd h_1_1 (by decide)
set_option maxRecDepth 100000 in
set_option maxHeartbeats 4000000 in
theorem c_X12_raiseUnless_n {g : zGT} {w : zW} {f : Nat} (h0 : zG0 g) (h1 : zST g) (hf : f ≤ 4) (hf0 : f ≠ 0) : zCt g mX12_raiseUnless (zR 1 1) [.int (nI (0)), .ref (ze g f)] w (fun o w' => o = .inr (exN f) ∧ w' = w) := by
  refine zCt_of (by decide +kernel) h0 [(0, .int (nI (0))), (1, .ref (ze g f))] rfl (Nat.le_of_ble_eq_true rfl) ?_
  refine z_iload_n dX12_raiseUnless_0 rfl ?_
  refine z_if_ne_n (a := 0) (tgt := 8) dX12_raiseUnless_1 (by decide) (by omega) (fun h_1_1 => ?_) (fun h_1_1 => ?_)
  · exact absurd h_1_1 (by decide)
  · refine z_aload_n dX12_raiseUnless_4 rfl ?_
    refine z_callSAE (As := [.ref (ze g f)]) (rest := []) (f := f) (v := none) (R2 := zR 0 1) dX12_raiseUnless_5 kS_RX12_119 rfl rfl ⟨⟨by decide, by decide⟩, by decide, by decide⟩ rfl (Nat.le_of_ble_eq_true rfl) rfl (c_X12_raise h0 h1 hf) (fun hx3 => ?_) (fun hq4 => ?_)
    · exact ⟨rfl, rfl⟩
    refine z_vret dX12_raiseUnless_8 rfl (by decide) (by decide) ?_
    exact absurd (by assumption) hf0
theorem spF_le {i : Nat} {x y z : Int} {S : zSt} : spF i x y z S ≤ 4 := by
  unfold spF
  split
  all_goals first | (unfold fPass; (repeat' split) <;> omega) | (unfold fRest; (repeat' split) <;> omega) | (unfold fIv; (repeat' split) <;> omega) | (unfold fMod; (repeat' split) <;> omega) | (unfold fRep; (repeat' split) <;> omega) | (unfold fPas; (repeat' split) <;> omega) | (unfold fMark; (repeat' split) <;> omega) | omega
theorem spA_1 {i : Nat} {x y z : Int} {S : zSt} (h : i = 4 ∨ i = 9 ∨ i = 10) : spA i x y z S ≤ 1 := by
  rcases h with h | h | h <;> subst h <;> (simp only [spA]; split <;> omega)
abbrev ifF (α : Type) (f : Nat) (y n : α) : α := if f = 0 then y else n
set_option maxRecDepth 100000 in
set_option maxHeartbeats 4000000 in
theorem c_X12_change {g : zGT} {w : zW} {b : Nat} {S : zSt} {Hs : List zSt} {Sn : Option zSt} {I O : List Nat} {ep fc : Int32} {i : Nat} {x y z : Int32} (h0 : zG0 g) (h1 : zST g) (h : Rx g w b S Hs Sn I O ep fc) (hi : i < 11) : zCt g mX12_change (zR 5 1) [.ref (za g b), .ref (ze g (10 + i)), .int (x), .int (y), .int (z)] w (fun o w' => o = zAns (spF i x.toInt y.toInt z.toInt S) (some (.int (nI (spA i x.toInt y.toInt z.toInt S)))) ∧ zFr w w' b (b + 101) ∧ Rx g w' b (if spF i x.toInt y.toInt z.toInt S = 0 then spS i x.toInt y.toInt z.toInt S else S) (if spF i x.toInt y.toInt z.toInt S = 0 then (S :: Hs).take 8 else Hs) Sn I O ep fc) := by
  have hb := h.1
  refine zCt_of (by decide +kernel) h0 [(0, .ref (za g b)), (1, .ref (ze g (10 + i))), (2, .int (x)), (3, .int (y)), (4, .int (z))] rfl (Nat.le_of_ble_eq_true rfl) ?_
  refine z_aload_n dX12_change_0 rfl ?_
  refine z_getf (j := b) dX12_change_1 kF_RX12_12 rfl (by omega) h.ce rfl ?_
  refine z_aload_n dX12_change_4 rfl ?_
  refine z_iload_n dX12_change_5 rfl ?_
  refine z_iload_n dX12_change_6 rfl ?_
  refine z_iload dX12_change_7 rfl ?_
  refine z_callE (As := [.ref (ze g (10 + i)), .int (x), .int (y), .int (z)]) (rest := []) (b := b + 1) (ci := 10) (v := some (.ref (ze g (spF i x.toInt y.toInt z.toInt S)))) (R2 := zR 3 0) dX12_change_9 kV_RX12_115 rfl ⟨⟨by decide, by decide⟩, by decide, by decide⟩ (by omega) h.st.cell rfl rfl rfl (Nat.le_of_ble_eq_true rfl) rfl (c_X10_faultOf (i := i) h0 h1 h.st hi) ?_
  refine z_callSAE (As := [.ref (ze g (spF i x.toInt y.toInt z.toInt S))]) (rest := []) (f := (spF i x.toInt y.toInt z.toInt S)) (v := none) (R2 := zR 0 1) dX12_change_12 kS_RX12_119 rfl rfl ⟨⟨by decide, by decide⟩, by decide, by decide⟩ rfl (Nat.le_of_ble_eq_true rfl) rfl (c_X12_raise (f := (spF i x.toInt y.toInt z.toInt S)) h0 h1 (spF_le)) (fun hx3 => ?_) (fun hq4 => ?_)
  · exact ⟨zAns_n rfl hx3, zFr.rf, by rw [if_neg hx3, if_neg hx3]; exact h⟩
  refine z_aload_n dX12_change_15 rfl ?_
  refine z_getf (j := b) dX12_change_16 kF_RX12_25 rfl (by omega) h.ce rfl ?_
  refine z_aload_n dX12_change_19 rfl ?_
  refine z_getf (j := b) dX12_change_20 kF_RX12_12 rfl (by omega) h.ce rfl ?_
  obtain ⟨fsH, hcH⟩ := h.hi.cellx
  refine z_callR (As := [.ref (za g (b + 1))]) (rest := []) (b := b + 8) (ci := 3) (v := none) (R2 := zR 4 0) dX12_change_23 kV_RX12_123 rfl ⟨⟨by decide, by decide⟩, by decide, by decide⟩ (by omega) hcH rfl rfl rfl (Nat.le_of_ble_eq_true rfl) rfl (c_X3_push h0 h1 h.hi h.st (by omega)) (fun w5 pw5 => ?_)
  obtain ⟨hf6, hn7⟩ := pw5
  have hx8 := h.setHi hf6 hn7
  refine z_aload_n dX12_change_26 rfl ?_
  refine z_getf (j := b) dX12_change_27 kF_RX12_12 rfl (by omega) hx8.ce rfl ?_
  refine z_aload_n dX12_change_30 rfl ?_
  refine z_iload_n dX12_change_31 rfl ?_
  refine z_iload_n dX12_change_32 rfl ?_
  refine z_iload dX12_change_33 rfl ?_
  have hq : spF i x.toInt y.toInt z.toInt S = 0 := hq4
  refine z_callR (As := [.ref (ze g (10 + i)), .int (x), .int (y), .int (z)]) (rest := []) (b := b + 1) (ci := 10) (v := some (.int (nI (spA i x.toInt y.toInt z.toInt S)))) (R2 := zR 4 0) dX12_change_35 kV_RX12_127 rfl ⟨⟨by decide, by decide⟩, by decide, by decide⟩ (by omega) hx8.st.cell rfl rfl rfl (Nat.le_of_ble_eq_true rfl) rfl (c_X10_carryOut (i := i) h0 h1 hx8.st hi hq) (fun w9 pw9 => ?_)
  obtain ⟨hf10, hn11⟩ := pw9
  have hx12 := hx8.setSt hf10 hn11
  refine z_iret dX12_change_38 rfl (by decide) (by decide) ?_
  exact ⟨zAns_y hq rfl, ((hf6.wk (by omega) (by omega)).tr (hf10.wk (by omega) (by omega))), by rw [if_pos hq, if_pos hq]; exact hx12⟩
set_option maxRecDepth 100000 in
set_option maxHeartbeats 4000000 in
theorem c_X12_pass {g : zGT} {w : zW} {b : Nat} {S : zSt} {Hs : List zSt} {Sn : Option zSt} {I O : List Nat} {ep fc : Int32} {x y z : Int32} (h0 : zG0 g) (h1 : zST g) (h : Rx g w b S Hs Sn I O ep fc) : zCt g mX12_pass (zR 6 1) [.ref (za g b), .int (x), .int (y), .int (z)] w (fun o w' => o = zAns (spF 0 (x).toInt (y).toInt (z).toInt S) (some (.int (nI (spA 0 (x).toInt (y).toInt (z).toInt S)))) ∧ zFr w w' b (b + 101) ∧ Rx g w' b (if spF 0 (x).toInt (y).toInt (z).toInt S = 0 then spS 0 (x).toInt (y).toInt (z).toInt S else S) (if spF 0 (x).toInt (y).toInt (z).toInt S = 0 then (S :: Hs).take 8 else Hs) Sn I O ep fc) := by
  have hb := h.1
  refine zCt_of (by decide +kernel) h0 [(0, .ref (za g b)), (1, .int (x)), (2, .int (y)), (3, .int (z))] rfl (Nat.le_of_ble_eq_true rfl) ?_
  refine z_aload_n dX12_pass_0 rfl ?_
  refine z_gets dX12_pass_1 kG_RX12_75 rfl (h1.ve (i := 0) (by decide)) ?_
  refine z_iload_n dX12_pass_4 rfl ?_
  refine z_iload_n dX12_pass_5 rfl ?_
  refine z_iload_n dX12_pass_6 rfl ?_
  refine z_callA (As := [.ref (ze g (10 + 0)), .int (x), .int (y), .int (z)]) (rest := []) (b := b) (ci := 11) (f := spF 0 (x).toInt (y).toInt (z).toInt S) (v := some (.int (nI (spA 0 (x).toInt (y).toInt (z).toInt S)))) (R2 := zR 5 1) dX12_pass_7 kV_RX12_81 rfl ⟨⟨by decide, by decide⟩, by decide, by decide⟩ (by omega) h.ce rfl rfl rfl (Nat.le_of_ble_eq_true rfl) rfl (c_X12_change (i := 0) h0 h1 h (by decide)) (fun hx2 w1 pw1 => ?_) (fun hq3 w1 pw1 => ?_)
  · exact ⟨zAns_n rfl hx2, pw1.1, pw1.2⟩
  refine z_iret dX12_pass_10 rfl (by decide) (by decide) ?_
  exact ⟨zAns_y hq3 rfl, pw1.1, pw1.2⟩
set_option maxRecDepth 100000 in
set_option maxHeartbeats 4000000 in
theorem c_X12_insertRest {g : zGT} {w : zW} {b : Nat} {S : zSt} {Hs : List zSt} {Sn : Option zSt} {I O : List Nat} {ep fc : Int32} {x y : Int32} (h0 : zG0 g) (h1 : zST g) (h : Rx g w b S Hs Sn I O ep fc) : zCt g mX12_insertRest (zR 6 1) [.ref (za g b), .int (x), .int (y)] w (fun o w' => o = zAns (spF 1 (x).toInt (y).toInt (nI 0).toInt S) (some (.int (nI (spA 1 (x).toInt (y).toInt (nI 0).toInt S)))) ∧ zFr w w' b (b + 101) ∧ Rx g w' b (if spF 1 (x).toInt (y).toInt (nI 0).toInt S = 0 then spS 1 (x).toInt (y).toInt (nI 0).toInt S else S) (if spF 1 (x).toInt (y).toInt (nI 0).toInt S = 0 then (S :: Hs).take 8 else Hs) Sn I O ep fc) := by
  have hb := h.1
  refine zCt_of (by decide +kernel) h0 [(0, .ref (za g b)), (1, .int (x)), (2, .int (y))] rfl (Nat.le_of_ble_eq_true rfl) ?_
  refine z_aload_n dX12_insertRest_0 rfl ?_
  refine z_gets dX12_insertRest_1 kG_RX12_85 rfl (h1.ve (i := 1) (by decide)) ?_
  refine z_iload_n dX12_insertRest_4 rfl ?_
  refine z_iload_n dX12_insertRest_5 rfl ?_
  refine z_iconst (v := nI 0) dX12_insertRest_6 rfl ?_
  refine z_callA (As := [.ref (ze g (10 + 1)), .int (x), .int (y), .int (nI (0))]) (rest := []) (b := b) (ci := 11) (f := spF 1 (x).toInt (y).toInt (nI 0).toInt S) (v := some (.int (nI (spA 1 (x).toInt (y).toInt (nI 0).toInt S)))) (R2 := zR 5 1) dX12_insertRest_7 kV_RX12_81 rfl ⟨⟨by decide, by decide⟩, by decide, by decide⟩ (by omega) h.ce rfl rfl rfl (Nat.le_of_ble_eq_true rfl) rfl (c_X12_change (i := 1) h0 h1 h (by decide)) (fun hx2 w1 pw1 => ?_) (fun hq3 w1 pw1 => ?_)
  · exact ⟨zAns_n rfl hx2, pw1.1, pw1.2⟩
  refine z_iret dX12_insertRest_10 rfl (by decide) (by decide) ?_
  exact ⟨zAns_y hq3 rfl, pw1.1, pw1.2⟩
set_option maxRecDepth 100000 in
set_option maxHeartbeats 4000000 in
theorem c_X12_remove {g : zGT} {w : zW} {b : Nat} {S : zSt} {Hs : List zSt} {Sn : Option zSt} {I O : List Nat} {ep fc : Int32} {x y : Int32} (h0 : zG0 g) (h1 : zST g) (h : Rx g w b S Hs Sn I O ep fc) : zCt g mX12_remove (zR 6 1) [.ref (za g b), .int (x), .int (y)] w (fun o w' => o = zAns (spF 2 (x).toInt (y).toInt (nI 0).toInt S) (some (.int (nI (spA 2 (x).toInt (y).toInt (nI 0).toInt S)))) ∧ zFr w w' b (b + 101) ∧ Rx g w' b (if spF 2 (x).toInt (y).toInt (nI 0).toInt S = 0 then spS 2 (x).toInt (y).toInt (nI 0).toInt S else S) (if spF 2 (x).toInt (y).toInt (nI 0).toInt S = 0 then (S :: Hs).take 8 else Hs) Sn I O ep fc) := by
  have hb := h.1
  refine zCt_of (by decide +kernel) h0 [(0, .ref (za g b)), (1, .int (x)), (2, .int (y))] rfl (Nat.le_of_ble_eq_true rfl) ?_
  refine z_aload_n dX12_remove_0 rfl ?_
  refine z_gets dX12_remove_1 kG_RX12_88 rfl (h1.ve (i := 2) (by decide)) ?_
  refine z_iload_n dX12_remove_4 rfl ?_
  refine z_iload_n dX12_remove_5 rfl ?_
  refine z_iconst (v := nI 0) dX12_remove_6 rfl ?_
  refine z_callA (As := [.ref (ze g (10 + 2)), .int (x), .int (y), .int (nI (0))]) (rest := []) (b := b) (ci := 11) (f := spF 2 (x).toInt (y).toInt (nI 0).toInt S) (v := some (.int (nI (spA 2 (x).toInt (y).toInt (nI 0).toInt S)))) (R2 := zR 5 1) dX12_remove_7 kV_RX12_81 rfl ⟨⟨by decide, by decide⟩, by decide, by decide⟩ (by omega) h.ce rfl rfl rfl (Nat.le_of_ble_eq_true rfl) rfl (c_X12_change (i := 2) h0 h1 h (by decide)) (fun hx2 w1 pw1 => ?_) (fun hq3 w1 pw1 => ?_)
  · exact ⟨zAns_n rfl hx2, pw1.1, pw1.2⟩
  refine z_iret dX12_remove_10 rfl (by decide) (by decide) ?_
  exact ⟨zAns_y hq3 rfl, pw1.1, pw1.2⟩
set_option maxRecDepth 100000 in
set_option maxHeartbeats 4000000 in
theorem c_X12_mute {g : zGT} {w : zW} {b : Nat} {S : zSt} {Hs : List zSt} {Sn : Option zSt} {I O : List Nat} {ep fc : Int32} {x y : Int32} (h0 : zG0 g) (h1 : zST g) (h : Rx g w b S Hs Sn I O ep fc) : zCt g mX12_mute (zR 6 1) [.ref (za g b), .int (x), .int (y)] w (fun o w' => o = zAns (spF 3 (x).toInt (y).toInt (nI 0).toInt S) (some (.int (nI (spA 3 (x).toInt (y).toInt (nI 0).toInt S)))) ∧ zFr w w' b (b + 101) ∧ Rx g w' b (if spF 3 (x).toInt (y).toInt (nI 0).toInt S = 0 then spS 3 (x).toInt (y).toInt (nI 0).toInt S else S) (if spF 3 (x).toInt (y).toInt (nI 0).toInt S = 0 then (S :: Hs).take 8 else Hs) Sn I O ep fc) := by
  have hb := h.1
  refine zCt_of (by decide +kernel) h0 [(0, .ref (za g b)), (1, .int (x)), (2, .int (y))] rfl (Nat.le_of_ble_eq_true rfl) ?_
  refine z_aload_n dX12_mute_0 rfl ?_
  refine z_gets dX12_mute_1 kG_RX12_91 rfl (h1.ve (i := 3) (by decide)) ?_
  refine z_iload_n dX12_mute_4 rfl ?_
  refine z_iload_n dX12_mute_5 rfl ?_
  refine z_iconst (v := nI 0) dX12_mute_6 rfl ?_
  refine z_callA (As := [.ref (ze g (10 + 3)), .int (x), .int (y), .int (nI (0))]) (rest := []) (b := b) (ci := 11) (f := spF 3 (x).toInt (y).toInt (nI 0).toInt S) (v := some (.int (nI (spA 3 (x).toInt (y).toInt (nI 0).toInt S)))) (R2 := zR 5 1) dX12_mute_7 kV_RX12_81 rfl ⟨⟨by decide, by decide⟩, by decide, by decide⟩ (by omega) h.ce rfl rfl rfl (Nat.le_of_ble_eq_true rfl) rfl (c_X12_change (i := 3) h0 h1 h (by decide)) (fun hx2 w1 pw1 => ?_) (fun hq3 w1 pw1 => ?_)
  · exact ⟨zAns_n rfl hx2, pw1.1, pw1.2⟩
  refine z_iret dX12_mute_10 rfl (by decide) (by decide) ?_
  exact ⟨zAns_y hq3 rfl, pw1.1, pw1.2⟩
set_option maxRecDepth 100000 in
set_option maxHeartbeats 4000000 in
theorem c_X12_modulate {g : zGT} {w : zW} {b : Nat} {S : zSt} {Hs : List zSt} {Sn : Option zSt} {I O : List Nat} {ep fc : Int32} {x y z : Int32} (h0 : zG0 g) (h1 : zST g) (h : Rx g w b S Hs Sn I O ep fc) : zCt g mX12_modulate (zR 6 1) [.ref (za g b), .int (x), .int (y), .int (z)] w (fun o w' => o = zAns (spF 6 (x).toInt (y).toInt (z).toInt S) (some (.int (nI (spA 6 (x).toInt (y).toInt (z).toInt S)))) ∧ zFr w w' b (b + 101) ∧ Rx g w' b (if spF 6 (x).toInt (y).toInt (z).toInt S = 0 then spS 6 (x).toInt (y).toInt (z).toInt S else S) (if spF 6 (x).toInt (y).toInt (z).toInt S = 0 then (S :: Hs).take 8 else Hs) Sn I O ep fc) := by
  have hb := h.1
  refine zCt_of (by decide +kernel) h0 [(0, .ref (za g b)), (1, .int (x)), (2, .int (y)), (3, .int (z))] rfl (Nat.le_of_ble_eq_true rfl) ?_
  refine z_aload_n dX12_modulate_0 rfl ?_
  refine z_gets dX12_modulate_1 kG_RX12_94 rfl (h1.ve (i := 6) (by decide)) ?_
  refine z_iload_n dX12_modulate_4 rfl ?_
  refine z_iload_n dX12_modulate_5 rfl ?_
  refine z_iload_n dX12_modulate_6 rfl ?_
  refine z_callA (As := [.ref (ze g (10 + 6)), .int (x), .int (y), .int (z)]) (rest := []) (b := b) (ci := 11) (f := spF 6 (x).toInt (y).toInt (z).toInt S) (v := some (.int (nI (spA 6 (x).toInt (y).toInt (z).toInt S)))) (R2 := zR 5 1) dX12_modulate_7 kV_RX12_81 rfl ⟨⟨by decide, by decide⟩, by decide, by decide⟩ (by omega) h.ce rfl rfl rfl (Nat.le_of_ble_eq_true rfl) rfl (c_X12_change (i := 6) h0 h1 h (by decide)) (fun hx2 w1 pw1 => ?_) (fun hq3 w1 pw1 => ?_)
  · exact ⟨zAns_n rfl hx2, pw1.1, pw1.2⟩
  refine z_iret dX12_modulate_10 rfl (by decide) (by decide) ?_
  exact ⟨zAns_y hq3 rfl, pw1.1, pw1.2⟩
set_option maxRecDepth 100000 in
set_option maxHeartbeats 4000000 in
theorem c_X12_reverse {g : zGT} {w : zW} {b : Nat} {S : zSt} {Hs : List zSt} {Sn : Option zSt} {I O : List Nat} {ep fc : Int32} {x y : Int32} (h0 : zG0 g) (h1 : zST g) (h : Rx g w b S Hs Sn I O ep fc) : zCt g mX12_reverse (zR 6 1) [.ref (za g b), .int (x), .int (y)] w (fun o w' => o = zAns (spF 4 (x).toInt (y).toInt (nI 0).toInt S) (some (.int (nI (spA 4 (x).toInt (y).toInt (nI 0).toInt S)))) ∧ zFr w w' b (b + 101) ∧ Rx g w' b (if spF 4 (x).toInt (y).toInt (nI 0).toInt S = 0 then spS 4 (x).toInt (y).toInt (nI 0).toInt S else S) (if spF 4 (x).toInt (y).toInt (nI 0).toInt S = 0 then (S :: Hs).take 8 else Hs) Sn I O ep fc) := by
  have hb := h.1
  refine zCt_of (by decide +kernel) h0 [(0, .ref (za g b)), (1, .int (x)), (2, .int (y))] rfl (Nat.le_of_ble_eq_true rfl) ?_
  refine z_aload_n dX12_reverse_0 rfl ?_
  refine z_gets dX12_reverse_1 kG_RX12_97 rfl (h1.ve (i := 4) (by decide)) ?_
  refine z_iload_n dX12_reverse_4 rfl ?_
  refine z_iload_n dX12_reverse_5 rfl ?_
  refine z_iconst (v := nI 0) dX12_reverse_6 rfl ?_
  refine z_callA (As := [.ref (ze g (10 + 4)), .int (x), .int (y), .int (nI (0))]) (rest := []) (b := b) (ci := 11) (f := spF 4 (x).toInt (y).toInt (nI 0).toInt S) (v := some (.int (nI (spA 4 (x).toInt (y).toInt (nI 0).toInt S)))) (R2 := zR 5 1) dX12_reverse_7 kV_RX12_81 rfl ⟨⟨by decide, by decide⟩, by decide, by decide⟩ (by omega) h.ce rfl rfl rfl (Nat.le_of_ble_eq_true rfl) rfl (c_X12_change (i := 4) h0 h1 h (by decide)) (fun hx2 w1 pw1 => ?_) (fun hq3 w1 pw1 => ?_)
  · exact ⟨zAns_n rfl hx2, pw1.1, pw1.2⟩
  have hv1 : spA 4 (x).toInt (y).toInt (nI 0).toInt S ≤ 1 := spA_1 (by decide)
  refine z_if_eq_n (a := spA 4 (x).toInt (y).toInt (nI 0).toInt S) (tgt := 17) dX12_reverse_10 (by decide) (by omega) (fun h_10_4 => ?_) (fun h_10_4 => ?_)
  · refine z_iconst (v := nI 0) dX12_reverse_17 rfl ?_
    refine z_zret (ty := .boolean) dX12_reverse_18 rfl (by decide) (by decide) rfl ?_
    exact ⟨zAns_y hq3 (by congr 3; have := h_10_4; omega), pw1.1, pw1.2⟩
  · refine z_iconst (v := nI 1) dX12_reverse_13 rfl ?_
    refine z_goto (tgt := 18) dX12_reverse_14 (by decide) ?_
    refine z_zret (ty := .boolean) dX12_reverse_18 rfl (by decide) (by decide) rfl ?_
    exact ⟨zAns_y hq3 (by congr 3; have := h_10_4; omega), pw1.1, pw1.2⟩
set_option maxRecDepth 100000 in
set_option maxHeartbeats 4000000 in
theorem c_X12_repeat {g : zGT} {w : zW} {b : Nat} {S : zSt} {Hs : List zSt} {Sn : Option zSt} {I O : List Nat} {ep fc : Int32} {x y z : Int32} (h0 : zG0 g) (h1 : zST g) (h : Rx g w b S Hs Sn I O ep fc) : zCt g mX12_repeat (zR 6 1) [.ref (za g b), .int (x), .int (y), .int (z)] w (fun o w' => o = zAns (spF 7 (x).toInt (y).toInt (z).toInt S) (some (.int (nI (spA 7 (x).toInt (y).toInt (z).toInt S)))) ∧ zFr w w' b (b + 101) ∧ Rx g w' b (if spF 7 (x).toInt (y).toInt (z).toInt S = 0 then spS 7 (x).toInt (y).toInt (z).toInt S else S) (if spF 7 (x).toInt (y).toInt (z).toInt S = 0 then (S :: Hs).take 8 else Hs) Sn I O ep fc) := by
  have hb := h.1
  refine zCt_of (by decide +kernel) h0 [(0, .ref (za g b)), (1, .int (x)), (2, .int (y)), (3, .int (z))] rfl (Nat.le_of_ble_eq_true rfl) ?_
  refine z_aload_n dX12_repeat_0 rfl ?_
  refine z_gets dX12_repeat_1 kG_RX12_100 rfl (h1.ve (i := 7) (by decide)) ?_
  refine z_iload_n dX12_repeat_4 rfl ?_
  refine z_iload_n dX12_repeat_5 rfl ?_
  refine z_iload_n dX12_repeat_6 rfl ?_
  refine z_callA (As := [.ref (ze g (10 + 7)), .int (x), .int (y), .int (z)]) (rest := []) (b := b) (ci := 11) (f := spF 7 (x).toInt (y).toInt (z).toInt S) (v := some (.int (nI (spA 7 (x).toInt (y).toInt (z).toInt S)))) (R2 := zR 5 1) dX12_repeat_7 kV_RX12_81 rfl ⟨⟨by decide, by decide⟩, by decide, by decide⟩ (by omega) h.ce rfl rfl rfl (Nat.le_of_ble_eq_true rfl) rfl (c_X12_change (i := 7) h0 h1 h (by decide)) (fun hx2 w1 pw1 => ?_) (fun hq3 w1 pw1 => ?_)
  · exact ⟨zAns_n rfl hx2, pw1.1, pw1.2⟩
  refine z_iret dX12_repeat_10 rfl (by decide) (by decide) ?_
  exact ⟨zAns_y hq3 rfl, pw1.1, pw1.2⟩
set_option maxRecDepth 100000 in
set_option maxHeartbeats 4000000 in
theorem c_X12_copy {g : zGT} {w : zW} {b : Nat} {S : zSt} {Hs : List zSt} {Sn : Option zSt} {I O : List Nat} {ep fc : Int32} {x y : Int32} (h0 : zG0 g) (h1 : zST g) (h : Rx g w b S Hs Sn I O ep fc) : zCt g mX12_copy (zR 6 1) [.ref (za g b), .int (x), .int (y)] w (fun o w' => o = zAns (spF 5 (x).toInt (y).toInt (nI 0).toInt S) (some (.int (nI (spA 5 (x).toInt (y).toInt (nI 0).toInt S)))) ∧ zFr w w' b (b + 101) ∧ Rx g w' b (if spF 5 (x).toInt (y).toInt (nI 0).toInt S = 0 then spS 5 (x).toInt (y).toInt (nI 0).toInt S else S) (if spF 5 (x).toInt (y).toInt (nI 0).toInt S = 0 then (S :: Hs).take 8 else Hs) Sn I O ep fc) := by
  have hb := h.1
  refine zCt_of (by decide +kernel) h0 [(0, .ref (za g b)), (1, .int (x)), (2, .int (y))] rfl (Nat.le_of_ble_eq_true rfl) ?_
  refine z_aload_n dX12_copy_0 rfl ?_
  refine z_gets dX12_copy_1 kG_RX12_103 rfl (h1.ve (i := 5) (by decide)) ?_
  refine z_iload_n dX12_copy_4 rfl ?_
  refine z_iload_n dX12_copy_5 rfl ?_
  refine z_iconst (v := nI 0) dX12_copy_6 rfl ?_
  refine z_callA (As := [.ref (ze g (10 + 5)), .int (x), .int (y), .int (nI (0))]) (rest := []) (b := b) (ci := 11) (f := spF 5 (x).toInt (y).toInt (nI 0).toInt S) (v := some (.int (nI (spA 5 (x).toInt (y).toInt (nI 0).toInt S)))) (R2 := zR 5 1) dX12_copy_7 kV_RX12_81 rfl ⟨⟨by decide, by decide⟩, by decide, by decide⟩ (by omega) h.ce rfl rfl rfl (Nat.le_of_ble_eq_true rfl) rfl (c_X12_change (i := 5) h0 h1 h (by decide)) (fun hx2 w1 pw1 => ?_) (fun hq3 w1 pw1 => ?_)
  · exact ⟨zAns_n rfl hx2, pw1.1, pw1.2⟩
  refine z_iret dX12_copy_10 rfl (by decide) (by decide) ?_
  exact ⟨zAns_y hq3 rfl, pw1.1, pw1.2⟩
set_option maxRecDepth 100000 in
set_option maxHeartbeats 4000000 in
theorem c_X12_paste {g : zGT} {w : zW} {b : Nat} {S : zSt} {Hs : List zSt} {Sn : Option zSt} {I O : List Nat} {ep fc : Int32} {x : Int32} (h0 : zG0 g) (h1 : zST g) (h : Rx g w b S Hs Sn I O ep fc) : zCt g mX12_paste (zR 6 1) [.ref (za g b), .int (x)] w (fun o w' => o = zAns (spF 8 (x).toInt (nI 0).toInt (nI 0).toInt S) (some (.int (nI (spA 8 (x).toInt (nI 0).toInt (nI 0).toInt S)))) ∧ zFr w w' b (b + 101) ∧ Rx g w' b (if spF 8 (x).toInt (nI 0).toInt (nI 0).toInt S = 0 then spS 8 (x).toInt (nI 0).toInt (nI 0).toInt S else S) (if spF 8 (x).toInt (nI 0).toInt (nI 0).toInt S = 0 then (S :: Hs).take 8 else Hs) Sn I O ep fc) := by
  have hb := h.1
  refine zCt_of (by decide +kernel) h0 [(0, .ref (za g b)), (1, .int (x))] rfl (Nat.le_of_ble_eq_true rfl) ?_
  refine z_aload_n dX12_paste_0 rfl ?_
  refine z_gets dX12_paste_1 kG_RX12_106 rfl (h1.ve (i := 8) (by decide)) ?_
  refine z_iload_n dX12_paste_4 rfl ?_
  refine z_iconst (v := nI 0) dX12_paste_5 rfl ?_
  refine z_iconst (v := nI 0) dX12_paste_6 rfl ?_
  refine z_callA (As := [.ref (ze g (10 + 8)), .int (x), .int (nI (0)), .int (nI (0))]) (rest := []) (b := b) (ci := 11) (f := spF 8 (x).toInt (nI 0).toInt (nI 0).toInt S) (v := some (.int (nI (spA 8 (x).toInt (nI 0).toInt (nI 0).toInt S)))) (R2 := zR 5 1) dX12_paste_7 kV_RX12_81 rfl ⟨⟨by decide, by decide⟩, by decide, by decide⟩ (by omega) h.ce rfl rfl rfl (Nat.le_of_ble_eq_true rfl) rfl (c_X12_change (i := 8) h0 h1 h (by decide)) (fun hx2 w1 pw1 => ?_) (fun hq3 w1 pw1 => ?_)
  · exact ⟨zAns_n rfl hx2, pw1.1, pw1.2⟩
  refine z_iret dX12_paste_10 rfl (by decide) (by decide) ?_
  exact ⟨zAns_y hq3 rfl, pw1.1, pw1.2⟩
set_option maxRecDepth 100000 in
set_option maxHeartbeats 4000000 in
theorem c_X12_addMarker {g : zGT} {w : zW} {b : Nat} {S : zSt} {Hs : List zSt} {Sn : Option zSt} {I O : List Nat} {ep fc : Int32} {x : Int32} (h0 : zG0 g) (h1 : zST g) (h : Rx g w b S Hs Sn I O ep fc) : zCt g mX12_addMarker (zR 6 1) [.ref (za g b), .int (x)] w (fun o w' => o = zAns (spF 9 (x).toInt (nI 0).toInt (nI 0).toInt S) (some (.int (nI (spA 9 (x).toInt (nI 0).toInt (nI 0).toInt S)))) ∧ zFr w w' b (b + 101) ∧ Rx g w' b (if spF 9 (x).toInt (nI 0).toInt (nI 0).toInt S = 0 then spS 9 (x).toInt (nI 0).toInt (nI 0).toInt S else S) (if spF 9 (x).toInt (nI 0).toInt (nI 0).toInt S = 0 then (S :: Hs).take 8 else Hs) Sn I O ep fc) := by
  have hb := h.1
  refine zCt_of (by decide +kernel) h0 [(0, .ref (za g b)), (1, .int (x))] rfl (Nat.le_of_ble_eq_true rfl) ?_
  refine z_aload_n dX12_addMarker_0 rfl ?_
  refine z_gets dX12_addMarker_1 kG_RX12_109 rfl (h1.ve (i := 9) (by decide)) ?_
  refine z_iload_n dX12_addMarker_4 rfl ?_
  refine z_iconst (v := nI 0) dX12_addMarker_5 rfl ?_
  refine z_iconst (v := nI 0) dX12_addMarker_6 rfl ?_
  refine z_callA (As := [.ref (ze g (10 + 9)), .int (x), .int (nI (0)), .int (nI (0))]) (rest := []) (b := b) (ci := 11) (f := spF 9 (x).toInt (nI 0).toInt (nI 0).toInt S) (v := some (.int (nI (spA 9 (x).toInt (nI 0).toInt (nI 0).toInt S)))) (R2 := zR 5 1) dX12_addMarker_7 kV_RX12_81 rfl ⟨⟨by decide, by decide⟩, by decide, by decide⟩ (by omega) h.ce rfl rfl rfl (Nat.le_of_ble_eq_true rfl) rfl (c_X12_change (i := 9) h0 h1 h (by decide)) (fun hx2 w1 pw1 => ?_) (fun hq3 w1 pw1 => ?_)
  · exact ⟨zAns_n rfl hx2, pw1.1, pw1.2⟩
  have hv1 : spA 9 (x).toInt (nI 0).toInt (nI 0).toInt S ≤ 1 := spA_1 (by decide)
  refine z_if_eq_n (a := spA 9 (x).toInt (nI 0).toInt (nI 0).toInt S) (tgt := 17) dX12_addMarker_10 (by decide) (by omega) (fun h_10_4 => ?_) (fun h_10_4 => ?_)
  · refine z_iconst (v := nI 0) dX12_addMarker_17 rfl ?_
    refine z_zret (ty := .boolean) dX12_addMarker_18 rfl (by decide) (by decide) rfl ?_
    exact ⟨zAns_y hq3 (by congr 3; have := h_10_4; omega), pw1.1, pw1.2⟩
  · refine z_iconst (v := nI 1) dX12_addMarker_13 rfl ?_
    refine z_goto (tgt := 18) dX12_addMarker_14 (by decide) ?_
    refine z_zret (ty := .boolean) dX12_addMarker_18 rfl (by decide) (by decide) rfl ?_
    exact ⟨zAns_y hq3 (by congr 3; have := h_10_4; omega), pw1.1, pw1.2⟩
set_option maxRecDepth 100000 in
set_option maxHeartbeats 4000000 in
theorem c_X12_removeMarker {g : zGT} {w : zW} {b : Nat} {S : zSt} {Hs : List zSt} {Sn : Option zSt} {I O : List Nat} {ep fc : Int32} {x : Int32} (h0 : zG0 g) (h1 : zST g) (h : Rx g w b S Hs Sn I O ep fc) : zCt g mX12_removeMarker (zR 6 1) [.ref (za g b), .int (x)] w (fun o w' => o = zAns (spF 10 (x).toInt (nI 0).toInt (nI 0).toInt S) (some (.int (nI (spA 10 (x).toInt (nI 0).toInt (nI 0).toInt S)))) ∧ zFr w w' b (b + 101) ∧ Rx g w' b (if spF 10 (x).toInt (nI 0).toInt (nI 0).toInt S = 0 then spS 10 (x).toInt (nI 0).toInt (nI 0).toInt S else S) (if spF 10 (x).toInt (nI 0).toInt (nI 0).toInt S = 0 then (S :: Hs).take 8 else Hs) Sn I O ep fc) := by
  have hb := h.1
  refine zCt_of (by decide +kernel) h0 [(0, .ref (za g b)), (1, .int (x))] rfl (Nat.le_of_ble_eq_true rfl) ?_
  refine z_aload_n dX12_removeMarker_0 rfl ?_
  refine z_gets dX12_removeMarker_1 kG_RX12_112 rfl (h1.ve (i := 10) (by decide)) ?_
  refine z_iload_n dX12_removeMarker_4 rfl ?_
  refine z_iconst (v := nI 0) dX12_removeMarker_5 rfl ?_
  refine z_iconst (v := nI 0) dX12_removeMarker_6 rfl ?_
  refine z_callA (As := [.ref (ze g (10 + 10)), .int (x), .int (nI (0)), .int (nI (0))]) (rest := []) (b := b) (ci := 11) (f := spF 10 (x).toInt (nI 0).toInt (nI 0).toInt S) (v := some (.int (nI (spA 10 (x).toInt (nI 0).toInt (nI 0).toInt S)))) (R2 := zR 5 1) dX12_removeMarker_7 kV_RX12_81 rfl ⟨⟨by decide, by decide⟩, by decide, by decide⟩ (by omega) h.ce rfl rfl rfl (Nat.le_of_ble_eq_true rfl) rfl (c_X12_change (i := 10) h0 h1 h (by decide)) (fun hx2 w1 pw1 => ?_) (fun hq3 w1 pw1 => ?_)
  · exact ⟨zAns_n rfl hx2, pw1.1, pw1.2⟩
  have hv1 : spA 10 (x).toInt (nI 0).toInt (nI 0).toInt S ≤ 1 := spA_1 (by decide)
  refine z_if_eq_n (a := spA 10 (x).toInt (nI 0).toInt (nI 0).toInt S) (tgt := 17) dX12_removeMarker_10 (by decide) (by omega) (fun h_10_4 => ?_) (fun h_10_4 => ?_)
  · refine z_iconst (v := nI 0) dX12_removeMarker_17 rfl ?_
    refine z_zret (ty := .boolean) dX12_removeMarker_18 rfl (by decide) (by decide) rfl ?_
    exact ⟨zAns_y hq3 (by congr 3; have := h_10_4; omega), pw1.1, pw1.2⟩
  · refine z_iconst (v := nI 1) dX12_removeMarker_13 rfl ?_
    refine z_goto (tgt := 18) dX12_removeMarker_14 (by decide) ?_
    refine z_zret (ty := .boolean) dX12_removeMarker_18 rfl (by decide) (by decide) rfl ?_
    exact ⟨zAns_y hq3 (by congr 3; have := h_10_4; omega), pw1.1, pw1.2⟩
