/-! the reference: a command -/
set_option maxRecDepth 100000 in
set_option maxHeartbeats 4000000 in
theorem l_X13_command84_0 {g : zGT} {w wi : zW} {b : Nat} {th ch ea fa sv tn  ln kn : Int32} {fv fb fs fp fh ft fl fi : Nat → Int32} {I : List Nat} {S : zSt} {d x1 x2 P B : Nat} {z3 : Int32} (h0 : zG0 g) (hBl : B ≤ 1) (hfi : zFr w wi b (b + 11)) (h : Mx g wi b th ch ea fa sv tn (nI P) (nI I.length) ln kn (nI B) (nI 0) fv fb fs fp fh ft fl fi) : zTr g mX13_command (zR 4 0) 0 0 84 [(0, .ref (za g b)), (1, .int (nI (d))), (2, .int (nI (x2))), (3, .int (z3)), (4, .int (nI (x1)))] [] wi (fun o w' => o = .inl none ∧ zFr w w' b (b + 11) ∧ Mx g w' b th ch ea fa sv tn (nI P) (nI I.length) ln kn (nI B) (nI 0) fv fb fs fp fh ft fl fi) := by
  have hb := h.1
  refine z_aload_n dX13_command_84 rfl ?_
  refine z_getf (j := b) dX13_command_85 kF_RX13_193 rfl (by omega) h.ce rfl ?_
  refine z_if_ne_n (a := B) (tgt := 98) dX13_command_88 (by decide) (by omega) (fun h_88_1 => ?_) (fun h_88_1 => ?_)
  · refine z_vret dX13_command_98 rfl (by decide) (by decide) ?_
    exact ⟨rfl, hfi, h⟩
  · refine z_aload_n dX13_command_91 rfl ?_
    refine z_getf (j := b) dX13_command_92 kF_RX13_221 rfl (by omega) h.ce rfl ?_
    refine z_if_ne_n (a := 0) (tgt := 99) dX13_command_95 (by decide) (by omega) (fun h_95_2 => ?_) (fun h_95_2 => ?_)
    · exact absurd h_95_2 (by decide)
    · refine z_vret dX13_command_98 rfl (by decide) (by decide) ?_
      exact ⟨rfl, hfi, h⟩
set_option maxRecDepth 100000 in
set_option maxHeartbeats 4000000 in
theorem l_X13_command84_1 {g : zGT} {w wi : zW} {b : Nat} {th ch ea fa sv tn  ln kn : Int32} {fv fb fs fp fh ft fl fi : Nat → Int32} {I : List Nat} {S : zSt} {d x1 x2 P B : Nat} {z3 : Int32} (h0 : zG0 g) (hBl : B ≤ 1) (hfi : zFr w wi b (b + 11)) (h : Mx g wi b th ch ea fa sv tn (nI P) (nI I.length) ln kn (nI 0) (nI 1) fv fb fs fp fh ft fl fi) (hv : VS fv S) (hd : d < 11) : zTr g mX13_command (zR 4 0) 0 0 84 [(0, .ref (za g b)), (1, .int (nI (d))), (2, .int (nI (x2))), (3, .int (z3)), (4, .int (nI (x1)))] [] wi (fun o w' => o = .inl none ∧ zFr w w' b (b + 11) ∧ ∃ (th' : Int32) (f' : Nat → Int32), Mx g w' b (th') ch ea fa sv tn (nI P) (nI I.length) ln kn (nI 0) (nI 1) (f') fb fs fp fh ft fl fi ∧ th' = (if spF d (nI x1).toInt (nI x2).toInt z3.toInt S = 0 then th else nI (plc d (spF d (nI x1).toInt (nI x2).toInt z3.toInt S))) ∧ VS f' (if spF d (nI x1).toInt (nI x2).toInt z3.toInt S = 0 then spS d (nI x1).toInt (nI x2).toInt z3.toInt S else S)) := by
  have hb := h.1
  refine z_aload_n dX13_command_84 rfl ?_
  refine z_getf (j := b) dX13_command_85 kF_RX13_193 rfl (by omega) h.ce rfl ?_
  refine z_if_ne_n (a := 0) (tgt := 98) dX13_command_88 (by decide) (by omega) (fun h_88_1 => ?_) (fun h_88_1 => ?_)
  · exact absurd h_88_1 (by decide)
  · refine z_aload_n dX13_command_91 rfl ?_
    refine z_getf (j := b) dX13_command_92 kF_RX13_221 rfl (by omega) h.ce rfl ?_
    refine z_if_ne_n (a := 1) (tgt := 99) dX13_command_95 (by decide) (by omega) (fun h_95_2 => ?_) (fun h_95_2 => ?_)
    · refine z_aload_n dX13_command_99 rfl ?_
      refine z_iload_n dX13_command_100 rfl ?_
      refine z_iload dX13_command_101 rfl ?_
      refine z_iload_n dX13_command_103 rfl ?_
      refine z_iload_n dX13_command_104 rfl ?_
      refine z_callV (As := [.int (nI (d)), .int (nI (x1)), .int (nI (x2)), .int (z3)]) (rest := []) (b := b) (ci := 12) (R2 := zR 3 0) dX13_command_105 kV_RX13_224 rfl ⟨⟨by decide, by decide⟩, by decide, by decide⟩ (by omega) h.ce rfl rfl rfl (Nat.le_of_ble_eq_true rfl) rfl (c_X13_does (i := d) (x := nI x1) (y := nI x2) (z := z3) h0 h hv hd) (fun E w1 h => by obtain ⟨_, _, _, e, _⟩ := h; cases e) (fun v10 w11 h12 => ?_)
      rcases h12 with ⟨th3, g4, r5, ho9, hf6, hx7, ht8, hv9⟩
      · cases ho9
        refine z_istore (lv' := [(0, .ref (za g b)), (1, .int (nI (d))), (2, .int (nI (x2))), (3, .int (z3)), (4, .int (nI (x1))), (5, .int (r5))]) dX13_command_108 (by decide) rfl ?_
        refine z_vret dX13_command_110 rfl (by decide) (by decide) ?_
        exact ⟨rfl, (hfi.tr hf6), _, _, hx7, ht8, hv9⟩
    · exact absurd h_95_2 (by decide)
theorem vnum_8 {d : Nat} (h : d < 11) : (1 < vnum d ↔ d < 8) ∧ (2 < vnum d ↔ (d = 0 ∨ d = 6 ∨ d = 7)) := by
  have key : ∀ d : Fin 11, (1 < vnum d.val ↔ d.val < 8) ∧ (2 < vnum d.val ↔ (d.val = 0 ∨ d.val = 6 ∨ d.val = 7)) := by decide
  exact key ⟨d, h⟩
theorem pB_w {I : List Nat} {v p : Nat} : pB I v p 1 = (0, p, 1) := by
  unfold pB
  split
  · rw [pExp_n1]; exact pN_n1
  · rfl
theorem pC_w {I : List Nat} {v p : Nat} : (pC I v p 1).2 = (p, 1) := by
  unfold pC
  split
  · have e : (pS I v p 1).2 = (p, 1) := by
      unfold pS
      rw [pExp_n1]
      split
      · show (pSign I p 1).2 = (p, 1)
        unfold pSign; rw [if_neg (by omega), pExp_n1]
      · rfl
    show (pN I 48 (pS I v p 1).2.1 (pS I v p 1).2.2).2 = _
    rw [e]; show (pN I 48 p 1).2 = _; rw [pN_n1]
  · rfl
set_option maxRecDepth 100000 in
set_option maxHeartbeats 4000000 in
theorem l_X13_command44_0 {g : zGT} {w wi : zW} {b : Nat} {th ch ea fa sv tn  ln kn : Int32} {fv fb fs fp fh ft fl fi : Nat → Int32} {I : List Nat} {S : zSt} {d x1 x2 P B : Nat} (h0 : zG0 g) (htx : TxR ft I) (hd : d < 11) (hBl : B ≤ 1) (hPl : P ≤ I.length) (hfi : zFr w wi b (b + 11)) (h : Mx g wi b th ch ea fa sv tn (nI P) (nI I.length) ln kn (nI B) (nI 0) fv fb fs fp fh ft fl fi) : zTr g mX13_command (zR 4 0) 0 0 44 [(0, .ref (za g b)), (1, .int (nI (d))), (2, .int (nI (x2))), (3, .int (nI (0))), (4, .int (nI (x1)))] [] wi (fun o w' => o = .inl none ∧ zFr w w' b (b + 11) ∧ Mx g w' b th ch ea fa sv tn (nI (pC I d P B).2.1) (nI I.length) ln kn (nI (pC I d P B).2.2) (nI 0) fv fb fs fp fh ft fl fi) := by
  have hb := h.1
  have hnum := vnum_8 hd
  refine z_iload_n dX13_command_44 rfl ?_
  refine z_if_eq_n (a := d) (tgt := 54) dX13_command_45 (by decide) (by omega) (fun h_45_1 => ?_) (fun h_45_1 => ?_)
  · refine z_aload_n dX13_command_54 rfl ?_
    refine z_getf (j := b) dX13_command_55 kF_RX13_193 rfl (by omega) h.ce rfl ?_
    refine z_if_ne_n (a := B) (tgt := 66) dX13_command_58 (by decide) (by omega) (fun h_58_2 => ?_) (fun h_58_2 => ?_)
    · refine z_iload_n dX13_command_66 rfl ?_
      refine z_bipush (v := nI 6) dX13_command_67 rfl ?_
      refine z_icmp_ne_n (a := d) (b := 6) (tgt := 84) dX13_command_69 (by decide) (by omega) (by omega) (fun h_69_3 => ?_) (fun h_69_3 => ?_)
      · have hb1 : B = 1 := by omega
        subst hb1
        have eC : (pC I d P 1).2 = (P, 1) := pC_w
        rw [eC]
        exact l_X13_command84_0 (S := zs0) (d := d) (x1 := x1) (x2 := x2) (P := P) (B := 1) (z3 := nI (0)) h0 (by omega) hfi h
      · (exfalso; omega)
    · refine z_aload_n dX13_command_61 rfl ?_
      refine z_callR (As := []) (rest := []) (b := b) (ci := 12) (v := some (.int (nI ((pN I 48 (pExp I 32 (P) 0).1 (pExp I 32 (P) 0).2).1)))) (R2 := zR 2 0) dX13_command_62 kV_RX13_215 rfl ⟨⟨by decide, by decide⟩, by decide, by decide⟩ (by omega) h.ce rfl rfl rfl (Nat.le_of_ble_eq_true rfl) rfl (c_X13_behind (p := P) h0 (by have q9 := h; rw [show (B) = 0 by omega] at q9; exact q9) htx (by omega)) (fun w4 pw4 => ?_)
      obtain ⟨hf5, hx6⟩ := pw4
      refine z_istore_n (lv' := [(0, .ref (za g b)), (1, .int (nI (d))), (2, .int (nI (x2))), (3, .int (nI ((pN I 48 (pExp I 32 (P) 0).1 (pExp I 32 (P) 0).2).1))), (4, .int (nI (x1)))]) dX13_command_65 (by decide) rfl ?_
      refine z_iload_n dX13_command_66 rfl ?_
      refine z_bipush (v := nI 6) dX13_command_67 rfl ?_
      refine z_icmp_ne_n (a := d) (b := 6) (tgt := 84) dX13_command_69 (by decide) (by omega) (by omega) (fun h_69_7 => ?_) (fun h_69_7 => ?_)
      · have hb0 : B = 0 := by omega
        subst hb0
        have eC : (pC I d P 0) = (nI (pN I 48 (pExp I 32 P 0).1 (pExp I 32 P 0).2).1, (pN I 48 (pExp I 32 P 0).1 (pExp I 32 P 0).2).2) := by
          unfold pC; rw [if_pos (by omega)]; unfold pS; rw [if_neg (by omega)]; rw [show nI 1 = (1 : Int32) by decide, Int32.one_mul]
        rw [eC]
        exact l_X13_command84_0 (S := zs0) (d := d) (x1 := x1) (x2 := x2) (P := (pN I 48 (pExp I 32 P 0).1 (pExp I 32 P 0).2).2.1) (B := (pN I 48 (pExp I 32 P 0).1 (pExp I 32 P 0).2).2.2) (z3 := nI ((pN I 48 (pExp I 32 (P) 0).1 (pExp I 32 (P) 0).2).1)) h0 pN_b (hfi.tr hf5) hx6
      · (exfalso; omega)
  · refine z_iload_n dX13_command_48 rfl ?_
    refine z_bipush (v := nI 7) dX13_command_49 rfl ?_
    refine z_icmp_ne_n (a := d) (b := 7) (tgt := 66) dX13_command_51 (by decide) (by omega) (by omega) (fun h_51_8 => ?_) (fun h_51_8 => ?_)
    · refine z_iload_n dX13_command_66 rfl ?_
      refine z_bipush (v := nI 6) dX13_command_67 rfl ?_
      refine z_icmp_ne_n (a := d) (b := 6) (tgt := 84) dX13_command_69 (by decide) (by omega) (by omega) (fun h_69_9 => ?_) (fun h_69_9 => ?_)
      · have eC : (pC I d P B) = (nI 0, P, B) := by unfold pC; rw [if_neg (by omega)]
        rw [eC]
        exact l_X13_command84_0 (S := zs0) (d := d) (x1 := x1) (x2 := x2) (P := P) (B := B) (z3 := nI (0)) h0 hBl hfi h
      · refine z_aload_n dX13_command_72 rfl ?_
        refine z_getf (j := b) dX13_command_73 kF_RX13_193 rfl (by omega) h.ce rfl ?_
        refine z_if_ne_n (a := B) (tgt := 84) dX13_command_76 (by decide) (by omega) (fun h_76_10 => ?_) (fun h_76_10 => ?_)
        · have hb1 : B = 1 := by omega
          subst hb1
          have eC : (pC I d P 1).2 = (P, 1) := pC_w
          rw [eC]
          exact l_X13_command84_0 (S := zs0) (d := d) (x1 := x1) (x2 := x2) (P := P) (B := 1) (z3 := nI (0)) h0 (by omega) hfi h
        · refine z_aload_n dX13_command_79 rfl ?_
          refine z_callR (As := []) (rest := []) (b := b) (ci := 12) (v := some (.int ((pSign I (pExp I 32 (P) 0).1 (pExp I 32 (P) 0).2).1 * nI (pN I 48 (pSign I (pExp I 32 (P) 0).1 (pExp I 32 (P) 0).2).2.1 (pSign I (pExp I 32 (P) 0).1 (pExp I 32 (P) 0).2).2.2).1))) (R2 := zR 2 0) dX13_command_80 kV_RX13_218 rfl ⟨⟨by decide, by decide⟩, by decide, by decide⟩ (by omega) h.ce rfl rfl rfl (Nat.le_of_ble_eq_true rfl) rfl (c_X13_shift (p := P) h0 (by have q9 := h; rw [show (B) = 0 by omega] at q9; exact q9) htx (by omega)) (fun w11 pw11 => ?_)
          obtain ⟨hf12, hx13⟩ := pw11
          refine z_istore_n (lv' := [(0, .ref (za g b)), (1, .int (nI (d))), (2, .int (nI (x2))), (3, .int ((pSign I (pExp I 32 (P) 0).1 (pExp I 32 (P) 0).2).1 * nI (pN I 48 (pSign I (pExp I 32 (P) 0).1 (pExp I 32 (P) 0).2).2.1 (pSign I (pExp I 32 (P) 0).1 (pExp I 32 (P) 0).2).2.2).1)), (4, .int (nI (x1)))]) dX13_command_83 (by decide) rfl ?_
          have hb0 : B = 0 := by omega
          subst hb0
          have eC : (pC I d P 0) = ((pSign I (pExp I 32 P 0).1 (pExp I 32 P 0).2).1 * nI (pN I 48 (pSign I (pExp I 32 P 0).1 (pExp I 32 P 0).2).2.1 (pSign I (pExp I 32 P 0).1 (pExp I 32 P 0).2).2.2).1, (pN I 48 (pSign I (pExp I 32 P 0).1 (pExp I 32 P 0).2).2.1 (pSign I (pExp I 32 P 0).1 (pExp I 32 P 0).2).2.2).2) := by
            unfold pC; rw [if_pos (by omega)]; unfold pS; rw [if_pos (by omega)]
          rw [eC]
          exact l_X13_command84_0 (S := zs0) (d := d) (x1 := x1) (x2 := x2) (P := (pN I 48 (pSign I (pExp I 32 P 0).1 (pExp I 32 P 0).2).2.1 (pSign I (pExp I 32 P 0).1 (pExp I 32 P 0).2).2.2).2.1) (B := (pN I 48 (pSign I (pExp I 32 P 0).1 (pExp I 32 P 0).2).2.1 (pSign I (pExp I 32 P 0).1 (pExp I 32 P 0).2).2.2).2.2) (z3 := (pSign I (pExp I 32 (P) 0).1 (pExp I 32 (P) 0).2).1 * nI (pN I 48 (pSign I (pExp I 32 (P) 0).1 (pExp I 32 (P) 0).2).2.1 (pSign I (pExp I 32 (P) 0).1 (pExp I 32 (P) 0).2).2.2).1) h0 pN_b (hfi.tr hf12) hx13
    · refine z_aload_n dX13_command_54 rfl ?_
      refine z_getf (j := b) dX13_command_55 kF_RX13_193 rfl (by omega) h.ce rfl ?_
      refine z_if_ne_n (a := B) (tgt := 66) dX13_command_58 (by decide) (by omega) (fun h_58_14 => ?_) (fun h_58_14 => ?_)
      · refine z_iload_n dX13_command_66 rfl ?_
        refine z_bipush (v := nI 6) dX13_command_67 rfl ?_
        refine z_icmp_ne_n (a := d) (b := 6) (tgt := 84) dX13_command_69 (by decide) (by omega) (by omega) (fun h_69_15 => ?_) (fun h_69_15 => ?_)
        · have hb1 : B = 1 := by omega
          subst hb1
          have eC : (pC I d P 1).2 = (P, 1) := pC_w
          rw [eC]
          exact l_X13_command84_0 (S := zs0) (d := d) (x1 := x1) (x2 := x2) (P := P) (B := 1) (z3 := nI (0)) h0 (by omega) hfi h
        · (exfalso; omega)
      · refine z_aload_n dX13_command_61 rfl ?_
        refine z_callR (As := []) (rest := []) (b := b) (ci := 12) (v := some (.int (nI ((pN I 48 (pExp I 32 (P) 0).1 (pExp I 32 (P) 0).2).1)))) (R2 := zR 2 0) dX13_command_62 kV_RX13_215 rfl ⟨⟨by decide, by decide⟩, by decide, by decide⟩ (by omega) h.ce rfl rfl rfl (Nat.le_of_ble_eq_true rfl) rfl (c_X13_behind (p := P) h0 (by have q9 := h; rw [show (B) = 0 by omega] at q9; exact q9) htx (by omega)) (fun w16 pw16 => ?_)
        obtain ⟨hf17, hx18⟩ := pw16
        refine z_istore_n (lv' := [(0, .ref (za g b)), (1, .int (nI (d))), (2, .int (nI (x2))), (3, .int (nI ((pN I 48 (pExp I 32 (P) 0).1 (pExp I 32 (P) 0).2).1))), (4, .int (nI (x1)))]) dX13_command_65 (by decide) rfl ?_
        refine z_iload_n dX13_command_66 rfl ?_
        refine z_bipush (v := nI 6) dX13_command_67 rfl ?_
        refine z_icmp_ne_n (a := d) (b := 6) (tgt := 84) dX13_command_69 (by decide) (by omega) (by omega) (fun h_69_19 => ?_) (fun h_69_19 => ?_)
        · have hb0 : B = 0 := by omega
          subst hb0
          have eC : (pC I d P 0) = (nI (pN I 48 (pExp I 32 P 0).1 (pExp I 32 P 0).2).1, (pN I 48 (pExp I 32 P 0).1 (pExp I 32 P 0).2).2) := by
            unfold pC; rw [if_pos (by omega)]; unfold pS; rw [if_neg (by omega)]; rw [show nI 1 = (1 : Int32) by decide, Int32.one_mul]
          rw [eC]
          exact l_X13_command84_0 (S := zs0) (d := d) (x1 := x1) (x2 := x2) (P := (pN I 48 (pExp I 32 P 0).1 (pExp I 32 P 0).2).2.1) (B := (pN I 48 (pExp I 32 P 0).1 (pExp I 32 P 0).2).2.2) (z3 := nI ((pN I 48 (pExp I 32 (P) 0).1 (pExp I 32 (P) 0).2).1)) h0 pN_b (hfi.tr hf17) hx18
        · (exfalso; omega)
set_option maxRecDepth 100000 in
set_option maxHeartbeats 4000000 in
theorem l_X13_command44_1 {g : zGT} {w wi : zW} {b : Nat} {th ch ea fa sv tn  ln kn : Int32} {fv fb fs fp fh ft fl fi : Nat → Int32} {I : List Nat} {S : zSt} {d x1 x2 P B : Nat} (h0 : zG0 g) (htx : TxR ft I) (hd : d < 11) (hBl : B ≤ 1) (hPl : P ≤ I.length) (hfi : zFr w wi b (b + 11)) (h : Mx g wi b th ch ea fa sv tn (nI P) (nI I.length) ln kn (nI B) (nI 1) fv fb fs fp fh ft fl fi) (hv : VS fv S) (hbr : (pC I d P B).2.2 = 0) : zTr g mX13_command (zR 4 0) 0 0 44 [(0, .ref (za g b)), (1, .int (nI (d))), (2, .int (nI (x2))), (3, .int (nI (0))), (4, .int (nI (x1)))] [] wi (fun o w' => o = .inl none ∧ zFr w w' b (b + 11) ∧ ∃ (th' : Int32) (f' : Nat → Int32), Mx g w' b (th') ch ea fa sv tn (nI (pC I d P B).2.1) (nI I.length) ln kn (nI (pC I d P B).2.2) (nI 1) (f') fb fs fp fh ft fl fi ∧ th' = (if spF d (nI x1).toInt (nI x2).toInt (pC I d P B).1.toInt S = 0 then th else nI (plc d (spF d (nI x1).toInt (nI x2).toInt (pC I d P B).1.toInt S))) ∧ VS f' (if spF d (nI x1).toInt (nI x2).toInt (pC I d P B).1.toInt S = 0 then spS d (nI x1).toInt (nI x2).toInt (pC I d P B).1.toInt S else S)) := by
  have hb := h.1
  have hnum := vnum_8 hd
  refine z_iload_n dX13_command_44 rfl ?_
  refine z_if_eq_n (a := d) (tgt := 54) dX13_command_45 (by decide) (by omega) (fun h_45_1 => ?_) (fun h_45_1 => ?_)
  · refine z_aload_n dX13_command_54 rfl ?_
    refine z_getf (j := b) dX13_command_55 kF_RX13_193 rfl (by omega) h.ce rfl ?_
    refine z_if_ne_n (a := B) (tgt := 66) dX13_command_58 (by decide) (by omega) (fun h_58_2 => ?_) (fun h_58_2 => ?_)
    · refine z_iload_n dX13_command_66 rfl ?_
      refine z_bipush (v := nI 6) dX13_command_67 rfl ?_
      refine z_icmp_ne_n (a := d) (b := 6) (tgt := 84) dX13_command_69 (by decide) (by omega) (by omega) (fun h_69_3 => ?_) (fun h_69_3 => ?_)
      · have hb1 : B = 1 := by omega
        rw [hb1, pC_w] at hbr
        exact absurd (show (1 : Nat) = 0 from hbr) (by decide)
      · (exfalso; omega)
    · refine z_aload_n dX13_command_61 rfl ?_
      refine z_callR (As := []) (rest := []) (b := b) (ci := 12) (v := some (.int (nI ((pN I 48 (pExp I 32 (P) 0).1 (pExp I 32 (P) 0).2).1)))) (R2 := zR 2 0) dX13_command_62 kV_RX13_215 rfl ⟨⟨by decide, by decide⟩, by decide, by decide⟩ (by omega) h.ce rfl rfl rfl (Nat.le_of_ble_eq_true rfl) rfl (c_X13_behind (p := P) h0 (by have q9 := h; rw [show (B) = 0 by omega] at q9; exact q9) htx (by omega)) (fun w4 pw4 => ?_)
      obtain ⟨hf5, hx6⟩ := pw4
      refine z_istore_n (lv' := [(0, .ref (za g b)), (1, .int (nI (d))), (2, .int (nI (x2))), (3, .int (nI ((pN I 48 (pExp I 32 (P) 0).1 (pExp I 32 (P) 0).2).1))), (4, .int (nI (x1)))]) dX13_command_65 (by decide) rfl ?_
      refine z_iload_n dX13_command_66 rfl ?_
      refine z_bipush (v := nI 6) dX13_command_67 rfl ?_
      refine z_icmp_ne_n (a := d) (b := 6) (tgt := 84) dX13_command_69 (by decide) (by omega) (by omega) (fun h_69_7 => ?_) (fun h_69_7 => ?_)
      · have hb0 : B = 0 := by omega
        subst hb0
        have eC : (pC I d P 0) = (nI (pN I 48 (pExp I 32 P 0).1 (pExp I 32 P 0).2).1, (pN I 48 (pExp I 32 P 0).1 (pExp I 32 P 0).2).2) := by
          unfold pC; rw [if_pos (by omega)]; unfold pS; rw [if_neg (by omega)]; rw [show nI 1 = (1 : Int32) by decide, Int32.one_mul]
        rw [eC] at hbr ⊢
        have hx9 := hx6
        have hb9 : (pN I 48 (pExp I 32 P 0).1 (pExp I 32 P 0).2).2.2 = 0 := hbr
        rw [hb9] at hx9
        have q9 := l_X13_command84_1 (d := d) (x1 := x1) (x2 := x2) (P := (pN I 48 (pExp I 32 P 0).1 (pExp I 32 P 0).2).2.1) (B := 0) (z3 := nI ((pN I 48 (pExp I 32 (P) 0).1 (pExp I 32 (P) 0).2).1)) h0 (by omega) (hfi.tr hf5) hx9 hv hd
        show zTr g mX13_command (zR 4 0) 0 0 84 _ _ _ (fun o w' => o = .inl none ∧ zFr w w' b (b + 11) ∧ ∃ (th' : Int32) (f' : Nat → Int32), Mx g w' b (th') ch ea fa sv tn (nI (pN I 48 (pExp I 32 P 0).1 (pExp I 32 P 0).2).2.1) (nI I.length) ln kn (nI (pN I 48 (pExp I 32 P 0).1 (pExp I 32 P 0).2).2.2) (nI 1) (f') fb fs fp fh ft fl fi ∧ th' = (if spF d (nI x1).toInt (nI x2).toInt (nI ((pN I 48 (pExp I 32 (P) 0).1 (pExp I 32 (P) 0).2).1)).toInt S = 0 then th else nI (plc d (spF d (nI x1).toInt (nI x2).toInt (nI ((pN I 48 (pExp I 32 (P) 0).1 (pExp I 32 (P) 0).2).1)).toInt S))) ∧ VS f' (if spF d (nI x1).toInt (nI x2).toInt (nI ((pN I 48 (pExp I 32 (P) 0).1 (pExp I 32 (P) 0).2).1)).toInt S = 0 then spS d (nI x1).toInt (nI x2).toInt (nI ((pN I 48 (pExp I 32 (P) 0).1 (pExp I 32 (P) 0).2).1)).toInt S else S))
        rw [hb9]; exact q9
      · (exfalso; omega)
  · refine z_iload_n dX13_command_48 rfl ?_
    refine z_bipush (v := nI 7) dX13_command_49 rfl ?_
    refine z_icmp_ne_n (a := d) (b := 7) (tgt := 66) dX13_command_51 (by decide) (by omega) (by omega) (fun h_51_8 => ?_) (fun h_51_8 => ?_)
    · refine z_iload_n dX13_command_66 rfl ?_
      refine z_bipush (v := nI 6) dX13_command_67 rfl ?_
      refine z_icmp_ne_n (a := d) (b := 6) (tgt := 84) dX13_command_69 (by decide) (by omega) (by omega) (fun h_69_9 => ?_) (fun h_69_9 => ?_)
      · have eC : (pC I d P B) = (nI 0, P, B) := by unfold pC; rw [if_neg (by omega)]
        rw [eC] at hbr ⊢
        have hx9 := h
        have hb9 : B = 0 := hbr
        rw [hb9] at hx9
        have q9 := l_X13_command84_1 (d := d) (x1 := x1) (x2 := x2) (P := P) (B := 0) (z3 := nI (0)) h0 (by omega) hfi hx9 hv hd
        rw [show ((nI 0, P, B) : Int32 × Nat × Nat).2.2 = 0 from hbr]
        exact q9
      · refine z_aload_n dX13_command_72 rfl ?_
        refine z_getf (j := b) dX13_command_73 kF_RX13_193 rfl (by omega) h.ce rfl ?_
        refine z_if_ne_n (a := B) (tgt := 84) dX13_command_76 (by decide) (by omega) (fun h_76_10 => ?_) (fun h_76_10 => ?_)
        · have hb1 : B = 1 := by omega
          rw [hb1, pC_w] at hbr
          exact absurd (show (1 : Nat) = 0 from hbr) (by decide)
        · refine z_aload_n dX13_command_79 rfl ?_
          refine z_callR (As := []) (rest := []) (b := b) (ci := 12) (v := some (.int ((pSign I (pExp I 32 (P) 0).1 (pExp I 32 (P) 0).2).1 * nI (pN I 48 (pSign I (pExp I 32 (P) 0).1 (pExp I 32 (P) 0).2).2.1 (pSign I (pExp I 32 (P) 0).1 (pExp I 32 (P) 0).2).2.2).1))) (R2 := zR 2 0) dX13_command_80 kV_RX13_218 rfl ⟨⟨by decide, by decide⟩, by decide, by decide⟩ (by omega) h.ce rfl rfl rfl (Nat.le_of_ble_eq_true rfl) rfl (c_X13_shift (p := P) h0 (by have q9 := h; rw [show (B) = 0 by omega] at q9; exact q9) htx (by omega)) (fun w11 pw11 => ?_)
          obtain ⟨hf12, hx13⟩ := pw11
          refine z_istore_n (lv' := [(0, .ref (za g b)), (1, .int (nI (d))), (2, .int (nI (x2))), (3, .int ((pSign I (pExp I 32 (P) 0).1 (pExp I 32 (P) 0).2).1 * nI (pN I 48 (pSign I (pExp I 32 (P) 0).1 (pExp I 32 (P) 0).2).2.1 (pSign I (pExp I 32 (P) 0).1 (pExp I 32 (P) 0).2).2.2).1)), (4, .int (nI (x1)))]) dX13_command_83 (by decide) rfl ?_
          have hb0 : B = 0 := by omega
          subst hb0
          have eC : (pC I d P 0) = ((pSign I (pExp I 32 P 0).1 (pExp I 32 P 0).2).1 * nI (pN I 48 (pSign I (pExp I 32 P 0).1 (pExp I 32 P 0).2).2.1 (pSign I (pExp I 32 P 0).1 (pExp I 32 P 0).2).2.2).1, (pN I 48 (pSign I (pExp I 32 P 0).1 (pExp I 32 P 0).2).2.1 (pSign I (pExp I 32 P 0).1 (pExp I 32 P 0).2).2.2).2) := by
            unfold pC; rw [if_pos (by omega)]; unfold pS; rw [if_pos (by omega)]
          rw [eC] at hbr ⊢
          have hx9 := hx13
          have hb9 : (pN I 48 (pSign I (pExp I 32 P 0).1 (pExp I 32 P 0).2).2.1 (pSign I (pExp I 32 P 0).1 (pExp I 32 P 0).2).2.2).2.2 = 0 := hbr
          rw [hb9] at hx9
          have q9 := l_X13_command84_1 (d := d) (x1 := x1) (x2 := x2) (P := (pN I 48 (pSign I (pExp I 32 P 0).1 (pExp I 32 P 0).2).2.1 (pSign I (pExp I 32 P 0).1 (pExp I 32 P 0).2).2.2).2.1) (B := 0) (z3 := (pSign I (pExp I 32 (P) 0).1 (pExp I 32 (P) 0).2).1 * nI (pN I 48 (pSign I (pExp I 32 (P) 0).1 (pExp I 32 (P) 0).2).2.1 (pSign I (pExp I 32 (P) 0).1 (pExp I 32 (P) 0).2).2.2).1) h0 (by omega) (hfi.tr hf12) hx9 hv hd
          show zTr g mX13_command (zR 4 0) 0 0 84 _ _ _ (fun o w' => o = .inl none ∧ zFr w w' b (b + 11) ∧ ∃ (th' : Int32) (f' : Nat → Int32), Mx g w' b (th') ch ea fa sv tn (nI (pN I 48 (pSign I (pExp I 32 P 0).1 (pExp I 32 P 0).2).2.1 (pSign I (pExp I 32 P 0).1 (pExp I 32 P 0).2).2.2).2.1) (nI I.length) ln kn (nI (pN I 48 (pSign I (pExp I 32 P 0).1 (pExp I 32 P 0).2).2.1 (pSign I (pExp I 32 P 0).1 (pExp I 32 P 0).2).2.2).2.2) (nI 1) (f') fb fs fp fh ft fl fi ∧ th' = (if spF d (nI x1).toInt (nI x2).toInt ((pSign I (pExp I 32 (P) 0).1 (pExp I 32 (P) 0).2).1 * nI (pN I 48 (pSign I (pExp I 32 (P) 0).1 (pExp I 32 (P) 0).2).2.1 (pSign I (pExp I 32 (P) 0).1 (pExp I 32 (P) 0).2).2.2).1).toInt S = 0 then th else nI (plc d (spF d (nI x1).toInt (nI x2).toInt ((pSign I (pExp I 32 (P) 0).1 (pExp I 32 (P) 0).2).1 * nI (pN I 48 (pSign I (pExp I 32 (P) 0).1 (pExp I 32 (P) 0).2).2.1 (pSign I (pExp I 32 (P) 0).1 (pExp I 32 (P) 0).2).2.2).1).toInt S))) ∧ VS f' (if spF d (nI x1).toInt (nI x2).toInt ((pSign I (pExp I 32 (P) 0).1 (pExp I 32 (P) 0).2).1 * nI (pN I 48 (pSign I (pExp I 32 (P) 0).1 (pExp I 32 (P) 0).2).2.1 (pSign I (pExp I 32 (P) 0).1 (pExp I 32 (P) 0).2).2.2).1).toInt S = 0 then spS d (nI x1).toInt (nI x2).toInt ((pSign I (pExp I 32 (P) 0).1 (pExp I 32 (P) 0).2).1 * nI (pN I 48 (pSign I (pExp I 32 (P) 0).1 (pExp I 32 (P) 0).2).2.1 (pSign I (pExp I 32 (P) 0).1 (pExp I 32 (P) 0).2).2.2).1).toInt S else S))
          rw [hb9]; exact q9
    · refine z_aload_n dX13_command_54 rfl ?_
      refine z_getf (j := b) dX13_command_55 kF_RX13_193 rfl (by omega) h.ce rfl ?_
      refine z_if_ne_n (a := B) (tgt := 66) dX13_command_58 (by decide) (by omega) (fun h_58_14 => ?_) (fun h_58_14 => ?_)
      · refine z_iload_n dX13_command_66 rfl ?_
        refine z_bipush (v := nI 6) dX13_command_67 rfl ?_
        refine z_icmp_ne_n (a := d) (b := 6) (tgt := 84) dX13_command_69 (by decide) (by omega) (by omega) (fun h_69_15 => ?_) (fun h_69_15 => ?_)
        · have hb1 : B = 1 := by omega
          rw [hb1, pC_w] at hbr
          exact absurd (show (1 : Nat) = 0 from hbr) (by decide)
        · (exfalso; omega)
      · refine z_aload_n dX13_command_61 rfl ?_
        refine z_callR (As := []) (rest := []) (b := b) (ci := 12) (v := some (.int (nI ((pN I 48 (pExp I 32 (P) 0).1 (pExp I 32 (P) 0).2).1)))) (R2 := zR 2 0) dX13_command_62 kV_RX13_215 rfl ⟨⟨by decide, by decide⟩, by decide, by decide⟩ (by omega) h.ce rfl rfl rfl (Nat.le_of_ble_eq_true rfl) rfl (c_X13_behind (p := P) h0 (by have q9 := h; rw [show (B) = 0 by omega] at q9; exact q9) htx (by omega)) (fun w16 pw16 => ?_)
        obtain ⟨hf17, hx18⟩ := pw16
        refine z_istore_n (lv' := [(0, .ref (za g b)), (1, .int (nI (d))), (2, .int (nI (x2))), (3, .int (nI ((pN I 48 (pExp I 32 (P) 0).1 (pExp I 32 (P) 0).2).1))), (4, .int (nI (x1)))]) dX13_command_65 (by decide) rfl ?_
        refine z_iload_n dX13_command_66 rfl ?_
        refine z_bipush (v := nI 6) dX13_command_67 rfl ?_
        refine z_icmp_ne_n (a := d) (b := 6) (tgt := 84) dX13_command_69 (by decide) (by omega) (by omega) (fun h_69_19 => ?_) (fun h_69_19 => ?_)
        · have hb0 : B = 0 := by omega
          subst hb0
          have eC : (pC I d P 0) = (nI (pN I 48 (pExp I 32 P 0).1 (pExp I 32 P 0).2).1, (pN I 48 (pExp I 32 P 0).1 (pExp I 32 P 0).2).2) := by
            unfold pC; rw [if_pos (by omega)]; unfold pS; rw [if_neg (by omega)]; rw [show nI 1 = (1 : Int32) by decide, Int32.one_mul]
          rw [eC] at hbr ⊢
          have hx9 := hx18
          have hb9 : (pN I 48 (pExp I 32 P 0).1 (pExp I 32 P 0).2).2.2 = 0 := hbr
          rw [hb9] at hx9
          have q9 := l_X13_command84_1 (d := d) (x1 := x1) (x2 := x2) (P := (pN I 48 (pExp I 32 P 0).1 (pExp I 32 P 0).2).2.1) (B := 0) (z3 := nI ((pN I 48 (pExp I 32 (P) 0).1 (pExp I 32 (P) 0).2).1)) h0 (by omega) (hfi.tr hf17) hx9 hv hd
          show zTr g mX13_command (zR 4 0) 0 0 84 _ _ _ (fun o w' => o = .inl none ∧ zFr w w' b (b + 11) ∧ ∃ (th' : Int32) (f' : Nat → Int32), Mx g w' b (th') ch ea fa sv tn (nI (pN I 48 (pExp I 32 P 0).1 (pExp I 32 P 0).2).2.1) (nI I.length) ln kn (nI (pN I 48 (pExp I 32 P 0).1 (pExp I 32 P 0).2).2.2) (nI 1) (f') fb fs fp fh ft fl fi ∧ th' = (if spF d (nI x1).toInt (nI x2).toInt (nI ((pN I 48 (pExp I 32 (P) 0).1 (pExp I 32 (P) 0).2).1)).toInt S = 0 then th else nI (plc d (spF d (nI x1).toInt (nI x2).toInt (nI ((pN I 48 (pExp I 32 (P) 0).1 (pExp I 32 (P) 0).2).1)).toInt S))) ∧ VS f' (if spF d (nI x1).toInt (nI x2).toInt (nI ((pN I 48 (pExp I 32 (P) 0).1 (pExp I 32 (P) 0).2).1)).toInt S = 0 then spS d (nI x1).toInt (nI x2).toInt (nI ((pN I 48 (pExp I 32 (P) 0).1 (pExp I 32 (P) 0).2).1)).toInt S else S))
          rw [hb9]; exact q9
        · (exfalso; omega)
set_option maxRecDepth 100000 in
set_option maxHeartbeats 4000000 in
theorem l_X13_command26_0 {g : zGT} {w wi : zW} {b : Nat} {th ch ea fa sv tn  ln kn : Int32} {fv fb fs fp fh ft fl fi : Nat → Int32} {I : List Nat} {S : zSt} {d x1 P B : Nat} (h0 : zG0 g) (htx : TxR ft I) (hd : d < 11) (hBl : B ≤ 1) (hPl : P ≤ I.length) (hfi : zFr w wi b (b + 11)) (h : Mx g wi b th ch ea fa sv tn (nI P) (nI I.length) ln kn (nI B) (nI 0) fv fb fs fp fh ft fl fi) : zTr g mX13_command (zR 4 0) 0 0 26 [(0, .ref (za g b)), (1, .int (nI (d))), (2, .int (nI (0))), (3, .int (nI (0))), (4, .int (nI (x1)))] [] wi (fun o w' => o = .inl none ∧ zFr w w' b (b + 11) ∧ Mx g w' b th ch ea fa sv tn (nI (pC I d (pB I d P B).2.1 (pB I d P B).2.2).2.1) (nI I.length) ln kn (nI (pC I d (pB I d P B).2.1 (pB I d P B).2.2).2.2) (nI 0) fv fb fs fp fh ft fl fi) := by
  have hb := h.1
  have hnum := vnum_8 hd
  refine z_iload_n dX13_command_26 rfl ?_
  refine z_bipush (v := nI 8) dX13_command_27 rfl ?_
  refine z_icmp_ge_n (a := d) (b := 8) (tgt := 44) dX13_command_29 (by decide) (by omega) (by omega) (fun h_29_1 => ?_) (fun h_29_1 => ?_)
  · have eB : (pB I d P B) = (0, P, B) := by unfold pB; rw [if_neg (by omega)]
    rw [eB]
    exact l_X13_command44_0 (S := zs0) (d := d) (x1 := x1) (x2 := 0) (P := P) (B := B) h0 htx hd (by omega) hPl hfi h
  · refine z_aload_n dX13_command_32 rfl ?_
    refine z_getf (j := b) dX13_command_33 kF_RX13_193 rfl (by omega) h.ce rfl ?_
    refine z_if_ne_n (a := B) (tgt := 44) dX13_command_36 (by decide) (by omega) (fun h_36_2 => ?_) (fun h_36_2 => ?_)
    · have hb1 : B = 1 := by omega
      subst hb1
      have eB : pB I d P 1 = (0, P, 1) := pB_w
      rw [eB]
      exact l_X13_command44_0 (S := zs0) (d := d) (x1 := x1) (x2 := 0) (P := P) (B := 1) h0 htx hd (by omega) hPl hfi h
    · refine z_aload_n dX13_command_39 rfl ?_
      refine z_callR (As := []) (rest := []) (b := b) (ci := 12) (v := some (.int (nI ((pN I 48 (pExp I 32 (P) 0).1 (pExp I 32 (P) 0).2).1)))) (R2 := zR 2 0) dX13_command_40 kV_RX13_215 rfl ⟨⟨by decide, by decide⟩, by decide, by decide⟩ (by omega) h.ce rfl rfl rfl (Nat.le_of_ble_eq_true rfl) rfl (c_X13_behind (p := P) h0 (by have q9 := h; rw [show (B) = 0 by omega] at q9; exact q9) htx (by omega)) (fun w3 pw3 => ?_)
      obtain ⟨hf4, hx5⟩ := pw3
      refine z_istore_n (lv' := [(0, .ref (za g b)), (1, .int (nI (d))), (2, .int (nI ((pN I 48 (pExp I 32 (P) 0).1 (pExp I 32 (P) 0).2).1))), (3, .int (nI (0))), (4, .int (nI (x1)))]) dX13_command_43 (by decide) rfl ?_
      have hb0 : B = 0 := by omega
      subst hb0
      have eB : pB I d P 0 = (pN I 48 (pExp I 32 P 0).1 (pExp I 32 P 0).2) := by unfold pB; rw [if_pos (by omega)]
      rw [eB]
      exact l_X13_command44_0 (S := zs0) (d := d) (x1 := x1) (x2 := (pN I 48 (pExp I 32 P 0).1 (pExp I 32 P 0).2).1) (P := (pN I 48 (pExp I 32 P 0).1 (pExp I 32 P 0).2).2.1) (B := (pN I 48 (pExp I 32 P 0).1 (pExp I 32 P 0).2).2.2) h0 htx hd pN_b (pN_in (by omega) (pExp_in (by omega) hPl).1) (hfi.tr hf4) hx5
set_option maxRecDepth 100000 in
set_option maxHeartbeats 4000000 in
theorem l_X13_command26_1 {g : zGT} {w wi : zW} {b : Nat} {th ch ea fa sv tn  ln kn : Int32} {fv fb fs fp fh ft fl fi : Nat → Int32} {I : List Nat} {S : zSt} {d x1 P B : Nat} (h0 : zG0 g) (htx : TxR ft I) (hd : d < 11) (hBl : B ≤ 1) (hPl : P ≤ I.length) (hfi : zFr w wi b (b + 11)) (h : Mx g wi b th ch ea fa sv tn (nI P) (nI I.length) ln kn (nI B) (nI 1) fv fb fs fp fh ft fl fi) (hv : VS fv S) (hbr : (pC I d (pB I d P B).2.1 (pB I d P B).2.2).2.2 = 0) : zTr g mX13_command (zR 4 0) 0 0 26 [(0, .ref (za g b)), (1, .int (nI (d))), (2, .int (nI (0))), (3, .int (nI (0))), (4, .int (nI (x1)))] [] wi (fun o w' => o = .inl none ∧ zFr w w' b (b + 11) ∧ ∃ (th' : Int32) (f' : Nat → Int32), Mx g w' b (th') ch ea fa sv tn (nI (pC I d (pB I d P B).2.1 (pB I d P B).2.2).2.1) (nI I.length) ln kn (nI (pC I d (pB I d P B).2.1 (pB I d P B).2.2).2.2) (nI 1) (f') fb fs fp fh ft fl fi ∧ th' = (if spF d (nI x1).toInt (nI (pB I d P B).1).toInt (pC I d (pB I d P B).2.1 (pB I d P B).2.2).1.toInt S = 0 then th else nI (plc d (spF d (nI x1).toInt (nI (pB I d P B).1).toInt (pC I d (pB I d P B).2.1 (pB I d P B).2.2).1.toInt S))) ∧ VS f' (if spF d (nI x1).toInt (nI (pB I d P B).1).toInt (pC I d (pB I d P B).2.1 (pB I d P B).2.2).1.toInt S = 0 then spS d (nI x1).toInt (nI (pB I d P B).1).toInt (pC I d (pB I d P B).2.1 (pB I d P B).2.2).1.toInt S else S)) := by
  have hb := h.1
  have hnum := vnum_8 hd
  refine z_iload_n dX13_command_26 rfl ?_
  refine z_bipush (v := nI 8) dX13_command_27 rfl ?_
  refine z_icmp_ge_n (a := d) (b := 8) (tgt := 44) dX13_command_29 (by decide) (by omega) (by omega) (fun h_29_1 => ?_) (fun h_29_1 => ?_)
  · have eB : (pB I d P B) = (0, P, B) := by unfold pB; rw [if_neg (by omega)]
    rw [eB] at hbr ⊢
    exact l_X13_command44_1 (S := S) (d := d) (x1 := x1) (x2 := 0) (P := P) (B := B) h0 htx hd (by omega) hPl hfi h hv hbr
  · refine z_aload_n dX13_command_32 rfl ?_
    refine z_getf (j := b) dX13_command_33 kF_RX13_193 rfl (by omega) h.ce rfl ?_
    refine z_if_ne_n (a := B) (tgt := 44) dX13_command_36 (by decide) (by omega) (fun h_36_2 => ?_) (fun h_36_2 => ?_)
    · have hb1 : B = 1 := by omega
      subst hb1
      have eB : pB I d P 1 = (0, P, 1) := pB_w
      rw [eB] at hbr ⊢
      exact l_X13_command44_1 (S := S) (d := d) (x1 := x1) (x2 := 0) (P := P) (B := 1) h0 htx hd (by omega) hPl hfi h hv hbr
    · refine z_aload_n dX13_command_39 rfl ?_
      refine z_callR (As := []) (rest := []) (b := b) (ci := 12) (v := some (.int (nI ((pN I 48 (pExp I 32 (P) 0).1 (pExp I 32 (P) 0).2).1)))) (R2 := zR 2 0) dX13_command_40 kV_RX13_215 rfl ⟨⟨by decide, by decide⟩, by decide, by decide⟩ (by omega) h.ce rfl rfl rfl (Nat.le_of_ble_eq_true rfl) rfl (c_X13_behind (p := P) h0 (by have q9 := h; rw [show (B) = 0 by omega] at q9; exact q9) htx (by omega)) (fun w3 pw3 => ?_)
      obtain ⟨hf4, hx5⟩ := pw3
      refine z_istore_n (lv' := [(0, .ref (za g b)), (1, .int (nI (d))), (2, .int (nI ((pN I 48 (pExp I 32 (P) 0).1 (pExp I 32 (P) 0).2).1))), (3, .int (nI (0))), (4, .int (nI (x1)))]) dX13_command_43 (by decide) rfl ?_
      have hb0 : B = 0 := by omega
      subst hb0
      have eB : pB I d P 0 = (pN I 48 (pExp I 32 P 0).1 (pExp I 32 P 0).2) := by unfold pB; rw [if_pos (by omega)]
      rw [eB] at hbr ⊢
      exact l_X13_command44_1 (S := S) (d := d) (x1 := x1) (x2 := (pN I 48 (pExp I 32 P 0).1 (pExp I 32 P 0).2).1) (P := (pN I 48 (pExp I 32 P 0).1 (pExp I 32 P 0).2).2.1) (B := (pN I 48 (pExp I 32 P 0).1 (pExp I 32 P 0).2).2.2) h0 htx hd pN_b (pN_in (by omega) (pExp_in (by omega) hPl).1) (hfi.tr hf4) hx5 hv hbr
set_option maxRecDepth 100000 in
set_option maxHeartbeats 4000000 in
theorem c_X13_command_0 {g : zGT} {w : zW} {b : Nat} {th ch ea fa sv tn  ln kn : Int32} {fv fb fs fp fh ft fl fi : Nat → Int32} {I : List Nat} {S : zSt} {p : Nat} (h0 : zG0 g) (h : Mx g w b th ch ea fa sv tn (nI p) (nI I.length) ln kn (nI 0) (nI 0) fv fb fs fp fh ft fl fi) (htx : TxR ft I) (hpl : p ≤ I.length) : zCt g mX13_command (zR 4 0) [.ref (za g b)] w (fun o w' => o = .inl none ∧ zFr w w' b (b + 11) ∧ ∃ (fi' : Nat → Int32), Mx g w' b th ch ea fa sv tn (nI (pCmd I p).2.1) (nI I.length) ln kn (nI (pCmd I p).2.2) (nI 0) fv fb fs fp fh ft fl (fi')) := by
  have hb := h.1
  have htl := htx.1
  refine zCt_of (by decide +kernel) h0 [(0, .ref (za g b))] rfl (Nat.le_of_ble_eq_true rfl) ?_
  refine z_aload_n dX13_command_0 rfl ?_
  refine z_callV (As := []) (rest := []) (b := b) (ci := 12) (R2 := zR 2 0) dX13_command_1 kV_RX13_212 rfl ⟨⟨by decide, by decide⟩, by decide, by decide⟩ (by omega) h.ce rfl rfl rfl (Nat.le_of_ble_eq_true rfl) rfl (c_X13_word h0 h htx hpl) (fun E w1 h => by rcases h with ⟨_, _, _, _, e, _⟩ | ⟨_, _, e, _⟩ <;> cases e) (fun v1 w2 h3 => ?_)
  rcases h3 with ⟨d, f9, hd, hvi, ho9, hfw, hxw⟩ | ⟨f9, hvi, ho9, hfw, hxw⟩
  · cases ho9
    have hv5 := pVp_5 (I := I) (p := p) (by omega) hpl
    have hpx : pX I p = d := by unfold pX; rw [hvi]; rfl
    have hnum := vnum_8 hd
    refine z_istore_n (lv' := [(0, .ref (za g b)), (1, .int (nI (d)))]) dX13_command_4 (by decide) rfl ?_
    refine z_iconst (v := nI 0) dX13_command_5 rfl ?_
    refine z_istore_n (lv' := [(0, .ref (za g b)), (1, .int (nI (d))), (2, .int (nI (0)))]) dX13_command_6 (by decide) rfl ?_
    refine z_iconst (v := nI 0) dX13_command_7 rfl ?_
    refine z_istore_n (lv' := [(0, .ref (za g b)), (1, .int (nI (d))), (2, .int (nI (0))), (3, .int (nI (0)))]) dX13_command_8 (by decide) rfl ?_
    refine z_aload_n dX13_command_9 rfl ?_
    refine z_getf (j := b) dX13_command_10 kF_RX13_193 rfl (by omega) hxw.ce rfl ?_
    refine z_if_eq_n (a := 0) (tgt := 20) dX13_command_13 (by decide) (by omega) (fun h_13_4 => ?_) (fun h_13_4 => ?_)
    · refine z_aload_n dX13_command_20 rfl ?_
      refine z_callR (As := []) (rest := []) (b := b) (ci := 12) (v := some (.int (nI ((pN I 48 (pVp I p) (0)).1)))) (R2 := zR 1 0) dX13_command_21 kV_RX13_203 rfl ⟨⟨by decide, by decide⟩, by decide, by decide⟩ (by omega) hxw.ce rfl rfl rfl (Nat.le_of_ble_eq_true rfl) rfl (c_X13_digits (p := pVp I p) (br := 0) h0 hxw htx (by omega) (by omega)) (fun w5 pw5 => ?_)
      obtain ⟨hf6, hx7⟩ := pw5
      have hpn8 := pN_in (I := I) (lo := 48) (p := pVp I p) (br := 0) (by omega) (by omega)
      have hpb9 := pN_b (I := I) (lo := 48) (p := pVp I p) (br := 0)
      have hpl10 := pN_le (I := I) (lo := 48) (p := pVp I p) (br := 0) (by omega)
      refine z_istore (lv' := [(0, .ref (za g b)), (1, .int (nI (d))), (2, .int (nI (0))), (3, .int (nI (0))), (4, .int (nI ((pN I 48 (pVp I p) (0)).1)))]) dX13_command_24 (by decide) rfl ?_
      have eP : pCmd I p = ([(d, nI (pA I p).1, nI (pB2 I p).1, (pC2 I p).1)], (pC2 I p).2) := by unfold pCmd; rw [if_neg (by omega), hpx]
      have eB : pB2 I p = pB I d (pA I p).2.1 (pA I p).2.2 := by unfold pB2; rw [hpx]
      have eC : pC2 I p = pC I d (pB2 I p).2.1 (pB2 I p).2.2 := by unfold pC2; rw [hpx]
      rw [eP, eC, eB]
      refine z_post (l_X13_command26_0 (S := zs0) (d := d) (x1 := (pA I p).1) (P := (pA I p).2.1) (B := (pA I p).2.2) h0 htx hd pN_b (pN_in (by omega) hv5.2) (hfw.tr hf6) hx7) (fun o9 w9 h9 => ?_)
      exact ⟨h9.1, h9.2.1, _, h9.2.2⟩
    · exact absurd h_13_4 (by decide)
  · cases ho9
    refine z_istore_n (lv' := [(0, .ref (za g b)), (1, .int (-1))]) dX13_command_4 (by decide) rfl ?_
    refine z_iconst (v := nI 0) dX13_command_5 rfl ?_
    refine z_istore_n (lv' := [(0, .ref (za g b)), (1, .int (-1)), (2, .int (nI (0)))]) dX13_command_6 (by decide) rfl ?_
    refine z_iconst (v := nI 0) dX13_command_7 rfl ?_
    refine z_istore_n (lv' := [(0, .ref (za g b)), (1, .int (-1)), (2, .int (nI (0))), (3, .int (nI (0)))]) dX13_command_8 (by decide) rfl ?_
    refine z_aload_n dX13_command_9 rfl ?_
    refine z_getf (j := b) dX13_command_10 kF_RX13_193 rfl (by omega) hxw.ce rfl ?_
    refine z_if_eq_n (a := 1) (tgt := 20) dX13_command_13 (by decide) (by omega) (fun h_13_11 => ?_) (fun h_13_11 => ?_)
    · exact absurd h_13_11 (by decide)
    · refine z_iconst (v := nI 0) dX13_command_16 rfl ?_
      refine z_goto (tgt := 24) dX13_command_17 (by decide) ?_
      refine z_istore (lv' := [(0, .ref (za g b)), (1, .int (-1)), (2, .int (nI (0))), (3, .int (nI (0))), (4, .int (nI (0)))]) dX13_command_24 (by decide) rfl ?_
      refine z_iload_n dX13_command_26 rfl ?_
      refine z_bipush (v := nI 8) dX13_command_27 rfl ?_
      have hk63 : (-1 : Int32).toInt = -1 := by decide
      have hk64 := nI_toInt (n := 8) (by omega)
      refine z_icmp_ge_z (tgt := 44) dX13_command_29 (by decide) (fun h_29_62 => ?_) (fun h_29_62 => ?_)
      · refine z_iload_n dX13_command_44 rfl ?_
        refine z_if_eq_z (tgt := 54) dX13_command_45 (by decide) (fun h_45_65 => ?_) (fun h_45_65 => ?_)
        · refine z_aload_n dX13_command_54 rfl ?_
          refine z_getf (j := b) dX13_command_55 kF_RX13_193 rfl (by omega) hxw.ce rfl ?_
          refine z_if_ne_n (a := 1) (tgt := 66) dX13_command_58 (by decide) (by omega) (fun h_58_66 => ?_) (fun h_58_66 => ?_)
          · refine z_iload_n dX13_command_66 rfl ?_
            refine z_bipush (v := nI 6) dX13_command_67 rfl ?_
            have hk68 : (-1 : Int32).toInt = -1 := by decide
            have hk69 := nI_toInt (n := 6) (by omega)
            refine z_icmp_ne_z (tgt := 84) dX13_command_69 (by decide) (fun h_69_67 => ?_) (fun h_69_67 => ?_)
            · refine z_aload_n dX13_command_84 rfl ?_
              refine z_getf (j := b) dX13_command_85 kF_RX13_193 rfl (by omega) hxw.ce rfl ?_
              refine z_if_ne_n (a := 1) (tgt := 98) dX13_command_88 (by decide) (by omega) (fun h_88_70 => ?_) (fun h_88_70 => ?_)
              · refine z_vret dX13_command_98 rfl (by decide) (by decide) ?_
                have e : pCmd I p = ([], pVp I p, 1) := by unfold pCmd; rw [if_pos (by omega)]
                rw [e]
                exact ⟨rfl, hfw, _, hxw⟩
              · exact absurd h_88_70 (by decide)
            · refine z_aload_n dX13_command_72 rfl ?_
              refine z_getf (j := b) dX13_command_73 kF_RX13_193 rfl (by omega) hxw.ce rfl ?_
              refine z_if_ne_n (a := 1) (tgt := 84) dX13_command_76 (by decide) (by omega) (fun h_76_71 => ?_) (fun h_76_71 => ?_)
              · refine z_aload_n dX13_command_84 rfl ?_
                refine z_getf (j := b) dX13_command_85 kF_RX13_193 rfl (by omega) hxw.ce rfl ?_
                refine z_if_ne_n (a := 1) (tgt := 98) dX13_command_88 (by decide) (by omega) (fun h_88_72 => ?_) (fun h_88_72 => ?_)
                · refine z_vret dX13_command_98 rfl (by decide) (by decide) ?_
                  have e : pCmd I p = ([], pVp I p, 1) := by unfold pCmd; rw [if_pos (by omega)]
                  rw [e]
                  exact ⟨rfl, hfw, _, hxw⟩
                · exact absurd h_88_72 (by decide)
              · exact absurd h_76_71 (by decide)
          · exact absurd h_58_66 (by decide)
        · refine z_iload_n dX13_command_48 rfl ?_
          refine z_bipush (v := nI 7) dX13_command_49 rfl ?_
          have hk74 : (-1 : Int32).toInt = -1 := by decide
          have hk75 := nI_toInt (n := 7) (by omega)
          refine z_icmp_ne_z (tgt := 66) dX13_command_51 (by decide) (fun h_51_73 => ?_) (fun h_51_73 => ?_)
          · refine z_iload_n dX13_command_66 rfl ?_
            refine z_bipush (v := nI 6) dX13_command_67 rfl ?_
            have hk77 : (-1 : Int32).toInt = -1 := by decide
            have hk78 := nI_toInt (n := 6) (by omega)
            refine z_icmp_ne_z (tgt := 84) dX13_command_69 (by decide) (fun h_69_76 => ?_) (fun h_69_76 => ?_)
            · refine z_aload_n dX13_command_84 rfl ?_
              refine z_getf (j := b) dX13_command_85 kF_RX13_193 rfl (by omega) hxw.ce rfl ?_
              refine z_if_ne_n (a := 1) (tgt := 98) dX13_command_88 (by decide) (by omega) (fun h_88_79 => ?_) (fun h_88_79 => ?_)
              · refine z_vret dX13_command_98 rfl (by decide) (by decide) ?_
                have e : pCmd I p = ([], pVp I p, 1) := by unfold pCmd; rw [if_pos (by omega)]
                rw [e]
                exact ⟨rfl, hfw, _, hxw⟩
              · exact absurd h_88_79 (by decide)
            · refine z_aload_n dX13_command_72 rfl ?_
              refine z_getf (j := b) dX13_command_73 kF_RX13_193 rfl (by omega) hxw.ce rfl ?_
              refine z_if_ne_n (a := 1) (tgt := 84) dX13_command_76 (by decide) (by omega) (fun h_76_80 => ?_) (fun h_76_80 => ?_)
              · refine z_aload_n dX13_command_84 rfl ?_
                refine z_getf (j := b) dX13_command_85 kF_RX13_193 rfl (by omega) hxw.ce rfl ?_
                refine z_if_ne_n (a := 1) (tgt := 98) dX13_command_88 (by decide) (by omega) (fun h_88_81 => ?_) (fun h_88_81 => ?_)
                · refine z_vret dX13_command_98 rfl (by decide) (by decide) ?_
                  have e : pCmd I p = ([], pVp I p, 1) := by unfold pCmd; rw [if_pos (by omega)]
                  rw [e]
                  exact ⟨rfl, hfw, _, hxw⟩
                · exact absurd h_88_81 (by decide)
              · exact absurd h_76_80 (by decide)
          · refine z_aload_n dX13_command_54 rfl ?_
            refine z_getf (j := b) dX13_command_55 kF_RX13_193 rfl (by omega) hxw.ce rfl ?_
            refine z_if_ne_n (a := 1) (tgt := 66) dX13_command_58 (by decide) (by omega) (fun h_58_82 => ?_) (fun h_58_82 => ?_)
            · refine z_iload_n dX13_command_66 rfl ?_
              refine z_bipush (v := nI 6) dX13_command_67 rfl ?_
              have hk84 : (-1 : Int32).toInt = -1 := by decide
              have hk85 := nI_toInt (n := 6) (by omega)
              refine z_icmp_ne_z (tgt := 84) dX13_command_69 (by decide) (fun h_69_83 => ?_) (fun h_69_83 => ?_)
              · refine z_aload_n dX13_command_84 rfl ?_
                refine z_getf (j := b) dX13_command_85 kF_RX13_193 rfl (by omega) hxw.ce rfl ?_
                refine z_if_ne_n (a := 1) (tgt := 98) dX13_command_88 (by decide) (by omega) (fun h_88_86 => ?_) (fun h_88_86 => ?_)
                · refine z_vret dX13_command_98 rfl (by decide) (by decide) ?_
                  have e : pCmd I p = ([], pVp I p, 1) := by unfold pCmd; rw [if_pos (by omega)]
                  rw [e]
                  exact ⟨rfl, hfw, _, hxw⟩
                · exact absurd h_88_86 (by decide)
              · refine z_aload_n dX13_command_72 rfl ?_
                refine z_getf (j := b) dX13_command_73 kF_RX13_193 rfl (by omega) hxw.ce rfl ?_
                refine z_if_ne_n (a := 1) (tgt := 84) dX13_command_76 (by decide) (by omega) (fun h_76_87 => ?_) (fun h_76_87 => ?_)
                · refine z_aload_n dX13_command_84 rfl ?_
                  refine z_getf (j := b) dX13_command_85 kF_RX13_193 rfl (by omega) hxw.ce rfl ?_
                  refine z_if_ne_n (a := 1) (tgt := 98) dX13_command_88 (by decide) (by omega) (fun h_88_88 => ?_) (fun h_88_88 => ?_)
                  · refine z_vret dX13_command_98 rfl (by decide) (by decide) ?_
                    have e : pCmd I p = ([], pVp I p, 1) := by unfold pCmd; rw [if_pos (by omega)]
                    rw [e]
                    exact ⟨rfl, hfw, _, hxw⟩
                  · exact absurd h_88_88 (by decide)
                · exact absurd h_76_87 (by decide)
            · exact absurd h_58_82 (by decide)
      · refine z_aload_n dX13_command_32 rfl ?_
        refine z_getf (j := b) dX13_command_33 kF_RX13_193 rfl (by omega) hxw.ce rfl ?_
        refine z_if_ne_n (a := 1) (tgt := 44) dX13_command_36 (by decide) (by omega) (fun h_36_89 => ?_) (fun h_36_89 => ?_)
        · refine z_iload_n dX13_command_44 rfl ?_
          refine z_if_eq_z (tgt := 54) dX13_command_45 (by decide) (fun h_45_90 => ?_) (fun h_45_90 => ?_)
          · refine z_aload_n dX13_command_54 rfl ?_
            refine z_getf (j := b) dX13_command_55 kF_RX13_193 rfl (by omega) hxw.ce rfl ?_
            refine z_if_ne_n (a := 1) (tgt := 66) dX13_command_58 (by decide) (by omega) (fun h_58_91 => ?_) (fun h_58_91 => ?_)
            · refine z_iload_n dX13_command_66 rfl ?_
              refine z_bipush (v := nI 6) dX13_command_67 rfl ?_
              have hk93 : (-1 : Int32).toInt = -1 := by decide
              have hk94 := nI_toInt (n := 6) (by omega)
              refine z_icmp_ne_z (tgt := 84) dX13_command_69 (by decide) (fun h_69_92 => ?_) (fun h_69_92 => ?_)
              · refine z_aload_n dX13_command_84 rfl ?_
                refine z_getf (j := b) dX13_command_85 kF_RX13_193 rfl (by omega) hxw.ce rfl ?_
                refine z_if_ne_n (a := 1) (tgt := 98) dX13_command_88 (by decide) (by omega) (fun h_88_95 => ?_) (fun h_88_95 => ?_)
                · refine z_vret dX13_command_98 rfl (by decide) (by decide) ?_
                  have e : pCmd I p = ([], pVp I p, 1) := by unfold pCmd; rw [if_pos (by omega)]
                  rw [e]
                  exact ⟨rfl, hfw, _, hxw⟩
                · exact absurd h_88_95 (by decide)
              · refine z_aload_n dX13_command_72 rfl ?_
                refine z_getf (j := b) dX13_command_73 kF_RX13_193 rfl (by omega) hxw.ce rfl ?_
                refine z_if_ne_n (a := 1) (tgt := 84) dX13_command_76 (by decide) (by omega) (fun h_76_96 => ?_) (fun h_76_96 => ?_)
                · refine z_aload_n dX13_command_84 rfl ?_
                  refine z_getf (j := b) dX13_command_85 kF_RX13_193 rfl (by omega) hxw.ce rfl ?_
                  refine z_if_ne_n (a := 1) (tgt := 98) dX13_command_88 (by decide) (by omega) (fun h_88_97 => ?_) (fun h_88_97 => ?_)
                  · refine z_vret dX13_command_98 rfl (by decide) (by decide) ?_
                    have e : pCmd I p = ([], pVp I p, 1) := by unfold pCmd; rw [if_pos (by omega)]
                    rw [e]
                    exact ⟨rfl, hfw, _, hxw⟩
                  · exact absurd h_88_97 (by decide)
                · exact absurd h_76_96 (by decide)
            · exact absurd h_58_91 (by decide)
          · refine z_iload_n dX13_command_48 rfl ?_
            refine z_bipush (v := nI 7) dX13_command_49 rfl ?_
            have hk99 : (-1 : Int32).toInt = -1 := by decide
            have hk100 := nI_toInt (n := 7) (by omega)
            refine z_icmp_ne_z (tgt := 66) dX13_command_51 (by decide) (fun h_51_98 => ?_) (fun h_51_98 => ?_)
            · refine z_iload_n dX13_command_66 rfl ?_
              refine z_bipush (v := nI 6) dX13_command_67 rfl ?_
              have hk102 : (-1 : Int32).toInt = -1 := by decide
              have hk103 := nI_toInt (n := 6) (by omega)
              refine z_icmp_ne_z (tgt := 84) dX13_command_69 (by decide) (fun h_69_101 => ?_) (fun h_69_101 => ?_)
              · refine z_aload_n dX13_command_84 rfl ?_
                refine z_getf (j := b) dX13_command_85 kF_RX13_193 rfl (by omega) hxw.ce rfl ?_
                refine z_if_ne_n (a := 1) (tgt := 98) dX13_command_88 (by decide) (by omega) (fun h_88_104 => ?_) (fun h_88_104 => ?_)
                · refine z_vret dX13_command_98 rfl (by decide) (by decide) ?_
                  have e : pCmd I p = ([], pVp I p, 1) := by unfold pCmd; rw [if_pos (by omega)]
                  rw [e]
                  exact ⟨rfl, hfw, _, hxw⟩
                · exact absurd h_88_104 (by decide)
              · refine z_aload_n dX13_command_72 rfl ?_
                refine z_getf (j := b) dX13_command_73 kF_RX13_193 rfl (by omega) hxw.ce rfl ?_
                refine z_if_ne_n (a := 1) (tgt := 84) dX13_command_76 (by decide) (by omega) (fun h_76_105 => ?_) (fun h_76_105 => ?_)
                · refine z_aload_n dX13_command_84 rfl ?_
                  refine z_getf (j := b) dX13_command_85 kF_RX13_193 rfl (by omega) hxw.ce rfl ?_
                  refine z_if_ne_n (a := 1) (tgt := 98) dX13_command_88 (by decide) (by omega) (fun h_88_106 => ?_) (fun h_88_106 => ?_)
                  · refine z_vret dX13_command_98 rfl (by decide) (by decide) ?_
                    have e : pCmd I p = ([], pVp I p, 1) := by unfold pCmd; rw [if_pos (by omega)]
                    rw [e]
                    exact ⟨rfl, hfw, _, hxw⟩
                  · exact absurd h_88_106 (by decide)
                · exact absurd h_76_105 (by decide)
            · refine z_aload_n dX13_command_54 rfl ?_
              refine z_getf (j := b) dX13_command_55 kF_RX13_193 rfl (by omega) hxw.ce rfl ?_
              refine z_if_ne_n (a := 1) (tgt := 66) dX13_command_58 (by decide) (by omega) (fun h_58_107 => ?_) (fun h_58_107 => ?_)
              · refine z_iload_n dX13_command_66 rfl ?_
                refine z_bipush (v := nI 6) dX13_command_67 rfl ?_
                have hk109 : (-1 : Int32).toInt = -1 := by decide
                have hk110 := nI_toInt (n := 6) (by omega)
                refine z_icmp_ne_z (tgt := 84) dX13_command_69 (by decide) (fun h_69_108 => ?_) (fun h_69_108 => ?_)
                · refine z_aload_n dX13_command_84 rfl ?_
                  refine z_getf (j := b) dX13_command_85 kF_RX13_193 rfl (by omega) hxw.ce rfl ?_
                  refine z_if_ne_n (a := 1) (tgt := 98) dX13_command_88 (by decide) (by omega) (fun h_88_111 => ?_) (fun h_88_111 => ?_)
                  · refine z_vret dX13_command_98 rfl (by decide) (by decide) ?_
                    have e : pCmd I p = ([], pVp I p, 1) := by unfold pCmd; rw [if_pos (by omega)]
                    rw [e]
                    exact ⟨rfl, hfw, _, hxw⟩
                  · exact absurd h_88_111 (by decide)
                · refine z_aload_n dX13_command_72 rfl ?_
                  refine z_getf (j := b) dX13_command_73 kF_RX13_193 rfl (by omega) hxw.ce rfl ?_
                  refine z_if_ne_n (a := 1) (tgt := 84) dX13_command_76 (by decide) (by omega) (fun h_76_112 => ?_) (fun h_76_112 => ?_)
                  · refine z_aload_n dX13_command_84 rfl ?_
                    refine z_getf (j := b) dX13_command_85 kF_RX13_193 rfl (by omega) hxw.ce rfl ?_
                    refine z_if_ne_n (a := 1) (tgt := 98) dX13_command_88 (by decide) (by omega) (fun h_88_113 => ?_) (fun h_88_113 => ?_)
                    · refine z_vret dX13_command_98 rfl (by decide) (by decide) ?_
                      have e : pCmd I p = ([], pVp I p, 1) := by unfold pCmd; rw [if_pos (by omega)]
                      rw [e]
                      exact ⟨rfl, hfw, _, hxw⟩
                    · exact absurd h_88_113 (by decide)
                  · exact absurd h_76_112 (by decide)
              · exact absurd h_58_107 (by decide)
        · exact absurd h_36_89 (by decide)
set_option maxRecDepth 100000 in
set_option maxHeartbeats 4000000 in
theorem c_X13_command_1 {g : zGT} {w : zW} {b : Nat} {th ch ea fa sv tn  ln kn : Int32} {fv fb fs fp fh ft fl fi : Nat → Int32} {I : List Nat} {S : zSt} {p : Nat} (h0 : zG0 g) (h : Mx g w b th ch ea fa sv tn (nI p) (nI I.length) ln kn (nI 0) (nI 1) fv fb fs fp fh ft fl fi) (htx : TxR ft I) (hpl : p ≤ I.length) (hv : VS fv S) (hbr : (pCmd I p).2.2 = 0) : zCt g mX13_command (zR 4 0) [.ref (za g b)] w (fun o w' => o = .inl none ∧ zFr w w' b (b + 11) ∧ ∃ (fi' : Nat → Int32) (th' : Int32) (f' : Nat → Int32), Mx g w' b (th') ch ea fa sv tn (nI (pCmd I p).2.1) (nI I.length) ln kn (nI (pCmd I p).2.2) (nI 1) (f') fb fs fp fh ft fl (fi') ∧ th' = (if spF ((pCmd I p).1.getD 0 zc0).1 ((pCmd I p).1.getD 0 zc0).2.1.toInt ((pCmd I p).1.getD 0 zc0).2.2.1.toInt ((pCmd I p).1.getD 0 zc0).2.2.2.toInt S = 0 then th else nI (plc ((pCmd I p).1.getD 0 zc0).1 (spF ((pCmd I p).1.getD 0 zc0).1 ((pCmd I p).1.getD 0 zc0).2.1.toInt ((pCmd I p).1.getD 0 zc0).2.2.1.toInt ((pCmd I p).1.getD 0 zc0).2.2.2.toInt S))) ∧ VS f' (if spF ((pCmd I p).1.getD 0 zc0).1 ((pCmd I p).1.getD 0 zc0).2.1.toInt ((pCmd I p).1.getD 0 zc0).2.2.1.toInt ((pCmd I p).1.getD 0 zc0).2.2.2.toInt S = 0 then spS ((pCmd I p).1.getD 0 zc0).1 ((pCmd I p).1.getD 0 zc0).2.1.toInt ((pCmd I p).1.getD 0 zc0).2.2.1.toInt ((pCmd I p).1.getD 0 zc0).2.2.2.toInt S else S)) := by
  have hb := h.1
  have htl := htx.1
  refine zCt_of (by decide +kernel) h0 [(0, .ref (za g b))] rfl (Nat.le_of_ble_eq_true rfl) ?_
  refine z_aload_n dX13_command_0 rfl ?_
  refine z_callV (As := []) (rest := []) (b := b) (ci := 12) (R2 := zR 2 0) dX13_command_1 kV_RX13_212 rfl ⟨⟨by decide, by decide⟩, by decide, by decide⟩ (by omega) h.ce rfl rfl rfl (Nat.le_of_ble_eq_true rfl) rfl (c_X13_word h0 h htx hpl) (fun E w1 h => by rcases h with ⟨_, _, _, _, e, _⟩ | ⟨_, _, e, _⟩ <;> cases e) (fun v1 w2 h3 => ?_)
  rcases h3 with ⟨d, f9, hd, hvi, ho9, hfw, hxw⟩ | ⟨f9, hvi, ho9, hfw, hxw⟩
  · cases ho9
    have hv5 := pVp_5 (I := I) (p := p) (by omega) hpl
    have hpx : pX I p = d := by unfold pX; rw [hvi]; rfl
    have hnum := vnum_8 hd
    refine z_istore_n (lv' := [(0, .ref (za g b)), (1, .int (nI (d)))]) dX13_command_4 (by decide) rfl ?_
    refine z_iconst (v := nI 0) dX13_command_5 rfl ?_
    refine z_istore_n (lv' := [(0, .ref (za g b)), (1, .int (nI (d))), (2, .int (nI (0)))]) dX13_command_6 (by decide) rfl ?_
    refine z_iconst (v := nI 0) dX13_command_7 rfl ?_
    refine z_istore_n (lv' := [(0, .ref (za g b)), (1, .int (nI (d))), (2, .int (nI (0))), (3, .int (nI (0)))]) dX13_command_8 (by decide) rfl ?_
    refine z_aload_n dX13_command_9 rfl ?_
    refine z_getf (j := b) dX13_command_10 kF_RX13_193 rfl (by omega) hxw.ce rfl ?_
    refine z_if_eq_n (a := 0) (tgt := 20) dX13_command_13 (by decide) (by omega) (fun h_13_4 => ?_) (fun h_13_4 => ?_)
    · refine z_aload_n dX13_command_20 rfl ?_
      refine z_callR (As := []) (rest := []) (b := b) (ci := 12) (v := some (.int (nI ((pN I 48 (pVp I p) (0)).1)))) (R2 := zR 1 0) dX13_command_21 kV_RX13_203 rfl ⟨⟨by decide, by decide⟩, by decide, by decide⟩ (by omega) hxw.ce rfl rfl rfl (Nat.le_of_ble_eq_true rfl) rfl (c_X13_digits (p := pVp I p) (br := 0) h0 hxw htx (by omega) (by omega)) (fun w5 pw5 => ?_)
      obtain ⟨hf6, hx7⟩ := pw5
      have hpn8 := pN_in (I := I) (lo := 48) (p := pVp I p) (br := 0) (by omega) (by omega)
      have hpb9 := pN_b (I := I) (lo := 48) (p := pVp I p) (br := 0)
      have hpl10 := pN_le (I := I) (lo := 48) (p := pVp I p) (br := 0) (by omega)
      refine z_istore (lv' := [(0, .ref (za g b)), (1, .int (nI (d))), (2, .int (nI (0))), (3, .int (nI (0))), (4, .int (nI ((pN I 48 (pVp I p) (0)).1)))]) dX13_command_24 (by decide) rfl ?_
      have eP : pCmd I p = ([(d, nI (pA I p).1, nI (pB2 I p).1, (pC2 I p).1)], (pC2 I p).2) := by unfold pCmd; rw [if_neg (by omega), hpx]
      have eB : pB2 I p = pB I d (pA I p).2.1 (pA I p).2.2 := by unfold pB2; rw [hpx]
      have eC : pC2 I p = pC I d (pB2 I p).2.1 (pB2 I p).2.2 := by unfold pC2; rw [hpx]
      rw [eP] at hbr ⊢
      rw [eC, eB] at hbr ⊢
      refine z_post (l_X13_command26_1 (S := S) (d := d) (x1 := (pA I p).1) (P := (pA I p).2.1) (B := (pA I p).2.2) h0 htx hd pN_b (pN_in (by omega) hv5.2) (hfw.tr hf6) hx7 hv hbr) (fun o9 w9 h9 => ?_)
      obtain ⟨h91, h92, t9, f9b, h93, h94, h95⟩ := h9
      exact ⟨h91, h92, _, t9, f9b, h93, h94, h95⟩
    · exact absurd h_13_4 (by decide)
  · cases ho9
    refine z_istore_n (lv' := [(0, .ref (za g b)), (1, .int (-1))]) dX13_command_4 (by decide) rfl ?_
    refine z_iconst (v := nI 0) dX13_command_5 rfl ?_
    refine z_istore_n (lv' := [(0, .ref (za g b)), (1, .int (-1)), (2, .int (nI (0)))]) dX13_command_6 (by decide) rfl ?_
    refine z_iconst (v := nI 0) dX13_command_7 rfl ?_
    refine z_istore_n (lv' := [(0, .ref (za g b)), (1, .int (-1)), (2, .int (nI (0))), (3, .int (nI (0)))]) dX13_command_8 (by decide) rfl ?_
    refine z_aload_n dX13_command_9 rfl ?_
    refine z_getf (j := b) dX13_command_10 kF_RX13_193 rfl (by omega) hxw.ce rfl ?_
    refine z_if_eq_n (a := 1) (tgt := 20) dX13_command_13 (by decide) (by omega) (fun h_13_11 => ?_) (fun h_13_11 => ?_)
    · exact absurd h_13_11 (by decide)
    · refine z_iconst (v := nI 0) dX13_command_16 rfl ?_
      refine z_goto (tgt := 24) dX13_command_17 (by decide) ?_
      refine z_istore (lv' := [(0, .ref (za g b)), (1, .int (-1)), (2, .int (nI (0))), (3, .int (nI (0))), (4, .int (nI (0)))]) dX13_command_24 (by decide) rfl ?_
      have e : pCmd I p = ([], pVp I p, 1) := by unfold pCmd; rw [if_pos (by omega)]
      rw [e] at hbr
      exact absurd (show (1 : Nat) = 0 from hbr) (by decide)
