/-! the reference: scripts done -/
set_option maxRecDepth 100000 in
set_option maxHeartbeats 4000000 in
theorem c_X13_commands_1 {g : zGT} {w : zW} {b : Nat} {ch ea fa sv tn po ln kn wr : Int32} {fv fb fs fp fh ft fl fi : Nat → Int32} {I : List Nat} {S0 : zSt} (h0 : zG0 g) (h : Mx g w b (nI 0) ch ea fa sv tn po (nI I.length) ln kn wr (nI 1) fv fb fs fp fh ft fl fi) (htx : TxR ft I) (hv : VS fv S0) (hbr0 : (pCmds I 60 0 []).2.2 = 0) : zCt g mX13_commands (zR 5 0) [.ref (za g b)] w (fun o w' => (∃ (po' : Int32) (fi' fv' : Nat → Int32), (scrGo (pCmds I 60 0 []).1 0 S0).1 = -1 ∧ o = .inl (some (.int (nI (pCmds I 60 0 []).1.length))) ∧ zFr w w' b (b + 11) ∧ Mx g w' b (nI 0) ch ea fa sv tn (po') (nI I.length) ln kn (nI 0) (nI 1) (fv') fb fs fp fh ft fl (fi') ∧ VS fv' (scrGo (pCmds I 60 0 []).1 0 S0).2) ∨ (∃ (j t : Nat) (po' : Int32) (fi' fv' : Nat → Int32), (scrGo (pCmds I 60 0 []).1 0 S0).1 = (j : Int) ∧ j < 60 ∧ t ≠ 0 ∧ t < 100 ∧ o = .inl (some (.int (nI (j + 1)))) ∧ zFr w w' b (b + 11) ∧ Mx g w' b (nI t) ch ea fa sv tn (po') (nI I.length) ln kn (nI 0) (nI 1) (fv') fb fs fp fh ft fl (fi'))) := by
  have hb := h.1
  have htl := htx.1
  refine zCt_of (by decide +kernel) h0 [(0, .ref (za g b))] rfl (Nat.le_of_ble_eq_true rfl) ?_
  have loop : ∀ (mm : Nat) (i p : Nat) (wi : zW) (K : List zCmd) (f9 g9 : Nat → Int32) (t9 : Int32) (S : zSt), 60 - i < mm → (7 * i ≤ p) → (p ≤ I.length) → (i ≤ 9) → (K.length = i) → (scrGo K 0 S0 = (-1, S)) → ((pCmds I (60 - i) p K).2.2 = 0) → (zFr w wi b (b + 11)) → (Mx g wi b t9 ch ea fa sv tn (nI ((pCmd I p).2.1)) (nI I.length) ln kn (nI ((pCmd I p).2.2)) (nI 1) g9 fb fs fp fh ft fl f9) → (t9 = (if spF ((pCmd I p).1.getD 0 zc0).1 ((pCmd I p).1.getD 0 zc0).2.1.toInt ((pCmd I p).1.getD 0 zc0).2.2.1.toInt ((pCmd I p).1.getD 0 zc0).2.2.2.toInt S = 0 then nI 0 else nI (plc ((pCmd I p).1.getD 0 zc0).1 (spF ((pCmd I p).1.getD 0 zc0).1 ((pCmd I p).1.getD 0 zc0).2.1.toInt ((pCmd I p).1.getD 0 zc0).2.2.1.toInt ((pCmd I p).1.getD 0 zc0).2.2.2.toInt S)))) → (VS g9 (if spF ((pCmd I p).1.getD 0 zc0).1 ((pCmd I p).1.getD 0 zc0).2.1.toInt ((pCmd I p).1.getD 0 zc0).2.2.1.toInt ((pCmd I p).1.getD 0 zc0).2.2.2.toInt S = 0 then spS ((pCmd I p).1.getD 0 zc0).1 ((pCmd I p).1.getD 0 zc0).2.1.toInt ((pCmd I p).1.getD 0 zc0).2.2.1.toInt ((pCmd I p).1.getD 0 zc0).2.2.2.toInt S else S)) → zTr g mX13_commands (zR 5 0) 0 0 16 [(0, .ref (za g b)), (1, .int (nI (i + 1)))] [] wi (fun o w' => (∃ (po' : Int32) (fi' fv' : Nat → Int32), (scrGo (pCmds I (60 - i) p K).1 0 S0).1 = -1 ∧ o = .inl (some (.int (nI (pCmds I (60 - i) p K).1.length))) ∧ zFr w w' b (b + 11) ∧ Mx g w' b (nI 0) ch ea fa sv tn (po') (nI I.length) ln kn (nI 0) (nI 1) (fv') fb fs fp fh ft fl (fi') ∧ VS fv' (scrGo (pCmds I (60 - i) p K).1 0 S0).2) ∨ (∃ (j t : Nat) (po' : Int32) (fi' fv' : Nat → Int32), (scrGo (pCmds I (60 - i) p K).1 0 S0).1 = (j : Int) ∧ j < 60 ∧ t ≠ 0 ∧ t < 100 ∧ o = .inl (some (.int (nI (j + 1)))) ∧ zFr w w' b (b + 11) ∧ Mx g w' b (nI t) ch ea fa sv tn (po') (nI I.length) ln kn (nI 0) (nI 1) (fv') fb fs fp fh ft fl (fi'))) := by
    intro mm
    induction mm with
    | zero => intros; omega
    | succ mm ih =>
      intro i p wi K f9 g9 t9 S hm hpi hpl hi9 hKi hsc hbr hfi hmi ht9 hv9
      have hpc := pCmd_in (I := I) hpl
      have hok := pCmds_ok (I := I) (k := 60 - (i + 1)) (p := p) (K := K) (by rw [← show 60 - i = (60 - (i + 1)) + 1 by omega]; exact hbr)
      have hb1 := hok.1
      rw [hb1] at hmi
      have hone := pCmd_one hb1
      have hKl : (K ++ (pCmd I p).1).length = i + 1 := by rw [hone, List.length_append, hKi]; rfl
      by_cases hF : spF ((pCmd I p).1.getD 0 zc0).1 ((pCmd I p).1.getD 0 zc0).2.1.toInt ((pCmd I p).1.getD 0 zc0).2.2.1.toInt ((pCmd I p).1.getD 0 zc0).2.2.2.toInt S = 0
      · have hx9 := hmi
        rw [ht9, if_pos hF] at hx9
        rw [if_pos hF] at hv9
        have hs2 : scrGo (K ++ (pCmd I p).1) 0 S0 = (-1, spS ((pCmd I p).1.getD 0 zc0).1 ((pCmd I p).1.getD 0 zc0).2.1.toInt ((pCmd I p).1.getD 0 zc0).2.2.1.toInt ((pCmd I p).1.getD 0 zc0).2.2.2.toInt S) := by rw [scrGo_app, hsc, if_pos rfl, hone, scrGo_one, if_pos hF]; rfl
        refine z_aload_n dX13_commands_16 rfl ?_
        refine z_getf (j := b) dX13_commands_17 kF_RX13_193 rfl (by omega) hx9.ce rfl ?_
        refine z_if_ne_n (a := 0) (tgt := 64) dX13_commands_20 (by decide) (by omega) (fun h_20_51 => ?_) (fun h_20_51 => ?_)
        · exact absurd h_20_51 (by decide)
        · refine z_aload_n dX13_commands_23 rfl ?_
          refine z_getf (j := b) dX13_commands_24 kF_RX13_47 rfl (by omega) hx9.ce rfl ?_
          refine z_if_ne_n (a := 0) (tgt := 64) dX13_commands_27 (by decide) (by omega) (fun h_27_52 => ?_) (fun h_27_52 => ?_)
          · exact absurd h_27_52 (by decide)
          · refine z_aload_n dX13_commands_30 rfl ?_
            refine z_getf (j := b) dX13_commands_31 kF_RX13_187 rfl (by omega) hx9.ce rfl ?_
            refine z_aload_n dX13_commands_34 rfl ?_
            refine z_getf (j := b) dX13_commands_35 kF_RX13_190 rfl (by omega) hx9.ce rfl ?_
            refine z_icmp_ge_n (a := (pCmd I p).2.1) (b := I.length) (tgt := 64) dX13_commands_38 (by decide) (by omega) (by omega) (fun h_38_53 => ?_) (fun h_38_53 => ?_)
            · refine z_iload_n dX13_commands_64 rfl ?_
              refine z_iret dX13_commands_65 rfl (by decide) (by decide) ?_
              have hge : ¬ (pCmd I p).2.1 < I.length := by omega
              have hgz : I.getD (pCmd I p).2.1 0 = 0 := gD_ge (by omega)
              have eX : (pCmds I (60 - i) p K).1 = (K ++ (pCmd I p).1) := by
                rw [show 60 - i = (60 - (i + 1)) + 1 by omega, pCmds, if_neg (fun z => by omega)]
              rw [eX, hs2]
              exact Or.inl ⟨_, _, _, rfl, by rw [hKl], hfi, hx9, hv9⟩
            · have hsp := hok.2 (by omega)
              have hadv := pCmd_adv hpl hb1
              have eX : (pCmds I (60 - i) p K) = pCmds I (60 - (i + 1)) ((pCmd I p).2.1 + 1) (K ++ (pCmd I p).1) := by rw [show 60 - i = (60 - (i + 1)) + 1 by omega, pCmds, if_pos ⟨hb1, hsp⟩]
              rw [eX] at hbr ⊢
              refine z_aload_n dX13_commands_41 rfl ?_
              refine z_bipush (v := nI 59) dX13_commands_42 rfl ?_
              refine z_callR (As := [.int (nI (59))]) (rest := []) (b := b) (ci := 12) (v := none) (R2 := zR 1 0) dX13_commands_44 kV_RX13_200 rfl ⟨⟨by decide, by decide⟩, by decide, by decide⟩ (by omega) hx9.ce rfl rfl rfl (Nat.le_of_ble_eq_true rfl) rfl (c_X13_mark (p := (pCmd I p).2.1) (br := 0) (c := 59) h0 hx9 htx (by omega) (by omega) (by omega)) (fun w104 pw104 => ?_)
              obtain ⟨hf105, hx106⟩ := pw104
              have hpe107 := pExp_in (I := I) (c := 59) (p := (pCmd I p).2.1) (br := 0) (by omega) (by omega)
              have e1 : pExp I 59 (pCmd I p).2.1 0 = ((pCmd I p).2.1 + 1, 0) := pExp_y hsp
              have hx8 := hx106
              rw [e1] at hx8
              refine z_aload_n dX13_commands_47 rfl ?_
              refine z_getf (j := b) dX13_commands_48 kF_RX13_193 rfl (by omega) hx8.ce rfl ?_
              refine z_if_ne_n (a := 0) (tgt := 58) dX13_commands_51 (by decide) (by omega) (fun h_51_158 => ?_) (fun h_51_158 => ?_)
              · exact absurd h_51_158 (by decide)
              · refine z_aload_n dX13_commands_54 rfl ?_
                refine z_callR (As := []) (rest := []) (b := b) (ci := 12) (v := none) (R2 := zR 4 0) dX13_commands_55 kV_RX13_228 rfl ⟨⟨by decide, by decide⟩, by decide, by decide⟩ (by omega) hx8.ce rfl rfl rfl (Nat.le_of_ble_eq_true rfl) rfl (c_X13_command_1 (S := spS ((pCmd I p).1.getD 0 zc0).1 ((pCmd I p).1.getD 0 zc0).2.1.toInt ((pCmd I p).1.getD 0 zc0).2.2.1.toInt ((pCmd I p).1.getD 0 zc0).2.2.2.toInt S) (p := (pCmd I p).2.1 + 1) h0 hx8 htx (by omega) hv9 (pCmds_ok (k := 60 - (i + 1 + 1)) (by rw [← show 60 - (i + 1) = (60 - (i + 1 + 1)) + 1 by omega]; exact hbr)).1) (fun w159 pw159 => ?_)
                obtain ⟨hf160, g161, th163, gv164, hx162, ht165, hv166⟩ := pw159
                refine z_iinc_n (n := 1) (a := i + 1) (lv' := [(0, .ref (za g b)), (1, .int (nI (i + 1 + 1)))]) dX13_commands_58 rfl (by decide) rfl ?_
                refine z_goto (tgt := 16) dX13_commands_61 (by decide) ?_
                exact ih (i + 1) ((pCmd I p).2.1 + 1) _ (K ++ (pCmd I p).1) _ _ _ (spS ((pCmd I p).1.getD 0 zc0).1 ((pCmd I p).1.getD 0 zc0).2.1.toInt ((pCmd I p).1.getD 0 zc0).2.2.1.toInt ((pCmd I p).1.getD 0 zc0).2.2.2.toInt S) (by omega) (by omega) (by omega) (by omega) hKl hs2 hbr ((hfi.tr hf105).tr hf160) hx162 ht165 hv166
      · have hx9 := hmi
        rw [ht9, if_neg hF] at hx9
        have hpl9 := plc_ne hF
        refine z_aload_n dX13_commands_16 rfl ?_
        refine z_getf (j := b) dX13_commands_17 kF_RX13_193 rfl (by omega) hx9.ce rfl ?_
        refine z_if_ne_n (a := 0) (tgt := 64) dX13_commands_20 (by decide) (by omega) (fun h_20_251 => ?_) (fun h_20_251 => ?_)
        · exact absurd h_20_251 (by decide)
        · refine z_aload_n dX13_commands_23 rfl ?_
          refine z_getf (j := b) dX13_commands_24 kF_RX13_47 rfl (by omega) hx9.ce rfl ?_
          refine z_if_ne_n (a := plc ((pCmd I p).1.getD 0 zc0).1 (spF ((pCmd I p).1.getD 0 zc0).1 ((pCmd I p).1.getD 0 zc0).2.1.toInt ((pCmd I p).1.getD 0 zc0).2.2.1.toInt ((pCmd I p).1.getD 0 zc0).2.2.2.toInt S)) (tgt := 64) dX13_commands_27 (by decide) (by omega) (fun h_27_252 => ?_) (fun h_27_252 => ?_)
          · refine z_iload_n dX13_commands_64 rfl ?_
            refine z_iret dX13_commands_65 rfl (by decide) (by decide) ?_
            obtain ⟨R9, eR⟩ := pCmds_pre (I := I) (k := 60 - (i + 1)) (p := (pCmd I p).2.1 + 1) (K := K ++ (pCmd I p).1)
            have eX : ∃ R9, (pCmds I (60 - i) p K).1 = (K ++ (pCmd I p).1) ++ R9 := by
              rw [show 60 - i = (60 - (i + 1)) + 1 by omega, pCmds]
              split
              · exact ⟨R9, eR⟩
              · exact ⟨[], (List.append_nil _).symm⟩
            obtain ⟨R8, eX⟩ := eX
            have hs3 : scrGo ((K ++ (pCmd I p).1) ++ R8) 0 S0 = ((i : Int), S) := by
              have hs2 : scrGo (K ++ (pCmd I p).1) 0 S0 = ((i : Int), S) := by rw [scrGo_app, hsc, if_pos rfl, hone, scrGo_one, if_neg hF]; show (((0 + K.length : Nat) : Int), S) = _; rw [hKi, Nat.zero_add]
              rw [scrGo_app, hs2, if_neg (show ¬ ((i : Int) = -1) by omega)]
            rw [eX, hs3]
            exact Or.inr ⟨i, _, _, _, _, rfl, by omega, (plc_ne hF).1, (plc_ne hF).2, rfl, hfi, hx9⟩
          · exact absurd h_27_252 (plc_ne hF).1
  refine z_aload_n dX13_commands_0 rfl ?_
  refine z_iconst (v := nI 0) dX13_commands_1 rfl ?_
  refine z_putf (j := b) dX13_commands_2 kF_RX13_187 zt_12_16 rfl (by omega) h.ce rfl rfl (Nat.le_of_ble_eq_true rfl) ?_
  obtain ⟨w1, ew2⟩ : ∃ wz : zW, wz = va_up w (b) (zO 12 [.int (nI (0)), .int (ch), .int (ea), .int (fa), .int (sv), .ref (za g (b + 1)), .ref (za g (b + 2)), .ref (za g (b + 3)), .ref (za g (b + 4)), .ref (za g (b + 5)), .ref (za g (b + 6)), .ref (za g (b + 7)), .ref (za g (b + 8)), .ref (za g (b + 9)), .ref (za g (b + 10)), .int (tn), .int (nI (0)), .int (nI (I.length)), .int (ln), .int (kn), .int (wr), .int (nI (1))]) := ⟨_, rfl⟩
  refine z_weq (w' := w1) ew2.symm ?_
  have hf3 : zFr w w1 (b) (b + 1) := by rw [ew2]; exact zFr.up (by omega)
  have hw4 : w1 (b) = zO 12 [.int (nI (0)), .int (ch), .int (ea), .int (fa), .int (sv), .ref (za g (b + 1)), .ref (za g (b + 2)), .ref (za g (b + 3)), .ref (za g (b + 4)), .ref (za g (b + 5)), .ref (za g (b + 6)), .ref (za g (b + 7)), .ref (za g (b + 8)), .ref (za g (b + 9)), .ref (za g (b + 10)), .int (tn), .int (nI (0)), .int (nI (I.length)), .int (ln), .int (kn), .int (wr), .int (nI (1))] := by rw [ew2, zup_s]
  have hx5 := h.setC hf3 hw4
  refine z_aload_n dX13_commands_5 rfl ?_
  refine z_iconst (v := nI 0) dX13_commands_6 rfl ?_
  refine z_putf (j := b) dX13_commands_7 kF_RX13_193 zt_12_20 rfl (by omega) hx5.ce rfl rfl (Nat.le_of_ble_eq_true rfl) ?_
  obtain ⟨w6, ew7⟩ : ∃ wz : zW, wz = va_up w1 (b) (zO 12 [.int (nI (0)), .int (ch), .int (ea), .int (fa), .int (sv), .ref (za g (b + 1)), .ref (za g (b + 2)), .ref (za g (b + 3)), .ref (za g (b + 4)), .ref (za g (b + 5)), .ref (za g (b + 6)), .ref (za g (b + 7)), .ref (za g (b + 8)), .ref (za g (b + 9)), .ref (za g (b + 10)), .int (tn), .int (nI (0)), .int (nI (I.length)), .int (ln), .int (kn), .int (nI (0)), .int (nI (1))]) := ⟨_, rfl⟩
  refine z_weq (w' := w6) ew7.symm ?_
  have hf8 : zFr w1 w6 (b) (b + 1) := by rw [ew7]; exact zFr.up (by omega)
  have hw9 : w6 (b) = zO 12 [.int (nI (0)), .int (ch), .int (ea), .int (fa), .int (sv), .ref (za g (b + 1)), .ref (za g (b + 2)), .ref (za g (b + 3)), .ref (za g (b + 4)), .ref (za g (b + 5)), .ref (za g (b + 6)), .ref (za g (b + 7)), .ref (za g (b + 8)), .ref (za g (b + 9)), .ref (za g (b + 10)), .int (tn), .int (nI (0)), .int (nI (I.length)), .int (ln), .int (kn), .int (nI (0)), .int (nI (1))] := by rw [ew7, zup_s]
  have hx10 := hx5.setC hf8 hw9
  refine z_iconst (v := nI 1) dX13_commands_10 rfl ?_
  refine z_istore_n (lv' := [(0, .ref (za g b)), (1, .int (nI (1)))]) dX13_commands_11 (by decide) rfl ?_
  refine z_aload_n dX13_commands_12 rfl ?_
  refine z_callR (As := []) (rest := []) (b := b) (ci := 12) (v := none) (R2 := zR 4 0) dX13_commands_13 kV_RX13_228 rfl ⟨⟨by decide, by decide⟩, by decide, by decide⟩ (by omega) hx10.ce rfl rfl rfl (Nat.le_of_ble_eq_true rfl) rfl (c_X13_command_1 (S := S0) (p := 0) h0 hx10 htx (by omega) hv (pCmds_ok (k := 59) hbr0).1) (fun w11 pw11 => ?_)
  obtain ⟨hf12, g13, th15, gv16, hx14, ht17, hv18⟩ := pw11
  exact loop 61 0 0 _ [] _ _ _ S0 (by omega) (Nat.zero_le _) (Nat.zero_le _) (by omega) rfl rfl hbr0 (((hf3.wk (by omega) (by omega)).tr (hf8.wk (by omega) (by omega))).tr hf12) hx14 ht17 hv18
theorem pCmds_in {I : List Nat} : ∀ {k p : Nat} {K : List zCmd}, p ≤ I.length → (pCmds I k p K).2.1 ≤ I.length ∧ (pCmds I k p K).2.2 ≤ 1
  | 0, p, K, h => ⟨h, Nat.zero_le _⟩
  | k + 1, p, K, h => by
    have h1 := pCmd_in (I := I) h
    rw [pCmds]
    by_cases c : (pCmd I p).2.2 = 0 ∧ I.getD (pCmd I p).2.1 0 = 59
    · rw [if_pos c]
      refine pCmds_in ?_
      rcases Nat.lt_or_ge (pCmd I p).2.1 I.length with q | q
      · exact q
      · have := gD_ge (L := I) q; omega
    · rw [if_neg c]
      refine ⟨h1.1, ?_⟩
      show (if (pCmd I p).2.1 < I.length then 1 else (pCmd I p).2.2) ≤ 1
      split
      · exact Nat.le_refl _
      · exact h1.2
set_option maxRecDepth 100000 in
set_option maxHeartbeats 4000000 in
theorem c_X13_runScript {g : zGT} {w : zW} {b : Nat} {S : zSt} {Hs : List zSt} {Sn : Option zSt} {I O : List Nat} {ep fc : Int32} {t : Nat} (h0 : zG0 g) (hq : Mq g w b (S) (Hs) (Sn) (I) (O) (ep) (fc) (t)) : zCt g mX13_runScript (zR 6 0) [.ref (za g b)] w (fun o w' => ∃ r, o = .inl (some (.int r)) ∧ zFr w w' b (b + 11) ∧ Mq g w' b (if (if (pCmds I 60 0 []).2.2 = 0 then (if (scrGo (pCmds I 60 0 []).1 0 S).1 = -1 then 0 else 2) else 1) = 0 then (scrGo (pCmds I 60 0 []).1 0 S).2 else S) (if (if (pCmds I 60 0 []).2.2 = 0 then (if (scrGo (pCmds I 60 0 []).1 0 S).1 = -1 then 0 else 2) else 1) = 0 then (S :: Hs).take 8 else Hs) (Sn) ([]) (O) (if (pCmds I 60 0 []).2.2 = 0 then ep else nI (pCmds I 60 0 []).2.1) (if (if (pCmds I 60 0 []).2.2 = 0 then (if (scrGo (pCmds I 60 0 []).1 0 S).1 = -1 then 0 else 2) else 1) = 2 then Int32.ofInt (scrGo (pCmds I 60 0 []).1 0 S).1 else fc) ((if (pCmds I 60 0 []).2.2 = 0 then (if (scrGo (pCmds I 60 0 []).1 0 S).1 = -1 then 0 else 2) else 1)) ∧ ((if (pCmds I 60 0 []).2.2 = 0 then (if (scrGo (pCmds I 60 0 []).1 0 S).1 = -1 then 0 else 2) else 1) = 0 → r = nI (pCmds I 60 0 []).1.length)) := by
  obtain ⟨po, en, kn, wr, dg, fv, fb, fs, fp, fh, ft, fl, fi, h, hv, hp, hsn, htx, hou, hep⟩ := hq
  have hb := h.1
  have hl := hv.len
  have htl := htx.1
  have hxl := pCmds_in (I := I) (k := 60) (p := 0) (K := []) (Nat.zero_le _)
  refine zCt_of (by decide +kernel) h0 [(0, .ref (za g b))] rfl (Nat.le_of_ble_eq_true rfl) ?_
  refine z_aload_n dX13_runScript_0 rfl ?_
  refine z_callR (As := []) (rest := []) (b := b) (ci := 12) (v := none) (R2 := zR 1 0) dX13_runScript_1 kV_RX13_68 rfl ⟨⟨by decide, by decide⟩, by decide, by decide⟩ (by omega) h.ce rfl rfl rfl (Nat.le_of_ble_eq_true rfl) rfl (c_X13_begins h0 h) (fun w1 pw1 => ?_)
  obtain ⟨hf2, g3, hx4, he5⟩ := pw1
  have hvb := hv.congr he5
  refine z_aload_n dX13_runScript_4 rfl ?_
  refine z_aload_n dX13_runScript_5 rfl ?_
  refine z_getf (j := b) dX13_runScript_6 kF_RX13_184 rfl (by omega) hx4.ce rfl ?_
  refine z_putf (j := b) dX13_runScript_9 kF_RX13_190 zt_12_17 rfl (by omega) hx4.ce rfl rfl (Nat.le_of_ble_eq_true rfl) ?_
  obtain ⟨w6, ew7⟩ : ∃ wz : zW, wz = va_up w1 (b) (zO 12 [.int (nI (0)), .int (nI (Hs.length)), .int (ep), .int (fc), .int (nI (if Sn.isSome then 1 else 0)), .ref (za g (b + 1)), .ref (za g (b + 2)), .ref (za g (b + 3)), .ref (za g (b + 4)), .ref (za g (b + 5)), .ref (za g (b + 6)), .ref (za g (b + 7)), .ref (za g (b + 8)), .ref (za g (b + 9)), .ref (za g (b + 10)), .int (nI (I.length)), .int (po), .int (nI (I.length)), .int (nI (O.length)), .int (kn), .int (wr), .int (dg)]) := ⟨_, rfl⟩
  refine z_weq (w' := w6) ew7.symm ?_
  have hf8 : zFr w1 w6 (b) (b + 1) := by rw [ew7]; exact zFr.up (by omega)
  have hw9 : w6 (b) = zO 12 [.int (nI (0)), .int (nI (Hs.length)), .int (ep), .int (fc), .int (nI (if Sn.isSome then 1 else 0)), .ref (za g (b + 1)), .ref (za g (b + 2)), .ref (za g (b + 3)), .ref (za g (b + 4)), .ref (za g (b + 5)), .ref (za g (b + 6)), .ref (za g (b + 7)), .ref (za g (b + 8)), .ref (za g (b + 9)), .ref (za g (b + 10)), .int (nI (I.length)), .int (po), .int (nI (I.length)), .int (nI (O.length)), .int (kn), .int (wr), .int (dg)] := by rw [ew7, zup_s]
  have hx10 := hx4.setC hf8 hw9
  refine z_aload_n dX13_runScript_12 rfl ?_
  refine z_iconst (v := nI 0) dX13_runScript_13 rfl ?_
  refine z_putf (j := b) dX13_runScript_14 kF_RX13_184 zt_12_15 rfl (by omega) hx10.ce rfl rfl (Nat.le_of_ble_eq_true rfl) ?_
  obtain ⟨w11, ew12⟩ : ∃ wz : zW, wz = va_up w6 (b) (zO 12 [.int (nI (0)), .int (nI (Hs.length)), .int (ep), .int (fc), .int (nI (if Sn.isSome then 1 else 0)), .ref (za g (b + 1)), .ref (za g (b + 2)), .ref (za g (b + 3)), .ref (za g (b + 4)), .ref (za g (b + 5)), .ref (za g (b + 6)), .ref (za g (b + 7)), .ref (za g (b + 8)), .ref (za g (b + 9)), .ref (za g (b + 10)), .int (nI (0)), .int (po), .int (nI (I.length)), .int (nI (O.length)), .int (kn), .int (wr), .int (dg)]) := ⟨_, rfl⟩
  refine z_weq (w' := w11) ew12.symm ?_
  have hf13 : zFr w6 w11 (b) (b + 1) := by rw [ew12]; exact zFr.up (by omega)
  have hw14 : w11 (b) = zO 12 [.int (nI (0)), .int (nI (Hs.length)), .int (ep), .int (fc), .int (nI (if Sn.isSome then 1 else 0)), .ref (za g (b + 1)), .ref (za g (b + 2)), .ref (za g (b + 3)), .ref (za g (b + 4)), .ref (za g (b + 5)), .ref (za g (b + 6)), .ref (za g (b + 7)), .ref (za g (b + 8)), .ref (za g (b + 9)), .ref (za g (b + 10)), .int (nI (0)), .int (po), .int (nI (I.length)), .int (nI (O.length)), .int (kn), .int (wr), .int (dg)] := by rw [ew12, zup_s]
  have hx15 := hx10.setC hf13 hw14
  refine z_aload_n dX13_runScript_17 rfl ?_
  refine z_iconst (v := nI 0) dX13_runScript_18 rfl ?_
  refine z_putf (j := b) dX13_runScript_19 kF_RX13_221 zt_12_21 rfl (by omega) hx15.ce rfl rfl (Nat.le_of_ble_eq_true rfl) ?_
  obtain ⟨w16, ew17⟩ : ∃ wz : zW, wz = va_up w11 (b) (zO 12 [.int (nI (0)), .int (nI (Hs.length)), .int (ep), .int (fc), .int (nI (if Sn.isSome then 1 else 0)), .ref (za g (b + 1)), .ref (za g (b + 2)), .ref (za g (b + 3)), .ref (za g (b + 4)), .ref (za g (b + 5)), .ref (za g (b + 6)), .ref (za g (b + 7)), .ref (za g (b + 8)), .ref (za g (b + 9)), .ref (za g (b + 10)), .int (nI (0)), .int (po), .int (nI (I.length)), .int (nI (O.length)), .int (kn), .int (wr), .int (nI (0))]) := ⟨_, rfl⟩
  refine z_weq (w' := w16) ew17.symm ?_
  have hf18 : zFr w11 w16 (b) (b + 1) := by rw [ew17]; exact zFr.up (by omega)
  have hw19 : w16 (b) = zO 12 [.int (nI (0)), .int (nI (Hs.length)), .int (ep), .int (fc), .int (nI (if Sn.isSome then 1 else 0)), .ref (za g (b + 1)), .ref (za g (b + 2)), .ref (za g (b + 3)), .ref (za g (b + 4)), .ref (za g (b + 5)), .ref (za g (b + 6)), .ref (za g (b + 7)), .ref (za g (b + 8)), .ref (za g (b + 9)), .ref (za g (b + 10)), .int (nI (0)), .int (po), .int (nI (I.length)), .int (nI (O.length)), .int (kn), .int (wr), .int (nI (0))] := by rw [ew17, zup_s]
  have hx20 := hx15.setC hf18 hw19
  refine z_aload_n dX13_runScript_22 rfl ?_
  refine z_callV (As := []) (rest := []) (b := b) (ci := 12) (R2 := zR 5 0) dX13_runScript_23 kV_RX13_231 rfl ⟨⟨by decide, by decide⟩, by decide, by decide⟩ (by omega) hx20.ce rfl rfl rfl (Nat.le_of_ble_eq_true rfl) rfl (c_X13_commands_0 h0 hx20 htx) (fun E w1 h => by obtain ⟨_, _, e, _⟩ := h; cases e) (fun v21 w22 h23 => ?_)
  rcases h23 with ⟨r1, f1, ho1, hfc, hxc⟩
  · cases ho1
    refine z_istore_n (lv' := [(0, .ref (za g b)), (1, .int (r1))]) dX13_runScript_26 (by decide) rfl ?_
    refine z_aload_n dX13_runScript_27 rfl ?_
    refine z_getf (j := b) dX13_runScript_28 kF_RX13_193 rfl (by omega) hxc.ce rfl ?_
    refine z_if_eq_n (a := (pCmds I 60 0 []).2.2) (tgt := 48) dX13_runScript_31 (by decide) (by omega) (fun h_31_24 => ?_) (fun h_31_24 => ?_)
    · have hx0 : (pCmds I 60 0 []).2.2 = 0 := by omega
      refine z_aload_n dX13_runScript_48 rfl ?_
      refine z_iconst (v := nI 1) dX13_runScript_49 rfl ?_
      refine z_putf (j := b) dX13_runScript_50 kF_RX13_221 zt_12_21 rfl (by omega) hxc.ce rfl rfl (Nat.le_of_ble_eq_true rfl) ?_
      obtain ⟨w25, ew26⟩ : ∃ wz : zW, wz = va_up w22 (b) (zO 12 [.int (nI (0)), .int (nI (Hs.length)), .int (ep), .int (fc), .int (nI (if Sn.isSome then 1 else 0)), .ref (za g (b + 1)), .ref (za g (b + 2)), .ref (za g (b + 3)), .ref (za g (b + 4)), .ref (za g (b + 5)), .ref (za g (b + 6)), .ref (za g (b + 7)), .ref (za g (b + 8)), .ref (za g (b + 9)), .ref (za g (b + 10)), .int (nI (0)), .int (nI ((pCmds I 60 0 []).2.1)), .int (nI (I.length)), .int (nI (O.length)), .int (kn), .int (nI ((pCmds I 60 0 []).2.2)), .int (nI (1))]) := ⟨_, rfl⟩
      refine z_weq (w' := w25) ew26.symm ?_
      have hf27 : zFr w22 w25 (b) (b + 1) := by rw [ew26]; exact zFr.up (by omega)
      have hw28 : w25 (b) = zO 12 [.int (nI (0)), .int (nI (Hs.length)), .int (ep), .int (fc), .int (nI (if Sn.isSome then 1 else 0)), .ref (za g (b + 1)), .ref (za g (b + 2)), .ref (za g (b + 3)), .ref (za g (b + 4)), .ref (za g (b + 5)), .ref (za g (b + 6)), .ref (za g (b + 7)), .ref (za g (b + 8)), .ref (za g (b + 9)), .ref (za g (b + 10)), .int (nI (0)), .int (nI ((pCmds I 60 0 []).2.1)), .int (nI (I.length)), .int (nI (O.length)), .int (kn), .int (nI ((pCmds I 60 0 []).2.2)), .int (nI (1))] := by rw [ew26, zup_s]
      have hx29 := hxc.setC hf27 hw28
      refine z_aload_n dX13_runScript_53 rfl ?_
      refine z_callV (As := []) (rest := []) (b := b) (ci := 12) (R2 := zR 5 0) dX13_runScript_54 kV_RX13_231 rfl ⟨⟨by decide, by decide⟩, by decide, by decide⟩ (by omega) hx29.ce rfl rfl rfl (Nat.le_of_ble_eq_true rfl) rfl (c_X13_commands_1 (S0 := S) h0 hx29 htx hv hx0) (fun E w1 h => by rcases h with ⟨_, _, _, _, e, _⟩ | ⟨_, _, _, _, _, _, _, _, _, e, _⟩ <;> cases e) (fun v30 w31 h32 => ?_)
      rcases h32 with ⟨po2, f2, fv2, hR, ho2, hfd, hxd, hv2⟩ | ⟨j2, t2, po2, f2, fv2, hR, hj2, ht2, ht3, ho2, hfd, hxd⟩
      · cases ho2
        refine z_istore_n (lv' := [(0, .ref (za g b)), (1, .int (nI ((pCmds I 60 0 []).1.length)))]) dX13_runScript_57 (by decide) rfl ?_
        refine z_aload_n dX13_runScript_58 rfl ?_
        refine z_getf (j := b) dX13_runScript_59 kF_RX13_47 rfl (by omega) hxd.ce rfl ?_
        refine z_if_eq_n (a := 0) (tgt := 77) dX13_runScript_62 (by decide) (by omega) (fun h_62_33 => ?_) (fun h_62_33 => ?_)
        · refine z_aload_n dX13_runScript_77 rfl ?_
          refine z_iload_n dX13_runScript_78 rfl ?_
          refine z_callR (As := [.int (nI ((pCmds I 60 0 []).1.length))]) (rest := []) (b := b) (ci := 12) (v := some (.int (nI ((pCmds I 60 0 []).1.length)))) (R2 := zR 1 0) dX13_runScript_79 kV_RX13_75 rfl ⟨⟨by decide, by decide⟩, by decide, by decide⟩ (by omega) hxd.ce rfl rfl rfl (Nat.le_of_ble_eq_true rfl) rfl (c_X13_ends_y (th := nI 0) (ch := nI 0) (S := S) (Hs := Hs) h0 hxd hp hvb) (fun w34 pw34 => ?_)
          obtain ⟨hf35, g36, hx37, hp38⟩ := pw34
          refine z_iret dX13_runScript_82 rfl (by decide) (by decide) ?_
          have hF : (if (pCmds I 60 0 []).2.2 = 0 then (if (scrGo (pCmds I 60 0 []).1 0 S).1 = -1 then 0 else 2) else 1) = 0 := by rw [if_pos hx0, if_pos hR]
          refine ⟨_, rfl, (((((((hf2.tr (hf8.wk (by omega) (by omega))).tr (hf13.wk (by omega) (by omega))).tr (hf18.wk (by omega) (by omega))).tr hfc).tr (hf27.wk (by omega) (by omega))).tr hfd).tr hf35), ?_, fun _ => rfl⟩
          rw [hF, if_pos rfl, if_pos rfl, if_neg (show ¬ ((0 : Nat) = 2) by decide), if_pos hx0]
          exact ⟨_, _, _, _, _, _, _, _, _, _, _, _, _, hx37, hv2, hp38, hsn, ⟨by decide, fun k hk => absurd hk (Nat.not_lt_zero k), fun z hz => absurd hz List.not_mem_nil⟩, hou, hep⟩
        · exact absurd h_62_33 (by decide)
      · cases ho2
        refine z_istore_n (lv' := [(0, .ref (za g b)), (1, .int (nI (j2 + 1)))]) dX13_runScript_57 (by decide) rfl ?_
        refine z_aload_n dX13_runScript_58 rfl ?_
        refine z_getf (j := b) dX13_runScript_59 kF_RX13_47 rfl (by omega) hxd.ce rfl ?_
        refine z_if_eq_n (a := t2) (tgt := 77) dX13_runScript_62 (by decide) (by omega) (fun h_62_39 => ?_) (fun h_62_39 => ?_)
        · (exfalso; omega)
        · refine z_aload_n dX13_runScript_65 rfl ?_
          refine z_iload_n dX13_runScript_66 rfl ?_
          refine z_iconst (v := nI 1) dX13_runScript_67 rfl ?_
          refine z_isub_n (a := j2 + 1) (b := 1) dX13_runScript_68 (by omega) ?_
          refine z_putf (j := b) dX13_runScript_69 kF_RX13_13 zt_12_3 rfl (by omega) hxd.ce rfl rfl (Nat.le_of_ble_eq_true rfl) ?_
          obtain ⟨w40, ew41⟩ : ∃ wz : zW, wz = va_up w31 (b) (zO 12 [.int (nI (t2)), .int (nI (Hs.length)), .int (ep), .int (nI ((j2 + 1) - (1))), .int (nI (if Sn.isSome then 1 else 0)), .ref (za g (b + 1)), .ref (za g (b + 2)), .ref (za g (b + 3)), .ref (za g (b + 4)), .ref (za g (b + 5)), .ref (za g (b + 6)), .ref (za g (b + 7)), .ref (za g (b + 8)), .ref (za g (b + 9)), .ref (za g (b + 10)), .int (nI (0)), .int (po2), .int (nI (I.length)), .int (nI (O.length)), .int (kn), .int (nI (0)), .int (nI (1))]) := ⟨_, rfl⟩
          refine z_weq (w' := w40) ew41.symm ?_
          have hf42 : zFr w31 w40 (b) (b + 1) := by rw [ew41]; exact zFr.up (by omega)
          have hw43 : w40 (b) = zO 12 [.int (nI (t2)), .int (nI (Hs.length)), .int (ep), .int (nI ((j2 + 1) - (1))), .int (nI (if Sn.isSome then 1 else 0)), .ref (za g (b + 1)), .ref (za g (b + 2)), .ref (za g (b + 3)), .ref (za g (b + 4)), .ref (za g (b + 5)), .ref (za g (b + 6)), .ref (za g (b + 7)), .ref (za g (b + 8)), .ref (za g (b + 9)), .ref (za g (b + 10)), .int (nI (0)), .int (po2), .int (nI (I.length)), .int (nI (O.length)), .int (kn), .int (nI (0)), .int (nI (1))] := by rw [ew41, zup_s]
          have hx44 := hxd.setC hf42 hw43
          refine z_aload_n dX13_runScript_72 rfl ?_
          refine z_iconst (v := nI 2) dX13_runScript_73 rfl ?_
          refine z_putf (j := b) dX13_runScript_74 kF_RX13_47 zt_12_0 rfl (by omega) hx44.ce rfl rfl (Nat.le_of_ble_eq_true rfl) ?_
          obtain ⟨w45, ew46⟩ : ∃ wz : zW, wz = va_up w40 (b) (zO 12 [.int (nI (2)), .int (nI (Hs.length)), .int (ep), .int (nI ((j2 + 1) - (1))), .int (nI (if Sn.isSome then 1 else 0)), .ref (za g (b + 1)), .ref (za g (b + 2)), .ref (za g (b + 3)), .ref (za g (b + 4)), .ref (za g (b + 5)), .ref (za g (b + 6)), .ref (za g (b + 7)), .ref (za g (b + 8)), .ref (za g (b + 9)), .ref (za g (b + 10)), .int (nI (0)), .int (po2), .int (nI (I.length)), .int (nI (O.length)), .int (kn), .int (nI (0)), .int (nI (1))]) := ⟨_, rfl⟩
          refine z_weq (w' := w45) ew46.symm ?_
          have hf47 : zFr w40 w45 (b) (b + 1) := by rw [ew46]; exact zFr.up (by omega)
          have hw48 : w45 (b) = zO 12 [.int (nI (2)), .int (nI (Hs.length)), .int (ep), .int (nI ((j2 + 1) - (1))), .int (nI (if Sn.isSome then 1 else 0)), .ref (za g (b + 1)), .ref (za g (b + 2)), .ref (za g (b + 3)), .ref (za g (b + 4)), .ref (za g (b + 5)), .ref (za g (b + 6)), .ref (za g (b + 7)), .ref (za g (b + 8)), .ref (za g (b + 9)), .ref (za g (b + 10)), .int (nI (0)), .int (po2), .int (nI (I.length)), .int (nI (O.length)), .int (kn), .int (nI (0)), .int (nI (1))] := by rw [ew46, zup_s]
          have hx49 := hx44.setC hf47 hw48
          refine z_aload_n dX13_runScript_77 rfl ?_
          refine z_iload_n dX13_runScript_78 rfl ?_
          refine z_callR (As := [.int (nI (j2 + 1))]) (rest := []) (b := b) (ci := 12) (v := some (.int (nI (0)))) (R2 := zR 1 0) dX13_runScript_79 kV_RX13_75 rfl ⟨⟨by decide, by decide⟩, by decide, by decide⟩ (by omega) hx49.ce rfl rfl rfl (Nat.le_of_ble_eq_true rfl) rfl (c_X13_ends_x (th := nI 0) (t := 2) h0 hx49 (by decide) (by decide)) (fun w50 pw50 => ?_)
          obtain ⟨hf51, g52, hx53, he54⟩ := pw50
          refine z_iret dX13_runScript_82 rfl (by decide) (by decide) ?_
          have hF : (if (pCmds I 60 0 []).2.2 = 0 then (if (scrGo (pCmds I 60 0 []).1 0 S).1 = -1 then 0 else 2) else 1) = 2 := by rw [if_pos hx0, if_neg (by omega)]
          have hofc : Int32.ofInt (scrGo (pCmds I 60 0 []).1 0 S).1 = nI ((j2 + 1) - 1) := by rw [hR]; exact Int32.toInt_inj.mp (by rw [ofInt_toInt (by omega) (by omega), nI_toInt (by omega)]; omega)
          refine ⟨_, rfl, (((((((((hf2.tr (hf8.wk (by omega) (by omega))).tr (hf13.wk (by omega) (by omega))).tr (hf18.wk (by omega) (by omega))).tr hfc).tr (hf27.wk (by omega) (by omega))).tr hfd).tr (hf42.wk (by omega) (by omega))).tr (hf47.wk (by omega) (by omega))).tr hf51), ?_, fun q9 => absurd (hF.symm.trans q9) (by decide)⟩
          rw [hF, if_neg (show ¬ ((2 : Nat) = 0) by decide), if_neg (show ¬ ((2 : Nat) = 0) by decide), if_pos rfl, if_pos hx0, hofc]
          exact ⟨_, _, _, _, _, _, _, _, _, _, _, _, _, hx53, hvb.congr he54, hp, hsn, ⟨by decide, fun k hk => absurd hk (Nat.not_lt_zero k), fun z hz => absurd hz List.not_mem_nil⟩, hou, ⟨hep.1, by rw [nI_toInt (by omega)]; omega⟩⟩
    · refine z_aload_n dX13_runScript_34 rfl ?_
      refine z_aload_n dX13_runScript_35 rfl ?_
      refine z_getf (j := b) dX13_runScript_36 kF_RX13_187 rfl (by omega) hxc.ce rfl ?_
      refine z_putf (j := b) dX13_runScript_39 kF_RX13_7 zt_12_2 rfl (by omega) hxc.ce rfl rfl (Nat.le_of_ble_eq_true rfl) ?_
      obtain ⟨w55, ew56⟩ : ∃ wz : zW, wz = va_up w22 (b) (zO 12 [.int (nI (0)), .int (nI (Hs.length)), .int (nI ((pCmds I 60 0 []).2.1)), .int (fc), .int (nI (if Sn.isSome then 1 else 0)), .ref (za g (b + 1)), .ref (za g (b + 2)), .ref (za g (b + 3)), .ref (za g (b + 4)), .ref (za g (b + 5)), .ref (za g (b + 6)), .ref (za g (b + 7)), .ref (za g (b + 8)), .ref (za g (b + 9)), .ref (za g (b + 10)), .int (nI (0)), .int (nI ((pCmds I 60 0 []).2.1)), .int (nI (I.length)), .int (nI (O.length)), .int (kn), .int (nI ((pCmds I 60 0 []).2.2)), .int (nI (0))]) := ⟨_, rfl⟩
      refine z_weq (w' := w55) ew56.symm ?_
      have hf57 : zFr w22 w55 (b) (b + 1) := by rw [ew56]; exact zFr.up (by omega)
      have hw58 : w55 (b) = zO 12 [.int (nI (0)), .int (nI (Hs.length)), .int (nI ((pCmds I 60 0 []).2.1)), .int (fc), .int (nI (if Sn.isSome then 1 else 0)), .ref (za g (b + 1)), .ref (za g (b + 2)), .ref (za g (b + 3)), .ref (za g (b + 4)), .ref (za g (b + 5)), .ref (za g (b + 6)), .ref (za g (b + 7)), .ref (za g (b + 8)), .ref (za g (b + 9)), .ref (za g (b + 10)), .int (nI (0)), .int (nI ((pCmds I 60 0 []).2.1)), .int (nI (I.length)), .int (nI (O.length)), .int (kn), .int (nI ((pCmds I 60 0 []).2.2)), .int (nI (0))] := by rw [ew56, zup_s]
      have hx59 := hxc.setC hf57 hw58
      refine z_aload_n dX13_runScript_42 rfl ?_
      refine z_iconst (v := nI 1) dX13_runScript_43 rfl ?_
      refine z_callR (As := [.int (nI (1))]) (rest := []) (b := b) (ci := 12) (v := some (.int (nI (0)))) (R2 := zR 0 0) dX13_runScript_44 kV_RX13_61 rfl ⟨⟨by decide, by decide⟩, by decide, by decide⟩ (by omega) hx59.ce rfl rfl rfl (Nat.le_of_ble_eq_true rfl) rfl (c_X13_fail (x := (nI (1))) h0 hx59) (fun w60 pw60 => ?_)
      obtain ⟨hf61, hx62⟩ := pw60
      refine z_iret dX13_runScript_47 rfl (by decide) (by decide) ?_
      have hx0 : ¬ (pCmds I 60 0 []).2.2 = 0 := by omega
      have hF : (if (pCmds I 60 0 []).2.2 = 0 then (if (scrGo (pCmds I 60 0 []).1 0 S).1 = -1 then 0 else 2) else 1) = 1 := if_neg hx0
      refine ⟨_, rfl, ((((((hf2.tr (hf8.wk (by omega) (by omega))).tr (hf13.wk (by omega) (by omega))).tr (hf18.wk (by omega) (by omega))).tr hfc).tr (hf57.wk (by omega) (by omega))).tr hf61), ?_, fun q9 => absurd (hF.symm.trans q9) (by decide)⟩
      rw [hF, if_neg (show ¬ ((1 : Nat) = 0) by decide), if_neg (show ¬ ((1 : Nat) = 0) by decide), if_neg (show ¬ ((1 : Nat) = 2) by decide), if_neg hx0]
      exact ⟨_, _, _, _, _, _, _, _, _, _, _, _, _, hx62, hv, hp, hsn, ⟨by decide, fun k hk => absurd hk (Nat.not_lt_zero k), fun z hz => absurd hz List.not_mem_nil⟩, hou, ⟨by rw [nI_toInt (by omega)]; omega, hep.2⟩⟩
