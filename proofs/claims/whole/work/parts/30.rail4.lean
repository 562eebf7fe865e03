/-! RailTimeline: periods, markers, bars, the check of the state -/
set_option maxRecDepth 100000 in
set_option maxHeartbeats 4000000 in
theorem c_X12_periodByFailureFunction {g : zGT} {w : zW} {b : Nat} {S : zSt} {Hs : List zSt} {Sn : Option zSt} {I O : List Nat} {ep fc : Int32} (h0 : zG0 g) (h1 : zST g) (h : Rx g w b S Hs Sn I O ep fc) (hn1 : 1 ≤ S.1.length) : zCt g mX12_periodByFailureFunction (zR 3 0) [.ref (za g b)] w (fun o w' => o = .inl (some (.int (nI (perF (gT S.1) S.1.length)))) ∧ zFr w w' b (b + 101) ∧ Rx g w' b S Hs Sn I O ep fc) := by
  have hb := h.1
  have hn := h.st.len
  obtain ⟨f0, hF0⟩ := h.fa
  refine zCt_of (by decide +kernel) h0 [(0, .ref (za g b))] rfl (Nat.le_of_ble_eq_true rfl) ?_
  have loop : ∀ (mm : Nat) (i mb : Nat) (wi : zW) (fi : Nat → Int32), S.1.length + 1 - i < mm → (1 ≤ i) → (i ≤ S.1.length) → (zFr w wi (b + 84) (b + 85)) → (wi (b + 84) = zI g 200 fi) → (∀ j, j < i → ∃ m, fi j = nI m ∧ Bd (gT S.1) (j + 1) m) → (Bd (gT S.1) i mb) → zTr g mX12_periodByFailureFunction (zR 3 0) 0 0 21 [(0, .ref (za g b)), (1, .int (nI (S.1.length))), (2, .int (nI (mb))), (3, .int (nI (i)))] [] wi (fun o w' => o = .inl (some (.int (nI (perF (gT S.1) S.1.length)))) ∧ zFr w w' b (b + 101) ∧ Rx g w' b S Hs Sn I O ep fc) := by
    intro mm
    induction mm with
    | zero => intros; omega
    | succ mm ih =>
      intro i mb wi fi hm hi1 hi2 hfi hFi hfm hmb
      have hi9 := h.setFa hfi hFi
      refine z_iload_n dX12_periodByFailureFunction_21 rfl ?_
      refine z_iload_n dX12_periodByFailureFunction_22 rfl ?_
      refine z_icmp_ge_n (a := i) (b := S.1.length) (tgt := 45) dX12_periodByFailureFunction_23 (by decide) (by omega) (by omega) (fun h_23_1 => ?_) (fun h_23_1 => ?_)
      · refine z_iload_n dX12_periodByFailureFunction_45 rfl ?_
        refine z_iload_n dX12_periodByFailureFunction_46 rfl ?_
        have hmb1 := hmb.1
        refine z_isub_n (a := S.1.length) (b := mb) dX12_periodByFailureFunction_47 (by omega) ?_
        refine z_iret dX12_periodByFailureFunction_48 rfl (by decide) (by decide) ?_
        have e9 := hmb.per.eq
        rw [show i = S.1.length by omega] at e9
        exact ⟨by rw [e9], hfi.wk (by omega) (by omega), hi9⟩
      · refine z_aload_n dX12_periodByFailureFunction_26 rfl ?_
        refine z_iload_n dX12_periodByFailureFunction_27 rfl ?_
        refine z_iload_n dX12_periodByFailureFunction_28 rfl ?_
        refine z_callV (As := [.int (nI (i)), .int (nI (mb))]) (rest := []) (b := b) (ci := 11) (R2 := zR 2 0) dX12_periodByFailureFunction_29 kV_RX12_288 rfl ⟨⟨by decide, by decide⟩, by decide, by decide⟩ (by omega) hi9.ce rfl rfl rfl (Nat.le_of_ble_eq_true rfl) rfl (c_X12_matchedAt (t := i) (mb := mb) h0 h1 hi9 hFi (by omega) hfm hmb) (fun E w1 h => by obtain ⟨r, e, -⟩ := h; cases e) (fun v2 w3 h4 => ?_)
        rcases h4 with ⟨r, ev, hr, ew⟩
        · cases ev
          subst ew
          refine z_istore_n (lv' := [(0, .ref (za g b)), (1, .int (nI (S.1.length))), (2, .int (nI (r))), (3, .int (nI (i)))]) dX12_periodByFailureFunction_32 (by decide) rfl ?_
          refine z_aload_n dX12_periodByFailureFunction_33 rfl ?_
          refine z_iload_n dX12_periodByFailureFunction_34 rfl ?_
          refine z_iload_n dX12_periodByFailureFunction_35 rfl ?_
          refine z_callR (As := [.int (nI (i)), .int (nI (r))]) (rest := []) (b := b) (ci := 11) (v := none) (R2 := zR 0 0) dX12_periodByFailureFunction_36 kV_RX12_284 rfl ⟨⟨by decide, by decide⟩, by decide, by decide⟩ (by omega) hi9.ce rfl rfl rfl (Nat.le_of_ble_eq_true rfl) rfl (c_X12_setFailure (t := i) (x := r) h0 h1 hi9 hFi (by omega)) (fun w5 pw5 => ?_)
          obtain ⟨hf6, hn7⟩ := pw5
          have hx8 := hi9.setFa hf6 hn7
          refine z_iinc_n (n := 1) (a := i) (lv' := [(0, .ref (za g b)), (1, .int (nI (S.1.length))), (2, .int (nI (r))), (3, .int (nI (i + 1)))]) dX12_periodByFailureFunction_39 rfl (by decide) rfl ?_
          refine z_goto (tgt := 21) dX12_periodByFailureFunction_42 (by decide) ?_
          refine ih (i + 1) r _ (upd fi (i) (nI (r))) (by omega) (by omega) (by omega) (hfi.tr hf6) hn7 (fun j hj => ?_) hr
          by_cases c : j = i
          · exact ⟨r, by simp [upd, c], by rw [c]; exact hr⟩
          · obtain ⟨m, e, hm2⟩ := hfm j (by omega)
            exact ⟨m, by simp only [upd, if_neg c]; exact e, hm2⟩
  refine z_aload_n dX12_periodByFailureFunction_0 rfl ?_
  refine z_getf (j := b) dX12_periodByFailureFunction_1 kF_RX12_12 rfl (by omega) h.ce rfl ?_
  refine z_getfN (j := b + 1) dX12_periodByFailureFunction_4 kN_RX12_167 rfl (by omega) h.st.cell rfl ?_
  refine z_callE (As := []) (rest := []) (b := b + 1 + 1) (ci := 5) (v := some (.int (nI (S.1.length)))) (R2 := zR 0 0) dX12_periodByFailureFunction_7 kV_RX12_170 rfl ⟨⟨by decide, by decide⟩, by decide, by decide⟩ (by omega) h.st.tl.cell rfl rfl rfl (Nat.le_of_ble_eq_true rfl) rfl (tc_size h0 h.st.tl) ?_
  refine z_istore_n (lv' := [(0, .ref (za g b)), (1, .int (nI (S.1.length)))]) dX12_periodByFailureFunction_10 (by decide) rfl ?_
  refine z_aload_n dX12_periodByFailureFunction_11 rfl ?_
  refine z_iconst (v := nI 0) dX12_periodByFailureFunction_12 rfl ?_
  refine z_iconst (v := nI 0) dX12_periodByFailureFunction_13 rfl ?_
  refine z_callR (As := [.int (nI (0)), .int (nI (0))]) (rest := []) (b := b) (ci := 11) (v := none) (R2 := zR 0 0) dX12_periodByFailureFunction_14 kV_RX12_284 rfl ⟨⟨by decide, by decide⟩, by decide, by decide⟩ (by omega) h.ce rfl rfl rfl (Nat.le_of_ble_eq_true rfl) rfl (c_X12_setFailure (t := 0) (x := 0) h0 h1 h hF0 (by omega)) (fun w2 pw2 => ?_)
  obtain ⟨hf3, hn4⟩ := pw2
  have hx5 := h.setFa hf3 hn4
  refine z_iconst (v := nI 0) dX12_periodByFailureFunction_17 rfl ?_
  refine z_istore_n (lv' := [(0, .ref (za g b)), (1, .int (nI (S.1.length))), (2, .int (nI (0)))]) dX12_periodByFailureFunction_18 (by decide) rfl ?_
  refine z_iconst (v := nI 1) dX12_periodByFailureFunction_19 rfl ?_
  refine z_istore_n (lv' := [(0, .ref (za g b)), (1, .int (nI (S.1.length))), (2, .int (nI (0))), (3, .int (nI (1)))]) dX12_periodByFailureFunction_20 (by decide) rfl ?_
  exact loop (S.1.length + 1) 1 0 _ (upd f0 (0) (nI (0))) (by omega) (Nat.le_refl _) (by omega) hf3 hn4 (fun j hj => ⟨0, by simp [upd, show j = 0 by omega], by rw [show j = 0 by omega]; exact Bd.one⟩) Bd.one
set_option maxRecDepth 100000 in
set_option maxHeartbeats 4000000 in
theorem c_X12_periodByTrying {g : zGT} {w : zW} {b : Nat} {S : zSt} {Hs : List zSt} {Sn : Option zSt} {I O : List Nat} {ep fc : Int32} (h0 : zG0 g) (h1 : zST g) (h : Rx g w b S Hs Sn I O ep fc) (hn1 : 1 ≤ S.1.length) : zCt g mX12_periodByTrying (zR 2 0) [.ref (za g b)] w (fun o w' => o = .inl (some (.int (nI (perF (gT S.1) S.1.length)))) ∧ w' = w) := by
  have hb := h.1
  have hn := h.st.len
  refine zCt_of (by decide +kernel) h0 [(0, .ref (za g b))] rfl (Nat.le_of_ble_eq_true rfl) ?_
  have loop : ∀ (mm : Nat) (p : Nat), S.1.length + 1 - p < mm → (1 ≤ p) → (p ≤ S.1.length) → (∀ q, 1 ≤ q → q < p → ¬ perOK (gT S.1) S.1.length q) → zTr g mX12_periodByTrying (zR 2 0) 0 0 13 [(0, .ref (za g b)), (1, .int (nI (S.1.length))), (2, .int (nI (p)))] [] w (fun o w' => o = .inl (some (.int (nI (perF (gT S.1) S.1.length)))) ∧ w' = w) := by
    intro mm
    induction mm with
    | zero => intros; omega
    | succ mm ih =>
      intro p hm hp1 hp2 hno
      refine z_iload_n dX12_periodByTrying_13 rfl ?_
      refine z_iload_n dX12_periodByTrying_14 rfl ?_
      refine z_icmp_ge_n (a := p) (b := S.1.length) (tgt := 44) dX12_periodByTrying_15 (by decide) (by omega) (by omega) (fun h_15_1 => ?_) (fun h_15_1 => ?_)
      · refine z_iload_n dX12_periodByTrying_44 rfl ?_
        refine z_iret dX12_periodByTrying_45 rfl (by decide) (by decide) ?_
        have e9 : IsPer (gT S.1) S.1.length S.1.length := ⟨by omega, Nat.le_refl _, perOK_n, fun q h2 h3 => hno q h2 (by omega)⟩
        exact ⟨by rw [e9.eq], rfl⟩
      · refine z_aload_n dX12_periodByTrying_18 rfl ?_
        refine z_getf (j := b) dX12_periodByTrying_19 kF_RX12_12 rfl (by omega) h.ce rfl ?_
        refine z_getfN (j := b + 1) dX12_periodByTrying_22 kN_RX12_167 rfl (by omega) h.st.cell rfl ?_
        refine z_iconst (v := nI 0) dX12_periodByTrying_25 rfl ?_
        refine z_iload_n dX12_periodByTrying_26 rfl ?_
        refine z_iload_n dX12_periodByTrying_27 rfl ?_
        refine z_iload_n dX12_periodByTrying_28 rfl ?_
        refine z_isub_n (a := S.1.length) (b := p) dX12_periodByTrying_29 (by omega) ?_
        by_cases hc2 : ∀ k, k < ((S.1.length) - (p)) → gT S.1 ((0) + k) = gT S.1 ((p) + k)
        · refine z_callE (As := [.int (nI (0)), .int (nI (p)), .int (nI ((S.1.length) - (p)))]) (rest := []) (b := b + 1 + 1) (ci := 5) (v := some (.int (nI (1)))) (R2 := zR 1 0) dX12_periodByTrying_30 kV_RX12_297 rfl ⟨⟨by decide, by decide⟩, by decide, by decide⟩ (by omega) h.st.tl.cell rfl rfl rfl (Nat.le_of_ble_eq_true rfl) rfl (tc_isSame_y (p := 0) (q := p) (m9 := (S.1.length) - (p)) h0 h.st.tl (by omega) (by omega) hc2) ?_
          refine z_if_eq_n (a := 1) (tgt := 38) dX12_periodByTrying_33 (by decide) (by omega) (fun h_33_4 => ?_) (fun h_33_4 => ?_)
          · exact absurd h_33_4 (by decide)
          · refine z_iload_n dX12_periodByTrying_36 rfl ?_
            refine z_iret dX12_periodByTrying_37 rfl (by decide) (by decide) ?_
            have e9 : IsPer (gT S.1) S.1.length p := ⟨hp1, by omega, fun k hk => by have q9 := hc2 k hk; rwa [Nat.zero_add] at q9, hno⟩
            exact ⟨by rw [e9.eq], rfl⟩
        · refine z_callE (As := [.int (nI (0)), .int (nI (p)), .int (nI ((S.1.length) - (p)))]) (rest := []) (b := b + 1 + 1) (ci := 5) (v := some (.int (nI (0)))) (R2 := zR 1 0) dX12_periodByTrying_30 kV_RX12_297 rfl ⟨⟨by decide, by decide⟩, by decide, by decide⟩ (by omega) h.st.tl.cell rfl rfl rfl (Nat.le_of_ble_eq_true rfl) rfl (tc_isSame_n (p := 0) (q := p) (m9 := (S.1.length) - (p)) h0 h.st.tl (by omega) (by omega) hc2) ?_
          refine z_if_eq_n (a := 0) (tgt := 38) dX12_periodByTrying_33 (by decide) (by omega) (fun h_33_6 => ?_) (fun h_33_6 => ?_)
          · refine z_iinc_n (n := 1) (a := p) (lv' := [(0, .ref (za g b)), (1, .int (nI (S.1.length))), (2, .int (nI (p + 1)))]) dX12_periodByTrying_38 rfl (by decide) rfl ?_
            refine z_goto (tgt := 13) dX12_periodByTrying_41 (by decide) ?_
            refine ih (p + 1) (by omega) (by omega) (by omega) (fun q h2 h3 hq => ?_)
            by_cases c : q = p
            · exact hc2 (fun k hk => by rw [Nat.zero_add]; rw [c] at hq; exact hq k hk)
            · exact hno q h2 (by omega) hq
          · exact absurd h_33_6 (by decide)
  refine z_aload_n dX12_periodByTrying_0 rfl ?_
  refine z_getf (j := b) dX12_periodByTrying_1 kF_RX12_12 rfl (by omega) h.ce rfl ?_
  refine z_getfN (j := b + 1) dX12_periodByTrying_4 kN_RX12_167 rfl (by omega) h.st.cell rfl ?_
  refine z_callE (As := []) (rest := []) (b := b + 1 + 1) (ci := 5) (v := some (.int (nI (S.1.length)))) (R2 := zR 0 0) dX12_periodByTrying_7 kV_RX12_170 rfl ⟨⟨by decide, by decide⟩, by decide, by decide⟩ (by omega) h.st.tl.cell rfl rfl rfl (Nat.le_of_ble_eq_true rfl) rfl (tc_size h0 h.st.tl) ?_
  refine z_istore_n (lv' := [(0, .ref (za g b)), (1, .int (nI (S.1.length)))]) dX12_periodByTrying_10 (by decide) rfl ?_
  refine z_iconst (v := nI 1) dX12_periodByTrying_11 rfl ?_
  refine z_istore_n (lv' := [(0, .ref (za g b)), (1, .int (nI (S.1.length))), (2, .int (nI (1)))]) dX12_periodByTrying_12 (by decide) rfl ?_
  exact loop (S.1.length + 1) 1 (by omega) (Nat.le_refl _) (by omega) (fun q h2 h3 => by omega)
set_option maxRecDepth 100000 in
set_option maxHeartbeats 4000000 in
theorem c_X12_period {g : zGT} {w : zW} {b : Nat} {S : zSt} {Hs : List zSt} {Sn : Option zSt} {I O : List Nat} {ep fc : Int32}  (h0 : zG0 g) (h1 : zST g) (h : Rx g w b S Hs Sn I O ep fc) : zCt g mX12_period (zR 4 1) [.ref (za g b)] w (fun o w' => o = zAns (if S.1.length = 0 then 4 else 0) (some (.int (nI (perF (gT S.1) S.1.length)))) ∧ zFr w w' b (b + 101) ∧ Rx g w' b S Hs Sn I O ep fc) := by
  have hb := h.1
  have hn := h.st.len
  refine zCt_of (by decide +kernel) h0 [(0, .ref (za g b))] rfl (Nat.le_of_ble_eq_true rfl) ?_
  refine z_aload_n dX12_period_0 rfl ?_
  refine z_getf (j := b) dX12_period_1 kF_RX12_12 rfl (by omega) h.ce rfl ?_
  refine z_getfN (j := b + 1) dX12_period_4 kN_RX12_167 rfl (by omega) h.st.cell rfl ?_
  refine z_callE (As := []) (rest := []) (b := b + 1 + 1) (ci := 5) (v := some (.int (nI (S.1.length)))) (R2 := zR 0 0) dX12_period_7 kV_RX12_170 rfl ⟨⟨by decide, by decide⟩, by decide, by decide⟩ (by omega) h.st.tl.cell rfl rfl rfl (Nat.le_of_ble_eq_true rfl) rfl (tc_size h0 h.st.tl) ?_
  refine z_if_le_n (a := S.1.length) (tgt := 17) dX12_period_10 (by decide) (by omega) (fun h_10_2 => ?_) (fun h_10_2 => ?_)
  · refine z_iconst (v := nI 0) dX12_period_17 rfl ?_
    refine z_gets dX12_period_18 kG_RX12_159 rfl (h1.fl (i := 4) (by decide)) ?_
    refine z_callSX (As := [.int (nI (0)), .ref (ze g 4)]) (rest := []) (k := 4) (R2 := zR 1 1) dX12_period_21 kS_RX12_178 rfl rfl ⟨⟨by decide, by decide⟩, by decide, by decide⟩ rfl (Nat.le_of_ble_eq_true rfl) rfl (c_X12_raiseUnless_n (f := 4) h0 h1 (by decide) (by decide)) ?_
    exact ⟨zAns_n (by (repeat' split) <;> omega) (by decide), zFr.rf, h⟩
  · refine z_iconst (v := nI 1) dX12_period_13 rfl ?_
    refine z_goto (tgt := 18) dX12_period_14 (by decide) ?_
    refine z_gets dX12_period_18 kG_RX12_159 rfl (h1.fl (i := 4) (by decide)) ?_
    refine z_callSE (As := [.int (nI (1)), .ref (ze g 4)]) (rest := []) (v := none) (R2 := zR 1 1) dX12_period_21 kS_RX12_178 rfl rfl ⟨⟨by decide, by decide⟩, by decide, by decide⟩ rfl (Nat.le_of_ble_eq_true rfl) rfl (c_X12_raiseUnless_y h0 h1) ?_
    refine z_aload_n dX12_period_24 rfl ?_
    refine z_callR (As := []) (rest := []) (b := b) (ci := 11) (v := some (.int (nI (perF (gT S.1) S.1.length)))) (R2 := zR 3 0) dX12_period_25 kV_RX12_278 rfl ⟨⟨by decide, by decide⟩, by decide, by decide⟩ (by omega) h.ce rfl rfl rfl (Nat.le_of_ble_eq_true rfl) rfl (c_X12_periodByFailureFunction h0 h1 h (by omega)) (fun w4 pw4 => ?_)
    obtain ⟨hf5, hx6⟩ := pw4
    refine z_iret dX12_period_28 rfl (by decide) (by decide) ?_
    exact ⟨zAns_y (by (repeat' split) <;> omega) rfl, hf5, hx6⟩
set_option maxRecDepth 100000 in
set_option maxHeartbeats 4000000 in
theorem c_X12_periodByTrial {g : zGT} {w : zW} {b : Nat} {S : zSt} {Hs : List zSt} {Sn : Option zSt} {I O : List Nat} {ep fc : Int32}  (h0 : zG0 g) (h1 : zST g) (h : Rx g w b S Hs Sn I O ep fc) : zCt g mX12_periodByTrial (zR 4 1) [.ref (za g b)] w (fun o w' => o = zAns (if S.1.length = 0 then 4 else 0) (some (.int (nI (perF (gT S.1) S.1.length)))) ∧ zFr w w' b (b + 101) ∧ Rx g w' b S Hs Sn I O ep fc) := by
  have hb := h.1
  have hn := h.st.len
  refine zCt_of (by decide +kernel) h0 [(0, .ref (za g b))] rfl (Nat.le_of_ble_eq_true rfl) ?_
  refine z_aload_n dX12_periodByTrial_0 rfl ?_
  refine z_getf (j := b) dX12_periodByTrial_1 kF_RX12_12 rfl (by omega) h.ce rfl ?_
  refine z_getfN (j := b + 1) dX12_periodByTrial_4 kN_RX12_167 rfl (by omega) h.st.cell rfl ?_
  refine z_callE (As := []) (rest := []) (b := b + 1 + 1) (ci := 5) (v := some (.int (nI (S.1.length)))) (R2 := zR 0 0) dX12_periodByTrial_7 kV_RX12_170 rfl ⟨⟨by decide, by decide⟩, by decide, by decide⟩ (by omega) h.st.tl.cell rfl rfl rfl (Nat.le_of_ble_eq_true rfl) rfl (tc_size h0 h.st.tl) ?_
  refine z_if_le_n (a := S.1.length) (tgt := 17) dX12_periodByTrial_10 (by decide) (by omega) (fun h_10_2 => ?_) (fun h_10_2 => ?_)
  · refine z_iconst (v := nI 0) dX12_periodByTrial_17 rfl ?_
    refine z_gets dX12_periodByTrial_18 kG_RX12_159 rfl (h1.fl (i := 4) (by decide)) ?_
    refine z_callSX (As := [.int (nI (0)), .ref (ze g 4)]) (rest := []) (k := 4) (R2 := zR 1 1) dX12_periodByTrial_21 kS_RX12_178 rfl rfl ⟨⟨by decide, by decide⟩, by decide, by decide⟩ rfl (Nat.le_of_ble_eq_true rfl) rfl (c_X12_raiseUnless_n (f := 4) h0 h1 (by decide) (by decide)) ?_
    exact ⟨zAns_n (by (repeat' split) <;> omega) (by decide), zFr.rf, h⟩
  · refine z_iconst (v := nI 1) dX12_periodByTrial_13 rfl ?_
    refine z_goto (tgt := 18) dX12_periodByTrial_14 (by decide) ?_
    refine z_gets dX12_periodByTrial_18 kG_RX12_159 rfl (h1.fl (i := 4) (by decide)) ?_
    refine z_callSE (As := [.int (nI (1)), .ref (ze g 4)]) (rest := []) (v := none) (R2 := zR 1 1) dX12_periodByTrial_21 kS_RX12_178 rfl rfl ⟨⟨by decide, by decide⟩, by decide, by decide⟩ rfl (Nat.le_of_ble_eq_true rfl) rfl (c_X12_raiseUnless_y h0 h1) ?_
    refine z_aload_n dX12_periodByTrial_24 rfl ?_
    refine z_callE (As := []) (rest := []) (b := b) (ci := 11) (v := some (.int (nI (perF (gT S.1) S.1.length)))) (R2 := zR 2 0) dX12_periodByTrial_25 kV_RX12_281 rfl ⟨⟨by decide, by decide⟩, by decide, by decide⟩ (by omega) h.ce rfl rfl rfl (Nat.le_of_ble_eq_true rfl) rfl (c_X12_periodByTrying h0 h1 h (by omega)) ?_
    refine z_iret dX12_periodByTrial_28 rfl (by decide) (by decide) ?_
    exact ⟨zAns_y (by (repeat' split) <;> omega) rfl, zFr.rf, h⟩
set_option maxRecDepth 100000 in
set_option maxHeartbeats 4000000 in
theorem c_X12_markerCount {g : zGT} {w : zW} {b : Nat} {S : zSt} {Hs : List zSt} {Sn : Option zSt} {I O : List Nat} {ep fc : Int32}  (h0 : zG0 g) (h1 : zST g) (h : Rx g w b S Hs Sn I O ep fc) : zCt g mX12_markerCount (zR 1 0) [.ref (za g b)] w (fun o w' => o = .inl (some (.int (nI S.2.1.length))) ∧ zFr w w' b (b + 101) ∧ Rx g w' b S Hs Sn I O ep fc) := by
  have hb := h.1
  have hn := h.st.len
  refine zCt_of (by decide +kernel) h0 [(0, .ref (za g b))] rfl (Nat.le_of_ble_eq_true rfl) ?_
  refine z_aload_n dX12_markerCount_0 rfl ?_
  refine z_getf (j := b) dX12_markerCount_1 kF_RX12_12 rfl (by omega) h.ce rfl ?_
  refine z_getfN (j := b + 1) dX12_markerCount_4 kN_RX12_301 rfl (by omega) h.st.cell rfl ?_
  refine z_callE (As := []) (rest := []) (b := b + 1 + 3) (ci := 6) (v := some (.int (nI (S.2.1.length)))) (R2 := zR 0 0) dX12_markerCount_7 kV_RX12_305 rfl ⟨⟨by decide, by decide⟩, by decide, by decide⟩ (by omega) h.st.mks.2.1 rfl rfl rfl (Nat.le_of_ble_eq_true rfl) rfl (c_X6_count h0 h.st.mks) ?_
  refine z_iret dX12_markerCount_10 rfl (by decide) (by decide) ?_
  exact ⟨rfl, zFr.rf, h⟩
set_option maxRecDepth 100000 in
set_option maxHeartbeats 4000000 in
theorem c_X12_markerTime {g : zGT} {w : zW} {b : Nat} {S : zSt} {Hs : List zSt} {Sn : Option zSt} {I O : List Nat} {ep fc : Int32} {x : Int32} (h0 : zG0 g) (h1 : zST g) (h : Rx g w b S Hs Sn I O ep fc) : zCt g mX12_markerTime (zR 2 1) [.ref (za g b), .int (x)] w (fun o w' => o = zAns (if 0 ≤ x.toInt ∧ x.toInt < S.2.1.length then 0 else 1) (some (.int (nI (S.2.1.getD x.toInt.toNat 0)))) ∧ zFr w w' b (b + 101) ∧ Rx g w' b S Hs Sn I O ep fc) := by
  have hb := h.1
  have hn := h.st.len
  have hm6 := h.st.mks.2.2.2.1
  refine zCt_of (by decide +kernel) h0 [(0, .ref (za g b)), (1, .int (x))] rfl (Nat.le_of_ble_eq_true rfl) ?_
  refine z_iload_n dX12_markerTime_0 rfl ?_
  refine z_if_lt_z (tgt := 22) dX12_markerTime_1 (by decide) (fun h_1_1 => ?_) (fun h_1_1 => ?_)
  · refine z_iconst (v := nI 0) dX12_markerTime_22 rfl ?_
    refine z_gets dX12_markerTime_23 kG_RX12_130 rfl (h1.fl (i := 1) (by decide)) ?_
    refine z_callSX (As := [.int (nI (0)), .ref (ze g 1)]) (rest := []) (k := 1) (R2 := zR 1 1) dX12_markerTime_26 kS_RX12_178 rfl rfl ⟨⟨by decide, by decide⟩, by decide, by decide⟩ rfl (Nat.le_of_ble_eq_true rfl) rfl (c_X12_raiseUnless_n (f := 1) h0 h1 (by decide) (by decide)) ?_
    exact ⟨zAns_n (by (repeat' split) <;> omega) (by decide), zFr.rf, h⟩
  · refine z_iload_n dX12_markerTime_4 rfl ?_
    refine z_aload_n dX12_markerTime_5 rfl ?_
    refine z_getf (j := b) dX12_markerTime_6 kF_RX12_12 rfl (by omega) h.ce rfl ?_
    refine z_getfN (j := b + 1) dX12_markerTime_9 kN_RX12_301 rfl (by omega) h.st.cell rfl ?_
    refine z_callE (As := []) (rest := [.int (x)]) (b := b + 1 + 3) (ci := 6) (v := some (.int (nI (S.2.1.length)))) (R2 := zR 0 0) dX12_markerTime_12 kV_RX12_305 rfl ⟨⟨by decide, by decide⟩, by decide, by decide⟩ (by omega) h.st.mks.2.1 rfl rfl rfl (Nat.le_of_ble_eq_true rfl) rfl (c_X6_count h0 h.st.mks) ?_
    have hk4 := nI_toInt (n := S.2.1.length) (by omega)
    refine z_icmp_ge_z (tgt := 22) dX12_markerTime_15 (by decide) (fun h_15_3 => ?_) (fun h_15_3 => ?_)
    · refine z_iconst (v := nI 0) dX12_markerTime_22 rfl ?_
      refine z_gets dX12_markerTime_23 kG_RX12_130 rfl (h1.fl (i := 1) (by decide)) ?_
      refine z_callSX (As := [.int (nI (0)), .ref (ze g 1)]) (rest := []) (k := 1) (R2 := zR 1 1) dX12_markerTime_26 kS_RX12_178 rfl rfl ⟨⟨by decide, by decide⟩, by decide, by decide⟩ rfl (Nat.le_of_ble_eq_true rfl) rfl (c_X12_raiseUnless_n (f := 1) h0 h1 (by decide) (by decide)) ?_
      exact ⟨zAns_n (by (repeat' split) <;> omega) (by decide), zFr.rf, h⟩
    · refine z_iconst (v := nI 1) dX12_markerTime_18 rfl ?_
      refine z_goto (tgt := 23) dX12_markerTime_19 (by decide) ?_
      refine z_gets dX12_markerTime_23 kG_RX12_130 rfl (h1.fl (i := 1) (by decide)) ?_
      refine z_callSE (As := [.int (nI (1)), .ref (ze g 1)]) (rest := []) (v := none) (R2 := zR 1 1) dX12_markerTime_26 kS_RX12_178 rfl rfl ⟨⟨by decide, by decide⟩, by decide, by decide⟩ rfl (Nat.le_of_ble_eq_true rfl) rfl (c_X12_raiseUnless_y h0 h1) ?_
      refine z_eq (lv' := [(0, .ref (za g b)), (1, .int (nI (x.toInt.toNat)))]) rfl rfl (by rw [← i_nat (x := x) (by omega)]) ?_
      refine z_aload_n dX12_markerTime_29 rfl ?_
      refine z_getf (j := b) dX12_markerTime_30 kF_RX12_12 rfl (by omega) h.ce rfl ?_
      refine z_getfN (j := b + 1) dX12_markerTime_33 kN_RX12_301 rfl (by omega) h.st.cell rfl ?_
      refine z_iload_n dX12_markerTime_36 rfl ?_
      refine z_callE (As := [.int (nI (x.toInt.toNat))]) (rest := []) (b := b + 1 + 3) (ci := 6) (v := some (.int (nI (S.2.1.getD (x.toInt.toNat) 0)))) (R2 := zR 0 0) dX12_markerTime_37 kV_RX12_308 rfl ⟨⟨by decide, by decide⟩, by decide, by decide⟩ (by omega) h.st.mks.2.1 rfl rfl rfl (Nat.le_of_ble_eq_true rfl) rfl (c_X6_at (t := x.toInt.toNat) h0 h.st.mks (by omega)) ?_
      refine z_iret dX12_markerTime_40 rfl (by decide) (by decide) ?_
      exact ⟨zAns_y (by (repeat' split) <;> omega) rfl, zFr.rf, h⟩
set_option maxRecDepth 100000 in
set_option maxHeartbeats 4000000 in
theorem c_X12_clipboardLength {g : zGT} {w : zW} {b : Nat} {S : zSt} {Hs : List zSt} {Sn : Option zSt} {I O : List Nat} {ep fc : Int32}  (h0 : zG0 g) (h1 : zST g) (h : Rx g w b S Hs Sn I O ep fc) : zCt g mX12_clipboardLength (zR 1 0) [.ref (za g b)] w (fun o w' => o = .inl (some (.int (nI S.2.2.1.length))) ∧ zFr w w' b (b + 101) ∧ Rx g w' b S Hs Sn I O ep fc) := by
  have hb := h.1
  have hn := h.st.len
  refine zCt_of (by decide +kernel) h0 [(0, .ref (za g b))] rfl (Nat.le_of_ble_eq_true rfl) ?_
  refine z_aload_n dX12_clipboardLength_0 rfl ?_
  refine z_getf (j := b) dX12_clipboardLength_1 kF_RX12_12 rfl (by omega) h.ce rfl ?_
  refine z_getfN (j := b + 1) dX12_clipboardLength_4 kN_RX12_325 rfl (by omega) h.st.cell rfl ?_
  refine z_callE (As := []) (rest := []) (b := b + 1 + 5) (ci := 5) (v := some (.int (nI (S.2.2.1.length)))) (R2 := zR 0 0) dX12_clipboardLength_7 kV_RX12_170 rfl ⟨⟨by decide, by decide⟩, by decide, by decide⟩ (by omega) h.st.cl.cell rfl rfl rfl (Nat.le_of_ble_eq_true rfl) rfl (tc_size h0 h.st.cl) ?_
  refine z_iret dX12_clipboardLength_10 rfl (by decide) (by decide) ?_
  exact ⟨rfl, zFr.rf, h⟩
set_option maxRecDepth 100000 in
set_option maxHeartbeats 4000000 in
theorem c_X12_trainCount {g : zGT} {w : zW} {b : Nat} {S : zSt} {Hs : List zSt} {Sn : Option zSt} {I O : List Nat} {ep fc : Int32}  (h0 : zG0 g) (h1 : zST g) (h : Rx g w b S Hs Sn I O ep fc) : zCt g mX12_trainCount (zR 1 0) [.ref (za g b)] w (fun o w' => o = .inl (some (.int (nI S.2.2.2))) ∧ zFr w w' b (b + 101) ∧ Rx g w' b S Hs Sn I O ep fc) := by
  have hb := h.1
  have hn := h.st.len
  refine zCt_of (by decide +kernel) h0 [(0, .ref (za g b))] rfl (Nat.le_of_ble_eq_true rfl) ?_
  refine z_aload_n dX12_trainCount_0 rfl ?_
  refine z_getf (j := b) dX12_trainCount_1 kF_RX12_12 rfl (by omega) h.ce rfl ?_
  refine z_getfN (j := b + 1) dX12_trainCount_4 kN_RX12_328 rfl (by omega) h.st.cell rfl ?_
  refine z_iret dX12_trainCount_7 rfl (by decide) (by decide) ?_
  exact ⟨rfl, zFr.rf, h⟩
def blF (S : zSt) (j : Nat) : Nat := barB S.2.1 S.1.length j - barA S.2.1 j
def bsF (S : zSt) (j : Nat) : Nat := tsum (gT S.1) (barA S.2.1 j) (blF S j)
def louder (S : zSt) (j k : Nat) : Prop := bsF S k < bsF S j ∨ (bsF S j = bsF S k ∧ blF S k < blF S j)
noncomputable def loudB (S : zSt) : Nat → Nat
  | 0 => 0
  | k + 1 => by classical exact if louder S (k + 1) (loudB S k) then k + 1 else loudB S k
theorem loudB_y {S : zSt} {k : Nat} (h : louder S (k + 1) (loudB S k)) : loudB S (k + 1) = k + 1 := by rw [loudB]; exact if_pos h
theorem loudB_n {S : zSt} {k : Nat} (h : ¬ louder S (k + 1) (loudB S k)) : loudB S (k + 1) = loudB S k := by rw [loudB]; exact if_neg h
theorem loudB_le {S : zSt} : ∀ {k : Nat}, loudB S k ≤ k
  | 0 => Nat.le_refl _
  | k + 1 => by
    by_cases c : louder S (k + 1) (loudB S k)
    · rw [loudB_y c]; exact Nat.le_refl _
    · rw [loudB_n c]; exact Nat.le_succ_of_le loudB_le
theorem bsF_le {g : zGT} {w : zW} {b : Nat} {S : zSt} (h : Sx g w b S) {j : Nat} (hj : j ≤ S.2.1.length) : bsF S j ≤ 1800 ∧ blF S j ≤ 200 := by
  have h1 := h.2.bar hj
  have h2 := h.len
  have h4 : blF S j ≤ 200 := by unfold blF; omega
  have h3 := tsum_le (F := gT S.1) (p := barA S.2.1 j) (c := 9) (m := blF S j) (fun k h3 h4 => h.tl.le (by unfold blF at h4; omega))
  unfold bsF
  exact ⟨by omega, h4⟩
def eqBar (S : zSt) (j k : Nat) : Prop := blF S j = blF S k ∧ ∀ q, q < blF S j → gT S.1 (barA S.2.1 j + q) = gT S.1 (barA S.2.1 k + q)
set_option maxRecDepth 100000 in
set_option maxHeartbeats 4000000 in
theorem c_X12_barLength {g : zGT} {w : zW} {b : Nat} {S : zSt} {Hs : List zSt} {Sn : Option zSt} {I O : List Nat} {ep fc : Int32} {x : Int32} (h0 : zG0 g) (h1 : zST g) (h : Rx g w b S Hs Sn I O ep fc) : zCt g mX12_barLength (zR 3 1) [.ref (za g b), .int (x)] w (fun o w' => o = zAns (if 0 ≤ x.toInt ∧ x.toInt ≤ S.2.1.length then 0 else 1) (some (.int (nI (blF S x.toInt.toNat)))) ∧ zFr w w' b (b + 101) ∧ Rx g w' b S Hs Sn I O ep fc) := by
  have hb := h.1
  have hn := h.st.len
  refine zCt_of (by decide +kernel) h0 [(0, .ref (za g b)), (1, .int (x))] rfl (Nat.le_of_ble_eq_true rfl) ?_
  refine z_aload_n dX12_barLength_0 rfl ?_
  refine z_getf (j := b) dX12_barLength_1 kF_RX12_12 rfl (by omega) h.ce rfl ?_
  refine z_iload_n dX12_barLength_4 rfl ?_
  by_cases hc1 : 0 ≤ ((x)).toInt ∧ ((x)).toInt ≤ (S.2.1.length : Nat)
  · refine z_callE (As := [.int (x)]) (rest := []) (b := b + 1) (ci := 10) (v := some (.int (nI (1)))) (R2 := zR 1 0) dX12_barLength_5 kV_RX12_309 rfl ⟨⟨by decide, by decide⟩, by decide, by decide⟩ (by omega) h.st.cell rfl rfl rfl (Nat.le_of_ble_eq_true rfl) rfl (c_X10_hasBar_y h0 h1 h.st.1 hc1) ?_
    refine z_gets dX12_barLength_8 kG_RX12_130 rfl (h1.fl (i := 1) (by decide)) ?_
    refine z_callSE (As := [.int (nI (1)), .ref (ze g 1)]) (rest := []) (v := none) (R2 := zR 1 1) dX12_barLength_11 kS_RX12_178 rfl rfl ⟨⟨by decide, by decide⟩, by decide, by decide⟩ rfl (Nat.le_of_ble_eq_true rfl) rfl (c_X12_raiseUnless_y h0 h1) ?_
    refine z_eq (lv' := [(0, .ref (za g b)), (1, .int (nI (x.toInt.toNat)))]) rfl rfl (by rw [← i_nat (x := x) (by omega)]) ?_
    refine z_aload_n dX12_barLength_14 rfl ?_
    refine z_getf (j := b) dX12_barLength_15 kF_RX12_12 rfl (by omega) h.ce rfl ?_
    refine z_iload_n dX12_barLength_18 rfl ?_
    refine z_callE (As := [.int (nI (x.toInt.toNat))]) (rest := []) (b := b + 1) (ci := 10) (v := some (.int (nI (blF S (x.toInt.toNat))))) (R2 := zR 2 0) dX12_barLength_19 kV_RX12_312 rfl ⟨⟨by decide, by decide⟩, by decide, by decide⟩ (by omega) h.st.cell rfl rfl rfl (Nat.le_of_ble_eq_true rfl) rfl (c_X10_lengthOfBar (j := x.toInt.toNat) h0 h1 h.st.1 h.st.2 (by omega)) ?_
    refine z_iret dX12_barLength_22 rfl (by decide) (by decide) ?_
    exact ⟨zAns_y (by (repeat' split) <;> omega) rfl, zFr.rf, h⟩
  · refine z_callE (As := [.int (x)]) (rest := []) (b := b + 1) (ci := 10) (v := some (.int (nI (0)))) (R2 := zR 1 0) dX12_barLength_5 kV_RX12_309 rfl ⟨⟨by decide, by decide⟩, by decide, by decide⟩ (by omega) h.st.cell rfl rfl rfl (Nat.le_of_ble_eq_true rfl) rfl (c_X10_hasBar_n h0 h1 h.st.1 hc1) ?_
    refine z_gets dX12_barLength_8 kG_RX12_130 rfl (h1.fl (i := 1) (by decide)) ?_
    refine z_callSX (As := [.int (nI (0)), .ref (ze g 1)]) (rest := []) (k := 1) (R2 := zR 1 1) dX12_barLength_11 kS_RX12_178 rfl rfl ⟨⟨by decide, by decide⟩, by decide, by decide⟩ rfl (Nat.le_of_ble_eq_true rfl) rfl (c_X12_raiseUnless_n (f := 1) h0 h1 (by decide) (by decide)) ?_
    exact ⟨zAns_n (by (repeat' split) <;> omega) (by decide), zFr.rf, h⟩
set_option maxRecDepth 100000 in
set_option maxHeartbeats 4000000 in
theorem c_X12_barLoudness {g : zGT} {w : zW} {b : Nat} {S : zSt} {Hs : List zSt} {Sn : Option zSt} {I O : List Nat} {ep fc : Int32} {x : Int32} (h0 : zG0 g) (h1 : zST g) (h : Rx g w b S Hs Sn I O ep fc) : zCt g mX12_barLoudness (zR 3 1) [.ref (za g b), .int (x)] w (fun o w' => o = zAns (if 0 ≤ x.toInt ∧ x.toInt ≤ S.2.1.length then 0 else 1) (some (.int (nI (bsF S x.toInt.toNat)))) ∧ zFr w w' b (b + 101) ∧ Rx g w' b S Hs Sn I O ep fc) := by
  have hb := h.1
  have hn := h.st.len
  refine zCt_of (by decide +kernel) h0 [(0, .ref (za g b)), (1, .int (x))] rfl (Nat.le_of_ble_eq_true rfl) ?_
  refine z_aload_n dX12_barLoudness_0 rfl ?_
  refine z_getf (j := b) dX12_barLoudness_1 kF_RX12_12 rfl (by omega) h.ce rfl ?_
  refine z_iload_n dX12_barLoudness_4 rfl ?_
  by_cases hc1 : 0 ≤ ((x)).toInt ∧ ((x)).toInt ≤ (S.2.1.length : Nat)
  · refine z_callE (As := [.int (x)]) (rest := []) (b := b + 1) (ci := 10) (v := some (.int (nI (1)))) (R2 := zR 1 0) dX12_barLoudness_5 kV_RX12_309 rfl ⟨⟨by decide, by decide⟩, by decide, by decide⟩ (by omega) h.st.cell rfl rfl rfl (Nat.le_of_ble_eq_true rfl) rfl (c_X10_hasBar_y h0 h1 h.st.1 hc1) ?_
    refine z_gets dX12_barLoudness_8 kG_RX12_130 rfl (h1.fl (i := 1) (by decide)) ?_
    refine z_callSE (As := [.int (nI (1)), .ref (ze g 1)]) (rest := []) (v := none) (R2 := zR 1 1) dX12_barLoudness_11 kS_RX12_178 rfl rfl ⟨⟨by decide, by decide⟩, by decide, by decide⟩ rfl (Nat.le_of_ble_eq_true rfl) rfl (c_X12_raiseUnless_y h0 h1) ?_
    refine z_eq (lv' := [(0, .ref (za g b)), (1, .int (nI (x.toInt.toNat)))]) rfl rfl (by rw [← i_nat (x := x) (by omega)]) ?_
    refine z_aload_n dX12_barLoudness_14 rfl ?_
    refine z_getf (j := b) dX12_barLoudness_15 kF_RX12_12 rfl (by omega) h.ce rfl ?_
    refine z_iload_n dX12_barLoudness_18 rfl ?_
    refine z_callE (As := [.int (nI (x.toInt.toNat))]) (rest := []) (b := b + 1) (ci := 10) (v := some (.int (nI (bsF S (x.toInt.toNat))))) (R2 := zR 2 0) dX12_barLoudness_19 kV_RX12_315 rfl ⟨⟨by decide, by decide⟩, by decide, by decide⟩ (by omega) h.st.cell rfl rfl rfl (Nat.le_of_ble_eq_true rfl) rfl (c_X10_sumOfBar (j := x.toInt.toNat) h0 h1 h.st.1 h.st.2 (by omega)) ?_
    refine z_iret dX12_barLoudness_22 rfl (by decide) (by decide) ?_
    exact ⟨zAns_y (by (repeat' split) <;> omega) rfl, zFr.rf, h⟩
  · refine z_callE (As := [.int (x)]) (rest := []) (b := b + 1) (ci := 10) (v := some (.int (nI (0)))) (R2 := zR 1 0) dX12_barLoudness_5 kV_RX12_309 rfl ⟨⟨by decide, by decide⟩, by decide, by decide⟩ (by omega) h.st.cell rfl rfl rfl (Nat.le_of_ble_eq_true rfl) rfl (c_X10_hasBar_n h0 h1 h.st.1 hc1) ?_
    refine z_gets dX12_barLoudness_8 kG_RX12_130 rfl (h1.fl (i := 1) (by decide)) ?_
    refine z_callSX (As := [.int (nI (0)), .ref (ze g 1)]) (rest := []) (k := 1) (R2 := zR 1 1) dX12_barLoudness_11 kS_RX12_178 rfl rfl ⟨⟨by decide, by decide⟩, by decide, by decide⟩ rfl (Nat.le_of_ble_eq_true rfl) rfl (c_X12_raiseUnless_n (f := 1) h0 h1 (by decide) (by decide)) ?_
    exact ⟨zAns_n (by (repeat' split) <;> omega) (by decide), zFr.rf, h⟩
set_option maxRecDepth 100000 in
set_option maxHeartbeats 4000000 in
theorem c_X12_isLouderOrLonger_y {g : zGT} {w : zW} {b : Nat} {S : zSt} {Hs : List zSt} {Sn : Option zSt} {I O : List Nat} {ep fc : Int32} {j k : Nat} (h0 : zG0 g) (h1 : zST g) (h : Rx g w b S Hs Sn I O ep fc) (hj : j ≤ S.2.1.length) (hk : k ≤ S.2.1.length) (e : louder S j k) : zCt g mX12_isLouderOrLonger (zR 3 0) [.ref (za g b), .int (nI (j)), .int (nI (k))] w (fun o w' => o = .inl (some (.int (nI 1))) ∧ w' = w) := by
  have hb := h.1
  have hn := h.st.len
  have hbj := bsF_le h.st hj
  have hbk := bsF_le h.st hk
  have hm6 := h.st.mks.2.2.2.1
  refine zCt_of (by decide +kernel) h0 [(0, .ref (za g b)), (1, .int (nI (j))), (2, .int (nI (k)))] rfl (Nat.le_of_ble_eq_true rfl) ?_
  refine z_aload_n dX12_isLouderOrLonger_0 rfl ?_
  refine z_getf (j := b) dX12_isLouderOrLonger_1 kF_RX12_12 rfl (by omega) h.ce rfl ?_
  refine z_iload_n dX12_isLouderOrLonger_4 rfl ?_
  refine z_callE (As := [.int (nI (j))]) (rest := []) (b := b + 1) (ci := 10) (v := some (.int (nI (bsF S (j))))) (R2 := zR 2 0) dX12_isLouderOrLonger_5 kV_RX12_315 rfl ⟨⟨by decide, by decide⟩, by decide, by decide⟩ (by omega) h.st.cell rfl rfl rfl (Nat.le_of_ble_eq_true rfl) rfl (c_X10_sumOfBar (j := j) h0 h1 h.st.1 h.st.2 (by omega)) ?_
  refine z_istore_n (lv' := [(0, .ref (za g b)), (1, .int (nI (j))), (2, .int (nI (k))), (3, .int (nI (bsF S (j))))]) dX12_isLouderOrLonger_8 (by decide) rfl ?_
  refine z_aload_n dX12_isLouderOrLonger_9 rfl ?_
  refine z_getf (j := b) dX12_isLouderOrLonger_10 kF_RX12_12 rfl (by omega) h.ce rfl ?_
  refine z_iload_n dX12_isLouderOrLonger_13 rfl ?_
  refine z_callE (As := [.int (nI (k))]) (rest := []) (b := b + 1) (ci := 10) (v := some (.int (nI (bsF S (k))))) (R2 := zR 2 0) dX12_isLouderOrLonger_14 kV_RX12_315 rfl ⟨⟨by decide, by decide⟩, by decide, by decide⟩ (by omega) h.st.cell rfl rfl rfl (Nat.le_of_ble_eq_true rfl) rfl (c_X10_sumOfBar (j := k) h0 h1 h.st.1 h.st.2 (by omega)) ?_
  refine z_istore (lv' := [(0, .ref (za g b)), (1, .int (nI (j))), (2, .int (nI (k))), (3, .int (nI (bsF S (j)))), (4, .int (nI (bsF S (k))))]) dX12_isLouderOrLonger_17 (by decide) rfl ?_
  refine z_iload_n dX12_isLouderOrLonger_19 rfl ?_
  refine z_iload dX12_isLouderOrLonger_20 rfl ?_
  refine z_icmp_gt_n (a := bsF S (j)) (b := bsF S (k)) (tgt := 50) dX12_isLouderOrLonger_22 (by decide) (by omega) (by omega) (fun h_22_3 => ?_) (fun h_22_3 => ?_)
  · refine z_iconst (v := nI 1) dX12_isLouderOrLonger_50 rfl ?_
    refine z_goto (tgt := 55) dX12_isLouderOrLonger_51 (by decide) ?_
    refine z_zret (ty := .boolean) dX12_isLouderOrLonger_55 rfl (by decide) (by decide) rfl ?_
    first | exact ⟨rfl, rfl⟩ | (exfalso; unfold louder at e; omega)
  · refine z_iload_n dX12_isLouderOrLonger_25 rfl ?_
    refine z_iload dX12_isLouderOrLonger_26 rfl ?_
    refine z_icmp_ne_n (a := bsF S (j)) (b := bsF S (k)) (tgt := 54) dX12_isLouderOrLonger_28 (by decide) (by omega) (by omega) (fun h_28_4 => ?_) (fun h_28_4 => ?_)
    · refine z_iconst (v := nI 0) dX12_isLouderOrLonger_54 rfl ?_
      refine z_zret (ty := .boolean) dX12_isLouderOrLonger_55 rfl (by decide) (by decide) rfl ?_
      first | exact ⟨rfl, rfl⟩ | (exfalso; unfold louder at e; omega)
    · refine z_aload_n dX12_isLouderOrLonger_31 rfl ?_
      refine z_getf (j := b) dX12_isLouderOrLonger_32 kF_RX12_12 rfl (by omega) h.ce rfl ?_
      refine z_iload_n dX12_isLouderOrLonger_35 rfl ?_
      refine z_callE (As := [.int (nI (j))]) (rest := []) (b := b + 1) (ci := 10) (v := some (.int (nI (blF S (j))))) (R2 := zR 2 0) dX12_isLouderOrLonger_36 kV_RX12_312 rfl ⟨⟨by decide, by decide⟩, by decide, by decide⟩ (by omega) h.st.cell rfl rfl rfl (Nat.le_of_ble_eq_true rfl) rfl (c_X10_lengthOfBar (j := j) h0 h1 h.st.1 h.st.2 (by omega)) ?_
      refine z_aload_n dX12_isLouderOrLonger_39 rfl ?_
      refine z_getf (j := b) dX12_isLouderOrLonger_40 kF_RX12_12 rfl (by omega) h.ce rfl ?_
      refine z_iload_n dX12_isLouderOrLonger_43 rfl ?_
      refine z_callE (As := [.int (nI (k))]) (rest := [.int (nI (blF S (j)))]) (b := b + 1) (ci := 10) (v := some (.int (nI (blF S (k))))) (R2 := zR 2 0) dX12_isLouderOrLonger_44 kV_RX12_312 rfl ⟨⟨by decide, by decide⟩, by decide, by decide⟩ (by omega) h.st.cell rfl rfl rfl (Nat.le_of_ble_eq_true rfl) rfl (c_X10_lengthOfBar (j := k) h0 h1 h.st.1 h.st.2 (by omega)) ?_
      refine z_icmp_le_n (a := blF S (j)) (b := blF S (k)) (tgt := 54) dX12_isLouderOrLonger_47 (by decide) (by omega) (by omega) (fun h_47_7 => ?_) (fun h_47_7 => ?_)
      · refine z_iconst (v := nI 0) dX12_isLouderOrLonger_54 rfl ?_
        refine z_zret (ty := .boolean) dX12_isLouderOrLonger_55 rfl (by decide) (by decide) rfl ?_
        first | exact ⟨rfl, rfl⟩ | (exfalso; unfold louder at e; omega)
      · refine z_iconst (v := nI 1) dX12_isLouderOrLonger_50 rfl ?_
        refine z_goto (tgt := 55) dX12_isLouderOrLonger_51 (by decide) ?_
        refine z_zret (ty := .boolean) dX12_isLouderOrLonger_55 rfl (by decide) (by decide) rfl ?_
        first | exact ⟨rfl, rfl⟩ | (exfalso; unfold louder at e; omega)
set_option maxRecDepth 100000 in
set_option maxHeartbeats 4000000 in
theorem c_X12_isLouderOrLonger_n {g : zGT} {w : zW} {b : Nat} {S : zSt} {Hs : List zSt} {Sn : Option zSt} {I O : List Nat} {ep fc : Int32} {j k : Nat} (h0 : zG0 g) (h1 : zST g) (h : Rx g w b S Hs Sn I O ep fc) (hj : j ≤ S.2.1.length) (hk : k ≤ S.2.1.length) (e : ¬ louder S j k) : zCt g mX12_isLouderOrLonger (zR 3 0) [.ref (za g b), .int (nI (j)), .int (nI (k))] w (fun o w' => o = .inl (some (.int (nI 0))) ∧ w' = w) := by
  have hb := h.1
  have hn := h.st.len
  have hbj := bsF_le h.st hj
  have hbk := bsF_le h.st hk
  have hm6 := h.st.mks.2.2.2.1
  refine zCt_of (by decide +kernel) h0 [(0, .ref (za g b)), (1, .int (nI (j))), (2, .int (nI (k)))] rfl (Nat.le_of_ble_eq_true rfl) ?_
  refine z_aload_n dX12_isLouderOrLonger_0 rfl ?_
  refine z_getf (j := b) dX12_isLouderOrLonger_1 kF_RX12_12 rfl (by omega) h.ce rfl ?_
  refine z_iload_n dX12_isLouderOrLonger_4 rfl ?_
  refine z_callE (As := [.int (nI (j))]) (rest := []) (b := b + 1) (ci := 10) (v := some (.int (nI (bsF S (j))))) (R2 := zR 2 0) dX12_isLouderOrLonger_5 kV_RX12_315 rfl ⟨⟨by decide, by decide⟩, by decide, by decide⟩ (by omega) h.st.cell rfl rfl rfl (Nat.le_of_ble_eq_true rfl) rfl (c_X10_sumOfBar (j := j) h0 h1 h.st.1 h.st.2 (by omega)) ?_
  refine z_istore_n (lv' := [(0, .ref (za g b)), (1, .int (nI (j))), (2, .int (nI (k))), (3, .int (nI (bsF S (j))))]) dX12_isLouderOrLonger_8 (by decide) rfl ?_
  refine z_aload_n dX12_isLouderOrLonger_9 rfl ?_
  refine z_getf (j := b) dX12_isLouderOrLonger_10 kF_RX12_12 rfl (by omega) h.ce rfl ?_
  refine z_iload_n dX12_isLouderOrLonger_13 rfl ?_
  refine z_callE (As := [.int (nI (k))]) (rest := []) (b := b + 1) (ci := 10) (v := some (.int (nI (bsF S (k))))) (R2 := zR 2 0) dX12_isLouderOrLonger_14 kV_RX12_315 rfl ⟨⟨by decide, by decide⟩, by decide, by decide⟩ (by omega) h.st.cell rfl rfl rfl (Nat.le_of_ble_eq_true rfl) rfl (c_X10_sumOfBar (j := k) h0 h1 h.st.1 h.st.2 (by omega)) ?_
  refine z_istore (lv' := [(0, .ref (za g b)), (1, .int (nI (j))), (2, .int (nI (k))), (3, .int (nI (bsF S (j)))), (4, .int (nI (bsF S (k))))]) dX12_isLouderOrLonger_17 (by decide) rfl ?_
  refine z_iload_n dX12_isLouderOrLonger_19 rfl ?_
  refine z_iload dX12_isLouderOrLonger_20 rfl ?_
  refine z_icmp_gt_n (a := bsF S (j)) (b := bsF S (k)) (tgt := 50) dX12_isLouderOrLonger_22 (by decide) (by omega) (by omega) (fun h_22_3 => ?_) (fun h_22_3 => ?_)
  · refine z_iconst (v := nI 1) dX12_isLouderOrLonger_50 rfl ?_
    refine z_goto (tgt := 55) dX12_isLouderOrLonger_51 (by decide) ?_
    refine z_zret (ty := .boolean) dX12_isLouderOrLonger_55 rfl (by decide) (by decide) rfl ?_
    first | exact ⟨rfl, rfl⟩ | (exfalso; unfold louder at e; omega)
  · refine z_iload_n dX12_isLouderOrLonger_25 rfl ?_
    refine z_iload dX12_isLouderOrLonger_26 rfl ?_
    refine z_icmp_ne_n (a := bsF S (j)) (b := bsF S (k)) (tgt := 54) dX12_isLouderOrLonger_28 (by decide) (by omega) (by omega) (fun h_28_4 => ?_) (fun h_28_4 => ?_)
    · refine z_iconst (v := nI 0) dX12_isLouderOrLonger_54 rfl ?_
      refine z_zret (ty := .boolean) dX12_isLouderOrLonger_55 rfl (by decide) (by decide) rfl ?_
      first | exact ⟨rfl, rfl⟩ | (exfalso; unfold louder at e; omega)
    · refine z_aload_n dX12_isLouderOrLonger_31 rfl ?_
      refine z_getf (j := b) dX12_isLouderOrLonger_32 kF_RX12_12 rfl (by omega) h.ce rfl ?_
      refine z_iload_n dX12_isLouderOrLonger_35 rfl ?_
      refine z_callE (As := [.int (nI (j))]) (rest := []) (b := b + 1) (ci := 10) (v := some (.int (nI (blF S (j))))) (R2 := zR 2 0) dX12_isLouderOrLonger_36 kV_RX12_312 rfl ⟨⟨by decide, by decide⟩, by decide, by decide⟩ (by omega) h.st.cell rfl rfl rfl (Nat.le_of_ble_eq_true rfl) rfl (c_X10_lengthOfBar (j := j) h0 h1 h.st.1 h.st.2 (by omega)) ?_
      refine z_aload_n dX12_isLouderOrLonger_39 rfl ?_
      refine z_getf (j := b) dX12_isLouderOrLonger_40 kF_RX12_12 rfl (by omega) h.ce rfl ?_
      refine z_iload_n dX12_isLouderOrLonger_43 rfl ?_
      refine z_callE (As := [.int (nI (k))]) (rest := [.int (nI (blF S (j)))]) (b := b + 1) (ci := 10) (v := some (.int (nI (blF S (k))))) (R2 := zR 2 0) dX12_isLouderOrLonger_44 kV_RX12_312 rfl ⟨⟨by decide, by decide⟩, by decide, by decide⟩ (by omega) h.st.cell rfl rfl rfl (Nat.le_of_ble_eq_true rfl) rfl (c_X10_lengthOfBar (j := k) h0 h1 h.st.1 h.st.2 (by omega)) ?_
      refine z_icmp_le_n (a := blF S (j)) (b := blF S (k)) (tgt := 54) dX12_isLouderOrLonger_47 (by decide) (by omega) (by omega) (fun h_47_7 => ?_) (fun h_47_7 => ?_)
      · refine z_iconst (v := nI 0) dX12_isLouderOrLonger_54 rfl ?_
        refine z_zret (ty := .boolean) dX12_isLouderOrLonger_55 rfl (by decide) (by decide) rfl ?_
        first | exact ⟨rfl, rfl⟩ | (exfalso; unfold louder at e; omega)
      · refine z_iconst (v := nI 1) dX12_isLouderOrLonger_50 rfl ?_
        refine z_goto (tgt := 55) dX12_isLouderOrLonger_51 (by decide) ?_
        refine z_zret (ty := .boolean) dX12_isLouderOrLonger_55 rfl (by decide) (by decide) rfl ?_
        first | exact ⟨rfl, rfl⟩ | (exfalso; unfold louder at e; omega)
set_option maxRecDepth 100000 in
set_option maxHeartbeats 4000000 in
theorem c_X12_loudestBar {g : zGT} {w : zW} {b : Nat} {S : zSt} {Hs : List zSt} {Sn : Option zSt} {I O : List Nat} {ep fc : Int32} (h0 : zG0 g) (h1 : zST g) (h : Rx g w b S Hs Sn I O ep fc) : zCt g mX12_loudestBar (zR 4 0) [.ref (za g b)] w (fun o w' => o = .inl (some (.int (nI (loudB S S.2.1.length)))) ∧ zFr w w' b (b + 101) ∧ Rx g w' b S Hs Sn I O ep fc) := by
  have hb := h.1
  have hn := h.st.len
  have hm6 := h.st.mks.2.2.2.1
  refine zCt_of (by decide +kernel) h0 [(0, .ref (za g b))] rfl (Nat.le_of_ble_eq_true rfl) ?_
  have loop : ∀ (mm : Nat) (i x : Nat), S.2.1.length + 2 - i < mm → (1 ≤ i) → (i ≤ S.2.1.length + 1) → (x = loudB S (i - 1)) → zTr g mX12_loudestBar (zR 4 0) 0 0 4 [(0, .ref (za g b)), (1, .int (nI (x))), (2, .int (nI (i)))] [] w (fun o w' => o = .inl (some (.int (nI (loudB S S.2.1.length)))) ∧ zFr w w' b (b + 101) ∧ Rx g w' b S Hs Sn I O ep fc) := by
    intro mm
    induction mm with
    | zero => intros; omega
    | succ mm ih =>
      intro i x hm hi1 hi hx
      have hxl := loudB_le (S := S) (k := i - 1)
      rw [← hx] at hxl
      refine z_iload_n dX12_loudestBar_4 rfl ?_
      refine z_aload_n dX12_loudestBar_5 rfl ?_
      refine z_getf (j := b) dX12_loudestBar_6 kF_RX12_12 rfl (by omega) h.ce rfl ?_
      refine z_getfN (j := b + 1) dX12_loudestBar_9 kN_RX12_301 rfl (by omega) h.st.cell rfl ?_
      refine z_callE (As := []) (rest := [.int (nI (i))]) (b := b + 1 + 3) (ci := 6) (v := some (.int (nI (S.2.1.length)))) (R2 := zR 0 0) dX12_loudestBar_12 kV_RX12_305 rfl ⟨⟨by decide, by decide⟩, by decide, by decide⟩ (by omega) h.st.mks.2.1 rfl rfl rfl (Nat.le_of_ble_eq_true rfl) rfl (c_X6_count h0 h.st.mks) ?_
      refine z_icmp_gt_n (a := i) (b := S.2.1.length) (tgt := 35) dX12_loudestBar_15 (by decide) (by omega) (by omega) (fun h_15_2 => ?_) (fun h_15_2 => ?_)
      · refine z_iload_n dX12_loudestBar_35 rfl ?_
        refine z_iret dX12_loudestBar_36 rfl (by decide) (by decide) ?_
        exact ⟨by rw [hx, show i - 1 = S.2.1.length by omega], zFr.rf, h⟩
      · refine z_aload_n dX12_loudestBar_18 rfl ?_
        refine z_iload_n dX12_loudestBar_19 rfl ?_
        refine z_iload_n dX12_loudestBar_20 rfl ?_
        by_cases hc3 : louder S (i) (x)
        · refine z_callE (As := [.int (nI (i)), .int (nI (x))]) (rest := []) (b := b) (ci := 11) (v := some (.int (nI (1)))) (R2 := zR 3 0) dX12_loudestBar_21 kV_RX12_318 rfl ⟨⟨by decide, by decide⟩, by decide, by decide⟩ (by omega) h.ce rfl rfl rfl (Nat.le_of_ble_eq_true rfl) rfl (c_X12_isLouderOrLonger_y (j := i) (k := x) h0 h1 h (by omega) (by omega) hc3) ?_
          refine z_if_eq_n (a := 1) (tgt := 29) dX12_loudestBar_24 (by decide) (by omega) (fun h_24_5 => ?_) (fun h_24_5 => ?_)
          · exact absurd h_24_5 (by decide)
          · refine z_iload_n dX12_loudestBar_27 rfl ?_
            refine z_istore_n (lv' := [(0, .ref (za g b)), (1, .int (nI (i))), (2, .int (nI (i)))]) dX12_loudestBar_28 (by decide) rfl ?_
            refine z_iinc_n (n := 1) (a := i) (lv' := [(0, .ref (za g b)), (1, .int (nI (i))), (2, .int (nI (i + 1)))]) dX12_loudestBar_29 rfl (by decide) rfl ?_
            refine z_goto (tgt := 4) dX12_loudestBar_32 (by decide) ?_
            obtain ⟨i9, rfl⟩ : ∃ i9, i = i9 + 1 := ⟨i - 1, by omega⟩
            rw [Nat.add_sub_cancel] at hx
            exact ih (i9 + 1 + 1) (i9 + 1) (by omega) (by omega) (by omega) (by rw [Nat.add_sub_cancel, loudB_y (by rw [← hx]; exact hc3)])
        · refine z_callE (As := [.int (nI (i)), .int (nI (x))]) (rest := []) (b := b) (ci := 11) (v := some (.int (nI (0)))) (R2 := zR 3 0) dX12_loudestBar_21 kV_RX12_318 rfl ⟨⟨by decide, by decide⟩, by decide, by decide⟩ (by omega) h.ce rfl rfl rfl (Nat.le_of_ble_eq_true rfl) rfl (c_X12_isLouderOrLonger_n (j := i) (k := x) h0 h1 h (by omega) (by omega) hc3) ?_
          refine z_if_eq_n (a := 0) (tgt := 29) dX12_loudestBar_24 (by decide) (by omega) (fun h_24_7 => ?_) (fun h_24_7 => ?_)
          · refine z_iinc_n (n := 1) (a := i) (lv' := [(0, .ref (za g b)), (1, .int (nI (x))), (2, .int (nI (i + 1)))]) dX12_loudestBar_29 rfl (by decide) rfl ?_
            refine z_goto (tgt := 4) dX12_loudestBar_32 (by decide) ?_
            obtain ⟨i9, rfl⟩ : ∃ i9, i = i9 + 1 := ⟨i - 1, by omega⟩
            rw [Nat.add_sub_cancel] at hx
            exact ih (i9 + 1 + 1) x (by omega) (by omega) (by omega) (by rw [Nat.add_sub_cancel, loudB_n (by rw [← hx]; exact hc3), hx])
          · exact absurd h_24_7 (by decide)
  refine z_iconst (v := nI 0) dX12_loudestBar_0 rfl ?_
  refine z_istore_n (lv' := [(0, .ref (za g b)), (1, .int (nI (0)))]) dX12_loudestBar_1 (by decide) rfl ?_
  refine z_iconst (v := nI 1) dX12_loudestBar_2 rfl ?_
  refine z_istore_n (lv' := [(0, .ref (za g b)), (1, .int (nI (0))), (2, .int (nI (1)))]) dX12_loudestBar_3 (by decide) rfl ?_
  exact loop (S.2.1.length + 2) 1 0 (by omega) (Nat.le_refl _) (by omega) rfl
noncomputable def eqBarV (S : zSt) (j k : Nat) : Nat := by classical exact if eqBar S j k then 1 else 0
theorem eqBarV_y {S : zSt} {j k : Nat} (h : eqBar S j k) : eqBarV S j k = 1 := by unfold eqBarV; exact if_pos h
theorem eqBarV_n {S : zSt} {j k : Nat} (h : ¬ eqBar S j k) : eqBarV S j k = 0 := by unfold eqBarV; exact if_neg h
set_option maxRecDepth 100000 in
set_option maxHeartbeats 4000000 in
theorem c_X12_areBarsEqual {g : zGT} {w : zW} {b : Nat} {S : zSt} {Hs : List zSt} {Sn : Option zSt} {I O : List Nat} {ep fc : Int32} {x y : Int32} (h0 : zG0 g) (h1 : zST g) (h : Rx g w b S Hs Sn I O ep fc) : zCt g mX12_areBarsEqual (zR 3 1) [.ref (za g b), .int (x), .int (y)] w (fun o w' => o = zAns (if (0 ≤ x.toInt ∧ x.toInt ≤ S.2.1.length) ∧ (0 ≤ y.toInt ∧ y.toInt ≤ S.2.1.length) then 0 else 1) (some (.int (nI (eqBarV S x.toInt.toNat y.toInt.toNat)))) ∧ zFr w w' b (b + 101) ∧ Rx g w' b S Hs Sn I O ep fc) := by
  have hb := h.1
  have hn := h.st.len
  have hm6 := h.st.mks.2.2.2.1
  refine zCt_of (by decide +kernel) h0 [(0, .ref (za g b)), (1, .int (x)), (2, .int (y))] rfl (Nat.le_of_ble_eq_true rfl) ?_
  refine z_aload_n dX12_areBarsEqual_0 rfl ?_
  refine z_getf (j := b) dX12_areBarsEqual_1 kF_RX12_12 rfl (by omega) h.ce rfl ?_
  refine z_iload_n dX12_areBarsEqual_4 rfl ?_
  by_cases hc1 : 0 ≤ ((x)).toInt ∧ ((x)).toInt ≤ (S.2.1.length : Nat)
  · refine z_callE (As := [.int (x)]) (rest := []) (b := b + 1) (ci := 10) (v := some (.int (nI (1)))) (R2 := zR 1 0) dX12_areBarsEqual_5 kV_RX12_309 rfl ⟨⟨by decide, by decide⟩, by decide, by decide⟩ (by omega) h.st.cell rfl rfl rfl (Nat.le_of_ble_eq_true rfl) rfl (c_X10_hasBar_y h0 h1 h.st.1 hc1) ?_
    refine z_if_eq_n (a := 1) (tgt := 26) dX12_areBarsEqual_8 (by decide) (by omega) (fun h_8_3 => ?_) (fun h_8_3 => ?_)
    · exact absurd h_8_3 (by decide)
    · refine z_aload_n dX12_areBarsEqual_11 rfl ?_
      refine z_getf (j := b) dX12_areBarsEqual_12 kF_RX12_12 rfl (by omega) h.ce rfl ?_
      refine z_iload_n dX12_areBarsEqual_15 rfl ?_
      by_cases hc4 : 0 ≤ ((y)).toInt ∧ ((y)).toInt ≤ (S.2.1.length : Nat)
      · refine z_callE (As := [.int (y)]) (rest := []) (b := b + 1) (ci := 10) (v := some (.int (nI (1)))) (R2 := zR 1 0) dX12_areBarsEqual_16 kV_RX12_309 rfl ⟨⟨by decide, by decide⟩, by decide, by decide⟩ (by omega) h.st.cell rfl rfl rfl (Nat.le_of_ble_eq_true rfl) rfl (c_X10_hasBar_y h0 h1 h.st.1 hc4) ?_
        refine z_if_eq_n (a := 1) (tgt := 26) dX12_areBarsEqual_19 (by decide) (by omega) (fun h_19_6 => ?_) (fun h_19_6 => ?_)
        · exact absurd h_19_6 (by decide)
        · refine z_iconst (v := nI 1) dX12_areBarsEqual_22 rfl ?_
          refine z_goto (tgt := 27) dX12_areBarsEqual_23 (by decide) ?_
          refine z_gets dX12_areBarsEqual_27 kG_RX12_130 rfl (h1.fl (i := 1) (by decide)) ?_
          refine z_callSE (As := [.int (nI (1)), .ref (ze g 1)]) (rest := []) (v := none) (R2 := zR 1 1) dX12_areBarsEqual_30 kS_RX12_178 rfl rfl ⟨⟨by decide, by decide⟩, by decide, by decide⟩ rfl (Nat.le_of_ble_eq_true rfl) rfl (c_X12_raiseUnless_y h0 h1) ?_
          refine z_eq (lv' := [(0, .ref (za g b)), (1, .int (nI (x.toInt.toNat))), (2, .int (nI (y.toInt.toNat)))]) rfl rfl (by rw [← i_nat (x := x) (by omega), ← i_nat (x := y) (by omega)]) ?_
          have hbx := bsF_le h.st (j := x.toInt.toNat) (by omega)
          have hby := bsF_le h.st (j := y.toInt.toNat) (by omega)
          have hcx := h.st.2.bar (j := x.toInt.toNat) (by omega)
          have hcy := h.st.2.bar (j := y.toInt.toNat) (by omega)
          have hdx : blF S x.toInt.toNat = barB S.2.1 S.1.length x.toInt.toNat - barA S.2.1 x.toInt.toNat := rfl
          have hdy : blF S y.toInt.toNat = barB S.2.1 S.1.length y.toInt.toNat - barA S.2.1 y.toInt.toNat := rfl
          refine z_aload_n dX12_areBarsEqual_33 rfl ?_
          refine z_getf (j := b) dX12_areBarsEqual_34 kF_RX12_12 rfl (by omega) h.ce rfl ?_
          refine z_iload_n dX12_areBarsEqual_37 rfl ?_
          refine z_callE (As := [.int (nI (x.toInt.toNat))]) (rest := []) (b := b + 1) (ci := 10) (v := some (.int (nI (blF S (x.toInt.toNat))))) (R2 := zR 2 0) dX12_areBarsEqual_38 kV_RX12_312 rfl ⟨⟨by decide, by decide⟩, by decide, by decide⟩ (by omega) h.st.cell rfl rfl rfl (Nat.le_of_ble_eq_true rfl) rfl (c_X10_lengthOfBar (j := x.toInt.toNat) h0 h1 h.st.1 h.st.2 (by omega)) ?_
          refine z_istore_n (lv' := [(0, .ref (za g b)), (1, .int (nI (x.toInt.toNat))), (2, .int (nI (y.toInt.toNat))), (3, .int (nI (blF S (x.toInt.toNat))))]) dX12_areBarsEqual_41 (by decide) rfl ?_
          refine z_iload_n dX12_areBarsEqual_42 rfl ?_
          refine z_aload_n dX12_areBarsEqual_43 rfl ?_
          refine z_getf (j := b) dX12_areBarsEqual_44 kF_RX12_12 rfl (by omega) h.ce rfl ?_
          refine z_iload_n dX12_areBarsEqual_47 rfl ?_
          refine z_callE (As := [.int (nI (y.toInt.toNat))]) (rest := [.int (nI (blF S (x.toInt.toNat)))]) (b := b + 1) (ci := 10) (v := some (.int (nI (blF S (y.toInt.toNat))))) (R2 := zR 2 0) dX12_areBarsEqual_48 kV_RX12_312 rfl ⟨⟨by decide, by decide⟩, by decide, by decide⟩ (by omega) h.st.cell rfl rfl rfl (Nat.le_of_ble_eq_true rfl) rfl (c_X10_lengthOfBar (j := y.toInt.toNat) h0 h1 h.st.1 h.st.2 (by omega)) ?_
          refine z_icmp_ne_n (a := blF S (x.toInt.toNat)) (b := blF S (y.toInt.toNat)) (tgt := 88) dX12_areBarsEqual_51 (by decide) (by omega) (by omega) (fun h_51_10 => ?_) (fun h_51_10 => ?_)
          · refine z_iconst (v := nI 0) dX12_areBarsEqual_88 rfl ?_
            refine z_zret (ty := .boolean) dX12_areBarsEqual_89 rfl (by decide) (by decide) rfl ?_
            exact ⟨zAns_y (by rw [if_pos ⟨by assumption, by assumption⟩]) (by rw [eqBarV_n (fun z => h_51_10 z.1)]), zFr.rf, h⟩
          · refine z_aload_n dX12_areBarsEqual_54 rfl ?_
            refine z_getf (j := b) dX12_areBarsEqual_55 kF_RX12_12 rfl (by omega) h.ce rfl ?_
            refine z_getfN (j := b + 1) dX12_areBarsEqual_58 kN_RX12_167 rfl (by omega) h.st.cell rfl ?_
            refine z_aload_n dX12_areBarsEqual_61 rfl ?_
            refine z_getf (j := b) dX12_areBarsEqual_62 kF_RX12_12 rfl (by omega) h.ce rfl ?_
            refine z_iload_n dX12_areBarsEqual_65 rfl ?_
            refine z_callE (As := [.int (nI (x.toInt.toNat))]) (rest := [.ref (za g (b + 1 + 1))]) (b := b + 1) (ci := 10) (v := some (.int (nI (barA S.2.1 (x.toInt.toNat))))) (R2 := zR 1 0) dX12_areBarsEqual_66 kV_RX12_322 rfl ⟨⟨by decide, by decide⟩, by decide, by decide⟩ (by omega) h.st.cell rfl rfl rfl (Nat.le_of_ble_eq_true rfl) rfl (c_X10_startOfBar (j := x.toInt.toNat) h0 h1 h.st.1 (by omega)) ?_
            refine z_aload_n dX12_areBarsEqual_69 rfl ?_
            refine z_getf (j := b) dX12_areBarsEqual_70 kF_RX12_12 rfl (by omega) h.ce rfl ?_
            refine z_iload_n dX12_areBarsEqual_73 rfl ?_
            refine z_callE (As := [.int (nI (y.toInt.toNat))]) (rest := [.int (nI (barA S.2.1 (x.toInt.toNat))), .ref (za g (b + 1 + 1))]) (b := b + 1) (ci := 10) (v := some (.int (nI (barA S.2.1 (y.toInt.toNat))))) (R2 := zR 1 0) dX12_areBarsEqual_74 kV_RX12_322 rfl ⟨⟨by decide, by decide⟩, by decide, by decide⟩ (by omega) h.st.cell rfl rfl rfl (Nat.le_of_ble_eq_true rfl) rfl (c_X10_startOfBar (j := y.toInt.toNat) h0 h1 h.st.1 (by omega)) ?_
            refine z_iload_n dX12_areBarsEqual_77 rfl ?_
            by_cases hc13 : ∀ k, k < (blF S (x.toInt.toNat)) → gT S.1 ((barA S.2.1 (x.toInt.toNat)) + k) = gT S.1 ((barA S.2.1 (y.toInt.toNat)) + k)
            · refine z_callE (As := [.int (nI (barA S.2.1 (x.toInt.toNat))), .int (nI (barA S.2.1 (y.toInt.toNat))), .int (nI (blF S (x.toInt.toNat)))]) (rest := []) (b := b + 1 + 1) (ci := 5) (v := some (.int (nI (1)))) (R2 := zR 1 0) dX12_areBarsEqual_78 kV_RX12_297 rfl ⟨⟨by decide, by decide⟩, by decide, by decide⟩ (by omega) h.st.tl.cell rfl rfl rfl (Nat.le_of_ble_eq_true rfl) rfl (tc_isSame_y (p := barA S.2.1 (x.toInt.toNat)) (q := barA S.2.1 (y.toInt.toNat)) (m9 := blF S (x.toInt.toNat)) h0 h.st.tl (by omega) (by omega) hc13) ?_
              refine z_if_eq_n (a := 1) (tgt := 88) dX12_areBarsEqual_81 (by decide) (by omega) (fun h_81_15 => ?_) (fun h_81_15 => ?_)
              · exact absurd h_81_15 (by decide)
              · refine z_iconst (v := nI 1) dX12_areBarsEqual_84 rfl ?_
                refine z_goto (tgt := 89) dX12_areBarsEqual_85 (by decide) ?_
                refine z_zret (ty := .boolean) dX12_areBarsEqual_89 rfl (by decide) (by decide) rfl ?_
                exact ⟨zAns_y (by rw [if_pos ⟨by assumption, by assumption⟩]) (by rw [eqBarV_y ⟨by omega, hc13⟩]), zFr.rf, h⟩
            · refine z_callE (As := [.int (nI (barA S.2.1 (x.toInt.toNat))), .int (nI (barA S.2.1 (y.toInt.toNat))), .int (nI (blF S (x.toInt.toNat)))]) (rest := []) (b := b + 1 + 1) (ci := 5) (v := some (.int (nI (0)))) (R2 := zR 1 0) dX12_areBarsEqual_78 kV_RX12_297 rfl ⟨⟨by decide, by decide⟩, by decide, by decide⟩ (by omega) h.st.tl.cell rfl rfl rfl (Nat.le_of_ble_eq_true rfl) rfl (tc_isSame_n (p := barA S.2.1 (x.toInt.toNat)) (q := barA S.2.1 (y.toInt.toNat)) (m9 := blF S (x.toInt.toNat)) h0 h.st.tl (by omega) (by omega) hc13) ?_
              refine z_if_eq_n (a := 0) (tgt := 88) dX12_areBarsEqual_81 (by decide) (by omega) (fun h_81_17 => ?_) (fun h_81_17 => ?_)
              · refine z_iconst (v := nI 0) dX12_areBarsEqual_88 rfl ?_
                refine z_zret (ty := .boolean) dX12_areBarsEqual_89 rfl (by decide) (by decide) rfl ?_
                exact ⟨zAns_y (by rw [if_pos ⟨by assumption, by assumption⟩]) (by rw [eqBarV_n (fun z => hc13 z.2)]), zFr.rf, h⟩
              · exact absurd h_81_17 (by decide)
      · refine z_callE (As := [.int (y)]) (rest := []) (b := b + 1) (ci := 10) (v := some (.int (nI (0)))) (R2 := zR 1 0) dX12_areBarsEqual_16 kV_RX12_309 rfl ⟨⟨by decide, by decide⟩, by decide, by decide⟩ (by omega) h.st.cell rfl rfl rfl (Nat.le_of_ble_eq_true rfl) rfl (c_X10_hasBar_n h0 h1 h.st.1 hc4) ?_
        refine z_if_eq_n (a := 0) (tgt := 26) dX12_areBarsEqual_19 (by decide) (by omega) (fun h_19_19 => ?_) (fun h_19_19 => ?_)
        · refine z_iconst (v := nI 0) dX12_areBarsEqual_26 rfl ?_
          refine z_gets dX12_areBarsEqual_27 kG_RX12_130 rfl (h1.fl (i := 1) (by decide)) ?_
          refine z_callSX (As := [.int (nI (0)), .ref (ze g 1)]) (rest := []) (k := 1) (R2 := zR 1 1) dX12_areBarsEqual_30 kS_RX12_178 rfl rfl ⟨⟨by decide, by decide⟩, by decide, by decide⟩ rfl (Nat.le_of_ble_eq_true rfl) rfl (c_X12_raiseUnless_n (f := 1) h0 h1 (by decide) (by decide)) ?_
          exact ⟨zAns_n (by (repeat' split) <;> omega) (by decide), zFr.rf, h⟩
        · exact absurd h_19_19 (by decide)
  · refine z_callE (As := [.int (x)]) (rest := []) (b := b + 1) (ci := 10) (v := some (.int (nI (0)))) (R2 := zR 1 0) dX12_areBarsEqual_5 kV_RX12_309 rfl ⟨⟨by decide, by decide⟩, by decide, by decide⟩ (by omega) h.st.cell rfl rfl rfl (Nat.le_of_ble_eq_true rfl) rfl (c_X10_hasBar_n h0 h1 h.st.1 hc1) ?_
    refine z_if_eq_n (a := 0) (tgt := 26) dX12_areBarsEqual_8 (by decide) (by omega) (fun h_8_21 => ?_) (fun h_8_21 => ?_)
    · refine z_iconst (v := nI 0) dX12_areBarsEqual_26 rfl ?_
      refine z_gets dX12_areBarsEqual_27 kG_RX12_130 rfl (h1.fl (i := 1) (by decide)) ?_
      refine z_callSX (As := [.int (nI (0)), .ref (ze g 1)]) (rest := []) (k := 1) (R2 := zR 1 1) dX12_areBarsEqual_30 kS_RX12_178 rfl rfl ⟨⟨by decide, by decide⟩, by decide, by decide⟩ rfl (Nat.le_of_ble_eq_true rfl) rfl (c_X12_raiseUnless_n (f := 1) h0 h1 (by decide) (by decide)) ?_
      exact ⟨zAns_n (by (repeat' split) <;> omega) (by decide), zFr.rf, h⟩
    · exact absurd h_8_21 (by decide)
theorem lg_cmp_self {x : Int64} : lg_cmp x x = 0 := by
  unfold lg_cmp
  simp
set_option maxRecDepth 100000 in
set_option maxHeartbeats 4000000 in
theorem c_X12_doTicksAddUp {g : zGT} {w : zW} {b : Nat} {S : zSt} {Hs : List zSt} {Sn : Option zSt} {I O : List Nat} {ep fc : Int32}  (h0 : zG0 g) (h1 : zST g) (h : Rx g w b S Hs Sn I O ep fc) : zCt g mX12_doTicksAddUp (zR 4 0) [.ref (za g b)] w (fun o w' => o = .inl (some (.int (nI 1))) ∧ zFr w w' b (b + 101) ∧ Rx g w' b S Hs Sn I O ep fc) := by
  have hb := h.1
  have hn := h.st.len
  have hz := zcnt_le9 (P := fun k => decide (gT S.1 k = 0)) (p := 0) (c := S.1.length)
  refine zCt_of (by decide +kernel) h0 [(0, .ref (za g b))] rfl (Nat.le_of_ble_eq_true rfl) ?_
  refine z_aload_n dX12_doTicksAddUp_0 rfl ?_
  refine z_getf (j := b) dX12_doTicksAddUp_1 kF_RX12_12 rfl (by omega) h.ce rfl ?_
  refine z_getfN (j := b + 1) dX12_doTicksAddUp_4 kN_RX12_167 rfl (by omega) h.st.cell rfl ?_
  refine z_callE (As := []) (rest := []) (b := b + 1 + 1) (ci := 5) (v := some (.int (nI (S.1.length)))) (R2 := zR 0 0) dX12_doTicksAddUp_7 kV_RX12_170 rfl ⟨⟨by decide, by decide⟩, by decide, by decide⟩ (by omega) h.st.tl.cell rfl rfl rfl (Nat.le_of_ble_eq_true rfl) rfl (tc_size h0 h.st.tl) ?_
  refine z_aload_n dX12_doTicksAddUp_10 rfl ?_
  refine z_callR (As := []) (rest := [.int (nI (S.1.length))]) (b := b) (ci := 11) (v := some (.int (nI (zcnt (fun k => decide (gT S.1 k = 0)) 0 S.1.length)))) (R2 := zR 3 0) dX12_doTicksAddUp_11 kV_RX12_350 rfl ⟨⟨by decide, by decide⟩, by decide, by decide⟩ (by omega) h.ce rfl rfl rfl (Nat.le_of_ble_eq_true rfl) rfl (c_X12_restTicks h0 h1 h) (fun w2 pw2 => ?_)
  obtain ⟨hf3, hx4⟩ := pw2
  refine z_aload_n dX12_doTicksAddUp_14 rfl ?_
  refine z_callR (As := []) (rest := [.int (nI (zcnt (fun k => decide (gT S.1 k = 0)) 0 S.1.length)), .int (nI (S.1.length))]) (b := b) (ci := 11) (v := some (.int (nI (S.1.length - zcnt (fun k => decide (gT S.1 k = 0)) 0 S.1.length)))) (R2 := zR 3 0) dX12_doTicksAddUp_15 kV_RX12_353 rfl ⟨⟨by decide, by decide⟩, by decide, by decide⟩ (by omega) hx4.ce rfl rfl rfl (Nat.le_of_ble_eq_true rfl) rfl (c_X12_humTicks h0 h1 hx4) (fun w5 pw5 => ?_)
  obtain ⟨hf6, hx7⟩ := pw5
  refine z_iadd_n (a := zcnt (fun k => decide (gT S.1 k = 0)) 0 S.1.length) (b := S.1.length - zcnt (fun k => decide (gT S.1 k = 0)) 0 S.1.length) dX12_doTicksAddUp_18 ?_
  refine z_icmp_ne_n (a := S.1.length) (b := (zcnt (fun k => decide (gT S.1 k = 0)) 0 S.1.length) + (S.1.length - zcnt (fun k => decide (gT S.1 k = 0)) 0 S.1.length)) (tgt := 26) dX12_doTicksAddUp_19 (by decide) (by omega) (by omega) (fun h_19_8 => ?_) (fun h_19_8 => ?_)
  · exact absurd h_19_8 (by omega)
  · refine z_iconst (v := nI 1) dX12_doTicksAddUp_22 rfl ?_
    refine z_goto (tgt := 27) dX12_doTicksAddUp_23 (by decide) ?_
    refine z_zret (ty := .boolean) dX12_doTicksAddUp_27 rfl (by decide) (by decide) rfl ?_
    exact ⟨rfl, (hf3.tr hf6), hx7⟩
set_option maxRecDepth 100000 in
set_option maxHeartbeats 4000000 in
theorem c_X12_doWindowsAgree {g : zGT} {w : zW} {b : Nat} {S : zSt} {Hs : List zSt} {Sn : Option zSt} {I O : List Nat} {ep fc : Int32} (h0 : zG0 g) (h1 : zST g) (h : Rx g w b S Hs Sn I O ep fc) : zCt g mX12_doWindowsAgree (zR 3 0) [.ref (za g b)] w (fun o w' => o = .inl (some (.int (nI 1))) ∧ zFr w w' b (b + 101) ∧ Rx g w' b S Hs Sn I O ep fc) := by
  have hb := h.1
  have hn := h.st.len
  refine zCt_of (by decide +kernel) h0 [(0, .ref (za g b))] rfl (Nat.le_of_ble_eq_true rfl) ?_
  have loop : ∀ (mm : Nat) (i : Nat), 11 - i < mm → (1 ≤ i) → (i ≤ 10) → zTr g mX12_doWindowsAgree (zR 3 0) 0 0 2 [(0, .ref (za g b)), (1, .int (nI (i)))] [] w (fun o w' => o = .inl (some (.int (nI 1))) ∧ zFr w w' b (b + 101) ∧ Rx g w' b S Hs Sn I O ep fc) := by
    intro mm
    induction mm with
    | zero => intros; omega
    | succ mm ih =>
      intro i hm hi1 hi2
      refine z_iload_n dX12_doWindowsAgree_2 rfl ?_
      refine z_bipush (v := nI 9) dX12_doWindowsAgree_3 rfl ?_
      refine z_icmp_gt_n (a := i) (b := 9) (tgt := 43) dX12_doWindowsAgree_5 (by decide) (by omega) (by omega) (fun h_5_1 => ?_) (fun h_5_1 => ?_)
      · refine z_iconst (v := nI 1) dX12_doWindowsAgree_43 rfl ?_
        refine z_zret (ty := .boolean) dX12_doWindowsAgree_44 rfl (by decide) (by decide) rfl ?_
        exact ⟨rfl, zFr.rf, h⟩
      · refine z_iload_n dX12_doWindowsAgree_8 rfl ?_
        refine z_aload_n dX12_doWindowsAgree_9 rfl ?_
        refine z_getf (j := b) dX12_doWindowsAgree_10 kF_RX12_12 rfl (by omega) h.ce rfl ?_
        refine z_getfN (j := b + 1) dX12_doWindowsAgree_13 kN_RX12_167 rfl (by omega) h.st.cell rfl ?_
        refine z_callE (As := []) (rest := [.int (nI (i))]) (b := b + 1 + 1) (ci := 5) (v := some (.int (nI (S.1.length)))) (R2 := zR 0 0) dX12_doWindowsAgree_16 kV_RX12_170 rfl ⟨⟨by decide, by decide⟩, by decide, by decide⟩ (by omega) h.st.tl.cell rfl rfl rfl (Nat.le_of_ble_eq_true rfl) rfl (tc_size h0 h.st.tl) ?_
        refine z_icmp_gt_n (a := i) (b := S.1.length) (tgt := 43) dX12_doWindowsAgree_19 (by decide) (by omega) (by omega) (fun h_19_3 => ?_) (fun h_19_3 => ?_)
        · refine z_iconst (v := nI 1) dX12_doWindowsAgree_43 rfl ?_
          refine z_zret (ty := .boolean) dX12_doWindowsAgree_44 rfl (by decide) (by decide) rfl ?_
          exact ⟨rfl, zFr.rf, h⟩
        · refine z_aload_n dX12_doWindowsAgree_22 rfl ?_
          refine z_iload_n dX12_doWindowsAgree_23 rfl ?_
          refine z_callE (As := [.int (nI (i))]) (rest := []) (b := b) (ci := 11) (v := some (.int (nI (winB (gT S.1) (i) (S.1.length - (i)))))) (R2 := zR 2 0) dX12_doWindowsAgree_24 kV_RX12_269 rfl ⟨⟨by decide, by decide⟩, by decide, by decide⟩ (by omega) h.ce rfl rfl rfl (Nat.le_of_ble_eq_true rfl) rfl (c_X12_windowByMoving (L := i) h0 h1 h (by omega) (by omega)) ?_
          refine z_aload_n dX12_doWindowsAgree_27 rfl ?_
          refine z_iload_n dX12_doWindowsAgree_28 rfl ?_
          refine z_callE (As := [.int (nI (i))]) (rest := [.int (nI (winB (gT S.1) (i) (S.1.length - (i))))]) (b := b) (ci := 11) (v := some (.int (nI (winB (gT S.1) (i) (S.1.length - (i)))))) (R2 := zR 2 0) dX12_doWindowsAgree_29 kV_RX12_272 rfl ⟨⟨by decide, by decide⟩, by decide, by decide⟩ (by omega) h.ce rfl rfl rfl (Nat.le_of_ble_eq_true rfl) rfl (c_X12_windowByTrial (L := i) h0 h1 h (by omega) (by omega)) ?_
          have hwl := winB_le (T := (gT S.1)) (L := i) (k := S.1.length - i)
          refine z_icmp_eq_n (a := winB (gT S.1) (i) (S.1.length - (i))) (b := winB (gT S.1) (i) (S.1.length - (i))) (tgt := 37) dX12_doWindowsAgree_32 (by decide) (by omega) (by omega) (fun h_32_6 => ?_) (fun h_32_6 => ?_)
          · refine z_iinc_n (n := 1) (a := i) (lv' := [(0, .ref (za g b)), (1, .int (nI (i + 1)))]) dX12_doWindowsAgree_37 rfl (by decide) rfl ?_
            refine z_goto (tgt := 2) dX12_doWindowsAgree_40 (by decide) ?_
            exact ih (i + 1) (by omega) (by omega) (by omega)
          · exact absurd rfl h_32_6
  refine z_iconst (v := nI 1) dX12_doWindowsAgree_0 rfl ?_
  refine z_istore_n (lv' := [(0, .ref (za g b)), (1, .int (nI (1)))]) dX12_doWindowsAgree_1 (by decide) rfl ?_
  exact loop 11 1 (by omega) (Nat.le_refl _) (by omega)
theorem perF_le {T : Nat → Nat} {n : Nat} : perF T n ≤ n := by
  by_cases c : ∃ p, IsPer T n p
  · obtain ⟨p, hp⟩ := c
    rw [hp.eq]; exact hp.2.1
  · unfold perF; rw [dif_neg c]; exact Nat.zero_le _
set_option maxRecDepth 100000 in
set_option maxHeartbeats 4000000 in
theorem c_X12_doPeriodsAgree {g : zGT} {w : zW} {b : Nat} {S : zSt} {Hs : List zSt} {Sn : Option zSt} {I O : List Nat} {ep fc : Int32}  (h0 : zG0 g) (h1 : zST g) (h : Rx g w b S Hs Sn I O ep fc) : zCt g mX12_doPeriodsAgree (zR 4 0) [.ref (za g b)] w (fun o w' => o = .inl (some (.int (nI 1))) ∧ zFr w w' b (b + 101) ∧ Rx g w' b S Hs Sn I O ep fc) := by
  have hb := h.1
  have hn := h.st.len
  refine zCt_of (by decide +kernel) h0 [(0, .ref (za g b))] rfl (Nat.le_of_ble_eq_true rfl) ?_
  refine z_aload_n dX12_doPeriodsAgree_0 rfl ?_
  refine z_getf (j := b) dX12_doPeriodsAgree_1 kF_RX12_12 rfl (by omega) h.ce rfl ?_
  refine z_getfN (j := b + 1) dX12_doPeriodsAgree_4 kN_RX12_167 rfl (by omega) h.st.cell rfl ?_
  refine z_callE (As := []) (rest := []) (b := b + 1 + 1) (ci := 5) (v := some (.int (nI (S.1.length)))) (R2 := zR 0 0) dX12_doPeriodsAgree_7 kV_RX12_170 rfl ⟨⟨by decide, by decide⟩, by decide, by decide⟩ (by omega) h.st.tl.cell rfl rfl rfl (Nat.le_of_ble_eq_true rfl) rfl (tc_size h0 h.st.tl) ?_
  refine z_if_eq_n (a := S.1.length) (tgt := 24) dX12_doPeriodsAgree_10 (by decide) (by omega) (fun h_10_2 => ?_) (fun h_10_2 => ?_)
  · refine z_iconst (v := nI 1) dX12_doPeriodsAgree_24 rfl ?_
    refine z_goto (tgt := 29) dX12_doPeriodsAgree_25 (by decide) ?_
    refine z_zret (ty := .boolean) dX12_doPeriodsAgree_29 rfl (by decide) (by decide) rfl ?_
    exact ⟨rfl, zFr.rf, h⟩
  · refine z_aload_n dX12_doPeriodsAgree_13 rfl ?_
    refine z_callR (As := []) (rest := []) (b := b) (ci := 11) (v := some (.int (nI (perF (gT S.1) S.1.length)))) (R2 := zR 3 0) dX12_doPeriodsAgree_14 kV_RX12_278 rfl ⟨⟨by decide, by decide⟩, by decide, by decide⟩ (by omega) h.ce rfl rfl rfl (Nat.le_of_ble_eq_true rfl) rfl (c_X12_periodByFailureFunction h0 h1 h (by omega)) (fun w3 pw3 => ?_)
    obtain ⟨hf4, hx5⟩ := pw3
    refine z_aload_n dX12_doPeriodsAgree_17 rfl ?_
    refine z_callE (As := []) (rest := [.int (nI (perF (gT S.1) S.1.length))]) (b := b) (ci := 11) (v := some (.int (nI (perF (gT S.1) S.1.length)))) (R2 := zR 2 0) dX12_doPeriodsAgree_18 kV_RX12_281 rfl ⟨⟨by decide, by decide⟩, by decide, by decide⟩ (by omega) hx5.ce rfl rfl rfl (Nat.le_of_ble_eq_true rfl) rfl (c_X12_periodByTrying h0 h1 hx5 (by omega)) ?_
    have hpl : perF (gT S.1) S.1.length ≤ S.1.length := perF_le
    refine z_icmp_ne_n (a := perF (gT S.1) S.1.length) (b := perF (gT S.1) S.1.length) (tgt := 28) dX12_doPeriodsAgree_21 (by decide) (by omega) (by omega) (fun h_21_7 => ?_) (fun h_21_7 => ?_)
    · exact absurd rfl h_21_7
    · refine z_iconst (v := nI 1) dX12_doPeriodsAgree_24 rfl ?_
      refine z_goto (tgt := 29) dX12_doPeriodsAgree_25 (by decide) ?_
      refine z_zret (ty := .boolean) dX12_doPeriodsAgree_29 rfl (by decide) (by decide) rfl ?_
      exact ⟨rfl, hf4, hx5⟩
set_option maxRecDepth 100000 in
set_option maxHeartbeats 4000000 in
theorem c_X12_isConsistent {g : zGT} {w : zW} {b : Nat} {S : zSt} {Hs : List zSt} {Sn : Option zSt} {I O : List Nat} {ep fc : Int32}  (h0 : zG0 g) (h1 : zST g) (h : Rx g w b S Hs Sn I O ep fc) : zCt g mX12_isConsistent (zR 5 0) [.ref (za g b)] w (fun o w' => o = .inl (some (.int (nI 1))) ∧ zFr w w' b (b + 101) ∧ Rx g w' b S Hs Sn I O ep fc) := by
  have hb := h.1
  have hn := h.st.len
  refine zCt_of (by decide +kernel) h0 [(0, .ref (za g b))] rfl (Nat.le_of_ble_eq_true rfl) ?_
  refine z_aload_n dX12_isConsistent_0 rfl ?_
  refine z_callR (As := []) (rest := []) (b := b) (ci := 11) (v := some (.int (nI (1)))) (R2 := zR 4 0) dX12_isConsistent_1 kV_RX12_331 rfl ⟨⟨by decide, by decide⟩, by decide, by decide⟩ (by omega) h.ce rfl rfl rfl (Nat.le_of_ble_eq_true rfl) rfl (c_X12_doTicksAddUp h0 h1 h) (fun w1 pw1 => ?_)
  obtain ⟨hf2, hx3⟩ := pw1
  refine z_if_eq_n (a := 1) (tgt := 47) dX12_isConsistent_4 (by decide) (by omega) (fun h_4_4 => ?_) (fun h_4_4 => ?_)
  · exact absurd h_4_4 (by decide)
  · refine z_aload_n dX12_isConsistent_7 rfl ?_
    refine z_callR (As := []) (rest := []) (b := b) (ci := 11) (v := some (.long (lN (tsum (gT S.1) 0 S.1.length)))) (R2 := zR 3 0) dX12_isConsistent_8 kV_RX12_335 rfl ⟨⟨by decide, by decide⟩, by decide, by decide⟩ (by omega) hx3.ce rfl rfl rfl (Nat.le_of_ble_eq_true rfl) rfl (c_X12_loudness h0 h1 hx3) (fun w5 pw5 => ?_)
    obtain ⟨hf6, hx7⟩ := pw5
    refine z_aload_n dX12_isConsistent_11 rfl ?_
    refine z_callR (As := []) (rest := [.long (lN (tsum (gT S.1) 0 S.1.length))]) (b := b) (ci := 11) (v := some (.long (lN (tsum (gT S.1) 0 S.1.length)))) (R2 := zR 2 0) dX12_isConsistent_12 kV_RX12_338 rfl ⟨⟨by decide, by decide⟩, by decide, by decide⟩ (by omega) hx7.ce rfl rfl rfl (Nat.le_of_ble_eq_true rfl) rfl (c_X12_loudnessByLevels h0 h1 hx7) (fun w8 pw8 => ?_)
    obtain ⟨hf9, hx10⟩ := pw8
    refine z_lcmp dX12_isConsistent_15 ?_
    refine z_eq (st' := [.int (nI (0))]) rfl (by rw [lg_cmp_self]; rfl) rfl ?_
    refine z_if_ne_n (a := 0) (tgt := 47) dX12_isConsistent_16 (by decide) (by omega) (fun h_16_11 => ?_) (fun h_16_11 => ?_)
    · exact absurd h_16_11 (by decide)
    · refine z_aload_n dX12_isConsistent_19 rfl ?_
      refine z_callR (As := []) (rest := []) (b := b) (ci := 11) (v := some (.int (nI (1)))) (R2 := zR 3 0) dX12_isConsistent_20 kV_RX12_341 rfl ⟨⟨by decide, by decide⟩, by decide, by decide⟩ (by omega) hx10.ce rfl rfl rfl (Nat.le_of_ble_eq_true rfl) rfl (c_X12_doWindowsAgree h0 h1 hx10) (fun w12 pw12 => ?_)
      obtain ⟨hf13, hx14⟩ := pw12
      refine z_if_eq_n (a := 1) (tgt := 47) dX12_isConsistent_23 (by decide) (by omega) (fun h_23_15 => ?_) (fun h_23_15 => ?_)
      · exact absurd h_23_15 (by decide)
      · refine z_aload_n dX12_isConsistent_26 rfl ?_
        refine z_callR (As := []) (rest := []) (b := b) (ci := 11) (v := some (.int (nI (1)))) (R2 := zR 4 0) dX12_isConsistent_27 kV_RX12_344 rfl ⟨⟨by decide, by decide⟩, by decide, by decide⟩ (by omega) hx14.ce rfl rfl rfl (Nat.le_of_ble_eq_true rfl) rfl (c_X12_doPeriodsAgree h0 h1 hx14) (fun w16 pw16 => ?_)
        obtain ⟨hf17, hx18⟩ := pw16
        refine z_if_eq_n (a := 1) (tgt := 47) dX12_isConsistent_30 (by decide) (by omega) (fun h_30_19 => ?_) (fun h_30_19 => ?_)
        · exact absurd h_30_19 (by decide)
        · refine z_aload_n dX12_isConsistent_33 rfl ?_
          refine z_callR (As := []) (rest := []) (b := b) (ci := 11) (v := some (.ref (za g (b + 80)))) (R2 := zR 2 0) dX12_isConsistent_34 kV_RX12_186 rfl ⟨⟨by decide, by decide⟩, by decide, by decide⟩ (by omega) hx18.ce rfl rfl rfl (Nat.le_of_ble_eq_true rfl) rfl (c_X12_currentRuns h0 h1 hx18) (fun w20 pw20 => ?_)
          obtain ⟨hf21, hx21, m21, s21, l21, v21, hR21, hI21⟩ := pw20
          have hm21 := hR21.2.2.1
          refine z_callE (As := []) (rest := []) (b := b + 80) (ci := 8) (v := some (.int (nI (1)))) (R2 := zR 1 0) dX12_isConsistent_37 kV_RX12_347 rfl ⟨⟨by decide, by decide⟩, by decide, by decide⟩ (by omega) hR21.2.1 rfl rfl rfl (Nat.le_of_ble_eq_true rfl) rfl (c_X8_areMaximal h0 hR21 hI21.2.2.2.2.2.2.2) ?_
          refine z_if_eq_n (a := 1) (tgt := 47) dX12_isConsistent_40 (by decide) (by omega) (fun h_40_23 => ?_) (fun h_40_23 => ?_)
          · exact absurd h_40_23 (by decide)
          · refine z_iconst (v := nI 1) dX12_isConsistent_43 rfl ?_
            refine z_goto (tgt := 48) dX12_isConsistent_44 (by decide) ?_
            refine z_zret (ty := .boolean) dX12_isConsistent_48 rfl (by decide) (by decide) rfl ?_
            exact ⟨rfl, (((((hf2.tr hf6).tr hf9).tr hf13).tr hf17).tr hf21), hx21⟩
