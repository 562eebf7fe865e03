/-! RailTimeline: what is asked of ticks and runs -/
theorem fidx_rng (P : Nat → Bool) (m : Nat) : -1 ≤ fidx P m ∧ fidx P m < m + 1 := by
  rcases fidx_cases P m with ⟨e, -⟩ | ⟨i, hi, e, -⟩ <;> rw [e] <;> omega
section TR
variable {g : zGT} {w : zW} {b n m : Nat} {T s l v : Nat → Nat}
theorem t_rank {t : Int32} (h0 : zG0 g) (hR : Rn g w b m s l v) (hI : IsR T n m s l v) : zCt g mX8_restOfRank (zR 3 0) [.ref (za g b), .int t] w (fun o w' => w' = w ∧ ((o = .inl (some (.int (-1))) ∧ spRank T n t.toInt = -1) ∨ ∃ r, r < m ∧ o = .inl (some (.int (nI r))) ∧ spRank T n t.toInt = (s r : Int))) := by
  refine zCt_mono (c_X8_restOfRank (t := t) h0 hR) (fun o w' h => ⟨h.2, ?_⟩)
  have hm := hR.2.2.1
  rcases hI.first (P := fun r => decide (v r = 0 ∧ ((nsum (rbF l v r) m : Nat) : Int) = t.toInt)) (Q := fun k => rsB T k && decide ((rkF T n k : Int) = t.toInt)) (fun r hr => by
      rw [← hI.rank hr]; unfold rsB; rw [hI.st hr, hI.lev hr]; by_cases c : v r = 0 <;> simp [c]) (fun k hk c => by unfold rsB; rw [c]; rfl) with ⟨e, e2⟩ | ⟨r, hr, e, e2⟩
  · exact Or.inl ⟨by rw [h.1, e]; rfl, e2⟩
  · exact Or.inr ⟨r, hr, by rw [h.1, e]; rfl, e2⟩
theorem t_after {t : Nat} (h0 : zG0 g) (hR : Rn g w b m s l v) (hI : IsR T n m s l v) (ht : t < 2 ^ 31) : zCt g mX8_firstAfter (zR 1 0) [.ref (za g b), .int (nI t)] w (fun o w' => w' = w ∧ ((o = .inl (some (.int (-1))) ∧ spNext T n t = -1) ∨ ∃ r, r < m ∧ o = .inl (some (.int (nI r))) ∧ spNext T n t = (s r : Int))) := by
  refine zCt_mono (c_X8_firstAfter (t := t) h0 hR ht) (fun o w' h => ⟨h.2, ?_⟩)
  rcases hI.first (P := fun r => decide (t < s r)) (Q := fun k => stB T k && decide (t < k)) (fun r hr => by rw [hI.st hr]; rfl) (fun k hk c => by rw [c]; rfl) with ⟨e, e2⟩ | ⟨r, hr, e, e2⟩
  · exact Or.inl ⟨by rw [h.1, e]; rfl, e2⟩
  · exact Or.inr ⟨r, hr, by rw [h.1, e]; rfl, e2⟩
theorem t_with {x : Nat} {q : Int32} (h0 : zG0 g) (hR : Rn g w b m s l v) (hI : IsR T n m s l v) (hx : x ≤ 9) : zCt g mX8_firstWith (zR 1 0) [.ref (za g b), .int (nI x), .int q] w (fun o w' => w' = w ∧ ((o = .inl (some (.int (-1))) ∧ spFind T n x q.toInt = -1) ∨ ∃ r, r < m ∧ o = .inl (some (.int (nI r))) ∧ spFind T n x q.toInt = (s r : Int))) := by
  refine zCt_mono (c_X8_firstWith (x := x) (q := q) h0 hR hx) (fun o w' h => ⟨h.2, ?_⟩)
  rcases hI.first (P := fun r => decide (v r = x ∧ q.toInt ≤ l r)) (Q := fun k => stB T k && (decide (T k = x) && decide (q.toInt ≤ lenF T n k))) (fun r hr => by rw [hI.st hr, hI.lev hr, hI.lenR hr]; simp) (fun k hk c => by rw [c]; rfl) with ⟨e, e2⟩ | ⟨r, hr, e, e2⟩
  · exact Or.inl ⟨by rw [h.1, e]; rfl, e2⟩
  · exact Or.inr ⟨r, hr, by rw [h.1, e]; rfl, e2⟩
end TR
theorem IsR.startIn {T : Nat → Nat} {n m : Nat} {s l v : Nat → Nat} (h : IsR T n m s l v) {x : Int} (hx : 0 ≤ x ∧ x < m) : spStart T n x = (s x.toNat : Int) := by rw [h.start, if_pos hx]
theorem IsR.startOut {T : Nat → Nat} {n m : Nat} {s l v : Nat → Nat} (h : IsR T n m s l v) {x : Int} (hx : ¬ (0 ≤ x ∧ x < m)) : spStart T n x = -1 := by rw [h.start, if_neg hx]
set_option maxRecDepth 100000 in
set_option maxHeartbeats 4000000 in
theorem c_X12_duration {g : zGT} {w : zW} {b : Nat} {S : zSt} {Hs : List zSt} {Sn : Option zSt} {I O : List Nat} {ep fc : Int32}  (h0 : zG0 g) (h1 : zST g) (h : Rx g w b S Hs Sn I O ep fc) : zCt g mX12_duration (zR 1 0) [.ref (za g b)] w (fun o w' => o = .inl (some (.int (nI S.1.length))) ∧ zFr w w' b (b + 101) ∧ Rx g w' b S Hs Sn I O ep fc) := by
  have hb := h.1
  have hn := h.st.len
  refine zCt_of (by decide +kernel) h0 [(0, .ref (za g b))] rfl (Nat.le_of_ble_eq_true rfl) ?_
  refine z_aload_n dX12_duration_0 rfl ?_
  refine z_getf (j := b) dX12_duration_1 kF_RX12_12 rfl (by omega) h.ce rfl ?_
  refine z_getfN (j := b + 1) dX12_duration_4 kN_RX12_167 rfl (by omega) h.st.cell rfl ?_
  refine z_callE (As := []) (rest := []) (b := b + 1 + 1) (ci := 5) (v := some (.int (nI (S.1.length)))) (R2 := zR 0 0) dX12_duration_7 kV_RX12_170 rfl ⟨⟨by decide, by decide⟩, by decide, by decide⟩ (by omega) h.st.tl.cell rfl rfl rfl (Nat.le_of_ble_eq_true rfl) rfl (tc_size h0 h.st.tl) ?_
  refine z_iret dX12_duration_10 rfl (by decide) (by decide) ?_
  exact ⟨rfl, zFr.rf, h⟩
set_option maxRecDepth 100000 in
set_option maxHeartbeats 4000000 in
theorem c_X12_levelAt {g : zGT} {w : zW} {b : Nat} {S : zSt} {Hs : List zSt} {Sn : Option zSt} {I O : List Nat} {ep fc : Int32} {x : Int32} (h0 : zG0 g) (h1 : zST g) (h : Rx g w b S Hs Sn I O ep fc) : zCt g mX12_levelAt (zR 2 1) [.ref (za g b), .int (x)] w (fun o w' => o = zAns (if 0 ≤ x.toInt ∧ x.toInt < S.1.length then 0 else 1) (some (.int (nI (gT S.1 x.toInt.toNat)))) ∧ zFr w w' b (b + 101) ∧ Rx g w' b S Hs Sn I O ep fc) := by
  have hb := h.1
  have hn := h.st.len
  refine zCt_of (by decide +kernel) h0 [(0, .ref (za g b)), (1, .int (x))] rfl (Nat.le_of_ble_eq_true rfl) ?_
  refine z_aload_n dX12_levelAt_0 rfl ?_
  refine z_getf (j := b) dX12_levelAt_1 kF_RX12_12 rfl (by omega) h.ce rfl ?_
  refine z_getfN (j := b + 1) dX12_levelAt_4 kN_RX12_167 rfl (by omega) h.st.cell rfl ?_
  refine z_iload_n dX12_levelAt_7 rfl ?_
  by_cases hc1 : 0 ≤ ((x)).toInt ∧ ((x)).toInt < (S.1.length : Nat)
  · refine z_callE (As := [.int (x)]) (rest := []) (b := b + 1 + 1) (ci := 5) (v := some (.int (nI (1)))) (R2 := zR 0 0) dX12_levelAt_8 kV_RX12_174 rfl ⟨⟨by decide, by decide⟩, by decide, by decide⟩ (by omega) h.st.tl.cell rfl rfl rfl (Nat.le_of_ble_eq_true rfl) rfl (tc_hasTick_y h0 h.st.tl hc1) ?_
    refine z_gets dX12_levelAt_11 kG_RX12_130 rfl (h1.fl (i := 1) (by decide)) ?_
    refine z_callSE (As := [.int (nI (1)), .ref (ze g 1)]) (rest := []) (v := none) (R2 := zR 1 1) dX12_levelAt_14 kS_RX12_178 rfl rfl ⟨⟨by decide, by decide⟩, by decide, by decide⟩ rfl (Nat.le_of_ble_eq_true rfl) rfl (c_X12_raiseUnless_y h0 h1) ?_
    refine z_eq (lv' := [(0, .ref (za g b)), (1, .int (nI (x.toInt.toNat)))]) rfl rfl (by rw [← i_nat (x := x) (by omega)]) ?_
    refine z_aload_n dX12_levelAt_17 rfl ?_
    refine z_getf (j := b) dX12_levelAt_18 kF_RX12_12 rfl (by omega) h.ce rfl ?_
    refine z_getfN (j := b + 1) dX12_levelAt_21 kN_RX12_167 rfl (by omega) h.st.cell rfl ?_
    refine z_iload_n dX12_levelAt_24 rfl ?_
    refine z_callE (As := [.int (nI (x.toInt.toNat))]) (rest := []) (b := b + 1 + 1) (ci := 5) (v := some (.int (nI (gT S.1 (x.toInt.toNat))))) (R2 := zR 0 0) dX12_levelAt_25 kV_RX12_182 rfl ⟨⟨by decide, by decide⟩, by decide, by decide⟩ (by omega) h.st.tl.cell rfl rfl rfl (Nat.le_of_ble_eq_true rfl) rfl (tc_at (t := x.toInt.toNat) h0 h.st.tl (by omega)) ?_
    refine z_iret dX12_levelAt_28 rfl (by decide) (by decide) ?_
    exact ⟨zAns_y (by (repeat' split) <;> omega) rfl, zFr.rf, h⟩
  · refine z_callE (As := [.int (x)]) (rest := []) (b := b + 1 + 1) (ci := 5) (v := some (.int (nI (0)))) (R2 := zR 0 0) dX12_levelAt_8 kV_RX12_174 rfl ⟨⟨by decide, by decide⟩, by decide, by decide⟩ (by omega) h.st.tl.cell rfl rfl rfl (Nat.le_of_ble_eq_true rfl) rfl (tc_hasTick_n h0 h.st.tl hc1) ?_
    refine z_gets dX12_levelAt_11 kG_RX12_130 rfl (h1.fl (i := 1) (by decide)) ?_
    refine z_callSX (As := [.int (nI (0)), .ref (ze g 1)]) (rest := []) (k := 1) (R2 := zR 1 1) dX12_levelAt_14 kS_RX12_178 rfl rfl ⟨⟨by decide, by decide⟩, by decide, by decide⟩ rfl (Nat.le_of_ble_eq_true rfl) rfl (c_X12_raiseUnless_n (f := 1) h0 h1 (by decide) (by decide)) ?_
    exact ⟨zAns_n (by (repeat' split) <;> omega) (by decide), zFr.rf, h⟩
set_option maxRecDepth 100000 in
set_option maxHeartbeats 4000000 in
theorem c_X12_currentRuns {g : zGT} {w : zW} {b : Nat} {S : zSt} {Hs : List zSt} {Sn : Option zSt} {I O : List Nat} {ep fc : Int32} (h0 : zG0 g) (h1 : zST g) (h : Rx g w b S Hs Sn I O ep fc) : zCt g mX12_currentRuns (zR 2 0) [.ref (za g b)] w (fun o w' => o = .inl (some (.ref (za g (b + 80)))) ∧ zFr w w' b (b + 101) ∧ Rx g w' b S Hs Sn I O ep fc ∧ ∃ m s l v, Rn g w' (b + 80) m s l v ∧ IsR (gT S.1) S.1.length m s l v) := by
  have hb := h.1
  have hn := h.st.len
  refine zCt_of (by decide +kernel) h0 [(0, .ref (za g b))] rfl (Nat.le_of_ble_eq_true rfl) ?_
  refine z_aload_n dX12_currentRuns_0 rfl ?_
  refine z_getf (j := b) dX12_currentRuns_1 kF_RX12_32 rfl (by omega) h.ce rfl ?_
  refine z_aload_n dX12_currentRuns_4 rfl ?_
  refine z_getf (j := b) dX12_currentRuns_5 kF_RX12_12 rfl (by omega) h.ce rfl ?_
  refine z_getfN (j := b + 1) dX12_currentRuns_8 kN_RX12_167 rfl (by omega) h.st.cell rfl ?_
  obtain ⟨m0, s0, l0, v0, hrn0⟩ := h.rn
  refine z_callR (As := [.ref (za g (b + 1 + 1))]) (rest := []) (b := b + 80) (ci := 8) (v := none) (R2 := zR 1 0) dX12_currentRuns_11 kV_RX12_206 rfl ⟨⟨by decide, by decide⟩, by decide, by decide⟩ (by omega) hrn0.2.1 rfl rfl rfl (Nat.le_of_ble_eq_true rfl) rfl (c_X8_readFrom h0 hrn0 h.st.tl (by omega)) (fun w1 pw1 => ?_)
  obtain ⟨hf1, m, s, l, v, hRn, hIs⟩ := pw1
  have hx2 := h.setRn hf1 hRn
  refine z_aload_n dX12_currentRuns_14 rfl ?_
  refine z_getf (j := b) dX12_currentRuns_15 kF_RX12_32 rfl (by omega) hx2.ce rfl ?_
  refine z_aret dX12_currentRuns_18 rfl (by decide) (by decide) (Or.inl ⟨_, rfl⟩) (Or.inr ⟨_, rfl⟩) ?_
  exact ⟨rfl, (hf1.wk (by omega) (by omega)), hx2, m, s, l, v, hRn, hIs⟩
set_option maxRecDepth 100000 in
set_option maxHeartbeats 4000000 in
theorem c_X12_runCount {g : zGT} {w : zW} {b : Nat} {S : zSt} {Hs : List zSt} {Sn : Option zSt} {I O : List Nat} {ep fc : Int32}  (h0 : zG0 g) (h1 : zST g) (h : Rx g w b S Hs Sn I O ep fc) : zCt g mX12_runCount (zR 3 0) [.ref (za g b)] w (fun o w' => o = .inl (some (.int (nI (cS (gT S.1) S.1.length)))) ∧ zFr w w' b (b + 101) ∧ Rx g w' b S Hs Sn I O ep fc) := by
  have hb := h.1
  have hn := h.st.len
  refine zCt_of (by decide +kernel) h0 [(0, .ref (za g b))] rfl (Nat.le_of_ble_eq_true rfl) ?_
  refine z_aload_n dX12_runCount_0 rfl ?_
  refine z_callR (As := []) (rest := []) (b := b) (ci := 11) (v := some (.ref (za g (b + 80)))) (R2 := zR 2 0) dX12_runCount_1 kV_RX12_186 rfl ⟨⟨by decide, by decide⟩, by decide, by decide⟩ (by omega) h.ce rfl rfl rfl (Nat.le_of_ble_eq_true rfl) rfl (c_X12_currentRuns h0 h1 h) (fun w1 pw1 => ?_)
  obtain ⟨hf2, hx2, m2, s2, l2, v2, hR2, hI2⟩ := pw1
  have hm2 := hR2.2.2.1
  refine z_callE (As := []) (rest := []) (b := b + 80) (ci := 8) (v := some (.int (nI (m2)))) (R2 := zR 0 0) dX12_runCount_4 kV_RX12_190 rfl ⟨⟨by decide, by decide⟩, by decide, by decide⟩ (by omega) hR2.2.1 rfl rfl rfl (Nat.le_of_ble_eq_true rfl) rfl (c_X8_count h0 hR2) ?_
  refine z_iret dX12_runCount_7 rfl (by decide) (by decide) ?_
  exact ⟨by rw [hI2.cS_n], hf2, hx2⟩
set_option maxRecDepth 100000 in
set_option maxHeartbeats 4000000 in
theorem c_X12_restTicks {g : zGT} {w : zW} {b : Nat} {S : zSt} {Hs : List zSt} {Sn : Option zSt} {I O : List Nat} {ep fc : Int32}  (h0 : zG0 g) (h1 : zST g) (h : Rx g w b S Hs Sn I O ep fc) : zCt g mX12_restTicks (zR 3 0) [.ref (za g b)] w (fun o w' => o = .inl (some (.int (nI (zcnt (fun k => decide (gT S.1 k = 0)) 0 S.1.length)))) ∧ zFr w w' b (b + 101) ∧ Rx g w' b S Hs Sn I O ep fc) := by
  have hb := h.1
  have hn := h.st.len
  refine zCt_of (by decide +kernel) h0 [(0, .ref (za g b))] rfl (Nat.le_of_ble_eq_true rfl) ?_
  refine z_aload_n dX12_restTicks_0 rfl ?_
  refine z_callR (As := []) (rest := []) (b := b) (ci := 11) (v := some (.ref (za g (b + 80)))) (R2 := zR 2 0) dX12_restTicks_1 kV_RX12_186 rfl ⟨⟨by decide, by decide⟩, by decide, by decide⟩ (by omega) h.ce rfl rfl rfl (Nat.le_of_ble_eq_true rfl) rfl (c_X12_currentRuns h0 h1 h) (fun w1 pw1 => ?_)
  obtain ⟨hf2, hx2, m2, s2, l2, v2, hR2, hI2⟩ := pw1
  have hm2 := hR2.2.2.1
  refine z_callE (As := []) (rest := []) (b := b + 80) (ci := 8) (v := some (.int (nI (nsum (fun r => if v2 r = 0 then l2 r else 0) m2)))) (R2 := zR 2 0) dX12_restTicks_4 kV_RX12_213 rfl ⟨⟨by decide, by decide⟩, by decide, by decide⟩ (by omega) hR2.2.1 rfl rfl rfl (Nat.le_of_ble_eq_true rfl) rfl (c_X8_ticksOfRests h0 hR2) ?_
  refine z_iret dX12_restTicks_7 rfl (by decide) (by decide) ?_
  exact ⟨by rw [hI2.rests], hf2, hx2⟩
set_option maxRecDepth 100000 in
set_option maxHeartbeats 4000000 in
theorem c_X12_humTicks {g : zGT} {w : zW} {b : Nat} {S : zSt} {Hs : List zSt} {Sn : Option zSt} {I O : List Nat} {ep fc : Int32}  (h0 : zG0 g) (h1 : zST g) (h : Rx g w b S Hs Sn I O ep fc) : zCt g mX12_humTicks (zR 3 0) [.ref (za g b)] w (fun o w' => o = .inl (some (.int (nI (S.1.length - zcnt (fun k => decide (gT S.1 k = 0)) 0 S.1.length)))) ∧ zFr w w' b (b + 101) ∧ Rx g w' b S Hs Sn I O ep fc) := by
  have hb := h.1
  have hn := h.st.len
  refine zCt_of (by decide +kernel) h0 [(0, .ref (za g b))] rfl (Nat.le_of_ble_eq_true rfl) ?_
  refine z_aload_n dX12_humTicks_0 rfl ?_
  refine z_callR (As := []) (rest := []) (b := b) (ci := 11) (v := some (.ref (za g (b + 80)))) (R2 := zR 2 0) dX12_humTicks_1 kV_RX12_186 rfl ⟨⟨by decide, by decide⟩, by decide, by decide⟩ (by omega) h.ce rfl rfl rfl (Nat.le_of_ble_eq_true rfl) rfl (c_X12_currentRuns h0 h1 h) (fun w1 pw1 => ?_)
  obtain ⟨hf2, hx2, m2, s2, l2, v2, hR2, hI2⟩ := pw1
  have hm2 := hR2.2.2.1
  refine z_callE (As := []) (rest := []) (b := b + 80) (ci := 8) (v := some (.int (nI (nsum (fun r => if v2 r = 0 then 0 else l2 r) m2)))) (R2 := zR 2 0) dX12_humTicks_4 kV_RX12_216 rfl ⟨⟨by decide, by decide⟩, by decide, by decide⟩ (by omega) hR2.2.1 rfl rfl rfl (Nat.le_of_ble_eq_true rfl) rfl (c_X8_ticksOfHums h0 hR2) ?_
  refine z_iret dX12_humTicks_7 rfl (by decide) (by decide) ?_
  exact ⟨by rw [hI2.hums], hf2, hx2⟩
set_option maxRecDepth 100000 in
set_option maxHeartbeats 4000000 in
theorem c_X12_restCount {g : zGT} {w : zW} {b : Nat} {S : zSt} {Hs : List zSt} {Sn : Option zSt} {I O : List Nat} {ep fc : Int32}  (h0 : zG0 g) (h1 : zST g) (h : Rx g w b S Hs Sn I O ep fc) : zCt g mX12_restCount (zR 3 0) [.ref (za g b)] w (fun o w' => o = .inl (some (.int (nI (zcnt (rsB (gT S.1)) 0 S.1.length)))) ∧ zFr w w' b (b + 101) ∧ Rx g w' b S Hs Sn I O ep fc) := by
  have hb := h.1
  have hn := h.st.len
  refine zCt_of (by decide +kernel) h0 [(0, .ref (za g b))] rfl (Nat.le_of_ble_eq_true rfl) ?_
  refine z_aload_n dX12_restCount_0 rfl ?_
  refine z_callR (As := []) (rest := []) (b := b) (ci := 11) (v := some (.ref (za g (b + 80)))) (R2 := zR 2 0) dX12_restCount_1 kV_RX12_186 rfl ⟨⟨by decide, by decide⟩, by decide, by decide⟩ (by omega) h.ce rfl rfl rfl (Nat.le_of_ble_eq_true rfl) rfl (c_X12_currentRuns h0 h1 h) (fun w1 pw1 => ?_)
  obtain ⟨hf2, hx2, m2, s2, l2, v2, hR2, hI2⟩ := pw1
  have hm2 := hR2.2.2.1
  refine z_callE (As := []) (rest := []) (b := b + 80) (ci := 8) (v := some (.int (nI (nsum (fun r => if v2 r = 0 then 1 else 0) m2)))) (R2 := zR 2 0) dX12_restCount_4 kV_RX12_245 rfl ⟨⟨by decide, by decide⟩, by decide, by decide⟩ (by omega) hR2.2.1 rfl rfl rfl (Nat.le_of_ble_eq_true rfl) rfl (c_X8_countOfRests h0 hR2) ?_
  refine z_iret dX12_restCount_7 rfl (by decide) (by decide) ?_
  exact ⟨by rw [hI2.rsts], hf2, hx2⟩
set_option maxRecDepth 100000 in
set_option maxHeartbeats 4000000 in
theorem c_X12_loudness {g : zGT} {w : zW} {b : Nat} {S : zSt} {Hs : List zSt} {Sn : Option zSt} {I O : List Nat} {ep fc : Int32}  (h0 : zG0 g) (h1 : zST g) (h : Rx g w b S Hs Sn I O ep fc) : zCt g mX12_loudness (zR 3 0) [.ref (za g b)] w (fun o w' => o = .inl (some (.long (lN (tsum (gT S.1) 0 S.1.length)))) ∧ zFr w w' b (b + 101) ∧ Rx g w' b S Hs Sn I O ep fc) := by
  have hb := h.1
  have hn := h.st.len
  refine zCt_of (by decide +kernel) h0 [(0, .ref (za g b))] rfl (Nat.le_of_ble_eq_true rfl) ?_
  refine z_aload_n dX12_loudness_0 rfl ?_
  refine z_callR (As := []) (rest := []) (b := b) (ci := 11) (v := some (.ref (za g (b + 80)))) (R2 := zR 2 0) dX12_loudness_1 kV_RX12_186 rfl ⟨⟨by decide, by decide⟩, by decide, by decide⟩ (by omega) h.ce rfl rfl rfl (Nat.le_of_ble_eq_true rfl) rfl (c_X12_currentRuns h0 h1 h) (fun w1 pw1 => ?_)
  obtain ⟨hf2, hx2, m2, s2, l2, v2, hR2, hI2⟩ := pw1
  have hm2 := hR2.2.2.1
  refine z_callE (As := []) (rest := []) (b := b + 80) (ci := 8) (v := some (.long (lN (nsum (fun r => v2 r * l2 r) m2)))) (R2 := zR 2 0) dX12_loudness_4 kV_RX12_225 rfl ⟨⟨by decide, by decide⟩, by decide, by decide⟩ (by omega) hR2.2.1 rfl rfl rfl (Nat.le_of_ble_eq_true rfl) rfl (c_X8_sumOfLevels h0 hR2) ?_
  refine z_lret dX12_loudness_7 rfl (by decide) (by decide) ?_
  exact ⟨by rw [hI2.loud], hf2, hx2⟩
set_option maxRecDepth 100000 in
set_option maxHeartbeats 4000000 in
theorem c_X12_runsWith {g : zGT} {w : zW} {b : Nat} {S : zSt} {Hs : List zSt} {Sn : Option zSt} {I O : List Nat} {ep fc : Int32} {x : Int32} (h0 : zG0 g) (h1 : zST g) (h : Rx g w b S Hs Sn I O ep fc) : zCt g mX12_runsWith (zR 3 1) [.ref (za g b), .int (x)] w (fun o w' => o = zAns (if spStart (gT S.1) S.1.length x.toInt < 0 then 1 else 0) (some (.ref (za g (b + 80)))) ∧ zFr w w' b (b + 101) ∧ Rx g w' b S Hs Sn I O ep fc ∧ ∃ m s l v, Rn g w' (b + 80) m s l v ∧ IsR (gT S.1) S.1.length m s l v) := by
  have hb := h.1
  have hn := h.st.len
  refine zCt_of (by decide +kernel) h0 [(0, .ref (za g b)), (1, .int (x))] rfl (Nat.le_of_ble_eq_true rfl) ?_
  refine z_aload_n dX12_runsWith_0 rfl ?_
  refine z_callR (As := []) (rest := []) (b := b) (ci := 11) (v := some (.ref (za g (b + 80)))) (R2 := zR 2 0) dX12_runsWith_1 kV_RX12_186 rfl ⟨⟨by decide, by decide⟩, by decide, by decide⟩ (by omega) h.ce rfl rfl rfl (Nat.le_of_ble_eq_true rfl) rfl (c_X12_currentRuns h0 h1 h) (fun w1 pw1 => ?_)
  obtain ⟨hf2, hx2, m2, s2, l2, v2, hR2, hI2⟩ := pw1
  have hm2 := hR2.2.2.1
  refine z_iload_n dX12_runsWith_4 rfl ?_
  by_cases hc3 : 0 ≤ ((x)).toInt ∧ ((x)).toInt < (m2 : Nat)
  · refine z_callE (As := [.int (x)]) (rest := []) (b := b + 80) (ci := 8) (v := some (.int (nI (1)))) (R2 := zR 0 0) dX12_runsWith_5 kV_RX12_210 rfl ⟨⟨by decide, by decide⟩, by decide, by decide⟩ (by omega) hR2.2.1 rfl rfl rfl (Nat.le_of_ble_eq_true rfl) rfl ((by have q9 := c_X8_has (t := (x)) h0 hR2; rw [if_pos hc3] at q9; exact q9)) ?_
    refine z_gets dX12_runsWith_8 kG_RX12_130 rfl (h1.fl (i := 1) (by decide)) ?_
    refine z_callSE (As := [.int (nI (1)), .ref (ze g 1)]) (rest := []) (v := none) (R2 := zR 1 1) dX12_runsWith_11 kS_RX12_178 rfl rfl ⟨⟨by decide, by decide⟩, by decide, by decide⟩ rfl (Nat.le_of_ble_eq_true rfl) rfl (c_X12_raiseUnless_y h0 h1) ?_
    refine z_aload_n dX12_runsWith_14 rfl ?_
    refine z_getf (j := b) dX12_runsWith_15 kF_RX12_32 rfl (by omega) hx2.ce rfl ?_
    refine z_aret dX12_runsWith_18 rfl (by decide) (by decide) (Or.inl ⟨_, rfl⟩) (Or.inr ⟨_, rfl⟩) ?_
    exact ⟨zAns_y (by rw [hI2.startIn hc3, if_neg (by omega)]) rfl, hf2, hx2, m2, _, _, _, hR2, hI2⟩
  · refine z_callE (As := [.int (x)]) (rest := []) (b := b + 80) (ci := 8) (v := some (.int (nI (0)))) (R2 := zR 0 0) dX12_runsWith_5 kV_RX12_210 rfl ⟨⟨by decide, by decide⟩, by decide, by decide⟩ (by omega) hR2.2.1 rfl rfl rfl (Nat.le_of_ble_eq_true rfl) rfl ((by have q9 := c_X8_has (t := (x)) h0 hR2; rw [if_neg hc3] at q9; exact q9)) ?_
    refine z_gets dX12_runsWith_8 kG_RX12_130 rfl (h1.fl (i := 1) (by decide)) ?_
    refine z_callSX (As := [.int (nI (0)), .ref (ze g 1)]) (rest := []) (k := 1) (R2 := zR 1 1) dX12_runsWith_11 kS_RX12_178 rfl rfl ⟨⟨by decide, by decide⟩, by decide, by decide⟩ rfl (Nat.le_of_ble_eq_true rfl) rfl (c_X12_raiseUnless_n (f := 1) h0 h1 (by decide) (by decide)) ?_
    exact ⟨zAns_n (by rw [hI2.startOut hc3]; rfl) (by decide), hf2, hx2, m2, _, _, _, hR2, hI2⟩
set_option maxRecDepth 100000 in
set_option maxHeartbeats 4000000 in
theorem c_X12_runStart {g : zGT} {w : zW} {b : Nat} {S : zSt} {Hs : List zSt} {Sn : Option zSt} {I O : List Nat} {ep fc : Int32} {x : Int32} (h0 : zG0 g) (h1 : zST g) (h : Rx g w b S Hs Sn I O ep fc) : zCt g mX12_runStart (zR 4 1) [.ref (za g b), .int (x)] w (fun o w' => o = zAns (if spStart (gT S.1) S.1.length x.toInt < 0 then 1 else 0) (some (.int (nI (spStart (gT S.1) S.1.length x.toInt).toNat))) ∧ zFr w w' b (b + 101) ∧ Rx g w' b S Hs Sn I O ep fc) := by
  have hb := h.1
  have hn := h.st.len
  refine zCt_of (by decide +kernel) h0 [(0, .ref (za g b)), (1, .int (x))] rfl (Nat.le_of_ble_eq_true rfl) ?_
  refine z_aload_n dX12_runStart_0 rfl ?_
  refine z_iload_n dX12_runStart_1 rfl ?_
  refine z_callA (As := [.int (x)]) (rest := []) (b := b) (ci := 11) (f := if spStart (gT S.1) S.1.length x.toInt < 0 then 1 else 0) (v := some (.ref (za g (b + 80)))) (R2 := zR 3 1) dX12_runStart_2 kV_RX12_193 rfl ⟨⟨by decide, by decide⟩, by decide, by decide⟩ (by omega) h.ce rfl rfl rfl (Nat.le_of_ble_eq_true rfl) rfl (c_X12_runsWith h0 h1 h) (fun hx2 w1 pw1 => ?_) (fun hq3 w1 pw1 => ?_)
  · exact ⟨zAns_n rfl hx2, pw1.1, pw1.2.1⟩
  obtain ⟨hf1, hx1, m1, s1, l1, v1, hR1, hI1⟩ := pw1
  have e2 : 0 ≤ x.toInt ∧ x.toInt < m1 := by
    by_cases c : 0 ≤ x.toInt ∧ x.toInt < m1
    · exact c
    · rw [hI1.startOut c] at hq3; exact absurd hq3 (by decide)
  have e1 := hI1.startIn e2
  refine z_eq (lv' := [(0, .ref (za g b)), (1, .int (nI (x.toInt.toNat)))]) rfl rfl (by rw [← i_nat (x := x) (by omega)]) ?_
  refine z_iload_n dX12_runStart_5 rfl ?_
  refine z_callE (As := [.int (nI (x.toInt.toNat))]) (rest := []) (b := b + 80) (ci := 8) (v := some (.int (nI (s1 (x.toInt.toNat))))) (R2 := zR 0 0) dX12_runStart_6 kV_RX12_197 rfl ⟨⟨by decide, by decide⟩, by decide, by decide⟩ (by omega) hR1.2.1 rfl rfl rfl (Nat.le_of_ble_eq_true rfl) rfl (c_X8_startOf (t := x.toInt.toNat) h0 hR1 (by omega)) ?_
  refine z_iret dX12_runStart_9 rfl (by decide) (by decide) ?_
  exact ⟨zAns_y hq3 (by rw [e1, Int.toNat_natCast]), hf1, hx1⟩
set_option maxRecDepth 100000 in
set_option maxHeartbeats 4000000 in
theorem c_X12_runLength {g : zGT} {w : zW} {b : Nat} {S : zSt} {Hs : List zSt} {Sn : Option zSt} {I O : List Nat} {ep fc : Int32} {x : Int32} (h0 : zG0 g) (h1 : zST g) (h : Rx g w b S Hs Sn I O ep fc) : zCt g mX12_runLength (zR 4 1) [.ref (za g b), .int (x)] w (fun o w' => o = zAns (if spStart (gT S.1) S.1.length x.toInt < 0 then 1 else 0) (some (.int (nI (lenF (gT S.1) S.1.length (spStart (gT S.1) S.1.length x.toInt).toNat)))) ∧ zFr w w' b (b + 101) ∧ Rx g w' b S Hs Sn I O ep fc) := by
  have hb := h.1
  have hn := h.st.len
  refine zCt_of (by decide +kernel) h0 [(0, .ref (za g b)), (1, .int (x))] rfl (Nat.le_of_ble_eq_true rfl) ?_
  refine z_aload_n dX12_runLength_0 rfl ?_
  refine z_iload_n dX12_runLength_1 rfl ?_
  refine z_callA (As := [.int (x)]) (rest := []) (b := b) (ci := 11) (f := if spStart (gT S.1) S.1.length x.toInt < 0 then 1 else 0) (v := some (.ref (za g (b + 80)))) (R2 := zR 3 1) dX12_runLength_2 kV_RX12_193 rfl ⟨⟨by decide, by decide⟩, by decide, by decide⟩ (by omega) h.ce rfl rfl rfl (Nat.le_of_ble_eq_true rfl) rfl (c_X12_runsWith h0 h1 h) (fun hx2 w1 pw1 => ?_) (fun hq3 w1 pw1 => ?_)
  · exact ⟨zAns_n rfl hx2, pw1.1, pw1.2.1⟩
  obtain ⟨hf1, hx1, m1, s1, l1, v1, hR1, hI1⟩ := pw1
  have e2 : 0 ≤ x.toInt ∧ x.toInt < m1 := by
    by_cases c : 0 ≤ x.toInt ∧ x.toInt < m1
    · exact c
    · rw [hI1.startOut c] at hq3; exact absurd hq3 (by decide)
  have e1 := hI1.startIn e2
  refine z_eq (lv' := [(0, .ref (za g b)), (1, .int (nI (x.toInt.toNat)))]) rfl rfl (by rw [← i_nat (x := x) (by omega)]) ?_
  refine z_iload_n dX12_runLength_5 rfl ?_
  refine z_callE (As := [.int (nI (x.toInt.toNat))]) (rest := []) (b := b + 80) (ci := 8) (v := some (.int (nI (l1 (x.toInt.toNat))))) (R2 := zR 0 0) dX12_runLength_6 kV_RX12_200 rfl ⟨⟨by decide, by decide⟩, by decide, by decide⟩ (by omega) hR1.2.1 rfl rfl rfl (Nat.le_of_ble_eq_true rfl) rfl (c_X8_lengthOf (t := x.toInt.toNat) h0 hR1 (by omega)) ?_
  refine z_iret dX12_runLength_9 rfl (by decide) (by decide) ?_
  exact ⟨zAns_y hq3 (by rw [e1, Int.toNat_natCast, hI1.lenR (by omega)]), hf1, hx1⟩
set_option maxRecDepth 100000 in
set_option maxHeartbeats 4000000 in
theorem c_X12_runLevel {g : zGT} {w : zW} {b : Nat} {S : zSt} {Hs : List zSt} {Sn : Option zSt} {I O : List Nat} {ep fc : Int32} {x : Int32} (h0 : zG0 g) (h1 : zST g) (h : Rx g w b S Hs Sn I O ep fc) : zCt g mX12_runLevel (zR 4 1) [.ref (za g b), .int (x)] w (fun o w' => o = zAns (if spStart (gT S.1) S.1.length x.toInt < 0 then 1 else 0) (some (.int (nI (gT S.1 (spStart (gT S.1) S.1.length x.toInt).toNat)))) ∧ zFr w w' b (b + 101) ∧ Rx g w' b S Hs Sn I O ep fc) := by
  have hb := h.1
  have hn := h.st.len
  refine zCt_of (by decide +kernel) h0 [(0, .ref (za g b)), (1, .int (x))] rfl (Nat.le_of_ble_eq_true rfl) ?_
  refine z_aload_n dX12_runLevel_0 rfl ?_
  refine z_iload_n dX12_runLevel_1 rfl ?_
  refine z_callA (As := [.int (x)]) (rest := []) (b := b) (ci := 11) (f := if spStart (gT S.1) S.1.length x.toInt < 0 then 1 else 0) (v := some (.ref (za g (b + 80)))) (R2 := zR 3 1) dX12_runLevel_2 kV_RX12_193 rfl ⟨⟨by decide, by decide⟩, by decide, by decide⟩ (by omega) h.ce rfl rfl rfl (Nat.le_of_ble_eq_true rfl) rfl (c_X12_runsWith h0 h1 h) (fun hx2 w1 pw1 => ?_) (fun hq3 w1 pw1 => ?_)
  · exact ⟨zAns_n rfl hx2, pw1.1, pw1.2.1⟩
  obtain ⟨hf1, hx1, m1, s1, l1, v1, hR1, hI1⟩ := pw1
  have e2 : 0 ≤ x.toInt ∧ x.toInt < m1 := by
    by_cases c : 0 ≤ x.toInt ∧ x.toInt < m1
    · exact c
    · rw [hI1.startOut c] at hq3; exact absurd hq3 (by decide)
  have e1 := hI1.startIn e2
  refine z_eq (lv' := [(0, .ref (za g b)), (1, .int (nI (x.toInt.toNat)))]) rfl rfl (by rw [← i_nat (x := x) (by omega)]) ?_
  refine z_iload_n dX12_runLevel_5 rfl ?_
  refine z_callE (As := [.int (nI (x.toInt.toNat))]) (rest := []) (b := b + 80) (ci := 8) (v := some (.int (nI (v1 (x.toInt.toNat))))) (R2 := zR 0 0) dX12_runLevel_6 kV_RX12_203 rfl ⟨⟨by decide, by decide⟩, by decide, by decide⟩ (by omega) hR1.2.1 rfl rfl rfl (Nat.le_of_ble_eq_true rfl) rfl (c_X8_levelOf (t := x.toInt.toNat) h0 hR1 (by omega)) ?_
  refine z_iret dX12_runLevel_9 rfl (by decide) (by decide) ?_
  exact ⟨zAns_y hq3 (by rw [e1, Int.toNat_natCast, hI1.lev (by omega)]), hf1, hx1⟩
set_option maxRecDepth 100000 in
set_option maxHeartbeats 4000000 in
theorem c_X12_isLevel_y {g : zGT} {w : zW} {x : Int32} (h0 : zG0 g) (e : 0 ≤ x.toInt ∧ x.toInt ≤ 9) : zCt g mX12_isLevel (zR 0 0) [.int (x)] w (fun o w' => o = .inl (some (.int (nI 1))) ∧ w' = w) := by
  refine zCt_of (by decide +kernel) h0 [(0, .int (x))] rfl (Nat.le_of_ble_eq_true rfl) ?_
  refine z_iload_n dX12_isLevel_0 rfl ?_
  refine z_if_lt_z (tgt := 14) dX12_isLevel_1 (by decide) (fun h_1_1 => ?_) (fun h_1_1 => ?_)
  · refine z_iconst (v := nI 0) dX12_isLevel_14 rfl ?_
    refine z_zret (ty := .boolean) dX12_isLevel_15 rfl (by decide) (by decide) rfl ?_
    first | exact ⟨rfl, rfl⟩ | (exfalso; omega)
  · refine z_iload_n dX12_isLevel_4 rfl ?_
    refine z_bipush (v := nI 9) dX12_isLevel_5 rfl ?_
    have hk3 := nI_toInt (n := 9) (by omega)
    refine z_icmp_gt_z (tgt := 14) dX12_isLevel_7 (by decide) (fun h_7_2 => ?_) (fun h_7_2 => ?_)
    · refine z_iconst (v := nI 0) dX12_isLevel_14 rfl ?_
      refine z_zret (ty := .boolean) dX12_isLevel_15 rfl (by decide) (by decide) rfl ?_
      first | exact ⟨rfl, rfl⟩ | (exfalso; omega)
    · refine z_iconst (v := nI 1) dX12_isLevel_10 rfl ?_
      refine z_goto (tgt := 15) dX12_isLevel_11 (by decide) ?_
      refine z_zret (ty := .boolean) dX12_isLevel_15 rfl (by decide) (by decide) rfl ?_
      first | exact ⟨rfl, rfl⟩ | (exfalso; omega)
set_option maxRecDepth 100000 in
set_option maxHeartbeats 4000000 in
theorem c_X12_isLevel_n {g : zGT} {w : zW} {x : Int32} (h0 : zG0 g) (e : ¬ (0 ≤ x.toInt ∧ x.toInt ≤ 9)) : zCt g mX12_isLevel (zR 0 0) [.int (x)] w (fun o w' => o = .inl (some (.int (nI 0))) ∧ w' = w) := by
  refine zCt_of (by decide +kernel) h0 [(0, .int (x))] rfl (Nat.le_of_ble_eq_true rfl) ?_
  refine z_iload_n dX12_isLevel_0 rfl ?_
  refine z_if_lt_z (tgt := 14) dX12_isLevel_1 (by decide) (fun h_1_1 => ?_) (fun h_1_1 => ?_)
  · refine z_iconst (v := nI 0) dX12_isLevel_14 rfl ?_
    refine z_zret (ty := .boolean) dX12_isLevel_15 rfl (by decide) (by decide) rfl ?_
    first | exact ⟨rfl, rfl⟩ | (exfalso; omega)
  · refine z_iload_n dX12_isLevel_4 rfl ?_
    refine z_bipush (v := nI 9) dX12_isLevel_5 rfl ?_
    have hk3 := nI_toInt (n := 9) (by omega)
    refine z_icmp_gt_z (tgt := 14) dX12_isLevel_7 (by decide) (fun h_7_2 => ?_) (fun h_7_2 => ?_)
    · refine z_iconst (v := nI 0) dX12_isLevel_14 rfl ?_
      refine z_zret (ty := .boolean) dX12_isLevel_15 rfl (by decide) (by decide) rfl ?_
      first | exact ⟨rfl, rfl⟩ | (exfalso; omega)
    · refine z_iconst (v := nI 1) dX12_isLevel_10 rfl ?_
      refine z_goto (tgt := 15) dX12_isLevel_11 (by decide) ?_
      refine z_zret (ty := .boolean) dX12_isLevel_15 rfl (by decide) (by decide) rfl ?_
      first | exact ⟨rfl, rfl⟩ | (exfalso; omega)
set_option maxRecDepth 100000 in
set_option maxHeartbeats 4000000 in
theorem c_X12_ticksAtLevel {g : zGT} {w : zW} {b : Nat} {S : zSt} {Hs : List zSt} {Sn : Option zSt} {I O : List Nat} {ep fc : Int32} {x : Int32} (h0 : zG0 g) (h1 : zST g) (h : Rx g w b S Hs Sn I O ep fc) : zCt g mX12_ticksAtLevel (zR 2 1) [.ref (za g b), .int (x)] w (fun o w' => o = zAns (if 0 ≤ x.toInt ∧ x.toInt ≤ 9 then 0 else 2) (some (.int (nI (zcnt (fun k => decide (gT S.1 k = x.toInt.toNat)) 0 S.1.length)))) ∧ zFr w w' b (b + 101) ∧ Rx g w' b S Hs Sn I O ep fc) := by
  have hb := h.1
  have hn := h.st.len
  refine zCt_of (by decide +kernel) h0 [(0, .ref (za g b)), (1, .int (x))] rfl (Nat.le_of_ble_eq_true rfl) ?_
  refine z_iload_n dX12_ticksAtLevel_0 rfl ?_
  by_cases hc1 : 0 ≤ x.toInt ∧ x.toInt ≤ 9
  · refine z_callSE (As := [.int (x)]) (rest := []) (v := some (.int (nI (1)))) (R2 := zR 0 0) dX12_ticksAtLevel_1 kS_RX12_219 rfl rfl ⟨⟨by decide, by decide⟩, by decide, by decide⟩ rfl (Nat.le_of_ble_eq_true rfl) rfl (c_X12_isLevel_y h0 hc1) ?_
    refine z_gets dX12_ticksAtLevel_4 kG_RX12_143 rfl (h1.fl (i := 2) (by decide)) ?_
    refine z_callSE (As := [.int (nI (1)), .ref (ze g 2)]) (rest := []) (v := none) (R2 := zR 1 1) dX12_ticksAtLevel_7 kS_RX12_178 rfl rfl ⟨⟨by decide, by decide⟩, by decide, by decide⟩ rfl (Nat.le_of_ble_eq_true rfl) rfl (c_X12_raiseUnless_y h0 h1) ?_
    refine z_eq (lv' := [(0, .ref (za g b)), (1, .int (nI (x.toInt.toNat)))]) rfl rfl (by rw [← i_nat (x := x) (by omega)]) ?_
    refine z_aload_n dX12_ticksAtLevel_10 rfl ?_
    refine z_getf (j := b) dX12_ticksAtLevel_11 kF_RX12_12 rfl (by omega) h.ce rfl ?_
    refine z_getfN (j := b + 1) dX12_ticksAtLevel_14 kN_RX12_167 rfl (by omega) h.st.cell rfl ?_
    refine z_iload_n dX12_ticksAtLevel_17 rfl ?_
    refine z_callE (As := [.int (nI (x.toInt.toNat))]) (rest := []) (b := b + 1 + 1) (ci := 5) (v := some (.int (nI (zcnt (fun k => decide (gT S.1 k = x.toInt.toNat)) 0 S.1.length)))) (R2 := zR 1 0) dX12_ticksAtLevel_18 kV_RX12_222 rfl ⟨⟨by decide, by decide⟩, by decide, by decide⟩ (by omega) h.st.tl.cell rfl rfl rfl (Nat.le_of_ble_eq_true rfl) rfl (tc_countOf (x := x.toInt.toNat) h0 h.st.tl (by omega)) ?_
    refine z_iret dX12_ticksAtLevel_21 rfl (by decide) (by decide) ?_
    exact ⟨zAns_y (by (repeat' split) <;> omega) rfl, zFr.rf, h⟩
  · refine z_callSE (As := [.int (x)]) (rest := []) (v := some (.int (nI (0)))) (R2 := zR 0 0) dX12_ticksAtLevel_1 kS_RX12_219 rfl rfl ⟨⟨by decide, by decide⟩, by decide, by decide⟩ rfl (Nat.le_of_ble_eq_true rfl) rfl (c_X12_isLevel_n h0 hc1) ?_
    refine z_gets dX12_ticksAtLevel_4 kG_RX12_143 rfl (h1.fl (i := 2) (by decide)) ?_
    refine z_callSX (As := [.int (nI (0)), .ref (ze g 2)]) (rest := []) (k := 2) (R2 := zR 1 1) dX12_ticksAtLevel_7 kS_RX12_178 rfl rfl ⟨⟨by decide, by decide⟩, by decide, by decide⟩ rfl (Nat.le_of_ble_eq_true rfl) rfl (c_X12_raiseUnless_n (f := 2) h0 h1 (by decide) (by decide)) ?_
    exact ⟨zAns_n (by (repeat' split) <;> omega) (by decide), zFr.rf, h⟩
def lvS (T : Nat → Nat) (n : Nat) (i : Nat) : Nat := nsum (fun j => j * zcnt (fun k => decide (T k = j)) 0 n) i
theorem nsum_add {F G : Nat → Nat} : ∀ {m : Nat}, nsum (fun j => F j + G j) m = nsum F m + nsum G m
  | 0 => rfl
  | m + 1 => by rw [nsum, nsum, nsum, nsum_add]; omega
theorem nsum_hit {c x : Nat} : ∀ {m : Nat}, c < m → nsum (fun j => if j = c then x else 0) m = x
  | 0, h => absurd h (Nat.not_lt_zero _)
  | m + 1, h => by
    rw [nsum]
    by_cases e : c = m
    · subst e
      have : nsum (fun j => if j = c then x else 0) c = 0 := by
        have h9 : ∀ q, q ≤ c → nsum (fun j => if j = c then x else 0) q = 0 := by
          intro q
          induction q with
          | zero => intro _; rfl
          | succ q ih => intro hq; rw [nsum, ih (by omega), if_neg (by omega)]
        exact h9 c (Nat.le_refl _)
      rw [this, if_pos rfl]; omega
    · rw [nsum_hit (by omega), if_neg (by omega)]; omega
theorem nsum_0 : ∀ {m : Nat}, nsum (fun _ => 0) m = 0
  | 0 => rfl
  | m + 1 => by rw [nsum, nsum_0]
theorem lvS_10 {T : Nat → Nat} : ∀ {n : Nat}, (∀ k, k < n → T k ≤ 9) → lvS T n 10 = tsum T 0 n
  | 0, _ => by unfold lvS; rw [show (fun j => j * zcnt (fun k => decide (T k = j)) 0 0) = (fun _ => 0) from by funext j; rfl, nsum_0]; rfl
  | n + 1, h => by
    have ih := lvS_10 (n := n) (fun k hk => h k (by omega))
    unfold lvS at ih ⊢
    rw [tsum, ← ih, Nat.zero_add]
    have e : (fun j => j * zcnt (fun k => decide (T k = j)) 0 (n + 1)) = (fun j => j * zcnt (fun k => decide (T k = j)) 0 n + (if j = T n then T n else 0)) := by
      funext j
      rw [zcnt, Nat.zero_add]
      by_cases c : T n = j
      · rw [if_pos (by simpa using c), if_pos c.symm, Nat.mul_add, c]; omega
      · rw [if_neg (by simpa using c), if_neg (fun z => c z.symm)]; simp
    rw [e, nsum_add, nsum_hit (by have := h n (by omega); omega)]
theorem zcnt_le9 {P : Nat → Bool} {p : Nat} : ∀ {c : Nat}, zcnt P p c ≤ c
  | 0 => Nat.le_refl _
  | c + 1 => by rw [zcnt]; have := zcnt_le9 (P := P) (p := p) (c := c); split <;> omega
set_option maxRecDepth 100000 in
set_option maxHeartbeats 4000000 in
theorem c_X12_loudnessByLevels {g : zGT} {w : zW} {b : Nat} {S : zSt} {Hs : List zSt} {Sn : Option zSt} {I O : List Nat} {ep fc : Int32} (h0 : zG0 g) (h1 : zST g) (h : Rx g w b S Hs Sn I O ep fc) : zCt g mX12_loudnessByLevels (zR 2 0) [.ref (za g b)] w (fun o w' => o = .inl (some (.long (lN (tsum (gT S.1) 0 S.1.length)))) ∧ zFr w w' b (b + 101) ∧ Rx g w' b S Hs Sn I O ep fc) := by
  have hb := h.1
  have hn := h.st.len
  refine zCt_of (by decide +kernel) h0 [(0, .ref (za g b))] rfl (Nat.le_of_ble_eq_true rfl) ?_
  have loop : ∀ (mm : Nat) (i x : Nat), 10 - i < mm → (i ≤ 10) → (x = lvS (gT S.1) S.1.length i) → zTr g mX12_loudnessByLevels (zR 2 0) 0 0 4 [(0, .ref (za g b)), (1, .long (lN x)), (3, .int (nI (i)))] [] w (fun o w' => o = .inl (some (.long (lN (tsum (gT S.1) 0 S.1.length)))) ∧ zFr w w' b (b + 101) ∧ Rx g w' b S Hs Sn I O ep fc) := by
    intro mm
    induction mm with
    | zero => intros; omega
    | succ mm ih =>
      intro i x hm hi hx
      refine z_iload_n dX12_loudnessByLevels_4 rfl ?_
      refine z_bipush (v := nI 9) dX12_loudnessByLevels_5 rfl ?_
      refine z_icmp_gt_n (a := i) (b := 9) (tgt := 34) dX12_loudnessByLevels_7 (by decide) (by omega) (by omega) (fun h_7_1 => ?_) (fun h_7_1 => ?_)
      · refine z_lload_n dX12_loudnessByLevels_34 rfl ?_
        refine z_lret dX12_loudnessByLevels_35 rfl (by decide) (by decide) ?_
        exact ⟨by rw [hx, show i = 10 by omega, lvS_10 (fun k hk => h.st.tl.le hk)], zFr.rf, h⟩
      · refine z_lload_n dX12_loudnessByLevels_10 rfl ?_
        refine z_iload_n dX12_loudnessByLevels_11 rfl ?_
        refine z_i2l dX12_loudnessByLevels_12 ?_
        refine z_aload_n dX12_loudnessByLevels_13 rfl ?_
        refine z_getf (j := b) dX12_loudnessByLevels_14 kF_RX12_12 rfl (by omega) h.ce rfl ?_
        refine z_getfN (j := b + 1) dX12_loudnessByLevels_17 kN_RX12_167 rfl (by omega) h.st.cell rfl ?_
        refine z_iload_n dX12_loudnessByLevels_20 rfl ?_
        refine z_callE (As := [.int (nI (i))]) (rest := [.long ((nI (i)).toInt64), .long (lN x)]) (b := b + 1 + 1) (ci := 5) (v := some (.int (nI (zcnt (fun k => decide (gT S.1 k = i)) 0 S.1.length)))) (R2 := zR 1 0) dX12_loudnessByLevels_21 kV_RX12_222 rfl ⟨⟨by decide, by decide⟩, by decide, by decide⟩ (by omega) h.st.tl.cell rfl rfl rfl (Nat.le_of_ble_eq_true rfl) rfl (tc_countOf (x := i) h0 h.st.tl (by omega)) ?_
        refine z_i2l dX12_loudnessByLevels_24 ?_
        refine z_lmul dX12_loudnessByLevels_25 ?_
        refine z_ladd dX12_loudnessByLevels_26 ?_
        refine z_lstore_n (lv' := [(0, .ref (za g b)), (1, .long ((lN x) + (((nI (i)).toInt64) * ((nI (zcnt (fun k => decide (gT S.1 k = i)) 0 S.1.length)).toInt64)))), (3, .int (nI (i)))]) dX12_loudnessByLevels_27 (by decide) rfl ?_
        refine z_iinc_n (n := 1) (a := i) (lv' := [(0, .ref (za g b)), (1, .long ((lN x) + (((nI (i)).toInt64) * ((nI (zcnt (fun k => decide (gT S.1 k = i)) 0 S.1.length)).toInt64)))), (3, .int (nI (i + 1)))]) dX12_loudnessByLevels_28 rfl (by decide) rfl ?_
        refine z_goto (tgt := 4) dX12_loudnessByLevels_31 (by decide) ?_
        refine z_eq (lv' := [(0, .ref (za g b)), (1, .long (lN (x + i * zcnt (fun k => decide (gT S.1 k = i)) 0 S.1.length))), (3, .int (nI (i + 1)))]) rfl rfl (by rw [nI_l (by omega), nI_l (by have := zcnt_le9 (P := fun k => decide (gT S.1 k = i)) (p := 0) (c := S.1.length); omega), lN_mul, lN_add]) ?_
        exact ih (i + 1) _ (by omega) (by omega) (by rw [hx, lvS, lvS, nsum])
  refine z_lconst (v := 0) dX12_loudnessByLevels_0 rfl ?_
  refine z_lstore_n (lv' := [(0, .ref (za g b)), (1, .long (0))]) dX12_loudnessByLevels_1 (by decide) rfl ?_
  refine z_iconst (v := nI 0) dX12_loudnessByLevels_2 rfl ?_
  refine z_istore_n (lv' := [(0, .ref (za g b)), (1, .long (0)), (3, .int (nI (0)))]) dX12_loudnessByLevels_3 (by decide) rfl ?_
  exact loop 11 0 0 (by omega) (Nat.zero_le _) rfl
set_option maxRecDepth 100000 in
set_option maxHeartbeats 4000000 in
theorem c_X12_loudnessIn {g : zGT} {w : zW} {b : Nat} {S : zSt} {Hs : List zSt} {Sn : Option zSt} {I O : List Nat} {ep fc : Int32} {x y : Int32} (h0 : zG0 g) (h1 : zST g) (h : Rx g w b S Hs Sn I O ep fc) : zCt g mX12_loudnessIn (zR 3 1) [.ref (za g b), .int (x), .int (y)] w (fun o w' => o = zAns (fIv S.1.length x.toInt y.toInt) (some (.int (nI (tsum (gT S.1) x.toInt.toNat (y.toInt.toNat - x.toInt.toNat))))) ∧ zFr w w' b (b + 101) ∧ Rx g w' b S Hs Sn I O ep fc) := by
  have hb := h.1
  have hn := h.st.len
  refine zCt_of (by decide +kernel) h0 [(0, .ref (za g b)), (1, .int (x)), (2, .int (y))] rfl (Nat.le_of_ble_eq_true rfl) ?_
  refine z_aload_n dX12_loudnessIn_0 rfl ?_
  refine z_getf (j := b) dX12_loudnessIn_1 kF_RX12_12 rfl (by omega) h.ce rfl ?_
  refine z_iload_n dX12_loudnessIn_4 rfl ?_
  refine z_iload_n dX12_loudnessIn_5 rfl ?_
  refine z_callE (As := [.int (x), .int (y)]) (rest := []) (b := b + 1) (ci := 10) (v := some (.ref (ze g (fIv S.1.length x.toInt y.toInt)))) (R2 := zR 2 0) dX12_loudnessIn_6 kV_RX12_229 rfl ⟨⟨by decide, by decide⟩, by decide, by decide⟩ (by omega) h.st.cell rfl rfl rfl (Nat.le_of_ble_eq_true rfl) rfl (c_X10_intervalFault h0 h1 h.st.1) ?_
  refine z_callSAE (As := [.ref (ze g (fIv S.1.length x.toInt y.toInt))]) (rest := []) (f := (fIv S.1.length x.toInt y.toInt)) (v := none) (R2 := zR 0 1) dX12_loudnessIn_9 kS_RX12_119 rfl rfl ⟨⟨by decide, by decide⟩, by decide, by decide⟩ rfl (Nat.le_of_ble_eq_true rfl) rfl (c_X12_raise (f := (fIv S.1.length x.toInt y.toInt)) h0 h1 (by unfold fIv; split <;> omega)) (fun hx3 => ?_) (fun hq4 => ?_)
  · exact ⟨zAns_n rfl hx3, zFr.rf, h⟩
  have hiv := fIv0 hq4
  refine z_eq (lv' := [(0, .ref (za g b)), (1, .int (nI (x.toInt.toNat))), (2, .int (nI (y.toInt.toNat)))]) rfl rfl (by rw [← i_nat (x := x) (by omega), ← i_nat (x := y) (by omega)]) ?_
  refine z_aload_n dX12_loudnessIn_12 rfl ?_
  refine z_getf (j := b) dX12_loudnessIn_13 kF_RX12_12 rfl (by omega) h.ce rfl ?_
  refine z_getfN (j := b + 1) dX12_loudnessIn_16 kN_RX12_167 rfl (by omega) h.st.cell rfl ?_
  refine z_iload_n dX12_loudnessIn_19 rfl ?_
  refine z_iload_n dX12_loudnessIn_20 rfl ?_
  refine z_callE (As := [.int (nI (x.toInt.toNat)), .int (nI (y.toInt.toNat))]) (rest := []) (b := b + 1 + 1) (ci := 5) (v := some (.int (nI (tsum (gT S.1) (x.toInt.toNat) ((y.toInt.toNat) - (x.toInt.toNat)))))) (R2 := zR 1 0) dX12_loudnessIn_21 kV_RX12_233 rfl ⟨⟨by decide, by decide⟩, by decide, by decide⟩ (by omega) h.st.tl.cell rfl rfl rfl (Nat.le_of_ble_eq_true rfl) rfl (tc_sum (p := x.toInt.toNat) (q := y.toInt.toNat) h0 h.st.tl (by omega) (by omega)) ?_
  refine z_iret dX12_loudnessIn_24 rfl (by decide) (by decide) ?_
  exact ⟨zAns_y hq4 rfl, zFr.rf, h⟩
set_option maxRecDepth 100000 in
set_option maxHeartbeats 4000000 in
theorem c_X12_loudnessInByPrefixes {g : zGT} {w : zW} {b : Nat} {S : zSt} {Hs : List zSt} {Sn : Option zSt} {I O : List Nat} {ep fc : Int32} {x y : Int32} (h0 : zG0 g) (h1 : zST g) (h : Rx g w b S Hs Sn I O ep fc) : zCt g mX12_loudnessInByPrefixes (zR 3 1) [.ref (za g b), .int (x), .int (y)] w (fun o w' => o = zAns (fIv S.1.length x.toInt y.toInt) (some (.int (nI (tsum (gT S.1) x.toInt.toNat (y.toInt.toNat - x.toInt.toNat))))) ∧ zFr w w' b (b + 101) ∧ Rx g w' b S Hs Sn I O ep fc) := by
  have hb := h.1
  have hn := h.st.len
  refine zCt_of (by decide +kernel) h0 [(0, .ref (za g b)), (1, .int (x)), (2, .int (y))] rfl (Nat.le_of_ble_eq_true rfl) ?_
  refine z_aload_n dX12_loudnessInByPrefixes_0 rfl ?_
  refine z_getf (j := b) dX12_loudnessInByPrefixes_1 kF_RX12_12 rfl (by omega) h.ce rfl ?_
  refine z_iload_n dX12_loudnessInByPrefixes_4 rfl ?_
  refine z_iload_n dX12_loudnessInByPrefixes_5 rfl ?_
  refine z_callE (As := [.int (x), .int (y)]) (rest := []) (b := b + 1) (ci := 10) (v := some (.ref (ze g (fIv S.1.length x.toInt y.toInt)))) (R2 := zR 2 0) dX12_loudnessInByPrefixes_6 kV_RX12_229 rfl ⟨⟨by decide, by decide⟩, by decide, by decide⟩ (by omega) h.st.cell rfl rfl rfl (Nat.le_of_ble_eq_true rfl) rfl (c_X10_intervalFault h0 h1 h.st.1) ?_
  refine z_callSAE (As := [.ref (ze g (fIv S.1.length x.toInt y.toInt))]) (rest := []) (f := (fIv S.1.length x.toInt y.toInt)) (v := none) (R2 := zR 0 1) dX12_loudnessInByPrefixes_9 kS_RX12_119 rfl rfl ⟨⟨by decide, by decide⟩, by decide, by decide⟩ rfl (Nat.le_of_ble_eq_true rfl) rfl (c_X12_raise (f := (fIv S.1.length x.toInt y.toInt)) h0 h1 (by unfold fIv; split <;> omega)) (fun hx3 => ?_) (fun hq4 => ?_)
  · exact ⟨zAns_n rfl hx3, zFr.rf, h⟩
  have hiv := fIv0 hq4
  refine z_eq (lv' := [(0, .ref (za g b)), (1, .int (nI (x.toInt.toNat))), (2, .int (nI (y.toInt.toNat)))]) rfl rfl (by rw [← i_nat (x := x) (by omega), ← i_nat (x := y) (by omega)]) ?_
  refine z_aload_n dX12_loudnessInByPrefixes_12 rfl ?_
  refine z_getf (j := b) dX12_loudnessInByPrefixes_13 kF_RX12_12 rfl (by omega) h.ce rfl ?_
  refine z_getfN (j := b + 1) dX12_loudnessInByPrefixes_16 kN_RX12_167 rfl (by omega) h.st.cell rfl ?_
  refine z_iconst (v := nI 0) dX12_loudnessInByPrefixes_19 rfl ?_
  refine z_iload_n dX12_loudnessInByPrefixes_20 rfl ?_
  refine z_callE (As := [.int (nI (0)), .int (nI (y.toInt.toNat))]) (rest := []) (b := b + 1 + 1) (ci := 5) (v := some (.int (nI (tsum (gT S.1) (0) ((y.toInt.toNat) - (0)))))) (R2 := zR 1 0) dX12_loudnessInByPrefixes_21 kV_RX12_233 rfl ⟨⟨by decide, by decide⟩, by decide, by decide⟩ (by omega) h.st.tl.cell rfl rfl rfl (Nat.le_of_ble_eq_true rfl) rfl (tc_sum (p := 0) (q := y.toInt.toNat) h0 h.st.tl (by omega) (by omega)) ?_
  refine z_aload_n dX12_loudnessInByPrefixes_24 rfl ?_
  refine z_getf (j := b) dX12_loudnessInByPrefixes_25 kF_RX12_12 rfl (by omega) h.ce rfl ?_
  refine z_getfN (j := b + 1) dX12_loudnessInByPrefixes_28 kN_RX12_167 rfl (by omega) h.st.cell rfl ?_
  refine z_iconst (v := nI 0) dX12_loudnessInByPrefixes_31 rfl ?_
  refine z_iload_n dX12_loudnessInByPrefixes_32 rfl ?_
  refine z_callE (As := [.int (nI (0)), .int (nI (x.toInt.toNat))]) (rest := [.int (nI (tsum (gT S.1) (0) ((y.toInt.toNat) - (0))))]) (b := b + 1 + 1) (ci := 5) (v := some (.int (nI (tsum (gT S.1) (0) ((x.toInt.toNat) - (0)))))) (R2 := zR 1 0) dX12_loudnessInByPrefixes_33 kV_RX12_233 rfl ⟨⟨by decide, by decide⟩, by decide, by decide⟩ (by omega) h.st.tl.cell rfl rfl rfl (Nat.le_of_ble_eq_true rfl) rfl (tc_sum (p := 0) (q := x.toInt.toNat) h0 h.st.tl (by omega) (by omega)) ?_
  refine z_eq (st' := [.int (nI (tsum (gT S.1) 0 x.toInt.toNat)), .int (nI (tsum (gT S.1) 0 y.toInt.toNat))]) rfl rfl rfl ?_
  have e36 := tsum_app (G := (gT S.1)) (p := 0) (a := x.toInt.toNat) (c := y.toInt.toNat - x.toInt.toNat)
  rw [Nat.zero_add, show x.toInt.toNat + (y.toInt.toNat - x.toInt.toNat) = y.toInt.toNat by omega] at e36
  refine z_isub_n (a := tsum (gT S.1) 0 y.toInt.toNat) (b := tsum (gT S.1) 0 x.toInt.toNat) dX12_loudnessInByPrefixes_36 (by omega) ?_
  refine z_iret dX12_loudnessInByPrefixes_37 rfl (by decide) (by decide) ?_
  exact ⟨zAns_y hq4 (by congr 3; omega), zFr.rf, h⟩
set_option maxRecDepth 100000 in
set_option maxHeartbeats 4000000 in
theorem c_X12_isSilent {g : zGT} {w : zW} {b : Nat} {S : zSt} {Hs : List zSt} {Sn : Option zSt} {I O : List Nat} {ep fc : Int32} {x y : Int32} (h0 : zG0 g) (h1 : zST g) (h : Rx g w b S Hs Sn I O ep fc) : zCt g mX12_isSilent (zR 3 1) [.ref (za g b), .int (x), .int (y)] w (fun o w' => o = zAns (fIv S.1.length x.toInt y.toInt) (some (.int (nI (if zcnt (fun k => decide (gT S.1 k ≠ 0)) x.toInt.toNat (y.toInt.toNat - x.toInt.toNat) = 0 then 1 else 0)))) ∧ zFr w w' b (b + 101) ∧ Rx g w' b S Hs Sn I O ep fc) := by
  have hb := h.1
  have hn := h.st.len
  refine zCt_of (by decide +kernel) h0 [(0, .ref (za g b)), (1, .int (x)), (2, .int (y))] rfl (Nat.le_of_ble_eq_true rfl) ?_
  refine z_aload_n dX12_isSilent_0 rfl ?_
  refine z_getf (j := b) dX12_isSilent_1 kF_RX12_12 rfl (by omega) h.ce rfl ?_
  refine z_iload_n dX12_isSilent_4 rfl ?_
  refine z_iload_n dX12_isSilent_5 rfl ?_
  refine z_callE (As := [.int (x), .int (y)]) (rest := []) (b := b + 1) (ci := 10) (v := some (.ref (ze g (fIv S.1.length x.toInt y.toInt)))) (R2 := zR 2 0) dX12_isSilent_6 kV_RX12_229 rfl ⟨⟨by decide, by decide⟩, by decide, by decide⟩ (by omega) h.st.cell rfl rfl rfl (Nat.le_of_ble_eq_true rfl) rfl (c_X10_intervalFault h0 h1 h.st.1) ?_
  refine z_callSAE (As := [.ref (ze g (fIv S.1.length x.toInt y.toInt))]) (rest := []) (f := (fIv S.1.length x.toInt y.toInt)) (v := none) (R2 := zR 0 1) dX12_isSilent_9 kS_RX12_119 rfl rfl ⟨⟨by decide, by decide⟩, by decide, by decide⟩ rfl (Nat.le_of_ble_eq_true rfl) rfl (c_X12_raise (f := (fIv S.1.length x.toInt y.toInt)) h0 h1 (by unfold fIv; split <;> omega)) (fun hx3 => ?_) (fun hq4 => ?_)
  · exact ⟨zAns_n rfl hx3, zFr.rf, h⟩
  have hiv := fIv0 hq4
  refine z_eq (lv' := [(0, .ref (za g b)), (1, .int (nI (x.toInt.toNat))), (2, .int (nI (y.toInt.toNat)))]) rfl rfl (by rw [← i_nat (x := x) (by omega), ← i_nat (x := y) (by omega)]) ?_
  refine z_aload_n dX12_isSilent_12 rfl ?_
  refine z_getf (j := b) dX12_isSilent_13 kF_RX12_12 rfl (by omega) h.ce rfl ?_
  refine z_getfN (j := b + 1) dX12_isSilent_16 kN_RX12_167 rfl (by omega) h.st.cell rfl ?_
  refine z_iload_n dX12_isSilent_19 rfl ?_
  refine z_iload_n dX12_isSilent_20 rfl ?_
  refine z_callE (As := [.int (nI (x.toInt.toNat)), .int (nI (y.toInt.toNat))]) (rest := []) (b := b + 1 + 1) (ci := 5) (v := some (.int (nI (zcnt (fun k => decide (gT S.1 k ≠ 0)) (x.toInt.toNat) ((y.toInt.toNat) - (x.toInt.toNat)))))) (R2 := zR 1 0) dX12_isSilent_21 kV_RX12_237 rfl ⟨⟨by decide, by decide⟩, by decide, by decide⟩ (by omega) h.st.tl.cell rfl rfl rfl (Nat.le_of_ble_eq_true rfl) rfl (tc_sounding (p := x.toInt.toNat) (q := y.toInt.toNat) h0 h.st.tl (by omega) (by omega)) ?_
  have e24 := zcnt_le9 (P := fun k => decide (gT S.1 k ≠ 0)) (p := x.toInt.toNat) (c := y.toInt.toNat - x.toInt.toNat)
  refine z_if_ne_n (a := zcnt (fun k => decide (gT S.1 k ≠ 0)) (x.toInt.toNat) ((y.toInt.toNat) - (x.toInt.toNat))) (tgt := 31) dX12_isSilent_24 (by decide) (by omega) (fun h_24_6 => ?_) (fun h_24_6 => ?_)
  · refine z_iconst (v := nI 0) dX12_isSilent_31 rfl ?_
    refine z_zret (ty := .boolean) dX12_isSilent_32 rfl (by decide) (by decide) rfl ?_
    exact ⟨zAns_y hq4 (by rw [if_neg (by first | exact h_24_6 | omega)]), zFr.rf, h⟩
  · refine z_iconst (v := nI 1) dX12_isSilent_27 rfl ?_
    refine z_goto (tgt := 32) dX12_isSilent_28 (by decide) ?_
    refine z_zret (ty := .boolean) dX12_isSilent_32 rfl (by decide) (by decide) rfl ?_
    exact ⟨zAns_y hq4 (by rw [if_pos (by first | exact h_24_6 | omega)]), zFr.rf, h⟩
set_option maxRecDepth 100000 in
set_option maxHeartbeats 4000000 in
theorem c_X12_peakLevel {g : zGT} {w : zW} {b : Nat} {S : zSt} {Hs : List zSt} {Sn : Option zSt} {I O : List Nat} {ep fc : Int32} (h0 : zG0 g) (h1 : zST g) (h : Rx g w b S Hs Sn I O ep fc) : zCt g mX12_peakLevel (zR 1 0) [.ref (za g b)] w (fun o w' => o = .inl (some (.int (nI (nmax (gT S.1) S.1.length)))) ∧ zFr w w' b (b + 101) ∧ Rx g w' b S Hs Sn I O ep fc) := by
  have hb := h.1
  have hn := h.st.len
  refine zCt_of (by decide +kernel) h0 [(0, .ref (za g b))] rfl (Nat.le_of_ble_eq_true rfl) ?_
  have loop : ∀ (mm : Nat) (i x : Nat), S.1.length - i < mm → (i ≤ S.1.length) → (x = nmax (gT S.1) i) → zTr g mX12_peakLevel (zR 1 0) 0 0 4 [(0, .ref (za g b)), (1, .int (nI (x))), (2, .int (nI (i)))] [] w (fun o w' => o = .inl (some (.int (nI (nmax (gT S.1) S.1.length)))) ∧ zFr w w' b (b + 101) ∧ Rx g w' b S Hs Sn I O ep fc) := by
    intro mm
    induction mm with
    | zero => intros; omega
    | succ mm ih =>
      intro i x hm hi hx
      have hx9 : x ≤ 9 := by rw [hx]; exact nmax_le (fun k hk => h.st.tl.le (by omega))
      refine z_iload_n dX12_peakLevel_4 rfl ?_
      refine z_aload_n dX12_peakLevel_5 rfl ?_
      refine z_getf (j := b) dX12_peakLevel_6 kF_RX12_12 rfl (by omega) h.ce rfl ?_
      refine z_getfN (j := b + 1) dX12_peakLevel_9 kN_RX12_167 rfl (by omega) h.st.cell rfl ?_
      refine z_callE (As := []) (rest := [.int (nI (i))]) (b := b + 1 + 1) (ci := 5) (v := some (.int (nI (S.1.length)))) (R2 := zR 0 0) dX12_peakLevel_12 kV_RX12_170 rfl ⟨⟨by decide, by decide⟩, by decide, by decide⟩ (by omega) h.st.tl.cell rfl rfl rfl (Nat.le_of_ble_eq_true rfl) rfl (tc_size h0 h.st.tl) ?_
      refine z_icmp_ge_n (a := i) (b := S.1.length) (tgt := 40) dX12_peakLevel_15 (by decide) (by omega) (by omega) (fun h_15_2 => ?_) (fun h_15_2 => ?_)
      · refine z_iload_n dX12_peakLevel_40 rfl ?_
        refine z_iret dX12_peakLevel_41 rfl (by decide) (by decide) ?_
        exact ⟨by rw [hx, show i = S.1.length by omega], zFr.rf, h⟩
      · refine z_iload_n dX12_peakLevel_18 rfl ?_
        refine z_aload_n dX12_peakLevel_19 rfl ?_
        refine z_getf (j := b) dX12_peakLevel_20 kF_RX12_12 rfl (by omega) h.ce rfl ?_
        refine z_getfN (j := b + 1) dX12_peakLevel_23 kN_RX12_167 rfl (by omega) h.st.cell rfl ?_
        refine z_iload_n dX12_peakLevel_26 rfl ?_
        refine z_callE (As := [.int (nI (i))]) (rest := [.int (nI (x))]) (b := b + 1 + 1) (ci := 5) (v := some (.int (nI (gT S.1 (i))))) (R2 := zR 0 0) dX12_peakLevel_27 kV_RX12_182 rfl ⟨⟨by decide, by decide⟩, by decide, by decide⟩ (by omega) h.st.tl.cell rfl rfl rfl (Nat.le_of_ble_eq_true rfl) rfl (tc_at (t := i) h0 h.st.tl (by omega)) ?_
        refine z_max (rest := []) (x := (nI (x))) (y := (nI (gT S.1 (i)))) dX12_peakLevel_30 kO_RX12_240 rfl ⟨⟨by decide, Nat.le_of_ble_eq_true rfl⟩, by decide, by decide⟩ ?_
        refine z_eq (st' := [.int (nI (max x (gT S.1 i)))]) rfl (by rw [max32 (by omega) (by have := h.st.tl.le (k := i) (by omega); omega)]) rfl ?_
        refine z_istore_n (lv' := [(0, .ref (za g b)), (1, .int (nI (max x (gT S.1 i)))), (2, .int (nI (i)))]) dX12_peakLevel_33 (by decide) rfl ?_
        refine z_iinc_n (n := 1) (a := i) (lv' := [(0, .ref (za g b)), (1, .int (nI (max x (gT S.1 i)))), (2, .int (nI (i + 1)))]) dX12_peakLevel_34 rfl (by decide) rfl ?_
        refine z_goto (tgt := 4) dX12_peakLevel_37 (by decide) ?_
        exact ih (i + 1) _ (by omega) (by omega) (by rw [hx, nmax])
  refine z_iconst (v := nI 0) dX12_peakLevel_0 rfl ?_
  refine z_istore_n (lv' := [(0, .ref (za g b)), (1, .int (nI (0)))]) dX12_peakLevel_1 (by decide) rfl ?_
  refine z_iconst (v := nI 0) dX12_peakLevel_2 rfl ?_
  refine z_istore_n (lv' := [(0, .ref (za g b)), (1, .int (nI (0))), (2, .int (nI (0)))]) dX12_peakLevel_3 (by decide) rfl ?_
  exact loop (S.1.length + 1) 0 0 (by omega) (Nat.zero_le _) rfl
set_option maxRecDepth 100000 in
set_option maxHeartbeats 4000000 in
theorem c_X12_restStartByLength {g : zGT} {w : zW} {b : Nat} {S : zSt} {Hs : List zSt} {Sn : Option zSt} {I O : List Nat} {ep fc : Int32} {x : Int32} (h0 : zG0 g) (h1 : zST g) (h : Rx g w b S Hs Sn I O ep fc) : zCt g mX12_restStartByLength (zR 4 1) [.ref (za g b), .int (x)] w (fun o w' => o = zAns (if spRank (gT S.1) S.1.length x.toInt < 0 then 4 else 0) (some (.int (nI (spRank (gT S.1) S.1.length x.toInt).toNat))) ∧ zFr w w' b (b + 101) ∧ Rx g w' b S Hs Sn I O ep fc) := by
  have hb := h.1
  have hn := h.st.len
  refine zCt_of (by decide +kernel) h0 [(0, .ref (za g b)), (1, .int (x))] rfl (Nat.le_of_ble_eq_true rfl) ?_
  refine z_aload_n dX12_restStartByLength_0 rfl ?_
  refine z_callR (As := []) (rest := []) (b := b) (ci := 11) (v := some (.ref (za g (b + 80)))) (R2 := zR 2 0) dX12_restStartByLength_1 kV_RX12_186 rfl ⟨⟨by decide, by decide⟩, by decide, by decide⟩ (by omega) h.ce rfl rfl rfl (Nat.le_of_ble_eq_true rfl) rfl (c_X12_currentRuns h0 h1 h) (fun w1 pw1 => ?_)
  obtain ⟨hf2, hx2, m2, s2, l2, v2, hR2, hI2⟩ := pw1
  have hm2 := hR2.2.2.1
  refine z_iload_n dX12_restStartByLength_4 rfl ?_
  refine z_callV (As := [.int (x)]) (rest := []) (b := b + 80) (ci := 8) (R2 := zR 3 0) dX12_restStartByLength_5 kV_RX12_248 rfl ⟨⟨by decide, by decide⟩, by decide, by decide⟩ (by omega) hR2.2.1 rfl rfl rfl (Nat.le_of_ble_eq_true rfl) rfl (t_rank (t := x) h0 hR2 hI2) (fun E w1 h => by rcases h with ⟨-, ⟨e, -⟩ | ⟨r, -, e, -⟩⟩ <;> cases e) (fun v3 w4 h5 => ?_)
  rcases h5 with ⟨ew, ⟨ev, e9⟩ | ⟨r, hr, ev, e9⟩⟩
  · subst ew
    cases ev
    refine z_istore_n (lv' := [(0, .ref (za g b)), (1, .int (x)), (2, .int (-1))]) dX12_restStartByLength_8 (by decide) rfl ?_
    refine z_iload_n dX12_restStartByLength_9 rfl ?_
    refine z_iconst (v := -1) dX12_restStartByLength_10 rfl ?_
    have hk7 : (-1 : Int32).toInt = -1 := by decide
    have hk8 : (-1 : Int32).toInt = -1 := by decide
    refine z_icmp_eq_z (tgt := 18) dX12_restStartByLength_11 (by decide) (fun h_11_6 => ?_) (fun h_11_6 => ?_)
    · refine z_iconst (v := nI 0) dX12_restStartByLength_18 rfl ?_
      refine z_gets dX12_restStartByLength_19 kG_RX12_159 rfl (h1.fl (i := 4) (by decide)) ?_
      refine z_callSX (As := [.int (nI (0)), .ref (ze g 4)]) (rest := []) (k := 4) (R2 := zR 1 1) dX12_restStartByLength_22 kS_RX12_178 rfl rfl ⟨⟨by decide, by decide⟩, by decide, by decide⟩ rfl (Nat.le_of_ble_eq_true rfl) rfl (c_X12_raiseUnless_n (f := 4) h0 h1 (by decide) (by decide)) ?_
      exact ⟨zAns_n (by rw [e9]; (repeat' split) <;> omega) (by decide), hf2, hx2⟩
    · exact absurd rfl h_11_6
  · subst ew
    cases ev
    refine z_istore_n (lv' := [(0, .ref (za g b)), (1, .int (x)), (2, .int (nI (r)))]) dX12_restStartByLength_8 (by decide) rfl ?_
    refine z_iload_n dX12_restStartByLength_9 rfl ?_
    refine z_iconst (v := -1) dX12_restStartByLength_10 rfl ?_
    have hk10 := nI_toInt (n := r) (by omega)
    have hk11 : (-1 : Int32).toInt = -1 := by decide
    refine z_icmp_eq_z (tgt := 18) dX12_restStartByLength_11 (by decide) (fun h_11_9 => ?_) (fun h_11_9 => ?_)
    · (have q9 := h_11_9; rw [nI_toInt (show r < 2 ^ 31 by omega), show (-1 : Int32).toInt = -1 from rfl] at q9; omega)
    · refine z_iconst (v := nI 1) dX12_restStartByLength_14 rfl ?_
      refine z_goto (tgt := 19) dX12_restStartByLength_15 (by decide) ?_
      refine z_gets dX12_restStartByLength_19 kG_RX12_159 rfl (h1.fl (i := 4) (by decide)) ?_
      refine z_callSE (As := [.int (nI (1)), .ref (ze g 4)]) (rest := []) (v := none) (R2 := zR 1 1) dX12_restStartByLength_22 kS_RX12_178 rfl rfl ⟨⟨by decide, by decide⟩, by decide, by decide⟩ rfl (Nat.le_of_ble_eq_true rfl) rfl (c_X12_raiseUnless_y h0 h1) ?_
      refine z_aload_n dX12_restStartByLength_25 rfl ?_
      refine z_getf (j := b) dX12_restStartByLength_26 kF_RX12_32 rfl (by omega) hx2.ce rfl ?_
      refine z_iload_n dX12_restStartByLength_29 rfl ?_
      refine z_callE (As := [.int (nI (r))]) (rest := []) (b := b + 80) (ci := 8) (v := some (.int (nI (s2 (r))))) (R2 := zR 0 0) dX12_restStartByLength_30 kV_RX12_197 rfl ⟨⟨by decide, by decide⟩, by decide, by decide⟩ (by omega) hR2.2.1 rfl rfl rfl (Nat.le_of_ble_eq_true rfl) rfl (c_X8_startOf (t := r) h0 hR2 (by omega)) ?_
      refine z_iret dX12_restStartByLength_33 rfl (by decide) (by decide) ?_
      exact ⟨zAns_y (by rw [e9]; (repeat' split) <;> omega) (by rw [e9]; rfl), hf2, hx2⟩
set_option maxRecDepth 100000 in
set_option maxHeartbeats 4000000 in
theorem c_X12_nextChange {g : zGT} {w : zW} {b : Nat} {S : zSt} {Hs : List zSt} {Sn : Option zSt} {I O : List Nat} {ep fc : Int32} {x : Int32} (h0 : zG0 g) (h1 : zST g) (h : Rx g w b S Hs Sn I O ep fc) : zCt g mX12_nextChange (zR 4 2) [.ref (za g b), .int (x)] w (fun o w' => o = zAns (if 0 ≤ x.toInt ∧ x.toInt < S.1.length then (if spNext (gT S.1) S.1.length x.toInt.toNat < 0 then 4 else 0) else 1) (some (.int (nI (spNext (gT S.1) S.1.length x.toInt.toNat).toNat))) ∧ zFr w w' b (b + 101) ∧ Rx g w' b S Hs Sn I O ep fc) := by
  have hb := h.1
  have hn := h.st.len
  refine zCt_of (by decide +kernel) h0 [(0, .ref (za g b)), (1, .int (x))] rfl (Nat.le_of_ble_eq_true rfl) ?_
  refine z_aload_n dX12_nextChange_0 rfl ?_
  refine z_getf (j := b) dX12_nextChange_1 kF_RX12_12 rfl (by omega) h.ce rfl ?_
  refine z_getfN (j := b + 1) dX12_nextChange_4 kN_RX12_167 rfl (by omega) h.st.cell rfl ?_
  refine z_iload_n dX12_nextChange_7 rfl ?_
  by_cases hc1 : 0 ≤ ((x)).toInt ∧ ((x)).toInt < (S.1.length : Nat)
  · refine z_callE (As := [.int (x)]) (rest := []) (b := b + 1 + 1) (ci := 5) (v := some (.int (nI (1)))) (R2 := zR 0 0) dX12_nextChange_8 kV_RX12_174 rfl ⟨⟨by decide, by decide⟩, by decide, by decide⟩ (by omega) h.st.tl.cell rfl rfl rfl (Nat.le_of_ble_eq_true rfl) rfl (tc_hasTick_y h0 h.st.tl hc1) ?_
    refine z_gets dX12_nextChange_11 kG_RX12_130 rfl (h1.fl (i := 1) (by decide)) ?_
    refine z_callSE (As := [.int (nI (1)), .ref (ze g 1)]) (rest := []) (v := none) (R2 := zR 1 1) dX12_nextChange_14 kS_RX12_178 rfl rfl ⟨⟨by decide, by decide⟩, by decide, by decide⟩ rfl (Nat.le_of_ble_eq_true rfl) rfl (c_X12_raiseUnless_y h0 h1) ?_
    refine z_eq (lv' := [(0, .ref (za g b)), (1, .int (nI (x.toInt.toNat)))]) rfl rfl (by rw [← i_nat (x := x) (by omega)]) ?_
    refine z_aload_n dX12_nextChange_17 rfl ?_
    refine z_callR (As := []) (rest := []) (b := b) (ci := 11) (v := some (.ref (za g (b + 80)))) (R2 := zR 2 0) dX12_nextChange_18 kV_RX12_186 rfl ⟨⟨by decide, by decide⟩, by decide, by decide⟩ (by omega) h.ce rfl rfl rfl (Nat.le_of_ble_eq_true rfl) rfl (c_X12_currentRuns h0 h1 h) (fun w4 pw4 => ?_)
    obtain ⟨hf5, hx5, m5, s5, l5, v5, hR5, hI5⟩ := pw4
    have hm5 := hR5.2.2.1
    refine z_iload_n dX12_nextChange_21 rfl ?_
    refine z_callV (As := [.int (nI (x.toInt.toNat))]) (rest := []) (b := b + 80) (ci := 8) (R2 := zR 1 0) dX12_nextChange_22 kV_RX12_251 rfl ⟨⟨by decide, by decide⟩, by decide, by decide⟩ (by omega) hR5.2.1 rfl rfl rfl (Nat.le_of_ble_eq_true rfl) rfl (t_after (t := x.toInt.toNat) h0 hR5 hI5 (by omega)) (fun E w1 h => by rcases h with ⟨-, ⟨e, -⟩ | ⟨r, -, e, -⟩⟩ <;> cases e) (fun v6 w7 h8 => ?_)
    rcases h8 with ⟨ew, ⟨ev, e9⟩ | ⟨r, hr, ev, e9⟩⟩
    · subst ew
      cases ev
      refine z_istore_n (lv' := [(0, .ref (za g b)), (1, .int (nI (x.toInt.toNat))), (2, .int (-1))]) dX12_nextChange_25 (by decide) rfl ?_
      refine z_iload_n dX12_nextChange_26 rfl ?_
      refine z_iconst (v := -1) dX12_nextChange_27 rfl ?_
      have hk10 : (-1 : Int32).toInt = -1 := by decide
      have hk11 : (-1 : Int32).toInt = -1 := by decide
      refine z_icmp_eq_z (tgt := 35) dX12_nextChange_28 (by decide) (fun h_28_9 => ?_) (fun h_28_9 => ?_)
      · refine z_iconst (v := nI 0) dX12_nextChange_35 rfl ?_
        refine z_gets dX12_nextChange_36 kG_RX12_159 rfl (h1.fl (i := 4) (by decide)) ?_
        refine z_callSX (As := [.int (nI (0)), .ref (ze g 4)]) (rest := []) (k := 4) (R2 := zR 1 1) dX12_nextChange_39 kS_RX12_178 rfl rfl ⟨⟨by decide, by decide⟩, by decide, by decide⟩ rfl (Nat.le_of_ble_eq_true rfl) rfl (c_X12_raiseUnless_n (f := 4) h0 h1 (by decide) (by decide)) ?_
        exact ⟨zAns_n (by rw [e9]; (repeat' split) <;> omega) (by decide), hf5, hx5⟩
      · exact absurd rfl h_28_9
    · subst ew
      cases ev
      refine z_istore_n (lv' := [(0, .ref (za g b)), (1, .int (nI (x.toInt.toNat))), (2, .int (nI (r)))]) dX12_nextChange_25 (by decide) rfl ?_
      refine z_iload_n dX12_nextChange_26 rfl ?_
      refine z_iconst (v := -1) dX12_nextChange_27 rfl ?_
      have hk13 := nI_toInt (n := r) (by omega)
      have hk14 : (-1 : Int32).toInt = -1 := by decide
      refine z_icmp_eq_z (tgt := 35) dX12_nextChange_28 (by decide) (fun h_28_12 => ?_) (fun h_28_12 => ?_)
      · (have q9 := h_28_12; rw [nI_toInt (show r < 2 ^ 31 by omega), show (-1 : Int32).toInt = -1 from rfl] at q9; omega)
      · refine z_iconst (v := nI 1) dX12_nextChange_31 rfl ?_
        refine z_goto (tgt := 36) dX12_nextChange_32 (by decide) ?_
        refine z_gets dX12_nextChange_36 kG_RX12_159 rfl (h1.fl (i := 4) (by decide)) ?_
        refine z_callSE (As := [.int (nI (1)), .ref (ze g 4)]) (rest := []) (v := none) (R2 := zR 1 1) dX12_nextChange_39 kS_RX12_178 rfl rfl ⟨⟨by decide, by decide⟩, by decide, by decide⟩ rfl (Nat.le_of_ble_eq_true rfl) rfl (c_X12_raiseUnless_y h0 h1) ?_
        refine z_aload_n dX12_nextChange_42 rfl ?_
        refine z_getf (j := b) dX12_nextChange_43 kF_RX12_32 rfl (by omega) hx5.ce rfl ?_
        refine z_iload_n dX12_nextChange_46 rfl ?_
        refine z_callE (As := [.int (nI (r))]) (rest := []) (b := b + 80) (ci := 8) (v := some (.int (nI (s5 (r))))) (R2 := zR 0 0) dX12_nextChange_47 kV_RX12_197 rfl ⟨⟨by decide, by decide⟩, by decide, by decide⟩ (by omega) hR5.2.1 rfl rfl rfl (Nat.le_of_ble_eq_true rfl) rfl (c_X8_startOf (t := r) h0 hR5 (by omega)) ?_
        refine z_iret dX12_nextChange_50 rfl (by decide) (by decide) ?_
        exact ⟨zAns_y (by rw [e9]; (repeat' split) <;> omega) (by rw [e9]; rfl), hf5, hx5⟩
  · refine z_callE (As := [.int (x)]) (rest := []) (b := b + 1 + 1) (ci := 5) (v := some (.int (nI (0)))) (R2 := zR 0 0) dX12_nextChange_8 kV_RX12_174 rfl ⟨⟨by decide, by decide⟩, by decide, by decide⟩ (by omega) h.st.tl.cell rfl rfl rfl (Nat.le_of_ble_eq_true rfl) rfl (tc_hasTick_n h0 h.st.tl hc1) ?_
    refine z_gets dX12_nextChange_11 kG_RX12_130 rfl (h1.fl (i := 1) (by decide)) ?_
    refine z_callSX (As := [.int (nI (0)), .ref (ze g 1)]) (rest := []) (k := 1) (R2 := zR 1 1) dX12_nextChange_14 kS_RX12_178 rfl rfl ⟨⟨by decide, by decide⟩, by decide, by decide⟩ rfl (Nat.le_of_ble_eq_true rfl) rfl (c_X12_raiseUnless_n (f := 1) h0 h1 (by decide) (by decide)) ?_
    exact ⟨zAns_n (by (repeat' split) <;> omega) (by decide), zFr.rf, h⟩
set_option maxRecDepth 100000 in
set_option maxHeartbeats 4000000 in
theorem c_X12_findRun {g : zGT} {w : zW} {b : Nat} {S : zSt} {Hs : List zSt} {Sn : Option zSt} {I O : List Nat} {ep fc : Int32} {x y : Int32} (h0 : zG0 g) (h1 : zST g) (h : Rx g w b S Hs Sn I O ep fc) : zCt g mX12_findRun (zR 4 2) [.ref (za g b), .int (x), .int (y)] w (fun o w' => o = zAns (if (0 ≤ x.toInt ∧ x.toInt ≤ 9) ∧ 1 ≤ y.toInt then (if spFind (gT S.1) S.1.length x.toInt.toNat y.toInt < 0 then 4 else 0) else 2) (some (.int (nI (cS (gT S.1) (spFind (gT S.1) S.1.length x.toInt.toNat y.toInt).toNat)))) ∧ zFr w w' b (b + 101) ∧ Rx g w' b S Hs Sn I O ep fc) := by
  have hb := h.1
  have hn := h.st.len
  refine zCt_of (by decide +kernel) h0 [(0, .ref (za g b)), (1, .int (x)), (2, .int (y))] rfl (Nat.le_of_ble_eq_true rfl) ?_
  refine z_iload_n dX12_findRun_0 rfl ?_
  by_cases hc1 : 0 ≤ x.toInt ∧ x.toInt ≤ 9
  · refine z_callSE (As := [.int (x)]) (rest := []) (v := some (.int (nI (1)))) (R2 := zR 0 0) dX12_findRun_1 kS_RX12_219 rfl rfl ⟨⟨by decide, by decide⟩, by decide, by decide⟩ rfl (Nat.le_of_ble_eq_true rfl) rfl (c_X12_isLevel_y h0 hc1) ?_
    refine z_if_eq_n (a := 1) (tgt := 16) dX12_findRun_4 (by decide) (by omega) (fun h_4_3 => ?_) (fun h_4_3 => ?_)
    · exact absurd h_4_3 (by decide)
    · refine z_iload_n dX12_findRun_7 rfl ?_
      refine z_iconst (v := nI 1) dX12_findRun_8 rfl ?_
      have hk5 := nI_toInt (n := 1) (by omega)
      refine z_icmp_lt_z (tgt := 16) dX12_findRun_9 (by decide) (fun h_9_4 => ?_) (fun h_9_4 => ?_)
      · refine z_iconst (v := nI 0) dX12_findRun_16 rfl ?_
        refine z_gets dX12_findRun_17 kG_RX12_143 rfl (h1.fl (i := 2) (by decide)) ?_
        refine z_callSX (As := [.int (nI (0)), .ref (ze g 2)]) (rest := []) (k := 2) (R2 := zR 1 1) dX12_findRun_20 kS_RX12_178 rfl rfl ⟨⟨by decide, by decide⟩, by decide, by decide⟩ rfl (Nat.le_of_ble_eq_true rfl) rfl (c_X12_raiseUnless_n (f := 2) h0 h1 (by decide) (by decide)) ?_
        exact ⟨zAns_n (by (repeat' split) <;> omega) (by decide), zFr.rf, h⟩
      · refine z_iconst (v := nI 1) dX12_findRun_12 rfl ?_
        refine z_goto (tgt := 17) dX12_findRun_13 (by decide) ?_
        refine z_gets dX12_findRun_17 kG_RX12_143 rfl (h1.fl (i := 2) (by decide)) ?_
        refine z_callSE (As := [.int (nI (1)), .ref (ze g 2)]) (rest := []) (v := none) (R2 := zR 1 1) dX12_findRun_20 kS_RX12_178 rfl rfl ⟨⟨by decide, by decide⟩, by decide, by decide⟩ rfl (Nat.le_of_ble_eq_true rfl) rfl (c_X12_raiseUnless_y h0 h1) ?_
        refine z_eq (lv' := [(0, .ref (za g b)), (1, .int (nI (x.toInt.toNat))), (2, .int (y))]) rfl rfl (by rw [← i_nat (x := x) (by omega)]) ?_
        refine z_aload_n dX12_findRun_23 rfl ?_
        refine z_callR (As := []) (rest := []) (b := b) (ci := 11) (v := some (.ref (za g (b + 80)))) (R2 := zR 2 0) dX12_findRun_24 kV_RX12_186 rfl ⟨⟨by decide, by decide⟩, by decide, by decide⟩ (by omega) h.ce rfl rfl rfl (Nat.le_of_ble_eq_true rfl) rfl (c_X12_currentRuns h0 h1 h) (fun w7 pw7 => ?_)
        obtain ⟨hf8, hx8, m8, s8, l8, v8, hR8, hI8⟩ := pw7
        have hm8 := hR8.2.2.1
        refine z_iload_n dX12_findRun_27 rfl ?_
        refine z_iload_n dX12_findRun_28 rfl ?_
        refine z_callV (As := [.int (nI (x.toInt.toNat)), .int (y)]) (rest := []) (b := b + 80) (ci := 8) (R2 := zR 1 0) dX12_findRun_29 kV_RX12_254 rfl ⟨⟨by decide, by decide⟩, by decide, by decide⟩ (by omega) hR8.2.1 rfl rfl rfl (Nat.le_of_ble_eq_true rfl) rfl (t_with (x := x.toInt.toNat) (q := y) h0 hR8 hI8 (by omega)) (fun E w1 h => by rcases h with ⟨-, ⟨e, -⟩ | ⟨r, -, e, -⟩⟩ <;> cases e) (fun v9 w10 h11 => ?_)
        rcases h11 with ⟨ew, ⟨ev, e9⟩ | ⟨r, hr, ev, e9⟩⟩
        · subst ew
          cases ev
          refine z_istore_n (lv' := [(0, .ref (za g b)), (1, .int (nI (x.toInt.toNat))), (2, .int (y)), (3, .int (-1))]) dX12_findRun_32 (by decide) rfl ?_
          refine z_iload_n dX12_findRun_33 rfl ?_
          refine z_iconst (v := -1) dX12_findRun_34 rfl ?_
          have hk13 : (-1 : Int32).toInt = -1 := by decide
          have hk14 : (-1 : Int32).toInt = -1 := by decide
          refine z_icmp_eq_z (tgt := 42) dX12_findRun_35 (by decide) (fun h_35_12 => ?_) (fun h_35_12 => ?_)
          · refine z_iconst (v := nI 0) dX12_findRun_42 rfl ?_
            refine z_gets dX12_findRun_43 kG_RX12_159 rfl (h1.fl (i := 4) (by decide)) ?_
            refine z_callSX (As := [.int (nI (0)), .ref (ze g 4)]) (rest := []) (k := 4) (R2 := zR 1 1) dX12_findRun_46 kS_RX12_178 rfl rfl ⟨⟨by decide, by decide⟩, by decide, by decide⟩ rfl (Nat.le_of_ble_eq_true rfl) rfl (c_X12_raiseUnless_n (f := 4) h0 h1 (by decide) (by decide)) ?_
            exact ⟨zAns_n (by rw [e9]; (repeat' split) <;> omega) (by decide), hf8, hx8⟩
          · exact absurd rfl h_35_12
        · subst ew
          cases ev
          refine z_istore_n (lv' := [(0, .ref (za g b)), (1, .int (nI (x.toInt.toNat))), (2, .int (y)), (3, .int (nI (r)))]) dX12_findRun_32 (by decide) rfl ?_
          refine z_iload_n dX12_findRun_33 rfl ?_
          refine z_iconst (v := -1) dX12_findRun_34 rfl ?_
          have hk16 := nI_toInt (n := r) (by omega)
          have hk17 : (-1 : Int32).toInt = -1 := by decide
          refine z_icmp_eq_z (tgt := 42) dX12_findRun_35 (by decide) (fun h_35_15 => ?_) (fun h_35_15 => ?_)
          · (have q9 := h_35_15; rw [nI_toInt (show r < 2 ^ 31 by omega), show (-1 : Int32).toInt = -1 from rfl] at q9; omega)
          · refine z_iconst (v := nI 1) dX12_findRun_38 rfl ?_
            refine z_goto (tgt := 43) dX12_findRun_39 (by decide) ?_
            refine z_gets dX12_findRun_43 kG_RX12_159 rfl (h1.fl (i := 4) (by decide)) ?_
            refine z_callSE (As := [.int (nI (1)), .ref (ze g 4)]) (rest := []) (v := none) (R2 := zR 1 1) dX12_findRun_46 kS_RX12_178 rfl rfl ⟨⟨by decide, by decide⟩, by decide, by decide⟩ rfl (Nat.le_of_ble_eq_true rfl) rfl (c_X12_raiseUnless_y h0 h1) ?_
            refine z_iload_n dX12_findRun_49 rfl ?_
            refine z_iret dX12_findRun_50 rfl (by decide) (by decide) ?_
            exact ⟨zAns_y (by rw [e9]; (repeat' split) <;> omega) (by rw [e9, Int.toNat_natCast, hI8.cS_at r hr]), hf8, hx8⟩
  · refine z_callSE (As := [.int (x)]) (rest := []) (v := some (.int (nI (0)))) (R2 := zR 0 0) dX12_findRun_1 kS_RX12_219 rfl rfl ⟨⟨by decide, by decide⟩, by decide, by decide⟩ rfl (Nat.le_of_ble_eq_true rfl) rfl (c_X12_isLevel_n h0 hc1) ?_
    refine z_if_eq_n (a := 0) (tgt := 16) dX12_findRun_4 (by decide) (by omega) (fun h_4_20 => ?_) (fun h_4_20 => ?_)
    · refine z_iconst (v := nI 0) dX12_findRun_16 rfl ?_
      refine z_gets dX12_findRun_17 kG_RX12_143 rfl (h1.fl (i := 2) (by decide)) ?_
      refine z_callSX (As := [.int (nI (0)), .ref (ze g 2)]) (rest := []) (k := 2) (R2 := zR 1 1) dX12_findRun_20 kS_RX12_178 rfl rfl ⟨⟨by decide, by decide⟩, by decide, by decide⟩ rfl (Nat.le_of_ble_eq_true rfl) rfl (c_X12_raiseUnless_n (f := 2) h0 h1 (by decide) (by decide)) ?_
      exact ⟨zAns_n (by (repeat' split) <;> omega) (by decide), zFr.rf, h⟩
    · exact absurd h_4_20 (by decide)
set_option maxRecDepth 100000 in
set_option maxHeartbeats 4000000 in
theorem c_X12_tickCountToDivideBy {g : zGT} {w : zW} {b : Nat} {S : zSt} {Hs : List zSt} {Sn : Option zSt} {I O : List Nat} {ep fc : Int32}  (h0 : zG0 g) (h1 : zST g) (h : Rx g w b S Hs Sn I O ep fc) : zCt g mX12_tickCountToDivideBy (zR 1 1) [.ref (za g b)] w (fun o w' => o = zAns (if S.1.length = 0 then 5 else 0) (some (.int (nI S.1.length))) ∧ zFr w w' b (b + 101) ∧ Rx g w' b S Hs Sn I O ep fc) := by
  have hb := h.1
  have hn := h.st.len
  refine zCt_of (by decide +kernel) h0 [(0, .ref (za g b))] rfl (Nat.le_of_ble_eq_true rfl) ?_
  refine z_aload_n dX12_tickCountToDivideBy_0 rfl ?_
  refine z_getf (j := b) dX12_tickCountToDivideBy_1 kF_RX12_12 rfl (by omega) h.ce rfl ?_
  refine z_getfN (j := b + 1) dX12_tickCountToDivideBy_4 kN_RX12_167 rfl (by omega) h.st.cell rfl ?_
  refine z_callE (As := []) (rest := []) (b := b + 1 + 1) (ci := 5) (v := some (.int (nI (S.1.length)))) (R2 := zR 0 0) dX12_tickCountToDivideBy_7 kV_RX12_170 rfl ⟨⟨by decide, by decide⟩, by decide, by decide⟩ (by omega) h.st.tl.cell rfl rfl rfl (Nat.le_of_ble_eq_true rfl) rfl (tc_size h0 h.st.tl) ?_
  refine z_istore_n (lv' := [(0, .ref (za g b)), (1, .int (nI (S.1.length)))]) dX12_tickCountToDivideBy_10 (by decide) rfl ?_
  refine z_iload_n dX12_tickCountToDivideBy_11 rfl ?_
  refine z_iconst (v := nI 1) dX12_tickCountToDivideBy_12 rfl ?_
  refine z_icmp_ge_n (a := S.1.length) (b := 1) (tgt := 27) dX12_tickCountToDivideBy_13 (by decide) (by omega) (by omega) (fun h_13_2 => ?_) (fun h_13_2 => ?_)
  · refine z_iload_n dX12_tickCountToDivideBy_27 rfl ?_
    refine z_iret dX12_tickCountToDivideBy_28 rfl (by decide) (by decide) ?_
    exact ⟨zAns_y (by rw [if_neg (by omega)]) rfl, zFr.rf, h⟩
  · exact z_throwW (cls := exN 5) (names := exNm) h1 rfl (by decide +kernel) (by decide +kernel) (by decide +kernel) h1.2.2.2.2.2.1.2.2.2.2.2.2.2 dX12_tickCountToDivideBy_16 dX12_tickCountToDivideBy_19 dX12_tickCountToDivideBy_20 dX12_tickCountToDivideBy_23 dX12_tickCountToDivideBy_26 ⟨⟨by decide, by decide⟩, by decide, by decide⟩ ⟨zAns_n (by rw [if_pos (by omega)]) (by decide), zFr.rf, h⟩
