/-! the reference: its questions -/
set_option maxRecDepth 100000 in
set_option maxHeartbeats 4000000 in
theorem c_X13_duration {g : zGT} {w : zW} {b : Nat} {S : zSt} {Hs : List zSt} {Sn : Option zSt} {I O : List Nat} {ep fc : Int32} {t : Nat}  (h0 : zG0 g) (hq : Mq g w b (S) (Hs) (Sn) (I) (O) (ep) (fc) (t)) : zCt g mX13_duration (zR 4 0) [.ref (za g b)] w (fun o w' => o = .inl (some (.int (nI (S.1.length)))) ∧ zFr w w' b (b + 11) ∧ Mq g w' b (S) (Hs) (Sn) (I) (O) (ep) (fc) (0)) := by
  obtain ⟨po, en, kn, wr, dg, fv, fb, fs, fp, fh, ft, fl, fi, h, hv, hp, hsn, htx, hou, hep⟩ := hq
  have hb := h.1
  have hl := hv.len
  refine zCt_of (by decide +kernel) h0 [(0, .ref (za g b))] rfl (Nat.le_of_ble_eq_true rfl) ?_
  refine z_aload_n dX13_duration_0 rfl ?_
  refine z_iconst (v := nI 0) dX13_duration_1 rfl ?_
  refine z_putf (j := b) dX13_duration_2 kF_RX13_47 zt_12_0 rfl (by omega) h.ce rfl rfl (Nat.le_of_ble_eq_true rfl) ?_
  obtain ⟨w1, ew2⟩ : ∃ wz : zW, wz = va_up w (b) (zO 12 [.int (nI (0)), .int (nI (Hs.length)), .int (ep), .int (fc), .int (nI (if Sn.isSome then 1 else 0)), .ref (za g (b + 1)), .ref (za g (b + 2)), .ref (za g (b + 3)), .ref (za g (b + 4)), .ref (za g (b + 5)), .ref (za g (b + 6)), .ref (za g (b + 7)), .ref (za g (b + 8)), .ref (za g (b + 9)), .ref (za g (b + 10)), .int (nI (I.length)), .int (po), .int (en), .int (nI (O.length)), .int (kn), .int (wr), .int (dg)]) := ⟨_, rfl⟩
  refine z_weq (w' := w1) ew2.symm ?_
  have hf3 : zFr w w1 (b) (b + 1) := by rw [ew2]; exact zFr.up (by omega)
  have hw4 : w1 (b) = zO 12 [.int (nI (0)), .int (nI (Hs.length)), .int (ep), .int (fc), .int (nI (if Sn.isSome then 1 else 0)), .ref (za g (b + 1)), .ref (za g (b + 2)), .ref (za g (b + 3)), .ref (za g (b + 4)), .ref (za g (b + 5)), .ref (za g (b + 6)), .ref (za g (b + 7)), .ref (za g (b + 8)), .ref (za g (b + 9)), .ref (za g (b + 10)), .int (nI (I.length)), .int (po), .int (en), .int (nI (O.length)), .int (kn), .int (wr), .int (dg)] := by rw [ew2, zup_s]
  have hx5 := h.setC hf3 hw4
  refine z_aload_n dX13_duration_5 rfl ?_
  refine z_getf (j := b) dX13_duration_6 kF_RX13_16 rfl (by omega) hx5.ce rfl ?_
  refine z_iconst (v := nI 0) dX13_duration_9 rfl ?_
  refine z_iald_v (j := b + 1) (N := 410) (a := 0) (x := S.1.length) (f := fv) dX13_duration_10 (by omega) hx5.r1 (by omega) (by omega) (hv.dur) ?_
  refine z_iret dX13_duration_11 rfl (by decide) (by decide) ?_
  exact ⟨rfl, (hf3.wk (by omega) (by omega)), ⟨_, _, _, _, _, _, _, _, _, _, _, _, _, hx5, hv, hp, hsn, htx, hou, hep⟩⟩
set_option maxRecDepth 100000 in
set_option maxHeartbeats 4000000 in
theorem c_X13_runCount {g : zGT} {w : zW} {b : Nat} {S : zSt} {Hs : List zSt} {Sn : Option zSt} {I O : List Nat} {ep fc : Int32} {t : Nat}  (h0 : zG0 g) (hq : Mq g w b (S) (Hs) (Sn) (I) (O) (ep) (fc) (t)) : zCt g mX13_runCount (zR 4 0) [.ref (za g b)] w (fun o w' => o = .inl (some (.int (nI (cS (gT S.1) S.1.length)))) ∧ zFr w w' b (b + 11) ∧ Mq g w' b (S) (Hs) (Sn) (I) (O) (ep) (fc) (0)) := by
  obtain ⟨po, en, kn, wr, dg, fv, fb, fs, fp, fh, ft, fl, fi, h, hv, hp, hsn, htx, hou, hep⟩ := hq
  have hb := h.1
  have hl := hv.len
  refine zCt_of (by decide +kernel) h0 [(0, .ref (za g b))] rfl (Nat.le_of_ble_eq_true rfl) ?_
  refine z_aload_n dX13_runCount_0 rfl ?_
  refine z_iconst (v := nI 0) dX13_runCount_1 rfl ?_
  refine z_putf (j := b) dX13_runCount_2 kF_RX13_47 zt_12_0 rfl (by omega) h.ce rfl rfl (Nat.le_of_ble_eq_true rfl) ?_
  obtain ⟨w1, ew2⟩ : ∃ wz : zW, wz = va_up w (b) (zO 12 [.int (nI (0)), .int (nI (Hs.length)), .int (ep), .int (fc), .int (nI (if Sn.isSome then 1 else 0)), .ref (za g (b + 1)), .ref (za g (b + 2)), .ref (za g (b + 3)), .ref (za g (b + 4)), .ref (za g (b + 5)), .ref (za g (b + 6)), .ref (za g (b + 7)), .ref (za g (b + 8)), .ref (za g (b + 9)), .ref (za g (b + 10)), .int (nI (I.length)), .int (po), .int (en), .int (nI (O.length)), .int (kn), .int (wr), .int (dg)]) := ⟨_, rfl⟩
  refine z_weq (w' := w1) ew2.symm ?_
  have hf3 : zFr w w1 (b) (b + 1) := by rw [ew2]; exact zFr.up (by omega)
  have hw4 : w1 (b) = zO 12 [.int (nI (0)), .int (nI (Hs.length)), .int (ep), .int (fc), .int (nI (if Sn.isSome then 1 else 0)), .ref (za g (b + 1)), .ref (za g (b + 2)), .ref (za g (b + 3)), .ref (za g (b + 4)), .ref (za g (b + 5)), .ref (za g (b + 6)), .ref (za g (b + 7)), .ref (za g (b + 8)), .ref (za g (b + 9)), .ref (za g (b + 10)), .int (nI (I.length)), .int (po), .int (en), .int (nI (O.length)), .int (kn), .int (wr), .int (dg)] := by rw [ew2, zup_s]
  have hx5 := h.setC hf3 hw4
  refine z_aload_n dX13_runCount_5 rfl ?_
  refine z_callE (As := []) (rest := []) (b := b) (ci := 12) (v := some (.int (nI (cS (gT S.1) S.1.length)))) (R2 := zR 3 0) dX13_runCount_6 kV_RX13_131 rfl ⟨⟨by decide, by decide⟩, by decide, by decide⟩ (by omega) hx5.ce rfl rfl rfl (Nat.le_of_ble_eq_true rfl) rfl (c_X13_runs h0 hx5 hv) ?_
  refine z_iret dX13_runCount_9 rfl (by decide) (by decide) ?_
  exact ⟨rfl, (hf3.wk (by omega) (by omega)), ⟨_, _, _, _, _, _, _, _, _, _, _, _, _, hx5, hv, hp, hsn, htx, hou, hep⟩⟩
set_option maxRecDepth 100000 in
set_option maxHeartbeats 4000000 in
theorem c_X13_restTicks {g : zGT} {w : zW} {b : Nat} {S : zSt} {Hs : List zSt} {Sn : Option zSt} {I O : List Nat} {ep fc : Int32} {t : Nat}  (h0 : zG0 g) (hq : Mq g w b (S) (Hs) (Sn) (I) (O) (ep) (fc) (t)) : zCt g mX13_restTicks (zR 4 0) [.ref (za g b)] w (fun o w' => o = .inl (some (.int (nI (zcnt (fun k => decide (gT S.1 k = 0)) 0 S.1.length)))) ∧ zFr w w' b (b + 11) ∧ Mq g w' b (S) (Hs) (Sn) (I) (O) (ep) (fc) (0)) := by
  obtain ⟨po, en, kn, wr, dg, fv, fb, fs, fp, fh, ft, fl, fi, h, hv, hp, hsn, htx, hou, hep⟩ := hq
  have hb := h.1
  have hl := hv.len
  refine zCt_of (by decide +kernel) h0 [(0, .ref (za g b))] rfl (Nat.le_of_ble_eq_true rfl) ?_
  refine z_aload_n dX13_restTicks_0 rfl ?_
  refine z_iconst (v := nI 0) dX13_restTicks_1 rfl ?_
  refine z_putf (j := b) dX13_restTicks_2 kF_RX13_47 zt_12_0 rfl (by omega) h.ce rfl rfl (Nat.le_of_ble_eq_true rfl) ?_
  obtain ⟨w1, ew2⟩ : ∃ wz : zW, wz = va_up w (b) (zO 12 [.int (nI (0)), .int (nI (Hs.length)), .int (ep), .int (fc), .int (nI (if Sn.isSome then 1 else 0)), .ref (za g (b + 1)), .ref (za g (b + 2)), .ref (za g (b + 3)), .ref (za g (b + 4)), .ref (za g (b + 5)), .ref (za g (b + 6)), .ref (za g (b + 7)), .ref (za g (b + 8)), .ref (za g (b + 9)), .ref (za g (b + 10)), .int (nI (I.length)), .int (po), .int (en), .int (nI (O.length)), .int (kn), .int (wr), .int (dg)]) := ⟨_, rfl⟩
  refine z_weq (w' := w1) ew2.symm ?_
  have hf3 : zFr w w1 (b) (b + 1) := by rw [ew2]; exact zFr.up (by omega)
  have hw4 : w1 (b) = zO 12 [.int (nI (0)), .int (nI (Hs.length)), .int (ep), .int (fc), .int (nI (if Sn.isSome then 1 else 0)), .ref (za g (b + 1)), .ref (za g (b + 2)), .ref (za g (b + 3)), .ref (za g (b + 4)), .ref (za g (b + 5)), .ref (za g (b + 6)), .ref (za g (b + 7)), .ref (za g (b + 8)), .ref (za g (b + 9)), .ref (za g (b + 10)), .int (nI (I.length)), .int (po), .int (en), .int (nI (O.length)), .int (kn), .int (wr), .int (dg)] := by rw [ew2, zup_s]
  have hx5 := h.setC hf3 hw4
  refine z_aload_n dX13_restTicks_5 rfl ?_
  refine z_iconst (v := nI 0) dX13_restTicks_6 rfl ?_
  refine z_callE (As := [.int (nI (0))]) (rest := []) (b := b) (ci := 12) (v := some (.int (nI (zcnt (fun k => decide (gT S.1 k = 0)) 0 S.1.length)))) (R2 := zR 3 0) dX13_restTicks_7 kV_RX13_141 rfl ⟨⟨by decide, by decide⟩, by decide, by decide⟩ (by omega) hx5.ce rfl rfl rfl (Nat.le_of_ble_eq_true rfl) rfl (c_X13_ticksOf (c := 0) h0 hx5 hv (by omega)) ?_
  refine z_iret dX13_restTicks_10 rfl (by decide) (by decide) ?_
  exact ⟨rfl, (hf3.wk (by omega) (by omega)), ⟨_, _, _, _, _, _, _, _, _, _, _, _, _, hx5, hv, hp, hsn, htx, hou, hep⟩⟩
set_option maxRecDepth 100000 in
set_option maxHeartbeats 4000000 in
theorem c_X13_humTicks {g : zGT} {w : zW} {b : Nat} {S : zSt} {Hs : List zSt} {Sn : Option zSt} {I O : List Nat} {ep fc : Int32} {t : Nat}  (h0 : zG0 g) (hq : Mq g w b (S) (Hs) (Sn) (I) (O) (ep) (fc) (t)) : zCt g mX13_humTicks (zR 4 0) [.ref (za g b)] w (fun o w' => o = .inl (some (.int (nI (S.1.length - zcnt (fun k => decide (gT S.1 k = 0)) 0 S.1.length)))) ∧ zFr w w' b (b + 11) ∧ Mq g w' b (S) (Hs) (Sn) (I) (O) (ep) (fc) (0)) := by
  obtain ⟨po, en, kn, wr, dg, fv, fb, fs, fp, fh, ft, fl, fi, h, hv, hp, hsn, htx, hou, hep⟩ := hq
  have hb := h.1
  have hl := hv.len
  refine zCt_of (by decide +kernel) h0 [(0, .ref (za g b))] rfl (Nat.le_of_ble_eq_true rfl) ?_
  refine z_aload_n dX13_humTicks_0 rfl ?_
  refine z_iconst (v := nI 0) dX13_humTicks_1 rfl ?_
  refine z_putf (j := b) dX13_humTicks_2 kF_RX13_47 zt_12_0 rfl (by omega) h.ce rfl rfl (Nat.le_of_ble_eq_true rfl) ?_
  obtain ⟨w1, ew2⟩ : ∃ wz : zW, wz = va_up w (b) (zO 12 [.int (nI (0)), .int (nI (Hs.length)), .int (ep), .int (fc), .int (nI (if Sn.isSome then 1 else 0)), .ref (za g (b + 1)), .ref (za g (b + 2)), .ref (za g (b + 3)), .ref (za g (b + 4)), .ref (za g (b + 5)), .ref (za g (b + 6)), .ref (za g (b + 7)), .ref (za g (b + 8)), .ref (za g (b + 9)), .ref (za g (b + 10)), .int (nI (I.length)), .int (po), .int (en), .int (nI (O.length)), .int (kn), .int (wr), .int (dg)]) := ⟨_, rfl⟩
  refine z_weq (w' := w1) ew2.symm ?_
  have hf3 : zFr w w1 (b) (b + 1) := by rw [ew2]; exact zFr.up (by omega)
  have hw4 : w1 (b) = zO 12 [.int (nI (0)), .int (nI (Hs.length)), .int (ep), .int (fc), .int (nI (if Sn.isSome then 1 else 0)), .ref (za g (b + 1)), .ref (za g (b + 2)), .ref (za g (b + 3)), .ref (za g (b + 4)), .ref (za g (b + 5)), .ref (za g (b + 6)), .ref (za g (b + 7)), .ref (za g (b + 8)), .ref (za g (b + 9)), .ref (za g (b + 10)), .int (nI (I.length)), .int (po), .int (en), .int (nI (O.length)), .int (kn), .int (wr), .int (dg)] := by rw [ew2, zup_s]
  have hx5 := h.setC hf3 hw4
  refine z_aload_n dX13_humTicks_5 rfl ?_
  refine z_getf (j := b) dX13_humTicks_6 kF_RX13_16 rfl (by omega) hx5.ce rfl ?_
  refine z_iconst (v := nI 0) dX13_humTicks_9 rfl ?_
  refine z_iald_v (j := b + 1) (N := 410) (a := 0) (x := S.1.length) (f := fv) dX13_humTicks_10 (by omega) hx5.r1 (by omega) (by omega) (hv.dur) ?_
  refine z_aload_n dX13_humTicks_11 rfl ?_
  refine z_iconst (v := nI 0) dX13_humTicks_12 rfl ?_
  refine z_callE (As := [.int (nI (0))]) (rest := [.int (nI (S.1.length))]) (b := b) (ci := 12) (v := some (.int (nI (zcnt (fun k => decide (gT S.1 k = 0)) 0 S.1.length)))) (R2 := zR 3 0) dX13_humTicks_13 kV_RX13_141 rfl ⟨⟨by decide, by decide⟩, by decide, by decide⟩ (by omega) hx5.ce rfl rfl rfl (Nat.le_of_ble_eq_true rfl) rfl (c_X13_ticksOf (c := 0) h0 hx5 hv (by omega)) ?_
  have hcl := zcnt_le (P := fun k => decide (gT S.1 k = 0)) (p := 0) S.1.length
  refine z_isub_n (a := S.1.length) (b := zcnt (fun k => decide (gT S.1 k = 0)) 0 S.1.length) dX13_humTicks_16 (by omega) ?_
  refine z_iret dX13_humTicks_17 rfl (by decide) (by decide) ?_
  exact ⟨rfl, (hf3.wk (by omega) (by omega)), ⟨_, _, _, _, _, _, _, _, _, _, _, _, _, hx5, hv, hp, hsn, htx, hou, hep⟩⟩
set_option maxRecDepth 100000 in
set_option maxHeartbeats 4000000 in
theorem c_X13_markerCount {g : zGT} {w : zW} {b : Nat} {S : zSt} {Hs : List zSt} {Sn : Option zSt} {I O : List Nat} {ep fc : Int32} {t : Nat}  (h0 : zG0 g) (hq : Mq g w b (S) (Hs) (Sn) (I) (O) (ep) (fc) (t)) : zCt g mX13_markerCount (zR 4 0) [.ref (za g b)] w (fun o w' => o = .inl (some (.int (nI (S.2.1.length)))) ∧ zFr w w' b (b + 11) ∧ Mq g w' b (S) (Hs) (Sn) (I) (O) (ep) (fc) (0)) := by
  obtain ⟨po, en, kn, wr, dg, fv, fb, fs, fp, fh, ft, fl, fi, h, hv, hp, hsn, htx, hou, hep⟩ := hq
  have hb := h.1
  have hl := hv.len
  refine zCt_of (by decide +kernel) h0 [(0, .ref (za g b))] rfl (Nat.le_of_ble_eq_true rfl) ?_
  refine z_aload_n dX13_markerCount_0 rfl ?_
  refine z_iconst (v := nI 0) dX13_markerCount_1 rfl ?_
  refine z_putf (j := b) dX13_markerCount_2 kF_RX13_47 zt_12_0 rfl (by omega) h.ce rfl rfl (Nat.le_of_ble_eq_true rfl) ?_
  obtain ⟨w1, ew2⟩ : ∃ wz : zW, wz = va_up w (b) (zO 12 [.int (nI (0)), .int (nI (Hs.length)), .int (ep), .int (fc), .int (nI (if Sn.isSome then 1 else 0)), .ref (za g (b + 1)), .ref (za g (b + 2)), .ref (za g (b + 3)), .ref (za g (b + 4)), .ref (za g (b + 5)), .ref (za g (b + 6)), .ref (za g (b + 7)), .ref (za g (b + 8)), .ref (za g (b + 9)), .ref (za g (b + 10)), .int (nI (I.length)), .int (po), .int (en), .int (nI (O.length)), .int (kn), .int (wr), .int (dg)]) := ⟨_, rfl⟩
  refine z_weq (w' := w1) ew2.symm ?_
  have hf3 : zFr w w1 (b) (b + 1) := by rw [ew2]; exact zFr.up (by omega)
  have hw4 : w1 (b) = zO 12 [.int (nI (0)), .int (nI (Hs.length)), .int (ep), .int (fc), .int (nI (if Sn.isSome then 1 else 0)), .ref (za g (b + 1)), .ref (za g (b + 2)), .ref (za g (b + 3)), .ref (za g (b + 4)), .ref (za g (b + 5)), .ref (za g (b + 6)), .ref (za g (b + 7)), .ref (za g (b + 8)), .ref (za g (b + 9)), .ref (za g (b + 10)), .int (nI (I.length)), .int (po), .int (en), .int (nI (O.length)), .int (kn), .int (wr), .int (dg)] := by rw [ew2, zup_s]
  have hx5 := h.setC hf3 hw4
  refine z_aload_n dX13_markerCount_5 rfl ?_
  refine z_getf (j := b) dX13_markerCount_6 kF_RX13_16 rfl (by omega) hx5.ce rfl ?_
  refine z_iconst (v := nI 1) dX13_markerCount_9 rfl ?_
  refine z_iald_v (j := b + 1) (N := 410) (a := 1) (x := S.2.1.length) (f := fv) dX13_markerCount_10 (by omega) hx5.r1 (by omega) (by omega) (hv.mks) ?_
  refine z_iret dX13_markerCount_11 rfl (by decide) (by decide) ?_
  exact ⟨rfl, (hf3.wk (by omega) (by omega)), ⟨_, _, _, _, _, _, _, _, _, _, _, _, _, hx5, hv, hp, hsn, htx, hou, hep⟩⟩
set_option maxRecDepth 100000 in
set_option maxHeartbeats 4000000 in
theorem c_X13_clipboardLength {g : zGT} {w : zW} {b : Nat} {S : zSt} {Hs : List zSt} {Sn : Option zSt} {I O : List Nat} {ep fc : Int32} {t : Nat}  (h0 : zG0 g) (hq : Mq g w b (S) (Hs) (Sn) (I) (O) (ep) (fc) (t)) : zCt g mX13_clipboardLength (zR 4 0) [.ref (za g b)] w (fun o w' => o = .inl (some (.int (nI (S.2.2.1.length)))) ∧ zFr w w' b (b + 11) ∧ Mq g w' b (S) (Hs) (Sn) (I) (O) (ep) (fc) (0)) := by
  obtain ⟨po, en, kn, wr, dg, fv, fb, fs, fp, fh, ft, fl, fi, h, hv, hp, hsn, htx, hou, hep⟩ := hq
  have hb := h.1
  have hl := hv.len
  refine zCt_of (by decide +kernel) h0 [(0, .ref (za g b))] rfl (Nat.le_of_ble_eq_true rfl) ?_
  refine z_aload_n dX13_clipboardLength_0 rfl ?_
  refine z_iconst (v := nI 0) dX13_clipboardLength_1 rfl ?_
  refine z_putf (j := b) dX13_clipboardLength_2 kF_RX13_47 zt_12_0 rfl (by omega) h.ce rfl rfl (Nat.le_of_ble_eq_true rfl) ?_
  obtain ⟨w1, ew2⟩ : ∃ wz : zW, wz = va_up w (b) (zO 12 [.int (nI (0)), .int (nI (Hs.length)), .int (ep), .int (fc), .int (nI (if Sn.isSome then 1 else 0)), .ref (za g (b + 1)), .ref (za g (b + 2)), .ref (za g (b + 3)), .ref (za g (b + 4)), .ref (za g (b + 5)), .ref (za g (b + 6)), .ref (za g (b + 7)), .ref (za g (b + 8)), .ref (za g (b + 9)), .ref (za g (b + 10)), .int (nI (I.length)), .int (po), .int (en), .int (nI (O.length)), .int (kn), .int (wr), .int (dg)]) := ⟨_, rfl⟩
  refine z_weq (w' := w1) ew2.symm ?_
  have hf3 : zFr w w1 (b) (b + 1) := by rw [ew2]; exact zFr.up (by omega)
  have hw4 : w1 (b) = zO 12 [.int (nI (0)), .int (nI (Hs.length)), .int (ep), .int (fc), .int (nI (if Sn.isSome then 1 else 0)), .ref (za g (b + 1)), .ref (za g (b + 2)), .ref (za g (b + 3)), .ref (za g (b + 4)), .ref (za g (b + 5)), .ref (za g (b + 6)), .ref (za g (b + 7)), .ref (za g (b + 8)), .ref (za g (b + 9)), .ref (za g (b + 10)), .int (nI (I.length)), .int (po), .int (en), .int (nI (O.length)), .int (kn), .int (wr), .int (dg)] := by rw [ew2, zup_s]
  have hx5 := h.setC hf3 hw4
  refine z_aload_n dX13_clipboardLength_5 rfl ?_
  refine z_getf (j := b) dX13_clipboardLength_6 kF_RX13_16 rfl (by omega) hx5.ce rfl ?_
  refine z_iconst (v := nI 2) dX13_clipboardLength_9 rfl ?_
  refine z_iald_v (j := b + 1) (N := 410) (a := 2) (x := S.2.2.1.length) (f := fv) dX13_clipboardLength_10 (by omega) hx5.r1 (by omega) (by omega) (hv.cls) ?_
  refine z_iret dX13_clipboardLength_11 rfl (by decide) (by decide) ?_
  exact ⟨rfl, (hf3.wk (by omega) (by omega)), ⟨_, _, _, _, _, _, _, _, _, _, _, _, _, hx5, hv, hp, hsn, htx, hou, hep⟩⟩
set_option maxRecDepth 100000 in
set_option maxHeartbeats 4000000 in
theorem c_X13_trainCount {g : zGT} {w : zW} {b : Nat} {S : zSt} {Hs : List zSt} {Sn : Option zSt} {I O : List Nat} {ep fc : Int32} {t : Nat}  (h0 : zG0 g) (hq : Mq g w b (S) (Hs) (Sn) (I) (O) (ep) (fc) (t)) : zCt g mX13_trainCount (zR 4 0) [.ref (za g b)] w (fun o w' => o = .inl (some (.int (nI (S.2.2.2)))) ∧ zFr w w' b (b + 11) ∧ Mq g w' b (S) (Hs) (Sn) (I) (O) (ep) (fc) (0)) := by
  obtain ⟨po, en, kn, wr, dg, fv, fb, fs, fp, fh, ft, fl, fi, h, hv, hp, hsn, htx, hou, hep⟩ := hq
  have hb := h.1
  have hl := hv.len
  refine zCt_of (by decide +kernel) h0 [(0, .ref (za g b))] rfl (Nat.le_of_ble_eq_true rfl) ?_
  refine z_aload_n dX13_trainCount_0 rfl ?_
  refine z_iconst (v := nI 0) dX13_trainCount_1 rfl ?_
  refine z_putf (j := b) dX13_trainCount_2 kF_RX13_47 zt_12_0 rfl (by omega) h.ce rfl rfl (Nat.le_of_ble_eq_true rfl) ?_
  obtain ⟨w1, ew2⟩ : ∃ wz : zW, wz = va_up w (b) (zO 12 [.int (nI (0)), .int (nI (Hs.length)), .int (ep), .int (fc), .int (nI (if Sn.isSome then 1 else 0)), .ref (za g (b + 1)), .ref (za g (b + 2)), .ref (za g (b + 3)), .ref (za g (b + 4)), .ref (za g (b + 5)), .ref (za g (b + 6)), .ref (za g (b + 7)), .ref (za g (b + 8)), .ref (za g (b + 9)), .ref (za g (b + 10)), .int (nI (I.length)), .int (po), .int (en), .int (nI (O.length)), .int (kn), .int (wr), .int (dg)]) := ⟨_, rfl⟩
  refine z_weq (w' := w1) ew2.symm ?_
  have hf3 : zFr w w1 (b) (b + 1) := by rw [ew2]; exact zFr.up (by omega)
  have hw4 : w1 (b) = zO 12 [.int (nI (0)), .int (nI (Hs.length)), .int (ep), .int (fc), .int (nI (if Sn.isSome then 1 else 0)), .ref (za g (b + 1)), .ref (za g (b + 2)), .ref (za g (b + 3)), .ref (za g (b + 4)), .ref (za g (b + 5)), .ref (za g (b + 6)), .ref (za g (b + 7)), .ref (za g (b + 8)), .ref (za g (b + 9)), .ref (za g (b + 10)), .int (nI (I.length)), .int (po), .int (en), .int (nI (O.length)), .int (kn), .int (wr), .int (dg)] := by rw [ew2, zup_s]
  have hx5 := h.setC hf3 hw4
  refine z_aload_n dX13_trainCount_5 rfl ?_
  refine z_getf (j := b) dX13_trainCount_6 kF_RX13_16 rfl (by omega) hx5.ce rfl ?_
  refine z_iconst (v := nI 3) dX13_trainCount_9 rfl ?_
  refine z_iald_v (j := b + 1) (N := 410) (a := 3) (x := S.2.2.2) (f := fv) dX13_trainCount_10 (by omega) hx5.r1 (by omega) (by omega) (hv.trs) ?_
  refine z_iret dX13_trainCount_11 rfl (by decide) (by decide) ?_
  exact ⟨rfl, (hf3.wk (by omega) (by omega)), ⟨_, _, _, _, _, _, _, _, _, _, _, _, _, hx5, hv, hp, hsn, htx, hou, hep⟩⟩
set_option maxRecDepth 100000 in
set_option maxHeartbeats 4000000 in
theorem c_X13_isConsistent {g : zGT} {w : zW} {b : Nat} {S : zSt} {Hs : List zSt} {Sn : Option zSt} {I O : List Nat} {ep fc : Int32} {t : Nat}  (h0 : zG0 g) (hq : Mq g w b (S) (Hs) (Sn) (I) (O) (ep) (fc) (t)) : zCt g mX13_isConsistent (zR 4 0) [.ref (za g b)] w (fun o w' => o = .inl (some (.int (nI (1)))) ∧ zFr w w' b (b + 11) ∧ Mq g w' b (S) (Hs) (Sn) (I) (O) (ep) (fc) (0)) := by
  obtain ⟨po, en, kn, wr, dg, fv, fb, fs, fp, fh, ft, fl, fi, h, hv, hp, hsn, htx, hou, hep⟩ := hq
  have hb := h.1
  have hl := hv.len
  refine zCt_of (by decide +kernel) h0 [(0, .ref (za g b))] rfl (Nat.le_of_ble_eq_true rfl) ?_
  refine z_aload_n dX13_isConsistent_0 rfl ?_
  refine z_iconst (v := nI 0) dX13_isConsistent_1 rfl ?_
  refine z_putf (j := b) dX13_isConsistent_2 kF_RX13_47 zt_12_0 rfl (by omega) h.ce rfl rfl (Nat.le_of_ble_eq_true rfl) ?_
  obtain ⟨w1, ew2⟩ : ∃ wz : zW, wz = va_up w (b) (zO 12 [.int (nI (0)), .int (nI (Hs.length)), .int (ep), .int (fc), .int (nI (if Sn.isSome then 1 else 0)), .ref (za g (b + 1)), .ref (za g (b + 2)), .ref (za g (b + 3)), .ref (za g (b + 4)), .ref (za g (b + 5)), .ref (za g (b + 6)), .ref (za g (b + 7)), .ref (za g (b + 8)), .ref (za g (b + 9)), .ref (za g (b + 10)), .int (nI (I.length)), .int (po), .int (en), .int (nI (O.length)), .int (kn), .int (wr), .int (dg)]) := ⟨_, rfl⟩
  refine z_weq (w' := w1) ew2.symm ?_
  have hf3 : zFr w w1 (b) (b + 1) := by rw [ew2]; exact zFr.up (by omega)
  have hw4 : w1 (b) = zO 12 [.int (nI (0)), .int (nI (Hs.length)), .int (ep), .int (fc), .int (nI (if Sn.isSome then 1 else 0)), .ref (za g (b + 1)), .ref (za g (b + 2)), .ref (za g (b + 3)), .ref (za g (b + 4)), .ref (za g (b + 5)), .ref (za g (b + 6)), .ref (za g (b + 7)), .ref (za g (b + 8)), .ref (za g (b + 9)), .ref (za g (b + 10)), .int (nI (I.length)), .int (po), .int (en), .int (nI (O.length)), .int (kn), .int (wr), .int (dg)] := by rw [ew2, zup_s]
  have hx5 := h.setC hf3 hw4
  refine z_aload_n dX13_isConsistent_5 rfl ?_
  refine z_getf (j := b) dX13_isConsistent_6 kF_RX13_16 rfl (by omega) hx5.ce rfl ?_
  refine z_iconst (v := nI 0) dX13_isConsistent_9 rfl ?_
  refine z_iald_v (j := b + 1) (N := 410) (a := 0) (x := S.1.length) (f := fv) dX13_isConsistent_10 (by omega) hx5.r1 (by omega) (by omega) (hv.dur) ?_
  refine z_sipush (v := nI 200) dX13_isConsistent_11 rfl ?_
  refine z_icmp_gt_n (a := S.1.length) (b := 200) (tgt := 21) dX13_isConsistent_14 (by decide) (by omega) (by omega) (fun h_14_6 => ?_) (fun h_14_6 => ?_)
  · (exfalso; omega)
  · refine z_iconst (v := nI 1) dX13_isConsistent_17 rfl ?_
    refine z_goto (tgt := 22) dX13_isConsistent_18 (by decide) ?_
    refine z_zret (ty := .boolean) dX13_isConsistent_22 rfl (by decide) (by decide) rfl ?_
    exact ⟨rfl, (hf3.wk (by omega) (by omega)), ⟨_, _, _, _, _, _, _, _, _, _, _, _, _, hx5, hv, hp, hsn, htx, hou, hep⟩⟩
set_option maxRecDepth 100000 in
set_option maxHeartbeats 4000000 in
theorem c_X13_loudness {g : zGT} {w : zW} {b : Nat} {S : zSt} {Hs : List zSt} {Sn : Option zSt} {I O : List Nat} {ep fc : Int32} {t : Nat}  (h0 : zG0 g) (hq : Mq g w b (S) (Hs) (Sn) (I) (O) (ep) (fc) (t)) : zCt g mX13_loudness (zR 4 0) [.ref (za g b)] w (fun o w' => o = .inl (some (.long (lN (tsum (gT S.1) 0 S.1.length)))) ∧ zFr w w' b (b + 11) ∧ Mq g w' b (S) (Hs) (Sn) (I) (O) (ep) (fc) (0)) := by
  obtain ⟨po, en, kn, wr, dg, fv, fb, fs, fp, fh, ft, fl, fi, h, hv, hp, hsn, htx, hou, hep⟩ := hq
  have hb := h.1
  have hl := hv.len
  refine zCt_of (by decide +kernel) h0 [(0, .ref (za g b))] rfl (Nat.le_of_ble_eq_true rfl) ?_
  refine z_aload_n dX13_loudness_0 rfl ?_
  refine z_iconst (v := nI 0) dX13_loudness_1 rfl ?_
  refine z_putf (j := b) dX13_loudness_2 kF_RX13_47 zt_12_0 rfl (by omega) h.ce rfl rfl (Nat.le_of_ble_eq_true rfl) ?_
  obtain ⟨w1, ew2⟩ : ∃ wz : zW, wz = va_up w (b) (zO 12 [.int (nI (0)), .int (nI (Hs.length)), .int (ep), .int (fc), .int (nI (if Sn.isSome then 1 else 0)), .ref (za g (b + 1)), .ref (za g (b + 2)), .ref (za g (b + 3)), .ref (za g (b + 4)), .ref (za g (b + 5)), .ref (za g (b + 6)), .ref (za g (b + 7)), .ref (za g (b + 8)), .ref (za g (b + 9)), .ref (za g (b + 10)), .int (nI (I.length)), .int (po), .int (en), .int (nI (O.length)), .int (kn), .int (wr), .int (dg)]) := ⟨_, rfl⟩
  refine z_weq (w' := w1) ew2.symm ?_
  have hf3 : zFr w w1 (b) (b + 1) := by rw [ew2]; exact zFr.up (by omega)
  have hw4 : w1 (b) = zO 12 [.int (nI (0)), .int (nI (Hs.length)), .int (ep), .int (fc), .int (nI (if Sn.isSome then 1 else 0)), .ref (za g (b + 1)), .ref (za g (b + 2)), .ref (za g (b + 3)), .ref (za g (b + 4)), .ref (za g (b + 5)), .ref (za g (b + 6)), .ref (za g (b + 7)), .ref (za g (b + 8)), .ref (za g (b + 9)), .ref (za g (b + 10)), .int (nI (I.length)), .int (po), .int (en), .int (nI (O.length)), .int (kn), .int (wr), .int (dg)] := by rw [ew2, zup_s]
  have hx5 := h.setC hf3 hw4
  refine z_aload_n dX13_loudness_5 rfl ?_
  refine z_iconst (v := nI 0) dX13_loudness_6 rfl ?_
  refine z_aload_n dX13_loudness_7 rfl ?_
  refine z_getf (j := b) dX13_loudness_8 kF_RX13_16 rfl (by omega) hx5.ce rfl ?_
  refine z_iconst (v := nI 0) dX13_loudness_11 rfl ?_
  refine z_iald_v (j := b + 1) (N := 410) (a := 0) (x := S.1.length) (f := fv) dX13_loudness_12 (by omega) hx5.r1 (by omega) (by omega) (hv.dur) ?_
  refine z_callE (As := [.int (nI (0)), .int (nI (S.1.length))]) (rest := []) (b := b) (ci := 12) (v := some (.int (nI (tsum (gT S.1) (0) ((S.1.length) - (0)))))) (R2 := zR 3 0) dX13_loudness_13 kV_RX13_144 rfl ⟨⟨by decide, by decide⟩, by decide, by decide⟩ (by omega) hx5.ce rfl rfl rfl (Nat.le_of_ble_eq_true rfl) rfl (c_X13_sum (p := 0) (q := S.1.length) h0 hx5 hv (by omega) (by omega)) ?_
  refine z_i2l dX13_loudness_16 ?_
  refine z_lret dX13_loudness_17 rfl (by decide) (by decide) ?_
  exact ⟨(by have q9 := tsum_le (F := (gT S.1)) (p := 0) (c := 9) (m := S.1.length) (fun k _ _ => hv.le k); rw [Nat.sub_zero, nI_l (by omega)]), (hf3.wk (by omega) (by omega)), ⟨_, _, _, _, _, _, _, _, _, _, _, _, _, hx5, hv, hp, hsn, htx, hou, hep⟩⟩
set_option maxRecDepth 100000 in
set_option maxHeartbeats 4000000 in
theorem c_X13_levelAt {g : zGT} {w : zW} {b : Nat} {S : zSt} {Hs : List zSt} {Sn : Option zSt} {I O : List Nat} {ep fc : Int32} {t : Nat} {x : Int32} (h0 : zG0 g) (hq : Mq g w b (S) (Hs) (Sn) (I) (O) (ep) (fc) (t)) : zCt g mX13_levelAt (zR 4 0) [.ref (za g b), .int (x)] w (fun o w' => ∃ r, o = .inl (some (.int r)) ∧ zFr w w' b (b + 11) ∧ Mq g w' b (S) (Hs) (Sn) (I) (O) (ep) (fc) (if 0 ≤ x.toInt ∧ x.toInt < (S.1.length : Nat) then 0 else 1) ∧ (0 ≤ x.toInt ∧ x.toInt < (S.1.length : Nat) → r = nI (gT S.1 x.toInt.toNat))) := by
  obtain ⟨po, en, kn, wr, dg, fv, fb, fs, fp, fh, ft, fl, fi, h, hv, hp, hsn, htx, hou, hep⟩ := hq
  have hb := h.1
  have hl := hv.len
  refine zCt_of (by decide +kernel) h0 [(0, .ref (za g b)), (1, .int (x))] rfl (Nat.le_of_ble_eq_true rfl) ?_
  refine z_aload_n dX13_levelAt_0 rfl ?_
  refine z_aload_n dX13_levelAt_1 rfl ?_
  refine z_iload_n dX13_levelAt_2 rfl ?_
  by_cases hc1 : 0 ≤ ((x)).toInt ∧ ((x)).toInt < (S.1.length : Nat)
  · refine z_callE (As := [.int (x)]) (rest := [.ref (za g b)]) (b := b) (ci := 12) (v := some (.int (nI (1)))) (R2 := zR 1 0) dX13_levelAt_3 kV_RX13_124 rfl ⟨⟨by decide, by decide⟩, by decide, by decide⟩ (by omega) h.ce rfl rfl rfl (Nat.le_of_ble_eq_true rfl) rfl (c_X13_isTick_y  h0 h hv  hc1) ?_
    refine z_if_eq_n (a := 1) (tgt := 13) dX13_levelAt_6 (by decide) (by omega) (fun h_6_3 => ?_) (fun h_6_3 => ?_)
    · exact absurd h_6_3 (by decide)
    · refine z_iconst (v := nI 0) dX13_levelAt_9 rfl ?_
      refine z_goto (tgt := 14) dX13_levelAt_10 (by decide) ?_
      refine z_putf (j := b) dX13_levelAt_14 kF_RX13_47 zt_12_0 rfl (by omega) h.ce rfl rfl (Nat.le_of_ble_eq_true rfl) ?_
      obtain ⟨w4, ew5⟩ : ∃ wz : zW, wz = va_up w (b) (zO 12 [.int (nI (0)), .int (nI (Hs.length)), .int (ep), .int (fc), .int (nI (if Sn.isSome then 1 else 0)), .ref (za g (b + 1)), .ref (za g (b + 2)), .ref (za g (b + 3)), .ref (za g (b + 4)), .ref (za g (b + 5)), .ref (za g (b + 6)), .ref (za g (b + 7)), .ref (za g (b + 8)), .ref (za g (b + 9)), .ref (za g (b + 10)), .int (nI (I.length)), .int (po), .int (en), .int (nI (O.length)), .int (kn), .int (wr), .int (dg)]) := ⟨_, rfl⟩
      refine z_weq (w' := w4) ew5.symm ?_
      have hf6 : zFr w w4 (b) (b + 1) := by rw [ew5]; exact zFr.up (by omega)
      have hw7 : w4 (b) = zO 12 [.int (nI (0)), .int (nI (Hs.length)), .int (ep), .int (fc), .int (nI (if Sn.isSome then 1 else 0)), .ref (za g (b + 1)), .ref (za g (b + 2)), .ref (za g (b + 3)), .ref (za g (b + 4)), .ref (za g (b + 5)), .ref (za g (b + 6)), .ref (za g (b + 7)), .ref (za g (b + 8)), .ref (za g (b + 9)), .ref (za g (b + 10)), .int (nI (I.length)), .int (po), .int (en), .int (nI (O.length)), .int (kn), .int (wr), .int (dg)] := by rw [ew5, zup_s]
      have hx8 := h.setC hf6 hw7
      refine z_aload_n dX13_levelAt_17 rfl ?_
      refine z_getf (j := b) dX13_levelAt_18 kF_RX13_47 rfl (by omega) hx8.ce rfl ?_
      refine z_if_ne_n (a := 0) (tgt := 32) dX13_levelAt_21 (by decide) (by omega) (fun h_21_9 => ?_) (fun h_21_9 => ?_)
      · exact absurd h_21_9 (by decide)
      · refine z_eq (lv' := [(0, .ref (za g b)), (1, .int (nI (x.toInt.toNat)))]) rfl rfl (by rw [← i_nat (x := x) (by omega)]) ?_
        refine z_aload_n dX13_levelAt_24 rfl ?_
        refine z_iload_n dX13_levelAt_25 rfl ?_
        have hle10 := hv.le (x.toInt.toNat)
        refine z_callE (As := [.int (nI (x.toInt.toNat))]) (rest := []) (b := b) (ci := 12) (v := some (.int (nI (gT S.1 (x.toInt.toNat))))) (R2 := zR 0 0) dX13_levelAt_26 kV_RX13_65 rfl ⟨⟨by decide, by decide⟩, by decide, by decide⟩ (by omega) hx8.ce rfl rfl rfl (Nat.le_of_ble_eq_true rfl) rfl (c_X13_level (t := x.toInt.toNat) (x := gT S.1 (x.toInt.toNat)) h0 hx8 (by omega) (hv.tick (by omega))) ?_
        refine z_goto (tgt := 33) dX13_levelAt_29 (by decide) ?_
        refine z_iret dX13_levelAt_33 rfl (by decide) (by decide) ?_
        refine ⟨_, rfl, (hf6.wk (by omega) (by omega)), ?_, fun _ => rfl⟩
        rw [if_pos (by omega)]
        exact ⟨_, _, _, _, _, _, _, _, _, _, _, _, _, hx8, hv, hp, hsn, htx, hou, hep⟩
  · refine z_callE (As := [.int (x)]) (rest := [.ref (za g b)]) (b := b) (ci := 12) (v := some (.int (nI (0)))) (R2 := zR 1 0) dX13_levelAt_3 kV_RX13_124 rfl ⟨⟨by decide, by decide⟩, by decide, by decide⟩ (by omega) h.ce rfl rfl rfl (Nat.le_of_ble_eq_true rfl) rfl (c_X13_isTick_n  h0 h hv  hc1) ?_
    refine z_if_eq_n (a := 0) (tgt := 13) dX13_levelAt_6 (by decide) (by omega) (fun h_6_13 => ?_) (fun h_6_13 => ?_)
    · refine z_iconst (v := nI 1) dX13_levelAt_13 rfl ?_
      refine z_putf (j := b) dX13_levelAt_14 kF_RX13_47 zt_12_0 rfl (by omega) h.ce rfl rfl (Nat.le_of_ble_eq_true rfl) ?_
      obtain ⟨w14, ew15⟩ : ∃ wz : zW, wz = va_up w (b) (zO 12 [.int (nI (1)), .int (nI (Hs.length)), .int (ep), .int (fc), .int (nI (if Sn.isSome then 1 else 0)), .ref (za g (b + 1)), .ref (za g (b + 2)), .ref (za g (b + 3)), .ref (za g (b + 4)), .ref (za g (b + 5)), .ref (za g (b + 6)), .ref (za g (b + 7)), .ref (za g (b + 8)), .ref (za g (b + 9)), .ref (za g (b + 10)), .int (nI (I.length)), .int (po), .int (en), .int (nI (O.length)), .int (kn), .int (wr), .int (dg)]) := ⟨_, rfl⟩
      refine z_weq (w' := w14) ew15.symm ?_
      have hf16 : zFr w w14 (b) (b + 1) := by rw [ew15]; exact zFr.up (by omega)
      have hw17 : w14 (b) = zO 12 [.int (nI (1)), .int (nI (Hs.length)), .int (ep), .int (fc), .int (nI (if Sn.isSome then 1 else 0)), .ref (za g (b + 1)), .ref (za g (b + 2)), .ref (za g (b + 3)), .ref (za g (b + 4)), .ref (za g (b + 5)), .ref (za g (b + 6)), .ref (za g (b + 7)), .ref (za g (b + 8)), .ref (za g (b + 9)), .ref (za g (b + 10)), .int (nI (I.length)), .int (po), .int (en), .int (nI (O.length)), .int (kn), .int (wr), .int (dg)] := by rw [ew15, zup_s]
      have hx18 := h.setC hf16 hw17
      refine z_aload_n dX13_levelAt_17 rfl ?_
      refine z_getf (j := b) dX13_levelAt_18 kF_RX13_47 rfl (by omega) hx18.ce rfl ?_
      refine z_if_ne_n (a := 1) (tgt := 32) dX13_levelAt_21 (by decide) (by omega) (fun h_21_19 => ?_) (fun h_21_19 => ?_)
      · refine z_iconst (v := nI 0) dX13_levelAt_32 rfl ?_
        refine z_iret dX13_levelAt_33 rfl (by decide) (by decide) ?_
        have q8 : ¬ (0 ≤ x.toInt ∧ x.toInt < (S.1.length : Nat)) := (by omega)
        refine ⟨_, rfl, (hf16.wk (by omega) (by omega)), ?_, fun q9 => absurd q9 q8⟩
        rw [if_neg q8]
        exact ⟨_, _, _, _, _, _, _, _, _, _, _, _, _, hx18, hv, hp, hsn, htx, hou, hep⟩
      · exact absurd h_21_19 (by decide)
    · exact absurd h_6_13 (by decide)
set_option maxRecDepth 100000 in
set_option maxHeartbeats 4000000 in
theorem c_X13_ticksAtLevel {g : zGT} {w : zW} {b : Nat} {S : zSt} {Hs : List zSt} {Sn : Option zSt} {I O : List Nat} {ep fc : Int32} {t : Nat} {x : Int32} (h0 : zG0 g) (hq : Mq g w b (S) (Hs) (Sn) (I) (O) (ep) (fc) (t)) : zCt g mX13_ticksAtLevel (zR 4 0) [.ref (za g b), .int (x)] w (fun o w' => ∃ r, o = .inl (some (.int r)) ∧ zFr w w' b (b + 11) ∧ Mq g w' b (S) (Hs) (Sn) (I) (O) (ep) (fc) (if 0 ≤ x.toInt ∧ x.toInt ≤ 9 then 0 else 1) ∧ (0 ≤ x.toInt ∧ x.toInt ≤ 9 → r = nI (zcnt (fun k => decide (gT S.1 k = x.toInt.toNat)) 0 S.1.length))) := by
  obtain ⟨po, en, kn, wr, dg, fv, fb, fs, fp, fh, ft, fl, fi, h, hv, hp, hsn, htx, hou, hep⟩ := hq
  have hb := h.1
  have hl := hv.len
  refine zCt_of (by decide +kernel) h0 [(0, .ref (za g b)), (1, .int (x))] rfl (Nat.le_of_ble_eq_true rfl) ?_
  refine z_aload_n dX13_ticksAtLevel_0 rfl ?_
  refine z_iload_n dX13_ticksAtLevel_1 rfl ?_
  refine z_iconst (v := nI 0) dX13_ticksAtLevel_2 rfl ?_
  refine z_bipush (v := nI 9) dX13_ticksAtLevel_3 rfl ?_
  by_cases hc1 : ((0 : Nat) : Int) ≤ ((x)).toInt ∧ ((x)).toInt ≤ ((9 : Nat) : Int)
  · refine z_callSE (As := [.int (x), .int (nI (0)), .int (nI (9))]) (rest := [.ref (za g b)]) (v := some (.int (nI (1)))) (R2 := zR 0 0) dX13_ticksAtLevel_5 kS_RX13_57 rfl rfl ⟨⟨by decide, by decide⟩, by decide, by decide⟩ rfl (Nat.le_of_ble_eq_true rfl) rfl (c_X13_isIn_y (x := (x)) (y := (nI (0))) (z := (nI (9))) h0 (by have q0 := nI_toInt (n := 0) (by omega); have q1 := nI_toInt (n := 9) (by omega); omega)) ?_
    refine z_if_eq_n (a := 1) (tgt := 15) dX13_ticksAtLevel_8 (by decide) (by omega) (fun h_8_3 => ?_) (fun h_8_3 => ?_)
    · exact absurd h_8_3 (by decide)
    · refine z_iconst (v := nI 0) dX13_ticksAtLevel_11 rfl ?_
      refine z_goto (tgt := 16) dX13_ticksAtLevel_12 (by decide) ?_
      refine z_putf (j := b) dX13_ticksAtLevel_16 kF_RX13_47 zt_12_0 rfl (by omega) h.ce rfl rfl (Nat.le_of_ble_eq_true rfl) ?_
      obtain ⟨w4, ew5⟩ : ∃ wz : zW, wz = va_up w (b) (zO 12 [.int (nI (0)), .int (nI (Hs.length)), .int (ep), .int (fc), .int (nI (if Sn.isSome then 1 else 0)), .ref (za g (b + 1)), .ref (za g (b + 2)), .ref (za g (b + 3)), .ref (za g (b + 4)), .ref (za g (b + 5)), .ref (za g (b + 6)), .ref (za g (b + 7)), .ref (za g (b + 8)), .ref (za g (b + 9)), .ref (za g (b + 10)), .int (nI (I.length)), .int (po), .int (en), .int (nI (O.length)), .int (kn), .int (wr), .int (dg)]) := ⟨_, rfl⟩
      refine z_weq (w' := w4) ew5.symm ?_
      have hf6 : zFr w w4 (b) (b + 1) := by rw [ew5]; exact zFr.up (by omega)
      have hw7 : w4 (b) = zO 12 [.int (nI (0)), .int (nI (Hs.length)), .int (ep), .int (fc), .int (nI (if Sn.isSome then 1 else 0)), .ref (za g (b + 1)), .ref (za g (b + 2)), .ref (za g (b + 3)), .ref (za g (b + 4)), .ref (za g (b + 5)), .ref (za g (b + 6)), .ref (za g (b + 7)), .ref (za g (b + 8)), .ref (za g (b + 9)), .ref (za g (b + 10)), .int (nI (I.length)), .int (po), .int (en), .int (nI (O.length)), .int (kn), .int (wr), .int (dg)] := by rw [ew5, zup_s]
      have hx8 := h.setC hf6 hw7
      refine z_aload_n dX13_ticksAtLevel_19 rfl ?_
      refine z_getf (j := b) dX13_ticksAtLevel_20 kF_RX13_47 rfl (by omega) hx8.ce rfl ?_
      refine z_if_ne_n (a := 0) (tgt := 34) dX13_ticksAtLevel_23 (by decide) (by omega) (fun h_23_9 => ?_) (fun h_23_9 => ?_)
      · exact absurd h_23_9 (by decide)
      · refine z_eq (lv' := [(0, .ref (za g b)), (1, .int (nI (x.toInt.toNat)))]) rfl rfl (by rw [← i_nat (x := x) (by omega)]) ?_
        refine z_aload_n dX13_ticksAtLevel_26 rfl ?_
        refine z_iload_n dX13_ticksAtLevel_27 rfl ?_
        refine z_callE (As := [.int (nI (x.toInt.toNat))]) (rest := []) (b := b) (ci := 12) (v := some (.int (nI (zcnt (fun k => decide (gT S.1 k = x.toInt.toNat)) 0 S.1.length)))) (R2 := zR 3 0) dX13_ticksAtLevel_28 kV_RX13_141 rfl ⟨⟨by decide, by decide⟩, by decide, by decide⟩ (by omega) hx8.ce rfl rfl rfl (Nat.le_of_ble_eq_true rfl) rfl (c_X13_ticksOf (c := x.toInt.toNat) h0 hx8 hv (by omega)) ?_
        refine z_goto (tgt := 35) dX13_ticksAtLevel_31 (by decide) ?_
        refine z_iret dX13_ticksAtLevel_35 rfl (by decide) (by decide) ?_
        refine ⟨_, rfl, (hf6.wk (by omega) (by omega)), ?_, fun _ => rfl⟩
        rw [if_pos (by omega)]
        exact ⟨_, _, _, _, _, _, _, _, _, _, _, _, _, hx8, hv, hp, hsn, htx, hou, hep⟩
  · refine z_callSE (As := [.int (x), .int (nI (0)), .int (nI (9))]) (rest := [.ref (za g b)]) (v := some (.int (nI (0)))) (R2 := zR 0 0) dX13_ticksAtLevel_5 kS_RX13_57 rfl rfl ⟨⟨by decide, by decide⟩, by decide, by decide⟩ rfl (Nat.le_of_ble_eq_true rfl) rfl (c_X13_isIn_n (x := (x)) (y := (nI (0))) (z := (nI (9))) h0 (by have q0 := nI_toInt (n := 0) (by omega); have q1 := nI_toInt (n := 9) (by omega); omega)) ?_
    refine z_if_eq_n (a := 0) (tgt := 15) dX13_ticksAtLevel_8 (by decide) (by omega) (fun h_8_12 => ?_) (fun h_8_12 => ?_)
    · refine z_iconst (v := nI 1) dX13_ticksAtLevel_15 rfl ?_
      refine z_putf (j := b) dX13_ticksAtLevel_16 kF_RX13_47 zt_12_0 rfl (by omega) h.ce rfl rfl (Nat.le_of_ble_eq_true rfl) ?_
      obtain ⟨w13, ew14⟩ : ∃ wz : zW, wz = va_up w (b) (zO 12 [.int (nI (1)), .int (nI (Hs.length)), .int (ep), .int (fc), .int (nI (if Sn.isSome then 1 else 0)), .ref (za g (b + 1)), .ref (za g (b + 2)), .ref (za g (b + 3)), .ref (za g (b + 4)), .ref (za g (b + 5)), .ref (za g (b + 6)), .ref (za g (b + 7)), .ref (za g (b + 8)), .ref (za g (b + 9)), .ref (za g (b + 10)), .int (nI (I.length)), .int (po), .int (en), .int (nI (O.length)), .int (kn), .int (wr), .int (dg)]) := ⟨_, rfl⟩
      refine z_weq (w' := w13) ew14.symm ?_
      have hf15 : zFr w w13 (b) (b + 1) := by rw [ew14]; exact zFr.up (by omega)
      have hw16 : w13 (b) = zO 12 [.int (nI (1)), .int (nI (Hs.length)), .int (ep), .int (fc), .int (nI (if Sn.isSome then 1 else 0)), .ref (za g (b + 1)), .ref (za g (b + 2)), .ref (za g (b + 3)), .ref (za g (b + 4)), .ref (za g (b + 5)), .ref (za g (b + 6)), .ref (za g (b + 7)), .ref (za g (b + 8)), .ref (za g (b + 9)), .ref (za g (b + 10)), .int (nI (I.length)), .int (po), .int (en), .int (nI (O.length)), .int (kn), .int (wr), .int (dg)] := by rw [ew14, zup_s]
      have hx17 := h.setC hf15 hw16
      refine z_aload_n dX13_ticksAtLevel_19 rfl ?_
      refine z_getf (j := b) dX13_ticksAtLevel_20 kF_RX13_47 rfl (by omega) hx17.ce rfl ?_
      refine z_if_ne_n (a := 1) (tgt := 34) dX13_ticksAtLevel_23 (by decide) (by omega) (fun h_23_18 => ?_) (fun h_23_18 => ?_)
      · refine z_iconst (v := nI 0) dX13_ticksAtLevel_34 rfl ?_
        refine z_iret dX13_ticksAtLevel_35 rfl (by decide) (by decide) ?_
        have q8 : ¬ (0 ≤ x.toInt ∧ x.toInt ≤ 9) := (by omega)
        refine ⟨_, rfl, (hf15.wk (by omega) (by omega)), ?_, fun q9 => absurd q9 q8⟩
        rw [if_neg q8]
        exact ⟨_, _, _, _, _, _, _, _, _, _, _, _, _, hx17, hv, hp, hsn, htx, hou, hep⟩
      · exact absurd h_23_18 (by decide)
    · exact absurd h_8_12 (by decide)
set_option maxRecDepth 100000 in
set_option maxHeartbeats 4000000 in
theorem c_X13_loudnessIn {g : zGT} {w : zW} {b : Nat} {S : zSt} {Hs : List zSt} {Sn : Option zSt} {I O : List Nat} {ep fc : Int32} {t : Nat} {x y : Int32} (h0 : zG0 g) (hq : Mq g w b (S) (Hs) (Sn) (I) (O) (ep) (fc) (t)) : zCt g mX13_loudnessIn (zR 4 0) [.ref (za g b), .int (x), .int (y)] w (fun o w' => ∃ r, o = .inl (some (.int r)) ∧ zFr w w' b (b + 11) ∧ Mq g w' b (S) (Hs) (Sn) (I) (O) (ep) (fc) (if 0 ≤ x.toInt ∧ x.toInt ≤ y.toInt ∧ y.toInt ≤ (S.1.length : Nat) then 0 else 1) ∧ (0 ≤ x.toInt ∧ x.toInt ≤ y.toInt ∧ y.toInt ≤ (S.1.length : Nat) → r = nI (tsum (gT S.1) x.toInt.toNat (y.toInt.toNat - x.toInt.toNat)))) := by
  obtain ⟨po, en, kn, wr, dg, fv, fb, fs, fp, fh, ft, fl, fi, h, hv, hp, hsn, htx, hou, hep⟩ := hq
  have hb := h.1
  have hl := hv.len
  refine zCt_of (by decide +kernel) h0 [(0, .ref (za g b)), (1, .int (x)), (2, .int (y))] rfl (Nat.le_of_ble_eq_true rfl) ?_
  refine z_aload_n dX13_loudnessIn_0 rfl ?_
  refine z_aload_n dX13_loudnessIn_1 rfl ?_
  refine z_iload_n dX13_loudnessIn_2 rfl ?_
  refine z_iload_n dX13_loudnessIn_3 rfl ?_
  by_cases hc1 : 0 ≤ ((x)).toInt ∧ ((x)).toInt ≤ ((y)).toInt ∧ ((y)).toInt ≤ (S.1.length : Nat)
  · refine z_callE (As := [.int (x), .int (y)]) (rest := [.ref (za g b)]) (b := b) (ci := 12) (v := some (.int (nI (1)))) (R2 := zR 0 0) dX13_loudnessIn_4 kV_RX13_86 rfl ⟨⟨by decide, by decide⟩, by decide, by decide⟩ (by omega) h.ce rfl rfl rfl (Nat.le_of_ble_eq_true rfl) rfl (c_X13_isInterval_y h0 h hv hc1) ?_
    refine z_if_eq_n (a := 1) (tgt := 14) dX13_loudnessIn_7 (by decide) (by omega) (fun h_7_3 => ?_) (fun h_7_3 => ?_)
    · exact absurd h_7_3 (by decide)
    · refine z_iconst (v := nI 0) dX13_loudnessIn_10 rfl ?_
      refine z_goto (tgt := 15) dX13_loudnessIn_11 (by decide) ?_
      refine z_putf (j := b) dX13_loudnessIn_15 kF_RX13_47 zt_12_0 rfl (by omega) h.ce rfl rfl (Nat.le_of_ble_eq_true rfl) ?_
      obtain ⟨w4, ew5⟩ : ∃ wz : zW, wz = va_up w (b) (zO 12 [.int (nI (0)), .int (nI (Hs.length)), .int (ep), .int (fc), .int (nI (if Sn.isSome then 1 else 0)), .ref (za g (b + 1)), .ref (za g (b + 2)), .ref (za g (b + 3)), .ref (za g (b + 4)), .ref (za g (b + 5)), .ref (za g (b + 6)), .ref (za g (b + 7)), .ref (za g (b + 8)), .ref (za g (b + 9)), .ref (za g (b + 10)), .int (nI (I.length)), .int (po), .int (en), .int (nI (O.length)), .int (kn), .int (wr), .int (dg)]) := ⟨_, rfl⟩
      refine z_weq (w' := w4) ew5.symm ?_
      have hf6 : zFr w w4 (b) (b + 1) := by rw [ew5]; exact zFr.up (by omega)
      have hw7 : w4 (b) = zO 12 [.int (nI (0)), .int (nI (Hs.length)), .int (ep), .int (fc), .int (nI (if Sn.isSome then 1 else 0)), .ref (za g (b + 1)), .ref (za g (b + 2)), .ref (za g (b + 3)), .ref (za g (b + 4)), .ref (za g (b + 5)), .ref (za g (b + 6)), .ref (za g (b + 7)), .ref (za g (b + 8)), .ref (za g (b + 9)), .ref (za g (b + 10)), .int (nI (I.length)), .int (po), .int (en), .int (nI (O.length)), .int (kn), .int (wr), .int (dg)] := by rw [ew5, zup_s]
      have hx8 := h.setC hf6 hw7
      refine z_aload_n dX13_loudnessIn_18 rfl ?_
      refine z_getf (j := b) dX13_loudnessIn_19 kF_RX13_47 rfl (by omega) hx8.ce rfl ?_
      refine z_if_ne_n (a := 0) (tgt := 34) dX13_loudnessIn_22 (by decide) (by omega) (fun h_22_9 => ?_) (fun h_22_9 => ?_)
      · exact absurd h_22_9 (by decide)
      · refine z_eq (lv' := [(0, .ref (za g b)), (1, .int (nI (x.toInt.toNat))), (2, .int (nI (y.toInt.toNat)))]) rfl rfl (by rw [← i_nat (x := x) (by omega), ← i_nat (x := y) (by omega)]) ?_
        refine z_aload_n dX13_loudnessIn_25 rfl ?_
        refine z_iload_n dX13_loudnessIn_26 rfl ?_
        refine z_iload_n dX13_loudnessIn_27 rfl ?_
        refine z_callE (As := [.int (nI (x.toInt.toNat)), .int (nI (y.toInt.toNat))]) (rest := []) (b := b) (ci := 12) (v := some (.int (nI (tsum (gT S.1) (x.toInt.toNat) ((y.toInt.toNat) - (x.toInt.toNat)))))) (R2 := zR 3 0) dX13_loudnessIn_28 kV_RX13_144 rfl ⟨⟨by decide, by decide⟩, by decide, by decide⟩ (by omega) hx8.ce rfl rfl rfl (Nat.le_of_ble_eq_true rfl) rfl (c_X13_sum (p := x.toInt.toNat) (q := y.toInt.toNat) h0 hx8 hv (by omega) (by omega)) ?_
        refine z_goto (tgt := 35) dX13_loudnessIn_31 (by decide) ?_
        refine z_iret dX13_loudnessIn_35 rfl (by decide) (by decide) ?_
        refine ⟨_, rfl, (hf6.wk (by omega) (by omega)), ?_, fun _ => rfl⟩
        rw [if_pos (by omega)]
        exact ⟨_, _, _, _, _, _, _, _, _, _, _, _, _, hx8, hv, hp, hsn, htx, hou, hep⟩
  · refine z_callE (As := [.int (x), .int (y)]) (rest := [.ref (za g b)]) (b := b) (ci := 12) (v := some (.int (nI (0)))) (R2 := zR 0 0) dX13_loudnessIn_4 kV_RX13_86 rfl ⟨⟨by decide, by decide⟩, by decide, by decide⟩ (by omega) h.ce rfl rfl rfl (Nat.le_of_ble_eq_true rfl) rfl (c_X13_isInterval_n h0 h hv hc1) ?_
    refine z_if_eq_n (a := 0) (tgt := 14) dX13_loudnessIn_7 (by decide) (by omega) (fun h_7_12 => ?_) (fun h_7_12 => ?_)
    · refine z_iconst (v := nI 1) dX13_loudnessIn_14 rfl ?_
      refine z_putf (j := b) dX13_loudnessIn_15 kF_RX13_47 zt_12_0 rfl (by omega) h.ce rfl rfl (Nat.le_of_ble_eq_true rfl) ?_
      obtain ⟨w13, ew14⟩ : ∃ wz : zW, wz = va_up w (b) (zO 12 [.int (nI (1)), .int (nI (Hs.length)), .int (ep), .int (fc), .int (nI (if Sn.isSome then 1 else 0)), .ref (za g (b + 1)), .ref (za g (b + 2)), .ref (za g (b + 3)), .ref (za g (b + 4)), .ref (za g (b + 5)), .ref (za g (b + 6)), .ref (za g (b + 7)), .ref (za g (b + 8)), .ref (za g (b + 9)), .ref (za g (b + 10)), .int (nI (I.length)), .int (po), .int (en), .int (nI (O.length)), .int (kn), .int (wr), .int (dg)]) := ⟨_, rfl⟩
      refine z_weq (w' := w13) ew14.symm ?_
      have hf15 : zFr w w13 (b) (b + 1) := by rw [ew14]; exact zFr.up (by omega)
      have hw16 : w13 (b) = zO 12 [.int (nI (1)), .int (nI (Hs.length)), .int (ep), .int (fc), .int (nI (if Sn.isSome then 1 else 0)), .ref (za g (b + 1)), .ref (za g (b + 2)), .ref (za g (b + 3)), .ref (za g (b + 4)), .ref (za g (b + 5)), .ref (za g (b + 6)), .ref (za g (b + 7)), .ref (za g (b + 8)), .ref (za g (b + 9)), .ref (za g (b + 10)), .int (nI (I.length)), .int (po), .int (en), .int (nI (O.length)), .int (kn), .int (wr), .int (dg)] := by rw [ew14, zup_s]
      have hx17 := h.setC hf15 hw16
      refine z_aload_n dX13_loudnessIn_18 rfl ?_
      refine z_getf (j := b) dX13_loudnessIn_19 kF_RX13_47 rfl (by omega) hx17.ce rfl ?_
      refine z_if_ne_n (a := 1) (tgt := 34) dX13_loudnessIn_22 (by decide) (by omega) (fun h_22_18 => ?_) (fun h_22_18 => ?_)
      · refine z_iconst (v := nI 0) dX13_loudnessIn_34 rfl ?_
        refine z_iret dX13_loudnessIn_35 rfl (by decide) (by decide) ?_
        have q8 : ¬ (0 ≤ x.toInt ∧ x.toInt ≤ y.toInt ∧ y.toInt ≤ (S.1.length : Nat)) := (by omega)
        refine ⟨_, rfl, (hf15.wk (by omega) (by omega)), ?_, fun q9 => absurd q9 q8⟩
        rw [if_neg q8]
        exact ⟨_, _, _, _, _, _, _, _, _, _, _, _, _, hx17, hv, hp, hsn, htx, hou, hep⟩
      · exact absurd h_22_18 (by decide)
    · exact absurd h_7_12 (by decide)
theorem tsum_zc {T : Nat → Nat} {p : Nat} : ∀ {m : Nat}, tsum T p m = 0 ↔ zcnt (fun k => decide (T k ≠ 0)) p m = 0
  | 0 => by simp [tsum, zcnt]
  | m + 1 => by
    have h := tsum_zc (T := T) (p := p) (m := m)
    rw [tsum, zcnt]
    by_cases c : T (p + m) = 0
    · rw [if_neg (show ¬ (decide (T (p + m) ≠ 0) = true) from fun z => of_decide_eq_true z c)]; omega
    · rw [if_pos (show decide (T (p + m) ≠ 0) = true from decide_eq_true c)]; omega
theorem fidx_lt {P : Nat → Bool} {m : Nat} (h : 0 ≤ fidx P m) : (fidx P m).toNat < m := by
  rcases fidx_cases P m with ⟨e, -⟩ | ⟨i, h1, e, -⟩
  · omega
  · omega
set_option maxRecDepth 100000 in
set_option maxHeartbeats 4000000 in
theorem c_X13_isSilent {g : zGT} {w : zW} {b : Nat} {S : zSt} {Hs : List zSt} {Sn : Option zSt} {I O : List Nat} {ep fc : Int32} {t : Nat} {x y : Int32} (h0 : zG0 g) (hq : Mq g w b (S) (Hs) (Sn) (I) (O) (ep) (fc) (t)) : zCt g mX13_isSilent (zR 4 0) [.ref (za g b), .int (x), .int (y)] w (fun o w' => ∃ r, o = .inl (some (.int r)) ∧ zFr w w' b (b + 11) ∧ Mq g w' b (S) (Hs) (Sn) (I) (O) (ep) (fc) (if 0 ≤ x.toInt ∧ x.toInt ≤ y.toInt ∧ y.toInt ≤ (S.1.length : Nat) then 0 else 1) ∧ (0 ≤ x.toInt ∧ x.toInt ≤ y.toInt ∧ y.toInt ≤ (S.1.length : Nat) → r = nI (if zcnt (fun k => decide (gT S.1 k ≠ 0)) x.toInt.toNat (y.toInt.toNat - x.toInt.toNat) = 0 then 1 else 0))) := by
  obtain ⟨po, en, kn, wr, dg, fv, fb, fs, fp, fh, ft, fl, fi, h, hv, hp, hsn, htx, hou, hep⟩ := hq
  have hb := h.1
  have hl := hv.len
  refine zCt_of (by decide +kernel) h0 [(0, .ref (za g b)), (1, .int (x)), (2, .int (y))] rfl (Nat.le_of_ble_eq_true rfl) ?_
  refine z_aload_n dX13_isSilent_0 rfl ?_
  refine z_aload_n dX13_isSilent_1 rfl ?_
  refine z_iload_n dX13_isSilent_2 rfl ?_
  refine z_iload_n dX13_isSilent_3 rfl ?_
  by_cases hc1 : 0 ≤ ((x)).toInt ∧ ((x)).toInt ≤ ((y)).toInt ∧ ((y)).toInt ≤ (S.1.length : Nat)
  · refine z_callE (As := [.int (x), .int (y)]) (rest := [.ref (za g b)]) (b := b) (ci := 12) (v := some (.int (nI (1)))) (R2 := zR 0 0) dX13_isSilent_4 kV_RX13_86 rfl ⟨⟨by decide, by decide⟩, by decide, by decide⟩ (by omega) h.ce rfl rfl rfl (Nat.le_of_ble_eq_true rfl) rfl (c_X13_isInterval_y h0 h hv hc1) ?_
    refine z_if_eq_n (a := 1) (tgt := 14) dX13_isSilent_7 (by decide) (by omega) (fun h_7_3 => ?_) (fun h_7_3 => ?_)
    · exact absurd h_7_3 (by decide)
    · refine z_iconst (v := nI 0) dX13_isSilent_10 rfl ?_
      refine z_goto (tgt := 15) dX13_isSilent_11 (by decide) ?_
      refine z_putf (j := b) dX13_isSilent_15 kF_RX13_47 zt_12_0 rfl (by omega) h.ce rfl rfl (Nat.le_of_ble_eq_true rfl) ?_
      obtain ⟨w4, ew5⟩ : ∃ wz : zW, wz = va_up w (b) (zO 12 [.int (nI (0)), .int (nI (Hs.length)), .int (ep), .int (fc), .int (nI (if Sn.isSome then 1 else 0)), .ref (za g (b + 1)), .ref (za g (b + 2)), .ref (za g (b + 3)), .ref (za g (b + 4)), .ref (za g (b + 5)), .ref (za g (b + 6)), .ref (za g (b + 7)), .ref (za g (b + 8)), .ref (za g (b + 9)), .ref (za g (b + 10)), .int (nI (I.length)), .int (po), .int (en), .int (nI (O.length)), .int (kn), .int (wr), .int (dg)]) := ⟨_, rfl⟩
      refine z_weq (w' := w4) ew5.symm ?_
      have hf6 : zFr w w4 (b) (b + 1) := by rw [ew5]; exact zFr.up (by omega)
      have hw7 : w4 (b) = zO 12 [.int (nI (0)), .int (nI (Hs.length)), .int (ep), .int (fc), .int (nI (if Sn.isSome then 1 else 0)), .ref (za g (b + 1)), .ref (za g (b + 2)), .ref (za g (b + 3)), .ref (za g (b + 4)), .ref (za g (b + 5)), .ref (za g (b + 6)), .ref (za g (b + 7)), .ref (za g (b + 8)), .ref (za g (b + 9)), .ref (za g (b + 10)), .int (nI (I.length)), .int (po), .int (en), .int (nI (O.length)), .int (kn), .int (wr), .int (dg)] := by rw [ew5, zup_s]
      have hx8 := h.setC hf6 hw7
      refine z_aload_n dX13_isSilent_18 rfl ?_
      refine z_getf (j := b) dX13_isSilent_19 kF_RX13_47 rfl (by omega) hx8.ce rfl ?_
      refine z_if_ne_n (a := 0) (tgt := 38) dX13_isSilent_22 (by decide) (by omega) (fun h_22_9 => ?_) (fun h_22_9 => ?_)
      · exact absurd h_22_9 (by decide)
      · refine z_eq (lv' := [(0, .ref (za g b)), (1, .int (nI (x.toInt.toNat))), (2, .int (nI (y.toInt.toNat)))]) rfl rfl (by rw [← i_nat (x := x) (by omega), ← i_nat (x := y) (by omega)]) ?_
        refine z_aload_n dX13_isSilent_25 rfl ?_
        refine z_iload_n dX13_isSilent_26 rfl ?_
        refine z_iload_n dX13_isSilent_27 rfl ?_
        refine z_callE (As := [.int (nI (x.toInt.toNat)), .int (nI (y.toInt.toNat))]) (rest := []) (b := b) (ci := 12) (v := some (.int (nI (tsum (gT S.1) (x.toInt.toNat) ((y.toInt.toNat) - (x.toInt.toNat)))))) (R2 := zR 3 0) dX13_isSilent_28 kV_RX13_144 rfl ⟨⟨by decide, by decide⟩, by decide, by decide⟩ (by omega) hx8.ce rfl rfl rfl (Nat.le_of_ble_eq_true rfl) rfl (c_X13_sum (p := x.toInt.toNat) (q := y.toInt.toNat) h0 hx8 hv (by omega) (by omega)) ?_
        have hsl := tsum_le (F := (gT S.1)) (p := x.toInt.toNat) (c := 9) (m := y.toInt.toNat - x.toInt.toNat) (fun k _ _ => hv.le k)
        refine z_if_ne_n (a := tsum (gT S.1) (x.toInt.toNat) ((y.toInt.toNat) - (x.toInt.toNat))) (tgt := 38) dX13_isSilent_31 (by decide) (by omega) (fun h_31_11 => ?_) (fun h_31_11 => ?_)
        · refine z_iconst (v := nI 0) dX13_isSilent_38 rfl ?_
          refine z_zret (ty := .boolean) dX13_isSilent_39 rfl (by decide) (by decide) rfl ?_
          refine ⟨_, rfl, (hf6.wk (by omega) (by omega)), ?_, fun _ => by have q7 := tsum_zc (T := (gT S.1)) (p := x.toInt.toNat) (m := y.toInt.toNat - x.toInt.toNat); first | (rw [if_pos (by omega)]) | (rw [if_neg (by omega)])⟩
          rw [if_pos (by omega)]
          exact ⟨_, _, _, _, _, _, _, _, _, _, _, _, _, hx8, hv, hp, hsn, htx, hou, hep⟩
        · refine z_iconst (v := nI 1) dX13_isSilent_34 rfl ?_
          refine z_goto (tgt := 39) dX13_isSilent_35 (by decide) ?_
          refine z_zret (ty := .boolean) dX13_isSilent_39 rfl (by decide) (by decide) rfl ?_
          refine ⟨_, rfl, (hf6.wk (by omega) (by omega)), ?_, fun _ => by have q7 := tsum_zc (T := (gT S.1)) (p := x.toInt.toNat) (m := y.toInt.toNat - x.toInt.toNat); first | (rw [if_pos (by omega)]) | (rw [if_neg (by omega)])⟩
          rw [if_pos (by omega)]
          exact ⟨_, _, _, _, _, _, _, _, _, _, _, _, _, hx8, hv, hp, hsn, htx, hou, hep⟩
  · refine z_callE (As := [.int (x), .int (y)]) (rest := [.ref (za g b)]) (b := b) (ci := 12) (v := some (.int (nI (0)))) (R2 := zR 0 0) dX13_isSilent_4 kV_RX13_86 rfl ⟨⟨by decide, by decide⟩, by decide, by decide⟩ (by omega) h.ce rfl rfl rfl (Nat.le_of_ble_eq_true rfl) rfl (c_X13_isInterval_n h0 h hv hc1) ?_
    refine z_if_eq_n (a := 0) (tgt := 14) dX13_isSilent_7 (by decide) (by omega) (fun h_7_13 => ?_) (fun h_7_13 => ?_)
    · refine z_iconst (v := nI 1) dX13_isSilent_14 rfl ?_
      refine z_putf (j := b) dX13_isSilent_15 kF_RX13_47 zt_12_0 rfl (by omega) h.ce rfl rfl (Nat.le_of_ble_eq_true rfl) ?_
      obtain ⟨w14, ew15⟩ : ∃ wz : zW, wz = va_up w (b) (zO 12 [.int (nI (1)), .int (nI (Hs.length)), .int (ep), .int (fc), .int (nI (if Sn.isSome then 1 else 0)), .ref (za g (b + 1)), .ref (za g (b + 2)), .ref (za g (b + 3)), .ref (za g (b + 4)), .ref (za g (b + 5)), .ref (za g (b + 6)), .ref (za g (b + 7)), .ref (za g (b + 8)), .ref (za g (b + 9)), .ref (za g (b + 10)), .int (nI (I.length)), .int (po), .int (en), .int (nI (O.length)), .int (kn), .int (wr), .int (dg)]) := ⟨_, rfl⟩
      refine z_weq (w' := w14) ew15.symm ?_
      have hf16 : zFr w w14 (b) (b + 1) := by rw [ew15]; exact zFr.up (by omega)
      have hw17 : w14 (b) = zO 12 [.int (nI (1)), .int (nI (Hs.length)), .int (ep), .int (fc), .int (nI (if Sn.isSome then 1 else 0)), .ref (za g (b + 1)), .ref (za g (b + 2)), .ref (za g (b + 3)), .ref (za g (b + 4)), .ref (za g (b + 5)), .ref (za g (b + 6)), .ref (za g (b + 7)), .ref (za g (b + 8)), .ref (za g (b + 9)), .ref (za g (b + 10)), .int (nI (I.length)), .int (po), .int (en), .int (nI (O.length)), .int (kn), .int (wr), .int (dg)] := by rw [ew15, zup_s]
      have hx18 := h.setC hf16 hw17
      refine z_aload_n dX13_isSilent_18 rfl ?_
      refine z_getf (j := b) dX13_isSilent_19 kF_RX13_47 rfl (by omega) hx18.ce rfl ?_
      refine z_if_ne_n (a := 1) (tgt := 38) dX13_isSilent_22 (by decide) (by omega) (fun h_22_19 => ?_) (fun h_22_19 => ?_)
      · refine z_iconst (v := nI 0) dX13_isSilent_38 rfl ?_
        refine z_zret (ty := .boolean) dX13_isSilent_39 rfl (by decide) (by decide) rfl ?_
        have q8 : ¬ (0 ≤ x.toInt ∧ x.toInt ≤ y.toInt ∧ y.toInt ≤ (S.1.length : Nat)) := (by omega)
        refine ⟨_, rfl, (hf16.wk (by omega) (by omega)), ?_, fun q9 => absurd q9 q8⟩
        rw [if_neg q8]
        exact ⟨_, _, _, _, _, _, _, _, _, _, _, _, _, hx18, hv, hp, hsn, htx, hou, hep⟩
      · exact absurd h_22_19 (by decide)
    · exact absurd h_7_13 (by decide)
set_option maxRecDepth 100000 in
set_option maxHeartbeats 4000000 in
theorem c_X13_markerTime {g : zGT} {w : zW} {b : Nat} {S : zSt} {Hs : List zSt} {Sn : Option zSt} {I O : List Nat} {ep fc : Int32} {t : Nat} {x : Int32} (h0 : zG0 g) (hq : Mq g w b (S) (Hs) (Sn) (I) (O) (ep) (fc) (t)) : zCt g mX13_markerTime (zR 4 0) [.ref (za g b), .int (x)] w (fun o w' => ∃ r, o = .inl (some (.int r)) ∧ zFr w w' b (b + 11) ∧ Mq g w' b (S) (Hs) (Sn) (I) (O) (ep) (fc) (if 0 ≤ x.toInt ∧ x.toInt < (S.2.1.length : Nat) then 0 else 1) ∧ (0 ≤ x.toInt ∧ x.toInt < (S.2.1.length : Nat) → r = nI (S.2.1.getD x.toInt.toNat 0))) := by
  obtain ⟨po, en, kn, wr, dg, fv, fb, fs, fp, fh, ft, fl, fi, h, hv, hp, hsn, htx, hou, hep⟩ := hq
  have hb := h.1
  have hl := hv.len
  have hz := pk_sub_toInt (a := S.2.1.length) (b := 1) (by omega) (by omega)
  refine zCt_of (by decide +kernel) h0 [(0, .ref (za g b)), (1, .int (x))] rfl (Nat.le_of_ble_eq_true rfl) ?_
  refine z_aload_n dX13_markerTime_0 rfl ?_
  refine z_iload_n dX13_markerTime_1 rfl ?_
  refine z_iconst (v := nI 0) dX13_markerTime_2 rfl ?_
  refine z_aload_n dX13_markerTime_3 rfl ?_
  refine z_getf (j := b) dX13_markerTime_4 kF_RX13_16 rfl (by omega) h.ce rfl ?_
  refine z_iconst (v := nI 1) dX13_markerTime_7 rfl ?_
  refine z_iald_v (j := b + 1) (N := 410) (a := 1) (x := S.2.1.length) (f := fv) dX13_markerTime_8 (by omega) h.r1 (by omega) (by omega) (hv.mks) ?_
  refine z_iconst (v := nI 1) dX13_markerTime_9 rfl ?_
  refine z_isub dX13_markerTime_10 ?_
  by_cases hc1 : ((0 : Nat) : Int) ≤ ((x)).toInt ∧ ((x)).toInt ≤ (((nI (S.2.1.length)) - (nI (1)))).toInt
  · refine z_callSE (As := [.int (x), .int (nI (0)), .int ((nI (S.2.1.length)) - (nI (1)))]) (rest := [.ref (za g b)]) (v := some (.int (nI (1)))) (R2 := zR 0 0) dX13_markerTime_11 kS_RX13_57 rfl rfl ⟨⟨by decide, by decide⟩, by decide, by decide⟩ rfl (Nat.le_of_ble_eq_true rfl) rfl (c_X13_isIn_y (x := (x)) (y := (nI (0))) (z := ((nI (S.2.1.length)) - (nI (1)))) h0 (by have q0 := nI_toInt (n := 0) (by omega); omega)) ?_
    refine z_if_eq_n (a := 1) (tgt := 21) dX13_markerTime_14 (by decide) (by omega) (fun h_14_3 => ?_) (fun h_14_3 => ?_)
    · exact absurd h_14_3 (by decide)
    · refine z_iconst (v := nI 0) dX13_markerTime_17 rfl ?_
      refine z_goto (tgt := 22) dX13_markerTime_18 (by decide) ?_
      refine z_putf (j := b) dX13_markerTime_22 kF_RX13_47 zt_12_0 rfl (by omega) h.ce rfl rfl (Nat.le_of_ble_eq_true rfl) ?_
      obtain ⟨w4, ew5⟩ : ∃ wz : zW, wz = va_up w (b) (zO 12 [.int (nI (0)), .int (nI (Hs.length)), .int (ep), .int (fc), .int (nI (if Sn.isSome then 1 else 0)), .ref (za g (b + 1)), .ref (za g (b + 2)), .ref (za g (b + 3)), .ref (za g (b + 4)), .ref (za g (b + 5)), .ref (za g (b + 6)), .ref (za g (b + 7)), .ref (za g (b + 8)), .ref (za g (b + 9)), .ref (za g (b + 10)), .int (nI (I.length)), .int (po), .int (en), .int (nI (O.length)), .int (kn), .int (wr), .int (dg)]) := ⟨_, rfl⟩
      refine z_weq (w' := w4) ew5.symm ?_
      have hf6 : zFr w w4 (b) (b + 1) := by rw [ew5]; exact zFr.up (by omega)
      have hw7 : w4 (b) = zO 12 [.int (nI (0)), .int (nI (Hs.length)), .int (ep), .int (fc), .int (nI (if Sn.isSome then 1 else 0)), .ref (za g (b + 1)), .ref (za g (b + 2)), .ref (za g (b + 3)), .ref (za g (b + 4)), .ref (za g (b + 5)), .ref (za g (b + 6)), .ref (za g (b + 7)), .ref (za g (b + 8)), .ref (za g (b + 9)), .ref (za g (b + 10)), .int (nI (I.length)), .int (po), .int (en), .int (nI (O.length)), .int (kn), .int (wr), .int (dg)] := by rw [ew5, zup_s]
      have hx8 := h.setC hf6 hw7
      refine z_aload_n dX13_markerTime_25 rfl ?_
      refine z_getf (j := b) dX13_markerTime_26 kF_RX13_47 rfl (by omega) hx8.ce rfl ?_
      refine z_if_ne_n (a := 0) (tgt := 45) dX13_markerTime_29 (by decide) (by omega) (fun h_29_9 => ?_) (fun h_29_9 => ?_)
      · exact absurd h_29_9 (by decide)
      · refine z_eq (lv' := [(0, .ref (za g b)), (1, .int (nI (x.toInt.toNat)))]) rfl rfl (by rw [← i_nat (x := x) (by omega)]) ?_
        refine z_aload_n dX13_markerTime_32 rfl ?_
        refine z_getf (j := b) dX13_markerTime_33 kF_RX13_16 rfl (by omega) hx8.ce rfl ?_
        refine z_sipush (v := nI 204) dX13_markerTime_36 rfl ?_
        refine z_iload_n dX13_markerTime_39 rfl ?_
        refine z_iadd_n (a := 204) (b := x.toInt.toNat) dX13_markerTime_40 ?_
        refine z_iald_v (j := b + 1) (N := 410) (a := (204) + (x.toInt.toNat)) (x := S.2.1.getD (x.toInt.toNat) 0) (f := fv) dX13_markerTime_41 (by omega) hx8.r1 (by omega) (by omega) (hv.mark (by omega)) ?_
        refine z_goto (tgt := 46) dX13_markerTime_42 (by decide) ?_
        refine z_iret dX13_markerTime_46 rfl (by decide) (by decide) ?_
        refine ⟨_, rfl, (hf6.wk (by omega) (by omega)), ?_, fun _ => rfl⟩
        rw [if_pos (by omega)]
        exact ⟨_, _, _, _, _, _, _, _, _, _, _, _, _, hx8, hv, hp, hsn, htx, hou, hep⟩
  · refine z_callSE (As := [.int (x), .int (nI (0)), .int ((nI (S.2.1.length)) - (nI (1)))]) (rest := [.ref (za g b)]) (v := some (.int (nI (0)))) (R2 := zR 0 0) dX13_markerTime_11 kS_RX13_57 rfl rfl ⟨⟨by decide, by decide⟩, by decide, by decide⟩ rfl (Nat.le_of_ble_eq_true rfl) rfl (c_X13_isIn_n (x := (x)) (y := (nI (0))) (z := ((nI (S.2.1.length)) - (nI (1)))) h0 (by have q0 := nI_toInt (n := 0) (by omega); omega)) ?_
    refine z_if_eq_n (a := 0) (tgt := 21) dX13_markerTime_14 (by decide) (by omega) (fun h_14_11 => ?_) (fun h_14_11 => ?_)
    · refine z_iconst (v := nI 1) dX13_markerTime_21 rfl ?_
      refine z_putf (j := b) dX13_markerTime_22 kF_RX13_47 zt_12_0 rfl (by omega) h.ce rfl rfl (Nat.le_of_ble_eq_true rfl) ?_
      obtain ⟨w12, ew13⟩ : ∃ wz : zW, wz = va_up w (b) (zO 12 [.int (nI (1)), .int (nI (Hs.length)), .int (ep), .int (fc), .int (nI (if Sn.isSome then 1 else 0)), .ref (za g (b + 1)), .ref (za g (b + 2)), .ref (za g (b + 3)), .ref (za g (b + 4)), .ref (za g (b + 5)), .ref (za g (b + 6)), .ref (za g (b + 7)), .ref (za g (b + 8)), .ref (za g (b + 9)), .ref (za g (b + 10)), .int (nI (I.length)), .int (po), .int (en), .int (nI (O.length)), .int (kn), .int (wr), .int (dg)]) := ⟨_, rfl⟩
      refine z_weq (w' := w12) ew13.symm ?_
      have hf14 : zFr w w12 (b) (b + 1) := by rw [ew13]; exact zFr.up (by omega)
      have hw15 : w12 (b) = zO 12 [.int (nI (1)), .int (nI (Hs.length)), .int (ep), .int (fc), .int (nI (if Sn.isSome then 1 else 0)), .ref (za g (b + 1)), .ref (za g (b + 2)), .ref (za g (b + 3)), .ref (za g (b + 4)), .ref (za g (b + 5)), .ref (za g (b + 6)), .ref (za g (b + 7)), .ref (za g (b + 8)), .ref (za g (b + 9)), .ref (za g (b + 10)), .int (nI (I.length)), .int (po), .int (en), .int (nI (O.length)), .int (kn), .int (wr), .int (dg)] := by rw [ew13, zup_s]
      have hx16 := h.setC hf14 hw15
      refine z_aload_n dX13_markerTime_25 rfl ?_
      refine z_getf (j := b) dX13_markerTime_26 kF_RX13_47 rfl (by omega) hx16.ce rfl ?_
      refine z_if_ne_n (a := 1) (tgt := 45) dX13_markerTime_29 (by decide) (by omega) (fun h_29_17 => ?_) (fun h_29_17 => ?_)
      · refine z_iconst (v := nI 0) dX13_markerTime_45 rfl ?_
        refine z_iret dX13_markerTime_46 rfl (by decide) (by decide) ?_
        have q8 : ¬ (0 ≤ x.toInt ∧ x.toInt < (S.2.1.length : Nat)) := (by omega)
        refine ⟨_, rfl, (hf14.wk (by omega) (by omega)), ?_, fun q9 => absurd q9 q8⟩
        rw [if_neg q8]
        exact ⟨_, _, _, _, _, _, _, _, _, _, _, _, _, hx16, hv, hp, hsn, htx, hou, hep⟩
      · exact absurd h_29_17 (by decide)
    · exact absurd h_14_11 (by decide)
set_option maxRecDepth 100000 in
set_option maxHeartbeats 4000000 in
theorem c_X13_barLength {g : zGT} {w : zW} {b : Nat} {S : zSt} {Hs : List zSt} {Sn : Option zSt} {I O : List Nat} {ep fc : Int32} {t : Nat} {x : Int32} (h0 : zG0 g) (hq : Mq g w b (S) (Hs) (Sn) (I) (O) (ep) (fc) (t)) : zCt g mX13_barLength (zR 4 0) [.ref (za g b), .int (x)] w (fun o w' => ∃ r, o = .inl (some (.int r)) ∧ zFr w w' b (b + 11) ∧ Mq g w' b (S) (Hs) (Sn) (I) (O) (ep) (fc) (if 0 ≤ x.toInt ∧ x.toInt ≤ (S.2.1.length : Nat) then 0 else 1) ∧ (0 ≤ x.toInt ∧ x.toInt ≤ (S.2.1.length : Nat) → r = nI (blF S x.toInt.toNat))) := by
  obtain ⟨po, en, kn, wr, dg, fv, fb, fs, fp, fh, ft, fl, fi, h, hv, hp, hsn, htx, hou, hep⟩ := hq
  have hb := h.1
  have hl := hv.len
  refine zCt_of (by decide +kernel) h0 [(0, .ref (za g b)), (1, .int (x))] rfl (Nat.le_of_ble_eq_true rfl) ?_
  refine z_aload_n dX13_barLength_0 rfl ?_
  refine z_aload_n dX13_barLength_1 rfl ?_
  refine z_iload_n dX13_barLength_2 rfl ?_
  by_cases hc1 : 0 ≤ ((x)).toInt ∧ ((x)).toInt ≤ (S.2.1.length : Nat)
  · refine z_callE (As := [.int (x)]) (rest := [.ref (za g b)]) (b := b) (ci := 12) (v := some (.int (nI (1)))) (R2 := zR 1 0) dX13_barLength_3 kV_RX13_166 rfl ⟨⟨by decide, by decide⟩, by decide, by decide⟩ (by omega) h.ce rfl rfl rfl (Nat.le_of_ble_eq_true rfl) rfl (c_X13_isBar_y  h0 h hv  hc1) ?_
    refine z_if_eq_n (a := 1) (tgt := 13) dX13_barLength_6 (by decide) (by omega) (fun h_6_3 => ?_) (fun h_6_3 => ?_)
    · exact absurd h_6_3 (by decide)
    · refine z_iconst (v := nI 0) dX13_barLength_9 rfl ?_
      refine z_goto (tgt := 14) dX13_barLength_10 (by decide) ?_
      refine z_putf (j := b) dX13_barLength_14 kF_RX13_47 zt_12_0 rfl (by omega) h.ce rfl rfl (Nat.le_of_ble_eq_true rfl) ?_
      obtain ⟨w4, ew5⟩ : ∃ wz : zW, wz = va_up w (b) (zO 12 [.int (nI (0)), .int (nI (Hs.length)), .int (ep), .int (fc), .int (nI (if Sn.isSome then 1 else 0)), .ref (za g (b + 1)), .ref (za g (b + 2)), .ref (za g (b + 3)), .ref (za g (b + 4)), .ref (za g (b + 5)), .ref (za g (b + 6)), .ref (za g (b + 7)), .ref (za g (b + 8)), .ref (za g (b + 9)), .ref (za g (b + 10)), .int (nI (I.length)), .int (po), .int (en), .int (nI (O.length)), .int (kn), .int (wr), .int (dg)]) := ⟨_, rfl⟩
      refine z_weq (w' := w4) ew5.symm ?_
      have hf6 : zFr w w4 (b) (b + 1) := by rw [ew5]; exact zFr.up (by omega)
      have hw7 : w4 (b) = zO 12 [.int (nI (0)), .int (nI (Hs.length)), .int (ep), .int (fc), .int (nI (if Sn.isSome then 1 else 0)), .ref (za g (b + 1)), .ref (za g (b + 2)), .ref (za g (b + 3)), .ref (za g (b + 4)), .ref (za g (b + 5)), .ref (za g (b + 6)), .ref (za g (b + 7)), .ref (za g (b + 8)), .ref (za g (b + 9)), .ref (za g (b + 10)), .int (nI (I.length)), .int (po), .int (en), .int (nI (O.length)), .int (kn), .int (wr), .int (dg)] := by rw [ew5, zup_s]
      have hx8 := h.setC hf6 hw7
      refine z_aload_n dX13_barLength_17 rfl ?_
      refine z_getf (j := b) dX13_barLength_18 kF_RX13_47 rfl (by omega) hx8.ce rfl ?_
      refine z_if_ne_n (a := 0) (tgt := 38) dX13_barLength_21 (by decide) (by omega) (fun h_21_9 => ?_) (fun h_21_9 => ?_)
      · exact absurd h_21_9 (by decide)
      · refine z_eq (lv' := [(0, .ref (za g b)), (1, .int (nI (x.toInt.toNat)))]) rfl rfl (by rw [← i_nat (x := x) (by omega)]) ?_
        have hbr := hv.mo.bar (j := x.toInt.toNat) (by omega)
        refine z_aload_n dX13_barLength_24 rfl ?_
        refine z_iload_n dX13_barLength_25 rfl ?_
        refine z_callE (As := [.int (nI (x.toInt.toNat))]) (rest := []) (b := b) (ci := 12) (v := some (.int (nI (barB S.2.1 S.1.length (x.toInt.toNat))))) (R2 := zR 3 0) dX13_barLength_26 kV_RX13_169 rfl ⟨⟨by decide, by decide⟩, by decide, by decide⟩ (by omega) hx8.ce rfl rfl rfl (Nat.le_of_ble_eq_true rfl) rfl (c_X13_barTo (j := x.toInt.toNat) h0 hx8 hv (by omega)) ?_
        refine z_aload_n dX13_barLength_29 rfl ?_
        refine z_iload_n dX13_barLength_30 rfl ?_
        refine z_callE (As := [.int (nI (x.toInt.toNat))]) (rest := [.int (nI (barB S.2.1 S.1.length (x.toInt.toNat)))]) (b := b) (ci := 12) (v := some (.int (nI (barA S.2.1 (x.toInt.toNat))))) (R2 := zR 3 0) dX13_barLength_31 kV_RX13_172 rfl ⟨⟨by decide, by decide⟩, by decide, by decide⟩ (by omega) hx8.ce rfl rfl rfl (Nat.le_of_ble_eq_true rfl) rfl (c_X13_barFrom (j := x.toInt.toNat) h0 hx8 hv (by omega)) ?_
        refine z_isub_n (a := barB S.2.1 S.1.length (x.toInt.toNat)) (b := barA S.2.1 (x.toInt.toNat)) dX13_barLength_34 (by omega) ?_
        refine z_goto (tgt := 39) dX13_barLength_35 (by decide) ?_
        refine z_iret dX13_barLength_39 rfl (by decide) (by decide) ?_
        refine ⟨_, rfl, (hf6.wk (by omega) (by omega)), ?_, fun _ => rfl⟩
        rw [if_pos (by omega)]
        exact ⟨_, _, _, _, _, _, _, _, _, _, _, _, _, hx8, hv, hp, hsn, htx, hou, hep⟩
  · refine z_callE (As := [.int (x)]) (rest := [.ref (za g b)]) (b := b) (ci := 12) (v := some (.int (nI (0)))) (R2 := zR 1 0) dX13_barLength_3 kV_RX13_166 rfl ⟨⟨by decide, by decide⟩, by decide, by decide⟩ (by omega) h.ce rfl rfl rfl (Nat.le_of_ble_eq_true rfl) rfl (c_X13_isBar_n  h0 h hv  hc1) ?_
    refine z_if_eq_n (a := 0) (tgt := 13) dX13_barLength_6 (by decide) (by omega) (fun h_6_13 => ?_) (fun h_6_13 => ?_)
    · refine z_iconst (v := nI 1) dX13_barLength_13 rfl ?_
      refine z_putf (j := b) dX13_barLength_14 kF_RX13_47 zt_12_0 rfl (by omega) h.ce rfl rfl (Nat.le_of_ble_eq_true rfl) ?_
      obtain ⟨w14, ew15⟩ : ∃ wz : zW, wz = va_up w (b) (zO 12 [.int (nI (1)), .int (nI (Hs.length)), .int (ep), .int (fc), .int (nI (if Sn.isSome then 1 else 0)), .ref (za g (b + 1)), .ref (za g (b + 2)), .ref (za g (b + 3)), .ref (za g (b + 4)), .ref (za g (b + 5)), .ref (za g (b + 6)), .ref (za g (b + 7)), .ref (za g (b + 8)), .ref (za g (b + 9)), .ref (za g (b + 10)), .int (nI (I.length)), .int (po), .int (en), .int (nI (O.length)), .int (kn), .int (wr), .int (dg)]) := ⟨_, rfl⟩
      refine z_weq (w' := w14) ew15.symm ?_
      have hf16 : zFr w w14 (b) (b + 1) := by rw [ew15]; exact zFr.up (by omega)
      have hw17 : w14 (b) = zO 12 [.int (nI (1)), .int (nI (Hs.length)), .int (ep), .int (fc), .int (nI (if Sn.isSome then 1 else 0)), .ref (za g (b + 1)), .ref (za g (b + 2)), .ref (za g (b + 3)), .ref (za g (b + 4)), .ref (za g (b + 5)), .ref (za g (b + 6)), .ref (za g (b + 7)), .ref (za g (b + 8)), .ref (za g (b + 9)), .ref (za g (b + 10)), .int (nI (I.length)), .int (po), .int (en), .int (nI (O.length)), .int (kn), .int (wr), .int (dg)] := by rw [ew15, zup_s]
      have hx18 := h.setC hf16 hw17
      refine z_aload_n dX13_barLength_17 rfl ?_
      refine z_getf (j := b) dX13_barLength_18 kF_RX13_47 rfl (by omega) hx18.ce rfl ?_
      refine z_if_ne_n (a := 1) (tgt := 38) dX13_barLength_21 (by decide) (by omega) (fun h_21_19 => ?_) (fun h_21_19 => ?_)
      · refine z_iconst (v := nI 0) dX13_barLength_38 rfl ?_
        refine z_iret dX13_barLength_39 rfl (by decide) (by decide) ?_
        have q8 : ¬ (0 ≤ x.toInt ∧ x.toInt ≤ (S.2.1.length : Nat)) := (by omega)
        refine ⟨_, rfl, (hf16.wk (by omega) (by omega)), ?_, fun q9 => absurd q9 q8⟩
        rw [if_neg q8]
        exact ⟨_, _, _, _, _, _, _, _, _, _, _, _, _, hx18, hv, hp, hsn, htx, hou, hep⟩
      · exact absurd h_21_19 (by decide)
    · exact absurd h_6_13 (by decide)
set_option maxRecDepth 100000 in
set_option maxHeartbeats 4000000 in
theorem c_X13_barLoudness {g : zGT} {w : zW} {b : Nat} {S : zSt} {Hs : List zSt} {Sn : Option zSt} {I O : List Nat} {ep fc : Int32} {t : Nat} {x : Int32} (h0 : zG0 g) (hq : Mq g w b (S) (Hs) (Sn) (I) (O) (ep) (fc) (t)) : zCt g mX13_barLoudness (zR 4 0) [.ref (za g b), .int (x)] w (fun o w' => ∃ r, o = .inl (some (.int r)) ∧ zFr w w' b (b + 11) ∧ Mq g w' b (S) (Hs) (Sn) (I) (O) (ep) (fc) (if 0 ≤ x.toInt ∧ x.toInt ≤ (S.2.1.length : Nat) then 0 else 1) ∧ (0 ≤ x.toInt ∧ x.toInt ≤ (S.2.1.length : Nat) → r = nI (bsF S x.toInt.toNat))) := by
  obtain ⟨po, en, kn, wr, dg, fv, fb, fs, fp, fh, ft, fl, fi, h, hv, hp, hsn, htx, hou, hep⟩ := hq
  have hb := h.1
  have hl := hv.len
  refine zCt_of (by decide +kernel) h0 [(0, .ref (za g b)), (1, .int (x))] rfl (Nat.le_of_ble_eq_true rfl) ?_
  refine z_aload_n dX13_barLoudness_0 rfl ?_
  refine z_aload_n dX13_barLoudness_1 rfl ?_
  refine z_iload_n dX13_barLoudness_2 rfl ?_
  by_cases hc1 : 0 ≤ ((x)).toInt ∧ ((x)).toInt ≤ (S.2.1.length : Nat)
  · refine z_callE (As := [.int (x)]) (rest := [.ref (za g b)]) (b := b) (ci := 12) (v := some (.int (nI (1)))) (R2 := zR 1 0) dX13_barLoudness_3 kV_RX13_166 rfl ⟨⟨by decide, by decide⟩, by decide, by decide⟩ (by omega) h.ce rfl rfl rfl (Nat.le_of_ble_eq_true rfl) rfl (c_X13_isBar_y  h0 h hv  hc1) ?_
    refine z_if_eq_n (a := 1) (tgt := 13) dX13_barLoudness_6 (by decide) (by omega) (fun h_6_3 => ?_) (fun h_6_3 => ?_)
    · exact absurd h_6_3 (by decide)
    · refine z_iconst (v := nI 0) dX13_barLoudness_9 rfl ?_
      refine z_goto (tgt := 14) dX13_barLoudness_10 (by decide) ?_
      refine z_putf (j := b) dX13_barLoudness_14 kF_RX13_47 zt_12_0 rfl (by omega) h.ce rfl rfl (Nat.le_of_ble_eq_true rfl) ?_
      obtain ⟨w4, ew5⟩ : ∃ wz : zW, wz = va_up w (b) (zO 12 [.int (nI (0)), .int (nI (Hs.length)), .int (ep), .int (fc), .int (nI (if Sn.isSome then 1 else 0)), .ref (za g (b + 1)), .ref (za g (b + 2)), .ref (za g (b + 3)), .ref (za g (b + 4)), .ref (za g (b + 5)), .ref (za g (b + 6)), .ref (za g (b + 7)), .ref (za g (b + 8)), .ref (za g (b + 9)), .ref (za g (b + 10)), .int (nI (I.length)), .int (po), .int (en), .int (nI (O.length)), .int (kn), .int (wr), .int (dg)]) := ⟨_, rfl⟩
      refine z_weq (w' := w4) ew5.symm ?_
      have hf6 : zFr w w4 (b) (b + 1) := by rw [ew5]; exact zFr.up (by omega)
      have hw7 : w4 (b) = zO 12 [.int (nI (0)), .int (nI (Hs.length)), .int (ep), .int (fc), .int (nI (if Sn.isSome then 1 else 0)), .ref (za g (b + 1)), .ref (za g (b + 2)), .ref (za g (b + 3)), .ref (za g (b + 4)), .ref (za g (b + 5)), .ref (za g (b + 6)), .ref (za g (b + 7)), .ref (za g (b + 8)), .ref (za g (b + 9)), .ref (za g (b + 10)), .int (nI (I.length)), .int (po), .int (en), .int (nI (O.length)), .int (kn), .int (wr), .int (dg)] := by rw [ew5, zup_s]
      have hx8 := h.setC hf6 hw7
      refine z_aload_n dX13_barLoudness_17 rfl ?_
      refine z_getf (j := b) dX13_barLoudness_18 kF_RX13_47 rfl (by omega) hx8.ce rfl ?_
      refine z_if_ne_n (a := 0) (tgt := 41) dX13_barLoudness_21 (by decide) (by omega) (fun h_21_9 => ?_) (fun h_21_9 => ?_)
      · exact absurd h_21_9 (by decide)
      · refine z_eq (lv' := [(0, .ref (za g b)), (1, .int (nI (x.toInt.toNat)))]) rfl rfl (by rw [← i_nat (x := x) (by omega)]) ?_
        have hbr := hv.mo.bar (j := x.toInt.toNat) (by omega)
        refine z_aload_n dX13_barLoudness_24 rfl ?_
        refine z_aload_n dX13_barLoudness_25 rfl ?_
        refine z_iload_n dX13_barLoudness_26 rfl ?_
        refine z_callE (As := [.int (nI (x.toInt.toNat))]) (rest := [.ref (za g b)]) (b := b) (ci := 12) (v := some (.int (nI (barA S.2.1 (x.toInt.toNat))))) (R2 := zR 3 0) dX13_barLoudness_27 kV_RX13_172 rfl ⟨⟨by decide, by decide⟩, by decide, by decide⟩ (by omega) hx8.ce rfl rfl rfl (Nat.le_of_ble_eq_true rfl) rfl (c_X13_barFrom (j := x.toInt.toNat) h0 hx8 hv (by omega)) ?_
        refine z_aload_n dX13_barLoudness_30 rfl ?_
        refine z_iload_n dX13_barLoudness_31 rfl ?_
        refine z_callE (As := [.int (nI (x.toInt.toNat))]) (rest := [.int (nI (barA S.2.1 (x.toInt.toNat))), .ref (za g b)]) (b := b) (ci := 12) (v := some (.int (nI (barB S.2.1 S.1.length (x.toInt.toNat))))) (R2 := zR 3 0) dX13_barLoudness_32 kV_RX13_169 rfl ⟨⟨by decide, by decide⟩, by decide, by decide⟩ (by omega) hx8.ce rfl rfl rfl (Nat.le_of_ble_eq_true rfl) rfl (c_X13_barTo (j := x.toInt.toNat) h0 hx8 hv (by omega)) ?_
        refine z_callE (As := [.int (nI (barA S.2.1 (x.toInt.toNat))), .int (nI (barB S.2.1 S.1.length (x.toInt.toNat)))]) (rest := []) (b := b) (ci := 12) (v := some (.int (nI (tsum (gT S.1) (barA S.2.1 (x.toInt.toNat)) ((barB S.2.1 S.1.length (x.toInt.toNat)) - (barA S.2.1 (x.toInt.toNat))))))) (R2 := zR 3 0) dX13_barLoudness_35 kV_RX13_144 rfl ⟨⟨by decide, by decide⟩, by decide, by decide⟩ (by omega) hx8.ce rfl rfl rfl (Nat.le_of_ble_eq_true rfl) rfl (c_X13_sum (p := barA S.2.1 (x.toInt.toNat)) (q := barB S.2.1 S.1.length (x.toInt.toNat)) h0 hx8 hv (by omega) (by omega)) ?_
        refine z_goto (tgt := 42) dX13_barLoudness_38 (by decide) ?_
        refine z_iret dX13_barLoudness_42 rfl (by decide) (by decide) ?_
        refine ⟨_, rfl, (hf6.wk (by omega) (by omega)), ?_, fun _ => rfl⟩
        rw [if_pos (by omega)]
        exact ⟨_, _, _, _, _, _, _, _, _, _, _, _, _, hx8, hv, hp, hsn, htx, hou, hep⟩
  · refine z_callE (As := [.int (x)]) (rest := [.ref (za g b)]) (b := b) (ci := 12) (v := some (.int (nI (0)))) (R2 := zR 1 0) dX13_barLoudness_3 kV_RX13_166 rfl ⟨⟨by decide, by decide⟩, by decide, by decide⟩ (by omega) h.ce rfl rfl rfl (Nat.le_of_ble_eq_true rfl) rfl (c_X13_isBar_n  h0 h hv  hc1) ?_
    refine z_if_eq_n (a := 0) (tgt := 13) dX13_barLoudness_6 (by decide) (by omega) (fun h_6_14 => ?_) (fun h_6_14 => ?_)
    · refine z_iconst (v := nI 1) dX13_barLoudness_13 rfl ?_
      refine z_putf (j := b) dX13_barLoudness_14 kF_RX13_47 zt_12_0 rfl (by omega) h.ce rfl rfl (Nat.le_of_ble_eq_true rfl) ?_
      obtain ⟨w15, ew16⟩ : ∃ wz : zW, wz = va_up w (b) (zO 12 [.int (nI (1)), .int (nI (Hs.length)), .int (ep), .int (fc), .int (nI (if Sn.isSome then 1 else 0)), .ref (za g (b + 1)), .ref (za g (b + 2)), .ref (za g (b + 3)), .ref (za g (b + 4)), .ref (za g (b + 5)), .ref (za g (b + 6)), .ref (za g (b + 7)), .ref (za g (b + 8)), .ref (za g (b + 9)), .ref (za g (b + 10)), .int (nI (I.length)), .int (po), .int (en), .int (nI (O.length)), .int (kn), .int (wr), .int (dg)]) := ⟨_, rfl⟩
      refine z_weq (w' := w15) ew16.symm ?_
      have hf17 : zFr w w15 (b) (b + 1) := by rw [ew16]; exact zFr.up (by omega)
      have hw18 : w15 (b) = zO 12 [.int (nI (1)), .int (nI (Hs.length)), .int (ep), .int (fc), .int (nI (if Sn.isSome then 1 else 0)), .ref (za g (b + 1)), .ref (za g (b + 2)), .ref (za g (b + 3)), .ref (za g (b + 4)), .ref (za g (b + 5)), .ref (za g (b + 6)), .ref (za g (b + 7)), .ref (za g (b + 8)), .ref (za g (b + 9)), .ref (za g (b + 10)), .int (nI (I.length)), .int (po), .int (en), .int (nI (O.length)), .int (kn), .int (wr), .int (dg)] := by rw [ew16, zup_s]
      have hx19 := h.setC hf17 hw18
      refine z_aload_n dX13_barLoudness_17 rfl ?_
      refine z_getf (j := b) dX13_barLoudness_18 kF_RX13_47 rfl (by omega) hx19.ce rfl ?_
      refine z_if_ne_n (a := 1) (tgt := 41) dX13_barLoudness_21 (by decide) (by omega) (fun h_21_20 => ?_) (fun h_21_20 => ?_)
      · refine z_iconst (v := nI 0) dX13_barLoudness_41 rfl ?_
        refine z_iret dX13_barLoudness_42 rfl (by decide) (by decide) ?_
        have q8 : ¬ (0 ≤ x.toInt ∧ x.toInt ≤ (S.2.1.length : Nat)) := (by omega)
        refine ⟨_, rfl, (hf17.wk (by omega) (by omega)), ?_, fun q9 => absurd q9 q8⟩
        rw [if_neg q8]
        exact ⟨_, _, _, _, _, _, _, _, _, _, _, _, _, hx19, hv, hp, hsn, htx, hou, hep⟩
      · exact absurd h_21_20 (by decide)
    · exact absurd h_6_14 (by decide)
theorem ddiv_ok2 {a c : Nat} (h : 0 < c) (h2 : c < 2 ^ 31) (h3 : a < 2 ^ 31) : vf_n64 (FP.ddiv (FP.i2d (nI a)) (FP.i2d (nI c))) := by rw [← l2d_i2d h3]; exact ddiv_ok h h2
set_option maxRecDepth 100000 in
set_option maxHeartbeats 4000000 in
theorem c_X13_meanLevel {g : zGT} {w : zW} {b : Nat} {S : zSt} {Hs : List zSt} {Sn : Option zSt} {I O : List Nat} {ep fc : Int32} {t : Nat}  (h0 : zG0 g) (hq : Mq g w b (S) (Hs) (Sn) (I) (O) (ep) (fc) (t)) : zCt g mX13_meanLevel (zR 4 0) [.ref (za g b)] w (fun o w' => ∃ r, o = .inl (some (.double r)) ∧ zFr w w' b (b + 11) ∧ Mq g w' b (S) (Hs) (Sn) (I) (O) (ep) (fc) (if S.1.length ≠ 0 then 0 else 1) ∧ (S.1.length ≠ 0 → r = FP.ddiv (FP.l2d (lN (tsum (gT S.1) 0 S.1.length))) (FP.i2d (nI S.1.length)))) := by
  obtain ⟨po, en, kn, wr, dg, fv, fb, fs, fp, fh, ft, fl, fi, h, hv, hp, hsn, htx, hou, hep⟩ := hq
  have hb := h.1
  have hl := hv.len
  have hsl := tsum_le (F := (gT S.1)) (p := 0) (c := 9) (m := S.1.length) (fun k _ _ => hv.le k)
  refine zCt_of (by decide +kernel) h0 [(0, .ref (za g b))] rfl (Nat.le_of_ble_eq_true rfl) ?_
  refine z_aload_n dX13_meanLevel_0 rfl ?_
  refine z_aload_n dX13_meanLevel_1 rfl ?_
  refine z_getf (j := b) dX13_meanLevel_2 kF_RX13_16 rfl (by omega) h.ce rfl ?_
  refine z_iconst (v := nI 0) dX13_meanLevel_5 rfl ?_
  refine z_iald_v (j := b + 1) (N := 410) (a := 0) (x := S.1.length) (f := fv) dX13_meanLevel_6 (by omega) h.r1 (by omega) (by omega) (hv.dur) ?_
  refine z_if_ne_n (a := S.1.length) (tgt := 14) dX13_meanLevel_7 (by decide) (by omega) (fun h_7_1 => ?_) (fun h_7_1 => ?_)
  · refine z_iconst (v := nI 0) dX13_meanLevel_14 rfl ?_
    refine z_putf (j := b) dX13_meanLevel_15 kF_RX13_47 zt_12_0 rfl (by omega) h.ce rfl rfl (Nat.le_of_ble_eq_true rfl) ?_
    obtain ⟨w2, ew3⟩ : ∃ wz : zW, wz = va_up w (b) (zO 12 [.int (nI (0)), .int (nI (Hs.length)), .int (ep), .int (fc), .int (nI (if Sn.isSome then 1 else 0)), .ref (za g (b + 1)), .ref (za g (b + 2)), .ref (za g (b + 3)), .ref (za g (b + 4)), .ref (za g (b + 5)), .ref (za g (b + 6)), .ref (za g (b + 7)), .ref (za g (b + 8)), .ref (za g (b + 9)), .ref (za g (b + 10)), .int (nI (I.length)), .int (po), .int (en), .int (nI (O.length)), .int (kn), .int (wr), .int (dg)]) := ⟨_, rfl⟩
    refine z_weq (w' := w2) ew3.symm ?_
    have hf4 : zFr w w2 (b) (b + 1) := by rw [ew3]; exact zFr.up (by omega)
    have hw5 : w2 (b) = zO 12 [.int (nI (0)), .int (nI (Hs.length)), .int (ep), .int (fc), .int (nI (if Sn.isSome then 1 else 0)), .ref (za g (b + 1)), .ref (za g (b + 2)), .ref (za g (b + 3)), .ref (za g (b + 4)), .ref (za g (b + 5)), .ref (za g (b + 6)), .ref (za g (b + 7)), .ref (za g (b + 8)), .ref (za g (b + 9)), .ref (za g (b + 10)), .int (nI (I.length)), .int (po), .int (en), .int (nI (O.length)), .int (kn), .int (wr), .int (dg)] := by rw [ew3, zup_s]
    have hx6 := h.setC hf4 hw5
    refine z_aload_n dX13_meanLevel_18 rfl ?_
    refine z_getf (j := b) dX13_meanLevel_19 kF_RX13_47 rfl (by omega) hx6.ce rfl ?_
    refine z_if_ne_n (a := 0) (tgt := 48) dX13_meanLevel_22 (by decide) (by omega) (fun h_22_7 => ?_) (fun h_22_7 => ?_)
    · exact absurd h_22_7 (by decide)
    · refine z_aload_n dX13_meanLevel_25 rfl ?_
      refine z_iconst (v := nI 0) dX13_meanLevel_26 rfl ?_
      refine z_aload_n dX13_meanLevel_27 rfl ?_
      refine z_getf (j := b) dX13_meanLevel_28 kF_RX13_16 rfl (by omega) hx6.ce rfl ?_
      refine z_iconst (v := nI 0) dX13_meanLevel_31 rfl ?_
      refine z_iald_v (j := b + 1) (N := 410) (a := 0) (x := S.1.length) (f := fv) dX13_meanLevel_32 (by omega) hx6.r1 (by omega) (by omega) (hv.dur) ?_
      refine z_callE (As := [.int (nI (0)), .int (nI (S.1.length))]) (rest := []) (b := b) (ci := 12) (v := some (.int (nI (tsum (gT S.1) (0) ((S.1.length) - (0)))))) (R2 := zR 3 0) dX13_meanLevel_33 kV_RX13_144 rfl ⟨⟨by decide, by decide⟩, by decide, by decide⟩ (by omega) hx6.ce rfl rfl rfl (Nat.le_of_ble_eq_true rfl) rfl (c_X13_sum (p := 0) (q := S.1.length) h0 hx6 hv (by omega) (by omega)) ?_
      refine z_i2d dX13_meanLevel_36 ?_
      refine z_aload_n dX13_meanLevel_37 rfl ?_
      refine z_getf (j := b) dX13_meanLevel_38 kF_RX13_16 rfl (by omega) hx6.ce rfl ?_
      refine z_iconst (v := nI 0) dX13_meanLevel_41 rfl ?_
      refine z_iald_v (j := b + 1) (N := 410) (a := 0) (x := S.1.length) (f := fv) dX13_meanLevel_42 (by omega) hx6.r1 (by omega) (by omega) (hv.dur) ?_
      refine z_i2d dX13_meanLevel_43 ?_
      refine z_ddiv dX13_meanLevel_44 (ddiv_ok2 (by omega) (by omega) (by rw [Nat.sub_zero]; omega)) ?_
      refine z_goto (tgt := 49) dX13_meanLevel_45 (by decide) ?_
      refine z_dret dX13_meanLevel_49 rfl (by decide) (by decide) ?_
      refine ⟨_, rfl, (hf4.wk (by omega) (by omega)), ?_, fun _ => by rw [l2d_i2d (by omega), Nat.sub_zero]⟩
      rw [if_pos (by omega)]
      exact ⟨_, _, _, _, _, _, _, _, _, _, _, _, _, hx6, hv, hp, hsn, htx, hou, hep⟩
  · refine z_iconst (v := nI 1) dX13_meanLevel_10 rfl ?_
    refine z_goto (tgt := 15) dX13_meanLevel_11 (by decide) ?_
    refine z_putf (j := b) dX13_meanLevel_15 kF_RX13_47 zt_12_0 rfl (by omega) h.ce rfl rfl (Nat.le_of_ble_eq_true rfl) ?_
    obtain ⟨w9, ew10⟩ : ∃ wz : zW, wz = va_up w (b) (zO 12 [.int (nI (1)), .int (nI (Hs.length)), .int (ep), .int (fc), .int (nI (if Sn.isSome then 1 else 0)), .ref (za g (b + 1)), .ref (za g (b + 2)), .ref (za g (b + 3)), .ref (za g (b + 4)), .ref (za g (b + 5)), .ref (za g (b + 6)), .ref (za g (b + 7)), .ref (za g (b + 8)), .ref (za g (b + 9)), .ref (za g (b + 10)), .int (nI (I.length)), .int (po), .int (en), .int (nI (O.length)), .int (kn), .int (wr), .int (dg)]) := ⟨_, rfl⟩
    refine z_weq (w' := w9) ew10.symm ?_
    have hf11 : zFr w w9 (b) (b + 1) := by rw [ew10]; exact zFr.up (by omega)
    have hw12 : w9 (b) = zO 12 [.int (nI (1)), .int (nI (Hs.length)), .int (ep), .int (fc), .int (nI (if Sn.isSome then 1 else 0)), .ref (za g (b + 1)), .ref (za g (b + 2)), .ref (za g (b + 3)), .ref (za g (b + 4)), .ref (za g (b + 5)), .ref (za g (b + 6)), .ref (za g (b + 7)), .ref (za g (b + 8)), .ref (za g (b + 9)), .ref (za g (b + 10)), .int (nI (I.length)), .int (po), .int (en), .int (nI (O.length)), .int (kn), .int (wr), .int (dg)] := by rw [ew10, zup_s]
    have hx13 := h.setC hf11 hw12
    refine z_aload_n dX13_meanLevel_18 rfl ?_
    refine z_getf (j := b) dX13_meanLevel_19 kF_RX13_47 rfl (by omega) hx13.ce rfl ?_
    refine z_if_ne_n (a := 1) (tgt := 48) dX13_meanLevel_22 (by decide) (by omega) (fun h_22_14 => ?_) (fun h_22_14 => ?_)
    · refine z_dconst0 dX13_meanLevel_48 ?_
      refine z_dret dX13_meanLevel_49 rfl (by decide) (by decide) ?_
      have q8 : ¬ (S.1.length ≠ 0) := (by omega)
      refine ⟨_, rfl, (hf11.wk (by omega) (by omega)), ?_, fun q9 => absurd q9 q8⟩
      rw [if_neg q8]
      exact ⟨_, _, _, _, _, _, _, _, _, _, _, _, _, hx13, hv, hp, hsn, htx, hou, hep⟩
    · exact absurd h_22_14 (by decide)
set_option maxRecDepth 100000 in
set_option maxHeartbeats 4000000 in
theorem c_X13_restShare {g : zGT} {w : zW} {b : Nat} {S : zSt} {Hs : List zSt} {Sn : Option zSt} {I O : List Nat} {ep fc : Int32} {t : Nat}  (h0 : zG0 g) (hq : Mq g w b (S) (Hs) (Sn) (I) (O) (ep) (fc) (t)) : zCt g mX13_restShare (zR 4 0) [.ref (za g b)] w (fun o w' => ∃ r, o = .inl (some (.float r)) ∧ zFr w w' b (b + 11) ∧ Mq g w' b (S) (Hs) (Sn) (I) (O) (ep) (fc) (if S.1.length ≠ 0 then 0 else 1) ∧ (S.1.length ≠ 0 → r = FP.fdiv (FP.i2f (nI (zcnt (fun k => decide (gT S.1 k = 0)) 0 S.1.length))) (FP.i2f (nI S.1.length)))) := by
  obtain ⟨po, en, kn, wr, dg, fv, fb, fs, fp, fh, ft, fl, fi, h, hv, hp, hsn, htx, hou, hep⟩ := hq
  have hb := h.1
  have hl := hv.len
  refine zCt_of (by decide +kernel) h0 [(0, .ref (za g b))] rfl (Nat.le_of_ble_eq_true rfl) ?_
  refine z_aload_n dX13_restShare_0 rfl ?_
  refine z_aload_n dX13_restShare_1 rfl ?_
  refine z_getf (j := b) dX13_restShare_2 kF_RX13_16 rfl (by omega) h.ce rfl ?_
  refine z_iconst (v := nI 0) dX13_restShare_5 rfl ?_
  refine z_iald_v (j := b + 1) (N := 410) (a := 0) (x := S.1.length) (f := fv) dX13_restShare_6 (by omega) h.r1 (by omega) (by omega) (hv.dur) ?_
  refine z_if_ne_n (a := S.1.length) (tgt := 14) dX13_restShare_7 (by decide) (by omega) (fun h_7_1 => ?_) (fun h_7_1 => ?_)
  · refine z_iconst (v := nI 0) dX13_restShare_14 rfl ?_
    refine z_putf (j := b) dX13_restShare_15 kF_RX13_47 zt_12_0 rfl (by omega) h.ce rfl rfl (Nat.le_of_ble_eq_true rfl) ?_
    obtain ⟨w2, ew3⟩ : ∃ wz : zW, wz = va_up w (b) (zO 12 [.int (nI (0)), .int (nI (Hs.length)), .int (ep), .int (fc), .int (nI (if Sn.isSome then 1 else 0)), .ref (za g (b + 1)), .ref (za g (b + 2)), .ref (za g (b + 3)), .ref (za g (b + 4)), .ref (za g (b + 5)), .ref (za g (b + 6)), .ref (za g (b + 7)), .ref (za g (b + 8)), .ref (za g (b + 9)), .ref (za g (b + 10)), .int (nI (I.length)), .int (po), .int (en), .int (nI (O.length)), .int (kn), .int (wr), .int (dg)]) := ⟨_, rfl⟩
    refine z_weq (w' := w2) ew3.symm ?_
    have hf4 : zFr w w2 (b) (b + 1) := by rw [ew3]; exact zFr.up (by omega)
    have hw5 : w2 (b) = zO 12 [.int (nI (0)), .int (nI (Hs.length)), .int (ep), .int (fc), .int (nI (if Sn.isSome then 1 else 0)), .ref (za g (b + 1)), .ref (za g (b + 2)), .ref (za g (b + 3)), .ref (za g (b + 4)), .ref (za g (b + 5)), .ref (za g (b + 6)), .ref (za g (b + 7)), .ref (za g (b + 8)), .ref (za g (b + 9)), .ref (za g (b + 10)), .int (nI (I.length)), .int (po), .int (en), .int (nI (O.length)), .int (kn), .int (wr), .int (dg)] := by rw [ew3, zup_s]
    have hx6 := h.setC hf4 hw5
    refine z_aload_n dX13_restShare_18 rfl ?_
    refine z_getf (j := b) dX13_restShare_19 kF_RX13_47 rfl (by omega) hx6.ce rfl ?_
    refine z_if_ne_n (a := 0) (tgt := 42) dX13_restShare_22 (by decide) (by omega) (fun h_22_7 => ?_) (fun h_22_7 => ?_)
    · exact absurd h_22_7 (by decide)
    · refine z_aload_n dX13_restShare_25 rfl ?_
      refine z_iconst (v := nI 0) dX13_restShare_26 rfl ?_
      refine z_callE (As := [.int (nI (0))]) (rest := []) (b := b) (ci := 12) (v := some (.int (nI (zcnt (fun k => decide (gT S.1 k = 0)) 0 S.1.length)))) (R2 := zR 3 0) dX13_restShare_27 kV_RX13_141 rfl ⟨⟨by decide, by decide⟩, by decide, by decide⟩ (by omega) hx6.ce rfl rfl rfl (Nat.le_of_ble_eq_true rfl) rfl (c_X13_ticksOf (c := 0) h0 hx6 hv (by omega)) ?_
      refine z_i2f dX13_restShare_30 ?_
      refine z_aload_n dX13_restShare_31 rfl ?_
      refine z_getf (j := b) dX13_restShare_32 kF_RX13_16 rfl (by omega) hx6.ce rfl ?_
      refine z_iconst (v := nI 0) dX13_restShare_35 rfl ?_
      refine z_iald_v (j := b + 1) (N := 410) (a := 0) (x := S.1.length) (f := fv) dX13_restShare_36 (by omega) hx6.r1 (by omega) (by omega) (hv.dur) ?_
      refine z_i2f dX13_restShare_37 ?_
      refine z_fdiv dX13_restShare_38 (fdiv_ok (by omega) (by omega)) ?_
      refine z_goto (tgt := 43) dX13_restShare_39 (by decide) ?_
      refine z_fret dX13_restShare_43 rfl (by decide) (by decide) ?_
      refine ⟨_, rfl, (hf4.wk (by omega) (by omega)), ?_, fun _ => rfl⟩
      rw [if_pos (by omega)]
      exact ⟨_, _, _, _, _, _, _, _, _, _, _, _, _, hx6, hv, hp, hsn, htx, hou, hep⟩
  · refine z_iconst (v := nI 1) dX13_restShare_10 rfl ?_
    refine z_goto (tgt := 15) dX13_restShare_11 (by decide) ?_
    refine z_putf (j := b) dX13_restShare_15 kF_RX13_47 zt_12_0 rfl (by omega) h.ce rfl rfl (Nat.le_of_ble_eq_true rfl) ?_
    obtain ⟨w9, ew10⟩ : ∃ wz : zW, wz = va_up w (b) (zO 12 [.int (nI (1)), .int (nI (Hs.length)), .int (ep), .int (fc), .int (nI (if Sn.isSome then 1 else 0)), .ref (za g (b + 1)), .ref (za g (b + 2)), .ref (za g (b + 3)), .ref (za g (b + 4)), .ref (za g (b + 5)), .ref (za g (b + 6)), .ref (za g (b + 7)), .ref (za g (b + 8)), .ref (za g (b + 9)), .ref (za g (b + 10)), .int (nI (I.length)), .int (po), .int (en), .int (nI (O.length)), .int (kn), .int (wr), .int (dg)]) := ⟨_, rfl⟩
    refine z_weq (w' := w9) ew10.symm ?_
    have hf11 : zFr w w9 (b) (b + 1) := by rw [ew10]; exact zFr.up (by omega)
    have hw12 : w9 (b) = zO 12 [.int (nI (1)), .int (nI (Hs.length)), .int (ep), .int (fc), .int (nI (if Sn.isSome then 1 else 0)), .ref (za g (b + 1)), .ref (za g (b + 2)), .ref (za g (b + 3)), .ref (za g (b + 4)), .ref (za g (b + 5)), .ref (za g (b + 6)), .ref (za g (b + 7)), .ref (za g (b + 8)), .ref (za g (b + 9)), .ref (za g (b + 10)), .int (nI (I.length)), .int (po), .int (en), .int (nI (O.length)), .int (kn), .int (wr), .int (dg)] := by rw [ew10, zup_s]
    have hx13 := h.setC hf11 hw12
    refine z_aload_n dX13_restShare_18 rfl ?_
    refine z_getf (j := b) dX13_restShare_19 kF_RX13_47 rfl (by omega) hx13.ce rfl ?_
    refine z_if_ne_n (a := 1) (tgt := 42) dX13_restShare_22 (by decide) (by omega) (fun h_22_14 => ?_) (fun h_22_14 => ?_)
    · refine z_fconst0 dX13_restShare_42 ?_
      refine z_fret dX13_restShare_43 rfl (by decide) (by decide) ?_
      have q8 : ¬ (S.1.length ≠ 0) := (by omega)
      refine ⟨_, rfl, (hf11.wk (by omega) (by omega)), ?_, fun q9 => absurd q9 q8⟩
      rw [if_neg q8]
      exact ⟨_, _, _, _, _, _, _, _, _, _, _, _, _, hx13, hv, hp, hsn, htx, hou, hep⟩
    · exact absurd h_22_14 (by decide)
set_option maxRecDepth 100000 in
set_option maxHeartbeats 4000000 in
theorem c_X13_startOf_y {g : zGT} {w : zW} {b : Nat} {th ch ea fa sv tn po en ln kn wr dg : Int32} {fv fb fs fp fh ft fl fi : Nat → Int32} {S : zSt} {x : Int32} {j : Nat} (h0 : zG0 g) (h : Mx g w b th ch ea fa sv tn po en ln kn wr dg fv fb fs fp fh ft fl fi) (hv : VS fv S) (e : spStart (gT S.1) S.1.length x.toInt = (j : Int)) : zCt g mX13_startOf (zR 2 0) [.ref (za g b), .int (x)] w (fun o w' => o = .inl (some (.int (nI (j)))) ∧ zFr w w' b (b + 11) ∧ Mx g w' b (nI 0) ch ea fa sv tn po en ln kn wr dg fv fb fs fp fh ft fl fi) := by
  have hb := h.1
  have hl := hv.len
  refine zCt_of (by decide +kernel) h0 [(0, .ref (za g b)), (1, .int (x))] rfl (Nat.le_of_ble_eq_true rfl) ?_
  have loop : ∀ (wi : zW), zFr w wi b (b + 11) → Mx g wi b (nI 0) ch ea fa sv tn po en ln kn wr dg fv fb fs fp fh ft fl fi → ∀ (mm : Nat) (i : Nat), S.1.length + 1 - i < mm → (i ≤ S.1.length) → (∀ k, k < i → (fun k => stB (gT S.1) k && decide ((cS (gT S.1) k : Int) = x.toInt)) k = false) → zTr g mX13_startOf (zR 2 0) 0 0 9 [(0, .ref (za g b)), (1, .int (x)), (2, .int (nI (cS (gT S.1) i))), (3, .int (nI (i)))] [] wi (fun o w' => o = .inl (some (.int (nI (j)))) ∧ zFr w w' b (b + 11) ∧ Mx g w' b (nI 0) ch ea fa sv tn po en ln kn wr dg fv fb fs fp fh ft fl fi) := by
    intro wi hfi hmi
    intro mm
    induction mm with
    | zero => intros; omega
    | succ mm ih =>
      intro i hm hin hno
      have hcl : cS (gT S.1) i ≤ i := by unfold cS; exact zcnt_le i
      refine z_iload_n dX13_startOf_9 rfl ?_
      refine z_aload_n dX13_startOf_10 rfl ?_
      refine z_getf (j := b) dX13_startOf_11 kF_RX13_16 rfl (by omega) hmi.ce rfl ?_
      refine z_iconst (v := nI 0) dX13_startOf_14 rfl ?_
      refine z_iald_v (j := b + 1) (N := 410) (a := 0) (x := S.1.length) (f := fv) dX13_startOf_15 (by omega) hmi.r1 (by omega) (by omega) (hv.dur) ?_
      refine z_icmp_ge_n (a := i) (b := S.1.length) (tgt := 46) dX13_startOf_16 (by decide) (by omega) (by omega) (fun h_16_1 => ?_) (fun h_16_1 => ?_)
      · refine z_aload_n dX13_startOf_46 rfl ?_
        refine z_iconst (v := nI 1) dX13_startOf_47 rfl ?_
        refine z_callR (As := [.int (nI (1))]) (rest := []) (b := b) (ci := 12) (v := some (.int (nI (0)))) (R2 := zR 0 0) dX13_startOf_48 kV_RX13_61 rfl ⟨⟨by decide, by decide⟩, by decide, by decide⟩ (by omega) hmi.ce rfl rfl rfl (Nat.le_of_ble_eq_true rfl) rfl (c_X13_fail (x := (nI (1))) h0 hmi) (fun w2 pw2 => ?_)
        obtain ⟨hf3, hx4⟩ := pw2
        refine z_iret dX13_startOf_51 rfl (by decide) (by decide) ?_
        have hh : spStart (gT S.1) S.1.length x.toInt = -1 := fidx_no (fun k hk => hno k (by omega))
        exfalso; omega
      · refine z_aload_n dX13_startOf_19 rfl ?_
        refine z_iload_n dX13_startOf_20 rfl ?_
        by_cases hc5 : stB (gT S.1) (i) = true
        · refine z_callE (As := [.int (nI (i))]) (rest := []) (b := b) (ci := 12) (v := some (.int (nI (1)))) (R2 := zR 1 0) dX13_startOf_21 kV_RX13_128 rfl ⟨⟨by decide, by decide⟩, by decide, by decide⟩ (by omega) hmi.ce rfl rfl rfl (Nat.le_of_ble_eq_true rfl) rfl (c_X13_isStart_y (k := i) h0 hmi hv (by omega) hc5) ?_
          refine z_if_ne_n (a := 1) (tgt := 30) dX13_startOf_24 (by decide) (by omega) (fun h_24_7 => ?_) (fun h_24_7 => ?_)
          · refine z_iload_n dX13_startOf_30 rfl ?_
            refine z_iload_n dX13_startOf_31 rfl ?_
            have hk9 := nI_toInt (n := cS (gT S.1) i) (by omega)
            refine z_icmp_ne_z (tgt := 37) dX13_startOf_32 (by decide) (fun h_32_8 => ?_) (fun h_32_8 => ?_)
            · refine z_iinc_n (n := 1) (a := cS (gT S.1) i) (lv' := [(0, .ref (za g b)), (1, .int (x)), (2, .int (nI (cS (gT S.1) i + 1))), (3, .int (nI (i)))]) dX13_startOf_37 rfl (by decide) rfl ?_
              refine z_iinc_n (n := 1) (a := i) (lv' := [(0, .ref (za g b)), (1, .int (x)), (2, .int (nI (cS (gT S.1) i + 1))), (3, .int (nI (i + 1)))]) dX13_startOf_40 rfl (by decide) rfl ?_
              refine z_goto (tgt := 9) dX13_startOf_43 (by decide) ?_
              have q8 := cS_s (T := (gT S.1)) (k := i)
              rw [if_pos hc5] at q8
              refine z_eq (lv' := [(0, .ref (za g b)), (1, .int (x)), (2, .int (nI (cS (gT S.1) (i + 1)))), (3, .int (nI (i + 1)))]) rfl rfl (by rw [q8]) ?_
              refine ih (i + 1) (by omega) (by omega) (fun k hk => ?_)
              by_cases c : k < i
              · exact hno k c
              · have hki : k = i := by omega
                rw [hki]
                have q7 : ¬ ((cS (gT S.1) i : Int) = x.toInt) := by omega
                simp only [decide_eq_false q7, Bool.and_false]
            · refine z_iload_n dX13_startOf_35 rfl ?_
              refine z_iret dX13_startOf_36 rfl (by decide) (by decide) ?_
              have hh : spStart (gT S.1) S.1.length x.toInt = (i : Int) := fidx_hit (by omega) hno (by rw [hc5, decide_eq_true (show (cS (gT S.1) i : Int) = x.toInt by omega)]; rfl)
              have hij : i = j := by omega
              subst hij
              exact ⟨rfl, hfi, hmi⟩
          · exact absurd h_24_7 (by decide)
        · refine z_callE (As := [.int (nI (i))]) (rest := []) (b := b) (ci := 12) (v := some (.int (nI (0)))) (R2 := zR 1 0) dX13_startOf_21 kV_RX13_128 rfl ⟨⟨by decide, by decide⟩, by decide, by decide⟩ (by omega) hmi.ce rfl rfl rfl (Nat.le_of_ble_eq_true rfl) rfl (c_X13_isStart_n (k := i) h0 hmi hv (by omega) hc5) ?_
          refine z_if_ne_n (a := 0) (tgt := 30) dX13_startOf_24 (by decide) (by omega) (fun h_24_11 => ?_) (fun h_24_11 => ?_)
          · exact absurd h_24_11 (by decide)
          · refine z_goto (tgt := 40) dX13_startOf_27 (by decide) ?_
            refine z_iinc_n (n := 1) (a := i) (lv' := [(0, .ref (za g b)), (1, .int (x)), (2, .int (nI (cS (gT S.1) i))), (3, .int (nI (i + 1)))]) dX13_startOf_40 rfl (by decide) rfl ?_
            refine z_goto (tgt := 9) dX13_startOf_43 (by decide) ?_
            have q8 := cS_s (T := (gT S.1)) (k := i)
            rw [if_neg hc5] at q8
            refine z_eq (lv' := [(0, .ref (za g b)), (1, .int (x)), (2, .int (nI (cS (gT S.1) (i + 1)))), (3, .int (nI (i + 1)))]) rfl rfl (by rw [q8]; rfl) ?_
            refine ih (i + 1) (by omega) (by omega) (fun k hk => ?_)
            by_cases c : k < i
            · exact hno k c
            · have hki : k = i := by omega
              rw [hki]
              show (stB (gT S.1) i && decide ((cS (gT S.1) i : Int) = x.toInt)) = false
              rw [Bool.eq_false_iff.mpr hc5, Bool.false_and]
  refine z_aload_n dX13_startOf_0 rfl ?_
  refine z_iconst (v := nI 0) dX13_startOf_1 rfl ?_
  refine z_putf (j := b) dX13_startOf_2 kF_RX13_47 zt_12_0 rfl (by omega) h.ce rfl rfl (Nat.le_of_ble_eq_true rfl) ?_
  obtain ⟨w1, ew2⟩ : ∃ wz : zW, wz = va_up w (b) (zO 12 [.int (nI (0)), .int (ch), .int (ea), .int (fa), .int (sv), .ref (za g (b + 1)), .ref (za g (b + 2)), .ref (za g (b + 3)), .ref (za g (b + 4)), .ref (za g (b + 5)), .ref (za g (b + 6)), .ref (za g (b + 7)), .ref (za g (b + 8)), .ref (za g (b + 9)), .ref (za g (b + 10)), .int (tn), .int (po), .int (en), .int (ln), .int (kn), .int (wr), .int (dg)]) := ⟨_, rfl⟩
  refine z_weq (w' := w1) ew2.symm ?_
  have hf3 : zFr w w1 (b) (b + 1) := by rw [ew2]; exact zFr.up (by omega)
  have hw4 : w1 (b) = zO 12 [.int (nI (0)), .int (ch), .int (ea), .int (fa), .int (sv), .ref (za g (b + 1)), .ref (za g (b + 2)), .ref (za g (b + 3)), .ref (za g (b + 4)), .ref (za g (b + 5)), .ref (za g (b + 6)), .ref (za g (b + 7)), .ref (za g (b + 8)), .ref (za g (b + 9)), .ref (za g (b + 10)), .int (tn), .int (po), .int (en), .int (ln), .int (kn), .int (wr), .int (dg)] := by rw [ew2, zup_s]
  have hx5 := h.setC hf3 hw4
  refine z_iconst (v := nI 0) dX13_startOf_5 rfl ?_
  refine z_istore_n (lv' := [(0, .ref (za g b)), (1, .int (x)), (2, .int (nI (0)))]) dX13_startOf_6 (by decide) rfl ?_
  refine z_iconst (v := nI 0) dX13_startOf_7 rfl ?_
  refine z_istore_n (lv' := [(0, .ref (za g b)), (1, .int (x)), (2, .int (nI (0))), (3, .int (nI (0)))]) dX13_startOf_8 (by decide) rfl ?_
  exact loop _ (hf3.wk (by omega) (by omega)) hx5 (S.1.length + 2) 0 (by omega) (Nat.zero_le _) (fun k hk => absurd hk (Nat.not_lt_zero k))
set_option maxRecDepth 100000 in
set_option maxHeartbeats 4000000 in
theorem c_X13_startOf_n {g : zGT} {w : zW} {b : Nat} {th ch ea fa sv tn po en ln kn wr dg : Int32} {fv fb fs fp fh ft fl fi : Nat → Int32} {S : zSt} {x : Int32} {j : Nat} (h0 : zG0 g) (h : Mx g w b th ch ea fa sv tn po en ln kn wr dg fv fb fs fp fh ft fl fi) (hv : VS fv S) (e : spStart (gT S.1) S.1.length x.toInt < 0) : zCt g mX13_startOf (zR 2 0) [.ref (za g b), .int (x)] w (fun o w' => o = .inl (some (.int (nI (0)))) ∧ zFr w w' b (b + 11) ∧ Mx g w' b (nI 1) ch ea fa sv tn po en ln kn wr dg fv fb fs fp fh ft fl fi) := by
  have hb := h.1
  have hl := hv.len
  refine zCt_of (by decide +kernel) h0 [(0, .ref (za g b)), (1, .int (x))] rfl (Nat.le_of_ble_eq_true rfl) ?_
  have loop : ∀ (wi : zW), zFr w wi b (b + 11) → Mx g wi b (nI 0) ch ea fa sv tn po en ln kn wr dg fv fb fs fp fh ft fl fi → ∀ (mm : Nat) (i : Nat), S.1.length + 1 - i < mm → (i ≤ S.1.length) → (∀ k, k < i → (fun k => stB (gT S.1) k && decide ((cS (gT S.1) k : Int) = x.toInt)) k = false) → zTr g mX13_startOf (zR 2 0) 0 0 9 [(0, .ref (za g b)), (1, .int (x)), (2, .int (nI (cS (gT S.1) i))), (3, .int (nI (i)))] [] wi (fun o w' => o = .inl (some (.int (nI (0)))) ∧ zFr w w' b (b + 11) ∧ Mx g w' b (nI 1) ch ea fa sv tn po en ln kn wr dg fv fb fs fp fh ft fl fi) := by
    intro wi hfi hmi
    intro mm
    induction mm with
    | zero => intros; omega
    | succ mm ih =>
      intro i hm hin hno
      have hcl : cS (gT S.1) i ≤ i := by unfold cS; exact zcnt_le i
      refine z_iload_n dX13_startOf_9 rfl ?_
      refine z_aload_n dX13_startOf_10 rfl ?_
      refine z_getf (j := b) dX13_startOf_11 kF_RX13_16 rfl (by omega) hmi.ce rfl ?_
      refine z_iconst (v := nI 0) dX13_startOf_14 rfl ?_
      refine z_iald_v (j := b + 1) (N := 410) (a := 0) (x := S.1.length) (f := fv) dX13_startOf_15 (by omega) hmi.r1 (by omega) (by omega) (hv.dur) ?_
      refine z_icmp_ge_n (a := i) (b := S.1.length) (tgt := 46) dX13_startOf_16 (by decide) (by omega) (by omega) (fun h_16_1 => ?_) (fun h_16_1 => ?_)
      · refine z_aload_n dX13_startOf_46 rfl ?_
        refine z_iconst (v := nI 1) dX13_startOf_47 rfl ?_
        refine z_callR (As := [.int (nI (1))]) (rest := []) (b := b) (ci := 12) (v := some (.int (nI (0)))) (R2 := zR 0 0) dX13_startOf_48 kV_RX13_61 rfl ⟨⟨by decide, by decide⟩, by decide, by decide⟩ (by omega) hmi.ce rfl rfl rfl (Nat.le_of_ble_eq_true rfl) rfl (c_X13_fail (x := (nI (1))) h0 hmi) (fun w2 pw2 => ?_)
        obtain ⟨hf3, hx4⟩ := pw2
        refine z_iret dX13_startOf_51 rfl (by decide) (by decide) ?_
        have hh : spStart (gT S.1) S.1.length x.toInt = -1 := fidx_no (fun k hk => hno k (by omega))
        exact ⟨rfl, (hfi.tr hf3), hx4⟩
      · refine z_aload_n dX13_startOf_19 rfl ?_
        refine z_iload_n dX13_startOf_20 rfl ?_
        by_cases hc5 : stB (gT S.1) (i) = true
        · refine z_callE (As := [.int (nI (i))]) (rest := []) (b := b) (ci := 12) (v := some (.int (nI (1)))) (R2 := zR 1 0) dX13_startOf_21 kV_RX13_128 rfl ⟨⟨by decide, by decide⟩, by decide, by decide⟩ (by omega) hmi.ce rfl rfl rfl (Nat.le_of_ble_eq_true rfl) rfl (c_X13_isStart_y (k := i) h0 hmi hv (by omega) hc5) ?_
          refine z_if_ne_n (a := 1) (tgt := 30) dX13_startOf_24 (by decide) (by omega) (fun h_24_7 => ?_) (fun h_24_7 => ?_)
          · refine z_iload_n dX13_startOf_30 rfl ?_
            refine z_iload_n dX13_startOf_31 rfl ?_
            have hk9 := nI_toInt (n := cS (gT S.1) i) (by omega)
            refine z_icmp_ne_z (tgt := 37) dX13_startOf_32 (by decide) (fun h_32_8 => ?_) (fun h_32_8 => ?_)
            · refine z_iinc_n (n := 1) (a := cS (gT S.1) i) (lv' := [(0, .ref (za g b)), (1, .int (x)), (2, .int (nI (cS (gT S.1) i + 1))), (3, .int (nI (i)))]) dX13_startOf_37 rfl (by decide) rfl ?_
              refine z_iinc_n (n := 1) (a := i) (lv' := [(0, .ref (za g b)), (1, .int (x)), (2, .int (nI (cS (gT S.1) i + 1))), (3, .int (nI (i + 1)))]) dX13_startOf_40 rfl (by decide) rfl ?_
              refine z_goto (tgt := 9) dX13_startOf_43 (by decide) ?_
              have q8 := cS_s (T := (gT S.1)) (k := i)
              rw [if_pos hc5] at q8
              refine z_eq (lv' := [(0, .ref (za g b)), (1, .int (x)), (2, .int (nI (cS (gT S.1) (i + 1)))), (3, .int (nI (i + 1)))]) rfl rfl (by rw [q8]) ?_
              refine ih (i + 1) (by omega) (by omega) (fun k hk => ?_)
              by_cases c : k < i
              · exact hno k c
              · have hki : k = i := by omega
                rw [hki]
                have q7 : ¬ ((cS (gT S.1) i : Int) = x.toInt) := by omega
                simp only [decide_eq_false q7, Bool.and_false]
            · refine z_iload_n dX13_startOf_35 rfl ?_
              refine z_iret dX13_startOf_36 rfl (by decide) (by decide) ?_
              have hh : spStart (gT S.1) S.1.length x.toInt = (i : Int) := fidx_hit (by omega) hno (by rw [hc5, decide_eq_true (show (cS (gT S.1) i : Int) = x.toInt by omega)]; rfl)
              exfalso; omega
          · exact absurd h_24_7 (by decide)
        · refine z_callE (As := [.int (nI (i))]) (rest := []) (b := b) (ci := 12) (v := some (.int (nI (0)))) (R2 := zR 1 0) dX13_startOf_21 kV_RX13_128 rfl ⟨⟨by decide, by decide⟩, by decide, by decide⟩ (by omega) hmi.ce rfl rfl rfl (Nat.le_of_ble_eq_true rfl) rfl (c_X13_isStart_n (k := i) h0 hmi hv (by omega) hc5) ?_
          refine z_if_ne_n (a := 0) (tgt := 30) dX13_startOf_24 (by decide) (by omega) (fun h_24_11 => ?_) (fun h_24_11 => ?_)
          · exact absurd h_24_11 (by decide)
          · refine z_goto (tgt := 40) dX13_startOf_27 (by decide) ?_
            refine z_iinc_n (n := 1) (a := i) (lv' := [(0, .ref (za g b)), (1, .int (x)), (2, .int (nI (cS (gT S.1) i))), (3, .int (nI (i + 1)))]) dX13_startOf_40 rfl (by decide) rfl ?_
            refine z_goto (tgt := 9) dX13_startOf_43 (by decide) ?_
            have q8 := cS_s (T := (gT S.1)) (k := i)
            rw [if_neg hc5] at q8
            refine z_eq (lv' := [(0, .ref (za g b)), (1, .int (x)), (2, .int (nI (cS (gT S.1) (i + 1)))), (3, .int (nI (i + 1)))]) rfl rfl (by rw [q8]; rfl) ?_
            refine ih (i + 1) (by omega) (by omega) (fun k hk => ?_)
            by_cases c : k < i
            · exact hno k c
            · have hki : k = i := by omega
              rw [hki]
              show (stB (gT S.1) i && decide ((cS (gT S.1) i : Int) = x.toInt)) = false
              rw [Bool.eq_false_iff.mpr hc5, Bool.false_and]
  refine z_aload_n dX13_startOf_0 rfl ?_
  refine z_iconst (v := nI 0) dX13_startOf_1 rfl ?_
  refine z_putf (j := b) dX13_startOf_2 kF_RX13_47 zt_12_0 rfl (by omega) h.ce rfl rfl (Nat.le_of_ble_eq_true rfl) ?_
  obtain ⟨w1, ew2⟩ : ∃ wz : zW, wz = va_up w (b) (zO 12 [.int (nI (0)), .int (ch), .int (ea), .int (fa), .int (sv), .ref (za g (b + 1)), .ref (za g (b + 2)), .ref (za g (b + 3)), .ref (za g (b + 4)), .ref (za g (b + 5)), .ref (za g (b + 6)), .ref (za g (b + 7)), .ref (za g (b + 8)), .ref (za g (b + 9)), .ref (za g (b + 10)), .int (tn), .int (po), .int (en), .int (ln), .int (kn), .int (wr), .int (dg)]) := ⟨_, rfl⟩
  refine z_weq (w' := w1) ew2.symm ?_
  have hf3 : zFr w w1 (b) (b + 1) := by rw [ew2]; exact zFr.up (by omega)
  have hw4 : w1 (b) = zO 12 [.int (nI (0)), .int (ch), .int (ea), .int (fa), .int (sv), .ref (za g (b + 1)), .ref (za g (b + 2)), .ref (za g (b + 3)), .ref (za g (b + 4)), .ref (za g (b + 5)), .ref (za g (b + 6)), .ref (za g (b + 7)), .ref (za g (b + 8)), .ref (za g (b + 9)), .ref (za g (b + 10)), .int (tn), .int (po), .int (en), .int (ln), .int (kn), .int (wr), .int (dg)] := by rw [ew2, zup_s]
  have hx5 := h.setC hf3 hw4
  refine z_iconst (v := nI 0) dX13_startOf_5 rfl ?_
  refine z_istore_n (lv' := [(0, .ref (za g b)), (1, .int (x)), (2, .int (nI (0)))]) dX13_startOf_6 (by decide) rfl ?_
  refine z_iconst (v := nI 0) dX13_startOf_7 rfl ?_
  refine z_istore_n (lv' := [(0, .ref (za g b)), (1, .int (x)), (2, .int (nI (0))), (3, .int (nI (0)))]) dX13_startOf_8 (by decide) rfl ?_
  exact loop _ (hf3.wk (by omega) (by omega)) hx5 (S.1.length + 2) 0 (by omega) (Nat.zero_le _) (fun k hk => absurd hk (Nat.not_lt_zero k))
set_option maxRecDepth 100000 in
set_option maxHeartbeats 4000000 in
theorem c_X13_runStart {g : zGT} {w : zW} {b : Nat} {S : zSt} {Hs : List zSt} {Sn : Option zSt} {I O : List Nat} {ep fc : Int32} {t : Nat} {x : Int32} (h0 : zG0 g) (hq : Mq g w b (S) (Hs) (Sn) (I) (O) (ep) (fc) (t)) : zCt g mX13_runStart (zR 4 0) [.ref (za g b), .int (x)] w (fun o w' => ∃ r, o = .inl (some (.int r)) ∧ zFr w w' b (b + 11) ∧ Mq g w' b (S) (Hs) (Sn) (I) (O) (ep) (fc) (if ¬ (spStart (gT S.1) S.1.length x.toInt < 0) then 0 else 1) ∧ (¬ (spStart (gT S.1) S.1.length x.toInt < 0) → r = nI ((spStart (gT S.1) S.1.length x.toInt).toNat))) := by
  obtain ⟨po, en, kn, wr, dg, fv, fb, fs, fp, fh, ft, fl, fi, h, hv, hp, hsn, htx, hou, hep⟩ := hq
  have hb := h.1
  have hl := hv.len
  refine zCt_of (by decide +kernel) h0 [(0, .ref (za g b)), (1, .int (x))] rfl (Nat.le_of_ble_eq_true rfl) ?_
  refine z_aload_n dX13_runStart_0 rfl ?_
  refine z_iload_n dX13_runStart_1 rfl ?_
  by_cases hc1 : spStart (gT S.1) S.1.length x.toInt < 0
  · refine z_callR (As := [.int (x)]) (rest := []) (b := b) (ci := 12) (v := some (.int (nI (0)))) (R2 := zR 2 0) dX13_runStart_2 kV_RX13_135 rfl ⟨⟨by decide, by decide⟩, by decide, by decide⟩ (by omega) h.ce rfl rfl rfl (Nat.le_of_ble_eq_true rfl) rfl (c_X13_startOf_n (j := 0) h0 h hv hc1) (fun w2 pw2 => ?_)
    obtain ⟨hf3, hx4⟩ := pw2
    refine z_iret dX13_runStart_5 rfl (by decide) (by decide) ?_
    have q8 : ¬ (¬ (spStart (gT S.1) S.1.length x.toInt < 0)) := (by omega)
    refine ⟨_, rfl, hf3, ?_, fun q9 => absurd q9 q8⟩
    rw [if_neg q8]
    exact ⟨_, _, _, _, _, _, _, _, _, _, _, _, _, hx4, hv, hp, hsn, htx, hou, hep⟩
  · refine z_callR (As := [.int (x)]) (rest := []) (b := b) (ci := 12) (v := some (.int (nI ((spStart (gT S.1) S.1.length x.toInt).toNat)))) (R2 := zR 2 0) dX13_runStart_2 kV_RX13_135 rfl ⟨⟨by decide, by decide⟩, by decide, by decide⟩ (by omega) h.ce rfl rfl rfl (Nat.le_of_ble_eq_true rfl) rfl (c_X13_startOf_y (j := (spStart (gT S.1) S.1.length x.toInt).toNat) h0 h hv (Int.toNat_of_nonneg (by omega)).symm) (fun w5 pw5 => ?_)
    obtain ⟨hf6, hx7⟩ := pw5
    have hrn := fidx_rng (fun k => stB (gT S.1) k && decide ((cS (gT S.1) k : Int) = x.toInt)) S.1.length
    have hr2 : 0 ≤ spStart (gT S.1) S.1.length x.toInt ∧ spStart (gT S.1) S.1.length x.toInt < (S.1.length : Int) + 1 := ⟨by omega, hrn.2⟩
    have hr3 : (spStart (gT S.1) S.1.length x.toInt).toNat < S.1.length := fidx_lt (P := (fun k => stB (gT S.1) k && decide ((cS (gT S.1) k : Int) = x.toInt))) hr2.1
    refine z_iret dX13_runStart_5 rfl (by decide) (by decide) ?_
    refine ⟨_, rfl, hf6, ?_, fun _ => rfl⟩
    rw [if_pos (by omega)]
    exact ⟨_, _, _, _, _, _, _, _, _, _, _, _, _, hx7, hv, hp, hsn, htx, hou, hep⟩
set_option maxRecDepth 100000 in
set_option maxHeartbeats 4000000 in
theorem c_X13_runLength {g : zGT} {w : zW} {b : Nat} {S : zSt} {Hs : List zSt} {Sn : Option zSt} {I O : List Nat} {ep fc : Int32} {t : Nat} {x : Int32} (h0 : zG0 g) (hq : Mq g w b (S) (Hs) (Sn) (I) (O) (ep) (fc) (t)) : zCt g mX13_runLength (zR 4 0) [.ref (za g b), .int (x)] w (fun o w' => ∃ r, o = .inl (some (.int r)) ∧ zFr w w' b (b + 11) ∧ Mq g w' b (S) (Hs) (Sn) (I) (O) (ep) (fc) (if ¬ (spStart (gT S.1) S.1.length x.toInt < 0) then 0 else 1) ∧ (¬ (spStart (gT S.1) S.1.length x.toInt < 0) → r = nI (lenF (gT S.1) S.1.length (spStart (gT S.1) S.1.length x.toInt).toNat))) := by
  obtain ⟨po, en, kn, wr, dg, fv, fb, fs, fp, fh, ft, fl, fi, h, hv, hp, hsn, htx, hou, hep⟩ := hq
  have hb := h.1
  have hl := hv.len
  refine zCt_of (by decide +kernel) h0 [(0, .ref (za g b)), (1, .int (x))] rfl (Nat.le_of_ble_eq_true rfl) ?_
  refine z_aload_n dX13_runLength_0 rfl ?_
  refine z_iload_n dX13_runLength_1 rfl ?_
  by_cases hc1 : spStart (gT S.1) S.1.length x.toInt < 0
  · refine z_callR (As := [.int (x)]) (rest := []) (b := b) (ci := 12) (v := some (.int (nI (0)))) (R2 := zR 2 0) dX13_runLength_2 kV_RX13_135 rfl ⟨⟨by decide, by decide⟩, by decide, by decide⟩ (by omega) h.ce rfl rfl rfl (Nat.le_of_ble_eq_true rfl) rfl (c_X13_startOf_n (j := 0) h0 h hv hc1) (fun w2 pw2 => ?_)
    obtain ⟨hf3, hx4⟩ := pw2
    refine z_istore_n (lv' := [(0, .ref (za g b)), (1, .int (x)), (2, .int (nI (0)))]) dX13_runLength_5 (by decide) rfl ?_
    refine z_aload_n dX13_runLength_6 rfl ?_
    refine z_getf (j := b) dX13_runLength_7 kF_RX13_47 rfl (by omega) hx4.ce rfl ?_
    refine z_if_ne_n (a := 1) (tgt := 21) dX13_runLength_10 (by decide) (by omega) (fun h_10_5 => ?_) (fun h_10_5 => ?_)
    · refine z_iconst (v := nI 0) dX13_runLength_21 rfl ?_
      refine z_iret dX13_runLength_22 rfl (by decide) (by decide) ?_
      have q8 : ¬ (¬ (spStart (gT S.1) S.1.length x.toInt < 0)) := (by omega)
      refine ⟨_, rfl, hf3, ?_, fun q9 => absurd q9 q8⟩
      rw [if_neg q8]
      exact ⟨_, _, _, _, _, _, _, _, _, _, _, _, _, hx4, hv, hp, hsn, htx, hou, hep⟩
    · exact absurd h_10_5 (by decide)
  · refine z_callR (As := [.int (x)]) (rest := []) (b := b) (ci := 12) (v := some (.int (nI ((spStart (gT S.1) S.1.length x.toInt).toNat)))) (R2 := zR 2 0) dX13_runLength_2 kV_RX13_135 rfl ⟨⟨by decide, by decide⟩, by decide, by decide⟩ (by omega) h.ce rfl rfl rfl (Nat.le_of_ble_eq_true rfl) rfl (c_X13_startOf_y (j := (spStart (gT S.1) S.1.length x.toInt).toNat) h0 h hv (Int.toNat_of_nonneg (by omega)).symm) (fun w6 pw6 => ?_)
    obtain ⟨hf7, hx8⟩ := pw6
    have hrn := fidx_rng (fun k => stB (gT S.1) k && decide ((cS (gT S.1) k : Int) = x.toInt)) S.1.length
    have hr2 : 0 ≤ spStart (gT S.1) S.1.length x.toInt ∧ spStart (gT S.1) S.1.length x.toInt < (S.1.length : Int) + 1 := ⟨by omega, hrn.2⟩
    have hr3 : (spStart (gT S.1) S.1.length x.toInt).toNat < S.1.length := fidx_lt (P := (fun k => stB (gT S.1) k && decide ((cS (gT S.1) k : Int) = x.toInt))) hr2.1
    refine z_istore_n (lv' := [(0, .ref (za g b)), (1, .int (x)), (2, .int (nI ((spStart (gT S.1) S.1.length x.toInt).toNat)))]) dX13_runLength_5 (by decide) rfl ?_
    refine z_aload_n dX13_runLength_6 rfl ?_
    refine z_getf (j := b) dX13_runLength_7 kF_RX13_47 rfl (by omega) hx8.ce rfl ?_
    refine z_if_ne_n (a := 0) (tgt := 21) dX13_runLength_10 (by decide) (by omega) (fun h_10_9 => ?_) (fun h_10_9 => ?_)
    · exact absurd h_10_9 (by decide)
    · refine z_aload_n dX13_runLength_13 rfl ?_
      refine z_iload_n dX13_runLength_14 rfl ?_
      refine z_callE (As := [.int (nI ((spStart (gT S.1) S.1.length x.toInt).toNat))]) (rest := []) (b := b) (ci := 12) (v := some (.int (nI (lenF (gT S.1) S.1.length ((spStart (gT S.1) S.1.length x.toInt).toNat))))) (R2 := zR 3 0) dX13_runLength_15 kV_RX13_138 rfl ⟨⟨by decide, by decide⟩, by decide, by decide⟩ (by omega) hx8.ce rfl rfl rfl (Nat.le_of_ble_eq_true rfl) rfl (c_X13_lengthFrom (k := (spStart (gT S.1) S.1.length x.toInt).toNat) h0 hx8 hv (by omega)) ?_
      refine z_goto (tgt := 22) dX13_runLength_18 (by decide) ?_
      refine z_iret dX13_runLength_22 rfl (by decide) (by decide) ?_
      refine ⟨_, rfl, hf7, ?_, fun _ => rfl⟩
      rw [if_pos (by omega)]
      exact ⟨_, _, _, _, _, _, _, _, _, _, _, _, _, hx8, hv, hp, hsn, htx, hou, hep⟩
set_option maxRecDepth 100000 in
set_option maxHeartbeats 4000000 in
theorem c_X13_runLevel {g : zGT} {w : zW} {b : Nat} {S : zSt} {Hs : List zSt} {Sn : Option zSt} {I O : List Nat} {ep fc : Int32} {t : Nat} {x : Int32} (h0 : zG0 g) (hq : Mq g w b (S) (Hs) (Sn) (I) (O) (ep) (fc) (t)) : zCt g mX13_runLevel (zR 4 0) [.ref (za g b), .int (x)] w (fun o w' => ∃ r, o = .inl (some (.int r)) ∧ zFr w w' b (b + 11) ∧ Mq g w' b (S) (Hs) (Sn) (I) (O) (ep) (fc) (if ¬ (spStart (gT S.1) S.1.length x.toInt < 0) then 0 else 1) ∧ (¬ (spStart (gT S.1) S.1.length x.toInt < 0) → r = nI (gT S.1 (spStart (gT S.1) S.1.length x.toInt).toNat))) := by
  obtain ⟨po, en, kn, wr, dg, fv, fb, fs, fp, fh, ft, fl, fi, h, hv, hp, hsn, htx, hou, hep⟩ := hq
  have hb := h.1
  have hl := hv.len
  refine zCt_of (by decide +kernel) h0 [(0, .ref (za g b)), (1, .int (x))] rfl (Nat.le_of_ble_eq_true rfl) ?_
  refine z_aload_n dX13_runLevel_0 rfl ?_
  refine z_iload_n dX13_runLevel_1 rfl ?_
  by_cases hc1 : spStart (gT S.1) S.1.length x.toInt < 0
  · refine z_callR (As := [.int (x)]) (rest := []) (b := b) (ci := 12) (v := some (.int (nI (0)))) (R2 := zR 2 0) dX13_runLevel_2 kV_RX13_135 rfl ⟨⟨by decide, by decide⟩, by decide, by decide⟩ (by omega) h.ce rfl rfl rfl (Nat.le_of_ble_eq_true rfl) rfl (c_X13_startOf_n (j := 0) h0 h hv hc1) (fun w2 pw2 => ?_)
    obtain ⟨hf3, hx4⟩ := pw2
    refine z_istore_n (lv' := [(0, .ref (za g b)), (1, .int (x)), (2, .int (nI (0)))]) dX13_runLevel_5 (by decide) rfl ?_
    refine z_aload_n dX13_runLevel_6 rfl ?_
    refine z_getf (j := b) dX13_runLevel_7 kF_RX13_47 rfl (by omega) hx4.ce rfl ?_
    refine z_if_ne_n (a := 1) (tgt := 21) dX13_runLevel_10 (by decide) (by omega) (fun h_10_5 => ?_) (fun h_10_5 => ?_)
    · refine z_iconst (v := nI 0) dX13_runLevel_21 rfl ?_
      refine z_iret dX13_runLevel_22 rfl (by decide) (by decide) ?_
      have q8 : ¬ (¬ (spStart (gT S.1) S.1.length x.toInt < 0)) := (by omega)
      refine ⟨_, rfl, hf3, ?_, fun q9 => absurd q9 q8⟩
      rw [if_neg q8]
      exact ⟨_, _, _, _, _, _, _, _, _, _, _, _, _, hx4, hv, hp, hsn, htx, hou, hep⟩
    · exact absurd h_10_5 (by decide)
  · refine z_callR (As := [.int (x)]) (rest := []) (b := b) (ci := 12) (v := some (.int (nI ((spStart (gT S.1) S.1.length x.toInt).toNat)))) (R2 := zR 2 0) dX13_runLevel_2 kV_RX13_135 rfl ⟨⟨by decide, by decide⟩, by decide, by decide⟩ (by omega) h.ce rfl rfl rfl (Nat.le_of_ble_eq_true rfl) rfl (c_X13_startOf_y (j := (spStart (gT S.1) S.1.length x.toInt).toNat) h0 h hv (Int.toNat_of_nonneg (by omega)).symm) (fun w6 pw6 => ?_)
    obtain ⟨hf7, hx8⟩ := pw6
    have hrn := fidx_rng (fun k => stB (gT S.1) k && decide ((cS (gT S.1) k : Int) = x.toInt)) S.1.length
    have hr2 : 0 ≤ spStart (gT S.1) S.1.length x.toInt ∧ spStart (gT S.1) S.1.length x.toInt < (S.1.length : Int) + 1 := ⟨by omega, hrn.2⟩
    have hr3 : (spStart (gT S.1) S.1.length x.toInt).toNat < S.1.length := fidx_lt (P := (fun k => stB (gT S.1) k && decide ((cS (gT S.1) k : Int) = x.toInt))) hr2.1
    refine z_istore_n (lv' := [(0, .ref (za g b)), (1, .int (x)), (2, .int (nI ((spStart (gT S.1) S.1.length x.toInt).toNat)))]) dX13_runLevel_5 (by decide) rfl ?_
    refine z_aload_n dX13_runLevel_6 rfl ?_
    refine z_getf (j := b) dX13_runLevel_7 kF_RX13_47 rfl (by omega) hx8.ce rfl ?_
    refine z_if_ne_n (a := 0) (tgt := 21) dX13_runLevel_10 (by decide) (by omega) (fun h_10_9 => ?_) (fun h_10_9 => ?_)
    · exact absurd h_10_9 (by decide)
    · refine z_aload_n dX13_runLevel_13 rfl ?_
      refine z_iload_n dX13_runLevel_14 rfl ?_
      have hle10 := hv.le ((spStart (gT S.1) S.1.length x.toInt).toNat)
      refine z_callE (As := [.int (nI ((spStart (gT S.1) S.1.length x.toInt).toNat))]) (rest := []) (b := b) (ci := 12) (v := some (.int (nI (gT S.1 ((spStart (gT S.1) S.1.length x.toInt).toNat))))) (R2 := zR 0 0) dX13_runLevel_15 kV_RX13_65 rfl ⟨⟨by decide, by decide⟩, by decide, by decide⟩ (by omega) hx8.ce rfl rfl rfl (Nat.le_of_ble_eq_true rfl) rfl (c_X13_level (t := (spStart (gT S.1) S.1.length x.toInt).toNat) (x := gT S.1 ((spStart (gT S.1) S.1.length x.toInt).toNat)) h0 hx8 (by omega) (hv.tick (by omega))) ?_
      refine z_goto (tgt := 22) dX13_runLevel_18 (by decide) ?_
      refine z_iret dX13_runLevel_22 rfl (by decide) (by decide) ?_
      refine ⟨_, rfl, hf7, ?_, fun _ => rfl⟩
      rw [if_pos (by omega)]
      exact ⟨_, _, _, _, _, _, _, _, _, _, _, _, _, hx8, hv, hp, hsn, htx, hou, hep⟩
set_option maxRecDepth 100000 in
set_option maxHeartbeats 4000000 in
theorem c_X13_peakLevel {g : zGT} {w : zW} {b : Nat} {S : zSt} {Hs : List zSt} {Sn : Option zSt} {I O : List Nat} {ep fc : Int32} {t : Nat}  (h0 : zG0 g) (hq : Mq g w b (S) (Hs) (Sn) (I) (O) (ep) (fc) (t)) : zCt g mX13_peakLevel (zR 4 0) [.ref (za g b)] w (fun o w' => o = .inl (some (.int (nI (nmax (gT S.1) S.1.length)))) ∧ zFr w w' b (b + 11) ∧ Mq g w' b (S) (Hs) (Sn) (I) (O) (ep) (fc) (0)) := by
  obtain ⟨po, en, kn, wr, dg, fv, fb, fs, fp, fh, ft, fl, fi, h, hv, hp, hsn, htx, hou, hep⟩ := hq
  have hb := h.1
  have hl := hv.len
  refine zCt_of (by decide +kernel) h0 [(0, .ref (za g b))] rfl (Nat.le_of_ble_eq_true rfl) ?_
  have loop : ∀ (wi : zW), zFr w wi b (b + 11) → Mx g wi b (nI 0) (nI Hs.length) ep fc (nI (if Sn.isSome then 1 else 0)) (nI I.length) po en (nI O.length) kn wr dg fv fb fs fp fh ft fl fi → ∀ (mm : Nat) (i : Nat), S.1.length + 1 - i < mm → (i ≤ S.1.length) → zTr g mX13_peakLevel (zR 4 0) 0 0 9 [(0, .ref (za g b)), (1, .int (nI (nmax (gT S.1) i))), (2, .int (nI (i)))] [] wi (fun o w' => o = .inl (some (.int (nI (nmax (gT S.1) S.1.length)))) ∧ zFr w w' b (b + 11) ∧ Mq g w' b (S) (Hs) (Sn) (I) (O) (ep) (fc) (0)) := by
    intro wi hfi hmi
    intro mm
    induction mm with
    | zero => intros; omega
    | succ mm ih =>
      intro i hm hin
      have hnm : nmax (gT S.1) i ≤ 9 := nmax_le (fun k hk => hv.le k)
      refine z_iload_n dX13_peakLevel_9 rfl ?_
      refine z_aload_n dX13_peakLevel_10 rfl ?_
      refine z_getf (j := b) dX13_peakLevel_11 kF_RX13_16 rfl (by omega) hmi.ce rfl ?_
      refine z_iconst (v := nI 0) dX13_peakLevel_14 rfl ?_
      refine z_iald_v (j := b + 1) (N := 410) (a := 0) (x := S.1.length) (f := fv) dX13_peakLevel_15 (by omega) hmi.r1 (by omega) (by omega) (hv.dur) ?_
      refine z_icmp_ge_n (a := i) (b := S.1.length) (tgt := 44) dX13_peakLevel_16 (by decide) (by omega) (by omega) (fun h_16_1 => ?_) (fun h_16_1 => ?_)
      · refine z_iload_n dX13_peakLevel_44 rfl ?_
        refine z_iret dX13_peakLevel_45 rfl (by decide) (by decide) ?_
        have hi9 : i = S.1.length := by omega
        subst hi9
        exact ⟨rfl, hfi, ⟨_, _, _, _, _, _, _, _, _, _, _, _, _, hmi, hv, hp, hsn, htx, hou, hep⟩⟩
      · refine z_aload_n dX13_peakLevel_19 rfl ?_
        refine z_iload_n dX13_peakLevel_20 rfl ?_
        have hle2 := hv.le (i)
        refine z_callE (As := [.int (nI (i))]) (rest := []) (b := b) (ci := 12) (v := some (.int (nI (gT S.1 (i))))) (R2 := zR 0 0) dX13_peakLevel_21 kV_RX13_65 rfl ⟨⟨by decide, by decide⟩, by decide, by decide⟩ (by omega) hmi.ce rfl rfl rfl (Nat.le_of_ble_eq_true rfl) rfl (c_X13_level (t := i) (x := gT S.1 (i)) h0 hmi (by omega) (hv.tick (by omega))) ?_
        refine z_iload_n dX13_peakLevel_24 rfl ?_
        refine z_icmp_le_n (a := gT S.1 (i)) (b := nmax (gT S.1) i) (tgt := 36) dX13_peakLevel_25 (by decide) (by omega) (by omega) (fun h_25_4 => ?_) (fun h_25_4 => ?_)
        · refine z_iload_n dX13_peakLevel_36 rfl ?_
          refine z_istore_n (lv' := [(0, .ref (za g b)), (1, .int (nI (nmax (gT S.1) i))), (2, .int (nI (i)))]) dX13_peakLevel_37 (by decide) rfl ?_
          refine z_iinc_n (n := 1) (a := i) (lv' := [(0, .ref (za g b)), (1, .int (nI (nmax (gT S.1) i))), (2, .int (nI (i + 1)))]) dX13_peakLevel_38 rfl (by decide) rfl ?_
          refine z_goto (tgt := 9) dX13_peakLevel_41 (by decide) ?_
          refine z_eq (lv' := [(0, .ref (za g b)), (1, .int (nI (nmax (gT S.1) (i + 1)))), (2, .int (nI (i + 1)))]) rfl rfl (by rw [nmax]; rw [show max (nmax (gT S.1) i) (gT S.1 i) = nmax (gT S.1) i by omega]) ?_
          exact ih (i + 1) (by omega) (by omega)
        · refine z_aload_n dX13_peakLevel_28 rfl ?_
          refine z_iload_n dX13_peakLevel_29 rfl ?_
          have hle5 := hv.le (i)
          refine z_callE (As := [.int (nI (i))]) (rest := []) (b := b) (ci := 12) (v := some (.int (nI (gT S.1 (i))))) (R2 := zR 0 0) dX13_peakLevel_30 kV_RX13_65 rfl ⟨⟨by decide, by decide⟩, by decide, by decide⟩ (by omega) hmi.ce rfl rfl rfl (Nat.le_of_ble_eq_true rfl) rfl (c_X13_level (t := i) (x := gT S.1 (i)) h0 hmi (by omega) (hv.tick (by omega))) ?_
          refine z_goto (tgt := 37) dX13_peakLevel_33 (by decide) ?_
          refine z_istore_n (lv' := [(0, .ref (za g b)), (1, .int (nI (gT S.1 (i)))), (2, .int (nI (i)))]) dX13_peakLevel_37 (by decide) rfl ?_
          refine z_iinc_n (n := 1) (a := i) (lv' := [(0, .ref (za g b)), (1, .int (nI (gT S.1 (i)))), (2, .int (nI (i + 1)))]) dX13_peakLevel_38 rfl (by decide) rfl ?_
          refine z_goto (tgt := 9) dX13_peakLevel_41 (by decide) ?_
          refine z_eq (lv' := [(0, .ref (za g b)), (1, .int (nI (nmax (gT S.1) (i + 1)))), (2, .int (nI (i + 1)))]) rfl rfl (by rw [nmax]; rw [show max (nmax (gT S.1) i) (gT S.1 i) = gT S.1 (i) by omega]) ?_
          exact ih (i + 1) (by omega) (by omega)
  refine z_aload_n dX13_peakLevel_0 rfl ?_
  refine z_iconst (v := nI 0) dX13_peakLevel_1 rfl ?_
  refine z_putf (j := b) dX13_peakLevel_2 kF_RX13_47 zt_12_0 rfl (by omega) h.ce rfl rfl (Nat.le_of_ble_eq_true rfl) ?_
  obtain ⟨w1, ew2⟩ : ∃ wz : zW, wz = va_up w (b) (zO 12 [.int (nI (0)), .int (nI (Hs.length)), .int (ep), .int (fc), .int (nI (if Sn.isSome then 1 else 0)), .ref (za g (b + 1)), .ref (za g (b + 2)), .ref (za g (b + 3)), .ref (za g (b + 4)), .ref (za g (b + 5)), .ref (za g (b + 6)), .ref (za g (b + 7)), .ref (za g (b + 8)), .ref (za g (b + 9)), .ref (za g (b + 10)), .int (nI (I.length)), .int (po), .int (en), .int (nI (O.length)), .int (kn), .int (wr), .int (dg)]) := ⟨_, rfl⟩
  refine z_weq (w' := w1) ew2.symm ?_
  have hf3 : zFr w w1 (b) (b + 1) := by rw [ew2]; exact zFr.up (by omega)
  have hw4 : w1 (b) = zO 12 [.int (nI (0)), .int (nI (Hs.length)), .int (ep), .int (fc), .int (nI (if Sn.isSome then 1 else 0)), .ref (za g (b + 1)), .ref (za g (b + 2)), .ref (za g (b + 3)), .ref (za g (b + 4)), .ref (za g (b + 5)), .ref (za g (b + 6)), .ref (za g (b + 7)), .ref (za g (b + 8)), .ref (za g (b + 9)), .ref (za g (b + 10)), .int (nI (I.length)), .int (po), .int (en), .int (nI (O.length)), .int (kn), .int (wr), .int (dg)] := by rw [ew2, zup_s]
  have hx5 := h.setC hf3 hw4
  refine z_iconst (v := nI 0) dX13_peakLevel_5 rfl ?_
  refine z_istore_n (lv' := [(0, .ref (za g b)), (1, .int (nI (0)))]) dX13_peakLevel_6 (by decide) rfl ?_
  refine z_iconst (v := nI 0) dX13_peakLevel_7 rfl ?_
  refine z_istore_n (lv' := [(0, .ref (za g b)), (1, .int (nI (0))), (2, .int (nI (0)))]) dX13_peakLevel_8 (by decide) rfl ?_
  exact loop _ (hf3.wk (by omega) (by omega)) hx5 (S.1.length + 2) 0 (by omega) (Nat.zero_le _)
set_option maxRecDepth 100000 in
set_option maxHeartbeats 4000000 in
theorem c_X13_restCount {g : zGT} {w : zW} {b : Nat} {S : zSt} {Hs : List zSt} {Sn : Option zSt} {I O : List Nat} {ep fc : Int32} {t : Nat}  (h0 : zG0 g) (hq : Mq g w b (S) (Hs) (Sn) (I) (O) (ep) (fc) (t)) : zCt g mX13_restCount (zR 4 0) [.ref (za g b)] w (fun o w' => o = .inl (some (.int (nI (zcnt (rsB (gT S.1)) 0 S.1.length)))) ∧ zFr w w' b (b + 11) ∧ Mq g w' b (S) (Hs) (Sn) (I) (O) (ep) (fc) (0)) := by
  obtain ⟨po, en, kn, wr, dg, fv, fb, fs, fp, fh, ft, fl, fi, h, hv, hp, hsn, htx, hou, hep⟩ := hq
  have hb := h.1
  have hl := hv.len
  refine zCt_of (by decide +kernel) h0 [(0, .ref (za g b))] rfl (Nat.le_of_ble_eq_true rfl) ?_
  have loop : ∀ (wi : zW), zFr w wi b (b + 11) → Mx g wi b (nI 0) (nI Hs.length) ep fc (nI (if Sn.isSome then 1 else 0)) (nI I.length) po en (nI O.length) kn wr dg fv fb fs fp fh ft fl fi → ∀ (mm : Nat) (i : Nat), S.1.length + 1 - i < mm → (i ≤ S.1.length) → zTr g mX13_restCount (zR 4 0) 0 0 9 [(0, .ref (za g b)), (1, .int (nI (zcnt (rsB (gT S.1)) 0 i))), (2, .int (nI (i)))] [] wi (fun o w' => o = .inl (some (.int (nI (zcnt (rsB (gT S.1)) 0 S.1.length)))) ∧ zFr w w' b (b + 11) ∧ Mq g w' b (S) (Hs) (Sn) (I) (O) (ep) (fc) (0)) := by
    intro wi hfi hmi
    intro mm
    induction mm with
    | zero => intros; omega
    | succ mm ih =>
      intro i hm hin
      have hcl := zcnt_le (P := rsB (gT S.1)) (p := 0) i
      refine z_iload_n dX13_restCount_9 rfl ?_
      refine z_aload_n dX13_restCount_10 rfl ?_
      refine z_getf (j := b) dX13_restCount_11 kF_RX13_16 rfl (by omega) hmi.ce rfl ?_
      refine z_iconst (v := nI 0) dX13_restCount_14 rfl ?_
      refine z_iald_v (j := b + 1) (N := 410) (a := 0) (x := S.1.length) (f := fv) dX13_restCount_15 (by omega) hmi.r1 (by omega) (by omega) (hv.dur) ?_
      refine z_icmp_ge_n (a := i) (b := S.1.length) (tgt := 41) dX13_restCount_16 (by decide) (by omega) (by omega) (fun h_16_1 => ?_) (fun h_16_1 => ?_)
      · refine z_iload_n dX13_restCount_41 rfl ?_
        refine z_iret dX13_restCount_42 rfl (by decide) (by decide) ?_
        have hi9 : i = S.1.length := by omega
        subst hi9
        exact ⟨rfl, hfi, ⟨_, _, _, _, _, _, _, _, _, _, _, _, _, hmi, hv, hp, hsn, htx, hou, hep⟩⟩
      · refine z_iload_n dX13_restCount_19 rfl ?_
        refine z_aload_n dX13_restCount_20 rfl ?_
        refine z_iload_n dX13_restCount_21 rfl ?_
        by_cases hc2 : rsB (gT S.1) (i) = true
        · refine z_callE (As := [.int (nI (i))]) (rest := [.int (nI (zcnt (rsB (gT S.1)) 0 i))]) (b := b) (ci := 12) (v := some (.int (nI (1)))) (R2 := zR 2 0) dX13_restCount_22 kV_RX13_154 rfl ⟨⟨by decide, by decide⟩, by decide, by decide⟩ (by omega) hmi.ce rfl rfl rfl (Nat.le_of_ble_eq_true rfl) rfl (c_X13_isRestStart_y (k := i) h0 hmi hv (by omega) hc2) ?_
          refine z_if_eq_n (a := 1) (tgt := 32) dX13_restCount_25 (by decide) (by omega) (fun h_25_4 => ?_) (fun h_25_4 => ?_)
          · exact absurd h_25_4 (by decide)
          · refine z_iconst (v := nI 1) dX13_restCount_28 rfl ?_
            refine z_goto (tgt := 33) dX13_restCount_29 (by decide) ?_
            refine z_iadd_n (a := zcnt (rsB (gT S.1)) 0 i) (b := 1) dX13_restCount_33 ?_
            refine z_istore_n (lv' := [(0, .ref (za g b)), (1, .int (nI ((zcnt (rsB (gT S.1)) 0 i) + (1)))), (2, .int (nI (i)))]) dX13_restCount_34 (by decide) rfl ?_
            refine z_iinc_n (n := 1) (a := i) (lv' := [(0, .ref (za g b)), (1, .int (nI ((zcnt (rsB (gT S.1)) 0 i) + (1)))), (2, .int (nI (i + 1)))]) dX13_restCount_35 rfl (by decide) rfl ?_
            refine z_goto (tgt := 9) dX13_restCount_38 (by decide) ?_
            have q8 := zcnt_s (P := rsB (gT S.1)) (p := 0) (i := i) (Nat.zero_le _)
            simp only [Nat.sub_zero] at q8
            rw [if_pos hc2] at q8
            refine z_eq (lv' := [(0, .ref (za g b)), (1, .int (nI (zcnt (rsB (gT S.1)) 0 (i + 1)))), (2, .int (nI (i + 1)))]) rfl rfl (by rw [q8]) ?_
            exact ih (i + 1) (by omega) (by omega)
        · refine z_callE (As := [.int (nI (i))]) (rest := [.int (nI (zcnt (rsB (gT S.1)) 0 i))]) (b := b) (ci := 12) (v := some (.int (nI (0)))) (R2 := zR 2 0) dX13_restCount_22 kV_RX13_154 rfl ⟨⟨by decide, by decide⟩, by decide, by decide⟩ (by omega) hmi.ce rfl rfl rfl (Nat.le_of_ble_eq_true rfl) rfl (c_X13_isRestStart_n (k := i) h0 hmi hv (by omega) hc2) ?_
          refine z_if_eq_n (a := 0) (tgt := 32) dX13_restCount_25 (by decide) (by omega) (fun h_25_6 => ?_) (fun h_25_6 => ?_)
          · refine z_iconst (v := nI 0) dX13_restCount_32 rfl ?_
            refine z_iadd_n (a := zcnt (rsB (gT S.1)) 0 i) (b := 0) dX13_restCount_33 ?_
            refine z_istore_n (lv' := [(0, .ref (za g b)), (1, .int (nI ((zcnt (rsB (gT S.1)) 0 i) + (0)))), (2, .int (nI (i)))]) dX13_restCount_34 (by decide) rfl ?_
            refine z_iinc_n (n := 1) (a := i) (lv' := [(0, .ref (za g b)), (1, .int (nI ((zcnt (rsB (gT S.1)) 0 i) + (0)))), (2, .int (nI (i + 1)))]) dX13_restCount_35 rfl (by decide) rfl ?_
            refine z_goto (tgt := 9) dX13_restCount_38 (by decide) ?_
            have q8 := zcnt_s (P := rsB (gT S.1)) (p := 0) (i := i) (Nat.zero_le _)
            simp only [Nat.sub_zero] at q8
            rw [if_neg hc2] at q8
            refine z_eq (lv' := [(0, .ref (za g b)), (1, .int (nI (zcnt (rsB (gT S.1)) 0 (i + 1)))), (2, .int (nI (i + 1)))]) rfl rfl (by rw [q8]) ?_
            exact ih (i + 1) (by omega) (by omega)
          · exact absurd h_25_6 (by decide)
  refine z_aload_n dX13_restCount_0 rfl ?_
  refine z_iconst (v := nI 0) dX13_restCount_1 rfl ?_
  refine z_putf (j := b) dX13_restCount_2 kF_RX13_47 zt_12_0 rfl (by omega) h.ce rfl rfl (Nat.le_of_ble_eq_true rfl) ?_
  obtain ⟨w1, ew2⟩ : ∃ wz : zW, wz = va_up w (b) (zO 12 [.int (nI (0)), .int (nI (Hs.length)), .int (ep), .int (fc), .int (nI (if Sn.isSome then 1 else 0)), .ref (za g (b + 1)), .ref (za g (b + 2)), .ref (za g (b + 3)), .ref (za g (b + 4)), .ref (za g (b + 5)), .ref (za g (b + 6)), .ref (za g (b + 7)), .ref (za g (b + 8)), .ref (za g (b + 9)), .ref (za g (b + 10)), .int (nI (I.length)), .int (po), .int (en), .int (nI (O.length)), .int (kn), .int (wr), .int (dg)]) := ⟨_, rfl⟩
  refine z_weq (w' := w1) ew2.symm ?_
  have hf3 : zFr w w1 (b) (b + 1) := by rw [ew2]; exact zFr.up (by omega)
  have hw4 : w1 (b) = zO 12 [.int (nI (0)), .int (nI (Hs.length)), .int (ep), .int (fc), .int (nI (if Sn.isSome then 1 else 0)), .ref (za g (b + 1)), .ref (za g (b + 2)), .ref (za g (b + 3)), .ref (za g (b + 4)), .ref (za g (b + 5)), .ref (za g (b + 6)), .ref (za g (b + 7)), .ref (za g (b + 8)), .ref (za g (b + 9)), .ref (za g (b + 10)), .int (nI (I.length)), .int (po), .int (en), .int (nI (O.length)), .int (kn), .int (wr), .int (dg)] := by rw [ew2, zup_s]
  have hx5 := h.setC hf3 hw4
  refine z_iconst (v := nI 0) dX13_restCount_5 rfl ?_
  refine z_istore_n (lv' := [(0, .ref (za g b)), (1, .int (nI (0)))]) dX13_restCount_6 (by decide) rfl ?_
  refine z_iconst (v := nI 0) dX13_restCount_7 rfl ?_
  refine z_istore_n (lv' := [(0, .ref (za g b)), (1, .int (nI (0))), (2, .int (nI (0)))]) dX13_restCount_8 (by decide) rfl ?_
  exact loop _ (hf3.wk (by omega) (by omega)) hx5 (S.1.length + 2) 0 (by omega) (Nat.zero_le _)
