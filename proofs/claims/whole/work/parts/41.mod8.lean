/-! the reference: its questions, further -/
set_option maxRecDepth 100000 in
set_option maxHeartbeats 4000000 in
theorem c_X13_nextChange {g : zGT} {w : zW} {b : Nat} {S : zSt} {Hs : List zSt} {Sn : Option zSt} {I O : List Nat} {ep fc : Int32} {t : Nat} {x : Int32} (h0 : zG0 g) (hq : Mq g w b (S) (Hs) (Sn) (I) (O) (ep) (fc) (t)) : zCt g mX13_nextChange (zR 4 0) [.ref (za g b), .int (x)] w (fun o w' => ∃ r, o = .inl (some (.int r)) ∧ zFr w w' b (b + 11) ∧ Mq g w' b (S) (Hs) (Sn) (I) (O) (ep) (fc) ((if 0 ≤ x.toInt ∧ x.toInt < (S.1.length : Nat) then (if spNext (gT S.1) S.1.length x.toInt.toNat < 0 then 2 else 0) else 1)) ∧ ((if 0 ≤ x.toInt ∧ x.toInt < (S.1.length : Nat) then (if spNext (gT S.1) S.1.length x.toInt.toNat < 0 then 2 else 0) else 1) = 0 → r = nI (spNext (gT S.1) S.1.length x.toInt.toNat).toNat)) := by
  obtain ⟨po, en, kn, wr, dg, fv, fb, fs, fp, fh, ft, fl, fi, h, hv, hp, hsn, htx, hou, hep⟩ := hq
  have hb := h.1
  have hl := hv.len
  refine zCt_of (by decide +kernel) h0 [(0, .ref (za g b)), (1, .int (x))] rfl (Nat.le_of_ble_eq_true rfl) ?_
  have loop : ∀ (wi : zW), zFr w wi b (b + 11) → Mx g wi b (nI 0) (nI Hs.length) ep fc (nI (if Sn.isSome then 1 else 0)) (nI I.length) po en (nI O.length) kn wr dg fv fb fs fp fh ft fl fi → (0 ≤ x.toInt ∧ x.toInt < (S.1.length : Nat)) → ∀ (mm : Nat) (i : Nat), S.1.length + 1 - i < mm → (x.toInt.toNat < i) → (i ≤ S.1.length) → (∀ k, x.toInt.toNat < k → k < i → stB (gT S.1) k = false) → zTr g mX13_nextChange (zR 4 0) 0 0 23 [(0, .ref (za g b)), (1, .int (nI (x.toInt.toNat))), (2, .int (nI (i)))] [] wi (fun o w' => ∃ r, o = .inl (some (.int r)) ∧ zFr w w' b (b + 11) ∧ Mq g w' b (S) (Hs) (Sn) (I) (O) (ep) (fc) ((if 0 ≤ x.toInt ∧ x.toInt < (S.1.length : Nat) then (if spNext (gT S.1) S.1.length x.toInt.toNat < 0 then 2 else 0) else 1)) ∧ ((if 0 ≤ x.toInt ∧ x.toInt < (S.1.length : Nat) then (if spNext (gT S.1) S.1.length x.toInt.toNat < 0 then 2 else 0) else 1) = 0 → r = nI (spNext (gT S.1) S.1.length x.toInt.toNat).toNat)) := by
    intro wi hfi hmi hx0
    intro mm
    induction mm with
    | zero => intros; omega
    | succ mm ih =>
      intro i hm hti hin hno
      refine z_iload_n dX13_nextChange_23 rfl ?_
      refine z_aload_n dX13_nextChange_24 rfl ?_
      refine z_getf (j := b) dX13_nextChange_25 kF_RX13_16 rfl (by omega) hmi.ce rfl ?_
      refine z_iconst (v := nI 0) dX13_nextChange_28 rfl ?_
      refine z_iald_v (j := b + 1) (N := 410) (a := 0) (x := S.1.length) (f := fv) dX13_nextChange_29 (by omega) hmi.r1 (by omega) (by omega) (hv.dur) ?_
      refine z_icmp_ge_n (a := i) (b := S.1.length) (tgt := 49) dX13_nextChange_30 (by decide) (by omega) (by omega) (fun h_30_1 => ?_) (fun h_30_1 => ?_)
      · refine z_aload_n dX13_nextChange_49 rfl ?_
        refine z_iconst (v := nI 2) dX13_nextChange_50 rfl ?_
        refine z_callR (As := [.int (nI (2))]) (rest := []) (b := b) (ci := 12) (v := some (.int (nI (0)))) (R2 := zR 0 0) dX13_nextChange_51 kV_RX13_61 rfl ⟨⟨by decide, by decide⟩, by decide, by decide⟩ (by omega) hmi.ce rfl rfl rfl (Nat.le_of_ble_eq_true rfl) rfl (c_X13_fail (x := (nI (2))) h0 hmi) (fun w2 pw2 => ?_)
        obtain ⟨hf3, hx4⟩ := pw2
        refine z_iret dX13_nextChange_54 rfl (by decide) (by decide) ?_
        have hh : spNext (gT S.1) S.1.length x.toInt.toNat = -1 := fidx_no (fun k hk => by
          show (stB (gT S.1) k && decide (x.toInt.toNat < k)) = false
          by_cases c : x.toInt.toNat < k
          · rw [hno k c (by omega)]; rfl
          · rw [decide_eq_false c, Bool.and_false])
        have hF : (if 0 ≤ x.toInt ∧ x.toInt < (S.1.length : Nat) then (if spNext (gT S.1) S.1.length x.toInt.toNat < 0 then 2 else 0) else 1) = 2 := by rw [if_pos hx0, if_pos (by rw [hh]; decide)]
        refine ⟨_, rfl, (hfi.tr hf3), ?_, fun q9 => absurd (hF.symm.trans q9) (by decide)⟩
        rw [hF]
        exact ⟨_, _, _, _, _, _, _, _, _, _, _, _, _, hx4, hv, hp, hsn, htx, hou, hep⟩
      · refine z_aload_n dX13_nextChange_33 rfl ?_
        refine z_iload_n dX13_nextChange_34 rfl ?_
        by_cases hc5 : stB (gT S.1) (i) = true
        · refine z_callE (As := [.int (nI (i))]) (rest := []) (b := b) (ci := 12) (v := some (.int (nI (1)))) (R2 := zR 1 0) dX13_nextChange_35 kV_RX13_128 rfl ⟨⟨by decide, by decide⟩, by decide, by decide⟩ (by omega) hmi.ce rfl rfl rfl (Nat.le_of_ble_eq_true rfl) rfl (c_X13_isStart_y (k := i) h0 hmi hv (by omega) hc5) ?_
          refine z_if_eq_n (a := 1) (tgt := 43) dX13_nextChange_38 (by decide) (by omega) (fun h_38_7 => ?_) (fun h_38_7 => ?_)
          · exact absurd h_38_7 (by decide)
          · refine z_iload_n dX13_nextChange_41 rfl ?_
            refine z_iret dX13_nextChange_42 rfl (by decide) (by decide) ?_
            have hh : spNext (gT S.1) S.1.length x.toInt.toNat = (i : Int) := fidx_hit (by omega) (fun k hk => by
                show (stB (gT S.1) k && decide (x.toInt.toNat < k)) = false
                by_cases c : x.toInt.toNat < k
                · rw [hno k c (by omega)]; rfl
                · rw [decide_eq_false c, Bool.and_false])
              (by show (stB (gT S.1) i && decide (x.toInt.toNat < i)) = true; rw [hc5, decide_eq_true hti]; rfl)
            have hF : (if 0 ≤ x.toInt ∧ x.toInt < (S.1.length : Nat) then (if spNext (gT S.1) S.1.length x.toInt.toNat < 0 then 2 else 0) else 1) = 0 := by rw [if_pos hx0, if_neg (by rw [hh]; omega)]
            refine ⟨_, rfl, hfi, ?_, fun _ => by rw [hh]; rfl⟩
            rw [hF]
            exact ⟨_, _, _, _, _, _, _, _, _, _, _, _, _, hmi, hv, hp, hsn, htx, hou, hep⟩
        · refine z_callE (As := [.int (nI (i))]) (rest := []) (b := b) (ci := 12) (v := some (.int (nI (0)))) (R2 := zR 1 0) dX13_nextChange_35 kV_RX13_128 rfl ⟨⟨by decide, by decide⟩, by decide, by decide⟩ (by omega) hmi.ce rfl rfl rfl (Nat.le_of_ble_eq_true rfl) rfl (c_X13_isStart_n (k := i) h0 hmi hv (by omega) hc5) ?_
          refine z_if_eq_n (a := 0) (tgt := 43) dX13_nextChange_38 (by decide) (by omega) (fun h_38_9 => ?_) (fun h_38_9 => ?_)
          · refine z_iinc_n (n := 1) (a := i) (lv' := [(0, .ref (za g b)), (1, .int (nI (x.toInt.toNat))), (2, .int (nI (i + 1)))]) dX13_nextChange_43 rfl (by decide) rfl ?_
            refine z_goto (tgt := 23) dX13_nextChange_46 (by decide) ?_
            refine ih (i + 1) (by omega) (by omega) (by omega) (fun k h8 h9 => ?_)
            by_cases c : k < i
            · exact hno k h8 c
            · rw [show k = i by omega]; exact Bool.eq_false_iff.mpr hc5
          · exact absurd h_38_9 (by decide)
  refine z_aload_n dX13_nextChange_0 rfl ?_
  refine z_iconst (v := nI 0) dX13_nextChange_1 rfl ?_
  refine z_putf (j := b) dX13_nextChange_2 kF_RX13_47 zt_12_0 rfl (by omega) h.ce rfl rfl (Nat.le_of_ble_eq_true rfl) ?_
  obtain ⟨w1, ew2⟩ : ∃ wz : zW, wz = va_up w (b) (zO 12 [.int (nI (0)), .int (nI (Hs.length)), .int (ep), .int (fc), .int (nI (if Sn.isSome then 1 else 0)), .ref (za g (b + 1)), .ref (za g (b + 2)), .ref (za g (b + 3)), .ref (za g (b + 4)), .ref (za g (b + 5)), .ref (za g (b + 6)), .ref (za g (b + 7)), .ref (za g (b + 8)), .ref (za g (b + 9)), .ref (za g (b + 10)), .int (nI (I.length)), .int (po), .int (en), .int (nI (O.length)), .int (kn), .int (wr), .int (dg)]) := ⟨_, rfl⟩
  refine z_weq (w' := w1) ew2.symm ?_
  have hf3 : zFr w w1 (b) (b + 1) := by rw [ew2]; exact zFr.up (by omega)
  have hw4 : w1 (b) = zO 12 [.int (nI (0)), .int (nI (Hs.length)), .int (ep), .int (fc), .int (nI (if Sn.isSome then 1 else 0)), .ref (za g (b + 1)), .ref (za g (b + 2)), .ref (za g (b + 3)), .ref (za g (b + 4)), .ref (za g (b + 5)), .ref (za g (b + 6)), .ref (za g (b + 7)), .ref (za g (b + 8)), .ref (za g (b + 9)), .ref (za g (b + 10)), .int (nI (I.length)), .int (po), .int (en), .int (nI (O.length)), .int (kn), .int (wr), .int (dg)] := by rw [ew2, zup_s]
  have hx5 := h.setC hf3 hw4
  refine z_aload_n dX13_nextChange_5 rfl ?_
  refine z_iload_n dX13_nextChange_6 rfl ?_
  by_cases hc6 : 0 ≤ ((x)).toInt ∧ ((x)).toInt < (S.1.length : Nat)
  · refine z_callE (As := [.int (x)]) (rest := []) (b := b) (ci := 12) (v := some (.int (nI (1)))) (R2 := zR 1 0) dX13_nextChange_7 kV_RX13_124 rfl ⟨⟨by decide, by decide⟩, by decide, by decide⟩ (by omega) hx5.ce rfl rfl rfl (Nat.le_of_ble_eq_true rfl) rfl (c_X13_isTick_y  h0 hx5 hv  hc6) ?_
    refine z_if_ne_n (a := 1) (tgt := 19) dX13_nextChange_10 (by decide) (by omega) (fun h_10_8 => ?_) (fun h_10_8 => ?_)
    · refine z_eq (lv' := [(0, .ref (za g b)), (1, .int (nI (x.toInt.toNat)))]) rfl rfl (by rw [← i_nat (x := x) (by omega)]) ?_
      refine z_iload_n dX13_nextChange_19 rfl ?_
      refine z_iconst (v := nI 1) dX13_nextChange_20 rfl ?_
      refine z_iadd_n (a := x.toInt.toNat) (b := 1) dX13_nextChange_21 ?_
      refine z_istore_n (lv' := [(0, .ref (za g b)), (1, .int (nI (x.toInt.toNat))), (2, .int (nI ((x.toInt.toNat) + (1))))]) dX13_nextChange_22 (by decide) rfl ?_
      exact loop _ (hf3.wk (by omega) (by omega)) hx5 (by omega) (S.1.length + 2) (x.toInt.toNat + 1) (by omega) (by omega) (by omega) (fun k h8 h9 => by omega)
    · exact absurd h_10_8 (by decide)
  · refine z_callE (As := [.int (x)]) (rest := []) (b := b) (ci := 12) (v := some (.int (nI (0)))) (R2 := zR 1 0) dX13_nextChange_7 kV_RX13_124 rfl ⟨⟨by decide, by decide⟩, by decide, by decide⟩ (by omega) hx5.ce rfl rfl rfl (Nat.le_of_ble_eq_true rfl) rfl (c_X13_isTick_n  h0 hx5 hv  hc6) ?_
    refine z_if_ne_n (a := 0) (tgt := 19) dX13_nextChange_10 (by decide) (by omega) (fun h_10_10 => ?_) (fun h_10_10 => ?_)
    · exact absurd h_10_10 (by decide)
    · refine z_aload_n dX13_nextChange_13 rfl ?_
      refine z_iconst (v := nI 1) dX13_nextChange_14 rfl ?_
      refine z_callR (As := [.int (nI (1))]) (rest := []) (b := b) (ci := 12) (v := some (.int (nI (0)))) (R2 := zR 0 0) dX13_nextChange_15 kV_RX13_61 rfl ⟨⟨by decide, by decide⟩, by decide, by decide⟩ (by omega) hx5.ce rfl rfl rfl (Nat.le_of_ble_eq_true rfl) rfl (c_X13_fail (x := (nI (1))) h0 hx5) (fun w11 pw11 => ?_)
      obtain ⟨hf12, hx13⟩ := pw11
      refine z_iret dX13_nextChange_18 rfl (by decide) (by decide) ?_
      have hF : (if 0 ≤ x.toInt ∧ x.toInt < (S.1.length : Nat) then (if spNext (gT S.1) S.1.length x.toInt.toNat < 0 then 2 else 0) else 1) = 1 := if_neg (by omega)
      refine ⟨_, rfl, ((hf3.wk (by omega) (by omega)).tr hf12), ?_, fun q9 => absurd (hF.symm.trans q9) (by decide)⟩
      rw [hF]
      exact ⟨_, _, _, _, _, _, _, _, _, _, _, _, _, hx13, hv, hp, hsn, htx, hou, hep⟩
set_option maxRecDepth 100000 in
set_option maxHeartbeats 4000000 in
theorem c_X13_findRun {g : zGT} {w : zW} {b : Nat} {S : zSt} {Hs : List zSt} {Sn : Option zSt} {I O : List Nat} {ep fc : Int32} {t : Nat} {x y : Int32} (h0 : zG0 g) (hq : Mq g w b (S) (Hs) (Sn) (I) (O) (ep) (fc) (t)) : zCt g mX13_findRun (zR 4 0) [.ref (za g b), .int (x), .int (y)] w (fun o w' => ∃ r, o = .inl (some (.int r)) ∧ zFr w w' b (b + 11) ∧ Mq g w' b (S) (Hs) (Sn) (I) (O) (ep) (fc) ((if (0 ≤ x.toInt ∧ x.toInt ≤ 9) ∧ 1 ≤ y.toInt then (if spFind (gT S.1) S.1.length x.toInt.toNat y.toInt < 0 then 2 else 0) else 1)) ∧ ((if (0 ≤ x.toInt ∧ x.toInt ≤ 9) ∧ 1 ≤ y.toInt then (if spFind (gT S.1) S.1.length x.toInt.toNat y.toInt < 0 then 2 else 0) else 1) = 0 → r = nI (cS (gT S.1) (spFind (gT S.1) S.1.length x.toInt.toNat y.toInt).toNat))) := by
  obtain ⟨po, en, kn, wr, dg, fv, fb, fs, fp, fh, ft, fl, fi, h, hv, hp, hsn, htx, hou, hep⟩ := hq
  have hb := h.1
  have hl := hv.len
  refine zCt_of (by decide +kernel) h0 [(0, .ref (za g b)), (1, .int (x)), (2, .int (y))] rfl (Nat.le_of_ble_eq_true rfl) ?_
  have loop : ∀ (wi : zW), zFr w wi b (b + 11) → Mx g wi b (nI 0) (nI Hs.length) ep fc (nI (if Sn.isSome then 1 else 0)) (nI I.length) po en (nI O.length) kn wr dg fv fb fs fp fh ft fl fi → ((0 ≤ x.toInt ∧ x.toInt ≤ 9) ∧ 1 ≤ y.toInt) → ∀ (mm : Nat) (i : Nat), S.1.length + 1 - i < mm → (i ≤ S.1.length) → (∀ k, k < i → (stB (gT S.1) k && (decide (gT S.1 k = x.toInt.toNat) && decide (y.toInt ≤ lenF (gT S.1) S.1.length k))) = false) → zTr g mX13_findRun (zR 4 0) 0 0 31 [(0, .ref (za g b)), (1, .int (nI (x.toInt.toNat))), (2, .int (y)), (3, .int (nI (cS (gT S.1) i))), (4, .int (nI (i)))] [] wi (fun o w' => ∃ r, o = .inl (some (.int r)) ∧ zFr w w' b (b + 11) ∧ Mq g w' b (S) (Hs) (Sn) (I) (O) (ep) (fc) ((if (0 ≤ x.toInt ∧ x.toInt ≤ 9) ∧ 1 ≤ y.toInt then (if spFind (gT S.1) S.1.length x.toInt.toNat y.toInt < 0 then 2 else 0) else 1)) ∧ ((if (0 ≤ x.toInt ∧ x.toInt ≤ 9) ∧ 1 ≤ y.toInt then (if spFind (gT S.1) S.1.length x.toInt.toNat y.toInt < 0 then 2 else 0) else 1) = 0 → r = nI (cS (gT S.1) (spFind (gT S.1) S.1.length x.toInt.toNat y.toInt).toNat))) := by
    intro wi hfi hmi hx0
    intro mm
    induction mm with
    | zero => intros; omega
    | succ mm ih =>
      intro i hm hin hno
      have hcl : cS (gT S.1) i ≤ i := by unfold cS; exact zcnt_le i
      refine z_iload dX13_findRun_31 rfl ?_
      refine z_aload_n dX13_findRun_33 rfl ?_
      refine z_getf (j := b) dX13_findRun_34 kF_RX13_16 rfl (by omega) hmi.ce rfl ?_
      refine z_iconst (v := nI 0) dX13_findRun_37 rfl ?_
      refine z_iald_v (j := b + 1) (N := 410) (a := 0) (x := S.1.length) (f := fv) dX13_findRun_38 (by omega) hmi.r1 (by omega) (by omega) (hv.dur) ?_
      refine z_icmp_ge_n (a := i) (b := S.1.length) (tgt := 85) dX13_findRun_39 (by decide) (by omega) (by omega) (fun h_39_1 => ?_) (fun h_39_1 => ?_)
      · refine z_aload_n dX13_findRun_85 rfl ?_
        refine z_iconst (v := nI 2) dX13_findRun_86 rfl ?_
        refine z_callR (As := [.int (nI (2))]) (rest := []) (b := b) (ci := 12) (v := some (.int (nI (0)))) (R2 := zR 0 0) dX13_findRun_87 kV_RX13_61 rfl ⟨⟨by decide, by decide⟩, by decide, by decide⟩ (by omega) hmi.ce rfl rfl rfl (Nat.le_of_ble_eq_true rfl) rfl (c_X13_fail (x := (nI (2))) h0 hmi) (fun w2 pw2 => ?_)
        obtain ⟨hf3, hx4⟩ := pw2
        refine z_iret dX13_findRun_90 rfl (by decide) (by decide) ?_
        have hh : spFind (gT S.1) S.1.length x.toInt.toNat y.toInt = -1 := fidx_no (fun k hk => hno k (by omega))
        have hF : (if (0 ≤ x.toInt ∧ x.toInt ≤ 9) ∧ 1 ≤ y.toInt then (if spFind (gT S.1) S.1.length x.toInt.toNat y.toInt < 0 then 2 else 0) else 1) = 2 := by rw [if_pos hx0, if_pos (by rw [hh]; decide)]
        refine ⟨_, rfl, (hfi.tr hf3), ?_, fun q9 => absurd (hF.symm.trans q9) (by decide)⟩
        rw [hF]
        exact ⟨_, _, _, _, _, _, _, _, _, _, _, _, _, hx4, hv, hp, hsn, htx, hou, hep⟩
      · refine z_aload_n dX13_findRun_42 rfl ?_
        refine z_iload dX13_findRun_43 rfl ?_
        by_cases hc5 : stB (gT S.1) (i) = true
        · refine z_callE (As := [.int (nI (i))]) (rest := []) (b := b) (ci := 12) (v := some (.int (nI (1)))) (R2 := zR 1 0) dX13_findRun_45 kV_RX13_128 rfl ⟨⟨by decide, by decide⟩, by decide, by decide⟩ (by omega) hmi.ce rfl rfl rfl (Nat.le_of_ble_eq_true rfl) rfl (c_X13_isStart_y (k := i) h0 hmi hv (by omega) hc5) ?_
          refine z_if_ne_n (a := 1) (tgt := 54) dX13_findRun_48 (by decide) (by omega) (fun h_48_7 => ?_) (fun h_48_7 => ?_)
          · refine z_aload_n dX13_findRun_54 rfl ?_
            refine z_iload dX13_findRun_55 rfl ?_
            have hle8 := hv.le (i)
            refine z_callE (As := [.int (nI (i))]) (rest := []) (b := b) (ci := 12) (v := some (.int (nI (gT S.1 (i))))) (R2 := zR 0 0) dX13_findRun_57 kV_RX13_65 rfl ⟨⟨by decide, by decide⟩, by decide, by decide⟩ (by omega) hmi.ce rfl rfl rfl (Nat.le_of_ble_eq_true rfl) rfl (c_X13_level (t := i) (x := gT S.1 (i)) h0 hmi (by omega) (hv.tick (by omega))) ?_
            refine z_iload_n dX13_findRun_60 rfl ?_
            refine z_icmp_ne_n (a := gT S.1 (i)) (b := x.toInt.toNat) (tgt := 76) dX13_findRun_61 (by decide) (by omega) (by omega) (fun h_61_10 => ?_) (fun h_61_10 => ?_)
            · refine z_iinc_n (n := 1) (a := cS (gT S.1) i) (lv' := [(0, .ref (za g b)), (1, .int (nI (x.toInt.toNat))), (2, .int (y)), (3, .int (nI (cS (gT S.1) i + 1))), (4, .int (nI (i)))]) dX13_findRun_76 rfl (by decide) rfl ?_
              refine z_iinc_n (n := 1) (a := i) (lv' := [(0, .ref (za g b)), (1, .int (nI (x.toInt.toNat))), (2, .int (y)), (3, .int (nI (cS (gT S.1) i + 1))), (4, .int (nI (i + 1)))]) dX13_findRun_79 rfl (by decide) rfl ?_
              refine z_goto (tgt := 31) dX13_findRun_82 (by decide) ?_
              have q8 := cS_s (T := (gT S.1)) (k := i)
              rw [if_pos hc5] at q8
              refine z_eq (lv' := [(0, .ref (za g b)), (1, .int (nI (x.toInt.toNat))), (2, .int (y)), (3, .int (nI (cS (gT S.1) (i + 1)))), (4, .int (nI (i + 1)))]) rfl rfl (by rw [q8]) ?_
              refine ih (i + 1) (by omega) (by omega) (fun k hk => ?_)
              by_cases c : k < i
              · exact hno k c
              · have hki : k = i := by omega
                rw [hki]
                show (stB (gT S.1) i && (decide (gT S.1 i = x.toInt.toNat) && decide (y.toInt ≤ lenF (gT S.1) S.1.length i))) = false
                rw [decide_eq_false (show ¬ (gT S.1 i = x.toInt.toNat) by omega), Bool.false_and, Bool.and_false]
            · refine z_aload_n dX13_findRun_64 rfl ?_
              refine z_iload dX13_findRun_65 rfl ?_
              have hlf11 := lenF_le (T := gT S.1) (n := S.1.length) (k := i)
              refine z_callE (As := [.int (nI (i))]) (rest := []) (b := b) (ci := 12) (v := some (.int (nI (lenF (gT S.1) S.1.length (i))))) (R2 := zR 3 0) dX13_findRun_67 kV_RX13_138 rfl ⟨⟨by decide, by decide⟩, by decide, by decide⟩ (by omega) hmi.ce rfl rfl rfl (Nat.le_of_ble_eq_true rfl) rfl (c_X13_lengthFrom (k := i) h0 hmi hv (by omega)) ?_
              refine z_iload_n dX13_findRun_70 rfl ?_
              have hk14 := nI_toInt (n := lenF (gT S.1) S.1.length (i)) (by omega)
              refine z_icmp_lt_z (tgt := 76) dX13_findRun_71 (by decide) (fun h_71_13 => ?_) (fun h_71_13 => ?_)
              · refine z_iinc_n (n := 1) (a := cS (gT S.1) i) (lv' := [(0, .ref (za g b)), (1, .int (nI (x.toInt.toNat))), (2, .int (y)), (3, .int (nI (cS (gT S.1) i + 1))), (4, .int (nI (i)))]) dX13_findRun_76 rfl (by decide) rfl ?_
                refine z_iinc_n (n := 1) (a := i) (lv' := [(0, .ref (za g b)), (1, .int (nI (x.toInt.toNat))), (2, .int (y)), (3, .int (nI (cS (gT S.1) i + 1))), (4, .int (nI (i + 1)))]) dX13_findRun_79 rfl (by decide) rfl ?_
                refine z_goto (tgt := 31) dX13_findRun_82 (by decide) ?_
                have q8 := cS_s (T := (gT S.1)) (k := i)
                rw [if_pos hc5] at q8
                refine z_eq (lv' := [(0, .ref (za g b)), (1, .int (nI (x.toInt.toNat))), (2, .int (y)), (3, .int (nI (cS (gT S.1) (i + 1)))), (4, .int (nI (i + 1)))]) rfl rfl (by rw [q8]) ?_
                refine ih (i + 1) (by omega) (by omega) (fun k hk => ?_)
                by_cases c : k < i
                · exact hno k c
                · have hki : k = i := by omega
                  rw [hki]
                  show (stB (gT S.1) i && (decide (gT S.1 i = x.toInt.toNat) && decide (y.toInt ≤ lenF (gT S.1) S.1.length i))) = false
                  rw [decide_eq_false (show ¬ (y.toInt ≤ lenF (gT S.1) S.1.length i) by omega), Bool.and_false, Bool.and_false]
              · refine z_iload_n dX13_findRun_74 rfl ?_
                refine z_iret dX13_findRun_75 rfl (by decide) (by decide) ?_
                have hh : spFind (gT S.1) S.1.length x.toInt.toNat y.toInt = (i : Int) := fidx_hit (by omega) hno (by show (stB (gT S.1) i && (decide (gT S.1 i = x.toInt.toNat) && decide (y.toInt ≤ lenF (gT S.1) S.1.length i))) = true; rw [hc5, decide_eq_true (show gT S.1 i = x.toInt.toNat by omega), decide_eq_true (show y.toInt ≤ lenF (gT S.1) S.1.length i by omega)]; rfl)
                have hF : (if (0 ≤ x.toInt ∧ x.toInt ≤ 9) ∧ 1 ≤ y.toInt then (if spFind (gT S.1) S.1.length x.toInt.toNat y.toInt < 0 then 2 else 0) else 1) = 0 := by rw [if_pos hx0, if_neg (by rw [hh]; omega)]
                refine ⟨_, rfl, hfi, ?_, fun _ => by rw [hh]; rfl⟩
                rw [hF]
                exact ⟨_, _, _, _, _, _, _, _, _, _, _, _, _, hmi, hv, hp, hsn, htx, hou, hep⟩
          · exact absurd h_48_7 (by decide)
        · refine z_callE (As := [.int (nI (i))]) (rest := []) (b := b) (ci := 12) (v := some (.int (nI (0)))) (R2 := zR 1 0) dX13_findRun_45 kV_RX13_128 rfl ⟨⟨by decide, by decide⟩, by decide, by decide⟩ (by omega) hmi.ce rfl rfl rfl (Nat.le_of_ble_eq_true rfl) rfl (c_X13_isStart_n (k := i) h0 hmi hv (by omega) hc5) ?_
          refine z_if_ne_n (a := 0) (tgt := 54) dX13_findRun_48 (by decide) (by omega) (fun h_48_16 => ?_) (fun h_48_16 => ?_)
          · exact absurd h_48_16 (by decide)
          · refine z_goto (tgt := 79) dX13_findRun_51 (by decide) ?_
            refine z_iinc_n (n := 1) (a := i) (lv' := [(0, .ref (za g b)), (1, .int (nI (x.toInt.toNat))), (2, .int (y)), (3, .int (nI (cS (gT S.1) i))), (4, .int (nI (i + 1)))]) dX13_findRun_79 rfl (by decide) rfl ?_
            refine z_goto (tgt := 31) dX13_findRun_82 (by decide) ?_
            have q8 := cS_s (T := (gT S.1)) (k := i)
            rw [if_neg hc5] at q8
            refine z_eq (lv' := [(0, .ref (za g b)), (1, .int (nI (x.toInt.toNat))), (2, .int (y)), (3, .int (nI (cS (gT S.1) (i + 1)))), (4, .int (nI (i + 1)))]) rfl rfl (by rw [q8]; rfl) ?_
            refine ih (i + 1) (by omega) (by omega) (fun k hk => ?_)
            by_cases c : k < i
            · exact hno k c
            · have hki : k = i := by omega
              rw [hki]
              show (stB (gT S.1) i && (decide (gT S.1 i = x.toInt.toNat) && decide (y.toInt ≤ lenF (gT S.1) S.1.length i))) = false
              rw [Bool.eq_false_iff.mpr hc5, Bool.false_and]
  refine z_aload_n dX13_findRun_0 rfl ?_
  refine z_iconst (v := nI 0) dX13_findRun_1 rfl ?_
  refine z_putf (j := b) dX13_findRun_2 kF_RX13_47 zt_12_0 rfl (by omega) h.ce rfl rfl (Nat.le_of_ble_eq_true rfl) ?_
  obtain ⟨w1, ew2⟩ : ∃ wz : zW, wz = va_up w (b) (zO 12 [.int (nI (0)), .int (nI (Hs.length)), .int (ep), .int (fc), .int (nI (if Sn.isSome then 1 else 0)), .ref (za g (b + 1)), .ref (za g (b + 2)), .ref (za g (b + 3)), .ref (za g (b + 4)), .ref (za g (b + 5)), .ref (za g (b + 6)), .ref (za g (b + 7)), .ref (za g (b + 8)), .ref (za g (b + 9)), .ref (za g (b + 10)), .int (nI (I.length)), .int (po), .int (en), .int (nI (O.length)), .int (kn), .int (wr), .int (dg)]) := ⟨_, rfl⟩
  refine z_weq (w' := w1) ew2.symm ?_
  have hf3 : zFr w w1 (b) (b + 1) := by rw [ew2]; exact zFr.up (by omega)
  have hw4 : w1 (b) = zO 12 [.int (nI (0)), .int (nI (Hs.length)), .int (ep), .int (fc), .int (nI (if Sn.isSome then 1 else 0)), .ref (za g (b + 1)), .ref (za g (b + 2)), .ref (za g (b + 3)), .ref (za g (b + 4)), .ref (za g (b + 5)), .ref (za g (b + 6)), .ref (za g (b + 7)), .ref (za g (b + 8)), .ref (za g (b + 9)), .ref (za g (b + 10)), .int (nI (I.length)), .int (po), .int (en), .int (nI (O.length)), .int (kn), .int (wr), .int (dg)] := by rw [ew2, zup_s]
  have hx5 := h.setC hf3 hw4
  refine z_iload_n dX13_findRun_5 rfl ?_
  refine z_iconst (v := nI 0) dX13_findRun_6 rfl ?_
  refine z_bipush (v := nI 9) dX13_findRun_7 rfl ?_
  by_cases hc6 : ((0 : Nat) : Int) ≤ ((x)).toInt ∧ ((x)).toInt ≤ ((9 : Nat) : Int)
  · refine z_callSE (As := [.int (x), .int (nI (0)), .int (nI (9))]) (rest := []) (v := some (.int (nI (1)))) (R2 := zR 0 0) dX13_findRun_9 kS_RX13_57 rfl rfl ⟨⟨by decide, by decide⟩, by decide, by decide⟩ rfl (Nat.le_of_ble_eq_true rfl) rfl (c_X13_isIn_y (x := (x)) (y := (nI (0))) (z := (nI (9))) h0 (by have q0 := nI_toInt (n := 0) (by omega); have q1 := nI_toInt (n := 9) (by omega); omega)) ?_
    refine z_if_eq_n (a := 1) (tgt := 20) dX13_findRun_12 (by decide) (by omega) (fun h_12_8 => ?_) (fun h_12_8 => ?_)
    · exact absurd h_12_8 (by decide)
    · refine z_iload_n dX13_findRun_15 rfl ?_
      refine z_iconst (v := nI 1) dX13_findRun_16 rfl ?_
      have hk10 := nI_toInt (n := 1) (by omega)
      refine z_icmp_ge_z (tgt := 26) dX13_findRun_17 (by decide) (fun h_17_9 => ?_) (fun h_17_9 => ?_)
      · refine z_eq (lv' := [(0, .ref (za g b)), (1, .int (nI (x.toInt.toNat))), (2, .int (y))]) rfl rfl (by rw [← i_nat (x := x) (by omega)]) ?_
        refine z_iconst (v := nI 0) dX13_findRun_26 rfl ?_
        refine z_istore_n (lv' := [(0, .ref (za g b)), (1, .int (nI (x.toInt.toNat))), (2, .int (y)), (3, .int (nI (0)))]) dX13_findRun_27 (by decide) rfl ?_
        refine z_iconst (v := nI 0) dX13_findRun_28 rfl ?_
        refine z_istore (lv' := [(0, .ref (za g b)), (1, .int (nI (x.toInt.toNat))), (2, .int (y)), (3, .int (nI (0))), (4, .int (nI (0)))]) dX13_findRun_29 (by decide) rfl ?_
        exact loop _ (hf3.wk (by omega) (by omega)) hx5 (by omega) (S.1.length + 2) 0 (by omega) (Nat.zero_le _) (fun k hk => absurd hk (Nat.not_lt_zero k))
      · refine z_aload_n dX13_findRun_20 rfl ?_
        refine z_iconst (v := nI 1) dX13_findRun_21 rfl ?_
        refine z_callR (As := [.int (nI (1))]) (rest := []) (b := b) (ci := 12) (v := some (.int (nI (0)))) (R2 := zR 0 0) dX13_findRun_22 kV_RX13_61 rfl ⟨⟨by decide, by decide⟩, by decide, by decide⟩ (by omega) hx5.ce rfl rfl rfl (Nat.le_of_ble_eq_true rfl) rfl (c_X13_fail (x := (nI (1))) h0 hx5) (fun w11 pw11 => ?_)
        obtain ⟨hf12, hx13⟩ := pw11
        refine z_iret dX13_findRun_25 rfl (by decide) (by decide) ?_
        have hF : (if (0 ≤ x.toInt ∧ x.toInt ≤ 9) ∧ 1 ≤ y.toInt then (if spFind (gT S.1) S.1.length x.toInt.toNat y.toInt < 0 then 2 else 0) else 1) = 1 := if_neg (by omega)
        refine ⟨_, rfl, ((hf3.wk (by omega) (by omega)).tr hf12), ?_, fun q9 => absurd (hF.symm.trans q9) (by decide)⟩
        rw [hF]
        exact ⟨_, _, _, _, _, _, _, _, _, _, _, _, _, hx13, hv, hp, hsn, htx, hou, hep⟩
  · refine z_callSE (As := [.int (x), .int (nI (0)), .int (nI (9))]) (rest := []) (v := some (.int (nI (0)))) (R2 := zR 0 0) dX13_findRun_9 kS_RX13_57 rfl rfl ⟨⟨by decide, by decide⟩, by decide, by decide⟩ rfl (Nat.le_of_ble_eq_true rfl) rfl (c_X13_isIn_n (x := (x)) (y := (nI (0))) (z := (nI (9))) h0 (by have q0 := nI_toInt (n := 0) (by omega); have q1 := nI_toInt (n := 9) (by omega); omega)) ?_
    refine z_if_eq_n (a := 0) (tgt := 20) dX13_findRun_12 (by decide) (by omega) (fun h_12_15 => ?_) (fun h_12_15 => ?_)
    · refine z_aload_n dX13_findRun_20 rfl ?_
      refine z_iconst (v := nI 1) dX13_findRun_21 rfl ?_
      refine z_callR (As := [.int (nI (1))]) (rest := []) (b := b) (ci := 12) (v := some (.int (nI (0)))) (R2 := zR 0 0) dX13_findRun_22 kV_RX13_61 rfl ⟨⟨by decide, by decide⟩, by decide, by decide⟩ (by omega) hx5.ce rfl rfl rfl (Nat.le_of_ble_eq_true rfl) rfl (c_X13_fail (x := (nI (1))) h0 hx5) (fun w16 pw16 => ?_)
      obtain ⟨hf17, hx18⟩ := pw16
      refine z_iret dX13_findRun_25 rfl (by decide) (by decide) ?_
      have hF : (if (0 ≤ x.toInt ∧ x.toInt ≤ 9) ∧ 1 ≤ y.toInt then (if spFind (gT S.1) S.1.length x.toInt.toNat y.toInt < 0 then 2 else 0) else 1) = 1 := if_neg (by omega)
      refine ⟨_, rfl, ((hf3.wk (by omega) (by omega)).tr hf17), ?_, fun q9 => absurd (hF.symm.trans q9) (by decide)⟩
      rw [hF]
      exact ⟨_, _, _, _, _, _, _, _, _, _, _, _, _, hx18, hv, hp, hsn, htx, hou, hep⟩
    · exact absurd h_12_15 (by decide)
set_option maxRecDepth 100000 in
set_option maxHeartbeats 4000000 in
theorem c_X13_restStartByLength {g : zGT} {w : zW} {b : Nat} {S : zSt} {Hs : List zSt} {Sn : Option zSt} {I O : List Nat} {ep fc : Int32} {t : Nat} {x : Int32} (h0 : zG0 g) (hq : Mq g w b (S) (Hs) (Sn) (I) (O) (ep) (fc) (t)) : zCt g mX13_restStartByLength (zR 5 0) [.ref (za g b), .int (x)] w (fun o w' => ∃ r, o = .inl (some (.int r)) ∧ zFr w w' b (b + 11) ∧ Mq g w' b (S) (Hs) (Sn) (I) (O) (ep) (fc) ((if spRank (gT S.1) S.1.length x.toInt < 0 then 1 else 0)) ∧ ((if spRank (gT S.1) S.1.length x.toInt < 0 then 1 else 0) = 0 → r = nI (spRank (gT S.1) S.1.length x.toInt).toNat)) := by
  obtain ⟨po, en, kn, wr, dg, fv, fb, fs, fp, fh, ft, fl, fi, h, hv, hp, hsn, htx, hou, hep⟩ := hq
  have hb := h.1
  have hl := hv.len
  refine zCt_of (by decide +kernel) h0 [(0, .ref (za g b)), (1, .int (x))] rfl (Nat.le_of_ble_eq_true rfl) ?_
  have loop : ∀ (wi : zW), zFr w wi b (b + 11) → Mx g wi b (nI 0) (nI Hs.length) ep fc (nI (if Sn.isSome then 1 else 0)) (nI I.length) po en (nI O.length) kn wr dg fv fb fs fp fh ft fl fi → ∀ (mm : Nat) (i : Nat), S.1.length + 1 - i < mm → (i ≤ S.1.length) → (∀ k, k < i → (rsB (gT S.1) k && decide ((rkF (gT S.1) S.1.length k : Int) = x.toInt)) = false) → zTr g mX13_restStartByLength (zR 5 0) 0 0 7 [(0, .ref (za g b)), (1, .int (x)), (2, .int (nI (i)))] [] wi (fun o w' => ∃ r, o = .inl (some (.int r)) ∧ zFr w w' b (b + 11) ∧ Mq g w' b (S) (Hs) (Sn) (I) (O) (ep) (fc) ((if spRank (gT S.1) S.1.length x.toInt < 0 then 1 else 0)) ∧ ((if spRank (gT S.1) S.1.length x.toInt < 0 then 1 else 0) = 0 → r = nI (spRank (gT S.1) S.1.length x.toInt).toNat)) := by
    intro wi hfi hmi 
    intro mm
    induction mm with
    | zero => intros; omega
    | succ mm ih =>
      intro i hm hin hno
      refine z_iload_n dX13_restStartByLength_7 rfl ?_
      refine z_aload_n dX13_restStartByLength_8 rfl ?_
      refine z_getf (j := b) dX13_restStartByLength_9 kF_RX13_16 rfl (by omega) hmi.ce rfl ?_
      refine z_iconst (v := nI 0) dX13_restStartByLength_12 rfl ?_
      refine z_iald_v (j := b + 1) (N := 410) (a := 0) (x := S.1.length) (f := fv) dX13_restStartByLength_13 (by omega) hmi.r1 (by omega) (by omega) (hv.dur) ?_
      refine z_icmp_ge_n (a := i) (b := S.1.length) (tgt := 118) dX13_restStartByLength_14 (by decide) (by omega) (by omega) (fun h_14_1 => ?_) (fun h_14_1 => ?_)
      · refine z_aload_n dX13_restStartByLength_118 rfl ?_
        refine z_iconst (v := nI 1) dX13_restStartByLength_119 rfl ?_
        refine z_callR (As := [.int (nI (1))]) (rest := []) (b := b) (ci := 12) (v := some (.int (nI (0)))) (R2 := zR 0 0) dX13_restStartByLength_120 kV_RX13_61 rfl ⟨⟨by decide, by decide⟩, by decide, by decide⟩ (by omega) hmi.ce rfl rfl rfl (Nat.le_of_ble_eq_true rfl) rfl (c_X13_fail (x := (nI (1))) h0 hmi) (fun w2 pw2 => ?_)
        obtain ⟨hf3, hx4⟩ := pw2
        refine z_iret dX13_restStartByLength_123 rfl (by decide) (by decide) ?_
        have hh : spRank (gT S.1) S.1.length x.toInt = -1 := fidx_no (fun k hk => hno k (by omega))
        have hF : (if spRank (gT S.1) S.1.length x.toInt < 0 then 1 else 0) = 1 := by rw [hh]; decide
        refine ⟨_, rfl, (hfi.tr hf3), ?_, fun q9 => absurd (hF.symm.trans q9) (by decide)⟩
        rw [hF]
        exact ⟨_, _, _, _, _, _, _, _, _, _, _, _, _, hx4, hv, hp, hsn, htx, hou, hep⟩
      · refine z_aload_n dX13_restStartByLength_17 rfl ?_
        refine z_iload_n dX13_restStartByLength_18 rfl ?_
        by_cases hc5 : rsB (gT S.1) (i) = true
        · refine z_callE (As := [.int (nI (i))]) (rest := []) (b := b) (ci := 12) (v := some (.int (nI (1)))) (R2 := zR 2 0) dX13_restStartByLength_19 kV_RX13_154 rfl ⟨⟨by decide, by decide⟩, by decide, by decide⟩ (by omega) hmi.ce rfl rfl rfl (Nat.le_of_ble_eq_true rfl) rfl (c_X13_isRestStart_y (k := i) h0 hmi hv (by omega) hc5) ?_
          refine z_if_ne_n (a := 1) (tgt := 28) dX13_restStartByLength_22 (by decide) (by omega) (fun h_22_7 => ?_) (fun h_22_7 => ?_)
          · refine z_iconst (v := nI 0) dX13_restStartByLength_28 rfl ?_
            refine z_istore_n (lv' := [(0, .ref (za g b)), (1, .int (x)), (2, .int (nI (i))), (3, .int (nI (0)))]) dX13_restStartByLength_29 (by decide) rfl ?_
            refine z_aload_n dX13_restStartByLength_30 rfl ?_
            refine z_iload_n dX13_restStartByLength_31 rfl ?_
            have hlf8 := lenF_le (T := gT S.1) (n := S.1.length) (k := i)
            refine z_callE (As := [.int (nI (i))]) (rest := []) (b := b) (ci := 12) (v := some (.int (nI (lenF (gT S.1) S.1.length (i))))) (R2 := zR 3 0) dX13_restStartByLength_32 kV_RX13_138 rfl ⟨⟨by decide, by decide⟩, by decide, by decide⟩ (by omega) hmi.ce rfl rfl rfl (Nat.le_of_ble_eq_true rfl) rfl (c_X13_lengthFrom (k := i) h0 hmi hv (by omega)) ?_
            refine z_istore (lv' := [(0, .ref (za g b)), (1, .int (x)), (2, .int (nI (i))), (3, .int (nI (0))), (4, .int (nI (lenF (gT S.1) S.1.length (i))))]) dX13_restStartByLength_35 (by decide) rfl ?_
            refine z_iconst (v := nI 0) dX13_restStartByLength_37 rfl ?_
            refine z_istore (lv' := [(0, .ref (za g b)), (1, .int (x)), (2, .int (nI (i))), (3, .int (nI (0))), (4, .int (nI (lenF (gT S.1) S.1.length (i)))), (5, .int (nI (0)))]) dX13_restStartByLength_38 (by decide) rfl ?_
            have inner : ∀ (mm : Nat) (o9 : Nat), S.1.length + 1 - o9 < mm → (o9 ≤ S.1.length) → zTr g mX13_restStartByLength (zR 5 0) 0 0 40 [(0, .ref (za g b)), (1, .int (x)), (2, .int (nI (i))), (3, .int (nI (zcnt (fun q => rsB (gT S.1) q && decide (lenF (gT S.1) S.1.length i < lenF (gT S.1) S.1.length q ∨ (lenF (gT S.1) S.1.length q = lenF (gT S.1) S.1.length i ∧ q < i))) 0 o9))), (4, .int (nI (lenF (gT S.1) S.1.length i))), (5, .int (nI (o9)))] [] wi (fun o w' => ∃ r, o = .inl (some (.int r)) ∧ zFr w w' b (b + 11) ∧ Mq g w' b (S) (Hs) (Sn) (I) (O) (ep) (fc) ((if spRank (gT S.1) S.1.length x.toInt < 0 then 1 else 0)) ∧ ((if spRank (gT S.1) S.1.length x.toInt < 0 then 1 else 0) = 0 → r = nI (spRank (gT S.1) S.1.length x.toInt).toNat)) := by
              intro mm
              induction mm with
              | zero => intros; omega
              | succ mm ihh =>
                intro o9 hm hon
                have hcl := zcnt_le (P := (fun q => rsB (gT S.1) q && decide (lenF (gT S.1) S.1.length i < lenF (gT S.1) S.1.length q ∨ (lenF (gT S.1) S.1.length q = lenF (gT S.1) S.1.length i ∧ q < i)))) (p := 0) o9
                refine z_iload dX13_restStartByLength_40 rfl ?_
                refine z_aload_n dX13_restStartByLength_42 rfl ?_
                refine z_getf (j := b) dX13_restStartByLength_43 kF_RX13_16 rfl (by omega) hmi.ce rfl ?_
                refine z_iconst (v := nI 0) dX13_restStartByLength_46 rfl ?_
                refine z_iald_v (j := b + 1) (N := 410) (a := 0) (x := S.1.length) (f := fv) dX13_restStartByLength_47 (by omega) hmi.r1 (by omega) (by omega) (hv.dur) ?_
                refine z_icmp_ge_n (a := o9) (b := S.1.length) (tgt := 105) dX13_restStartByLength_48 (by decide) (by omega) (by omega) (fun h_48_110 => ?_) (fun h_48_110 => ?_)
                · have ho9 : o9 = S.1.length := by omega
                  subst ho9
                  have hrk : zcnt (fun q => rsB (gT S.1) q && decide (lenF (gT S.1) S.1.length i < lenF (gT S.1) S.1.length q ∨ (lenF (gT S.1) S.1.length q = lenF (gT S.1) S.1.length i ∧ q < i))) 0 S.1.length = rkF (gT S.1) S.1.length i := rfl
                  refine z_iload_n dX13_restStartByLength_105 rfl ?_
                  refine z_iload_n dX13_restStartByLength_106 rfl ?_
                  have hk212 := nI_toInt (n := zcnt (fun q => rsB (gT S.1) q && decide (lenF (gT S.1) S.1.length i < lenF (gT S.1) S.1.length q ∨ (lenF (gT S.1) S.1.length q = lenF (gT S.1) S.1.length i ∧ q < i))) 0 S.1.length) (by omega)
                  refine z_icmp_ne_z (tgt := 112) dX13_restStartByLength_107 (by decide) (fun h_107_211 => ?_) (fun h_107_211 => ?_)
                  · refine z_iinc_n (n := 1) (a := i) (lv' := [(0, .ref (za g b)), (1, .int (x)), (2, .int (nI (i + 1))), (3, .int (nI (zcnt (fun q => rsB (gT S.1) q && decide (lenF (gT S.1) S.1.length i < lenF (gT S.1) S.1.length q ∨ (lenF (gT S.1) S.1.length q = lenF (gT S.1) S.1.length i ∧ q < i))) 0 S.1.length))), (4, .int (nI (lenF (gT S.1) S.1.length i))), (5, .int (nI (S.1.length)))]) dX13_restStartByLength_112 rfl (by decide) rfl ?_
                    refine z_goto (tgt := 7) dX13_restStartByLength_115 (by decide) ?_
                    refine z_sub (lv' := [(0, .ref (za g b)), (1, .int (x)), (2, .int (nI (i + 1)))]) [0, 1, 2] rfl ?_
                    refine ih (i + 1) (by omega) (by omega) (fun k hk => ?_)
                    by_cases c : k < i
                    · exact hno k c
                    · have hki : k = i := by omega
                      rw [hki]
                      show (rsB (gT S.1) i && decide ((rkF (gT S.1) S.1.length i : Int) = x.toInt)) = false
                      rw [decide_eq_false (show ¬ ((rkF (gT S.1) S.1.length i : Int) = x.toInt) by rw [← hrk]; omega), Bool.and_false]
                  · refine z_iload_n dX13_restStartByLength_110 rfl ?_
                    refine z_iret dX13_restStartByLength_111 rfl (by decide) (by decide) ?_
                    have hh : spRank (gT S.1) S.1.length x.toInt = (i : Int) := fidx_hit (by omega) hno (by show (rsB (gT S.1) i && decide ((rkF (gT S.1) S.1.length i : Int) = x.toInt)) = true; rw [hc5, decide_eq_true (show (rkF (gT S.1) S.1.length i : Int) = x.toInt by rw [← hrk]; omega)]; rfl)
                    have hF : (if spRank (gT S.1) S.1.length x.toInt < 0 then 1 else 0) = 0 := by rw [hh]; exact if_neg (by omega)
                    refine ⟨_, rfl, hfi, ?_, fun _ => by rw [hh]; rfl⟩
                    rw [hF]
                    exact ⟨_, _, _, _, _, _, _, _, _, _, _, _, _, hmi, hv, hp, hsn, htx, hou, hep⟩
                · refine z_aload_n dX13_restStartByLength_51 rfl ?_
                  refine z_iload dX13_restStartByLength_52 rfl ?_
                  by_cases hc111 : rsB (gT S.1) (o9) = true
                  · refine z_callE (As := [.int (nI (o9))]) (rest := []) (b := b) (ci := 12) (v := some (.int (nI (1)))) (R2 := zR 2 0) dX13_restStartByLength_54 kV_RX13_154 rfl ⟨⟨by decide, by decide⟩, by decide, by decide⟩ (by omega) hmi.ce rfl rfl rfl (Nat.le_of_ble_eq_true rfl) rfl (c_X13_isRestStart_y (k := o9) h0 hmi hv (by omega) hc111) ?_
                    refine z_if_ne_n (a := 1) (tgt := 63) dX13_restStartByLength_57 (by decide) (by omega) (fun h_57_113 => ?_) (fun h_57_113 => ?_)
                    · refine z_iload_n dX13_restStartByLength_63 rfl ?_
                      refine z_aload_n dX13_restStartByLength_64 rfl ?_
                      refine z_iload dX13_restStartByLength_65 rfl ?_
                      have hlf114 := lenF_le (T := gT S.1) (n := S.1.length) (k := o9)
                      refine z_callE (As := [.int (nI (o9))]) (rest := [.int (nI (zcnt (fun q => rsB (gT S.1) q && decide (lenF (gT S.1) S.1.length i < lenF (gT S.1) S.1.length q ∨ (lenF (gT S.1) S.1.length q = lenF (gT S.1) S.1.length i ∧ q < i))) 0 o9))]) (b := b) (ci := 12) (v := some (.int (nI (lenF (gT S.1) S.1.length (o9))))) (R2 := zR 3 0) dX13_restStartByLength_67 kV_RX13_138 rfl ⟨⟨by decide, by decide⟩, by decide, by decide⟩ (by omega) hmi.ce rfl rfl rfl (Nat.le_of_ble_eq_true rfl) rfl (c_X13_lengthFrom (k := o9) h0 hmi hv (by omega)) ?_
                      refine z_iload dX13_restStartByLength_70 rfl ?_
                      refine z_icmp_gt_n (a := lenF (gT S.1) S.1.length (o9)) (b := lenF (gT S.1) S.1.length i) (tgt := 92) dX13_restStartByLength_72 (by decide) (by omega) (by omega) (fun h_72_116 => ?_) (fun h_72_116 => ?_)
                      · refine z_iconst (v := nI 1) dX13_restStartByLength_92 rfl ?_
                        refine z_goto (tgt := 97) dX13_restStartByLength_93 (by decide) ?_
                        refine z_iadd_n (a := zcnt (fun q => rsB (gT S.1) q && decide (lenF (gT S.1) S.1.length i < lenF (gT S.1) S.1.length q ∨ (lenF (gT S.1) S.1.length q = lenF (gT S.1) S.1.length i ∧ q < i))) 0 o9) (b := 1) dX13_restStartByLength_97 ?_
                        refine z_istore_n (lv' := [(0, .ref (za g b)), (1, .int (x)), (2, .int (nI (i))), (3, .int (nI ((zcnt (fun q => rsB (gT S.1) q && decide (lenF (gT S.1) S.1.length i < lenF (gT S.1) S.1.length q ∨ (lenF (gT S.1) S.1.length q = lenF (gT S.1) S.1.length i ∧ q < i))) 0 o9) + (1)))), (4, .int (nI (lenF (gT S.1) S.1.length i))), (5, .int (nI (o9)))]) dX13_restStartByLength_98 (by decide) rfl ?_
                        refine z_iinc_n (n := 1) (a := o9) (lv' := [(0, .ref (za g b)), (1, .int (x)), (2, .int (nI (i))), (3, .int (nI ((zcnt (fun q => rsB (gT S.1) q && decide (lenF (gT S.1) S.1.length i < lenF (gT S.1) S.1.length q ∨ (lenF (gT S.1) S.1.length q = lenF (gT S.1) S.1.length i ∧ q < i))) 0 o9) + (1)))), (4, .int (nI (lenF (gT S.1) S.1.length i))), (5, .int (nI (o9 + 1)))]) dX13_restStartByLength_99 rfl (by decide) rfl ?_
                        refine z_goto (tgt := 40) dX13_restStartByLength_102 (by decide) ?_
                        have q8 := zcnt_s (P := (fun q => rsB (gT S.1) q && decide (lenF (gT S.1) S.1.length i < lenF (gT S.1) S.1.length q ∨ (lenF (gT S.1) S.1.length q = lenF (gT S.1) S.1.length i ∧ q < i)))) (p := 0) (i := o9) (Nat.zero_le _)
                        simp only [Nat.sub_zero] at q8
                        rw [hc111, Bool.true_and, if_pos (decide_eq_true (by omega))] at q8
                        refine z_eq (lv' := [(0, .ref (za g b)), (1, .int (x)), (2, .int (nI (i))), (3, .int (nI (zcnt (fun q => rsB (gT S.1) q && decide (lenF (gT S.1) S.1.length i < lenF (gT S.1) S.1.length q ∨ (lenF (gT S.1) S.1.length q = lenF (gT S.1) S.1.length i ∧ q < i))) 0 (o9 + 1)))), (4, .int (nI (lenF (gT S.1) S.1.length i))), (5, .int (nI (o9 + 1)))]) rfl rfl (by rw [q8]) ?_
                        exact ihh (o9 + 1) (by omega) (by omega)
                      · refine z_aload_n dX13_restStartByLength_75 rfl ?_
                        refine z_iload dX13_restStartByLength_76 rfl ?_
                        have hlf117 := lenF_le (T := gT S.1) (n := S.1.length) (k := o9)
                        refine z_callE (As := [.int (nI (o9))]) (rest := [.int (nI (zcnt (fun q => rsB (gT S.1) q && decide (lenF (gT S.1) S.1.length i < lenF (gT S.1) S.1.length q ∨ (lenF (gT S.1) S.1.length q = lenF (gT S.1) S.1.length i ∧ q < i))) 0 o9))]) (b := b) (ci := 12) (v := some (.int (nI (lenF (gT S.1) S.1.length (o9))))) (R2 := zR 3 0) dX13_restStartByLength_78 kV_RX13_138 rfl ⟨⟨by decide, by decide⟩, by decide, by decide⟩ (by omega) hmi.ce rfl rfl rfl (Nat.le_of_ble_eq_true rfl) rfl (c_X13_lengthFrom (k := o9) h0 hmi hv (by omega)) ?_
                        refine z_iload dX13_restStartByLength_81 rfl ?_
                        refine z_icmp_ne_n (a := lenF (gT S.1) S.1.length (o9)) (b := lenF (gT S.1) S.1.length i) (tgt := 96) dX13_restStartByLength_83 (by decide) (by omega) (by omega) (fun h_83_119 => ?_) (fun h_83_119 => ?_)
                        · refine z_iconst (v := nI 0) dX13_restStartByLength_96 rfl ?_
                          refine z_iadd_n (a := zcnt (fun q => rsB (gT S.1) q && decide (lenF (gT S.1) S.1.length i < lenF (gT S.1) S.1.length q ∨ (lenF (gT S.1) S.1.length q = lenF (gT S.1) S.1.length i ∧ q < i))) 0 o9) (b := 0) dX13_restStartByLength_97 ?_
                          refine z_istore_n (lv' := [(0, .ref (za g b)), (1, .int (x)), (2, .int (nI (i))), (3, .int (nI ((zcnt (fun q => rsB (gT S.1) q && decide (lenF (gT S.1) S.1.length i < lenF (gT S.1) S.1.length q ∨ (lenF (gT S.1) S.1.length q = lenF (gT S.1) S.1.length i ∧ q < i))) 0 o9) + (0)))), (4, .int (nI (lenF (gT S.1) S.1.length i))), (5, .int (nI (o9)))]) dX13_restStartByLength_98 (by decide) rfl ?_
                          refine z_iinc_n (n := 1) (a := o9) (lv' := [(0, .ref (za g b)), (1, .int (x)), (2, .int (nI (i))), (3, .int (nI ((zcnt (fun q => rsB (gT S.1) q && decide (lenF (gT S.1) S.1.length i < lenF (gT S.1) S.1.length q ∨ (lenF (gT S.1) S.1.length q = lenF (gT S.1) S.1.length i ∧ q < i))) 0 o9) + (0)))), (4, .int (nI (lenF (gT S.1) S.1.length i))), (5, .int (nI (o9 + 1)))]) dX13_restStartByLength_99 rfl (by decide) rfl ?_
                          refine z_goto (tgt := 40) dX13_restStartByLength_102 (by decide) ?_
                          have q8 := zcnt_s (P := (fun q => rsB (gT S.1) q && decide (lenF (gT S.1) S.1.length i < lenF (gT S.1) S.1.length q ∨ (lenF (gT S.1) S.1.length q = lenF (gT S.1) S.1.length i ∧ q < i)))) (p := 0) (i := o9) (Nat.zero_le _)
                          simp only [Nat.sub_zero] at q8
                          rw [hc111, Bool.true_and, if_neg (fun z => by have q7 := of_decide_eq_true z; omega)] at q8
                          refine z_eq (lv' := [(0, .ref (za g b)), (1, .int (x)), (2, .int (nI (i))), (3, .int (nI (zcnt (fun q => rsB (gT S.1) q && decide (lenF (gT S.1) S.1.length i < lenF (gT S.1) S.1.length q ∨ (lenF (gT S.1) S.1.length q = lenF (gT S.1) S.1.length i ∧ q < i))) 0 (o9 + 1)))), (4, .int (nI (lenF (gT S.1) S.1.length i))), (5, .int (nI (o9 + 1)))]) rfl rfl (by rw [q8]) ?_
                          exact ihh (o9 + 1) (by omega) (by omega)
                        · refine z_iload dX13_restStartByLength_86 rfl ?_
                          refine z_iload_n dX13_restStartByLength_88 rfl ?_
                          refine z_icmp_ge_n (a := o9) (b := i) (tgt := 96) dX13_restStartByLength_89 (by decide) (by omega) (by omega) (fun h_89_120 => ?_) (fun h_89_120 => ?_)
                          · refine z_iconst (v := nI 0) dX13_restStartByLength_96 rfl ?_
                            refine z_iadd_n (a := zcnt (fun q => rsB (gT S.1) q && decide (lenF (gT S.1) S.1.length i < lenF (gT S.1) S.1.length q ∨ (lenF (gT S.1) S.1.length q = lenF (gT S.1) S.1.length i ∧ q < i))) 0 o9) (b := 0) dX13_restStartByLength_97 ?_
                            refine z_istore_n (lv' := [(0, .ref (za g b)), (1, .int (x)), (2, .int (nI (i))), (3, .int (nI ((zcnt (fun q => rsB (gT S.1) q && decide (lenF (gT S.1) S.1.length i < lenF (gT S.1) S.1.length q ∨ (lenF (gT S.1) S.1.length q = lenF (gT S.1) S.1.length i ∧ q < i))) 0 o9) + (0)))), (4, .int (nI (lenF (gT S.1) S.1.length i))), (5, .int (nI (o9)))]) dX13_restStartByLength_98 (by decide) rfl ?_
                            refine z_iinc_n (n := 1) (a := o9) (lv' := [(0, .ref (za g b)), (1, .int (x)), (2, .int (nI (i))), (3, .int (nI ((zcnt (fun q => rsB (gT S.1) q && decide (lenF (gT S.1) S.1.length i < lenF (gT S.1) S.1.length q ∨ (lenF (gT S.1) S.1.length q = lenF (gT S.1) S.1.length i ∧ q < i))) 0 o9) + (0)))), (4, .int (nI (lenF (gT S.1) S.1.length i))), (5, .int (nI (o9 + 1)))]) dX13_restStartByLength_99 rfl (by decide) rfl ?_
                            refine z_goto (tgt := 40) dX13_restStartByLength_102 (by decide) ?_
                            have q8 := zcnt_s (P := (fun q => rsB (gT S.1) q && decide (lenF (gT S.1) S.1.length i < lenF (gT S.1) S.1.length q ∨ (lenF (gT S.1) S.1.length q = lenF (gT S.1) S.1.length i ∧ q < i)))) (p := 0) (i := o9) (Nat.zero_le _)
                            simp only [Nat.sub_zero] at q8
                            rw [hc111, Bool.true_and, if_neg (fun z => by have q7 := of_decide_eq_true z; omega)] at q8
                            refine z_eq (lv' := [(0, .ref (za g b)), (1, .int (x)), (2, .int (nI (i))), (3, .int (nI (zcnt (fun q => rsB (gT S.1) q && decide (lenF (gT S.1) S.1.length i < lenF (gT S.1) S.1.length q ∨ (lenF (gT S.1) S.1.length q = lenF (gT S.1) S.1.length i ∧ q < i))) 0 (o9 + 1)))), (4, .int (nI (lenF (gT S.1) S.1.length i))), (5, .int (nI (o9 + 1)))]) rfl rfl (by rw [q8]) ?_
                            exact ihh (o9 + 1) (by omega) (by omega)
                          · refine z_iconst (v := nI 1) dX13_restStartByLength_92 rfl ?_
                            refine z_goto (tgt := 97) dX13_restStartByLength_93 (by decide) ?_
                            refine z_iadd_n (a := zcnt (fun q => rsB (gT S.1) q && decide (lenF (gT S.1) S.1.length i < lenF (gT S.1) S.1.length q ∨ (lenF (gT S.1) S.1.length q = lenF (gT S.1) S.1.length i ∧ q < i))) 0 o9) (b := 1) dX13_restStartByLength_97 ?_
                            refine z_istore_n (lv' := [(0, .ref (za g b)), (1, .int (x)), (2, .int (nI (i))), (3, .int (nI ((zcnt (fun q => rsB (gT S.1) q && decide (lenF (gT S.1) S.1.length i < lenF (gT S.1) S.1.length q ∨ (lenF (gT S.1) S.1.length q = lenF (gT S.1) S.1.length i ∧ q < i))) 0 o9) + (1)))), (4, .int (nI (lenF (gT S.1) S.1.length i))), (5, .int (nI (o9)))]) dX13_restStartByLength_98 (by decide) rfl ?_
                            refine z_iinc_n (n := 1) (a := o9) (lv' := [(0, .ref (za g b)), (1, .int (x)), (2, .int (nI (i))), (3, .int (nI ((zcnt (fun q => rsB (gT S.1) q && decide (lenF (gT S.1) S.1.length i < lenF (gT S.1) S.1.length q ∨ (lenF (gT S.1) S.1.length q = lenF (gT S.1) S.1.length i ∧ q < i))) 0 o9) + (1)))), (4, .int (nI (lenF (gT S.1) S.1.length i))), (5, .int (nI (o9 + 1)))]) dX13_restStartByLength_99 rfl (by decide) rfl ?_
                            refine z_goto (tgt := 40) dX13_restStartByLength_102 (by decide) ?_
                            have q8 := zcnt_s (P := (fun q => rsB (gT S.1) q && decide (lenF (gT S.1) S.1.length i < lenF (gT S.1) S.1.length q ∨ (lenF (gT S.1) S.1.length q = lenF (gT S.1) S.1.length i ∧ q < i)))) (p := 0) (i := o9) (Nat.zero_le _)
                            simp only [Nat.sub_zero] at q8
                            rw [hc111, Bool.true_and, if_pos (decide_eq_true (by omega))] at q8
                            refine z_eq (lv' := [(0, .ref (za g b)), (1, .int (x)), (2, .int (nI (i))), (3, .int (nI (zcnt (fun q => rsB (gT S.1) q && decide (lenF (gT S.1) S.1.length i < lenF (gT S.1) S.1.length q ∨ (lenF (gT S.1) S.1.length q = lenF (gT S.1) S.1.length i ∧ q < i))) 0 (o9 + 1)))), (4, .int (nI (lenF (gT S.1) S.1.length i))), (5, .int (nI (o9 + 1)))]) rfl rfl (by rw [q8]) ?_
                            exact ihh (o9 + 1) (by omega) (by omega)
                    · exact absurd h_57_113 (by decide)
                  · refine z_callE (As := [.int (nI (o9))]) (rest := []) (b := b) (ci := 12) (v := some (.int (nI (0)))) (R2 := zR 2 0) dX13_restStartByLength_54 kV_RX13_154 rfl ⟨⟨by decide, by decide⟩, by decide, by decide⟩ (by omega) hmi.ce rfl rfl rfl (Nat.le_of_ble_eq_true rfl) rfl (c_X13_isRestStart_n (k := o9) h0 hmi hv (by omega) hc111) ?_
                    refine z_if_ne_n (a := 0) (tgt := 63) dX13_restStartByLength_57 (by decide) (by omega) (fun h_57_122 => ?_) (fun h_57_122 => ?_)
                    · exact absurd h_57_122 (by decide)
                    · refine z_goto (tgt := 99) dX13_restStartByLength_60 (by decide) ?_
                      refine z_iinc_n (n := 1) (a := o9) (lv' := [(0, .ref (za g b)), (1, .int (x)), (2, .int (nI (i))), (3, .int (nI (zcnt (fun q => rsB (gT S.1) q && decide (lenF (gT S.1) S.1.length i < lenF (gT S.1) S.1.length q ∨ (lenF (gT S.1) S.1.length q = lenF (gT S.1) S.1.length i ∧ q < i))) 0 o9))), (4, .int (nI (lenF (gT S.1) S.1.length i))), (5, .int (nI (o9 + 1)))]) dX13_restStartByLength_99 rfl (by decide) rfl ?_
                      refine z_goto (tgt := 40) dX13_restStartByLength_102 (by decide) ?_
                      have q8 := zcnt_s (P := (fun q => rsB (gT S.1) q && decide (lenF (gT S.1) S.1.length i < lenF (gT S.1) S.1.length q ∨ (lenF (gT S.1) S.1.length q = lenF (gT S.1) S.1.length i ∧ q < i)))) (p := 0) (i := o9) (Nat.zero_le _)
                      simp only [Nat.sub_zero] at q8
                      rw [Bool.eq_false_iff.mpr hc111, Bool.false_and, if_neg (by decide)] at q8
                      refine z_eq (lv' := [(0, .ref (za g b)), (1, .int (x)), (2, .int (nI (i))), (3, .int (nI (zcnt (fun q => rsB (gT S.1) q && decide (lenF (gT S.1) S.1.length i < lenF (gT S.1) S.1.length q ∨ (lenF (gT S.1) S.1.length q = lenF (gT S.1) S.1.length i ∧ q < i))) 0 (o9 + 1)))), (4, .int (nI (lenF (gT S.1) S.1.length i))), (5, .int (nI (o9 + 1)))]) rfl rfl (by rw [q8]; rfl) ?_
                      exact ihh (o9 + 1) (by omega) (by omega)
            exact inner (S.1.length + 2) 0 (by omega) (Nat.zero_le _)
          · exact absurd h_22_7 (by decide)
        · refine z_callE (As := [.int (nI (i))]) (rest := []) (b := b) (ci := 12) (v := some (.int (nI (0)))) (R2 := zR 2 0) dX13_restStartByLength_19 kV_RX13_154 rfl ⟨⟨by decide, by decide⟩, by decide, by decide⟩ (by omega) hmi.ce rfl rfl rfl (Nat.le_of_ble_eq_true rfl) rfl (c_X13_isRestStart_n (k := i) h0 hmi hv (by omega) hc5) ?_
          refine z_if_ne_n (a := 0) (tgt := 28) dX13_restStartByLength_22 (by decide) (by omega) (fun h_22_11 => ?_) (fun h_22_11 => ?_)
          · exact absurd h_22_11 (by decide)
          · refine z_goto (tgt := 112) dX13_restStartByLength_25 (by decide) ?_
            refine z_iinc_n (n := 1) (a := i) (lv' := [(0, .ref (za g b)), (1, .int (x)), (2, .int (nI (i + 1)))]) dX13_restStartByLength_112 rfl (by decide) rfl ?_
            refine z_goto (tgt := 7) dX13_restStartByLength_115 (by decide) ?_
            refine ih (i + 1) (by omega) (by omega) (fun k hk => ?_)
            by_cases c : k < i
            · exact hno k c
            · have hki : k = i := by omega
              rw [hki]
              show (rsB (gT S.1) i && decide ((rkF (gT S.1) S.1.length i : Int) = x.toInt)) = false
              rw [Bool.eq_false_iff.mpr hc5, Bool.false_and]
  refine z_aload_n dX13_restStartByLength_0 rfl ?_
  refine z_iconst (v := nI 0) dX13_restStartByLength_1 rfl ?_
  refine z_putf (j := b) dX13_restStartByLength_2 kF_RX13_47 zt_12_0 rfl (by omega) h.ce rfl rfl (Nat.le_of_ble_eq_true rfl) ?_
  obtain ⟨w1, ew2⟩ : ∃ wz : zW, wz = va_up w (b) (zO 12 [.int (nI (0)), .int (nI (Hs.length)), .int (ep), .int (fc), .int (nI (if Sn.isSome then 1 else 0)), .ref (za g (b + 1)), .ref (za g (b + 2)), .ref (za g (b + 3)), .ref (za g (b + 4)), .ref (za g (b + 5)), .ref (za g (b + 6)), .ref (za g (b + 7)), .ref (za g (b + 8)), .ref (za g (b + 9)), .ref (za g (b + 10)), .int (nI (I.length)), .int (po), .int (en), .int (nI (O.length)), .int (kn), .int (wr), .int (dg)]) := ⟨_, rfl⟩
  refine z_weq (w' := w1) ew2.symm ?_
  have hf3 : zFr w w1 (b) (b + 1) := by rw [ew2]; exact zFr.up (by omega)
  have hw4 : w1 (b) = zO 12 [.int (nI (0)), .int (nI (Hs.length)), .int (ep), .int (fc), .int (nI (if Sn.isSome then 1 else 0)), .ref (za g (b + 1)), .ref (za g (b + 2)), .ref (za g (b + 3)), .ref (za g (b + 4)), .ref (za g (b + 5)), .ref (za g (b + 6)), .ref (za g (b + 7)), .ref (za g (b + 8)), .ref (za g (b + 9)), .ref (za g (b + 10)), .int (nI (I.length)), .int (po), .int (en), .int (nI (O.length)), .int (kn), .int (wr), .int (dg)] := by rw [ew2, zup_s]
  have hx5 := h.setC hf3 hw4
  refine z_iconst (v := nI 0) dX13_restStartByLength_5 rfl ?_
  refine z_istore_n (lv' := [(0, .ref (za g b)), (1, .int (x)), (2, .int (nI (0)))]) dX13_restStartByLength_6 (by decide) rfl ?_
  exact loop _ (hf3.wk (by omega) (by omega)) hx5 (S.1.length + 2) 0 (by omega) (Nat.zero_le _) (fun k hk => absurd hk (Nat.not_lt_zero k))
set_option maxRecDepth 100000 in
set_option maxHeartbeats 4000000 in
theorem c_X13_quietestWindow {g : zGT} {w : zW} {b : Nat} {S : zSt} {Hs : List zSt} {Sn : Option zSt} {I O : List Nat} {ep fc : Int32} {t : Nat} {x : Int32} (h0 : zG0 g) (hq : Mq g w b (S) (Hs) (Sn) (I) (O) (ep) (fc) (t)) : zCt g mX13_quietestWindow (zR 4 0) [.ref (za g b), .int (x)] w (fun o w' => ∃ r, o = .inl (some (.int r)) ∧ zFr w w' b (b + 11) ∧ Mq g w' b (S) (Hs) (Sn) (I) (O) (ep) (fc) ((if x.toInt < 1 then 1 else if (S.1.length : Int) < x.toInt then 2 else 0)) ∧ ((if x.toInt < 1 then 1 else if (S.1.length : Int) < x.toInt then 2 else 0) = 0 → r = nI (winB (gT S.1) x.toInt.toNat (S.1.length - x.toInt.toNat)))) := by
  obtain ⟨po, en, kn, wr, dg, fv, fb, fs, fp, fh, ft, fl, fi, h, hv, hp, hsn, htx, hou, hep⟩ := hq
  have hb := h.1
  have hl := hv.len
  refine zCt_of (by decide +kernel) h0 [(0, .ref (za g b)), (1, .int (x))] rfl (Nat.le_of_ble_eq_true rfl) ?_
  have loop : ∀ (wi : zW), zFr w wi b (b + 11) → Mx g wi b (nI 0) (nI Hs.length) ep fc (nI (if Sn.isSome then 1 else 0)) (nI I.length) po en (nI O.length) kn wr dg fv fb fs fp fh ft fl fi → (1 ≤ x.toInt ∧ x.toInt ≤ (S.1.length : Int)) → ∀ (mm : Nat) (i q : Nat), S.1.length + 1 - i < mm → (1 ≤ i) → (i + x.toInt.toNat ≤ S.1.length + 1) → (q = winB (gT S.1) x.toInt.toNat (i - 1)) → zTr g mX13_quietestWindow (zR 4 0) 0 0 36 [(0, .ref (za g b)), (1, .int (nI (x.toInt.toNat))), (2, .int (nI (q))), (3, .int (nI (i)))] [] wi (fun o w' => ∃ r, o = .inl (some (.int r)) ∧ zFr w w' b (b + 11) ∧ Mq g w' b (S) (Hs) (Sn) (I) (O) (ep) (fc) ((if x.toInt < 1 then 1 else if (S.1.length : Int) < x.toInt then 2 else 0)) ∧ ((if x.toInt < 1 then 1 else if (S.1.length : Int) < x.toInt then 2 else 0) = 0 → r = nI (winB (gT S.1) x.toInt.toNat (S.1.length - x.toInt.toNat)))) := by
    intro wi hfi hmi hx0
    intro mm
    induction mm with
    | zero => intros; omega
    | succ mm ih =>
      intro i q hm hi1 hin hq
      have hwl := winB_le (T := (gT S.1)) (L := x.toInt.toNat) (k := i - 1)
      rw [← hq] at hwl
      have hs1 := tsum_le (F := (gT S.1)) (p := i) (c := 9) (m := i + x.toInt.toNat - i) (fun k _ _ => hv.le k)
      have hs2 := tsum_le (F := (gT S.1)) (p := q) (c := 9) (m := q + x.toInt.toNat - q) (fun k _ _ => hv.le k)
      refine z_iload_n dX13_quietestWindow_36 rfl ?_
      refine z_iload_n dX13_quietestWindow_37 rfl ?_
      refine z_iadd_n (a := i) (b := x.toInt.toNat) dX13_quietestWindow_38 ?_
      refine z_aload_n dX13_quietestWindow_39 rfl ?_
      refine z_getf (j := b) dX13_quietestWindow_40 kF_RX13_16 rfl (by omega) hmi.ce rfl ?_
      refine z_iconst (v := nI 0) dX13_quietestWindow_43 rfl ?_
      refine z_iald_v (j := b + 1) (N := 410) (a := 0) (x := S.1.length) (f := fv) dX13_quietestWindow_44 (by omega) hmi.r1 (by omega) (by omega) (hv.dur) ?_
      refine z_icmp_gt_n (a := (i) + (x.toInt.toNat)) (b := S.1.length) (tgt := 75) dX13_quietestWindow_45 (by decide) (by omega) (by omega) (fun h_45_1 => ?_) (fun h_45_1 => ?_)
      · refine z_iload_n dX13_quietestWindow_75 rfl ?_
        refine z_iret dX13_quietestWindow_76 rfl (by decide) (by decide) ?_
        have hi9 : i = S.1.length - x.toInt.toNat + 1 := by omega
        rw [hi9, Nat.add_sub_cancel] at hq
        subst hq
        have hF : (if x.toInt < 1 then 1 else if (S.1.length : Int) < x.toInt then 2 else 0) = 0 := by (repeat' split) <;> omega
        refine ⟨_, rfl, hfi, ?_, fun _ => rfl⟩
        rw [hF]
        exact ⟨_, _, _, _, _, _, _, _, _, _, _, _, _, hmi, hv, hp, hsn, htx, hou, hep⟩
      · refine z_aload_n dX13_quietestWindow_48 rfl ?_
        refine z_iload_n dX13_quietestWindow_49 rfl ?_
        refine z_iload_n dX13_quietestWindow_50 rfl ?_
        refine z_iload_n dX13_quietestWindow_51 rfl ?_
        refine z_iadd_n (a := i) (b := x.toInt.toNat) dX13_quietestWindow_52 ?_
        refine z_callE (As := [.int (nI (i)), .int (nI ((i) + (x.toInt.toNat)))]) (rest := []) (b := b) (ci := 12) (v := some (.int (nI (tsum (gT S.1) (i) (((i) + (x.toInt.toNat)) - (i)))))) (R2 := zR 3 0) dX13_quietestWindow_53 kV_RX13_144 rfl ⟨⟨by decide, by decide⟩, by decide, by decide⟩ (by omega) hmi.ce rfl rfl rfl (Nat.le_of_ble_eq_true rfl) rfl (c_X13_sum (p := i) (q := (i) + (x.toInt.toNat)) h0 hmi hv (by omega) (by omega)) ?_
        refine z_aload_n dX13_quietestWindow_56 rfl ?_
        refine z_iload_n dX13_quietestWindow_57 rfl ?_
        refine z_iload_n dX13_quietestWindow_58 rfl ?_
        refine z_iload_n dX13_quietestWindow_59 rfl ?_
        refine z_iadd_n (a := q) (b := x.toInt.toNat) dX13_quietestWindow_60 ?_
        refine z_callE (As := [.int (nI (q)), .int (nI ((q) + (x.toInt.toNat)))]) (rest := [.int (nI (tsum (gT S.1) (i) (((i) + (x.toInt.toNat)) - (i))))]) (b := b) (ci := 12) (v := some (.int (nI (tsum (gT S.1) (q) (((q) + (x.toInt.toNat)) - (q)))))) (R2 := zR 3 0) dX13_quietestWindow_61 kV_RX13_144 rfl ⟨⟨by decide, by decide⟩, by decide, by decide⟩ (by omega) hmi.ce rfl rfl rfl (Nat.le_of_ble_eq_true rfl) rfl (c_X13_sum (p := q) (q := (q) + (x.toInt.toNat)) h0 hmi hv (by omega) (by omega)) ?_
        refine z_icmp_ge_n (a := tsum (gT S.1) (i) (((i) + (x.toInt.toNat)) - (i))) (b := tsum (gT S.1) (q) (((q) + (x.toInt.toNat)) - (q))) (tgt := 69) dX13_quietestWindow_64 (by decide) (by omega) (by omega) (fun h_64_4 => ?_) (fun h_64_4 => ?_)
        · refine z_iinc_n (n := 1) (a := i) (lv' := [(0, .ref (za g b)), (1, .int (nI (x.toInt.toNat))), (2, .int (nI (q))), (3, .int (nI (i + 1)))]) dX13_quietestWindow_69 rfl (by decide) rfl ?_
          refine z_goto (tgt := 36) dX13_quietestWindow_72 (by decide) ?_
          simp only [Nat.add_sub_cancel_left] at h_64_4
          have eW : winB (gT S.1) x.toInt.toNat i = q := by
            obtain ⟨j, rfl⟩ : ∃ j, i = j + 1 := ⟨i - 1, by omega⟩
            rw [Nat.add_sub_cancel] at hq
            rw [winB, ← hq, if_neg (by omega)]
          refine ih (i + 1) q (by omega) (by omega) (by omega) ?_
          rw [Nat.add_sub_cancel]; exact eW.symm
        · refine z_iload_n dX13_quietestWindow_67 rfl ?_
          refine z_istore_n (lv' := [(0, .ref (za g b)), (1, .int (nI (x.toInt.toNat))), (2, .int (nI (i))), (3, .int (nI (i)))]) dX13_quietestWindow_68 (by decide) rfl ?_
          refine z_iinc_n (n := 1) (a := i) (lv' := [(0, .ref (za g b)), (1, .int (nI (x.toInt.toNat))), (2, .int (nI (i))), (3, .int (nI (i + 1)))]) dX13_quietestWindow_69 rfl (by decide) rfl ?_
          refine z_goto (tgt := 36) dX13_quietestWindow_72 (by decide) ?_
          simp only [Nat.add_sub_cancel_left] at h_64_4
          have eW : winB (gT S.1) x.toInt.toNat i = i := by
            obtain ⟨j, rfl⟩ : ∃ j, i = j + 1 := ⟨i - 1, by omega⟩
            rw [Nat.add_sub_cancel] at hq
            rw [winB, ← hq, if_pos (by omega)]
          refine ih (i + 1) i (by omega) (by omega) (by omega) ?_
          rw [Nat.add_sub_cancel]; exact eW.symm
  refine z_aload_n dX13_quietestWindow_0 rfl ?_
  refine z_iconst (v := nI 0) dX13_quietestWindow_1 rfl ?_
  refine z_putf (j := b) dX13_quietestWindow_2 kF_RX13_47 zt_12_0 rfl (by omega) h.ce rfl rfl (Nat.le_of_ble_eq_true rfl) ?_
  obtain ⟨w1, ew2⟩ : ∃ wz : zW, wz = va_up w (b) (zO 12 [.int (nI (0)), .int (nI (Hs.length)), .int (ep), .int (fc), .int (nI (if Sn.isSome then 1 else 0)), .ref (za g (b + 1)), .ref (za g (b + 2)), .ref (za g (b + 3)), .ref (za g (b + 4)), .ref (za g (b + 5)), .ref (za g (b + 6)), .ref (za g (b + 7)), .ref (za g (b + 8)), .ref (za g (b + 9)), .ref (za g (b + 10)), .int (nI (I.length)), .int (po), .int (en), .int (nI (O.length)), .int (kn), .int (wr), .int (dg)]) := ⟨_, rfl⟩
  refine z_weq (w' := w1) ew2.symm ?_
  have hf3 : zFr w w1 (b) (b + 1) := by rw [ew2]; exact zFr.up (by omega)
  have hw4 : w1 (b) = zO 12 [.int (nI (0)), .int (nI (Hs.length)), .int (ep), .int (fc), .int (nI (if Sn.isSome then 1 else 0)), .ref (za g (b + 1)), .ref (za g (b + 2)), .ref (za g (b + 3)), .ref (za g (b + 4)), .ref (za g (b + 5)), .ref (za g (b + 6)), .ref (za g (b + 7)), .ref (za g (b + 8)), .ref (za g (b + 9)), .ref (za g (b + 10)), .int (nI (I.length)), .int (po), .int (en), .int (nI (O.length)), .int (kn), .int (wr), .int (dg)] := by rw [ew2, zup_s]
  have hx5 := h.setC hf3 hw4
  refine z_iload_n dX13_quietestWindow_5 rfl ?_
  refine z_iconst (v := nI 1) dX13_quietestWindow_6 rfl ?_
  have hk7 := nI_toInt (n := 1) (by omega)
  refine z_icmp_ge_z (tgt := 16) dX13_quietestWindow_7 (by decide) (fun h_7_6 => ?_) (fun h_7_6 => ?_)
  · refine z_iload_n dX13_quietestWindow_16 rfl ?_
    refine z_aload_n dX13_quietestWindow_17 rfl ?_
    refine z_getf (j := b) dX13_quietestWindow_18 kF_RX13_16 rfl (by omega) hx5.ce rfl ?_
    refine z_iconst (v := nI 0) dX13_quietestWindow_21 rfl ?_
    refine z_iald_v (j := b + 1) (N := 410) (a := 0) (x := S.1.length) (f := fv) dX13_quietestWindow_22 (by omega) hx5.r1 (by omega) (by omega) (hv.dur) ?_
    have hk9 := nI_toInt (n := S.1.length) (by omega)
    refine z_icmp_le_z (tgt := 32) dX13_quietestWindow_23 (by decide) (fun h_23_8 => ?_) (fun h_23_8 => ?_)
    · refine z_eq (lv' := [(0, .ref (za g b)), (1, .int (nI (x.toInt.toNat)))]) rfl rfl (by rw [← i_nat (x := x) (by omega)]) ?_
      refine z_iconst (v := nI 0) dX13_quietestWindow_32 rfl ?_
      refine z_istore_n (lv' := [(0, .ref (za g b)), (1, .int (nI (x.toInt.toNat))), (2, .int (nI (0)))]) dX13_quietestWindow_33 (by decide) rfl ?_
      refine z_iconst (v := nI 1) dX13_quietestWindow_34 rfl ?_
      refine z_istore_n (lv' := [(0, .ref (za g b)), (1, .int (nI (x.toInt.toNat))), (2, .int (nI (0))), (3, .int (nI (1)))]) dX13_quietestWindow_35 (by decide) rfl ?_
      exact loop _ (hf3.wk (by omega) (by omega)) hx5 (by omega) (S.1.length + 2) 1 0 (by omega) (Nat.le_refl _) (by omega) rfl
    · refine z_aload_n dX13_quietestWindow_26 rfl ?_
      refine z_iconst (v := nI 2) dX13_quietestWindow_27 rfl ?_
      refine z_callR (As := [.int (nI (2))]) (rest := []) (b := b) (ci := 12) (v := some (.int (nI (0)))) (R2 := zR 0 0) dX13_quietestWindow_28 kV_RX13_61 rfl ⟨⟨by decide, by decide⟩, by decide, by decide⟩ (by omega) hx5.ce rfl rfl rfl (Nat.le_of_ble_eq_true rfl) rfl (c_X13_fail (x := (nI (2))) h0 hx5) (fun w10 pw10 => ?_)
      obtain ⟨hf11, hx12⟩ := pw10
      refine z_iret dX13_quietestWindow_31 rfl (by decide) (by decide) ?_
      have hF : (if x.toInt < 1 then 1 else if (S.1.length : Int) < x.toInt then 2 else 0) = 2 := by (repeat' split) <;> omega
      refine ⟨_, rfl, ((hf3.wk (by omega) (by omega)).tr hf11), ?_, fun q9 => absurd (hF.symm.trans q9) (by decide)⟩
      rw [hF]
      exact ⟨_, _, _, _, _, _, _, _, _, _, _, _, _, hx12, hv, hp, hsn, htx, hou, hep⟩
  · refine z_aload_n dX13_quietestWindow_10 rfl ?_
    refine z_iconst (v := nI 1) dX13_quietestWindow_11 rfl ?_
    refine z_callR (As := [.int (nI (1))]) (rest := []) (b := b) (ci := 12) (v := some (.int (nI (0)))) (R2 := zR 0 0) dX13_quietestWindow_12 kV_RX13_61 rfl ⟨⟨by decide, by decide⟩, by decide, by decide⟩ (by omega) hx5.ce rfl rfl rfl (Nat.le_of_ble_eq_true rfl) rfl (c_X13_fail (x := (nI (1))) h0 hx5) (fun w13 pw13 => ?_)
    obtain ⟨hf14, hx15⟩ := pw13
    refine z_iret dX13_quietestWindow_15 rfl (by decide) (by decide) ?_
    have hF : (if x.toInt < 1 then 1 else if (S.1.length : Int) < x.toInt then 2 else 0) = 1 := by (repeat' split) <;> omega
    refine ⟨_, rfl, ((hf3.wk (by omega) (by omega)).tr hf14), ?_, fun q9 => absurd (hF.symm.trans q9) (by decide)⟩
    rw [hF]
    exact ⟨_, _, _, _, _, _, _, _, _, _, _, _, _, hx15, hv, hp, hsn, htx, hou, hep⟩
set_option maxRecDepth 100000 in
set_option maxHeartbeats 4000000 in
theorem c_X13_period {g : zGT} {w : zW} {b : Nat} {S : zSt} {Hs : List zSt} {Sn : Option zSt} {I O : List Nat} {ep fc : Int32} {t : Nat}  (h0 : zG0 g) (hq : Mq g w b (S) (Hs) (Sn) (I) (O) (ep) (fc) (t)) : zCt g mX13_period (zR 4 0) [.ref (za g b)] w (fun o w' => ∃ r, o = .inl (some (.int r)) ∧ zFr w w' b (b + 11) ∧ Mq g w' b (S) (Hs) (Sn) (I) (O) (ep) (fc) (if S.1.length ≠ 0 then 0 else 1) ∧ (S.1.length ≠ 0 → r = nI (perF (gT S.1) S.1.length))) := by
  obtain ⟨po, en, kn, wr, dg, fv, fb, fs, fp, fh, ft, fl, fi, h, hv, hp, hsn, htx, hou, hep⟩ := hq
  have hb := h.1
  have hl := hv.len
  refine zCt_of (by decide +kernel) h0 [(0, .ref (za g b))] rfl (Nat.le_of_ble_eq_true rfl) ?_
  have loop : ∀ (wi : zW), zFr w wi b (b + 11) → Mx g wi b (nI 0) (nI Hs.length) ep fc (nI (if Sn.isSome then 1 else 0)) (nI I.length) po en (nI O.length) kn wr dg fv fb fs fp fh ft fl fi → (S.1.length ≠ 0) → ∀ (mm : Nat) (p : Nat), S.1.length + 1 - p < mm → (1 ≤ p) → (p ≤ S.1.length) → (∀ q, 1 ≤ q → q < p → ¬ perOK (gT S.1) S.1.length q) → zTr g mX13_period (zR 4 0) 0 0 20 [(0, .ref (za g b)), (1, .int (nI (p)))] [] wi (fun o w' => ∃ r, o = .inl (some (.int r)) ∧ zFr w w' b (b + 11) ∧ Mq g w' b (S) (Hs) (Sn) (I) (O) (ep) (fc) (if S.1.length ≠ 0 then 0 else 1) ∧ (S.1.length ≠ 0 → r = nI (perF (gT S.1) S.1.length))) := by
    intro wi hfi hmi hn0
    intro mm
    induction mm with
    | zero => intros; omega
    | succ mm ih =>
      intro p hm hp1 hpn hno
      refine z_aload_n dX13_period_20 rfl ?_
      refine z_getf (j := b) dX13_period_21 kF_RX13_47 rfl (by omega) hmi.ce rfl ?_
      refine z_if_ne_n (a := 0) (tgt := 41) dX13_period_24 (by decide) (by omega) (fun h_24_1 => ?_) (fun h_24_1 => ?_)
      · exact absurd h_24_1 (by decide)
      · refine z_aload_n dX13_period_27 rfl ?_
        refine z_iload_n dX13_period_28 rfl ?_
        by_cases hc2 : perOK (gT S.1) S.1.length (p)
        · refine z_callE (As := [.int (nI (p))]) (rest := []) (b := b) (ci := 12) (v := some (.int (nI (1)))) (R2 := zR 1 0) dX13_period_29 kV_RX13_160 rfl ⟨⟨by decide, by decide⟩, by decide, by decide⟩ (by omega) hmi.ce rfl rfl rfl (Nat.le_of_ble_eq_true rfl) rfl (c_X13_isPeriod_y (p := p) h0 hmi hv (by omega) (by omega) hc2) ?_
          refine z_if_ne_n (a := 1) (tgt := 41) dX13_period_32 (by decide) (by omega) (fun h_32_4 => ?_) (fun h_32_4 => ?_)
          · refine z_iload_n dX13_period_41 rfl ?_
            refine z_iret dX13_period_42 rfl (by decide) (by decide) ?_
            have hper : perF (gT S.1) S.1.length = p := IsPer.eq ⟨hp1, hpn, hc2, hno⟩
            refine ⟨_, rfl, hfi, ?_, fun _ => by rw [hper]⟩
            rw [if_pos hn0]
            exact ⟨_, _, _, _, _, _, _, _, _, _, _, _, _, hmi, hv, hp, hsn, htx, hou, hep⟩
          · exact absurd h_32_4 (by decide)
        · refine z_callE (As := [.int (nI (p))]) (rest := []) (b := b) (ci := 12) (v := some (.int (nI (0)))) (R2 := zR 1 0) dX13_period_29 kV_RX13_160 rfl ⟨⟨by decide, by decide⟩, by decide, by decide⟩ (by omega) hmi.ce rfl rfl rfl (Nat.le_of_ble_eq_true rfl) rfl (c_X13_isPeriod_n (p := p) h0 hmi hv (by omega) (by omega) hc2) ?_
          refine z_if_ne_n (a := 0) (tgt := 41) dX13_period_32 (by decide) (by omega) (fun h_32_6 => ?_) (fun h_32_6 => ?_)
          · exact absurd h_32_6 (by decide)
          · refine z_iinc_n (n := 1) (a := p) (lv' := [(0, .ref (za g b)), (1, .int (nI (p + 1)))]) dX13_period_35 rfl (by decide) rfl ?_
            refine z_goto (tgt := 20) dX13_period_38 (by decide) ?_
            have hlt : p < S.1.length := by
              rcases Nat.lt_or_ge p S.1.length with z | z
              · exact z
              · exact absurd (by rw [show p = S.1.length by omega]; exact perOK_n) hc2
            refine ih (p + 1) (by omega) (by omega) (by omega) (fun q h8 h9 => ?_)
            by_cases c : q < p
            · exact hno q h8 c
            · rw [show q = p by omega]; exact hc2
  refine z_aload_n dX13_period_0 rfl ?_
  refine z_aload_n dX13_period_1 rfl ?_
  refine z_getf (j := b) dX13_period_2 kF_RX13_16 rfl (by omega) h.ce rfl ?_
  refine z_iconst (v := nI 0) dX13_period_5 rfl ?_
  refine z_iald_v (j := b + 1) (N := 410) (a := 0) (x := S.1.length) (f := fv) dX13_period_6 (by omega) h.r1 (by omega) (by omega) (hv.dur) ?_
  refine z_if_ne_n (a := S.1.length) (tgt := 14) dX13_period_7 (by decide) (by omega) (fun h_7_1 => ?_) (fun h_7_1 => ?_)
  · refine z_iconst (v := nI 0) dX13_period_14 rfl ?_
    refine z_putf (j := b) dX13_period_15 kF_RX13_47 zt_12_0 rfl (by omega) h.ce rfl rfl (Nat.le_of_ble_eq_true rfl) ?_
    obtain ⟨w2, ew3⟩ : ∃ wz : zW, wz = va_up w (b) (zO 12 [.int (nI (0)), .int (nI (Hs.length)), .int (ep), .int (fc), .int (nI (if Sn.isSome then 1 else 0)), .ref (za g (b + 1)), .ref (za g (b + 2)), .ref (za g (b + 3)), .ref (za g (b + 4)), .ref (za g (b + 5)), .ref (za g (b + 6)), .ref (za g (b + 7)), .ref (za g (b + 8)), .ref (za g (b + 9)), .ref (za g (b + 10)), .int (nI (I.length)), .int (po), .int (en), .int (nI (O.length)), .int (kn), .int (wr), .int (dg)]) := ⟨_, rfl⟩
    refine z_weq (w' := w2) ew3.symm ?_
    have hf4 : zFr w w2 (b) (b + 1) := by rw [ew3]; exact zFr.up (by omega)
    have hw5 : w2 (b) = zO 12 [.int (nI (0)), .int (nI (Hs.length)), .int (ep), .int (fc), .int (nI (if Sn.isSome then 1 else 0)), .ref (za g (b + 1)), .ref (za g (b + 2)), .ref (za g (b + 3)), .ref (za g (b + 4)), .ref (za g (b + 5)), .ref (za g (b + 6)), .ref (za g (b + 7)), .ref (za g (b + 8)), .ref (za g (b + 9)), .ref (za g (b + 10)), .int (nI (I.length)), .int (po), .int (en), .int (nI (O.length)), .int (kn), .int (wr), .int (dg)] := by rw [ew3, zup_s]
    have hx6 := h.setC hf4 hw5
    refine z_iconst (v := nI 1) dX13_period_18 rfl ?_
    refine z_istore_n (lv' := [(0, .ref (za g b)), (1, .int (nI (1)))]) dX13_period_19 (by decide) rfl ?_
    exact loop _ (hf4.wk (by omega) (by omega)) hx6 (by omega) (S.1.length + 2) 1 (by omega) (Nat.le_refl _) (by omega) (fun q h8 h9 => by omega)
  · refine z_iconst (v := nI 1) dX13_period_10 rfl ?_
    refine z_goto (tgt := 15) dX13_period_11 (by decide) ?_
    refine z_putf (j := b) dX13_period_15 kF_RX13_47 zt_12_0 rfl (by omega) h.ce rfl rfl (Nat.le_of_ble_eq_true rfl) ?_
    obtain ⟨w7, ew8⟩ : ∃ wz : zW, wz = va_up w (b) (zO 12 [.int (nI (1)), .int (nI (Hs.length)), .int (ep), .int (fc), .int (nI (if Sn.isSome then 1 else 0)), .ref (za g (b + 1)), .ref (za g (b + 2)), .ref (za g (b + 3)), .ref (za g (b + 4)), .ref (za g (b + 5)), .ref (za g (b + 6)), .ref (za g (b + 7)), .ref (za g (b + 8)), .ref (za g (b + 9)), .ref (za g (b + 10)), .int (nI (I.length)), .int (po), .int (en), .int (nI (O.length)), .int (kn), .int (wr), .int (dg)]) := ⟨_, rfl⟩
    refine z_weq (w' := w7) ew8.symm ?_
    have hf9 : zFr w w7 (b) (b + 1) := by rw [ew8]; exact zFr.up (by omega)
    have hw10 : w7 (b) = zO 12 [.int (nI (1)), .int (nI (Hs.length)), .int (ep), .int (fc), .int (nI (if Sn.isSome then 1 else 0)), .ref (za g (b + 1)), .ref (za g (b + 2)), .ref (za g (b + 3)), .ref (za g (b + 4)), .ref (za g (b + 5)), .ref (za g (b + 6)), .ref (za g (b + 7)), .ref (za g (b + 8)), .ref (za g (b + 9)), .ref (za g (b + 10)), .int (nI (I.length)), .int (po), .int (en), .int (nI (O.length)), .int (kn), .int (wr), .int (dg)] := by rw [ew8, zup_s]
    have hx11 := h.setC hf9 hw10
    refine z_iconst (v := nI 1) dX13_period_18 rfl ?_
    refine z_istore_n (lv' := [(0, .ref (za g b)), (1, .int (nI (1)))]) dX13_period_19 (by decide) rfl ?_
    refine z_aload_n dX13_period_20 rfl ?_
    refine z_getf (j := b) dX13_period_21 kF_RX13_47 rfl (by omega) hx11.ce rfl ?_
    refine z_if_ne_n (a := 1) (tgt := 41) dX13_period_24 (by decide) (by omega) (fun h_24_112 => ?_) (fun h_24_112 => ?_)
    · refine z_iload_n dX13_period_41 rfl ?_
      refine z_iret dX13_period_42 rfl (by decide) (by decide) ?_
      have q8 : ¬ (S.1.length ≠ 0) := by omega
      refine ⟨_, rfl, (hf9.wk (by omega) (by omega)), ?_, fun q9 => absurd q9 q8⟩
      rw [if_neg q8]
      exact ⟨_, _, _, _, _, _, _, _, _, _, _, _, _, hx11, hv, hp, hsn, htx, hou, hep⟩
    · exact absurd h_24_112 (by decide)
set_option maxRecDepth 100000 in
set_option maxHeartbeats 4000000 in
theorem c_X13_quietestWindowByTrial {g : zGT} {w : zW} {b : Nat} {S : zSt} {Hs : List zSt} {Sn : Option zSt} {I O : List Nat} {ep fc : Int32} {t : Nat} {x : Int32} (h0 : zG0 g) (hq : Mq g w b (S) (Hs) (Sn) (I) (O) (ep) (fc) (t)) : zCt g mX13_quietestWindowByTrial (zR 5 0) [.ref (za g b), .int (x)] w (fun o w' => ∃ r, o = .inl (some (.int r)) ∧ zFr w w' b (b + 11) ∧ Mq g w' b (S) (Hs) (Sn) (I) (O) (ep) (fc) ((if x.toInt < 1 then 1 else if (S.1.length : Int) < x.toInt then 2 else 0)) ∧ ((if x.toInt < 1 then 1 else if (S.1.length : Int) < x.toInt then 2 else 0) = 0 → r = nI (winB (gT S.1) x.toInt.toNat (S.1.length - x.toInt.toNat)))) := by
  have hq2 := hq
  obtain ⟨po, en, kn, wr, dg, fv, fb, fs, fp, fh, ft, fl, fi, h, hv, hp, hsn, htx, hou, hep⟩ := hq
  have hb := h.1
  have hl := hv.len
  refine zCt_of (by decide +kernel) h0 [(0, .ref (za g b)), (1, .int (x))] rfl (Nat.le_of_ble_eq_true rfl) ?_
  refine z_aload_n dX13_quietestWindowByTrial_0 rfl ?_
  refine z_iload_n dX13_quietestWindowByTrial_1 rfl ?_
  refine z_callV (As := [.int (x)]) (rest := []) (b := b) (ci := 12) (R2 := zR 4 0) dX13_quietestWindowByTrial_2 kV_RX13_157 rfl ⟨⟨by decide, by decide⟩, by decide, by decide⟩ (by omega) h.ce rfl rfl rfl (Nat.le_of_ble_eq_true rfl) rfl (c_X13_quietestWindow (x := x) h0 hq2) (fun E w1 h => by obtain ⟨_, e, _⟩ := h; cases e) (fun v1 w2 h3 => ?_)
  rcases h3 with ⟨r9, ho9, hf9, hq9, hr9⟩
  · cases ho9
    refine z_iret dX13_quietestWindowByTrial_5 rfl (by decide) (by decide) ?_
    exact ⟨_, rfl, hf9, hq9, hr9⟩
set_option maxRecDepth 100000 in
set_option maxHeartbeats 4000000 in
theorem c_X13_periodByTrial {g : zGT} {w : zW} {b : Nat} {S : zSt} {Hs : List zSt} {Sn : Option zSt} {I O : List Nat} {ep fc : Int32} {t : Nat}  (h0 : zG0 g) (hq : Mq g w b (S) (Hs) (Sn) (I) (O) (ep) (fc) (t)) : zCt g mX13_periodByTrial (zR 5 0) [.ref (za g b)] w (fun o w' => ∃ r, o = .inl (some (.int r)) ∧ zFr w w' b (b + 11) ∧ Mq g w' b (S) (Hs) (Sn) (I) (O) (ep) (fc) (if S.1.length ≠ 0 then 0 else 1) ∧ (S.1.length ≠ 0 → r = nI (perF (gT S.1) S.1.length))) := by
  have hq2 := hq
  obtain ⟨po, en, kn, wr, dg, fv, fb, fs, fp, fh, ft, fl, fi, h, hv, hp, hsn, htx, hou, hep⟩ := hq
  have hb := h.1
  have hl := hv.len
  refine zCt_of (by decide +kernel) h0 [(0, .ref (za g b))] rfl (Nat.le_of_ble_eq_true rfl) ?_
  refine z_aload_n dX13_periodByTrial_0 rfl ?_
  refine z_callV (As := []) (rest := []) (b := b) (ci := 12) (R2 := zR 4 0) dX13_periodByTrial_1 kV_RX13_163 rfl ⟨⟨by decide, by decide⟩, by decide, by decide⟩ (by omega) h.ce rfl rfl rfl (Nat.le_of_ble_eq_true rfl) rfl (c_X13_period  h0 hq2) (fun E w1 h => by obtain ⟨_, e, _⟩ := h; cases e) (fun v1 w2 h3 => ?_)
  rcases h3 with ⟨r9, ho9, hf9, hq9, hr9⟩
  · cases ho9
    refine z_iret dX13_periodByTrial_4 rfl (by decide) (by decide) ?_
    exact ⟨_, rfl, hf9, hq9, hr9⟩
set_option maxRecDepth 100000 in
set_option maxHeartbeats 4000000 in
theorem c_X13_loudnessByLevels {g : zGT} {w : zW} {b : Nat} {S : zSt} {Hs : List zSt} {Sn : Option zSt} {I O : List Nat} {ep fc : Int32} {t : Nat}  (h0 : zG0 g) (hq : Mq g w b (S) (Hs) (Sn) (I) (O) (ep) (fc) (t)) : zCt g mX13_loudnessByLevels (zR 5 0) [.ref (za g b)] w (fun o w' => o = .inl (some (.long (lN (tsum (gT S.1) 0 S.1.length)))) ∧ zFr w w' b (b + 11) ∧ Mq g w' b (S) (Hs) (Sn) (I) (O) (ep) (fc) (0)) := by
  have hq2 := hq
  obtain ⟨po, en, kn, wr, dg, fv, fb, fs, fp, fh, ft, fl, fi, h, hv, hp, hsn, htx, hou, hep⟩ := hq
  have hb := h.1
  have hl := hv.len
  refine zCt_of (by decide +kernel) h0 [(0, .ref (za g b))] rfl (Nat.le_of_ble_eq_true rfl) ?_
  refine z_aload_n dX13_loudnessByLevels_0 rfl ?_
  refine z_callV (As := []) (rest := []) (b := b) (ci := 12) (R2 := zR 4 0) dX13_loudnessByLevels_1 kV_RX13_147 rfl ⟨⟨by decide, by decide⟩, by decide, by decide⟩ (by omega) h.ce rfl rfl rfl (Nat.le_of_ble_eq_true rfl) rfl (c_X13_loudness  h0 hq2) (fun E w1 h => by obtain ⟨e, _⟩ := h; cases e) (fun v1 w2 h3 => ?_)
  rcases h3 with ⟨ho9, hf9, hq9⟩
  · cases ho9
    refine z_lret dX13_loudnessByLevels_4 rfl (by decide) (by decide) ?_
    exact ⟨rfl, hf9, hq9⟩
set_option maxRecDepth 100000 in
set_option maxHeartbeats 4000000 in
theorem c_X13_loudnessInByPrefixes {g : zGT} {w : zW} {b : Nat} {S : zSt} {Hs : List zSt} {Sn : Option zSt} {I O : List Nat} {ep fc : Int32} {t : Nat} {x y : Int32} (h0 : zG0 g) (hq : Mq g w b (S) (Hs) (Sn) (I) (O) (ep) (fc) (t)) : zCt g mX13_loudnessInByPrefixes (zR 5 0) [.ref (za g b), .int (x), .int (y)] w (fun o w' => ∃ r, o = .inl (some (.int r)) ∧ zFr w w' b (b + 11) ∧ Mq g w' b (S) (Hs) (Sn) (I) (O) (ep) (fc) (if 0 ≤ x.toInt ∧ x.toInt ≤ y.toInt ∧ y.toInt ≤ (S.1.length : Nat) then 0 else 1) ∧ (0 ≤ x.toInt ∧ x.toInt ≤ y.toInt ∧ y.toInt ≤ (S.1.length : Nat) → r = nI (tsum (gT S.1) x.toInt.toNat (y.toInt.toNat - x.toInt.toNat)))) := by
  have hq2 := hq
  obtain ⟨po, en, kn, wr, dg, fv, fb, fs, fp, fh, ft, fl, fi, h, hv, hp, hsn, htx, hou, hep⟩ := hq
  have hb := h.1
  have hl := hv.len
  refine zCt_of (by decide +kernel) h0 [(0, .ref (za g b)), (1, .int (x)), (2, .int (y))] rfl (Nat.le_of_ble_eq_true rfl) ?_
  refine z_aload_n dX13_loudnessInByPrefixes_0 rfl ?_
  refine z_iload_n dX13_loudnessInByPrefixes_1 rfl ?_
  refine z_iload_n dX13_loudnessInByPrefixes_2 rfl ?_
  refine z_callV (As := [.int (x), .int (y)]) (rest := []) (b := b) (ci := 12) (R2 := zR 4 0) dX13_loudnessInByPrefixes_3 kV_RX13_151 rfl ⟨⟨by decide, by decide⟩, by decide, by decide⟩ (by omega) h.ce rfl rfl rfl (Nat.le_of_ble_eq_true rfl) rfl (c_X13_loudnessIn (x := x) (y := y) h0 hq2) (fun E w1 h => by obtain ⟨_, e, _⟩ := h; cases e) (fun v1 w2 h3 => ?_)
  rcases h3 with ⟨r9, ho9, hf9, hq9, hr9⟩
  · cases ho9
    refine z_iret dX13_loudnessInByPrefixes_6 rfl (by decide) (by decide) ?_
    exact ⟨_, rfl, hf9, hq9, hr9⟩
