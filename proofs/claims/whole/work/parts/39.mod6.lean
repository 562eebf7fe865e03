/-! the reference: what it counts -/
set_option maxRecDepth 100000 in
set_option maxHeartbeats 4000000 in
theorem c_X13_isTick_y {g : zGT} {w : zW} {b : Nat} {th ch ea fa sv tn po en ln kn wr dg : Int32} {fv fb fs fp fh ft fl fi : Nat → Int32} {S : zSt} {x : Int32} (h0 : zG0 g) (h : Mx g w b th ch ea fa sv tn po en ln kn wr dg fv fb fs fp fh ft fl fi) (hv : VS fv S) (e : 0 ≤ x.toInt ∧ x.toInt < (S.1.length : Nat)) : zCt g mX13_isTick (zR 1 0) [.ref (za g b), .int (x)] w (fun o w' => o = .inl (some (.int (nI 1))) ∧ w' = w) := by
  have hb := h.1
  have hl := hv.len
  have hz := pk_sub_toInt (a := S.1.length) (b := 1) (by omega) (by omega)
  refine zCt_of (by decide +kernel) h0 [(0, .ref (za g b)), (1, .int (x))] rfl (Nat.le_of_ble_eq_true rfl) ?_
  refine z_iload_n dX13_isTick_0 rfl ?_
  refine z_iconst (v := nI 0) dX13_isTick_1 rfl ?_
  refine z_aload_n dX13_isTick_2 rfl ?_
  refine z_getf (j := b) dX13_isTick_3 kF_RX13_16 rfl (by omega) h.ce rfl ?_
  refine z_iconst (v := nI 0) dX13_isTick_6 rfl ?_
  refine z_iald_v (j := b + 1) (N := 410) (a := 0) (x := S.1.length) (f := fv) dX13_isTick_7 (by omega) h.r1 (by omega) (by omega) (hv.dur) ?_
  refine z_iconst (v := nI 1) dX13_isTick_8 rfl ?_
  refine z_isub dX13_isTick_9 ?_
  by_cases hc1 : ((0 : Nat) : Int) ≤ ((x)).toInt ∧ ((x)).toInt ≤ (((nI (S.1.length)) - (nI (1)))).toInt
  · refine z_callSE (As := [.int (x), .int (nI (0)), .int ((nI (S.1.length)) - (nI (1)))]) (rest := []) (v := some (.int (nI (1)))) (R2 := zR 0 0) dX13_isTick_10 kS_RX13_57 rfl rfl ⟨⟨by decide, by decide⟩, by decide, by decide⟩ rfl (Nat.le_of_ble_eq_true rfl) rfl (c_X13_isIn_y (x := (x)) (y := (nI (0))) (z := ((nI (S.1.length)) - (nI (1)))) h0 (by have q0 := nI_toInt (n := 0) (by omega); omega)) ?_
    refine z_zret (ty := .boolean) dX13_isTick_13 rfl (by decide) (by decide) rfl ?_
    first | exact ⟨rfl, rfl⟩ | (exfalso; omega)
  · refine z_callSE (As := [.int (x), .int (nI (0)), .int ((nI (S.1.length)) - (nI (1)))]) (rest := []) (v := some (.int (nI (0)))) (R2 := zR 0 0) dX13_isTick_10 kS_RX13_57 rfl rfl ⟨⟨by decide, by decide⟩, by decide, by decide⟩ rfl (Nat.le_of_ble_eq_true rfl) rfl (c_X13_isIn_n (x := (x)) (y := (nI (0))) (z := ((nI (S.1.length)) - (nI (1)))) h0 (by have q0 := nI_toInt (n := 0) (by omega); omega)) ?_
    refine z_zret (ty := .boolean) dX13_isTick_13 rfl (by decide) (by decide) rfl ?_
    first | exact ⟨rfl, rfl⟩ | (exfalso; omega)
set_option maxRecDepth 100000 in
set_option maxHeartbeats 4000000 in
theorem c_X13_isTick_n {g : zGT} {w : zW} {b : Nat} {th ch ea fa sv tn po en ln kn wr dg : Int32} {fv fb fs fp fh ft fl fi : Nat → Int32} {S : zSt} {x : Int32} (h0 : zG0 g) (h : Mx g w b th ch ea fa sv tn po en ln kn wr dg fv fb fs fp fh ft fl fi) (hv : VS fv S) (e : ¬ (0 ≤ x.toInt ∧ x.toInt < (S.1.length : Nat))) : zCt g mX13_isTick (zR 1 0) [.ref (za g b), .int (x)] w (fun o w' => o = .inl (some (.int (nI 0))) ∧ w' = w) := by
  have hb := h.1
  have hl := hv.len
  have hz := pk_sub_toInt (a := S.1.length) (b := 1) (by omega) (by omega)
  refine zCt_of (by decide +kernel) h0 [(0, .ref (za g b)), (1, .int (x))] rfl (Nat.le_of_ble_eq_true rfl) ?_
  refine z_iload_n dX13_isTick_0 rfl ?_
  refine z_iconst (v := nI 0) dX13_isTick_1 rfl ?_
  refine z_aload_n dX13_isTick_2 rfl ?_
  refine z_getf (j := b) dX13_isTick_3 kF_RX13_16 rfl (by omega) h.ce rfl ?_
  refine z_iconst (v := nI 0) dX13_isTick_6 rfl ?_
  refine z_iald_v (j := b + 1) (N := 410) (a := 0) (x := S.1.length) (f := fv) dX13_isTick_7 (by omega) h.r1 (by omega) (by omega) (hv.dur) ?_
  refine z_iconst (v := nI 1) dX13_isTick_8 rfl ?_
  refine z_isub dX13_isTick_9 ?_
  by_cases hc1 : ((0 : Nat) : Int) ≤ ((x)).toInt ∧ ((x)).toInt ≤ (((nI (S.1.length)) - (nI (1)))).toInt
  · refine z_callSE (As := [.int (x), .int (nI (0)), .int ((nI (S.1.length)) - (nI (1)))]) (rest := []) (v := some (.int (nI (1)))) (R2 := zR 0 0) dX13_isTick_10 kS_RX13_57 rfl rfl ⟨⟨by decide, by decide⟩, by decide, by decide⟩ rfl (Nat.le_of_ble_eq_true rfl) rfl (c_X13_isIn_y (x := (x)) (y := (nI (0))) (z := ((nI (S.1.length)) - (nI (1)))) h0 (by have q0 := nI_toInt (n := 0) (by omega); omega)) ?_
    refine z_zret (ty := .boolean) dX13_isTick_13 rfl (by decide) (by decide) rfl ?_
    first | exact ⟨rfl, rfl⟩ | (exfalso; omega)
  · refine z_callSE (As := [.int (x), .int (nI (0)), .int ((nI (S.1.length)) - (nI (1)))]) (rest := []) (v := some (.int (nI (0)))) (R2 := zR 0 0) dX13_isTick_10 kS_RX13_57 rfl rfl ⟨⟨by decide, by decide⟩, by decide, by decide⟩ rfl (Nat.le_of_ble_eq_true rfl) rfl (c_X13_isIn_n (x := (x)) (y := (nI (0))) (z := ((nI (S.1.length)) - (nI (1)))) h0 (by have q0 := nI_toInt (n := 0) (by omega); omega)) ?_
    refine z_zret (ty := .boolean) dX13_isTick_13 rfl (by decide) (by decide) rfl ?_
    first | exact ⟨rfl, rfl⟩ | (exfalso; omega)
set_option maxRecDepth 100000 in
set_option maxHeartbeats 4000000 in
theorem c_X13_isStart_y {g : zGT} {w : zW} {b : Nat} {th ch ea fa sv tn po en ln kn wr dg : Int32} {fv fb fs fp fh ft fl fi : Nat → Int32} {S : zSt} {k : Nat} (h0 : zG0 g) (h : Mx g w b th ch ea fa sv tn po en ln kn wr dg fv fb fs fp fh ft fl fi) (hv : VS fv S) (hk : k < 200) (e : stB (gT S.1) k = true) : zCt g mX13_isStart (zR 1 0) [.ref (za g b), .int (nI (k))] w (fun o w' => o = .inl (some (.int (nI 1))) ∧ w' = w) := by
  have hb := h.1
  have hl := hv.len
  have q9 : k = 0 ∨ gT S.1 k ≠ gT S.1 (k - 1) := of_decide_eq_true e
  refine zCt_of (by decide +kernel) h0 [(0, .ref (za g b)), (1, .int (nI (k)))] rfl (Nat.le_of_ble_eq_true rfl) ?_
  refine z_iload_n dX13_isStart_0 rfl ?_
  refine z_if_eq_n (a := k) (tgt := 19) dX13_isStart_1 (by decide) (by omega) (fun h_1_1 => ?_) (fun h_1_1 => ?_)
  · refine z_iconst (v := nI 1) dX13_isStart_19 rfl ?_
    refine z_goto (tgt := 24) dX13_isStart_20 (by decide) ?_
    refine z_zret (ty := .boolean) dX13_isStart_24 rfl (by decide) (by decide) rfl ?_
    first | exact ⟨rfl, rfl⟩ | (exfalso; omega)
  · refine z_aload_n dX13_isStart_4 rfl ?_
    refine z_iload_n dX13_isStart_5 rfl ?_
    have hle2 := hv.le (k)
    refine z_callE (As := [.int (nI (k))]) (rest := []) (b := b) (ci := 12) (v := some (.int (nI (gT S.1 (k))))) (R2 := zR 0 0) dX13_isStart_6 kV_RX13_65 rfl ⟨⟨by decide, by decide⟩, by decide, by decide⟩ (by omega) h.ce rfl rfl rfl (Nat.le_of_ble_eq_true rfl) rfl (c_X13_level (t := k) (x := gT S.1 (k)) h0 h (by omega) (hv.tick (by omega))) ?_
    refine z_aload_n dX13_isStart_9 rfl ?_
    refine z_iload_n dX13_isStart_10 rfl ?_
    refine z_iconst (v := nI 1) dX13_isStart_11 rfl ?_
    refine z_isub_n (a := k) (b := 1) dX13_isStart_12 (by omega) ?_
    have hle4 := hv.le ((k) - (1))
    refine z_callE (As := [.int (nI ((k) - (1)))]) (rest := [.int (nI (gT S.1 (k)))]) (b := b) (ci := 12) (v := some (.int (nI (gT S.1 ((k) - (1)))))) (R2 := zR 0 0) dX13_isStart_13 kV_RX13_65 rfl ⟨⟨by decide, by decide⟩, by decide, by decide⟩ (by omega) h.ce rfl rfl rfl (Nat.le_of_ble_eq_true rfl) rfl (c_X13_level (t := (k) - (1)) (x := gT S.1 ((k) - (1))) h0 h (by omega) (hv.tick (by omega))) ?_
    refine z_icmp_eq_n (a := gT S.1 (k)) (b := gT S.1 ((k) - (1))) (tgt := 23) dX13_isStart_16 (by decide) (by omega) (by omega) (fun h_16_6 => ?_) (fun h_16_6 => ?_)
    · refine z_iconst (v := nI 0) dX13_isStart_23 rfl ?_
      refine z_zret (ty := .boolean) dX13_isStart_24 rfl (by decide) (by decide) rfl ?_
      first | exact ⟨rfl, rfl⟩ | (exfalso; omega)
    · refine z_iconst (v := nI 1) dX13_isStart_19 rfl ?_
      refine z_goto (tgt := 24) dX13_isStart_20 (by decide) ?_
      refine z_zret (ty := .boolean) dX13_isStart_24 rfl (by decide) (by decide) rfl ?_
      first | exact ⟨rfl, rfl⟩ | (exfalso; omega)
set_option maxRecDepth 100000 in
set_option maxHeartbeats 4000000 in
theorem c_X13_isStart_n {g : zGT} {w : zW} {b : Nat} {th ch ea fa sv tn po en ln kn wr dg : Int32} {fv fb fs fp fh ft fl fi : Nat → Int32} {S : zSt} {k : Nat} (h0 : zG0 g) (h : Mx g w b th ch ea fa sv tn po en ln kn wr dg fv fb fs fp fh ft fl fi) (hv : VS fv S) (hk : k < 200) (e : ¬ (stB (gT S.1) k = true)) : zCt g mX13_isStart (zR 1 0) [.ref (za g b), .int (nI (k))] w (fun o w' => o = .inl (some (.int (nI 0))) ∧ w' = w) := by
  have hb := h.1
  have hl := hv.len
  have q9 : ¬ (k = 0 ∨ gT S.1 k ≠ gT S.1 (k - 1)) := fun z => e (decide_eq_true z)
  refine zCt_of (by decide +kernel) h0 [(0, .ref (za g b)), (1, .int (nI (k)))] rfl (Nat.le_of_ble_eq_true rfl) ?_
  refine z_iload_n dX13_isStart_0 rfl ?_
  refine z_if_eq_n (a := k) (tgt := 19) dX13_isStart_1 (by decide) (by omega) (fun h_1_1 => ?_) (fun h_1_1 => ?_)
  · refine z_iconst (v := nI 1) dX13_isStart_19 rfl ?_
    refine z_goto (tgt := 24) dX13_isStart_20 (by decide) ?_
    refine z_zret (ty := .boolean) dX13_isStart_24 rfl (by decide) (by decide) rfl ?_
    first | exact ⟨rfl, rfl⟩ | (exfalso; omega)
  · refine z_aload_n dX13_isStart_4 rfl ?_
    refine z_iload_n dX13_isStart_5 rfl ?_
    have hle2 := hv.le (k)
    refine z_callE (As := [.int (nI (k))]) (rest := []) (b := b) (ci := 12) (v := some (.int (nI (gT S.1 (k))))) (R2 := zR 0 0) dX13_isStart_6 kV_RX13_65 rfl ⟨⟨by decide, by decide⟩, by decide, by decide⟩ (by omega) h.ce rfl rfl rfl (Nat.le_of_ble_eq_true rfl) rfl (c_X13_level (t := k) (x := gT S.1 (k)) h0 h (by omega) (hv.tick (by omega))) ?_
    refine z_aload_n dX13_isStart_9 rfl ?_
    refine z_iload_n dX13_isStart_10 rfl ?_
    refine z_iconst (v := nI 1) dX13_isStart_11 rfl ?_
    refine z_isub_n (a := k) (b := 1) dX13_isStart_12 (by omega) ?_
    have hle4 := hv.le ((k) - (1))
    refine z_callE (As := [.int (nI ((k) - (1)))]) (rest := [.int (nI (gT S.1 (k)))]) (b := b) (ci := 12) (v := some (.int (nI (gT S.1 ((k) - (1)))))) (R2 := zR 0 0) dX13_isStart_13 kV_RX13_65 rfl ⟨⟨by decide, by decide⟩, by decide, by decide⟩ (by omega) h.ce rfl rfl rfl (Nat.le_of_ble_eq_true rfl) rfl (c_X13_level (t := (k) - (1)) (x := gT S.1 ((k) - (1))) h0 h (by omega) (hv.tick (by omega))) ?_
    refine z_icmp_eq_n (a := gT S.1 (k)) (b := gT S.1 ((k) - (1))) (tgt := 23) dX13_isStart_16 (by decide) (by omega) (by omega) (fun h_16_6 => ?_) (fun h_16_6 => ?_)
    · refine z_iconst (v := nI 0) dX13_isStart_23 rfl ?_
      refine z_zret (ty := .boolean) dX13_isStart_24 rfl (by decide) (by decide) rfl ?_
      first | exact ⟨rfl, rfl⟩ | (exfalso; omega)
    · refine z_iconst (v := nI 1) dX13_isStart_19 rfl ?_
      refine z_goto (tgt := 24) dX13_isStart_20 (by decide) ?_
      refine z_zret (ty := .boolean) dX13_isStart_24 rfl (by decide) (by decide) rfl ?_
      first | exact ⟨rfl, rfl⟩ | (exfalso; omega)
set_option maxRecDepth 100000 in
set_option maxHeartbeats 4000000 in
theorem c_X13_isRestStart_y {g : zGT} {w : zW} {b : Nat} {th ch ea fa sv tn po en ln kn wr dg : Int32} {fv fb fs fp fh ft fl fi : Nat → Int32} {S : zSt} {k : Nat} (h0 : zG0 g) (h : Mx g w b th ch ea fa sv tn po en ln kn wr dg fv fb fs fp fh ft fl fi) (hv : VS fv S) (hk : k < 200) (e : rsB (gT S.1) k = true) : zCt g mX13_isRestStart (zR 2 0) [.ref (za g b), .int (nI (k))] w (fun o w' => o = .inl (some (.int (nI 1))) ∧ w' = w) := by
  have hb := h.1
  have hl := hv.len
  have q9 : stB (gT S.1) k = true ∧ gT S.1 k = 0 := by unfold rsB at e; simpa using e
  refine zCt_of (by decide +kernel) h0 [(0, .ref (za g b)), (1, .int (nI (k)))] rfl (Nat.le_of_ble_eq_true rfl) ?_
  refine z_aload_n dX13_isRestStart_0 rfl ?_
  refine z_iload_n dX13_isRestStart_1 rfl ?_
  by_cases hc1 : stB (gT S.1) (k) = true
  · refine z_callE (As := [.int (nI (k))]) (rest := []) (b := b) (ci := 12) (v := some (.int (nI (1)))) (R2 := zR 1 0) dX13_isRestStart_2 kV_RX13_128 rfl ⟨⟨by decide, by decide⟩, by decide, by decide⟩ (by omega) h.ce rfl rfl rfl (Nat.le_of_ble_eq_true rfl) rfl (c_X13_isStart_y (k := k) h0 h hv (by omega) hc1) ?_
    refine z_if_eq_n (a := 1) (tgt := 20) dX13_isRestStart_5 (by decide) (by omega) (fun h_5_3 => ?_) (fun h_5_3 => ?_)
    · exact absurd h_5_3 (by decide)
    · refine z_aload_n dX13_isRestStart_8 rfl ?_
      refine z_iload_n dX13_isRestStart_9 rfl ?_
      have hle4 := hv.le (k)
      refine z_callE (As := [.int (nI (k))]) (rest := []) (b := b) (ci := 12) (v := some (.int (nI (gT S.1 (k))))) (R2 := zR 0 0) dX13_isRestStart_10 kV_RX13_65 rfl ⟨⟨by decide, by decide⟩, by decide, by decide⟩ (by omega) h.ce rfl rfl rfl (Nat.le_of_ble_eq_true rfl) rfl (c_X13_level (t := k) (x := gT S.1 (k)) h0 h (by omega) (hv.tick (by omega))) ?_
      refine z_if_ne_n (a := gT S.1 (k)) (tgt := 20) dX13_isRestStart_13 (by decide) (by omega) (fun h_13_6 => ?_) (fun h_13_6 => ?_)
      · refine z_iconst (v := nI 0) dX13_isRestStart_20 rfl ?_
        refine z_zret (ty := .boolean) dX13_isRestStart_21 rfl (by decide) (by decide) rfl ?_
        first | exact ⟨rfl, rfl⟩ | (exfalso; exact absurd q9.1 (by assumption)) | (exfalso; have := q9.2; omega)
      · refine z_iconst (v := nI 1) dX13_isRestStart_16 rfl ?_
        refine z_goto (tgt := 21) dX13_isRestStart_17 (by decide) ?_
        refine z_zret (ty := .boolean) dX13_isRestStart_21 rfl (by decide) (by decide) rfl ?_
        first | exact ⟨rfl, rfl⟩ | (exfalso; exact absurd q9.1 (by assumption)) | (exfalso; have := q9.2; omega)
  · refine z_callE (As := [.int (nI (k))]) (rest := []) (b := b) (ci := 12) (v := some (.int (nI (0)))) (R2 := zR 1 0) dX13_isRestStart_2 kV_RX13_128 rfl ⟨⟨by decide, by decide⟩, by decide, by decide⟩ (by omega) h.ce rfl rfl rfl (Nat.le_of_ble_eq_true rfl) rfl (c_X13_isStart_n (k := k) h0 h hv (by omega) hc1) ?_
    refine z_if_eq_n (a := 0) (tgt := 20) dX13_isRestStart_5 (by decide) (by omega) (fun h_5_8 => ?_) (fun h_5_8 => ?_)
    · refine z_iconst (v := nI 0) dX13_isRestStart_20 rfl ?_
      refine z_zret (ty := .boolean) dX13_isRestStart_21 rfl (by decide) (by decide) rfl ?_
      first | exact ⟨rfl, rfl⟩ | (exfalso; exact absurd q9.1 (by assumption)) | (exfalso; have := q9.2; omega)
    · exact absurd h_5_8 (by decide)
set_option maxRecDepth 100000 in
set_option maxHeartbeats 4000000 in
theorem c_X13_isRestStart_n {g : zGT} {w : zW} {b : Nat} {th ch ea fa sv tn po en ln kn wr dg : Int32} {fv fb fs fp fh ft fl fi : Nat → Int32} {S : zSt} {k : Nat} (h0 : zG0 g) (h : Mx g w b th ch ea fa sv tn po en ln kn wr dg fv fb fs fp fh ft fl fi) (hv : VS fv S) (hk : k < 200) (e : ¬ (rsB (gT S.1) k = true)) : zCt g mX13_isRestStart (zR 2 0) [.ref (za g b), .int (nI (k))] w (fun o w' => o = .inl (some (.int (nI 0))) ∧ w' = w) := by
  have hb := h.1
  have hl := hv.len
  have q9 : ¬ (stB (gT S.1) k = true ∧ gT S.1 k = 0) := fun z => e (by unfold rsB; simpa using z)
  refine zCt_of (by decide +kernel) h0 [(0, .ref (za g b)), (1, .int (nI (k)))] rfl (Nat.le_of_ble_eq_true rfl) ?_
  refine z_aload_n dX13_isRestStart_0 rfl ?_
  refine z_iload_n dX13_isRestStart_1 rfl ?_
  by_cases hc1 : stB (gT S.1) (k) = true
  · refine z_callE (As := [.int (nI (k))]) (rest := []) (b := b) (ci := 12) (v := some (.int (nI (1)))) (R2 := zR 1 0) dX13_isRestStart_2 kV_RX13_128 rfl ⟨⟨by decide, by decide⟩, by decide, by decide⟩ (by omega) h.ce rfl rfl rfl (Nat.le_of_ble_eq_true rfl) rfl (c_X13_isStart_y (k := k) h0 h hv (by omega) hc1) ?_
    refine z_if_eq_n (a := 1) (tgt := 20) dX13_isRestStart_5 (by decide) (by omega) (fun h_5_3 => ?_) (fun h_5_3 => ?_)
    · exact absurd h_5_3 (by decide)
    · refine z_aload_n dX13_isRestStart_8 rfl ?_
      refine z_iload_n dX13_isRestStart_9 rfl ?_
      have hle4 := hv.le (k)
      refine z_callE (As := [.int (nI (k))]) (rest := []) (b := b) (ci := 12) (v := some (.int (nI (gT S.1 (k))))) (R2 := zR 0 0) dX13_isRestStart_10 kV_RX13_65 rfl ⟨⟨by decide, by decide⟩, by decide, by decide⟩ (by omega) h.ce rfl rfl rfl (Nat.le_of_ble_eq_true rfl) rfl (c_X13_level (t := k) (x := gT S.1 (k)) h0 h (by omega) (hv.tick (by omega))) ?_
      refine z_if_ne_n (a := gT S.1 (k)) (tgt := 20) dX13_isRestStart_13 (by decide) (by omega) (fun h_13_6 => ?_) (fun h_13_6 => ?_)
      · refine z_iconst (v := nI 0) dX13_isRestStart_20 rfl ?_
        refine z_zret (ty := .boolean) dX13_isRestStart_21 rfl (by decide) (by decide) rfl ?_
        first | exact ⟨rfl, rfl⟩ | exact absurd ⟨by assumption, by omega⟩ q9
      · refine z_iconst (v := nI 1) dX13_isRestStart_16 rfl ?_
        refine z_goto (tgt := 21) dX13_isRestStart_17 (by decide) ?_
        refine z_zret (ty := .boolean) dX13_isRestStart_21 rfl (by decide) (by decide) rfl ?_
        first | exact ⟨rfl, rfl⟩ | exact absurd ⟨by assumption, by omega⟩ q9
  · refine z_callE (As := [.int (nI (k))]) (rest := []) (b := b) (ci := 12) (v := some (.int (nI (0)))) (R2 := zR 1 0) dX13_isRestStart_2 kV_RX13_128 rfl ⟨⟨by decide, by decide⟩, by decide, by decide⟩ (by omega) h.ce rfl rfl rfl (Nat.le_of_ble_eq_true rfl) rfl (c_X13_isStart_n (k := k) h0 h hv (by omega) hc1) ?_
    refine z_if_eq_n (a := 0) (tgt := 20) dX13_isRestStart_5 (by decide) (by omega) (fun h_5_8 => ?_) (fun h_5_8 => ?_)
    · refine z_iconst (v := nI 0) dX13_isRestStart_20 rfl ?_
      refine z_zret (ty := .boolean) dX13_isRestStart_21 rfl (by decide) (by decide) rfl ?_
      first | exact ⟨rfl, rfl⟩ | exact absurd ⟨by assumption, by omega⟩ q9
    · exact absurd h_5_8 (by decide)
set_option maxRecDepth 100000 in
set_option maxHeartbeats 4000000 in
theorem c_X13_runs {g : zGT} {w : zW} {b : Nat} {th ch ea fa sv tn po en ln kn wr dg : Int32} {fv fb fs fp fh ft fl fi : Nat → Int32} {S : zSt}  (h0 : zG0 g) (h : Mx g w b th ch ea fa sv tn po en ln kn wr dg fv fb fs fp fh ft fl fi) (hv : VS fv S) : zCt g mX13_runs (zR 3 0) [.ref (za g b)] w (fun o w' => o = .inl (some (.int (nI (cS (gT S.1) S.1.length)))) ∧ w' = w) := by
  have hb := h.1
  have hl := hv.len
  refine zCt_of (by decide +kernel) h0 [(0, .ref (za g b))] rfl (Nat.le_of_ble_eq_true rfl) ?_
  have loop : ∀ (mm : Nat) (i : Nat), S.1.length + 1 - i < mm → (i ≤ S.1.length) → zTr g mX13_runs (zR 3 0) 0 0 4 [(0, .ref (za g b)), (1, .int (nI (cS (gT S.1) i))), (2, .int (nI (i)))] [] w (fun o w' => o = .inl (some (.int (nI (cS (gT S.1) S.1.length)))) ∧ w' = w) := by
    intro mm
    induction mm with
    | zero => intros; omega
    | succ mm ih =>
      intro i hm hin
      have hcl : cS (gT S.1) i ≤ i := by unfold cS; exact zcnt_le i
      refine z_iload_n dX13_runs_4 rfl ?_
      refine z_aload_n dX13_runs_5 rfl ?_
      refine z_getf (j := b) dX13_runs_6 kF_RX13_16 rfl (by omega) h.ce rfl ?_
      refine z_iconst (v := nI 0) dX13_runs_9 rfl ?_
      refine z_iald_v (j := b + 1) (N := 410) (a := 0) (x := S.1.length) (f := fv) dX13_runs_10 (by omega) h.r1 (by omega) (by omega) (hv.dur) ?_
      refine z_icmp_ge_n (a := i) (b := S.1.length) (tgt := 36) dX13_runs_11 (by decide) (by omega) (by omega) (fun h_11_1 => ?_) (fun h_11_1 => ?_)
      · refine z_iload_n dX13_runs_36 rfl ?_
        refine z_iret dX13_runs_37 rfl (by decide) (by decide) ?_
        have hi9 : i = S.1.length := by omega
        subst hi9
        exact ⟨rfl, rfl⟩
      · refine z_iload_n dX13_runs_14 rfl ?_
        refine z_aload_n dX13_runs_15 rfl ?_
        refine z_iload_n dX13_runs_16 rfl ?_
        by_cases hc2 : stB (gT S.1) (i) = true
        · refine z_callE (As := [.int (nI (i))]) (rest := [.int (nI (cS (gT S.1) i))]) (b := b) (ci := 12) (v := some (.int (nI (1)))) (R2 := zR 1 0) dX13_runs_17 kV_RX13_128 rfl ⟨⟨by decide, by decide⟩, by decide, by decide⟩ (by omega) h.ce rfl rfl rfl (Nat.le_of_ble_eq_true rfl) rfl (c_X13_isStart_y (k := i) h0 h hv (by omega) hc2) ?_
          refine z_if_eq_n (a := 1) (tgt := 27) dX13_runs_20 (by decide) (by omega) (fun h_20_4 => ?_) (fun h_20_4 => ?_)
          · exact absurd h_20_4 (by decide)
          · refine z_iconst (v := nI 1) dX13_runs_23 rfl ?_
            refine z_goto (tgt := 28) dX13_runs_24 (by decide) ?_
            refine z_iadd_n (a := cS (gT S.1) i) (b := 1) dX13_runs_28 ?_
            refine z_istore_n (lv' := [(0, .ref (za g b)), (1, .int (nI ((cS (gT S.1) i) + (1)))), (2, .int (nI (i)))]) dX13_runs_29 (by decide) rfl ?_
            refine z_iinc_n (n := 1) (a := i) (lv' := [(0, .ref (za g b)), (1, .int (nI ((cS (gT S.1) i) + (1)))), (2, .int (nI (i + 1)))]) dX13_runs_30 rfl (by decide) rfl ?_
            refine z_goto (tgt := 4) dX13_runs_33 (by decide) ?_
            have q8 := cS_s (T := (gT S.1)) (k := i)
            rw [if_pos hc2] at q8
            refine z_eq (lv' := [(0, .ref (za g b)), (1, .int (nI (cS (gT S.1) (i + 1)))), (2, .int (nI (i + 1)))]) rfl rfl (by rw [q8]) ?_
            exact ih (i + 1) (by omega) (by omega)
        · refine z_callE (As := [.int (nI (i))]) (rest := [.int (nI (cS (gT S.1) i))]) (b := b) (ci := 12) (v := some (.int (nI (0)))) (R2 := zR 1 0) dX13_runs_17 kV_RX13_128 rfl ⟨⟨by decide, by decide⟩, by decide, by decide⟩ (by omega) h.ce rfl rfl rfl (Nat.le_of_ble_eq_true rfl) rfl (c_X13_isStart_n (k := i) h0 h hv (by omega) hc2) ?_
          refine z_if_eq_n (a := 0) (tgt := 27) dX13_runs_20 (by decide) (by omega) (fun h_20_6 => ?_) (fun h_20_6 => ?_)
          · refine z_iconst (v := nI 0) dX13_runs_27 rfl ?_
            refine z_iadd_n (a := cS (gT S.1) i) (b := 0) dX13_runs_28 ?_
            refine z_istore_n (lv' := [(0, .ref (za g b)), (1, .int (nI ((cS (gT S.1) i) + (0)))), (2, .int (nI (i)))]) dX13_runs_29 (by decide) rfl ?_
            refine z_iinc_n (n := 1) (a := i) (lv' := [(0, .ref (za g b)), (1, .int (nI ((cS (gT S.1) i) + (0)))), (2, .int (nI (i + 1)))]) dX13_runs_30 rfl (by decide) rfl ?_
            refine z_goto (tgt := 4) dX13_runs_33 (by decide) ?_
            have q8 := cS_s (T := (gT S.1)) (k := i)
            rw [if_neg hc2] at q8
            refine z_eq (lv' := [(0, .ref (za g b)), (1, .int (nI (cS (gT S.1) (i + 1)))), (2, .int (nI (i + 1)))]) rfl rfl (by rw [q8]) ?_
            exact ih (i + 1) (by omega) (by omega)
          · exact absurd h_20_6 (by decide)
  refine z_iconst (v := nI 0) dX13_runs_0 rfl ?_
  refine z_istore_n (lv' := [(0, .ref (za g b)), (1, .int (nI (0)))]) dX13_runs_1 (by decide) rfl ?_
  refine z_iconst (v := nI 0) dX13_runs_2 rfl ?_
  refine z_istore_n (lv' := [(0, .ref (za g b)), (1, .int (nI (0))), (2, .int (nI (0)))]) dX13_runs_3 (by decide) rfl ?_
  exact loop (S.1.length + 2) 0 (by omega) (Nat.zero_le _)
set_option maxRecDepth 100000 in
set_option maxHeartbeats 4000000 in
theorem c_X13_lengthFrom {g : zGT} {w : zW} {b : Nat} {th ch ea fa sv tn po en ln kn wr dg : Int32} {fv fb fs fp fh ft fl fi : Nat → Int32} {S : zSt} {k : Nat} (h0 : zG0 g) (h : Mx g w b th ch ea fa sv tn po en ln kn wr dg fv fb fs fp fh ft fl fi) (hv : VS fv S) (hk : k < S.1.length) : zCt g mX13_lengthFrom (zR 3 0) [.ref (za g b), .int (nI (k))] w (fun o w' => o = .inl (some (.int (nI (lenF (gT S.1) S.1.length k)))) ∧ w' = w) := by
  have hb := h.1
  have hl := hv.len
  refine zCt_of (by decide +kernel) h0 [(0, .ref (za g b)), (1, .int (nI (k)))] rfl (Nat.le_of_ble_eq_true rfl) ?_
  have loop : ∀ (mm : Nat) (m : Nat), S.1.length + 1 - m < mm → (1 ≤ m) → (k + m ≤ S.1.length) → (∀ j, k < j → j < k + m → stB (gT S.1) j = false) → zTr g mX13_lengthFrom (zR 3 0) 0 0 2 [(0, .ref (za g b)), (1, .int (nI (k))), (2, .int (nI (m)))] [] w (fun o w' => o = .inl (some (.int (nI (lenF (gT S.1) S.1.length k)))) ∧ w' = w) := by
    intro mm
    induction mm with
    | zero => intros; omega
    | succ mm ih =>
      intro m hm hm1 hkm hno
      refine z_iload_n dX13_lengthFrom_2 rfl ?_
      refine z_iload_n dX13_lengthFrom_3 rfl ?_
      refine z_iadd_n (a := k) (b := m) dX13_lengthFrom_4 ?_
      refine z_aload_n dX13_lengthFrom_5 rfl ?_
      refine z_getf (j := b) dX13_lengthFrom_6 kF_RX13_16 rfl (by omega) h.ce rfl ?_
      refine z_iconst (v := nI 0) dX13_lengthFrom_9 rfl ?_
      refine z_iald_v (j := b + 1) (N := 410) (a := 0) (x := S.1.length) (f := fv) dX13_lengthFrom_10 (by omega) h.r1 (by omega) (by omega) (hv.dur) ?_
      refine z_icmp_ge_n (a := (k) + (m)) (b := S.1.length) (tgt := 30) dX13_lengthFrom_11 (by decide) (by omega) (by omega) (fun h_11_1 => ?_) (fun h_11_1 => ?_)
      · refine z_iload_n dX13_lengthFrom_30 rfl ?_
        refine z_iret dX13_lengthFrom_31 rfl (by decide) (by decide) ?_
        rw [lenF_of (T := (gT S.1)) (n := S.1.length) (k := k) (m := m) (by omega) hkm hno (Or.inl (by omega))]
        exact ⟨rfl, rfl⟩
      · refine z_aload_n dX13_lengthFrom_14 rfl ?_
        refine z_iload_n dX13_lengthFrom_15 rfl ?_
        refine z_iload_n dX13_lengthFrom_16 rfl ?_
        refine z_iadd_n (a := k) (b := m) dX13_lengthFrom_17 ?_
        by_cases hc2 : stB (gT S.1) ((k) + (m)) = true
        · refine z_callE (As := [.int (nI ((k) + (m)))]) (rest := []) (b := b) (ci := 12) (v := some (.int (nI (1)))) (R2 := zR 1 0) dX13_lengthFrom_18 kV_RX13_128 rfl ⟨⟨by decide, by decide⟩, by decide, by decide⟩ (by omega) h.ce rfl rfl rfl (Nat.le_of_ble_eq_true rfl) rfl (c_X13_isStart_y (k := (k) + (m)) h0 h hv (by omega) hc2) ?_
          refine z_if_ne_n (a := 1) (tgt := 30) dX13_lengthFrom_21 (by decide) (by omega) (fun h_21_4 => ?_) (fun h_21_4 => ?_)
          · refine z_iload_n dX13_lengthFrom_30 rfl ?_
            refine z_iret dX13_lengthFrom_31 rfl (by decide) (by decide) ?_
            rw [lenF_of (T := (gT S.1)) (n := S.1.length) (k := k) (m := m) (by omega) hkm hno (Or.inr hc2)]
            exact ⟨rfl, rfl⟩
          · exact absurd h_21_4 (by decide)
        · refine z_callE (As := [.int (nI ((k) + (m)))]) (rest := []) (b := b) (ci := 12) (v := some (.int (nI (0)))) (R2 := zR 1 0) dX13_lengthFrom_18 kV_RX13_128 rfl ⟨⟨by decide, by decide⟩, by decide, by decide⟩ (by omega) h.ce rfl rfl rfl (Nat.le_of_ble_eq_true rfl) rfl (c_X13_isStart_n (k := (k) + (m)) h0 h hv (by omega) hc2) ?_
          refine z_if_ne_n (a := 0) (tgt := 30) dX13_lengthFrom_21 (by decide) (by omega) (fun h_21_6 => ?_) (fun h_21_6 => ?_)
          · exact absurd h_21_6 (by decide)
          · refine z_iinc_n (n := 1) (a := m) (lv' := [(0, .ref (za g b)), (1, .int (nI (k))), (2, .int (nI (m + 1)))]) dX13_lengthFrom_24 rfl (by decide) rfl ?_
            refine z_goto (tgt := 2) dX13_lengthFrom_27 (by decide) ?_
            refine ih (m + 1) (by omega) (by omega) (by omega) (fun j h8 h9 => ?_)
            by_cases c : j < k + m
            · exact hno j h8 c
            · rw [show j = k + m by omega]; exact Bool.eq_false_iff.mpr hc2
  refine z_iconst (v := nI 1) dX13_lengthFrom_0 rfl ?_
  refine z_istore_n (lv' := [(0, .ref (za g b)), (1, .int (nI (k))), (2, .int (nI (1)))]) dX13_lengthFrom_1 (by decide) rfl ?_
  exact loop (S.1.length + 2) 1 (by omega) (by omega) (by omega) (fun j h8 h9 => by omega)
theorem lenF_le {T : Nat → Nat} {n k : Nat} : lenF T n k ≤ n := by
  unfold lenF nd
  have := fidx_rng (fun j => decide (k < j) && stB T j) n
  split <;> omega
set_option maxRecDepth 100000 in
set_option maxHeartbeats 4000000 in
theorem c_X13_ticksOf {g : zGT} {w : zW} {b : Nat} {th ch ea fa sv tn po en ln kn wr dg : Int32} {fv fb fs fp fh ft fl fi : Nat → Int32} {S : zSt} {c : Nat} (h0 : zG0 g) (h : Mx g w b th ch ea fa sv tn po en ln kn wr dg fv fb fs fp fh ft fl fi) (hv : VS fv S) (hc : c < 100) : zCt g mX13_ticksOf (zR 3 0) [.ref (za g b), .int (nI (c))] w (fun o w' => o = .inl (some (.int (nI (zcnt (fun k => decide (gT S.1 k = c)) 0 S.1.length)))) ∧ w' = w) := by
  have hb := h.1
  have hl := hv.len
  refine zCt_of (by decide +kernel) h0 [(0, .ref (za g b)), (1, .int (nI (c)))] rfl (Nat.le_of_ble_eq_true rfl) ?_
  have loop : ∀ (mm : Nat) (i : Nat), S.1.length + 1 - i < mm → (i ≤ S.1.length) → zTr g mX13_ticksOf (zR 3 0) 0 0 4 [(0, .ref (za g b)), (1, .int (nI (c))), (2, .int (nI (zcnt (fun k => decide (gT S.1 k = c)) 0 i))), (3, .int (nI (i)))] [] w (fun o w' => o = .inl (some (.int (nI (zcnt (fun k => decide (gT S.1 k = c)) 0 S.1.length)))) ∧ w' = w) := by
    intro mm
    induction mm with
    | zero => intros; omega
    | succ mm ih =>
      intro i hm hin
      have hcl := zcnt_le (P := fun k => decide (gT S.1 k = c)) (p := 0) i
      refine z_iload_n dX13_ticksOf_4 rfl ?_
      refine z_aload_n dX13_ticksOf_5 rfl ?_
      refine z_getf (j := b) dX13_ticksOf_6 kF_RX13_16 rfl (by omega) h.ce rfl ?_
      refine z_iconst (v := nI 0) dX13_ticksOf_9 rfl ?_
      refine z_iald_v (j := b + 1) (N := 410) (a := 0) (x := S.1.length) (f := fv) dX13_ticksOf_10 (by omega) h.r1 (by omega) (by omega) (hv.dur) ?_
      refine z_icmp_ge_n (a := i) (b := S.1.length) (tgt := 37) dX13_ticksOf_11 (by decide) (by omega) (by omega) (fun h_11_1 => ?_) (fun h_11_1 => ?_)
      · refine z_iload_n dX13_ticksOf_37 rfl ?_
        refine z_iret dX13_ticksOf_38 rfl (by decide) (by decide) ?_
        have hi9 : i = S.1.length := by omega
        subst hi9
        exact ⟨rfl, rfl⟩
      · refine z_iload_n dX13_ticksOf_14 rfl ?_
        refine z_aload_n dX13_ticksOf_15 rfl ?_
        refine z_iload_n dX13_ticksOf_16 rfl ?_
        have hle2 := hv.le (i)
        refine z_callE (As := [.int (nI (i))]) (rest := [.int (nI (zcnt (fun k => decide (gT S.1 k = c)) 0 i))]) (b := b) (ci := 12) (v := some (.int (nI (gT S.1 (i))))) (R2 := zR 0 0) dX13_ticksOf_17 kV_RX13_65 rfl ⟨⟨by decide, by decide⟩, by decide, by decide⟩ (by omega) h.ce rfl rfl rfl (Nat.le_of_ble_eq_true rfl) rfl (c_X13_level (t := i) (x := gT S.1 (i)) h0 h (by omega) (hv.tick (by omega))) ?_
        refine z_iload_n dX13_ticksOf_20 rfl ?_
        have hle9 := hv.le i
        refine z_icmp_ne_n (a := gT S.1 (i)) (b := c) (tgt := 28) dX13_ticksOf_21 (by decide) (by omega) (by omega) (fun h_21_4 => ?_) (fun h_21_4 => ?_)
        · refine z_iconst (v := nI 0) dX13_ticksOf_28 rfl ?_
          refine z_iadd_n (a := zcnt (fun k => decide (gT S.1 k = c)) 0 i) (b := 0) dX13_ticksOf_29 ?_
          refine z_istore_n (lv' := [(0, .ref (za g b)), (1, .int (nI (c))), (2, .int (nI ((zcnt (fun k => decide (gT S.1 k = c)) 0 i) + (0)))), (3, .int (nI (i)))]) dX13_ticksOf_30 (by decide) rfl ?_
          refine z_iinc_n (n := 1) (a := i) (lv' := [(0, .ref (za g b)), (1, .int (nI (c))), (2, .int (nI ((zcnt (fun k => decide (gT S.1 k = c)) 0 i) + (0)))), (3, .int (nI (i + 1)))]) dX13_ticksOf_31 rfl (by decide) rfl ?_
          refine z_goto (tgt := 4) dX13_ticksOf_34 (by decide) ?_
          have q8 := zcnt_s (P := fun k => decide (gT S.1 k = c)) (p := 0) (i := i) (Nat.zero_le _)
          simp only [Nat.sub_zero] at q8
          rw [if_neg (fun z => h_21_4 (of_decide_eq_true z))] at q8
          refine z_eq (lv' := [(0, .ref (za g b)), (1, .int (nI (c))), (2, .int (nI (zcnt (fun k => decide (gT S.1 k = c)) 0 (i + 1)))), (3, .int (nI (i + 1)))]) rfl rfl (by rw [q8]) ?_
          exact ih (i + 1) (by omega) (by omega)
        · refine z_iconst (v := nI 1) dX13_ticksOf_24 rfl ?_
          refine z_goto (tgt := 29) dX13_ticksOf_25 (by decide) ?_
          refine z_iadd_n (a := zcnt (fun k => decide (gT S.1 k = c)) 0 i) (b := 1) dX13_ticksOf_29 ?_
          refine z_istore_n (lv' := [(0, .ref (za g b)), (1, .int (nI (c))), (2, .int (nI ((zcnt (fun k => decide (gT S.1 k = c)) 0 i) + (1)))), (3, .int (nI (i)))]) dX13_ticksOf_30 (by decide) rfl ?_
          refine z_iinc_n (n := 1) (a := i) (lv' := [(0, .ref (za g b)), (1, .int (nI (c))), (2, .int (nI ((zcnt (fun k => decide (gT S.1 k = c)) 0 i) + (1)))), (3, .int (nI (i + 1)))]) dX13_ticksOf_31 rfl (by decide) rfl ?_
          refine z_goto (tgt := 4) dX13_ticksOf_34 (by decide) ?_
          have q8 := zcnt_s (P := fun k => decide (gT S.1 k = c)) (p := 0) (i := i) (Nat.zero_le _)
          simp only [Nat.sub_zero] at q8
          rw [if_pos (decide_eq_true h_21_4)] at q8
          refine z_eq (lv' := [(0, .ref (za g b)), (1, .int (nI (c))), (2, .int (nI (zcnt (fun k => decide (gT S.1 k = c)) 0 (i + 1)))), (3, .int (nI (i + 1)))]) rfl rfl (by rw [q8]) ?_
          exact ih (i + 1) (by omega) (by omega)
  refine z_iconst (v := nI 0) dX13_ticksOf_0 rfl ?_
  refine z_istore_n (lv' := [(0, .ref (za g b)), (1, .int (nI (c))), (2, .int (nI (0)))]) dX13_ticksOf_1 (by decide) rfl ?_
  refine z_iconst (v := nI 0) dX13_ticksOf_2 rfl ?_
  refine z_istore_n (lv' := [(0, .ref (za g b)), (1, .int (nI (c))), (2, .int (nI (0))), (3, .int (nI (0)))]) dX13_ticksOf_3 (by decide) rfl ?_
  exact loop (S.1.length + 2) 0 (by omega) (Nat.zero_le _)
set_option maxRecDepth 100000 in
set_option maxHeartbeats 4000000 in
theorem c_X13_sum {g : zGT} {w : zW} {b : Nat} {th ch ea fa sv tn po en ln kn wr dg : Int32} {fv fb fs fp fh ft fl fi : Nat → Int32} {S : zSt} {p q : Nat} (h0 : zG0 g) (h : Mx g w b th ch ea fa sv tn po en ln kn wr dg fv fb fs fp fh ft fl fi) (hv : VS fv S) (hpq : p ≤ q) (hq : q ≤ 200) : zCt g mX13_sum (zR 3 0) [.ref (za g b), .int (nI (p)), .int (nI (q))] w (fun o w' => o = .inl (some (.int (nI (tsum (gT S.1) p (q - p))))) ∧ w' = w) := by
  have hb := h.1
  have hl := hv.len
  refine zCt_of (by decide +kernel) h0 [(0, .ref (za g b)), (1, .int (nI (p))), (2, .int (nI (q)))] rfl (Nat.le_of_ble_eq_true rfl) ?_
  have loop : ∀ (mm : Nat) (i : Nat), q + 1 - i < mm → (p ≤ i) → (i ≤ q) → zTr g mX13_sum (zR 3 0) 0 0 5 [(0, .ref (za g b)), (1, .int (nI (p))), (2, .int (nI (q))), (3, .int (nI (tsum (gT S.1) p (i - p)))), (4, .int (nI (i)))] [] w (fun o w' => o = .inl (some (.int (nI (tsum (gT S.1) p (q - p))))) ∧ w' = w) := by
    intro mm
    induction mm with
    | zero => intros; omega
    | succ mm ih =>
      intro i hm hpi hiq
      have hsl := tsum_le (F := (gT S.1)) (p := p) (c := 9) (m := i - p) (fun k _ _ => hv.le k)
      refine z_iload dX13_sum_5 rfl ?_
      refine z_iload_n dX13_sum_7 rfl ?_
      refine z_icmp_ge_n (a := i) (b := q) (tgt := 26) dX13_sum_8 (by decide) (by omega) (by omega) (fun h_8_1 => ?_) (fun h_8_1 => ?_)
      · refine z_iload_n dX13_sum_26 rfl ?_
        refine z_iret dX13_sum_27 rfl (by decide) (by decide) ?_
        have hi9 : i = q := by omega
        subst hi9
        exact ⟨rfl, rfl⟩
      · refine z_iload_n dX13_sum_11 rfl ?_
        refine z_aload_n dX13_sum_12 rfl ?_
        refine z_iload dX13_sum_13 rfl ?_
        have hle2 := hv.le (i)
        refine z_callE (As := [.int (nI (i))]) (rest := [.int (nI (tsum (gT S.1) p (i - p)))]) (b := b) (ci := 12) (v := some (.int (nI (gT S.1 (i))))) (R2 := zR 0 0) dX13_sum_15 kV_RX13_65 rfl ⟨⟨by decide, by decide⟩, by decide, by decide⟩ (by omega) h.ce rfl rfl rfl (Nat.le_of_ble_eq_true rfl) rfl (c_X13_level (t := i) (x := gT S.1 (i)) h0 h (by omega) (hv.tick (by omega))) ?_
        have hle9 := hv.le i
        refine z_iadd_n (a := tsum (gT S.1) p (i - p)) (b := gT S.1 (i)) dX13_sum_18 ?_
        refine z_istore_n (lv' := [(0, .ref (za g b)), (1, .int (nI (p))), (2, .int (nI (q))), (3, .int (nI ((tsum (gT S.1) p (i - p)) + (gT S.1 (i))))), (4, .int (nI (i)))]) dX13_sum_19 (by decide) rfl ?_
        refine z_iinc_n (n := 1) (a := i) (lv' := [(0, .ref (za g b)), (1, .int (nI (p))), (2, .int (nI (q))), (3, .int (nI ((tsum (gT S.1) p (i - p)) + (gT S.1 (i))))), (4, .int (nI (i + 1)))]) dX13_sum_20 rfl (by decide) rfl ?_
        refine z_goto (tgt := 5) dX13_sum_23 (by decide) ?_
        have q8 := tsum_s (F := (gT S.1)) hpi
        refine z_eq (lv' := [(0, .ref (za g b)), (1, .int (nI (p))), (2, .int (nI (q))), (3, .int (nI (tsum (gT S.1) p ((i + 1) - p)))), (4, .int (nI (i + 1)))]) rfl rfl (by rw [q8]) ?_
        exact ih (i + 1) (by omega) (by omega) (by omega)
  refine z_iconst (v := nI 0) dX13_sum_0 rfl ?_
  refine z_istore_n (lv' := [(0, .ref (za g b)), (1, .int (nI (p))), (2, .int (nI (q))), (3, .int (nI (0)))]) dX13_sum_1 (by decide) rfl ?_
  refine z_iload_n dX13_sum_2 rfl ?_
  refine z_istore (lv' := [(0, .ref (za g b)), (1, .int (nI (p))), (2, .int (nI (q))), (3, .int (nI (0))), (4, .int (nI (p)))]) dX13_sum_3 (by decide) rfl ?_
  refine z_eq (lv' := [(0, .ref (za g b)), (1, .int (nI (p))), (2, .int (nI (q))), (3, .int (nI (tsum (gT S.1) p (p - p)))), (4, .int (nI (p)))]) rfl rfl (by rw [Nat.sub_self]; rfl) ?_
  exact loop (q + 2) p (by omega) (Nat.le_refl _) hpq
set_option maxRecDepth 100000 in
set_option maxHeartbeats 4000000 in
theorem c_X13_isPeriod_y {g : zGT} {w : zW} {b : Nat} {th ch ea fa sv tn po en ln kn wr dg : Int32} {fv fb fs fp fh ft fl fi : Nat → Int32} {S : zSt} {p : Nat} (h0 : zG0 g) (h : Mx g w b th ch ea fa sv tn po en ln kn wr dg fv fb fs fp fh ft fl fi) (hv : VS fv S) (hp1 : 1 ≤ p) (hpn : p ≤ S.1.length) (e : perOK (gT S.1) S.1.length p) : zCt g mX13_isPeriod (zR 1 0) [.ref (za g b), .int (nI (p))] w (fun o w' => o = .inl (some (.int (nI 1))) ∧ w' = w) := by
  have hb := h.1
  have hl := hv.len
  refine zCt_of (by decide +kernel) h0 [(0, .ref (za g b)), (1, .int (nI (p)))] rfl (Nat.le_of_ble_eq_true rfl) ?_
  have loop : ∀ (mm : Nat) (i : Nat), S.1.length + 1 - i < mm → (i ≤ S.1.length) → zTr g mX13_isPeriod (zR 1 0) 0 0 2 [(0, .ref (za g b)), (1, .int (nI (p))), (2, .int (nI (i)))] [] w (fun o w' => o = .inl (some (.int (nI 1))) ∧ w' = w) := by
    intro mm
    induction mm with
    | zero => intros; omega
    | succ mm ih =>
      intro i hm hin
      refine z_iload_n dX13_isPeriod_2 rfl ?_
      refine z_iload_n dX13_isPeriod_3 rfl ?_
      refine z_iadd_n (a := i) (b := p) dX13_isPeriod_4 ?_
      refine z_aload_n dX13_isPeriod_5 rfl ?_
      refine z_getf (j := b) dX13_isPeriod_6 kF_RX13_16 rfl (by omega) h.ce rfl ?_
      refine z_iconst (v := nI 0) dX13_isPeriod_9 rfl ?_
      refine z_iald_v (j := b + 1) (N := 410) (a := 0) (x := S.1.length) (f := fv) dX13_isPeriod_10 (by omega) h.r1 (by omega) (by omega) (hv.dur) ?_
      refine z_icmp_ge_n (a := (i) + (p)) (b := S.1.length) (tgt := 37) dX13_isPeriod_11 (by decide) (by omega) (by omega) (fun h_11_1 => ?_) (fun h_11_1 => ?_)
      · refine z_iconst (v := nI 1) dX13_isPeriod_37 rfl ?_
        refine z_zret (ty := .boolean) dX13_isPeriod_38 rfl (by decide) (by decide) rfl ?_
        first | exact ⟨rfl, rfl⟩ | (exfalso; have q9 := e i (by omega); rw [Nat.add_comm p i] at q9; omega)
      · refine z_aload_n dX13_isPeriod_14 rfl ?_
        refine z_iload_n dX13_isPeriod_15 rfl ?_
        have hle2 := hv.le (i)
        refine z_callE (As := [.int (nI (i))]) (rest := []) (b := b) (ci := 12) (v := some (.int (nI (gT S.1 (i))))) (R2 := zR 0 0) dX13_isPeriod_16 kV_RX13_65 rfl ⟨⟨by decide, by decide⟩, by decide, by decide⟩ (by omega) h.ce rfl rfl rfl (Nat.le_of_ble_eq_true rfl) rfl (c_X13_level (t := i) (x := gT S.1 (i)) h0 h (by omega) (hv.tick (by omega))) ?_
        refine z_aload_n dX13_isPeriod_19 rfl ?_
        refine z_iload_n dX13_isPeriod_20 rfl ?_
        refine z_iload_n dX13_isPeriod_21 rfl ?_
        refine z_iadd_n (a := i) (b := p) dX13_isPeriod_22 ?_
        have hle4 := hv.le ((i) + (p))
        refine z_callE (As := [.int (nI ((i) + (p)))]) (rest := [.int (nI (gT S.1 (i)))]) (b := b) (ci := 12) (v := some (.int (nI (gT S.1 ((i) + (p)))))) (R2 := zR 0 0) dX13_isPeriod_23 kV_RX13_65 rfl ⟨⟨by decide, by decide⟩, by decide, by decide⟩ (by omega) h.ce rfl rfl rfl (Nat.le_of_ble_eq_true rfl) rfl (c_X13_level (t := (i) + (p)) (x := gT S.1 ((i) + (p))) h0 h (by omega) (hv.tick (by omega))) ?_
        refine z_icmp_eq_n (a := gT S.1 (i)) (b := gT S.1 ((i) + (p))) (tgt := 31) dX13_isPeriod_26 (by decide) (by omega) (by omega) (fun h_26_6 => ?_) (fun h_26_6 => ?_)
        · refine z_iinc_n (n := 1) (a := i) (lv' := [(0, .ref (za g b)), (1, .int (nI (p))), (2, .int (nI (i + 1)))]) dX13_isPeriod_31 rfl (by decide) rfl ?_
          refine z_goto (tgt := 2) dX13_isPeriod_34 (by decide) ?_
          exact ih (i + 1) (by omega) (by omega)
        · refine z_iconst (v := nI 0) dX13_isPeriod_29 rfl ?_
          refine z_zret (ty := .boolean) dX13_isPeriod_30 rfl (by decide) (by decide) rfl ?_
          first | exact ⟨rfl, rfl⟩ | (exfalso; have q9 := e i (by omega); rw [Nat.add_comm p i] at q9; omega)
  refine z_iconst (v := nI 0) dX13_isPeriod_0 rfl ?_
  refine z_istore_n (lv' := [(0, .ref (za g b)), (1, .int (nI (p))), (2, .int (nI (0)))]) dX13_isPeriod_1 (by decide) rfl ?_
  exact loop (S.1.length + 2) 0 (by omega) (by omega)
set_option maxRecDepth 100000 in
set_option maxHeartbeats 4000000 in
theorem c_X13_isPeriod_n {g : zGT} {w : zW} {b : Nat} {th ch ea fa sv tn po en ln kn wr dg : Int32} {fv fb fs fp fh ft fl fi : Nat → Int32} {S : zSt} {p : Nat} (h0 : zG0 g) (h : Mx g w b th ch ea fa sv tn po en ln kn wr dg fv fb fs fp fh ft fl fi) (hv : VS fv S) (hp1 : 1 ≤ p) (hpn : p ≤ S.1.length) (e : ¬ (perOK (gT S.1) S.1.length p)) : zCt g mX13_isPeriod (zR 1 0) [.ref (za g b), .int (nI (p))] w (fun o w' => o = .inl (some (.int (nI 0))) ∧ w' = w) := by
  have hb := h.1
  have hl := hv.len
  refine zCt_of (by decide +kernel) h0 [(0, .ref (za g b)), (1, .int (nI (p)))] rfl (Nat.le_of_ble_eq_true rfl) ?_
  have loop : ∀ (mm : Nat) (i : Nat), S.1.length + 1 - i < mm → (i ≤ S.1.length) → (∀ j, j < i → (gT S.1) j = (gT S.1) (p + j)) → zTr g mX13_isPeriod (zR 1 0) 0 0 2 [(0, .ref (za g b)), (1, .int (nI (p))), (2, .int (nI (i)))] [] w (fun o w' => o = .inl (some (.int (nI 0))) ∧ w' = w) := by
    intro mm
    induction mm with
    | zero => intros; omega
    | succ mm ih =>
      intro i hm hin hno
      refine z_iload_n dX13_isPeriod_2 rfl ?_
      refine z_iload_n dX13_isPeriod_3 rfl ?_
      refine z_iadd_n (a := i) (b := p) dX13_isPeriod_4 ?_
      refine z_aload_n dX13_isPeriod_5 rfl ?_
      refine z_getf (j := b) dX13_isPeriod_6 kF_RX13_16 rfl (by omega) h.ce rfl ?_
      refine z_iconst (v := nI 0) dX13_isPeriod_9 rfl ?_
      refine z_iald_v (j := b + 1) (N := 410) (a := 0) (x := S.1.length) (f := fv) dX13_isPeriod_10 (by omega) h.r1 (by omega) (by omega) (hv.dur) ?_
      refine z_icmp_ge_n (a := (i) + (p)) (b := S.1.length) (tgt := 37) dX13_isPeriod_11 (by decide) (by omega) (by omega) (fun h_11_1 => ?_) (fun h_11_1 => ?_)
      · refine z_iconst (v := nI 1) dX13_isPeriod_37 rfl ?_
        refine z_zret (ty := .boolean) dX13_isPeriod_38 rfl (by decide) (by decide) rfl ?_
        first | exact ⟨rfl, rfl⟩ | exact absurd (fun j h9 => hno j (by omega)) e
      · refine z_aload_n dX13_isPeriod_14 rfl ?_
        refine z_iload_n dX13_isPeriod_15 rfl ?_
        have hle2 := hv.le (i)
        refine z_callE (As := [.int (nI (i))]) (rest := []) (b := b) (ci := 12) (v := some (.int (nI (gT S.1 (i))))) (R2 := zR 0 0) dX13_isPeriod_16 kV_RX13_65 rfl ⟨⟨by decide, by decide⟩, by decide, by decide⟩ (by omega) h.ce rfl rfl rfl (Nat.le_of_ble_eq_true rfl) rfl (c_X13_level (t := i) (x := gT S.1 (i)) h0 h (by omega) (hv.tick (by omega))) ?_
        refine z_aload_n dX13_isPeriod_19 rfl ?_
        refine z_iload_n dX13_isPeriod_20 rfl ?_
        refine z_iload_n dX13_isPeriod_21 rfl ?_
        refine z_iadd_n (a := i) (b := p) dX13_isPeriod_22 ?_
        have hle4 := hv.le ((i) + (p))
        refine z_callE (As := [.int (nI ((i) + (p)))]) (rest := [.int (nI (gT S.1 (i)))]) (b := b) (ci := 12) (v := some (.int (nI (gT S.1 ((i) + (p)))))) (R2 := zR 0 0) dX13_isPeriod_23 kV_RX13_65 rfl ⟨⟨by decide, by decide⟩, by decide, by decide⟩ (by omega) h.ce rfl rfl rfl (Nat.le_of_ble_eq_true rfl) rfl (c_X13_level (t := (i) + (p)) (x := gT S.1 ((i) + (p))) h0 h (by omega) (hv.tick (by omega))) ?_
        refine z_icmp_eq_n (a := gT S.1 (i)) (b := gT S.1 ((i) + (p))) (tgt := 31) dX13_isPeriod_26 (by decide) (by omega) (by omega) (fun h_26_6 => ?_) (fun h_26_6 => ?_)
        · refine z_iinc_n (n := 1) (a := i) (lv' := [(0, .ref (za g b)), (1, .int (nI (p))), (2, .int (nI (i + 1)))]) dX13_isPeriod_31 rfl (by decide) rfl ?_
          refine z_goto (tgt := 2) dX13_isPeriod_34 (by decide) ?_
          refine ih (i + 1) (by omega) (by omega) (fun j h9 => ?_)
          by_cases c : j < i
          · exact hno j c
          · rw [show j = i by omega, Nat.add_comm p i]; omega
        · refine z_iconst (v := nI 0) dX13_isPeriod_29 rfl ?_
          refine z_zret (ty := .boolean) dX13_isPeriod_30 rfl (by decide) (by decide) rfl ?_
          first | exact ⟨rfl, rfl⟩ | exact absurd (fun j h9 => hno j (by omega)) e
  refine z_iconst (v := nI 0) dX13_isPeriod_0 rfl ?_
  refine z_istore_n (lv' := [(0, .ref (za g b)), (1, .int (nI (p))), (2, .int (nI (0)))]) dX13_isPeriod_1 (by decide) rfl ?_
  exact loop (S.1.length + 2) 0 (by omega) (by omega) (fun j h9 => by omega)
set_option maxRecDepth 100000 in
set_option maxHeartbeats 4000000 in
theorem c_X13_isBar_y {g : zGT} {w : zW} {b : Nat} {th ch ea fa sv tn po en ln kn wr dg : Int32} {fv fb fs fp fh ft fl fi : Nat → Int32} {S : zSt} {x : Int32} (h0 : zG0 g) (h : Mx g w b th ch ea fa sv tn po en ln kn wr dg fv fb fs fp fh ft fl fi) (hv : VS fv S) (e : 0 ≤ x.toInt ∧ x.toInt ≤ (S.2.1.length : Nat)) : zCt g mX13_isBar (zR 1 0) [.ref (za g b), .int (x)] w (fun o w' => o = .inl (some (.int (nI 1))) ∧ w' = w) := by
  have hb := h.1
  have hl := hv.len
  refine zCt_of (by decide +kernel) h0 [(0, .ref (za g b)), (1, .int (x))] rfl (Nat.le_of_ble_eq_true rfl) ?_
  refine z_iload_n dX13_isBar_0 rfl ?_
  refine z_iconst (v := nI 0) dX13_isBar_1 rfl ?_
  refine z_aload_n dX13_isBar_2 rfl ?_
  refine z_getf (j := b) dX13_isBar_3 kF_RX13_16 rfl (by omega) h.ce rfl ?_
  refine z_iconst (v := nI 1) dX13_isBar_6 rfl ?_
  refine z_iald_v (j := b + 1) (N := 410) (a := 1) (x := S.2.1.length) (f := fv) dX13_isBar_7 (by omega) h.r1 (by omega) (by omega) (hv.mks) ?_
  by_cases hc1 : ((0 : Nat) : Int) ≤ ((x)).toInt ∧ ((x)).toInt ≤ ((S.2.1.length : Nat) : Int)
  · refine z_callSE (As := [.int (x), .int (nI (0)), .int (nI (S.2.1.length))]) (rest := []) (v := some (.int (nI (1)))) (R2 := zR 0 0) dX13_isBar_8 kS_RX13_57 rfl rfl ⟨⟨by decide, by decide⟩, by decide, by decide⟩ rfl (Nat.le_of_ble_eq_true rfl) rfl (c_X13_isIn_y (x := (x)) (y := (nI (0))) (z := (nI (S.2.1.length))) h0 (by have q0 := nI_toInt (n := 0) (by omega); have q1 := nI_toInt (n := S.2.1.length) (by omega); omega)) ?_
    refine z_zret (ty := .boolean) dX13_isBar_11 rfl (by decide) (by decide) rfl ?_
    first | exact ⟨rfl, rfl⟩ | (exfalso; omega)
  · refine z_callSE (As := [.int (x), .int (nI (0)), .int (nI (S.2.1.length))]) (rest := []) (v := some (.int (nI (0)))) (R2 := zR 0 0) dX13_isBar_8 kS_RX13_57 rfl rfl ⟨⟨by decide, by decide⟩, by decide, by decide⟩ rfl (Nat.le_of_ble_eq_true rfl) rfl (c_X13_isIn_n (x := (x)) (y := (nI (0))) (z := (nI (S.2.1.length))) h0 (by have q0 := nI_toInt (n := 0) (by omega); have q1 := nI_toInt (n := S.2.1.length) (by omega); omega)) ?_
    refine z_zret (ty := .boolean) dX13_isBar_11 rfl (by decide) (by decide) rfl ?_
    first | exact ⟨rfl, rfl⟩ | (exfalso; omega)
set_option maxRecDepth 100000 in
set_option maxHeartbeats 4000000 in
theorem c_X13_isBar_n {g : zGT} {w : zW} {b : Nat} {th ch ea fa sv tn po en ln kn wr dg : Int32} {fv fb fs fp fh ft fl fi : Nat → Int32} {S : zSt} {x : Int32} (h0 : zG0 g) (h : Mx g w b th ch ea fa sv tn po en ln kn wr dg fv fb fs fp fh ft fl fi) (hv : VS fv S) (e : ¬ (0 ≤ x.toInt ∧ x.toInt ≤ (S.2.1.length : Nat))) : zCt g mX13_isBar (zR 1 0) [.ref (za g b), .int (x)] w (fun o w' => o = .inl (some (.int (nI 0))) ∧ w' = w) := by
  have hb := h.1
  have hl := hv.len
  refine zCt_of (by decide +kernel) h0 [(0, .ref (za g b)), (1, .int (x))] rfl (Nat.le_of_ble_eq_true rfl) ?_
  refine z_iload_n dX13_isBar_0 rfl ?_
  refine z_iconst (v := nI 0) dX13_isBar_1 rfl ?_
  refine z_aload_n dX13_isBar_2 rfl ?_
  refine z_getf (j := b) dX13_isBar_3 kF_RX13_16 rfl (by omega) h.ce rfl ?_
  refine z_iconst (v := nI 1) dX13_isBar_6 rfl ?_
  refine z_iald_v (j := b + 1) (N := 410) (a := 1) (x := S.2.1.length) (f := fv) dX13_isBar_7 (by omega) h.r1 (by omega) (by omega) (hv.mks) ?_
  by_cases hc1 : ((0 : Nat) : Int) ≤ ((x)).toInt ∧ ((x)).toInt ≤ ((S.2.1.length : Nat) : Int)
  · refine z_callSE (As := [.int (x), .int (nI (0)), .int (nI (S.2.1.length))]) (rest := []) (v := some (.int (nI (1)))) (R2 := zR 0 0) dX13_isBar_8 kS_RX13_57 rfl rfl ⟨⟨by decide, by decide⟩, by decide, by decide⟩ rfl (Nat.le_of_ble_eq_true rfl) rfl (c_X13_isIn_y (x := (x)) (y := (nI (0))) (z := (nI (S.2.1.length))) h0 (by have q0 := nI_toInt (n := 0) (by omega); have q1 := nI_toInt (n := S.2.1.length) (by omega); omega)) ?_
    refine z_zret (ty := .boolean) dX13_isBar_11 rfl (by decide) (by decide) rfl ?_
    first | exact ⟨rfl, rfl⟩ | (exfalso; omega)
  · refine z_callSE (As := [.int (x), .int (nI (0)), .int (nI (S.2.1.length))]) (rest := []) (v := some (.int (nI (0)))) (R2 := zR 0 0) dX13_isBar_8 kS_RX13_57 rfl rfl ⟨⟨by decide, by decide⟩, by decide, by decide⟩ rfl (Nat.le_of_ble_eq_true rfl) rfl (c_X13_isIn_n (x := (x)) (y := (nI (0))) (z := (nI (S.2.1.length))) h0 (by have q0 := nI_toInt (n := 0) (by omega); have q1 := nI_toInt (n := S.2.1.length) (by omega); omega)) ?_
    refine z_zret (ty := .boolean) dX13_isBar_11 rfl (by decide) (by decide) rfl ?_
    first | exact ⟨rfl, rfl⟩ | (exfalso; omega)
set_option maxRecDepth 100000 in
set_option maxHeartbeats 4000000 in
theorem c_X13_barFrom {g : zGT} {w : zW} {b : Nat} {th ch ea fa sv tn po en ln kn wr dg : Int32} {fv fb fs fp fh ft fl fi : Nat → Int32} {S : zSt} {j : Nat} (h0 : zG0 g) (h : Mx g w b th ch ea fa sv tn po en ln kn wr dg fv fb fs fp fh ft fl fi) (hv : VS fv S) (hj : j ≤ S.2.1.length) : zCt g mX13_barFrom (zR 3 0) [.ref (za g b), .int (nI (j))] w (fun o w' => o = .inl (some (.int (nI (barA S.2.1 j)))) ∧ w' = w) := by
  have hb := h.1
  have hl := hv.len
  refine zCt_of (by decide +kernel) h0 [(0, .ref (za g b)), (1, .int (nI (j)))] rfl (Nat.le_of_ble_eq_true rfl) ?_
  refine z_iload_n dX13_barFrom_0 rfl ?_
  refine z_if_ne_n (a := j) (tgt := 8) dX13_barFrom_1 (by decide) (by omega) (fun h_1_1 => ?_) (fun h_1_1 => ?_)
  · refine z_aload_n dX13_barFrom_8 rfl ?_
    refine z_getf (j := b) dX13_barFrom_9 kF_RX13_16 rfl (by omega) h.ce rfl ?_
    refine z_sipush (v := nI 204) dX13_barFrom_12 rfl ?_
    refine z_iload_n dX13_barFrom_15 rfl ?_
    refine z_iadd_n (a := 204) (b := j) dX13_barFrom_16 ?_
    refine z_iconst (v := nI 1) dX13_barFrom_17 rfl ?_
    refine z_isub_n (a := (204) + (j)) (b := 1) dX13_barFrom_18 (by omega) ?_
    refine z_iald_v (j := b + 1) (N := 410) (a := ((204) + (j)) - (1)) (x := S.2.1.getD (j - 1) 0) (f := fv) dX13_barFrom_19 (by omega) h.r1 (by omega) (by omega) (by rw [show ((204) + (j)) - (1) = 204 + (j - 1) by omega]; exact hv.mark (by omega)) ?_
    refine z_iret dX13_barFrom_20 rfl (by decide) (by decide) ?_
    unfold barA
    first | (rw [if_pos (by omega)]; exact ⟨rfl, rfl⟩) | (rw [if_neg (by omega)]; exact ⟨rfl, rfl⟩)
  · refine z_iconst (v := nI 0) dX13_barFrom_4 rfl ?_
    refine z_goto (tgt := 20) dX13_barFrom_5 (by decide) ?_
    refine z_iret dX13_barFrom_20 rfl (by decide) (by decide) ?_
    unfold barA
    first | (rw [if_pos (by omega)]; exact ⟨rfl, rfl⟩) | (rw [if_neg (by omega)]; exact ⟨rfl, rfl⟩)
set_option maxRecDepth 100000 in
set_option maxHeartbeats 4000000 in
theorem c_X13_barTo {g : zGT} {w : zW} {b : Nat} {th ch ea fa sv tn po en ln kn wr dg : Int32} {fv fb fs fp fh ft fl fi : Nat → Int32} {S : zSt} {j : Nat} (h0 : zG0 g) (h : Mx g w b th ch ea fa sv tn po en ln kn wr dg fv fb fs fp fh ft fl fi) (hv : VS fv S) (hj : j ≤ S.2.1.length) : zCt g mX13_barTo (zR 3 0) [.ref (za g b), .int (nI (j))] w (fun o w' => o = .inl (some (.int (nI (barB S.2.1 S.1.length j)))) ∧ w' = w) := by
  have hb := h.1
  have hl := hv.len
  refine zCt_of (by decide +kernel) h0 [(0, .ref (za g b)), (1, .int (nI (j)))] rfl (Nat.le_of_ble_eq_true rfl) ?_
  refine z_iload_n dX13_barTo_0 rfl ?_
  refine z_aload_n dX13_barTo_1 rfl ?_
  refine z_getf (j := b) dX13_barTo_2 kF_RX13_16 rfl (by omega) h.ce rfl ?_
  refine z_iconst (v := nI 1) dX13_barTo_5 rfl ?_
  refine z_iald_v (j := b + 1) (N := 410) (a := 1) (x := S.2.1.length) (f := fv) dX13_barTo_6 (by omega) h.r1 (by omega) (by omega) (hv.mks) ?_
  refine z_icmp_ne_n (a := j) (b := S.2.1.length) (tgt := 19) dX13_barTo_7 (by decide) (by omega) (by omega) (fun h_7_1 => ?_) (fun h_7_1 => ?_)
  · refine z_aload_n dX13_barTo_19 rfl ?_
    refine z_getf (j := b) dX13_barTo_20 kF_RX13_16 rfl (by omega) h.ce rfl ?_
    refine z_sipush (v := nI 204) dX13_barTo_23 rfl ?_
    refine z_iload_n dX13_barTo_26 rfl ?_
    refine z_iadd_n (a := 204) (b := j) dX13_barTo_27 ?_
    refine z_iald_v (j := b + 1) (N := 410) (a := (204) + (j)) (x := S.2.1.getD (j) 0) (f := fv) dX13_barTo_28 (by omega) h.r1 (by omega) (by omega) (hv.mark (by omega)) ?_
    refine z_iret dX13_barTo_29 rfl (by decide) (by decide) ?_
    unfold barB
    first | (rw [if_pos (by omega)]; exact ⟨rfl, rfl⟩) | (rw [if_neg (by omega)]; exact ⟨rfl, rfl⟩)
  · refine z_aload_n dX13_barTo_10 rfl ?_
    refine z_getf (j := b) dX13_barTo_11 kF_RX13_16 rfl (by omega) h.ce rfl ?_
    refine z_iconst (v := nI 0) dX13_barTo_14 rfl ?_
    refine z_iald_v (j := b + 1) (N := 410) (a := 0) (x := S.1.length) (f := fv) dX13_barTo_15 (by omega) h.r1 (by omega) (by omega) (hv.dur) ?_
    refine z_goto (tgt := 29) dX13_barTo_16 (by decide) ?_
    refine z_iret dX13_barTo_29 rfl (by decide) (by decide) ?_
    unfold barB
    first | (rw [if_pos (by omega)]; exact ⟨rfl, rfl⟩) | (rw [if_neg (by omega)]; exact ⟨rfl, rfl⟩)
