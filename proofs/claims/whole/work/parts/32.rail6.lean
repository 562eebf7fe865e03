/-! RailTimeline: input, scripts, undo, snapshot -/
set_option maxRecDepth 100000 in
theorem pNot_le {I : List Nat} : ∀ {k p t : Nat} {T : List Nat}, (pNot I k p T t).2.1 ≤ t + 999 * (k + 1)
  | 0, p, t, T => by rw [pNot]; dsimp only; omega
  | k + 1, p, t, T => by
    rw [pNot]
    have h1 : (pRn I p).1 ≤ 999 := pN_le (by omega)
    split
    · have := pNot_le (I := I) (k := k) (p := (pRn I p).2.1 + 1) (t := t + (pRn I p).1) (T := pfill T (pRa I p).1 (pRn I p).1)
      omega
    · dsimp only; omega
theorem pNota_le {I : List Nat} : (pNota I).2.1 ≤ 100000 := by
  unfold pNota
  split
  · exact Nat.zero_le _
  · have := pNot_le (I := I) (k := 60) (p := 0) (t := 0) (T := []); omega
theorem ofInt_toInt {x : Int} (h1 : -2147483648 ≤ x) (h2 : x < 2147483648) : (Int32.ofInt x).toInt = x := Int32.toInt_ofInt_of_le (by omega) (by omega)
theorem ltab_gT {T : List Nat} : ltab T.length (gT T) = T := ltab_self
set_option maxRecDepth 100000 in
set_option maxHeartbeats 4000000 in
theorem c_X12_finishReading {g : zGT} {w : zW} {b : Nat} {S : zSt} {Hs : List zSt} {Sn : Option zSt} {I O : List Nat} {ep fc : Int32} {p br : Nat} (h0 : zG0 g) (h1 : zST g) (h : Rx g w b S Hs Sn I O ep fc) (hI : Inp g w (b + 95) I p br) : zCt g mX12_finishReading (zR 1 1) [.ref (za g b)] w (fun o w' => o = zAns (if br = 0 then 0 else 2) none ∧ (∃ w1, zFr w w1 (b + 95) (b + 97) ∧ zFr w1 w' b (b + 1)) ∧ Rx g w' b S Hs Sn [] O (if br = 0 then ep else nI p) fc) := by
  have hb := h.1
  have hbr := hI.2.2.2.2.2.2
  have hp6 := hI.2.2.2.2.2.1
  refine zCt_of (by decide +kernel) h0 [(0, .ref (za g b))] rfl (Nat.le_of_ble_eq_true rfl) ?_
  refine z_aload_n dX12_finishReading_0 rfl ?_
  refine z_getf (j := b) dX12_finishReading_1 kF_RX12_43 rfl (by omega) h.ce rfl ?_
  refine z_callE (As := []) (rest := []) (b := b + 95) (ci := 4) (v := some (.int (nI (br)))) (R2 := zR 0 0) dX12_finishReading_4 kV_RX12_402 rfl ⟨⟨by decide, by decide⟩, by decide, by decide⟩ (by omega) hI.2.1 rfl rfl rfl (Nat.le_of_ble_eq_true rfl) rfl (c_X4_isBroken h0 hI) ?_
  refine z_istore_n (lv' := [(0, .ref (za g b)), (1, .int (nI (br)))]) dX12_finishReading_7 (by decide) rfl ?_
  refine z_aload_n dX12_finishReading_8 rfl ?_
  refine z_getf (j := b) dX12_finishReading_9 kF_RX12_43 rfl (by omega) h.ce rfl ?_
  refine z_callE (As := []) (rest := []) (b := b + 95) (ci := 4) (v := some (.int (nI (p)))) (R2 := zR 0 0) dX12_finishReading_12 kV_RX12_405 rfl ⟨⟨by decide, by decide⟩, by decide, by decide⟩ (by omega) hI.2.1 rfl rfl rfl (Nat.le_of_ble_eq_true rfl) rfl (c_X4_position h0 hI) ?_
  refine z_istore_n (lv' := [(0, .ref (za g b)), (1, .int (nI (br))), (2, .int (nI (p)))]) dX12_finishReading_15 (by decide) rfl ?_
  refine z_aload_n dX12_finishReading_16 rfl ?_
  refine z_getf (j := b) dX12_finishReading_17 kF_RX12_43 rfl (by omega) h.ce rfl ?_
  refine z_callR (As := []) (rest := []) (b := b + 95) (ci := 4) (v := none) (R2 := zR 0 0) dX12_finishReading_20 kV_RX12_408 rfl ⟨⟨by decide, by decide⟩, by decide, by decide⟩ (by omega) hI.2.1 rfl rfl rfl (Nat.le_of_ble_eq_true rfl) rfl (c_X4_clear h0 hI) (fun w3 pw3 => ?_)
  obtain ⟨hf9, hn9⟩ := pw3
  have hx9 := h.setIn hf9 hn9
  refine z_iload_n dX12_finishReading_23 rfl ?_
  refine z_if_eq_n (a := br) (tgt := 38) dX12_finishReading_24 (by decide) (by omega) (fun h_24_4 => ?_) (fun h_24_4 => ?_)
  · refine z_vret dX12_finishReading_38 rfl (by decide) (by decide) ?_
    exact ⟨zAns_y (by rw [if_pos (by omega)]) rfl, ⟨_, hf9, zFr.rf⟩, by rw [if_pos (by omega)]; exact hx9⟩
  · refine z_aload_n dX12_finishReading_27 rfl ?_
    refine z_iload_n dX12_finishReading_28 rfl ?_
    refine z_putf (j := b) dX12_finishReading_29 kF_RX12_68 zt_11_11 rfl (by omega) hx9.ce rfl rfl (Nat.le_of_ble_eq_true rfl) ?_
    obtain ⟨w5, ew6⟩ : ∃ wz : zW, wz = va_up w3 b (zO 11 [.ref (za g (b + 1)), .ref (za g (b + 66)), .ref (za g (b + 73)), .ref (za g (b + 8)), .ref (za g (b + 80)), .ref (za g (b + 84)), .ref (za g (b + 95)), .ref (za g (b + 97)), .ref (za g (b + 85)), .ref (za g (b + 99)), .int (nI (if Sn.isSome then 1 else 0)), .int (nI (p)), .int (fc)]) := ⟨_, rfl⟩
    refine z_weq (w' := w5) ew6.symm ?_
    have hf7 : zFr w3 w5 b (b + 1) := by rw [ew6]; exact zFr.up (by omega)
    have hw8 : w5 b = zO 11 [.ref (za g (b + 1)), .ref (za g (b + 66)), .ref (za g (b + 73)), .ref (za g (b + 8)), .ref (za g (b + 80)), .ref (za g (b + 84)), .ref (za g (b + 95)), .ref (za g (b + 97)), .ref (za g (b + 85)), .ref (za g (b + 99)), .int (nI (if Sn.isSome then 1 else 0)), .int (nI (p)), .int (fc)] := by rw [ew6, zup_s]
    have hx9 := hx9.setEf (ep2 := nI (p)) (fc2 := fc) hf7 hw8
    refine z_gets dX12_finishReading_32 kG_RX12_143 rfl (h1.fl (i := 2) (by decide)) ?_
    refine z_callSX (As := [.ref (ze g 2)]) (rest := []) (k := 2) (R2 := zR 0 1) dX12_finishReading_35 kS_RX12_119 rfl rfl ⟨⟨by decide, by decide⟩, by decide, by decide⟩ rfl (Nat.le_of_ble_eq_true rfl) rfl (c_X12_raise (f := 2) h0 h1 (by decide)) ?_
    exact ⟨zAns_n (by rw [if_neg (by omega)]) (by decide), ⟨_, hf9, hf7⟩, by rw [if_neg (by omega)]; exact hx9⟩
set_option maxRecDepth 100000 in
set_option maxHeartbeats 4000000 in
theorem c_X12_load {g : zGT} {w : zW} {b : Nat} {S : zSt} {Hs : List zSt} {Sn : Option zSt} {I O : List Nat} {ep fc : Int32} (h0 : zG0 g) (h1 : zST g) (h : Rx g w b S Hs Sn I O ep fc) : zCt g mX12_load (zR 6 2) [.ref (za g b)] w (fun o w' => o = zAns (if (pNota I).2.2.2 = 0 then (if 200 < (pNota I).2.1 then 3 else 0) else 2) (some (.int (nI (pNota I).1.length))) ∧ zFr w w' b (b + 101) ∧ Rx g w' b (if (if (pNota I).2.2.2 = 0 then (if 200 < (pNota I).2.1 then 3 else 0) else 2) = 0 then ((pNota I).1, [], S.2.2) else S) (if (if (pNota I).2.2.2 = 0 then (if 200 < (pNota I).2.1 then 3 else 0) else 2) = 0 then (S :: Hs).take 8 else Hs) Sn [] O (if (pNota I).2.2.2 = 0 then ep else nI (pNota I).2.2.1) fc) := by
  have hb := h.1
  have hn := h.st.len
  refine zCt_of (by decide +kernel) h0 [(0, .ref (za g b))] rfl (Nat.le_of_ble_eq_true rfl) ?_
  refine z_aload_n dX12_load_0 rfl ?_
  refine z_getf (j := b) dX12_load_1 kF_RX12_43 rfl (by omega) h.ce rfl ?_
  refine z_aload_n dX12_load_4 rfl ?_
  refine z_getf (j := b) dX12_load_5 kF_RX12_50 rfl (by omega) h.ce rfl ?_
  obtain ⟨p0, br0, hI0⟩ := h.inp
  obtain ⟨F0, n0, hld0⟩ := h.ld
  refine z_callR (As := [.ref (za g (b + 97))]) (rest := []) (b := b + 95) (ci := 4) (v := some (.int (nI ((pNota I).2.1)))) (R2 := zR 5 0) dX12_load_8 kV_RX12_381 rfl ⟨⟨by decide, by decide⟩, by decide, by decide⟩ (by omega) hI0.2.1 rfl rfl rfl (Nat.le_of_ble_eq_true rfl) rfl (c_X4_readNotation h0 hI0 hld0) (fun w1 pw1 => ?_)
  obtain ⟨hf1, hI1, hT1⟩ := pw1
  have hx1 := h.setIL hf1 ⟨hI1, hT1⟩
  refine z_istore_n (lv' := [(0, .ref (za g b)), (1, .int (nI ((pNota I).2.1)))]) dX12_load_11 (by decide) rfl ?_
  refine z_aload_n dX12_load_12 rfl ?_
  refine z_callA (As := []) (rest := []) (b := b) (ci := 11) (f := if (pNota I).2.2.2 = 0 then 0 else 2) (v := none) (R2 := zR 1 1) dX12_load_13 kV_RX12_385 rfl ⟨⟨by decide, by decide⟩, by decide, by decide⟩ (by omega) hx1.ce rfl rfl rfl (Nat.le_of_ble_eq_true rfl) rfl (c_X12_finishReading h0 h1 hx1 hI1) (fun hx3 w2 pw2 => ?_) (fun hq4 w2 pw2 => ?_)
  · have hF : (if (pNota I).2.2.2 = 0 then (if 200 < (pNota I).2.1 then 3 else 0) else 2) = 2 := by rw [if_neg (fun z => hx3 (by rw [z]; rfl))]
    obtain ⟨⟨wm, hf2, hf3⟩, hx2⟩ := pw2
    have e2 : (if (pNota I).2.2.2 = 0 then 0 else 2) = 2 := by rw [if_neg (fun z => hx3 (by rw [z]; rfl))]
    rw [e2]
    exact ⟨zAns_n hF (by decide), (hf1.wk (by omega) (by omega)).tr ((hf2.wk (by omega) (by omega)).tr (hf3.wk (by omega) (by omega))), by rw [if_neg (by rw [hF]; decide), if_neg (by rw [hF]; decide)]; exact hx2⟩
  obtain ⟨⟨wm, hf2, hf3⟩, hx2⟩ := pw2
  have hbr : (pNota I).2.2.2 = 0 := by have q := hq4; split at q; assumption; omega
  have hle := pNota_le (I := I)
  refine z_iload_n dX12_load_16 rfl ?_
  refine z_sipush (v := nI 200) dX12_load_17 rfl ?_
  refine z_icmp_gt_n (a := (pNota I).2.1) (b := 200) (tgt := 27) dX12_load_20 (by decide) (by omega) (by omega) (fun h_20_5 => ?_) (fun h_20_5 => ?_)
  · refine z_iconst (v := nI 0) dX12_load_27 rfl ?_
    refine z_gets dX12_load_28 kG_RX12_151 rfl (h1.fl (i := 3) (by decide)) ?_
    refine z_callSX (As := [.int (nI (0)), .ref (ze g 3)]) (rest := []) (k := 3) (R2 := zR 1 1) dX12_load_31 kS_RX12_178 rfl rfl ⟨⟨by decide, by decide⟩, by decide, by decide⟩ rfl (Nat.le_of_ble_eq_true rfl) rfl (c_X12_raiseUnless_n (f := 3) h0 h1 (by decide) (by decide)) ?_
    have hF : (if (pNota I).2.2.2 = 0 then (if 200 < (pNota I).2.1 then 3 else 0) else 2) = 3 := by rw [if_pos hbr]; rw [if_pos (by omega)]
    exact ⟨zAns_n hF (by decide), ((hf1.wk (by omega) (by omega)).tr ((hf2.wk (by omega) (by omega)).tr (hf3.wk (by omega) (by omega)))), by rw [if_neg (by rw [hF]; decide), if_neg (by rw [hF]; decide)]; exact hx2⟩
  · refine z_iconst (v := nI 1) dX12_load_23 rfl ?_
    refine z_goto (tgt := 28) dX12_load_24 (by decide) ?_
    refine z_gets dX12_load_28 kG_RX12_151 rfl (h1.fl (i := 3) (by decide)) ?_
    refine z_callSE (As := [.int (nI (1)), .ref (ze g 3)]) (rest := []) (v := none) (R2 := zR 1 1) dX12_load_31 kS_RX12_178 rfl rfl ⟨⟨by decide, by decide⟩, by decide, by decide⟩ rfl (Nat.le_of_ble_eq_true rfl) rfl (c_X12_raiseUnless_y h0 h1) ?_
    refine z_aload_n dX12_load_34 rfl ?_
    refine z_getf (j := b) dX12_load_35 kF_RX12_25 rfl (by omega) hx2.ce rfl ?_
    refine z_aload_n dX12_load_38 rfl ?_
    refine z_getf (j := b) dX12_load_39 kF_RX12_12 rfl (by omega) hx2.ce rfl ?_
    obtain ⟨fsH, hcH⟩ := hx2.hi.cellx
    refine z_callR (As := [.ref (za g (b + 1))]) (rest := []) (b := b + 8) (ci := 3) (v := none) (R2 := zR 4 0) dX12_load_42 kV_RX12_123 rfl ⟨⟨by decide, by decide⟩, by decide, by decide⟩ (by omega) hcH rfl rfl rfl (Nat.le_of_ble_eq_true rfl) rfl (c_X3_push h0 h1 hx2.hi hx2.st (by omega)) (fun w7 pw7 => ?_)
    obtain ⟨hf8, hn9⟩ := pw7
    have hx10 := hx2.setHi hf8 hn9
    refine z_aload_n dX12_load_45 rfl ?_
    refine z_getf (j := b) dX12_load_46 kF_RX12_12 rfl (by omega) hx10.ce rfl ?_
    refine z_aload_n dX12_load_49 rfl ?_
    refine z_getf (j := b) dX12_load_50 kF_RX12_50 rfl (by omega) hx10.ce rfl ?_
    refine z_callR (As := [.ref (za g (b + 97))]) (rest := []) (b := b + 1) (ci := 10) (v := none) (R2 := zR 3 0) dX12_load_53 kV_RX12_388 rfl ⟨⟨by decide, by decide⟩, by decide, by decide⟩ (by omega) hx10.st.cell rfl rfl rfl (Nat.le_of_ble_eq_true rfl) rfl (tS_replace h0 h1 hx10.st (((hT1.fr hf2 (by omega)).fr hf3 (by omega)).fr hf8 (by omega)) (by omega)) (fun w11 pw11 => ?_)
    obtain ⟨hf12, hn13⟩ := pw11
    rw [ltab_gT] at hn13
    have hx14 := hx10.setSt hf12 hn13
    refine z_aload_n dX12_load_56 rfl ?_
    refine z_getf (j := b) dX12_load_57 kF_RX12_12 rfl (by omega) hx14.ce rfl ?_
    refine z_getfN (j := b + 1) dX12_load_60 kN_RX12_167 rfl (by omega) hx14.st.cell rfl ?_
    refine z_callE (As := []) (rest := []) (b := b + 1 + 1) (ci := 5) (v := some (.int (nI ((((pNota I).1, [], S.2.2)).1.length)))) (R2 := zR 0 0) dX12_load_63 kV_RX12_170 rfl ⟨⟨by decide, by decide⟩, by decide, by decide⟩ (by omega) hx14.st.tl.cell rfl rfl rfl (Nat.le_of_ble_eq_true rfl) rfl (tc_size h0 hx14.st.tl) ?_
    refine z_iret dX12_load_66 rfl (by decide) (by decide) ?_
    have hF : (if (pNota I).2.2.2 = 0 then (if 200 < (pNota I).2.1 then 3 else 0) else 2) = 0 := by rw [if_pos hbr, if_neg (by omega)]
    exact ⟨zAns_y hF rfl, ((((hf1.wk (by omega) (by omega)).tr ((hf2.wk (by omega) (by omega)).tr (hf3.wk (by omega) (by omega)))).tr (hf8.wk (by omega) (by omega))).tr (hf12.wk (by omega) (by omega))), by rw [if_pos hF, if_pos hF]; exact hx14⟩
/-- the commands of a script in their order: the place of the first that fails, or -1, and the state behind -/
def scrGo : List zCmd → Nat → zSt → Int × zSt
  | [], _, S => (-1, S)
  | c :: K, i, S => if spF c.1 c.2.1.toInt c.2.2.1.toInt c.2.2.2.toInt S = 0 then scrGo K (i + 1) (spS c.1 c.2.1.toInt c.2.2.1.toInt c.2.2.2.toInt S) else ((i : Int), S)
theorem scrGo_rng : ∀ {K : List zCmd} {i : Nat} {S : zSt}, (scrGo K i S).1 = -1 ∨ ((i : Int) ≤ (scrGo K i S).1 ∧ (scrGo K i S).1 < i + K.length)
  | [], _, _ => Or.inl rfl
  | c :: K, i, S => by
    rw [scrGo]
    split
    · rcases scrGo_rng (K := K) (i := i + 1) (S := spS c.1 c.2.1.toInt c.2.2.1.toInt c.2.2.2.toInt S) with h | h
      · exact Or.inl h
      · refine Or.inr ?_; simp only [List.length_cons]; omega
    · refine Or.inr ?_; simp only [List.length_cons]; (try dsimp only); omega
theorem scr_step {K : List zCmd} {i : Nat} {S : zSt} (hi : i < K.length) : scrGo (K.drop i) i S = if spF (K.getD i zc0).1 (K.getD i zc0).2.1.toInt (K.getD i zc0).2.2.1.toInt (K.getD i zc0).2.2.2.toInt S = 0 then scrGo (K.drop (i + 1)) (i + 1) (spS (K.getD i zc0).1 (K.getD i zc0).2.1.toInt (K.getD i zc0).2.2.1.toInt (K.getD i zc0).2.2.2.toInt S) else ((i : Int), S) := by
  rw [List.drop_eq_getElem_cons hi, scrGo]
  have e : K.getD i zc0 = K[i] := by rw [List.getD_eq_getElem?_getD, List.getElem?_eq_getElem hi]; rfl
  rw [e]
theorem t_sat {g : zGT} {w : zW} {h i : Nat} {K : List zCmd} (h0 : zG0 g) (hC : Scx g w h K) (hi : i < K.length) : zCt g mX9_at (zR 0 0) [.ref (za g h), .int (nI i)] w (fun o w' => o = .inl (some (.ref (za g (h + 2 + i)))) ∧ w' = w) := by
  obtain ⟨Z, a1, a2, a3, a4, a5, a6⟩ := hC
  exact c_X9_at h0 a1 a2 a3 (by omega)
set_option maxRecDepth 100000 in
set_option maxHeartbeats 4000000 in
theorem c_X12_faultOf {g : zGT} {w : zW} {b : Nat} {S : zSt} {Hs : List zSt} {Sn : Option zSt} {I O : List Nat} {ep fc : Int32} {K : List zCmd} {i : Nat} (h0 : zG0 g) (h1 : zST g) (h : Rx g w b S Hs Sn I O ep fc) (hi8 : i < 8) (hcm : (K.getD i zc0).1 < 11 ∧ w (b + 85 + 2 + i) = cmdC g (K.getD i zc0)) : zCt g mX12_faultOf (zR 4 0) [.ref (za g b), .ref (za g (b + 85 + 2 + i))] w (fun o w' => o = .inl (some (.ref (ze g (spF (K.getD i zc0).1 (K.getD i zc0).2.1.toInt (K.getD i zc0).2.2.1.toInt (K.getD i zc0).2.2.2.toInt S)))) ∧ w' = w) := by
  have hb := h.1
  refine zCt_of (by decide +kernel) h0 [(0, .ref (za g b)), (1, .ref (za g (b + 85 + 2 + i)))] rfl (Nat.le_of_ble_eq_true rfl) ?_
  refine z_aload_n dX12_faultOf_0 rfl ?_
  refine z_getf (j := b) dX12_faultOf_1 kF_RX12_12 rfl (by omega) h.ce rfl ?_
  refine z_aload_n dX12_faultOf_4 rfl ?_
  refine z_getfN (j := b + 85 + 2 + i) dX12_faultOf_5 kN_RX12_415 rfl (by omega) hcm.2 rfl ?_
  refine z_aload_n dX12_faultOf_8 rfl ?_
  refine z_getfN (j := b + 85 + 2 + i) dX12_faultOf_9 kN_RX12_420 rfl (by omega) hcm.2 rfl ?_
  refine z_aload_n dX12_faultOf_12 rfl ?_
  refine z_getfN (j := b + 85 + 2 + i) dX12_faultOf_13 kN_RX12_423 rfl (by omega) hcm.2 rfl ?_
  refine z_aload_n dX12_faultOf_16 rfl ?_
  refine z_getfN (j := b + 85 + 2 + i) dX12_faultOf_17 kN_RX12_426 rfl (by omega) hcm.2 rfl ?_
  refine z_callE (As := [.ref (ze g (10 + (K.getD i zc0).1)), .int ((K.getD i zc0).2.1), .int ((K.getD i zc0).2.2.1), .int ((K.getD i zc0).2.2.2)]) (rest := []) (b := b + 1) (ci := 10) (v := some (.ref (ze g (spF (K.getD i zc0).1 (K.getD i zc0).2.1.toInt (K.getD i zc0).2.2.1.toInt (K.getD i zc0).2.2.2.toInt S)))) (R2 := zR 3 0) dX12_faultOf_20 kV_RX12_115 rfl ⟨⟨by decide, by decide⟩, by decide, by decide⟩ (by omega) h.st.cell rfl rfl rfl (Nat.le_of_ble_eq_true rfl) rfl (c_X10_faultOf (i := (K.getD i zc0).1) h0 h1 h.st hcm.1) ?_
  refine z_aret dX12_faultOf_23 rfl (by decide) (by decide) (Or.inl ⟨_, rfl⟩) (Or.inr ⟨_, rfl⟩) ?_
  exact ⟨rfl, rfl⟩
set_option maxRecDepth 100000 in
set_option maxHeartbeats 4000000 in
theorem c_X12_firstFailure {g : zGT} {w : zW} {b : Nat} {S : zSt} {Hs : List zSt} {Sn : Option zSt} {I O : List Nat} {ep fc : Int32} {K : List zCmd} (h0 : zG0 g) (h1 : zST g) (h : Rx g w b S Hs Sn I O ep fc) (hK : Scx g w (b + 85) K) : zCt g mX12_firstFailure (zR 5 0) [.ref (za g b)] w (fun o w' => o = .inl (some (.int (Int32.ofInt (scrGo K 0 S).1))) ∧ zFr w w' (b + 1) (b + 8) ∧ Rx g w' b (scrGo K 0 S).2 Hs Sn I O ep fc) := by
  have hb := h.1
  have hK8 := hK.lt.2
  refine zCt_of (by decide +kernel) h0 [(0, .ref (za g b))] rfl (Nat.le_of_ble_eq_true rfl) ?_
  have loop : ∀ (mm : Nat) (i : Nat) (wi : zW) (Si : zSt), K.length - i < mm → (i ≤ K.length) → (zFr w wi (b + 1) (b + 8)) → (Rx g wi b Si Hs Sn I O ep fc) → (scrGo (K.drop i) i Si = scrGo K 0 S) → zTr g mX12_firstFailure (zR 5 0) 0 0 2 [(0, .ref (za g b)), (1, .int (nI (i)))] [] wi (fun o w' => o = .inl (some (.int (Int32.ofInt (scrGo K 0 S).1))) ∧ zFr w w' (b + 1) (b + 8) ∧ Rx g w' b (scrGo K 0 S).2 Hs Sn I O ep fc) := by
    intro mm
    induction mm with
    | zero => intros; omega
    | succ mm ih =>
      intro i wi Si hm hiK hfi hi9 hgo
      have hKi := hK.fr hfi (by omega)
      refine z_iload_n dX12_firstFailure_2 rfl ?_
      refine z_aload_n dX12_firstFailure_3 rfl ?_
      refine z_getf (j := b) dX12_firstFailure_4 kF_RX12_57 rfl (by omega) hi9.ce rfl ?_
      refine z_callE (As := []) (rest := [.int (nI (i))]) (b := b + 85) (ci := 9) (v := some (.int (nI (K.length)))) (R2 := zR 0 0) dX12_firstFailure_7 kV_RX12_401 rfl ⟨⟨by decide, by decide⟩, by decide, by decide⟩ (by omega) hKi.cell rfl rfl rfl (Nat.le_of_ble_eq_true rfl) rfl (c_X9_count h0 hKi) ?_
      refine z_icmp_ge_n (a := i) (b := K.length) (tgt := 69) dX12_firstFailure_10 (by decide) (by omega) (by omega) (fun h_10_2 => ?_) (fun h_10_2 => ?_)
      · refine z_iconst (v := -1) dX12_firstFailure_69 rfl ?_
        refine z_iret dX12_firstFailure_70 rfl (by decide) (by decide) ?_
        have e9 := hgo; rw [List.drop_eq_nil_of_le (by omega)] at e9
        exact ⟨by rw [← e9]; rfl, hfi, by rw [← e9]; exact hi9⟩
      · have hcm := hKi.cmd (i := i) (by omega)
        refine z_aload_n dX12_firstFailure_13 rfl ?_
        refine z_getf (j := b) dX12_firstFailure_14 kF_RX12_57 rfl (by omega) hi9.ce rfl ?_
        refine z_iload_n dX12_firstFailure_17 rfl ?_
        refine z_callE (As := [.int (nI (i))]) (rest := []) (b := b + 85) (ci := 9) (v := some (.ref (za g (b + 85 + 2 + i)))) (R2 := zR 0 0) dX12_firstFailure_18 kV_RX12_409 rfl ⟨⟨by decide, by decide⟩, by decide, by decide⟩ (by omega) hKi.cell rfl rfl rfl (Nat.le_of_ble_eq_true rfl) rfl (t_sat h0 hKi (by omega)) ?_
        refine z_astore_n (lv' := [(0, .ref (za g b)), (1, .int (nI (i))), (2, .ref (za g (b + 85 + 2 + i)))]) dX12_firstFailure_21 (by decide) rfl ?_
        refine z_aload_n dX12_firstFailure_22 rfl ?_
        refine z_ifnull dX12_firstFailure_23 ?_
        refine z_aload_n dX12_firstFailure_26 rfl ?_
        refine z_aload_n dX12_firstFailure_27 rfl ?_
        refine z_callE (As := [.ref (za g (b + 85 + 2 + i))]) (rest := []) (b := b) (ci := 11) (v := some (.ref (ze g (spF (K.getD i zc0).1 (K.getD i zc0).2.1.toInt (K.getD i zc0).2.2.1.toInt (K.getD i zc0).2.2.2.toInt Si)))) (R2 := zR 4 0) dX12_firstFailure_28 kV_RX12_412 rfl ⟨⟨by decide, by decide⟩, by decide, by decide⟩ (by omega) hi9.ce rfl rfl rfl (Nat.le_of_ble_eq_true rfl) rfl (c_X12_faultOf (K := K) (i := i) h0 h1 hi9 (by omega) hcm) ?_
        refine z_gets dX12_firstFailure_31 kG_RX12_275 rfl (h1.fl (i := 0) (by decide)) ?_
        have hfle := spF_le (i := (K.getD i zc0).1) (x := (K.getD i zc0).2.1.toInt) (y := (K.getD i zc0).2.2.1.toInt) (z := (K.getD i zc0).2.2.2.toInt) (S := Si)
        refine z_acmp_eq (rx := some (ze g (spF (K.getD i zc0).1 (K.getD i zc0).2.1.toInt (K.getD i zc0).2.2.1.toInt (K.getD i zc0).2.2.2.toInt Si))) (ry := some (ze g 0)) (tgt := 39) dX12_firstFailure_34 (by decide) (fun h_34_5 => ?_) (fun h_34_5 => ?_)
        · have hq0 : spF (K.getD i zc0).1 (K.getD i zc0).2.1.toInt (K.getD i zc0).2.2.1.toInt (K.getD i zc0).2.2.2.toInt Si = 0 := (h1.fne (by omega) (by decide)).mp (Option.some.inj h_34_5)
          refine z_aload_n dX12_firstFailure_39 rfl ?_
          refine z_getf (j := b) dX12_firstFailure_40 kF_RX12_12 rfl (by omega) hi9.ce rfl ?_
          refine z_aload_n dX12_firstFailure_43 rfl ?_
          refine z_getfN (j := b + 85 + 2 + i) dX12_firstFailure_44 kN_RX12_415 rfl (by omega) hcm.2 rfl ?_
          refine z_aload_n dX12_firstFailure_47 rfl ?_
          refine z_getfN (j := b + 85 + 2 + i) dX12_firstFailure_48 kN_RX12_420 rfl (by omega) hcm.2 rfl ?_
          refine z_aload_n dX12_firstFailure_51 rfl ?_
          refine z_getfN (j := b + 85 + 2 + i) dX12_firstFailure_52 kN_RX12_423 rfl (by omega) hcm.2 rfl ?_
          refine z_aload_n dX12_firstFailure_55 rfl ?_
          refine z_getfN (j := b + 85 + 2 + i) dX12_firstFailure_56 kN_RX12_426 rfl (by omega) hcm.2 rfl ?_
          refine z_callR (As := [.ref (ze g (10 + (K.getD i zc0).1)), .int ((K.getD i zc0).2.1), .int ((K.getD i zc0).2.2.1), .int ((K.getD i zc0).2.2.2)]) (rest := []) (b := b + 1) (ci := 10) (v := some (.int (nI (spA (K.getD i zc0).1 (K.getD i zc0).2.1.toInt (K.getD i zc0).2.2.1.toInt (K.getD i zc0).2.2.2.toInt Si)))) (R2 := zR 4 0) dX12_firstFailure_59 kV_RX12_127 rfl ⟨⟨by decide, by decide⟩, by decide, by decide⟩ (by omega) hi9.st.cell rfl rfl rfl (Nat.le_of_ble_eq_true rfl) rfl (c_X10_carryOut (i := (K.getD i zc0).1) h0 h1 hi9.st hcm.1 hq0) (fun w6 pw6 => ?_)
          obtain ⟨hf7, hn8⟩ := pw6
          have hx9 := hi9.setSt hf7 hn8
          refine z_pop dX12_firstFailure_62 rfl ?_
          refine z_iinc_n (n := 1) (a := i) (lv' := [(0, .ref (za g b)), (1, .int (nI (i + 1))), (2, .ref (za g (b + 85 + 2 + i)))]) dX12_firstFailure_63 rfl (by decide) rfl ?_
          refine z_goto (tgt := 2) dX12_firstFailure_66 (by decide) ?_
          refine z_sub (lv' := [(0, .ref (za g b)), (1, .int (nI (i + 1)))]) [0, 1] rfl ?_
          exact ih (i + 1) _ _ (by omega) (by omega) (hfi.tr hf7) hx9 (by rw [← hgo]; rw [scr_step (i := i) (by omega), if_pos hq0])
        · refine z_iload_n dX12_firstFailure_37 rfl ?_
          refine z_iret dX12_firstFailure_38 rfl (by decide) (by decide) ?_
          have hqn : spF (K.getD i zc0).1 (K.getD i zc0).2.1.toInt (K.getD i zc0).2.2.1.toInt (K.getD i zc0).2.2.2.toInt Si ≠ 0 := fun z => h_34_5 (by rw [z])
          have e9 := hgo; rw [scr_step (by omega), if_neg hqn] at e9
          exact ⟨by rw [← e9]; rfl, hfi, by rw [← e9]; exact hi9⟩
  refine z_iconst (v := nI 0) dX12_firstFailure_0 rfl ?_
  refine z_istore_n (lv' := [(0, .ref (za g b)), (1, .int (nI (0)))]) dX12_firstFailure_1 (by decide) rfl ?_
  exact loop (K.length + 1) 0 w S (by omega) (Nat.zero_le _) zFr.rf h rfl
set_option maxRecDepth 100000 in
set_option maxHeartbeats 4000000 in
theorem c_X12_runScript {g : zGT} {w : zW} {b : Nat} {S : zSt} {Hs : List zSt} {Sn : Option zSt} {I O : List Nat} {ep fc : Int32} (h0 : zG0 g) (h1 : zST g) (h : Rx g w b S Hs Sn I O ep fc) : zCt g mX12_runScript (zR 8 2) [.ref (za g b)] w (fun o w' => o = zAns (if (pCmds I 60 0 []).2.2 = 0 then (if (scrGo (pCmds I 60 0 []).1 0 S).1 = -1 then 0 else 3) else 2) (some (.int (nI (pCmds I 60 0 []).1.length))) ∧ zFr w w' b (b + 101) ∧ Rx g w' b (if (if (pCmds I 60 0 []).2.2 = 0 then (if (scrGo (pCmds I 60 0 []).1 0 S).1 = -1 then 0 else 3) else 2) = 0 then (scrGo (pCmds I 60 0 []).1 0 S).2 else S) (if (if (pCmds I 60 0 []).2.2 = 0 then (if (scrGo (pCmds I 60 0 []).1 0 S).1 = -1 then 0 else 3) else 2) = 0 then (S :: Hs).take 8 else Hs) Sn [] O (if (pCmds I 60 0 []).2.2 = 0 then ep else nI (pCmds I 60 0 []).2.1) (if (if (pCmds I 60 0 []).2.2 = 0 then (if (scrGo (pCmds I 60 0 []).1 0 S).1 = -1 then 0 else 3) else 2) = 3 then Int32.ofInt (scrGo (pCmds I 60 0 []).1 0 S).1 else fc)) := by
  have hb := h.1
  have hn := h.st.len
  refine zCt_of (by decide +kernel) h0 [(0, .ref (za g b))] rfl (Nat.le_of_ble_eq_true rfl) ?_
  refine z_aload_n dX12_runScript_0 rfl ?_
  refine z_getf (j := b) dX12_runScript_1 kF_RX12_43 rfl (by omega) h.ce rfl ?_
  refine z_aload_n dX12_runScript_4 rfl ?_
  refine z_getf (j := b) dX12_runScript_5 kF_RX12_57 rfl (by omega) h.ce rfl ?_
  obtain ⟨p0, br0, hI0⟩ := h.inp
  obtain ⟨K0, hK0⟩ := h.sc
  refine z_callR (As := [.ref (za g (b + 85))]) (rest := []) (b := b + 95) (ci := 4) (v := none) (R2 := zR 7 0) dX12_runScript_8 kV_RX12_391 rfl ⟨⟨by decide, by decide⟩, by decide, by decide⟩ (by omega) hI0.2.1 rfl rfl rfl (Nat.le_of_ble_eq_true rfl) rfl (c_X4_readScript h0 h1 rfl hI0 hK0) (fun w1 pw1 => ?_)
  obtain ⟨hf1, hI1, hK1⟩ := pw1
  have hx1 := h.setSI hf1 ⟨hI1, hK1⟩
  refine z_aload_n dX12_runScript_11 rfl ?_
  refine z_callA (As := []) (rest := []) (b := b) (ci := 11) (f := if (pCmds I 60 0 []).2.2 = 0 then 0 else 2) (v := none) (R2 := zR 1 1) dX12_runScript_12 kV_RX12_385 rfl ⟨⟨by decide, by decide⟩, by decide, by decide⟩ (by omega) hx1.ce rfl rfl rfl (Nat.le_of_ble_eq_true rfl) rfl (c_X12_finishReading h0 h1 hx1 hI1) (fun hx3 w2 pw2 => ?_) (fun hq4 w2 pw2 => ?_)
  · have hF : (if (pCmds I 60 0 []).2.2 = 0 then (if (scrGo (pCmds I 60 0 []).1 0 S).1 = -1 then 0 else 3) else 2) = 2 := by rw [if_neg (fun z => hx3 (by rw [z]; rfl))]
    obtain ⟨⟨wm, hf2, hf3⟩, hx2⟩ := pw2
    have e2 : (if (pCmds I 60 0 []).2.2 = 0 then 0 else 2) = 2 := by rw [if_neg (fun z => hx3 (by rw [z]; rfl))]
    rw [e2]
    exact ⟨zAns_n hF (by decide), (hf1.wk (by omega) (by omega)).tr ((hf2.wk (by omega) (by omega)).tr (hf3.wk (by omega) (by omega))), by rw [if_neg (show ¬ (if (pCmds I 60 0 []).2.2 = 0 then (if (scrGo (pCmds I 60 0 []).1 0 S).1 = -1 then 0 else 3) else 2) = 0 by rw [hF]; decide), if_neg (show ¬ (if (pCmds I 60 0 []).2.2 = 0 then (if (scrGo (pCmds I 60 0 []).1 0 S).1 = -1 then 0 else 3) else 2) = 0 by rw [hF]; decide), if_neg (show ¬ (if (pCmds I 60 0 []).2.2 = 0 then (if (scrGo (pCmds I 60 0 []).1 0 S).1 = -1 then 0 else 3) else 2) = 3 by rw [hF]; decide)]; exact hx2⟩
  obtain ⟨⟨wm, hf2, hf3⟩, hx2⟩ := pw2
  have hbr : (pCmds I 60 0 []).2.2 = 0 := by have q := hq4; split at q; assumption; omega
  refine z_aload_n dX12_runScript_15 rfl ?_
  refine z_getf (j := b) dX12_runScript_16 kF_RX12_16 rfl (by omega) hx2.ce rfl ?_
  refine z_aload_n dX12_runScript_19 rfl ?_
  refine z_getf (j := b) dX12_runScript_20 kF_RX12_12 rfl (by omega) hx2.ce rfl ?_
  obtain ⟨B0, hB0⟩ := hx2.bf
  refine z_callR (As := [.ref (za g (b + 1))]) (rest := []) (b := b + 66) (ci := 10) (v := none) (R2 := zR 3 0) dX12_runScript_23 kV_RX12_395 rfl ⟨⟨by decide, by decide⟩, by decide, by decide⟩ (by omega) hB0.cell rfl rfl rfl (Nat.le_of_ble_eq_true rfl) rfl (tS_become h0 h1 hB0 hx2.st (by omega)) (fun w5 pw5 => ?_)
  obtain ⟨hf6, hn7⟩ := pw5
  have hx8 := hx2.setBf hf6 hn7
  refine z_aload_n dX12_runScript_26 rfl ?_
  refine z_callR (As := []) (rest := []) (b := b) (ci := 11) (v := some (.int (Int32.ofInt (scrGo (pCmds I 60 0 []).1 0 S).1))) (R2 := zR 5 0) dX12_runScript_27 kV_RX12_398 rfl ⟨⟨by decide, by decide⟩, by decide, by decide⟩ (by omega) hx8.ce rfl rfl rfl (Nat.le_of_ble_eq_true rfl) rfl (c_X12_firstFailure (K := (pCmds I 60 0 []).1) h0 h1 hx8 (((hK1.fr hf2 (by omega)).fr hf3 (by omega)).fr hf6 (by omega))) (fun w9 pw9 => ?_)
  obtain ⟨hff, hxf⟩ := pw9
  have hrg := scrGo_rng (K := (pCmds I 60 0 []).1) (i := 0) (S := S)
  have hK8 := hK1.lt.2
  have eof : (Int32.ofInt (scrGo (pCmds I 60 0 []).1 0 S).1).toInt = (scrGo (pCmds I 60 0 []).1 0 S).1 := ofInt_toInt (by omega) (by omega)
  refine z_istore_n (lv' := [(0, .ref (za g b)), (1, .int (Int32.ofInt (scrGo (pCmds I 60 0 []).1 0 S).1))]) dX12_runScript_30 (by decide) rfl ?_
  refine z_iload_n dX12_runScript_31 rfl ?_
  refine z_iconst (v := -1) dX12_runScript_32 rfl ?_
  have hk11 : (-1 : Int32).toInt = -1 := by decide
  refine z_icmp_eq_z (tgt := 58) dX12_runScript_33 (by decide) (fun h_33_10 => ?_) (fun h_33_10 => ?_)
  · refine z_aload_n dX12_runScript_58 rfl ?_
    refine z_getf (j := b) dX12_runScript_59 kF_RX12_25 rfl (by omega) hxf.ce rfl ?_
    refine z_aload_n dX12_runScript_62 rfl ?_
    refine z_getf (j := b) dX12_runScript_63 kF_RX12_16 rfl (by omega) hxf.ce rfl ?_
    obtain ⟨fsH, hcH⟩ := hxf.hi.cellx
    refine z_callR (As := [.ref (za g (b + 66))]) (rest := []) (b := b + 8) (ci := 3) (v := none) (R2 := zR 4 0) dX12_runScript_66 kV_RX12_123 rfl ⟨⟨by decide, by decide⟩, by decide, by decide⟩ (by omega) hcH rfl rfl rfl (Nat.le_of_ble_eq_true rfl) rfl (c_X3_push h0 h1 hxf.hi (hn7.fr hff (by omega)) (by omega)) (fun w12 pw12 => ?_)
    obtain ⟨hf13, hn14⟩ := pw12
    have hx15 := hxf.setHi hf13 hn14
    refine z_aload_n dX12_runScript_69 rfl ?_
    refine z_getf (j := b) dX12_runScript_70 kF_RX12_57 rfl (by omega) hx15.ce rfl ?_
    have hK5 := ((((hK1.fr hf2 (by omega)).fr hf3 (by omega)).fr hf6 (by omega)).fr hff (by omega)).fr hf13 (by omega)
    refine z_callE (As := []) (rest := []) (b := b + 85) (ci := 9) (v := some (.int (nI ((pCmds I 60 0 []).1.length)))) (R2 := zR 0 0) dX12_runScript_73 kV_RX12_401 rfl ⟨⟨by decide, by decide⟩, by decide, by decide⟩ (by omega) hK5.cell rfl rfl rfl (Nat.le_of_ble_eq_true rfl) rfl (c_X9_count h0 hK5) ?_
    refine z_iret dX12_runScript_76 rfl (by decide) (by decide) ?_
    have hF : (if (pCmds I 60 0 []).2.2 = 0 then (if (scrGo (pCmds I 60 0 []).1 0 S).1 = -1 then 0 else 3) else 2) = 0 := by rw [if_pos hbr, if_pos (by omega)]
    exact ⟨zAns_y hF rfl, (((((hf1.wk (by omega) (by omega)).tr ((hf2.wk (by omega) (by omega)).tr (hf3.wk (by omega) (by omega)))).tr (hf6.wk (by omega) (by omega))).tr (hff.wk (by omega) (by omega))).tr (hf13.wk (by omega) (by omega))), by rw [if_pos hF, if_pos hF, if_neg (show ¬ (if (pCmds I 60 0 []).2.2 = 0 then (if (scrGo (pCmds I 60 0 []).1 0 S).1 = -1 then 0 else 3) else 2) = 3 by rw [hF]; decide)]; exact hx15⟩
  · refine z_aload_n dX12_runScript_36 rfl ?_
    refine z_getf (j := b) dX12_runScript_37 kF_RX12_12 rfl (by omega) hxf.ce rfl ?_
    refine z_aload_n dX12_runScript_40 rfl ?_
    refine z_getf (j := b) dX12_runScript_41 kF_RX12_16 rfl (by omega) hxf.ce rfl ?_
    refine z_callR (As := [.ref (za g (b + 66))]) (rest := []) (b := b + 1) (ci := 10) (v := none) (R2 := zR 3 0) dX12_runScript_44 kV_RX12_395 rfl ⟨⟨by decide, by decide⟩, by decide, by decide⟩ (by omega) hxf.st.cell rfl rfl rfl (Nat.le_of_ble_eq_true rfl) rfl (tS_become h0 h1 hxf.st (hn7.fr hff (by omega)) (by omega)) (fun w17 pw17 => ?_)
    obtain ⟨hf18, hn19⟩ := pw17
    have hx20 := hxf.setSt hf18 hn19
    refine z_aload_n dX12_runScript_47 rfl ?_
    refine z_iload_n dX12_runScript_48 rfl ?_
    refine z_putf (j := b) dX12_runScript_49 kF_RX12_72 zt_11_12 rfl (by omega) hx20.ce rfl rfl (Nat.le_of_ble_eq_true rfl) ?_
    obtain ⟨w21, ew22⟩ : ∃ wz : zW, wz = va_up w17 b (zO 11 [.ref (za g (b + 1)), .ref (za g (b + 66)), .ref (za g (b + 73)), .ref (za g (b + 8)), .ref (za g (b + 80)), .ref (za g (b + 84)), .ref (za g (b + 95)), .ref (za g (b + 97)), .ref (za g (b + 85)), .ref (za g (b + 99)), .int (nI (if Sn.isSome then 1 else 0)), .int (if (pCmds I 60 0 []).2.2 = 0 then ep else nI (pCmds I 60 0 []).2.1), .int (Int32.ofInt (scrGo (pCmds I 60 0 []).1 0 S).1)]) := ⟨_, rfl⟩
    refine z_weq (w' := w21) ew22.symm ?_
    have hf23 : zFr w17 w21 b (b + 1) := by rw [ew22]; exact zFr.up (by omega)
    have hw24 : w21 b = zO 11 [.ref (za g (b + 1)), .ref (za g (b + 66)), .ref (za g (b + 73)), .ref (za g (b + 8)), .ref (za g (b + 80)), .ref (za g (b + 84)), .ref (za g (b + 95)), .ref (za g (b + 97)), .ref (za g (b + 85)), .ref (za g (b + 99)), .int (nI (if Sn.isSome then 1 else 0)), .int (if (pCmds I 60 0 []).2.2 = 0 then ep else nI (pCmds I 60 0 []).2.1), .int (Int32.ofInt (scrGo (pCmds I 60 0 []).1 0 S).1)] := by rw [ew22, zup_s]
    have hx25 := hx20.setEf (ep2 := if (pCmds I 60 0 []).2.2 = 0 then ep else nI (pCmds I 60 0 []).2.1) (fc2 := Int32.ofInt (scrGo (pCmds I 60 0 []).1 0 S).1) hf23 hw24
    refine z_gets dX12_runScript_52 kG_RX12_151 rfl (h1.fl (i := 3) (by decide)) ?_
    refine z_callSX (As := [.ref (ze g 3)]) (rest := []) (k := 3) (R2 := zR 0 1) dX12_runScript_55 kS_RX12_119 rfl rfl ⟨⟨by decide, by decide⟩, by decide, by decide⟩ rfl (Nat.le_of_ble_eq_true rfl) rfl (c_X12_raise (f := 3) h0 h1 (by decide)) ?_
    have hF : (if (pCmds I 60 0 []).2.2 = 0 then (if (scrGo (pCmds I 60 0 []).1 0 S).1 = -1 then 0 else 3) else 2) = 3 := by rw [if_pos hbr, if_neg (by omega)]
    exact ⟨zAns_n hF (by decide), ((((((hf1.wk (by omega) (by omega)).tr ((hf2.wk (by omega) (by omega)).tr (hf3.wk (by omega) (by omega)))).tr (hf6.wk (by omega) (by omega))).tr (hff.wk (by omega) (by omega))).tr (hf18.wk (by omega) (by omega))).tr (hf23.wk (by omega) (by omega))), by rw [if_neg (show ¬ (if (pCmds I 60 0 []).2.2 = 0 then (if (scrGo (pCmds I 60 0 []).1 0 S).1 = -1 then 0 else 3) else 2) = 0 by rw [hF]; decide), if_neg (show ¬ (if (pCmds I 60 0 []).2.2 = 0 then (if (scrGo (pCmds I 60 0 []).1 0 S).1 = -1 then 0 else 3) else 2) = 0 by rw [hF]; decide), if_pos hF, if_pos hbr]; rw [if_pos hbr] at hx25; exact hx25⟩
set_option maxRecDepth 100000 in
set_option maxHeartbeats 4000000 in
theorem c_X12_errorPosition {g : zGT} {w : zW} {b : Nat} {S : zSt} {Hs : List zSt} {Sn : Option zSt} {I O : List Nat} {ep fc : Int32}  (h0 : zG0 g) (h1 : zST g) (h : Rx g w b S Hs Sn I O ep fc) : zCt g mX12_errorPosition (zR 2 1) [.ref (za g b)] w (fun o w' => o = zAns (if ep.toInt = -1 then 4 else 0) (some (.int ep)) ∧ zFr w w' b (b + 101) ∧ Rx g w' b S Hs Sn I O ep fc) := by
  have hb := h.1
  have hn := h.st.len
  refine zCt_of (by decide +kernel) h0 [(0, .ref (za g b))] rfl (Nat.le_of_ble_eq_true rfl) ?_
  refine z_aload_n dX12_errorPosition_0 rfl ?_
  refine z_getf (j := b) dX12_errorPosition_1 kF_RX12_68 rfl (by omega) h.ce rfl ?_
  refine z_iconst (v := -1) dX12_errorPosition_4 rfl ?_
  have hk2 : (-1 : Int32).toInt = -1 := by decide
  refine z_icmp_eq_z (tgt := 12) dX12_errorPosition_5 (by decide) (fun h_5_1 => ?_) (fun h_5_1 => ?_)
  · refine z_iconst (v := nI 0) dX12_errorPosition_12 rfl ?_
    refine z_gets dX12_errorPosition_13 kG_RX12_159 rfl (h1.fl (i := 4) (by decide)) ?_
    refine z_callSX (As := [.int (nI (0)), .ref (ze g 4)]) (rest := []) (k := 4) (R2 := zR 1 1) dX12_errorPosition_16 kS_RX12_178 rfl rfl ⟨⟨by decide, by decide⟩, by decide, by decide⟩ rfl (Nat.le_of_ble_eq_true rfl) rfl (c_X12_raiseUnless_n (f := 4) h0 h1 (by decide) (by decide)) ?_
    exact ⟨zAns_n (by (repeat' split) <;> omega) (by decide), zFr.rf, h⟩
  · refine z_iconst (v := nI 1) dX12_errorPosition_8 rfl ?_
    refine z_goto (tgt := 13) dX12_errorPosition_9 (by decide) ?_
    refine z_gets dX12_errorPosition_13 kG_RX12_159 rfl (h1.fl (i := 4) (by decide)) ?_
    refine z_callSE (As := [.int (nI (1)), .ref (ze g 4)]) (rest := []) (v := none) (R2 := zR 1 1) dX12_errorPosition_16 kS_RX12_178 rfl rfl ⟨⟨by decide, by decide⟩, by decide, by decide⟩ rfl (Nat.le_of_ble_eq_true rfl) rfl (c_X12_raiseUnless_y h0 h1) ?_
    refine z_aload_n dX12_errorPosition_19 rfl ?_
    refine z_getf (j := b) dX12_errorPosition_20 kF_RX12_68 rfl (by omega) h.ce rfl ?_
    refine z_iret dX12_errorPosition_23 rfl (by decide) (by decide) ?_
    exact ⟨zAns_y (by (repeat' split) <;> omega) rfl, zFr.rf, h⟩
set_option maxRecDepth 100000 in
set_option maxHeartbeats 4000000 in
theorem c_X12_failedCommand {g : zGT} {w : zW} {b : Nat} {S : zSt} {Hs : List zSt} {Sn : Option zSt} {I O : List Nat} {ep fc : Int32}  (h0 : zG0 g) (h1 : zST g) (h : Rx g w b S Hs Sn I O ep fc) : zCt g mX12_failedCommand (zR 2 1) [.ref (za g b)] w (fun o w' => o = zAns (if fc.toInt = -1 then 4 else 0) (some (.int fc)) ∧ zFr w w' b (b + 101) ∧ Rx g w' b S Hs Sn I O ep fc) := by
  have hb := h.1
  have hn := h.st.len
  refine zCt_of (by decide +kernel) h0 [(0, .ref (za g b))] rfl (Nat.le_of_ble_eq_true rfl) ?_
  refine z_aload_n dX12_failedCommand_0 rfl ?_
  refine z_getf (j := b) dX12_failedCommand_1 kF_RX12_72 rfl (by omega) h.ce rfl ?_
  refine z_iconst (v := -1) dX12_failedCommand_4 rfl ?_
  have hk2 : (-1 : Int32).toInt = -1 := by decide
  refine z_icmp_eq_z (tgt := 12) dX12_failedCommand_5 (by decide) (fun h_5_1 => ?_) (fun h_5_1 => ?_)
  · refine z_iconst (v := nI 0) dX12_failedCommand_12 rfl ?_
    refine z_gets dX12_failedCommand_13 kG_RX12_159 rfl (h1.fl (i := 4) (by decide)) ?_
    refine z_callSX (As := [.int (nI (0)), .ref (ze g 4)]) (rest := []) (k := 4) (R2 := zR 1 1) dX12_failedCommand_16 kS_RX12_178 rfl rfl ⟨⟨by decide, by decide⟩, by decide, by decide⟩ rfl (Nat.le_of_ble_eq_true rfl) rfl (c_X12_raiseUnless_n (f := 4) h0 h1 (by decide) (by decide)) ?_
    exact ⟨zAns_n (by (repeat' split) <;> omega) (by decide), zFr.rf, h⟩
  · refine z_iconst (v := nI 1) dX12_failedCommand_8 rfl ?_
    refine z_goto (tgt := 13) dX12_failedCommand_9 (by decide) ?_
    refine z_gets dX12_failedCommand_13 kG_RX12_159 rfl (h1.fl (i := 4) (by decide)) ?_
    refine z_callSE (As := [.int (nI (1)), .ref (ze g 4)]) (rest := []) (v := none) (R2 := zR 1 1) dX12_failedCommand_16 kS_RX12_178 rfl rfl ⟨⟨by decide, by decide⟩, by decide, by decide⟩ rfl (Nat.le_of_ble_eq_true rfl) rfl (c_X12_raiseUnless_y h0 h1) ?_
    refine z_aload_n dX12_failedCommand_19 rfl ?_
    refine z_getf (j := b) dX12_failedCommand_20 kF_RX12_72 rfl (by omega) h.ce rfl ?_
    refine z_iret dX12_failedCommand_23 rfl (by decide) (by decide) ?_
    exact ⟨zAns_y (by (repeat' split) <;> omega) rfl, zFr.rf, h⟩
set_option maxRecDepth 100000 in
set_option maxHeartbeats 4000000 in
theorem c_X12_undo_0 {g : zGT} {w : zW} {b : Nat} {S S1 : zSt} {Hs1 : List zSt} {Sn : Option zSt} {I O : List Nat} {ep fc : Int32} (h0 : zG0 g) (h1 : zST g) (h : Rx g w b S [] Sn I O ep fc) : zCt g mX12_undo (zR 5 1) [.ref (za g b)] w (fun o w' => o = zAns (if ([] : List zSt).length = 0 then 3 else 0) (some (.int (nI ([] : List zSt).tail.length))) ∧ zFr w w' b (b + 101) ∧ Rx g w' b (([] : List zSt).headD S) ([] : List zSt).tail Sn I O ep fc) := by
  have hb := h.1
  have hn := h.st.len
  have hh8 := h.hi.lt
  refine zCt_of (by decide +kernel) h0 [(0, .ref (za g b))] rfl (Nat.le_of_ble_eq_true rfl) ?_
  refine z_aload_n dX12_undo_0 rfl ?_
  refine z_getf (j := b) dX12_undo_1 kF_RX12_25 rfl (by omega) h.ce rfl ?_
  obtain ⟨fsH, hcH⟩ := h.hi.cellx
  refine z_callE (As := []) (rest := []) (b := b + 8) (ci := 3) (v := some (.int (nI (([]).length)))) (R2 := zR 0 0) dX12_undo_4 kV_RX12_429 rfl ⟨⟨by decide, by decide⟩, by decide, by decide⟩ (by omega) hcH rfl rfl rfl (Nat.le_of_ble_eq_true rfl) rfl (c_X3_count h0 h.hi) ?_
  refine z_if_le_n (a := ([]).length) (tgt := 14) dX12_undo_7 (by decide) (by omega) (fun h_7_2 => ?_) (fun h_7_2 => ?_)
  · refine z_iconst (v := nI 0) dX12_undo_14 rfl ?_
    refine z_gets dX12_undo_15 kG_RX12_151 rfl (h1.fl (i := 3) (by decide)) ?_
    refine z_callSX (As := [.int (nI (0)), .ref (ze g 3)]) (rest := []) (k := 3) (R2 := zR 1 1) dX12_undo_18 kS_RX12_178 rfl rfl ⟨⟨by decide, by decide⟩, by decide, by decide⟩ rfl (Nat.le_of_ble_eq_true rfl) rfl (c_X12_raiseUnless_n (f := 3) h0 h1 (by decide) (by decide)) ?_
    exact ⟨rfl, zFr.rf, h⟩
  · (exfalso; simp only [List.length_nil] at h_7_2; omega)
set_option maxRecDepth 100000 in
set_option maxHeartbeats 4000000 in
theorem c_X12_undo_1 {g : zGT} {w : zW} {b : Nat} {S S1 : zSt} {Hs1 : List zSt} {Sn : Option zSt} {I O : List Nat} {ep fc : Int32} (h0 : zG0 g) (h1 : zST g) (h : Rx g w b S (S1 :: Hs1) Sn I O ep fc) : zCt g mX12_undo (zR 5 1) [.ref (za g b)] w (fun o w' => o = zAns (if ((S1 :: Hs1) : List zSt).length = 0 then 3 else 0) (some (.int (nI ((S1 :: Hs1) : List zSt).tail.length))) ∧ zFr w w' b (b + 101) ∧ Rx g w' b (((S1 :: Hs1) : List zSt).headD S) ((S1 :: Hs1) : List zSt).tail Sn I O ep fc) := by
  have hb := h.1
  have hn := h.st.len
  have hh8 := h.hi.lt
  refine zCt_of (by decide +kernel) h0 [(0, .ref (za g b))] rfl (Nat.le_of_ble_eq_true rfl) ?_
  refine z_aload_n dX12_undo_0 rfl ?_
  refine z_getf (j := b) dX12_undo_1 kF_RX12_25 rfl (by omega) h.ce rfl ?_
  obtain ⟨fsH, hcH⟩ := h.hi.cellx
  refine z_callE (As := []) (rest := []) (b := b + 8) (ci := 3) (v := some (.int (nI ((S1 :: Hs1).length)))) (R2 := zR 0 0) dX12_undo_4 kV_RX12_429 rfl ⟨⟨by decide, by decide⟩, by decide, by decide⟩ (by omega) hcH rfl rfl rfl (Nat.le_of_ble_eq_true rfl) rfl (c_X3_count h0 h.hi) ?_
  refine z_if_le_n (a := (S1 :: Hs1).length) (tgt := 14) dX12_undo_7 (by decide) (by omega) (fun h_7_2 => ?_) (fun h_7_2 => ?_)
  · (exfalso; simp only [List.length_cons] at h_7_2; omega)
  · refine z_iconst (v := nI 1) dX12_undo_10 rfl ?_
    refine z_goto (tgt := 15) dX12_undo_11 (by decide) ?_
    refine z_gets dX12_undo_15 kG_RX12_151 rfl (h1.fl (i := 3) (by decide)) ?_
    refine z_callSE (As := [.int (nI (1)), .ref (ze g 3)]) (rest := []) (v := none) (R2 := zR 1 1) dX12_undo_18 kS_RX12_178 rfl rfl ⟨⟨by decide, by decide⟩, by decide, by decide⟩ rfl (Nat.le_of_ble_eq_true rfl) rfl (c_X12_raiseUnless_y h0 h1) ?_
    refine z_aload_n dX12_undo_21 rfl ?_
    refine z_getf (j := b) dX12_undo_22 kF_RX12_25 rfl (by omega) h.ce rfl ?_
    refine z_aload_n dX12_undo_25 rfl ?_
    refine z_getf (j := b) dX12_undo_26 kF_RX12_12 rfl (by omega) h.ce rfl ?_
    obtain ⟨fsH, hcH⟩ := h.hi.cellx
    refine z_callR (As := [.ref (za g (b + 1))]) (rest := []) (b := b + 8) (ci := 3) (v := none) (R2 := zR 4 0) dX12_undo_29 kV_RX12_430 rfl ⟨⟨by decide, by decide⟩, by decide, by decide⟩ (by omega) hcH rfl rfl rfl (Nat.le_of_ble_eq_true rfl) rfl (c_X3_pop h0 h1 h.hi h.st (by omega)) (fun w4 pw4 => ?_)
    obtain ⟨hf5, hn6⟩ := pw4
    have hx7 := h.setSH hf5 hn6
    refine z_aload_n dX12_undo_32 rfl ?_
    refine z_getf (j := b) dX12_undo_33 kF_RX12_25 rfl (by omega) hx7.ce rfl ?_
    obtain ⟨fsH, hcH⟩ := hx7.hi.cellx
    refine z_callE (As := []) (rest := []) (b := b + 8) (ci := 3) (v := some (.int (nI (Hs1.length)))) (R2 := zR 0 0) dX12_undo_36 kV_RX12_429 rfl ⟨⟨by decide, by decide⟩, by decide, by decide⟩ (by omega) hcH rfl rfl rfl (Nat.le_of_ble_eq_true rfl) rfl (c_X3_count h0 hx7.hi) ?_
    refine z_iret dX12_undo_39 rfl (by decide) (by decide) ?_
    exact ⟨rfl, (hf5.wk (by omega) (by omega)), hx7⟩
theorem c_X12_undo {g : zGT} {w : zW} {b : Nat} {S : zSt} {Hs : List zSt} {Sn : Option zSt} {I O : List Nat} {ep fc : Int32} (h0 : zG0 g) (h1 : zST g) (h : Rx g w b S Hs Sn I O ep fc) : zCt g mX12_undo (zR 5 1) [.ref (za g b)] w (fun o w' => o = zAns (if Hs.length = 0 then 3 else 0) (some (.int (nI Hs.tail.length))) ∧ zFr w w' b (b + 101) ∧ Rx g w' b (Hs.headD S) Hs.tail Sn I O ep fc) := by
  cases Hs with
  | nil => exact c_X12_undo_0 (S1 := zs0) (Hs1 := []) h0 h1 h
  | cons S1 Hs1 => exact c_X12_undo_1 h0 h1 h
set_option maxRecDepth 100000 in
set_option maxHeartbeats 4000000 in
theorem c_X12_save {g : zGT} {w : zW} {b : Nat} {S : zSt} {Hs : List zSt} {Sn : Option zSt} {I O : List Nat} {ep fc : Int32} (h0 : zG0 g) (h1 : zST g) (h : Rx g w b S Hs Sn I O ep fc) : zCt g mX12_save (zR 4 0) [.ref (za g b)] w (fun o w' => o = .inl (some (.int (nI S.1.length))) ∧ zFr w w' b (b + 101) ∧ Rx g w' b S Hs (some S) I O ep fc) := by
  have hb := h.1
  have hn := h.st.len
  refine zCt_of (by decide +kernel) h0 [(0, .ref (za g b))] rfl (Nat.le_of_ble_eq_true rfl) ?_
  refine z_aload_n dX12_save_0 rfl ?_
  refine z_getf (j := b) dX12_save_1 kF_RX12_19 rfl (by omega) h.ce rfl ?_
  refine z_aload_n dX12_save_4 rfl ?_
  refine z_getf (j := b) dX12_save_5 kF_RX12_12 rfl (by omega) h.ce rfl ?_
  obtain ⟨Z0, hZ0, hZe⟩ := h.sn
  refine z_callR (As := [.ref (za g (b + 1))]) (rest := []) (b := b + 73) (ci := 10) (v := none) (R2 := zR 3 0) dX12_save_8 kV_RX12_395 rfl ⟨⟨by decide, by decide⟩, by decide, by decide⟩ (by omega) hZ0.cell rfl rfl rfl (Nat.le_of_ble_eq_true rfl) rfl (tS_become h0 h1 hZ0 h.st (by omega)) (fun w1 pw1 => ?_)
  obtain ⟨hf2, hn3⟩ := pw1
  have hx4 := h.setSn hf2 hn3
  refine z_aload_n dX12_save_11 rfl ?_
  refine z_iconst (v := nI 1) dX12_save_12 rfl ?_
  refine z_putf (j := b) dX12_save_13 kF_RX12_433 zt_11_10 rfl (by omega) hx4.ce rfl rfl (Nat.le_of_ble_eq_true rfl) ?_
  obtain ⟨w5, ew6⟩ : ∃ wz : zW, wz = va_up w1 b (zO 11 [.ref (za g (b + 1)), .ref (za g (b + 66)), .ref (za g (b + 73)), .ref (za g (b + 8)), .ref (za g (b + 80)), .ref (za g (b + 84)), .ref (za g (b + 95)), .ref (za g (b + 97)), .ref (za g (b + 85)), .ref (za g (b + 99)), .int (nI (1)), .int (ep), .int (fc)]) := ⟨_, rfl⟩
  refine z_weq (w' := w5) ew6.symm ?_
  have hf7 : zFr w1 w5 b (b + 1) := by rw [ew6]; exact zFr.up (by omega)
  have hw8 : w5 b = zO 11 [.ref (za g (b + 1)), .ref (za g (b + 66)), .ref (za g (b + 73)), .ref (za g (b + 8)), .ref (za g (b + 80)), .ref (za g (b + 84)), .ref (za g (b + 95)), .ref (za g (b + 97)), .ref (za g (b + 85)), .ref (za g (b + 99)), .int (nI (1)), .int (ep), .int (fc)] := by rw [ew6, zup_s]
  have hx9 := hx4.setSv hf7 hw8 hn3
  refine z_aload_n dX12_save_16 rfl ?_
  refine z_getf (j := b) dX12_save_17 kF_RX12_12 rfl (by omega) hx9.ce rfl ?_
  refine z_getfN (j := b + 1) dX12_save_20 kN_RX12_167 rfl (by omega) hx9.st.cell rfl ?_
  refine z_callE (As := []) (rest := []) (b := b + 1 + 1) (ci := 5) (v := some (.int (nI (S.1.length)))) (R2 := zR 0 0) dX12_save_23 kV_RX12_170 rfl ⟨⟨by decide, by decide⟩, by decide, by decide⟩ (by omega) hx9.st.tl.cell rfl rfl rfl (Nat.le_of_ble_eq_true rfl) rfl (tc_size h0 hx9.st.tl) ?_
  refine z_iret dX12_save_26 rfl (by decide) (by decide) ?_
  exact ⟨rfl, ((hf2.wk (by omega) (by omega)).tr (hf7.wk (by omega) (by omega))), hx9⟩
set_option maxRecDepth 100000 in
set_option maxHeartbeats 4000000 in
theorem c_X12_restore_0 {g : zGT} {w : zW} {b : Nat} {S Z : zSt} {Hs : List zSt} {I O : List Nat} {ep fc : Int32} (h0 : zG0 g) (h1 : zST g) (h : Rx g w b S Hs none I O ep fc) : zCt g mX12_restore (zR 4 1) [.ref (za g b)] w (fun o w' => o = zAns (if (none : Option zSt).isSome then 0 else 3) (some (.int (nI ((none : Option zSt).getD S).1.length))) ∧ zFr w w' b (b + 101) ∧ Rx g w' b ((none : Option zSt).getD S) (if (none : Option zSt).isSome then [] else Hs) none I O ep fc) := by
  have hb := h.1
  have hn := h.st.len
  refine zCt_of (by decide +kernel) h0 [(0, .ref (za g b))] rfl (Nat.le_of_ble_eq_true rfl) ?_
  refine z_aload_n dX12_restore_0 rfl ?_
  refine z_getf (j := b) dX12_restore_1 kF_RX12_433 rfl (by omega) h.ce rfl ?_
  refine z_gets dX12_restore_4 kG_RX12_151 rfl (h1.fl (i := 3) (by decide)) ?_
  refine z_callSX (As := [.int (nI (0)), .ref (ze g 3)]) (rest := []) (k := 3) (R2 := zR 1 1) dX12_restore_7 kS_RX12_178 rfl rfl ⟨⟨by decide, by decide⟩, by decide, by decide⟩ rfl (Nat.le_of_ble_eq_true rfl) rfl (c_X12_raiseUnless_n (f := 3) h0 h1 (by decide) (by decide)) ?_
  exact ⟨rfl, zFr.rf, h⟩
set_option maxRecDepth 100000 in
set_option maxHeartbeats 4000000 in
theorem c_X12_restore_1 {g : zGT} {w : zW} {b : Nat} {S Z : zSt} {Hs : List zSt} {I O : List Nat} {ep fc : Int32} (h0 : zG0 g) (h1 : zST g) (h : Rx g w b S Hs (some Z) I O ep fc) : zCt g mX12_restore (zR 4 1) [.ref (za g b)] w (fun o w' => o = zAns (if ((some Z) : Option zSt).isSome then 0 else 3) (some (.int (nI (((some Z) : Option zSt).getD S).1.length))) ∧ zFr w w' b (b + 101) ∧ Rx g w' b (((some Z) : Option zSt).getD S) (if ((some Z) : Option zSt).isSome then [] else Hs) (some Z) I O ep fc) := by
  have hb := h.1
  have hn := h.st.len
  refine zCt_of (by decide +kernel) h0 [(0, .ref (za g b))] rfl (Nat.le_of_ble_eq_true rfl) ?_
  refine z_aload_n dX12_restore_0 rfl ?_
  refine z_getf (j := b) dX12_restore_1 kF_RX12_433 rfl (by omega) h.ce rfl ?_
  refine z_gets dX12_restore_4 kG_RX12_151 rfl (h1.fl (i := 3) (by decide)) ?_
  refine z_callSE (As := [.int (nI (1)), .ref (ze g 3)]) (rest := []) (v := none) (R2 := zR 1 1) dX12_restore_7 kS_RX12_178 rfl rfl ⟨⟨by decide, by decide⟩, by decide, by decide⟩ rfl (Nat.le_of_ble_eq_true rfl) rfl (c_X12_raiseUnless_y h0 h1) ?_
  refine z_aload_n dX12_restore_10 rfl ?_
  refine z_getf (j := b) dX12_restore_11 kF_RX12_12 rfl (by omega) h.ce rfl ?_
  refine z_aload_n dX12_restore_14 rfl ?_
  refine z_getf (j := b) dX12_restore_15 kF_RX12_19 rfl (by omega) h.ce rfl ?_
  obtain ⟨Z0, hZ0, hZe⟩ := h.sn
  have hZ9 := hZe _ rfl
  subst hZ9
  refine z_callR (As := [.ref (za g (b + 73))]) (rest := []) (b := b + 1) (ci := 10) (v := none) (R2 := zR 3 0) dX12_restore_18 kV_RX12_395 rfl ⟨⟨by decide, by decide⟩, by decide, by decide⟩ (by omega) h.st.cell rfl rfl rfl (Nat.le_of_ble_eq_true rfl) rfl (tS_become h0 h1 h.st hZ0 (by omega)) (fun w2 pw2 => ?_)
  obtain ⟨hf3, hn4⟩ := pw2
  have hx5 := h.setSt hf3 hn4
  refine z_aload_n dX12_restore_21 rfl ?_
  refine z_getf (j := b) dX12_restore_22 kF_RX12_25 rfl (by omega) hx5.ce rfl ?_
  obtain ⟨fsH, hcH⟩ := hx5.hi.cellx
  refine z_callR (As := []) (rest := []) (b := b + 8) (ci := 3) (v := none) (R2 := zR 0 0) dX12_restore_25 kV_RX12_437 rfl ⟨⟨by decide, by decide⟩, by decide, by decide⟩ (by omega) hcH rfl rfl rfl (Nat.le_of_ble_eq_true rfl) rfl (c_X3_clear h0 hx5.hi) (fun w6 pw6 => ?_)
  obtain ⟨hf7, hn8⟩ := pw6
  have hx9 := hx5.setHi hf7 hn8
  refine z_aload_n dX12_restore_28 rfl ?_
  refine z_getf (j := b) dX12_restore_29 kF_RX12_12 rfl (by omega) hx9.ce rfl ?_
  refine z_getfN (j := b + 1) dX12_restore_32 kN_RX12_167 rfl (by omega) hx9.st.cell rfl ?_
  refine z_callE (As := []) (rest := []) (b := b + 1 + 1) (ci := 5) (v := some (.int (nI (Z.1.length)))) (R2 := zR 0 0) dX12_restore_35 kV_RX12_170 rfl ⟨⟨by decide, by decide⟩, by decide, by decide⟩ (by omega) hx9.st.tl.cell rfl rfl rfl (Nat.le_of_ble_eq_true rfl) rfl (tc_size h0 hx9.st.tl) ?_
  refine z_iret dX12_restore_38 rfl (by decide) (by decide) ?_
  exact ⟨rfl, ((hf3.wk (by omega) (by omega)).tr (hf7.wk (by omega) (by omega))), hx9⟩
theorem c_X12_restore {g : zGT} {w : zW} {b : Nat} {S : zSt} {Hs : List zSt} {Sn : Option zSt} {I O : List Nat} {ep fc : Int32} (h0 : zG0 g) (h1 : zST g) (h : Rx g w b S Hs Sn I O ep fc) : zCt g mX12_restore (zR 4 1) [.ref (za g b)] w (fun o w' => o = zAns (if Sn.isSome then 0 else 3) (some (.int (nI (Sn.getD S).1.length))) ∧ zFr w w' b (b + 101) ∧ Rx g w' b (Sn.getD S) (if Sn.isSome then [] else Hs) Sn I O ep fc) := by
  cases Sn with
  | none => exact c_X12_restore_0 (Z := zs0) h0 h1 h
  | some Z => exact c_X12_restore_1 h0 h1 h
