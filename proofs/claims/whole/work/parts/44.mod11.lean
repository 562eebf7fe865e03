/-! the reference: what it reads -/
set_option maxRecDepth 100000 in
set_option maxHeartbeats 4000000 in
theorem c_X13_sign_y {g : zGT} {w : zW} {b : Nat} {th ch ea fa sv tn  ln kn wr dg : Int32} {fv fb fs fp fh ft fl fi : Nat → Int32} {I : List Nat} {p : Nat} (h0 : zG0 g) (h : Mx g w b th ch ea fa sv tn (nI p) (nI I.length) ln kn wr dg fv fb fs fp fh ft fl fi) (htx : TxR ft I) (hp9 : p ≤ 100) (e : p < I.length) : zCt g mX13_sign (zR 0 0) [.ref (za g b)] w (fun o w' => o = .inl (some (.int (nI (I.getD p 0)))) ∧ w' = w) := by
  have hb := h.1
  have htl := htx.1
  refine zCt_of (by decide +kernel) h0 [(0, .ref (za g b))] rfl (Nat.le_of_ble_eq_true rfl) ?_
  refine z_aload_n dX13_sign_0 rfl ?_
  refine z_getf (j := b) dX13_sign_1 kF_RX13_187 rfl (by omega) h.ce rfl ?_
  refine z_aload_n dX13_sign_4 rfl ?_
  refine z_getf (j := b) dX13_sign_5 kF_RX13_190 rfl (by omega) h.ce rfl ?_
  refine z_icmp_ge_n (a := p) (b := I.length) (tgt := 23) dX13_sign_8 (by decide) (by omega) (by omega) (fun h_8_1 => ?_) (fun h_8_1 => ?_)
  · (exfalso; omega)
  · refine z_aload_n dX13_sign_11 rfl ?_
    refine z_getf (j := b) dX13_sign_12 kF_RX13_32 rfl (by omega) h.ce rfl ?_
    refine z_aload_n dX13_sign_15 rfl ?_
    refine z_getf (j := b) dX13_sign_16 kF_RX13_187 rfl (by omega) h.ce rfl ?_
    refine z_iald_v (j := b + 6) (N := 60) (a := p) (x := I.getD (p) 0) (f := ft) dX13_sign_19 (by omega) h.r6 (by omega) (by omega) (htx.2.1 _ (by omega)) ?_
    refine z_goto (tgt := 24) dX13_sign_20 (by decide) ?_
    refine z_iret dX13_sign_24 rfl (by decide) (by decide) ?_
    exact ⟨rfl, rfl⟩
set_option maxRecDepth 100000 in
set_option maxHeartbeats 4000000 in
theorem c_X13_sign_n {g : zGT} {w : zW} {b : Nat} {th ch ea fa sv tn  ln kn wr dg : Int32} {fv fb fs fp fh ft fl fi : Nat → Int32} {I : List Nat} {p : Nat} (h0 : zG0 g) (h : Mx g w b th ch ea fa sv tn (nI p) (nI I.length) ln kn wr dg fv fb fs fp fh ft fl fi) (htx : TxR ft I) (hp9 : p ≤ 100) (e : ¬ p < I.length) : zCt g mX13_sign (zR 0 0) [.ref (za g b)] w (fun o w' => o = .inl (some (.int (-1))) ∧ w' = w) := by
  have hb := h.1
  have htl := htx.1
  refine zCt_of (by decide +kernel) h0 [(0, .ref (za g b))] rfl (Nat.le_of_ble_eq_true rfl) ?_
  refine z_aload_n dX13_sign_0 rfl ?_
  refine z_getf (j := b) dX13_sign_1 kF_RX13_187 rfl (by omega) h.ce rfl ?_
  refine z_aload_n dX13_sign_4 rfl ?_
  refine z_getf (j := b) dX13_sign_5 kF_RX13_190 rfl (by omega) h.ce rfl ?_
  refine z_icmp_ge_n (a := p) (b := I.length) (tgt := 23) dX13_sign_8 (by decide) (by omega) (by omega) (fun h_8_1 => ?_) (fun h_8_1 => ?_)
  · refine z_iconst (v := -1) dX13_sign_23 rfl ?_
    refine z_iret dX13_sign_24 rfl (by decide) (by decide) ?_
    exact ⟨rfl, rfl⟩
  · (exfalso; omega)
set_option maxRecDepth 100000 in
set_option maxHeartbeats 4000000 in
theorem c_X13_mark {g : zGT} {w : zW} {b : Nat} {th ch ea fa sv tn  ln kn dg : Int32} {fv fb fs fp fh ft fl fi : Nat → Int32} {I : List Nat} {p br : Nat} {c : Nat} (h0 : zG0 g) (h : Mx g w b th ch ea fa sv tn (nI p) (nI I.length) ln kn (nI br) dg fv fb fs fp fh ft fl fi) (htx : TxR ft I) (hp9 : p ≤ 100) (hbr : br ≤ 1) (hc : 1 ≤ c ∧ c ≤ 126) : zCt g mX13_mark (zR 1 0) [.ref (za g b), .int (nI (c))] w (fun o w' => o = .inl none ∧ zFr w w' b (b + 11) ∧ Mx g w' b th ch ea fa sv tn (nI (pExp I c p br).1) (nI I.length) ln kn (nI (pExp I c p br).2) dg fv fb fs fp fh ft fl fi) := by
  have hb := h.1
  have htl := htx.1
  refine zCt_of (by decide +kernel) h0 [(0, .ref (za g b)), (1, .int (nI (c)))] rfl (Nat.le_of_ble_eq_true rfl) ?_
  refine z_aload_n dX13_mark_0 rfl ?_
  refine z_getf (j := b) dX13_mark_1 kF_RX13_193 rfl (by omega) h.ce rfl ?_
  refine z_if_eq_n (a := br) (tgt := 8) dX13_mark_4 (by decide) (by omega) (fun h_4_1 => ?_) (fun h_4_1 => ?_)
  · refine z_aload_n dX13_mark_8 rfl ?_
    refine z_aload_n dX13_mark_9 rfl ?_
    by_cases hc2 : p < I.length
    · have hch3 := htx.2.2 _ (get_mem hc2)
      refine z_callE (As := []) (rest := [.ref (za g b)]) (b := b) (ci := 12) (v := some (.int (nI (I.getD (p) 0)))) (R2 := zR 0 0) dX13_mark_10 kV_RX13_197 rfl ⟨⟨by decide, by decide⟩, by decide, by decide⟩ (by omega) h.ce rfl rfl rfl (Nat.le_of_ble_eq_true rfl) rfl (c_X13_sign_y (p := p) h0 h htx (by omega) hc2) ?_
      refine z_iload_n dX13_mark_13 rfl ?_
      refine z_icmp_eq_n (a := I.getD (p) 0) (b := c) (tgt := 21) dX13_mark_14 (by decide) (by omega) (by omega) (fun h_14_5 => ?_) (fun h_14_5 => ?_)
      · refine z_iconst (v := nI 0) dX13_mark_21 rfl ?_
        refine z_putf (j := b) dX13_mark_22 kF_RX13_193 zt_12_20 rfl (by omega) h.ce rfl rfl (Nat.le_of_ble_eq_true rfl) ?_
        obtain ⟨w6, ew7⟩ : ∃ wz : zW, wz = va_up w (b) (zO 12 [.int (th), .int (ch), .int (ea), .int (fa), .int (sv), .ref (za g (b + 1)), .ref (za g (b + 2)), .ref (za g (b + 3)), .ref (za g (b + 4)), .ref (za g (b + 5)), .ref (za g (b + 6)), .ref (za g (b + 7)), .ref (za g (b + 8)), .ref (za g (b + 9)), .ref (za g (b + 10)), .int (tn), .int (nI (p)), .int (nI (I.length)), .int (ln), .int (kn), .int (nI (0)), .int (dg)]) := ⟨_, rfl⟩
        refine z_weq (w' := w6) ew7.symm ?_
        have hf8 : zFr w w6 (b) (b + 1) := by rw [ew7]; exact zFr.up (by omega)
        have hw9 : w6 (b) = zO 12 [.int (th), .int (ch), .int (ea), .int (fa), .int (sv), .ref (za g (b + 1)), .ref (za g (b + 2)), .ref (za g (b + 3)), .ref (za g (b + 4)), .ref (za g (b + 5)), .ref (za g (b + 6)), .ref (za g (b + 7)), .ref (za g (b + 8)), .ref (za g (b + 9)), .ref (za g (b + 10)), .int (tn), .int (nI (p)), .int (nI (I.length)), .int (ln), .int (kn), .int (nI (0)), .int (dg)] := by rw [ew7, zup_s]
        have hx10 := h.setC hf8 hw9
        refine z_aload_n dX13_mark_25 rfl ?_
        refine z_dup dX13_mark_26 rfl ?_
        refine z_getf (j := b) dX13_mark_27 kF_RX13_187 rfl (by omega) hx10.ce rfl ?_
        refine z_aload_n dX13_mark_30 rfl ?_
        refine z_getf (j := b) dX13_mark_31 kF_RX13_193 rfl (by omega) hx10.ce rfl ?_
        refine z_if_eq_n (a := 0) (tgt := 41) dX13_mark_34 (by decide) (by omega) (fun h_34_11 => ?_) (fun h_34_11 => ?_)
        · refine z_iconst (v := nI 1) dX13_mark_41 rfl ?_
          refine z_iadd_n (a := p) (b := 1) dX13_mark_42 ?_
          refine z_putf (j := b) dX13_mark_43 kF_RX13_187 zt_12_16 rfl (by omega) hx10.ce rfl rfl (Nat.le_of_ble_eq_true rfl) ?_
          obtain ⟨w12, ew13⟩ : ∃ wz : zW, wz = va_up w6 (b) (zO 12 [.int (th), .int (ch), .int (ea), .int (fa), .int (sv), .ref (za g (b + 1)), .ref (za g (b + 2)), .ref (za g (b + 3)), .ref (za g (b + 4)), .ref (za g (b + 5)), .ref (za g (b + 6)), .ref (za g (b + 7)), .ref (za g (b + 8)), .ref (za g (b + 9)), .ref (za g (b + 10)), .int (tn), .int (nI ((p) + (1))), .int (nI (I.length)), .int (ln), .int (kn), .int (nI (0)), .int (dg)]) := ⟨_, rfl⟩
          refine z_weq (w' := w12) ew13.symm ?_
          have hf14 : zFr w6 w12 (b) (b + 1) := by rw [ew13]; exact zFr.up (by omega)
          have hw15 : w12 (b) = zO 12 [.int (th), .int (ch), .int (ea), .int (fa), .int (sv), .ref (za g (b + 1)), .ref (za g (b + 2)), .ref (za g (b + 3)), .ref (za g (b + 4)), .ref (za g (b + 5)), .ref (za g (b + 6)), .ref (za g (b + 7)), .ref (za g (b + 8)), .ref (za g (b + 9)), .ref (za g (b + 10)), .int (tn), .int (nI ((p) + (1))), .int (nI (I.length)), .int (ln), .int (kn), .int (nI (0)), .int (dg)] := by rw [ew13, zup_s]
          have hx16 := hx10.setC hf14 hw15
          refine z_vret dX13_mark_46 rfl (by decide) (by decide) ?_
          have e : pExp I c p br = ((p) + (1), 0) := by unfold pExp; rw [if_pos (by omega)]
          rw [e]
          exact ⟨rfl, ((hf8.wk (by omega) (by omega)).tr (hf14.wk (by omega) (by omega))), hx16⟩
        · exact absurd h_34_11 (by decide)
      · refine z_iconst (v := nI 1) dX13_mark_17 rfl ?_
        refine z_goto (tgt := 22) dX13_mark_18 (by decide) ?_
        refine z_putf (j := b) dX13_mark_22 kF_RX13_193 zt_12_20 rfl (by omega) h.ce rfl rfl (Nat.le_of_ble_eq_true rfl) ?_
        obtain ⟨w17, ew18⟩ : ∃ wz : zW, wz = va_up w (b) (zO 12 [.int (th), .int (ch), .int (ea), .int (fa), .int (sv), .ref (za g (b + 1)), .ref (za g (b + 2)), .ref (za g (b + 3)), .ref (za g (b + 4)), .ref (za g (b + 5)), .ref (za g (b + 6)), .ref (za g (b + 7)), .ref (za g (b + 8)), .ref (za g (b + 9)), .ref (za g (b + 10)), .int (tn), .int (nI (p)), .int (nI (I.length)), .int (ln), .int (kn), .int (nI (1)), .int (dg)]) := ⟨_, rfl⟩
        refine z_weq (w' := w17) ew18.symm ?_
        have hf19 : zFr w w17 (b) (b + 1) := by rw [ew18]; exact zFr.up (by omega)
        have hw20 : w17 (b) = zO 12 [.int (th), .int (ch), .int (ea), .int (fa), .int (sv), .ref (za g (b + 1)), .ref (za g (b + 2)), .ref (za g (b + 3)), .ref (za g (b + 4)), .ref (za g (b + 5)), .ref (za g (b + 6)), .ref (za g (b + 7)), .ref (za g (b + 8)), .ref (za g (b + 9)), .ref (za g (b + 10)), .int (tn), .int (nI (p)), .int (nI (I.length)), .int (ln), .int (kn), .int (nI (1)), .int (dg)] := by rw [ew18, zup_s]
        have hx21 := h.setC hf19 hw20
        refine z_aload_n dX13_mark_25 rfl ?_
        refine z_dup dX13_mark_26 rfl ?_
        refine z_getf (j := b) dX13_mark_27 kF_RX13_187 rfl (by omega) hx21.ce rfl ?_
        refine z_aload_n dX13_mark_30 rfl ?_
        refine z_getf (j := b) dX13_mark_31 kF_RX13_193 rfl (by omega) hx21.ce rfl ?_
        refine z_if_eq_n (a := 1) (tgt := 41) dX13_mark_34 (by decide) (by omega) (fun h_34_22 => ?_) (fun h_34_22 => ?_)
        · exact absurd h_34_22 (by decide)
        · refine z_iconst (v := nI 0) dX13_mark_37 rfl ?_
          refine z_goto (tgt := 42) dX13_mark_38 (by decide) ?_
          refine z_iadd_n (a := p) (b := 0) dX13_mark_42 ?_
          refine z_putf (j := b) dX13_mark_43 kF_RX13_187 zt_12_16 rfl (by omega) hx21.ce rfl rfl (Nat.le_of_ble_eq_true rfl) ?_
          obtain ⟨w23, ew24⟩ : ∃ wz : zW, wz = va_up w17 (b) (zO 12 [.int (th), .int (ch), .int (ea), .int (fa), .int (sv), .ref (za g (b + 1)), .ref (za g (b + 2)), .ref (za g (b + 3)), .ref (za g (b + 4)), .ref (za g (b + 5)), .ref (za g (b + 6)), .ref (za g (b + 7)), .ref (za g (b + 8)), .ref (za g (b + 9)), .ref (za g (b + 10)), .int (tn), .int (nI ((p) + (0))), .int (nI (I.length)), .int (ln), .int (kn), .int (nI (1)), .int (dg)]) := ⟨_, rfl⟩
          refine z_weq (w' := w23) ew24.symm ?_
          have hf25 : zFr w17 w23 (b) (b + 1) := by rw [ew24]; exact zFr.up (by omega)
          have hw26 : w23 (b) = zO 12 [.int (th), .int (ch), .int (ea), .int (fa), .int (sv), .ref (za g (b + 1)), .ref (za g (b + 2)), .ref (za g (b + 3)), .ref (za g (b + 4)), .ref (za g (b + 5)), .ref (za g (b + 6)), .ref (za g (b + 7)), .ref (za g (b + 8)), .ref (za g (b + 9)), .ref (za g (b + 10)), .int (tn), .int (nI ((p) + (0))), .int (nI (I.length)), .int (ln), .int (kn), .int (nI (1)), .int (dg)] := by rw [ew24, zup_s]
          have hx27 := hx21.setC hf25 hw26
          refine z_vret dX13_mark_46 rfl (by decide) (by decide) ?_
          have e : pExp I c p br = ((p) + (0), 1) := by unfold pExp; rw [if_neg (by omega)]; rfl
          rw [e]
          exact ⟨rfl, ((hf19.wk (by omega) (by omega)).tr (hf25.wk (by omega) (by omega))), hx27⟩
    · have hgz28 : I.getD (p) 0 = 0 := gD_ge (by omega)
      have hm129 : (-1 : Int32).toInt = -1 := by decide
      refine z_callE (As := []) (rest := [.ref (za g b)]) (b := b) (ci := 12) (v := some (.int (-1))) (R2 := zR 0 0) dX13_mark_10 kV_RX13_197 rfl ⟨⟨by decide, by decide⟩, by decide, by decide⟩ (by omega) h.ce rfl rfl rfl (Nat.le_of_ble_eq_true rfl) rfl (c_X13_sign_n (p := p) h0 h htx (by omega) hc2) ?_
      refine z_iload_n dX13_mark_13 rfl ?_
      have hk32 : (-1 : Int32).toInt = -1 := by decide
      have hk33 := nI_toInt (n := c) (by omega)
      refine z_icmp_eq_z (tgt := 21) dX13_mark_14 (by decide) (fun h_14_31 => ?_) (fun h_14_31 => ?_)
      · refine z_iconst (v := nI 0) dX13_mark_21 rfl ?_
        refine z_putf (j := b) dX13_mark_22 kF_RX13_193 zt_12_20 rfl (by omega) h.ce rfl rfl (Nat.le_of_ble_eq_true rfl) ?_
        obtain ⟨w34, ew35⟩ : ∃ wz : zW, wz = va_up w (b) (zO 12 [.int (th), .int (ch), .int (ea), .int (fa), .int (sv), .ref (za g (b + 1)), .ref (za g (b + 2)), .ref (za g (b + 3)), .ref (za g (b + 4)), .ref (za g (b + 5)), .ref (za g (b + 6)), .ref (za g (b + 7)), .ref (za g (b + 8)), .ref (za g (b + 9)), .ref (za g (b + 10)), .int (tn), .int (nI (p)), .int (nI (I.length)), .int (ln), .int (kn), .int (nI (0)), .int (dg)]) := ⟨_, rfl⟩
        refine z_weq (w' := w34) ew35.symm ?_
        have hf36 : zFr w w34 (b) (b + 1) := by rw [ew35]; exact zFr.up (by omega)
        have hw37 : w34 (b) = zO 12 [.int (th), .int (ch), .int (ea), .int (fa), .int (sv), .ref (za g (b + 1)), .ref (za g (b + 2)), .ref (za g (b + 3)), .ref (za g (b + 4)), .ref (za g (b + 5)), .ref (za g (b + 6)), .ref (za g (b + 7)), .ref (za g (b + 8)), .ref (za g (b + 9)), .ref (za g (b + 10)), .int (tn), .int (nI (p)), .int (nI (I.length)), .int (ln), .int (kn), .int (nI (0)), .int (dg)] := by rw [ew35, zup_s]
        have hx38 := h.setC hf36 hw37
        refine z_aload_n dX13_mark_25 rfl ?_
        refine z_dup dX13_mark_26 rfl ?_
        refine z_getf (j := b) dX13_mark_27 kF_RX13_187 rfl (by omega) hx38.ce rfl ?_
        refine z_aload_n dX13_mark_30 rfl ?_
        refine z_getf (j := b) dX13_mark_31 kF_RX13_193 rfl (by omega) hx38.ce rfl ?_
        refine z_if_eq_n (a := 0) (tgt := 41) dX13_mark_34 (by decide) (by omega) (fun h_34_39 => ?_) (fun h_34_39 => ?_)
        · refine z_iconst (v := nI 1) dX13_mark_41 rfl ?_
          refine z_iadd_n (a := p) (b := 1) dX13_mark_42 ?_
          refine z_putf (j := b) dX13_mark_43 kF_RX13_187 zt_12_16 rfl (by omega) hx38.ce rfl rfl (Nat.le_of_ble_eq_true rfl) ?_
          obtain ⟨w40, ew41⟩ : ∃ wz : zW, wz = va_up w34 (b) (zO 12 [.int (th), .int (ch), .int (ea), .int (fa), .int (sv), .ref (za g (b + 1)), .ref (za g (b + 2)), .ref (za g (b + 3)), .ref (za g (b + 4)), .ref (za g (b + 5)), .ref (za g (b + 6)), .ref (za g (b + 7)), .ref (za g (b + 8)), .ref (za g (b + 9)), .ref (za g (b + 10)), .int (tn), .int (nI ((p) + (1))), .int (nI (I.length)), .int (ln), .int (kn), .int (nI (0)), .int (dg)]) := ⟨_, rfl⟩
          refine z_weq (w' := w40) ew41.symm ?_
          have hf42 : zFr w34 w40 (b) (b + 1) := by rw [ew41]; exact zFr.up (by omega)
          have hw43 : w40 (b) = zO 12 [.int (th), .int (ch), .int (ea), .int (fa), .int (sv), .ref (za g (b + 1)), .ref (za g (b + 2)), .ref (za g (b + 3)), .ref (za g (b + 4)), .ref (za g (b + 5)), .ref (za g (b + 6)), .ref (za g (b + 7)), .ref (za g (b + 8)), .ref (za g (b + 9)), .ref (za g (b + 10)), .int (tn), .int (nI ((p) + (1))), .int (nI (I.length)), .int (ln), .int (kn), .int (nI (0)), .int (dg)] := by rw [ew41, zup_s]
          have hx44 := hx38.setC hf42 hw43
          refine z_vret dX13_mark_46 rfl (by decide) (by decide) ?_
          have e : pExp I c p br = ((p) + (1), 0) := by unfold pExp; rw [if_pos (by omega)]
          rw [e]
          exact ⟨rfl, ((hf36.wk (by omega) (by omega)).tr (hf42.wk (by omega) (by omega))), hx44⟩
        · exact absurd h_34_39 (by decide)
      · refine z_iconst (v := nI 1) dX13_mark_17 rfl ?_
        refine z_goto (tgt := 22) dX13_mark_18 (by decide) ?_
        refine z_putf (j := b) dX13_mark_22 kF_RX13_193 zt_12_20 rfl (by omega) h.ce rfl rfl (Nat.le_of_ble_eq_true rfl) ?_
        obtain ⟨w45, ew46⟩ : ∃ wz : zW, wz = va_up w (b) (zO 12 [.int (th), .int (ch), .int (ea), .int (fa), .int (sv), .ref (za g (b + 1)), .ref (za g (b + 2)), .ref (za g (b + 3)), .ref (za g (b + 4)), .ref (za g (b + 5)), .ref (za g (b + 6)), .ref (za g (b + 7)), .ref (za g (b + 8)), .ref (za g (b + 9)), .ref (za g (b + 10)), .int (tn), .int (nI (p)), .int (nI (I.length)), .int (ln), .int (kn), .int (nI (1)), .int (dg)]) := ⟨_, rfl⟩
        refine z_weq (w' := w45) ew46.symm ?_
        have hf47 : zFr w w45 (b) (b + 1) := by rw [ew46]; exact zFr.up (by omega)
        have hw48 : w45 (b) = zO 12 [.int (th), .int (ch), .int (ea), .int (fa), .int (sv), .ref (za g (b + 1)), .ref (za g (b + 2)), .ref (za g (b + 3)), .ref (za g (b + 4)), .ref (za g (b + 5)), .ref (za g (b + 6)), .ref (za g (b + 7)), .ref (za g (b + 8)), .ref (za g (b + 9)), .ref (za g (b + 10)), .int (tn), .int (nI (p)), .int (nI (I.length)), .int (ln), .int (kn), .int (nI (1)), .int (dg)] := by rw [ew46, zup_s]
        have hx49 := h.setC hf47 hw48
        refine z_aload_n dX13_mark_25 rfl ?_
        refine z_dup dX13_mark_26 rfl ?_
        refine z_getf (j := b) dX13_mark_27 kF_RX13_187 rfl (by omega) hx49.ce rfl ?_
        refine z_aload_n dX13_mark_30 rfl ?_
        refine z_getf (j := b) dX13_mark_31 kF_RX13_193 rfl (by omega) hx49.ce rfl ?_
        refine z_if_eq_n (a := 1) (tgt := 41) dX13_mark_34 (by decide) (by omega) (fun h_34_50 => ?_) (fun h_34_50 => ?_)
        · exact absurd h_34_50 (by decide)
        · refine z_iconst (v := nI 0) dX13_mark_37 rfl ?_
          refine z_goto (tgt := 42) dX13_mark_38 (by decide) ?_
          refine z_iadd_n (a := p) (b := 0) dX13_mark_42 ?_
          refine z_putf (j := b) dX13_mark_43 kF_RX13_187 zt_12_16 rfl (by omega) hx49.ce rfl rfl (Nat.le_of_ble_eq_true rfl) ?_
          obtain ⟨w51, ew52⟩ : ∃ wz : zW, wz = va_up w45 (b) (zO 12 [.int (th), .int (ch), .int (ea), .int (fa), .int (sv), .ref (za g (b + 1)), .ref (za g (b + 2)), .ref (za g (b + 3)), .ref (za g (b + 4)), .ref (za g (b + 5)), .ref (za g (b + 6)), .ref (za g (b + 7)), .ref (za g (b + 8)), .ref (za g (b + 9)), .ref (za g (b + 10)), .int (tn), .int (nI ((p) + (0))), .int (nI (I.length)), .int (ln), .int (kn), .int (nI (1)), .int (dg)]) := ⟨_, rfl⟩
          refine z_weq (w' := w51) ew52.symm ?_
          have hf53 : zFr w45 w51 (b) (b + 1) := by rw [ew52]; exact zFr.up (by omega)
          have hw54 : w51 (b) = zO 12 [.int (th), .int (ch), .int (ea), .int (fa), .int (sv), .ref (za g (b + 1)), .ref (za g (b + 2)), .ref (za g (b + 3)), .ref (za g (b + 4)), .ref (za g (b + 5)), .ref (za g (b + 6)), .ref (za g (b + 7)), .ref (za g (b + 8)), .ref (za g (b + 9)), .ref (za g (b + 10)), .int (tn), .int (nI ((p) + (0))), .int (nI (I.length)), .int (ln), .int (kn), .int (nI (1)), .int (dg)] := by rw [ew52, zup_s]
          have hx55 := hx49.setC hf53 hw54
          refine z_vret dX13_mark_46 rfl (by decide) (by decide) ?_
          have e : pExp I c p br = ((p) + (0), 1) := by unfold pExp; rw [if_neg (by omega)]; rfl
          rw [e]
          exact ⟨rfl, ((hf47.wk (by omega) (by omega)).tr (hf53.wk (by omega) (by omega))), hx55⟩
  · refine z_vret dX13_mark_7 rfl (by decide) (by decide) ?_
    have hb1 : br = 1 := by omega
    subst hb1
    have e : pExp I c p 1 = (p, 1) := by unfold pExp; rw [if_neg (by omega)]
    rw [e]
    exact ⟨rfl, zFr.rf, h⟩
theorem pExp_in {I : List Nat} {c p br : Nat} (hc : c ≠ 0) (hp : p ≤ I.length) : (pExp I c p br).1 ≤ I.length ∧ (pExp I c p br).2 ≤ 1 := by
  unfold pExp
  by_cases e : br = 0 ∧ I.getD p 0 = c
  · rw [if_pos e]
    refine ⟨?_, Nat.zero_le _⟩
    rcases Nat.lt_or_ge p I.length with q | q
    · exact q
    · have := gD_ge (L := I) q; omega
  · rw [if_neg e]; exact ⟨hp, Nat.le_refl _⟩
theorem or_1 {a : Nat} (h : a ≤ 1) : nI a ||| nI 1 = nI 1 := by rcases (show a = 0 ∨ a = 1 by omega) with q | q <;> (rw [q]; decide)
theorem or_0 {a : Nat} (h : a ≤ 1) : nI a ||| nI 0 = nI a := by rcases (show a = 0 ∨ a = 1 by omega) with q | q <;> (rw [q]; decide)
theorem pN_49 {I : List Nat} {p br : Nat} : pN I 49 p br = if br = 0 ∧ 49 ≤ I.getD p 0 ∧ I.getD p 0 ≤ 57 then pN I 48 p br else (0, p, 1) := by
  by_cases c : br = 0 ∧ 49 ≤ I.getD p 0 ∧ I.getD p 0 ≤ 57
  · rw [if_pos c]; unfold pN; rw [if_pos c]; rw [if_pos (show br = 0 ∧ 48 ≤ I.getD p 0 ∧ I.getD p 0 ≤ 57 from ⟨c.1, by omega, c.2.2⟩)]
  · rw [if_neg c]; unfold pN; rw [if_neg c]
set_option maxRecDepth 100000 in
set_option maxHeartbeats 4000000 in
theorem c_X13_digits {g : zGT} {w : zW} {b : Nat} {th ch ea fa sv tn  ln kn dg : Int32} {fv fb fs fp fh ft fl fi : Nat → Int32} {I : List Nat} {p br : Nat} (h0 : zG0 g) (h : Mx g w b th ch ea fa sv tn (nI p) (nI I.length) ln kn (nI br) dg fv fb fs fp fh ft fl fi) (htx : TxR ft I) (hp9 : p ≤ I.length) (hbr : br ≤ 1) : zCt g mX13_digits (zR 1 0) [.ref (za g b)] w (fun o w' => o = .inl (some (.int (nI (pN I 48 p br).1))) ∧ zFr w w' b (b + 11) ∧ Mx g w' b th ch ea fa sv tn (nI (pN I 48 p br).2.1) (nI I.length) ln kn (nI (pN I 48 p br).2.2) dg fv fb fs fp fh ft fl fi) := by
  have hb := h.1
  have htl := htx.1
  refine zCt_of (by decide +kernel) h0 [(0, .ref (za g b))] rfl (Nat.le_of_ble_eq_true rfl) ?_
  refine z_iconst (v := nI 0) dX13_digits_0 rfl ?_
  refine z_istore_n (lv' := [(0, .ref (za g b)), (1, .int (nI (0)))]) dX13_digits_1 (by decide) rfl ?_
  refine z_iconst (v := nI 0) dX13_digits_2 rfl ?_
  refine z_istore_n (lv' := [(0, .ref (za g b)), (1, .int (nI (0))), (2, .int (nI (0)))]) dX13_digits_3 (by decide) rfl ?_
  refine z_aload_n dX13_digits_4 rfl ?_
  refine z_getf (j := b) dX13_digits_5 kF_RX13_193 rfl (by omega) h.ce rfl ?_
  refine z_if_ne_n (a := br) (tgt := 59) dX13_digits_8 (by decide) (by omega) (fun h_8_1 => ?_) (fun h_8_1 => ?_)
  · refine z_aload_n dX13_digits_59 rfl ?_
    refine z_dup dX13_digits_60 rfl ?_
    refine z_getf (j := b) dX13_digits_61 kF_RX13_193 rfl (by omega) h.ce rfl ?_
    refine z_iload_n dX13_digits_64 rfl ?_
    refine z_if_ne_n (a := 0) (tgt := 72) dX13_digits_65 (by decide) (by omega) (fun h_65_2 => ?_) (fun h_65_2 => ?_)
    · exact absurd h_65_2 (by decide)
    · refine z_iconst (v := nI 1) dX13_digits_68 rfl ?_
      refine z_goto (tgt := 73) dX13_digits_69 (by decide) ?_
      refine z_ior dX13_digits_73 ?_
      refine z_eq (st' := [.int (nI (1)), .ref (za g b)]) rfl (by rw [or_1 (a := br) (by omega)]; first | done | rfl) rfl ?_
      refine z_putf (j := b) dX13_digits_74 kF_RX13_193 zt_12_20 rfl (by omega) h.ce rfl rfl (Nat.le_of_ble_eq_true rfl) ?_
      obtain ⟨w3, ew4⟩ : ∃ wz : zW, wz = va_up w (b) (zO 12 [.int (th), .int (ch), .int (ea), .int (fa), .int (sv), .ref (za g (b + 1)), .ref (za g (b + 2)), .ref (za g (b + 3)), .ref (za g (b + 4)), .ref (za g (b + 5)), .ref (za g (b + 6)), .ref (za g (b + 7)), .ref (za g (b + 8)), .ref (za g (b + 9)), .ref (za g (b + 10)), .int (tn), .int (nI (p)), .int (nI (I.length)), .int (ln), .int (kn), .int (nI (1)), .int (dg)]) := ⟨_, rfl⟩
      refine z_weq (w' := w3) ew4.symm ?_
      have hf5 : zFr w w3 (b) (b + 1) := by rw [ew4]; exact zFr.up (by omega)
      have hw6 : w3 (b) = zO 12 [.int (th), .int (ch), .int (ea), .int (fa), .int (sv), .ref (za g (b + 1)), .ref (za g (b + 2)), .ref (za g (b + 3)), .ref (za g (b + 4)), .ref (za g (b + 5)), .ref (za g (b + 6)), .ref (za g (b + 7)), .ref (za g (b + 8)), .ref (za g (b + 9)), .ref (za g (b + 10)), .int (tn), .int (nI (p)), .int (nI (I.length)), .int (ln), .int (kn), .int (nI (1)), .int (dg)] := by rw [ew4, zup_s]
      have hx7 := h.setC hf5 hw6
      refine z_iload_n dX13_digits_77 rfl ?_
      refine z_iret dX13_digits_78 rfl (by decide) (by decide) ?_
      have e1 : (pN I 48 p br).1 = 0 := by unfold pN; rw [if_neg (by omega)]; all_goals (first | rfl | (dsimp only; omega))
      have e2 : (pN I 48 p br).2.1 = p := by unfold pN; rw [if_neg (by omega)]; all_goals (first | rfl | (dsimp only; omega))
      have e3 : (pN I 48 p br).2.2 = 1 := by unfold pN; rw [if_neg (by omega)]; all_goals (first | rfl | (dsimp only; omega))
      rw [e1, e2, e3]
      exact ⟨rfl, (hf5.wk (by omega) (by omega)), hx7⟩
  · refine z_iload_n dX13_digits_11 rfl ?_
    refine z_iconst (v := nI 3) dX13_digits_12 rfl ?_
    refine z_icmp_ge_n (a := 0) (b := 3) (tgt := 59) dX13_digits_13 (by decide) (by omega) (by omega) (fun h_13_8 => ?_) (fun h_13_8 => ?_)
    · exact absurd h_13_8 (by decide)
    · refine z_aload_n dX13_digits_16 rfl ?_
      by_cases hc9 : p < I.length
      · have hch10 := htx.2.2 _ (get_mem hc9)
        refine z_callE (As := []) (rest := []) (b := b) (ci := 12) (v := some (.int (nI (I.getD (p) 0)))) (R2 := zR 0 0) dX13_digits_17 kV_RX13_197 rfl ⟨⟨by decide, by decide⟩, by decide, by decide⟩ (by omega) h.ce rfl rfl rfl (Nat.le_of_ble_eq_true rfl) rfl (c_X13_sign_y (p := p) h0 h htx (by omega) hc9) ?_
        refine z_bipush (v := nI 48) dX13_digits_20 rfl ?_
        refine z_bipush (v := nI 57) dX13_digits_22 rfl ?_
        by_cases hc12 : ((48 : Nat) : Int) ≤ ((I.getD (p) 0 : Nat) : Int) ∧ ((I.getD (p) 0 : Nat) : Int) ≤ ((57 : Nat) : Int)
        · refine z_callSE (As := [.int (nI (I.getD (p) 0)), .int (nI (48)), .int (nI (57))]) (rest := []) (v := some (.int (nI (1)))) (R2 := zR 0 0) dX13_digits_24 kS_RX13_57 rfl rfl ⟨⟨by decide, by decide⟩, by decide, by decide⟩ rfl (Nat.le_of_ble_eq_true rfl) rfl (c_X13_isIn_y (x := (nI (I.getD (p) 0))) (y := (nI (48))) (z := (nI (57))) h0 (by have q0 := nI_toInt (n := I.getD (p) 0) (by omega); have q1 := nI_toInt (n := 48) (by omega); have q2 := nI_toInt (n := 57) (by omega); omega)) ?_
          refine z_if_eq_n (a := 1) (tgt := 59) dX13_digits_27 (by decide) (by omega) (fun h_27_14 => ?_) (fun h_27_14 => ?_)
          · exact absurd h_27_14 (by decide)
          · refine z_bipush (v := nI 10) dX13_digits_30 rfl ?_
            refine z_iload_n dX13_digits_32 rfl ?_
            refine z_imul_n (a := 10) (b := 0) dX13_digits_33 ?_
            refine z_aload_n dX13_digits_34 rfl ?_
            refine z_callE (As := []) (rest := [.int (nI ((10) * (0)))]) (b := b) (ci := 12) (v := some (.int (nI (I.getD (p) 0)))) (R2 := zR 0 0) dX13_digits_35 kV_RX13_197 rfl ⟨⟨by decide, by decide⟩, by decide, by decide⟩ (by omega) h.ce rfl rfl rfl (Nat.le_of_ble_eq_true rfl) rfl (c_X13_sign_y (p := p) h0 h htx (by omega) hc9) ?_
            refine z_iadd_n (a := (10) * (0)) (b := I.getD (p) 0) dX13_digits_38 ?_
            refine z_bipush (v := nI 48) dX13_digits_39 rfl ?_
            refine z_isub_n (a := ((10) * (0)) + (I.getD (p) 0)) (b := 48) dX13_digits_41 (by omega) ?_
            refine z_istore_n (lv' := [(0, .ref (za g b)), (1, .int (nI ((((10) * (0)) + (I.getD (p) 0)) - (48)))), (2, .int (nI (0)))]) dX13_digits_42 (by decide) rfl ?_
            refine z_aload_n dX13_digits_43 rfl ?_
            refine z_dup dX13_digits_44 rfl ?_
            refine z_getf (j := b) dX13_digits_45 kF_RX13_187 rfl (by omega) h.ce rfl ?_
            refine z_iconst (v := nI 1) dX13_digits_48 rfl ?_
            refine z_iadd_n (a := p) (b := 1) dX13_digits_49 ?_
            refine z_putf (j := b) dX13_digits_50 kF_RX13_187 zt_12_16 rfl (by omega) h.ce rfl rfl (Nat.le_of_ble_eq_true rfl) ?_
            obtain ⟨w16, ew17⟩ : ∃ wz : zW, wz = va_up w (b) (zO 12 [.int (th), .int (ch), .int (ea), .int (fa), .int (sv), .ref (za g (b + 1)), .ref (za g (b + 2)), .ref (za g (b + 3)), .ref (za g (b + 4)), .ref (za g (b + 5)), .ref (za g (b + 6)), .ref (za g (b + 7)), .ref (za g (b + 8)), .ref (za g (b + 9)), .ref (za g (b + 10)), .int (tn), .int (nI ((p) + (1))), .int (nI (I.length)), .int (ln), .int (kn), .int (nI (br)), .int (dg)]) := ⟨_, rfl⟩
            refine z_weq (w' := w16) ew17.symm ?_
            have hf18 : zFr w w16 (b) (b + 1) := by rw [ew17]; exact zFr.up (by omega)
            have hw19 : w16 (b) = zO 12 [.int (th), .int (ch), .int (ea), .int (fa), .int (sv), .ref (za g (b + 1)), .ref (za g (b + 2)), .ref (za g (b + 3)), .ref (za g (b + 4)), .ref (za g (b + 5)), .ref (za g (b + 6)), .ref (za g (b + 7)), .ref (za g (b + 8)), .ref (za g (b + 9)), .ref (za g (b + 10)), .int (tn), .int (nI ((p) + (1))), .int (nI (I.length)), .int (ln), .int (kn), .int (nI (br)), .int (dg)] := by rw [ew17, zup_s]
            have hx20 := h.setC hf18 hw19
            refine z_iinc_n (n := 1) (a := 0) (lv' := [(0, .ref (za g b)), (1, .int (nI ((((10) * (0)) + (I.getD (p) 0)) - (48)))), (2, .int (nI (1)))]) dX13_digits_53 rfl (by decide) rfl ?_
            refine z_goto (tgt := 4) dX13_digits_56 (by decide) ?_
            refine z_aload_n dX13_digits_4 rfl ?_
            refine z_getf (j := b) dX13_digits_5 kF_RX13_193 rfl (by omega) hx20.ce rfl ?_
            refine z_if_ne_n (a := br) (tgt := 59) dX13_digits_8 (by decide) (by omega) (fun h_8_21 => ?_) (fun h_8_21 => ?_)
            · (exfalso; omega)
            · refine z_iload_n dX13_digits_11 rfl ?_
              refine z_iconst (v := nI 3) dX13_digits_12 rfl ?_
              refine z_icmp_ge_n (a := 1) (b := 3) (tgt := 59) dX13_digits_13 (by decide) (by omega) (by omega) (fun h_13_22 => ?_) (fun h_13_22 => ?_)
              · exact absurd h_13_22 (by decide)
              · refine z_aload_n dX13_digits_16 rfl ?_
                by_cases hc23 : (p) + (1) < I.length
                · have hch24 := htx.2.2 _ (get_mem hc23)
                  refine z_callE (As := []) (rest := []) (b := b) (ci := 12) (v := some (.int (nI (I.getD ((p) + (1)) 0)))) (R2 := zR 0 0) dX13_digits_17 kV_RX13_197 rfl ⟨⟨by decide, by decide⟩, by decide, by decide⟩ (by omega) hx20.ce rfl rfl rfl (Nat.le_of_ble_eq_true rfl) rfl (c_X13_sign_y (p := (p) + (1)) h0 hx20 htx (by omega) hc23) ?_
                  refine z_bipush (v := nI 48) dX13_digits_20 rfl ?_
                  refine z_bipush (v := nI 57) dX13_digits_22 rfl ?_
                  by_cases hc26 : ((48 : Nat) : Int) ≤ ((I.getD ((p) + (1)) 0 : Nat) : Int) ∧ ((I.getD ((p) + (1)) 0 : Nat) : Int) ≤ ((57 : Nat) : Int)
                  · refine z_callSE (As := [.int (nI (I.getD ((p) + (1)) 0)), .int (nI (48)), .int (nI (57))]) (rest := []) (v := some (.int (nI (1)))) (R2 := zR 0 0) dX13_digits_24 kS_RX13_57 rfl rfl ⟨⟨by decide, by decide⟩, by decide, by decide⟩ rfl (Nat.le_of_ble_eq_true rfl) rfl (c_X13_isIn_y (x := (nI (I.getD ((p) + (1)) 0))) (y := (nI (48))) (z := (nI (57))) h0 (by have q0 := nI_toInt (n := I.getD ((p) + (1)) 0) (by omega); have q1 := nI_toInt (n := 48) (by omega); have q2 := nI_toInt (n := 57) (by omega); omega)) ?_
                    refine z_if_eq_n (a := 1) (tgt := 59) dX13_digits_27 (by decide) (by omega) (fun h_27_28 => ?_) (fun h_27_28 => ?_)
                    · exact absurd h_27_28 (by decide)
                    · refine z_bipush (v := nI 10) dX13_digits_30 rfl ?_
                      refine z_iload_n dX13_digits_32 rfl ?_
                      refine z_imul_n (a := 10) (b := (((10) * (0)) + (I.getD (p) 0)) - (48)) dX13_digits_33 ?_
                      refine z_aload_n dX13_digits_34 rfl ?_
                      refine z_callE (As := []) (rest := [.int (nI ((10) * ((((10) * (0)) + (I.getD (p) 0)) - (48))))]) (b := b) (ci := 12) (v := some (.int (nI (I.getD ((p) + (1)) 0)))) (R2 := zR 0 0) dX13_digits_35 kV_RX13_197 rfl ⟨⟨by decide, by decide⟩, by decide, by decide⟩ (by omega) hx20.ce rfl rfl rfl (Nat.le_of_ble_eq_true rfl) rfl (c_X13_sign_y (p := (p) + (1)) h0 hx20 htx (by omega) hc23) ?_
                      refine z_iadd_n (a := (10) * ((((10) * (0)) + (I.getD (p) 0)) - (48))) (b := I.getD ((p) + (1)) 0) dX13_digits_38 ?_
                      refine z_bipush (v := nI 48) dX13_digits_39 rfl ?_
                      refine z_isub_n (a := ((10) * ((((10) * (0)) + (I.getD (p) 0)) - (48))) + (I.getD ((p) + (1)) 0)) (b := 48) dX13_digits_41 (by omega) ?_
                      refine z_istore_n (lv' := [(0, .ref (za g b)), (1, .int (nI ((((10) * ((((10) * (0)) + (I.getD (p) 0)) - (48))) + (I.getD ((p) + (1)) 0)) - (48)))), (2, .int (nI (1)))]) dX13_digits_42 (by decide) rfl ?_
                      refine z_aload_n dX13_digits_43 rfl ?_
                      refine z_dup dX13_digits_44 rfl ?_
                      refine z_getf (j := b) dX13_digits_45 kF_RX13_187 rfl (by omega) hx20.ce rfl ?_
                      refine z_iconst (v := nI 1) dX13_digits_48 rfl ?_
                      refine z_iadd_n (a := (p) + (1)) (b := 1) dX13_digits_49 ?_
                      refine z_putf (j := b) dX13_digits_50 kF_RX13_187 zt_12_16 rfl (by omega) hx20.ce rfl rfl (Nat.le_of_ble_eq_true rfl) ?_
                      obtain ⟨w30, ew31⟩ : ∃ wz : zW, wz = va_up w16 (b) (zO 12 [.int (th), .int (ch), .int (ea), .int (fa), .int (sv), .ref (za g (b + 1)), .ref (za g (b + 2)), .ref (za g (b + 3)), .ref (za g (b + 4)), .ref (za g (b + 5)), .ref (za g (b + 6)), .ref (za g (b + 7)), .ref (za g (b + 8)), .ref (za g (b + 9)), .ref (za g (b + 10)), .int (tn), .int (nI (((p) + (1)) + (1))), .int (nI (I.length)), .int (ln), .int (kn), .int (nI (br)), .int (dg)]) := ⟨_, rfl⟩
                      refine z_weq (w' := w30) ew31.symm ?_
                      have hf32 : zFr w16 w30 (b) (b + 1) := by rw [ew31]; exact zFr.up (by omega)
                      have hw33 : w30 (b) = zO 12 [.int (th), .int (ch), .int (ea), .int (fa), .int (sv), .ref (za g (b + 1)), .ref (za g (b + 2)), .ref (za g (b + 3)), .ref (za g (b + 4)), .ref (za g (b + 5)), .ref (za g (b + 6)), .ref (za g (b + 7)), .ref (za g (b + 8)), .ref (za g (b + 9)), .ref (za g (b + 10)), .int (tn), .int (nI (((p) + (1)) + (1))), .int (nI (I.length)), .int (ln), .int (kn), .int (nI (br)), .int (dg)] := by rw [ew31, zup_s]
                      have hx34 := hx20.setC hf32 hw33
                      refine z_iinc_n (n := 1) (a := 1) (lv' := [(0, .ref (za g b)), (1, .int (nI ((((10) * ((((10) * (0)) + (I.getD (p) 0)) - (48))) + (I.getD ((p) + (1)) 0)) - (48)))), (2, .int (nI (2)))]) dX13_digits_53 rfl (by decide) rfl ?_
                      refine z_goto (tgt := 4) dX13_digits_56 (by decide) ?_
                      refine z_aload_n dX13_digits_4 rfl ?_
                      refine z_getf (j := b) dX13_digits_5 kF_RX13_193 rfl (by omega) hx34.ce rfl ?_
                      refine z_if_ne_n (a := br) (tgt := 59) dX13_digits_8 (by decide) (by omega) (fun h_8_35 => ?_) (fun h_8_35 => ?_)
                      · (exfalso; omega)
                      · refine z_iload_n dX13_digits_11 rfl ?_
                        refine z_iconst (v := nI 3) dX13_digits_12 rfl ?_
                        refine z_icmp_ge_n (a := 2) (b := 3) (tgt := 59) dX13_digits_13 (by decide) (by omega) (by omega) (fun h_13_36 => ?_) (fun h_13_36 => ?_)
                        · exact absurd h_13_36 (by decide)
                        · refine z_aload_n dX13_digits_16 rfl ?_
                          by_cases hc37 : ((p) + (1)) + (1) < I.length
                          · have hch38 := htx.2.2 _ (get_mem hc37)
                            refine z_callE (As := []) (rest := []) (b := b) (ci := 12) (v := some (.int (nI (I.getD (((p) + (1)) + (1)) 0)))) (R2 := zR 0 0) dX13_digits_17 kV_RX13_197 rfl ⟨⟨by decide, by decide⟩, by decide, by decide⟩ (by omega) hx34.ce rfl rfl rfl (Nat.le_of_ble_eq_true rfl) rfl (c_X13_sign_y (p := ((p) + (1)) + (1)) h0 hx34 htx (by omega) hc37) ?_
                            refine z_bipush (v := nI 48) dX13_digits_20 rfl ?_
                            refine z_bipush (v := nI 57) dX13_digits_22 rfl ?_
                            by_cases hc40 : ((48 : Nat) : Int) ≤ ((I.getD (((p) + (1)) + (1)) 0 : Nat) : Int) ∧ ((I.getD (((p) + (1)) + (1)) 0 : Nat) : Int) ≤ ((57 : Nat) : Int)
                            · refine z_callSE (As := [.int (nI (I.getD (((p) + (1)) + (1)) 0)), .int (nI (48)), .int (nI (57))]) (rest := []) (v := some (.int (nI (1)))) (R2 := zR 0 0) dX13_digits_24 kS_RX13_57 rfl rfl ⟨⟨by decide, by decide⟩, by decide, by decide⟩ rfl (Nat.le_of_ble_eq_true rfl) rfl (c_X13_isIn_y (x := (nI (I.getD (((p) + (1)) + (1)) 0))) (y := (nI (48))) (z := (nI (57))) h0 (by have q0 := nI_toInt (n := I.getD (((p) + (1)) + (1)) 0) (by omega); have q1 := nI_toInt (n := 48) (by omega); have q2 := nI_toInt (n := 57) (by omega); omega)) ?_
                              refine z_if_eq_n (a := 1) (tgt := 59) dX13_digits_27 (by decide) (by omega) (fun h_27_42 => ?_) (fun h_27_42 => ?_)
                              · exact absurd h_27_42 (by decide)
                              · refine z_bipush (v := nI 10) dX13_digits_30 rfl ?_
                                refine z_iload_n dX13_digits_32 rfl ?_
                                refine z_imul_n (a := 10) (b := (((10) * ((((10) * (0)) + (I.getD (p) 0)) - (48))) + (I.getD ((p) + (1)) 0)) - (48)) dX13_digits_33 ?_
                                refine z_aload_n dX13_digits_34 rfl ?_
                                refine z_callE (As := []) (rest := [.int (nI ((10) * ((((10) * ((((10) * (0)) + (I.getD (p) 0)) - (48))) + (I.getD ((p) + (1)) 0)) - (48))))]) (b := b) (ci := 12) (v := some (.int (nI (I.getD (((p) + (1)) + (1)) 0)))) (R2 := zR 0 0) dX13_digits_35 kV_RX13_197 rfl ⟨⟨by decide, by decide⟩, by decide, by decide⟩ (by omega) hx34.ce rfl rfl rfl (Nat.le_of_ble_eq_true rfl) rfl (c_X13_sign_y (p := ((p) + (1)) + (1)) h0 hx34 htx (by omega) hc37) ?_
                                refine z_iadd_n (a := (10) * ((((10) * ((((10) * (0)) + (I.getD (p) 0)) - (48))) + (I.getD ((p) + (1)) 0)) - (48))) (b := I.getD (((p) + (1)) + (1)) 0) dX13_digits_38 ?_
                                refine z_bipush (v := nI 48) dX13_digits_39 rfl ?_
                                refine z_isub_n (a := ((10) * ((((10) * ((((10) * (0)) + (I.getD (p) 0)) - (48))) + (I.getD ((p) + (1)) 0)) - (48))) + (I.getD (((p) + (1)) + (1)) 0)) (b := 48) dX13_digits_41 (by omega) ?_
                                refine z_istore_n (lv' := [(0, .ref (za g b)), (1, .int (nI ((((10) * ((((10) * ((((10) * (0)) + (I.getD (p) 0)) - (48))) + (I.getD ((p) + (1)) 0)) - (48))) + (I.getD (((p) + (1)) + (1)) 0)) - (48)))), (2, .int (nI (2)))]) dX13_digits_42 (by decide) rfl ?_
                                refine z_aload_n dX13_digits_43 rfl ?_
                                refine z_dup dX13_digits_44 rfl ?_
                                refine z_getf (j := b) dX13_digits_45 kF_RX13_187 rfl (by omega) hx34.ce rfl ?_
                                refine z_iconst (v := nI 1) dX13_digits_48 rfl ?_
                                refine z_iadd_n (a := ((p) + (1)) + (1)) (b := 1) dX13_digits_49 ?_
                                refine z_putf (j := b) dX13_digits_50 kF_RX13_187 zt_12_16 rfl (by omega) hx34.ce rfl rfl (Nat.le_of_ble_eq_true rfl) ?_
                                obtain ⟨w44, ew45⟩ : ∃ wz : zW, wz = va_up w30 (b) (zO 12 [.int (th), .int (ch), .int (ea), .int (fa), .int (sv), .ref (za g (b + 1)), .ref (za g (b + 2)), .ref (za g (b + 3)), .ref (za g (b + 4)), .ref (za g (b + 5)), .ref (za g (b + 6)), .ref (za g (b + 7)), .ref (za g (b + 8)), .ref (za g (b + 9)), .ref (za g (b + 10)), .int (tn), .int (nI ((((p) + (1)) + (1)) + (1))), .int (nI (I.length)), .int (ln), .int (kn), .int (nI (br)), .int (dg)]) := ⟨_, rfl⟩
                                refine z_weq (w' := w44) ew45.symm ?_
                                have hf46 : zFr w30 w44 (b) (b + 1) := by rw [ew45]; exact zFr.up (by omega)
                                have hw47 : w44 (b) = zO 12 [.int (th), .int (ch), .int (ea), .int (fa), .int (sv), .ref (za g (b + 1)), .ref (za g (b + 2)), .ref (za g (b + 3)), .ref (za g (b + 4)), .ref (za g (b + 5)), .ref (za g (b + 6)), .ref (za g (b + 7)), .ref (za g (b + 8)), .ref (za g (b + 9)), .ref (za g (b + 10)), .int (tn), .int (nI ((((p) + (1)) + (1)) + (1))), .int (nI (I.length)), .int (ln), .int (kn), .int (nI (br)), .int (dg)] := by rw [ew45, zup_s]
                                have hx48 := hx34.setC hf46 hw47
                                refine z_iinc_n (n := 1) (a := 2) (lv' := [(0, .ref (za g b)), (1, .int (nI ((((10) * ((((10) * ((((10) * (0)) + (I.getD (p) 0)) - (48))) + (I.getD ((p) + (1)) 0)) - (48))) + (I.getD (((p) + (1)) + (1)) 0)) - (48)))), (2, .int (nI (3)))]) dX13_digits_53 rfl (by decide) rfl ?_
                                refine z_goto (tgt := 4) dX13_digits_56 (by decide) ?_
                                refine z_aload_n dX13_digits_4 rfl ?_
                                refine z_getf (j := b) dX13_digits_5 kF_RX13_193 rfl (by omega) hx48.ce rfl ?_
                                refine z_if_ne_n (a := br) (tgt := 59) dX13_digits_8 (by decide) (by omega) (fun h_8_49 => ?_) (fun h_8_49 => ?_)
                                · (exfalso; omega)
                                · refine z_iload_n dX13_digits_11 rfl ?_
                                  refine z_iconst (v := nI 3) dX13_digits_12 rfl ?_
                                  refine z_icmp_ge_n (a := 3) (b := 3) (tgt := 59) dX13_digits_13 (by decide) (by omega) (by omega) (fun h_13_50 => ?_) (fun h_13_50 => ?_)
                                  · refine z_aload_n dX13_digits_59 rfl ?_
                                    refine z_dup dX13_digits_60 rfl ?_
                                    refine z_getf (j := b) dX13_digits_61 kF_RX13_193 rfl (by omega) hx48.ce rfl ?_
                                    refine z_iload_n dX13_digits_64 rfl ?_
                                    refine z_if_ne_n (a := 3) (tgt := 72) dX13_digits_65 (by decide) (by omega) (fun h_65_51 => ?_) (fun h_65_51 => ?_)
                                    · refine z_iconst (v := nI 0) dX13_digits_72 rfl ?_
                                      refine z_ior dX13_digits_73 ?_
                                      refine z_eq (st' := [.int (nI (0)), .ref (za g b)]) rfl (by rw [show br = 0 by omega, or_0 (a := 0) (by omega)]; first | done | rfl) rfl ?_
                                      refine z_putf (j := b) dX13_digits_74 kF_RX13_193 zt_12_20 rfl (by omega) hx48.ce rfl rfl (Nat.le_of_ble_eq_true rfl) ?_
                                      obtain ⟨w52, ew53⟩ : ∃ wz : zW, wz = va_up w44 (b) (zO 12 [.int (th), .int (ch), .int (ea), .int (fa), .int (sv), .ref (za g (b + 1)), .ref (za g (b + 2)), .ref (za g (b + 3)), .ref (za g (b + 4)), .ref (za g (b + 5)), .ref (za g (b + 6)), .ref (za g (b + 7)), .ref (za g (b + 8)), .ref (za g (b + 9)), .ref (za g (b + 10)), .int (tn), .int (nI ((((p) + (1)) + (1)) + (1))), .int (nI (I.length)), .int (ln), .int (kn), .int (nI (0)), .int (dg)]) := ⟨_, rfl⟩
                                      refine z_weq (w' := w52) ew53.symm ?_
                                      have hf54 : zFr w44 w52 (b) (b + 1) := by rw [ew53]; exact zFr.up (by omega)
                                      have hw55 : w52 (b) = zO 12 [.int (th), .int (ch), .int (ea), .int (fa), .int (sv), .ref (za g (b + 1)), .ref (za g (b + 2)), .ref (za g (b + 3)), .ref (za g (b + 4)), .ref (za g (b + 5)), .ref (za g (b + 6)), .ref (za g (b + 7)), .ref (za g (b + 8)), .ref (za g (b + 9)), .ref (za g (b + 10)), .int (tn), .int (nI ((((p) + (1)) + (1)) + (1))), .int (nI (I.length)), .int (ln), .int (kn), .int (nI (0)), .int (dg)] := by rw [ew53, zup_s]
                                      have hx56 := hx48.setC hf54 hw55
                                      refine z_iload_n dX13_digits_77 rfl ?_
                                      refine z_iret dX13_digits_78 rfl (by decide) (by decide) ?_
                                      have e1 : (pN I 48 p br).1 = (((10) * ((((10) * ((((10) * (0)) + (I.getD (p) 0)) - (48))) + (I.getD ((p) + (1)) 0)) - (48))) + (I.getD (((p) + (1)) + (1)) 0)) - (48) := by unfold pN; rw [if_pos (by omega), if_pos (by omega), if_pos (by omega)]; all_goals (first | rfl | (dsimp only; omega))
                                      have e2 : (pN I 48 p br).2.1 = (((p) + (1)) + (1)) + (1) := by unfold pN; rw [if_pos (by omega), if_pos (by omega), if_pos (by omega)]; all_goals (first | rfl | (dsimp only; omega))
                                      have e3 : (pN I 48 p br).2.2 = 0 := by unfold pN; rw [if_pos (by omega), if_pos (by omega), if_pos (by omega)]; all_goals (first | rfl | (dsimp only; omega))
                                      rw [e1, e2, e3]
                                      exact ⟨rfl, ((((hf18.wk (by omega) (by omega)).tr (hf32.wk (by omega) (by omega))).tr (hf46.wk (by omega) (by omega))).tr (hf54.wk (by omega) (by omega))), hx56⟩
                                    · exact absurd h_65_51 (by decide)
                                  · exact absurd h_13_50 (by decide)
                            · refine z_callSE (As := [.int (nI (I.getD (((p) + (1)) + (1)) 0)), .int (nI (48)), .int (nI (57))]) (rest := []) (v := some (.int (nI (0)))) (R2 := zR 0 0) dX13_digits_24 kS_RX13_57 rfl rfl ⟨⟨by decide, by decide⟩, by decide, by decide⟩ rfl (Nat.le_of_ble_eq_true rfl) rfl (c_X13_isIn_n (x := (nI (I.getD (((p) + (1)) + (1)) 0))) (y := (nI (48))) (z := (nI (57))) h0 (by have q0 := nI_toInt (n := I.getD (((p) + (1)) + (1)) 0) (by omega); have q1 := nI_toInt (n := 48) (by omega); have q2 := nI_toInt (n := 57) (by omega); omega)) ?_
                              refine z_if_eq_n (a := 0) (tgt := 59) dX13_digits_27 (by decide) (by omega) (fun h_27_58 => ?_) (fun h_27_58 => ?_)
                              · refine z_aload_n dX13_digits_59 rfl ?_
                                refine z_dup dX13_digits_60 rfl ?_
                                refine z_getf (j := b) dX13_digits_61 kF_RX13_193 rfl (by omega) hx34.ce rfl ?_
                                refine z_iload_n dX13_digits_64 rfl ?_
                                refine z_if_ne_n (a := 2) (tgt := 72) dX13_digits_65 (by decide) (by omega) (fun h_65_59 => ?_) (fun h_65_59 => ?_)
                                · refine z_iconst (v := nI 0) dX13_digits_72 rfl ?_
                                  refine z_ior dX13_digits_73 ?_
                                  refine z_eq (st' := [.int (nI (0)), .ref (za g b)]) rfl (by rw [show br = 0 by omega, or_0 (a := 0) (by omega)]; first | done | rfl) rfl ?_
                                  refine z_putf (j := b) dX13_digits_74 kF_RX13_193 zt_12_20 rfl (by omega) hx34.ce rfl rfl (Nat.le_of_ble_eq_true rfl) ?_
                                  obtain ⟨w60, ew61⟩ : ∃ wz : zW, wz = va_up w30 (b) (zO 12 [.int (th), .int (ch), .int (ea), .int (fa), .int (sv), .ref (za g (b + 1)), .ref (za g (b + 2)), .ref (za g (b + 3)), .ref (za g (b + 4)), .ref (za g (b + 5)), .ref (za g (b + 6)), .ref (za g (b + 7)), .ref (za g (b + 8)), .ref (za g (b + 9)), .ref (za g (b + 10)), .int (tn), .int (nI (((p) + (1)) + (1))), .int (nI (I.length)), .int (ln), .int (kn), .int (nI (0)), .int (dg)]) := ⟨_, rfl⟩
                                  refine z_weq (w' := w60) ew61.symm ?_
                                  have hf62 : zFr w30 w60 (b) (b + 1) := by rw [ew61]; exact zFr.up (by omega)
                                  have hw63 : w60 (b) = zO 12 [.int (th), .int (ch), .int (ea), .int (fa), .int (sv), .ref (za g (b + 1)), .ref (za g (b + 2)), .ref (za g (b + 3)), .ref (za g (b + 4)), .ref (za g (b + 5)), .ref (za g (b + 6)), .ref (za g (b + 7)), .ref (za g (b + 8)), .ref (za g (b + 9)), .ref (za g (b + 10)), .int (tn), .int (nI (((p) + (1)) + (1))), .int (nI (I.length)), .int (ln), .int (kn), .int (nI (0)), .int (dg)] := by rw [ew61, zup_s]
                                  have hx64 := hx34.setC hf62 hw63
                                  refine z_iload_n dX13_digits_77 rfl ?_
                                  refine z_iret dX13_digits_78 rfl (by decide) (by decide) ?_
                                  have e1 : (pN I 48 p br).1 = (((10) * ((((10) * (0)) + (I.getD (p) 0)) - (48))) + (I.getD ((p) + (1)) 0)) - (48) := by unfold pN; rw [if_pos (by omega), if_pos (by omega), if_neg (by omega)]; all_goals (first | rfl | (dsimp only; omega))
                                  have e2 : (pN I 48 p br).2.1 = ((p) + (1)) + (1) := by unfold pN; rw [if_pos (by omega), if_pos (by omega), if_neg (by omega)]; all_goals (first | rfl | (dsimp only; omega))
                                  have e3 : (pN I 48 p br).2.2 = 0 := by unfold pN; rw [if_pos (by omega), if_pos (by omega), if_neg (by omega)]; all_goals (first | rfl | (dsimp only; omega))
                                  rw [e1, e2, e3]
                                  exact ⟨rfl, (((hf18.wk (by omega) (by omega)).tr (hf32.wk (by omega) (by omega))).tr (hf62.wk (by omega) (by omega))), hx64⟩
                                · exact absurd h_65_59 (by decide)
                              · exact absurd h_27_58 (by decide)
                          · have hgz65 : I.getD (((p) + (1)) + (1)) 0 = 0 := gD_ge (by omega)
                            have hm166 : (-1 : Int32).toInt = -1 := by decide
                            refine z_callE (As := []) (rest := []) (b := b) (ci := 12) (v := some (.int (-1))) (R2 := zR 0 0) dX13_digits_17 kV_RX13_197 rfl ⟨⟨by decide, by decide⟩, by decide, by decide⟩ (by omega) hx34.ce rfl rfl rfl (Nat.le_of_ble_eq_true rfl) rfl (c_X13_sign_n (p := ((p) + (1)) + (1)) h0 hx34 htx (by omega) hc37) ?_
                            refine z_bipush (v := nI 48) dX13_digits_20 rfl ?_
                            refine z_bipush (v := nI 57) dX13_digits_22 rfl ?_
                            by_cases hc68 : ((48 : Nat) : Int) ≤ (-1 : Int) ∧ (-1 : Int) ≤ ((57 : Nat) : Int)
                            · refine z_callSE (As := [.int (-1), .int (nI (48)), .int (nI (57))]) (rest := []) (v := some (.int (nI (1)))) (R2 := zR 0 0) dX13_digits_24 kS_RX13_57 rfl rfl ⟨⟨by decide, by decide⟩, by decide, by decide⟩ rfl (Nat.le_of_ble_eq_true rfl) rfl (c_X13_isIn_y (x := (-1)) (y := (nI (48))) (z := (nI (57))) h0 (by have q0 := (show ((-1 : Int32)).toInt = -1 from by decide); have q1 := nI_toInt (n := 48) (by omega); have q2 := nI_toInt (n := 57) (by omega); omega)) ?_
                              refine z_if_eq_n (a := 1) (tgt := 59) dX13_digits_27 (by decide) (by omega) (fun h_27_70 => ?_) (fun h_27_70 => ?_)
                              · exact absurd h_27_70 (by decide)
                              · refine z_bipush (v := nI 10) dX13_digits_30 rfl ?_
                                refine z_iload_n dX13_digits_32 rfl ?_
                                refine z_imul_n (a := 10) (b := (((10) * ((((10) * (0)) + (I.getD (p) 0)) - (48))) + (I.getD ((p) + (1)) 0)) - (48)) dX13_digits_33 ?_
                                refine z_aload_n dX13_digits_34 rfl ?_
                                refine z_callE (As := []) (rest := [.int (nI ((10) * ((((10) * ((((10) * (0)) + (I.getD (p) 0)) - (48))) + (I.getD ((p) + (1)) 0)) - (48))))]) (b := b) (ci := 12) (v := some (.int (-1))) (R2 := zR 0 0) dX13_digits_35 kV_RX13_197 rfl ⟨⟨by decide, by decide⟩, by decide, by decide⟩ (by omega) hx34.ce rfl rfl rfl (Nat.le_of_ble_eq_true rfl) rfl (c_X13_sign_n (p := ((p) + (1)) + (1)) h0 hx34 htx (by omega) hc37) ?_
                                refine z_iadd dX13_digits_38 ?_
                                refine z_bipush (v := nI 48) dX13_digits_39 rfl ?_
                                refine z_isub dX13_digits_41 ?_
                                refine z_istore_n (lv' := [(0, .ref (za g b)), (1, .int (((nI ((10) * ((((10) * ((((10) * (0)) + (I.getD (p) 0)) - (48))) + (I.getD ((p) + (1)) 0)) - (48)))) + (-1)) - (nI (48)))), (2, .int (nI (2)))]) dX13_digits_42 (by decide) rfl ?_
                                refine z_aload_n dX13_digits_43 rfl ?_
                                refine z_dup dX13_digits_44 rfl ?_
                                refine z_getf (j := b) dX13_digits_45 kF_RX13_187 rfl (by omega) hx34.ce rfl ?_
                                refine z_iconst (v := nI 1) dX13_digits_48 rfl ?_
                                refine z_iadd_n (a := ((p) + (1)) + (1)) (b := 1) dX13_digits_49 ?_
                                refine z_putf (j := b) dX13_digits_50 kF_RX13_187 zt_12_16 rfl (by omega) hx34.ce rfl rfl (Nat.le_of_ble_eq_true rfl) ?_
                                obtain ⟨w72, ew73⟩ : ∃ wz : zW, wz = va_up w30 (b) (zO 12 [.int (th), .int (ch), .int (ea), .int (fa), .int (sv), .ref (za g (b + 1)), .ref (za g (b + 2)), .ref (za g (b + 3)), .ref (za g (b + 4)), .ref (za g (b + 5)), .ref (za g (b + 6)), .ref (za g (b + 7)), .ref (za g (b + 8)), .ref (za g (b + 9)), .ref (za g (b + 10)), .int (tn), .int (nI ((((p) + (1)) + (1)) + (1))), .int (nI (I.length)), .int (ln), .int (kn), .int (nI (br)), .int (dg)]) := ⟨_, rfl⟩
                                refine z_weq (w' := w72) ew73.symm ?_
                                have hf74 : zFr w30 w72 (b) (b + 1) := by rw [ew73]; exact zFr.up (by omega)
                                have hw75 : w72 (b) = zO 12 [.int (th), .int (ch), .int (ea), .int (fa), .int (sv), .ref (za g (b + 1)), .ref (za g (b + 2)), .ref (za g (b + 3)), .ref (za g (b + 4)), .ref (za g (b + 5)), .ref (za g (b + 6)), .ref (za g (b + 7)), .ref (za g (b + 8)), .ref (za g (b + 9)), .ref (za g (b + 10)), .int (tn), .int (nI ((((p) + (1)) + (1)) + (1))), .int (nI (I.length)), .int (ln), .int (kn), .int (nI (br)), .int (dg)] := by rw [ew73, zup_s]
                                have hx76 := hx34.setC hf74 hw75
                                refine z_iinc_n (n := 1) (a := 2) (lv' := [(0, .ref (za g b)), (1, .int (((nI ((10) * ((((10) * ((((10) * (0)) + (I.getD (p) 0)) - (48))) + (I.getD ((p) + (1)) 0)) - (48)))) + (-1)) - (nI (48)))), (2, .int (nI (3)))]) dX13_digits_53 rfl (by decide) rfl ?_
                                refine z_goto (tgt := 4) dX13_digits_56 (by decide) ?_
                                refine z_aload_n dX13_digits_4 rfl ?_
                                refine z_getf (j := b) dX13_digits_5 kF_RX13_193 rfl (by omega) hx76.ce rfl ?_
                                refine z_if_ne_n (a := br) (tgt := 59) dX13_digits_8 (by decide) (by omega) (fun h_8_77 => ?_) (fun h_8_77 => ?_)
                                · (exfalso; omega)
                                · refine z_iload_n dX13_digits_11 rfl ?_
                                  refine z_iconst (v := nI 3) dX13_digits_12 rfl ?_
                                  refine z_icmp_ge_n (a := 3) (b := 3) (tgt := 59) dX13_digits_13 (by decide) (by omega) (by omega) (fun h_13_78 => ?_) (fun h_13_78 => ?_)
                                  · refine z_aload_n dX13_digits_59 rfl ?_
                                    refine z_dup dX13_digits_60 rfl ?_
                                    refine z_getf (j := b) dX13_digits_61 kF_RX13_193 rfl (by omega) hx76.ce rfl ?_
                                    refine z_iload_n dX13_digits_64 rfl ?_
                                    refine z_if_ne_n (a := 3) (tgt := 72) dX13_digits_65 (by decide) (by omega) (fun h_65_79 => ?_) (fun h_65_79 => ?_)
                                    · refine z_iconst (v := nI 0) dX13_digits_72 rfl ?_
                                      refine z_ior dX13_digits_73 ?_
                                      refine z_eq (st' := [.int (nI (0)), .ref (za g b)]) rfl (by rw [show br = 0 by omega, or_0 (a := 0) (by omega)]; first | done | rfl) rfl ?_
                                      refine z_putf (j := b) dX13_digits_74 kF_RX13_193 zt_12_20 rfl (by omega) hx76.ce rfl rfl (Nat.le_of_ble_eq_true rfl) ?_
                                      obtain ⟨w80, ew81⟩ : ∃ wz : zW, wz = va_up w72 (b) (zO 12 [.int (th), .int (ch), .int (ea), .int (fa), .int (sv), .ref (za g (b + 1)), .ref (za g (b + 2)), .ref (za g (b + 3)), .ref (za g (b + 4)), .ref (za g (b + 5)), .ref (za g (b + 6)), .ref (za g (b + 7)), .ref (za g (b + 8)), .ref (za g (b + 9)), .ref (za g (b + 10)), .int (tn), .int (nI ((((p) + (1)) + (1)) + (1))), .int (nI (I.length)), .int (ln), .int (kn), .int (nI (0)), .int (dg)]) := ⟨_, rfl⟩
                                      refine z_weq (w' := w80) ew81.symm ?_
                                      have hf82 : zFr w72 w80 (b) (b + 1) := by rw [ew81]; exact zFr.up (by omega)
                                      have hw83 : w80 (b) = zO 12 [.int (th), .int (ch), .int (ea), .int (fa), .int (sv), .ref (za g (b + 1)), .ref (za g (b + 2)), .ref (za g (b + 3)), .ref (za g (b + 4)), .ref (za g (b + 5)), .ref (za g (b + 6)), .ref (za g (b + 7)), .ref (za g (b + 8)), .ref (za g (b + 9)), .ref (za g (b + 10)), .int (tn), .int (nI ((((p) + (1)) + (1)) + (1))), .int (nI (I.length)), .int (ln), .int (kn), .int (nI (0)), .int (dg)] := by rw [ew81, zup_s]
                                      have hx84 := hx76.setC hf82 hw83
                                      refine z_iload_n dX13_digits_77 rfl ?_
                                      refine z_iret dX13_digits_78 rfl (by decide) (by decide) ?_
                                      exfalso; omega
                                    · exact absurd h_65_79 (by decide)
                                  · exact absurd h_13_78 (by decide)
                            · refine z_callSE (As := [.int (-1), .int (nI (48)), .int (nI (57))]) (rest := []) (v := some (.int (nI (0)))) (R2 := zR 0 0) dX13_digits_24 kS_RX13_57 rfl rfl ⟨⟨by decide, by decide⟩, by decide, by decide⟩ rfl (Nat.le_of_ble_eq_true rfl) rfl (c_X13_isIn_n (x := (-1)) (y := (nI (48))) (z := (nI (57))) h0 (by have q0 := (show ((-1 : Int32)).toInt = -1 from by decide); have q1 := nI_toInt (n := 48) (by omega); have q2 := nI_toInt (n := 57) (by omega); omega)) ?_
                              refine z_if_eq_n (a := 0) (tgt := 59) dX13_digits_27 (by decide) (by omega) (fun h_27_86 => ?_) (fun h_27_86 => ?_)
                              · refine z_aload_n dX13_digits_59 rfl ?_
                                refine z_dup dX13_digits_60 rfl ?_
                                refine z_getf (j := b) dX13_digits_61 kF_RX13_193 rfl (by omega) hx34.ce rfl ?_
                                refine z_iload_n dX13_digits_64 rfl ?_
                                refine z_if_ne_n (a := 2) (tgt := 72) dX13_digits_65 (by decide) (by omega) (fun h_65_87 => ?_) (fun h_65_87 => ?_)
                                · refine z_iconst (v := nI 0) dX13_digits_72 rfl ?_
                                  refine z_ior dX13_digits_73 ?_
                                  refine z_eq (st' := [.int (nI (0)), .ref (za g b)]) rfl (by rw [show br = 0 by omega, or_0 (a := 0) (by omega)]; first | done | rfl) rfl ?_
                                  refine z_putf (j := b) dX13_digits_74 kF_RX13_193 zt_12_20 rfl (by omega) hx34.ce rfl rfl (Nat.le_of_ble_eq_true rfl) ?_
                                  obtain ⟨w88, ew89⟩ : ∃ wz : zW, wz = va_up w30 (b) (zO 12 [.int (th), .int (ch), .int (ea), .int (fa), .int (sv), .ref (za g (b + 1)), .ref (za g (b + 2)), .ref (za g (b + 3)), .ref (za g (b + 4)), .ref (za g (b + 5)), .ref (za g (b + 6)), .ref (za g (b + 7)), .ref (za g (b + 8)), .ref (za g (b + 9)), .ref (za g (b + 10)), .int (tn), .int (nI (((p) + (1)) + (1))), .int (nI (I.length)), .int (ln), .int (kn), .int (nI (0)), .int (dg)]) := ⟨_, rfl⟩
                                  refine z_weq (w' := w88) ew89.symm ?_
                                  have hf90 : zFr w30 w88 (b) (b + 1) := by rw [ew89]; exact zFr.up (by omega)
                                  have hw91 : w88 (b) = zO 12 [.int (th), .int (ch), .int (ea), .int (fa), .int (sv), .ref (za g (b + 1)), .ref (za g (b + 2)), .ref (za g (b + 3)), .ref (za g (b + 4)), .ref (za g (b + 5)), .ref (za g (b + 6)), .ref (za g (b + 7)), .ref (za g (b + 8)), .ref (za g (b + 9)), .ref (za g (b + 10)), .int (tn), .int (nI (((p) + (1)) + (1))), .int (nI (I.length)), .int (ln), .int (kn), .int (nI (0)), .int (dg)] := by rw [ew89, zup_s]
                                  have hx92 := hx34.setC hf90 hw91
                                  refine z_iload_n dX13_digits_77 rfl ?_
                                  refine z_iret dX13_digits_78 rfl (by decide) (by decide) ?_
                                  have e1 : (pN I 48 p br).1 = (((10) * ((((10) * (0)) + (I.getD (p) 0)) - (48))) + (I.getD ((p) + (1)) 0)) - (48) := by unfold pN; rw [if_pos (by omega), if_pos (by omega), if_neg (by omega)]; all_goals (first | rfl | (dsimp only; omega))
                                  have e2 : (pN I 48 p br).2.1 = ((p) + (1)) + (1) := by unfold pN; rw [if_pos (by omega), if_pos (by omega), if_neg (by omega)]; all_goals (first | rfl | (dsimp only; omega))
                                  have e3 : (pN I 48 p br).2.2 = 0 := by unfold pN; rw [if_pos (by omega), if_pos (by omega), if_neg (by omega)]; all_goals (first | rfl | (dsimp only; omega))
                                  rw [e1, e2, e3]
                                  exact ⟨rfl, (((hf18.wk (by omega) (by omega)).tr (hf32.wk (by omega) (by omega))).tr (hf90.wk (by omega) (by omega))), hx92⟩
                                · exact absurd h_65_87 (by decide)
                              · exact absurd h_27_86 (by decide)
                  · refine z_callSE (As := [.int (nI (I.getD ((p) + (1)) 0)), .int (nI (48)), .int (nI (57))]) (rest := []) (v := some (.int (nI (0)))) (R2 := zR 0 0) dX13_digits_24 kS_RX13_57 rfl rfl ⟨⟨by decide, by decide⟩, by decide, by decide⟩ rfl (Nat.le_of_ble_eq_true rfl) rfl (c_X13_isIn_n (x := (nI (I.getD ((p) + (1)) 0))) (y := (nI (48))) (z := (nI (57))) h0 (by have q0 := nI_toInt (n := I.getD ((p) + (1)) 0) (by omega); have q1 := nI_toInt (n := 48) (by omega); have q2 := nI_toInt (n := 57) (by omega); omega)) ?_
                    refine z_if_eq_n (a := 0) (tgt := 59) dX13_digits_27 (by decide) (by omega) (fun h_27_94 => ?_) (fun h_27_94 => ?_)
                    · refine z_aload_n dX13_digits_59 rfl ?_
                      refine z_dup dX13_digits_60 rfl ?_
                      refine z_getf (j := b) dX13_digits_61 kF_RX13_193 rfl (by omega) hx20.ce rfl ?_
                      refine z_iload_n dX13_digits_64 rfl ?_
                      refine z_if_ne_n (a := 1) (tgt := 72) dX13_digits_65 (by decide) (by omega) (fun h_65_95 => ?_) (fun h_65_95 => ?_)
                      · refine z_iconst (v := nI 0) dX13_digits_72 rfl ?_
                        refine z_ior dX13_digits_73 ?_
                        refine z_eq (st' := [.int (nI (0)), .ref (za g b)]) rfl (by rw [show br = 0 by omega, or_0 (a := 0) (by omega)]; first | done | rfl) rfl ?_
                        refine z_putf (j := b) dX13_digits_74 kF_RX13_193 zt_12_20 rfl (by omega) hx20.ce rfl rfl (Nat.le_of_ble_eq_true rfl) ?_
                        obtain ⟨w96, ew97⟩ : ∃ wz : zW, wz = va_up w16 (b) (zO 12 [.int (th), .int (ch), .int (ea), .int (fa), .int (sv), .ref (za g (b + 1)), .ref (za g (b + 2)), .ref (za g (b + 3)), .ref (za g (b + 4)), .ref (za g (b + 5)), .ref (za g (b + 6)), .ref (za g (b + 7)), .ref (za g (b + 8)), .ref (za g (b + 9)), .ref (za g (b + 10)), .int (tn), .int (nI ((p) + (1))), .int (nI (I.length)), .int (ln), .int (kn), .int (nI (0)), .int (dg)]) := ⟨_, rfl⟩
                        refine z_weq (w' := w96) ew97.symm ?_
                        have hf98 : zFr w16 w96 (b) (b + 1) := by rw [ew97]; exact zFr.up (by omega)
                        have hw99 : w96 (b) = zO 12 [.int (th), .int (ch), .int (ea), .int (fa), .int (sv), .ref (za g (b + 1)), .ref (za g (b + 2)), .ref (za g (b + 3)), .ref (za g (b + 4)), .ref (za g (b + 5)), .ref (za g (b + 6)), .ref (za g (b + 7)), .ref (za g (b + 8)), .ref (za g (b + 9)), .ref (za g (b + 10)), .int (tn), .int (nI ((p) + (1))), .int (nI (I.length)), .int (ln), .int (kn), .int (nI (0)), .int (dg)] := by rw [ew97, zup_s]
                        have hx100 := hx20.setC hf98 hw99
                        refine z_iload_n dX13_digits_77 rfl ?_
                        refine z_iret dX13_digits_78 rfl (by decide) (by decide) ?_
                        have e1 : (pN I 48 p br).1 = (((10) * (0)) + (I.getD (p) 0)) - (48) := by unfold pN; rw [if_pos (by omega), if_neg (by omega)]; all_goals (first | rfl | (dsimp only; omega))
                        have e2 : (pN I 48 p br).2.1 = (p) + (1) := by unfold pN; rw [if_pos (by omega), if_neg (by omega)]; all_goals (first | rfl | (dsimp only; omega))
                        have e3 : (pN I 48 p br).2.2 = 0 := by unfold pN; rw [if_pos (by omega), if_neg (by omega)]; all_goals (first | rfl | (dsimp only; omega))
                        rw [e1, e2, e3]
                        exact ⟨rfl, ((hf18.wk (by omega) (by omega)).tr (hf98.wk (by omega) (by omega))), hx100⟩
                      · exact absurd h_65_95 (by decide)
                    · exact absurd h_27_94 (by decide)
                · have hgz101 : I.getD ((p) + (1)) 0 = 0 := gD_ge (by omega)
                  have hm1102 : (-1 : Int32).toInt = -1 := by decide
                  refine z_callE (As := []) (rest := []) (b := b) (ci := 12) (v := some (.int (-1))) (R2 := zR 0 0) dX13_digits_17 kV_RX13_197 rfl ⟨⟨by decide, by decide⟩, by decide, by decide⟩ (by omega) hx20.ce rfl rfl rfl (Nat.le_of_ble_eq_true rfl) rfl (c_X13_sign_n (p := (p) + (1)) h0 hx20 htx (by omega) hc23) ?_
                  refine z_bipush (v := nI 48) dX13_digits_20 rfl ?_
                  refine z_bipush (v := nI 57) dX13_digits_22 rfl ?_
                  by_cases hc104 : ((48 : Nat) : Int) ≤ (-1 : Int) ∧ (-1 : Int) ≤ ((57 : Nat) : Int)
                  · refine z_callSE (As := [.int (-1), .int (nI (48)), .int (nI (57))]) (rest := []) (v := some (.int (nI (1)))) (R2 := zR 0 0) dX13_digits_24 kS_RX13_57 rfl rfl ⟨⟨by decide, by decide⟩, by decide, by decide⟩ rfl (Nat.le_of_ble_eq_true rfl) rfl (c_X13_isIn_y (x := (-1)) (y := (nI (48))) (z := (nI (57))) h0 (by have q0 := (show ((-1 : Int32)).toInt = -1 from by decide); have q1 := nI_toInt (n := 48) (by omega); have q2 := nI_toInt (n := 57) (by omega); omega)) ?_
                    refine z_if_eq_n (a := 1) (tgt := 59) dX13_digits_27 (by decide) (by omega) (fun h_27_106 => ?_) (fun h_27_106 => ?_)
                    · exact absurd h_27_106 (by decide)
                    · refine z_bipush (v := nI 10) dX13_digits_30 rfl ?_
                      refine z_iload_n dX13_digits_32 rfl ?_
                      refine z_imul_n (a := 10) (b := (((10) * (0)) + (I.getD (p) 0)) - (48)) dX13_digits_33 ?_
                      refine z_aload_n dX13_digits_34 rfl ?_
                      refine z_callE (As := []) (rest := [.int (nI ((10) * ((((10) * (0)) + (I.getD (p) 0)) - (48))))]) (b := b) (ci := 12) (v := some (.int (-1))) (R2 := zR 0 0) dX13_digits_35 kV_RX13_197 rfl ⟨⟨by decide, by decide⟩, by decide, by decide⟩ (by omega) hx20.ce rfl rfl rfl (Nat.le_of_ble_eq_true rfl) rfl (c_X13_sign_n (p := (p) + (1)) h0 hx20 htx (by omega) hc23) ?_
                      refine z_iadd dX13_digits_38 ?_
                      refine z_bipush (v := nI 48) dX13_digits_39 rfl ?_
                      refine z_isub dX13_digits_41 ?_
                      refine z_istore_n (lv' := [(0, .ref (za g b)), (1, .int (((nI ((10) * ((((10) * (0)) + (I.getD (p) 0)) - (48)))) + (-1)) - (nI (48)))), (2, .int (nI (1)))]) dX13_digits_42 (by decide) rfl ?_
                      refine z_aload_n dX13_digits_43 rfl ?_
                      refine z_dup dX13_digits_44 rfl ?_
                      refine z_getf (j := b) dX13_digits_45 kF_RX13_187 rfl (by omega) hx20.ce rfl ?_
                      refine z_iconst (v := nI 1) dX13_digits_48 rfl ?_
                      refine z_iadd_n (a := (p) + (1)) (b := 1) dX13_digits_49 ?_
                      refine z_putf (j := b) dX13_digits_50 kF_RX13_187 zt_12_16 rfl (by omega) hx20.ce rfl rfl (Nat.le_of_ble_eq_true rfl) ?_
                      obtain ⟨w108, ew109⟩ : ∃ wz : zW, wz = va_up w16 (b) (zO 12 [.int (th), .int (ch), .int (ea), .int (fa), .int (sv), .ref (za g (b + 1)), .ref (za g (b + 2)), .ref (za g (b + 3)), .ref (za g (b + 4)), .ref (za g (b + 5)), .ref (za g (b + 6)), .ref (za g (b + 7)), .ref (za g (b + 8)), .ref (za g (b + 9)), .ref (za g (b + 10)), .int (tn), .int (nI (((p) + (1)) + (1))), .int (nI (I.length)), .int (ln), .int (kn), .int (nI (br)), .int (dg)]) := ⟨_, rfl⟩
                      refine z_weq (w' := w108) ew109.symm ?_
                      have hf110 : zFr w16 w108 (b) (b + 1) := by rw [ew109]; exact zFr.up (by omega)
                      have hw111 : w108 (b) = zO 12 [.int (th), .int (ch), .int (ea), .int (fa), .int (sv), .ref (za g (b + 1)), .ref (za g (b + 2)), .ref (za g (b + 3)), .ref (za g (b + 4)), .ref (za g (b + 5)), .ref (za g (b + 6)), .ref (za g (b + 7)), .ref (za g (b + 8)), .ref (za g (b + 9)), .ref (za g (b + 10)), .int (tn), .int (nI (((p) + (1)) + (1))), .int (nI (I.length)), .int (ln), .int (kn), .int (nI (br)), .int (dg)] := by rw [ew109, zup_s]
                      have hx112 := hx20.setC hf110 hw111
                      refine z_iinc_n (n := 1) (a := 1) (lv' := [(0, .ref (za g b)), (1, .int (((nI ((10) * ((((10) * (0)) + (I.getD (p) 0)) - (48)))) + (-1)) - (nI (48)))), (2, .int (nI (2)))]) dX13_digits_53 rfl (by decide) rfl ?_
                      refine z_goto (tgt := 4) dX13_digits_56 (by decide) ?_
                      refine z_aload_n dX13_digits_4 rfl ?_
                      refine z_getf (j := b) dX13_digits_5 kF_RX13_193 rfl (by omega) hx112.ce rfl ?_
                      refine z_if_ne_n (a := br) (tgt := 59) dX13_digits_8 (by decide) (by omega) (fun h_8_113 => ?_) (fun h_8_113 => ?_)
                      · (exfalso; omega)
                      · refine z_iload_n dX13_digits_11 rfl ?_
                        refine z_iconst (v := nI 3) dX13_digits_12 rfl ?_
                        refine z_icmp_ge_n (a := 2) (b := 3) (tgt := 59) dX13_digits_13 (by decide) (by omega) (by omega) (fun h_13_114 => ?_) (fun h_13_114 => ?_)
                        · exact absurd h_13_114 (by decide)
                        · refine z_aload_n dX13_digits_16 rfl ?_
                          by_cases hc115 : ((p) + (1)) + (1) < I.length
                          · have hch116 := htx.2.2 _ (get_mem hc115)
                            refine z_callE (As := []) (rest := []) (b := b) (ci := 12) (v := some (.int (nI (I.getD (((p) + (1)) + (1)) 0)))) (R2 := zR 0 0) dX13_digits_17 kV_RX13_197 rfl ⟨⟨by decide, by decide⟩, by decide, by decide⟩ (by omega) hx112.ce rfl rfl rfl (Nat.le_of_ble_eq_true rfl) rfl (c_X13_sign_y (p := ((p) + (1)) + (1)) h0 hx112 htx (by omega) hc115) ?_
                            refine z_bipush (v := nI 48) dX13_digits_20 rfl ?_
                            refine z_bipush (v := nI 57) dX13_digits_22 rfl ?_
                            by_cases hc118 : ((48 : Nat) : Int) ≤ ((I.getD (((p) + (1)) + (1)) 0 : Nat) : Int) ∧ ((I.getD (((p) + (1)) + (1)) 0 : Nat) : Int) ≤ ((57 : Nat) : Int)
                            · refine z_callSE (As := [.int (nI (I.getD (((p) + (1)) + (1)) 0)), .int (nI (48)), .int (nI (57))]) (rest := []) (v := some (.int (nI (1)))) (R2 := zR 0 0) dX13_digits_24 kS_RX13_57 rfl rfl ⟨⟨by decide, by decide⟩, by decide, by decide⟩ rfl (Nat.le_of_ble_eq_true rfl) rfl (c_X13_isIn_y (x := (nI (I.getD (((p) + (1)) + (1)) 0))) (y := (nI (48))) (z := (nI (57))) h0 (by have q0 := nI_toInt (n := I.getD (((p) + (1)) + (1)) 0) (by omega); have q1 := nI_toInt (n := 48) (by omega); have q2 := nI_toInt (n := 57) (by omega); omega)) ?_
                              refine z_if_eq_n (a := 1) (tgt := 59) dX13_digits_27 (by decide) (by omega) (fun h_27_120 => ?_) (fun h_27_120 => ?_)
                              · exact absurd h_27_120 (by decide)
                              · refine z_bipush (v := nI 10) dX13_digits_30 rfl ?_
                                refine z_iload_n dX13_digits_32 rfl ?_
                                refine z_imul dX13_digits_33 ?_
                                refine z_aload_n dX13_digits_34 rfl ?_
                                refine z_callE (As := []) (rest := [.int ((nI (10)) * (((nI ((10) * ((((10) * (0)) + (I.getD (p) 0)) - (48)))) + (-1)) - (nI (48))))]) (b := b) (ci := 12) (v := some (.int (nI (I.getD (((p) + (1)) + (1)) 0)))) (R2 := zR 0 0) dX13_digits_35 kV_RX13_197 rfl ⟨⟨by decide, by decide⟩, by decide, by decide⟩ (by omega) hx112.ce rfl rfl rfl (Nat.le_of_ble_eq_true rfl) rfl (c_X13_sign_y (p := ((p) + (1)) + (1)) h0 hx112 htx (by omega) hc115) ?_
                                refine z_iadd dX13_digits_38 ?_
                                refine z_bipush (v := nI 48) dX13_digits_39 rfl ?_
                                refine z_isub dX13_digits_41 ?_
                                refine z_istore_n (lv' := [(0, .ref (za g b)), (1, .int ((((nI (10)) * (((nI ((10) * ((((10) * (0)) + (I.getD (p) 0)) - (48)))) + (-1)) - (nI (48)))) + (nI (I.getD (((p) + (1)) + (1)) 0))) - (nI (48)))), (2, .int (nI (2)))]) dX13_digits_42 (by decide) rfl ?_
                                refine z_aload_n dX13_digits_43 rfl ?_
                                refine z_dup dX13_digits_44 rfl ?_
                                refine z_getf (j := b) dX13_digits_45 kF_RX13_187 rfl (by omega) hx112.ce rfl ?_
                                refine z_iconst (v := nI 1) dX13_digits_48 rfl ?_
                                refine z_iadd_n (a := ((p) + (1)) + (1)) (b := 1) dX13_digits_49 ?_
                                refine z_putf (j := b) dX13_digits_50 kF_RX13_187 zt_12_16 rfl (by omega) hx112.ce rfl rfl (Nat.le_of_ble_eq_true rfl) ?_
                                obtain ⟨w122, ew123⟩ : ∃ wz : zW, wz = va_up w108 (b) (zO 12 [.int (th), .int (ch), .int (ea), .int (fa), .int (sv), .ref (za g (b + 1)), .ref (za g (b + 2)), .ref (za g (b + 3)), .ref (za g (b + 4)), .ref (za g (b + 5)), .ref (za g (b + 6)), .ref (za g (b + 7)), .ref (za g (b + 8)), .ref (za g (b + 9)), .ref (za g (b + 10)), .int (tn), .int (nI ((((p) + (1)) + (1)) + (1))), .int (nI (I.length)), .int (ln), .int (kn), .int (nI (br)), .int (dg)]) := ⟨_, rfl⟩
                                refine z_weq (w' := w122) ew123.symm ?_
                                have hf124 : zFr w108 w122 (b) (b + 1) := by rw [ew123]; exact zFr.up (by omega)
                                have hw125 : w122 (b) = zO 12 [.int (th), .int (ch), .int (ea), .int (fa), .int (sv), .ref (za g (b + 1)), .ref (za g (b + 2)), .ref (za g (b + 3)), .ref (za g (b + 4)), .ref (za g (b + 5)), .ref (za g (b + 6)), .ref (za g (b + 7)), .ref (za g (b + 8)), .ref (za g (b + 9)), .ref (za g (b + 10)), .int (tn), .int (nI ((((p) + (1)) + (1)) + (1))), .int (nI (I.length)), .int (ln), .int (kn), .int (nI (br)), .int (dg)] := by rw [ew123, zup_s]
                                have hx126 := hx112.setC hf124 hw125
                                refine z_iinc_n (n := 1) (a := 2) (lv' := [(0, .ref (za g b)), (1, .int ((((nI (10)) * (((nI ((10) * ((((10) * (0)) + (I.getD (p) 0)) - (48)))) + (-1)) - (nI (48)))) + (nI (I.getD (((p) + (1)) + (1)) 0))) - (nI (48)))), (2, .int (nI (3)))]) dX13_digits_53 rfl (by decide) rfl ?_
                                refine z_goto (tgt := 4) dX13_digits_56 (by decide) ?_
                                refine z_aload_n dX13_digits_4 rfl ?_
                                refine z_getf (j := b) dX13_digits_5 kF_RX13_193 rfl (by omega) hx126.ce rfl ?_
                                refine z_if_ne_n (a := br) (tgt := 59) dX13_digits_8 (by decide) (by omega) (fun h_8_127 => ?_) (fun h_8_127 => ?_)
                                · (exfalso; omega)
                                · refine z_iload_n dX13_digits_11 rfl ?_
                                  refine z_iconst (v := nI 3) dX13_digits_12 rfl ?_
                                  refine z_icmp_ge_n (a := 3) (b := 3) (tgt := 59) dX13_digits_13 (by decide) (by omega) (by omega) (fun h_13_128 => ?_) (fun h_13_128 => ?_)
                                  · refine z_aload_n dX13_digits_59 rfl ?_
                                    refine z_dup dX13_digits_60 rfl ?_
                                    refine z_getf (j := b) dX13_digits_61 kF_RX13_193 rfl (by omega) hx126.ce rfl ?_
                                    refine z_iload_n dX13_digits_64 rfl ?_
                                    refine z_if_ne_n (a := 3) (tgt := 72) dX13_digits_65 (by decide) (by omega) (fun h_65_129 => ?_) (fun h_65_129 => ?_)
                                    · refine z_iconst (v := nI 0) dX13_digits_72 rfl ?_
                                      refine z_ior dX13_digits_73 ?_
                                      refine z_eq (st' := [.int (nI (0)), .ref (za g b)]) rfl (by rw [show br = 0 by omega, or_0 (a := 0) (by omega)]; first | done | rfl) rfl ?_
                                      refine z_putf (j := b) dX13_digits_74 kF_RX13_193 zt_12_20 rfl (by omega) hx126.ce rfl rfl (Nat.le_of_ble_eq_true rfl) ?_
                                      obtain ⟨w130, ew131⟩ : ∃ wz : zW, wz = va_up w122 (b) (zO 12 [.int (th), .int (ch), .int (ea), .int (fa), .int (sv), .ref (za g (b + 1)), .ref (za g (b + 2)), .ref (za g (b + 3)), .ref (za g (b + 4)), .ref (za g (b + 5)), .ref (za g (b + 6)), .ref (za g (b + 7)), .ref (za g (b + 8)), .ref (za g (b + 9)), .ref (za g (b + 10)), .int (tn), .int (nI ((((p) + (1)) + (1)) + (1))), .int (nI (I.length)), .int (ln), .int (kn), .int (nI (0)), .int (dg)]) := ⟨_, rfl⟩
                                      refine z_weq (w' := w130) ew131.symm ?_
                                      have hf132 : zFr w122 w130 (b) (b + 1) := by rw [ew131]; exact zFr.up (by omega)
                                      have hw133 : w130 (b) = zO 12 [.int (th), .int (ch), .int (ea), .int (fa), .int (sv), .ref (za g (b + 1)), .ref (za g (b + 2)), .ref (za g (b + 3)), .ref (za g (b + 4)), .ref (za g (b + 5)), .ref (za g (b + 6)), .ref (za g (b + 7)), .ref (za g (b + 8)), .ref (za g (b + 9)), .ref (za g (b + 10)), .int (tn), .int (nI ((((p) + (1)) + (1)) + (1))), .int (nI (I.length)), .int (ln), .int (kn), .int (nI (0)), .int (dg)] := by rw [ew131, zup_s]
                                      have hx134 := hx126.setC hf132 hw133
                                      refine z_iload_n dX13_digits_77 rfl ?_
                                      refine z_iret dX13_digits_78 rfl (by decide) (by decide) ?_
                                      exfalso; omega
                                    · exact absurd h_65_129 (by decide)
                                  · exact absurd h_13_128 (by decide)
                            · refine z_callSE (As := [.int (nI (I.getD (((p) + (1)) + (1)) 0)), .int (nI (48)), .int (nI (57))]) (rest := []) (v := some (.int (nI (0)))) (R2 := zR 0 0) dX13_digits_24 kS_RX13_57 rfl rfl ⟨⟨by decide, by decide⟩, by decide, by decide⟩ rfl (Nat.le_of_ble_eq_true rfl) rfl (c_X13_isIn_n (x := (nI (I.getD (((p) + (1)) + (1)) 0))) (y := (nI (48))) (z := (nI (57))) h0 (by have q0 := nI_toInt (n := I.getD (((p) + (1)) + (1)) 0) (by omega); have q1 := nI_toInt (n := 48) (by omega); have q2 := nI_toInt (n := 57) (by omega); omega)) ?_
                              refine z_if_eq_n (a := 0) (tgt := 59) dX13_digits_27 (by decide) (by omega) (fun h_27_136 => ?_) (fun h_27_136 => ?_)
                              · refine z_aload_n dX13_digits_59 rfl ?_
                                refine z_dup dX13_digits_60 rfl ?_
                                refine z_getf (j := b) dX13_digits_61 kF_RX13_193 rfl (by omega) hx112.ce rfl ?_
                                refine z_iload_n dX13_digits_64 rfl ?_
                                refine z_if_ne_n (a := 2) (tgt := 72) dX13_digits_65 (by decide) (by omega) (fun h_65_137 => ?_) (fun h_65_137 => ?_)
                                · refine z_iconst (v := nI 0) dX13_digits_72 rfl ?_
                                  refine z_ior dX13_digits_73 ?_
                                  refine z_eq (st' := [.int (nI (0)), .ref (za g b)]) rfl (by rw [show br = 0 by omega, or_0 (a := 0) (by omega)]; first | done | rfl) rfl ?_
                                  refine z_putf (j := b) dX13_digits_74 kF_RX13_193 zt_12_20 rfl (by omega) hx112.ce rfl rfl (Nat.le_of_ble_eq_true rfl) ?_
                                  obtain ⟨w138, ew139⟩ : ∃ wz : zW, wz = va_up w108 (b) (zO 12 [.int (th), .int (ch), .int (ea), .int (fa), .int (sv), .ref (za g (b + 1)), .ref (za g (b + 2)), .ref (za g (b + 3)), .ref (za g (b + 4)), .ref (za g (b + 5)), .ref (za g (b + 6)), .ref (za g (b + 7)), .ref (za g (b + 8)), .ref (za g (b + 9)), .ref (za g (b + 10)), .int (tn), .int (nI (((p) + (1)) + (1))), .int (nI (I.length)), .int (ln), .int (kn), .int (nI (0)), .int (dg)]) := ⟨_, rfl⟩
                                  refine z_weq (w' := w138) ew139.symm ?_
                                  have hf140 : zFr w108 w138 (b) (b + 1) := by rw [ew139]; exact zFr.up (by omega)
                                  have hw141 : w138 (b) = zO 12 [.int (th), .int (ch), .int (ea), .int (fa), .int (sv), .ref (za g (b + 1)), .ref (za g (b + 2)), .ref (za g (b + 3)), .ref (za g (b + 4)), .ref (za g (b + 5)), .ref (za g (b + 6)), .ref (za g (b + 7)), .ref (za g (b + 8)), .ref (za g (b + 9)), .ref (za g (b + 10)), .int (tn), .int (nI (((p) + (1)) + (1))), .int (nI (I.length)), .int (ln), .int (kn), .int (nI (0)), .int (dg)] := by rw [ew139, zup_s]
                                  have hx142 := hx112.setC hf140 hw141
                                  refine z_iload_n dX13_digits_77 rfl ?_
                                  refine z_iret dX13_digits_78 rfl (by decide) (by decide) ?_
                                  exfalso; omega
                                · exact absurd h_65_137 (by decide)
                              · exact absurd h_27_136 (by decide)
                          · have hgz143 : I.getD (((p) + (1)) + (1)) 0 = 0 := gD_ge (by omega)
                            have hm1144 : (-1 : Int32).toInt = -1 := by decide
                            refine z_callE (As := []) (rest := []) (b := b) (ci := 12) (v := some (.int (-1))) (R2 := zR 0 0) dX13_digits_17 kV_RX13_197 rfl ⟨⟨by decide, by decide⟩, by decide, by decide⟩ (by omega) hx112.ce rfl rfl rfl (Nat.le_of_ble_eq_true rfl) rfl (c_X13_sign_n (p := ((p) + (1)) + (1)) h0 hx112 htx (by omega) hc115) ?_
                            refine z_bipush (v := nI 48) dX13_digits_20 rfl ?_
                            refine z_bipush (v := nI 57) dX13_digits_22 rfl ?_
                            by_cases hc146 : ((48 : Nat) : Int) ≤ (-1 : Int) ∧ (-1 : Int) ≤ ((57 : Nat) : Int)
                            · refine z_callSE (As := [.int (-1), .int (nI (48)), .int (nI (57))]) (rest := []) (v := some (.int (nI (1)))) (R2 := zR 0 0) dX13_digits_24 kS_RX13_57 rfl rfl ⟨⟨by decide, by decide⟩, by decide, by decide⟩ rfl (Nat.le_of_ble_eq_true rfl) rfl (c_X13_isIn_y (x := (-1)) (y := (nI (48))) (z := (nI (57))) h0 (by have q0 := (show ((-1 : Int32)).toInt = -1 from by decide); have q1 := nI_toInt (n := 48) (by omega); have q2 := nI_toInt (n := 57) (by omega); omega)) ?_
                              refine z_if_eq_n (a := 1) (tgt := 59) dX13_digits_27 (by decide) (by omega) (fun h_27_148 => ?_) (fun h_27_148 => ?_)
                              · exact absurd h_27_148 (by decide)
                              · refine z_bipush (v := nI 10) dX13_digits_30 rfl ?_
                                refine z_iload_n dX13_digits_32 rfl ?_
                                refine z_imul dX13_digits_33 ?_
                                refine z_aload_n dX13_digits_34 rfl ?_
                                refine z_callE (As := []) (rest := [.int ((nI (10)) * (((nI ((10) * ((((10) * (0)) + (I.getD (p) 0)) - (48)))) + (-1)) - (nI (48))))]) (b := b) (ci := 12) (v := some (.int (-1))) (R2 := zR 0 0) dX13_digits_35 kV_RX13_197 rfl ⟨⟨by decide, by decide⟩, by decide, by decide⟩ (by omega) hx112.ce rfl rfl rfl (Nat.le_of_ble_eq_true rfl) rfl (c_X13_sign_n (p := ((p) + (1)) + (1)) h0 hx112 htx (by omega) hc115) ?_
                                refine z_iadd dX13_digits_38 ?_
                                refine z_bipush (v := nI 48) dX13_digits_39 rfl ?_
                                refine z_isub dX13_digits_41 ?_
                                refine z_istore_n (lv' := [(0, .ref (za g b)), (1, .int ((((nI (10)) * (((nI ((10) * ((((10) * (0)) + (I.getD (p) 0)) - (48)))) + (-1)) - (nI (48)))) + (-1)) - (nI (48)))), (2, .int (nI (2)))]) dX13_digits_42 (by decide) rfl ?_
                                refine z_aload_n dX13_digits_43 rfl ?_
                                refine z_dup dX13_digits_44 rfl ?_
                                refine z_getf (j := b) dX13_digits_45 kF_RX13_187 rfl (by omega) hx112.ce rfl ?_
                                refine z_iconst (v := nI 1) dX13_digits_48 rfl ?_
                                refine z_iadd_n (a := ((p) + (1)) + (1)) (b := 1) dX13_digits_49 ?_
                                refine z_putf (j := b) dX13_digits_50 kF_RX13_187 zt_12_16 rfl (by omega) hx112.ce rfl rfl (Nat.le_of_ble_eq_true rfl) ?_
                                obtain ⟨w150, ew151⟩ : ∃ wz : zW, wz = va_up w108 (b) (zO 12 [.int (th), .int (ch), .int (ea), .int (fa), .int (sv), .ref (za g (b + 1)), .ref (za g (b + 2)), .ref (za g (b + 3)), .ref (za g (b + 4)), .ref (za g (b + 5)), .ref (za g (b + 6)), .ref (za g (b + 7)), .ref (za g (b + 8)), .ref (za g (b + 9)), .ref (za g (b + 10)), .int (tn), .int (nI ((((p) + (1)) + (1)) + (1))), .int (nI (I.length)), .int (ln), .int (kn), .int (nI (br)), .int (dg)]) := ⟨_, rfl⟩
                                refine z_weq (w' := w150) ew151.symm ?_
                                have hf152 : zFr w108 w150 (b) (b + 1) := by rw [ew151]; exact zFr.up (by omega)
                                have hw153 : w150 (b) = zO 12 [.int (th), .int (ch), .int (ea), .int (fa), .int (sv), .ref (za g (b + 1)), .ref (za g (b + 2)), .ref (za g (b + 3)), .ref (za g (b + 4)), .ref (za g (b + 5)), .ref (za g (b + 6)), .ref (za g (b + 7)), .ref (za g (b + 8)), .ref (za g (b + 9)), .ref (za g (b + 10)), .int (tn), .int (nI ((((p) + (1)) + (1)) + (1))), .int (nI (I.length)), .int (ln), .int (kn), .int (nI (br)), .int (dg)] := by rw [ew151, zup_s]
                                have hx154 := hx112.setC hf152 hw153
                                refine z_iinc_n (n := 1) (a := 2) (lv' := [(0, .ref (za g b)), (1, .int ((((nI (10)) * (((nI ((10) * ((((10) * (0)) + (I.getD (p) 0)) - (48)))) + (-1)) - (nI (48)))) + (-1)) - (nI (48)))), (2, .int (nI (3)))]) dX13_digits_53 rfl (by decide) rfl ?_
                                refine z_goto (tgt := 4) dX13_digits_56 (by decide) ?_
                                refine z_aload_n dX13_digits_4 rfl ?_
                                refine z_getf (j := b) dX13_digits_5 kF_RX13_193 rfl (by omega) hx154.ce rfl ?_
                                refine z_if_ne_n (a := br) (tgt := 59) dX13_digits_8 (by decide) (by omega) (fun h_8_155 => ?_) (fun h_8_155 => ?_)
                                · (exfalso; omega)
                                · refine z_iload_n dX13_digits_11 rfl ?_
                                  refine z_iconst (v := nI 3) dX13_digits_12 rfl ?_
                                  refine z_icmp_ge_n (a := 3) (b := 3) (tgt := 59) dX13_digits_13 (by decide) (by omega) (by omega) (fun h_13_156 => ?_) (fun h_13_156 => ?_)
                                  · refine z_aload_n dX13_digits_59 rfl ?_
                                    refine z_dup dX13_digits_60 rfl ?_
                                    refine z_getf (j := b) dX13_digits_61 kF_RX13_193 rfl (by omega) hx154.ce rfl ?_
                                    refine z_iload_n dX13_digits_64 rfl ?_
                                    refine z_if_ne_n (a := 3) (tgt := 72) dX13_digits_65 (by decide) (by omega) (fun h_65_157 => ?_) (fun h_65_157 => ?_)
                                    · refine z_iconst (v := nI 0) dX13_digits_72 rfl ?_
                                      refine z_ior dX13_digits_73 ?_
                                      refine z_eq (st' := [.int (nI (0)), .ref (za g b)]) rfl (by rw [show br = 0 by omega, or_0 (a := 0) (by omega)]; first | done | rfl) rfl ?_
                                      refine z_putf (j := b) dX13_digits_74 kF_RX13_193 zt_12_20 rfl (by omega) hx154.ce rfl rfl (Nat.le_of_ble_eq_true rfl) ?_
                                      obtain ⟨w158, ew159⟩ : ∃ wz : zW, wz = va_up w150 (b) (zO 12 [.int (th), .int (ch), .int (ea), .int (fa), .int (sv), .ref (za g (b + 1)), .ref (za g (b + 2)), .ref (za g (b + 3)), .ref (za g (b + 4)), .ref (za g (b + 5)), .ref (za g (b + 6)), .ref (za g (b + 7)), .ref (za g (b + 8)), .ref (za g (b + 9)), .ref (za g (b + 10)), .int (tn), .int (nI ((((p) + (1)) + (1)) + (1))), .int (nI (I.length)), .int (ln), .int (kn), .int (nI (0)), .int (dg)]) := ⟨_, rfl⟩
                                      refine z_weq (w' := w158) ew159.symm ?_
                                      have hf160 : zFr w150 w158 (b) (b + 1) := by rw [ew159]; exact zFr.up (by omega)
                                      have hw161 : w158 (b) = zO 12 [.int (th), .int (ch), .int (ea), .int (fa), .int (sv), .ref (za g (b + 1)), .ref (za g (b + 2)), .ref (za g (b + 3)), .ref (za g (b + 4)), .ref (za g (b + 5)), .ref (za g (b + 6)), .ref (za g (b + 7)), .ref (za g (b + 8)), .ref (za g (b + 9)), .ref (za g (b + 10)), .int (tn), .int (nI ((((p) + (1)) + (1)) + (1))), .int (nI (I.length)), .int (ln), .int (kn), .int (nI (0)), .int (dg)] := by rw [ew159, zup_s]
                                      have hx162 := hx154.setC hf160 hw161
                                      refine z_iload_n dX13_digits_77 rfl ?_
                                      refine z_iret dX13_digits_78 rfl (by decide) (by decide) ?_
                                      exfalso; omega
                                    · exact absurd h_65_157 (by decide)
                                  · exact absurd h_13_156 (by decide)
                            · refine z_callSE (As := [.int (-1), .int (nI (48)), .int (nI (57))]) (rest := []) (v := some (.int (nI (0)))) (R2 := zR 0 0) dX13_digits_24 kS_RX13_57 rfl rfl ⟨⟨by decide, by decide⟩, by decide, by decide⟩ rfl (Nat.le_of_ble_eq_true rfl) rfl (c_X13_isIn_n (x := (-1)) (y := (nI (48))) (z := (nI (57))) h0 (by have q0 := (show ((-1 : Int32)).toInt = -1 from by decide); have q1 := nI_toInt (n := 48) (by omega); have q2 := nI_toInt (n := 57) (by omega); omega)) ?_
                              refine z_if_eq_n (a := 0) (tgt := 59) dX13_digits_27 (by decide) (by omega) (fun h_27_164 => ?_) (fun h_27_164 => ?_)
                              · refine z_aload_n dX13_digits_59 rfl ?_
                                refine z_dup dX13_digits_60 rfl ?_
                                refine z_getf (j := b) dX13_digits_61 kF_RX13_193 rfl (by omega) hx112.ce rfl ?_
                                refine z_iload_n dX13_digits_64 rfl ?_
                                refine z_if_ne_n (a := 2) (tgt := 72) dX13_digits_65 (by decide) (by omega) (fun h_65_165 => ?_) (fun h_65_165 => ?_)
                                · refine z_iconst (v := nI 0) dX13_digits_72 rfl ?_
                                  refine z_ior dX13_digits_73 ?_
                                  refine z_eq (st' := [.int (nI (0)), .ref (za g b)]) rfl (by rw [show br = 0 by omega, or_0 (a := 0) (by omega)]; first | done | rfl) rfl ?_
                                  refine z_putf (j := b) dX13_digits_74 kF_RX13_193 zt_12_20 rfl (by omega) hx112.ce rfl rfl (Nat.le_of_ble_eq_true rfl) ?_
                                  obtain ⟨w166, ew167⟩ : ∃ wz : zW, wz = va_up w108 (b) (zO 12 [.int (th), .int (ch), .int (ea), .int (fa), .int (sv), .ref (za g (b + 1)), .ref (za g (b + 2)), .ref (za g (b + 3)), .ref (za g (b + 4)), .ref (za g (b + 5)), .ref (za g (b + 6)), .ref (za g (b + 7)), .ref (za g (b + 8)), .ref (za g (b + 9)), .ref (za g (b + 10)), .int (tn), .int (nI (((p) + (1)) + (1))), .int (nI (I.length)), .int (ln), .int (kn), .int (nI (0)), .int (dg)]) := ⟨_, rfl⟩
                                  refine z_weq (w' := w166) ew167.symm ?_
                                  have hf168 : zFr w108 w166 (b) (b + 1) := by rw [ew167]; exact zFr.up (by omega)
                                  have hw169 : w166 (b) = zO 12 [.int (th), .int (ch), .int (ea), .int (fa), .int (sv), .ref (za g (b + 1)), .ref (za g (b + 2)), .ref (za g (b + 3)), .ref (za g (b + 4)), .ref (za g (b + 5)), .ref (za g (b + 6)), .ref (za g (b + 7)), .ref (za g (b + 8)), .ref (za g (b + 9)), .ref (za g (b + 10)), .int (tn), .int (nI (((p) + (1)) + (1))), .int (nI (I.length)), .int (ln), .int (kn), .int (nI (0)), .int (dg)] := by rw [ew167, zup_s]
                                  have hx170 := hx112.setC hf168 hw169
                                  refine z_iload_n dX13_digits_77 rfl ?_
                                  refine z_iret dX13_digits_78 rfl (by decide) (by decide) ?_
                                  exfalso; omega
                                · exact absurd h_65_165 (by decide)
                              · exact absurd h_27_164 (by decide)
                  · refine z_callSE (As := [.int (-1), .int (nI (48)), .int (nI (57))]) (rest := []) (v := some (.int (nI (0)))) (R2 := zR 0 0) dX13_digits_24 kS_RX13_57 rfl rfl ⟨⟨by decide, by decide⟩, by decide, by decide⟩ rfl (Nat.le_of_ble_eq_true rfl) rfl (c_X13_isIn_n (x := (-1)) (y := (nI (48))) (z := (nI (57))) h0 (by have q0 := (show ((-1 : Int32)).toInt = -1 from by decide); have q1 := nI_toInt (n := 48) (by omega); have q2 := nI_toInt (n := 57) (by omega); omega)) ?_
                    refine z_if_eq_n (a := 0) (tgt := 59) dX13_digits_27 (by decide) (by omega) (fun h_27_172 => ?_) (fun h_27_172 => ?_)
                    · refine z_aload_n dX13_digits_59 rfl ?_
                      refine z_dup dX13_digits_60 rfl ?_
                      refine z_getf (j := b) dX13_digits_61 kF_RX13_193 rfl (by omega) hx20.ce rfl ?_
                      refine z_iload_n dX13_digits_64 rfl ?_
                      refine z_if_ne_n (a := 1) (tgt := 72) dX13_digits_65 (by decide) (by omega) (fun h_65_173 => ?_) (fun h_65_173 => ?_)
                      · refine z_iconst (v := nI 0) dX13_digits_72 rfl ?_
                        refine z_ior dX13_digits_73 ?_
                        refine z_eq (st' := [.int (nI (0)), .ref (za g b)]) rfl (by rw [show br = 0 by omega, or_0 (a := 0) (by omega)]; first | done | rfl) rfl ?_
                        refine z_putf (j := b) dX13_digits_74 kF_RX13_193 zt_12_20 rfl (by omega) hx20.ce rfl rfl (Nat.le_of_ble_eq_true rfl) ?_
                        obtain ⟨w174, ew175⟩ : ∃ wz : zW, wz = va_up w16 (b) (zO 12 [.int (th), .int (ch), .int (ea), .int (fa), .int (sv), .ref (za g (b + 1)), .ref (za g (b + 2)), .ref (za g (b + 3)), .ref (za g (b + 4)), .ref (za g (b + 5)), .ref (za g (b + 6)), .ref (za g (b + 7)), .ref (za g (b + 8)), .ref (za g (b + 9)), .ref (za g (b + 10)), .int (tn), .int (nI ((p) + (1))), .int (nI (I.length)), .int (ln), .int (kn), .int (nI (0)), .int (dg)]) := ⟨_, rfl⟩
                        refine z_weq (w' := w174) ew175.symm ?_
                        have hf176 : zFr w16 w174 (b) (b + 1) := by rw [ew175]; exact zFr.up (by omega)
                        have hw177 : w174 (b) = zO 12 [.int (th), .int (ch), .int (ea), .int (fa), .int (sv), .ref (za g (b + 1)), .ref (za g (b + 2)), .ref (za g (b + 3)), .ref (za g (b + 4)), .ref (za g (b + 5)), .ref (za g (b + 6)), .ref (za g (b + 7)), .ref (za g (b + 8)), .ref (za g (b + 9)), .ref (za g (b + 10)), .int (tn), .int (nI ((p) + (1))), .int (nI (I.length)), .int (ln), .int (kn), .int (nI (0)), .int (dg)] := by rw [ew175, zup_s]
                        have hx178 := hx20.setC hf176 hw177
                        refine z_iload_n dX13_digits_77 rfl ?_
                        refine z_iret dX13_digits_78 rfl (by decide) (by decide) ?_
                        have e1 : (pN I 48 p br).1 = (((10) * (0)) + (I.getD (p) 0)) - (48) := by unfold pN; rw [if_pos (by omega), if_neg (by omega)]; all_goals (first | rfl | (dsimp only; omega))
                        have e2 : (pN I 48 p br).2.1 = (p) + (1) := by unfold pN; rw [if_pos (by omega), if_neg (by omega)]; all_goals (first | rfl | (dsimp only; omega))
                        have e3 : (pN I 48 p br).2.2 = 0 := by unfold pN; rw [if_pos (by omega), if_neg (by omega)]; all_goals (first | rfl | (dsimp only; omega))
                        rw [e1, e2, e3]
                        exact ⟨rfl, ((hf18.wk (by omega) (by omega)).tr (hf176.wk (by omega) (by omega))), hx178⟩
                      · exact absurd h_65_173 (by decide)
                    · exact absurd h_27_172 (by decide)
        · refine z_callSE (As := [.int (nI (I.getD (p) 0)), .int (nI (48)), .int (nI (57))]) (rest := []) (v := some (.int (nI (0)))) (R2 := zR 0 0) dX13_digits_24 kS_RX13_57 rfl rfl ⟨⟨by decide, by decide⟩, by decide, by decide⟩ rfl (Nat.le_of_ble_eq_true rfl) rfl (c_X13_isIn_n (x := (nI (I.getD (p) 0))) (y := (nI (48))) (z := (nI (57))) h0 (by have q0 := nI_toInt (n := I.getD (p) 0) (by omega); have q1 := nI_toInt (n := 48) (by omega); have q2 := nI_toInt (n := 57) (by omega); omega)) ?_
          refine z_if_eq_n (a := 0) (tgt := 59) dX13_digits_27 (by decide) (by omega) (fun h_27_180 => ?_) (fun h_27_180 => ?_)
          · refine z_aload_n dX13_digits_59 rfl ?_
            refine z_dup dX13_digits_60 rfl ?_
            refine z_getf (j := b) dX13_digits_61 kF_RX13_193 rfl (by omega) h.ce rfl ?_
            refine z_iload_n dX13_digits_64 rfl ?_
            refine z_if_ne_n (a := 0) (tgt := 72) dX13_digits_65 (by decide) (by omega) (fun h_65_181 => ?_) (fun h_65_181 => ?_)
            · exact absurd h_65_181 (by decide)
            · refine z_iconst (v := nI 1) dX13_digits_68 rfl ?_
              refine z_goto (tgt := 73) dX13_digits_69 (by decide) ?_
              refine z_ior dX13_digits_73 ?_
              refine z_eq (st' := [.int (nI (1)), .ref (za g b)]) rfl (by rw [or_1 (a := br) (by omega)]; first | done | rfl) rfl ?_
              refine z_putf (j := b) dX13_digits_74 kF_RX13_193 zt_12_20 rfl (by omega) h.ce rfl rfl (Nat.le_of_ble_eq_true rfl) ?_
              obtain ⟨w182, ew183⟩ : ∃ wz : zW, wz = va_up w (b) (zO 12 [.int (th), .int (ch), .int (ea), .int (fa), .int (sv), .ref (za g (b + 1)), .ref (za g (b + 2)), .ref (za g (b + 3)), .ref (za g (b + 4)), .ref (za g (b + 5)), .ref (za g (b + 6)), .ref (za g (b + 7)), .ref (za g (b + 8)), .ref (za g (b + 9)), .ref (za g (b + 10)), .int (tn), .int (nI (p)), .int (nI (I.length)), .int (ln), .int (kn), .int (nI (1)), .int (dg)]) := ⟨_, rfl⟩
              refine z_weq (w' := w182) ew183.symm ?_
              have hf184 : zFr w w182 (b) (b + 1) := by rw [ew183]; exact zFr.up (by omega)
              have hw185 : w182 (b) = zO 12 [.int (th), .int (ch), .int (ea), .int (fa), .int (sv), .ref (za g (b + 1)), .ref (za g (b + 2)), .ref (za g (b + 3)), .ref (za g (b + 4)), .ref (za g (b + 5)), .ref (za g (b + 6)), .ref (za g (b + 7)), .ref (za g (b + 8)), .ref (za g (b + 9)), .ref (za g (b + 10)), .int (tn), .int (nI (p)), .int (nI (I.length)), .int (ln), .int (kn), .int (nI (1)), .int (dg)] := by rw [ew183, zup_s]
              have hx186 := h.setC hf184 hw185
              refine z_iload_n dX13_digits_77 rfl ?_
              refine z_iret dX13_digits_78 rfl (by decide) (by decide) ?_
              have e1 : (pN I 48 p br).1 = 0 := by unfold pN; rw [if_neg (by omega)]; all_goals (first | rfl | (dsimp only; omega))
              have e2 : (pN I 48 p br).2.1 = p := by unfold pN; rw [if_neg (by omega)]; all_goals (first | rfl | (dsimp only; omega))
              have e3 : (pN I 48 p br).2.2 = 1 := by unfold pN; rw [if_neg (by omega)]; all_goals (first | rfl | (dsimp only; omega))
              rw [e1, e2, e3]
              exact ⟨rfl, (hf184.wk (by omega) (by omega)), hx186⟩
          · exact absurd h_27_180 (by decide)
      · have hgz187 : I.getD (p) 0 = 0 := gD_ge (by omega)
        have hm1188 : (-1 : Int32).toInt = -1 := by decide
        refine z_callE (As := []) (rest := []) (b := b) (ci := 12) (v := some (.int (-1))) (R2 := zR 0 0) dX13_digits_17 kV_RX13_197 rfl ⟨⟨by decide, by decide⟩, by decide, by decide⟩ (by omega) h.ce rfl rfl rfl (Nat.le_of_ble_eq_true rfl) rfl (c_X13_sign_n (p := p) h0 h htx (by omega) hc9) ?_
        refine z_bipush (v := nI 48) dX13_digits_20 rfl ?_
        refine z_bipush (v := nI 57) dX13_digits_22 rfl ?_
        by_cases hc190 : ((48 : Nat) : Int) ≤ (-1 : Int) ∧ (-1 : Int) ≤ ((57 : Nat) : Int)
        · refine z_callSE (As := [.int (-1), .int (nI (48)), .int (nI (57))]) (rest := []) (v := some (.int (nI (1)))) (R2 := zR 0 0) dX13_digits_24 kS_RX13_57 rfl rfl ⟨⟨by decide, by decide⟩, by decide, by decide⟩ rfl (Nat.le_of_ble_eq_true rfl) rfl (c_X13_isIn_y (x := (-1)) (y := (nI (48))) (z := (nI (57))) h0 (by have q0 := (show ((-1 : Int32)).toInt = -1 from by decide); have q1 := nI_toInt (n := 48) (by omega); have q2 := nI_toInt (n := 57) (by omega); omega)) ?_
          refine z_if_eq_n (a := 1) (tgt := 59) dX13_digits_27 (by decide) (by omega) (fun h_27_192 => ?_) (fun h_27_192 => ?_)
          · exact absurd h_27_192 (by decide)
          · refine z_bipush (v := nI 10) dX13_digits_30 rfl ?_
            refine z_iload_n dX13_digits_32 rfl ?_
            refine z_imul_n (a := 10) (b := 0) dX13_digits_33 ?_
            refine z_aload_n dX13_digits_34 rfl ?_
            refine z_callE (As := []) (rest := [.int (nI ((10) * (0)))]) (b := b) (ci := 12) (v := some (.int (-1))) (R2 := zR 0 0) dX13_digits_35 kV_RX13_197 rfl ⟨⟨by decide, by decide⟩, by decide, by decide⟩ (by omega) h.ce rfl rfl rfl (Nat.le_of_ble_eq_true rfl) rfl (c_X13_sign_n (p := p) h0 h htx (by omega) hc9) ?_
            refine z_iadd dX13_digits_38 ?_
            refine z_bipush (v := nI 48) dX13_digits_39 rfl ?_
            refine z_isub dX13_digits_41 ?_
            refine z_istore_n (lv' := [(0, .ref (za g b)), (1, .int (((nI ((10) * (0))) + (-1)) - (nI (48)))), (2, .int (nI (0)))]) dX13_digits_42 (by decide) rfl ?_
            refine z_aload_n dX13_digits_43 rfl ?_
            refine z_dup dX13_digits_44 rfl ?_
            refine z_getf (j := b) dX13_digits_45 kF_RX13_187 rfl (by omega) h.ce rfl ?_
            refine z_iconst (v := nI 1) dX13_digits_48 rfl ?_
            refine z_iadd_n (a := p) (b := 1) dX13_digits_49 ?_
            refine z_putf (j := b) dX13_digits_50 kF_RX13_187 zt_12_16 rfl (by omega) h.ce rfl rfl (Nat.le_of_ble_eq_true rfl) ?_
            obtain ⟨w194, ew195⟩ : ∃ wz : zW, wz = va_up w (b) (zO 12 [.int (th), .int (ch), .int (ea), .int (fa), .int (sv), .ref (za g (b + 1)), .ref (za g (b + 2)), .ref (za g (b + 3)), .ref (za g (b + 4)), .ref (za g (b + 5)), .ref (za g (b + 6)), .ref (za g (b + 7)), .ref (za g (b + 8)), .ref (za g (b + 9)), .ref (za g (b + 10)), .int (tn), .int (nI ((p) + (1))), .int (nI (I.length)), .int (ln), .int (kn), .int (nI (br)), .int (dg)]) := ⟨_, rfl⟩
            refine z_weq (w' := w194) ew195.symm ?_
            have hf196 : zFr w w194 (b) (b + 1) := by rw [ew195]; exact zFr.up (by omega)
            have hw197 : w194 (b) = zO 12 [.int (th), .int (ch), .int (ea), .int (fa), .int (sv), .ref (za g (b + 1)), .ref (za g (b + 2)), .ref (za g (b + 3)), .ref (za g (b + 4)), .ref (za g (b + 5)), .ref (za g (b + 6)), .ref (za g (b + 7)), .ref (za g (b + 8)), .ref (za g (b + 9)), .ref (za g (b + 10)), .int (tn), .int (nI ((p) + (1))), .int (nI (I.length)), .int (ln), .int (kn), .int (nI (br)), .int (dg)] := by rw [ew195, zup_s]
            have hx198 := h.setC hf196 hw197
            refine z_iinc_n (n := 1) (a := 0) (lv' := [(0, .ref (za g b)), (1, .int (((nI ((10) * (0))) + (-1)) - (nI (48)))), (2, .int (nI (1)))]) dX13_digits_53 rfl (by decide) rfl ?_
            refine z_goto (tgt := 4) dX13_digits_56 (by decide) ?_
            refine z_aload_n dX13_digits_4 rfl ?_
            refine z_getf (j := b) dX13_digits_5 kF_RX13_193 rfl (by omega) hx198.ce rfl ?_
            refine z_if_ne_n (a := br) (tgt := 59) dX13_digits_8 (by decide) (by omega) (fun h_8_199 => ?_) (fun h_8_199 => ?_)
            · (exfalso; omega)
            · refine z_iload_n dX13_digits_11 rfl ?_
              refine z_iconst (v := nI 3) dX13_digits_12 rfl ?_
              refine z_icmp_ge_n (a := 1) (b := 3) (tgt := 59) dX13_digits_13 (by decide) (by omega) (by omega) (fun h_13_200 => ?_) (fun h_13_200 => ?_)
              · exact absurd h_13_200 (by decide)
              · refine z_aload_n dX13_digits_16 rfl ?_
                by_cases hc201 : (p) + (1) < I.length
                · have hch202 := htx.2.2 _ (get_mem hc201)
                  refine z_callE (As := []) (rest := []) (b := b) (ci := 12) (v := some (.int (nI (I.getD ((p) + (1)) 0)))) (R2 := zR 0 0) dX13_digits_17 kV_RX13_197 rfl ⟨⟨by decide, by decide⟩, by decide, by decide⟩ (by omega) hx198.ce rfl rfl rfl (Nat.le_of_ble_eq_true rfl) rfl (c_X13_sign_y (p := (p) + (1)) h0 hx198 htx (by omega) hc201) ?_
                  refine z_bipush (v := nI 48) dX13_digits_20 rfl ?_
                  refine z_bipush (v := nI 57) dX13_digits_22 rfl ?_
                  by_cases hc204 : ((48 : Nat) : Int) ≤ ((I.getD ((p) + (1)) 0 : Nat) : Int) ∧ ((I.getD ((p) + (1)) 0 : Nat) : Int) ≤ ((57 : Nat) : Int)
                  · refine z_callSE (As := [.int (nI (I.getD ((p) + (1)) 0)), .int (nI (48)), .int (nI (57))]) (rest := []) (v := some (.int (nI (1)))) (R2 := zR 0 0) dX13_digits_24 kS_RX13_57 rfl rfl ⟨⟨by decide, by decide⟩, by decide, by decide⟩ rfl (Nat.le_of_ble_eq_true rfl) rfl (c_X13_isIn_y (x := (nI (I.getD ((p) + (1)) 0))) (y := (nI (48))) (z := (nI (57))) h0 (by have q0 := nI_toInt (n := I.getD ((p) + (1)) 0) (by omega); have q1 := nI_toInt (n := 48) (by omega); have q2 := nI_toInt (n := 57) (by omega); omega)) ?_
                    refine z_if_eq_n (a := 1) (tgt := 59) dX13_digits_27 (by decide) (by omega) (fun h_27_206 => ?_) (fun h_27_206 => ?_)
                    · exact absurd h_27_206 (by decide)
                    · refine z_bipush (v := nI 10) dX13_digits_30 rfl ?_
                      refine z_iload_n dX13_digits_32 rfl ?_
                      refine z_imul dX13_digits_33 ?_
                      refine z_aload_n dX13_digits_34 rfl ?_
                      refine z_callE (As := []) (rest := [.int ((nI (10)) * (((nI ((10) * (0))) + (-1)) - (nI (48))))]) (b := b) (ci := 12) (v := some (.int (nI (I.getD ((p) + (1)) 0)))) (R2 := zR 0 0) dX13_digits_35 kV_RX13_197 rfl ⟨⟨by decide, by decide⟩, by decide, by decide⟩ (by omega) hx198.ce rfl rfl rfl (Nat.le_of_ble_eq_true rfl) rfl (c_X13_sign_y (p := (p) + (1)) h0 hx198 htx (by omega) hc201) ?_
                      refine z_iadd dX13_digits_38 ?_
                      refine z_bipush (v := nI 48) dX13_digits_39 rfl ?_
                      refine z_isub dX13_digits_41 ?_
                      refine z_istore_n (lv' := [(0, .ref (za g b)), (1, .int ((((nI (10)) * (((nI ((10) * (0))) + (-1)) - (nI (48)))) + (nI (I.getD ((p) + (1)) 0))) - (nI (48)))), (2, .int (nI (1)))]) dX13_digits_42 (by decide) rfl ?_
                      refine z_aload_n dX13_digits_43 rfl ?_
                      refine z_dup dX13_digits_44 rfl ?_
                      refine z_getf (j := b) dX13_digits_45 kF_RX13_187 rfl (by omega) hx198.ce rfl ?_
                      refine z_iconst (v := nI 1) dX13_digits_48 rfl ?_
                      refine z_iadd_n (a := (p) + (1)) (b := 1) dX13_digits_49 ?_
                      refine z_putf (j := b) dX13_digits_50 kF_RX13_187 zt_12_16 rfl (by omega) hx198.ce rfl rfl (Nat.le_of_ble_eq_true rfl) ?_
                      obtain ⟨w208, ew209⟩ : ∃ wz : zW, wz = va_up w194 (b) (zO 12 [.int (th), .int (ch), .int (ea), .int (fa), .int (sv), .ref (za g (b + 1)), .ref (za g (b + 2)), .ref (za g (b + 3)), .ref (za g (b + 4)), .ref (za g (b + 5)), .ref (za g (b + 6)), .ref (za g (b + 7)), .ref (za g (b + 8)), .ref (za g (b + 9)), .ref (za g (b + 10)), .int (tn), .int (nI (((p) + (1)) + (1))), .int (nI (I.length)), .int (ln), .int (kn), .int (nI (br)), .int (dg)]) := ⟨_, rfl⟩
                      refine z_weq (w' := w208) ew209.symm ?_
                      have hf210 : zFr w194 w208 (b) (b + 1) := by rw [ew209]; exact zFr.up (by omega)
                      have hw211 : w208 (b) = zO 12 [.int (th), .int (ch), .int (ea), .int (fa), .int (sv), .ref (za g (b + 1)), .ref (za g (b + 2)), .ref (za g (b + 3)), .ref (za g (b + 4)), .ref (za g (b + 5)), .ref (za g (b + 6)), .ref (za g (b + 7)), .ref (za g (b + 8)), .ref (za g (b + 9)), .ref (za g (b + 10)), .int (tn), .int (nI (((p) + (1)) + (1))), .int (nI (I.length)), .int (ln), .int (kn), .int (nI (br)), .int (dg)] := by rw [ew209, zup_s]
                      have hx212 := hx198.setC hf210 hw211
                      refine z_iinc_n (n := 1) (a := 1) (lv' := [(0, .ref (za g b)), (1, .int ((((nI (10)) * (((nI ((10) * (0))) + (-1)) - (nI (48)))) + (nI (I.getD ((p) + (1)) 0))) - (nI (48)))), (2, .int (nI (2)))]) dX13_digits_53 rfl (by decide) rfl ?_
                      refine z_goto (tgt := 4) dX13_digits_56 (by decide) ?_
                      refine z_aload_n dX13_digits_4 rfl ?_
                      refine z_getf (j := b) dX13_digits_5 kF_RX13_193 rfl (by omega) hx212.ce rfl ?_
                      refine z_if_ne_n (a := br) (tgt := 59) dX13_digits_8 (by decide) (by omega) (fun h_8_213 => ?_) (fun h_8_213 => ?_)
                      · (exfalso; omega)
                      · refine z_iload_n dX13_digits_11 rfl ?_
                        refine z_iconst (v := nI 3) dX13_digits_12 rfl ?_
                        refine z_icmp_ge_n (a := 2) (b := 3) (tgt := 59) dX13_digits_13 (by decide) (by omega) (by omega) (fun h_13_214 => ?_) (fun h_13_214 => ?_)
                        · exact absurd h_13_214 (by decide)
                        · refine z_aload_n dX13_digits_16 rfl ?_
                          by_cases hc215 : ((p) + (1)) + (1) < I.length
                          · have hch216 := htx.2.2 _ (get_mem hc215)
                            refine z_callE (As := []) (rest := []) (b := b) (ci := 12) (v := some (.int (nI (I.getD (((p) + (1)) + (1)) 0)))) (R2 := zR 0 0) dX13_digits_17 kV_RX13_197 rfl ⟨⟨by decide, by decide⟩, by decide, by decide⟩ (by omega) hx212.ce rfl rfl rfl (Nat.le_of_ble_eq_true rfl) rfl (c_X13_sign_y (p := ((p) + (1)) + (1)) h0 hx212 htx (by omega) hc215) ?_
                            refine z_bipush (v := nI 48) dX13_digits_20 rfl ?_
                            refine z_bipush (v := nI 57) dX13_digits_22 rfl ?_
                            by_cases hc218 : ((48 : Nat) : Int) ≤ ((I.getD (((p) + (1)) + (1)) 0 : Nat) : Int) ∧ ((I.getD (((p) + (1)) + (1)) 0 : Nat) : Int) ≤ ((57 : Nat) : Int)
                            · refine z_callSE (As := [.int (nI (I.getD (((p) + (1)) + (1)) 0)), .int (nI (48)), .int (nI (57))]) (rest := []) (v := some (.int (nI (1)))) (R2 := zR 0 0) dX13_digits_24 kS_RX13_57 rfl rfl ⟨⟨by decide, by decide⟩, by decide, by decide⟩ rfl (Nat.le_of_ble_eq_true rfl) rfl (c_X13_isIn_y (x := (nI (I.getD (((p) + (1)) + (1)) 0))) (y := (nI (48))) (z := (nI (57))) h0 (by have q0 := nI_toInt (n := I.getD (((p) + (1)) + (1)) 0) (by omega); have q1 := nI_toInt (n := 48) (by omega); have q2 := nI_toInt (n := 57) (by omega); omega)) ?_
                              refine z_if_eq_n (a := 1) (tgt := 59) dX13_digits_27 (by decide) (by omega) (fun h_27_220 => ?_) (fun h_27_220 => ?_)
                              · exact absurd h_27_220 (by decide)
                              · refine z_bipush (v := nI 10) dX13_digits_30 rfl ?_
                                refine z_iload_n dX13_digits_32 rfl ?_
                                refine z_imul dX13_digits_33 ?_
                                refine z_aload_n dX13_digits_34 rfl ?_
                                refine z_callE (As := []) (rest := [.int ((nI (10)) * ((((nI (10)) * (((nI ((10) * (0))) + (-1)) - (nI (48)))) + (nI (I.getD ((p) + (1)) 0))) - (nI (48))))]) (b := b) (ci := 12) (v := some (.int (nI (I.getD (((p) + (1)) + (1)) 0)))) (R2 := zR 0 0) dX13_digits_35 kV_RX13_197 rfl ⟨⟨by decide, by decide⟩, by decide, by decide⟩ (by omega) hx212.ce rfl rfl rfl (Nat.le_of_ble_eq_true rfl) rfl (c_X13_sign_y (p := ((p) + (1)) + (1)) h0 hx212 htx (by omega) hc215) ?_
                                refine z_iadd dX13_digits_38 ?_
                                refine z_bipush (v := nI 48) dX13_digits_39 rfl ?_
                                refine z_isub dX13_digits_41 ?_
                                refine z_istore_n (lv' := [(0, .ref (za g b)), (1, .int ((((nI (10)) * ((((nI (10)) * (((nI ((10) * (0))) + (-1)) - (nI (48)))) + (nI (I.getD ((p) + (1)) 0))) - (nI (48)))) + (nI (I.getD (((p) + (1)) + (1)) 0))) - (nI (48)))), (2, .int (nI (2)))]) dX13_digits_42 (by decide) rfl ?_
                                refine z_aload_n dX13_digits_43 rfl ?_
                                refine z_dup dX13_digits_44 rfl ?_
                                refine z_getf (j := b) dX13_digits_45 kF_RX13_187 rfl (by omega) hx212.ce rfl ?_
                                refine z_iconst (v := nI 1) dX13_digits_48 rfl ?_
                                refine z_iadd_n (a := ((p) + (1)) + (1)) (b := 1) dX13_digits_49 ?_
                                refine z_putf (j := b) dX13_digits_50 kF_RX13_187 zt_12_16 rfl (by omega) hx212.ce rfl rfl (Nat.le_of_ble_eq_true rfl) ?_
                                obtain ⟨w222, ew223⟩ : ∃ wz : zW, wz = va_up w208 (b) (zO 12 [.int (th), .int (ch), .int (ea), .int (fa), .int (sv), .ref (za g (b + 1)), .ref (za g (b + 2)), .ref (za g (b + 3)), .ref (za g (b + 4)), .ref (za g (b + 5)), .ref (za g (b + 6)), .ref (za g (b + 7)), .ref (za g (b + 8)), .ref (za g (b + 9)), .ref (za g (b + 10)), .int (tn), .int (nI ((((p) + (1)) + (1)) + (1))), .int (nI (I.length)), .int (ln), .int (kn), .int (nI (br)), .int (dg)]) := ⟨_, rfl⟩
                                refine z_weq (w' := w222) ew223.symm ?_
                                have hf224 : zFr w208 w222 (b) (b + 1) := by rw [ew223]; exact zFr.up (by omega)
                                have hw225 : w222 (b) = zO 12 [.int (th), .int (ch), .int (ea), .int (fa), .int (sv), .ref (za g (b + 1)), .ref (za g (b + 2)), .ref (za g (b + 3)), .ref (za g (b + 4)), .ref (za g (b + 5)), .ref (za g (b + 6)), .ref (za g (b + 7)), .ref (za g (b + 8)), .ref (za g (b + 9)), .ref (za g (b + 10)), .int (tn), .int (nI ((((p) + (1)) + (1)) + (1))), .int (nI (I.length)), .int (ln), .int (kn), .int (nI (br)), .int (dg)] := by rw [ew223, zup_s]
                                have hx226 := hx212.setC hf224 hw225
                                refine z_iinc_n (n := 1) (a := 2) (lv' := [(0, .ref (za g b)), (1, .int ((((nI (10)) * ((((nI (10)) * (((nI ((10) * (0))) + (-1)) - (nI (48)))) + (nI (I.getD ((p) + (1)) 0))) - (nI (48)))) + (nI (I.getD (((p) + (1)) + (1)) 0))) - (nI (48)))), (2, .int (nI (3)))]) dX13_digits_53 rfl (by decide) rfl ?_
                                refine z_goto (tgt := 4) dX13_digits_56 (by decide) ?_
                                refine z_aload_n dX13_digits_4 rfl ?_
                                refine z_getf (j := b) dX13_digits_5 kF_RX13_193 rfl (by omega) hx226.ce rfl ?_
                                refine z_if_ne_n (a := br) (tgt := 59) dX13_digits_8 (by decide) (by omega) (fun h_8_227 => ?_) (fun h_8_227 => ?_)
                                · (exfalso; omega)
                                · refine z_iload_n dX13_digits_11 rfl ?_
                                  refine z_iconst (v := nI 3) dX13_digits_12 rfl ?_
                                  refine z_icmp_ge_n (a := 3) (b := 3) (tgt := 59) dX13_digits_13 (by decide) (by omega) (by omega) (fun h_13_228 => ?_) (fun h_13_228 => ?_)
                                  · refine z_aload_n dX13_digits_59 rfl ?_
                                    refine z_dup dX13_digits_60 rfl ?_
                                    refine z_getf (j := b) dX13_digits_61 kF_RX13_193 rfl (by omega) hx226.ce rfl ?_
                                    refine z_iload_n dX13_digits_64 rfl ?_
                                    refine z_if_ne_n (a := 3) (tgt := 72) dX13_digits_65 (by decide) (by omega) (fun h_65_229 => ?_) (fun h_65_229 => ?_)
                                    · refine z_iconst (v := nI 0) dX13_digits_72 rfl ?_
                                      refine z_ior dX13_digits_73 ?_
                                      refine z_eq (st' := [.int (nI (0)), .ref (za g b)]) rfl (by rw [show br = 0 by omega, or_0 (a := 0) (by omega)]; first | done | rfl) rfl ?_
                                      refine z_putf (j := b) dX13_digits_74 kF_RX13_193 zt_12_20 rfl (by omega) hx226.ce rfl rfl (Nat.le_of_ble_eq_true rfl) ?_
                                      obtain ⟨w230, ew231⟩ : ∃ wz : zW, wz = va_up w222 (b) (zO 12 [.int (th), .int (ch), .int (ea), .int (fa), .int (sv), .ref (za g (b + 1)), .ref (za g (b + 2)), .ref (za g (b + 3)), .ref (za g (b + 4)), .ref (za g (b + 5)), .ref (za g (b + 6)), .ref (za g (b + 7)), .ref (za g (b + 8)), .ref (za g (b + 9)), .ref (za g (b + 10)), .int (tn), .int (nI ((((p) + (1)) + (1)) + (1))), .int (nI (I.length)), .int (ln), .int (kn), .int (nI (0)), .int (dg)]) := ⟨_, rfl⟩
                                      refine z_weq (w' := w230) ew231.symm ?_
                                      have hf232 : zFr w222 w230 (b) (b + 1) := by rw [ew231]; exact zFr.up (by omega)
                                      have hw233 : w230 (b) = zO 12 [.int (th), .int (ch), .int (ea), .int (fa), .int (sv), .ref (za g (b + 1)), .ref (za g (b + 2)), .ref (za g (b + 3)), .ref (za g (b + 4)), .ref (za g (b + 5)), .ref (za g (b + 6)), .ref (za g (b + 7)), .ref (za g (b + 8)), .ref (za g (b + 9)), .ref (za g (b + 10)), .int (tn), .int (nI ((((p) + (1)) + (1)) + (1))), .int (nI (I.length)), .int (ln), .int (kn), .int (nI (0)), .int (dg)] := by rw [ew231, zup_s]
                                      have hx234 := hx226.setC hf232 hw233
                                      refine z_iload_n dX13_digits_77 rfl ?_
                                      refine z_iret dX13_digits_78 rfl (by decide) (by decide) ?_
                                      exfalso; omega
                                    · exact absurd h_65_229 (by decide)
                                  · exact absurd h_13_228 (by decide)
                            · refine z_callSE (As := [.int (nI (I.getD (((p) + (1)) + (1)) 0)), .int (nI (48)), .int (nI (57))]) (rest := []) (v := some (.int (nI (0)))) (R2 := zR 0 0) dX13_digits_24 kS_RX13_57 rfl rfl ⟨⟨by decide, by decide⟩, by decide, by decide⟩ rfl (Nat.le_of_ble_eq_true rfl) rfl (c_X13_isIn_n (x := (nI (I.getD (((p) + (1)) + (1)) 0))) (y := (nI (48))) (z := (nI (57))) h0 (by have q0 := nI_toInt (n := I.getD (((p) + (1)) + (1)) 0) (by omega); have q1 := nI_toInt (n := 48) (by omega); have q2 := nI_toInt (n := 57) (by omega); omega)) ?_
                              refine z_if_eq_n (a := 0) (tgt := 59) dX13_digits_27 (by decide) (by omega) (fun h_27_236 => ?_) (fun h_27_236 => ?_)
                              · refine z_aload_n dX13_digits_59 rfl ?_
                                refine z_dup dX13_digits_60 rfl ?_
                                refine z_getf (j := b) dX13_digits_61 kF_RX13_193 rfl (by omega) hx212.ce rfl ?_
                                refine z_iload_n dX13_digits_64 rfl ?_
                                refine z_if_ne_n (a := 2) (tgt := 72) dX13_digits_65 (by decide) (by omega) (fun h_65_237 => ?_) (fun h_65_237 => ?_)
                                · refine z_iconst (v := nI 0) dX13_digits_72 rfl ?_
                                  refine z_ior dX13_digits_73 ?_
                                  refine z_eq (st' := [.int (nI (0)), .ref (za g b)]) rfl (by rw [show br = 0 by omega, or_0 (a := 0) (by omega)]; first | done | rfl) rfl ?_
                                  refine z_putf (j := b) dX13_digits_74 kF_RX13_193 zt_12_20 rfl (by omega) hx212.ce rfl rfl (Nat.le_of_ble_eq_true rfl) ?_
                                  obtain ⟨w238, ew239⟩ : ∃ wz : zW, wz = va_up w208 (b) (zO 12 [.int (th), .int (ch), .int (ea), .int (fa), .int (sv), .ref (za g (b + 1)), .ref (za g (b + 2)), .ref (za g (b + 3)), .ref (za g (b + 4)), .ref (za g (b + 5)), .ref (za g (b + 6)), .ref (za g (b + 7)), .ref (za g (b + 8)), .ref (za g (b + 9)), .ref (za g (b + 10)), .int (tn), .int (nI (((p) + (1)) + (1))), .int (nI (I.length)), .int (ln), .int (kn), .int (nI (0)), .int (dg)]) := ⟨_, rfl⟩
                                  refine z_weq (w' := w238) ew239.symm ?_
                                  have hf240 : zFr w208 w238 (b) (b + 1) := by rw [ew239]; exact zFr.up (by omega)
                                  have hw241 : w238 (b) = zO 12 [.int (th), .int (ch), .int (ea), .int (fa), .int (sv), .ref (za g (b + 1)), .ref (za g (b + 2)), .ref (za g (b + 3)), .ref (za g (b + 4)), .ref (za g (b + 5)), .ref (za g (b + 6)), .ref (za g (b + 7)), .ref (za g (b + 8)), .ref (za g (b + 9)), .ref (za g (b + 10)), .int (tn), .int (nI (((p) + (1)) + (1))), .int (nI (I.length)), .int (ln), .int (kn), .int (nI (0)), .int (dg)] := by rw [ew239, zup_s]
                                  have hx242 := hx212.setC hf240 hw241
                                  refine z_iload_n dX13_digits_77 rfl ?_
                                  refine z_iret dX13_digits_78 rfl (by decide) (by decide) ?_
                                  exfalso; omega
                                · exact absurd h_65_237 (by decide)
                              · exact absurd h_27_236 (by decide)
                          · have hgz243 : I.getD (((p) + (1)) + (1)) 0 = 0 := gD_ge (by omega)
                            have hm1244 : (-1 : Int32).toInt = -1 := by decide
                            refine z_callE (As := []) (rest := []) (b := b) (ci := 12) (v := some (.int (-1))) (R2 := zR 0 0) dX13_digits_17 kV_RX13_197 rfl ⟨⟨by decide, by decide⟩, by decide, by decide⟩ (by omega) hx212.ce rfl rfl rfl (Nat.le_of_ble_eq_true rfl) rfl (c_X13_sign_n (p := ((p) + (1)) + (1)) h0 hx212 htx (by omega) hc215) ?_
                            refine z_bipush (v := nI 48) dX13_digits_20 rfl ?_
                            refine z_bipush (v := nI 57) dX13_digits_22 rfl ?_
                            by_cases hc246 : ((48 : Nat) : Int) ≤ (-1 : Int) ∧ (-1 : Int) ≤ ((57 : Nat) : Int)
                            · refine z_callSE (As := [.int (-1), .int (nI (48)), .int (nI (57))]) (rest := []) (v := some (.int (nI (1)))) (R2 := zR 0 0) dX13_digits_24 kS_RX13_57 rfl rfl ⟨⟨by decide, by decide⟩, by decide, by decide⟩ rfl (Nat.le_of_ble_eq_true rfl) rfl (c_X13_isIn_y (x := (-1)) (y := (nI (48))) (z := (nI (57))) h0 (by have q0 := (show ((-1 : Int32)).toInt = -1 from by decide); have q1 := nI_toInt (n := 48) (by omega); have q2 := nI_toInt (n := 57) (by omega); omega)) ?_
                              refine z_if_eq_n (a := 1) (tgt := 59) dX13_digits_27 (by decide) (by omega) (fun h_27_248 => ?_) (fun h_27_248 => ?_)
                              · exact absurd h_27_248 (by decide)
                              · refine z_bipush (v := nI 10) dX13_digits_30 rfl ?_
                                refine z_iload_n dX13_digits_32 rfl ?_
                                refine z_imul dX13_digits_33 ?_
                                refine z_aload_n dX13_digits_34 rfl ?_
                                refine z_callE (As := []) (rest := [.int ((nI (10)) * ((((nI (10)) * (((nI ((10) * (0))) + (-1)) - (nI (48)))) + (nI (I.getD ((p) + (1)) 0))) - (nI (48))))]) (b := b) (ci := 12) (v := some (.int (-1))) (R2 := zR 0 0) dX13_digits_35 kV_RX13_197 rfl ⟨⟨by decide, by decide⟩, by decide, by decide⟩ (by omega) hx212.ce rfl rfl rfl (Nat.le_of_ble_eq_true rfl) rfl (c_X13_sign_n (p := ((p) + (1)) + (1)) h0 hx212 htx (by omega) hc215) ?_
                                refine z_iadd dX13_digits_38 ?_
                                refine z_bipush (v := nI 48) dX13_digits_39 rfl ?_
                                refine z_isub dX13_digits_41 ?_
                                refine z_istore_n (lv' := [(0, .ref (za g b)), (1, .int ((((nI (10)) * ((((nI (10)) * (((nI ((10) * (0))) + (-1)) - (nI (48)))) + (nI (I.getD ((p) + (1)) 0))) - (nI (48)))) + (-1)) - (nI (48)))), (2, .int (nI (2)))]) dX13_digits_42 (by decide) rfl ?_
                                refine z_aload_n dX13_digits_43 rfl ?_
                                refine z_dup dX13_digits_44 rfl ?_
                                refine z_getf (j := b) dX13_digits_45 kF_RX13_187 rfl (by omega) hx212.ce rfl ?_
                                refine z_iconst (v := nI 1) dX13_digits_48 rfl ?_
                                refine z_iadd_n (a := ((p) + (1)) + (1)) (b := 1) dX13_digits_49 ?_
                                refine z_putf (j := b) dX13_digits_50 kF_RX13_187 zt_12_16 rfl (by omega) hx212.ce rfl rfl (Nat.le_of_ble_eq_true rfl) ?_
                                obtain ⟨w250, ew251⟩ : ∃ wz : zW, wz = va_up w208 (b) (zO 12 [.int (th), .int (ch), .int (ea), .int (fa), .int (sv), .ref (za g (b + 1)), .ref (za g (b + 2)), .ref (za g (b + 3)), .ref (za g (b + 4)), .ref (za g (b + 5)), .ref (za g (b + 6)), .ref (za g (b + 7)), .ref (za g (b + 8)), .ref (za g (b + 9)), .ref (za g (b + 10)), .int (tn), .int (nI ((((p) + (1)) + (1)) + (1))), .int (nI (I.length)), .int (ln), .int (kn), .int (nI (br)), .int (dg)]) := ⟨_, rfl⟩
                                refine z_weq (w' := w250) ew251.symm ?_
                                have hf252 : zFr w208 w250 (b) (b + 1) := by rw [ew251]; exact zFr.up (by omega)
                                have hw253 : w250 (b) = zO 12 [.int (th), .int (ch), .int (ea), .int (fa), .int (sv), .ref (za g (b + 1)), .ref (za g (b + 2)), .ref (za g (b + 3)), .ref (za g (b + 4)), .ref (za g (b + 5)), .ref (za g (b + 6)), .ref (za g (b + 7)), .ref (za g (b + 8)), .ref (za g (b + 9)), .ref (za g (b + 10)), .int (tn), .int (nI ((((p) + (1)) + (1)) + (1))), .int (nI (I.length)), .int (ln), .int (kn), .int (nI (br)), .int (dg)] := by rw [ew251, zup_s]
                                have hx254 := hx212.setC hf252 hw253
                                refine z_iinc_n (n := 1) (a := 2) (lv' := [(0, .ref (za g b)), (1, .int ((((nI (10)) * ((((nI (10)) * (((nI ((10) * (0))) + (-1)) - (nI (48)))) + (nI (I.getD ((p) + (1)) 0))) - (nI (48)))) + (-1)) - (nI (48)))), (2, .int (nI (3)))]) dX13_digits_53 rfl (by decide) rfl ?_
                                refine z_goto (tgt := 4) dX13_digits_56 (by decide) ?_
                                refine z_aload_n dX13_digits_4 rfl ?_
                                refine z_getf (j := b) dX13_digits_5 kF_RX13_193 rfl (by omega) hx254.ce rfl ?_
                                refine z_if_ne_n (a := br) (tgt := 59) dX13_digits_8 (by decide) (by omega) (fun h_8_255 => ?_) (fun h_8_255 => ?_)
                                · (exfalso; omega)
                                · refine z_iload_n dX13_digits_11 rfl ?_
                                  refine z_iconst (v := nI 3) dX13_digits_12 rfl ?_
                                  refine z_icmp_ge_n (a := 3) (b := 3) (tgt := 59) dX13_digits_13 (by decide) (by omega) (by omega) (fun h_13_256 => ?_) (fun h_13_256 => ?_)
                                  · refine z_aload_n dX13_digits_59 rfl ?_
                                    refine z_dup dX13_digits_60 rfl ?_
                                    refine z_getf (j := b) dX13_digits_61 kF_RX13_193 rfl (by omega) hx254.ce rfl ?_
                                    refine z_iload_n dX13_digits_64 rfl ?_
                                    refine z_if_ne_n (a := 3) (tgt := 72) dX13_digits_65 (by decide) (by omega) (fun h_65_257 => ?_) (fun h_65_257 => ?_)
                                    · refine z_iconst (v := nI 0) dX13_digits_72 rfl ?_
                                      refine z_ior dX13_digits_73 ?_
                                      refine z_eq (st' := [.int (nI (0)), .ref (za g b)]) rfl (by rw [show br = 0 by omega, or_0 (a := 0) (by omega)]; first | done | rfl) rfl ?_
                                      refine z_putf (j := b) dX13_digits_74 kF_RX13_193 zt_12_20 rfl (by omega) hx254.ce rfl rfl (Nat.le_of_ble_eq_true rfl) ?_
                                      obtain ⟨w258, ew259⟩ : ∃ wz : zW, wz = va_up w250 (b) (zO 12 [.int (th), .int (ch), .int (ea), .int (fa), .int (sv), .ref (za g (b + 1)), .ref (za g (b + 2)), .ref (za g (b + 3)), .ref (za g (b + 4)), .ref (za g (b + 5)), .ref (za g (b + 6)), .ref (za g (b + 7)), .ref (za g (b + 8)), .ref (za g (b + 9)), .ref (za g (b + 10)), .int (tn), .int (nI ((((p) + (1)) + (1)) + (1))), .int (nI (I.length)), .int (ln), .int (kn), .int (nI (0)), .int (dg)]) := ⟨_, rfl⟩
                                      refine z_weq (w' := w258) ew259.symm ?_
                                      have hf260 : zFr w250 w258 (b) (b + 1) := by rw [ew259]; exact zFr.up (by omega)
                                      have hw261 : w258 (b) = zO 12 [.int (th), .int (ch), .int (ea), .int (fa), .int (sv), .ref (za g (b + 1)), .ref (za g (b + 2)), .ref (za g (b + 3)), .ref (za g (b + 4)), .ref (za g (b + 5)), .ref (za g (b + 6)), .ref (za g (b + 7)), .ref (za g (b + 8)), .ref (za g (b + 9)), .ref (za g (b + 10)), .int (tn), .int (nI ((((p) + (1)) + (1)) + (1))), .int (nI (I.length)), .int (ln), .int (kn), .int (nI (0)), .int (dg)] := by rw [ew259, zup_s]
                                      have hx262 := hx254.setC hf260 hw261
                                      refine z_iload_n dX13_digits_77 rfl ?_
                                      refine z_iret dX13_digits_78 rfl (by decide) (by decide) ?_
                                      exfalso; omega
                                    · exact absurd h_65_257 (by decide)
                                  · exact absurd h_13_256 (by decide)
                            · refine z_callSE (As := [.int (-1), .int (nI (48)), .int (nI (57))]) (rest := []) (v := some (.int (nI (0)))) (R2 := zR 0 0) dX13_digits_24 kS_RX13_57 rfl rfl ⟨⟨by decide, by decide⟩, by decide, by decide⟩ rfl (Nat.le_of_ble_eq_true rfl) rfl (c_X13_isIn_n (x := (-1)) (y := (nI (48))) (z := (nI (57))) h0 (by have q0 := (show ((-1 : Int32)).toInt = -1 from by decide); have q1 := nI_toInt (n := 48) (by omega); have q2 := nI_toInt (n := 57) (by omega); omega)) ?_
                              refine z_if_eq_n (a := 0) (tgt := 59) dX13_digits_27 (by decide) (by omega) (fun h_27_264 => ?_) (fun h_27_264 => ?_)
                              · refine z_aload_n dX13_digits_59 rfl ?_
                                refine z_dup dX13_digits_60 rfl ?_
                                refine z_getf (j := b) dX13_digits_61 kF_RX13_193 rfl (by omega) hx212.ce rfl ?_
                                refine z_iload_n dX13_digits_64 rfl ?_
                                refine z_if_ne_n (a := 2) (tgt := 72) dX13_digits_65 (by decide) (by omega) (fun h_65_265 => ?_) (fun h_65_265 => ?_)
                                · refine z_iconst (v := nI 0) dX13_digits_72 rfl ?_
                                  refine z_ior dX13_digits_73 ?_
                                  refine z_eq (st' := [.int (nI (0)), .ref (za g b)]) rfl (by rw [show br = 0 by omega, or_0 (a := 0) (by omega)]; first | done | rfl) rfl ?_
                                  refine z_putf (j := b) dX13_digits_74 kF_RX13_193 zt_12_20 rfl (by omega) hx212.ce rfl rfl (Nat.le_of_ble_eq_true rfl) ?_
                                  obtain ⟨w266, ew267⟩ : ∃ wz : zW, wz = va_up w208 (b) (zO 12 [.int (th), .int (ch), .int (ea), .int (fa), .int (sv), .ref (za g (b + 1)), .ref (za g (b + 2)), .ref (za g (b + 3)), .ref (za g (b + 4)), .ref (za g (b + 5)), .ref (za g (b + 6)), .ref (za g (b + 7)), .ref (za g (b + 8)), .ref (za g (b + 9)), .ref (za g (b + 10)), .int (tn), .int (nI (((p) + (1)) + (1))), .int (nI (I.length)), .int (ln), .int (kn), .int (nI (0)), .int (dg)]) := ⟨_, rfl⟩
                                  refine z_weq (w' := w266) ew267.symm ?_
                                  have hf268 : zFr w208 w266 (b) (b + 1) := by rw [ew267]; exact zFr.up (by omega)
                                  have hw269 : w266 (b) = zO 12 [.int (th), .int (ch), .int (ea), .int (fa), .int (sv), .ref (za g (b + 1)), .ref (za g (b + 2)), .ref (za g (b + 3)), .ref (za g (b + 4)), .ref (za g (b + 5)), .ref (za g (b + 6)), .ref (za g (b + 7)), .ref (za g (b + 8)), .ref (za g (b + 9)), .ref (za g (b + 10)), .int (tn), .int (nI (((p) + (1)) + (1))), .int (nI (I.length)), .int (ln), .int (kn), .int (nI (0)), .int (dg)] := by rw [ew267, zup_s]
                                  have hx270 := hx212.setC hf268 hw269
                                  refine z_iload_n dX13_digits_77 rfl ?_
                                  refine z_iret dX13_digits_78 rfl (by decide) (by decide) ?_
                                  exfalso; omega
                                · exact absurd h_65_265 (by decide)
                              · exact absurd h_27_264 (by decide)
                  · refine z_callSE (As := [.int (nI (I.getD ((p) + (1)) 0)), .int (nI (48)), .int (nI (57))]) (rest := []) (v := some (.int (nI (0)))) (R2 := zR 0 0) dX13_digits_24 kS_RX13_57 rfl rfl ⟨⟨by decide, by decide⟩, by decide, by decide⟩ rfl (Nat.le_of_ble_eq_true rfl) rfl (c_X13_isIn_n (x := (nI (I.getD ((p) + (1)) 0))) (y := (nI (48))) (z := (nI (57))) h0 (by have q0 := nI_toInt (n := I.getD ((p) + (1)) 0) (by omega); have q1 := nI_toInt (n := 48) (by omega); have q2 := nI_toInt (n := 57) (by omega); omega)) ?_
                    refine z_if_eq_n (a := 0) (tgt := 59) dX13_digits_27 (by decide) (by omega) (fun h_27_272 => ?_) (fun h_27_272 => ?_)
                    · refine z_aload_n dX13_digits_59 rfl ?_
                      refine z_dup dX13_digits_60 rfl ?_
                      refine z_getf (j := b) dX13_digits_61 kF_RX13_193 rfl (by omega) hx198.ce rfl ?_
                      refine z_iload_n dX13_digits_64 rfl ?_
                      refine z_if_ne_n (a := 1) (tgt := 72) dX13_digits_65 (by decide) (by omega) (fun h_65_273 => ?_) (fun h_65_273 => ?_)
                      · refine z_iconst (v := nI 0) dX13_digits_72 rfl ?_
                        refine z_ior dX13_digits_73 ?_
                        refine z_eq (st' := [.int (nI (0)), .ref (za g b)]) rfl (by rw [show br = 0 by omega, or_0 (a := 0) (by omega)]; first | done | rfl) rfl ?_
                        refine z_putf (j := b) dX13_digits_74 kF_RX13_193 zt_12_20 rfl (by omega) hx198.ce rfl rfl (Nat.le_of_ble_eq_true rfl) ?_
                        obtain ⟨w274, ew275⟩ : ∃ wz : zW, wz = va_up w194 (b) (zO 12 [.int (th), .int (ch), .int (ea), .int (fa), .int (sv), .ref (za g (b + 1)), .ref (za g (b + 2)), .ref (za g (b + 3)), .ref (za g (b + 4)), .ref (za g (b + 5)), .ref (za g (b + 6)), .ref (za g (b + 7)), .ref (za g (b + 8)), .ref (za g (b + 9)), .ref (za g (b + 10)), .int (tn), .int (nI ((p) + (1))), .int (nI (I.length)), .int (ln), .int (kn), .int (nI (0)), .int (dg)]) := ⟨_, rfl⟩
                        refine z_weq (w' := w274) ew275.symm ?_
                        have hf276 : zFr w194 w274 (b) (b + 1) := by rw [ew275]; exact zFr.up (by omega)
                        have hw277 : w274 (b) = zO 12 [.int (th), .int (ch), .int (ea), .int (fa), .int (sv), .ref (za g (b + 1)), .ref (za g (b + 2)), .ref (za g (b + 3)), .ref (za g (b + 4)), .ref (za g (b + 5)), .ref (za g (b + 6)), .ref (za g (b + 7)), .ref (za g (b + 8)), .ref (za g (b + 9)), .ref (za g (b + 10)), .int (tn), .int (nI ((p) + (1))), .int (nI (I.length)), .int (ln), .int (kn), .int (nI (0)), .int (dg)] := by rw [ew275, zup_s]
                        have hx278 := hx198.setC hf276 hw277
                        refine z_iload_n dX13_digits_77 rfl ?_
                        refine z_iret dX13_digits_78 rfl (by decide) (by decide) ?_
                        exfalso; omega
                      · exact absurd h_65_273 (by decide)
                    · exact absurd h_27_272 (by decide)
                · have hgz279 : I.getD ((p) + (1)) 0 = 0 := gD_ge (by omega)
                  have hm1280 : (-1 : Int32).toInt = -1 := by decide
                  refine z_callE (As := []) (rest := []) (b := b) (ci := 12) (v := some (.int (-1))) (R2 := zR 0 0) dX13_digits_17 kV_RX13_197 rfl ⟨⟨by decide, by decide⟩, by decide, by decide⟩ (by omega) hx198.ce rfl rfl rfl (Nat.le_of_ble_eq_true rfl) rfl (c_X13_sign_n (p := (p) + (1)) h0 hx198 htx (by omega) hc201) ?_
                  refine z_bipush (v := nI 48) dX13_digits_20 rfl ?_
                  refine z_bipush (v := nI 57) dX13_digits_22 rfl ?_
                  by_cases hc282 : ((48 : Nat) : Int) ≤ (-1 : Int) ∧ (-1 : Int) ≤ ((57 : Nat) : Int)
                  · refine z_callSE (As := [.int (-1), .int (nI (48)), .int (nI (57))]) (rest := []) (v := some (.int (nI (1)))) (R2 := zR 0 0) dX13_digits_24 kS_RX13_57 rfl rfl ⟨⟨by decide, by decide⟩, by decide, by decide⟩ rfl (Nat.le_of_ble_eq_true rfl) rfl (c_X13_isIn_y (x := (-1)) (y := (nI (48))) (z := (nI (57))) h0 (by have q0 := (show ((-1 : Int32)).toInt = -1 from by decide); have q1 := nI_toInt (n := 48) (by omega); have q2 := nI_toInt (n := 57) (by omega); omega)) ?_
                    refine z_if_eq_n (a := 1) (tgt := 59) dX13_digits_27 (by decide) (by omega) (fun h_27_284 => ?_) (fun h_27_284 => ?_)
                    · exact absurd h_27_284 (by decide)
                    · refine z_bipush (v := nI 10) dX13_digits_30 rfl ?_
                      refine z_iload_n dX13_digits_32 rfl ?_
                      refine z_imul dX13_digits_33 ?_
                      refine z_aload_n dX13_digits_34 rfl ?_
                      refine z_callE (As := []) (rest := [.int ((nI (10)) * (((nI ((10) * (0))) + (-1)) - (nI (48))))]) (b := b) (ci := 12) (v := some (.int (-1))) (R2 := zR 0 0) dX13_digits_35 kV_RX13_197 rfl ⟨⟨by decide, by decide⟩, by decide, by decide⟩ (by omega) hx198.ce rfl rfl rfl (Nat.le_of_ble_eq_true rfl) rfl (c_X13_sign_n (p := (p) + (1)) h0 hx198 htx (by omega) hc201) ?_
                      refine z_iadd dX13_digits_38 ?_
                      refine z_bipush (v := nI 48) dX13_digits_39 rfl ?_
                      refine z_isub dX13_digits_41 ?_
                      refine z_istore_n (lv' := [(0, .ref (za g b)), (1, .int ((((nI (10)) * (((nI ((10) * (0))) + (-1)) - (nI (48)))) + (-1)) - (nI (48)))), (2, .int (nI (1)))]) dX13_digits_42 (by decide) rfl ?_
                      refine z_aload_n dX13_digits_43 rfl ?_
                      refine z_dup dX13_digits_44 rfl ?_
                      refine z_getf (j := b) dX13_digits_45 kF_RX13_187 rfl (by omega) hx198.ce rfl ?_
                      refine z_iconst (v := nI 1) dX13_digits_48 rfl ?_
                      refine z_iadd_n (a := (p) + (1)) (b := 1) dX13_digits_49 ?_
                      refine z_putf (j := b) dX13_digits_50 kF_RX13_187 zt_12_16 rfl (by omega) hx198.ce rfl rfl (Nat.le_of_ble_eq_true rfl) ?_
                      obtain ⟨w286, ew287⟩ : ∃ wz : zW, wz = va_up w194 (b) (zO 12 [.int (th), .int (ch), .int (ea), .int (fa), .int (sv), .ref (za g (b + 1)), .ref (za g (b + 2)), .ref (za g (b + 3)), .ref (za g (b + 4)), .ref (za g (b + 5)), .ref (za g (b + 6)), .ref (za g (b + 7)), .ref (za g (b + 8)), .ref (za g (b + 9)), .ref (za g (b + 10)), .int (tn), .int (nI (((p) + (1)) + (1))), .int (nI (I.length)), .int (ln), .int (kn), .int (nI (br)), .int (dg)]) := ⟨_, rfl⟩
                      refine z_weq (w' := w286) ew287.symm ?_
                      have hf288 : zFr w194 w286 (b) (b + 1) := by rw [ew287]; exact zFr.up (by omega)
                      have hw289 : w286 (b) = zO 12 [.int (th), .int (ch), .int (ea), .int (fa), .int (sv), .ref (za g (b + 1)), .ref (za g (b + 2)), .ref (za g (b + 3)), .ref (za g (b + 4)), .ref (za g (b + 5)), .ref (za g (b + 6)), .ref (za g (b + 7)), .ref (za g (b + 8)), .ref (za g (b + 9)), .ref (za g (b + 10)), .int (tn), .int (nI (((p) + (1)) + (1))), .int (nI (I.length)), .int (ln), .int (kn), .int (nI (br)), .int (dg)] := by rw [ew287, zup_s]
                      have hx290 := hx198.setC hf288 hw289
                      refine z_iinc_n (n := 1) (a := 1) (lv' := [(0, .ref (za g b)), (1, .int ((((nI (10)) * (((nI ((10) * (0))) + (-1)) - (nI (48)))) + (-1)) - (nI (48)))), (2, .int (nI (2)))]) dX13_digits_53 rfl (by decide) rfl ?_
                      refine z_goto (tgt := 4) dX13_digits_56 (by decide) ?_
                      refine z_aload_n dX13_digits_4 rfl ?_
                      refine z_getf (j := b) dX13_digits_5 kF_RX13_193 rfl (by omega) hx290.ce rfl ?_
                      refine z_if_ne_n (a := br) (tgt := 59) dX13_digits_8 (by decide) (by omega) (fun h_8_291 => ?_) (fun h_8_291 => ?_)
                      · (exfalso; omega)
                      · refine z_iload_n dX13_digits_11 rfl ?_
                        refine z_iconst (v := nI 3) dX13_digits_12 rfl ?_
                        refine z_icmp_ge_n (a := 2) (b := 3) (tgt := 59) dX13_digits_13 (by decide) (by omega) (by omega) (fun h_13_292 => ?_) (fun h_13_292 => ?_)
                        · exact absurd h_13_292 (by decide)
                        · refine z_aload_n dX13_digits_16 rfl ?_
                          by_cases hc293 : ((p) + (1)) + (1) < I.length
                          · have hch294 := htx.2.2 _ (get_mem hc293)
                            refine z_callE (As := []) (rest := []) (b := b) (ci := 12) (v := some (.int (nI (I.getD (((p) + (1)) + (1)) 0)))) (R2 := zR 0 0) dX13_digits_17 kV_RX13_197 rfl ⟨⟨by decide, by decide⟩, by decide, by decide⟩ (by omega) hx290.ce rfl rfl rfl (Nat.le_of_ble_eq_true rfl) rfl (c_X13_sign_y (p := ((p) + (1)) + (1)) h0 hx290 htx (by omega) hc293) ?_
                            refine z_bipush (v := nI 48) dX13_digits_20 rfl ?_
                            refine z_bipush (v := nI 57) dX13_digits_22 rfl ?_
                            by_cases hc296 : ((48 : Nat) : Int) ≤ ((I.getD (((p) + (1)) + (1)) 0 : Nat) : Int) ∧ ((I.getD (((p) + (1)) + (1)) 0 : Nat) : Int) ≤ ((57 : Nat) : Int)
                            · refine z_callSE (As := [.int (nI (I.getD (((p) + (1)) + (1)) 0)), .int (nI (48)), .int (nI (57))]) (rest := []) (v := some (.int (nI (1)))) (R2 := zR 0 0) dX13_digits_24 kS_RX13_57 rfl rfl ⟨⟨by decide, by decide⟩, by decide, by decide⟩ rfl (Nat.le_of_ble_eq_true rfl) rfl (c_X13_isIn_y (x := (nI (I.getD (((p) + (1)) + (1)) 0))) (y := (nI (48))) (z := (nI (57))) h0 (by have q0 := nI_toInt (n := I.getD (((p) + (1)) + (1)) 0) (by omega); have q1 := nI_toInt (n := 48) (by omega); have q2 := nI_toInt (n := 57) (by omega); omega)) ?_
                              refine z_if_eq_n (a := 1) (tgt := 59) dX13_digits_27 (by decide) (by omega) (fun h_27_298 => ?_) (fun h_27_298 => ?_)
                              · exact absurd h_27_298 (by decide)
                              · refine z_bipush (v := nI 10) dX13_digits_30 rfl ?_
                                refine z_iload_n dX13_digits_32 rfl ?_
                                refine z_imul dX13_digits_33 ?_
                                refine z_aload_n dX13_digits_34 rfl ?_
                                refine z_callE (As := []) (rest := [.int ((nI (10)) * ((((nI (10)) * (((nI ((10) * (0))) + (-1)) - (nI (48)))) + (-1)) - (nI (48))))]) (b := b) (ci := 12) (v := some (.int (nI (I.getD (((p) + (1)) + (1)) 0)))) (R2 := zR 0 0) dX13_digits_35 kV_RX13_197 rfl ⟨⟨by decide, by decide⟩, by decide, by decide⟩ (by omega) hx290.ce rfl rfl rfl (Nat.le_of_ble_eq_true rfl) rfl (c_X13_sign_y (p := ((p) + (1)) + (1)) h0 hx290 htx (by omega) hc293) ?_
                                refine z_iadd dX13_digits_38 ?_
                                refine z_bipush (v := nI 48) dX13_digits_39 rfl ?_
                                refine z_isub dX13_digits_41 ?_
                                refine z_istore_n (lv' := [(0, .ref (za g b)), (1, .int ((((nI (10)) * ((((nI (10)) * (((nI ((10) * (0))) + (-1)) - (nI (48)))) + (-1)) - (nI (48)))) + (nI (I.getD (((p) + (1)) + (1)) 0))) - (nI (48)))), (2, .int (nI (2)))]) dX13_digits_42 (by decide) rfl ?_
                                refine z_aload_n dX13_digits_43 rfl ?_
                                refine z_dup dX13_digits_44 rfl ?_
                                refine z_getf (j := b) dX13_digits_45 kF_RX13_187 rfl (by omega) hx290.ce rfl ?_
                                refine z_iconst (v := nI 1) dX13_digits_48 rfl ?_
                                refine z_iadd_n (a := ((p) + (1)) + (1)) (b := 1) dX13_digits_49 ?_
                                refine z_putf (j := b) dX13_digits_50 kF_RX13_187 zt_12_16 rfl (by omega) hx290.ce rfl rfl (Nat.le_of_ble_eq_true rfl) ?_
                                obtain ⟨w300, ew301⟩ : ∃ wz : zW, wz = va_up w286 (b) (zO 12 [.int (th), .int (ch), .int (ea), .int (fa), .int (sv), .ref (za g (b + 1)), .ref (za g (b + 2)), .ref (za g (b + 3)), .ref (za g (b + 4)), .ref (za g (b + 5)), .ref (za g (b + 6)), .ref (za g (b + 7)), .ref (za g (b + 8)), .ref (za g (b + 9)), .ref (za g (b + 10)), .int (tn), .int (nI ((((p) + (1)) + (1)) + (1))), .int (nI (I.length)), .int (ln), .int (kn), .int (nI (br)), .int (dg)]) := ⟨_, rfl⟩
                                refine z_weq (w' := w300) ew301.symm ?_
                                have hf302 : zFr w286 w300 (b) (b + 1) := by rw [ew301]; exact zFr.up (by omega)
                                have hw303 : w300 (b) = zO 12 [.int (th), .int (ch), .int (ea), .int (fa), .int (sv), .ref (za g (b + 1)), .ref (za g (b + 2)), .ref (za g (b + 3)), .ref (za g (b + 4)), .ref (za g (b + 5)), .ref (za g (b + 6)), .ref (za g (b + 7)), .ref (za g (b + 8)), .ref (za g (b + 9)), .ref (za g (b + 10)), .int (tn), .int (nI ((((p) + (1)) + (1)) + (1))), .int (nI (I.length)), .int (ln), .int (kn), .int (nI (br)), .int (dg)] := by rw [ew301, zup_s]
                                have hx304 := hx290.setC hf302 hw303
                                refine z_iinc_n (n := 1) (a := 2) (lv' := [(0, .ref (za g b)), (1, .int ((((nI (10)) * ((((nI (10)) * (((nI ((10) * (0))) + (-1)) - (nI (48)))) + (-1)) - (nI (48)))) + (nI (I.getD (((p) + (1)) + (1)) 0))) - (nI (48)))), (2, .int (nI (3)))]) dX13_digits_53 rfl (by decide) rfl ?_
                                refine z_goto (tgt := 4) dX13_digits_56 (by decide) ?_
                                refine z_aload_n dX13_digits_4 rfl ?_
                                refine z_getf (j := b) dX13_digits_5 kF_RX13_193 rfl (by omega) hx304.ce rfl ?_
                                refine z_if_ne_n (a := br) (tgt := 59) dX13_digits_8 (by decide) (by omega) (fun h_8_305 => ?_) (fun h_8_305 => ?_)
                                · (exfalso; omega)
                                · refine z_iload_n dX13_digits_11 rfl ?_
                                  refine z_iconst (v := nI 3) dX13_digits_12 rfl ?_
                                  refine z_icmp_ge_n (a := 3) (b := 3) (tgt := 59) dX13_digits_13 (by decide) (by omega) (by omega) (fun h_13_306 => ?_) (fun h_13_306 => ?_)
                                  · refine z_aload_n dX13_digits_59 rfl ?_
                                    refine z_dup dX13_digits_60 rfl ?_
                                    refine z_getf (j := b) dX13_digits_61 kF_RX13_193 rfl (by omega) hx304.ce rfl ?_
                                    refine z_iload_n dX13_digits_64 rfl ?_
                                    refine z_if_ne_n (a := 3) (tgt := 72) dX13_digits_65 (by decide) (by omega) (fun h_65_307 => ?_) (fun h_65_307 => ?_)
                                    · refine z_iconst (v := nI 0) dX13_digits_72 rfl ?_
                                      refine z_ior dX13_digits_73 ?_
                                      refine z_eq (st' := [.int (nI (0)), .ref (za g b)]) rfl (by rw [show br = 0 by omega, or_0 (a := 0) (by omega)]; first | done | rfl) rfl ?_
                                      refine z_putf (j := b) dX13_digits_74 kF_RX13_193 zt_12_20 rfl (by omega) hx304.ce rfl rfl (Nat.le_of_ble_eq_true rfl) ?_
                                      obtain ⟨w308, ew309⟩ : ∃ wz : zW, wz = va_up w300 (b) (zO 12 [.int (th), .int (ch), .int (ea), .int (fa), .int (sv), .ref (za g (b + 1)), .ref (za g (b + 2)), .ref (za g (b + 3)), .ref (za g (b + 4)), .ref (za g (b + 5)), .ref (za g (b + 6)), .ref (za g (b + 7)), .ref (za g (b + 8)), .ref (za g (b + 9)), .ref (za g (b + 10)), .int (tn), .int (nI ((((p) + (1)) + (1)) + (1))), .int (nI (I.length)), .int (ln), .int (kn), .int (nI (0)), .int (dg)]) := ⟨_, rfl⟩
                                      refine z_weq (w' := w308) ew309.symm ?_
                                      have hf310 : zFr w300 w308 (b) (b + 1) := by rw [ew309]; exact zFr.up (by omega)
                                      have hw311 : w308 (b) = zO 12 [.int (th), .int (ch), .int (ea), .int (fa), .int (sv), .ref (za g (b + 1)), .ref (za g (b + 2)), .ref (za g (b + 3)), .ref (za g (b + 4)), .ref (za g (b + 5)), .ref (za g (b + 6)), .ref (za g (b + 7)), .ref (za g (b + 8)), .ref (za g (b + 9)), .ref (za g (b + 10)), .int (tn), .int (nI ((((p) + (1)) + (1)) + (1))), .int (nI (I.length)), .int (ln), .int (kn), .int (nI (0)), .int (dg)] := by rw [ew309, zup_s]
                                      have hx312 := hx304.setC hf310 hw311
                                      refine z_iload_n dX13_digits_77 rfl ?_
                                      refine z_iret dX13_digits_78 rfl (by decide) (by decide) ?_
                                      exfalso; omega
                                    · exact absurd h_65_307 (by decide)
                                  · exact absurd h_13_306 (by decide)
                            · refine z_callSE (As := [.int (nI (I.getD (((p) + (1)) + (1)) 0)), .int (nI (48)), .int (nI (57))]) (rest := []) (v := some (.int (nI (0)))) (R2 := zR 0 0) dX13_digits_24 kS_RX13_57 rfl rfl ⟨⟨by decide, by decide⟩, by decide, by decide⟩ rfl (Nat.le_of_ble_eq_true rfl) rfl (c_X13_isIn_n (x := (nI (I.getD (((p) + (1)) + (1)) 0))) (y := (nI (48))) (z := (nI (57))) h0 (by have q0 := nI_toInt (n := I.getD (((p) + (1)) + (1)) 0) (by omega); have q1 := nI_toInt (n := 48) (by omega); have q2 := nI_toInt (n := 57) (by omega); omega)) ?_
                              refine z_if_eq_n (a := 0) (tgt := 59) dX13_digits_27 (by decide) (by omega) (fun h_27_314 => ?_) (fun h_27_314 => ?_)
                              · refine z_aload_n dX13_digits_59 rfl ?_
                                refine z_dup dX13_digits_60 rfl ?_
                                refine z_getf (j := b) dX13_digits_61 kF_RX13_193 rfl (by omega) hx290.ce rfl ?_
                                refine z_iload_n dX13_digits_64 rfl ?_
                                refine z_if_ne_n (a := 2) (tgt := 72) dX13_digits_65 (by decide) (by omega) (fun h_65_315 => ?_) (fun h_65_315 => ?_)
                                · refine z_iconst (v := nI 0) dX13_digits_72 rfl ?_
                                  refine z_ior dX13_digits_73 ?_
                                  refine z_eq (st' := [.int (nI (0)), .ref (za g b)]) rfl (by rw [show br = 0 by omega, or_0 (a := 0) (by omega)]; first | done | rfl) rfl ?_
                                  refine z_putf (j := b) dX13_digits_74 kF_RX13_193 zt_12_20 rfl (by omega) hx290.ce rfl rfl (Nat.le_of_ble_eq_true rfl) ?_
                                  obtain ⟨w316, ew317⟩ : ∃ wz : zW, wz = va_up w286 (b) (zO 12 [.int (th), .int (ch), .int (ea), .int (fa), .int (sv), .ref (za g (b + 1)), .ref (za g (b + 2)), .ref (za g (b + 3)), .ref (za g (b + 4)), .ref (za g (b + 5)), .ref (za g (b + 6)), .ref (za g (b + 7)), .ref (za g (b + 8)), .ref (za g (b + 9)), .ref (za g (b + 10)), .int (tn), .int (nI (((p) + (1)) + (1))), .int (nI (I.length)), .int (ln), .int (kn), .int (nI (0)), .int (dg)]) := ⟨_, rfl⟩
                                  refine z_weq (w' := w316) ew317.symm ?_
                                  have hf318 : zFr w286 w316 (b) (b + 1) := by rw [ew317]; exact zFr.up (by omega)
                                  have hw319 : w316 (b) = zO 12 [.int (th), .int (ch), .int (ea), .int (fa), .int (sv), .ref (za g (b + 1)), .ref (za g (b + 2)), .ref (za g (b + 3)), .ref (za g (b + 4)), .ref (za g (b + 5)), .ref (za g (b + 6)), .ref (za g (b + 7)), .ref (za g (b + 8)), .ref (za g (b + 9)), .ref (za g (b + 10)), .int (tn), .int (nI (((p) + (1)) + (1))), .int (nI (I.length)), .int (ln), .int (kn), .int (nI (0)), .int (dg)] := by rw [ew317, zup_s]
                                  have hx320 := hx290.setC hf318 hw319
                                  refine z_iload_n dX13_digits_77 rfl ?_
                                  refine z_iret dX13_digits_78 rfl (by decide) (by decide) ?_
                                  exfalso; omega
                                · exact absurd h_65_315 (by decide)
                              · exact absurd h_27_314 (by decide)
                          · have hgz321 : I.getD (((p) + (1)) + (1)) 0 = 0 := gD_ge (by omega)
                            have hm1322 : (-1 : Int32).toInt = -1 := by decide
                            refine z_callE (As := []) (rest := []) (b := b) (ci := 12) (v := some (.int (-1))) (R2 := zR 0 0) dX13_digits_17 kV_RX13_197 rfl ⟨⟨by decide, by decide⟩, by decide, by decide⟩ (by omega) hx290.ce rfl rfl rfl (Nat.le_of_ble_eq_true rfl) rfl (c_X13_sign_n (p := ((p) + (1)) + (1)) h0 hx290 htx (by omega) hc293) ?_
                            refine z_bipush (v := nI 48) dX13_digits_20 rfl ?_
                            refine z_bipush (v := nI 57) dX13_digits_22 rfl ?_
                            by_cases hc324 : ((48 : Nat) : Int) ≤ (-1 : Int) ∧ (-1 : Int) ≤ ((57 : Nat) : Int)
                            · refine z_callSE (As := [.int (-1), .int (nI (48)), .int (nI (57))]) (rest := []) (v := some (.int (nI (1)))) (R2 := zR 0 0) dX13_digits_24 kS_RX13_57 rfl rfl ⟨⟨by decide, by decide⟩, by decide, by decide⟩ rfl (Nat.le_of_ble_eq_true rfl) rfl (c_X13_isIn_y (x := (-1)) (y := (nI (48))) (z := (nI (57))) h0 (by have q0 := (show ((-1 : Int32)).toInt = -1 from by decide); have q1 := nI_toInt (n := 48) (by omega); have q2 := nI_toInt (n := 57) (by omega); omega)) ?_
                              refine z_if_eq_n (a := 1) (tgt := 59) dX13_digits_27 (by decide) (by omega) (fun h_27_326 => ?_) (fun h_27_326 => ?_)
                              · exact absurd h_27_326 (by decide)
                              · refine z_bipush (v := nI 10) dX13_digits_30 rfl ?_
                                refine z_iload_n dX13_digits_32 rfl ?_
                                refine z_imul dX13_digits_33 ?_
                                refine z_aload_n dX13_digits_34 rfl ?_
                                refine z_callE (As := []) (rest := [.int ((nI (10)) * ((((nI (10)) * (((nI ((10) * (0))) + (-1)) - (nI (48)))) + (-1)) - (nI (48))))]) (b := b) (ci := 12) (v := some (.int (-1))) (R2 := zR 0 0) dX13_digits_35 kV_RX13_197 rfl ⟨⟨by decide, by decide⟩, by decide, by decide⟩ (by omega) hx290.ce rfl rfl rfl (Nat.le_of_ble_eq_true rfl) rfl (c_X13_sign_n (p := ((p) + (1)) + (1)) h0 hx290 htx (by omega) hc293) ?_
                                refine z_iadd dX13_digits_38 ?_
                                refine z_bipush (v := nI 48) dX13_digits_39 rfl ?_
                                refine z_isub dX13_digits_41 ?_
                                refine z_istore_n (lv' := [(0, .ref (za g b)), (1, .int ((((nI (10)) * ((((nI (10)) * (((nI ((10) * (0))) + (-1)) - (nI (48)))) + (-1)) - (nI (48)))) + (-1)) - (nI (48)))), (2, .int (nI (2)))]) dX13_digits_42 (by decide) rfl ?_
                                refine z_aload_n dX13_digits_43 rfl ?_
                                refine z_dup dX13_digits_44 rfl ?_
                                refine z_getf (j := b) dX13_digits_45 kF_RX13_187 rfl (by omega) hx290.ce rfl ?_
                                refine z_iconst (v := nI 1) dX13_digits_48 rfl ?_
                                refine z_iadd_n (a := ((p) + (1)) + (1)) (b := 1) dX13_digits_49 ?_
                                refine z_putf (j := b) dX13_digits_50 kF_RX13_187 zt_12_16 rfl (by omega) hx290.ce rfl rfl (Nat.le_of_ble_eq_true rfl) ?_
                                obtain ⟨w328, ew329⟩ : ∃ wz : zW, wz = va_up w286 (b) (zO 12 [.int (th), .int (ch), .int (ea), .int (fa), .int (sv), .ref (za g (b + 1)), .ref (za g (b + 2)), .ref (za g (b + 3)), .ref (za g (b + 4)), .ref (za g (b + 5)), .ref (za g (b + 6)), .ref (za g (b + 7)), .ref (za g (b + 8)), .ref (za g (b + 9)), .ref (za g (b + 10)), .int (tn), .int (nI ((((p) + (1)) + (1)) + (1))), .int (nI (I.length)), .int (ln), .int (kn), .int (nI (br)), .int (dg)]) := ⟨_, rfl⟩
                                refine z_weq (w' := w328) ew329.symm ?_
                                have hf330 : zFr w286 w328 (b) (b + 1) := by rw [ew329]; exact zFr.up (by omega)
                                have hw331 : w328 (b) = zO 12 [.int (th), .int (ch), .int (ea), .int (fa), .int (sv), .ref (za g (b + 1)), .ref (za g (b + 2)), .ref (za g (b + 3)), .ref (za g (b + 4)), .ref (za g (b + 5)), .ref (za g (b + 6)), .ref (za g (b + 7)), .ref (za g (b + 8)), .ref (za g (b + 9)), .ref (za g (b + 10)), .int (tn), .int (nI ((((p) + (1)) + (1)) + (1))), .int (nI (I.length)), .int (ln), .int (kn), .int (nI (br)), .int (dg)] := by rw [ew329, zup_s]
                                have hx332 := hx290.setC hf330 hw331
                                refine z_iinc_n (n := 1) (a := 2) (lv' := [(0, .ref (za g b)), (1, .int ((((nI (10)) * ((((nI (10)) * (((nI ((10) * (0))) + (-1)) - (nI (48)))) + (-1)) - (nI (48)))) + (-1)) - (nI (48)))), (2, .int (nI (3)))]) dX13_digits_53 rfl (by decide) rfl ?_
                                refine z_goto (tgt := 4) dX13_digits_56 (by decide) ?_
                                refine z_aload_n dX13_digits_4 rfl ?_
                                refine z_getf (j := b) dX13_digits_5 kF_RX13_193 rfl (by omega) hx332.ce rfl ?_
                                refine z_if_ne_n (a := br) (tgt := 59) dX13_digits_8 (by decide) (by omega) (fun h_8_333 => ?_) (fun h_8_333 => ?_)
                                · (exfalso; omega)
                                · refine z_iload_n dX13_digits_11 rfl ?_
                                  refine z_iconst (v := nI 3) dX13_digits_12 rfl ?_
                                  refine z_icmp_ge_n (a := 3) (b := 3) (tgt := 59) dX13_digits_13 (by decide) (by omega) (by omega) (fun h_13_334 => ?_) (fun h_13_334 => ?_)
                                  · refine z_aload_n dX13_digits_59 rfl ?_
                                    refine z_dup dX13_digits_60 rfl ?_
                                    refine z_getf (j := b) dX13_digits_61 kF_RX13_193 rfl (by omega) hx332.ce rfl ?_
                                    refine z_iload_n dX13_digits_64 rfl ?_
                                    refine z_if_ne_n (a := 3) (tgt := 72) dX13_digits_65 (by decide) (by omega) (fun h_65_335 => ?_) (fun h_65_335 => ?_)
                                    · refine z_iconst (v := nI 0) dX13_digits_72 rfl ?_
                                      refine z_ior dX13_digits_73 ?_
                                      refine z_eq (st' := [.int (nI (0)), .ref (za g b)]) rfl (by rw [show br = 0 by omega, or_0 (a := 0) (by omega)]; first | done | rfl) rfl ?_
                                      refine z_putf (j := b) dX13_digits_74 kF_RX13_193 zt_12_20 rfl (by omega) hx332.ce rfl rfl (Nat.le_of_ble_eq_true rfl) ?_
                                      obtain ⟨w336, ew337⟩ : ∃ wz : zW, wz = va_up w328 (b) (zO 12 [.int (th), .int (ch), .int (ea), .int (fa), .int (sv), .ref (za g (b + 1)), .ref (za g (b + 2)), .ref (za g (b + 3)), .ref (za g (b + 4)), .ref (za g (b + 5)), .ref (za g (b + 6)), .ref (za g (b + 7)), .ref (za g (b + 8)), .ref (za g (b + 9)), .ref (za g (b + 10)), .int (tn), .int (nI ((((p) + (1)) + (1)) + (1))), .int (nI (I.length)), .int (ln), .int (kn), .int (nI (0)), .int (dg)]) := ⟨_, rfl⟩
                                      refine z_weq (w' := w336) ew337.symm ?_
                                      have hf338 : zFr w328 w336 (b) (b + 1) := by rw [ew337]; exact zFr.up (by omega)
                                      have hw339 : w336 (b) = zO 12 [.int (th), .int (ch), .int (ea), .int (fa), .int (sv), .ref (za g (b + 1)), .ref (za g (b + 2)), .ref (za g (b + 3)), .ref (za g (b + 4)), .ref (za g (b + 5)), .ref (za g (b + 6)), .ref (za g (b + 7)), .ref (za g (b + 8)), .ref (za g (b + 9)), .ref (za g (b + 10)), .int (tn), .int (nI ((((p) + (1)) + (1)) + (1))), .int (nI (I.length)), .int (ln), .int (kn), .int (nI (0)), .int (dg)] := by rw [ew337, zup_s]
                                      have hx340 := hx332.setC hf338 hw339
                                      refine z_iload_n dX13_digits_77 rfl ?_
                                      refine z_iret dX13_digits_78 rfl (by decide) (by decide) ?_
                                      exfalso; omega
                                    · exact absurd h_65_335 (by decide)
                                  · exact absurd h_13_334 (by decide)
                            · refine z_callSE (As := [.int (-1), .int (nI (48)), .int (nI (57))]) (rest := []) (v := some (.int (nI (0)))) (R2 := zR 0 0) dX13_digits_24 kS_RX13_57 rfl rfl ⟨⟨by decide, by decide⟩, by decide, by decide⟩ rfl (Nat.le_of_ble_eq_true rfl) rfl (c_X13_isIn_n (x := (-1)) (y := (nI (48))) (z := (nI (57))) h0 (by have q0 := (show ((-1 : Int32)).toInt = -1 from by decide); have q1 := nI_toInt (n := 48) (by omega); have q2 := nI_toInt (n := 57) (by omega); omega)) ?_
                              refine z_if_eq_n (a := 0) (tgt := 59) dX13_digits_27 (by decide) (by omega) (fun h_27_342 => ?_) (fun h_27_342 => ?_)
                              · refine z_aload_n dX13_digits_59 rfl ?_
                                refine z_dup dX13_digits_60 rfl ?_
                                refine z_getf (j := b) dX13_digits_61 kF_RX13_193 rfl (by omega) hx290.ce rfl ?_
                                refine z_iload_n dX13_digits_64 rfl ?_
                                refine z_if_ne_n (a := 2) (tgt := 72) dX13_digits_65 (by decide) (by omega) (fun h_65_343 => ?_) (fun h_65_343 => ?_)
                                · refine z_iconst (v := nI 0) dX13_digits_72 rfl ?_
                                  refine z_ior dX13_digits_73 ?_
                                  refine z_eq (st' := [.int (nI (0)), .ref (za g b)]) rfl (by rw [show br = 0 by omega, or_0 (a := 0) (by omega)]; first | done | rfl) rfl ?_
                                  refine z_putf (j := b) dX13_digits_74 kF_RX13_193 zt_12_20 rfl (by omega) hx290.ce rfl rfl (Nat.le_of_ble_eq_true rfl) ?_
                                  obtain ⟨w344, ew345⟩ : ∃ wz : zW, wz = va_up w286 (b) (zO 12 [.int (th), .int (ch), .int (ea), .int (fa), .int (sv), .ref (za g (b + 1)), .ref (za g (b + 2)), .ref (za g (b + 3)), .ref (za g (b + 4)), .ref (za g (b + 5)), .ref (za g (b + 6)), .ref (za g (b + 7)), .ref (za g (b + 8)), .ref (za g (b + 9)), .ref (za g (b + 10)), .int (tn), .int (nI (((p) + (1)) + (1))), .int (nI (I.length)), .int (ln), .int (kn), .int (nI (0)), .int (dg)]) := ⟨_, rfl⟩
                                  refine z_weq (w' := w344) ew345.symm ?_
                                  have hf346 : zFr w286 w344 (b) (b + 1) := by rw [ew345]; exact zFr.up (by omega)
                                  have hw347 : w344 (b) = zO 12 [.int (th), .int (ch), .int (ea), .int (fa), .int (sv), .ref (za g (b + 1)), .ref (za g (b + 2)), .ref (za g (b + 3)), .ref (za g (b + 4)), .ref (za g (b + 5)), .ref (za g (b + 6)), .ref (za g (b + 7)), .ref (za g (b + 8)), .ref (za g (b + 9)), .ref (za g (b + 10)), .int (tn), .int (nI (((p) + (1)) + (1))), .int (nI (I.length)), .int (ln), .int (kn), .int (nI (0)), .int (dg)] := by rw [ew345, zup_s]
                                  have hx348 := hx290.setC hf346 hw347
                                  refine z_iload_n dX13_digits_77 rfl ?_
                                  refine z_iret dX13_digits_78 rfl (by decide) (by decide) ?_
                                  exfalso; omega
                                · exact absurd h_65_343 (by decide)
                              · exact absurd h_27_342 (by decide)
                  · refine z_callSE (As := [.int (-1), .int (nI (48)), .int (nI (57))]) (rest := []) (v := some (.int (nI (0)))) (R2 := zR 0 0) dX13_digits_24 kS_RX13_57 rfl rfl ⟨⟨by decide, by decide⟩, by decide, by decide⟩ rfl (Nat.le_of_ble_eq_true rfl) rfl (c_X13_isIn_n (x := (-1)) (y := (nI (48))) (z := (nI (57))) h0 (by have q0 := (show ((-1 : Int32)).toInt = -1 from by decide); have q1 := nI_toInt (n := 48) (by omega); have q2 := nI_toInt (n := 57) (by omega); omega)) ?_
                    refine z_if_eq_n (a := 0) (tgt := 59) dX13_digits_27 (by decide) (by omega) (fun h_27_350 => ?_) (fun h_27_350 => ?_)
                    · refine z_aload_n dX13_digits_59 rfl ?_
                      refine z_dup dX13_digits_60 rfl ?_
                      refine z_getf (j := b) dX13_digits_61 kF_RX13_193 rfl (by omega) hx198.ce rfl ?_
                      refine z_iload_n dX13_digits_64 rfl ?_
                      refine z_if_ne_n (a := 1) (tgt := 72) dX13_digits_65 (by decide) (by omega) (fun h_65_351 => ?_) (fun h_65_351 => ?_)
                      · refine z_iconst (v := nI 0) dX13_digits_72 rfl ?_
                        refine z_ior dX13_digits_73 ?_
                        refine z_eq (st' := [.int (nI (0)), .ref (za g b)]) rfl (by rw [show br = 0 by omega, or_0 (a := 0) (by omega)]; first | done | rfl) rfl ?_
                        refine z_putf (j := b) dX13_digits_74 kF_RX13_193 zt_12_20 rfl (by omega) hx198.ce rfl rfl (Nat.le_of_ble_eq_true rfl) ?_
                        obtain ⟨w352, ew353⟩ : ∃ wz : zW, wz = va_up w194 (b) (zO 12 [.int (th), .int (ch), .int (ea), .int (fa), .int (sv), .ref (za g (b + 1)), .ref (za g (b + 2)), .ref (za g (b + 3)), .ref (za g (b + 4)), .ref (za g (b + 5)), .ref (za g (b + 6)), .ref (za g (b + 7)), .ref (za g (b + 8)), .ref (za g (b + 9)), .ref (za g (b + 10)), .int (tn), .int (nI ((p) + (1))), .int (nI (I.length)), .int (ln), .int (kn), .int (nI (0)), .int (dg)]) := ⟨_, rfl⟩
                        refine z_weq (w' := w352) ew353.symm ?_
                        have hf354 : zFr w194 w352 (b) (b + 1) := by rw [ew353]; exact zFr.up (by omega)
                        have hw355 : w352 (b) = zO 12 [.int (th), .int (ch), .int (ea), .int (fa), .int (sv), .ref (za g (b + 1)), .ref (za g (b + 2)), .ref (za g (b + 3)), .ref (za g (b + 4)), .ref (za g (b + 5)), .ref (za g (b + 6)), .ref (za g (b + 7)), .ref (za g (b + 8)), .ref (za g (b + 9)), .ref (za g (b + 10)), .int (tn), .int (nI ((p) + (1))), .int (nI (I.length)), .int (ln), .int (kn), .int (nI (0)), .int (dg)] := by rw [ew353, zup_s]
                        have hx356 := hx198.setC hf354 hw355
                        refine z_iload_n dX13_digits_77 rfl ?_
                        refine z_iret dX13_digits_78 rfl (by decide) (by decide) ?_
                        exfalso; omega
                      · exact absurd h_65_351 (by decide)
                    · exact absurd h_27_350 (by decide)
        · refine z_callSE (As := [.int (-1), .int (nI (48)), .int (nI (57))]) (rest := []) (v := some (.int (nI (0)))) (R2 := zR 0 0) dX13_digits_24 kS_RX13_57 rfl rfl ⟨⟨by decide, by decide⟩, by decide, by decide⟩ rfl (Nat.le_of_ble_eq_true rfl) rfl (c_X13_isIn_n (x := (-1)) (y := (nI (48))) (z := (nI (57))) h0 (by have q0 := (show ((-1 : Int32)).toInt = -1 from by decide); have q1 := nI_toInt (n := 48) (by omega); have q2 := nI_toInt (n := 57) (by omega); omega)) ?_
          refine z_if_eq_n (a := 0) (tgt := 59) dX13_digits_27 (by decide) (by omega) (fun h_27_358 => ?_) (fun h_27_358 => ?_)
          · refine z_aload_n dX13_digits_59 rfl ?_
            refine z_dup dX13_digits_60 rfl ?_
            refine z_getf (j := b) dX13_digits_61 kF_RX13_193 rfl (by omega) h.ce rfl ?_
            refine z_iload_n dX13_digits_64 rfl ?_
            refine z_if_ne_n (a := 0) (tgt := 72) dX13_digits_65 (by decide) (by omega) (fun h_65_359 => ?_) (fun h_65_359 => ?_)
            · exact absurd h_65_359 (by decide)
            · refine z_iconst (v := nI 1) dX13_digits_68 rfl ?_
              refine z_goto (tgt := 73) dX13_digits_69 (by decide) ?_
              refine z_ior dX13_digits_73 ?_
              refine z_eq (st' := [.int (nI (1)), .ref (za g b)]) rfl (by rw [or_1 (a := br) (by omega)]; first | done | rfl) rfl ?_
              refine z_putf (j := b) dX13_digits_74 kF_RX13_193 zt_12_20 rfl (by omega) h.ce rfl rfl (Nat.le_of_ble_eq_true rfl) ?_
              obtain ⟨w360, ew361⟩ : ∃ wz : zW, wz = va_up w (b) (zO 12 [.int (th), .int (ch), .int (ea), .int (fa), .int (sv), .ref (za g (b + 1)), .ref (za g (b + 2)), .ref (za g (b + 3)), .ref (za g (b + 4)), .ref (za g (b + 5)), .ref (za g (b + 6)), .ref (za g (b + 7)), .ref (za g (b + 8)), .ref (za g (b + 9)), .ref (za g (b + 10)), .int (tn), .int (nI (p)), .int (nI (I.length)), .int (ln), .int (kn), .int (nI (1)), .int (dg)]) := ⟨_, rfl⟩
              refine z_weq (w' := w360) ew361.symm ?_
              have hf362 : zFr w w360 (b) (b + 1) := by rw [ew361]; exact zFr.up (by omega)
              have hw363 : w360 (b) = zO 12 [.int (th), .int (ch), .int (ea), .int (fa), .int (sv), .ref (za g (b + 1)), .ref (za g (b + 2)), .ref (za g (b + 3)), .ref (za g (b + 4)), .ref (za g (b + 5)), .ref (za g (b + 6)), .ref (za g (b + 7)), .ref (za g (b + 8)), .ref (za g (b + 9)), .ref (za g (b + 10)), .int (tn), .int (nI (p)), .int (nI (I.length)), .int (ln), .int (kn), .int (nI (1)), .int (dg)] := by rw [ew361, zup_s]
              have hx364 := h.setC hf362 hw363
              refine z_iload_n dX13_digits_77 rfl ?_
              refine z_iret dX13_digits_78 rfl (by decide) (by decide) ?_
              have e1 : (pN I 48 p br).1 = 0 := by unfold pN; rw [if_neg (by omega)]; all_goals (first | rfl | (dsimp only; omega))
              have e2 : (pN I 48 p br).2.1 = p := by unfold pN; rw [if_neg (by omega)]; all_goals (first | rfl | (dsimp only; omega))
              have e3 : (pN I 48 p br).2.2 = 1 := by unfold pN; rw [if_neg (by omega)]; all_goals (first | rfl | (dsimp only; omega))
              rw [e1, e2, e3]
              exact ⟨rfl, (hf362.wk (by omega) (by omega)), hx364⟩
          · exact absurd h_27_358 (by decide)
