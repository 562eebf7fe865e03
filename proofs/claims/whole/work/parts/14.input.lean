/-! module Input: what reads signs and numbers -/
def Inp (g : zGT) (w : zW) (b : Nat) (I : List Nat) (p br : Nat) : Prop := b + 1 < zn g ∧ w b = zO 4 [.ref (za g (b + 1)), .int (nI I.length), .int (nI p), .int (nI br)] ∧ (∃ f, w (b + 1) = zC g 60 f ∧ ∀ k, k < I.length → f k = nI (I.getD k 0)) ∧ I.length ≤ 60 ∧ (∀ x ∈ I, 32 ≤ x ∧ x ≤ 126) ∧ p ≤ 60 ∧ br ≤ 1
theorem Inp.fr {g : zGT} {w w1 : zW} {b lo hi p br : Nat} {I : List Nat} (h : Inp g w b I p br) (hf : zFr w w1 lo hi) (hd : b + 1 < lo ∨ hi ≤ b) : Inp g w1 b I p br := ⟨h.1, (hf b (by omega)).trans h.2.1, by rw [hf (b + 1) (by omega)]; exact h.2.2.1, h.2.2.2⟩
theorem Inp.chr {g : zGT} {w : zW} {b p br : Nat} {I : List Nat} (h : Inp g w b I p br) (k : Nat) : I.getD k 0 ≤ 126 ∧ (I.getD k 0 ≠ 0 → k < I.length) := by
  rcases Nat.lt_or_ge k I.length with q | q
  · refine ⟨?_, fun _ => q⟩
    rw [gD_lt q]; exact (h.2.2.2.2.1 _ (List.getElem_mem q)).2
  · rw [gD_ge q]; exact ⟨by omega, fun z => absurd rfl z⟩
theorem Inp.set {g : zGT} {w w1 : zW} {b p br p' br' : Nat} {I : List Nat} (h : Inp g w b I p br) (e1 : w1 b = zO 4 [.ref (za g (b + 1)), .int (nI I.length), .int (nI p'), .int (nI br')]) (e2 : w1 (b + 1) = w (b + 1)) (hp : p' ≤ 60) (hb : br' ≤ 1) : Inp g w1 b I p' br' := by
  obtain ⟨h1, h2, h3, h5, h6, h7⟩ := h
  exact ⟨h1, e1, by rw [e2]; exact h3, h5, h6, hp, hb⟩
set_option maxRecDepth 100000 in
set_option maxHeartbeats 4000000 in
theorem c_X4_length {g : zGT} {w : zW} {b p br : Nat} {I : List Nat} (h0 : zG0 g) (hI : Inp g w b I p br) : zCt g mX4_length (zR 0 0) [.ref (za g b)] w (fun o w' => o = .inl (some (.int (nI (I.length)))) ∧ w' = w) := by
  obtain ⟨hb, hw, ⟨f, hr, hfk⟩, hn, hx, hp, hbr⟩ := id hI
  refine zCt_of (by decide +kernel) h0 [(0, .ref (za g b))] rfl (Nat.le_of_ble_eq_true rfl) ?_
  refine z_aload_n dX4_length_0 rfl ?_
  refine z_getf (j := b) dX4_length_1 kF_RX4_15 rfl (by omega) hw rfl ?_
  refine z_iret dX4_length_4 rfl (by decide) (by decide) ?_
  exact ⟨rfl, rfl⟩
set_option maxRecDepth 100000 in
set_option maxHeartbeats 4000000 in
theorem c_X4_position {g : zGT} {w : zW} {b p br : Nat} {I : List Nat} (h0 : zG0 g) (hI : Inp g w b I p br) : zCt g mX4_position (zR 0 0) [.ref (za g b)] w (fun o w' => o = .inl (some (.int (nI (p)))) ∧ w' = w) := by
  obtain ⟨hb, hw, ⟨f, hr, hfk⟩, hn, hx, hp, hbr⟩ := id hI
  refine zCt_of (by decide +kernel) h0 [(0, .ref (za g b))] rfl (Nat.le_of_ble_eq_true rfl) ?_
  refine z_aload_n dX4_position_0 rfl ?_
  refine z_getf (j := b) dX4_position_1 kF_RX4_19 rfl (by omega) hw rfl ?_
  refine z_iret dX4_position_4 rfl (by decide) (by decide) ?_
  exact ⟨rfl, rfl⟩
theorem nar_b {x : Nat} (h : x ≤ 1) : narrow .boolean (.int (nI x)) = .int (nI x) := by
  rcases (show x = 0 ∨ x = 1 by omega) with rfl | rfl <;> rfl
set_option maxRecDepth 100000 in
set_option maxHeartbeats 4000000 in
theorem c_X4_isBroken {g : zGT} {w : zW} {b p br : Nat} {I : List Nat} (h0 : zG0 g) (hI : Inp g w b I p br) : zCt g mX4_isBroken (zR 0 0) [.ref (za g b)] w (fun o w' => o = .inl (some (.int (nI br))) ∧ w' = w) := by
  obtain ⟨hb, hw, ⟨f, hr, hfk⟩, hn, hx, hp, hbr⟩ := id hI
  refine zCt_of (by decide +kernel) h0 [(0, .ref (za g b))] rfl (Nat.le_of_ble_eq_true rfl) ?_
  refine z_aload_n dX4_isBroken_0 rfl ?_
  refine z_getf (j := b) dX4_isBroken_1 kF_RX4_22 rfl (by omega) hw rfl ?_
  refine z_zret (ty := .boolean) dX4_isBroken_4 rfl (by decide) (by decide) (nar_b hbr) ?_
  exact ⟨rfl, rfl⟩
set_option maxRecDepth 100000 in
set_option maxHeartbeats 4000000 in
theorem c_X4_startReading {g : zGT} {w : zW} {b p br : Nat} {I : List Nat} (h0 : zG0 g) (hI : Inp g w b I p br) : zCt g mX4_startReading (zR 0 0) [.ref (za g b)] w (fun o w' => o = .inl none ∧ zFr w w' b (b + 2) ∧ Inp g w' b I 0 0) := by
  obtain ⟨hb, hw, ⟨f, hr, hfk⟩, hn, hx, hp, hbr⟩ := id hI
  refine zCt_of (by decide +kernel) h0 [(0, .ref (za g b))] rfl (Nat.le_of_ble_eq_true rfl) ?_
  refine z_aload_n dX4_startReading_0 rfl ?_
  refine z_iconst (v := nI 0) dX4_startReading_1 rfl ?_
  refine z_putf (j := b) dX4_startReading_2 kF_RX4_19 zt_4_2 rfl (by omega) hw rfl rfl (Nat.le_of_ble_eq_true rfl) ?_
  obtain ⟨w1, ew2⟩ : ∃ wz : zW, wz = va_up w (b) (zO 4 [.ref (za g (b + 1)), .int (nI (I.length)), .int (nI (0)), .int (nI (br))]) := ⟨_, rfl⟩
  refine z_weq (w' := w1) ew2.symm ?_
  have hw3 : w1 (b) = zO 4 [.ref (za g (b + 1)), .int (nI (I.length)), .int (nI (0)), .int (nI (br))] := by rw [ew2, zup_s]
  have hw4 : w1 (b + 1) = zC g 60 (f) := by rw [ew2, zup_n (by omega)]; exact hr
  refine z_aload_n dX4_startReading_5 rfl ?_
  refine z_iconst (v := nI 0) dX4_startReading_6 rfl ?_
  refine z_putf (j := b) dX4_startReading_7 kF_RX4_22 zt_4_3 rfl (by omega) hw3 rfl rfl (Nat.le_of_ble_eq_true rfl) ?_
  obtain ⟨w5, ew6⟩ : ∃ wz : zW, wz = va_up w1 (b) (zO 4 [.ref (za g (b + 1)), .int (nI (I.length)), .int (nI (0)), .int (nI (0))]) := ⟨_, rfl⟩
  refine z_weq (w' := w5) ew6.symm ?_
  have hw7 : w5 (b) = zO 4 [.ref (za g (b + 1)), .int (nI (I.length)), .int (nI (0)), .int (nI (0))] := by rw [ew6, zup_s]
  have hw8 : w5 (b + 1) = zC g 60 (f) := by rw [ew6, zup_n (by omega)]; exact hw4
  refine z_vret dX4_startReading_10 rfl (by decide) (by decide) ?_
  exact ⟨rfl, by rw [ew6, ew2]; exact (zFr.up (by omega)).tr (zFr.up (by omega)), hI.set hw7 (by rw [hw8, hr]) (by omega) (by omega)⟩
set_option maxRecDepth 100000 in
set_option maxHeartbeats 4000000 in
theorem c_X4_clear {g : zGT} {w : zW} {b p br : Nat} {I : List Nat} (h0 : zG0 g) (hI : Inp g w b I p br) : zCt g mX4_clear (zR 0 0) [.ref (za g b)] w (fun o w' => o = .inl none ∧ zFr w w' b (b + 2) ∧ Inp g w' b [] p br) := by
  obtain ⟨hb, hw, ⟨f, hr, hfk⟩, hn, hx, hp, hbr⟩ := id hI
  refine zCt_of (by decide +kernel) h0 [(0, .ref (za g b))] rfl (Nat.le_of_ble_eq_true rfl) ?_
  refine z_aload_n dX4_clear_0 rfl ?_
  refine z_iconst (v := nI 0) dX4_clear_1 rfl ?_
  refine z_putf (j := b) dX4_clear_2 kF_RX4_15 zt_4_1 rfl (by omega) hw rfl rfl (Nat.le_of_ble_eq_true rfl) ?_
  obtain ⟨w1, ew2⟩ : ∃ wz : zW, wz = va_up w (b) (zO 4 [.ref (za g (b + 1)), .int (nI (0)), .int (nI (p)), .int (nI (br))]) := ⟨_, rfl⟩
  refine z_weq (w' := w1) ew2.symm ?_
  have hw3 : w1 (b) = zO 4 [.ref (za g (b + 1)), .int (nI (0)), .int (nI (p)), .int (nI (br))] := by rw [ew2, zup_s]
  have hw4 : w1 (b + 1) = zC g 60 (f) := by rw [ew2, zup_n (by omega)]; exact hr
  refine z_vret dX4_clear_5 rfl (by decide) (by decide) ?_
  exact ⟨rfl, by rw [ew2]; exact zFr.up (by omega), hb, hw3, ⟨f, hw4, fun k hk => absurd hk (Nat.not_lt_zero k)⟩, Nat.zero_le _, (fun y hy => nomatch hy), hp, hbr⟩
set_option maxRecDepth 100000 in
set_option maxHeartbeats 4000000 in
theorem c_X4_append {g : zGT} {w : zW} {b p br c : Nat} {I : List Nat} (h0 : zG0 g) (hI : Inp g w b I p br) (hlt : I.length < 60) (hc : 32 ≤ c ∧ c ≤ 126) : zCt g mX4_append (zR 0 0) [.ref (za g b), .int (nI (c))] w (fun o w' => o = .inl none ∧ zFr w w' b (b + 2) ∧ Inp g w' b (I ++ [c]) p br) := by
  obtain ⟨hb, hw, ⟨f, hr, hfk⟩, hn, hx, hp, hbr⟩ := id hI
  refine zCt_of (by decide +kernel) h0 [(0, .ref (za g b)), (1, .int (nI (c)))] rfl (Nat.le_of_ble_eq_true rfl) ?_
  refine z_aload_n dX4_append_0 rfl ?_
  refine z_getf (j := b) dX4_append_1 kF_RX4_15 rfl (by omega) hw rfl ?_
  refine z_if_lt_n (a := I.length) dX4_append_4 39 (by decide) (by omega) ?_
  refine z_aload_n dX4_append_7 rfl ?_
  refine z_getf (j := b) dX4_append_8 kF_RX4_15 rfl (by omega) hw rfl ?_
  refine z_aload_n dX4_append_11 rfl ?_
  refine z_getf (j := b) dX4_append_12 kF_RX4_9 rfl (by omega) hw rfl ?_
  refine z_alen_c (j := b + 1) (N := 60) (f := f) dX4_append_15 hb hr ?_
  refine z_icmp_ge_n (a := I.length) (b := 60) (tgt := 39) dX4_append_16 (by decide) (by omega) (by omega) (fun h_16_2 => ?_) (fun h_16_2 => ?_)
  · exact absurd h_16_2 (by omega)
  · refine z_aload_n dX4_append_19 rfl ?_
    refine z_getf (j := b) dX4_append_20 kF_RX4_9 rfl (by omega) hw rfl ?_
    refine z_aload_n dX4_append_23 rfl ?_
    refine z_getf (j := b) dX4_append_24 kF_RX4_15 rfl (by omega) hw rfl ?_
    refine z_iload_n dX4_append_27 rfl ?_
    refine z_cast_n (j := b + 1) (N := 60) (a := I.length) (x := c) (f := f) dX4_append_28 hb hr (by omega) (by omega) (by omega) ?_
    obtain ⟨w3, ew4⟩ : ∃ wz : zW, wz = va_up w (b + 1) (zC g 60 (upd (f) (I.length) (nI (c)))) := ⟨_, rfl⟩
    refine z_weq (w' := w3) ew4.symm ?_
    have hw5 : w3 (b) = zO 4 [.ref (za g (b + 1)), .int (nI (I.length)), .int (nI (p)), .int (nI (br))] := by rw [ew4, zup_n (by omega)]; exact hw
    have hw6 : w3 (b + 1) = zC g 60 (upd (f) (I.length) (nI (c))) := by rw [ew4, zup_s]
    refine z_aload_n dX4_append_29 rfl ?_
    refine z_dup dX4_append_30 rfl ?_
    refine z_getf (j := b) dX4_append_31 kF_RX4_15 rfl (by omega) hw5 rfl ?_
    refine z_iconst (v := nI 1) dX4_append_34 rfl ?_
    refine z_iadd_n (a := I.length) (b := 1) dX4_append_35 ?_
    refine z_putf (j := b) dX4_append_36 kF_RX4_15 zt_4_1 rfl (by omega) hw5 rfl rfl (Nat.le_of_ble_eq_true rfl) ?_
    obtain ⟨w7, ew8⟩ : ∃ wz : zW, wz = va_up w3 (b) (zO 4 [.ref (za g (b + 1)), .int (nI ((I.length) + (1))), .int (nI (p)), .int (nI (br))]) := ⟨_, rfl⟩
    refine z_weq (w' := w7) ew8.symm ?_
    have hw9 : w7 (b) = zO 4 [.ref (za g (b + 1)), .int (nI ((I.length) + (1))), .int (nI (p)), .int (nI (br))] := by rw [ew8, zup_s]
    have hw10 : w7 (b + 1) = zC g 60 (upd (f) (I.length) (nI (c))) := by rw [ew8, zup_n (by omega)]; exact hw6
    refine z_vret dX4_append_39 rfl (by decide) (by decide) ?_
    refine ⟨rfl, by rw [ew8, ew4]; exact (zFr.up (by omega)).tr (zFr.up (by omega)), hb, (by rw [List.length_append]; exact hw9), ⟨_, hw10, fun k hk => ?_⟩, (by rw [List.length_append]; show I.length + 1 ≤ 60; omega), (fun y hy => ?_), hp, hbr⟩
    · rw [List.length_append] at hk
      replace hk : k < I.length + 1 := hk
      rcases Nat.lt_or_ge k I.length with q | q
      · rw [getD_app q]; simp only [upd]; rw [if_neg (by omega)]; exact hfk k q
      · rw [show k = I.length by omega, getD_last]; simp [upd]
    · rcases List.mem_append.mp hy with h | h
      · exact hx y h
      · rw [List.mem_singleton.mp h]; exact hc
set_option maxRecDepth 100000 in
set_option maxHeartbeats 4000000 in
theorem c_X4_signAt {g : zGT} {w : zW} {b p br t : Nat} {I : List Nat} (h0 : zG0 g) (hI : Inp g w b I p br) (ht : t < 2 ^ 31) : zCt g mX4_signAt (zR 0 0) [.ref (za g b), .int (nI (t))] w (fun o w' => o = .inl (some (.int (nI (I.getD t 0)))) ∧ w' = w) := by
  obtain ⟨hb, hw, ⟨f, hr, hfk⟩, hn, hx, hp, hbr⟩ := id hI
  refine zCt_of (by decide +kernel) h0 [(0, .ref (za g b)), (1, .int (nI (t)))] rfl (Nat.le_of_ble_eq_true rfl) ?_
  refine z_iload_n dX4_signAt_0 rfl ?_
  refine z_if_lt_n (a := t) dX4_signAt_1 30 (by decide) (by omega) ?_
  refine z_iload_n dX4_signAt_4 rfl ?_
  refine z_aload_n dX4_signAt_5 rfl ?_
  refine z_getf (j := b) dX4_signAt_6 kF_RX4_15 rfl (by omega) hw rfl ?_
  refine z_icmp_ge_n (a := t) (b := I.length) (tgt := 30) dX4_signAt_9 (by decide) (by omega) (by omega) (fun h_9_2 => ?_) (fun h_9_2 => ?_)
  · refine z_iconst (v := nI 0) dX4_signAt_30 rfl ?_
    refine z_zret (ty := .char) dX4_signAt_31 rfl (by decide) (by decide) (by first | rfl | (rw [hfk t (by omega)]; exact (pk_charN (by have := (hI.chr t).1; omega)).1)) ?_
    exact ⟨by rw [gD_ge (by omega)], rfl⟩
  · refine z_iload_n dX4_signAt_12 rfl ?_
    refine z_aload_n dX4_signAt_13 rfl ?_
    refine z_getf (j := b) dX4_signAt_14 kF_RX4_9 rfl (by omega) hw rfl ?_
    refine z_alen_c (j := b + 1) (N := 60) (f := f) dX4_signAt_17 hb hr ?_
    refine z_icmp_ge_n (a := t) (b := 60) (tgt := 30) dX4_signAt_18 (by decide) (by omega) (by omega) (fun h_18_3 => ?_) (fun h_18_3 => ?_)
    · exact absurd h_18_3 (by omega)
    · refine z_aload_n dX4_signAt_21 rfl ?_
      refine z_getf (j := b) dX4_signAt_22 kF_RX4_9 rfl (by omega) hw rfl ?_
      refine z_iload_n dX4_signAt_25 rfl ?_
      refine z_cald_n (j := b + 1) (N := 60) (a := t) (f := f) dX4_signAt_26 hb hr (by omega) (by omega) ?_
      refine z_goto (tgt := 31) dX4_signAt_27 (by decide) ?_
      refine z_zret (ty := .char) dX4_signAt_31 rfl (by decide) (by decide) (by first | rfl | (rw [hfk t (by omega)]; exact (pk_charN (by have := (hI.chr t).1; omega)).1)) ?_
      exact ⟨by rw [hfk t (by omega)], rfl⟩
set_option maxRecDepth 100000 in
set_option maxHeartbeats 4000000 in
theorem c_X4_isDigitNext {g : zGT} {w : zW} {b p br c : Nat} {I : List Nat} (h0 : zG0 g) (hI : Inp g w b I p br) (hc : c ≤ 126) : zCt g mX4_isDigitNext (zR 1 0) [.ref (za g b), .int (nI (c))] w (fun o w' => o = .inl (some (.int (nI (if br = 0 ∧ c ≤ I.getD p 0 ∧ I.getD p 0 ≤ 57 then 1 else 0)))) ∧ w' = w) := by
  obtain ⟨hb, hw, ⟨f, hr, hfk⟩, hn, hx, hp, hbr⟩ := id hI
  refine zCt_of (by decide +kernel) h0 [(0, .ref (za g b)), (1, .int (nI (c)))] rfl (Nat.le_of_ble_eq_true rfl) ?_
  refine z_aload_n dX4_isDigitNext_0 rfl ?_
  refine z_aload_n dX4_isDigitNext_1 rfl ?_
  refine z_getf (j := b) dX4_isDigitNext_2 kF_RX4_19 rfl (by omega) hI.2.1 rfl ?_
  refine z_callE (As := [.int (nI (p))]) (rest := []) (b := b) (ci := 4) (v := some (.int (nI (I.getD (p) 0)))) (R2 := zR 0 0) dX4_isDigitNext_5 kV_RX4_108 rfl ⟨⟨by decide, by decide⟩, by decide, by decide⟩ (by omega) hI.2.1 rfl rfl rfl (Nat.le_of_ble_eq_true rfl) rfl (c_X4_signAt (t := p) h0 hI (by omega)) ?_
  refine z_istore_n (lv' := [(0, .ref (za g b)), (1, .int (nI (c))), (2, .int (nI (I.getD (p) 0)))]) dX4_isDigitNext_8 (by decide) rfl ?_
  have hch := (hI.chr p).1
  refine z_aload_n dX4_isDigitNext_9 rfl ?_
  refine z_getf (j := b) dX4_isDigitNext_10 kF_RX4_22 rfl (by omega) hI.2.1 rfl ?_
  refine z_if_ne_n (a := br) (tgt := 31) dX4_isDigitNext_13 (by decide) (by omega) (fun h_13_2 => ?_) (fun h_13_2 => ?_)
  · refine z_iconst (v := nI 0) dX4_isDigitNext_31 rfl ?_
    refine z_zret (ty := .boolean) dX4_isDigitNext_32 rfl (by decide) (by decide) rfl ?_
    first | exact ⟨by rw [if_pos (by omega)], rfl⟩ | exact ⟨by rw [if_neg (by omega)], rfl⟩
  · refine z_iload_n dX4_isDigitNext_16 rfl ?_
    refine z_iload_n dX4_isDigitNext_17 rfl ?_
    refine z_icmp_lt_n (a := I.getD (p) 0) (b := c) (tgt := 31) dX4_isDigitNext_18 (by decide) (by omega) (by omega) (fun h_18_3 => ?_) (fun h_18_3 => ?_)
    · refine z_iconst (v := nI 0) dX4_isDigitNext_31 rfl ?_
      refine z_zret (ty := .boolean) dX4_isDigitNext_32 rfl (by decide) (by decide) rfl ?_
      first | exact ⟨by rw [if_pos (by omega)], rfl⟩ | exact ⟨by rw [if_neg (by omega)], rfl⟩
    · refine z_iload_n dX4_isDigitNext_21 rfl ?_
      refine z_bipush (v := nI 57) dX4_isDigitNext_22 rfl ?_
      refine z_icmp_gt_n (a := I.getD (p) 0) (b := 57) (tgt := 31) dX4_isDigitNext_24 (by decide) (by omega) (by omega) (fun h_24_4 => ?_) (fun h_24_4 => ?_)
      · refine z_iconst (v := nI 0) dX4_isDigitNext_31 rfl ?_
        refine z_zret (ty := .boolean) dX4_isDigitNext_32 rfl (by decide) (by decide) rfl ?_
        first | exact ⟨by rw [if_pos (by omega)], rfl⟩ | exact ⟨by rw [if_neg (by omega)], rfl⟩
      · refine z_iconst (v := nI 1) dX4_isDigitNext_27 rfl ?_
        refine z_goto (tgt := 32) dX4_isDigitNext_28 (by decide) ?_
        refine z_zret (ty := .boolean) dX4_isDigitNext_32 rfl (by decide) (by decide) rfl ?_
        first | exact ⟨by rw [if_pos (by omega)], rfl⟩ | exact ⟨by rw [if_neg (by omega)], rfl⟩
theorem c_X4_isDigitNext_y {g : zGT} {w : zW} {b p br c : Nat} {I : List Nat} (h0 : zG0 g) (hI : Inp g w b I p br) (hc : c ≤ 126) (e : br = 0 ∧ c ≤ I.getD p 0 ∧ I.getD p 0 ≤ 57) : zCt g mX4_isDigitNext (zR 1 0) [.ref (za g b), .int (nI c)] w (fun o w' => o = .inl (some (.int (nI 1))) ∧ w' = w) := by
  have h := c_X4_isDigitNext h0 hI hc; rw [if_pos e] at h; exact h
theorem c_X4_isDigitNext_n {g : zGT} {w : zW} {b p br c : Nat} {I : List Nat} (h0 : zG0 g) (hI : Inp g w b I p br) (hc : c ≤ 126) (e : ¬ (br = 0 ∧ c ≤ I.getD p 0 ∧ I.getD p 0 ≤ 57)) : zCt g mX4_isDigitNext (zR 1 0) [.ref (za g b), .int (nI c)] w (fun o w' => o = .inl (some (.int (nI 0))) ∧ w' = w) := by
  have h := c_X4_isDigitNext h0 hI hc; rw [if_neg e] at h; exact h
set_option maxRecDepth 100000 in
set_option maxHeartbeats 4000000 in
theorem c_X4_accept {g : zGT} {w : zW} {b p br c : Nat} {I : List Nat} (h0 : zG0 g) (hI : Inp g w b I p br) (hc : 1 ≤ c ∧ c ≤ 126) : zCt g mX4_accept (zR 1 0) [.ref (za g b), .int (nI (c))] w (fun o w' => (o = .inl (some (.int (nI (if br = 0 ∧ I.getD p 0 = c then 1 else 0)))) ∧ zFr w w' b (b + 2) ∧ Inp g w' b I (if br = 0 ∧ I.getD p 0 = c then p + 1 else p) br)) := by
  obtain ⟨hb, hw, ⟨f, hr, hfk⟩, hn, hx, hp, hbr⟩ := id hI
  refine zCt_of (by decide +kernel) h0 [(0, .ref (za g b)), (1, .int (nI (c)))] rfl (Nat.le_of_ble_eq_true rfl) ?_
  refine z_aload_n dX4_accept_0 rfl ?_
  refine z_getf (j := b) dX4_accept_1 kF_RX4_22 rfl (by omega) hI.2.1 rfl ?_
  refine z_if_ne_n (a := br) (tgt := 19) dX4_accept_4 (by decide) (by omega) (fun h_4_1 => ?_) (fun h_4_1 => ?_)
  · refine z_iconst (v := nI 0) dX4_accept_19 rfl ?_
    refine z_zret (ty := .boolean) dX4_accept_20 rfl (by decide) (by decide) rfl ?_
    rw [if_neg (by omega), if_neg (by omega)]
    exact ⟨rfl, zFr.rf, hI⟩
  · refine z_aload_n dX4_accept_7 rfl ?_
    refine z_aload_n dX4_accept_8 rfl ?_
    refine z_getf (j := b) dX4_accept_9 kF_RX4_19 rfl (by omega) hI.2.1 rfl ?_
    refine z_callE (As := [.int (nI (p))]) (rest := []) (b := b) (ci := 4) (v := some (.int (nI (I.getD (p) 0)))) (R2 := zR 0 0) dX4_accept_12 kV_RX4_108 rfl ⟨⟨by decide, by decide⟩, by decide, by decide⟩ (by omega) hI.2.1 rfl rfl rfl (Nat.le_of_ble_eq_true rfl) rfl (c_X4_signAt (t := p) h0 hI (by omega)) ?_
    have hch := hI.chr p
    refine z_iload_n dX4_accept_15 rfl ?_
    refine z_icmp_eq_n (a := I.getD (p) 0) (b := c) (tgt := 21) dX4_accept_16 (by decide) (by omega) (by omega) (fun h_16_3 => ?_) (fun h_16_3 => ?_)
    · have hpl := hch.2 (by omega)
      refine z_aload_n dX4_accept_21 rfl ?_
      refine z_dup dX4_accept_22 rfl ?_
      refine z_getf (j := b) dX4_accept_23 kF_RX4_19 rfl (by omega) hI.2.1 rfl ?_
      refine z_iconst (v := nI 1) dX4_accept_26 rfl ?_
      refine z_iadd_n (a := p) (b := 1) dX4_accept_27 ?_
      refine z_putf (j := b) dX4_accept_28 kF_RX4_19 zt_4_2 rfl (by omega) hI.2.1 rfl rfl (Nat.le_of_ble_eq_true rfl) ?_
      obtain ⟨w4, ew5⟩ : ∃ wz : zW, wz = va_up w (b) (zO 4 [.ref (za g (b + 1)), .int (nI (I.length)), .int (nI ((p) + (1))), .int (nI (br))]) := ⟨_, rfl⟩
      refine z_weq (w' := w4) ew5.symm ?_
      have hw6 : w4 (b) = zO 4 [.ref (za g (b + 1)), .int (nI (I.length)), .int (nI ((p) + (1))), .int (nI (br))] := by rw [ew5, zup_s]
      refine z_iconst (v := nI 1) dX4_accept_31 rfl ?_
      refine z_zret (ty := .boolean) dX4_accept_32 rfl (by decide) (by decide) rfl ?_
      rw [if_pos (by omega), if_pos (by omega)]
      exact ⟨rfl, by rw [ew5]; exact zFr.up (by omega), hI.set hw6 (by rw [ew5, zup_n (by omega)]) (by omega) (by omega)⟩
    · refine z_iconst (v := nI 0) dX4_accept_19 rfl ?_
      refine z_zret (ty := .boolean) dX4_accept_20 rfl (by decide) (by decide) rfl ?_
      rw [if_neg (by omega), if_neg (by omega)]
      exact ⟨rfl, zFr.rf, hI⟩
theorem c_X4_accept_y {g : zGT} {w : zW} {b p br c : Nat} {I : List Nat} (h0 : zG0 g) (hI : Inp g w b I p br) (hc : 1 ≤ c ∧ c ≤ 126) (e : br = 0 ∧ I.getD p 0 = c) : zCt g mX4_accept (zR 1 0) [.ref (za g b), .int (nI c)] w (fun o w' => o = .inl (some (.int (nI 1))) ∧ zFr w w' b (b + 2) ∧ Inp g w' b I (p + 1) 0) := by
  have h := c_X4_accept h0 hI hc; rw [if_pos e, if_pos e] at h; rw [e.1] at h; exact h
theorem c_X4_accept_n {g : zGT} {w : zW} {b p br c : Nat} {I : List Nat} (h0 : zG0 g) (hI : Inp g w b I p br) (hc : 1 ≤ c ∧ c ≤ 126) (e : ¬ (br = 0 ∧ I.getD p 0 = c)) : zCt g mX4_accept (zR 1 0) [.ref (za g b), .int (nI c)] w (fun o w' => o = .inl (some (.int (nI 0))) ∧ zFr w w' b (b + 2) ∧ Inp g w' b I p br) := by
  have h := c_X4_accept h0 hI hc; rw [if_neg e, if_neg e] at h; exact h
def pExp (I : List Nat) (c p br : Nat) : Nat × Nat := if br = 0 ∧ I.getD p 0 = c then (p + 1, 0) else (p, 1)
def pDig (I : List Nat) (lo p br : Nat) : Nat × Nat × Nat := if br = 0 ∧ lo ≤ I.getD p 0 ∧ I.getD p 0 ≤ 57 then (I.getD p 0 - 48, p + 1, 0) else (0, p, 1)
def pN (I : List Nat) (lo p br : Nat) : Nat × Nat × Nat :=
  if br = 0 ∧ lo ≤ I.getD p 0 ∧ I.getD p 0 ≤ 57 then
    (if 48 ≤ I.getD (p + 1) 0 ∧ I.getD (p + 1) 0 ≤ 57 then
      (if 48 ≤ I.getD (p + 1 + 1) 0 ∧ I.getD (p + 1 + 1) 0 ≤ 57 then (10 * (10 * (I.getD p 0 - 48) + (I.getD (p + 1) 0 - 48)) + (I.getD (p + 1 + 1) 0 - 48), p + 1 + 1 + 1, 0)
       else (10 * (I.getD p 0 - 48) + (I.getD (p + 1) 0 - 48), p + 1 + 1, 0))
     else (I.getD p 0 - 48, p + 1, 0))
  else (0, p, 1)
set_option maxRecDepth 100000 in
set_option maxHeartbeats 4000000 in
theorem c_X4_expect {g : zGT} {w : zW} {b p br c : Nat} {I : List Nat} (h0 : zG0 g) (hI : Inp g w b I p br) (hc : 1 ≤ c ∧ c ≤ 126) : zCt g mX4_expect (zR 2 0) [.ref (za g b), .int (nI (c))] w (fun o w' => o = .inl none ∧ zFr w w' b (b + 2) ∧ Inp g w' b I (pExp I c p br).1 (pExp I c p br).2) := by
  obtain ⟨hb, hw, ⟨f, hr, hfk⟩, hn, hx, hp, hbr⟩ := id hI
  refine zCt_of (by decide +kernel) h0 [(0, .ref (za g b)), (1, .int (nI (c)))] rfl (Nat.le_of_ble_eq_true rfl) ?_
  refine z_aload_n dX4_expect_0 rfl ?_
  refine z_iload_n dX4_expect_1 rfl ?_
  by_cases hc1 : br = 0 ∧ I.getD (p) 0 = c
  · refine z_callR (As := [.int (nI (c))]) (rest := []) (b := b) (ci := 4) (v := some (.int (nI (1)))) (R2 := zR 1 0) dX4_expect_2 kV_RX4_38 rfl ⟨⟨by decide, by decide⟩, by decide, by decide⟩ (by omega) hI.2.1 rfl rfl rfl (Nat.le_of_ble_eq_true rfl) rfl (c_X4_accept_y h0 hI (by omega) hc1) (fun w2 pw2 => ?_)
    obtain ⟨hf_w2, hI_w2⟩ := pw2
    refine z_if_ne_n (a := 1) (tgt := 13) dX4_expect_5 (by decide) (by omega) (fun h_5_3 => ?_) (fun h_5_3 => ?_)
    · refine z_vret dX4_expect_13 rfl (by decide) (by decide) ?_
      unfold pExp; rw [if_pos (by assumption)]
      exact ⟨rfl, hf_w2, hI_w2⟩
    · exact absurd h_5_3 (by decide)
  · refine z_callR (As := [.int (nI (c))]) (rest := []) (b := b) (ci := 4) (v := some (.int (nI (0)))) (R2 := zR 1 0) dX4_expect_2 kV_RX4_38 rfl ⟨⟨by decide, by decide⟩, by decide, by decide⟩ (by omega) hI.2.1 rfl rfl rfl (Nat.le_of_ble_eq_true rfl) rfl (c_X4_accept_n h0 hI (by omega) hc1) (fun w4 pw4 => ?_)
    obtain ⟨hf_w4, hI_w4⟩ := pw4
    refine z_if_ne_n (a := 0) (tgt := 13) dX4_expect_5 (by decide) (by omega) (fun h_5_5 => ?_) (fun h_5_5 => ?_)
    · exact absurd h_5_5 (by decide)
    · refine z_aload_n dX4_expect_8 rfl ?_
      refine z_iconst (v := nI 1) dX4_expect_9 rfl ?_
      refine z_putf (j := b) dX4_expect_10 kF_RX4_22 zt_4_3 rfl (by omega) hI_w4.2.1 rfl rfl (Nat.le_of_ble_eq_true rfl) ?_
      obtain ⟨w6, ew7⟩ : ∃ wz : zW, wz = va_up w4 (b) (zO 4 [.ref (za g (b + 1)), .int (nI (I.length)), .int (nI (p)), .int (nI (1))]) := ⟨_, rfl⟩
      refine z_weq (w' := w6) ew7.symm ?_
      have hw8 : w6 (b) = zO 4 [.ref (za g (b + 1)), .int (nI (I.length)), .int (nI (p)), .int (nI (1))] := by rw [ew7, zup_s]
      refine z_vret dX4_expect_13 rfl (by decide) (by decide) ?_
      unfold pExp; rw [if_neg (by assumption)]
      exact ⟨rfl, hf_w4.tr (by rw [ew7]; exact zFr.up (by omega)), hI_w4.set hw8 (by rw [ew7, zup_n (by omega)]) (by omega) (by omega)⟩
set_option maxRecDepth 100000 in
set_option maxHeartbeats 4000000 in
theorem c_X4_expectEnd {g : zGT} {w : zW} {b p br : Nat} {I : List Nat} (h0 : zG0 g) (hI : Inp g w b I p br) : zCt g mX4_expectEnd (zR 0 0) [.ref (za g b)] w (fun o w' => o = .inl none ∧ zFr w w' b (b + 2) ∧ Inp g w' b I p (if p < I.length then 1 else br)) := by
  obtain ⟨hb, hw, ⟨f, hr, hfk⟩, hn, hx, hp, hbr⟩ := id hI
  refine zCt_of (by decide +kernel) h0 [(0, .ref (za g b))] rfl (Nat.le_of_ble_eq_true rfl) ?_
  refine z_aload_n dX4_expectEnd_0 rfl ?_
  refine z_getf (j := b) dX4_expectEnd_1 kF_RX4_19 rfl (by omega) hI.2.1 rfl ?_
  refine z_aload_n dX4_expectEnd_4 rfl ?_
  refine z_getf (j := b) dX4_expectEnd_5 kF_RX4_15 rfl (by omega) hI.2.1 rfl ?_
  refine z_icmp_ge_n (a := p) (b := I.length) (tgt := 16) dX4_expectEnd_8 (by decide) (by omega) (by omega) (fun h_8_1 => ?_) (fun h_8_1 => ?_)
  · refine z_vret dX4_expectEnd_16 rfl (by decide) (by decide) ?_
    rw [if_neg (by omega)]
    exact ⟨rfl, zFr.rf, hI⟩
  · refine z_aload_n dX4_expectEnd_11 rfl ?_
    refine z_iconst (v := nI 1) dX4_expectEnd_12 rfl ?_
    refine z_putf (j := b) dX4_expectEnd_13 kF_RX4_22 zt_4_3 rfl (by omega) hI.2.1 rfl rfl (Nat.le_of_ble_eq_true rfl) ?_
    obtain ⟨w2, ew3⟩ : ∃ wz : zW, wz = va_up w (b) (zO 4 [.ref (za g (b + 1)), .int (nI (I.length)), .int (nI (p)), .int (nI (1))]) := ⟨_, rfl⟩
    refine z_weq (w' := w2) ew3.symm ?_
    have hw4 : w2 (b) = zO 4 [.ref (za g (b + 1)), .int (nI (I.length)), .int (nI (p)), .int (nI (1))] := by rw [ew3, zup_s]
    refine z_vret dX4_expectEnd_16 rfl (by decide) (by decide) ?_
    rw [if_pos (by omega)]
    exact ⟨rfl, by rw [ew3]; exact zFr.up (by omega), hI.set hw4 (by rw [ew3, zup_n (by omega)]) (by omega) (by omega)⟩
set_option maxRecDepth 100000 in
set_option maxHeartbeats 4000000 in
theorem c_X4_readDigit {g : zGT} {w : zW} {b p br c : Nat} {I : List Nat} (h0 : zG0 g) (hI : Inp g w b I p br) (hc : 48 ≤ c ∧ c ≤ 126) : zCt g mX4_readDigit (zR 2 0) [.ref (za g b), .int (nI (c))] w (fun o w' => o = .inl (some (.int (nI (pDig I c p br).1))) ∧ zFr w w' b (b + 2) ∧ Inp g w' b I (pDig I c p br).2.1 (pDig I c p br).2.2) := by
  obtain ⟨hb, hw, ⟨f, hr, hfk⟩, hn, hx, hp, hbr⟩ := id hI
  refine zCt_of (by decide +kernel) h0 [(0, .ref (za g b)), (1, .int (nI (c)))] rfl (Nat.le_of_ble_eq_true rfl) ?_
  refine z_aload_n dX4_readDigit_0 rfl ?_
  refine z_iload_n dX4_readDigit_1 rfl ?_
  by_cases hc1 : br = 0 ∧ c ≤ I.getD (p) 0 ∧ I.getD (p) 0 ≤ 57
  · refine z_callE (As := [.int (nI (c))]) (rest := []) (b := b) (ci := 4) (v := some (.int (nI (1)))) (R2 := zR 1 0) dX4_readDigit_2 kV_RX4_115 rfl ⟨⟨by decide, by decide⟩, by decide, by decide⟩ (by omega) hI.2.1 rfl rfl rfl (Nat.le_of_ble_eq_true rfl) rfl (c_X4_isDigitNext_y h0 hI (by omega) hc1) ?_
    refine z_if_ne_n (a := 1) (tgt := 15) dX4_readDigit_5 (by decide) (by omega) (fun h_5_3 => ?_) (fun h_5_3 => ?_)
    · have hpl := (hI.chr p).2 (by omega)
      refine z_aload_n dX4_readDigit_15 rfl ?_
      refine z_aload_n dX4_readDigit_16 rfl ?_
      refine z_getf (j := b) dX4_readDigit_17 kF_RX4_19 rfl (by omega) hI.2.1 rfl ?_
      refine z_callE (As := [.int (nI (p))]) (rest := []) (b := b) (ci := 4) (v := some (.int (nI (I.getD (p) 0)))) (R2 := zR 0 0) dX4_readDigit_20 kV_RX4_108 rfl ⟨⟨by decide, by decide⟩, by decide, by decide⟩ (by omega) hI.2.1 rfl rfl rfl (Nat.le_of_ble_eq_true rfl) rfl (c_X4_signAt (t := p) h0 hI (by omega)) ?_
      refine z_bipush (v := nI 48) dX4_readDigit_23 rfl ?_
      refine z_isub_n (a := I.getD (p) 0) (b := 48) dX4_readDigit_25 (by omega) ?_
      refine z_istore_n (lv' := [(0, .ref (za g b)), (1, .int (nI (c))), (2, .int (nI ((I.getD (p) 0) - (48))))]) dX4_readDigit_26 (by decide) rfl ?_
      refine z_aload_n dX4_readDigit_27 rfl ?_
      refine z_dup dX4_readDigit_28 rfl ?_
      refine z_getf (j := b) dX4_readDigit_29 kF_RX4_19 rfl (by omega) hI.2.1 rfl ?_
      refine z_iconst (v := nI 1) dX4_readDigit_32 rfl ?_
      refine z_iadd_n (a := p) (b := 1) dX4_readDigit_33 ?_
      refine z_putf (j := b) dX4_readDigit_34 kF_RX4_19 zt_4_2 rfl (by omega) hI.2.1 rfl rfl (Nat.le_of_ble_eq_true rfl) ?_
      obtain ⟨w5, ew6⟩ : ∃ wz : zW, wz = va_up w (b) (zO 4 [.ref (za g (b + 1)), .int (nI (I.length)), .int (nI ((p) + (1))), .int (nI (br))]) := ⟨_, rfl⟩
      refine z_weq (w' := w5) ew6.symm ?_
      have hw7 : w5 (b) = zO 4 [.ref (za g (b + 1)), .int (nI (I.length)), .int (nI ((p) + (1))), .int (nI (br))] := by rw [ew6, zup_s]
      refine z_iload_n dX4_readDigit_37 rfl ?_
      refine z_iret dX4_readDigit_38 rfl (by decide) (by decide) ?_
      unfold pDig; rw [if_pos hc1]
      dsimp only
      rw [hc1.1] at hw7
      exact ⟨rfl, by rw [ew6]; exact zFr.up (by omega), hI.set hw7 (by rw [ew6, zup_n (by omega)]) (by omega) (by omega)⟩
    · exact absurd h_5_3 (by decide)
  · refine z_callE (As := [.int (nI (c))]) (rest := []) (b := b) (ci := 4) (v := some (.int (nI (0)))) (R2 := zR 1 0) dX4_readDigit_2 kV_RX4_115 rfl ⟨⟨by decide, by decide⟩, by decide, by decide⟩ (by omega) hI.2.1 rfl rfl rfl (Nat.le_of_ble_eq_true rfl) rfl (c_X4_isDigitNext_n h0 hI (by omega) hc1) ?_
    refine z_if_ne_n (a := 0) (tgt := 15) dX4_readDigit_5 (by decide) (by omega) (fun h_5_9 => ?_) (fun h_5_9 => ?_)
    · exact absurd h_5_9 (by decide)
    · refine z_aload_n dX4_readDigit_8 rfl ?_
      refine z_iconst (v := nI 1) dX4_readDigit_9 rfl ?_
      refine z_putf (j := b) dX4_readDigit_10 kF_RX4_22 zt_4_3 rfl (by omega) hI.2.1 rfl rfl (Nat.le_of_ble_eq_true rfl) ?_
      obtain ⟨w10, ew11⟩ : ∃ wz : zW, wz = va_up w (b) (zO 4 [.ref (za g (b + 1)), .int (nI (I.length)), .int (nI (p)), .int (nI (1))]) := ⟨_, rfl⟩
      refine z_weq (w' := w10) ew11.symm ?_
      have hw12 : w10 (b) = zO 4 [.ref (za g (b + 1)), .int (nI (I.length)), .int (nI (p)), .int (nI (1))] := by rw [ew11, zup_s]
      refine z_iconst (v := nI 0) dX4_readDigit_13 rfl ?_
      refine z_iret dX4_readDigit_14 rfl (by decide) (by decide) ?_
      unfold pDig; rw [if_neg hc1]
      dsimp only
      exact ⟨rfl, by rw [ew11]; exact zFr.up (by omega), hI.set hw12 (by rw [ew11, zup_n (by omega)]) (by omega) (by omega)⟩
theorem c_X4_readDigit_y {g : zGT} {w : zW} {b p br c : Nat} {I : List Nat} (h0 : zG0 g) (hI : Inp g w b I p br) (hc : 48 ≤ c ∧ c ≤ 126) (e : br = 0 ∧ c ≤ I.getD p 0 ∧ I.getD p 0 ≤ 57) : zCt g mX4_readDigit (zR 2 0) [.ref (za g b), .int (nI c)] w (fun o w' => o = .inl (some (.int (nI (I.getD p 0 - 48)))) ∧ zFr w w' b (b + 2) ∧ Inp g w' b I (p + 1) 0) := by
  have h := c_X4_readDigit h0 hI hc; unfold pDig at h; rw [if_pos e] at h; exact h
theorem c_X4_readDigit_n {g : zGT} {w : zW} {b p br c : Nat} {I : List Nat} (h0 : zG0 g) (hI : Inp g w b I p br) (hc : 48 ≤ c ∧ c ≤ 126) (e : ¬ (br = 0 ∧ c ≤ I.getD p 0 ∧ I.getD p 0 ≤ 57)) : zCt g mX4_readDigit (zR 2 0) [.ref (za g b), .int (nI c)] w (fun o w' => o = .inl (some (.int (nI 0))) ∧ zFr w w' b (b + 2) ∧ Inp g w' b I p 1) := by
  have h := c_X4_readDigit h0 hI hc; unfold pDig at h; rw [if_neg e] at h; exact h
set_option maxRecDepth 100000 in
set_option maxHeartbeats 4000000 in
theorem c_X4_readNumber {g : zGT} {w : zW} {b p br c : Nat} {I : List Nat} (h0 : zG0 g) (hI : Inp g w b I p br) (hc : 48 ≤ c ∧ c ≤ 126) : zCt g mX4_readNumber (zR 3 0) [.ref (za g b), .int (nI (c))] w (fun o w' => o = .inl (some (.int (nI (pN I c p br).1))) ∧ zFr w w' b (b + 2) ∧ Inp g w' b I (pN I c p br).2.1 (pN I c p br).2.2) := by
  obtain ⟨hb, hw, ⟨f, hr, hfk⟩, hn, hx, hp, hbr⟩ := id hI
  have hd1 := (hI.chr p).1
  have hd2 := (hI.chr (p + 1)).1
  have hd3 := (hI.chr (p + 1 + 1)).1
  refine zCt_of (by decide +kernel) h0 [(0, .ref (za g b)), (1, .int (nI (c)))] rfl (Nat.le_of_ble_eq_true rfl) ?_
  refine z_aload_n dX4_readNumber_0 rfl ?_
  refine z_iload_n dX4_readNumber_1 rfl ?_
  by_cases hc1 : br = 0 ∧ c ≤ I.getD (p) 0 ∧ I.getD (p) 0 ≤ 57
  · refine z_callR (As := [.int (nI (c))]) (rest := []) (b := b) (ci := 4) (v := some (.int (nI ((I.getD (p) 0 - 48))))) (R2 := zR 2 0) dX4_readNumber_2 kV_RX4_49 rfl ⟨⟨by decide, by decide⟩, by decide, by decide⟩ (by omega) hI.2.1 rfl rfl rfl (Nat.le_of_ble_eq_true rfl) rfl (c_X4_readDigit_y h0 hI (by omega) hc1) (fun w2 pw2 => ?_)
    obtain ⟨hf_w2, hI_w2⟩ := pw2
    refine z_istore_n (lv' := [(0, .ref (za g b)), (1, .int (nI (c))), (2, .int (nI ((I.getD (p) 0 - 48))))]) dX4_readNumber_5 (by decide) rfl ?_
    refine z_iconst (v := nI 1) dX4_readNumber_6 rfl ?_
    refine z_istore_n (lv' := [(0, .ref (za g b)), (1, .int (nI (c))), (2, .int (nI ((I.getD (p) 0 - 48)))), (3, .int (nI (1)))]) dX4_readNumber_7 (by decide) rfl ?_
    refine z_iload_n dX4_readNumber_8 rfl ?_
    refine z_iconst (v := nI 3) dX4_readNumber_9 rfl ?_
    refine z_icmp_ge_n (a := 1) (b := 3) (tgt := 40) dX4_readNumber_10 (by decide) (by omega) (by omega) (fun h_10_3 => ?_) (fun h_10_3 => ?_)
    · exact absurd h_10_3 (by decide)
    · refine z_aload_n dX4_readNumber_13 rfl ?_
      refine z_bipush (v := nI 48) dX4_readNumber_14 rfl ?_
      by_cases hc4 : 0 = 0 ∧ 48 ≤ I.getD ((p + 1)) 0 ∧ I.getD ((p + 1)) 0 ≤ 57
      · refine z_callE (As := [.int (nI (48))]) (rest := []) (b := b) (ci := 4) (v := some (.int (nI (1)))) (R2 := zR 1 0) dX4_readNumber_16 kV_RX4_115 rfl ⟨⟨by decide, by decide⟩, by decide, by decide⟩ (by omega) hI_w2.2.1 rfl rfl rfl (Nat.le_of_ble_eq_true rfl) rfl (c_X4_isDigitNext_y h0 hI_w2 (by omega) hc4) ?_
        refine z_if_eq_n (a := 1) (tgt := 40) dX4_readNumber_19 (by decide) (by omega) (fun h_19_6 => ?_) (fun h_19_6 => ?_)
        · exact absurd h_19_6 (by decide)
        · refine z_bipush (v := nI 10) dX4_readNumber_22 rfl ?_
          refine z_iload_n dX4_readNumber_24 rfl ?_
          refine z_imul_n (a := 10) (b := (I.getD (p) 0 - 48)) dX4_readNumber_25 ?_
          refine z_aload_n dX4_readNumber_26 rfl ?_
          refine z_bipush (v := nI 48) dX4_readNumber_27 rfl ?_
          refine z_callR (As := [.int (nI (48))]) (rest := [.int (nI ((10) * ((I.getD (p) 0 - 48))))]) (b := b) (ci := 4) (v := some (.int (nI ((I.getD ((p + 1)) 0 - 48))))) (R2 := zR 2 0) dX4_readNumber_29 kV_RX4_49 rfl ⟨⟨by decide, by decide⟩, by decide, by decide⟩ (by omega) hI_w2.2.1 rfl rfl rfl (Nat.le_of_ble_eq_true rfl) rfl (c_X4_readDigit_y h0 hI_w2 (by omega) hc4) (fun w7 pw7 => ?_)
          obtain ⟨hf_w7, hI_w7⟩ := pw7
          refine z_iadd_n (a := (10) * ((I.getD (p) 0 - 48))) (b := (I.getD ((p + 1)) 0 - 48)) dX4_readNumber_32 ?_
          refine z_istore_n (lv' := [(0, .ref (za g b)), (1, .int (nI (c))), (2, .int (nI (((10) * ((I.getD (p) 0 - 48))) + ((I.getD ((p + 1)) 0 - 48))))), (3, .int (nI (1)))]) dX4_readNumber_33 (by decide) rfl ?_
          refine z_iinc_n (n := 1) (a := 1) (lv' := [(0, .ref (za g b)), (1, .int (nI (c))), (2, .int (nI (((10) * ((I.getD (p) 0 - 48))) + ((I.getD ((p + 1)) 0 - 48))))), (3, .int (nI (2)))]) dX4_readNumber_34 rfl (by decide) rfl ?_
          refine z_goto (tgt := 8) dX4_readNumber_37 (by decide) ?_
          refine z_iload_n dX4_readNumber_8 rfl ?_
          refine z_iconst (v := nI 3) dX4_readNumber_9 rfl ?_
          refine z_icmp_ge_n (a := 2) (b := 3) (tgt := 40) dX4_readNumber_10 (by decide) (by omega) (by omega) (fun h_10_8 => ?_) (fun h_10_8 => ?_)
          · exact absurd h_10_8 (by decide)
          · refine z_aload_n dX4_readNumber_13 rfl ?_
            refine z_bipush (v := nI 48) dX4_readNumber_14 rfl ?_
            by_cases hc9 : 0 = 0 ∧ 48 ≤ I.getD (((p + 1) + 1)) 0 ∧ I.getD (((p + 1) + 1)) 0 ≤ 57
            · refine z_callE (As := [.int (nI (48))]) (rest := []) (b := b) (ci := 4) (v := some (.int (nI (1)))) (R2 := zR 1 0) dX4_readNumber_16 kV_RX4_115 rfl ⟨⟨by decide, by decide⟩, by decide, by decide⟩ (by omega) hI_w7.2.1 rfl rfl rfl (Nat.le_of_ble_eq_true rfl) rfl (c_X4_isDigitNext_y h0 hI_w7 (by omega) hc9) ?_
              refine z_if_eq_n (a := 1) (tgt := 40) dX4_readNumber_19 (by decide) (by omega) (fun h_19_11 => ?_) (fun h_19_11 => ?_)
              · exact absurd h_19_11 (by decide)
              · refine z_bipush (v := nI 10) dX4_readNumber_22 rfl ?_
                refine z_iload_n dX4_readNumber_24 rfl ?_
                refine z_imul_n (a := 10) (b := ((10) * ((I.getD (p) 0 - 48))) + ((I.getD ((p + 1)) 0 - 48))) dX4_readNumber_25 ?_
                refine z_aload_n dX4_readNumber_26 rfl ?_
                refine z_bipush (v := nI 48) dX4_readNumber_27 rfl ?_
                refine z_callR (As := [.int (nI (48))]) (rest := [.int (nI ((10) * (((10) * ((I.getD (p) 0 - 48))) + ((I.getD ((p + 1)) 0 - 48)))))]) (b := b) (ci := 4) (v := some (.int (nI ((I.getD (((p + 1) + 1)) 0 - 48))))) (R2 := zR 2 0) dX4_readNumber_29 kV_RX4_49 rfl ⟨⟨by decide, by decide⟩, by decide, by decide⟩ (by omega) hI_w7.2.1 rfl rfl rfl (Nat.le_of_ble_eq_true rfl) rfl (c_X4_readDigit_y h0 hI_w7 (by omega) hc9) (fun w12 pw12 => ?_)
                obtain ⟨hf_w12, hI_w12⟩ := pw12
                refine z_iadd_n (a := (10) * (((10) * ((I.getD (p) 0 - 48))) + ((I.getD ((p + 1)) 0 - 48)))) (b := (I.getD (((p + 1) + 1)) 0 - 48)) dX4_readNumber_32 ?_
                refine z_istore_n (lv' := [(0, .ref (za g b)), (1, .int (nI (c))), (2, .int (nI (((10) * (((10) * ((I.getD (p) 0 - 48))) + ((I.getD ((p + 1)) 0 - 48)))) + ((I.getD (((p + 1) + 1)) 0 - 48))))), (3, .int (nI (2)))]) dX4_readNumber_33 (by decide) rfl ?_
                refine z_iinc_n (n := 1) (a := 2) (lv' := [(0, .ref (za g b)), (1, .int (nI (c))), (2, .int (nI (((10) * (((10) * ((I.getD (p) 0 - 48))) + ((I.getD ((p + 1)) 0 - 48)))) + ((I.getD (((p + 1) + 1)) 0 - 48))))), (3, .int (nI (3)))]) dX4_readNumber_34 rfl (by decide) rfl ?_
                refine z_goto (tgt := 8) dX4_readNumber_37 (by decide) ?_
                refine z_iload_n dX4_readNumber_8 rfl ?_
                refine z_iconst (v := nI 3) dX4_readNumber_9 rfl ?_
                refine z_icmp_ge_n (a := 3) (b := 3) (tgt := 40) dX4_readNumber_10 (by decide) (by omega) (by omega) (fun h_10_13 => ?_) (fun h_10_13 => ?_)
                · refine z_iload_n dX4_readNumber_40 rfl ?_
                  refine z_iret dX4_readNumber_41 rfl (by decide) (by decide) ?_
                  have e : pN I c p br = (((10) * (((10) * ((I.getD (p) 0 - 48))) + ((I.getD ((p + 1)) 0 - 48)))) + ((I.getD (((p + 1) + 1)) 0 - 48)), (((p + 1) + 1) + 1), 0) := by
                    unfold pN; repeat' split
                    all_goals first | rfl | (exfalso; omega)
                  rw [e]
                  exact ⟨rfl, ((hf_w2.tr hf_w7).tr hf_w12), hI_w12⟩
                · exact absurd h_10_13 (by decide)
            · refine z_callE (As := [.int (nI (48))]) (rest := []) (b := b) (ci := 4) (v := some (.int (nI (0)))) (R2 := zR 1 0) dX4_readNumber_16 kV_RX4_115 rfl ⟨⟨by decide, by decide⟩, by decide, by decide⟩ (by omega) hI_w7.2.1 rfl rfl rfl (Nat.le_of_ble_eq_true rfl) rfl (c_X4_isDigitNext_n h0 hI_w7 (by omega) hc9) ?_
              refine z_if_eq_n (a := 0) (tgt := 40) dX4_readNumber_19 (by decide) (by omega) (fun h_19_15 => ?_) (fun h_19_15 => ?_)
              · refine z_iload_n dX4_readNumber_40 rfl ?_
                refine z_iret dX4_readNumber_41 rfl (by decide) (by decide) ?_
                have e : pN I c p br = (((10) * ((I.getD (p) 0 - 48))) + ((I.getD ((p + 1)) 0 - 48)), ((p + 1) + 1), 0) := by
                  unfold pN; repeat' split
                  all_goals first | rfl | (exfalso; omega)
                rw [e]
                exact ⟨rfl, (hf_w2.tr hf_w7), hI_w7⟩
              · exact absurd h_19_15 (by decide)
      · refine z_callE (As := [.int (nI (48))]) (rest := []) (b := b) (ci := 4) (v := some (.int (nI (0)))) (R2 := zR 1 0) dX4_readNumber_16 kV_RX4_115 rfl ⟨⟨by decide, by decide⟩, by decide, by decide⟩ (by omega) hI_w2.2.1 rfl rfl rfl (Nat.le_of_ble_eq_true rfl) rfl (c_X4_isDigitNext_n h0 hI_w2 (by omega) hc4) ?_
        refine z_if_eq_n (a := 0) (tgt := 40) dX4_readNumber_19 (by decide) (by omega) (fun h_19_17 => ?_) (fun h_19_17 => ?_)
        · refine z_iload_n dX4_readNumber_40 rfl ?_
          refine z_iret dX4_readNumber_41 rfl (by decide) (by decide) ?_
          have e : pN I c p br = ((I.getD (p) 0 - 48), (p + 1), 0) := by
            unfold pN; repeat' split
            all_goals first | rfl | (exfalso; omega)
          rw [e]
          exact ⟨rfl, hf_w2, hI_w2⟩
        · exact absurd h_19_17 (by decide)
  · refine z_callR (As := [.int (nI (c))]) (rest := []) (b := b) (ci := 4) (v := some (.int (nI (0)))) (R2 := zR 2 0) dX4_readNumber_2 kV_RX4_49 rfl ⟨⟨by decide, by decide⟩, by decide, by decide⟩ (by omega) hI.2.1 rfl rfl rfl (Nat.le_of_ble_eq_true rfl) rfl (c_X4_readDigit_n h0 hI (by omega) hc1) (fun w18 pw18 => ?_)
    obtain ⟨hf_w18, hI_w18⟩ := pw18
    refine z_istore_n (lv' := [(0, .ref (za g b)), (1, .int (nI (c))), (2, .int (nI (0)))]) dX4_readNumber_5 (by decide) rfl ?_
    refine z_iconst (v := nI 1) dX4_readNumber_6 rfl ?_
    refine z_istore_n (lv' := [(0, .ref (za g b)), (1, .int (nI (c))), (2, .int (nI (0))), (3, .int (nI (1)))]) dX4_readNumber_7 (by decide) rfl ?_
    refine z_iload_n dX4_readNumber_8 rfl ?_
    refine z_iconst (v := nI 3) dX4_readNumber_9 rfl ?_
    refine z_icmp_ge_n (a := 1) (b := 3) (tgt := 40) dX4_readNumber_10 (by decide) (by omega) (by omega) (fun h_10_19 => ?_) (fun h_10_19 => ?_)
    · exact absurd h_10_19 (by decide)
    · refine z_aload_n dX4_readNumber_13 rfl ?_
      refine z_bipush (v := nI 48) dX4_readNumber_14 rfl ?_
      refine z_callE (As := [.int (nI (48))]) (rest := []) (b := b) (ci := 4) (v := some (.int (nI (0)))) (R2 := zR 1 0) dX4_readNumber_16 kV_RX4_115 rfl ⟨⟨by decide, by decide⟩, by decide, by decide⟩ (by omega) hI_w18.2.1 rfl rfl rfl (Nat.le_of_ble_eq_true rfl) rfl (c_X4_isDigitNext_n h0 hI_w18 (by omega) (by omega)) ?_
      refine z_if_eq_n (a := 0) (tgt := 40) dX4_readNumber_19 (by decide) (by omega) (fun h_19_21 => ?_) (fun h_19_21 => ?_)
      · refine z_iload_n dX4_readNumber_40 rfl ?_
        refine z_iret dX4_readNumber_41 rfl (by decide) (by decide) ?_
        have e : pN I c p br = (0, p, 1) := by
          unfold pN; repeat' split
          all_goals first | rfl | (exfalso; omega)
        rw [e]
        exact ⟨rfl, hf_w18, hI_w18⟩
      · exact absurd h_19_21 (by decide)
