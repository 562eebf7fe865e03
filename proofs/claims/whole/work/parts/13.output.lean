/-! module Output -/
def Ox (g : zGT) (w : zW) (b : Nat) (O : List Nat) : Prop := b + 1 < zn g ∧ w b = zO 7 [.ref (za g (b + 1)), .int (nI O.length)] ∧ (∃ f, w (b + 1) = zC g 1000 f ∧ ∀ k, k < O.length → f k = nI (O.getD k 0)) ∧ O.length ≤ 1000 ∧ ∀ x ∈ O, x < 65536
theorem Ox.fr {g : zGT} {w w1 : zW} {b lo hi : Nat} {O : List Nat} (h : Ox g w b O) (hf : zFr w w1 lo hi) (hd : b + 1 < lo ∨ hi ≤ b) : Ox g w1 b O := ⟨h.1, (hf b (by omega)).trans h.2.1, by rw [hf (b + 1) (by omega)]; exact h.2.2.1, h.2.2.2⟩
theorem getD_lt65 {O : List Nat} {k : Nat} (h : ∀ x ∈ O, x < 65536) : O.getD k 0 < 65536 := by
  rcases Nat.lt_or_ge k O.length with q | q
  · rw [gD_lt q]; exact h _ (List.getElem_mem q)
  · rw [gD_ge q]; omega
set_option maxRecDepth 100000 in
set_option maxHeartbeats 4000000 in
theorem c_X7_length {g : zGT} {w : zW} {b : Nat} {O : List Nat} (h0 : zG0 g) (hO : Ox g w b O) : zCt g mX7_length (zR 0 0) [.ref (za g b)] w (fun o w' => o = .inl (some (.int (nI O.length))) ∧ w' = w) := by
  obtain ⟨hb, hw, ⟨f, hr, hfk⟩, hn, hx⟩ := id hO
  refine zCt_of (by decide +kernel) h0 [(0, .ref (za g b))] rfl (Nat.le_of_ble_eq_true rfl) ?_
  refine z_aload_n dX7_length_0 rfl ?_
  refine z_getf (j := b) dX7_length_1 kF_RX7_15 rfl (by omega) hw rfl ?_
  refine z_iret dX7_length_4 rfl (by decide) (by decide) ?_
  exact ⟨rfl, rfl⟩
set_option maxRecDepth 100000 in
set_option maxHeartbeats 4000000 in
theorem c_X7_at {g : zGT} {w : zW} {b t : Nat} {O : List Nat} (h0 : zG0 g) (hO : Ox g w b O) (ht : t < O.length) : zCt g mX7_at (zR 0 0) [.ref (za g b), .int (nI (t))] w (fun o w' => o = .inl (some (.int (nI (O.getD t 0)))) ∧ w' = w) := by
  obtain ⟨hb, hw, ⟨f, hr, hfk⟩, hn, hx⟩ := id hO
  refine zCt_of (by decide +kernel) h0 [(0, .ref (za g b)), (1, .int (nI (t)))] rfl (Nat.le_of_ble_eq_true rfl) ?_
  refine z_iload_n dX7_at_0 rfl ?_
  refine z_if_lt_n (a := t) dX7_at_1 22 (by decide) (by omega) ?_
  refine z_iload_n dX7_at_4 rfl ?_
  refine z_aload_n dX7_at_5 rfl ?_
  refine z_getf (j := b) dX7_at_6 kF_RX7_9 rfl (by omega) hw rfl ?_
  refine z_alen_c (j := b + 1) (N := 1000) (f := f) dX7_at_9 hb hr ?_
  refine z_icmp_ge_n (a := t) (b := 1000) (tgt := 22) dX7_at_10 (by decide) (by omega) (by omega) (fun h_10_2 => ?_) (fun h_10_2 => ?_)
  · exact absurd h_10_2 (by omega)
  · refine z_aload_n dX7_at_13 rfl ?_
    refine z_getf (j := b) dX7_at_14 kF_RX7_9 rfl (by omega) hw rfl ?_
    refine z_iload_n dX7_at_17 rfl ?_
    refine z_cald_n (j := b + 1) (N := 1000) (a := t) (f := f) dX7_at_18 hb hr (by omega) (by omega) ?_
    refine z_goto (tgt := 23) dX7_at_19 (by decide) ?_
    refine z_zret (ty := .char) dX7_at_23 rfl (by decide) (by decide) (by rw [hfk t ht]; exact (pk_charN (getD_lt65 hx)).1) ?_
    exact ⟨by rw [hfk t ht], rfl⟩
set_option maxRecDepth 100000 in
set_option maxHeartbeats 4000000 in
theorem c_X7_clear {g : zGT} {w : zW} {b : Nat} {O : List Nat} (h0 : zG0 g) (hO : Ox g w b O) : zCt g mX7_clear (zR 0 0) [.ref (za g b)] w (fun o w' => o = .inl none ∧ zFr w w' b (b + 2) ∧ Ox g w' b []) := by
  obtain ⟨hb, hw, ⟨f, hr, hfk⟩, hn, hx⟩ := id hO
  refine zCt_of (by decide +kernel) h0 [(0, .ref (za g b))] rfl (Nat.le_of_ble_eq_true rfl) ?_
  refine z_aload_n dX7_clear_0 rfl ?_
  refine z_iconst (v := nI 0) dX7_clear_1 rfl ?_
  refine z_putf (j := b) dX7_clear_2 kF_RX7_15 zt_7_1 rfl (by omega) hw rfl rfl (Nat.le_of_ble_eq_true rfl) ?_
  obtain ⟨w1, ew2⟩ : ∃ wz : zW, wz = va_up w (b) (zO 7 [.ref (za g (b + 1)), .int (nI (0))]) := ⟨_, rfl⟩
  refine z_weq (w' := w1) ew2.symm ?_
  have hw3 : w1 (b) = zO 7 [.ref (za g (b + 1)), .int (nI (0))] := by rw [ew2, zup_s]
  have hw4 : w1 (b + 1) = zC g 1000 (f) := by rw [ew2, zup_n (by omega)]; exact hr
  refine z_vret dX7_clear_5 rfl (by decide) (by decide) ?_
  exact ⟨rfl, by rw [ew2]; exact zFr.up (by omega), hb, hw3, ⟨f, hw4, fun k hk => absurd hk (Nat.not_lt_zero k)⟩, Nat.zero_le _, fun y hy => nomatch hy⟩
set_option maxRecDepth 100000 in
set_option maxHeartbeats 4000000 in
theorem c_X7_append {g : zGT} {w : zW} {b c : Nat} {O : List Nat} (h0 : zG0 g) (hO : Ox g w b O) (hlt : O.length < 1000) (hc : c < 65536) : zCt g mX7_append (zR 0 0) [.ref (za g b), .int (nI (c))] w (fun o w' => o = .inl none ∧ zFr w w' b (b + 2) ∧ Ox g w' b (O ++ [c])) := by
  obtain ⟨hb, hw, ⟨f, hr, hfk⟩, hn, hx⟩ := id hO
  refine zCt_of (by decide +kernel) h0 [(0, .ref (za g b)), (1, .int (nI (c)))] rfl (Nat.le_of_ble_eq_true rfl) ?_
  refine z_aload_n dX7_append_0 rfl ?_
  refine z_getf (j := b) dX7_append_1 kF_RX7_15 rfl (by omega) hw rfl ?_
  refine z_if_lt_n (a := O.length) dX7_append_4 39 (by decide) (by omega) ?_
  refine z_aload_n dX7_append_7 rfl ?_
  refine z_getf (j := b) dX7_append_8 kF_RX7_15 rfl (by omega) hw rfl ?_
  refine z_aload_n dX7_append_11 rfl ?_
  refine z_getf (j := b) dX7_append_12 kF_RX7_9 rfl (by omega) hw rfl ?_
  refine z_alen_c (j := b + 1) (N := 1000) (f := f) dX7_append_15 hb hr ?_
  refine z_icmp_ge_n (a := O.length) (b := 1000) (tgt := 39) dX7_append_16 (by decide) (by omega) (by omega) (fun h_16_2 => ?_) (fun h_16_2 => ?_)
  · exact absurd h_16_2 (by omega)
  · refine z_aload_n dX7_append_19 rfl ?_
    refine z_getf (j := b) dX7_append_20 kF_RX7_9 rfl (by omega) hw rfl ?_
    refine z_aload_n dX7_append_23 rfl ?_
    refine z_getf (j := b) dX7_append_24 kF_RX7_15 rfl (by omega) hw rfl ?_
    refine z_iload_n dX7_append_27 rfl ?_
    refine z_cast_n (j := b + 1) (N := 1000) (a := O.length) (x := c) (f := f) dX7_append_28 hb hr (by omega) (by omega) (by omega) ?_
    obtain ⟨w3, ew4⟩ : ∃ wz : zW, wz = va_up w (b + 1) (zC g 1000 (upd (f) (O.length) (nI (c)))) := ⟨_, rfl⟩
    refine z_weq (w' := w3) ew4.symm ?_
    have hw5 : w3 (b) = zO 7 [.ref (za g (b + 1)), .int (nI (O.length))] := by rw [ew4, zup_n (by omega)]; exact hw
    have hw6 : w3 (b + 1) = zC g 1000 (upd (f) (O.length) (nI (c))) := by rw [ew4, zup_s]
    refine z_aload_n dX7_append_29 rfl ?_
    refine z_dup dX7_append_30 rfl ?_
    refine z_getf (j := b) dX7_append_31 kF_RX7_15 rfl (by omega) hw5 rfl ?_
    refine z_iconst (v := nI 1) dX7_append_34 rfl ?_
    refine z_iadd_n (a := O.length) (b := 1) dX7_append_35 ?_
    refine z_putf (j := b) dX7_append_36 kF_RX7_15 zt_7_1 rfl (by omega) hw5 rfl rfl (Nat.le_of_ble_eq_true rfl) ?_
    obtain ⟨w7, ew8⟩ : ∃ wz : zW, wz = va_up w3 (b) (zO 7 [.ref (za g (b + 1)), .int (nI ((O.length) + (1)))]) := ⟨_, rfl⟩
    refine z_weq (w' := w7) ew8.symm ?_
    have hw9 : w7 (b) = zO 7 [.ref (za g (b + 1)), .int (nI ((O.length) + (1)))] := by rw [ew8, zup_s]
    have hw10 : w7 (b + 1) = zC g 1000 (upd (f) (O.length) (nI (c))) := by rw [ew8, zup_n (by omega)]; exact hw6
    refine z_vret dX7_append_39 rfl (by decide) (by decide) ?_
    refine ⟨rfl, by rw [ew8, ew4]; exact (zFr.up (by omega)).tr (zFr.up (by omega)), hb, (by rw [List.length_append]; exact hw9), ⟨_, hw10, fun k hk => ?_⟩, (by rw [List.length_append]; show O.length + 1 ≤ 1000; omega), fun y hy => ?_⟩
    · rw [List.length_append] at hk
      replace hk : k < O.length + 1 := hk
      rcases Nat.lt_or_ge k O.length with q | q
      · rw [getD_app q]; simp only [upd]; rw [if_neg (by omega)]; exact hfk k q
      · rw [show k = O.length by omega, getD_last]; simp [upd]
    · rcases List.mem_append.mp hy with h | h
      · exact hx y h
      · rw [List.mem_singleton.mp h]; exact hc
/-- the digits of a number below 1000 -/
def dig3 (x : Nat) : List Nat := (if 100 ≤ x then [48 + x / 100] else []) ++ ((if 10 ≤ x then [48 + x / 10 % 10] else []) ++ [48 + x % 10])
theorem dig3_len {x : Nat} : (dig3 x).length ≤ 3 := by unfold dig3; split <;> split <;> simp
set_option maxRecDepth 100000 in
set_option maxHeartbeats 4000000 in
theorem c_X7_appendNumber {g : zGT} {w : zW} {b x : Nat} {O : List Nat} (h0 : zG0 g) (hO : Ox g w b O) (hlt : O.length + 3 ≤ 1000) (hx9 : x < 1000) : zCt g mX7_appendNumber (zR 1 0) [.ref (za g b), .int (nI (x))] w (fun o w' => o = .inl none ∧ zFr w w' b (b + 2) ∧ Ox g w' b (O ++ dig3 x)) := by
  obtain ⟨hb, hw, ⟨f, hr, hfk⟩, hn, hx⟩ := id hO
  refine zCt_of (by decide +kernel) h0 [(0, .ref (za g b)), (1, .int (nI (x)))] rfl (Nat.le_of_ble_eq_true rfl) ?_
  refine z_iload_n dX7_appendNumber_0 rfl ?_
  refine z_bipush (v := nI 100) dX7_appendNumber_1 rfl ?_
  refine z_icmp_lt_n (a := x) (b := 100) (tgt := 18) dX7_appendNumber_3 (by decide) (by omega) (by omega) (fun h_3_1 => ?_) (fun h_3_1 => ?_)
  · refine z_iload_n dX7_appendNumber_18 rfl ?_
    refine z_bipush (v := nI 10) dX7_appendNumber_19 rfl ?_
    refine z_icmp_lt_n (a := x) (b := 10) (tgt := 39) dX7_appendNumber_21 (by decide) (by omega) (by omega) (fun h_21_2 => ?_) (fun h_21_2 => ?_)
    · refine z_aload_n dX7_appendNumber_39 rfl ?_
      refine z_bipush (v := nI 48) dX7_appendNumber_40 rfl ?_
      refine z_iload_n dX7_appendNumber_42 rfl ?_
      refine z_bipush (v := nI 10) dX7_appendNumber_43 rfl ?_
      refine z_irem_n (a := x) (b := 10) dX7_appendNumber_45 (by omega) (by omega) (by omega) ?_
      refine z_iadd_n (a := 48) (b := (x) % (10)) dX7_appendNumber_46 ?_
      refine z_i2c_n (a := (48) + ((x) % (10))) dX7_appendNumber_47 (by omega) ?_
      refine z_callR (As := [.int (nI ((48) + ((x) % (10))))]) (rest := []) (b := b) (ci := 7) (v := none) (R2 := zR 0 0) dX7_appendNumber_48 kV_RX7_19 rfl ⟨⟨by decide, by decide⟩, by decide, by decide⟩ (by omega) hw rfl rfl rfl (Nat.le_of_ble_eq_true rfl) rfl (c_X7_append (c := (48) + ((x) % (10))) h0 hO (by (try simp only [List.length_append, List.length_singleton]); omega) (by omega)) (fun w3 pw3 => ?_)
      obtain ⟨hf_w3, hO4⟩ := pw3
      refine z_vret dX7_appendNumber_51 rfl (by decide) (by decide) ?_
      have e : dig3 x = [48 + x % 10] := by unfold dig3; rw [if_neg (show ¬ 100 ≤ x by omega), if_neg (show ¬ 10 ≤ x by omega)]; rfl
      refine ⟨rfl, hf_w3, ?_⟩
      rw [e]; have h9 := hO4; first | exact h9 | (simp only [List.append_assoc] at h9; exact h9)
    · refine z_aload_n dX7_appendNumber_24 rfl ?_
      refine z_bipush (v := nI 48) dX7_appendNumber_25 rfl ?_
      refine z_iload_n dX7_appendNumber_27 rfl ?_
      refine z_bipush (v := nI 10) dX7_appendNumber_28 rfl ?_
      refine z_idiv_n (a := x) (b := 10) dX7_appendNumber_30 (by omega) (by omega) (by omega) ?_
      refine z_bipush (v := nI 10) dX7_appendNumber_31 rfl ?_
      refine z_irem_n (a := (x) / (10)) (b := 10) dX7_appendNumber_33 (by omega) (by omega) (by omega) ?_
      refine z_iadd_n (a := 48) (b := ((x) / (10)) % (10)) dX7_appendNumber_34 ?_
      refine z_i2c_n (a := (48) + (((x) / (10)) % (10))) dX7_appendNumber_35 (by omega) ?_
      refine z_callR (As := [.int (nI ((48) + (((x) / (10)) % (10))))]) (rest := []) (b := b) (ci := 7) (v := none) (R2 := zR 0 0) dX7_appendNumber_36 kV_RX7_19 rfl ⟨⟨by decide, by decide⟩, by decide, by decide⟩ (by omega) hw rfl rfl rfl (Nat.le_of_ble_eq_true rfl) rfl (c_X7_append (c := (48) + (((x) / (10)) % (10))) h0 hO (by (try simp only [List.length_append, List.length_singleton]); omega) (by omega)) (fun w5 pw5 => ?_)
      obtain ⟨hf_w5, hO6⟩ := pw5
      refine z_aload_n dX7_appendNumber_39 rfl ?_
      refine z_bipush (v := nI 48) dX7_appendNumber_40 rfl ?_
      refine z_iload_n dX7_appendNumber_42 rfl ?_
      refine z_bipush (v := nI 10) dX7_appendNumber_43 rfl ?_
      refine z_irem_n (a := x) (b := 10) dX7_appendNumber_45 (by omega) (by omega) (by omega) ?_
      refine z_iadd_n (a := 48) (b := (x) % (10)) dX7_appendNumber_46 ?_
      refine z_i2c_n (a := (48) + ((x) % (10))) dX7_appendNumber_47 (by omega) ?_
      refine z_callR (As := [.int (nI ((48) + ((x) % (10))))]) (rest := []) (b := b) (ci := 7) (v := none) (R2 := zR 0 0) dX7_appendNumber_48 kV_RX7_19 rfl ⟨⟨by decide, by decide⟩, by decide, by decide⟩ (by omega) hO6.2.1 rfl rfl rfl (Nat.le_of_ble_eq_true rfl) rfl (c_X7_append (c := (48) + ((x) % (10))) h0 hO6 (by (try simp only [List.length_append, List.length_singleton]); omega) (by omega)) (fun w7 pw7 => ?_)
      obtain ⟨hf_w7, hO8⟩ := pw7
      refine z_vret dX7_appendNumber_51 rfl (by decide) (by decide) ?_
      have e : dig3 x = [48 + x / 10 % 10, 48 + x % 10] := by unfold dig3; rw [if_neg (show ¬ 100 ≤ x by omega), if_pos (show 10 ≤ x by omega)]; rfl
      refine ⟨rfl, (hf_w5.tr hf_w7), ?_⟩
      rw [e]; have h9 := hO8; first | exact h9 | (simp only [List.append_assoc] at h9; exact h9)
  · refine z_aload_n dX7_appendNumber_6 rfl ?_
    refine z_bipush (v := nI 48) dX7_appendNumber_7 rfl ?_
    refine z_iload_n dX7_appendNumber_9 rfl ?_
    refine z_bipush (v := nI 100) dX7_appendNumber_10 rfl ?_
    refine z_idiv_n (a := x) (b := 100) dX7_appendNumber_12 (by omega) (by omega) (by omega) ?_
    refine z_iadd_n (a := 48) (b := (x) / (100)) dX7_appendNumber_13 ?_
    refine z_i2c_n (a := (48) + ((x) / (100))) dX7_appendNumber_14 (by omega) ?_
    refine z_callR (As := [.int (nI ((48) + ((x) / (100))))]) (rest := []) (b := b) (ci := 7) (v := none) (R2 := zR 0 0) dX7_appendNumber_15 kV_RX7_19 rfl ⟨⟨by decide, by decide⟩, by decide, by decide⟩ (by omega) hw rfl rfl rfl (Nat.le_of_ble_eq_true rfl) rfl (c_X7_append (c := (48) + ((x) / (100))) h0 hO (by (try simp only [List.length_append, List.length_singleton]); omega) (by omega)) (fun w9 pw9 => ?_)
    obtain ⟨hf_w9, hO10⟩ := pw9
    refine z_iload_n dX7_appendNumber_18 rfl ?_
    refine z_bipush (v := nI 10) dX7_appendNumber_19 rfl ?_
    refine z_icmp_lt_n (a := x) (b := 10) (tgt := 39) dX7_appendNumber_21 (by decide) (by omega) (by omega) (fun h_21_11 => ?_) (fun h_21_11 => ?_)
    · refine z_aload_n dX7_appendNumber_39 rfl ?_
      refine z_bipush (v := nI 48) dX7_appendNumber_40 rfl ?_
      refine z_iload_n dX7_appendNumber_42 rfl ?_
      refine z_bipush (v := nI 10) dX7_appendNumber_43 rfl ?_
      refine z_irem_n (a := x) (b := 10) dX7_appendNumber_45 (by omega) (by omega) (by omega) ?_
      refine z_iadd_n (a := 48) (b := (x) % (10)) dX7_appendNumber_46 ?_
      refine z_i2c_n (a := (48) + ((x) % (10))) dX7_appendNumber_47 (by omega) ?_
      refine z_callR (As := [.int (nI ((48) + ((x) % (10))))]) (rest := []) (b := b) (ci := 7) (v := none) (R2 := zR 0 0) dX7_appendNumber_48 kV_RX7_19 rfl ⟨⟨by decide, by decide⟩, by decide, by decide⟩ (by omega) hO10.2.1 rfl rfl rfl (Nat.le_of_ble_eq_true rfl) rfl (c_X7_append (c := (48) + ((x) % (10))) h0 hO10 (by (try simp only [List.length_append, List.length_singleton]); omega) (by omega)) (fun w12 pw12 => ?_)
      obtain ⟨hf_w12, hO13⟩ := pw12
      refine z_vret dX7_appendNumber_51 rfl (by decide) (by decide) ?_
      exfalso; omega
    · refine z_aload_n dX7_appendNumber_24 rfl ?_
      refine z_bipush (v := nI 48) dX7_appendNumber_25 rfl ?_
      refine z_iload_n dX7_appendNumber_27 rfl ?_
      refine z_bipush (v := nI 10) dX7_appendNumber_28 rfl ?_
      refine z_idiv_n (a := x) (b := 10) dX7_appendNumber_30 (by omega) (by omega) (by omega) ?_
      refine z_bipush (v := nI 10) dX7_appendNumber_31 rfl ?_
      refine z_irem_n (a := (x) / (10)) (b := 10) dX7_appendNumber_33 (by omega) (by omega) (by omega) ?_
      refine z_iadd_n (a := 48) (b := ((x) / (10)) % (10)) dX7_appendNumber_34 ?_
      refine z_i2c_n (a := (48) + (((x) / (10)) % (10))) dX7_appendNumber_35 (by omega) ?_
      refine z_callR (As := [.int (nI ((48) + (((x) / (10)) % (10))))]) (rest := []) (b := b) (ci := 7) (v := none) (R2 := zR 0 0) dX7_appendNumber_36 kV_RX7_19 rfl ⟨⟨by decide, by decide⟩, by decide, by decide⟩ (by omega) hO10.2.1 rfl rfl rfl (Nat.le_of_ble_eq_true rfl) rfl (c_X7_append (c := (48) + (((x) / (10)) % (10))) h0 hO10 (by (try simp only [List.length_append, List.length_singleton]); omega) (by omega)) (fun w14 pw14 => ?_)
      obtain ⟨hf_w14, hO15⟩ := pw14
      refine z_aload_n dX7_appendNumber_39 rfl ?_
      refine z_bipush (v := nI 48) dX7_appendNumber_40 rfl ?_
      refine z_iload_n dX7_appendNumber_42 rfl ?_
      refine z_bipush (v := nI 10) dX7_appendNumber_43 rfl ?_
      refine z_irem_n (a := x) (b := 10) dX7_appendNumber_45 (by omega) (by omega) (by omega) ?_
      refine z_iadd_n (a := 48) (b := (x) % (10)) dX7_appendNumber_46 ?_
      refine z_i2c_n (a := (48) + ((x) % (10))) dX7_appendNumber_47 (by omega) ?_
      refine z_callR (As := [.int (nI ((48) + ((x) % (10))))]) (rest := []) (b := b) (ci := 7) (v := none) (R2 := zR 0 0) dX7_appendNumber_48 kV_RX7_19 rfl ⟨⟨by decide, by decide⟩, by decide, by decide⟩ (by omega) hO15.2.1 rfl rfl rfl (Nat.le_of_ble_eq_true rfl) rfl (c_X7_append (c := (48) + ((x) % (10))) h0 hO15 (by (try simp only [List.length_append, List.length_singleton]); omega) (by omega)) (fun w16 pw16 => ?_)
      obtain ⟨hf_w16, hO17⟩ := pw16
      refine z_vret dX7_appendNumber_51 rfl (by decide) (by decide) ?_
      have e : dig3 x = [48 + x / 100, 48 + x / 10 % 10, 48 + x % 10] := by unfold dig3; rw [if_pos (show 100 ≤ x by omega), if_pos (show 10 ≤ x by omega)]; rfl
      refine ⟨rfl, ((hf_w9.tr hf_w14).tr hf_w16), ?_⟩
      rw [e]; have h9 := hO17; first | exact h9 | (simp only [List.append_assoc] at h9; exact h9)
