/-! module Levels -/
def Lv (g : zGT) (w : zW) (b : Nat) (f : Nat → Int32) (n : Nat) : Prop := b + 1 < zn g ∧ w b = zO 5 [.ref (za g (b + 1)), .int (nI n)] ∧ w (b + 1) = zI g 200 f ∧ n ≤ 200
theorem Lv.fr {g : zGT} {w w1 : zW} {b n lo hi : Nat} {f : Nat → Int32} (h : Lv g w b f n) (hf : zFr w w1 lo hi) (hd : b + 1 < lo ∨ hi ≤ b) : Lv g w1 b f n := ⟨h.1, (hf b (by omega)).trans h.2.1, (hf (b + 1) (by omega)).trans h.2.2.1, h.2.2.2⟩
theorem Lv.put {g : zGT} {w : zW} {b n : Nat} {f f' : Nat → Int32} (h : Lv g w b f n) : Lv g (va_up w (b + 1) (zI g 200 f')) b f' n := ⟨h.1, by rw [zup_n (by omega)]; exact h.2.1, zup_s, h.2.2.2⟩
theorem Lv.num {g : zGT} {w : zW} {b n n' : Nat} {f : Nat → Int32} (h : Lv g w b f n) (hn : n' ≤ 200) : Lv g (va_up w b (zO 5 [.ref (za g (b + 1)), .int (nI n')])) b f n' := ⟨h.1, zup_s, by rw [zup_n (by omega)]; exact h.2.2.1, hn⟩
set_option maxRecDepth 100000 in
set_option maxHeartbeats 4000000 in
theorem c_X5_size {g : zGT} {w : zW} {b n : Nat} {f : Nat → Int32} (h0 : zG0 g) (hL : Lv g w b f n) : zCt g mX5_size (zR 0 0) [.ref (za g b)] w (fun o w' => o = .inl (some (.int (nI n))) ∧ w' = w) := by
  obtain ⟨hb, hw, hr, hn⟩ := id hL
  refine zCt_of (by decide +kernel) h0 [(0, .ref (za g b))] rfl (Nat.le_of_ble_eq_true rfl) ?_
  refine z_aload_n dX5_size_0 rfl ?_
  refine z_getf (j := b) dX5_size_1 kF_RX5_15 rfl (by omega) hw rfl ?_
  refine z_iret dX5_size_4 rfl (by decide) (by decide) ?_
  exact ⟨rfl, rfl⟩
set_option maxRecDepth 100000 in
set_option maxHeartbeats 4000000 in
theorem c_X5_hasTick {g : zGT} {w : zW} {b n : Nat} {f : Nat → Int32} {t : Int32} (h0 : zG0 g) (hL : Lv g w b f n) : zCt g mX5_hasTick (zR 0 0) [.ref (za g b), .int (t)] w (fun o w' => o = .inl (some (.int (if 0 ≤ t.toInt ∧ t.toInt < n then 1 else 0))) ∧ w' = w) := by
  obtain ⟨hb, hw, hr, hn⟩ := id hL
  refine zCt_of (by decide +kernel) h0 [(0, .ref (za g b)), (1, .int (t))] rfl (Nat.le_of_ble_eq_true rfl) ?_
  have hz0 : (nI n).toInt = n := nI_toInt (by omega)
  refine z_iload_n dX5_hasTick_0 rfl ?_
  refine z_if_lt_z (tgt := 16) dX5_hasTick_1 (by decide) (fun h_1_1 => ?_) (fun h_1_1 => ?_)
  · refine z_iconst (v := nI 0) dX5_hasTick_16 rfl ?_
    refine z_zret (ty := .boolean) dX5_hasTick_17 rfl (by decide) (by decide) rfl ?_
    have hz := nI_toInt (show n < 2 ^ 31 by omega)
    first | exact ⟨by rw [if_pos (by omega)]; rfl, rfl⟩ | exact ⟨by rw [if_neg (by omega)]; rfl, rfl⟩
  · refine z_iload_n dX5_hasTick_4 rfl ?_
    refine z_aload_n dX5_hasTick_5 rfl ?_
    refine z_getf (j := b) dX5_hasTick_6 kF_RX5_15 rfl (by omega) hw rfl ?_
    refine z_icmp_ge_z (tgt := 16) dX5_hasTick_9 (by decide) (fun h_9_2 => ?_) (fun h_9_2 => ?_)
    · refine z_iconst (v := nI 0) dX5_hasTick_16 rfl ?_
      refine z_zret (ty := .boolean) dX5_hasTick_17 rfl (by decide) (by decide) rfl ?_
      have hz := nI_toInt (show n < 2 ^ 31 by omega)
      first | exact ⟨by rw [if_pos (by omega)]; rfl, rfl⟩ | exact ⟨by rw [if_neg (by omega)]; rfl, rfl⟩
    · refine z_iconst (v := nI 1) dX5_hasTick_12 rfl ?_
      refine z_goto (tgt := 17) dX5_hasTick_13 (by decide) ?_
      refine z_zret (ty := .boolean) dX5_hasTick_17 rfl (by decide) (by decide) rfl ?_
      have hz := nI_toInt (show n < 2 ^ 31 by omega)
      first | exact ⟨by rw [if_pos (by omega)]; rfl, rfl⟩ | exact ⟨by rw [if_neg (by omega)]; rfl, rfl⟩
set_option maxRecDepth 100000 in
set_option maxHeartbeats 4000000 in
theorem c_X5_hasInterval {g : zGT} {w : zW} {b n : Nat} {f : Nat → Int32} {p q : Int32} (h0 : zG0 g) (hL : Lv g w b f n) : zCt g mX5_hasInterval (zR 0 0) [.ref (za g b), .int (p), .int (q)] w (fun o w' => o = .inl (some (.int (if 0 ≤ p.toInt ∧ p.toInt ≤ q.toInt ∧ q.toInt ≤ n then 1 else 0))) ∧ w' = w) := by
  obtain ⟨hb, hw, hr, hn⟩ := id hL
  refine zCt_of (by decide +kernel) h0 [(0, .ref (za g b)), (1, .int (p)), (2, .int (q))] rfl (Nat.le_of_ble_eq_true rfl) ?_
  have hz0 : (nI n).toInt = n := nI_toInt (by omega)
  refine z_iload_n dX5_hasInterval_0 rfl ?_
  refine z_if_lt_z (tgt := 21) dX5_hasInterval_1 (by decide) (fun h_1_1 => ?_) (fun h_1_1 => ?_)
  · refine z_iconst (v := nI 0) dX5_hasInterval_21 rfl ?_
    refine z_zret (ty := .boolean) dX5_hasInterval_22 rfl (by decide) (by decide) rfl ?_
    have hz := nI_toInt (show n < 2 ^ 31 by omega)
    first | exact ⟨by rw [if_pos (by omega)]; rfl, rfl⟩ | exact ⟨by rw [if_neg (by omega)]; rfl, rfl⟩
  · refine z_iload_n dX5_hasInterval_4 rfl ?_
    refine z_iload_n dX5_hasInterval_5 rfl ?_
    refine z_icmp_gt_z (tgt := 21) dX5_hasInterval_6 (by decide) (fun h_6_2 => ?_) (fun h_6_2 => ?_)
    · refine z_iconst (v := nI 0) dX5_hasInterval_21 rfl ?_
      refine z_zret (ty := .boolean) dX5_hasInterval_22 rfl (by decide) (by decide) rfl ?_
      have hz := nI_toInt (show n < 2 ^ 31 by omega)
      first | exact ⟨by rw [if_pos (by omega)]; rfl, rfl⟩ | exact ⟨by rw [if_neg (by omega)]; rfl, rfl⟩
    · refine z_iload_n dX5_hasInterval_9 rfl ?_
      refine z_aload_n dX5_hasInterval_10 rfl ?_
      refine z_getf (j := b) dX5_hasInterval_11 kF_RX5_15 rfl (by omega) hw rfl ?_
      refine z_icmp_gt_z (tgt := 21) dX5_hasInterval_14 (by decide) (fun h_14_3 => ?_) (fun h_14_3 => ?_)
      · refine z_iconst (v := nI 0) dX5_hasInterval_21 rfl ?_
        refine z_zret (ty := .boolean) dX5_hasInterval_22 rfl (by decide) (by decide) rfl ?_
        have hz := nI_toInt (show n < 2 ^ 31 by omega)
        first | exact ⟨by rw [if_pos (by omega)]; rfl, rfl⟩ | exact ⟨by rw [if_neg (by omega)]; rfl, rfl⟩
      · refine z_iconst (v := nI 1) dX5_hasInterval_17 rfl ?_
        refine z_goto (tgt := 22) dX5_hasInterval_18 (by decide) ?_
        refine z_zret (ty := .boolean) dX5_hasInterval_22 rfl (by decide) (by decide) rfl ?_
        have hz := nI_toInt (show n < 2 ^ 31 by omega)
        first | exact ⟨by rw [if_pos (by omega)]; rfl, rfl⟩ | exact ⟨by rw [if_neg (by omega)]; rfl, rfl⟩
set_option maxRecDepth 100000 in
set_option maxHeartbeats 4000000 in
theorem c_X5_at {g : zGT} {w : zW} {b n t : Nat} {f : Nat → Int32} (h0 : zG0 g) (hL : Lv g w b f n) (ht : t < 200) : zCt g mX5_at (zR 0 0) [.ref (za g b), .int (nI (t))] w (fun o w' => o = .inl (some (.int (f t))) ∧ w' = w) := by
  obtain ⟨hb, hw, hr, hn⟩ := id hL
  refine zCt_of (by decide +kernel) h0 [(0, .ref (za g b)), (1, .int (nI (t)))] rfl (Nat.le_of_ble_eq_true rfl) ?_
  refine z_iload_n dX5_at_0 rfl ?_
  refine z_if_lt_n (a := t) dX5_at_1 22 (by decide) (by omega) ?_
  refine z_iload_n dX5_at_4 rfl ?_
  refine z_aload_n dX5_at_5 rfl ?_
  refine z_getf (j := b) dX5_at_6 kF_RX5_9 rfl (by omega) hw rfl ?_
  refine z_alen_n (j := b + 1) (N := 200) (f := f) dX5_at_9 hb hr ?_
  refine z_icmp_ge_n (a := t) (b := 200) (tgt := 22) dX5_at_10 (by decide) (by omega) (by omega) (fun h_10_2 => ?_) (fun h_10_2 => ?_)
  · exact absurd h_10_2 (by omega)
  · refine z_aload_n dX5_at_13 rfl ?_
    refine z_getf (j := b) dX5_at_14 kF_RX5_9 rfl (by omega) hw rfl ?_
    refine z_iload_n dX5_at_17 rfl ?_
    refine z_iald_n (j := b + 1) (N := 200) (a := t) (f := f) dX5_at_18 hb hr (by omega) (by omega) ?_
    refine z_goto (tgt := 23) dX5_at_19 (by decide) ?_
    refine z_iret dX5_at_23 rfl (by decide) (by decide) ?_
    exact ⟨rfl, rfl⟩
set_option maxRecDepth 100000 in
set_option maxHeartbeats 4000000 in
theorem c_X5_put {g : zGT} {w : zW} {b n t : Nat} {f : Nat → Int32} {x : Int32} (h0 : zG0 g) (hL : Lv g w b f n) (ht : t < 200) : zCt g mX5_put (zR 0 0) [.ref (za g b), .int (nI (t)), .int (x)] w (fun o w' => o = .inl none ∧ zFr w w' b (b + 2) ∧ Lv g w' b (upd f t x) n) := by
  obtain ⟨hb, hw, hr, hn⟩ := id hL
  refine zCt_of (by decide +kernel) h0 [(0, .ref (za g b)), (1, .int (nI (t))), (2, .int (x))] rfl (Nat.le_of_ble_eq_true rfl) ?_
  refine z_iload_n dX5_put_0 rfl ?_
  refine z_if_lt_n (a := t) dX5_put_1 20 (by decide) (by omega) ?_
  refine z_iload_n dX5_put_4 rfl ?_
  refine z_aload_n dX5_put_5 rfl ?_
  refine z_getf (j := b) dX5_put_6 kF_RX5_9 rfl (by omega) hw rfl ?_
  refine z_alen_n (j := b + 1) (N := 200) (f := f) dX5_put_9 hb hr ?_
  refine z_icmp_ge_n (a := t) (b := 200) (tgt := 20) dX5_put_10 (by decide) (by omega) (by omega) (fun h_10_2 => ?_) (fun h_10_2 => ?_)
  · exact absurd h_10_2 (by omega)
  · refine z_aload_n dX5_put_13 rfl ?_
    refine z_getf (j := b) dX5_put_14 kF_RX5_9 rfl (by omega) hw rfl ?_
    refine z_iload_n dX5_put_17 rfl ?_
    refine z_iload_n dX5_put_18 rfl ?_
    refine z_iast_n (j := b + 1) (N := 200) (a := t) (f := f) dX5_put_19 hb hr (by omega) (by omega) ?_
    obtain ⟨w3, ew4⟩ : ∃ wz : zW, wz = va_up w (b + 1) (zI g 200 (upd (f) (t) ((x)))) := ⟨_, rfl⟩
    refine z_weq (w' := w3) ew4.symm ?_
    have hw5 : w3 (b) = zO 5 [.ref (za g (b + 1)), .int (nI (n))] := by rw [ew4, zup_n (by omega)]; exact hw
    have hw6 : w3 (b + 1) = zI g 200 (upd (f) (t) ((x))) := by rw [ew4, zup_s]
    refine z_vret dX5_put_20 rfl (by decide) (by decide) ?_
    exact ⟨rfl, by rw [ew4]; exact zFr.up (by omega), by rw [ew4]; exact hL.put⟩
set_option maxRecDepth 100000 in
set_option maxHeartbeats 4000000 in
theorem c_X5_append {g : zGT} {w : zW} {b n : Nat} {f : Nat → Int32} {x : Int32} (h0 : zG0 g) (hL : Lv g w b f n) : zCt g mX5_append (zR 0 0) [.ref (za g b), .int (x)] w (fun o w' => o = .inl none ∧ zFr w w' b (b + 2) ∧ (if n < 200 then Lv g w' b (upd f n x) (n + 1) else Lv g w' b f n)) := by
  obtain ⟨hb, hw, hr, hn⟩ := id hL
  refine zCt_of (by decide +kernel) h0 [(0, .ref (za g b)), (1, .int (x))] rfl (Nat.le_of_ble_eq_true rfl) ?_
  refine z_aload_n dX5_append_0 rfl ?_
  refine z_getf (j := b) dX5_append_1 kF_RX5_15 rfl (by omega) hw rfl ?_
  refine z_if_lt_n (a := n) dX5_append_4 39 (by decide) (by omega) ?_
  refine z_aload_n dX5_append_7 rfl ?_
  refine z_getf (j := b) dX5_append_8 kF_RX5_15 rfl (by omega) hw rfl ?_
  refine z_aload_n dX5_append_11 rfl ?_
  refine z_getf (j := b) dX5_append_12 kF_RX5_9 rfl (by omega) hw rfl ?_
  refine z_alen_n (j := b + 1) (N := 200) (f := f) dX5_append_15 hb hr ?_
  refine z_icmp_ge_n (a := n) (b := 200) (tgt := 39) dX5_append_16 (by decide) (by omega) (by omega) (fun h_16_2 => ?_) (fun h_16_2 => ?_)
  · refine z_vret dX5_append_39 rfl (by decide) (by decide) ?_
    rw [if_neg (by omega)]
    exact ⟨rfl, zFr.rf, hL⟩
  · refine z_aload_n dX5_append_19 rfl ?_
    refine z_getf (j := b) dX5_append_20 kF_RX5_9 rfl (by omega) hw rfl ?_
    refine z_aload_n dX5_append_23 rfl ?_
    refine z_getf (j := b) dX5_append_24 kF_RX5_15 rfl (by omega) hw rfl ?_
    refine z_iload_n dX5_append_27 rfl ?_
    refine z_iast_n (j := b + 1) (N := 200) (a := n) (f := f) dX5_append_28 hb hr (by omega) (by omega) ?_
    obtain ⟨w3, ew4⟩ : ∃ wz : zW, wz = va_up w (b + 1) (zI g 200 (upd (f) (n) ((x)))) := ⟨_, rfl⟩
    refine z_weq (w' := w3) ew4.symm ?_
    have hw5 : w3 (b) = zO 5 [.ref (za g (b + 1)), .int (nI (n))] := by rw [ew4, zup_n (by omega)]; exact hw
    have hw6 : w3 (b + 1) = zI g 200 (upd (f) (n) ((x))) := by rw [ew4, zup_s]
    refine z_aload_n dX5_append_29 rfl ?_
    refine z_dup dX5_append_30 rfl ?_
    refine z_getf (j := b) dX5_append_31 kF_RX5_15 rfl (by omega) hw5 rfl ?_
    refine z_iconst (v := nI 1) dX5_append_34 rfl ?_
    refine z_iadd_n (a := n) (b := 1) dX5_append_35 ?_
    refine z_putf (j := b) dX5_append_36 kF_RX5_15 zt_5_1 rfl (by omega) hw5 rfl rfl (Nat.le_of_ble_eq_true rfl) ?_
    obtain ⟨w7, ew8⟩ : ∃ wz : zW, wz = va_up w3 (b) (zO 5 [.ref (za g (b + 1)), .int (nI ((n) + (1)))]) := ⟨_, rfl⟩
    refine z_weq (w' := w7) ew8.symm ?_
    have hw9 : w7 (b) = zO 5 [.ref (za g (b + 1)), .int (nI ((n) + (1)))] := by rw [ew8, zup_s]
    have hw10 : w7 (b + 1) = zI g 200 (upd (f) (n) ((x))) := by rw [ew8, zup_n (by omega)]; exact hw6
    refine z_vret dX5_append_39 rfl (by decide) (by decide) ?_
    rw [if_pos (by omega)]
    exact ⟨rfl, by rw [ew8, ew4]; exact (zFr.up (by omega)).tr (zFr.up (by omega)), by rw [ew8, ew4]; exact hL.put.num (by omega)⟩
set_option maxRecDepth 100000 in
set_option maxHeartbeats 4000000 in
theorem c_X5_clear {g : zGT} {w : zW} {b n : Nat} {f : Nat → Int32} (h0 : zG0 g) (hL : Lv g w b f n) : zCt g mX5_clear (zR 0 0) [.ref (za g b)] w (fun o w' => o = .inl none ∧ zFr w w' b (b + 2) ∧ Lv g w' b f 0) := by
  obtain ⟨hb, hw, hr, hn⟩ := id hL
  refine zCt_of (by decide +kernel) h0 [(0, .ref (za g b))] rfl (Nat.le_of_ble_eq_true rfl) ?_
  refine z_aload_n dX5_clear_0 rfl ?_
  refine z_iconst (v := nI 0) dX5_clear_1 rfl ?_
  refine z_putf (j := b) dX5_clear_2 kF_RX5_15 zt_5_1 rfl (by omega) hw rfl rfl (Nat.le_of_ble_eq_true rfl) ?_
  obtain ⟨w1, ew2⟩ : ∃ wz : zW, wz = va_up w (b) (zO 5 [.ref (za g (b + 1)), .int (nI (0))]) := ⟨_, rfl⟩
  refine z_weq (w' := w1) ew2.symm ?_
  have hw3 : w1 (b) = zO 5 [.ref (za g (b + 1)), .int (nI (0))] := by rw [ew2, zup_s]
  have hw4 : w1 (b + 1) = zI g 200 (f) := by rw [ew2, zup_n (by omega)]; exact hr
  refine z_vret dX5_clear_5 rfl (by decide) (by decide) ?_
  exact ⟨rfl, by rw [ew2]; exact zFr.up (by omega), by rw [ew2]; exact hL.num (by omega)⟩
set_option maxRecDepth 100000 in
set_option maxHeartbeats 4000000 in
theorem c_X5_takeInterval {g : zGT} {w : zW} {b c n n2 p q : Nat} {f f2 : Nat → Int32} (h0 : zG0 g) (hL : Lv g w b f n) (hK : Lv g w c f2 n2) (hbc : b + 1 < c ∨ c + 1 < b) (hpq : p ≤ q) (hq : q ≤ 200) : zCt g mX5_takeInterval (zR 1 0) [.ref (za g b), .ref (za g c), .int (nI (p)), .int (nI (q))] w (fun o w' => o = .inl none ∧ zFr w w' b (b + 2) ∧ ∃ f', Lv g w' b f' (q - p) ∧ ∀ k, k < q - p → f' k = f2 (p + k)) := by
  have hb := hL.1
  have hc := hK.1
  refine zCt_of (by decide +kernel) h0 [(0, .ref (za g b)), (1, .ref (za g c)), (2, .int (nI (p))), (3, .int (nI (q)))] rfl (Nat.le_of_ble_eq_true rfl) ?_
  have loop : ∀ (m i : Nat) (wi : zW) (fi : Nat → Int32), q - i = m → p ≤ i → i ≤ q → zFr w wi b (b + 2) → Lv g wi b fi (i - p) → (∀ k, k < i - p → fi k = f2 (p + k)) → zTr g mX5_takeInterval (zR 1 0) 0 0 7 [(0, .ref (za g b)), (1, .ref (za g c)), (2, .int (nI p)), (3, .int (nI q)), (4, .int (nI i))] [] wi (fun o w' => o = .inl none ∧ zFr w w' b (b + 2) ∧ ∃ f', Lv g w' b f' (q - p) ∧ ∀ k, k < q - p → f' k = f2 (p + k)) := by
    intro m
    induction m with
    | zero =>
      intro i wi fi hm hpi hiq hfi hLi hi
      have hKi := hK.fr hfi (by omega)
      have hb := hL.1
      have hc := hK.1
      refine z_iload dX5_takeInterval_7 rfl ?_
      refine z_iload_n dX5_takeInterval_9 rfl ?_
      refine z_icmp_ge_n (a := i) (b := q) (tgt := 29) dX5_takeInterval_10 (by decide) (by omega) (by omega) (fun h_10_1 => ?_) (fun h_10_1 => ?_)
      · refine z_vret dX5_takeInterval_29 rfl (by decide) (by decide) ?_
        exact ⟨rfl, hfi, _, by rw [show q - p = i - p by omega]; exact hLi, fun k hk => hi k (by omega)⟩
      · exact absurd h_10_1 (by omega)
    | succ m ih =>
      intro i wi fi hm hpi hiq hfi hLi hi
      have hKi := hK.fr hfi (by omega)
      have hb := hL.1
      have hc := hK.1
      refine z_iload dX5_takeInterval_7 rfl ?_
      refine z_iload_n dX5_takeInterval_9 rfl ?_
      refine z_icmp_ge_n (a := i) (b := q) (tgt := 29) dX5_takeInterval_10 (by decide) (by omega) (by omega) (fun h_10_1 => ?_) (fun h_10_1 => ?_)
      · exact absurd h_10_1 (by omega)
      · refine z_aload_n dX5_takeInterval_13 rfl ?_
        refine z_aload_n dX5_takeInterval_14 rfl ?_
        refine z_iload dX5_takeInterval_15 rfl ?_
        refine z_callE (As := [.int (nI (i))]) (rest := [.ref (za g b)]) (b := c) (ci := 5) (v := some (.int (f2 (i)))) (R2 := zR 0 0) dX5_takeInterval_17 kV_RX5_26 rfl ⟨⟨by decide, by decide⟩, by decide, by decide⟩ (by omega) hKi.2.1 rfl rfl rfl (Nat.le_of_ble_eq_true rfl) rfl (c_X5_at (t := i) h0 hKi (by omega)) ?_
        refine z_callR (As := [.int (f2 (i))]) (rest := []) (b := b) (ci := 5) (v := none) (R2 := zR 0 0) dX5_takeInterval_20 kV_RX5_30 rfl ⟨⟨by decide, by decide⟩, by decide, by decide⟩ (by omega) hLi.2.1 rfl rfl rfl (Nat.le_of_ble_eq_true rfl) rfl (c_X5_append (x := (f2 (i))) h0 hLi) (fun w3 pw3 => ?_)
        obtain ⟨hf_w3, hL4⟩ := pw3
        rw [if_pos (by omega)] at hL4
        have hL5 := hKi.fr hf_w3 (by omega)
        refine z_iinc_n (n := 1) (a := i) (lv' := [(0, .ref (za g b)), (1, .ref (za g c)), (2, .int (nI (p))), (3, .int (nI (q))), (4, .int (nI (i + 1)))]) dX5_takeInterval_23 rfl (by decide) rfl ?_
        refine z_goto (tgt := 7) dX5_takeInterval_26 (by decide) ?_
        refine ih (i + 1) _ _ (by omega) (by omega) (by omega) (hfi.tr hf_w3) (by rw [show i + 1 - p = i - p + 1 by omega]; exact hL4) (fun k hk => ?_)
        simp only [upd]
        split
        · congr 1; omega
        · exact hi k (by omega)
  refine z_aload_n dX5_takeInterval_0 rfl ?_
  refine z_callR (As := []) (rest := []) (b := b) (ci := 5) (v := none) (R2 := zR 0 0) dX5_takeInterval_1 kV_RX5_23 rfl ⟨⟨by decide, by decide⟩, by decide, by decide⟩ (by omega) hL.2.1 rfl rfl rfl (Nat.le_of_ble_eq_true rfl) rfl (c_X5_clear h0 hL) (fun w1 pw1 => ?_)
  obtain ⟨hf1, hL1⟩ := pw1
  have hK1 := hK.fr hf1 (by omega)
  refine z_iload_n dX5_takeInterval_4 rfl ?_
  refine z_istore (lv' := [(0, .ref (za g b)), (1, .ref (za g c)), (2, .int (nI (p))), (3, .int (nI (q))), (4, .int (nI (p)))]) dX5_takeInterval_5 (by decide) rfl ?_
  exact loop (q - p) p _ _ (by omega) (by omega) (by omega) hf1 (by rw [Nat.sub_self]; exact hL1) (fun k hk => absurd hk (by omega))
set_option maxRecDepth 100000 in
set_option maxHeartbeats 4000000 in
theorem c_X5_become {g : zGT} {w : zW} {b c n n2 : Nat} {f f2 : Nat → Int32} (h0 : zG0 g) (hL : Lv g w b f n) (hK : Lv g w c f2 n2) (hbc : b + 1 < c ∨ c + 1 < b) : zCt g mX5_become (zR 2 0) [.ref (za g b), .ref (za g c)] w (fun o w' => o = .inl none ∧ zFr w w' b (b + 2) ∧ ∃ f', Lv g w' b f' n2 ∧ ∀ k, k < n2 → f' k = f2 k) := by
  have hb := hL.1
  have hc := hK.1
  have hn2 := hK.2.2.2
  refine zCt_of (by decide +kernel) h0 [(0, .ref (za g b)), (1, .ref (za g c))] rfl (Nat.le_of_ble_eq_true rfl) ?_
  refine z_aload_n dX5_become_0 rfl ?_
  refine z_aload_n dX5_become_1 rfl ?_
  refine z_iconst (v := nI 0) dX5_become_2 rfl ?_
  refine z_aload_n dX5_become_3 rfl ?_
  refine z_getf (j := c) dX5_become_4 kF_RX5_15 rfl (by omega) hK.2.1 rfl ?_
  refine z_callR (As := [.ref (za g c), .int (nI (0)), .int (nI (n2))]) (rest := []) (b := b) (ci := 5) (v := none) (R2 := zR 1 0) dX5_become_7 kV_RX5_19 rfl ⟨⟨by decide, by decide⟩, by decide, by decide⟩ (by omega) hL.2.1 rfl rfl rfl (Nat.le_of_ble_eq_true rfl) rfl (c_X5_takeInterval h0 hL hK hbc (Nat.zero_le _) hK.2.2.2) (fun w1 pw1 => ?_)
  obtain ⟨hf1, f1, hL1, hi1⟩ := pw1
  refine z_vret dX5_become_10 rfl (by decide) (by decide) ?_
  exact ⟨rfl, hf1, f1, hL1, fun k hk => by rw [hi1 k (by omega), Nat.zero_add]⟩
set_option maxRecDepth 100000 in
set_option maxHeartbeats 4000000 in
theorem c_X5_open {g : zGT} {w : zW} {b n p t : Nat} {f : Nat → Int32} (h0 : zG0 g) (hL : Lv g w b f n) (hp : p ≤ n) (hnt : n + t ≤ 200) : zCt g mX5_open (zR 1 0) [.ref (za g b), .int (nI (p)), .int (nI (t))] w (fun o w' => o = .inl none ∧ zFr w w' b (b + 2) ∧ ∃ f', Lv g w' b f' (n + t) ∧ ∀ k, k < n + t → f' k = if k < p then f k else if k < p + t then nI 0 else f (k - t)) := by
  have hb := hL.1
  refine zCt_of (by decide +kernel) h0 [(0, .ref (za g b)), (1, .int (nI (p))), (2, .int (nI (t)))] rfl (Nat.le_of_ble_eq_true rfl) ?_
  have loop2 : ∀ (m : Nat) (i : Nat) (wi : zW) (fi : Nat → Int32), p + t - i < m → (p ≤ i) → (i ≤ p + t) → (zFr w wi b (b + 2)) → (Lv g wi b fi n) → (∀ k, k < n + t → fi k = if p ≤ k ∧ k < i then nI 0 else if p + t ≤ k then f (k - t) else f k) → zTr g mX5_open (zR 1 0) 0 0 32 [(0, .ref (za g b)), (1, .int (nI (p))), (2, .int (nI (t))), (3, .int (nI (i)))] [] wi (fun o w' => o = .inl none ∧ zFr w w' b (b + 2) ∧ ∃ f', Lv g w' b f' (n + t) ∧ ∀ k, k < n + t → f' k = if k < p then f k else if k < p + t then nI 0 else f (k - t)) := by
    intro m
    induction m with
    | zero => intros; omega
    | succ m ih =>
      intro i wi fi hm hpi hit hfi hLi hi
      have hbi := hLi.1
      refine z_iload_n dX5_open_32 rfl ?_
      refine z_iload_n dX5_open_33 rfl ?_
      refine z_iload_n dX5_open_34 rfl ?_
      refine z_iadd_n (a := p) (b := t) dX5_open_35 ?_
      refine z_icmp_ge_n (a := i) (b := (p) + (t)) (tgt := 51) dX5_open_36 (by decide) (by omega) (by omega) (fun h_36_1 => ?_) (fun h_36_1 => ?_)
      · refine z_aload_n dX5_open_51 rfl ?_
        refine z_dup dX5_open_52 rfl ?_
        refine z_getf (j := b) dX5_open_53 kF_RX5_15 rfl (by omega) hLi.2.1 rfl ?_
        refine z_iload_n dX5_open_56 rfl ?_
        refine z_iadd_n (a := n) (b := t) dX5_open_57 ?_
        refine z_putf (j := b) dX5_open_58 kF_RX5_15 zt_5_1 rfl (by omega) hLi.2.1 rfl rfl (Nat.le_of_ble_eq_true rfl) ?_
        obtain ⟨w2, ew3⟩ : ∃ wz : zW, wz = va_up wi (b) (zO 5 [.ref (za g (b + 1)), .int (nI ((n) + (t)))]) := ⟨_, rfl⟩
        refine z_weq (w' := w2) ew3.symm ?_
        have hw4 : w2 (b) = zO 5 [.ref (za g (b + 1)), .int (nI ((n) + (t)))] := by rw [ew3, zup_s]
        refine z_vret dX5_open_61 rfl (by decide) (by decide) ?_
        refine ⟨rfl, hfi.tr (by rw [ew3]; exact zFr.up (by omega)), fi, by rw [ew3]; exact hLi.num (by omega), fun k hk => ?_⟩
        rw [hi k hk]
        repeat' split
        all_goals first | rfl | (exfalso; omega) | (congr 1; omega)
      · refine z_aload_n dX5_open_39 rfl ?_
        refine z_iload_n dX5_open_40 rfl ?_
        refine z_iconst (v := nI 0) dX5_open_41 rfl ?_
        refine z_callR (As := [.int (nI (i)), .int (nI (0))]) (rest := []) (b := b) (ci := 5) (v := none) (R2 := zR 0 0) dX5_open_42 kV_RX5_34 rfl ⟨⟨by decide, by decide⟩, by decide, by decide⟩ (by omega) hLi.2.1 rfl rfl rfl (Nat.le_of_ble_eq_true rfl) rfl (c_X5_put (t := i) (x := (nI (0))) h0 hLi (by omega)) (fun w5 pw5 => ?_)
        obtain ⟨hf_w5, hL6⟩ := pw5
        refine z_iinc_n (n := 1) (a := i) (lv' := [(0, .ref (za g b)), (1, .int (nI (p))), (2, .int (nI (t))), (3, .int (nI (i + 1)))]) dX5_open_45 rfl (by decide) rfl ?_
        refine z_goto (tgt := 32) dX5_open_48 (by decide) ?_
        refine ih (i + 1) _ _ (by omega) (by omega) (by omega) (hfi.tr hf_w5) hL6 (fun k hk => ?_)
        simp only [upd, hi k hk]
        repeat' split
        all_goals first | rfl | (exfalso; omega) | (congr 1; omega)
  have loop : ∀ (m : Nat) (a : Nat) (wi : zW) (fi : Nat → Int32), a < m → (p ≤ a) → (a ≤ n) → (zFr w wi b (b + 2)) → (Lv g wi b fi n) → (∀ k, k < n + t → fi k = if a + t ≤ k then f (k - t) else f k) → zTr g mX5_open (zR 1 0) 0 0 7 [(0, .ref (za g b)), (1, .int (nI (p))), (2, .int (nI (t))), (3, .int (nI a - nI 1))] [] wi (fun o w' => o = .inl none ∧ zFr w w' b (b + 2) ∧ ∃ f', Lv g w' b f' (n + t) ∧ ∀ k, k < n + t → f' k = if k < p then f k else if k < p + t then nI 0 else f (k - t)) := by
    intro m
    induction m with
    | zero => intros; omega
    | succ m ih =>
      intro a wi fi hm hpi han hfi hLi hi
      have hbi := hLi.1
      have hz := pk_sub_toInt (a := a) (b := 1) (by omega) (by omega)
      have hzp := nI_toInt (n := p) (by omega)
      refine z_iload_n dX5_open_7 rfl ?_
      refine z_iload_n dX5_open_8 rfl ?_
      refine z_icmp_lt_z (tgt := 30) dX5_open_9 (by decide) (fun h_9_1 => ?_) (fun h_9_1 => ?_)
      · refine z_iload_n dX5_open_30 rfl ?_
        refine z_istore_n (lv' := [(0, .ref (za g b)), (1, .int (nI (p))), (2, .int (nI (t))), (3, .int (nI (p)))]) dX5_open_31 (by decide) rfl ?_
        refine loop2 (t + 1) p wi fi (by omega) (Nat.le_refl _) (by omega) hfi hLi (fun k hk => ?_)
        rw [hi k hk]
        repeat' split
        all_goals first | rfl | (exfalso; omega) | (congr 1; omega)
      · refine z_eq (lv' := [(0, .ref (za g b)), (1, .int (nI (p))), (2, .int (nI (t))), (3, .int (nI (a - 1)))]) rfl rfl (by rw [pk_sub (show 1 ≤ a by omega)]) ?_
        refine z_aload_n dX5_open_12 rfl ?_
        refine z_iload_n dX5_open_13 rfl ?_
        refine z_iload_n dX5_open_14 rfl ?_
        refine z_iadd_n (a := a - 1) (b := t) dX5_open_15 ?_
        refine z_aload_n dX5_open_16 rfl ?_
        refine z_iload_n dX5_open_17 rfl ?_
        refine z_callE (As := [.int (nI (a - 1))]) (rest := [.int (nI ((a - 1) + (t))), .ref (za g b)]) (b := b) (ci := 5) (v := some (.int (fi (a - 1)))) (R2 := zR 0 0) dX5_open_18 kV_RX5_26 rfl ⟨⟨by decide, by decide⟩, by decide, by decide⟩ (by omega) hLi.2.1 rfl rfl rfl (Nat.le_of_ble_eq_true rfl) rfl (c_X5_at (t := a - 1) h0 hLi (by omega)) ?_
        refine z_callR (As := [.int (nI ((a - 1) + (t))), .int (fi (a - 1))]) (rest := []) (b := b) (ci := 5) (v := none) (R2 := zR 0 0) dX5_open_21 kV_RX5_34 rfl ⟨⟨by decide, by decide⟩, by decide, by decide⟩ (by omega) hLi.2.1 rfl rfl rfl (Nat.le_of_ble_eq_true rfl) rfl (c_X5_put (t := (a - 1) + (t)) (x := (fi (a - 1))) h0 hLi (by omega)) (fun w3 pw3 => ?_)
        obtain ⟨hf_w3, hL4⟩ := pw3
        refine z_iinc (lv' := [(0, .ref (za g b)), (1, .int (nI (p))), (2, .int (nI (t))), (3, .int (nI (a - 1) - nI 1))]) dX5_open_24 rfl (by rw [Int32.sub_eq_add_neg]; rfl) (by decide) rfl ?_
        refine z_goto (tgt := 7) dX5_open_27 (by decide) ?_
        refine ih (a - 1) _ _ (by omega) (by omega) (by omega) (hfi.tr hf_w3) hL4 (fun k hk => ?_)
        simp only [upd, hi k hk, hi (a - 1) (by omega)]
        repeat' split
        all_goals first | rfl | (exfalso; omega) | (congr 1; omega)
  refine z_aload_n dX5_open_0 rfl ?_
  refine z_getf (j := b) dX5_open_1 kF_RX5_15 rfl (by omega) hL.2.1 rfl ?_
  refine z_iconst (v := nI 1) dX5_open_4 rfl ?_
  refine z_isub dX5_open_5 ?_
  refine z_istore_n (lv' := [(0, .ref (za g b)), (1, .int (nI (p))), (2, .int (nI (t))), (3, .int ((nI (n)) - (nI (1))))]) dX5_open_6 (by decide) rfl ?_
  refine loop (n + 1) n w f (Nat.lt_succ_self _) hp (Nat.le_refl _) zFr.rf hL (fun k hk => ?_)
  repeat' split
  all_goals first | rfl | (exfalso; omega) | (congr 1; omega)
set_option maxRecDepth 100000 in
set_option maxHeartbeats 4000000 in
theorem c_X5_close {g : zGT} {w : zW} {b n p q : Nat} {f : Nat → Int32} (h0 : zG0 g) (hL : Lv g w b f n) (hp : p ≤ q) (hq : q ≤ n) : zCt g mX5_close (zR 1 0) [.ref (za g b), .int (nI (p)), .int (nI (q))] w (fun o w' => o = .inl none ∧ zFr w w' b (b + 2) ∧ ∃ f', Lv g w' b f' (n - (q - p)) ∧ ∀ k, k < n - (q - p) → f' k = if k < p then f k else f (k + (q - p))) := by
  have hb := hL.1
  have hn := hL.2.2.2
  refine zCt_of (by decide +kernel) h0 [(0, .ref (za g b)), (1, .int (nI (p))), (2, .int (nI (q)))] rfl (Nat.le_of_ble_eq_true rfl) ?_
  have loop : ∀ (m : Nat) (i : Nat) (wi : zW) (fi : Nat → Int32), n - i < m → (q ≤ i) → (i ≤ n) → (zFr w wi b (b + 2)) → (Lv g wi b fi n) → (∀ k, k < n → fi k = if p ≤ k ∧ k < i - (q - p) then f (k + (q - p)) else f k) → zTr g mX5_close (zR 1 0) 0 0 2 [(0, .ref (za g b)), (1, .int (nI (p))), (2, .int (nI (q))), (3, .int (nI (i)))] [] wi (fun o w' => o = .inl none ∧ zFr w w' b (b + 2) ∧ ∃ f', Lv g w' b f' (n - (q - p)) ∧ ∀ k, k < n - (q - p) → f' k = if k < p then f k else f (k + (q - p))) := by
    intro m
    induction m with
    | zero => intros; omega
    | succ m ih =>
      intro i wi fi hm hqi hin hfi hLi hi
      have hbi := hLi.1
      refine z_iload_n dX5_close_2 rfl ?_
      refine z_aload_n dX5_close_3 rfl ?_
      refine z_getf (j := b) dX5_close_4 kF_RX5_15 rfl (by omega) hLi.2.1 rfl ?_
      refine z_icmp_ge_n (a := i) (b := n) (tgt := 30) dX5_close_7 (by decide) (by omega) (by omega) (fun h_7_1 => ?_) (fun h_7_1 => ?_)
      · refine z_aload_n dX5_close_30 rfl ?_
        refine z_dup dX5_close_31 rfl ?_
        refine z_getf (j := b) dX5_close_32 kF_RX5_15 rfl (by omega) hLi.2.1 rfl ?_
        refine z_iload_n dX5_close_35 rfl ?_
        refine z_iload_n dX5_close_36 rfl ?_
        refine z_isub_n (a := q) (b := p) dX5_close_37 (by omega) ?_
        refine z_isub_n (a := n) (b := (q) - (p)) dX5_close_38 (by omega) ?_
        refine z_putf (j := b) dX5_close_39 kF_RX5_15 zt_5_1 rfl (by omega) hLi.2.1 rfl rfl (Nat.le_of_ble_eq_true rfl) ?_
        obtain ⟨w2, ew3⟩ : ∃ wz : zW, wz = va_up wi (b) (zO 5 [.ref (za g (b + 1)), .int (nI ((n) - ((q) - (p))))]) := ⟨_, rfl⟩
        refine z_weq (w' := w2) ew3.symm ?_
        have hw4 : w2 (b) = zO 5 [.ref (za g (b + 1)), .int (nI ((n) - ((q) - (p))))] := by rw [ew3, zup_s]
        refine z_vret dX5_close_42 rfl (by decide) (by decide) ?_
        refine ⟨rfl, hfi.tr (by rw [ew3]; exact zFr.up (by omega)), fi, by rw [ew3]; exact hLi.num (by omega), fun k hk => ?_⟩
        rw [hi k (by omega)]
        repeat' split
        all_goals first | rfl | (exfalso; omega) | (congr 1; omega)
      · refine z_aload_n dX5_close_10 rfl ?_
        refine z_iload_n dX5_close_11 rfl ?_
        refine z_iload_n dX5_close_12 rfl ?_
        refine z_iload_n dX5_close_13 rfl ?_
        refine z_isub_n (a := q) (b := p) dX5_close_14 (by omega) ?_
        refine z_isub_n (a := i) (b := (q) - (p)) dX5_close_15 (by omega) ?_
        refine z_aload_n dX5_close_16 rfl ?_
        refine z_iload_n dX5_close_17 rfl ?_
        refine z_callE (As := [.int (nI (i))]) (rest := [.int (nI ((i) - ((q) - (p)))), .ref (za g b)]) (b := b) (ci := 5) (v := some (.int (fi (i)))) (R2 := zR 0 0) dX5_close_18 kV_RX5_26 rfl ⟨⟨by decide, by decide⟩, by decide, by decide⟩ (by omega) hLi.2.1 rfl rfl rfl (Nat.le_of_ble_eq_true rfl) rfl (c_X5_at (t := i) h0 hLi (by omega)) ?_
        refine z_callR (As := [.int (nI ((i) - ((q) - (p)))), .int (fi (i))]) (rest := []) (b := b) (ci := 5) (v := none) (R2 := zR 0 0) dX5_close_21 kV_RX5_34 rfl ⟨⟨by decide, by decide⟩, by decide, by decide⟩ (by omega) hLi.2.1 rfl rfl rfl (Nat.le_of_ble_eq_true rfl) rfl (c_X5_put (t := (i) - ((q) - (p))) (x := (fi (i))) h0 hLi (by omega)) (fun w6 pw6 => ?_)
        obtain ⟨hf_w6, hL7⟩ := pw6
        refine z_iinc_n (n := 1) (a := i) (lv' := [(0, .ref (za g b)), (1, .int (nI (p))), (2, .int (nI (q))), (3, .int (nI (i + 1)))]) dX5_close_24 rfl (by decide) rfl ?_
        refine z_goto (tgt := 2) dX5_close_27 (by decide) ?_
        refine ih (i + 1) _ _ (by omega) (by omega) (by omega) (hfi.tr hf_w6) hL7 (fun k hk => ?_)
        simp only [upd, hi k hk, hi i (by omega)]
        repeat' split
        all_goals first | rfl | (exfalso; omega) | (congr 1; omega)
  refine z_iload_n dX5_close_0 rfl ?_
  refine z_istore_n (lv' := [(0, .ref (za g b)), (1, .int (nI (p))), (2, .int (nI (q))), (3, .int (nI (q)))]) dX5_close_1 (by decide) rfl ?_
  refine loop (n - q + 1) q w f (by omega) (Nat.le_refl _) hq zFr.rf hL (fun k hk => ?_)
  repeat' split
  all_goals first | rfl | (exfalso; omega) | (congr 1; omega)
set_option maxRecDepth 100000 in
set_option maxHeartbeats 4000000 in
theorem c_X5_fill {g : zGT} {w : zW} {b n p q : Nat} {f : Nat → Int32} {x : Int32} (h0 : zG0 g) (hL : Lv g w b f n) (hp : p ≤ q) (hq : q ≤ 200) : zCt g mX5_fill (zR 1 0) [.ref (za g b), .int (nI (p)), .int (nI (q)), .int (x)] w (fun o w' => o = .inl none ∧ zFr w w' b (b + 2) ∧ ∃ f', Lv g w' b f' n ∧ ∀ k, f' k = if p ≤ k ∧ k < q then x else f k) := by
  have hb := hL.1
  refine zCt_of (by decide +kernel) h0 [(0, .ref (za g b)), (1, .int (nI (p))), (2, .int (nI (q))), (3, .int (x))] rfl (Nat.le_of_ble_eq_true rfl) ?_
  have loop : ∀ (m : Nat) (i : Nat) (wi : zW) (fi : Nat → Int32), q - i < m → (p ≤ i) → (i ≤ q) → (zFr w wi b (b + 2)) → (Lv g wi b fi n) → (∀ k, fi k = if p ≤ k ∧ k < i then x else f k) → zTr g mX5_fill (zR 1 0) 0 0 3 [(0, .ref (za g b)), (1, .int (nI (p))), (2, .int (nI (q))), (3, .int (x)), (4, .int (nI (i)))] [] wi (fun o w' => o = .inl none ∧ zFr w w' b (b + 2) ∧ ∃ f', Lv g w' b f' n ∧ ∀ k, f' k = if p ≤ k ∧ k < q then x else f k) := by
    intro m
    induction m with
    | zero => intros; omega
    | succ m ih =>
      intro i wi fi hm hpi hiq hfi hLi hi
      have hbi := hLi.1
      refine z_iload dX5_fill_3 rfl ?_
      refine z_iload_n dX5_fill_5 rfl ?_
      refine z_icmp_ge_n (a := i) (b := q) (tgt := 22) dX5_fill_6 (by decide) (by omega) (by omega) (fun h_6_1 => ?_) (fun h_6_1 => ?_)
      · refine z_vret dX5_fill_22 rfl (by decide) (by decide) ?_
        refine ⟨rfl, hfi, fi, hLi, fun k => ?_⟩
        rw [hi k]
        repeat' split
        all_goals first | rfl | (exfalso; omega) | (congr 1; omega)
      · refine z_aload_n dX5_fill_9 rfl ?_
        refine z_iload dX5_fill_10 rfl ?_
        refine z_iload_n dX5_fill_12 rfl ?_
        refine z_callR (As := [.int (nI (i)), .int (x)]) (rest := []) (b := b) (ci := 5) (v := none) (R2 := zR 0 0) dX5_fill_13 kV_RX5_34 rfl ⟨⟨by decide, by decide⟩, by decide, by decide⟩ (by omega) hLi.2.1 rfl rfl rfl (Nat.le_of_ble_eq_true rfl) rfl (c_X5_put (t := i) (x := (x)) h0 hLi (by omega)) (fun w2 pw2 => ?_)
        obtain ⟨hf_w2, hL3⟩ := pw2
        refine z_iinc_n (n := 1) (a := i) (lv' := [(0, .ref (za g b)), (1, .int (nI (p))), (2, .int (nI (q))), (3, .int (x)), (4, .int (nI (i + 1)))]) dX5_fill_16 rfl (by decide) rfl ?_
        refine z_goto (tgt := 3) dX5_fill_19 (by decide) ?_
        refine ih (i + 1) _ _ (by omega) (by omega) (by omega) (hfi.tr hf_w2) hL3 (fun k => ?_)
        simp only [upd, hi k]
        repeat' split
        all_goals first | rfl | (exfalso; omega) | (congr 1; omega)
  refine z_iload_n dX5_fill_0 rfl ?_
  refine z_istore (lv' := [(0, .ref (za g b)), (1, .int (nI (p))), (2, .int (nI (q))), (3, .int (x)), (4, .int (nI (p)))]) dX5_fill_1 (by decide) rfl ?_
  refine loop (q - p + 1) p w f (by omega) (Nat.le_refl _) hp zFr.rf hL (fun k => ?_)
  repeat' split
  all_goals first | rfl | (exfalso; omega) | (congr 1; omega)
def zsum (f : Nat → Int32) (p : Nat) : Nat → Int32
  | 0 => 0
  | m + 1 => zsum f p m + f (p + m)
def zcnt (P : Nat → Bool) (p : Nat) : Nat → Nat
  | 0 => 0
  | m + 1 => zcnt P p m + (if P (p + m) then 1 else 0)
theorem zsum_s {f : Nat → Int32} {p i : Nat} (h : p ≤ i) : zsum f p (i + 1 - p) = zsum f p (i - p) + f i := by
  rw [show i + 1 - p = (i - p) + 1 by omega, zsum, show p + (i - p) = i by omega]
theorem zcnt_s {P : Nat → Bool} {p i : Nat} (h : p ≤ i) : zcnt P p (i + 1 - p) = zcnt P p (i - p) + (if P i then 1 else 0) := by
  rw [show i + 1 - p = (i - p) + 1 by omega, zcnt, show p + (i - p) = i by omega]
theorem zcnt_le {P : Nat → Bool} {p : Nat} : ∀ m, zcnt P p m ≤ m
  | 0 => Nat.le_refl _
  | m + 1 => by have := zcnt_le (P := P) (p := p) m; unfold zcnt; split <;> omega
set_option maxRecDepth 100000 in
set_option maxHeartbeats 4000000 in
theorem c_X5_sum {g : zGT} {w : zW} {b n p q : Nat} {f : Nat → Int32} (h0 : zG0 g) (hL : Lv g w b f n) (hp : p ≤ q) (hq : q ≤ 200) : zCt g mX5_sum (zR 1 0) [.ref (za g b), .int (nI (p)), .int (nI (q))] w (fun o w' => o = .inl (some (.int (zsum f p (q - p)))) ∧ w' = w) := by
  have hb := hL.1
  refine zCt_of (by decide +kernel) h0 [(0, .ref (za g b)), (1, .int (nI (p))), (2, .int (nI (q)))] rfl (Nat.le_of_ble_eq_true rfl) ?_
  have loop : ∀ (m : Nat) (i : Nat) (s : Int32), q - i < m → (p ≤ i) → (i ≤ q) → (s = zsum f p (i - p)) → zTr g mX5_sum (zR 1 0) 0 0 5 [(0, .ref (za g b)), (1, .int (nI (p))), (2, .int (nI (q))), (3, .int (s)), (4, .int (nI (i)))] [] w (fun o w' => o = .inl (some (.int (zsum f p (q - p)))) ∧ w' = w) := by
    intro m
    induction m with
    | zero => intros; omega
    | succ m ih =>
      intro i s hm hpi hiq hs
      refine z_iload dX5_sum_5 rfl ?_
      refine z_iload_n dX5_sum_7 rfl ?_
      refine z_icmp_ge_n (a := i) (b := q) (tgt := 26) dX5_sum_8 (by decide) (by omega) (by omega) (fun h_8_1 => ?_) (fun h_8_1 => ?_)
      · refine z_iload_n dX5_sum_26 rfl ?_
        refine z_iret dX5_sum_27 rfl (by decide) (by decide) ?_
        exact ⟨by rw [hs, show i = q by omega], rfl⟩
      · refine z_iload_n dX5_sum_11 rfl ?_
        refine z_aload_n dX5_sum_12 rfl ?_
        refine z_iload dX5_sum_13 rfl ?_
        refine z_callE (As := [.int (nI (i))]) (rest := [.int (s)]) (b := b) (ci := 5) (v := some (.int (f (i)))) (R2 := zR 0 0) dX5_sum_15 kV_RX5_26 rfl ⟨⟨by decide, by decide⟩, by decide, by decide⟩ (by omega) hL.2.1 rfl rfl rfl (Nat.le_of_ble_eq_true rfl) rfl (c_X5_at (t := i) h0 hL (by omega)) ?_
        refine z_iadd dX5_sum_18 ?_
        refine z_istore_n (lv' := [(0, .ref (za g b)), (1, .int (nI (p))), (2, .int (nI (q))), (3, .int ((s) + (f (i)))), (4, .int (nI (i)))]) dX5_sum_19 (by decide) rfl ?_
        refine z_iinc_n (n := 1) (a := i) (lv' := [(0, .ref (za g b)), (1, .int (nI (p))), (2, .int (nI (q))), (3, .int ((s) + (f (i)))), (4, .int (nI (i + 1)))]) dX5_sum_20 rfl (by decide) rfl ?_
        refine z_goto (tgt := 5) dX5_sum_23 (by decide) ?_
        exact ih (i + 1) _ (by omega) (by omega) (by omega) (by rw [hs, zsum_s hpi])
  refine z_iconst (v := nI 0) dX5_sum_0 rfl ?_
  refine z_istore_n (lv' := [(0, .ref (za g b)), (1, .int (nI (p))), (2, .int (nI (q))), (3, .int (nI (0)))]) dX5_sum_1 (by decide) rfl ?_
  refine z_iload_n dX5_sum_2 rfl ?_
  refine z_istore (lv' := [(0, .ref (za g b)), (1, .int (nI (p))), (2, .int (nI (q))), (3, .int (nI (0))), (4, .int (nI (p)))]) dX5_sum_3 (by decide) rfl ?_
  exact loop (q - p + 1) p _ (by omega) (Nat.le_refl _) hp (by rw [Nat.sub_self]; rfl)
set_option maxRecDepth 100000 in
set_option maxHeartbeats 4000000 in
theorem c_X5_soundingTicks {g : zGT} {w : zW} {b n p q : Nat} {f : Nat → Int32} (h0 : zG0 g) (hL : Lv g w b f n) (hp : p ≤ q) (hq : q ≤ 200) : zCt g mX5_soundingTicks (zR 1 0) [.ref (za g b), .int (nI (p)), .int (nI (q))] w (fun o w' => o = .inl (some (.int (nI (zcnt (fun k => decide ((f k).toInt ≠ 0)) p (q - p))))) ∧ w' = w) := by
  have hb := hL.1
  refine zCt_of (by decide +kernel) h0 [(0, .ref (za g b)), (1, .int (nI (p))), (2, .int (nI (q)))] rfl (Nat.le_of_ble_eq_true rfl) ?_
  have loop : ∀ (m : Nat) (i : Nat) (s : Nat), q - i < m → (p ≤ i) → (i ≤ q) → (s = zcnt (fun k => decide ((f k).toInt ≠ 0)) p (i - p)) → zTr g mX5_soundingTicks (zR 1 0) 0 0 5 [(0, .ref (za g b)), (1, .int (nI (p))), (2, .int (nI (q))), (3, .int (nI (s))), (4, .int (nI (i)))] [] w (fun o w' => o = .inl (some (.int (nI (zcnt (fun k => decide ((f k).toInt ≠ 0)) p (q - p))))) ∧ w' = w) := by
    intro m
    induction m with
    | zero => intros; omega
    | succ m ih =>
      intro i s hm hpi hiq hs
      refine z_iload dX5_soundingTicks_5 rfl ?_
      refine z_iload_n dX5_soundingTicks_7 rfl ?_
      refine z_icmp_ge_n (a := i) (b := q) (tgt := 29) dX5_soundingTicks_8 (by decide) (by omega) (by omega) (fun h_8_1 => ?_) (fun h_8_1 => ?_)
      · refine z_iload_n dX5_soundingTicks_29 rfl ?_
        refine z_iret dX5_soundingTicks_30 rfl (by decide) (by decide) ?_
        exact ⟨by rw [hs, show i = q by omega], rfl⟩
      · refine z_aload_n dX5_soundingTicks_11 rfl ?_
        refine z_iload dX5_soundingTicks_12 rfl ?_
        refine z_callE (As := [.int (nI (i))]) (rest := []) (b := b) (ci := 5) (v := some (.int (f (i)))) (R2 := zR 0 0) dX5_soundingTicks_14 kV_RX5_26 rfl ⟨⟨by decide, by decide⟩, by decide, by decide⟩ (by omega) hL.2.1 rfl rfl rfl (Nat.le_of_ble_eq_true rfl) rfl (c_X5_at (t := i) h0 hL (by omega)) ?_
        refine z_if_eq_z (tgt := 23) dX5_soundingTicks_17 (by decide) (fun h_17_3 => ?_) (fun h_17_3 => ?_)
        · refine z_iinc_n (n := 1) (a := i) (lv' := [(0, .ref (za g b)), (1, .int (nI (p))), (2, .int (nI (q))), (3, .int (nI (s))), (4, .int (nI (i + 1)))]) dX5_soundingTicks_23 rfl (by decide) rfl ?_
          refine z_goto (tgt := 5) dX5_soundingTicks_26 (by decide) ?_
          exact ih (i + 1) _ (by omega) (by omega) (by omega) (by rw [hs, zcnt_s hpi, if_neg (by simpa using h_17_3), Nat.add_zero])
        · refine z_iinc_n (n := 1) (a := s) (lv' := [(0, .ref (za g b)), (1, .int (nI (p))), (2, .int (nI (q))), (3, .int (nI (s + 1))), (4, .int (nI (i)))]) dX5_soundingTicks_20 rfl (by decide) rfl ?_
          refine z_iinc_n (n := 1) (a := i) (lv' := [(0, .ref (za g b)), (1, .int (nI (p))), (2, .int (nI (q))), (3, .int (nI (s + 1))), (4, .int (nI (i + 1)))]) dX5_soundingTicks_23 rfl (by decide) rfl ?_
          refine z_goto (tgt := 5) dX5_soundingTicks_26 (by decide) ?_
          exact ih (i + 1) _ (by omega) (by omega) (by omega) (by rw [hs, zcnt_s hpi, if_pos (by simpa using h_17_3)])
  refine z_iconst (v := nI 0) dX5_soundingTicks_0 rfl ?_
  refine z_istore_n (lv' := [(0, .ref (za g b)), (1, .int (nI (p))), (2, .int (nI (q))), (3, .int (nI (0)))]) dX5_soundingTicks_1 (by decide) rfl ?_
  refine z_iload_n dX5_soundingTicks_2 rfl ?_
  refine z_istore (lv' := [(0, .ref (za g b)), (1, .int (nI (p))), (2, .int (nI (q))), (3, .int (nI (0))), (4, .int (nI (p)))]) dX5_soundingTicks_3 (by decide) rfl ?_
  exact loop (q - p + 1) p _ (by omega) (Nat.le_refl _) hp (by rw [Nat.sub_self]; rfl)
set_option maxRecDepth 100000 in
set_option maxHeartbeats 4000000 in
theorem c_X5_countOf {g : zGT} {w : zW} {b n : Nat} {f : Nat → Int32} {x : Int32} (h0 : zG0 g) (hL : Lv g w b f n) : zCt g mX5_countOf (zR 1 0) [.ref (za g b), .int (x)] w (fun o w' => o = .inl (some (.int (nI (zcnt (fun k => decide ((f k).toInt = x.toInt)) 0 n)))) ∧ w' = w) := by
  have hb := hL.1
  have hn := hL.2.2.2
  refine zCt_of (by decide +kernel) h0 [(0, .ref (za g b)), (1, .int (x))] rfl (Nat.le_of_ble_eq_true rfl) ?_
  have loop : ∀ (m : Nat) (i : Nat) (s : Nat), n - i < m → (i ≤ n) → (s = zcnt (fun k => decide ((f k).toInt = x.toInt)) 0 i) → zTr g mX5_countOf (zR 1 0) 0 0 4 [(0, .ref (za g b)), (1, .int (x)), (2, .int (nI (s))), (3, .int (nI (i)))] [] w (fun o w' => o = .inl (some (.int (nI (zcnt (fun k => decide ((f k).toInt = x.toInt)) 0 n)))) ∧ w' = w) := by
    intro m
    induction m with
    | zero => intros; omega
    | succ m ih =>
      intro i s hm hin hs
      refine z_iload_n dX5_countOf_4 rfl ?_
      refine z_aload_n dX5_countOf_5 rfl ?_
      refine z_getf (j := b) dX5_countOf_6 kF_RX5_15 rfl (by omega) hL.2.1 rfl ?_
      refine z_icmp_ge_n (a := i) (b := n) (tgt := 30) dX5_countOf_9 (by decide) (by omega) (by omega) (fun h_9_1 => ?_) (fun h_9_1 => ?_)
      · refine z_iload_n dX5_countOf_30 rfl ?_
        refine z_iret dX5_countOf_31 rfl (by decide) (by decide) ?_
        exact ⟨by rw [hs, show i = n by omega], rfl⟩
      · refine z_aload_n dX5_countOf_12 rfl ?_
        refine z_iload_n dX5_countOf_13 rfl ?_
        refine z_callE (As := [.int (nI (i))]) (rest := []) (b := b) (ci := 5) (v := some (.int (f (i)))) (R2 := zR 0 0) dX5_countOf_14 kV_RX5_26 rfl ⟨⟨by decide, by decide⟩, by decide, by decide⟩ (by omega) hL.2.1 rfl rfl rfl (Nat.le_of_ble_eq_true rfl) rfl (c_X5_at (t := i) h0 hL (by omega)) ?_
        refine z_iload_n dX5_countOf_17 rfl ?_
        refine z_icmp_ne_z (tgt := 24) dX5_countOf_18 (by decide) (fun h_18_3 => ?_) (fun h_18_3 => ?_)
        · refine z_iinc_n (n := 1) (a := i) (lv' := [(0, .ref (za g b)), (1, .int (x)), (2, .int (nI (s))), (3, .int (nI (i + 1)))]) dX5_countOf_24 rfl (by decide) rfl ?_
          refine z_goto (tgt := 4) dX5_countOf_27 (by decide) ?_
          exact ih (i + 1) _ (by omega) (by omega) (by rw [hs, zcnt, Nat.zero_add, if_neg (by simpa using h_18_3), Nat.add_zero])
        · refine z_iinc_n (n := 1) (a := s) (lv' := [(0, .ref (za g b)), (1, .int (x)), (2, .int (nI (s + 1))), (3, .int (nI (i)))]) dX5_countOf_21 rfl (by decide) rfl ?_
          refine z_iinc_n (n := 1) (a := i) (lv' := [(0, .ref (za g b)), (1, .int (x)), (2, .int (nI (s + 1))), (3, .int (nI (i + 1)))]) dX5_countOf_24 rfl (by decide) rfl ?_
          refine z_goto (tgt := 4) dX5_countOf_27 (by decide) ?_
          exact ih (i + 1) _ (by omega) (by omega) (by rw [hs, zcnt, Nat.zero_add, if_pos (by simpa using h_18_3)])
  refine z_iconst (v := nI 0) dX5_countOf_0 rfl ?_
  refine z_istore_n (lv' := [(0, .ref (za g b)), (1, .int (x)), (2, .int (nI (0)))]) dX5_countOf_1 (by decide) rfl ?_
  refine z_iconst (v := nI 0) dX5_countOf_2 rfl ?_
  refine z_istore_n (lv' := [(0, .ref (za g b)), (1, .int (x)), (2, .int (nI (0))), (3, .int (nI (0)))]) dX5_countOf_3 (by decide) rfl ?_
  exact loop (n + 1) 0 _ (by omega) (Nat.zero_le _) rfl
set_option maxRecDepth 100000 in
set_option maxHeartbeats 4000000 in
theorem c_X5_isSame {g : zGT} {w : zW} {b n p q m9 : Nat} {f : Nat → Int32} (h0 : zG0 g) (hL : Lv g w b f n) (hp : p + m9 ≤ 200) (hq : q + m9 ≤ 200) : zCt g mX5_isSame (zR 1 0) [.ref (za g b), .int (nI (p)), .int (nI (q)), .int (nI (m9))] w (fun o w' => o = .inl (some (.int (if ∀ k, k < m9 → (f (p + k)).toInt = (f (q + k)).toInt then 1 else 0))) ∧ w' = w) := by
  have hb := hL.1
  refine zCt_of (by decide +kernel) h0 [(0, .ref (za g b)), (1, .int (nI (p))), (2, .int (nI (q))), (3, .int (nI (m9)))] rfl (Nat.le_of_ble_eq_true rfl) ?_
  have loop : ∀ (m : Nat) (i : Nat), m9 - i < m → (i ≤ m9) → (∀ k, k < i → (f (p + k)).toInt = (f (q + k)).toInt) → zTr g mX5_isSame (zR 1 0) 0 0 3 [(0, .ref (za g b)), (1, .int (nI (p))), (2, .int (nI (q))), (3, .int (nI (m9))), (4, .int (nI (i)))] [] w (fun o w' => o = .inl (some (.int (if ∀ k, k < m9 → (f (p + k)).toInt = (f (q + k)).toInt then 1 else 0))) ∧ w' = w) := by
    intro m
    induction m with
    | zero => intros; omega
    | succ m ih =>
      intro i hm him hs
      refine z_iload dX5_isSame_3 rfl ?_
      refine z_iload_n dX5_isSame_5 rfl ?_
      refine z_icmp_ge_n (a := i) (b := m9) (tgt := 36) dX5_isSame_6 (by decide) (by omega) (by omega) (fun h_6_1 => ?_) (fun h_6_1 => ?_)
      · refine z_iconst (v := nI 1) dX5_isSame_36 rfl ?_
        refine z_zret (ty := .boolean) dX5_isSame_37 rfl (by decide) (by decide) rfl ?_
        exact ⟨by rw [if_pos (fun k hk => hs k (by omega))]; rfl, rfl⟩
      · refine z_aload_n dX5_isSame_9 rfl ?_
        refine z_iload_n dX5_isSame_10 rfl ?_
        refine z_iload dX5_isSame_11 rfl ?_
        refine z_iadd_n (a := p) (b := i) dX5_isSame_13 ?_
        refine z_callE (As := [.int (nI ((p) + (i)))]) (rest := []) (b := b) (ci := 5) (v := some (.int (f ((p) + (i))))) (R2 := zR 0 0) dX5_isSame_14 kV_RX5_26 rfl ⟨⟨by decide, by decide⟩, by decide, by decide⟩ (by omega) hL.2.1 rfl rfl rfl (Nat.le_of_ble_eq_true rfl) rfl (c_X5_at (t := (p) + (i)) h0 hL (by omega)) ?_
        refine z_aload_n dX5_isSame_17 rfl ?_
        refine z_iload_n dX5_isSame_18 rfl ?_
        refine z_iload dX5_isSame_19 rfl ?_
        refine z_iadd_n (a := q) (b := i) dX5_isSame_21 ?_
        refine z_callE (As := [.int (nI ((q) + (i)))]) (rest := [.int (f ((p) + (i)))]) (b := b) (ci := 5) (v := some (.int (f ((q) + (i))))) (R2 := zR 0 0) dX5_isSame_22 kV_RX5_26 rfl ⟨⟨by decide, by decide⟩, by decide, by decide⟩ (by omega) hL.2.1 rfl rfl rfl (Nat.le_of_ble_eq_true rfl) rfl (c_X5_at (t := (q) + (i)) h0 hL (by omega)) ?_
        refine z_icmp_eq_z (tgt := 30) dX5_isSame_25 (by decide) (fun h_25_4 => ?_) (fun h_25_4 => ?_)
        · refine z_iinc_n (n := 1) (a := i) (lv' := [(0, .ref (za g b)), (1, .int (nI (p))), (2, .int (nI (q))), (3, .int (nI (m9))), (4, .int (nI (i + 1)))]) dX5_isSame_30 rfl (by decide) rfl ?_
          refine z_goto (tgt := 3) dX5_isSame_33 (by decide) ?_
          refine ih (i + 1) (by omega) (by omega) (fun k hk => ?_)
          by_cases e : k = i
          · subst e; exact h_25_4
          · exact hs k (by omega)
        · refine z_iconst (v := nI 0) dX5_isSame_28 rfl ?_
          refine z_zret (ty := .boolean) dX5_isSame_29 rfl (by decide) (by decide) rfl ?_
          exact ⟨by rw [if_neg (fun z => h_25_4 (z i (by omega)))]; rfl, rfl⟩
  refine z_iconst (v := nI 0) dX5_isSame_0 rfl ?_
  refine z_istore (lv' := [(0, .ref (za g b)), (1, .int (nI (p))), (2, .int (nI (q))), (3, .int (nI (m9))), (4, .int (nI (0)))]) dX5_isSame_1 (by decide) rfl ?_
  exact loop (m9 + 1) 0 (by omega) (Nat.zero_le _) (fun k hk => absurd hk (Nat.not_lt_zero k))
