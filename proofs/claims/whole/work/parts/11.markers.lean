/-! module Markers -/
def Mk (g : zGT) (w : zW) (b : Nat) (L : List Nat) : Prop := b + 1 < zn g ∧ w b = zO 6 [.ref (za g (b + 1)), .int (nI L.length)] ∧ (∃ f, w (b + 1) = zI g 6 f ∧ ∀ k, k < L.length → f k = nI (L.getD k 0)) ∧ L.length ≤ 6 ∧ ∀ x ∈ L, x ≤ 400
theorem Mk.fr {g : zGT} {w w1 : zW} {b lo hi : Nat} {L : List Nat} (h : Mk g w b L) (hf : zFr w w1 lo hi) (hd : b + 1 < lo ∨ hi ≤ b) : Mk g w1 b L := ⟨h.1, (hf b (by omega)).trans h.2.1, by rw [hf (b + 1) (by omega)]; exact h.2.2.1, h.2.2.2⟩
theorem gD_lt {L : List Nat} {k : Nat} (h : k < L.length) : L.getD k 0 = L[k] := by simp [List.getD, h]
theorem gD_ge {L : List Nat} {k : Nat} (h : L.length ≤ k) : L.getD k 0 = 0 := by simp [List.getD, h]
theorem getD_le {L : List Nat} {c k : Nat} (h : ∀ x ∈ L, x ≤ c) : L.getD k 0 ≤ c := by
  rcases Nat.lt_or_ge k L.length with q | q
  · rw [gD_lt q]; exact h _ (List.getElem_mem q)
  · rw [gD_ge q]; exact Nat.zero_le _
/-- the row and the number laid anew -/
theorem Mk.set {g : zGT} {w w1 : zW} {b : Nat} {L L' : List Nat} {f : Nat → Int32} (h : Mk g w b L) (e1 : w1 b = zO 6 [.ref (za g (b + 1)), .int (nI L'.length)]) (e2 : w1 (b + 1) = zI g 6 f) (hf : ∀ k, k < L'.length → f k = nI (L'.getD k 0)) (hl : L'.length ≤ 6) (hx : ∀ x ∈ L', x ≤ 400) : Mk g w1 b L' := ⟨h.1, e1, ⟨f, e2, hf⟩, hl, hx⟩
set_option maxRecDepth 100000 in
set_option maxHeartbeats 4000000 in
theorem c_X6_count {g : zGT} {w : zW} {b : Nat} {L : List Nat} (h0 : zG0 g) (hL : Mk g w b L) : zCt g mX6_count (zR 0 0) [.ref (za g b)] w (fun o w' => o = .inl (some (.int (nI L.length))) ∧ w' = w) := by
  obtain ⟨hb, hw, ⟨f, hr, hfk⟩, hn, hx⟩ := id hL
  refine zCt_of (by decide +kernel) h0 [(0, .ref (za g b))] rfl (Nat.le_of_ble_eq_true rfl) ?_
  refine z_aload_n dX6_count_0 rfl ?_
  refine z_getf (j := b) dX6_count_1 kF_RX6_15 rfl (by omega) hw rfl ?_
  refine z_iret dX6_count_4 rfl (by decide) (by decide) ?_
  exact ⟨rfl, rfl⟩
set_option maxRecDepth 100000 in
set_option maxHeartbeats 4000000 in
theorem c_X6_isFull {g : zGT} {w : zW} {b : Nat} {L : List Nat} (h0 : zG0 g) (hL : Mk g w b L) : zCt g mX6_isFull (zR 0 0) [.ref (za g b)] w (fun o w' => o = .inl (some (.int (if 6 ≤ L.length then 1 else 0))) ∧ w' = w) := by
  obtain ⟨hb, hw, ⟨f, hr, hfk⟩, hn, hx⟩ := id hL
  refine zCt_of (by decide +kernel) h0 [(0, .ref (za g b))] rfl (Nat.le_of_ble_eq_true rfl) ?_
  refine z_aload_n dX6_isFull_0 rfl ?_
  refine z_getf (j := b) dX6_isFull_1 kF_RX6_15 rfl (by omega) hw rfl ?_
  refine z_aload_n dX6_isFull_4 rfl ?_
  refine z_getf (j := b) dX6_isFull_5 kF_RX6_9 rfl (by omega) hw rfl ?_
  refine z_alen_n (j := b + 1) (N := 6) (f := f) dX6_isFull_8 hb hr ?_
  refine z_icmp_lt_n (a := L.length) (b := 6) (tgt := 16) dX6_isFull_9 (by decide) (by omega) (by omega) (fun h_9_1 => ?_) (fun h_9_1 => ?_)
  · refine z_iconst (v := nI 0) dX6_isFull_16 rfl ?_
    refine z_zret (ty := .boolean) dX6_isFull_17 rfl (by decide) (by decide) rfl ?_
    first | exact ⟨by rw [if_pos (by omega)]; rfl, rfl⟩ | exact ⟨by rw [if_neg (by omega)]; rfl, rfl⟩
  · refine z_iconst (v := nI 1) dX6_isFull_12 rfl ?_
    refine z_goto (tgt := 17) dX6_isFull_13 (by decide) ?_
    refine z_zret (ty := .boolean) dX6_isFull_17 rfl (by decide) (by decide) rfl ?_
    first | exact ⟨by rw [if_pos (by omega)]; rfl, rfl⟩ | exact ⟨by rw [if_neg (by omega)]; rfl, rfl⟩
set_option maxRecDepth 100000 in
set_option maxHeartbeats 4000000 in
theorem c_X6_at {g : zGT} {w : zW} {b t : Nat} {L : List Nat} (h0 : zG0 g) (hL : Mk g w b L) (ht : t < L.length) : zCt g mX6_at (zR 0 0) [.ref (za g b), .int (nI (t))] w (fun o w' => o = .inl (some (.int (nI (L.getD t 0)))) ∧ w' = w) := by
  obtain ⟨hb, hw, ⟨f, hr, hfk⟩, hn, hx⟩ := id hL
  refine zCt_of (by decide +kernel) h0 [(0, .ref (za g b)), (1, .int (nI (t)))] rfl (Nat.le_of_ble_eq_true rfl) ?_
  refine z_iload_n dX6_at_0 rfl ?_
  refine z_if_lt_n (a := t) dX6_at_1 22 (by decide) (by omega) ?_
  refine z_iload_n dX6_at_4 rfl ?_
  refine z_aload_n dX6_at_5 rfl ?_
  refine z_getf (j := b) dX6_at_6 kF_RX6_9 rfl (by omega) hw rfl ?_
  refine z_alen_n (j := b + 1) (N := 6) (f := f) dX6_at_9 hb hr ?_
  refine z_icmp_ge_n (a := t) (b := 6) (tgt := 22) dX6_at_10 (by decide) (by omega) (by omega) (fun h_10_2 => ?_) (fun h_10_2 => ?_)
  · exact absurd h_10_2 (by omega)
  · refine z_aload_n dX6_at_13 rfl ?_
    refine z_getf (j := b) dX6_at_14 kF_RX6_9 rfl (by omega) hw rfl ?_
    refine z_iload_n dX6_at_17 rfl ?_
    refine z_iald_n (j := b + 1) (N := 6) (a := t) (f := f) dX6_at_18 hb hr (by omega) (by omega) ?_
    refine z_goto (tgt := 23) dX6_at_19 (by decide) ?_
    refine z_iret dX6_at_23 rfl (by decide) (by decide) ?_
    exact ⟨by rw [hfk t ht], rfl⟩
theorem getD_set {L : List Nat} {t x k : Nat} (ht : t < L.length) : (L.set t x).getD k 0 = if k = t then x else L.getD k 0 := by
  by_cases e : k = t
  · subst e; simp [List.getD, ht]
  · simp [List.getD, List.getElem?_set, e, Ne.symm e]
set_option maxRecDepth 100000 in
set_option maxHeartbeats 4000000 in
theorem c_X6_put {g : zGT} {w : zW} {b t x : Nat} {L : List Nat} (h0 : zG0 g) (hL : Mk g w b L) (ht : t < L.length) (hy0 : x ≤ 400) : zCt g mX6_put (zR 0 0) [.ref (za g b), .int (nI (t)), .int (nI (x))] w (fun o w' => o = .inl none ∧ zFr w w' b (b + 2) ∧ Mk g w' b (L.set t x)) := by
  obtain ⟨hb, hw, ⟨f, hr, hfk⟩, hn, hx⟩ := id hL
  refine zCt_of (by decide +kernel) h0 [(0, .ref (za g b)), (1, .int (nI (t))), (2, .int (nI (x)))] rfl (Nat.le_of_ble_eq_true rfl) ?_
  refine z_iload_n dX6_put_0 rfl ?_
  refine z_if_lt_n (a := t) dX6_put_1 20 (by decide) (by omega) ?_
  refine z_iload_n dX6_put_4 rfl ?_
  refine z_aload_n dX6_put_5 rfl ?_
  refine z_getf (j := b) dX6_put_6 kF_RX6_9 rfl (by omega) hw rfl ?_
  refine z_alen_n (j := b + 1) (N := 6) (f := f) dX6_put_9 hb hr ?_
  refine z_icmp_ge_n (a := t) (b := 6) (tgt := 20) dX6_put_10 (by decide) (by omega) (by omega) (fun h_10_2 => ?_) (fun h_10_2 => ?_)
  · exact absurd h_10_2 (by omega)
  · refine z_aload_n dX6_put_13 rfl ?_
    refine z_getf (j := b) dX6_put_14 kF_RX6_9 rfl (by omega) hw rfl ?_
    refine z_iload_n dX6_put_17 rfl ?_
    refine z_iload_n dX6_put_18 rfl ?_
    refine z_iast_n (j := b + 1) (N := 6) (a := t) (f := f) dX6_put_19 hb hr (by omega) (by omega) ?_
    obtain ⟨w3, ew4⟩ : ∃ wz : zW, wz = va_up w (b + 1) (zI g 6 (upd (f) (t) ((nI (x))))) := ⟨_, rfl⟩
    refine z_weq (w' := w3) ew4.symm ?_
    have hw5 : w3 (b) = zO 6 [.ref (za g (b + 1)), .int (nI (L.length))] := by rw [ew4, zup_n (by omega)]; exact hw
    have hw6 : w3 (b + 1) = zI g 6 (upd (f) (t) ((nI (x)))) := by rw [ew4, zup_s]
    refine z_vret dX6_put_20 rfl (by decide) (by decide) ?_
    refine ⟨rfl, by rw [ew4]; exact zFr.up (by omega), hL.set (by rw [List.length_set]; exact hw5) hw6 (fun k hk => ?_) (by rw [List.length_set]; exact hn) (fun y hy => ?_)⟩
    · rw [List.length_set] at hk
      rw [getD_set ht]
      simp only [upd]
      split
      · rfl
      · exact hfk k hk
    · rcases List.mem_or_eq_of_mem_set hy with h | h
      · exact hx y h
      · rw [h]; exact hy0
set_option maxRecDepth 100000 in
set_option maxHeartbeats 4000000 in
theorem c_X6_put_new {g : zGT} {w : zW} {b x : Nat} {L : List Nat} (h0 : zG0 g) (hL : Mk g w b L) (ht : L.length < 6) : zCt g mX6_put (zR 0 0) [.ref (za g b), .int (nI (L.length)), .int (nI (x))] w (fun o w' => o = .inl none ∧ zFr w w' b (b + 2) ∧ w' b = zO 6 [.ref (za g (b + 1)), .int (nI L.length)] ∧ ∃ f', w' (b + 1) = zI g 6 f' ∧ (∀ k, k < L.length → f' k = nI (L.getD k 0)) ∧ f' L.length = nI x) := by
  obtain ⟨hb, hw, ⟨f, hr, hfk⟩, hn, hx⟩ := id hL
  refine zCt_of (by decide +kernel) h0 [(0, .ref (za g b)), (1, .int (nI (L.length))), (2, .int (nI (x)))] rfl (Nat.le_of_ble_eq_true rfl) ?_
  refine z_iload_n dX6_put_0 rfl ?_
  refine z_if_lt_n (a := L.length) dX6_put_1 20 (by decide) (by omega) ?_
  refine z_iload_n dX6_put_4 rfl ?_
  refine z_aload_n dX6_put_5 rfl ?_
  refine z_getf (j := b) dX6_put_6 kF_RX6_9 rfl (by omega) hw rfl ?_
  refine z_alen_n (j := b + 1) (N := 6) (f := f) dX6_put_9 hb hr ?_
  refine z_icmp_ge_n (a := L.length) (b := 6) (tgt := 20) dX6_put_10 (by decide) (by omega) (by omega) (fun h_10_2 => ?_) (fun h_10_2 => ?_)
  · exact absurd h_10_2 (by omega)
  · refine z_aload_n dX6_put_13 rfl ?_
    refine z_getf (j := b) dX6_put_14 kF_RX6_9 rfl (by omega) hw rfl ?_
    refine z_iload_n dX6_put_17 rfl ?_
    refine z_iload_n dX6_put_18 rfl ?_
    refine z_iast_n (j := b + 1) (N := 6) (a := L.length) (f := f) dX6_put_19 hb hr (by omega) (by omega) ?_
    obtain ⟨w3, ew4⟩ : ∃ wz : zW, wz = va_up w (b + 1) (zI g 6 (upd (f) (L.length) ((nI (x))))) := ⟨_, rfl⟩
    refine z_weq (w' := w3) ew4.symm ?_
    have hw5 : w3 (b) = zO 6 [.ref (za g (b + 1)), .int (nI (L.length))] := by rw [ew4, zup_n (by omega)]; exact hw
    have hw6 : w3 (b + 1) = zI g 6 (upd (f) (L.length) ((nI (x)))) := by rw [ew4, zup_s]
    refine z_vret dX6_put_20 rfl (by decide) (by decide) ?_
    exact ⟨rfl, by rw [ew4]; exact zFr.up (by omega), hw5, _, hw6, fun k hk => by simp only [upd]; rw [if_neg (by omega)]; exact hfk k hk, by simp [upd]⟩
theorem getD_app {L : List Nat} {x k : Nat} (h : k < L.length) : (L ++ [x]).getD k 0 = L.getD k 0 := by
  simp [List.getD, List.getElem?_append_left h]
theorem getD_last {L : List Nat} {x : Nat} : (L ++ [x]).getD L.length 0 = x := by simp [List.getD]
set_option maxRecDepth 100000 in
set_option maxHeartbeats 4000000 in
theorem c_X6_append {g : zGT} {w : zW} {b x : Nat} {L : List Nat} (h0 : zG0 g) (hL : Mk g w b L) (hlt : L.length < 6) (hx0 : x ≤ 400) : zCt g mX6_append (zR 1 0) [.ref (za g b), .int (nI (x))] w (fun o w' => o = .inl none ∧ zFr w w' b (b + 2) ∧ Mk g w' b (L ++ [x])) := by
  obtain ⟨hb, hw, ⟨f, hr, hfk⟩, hn, hx⟩ := id hL
  refine zCt_of (by decide +kernel) h0 [(0, .ref (za g b)), (1, .int (nI (x)))] rfl (Nat.le_of_ble_eq_true rfl) ?_
  refine z_aload_n dX6_append_0 rfl ?_
  refine z_callE (As := []) (rest := []) (b := b) (ci := 6) (v := some (.int (nI (0)))) (R2 := zR 0 0) dX6_append_1 kV_RX6_19 rfl ⟨⟨by decide, by decide⟩, by decide, by decide⟩ (by omega) hw rfl rfl rfl (Nat.le_of_ble_eq_true rfl) rfl (by have h := c_X6_isFull h0 hL; rw [if_neg (by omega)] at h; exact h) ?_
  refine z_if_ne_n (a := 0) (tgt := 26) dX6_append_4 (by decide) (by omega) (fun h_4_2 => ?_) (fun h_4_2 => ?_)
  · exact absurd h_4_2 (by decide)
  · refine z_aload_n dX6_append_7 rfl ?_
    refine z_aload_n dX6_append_8 rfl ?_
    refine z_getf (j := b) dX6_append_9 kF_RX6_15 rfl (by omega) hw rfl ?_
    refine z_iload_n dX6_append_12 rfl ?_
    refine z_callR (As := [.int (nI (L.length)), .int (nI (x))]) (rest := []) (b := b) (ci := 6) (v := none) (R2 := zR 0 0) dX6_append_13 kV_RX6_23 rfl ⟨⟨by decide, by decide⟩, by decide, by decide⟩ (by omega) hw rfl rfl rfl (Nat.le_of_ble_eq_true rfl) rfl (c_X6_put_new (x := x) h0 hL hlt) (fun w3 pw3 => ?_)
    obtain ⟨hf1, e1, f2, e2, e3, e4⟩ := pw3
    refine z_aload_n dX6_append_16 rfl ?_
    refine z_dup dX6_append_17 rfl ?_
    refine z_getf (j := b) dX6_append_18 kF_RX6_15 rfl (by omega) e1 rfl ?_
    refine z_iconst (v := nI 1) dX6_append_21 rfl ?_
    refine z_iadd_n (a := L.length) (b := 1) dX6_append_22 ?_
    refine z_putf (j := b) dX6_append_23 kF_RX6_15 zt_6_1 rfl (by omega) e1 rfl rfl (Nat.le_of_ble_eq_true rfl) ?_
    obtain ⟨w4, ew5⟩ : ∃ wz : zW, wz = va_up w3 (b) (zO 6 [.ref (za g (b + 1)), .int (nI ((L.length) + (1)))]) := ⟨_, rfl⟩
    refine z_weq (w' := w4) ew5.symm ?_
    have hw6 : w4 (b) = zO 6 [.ref (za g (b + 1)), .int (nI ((L.length) + (1)))] := by rw [ew5, zup_s]
    have hw7 : w4 (b + 1) = zI g 6 (f2) := by rw [ew5, zup_n (by omega)]; exact e2
    refine z_vret dX6_append_26 rfl (by decide) (by decide) ?_
    refine ⟨rfl, hf1.tr (by rw [ew5]; exact zFr.up (by omega)), hL.set (f := f2) (by rw [List.length_append]; exact hw6) hw7 (fun k hk => ?_) (by rw [List.length_append]; show L.length + 1 ≤ 6; omega) (fun y hy => ?_)⟩
    · rw [List.length_append] at hk
      replace hk : k < L.length + 1 := hk
      rcases Nat.lt_or_ge k L.length with q | q
      · rw [getD_app q]; exact e3 k q
      · rw [show k = L.length by omega, getD_last]; exact e4
    · rcases List.mem_append.mp hy with h | h
      · exact hx y h
      · rw [List.mem_singleton.mp h]; exact hx0
set_option maxRecDepth 100000 in
set_option maxHeartbeats 4000000 in
theorem c_X6_clear {g : zGT} {w : zW} {b : Nat} {L : List Nat} (h0 : zG0 g) (hL : Mk g w b L) : zCt g mX6_clear (zR 0 0) [.ref (za g b)] w (fun o w' => o = .inl none ∧ zFr w w' b (b + 2) ∧ Mk g w' b []) := by
  obtain ⟨hb, hw, ⟨f, hr, hfk⟩, hn, hx⟩ := id hL
  refine zCt_of (by decide +kernel) h0 [(0, .ref (za g b))] rfl (Nat.le_of_ble_eq_true rfl) ?_
  refine z_aload_n dX6_clear_0 rfl ?_
  refine z_iconst (v := nI 0) dX6_clear_1 rfl ?_
  refine z_putf (j := b) dX6_clear_2 kF_RX6_15 zt_6_1 rfl (by omega) hw rfl rfl (Nat.le_of_ble_eq_true rfl) ?_
  obtain ⟨w1, ew2⟩ : ∃ wz : zW, wz = va_up w (b) (zO 6 [.ref (za g (b + 1)), .int (nI (0))]) := ⟨_, rfl⟩
  refine z_weq (w' := w1) ew2.symm ?_
  have hw3 : w1 (b) = zO 6 [.ref (za g (b + 1)), .int (nI (0))] := by rw [ew2, zup_s]
  have hw4 : w1 (b + 1) = zI g 6 (f) := by rw [ew2, zup_n (by omega)]; exact hr
  refine z_vret dX6_clear_5 rfl (by decide) (by decide) ?_
  exact ⟨rfl, by rw [ew2]; exact zFr.up (by omega), hL.set hw3 hw4 (fun k hk => absurd hk (Nat.not_lt_zero k)) (Nat.zero_le _) (fun y hy => nomatch hy)⟩
set_option maxRecDepth 100000 in
set_option maxHeartbeats 4000000 in
theorem c_X6_clear_raw {g : zGT} {w : zW} {b n : Nat} {f : Nat → Int32} (h0 : zG0 g) (hb : b + 1 < zn g) (hw : w b = zO 6 [.ref (za g (b + 1)), .int (nI n)]) (hr : w (b + 1) = zI g 6 f) : zCt g mX6_clear (zR 0 0) [.ref (za g b)] w (fun o w' => o = .inl none ∧ zFr w w' b (b + 2) ∧ w' b = zO 6 [.ref (za g (b + 1)), .int (nI 0)] ∧ w' (b + 1) = zI g 6 f) := by
  refine zCt_of (by decide +kernel) h0 [(0, .ref (za g b))] rfl (Nat.le_of_ble_eq_true rfl) ?_
  refine z_aload_n dX6_clear_0 rfl ?_
  refine z_iconst (v := nI 0) dX6_clear_1 rfl ?_
  refine z_putf (j := b) dX6_clear_2 kF_RX6_15 zt_6_1 rfl (by omega) hw rfl rfl (Nat.le_of_ble_eq_true rfl) ?_
  obtain ⟨w1, ew2⟩ : ∃ wz : zW, wz = va_up w (b) (zO 6 [.ref (za g (b + 1)), .int (nI (0))]) := ⟨_, rfl⟩
  refine z_weq (w' := w1) ew2.symm ?_
  have hw3 : w1 (b) = zO 6 [.ref (za g (b + 1)), .int (nI (0))] := by rw [ew2, zup_s]
  have hw4 : w1 (b + 1) = zI g 6 (f) := by rw [ew2, zup_n (by omega)]; exact hr
  refine z_vret dX6_clear_5 rfl (by decide) (by decide) ?_
  exact ⟨rfl, by rw [ew2]; exact zFr.up (by omega), hw3, hw4⟩
/-- the first place of a number in a list, from place i on -/
def lidx (P : Nat → Bool) : List Nat → Nat → Int
  | [], _ => -1
  | x :: r, i => if P x then i else lidx P r (i + 1)
theorem lidx_at (P : Nat → Bool) (L : List Nat) : ∀ (i : Nat), i ≤ L.length → (∀ k, k < i → P (L.getD k 0) = false) → lidx P L 0 = lidx P (L.drop i) i
  | 0, _, _ => rfl
  | i + 1, hi, h => by
    rw [lidx_at P L i (by omega) (fun k hk => h k (by omega)), List.drop_eq_getElem_cons (show i < L.length by omega), lidx, if_neg]
    have := h i (by omega)
    rw [gD_lt (show i < L.length by omega)] at this
    simp [this]
theorem lidx_hit {P : Nat → Bool} {L : List Nat} {i : Nat} (hi : i < L.length) (h : ∀ k, k < i → P (L.getD k 0) = false) (h2 : P (L.getD i 0) = true) : lidx P L 0 = i := by
  rw [lidx_at P L i (by omega) h, List.drop_eq_getElem_cons hi, lidx, if_pos]
  rw [gD_lt hi] at h2
  exact h2
theorem lidx_no {P : Nat → Bool} {L : List Nat} (h : ∀ k, k < L.length → P (L.getD k 0) = false) : lidx P L 0 = -1 := by
  rw [lidx_at P L L.length (Nat.le_refl _) h, List.drop_length]; rfl
theorem lidx_cases (P : Nat → Bool) (L : List Nat) : (lidx P L 0 = -1 ∧ ∀ k, k < L.length → P (L.getD k 0) = false) ∨ ∃ i, i < L.length ∧ lidx P L 0 = (i : Int) ∧ P (L.getD i 0) = true ∧ ∀ k, k < i → P (L.getD k 0) = false := by
  by_cases h : ∃ i, i < L.length ∧ P (L.getD i 0) = true
  · obtain ⟨i, ⟨h1, h2⟩, h3⟩ := pk_least _ h
    have h4 : ∀ k, k < i → P (L.getD k 0) = false := fun k hk => by
      cases e : P (L.getD k 0)
      · rfl
      · exact absurd ⟨by omega, e⟩ (h3 k hk)
    exact Or.inr ⟨i, h1, lidx_hit h1 h4 h2, h2, h4⟩
  · have h4 : ∀ k, k < L.length → P (L.getD k 0) = false := fun k hk => by
      cases e : P (L.getD k 0)
      · rfl
      · exact absurd ⟨k, hk, e⟩ h
    exact Or.inl ⟨lidx_no h4, h4⟩
set_option maxRecDepth 100000 in
set_option maxHeartbeats 4000000 in
theorem c_X6_indexAt {g : zGT} {w : zW} {b : Nat} {L : List Nat} {t : Int32} (h0 : zG0 g) (hL : Mk g w b L) : zCt g mX6_indexAt (zR 1 0) [.ref (za g b), .int (t)] w (fun o w' => o = .inl (some (.int (Int32.ofInt (lidx (fun x => decide ((x : Int) = t.toInt)) L 0)))) ∧ w' = w) := by
  have hb := hL.1
  have hn := hL.2.2.2.1
  refine zCt_of (by decide +kernel) h0 [(0, .ref (za g b)), (1, .int (t))] rfl (Nat.le_of_ble_eq_true rfl) ?_
  have loop : ∀ (m : Nat) (i : Nat), L.length - i < m → (i ≤ L.length) → (∀ k, k < i → decide (((L.getD k 0 : Nat) : Int) = t.toInt) = false) → zTr g mX6_indexAt (zR 1 0) 0 0 2 [(0, .ref (za g b)), (1, .int (t)), (2, .int (nI (i)))] [] w (fun o w' => o = .inl (some (.int (Int32.ofInt (lidx (fun x => decide ((x : Int) = t.toInt)) L 0)))) ∧ w' = w) := by
    intro m
    induction m with
    | zero => intros; omega
    | succ m ih =>
      intro i hm hi hs
      refine z_iload_n dX6_indexAt_2 rfl ?_
      refine z_aload_n dX6_indexAt_3 rfl ?_
      refine z_getf (j := b) dX6_indexAt_4 kF_RX6_15 rfl (by omega) hL.2.1 rfl ?_
      refine z_icmp_ge_n (a := i) (b := L.length) (tgt := 27) dX6_indexAt_7 (by decide) (by omega) (by omega) (fun h_7_1 => ?_) (fun h_7_1 => ?_)
      · refine z_iconst (v := -1) dX6_indexAt_27 rfl ?_
        refine z_iret dX6_indexAt_28 rfl (by decide) (by decide) ?_
        exact ⟨by rw [lidx_no (fun k hk => hs k (by omega))]; rfl, rfl⟩
      · have hg : L.getD i 0 ≤ 400 := getD_le hL.2.2.2.2
        have hz := nI_toInt (n := L.getD i 0) (by omega)
        refine z_aload_n dX6_indexAt_10 rfl ?_
        refine z_iload_n dX6_indexAt_11 rfl ?_
        refine z_callE (As := [.int (nI (i))]) (rest := []) (b := b) (ci := 6) (v := some (.int (nI (L.getD (i) 0)))) (R2 := zR 0 0) dX6_indexAt_12 kV_RX6_27 rfl ⟨⟨by decide, by decide⟩, by decide, by decide⟩ (by omega) hL.2.1 rfl rfl rfl (Nat.le_of_ble_eq_true rfl) rfl (c_X6_at (t := i) h0 hL (by omega)) ?_
        refine z_iload_n dX6_indexAt_15 rfl ?_
        refine z_icmp_ne_z (tgt := 21) dX6_indexAt_16 (by decide) (fun h_16_3 => ?_) (fun h_16_3 => ?_)
        · refine z_iinc_n (n := 1) (a := i) (lv' := [(0, .ref (za g b)), (1, .int (t)), (2, .int (nI (i + 1)))]) dX6_indexAt_21 rfl (by decide) rfl ?_
          refine z_goto (tgt := 2) dX6_indexAt_24 (by decide) ?_
          refine ih (i + 1) (by omega) (by omega) (fun k hk => ?_)
          by_cases e : k = i
          · subst e; exact decide_eq_false (by omega)
          · exact hs k (by omega)
        · refine z_iload_n dX6_indexAt_19 rfl ?_
          refine z_iret dX6_indexAt_20 rfl (by decide) (by decide) ?_
          exact ⟨by rw [lidx_hit (by omega) hs (decide_eq_true (by omega))]; rfl, rfl⟩
  refine z_iconst (v := nI 0) dX6_indexAt_0 rfl ?_
  refine z_istore_n (lv' := [(0, .ref (za g b)), (1, .int (t)), (2, .int (nI (0)))]) dX6_indexAt_1 (by decide) rfl ?_
  exact loop (L.length + 1) 0 (by omega) (Nat.zero_le _) (fun k hk => absurd hk (Nat.not_lt_zero k))
theorem lidx_rng (P : Nat → Bool) (L : List Nat) : -1 ≤ lidx P L 0 ∧ lidx P L 0 < (L.length : Int) + 1 := by
  rcases lidx_cases P L with ⟨h, -⟩ | ⟨i, h1, h2, -⟩ <;> omega
theorem lidx_toInt (P : Nat → Bool) {L : List Nat} (h : L.length ≤ 6) : (Int32.ofInt (lidx P L 0)).toInt = lidx P L 0 := by
  have := lidx_rng P L
  exact Int32.toInt_ofInt_of_le (by omega) (by omega)
theorem lidx_mem (t : Nat) (L : List Nat) : (lidx (fun x => decide ((x : Int) = t)) L 0 = -1 ∧ t ∉ L) ∨ (0 ≤ lidx (fun x => decide ((x : Int) = t)) L 0 ∧ t ∈ L) := by
  rcases lidx_cases (fun x => decide ((x : Int) = t)) L with ⟨h, h2⟩ | ⟨i, h1, h2, h3, -⟩
  · refine Or.inl ⟨h, fun hm => ?_⟩
    obtain ⟨k, hk, e⟩ := List.getElem_of_mem hm
    have := h2 k hk
    rw [gD_lt hk, e] at this
    simp at this
  · refine Or.inr ⟨by omega, ?_⟩
    have h4 : L.getD i 0 = t := by have h5 := of_decide_eq_true h3; omega
    rw [gD_lt h1] at h4
    rw [← h4]; exact List.getElem_mem h1
theorem l_ext {L L' : List Nat} (h : L.length = L'.length) (h2 : ∀ k, k < L.length → L.getD k 0 = L'.getD k 0) : L = L' := by
  apply List.ext_getElem h
  intro k h3 h4
  have := h2 k h3
  rwa [gD_lt h3, gD_lt h4] at this
theorem gD_mid {L : List Nat} {i t k : Nat} (hi : i ≤ L.length) : (L.take i ++ t :: L.drop i).getD k 0 = if k < i then L.getD k 0 else if k = i then t else L.getD (k - 1) 0 := by
  have hl : (L.take i).length = i := by simp; omega
  split
  · rename_i h
    simp [List.getD, List.getElem?_append_left (by omega : k < (L.take i).length), List.getElem?_take, h]
  · rename_i h
    simp only [List.getD]
    rw [List.getElem?_append_right (by omega), hl]
    split
    · rename_i e; subst e; simp
    · rename_i e
      obtain ⟨j, rfl⟩ : ∃ j, k = i + 1 + j := ⟨k - i - 1, by omega⟩
      rw [show i + 1 + j - i = j + 1 by omega, show i + 1 + j - 1 = i + j by omega]
      simp
def lins (t : Nat) : List Nat → List Nat
  | [] => [t]
  | x :: r => if t < x then t :: x :: r else x :: lins t r
theorem lins_at {t : Nat} : ∀ {L : List Nat} {j : Nat}, j ≤ L.length → (∀ k, k < j → L.getD k 0 ≤ t) → (∀ k, j ≤ k → k < L.length → t < L.getD k 0) → lins t L = L.take j ++ t :: L.drop j
  | [], j, hj, _, _ => by
    obtain rfl : j = 0 := by simpa using hj
    rfl
  | x :: r, 0, _, _, h2 => by
    have : t < x := by simpa [List.getD] using h2 0 (Nat.le_refl _) (by simp)
    simp [lins, this]
  | x :: r, j + 1, hj, h1, h2 => by
    have h3 : x ≤ t := by simpa [List.getD] using h1 0 (by omega)
    rw [lins, if_neg (by omega), lins_at (j := j) (by simpa using hj) (fun k hk => by simpa [List.getD] using h1 (k + 1) (by omega)) (fun k hk hk2 => by simpa [List.getD] using h2 (k + 1) (by omega) (by simpa using hk2))]
    rfl
set_option maxRecDepth 100000 in
set_option maxHeartbeats 4000000 in
theorem c_X6_add {g : zGT} {w : zW} {b t : Nat} {L : List Nat} (h0 : zG0 g) (hL : Mk g w b L) (hlt : L.length < 6) (hx0 : t ≤ 400) (hs : ∀ i j, i ≤ j → j < L.length → L.getD i 0 ≤ L.getD j 0) : zCt g mX6_add (zR 2 0) [.ref (za g b), .int (nI (t))] w (fun o w' => o = .inl none ∧ zFr w w' b (b + 2) ∧ Mk g w' b (lins t L)) := by
  have hb := hL.1
  have hn := hL.2.2.2.1
  refine zCt_of (by decide +kernel) h0 [(0, .ref (za g b)), (1, .int (nI (t)))] rfl (Nat.le_of_ble_eq_true rfl) ?_
  have loop : ∀ (m : Nat) (i : Nat) (wi : zW), i < m → (i ≤ L.length) → (zFr w wi b (b + 2)) → (Mk g wi b (L.take i ++ t :: L.drop i)) → (∀ k, i ≤ k → k < L.length → t < L.getD k 0) → zTr g mX6_add (zR 2 0) 0 0 12 [(0, .ref (za g b)), (1, .int (nI (t))), (2, .int (nI (i)))] [] wi (fun o w' => o = .inl none ∧ zFr w w' b (b + 2) ∧ Mk g w' b (lins t L)) := by
    intro m
    induction m with
    | zero => intros; omega
    | succ m ih =>
      intro i wi hm hi hfi hLi hgt
      have hlm : (L.take i ++ t :: L.drop i).length = L.length + 1 := by simp; omega
      have hg : (L.take i ++ t :: L.drop i).getD (i - 1) 0 ≤ 400 := getD_le hLi.2.2.2.2
      refine z_iload_n dX6_add_12 rfl ?_
      refine z_if_le_n (a := i) (tgt := 53) dX6_add_13 (by decide) (by omega) (fun h_13_1 => ?_) (fun h_13_1 => ?_)
      · refine z_vret dX6_add_53 rfl (by decide) (by decide) ?_
        refine ⟨rfl, hfi, ?_⟩
        rw [lins_at hi (fun k hk => ?_) hgt]
        · exact hLi
        · omega
      · refine z_aload_n dX6_add_16 rfl ?_
        refine z_iload_n dX6_add_17 rfl ?_
        refine z_iconst (v := nI 1) dX6_add_18 rfl ?_
        refine z_isub_n (a := i) (b := 1) dX6_add_19 (by omega) ?_
        refine z_callE (As := [.int (nI ((i) - (1)))]) (rest := []) (b := b) (ci := 6) (v := some (.int (nI ((L.take i ++ t :: L.drop i).getD ((i) - (1)) 0)))) (R2 := zR 0 0) dX6_add_20 kV_RX6_27 rfl ⟨⟨by decide, by decide⟩, by decide, by decide⟩ (by omega) hLi.2.1 rfl rfl rfl (Nat.le_of_ble_eq_true rfl) rfl (c_X6_at (t := (i) - (1)) h0 hLi (by (try simp only [List.length_set]); omega)) ?_
        refine z_iload_n dX6_add_23 rfl ?_
        refine z_icmp_le_n (a := (L.take i ++ t :: L.drop i).getD ((i) - (1)) 0) (b := t) (tgt := 53) dX6_add_24 (by decide) (by omega) (by omega) (fun h_24_3 => ?_) (fun h_24_3 => ?_)
        · refine z_vret dX6_add_53 rfl (by decide) (by decide) ?_
          refine ⟨rfl, hfi, ?_⟩
          rw [lins_at hi (fun k hk => ?_) hgt]
          · exact hLi
          · rw [gD_mid (by omega), if_pos (by omega)] at h_24_3
            exact Nat.le_trans (hs k (i - 1) (by omega) (by omega)) h_24_3
        · refine z_aload_n dX6_add_27 rfl ?_
          refine z_iload_n dX6_add_28 rfl ?_
          refine z_aload_n dX6_add_29 rfl ?_
          refine z_iload_n dX6_add_30 rfl ?_
          refine z_iconst (v := nI 1) dX6_add_31 rfl ?_
          refine z_isub_n (a := i) (b := 1) dX6_add_32 (by omega) ?_
          refine z_callE (As := [.int (nI ((i) - (1)))]) (rest := [.int (nI (i)), .ref (za g b)]) (b := b) (ci := 6) (v := some (.int (nI ((L.take i ++ t :: L.drop i).getD ((i) - (1)) 0)))) (R2 := zR 0 0) dX6_add_33 kV_RX6_27 rfl ⟨⟨by decide, by decide⟩, by decide, by decide⟩ (by omega) hLi.2.1 rfl rfl rfl (Nat.le_of_ble_eq_true rfl) rfl (c_X6_at (t := (i) - (1)) h0 hLi (by (try simp only [List.length_set]); omega)) ?_
          refine z_callR (As := [.int (nI (i)), .int (nI ((L.take i ++ t :: L.drop i).getD ((i) - (1)) 0))]) (rest := []) (b := b) (ci := 6) (v := none) (R2 := zR 0 0) dX6_add_36 kV_RX6_23 rfl ⟨⟨by decide, by decide⟩, by decide, by decide⟩ (by omega) hLi.2.1 rfl rfl rfl (Nat.le_of_ble_eq_true rfl) rfl (c_X6_put (t := i) (x := (L.take i ++ t :: L.drop i).getD ((i) - (1)) 0) h0 hLi (by (try simp only [List.length_set]); omega) (by omega)) (fun w5 pw5 => ?_)
          obtain ⟨hf_w5, hM6⟩ := pw5
          refine z_aload_n dX6_add_39 rfl ?_
          refine z_iload_n dX6_add_40 rfl ?_
          refine z_iconst (v := nI 1) dX6_add_41 rfl ?_
          refine z_isub_n (a := i) (b := 1) dX6_add_42 (by omega) ?_
          refine z_iload_n dX6_add_43 rfl ?_
          refine z_callR (As := [.int (nI ((i) - (1))), .int (nI (t))]) (rest := []) (b := b) (ci := 6) (v := none) (R2 := zR 0 0) dX6_add_44 kV_RX6_23 rfl ⟨⟨by decide, by decide⟩, by decide, by decide⟩ (by omega) hM6.2.1 rfl rfl rfl (Nat.le_of_ble_eq_true rfl) rfl (c_X6_put (t := (i) - (1)) (x := t) h0 hM6 (by (try simp only [List.length_set]); omega) (by omega)) (fun w7 pw7 => ?_)
          obtain ⟨hf_w7, hM8⟩ := pw7
          refine z_idec_n (a := i) (lv' := [(0, .ref (za g b)), (1, .int (nI (t))), (2, .int (nI (i - 1)))]) dX6_add_47 rfl (by omega) (by decide) rfl ?_
          refine z_goto (tgt := 12) dX6_add_50 (by decide) ?_
          refine ih (i - 1) _ (by omega) (by omega) ((hfi.tr hf_w5).tr hf_w7) ?_ (fun k hk hk2 => ?_)
          · have e : (((L.take i ++ t :: L.drop i).set (i) ((L.take i ++ t :: L.drop i).getD ((i) - (1)) 0)).set ((i) - (1)) (t)) = L.take (i - 1) ++ t :: L.drop (i - 1) := by
              refine l_ext (by simp; omega) (fun k hk => ?_)
              rw [getD_set (by (try simp only [List.length_set]); omega), getD_set (by omega), gD_mid (by omega), gD_mid (by omega), gD_mid (by omega)]
              repeat' split
              all_goals first | rfl | (exfalso; omega) | (congr 1; omega)
            rw [← e]; exact hM8
          · rcases Nat.lt_or_ge k i with q | q
            · obtain rfl : k = i - 1 := by omega
              rw [gD_mid (by omega), if_pos (by omega)] at h_24_3
              exact h_24_3
            · exact hgt k q hk2
  refine z_aload_n dX6_add_0 rfl ?_
  refine z_iload_n dX6_add_1 rfl ?_
  refine z_callR (As := [.int (nI (t))]) (rest := []) (b := b) (ci := 6) (v := none) (R2 := zR 1 0) dX6_add_2 kV_RX6_31 rfl ⟨⟨by decide, by decide⟩, by decide, by decide⟩ (by omega) hL.2.1 rfl rfl rfl (Nat.le_of_ble_eq_true rfl) rfl (c_X6_append (x := t) h0 hL hlt hx0) (fun w1 pw1 => ?_)
  obtain ⟨hf1, hM1⟩ := pw1
  have hl1 : (L ++ [t]).length = L.length + 1 := by simp
  refine z_aload_n dX6_add_5 rfl ?_
  refine z_getf (j := b) dX6_add_6 kF_RX6_15 rfl (by omega) hM1.2.1 rfl ?_
  refine z_iconst (v := nI 1) dX6_add_9 rfl ?_
  refine z_isub_n (a := (L ++ [t]).length) (b := 1) dX6_add_10 (by omega) ?_
  refine z_eq (st' := [.int (nI L.length)]) rfl (by rw [hl1, Nat.add_sub_cancel]; rfl) rfl ?_
  refine z_istore_n (lv' := [(0, .ref (za g b)), (1, .int (nI t)), (2, .int (nI L.length))]) dX6_add_11 (by decide) rfl ?_
  refine loop (L.length + 1) L.length _ (Nat.lt_succ_self _) (Nat.le_refl _) hf1 (by rw [List.take_length, List.drop_length]; exact hM1) (fun k hk hk2 => by omega)
theorem gD_erase {L : List Nat} {d k : Nat} : (L.eraseIdx d).getD k 0 = if k < d then L.getD k 0 else L.getD (k + 1) 0 := by
  simp only [List.getD, List.getElem?_eraseIdx]
  split <;> rfl
theorem Mk.cut {g : zGT} {w w1 : zW} {b n : Nat} {L L' : List Nat} (h : Mk g w b L) (hl : L'.length ≤ L.length) (hk : ∀ k, k < L'.length → L'.getD k 0 = L.getD k 0) (hn : n = L'.length) (e : w1 = va_up w b (zO 6 [.ref (za g (b + 1)), .int (nI n)])) : Mk g w1 b L' := by
  obtain ⟨hb, hw, ⟨f, hr, hf⟩, hm, hx⟩ := h
  subst hn; subst e
  refine ⟨hb, zup_s, ⟨f, by rw [zup_n (by omega)]; exact hr, fun k hk2 => by rw [hk k hk2]; exact hf k (by omega)⟩, by omega, fun x hx2 => ?_⟩
  obtain ⟨k, hk2, rfl⟩ := List.getElem_of_mem hx2
  have := hk k hk2
  rw [gD_lt hk2] at this
  rw [this]; exact getD_le hx
set_option maxRecDepth 100000 in
set_option maxHeartbeats 4000000 in
theorem c_X6_delete {g : zGT} {w : zW} {b d : Nat} {L : List Nat} (h0 : zG0 g) (hL : Mk g w b L) (hd : d < L.length) : zCt g mX6_delete (zR 1 0) [.ref (za g b), .int (nI (d))] w (fun o w' => o = .inl none ∧ zFr w w' b (b + 2) ∧ Mk g w' b (L.eraseIdx d)) := by
  have hb := hL.1
  have hn := hL.2.2.2.1
  refine zCt_of (by decide +kernel) h0 [(0, .ref (za g b)), (1, .int (nI (d)))] rfl (Nat.le_of_ble_eq_true rfl) ?_
  have loop : ∀ (m : Nat) (i : Nat) (wi : zW) (Li : List Nat), L.length - i < m → (d ≤ i) → (i < L.length) → (Li.length = L.length) → (zFr w wi b (b + 2)) → (Mk g wi b Li) → (∀ k, Li.getD k 0 = if d ≤ k ∧ k < i then L.getD (k + 1) 0 else L.getD k 0) → zTr g mX6_delete (zR 1 0) 0 0 2 [(0, .ref (za g b)), (1, .int (nI (d))), (2, .int (nI (i)))] [] wi (fun o w' => o = .inl none ∧ zFr w w' b (b + 2) ∧ Mk g w' b (L.eraseIdx d)) := by
    intro m
    induction m with
    | zero => intros; omega
    | succ m ih =>
      intro i wi Li hm hdi hin hlen hfi hLi hi
      have hg : Li.getD (i + 1) 0 ≤ 400 := getD_le hLi.2.2.2.2
      refine z_iload_n dX6_delete_2 rfl ?_
      refine z_aload_n dX6_delete_3 rfl ?_
      refine z_getf (j := b) dX6_delete_4 kF_RX6_15 rfl (by omega) hLi.2.1 rfl ?_
      refine z_iconst (v := nI 1) dX6_delete_7 rfl ?_
      refine z_isub_n (a := Li.length) (b := 1) dX6_delete_8 (by omega) ?_
      refine z_icmp_ge_n (a := i) (b := (Li.length) - (1)) (tgt := 30) dX6_delete_9 (by decide) (by omega) (by omega) (fun h_9_8 => ?_) (fun h_9_8 => ?_)
      · refine z_aload_n dX6_delete_30 rfl ?_
        refine z_dup dX6_delete_31 rfl ?_
        refine z_getf (j := b) dX6_delete_32 kF_RX6_15 rfl (by omega) hLi.2.1 rfl ?_
        refine z_iconst (v := nI 1) dX6_delete_35 rfl ?_
        refine z_isub_n (a := Li.length) (b := 1) dX6_delete_36 (by omega) ?_
        refine z_putf (j := b) dX6_delete_37 kF_RX6_15 zt_6_1 rfl (by omega) hLi.2.1 rfl rfl (Nat.le_of_ble_eq_true rfl) ?_
        obtain ⟨w9, ew10⟩ : ∃ wz : zW, wz = va_up wi (b) (zO 6 [.ref (za g (b + 1)), .int (nI ((Li.length) - (1)))]) := ⟨_, rfl⟩
        refine z_weq (w' := w9) ew10.symm ?_
        have hw11 : w9 (b) = zO 6 [.ref (za g (b + 1)), .int (nI ((Li.length) - (1)))] := by rw [ew10, zup_s]
        refine z_vret dX6_delete_40 rfl (by decide) (by decide) ?_
        have he : (L.eraseIdx d).length = L.length - 1 := by rw [List.length_eraseIdx, if_pos hd]
        refine ⟨rfl, hfi.tr (by rw [ew10]; exact zFr.up (by omega)), hLi.cut (by omega) (fun k hk => ?_) (by omega) ew10⟩
        rw [gD_erase, hi]
        repeat' split
        all_goals first | rfl | (exfalso; omega) | (congr 1; omega)
      · refine z_aload_n dX6_delete_12 rfl ?_
        refine z_iload_n dX6_delete_13 rfl ?_
        refine z_aload_n dX6_delete_14 rfl ?_
        refine z_iload_n dX6_delete_15 rfl ?_
        refine z_iconst (v := nI 1) dX6_delete_16 rfl ?_
        refine z_iadd_n (a := i) (b := 1) dX6_delete_17 ?_
        refine z_callE (As := [.int (nI ((i) + (1)))]) (rest := [.int (nI (i)), .ref (za g b)]) (b := b) (ci := 6) (v := some (.int (nI (Li.getD ((i) + (1)) 0)))) (R2 := zR 0 0) dX6_delete_18 kV_RX6_27 rfl ⟨⟨by decide, by decide⟩, by decide, by decide⟩ (by omega) hLi.2.1 rfl rfl rfl (Nat.le_of_ble_eq_true rfl) rfl (c_X6_at (t := (i) + (1)) h0 hLi (by (try simp only [List.length_set]); omega)) ?_
        refine z_callR (As := [.int (nI (i)), .int (nI (Li.getD ((i) + (1)) 0))]) (rest := []) (b := b) (ci := 6) (v := none) (R2 := zR 0 0) dX6_delete_21 kV_RX6_23 rfl ⟨⟨by decide, by decide⟩, by decide, by decide⟩ (by omega) hLi.2.1 rfl rfl rfl (Nat.le_of_ble_eq_true rfl) rfl (c_X6_put (t := i) (x := Li.getD ((i) + (1)) 0) h0 hLi (by (try simp only [List.length_set]); omega) (by omega)) (fun w13 pw13 => ?_)
        obtain ⟨hf_w13, hM14⟩ := pw13
        refine z_iinc_n (n := 1) (a := i) (lv' := [(0, .ref (za g b)), (1, .int (nI (d))), (2, .int (nI (i + 1)))]) dX6_delete_24 rfl (by decide) rfl ?_
        refine z_goto (tgt := 2) dX6_delete_27 (by decide) ?_
        refine ih (i + 1) _ _ (by omega) (by omega) (by omega) (by rw [List.length_set]; exact hlen) (hfi.tr hf_w13) hM14 (fun k => ?_)
        rw [getD_set (by omega)]
        simp only [hi]
        repeat' split
        all_goals first | rfl | (exfalso; omega) | (congr 1; omega)
  refine z_iload_n dX6_delete_0 rfl ?_
  refine z_istore_n (lv' := [(0, .ref (za g b)), (1, .int (nI (d))), (2, .int (nI (d)))]) dX6_delete_1 (by decide) rfl ?_
  refine loop (L.length + 1) d w L (by omega) (Nat.le_refl _) hd rfl zFr.rf hL (fun k => ?_)
  repeat' split
  all_goals first | rfl | (exfalso; omega) | (congr 1; omega)
theorem gD_map {L : List Nat} {F : Nat → Nat} {k : Nat} (h : k < L.length) : (L.map F).getD k 0 = F (L.getD k 0) := by simp [List.getD, h]
set_option maxRecDepth 100000 in
set_option maxHeartbeats 4000000 in
theorem c_X6_makeRoom {g : zGT} {w : zW} {b p t : Nat} {L : List Nat} (h0 : zG0 g) (hL : Mk g w b L) (hb2 : ∀ x ∈ L, x + t ≤ 400) (hp : p ≤ 400) (ht : t ≤ 400) : zCt g mX6_makeRoom (zR 1 0) [.ref (za g b), .int (nI (p)), .int (nI (t))] w (fun o w' => o = .inl none ∧ zFr w w' b (b + 2) ∧ Mk g w' b (L.map (fun x => if p < x then x + t else x))) := by
  have hb := hL.1
  have hn := hL.2.2.2.1
  refine zCt_of (by decide +kernel) h0 [(0, .ref (za g b)), (1, .int (nI (p))), (2, .int (nI (t)))] rfl (Nat.le_of_ble_eq_true rfl) ?_
  have loop : ∀ (m : Nat) (i : Nat) (wi : zW) (Li : List Nat), L.length - i < m → (i ≤ L.length) → (Li.length = L.length) → (zFr w wi b (b + 2)) → (Mk g wi b Li) → (∀ k, Li.getD k 0 = if k < i then (if p < L.getD k 0 then L.getD k 0 + t else L.getD k 0) else L.getD k 0) → zTr g mX6_makeRoom (zR 1 0) 0 0 2 [(0, .ref (za g b)), (1, .int (nI (p))), (2, .int (nI (t))), (3, .int (nI (i)))] [] wi (fun o w' => o = .inl none ∧ zFr w w' b (b + 2) ∧ Mk g w' b (L.map (fun x => if p < x then x + t else x))) := by
    intro m
    induction m with
    | zero => intros; omega
    | succ m ih =>
      intro i wi Li hm hin hlen hfi hLi hi
      have hg : Li.getD i 0 ≤ 400 := getD_le hLi.2.2.2.2
      refine z_iload_n dX6_makeRoom_2 rfl ?_
      refine z_aload_n dX6_makeRoom_3 rfl ?_
      refine z_getf (j := b) dX6_makeRoom_4 kF_RX6_15 rfl (by omega) hLi.2.1 rfl ?_
      refine z_icmp_ge_n (a := i) (b := Li.length) (tgt := 37) dX6_makeRoom_7 (by decide) (by omega) (by omega) (fun h_7_1 => ?_) (fun h_7_1 => ?_)
      · refine z_vret dX6_makeRoom_37 rfl (by decide) (by decide) ?_
        refine ⟨rfl, hfi, ?_⟩
        rw [show L.map (fun x => if p < x then x + t else x) = Li from l_ext (by rw [List.length_map, hlen]) (fun k hk => by rw [List.length_map] at hk; rw [gD_map hk, hi k, if_pos (show k < i by omega)])]
        exact hLi
      · refine z_aload_n dX6_makeRoom_10 rfl ?_
        refine z_iload_n dX6_makeRoom_11 rfl ?_
        refine z_callE (As := [.int (nI (i))]) (rest := []) (b := b) (ci := 6) (v := some (.int (nI (Li.getD (i) 0)))) (R2 := zR 0 0) dX6_makeRoom_12 kV_RX6_27 rfl ⟨⟨by decide, by decide⟩, by decide, by decide⟩ (by omega) hLi.2.1 rfl rfl rfl (Nat.le_of_ble_eq_true rfl) rfl (c_X6_at (t := i) h0 hLi (by (try simp only [List.length_set]); omega)) ?_
        refine z_iload_n dX6_makeRoom_15 rfl ?_
        refine z_icmp_le_n (a := Li.getD (i) 0) (b := p) (tgt := 31) dX6_makeRoom_16 (by decide) (by omega) (by omega) (fun h_16_3 => ?_) (fun h_16_3 => ?_)
        · refine z_iinc_n (n := 1) (a := i) (lv' := [(0, .ref (za g b)), (1, .int (nI (p))), (2, .int (nI (t))), (3, .int (nI (i + 1)))]) dX6_makeRoom_31 rfl (by decide) rfl ?_
          refine z_goto (tgt := 2) dX6_makeRoom_34 (by decide) ?_
          have hii := hi i
          rw [if_neg (Nat.lt_irrefl _)] at hii
          refine ih (i + 1) _ _ (by omega) (by omega) hlen hfi hLi (fun k => ?_)
          by_cases e : k = i
          · subst e; simp only [hi k, hii]
            repeat' split
            all_goals first | rfl | (exfalso; omega) | (congr 1; omega)
          · simp only [hi k, hii]
            repeat' split
            all_goals first | rfl | (exfalso; omega) | (congr 1; omega)
        · have hg2 : Li.getD i 0 + t ≤ 400 := by
            rcases Nat.lt_or_ge i L.length with q | q
            · rw [hi i, if_neg (Nat.lt_irrefl _)]; have := hb2 (L.getD i 0) (by rw [gD_lt q]; exact List.getElem_mem q); omega
            · rw [gD_ge (by omega)]; omega
          refine z_aload_n dX6_makeRoom_19 rfl ?_
          refine z_iload_n dX6_makeRoom_20 rfl ?_
          refine z_aload_n dX6_makeRoom_21 rfl ?_
          refine z_iload_n dX6_makeRoom_22 rfl ?_
          refine z_callE (As := [.int (nI (i))]) (rest := [.int (nI (i)), .ref (za g b)]) (b := b) (ci := 6) (v := some (.int (nI (Li.getD (i) 0)))) (R2 := zR 0 0) dX6_makeRoom_23 kV_RX6_27 rfl ⟨⟨by decide, by decide⟩, by decide, by decide⟩ (by omega) hLi.2.1 rfl rfl rfl (Nat.le_of_ble_eq_true rfl) rfl (c_X6_at (t := i) h0 hLi (by (try simp only [List.length_set]); omega)) ?_
          refine z_iload_n dX6_makeRoom_26 rfl ?_
          refine z_iadd_n (a := Li.getD (i) 0) (b := t) dX6_makeRoom_27 ?_
          refine z_callR (As := [.int (nI (i)), .int (nI ((Li.getD (i) 0) + (t)))]) (rest := []) (b := b) (ci := 6) (v := none) (R2 := zR 0 0) dX6_makeRoom_28 kV_RX6_23 rfl ⟨⟨by decide, by decide⟩, by decide, by decide⟩ (by omega) hLi.2.1 rfl rfl rfl (Nat.le_of_ble_eq_true rfl) rfl (c_X6_put (t := i) (x := (Li.getD (i) 0) + (t)) h0 hLi (by (try simp only [List.length_set]); omega) (by omega)) (fun w5 pw5 => ?_)
          obtain ⟨hf_w5, hM6⟩ := pw5
          refine z_iinc_n (n := 1) (a := i) (lv' := [(0, .ref (za g b)), (1, .int (nI (p))), (2, .int (nI (t))), (3, .int (nI (i + 1)))]) dX6_makeRoom_31 rfl (by decide) rfl ?_
          refine z_goto (tgt := 2) dX6_makeRoom_34 (by decide) ?_
          have hii := hi i
          rw [if_neg (Nat.lt_irrefl _)] at hii
          refine ih (i + 1) _ _ (by omega) (by omega) (by rw [List.length_set]; exact hlen) (hfi.tr hf_w5) hM6 (fun k => ?_)
          rw [getD_set (by omega)]
          by_cases e : k = i
          · subst e; rw [if_pos rfl]; simp only [hi k, hii]
            repeat' split
            all_goals first | rfl | (exfalso; omega) | (congr 1; omega)
          · simp only [hi k, hii]
            repeat' split
            all_goals first | rfl | (exfalso; omega) | (congr 1; omega)
  refine z_iconst (v := nI 0) dX6_makeRoom_0 rfl ?_
  refine z_istore_n (lv' := [(0, .ref (za g b)), (1, .int (nI (p))), (2, .int (nI (t))), (3, .int (nI (0)))]) dX6_makeRoom_1 (by decide) rfl ?_
  exact loop (L.length + 1) 0 w L (by omega) (Nat.zero_le _) rfl zFr.rf hL (fun k => by rw [if_neg (Nat.not_lt_zero _)])
set_option maxRecDepth 100000 in
set_option maxHeartbeats 4000000 in
theorem c_X6_become {g : zGT} {w : zW} {b c : Nat} {L K : List Nat} (h0 : zG0 g) (hL : Mk g w b L) (hK : Mk g w c K) (hbc : b + 1 < c ∨ c + 1 < b) : zCt g mX6_become (zR 2 0) [.ref (za g b), .ref (za g c)] w (fun o w' => o = .inl none ∧ zFr w w' b (b + 2) ∧ Mk g w' b K) := by
  have hb := hL.1
  have hn := hK.2.2.2.1
  refine zCt_of (by decide +kernel) h0 [(0, .ref (za g b)), (1, .ref (za g c))] rfl (Nat.le_of_ble_eq_true rfl) ?_
  have loop : ∀ (m : Nat) (i : Nat) (wi : zW), K.length - i < m → (i ≤ K.length) → (zFr w wi b (b + 2)) → (Mk g wi b (K.take i)) → zTr g mX6_become (zR 2 0) 0 0 6 [(0, .ref (za g b)), (1, .ref (za g c)), (2, .int (nI (i)))] [] wi (fun o w' => o = .inl none ∧ zFr w w' b (b + 2) ∧ Mk g w' b K) := by
    intro m
    induction m with
    | zero => intros; omega
    | succ m ih =>
      intro i wi hm hin hfi hLi
      have hKi := hK.fr hfi (by omega)
      have hc := hK.1
      refine z_iload_n dX6_become_6 rfl ?_
      refine z_aload_n dX6_become_7 rfl ?_
      refine z_getf (j := c) dX6_become_8 kF_RX6_15 rfl (by omega) hKi.2.1 rfl ?_
      refine z_icmp_ge_n (a := i) (b := K.length) (tgt := 29) dX6_become_11 (by decide) (by omega) (by omega) (fun h_11_1 => ?_) (fun h_11_1 => ?_)
      · refine z_vret dX6_become_29 rfl (by decide) (by decide) ?_
        refine ⟨rfl, hfi, ?_⟩
        rw [List.take_of_length_le (by omega)] at hLi
        exact hLi
      · refine z_aload_n dX6_become_14 rfl ?_
        refine z_aload_n dX6_become_15 rfl ?_
        refine z_iload_n dX6_become_16 rfl ?_
        refine z_callE (As := [.int (nI (i))]) (rest := [.ref (za g b)]) (b := c) (ci := 6) (v := some (.int (nI (K.getD i 0)))) (R2 := zR 0 0) dX6_become_17 kV_RX6_27 rfl ⟨⟨by decide, by decide⟩, by decide, by decide⟩ (by omega) hKi.2.1 rfl rfl rfl (Nat.le_of_ble_eq_true rfl) rfl (c_X6_at (t := i) h0 hKi (by omega)) ?_
        refine z_callR (As := [.int (nI (K.getD i 0))]) (rest := []) (b := b) (ci := 6) (v := none) (R2 := zR 1 0) dX6_become_20 kV_RX6_31 rfl ⟨⟨by decide, by decide⟩, by decide, by decide⟩ (by omega) hLi.2.1 rfl rfl rfl (Nat.le_of_ble_eq_true rfl) rfl (c_X6_append (x := K.getD i 0) h0 hLi (by rw [List.length_take]; omega) (getD_le hK.2.2.2.2)) (fun w3 pw3 => ?_)
        obtain ⟨hf_w3, hM_w3⟩ := pw3
        refine z_iinc_n (n := 1) (a := i) (lv' := [(0, .ref (za g b)), (1, .ref (za g c)), (2, .int (nI (i + 1)))]) dX6_become_23 rfl (by decide) rfl ?_
        refine z_goto (tgt := 6) dX6_become_26 (by decide) ?_
        refine ih (i + 1) _ (by omega) (by omega) (hfi.tr hf_w3) ?_
        rw [List.take_add_one, List.getElem?_eq_getElem (by omega)]
        rw [gD_lt (by omega)] at hM_w3
        exact hM_w3
  refine z_aload_n dX6_become_0 rfl ?_
  refine z_callR (As := []) (rest := []) (b := b) (ci := 6) (v := none) (R2 := zR 0 0) dX6_become_1 kV_RX6_35 rfl ⟨⟨by decide, by decide⟩, by decide, by decide⟩ (by omega) hL.2.1 rfl rfl rfl (Nat.le_of_ble_eq_true rfl) rfl (c_X6_clear h0 hL) (fun w1 pw1 => ?_)
  obtain ⟨hf1, hL1⟩ := pw1
  refine z_iconst (v := nI 0) dX6_become_4 rfl ?_
  refine z_istore_n (lv' := [(0, .ref (za g b)), (1, .ref (za g c)), (2, .int (nI (0)))]) dX6_become_5 (by decide) rfl ?_
  exact loop (K.length + 1) 0 _ (by omega) (Nat.zero_le _) hf1 hL1
def Mkf (g : zGT) (w : zW) (b : Nat) (L : List Nat) (f : Nat → Int32) : Prop := b + 1 < zn g ∧ w b = zO 6 [.ref (za g (b + 1)), .int (nI L.length)] ∧ w (b + 1) = zI g 6 f ∧ (∀ k, k < L.length → f k = nI (L.getD k 0)) ∧ L.length ≤ 6 ∧ ∀ x ∈ L, x ≤ 400
theorem Mkf.mk {g : zGT} {w : zW} {b : Nat} {L : List Nat} {f : Nat → Int32} (h : Mkf g w b L f) : Mk g w b L := ⟨h.1, h.2.1, ⟨f, h.2.2.1, h.2.2.2.1⟩, h.2.2.2.2⟩
set_option maxRecDepth 100000 in
set_option maxHeartbeats 4000000 in
theorem c_X6_at_raw {g : zGT} {w : zW} {b t n : Nat} {f : Nat → Int32} (h0 : zG0 g) (hb : b + 1 < zn g) (hw : w b = zO 6 [.ref (za g (b + 1)), .int (nI n)]) (hr : w (b + 1) = zI g 6 f) (ht : t < 6) : zCt g mX6_at (zR 0 0) [.ref (za g b), .int (nI (t))] w (fun o w' => o = .inl (some (.int (f t))) ∧ w' = w) := by
  refine zCt_of (by decide +kernel) h0 [(0, .ref (za g b)), (1, .int (nI (t)))] rfl (Nat.le_of_ble_eq_true rfl) ?_
  refine z_iload_n dX6_at_0 rfl ?_
  refine z_if_lt_n (a := t) dX6_at_1 22 (by decide) (by omega) ?_
  refine z_iload_n dX6_at_4 rfl ?_
  refine z_aload_n dX6_at_5 rfl ?_
  refine z_getf (j := b) dX6_at_6 kF_RX6_9 rfl (by omega) hw rfl ?_
  refine z_alen_n (j := b + 1) (N := 6) (f := f) dX6_at_9 hb hr ?_
  refine z_icmp_ge_n (a := t) (b := 6) (tgt := 22) dX6_at_10 (by decide) (by omega) (by omega) (fun h_10_2 => ?_) (fun h_10_2 => ?_)
  · exact absurd h_10_2 (by omega)
  · refine z_aload_n dX6_at_13 rfl ?_
    refine z_getf (j := b) dX6_at_14 kF_RX6_9 rfl (by omega) hw rfl ?_
    refine z_iload_n dX6_at_17 rfl ?_
    refine z_iald_n (j := b + 1) (N := 6) (a := t) (f := f) dX6_at_18 hb hr (by omega) (by omega) ?_
    refine z_goto (tgt := 23) dX6_at_19 (by decide) ?_
    refine z_iret dX6_at_23 rfl (by decide) (by decide) ?_
    exact ⟨rfl, rfl⟩
set_option maxRecDepth 100000 in
set_option maxHeartbeats 4000000 in
theorem c_X6_put_raw {g : zGT} {w : zW} {b t n : Nat} {x : Int32} {f : Nat → Int32} (h0 : zG0 g) (hb : b + 1 < zn g) (hw : w b = zO 6 [.ref (za g (b + 1)), .int (nI n)]) (hr : w (b + 1) = zI g 6 f) (ht : t < 6) : zCt g mX6_put (zR 0 0) [.ref (za g b), .int (nI (t)), .int (x)] w (fun o w' => o = .inl none ∧ zFr w w' b (b + 2) ∧ w' b = zO 6 [.ref (za g (b + 1)), .int (nI n)] ∧ w' (b + 1) = zI g 6 (upd f t x)) := by
  refine zCt_of (by decide +kernel) h0 [(0, .ref (za g b)), (1, .int (nI (t))), (2, .int (x))] rfl (Nat.le_of_ble_eq_true rfl) ?_
  refine z_iload_n dX6_put_0 rfl ?_
  refine z_if_lt_n (a := t) dX6_put_1 20 (by decide) (by omega) ?_
  refine z_iload_n dX6_put_4 rfl ?_
  refine z_aload_n dX6_put_5 rfl ?_
  refine z_getf (j := b) dX6_put_6 kF_RX6_9 rfl (by omega) hw rfl ?_
  refine z_alen_n (j := b + 1) (N := 6) (f := f) dX6_put_9 hb hr ?_
  refine z_icmp_ge_n (a := t) (b := 6) (tgt := 20) dX6_put_10 (by decide) (by omega) (by omega) (fun h_10_2 => ?_) (fun h_10_2 => ?_)
  · exact absurd h_10_2 (by omega)
  · refine z_aload_n dX6_put_13 rfl ?_
    refine z_getf (j := b) dX6_put_14 kF_RX6_9 rfl (by omega) hw rfl ?_
    refine z_iload_n dX6_put_17 rfl ?_
    refine z_iload_n dX6_put_18 rfl ?_
    refine z_iast_n (j := b + 1) (N := 6) (a := t) (f := f) dX6_put_19 hb hr (by omega) (by omega) ?_
    obtain ⟨w3, ew4⟩ : ∃ wz : zW, wz = va_up w (b + 1) (zI g 6 (upd (f) (t) ((x)))) := ⟨_, rfl⟩
    refine z_weq (w' := w3) ew4.symm ?_
    have hw5 : w3 (b) = zO 6 [.ref (za g (b + 1)), .int (nI (n))] := by rw [ew4, zup_n (by omega)]; exact hw
    have hw6 : w3 (b + 1) = zI g 6 (upd (f) (t) ((x))) := by rw [ew4, zup_s]
    refine z_vret dX6_put_20 rfl (by decide) (by decide) ?_
    exact ⟨rfl, by rw [ew4]; exact zFr.up (by omega), hw5, hw6⟩
set_option maxRecDepth 100000 in
set_option maxHeartbeats 4000000 in
theorem c_X6_append_f {g : zGT} {w : zW} {b x : Nat} {L : List Nat} {f : Nat → Int32} (h0 : zG0 g) (hL : Mkf g w b L f) (hlt : L.length < 6) (hx0 : x ≤ 400) : zCt g mX6_append (zR 1 0) [.ref (za g b), .int (nI (x))] w (fun o w' => o = .inl none ∧ zFr w w' b (b + 2) ∧ Mkf g w' b (L ++ [x]) (upd f L.length (nI x))) := by
  obtain ⟨hb, hw, hr, hfk, hn, hx⟩ := id hL
  refine zCt_of (by decide +kernel) h0 [(0, .ref (za g b)), (1, .int (nI (x)))] rfl (Nat.le_of_ble_eq_true rfl) ?_
  refine z_aload_n dX6_append_0 rfl ?_
  refine z_callE (As := []) (rest := []) (b := b) (ci := 6) (v := some (.int (nI (0)))) (R2 := zR 0 0) dX6_append_1 kV_RX6_19 rfl ⟨⟨by decide, by decide⟩, by decide, by decide⟩ (by omega) hw rfl rfl rfl (Nat.le_of_ble_eq_true rfl) rfl (by have h := c_X6_isFull h0 hL.mk; rw [if_neg (by omega)] at h; exact h) ?_
  refine z_if_ne_n (a := 0) (tgt := 26) dX6_append_4 (by decide) (by omega) (fun h_4_2 => ?_) (fun h_4_2 => ?_)
  · exact absurd h_4_2 (by decide)
  · refine z_aload_n dX6_append_7 rfl ?_
    refine z_aload_n dX6_append_8 rfl ?_
    refine z_getf (j := b) dX6_append_9 kF_RX6_15 rfl (by omega) hw rfl ?_
    refine z_iload_n dX6_append_12 rfl ?_
    refine z_callR (As := [.int (nI (L.length)), .int (nI (x))]) (rest := []) (b := b) (ci := 6) (v := none) (R2 := zR 0 0) dX6_append_13 kV_RX6_23 rfl ⟨⟨by decide, by decide⟩, by decide, by decide⟩ (by omega) hw rfl rfl rfl (Nat.le_of_ble_eq_true rfl) rfl (c_X6_put_raw (t := L.length) (x := nI x) h0 hb hw hr (by omega)) (fun w3 pw3 => ?_)
    obtain ⟨hf1, e1, e2⟩ := pw3
    refine z_aload_n dX6_append_16 rfl ?_
    refine z_dup dX6_append_17 rfl ?_
    refine z_getf (j := b) dX6_append_18 kF_RX6_15 rfl (by omega) e1 rfl ?_
    refine z_iconst (v := nI 1) dX6_append_21 rfl ?_
    refine z_iadd_n (a := L.length) (b := 1) dX6_append_22 ?_
    refine z_putf (j := b) dX6_append_23 kF_RX6_15 zt_6_1 rfl (by omega) e1 rfl rfl (Nat.le_of_ble_eq_true rfl) ?_
    obtain ⟨w4, ew5⟩ : ∃ wz : zW, wz = va_up w3 (b) (zO 6 [.ref (za g (b + 1)), .int (nI ((L.length) + (1)))]) := ⟨_, rfl⟩
    refine z_weq (w' := w4) ew5.symm ?_
    have hw6 : w4 (b) = zO 6 [.ref (za g (b + 1)), .int (nI ((L.length) + (1)))] := by rw [ew5, zup_s]
    have hw7 : w4 (b + 1) = zI g 6 ((upd f L.length (nI x))) := by rw [ew5, zup_n (by omega)]; exact e2
    refine z_vret dX6_append_26 rfl (by decide) (by decide) ?_
    refine ⟨rfl, hf1.tr (by rw [ew5]; exact zFr.up (by omega)), hb, (by rw [List.length_append]; exact hw6), hw7, (fun k hk => ?_), (by rw [List.length_append]; show L.length + 1 ≤ 6; omega), (fun y hy => ?_)⟩
    · rw [List.length_append] at hk
      replace hk : k < L.length + 1 := hk
      rcases Nat.lt_or_ge k L.length with q | q
      · rw [getD_app q]; simp only [upd]; rw [if_neg (by omega)]; exact hfk k q
      · rw [show k = L.length by omega, getD_last]; simp [upd]
    · rcases List.mem_append.mp hy with h | h
      · exact hx y h
      · rw [List.mem_singleton.mp h]; exact hx0
def lclS (p q : Nat) (O : List Nat) (x : Nat) : List Nat := if (p < x ∧ x < q) ∨ (if x < q then x else x - (q - p)) ∈ O then O else O ++ [if x < q then x else x - (q - p)]
def lclose (p q : Nat) (L : List Nat) : List Nat := L.foldl (lclS p q) []
theorem lclS_len {p q x : Nat} {O : List Nat} : (lclS p q O x).length ≤ O.length + 1 := by
  unfold lclS
  generalize (if x < q then x else x - (q - p)) = y
  split
  · exact Nat.le_succ _
  · rw [List.length_append]; exact Nat.le_refl _
theorem foldl_take {p q i : Nat} {L : List Nat} (h : i < L.length) : (L.take (i + 1)).foldl (lclS p q) [] = lclS p q ((L.take i).foldl (lclS p q) []) (L.getD i 0) := by
  rw [List.take_add_one, List.getElem?_eq_getElem h, List.foldl_append, gD_lt h]; rfl
set_option maxRecDepth 100000 in
set_option maxHeartbeats 4000000 in
theorem c_X6_close {g : zGT} {w : zW} {b p q : Nat} {L : List Nat} (h0 : zG0 g) (hL : Mk g w b L) (hp : p ≤ q) (hq : q ≤ 400) : zCt g mX6_close (zR 2 0) [.ref (za g b), .int (nI (p)), .int (nI (q))] w (fun o w' => o = .inl none ∧ zFr w w' b (b + 2) ∧ Mk g w' b (lclose p q L)) := by
  obtain ⟨hb, hw, ⟨f, hr, hfk⟩, hn, hx⟩ := id hL
  refine zCt_of (by decide +kernel) h0 [(0, .ref (za g b)), (1, .int (nI (p))), (2, .int (nI (q)))] rfl (Nat.le_of_ble_eq_true rfl) ?_
  have loop : ∀ (m : Nat) (i : Nat) (wi : zW) (O : List Nat) (fi : Nat → Int32), L.length - i < m → (i ≤ L.length) → (zFr w wi b (b + 2)) → (Mkf g wi b O fi) → (O = (L.take i).foldl (lclS p q) []) → (O.length ≤ i) → (∀ k, i ≤ k → k < L.length → fi k = f k) → zTr g mX6_close (zR 2 0) 0 0 12 [(0, .ref (za g b)), (1, .int (nI (p))), (2, .int (nI (q))), (3, .int (nI (L.length))), (4, .int (nI (i)))] [] wi (fun o w' => o = .inl none ∧ zFr w w' b (b + 2) ∧ Mk g w' b (lclose p q L)) := by
    intro m
    induction m with
    | zero => intros; omega
    | succ m ih =>
      intro i wi O fi hm hin hfi hLi hO hOi hi
      have hg : L.getD i 0 ≤ 400 := getD_le hx
      refine z_iload dX6_close_12 rfl ?_
      refine z_iload_n dX6_close_14 rfl ?_
      refine z_icmp_ge_n (a := i) (b := L.length) (tgt := 91) dX6_close_15 (by decide) (by omega) (by omega) (fun h_15_1 => ?_) (fun h_15_1 => ?_)
      · refine z_vret dX6_close_91 rfl (by decide) (by decide) ?_
        refine ⟨rfl, hfi, ?_⟩
        rw [List.take_of_length_le (by omega)] at hO
        unfold lclose; rw [← hO]; exact hLi.mk
      · refine z_aload_n dX6_close_18 rfl ?_
        refine z_iload dX6_close_19 rfl ?_
        refine z_callE (As := [.int (nI (i))]) (rest := []) (b := b) (ci := 6) (v := some (.int (nI (L.getD i 0)))) (R2 := zR 0 0) dX6_close_21 kV_RX6_27 rfl ⟨⟨by decide, by decide⟩, by decide, by decide⟩ (by omega) hLi.2.1 rfl rfl rfl (Nat.le_of_ble_eq_true rfl) rfl (by have h := c_X6_at_raw (t := i) h0 hb hLi.2.1 hLi.2.2.1 (by omega); rw [hi i (Nat.le_refl _) (by omega), hfk i (by omega)] at h; exact h) ?_
        refine z_istore (lv' := [(0, .ref (za g b)), (1, .int (nI (p))), (2, .int (nI (q))), (3, .int (nI (L.length))), (4, .int (nI (i))), (5, .int (nI (L.getD i 0)))]) dX6_close_24 (by decide) rfl ?_
        refine z_iload dX6_close_26 rfl ?_
        refine z_iload_n dX6_close_28 rfl ?_
        refine z_icmp_ge_n (a := L.getD i 0) (b := q) (tgt := 37) dX6_close_29 (by decide) (by omega) (by omega) (fun h_29_3 => ?_) (fun h_29_3 => ?_)
        · refine z_iload dX6_close_37 rfl ?_
          refine z_iload_n dX6_close_39 rfl ?_
          refine z_iload_n dX6_close_40 rfl ?_
          refine z_isub_n (a := q) (b := p) dX6_close_41 (by omega) ?_
          refine z_isub_n (a := L.getD i 0) (b := (q) - (p)) dX6_close_42 (by omega) ?_
          refine z_istore (lv' := [(0, .ref (za g b)), (1, .int (nI (p))), (2, .int (nI (q))), (3, .int (nI (L.length))), (4, .int (nI (i))), (5, .int (nI (L.getD i 0))), (6, .int (nI ((L.getD i 0) - ((q) - (p)))))]) dX6_close_43 (by decide) rfl ?_
          refine z_iload dX6_close_45 rfl ?_
          refine z_iload_n dX6_close_47 rfl ?_
          refine z_icmp_le_n (a := L.getD i 0) (b := p) (tgt := 61) dX6_close_48 (by decide) (by omega) (by omega) (fun h_48_4 => ?_) (fun h_48_4 => ?_)
          · refine z_iconst (v := nI 0) dX6_close_61 rfl ?_
            refine z_istore (lv' := [(0, .ref (za g b)), (1, .int (nI (p))), (2, .int (nI (q))), (3, .int (nI (L.length))), (4, .int (nI (i))), (5, .int (nI (L.getD i 0))), (6, .int (nI ((L.getD i 0) - ((q) - (p))))), (7, .int (nI (0)))]) dX6_close_62 (by decide) rfl ?_
            refine z_iload dX6_close_64 rfl ?_
            refine z_if_ne_n (a := 0) (tgt := 85) dX6_close_66 (by decide) (by omega) (fun h_66_5 => ?_) (fun h_66_5 => ?_)
            · exact absurd h_66_5 (by decide)
            · refine z_aload_n dX6_close_69 rfl ?_
              refine z_iload dX6_close_70 rfl ?_
              refine z_callE (As := [.int (nI ((L.getD i 0) - ((q) - (p))))]) (rest := []) (b := b) (ci := 6) (v := some (.int (Int32.ofInt (lidx (fun x => decide ((x : Int) = (nI ((L.getD i 0) - ((q) - (p)))).toInt)) O 0)))) (R2 := zR 1 0) dX6_close_72 kV_RX6_38 rfl ⟨⟨by decide, by decide⟩, by decide, by decide⟩ (by omega) hLi.2.1 rfl rfl rfl (Nat.le_of_ble_eq_true rfl) rfl (c_X6_indexAt (t := nI ((L.getD i 0) - ((q) - (p)))) h0 hLi.mk) ?_
              refine z_iconst (v := -1) dX6_close_75 rfl ?_
              have hz9 : (Int32.ofInt (lidx (fun x => decide ((x : Int) = (nI ((L.getD i 0) - ((q) - (p)))).toInt)) O 0)).toInt = lidx (fun x => decide ((x : Int) = (((L.getD i 0) - ((q) - (p)) : Nat) : Int))) O 0 := by rw [lidx_toInt _ (by omega), nI_toInt (n := (L.getD i 0) - ((q) - (p))) (by omega)]
              have hm1 : (-1 : Int32).toInt = -1 := rfl
              refine z_icmp_ne_z (tgt := 85) dX6_close_76 (by decide) (fun h_76_7 => ?_) (fun h_76_7 => ?_)
              · refine z_iinc_n (n := 1) (a := i) (lv' := [(0, .ref (za g b)), (1, .int (nI (p))), (2, .int (nI (q))), (3, .int (nI (L.length))), (4, .int (nI (i + 1))), (5, .int (nI (L.getD i 0))), (6, .int (nI ((L.getD i 0) - ((q) - (p))))), (7, .int (nI (0)))]) dX6_close_85 rfl (by decide) rfl ?_
                refine z_goto (tgt := 12) dX6_close_88 (by decide) ?_
                refine z_sub (lv' := [(0, .ref (za g b)), (1, .int (nI (p))), (2, .int (nI (q))), (3, .int (nI (L.length))), (4, .int (nI (i + 1)))]) [0, 1, 2, 3, 4] rfl ?_
                have hsel : (if L.getD i 0 < q then L.getD i 0 else L.getD i 0 - (q - p)) = L.getD i 0 - (q - p) := by split <;> first | rfl | omega
                have hm9 : L.getD i 0 - (q - p) ∈ O := by
                  rcases lidx_mem (L.getD i 0 - (q - p)) O with ⟨h1, h2⟩ | ⟨h1, h2⟩
                  · rw [hz9] at h_76_7; exact absurd h1 (by first | exact h_76_7 | (intro z; exact h_76_7 z))
                  · exact h2
                refine ih (i + 1) wi O fi (by omega) (by omega) hfi hLi ?_ (by omega) (fun k hk hk2 => hi k (by omega) hk2)
                rw [foldl_take (by omega), ← hO]
                exact (if_pos (Or.inr (by rw [hsel]; exact hm9))).symm
              · refine z_aload_n dX6_close_79 rfl ?_
                refine z_iload dX6_close_80 rfl ?_
                refine z_callR (As := [.int (nI ((L.getD i 0) - ((q) - (p))))]) (rest := []) (b := b) (ci := 6) (v := none) (R2 := zR 1 0) dX6_close_82 kV_RX6_31 rfl ⟨⟨by decide, by decide⟩, by decide, by decide⟩ (by omega) hLi.2.1 rfl rfl rfl (Nat.le_of_ble_eq_true rfl) rfl (c_X6_append_f (x := (L.getD i 0) - ((q) - (p))) h0 hLi (by omega) (by omega)) (fun w8 pw8 => ?_)
                obtain ⟨hf_w8, hM_w8⟩ := pw8
                refine z_iinc_n (n := 1) (a := i) (lv' := [(0, .ref (za g b)), (1, .int (nI (p))), (2, .int (nI (q))), (3, .int (nI (L.length))), (4, .int (nI (i + 1))), (5, .int (nI (L.getD i 0))), (6, .int (nI ((L.getD i 0) - ((q) - (p))))), (7, .int (nI (0)))]) dX6_close_85 rfl (by decide) rfl ?_
                refine z_goto (tgt := 12) dX6_close_88 (by decide) ?_
                refine z_sub (lv' := [(0, .ref (za g b)), (1, .int (nI (p))), (2, .int (nI (q))), (3, .int (nI (L.length))), (4, .int (nI (i + 1)))]) [0, 1, 2, 3, 4] rfl ?_
                have hsel : (if L.getD i 0 < q then L.getD i 0 else L.getD i 0 - (q - p)) = L.getD i 0 - (q - p) := by split <;> first | rfl | omega
                have hm9 : L.getD i 0 - (q - p) ∉ O := by
                  rcases lidx_mem (L.getD i 0 - (q - p)) O with ⟨h1, h2⟩ | ⟨h1, h2⟩
                  · exact h2
                  · rw [hz9] at h_76_7; omega
                refine ih (i + 1) _ (O ++ [L.getD i 0 - (q - p)]) _ (by omega) (by omega) (hfi.tr hf_w8) hM_w8 ?_ (by simp; omega) (fun k hk hk2 => ?_)
                · rw [foldl_take (by omega), ← hO]
                  unfold lclS
                  rw [hsel, if_neg]
                  rintro (z | z)
                  · omega
                  · exact hm9 z
                · simp only [upd]; rw [if_neg (by omega)]; exact hi k (by omega) hk2
          · refine z_iload dX6_close_51 rfl ?_
            refine z_iload_n dX6_close_53 rfl ?_
            refine z_icmp_ge_n (a := L.getD i 0) (b := q) (tgt := 61) dX6_close_54 (by decide) (by omega) (by omega) (fun h_54_9 => ?_) (fun h_54_9 => ?_)
            · refine z_iconst (v := nI 0) dX6_close_61 rfl ?_
              refine z_istore (lv' := [(0, .ref (za g b)), (1, .int (nI (p))), (2, .int (nI (q))), (3, .int (nI (L.length))), (4, .int (nI (i))), (5, .int (nI (L.getD i 0))), (6, .int (nI ((L.getD i 0) - ((q) - (p))))), (7, .int (nI (0)))]) dX6_close_62 (by decide) rfl ?_
              refine z_iload dX6_close_64 rfl ?_
              refine z_if_ne_n (a := 0) (tgt := 85) dX6_close_66 (by decide) (by omega) (fun h_66_10 => ?_) (fun h_66_10 => ?_)
              · exact absurd h_66_10 (by decide)
              · refine z_aload_n dX6_close_69 rfl ?_
                refine z_iload dX6_close_70 rfl ?_
                refine z_callE (As := [.int (nI ((L.getD i 0) - ((q) - (p))))]) (rest := []) (b := b) (ci := 6) (v := some (.int (Int32.ofInt (lidx (fun x => decide ((x : Int) = (nI ((L.getD i 0) - ((q) - (p)))).toInt)) O 0)))) (R2 := zR 1 0) dX6_close_72 kV_RX6_38 rfl ⟨⟨by decide, by decide⟩, by decide, by decide⟩ (by omega) hLi.2.1 rfl rfl rfl (Nat.le_of_ble_eq_true rfl) rfl (c_X6_indexAt (t := nI ((L.getD i 0) - ((q) - (p)))) h0 hLi.mk) ?_
                refine z_iconst (v := -1) dX6_close_75 rfl ?_
                have hz9 : (Int32.ofInt (lidx (fun x => decide ((x : Int) = (nI ((L.getD i 0) - ((q) - (p)))).toInt)) O 0)).toInt = lidx (fun x => decide ((x : Int) = (((L.getD i 0) - ((q) - (p)) : Nat) : Int))) O 0 := by rw [lidx_toInt _ (by omega), nI_toInt (n := (L.getD i 0) - ((q) - (p))) (by omega)]
                have hm1 : (-1 : Int32).toInt = -1 := rfl
                refine z_icmp_ne_z (tgt := 85) dX6_close_76 (by decide) (fun h_76_12 => ?_) (fun h_76_12 => ?_)
                · refine z_iinc_n (n := 1) (a := i) (lv' := [(0, .ref (za g b)), (1, .int (nI (p))), (2, .int (nI (q))), (3, .int (nI (L.length))), (4, .int (nI (i + 1))), (5, .int (nI (L.getD i 0))), (6, .int (nI ((L.getD i 0) - ((q) - (p))))), (7, .int (nI (0)))]) dX6_close_85 rfl (by decide) rfl ?_
                  refine z_goto (tgt := 12) dX6_close_88 (by decide) ?_
                  refine z_sub (lv' := [(0, .ref (za g b)), (1, .int (nI (p))), (2, .int (nI (q))), (3, .int (nI (L.length))), (4, .int (nI (i + 1)))]) [0, 1, 2, 3, 4] rfl ?_
                  have hsel : (if L.getD i 0 < q then L.getD i 0 else L.getD i 0 - (q - p)) = L.getD i 0 - (q - p) := by split <;> first | rfl | omega
                  have hm9 : L.getD i 0 - (q - p) ∈ O := by
                    rcases lidx_mem (L.getD i 0 - (q - p)) O with ⟨h1, h2⟩ | ⟨h1, h2⟩
                    · rw [hz9] at h_76_12; exact absurd h1 (by first | exact h_76_12 | (intro z; exact h_76_12 z))
                    · exact h2
                  refine ih (i + 1) wi O fi (by omega) (by omega) hfi hLi ?_ (by omega) (fun k hk hk2 => hi k (by omega) hk2)
                  rw [foldl_take (by omega), ← hO]
                  exact (if_pos (Or.inr (by rw [hsel]; exact hm9))).symm
                · refine z_aload_n dX6_close_79 rfl ?_
                  refine z_iload dX6_close_80 rfl ?_
                  refine z_callR (As := [.int (nI ((L.getD i 0) - ((q) - (p))))]) (rest := []) (b := b) (ci := 6) (v := none) (R2 := zR 1 0) dX6_close_82 kV_RX6_31 rfl ⟨⟨by decide, by decide⟩, by decide, by decide⟩ (by omega) hLi.2.1 rfl rfl rfl (Nat.le_of_ble_eq_true rfl) rfl (c_X6_append_f (x := (L.getD i 0) - ((q) - (p))) h0 hLi (by omega) (by omega)) (fun w13 pw13 => ?_)
                  obtain ⟨hf_w13, hM_w13⟩ := pw13
                  refine z_iinc_n (n := 1) (a := i) (lv' := [(0, .ref (za g b)), (1, .int (nI (p))), (2, .int (nI (q))), (3, .int (nI (L.length))), (4, .int (nI (i + 1))), (5, .int (nI (L.getD i 0))), (6, .int (nI ((L.getD i 0) - ((q) - (p))))), (7, .int (nI (0)))]) dX6_close_85 rfl (by decide) rfl ?_
                  refine z_goto (tgt := 12) dX6_close_88 (by decide) ?_
                  refine z_sub (lv' := [(0, .ref (za g b)), (1, .int (nI (p))), (2, .int (nI (q))), (3, .int (nI (L.length))), (4, .int (nI (i + 1)))]) [0, 1, 2, 3, 4] rfl ?_
                  have hsel : (if L.getD i 0 < q then L.getD i 0 else L.getD i 0 - (q - p)) = L.getD i 0 - (q - p) := by split <;> first | rfl | omega
                  have hm9 : L.getD i 0 - (q - p) ∉ O := by
                    rcases lidx_mem (L.getD i 0 - (q - p)) O with ⟨h1, h2⟩ | ⟨h1, h2⟩
                    · exact h2
                    · rw [hz9] at h_76_12; omega
                  refine ih (i + 1) _ (O ++ [L.getD i 0 - (q - p)]) _ (by omega) (by omega) (hfi.tr hf_w13) hM_w13 ?_ (by simp; omega) (fun k hk hk2 => ?_)
                  · rw [foldl_take (by omega), ← hO]
                    unfold lclS
                    rw [hsel, if_neg]
                    rintro (z | z)
                    · omega
                    · exact hm9 z
                  · simp only [upd]; rw [if_neg (by omega)]; exact hi k (by omega) hk2
            · refine z_iconst (v := nI 1) dX6_close_57 rfl ?_
              refine z_goto (tgt := 62) dX6_close_58 (by decide) ?_
              refine z_istore (lv' := [(0, .ref (za g b)), (1, .int (nI (p))), (2, .int (nI (q))), (3, .int (nI (L.length))), (4, .int (nI (i))), (5, .int (nI (L.getD i 0))), (6, .int (nI ((L.getD i 0) - ((q) - (p))))), (7, .int (nI (1)))]) dX6_close_62 (by decide) rfl ?_
              refine z_iload dX6_close_64 rfl ?_
              refine z_if_ne_n (a := 1) (tgt := 85) dX6_close_66 (by decide) (by omega) (fun h_66_14 => ?_) (fun h_66_14 => ?_)
              · refine z_iinc_n (n := 1) (a := i) (lv' := [(0, .ref (za g b)), (1, .int (nI (p))), (2, .int (nI (q))), (3, .int (nI (L.length))), (4, .int (nI (i + 1))), (5, .int (nI (L.getD i 0))), (6, .int (nI ((L.getD i 0) - ((q) - (p))))), (7, .int (nI (1)))]) dX6_close_85 rfl (by decide) rfl ?_
                refine z_goto (tgt := 12) dX6_close_88 (by decide) ?_
                refine z_sub (lv' := [(0, .ref (za g b)), (1, .int (nI (p))), (2, .int (nI (q))), (3, .int (nI (L.length))), (4, .int (nI (i + 1)))]) [0, 1, 2, 3, 4] rfl ?_
                have hsel : (if L.getD i 0 < q then L.getD i 0 else L.getD i 0 - (q - p)) = L.getD i 0 - (q - p) := by split <;> first | rfl | omega
                refine ih (i + 1) wi O fi (by omega) (by omega) hfi hLi ?_ (by omega) (fun k hk hk2 => hi k (by omega) hk2)
                rw [foldl_take (by omega), ← hO]
                exact (if_pos (Or.inl (by omega))).symm
              · exact absurd h_66_14 (by decide)
        · refine z_iload dX6_close_32 rfl ?_
          refine z_goto (tgt := 43) dX6_close_34 (by decide) ?_
          refine z_istore (lv' := [(0, .ref (za g b)), (1, .int (nI (p))), (2, .int (nI (q))), (3, .int (nI (L.length))), (4, .int (nI (i))), (5, .int (nI (L.getD i 0))), (6, .int (nI (L.getD i 0)))]) dX6_close_43 (by decide) rfl ?_
          refine z_iload dX6_close_45 rfl ?_
          refine z_iload_n dX6_close_47 rfl ?_
          refine z_icmp_le_n (a := L.getD i 0) (b := p) (tgt := 61) dX6_close_48 (by decide) (by omega) (by omega) (fun h_48_15 => ?_) (fun h_48_15 => ?_)
          · refine z_iconst (v := nI 0) dX6_close_61 rfl ?_
            refine z_istore (lv' := [(0, .ref (za g b)), (1, .int (nI (p))), (2, .int (nI (q))), (3, .int (nI (L.length))), (4, .int (nI (i))), (5, .int (nI (L.getD i 0))), (6, .int (nI (L.getD i 0))), (7, .int (nI (0)))]) dX6_close_62 (by decide) rfl ?_
            refine z_iload dX6_close_64 rfl ?_
            refine z_if_ne_n (a := 0) (tgt := 85) dX6_close_66 (by decide) (by omega) (fun h_66_16 => ?_) (fun h_66_16 => ?_)
            · exact absurd h_66_16 (by decide)
            · refine z_aload_n dX6_close_69 rfl ?_
              refine z_iload dX6_close_70 rfl ?_
              refine z_callE (As := [.int (nI (L.getD i 0))]) (rest := []) (b := b) (ci := 6) (v := some (.int (Int32.ofInt (lidx (fun x => decide ((x : Int) = (nI (L.getD i 0)).toInt)) O 0)))) (R2 := zR 1 0) dX6_close_72 kV_RX6_38 rfl ⟨⟨by decide, by decide⟩, by decide, by decide⟩ (by omega) hLi.2.1 rfl rfl rfl (Nat.le_of_ble_eq_true rfl) rfl (c_X6_indexAt (t := nI (L.getD i 0)) h0 hLi.mk) ?_
              refine z_iconst (v := -1) dX6_close_75 rfl ?_
              have hz9 : (Int32.ofInt (lidx (fun x => decide ((x : Int) = (nI (L.getD i 0)).toInt)) O 0)).toInt = lidx (fun x => decide ((x : Int) = ((L.getD i 0 : Nat) : Int))) O 0 := by rw [lidx_toInt _ (by omega), nI_toInt (n := L.getD i 0) (by omega)]
              have hm1 : (-1 : Int32).toInt = -1 := rfl
              refine z_icmp_ne_z (tgt := 85) dX6_close_76 (by decide) (fun h_76_18 => ?_) (fun h_76_18 => ?_)
              · refine z_iinc_n (n := 1) (a := i) (lv' := [(0, .ref (za g b)), (1, .int (nI (p))), (2, .int (nI (q))), (3, .int (nI (L.length))), (4, .int (nI (i + 1))), (5, .int (nI (L.getD i 0))), (6, .int (nI (L.getD i 0))), (7, .int (nI (0)))]) dX6_close_85 rfl (by decide) rfl ?_
                refine z_goto (tgt := 12) dX6_close_88 (by decide) ?_
                refine z_sub (lv' := [(0, .ref (za g b)), (1, .int (nI (p))), (2, .int (nI (q))), (3, .int (nI (L.length))), (4, .int (nI (i + 1)))]) [0, 1, 2, 3, 4] rfl ?_
                have hsel : (if L.getD i 0 < q then L.getD i 0 else L.getD i 0 - (q - p)) = L.getD i 0 := by split <;> first | rfl | omega
                have hm9 : L.getD i 0 ∈ O := by
                  rcases lidx_mem (L.getD i 0) O with ⟨h1, h2⟩ | ⟨h1, h2⟩
                  · rw [hz9] at h_76_18; exact absurd h1 (by first | exact h_76_18 | (intro z; exact h_76_18 z))
                  · exact h2
                refine ih (i + 1) wi O fi (by omega) (by omega) hfi hLi ?_ (by omega) (fun k hk hk2 => hi k (by omega) hk2)
                rw [foldl_take (by omega), ← hO]
                exact (if_pos (Or.inr (by rw [hsel]; exact hm9))).symm
              · refine z_aload_n dX6_close_79 rfl ?_
                refine z_iload dX6_close_80 rfl ?_
                refine z_callR (As := [.int (nI (L.getD i 0))]) (rest := []) (b := b) (ci := 6) (v := none) (R2 := zR 1 0) dX6_close_82 kV_RX6_31 rfl ⟨⟨by decide, by decide⟩, by decide, by decide⟩ (by omega) hLi.2.1 rfl rfl rfl (Nat.le_of_ble_eq_true rfl) rfl (c_X6_append_f (x := L.getD i 0) h0 hLi (by omega) (by omega)) (fun w19 pw19 => ?_)
                obtain ⟨hf_w19, hM_w19⟩ := pw19
                refine z_iinc_n (n := 1) (a := i) (lv' := [(0, .ref (za g b)), (1, .int (nI (p))), (2, .int (nI (q))), (3, .int (nI (L.length))), (4, .int (nI (i + 1))), (5, .int (nI (L.getD i 0))), (6, .int (nI (L.getD i 0))), (7, .int (nI (0)))]) dX6_close_85 rfl (by decide) rfl ?_
                refine z_goto (tgt := 12) dX6_close_88 (by decide) ?_
                refine z_sub (lv' := [(0, .ref (za g b)), (1, .int (nI (p))), (2, .int (nI (q))), (3, .int (nI (L.length))), (4, .int (nI (i + 1)))]) [0, 1, 2, 3, 4] rfl ?_
                have hsel : (if L.getD i 0 < q then L.getD i 0 else L.getD i 0 - (q - p)) = L.getD i 0 := by split <;> first | rfl | omega
                have hm9 : L.getD i 0 ∉ O := by
                  rcases lidx_mem (L.getD i 0) O with ⟨h1, h2⟩ | ⟨h1, h2⟩
                  · exact h2
                  · rw [hz9] at h_76_18; omega
                refine ih (i + 1) _ (O ++ [L.getD i 0]) _ (by omega) (by omega) (hfi.tr hf_w19) hM_w19 ?_ (by simp; omega) (fun k hk hk2 => ?_)
                · rw [foldl_take (by omega), ← hO]
                  unfold lclS
                  rw [hsel, if_neg]
                  rintro (z | z)
                  · omega
                  · exact hm9 z
                · simp only [upd]; rw [if_neg (by omega)]; exact hi k (by omega) hk2
          · refine z_iload dX6_close_51 rfl ?_
            refine z_iload_n dX6_close_53 rfl ?_
            refine z_icmp_ge_n (a := L.getD i 0) (b := q) (tgt := 61) dX6_close_54 (by decide) (by omega) (by omega) (fun h_54_20 => ?_) (fun h_54_20 => ?_)
            · refine z_iconst (v := nI 0) dX6_close_61 rfl ?_
              refine z_istore (lv' := [(0, .ref (za g b)), (1, .int (nI (p))), (2, .int (nI (q))), (3, .int (nI (L.length))), (4, .int (nI (i))), (5, .int (nI (L.getD i 0))), (6, .int (nI (L.getD i 0))), (7, .int (nI (0)))]) dX6_close_62 (by decide) rfl ?_
              refine z_iload dX6_close_64 rfl ?_
              refine z_if_ne_n (a := 0) (tgt := 85) dX6_close_66 (by decide) (by omega) (fun h_66_21 => ?_) (fun h_66_21 => ?_)
              · exact absurd h_66_21 (by decide)
              · refine z_aload_n dX6_close_69 rfl ?_
                refine z_iload dX6_close_70 rfl ?_
                refine z_callE (As := [.int (nI (L.getD i 0))]) (rest := []) (b := b) (ci := 6) (v := some (.int (Int32.ofInt (lidx (fun x => decide ((x : Int) = (nI (L.getD i 0)).toInt)) O 0)))) (R2 := zR 1 0) dX6_close_72 kV_RX6_38 rfl ⟨⟨by decide, by decide⟩, by decide, by decide⟩ (by omega) hLi.2.1 rfl rfl rfl (Nat.le_of_ble_eq_true rfl) rfl (c_X6_indexAt (t := nI (L.getD i 0)) h0 hLi.mk) ?_
                refine z_iconst (v := -1) dX6_close_75 rfl ?_
                have hz9 : (Int32.ofInt (lidx (fun x => decide ((x : Int) = (nI (L.getD i 0)).toInt)) O 0)).toInt = lidx (fun x => decide ((x : Int) = ((L.getD i 0 : Nat) : Int))) O 0 := by rw [lidx_toInt _ (by omega), nI_toInt (n := L.getD i 0) (by omega)]
                have hm1 : (-1 : Int32).toInt = -1 := rfl
                refine z_icmp_ne_z (tgt := 85) dX6_close_76 (by decide) (fun h_76_23 => ?_) (fun h_76_23 => ?_)
                · refine z_iinc_n (n := 1) (a := i) (lv' := [(0, .ref (za g b)), (1, .int (nI (p))), (2, .int (nI (q))), (3, .int (nI (L.length))), (4, .int (nI (i + 1))), (5, .int (nI (L.getD i 0))), (6, .int (nI (L.getD i 0))), (7, .int (nI (0)))]) dX6_close_85 rfl (by decide) rfl ?_
                  refine z_goto (tgt := 12) dX6_close_88 (by decide) ?_
                  refine z_sub (lv' := [(0, .ref (za g b)), (1, .int (nI (p))), (2, .int (nI (q))), (3, .int (nI (L.length))), (4, .int (nI (i + 1)))]) [0, 1, 2, 3, 4] rfl ?_
                  have hsel : (if L.getD i 0 < q then L.getD i 0 else L.getD i 0 - (q - p)) = L.getD i 0 := by split <;> first | rfl | omega
                  have hm9 : L.getD i 0 ∈ O := by
                    rcases lidx_mem (L.getD i 0) O with ⟨h1, h2⟩ | ⟨h1, h2⟩
                    · rw [hz9] at h_76_23; exact absurd h1 (by first | exact h_76_23 | (intro z; exact h_76_23 z))
                    · exact h2
                  refine ih (i + 1) wi O fi (by omega) (by omega) hfi hLi ?_ (by omega) (fun k hk hk2 => hi k (by omega) hk2)
                  rw [foldl_take (by omega), ← hO]
                  exact (if_pos (Or.inr (by rw [hsel]; exact hm9))).symm
                · refine z_aload_n dX6_close_79 rfl ?_
                  refine z_iload dX6_close_80 rfl ?_
                  refine z_callR (As := [.int (nI (L.getD i 0))]) (rest := []) (b := b) (ci := 6) (v := none) (R2 := zR 1 0) dX6_close_82 kV_RX6_31 rfl ⟨⟨by decide, by decide⟩, by decide, by decide⟩ (by omega) hLi.2.1 rfl rfl rfl (Nat.le_of_ble_eq_true rfl) rfl (c_X6_append_f (x := L.getD i 0) h0 hLi (by omega) (by omega)) (fun w24 pw24 => ?_)
                  obtain ⟨hf_w24, hM_w24⟩ := pw24
                  refine z_iinc_n (n := 1) (a := i) (lv' := [(0, .ref (za g b)), (1, .int (nI (p))), (2, .int (nI (q))), (3, .int (nI (L.length))), (4, .int (nI (i + 1))), (5, .int (nI (L.getD i 0))), (6, .int (nI (L.getD i 0))), (7, .int (nI (0)))]) dX6_close_85 rfl (by decide) rfl ?_
                  refine z_goto (tgt := 12) dX6_close_88 (by decide) ?_
                  refine z_sub (lv' := [(0, .ref (za g b)), (1, .int (nI (p))), (2, .int (nI (q))), (3, .int (nI (L.length))), (4, .int (nI (i + 1)))]) [0, 1, 2, 3, 4] rfl ?_
                  have hsel : (if L.getD i 0 < q then L.getD i 0 else L.getD i 0 - (q - p)) = L.getD i 0 := by split <;> first | rfl | omega
                  have hm9 : L.getD i 0 ∉ O := by
                    rcases lidx_mem (L.getD i 0) O with ⟨h1, h2⟩ | ⟨h1, h2⟩
                    · exact h2
                    · rw [hz9] at h_76_23; omega
                  refine ih (i + 1) _ (O ++ [L.getD i 0]) _ (by omega) (by omega) (hfi.tr hf_w24) hM_w24 ?_ (by simp; omega) (fun k hk hk2 => ?_)
                  · rw [foldl_take (by omega), ← hO]
                    unfold lclS
                    rw [hsel, if_neg]
                    rintro (z | z)
                    · omega
                    · exact hm9 z
                  · simp only [upd]; rw [if_neg (by omega)]; exact hi k (by omega) hk2
            · refine z_iconst (v := nI 1) dX6_close_57 rfl ?_
              refine z_goto (tgt := 62) dX6_close_58 (by decide) ?_
              refine z_istore (lv' := [(0, .ref (za g b)), (1, .int (nI (p))), (2, .int (nI (q))), (3, .int (nI (L.length))), (4, .int (nI (i))), (5, .int (nI (L.getD i 0))), (6, .int (nI (L.getD i 0))), (7, .int (nI (1)))]) dX6_close_62 (by decide) rfl ?_
              refine z_iload dX6_close_64 rfl ?_
              refine z_if_ne_n (a := 1) (tgt := 85) dX6_close_66 (by decide) (by omega) (fun h_66_25 => ?_) (fun h_66_25 => ?_)
              · refine z_iinc_n (n := 1) (a := i) (lv' := [(0, .ref (za g b)), (1, .int (nI (p))), (2, .int (nI (q))), (3, .int (nI (L.length))), (4, .int (nI (i + 1))), (5, .int (nI (L.getD i 0))), (6, .int (nI (L.getD i 0))), (7, .int (nI (1)))]) dX6_close_85 rfl (by decide) rfl ?_
                refine z_goto (tgt := 12) dX6_close_88 (by decide) ?_
                refine z_sub (lv' := [(0, .ref (za g b)), (1, .int (nI (p))), (2, .int (nI (q))), (3, .int (nI (L.length))), (4, .int (nI (i + 1)))]) [0, 1, 2, 3, 4] rfl ?_
                have hsel : (if L.getD i 0 < q then L.getD i 0 else L.getD i 0 - (q - p)) = L.getD i 0 := by split <;> first | rfl | omega
                refine ih (i + 1) wi O fi (by omega) (by omega) hfi hLi ?_ (by omega) (fun k hk hk2 => hi k (by omega) hk2)
                rw [foldl_take (by omega), ← hO]
                exact (if_pos (Or.inl (by omega))).symm
              · exact absurd h_66_25 (by decide)
  refine z_aload_n dX6_close_0 rfl ?_
  refine z_getf (j := b) dX6_close_1 kF_RX6_15 rfl (by omega) hw rfl ?_
  refine z_istore_n (lv' := [(0, .ref (za g b)), (1, .int (nI (p))), (2, .int (nI (q))), (3, .int (nI (L.length)))]) dX6_close_4 (by decide) rfl ?_
  refine z_aload_n dX6_close_5 rfl ?_
  refine z_callR (As := []) (rest := []) (b := b) (ci := 6) (v := none) (R2 := zR 0 0) dX6_close_6 kV_RX6_35 rfl ⟨⟨by decide, by decide⟩, by decide, by decide⟩ (by omega) hw rfl rfl rfl (Nat.le_of_ble_eq_true rfl) rfl (c_X6_clear_raw h0 hb hw hr) (fun w1 pw1 => ?_)
  obtain ⟨hf1, e1, e2⟩ := pw1
  refine z_iconst (v := nI 0) dX6_close_9 rfl ?_
  refine z_istore (lv' := [(0, .ref (za g b)), (1, .int (nI (p))), (2, .int (nI (q))), (3, .int (nI (L.length))), (4, .int (nI (0)))]) dX6_close_10 (by decide) rfl ?_
  exact loop (L.length + 1) 0 _ [] f (by omega) (Nat.zero_le _) hf1 ⟨hb, e1, e2, fun k hk => absurd hk (Nat.not_lt_zero k), Nat.zero_le _, fun y hy => nomatch hy⟩ rfl (Nat.le_refl _) (fun k _ _ => rfl)
