/-! module Runs -/
def IsR (T : Nat → Nat) (n m : Nat) (s l v : Nat → Nat) : Prop := m ≤ n ∧ (m = 0 → n = 0) ∧ (0 < m → s 0 = 0) ∧ (∀ r, r + 1 < m → s (r + 1) = s r + l r) ∧ (0 < m → s (m - 1) + l (m - 1) = n) ∧ (∀ r, r < m → 0 < l r ∧ s r + l r ≤ n) ∧ (∀ r, r < m → ∀ k, s r ≤ k → k < s r + l r → T k = v r) ∧ ∀ r, r + 1 < m → v r ≠ v (r + 1)
theorem IsR.zero {T : Nat → Nat} {s l v : Nat → Nat} : IsR T 0 0 s l v := ⟨Nat.le_refl _, fun _ => rfl, fun h => absurd h (Nat.lt_irrefl _), fun r h => absurd h (Nat.not_lt_zero _), fun h => absurd h (Nat.lt_irrefl _), fun r h => absurd h (Nat.not_lt_zero _), fun r h => absurd h (Nat.not_lt_zero _), fun r h => absurd h (Nat.not_lt_zero _)⟩
theorem IsR.last {T : Nat → Nat} {n m : Nat} {s l v : Nat → Nat} (h : IsR T n m s l v) (hm : 0 < m) : T (n - 1) = v (m - 1) := by
  obtain ⟨h1, h2, h3, h4, h5, h6, h7, h8⟩ := h
  have a := h5 hm
  have b := h6 (m - 1) (by omega)
  exact h7 (m - 1) (by omega) (n - 1) (by omega) (by omega)
theorem IsR.beg {T : Nat → Nat} {n m : Nat} {s l v : Nat → Nat} (h : IsR T n m s l v) (hn : n = 0 ∨ T n ≠ T (n - 1)) : IsR T (n + 1) (m + 1) (va_up s m n) (va_up l m 1) (va_up v m (T n)) := by
  have hl := fun hm => h.last hm
  obtain ⟨h1, h2, h3, h4, h5, h6, h7, h8⟩ := h
  refine ⟨by omega, by omega, fun _ => ?_, fun r hr => ?_, fun _ => ?_, fun r hr => ?_, fun r hr k hk hk2 => ?_, fun r hr => ?_⟩
  · simp only [va_up]; split
    · omega
    · exact h3 (by omega)
  · simp only [va_up]; rw [if_neg (show ¬ r = m by omega), if_neg (show ¬ r = m by omega)]; split
    · rename_i e; subst e; have := h5 (by omega); rw [show r + 1 - 1 = r by omega] at this; omega
    · exact h4 r (by omega)
  · simp [va_up]
  · simp only [va_up]; split
    · omega
    · have := h6 r (by omega); omega
  · simp only [va_up] at hk hk2 ⊢; split
    · rename_i e; subst e; rw [if_pos rfl] at hk hk2; rw [if_pos rfl] at hk2; rw [show k = n by omega]
    · rename_i e; rw [if_neg e] at hk hk2; rw [if_neg e] at hk2; exact h7 r (by omega) k hk hk2
  · simp only [va_up]; rw [if_neg (show ¬ r = m by omega)]; split
    · rename_i e; subst e
      have := hl (by omega)
      rw [show r + 1 - 1 = r by omega] at this
      rcases hn with q | q
      · omega
      · rw [← this]; exact fun z => q z.symm
    · exact h8 r (by omega)
theorem IsR.len {T : Nat → Nat} {n m : Nat} {s l v : Nat → Nat} (h : IsR T n m s l v) (hm : 0 < m) (hn : T n = T (n - 1)) : IsR T (n + 1) m s (va_up l (m - 1) (l (m - 1) + 1)) v := by
  have hl := h.last hm
  obtain ⟨h1, h2, h3, h4, h5, h6, h7, h8⟩ := h
  have h9 := h5 hm
  refine ⟨by omega, by omega, h3, fun r hr => ?_, fun _ => ?_, fun r hr => ?_, fun r hr k hk hk2 => ?_, h8⟩
  · simp only [va_up]; rw [if_neg (by omega)]; exact h4 r hr
  · simp only [va_up]; rw [if_pos trivial]; omega
  · simp only [va_up]; split
    · rename_i e; subst e; omega
    · have := h6 r hr; omega
  · simp only [va_up] at hk2
    split at hk2
    · rename_i e; subst e
      rcases Nat.lt_or_ge k n with q | q
      · exact h7 (m - 1) (by omega) k hk (by omega)
      · rw [show k = n by omega, hn, hl]
    · exact h7 r hr k hk hk2
def Rn (g : zGT) (w : zW) (b m : Nat) (s l v : Nat → Nat) : Prop := b + 3 < zn g ∧ w b = zO 8 [.ref (za g (b + 1)), .ref (za g (b + 2)), .ref (za g (b + 3)), .int (nI m)] ∧ m ≤ 200 ∧ ∃ f1 f2 f3, w (b + 1) = zI g 200 f1 ∧ w (b + 2) = zI g 200 f2 ∧ w (b + 3) = zI g 200 f3 ∧ ∀ r, r < m → (f1 r = nI (s r) ∧ f2 r = nI (l r) ∧ f3 r = nI (v r)) ∧ s r ≤ 200 ∧ l r ≤ 200 ∧ v r ≤ 9
theorem Rn.fr {g : zGT} {w w1 : zW} {b m lo hi : Nat} {s l v : Nat → Nat} (h : Rn g w b m s l v) (hf : zFr w w1 lo hi) (hd : b + 3 < lo ∨ hi ≤ b) : Rn g w1 b m s l v := ⟨h.1, (hf b (by omega)).trans h.2.1, h.2.2.1, by rw [hf (b + 1) (by omega), hf (b + 2) (by omega), hf (b + 3) (by omega)]; exact h.2.2.2⟩
set_option maxRecDepth 100000 in
set_option maxHeartbeats 4000000 in
theorem c_X8_count {g : zGT} {w : zW} {b m : Nat} {s l v : Nat → Nat} (h0 : zG0 g) (hR : Rn g w b m s l v) : zCt g mX8_count (zR 0 0) [.ref (za g b)] w (fun o w' => o = .inl (some (.int (nI m))) ∧ w' = w) := by
  obtain ⟨hb, hw, hm, f1, f2, f3, hr1, hr2, hr3, hk⟩ := id hR
  refine zCt_of (by decide +kernel) h0 [(0, .ref (za g b))] rfl (Nat.le_of_ble_eq_true rfl) ?_
  refine z_aload_n dX8_count_0 rfl ?_
  refine z_getf (j := b) dX8_count_1 kF_RX8_21 rfl (by omega) hw rfl ?_
  refine z_iret dX8_count_4 rfl (by decide) (by decide) ?_
  exact ⟨rfl, rfl⟩
set_option maxRecDepth 100000 in
set_option maxHeartbeats 4000000 in
theorem c_X8_has {g : zGT} {w : zW} {b m : Nat} {s l v : Nat → Nat} {t : Int32} (h0 : zG0 g) (hR : Rn g w b m s l v) : zCt g mX8_has (zR 0 0) [.ref (za g b), .int (t)] w (fun o w' => o = .inl (some (.int (if 0 ≤ t.toInt ∧ t.toInt < m then 1 else 0))) ∧ w' = w) := by
  obtain ⟨hb, hw, hm, f1, f2, f3, hr1, hr2, hr3, hk⟩ := id hR
  refine zCt_of (by decide +kernel) h0 [(0, .ref (za g b)), (1, .int (t))] rfl (Nat.le_of_ble_eq_true rfl) ?_
  have hz0 : (nI m).toInt = m := nI_toInt (by omega)
  refine z_iload_n dX8_has_0 rfl ?_
  refine z_if_lt_z (tgt := 16) dX8_has_1 (by decide) (fun h_1_1 => ?_) (fun h_1_1 => ?_)
  · refine z_iconst (v := nI 0) dX8_has_16 rfl ?_
    refine z_zret (ty := .boolean) dX8_has_17 rfl (by decide) (by decide) rfl ?_
    first | exact ⟨by rw [if_pos (by omega)]; rfl, rfl⟩ | exact ⟨by rw [if_neg (by omega)]; rfl, rfl⟩
  · refine z_iload_n dX8_has_4 rfl ?_
    refine z_aload_n dX8_has_5 rfl ?_
    refine z_getf (j := b) dX8_has_6 kF_RX8_21 rfl (by omega) hw rfl ?_
    refine z_icmp_ge_z (tgt := 16) dX8_has_9 (by decide) (fun h_9_2 => ?_) (fun h_9_2 => ?_)
    · refine z_iconst (v := nI 0) dX8_has_16 rfl ?_
      refine z_zret (ty := .boolean) dX8_has_17 rfl (by decide) (by decide) rfl ?_
      first | exact ⟨by rw [if_pos (by omega)]; rfl, rfl⟩ | exact ⟨by rw [if_neg (by omega)]; rfl, rfl⟩
    · refine z_iconst (v := nI 1) dX8_has_12 rfl ?_
      refine z_goto (tgt := 17) dX8_has_13 (by decide) ?_
      refine z_zret (ty := .boolean) dX8_has_17 rfl (by decide) (by decide) rfl ?_
      first | exact ⟨by rw [if_pos (by omega)]; rfl, rfl⟩ | exact ⟨by rw [if_neg (by omega)]; rfl, rfl⟩
set_option maxRecDepth 100000 in
set_option maxHeartbeats 4000000 in
theorem c_X8_startOf {g : zGT} {w : zW} {b m t : Nat} {s l v : Nat → Nat} (h0 : zG0 g) (hR : Rn g w b m s l v) (ht : t < m) : zCt g mX8_startOf (zR 0 0) [.ref (za g b), .int (nI (t))] w (fun o w' => o = .inl (some (.int (nI (s t)))) ∧ w' = w) := by
  obtain ⟨hb, hw, hm, f1, f2, f3, hr1, hr2, hr3, hk⟩ := id hR
  refine zCt_of (by decide +kernel) h0 [(0, .ref (za g b)), (1, .int (nI (t)))] rfl (Nat.le_of_ble_eq_true rfl) ?_
  refine z_iload_n dX8_startOf_0 rfl ?_
  refine z_if_lt_n (a := t) dX8_startOf_1 22 (by decide) (by omega) ?_
  refine z_iload_n dX8_startOf_4 rfl ?_
  refine z_aload_n dX8_startOf_5 rfl ?_
  refine z_getf (j := b) dX8_startOf_6 kF_RX8_9 rfl (by omega) hw rfl ?_
  refine z_alen_n (j := b + 1) (N := 200) (f := f1) dX8_startOf_9 (by omega) hr1 ?_
  refine z_icmp_ge_n (a := t) (b := 200) (tgt := 22) dX8_startOf_10 (by decide) (by omega) (by omega) (fun h_10_2 => ?_) (fun h_10_2 => ?_)
  · exact absurd h_10_2 (by omega)
  · refine z_aload_n dX8_startOf_13 rfl ?_
    refine z_getf (j := b) dX8_startOf_14 kF_RX8_9 rfl (by omega) hw rfl ?_
    refine z_iload_n dX8_startOf_17 rfl ?_
    refine z_iald_n (j := b + 1) (N := 200) (a := t) (f := f1) dX8_startOf_18 (by omega) hr1 (by omega) (by omega) ?_
    refine z_goto (tgt := 23) dX8_startOf_19 (by decide) ?_
    refine z_iret dX8_startOf_23 rfl (by decide) (by decide) ?_
    exact ⟨by rw [(hk t ht).1.1], rfl⟩
set_option maxRecDepth 100000 in
set_option maxHeartbeats 4000000 in
theorem c_X8_lengthOf {g : zGT} {w : zW} {b m t : Nat} {s l v : Nat → Nat} (h0 : zG0 g) (hR : Rn g w b m s l v) (ht : t < m) : zCt g mX8_lengthOf (zR 0 0) [.ref (za g b), .int (nI (t))] w (fun o w' => o = .inl (some (.int (nI (l t)))) ∧ w' = w) := by
  obtain ⟨hb, hw, hm, f1, f2, f3, hr1, hr2, hr3, hk⟩ := id hR
  refine zCt_of (by decide +kernel) h0 [(0, .ref (za g b)), (1, .int (nI (t)))] rfl (Nat.le_of_ble_eq_true rfl) ?_
  refine z_iload_n dX8_lengthOf_0 rfl ?_
  refine z_if_lt_n (a := t) dX8_lengthOf_1 22 (by decide) (by omega) ?_
  refine z_iload_n dX8_lengthOf_4 rfl ?_
  refine z_aload_n dX8_lengthOf_5 rfl ?_
  refine z_getf (j := b) dX8_lengthOf_6 kF_RX8_15 rfl (by omega) hw rfl ?_
  refine z_alen_n (j := b + 2) (N := 200) (f := f2) dX8_lengthOf_9 (by omega) hr2 ?_
  refine z_icmp_ge_n (a := t) (b := 200) (tgt := 22) dX8_lengthOf_10 (by decide) (by omega) (by omega) (fun h_10_2 => ?_) (fun h_10_2 => ?_)
  · exact absurd h_10_2 (by omega)
  · refine z_aload_n dX8_lengthOf_13 rfl ?_
    refine z_getf (j := b) dX8_lengthOf_14 kF_RX8_15 rfl (by omega) hw rfl ?_
    refine z_iload_n dX8_lengthOf_17 rfl ?_
    refine z_iald_n (j := b + 2) (N := 200) (a := t) (f := f2) dX8_lengthOf_18 (by omega) hr2 (by omega) (by omega) ?_
    refine z_goto (tgt := 23) dX8_lengthOf_19 (by decide) ?_
    refine z_iret dX8_lengthOf_23 rfl (by decide) (by decide) ?_
    exact ⟨by rw [(hk t ht).1.2.1], rfl⟩
set_option maxRecDepth 100000 in
set_option maxHeartbeats 4000000 in
theorem c_X8_levelOf {g : zGT} {w : zW} {b m t : Nat} {s l v : Nat → Nat} (h0 : zG0 g) (hR : Rn g w b m s l v) (ht : t < m) : zCt g mX8_levelOf (zR 0 0) [.ref (za g b), .int (nI (t))] w (fun o w' => o = .inl (some (.int (nI (v t)))) ∧ w' = w) := by
  obtain ⟨hb, hw, hm, f1, f2, f3, hr1, hr2, hr3, hk⟩ := id hR
  refine zCt_of (by decide +kernel) h0 [(0, .ref (za g b)), (1, .int (nI (t)))] rfl (Nat.le_of_ble_eq_true rfl) ?_
  refine z_iload_n dX8_levelOf_0 rfl ?_
  refine z_if_lt_n (a := t) dX8_levelOf_1 22 (by decide) (by omega) ?_
  refine z_iload_n dX8_levelOf_4 rfl ?_
  refine z_aload_n dX8_levelOf_5 rfl ?_
  refine z_getf (j := b) dX8_levelOf_6 kF_RX8_18 rfl (by omega) hw rfl ?_
  refine z_alen_n (j := b + 3) (N := 200) (f := f3) dX8_levelOf_9 hb hr3 ?_
  refine z_icmp_ge_n (a := t) (b := 200) (tgt := 22) dX8_levelOf_10 (by decide) (by omega) (by omega) (fun h_10_2 => ?_) (fun h_10_2 => ?_)
  · exact absurd h_10_2 (by omega)
  · refine z_aload_n dX8_levelOf_13 rfl ?_
    refine z_getf (j := b) dX8_levelOf_14 kF_RX8_18 rfl (by omega) hw rfl ?_
    refine z_iload_n dX8_levelOf_17 rfl ?_
    refine z_iald_n (j := b + 3) (N := 200) (a := t) (f := f3) dX8_levelOf_18 hb hr3 (by omega) (by omega) ?_
    refine z_goto (tgt := 23) dX8_levelOf_19 (by decide) ?_
    refine z_iret dX8_levelOf_23 rfl (by decide) (by decide) ?_
    exact ⟨by rw [(hk t ht).1.2.2], rfl⟩
set_option maxRecDepth 100000 in
set_option maxHeartbeats 4000000 in
theorem c_X8_isRest {g : zGT} {w : zW} {b m t : Nat} {s l v : Nat → Nat} (h0 : zG0 g) (hR : Rn g w b m s l v) (ht : t < m) : zCt g mX8_isRest (zR 1 0) [.ref (za g b), .int (nI (t))] w (fun o w' => o = .inl (some (.int (nI (if v t = 0 then 1 else 0)))) ∧ w' = w) := by
  obtain ⟨hb, hw, hm, f1, f2, f3, hr1, hr2, hr3, hk⟩ := id hR
  have hbd : ∀ r, r < m → s r ≤ 200 ∧ l r ≤ 200 ∧ v r ≤ 9 := fun r hr => (hk r hr).2
  refine zCt_of (by decide +kernel) h0 [(0, .ref (za g b)), (1, .int (nI (t)))] rfl (Nat.le_of_ble_eq_true rfl) ?_
  have hbt := hbd t ht
  refine z_aload_n dX8_isRest_0 rfl ?_
  refine z_iload_n dX8_isRest_1 rfl ?_
  refine z_callE (As := [.int (nI (t))]) (rest := []) (b := b) (ci := 8) (v := some (.int (nI (v (t))))) (R2 := zR 0 0) dX8_isRest_2 kV_RX8_43 rfl ⟨⟨by decide, by decide⟩, by decide, by decide⟩ (by omega) hw rfl rfl rfl (Nat.le_of_ble_eq_true rfl) rfl (c_X8_levelOf (t := t) h0 hR (by omega)) ?_
  refine z_if_ne_n (a := v (t)) (tgt := 12) dX8_isRest_5 (by decide) (by omega) (fun h_5_2 => ?_) (fun h_5_2 => ?_)
  · refine z_iconst (v := nI 0) dX8_isRest_12 rfl ?_
    refine z_zret (ty := .boolean) dX8_isRest_13 rfl (by decide) (by decide) rfl ?_
    first | exact ⟨by rw [if_pos (by omega)], rfl⟩ | exact ⟨by rw [if_neg (by omega)], rfl⟩
  · refine z_iconst (v := nI 1) dX8_isRest_8 rfl ?_
    refine z_goto (tgt := 13) dX8_isRest_9 (by decide) ?_
    refine z_zret (ty := .boolean) dX8_isRest_13 rfl (by decide) (by decide) rfl ?_
    first | exact ⟨by rw [if_pos (by omega)], rfl⟩ | exact ⟨by rw [if_neg (by omega)], rfl⟩
set_option maxRecDepth 100000 in
set_option maxHeartbeats 4000000 in
theorem c_X8_begin {g : zGT} {w : zW} {b m t x : Nat} {s l v : Nat → Nat} (h0 : zG0 g) (hR : Rn g w b m s l v) (ht : t ≤ 200) (hx : x ≤ 9) (hm2 : m < 200) : zCt g mX8_begin (zR 0 0) [.ref (za g b), .int (nI (t)), .int (nI (x))] w (fun o w' => o = .inl none ∧ zFr w w' b (b + 4) ∧ Rn g w' b (m + 1) (va_up s m t) (va_up l m 1) (va_up v m x)) := by
  obtain ⟨hb, hw, hm, f1, f2, f3, hr1, hr2, hr3, hk⟩ := id hR
  refine zCt_of (by decide +kernel) h0 [(0, .ref (za g b)), (1, .int (nI (t))), (2, .int (nI (x)))] rfl (Nat.le_of_ble_eq_true rfl) ?_
  refine z_aload_n dX8_begin_0 rfl ?_
  refine z_getf (j := b) dX8_begin_1 kF_RX8_21 rfl (by omega) hw rfl ?_
  refine z_if_lt_n (a := m) dX8_begin_4 83 (by decide) (by omega) ?_
  refine z_aload_n dX8_begin_7 rfl ?_
  refine z_getf (j := b) dX8_begin_8 kF_RX8_21 rfl (by omega) hw rfl ?_
  refine z_aload_n dX8_begin_11 rfl ?_
  refine z_getf (j := b) dX8_begin_12 kF_RX8_9 rfl (by omega) hw rfl ?_
  refine z_alen_n (j := b + 1) (N := 200) (f := f1) dX8_begin_15 (by omega) hr1 ?_
  refine z_icmp_ge_n (a := m) (b := 200) (tgt := 83) dX8_begin_16 (by decide) (by omega) (by omega) (fun h_16_2 => ?_) (fun h_16_2 => ?_)
  · exact absurd h_16_2 (by omega)
  · refine z_aload_n dX8_begin_19 rfl ?_
    refine z_getf (j := b) dX8_begin_20 kF_RX8_21 rfl (by omega) hw rfl ?_
    refine z_aload_n dX8_begin_23 rfl ?_
    refine z_getf (j := b) dX8_begin_24 kF_RX8_15 rfl (by omega) hw rfl ?_
    refine z_alen_n (j := b + 2) (N := 200) (f := f2) dX8_begin_27 (by omega) hr2 ?_
    refine z_icmp_ge_n (a := m) (b := 200) (tgt := 83) dX8_begin_28 (by decide) (by omega) (by omega) (fun h_28_3 => ?_) (fun h_28_3 => ?_)
    · exact absurd h_28_3 (by omega)
    · refine z_aload_n dX8_begin_31 rfl ?_
      refine z_getf (j := b) dX8_begin_32 kF_RX8_21 rfl (by omega) hw rfl ?_
      refine z_aload_n dX8_begin_35 rfl ?_
      refine z_getf (j := b) dX8_begin_36 kF_RX8_18 rfl (by omega) hw rfl ?_
      refine z_alen_n (j := b + 3) (N := 200) (f := f3) dX8_begin_39 hb hr3 ?_
      refine z_icmp_ge_n (a := m) (b := 200) (tgt := 83) dX8_begin_40 (by decide) (by omega) (by omega) (fun h_40_4 => ?_) (fun h_40_4 => ?_)
      · exact absurd h_40_4 (by omega)
      · refine z_aload_n dX8_begin_43 rfl ?_
        refine z_getf (j := b) dX8_begin_44 kF_RX8_9 rfl (by omega) hw rfl ?_
        refine z_aload_n dX8_begin_47 rfl ?_
        refine z_getf (j := b) dX8_begin_48 kF_RX8_21 rfl (by omega) hw rfl ?_
        refine z_iload_n dX8_begin_51 rfl ?_
        refine z_iast_n (j := b + 1) (N := 200) (a := m) (f := f1) dX8_begin_52 (by omega) hr1 (by omega) (by omega) ?_
        obtain ⟨w5, ew6⟩ : ∃ wz : zW, wz = va_up w (b + 1) (zI g 200 (upd (f1) (m) ((nI (t))))) := ⟨_, rfl⟩
        refine z_weq (w' := w5) ew6.symm ?_
        have hw7 : w5 (b) = zO 8 [.ref (za g (b + 1)), .ref (za g (b + 2)), .ref (za g (b + 3)), .int (nI (m))] := by rw [ew6, zup_n (by omega)]; exact hw
        have hw8 : w5 (b + 1) = zI g 200 (upd (f1) (m) ((nI (t)))) := by rw [ew6, zup_s]
        have hw9 : w5 (b + 2) = zI g 200 (f2) := by rw [ew6, zup_n (by omega)]; exact hr2
        have hw10 : w5 (b + 3) = zI g 200 (f3) := by rw [ew6, zup_n (by omega)]; exact hr3
        refine z_aload_n dX8_begin_53 rfl ?_
        refine z_getf (j := b) dX8_begin_54 kF_RX8_15 rfl (by omega) hw7 rfl ?_
        refine z_aload_n dX8_begin_57 rfl ?_
        refine z_getf (j := b) dX8_begin_58 kF_RX8_21 rfl (by omega) hw7 rfl ?_
        refine z_iconst (v := nI 1) dX8_begin_61 rfl ?_
        refine z_iast_n (j := b + 2) (N := 200) (a := m) (f := f2) dX8_begin_62 (by omega) hw9 (by omega) (by omega) ?_
        obtain ⟨w11, ew12⟩ : ∃ wz : zW, wz = va_up w5 (b + 2) (zI g 200 (upd (f2) (m) ((nI (1))))) := ⟨_, rfl⟩
        refine z_weq (w' := w11) ew12.symm ?_
        have hw13 : w11 (b) = zO 8 [.ref (za g (b + 1)), .ref (za g (b + 2)), .ref (za g (b + 3)), .int (nI (m))] := by rw [ew12, zup_n (by omega)]; exact hw7
        have hw14 : w11 (b + 1) = zI g 200 (upd (f1) (m) ((nI (t)))) := by rw [ew12, zup_n (by omega)]; exact hw8
        have hw15 : w11 (b + 2) = zI g 200 (upd (f2) (m) ((nI (1)))) := by rw [ew12, zup_s]
        have hw16 : w11 (b + 3) = zI g 200 (f3) := by rw [ew12, zup_n (by omega)]; exact hw10
        refine z_aload_n dX8_begin_63 rfl ?_
        refine z_getf (j := b) dX8_begin_64 kF_RX8_18 rfl (by omega) hw13 rfl ?_
        refine z_aload_n dX8_begin_67 rfl ?_
        refine z_getf (j := b) dX8_begin_68 kF_RX8_21 rfl (by omega) hw13 rfl ?_
        refine z_iload_n dX8_begin_71 rfl ?_
        refine z_iast_n (j := b + 3) (N := 200) (a := m) (f := f3) dX8_begin_72 hb hw16 (by omega) (by omega) ?_
        obtain ⟨w17, ew18⟩ : ∃ wz : zW, wz = va_up w11 (b + 3) (zI g 200 (upd (f3) (m) ((nI (x))))) := ⟨_, rfl⟩
        refine z_weq (w' := w17) ew18.symm ?_
        have hw19 : w17 (b) = zO 8 [.ref (za g (b + 1)), .ref (za g (b + 2)), .ref (za g (b + 3)), .int (nI (m))] := by rw [ew18, zup_n (by omega)]; exact hw13
        have hw20 : w17 (b + 1) = zI g 200 (upd (f1) (m) ((nI (t)))) := by rw [ew18, zup_n (by omega)]; exact hw14
        have hw21 : w17 (b + 2) = zI g 200 (upd (f2) (m) ((nI (1)))) := by rw [ew18, zup_n (by omega)]; exact hw15
        have hw22 : w17 (b + 3) = zI g 200 (upd (f3) (m) ((nI (x)))) := by rw [ew18, zup_s]
        refine z_aload_n dX8_begin_73 rfl ?_
        refine z_dup dX8_begin_74 rfl ?_
        refine z_getf (j := b) dX8_begin_75 kF_RX8_21 rfl (by omega) hw19 rfl ?_
        refine z_iconst (v := nI 1) dX8_begin_78 rfl ?_
        refine z_iadd_n (a := m) (b := 1) dX8_begin_79 ?_
        refine z_putf (j := b) dX8_begin_80 kF_RX8_21 zt_8_3 rfl (by omega) hw19 rfl rfl (Nat.le_of_ble_eq_true rfl) ?_
        obtain ⟨w23, ew24⟩ : ∃ wz : zW, wz = va_up w17 (b) (zO 8 [.ref (za g (b + 1)), .ref (za g (b + 2)), .ref (za g (b + 3)), .int (nI ((m) + (1)))]) := ⟨_, rfl⟩
        refine z_weq (w' := w23) ew24.symm ?_
        have hw25 : w23 (b) = zO 8 [.ref (za g (b + 1)), .ref (za g (b + 2)), .ref (za g (b + 3)), .int (nI ((m) + (1)))] := by rw [ew24, zup_s]
        have hw26 : w23 (b + 1) = zI g 200 (upd (f1) (m) ((nI (t)))) := by rw [ew24, zup_n (by omega)]; exact hw20
        have hw27 : w23 (b + 2) = zI g 200 (upd (f2) (m) ((nI (1)))) := by rw [ew24, zup_n (by omega)]; exact hw21
        have hw28 : w23 (b + 3) = zI g 200 (upd (f3) (m) ((nI (x)))) := by rw [ew24, zup_n (by omega)]; exact hw22
        refine z_vret dX8_begin_83 rfl (by decide) (by decide) ?_
        refine ⟨rfl, fun k hkk => ?_, hb, hw25, by omega, _, _, _, hw26, hw27, hw28, fun r hr => ?_⟩
        · rw [ew24, ew18, ew12, ew6, zup_n (by omega), zup_n (by omega), zup_n (by omega), zup_n (by omega)]
        · by_cases e : r = m
          · subst e; simp only [upd, va_up, if_pos]; exact ⟨⟨trivial, trivial, trivial⟩, ht, by omega, hx⟩
          · simp only [upd, va_up, if_neg e]; exact hk r (by omega)
set_option maxRecDepth 100000 in
set_option maxHeartbeats 4000000 in
theorem c_X8_lengthen {g : zGT} {w : zW} {b m t : Nat} {s l v : Nat → Nat} (h0 : zG0 g) (hR : Rn g w b m s l v) (ht : t < m) (hl : l t < 200) : zCt g mX8_lengthen (zR 0 0) [.ref (za g b), .int (nI (t))] w (fun o w' => o = .inl none ∧ zFr w w' b (b + 4) ∧ Rn g w' b m s (va_up l t (l t + 1)) v) := by
  obtain ⟨hb, hw, hm, f1, f2, f3, hr1, hr2, hr3, hk⟩ := id hR
  refine zCt_of (by decide +kernel) h0 [(0, .ref (za g b)), (1, .int (nI (t)))] rfl (Nat.le_of_ble_eq_true rfl) ?_
  refine z_iload_n dX8_lengthen_0 rfl ?_
  refine z_if_lt_n (a := t) dX8_lengthen_1 23 (by decide) (by omega) ?_
  refine z_iload_n dX8_lengthen_4 rfl ?_
  refine z_aload_n dX8_lengthen_5 rfl ?_
  refine z_getf (j := b) dX8_lengthen_6 kF_RX8_15 rfl (by omega) hw rfl ?_
  refine z_alen_n (j := b + 2) (N := 200) (f := f2) dX8_lengthen_9 (by omega) hr2 ?_
  refine z_icmp_ge_n (a := t) (b := 200) (tgt := 23) dX8_lengthen_10 (by decide) (by omega) (by omega) (fun h_10_2 => ?_) (fun h_10_2 => ?_)
  · exact absurd h_10_2 (by omega)
  · refine z_aload_n dX8_lengthen_13 rfl ?_
    refine z_getf (j := b) dX8_lengthen_14 kF_RX8_15 rfl (by omega) hw rfl ?_
    refine z_iload_n dX8_lengthen_17 rfl ?_
    refine z_dup2 dX8_lengthen_18 rfl rfl ?_
    refine z_iald_n (j := b + 2) (N := 200) (a := t) (f := f2) dX8_lengthen_19 (by omega) hr2 (by omega) (by omega) ?_
    refine z_iconst (v := nI 1) dX8_lengthen_20 rfl ?_
    refine z_iadd dX8_lengthen_21 ?_
    refine z_iast_n (j := b + 2) (N := 200) (a := t) (f := f2) dX8_lengthen_22 (by omega) hr2 (by omega) (by omega) ?_
    obtain ⟨w3, ew4⟩ : ∃ wz : zW, wz = va_up w (b + 2) (zI g 200 (upd (f2) (t) ((((f2) (t)) + (nI (1)))))) := ⟨_, rfl⟩
    refine z_weq (w' := w3) ew4.symm ?_
    have hw5 : w3 (b) = zO 8 [.ref (za g (b + 1)), .ref (za g (b + 2)), .ref (za g (b + 3)), .int (nI (m))] := by rw [ew4, zup_n (by omega)]; exact hw
    have hw6 : w3 (b + 1) = zI g 200 (f1) := by rw [ew4, zup_n (by omega)]; exact hr1
    have hw7 : w3 (b + 2) = zI g 200 (upd (f2) (t) ((((f2) (t)) + (nI (1))))) := by rw [ew4, zup_s]
    have hw8 : w3 (b + 3) = zI g 200 (f3) := by rw [ew4, zup_n (by omega)]; exact hr3
    refine z_vret dX8_lengthen_23 rfl (by decide) (by decide) ?_
    refine ⟨rfl, fun k hkk => ?_, hb, hw5, by omega, _, _, _, hw6, hw7, hw8, fun r hr => ?_⟩
    · rw [ew4, zup_n (by omega)]
    · have h9 := hk r hr
      by_cases e : r = t
      · subst e; simp only [upd, va_up, if_pos]; exact ⟨⟨h9.1.1, by rw [h9.1.2.1, nI_add], h9.1.2.2⟩, h9.2.1, by omega, h9.2.2.2⟩
      · simp only [upd, va_up, if_neg e]; exact h9
def nsum (F : Nat → Nat) : Nat → Nat
  | 0 => 0
  | m + 1 => nsum F m + F m
theorem nsum_le {F : Nat → Nat} {c : Nat} : ∀ {m : Nat}, (∀ r, r < m → F r ≤ c) → nsum F m ≤ m * c
  | 0, _ => Nat.zero_le _
  | m + 1, h => by
    have a := nsum_le (m := m) (fun r hr => h r (by omega))
    have b := h m (by omega)
    rw [nsum, Nat.succ_mul]; omega
theorem nsum_congr {F G : Nat → Nat} : ∀ {m : Nat}, (∀ r, r < m → F r = G r) → nsum F m = nsum G m
  | 0, _ => rfl
  | m + 1, h => by rw [nsum, nsum, nsum_congr (fun r hr => h r (by omega)), h m (by omega)]
set_option maxRecDepth 100000 in
set_option maxHeartbeats 4000000 in
theorem c_X8_ticksOfRests {g : zGT} {w : zW} {b m : Nat} {s l v : Nat → Nat} (h0 : zG0 g) (hR : Rn g w b m s l v) : zCt g mX8_ticksOfRests (zR 2 0) [.ref (za g b)] w (fun o w' => o = .inl (some (.int (nI (nsum (fun r => if v r = 0 then l r else 0) m)))) ∧ w' = w) := by
  obtain ⟨hb, hw, hm, f1, f2, f3, hr1, hr2, hr3, hk⟩ := id hR
  have hbd : ∀ r, r < m → s r ≤ 200 ∧ l r ≤ 200 ∧ v r ≤ 9 := fun r hr => (hk r hr).2
  refine zCt_of (by decide +kernel) h0 [(0, .ref (za g b))] rfl (Nat.le_of_ble_eq_true rfl) ?_
  have loop : ∀ (mm : Nat) (i : Nat) (x : Nat), m - i < mm → (i ≤ m) → (x = nsum (fun r => if v r = 0 then l r else 0) i) → zTr g mX8_ticksOfRests (zR 2 0) 0 0 4 [(0, .ref (za g b)), (1, .int (nI (x))), (2, .int (nI (i)))] [] w (fun o w' => o = .inl (some (.int (nI (nsum (fun r => if v r = 0 then l r else 0) m)))) ∧ w' = w) := by
    intro mm
    induction mm with
    | zero => intros; omega
    | succ mm ih =>
      intro i x hm him hx
      refine z_iload_n dX8_ticksOfRests_4 rfl ?_
      refine z_aload_n dX8_ticksOfRests_5 rfl ?_
      refine z_getf (j := b) dX8_ticksOfRests_6 kF_RX8_21 rfl (by omega) hw rfl ?_
      refine z_icmp_ge_n (a := i) (b := m) (tgt := 38) dX8_ticksOfRests_9 (by decide) (by omega) (by omega) (fun h_9_1 => ?_) (fun h_9_1 => ?_)
      · refine z_iload_n dX8_ticksOfRests_38 rfl ?_
        refine z_iret dX8_ticksOfRests_39 rfl (by decide) (by decide) ?_
        exact ⟨by rw [hx, show i = m by omega], rfl⟩
      · refine z_iload_n dX8_ticksOfRests_12 rfl ?_
        refine z_aload_n dX8_ticksOfRests_13 rfl ?_
        refine z_iload_n dX8_ticksOfRests_14 rfl ?_
        refine z_callE (As := [.int (nI (i))]) (rest := [.int (nI (x))]) (b := b) (ci := 8) (v := some (.int (nI (if v (i) = 0 then 1 else 0)))) (R2 := zR 1 0) dX8_ticksOfRests_15 kV_RX8_46 rfl ⟨⟨by decide, by decide⟩, by decide, by decide⟩ (by omega) hw rfl rfl rfl (Nat.le_of_ble_eq_true rfl) rfl (c_X8_isRest (t := i) h0 hR (by omega)) ?_
        have hbi := hbd i (by omega)
        have hle : (if v i = 0 then 1 else 0) ≤ 1 := by split <;> omega
        refine z_if_eq_n (a := if v (i) = 0 then 1 else 0) (tgt := 29) dX8_ticksOfRests_18 (by decide) (by omega) (fun h_18_3 => ?_) (fun h_18_3 => ?_)
        · refine z_iconst (v := nI 0) dX8_ticksOfRests_29 rfl ?_
          refine z_iadd_n (a := x) (b := 0) dX8_ticksOfRests_30 ?_
          refine z_istore_n (lv' := [(0, .ref (za g b)), (1, .int (nI ((x) + (0)))), (2, .int (nI (i)))]) dX8_ticksOfRests_31 (by decide) rfl ?_
          refine z_iinc_n (n := 1) (a := i) (lv' := [(0, .ref (za g b)), (1, .int (nI ((x) + (0)))), (2, .int (nI (i + 1)))]) dX8_ticksOfRests_32 rfl (by decide) rfl ?_
          refine z_goto (tgt := 4) dX8_ticksOfRests_35 (by decide) ?_
          refine ih (i + 1) _ (by omega) (by omega) ?_
          rw [hx, nsum]
          by_cases e : v i = 0
          · simp only [if_pos e] at *; first | done | omega
          · simp only [if_neg e] at *; first | done | omega
        · refine z_aload_n dX8_ticksOfRests_21 rfl ?_
          refine z_iload_n dX8_ticksOfRests_22 rfl ?_
          refine z_callE (As := [.int (nI (i))]) (rest := [.int (nI (x))]) (b := b) (ci := 8) (v := some (.int (nI (l (i))))) (R2 := zR 0 0) dX8_ticksOfRests_23 kV_RX8_50 rfl ⟨⟨by decide, by decide⟩, by decide, by decide⟩ (by omega) hw rfl rfl rfl (Nat.le_of_ble_eq_true rfl) rfl (c_X8_lengthOf (t := i) h0 hR (by omega)) ?_
          refine z_goto (tgt := 30) dX8_ticksOfRests_26 (by decide) ?_
          refine z_iadd_n (a := x) (b := l (i)) dX8_ticksOfRests_30 ?_
          refine z_istore_n (lv' := [(0, .ref (za g b)), (1, .int (nI ((x) + (l (i))))), (2, .int (nI (i)))]) dX8_ticksOfRests_31 (by decide) rfl ?_
          refine z_iinc_n (n := 1) (a := i) (lv' := [(0, .ref (za g b)), (1, .int (nI ((x) + (l (i))))), (2, .int (nI (i + 1)))]) dX8_ticksOfRests_32 rfl (by decide) rfl ?_
          refine z_goto (tgt := 4) dX8_ticksOfRests_35 (by decide) ?_
          refine ih (i + 1) _ (by omega) (by omega) ?_
          rw [hx, nsum]
          by_cases e : v i = 0
          · simp only [if_pos e] at *; first | done | omega
          · simp only [if_neg e] at *; first | done | omega
  refine z_iconst (v := nI 0) dX8_ticksOfRests_0 rfl ?_
  refine z_istore_n (lv' := [(0, .ref (za g b)), (1, .int (nI (0)))]) dX8_ticksOfRests_1 (by decide) rfl ?_
  refine z_iconst (v := nI 0) dX8_ticksOfRests_2 rfl ?_
  refine z_istore_n (lv' := [(0, .ref (za g b)), (1, .int (nI (0))), (2, .int (nI (0)))]) dX8_ticksOfRests_3 (by decide) rfl ?_
  exact loop (m + 1) 0 0 (by omega) (Nat.zero_le _) rfl
set_option maxRecDepth 100000 in
set_option maxHeartbeats 4000000 in
theorem c_X8_ticksOfHums {g : zGT} {w : zW} {b m : Nat} {s l v : Nat → Nat} (h0 : zG0 g) (hR : Rn g w b m s l v) : zCt g mX8_ticksOfHums (zR 2 0) [.ref (za g b)] w (fun o w' => o = .inl (some (.int (nI (nsum (fun r => if v r = 0 then 0 else l r) m)))) ∧ w' = w) := by
  obtain ⟨hb, hw, hm, f1, f2, f3, hr1, hr2, hr3, hk⟩ := id hR
  have hbd : ∀ r, r < m → s r ≤ 200 ∧ l r ≤ 200 ∧ v r ≤ 9 := fun r hr => (hk r hr).2
  refine zCt_of (by decide +kernel) h0 [(0, .ref (za g b))] rfl (Nat.le_of_ble_eq_true rfl) ?_
  have loop : ∀ (mm : Nat) (i : Nat) (x : Nat), m - i < mm → (i ≤ m) → (x = nsum (fun r => if v r = 0 then 0 else l r) i) → zTr g mX8_ticksOfHums (zR 2 0) 0 0 4 [(0, .ref (za g b)), (1, .int (nI (x))), (2, .int (nI (i)))] [] w (fun o w' => o = .inl (some (.int (nI (nsum (fun r => if v r = 0 then 0 else l r) m)))) ∧ w' = w) := by
    intro mm
    induction mm with
    | zero => intros; omega
    | succ mm ih =>
      intro i x hm him hx
      refine z_iload_n dX8_ticksOfHums_4 rfl ?_
      refine z_aload_n dX8_ticksOfHums_5 rfl ?_
      refine z_getf (j := b) dX8_ticksOfHums_6 kF_RX8_21 rfl (by omega) hw rfl ?_
      refine z_icmp_ge_n (a := i) (b := m) (tgt := 38) dX8_ticksOfHums_9 (by decide) (by omega) (by omega) (fun h_9_1 => ?_) (fun h_9_1 => ?_)
      · refine z_iload_n dX8_ticksOfHums_38 rfl ?_
        refine z_iret dX8_ticksOfHums_39 rfl (by decide) (by decide) ?_
        exact ⟨by rw [hx, show i = m by omega], rfl⟩
      · refine z_iload_n dX8_ticksOfHums_12 rfl ?_
        refine z_aload_n dX8_ticksOfHums_13 rfl ?_
        refine z_iload_n dX8_ticksOfHums_14 rfl ?_
        refine z_callE (As := [.int (nI (i))]) (rest := [.int (nI (x))]) (b := b) (ci := 8) (v := some (.int (nI (if v (i) = 0 then 1 else 0)))) (R2 := zR 1 0) dX8_ticksOfHums_15 kV_RX8_46 rfl ⟨⟨by decide, by decide⟩, by decide, by decide⟩ (by omega) hw rfl rfl rfl (Nat.le_of_ble_eq_true rfl) rfl (c_X8_isRest (t := i) h0 hR (by omega)) ?_
        have hbi := hbd i (by omega)
        have hle : (if v i = 0 then 1 else 0) ≤ 1 := by split <;> omega
        refine z_if_eq_n (a := if v (i) = 0 then 1 else 0) (tgt := 25) dX8_ticksOfHums_18 (by decide) (by omega) (fun h_18_3 => ?_) (fun h_18_3 => ?_)
        · refine z_aload_n dX8_ticksOfHums_25 rfl ?_
          refine z_iload_n dX8_ticksOfHums_26 rfl ?_
          refine z_callE (As := [.int (nI (i))]) (rest := [.int (nI (x))]) (b := b) (ci := 8) (v := some (.int (nI (l (i))))) (R2 := zR 0 0) dX8_ticksOfHums_27 kV_RX8_50 rfl ⟨⟨by decide, by decide⟩, by decide, by decide⟩ (by omega) hw rfl rfl rfl (Nat.le_of_ble_eq_true rfl) rfl (c_X8_lengthOf (t := i) h0 hR (by omega)) ?_
          refine z_iadd_n (a := x) (b := l (i)) dX8_ticksOfHums_30 ?_
          refine z_istore_n (lv' := [(0, .ref (za g b)), (1, .int (nI ((x) + (l (i))))), (2, .int (nI (i)))]) dX8_ticksOfHums_31 (by decide) rfl ?_
          refine z_iinc_n (n := 1) (a := i) (lv' := [(0, .ref (za g b)), (1, .int (nI ((x) + (l (i))))), (2, .int (nI (i + 1)))]) dX8_ticksOfHums_32 rfl (by decide) rfl ?_
          refine z_goto (tgt := 4) dX8_ticksOfHums_35 (by decide) ?_
          refine ih (i + 1) _ (by omega) (by omega) ?_
          rw [hx, nsum]
          by_cases e : v i = 0
          · simp only [if_pos e] at *; first | done | omega
          · simp only [if_neg e] at *; first | done | omega
        · refine z_iconst (v := nI 0) dX8_ticksOfHums_21 rfl ?_
          refine z_goto (tgt := 30) dX8_ticksOfHums_22 (by decide) ?_
          refine z_iadd_n (a := x) (b := 0) dX8_ticksOfHums_30 ?_
          refine z_istore_n (lv' := [(0, .ref (za g b)), (1, .int (nI ((x) + (0)))), (2, .int (nI (i)))]) dX8_ticksOfHums_31 (by decide) rfl ?_
          refine z_iinc_n (n := 1) (a := i) (lv' := [(0, .ref (za g b)), (1, .int (nI ((x) + (0)))), (2, .int (nI (i + 1)))]) dX8_ticksOfHums_32 rfl (by decide) rfl ?_
          refine z_goto (tgt := 4) dX8_ticksOfHums_35 (by decide) ?_
          refine ih (i + 1) _ (by omega) (by omega) ?_
          rw [hx, nsum]
          by_cases e : v i = 0
          · simp only [if_pos e] at *; first | done | omega
          · simp only [if_neg e] at *; first | done | omega
  refine z_iconst (v := nI 0) dX8_ticksOfHums_0 rfl ?_
  refine z_istore_n (lv' := [(0, .ref (za g b)), (1, .int (nI (0)))]) dX8_ticksOfHums_1 (by decide) rfl ?_
  refine z_iconst (v := nI 0) dX8_ticksOfHums_2 rfl ?_
  refine z_istore_n (lv' := [(0, .ref (za g b)), (1, .int (nI (0))), (2, .int (nI (0)))]) dX8_ticksOfHums_3 (by decide) rfl ?_
  exact loop (m + 1) 0 0 (by omega) (Nat.zero_le _) rfl
set_option maxRecDepth 100000 in
set_option maxHeartbeats 4000000 in
theorem c_X8_countOfRests {g : zGT} {w : zW} {b m : Nat} {s l v : Nat → Nat} (h0 : zG0 g) (hR : Rn g w b m s l v) : zCt g mX8_countOfRests (zR 2 0) [.ref (za g b)] w (fun o w' => o = .inl (some (.int (nI (nsum (fun r => if v r = 0 then 1 else 0) m)))) ∧ w' = w) := by
  obtain ⟨hb, hw, hm, f1, f2, f3, hr1, hr2, hr3, hk⟩ := id hR
  have hbd : ∀ r, r < m → s r ≤ 200 ∧ l r ≤ 200 ∧ v r ≤ 9 := fun r hr => (hk r hr).2
  refine zCt_of (by decide +kernel) h0 [(0, .ref (za g b))] rfl (Nat.le_of_ble_eq_true rfl) ?_
  have loop : ∀ (mm : Nat) (i : Nat) (x : Nat), m - i < mm → (i ≤ m) → (x = nsum (fun r => if v r = 0 then 1 else 0) i) → zTr g mX8_countOfRests (zR 2 0) 0 0 4 [(0, .ref (za g b)), (1, .int (nI (x))), (2, .int (nI (i)))] [] w (fun o w' => o = .inl (some (.int (nI (nsum (fun r => if v r = 0 then 1 else 0) m)))) ∧ w' = w) := by
    intro mm
    induction mm with
    | zero => intros; omega
    | succ mm ih =>
      intro i x hm him hx
      refine z_iload_n dX8_countOfRests_4 rfl ?_
      refine z_aload_n dX8_countOfRests_5 rfl ?_
      refine z_getf (j := b) dX8_countOfRests_6 kF_RX8_21 rfl (by omega) hw rfl ?_
      refine z_icmp_ge_n (a := i) (b := m) (tgt := 34) dX8_countOfRests_9 (by decide) (by omega) (by omega) (fun h_9_1 => ?_) (fun h_9_1 => ?_)
      · refine z_iload_n dX8_countOfRests_34 rfl ?_
        refine z_iret dX8_countOfRests_35 rfl (by decide) (by decide) ?_
        exact ⟨by rw [hx, show i = m by omega], rfl⟩
      · refine z_iload_n dX8_countOfRests_12 rfl ?_
        refine z_aload_n dX8_countOfRests_13 rfl ?_
        refine z_iload_n dX8_countOfRests_14 rfl ?_
        refine z_callE (As := [.int (nI (i))]) (rest := [.int (nI (x))]) (b := b) (ci := 8) (v := some (.int (nI (if v (i) = 0 then 1 else 0)))) (R2 := zR 1 0) dX8_countOfRests_15 kV_RX8_46 rfl ⟨⟨by decide, by decide⟩, by decide, by decide⟩ (by omega) hw rfl rfl rfl (Nat.le_of_ble_eq_true rfl) rfl (c_X8_isRest (t := i) h0 hR (by omega)) ?_
        have hbi := hbd i (by omega)
        have hle : (if v i = 0 then 1 else 0) ≤ 1 := by split <;> omega
        refine z_if_eq_n (a := if v (i) = 0 then 1 else 0) (tgt := 25) dX8_countOfRests_18 (by decide) (by omega) (fun h_18_3 => ?_) (fun h_18_3 => ?_)
        · refine z_iconst (v := nI 0) dX8_countOfRests_25 rfl ?_
          refine z_iadd_n (a := x) (b := 0) dX8_countOfRests_26 ?_
          refine z_istore_n (lv' := [(0, .ref (za g b)), (1, .int (nI ((x) + (0)))), (2, .int (nI (i)))]) dX8_countOfRests_27 (by decide) rfl ?_
          refine z_iinc_n (n := 1) (a := i) (lv' := [(0, .ref (za g b)), (1, .int (nI ((x) + (0)))), (2, .int (nI (i + 1)))]) dX8_countOfRests_28 rfl (by decide) rfl ?_
          refine z_goto (tgt := 4) dX8_countOfRests_31 (by decide) ?_
          refine ih (i + 1) _ (by omega) (by omega) ?_
          rw [hx, nsum]
          by_cases e : v i = 0
          · simp only [if_pos e] at *; first | done | omega
          · simp only [if_neg e] at *; first | done | omega
        · refine z_iconst (v := nI 1) dX8_countOfRests_21 rfl ?_
          refine z_goto (tgt := 26) dX8_countOfRests_22 (by decide) ?_
          refine z_iadd_n (a := x) (b := 1) dX8_countOfRests_26 ?_
          refine z_istore_n (lv' := [(0, .ref (za g b)), (1, .int (nI ((x) + (1)))), (2, .int (nI (i)))]) dX8_countOfRests_27 (by decide) rfl ?_
          refine z_iinc_n (n := 1) (a := i) (lv' := [(0, .ref (za g b)), (1, .int (nI ((x) + (1)))), (2, .int (nI (i + 1)))]) dX8_countOfRests_28 rfl (by decide) rfl ?_
          refine z_goto (tgt := 4) dX8_countOfRests_31 (by decide) ?_
          refine ih (i + 1) _ (by omega) (by omega) ?_
          rw [hx, nsum]
          by_cases e : v i = 0
          · simp only [if_pos e] at *; first | done | omega
          · simp only [if_neg e] at *; first | done | omega
  refine z_iconst (v := nI 0) dX8_countOfRests_0 rfl ?_
  refine z_istore_n (lv' := [(0, .ref (za g b)), (1, .int (nI (0)))]) dX8_countOfRests_1 (by decide) rfl ?_
  refine z_iconst (v := nI 0) dX8_countOfRests_2 rfl ?_
  refine z_istore_n (lv' := [(0, .ref (za g b)), (1, .int (nI (0))), (2, .int (nI (0)))]) dX8_countOfRests_3 (by decide) rfl ?_
  exact loop (m + 1) 0 0 (by omega) (Nat.zero_le _) rfl
theorem c_X8_isRest_y {g : zGT} {w : zW} {b m t : Nat} {s l v : Nat → Nat} (h0 : zG0 g) (hR : Rn g w b m s l v) (ht : t < m) (e : v t = 0) : zCt g mX8_isRest (zR 1 0) [.ref (za g b), .int (nI t)] w (fun o w' => o = .inl (some (.int (nI 1))) ∧ w' = w) := by
  have h := c_X8_isRest h0 hR ht; rw [if_pos e] at h; exact h
theorem c_X8_isRest_n {g : zGT} {w : zW} {b m t : Nat} {s l v : Nat → Nat} (h0 : zG0 g) (hR : Rn g w b m s l v) (ht : t < m) (e : ¬ v t = 0) : zCt g mX8_isRest (zR 1 0) [.ref (za g b), .int (nI t)] w (fun o w' => o = .inl (some (.int (nI 0))) ∧ w' = w) := by
  have h := c_X8_isRest h0 hR ht; rw [if_neg e] at h; exact h
set_option maxRecDepth 100000 in
set_option maxHeartbeats 4000000 in
theorem c_X8_sumOfLevels {g : zGT} {w : zW} {b m : Nat} {s l v : Nat → Nat} (h0 : zG0 g) (hR : Rn g w b m s l v) : zCt g mX8_sumOfLevels (zR 2 0) [.ref (za g b)] w (fun o w' => o = .inl (some (.long (lN (nsum (fun r => v r * l r) m)))) ∧ w' = w) := by
  obtain ⟨hb, hw, hm, f1, f2, f3, hr1, hr2, hr3, hk⟩ := id hR
  have hbd : ∀ r, r < m → s r ≤ 200 ∧ l r ≤ 200 ∧ v r ≤ 9 := fun r hr => (hk r hr).2
  refine zCt_of (by decide +kernel) h0 [(0, .ref (za g b))] rfl (Nat.le_of_ble_eq_true rfl) ?_
  have loop : ∀ (mm : Nat) (i : Nat) (x : Nat), m - i < mm → (i ≤ m) → (x = nsum (fun r => v r * l r) i) → zTr g mX8_sumOfLevels (zR 2 0) 0 0 4 [(0, .ref (za g b)), (1, .long (lN (x))), (3, .int (nI (i)))] [] w (fun o w' => o = .inl (some (.long (lN (nsum (fun r => v r * l r) m)))) ∧ w' = w) := by
    intro mm
    induction mm with
    | zero => intros; omega
    | succ mm ih =>
      intro i x hm him hx
      refine z_iload_n dX8_sumOfLevels_4 rfl ?_
      refine z_aload_n dX8_sumOfLevels_5 rfl ?_
      refine z_getf (j := b) dX8_sumOfLevels_6 kF_RX8_21 rfl (by omega) hw rfl ?_
      refine z_icmp_ge_n (a := i) (b := m) (tgt := 34) dX8_sumOfLevels_9 (by decide) (by omega) (by omega) (fun h_9_1 => ?_) (fun h_9_1 => ?_)
      · refine z_lload_n dX8_sumOfLevels_34 rfl ?_
        refine z_lret dX8_sumOfLevels_35 rfl (by decide) (by decide) ?_
        exact ⟨by rw [hx, show i = m by omega], rfl⟩
      · have hbi := hbd i (by omega)
        refine z_lload_n dX8_sumOfLevels_12 rfl ?_
        refine z_aload_n dX8_sumOfLevels_13 rfl ?_
        refine z_iload_n dX8_sumOfLevels_14 rfl ?_
        refine z_callE (As := [.int (nI (i))]) (rest := [.long (lN (x))]) (b := b) (ci := 8) (v := some (.int (nI (v (i))))) (R2 := zR 0 0) dX8_sumOfLevels_15 kV_RX8_43 rfl ⟨⟨by decide, by decide⟩, by decide, by decide⟩ (by omega) hw rfl rfl rfl (Nat.le_of_ble_eq_true rfl) rfl (c_X8_levelOf (t := i) h0 hR (by omega)) ?_
        refine z_i2l dX8_sumOfLevels_18 ?_
        refine z_aload_n dX8_sumOfLevels_19 rfl ?_
        refine z_iload_n dX8_sumOfLevels_20 rfl ?_
        refine z_callE (As := [.int (nI (i))]) (rest := [.long ((nI (v (i))).toInt64), .long (lN (x))]) (b := b) (ci := 8) (v := some (.int (nI (l (i))))) (R2 := zR 0 0) dX8_sumOfLevels_21 kV_RX8_50 rfl ⟨⟨by decide, by decide⟩, by decide, by decide⟩ (by omega) hw rfl rfl rfl (Nat.le_of_ble_eq_true rfl) rfl (c_X8_lengthOf (t := i) h0 hR (by omega)) ?_
        refine z_i2l dX8_sumOfLevels_24 ?_
        refine z_lmul dX8_sumOfLevels_25 ?_
        refine z_ladd dX8_sumOfLevels_26 ?_
        refine z_lstore_n (lv' := [(0, .ref (za g b)), (1, .long ((lN (x)) + (((nI (v (i))).toInt64) * ((nI (l (i))).toInt64)))), (3, .int (nI (i)))]) dX8_sumOfLevels_27 (by decide) rfl ?_
        refine z_iinc_n (n := 1) (a := i) (lv' := [(0, .ref (za g b)), (1, .long ((lN (x)) + (((nI (v (i))).toInt64) * ((nI (l (i))).toInt64)))), (3, .int (nI (i + 1)))]) dX8_sumOfLevels_28 rfl (by decide) rfl ?_
        refine z_goto (tgt := 4) dX8_sumOfLevels_31 (by decide) ?_
        refine z_eq (lv' := [(0, .ref (za g b)), (1, .long (lN (x + v i * l i))), (3, .int (nI (i + 1)))]) rfl rfl (by rw [nI_l (by omega), nI_l (by omega), lN_mul, lN_add]) ?_
        exact ih (i + 1) _ (by omega) (by omega) (by rw [hx, nsum])
  refine z_lconst (v := 0) dX8_sumOfLevels_0 rfl ?_
  refine z_lstore_n (lv' := [(0, .ref (za g b)), (1, .long (0))]) dX8_sumOfLevels_1 (by decide) rfl ?_
  refine z_iconst (v := nI 0) dX8_sumOfLevels_2 rfl ?_
  refine z_istore_n (lv' := [(0, .ref (za g b)), (1, .long (0)), (3, .int (nI (0)))]) dX8_sumOfLevels_3 (by decide) rfl ?_
  exact loop (m + 1) 0 0 (by omega) (Nat.zero_le _) rfl
def rbF (l v : Nat → Nat) (t : Nat) : Nat → Nat := fun r => if v r = 0 ∧ (l t < l r ∨ (l r = l t ∧ r < t)) then 1 else 0
set_option maxRecDepth 100000 in
set_option maxHeartbeats 4000000 in
theorem c_X8_restsBefore {g : zGT} {w : zW} {b m t : Nat} {s l v : Nat → Nat} (h0 : zG0 g) (hR : Rn g w b m s l v) (ht : t < m) : zCt g mX8_restsBefore (zR 2 0) [.ref (za g b), .int (nI (t))] w (fun o w' => o = .inl (some (.int (nI (nsum (rbF l v t) m)))) ∧ w' = w) := by
  obtain ⟨hb, hw, hm, f1, f2, f3, hr1, hr2, hr3, hk⟩ := id hR
  have hbd : ∀ r, r < m → s r ≤ 200 ∧ l r ≤ 200 ∧ v r ≤ 9 := fun r hr => (hk r hr).2
  refine zCt_of (by decide +kernel) h0 [(0, .ref (za g b)), (1, .int (nI (t)))] rfl (Nat.le_of_ble_eq_true rfl) ?_
  have loop : ∀ (mm : Nat) (i : Nat) (x : Nat), m - i < mm → (i ≤ m) → (x = nsum (rbF l v t) i) → zTr g mX8_restsBefore (zR 2 0) 0 0 4 [(0, .ref (za g b)), (1, .int (nI (t))), (2, .int (nI (x))), (3, .int (nI (i)))] [] w (fun o w' => o = .inl (some (.int (nI (nsum (rbF l v t) m)))) ∧ w' = w) := by
    intro mm
    induction mm with
    | zero => intros; omega
    | succ mm ih =>
      intro i x hm him hx
      refine z_iload_n dX8_restsBefore_4 rfl ?_
      refine z_aload_n dX8_restsBefore_5 rfl ?_
      refine z_getf (j := b) dX8_restsBefore_6 kF_RX8_21 rfl (by omega) hw rfl ?_
      refine z_icmp_ge_n (a := i) (b := m) (tgt := 84) dX8_restsBefore_9 (by decide) (by omega) (by omega) (fun h_9_1 => ?_) (fun h_9_1 => ?_)
      · refine z_iload_n dX8_restsBefore_84 rfl ?_
        refine z_iret dX8_restsBefore_85 rfl (by decide) (by decide) ?_
        exact ⟨by rw [hx, show i = m by omega], rfl⟩
      · have hbi := hbd i (by omega)
        have hbt := hbd t ht
        by_cases e : v i = 0
        · refine z_aload_n dX8_restsBefore_12 rfl ?_
          refine z_iload_n dX8_restsBefore_13 rfl ?_
          refine z_callE (As := [.int (nI (i))]) (rest := []) (b := b) (ci := 8) (v := some (.int (nI (l (i))))) (R2 := zR 0 0) dX8_restsBefore_14 kV_RX8_50 rfl ⟨⟨by decide, by decide⟩, by decide, by decide⟩ (by omega) hw rfl rfl rfl (Nat.le_of_ble_eq_true rfl) rfl (c_X8_lengthOf (t := i) h0 hR (by omega)) ?_
          refine z_aload_n dX8_restsBefore_17 rfl ?_
          refine z_iload_n dX8_restsBefore_18 rfl ?_
          refine z_callE (As := [.int (nI (t))]) (rest := [.int (nI (l (i)))]) (b := b) (ci := 8) (v := some (.int (nI (l (t))))) (R2 := zR 0 0) dX8_restsBefore_19 kV_RX8_50 rfl ⟨⟨by decide, by decide⟩, by decide, by decide⟩ (by omega) hw rfl rfl rfl (Nat.le_of_ble_eq_true rfl) rfl (c_X8_lengthOf (t := t) h0 hR (by omega)) ?_
          refine z_icmp_le_n (a := l (i)) (b := l (t)) (tgt := 29) dX8_restsBefore_22 (by decide) (by omega) (by omega) (fun h_22_54 => ?_) (fun h_22_54 => ?_)
          · refine z_iconst (v := nI 0) dX8_restsBefore_29 rfl ?_
            refine z_istore (lv' := [(0, .ref (za g b)), (1, .int (nI (t))), (2, .int (nI (x))), (3, .int (nI (i))), (4, .int (nI (0)))]) dX8_restsBefore_30 (by decide) rfl ?_
            refine z_aload_n dX8_restsBefore_32 rfl ?_
            refine z_iload_n dX8_restsBefore_33 rfl ?_
            refine z_callE (As := [.int (nI (i))]) (rest := []) (b := b) (ci := 8) (v := some (.int (nI (l (i))))) (R2 := zR 0 0) dX8_restsBefore_34 kV_RX8_50 rfl ⟨⟨by decide, by decide⟩, by decide, by decide⟩ (by omega) hw rfl rfl rfl (Nat.le_of_ble_eq_true rfl) rfl (c_X8_lengthOf (t := i) h0 hR (by omega)) ?_
            refine z_aload_n dX8_restsBefore_37 rfl ?_
            refine z_iload_n dX8_restsBefore_38 rfl ?_
            refine z_callE (As := [.int (nI (t))]) (rest := [.int (nI (l (i)))]) (b := b) (ci := 8) (v := some (.int (nI (l (t))))) (R2 := zR 0 0) dX8_restsBefore_39 kV_RX8_50 rfl ⟨⟨by decide, by decide⟩, by decide, by decide⟩ (by omega) hw rfl rfl rfl (Nat.le_of_ble_eq_true rfl) rfl (c_X8_lengthOf (t := t) h0 hR (by omega)) ?_
            refine z_icmp_ne_n (a := l (i)) (b := l (t)) (tgt := 54) dX8_restsBefore_42 (by decide) (by omega) (by omega) (fun h_42_57 => ?_) (fun h_42_57 => ?_)
            · refine z_iconst (v := nI 0) dX8_restsBefore_54 rfl ?_
              refine z_istore (lv' := [(0, .ref (za g b)), (1, .int (nI (t))), (2, .int (nI (x))), (3, .int (nI (i))), (4, .int (nI (0))), (5, .int (nI (0)))]) dX8_restsBefore_55 (by decide) rfl ?_
              refine z_aload_n dX8_restsBefore_57 rfl ?_
              refine z_iload_n dX8_restsBefore_58 rfl ?_
              refine z_callE (As := [.int (nI (i))]) (rest := []) (b := b) (ci := 8) (v := some (.int (nI (1)))) (R2 := zR 1 0) dX8_restsBefore_59 kV_RX8_46 rfl ⟨⟨by decide, by decide⟩, by decide, by decide⟩ (by omega) hw rfl rfl rfl (Nat.le_of_ble_eq_true rfl) rfl (c_X8_isRest_y (t := i) h0 hR (by omega) e) ?_
              refine z_if_eq_n (a := 1) (tgt := 78) dX8_restsBefore_62 (by decide) (by omega) (fun h_62_59 => ?_) (fun h_62_59 => ?_)
              · exact absurd h_62_59 (by decide)
              · refine z_iload dX8_restsBefore_65 rfl ?_
                refine z_if_ne_n (a := 0) (tgt := 75) dX8_restsBefore_67 (by decide) (by omega) (fun h_67_60 => ?_) (fun h_67_60 => ?_)
                · exact absurd h_67_60 (by decide)
                · refine z_iload dX8_restsBefore_70 rfl ?_
                  refine z_if_eq_n (a := 0) (tgt := 78) dX8_restsBefore_72 (by decide) (by omega) (fun h_72_61 => ?_) (fun h_72_61 => ?_)
                  · refine z_iinc_n (n := 1) (a := i) (lv' := [(0, .ref (za g b)), (1, .int (nI (t))), (2, .int (nI (x))), (3, .int (nI (i + 1))), (4, .int (nI (0))), (5, .int (nI (0)))]) dX8_restsBefore_78 rfl (by decide) rfl ?_
                    refine z_goto (tgt := 4) dX8_restsBefore_81 (by decide) ?_
                    refine z_sub (lv' := [(0, .ref (za g b)), (1, .int (nI (t))), (2, .int (nI (x))), (3, .int (nI (i + 1)))]) [0, 1, 2, 3] rfl ?_
                    refine ih (i + 1) _ (by omega) (by omega) ?_
                    rw [hx, nsum]; unfold rbF
                    first | (exfalso; omega) | rw [if_pos (by omega)] | (rw [if_neg (by omega)]; rfl)
                  · exact absurd h_72_61 (by decide)
            · refine z_iload_n dX8_restsBefore_45 rfl ?_
              refine z_iload_n dX8_restsBefore_46 rfl ?_
              refine z_icmp_ge_n (a := i) (b := t) (tgt := 54) dX8_restsBefore_47 (by decide) (by omega) (by omega) (fun h_47_62 => ?_) (fun h_47_62 => ?_)
              · refine z_iconst (v := nI 0) dX8_restsBefore_54 rfl ?_
                refine z_istore (lv' := [(0, .ref (za g b)), (1, .int (nI (t))), (2, .int (nI (x))), (3, .int (nI (i))), (4, .int (nI (0))), (5, .int (nI (0)))]) dX8_restsBefore_55 (by decide) rfl ?_
                refine z_aload_n dX8_restsBefore_57 rfl ?_
                refine z_iload_n dX8_restsBefore_58 rfl ?_
                refine z_callE (As := [.int (nI (i))]) (rest := []) (b := b) (ci := 8) (v := some (.int (nI (1)))) (R2 := zR 1 0) dX8_restsBefore_59 kV_RX8_46 rfl ⟨⟨by decide, by decide⟩, by decide, by decide⟩ (by omega) hw rfl rfl rfl (Nat.le_of_ble_eq_true rfl) rfl (c_X8_isRest_y (t := i) h0 hR (by omega) e) ?_
                refine z_if_eq_n (a := 1) (tgt := 78) dX8_restsBefore_62 (by decide) (by omega) (fun h_62_64 => ?_) (fun h_62_64 => ?_)
                · exact absurd h_62_64 (by decide)
                · refine z_iload dX8_restsBefore_65 rfl ?_
                  refine z_if_ne_n (a := 0) (tgt := 75) dX8_restsBefore_67 (by decide) (by omega) (fun h_67_65 => ?_) (fun h_67_65 => ?_)
                  · exact absurd h_67_65 (by decide)
                  · refine z_iload dX8_restsBefore_70 rfl ?_
                    refine z_if_eq_n (a := 0) (tgt := 78) dX8_restsBefore_72 (by decide) (by omega) (fun h_72_66 => ?_) (fun h_72_66 => ?_)
                    · refine z_iinc_n (n := 1) (a := i) (lv' := [(0, .ref (za g b)), (1, .int (nI (t))), (2, .int (nI (x))), (3, .int (nI (i + 1))), (4, .int (nI (0))), (5, .int (nI (0)))]) dX8_restsBefore_78 rfl (by decide) rfl ?_
                      refine z_goto (tgt := 4) dX8_restsBefore_81 (by decide) ?_
                      refine z_sub (lv' := [(0, .ref (za g b)), (1, .int (nI (t))), (2, .int (nI (x))), (3, .int (nI (i + 1)))]) [0, 1, 2, 3] rfl ?_
                      refine ih (i + 1) _ (by omega) (by omega) ?_
                      rw [hx, nsum]; unfold rbF
                      first | (exfalso; omega) | rw [if_pos (by omega)] | (rw [if_neg (by omega)]; rfl)
                    · exact absurd h_72_66 (by decide)
              · refine z_iconst (v := nI 1) dX8_restsBefore_50 rfl ?_
                refine z_goto (tgt := 55) dX8_restsBefore_51 (by decide) ?_
                refine z_istore (lv' := [(0, .ref (za g b)), (1, .int (nI (t))), (2, .int (nI (x))), (3, .int (nI (i))), (4, .int (nI (0))), (5, .int (nI (1)))]) dX8_restsBefore_55 (by decide) rfl ?_
                refine z_aload_n dX8_restsBefore_57 rfl ?_
                refine z_iload_n dX8_restsBefore_58 rfl ?_
                refine z_callE (As := [.int (nI (i))]) (rest := []) (b := b) (ci := 8) (v := some (.int (nI (1)))) (R2 := zR 1 0) dX8_restsBefore_59 kV_RX8_46 rfl ⟨⟨by decide, by decide⟩, by decide, by decide⟩ (by omega) hw rfl rfl rfl (Nat.le_of_ble_eq_true rfl) rfl (c_X8_isRest_y (t := i) h0 hR (by omega) e) ?_
                refine z_if_eq_n (a := 1) (tgt := 78) dX8_restsBefore_62 (by decide) (by omega) (fun h_62_68 => ?_) (fun h_62_68 => ?_)
                · exact absurd h_62_68 (by decide)
                · refine z_iload dX8_restsBefore_65 rfl ?_
                  refine z_if_ne_n (a := 0) (tgt := 75) dX8_restsBefore_67 (by decide) (by omega) (fun h_67_69 => ?_) (fun h_67_69 => ?_)
                  · exact absurd h_67_69 (by decide)
                  · refine z_iload dX8_restsBefore_70 rfl ?_
                    refine z_if_eq_n (a := 1) (tgt := 78) dX8_restsBefore_72 (by decide) (by omega) (fun h_72_70 => ?_) (fun h_72_70 => ?_)
                    · exact absurd h_72_70 (by decide)
                    · refine z_iinc_n (n := 1) (a := x) (lv' := [(0, .ref (za g b)), (1, .int (nI (t))), (2, .int (nI (x + 1))), (3, .int (nI (i))), (4, .int (nI (0))), (5, .int (nI (1)))]) dX8_restsBefore_75 rfl (by decide) rfl ?_
                      refine z_iinc_n (n := 1) (a := i) (lv' := [(0, .ref (za g b)), (1, .int (nI (t))), (2, .int (nI (x + 1))), (3, .int (nI (i + 1))), (4, .int (nI (0))), (5, .int (nI (1)))]) dX8_restsBefore_78 rfl (by decide) rfl ?_
                      refine z_goto (tgt := 4) dX8_restsBefore_81 (by decide) ?_
                      refine z_sub (lv' := [(0, .ref (za g b)), (1, .int (nI (t))), (2, .int (nI (x + 1))), (3, .int (nI (i + 1)))]) [0, 1, 2, 3] rfl ?_
                      refine ih (i + 1) _ (by omega) (by omega) ?_
                      rw [hx, nsum]; unfold rbF
                      first | (exfalso; omega) | rw [if_pos (by omega)] | (rw [if_neg (by omega)]; rfl)
          · refine z_iconst (v := nI 1) dX8_restsBefore_25 rfl ?_
            refine z_goto (tgt := 30) dX8_restsBefore_26 (by decide) ?_
            refine z_istore (lv' := [(0, .ref (za g b)), (1, .int (nI (t))), (2, .int (nI (x))), (3, .int (nI (i))), (4, .int (nI (1)))]) dX8_restsBefore_30 (by decide) rfl ?_
            refine z_aload_n dX8_restsBefore_32 rfl ?_
            refine z_iload_n dX8_restsBefore_33 rfl ?_
            refine z_callE (As := [.int (nI (i))]) (rest := []) (b := b) (ci := 8) (v := some (.int (nI (l (i))))) (R2 := zR 0 0) dX8_restsBefore_34 kV_RX8_50 rfl ⟨⟨by decide, by decide⟩, by decide, by decide⟩ (by omega) hw rfl rfl rfl (Nat.le_of_ble_eq_true rfl) rfl (c_X8_lengthOf (t := i) h0 hR (by omega)) ?_
            refine z_aload_n dX8_restsBefore_37 rfl ?_
            refine z_iload_n dX8_restsBefore_38 rfl ?_
            refine z_callE (As := [.int (nI (t))]) (rest := [.int (nI (l (i)))]) (b := b) (ci := 8) (v := some (.int (nI (l (t))))) (R2 := zR 0 0) dX8_restsBefore_39 kV_RX8_50 rfl ⟨⟨by decide, by decide⟩, by decide, by decide⟩ (by omega) hw rfl rfl rfl (Nat.le_of_ble_eq_true rfl) rfl (c_X8_lengthOf (t := t) h0 hR (by omega)) ?_
            refine z_icmp_ne_n (a := l (i)) (b := l (t)) (tgt := 54) dX8_restsBefore_42 (by decide) (by omega) (by omega) (fun h_42_73 => ?_) (fun h_42_73 => ?_)
            · refine z_iconst (v := nI 0) dX8_restsBefore_54 rfl ?_
              refine z_istore (lv' := [(0, .ref (za g b)), (1, .int (nI (t))), (2, .int (nI (x))), (3, .int (nI (i))), (4, .int (nI (1))), (5, .int (nI (0)))]) dX8_restsBefore_55 (by decide) rfl ?_
              refine z_aload_n dX8_restsBefore_57 rfl ?_
              refine z_iload_n dX8_restsBefore_58 rfl ?_
              refine z_callE (As := [.int (nI (i))]) (rest := []) (b := b) (ci := 8) (v := some (.int (nI (1)))) (R2 := zR 1 0) dX8_restsBefore_59 kV_RX8_46 rfl ⟨⟨by decide, by decide⟩, by decide, by decide⟩ (by omega) hw rfl rfl rfl (Nat.le_of_ble_eq_true rfl) rfl (c_X8_isRest_y (t := i) h0 hR (by omega) e) ?_
              refine z_if_eq_n (a := 1) (tgt := 78) dX8_restsBefore_62 (by decide) (by omega) (fun h_62_75 => ?_) (fun h_62_75 => ?_)
              · exact absurd h_62_75 (by decide)
              · refine z_iload dX8_restsBefore_65 rfl ?_
                refine z_if_ne_n (a := 1) (tgt := 75) dX8_restsBefore_67 (by decide) (by omega) (fun h_67_76 => ?_) (fun h_67_76 => ?_)
                · refine z_iinc_n (n := 1) (a := x) (lv' := [(0, .ref (za g b)), (1, .int (nI (t))), (2, .int (nI (x + 1))), (3, .int (nI (i))), (4, .int (nI (1))), (5, .int (nI (0)))]) dX8_restsBefore_75 rfl (by decide) rfl ?_
                  refine z_iinc_n (n := 1) (a := i) (lv' := [(0, .ref (za g b)), (1, .int (nI (t))), (2, .int (nI (x + 1))), (3, .int (nI (i + 1))), (4, .int (nI (1))), (5, .int (nI (0)))]) dX8_restsBefore_78 rfl (by decide) rfl ?_
                  refine z_goto (tgt := 4) dX8_restsBefore_81 (by decide) ?_
                  refine z_sub (lv' := [(0, .ref (za g b)), (1, .int (nI (t))), (2, .int (nI (x + 1))), (3, .int (nI (i + 1)))]) [0, 1, 2, 3] rfl ?_
                  refine ih (i + 1) _ (by omega) (by omega) ?_
                  rw [hx, nsum]; unfold rbF
                  first | (exfalso; omega) | rw [if_pos (by omega)] | (rw [if_neg (by omega)]; rfl)
                · exact absurd h_67_76 (by decide)
            · refine z_iload_n dX8_restsBefore_45 rfl ?_
              refine z_iload_n dX8_restsBefore_46 rfl ?_
              refine z_icmp_ge_n (a := i) (b := t) (tgt := 54) dX8_restsBefore_47 (by decide) (by omega) (by omega) (fun h_47_77 => ?_) (fun h_47_77 => ?_)
              · refine z_iconst (v := nI 0) dX8_restsBefore_54 rfl ?_
                refine z_istore (lv' := [(0, .ref (za g b)), (1, .int (nI (t))), (2, .int (nI (x))), (3, .int (nI (i))), (4, .int (nI (1))), (5, .int (nI (0)))]) dX8_restsBefore_55 (by decide) rfl ?_
                refine z_aload_n dX8_restsBefore_57 rfl ?_
                refine z_iload_n dX8_restsBefore_58 rfl ?_
                refine z_callE (As := [.int (nI (i))]) (rest := []) (b := b) (ci := 8) (v := some (.int (nI (1)))) (R2 := zR 1 0) dX8_restsBefore_59 kV_RX8_46 rfl ⟨⟨by decide, by decide⟩, by decide, by decide⟩ (by omega) hw rfl rfl rfl (Nat.le_of_ble_eq_true rfl) rfl (c_X8_isRest_y (t := i) h0 hR (by omega) e) ?_
                refine z_if_eq_n (a := 1) (tgt := 78) dX8_restsBefore_62 (by decide) (by omega) (fun h_62_79 => ?_) (fun h_62_79 => ?_)
                · exact absurd h_62_79 (by decide)
                · refine z_iload dX8_restsBefore_65 rfl ?_
                  refine z_if_ne_n (a := 1) (tgt := 75) dX8_restsBefore_67 (by decide) (by omega) (fun h_67_80 => ?_) (fun h_67_80 => ?_)
                  · refine z_iinc_n (n := 1) (a := x) (lv' := [(0, .ref (za g b)), (1, .int (nI (t))), (2, .int (nI (x + 1))), (3, .int (nI (i))), (4, .int (nI (1))), (5, .int (nI (0)))]) dX8_restsBefore_75 rfl (by decide) rfl ?_
                    refine z_iinc_n (n := 1) (a := i) (lv' := [(0, .ref (za g b)), (1, .int (nI (t))), (2, .int (nI (x + 1))), (3, .int (nI (i + 1))), (4, .int (nI (1))), (5, .int (nI (0)))]) dX8_restsBefore_78 rfl (by decide) rfl ?_
                    refine z_goto (tgt := 4) dX8_restsBefore_81 (by decide) ?_
                    refine z_sub (lv' := [(0, .ref (za g b)), (1, .int (nI (t))), (2, .int (nI (x + 1))), (3, .int (nI (i + 1)))]) [0, 1, 2, 3] rfl ?_
                    refine ih (i + 1) _ (by omega) (by omega) ?_
                    rw [hx, nsum]; unfold rbF
                    first | (exfalso; omega) | rw [if_pos (by omega)] | (rw [if_neg (by omega)]; rfl)
                  · exact absurd h_67_80 (by decide)
              · refine z_iconst (v := nI 1) dX8_restsBefore_50 rfl ?_
                refine z_goto (tgt := 55) dX8_restsBefore_51 (by decide) ?_
                refine z_istore (lv' := [(0, .ref (za g b)), (1, .int (nI (t))), (2, .int (nI (x))), (3, .int (nI (i))), (4, .int (nI (1))), (5, .int (nI (1)))]) dX8_restsBefore_55 (by decide) rfl ?_
                refine z_aload_n dX8_restsBefore_57 rfl ?_
                refine z_iload_n dX8_restsBefore_58 rfl ?_
                refine z_callE (As := [.int (nI (i))]) (rest := []) (b := b) (ci := 8) (v := some (.int (nI (1)))) (R2 := zR 1 0) dX8_restsBefore_59 kV_RX8_46 rfl ⟨⟨by decide, by decide⟩, by decide, by decide⟩ (by omega) hw rfl rfl rfl (Nat.le_of_ble_eq_true rfl) rfl (c_X8_isRest_y (t := i) h0 hR (by omega) e) ?_
                refine z_if_eq_n (a := 1) (tgt := 78) dX8_restsBefore_62 (by decide) (by omega) (fun h_62_82 => ?_) (fun h_62_82 => ?_)
                · exact absurd h_62_82 (by decide)
                · refine z_iload dX8_restsBefore_65 rfl ?_
                  refine z_if_ne_n (a := 1) (tgt := 75) dX8_restsBefore_67 (by decide) (by omega) (fun h_67_83 => ?_) (fun h_67_83 => ?_)
                  · refine z_iinc_n (n := 1) (a := x) (lv' := [(0, .ref (za g b)), (1, .int (nI (t))), (2, .int (nI (x + 1))), (3, .int (nI (i))), (4, .int (nI (1))), (5, .int (nI (1)))]) dX8_restsBefore_75 rfl (by decide) rfl ?_
                    refine z_iinc_n (n := 1) (a := i) (lv' := [(0, .ref (za g b)), (1, .int (nI (t))), (2, .int (nI (x + 1))), (3, .int (nI (i + 1))), (4, .int (nI (1))), (5, .int (nI (1)))]) dX8_restsBefore_78 rfl (by decide) rfl ?_
                    refine z_goto (tgt := 4) dX8_restsBefore_81 (by decide) ?_
                    refine z_sub (lv' := [(0, .ref (za g b)), (1, .int (nI (t))), (2, .int (nI (x + 1))), (3, .int (nI (i + 1)))]) [0, 1, 2, 3] rfl ?_
                    refine ih (i + 1) _ (by omega) (by omega) ?_
                    rw [hx, nsum]; unfold rbF
                    first | (exfalso; omega) | rw [if_pos (by omega)] | (rw [if_neg (by omega)]; rfl)
                  · exact absurd h_67_83 (by decide)
        · refine z_aload_n dX8_restsBefore_12 rfl ?_
          refine z_iload_n dX8_restsBefore_13 rfl ?_
          refine z_callE (As := [.int (nI (i))]) (rest := []) (b := b) (ci := 8) (v := some (.int (nI (l (i))))) (R2 := zR 0 0) dX8_restsBefore_14 kV_RX8_50 rfl ⟨⟨by decide, by decide⟩, by decide, by decide⟩ (by omega) hw rfl rfl rfl (Nat.le_of_ble_eq_true rfl) rfl (c_X8_lengthOf (t := i) h0 hR (by omega)) ?_
          refine z_aload_n dX8_restsBefore_17 rfl ?_
          refine z_iload_n dX8_restsBefore_18 rfl ?_
          refine z_callE (As := [.int (nI (t))]) (rest := [.int (nI (l (i)))]) (b := b) (ci := 8) (v := some (.int (nI (l (t))))) (R2 := zR 0 0) dX8_restsBefore_19 kV_RX8_50 rfl ⟨⟨by decide, by decide⟩, by decide, by decide⟩ (by omega) hw rfl rfl rfl (Nat.le_of_ble_eq_true rfl) rfl (c_X8_lengthOf (t := t) h0 hR (by omega)) ?_
          refine z_icmp_le_n (a := l (i)) (b := l (t)) (tgt := 29) dX8_restsBefore_22 (by decide) (by omega) (by omega) (fun h_22_136 => ?_) (fun h_22_136 => ?_)
          · refine z_iconst (v := nI 0) dX8_restsBefore_29 rfl ?_
            refine z_istore (lv' := [(0, .ref (za g b)), (1, .int (nI (t))), (2, .int (nI (x))), (3, .int (nI (i))), (4, .int (nI (0)))]) dX8_restsBefore_30 (by decide) rfl ?_
            refine z_aload_n dX8_restsBefore_32 rfl ?_
            refine z_iload_n dX8_restsBefore_33 rfl ?_
            refine z_callE (As := [.int (nI (i))]) (rest := []) (b := b) (ci := 8) (v := some (.int (nI (l (i))))) (R2 := zR 0 0) dX8_restsBefore_34 kV_RX8_50 rfl ⟨⟨by decide, by decide⟩, by decide, by decide⟩ (by omega) hw rfl rfl rfl (Nat.le_of_ble_eq_true rfl) rfl (c_X8_lengthOf (t := i) h0 hR (by omega)) ?_
            refine z_aload_n dX8_restsBefore_37 rfl ?_
            refine z_iload_n dX8_restsBefore_38 rfl ?_
            refine z_callE (As := [.int (nI (t))]) (rest := [.int (nI (l (i)))]) (b := b) (ci := 8) (v := some (.int (nI (l (t))))) (R2 := zR 0 0) dX8_restsBefore_39 kV_RX8_50 rfl ⟨⟨by decide, by decide⟩, by decide, by decide⟩ (by omega) hw rfl rfl rfl (Nat.le_of_ble_eq_true rfl) rfl (c_X8_lengthOf (t := t) h0 hR (by omega)) ?_
            refine z_icmp_ne_n (a := l (i)) (b := l (t)) (tgt := 54) dX8_restsBefore_42 (by decide) (by omega) (by omega) (fun h_42_139 => ?_) (fun h_42_139 => ?_)
            · refine z_iconst (v := nI 0) dX8_restsBefore_54 rfl ?_
              refine z_istore (lv' := [(0, .ref (za g b)), (1, .int (nI (t))), (2, .int (nI (x))), (3, .int (nI (i))), (4, .int (nI (0))), (5, .int (nI (0)))]) dX8_restsBefore_55 (by decide) rfl ?_
              refine z_aload_n dX8_restsBefore_57 rfl ?_
              refine z_iload_n dX8_restsBefore_58 rfl ?_
              refine z_callE (As := [.int (nI (i))]) (rest := []) (b := b) (ci := 8) (v := some (.int (nI (0)))) (R2 := zR 1 0) dX8_restsBefore_59 kV_RX8_46 rfl ⟨⟨by decide, by decide⟩, by decide, by decide⟩ (by omega) hw rfl rfl rfl (Nat.le_of_ble_eq_true rfl) rfl (c_X8_isRest_n (t := i) h0 hR (by omega) e) ?_
              refine z_if_eq_n (a := 0) (tgt := 78) dX8_restsBefore_62 (by decide) (by omega) (fun h_62_141 => ?_) (fun h_62_141 => ?_)
              · refine z_iinc_n (n := 1) (a := i) (lv' := [(0, .ref (za g b)), (1, .int (nI (t))), (2, .int (nI (x))), (3, .int (nI (i + 1))), (4, .int (nI (0))), (5, .int (nI (0)))]) dX8_restsBefore_78 rfl (by decide) rfl ?_
                refine z_goto (tgt := 4) dX8_restsBefore_81 (by decide) ?_
                refine z_sub (lv' := [(0, .ref (za g b)), (1, .int (nI (t))), (2, .int (nI (x))), (3, .int (nI (i + 1)))]) [0, 1, 2, 3] rfl ?_
                refine ih (i + 1) _ (by omega) (by omega) ?_
                rw [hx, nsum]; unfold rbF
                first | (exfalso; omega) | rw [if_pos (by omega)] | (rw [if_neg (by omega)]; rfl)
              · exact absurd h_62_141 (by decide)
            · refine z_iload_n dX8_restsBefore_45 rfl ?_
              refine z_iload_n dX8_restsBefore_46 rfl ?_
              refine z_icmp_ge_n (a := i) (b := t) (tgt := 54) dX8_restsBefore_47 (by decide) (by omega) (by omega) (fun h_47_142 => ?_) (fun h_47_142 => ?_)
              · refine z_iconst (v := nI 0) dX8_restsBefore_54 rfl ?_
                refine z_istore (lv' := [(0, .ref (za g b)), (1, .int (nI (t))), (2, .int (nI (x))), (3, .int (nI (i))), (4, .int (nI (0))), (5, .int (nI (0)))]) dX8_restsBefore_55 (by decide) rfl ?_
                refine z_aload_n dX8_restsBefore_57 rfl ?_
                refine z_iload_n dX8_restsBefore_58 rfl ?_
                refine z_callE (As := [.int (nI (i))]) (rest := []) (b := b) (ci := 8) (v := some (.int (nI (0)))) (R2 := zR 1 0) dX8_restsBefore_59 kV_RX8_46 rfl ⟨⟨by decide, by decide⟩, by decide, by decide⟩ (by omega) hw rfl rfl rfl (Nat.le_of_ble_eq_true rfl) rfl (c_X8_isRest_n (t := i) h0 hR (by omega) e) ?_
                refine z_if_eq_n (a := 0) (tgt := 78) dX8_restsBefore_62 (by decide) (by omega) (fun h_62_144 => ?_) (fun h_62_144 => ?_)
                · refine z_iinc_n (n := 1) (a := i) (lv' := [(0, .ref (za g b)), (1, .int (nI (t))), (2, .int (nI (x))), (3, .int (nI (i + 1))), (4, .int (nI (0))), (5, .int (nI (0)))]) dX8_restsBefore_78 rfl (by decide) rfl ?_
                  refine z_goto (tgt := 4) dX8_restsBefore_81 (by decide) ?_
                  refine z_sub (lv' := [(0, .ref (za g b)), (1, .int (nI (t))), (2, .int (nI (x))), (3, .int (nI (i + 1)))]) [0, 1, 2, 3] rfl ?_
                  refine ih (i + 1) _ (by omega) (by omega) ?_
                  rw [hx, nsum]; unfold rbF
                  first | (exfalso; omega) | rw [if_pos (by omega)] | (rw [if_neg (by omega)]; rfl)
                · exact absurd h_62_144 (by decide)
              · refine z_iconst (v := nI 1) dX8_restsBefore_50 rfl ?_
                refine z_goto (tgt := 55) dX8_restsBefore_51 (by decide) ?_
                refine z_istore (lv' := [(0, .ref (za g b)), (1, .int (nI (t))), (2, .int (nI (x))), (3, .int (nI (i))), (4, .int (nI (0))), (5, .int (nI (1)))]) dX8_restsBefore_55 (by decide) rfl ?_
                refine z_aload_n dX8_restsBefore_57 rfl ?_
                refine z_iload_n dX8_restsBefore_58 rfl ?_
                refine z_callE (As := [.int (nI (i))]) (rest := []) (b := b) (ci := 8) (v := some (.int (nI (0)))) (R2 := zR 1 0) dX8_restsBefore_59 kV_RX8_46 rfl ⟨⟨by decide, by decide⟩, by decide, by decide⟩ (by omega) hw rfl rfl rfl (Nat.le_of_ble_eq_true rfl) rfl (c_X8_isRest_n (t := i) h0 hR (by omega) e) ?_
                refine z_if_eq_n (a := 0) (tgt := 78) dX8_restsBefore_62 (by decide) (by omega) (fun h_62_146 => ?_) (fun h_62_146 => ?_)
                · refine z_iinc_n (n := 1) (a := i) (lv' := [(0, .ref (za g b)), (1, .int (nI (t))), (2, .int (nI (x))), (3, .int (nI (i + 1))), (4, .int (nI (0))), (5, .int (nI (1)))]) dX8_restsBefore_78 rfl (by decide) rfl ?_
                  refine z_goto (tgt := 4) dX8_restsBefore_81 (by decide) ?_
                  refine z_sub (lv' := [(0, .ref (za g b)), (1, .int (nI (t))), (2, .int (nI (x))), (3, .int (nI (i + 1)))]) [0, 1, 2, 3] rfl ?_
                  refine ih (i + 1) _ (by omega) (by omega) ?_
                  rw [hx, nsum]; unfold rbF
                  first | (exfalso; omega) | rw [if_pos (by omega)] | (rw [if_neg (by omega)]; rfl)
                · exact absurd h_62_146 (by decide)
          · refine z_iconst (v := nI 1) dX8_restsBefore_25 rfl ?_
            refine z_goto (tgt := 30) dX8_restsBefore_26 (by decide) ?_
            refine z_istore (lv' := [(0, .ref (za g b)), (1, .int (nI (t))), (2, .int (nI (x))), (3, .int (nI (i))), (4, .int (nI (1)))]) dX8_restsBefore_30 (by decide) rfl ?_
            refine z_aload_n dX8_restsBefore_32 rfl ?_
            refine z_iload_n dX8_restsBefore_33 rfl ?_
            refine z_callE (As := [.int (nI (i))]) (rest := []) (b := b) (ci := 8) (v := some (.int (nI (l (i))))) (R2 := zR 0 0) dX8_restsBefore_34 kV_RX8_50 rfl ⟨⟨by decide, by decide⟩, by decide, by decide⟩ (by omega) hw rfl rfl rfl (Nat.le_of_ble_eq_true rfl) rfl (c_X8_lengthOf (t := i) h0 hR (by omega)) ?_
            refine z_aload_n dX8_restsBefore_37 rfl ?_
            refine z_iload_n dX8_restsBefore_38 rfl ?_
            refine z_callE (As := [.int (nI (t))]) (rest := [.int (nI (l (i)))]) (b := b) (ci := 8) (v := some (.int (nI (l (t))))) (R2 := zR 0 0) dX8_restsBefore_39 kV_RX8_50 rfl ⟨⟨by decide, by decide⟩, by decide, by decide⟩ (by omega) hw rfl rfl rfl (Nat.le_of_ble_eq_true rfl) rfl (c_X8_lengthOf (t := t) h0 hR (by omega)) ?_
            refine z_icmp_ne_n (a := l (i)) (b := l (t)) (tgt := 54) dX8_restsBefore_42 (by decide) (by omega) (by omega) (fun h_42_149 => ?_) (fun h_42_149 => ?_)
            · refine z_iconst (v := nI 0) dX8_restsBefore_54 rfl ?_
              refine z_istore (lv' := [(0, .ref (za g b)), (1, .int (nI (t))), (2, .int (nI (x))), (3, .int (nI (i))), (4, .int (nI (1))), (5, .int (nI (0)))]) dX8_restsBefore_55 (by decide) rfl ?_
              refine z_aload_n dX8_restsBefore_57 rfl ?_
              refine z_iload_n dX8_restsBefore_58 rfl ?_
              refine z_callE (As := [.int (nI (i))]) (rest := []) (b := b) (ci := 8) (v := some (.int (nI (0)))) (R2 := zR 1 0) dX8_restsBefore_59 kV_RX8_46 rfl ⟨⟨by decide, by decide⟩, by decide, by decide⟩ (by omega) hw rfl rfl rfl (Nat.le_of_ble_eq_true rfl) rfl (c_X8_isRest_n (t := i) h0 hR (by omega) e) ?_
              refine z_if_eq_n (a := 0) (tgt := 78) dX8_restsBefore_62 (by decide) (by omega) (fun h_62_151 => ?_) (fun h_62_151 => ?_)
              · refine z_iinc_n (n := 1) (a := i) (lv' := [(0, .ref (za g b)), (1, .int (nI (t))), (2, .int (nI (x))), (3, .int (nI (i + 1))), (4, .int (nI (1))), (5, .int (nI (0)))]) dX8_restsBefore_78 rfl (by decide) rfl ?_
                refine z_goto (tgt := 4) dX8_restsBefore_81 (by decide) ?_
                refine z_sub (lv' := [(0, .ref (za g b)), (1, .int (nI (t))), (2, .int (nI (x))), (3, .int (nI (i + 1)))]) [0, 1, 2, 3] rfl ?_
                refine ih (i + 1) _ (by omega) (by omega) ?_
                rw [hx, nsum]; unfold rbF
                first | (exfalso; omega) | rw [if_pos (by omega)] | (rw [if_neg (by omega)]; rfl)
              · exact absurd h_62_151 (by decide)
            · refine z_iload_n dX8_restsBefore_45 rfl ?_
              refine z_iload_n dX8_restsBefore_46 rfl ?_
              refine z_icmp_ge_n (a := i) (b := t) (tgt := 54) dX8_restsBefore_47 (by decide) (by omega) (by omega) (fun h_47_152 => ?_) (fun h_47_152 => ?_)
              · refine z_iconst (v := nI 0) dX8_restsBefore_54 rfl ?_
                refine z_istore (lv' := [(0, .ref (za g b)), (1, .int (nI (t))), (2, .int (nI (x))), (3, .int (nI (i))), (4, .int (nI (1))), (5, .int (nI (0)))]) dX8_restsBefore_55 (by decide) rfl ?_
                refine z_aload_n dX8_restsBefore_57 rfl ?_
                refine z_iload_n dX8_restsBefore_58 rfl ?_
                refine z_callE (As := [.int (nI (i))]) (rest := []) (b := b) (ci := 8) (v := some (.int (nI (0)))) (R2 := zR 1 0) dX8_restsBefore_59 kV_RX8_46 rfl ⟨⟨by decide, by decide⟩, by decide, by decide⟩ (by omega) hw rfl rfl rfl (Nat.le_of_ble_eq_true rfl) rfl (c_X8_isRest_n (t := i) h0 hR (by omega) e) ?_
                refine z_if_eq_n (a := 0) (tgt := 78) dX8_restsBefore_62 (by decide) (by omega) (fun h_62_154 => ?_) (fun h_62_154 => ?_)
                · refine z_iinc_n (n := 1) (a := i) (lv' := [(0, .ref (za g b)), (1, .int (nI (t))), (2, .int (nI (x))), (3, .int (nI (i + 1))), (4, .int (nI (1))), (5, .int (nI (0)))]) dX8_restsBefore_78 rfl (by decide) rfl ?_
                  refine z_goto (tgt := 4) dX8_restsBefore_81 (by decide) ?_
                  refine z_sub (lv' := [(0, .ref (za g b)), (1, .int (nI (t))), (2, .int (nI (x))), (3, .int (nI (i + 1)))]) [0, 1, 2, 3] rfl ?_
                  refine ih (i + 1) _ (by omega) (by omega) ?_
                  rw [hx, nsum]; unfold rbF
                  first | (exfalso; omega) | rw [if_pos (by omega)] | (rw [if_neg (by omega)]; rfl)
                · exact absurd h_62_154 (by decide)
              · refine z_iconst (v := nI 1) dX8_restsBefore_50 rfl ?_
                refine z_goto (tgt := 55) dX8_restsBefore_51 (by decide) ?_
                refine z_istore (lv' := [(0, .ref (za g b)), (1, .int (nI (t))), (2, .int (nI (x))), (3, .int (nI (i))), (4, .int (nI (1))), (5, .int (nI (1)))]) dX8_restsBefore_55 (by decide) rfl ?_
                refine z_aload_n dX8_restsBefore_57 rfl ?_
                refine z_iload_n dX8_restsBefore_58 rfl ?_
                refine z_callE (As := [.int (nI (i))]) (rest := []) (b := b) (ci := 8) (v := some (.int (nI (0)))) (R2 := zR 1 0) dX8_restsBefore_59 kV_RX8_46 rfl ⟨⟨by decide, by decide⟩, by decide, by decide⟩ (by omega) hw rfl rfl rfl (Nat.le_of_ble_eq_true rfl) rfl (c_X8_isRest_n (t := i) h0 hR (by omega) e) ?_
                refine z_if_eq_n (a := 0) (tgt := 78) dX8_restsBefore_62 (by decide) (by omega) (fun h_62_156 => ?_) (fun h_62_156 => ?_)
                · refine z_iinc_n (n := 1) (a := i) (lv' := [(0, .ref (za g b)), (1, .int (nI (t))), (2, .int (nI (x))), (3, .int (nI (i + 1))), (4, .int (nI (1))), (5, .int (nI (1)))]) dX8_restsBefore_78 rfl (by decide) rfl ?_
                  refine z_goto (tgt := 4) dX8_restsBefore_81 (by decide) ?_
                  refine z_sub (lv' := [(0, .ref (za g b)), (1, .int (nI (t))), (2, .int (nI (x))), (3, .int (nI (i + 1)))]) [0, 1, 2, 3] rfl ?_
                  refine ih (i + 1) _ (by omega) (by omega) ?_
                  rw [hx, nsum]; unfold rbF
                  first | (exfalso; omega) | rw [if_pos (by omega)] | (rw [if_neg (by omega)]; rfl)
                · exact absurd h_62_156 (by decide)
  refine z_iconst (v := nI 0) dX8_restsBefore_0 rfl ?_
  refine z_istore_n (lv' := [(0, .ref (za g b)), (1, .int (nI (t))), (2, .int (nI (0)))]) dX8_restsBefore_1 (by decide) rfl ?_
  refine z_iconst (v := nI 0) dX8_restsBefore_2 rfl ?_
  refine z_istore_n (lv' := [(0, .ref (za g b)), (1, .int (nI (t))), (2, .int (nI (0))), (3, .int (nI (0)))]) dX8_restsBefore_3 (by decide) rfl ?_
  exact loop (m + 1) 0 0 (by omega) (Nat.zero_le _) rfl
theorem rb_le {l v : Nat → Nat} {t m : Nat} : nsum (rbF l v t) m ≤ m := by
  have := nsum_le (F := rbF l v t) (c := 1) (m := m) (fun r _ => by unfold rbF; split <;> omega)
  omega
/-- the first number below m with P, or -1 -/
def fidx (P : Nat → Bool) (m : Nat) : Int := lidx P (List.range m) 0
theorem gD_range {m k : Nat} (h : k < m) : (List.range m).getD k 0 = k := by rw [gD_lt (by simpa using h)]; simp
theorem fidx_hit {P : Nat → Bool} {m i : Nat} (hi : i < m) (h : ∀ k, k < i → P k = false) (h2 : P i = true) : fidx P m = i :=
  lidx_hit (by simpa using hi) (fun k hk => by rw [gD_range (by omega)]; exact h k hk) (by rw [gD_range hi]; exact h2)
theorem fidx_no {P : Nat → Bool} {m : Nat} (h : ∀ k, k < m → P k = false) : fidx P m = -1 :=
  lidx_no (fun k hk => by rw [List.length_range] at hk; rw [gD_range hk]; exact h k hk)
theorem fidx_cases (P : Nat → Bool) (m : Nat) : (fidx P m = -1 ∧ ∀ k, k < m → P k = false) ∨ ∃ i, i < m ∧ fidx P m = (i : Int) ∧ P i = true ∧ ∀ k, k < i → P k = false := by
  rcases lidx_cases P (List.range m) with ⟨h1, h2⟩ | ⟨i, h1, h2, h3, h4⟩
  · exact Or.inl ⟨h1, fun k hk => by have := h2 k (by simpa using hk); rwa [gD_range hk] at this⟩
  · have hi : i < m := by simpa using h1
    exact Or.inr ⟨i, hi, h2, by rwa [gD_range hi] at h3, fun k hk => by have := h4 k hk; rwa [gD_range (by omega)] at this⟩
set_option maxRecDepth 100000 in
set_option maxHeartbeats 4000000 in
theorem c_X8_restOfRank {g : zGT} {w : zW} {b m : Nat} {s l v : Nat → Nat} {t : Int32} (h0 : zG0 g) (hR : Rn g w b m s l v) : zCt g mX8_restOfRank (zR 3 0) [.ref (za g b), .int (t)] w (fun o w' => o = .inl (some (.int (Int32.ofInt (fidx (fun r => decide (v r = 0 ∧ ((nsum (rbF l v r) m : Nat) : Int) = t.toInt)) m)))) ∧ w' = w) := by
  obtain ⟨hb, hw, hm, f1, f2, f3, hr1, hr2, hr3, hk⟩ := id hR
  have hbd : ∀ r, r < m → s r ≤ 200 ∧ l r ≤ 200 ∧ v r ≤ 9 := fun r hr => (hk r hr).2
  refine zCt_of (by decide +kernel) h0 [(0, .ref (za g b)), (1, .int (t))] rfl (Nat.le_of_ble_eq_true rfl) ?_
  have loop : ∀ (mm : Nat) (i : Nat), m - i < mm → (i ≤ m) → (∀ k, k < i → (fun r => decide (v r = 0 ∧ ((nsum (rbF l v r) m : Nat) : Int) = t.toInt)) k = false) → zTr g mX8_restOfRank (zR 3 0) 0 0 2 [(0, .ref (za g b)), (1, .int (t)), (2, .int (nI (i)))] [] w (fun o w' => o = .inl (some (.int (Int32.ofInt (fidx (fun r => decide (v r = 0 ∧ ((nsum (rbF l v r) m : Nat) : Int) = t.toInt)) m)))) ∧ w' = w) := by
    intro mm
    induction mm with
    | zero => intros; omega
    | succ mm ih =>
      intro i hm him hs
      refine z_iload_n dX8_restOfRank_2 rfl ?_
      refine z_aload_n dX8_restOfRank_3 rfl ?_
      refine z_getf (j := b) dX8_restOfRank_4 kF_RX8_21 rfl (by omega) hw rfl ?_
      refine z_icmp_ge_n (a := i) (b := m) (tgt := 35) dX8_restOfRank_7 (by decide) (by omega) (by omega) (fun h_7_1 => ?_) (fun h_7_1 => ?_)
      · refine z_iconst (v := -1) dX8_restOfRank_35 rfl ?_
        refine z_iret dX8_restOfRank_36 rfl (by decide) (by decide) ?_
        exact ⟨by rw [fidx_no (fun k hk => hs k (by omega))]; rfl, rfl⟩
      · by_cases e : v i = 0
        · have hbi := hbd i (by omega)
          have hrb : nsum (rbF l v i) m ≤ m := rb_le
          have hz := nI_toInt (n := nsum (rbF l v i) m) (by omega)
          refine z_aload_n dX8_restOfRank_10 rfl ?_
          refine z_iload_n dX8_restOfRank_11 rfl ?_
          refine z_callE (As := [.int (nI (i))]) (rest := []) (b := b) (ci := 8) (v := some (.int (nI (1)))) (R2 := zR 1 0) dX8_restOfRank_12 kV_RX8_46 rfl ⟨⟨by decide, by decide⟩, by decide, by decide⟩ (by omega) hw rfl rfl rfl (Nat.le_of_ble_eq_true rfl) rfl (c_X8_isRest_y (t := i) h0 hR (by omega) e) ?_
          refine z_if_eq_n (a := 1) (tgt := 29) dX8_restOfRank_15 (by decide) (by omega) (fun h_15_53 => ?_) (fun h_15_53 => ?_)
          · exact absurd h_15_53 (by decide)
          · refine z_aload_n dX8_restOfRank_18 rfl ?_
            refine z_iload_n dX8_restOfRank_19 rfl ?_
            refine z_callE (As := [.int (nI (i))]) (rest := []) (b := b) (ci := 8) (v := some (.int (nI (nsum (rbF l v (i)) m)))) (R2 := zR 2 0) dX8_restOfRank_20 kV_RX8_53 rfl ⟨⟨by decide, by decide⟩, by decide, by decide⟩ (by omega) hw rfl rfl rfl (Nat.le_of_ble_eq_true rfl) rfl (c_X8_restsBefore (t := i) h0 hR (by omega)) ?_
            refine z_iload_n dX8_restOfRank_23 rfl ?_
            refine z_icmp_ne_z (tgt := 29) dX8_restOfRank_24 (by decide) (fun h_24_55 => ?_) (fun h_24_55 => ?_)
            · refine z_iinc_n (n := 1) (a := i) (lv' := [(0, .ref (za g b)), (1, .int (t)), (2, .int (nI (i + 1)))]) dX8_restOfRank_29 rfl (by decide) rfl ?_
              refine z_goto (tgt := 2) dX8_restOfRank_32 (by decide) ?_
              refine ih (i + 1) (by omega) (by omega) (fun k hk => ?_)
              by_cases e9 : k = i
              · subst e9; exact decide_eq_false (by omega)
              · exact hs k (by omega)
            · refine z_iload_n dX8_restOfRank_27 rfl ?_
              refine z_iret dX8_restOfRank_28 rfl (by decide) (by decide) ?_
              exact ⟨by rw [fidx_hit (by omega) hs (decide_eq_true (by omega))]; rfl, rfl⟩
        · have hbi := hbd i (by omega)
          have hrb : nsum (rbF l v i) m ≤ m := rb_le
          have hz := nI_toInt (n := nsum (rbF l v i) m) (by omega)
          refine z_aload_n dX8_restOfRank_10 rfl ?_
          refine z_iload_n dX8_restOfRank_11 rfl ?_
          refine z_callE (As := [.int (nI (i))]) (rest := []) (b := b) (ci := 8) (v := some (.int (nI (0)))) (R2 := zR 1 0) dX8_restOfRank_12 kV_RX8_46 rfl ⟨⟨by decide, by decide⟩, by decide, by decide⟩ (by omega) hw rfl rfl rfl (Nat.le_of_ble_eq_true rfl) rfl (c_X8_isRest_n (t := i) h0 hR (by omega) e) ?_
          refine z_if_eq_n (a := 0) (tgt := 29) dX8_restOfRank_15 (by decide) (by omega) (fun h_15_107 => ?_) (fun h_15_107 => ?_)
          · refine z_iinc_n (n := 1) (a := i) (lv' := [(0, .ref (za g b)), (1, .int (t)), (2, .int (nI (i + 1)))]) dX8_restOfRank_29 rfl (by decide) rfl ?_
            refine z_goto (tgt := 2) dX8_restOfRank_32 (by decide) ?_
            refine ih (i + 1) (by omega) (by omega) (fun k hk => ?_)
            by_cases e9 : k = i
            · subst e9; exact decide_eq_false (by omega)
            · exact hs k (by omega)
          · exact absurd h_15_107 (by decide)
  refine z_iconst (v := nI 0) dX8_restOfRank_0 rfl ?_
  refine z_istore_n (lv' := [(0, .ref (za g b)), (1, .int (t)), (2, .int (nI (0)))]) dX8_restOfRank_1 (by decide) rfl ?_
  exact loop (m + 1) 0 (by omega) (Nat.zero_le _) (fun k hk => absurd hk (Nat.not_lt_zero k))
set_option maxRecDepth 100000 in
set_option maxHeartbeats 4000000 in
theorem c_X8_firstAfter {g : zGT} {w : zW} {b m t : Nat} {s l v : Nat → Nat} (h0 : zG0 g) (hR : Rn g w b m s l v) (ht : t < 2 ^ 31) : zCt g mX8_firstAfter (zR 1 0) [.ref (za g b), .int (nI (t))] w (fun o w' => o = .inl (some (.int (Int32.ofInt (fidx (fun r => decide (t < s r)) m)))) ∧ w' = w) := by
  obtain ⟨hb, hw, hm, f1, f2, f3, hr1, hr2, hr3, hk⟩ := id hR
  have hbd : ∀ r, r < m → s r ≤ 200 ∧ l r ≤ 200 ∧ v r ≤ 9 := fun r hr => (hk r hr).2
  refine zCt_of (by decide +kernel) h0 [(0, .ref (za g b)), (1, .int (nI (t)))] rfl (Nat.le_of_ble_eq_true rfl) ?_
  have loop : ∀ (mm : Nat) (i : Nat), m - i < mm → (i ≤ m) → (∀ k, k < i → (fun r => decide (t < s r)) k = false) → zTr g mX8_firstAfter (zR 1 0) 0 0 2 [(0, .ref (za g b)), (1, .int (nI (t))), (2, .int (nI (i)))] [] w (fun o w' => o = .inl (some (.int (Int32.ofInt (fidx (fun r => decide (t < s r)) m)))) ∧ w' = w) := by
    intro mm
    induction mm with
    | zero => intros; omega
    | succ mm ih =>
      intro i hm him hs
      refine z_iload_n dX8_firstAfter_2 rfl ?_
      refine z_aload_n dX8_firstAfter_3 rfl ?_
      refine z_getf (j := b) dX8_firstAfter_4 kF_RX8_21 rfl (by omega) hw rfl ?_
      refine z_icmp_ge_n (a := i) (b := m) (tgt := 27) dX8_firstAfter_7 (by decide) (by omega) (by omega) (fun h_7_1 => ?_) (fun h_7_1 => ?_)
      · refine z_iconst (v := -1) dX8_firstAfter_27 rfl ?_
        refine z_iret dX8_firstAfter_28 rfl (by decide) (by decide) ?_
        exact ⟨by rw [fidx_no (fun k hk => hs k (by omega))]; rfl, rfl⟩
      · have hbi := hbd i (by omega)
        refine z_aload_n dX8_firstAfter_10 rfl ?_
        refine z_iload_n dX8_firstAfter_11 rfl ?_
        refine z_callE (As := [.int (nI (i))]) (rest := []) (b := b) (ci := 8) (v := some (.int (nI (s (i))))) (R2 := zR 0 0) dX8_firstAfter_12 kV_RX8_56 rfl ⟨⟨by decide, by decide⟩, by decide, by decide⟩ (by omega) hw rfl rfl rfl (Nat.le_of_ble_eq_true rfl) rfl (c_X8_startOf (t := i) h0 hR (by omega)) ?_
        refine z_iload_n dX8_firstAfter_15 rfl ?_
        refine z_icmp_le_n (a := s (i)) (b := t) (tgt := 21) dX8_firstAfter_16 (by decide) (by omega) (by omega) (fun h_16_3 => ?_) (fun h_16_3 => ?_)
        · refine z_iinc_n (n := 1) (a := i) (lv' := [(0, .ref (za g b)), (1, .int (nI (t))), (2, .int (nI (i + 1)))]) dX8_firstAfter_21 rfl (by decide) rfl ?_
          refine z_goto (tgt := 2) dX8_firstAfter_24 (by decide) ?_
          refine ih (i + 1) (by omega) (by omega) (fun k hk => ?_)
          by_cases e9 : k = i
          · subst e9; exact decide_eq_false (by omega)
          · exact hs k (by omega)
        · refine z_iload_n dX8_firstAfter_19 rfl ?_
          refine z_iret dX8_firstAfter_20 rfl (by decide) (by decide) ?_
          exact ⟨by rw [fidx_hit (by omega) hs (decide_eq_true (by omega))]; rfl, rfl⟩
  refine z_iconst (v := nI 0) dX8_firstAfter_0 rfl ?_
  refine z_istore_n (lv' := [(0, .ref (za g b)), (1, .int (nI (t))), (2, .int (nI (0)))]) dX8_firstAfter_1 (by decide) rfl ?_
  exact loop (m + 1) 0 (by omega) (Nat.zero_le _) (fun k hk => absurd hk (Nat.not_lt_zero k))
set_option maxRecDepth 100000 in
set_option maxHeartbeats 4000000 in
theorem c_X8_firstWith {g : zGT} {w : zW} {b m x : Nat} {s l v : Nat → Nat} {q : Int32} (h0 : zG0 g) (hR : Rn g w b m s l v) (hx : x ≤ 9) : zCt g mX8_firstWith (zR 1 0) [.ref (za g b), .int (nI (x)), .int (q)] w (fun o w' => o = .inl (some (.int (Int32.ofInt (fidx (fun r => decide (v r = x ∧ q.toInt ≤ l r)) m)))) ∧ w' = w) := by
  obtain ⟨hb, hw, hm, f1, f2, f3, hr1, hr2, hr3, hk⟩ := id hR
  have hbd : ∀ r, r < m → s r ≤ 200 ∧ l r ≤ 200 ∧ v r ≤ 9 := fun r hr => (hk r hr).2
  refine zCt_of (by decide +kernel) h0 [(0, .ref (za g b)), (1, .int (nI (x))), (2, .int (q))] rfl (Nat.le_of_ble_eq_true rfl) ?_
  have loop : ∀ (mm : Nat) (i : Nat), m - i < mm → (i ≤ m) → (∀ k, k < i → (fun r => decide (v r = x ∧ q.toInt ≤ l r)) k = false) → zTr g mX8_firstWith (zR 1 0) 0 0 2 [(0, .ref (za g b)), (1, .int (nI (x))), (2, .int (q)), (3, .int (nI (i)))] [] w (fun o w' => o = .inl (some (.int (Int32.ofInt (fidx (fun r => decide (v r = x ∧ q.toInt ≤ l r)) m)))) ∧ w' = w) := by
    intro mm
    induction mm with
    | zero => intros; omega
    | succ mm ih =>
      intro i hm him hs
      refine z_iload_n dX8_firstWith_2 rfl ?_
      refine z_aload_n dX8_firstWith_3 rfl ?_
      refine z_getf (j := b) dX8_firstWith_4 kF_RX8_21 rfl (by omega) hw rfl ?_
      refine z_icmp_ge_n (a := i) (b := m) (tgt := 36) dX8_firstWith_7 (by decide) (by omega) (by omega) (fun h_7_1 => ?_) (fun h_7_1 => ?_)
      · refine z_iconst (v := -1) dX8_firstWith_36 rfl ?_
        refine z_iret dX8_firstWith_37 rfl (by decide) (by decide) ?_
        exact ⟨by rw [fidx_no (fun k hk => hs k (by omega))]; rfl, rfl⟩
      · have hbi := hbd i (by omega)
        have hz := nI_toInt (n := l i) (by omega)
        refine z_aload_n dX8_firstWith_10 rfl ?_
        refine z_iload_n dX8_firstWith_11 rfl ?_
        refine z_callE (As := [.int (nI (i))]) (rest := []) (b := b) (ci := 8) (v := some (.int (nI (v (i))))) (R2 := zR 0 0) dX8_firstWith_12 kV_RX8_43 rfl ⟨⟨by decide, by decide⟩, by decide, by decide⟩ (by omega) hw rfl rfl rfl (Nat.le_of_ble_eq_true rfl) rfl (c_X8_levelOf (t := i) h0 hR (by omega)) ?_
        refine z_iload_n dX8_firstWith_15 rfl ?_
        refine z_icmp_ne_n (a := v (i)) (b := x) (tgt := 30) dX8_firstWith_16 (by decide) (by omega) (by omega) (fun h_16_3 => ?_) (fun h_16_3 => ?_)
        · refine z_iinc_n (n := 1) (a := i) (lv' := [(0, .ref (za g b)), (1, .int (nI (x))), (2, .int (q)), (3, .int (nI (i + 1)))]) dX8_firstWith_30 rfl (by decide) rfl ?_
          refine z_goto (tgt := 2) dX8_firstWith_33 (by decide) ?_
          refine ih (i + 1) (by omega) (by omega) (fun k hk => ?_)
          by_cases e9 : k = i
          · subst e9; exact decide_eq_false (by omega)
          · exact hs k (by omega)
        · refine z_aload_n dX8_firstWith_19 rfl ?_
          refine z_iload_n dX8_firstWith_20 rfl ?_
          refine z_callE (As := [.int (nI (i))]) (rest := []) (b := b) (ci := 8) (v := some (.int (nI (l (i))))) (R2 := zR 0 0) dX8_firstWith_21 kV_RX8_50 rfl ⟨⟨by decide, by decide⟩, by decide, by decide⟩ (by omega) hw rfl rfl rfl (Nat.le_of_ble_eq_true rfl) rfl (c_X8_lengthOf (t := i) h0 hR (by omega)) ?_
          refine z_iload_n dX8_firstWith_24 rfl ?_
          refine z_icmp_lt_z (tgt := 30) dX8_firstWith_25 (by decide) (fun h_25_5 => ?_) (fun h_25_5 => ?_)
          · refine z_iinc_n (n := 1) (a := i) (lv' := [(0, .ref (za g b)), (1, .int (nI (x))), (2, .int (q)), (3, .int (nI (i + 1)))]) dX8_firstWith_30 rfl (by decide) rfl ?_
            refine z_goto (tgt := 2) dX8_firstWith_33 (by decide) ?_
            refine ih (i + 1) (by omega) (by omega) (fun k hk => ?_)
            by_cases e9 : k = i
            · subst e9; exact decide_eq_false (by omega)
            · exact hs k (by omega)
          · refine z_iload_n dX8_firstWith_28 rfl ?_
            refine z_iret dX8_firstWith_29 rfl (by decide) (by decide) ?_
            exact ⟨by rw [fidx_hit (by omega) hs (decide_eq_true (by omega))]; rfl, rfl⟩
  refine z_iconst (v := nI 0) dX8_firstWith_0 rfl ?_
  refine z_istore_n (lv' := [(0, .ref (za g b)), (1, .int (nI (x))), (2, .int (q)), (3, .int (nI (0)))]) dX8_firstWith_1 (by decide) rfl ?_
  exact loop (m + 1) 0 (by omega) (Nat.zero_le _) (fun k hk => absurd hk (Nat.not_lt_zero k))
set_option maxRecDepth 100000 in
set_option maxHeartbeats 4000000 in
theorem c_X8_areMaximal {g : zGT} {w : zW} {b m : Nat} {s l v : Nat → Nat} (h0 : zG0 g) (hR : Rn g w b m s l v) (hmx : ∀ r, r + 1 < m → v r ≠ v (r + 1)) : zCt g mX8_areMaximal (zR 1 0) [.ref (za g b)] w (fun o w' => o = .inl (some (.int 1)) ∧ w' = w) := by
  obtain ⟨hb, hw, hm, f1, f2, f3, hr1, hr2, hr3, hk⟩ := id hR
  have hbd : ∀ r, r < m → s r ≤ 200 ∧ l r ≤ 200 ∧ v r ≤ 9 := fun r hr => (hk r hr).2
  refine zCt_of (by decide +kernel) h0 [(0, .ref (za g b))] rfl (Nat.le_of_ble_eq_true rfl) ?_
  have loop : ∀ (mm : Nat) (i : Nat), m + 1 - i < mm → (1 ≤ i) → (i ≤ m + 1) → zTr g mX8_areMaximal (zR 1 0) 0 0 2 [(0, .ref (za g b)), (1, .int (nI (i)))] [] w (fun o w' => o = .inl (some (.int 1)) ∧ w' = w) := by
    intro mm
    induction mm with
    | zero => intros; omega
    | succ mm ih =>
      intro i hm hi1 hi2
      refine z_iload_n dX8_areMaximal_2 rfl ?_
      refine z_aload_n dX8_areMaximal_3 rfl ?_
      refine z_getf (j := b) dX8_areMaximal_4 kF_RX8_21 rfl (by omega) hw rfl ?_
      refine z_icmp_ge_n (a := i) (b := m) (tgt := 33) dX8_areMaximal_7 (by decide) (by omega) (by omega) (fun h_7_1 => ?_) (fun h_7_1 => ?_)
      · refine z_iconst (v := nI 1) dX8_areMaximal_33 rfl ?_
        refine z_zret (ty := .boolean) dX8_areMaximal_34 rfl (by decide) (by decide) rfl ?_
        exact ⟨rfl, rfl⟩
      · have hbi := hbd i (by omega)
        have hbj := hbd (i - 1) (by omega)
        have hne := hmx (i - 1) (by omega)
        rw [show i - 1 + 1 = i by omega] at hne
        refine z_aload_n dX8_areMaximal_10 rfl ?_
        refine z_iload_n dX8_areMaximal_11 rfl ?_
        refine z_callE (As := [.int (nI (i))]) (rest := []) (b := b) (ci := 8) (v := some (.int (nI (v (i))))) (R2 := zR 0 0) dX8_areMaximal_12 kV_RX8_43 rfl ⟨⟨by decide, by decide⟩, by decide, by decide⟩ (by omega) hw rfl rfl rfl (Nat.le_of_ble_eq_true rfl) rfl (c_X8_levelOf (t := i) h0 hR (by omega)) ?_
        refine z_aload_n dX8_areMaximal_15 rfl ?_
        refine z_iload_n dX8_areMaximal_16 rfl ?_
        refine z_iconst (v := nI 1) dX8_areMaximal_17 rfl ?_
        refine z_isub_n (a := i) (b := 1) dX8_areMaximal_18 (by omega) ?_
        refine z_callE (As := [.int (nI ((i) - (1)))]) (rest := [.int (nI (v (i)))]) (b := b) (ci := 8) (v := some (.int (nI (v ((i) - (1)))))) (R2 := zR 0 0) dX8_areMaximal_19 kV_RX8_43 rfl ⟨⟨by decide, by decide⟩, by decide, by decide⟩ (by omega) hw rfl rfl rfl (Nat.le_of_ble_eq_true rfl) rfl (c_X8_levelOf (t := (i) - (1)) h0 hR (by omega)) ?_
        refine z_icmp_ne_n (a := v (i)) (b := v ((i) - (1))) (tgt := 27) dX8_areMaximal_22 (by decide) (by omega) (by omega) (fun h_22_4 => ?_) (fun h_22_4 => ?_)
        · refine z_iinc_n (n := 1) (a := i) (lv' := [(0, .ref (za g b)), (1, .int (nI (i + 1)))]) dX8_areMaximal_27 rfl (by decide) rfl ?_
          refine z_goto (tgt := 2) dX8_areMaximal_30 (by decide) ?_
          exact ih (i + 1) (by omega) (by omega) (by omega)
        · exact absurd h_22_4 (by omega)
  refine z_iconst (v := nI 1) dX8_areMaximal_0 rfl ?_
  refine z_istore_n (lv' := [(0, .ref (za g b)), (1, .int (nI (1)))]) dX8_areMaximal_1 (by decide) rfl ?_
  exact loop (m + 2) 1 (by omega) (Nat.le_refl _) (by omega)
def LvT (g : zGT) (w : zW) (b : Nat) (T : Nat → Nat) (n : Nat) : Prop := ∃ f, Lv g w b f n ∧ ∀ k, k < n → f k = nI (T k) ∧ T k ≤ 9
theorem LvT.fr {g : zGT} {w w1 : zW} {b n lo hi : Nat} {T : Nat → Nat} (h : LvT g w b T n) (hf : zFr w w1 lo hi) (hd : b + 1 < lo ∨ hi ≤ b) : LvT g w1 b T n := by
  obtain ⟨f, h1, h2⟩ := h
  exact ⟨f, h1.fr hf hd, h2⟩
theorem IsR.bd {T : Nat → Nat} {n m : Nat} {s l v : Nat → Nat} (h : IsR T n m s l v) : ∀ r, r < m → l r ≤ n := fun r hr => by have := h.2.2.2.2.2.1 r hr; omega
set_option maxRecDepth 100000 in
set_option maxHeartbeats 4000000 in
theorem c_X8_readFrom {g : zGT} {w : zW} {b c m n : Nat} {s l v T : Nat → Nat} (h0 : zG0 g) (hR : Rn g w b m s l v) (hKT : LvT g w c T n) (hbc : b + 3 < c ∨ c + 1 < b) : zCt g mX8_readFrom (zR 1 0) [.ref (za g b), .ref (za g c)] w (fun o w' => o = .inl none ∧ zFr w w' b (b + 4) ∧ ∃ m' s' l' v', Rn g w' b m' s' l' v' ∧ IsR T n m' s' l' v') := by
  obtain ⟨hb, hw, hm, f1, f2, f3, hr1, hr2, hr3, hk⟩ := id hR
  obtain ⟨f, hK, hT⟩ := hKT
  have hc := hK.1
  refine zCt_of (by decide +kernel) h0 [(0, .ref (za g b)), (1, .ref (za g c))] rfl (Nat.le_of_ble_eq_true rfl) ?_
  have loop : ∀ (mm : Nat) (i : Nat) (wi : zW) (mi : Nat) (si li vi : Nat → Nat), n - i < mm → (i ≤ n) → (zFr w wi b (b + 4)) → (Rn g wi b mi si li vi) → (IsR T i mi si li vi) → zTr g mX8_readFrom (zR 1 0) 0 0 7 [(0, .ref (za g b)), (1, .ref (za g c)), (2, .int (nI (i)))] [] wi (fun o w' => o = .inl none ∧ zFr w w' b (b + 4) ∧ ∃ m' s' l' v', Rn g w' b m' s' l' v' ∧ IsR T n m' s' l' v') := by
    intro mm
    induction mm with
    | zero => intros; omega
    | succ mm ih =>
      intro i wi mi si li vi hm hin hfi hRi hI
      have hKi := hK.fr hfi (by omega)
      have hc := hK.1
      have hn2 := hK.2.2.2
      have hm2 := hRi.2.2.1
      refine z_iload_n dX8_readFrom_7 rfl ?_
      refine z_aload_n dX8_readFrom_8 rfl ?_
      refine z_callE (As := []) (rest := [.int (nI (i))]) (b := c) (ci := 5) (v := some (.int (nI (n)))) (R2 := zR 0 0) dX8_readFrom_9 kV_RX8_25 rfl ⟨⟨by decide, by decide⟩, by decide, by decide⟩ (by omega) hKi.2.1 rfl rfl rfl (Nat.le_of_ble_eq_true rfl) rfl (c_X5_size h0 hKi) ?_
      refine z_icmp_ge_n (a := i) (b := n) (tgt := 63) dX8_readFrom_12 (by decide) (by omega) (by omega) (fun h_12_2 => ?_) (fun h_12_2 => ?_)
      · refine z_vret dX8_readFrom_63 rfl (by decide) (by decide) ?_
        rw [show i = n by omega] at hI
        exact ⟨rfl, hfi, mi, _, _, _, hRi, hI⟩
      · have hTi := (hT i (by omega)).2
        have hTj := (hT (i - 1) (by omega)).2
        refine z_iload_n dX8_readFrom_15 rfl ?_
        refine z_if_eq_n (a := i) (tgt := 34) dX8_readFrom_16 (by decide) (by omega) (fun h_16_3 => ?_) (fun h_16_3 => ?_)
        · refine z_aload_n dX8_readFrom_34 rfl ?_
          refine z_iload_n dX8_readFrom_35 rfl ?_
          refine z_aload_n dX8_readFrom_36 rfl ?_
          refine z_iload_n dX8_readFrom_37 rfl ?_
          refine z_callE (As := [.int (nI (i))]) (rest := [.int (nI (i)), .ref (za g b)]) (b := c) (ci := 5) (v := some (.int (nI (T (i))))) (R2 := zR 0 0) dX8_readFrom_38 kV_RX8_31 rfl ⟨⟨by decide, by decide⟩, by decide, by decide⟩ (by omega) hKi.2.1 rfl rfl rfl (Nat.le_of_ble_eq_true rfl) rfl (by have h := c_X5_at (t := i) h0 hKi (by omega); rw [(hT (i) (by omega)).1] at h; exact h) ?_
          refine z_callR (As := [.int (nI (i)), .int (nI (T (i)))]) (rest := []) (b := b) (ci := 8) (v := none) (R2 := zR 0 0) dX8_readFrom_41 kV_RX8_35 rfl ⟨⟨by decide, by decide⟩, by decide, by decide⟩ (by omega) hRi.2.1 rfl rfl rfl (Nat.le_of_ble_eq_true rfl) rfl (c_X8_begin (t := i) (x := T (i)) h0 hRi (by omega) (hT i (by omega)).2 (by have := hI.1; omega)) (fun w5 pw5 => ?_)
          obtain ⟨hf_w5, hM_w5⟩ := pw5
          refine z_goto (tgt := 57) dX8_readFrom_44 (by decide) ?_
          refine z_iinc_n (n := 1) (a := i) (lv' := [(0, .ref (za g b)), (1, .ref (za g c)), (2, .int (nI (i + 1)))]) dX8_readFrom_57 rfl (by decide) rfl ?_
          refine z_goto (tgt := 7) dX8_readFrom_60 (by decide) ?_
          exact ih (i + 1) _ _ _ _ _ (by omega) (by omega) (hfi.tr hf_w5) hM_w5 (hI.beg (Or.inl (by omega)))
        · refine z_aload_n dX8_readFrom_19 rfl ?_
          refine z_iload_n dX8_readFrom_20 rfl ?_
          refine z_callE (As := [.int (nI (i))]) (rest := []) (b := c) (ci := 5) (v := some (.int (nI (T (i))))) (R2 := zR 0 0) dX8_readFrom_21 kV_RX8_31 rfl ⟨⟨by decide, by decide⟩, by decide, by decide⟩ (by omega) hKi.2.1 rfl rfl rfl (Nat.le_of_ble_eq_true rfl) rfl (by have h := c_X5_at (t := i) h0 hKi (by omega); rw [(hT (i) (by omega)).1] at h; exact h) ?_
          refine z_aload_n dX8_readFrom_24 rfl ?_
          refine z_iload_n dX8_readFrom_25 rfl ?_
          refine z_iconst (v := nI 1) dX8_readFrom_26 rfl ?_
          refine z_isub_n (a := i) (b := 1) dX8_readFrom_27 (by omega) ?_
          refine z_callE (As := [.int (nI ((i) - (1)))]) (rest := [.int (nI (T (i)))]) (b := c) (ci := 5) (v := some (.int (nI (T ((i) - (1)))))) (R2 := zR 0 0) dX8_readFrom_28 kV_RX8_31 rfl ⟨⟨by decide, by decide⟩, by decide, by decide⟩ (by omega) hKi.2.1 rfl rfl rfl (Nat.le_of_ble_eq_true rfl) rfl (by have h := c_X5_at (t := (i) - (1)) h0 hKi (by omega); rw [(hT ((i) - (1)) (by omega)).1] at h; exact h) ?_
          refine z_icmp_eq_n (a := T (i)) (b := T ((i) - (1))) (tgt := 47) dX8_readFrom_31 (by decide) (by omega) (by omega) (fun h_31_8 => ?_) (fun h_31_8 => ?_)
          · have hmi : 0 < mi := by
              rcases Nat.eq_zero_or_pos mi with q | q
              · have := hI.2.1 q; omega
              · exact q
            refine z_aload_n dX8_readFrom_47 rfl ?_
            refine z_aload_n dX8_readFrom_48 rfl ?_
            refine z_getf (j := b) dX8_readFrom_49 kF_RX8_21 rfl (by omega) hRi.2.1 rfl ?_
            refine z_iconst (v := nI 1) dX8_readFrom_52 rfl ?_
            refine z_isub_n (a := mi) (b := 1) dX8_readFrom_53 (by omega) ?_
            refine z_callR (As := [.int (nI ((mi) - (1)))]) (rest := []) (b := b) (ci := 8) (v := none) (R2 := zR 0 0) dX8_readFrom_54 kV_RX8_39 rfl ⟨⟨by decide, by decide⟩, by decide, by decide⟩ (by omega) hRi.2.1 rfl rfl rfl (Nat.le_of_ble_eq_true rfl) rfl (c_X8_lengthen (t := (mi) - (1)) h0 hRi (by omega) (by have := hI.bd (mi - 1) (by omega); omega)) (fun w9 pw9 => ?_)
            obtain ⟨hf_w9, hM_w9⟩ := pw9
            refine z_iinc_n (n := 1) (a := i) (lv' := [(0, .ref (za g b)), (1, .ref (za g c)), (2, .int (nI (i + 1)))]) dX8_readFrom_57 rfl (by decide) rfl ?_
            refine z_goto (tgt := 7) dX8_readFrom_60 (by decide) ?_
            exact ih (i + 1) _ _ _ _ _ (by omega) (by omega) (hfi.tr hf_w9) hM_w9 (hI.len (by omega) (by omega))
          · refine z_aload_n dX8_readFrom_34 rfl ?_
            refine z_iload_n dX8_readFrom_35 rfl ?_
            refine z_aload_n dX8_readFrom_36 rfl ?_
            refine z_iload_n dX8_readFrom_37 rfl ?_
            refine z_callE (As := [.int (nI (i))]) (rest := [.int (nI (i)), .ref (za g b)]) (b := c) (ci := 5) (v := some (.int (nI (T (i))))) (R2 := zR 0 0) dX8_readFrom_38 kV_RX8_31 rfl ⟨⟨by decide, by decide⟩, by decide, by decide⟩ (by omega) hKi.2.1 rfl rfl rfl (Nat.le_of_ble_eq_true rfl) rfl (by have h := c_X5_at (t := i) h0 hKi (by omega); rw [(hT (i) (by omega)).1] at h; exact h) ?_
            refine z_callR (As := [.int (nI (i)), .int (nI (T (i)))]) (rest := []) (b := b) (ci := 8) (v := none) (R2 := zR 0 0) dX8_readFrom_41 kV_RX8_35 rfl ⟨⟨by decide, by decide⟩, by decide, by decide⟩ (by omega) hRi.2.1 rfl rfl rfl (Nat.le_of_ble_eq_true rfl) rfl (c_X8_begin (t := i) (x := T (i)) h0 hRi (by omega) (hT i (by omega)).2 (by have := hI.1; omega)) (fun w11 pw11 => ?_)
            obtain ⟨hf_w11, hM_w11⟩ := pw11
            refine z_goto (tgt := 57) dX8_readFrom_44 (by decide) ?_
            refine z_iinc_n (n := 1) (a := i) (lv' := [(0, .ref (za g b)), (1, .ref (za g c)), (2, .int (nI (i + 1)))]) dX8_readFrom_57 rfl (by decide) rfl ?_
            refine z_goto (tgt := 7) dX8_readFrom_60 (by decide) ?_
            exact ih (i + 1) _ _ _ _ _ (by omega) (by omega) (hfi.tr hf_w11) hM_w11 (hI.beg (Or.inr (by omega)))
  refine z_aload_n dX8_readFrom_0 rfl ?_
  refine z_iconst (v := nI 0) dX8_readFrom_1 rfl ?_
  refine z_putf (j := b) dX8_readFrom_2 kF_RX8_21 zt_8_3 rfl (by omega) hw rfl rfl (Nat.le_of_ble_eq_true rfl) ?_
  obtain ⟨w1, ew2⟩ : ∃ wz : zW, wz = va_up w (b) (zO 8 [.ref (za g (b + 1)), .ref (za g (b + 2)), .ref (za g (b + 3)), .int (nI (0))]) := ⟨_, rfl⟩
  refine z_weq (w' := w1) ew2.symm ?_
  have hw3 : w1 (b) = zO 8 [.ref (za g (b + 1)), .ref (za g (b + 2)), .ref (za g (b + 3)), .int (nI (0))] := by rw [ew2, zup_s]
  have hw4 : w1 (b + 1) = zI g 200 (f1) := by rw [ew2, zup_n (by omega)]; exact hr1
  have hw5 : w1 (b + 2) = zI g 200 (f2) := by rw [ew2, zup_n (by omega)]; exact hr2
  have hw6 : w1 (b + 3) = zI g 200 (f3) := by rw [ew2, zup_n (by omega)]; exact hr3
  refine z_iconst (v := nI 0) dX8_readFrom_5 rfl ?_
  refine z_istore_n (lv' := [(0, .ref (za g b)), (1, .ref (za g c)), (2, .int (nI (0)))]) dX8_readFrom_6 (by decide) rfl ?_
  exact loop (n + 1) 0 _ 0 s l v (by omega) (Nat.zero_le _) (by rw [ew2]; exact zFr.up (by omega)) ⟨hb, hw3, Nat.zero_le _, f1, f2, f3, hw4, hw5, hw6, fun r hr => absurd hr (Nat.not_lt_zero r)⟩ IsR.zero
