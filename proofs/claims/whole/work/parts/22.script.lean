/-! Script -/
abbrev zCmd := Nat × Int32 × Int32 × Int32
def zc0 : zCmd := (0, 0, 0, 0)
abbrev cmdC (g : zGT) (c : zCmd) : va_E := zO 2 [.ref (ze g (10 + c.1)), .int c.2.1, .int c.2.2.1, .int c.2.2.2]
def Scx (g : zGT) (w : zW) (h : Nat) (K : List zCmd) : Prop := ∃ Z : Nat → zCmd, h + 9 < zn g ∧ w h = zO 9 [.ref (za g (h + 1)), .int (nI K.length)] ∧ zRef g w (h + 1) 5 (fun k => h + 2 + k) 8 ∧ K.length ≤ 8 ∧ (∀ k, k < 8 → (Z k).1 < 11 ∧ w (h + 2 + k) = cmdC g (Z k)) ∧ ∀ i, i < K.length → K.getD i zc0 = Z i
theorem Scx.fr {g : zGT} {w w1 : zW} {h lo hi : Nat} {K : List zCmd} (hH : Scx g w h K) (hf : zFr w w1 lo hi) (hd : h + 9 < lo ∨ hi ≤ h) : Scx g w1 h K := by
  obtain ⟨Z, a1, a2, ⟨f, a3, a3'⟩, a5, a6, a7⟩ := hH
  exact ⟨Z, a1, (hf h (by omega)).trans a2, ⟨f, (hf (h + 1) (by omega)).trans a3, a3'⟩, a5, fun k hk => ⟨(a6 k hk).1, (hf _ (by omega)).trans (a6 k hk).2⟩, a7⟩
theorem Scx.cell {g : zGT} {w : zW} {h : Nat} {K : List zCmd} (hH : Scx g w h K) : w h = zO 9 [.ref (za g (h + 1)), .int (nI K.length)] := by
  obtain ⟨Z, a1, a2, -⟩ := hH; exact a2
theorem Scx.lt {g : zGT} {w : zW} {h : Nat} {K : List zCmd} (hH : Scx g w h K) : h + 9 < zn g ∧ K.length ≤ 8 := by
  obtain ⟨Z, a1, a2, a3, a4, -⟩ := hH; exact ⟨a1, a4⟩
theorem Scx.cmd {g : zGT} {w : zW} {h i : Nat} {K : List zCmd} (hH : Scx g w h K) (hi : i < K.length) : (K.getD i zc0).1 < 11 ∧ w (h + 2 + i) = cmdC g (K.getD i zc0) := by
  obtain ⟨Z, a1, a2, a3, a5, a6, a7⟩ := hH
  rw [a7 i hi]; exact a6 i (by omega)
def Cz (g : zGT) (w : zW) (h n : Nat) (Z : Nat → zCmd) : Prop := zRef g w (h + 1) 5 (fun k => h + 2 + k) 8 ∧ ∀ k, k < 8 → k ≠ n → (Z k).1 < 11 ∧ w (h + 2 + k) = cmdC g (Z k)
theorem Cz.fr {g : zGT} {w w1 : zW} {h n lo hi : Nat} {Z : Nat → zCmd} (hH : Cz g w h n Z) (hf : zFr w w1 lo hi) (hd : hi ≤ h + 1 ∨ (h + 2 + n ≤ lo ∧ hi ≤ h + 2 + n + 1) ∨ h + 10 ≤ lo) : Cz g w1 h n Z := by
  obtain ⟨⟨f, a3, a3'⟩, a6⟩ := hH
  exact ⟨⟨f, (hf (h + 1) (by omega)).trans a3, a3'⟩, fun k hk hn => ⟨(a6 k hk hn).1, (hf _ (by omega)).trans (a6 k hk hn).2⟩⟩
set_option maxRecDepth 100000 in
set_option maxHeartbeats 4000000 in
theorem c_X9_count {g : zGT} {w : zW} {h : Nat} {K : List zCmd} (h0 : zG0 g) (hC : Scx g w h K) : zCt g mX9_count (zR 0 0) [.ref (za g h)] w (fun o w' => o = .inl (some (.int (nI K.length))) ∧ w' = w) := by
  obtain ⟨Z, hn, hw, hR, hlen, hZ, hK⟩ := id hC
  refine zCt_of (by decide +kernel) h0 [(0, .ref (za g h))] rfl (Nat.le_of_ble_eq_true rfl) ?_
  refine z_aload_n dX9_count_0 rfl ?_
  refine z_getf (j := h) dX9_count_1 kF_RX9_18 rfl (by omega) hw rfl ?_
  refine z_iret dX9_count_4 rfl (by decide) (by decide) ?_
  exact ⟨rfl, rfl⟩
set_option maxRecDepth 100000 in
set_option maxHeartbeats 4000000 in
theorem c_X9_clear {g : zGT} {w : zW} {h : Nat} {K : List zCmd} (h0 : zG0 g) (hC : Scx g w h K) : zCt g mX9_clear (zR 0 0) [.ref (za g h)] w (fun o w' => o = .inl none ∧ zFr w w' h (h + 10) ∧ Scx g w' h []) := by
  obtain ⟨Z, hn, hw, hR, hlen, hZ, hK⟩ := id hC
  refine zCt_of (by decide +kernel) h0 [(0, .ref (za g h))] rfl (Nat.le_of_ble_eq_true rfl) ?_
  refine z_aload_n dX9_clear_0 rfl ?_
  refine z_iconst (v := nI 0) dX9_clear_1 rfl ?_
  refine z_putf (j := h) dX9_clear_2 kF_RX9_18 zt_9_1 rfl (by omega) hw rfl rfl (Nat.le_of_ble_eq_true rfl) ?_
  obtain ⟨w1, ew2⟩ : ∃ wz : zW, wz = va_up w (h) (zO 9 [.ref (za g (h + 1)), .int (nI (0))]) := ⟨_, rfl⟩
  refine z_weq (w' := w1) ew2.symm ?_
  have hf3 : zFr w w1 (h) (h + 1) := by rw [ew2]; exact zFr.up (by omega)
  have hw4 : w1 (h) = zO 9 [.ref (za g (h + 1)), .int (nI (0))] := by rw [ew2, zup_s]
  refine z_vret dX9_clear_5 rfl (by decide) (by decide) ?_
  obtain ⟨f, hr, hf⟩ := hR
  refine ⟨rfl, (hf3.wk (by omega) (by omega)), Z, hn, hw4, ⟨f, (hf3 _ (by omega)).trans hr, hf⟩, Nat.zero_le _, fun k hk => ⟨(hZ k hk).1, (hf3 _ (by omega)).trans (hZ k hk).2⟩, fun i hi => absurd hi (Nat.not_lt_zero i)⟩
set_option maxRecDepth 100000 in
set_option maxHeartbeats 4000000 in
theorem c_X9_at {g : zGT} {w : zW} {h t : Nat} {v2 : Value} (h0 : zG0 g) (hn : h + 9 < zn g) (hw : w h = zO 9 [.ref (za g (h + 1)), v2]) (hR : zRef g w (h + 1) 5 (fun k => h + 2 + k) 8) (ht : t < 8) : zCt g mX9_at (zR 0 0) [.ref (za g h), .int (nI (t))] w (fun o w' => o = .inl (some (.ref (za g (h + 2 + t)))) ∧ w' = w) := by
  obtain ⟨f, hr, hf⟩ := hR
  refine zCt_of (by decide +kernel) h0 [(0, .ref (za g h)), (1, .int (nI (t)))] rfl (Nat.le_of_ble_eq_true rfl) ?_
  refine z_iload_n dX9_at_0 rfl ?_
  refine z_if_lt_n (a := t) dX9_at_1 22 (by decide) (by omega) ?_
  refine z_iload_n dX9_at_4 rfl ?_
  refine z_aload_n dX9_at_5 rfl ?_
  refine z_getf (j := h) dX9_at_6 kF_RX9_11 rfl (by omega) hw rfl ?_
  refine z_alen (t0 := 5) dX9_at_9 (by omega) rfl hr (v := nI 8) rfl ?_
  refine z_icmp_ge_n (a := t) (b := 8) (tgt := 22) dX9_at_10 (by decide) (by omega) (by omega) (fun h_10_2 => ?_) (fun h_10_2 => ?_)
  · exact absurd h_10_2 (by omega)
  · refine z_aload_n dX9_at_13 rfl ?_
    refine z_getf (j := h) dX9_at_14 kF_RX9_11 rfl (by omega) hw rfl ?_
    refine z_iload_n dX9_at_17 rfl ?_
    refine z_aald_n (j := h + 1) (N := 8) (t0 := 5) (a := t) (q := za g (h + 2 + t)) dX9_at_18 (by omega) rfl hr (by omega) (by omega) (hf t ht) ?_
    refine z_goto (tgt := 23) dX9_at_19 (by decide) ?_
    refine z_aret dX9_at_23 rfl (by decide) (by decide) (Or.inl ⟨_, rfl⟩) (Or.inr ⟨_, rfl⟩) ?_
    exact ⟨rfl, rfl⟩
set_option maxRecDepth 100000 in
set_option maxHeartbeats 4000000 in
theorem c_X9_append {g : zGT} {w : zW} {h i : Nat} {K : List zCmd} {x y z : Int32} (h0 : zG0 g) (hC : Scx g w h K) (hi : i < 11) (hl : K.length < 8) : zCt g mX9_append (zR 1 0) [.ref (za g h), .ref (ze g (10 + i)), .int (x), .int (y), .int (z)] w (fun o w' => o = .inl none ∧ zFr w w' h (h + 10) ∧ Scx g w' h (K ++ [(i, x, y, z)])) := by
  obtain ⟨Z, hn, hw, hR, hlen, hZ, hK⟩ := id hC
  have hz0 : Cz g w h K.length Z := ⟨hR, fun k hk _ => hZ k hk⟩
  refine zCt_of (by decide +kernel) h0 [(0, .ref (za g h)), (1, .ref (ze g (10 + i))), (2, .int (x)), (3, .int (y)), (4, .int (z))] rfl (Nat.le_of_ble_eq_true rfl) ?_
  refine z_aload_n dX9_append_0 rfl ?_
  refine z_aload_n dX9_append_1 rfl ?_
  refine z_getf (j := h) dX9_append_2 kF_RX9_18 rfl (by omega) hw rfl ?_
  refine z_callE (As := [.int (nI (K.length))]) (rest := []) (b := h) (ci := 9) (v := some (.ref (za g (h + 2 + K.length)))) (R2 := zR 0 0) dX9_append_5 kV_RX9_22 rfl ⟨⟨by decide, by decide⟩, by decide, by decide⟩ (by omega) hw rfl rfl rfl (Nat.le_of_ble_eq_true rfl) rfl (c_X9_at (t := K.length) h0 hn hw hR (by omega)) ?_
  refine z_astore (lv' := [(0, .ref (za g h)), (1, .ref (ze g (10 + i))), (2, .int (x)), (3, .int (y)), (4, .int (z)), (5, .ref (za g (h + 2 + K.length)))]) dX9_append_8 (by decide) rfl ?_
  refine z_aload dX9_append_10 rfl ?_
  refine z_ifnull dX9_append_12 ?_
  refine z_aload dX9_append_15 rfl ?_
  refine z_aload_n dX9_append_17 rfl ?_
  refine z_putfN (j := h + 2 + K.length) dX9_append_18 kN_RX9_26 zt_2_0 rfl (by omega) (hZ K.length (by omega)).2 rfl rfl (Nat.le_of_ble_eq_true rfl) ?_
  obtain ⟨w2, ew3⟩ : ∃ wz : zW, wz = va_up w (h + 2 + K.length) (zO 2 [.ref (ze g (10 + i)), .int ((Z K.length).2.1), .int ((Z K.length).2.2.1), .int ((Z K.length).2.2.2)]) := ⟨_, rfl⟩
  refine z_weq (w' := w2) ew3.symm ?_
  have hf4 : zFr w w2 (h + 2 + K.length) (h + 2 + K.length + 1) := by rw [ew3]; exact zFr.up (by omega)
  have hw5 : w2 (h + 2 + K.length) = zO 2 [.ref (ze g (10 + i)), .int ((Z K.length).2.1), .int ((Z K.length).2.2.1), .int ((Z K.length).2.2.2)] := by rw [ew3, zup_s]
  have hc6 := (hf4 (h) (by omega)).trans hw
  have hc7 := hz0.fr hf4 (by omega)
  refine z_aload dX9_append_21 rfl ?_
  refine z_iload_n dX9_append_23 rfl ?_
  refine z_putfN (j := h + 2 + K.length) dX9_append_24 kN_RX9_30 zt_2_1 rfl (by omega) hw5 rfl rfl (Nat.le_of_ble_eq_true rfl) ?_
  obtain ⟨w8, ew9⟩ : ∃ wz : zW, wz = va_up w2 (h + 2 + K.length) (zO 2 [.ref (ze g (10 + i)), .int (x), .int ((Z K.length).2.2.1), .int ((Z K.length).2.2.2)]) := ⟨_, rfl⟩
  refine z_weq (w' := w8) ew9.symm ?_
  have hf10 : zFr w2 w8 (h + 2 + K.length) (h + 2 + K.length + 1) := by rw [ew9]; exact zFr.up (by omega)
  have hw11 : w8 (h + 2 + K.length) = zO 2 [.ref (ze g (10 + i)), .int (x), .int ((Z K.length).2.2.1), .int ((Z K.length).2.2.2)] := by rw [ew9, zup_s]
  have hc12 := (hf10 (h) (by omega)).trans hc6
  have hc13 := hc7.fr hf10 (by omega)
  refine z_aload dX9_append_27 rfl ?_
  refine z_iload_n dX9_append_29 rfl ?_
  refine z_putfN (j := h + 2 + K.length) dX9_append_30 kN_RX9_33 zt_2_2 rfl (by omega) hw11 rfl rfl (Nat.le_of_ble_eq_true rfl) ?_
  obtain ⟨w14, ew15⟩ : ∃ wz : zW, wz = va_up w8 (h + 2 + K.length) (zO 2 [.ref (ze g (10 + i)), .int (x), .int (y), .int ((Z K.length).2.2.2)]) := ⟨_, rfl⟩
  refine z_weq (w' := w14) ew15.symm ?_
  have hf16 : zFr w8 w14 (h + 2 + K.length) (h + 2 + K.length + 1) := by rw [ew15]; exact zFr.up (by omega)
  have hw17 : w14 (h + 2 + K.length) = zO 2 [.ref (ze g (10 + i)), .int (x), .int (y), .int ((Z K.length).2.2.2)] := by rw [ew15, zup_s]
  have hc18 := (hf16 (h) (by omega)).trans hc12
  have hc19 := hc13.fr hf16 (by omega)
  refine z_aload dX9_append_33 rfl ?_
  refine z_iload dX9_append_35 rfl ?_
  refine z_putfN (j := h + 2 + K.length) dX9_append_37 kN_RX9_36 zt_2_3 rfl (by omega) hw17 rfl rfl (Nat.le_of_ble_eq_true rfl) ?_
  obtain ⟨w20, ew21⟩ : ∃ wz : zW, wz = va_up w14 (h + 2 + K.length) (zO 2 [.ref (ze g (10 + i)), .int (x), .int (y), .int (z)]) := ⟨_, rfl⟩
  refine z_weq (w' := w20) ew21.symm ?_
  have hf22 : zFr w14 w20 (h + 2 + K.length) (h + 2 + K.length + 1) := by rw [ew21]; exact zFr.up (by omega)
  have hw23 : w20 (h + 2 + K.length) = zO 2 [.ref (ze g (10 + i)), .int (x), .int (y), .int (z)] := by rw [ew21, zup_s]
  have hc24 := (hf22 (h) (by omega)).trans hc18
  have hc25 := hc19.fr hf22 (by omega)
  refine z_aload_n dX9_append_40 rfl ?_
  refine z_dup dX9_append_41 rfl ?_
  refine z_getf (j := h) dX9_append_42 kF_RX9_18 rfl (by omega) hc24 rfl ?_
  refine z_iconst (v := nI 1) dX9_append_45 rfl ?_
  refine z_iadd_n (a := K.length) (b := 1) dX9_append_46 ?_
  refine z_putf (j := h) dX9_append_47 kF_RX9_18 zt_9_1 rfl (by omega) hc24 rfl rfl (Nat.le_of_ble_eq_true rfl) ?_
  obtain ⟨w26, ew27⟩ : ∃ wz : zW, wz = va_up w20 (h) (zO 9 [.ref (za g (h + 1)), .int (nI ((K.length) + (1)))]) := ⟨_, rfl⟩
  refine z_weq (w' := w26) ew27.symm ?_
  have hf28 : zFr w20 w26 (h) (h + 1) := by rw [ew27]; exact zFr.up (by omega)
  have hw29 : w26 (h) = zO 9 [.ref (za g (h + 1)), .int (nI ((K.length) + (1)))] := by rw [ew27, zup_s]
  have hc30 := (hf28 (h + 2 + K.length) (by omega)).trans hw23
  have hc31 := hc25.fr hf28 (by omega)
  refine z_vret dX9_append_50 rfl (by decide) (by decide) ?_
  refine ⟨rfl, (((((hf4.wk (by omega) (by omega)).tr (hf10.wk (by omega) (by omega))).tr (hf16.wk (by omega) (by omega))).tr (hf22.wk (by omega) (by omega))).tr (hf28.wk (by omega) (by omega))), (fun k => if k = K.length then (i, x, y, z) else Z k), hn, (by rw [List.length_append]; exact hw29), hc31.1, (by rw [List.length_append]; show K.length + 1 ≤ 8; omega), fun k hk => ?_, fun k hk => ?_⟩
  · by_cases e : k = K.length
    · subst e; simp only [if_true]; exact ⟨hi, hc30⟩
    · simp only [e, if_false]; exact hc31.2 k hk e
  · rw [List.length_append] at hk
    replace hk : k < K.length + 1 := hk
    by_cases e : k = K.length
    · subst e; simp
    · simp only [e, if_false]; rw [← hK k (by omega)]; simp only [List.getD]; rw [List.getElem?_append_left (by omega)]
/-! reading a script and a notation -/
def pSign (I : List Nat) (p br : Nat) : Int32 × Nat × Nat := if br = 0 ∧ I.getD p 0 = 45 then (-1, p + 1, 0) else (1, pExp I 43 p br)
def wm (I : List Nat) : Nat → List Nat → Nat
  | _, [] => 0
  | p, c :: W => if I.getD p 0 = c then wm I (p + 1) W + 1 else 0
theorem wm_at {I : List Nat} : ∀ {W : List Nat} {p m : Nat}, m ≤ W.length → (∀ k, k < m → I.getD (p + k) 0 = W.getD k 0) → wm I p W = m + wm I (p + m) (W.drop m)
  | W, p, 0, _, _ => by simp
  | [], p, m + 1, h, _ => absurd h (by simp)
  | c :: W, p, m + 1, h, h2 => by
    have e0 : I.getD p 0 = c := by have := h2 0 (by omega); simpa using this
    have ih := wm_at (W := W) (p := p + 1) (m := m) (by simpa using h) (fun k hk => by have := h2 (k + 1) (by omega); rw [List.getD_cons_succ] at this; rw [← this]; congr 1; omega)
    rw [wm, if_pos e0, ih, List.drop_succ_cons, show p + 1 + m = p + (m + 1) by omega]; omega
theorem wm_end {I W : List Nat} {p m : Nat} (hm : m = W.length) (h : ∀ k, k < m → I.getD (p + k) 0 = W.getD k 0) : wm I p W = m := by
  rw [wm_at (by omega) h, hm, List.drop_length]; simp [wm]
theorem wm_stop {I W : List Nat} {p m : Nat} (hm : m < W.length) (h : ∀ k, k < m → I.getD (p + k) 0 = W.getD k 0) (h2 : I.getD (p + m) 0 ≠ W.getD m 0) : wm I p W = m := by
  rw [wm_at (by omega) h, List.drop_eq_getElem_cons hm, wm, if_neg (by rw [gD_lt hm] at h2; exact h2), Nat.add_zero]
theorem wm_le {I : List Nat} : ∀ {W : List Nat} {p : Nat}, wm I p W ≤ W.length
  | [], _ => by simp [wm]
  | c :: W, p => by
    rw [wm]
    split
    · have := wm_le (I := I) (W := W) (p := p + 1)
      simp only [List.length_cons]; omega
    · exact Nat.zero_le _
theorem wm_in {I : List Nat} : ∀ {W : List Nat} {p : Nat}, (∀ c ∈ W, c ≠ 0) → p ≤ I.length → p + wm I p W ≤ I.length
  | [], _, _, h => by simpa [wm] using h
  | c :: W, p, hc, h => by
    rw [wm]
    split
    · rename_i e
      have hp : p < I.length := by
        rcases Nat.lt_or_ge p I.length with q | q
        · exact q
        · rw [gD_ge q] at e; exact absurd e.symm (hc c List.mem_cons_self)
      have := wm_in (W := W) (p := p + 1) (fun x hx => hc x (List.mem_cons_of_mem _ hx)) hp
      omega
    · exact h
def nmax (F : Nat → Nat) : Nat → Nat
  | 0 => 0
  | m + 1 => max (nmax F m) (F m)
theorem nmax_le {F : Nat → Nat} {c : Nat} : ∀ {m : Nat}, (∀ k, k < m → F k ≤ c) → nmax F m ≤ c
  | 0, _ => Nat.zero_le _
  | m + 1, h => by rw [nmax]; exact Nat.max_le.mpr ⟨nmax_le (fun k hk => h k (by omega)), h m (by omega)⟩
theorem nmax_ge {F : Nat → Nat} : ∀ {m k : Nat}, k < m → F k ≤ nmax F m
  | m + 1, k, h => by
    rw [nmax]
    by_cases e : k = m
    · subst e; exact Nat.le_max_right _ _
    · exact Nat.le_trans (nmax_ge (m := m) (by omega)) (Nat.le_max_left _ _)
theorem zwd_ne {i : Nat} (h : i < 11) : ∀ c ∈ zwd i, c ≠ 0 := fun c hc => by
  obtain ⟨k, hk, e⟩ := List.getElem_of_mem hc
  have := ((zwd_ok h).2.2 k hk).2
  rw [gD_lt hk, e] at this; omega
/-- the verb that stands at p: its place, or 11; where reading goes on; whether it broke -/
def pVi (I : List Nat) (p : Nat) : Int := fidx (fun i => decide (wm I p (zwd i) = (zwd i).length)) 11
def pVp (I : List Nat) (p : Nat) : Nat := if pVi I p < 0 then p + nmax (fun i => wm I p (zwd i)) 11 else p + (zwd (pVi I p).toNat).length
set_option maxRecDepth 100000 in
set_option maxHeartbeats 4000000 in
theorem c_X4_readSign {g : zGT} {w : zW} {b p br : Nat} {I : List Nat} (h0 : zG0 g) (hI : Inp g w b I p br) : zCt g mX4_readSign (zR 3 0) [.ref (za g b)] w (fun o w' => o = .inl (some (.int (pSign I p br).1)) ∧ zFr w w' b (b + 2) ∧ Inp g w' b I (pSign I p br).2.1 (pSign I p br).2.2) := by
  have hb := hI.1
  refine zCt_of (by decide +kernel) h0 [(0, .ref (za g b))] rfl (Nat.le_of_ble_eq_true rfl) ?_
  refine z_aload_n dX4_readSign_0 rfl ?_
  refine z_bipush (v := nI 45) dX4_readSign_1 rfl ?_
  by_cases hc1 : br = 0 ∧ I.getD (p) 0 = 45
  · refine z_callR (As := [.int (nI (45))]) (rest := []) (b := b) (ci := 4) (v := some (.int (nI (1)))) (R2 := zR 1 0) dX4_readSign_3 kV_RX4_38 rfl ⟨⟨by decide, by decide⟩, by decide, by decide⟩ (by omega) hI.2.1 rfl rfl rfl (Nat.le_of_ble_eq_true rfl) rfl (c_X4_accept_y h0 hI (by omega) hc1) (fun w2 pw2 => ?_)
    obtain ⟨hf3, hn4⟩ := pw2
    refine z_if_eq_n (a := 1) (tgt := 11) dX4_readSign_6 (by decide) (by omega) (fun h_6_5 => ?_) (fun h_6_5 => ?_)
    · exact absurd h_6_5 (by decide)
    · refine z_iconst (v := -1) dX4_readSign_9 rfl ?_
      refine z_iret dX4_readSign_10 rfl (by decide) (by decide) ?_
      unfold pSign; rw [if_pos hc1]
      exact ⟨rfl, (hf3.wk (by omega) (by omega)), hn4⟩
  · refine z_callR (As := [.int (nI (45))]) (rest := []) (b := b) (ci := 4) (v := some (.int (nI (0)))) (R2 := zR 1 0) dX4_readSign_3 kV_RX4_38 rfl ⟨⟨by decide, by decide⟩, by decide, by decide⟩ (by omega) hI.2.1 rfl rfl rfl (Nat.le_of_ble_eq_true rfl) rfl (c_X4_accept_n h0 hI (by omega) hc1) (fun w6 pw6 => ?_)
    obtain ⟨hf7, hn8⟩ := pw6
    refine z_if_eq_n (a := 0) (tgt := 11) dX4_readSign_6 (by decide) (by omega) (fun h_6_9 => ?_) (fun h_6_9 => ?_)
    · refine z_aload_n dX4_readSign_11 rfl ?_
      refine z_bipush (v := nI 43) dX4_readSign_12 rfl ?_
      refine z_callR (As := [.int (nI (43))]) (rest := []) (b := b) (ci := 4) (v := none) (R2 := zR 2 0) dX4_readSign_14 kV_RX4_45 rfl ⟨⟨by decide, by decide⟩, by decide, by decide⟩ (by omega) hn8.2.1 rfl rfl rfl (Nat.le_of_ble_eq_true rfl) rfl (c_X4_expect h0 hn8 (by omega)) (fun w10 pw10 => ?_)
      obtain ⟨hf11, hn12⟩ := pw10
      refine z_iconst (v := nI 1) dX4_readSign_17 rfl ?_
      refine z_iret dX4_readSign_18 rfl (by decide) (by decide) ?_
      unfold pSign; rw [if_neg hc1]
      exact ⟨rfl, ((hf7.wk (by omega) (by omega)).tr (hf11.wk (by omega) (by omega))), hn12⟩
    · exact absurd h_6_9 (by decide)
set_option maxRecDepth 100000 in
set_option maxHeartbeats 4000000 in
theorem c_X4_matchedSigns {g : zGT} {w : zW} {b p br i : Nat} {I : List Nat} (h0 : zG0 g) (h1 : zST g) (hI : Inp g w b I p br) (hi : i < 11) : zCt g mX4_matchedSigns (zR 4 0) [.ref (za g b), .ref (ze g (40 + i))] w (fun o w' => o = .inl (some (.int (nI (wm I p (zwd i))))) ∧ w' = w) := by
  have hb := hI.1
  have hok := zwd_ok hi
  have hpp := hI.2.2.2.2.2.1
  refine zCt_of (by decide +kernel) h0 [(0, .ref (za g b)), (1, .ref (ze g (40 + i)))] rfl (Nat.le_of_ble_eq_true rfl) ?_
  have loop : ∀ (mm : Nat) (m : Nat), (zwd i).length - m < mm → (m ≤ (zwd i).length) → (∀ k, k < m → I.getD (p + k) 0 = (zwd i).getD k 0) → zTr g mX4_matchedSigns (zR 4 0) 0 0 2 [(0, .ref (za g b)), (1, .ref (ze g (40 + i))), (2, .int (nI (m)))] [] w (fun o w' => o = .inl (some (.int (nI (wm I p (zwd i))))) ∧ w' = w) := by
    intro mm
    induction mm with
    | zero => intros; omega
    | succ mm ih =>
      intro m hm hml hs
      refine z_iload_n dX4_matchedSigns_2 rfl ?_
      refine z_aload_n dX4_matchedSigns_3 rfl ?_
      refine z_callVO (As := []) (rest := [.int (nI (m))]) (v := some (.int (nI ((zwd i).length)))) (R2 := zR 1 0) dX4_matchedSigns_4 kV_RX4_98 rfl ⟨⟨by decide, by decide⟩, by decide, by decide⟩ (h1.2.2.2.2.1.2.2.2.1 i hi) rfl (Nat.le_of_ble_eq_true rfl) rfl (c_strlen h0 h1 hi) ?_
      refine z_icmp_ge_n (a := m) (b := (zwd i).length) (tgt := 34) dX4_matchedSigns_7 (by decide) (by omega) (by omega) (fun h_7_2 => ?_) (fun h_7_2 => ?_)
      · refine z_iload_n dX4_matchedSigns_34 rfl ?_
        refine z_iret dX4_matchedSigns_35 rfl (by decide) (by decide) ?_
        exact ⟨by rw [wm_end (by omega) hs], rfl⟩
      · refine z_aload_n dX4_matchedSigns_10 rfl ?_
        refine z_aload_n dX4_matchedSigns_11 rfl ?_
        refine z_getf (j := b) dX4_matchedSigns_12 kF_RX4_19 rfl (by omega) hI.2.1 rfl ?_
        refine z_iload_n dX4_matchedSigns_15 rfl ?_
        refine z_iadd_n (a := p) (b := m) dX4_matchedSigns_16 ?_
        refine z_callE (As := [.int (nI ((p) + (m)))]) (rest := []) (b := b) (ci := 4) (v := some (.int (nI (I.getD ((p) + (m)) 0)))) (R2 := zR 0 0) dX4_matchedSigns_17 kV_RX4_108 rfl ⟨⟨by decide, by decide⟩, by decide, by decide⟩ (by omega) hI.2.1 rfl rfl rfl (Nat.le_of_ble_eq_true rfl) rfl (c_X4_signAt (t := (p) + (m)) h0 hI (by omega)) ?_
        refine z_aload_n dX4_matchedSigns_20 rfl ?_
        refine z_iload_n dX4_matchedSigns_21 rfl ?_
        refine z_callVO (As := [.int (nI (m))]) (rest := [.int (nI (I.getD ((p) + (m)) 0))]) (v := some (.int (nI ((zwd i).getD (m) 0)))) (R2 := zR 3 0) dX4_matchedSigns_22 kV_RX4_112 rfl ⟨⟨by decide, by decide⟩, by decide, by decide⟩ (h1.2.2.2.2.1.2.2.2.1 i hi) rfl (Nat.le_of_ble_eq_true rfl) rfl (c_charAt (k := m) h0 h1 hi (by omega)) ?_
        have hk1 := hok.2.2 m (by omega)
        have hk2 := (hI.chr (p + m)).1
        refine z_icmp_ne_n (a := I.getD ((p) + (m)) 0) (b := (zwd i).getD (m) 0) (tgt := 34) dX4_matchedSigns_25 (by decide) (by omega) (by omega) (fun h_25_5 => ?_) (fun h_25_5 => ?_)
        · refine z_iload_n dX4_matchedSigns_34 rfl ?_
          refine z_iret dX4_matchedSigns_35 rfl (by decide) (by decide) ?_
          exact ⟨by rw [wm_stop (by omega) hs (by omega)], rfl⟩
        · refine z_iinc_n (n := 1) (a := m) (lv' := [(0, .ref (za g b)), (1, .ref (ze g (40 + i))), (2, .int (nI (m + 1)))]) dX4_matchedSigns_28 rfl (by decide) rfl ?_
          refine z_goto (tgt := 2) dX4_matchedSigns_31 (by decide) ?_
          refine ih (m + 1) (by omega) (by omega) (fun k hk => ?_)
          by_cases e : k = m
          · subst e; omega
          · exact hs k (by omega)
  refine z_iconst (v := nI 0) dX4_matchedSigns_0 rfl ?_
  refine z_istore_n (lv' := [(0, .ref (za g b)), (1, .ref (ze g (40 + i))), (2, .int (nI (0)))]) dX4_matchedSigns_1 (by decide) rfl ?_
  exact loop ((zwd i).length + 1) 0 (by omega) (Nat.zero_le _) (fun k hk => absurd hk (Nat.not_lt_zero k))
theorem max32 {a c : Nat} (h1 : a < 2 ^ 31) (h2 : c < 2 ^ 31) : (if (nI a).toInt < (nI c).toInt then nI c else nI a) = nI (max a c) := by
  rw [nI_toInt h1, nI_toInt h2]
  split
  · rw [show max a c = c by omega]
  · rw [show max a c = a by omega]
set_option maxRecDepth 100000 in
set_option maxHeartbeats 4000000 in
theorem c_X4_readVerb {g : zGT} {w : zW} {b p : Nat} {I : List Nat} (h0 : zG0 g) (h1 : zST g) (hI : Inp g w b I p 0) (hpl : p ≤ I.length) : zCt g mX4_readVerb (zR 5 0) [.ref (za g b)] w (fun o w' => zFr w w' b (b + 2) ∧ ((∃ i : Nat, i < 11 ∧ pVi I p = (i : Int) ∧ o = .inl (some (.ref (ze g (10 + i)))) ∧ Inp g w' b I (pVp I p) 0) ∨ (pVi I p = -1 ∧ o = .inl (some .null) ∧ Inp g w' b I (pVp I p) 1))) := by
  have hb := hI.1
  have hpp := hI.2.2.2.2.2.1
  have hIl := hI.2.2.2.1
  refine zCt_of (by decide +kernel) h0 [(0, .ref (za g b))] rfl (Nat.le_of_ble_eq_true rfl) ?_
  have loop : ∀ (mm : Nat) (i m : Nat), 11 - i < mm → (i ≤ 11) → (∀ k, k < i → decide (wm I p (zwd k) = (zwd k).length) = false) → (m = nmax (fun k => wm I p (zwd k)) i) → zTr g mX4_readVerb (zR 5 0) 0 0 4 [(0, .ref (za g b)), (1, .int (nI (m))), (2, .int (nI (i)))] [] w (fun o w' => zFr w w' b (b + 2) ∧ ((∃ i : Nat, i < 11 ∧ pVi I p = (i : Int) ∧ o = .inl (some (.ref (ze g (10 + i)))) ∧ Inp g w' b I (pVp I p) 0) ∨ (pVi I p = -1 ∧ o = .inl (some .null) ∧ Inp g w' b I (pVp I p) 1))) := by
    intro mm
    induction mm with
    | zero => intros; omega
    | succ mm ih =>
      intro i m hm hi11 hs hm9
      have hm10 : m ≤ 9 := by rw [hm9]; exact nmax_le (fun k hk => Nat.le_trans wm_le (zwd_ok (by omega)).2.1)
      refine z_iload_n dX4_readVerb_4 rfl ?_
      refine z_getsN dX4_readVerb_5 kH_RX4_86 rfl (h1.2.2.2.1.1) ?_
      refine z_tabL (N := 11) dX4_readVerb_8 (h1.2.2.2.1.2) ?_
      refine z_icmp_ge_n (a := i) (b := 11) (tgt := 70) dX4_readVerb_9 (by decide) (by omega) (by omega) (fun h_9_1 => ?_) (fun h_9_1 => ?_)
      · refine z_aload_n dX4_readVerb_70 rfl ?_
        refine z_dup dX4_readVerb_71 rfl ?_
        refine z_getf (j := b) dX4_readVerb_72 kF_RX4_19 rfl (by omega) hI.2.1 rfl ?_
        refine z_iload_n dX4_readVerb_75 rfl ?_
        refine z_iadd_n (a := p) (b := m) dX4_readVerb_76 ?_
        refine z_putf (j := b) dX4_readVerb_77 kF_RX4_19 zt_4_2 rfl (by omega) hI.2.1 rfl rfl (Nat.le_of_ble_eq_true rfl) ?_
        obtain ⟨w2, ew3⟩ : ∃ wz : zW, wz = va_up w (b) (zO 4 [.ref (za g (b + 1)), .int (nI (I.length)), .int (nI ((p) + (m))), .int (nI (0))]) := ⟨_, rfl⟩
        refine z_weq (w' := w2) ew3.symm ?_
        have hf4 : zFr w w2 (b) (b + 1) := by rw [ew3]; exact zFr.up (by omega)
        have hw5 : w2 (b) = zO 4 [.ref (za g (b + 1)), .int (nI (I.length)), .int (nI ((p) + (m))), .int (nI (0))] := by rw [ew3, zup_s]
        refine z_aload_n dX4_readVerb_80 rfl ?_
        refine z_iconst (v := nI 1) dX4_readVerb_81 rfl ?_
        refine z_putf (j := b) dX4_readVerb_82 kF_RX4_22 zt_4_3 rfl (by omega) hw5 rfl rfl (Nat.le_of_ble_eq_true rfl) ?_
        obtain ⟨w6, ew7⟩ : ∃ wz : zW, wz = va_up w2 (b) (zO 4 [.ref (za g (b + 1)), .int (nI (I.length)), .int (nI ((p) + (m))), .int (nI (1))]) := ⟨_, rfl⟩
        refine z_weq (w' := w6) ew7.symm ?_
        have hf8 : zFr w2 w6 (b) (b + 1) := by rw [ew7]; exact zFr.up (by omega)
        have hw9 : w6 (b) = zO 4 [.ref (za g (b + 1)), .int (nI (I.length)), .int (nI ((p) + (m))), .int (nI (1))] := by rw [ew7, zup_s]
        refine z_null dX4_readVerb_85 ?_
        refine z_aret dX4_readVerb_86 rfl (by decide) (by decide) (Or.inl ⟨_, rfl⟩) (Or.inl rfl) ?_
        have e : pVi I p = -1 := fidx_no (fun k hk => hs k (by omega))
        have e2 : pVp I p = p + m := by unfold pVp; rw [e, if_pos (by omega), hm9, show i = 11 by omega]
        refine ⟨((hf4.wk (by omega) (by omega)).tr (hf8.wk (by omega) (by omega))), Or.inr ⟨e, rfl, ?_⟩⟩
        rw [e2]
        have hle : m ≤ I.length - p := by rw [hm9, show i = 11 by omega]; exact nmax_le (fun k hk => by have := wm_in (I := I) (p := p) (zwd_ne hk) hpl; omega)
        exact hI.set hw9 (by rw [hf8 _ (by omega), hf4 _ (by omega)]) (by omega) (by omega)
      · have hi : i < 11 := by omega
        have hok := zwd_ok hi
        have hwl := wm_le (I := I) (W := zwd i) (p := p)
        refine z_getsN dX4_readVerb_12 kH_RX4_86 rfl (h1.2.2.2.1.1) ?_
        refine z_iload_n dX4_readVerb_15 rfl ?_
        refine z_tabA (a := i) dX4_readVerb_16 (h1.2.2.2.1.2) (by omega) (by omega) (by rfl) ?_
        refine z_astore_n (lv' := [(0, .ref (za g b)), (1, .int (nI (m))), (2, .int (nI (i))), (3, .ref (ze g (10 + i)))]) dX4_readVerb_17 (by decide) rfl ?_
        refine z_aload_n dX4_readVerb_18 rfl ?_
        refine z_ifnull dX4_readVerb_19 ?_
        refine z_aload_n dX4_readVerb_22 rfl ?_
        refine z_aload_n dX4_readVerb_23 rfl ?_
        refine z_getON dX4_readVerb_24 kH_RX4_90 rfl (h1.2.2.2.2.1.1 (i) hi) ?_
        refine z_callE (As := [.ref (ze g (40 + i))]) (rest := []) (b := b) (ci := 4) (v := some (.int (nI (wm I p (zwd i))))) (R2 := zR 4 0) dX4_readVerb_27 kV_RX4_94 rfl ⟨⟨by decide, by decide⟩, by decide, by decide⟩ (by omega) hI.2.1 rfl rfl rfl (Nat.le_of_ble_eq_true rfl) rfl (c_X4_matchedSigns h0 h1 hI hi) ?_
        refine z_istore (lv' := [(0, .ref (za g b)), (1, .int (nI (m))), (2, .int (nI (i))), (3, .ref (ze g (10 + i))), (4, .int (nI (wm I p (zwd i))))]) dX4_readVerb_30 (by decide) rfl ?_
        refine z_iload dX4_readVerb_32 rfl ?_
        refine z_aload_n dX4_readVerb_34 rfl ?_
        refine z_getON dX4_readVerb_35 kH_RX4_90 rfl (h1.2.2.2.2.1.1 (i) hi) ?_
        refine z_callVO (As := []) (rest := [.int (nI (wm I p (zwd i)))]) (v := some (.int (nI ((zwd i).length)))) (R2 := zR 1 0) dX4_readVerb_38 kV_RX4_98 rfl ⟨⟨by decide, by decide⟩, by decide, by decide⟩ (h1.2.2.2.2.1.2.2.2.1 i hi) rfl (Nat.le_of_ble_eq_true rfl) rfl (c_strlen h0 h1 hi) ?_
        refine z_icmp_ne_n (a := wm I p (zwd i)) (b := (zwd i).length) (tgt := 57) dX4_readVerb_41 (by decide) (by omega) (by omega) (fun h_41_12 => ?_) (fun h_41_12 => ?_)
        · refine z_iload_n dX4_readVerb_57 rfl ?_
          refine z_iload dX4_readVerb_58 rfl ?_
          refine z_max (rest := []) (x := (nI (m))) (y := (nI (wm I p (zwd i)))) dX4_readVerb_60 kO_RX4_102 rfl ⟨⟨by decide, Nat.le_of_ble_eq_true rfl⟩, by decide, by decide⟩ ?_
          refine z_istore_n (lv' := [(0, .ref (za g b)), (1, .int (if ((nI (m))).toInt < ((nI (wm I p (zwd i)))).toInt then (nI (wm I p (zwd i))) else (nI (m)))), (2, .int (nI (i))), (3, .ref (ze g (10 + i))), (4, .int (nI (wm I p (zwd i))))]) dX4_readVerb_63 (by decide) rfl ?_
          refine z_eq (lv' := [(0, .ref (za g b)), (1, .int (nI (max m (wm I p (zwd i))))), (2, .int (nI (i))), (3, .ref (ze g (10 + i))), (4, .int (nI (wm I p (zwd i))))]) rfl rfl (by rw [max32 (by omega) (by omega)]) ?_
          refine z_iinc_n (n := 1) (a := i) (lv' := [(0, .ref (za g b)), (1, .int (nI (max m (wm I p (zwd i))))), (2, .int (nI (i + 1))), (3, .ref (ze g (10 + i))), (4, .int (nI (wm I p (zwd i))))]) dX4_readVerb_64 rfl (by decide) rfl ?_
          refine z_goto (tgt := 4) dX4_readVerb_67 (by decide) ?_
          refine z_sub (lv' := [(0, .ref (za g b)), (1, .int (nI (max m (wm I p (zwd i))))), (2, .int (nI (i + 1)))]) [0, 1, 2] rfl ?_
          refine ih (i + 1) _ (by omega) (by omega) (fun k hk => ?_) ?_
          · by_cases e : k = i
            · subst e; exact decide_eq_false (by omega)
            · exact hs k (by omega)
          · rw [nmax, ← hm9]
        · refine z_aload_n dX4_readVerb_44 rfl ?_
          refine z_dup dX4_readVerb_45 rfl ?_
          refine z_getf (j := b) dX4_readVerb_46 kF_RX4_19 rfl (by omega) hI.2.1 rfl ?_
          refine z_iload dX4_readVerb_49 rfl ?_
          refine z_iadd_n (a := p) (b := wm I p (zwd i)) dX4_readVerb_51 ?_
          refine z_putf (j := b) dX4_readVerb_52 kF_RX4_19 zt_4_2 rfl (by omega) hI.2.1 rfl rfl (Nat.le_of_ble_eq_true rfl) ?_
          obtain ⟨w14, ew15⟩ : ∃ wz : zW, wz = va_up w (b) (zO 4 [.ref (za g (b + 1)), .int (nI (I.length)), .int (nI ((p) + (wm I p (zwd i)))), .int (nI (0))]) := ⟨_, rfl⟩
          refine z_weq (w' := w14) ew15.symm ?_
          have hf16 : zFr w w14 (b) (b + 1) := by rw [ew15]; exact zFr.up (by omega)
          have hw17 : w14 (b) = zO 4 [.ref (za g (b + 1)), .int (nI (I.length)), .int (nI ((p) + (wm I p (zwd i)))), .int (nI (0))] := by rw [ew15, zup_s]
          refine z_aload_n dX4_readVerb_55 rfl ?_
          refine z_aret dX4_readVerb_56 rfl (by decide) (by decide) (Or.inl ⟨_, rfl⟩) (Or.inr ⟨_, rfl⟩) ?_
          have e : pVi I p = (i : Int) := fidx_hit hi hs (by simpa using (by omega : wm I p (zwd i) = (zwd i).length))
          have e2 : pVp I p = p + wm I p (zwd i) := by unfold pVp; rw [e, if_neg (by omega)]; simp only [Int.toNat_natCast]; omega
          refine ⟨(hf16.wk (by omega) (by omega)), Or.inl ⟨i, hi, e, rfl, ?_⟩⟩
          rw [e2]
          exact hI.set hw17 (hf16 _ (by omega)) (by have := wm_in (I := I) (p := p) (zwd_ne hi) hpl; omega) (by omega)
  refine z_iconst (v := nI 0) dX4_readVerb_0 rfl ?_
  refine z_istore_n (lv' := [(0, .ref (za g b)), (1, .int (nI (0)))]) dX4_readVerb_1 (by decide) rfl ?_
  refine z_iconst (v := nI 0) dX4_readVerb_2 rfl ?_
  refine z_istore_n (lv' := [(0, .ref (za g b)), (1, .int (nI (0))), (2, .int (nI (0)))]) dX4_readVerb_3 (by decide) rfl ?_
  exact loop 12 0 0 (by omega) (Nat.zero_le _) (fun k hk => absurd hk (Nat.not_lt_zero k)) rfl
