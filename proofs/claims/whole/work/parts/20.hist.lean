/-! History and Script -/
theorem z_aald_n {g : zGT} {M : zMD} {R : Room} {ce sl pc : Nat} {lv : List (Nat × Value)} {rest : List Value} {w : zW} {Post : zP} {j N t0 a q : Nat} {Cn : String} {cA : ClassId} {f : Nat → Option Nat} (d : decode M.2.1 pc = .ok (.aaload, 1)) (hj : j < zn g) (ht : (ztys g)[t0]? = some (cA, .object Cn)) (hw : w j = .inl (cA, N, .inr (.inr (.inr (.inr f))))) (ha : a < N) (hN : N < 2 ^ 31) (hv : f a = some q)
    (kk : zTr g M R ce sl (pc + 1) lv (.ref q :: rest) w Post) : zTr g M R ce sl pc lv (.int (nI a) :: .ref (za g j) :: rest) w Post :=
  z_aald d hj ht hw (vp_in_nI ha hN) (by rw [nI_clamp (Nat.lt_trans ha hN), hv]; exact kk)
theorem tS_become {g : zGT} {w : zW} {b d : Nat} {S S2 : zSt} (h0 : zG0 g) (h1 : zST g) (hS : Sx g w b S) (hD : Sx g w d S2) (hbd : b + 6 < d ∨ d + 6 < b) : zCt g mX10_become (zR 3 0) [.ref (za g b), .ref (za g d)] w (fun o w' => o = .inl none ∧ zFr w w' b (b + 7) ∧ Sx g w' b S2) :=
  zCt_mono (c_X10_become h0 h1 hS.1 hD.1 hbd) (fun o w' h => ⟨h.1, h.2.1, h.2.2, hD.2⟩)
theorem tS_replace {g : zGT} {w : zW} {b d n : Nat} {F : Nat → Nat} {S : zSt} (h0 : zG0 g) (h1 : zST g) (hS : Sx g w b S) (hD : LvT g w d F n) (hbd : b + 6 < d ∨ d + 1 < b) : zCt g mX10_replaceTimeline (zR 3 0) [.ref (za g b), .ref (za g d)] w (fun o w' => o = .inl none ∧ zFr w w' b (b + 7) ∧ Sx g w' b (ltab n F, [], S.2.2)) :=
  zCt_mono (c_X10_replaceTimeline h0 h1 hS.1 hD hbd) (fun o w' h => ⟨h.1, h.2.1, Sx.mk h.2.2 Mo.nil⟩)
theorem min8 {a : Nat} (h : a ≤ 8) : (if (nI 8).toInt < (nI (a + 1)).toInt then nI 8 else nI (a + 1)) = nI (min (a + 1) 8) := by
  rw [nI_toInt (show (8 : Nat) < 2 ^ 31 by omega), nI_toInt (show a + 1 < 2 ^ 31 by omega)]
  split
  · rw [show min (a + 1) 8 = 8 by omega]
  · rw [show min (a + 1) 8 = a + 1 by omega]
def zs0 : zSt := ([], [], [], 0)
abbrev zRef (g : zGT) (w : zW) (j c : Nat) (P : Nat → Nat) (N : Nat) : Prop := ∃ f, w j = .inl (zc g c, N, .inr (.inr (.inr (.inr f)))) ∧ ∀ k, k < N → f k = some (za g (P k))
def Hx (g : zGT) (w : zW) (h : Nat) (Hs : List zSt) : Prop := ∃ (nx : Nat) (Z : Nat → zSt), h + 57 < zn g ∧ w h = zO 3 [.ref (za g (h + 1)), .int (nI nx), .int (nI Hs.length)] ∧ zRef g w (h + 1) 4 (fun k => h + 2 + 7 * k) 8 ∧ nx < 8 ∧ Hs.length ≤ 8 ∧ (∀ k, k < 8 → Sx g w (h + 2 + 7 * k) (Z k)) ∧ ∀ i, i < Hs.length → Hs.getD i zs0 = Z ((nx + 7 - i) % 8)
theorem Hx.fr {g : zGT} {w w1 : zW} {h lo hi : Nat} {Hs : List zSt} (hH : Hx g w h Hs) (hf : zFr w w1 lo hi) (hd : h + 57 < lo ∨ hi ≤ h) : Hx g w1 h Hs := by
  obtain ⟨nx, Z, a1, a2, ⟨f, a3, a3'⟩, a4, a5, a6, a7⟩ := hH
  exact ⟨nx, Z, a1, (hf h (by omega)).trans a2, ⟨f, (hf (h + 1) (by omega)).trans a3, a3'⟩, a4, a5, fun k hk => (a6 k hk).fr hf (by omega), a7⟩
theorem Hx.cellx {g : zGT} {w : zW} {h : Nat} {Hs : List zSt} (hH : Hx g w h Hs) : ∃ fs, w h = zO 3 fs := by
  obtain ⟨nx, Z, a1, a2, -⟩ := hH; exact ⟨_, a2⟩
/-- the ring but for one slot -/
def Hz (g : zGT) (w : zW) (h nx : Nat) (Z : Nat → zSt) : Prop := zRef g w (h + 1) 4 (fun k => h + 2 + 7 * k) 8 ∧ ∀ k, k < 8 → k ≠ nx → Sx g w (h + 2 + 7 * k) (Z k)
theorem Hz.fr {g : zGT} {w w1 : zW} {h nx lo hi : Nat} {Z : Nat → zSt} (hH : Hz g w h nx Z) (hf : zFr w w1 lo hi) (hd : hi ≤ h + 1 ∨ (h + 2 + 7 * nx ≤ lo ∧ hi ≤ h + 2 + 7 * nx + 7) ∨ h + 58 ≤ lo) : Hz g w1 h nx Z := by
  obtain ⟨⟨f, a3, a3'⟩, a6⟩ := hH
  exact ⟨⟨f, (hf (h + 1) (by omega)).trans a3, a3'⟩, fun k hk hn => (a6 k hk hn).fr hf (by omega)⟩
set_option maxRecDepth 100000 in
set_option maxHeartbeats 4000000 in
theorem c_X3_slotAt {g : zGT} {w : zW} {h t : Nat} {v1 v2 : Value} (h0 : zG0 g) (hn : h + 57 < zn g) (hw : w h = zO 3 [.ref (za g (h + 1)), v1, v2]) (hR : zRef g w (h + 1) 4 (fun k => h + 2 + 7 * k) 8) (ht : t < 8) : zCt g mX3_slotAt (zR 0 0) [.ref (za g h), .int (nI (t))] w (fun o w' => o = .inl (some (.ref (za g (h + 2 + 7 * t)))) ∧ w' = w) := by
  obtain ⟨f, hr, hf⟩ := hR
  refine zCt_of (by decide +kernel) h0 [(0, .ref (za g h)), (1, .int (nI (t)))] rfl (Nat.le_of_ble_eq_true rfl) ?_
  refine z_iload_n dX3_slotAt_0 rfl ?_
  refine z_if_lt_n (a := t) dX3_slotAt_1 22 (by decide) (by omega) ?_
  refine z_iload_n dX3_slotAt_4 rfl ?_
  refine z_aload_n dX3_slotAt_5 rfl ?_
  refine z_getf (j := h) dX3_slotAt_6 kF_RX3_11 rfl (by omega) hw rfl ?_
  refine z_alen (t0 := 4) dX3_slotAt_9 (by omega) rfl hr (v := nI 8) rfl ?_
  refine z_icmp_ge_n (a := t) (b := 8) (tgt := 22) dX3_slotAt_10 (by decide) (by omega) (by omega) (fun h_10_2 => ?_) (fun h_10_2 => ?_)
  · exact absurd h_10_2 (by omega)
  · refine z_aload_n dX3_slotAt_13 rfl ?_
    refine z_getf (j := h) dX3_slotAt_14 kF_RX3_11 rfl (by omega) hw rfl ?_
    refine z_iload_n dX3_slotAt_17 rfl ?_
    refine z_aald_n (j := h + 1) (N := 8) (t0 := 4) (a := t) (q := za g (h + 2 + 7 * t)) dX3_slotAt_18 (by omega) rfl hr (by omega) (by omega) (hf t ht) ?_
    refine z_goto (tgt := 23) dX3_slotAt_19 (by decide) ?_
    refine z_aret dX3_slotAt_23 rfl (by decide) (by decide) (Or.inl ⟨_, rfl⟩) (Or.inr ⟨_, rfl⟩) ?_
    exact ⟨rfl, rfl⟩
set_option maxRecDepth 100000 in
set_option maxHeartbeats 4000000 in
theorem c_X3_count {g : zGT} {w : zW} {h : Nat} {Hs : List zSt} (h0 : zG0 g) (hH : Hx g w h Hs) : zCt g mX3_count (zR 0 0) [.ref (za g h)] w (fun o w' => o = .inl (some (.int (nI Hs.length))) ∧ w' = w) := by
  obtain ⟨nx, Z, hn, hw, hR, hnx, hlen, hZ, hHs⟩ := id hH
  refine zCt_of (by decide +kernel) h0 [(0, .ref (za g h))] rfl (Nat.le_of_ble_eq_true rfl) ?_
  refine z_aload_n dX3_count_0 rfl ?_
  refine z_getf (j := h) dX3_count_1 kF_RX3_18 rfl (by omega) hw rfl ?_
  refine z_iret dX3_count_4 rfl (by decide) (by decide) ?_
  exact ⟨rfl, rfl⟩
set_option maxRecDepth 100000 in
set_option maxHeartbeats 4000000 in
theorem c_X3_clear {g : zGT} {w : zW} {h : Nat} {Hs : List zSt} (h0 : zG0 g) (hH : Hx g w h Hs) : zCt g mX3_clear (zR 0 0) [.ref (za g h)] w (fun o w' => o = .inl none ∧ zFr w w' h (h + 58) ∧ Hx g w' h []) := by
  obtain ⟨nx, Z, hn, hw, hR, hnx, hlen, hZ, hHs⟩ := id hH
  refine zCt_of (by decide +kernel) h0 [(0, .ref (za g h))] rfl (Nat.le_of_ble_eq_true rfl) ?_
  refine z_aload_n dX3_clear_0 rfl ?_
  refine z_iconst (v := nI 0) dX3_clear_1 rfl ?_
  refine z_putf (j := h) dX3_clear_2 kF_RX3_18 zt_3_2 rfl (by omega) hw rfl rfl (Nat.le_of_ble_eq_true rfl) ?_
  obtain ⟨w1, ew2⟩ : ∃ wz : zW, wz = va_up w (h) (zO 3 [.ref (za g (h + 1)), .int (nI (nx)), .int (nI (0))]) := ⟨_, rfl⟩
  refine z_weq (w' := w1) ew2.symm ?_
  have hf3 : zFr w w1 (h) (h + 1) := by rw [ew2]; exact zFr.up (by omega)
  have hw4 : w1 (h) = zO 3 [.ref (za g (h + 1)), .int (nI (nx)), .int (nI (0))] := by rw [ew2, zup_s]
  refine z_vret dX3_clear_5 rfl (by decide) (by decide) ?_
  obtain ⟨f, hr, hf⟩ := hR
  refine ⟨rfl, (hf3.wk (by omega) (by omega)), nx, Z, hn, hw4, ⟨f, (hf3 _ (by omega)).trans hr, hf⟩, hnx, Nat.zero_le _, fun k hk => (hZ k hk).fr hf3 (by omega), fun i hi => absurd hi (Nat.not_lt_zero i)⟩
set_option maxRecDepth 100000 in
set_option maxHeartbeats 4000000 in
theorem c_X3_push {g : zGT} {w : zW} {h s : Nat} {S : zSt} {Hs : List zSt} (h0 : zG0 g) (h1 : zST g) (hH : Hx g w h Hs) (hS : Sx g w s S) (hd : s + 6 < h ∨ h + 57 < s) : zCt g mX3_push (zR 4 0) [.ref (za g h), .ref (za g s)] w (fun o w' => o = .inl none ∧ zFr w w' h (h + 58) ∧ Hx g w' h ((S :: Hs).take 8)) := by
  obtain ⟨nx, Z, hn, hw, hR, hnx, hlen, hZ, hHs⟩ := id hH
  have hz0 : Hz g w h nx Z := ⟨hR, fun k hk _ => hZ k hk⟩
  have hs := hS.lt
  refine zCt_of (by decide +kernel) h0 [(0, .ref (za g h)), (1, .ref (za g s))] rfl (Nat.le_of_ble_eq_true rfl) ?_
  refine z_aload_n dX3_push_0 rfl ?_
  refine z_aload_n dX3_push_1 rfl ?_
  refine z_getf (j := h) dX3_push_2 kF_RX3_22 rfl (by omega) hw rfl ?_
  refine z_callE (As := [.int (nI (nx))]) (rest := []) (b := h) (ci := 3) (v := some (.ref (za g (h + 2 + 7 * nx)))) (R2 := zR 0 0) dX3_push_5 kV_RX3_25 rfl ⟨⟨by decide, by decide⟩, by decide, by decide⟩ (by omega) hw rfl rfl rfl (Nat.le_of_ble_eq_true rfl) rfl (c_X3_slotAt (t := nx) h0 hn hw hz0.1 (by omega)) ?_
  refine z_astore_n (lv' := [(0, .ref (za g h)), (1, .ref (za g s)), (2, .ref (za g (h + 2 + 7 * nx)))]) dX3_push_8 (by decide) rfl ?_
  refine z_aload_n dX3_push_9 rfl ?_
  refine z_ifnull dX3_push_10 ?_
  refine z_aload_n dX3_push_13 rfl ?_
  refine z_aload_n dX3_push_14 rfl ?_
  refine z_callR (As := [.ref (za g s)]) (rest := []) (b := h + 2 + 7 * nx) (ci := 10) (v := none) (R2 := zR 3 0) dX3_push_15 kV_RX3_29 rfl ⟨⟨by decide, by decide⟩, by decide, by decide⟩ (by omega) (hZ nx hnx).cell rfl rfl rfl (Nat.le_of_ble_eq_true rfl) rfl (tS_become h0 h1 (hZ nx hnx) hS (by omega)) (fun w2 pw2 => ?_)
  obtain ⟨hf3, hn4⟩ := pw2
  have hc5 := (hf3 (h) (by omega)).trans hw
  have hc6 := hS.fr hf3 (by omega)
  have hc7 := hz0.fr hf3 (by omega)
  refine z_aload_n dX3_push_18 rfl ?_
  refine z_aload_n dX3_push_19 rfl ?_
  refine z_getf (j := h) dX3_push_20 kF_RX3_22 rfl (by omega) hc5 rfl ?_
  refine z_iconst (v := nI 1) dX3_push_23 rfl ?_
  refine z_iadd_n (a := nx) (b := 1) dX3_push_24 ?_
  refine z_bipush (v := nI 8) dX3_push_25 rfl ?_
  refine z_irem_n (a := (nx) + (1)) (b := 8) dX3_push_27 (by omega) (by omega) (by omega) ?_
  refine z_putf (j := h) dX3_push_28 kF_RX3_22 zt_3_1 rfl (by omega) hc5 rfl rfl (Nat.le_of_ble_eq_true rfl) ?_
  obtain ⟨w8, ew9⟩ : ∃ wz : zW, wz = va_up w2 (h) (zO 3 [.ref (za g (h + 1)), .int (nI (((nx) + (1)) % (8))), .int (nI (Hs.length))]) := ⟨_, rfl⟩
  refine z_weq (w' := w8) ew9.symm ?_
  have hf10 : zFr w2 w8 (h) (h + 1) := by rw [ew9]; exact zFr.up (by omega)
  have hw11 : w8 (h) = zO 3 [.ref (za g (h + 1)), .int (nI (((nx) + (1)) % (8))), .int (nI (Hs.length))] := by rw [ew9, zup_s]
  have hc12 := hc6.fr hf10 (by omega)
  have hc13 := hn4.fr hf10 (by omega)
  have hc14 := hc7.fr hf10 (by omega)
  refine z_aload_n dX3_push_31 rfl ?_
  refine z_aload_n dX3_push_32 rfl ?_
  refine z_getf (j := h) dX3_push_33 kF_RX3_18 rfl (by omega) hw11 rfl ?_
  refine z_iconst (v := nI 1) dX3_push_36 rfl ?_
  refine z_iadd_n (a := Hs.length) (b := 1) dX3_push_37 ?_
  refine z_bipush (v := nI 8) dX3_push_38 rfl ?_
  refine z_min (rest := [.ref (za g h)]) (x := (nI ((Hs.length) + (1)))) (y := (nI (8))) dX3_push_40 kO_RX3_33 rfl ⟨⟨by decide, Nat.le_of_ble_eq_true rfl⟩, by decide, by decide⟩ ?_
  refine z_eq (st' := [.int (nI (min (Hs.length + 1) 8)), .ref (za g h)]) rfl (by rw [min8 hlen]) rfl ?_
  refine z_putf (j := h) dX3_push_43 kF_RX3_18 zt_3_2 rfl (by omega) hw11 rfl rfl (Nat.le_of_ble_eq_true rfl) ?_
  obtain ⟨w16, ew17⟩ : ∃ wz : zW, wz = va_up w8 (h) (zO 3 [.ref (za g (h + 1)), .int (nI (((nx) + (1)) % (8))), .int (nI (min (Hs.length + 1) 8))]) := ⟨_, rfl⟩
  refine z_weq (w' := w16) ew17.symm ?_
  have hf18 : zFr w8 w16 (h) (h + 1) := by rw [ew17]; exact zFr.up (by omega)
  have hw19 : w16 (h) = zO 3 [.ref (za g (h + 1)), .int (nI (((nx) + (1)) % (8))), .int (nI (min (Hs.length + 1) 8))] := by rw [ew17, zup_s]
  have hc20 := hc12.fr hf18 (by omega)
  have hc21 := hc13.fr hf18 (by omega)
  have hc22 := hc14.fr hf18 (by omega)
  refine z_vret dX3_push_46 rfl (by decide) (by decide) ?_
  refine ⟨rfl, (((hf3.wk (by omega) (by omega)).tr (hf10.wk (by omega) (by omega))).tr (hf18.wk (by omega) (by omega))), (nx + 1) % 8, va_up Z nx S, hn, (by rw [show ((S :: Hs).take 8).length = min (Hs.length + 1) 8 by simp; omega]; exact hw19), hc22.1, by omega, by simp; omega, fun k hk => ?_, fun i hi => ?_⟩
  · by_cases e : k = nx
    · subst e; simp only [va_up, if_true]; exact hc21
    · simp only [va_up]; rw [if_neg e]; exact hc22.2 k hk e
  · have hi2 : i < Hs.length + 1 ∧ i < 8 := by simp at hi; omega
    rw [List.getD_eq_getElem?_getD, List.getElem?_take_of_lt hi2.2]
    cases i with
    | zero => simp only [va_up]; rw [if_pos (by omega)]; rfl
    | succ i =>
      rw [List.getElem?_cons_succ, ← List.getD_eq_getElem?_getD, hHs i (by omega)]
      simp only [va_up]
      rw [if_neg (by omega)]; congr 1; omega
set_option maxRecDepth 100000 in
set_option maxHeartbeats 4000000 in
theorem c_X3_pop {g : zGT} {w : zW} {h s : Nat} {S S0 : zSt} {Hs : List zSt} (h0 : zG0 g) (h1 : zST g) (hH : Hx g w h (S :: Hs)) (hS : Sx g w s S0) (hd : s + 6 < h) : zCt g mX3_pop (zR 4 0) [.ref (za g h), .ref (za g s)] w (fun o w' => o = .inl none ∧ zFr w w' s (h + 58) ∧ Sx g w' s S ∧ Hx g w' h Hs) := by
  obtain ⟨nx, Z, hn, hw, hR, hnx, hlen, hZ, hHs⟩ := id hH
  have hz0 : Hz g w h ((nx + 7) % 8) Z := ⟨hR, fun k hk _ => hZ k hk⟩
  have hs := hS.lt
  refine zCt_of (by decide +kernel) h0 [(0, .ref (za g h)), (1, .ref (za g s))] rfl (Nat.le_of_ble_eq_true rfl) ?_
  refine z_aload_n dX3_pop_0 rfl ?_
  refine z_aload_n dX3_pop_1 rfl ?_
  refine z_getf (j := h) dX3_pop_2 kF_RX3_22 rfl (by omega) hw rfl ?_
  refine z_bipush (v := nI 8) dX3_pop_5 rfl ?_
  refine z_iadd_n (a := nx) (b := 8) dX3_pop_7 ?_
  refine z_iconst (v := nI 1) dX3_pop_8 rfl ?_
  refine z_isub_n (a := (nx) + (8)) (b := 1) dX3_pop_9 (by omega) ?_
  refine z_bipush (v := nI 8) dX3_pop_10 rfl ?_
  refine z_irem_n (a := ((nx) + (8)) - (1)) (b := 8) dX3_pop_12 (by omega) (by omega) (by omega) ?_
  refine z_eq (st' := [.int (nI ((nx + 7) % 8)), .ref (za g h)]) rfl (by rw [show ((nx) + (8)) - (1) = nx + 7 by omega]) rfl ?_
  refine z_putf (j := h) dX3_pop_13 kF_RX3_22 zt_3_1 rfl (by omega) hw rfl rfl (Nat.le_of_ble_eq_true rfl) ?_
  obtain ⟨w1, ew2⟩ : ∃ wz : zW, wz = va_up w (h) (zO 3 [.ref (za g (h + 1)), .int (nI ((nx + 7) % 8)), .int (nI (Hs.length + 1))]) := ⟨_, rfl⟩
  refine z_weq (w' := w1) ew2.symm ?_
  have hf3 : zFr w w1 (h) (h + 1) := by rw [ew2]; exact zFr.up (by omega)
  have hw4 : w1 (h) = zO 3 [.ref (za g (h + 1)), .int (nI ((nx + 7) % 8)), .int (nI (Hs.length + 1))] := by rw [ew2, zup_s]
  have hc5 := hS.fr hf3 (by omega)
  have hc6 := (hZ ((nx + 7) % 8) (by omega)).fr hf3 (by omega)
  have hc7 := hz0.fr hf3 (by omega)
  refine z_aload_n dX3_pop_16 rfl ?_
  refine z_dup dX3_pop_17 rfl ?_
  refine z_getf (j := h) dX3_pop_18 kF_RX3_18 rfl (by omega) hw4 rfl ?_
  refine z_iconst (v := nI 1) dX3_pop_21 rfl ?_
  refine z_isub_n (a := Hs.length + 1) (b := 1) dX3_pop_22 (by omega) ?_
  refine z_eq (st' := [.int (nI (Hs.length)), .ref (za g h)]) rfl rfl rfl ?_
  refine z_putf (j := h) dX3_pop_23 kF_RX3_18 zt_3_2 rfl (by omega) hw4 rfl rfl (Nat.le_of_ble_eq_true rfl) ?_
  obtain ⟨w8, ew9⟩ : ∃ wz : zW, wz = va_up w1 (h) (zO 3 [.ref (za g (h + 1)), .int (nI ((nx + 7) % 8)), .int (nI (Hs.length))]) := ⟨_, rfl⟩
  refine z_weq (w' := w8) ew9.symm ?_
  have hf10 : zFr w1 w8 (h) (h + 1) := by rw [ew9]; exact zFr.up (by omega)
  have hw11 : w8 (h) = zO 3 [.ref (za g (h + 1)), .int (nI ((nx + 7) % 8)), .int (nI (Hs.length))] := by rw [ew9, zup_s]
  have hc12 := hc5.fr hf10 (by omega)
  have hc13 := hc6.fr hf10 (by omega)
  have hc14 := hc7.fr hf10 (by omega)
  refine z_aload_n dX3_pop_26 rfl ?_
  refine z_aload_n dX3_pop_27 rfl ?_
  refine z_getf (j := h) dX3_pop_28 kF_RX3_22 rfl (by omega) hw11 rfl ?_
  refine z_callE (As := [.int (nI ((nx + 7) % 8))]) (rest := []) (b := h) (ci := 3) (v := some (.ref (za g (h + 2 + 7 * ((nx + 7) % 8))))) (R2 := zR 0 0) dX3_pop_31 kV_RX3_25 rfl ⟨⟨by decide, by decide⟩, by decide, by decide⟩ (by omega) hw11 rfl rfl rfl (Nat.le_of_ble_eq_true rfl) rfl (c_X3_slotAt (t := ((nx + 7) % 8)) h0 hn hw11 hc14.1 (by omega)) ?_
  refine z_astore_n (lv' := [(0, .ref (za g h)), (1, .ref (za g s)), (2, .ref (za g (h + 2 + 7 * ((nx + 7) % 8))))]) dX3_pop_34 (by decide) rfl ?_
  refine z_aload_n dX3_pop_35 rfl ?_
  refine z_ifnull dX3_pop_36 ?_
  refine z_aload_n dX3_pop_39 rfl ?_
  refine z_aload_n dX3_pop_40 rfl ?_
  refine z_callR (As := [.ref (za g (h + 2 + 7 * ((nx + 7) % 8)))]) (rest := []) (b := s) (ci := 10) (v := none) (R2 := zR 3 0) dX3_pop_41 kV_RX3_29 rfl ⟨⟨by decide, by decide⟩, by decide, by decide⟩ (by omega) hc12.cell rfl rfl rfl (Nat.le_of_ble_eq_true rfl) rfl (tS_become h0 h1 hc12 hc13 (by omega)) (fun w16 pw16 => ?_)
  obtain ⟨hf17, hn18⟩ := pw16
  have hc19 := (hf17 (h) (by omega)).trans hw11
  have hc20 := hc13.fr hf17 (by omega)
  have hc21 := hc14.fr hf17 (by omega)
  refine z_vret dX3_pop_44 rfl (by decide) (by decide) ?_
  have e0 : Z ((nx + 7) % 8) = S := (hHs 0 (Nat.succ_pos _)).symm
  refine ⟨rfl, (((hf3.wk (by omega) (by omega)).tr (hf10.wk (by omega) (by omega))).tr (hf17.wk (by omega) (by omega))), ?_, (nx + 7) % 8, Z, hn, hc19, hc21.1, by omega, by simp only [List.length_cons] at hlen; omega, fun k hk => ?_, fun i hi => ?_⟩
  · rw [← e0]; exact hn18
  · by_cases e : k = (nx + 7) % 8
    · rw [e]; exact hc20
    · exact hc21.2 k hk e
  · have := hHs (i + 1) (by simp only [List.length_cons]; omega)
    rw [List.getD_cons_succ] at this
    rw [this]; congr 1; simp only [List.length_cons] at hlen; omega
