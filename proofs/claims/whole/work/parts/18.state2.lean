/-! State: what a call does -/
def zext (F : Nat → Nat) (n : Nat) : Nat → Nat := fun k => if k < n then F k else 0
def passF (F : Nat → Nat) (n t l v : Nat) : Nat → Nat := fun k => if t ≤ k ∧ k < t + l ∧ zext F n k < v then v else zext F n k
def insF (F : Nat → Nat) (p t : Nat) : Nat → Nat := fun k => if k < p then F k else if k < p + t then 0 else F (k - t)
def insM (p t : Nat) : Nat → Nat := fun x => if p < x then x + t else x
def cutF (F : Nat → Nat) (p q : Nat) : Nat → Nat := fun k => if k < p then F k else F (k + (q - p))
def mutF (F : Nat → Nat) (p q : Nat) : Nat → Nat := fun k => if p ≤ k ∧ k < q then 0 else F k
def revF (F : Nat → Nat) (p q : Nat) : Nat → Nat := fun k => if p ≤ k ∧ k < q then F (p + q - 1 - k) else F k
def shf (s : Int) (x : Nat) : Nat := if x = 0 then 0 else if (x : Int) + s < 1 then 1 else if 9 < (x : Int) + s then 9 else ((x : Int) + s).toNat
def shfF (F : Nat → Nat) (p q : Nat) (s : Int) : Nat → Nat := fun k => if p ≤ k ∧ k < q then shf s (F k) else F k
def repF (F : Nat → Nat) (p q m : Nat) : Nat → Nat := fun k => if k < q then F k else if k < q + m then F (p + (k - q) % (q - p)) else F (k - m)
def pasF (F G : Nat → Nat) (c t : Nat) : Nat → Nat := fun k => if k < t then F k else if k < t + c then G (k - t) else F (k - c)
theorem shf_le {s : Int} {x : Nat} (h : x ≤ 9) : shf s x ≤ 9 := by unfold shf; (repeat' split) <;> omega
theorem shf_eq {x : Nat} {s : Int32} (h1 : 1 ≤ x) (h2 : x ≤ 9) (h3 : -8 ≤ s.toInt ∧ s.toInt ≤ 8) : (if (nI 1).toInt < ((if (nI x + s).toInt < (nI 9).toInt then nI x + s else nI 9) : Int32).toInt then (if (nI x + s).toInt < (nI 9).toInt then nI x + s else nI 9) else nI 1 : Int32) = nI (shf s.toInt x) := by
  have e1 := nI_toInt (n := 1) (by omega)
  have e9 := nI_toInt (n := 9) (by omega)
  have ex := nI_toInt (n := x) (by omega)
  have ea : (nI x + s).toInt = (x : Int) + s.toInt := by rw [← ex]; exact i_add (by omega) (by omega)
  have hx0 : ¬ x = 0 := by omega
  unfold shf
  rw [if_neg hx0]
  by_cases c1 : (nI x + s).toInt < (nI 9).toInt
  · rw [if_pos c1]
    by_cases c2 : (nI 1).toInt < (nI x + s).toInt
    · rw [if_pos c2, if_neg (by omega), if_neg (by omega)]
      apply Int32.toInt_inj.mp
      rw [ea, nI_toInt (by omega)]; omega
    · rw [if_neg c2]
      by_cases c3 : (x : Int) + s.toInt < 1
      · rw [if_pos c3]
      · rw [if_neg c3, if_neg (by omega), show ((x : Int) + s.toInt).toNat = 1 by omega]
  · rw [if_neg c1, if_pos (by omega), if_neg (by omega)]
    by_cases c3 : 9 < (x : Int) + s.toInt
    · rw [if_pos c3]
    · rw [if_neg c3, show ((x : Int) + s.toInt).toNat = 9 by omega]
def barA (L : List Nat) (j : Nat) : Nat := if j = 0 then 0 else L.getD (j - 1) 0
def barB (L : List Nat) (n j : Nat) : Nat := if j < L.length then L.getD j 0 else n
theorem Mo.bar {L : List Nat} {n j : Nat} (h : Mo L n) (hj : j ≤ L.length) : barA L j ≤ barB L n j ∧ barB L n j ≤ n := by
  unfold barA barB
  split <;> split
  · exact ⟨Nat.zero_le _, h.2.1 j (by omega)⟩
  · exact ⟨Nat.zero_le _, Nat.le_refl _⟩
  · exact ⟨h.mono _ _ (by omega) (by omega), h.2.1 j (by omega)⟩
  · exact ⟨h.2.1 _ (by omega), Nat.le_refl _⟩
set_option maxRecDepth 100000 in
set_option maxHeartbeats 4000000 in
theorem c_X10_openTicks {g : zGT} {w : zW} {b n c tr : Nat} {F G : Nat → Nat} {L : List Nat} {p t : Nat} (h0 : zG0 g) (h1 : zST g) (hS : Sy g w b F n L G c tr) (hMo : Mo L n) (hp : p ≤ n) (ht : n + t ≤ 200) : zCt g mX10_openTicks (zR 2 0) [.ref (za g b), .int (nI (p)), .int (nI (t))] w (fun o w' => o = .inl (some (.int (nI (n + t)))) ∧ zFr w w' b (b + 7) ∧ Sy g w' b (insF F p t) (n + t) (L.map (insM p t)) G c tr) := by
  obtain ⟨hb, hw, hT, hM, hG⟩ := id hS
  have hn := hT.len
  have hcl := hG.len
  refine zCt_of (by decide +kernel) h0 [(0, .ref (za g b)), (1, .int (nI (p))), (2, .int (nI (t)))] rfl (Nat.le_of_ble_eq_true rfl) ?_
  refine z_aload_n dX10_openTicks_0 rfl ?_
  refine z_getf (j := b) dX10_openTicks_1 kF_RX10_12 rfl (by omega) hw rfl ?_
  refine z_iload_n dX10_openTicks_4 rfl ?_
  refine z_iload_n dX10_openTicks_5 rfl ?_
  refine z_callR (As := [.int (nI (p)), .int (nI (t))]) (rest := []) (b := b + 1) (ci := 5) (v := none) (R2 := zR 1 0) dX10_openTicks_6 kV_RX10_164 rfl ⟨⟨by decide, by decide⟩, by decide, by decide⟩ (by omega) hT.cell rfl rfl rfl (Nat.le_of_ble_eq_true rfl) rfl (tc_open (p := p) (t := t) h0 hT (by omega) (by omega)) (fun w1 pw1 => ?_)
  obtain ⟨hf2, hn3⟩ := pw1
  have hc4 := (hf2 (b) (by omega)).trans hw
  have hc5 := hM.fr hf2 (by omega)
  have hc6 := hG.fr hf2 (by omega)
  refine z_aload_n dX10_openTicks_9 rfl ?_
  refine z_getf (j := b) dX10_openTicks_10 kF_RX10_21 rfl (by omega) hc4 rfl ?_
  refine z_iload_n dX10_openTicks_13 rfl ?_
  refine z_iload_n dX10_openTicks_14 rfl ?_
  refine z_callR (As := [.int (nI (p)), .int (nI (t))]) (rest := []) (b := b + 3) (ci := 6) (v := none) (R2 := zR 1 0) dX10_openTicks_15 kV_RX10_167 rfl ⟨⟨by decide, by decide⟩, by decide, by decide⟩ (by omega) hc5.2.1 rfl rfl rfl (Nat.le_of_ble_eq_true rfl) rfl (c_X6_makeRoom (p := p) (t := t) h0 hc5 (fun x hx => by have := hMo.mem hx; omega) (by omega) (by omega)) (fun w7 pw7 => ?_)
  obtain ⟨hf8, hn9⟩ := pw7
  have hc10 := (hf8 (b) (by omega)).trans hc4
  have hc11 := hn3.fr hf8 (by omega)
  have hc12 := hc6.fr hf8 (by omega)
  refine z_aload_n dX10_openTicks_18 rfl ?_
  refine z_getf (j := b) dX10_openTicks_19 kF_RX10_12 rfl (by omega) hc10 rfl ?_
  refine z_callE (As := []) (rest := []) (b := b + 1) (ci := 5) (v := some (.int (nI ((n + t))))) (R2 := zR 0 0) dX10_openTicks_22 kV_RX10_104 rfl ⟨⟨by decide, by decide⟩, by decide, by decide⟩ (by omega) hc11.cell rfl rfl rfl (Nat.le_of_ble_eq_true rfl) rfl (tc_size h0 hc11) ?_
  refine z_iret dX10_openTicks_25 rfl (by decide) (by decide) ?_
  exact ⟨rfl, ((hf2.wk (by omega) (by omega)).tr (hf8.wk (by omega) (by omega))), ⟨hb, hc10, hc11, hn9, hc12⟩⟩
set_option maxRecDepth 100000 in
set_option maxHeartbeats 4000000 in
theorem c_X10_cutOut {g : zGT} {w : zW} {b n c tr : Nat} {F G : Nat → Nat} {L : List Nat} {p q : Nat} (h0 : zG0 g) (h1 : zST g) (hS : Sy g w b F n L G c tr) (hMo : Mo L n) (hpq : p ≤ q) (hqn : q ≤ n) : zCt g mX10_cutOut (zR 3 0) [.ref (za g b), .int (nI (p)), .int (nI (q))] w (fun o w' => o = .inl (some (.int (nI (n - (q - p))))) ∧ zFr w w' b (b + 7) ∧ Sy g w' b (cutF F p q) (n - (q - p)) (lclose p q L) G c tr) := by
  obtain ⟨hb, hw, hT, hM, hG⟩ := id hS
  have hn := hT.len
  have hcl := hG.len
  refine zCt_of (by decide +kernel) h0 [(0, .ref (za g b)), (1, .int (nI (p))), (2, .int (nI (q)))] rfl (Nat.le_of_ble_eq_true rfl) ?_
  refine z_aload_n dX10_cutOut_0 rfl ?_
  refine z_getf (j := b) dX10_cutOut_1 kF_RX10_12 rfl (by omega) hw rfl ?_
  refine z_iload_n dX10_cutOut_4 rfl ?_
  refine z_iload_n dX10_cutOut_5 rfl ?_
  refine z_callR (As := [.int (nI (p)), .int (nI (q))]) (rest := []) (b := b + 1) (ci := 5) (v := none) (R2 := zR 1 0) dX10_cutOut_6 kV_RX10_170 rfl ⟨⟨by decide, by decide⟩, by decide, by decide⟩ (by omega) hT.cell rfl rfl rfl (Nat.le_of_ble_eq_true rfl) rfl (tc_close (p := p) (q := q) h0 hT (by omega) (by omega)) (fun w1 pw1 => ?_)
  obtain ⟨hf2, hn3⟩ := pw1
  have hc4 := (hf2 (b) (by omega)).trans hw
  have hc5 := hM.fr hf2 (by omega)
  have hc6 := hG.fr hf2 (by omega)
  refine z_aload_n dX10_cutOut_9 rfl ?_
  refine z_getf (j := b) dX10_cutOut_10 kF_RX10_21 rfl (by omega) hc4 rfl ?_
  refine z_iload_n dX10_cutOut_13 rfl ?_
  refine z_iload_n dX10_cutOut_14 rfl ?_
  refine z_callR (As := [.int (nI (p)), .int (nI (q))]) (rest := []) (b := b + 3) (ci := 6) (v := none) (R2 := zR 2 0) dX10_cutOut_15 kV_RX10_173 rfl ⟨⟨by decide, by decide⟩, by decide, by decide⟩ (by omega) hc5.2.1 rfl rfl rfl (Nat.le_of_ble_eq_true rfl) rfl (c_X6_close (p := p) (q := q) h0 hc5 (by omega) (by omega)) (fun w7 pw7 => ?_)
  obtain ⟨hf8, hn9⟩ := pw7
  have hc10 := (hf8 (b) (by omega)).trans hc4
  have hc11 := hn3.fr hf8 (by omega)
  have hc12 := hc6.fr hf8 (by omega)
  refine z_aload_n dX10_cutOut_18 rfl ?_
  refine z_getf (j := b) dX10_cutOut_19 kF_RX10_12 rfl (by omega) hc10 rfl ?_
  refine z_callE (As := []) (rest := []) (b := b + 1) (ci := 5) (v := some (.int (nI ((n - (q - p)))))) (R2 := zR 0 0) dX10_cutOut_22 kV_RX10_104 rfl ⟨⟨by decide, by decide⟩, by decide, by decide⟩ (by omega) hc11.cell rfl rfl rfl (Nat.le_of_ble_eq_true rfl) rfl (tc_size h0 hc11) ?_
  refine z_iret dX10_cutOut_25 rfl (by decide) (by decide) ?_
  exact ⟨rfl, ((hf2.wk (by omega) (by omega)).tr (hf8.wk (by omega) (by omega))), ⟨hb, hc10, hc11, hn9, hc12⟩⟩
set_option maxRecDepth 100000 in
set_option maxHeartbeats 4000000 in
theorem c_X10_silence {g : zGT} {w : zW} {b n c tr : Nat} {F G : Nat → Nat} {L : List Nat} {p q : Nat} (h0 : zG0 g) (h1 : zST g) (hS : Sy g w b F n L G c tr) (hpq : p ≤ q) (hqn : q ≤ n) : zCt g mX10_silence (zR 2 0) [.ref (za g b), .int (nI (p)), .int (nI (q))] w (fun o w' => o = .inl (some (.int (nI (zcnt (fun k => decide (F k ≠ 0)) p (q - p))))) ∧ zFr w w' b (b + 7) ∧ Sy g w' b (mutF F p q) n L G c tr) := by
  obtain ⟨hb, hw, hT, hM, hG⟩ := id hS
  have hn := hT.len
  have hcl := hG.len
  refine zCt_of (by decide +kernel) h0 [(0, .ref (za g b)), (1, .int (nI (p))), (2, .int (nI (q)))] rfl (Nat.le_of_ble_eq_true rfl) ?_
  refine z_aload_n dX10_silence_0 rfl ?_
  refine z_getf (j := b) dX10_silence_1 kF_RX10_12 rfl (by omega) hw rfl ?_
  refine z_iload_n dX10_silence_4 rfl ?_
  refine z_iload_n dX10_silence_5 rfl ?_
  refine z_callE (As := [.int (nI (p)), .int (nI (q))]) (rest := []) (b := b + 1) (ci := 5) (v := some (.int (nI (zcnt (fun k => decide (F k ≠ 0)) (p) (q - p))))) (R2 := zR 1 0) dX10_silence_6 kV_RX10_174 rfl ⟨⟨by decide, by decide⟩, by decide, by decide⟩ (by omega) hT.cell rfl rfl rfl (Nat.le_of_ble_eq_true rfl) rfl (tc_sounding h0 hT (by omega) (by omega)) ?_
  refine z_istore_n (lv' := [(0, .ref (za g b)), (1, .int (nI (p))), (2, .int (nI (q))), (3, .int (nI (zcnt (fun k => decide (F k ≠ 0)) (p) (q - p))))]) dX10_silence_9 (by decide) rfl ?_
  refine z_aload_n dX10_silence_10 rfl ?_
  refine z_getf (j := b) dX10_silence_11 kF_RX10_12 rfl (by omega) hw rfl ?_
  refine z_iload_n dX10_silence_14 rfl ?_
  refine z_iload_n dX10_silence_15 rfl ?_
  refine z_iconst (v := nI 0) dX10_silence_16 rfl ?_
  refine z_callR (As := [.int (nI (p)), .int (nI (q)), .int (nI (0))]) (rest := []) (b := b + 1) (ci := 5) (v := none) (R2 := zR 1 0) dX10_silence_17 kV_RX10_177 rfl ⟨⟨by decide, by decide⟩, by decide, by decide⟩ (by omega) hT.cell rfl rfl rfl (Nat.le_of_ble_eq_true rfl) rfl (tc_fill (x := 0) h0 hT (by omega) (by omega) (by omega)) (fun w2 pw2 => ?_)
  obtain ⟨hf3, hn4⟩ := pw2
  have hc5 := (hf3 (b) (by omega)).trans hw
  have hc6 := hM.fr hf3 (by omega)
  have hc7 := hG.fr hf3 (by omega)
  refine z_iload_n dX10_silence_20 rfl ?_
  refine z_iret dX10_silence_21 rfl (by decide) (by decide) ?_
  exact ⟨rfl, (hf3.wk (by omega) (by omega)), ⟨hb, hc5, hn4, hc6, hc7⟩⟩
set_option maxRecDepth 100000 in
set_option maxHeartbeats 4000000 in
theorem c_X10_fillClipboard {g : zGT} {w : zW} {b n c tr : Nat} {F G : Nat → Nat} {L : List Nat} {p q : Nat} (h0 : zG0 g) (h1 : zST g) (hS : Sy g w b F n L G c tr) (hpq : p ≤ q) (hqn : q ≤ n) : zCt g mX10_fillClipboard (zR 2 0) [.ref (za g b), .int (nI (p)), .int (nI (q))] w (fun o w' => o = .inl (some (.int (nI (q - p)))) ∧ zFr w w' b (b + 7) ∧ Sy g w' b F n L (fun k => F (p + k)) (q - p) tr) := by
  obtain ⟨hb, hw, hT, hM, hG⟩ := id hS
  have hn := hT.len
  have hcl := hG.len
  refine zCt_of (by decide +kernel) h0 [(0, .ref (za g b)), (1, .int (nI (p))), (2, .int (nI (q)))] rfl (Nat.le_of_ble_eq_true rfl) ?_
  refine z_aload_n dX10_fillClipboard_0 rfl ?_
  refine z_getf (j := b) dX10_fillClipboard_1 kF_RX10_25 rfl (by omega) hw rfl ?_
  refine z_aload_n dX10_fillClipboard_4 rfl ?_
  refine z_getf (j := b) dX10_fillClipboard_5 kF_RX10_12 rfl (by omega) hw rfl ?_
  refine z_iload_n dX10_fillClipboard_8 rfl ?_
  refine z_iload_n dX10_fillClipboard_9 rfl ?_
  refine z_callR (As := [.ref (za g (b + 1)), .int (nI (p)), .int (nI (q))]) (rest := []) (b := b + 5) (ci := 5) (v := none) (R2 := zR 1 0) dX10_fillClipboard_10 kV_RX10_181 rfl ⟨⟨by decide, by decide⟩, by decide, by decide⟩ (by omega) hG.cell rfl rfl rfl (Nat.le_of_ble_eq_true rfl) rfl (tc_take (p := p) (q := q) h0 hG hT (by omega) (by omega) (by omega)) (fun w1 pw1 => ?_)
  obtain ⟨hf2, hn3⟩ := pw1
  have hc4 := (hf2 (b) (by omega)).trans hw
  have hc5 := hT.fr hf2 (by omega)
  have hc6 := hM.fr hf2 (by omega)
  refine z_aload_n dX10_fillClipboard_13 rfl ?_
  refine z_getf (j := b) dX10_fillClipboard_14 kF_RX10_25 rfl (by omega) hc4 rfl ?_
  refine z_callE (As := []) (rest := []) (b := b + 5) (ci := 5) (v := some (.int (nI ((q - p))))) (R2 := zR 0 0) dX10_fillClipboard_17 kV_RX10_104 rfl ⟨⟨by decide, by decide⟩, by decide, by decide⟩ (by omega) hn3.cell rfl rfl rfl (Nat.le_of_ble_eq_true rfl) rfl (tc_size h0 hn3) ?_
  refine z_iret dX10_fillClipboard_20 rfl (by decide) (by decide) ?_
  exact ⟨rfl, (hf2.wk (by omega) (by omega)), ⟨hb, hc4, hc5, hc6, hn3⟩⟩
set_option maxRecDepth 100000 in
set_option maxHeartbeats 4000000 in
theorem c_X10_letTrainPass {g : zGT} {w : zW} {b n c tr : Nat} {F G : Nat → Nat} {L : List Nat} {t l v : Nat} (h0 : zG0 g) (h1 : zST g) (hS : Sy g w b F n L G c tr) (htl : t + l ≤ 200) (hl1 : 1 ≤ l) (hv : v ≤ 9) : zCt g mX10_letTrainPass (zR 1 0) [.ref (za g b), .int (nI (t)), .int (nI (l)), .int (nI (v))] w (fun o w' => o = .inl (some (.int (nI (zcnt (fun k => decide (zext F n k < v)) t l)))) ∧ zFr w w' b (b + 7) ∧ Sy g w' b (passF F n t l v) (max n (t + l)) L G c (tr + 1)) := by
  obtain ⟨hb, hw, hT, hM, hG⟩ := id hS
  have hn := hT.len
  have hcl := hG.len
  refine zCt_of (by decide +kernel) h0 [(0, .ref (za g b)), (1, .int (nI (t))), (2, .int (nI (l))), (3, .int (nI (v)))] rfl (Nat.le_of_ble_eq_true rfl) ?_
  have loopB : ∀ (mm : Nat) (i s : Nat) (wi : zW) (Fi : Nat → Nat), t + l - i < mm → (t ≤ i) → (i ≤ t + l) → (zFr w wi b (b + 7)) → (Sy g wi b Fi (max n (t + l)) L G c tr) → (∀ k, k < max n (t + l) → Fi k = if t ≤ k ∧ k < i ∧ zext F n k < v then v else zext F n k) → (s = zcnt (fun k => decide (zext F n k < v)) t (i - t)) → zTr g mX10_letTrainPass (zR 1 0) 0 0 41 [(0, .ref (za g b)), (1, .int (nI (t))), (2, .int (nI (l))), (3, .int (nI (v))), (4, .int (nI ((t) + (l)))), (5, .int (nI (s))), (6, .int (nI (i)))] [] wi (fun o w' => o = .inl (some (.int (nI (zcnt (fun k => decide (zext F n k < v)) t l)))) ∧ zFr w w' b (b + 7) ∧ Sy g w' b (passF F n t l v) (max n (t + l)) L G c (tr + 1)) := by
    intro mm
    induction mm with
    | zero => intros; omega
    | succ mm ih =>
      intro i s wi Fi hm hti hie hfi hSi hi hs
      obtain ⟨hbi, hwi, hTi, hMi, hGi⟩ := id hSi
      refine z_iload dX10_letTrainPass_41 rfl ?_
      refine z_iload dX10_letTrainPass_43 rfl ?_
      refine z_icmp_ge_n (a := i) (b := (t) + (l)) (tgt := 80) dX10_letTrainPass_45 (by decide) (by omega) (by omega) (fun h_45_1 => ?_) (fun h_45_1 => ?_)
      · refine z_aload_n dX10_letTrainPass_80 rfl ?_
        refine z_dup dX10_letTrainPass_81 rfl ?_
        refine z_getf (j := b) dX10_letTrainPass_82 kF_RX10_35 rfl (by omega) hwi rfl ?_
        refine z_iconst (v := nI 1) dX10_letTrainPass_85 rfl ?_
        refine z_iadd_n (a := tr) (b := 1) dX10_letTrainPass_86 ?_
        refine z_putf (j := b) dX10_letTrainPass_87 kF_RX10_35 zt_10_3 rfl (by omega) hwi rfl rfl (Nat.le_of_ble_eq_true rfl) ?_
        obtain ⟨w2, ew3⟩ : ∃ wz : zW, wz = va_up wi (b) (zO 10 [.ref (za g (b + 1)), .ref (za g (b + 3)), .ref (za g (b + 5)), .int (nI ((tr) + (1)))]) := ⟨_, rfl⟩
        refine z_weq (w' := w2) ew3.symm ?_
        have hf4 : zFr wi w2 (b) (b + 1) := by rw [ew3]; exact zFr.up (by omega)
        have hw5 : w2 (b) = zO 10 [.ref (za g (b + 1)), .ref (za g (b + 3)), .ref (za g (b + 5)), .int (nI ((tr) + (1)))] := by rw [ew3, zup_s]
        have hc6 := hTi.fr hf4 (by omega)
        have hc7 := hMi.fr hf4 (by omega)
        have hc8 := hGi.fr hf4 (by omega)
        refine z_iload dX10_letTrainPass_90 rfl ?_
        refine z_iret dX10_letTrainPass_92 rfl (by decide) (by decide) ?_
        exact ⟨by rw [hs, show i - t = l by omega], (hfi.tr (hf4.wk (by omega) (by omega))), ⟨hb, hw5, hc6.congr (fun k hk => by rw [hi k hk]; unfold passF; rw [show i = t + l by omega]), hc7, hc8⟩⟩
      · refine z_aload_n dX10_letTrainPass_48 rfl ?_
        refine z_getf (j := b) dX10_letTrainPass_49 kF_RX10_12 rfl (by omega) hwi rfl ?_
        refine z_iload dX10_letTrainPass_52 rfl ?_
        refine z_callE (As := [.int (nI (i))]) (rest := []) (b := b + 1) (ci := 5) (v := some (.int (nI (Fi (i))))) (R2 := zR 0 0) dX10_letTrainPass_54 kV_RX10_157 rfl ⟨⟨by decide, by decide⟩, by decide, by decide⟩ (by omega) hTi.cell rfl rfl rfl (Nat.le_of_ble_eq_true rfl) rfl (tc_at (t := i) h0 hTi (by omega)) ?_
        refine z_iload_n dX10_letTrainPass_57 rfl ?_
        have h9 : Fi i ≤ 9 := hTi.le (by omega)
        refine z_icmp_ge_n (a := Fi (i)) (b := v) (tgt := 74) dX10_letTrainPass_58 (by decide) (by omega) (by omega) (fun h_58_10 => ?_) (fun h_58_10 => ?_)
        · refine z_iinc_n (n := 1) (a := i) (lv' := [(0, .ref (za g b)), (1, .int (nI (t))), (2, .int (nI (l))), (3, .int (nI (v))), (4, .int (nI ((t) + (l)))), (5, .int (nI (s))), (6, .int (nI (i + 1)))]) dX10_letTrainPass_74 rfl (by decide) rfl ?_
          refine z_goto (tgt := 41) dX10_letTrainPass_77 (by decide) ?_
          refine ih (i + 1) s _ _ (by omega) (by omega) (by omega) hfi ⟨hb, hwi, hTi, hMi, hGi⟩ (fun k hk => ?_) ?_
          · have e1 := hi k hk
            have e2 := hi i (by omega)
            by_cases c1 : k = i
            · subst c1; rw [e2, if_neg (by omega)]; rw [if_neg (by omega)] at e2; rw [if_neg (by omega)]
            · rw [e1]
              repeat' split
              all_goals first | rfl | (exfalso; omega)
          · rw [hs, zcnt_s hti, if_neg (by have e2 := hi i (by omega); rw [if_neg (by omega)] at e2; simpa using (by omega : v ≤ zext F n i)), Nat.add_zero]
        · refine z_aload_n dX10_letTrainPass_61 rfl ?_
          refine z_getf (j := b) dX10_letTrainPass_62 kF_RX10_12 rfl (by omega) hwi rfl ?_
          refine z_iload dX10_letTrainPass_65 rfl ?_
          refine z_iload_n dX10_letTrainPass_67 rfl ?_
          refine z_callR (As := [.int (nI (i)), .int (nI (v))]) (rest := []) (b := b + 1) (ci := 5) (v := none) (R2 := zR 0 0) dX10_letTrainPass_68 kV_RX10_160 rfl ⟨⟨by decide, by decide⟩, by decide, by decide⟩ (by omega) hTi.cell rfl rfl rfl (Nat.le_of_ble_eq_true rfl) rfl (tc_put (t := i) (x := v) h0 hTi (by omega) (by omega)) (fun w11 pw11 => ?_)
          obtain ⟨hf12, hn13⟩ := pw11
          have hc14 := (hf12 (b) (by omega)).trans hwi
          have hc15 := hMi.fr hf12 (by omega)
          have hc16 := hGi.fr hf12 (by omega)
          refine z_iinc_n (n := 1) (a := s) (lv' := [(0, .ref (za g b)), (1, .int (nI (t))), (2, .int (nI (l))), (3, .int (nI (v))), (4, .int (nI ((t) + (l)))), (5, .int (nI (s + 1))), (6, .int (nI (i)))]) dX10_letTrainPass_71 rfl (by decide) rfl ?_
          refine z_iinc_n (n := 1) (a := i) (lv' := [(0, .ref (za g b)), (1, .int (nI (t))), (2, .int (nI (l))), (3, .int (nI (v))), (4, .int (nI ((t) + (l)))), (5, .int (nI (s + 1))), (6, .int (nI (i + 1)))]) dX10_letTrainPass_74 rfl (by decide) rfl ?_
          refine z_goto (tgt := 41) dX10_letTrainPass_77 (by decide) ?_
          refine ih (i + 1) (s + 1) _ _ (by omega) (by omega) (by omega) (hfi.tr (hf12.wk (by omega) (by omega))) ⟨hb, hc14, hn13, hc15, hc16⟩ (fun k hk => ?_) ?_
          · have e1 := hi k hk
            have e2 := hi i (by omega)
            simp only [va_up]
            by_cases c1 : k = i
            · subst c1; rw [if_pos rfl, if_pos ⟨by omega, by omega, by rw [if_neg (by omega)] at e2; omega⟩]
            · rw [if_neg c1, e1]
              repeat' split
              all_goals first | rfl | (exfalso; omega)
          · rw [hs, zcnt_s hti, if_pos (by have e2 := hi i (by omega); rw [if_neg (by omega)] at e2; simpa using (by omega : zext F n i < v))]
  have loopA : ∀ (mm : Nat) (i : Nat) (wi : zW) (Fi : Nat → Nat), t + l - i < mm → (n ≤ i) → (i ≤ max n (t + l)) → (zFr w wi b (b + 7)) → (Sy g wi b Fi i L G c tr) → (∀ k, k < i → Fi k = zext F n k) → zTr g mX10_letTrainPass (zR 1 0) 0 0 14 [(0, .ref (za g b)), (1, .int (nI (t))), (2, .int (nI (l))), (3, .int (nI (v))), (4, .int (nI ((t) + (l)))), (5, .int (nI (i)))] [] wi (fun o w' => o = .inl (some (.int (nI (zcnt (fun k => decide (zext F n k < v)) t l)))) ∧ zFr w w' b (b + 7) ∧ Sy g w' b (passF F n t l v) (max n (t + l)) L G c (tr + 1)) := by
    intro mm
    induction mm with
    | zero => intros; omega
    | succ mm ih =>
      intro i wi Fi hm hni hie hfi hSi hi
      obtain ⟨hbi, hwi, hTi, hMi, hGi⟩ := id hSi
      refine z_iload dX10_letTrainPass_14 rfl ?_
      refine z_iload dX10_letTrainPass_16 rfl ?_
      refine z_icmp_ge_n (a := i) (b := (t) + (l)) (tgt := 35) dX10_letTrainPass_18 (by decide) (by omega) (by omega) (fun h_18_1 => ?_) (fun h_18_1 => ?_)
      · refine z_iconst (v := nI 0) dX10_letTrainPass_35 rfl ?_
        refine z_istore (lv' := [(0, .ref (za g b)), (1, .int (nI (t))), (2, .int (nI (l))), (3, .int (nI (v))), (4, .int (nI ((t) + (l)))), (5, .int (nI (0)))]) dX10_letTrainPass_36 (by decide) rfl ?_
        refine z_iload_n dX10_letTrainPass_38 rfl ?_
        refine z_istore (lv' := [(0, .ref (za g b)), (1, .int (nI (t))), (2, .int (nI (l))), (3, .int (nI (v))), (4, .int (nI ((t) + (l)))), (5, .int (nI (0))), (6, .int (nI (t)))]) dX10_letTrainPass_39 (by decide) rfl ?_
        refine loopB (l + 1) t 0 wi Fi (by omega) (Nat.le_refl _) (by omega) hfi (by rw [show max n (t + l) = i by omega]; exact hSi) (fun k hk => ?_) (by rw [Nat.sub_self]; rfl)
        rw [hi k (by omega), if_neg (by omega)]
      · refine z_aload_n dX10_letTrainPass_21 rfl ?_
        refine z_getf (j := b) dX10_letTrainPass_22 kF_RX10_12 rfl (by omega) hwi rfl ?_
        refine z_iconst (v := nI 0) dX10_letTrainPass_25 rfl ?_
        refine z_callR (As := [.int (nI (0))]) (rest := []) (b := b + 1) (ci := 5) (v := none) (R2 := zR 0 0) dX10_letTrainPass_26 kV_RX10_153 rfl ⟨⟨by decide, by decide⟩, by decide, by decide⟩ (by omega) hTi.cell rfl rfl rfl (Nat.le_of_ble_eq_true rfl) rfl (tc_append (x := 0) h0 hTi (by omega) (by omega)) (fun w2 pw2 => ?_)
        obtain ⟨hf3, hn4⟩ := pw2
        have hc5 := (hf3 (b) (by omega)).trans hwi
        have hc6 := hMi.fr hf3 (by omega)
        have hc7 := hGi.fr hf3 (by omega)
        refine z_iinc_n (n := 1) (a := i) (lv' := [(0, .ref (za g b)), (1, .int (nI (t))), (2, .int (nI (l))), (3, .int (nI (v))), (4, .int (nI ((t) + (l)))), (5, .int (nI (i + 1)))]) dX10_letTrainPass_29 rfl (by decide) rfl ?_
        refine z_goto (tgt := 14) dX10_letTrainPass_32 (by decide) ?_
        refine ih (i + 1) _ _ (by omega) (by omega) (by omega) (hfi.tr (hf3.wk (by omega) (by omega))) ⟨hb, hc5, hn4, hc6, hc7⟩ (fun k hk => ?_)
        simp only [va_up]
        by_cases c1 : k = i
        · rw [if_pos c1, c1]; unfold zext; rw [if_neg (by omega)]
        · rw [if_neg c1]; exact hi k (by omega)
  refine z_iload_n dX10_letTrainPass_0 rfl ?_
  refine z_iload_n dX10_letTrainPass_1 rfl ?_
  refine z_iadd_n (a := t) (b := l) dX10_letTrainPass_2 ?_
  refine z_istore (lv' := [(0, .ref (za g b)), (1, .int (nI (t))), (2, .int (nI (l))), (3, .int (nI (v))), (4, .int (nI ((t) + (l))))]) dX10_letTrainPass_3 (by decide) rfl ?_
  refine z_aload_n dX10_letTrainPass_5 rfl ?_
  refine z_getf (j := b) dX10_letTrainPass_6 kF_RX10_12 rfl (by omega) hw rfl ?_
  refine z_callE (As := []) (rest := []) (b := b + 1) (ci := 5) (v := some (.int (nI (n)))) (R2 := zR 0 0) dX10_letTrainPass_9 kV_RX10_104 rfl ⟨⟨by decide, by decide⟩, by decide, by decide⟩ (by omega) hT.cell rfl rfl rfl (Nat.le_of_ble_eq_true rfl) rfl (tc_size h0 hT) ?_
  refine z_istore (lv' := [(0, .ref (za g b)), (1, .int (nI (t))), (2, .int (nI (l))), (3, .int (nI (v))), (4, .int (nI ((t) + (l)))), (5, .int (nI (n)))]) dX10_letTrainPass_12 (by decide) rfl ?_
  refine loopA (t + l + 1) n w F (by omega) (Nat.le_refl _) (by omega) zFr.rf hS (fun k hk => ?_)
  unfold zext; rw [if_pos hk]
set_option maxRecDepth 100000 in
set_option maxHeartbeats 4000000 in
theorem c_X10_turnRound {g : zGT} {w : zW} {b n c tr : Nat} {F G : Nat → Nat} {L : List Nat} {p q : Nat} (h0 : zG0 g) (h1 : zST g) (hS : Sy g w b F n L G c tr) (hpq : p ≤ q) (hqn : q ≤ n) : zCt g mX10_turnRound (zR 1 0) [.ref (za g b), .int (nI (p)), .int (nI (q))] w (fun o w' => o = .inl (some (.int (nI (if ∀ k, k < q - p → F (p + k) = F (q - 1 - k) then 0 else 1)))) ∧ zFr w w' b (b + 7) ∧ Sy g w' b (revF F p q) n L G c tr) := by
  obtain ⟨hb, hw, hT, hM, hG⟩ := id hS
  have hn := hT.len
  have hcl := hG.len
  refine zCt_of (by decide +kernel) h0 [(0, .ref (za g b)), (1, .int (nI (p))), (2, .int (nI (q)))] rfl (Nat.le_of_ble_eq_true rfl) ?_
  have loop : ∀ (mm : Nat) (i a d : Nat) (wi : zW) (Fi : Nat → Nat), a - i < mm → (p ≤ i) → (i ≤ a) → (a ≤ q) → (i + a = p + q) → (zFr w wi b (b + 7)) → (Sy g wi b Fi n L G c tr) → (∀ k, k < n → Fi k = if (p ≤ k ∧ k < i) ∨ (a ≤ k ∧ k < q) then F (p + q - 1 - k) else F k) → (d ≤ 1 ∧ (d = 0 ↔ ∀ k, k < i - p → F (p + k) = F (q - 1 - k))) → zTr g mX10_turnRound (zR 1 0) 0 0 10 [(0, .ref (za g b)), (1, .int (nI (p))), (2, .int (nI (q))), (3, .int (nI (d))), (4, .int (nI (i))), (5, .int (nI a - nI 1))] [] wi (fun o w' => o = .inl (some (.int (nI (if ∀ k, k < q - p → F (p + k) = F (q - 1 - k) then 0 else 1)))) ∧ zFr w w' b (b + 7) ∧ Sy g w' b (revF F p q) n L G c tr) := by
    intro mm
    induction mm with
    | zero => intros; omega
    | succ mm ih =>
      intro i a d wi Fi hm hpi hia haq hsum hfi hSi hi hd
      obtain ⟨hbi, hwi, hTi, hMi, hGi⟩ := id hSi
      have hz := pk_sub_toInt (a := a) (b := 1) (by omega) (by omega)
      have hzp := nI_toInt (n := i) (by omega)
      refine z_iload dX10_turnRound_10 rfl ?_
      refine z_iload dX10_turnRound_12 rfl ?_
      have hk2 := nI_toInt (n := i) (by omega)
      refine z_icmp_le_z (tgt := 90) dX10_turnRound_14 (by decide) (fun h_14_1 => ?_) (fun h_14_1 => ?_)
      · refine z_iload_n dX10_turnRound_90 rfl ?_
        refine z_if_eq_n (a := d) (tgt := 98) dX10_turnRound_91 (by decide) (by omega) (fun h_91_3 => ?_) (fun h_91_3 => ?_)
        · refine z_iconst (v := nI 0) dX10_turnRound_98 rfl ?_
          refine z_iret dX10_turnRound_99 rfl (by decide) (by decide) ?_
          have e : (∀ k, k < q - p → F (p + k) = F (q - 1 - k)) ↔ d = 0 := by
            rw [hd.2]
            refine ⟨fun z k hk => z k (by omega), fun z k hk => ?_⟩
            by_cases c3 : k < i - p
            · exact z k c3
            · by_cases c4 : k = q - 1 - p - k
              · congr 1; omega
              · have := z (q - 1 - p - k) (by omega)
                rw [show p + (q - 1 - p - k) = q - 1 - k by omega, show q - 1 - (q - 1 - p - k) = p + k by omega] at this
                exact this.symm
          refine ⟨?_, hfi, ⟨hb, hwi, hTi.congr (fun k hk => by rw [hi k hk]; unfold revF; (repeat' split) <;> first | rfl | (exfalso; omega) | (congr 1; omega)), hMi, hGi⟩⟩
          first | (rw [if_pos (e.mpr (by omega))]; done) | rw [if_neg (fun z => absurd (e.mp z) (by omega))]
        · refine z_iconst (v := nI 1) dX10_turnRound_94 rfl ?_
          refine z_goto (tgt := 99) dX10_turnRound_95 (by decide) ?_
          refine z_iret dX10_turnRound_99 rfl (by decide) (by decide) ?_
          have e : (∀ k, k < q - p → F (p + k) = F (q - 1 - k)) ↔ d = 0 := by
            rw [hd.2]
            refine ⟨fun z k hk => z k (by omega), fun z k hk => ?_⟩
            by_cases c3 : k < i - p
            · exact z k c3
            · by_cases c4 : k = q - 1 - p - k
              · congr 1; omega
              · have := z (q - 1 - p - k) (by omega)
                rw [show p + (q - 1 - p - k) = q - 1 - k by omega, show q - 1 - (q - 1 - p - k) = p + k by omega] at this
                exact this.symm
          refine ⟨?_, hfi, ⟨hb, hwi, hTi.congr (fun k hk => by rw [hi k hk]; unfold revF; (repeat' split) <;> first | rfl | (exfalso; omega) | (congr 1; omega)), hMi, hGi⟩⟩
          first | (rw [if_pos (e.mpr (by omega))]; done) | rw [if_neg (fun z => absurd (e.mp z) (by omega))]
      · refine z_eq (lv' := [(0, .ref (za g b)), (1, .int (nI (p))), (2, .int (nI (q))), (3, .int (nI (d))), (4, .int (nI (i))), (5, .int (nI (a - 1)))]) rfl rfl (by rw [pk_sub (show 1 ≤ a by omega)]) ?_
        have h9a : Fi i ≤ 9 := hTi.le (by omega)
        have h9b : Fi (a - 1) ≤ 9 := hTi.le (by omega)
        refine z_aload_n dX10_turnRound_17 rfl ?_
        refine z_getf (j := b) dX10_turnRound_18 kF_RX10_12 rfl (by omega) hwi rfl ?_
        refine z_iload dX10_turnRound_21 rfl ?_
        refine z_callE (As := [.int (nI (i))]) (rest := []) (b := b + 1) (ci := 5) (v := some (.int (nI (Fi (i))))) (R2 := zR 0 0) dX10_turnRound_23 kV_RX10_157 rfl ⟨⟨by decide, by decide⟩, by decide, by decide⟩ (by omega) hTi.cell rfl rfl rfl (Nat.le_of_ble_eq_true rfl) rfl (tc_at (t := i) h0 hTi (by omega)) ?_
        refine z_istore (lv' := [(0, .ref (za g b)), (1, .int (nI (p))), (2, .int (nI (q))), (3, .int (nI (d))), (4, .int (nI (i))), (5, .int (nI (a - 1))), (6, .int (nI (Fi (i))))]) dX10_turnRound_26 (by decide) rfl ?_
        refine z_iload_n dX10_turnRound_28 rfl ?_
        refine z_if_ne_n (a := d) (tgt := 46) dX10_turnRound_29 (by decide) (by omega) (fun h_29_5 => ?_) (fun h_29_5 => ?_)
        · refine z_iconst (v := nI 1) dX10_turnRound_46 rfl ?_
          refine z_goto (tgt := 51) dX10_turnRound_47 (by decide) ?_
          refine z_istore_n (lv' := [(0, .ref (za g b)), (1, .int (nI (p))), (2, .int (nI (q))), (3, .int (nI (1))), (4, .int (nI (i))), (5, .int (nI (a - 1))), (6, .int (nI (Fi (i))))]) dX10_turnRound_51 (by decide) rfl ?_
          refine z_aload_n dX10_turnRound_52 rfl ?_
          refine z_getf (j := b) dX10_turnRound_53 kF_RX10_12 rfl (by omega) hwi rfl ?_
          refine z_iload dX10_turnRound_56 rfl ?_
          refine z_aload_n dX10_turnRound_58 rfl ?_
          refine z_getf (j := b) dX10_turnRound_59 kF_RX10_12 rfl (by omega) hwi rfl ?_
          refine z_iload dX10_turnRound_62 rfl ?_
          refine z_callE (As := [.int (nI (a - 1))]) (rest := [.int (nI (i)), .ref (za g (b + 1))]) (b := b + 1) (ci := 5) (v := some (.int (nI (Fi (a - 1))))) (R2 := zR 0 0) dX10_turnRound_64 kV_RX10_157 rfl ⟨⟨by decide, by decide⟩, by decide, by decide⟩ (by omega) hTi.cell rfl rfl rfl (Nat.le_of_ble_eq_true rfl) rfl (tc_at (t := a - 1) h0 hTi (by omega)) ?_
          refine z_callR (As := [.int (nI (i)), .int (nI (Fi (a - 1)))]) (rest := []) (b := b + 1) (ci := 5) (v := none) (R2 := zR 0 0) dX10_turnRound_67 kV_RX10_160 rfl ⟨⟨by decide, by decide⟩, by decide, by decide⟩ (by omega) hTi.cell rfl rfl rfl (Nat.le_of_ble_eq_true rfl) rfl (tc_put (t := i) (x := Fi (a - 1)) h0 hTi (by omega) (by omega)) (fun w7 pw7 => ?_)
          obtain ⟨hf8, hn9⟩ := pw7
          have hc10 := (hf8 (b) (by omega)).trans hwi
          have hc11 := hMi.fr hf8 (by omega)
          have hc12 := hGi.fr hf8 (by omega)
          refine z_aload_n dX10_turnRound_70 rfl ?_
          refine z_getf (j := b) dX10_turnRound_71 kF_RX10_12 rfl (by omega) hc10 rfl ?_
          refine z_iload dX10_turnRound_74 rfl ?_
          refine z_iload dX10_turnRound_76 rfl ?_
          refine z_callR (As := [.int (nI (a - 1)), .int (nI (Fi (i)))]) (rest := []) (b := b + 1) (ci := 5) (v := none) (R2 := zR 0 0) dX10_turnRound_78 kV_RX10_160 rfl ⟨⟨by decide, by decide⟩, by decide, by decide⟩ (by omega) hn9.cell rfl rfl rfl (Nat.le_of_ble_eq_true rfl) rfl (tc_put (t := a - 1) (x := Fi (i)) h0 hn9 (by omega) (by omega)) (fun w13 pw13 => ?_)
          obtain ⟨hf14, hn15⟩ := pw13
          have hc16 := (hf14 (b) (by omega)).trans hc10
          have hc17 := hc11.fr hf14 (by omega)
          have hc18 := hc12.fr hf14 (by omega)
          refine z_iinc_n (n := 1) (a := i) (lv' := [(0, .ref (za g b)), (1, .int (nI (p))), (2, .int (nI (q))), (3, .int (nI (1))), (4, .int (nI (i + 1))), (5, .int (nI (a - 1))), (6, .int (nI (Fi (i))))]) dX10_turnRound_81 rfl (by decide) rfl ?_
          refine z_iinc (lv' := [(0, .ref (za g b)), (1, .int (nI (p))), (2, .int (nI (q))), (3, .int (nI (1))), (4, .int (nI (i + 1))), (5, .int (nI (a - 1) - nI 1)), (6, .int (nI (Fi (i))))]) dX10_turnRound_84 rfl (by rw [Int32.sub_eq_add_neg]; rfl) (by decide) rfl ?_
          refine z_goto (tgt := 10) dX10_turnRound_87 (by decide) ?_
          refine z_sub (lv' := [(0, .ref (za g b)), (1, .int (nI (p))), (2, .int (nI (q))), (3, .int (nI (1))), (4, .int (nI (i + 1))), (5, .int (nI (a - 1) - nI 1))]) [0, 1, 2, 3, 4, 5] rfl ?_
          have e1 := hi i (by omega)
          have e2 := hi (a - 1) (by omega)
          rw [if_neg (by omega)] at e1 e2
          refine ih (i + 1) (a - 1) (1) _ _ (by omega) (by omega) (by omega) (by omega) (by omega) (hfi.tr ((hf8.wk (by omega) (by omega)).tr (hf14.wk (by omega) (by omega)))) ⟨hb, hc16, hn15, hc17, hc18⟩ (fun k hk => ?_) ?_
          · simp only [va_up]
            by_cases c1 : k = a - 1
            · rw [if_pos c1, if_pos (by omega), e1, c1, show p + q - 1 - (a - 1) = i by omega]
            · rw [if_neg c1]
              by_cases c2 : k = i
              · rw [if_pos c2, if_pos (by omega), e2, c2, show p + q - 1 - i = a - 1 by omega]
              · rw [if_neg c2, hi k hk]
                repeat' split
                all_goals first | rfl | (exfalso; omega)
          · refine ⟨by omega, ⟨fun z => absurd z (by omega), fun z => ?_⟩⟩
            exfalso; have := hd.2.mpr (fun k hk => z k (by omega)); omega
        · refine z_iload dX10_turnRound_32 rfl ?_
          refine z_aload_n dX10_turnRound_34 rfl ?_
          refine z_getf (j := b) dX10_turnRound_35 kF_RX10_12 rfl (by omega) hwi rfl ?_
          refine z_iload dX10_turnRound_38 rfl ?_
          refine z_callE (As := [.int (nI (a - 1))]) (rest := [.int (nI (Fi (i)))]) (b := b + 1) (ci := 5) (v := some (.int (nI (Fi (a - 1))))) (R2 := zR 0 0) dX10_turnRound_40 kV_RX10_157 rfl ⟨⟨by decide, by decide⟩, by decide, by decide⟩ (by omega) hTi.cell rfl rfl rfl (Nat.le_of_ble_eq_true rfl) rfl (tc_at (t := a - 1) h0 hTi (by omega)) ?_
          refine z_icmp_eq_n (a := Fi (i)) (b := Fi (a - 1)) (tgt := 50) dX10_turnRound_43 (by decide) (by omega) (by omega) (fun h_43_20 => ?_) (fun h_43_20 => ?_)
          · refine z_iconst (v := nI 0) dX10_turnRound_50 rfl ?_
            refine z_istore_n (lv' := [(0, .ref (za g b)), (1, .int (nI (p))), (2, .int (nI (q))), (3, .int (nI (0))), (4, .int (nI (i))), (5, .int (nI (a - 1))), (6, .int (nI (Fi (i))))]) dX10_turnRound_51 (by decide) rfl ?_
            refine z_aload_n dX10_turnRound_52 rfl ?_
            refine z_getf (j := b) dX10_turnRound_53 kF_RX10_12 rfl (by omega) hwi rfl ?_
            refine z_iload dX10_turnRound_56 rfl ?_
            refine z_aload_n dX10_turnRound_58 rfl ?_
            refine z_getf (j := b) dX10_turnRound_59 kF_RX10_12 rfl (by omega) hwi rfl ?_
            refine z_iload dX10_turnRound_62 rfl ?_
            refine z_callE (As := [.int (nI (a - 1))]) (rest := [.int (nI (i)), .ref (za g (b + 1))]) (b := b + 1) (ci := 5) (v := some (.int (nI (Fi (a - 1))))) (R2 := zR 0 0) dX10_turnRound_64 kV_RX10_157 rfl ⟨⟨by decide, by decide⟩, by decide, by decide⟩ (by omega) hTi.cell rfl rfl rfl (Nat.le_of_ble_eq_true rfl) rfl (tc_at (t := a - 1) h0 hTi (by omega)) ?_
            refine z_callR (As := [.int (nI (i)), .int (nI (Fi (a - 1)))]) (rest := []) (b := b + 1) (ci := 5) (v := none) (R2 := zR 0 0) dX10_turnRound_67 kV_RX10_160 rfl ⟨⟨by decide, by decide⟩, by decide, by decide⟩ (by omega) hTi.cell rfl rfl rfl (Nat.le_of_ble_eq_true rfl) rfl (tc_put (t := i) (x := Fi (a - 1)) h0 hTi (by omega) (by omega)) (fun w22 pw22 => ?_)
            obtain ⟨hf23, hn24⟩ := pw22
            have hc25 := (hf23 (b) (by omega)).trans hwi
            have hc26 := hMi.fr hf23 (by omega)
            have hc27 := hGi.fr hf23 (by omega)
            refine z_aload_n dX10_turnRound_70 rfl ?_
            refine z_getf (j := b) dX10_turnRound_71 kF_RX10_12 rfl (by omega) hc25 rfl ?_
            refine z_iload dX10_turnRound_74 rfl ?_
            refine z_iload dX10_turnRound_76 rfl ?_
            refine z_callR (As := [.int (nI (a - 1)), .int (nI (Fi (i)))]) (rest := []) (b := b + 1) (ci := 5) (v := none) (R2 := zR 0 0) dX10_turnRound_78 kV_RX10_160 rfl ⟨⟨by decide, by decide⟩, by decide, by decide⟩ (by omega) hn24.cell rfl rfl rfl (Nat.le_of_ble_eq_true rfl) rfl (tc_put (t := a - 1) (x := Fi (i)) h0 hn24 (by omega) (by omega)) (fun w28 pw28 => ?_)
            obtain ⟨hf29, hn30⟩ := pw28
            have hc31 := (hf29 (b) (by omega)).trans hc25
            have hc32 := hc26.fr hf29 (by omega)
            have hc33 := hc27.fr hf29 (by omega)
            refine z_iinc_n (n := 1) (a := i) (lv' := [(0, .ref (za g b)), (1, .int (nI (p))), (2, .int (nI (q))), (3, .int (nI (0))), (4, .int (nI (i + 1))), (5, .int (nI (a - 1))), (6, .int (nI (Fi (i))))]) dX10_turnRound_81 rfl (by decide) rfl ?_
            refine z_iinc (lv' := [(0, .ref (za g b)), (1, .int (nI (p))), (2, .int (nI (q))), (3, .int (nI (0))), (4, .int (nI (i + 1))), (5, .int (nI (a - 1) - nI 1)), (6, .int (nI (Fi (i))))]) dX10_turnRound_84 rfl (by rw [Int32.sub_eq_add_neg]; rfl) (by decide) rfl ?_
            refine z_goto (tgt := 10) dX10_turnRound_87 (by decide) ?_
            refine z_sub (lv' := [(0, .ref (za g b)), (1, .int (nI (p))), (2, .int (nI (q))), (3, .int (nI (0))), (4, .int (nI (i + 1))), (5, .int (nI (a - 1) - nI 1))]) [0, 1, 2, 3, 4, 5] rfl ?_
            have e1 := hi i (by omega)
            have e2 := hi (a - 1) (by omega)
            rw [if_neg (by omega)] at e1 e2
            refine ih (i + 1) (a - 1) (0) _ _ (by omega) (by omega) (by omega) (by omega) (by omega) (hfi.tr ((hf23.wk (by omega) (by omega)).tr (hf29.wk (by omega) (by omega)))) ⟨hb, hc31, hn30, hc32, hc33⟩ (fun k hk => ?_) ?_
            · simp only [va_up]
              by_cases c1 : k = a - 1
              · rw [if_pos c1, if_pos (by omega), e1, c1, show p + q - 1 - (a - 1) = i by omega]
              · rw [if_neg c1]
                by_cases c2 : k = i
                · rw [if_pos c2, if_pos (by omega), e2, c2, show p + q - 1 - i = a - 1 by omega]
                · rw [if_neg c2, hi k hk]
                  repeat' split
                  all_goals first | rfl | (exfalso; omega)
            · have e3 : F i = F (a - 1) := by have := h_43_20; omega
              refine ⟨by omega, ⟨fun _ k hk => ?_, fun _ => rfl⟩⟩
              by_cases c3 : k = i - p
              · rw [c3, show p + (i - p) = i by omega, show q - 1 - (i - p) = a - 1 by omega]; exact e3
              · exact hd.2.mp (by omega) k (by omega)
          · refine z_iconst (v := nI 1) dX10_turnRound_46 rfl ?_
            refine z_goto (tgt := 51) dX10_turnRound_47 (by decide) ?_
            refine z_istore_n (lv' := [(0, .ref (za g b)), (1, .int (nI (p))), (2, .int (nI (q))), (3, .int (nI (1))), (4, .int (nI (i))), (5, .int (nI (a - 1))), (6, .int (nI (Fi (i))))]) dX10_turnRound_51 (by decide) rfl ?_
            refine z_aload_n dX10_turnRound_52 rfl ?_
            refine z_getf (j := b) dX10_turnRound_53 kF_RX10_12 rfl (by omega) hwi rfl ?_
            refine z_iload dX10_turnRound_56 rfl ?_
            refine z_aload_n dX10_turnRound_58 rfl ?_
            refine z_getf (j := b) dX10_turnRound_59 kF_RX10_12 rfl (by omega) hwi rfl ?_
            refine z_iload dX10_turnRound_62 rfl ?_
            refine z_callE (As := [.int (nI (a - 1))]) (rest := [.int (nI (i)), .ref (za g (b + 1))]) (b := b + 1) (ci := 5) (v := some (.int (nI (Fi (a - 1))))) (R2 := zR 0 0) dX10_turnRound_64 kV_RX10_157 rfl ⟨⟨by decide, by decide⟩, by decide, by decide⟩ (by omega) hTi.cell rfl rfl rfl (Nat.le_of_ble_eq_true rfl) rfl (tc_at (t := a - 1) h0 hTi (by omega)) ?_
            refine z_callR (As := [.int (nI (i)), .int (nI (Fi (a - 1)))]) (rest := []) (b := b + 1) (ci := 5) (v := none) (R2 := zR 0 0) dX10_turnRound_67 kV_RX10_160 rfl ⟨⟨by decide, by decide⟩, by decide, by decide⟩ (by omega) hTi.cell rfl rfl rfl (Nat.le_of_ble_eq_true rfl) rfl (tc_put (t := i) (x := Fi (a - 1)) h0 hTi (by omega) (by omega)) (fun w35 pw35 => ?_)
            obtain ⟨hf36, hn37⟩ := pw35
            have hc38 := (hf36 (b) (by omega)).trans hwi
            have hc39 := hMi.fr hf36 (by omega)
            have hc40 := hGi.fr hf36 (by omega)
            refine z_aload_n dX10_turnRound_70 rfl ?_
            refine z_getf (j := b) dX10_turnRound_71 kF_RX10_12 rfl (by omega) hc38 rfl ?_
            refine z_iload dX10_turnRound_74 rfl ?_
            refine z_iload dX10_turnRound_76 rfl ?_
            refine z_callR (As := [.int (nI (a - 1)), .int (nI (Fi (i)))]) (rest := []) (b := b + 1) (ci := 5) (v := none) (R2 := zR 0 0) dX10_turnRound_78 kV_RX10_160 rfl ⟨⟨by decide, by decide⟩, by decide, by decide⟩ (by omega) hn37.cell rfl rfl rfl (Nat.le_of_ble_eq_true rfl) rfl (tc_put (t := a - 1) (x := Fi (i)) h0 hn37 (by omega) (by omega)) (fun w41 pw41 => ?_)
            obtain ⟨hf42, hn43⟩ := pw41
            have hc44 := (hf42 (b) (by omega)).trans hc38
            have hc45 := hc39.fr hf42 (by omega)
            have hc46 := hc40.fr hf42 (by omega)
            refine z_iinc_n (n := 1) (a := i) (lv' := [(0, .ref (za g b)), (1, .int (nI (p))), (2, .int (nI (q))), (3, .int (nI (1))), (4, .int (nI (i + 1))), (5, .int (nI (a - 1))), (6, .int (nI (Fi (i))))]) dX10_turnRound_81 rfl (by decide) rfl ?_
            refine z_iinc (lv' := [(0, .ref (za g b)), (1, .int (nI (p))), (2, .int (nI (q))), (3, .int (nI (1))), (4, .int (nI (i + 1))), (5, .int (nI (a - 1) - nI 1)), (6, .int (nI (Fi (i))))]) dX10_turnRound_84 rfl (by rw [Int32.sub_eq_add_neg]; rfl) (by decide) rfl ?_
            refine z_goto (tgt := 10) dX10_turnRound_87 (by decide) ?_
            refine z_sub (lv' := [(0, .ref (za g b)), (1, .int (nI (p))), (2, .int (nI (q))), (3, .int (nI (1))), (4, .int (nI (i + 1))), (5, .int (nI (a - 1) - nI 1))]) [0, 1, 2, 3, 4, 5] rfl ?_
            have e1 := hi i (by omega)
            have e2 := hi (a - 1) (by omega)
            rw [if_neg (by omega)] at e1 e2
            refine ih (i + 1) (a - 1) (1) _ _ (by omega) (by omega) (by omega) (by omega) (by omega) (hfi.tr ((hf36.wk (by omega) (by omega)).tr (hf42.wk (by omega) (by omega)))) ⟨hb, hc44, hn43, hc45, hc46⟩ (fun k hk => ?_) ?_
            · simp only [va_up]
              by_cases c1 : k = a - 1
              · rw [if_pos c1, if_pos (by omega), e1, c1, show p + q - 1 - (a - 1) = i by omega]
              · rw [if_neg c1]
                by_cases c2 : k = i
                · rw [if_pos c2, if_pos (by omega), e2, c2, show p + q - 1 - i = a - 1 by omega]
                · rw [if_neg c2, hi k hk]
                  repeat' split
                  all_goals first | rfl | (exfalso; omega)
            · refine ⟨by omega, ⟨fun z => absurd z (by omega), fun z => ?_⟩⟩
              exfalso
              have e3 := z (i - p) (by omega)
              rw [show p + (i - p) = i by omega, show q - 1 - (i - p) = a - 1 by omega] at e3
              have := h_43_20; omega
  refine z_iconst (v := nI 0) dX10_turnRound_0 rfl ?_
  refine z_istore_n (lv' := [(0, .ref (za g b)), (1, .int (nI (p))), (2, .int (nI (q))), (3, .int (nI (0)))]) dX10_turnRound_1 (by decide) rfl ?_
  refine z_iload_n dX10_turnRound_2 rfl ?_
  refine z_istore (lv' := [(0, .ref (za g b)), (1, .int (nI (p))), (2, .int (nI (q))), (3, .int (nI (0))), (4, .int (nI (p)))]) dX10_turnRound_3 (by decide) rfl ?_
  refine z_iload_n dX10_turnRound_5 rfl ?_
  refine z_iconst (v := nI 1) dX10_turnRound_6 rfl ?_
  refine z_isub dX10_turnRound_7 ?_
  refine z_istore (lv' := [(0, .ref (za g b)), (1, .int (nI (p))), (2, .int (nI (q))), (3, .int (nI (0))), (4, .int (nI (p))), (5, .int ((nI (q)) - (nI (1))))]) dX10_turnRound_8 (by decide) rfl ?_
  refine loop (q + 1) p q 0 w F (by omega) (Nat.le_refl _) hpq (Nat.le_refl _) rfl zFr.rf hS (fun k hk => ?_) ⟨by omega, ⟨fun _ k hk => absurd hk (by omega), fun _ => rfl⟩⟩
  rw [if_neg (by omega)]
set_option maxRecDepth 100000 in
set_option maxHeartbeats 4000000 in
theorem c_X10_shiftLevels {g : zGT} {w : zW} {b n c tr : Nat} {F G : Nat → Nat} {L : List Nat} {p q : Nat} {z : Int32} (h0 : zG0 g) (h1 : zST g) (hS : Sy g w b F n L G c tr) (hpq : p ≤ q) (hqn : q ≤ n) (hz : -8 ≤ z.toInt ∧ z.toInt ≤ 8) : zCt g mX10_shiftLevels (zR 1 0) [.ref (za g b), .int (nI (p)), .int (nI (q)), .int (z)] w (fun o w' => o = .inl (some (.int (nI (zcnt (fun k => decide (shf z.toInt (F k) ≠ F k)) p (q - p))))) ∧ zFr w w' b (b + 7) ∧ Sy g w' b (shfF F p q z.toInt) n L G c tr) := by
  obtain ⟨hb, hw, hT, hM, hG⟩ := id hS
  have hn := hT.len
  have hcl := hG.len
  refine zCt_of (by decide +kernel) h0 [(0, .ref (za g b)), (1, .int (nI (p))), (2, .int (nI (q))), (3, .int (z))] rfl (Nat.le_of_ble_eq_true rfl) ?_
  have loop : ∀ (mm : Nat) (i s : Nat) (wi : zW) (Fi : Nat → Nat), q - i < mm → (p ≤ i) → (i ≤ q) → (zFr w wi b (b + 7)) → (Sy g wi b Fi n L G c tr) → (∀ k, k < n → Fi k = if p ≤ k ∧ k < i then shf z.toInt (F k) else F k) → (s = zcnt (fun k => decide (shf z.toInt (F k) ≠ F k)) p (i - p)) → zTr g mX10_shiftLevels (zR 1 0) 0 0 6 [(0, .ref (za g b)), (1, .int (nI (p))), (2, .int (nI (q))), (3, .int (z)), (4, .int (nI (s))), (5, .int (nI (i)))] [] wi (fun o w' => o = .inl (some (.int (nI (zcnt (fun k => decide (shf z.toInt (F k) ≠ F k)) p (q - p))))) ∧ zFr w w' b (b + 7) ∧ Sy g w' b (shfF F p q z.toInt) n L G c tr) := by
    intro mm
    induction mm with
    | zero => intros; omega
    | succ mm ih =>
      intro i s wi Fi hm hpi hiq hfi hSi hi hs
      obtain ⟨hbi, hwi, hTi, hMi, hGi⟩ := id hSi
      refine z_iload dX10_shiftLevels_6 rfl ?_
      refine z_iload_n dX10_shiftLevels_8 rfl ?_
      refine z_icmp_ge_n (a := i) (b := q) (tgt := 74) dX10_shiftLevels_9 (by decide) (by omega) (by omega) (fun h_9_1 => ?_) (fun h_9_1 => ?_)
      · refine z_iload dX10_shiftLevels_74 rfl ?_
        refine z_iret dX10_shiftLevels_76 rfl (by decide) (by decide) ?_
        exact ⟨by rw [hs, show i = q by omega], hfi, ⟨hb, hwi, hTi.congr (fun k hk => by rw [hi k hk, show i = q by omega]; rfl), hMi, hGi⟩⟩
      · refine z_aload_n dX10_shiftLevels_12 rfl ?_
        refine z_getf (j := b) dX10_shiftLevels_13 kF_RX10_12 rfl (by omega) hwi rfl ?_
        refine z_iload dX10_shiftLevels_16 rfl ?_
        refine z_callE (As := [.int (nI (i))]) (rest := []) (b := b + 1) (ci := 5) (v := some (.int (nI (Fi (i))))) (R2 := zR 0 0) dX10_shiftLevels_18 kV_RX10_157 rfl ⟨⟨by decide, by decide⟩, by decide, by decide⟩ (by omega) hTi.cell rfl rfl rfl (Nat.le_of_ble_eq_true rfl) rfl (tc_at (t := i) h0 hTi (by omega)) ?_
        refine z_istore (lv' := [(0, .ref (za g b)), (1, .int (nI (p))), (2, .int (nI (q))), (3, .int (z)), (4, .int (nI (s))), (5, .int (nI (i))), (6, .int (nI (Fi (i))))]) dX10_shiftLevels_21 (by decide) rfl ?_
        have h9a : Fi i ≤ 9 := hTi.le (by omega)
        refine z_iload dX10_shiftLevels_23 rfl ?_
        refine z_if_ne_n (a := Fi (i)) (tgt := 32) dX10_shiftLevels_25 (by decide) (by omega) (fun h_25_3 => ?_) (fun h_25_3 => ?_)
        · refine z_iconst (v := nI 1) dX10_shiftLevels_32 rfl ?_
          refine z_bipush (v := nI 9) dX10_shiftLevels_33 rfl ?_
          refine z_iload dX10_shiftLevels_35 rfl ?_
          refine z_iload_n dX10_shiftLevels_37 rfl ?_
          refine z_iadd dX10_shiftLevels_38 ?_
          refine z_min (rest := [.int (nI (1))]) (x := (nI (9))) (y := ((nI (Fi (i))) + (z))) dX10_shiftLevels_39 kO_RX10_185 rfl ⟨⟨by decide, by decide⟩, by decide, by decide⟩ ?_
          refine z_max (rest := []) (x := (nI (1))) (y := (if (((nI (Fi (i))) + (z))).toInt < ((nI (9))).toInt then ((nI (Fi (i))) + (z)) else (nI (9)))) dX10_shiftLevels_42 kO_RX10_190 rfl ⟨⟨by decide, by decide⟩, by decide, by decide⟩ ?_
          refine z_istore (lv' := [(0, .ref (za g b)), (1, .int (nI (p))), (2, .int (nI (q))), (3, .int (z)), (4, .int (nI (s))), (5, .int (nI (i))), (6, .int (nI (Fi (i)))), (7, .int (if ((nI (1))).toInt < ((if (((nI (Fi (i))) + (z))).toInt < ((nI (9))).toInt then ((nI (Fi (i))) + (z)) else (nI (9)))).toInt then (if (((nI (Fi (i))) + (z))).toInt < ((nI (9))).toInt then ((nI (Fi (i))) + (z)) else (nI (9))) else (nI (1))))]) dX10_shiftLevels_45 (by decide) rfl ?_
          refine z_eq (lv' := [(0, .ref (za g b)), (1, .int (nI (p))), (2, .int (nI (q))), (3, .int (z)), (4, .int (nI (s))), (5, .int (nI (i))), (6, .int (nI (Fi (i)))), (7, .int (nI (shf z.toInt (Fi i))))]) rfl rfl (by rw [shf_eq (by omega) (by omega) hz]) ?_
          have h9s : shf z.toInt (Fi i) ≤ 9 := shf_le (hTi.le (by omega))
          refine z_iload dX10_shiftLevels_47 rfl ?_
          refine z_iload dX10_shiftLevels_49 rfl ?_
          refine z_icmp_eq_n (a := shf z.toInt (Fi i)) (b := Fi (i)) (tgt := 68) dX10_shiftLevels_51 (by decide) (by omega) (by omega) (fun h_51_6 => ?_) (fun h_51_6 => ?_)
          · refine z_iinc_n (n := 1) (a := i) (lv' := [(0, .ref (za g b)), (1, .int (nI (p))), (2, .int (nI (q))), (3, .int (z)), (4, .int (nI (s))), (5, .int (nI (i + 1))), (6, .int (nI (Fi (i)))), (7, .int (nI (shf z.toInt (Fi i))))]) dX10_shiftLevels_68 rfl (by decide) rfl ?_
            refine z_goto (tgt := 6) dX10_shiftLevels_71 (by decide) ?_
            refine z_sub (lv' := [(0, .ref (za g b)), (1, .int (nI (p))), (2, .int (nI (q))), (3, .int (z)), (4, .int (nI (s))), (5, .int (nI (i + 1)))]) [0, 1, 2, 3, 4, 5] rfl ?_
            have e2 := hi i (by omega)
            rw [if_neg (by omega)] at e2
            refine ih (i + 1) (s) _ _ (by omega) (by omega) (by omega) hfi ⟨hb, hwi, hTi, hMi, hGi⟩ (fun k hk => ?_) ?_
            · by_cases c1 : k = i
              · rw [c1, if_pos (by omega), e2]; rw [e2] at h_51_6; exact h_51_6.symm
              · rw [hi k hk]
                repeat' split
                all_goals first | rfl | (exfalso; omega)
            · rw [hs, zcnt_s hpi, if_neg (by rw [e2] at h_51_6; simpa using h_51_6), Nat.add_zero]
          · refine z_aload_n dX10_shiftLevels_54 rfl ?_
            refine z_getf (j := b) dX10_shiftLevels_55 kF_RX10_12 rfl (by omega) hwi rfl ?_
            refine z_iload dX10_shiftLevels_58 rfl ?_
            refine z_iload dX10_shiftLevels_60 rfl ?_
            refine z_callR (As := [.int (nI (i)), .int (nI (shf z.toInt (Fi i)))]) (rest := []) (b := b + 1) (ci := 5) (v := none) (R2 := zR 0 0) dX10_shiftLevels_62 kV_RX10_160 rfl ⟨⟨by decide, by decide⟩, by decide, by decide⟩ (by omega) hTi.cell rfl rfl rfl (Nat.le_of_ble_eq_true rfl) rfl (tc_put (t := i) (x := shf z.toInt (Fi i)) h0 hTi (by omega) (by omega)) (fun w7 pw7 => ?_)
            obtain ⟨hf8, hn9⟩ := pw7
            have hc10 := (hf8 (b) (by omega)).trans hwi
            have hc11 := hMi.fr hf8 (by omega)
            have hc12 := hGi.fr hf8 (by omega)
            refine z_iinc_n (n := 1) (a := s) (lv' := [(0, .ref (za g b)), (1, .int (nI (p))), (2, .int (nI (q))), (3, .int (z)), (4, .int (nI (s + 1))), (5, .int (nI (i))), (6, .int (nI (Fi (i)))), (7, .int (nI (shf z.toInt (Fi i))))]) dX10_shiftLevels_65 rfl (by decide) rfl ?_
            refine z_iinc_n (n := 1) (a := i) (lv' := [(0, .ref (za g b)), (1, .int (nI (p))), (2, .int (nI (q))), (3, .int (z)), (4, .int (nI (s + 1))), (5, .int (nI (i + 1))), (6, .int (nI (Fi (i)))), (7, .int (nI (shf z.toInt (Fi i))))]) dX10_shiftLevels_68 rfl (by decide) rfl ?_
            refine z_goto (tgt := 6) dX10_shiftLevels_71 (by decide) ?_
            refine z_sub (lv' := [(0, .ref (za g b)), (1, .int (nI (p))), (2, .int (nI (q))), (3, .int (z)), (4, .int (nI (s + 1))), (5, .int (nI (i + 1)))]) [0, 1, 2, 3, 4, 5] rfl ?_
            have e2 := hi i (by omega)
            rw [if_neg (by omega)] at e2
            refine ih (i + 1) (s + 1) _ _ (by omega) (by omega) (by omega) (hfi.tr (hf8.wk (by omega) (by omega))) ⟨hb, hc10, hn9, hc11, hc12⟩ (fun k hk => ?_) ?_
            · simp only [va_up]
              by_cases c1 : k = i
              · rw [if_pos c1, c1, if_pos (by omega), e2]
              · rw [if_neg c1, hi k hk]
                repeat' split
                all_goals first | rfl | (exfalso; omega)
            · rw [hs, zcnt_s hpi, if_pos (by rw [e2] at h_51_6; simpa using h_51_6)]
        · refine z_iconst (v := nI 0) dX10_shiftLevels_28 rfl ?_
          refine z_goto (tgt := 45) dX10_shiftLevels_29 (by decide) ?_
          refine z_istore (lv' := [(0, .ref (za g b)), (1, .int (nI (p))), (2, .int (nI (q))), (3, .int (z)), (4, .int (nI (s))), (5, .int (nI (i))), (6, .int (nI (Fi (i)))), (7, .int (nI (0)))]) dX10_shiftLevels_45 (by decide) rfl ?_
          refine z_eq (lv' := [(0, .ref (za g b)), (1, .int (nI (p))), (2, .int (nI (q))), (3, .int (z)), (4, .int (nI (s))), (5, .int (nI (i))), (6, .int (nI (Fi (i)))), (7, .int (nI (shf z.toInt (Fi i))))]) rfl rfl (by unfold shf; rw [if_pos h_25_3]) ?_
          have h9s : shf z.toInt (Fi i) ≤ 9 := shf_le (hTi.le (by omega))
          refine z_iload dX10_shiftLevels_47 rfl ?_
          refine z_iload dX10_shiftLevels_49 rfl ?_
          refine z_icmp_eq_n (a := shf z.toInt (Fi i)) (b := Fi (i)) (tgt := 68) dX10_shiftLevels_51 (by decide) (by omega) (by omega) (fun h_51_13 => ?_) (fun h_51_13 => ?_)
          · refine z_iinc_n (n := 1) (a := i) (lv' := [(0, .ref (za g b)), (1, .int (nI (p))), (2, .int (nI (q))), (3, .int (z)), (4, .int (nI (s))), (5, .int (nI (i + 1))), (6, .int (nI (Fi (i)))), (7, .int (nI (shf z.toInt (Fi i))))]) dX10_shiftLevels_68 rfl (by decide) rfl ?_
            refine z_goto (tgt := 6) dX10_shiftLevels_71 (by decide) ?_
            refine z_sub (lv' := [(0, .ref (za g b)), (1, .int (nI (p))), (2, .int (nI (q))), (3, .int (z)), (4, .int (nI (s))), (5, .int (nI (i + 1)))]) [0, 1, 2, 3, 4, 5] rfl ?_
            have e2 := hi i (by omega)
            rw [if_neg (by omega)] at e2
            refine ih (i + 1) (s) _ _ (by omega) (by omega) (by omega) hfi ⟨hb, hwi, hTi, hMi, hGi⟩ (fun k hk => ?_) ?_
            · by_cases c1 : k = i
              · rw [c1, if_pos (by omega), e2]; rw [e2] at h_51_13; exact h_51_13.symm
              · rw [hi k hk]
                repeat' split
                all_goals first | rfl | (exfalso; omega)
            · rw [hs, zcnt_s hpi, if_neg (by rw [e2] at h_51_13; simpa using h_51_13), Nat.add_zero]
          · refine z_aload_n dX10_shiftLevels_54 rfl ?_
            refine z_getf (j := b) dX10_shiftLevels_55 kF_RX10_12 rfl (by omega) hwi rfl ?_
            refine z_iload dX10_shiftLevels_58 rfl ?_
            refine z_iload dX10_shiftLevels_60 rfl ?_
            refine z_callR (As := [.int (nI (i)), .int (nI (shf z.toInt (Fi i)))]) (rest := []) (b := b + 1) (ci := 5) (v := none) (R2 := zR 0 0) dX10_shiftLevels_62 kV_RX10_160 rfl ⟨⟨by decide, by decide⟩, by decide, by decide⟩ (by omega) hTi.cell rfl rfl rfl (Nat.le_of_ble_eq_true rfl) rfl (tc_put (t := i) (x := shf z.toInt (Fi i)) h0 hTi (by omega) (by omega)) (fun w14 pw14 => ?_)
            obtain ⟨hf15, hn16⟩ := pw14
            have hc17 := (hf15 (b) (by omega)).trans hwi
            have hc18 := hMi.fr hf15 (by omega)
            have hc19 := hGi.fr hf15 (by omega)
            refine z_iinc_n (n := 1) (a := s) (lv' := [(0, .ref (za g b)), (1, .int (nI (p))), (2, .int (nI (q))), (3, .int (z)), (4, .int (nI (s + 1))), (5, .int (nI (i))), (6, .int (nI (Fi (i)))), (7, .int (nI (shf z.toInt (Fi i))))]) dX10_shiftLevels_65 rfl (by decide) rfl ?_
            refine z_iinc_n (n := 1) (a := i) (lv' := [(0, .ref (za g b)), (1, .int (nI (p))), (2, .int (nI (q))), (3, .int (z)), (4, .int (nI (s + 1))), (5, .int (nI (i + 1))), (6, .int (nI (Fi (i)))), (7, .int (nI (shf z.toInt (Fi i))))]) dX10_shiftLevels_68 rfl (by decide) rfl ?_
            refine z_goto (tgt := 6) dX10_shiftLevels_71 (by decide) ?_
            refine z_sub (lv' := [(0, .ref (za g b)), (1, .int (nI (p))), (2, .int (nI (q))), (3, .int (z)), (4, .int (nI (s + 1))), (5, .int (nI (i + 1)))]) [0, 1, 2, 3, 4, 5] rfl ?_
            have e2 := hi i (by omega)
            rw [if_neg (by omega)] at e2
            refine ih (i + 1) (s + 1) _ _ (by omega) (by omega) (by omega) (hfi.tr (hf15.wk (by omega) (by omega))) ⟨hb, hc17, hn16, hc18, hc19⟩ (fun k hk => ?_) ?_
            · simp only [va_up]
              by_cases c1 : k = i
              · rw [if_pos c1, c1, if_pos (by omega), e2]
              · rw [if_neg c1, hi k hk]
                repeat' split
                all_goals first | rfl | (exfalso; omega)
            · rw [hs, zcnt_s hpi, if_pos (by rw [e2] at h_51_13; simpa using h_51_13)]
  refine z_iconst (v := nI 0) dX10_shiftLevels_0 rfl ?_
  refine z_istore (lv' := [(0, .ref (za g b)), (1, .int (nI (p))), (2, .int (nI (q))), (3, .int (z)), (4, .int (nI (0)))]) dX10_shiftLevels_1 (by decide) rfl ?_
  refine z_iload_n dX10_shiftLevels_3 rfl ?_
  refine z_istore (lv' := [(0, .ref (za g b)), (1, .int (nI (p))), (2, .int (nI (q))), (3, .int (z)), (4, .int (nI (0))), (5, .int (nI (p)))]) dX10_shiftLevels_4 (by decide) rfl ?_
  refine loop (q - p + 1) p 0 w F (by omega) (Nat.le_refl _) hpq zFr.rf hS (fun k hk => ?_) (by rw [Nat.sub_self]; rfl)
  rw [if_neg (by omega)]
set_option maxRecDepth 100000 in
set_option maxHeartbeats 4000000 in
theorem c_X10_insertCopies {g : zGT} {w : zW} {b n c tr : Nat} {F G : Nat → Nat} {L : List Nat} {p q r m : Nat} (h0 : zG0 g) (h1 : zST g) (hS : Sy g w b F n L G c tr) (hMo : Mo L n) (hpq : p ≤ q) (hqn : q ≤ n) (hqr : (q - p) * r = m) (hnm : n + m ≤ 200) : zCt g mX10_insertCopies (zR 3 0) [.ref (za g b), .int (nI (p)), .int (nI (q)), .int (nI (r))] w (fun o w' => o = .inl (some (.int (nI (n + m)))) ∧ zFr w w' b (b + 7) ∧ Sy g w' b (repF F p q m) (n + m) (L.map (insM q m)) G c tr) := by
  obtain ⟨hb, hw, hT, hM, hG⟩ := id hS
  have hn := hT.len
  have hcl := hG.len
  refine zCt_of (by decide +kernel) h0 [(0, .ref (za g b)), (1, .int (nI (p))), (2, .int (nI (q))), (3, .int (nI (r)))] rfl (Nat.le_of_ble_eq_true rfl) ?_
  have loop : ∀ (mm : Nat) (i : Nat) (wi : zW) (Fi : Nat → Nat), q + m - i < mm → (q ≤ i) → (i ≤ q + m) → (zFr w wi b (b + 7)) → (Sy g wi b Fi (n + m) (L.map (insM q m)) G c tr) → (∀ k, k < n + m → Fi k = if k < q then F k else if k < i then F (p + (k - q) % (q - p)) else insF F q m k) → zTr g mX10_insertCopies (zR 3 0) 0 0 18 [(0, .ref (za g b)), (1, .int (nI (p))), (2, .int (nI (q))), (3, .int (nI (r))), (4, .int (nI ((q) - (p)))), (5, .int (nI (i)))] [] wi (fun o w' => o = .inl (some (.int (nI (n + m)))) ∧ zFr w w' b (b + 7) ∧ Sy g w' b (repF F p q m) (n + m) (L.map (insM q m)) G c tr) := by
    intro mm
    induction mm with
    | zero => intros; omega
    | succ mm ih =>
      intro i wi Fi hm hqi hie hfi hSi hi
      obtain ⟨hbi, hwi, hTi, hMi, hGi⟩ := id hSi
      refine z_iload dX10_insertCopies_18 rfl ?_
      refine z_iload_n dX10_insertCopies_20 rfl ?_
      refine z_iload dX10_insertCopies_21 rfl ?_
      refine z_iload_n dX10_insertCopies_23 rfl ?_
      refine z_imul_n (a := (q) - (p)) (b := r) dX10_insertCopies_24 ?_
      refine z_eq (st' := [.int (nI (m)), .int (nI (q)), .int (nI (i))]) rfl (by rw [hqr]) rfl ?_
      refine z_iadd_n (a := q) (b := m) dX10_insertCopies_25 ?_
      refine z_icmp_ge_n (a := i) (b := (q) + (m)) (tgt := 56) dX10_insertCopies_26 (by decide) (by omega) (by omega) (fun h_26_1 => ?_) (fun h_26_1 => ?_)
      · refine z_aload_n dX10_insertCopies_56 rfl ?_
        refine z_getf (j := b) dX10_insertCopies_57 kF_RX10_12 rfl (by omega) hwi rfl ?_
        refine z_callE (As := []) (rest := []) (b := b + 1) (ci := 5) (v := some (.int (nI ((n + m))))) (R2 := zR 0 0) dX10_insertCopies_60 kV_RX10_104 rfl ⟨⟨by decide, by decide⟩, by decide, by decide⟩ (by omega) hTi.cell rfl rfl rfl (Nat.le_of_ble_eq_true rfl) rfl (tc_size h0 hTi) ?_
        refine z_iret dX10_insertCopies_63 rfl (by decide) (by decide) ?_
        have hfin : ∀ k, k < n + m → Fi k = repF F p q m k := fun k hk => by
          rw [hi k hk]; unfold repF insF
          rw [show i = q + m by omega]
          repeat' split
          all_goals first | rfl | (exfalso; omega)
        exact ⟨rfl, hfi, ⟨hb, hwi, hTi.congr (hfin), hMi, hGi⟩⟩
      · refine z_aload_n dX10_insertCopies_29 rfl ?_
        refine z_getf (j := b) dX10_insertCopies_30 kF_RX10_12 rfl (by omega) hwi rfl ?_
        refine z_iload dX10_insertCopies_33 rfl ?_
        refine z_aload_n dX10_insertCopies_35 rfl ?_
        refine z_getf (j := b) dX10_insertCopies_36 kF_RX10_12 rfl (by omega) hwi rfl ?_
        refine z_iload dX10_insertCopies_39 rfl ?_
        refine z_iload dX10_insertCopies_41 rfl ?_
        refine z_isub_n (a := i) (b := (q) - (p)) dX10_insertCopies_43 (by omega) ?_
        refine z_callE (As := [.int (nI ((i) - ((q) - (p))))]) (rest := [.int (nI (i)), .ref (za g (b + 1))]) (b := b + 1) (ci := 5) (v := some (.int (nI (Fi ((i) - ((q) - (p))))))) (R2 := zR 0 0) dX10_insertCopies_44 kV_RX10_157 rfl ⟨⟨by decide, by decide⟩, by decide, by decide⟩ (by omega) hTi.cell rfl rfl rfl (Nat.le_of_ble_eq_true rfl) rfl (tc_at (t := (i) - ((q) - (p))) h0 hTi (by omega)) ?_
        have h9 : Fi ((i) - ((q) - (p))) ≤ 9 := hTi.le (by omega)
        refine z_callR (As := [.int (nI (i)), .int (nI (Fi ((i) - ((q) - (p)))))]) (rest := []) (b := b + 1) (ci := 5) (v := none) (R2 := zR 0 0) dX10_insertCopies_47 kV_RX10_160 rfl ⟨⟨by decide, by decide⟩, by decide, by decide⟩ (by omega) hTi.cell rfl rfl rfl (Nat.le_of_ble_eq_true rfl) rfl (tc_put (t := i) (x := Fi ((i) - ((q) - (p)))) h0 hTi (by omega) (by omega)) (fun w4 pw4 => ?_)
        obtain ⟨hf5, hn6⟩ := pw4
        have hc7 := (hf5 (b) (by omega)).trans hwi
        have hc8 := hMi.fr hf5 (by omega)
        have hc9 := hGi.fr hf5 (by omega)
        refine z_iinc_n (n := 1) (a := i) (lv' := [(0, .ref (za g b)), (1, .int (nI (p))), (2, .int (nI (q))), (3, .int (nI (r))), (4, .int (nI ((q) - (p)))), (5, .int (nI (i + 1)))]) dX10_insertCopies_50 rfl (by decide) rfl ?_
        refine z_goto (tgt := 18) dX10_insertCopies_53 (by decide) ?_
        have hlen : 0 < q - p := by
          rcases Nat.eq_zero_or_pos (q - p) with e | e
          · rw [e, Nat.zero_mul] at hqr; omega
          · exact e
        refine ih (i + 1) _ _ (by omega) (by omega) (by omega) (hfi.tr (hf5.wk (by omega) (by omega))) ⟨hb, hc7, hn6, hc8, hc9⟩ (fun k hk => ?_)
        simp only [va_up]
        by_cases c1 : k = i
        · rw [if_pos c1, c1, if_neg (by omega), if_pos (by omega), hi _ (by omega)]
          by_cases c2 : i - (q - p) < q
          · rw [if_pos c2, Nat.mod_eq_of_lt (by omega)]; congr 1; omega
          · rw [if_neg c2, if_pos (by omega), show i - q = (i - (q - p) - q) + (q - p) by omega, Nat.add_mod_right]
        · rw [if_neg c1, hi k hk]
          by_cases c2 : k < q
          · rw [if_pos c2, if_pos c2]
          · rw [if_neg c2, if_neg c2]
            by_cases c3 : k < i
            · rw [if_pos c3, if_pos (by omega)]
            · rw [if_neg c3, if_neg (by omega)]
  refine z_iload_n dX10_insertCopies_0 rfl ?_
  refine z_iload_n dX10_insertCopies_1 rfl ?_
  refine z_isub_n (a := q) (b := p) dX10_insertCopies_2 (by omega) ?_
  refine z_istore (lv' := [(0, .ref (za g b)), (1, .int (nI (p))), (2, .int (nI (q))), (3, .int (nI (r))), (4, .int (nI ((q) - (p))))]) dX10_insertCopies_3 (by decide) rfl ?_
  refine z_aload_n dX10_insertCopies_5 rfl ?_
  refine z_iload_n dX10_insertCopies_6 rfl ?_
  refine z_iload dX10_insertCopies_7 rfl ?_
  refine z_iload_n dX10_insertCopies_9 rfl ?_
  refine z_imul_n (a := (q) - (p)) (b := r) dX10_insertCopies_10 ?_
  refine z_eq (st' := [.int (nI (m)), .int (nI (q)), .ref (za g b)]) rfl (by rw [hqr]) rfl ?_
  refine z_callR (As := [.int (nI (q)), .int (nI (m))]) (rest := []) (b := b) (ci := 10) (v := some (.int (nI (n + m)))) (R2 := zR 2 0) dX10_insertCopies_11 kV_RX10_122 rfl ⟨⟨by decide, by decide⟩, by decide, by decide⟩ (by omega) hw rfl rfl rfl (Nat.le_of_ble_eq_true rfl) rfl (c_X10_openTicks (p := q) (t := m) h0 h1 hS hMo (by omega) (by omega)) (fun w1 pw1 => ?_)
  obtain ⟨hfq2, hbq2, hwq2, hTq2, hMq2, hGq2⟩ := pw1
  refine z_pop dX10_insertCopies_14 rfl ?_
  refine z_iload_n dX10_insertCopies_15 rfl ?_
  refine z_istore (lv' := [(0, .ref (za g b)), (1, .int (nI (p))), (2, .int (nI (q))), (3, .int (nI (r))), (4, .int (nI ((q) - (p)))), (5, .int (nI (q)))]) dX10_insertCopies_16 (by decide) rfl ?_
  refine loop (q + m + 1) q w1 _ (by omega) (Nat.le_refl _) (by omega) hfq2 ⟨hb, hwq2, hTq2, hMq2, hGq2⟩ (fun k hk => ?_)
  unfold insF
  by_cases c2 : k < q
  · rw [if_pos c2, if_pos c2]
  · rw [if_neg c2, if_neg c2, if_neg c2]
set_option maxRecDepth 100000 in
set_option maxHeartbeats 4000000 in
theorem c_X10_insertClipboard {g : zGT} {w : zW} {b n c tr : Nat} {F G : Nat → Nat} {L : List Nat} {t : Nat} (h0 : zG0 g) (h1 : zST g) (hS : Sy g w b F n L G c tr) (hMo : Mo L n) (ht : t ≤ n) (hnc : n + c ≤ 200) : zCt g mX10_insertClipboard (zR 3 0) [.ref (za g b), .int (nI (t))] w (fun o w' => o = .inl (some (.int (nI (n + c)))) ∧ zFr w w' b (b + 7) ∧ Sy g w' b (pasF F G c t) (n + c) (L.map (insM t c)) G c tr) := by
  obtain ⟨hb, hw, hT, hM, hG⟩ := id hS
  have hn := hT.len
  have hcl := hG.len
  refine zCt_of (by decide +kernel) h0 [(0, .ref (za g b)), (1, .int (nI (t)))] rfl (Nat.le_of_ble_eq_true rfl) ?_
  have loop : ∀ (mm : Nat) (i : Nat) (wi : zW) (Fi : Nat → Nat), c - i < mm → (i ≤ c) → (zFr w wi b (b + 7)) → (Sy g wi b Fi (n + c) (L.map (insM t c)) G c tr) → (∀ k, k < n + c → Fi k = if t ≤ k ∧ k < t + i then G (k - t) else insF F t c k) → zTr g mX10_insertClipboard (zR 3 0) 0 0 15 [(0, .ref (za g b)), (1, .int (nI (t))), (2, .int (nI (i)))] [] wi (fun o w' => o = .inl (some (.int (nI (n + c)))) ∧ zFr w w' b (b + 7) ∧ Sy g w' b (pasF F G c t) (n + c) (L.map (insM t c)) G c tr) := by
    intro mm
    induction mm with
    | zero => intros; omega
    | succ mm ih =>
      intro i wi Fi hm hic hfi hSi hi
      obtain ⟨hbi, hwi, hTi, hMi, hGi⟩ := id hSi
      refine z_iload_n dX10_insertClipboard_15 rfl ?_
      refine z_aload_n dX10_insertClipboard_16 rfl ?_
      refine z_getf (j := b) dX10_insertClipboard_17 kF_RX10_25 rfl (by omega) hwi rfl ?_
      refine z_callE (As := []) (rest := [.int (nI (i))]) (b := b + 5) (ci := 5) (v := some (.int (nI (c)))) (R2 := zR 0 0) dX10_insertClipboard_20 kV_RX10_104 rfl ⟨⟨by decide, by decide⟩, by decide, by decide⟩ (by omega) hGi.cell rfl rfl rfl (Nat.le_of_ble_eq_true rfl) rfl (tc_size h0 hGi) ?_
      refine z_icmp_ge_n (a := i) (b := c) (tgt := 50) dX10_insertClipboard_23 (by decide) (by omega) (by omega) (fun h_23_2 => ?_) (fun h_23_2 => ?_)
      · refine z_aload_n dX10_insertClipboard_50 rfl ?_
        refine z_getf (j := b) dX10_insertClipboard_51 kF_RX10_12 rfl (by omega) hwi rfl ?_
        refine z_callE (As := []) (rest := []) (b := b + 1) (ci := 5) (v := some (.int (nI ((n + c))))) (R2 := zR 0 0) dX10_insertClipboard_54 kV_RX10_104 rfl ⟨⟨by decide, by decide⟩, by decide, by decide⟩ (by omega) hTi.cell rfl rfl rfl (Nat.le_of_ble_eq_true rfl) rfl (tc_size h0 hTi) ?_
        refine z_iret dX10_insertClipboard_57 rfl (by decide) (by decide) ?_
        have hfin : ∀ k, k < n + c → Fi k = pasF F G c t k := fun k hk => by
          rw [hi k hk]; unfold pasF insF
          rw [show i = c by omega]
          repeat' split
          all_goals first | rfl | (exfalso; omega)
        exact ⟨rfl, hfi, ⟨hb, hwi, hTi.congr (hfin), hMi, hGi⟩⟩
      · refine z_aload_n dX10_insertClipboard_26 rfl ?_
        refine z_getf (j := b) dX10_insertClipboard_27 kF_RX10_12 rfl (by omega) hwi rfl ?_
        refine z_iload_n dX10_insertClipboard_30 rfl ?_
        refine z_iload_n dX10_insertClipboard_31 rfl ?_
        refine z_iadd_n (a := t) (b := i) dX10_insertClipboard_32 ?_
        refine z_aload_n dX10_insertClipboard_33 rfl ?_
        refine z_getf (j := b) dX10_insertClipboard_34 kF_RX10_25 rfl (by omega) hwi rfl ?_
        refine z_iload_n dX10_insertClipboard_37 rfl ?_
        have h9g : G i ≤ 9 := hGi.le (by omega)
        refine z_callE (As := [.int (nI (i))]) (rest := [.int (nI ((t) + (i))), .ref (za g (b + 1))]) (b := b + 5) (ci := 5) (v := some (.int (nI (G (i))))) (R2 := zR 0 0) dX10_insertClipboard_38 kV_RX10_157 rfl ⟨⟨by decide, by decide⟩, by decide, by decide⟩ (by omega) hGi.cell rfl rfl rfl (Nat.le_of_ble_eq_true rfl) rfl (tc_at (t := i) h0 hGi (by omega)) ?_
        refine z_callR (As := [.int (nI ((t) + (i))), .int (nI (G (i)))]) (rest := []) (b := b + 1) (ci := 5) (v := none) (R2 := zR 0 0) dX10_insertClipboard_41 kV_RX10_160 rfl ⟨⟨by decide, by decide⟩, by decide, by decide⟩ (by omega) hTi.cell rfl rfl rfl (Nat.le_of_ble_eq_true rfl) rfl (tc_put (t := (t) + (i)) (x := G (i)) h0 hTi (by omega) (by omega)) (fun w5 pw5 => ?_)
        obtain ⟨hf6, hn7⟩ := pw5
        have hc8 := (hf6 (b) (by omega)).trans hwi
        have hc9 := hMi.fr hf6 (by omega)
        have hc10 := hGi.fr hf6 (by omega)
        refine z_iinc_n (n := 1) (a := i) (lv' := [(0, .ref (za g b)), (1, .int (nI (t))), (2, .int (nI (i + 1)))]) dX10_insertClipboard_44 rfl (by decide) rfl ?_
        refine z_goto (tgt := 15) dX10_insertClipboard_47 (by decide) ?_
        refine ih (i + 1) _ _ (by omega) (by omega) (hfi.tr (hf6.wk (by omega) (by omega))) ⟨hb, hc8, hn7, hc9, hc10⟩ (fun k hk => ?_)
        simp only [va_up]
        by_cases c1 : k = t + i
        · rw [if_pos c1, c1, if_pos (by omega)]; congr 1; omega
        · rw [if_neg c1, hi k hk]
          repeat' split
          all_goals first | rfl | (exfalso; omega)
  refine z_aload_n dX10_insertClipboard_0 rfl ?_
  refine z_iload_n dX10_insertClipboard_1 rfl ?_
  refine z_aload_n dX10_insertClipboard_2 rfl ?_
  refine z_getf (j := b) dX10_insertClipboard_3 kF_RX10_25 rfl (by omega) hw rfl ?_
  refine z_callE (As := []) (rest := [.int (nI (t)), .ref (za g b)]) (b := b + 5) (ci := 5) (v := some (.int (nI (c)))) (R2 := zR 0 0) dX10_insertClipboard_6 kV_RX10_104 rfl ⟨⟨by decide, by decide⟩, by decide, by decide⟩ (by omega) hG.cell rfl rfl rfl (Nat.le_of_ble_eq_true rfl) rfl (tc_size h0 hG) ?_
  refine z_callR (As := [.int (nI (t)), .int (nI (c))]) (rest := []) (b := b) (ci := 10) (v := some (.int (nI (n + c)))) (R2 := zR 2 0) dX10_insertClipboard_9 kV_RX10_122 rfl ⟨⟨by decide, by decide⟩, by decide, by decide⟩ (by omega) hw rfl rfl rfl (Nat.le_of_ble_eq_true rfl) rfl (c_X10_openTicks (p := t) (t := c) h0 h1 hS hMo (by omega) (by omega)) (fun w2 pw2 => ?_)
  obtain ⟨hfq3, hbq3, hwq3, hTq3, hMq3, hGq3⟩ := pw2
  refine z_pop dX10_insertClipboard_12 rfl ?_
  refine z_iconst (v := nI 0) dX10_insertClipboard_13 rfl ?_
  refine z_istore_n (lv' := [(0, .ref (za g b)), (1, .int (nI (t))), (2, .int (nI (0)))]) dX10_insertClipboard_14 (by decide) rfl ?_
  refine loop (c + 1) 0 w2 _ (by omega) (by omega) hfq3 ⟨hb, hwq3, hTq3, hMq3, hGq3⟩ (fun k hk => ?_)
  rw [if_neg (by omega)]
set_option maxRecDepth 100000 in
set_option maxHeartbeats 4000000 in
theorem c_X10_mark {g : zGT} {w : zW} {b n c tr : Nat} {F G : Nat → Nat} {L : List Nat} {t : Nat} (h0 : zG0 g) (h1 : zST g) (hS : Sy g w b F n L G c tr) (hMo : Mo L n) (ht : t ≤ n) (hroom : t ∉ L → L.length < 6) : zCt g mX10_mark (zR 3 0) [.ref (za g b), .int (nI (t))] w (fun o w' => o = .inl (some (.int (nI (if t ∈ L then 0 else 1)))) ∧ zFr w w' b (b + 7) ∧ Sy g w' b F n (if t ∈ L then L else lins t L) G c tr) := by
  obtain ⟨hb, hw, hT, hM, hG⟩ := id hS
  have hn := hT.len
  have hcl := hG.len
  refine zCt_of (by decide +kernel) h0 [(0, .ref (za g b)), (1, .int (nI (t)))] rfl (Nat.le_of_ble_eq_true rfl) ?_
  refine z_aload_n dX10_mark_0 rfl ?_
  refine z_getf (j := b) dX10_mark_1 kF_RX10_21 rfl (by omega) hw rfl ?_
  refine z_iload_n dX10_mark_4 rfl ?_
  refine z_callE (As := [.int (nI (t))]) (rest := []) (b := b + 3) (ci := 6) (v := some (.int (Int32.ofInt (lidx (fun j9 => decide ((j9 : Int) = ((nI (t))).toInt)) L 0)))) (R2 := zR 1 0) dX10_mark_5 kV_RX10_110 rfl ⟨⟨by decide, by decide⟩, by decide, by decide⟩ (by omega) hM.2.1 rfl rfl rfl (Nat.le_of_ble_eq_true rfl) rfl (c_X6_indexAt h0 hM) ?_
  refine z_iconst (v := -1) dX10_mark_8 rfl ?_
  have e_i := lidx_toInt (fun j9 => decide ((j9 : Int) = (nI t).toInt)) (L := L) hM.2.2.2.1
  have e_t := nI_toInt (n := t) (by omega)
  have e_m : lidx (fun j9 => decide ((j9 : Int) = (nI t).toInt)) L 0 = -1 ↔ t ∉ L := by have := lidx_mem2 (t := (nI t).toInt) (L := L) (by omega); rw [show (nI t).toInt.toNat = t by omega] at this; exact this
  have hk3 : (-1 : Int32).toInt = -1 := by decide
  refine z_icmp_eq_z (tgt := 14) dX10_mark_9 (by decide) (fun h_9_2 => ?_) (fun h_9_2 => ?_)
  · have e_1 : (-1 : Int32).toInt = -1 := rfl
    have hq : t ∉ L := e_m.mp (by omega)
    have hl6 := hroom hq
    refine z_aload_n dX10_mark_14 rfl ?_
    refine z_getf (j := b) dX10_mark_15 kF_RX10_21 rfl (by omega) hw rfl ?_
    refine z_iload_n dX10_mark_18 rfl ?_
    refine z_callR (As := [.int (nI (t))]) (rest := []) (b := b + 3) (ci := 6) (v := none) (R2 := zR 2 0) dX10_mark_19 kV_RX10_193 rfl ⟨⟨by decide, by decide⟩, by decide, by decide⟩ (by omega) hM.2.1 rfl rfl rfl (Nat.le_of_ble_eq_true rfl) rfl (c_X6_add (t := t) h0 hM (by omega) (by omega) hMo.mono) (fun w4 pw4 => ?_)
    obtain ⟨hf5, hn6⟩ := pw4
    have hc7 := (hf5 (b) (by omega)).trans hw
    have hc8 := hT.fr hf5 (by omega)
    have hc9 := hG.fr hf5 (by omega)
    refine z_iconst (v := nI 1) dX10_mark_22 rfl ?_
    refine z_iret dX10_mark_23 rfl (by decide) (by decide) ?_
    rw [if_neg hq, if_neg hq]; exact ⟨rfl, (hf5.wk (by omega) (by omega)), ⟨hb, hc7, hc8, hn6, hc9⟩⟩
  · refine z_iconst (v := nI 0) dX10_mark_12 rfl ?_
    refine z_iret dX10_mark_13 rfl (by decide) (by decide) ?_
    have q : t ∈ L := by
      by_cases c : t ∈ L
      · exact c
      · exfalso; have := e_m.mpr c; omega
    rw [if_pos q, if_pos q]; exact ⟨rfl, zFr.rf, ⟨hb, hw, hT, hM, hG⟩⟩
set_option maxRecDepth 100000 in
set_option maxHeartbeats 4000000 in
theorem c_X10_unmark {g : zGT} {w : zW} {b n c tr : Nat} {F G : Nat → Nat} {L : List Nat} {x : Int32} (h0 : zG0 g) (h1 : zST g) (hS : Sy g w b F n L G c tr) : zCt g mX10_unmark (zR 2 0) [.ref (za g b), .int (x)] w (fun o w' => o = .inl (some (.int (nI (if lidx (fun j9 => decide ((j9 : Int) = x.toInt)) L 0 < 0 then 0 else 1)))) ∧ zFr w w' b (b + 7) ∧ Sy g w' b F n (if lidx (fun j9 => decide ((j9 : Int) = x.toInt)) L 0 < 0 then L else L.eraseIdx (lidx (fun j9 => decide ((j9 : Int) = x.toInt)) L 0).toNat) G c tr) := by
  obtain ⟨hb, hw, hT, hM, hG⟩ := id hS
  have hn := hT.len
  have hcl := hG.len
  refine zCt_of (by decide +kernel) h0 [(0, .ref (za g b)), (1, .int (x))] rfl (Nat.le_of_ble_eq_true rfl) ?_
  refine z_aload_n dX10_unmark_0 rfl ?_
  refine z_getf (j := b) dX10_unmark_1 kF_RX10_21 rfl (by omega) hw rfl ?_
  refine z_iload_n dX10_unmark_4 rfl ?_
  refine z_callE (As := [.int (x)]) (rest := []) (b := b + 3) (ci := 6) (v := some (.int (Int32.ofInt (lidx (fun j9 => decide ((j9 : Int) = ((x)).toInt)) L 0)))) (R2 := zR 1 0) dX10_unmark_5 kV_RX10_110 rfl ⟨⟨by decide, by decide⟩, by decide, by decide⟩ (by omega) hM.2.1 rfl rfl rfl (Nat.le_of_ble_eq_true rfl) rfl (c_X6_indexAt h0 hM) ?_
  refine z_istore_n (lv' := [(0, .ref (za g b)), (1, .int (x)), (2, .int (Int32.ofInt (lidx (fun j9 => decide ((j9 : Int) = ((x)).toInt)) L 0)))]) dX10_unmark_8 (by decide) rfl ?_
  have e_i := lidx_toInt (fun j9 => decide ((j9 : Int) = x.toInt)) (L := L) hM.2.2.2.1
  have e_c := lidx_cases (fun j9 => decide ((j9 : Int) = x.toInt)) L
  refine z_iload_n dX10_unmark_9 rfl ?_
  refine z_iconst (v := -1) dX10_unmark_10 rfl ?_
  have hk3 : (-1 : Int32).toInt = -1 := by decide
  refine z_icmp_ne_z (tgt := 16) dX10_unmark_11 (by decide) (fun h_11_2 => ?_) (fun h_11_2 => ?_)
  · have e_1 : (-1 : Int32).toInt = -1 := rfl
    have hl6 := hM.2.2.2.1
    have e_p : 0 ≤ lidx (fun j9 => decide ((j9 : Int) = x.toInt)) L 0 ∧ (lidx (fun j9 => decide ((j9 : Int) = x.toInt)) L 0).toNat < L.length := by rcases e_c with q | ⟨i9, q1, q2, -⟩ <;> omega
    refine z_eq (lv' := [(0, .ref (za g b)), (1, .int (x)), (2, .int (nI ((lidx (fun j9 => decide ((j9 : Int) = x.toInt)) L 0).toNat)))]) rfl rfl (by rw [show Int32.ofInt (lidx (fun j9 => decide ((j9 : Int) = x.toInt)) L 0) = nI (lidx (fun j9 => decide ((j9 : Int) = x.toInt)) L 0).toNat from Int32.toInt_inj.mp (by rw [e_i, nI_toInt (by omega)]; omega)]) ?_
    refine z_aload_n dX10_unmark_16 rfl ?_
    refine z_getf (j := b) dX10_unmark_17 kF_RX10_21 rfl (by omega) hw rfl ?_
    refine z_iload_n dX10_unmark_20 rfl ?_
    refine z_callR (As := [.int (nI ((lidx (fun j9 => decide ((j9 : Int) = x.toInt)) L 0).toNat))]) (rest := []) (b := b + 3) (ci := 6) (v := none) (R2 := zR 1 0) dX10_unmark_21 kV_RX10_196 rfl ⟨⟨by decide, by decide⟩, by decide, by decide⟩ (by omega) hM.2.1 rfl rfl rfl (Nat.le_of_ble_eq_true rfl) rfl (c_X6_delete (d := (lidx (fun j9 => decide ((j9 : Int) = x.toInt)) L 0).toNat) h0 hM (by omega)) (fun w4 pw4 => ?_)
    obtain ⟨hf5, hn6⟩ := pw4
    have hc7 := (hf5 (b) (by omega)).trans hw
    have hc8 := hT.fr hf5 (by omega)
    have hc9 := hG.fr hf5 (by omega)
    refine z_iconst (v := nI 1) dX10_unmark_24 rfl ?_
    refine z_iret dX10_unmark_25 rfl (by decide) (by decide) ?_
    have q : ¬ lidx (fun j9 => decide ((j9 : Int) = x.toInt)) L 0 < 0 := by omega
    rw [if_neg q, if_neg q]; exact ⟨rfl, (hf5.wk (by omega) (by omega)), ⟨hb, hc7, hc8, hn6, hc9⟩⟩
  · refine z_iconst (v := nI 0) dX10_unmark_14 rfl ?_
    refine z_iret dX10_unmark_15 rfl (by decide) (by decide) ?_
    have e_1 : (-1 : Int32).toInt = -1 := rfl
    have q : lidx (fun j9 => decide ((j9 : Int) = x.toInt)) L 0 < 0 := by omega
    rw [if_pos q, if_pos q]; exact ⟨rfl, zFr.rf, ⟨hb, hw, hT, hM, hG⟩⟩
set_option maxRecDepth 100000 in
set_option maxHeartbeats 4000000 in
theorem c_X10_startOfBar {g : zGT} {w : zW} {b n c tr : Nat} {F G : Nat → Nat} {L : List Nat} {j : Nat} (h0 : zG0 g) (h1 : zST g) (hS : Sy g w b F n L G c tr) (hj : j ≤ L.length) : zCt g mX10_startOfBar (zR 1 0) [.ref (za g b), .int (nI (j))] w (fun o w' => o = .inl (some (.int (nI (barA L j)))) ∧ w' = w) := by
  obtain ⟨hb, hw, hT, hM, hG⟩ := id hS
  have hn := hT.len
  have hcl := hG.len
  have hl6 := hM.2.2.2.1
  refine zCt_of (by decide +kernel) h0 [(0, .ref (za g b)), (1, .int (nI (j)))] rfl (Nat.le_of_ble_eq_true rfl) ?_
  refine z_iload_n dX10_startOfBar_0 rfl ?_
  refine z_if_ne_n (a := j) (tgt := 8) dX10_startOfBar_1 (by decide) (by omega) (fun h_1_1 => ?_) (fun h_1_1 => ?_)
  · refine z_aload_n dX10_startOfBar_8 rfl ?_
    refine z_getf (j := b) dX10_startOfBar_9 kF_RX10_21 rfl (by omega) hw rfl ?_
    refine z_iload_n dX10_startOfBar_12 rfl ?_
    refine z_iconst (v := nI 1) dX10_startOfBar_13 rfl ?_
    refine z_isub_n (a := j) (b := 1) dX10_startOfBar_14 (by omega) ?_
    refine z_callE (As := [.int (nI ((j) - (1)))]) (rest := []) (b := b + 3) (ci := 6) (v := some (.int (nI (L.getD ((j) - (1)) 0)))) (R2 := zR 0 0) dX10_startOfBar_15 kV_RX10_202 rfl ⟨⟨by decide, by decide⟩, by decide, by decide⟩ (by omega) hM.2.1 rfl rfl rfl (Nat.le_of_ble_eq_true rfl) rfl (c_X6_at (t := (j) - (1)) h0 hM (by omega)) ?_
    refine z_iret dX10_startOfBar_18 rfl (by decide) (by decide) ?_
    first | exact ⟨by unfold barA; rw [if_pos (by omega)], rfl⟩ | exact ⟨by unfold barA; rw [if_neg (by omega)], rfl⟩
  · refine z_iconst (v := nI 0) dX10_startOfBar_4 rfl ?_
    refine z_goto (tgt := 18) dX10_startOfBar_5 (by decide) ?_
    refine z_iret dX10_startOfBar_18 rfl (by decide) (by decide) ?_
    first | exact ⟨by unfold barA; rw [if_pos (by omega)], rfl⟩ | exact ⟨by unfold barA; rw [if_neg (by omega)], rfl⟩
set_option maxRecDepth 100000 in
set_option maxHeartbeats 4000000 in
theorem c_X10_endOfBar {g : zGT} {w : zW} {b n c tr : Nat} {F G : Nat → Nat} {L : List Nat} {j : Nat} (h0 : zG0 g) (h1 : zST g) (hS : Sy g w b F n L G c tr) (hj : j ≤ L.length) : zCt g mX10_endOfBar (zR 1 0) [.ref (za g b), .int (nI (j))] w (fun o w' => o = .inl (some (.int (nI (barB L n j)))) ∧ w' = w) := by
  obtain ⟨hb, hw, hT, hM, hG⟩ := id hS
  have hn := hT.len
  have hcl := hG.len
  have hl6 := hM.2.2.2.1
  refine zCt_of (by decide +kernel) h0 [(0, .ref (za g b)), (1, .int (nI (j)))] rfl (Nat.le_of_ble_eq_true rfl) ?_
  refine z_iload_n dX10_endOfBar_0 rfl ?_
  refine z_aload_n dX10_endOfBar_1 rfl ?_
  refine z_getf (j := b) dX10_endOfBar_2 kF_RX10_21 rfl (by omega) hw rfl ?_
  refine z_callE (As := []) (rest := [.int (nI (j))]) (b := b + 3) (ci := 6) (v := some (.int (nI (L.length)))) (R2 := zR 0 0) dX10_endOfBar_5 kV_RX10_199 rfl ⟨⟨by decide, by decide⟩, by decide, by decide⟩ (by omega) hM.2.1 rfl rfl rfl (Nat.le_of_ble_eq_true rfl) rfl (c_X6_count h0 hM) ?_
  refine z_icmp_ge_n (a := j) (b := L.length) (tgt := 22) dX10_endOfBar_8 (by decide) (by omega) (by omega) (fun h_8_2 => ?_) (fun h_8_2 => ?_)
  · refine z_aload_n dX10_endOfBar_22 rfl ?_
    refine z_getf (j := b) dX10_endOfBar_23 kF_RX10_12 rfl (by omega) hw rfl ?_
    refine z_callE (As := []) (rest := []) (b := b + 1) (ci := 5) (v := some (.int (nI (n)))) (R2 := zR 0 0) dX10_endOfBar_26 kV_RX10_104 rfl ⟨⟨by decide, by decide⟩, by decide, by decide⟩ (by omega) hT.cell rfl rfl rfl (Nat.le_of_ble_eq_true rfl) rfl (tc_size h0 hT) ?_
    refine z_iret dX10_endOfBar_29 rfl (by decide) (by decide) ?_
    first | exact ⟨by unfold barB; rw [if_pos (by omega)], rfl⟩ | exact ⟨by unfold barB; rw [if_neg (by omega)], rfl⟩
  · refine z_aload_n dX10_endOfBar_11 rfl ?_
    refine z_getf (j := b) dX10_endOfBar_12 kF_RX10_21 rfl (by omega) hw rfl ?_
    refine z_iload_n dX10_endOfBar_15 rfl ?_
    refine z_callE (As := [.int (nI (j))]) (rest := []) (b := b + 3) (ci := 6) (v := some (.int (nI (L.getD (j) 0)))) (R2 := zR 0 0) dX10_endOfBar_16 kV_RX10_202 rfl ⟨⟨by decide, by decide⟩, by decide, by decide⟩ (by omega) hM.2.1 rfl rfl rfl (Nat.le_of_ble_eq_true rfl) rfl (c_X6_at (t := j) h0 hM (by omega)) ?_
    refine z_goto (tgt := 29) dX10_endOfBar_19 (by decide) ?_
    refine z_iret dX10_endOfBar_29 rfl (by decide) (by decide) ?_
    first | exact ⟨by unfold barB; rw [if_pos (by omega)], rfl⟩ | exact ⟨by unfold barB; rw [if_neg (by omega)], rfl⟩
set_option maxRecDepth 100000 in
set_option maxHeartbeats 4000000 in
theorem c_X10_lengthOfBar {g : zGT} {w : zW} {b n c tr : Nat} {F G : Nat → Nat} {L : List Nat} {j : Nat} (h0 : zG0 g) (h1 : zST g) (hS : Sy g w b F n L G c tr) (hMo : Mo L n) (hj : j ≤ L.length) : zCt g mX10_lengthOfBar (zR 2 0) [.ref (za g b), .int (nI (j))] w (fun o w' => o = .inl (some (.int (nI (barB L n j - barA L j)))) ∧ w' = w) := by
  obtain ⟨hb, hw, hT, hM, hG⟩ := id hS
  have hn := hT.len
  have hcl := hG.len
  have hbr := hMo.bar hj
  refine zCt_of (by decide +kernel) h0 [(0, .ref (za g b)), (1, .int (nI (j)))] rfl (Nat.le_of_ble_eq_true rfl) ?_
  refine z_aload_n dX10_lengthOfBar_0 rfl ?_
  refine z_iload_n dX10_lengthOfBar_1 rfl ?_
  refine z_callE (As := [.int (nI (j))]) (rest := []) (b := b) (ci := 10) (v := some (.int (nI (barB L n j)))) (R2 := zR 1 0) dX10_lengthOfBar_2 kV_RX10_203 rfl ⟨⟨by decide, by decide⟩, by decide, by decide⟩ (by omega) hw rfl rfl rfl (Nat.le_of_ble_eq_true rfl) rfl (c_X10_endOfBar h0 h1 hS hj) ?_
  refine z_aload_n dX10_lengthOfBar_5 rfl ?_
  refine z_iload_n dX10_lengthOfBar_6 rfl ?_
  refine z_callE (As := [.int (nI (j))]) (rest := [.int (nI (barB L n j))]) (b := b) (ci := 10) (v := some (.int (nI (barA L j)))) (R2 := zR 1 0) dX10_lengthOfBar_7 kV_RX10_206 rfl ⟨⟨by decide, by decide⟩, by decide, by decide⟩ (by omega) hw rfl rfl rfl (Nat.le_of_ble_eq_true rfl) rfl (c_X10_startOfBar h0 h1 hS hj) ?_
  refine z_isub_n (a := barB L n j) (b := barA L j) dX10_lengthOfBar_10 (by omega) ?_
  refine z_iret dX10_lengthOfBar_11 rfl (by decide) (by decide) ?_
  exact ⟨rfl, rfl⟩
set_option maxRecDepth 100000 in
set_option maxHeartbeats 4000000 in
theorem c_X10_sumOfBar {g : zGT} {w : zW} {b n c tr : Nat} {F G : Nat → Nat} {L : List Nat} {j : Nat} (h0 : zG0 g) (h1 : zST g) (hS : Sy g w b F n L G c tr) (hMo : Mo L n) (hj : j ≤ L.length) : zCt g mX10_sumOfBar (zR 2 0) [.ref (za g b), .int (nI (j))] w (fun o w' => o = .inl (some (.int (nI (tsum F (barA L j) (barB L n j - barA L j))))) ∧ w' = w) := by
  obtain ⟨hb, hw, hT, hM, hG⟩ := id hS
  have hn := hT.len
  have hcl := hG.len
  have hbr := hMo.bar hj
  refine zCt_of (by decide +kernel) h0 [(0, .ref (za g b)), (1, .int (nI (j)))] rfl (Nat.le_of_ble_eq_true rfl) ?_
  refine z_aload_n dX10_sumOfBar_0 rfl ?_
  refine z_getf (j := b) dX10_sumOfBar_1 kF_RX10_12 rfl (by omega) hw rfl ?_
  refine z_aload_n dX10_sumOfBar_4 rfl ?_
  refine z_iload_n dX10_sumOfBar_5 rfl ?_
  refine z_callE (As := [.int (nI (j))]) (rest := [.ref (za g (b + 1))]) (b := b) (ci := 10) (v := some (.int (nI (barA L j)))) (R2 := zR 1 0) dX10_sumOfBar_6 kV_RX10_206 rfl ⟨⟨by decide, by decide⟩, by decide, by decide⟩ (by omega) hw rfl rfl rfl (Nat.le_of_ble_eq_true rfl) rfl (c_X10_startOfBar h0 h1 hS hj) ?_
  refine z_aload_n dX10_sumOfBar_9 rfl ?_
  refine z_iload_n dX10_sumOfBar_10 rfl ?_
  refine z_callE (As := [.int (nI (j))]) (rest := [.int (nI (barA L j)), .ref (za g (b + 1))]) (b := b) (ci := 10) (v := some (.int (nI (barB L n j)))) (R2 := zR 1 0) dX10_sumOfBar_11 kV_RX10_203 rfl ⟨⟨by decide, by decide⟩, by decide, by decide⟩ (by omega) hw rfl rfl rfl (Nat.le_of_ble_eq_true rfl) rfl (c_X10_endOfBar h0 h1 hS hj) ?_
  refine z_callE (As := [.int (nI (barA L j)), .int (nI (barB L n j))]) (rest := []) (b := b + 1) (ci := 5) (v := some (.int (nI (tsum F (barA L j) ((barB L n j) - (barA L j)))))) (R2 := zR 1 0) dX10_sumOfBar_14 kV_RX10_209 rfl ⟨⟨by decide, by decide⟩, by decide, by decide⟩ (by omega) hT.cell rfl rfl rfl (Nat.le_of_ble_eq_true rfl) rfl (tc_sum (p := barA L j) (q := barB L n j) h0 hT (by omega) (by omega)) ?_
  refine z_iret dX10_sumOfBar_17 rfl (by decide) (by decide) ?_
  exact ⟨rfl, rfl⟩
set_option maxRecDepth 100000 in
set_option maxHeartbeats 4000000 in
theorem c_X10_hasBar {g : zGT} {w : zW} {b n c tr : Nat} {F G : Nat → Nat} {L : List Nat} {x : Int32} (h0 : zG0 g) (h1 : zST g) (hS : Sy g w b F n L G c tr) : zCt g mX10_hasBar (zR 1 0) [.ref (za g b), .int (x)] w (fun o w' => o = .inl (some (.int (nI (if 0 ≤ x.toInt ∧ x.toInt ≤ L.length then 1 else 0)))) ∧ w' = w) := by
  obtain ⟨hb, hw, hT, hM, hG⟩ := id hS
  have hn := hT.len
  have hcl := hG.len
  have hl6 := hM.2.2.2.1
  refine zCt_of (by decide +kernel) h0 [(0, .ref (za g b)), (1, .int (x))] rfl (Nat.le_of_ble_eq_true rfl) ?_
  refine z_iload_n dX10_hasBar_0 rfl ?_
  refine z_if_lt_z (tgt := 19) dX10_hasBar_1 (by decide) (fun h_1_1 => ?_) (fun h_1_1 => ?_)
  · refine z_iconst (v := nI 0) dX10_hasBar_19 rfl ?_
    refine z_zret (ty := .boolean) dX10_hasBar_20 rfl (by decide) (by decide) rfl ?_
    first | exact ⟨by rw [if_pos (by omega)], rfl⟩ | exact ⟨by rw [if_neg (by omega)], rfl⟩
  · refine z_iload_n dX10_hasBar_4 rfl ?_
    refine z_aload_n dX10_hasBar_5 rfl ?_
    refine z_getf (j := b) dX10_hasBar_6 kF_RX10_21 rfl (by omega) hw rfl ?_
    refine z_callE (As := []) (rest := [.int (x)]) (b := b + 3) (ci := 6) (v := some (.int (nI (L.length)))) (R2 := zR 0 0) dX10_hasBar_9 kV_RX10_199 rfl ⟨⟨by decide, by decide⟩, by decide, by decide⟩ (by omega) hM.2.1 rfl rfl rfl (Nat.le_of_ble_eq_true rfl) rfl (c_X6_count h0 hM) ?_
    have hk4 := nI_toInt (n := L.length) (by omega)
    refine z_icmp_gt_z (tgt := 19) dX10_hasBar_12 (by decide) (fun h_12_3 => ?_) (fun h_12_3 => ?_)
    · refine z_iconst (v := nI 0) dX10_hasBar_19 rfl ?_
      refine z_zret (ty := .boolean) dX10_hasBar_20 rfl (by decide) (by decide) rfl ?_
      first | exact ⟨by rw [if_pos (by omega)], rfl⟩ | exact ⟨by rw [if_neg (by omega)], rfl⟩
    · refine z_iconst (v := nI 1) dX10_hasBar_15 rfl ?_
      refine z_goto (tgt := 20) dX10_hasBar_16 (by decide) ?_
      refine z_zret (ty := .boolean) dX10_hasBar_20 rfl (by decide) (by decide) rfl ?_
      first | exact ⟨by rw [if_pos (by omega)], rfl⟩ | exact ⟨by rw [if_neg (by omega)], rfl⟩
theorem c_X10_hasBar_y {g : zGT} {w : zW} {b n c tr : Nat} {F G : Nat → Nat} {L : List Nat} {x : Int32} (h0 : zG0 g) (h1 : zST g) (hS : Sy g w b F n L G c tr) (e : (0 ≤ x.toInt ∧ x.toInt ≤ L.length)) : zCt g mX10_hasBar (zR 1 0) [.ref (za g b), .int x] w (fun o w' => o = .inl (some (.int (nI 1))) ∧ w' = w) := by
  have h := c_X10_hasBar (x := x) h0 h1 hS; rw [if_pos e] at h; exact h
theorem c_X10_hasBar_n {g : zGT} {w : zW} {b n c tr : Nat} {F G : Nat → Nat} {L : List Nat} {x : Int32} (h0 : zG0 g) (h1 : zST g) (hS : Sy g w b F n L G c tr) (e : ¬ (0 ≤ x.toInt ∧ x.toInt ≤ L.length)) : zCt g mX10_hasBar (zR 1 0) [.ref (za g b), .int x] w (fun o w' => o = .inl (some (.int (nI 0))) ∧ w' = w) := by
  have h := c_X10_hasBar (x := x) h0 h1 hS; rw [if_neg e] at h; exact h
set_option maxRecDepth 100000 in
set_option maxHeartbeats 4000000 in
theorem c_X10_become {g : zGT} {w : zW} {b n c tr : Nat} {F G : Nat → Nat} {L : List Nat} {d n2 c2 tr2 : Nat} {F2 G2 : Nat → Nat} {L2 : List Nat} (h0 : zG0 g) (h1 : zST g) (hS : Sy g w b F n L G c tr) (hD : Sy g w d F2 n2 L2 G2 c2 tr2) (hbd : b + 6 < d ∨ d + 6 < b) : zCt g mX10_become (zR 3 0) [.ref (za g b), .ref (za g d)] w (fun o w' => o = .inl none ∧ zFr w w' b (b + 7) ∧ Sy g w' b F2 n2 L2 G2 c2 tr2) := by
  obtain ⟨hb, hw, hT, hM, hG⟩ := id hS
  have hn := hT.len
  have hcl := hG.len
  obtain ⟨hb2, hw2, hT2, hM2, hG2⟩ := id hD
  refine zCt_of (by decide +kernel) h0 [(0, .ref (za g b)), (1, .ref (za g d))] rfl (Nat.le_of_ble_eq_true rfl) ?_
  refine z_aload_n dX10_become_0 rfl ?_
  refine z_getf (j := b) dX10_become_1 kF_RX10_12 rfl (by omega) hw rfl ?_
  refine z_aload_n dX10_become_4 rfl ?_
  refine z_getf (j := d) dX10_become_5 kF_RX10_12 rfl (by omega) hw2 rfl ?_
  refine z_callR (As := [.ref (za g (d + 1))]) (rest := []) (b := b + 1) (ci := 5) (v := none) (R2 := zR 2 0) dX10_become_8 kV_RX10_28 rfl ⟨⟨by decide, by decide⟩, by decide, by decide⟩ (by omega) hT.cell rfl rfl rfl (Nat.le_of_ble_eq_true rfl) rfl (tc_become h0 hT hT2 (by omega)) (fun w1 pw1 => ?_)
  obtain ⟨hf2, hn3⟩ := pw1
  have hc4 := (hf2 (b) (by omega)).trans hw
  have hc5 := hM.fr hf2 (by omega)
  have hc6 := hG.fr hf2 (by omega)
  have hc7 := (hf2 (d) (by omega)).trans hw2
  have hc8 := hT2.fr hf2 (by omega)
  have hc9 := hM2.fr hf2 (by omega)
  have hc10 := hG2.fr hf2 (by omega)
  refine z_aload_n dX10_become_11 rfl ?_
  refine z_getf (j := b) dX10_become_12 kF_RX10_21 rfl (by omega) hc4 rfl ?_
  refine z_aload_n dX10_become_15 rfl ?_
  refine z_getf (j := d) dX10_become_16 kF_RX10_21 rfl (by omega) hc7 rfl ?_
  refine z_callR (As := [.ref (za g (d + 3))]) (rest := []) (b := b + 3) (ci := 6) (v := none) (R2 := zR 2 0) dX10_become_19 kV_RX10_32 rfl ⟨⟨by decide, by decide⟩, by decide, by decide⟩ (by omega) hc5.2.1 rfl rfl rfl (Nat.le_of_ble_eq_true rfl) rfl (c_X6_become h0 hc5 hc9 (by omega)) (fun w11 pw11 => ?_)
  obtain ⟨hf12, hn13⟩ := pw11
  have hc14 := (hf12 (b) (by omega)).trans hc4
  have hc15 := hn3.fr hf12 (by omega)
  have hc16 := hc6.fr hf12 (by omega)
  have hc17 := (hf12 (d) (by omega)).trans hc7
  have hc18 := hc8.fr hf12 (by omega)
  have hc19 := hc9.fr hf12 (by omega)
  have hc20 := hc10.fr hf12 (by omega)
  refine z_aload_n dX10_become_22 rfl ?_
  refine z_getf (j := b) dX10_become_23 kF_RX10_25 rfl (by omega) hc14 rfl ?_
  refine z_aload_n dX10_become_26 rfl ?_
  refine z_getf (j := d) dX10_become_27 kF_RX10_25 rfl (by omega) hc17 rfl ?_
  refine z_callR (As := [.ref (za g (d + 5))]) (rest := []) (b := b + 5) (ci := 5) (v := none) (R2 := zR 2 0) dX10_become_30 kV_RX10_28 rfl ⟨⟨by decide, by decide⟩, by decide, by decide⟩ (by omega) hc16.cell rfl rfl rfl (Nat.le_of_ble_eq_true rfl) rfl (tc_become h0 hc16 hc20 (by omega)) (fun w21 pw21 => ?_)
  obtain ⟨hf22, hn23⟩ := pw21
  have hc24 := (hf22 (b) (by omega)).trans hc14
  have hc25 := hc15.fr hf22 (by omega)
  have hc26 := hn13.fr hf22 (by omega)
  have hc27 := (hf22 (d) (by omega)).trans hc17
  have hc28 := hc18.fr hf22 (by omega)
  have hc29 := hc19.fr hf22 (by omega)
  have hc30 := hc20.fr hf22 (by omega)
  refine z_aload_n dX10_become_33 rfl ?_
  refine z_aload_n dX10_become_34 rfl ?_
  refine z_getf (j := d) dX10_become_35 kF_RX10_35 rfl (by omega) hc27 rfl ?_
  refine z_putf (j := b) dX10_become_38 kF_RX10_35 zt_10_3 rfl (by omega) hc24 rfl rfl (Nat.le_of_ble_eq_true rfl) ?_
  obtain ⟨w31, ew32⟩ : ∃ wz : zW, wz = va_up w21 (b) (zO 10 [.ref (za g (b + 1)), .ref (za g (b + 3)), .ref (za g (b + 5)), .int (nI (tr2))]) := ⟨_, rfl⟩
  refine z_weq (w' := w31) ew32.symm ?_
  have hf33 : zFr w21 w31 (b) (b + 1) := by rw [ew32]; exact zFr.up (by omega)
  have hw34 : w31 (b) = zO 10 [.ref (za g (b + 1)), .ref (za g (b + 3)), .ref (za g (b + 5)), .int (nI (tr2))] := by rw [ew32, zup_s]
  have hc35 := hc25.fr hf33 (by omega)
  have hc36 := hc26.fr hf33 (by omega)
  have hc37 := hn23.fr hf33 (by omega)
  have hc38 := (hf33 (d) (by omega)).trans hc27
  have hc39 := hc28.fr hf33 (by omega)
  have hc40 := hc29.fr hf33 (by omega)
  have hc41 := hc30.fr hf33 (by omega)
  refine z_vret dX10_become_41 rfl (by decide) (by decide) ?_
  exact ⟨rfl, ((((hf2.wk (by omega) (by omega)).tr (hf12.wk (by omega) (by omega))).tr (hf22.wk (by omega) (by omega))).tr (hf33.wk (by omega) (by omega))), ⟨hb, hw34, hc35, hc36, hc37⟩⟩
set_option maxRecDepth 100000 in
set_option maxHeartbeats 4000000 in
theorem c_X10_replaceTimeline {g : zGT} {w : zW} {b n c tr : Nat} {F G : Nat → Nat} {L : List Nat} {d n2 : Nat} {F2 : Nat → Nat} (h0 : zG0 g) (h1 : zST g) (hS : Sy g w b F n L G c tr) (hD : LvT g w d F2 n2) (hbd : b + 6 < d ∨ d + 1 < b) : zCt g mX10_replaceTimeline (zR 3 0) [.ref (za g b), .ref (za g d)] w (fun o w' => o = .inl none ∧ zFr w w' b (b + 7) ∧ Sy g w' b F2 n2 ([] : List Nat) G c tr) := by
  obtain ⟨hb, hw, hT, hM, hG⟩ := id hS
  have hn := hT.len
  have hcl := hG.len
  refine zCt_of (by decide +kernel) h0 [(0, .ref (za g b)), (1, .ref (za g d))] rfl (Nat.le_of_ble_eq_true rfl) ?_
  refine z_aload_n dX10_replaceTimeline_0 rfl ?_
  refine z_getf (j := b) dX10_replaceTimeline_1 kF_RX10_12 rfl (by omega) hw rfl ?_
  refine z_aload_n dX10_replaceTimeline_4 rfl ?_
  refine z_callR (As := [.ref (za g d)]) (rest := []) (b := b + 1) (ci := 5) (v := none) (R2 := zR 2 0) dX10_replaceTimeline_5 kV_RX10_28 rfl ⟨⟨by decide, by decide⟩, by decide, by decide⟩ (by omega) hT.cell rfl rfl rfl (Nat.le_of_ble_eq_true rfl) rfl (tc_become h0 hT hD (by omega)) (fun w1 pw1 => ?_)
  obtain ⟨hf2, hn3⟩ := pw1
  have hc4 := (hf2 (b) (by omega)).trans hw
  have hc5 := hM.fr hf2 (by omega)
  have hc6 := hG.fr hf2 (by omega)
  have hc7 := hD.fr hf2 (by omega)
  refine z_aload_n dX10_replaceTimeline_8 rfl ?_
  refine z_getf (j := b) dX10_replaceTimeline_9 kF_RX10_21 rfl (by omega) hc4 rfl ?_
  refine z_callR (As := []) (rest := []) (b := b + 3) (ci := 6) (v := none) (R2 := zR 0 0) dX10_replaceTimeline_12 kV_RX10_39 rfl ⟨⟨by decide, by decide⟩, by decide, by decide⟩ (by omega) hc5.2.1 rfl rfl rfl (Nat.le_of_ble_eq_true rfl) rfl (c_X6_clear h0 hc5) (fun w8 pw8 => ?_)
  obtain ⟨hf9, hn10⟩ := pw8
  have hc11 := (hf9 (b) (by omega)).trans hc4
  have hc12 := hn3.fr hf9 (by omega)
  have hc13 := hc6.fr hf9 (by omega)
  have hc14 := hc7.fr hf9 (by omega)
  refine z_vret dX10_replaceTimeline_15 rfl (by decide) (by decide) ?_
  exact ⟨rfl, ((hf2.wk (by omega) (by omega)).tr (hf9.wk (by omega) (by omega))), ⟨hb, hc11, hc12, hn10, hc13⟩⟩
